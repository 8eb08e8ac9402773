section
-- ===== PART A: goes FIRST, ahead of the names: the tables' words, and 'selects' of the private methods out of them =====
/-- a private method of a class that the tables say can be made, by its rows of tables_1 -/
def lw_okq (q : MethodName × Nat) : Prop := (q.1.cls ≠ "java/lang/invoke/MethodHandle" ∧ q.1.cls ≠ "java/lang/invoke/VarHandle") ∧ Cond.instantiable q.1.cls q.2 ∈ tables_1 ∧ Cond.privateMethod q.1 ∈ tables_1 ∧ Cond.instanceMethod q.1 ∈ tables_1
theorem lw_p0 : lw_okq (⟨"PostGate$Checker", "addQuad", "()V"⟩, 11) := ⟨⟨by decide +kernel, by decide +kernel⟩, List.mem_of_getElem? (i := 101) (by decide +kernel), List.mem_of_getElem? (i := 505) (by decide +kernel), List.mem_of_getElem? (i := 506) (by decide +kernel)⟩
theorem lw_p1 : lw_okq (⟨"PostGate$Checker", "check", "(I)I"⟩, 11) := ⟨⟨by decide +kernel, by decide +kernel⟩, List.mem_of_getElem? (i := 101) (by decide +kernel), List.mem_of_getElem? (i := 518) (by decide +kernel), List.mem_of_getElem? (i := 519) (by decide +kernel)⟩
theorem lw_p2 : lw_okq (⟨"PostGate$Term", "readKind", "(LPostGate$Bytes;II)V"⟩, 6) := ⟨⟨by decide +kernel, by decide +kernel⟩, List.mem_of_getElem? (i := 111) (by decide +kernel), List.mem_of_getElem? (i := 608) (by decide +kernel), List.mem_of_getElem? (i := 609) (by decide +kernel)⟩
theorem lw_p3 : lw_okq (⟨"PostGate$Term", "setKind", "(II)V"⟩, 6) := ⟨⟨by decide +kernel, by decide +kernel⟩, List.mem_of_getElem? (i := 111) (by decide +kernel), List.mem_of_getElem? (i := 614) (by decide +kernel), List.mem_of_getElem? (i := 615) (by decide +kernel)⟩
theorem lw_p4 : lw_okq (⟨"PostGate$Term", "readQuad", "(LPostGate$Bytes;II)Z"⟩, 6) := ⟨⟨by decide +kernel, by decide +kernel⟩, List.mem_of_getElem? (i := 111) (by decide +kernel), List.mem_of_getElem? (i := 637) (by decide +kernel), List.mem_of_getElem? (i := 638) (by decide +kernel)⟩
theorem lw_p5 : lw_okq (⟨"PostGate$Checker", "match", "(LPostGate$Bytes;I)I"⟩, 11) := ⟨⟨by decide +kernel, by decide +kernel⟩, List.mem_of_getElem? (i := 101) (by decide +kernel), List.mem_of_getElem? (i := 648) (by decide +kernel), List.mem_of_getElem? (i := 649) (by decide +kernel)⟩
theorem lw_p6 : lw_okq (⟨"PostGate$Checker", "isCountedOut", "()Z"⟩, 11) := ⟨⟨by decide +kernel, by decide +kernel⟩, List.mem_of_getElem? (i := 101) (by decide +kernel), List.mem_of_getElem? (i := 655) (by decide +kernel), List.mem_of_getElem? (i := 656) (by decide +kernel)⟩
theorem lw_p7 : lw_okq (⟨"PostGate$Checker", "expand", "(LPostGate$Bytes;I)V"⟩, 11) := ⟨⟨by decide +kernel, by decide +kernel⟩, List.mem_of_getElem? (i := 101) (by decide +kernel), List.mem_of_getElem? (i := 659) (by decide +kernel), List.mem_of_getElem? (i := 660) (by decide +kernel)⟩
theorem lw_p8 : lw_okq (⟨"PostGate$Checker", "addMacro", "(LPostGate$Bytes;III)V"⟩, 11) := ⟨⟨by decide +kernel, by decide +kernel⟩, List.mem_of_getElem? (i := 101) (by decide +kernel), List.mem_of_getElem? (i := 664) (by decide +kernel), List.mem_of_getElem? (i := 665) (by decide +kernel)⟩
theorem lw_p9 : lw_okq (⟨"PostGate$Checker", "pieceOf", "(II)LPostGate$Bytes;"⟩, 11) := ⟨⟨by decide +kernel, by decide +kernel⟩, List.mem_of_getElem? (i := 101) (by decide +kernel), List.mem_of_getElem? (i := 673) (by decide +kernel), List.mem_of_getElem? (i := 674) (by decide +kernel)⟩
theorem lw_p10 : lw_okq (⟨"PostGate$Checker", "look", "(LPostGate$Term;LPostGate$Bytes;)I"⟩, 11) := ⟨⟨by decide +kernel, by decide +kernel⟩, List.mem_of_getElem? (i := 101) (by decide +kernel), List.mem_of_getElem? (i := 686) (by decide +kernel), List.mem_of_getElem? (i := 687) (by decide +kernel)⟩
theorem lw_p11 : lw_okq (⟨"PostGate$Checker", "lookAtExchanges", "(LPostGate$Bytes;I)I"⟩, 11) := ⟨⟨by decide +kernel, by decide +kernel⟩, List.mem_of_getElem? (i := 101) (by decide +kernel), List.mem_of_getElem? (i := 690) (by decide +kernel), List.mem_of_getElem? (i := 691) (by decide +kernel)⟩
theorem lw_p12 : lw_okq (⟨"PostGate$Checker", "follow", "(LPostGate$Bytes;I)I"⟩, 11) := ⟨⟨by decide +kernel, by decide +kernel⟩, List.mem_of_getElem? (i := 101) (by decide +kernel), List.mem_of_getElem? (i := 703) (by decide +kernel), List.mem_of_getElem? (i := 704) (by decide +kernel)⟩
theorem lw_p13 : lw_okq (⟨"PostGate$Message", "takeLine", "(II)Z"⟩, 6) := ⟨⟨by decide +kernel, by decide +kernel⟩, List.mem_of_getElem? (i := 343) (by decide +kernel), List.mem_of_getElem? (i := 722) (by decide +kernel), List.mem_of_getElem? (i := 723) (by decide +kernel)⟩
theorem lw_p14 : lw_okq (⟨"PostGate$Sealer", "isWell", "(LPostGate$Message;I)Z"⟩, 17) := ⟨⟨by decide +kernel, by decide +kernel⟩, List.mem_of_getElem? (i := 180) (by decide +kernel), List.mem_of_getElem? (i := 767) (by decide +kernel), List.mem_of_getElem? (i := 768) (by decide +kernel)⟩
theorem lw_p15 : lw_okq (⟨"PostGate$Tags", "take", "(II)Z"⟩, 5) := ⟨⟨by decide +kernel, by decide +kernel⟩, List.mem_of_getElem? (i := 186) (by decide +kernel), List.mem_of_getElem? (i := 779) (by decide +kernel), List.mem_of_getElem? (i := 780) (by decide +kernel)⟩
def lw_privs_1 : List (MethodName × Nat) := [(⟨"PostGate$Checker", "addQuad", "()V"⟩, 11), (⟨"PostGate$Checker", "check", "(I)I"⟩, 11), (⟨"PostGate$Term", "readKind", "(LPostGate$Bytes;II)V"⟩, 6), (⟨"PostGate$Term", "setKind", "(II)V"⟩, 6), (⟨"PostGate$Term", "readQuad", "(LPostGate$Bytes;II)Z"⟩, 6), (⟨"PostGate$Checker", "match", "(LPostGate$Bytes;I)I"⟩, 11), (⟨"PostGate$Checker", "isCountedOut", "()Z"⟩, 11), (⟨"PostGate$Checker", "expand", "(LPostGate$Bytes;I)V"⟩, 11), (⟨"PostGate$Checker", "addMacro", "(LPostGate$Bytes;III)V"⟩, 11), (⟨"PostGate$Checker", "pieceOf", "(II)LPostGate$Bytes;"⟩, 11), (⟨"PostGate$Checker", "look", "(LPostGate$Term;LPostGate$Bytes;)I"⟩, 11), (⟨"PostGate$Checker", "lookAtExchanges", "(LPostGate$Bytes;I)I"⟩, 11), (⟨"PostGate$Checker", "follow", "(LPostGate$Bytes;I)I"⟩, 11), (⟨"PostGate$Message", "takeLine", "(II)Z"⟩, 6), (⟨"PostGate$Sealer", "isWell", "(LPostGate$Message;I)Z"⟩, 17), (⟨"PostGate$Tags", "take", "(II)Z"⟩, 5)]
theorem lw_r1 : ∀ q ∈ lw_privs_1, lw_okq q := List.forall_mem_cons.mpr ⟨lw_p0, List.forall_mem_cons.mpr ⟨lw_p1, List.forall_mem_cons.mpr ⟨lw_p2, List.forall_mem_cons.mpr ⟨lw_p3, List.forall_mem_cons.mpr ⟨lw_p4, List.forall_mem_cons.mpr ⟨lw_p5, List.forall_mem_cons.mpr ⟨lw_p6, List.forall_mem_cons.mpr ⟨lw_p7, List.forall_mem_cons.mpr ⟨lw_p8, List.forall_mem_cons.mpr ⟨lw_p9, List.forall_mem_cons.mpr ⟨lw_p10, List.forall_mem_cons.mpr ⟨lw_p11, List.forall_mem_cons.mpr ⟨lw_p12, List.forall_mem_cons.mpr ⟨lw_p13, List.forall_mem_cons.mpr ⟨lw_p14, List.forall_mem_cons.mpr ⟨lw_p15, fun _ h => absurd h List.not_mem_nil⟩⟩⟩⟩⟩⟩⟩⟩⟩⟩⟩⟩⟩⟩⟩⟩
theorem lw_p16 : lw_okq (⟨"PostGate$Tags", "isKnown", "(II)Z"⟩, 5) := ⟨⟨by decide +kernel, by decide +kernel⟩, List.mem_of_getElem? (i := 186) (by decide +kernel), List.mem_of_getElem? (i := 785) (by decide +kernel), List.mem_of_getElem? (i := 786) (by decide +kernel)⟩
theorem lw_p17 : lw_okq (⟨"PostGate$Tags", "rowOf", "(Ljava/lang/String;)I"⟩, 5) := ⟨⟨by decide +kernel, by decide +kernel⟩, List.mem_of_getElem? (i := 186) (by decide +kernel), List.mem_of_getElem? (i := 795) (by decide +kernel), List.mem_of_getElem? (i := 796) (by decide +kernel)⟩
theorem lw_p18 : lw_okq (⟨"PostGate$Sealer", "isFieldList", "()Z"⟩, 17) := ⟨⟨by decide +kernel, by decide +kernel⟩, List.mem_of_getElem? (i := 180) (by decide +kernel), List.mem_of_getElem? (i := 830) (by decide +kernel), List.mem_of_getElem? (i := 831) (by decide +kernel)⟩
theorem lw_p19 : lw_okq (⟨"PostGate$Sealer", "isFrom", "(II)Z"⟩, 17) := ⟨⟨by decide +kernel, by decide +kernel⟩, List.mem_of_getElem? (i := 180) (by decide +kernel), List.mem_of_getElem? (i := 839) (by decide +kernel), List.mem_of_getElem? (i := 840) (by decide +kernel)⟩
theorem lw_p20 : lw_okq (⟨"PostGate$Sealer", "readPlainness", "()Z"⟩, 17) := ⟨⟨by decide +kernel, by decide +kernel⟩, List.mem_of_getElem? (i := 180) (by decide +kernel), List.mem_of_getElem? (i := 846) (by decide +kernel), List.mem_of_getElem? (i := 847) (by decide +kernel)⟩
theorem lw_p21 : lw_okq (⟨"PostGate$Sealer", "isNumberOrMisses", "(Ljava/lang/String;)Z"⟩, 17) := ⟨⟨by decide +kernel, by decide +kernel⟩, List.mem_of_getElem? (i := 180) (by decide +kernel), List.mem_of_getElem? (i := 862) (by decide +kernel), List.mem_of_getElem? (i := 863) (by decide +kernel)⟩
theorem lw_p22 : lw_okq (⟨"PostGate$Sealer", "readKey", "()I"⟩, 17) := ⟨⟨by decide +kernel, by decide +kernel⟩, List.mem_of_getElem? (i := 180) (by decide +kernel), List.mem_of_getElem? (i := 875) (by decide +kernel), List.mem_of_getElem? (i := 876) (by decide +kernel)⟩
theorem lw_p23 : lw_okq (⟨"PostGate$Sealer", "isBodyRight", "(LPostGate$Message;)Z"⟩, 17) := ⟨⟨by decide +kernel, by decide +kernel⟩, List.mem_of_getElem? (i := 180) (by decide +kernel), List.mem_of_getElem? (i := 895) (by decide +kernel), List.mem_of_getElem? (i := 896) (by decide +kernel)⟩
theorem lw_p24 : lw_okq (⟨"PostGate$Message", "addRelaxedLines", "(LPostGate$Bytes;)V"⟩, 6) := ⟨⟨by decide +kernel, by decide +kernel⟩, List.mem_of_getElem? (i := 343) (by decide +kernel), List.mem_of_getElem? (i := 903) (by decide +kernel), List.mem_of_getElem? (i := 904) (by decide +kernel)⟩
theorem lw_p25 : lw_okq (⟨"PostGate$Sha", "mix", "()V"⟩, 3) := ⟨⟨by decide +kernel, by decide +kernel⟩, List.mem_of_getElem? (i := 213) (by decide +kernel), List.mem_of_getElem? (i := 921) (by decide +kernel), List.mem_of_getElem? (i := 922) (by decide +kernel)⟩
theorem lw_p26 : lw_okq (⟨"PostGate$Sha", "step", "(I)V"⟩, 3) := ⟨⟨by decide +kernel, by decide +kernel⟩, List.mem_of_getElem? (i := 213) (by decide +kernel), List.mem_of_getElem? (i := 925) (by decide +kernel), List.mem_of_getElem? (i := 926) (by decide +kernel)⟩
theorem lw_p27 : lw_okq (⟨"PostGate$Sealer", "addListed", "(LPostGate$Message;)V"⟩, 17) := ⟨⟨by decide +kernel, by decide +kernel⟩, List.mem_of_getElem? (i := 180) (by decide +kernel), List.mem_of_getElem? (i := 934) (by decide +kernel), List.mem_of_getElem? (i := 935) (by decide +kernel)⟩
theorem lw_p28 : lw_okq (⟨"PostGate$Sealer", "addLast", "(LPostGate$Message;II)V"⟩, 17) := ⟨⟨by decide +kernel, by decide +kernel⟩, List.mem_of_getElem? (i := 180) (by decide +kernel), List.mem_of_getElem? (i := 938) (by decide +kernel), List.mem_of_getElem? (i := 939) (by decide +kernel)⟩
theorem lw_p29 : lw_okq (⟨"PostGate$Message", "addRelaxedValue", "(LPostGate$Bytes;III)V"⟩, 6) := ⟨⟨by decide +kernel, by decide +kernel⟩, List.mem_of_getElem? (i := 343) (by decide +kernel), List.mem_of_getElem? (i := 950) (by decide +kernel), List.mem_of_getElem? (i := 951) (by decide +kernel)⟩
theorem lw_p30 : lw_okq (⟨"PostGate$Sealer", "addOwn", "(LPostGate$Message;I)V"⟩, 17) := ⟨⟨by decide +kernel, by decide +kernel⟩, List.mem_of_getElem? (i := 180) (by decide +kernel), List.mem_of_getElem? (i := 955) (by decide +kernel), List.mem_of_getElem? (i := 956) (by decide +kernel)⟩
theorem lw_p31 : lw_okq (⟨"PostGate$Sealer", "isSigned", "()Z"⟩, 17) := ⟨⟨by decide +kernel, by decide +kernel⟩, List.mem_of_getElem? (i := 180) (by decide +kernel), List.mem_of_getElem? (i := 963) (by decide +kernel), List.mem_of_getElem? (i := 964) (by decide +kernel)⟩
def lw_privs_2 : List (MethodName × Nat) := [(⟨"PostGate$Tags", "isKnown", "(II)Z"⟩, 5), (⟨"PostGate$Tags", "rowOf", "(Ljava/lang/String;)I"⟩, 5), (⟨"PostGate$Sealer", "isFieldList", "()Z"⟩, 17), (⟨"PostGate$Sealer", "isFrom", "(II)Z"⟩, 17), (⟨"PostGate$Sealer", "readPlainness", "()Z"⟩, 17), (⟨"PostGate$Sealer", "isNumberOrMisses", "(Ljava/lang/String;)Z"⟩, 17), (⟨"PostGate$Sealer", "readKey", "()I"⟩, 17), (⟨"PostGate$Sealer", "isBodyRight", "(LPostGate$Message;)Z"⟩, 17), (⟨"PostGate$Message", "addRelaxedLines", "(LPostGate$Bytes;)V"⟩, 6), (⟨"PostGate$Sha", "mix", "()V"⟩, 3), (⟨"PostGate$Sha", "step", "(I)V"⟩, 3), (⟨"PostGate$Sealer", "addListed", "(LPostGate$Message;)V"⟩, 17), (⟨"PostGate$Sealer", "addLast", "(LPostGate$Message;II)V"⟩, 17), (⟨"PostGate$Message", "addRelaxedValue", "(LPostGate$Bytes;III)V"⟩, 6), (⟨"PostGate$Sealer", "addOwn", "(LPostGate$Message;I)V"⟩, 17), (⟨"PostGate$Sealer", "isSigned", "()Z"⟩, 17)]
theorem lw_r2 : ∀ q ∈ lw_privs_2, lw_okq q := List.forall_mem_cons.mpr ⟨lw_p16, List.forall_mem_cons.mpr ⟨lw_p17, List.forall_mem_cons.mpr ⟨lw_p18, List.forall_mem_cons.mpr ⟨lw_p19, List.forall_mem_cons.mpr ⟨lw_p20, List.forall_mem_cons.mpr ⟨lw_p21, List.forall_mem_cons.mpr ⟨lw_p22, List.forall_mem_cons.mpr ⟨lw_p23, List.forall_mem_cons.mpr ⟨lw_p24, List.forall_mem_cons.mpr ⟨lw_p25, List.forall_mem_cons.mpr ⟨lw_p26, List.forall_mem_cons.mpr ⟨lw_p27, List.forall_mem_cons.mpr ⟨lw_p28, List.forall_mem_cons.mpr ⟨lw_p29, List.forall_mem_cons.mpr ⟨lw_p30, List.forall_mem_cons.mpr ⟨lw_p31, fun _ h => absurd h List.not_mem_nil⟩⟩⟩⟩⟩⟩⟩⟩⟩⟩⟩⟩⟩⟩⟩⟩
theorem lw_p32 : lw_okq (⟨"PostGate$Sealer", "writeDue", "()V"⟩, 17) := ⟨⟨by decide +kernel, by decide +kernel⟩, List.mem_of_getElem? (i := 180) (by decide +kernel), List.mem_of_getElem? (i := 967) (by decide +kernel), List.mem_of_getElem? (i := 968) (by decide +kernel)⟩
theorem lw_p33 : lw_okq (⟨"PostGate$Power", "setTwo", "()V"⟩, 5) := ⟨⟨by decide +kernel, by decide +kernel⟩, List.mem_of_getElem? (i := 230) (by decide +kernel), List.mem_of_getElem? (i := 985) (by decide +kernel), List.mem_of_getElem? (i := 986) (by decide +kernel)⟩
theorem lw_p34 : lw_okq (⟨"PostGate$Power", "reduce", "()V"⟩, 5) := ⟨⟨by decide +kernel, by decide +kernel⟩, List.mem_of_getElem? (i := 230) (by decide +kernel), List.mem_of_getElem? (i := 989) (by decide +kernel), List.mem_of_getElem? (i := 990) (by decide +kernel)⟩
theorem lw_p35 : lw_okq (⟨"PostGate$Power", "multiply", "([J[J)V"⟩, 5) := ⟨⟨by decide +kernel, by decide +kernel⟩, List.mem_of_getElem? (i := 230) (by decide +kernel), List.mem_of_getElem? (i := 994) (by decide +kernel), List.mem_of_getElem? (i := 995) (by decide +kernel)⟩
theorem lw_p36 : lw_okq (⟨"PostGate$Power", "addTimes", "([JJ)V"⟩, 5) := ⟨⟨by decide +kernel, by decide +kernel⟩, List.mem_of_getElem? (i := 230) (by decide +kernel), List.mem_of_getElem? (i := 998) (by decide +kernel), List.mem_of_getElem? (i := 999) (by decide +kernel)⟩
theorem lw_p37 : lw_okq (⟨"PostGate$Policy", "readDomain", "(LPostGate$Message;I)Z"⟩, 7) := ⟨⟨by decide +kernel, by decide +kernel⟩, List.mem_of_getElem? (i := 306) (by decide +kernel), List.mem_of_getElem? (i := 1048) (by decide +kernel), List.mem_of_getElem? (i := 1049) (by decide +kernel)⟩
theorem lw_p38 : lw_okq (⟨"PostGate$Policy", "setPlace", "(I)V"⟩, 7) := ⟨⟨by decide +kernel, by decide +kernel⟩, List.mem_of_getElem? (i := 306) (by decide +kernel), List.mem_of_getElem? (i := 1059) (by decide +kernel), List.mem_of_getElem? (i := 1060) (by decide +kernel)⟩
theorem lw_p39 : lw_okq (⟨"PostGate$Policy", "readRecord", "(LPostGate$Bytes;Z)I"⟩, 7) := ⟨⟨by decide +kernel, by decide +kernel⟩, List.mem_of_getElem? (i := 306) (by decide +kernel), List.mem_of_getElem? (i := 1071) (by decide +kernel), List.mem_of_getElem? (i := 1072) (by decide +kernel)⟩
theorem lw_p40 : lw_okq (⟨"PostGate$Policy", "wantOf", "(Ljava/lang/String;)I"⟩, 7) := ⟨⟨by decide +kernel, by decide +kernel⟩, List.mem_of_getElem? (i := 306) (by decide +kernel), List.mem_of_getElem? (i := 1077) (by decide +kernel), List.mem_of_getElem? (i := 1078) (by decide +kernel)⟩
theorem lw_p41 : lw_okq (⟨"PostGate", "hasAlignedSeal", "(I)Z"⟩, 9) := ⟨⟨by decide +kernel, by decide +kernel⟩, List.mem_of_getElem? (i := 26) (by decide +kernel), List.mem_of_getElem? (i := 1101) (by decide +kernel), List.mem_of_getElem? (i := 1102) (by decide +kernel)⟩
theorem lw_p42 : lw_okq (⟨"PostGateModel", "used", "()I"⟩, 59) := ⟨⟨by decide +kernel, by decide +kernel⟩, List.mem_of_getElem? (i := 1116) (by decide +kernel), List.mem_of_getElem? (i := 1403) (by decide +kernel), List.mem_of_getElem? (i := 1404) (by decide +kernel)⟩
theorem lw_p43 : lw_okq (⟨"PostGateModel", "check", "(LPostGateModel$Text;I)I"⟩, 59) := ⟨⟨by decide +kernel, by decide +kernel⟩, List.mem_of_getElem? (i := 1116) (by decide +kernel), List.mem_of_getElem? (i := 1443) (by decide +kernel), List.mem_of_getElem? (i := 1444) (by decide +kernel)⟩
theorem lw_p44 : lw_okq (⟨"PostGateModel", "isTrouble", "(LPostGateModel$Text;)Z"⟩, 59) := ⟨⟨by decide +kernel, by decide +kernel⟩, List.mem_of_getElem? (i := 1116) (by decide +kernel), List.mem_of_getElem? (i := 1447) (by decide +kernel), List.mem_of_getElem? (i := 1448) (by decide +kernel)⟩
theorem lw_p45 : lw_okq (⟨"PostGateModel", "isOf", "(IILPostGateModel$Text;)Z"⟩, 59) := ⟨⟨by decide +kernel, by decide +kernel⟩, List.mem_of_getElem? (i := 1116) (by decide +kernel), List.mem_of_getElem? (i := 1451) (by decide +kernel), List.mem_of_getElem? (i := 1452) (by decide +kernel)⟩
theorem lw_p46 : lw_okq (⟨"PostGateModel", "recordOf", "(LPostGateModel$Text;)I"⟩, 59) := ⟨⟨by decide +kernel, by decide +kernel⟩, List.mem_of_getElem? (i := 1116) (by decide +kernel), List.mem_of_getElem? (i := 1463) (by decide +kernel), List.mem_of_getElem? (i := 1464) (by decide +kernel)⟩
theorem lw_p47 : lw_okq (⟨"PostGateModel", "readTerm", "([BII)V"⟩, 59) := ⟨⟨by decide +kernel, by decide +kernel⟩, List.mem_of_getElem? (i := 1116) (by decide +kernel), List.mem_of_getElem? (i := 1483) (by decide +kernel), List.mem_of_getElem? (i := 1484) (by decide +kernel)⟩
def lw_privs_3 : List (MethodName × Nat) := [(⟨"PostGate$Sealer", "writeDue", "()V"⟩, 17), (⟨"PostGate$Power", "setTwo", "()V"⟩, 5), (⟨"PostGate$Power", "reduce", "()V"⟩, 5), (⟨"PostGate$Power", "multiply", "([J[J)V"⟩, 5), (⟨"PostGate$Power", "addTimes", "([JJ)V"⟩, 5), (⟨"PostGate$Policy", "readDomain", "(LPostGate$Message;I)Z"⟩, 7), (⟨"PostGate$Policy", "setPlace", "(I)V"⟩, 7), (⟨"PostGate$Policy", "readRecord", "(LPostGate$Bytes;Z)I"⟩, 7), (⟨"PostGate$Policy", "wantOf", "(Ljava/lang/String;)I"⟩, 7), (⟨"PostGate", "hasAlignedSeal", "(I)Z"⟩, 9), (⟨"PostGateModel", "used", "()I"⟩, 59), (⟨"PostGateModel", "check", "(LPostGateModel$Text;I)I"⟩, 59), (⟨"PostGateModel", "isTrouble", "(LPostGateModel$Text;)Z"⟩, 59), (⟨"PostGateModel", "isOf", "(IILPostGateModel$Text;)Z"⟩, 59), (⟨"PostGateModel", "recordOf", "(LPostGateModel$Text;)I"⟩, 59), (⟨"PostGateModel", "readTerm", "([BII)V"⟩, 59)]
theorem lw_r3 : ∀ q ∈ lw_privs_3, lw_okq q := List.forall_mem_cons.mpr ⟨lw_p32, List.forall_mem_cons.mpr ⟨lw_p33, List.forall_mem_cons.mpr ⟨lw_p34, List.forall_mem_cons.mpr ⟨lw_p35, List.forall_mem_cons.mpr ⟨lw_p36, List.forall_mem_cons.mpr ⟨lw_p37, List.forall_mem_cons.mpr ⟨lw_p38, List.forall_mem_cons.mpr ⟨lw_p39, List.forall_mem_cons.mpr ⟨lw_p40, List.forall_mem_cons.mpr ⟨lw_p41, List.forall_mem_cons.mpr ⟨lw_p42, List.forall_mem_cons.mpr ⟨lw_p43, List.forall_mem_cons.mpr ⟨lw_p44, List.forall_mem_cons.mpr ⟨lw_p45, List.forall_mem_cons.mpr ⟨lw_p46, List.forall_mem_cons.mpr ⟨lw_p47, fun _ h => absurd h List.not_mem_nil⟩⟩⟩⟩⟩⟩⟩⟩⟩⟩⟩⟩⟩⟩⟩⟩
theorem lw_p48 : lw_okq (⟨"PostGateModel", "isQuad", "([BII)Z"⟩, 59) := ⟨⟨by decide +kernel, by decide +kernel⟩, List.mem_of_getElem? (i := 1116) (by decide +kernel), List.mem_of_getElem? (i := 1506) (by decide +kernel), List.mem_of_getElem? (i := 1507) (by decide +kernel)⟩
theorem lw_p49 : lw_okq (⟨"PostGateModel", "readHost", "([BIII)V"⟩, 59) := ⟨⟨by decide +kernel, by decide +kernel⟩, List.mem_of_getElem? (i := 1116) (by decide +kernel), List.mem_of_getElem? (i := 1511) (by decide +kernel), List.mem_of_getElem? (i := 1512) (by decide +kernel)⟩
theorem lw_p50 : lw_okq (⟨"PostGateModel", "matches", "(LPostGateModel$Text;LPostGateModel$Text;I)I"⟩, 59) := ⟨⟨by decide +kernel, by decide +kernel⟩, List.mem_of_getElem? (i := 1116) (by decide +kernel), List.mem_of_getElem? (i := 1517) (by decide +kernel), List.mem_of_getElem? (i := 1518) (by decide +kernel)⟩
theorem lw_p51 : lw_okq (⟨"PostGateModel", "isSender", "(II)Z"⟩, 59) := ⟨⟨by decide +kernel, by decide +kernel⟩, List.mem_of_getElem? (i := 1116) (by decide +kernel), List.mem_of_getElem? (i := 1521) (by decide +kernel), List.mem_of_getElem? (i := 1522) (by decide +kernel)⟩
theorem lw_p52 : lw_okq (⟨"PostGateModel", "expand", "([BIILPostGateModel$Text;LPostGateModel$Text;)V"⟩, 59) := ⟨⟨by decide +kernel, by decide +kernel⟩, List.mem_of_getElem? (i := 1116) (by decide +kernel), List.mem_of_getElem? (i := 1525) (by decide +kernel), List.mem_of_getElem? (i := 1526) (by decide +kernel)⟩
theorem lw_p53 : lw_okq (⟨"PostGateModel", "macroValue", "([BIILPostGateModel$Text;LPostGateModel$Text;)V"⟩, 59) := ⟨⟨by decide +kernel, by decide +kernel⟩, List.mem_of_getElem? (i := 1116) (by decide +kernel), List.mem_of_getElem? (i := 1536) (by decide +kernel), List.mem_of_getElem? (i := 1537) (by decide +kernel)⟩
theorem lw_p54 : lw_okq (⟨"PostGateModel", "part", "(ILPostGateModel$Text;)V"⟩, 59) := ⟨⟨by decide +kernel, by decide +kernel⟩, List.mem_of_getElem? (i := 1116) (by decide +kernel), List.mem_of_getElem? (i := 1541) (by decide +kernel), List.mem_of_getElem? (i := 1542) (by decide +kernel)⟩
theorem lw_p55 : lw_okq (⟨"PostGateModel", "exchanges", "(LPostGateModel$Text;I)I"⟩, 59) := ⟨⟨by decide +kernel, by decide +kernel⟩, List.mem_of_getElem? (i := 1116) (by decide +kernel), List.mem_of_getElem? (i := 1545) (by decide +kernel), List.mem_of_getElem? (i := 1546) (by decide +kernel)⟩
theorem lw_p56 : lw_okq (⟨"PostGateModel", "isNamed", "(ILjava/lang/String;)Z"⟩, 59) := ⟨⟨by decide +kernel, by decide +kernel⟩, List.mem_of_getElem? (i := 1116) (by decide +kernel), List.mem_of_getElem? (i := 1574) (by decide +kernel), List.mem_of_getElem? (i := 1575) (by decide +kernel)⟩
theorem lw_p57 : lw_okq (⟨"PostGateModel", "bodyPlain", "(Z)V"⟩, 59) := ⟨⟨by decide +kernel, by decide +kernel⟩, List.mem_of_getElem? (i := 1116) (by decide +kernel), List.mem_of_getElem? (i := 1588) (by decide +kernel), List.mem_of_getElem? (i := 1589) (by decide +kernel)⟩
theorem lw_p58 : lw_okq (⟨"PostGateModel", "tell", "(LPostGateModel$Text;)I"⟩, 59) := ⟨⟨by decide +kernel, by decide +kernel⟩, List.mem_of_getElem? (i := 1116) (by decide +kernel), List.mem_of_getElem? (i := 1592) (by decide +kernel), List.mem_of_getElem? (i := 1593) (by decide +kernel)⟩
theorem lw_p59 : lw_okq (⟨"PostGateModel", "fieldPlain", "(IZII)V"⟩, 59) := ⟨⟨by decide +kernel, by decide +kernel⟩, List.mem_of_getElem? (i := 1116) (by decide +kernel), List.mem_of_getElem? (i := 1600) (by decide +kernel), List.mem_of_getElem? (i := 1601) (by decide +kernel)⟩
theorem lw_p60 : lw_okq (⟨"PostGateModel", "valueEnd", "(I)I"⟩, 59) := ⟨⟨by decide +kernel, by decide +kernel⟩, List.mem_of_getElem? (i := 1116) (by decide +kernel), List.mem_of_getElem? (i := 1604) (by decide +kernel), List.mem_of_getElem? (i := 1605) (by decide +kernel)⟩
theorem lw_p61 : lw_okq (⟨"PostGateModel", "sealAt", "(I)I"⟩, 59) := ⟨⟨by decide +kernel, by decide +kernel⟩, List.mem_of_getElem? (i := 1116) (by decide +kernel), List.mem_of_getElem? (i := 1612) (by decide +kernel), List.mem_of_getElem? (i := 1613) (by decide +kernel)⟩
theorem lw_p62 : lw_okq (⟨"PostGateModel", "sealOf", "(II)I"⟩, 59) := ⟨⟨by decide +kernel, by decide +kernel⟩, List.mem_of_getElem? (i := 1116) (by decide +kernel), List.mem_of_getElem? (i := 1616) (by decide +kernel), List.mem_of_getElem? (i := 1617) (by decide +kernel)⟩
theorem lw_p63 : lw_okq (⟨"PostGateModel", "isWell", "()Z"⟩, 59) := ⟨⟨by decide +kernel, by decide +kernel⟩, List.mem_of_getElem? (i := 1116) (by decide +kernel), List.mem_of_getElem? (i := 1623) (by decide +kernel), List.mem_of_getElem? (i := 1624) (by decide +kernel)⟩
def lw_privs_4 : List (MethodName × Nat) := [(⟨"PostGateModel", "isQuad", "([BII)Z"⟩, 59), (⟨"PostGateModel", "readHost", "([BIII)V"⟩, 59), (⟨"PostGateModel", "matches", "(LPostGateModel$Text;LPostGateModel$Text;I)I"⟩, 59), (⟨"PostGateModel", "isSender", "(II)Z"⟩, 59), (⟨"PostGateModel", "expand", "([BIILPostGateModel$Text;LPostGateModel$Text;)V"⟩, 59), (⟨"PostGateModel", "macroValue", "([BIILPostGateModel$Text;LPostGateModel$Text;)V"⟩, 59), (⟨"PostGateModel", "part", "(ILPostGateModel$Text;)V"⟩, 59), (⟨"PostGateModel", "exchanges", "(LPostGateModel$Text;I)I"⟩, 59), (⟨"PostGateModel", "isNamed", "(ILjava/lang/String;)Z"⟩, 59), (⟨"PostGateModel", "bodyPlain", "(Z)V"⟩, 59), (⟨"PostGateModel", "tell", "(LPostGateModel$Text;)I"⟩, 59), (⟨"PostGateModel", "fieldPlain", "(IZII)V"⟩, 59), (⟨"PostGateModel", "valueEnd", "(I)I"⟩, 59), (⟨"PostGateModel", "sealAt", "(I)I"⟩, 59), (⟨"PostGateModel", "sealOf", "(II)I"⟩, 59), (⟨"PostGateModel", "isWell", "()Z"⟩, 59)]
theorem lw_r4 : ∀ q ∈ lw_privs_4, lw_okq q := List.forall_mem_cons.mpr ⟨lw_p48, List.forall_mem_cons.mpr ⟨lw_p49, List.forall_mem_cons.mpr ⟨lw_p50, List.forall_mem_cons.mpr ⟨lw_p51, List.forall_mem_cons.mpr ⟨lw_p52, List.forall_mem_cons.mpr ⟨lw_p53, List.forall_mem_cons.mpr ⟨lw_p54, List.forall_mem_cons.mpr ⟨lw_p55, List.forall_mem_cons.mpr ⟨lw_p56, List.forall_mem_cons.mpr ⟨lw_p57, List.forall_mem_cons.mpr ⟨lw_p58, List.forall_mem_cons.mpr ⟨lw_p59, List.forall_mem_cons.mpr ⟨lw_p60, List.forall_mem_cons.mpr ⟨lw_p61, List.forall_mem_cons.mpr ⟨lw_p62, List.forall_mem_cons.mpr ⟨lw_p63, fun _ h => absurd h List.not_mem_nil⟩⟩⟩⟩⟩⟩⟩⟩⟩⟩⟩⟩⟩⟩⟩⟩
theorem lw_p64 : lw_okq (⟨"PostGateModel$Tags", "isSame", "(III)Z"⟩, 5) := ⟨⟨by decide +kernel, by decide +kernel⟩, List.mem_of_getElem? (i := 1140) (by decide +kernel), List.mem_of_getElem? (i := 1633) (by decide +kernel), List.mem_of_getElem? (i := 1634) (by decide +kernel)⟩
theorem lw_p65 : lw_okq (⟨"PostGateModel", "isTagName", "(Ljava/lang/String;)Z"⟩, 59) := ⟨⟨by decide +kernel, by decide +kernel⟩, List.mem_of_getElem? (i := 1116) (by decide +kernel), List.mem_of_getElem? (i := 1650) (by decide +kernel), List.mem_of_getElem? (i := 1651) (by decide +kernel)⟩
theorem lw_p66 : lw_okq (⟨"PostGateModel", "isNames", "()Z"⟩, 59) := ⟨⟨by decide +kernel, by decide +kernel⟩, List.mem_of_getElem? (i := 1116) (by decide +kernel), List.mem_of_getElem? (i := 1664) (by decide +kernel), List.mem_of_getElem? (i := 1665) (by decide +kernel)⟩
theorem lw_p67 : lw_okq (⟨"PostGateModel", "isWay", "()Z"⟩, 59) := ⟨⟨by decide +kernel, by decide +kernel⟩, List.mem_of_getElem? (i := 1116) (by decide +kernel), List.mem_of_getElem? (i := 1670) (by decide +kernel), List.mem_of_getElem? (i := 1671) (by decide +kernel)⟩
theorem lw_p68 : lw_okq (⟨"PostGateModel", "keyOf", "()I"⟩, 59) := ⟨⟨by decide +kernel, by decide +kernel⟩, List.mem_of_getElem? (i := 1116) (by decide +kernel), List.mem_of_getElem? (i := 1684) (by decide +kernel), List.mem_of_getElem? (i := 1685) (by decide +kernel)⟩
theorem lw_p69 : lw_okq (⟨"PostGateModel", "digest", "([BI[B)V"⟩, 59) := ⟨⟨by decide +kernel, by decide +kernel⟩, List.mem_of_getElem? (i := 1116) (by decide +kernel), List.mem_of_getElem? (i := 1692) (by decide +kernel), List.mem_of_getElem? (i := 1693) (by decide +kernel)⟩
theorem lw_p70 : lw_okq (⟨"PostGateModel$Hash", "round", "()V"⟩, 7) := ⟨⟨by decide +kernel, by decide +kernel⟩, List.mem_of_getElem? (i := 1167) (by decide +kernel), List.mem_of_getElem? (i := 1709) (by decide +kernel), List.mem_of_getElem? (i := 1710) (by decide +kernel)⟩
theorem lw_p71 : lw_okq (⟨"PostGateModel", "fieldsPlain", "(I)V"⟩, 59) := ⟨⟨by decide +kernel, by decide +kernel⟩, List.mem_of_getElem? (i := 1116) (by decide +kernel), List.mem_of_getElem? (i := 1728) (by decide +kernel), List.mem_of_getElem? (i := 1729) (by decide +kernel)⟩
theorem lw_p72 : lw_okq (⟨"PostGateModel", "isAlikeTo", "(I[BII)Z"⟩, 59) := ⟨⟨by decide +kernel, by decide +kernel⟩, List.mem_of_getElem? (i := 1116) (by decide +kernel), List.mem_of_getElem? (i := 1735) (by decide +kernel), List.mem_of_getElem? (i := 1736) (by decide +kernel)⟩
theorem lw_p73 : lw_okq (⟨"PostGateModel", "isPower", "()Z"⟩, 59) := ⟨⟨by decide +kernel, by decide +kernel⟩, List.mem_of_getElem? (i := 1116) (by decide +kernel), List.mem_of_getElem? (i := 1739) (by decide +kernel), List.mem_of_getElem? (i := 1740) (by decide +kernel)⟩
theorem lw_p74 : lw_okq (⟨"PostGateModel", "remainder", "([II[I)V"⟩, 59) := ⟨⟨by decide +kernel, by decide +kernel⟩, List.mem_of_getElem? (i := 1116) (by decide +kernel), List.mem_of_getElem? (i := 1749) (by decide +kernel), List.mem_of_getElem? (i := 1750) (by decide +kernel)⟩
theorem lw_p75 : lw_okq (⟨"PostGateModel", "times", "([I)V"⟩, 59) := ⟨⟨by decide +kernel, by decide +kernel⟩, List.mem_of_getElem? (i := 1116) (by decide +kernel), List.mem_of_getElem? (i := 1757) (by decide +kernel), List.mem_of_getElem? (i := 1758) (by decide +kernel)⟩
theorem lw_p76 : lw_okq (⟨"PostGateModel", "houseOf", "(LPostGateModel$Text;LPostGateModel$Text;)V"⟩, 59) := ⟨⟨by decide +kernel, by decide +kernel⟩, List.mem_of_getElem? (i := 1116) (by decide +kernel), List.mem_of_getElem? (i := 1773) (by decide +kernel), List.mem_of_getElem? (i := 1774) (by decide +kernel)⟩
theorem lw_p77 : lw_okq (⟨"PostGateModel", "isSeen", "()Z"⟩, 59) := ⟨⟨by decide +kernel, by decide +kernel⟩, List.mem_of_getElem? (i := 1116) (by decide +kernel), List.mem_of_getElem? (i := 1786) (by decide +kernel), List.mem_of_getElem? (i := 1787) (by decide +kernel)⟩
theorem lw_p78 : lw_okq (⟨"PostGateModel", "wantedOf", "(LPostGateModel$Text;)I"⟩, 59) := ⟨⟨by decide +kernel, by decide +kernel⟩, List.mem_of_getElem? (i := 1116) (by decide +kernel), List.mem_of_getElem? (i := 1795) (by decide +kernel), List.mem_of_getElem? (i := 1796) (by decide +kernel)⟩
theorem lw_p79 : lw_okq (⟨"PostGateModel", "isAligned", "(LPostGateModel$Text;LPostGateModel$Text;Z)Z"⟩, 59) := ⟨⟨by decide +kernel, by decide +kernel⟩, List.mem_of_getElem? (i := 1116) (by decide +kernel), List.mem_of_getElem? (i := 1810) (by decide +kernel), List.mem_of_getElem? (i := 1811) (by decide +kernel)⟩
def lw_privs_5 : List (MethodName × Nat) := [(⟨"PostGateModel$Tags", "isSame", "(III)Z"⟩, 5), (⟨"PostGateModel", "isTagName", "(Ljava/lang/String;)Z"⟩, 59), (⟨"PostGateModel", "isNames", "()Z"⟩, 59), (⟨"PostGateModel", "isWay", "()Z"⟩, 59), (⟨"PostGateModel", "keyOf", "()I"⟩, 59), (⟨"PostGateModel", "digest", "([BI[B)V"⟩, 59), (⟨"PostGateModel$Hash", "round", "()V"⟩, 7), (⟨"PostGateModel", "fieldsPlain", "(I)V"⟩, 59), (⟨"PostGateModel", "isAlikeTo", "(I[BII)Z"⟩, 59), (⟨"PostGateModel", "isPower", "()Z"⟩, 59), (⟨"PostGateModel", "remainder", "([II[I)V"⟩, 59), (⟨"PostGateModel", "times", "([I)V"⟩, 59), (⟨"PostGateModel", "houseOf", "(LPostGateModel$Text;LPostGateModel$Text;)V"⟩, 59), (⟨"PostGateModel", "isSeen", "()Z"⟩, 59), (⟨"PostGateModel", "wantedOf", "(LPostGateModel$Text;)I"⟩, 59), (⟨"PostGateModel", "isAligned", "(LPostGateModel$Text;LPostGateModel$Text;Z)Z"⟩, 59)]
theorem lw_r5 : ∀ q ∈ lw_privs_5, lw_okq q := List.forall_mem_cons.mpr ⟨lw_p64, List.forall_mem_cons.mpr ⟨lw_p65, List.forall_mem_cons.mpr ⟨lw_p66, List.forall_mem_cons.mpr ⟨lw_p67, List.forall_mem_cons.mpr ⟨lw_p68, List.forall_mem_cons.mpr ⟨lw_p69, List.forall_mem_cons.mpr ⟨lw_p70, List.forall_mem_cons.mpr ⟨lw_p71, List.forall_mem_cons.mpr ⟨lw_p72, List.forall_mem_cons.mpr ⟨lw_p73, List.forall_mem_cons.mpr ⟨lw_p74, List.forall_mem_cons.mpr ⟨lw_p75, List.forall_mem_cons.mpr ⟨lw_p76, List.forall_mem_cons.mpr ⟨lw_p77, List.forall_mem_cons.mpr ⟨lw_p78, List.forall_mem_cons.mpr ⟨lw_p79, fun _ h => absurd h List.not_mem_nil⟩⟩⟩⟩⟩⟩⟩⟩⟩⟩⟩⟩⟩⟩⟩⟩
def lw_privs : List (MethodName × Nat) := lw_privs_1 ++ (lw_privs_2 ++ (lw_privs_3 ++ (lw_privs_4 ++ (lw_privs_5))))
def lw_tbl : List Cond := k2_sels lw_privs ++ tables_1
theorem lw_privs_ok : ∀ q ∈ lw_privs, lw_okq q := by
  show ∀ q ∈ lw_privs_1 ++ (lw_privs_2 ++ (lw_privs_3 ++ (lw_privs_4 ++ (lw_privs_5)))), lw_okq q
  exact List.forall_mem_append.mpr ⟨lw_r1, List.forall_mem_append.mpr ⟨lw_r2, List.forall_mem_append.mpr ⟨lw_r3, List.forall_mem_append.mpr ⟨lw_r4, lw_r5⟩⟩⟩⟩
end
section
def RL : String := "PostGateLaw"
abbrev cL_law : ByteArray := code
def RX0 : String := "PostGate$Bytes"
def TX0 : u_T := fun k => match k with
  | 0 => ("PostGate$Bytes", "row", "[I", true)
  | 1 => ("PostGate$Bytes", "size", "I", false)
  | _ => ("PostGate$Bytes", "over", "Z", false)
def tyX0 : Nat → FieldType := fun k => match k with
  | 0 => .array .int
  | 1 => .int
  | _ => .boolean
abbrev wsX00 : List Cond := u_ws RX0 TX0 3
theorem nmX0 : ∀ a, a < 3 → ∀ b, b < 3 → a ≠ b → (TX0 a).2.1 ≠ (TX0 b).2.1 := by decide +kernel
theorem tyX0_ok : ∀ k, k < 3 → parseFieldDescriptor (TX0 k).2.2.1 = some (tyX0 k) := by decide +kernel
def RX1 : String := "PostGate$Checker"
def TX1 : u_T := fun k => match k with
  | 0 => ("PostGate$Checker", "directory", "LPostGate$Directory;", true)
  | 1 => ("PostGate$Checker", "whole", "LPostGate$Bytes;", true)
  | 2 => ("PostGate$Checker", "local", "LPostGate$Bytes;", true)
  | 3 => ("PostGate$Checker", "domain", "LPostGate$Bytes;", true)
  | 4 => ("PostGate$Checker", "quad", "LPostGate$Bytes;", true)
  | 5 => ("PostGate$Checker", "names", "[LPostGate$Bytes;", true)
  | 6 => ("PostGate$Checker", "terms", "[LPostGate$Term;", true)
  | 7 => ("PostGate$Checker", "address", "I", false)
  | 8 => ("PostGate$Checker", "isReady", "Z", false)
  | 9 => ("PostGate$Checker", "counted", "I", false)
  | _ => ("PostGate$Checker", "voids", "I", false)
def tyX1 : Nat → FieldType := fun k => match k with
  | 0 => .object "PostGate$Directory"
  | 1 => .object "PostGate$Bytes"
  | 2 => .object "PostGate$Bytes"
  | 3 => .object "PostGate$Bytes"
  | 4 => .object "PostGate$Bytes"
  | 5 => .array (.object "PostGate$Bytes")
  | 6 => .array (.object "PostGate$Term")
  | 7 => .int
  | 8 => .boolean
  | 9 => .int
  | _ => .int
abbrev wsX10 : List Cond := u_ws RX1 TX1 11
theorem nmX1 : ∀ a, a < 11 → ∀ b, b < 11 → a ≠ b → (TX1 a).2.1 ≠ (TX1 b).2.1 := by decide +kernel
theorem tyX1_ok : ∀ k, k < 11 → parseFieldDescriptor (TX1 k).2.2.1 = some (tyX1 k) := by decide +kernel
def RX2 : String := "PostGate$Directory"
def TX2 : u_T := fun k => match k with
  | 0 => ("PostGate$Directory", "entries", "[LPostGate$Entry;", true)
  | _ => ("PostGate$Directory", "count", "I", false)
def tyX2 : Nat → FieldType := fun k => match k with
  | 0 => .array (.object "PostGate$Entry")
  | _ => .int
abbrev wsX20 : List Cond := u_ws RX2 TX2 2
theorem nmX2 : ∀ a, a < 2 → ∀ b, b < 2 → a ≠ b → (TX2 a).2.1 ≠ (TX2 b).2.1 := by decide +kernel
theorem tyX2_ok : ∀ k, k < 2 → parseFieldDescriptor (TX2 k).2.2.1 = some (tyX2 k) := by decide +kernel
def RX3 : String := "PostGate$Entry"
def TX3 : u_T := fun k => match k with
  | 0 => ("PostGate$Entry", "name", "LPostGate$Bytes;", true)
  | 1 => ("PostGate$Entry", "value", "LPostGate$Bytes;", true)
  | 2 => ("PostGate$Entry", "sort", "I", false)
  | _ => ("PostGate$Entry", "address", "I", false)
def tyX3 : Nat → FieldType := fun k => match k with
  | 0 => .object "PostGate$Bytes"
  | 1 => .object "PostGate$Bytes"
  | 2 => .int
  | _ => .int
abbrev wsX30 : List Cond := u_ws RX3 TX3 4
theorem nmX3 : ∀ a, a < 4 → ∀ b, b < 4 → a ≠ b → (TX3 a).2.1 ≠ (TX3 b).2.1 := by decide +kernel
theorem tyX3_ok : ∀ k, k < 4 → parseFieldDescriptor (TX3 k).2.2.1 = some (tyX3 k) := by decide +kernel
def RX4 : String := "PostGate$Message"
def TX4 : u_T := fun k => match k with
  | 0 => ("PostGate$Message", "text", "LPostGate$Bytes;", true)
  | 1 => ("PostGate$Message", "starts", "[I", true)
  | 2 => ("PostGate$Message", "colons", "[I", true)
  | 3 => ("PostGate$Message", "ends", "[I", true)
  | 4 => ("PostGate$Message", "count", "I", false)
  | _ => ("PostGate$Message", "bodyStart", "I", false)
def tyX4 : Nat → FieldType := fun k => match k with
  | 0 => .object "PostGate$Bytes"
  | 1 => .array .int
  | 2 => .array .int
  | 3 => .array .int
  | 4 => .int
  | _ => .int
abbrev wsX40 : List Cond := u_ws RX4 TX4 6
theorem nmX4 : ∀ a, a < 6 → ∀ b, b < 6 → a ≠ b → (TX4 a).2.1 ≠ (TX4 b).2.1 := by decide +kernel
theorem tyX4_ok : ∀ k, k < 6 → parseFieldDescriptor (TX4 k).2.2.1 = some (tyX4 k) := by decide +kernel
def RX5 : String := "PostGate$Policy"
def TX5 : u_T := fun k => match k with
  | 0 => ("PostGate$Policy", "directory", "LPostGate$Directory;", true)
  | 1 => ("PostGate$Policy", "domain", "LPostGate$Bytes;", true)
  | 2 => ("PostGate$Policy", "place", "LPostGate$Bytes;", true)
  | 3 => ("PostGate$Policy", "record", "LPostGate$Tags;", true)
  | 4 => ("PostGate$Policy", "wanted", "I", false)
  | 5 => ("PostGate$Policy", "strictSender", "Z", false)
  | _ => ("PostGate$Policy", "strictSeal", "Z", false)
def tyX5 : Nat → FieldType := fun k => match k with
  | 0 => .object "PostGate$Directory"
  | 1 => .object "PostGate$Bytes"
  | 2 => .object "PostGate$Bytes"
  | 3 => .object "PostGate$Tags"
  | 4 => .int
  | 5 => .boolean
  | _ => .boolean
abbrev wsX50 : List Cond := u_ws RX5 TX5 7
theorem nmX5 : ∀ a, a < 7 → ∀ b, b < 7 → a ≠ b → (TX5 a).2.1 ≠ (TX5 b).2.1 := by decide +kernel
theorem tyX5_ok : ∀ k, k < 7 → parseFieldDescriptor (TX5 k).2.2.1 = some (tyX5 k) := by decide +kernel
def RX6 : String := "PostGate$Power"
def TX6 : u_T := fun k => match k with
  | 0 => ("PostGate$Power", "modulus", "[J", true)
  | 1 => ("PostGate$Power", "base", "[J", true)
  | 2 => ("PostGate$Power", "value", "[J", true)
  | 3 => ("PostGate$Power", "sum", "[J", true)
  | _ => ("PostGate$Power", "factor", "J", false)
def tyX6 : Nat → FieldType := fun k => match k with
  | 0 => .array .long
  | 1 => .array .long
  | 2 => .array .long
  | 3 => .array .long
  | _ => .long
abbrev wsX60 : List Cond := u_ws RX6 TX6 5
theorem nmX6 : ∀ a, a < 5 → ∀ b, b < 5 → a ≠ b → (TX6 a).2.1 ≠ (TX6 b).2.1 := by decide +kernel
theorem tyX6_ok : ∀ k, k < 5 → parseFieldDescriptor (TX6 k).2.2.1 = some (tyX6 k) := by decide +kernel
def RX7 : String := "PostGate$Sealer"
def TX7 : u_T := fun k => match k with
  | 0 => ("PostGate$Sealer", "directory", "LPostGate$Directory;", true)
  | 1 => ("PostGate$Sealer", "seal", "LPostGate$Tags;", true)
  | 2 => ("PostGate$Sealer", "key", "LPostGate$Tags;", true)
  | 3 => ("PostGate$Sealer", "domain", "LPostGate$Bytes;", true)
  | 4 => ("PostGate$Sealer", "keyName", "LPostGate$Bytes;", true)
  | 5 => ("PostGate$Sealer", "bodySum", "LPostGate$Bytes;", true)
  | 6 => ("PostGate$Sealer", "signature", "LPostGate$Bytes;", true)
  | 7 => ("PostGate$Sealer", "modulus", "LPostGate$Bytes;", true)
  | 8 => ("PostGate$Sealer", "sum", "LPostGate$Bytes;", true)
  | 9 => ("PostGate$Sealer", "power", "LPostGate$Bytes;", true)
  | 10 => ("PostGate$Sealer", "due", "LPostGate$Bytes;", true)
  | 11 => ("PostGate$Sealer", "work", "LPostGate$Bytes;", true)
  | 12 => ("PostGate$Sealer", "taken", "[Z", true)
  | 13 => ("PostGate$Sealer", "sha", "LPostGate$Sha;", true)
  | 14 => ("PostGate$Sealer", "powers", "LPostGate$Power;", true)
  | 15 => ("PostGate$Sealer", "fieldRelaxed", "Z", false)
  | _ => ("PostGate$Sealer", "bodyRelaxed", "Z", false)
def tyX7 : Nat → FieldType := fun k => match k with
  | 0 => .object "PostGate$Directory"
  | 1 => .object "PostGate$Tags"
  | 2 => .object "PostGate$Tags"
  | 3 => .object "PostGate$Bytes"
  | 4 => .object "PostGate$Bytes"
  | 5 => .object "PostGate$Bytes"
  | 6 => .object "PostGate$Bytes"
  | 7 => .object "PostGate$Bytes"
  | 8 => .object "PostGate$Bytes"
  | 9 => .object "PostGate$Bytes"
  | 10 => .object "PostGate$Bytes"
  | 11 => .object "PostGate$Bytes"
  | 12 => .array .boolean
  | 13 => .object "PostGate$Sha"
  | 14 => .object "PostGate$Power"
  | 15 => .boolean
  | _ => .boolean
abbrev wsX70 : List Cond := u_ws RX7 TX7 17
theorem nmX7 : ∀ a, a < 17 → ∀ b, b < 17 → a ≠ b → (TX7 a).2.1 ≠ (TX7 b).2.1 := by decide +kernel
theorem tyX7_ok : ∀ k, k < 17 → parseFieldDescriptor (TX7 k).2.2.1 = some (tyX7 k) := by decide +kernel
def RX8 : String := "PostGate$Sha"
def TX8 : u_T := fun k => match k with
  | 0 => ("PostGate$Sha", "words", "[I", true)
  | 1 => ("PostGate$Sha", "state", "[I", true)
  | _ => ("PostGate$Sha", "turn", "[I", true)
def tyX8 : Nat → FieldType := fun k => match k with
  | 0 => .array .int
  | 1 => .array .int
  | _ => .array .int
abbrev wsX80 : List Cond := u_ws RX8 TX8 3
theorem nmX8 : ∀ a, a < 3 → ∀ b, b < 3 → a ≠ b → (TX8 a).2.1 ≠ (TX8 b).2.1 := by decide +kernel
theorem tyX8_ok : ∀ k, k < 3 → parseFieldDescriptor (TX8 k).2.2.1 = some (tyX8 k) := by decide +kernel
def RX9 : String := "PostGate$Tags"
def TX9 : u_T := fun k => match k with
  | 0 => ("PostGate$Tags", "text", "LPostGate$Bytes;", true)
  | 1 => ("PostGate$Tags", "starts", "[I", true)
  | 2 => ("PostGate$Tags", "signs", "[I", true)
  | 3 => ("PostGate$Tags", "ends", "[I", true)
  | _ => ("PostGate$Tags", "count", "I", false)
def tyX9 : Nat → FieldType := fun k => match k with
  | 0 => .object "PostGate$Bytes"
  | 1 => .array .int
  | 2 => .array .int
  | 3 => .array .int
  | _ => .int
abbrev wsX90 : List Cond := u_ws RX9 TX9 5
theorem nmX9 : ∀ a, a < 5 → ∀ b, b < 5 → a ≠ b → (TX9 a).2.1 ≠ (TX9 b).2.1 := by decide +kernel
theorem tyX9_ok : ∀ k, k < 5 → parseFieldDescriptor (TX9 k).2.2.1 = some (tyX9 k) := by decide +kernel
def RX10 : String := "PostGate$Term"
def TX10 : u_T := fun k => match k with
  | 0 => ("PostGate$Term", "kind", "I", false)
  | 1 => ("PostGate$Term", "sign", "I", false)
  | 2 => ("PostGate$Term", "start", "I", false)
  | 3 => ("PostGate$Term", "stop", "I", false)
  | 4 => ("PostGate$Term", "bits", "I", false)
  | _ => ("PostGate$Term", "address", "I", false)
def tyX10 : Nat → FieldType := fun k => match k with
  | 0 => .int
  | 1 => .int
  | 2 => .int
  | 3 => .int
  | 4 => .int
  | _ => .int
abbrev wsX100 : List Cond := u_ws RX10 TX10 6
theorem nmX10 : ∀ a, a < 6 → ∀ b, b < 6 → a ≠ b → (TX10 a).2.1 ≠ (TX10 b).2.1 := by decide +kernel
theorem tyX10_ok : ∀ k, k < 6 → parseFieldDescriptor (TX10 k).2.2.1 = some (tyX10 k) := by decide +kernel
def RX11 : String := "PostGate"
def TX11 : u_T := fun k => match k with
  | 0 => ("PostGate", "tape", "LPostGate$Bytes;", true)
  | 1 => ("PostGate", "out", "LPostGate$Bytes;", true)
  | 2 => ("PostGate", "directory", "LPostGate$Directory;", true)
  | 3 => ("PostGate", "checker", "LPostGate$Checker;", true)
  | 4 => ("PostGate", "sealer", "LPostGate$Sealer;", true)
  | 5 => ("PostGate", "policy", "LPostGate$Policy;", true)
  | 6 => ("PostGate", "sha", "LPostGate$Sha;", true)
  | 7 => ("PostGate", "letter", "LPostGate$Message;", false)
  | _ => ("PostGate", "spare", "LPostGate$Message;", false)
def tyX11 : Nat → FieldType := fun k => match k with
  | 0 => .object "PostGate$Bytes"
  | 1 => .object "PostGate$Bytes"
  | 2 => .object "PostGate$Directory"
  | 3 => .object "PostGate$Checker"
  | 4 => .object "PostGate$Sealer"
  | 5 => .object "PostGate$Policy"
  | 6 => .object "PostGate$Sha"
  | 7 => .object "PostGate$Message"
  | _ => .object "PostGate$Message"
abbrev wsX110 : List Cond := u_ws RX11 TX11 9
theorem nmX11 : ∀ a, a < 9 → ∀ b, b < 9 → a ≠ b → (TX11 a).2.1 ≠ (TX11 b).2.1 := by decide +kernel
theorem tyX11_ok : ∀ k, k < 9 → parseFieldDescriptor (TX11 k).2.2.1 = some (tyX11 k) := by decide +kernel
def RX12 : String := "PostGateModel$Hash"
def TX12 : u_T := fun k => match k with
  | 0 => ("PostGateModel$Hash", "first", "[I", true)
  | 1 => ("PostGateModel$Hash", "h", "[I", true)
  | 2 => ("PostGateModel$Hash", "w", "[I", true)
  | 3 => ("PostGateModel$Hash", "k", "[I", true)
  | 4 => ("PostGateModel$Hash", "block", "[B", true)
  | 5 => ("PostGateModel$Hash", "many", "I", false)
  | _ => ("PostGateModel$Hash", "all", "J", false)
def tyX12 : Nat → FieldType := fun k => match k with
  | 0 => .array .int
  | 1 => .array .int
  | 2 => .array .int
  | 3 => .array .int
  | 4 => .array .byte
  | 5 => .int
  | _ => .long
abbrev wsX120 : List Cond := u_ws RX12 TX12 7
theorem nmX12 : ∀ a, a < 7 → ∀ b, b < 7 → a ≠ b → (TX12 a).2.1 ≠ (TX12 b).2.1 := by decide +kernel
theorem tyX12_ok : ∀ k, k < 7 → parseFieldDescriptor (TX12 k).2.2.1 = some (tyX12 k) := by decide +kernel
def RX13 : String := "PostGateModel$Tags"
def TX13 : u_T := fun k => match k with
  | 0 => ("PostGateModel$Tags", "text", "LPostGateModel$Text;", true)
  | 1 => ("PostGateModel$Tags", "from", "[I", true)
  | 2 => ("PostGateModel$Tags", "equals", "[I", true)
  | 3 => ("PostGateModel$Tags", "to", "[I", true)
  | _ => ("PostGateModel$Tags", "many", "I", false)
def tyX13 : Nat → FieldType := fun k => match k with
  | 0 => .object "PostGateModel$Text"
  | 1 => .array .int
  | 2 => .array .int
  | 3 => .array .int
  | _ => .int
abbrev wsX130 : List Cond := u_ws RX13 TX13 5
theorem nmX13 : ∀ a, a < 5 → ∀ b, b < 5 → a ≠ b → (TX13 a).2.1 ≠ (TX13 b).2.1 := by decide +kernel
theorem tyX13_ok : ∀ k, k < 5 → parseFieldDescriptor (TX13 k).2.2.1 = some (tyX13 k) := by decide +kernel
def RX14 : String := "PostGateModel$Text"
def TX14 : u_T := fun k => match k with
  | 0 => ("PostGateModel$Text", "b", "[B", true)
  | _ => ("PostGateModel$Text", "n", "I", false)
def tyX14 : Nat → FieldType := fun k => match k with
  | 0 => .array .byte
  | _ => .int
abbrev wsX140 : List Cond := u_ws RX14 TX14 2
theorem nmX14 : ∀ a, a < 2 → ∀ b, b < 2 → a ≠ b → (TX14 a).2.1 ≠ (TX14 b).2.1 := by decide +kernel
theorem tyX14_ok : ∀ k, k < 2 → parseFieldDescriptor (TX14 k).2.2.1 = some (tyX14 k) := by decide +kernel
def RX15 : String := "PostGateModel"
def TX15 : u_T := fun k => match k with
  | 0 => ("PostGateModel", "tape", "[B", true)
  | 1 => ("PostGateModel", "tapeMany", "I", false)
  | 2 => ("PostGateModel", "outMany", "I", false)
  | 3 => ("PostGateModel", "entries", "I", false)
  | 4 => ("PostGateModel", "out", "[B", true)
  | 5 => ("PostGateModel", "sort", "[I", true)
  | 6 => ("PostGateModel", "address", "[I", true)
  | 7 => ("PostGateModel", "name", "[LPostGateModel$Text;", true)
  | 8 => ("PostGateModel", "value", "[LPostGateModel$Text;", true)
  | 9 => ("PostGateModel", "local", "LPostGateModel$Text;", true)
  | 10 => ("PostGateModel", "domain", "LPostGateModel$Text;", true)
  | 11 => ("PostGateModel", "from", "I", false)
  | 12 => ("PostGateModel", "sent", "Z", false)
  | 13 => ("PostGateModel", "target", "[LPostGateModel$Text;", true)
  | 14 => ("PostGateModel", "counted", "I", false)
  | 15 => ("PostGateModel", "empty", "I", false)
  | 16 => ("PostGateModel", "piece", "LPostGateModel$Text;", true)
  | 17 => ("PostGateModel", "term", "I", false)
  | 18 => ("PostGateModel", "sign", "I", false)
  | 19 => ("PostGateModel", "dFrom", "I", false)
  | 20 => ("PostGateModel", "dTo", "I", false)
  | 21 => ("PostGateModel", "width", "I", false)
  | 22 => ("PostGateModel", "quad", "I", false)
  | 23 => ("PostGateModel", "mail", "[B", true)
  | 24 => ("PostGateModel", "begin", "[I", true)
  | 25 => ("PostGateModel", "colon", "[I", true)
  | 26 => ("PostGateModel", "stop", "[I", true)
  | 27 => ("PostGateModel", "newBegin", "[I", true)
  | 28 => ("PostGateModel", "newColon", "[I", true)
  | 29 => ("PostGateModel", "newStop", "[I", true)
  | 30 => ("PostGateModel", "fields", "I", false)
  | 31 => ("PostGateModel", "body", "I", false)
  | 32 => ("PostGateModel", "mailMany", "I", false)
  | 33 => ("PostGateModel", "mailed", "Z", false)
  | 34 => ("PostGateModel", "plain", "LPostGateModel$Text;", true)
  | 35 => ("PostGateModel", "seal", "LPostGateModel$Tags;", true)
  | 36 => ("PostGateModel", "key", "LPostGateModel$Tags;", true)
  | 37 => ("PostGateModel", "wish", "LPostGateModel$Tags;", true)
  | 38 => ("PostGateModel", "hash", "LPostGateModel$Hash;", true)
  | 39 => ("PostGateModel", "modulus", "[I", true)
  | 40 => ("PostGateModel", "power", "[I", true)
  | 41 => ("PostGateModel", "number", "[I", true)
  | 42 => ("PostGateModel", "product", "[I", true)
  | 43 => ("PostGateModel", "square", "[I", true)
  | 44 => ("PostGateModel", "hashed", "[B", true)
  | 45 => ("PostGateModel", "said", "[B", true)
  | 46 => ("PostGateModel", "number64", "[B", true)
  | 47 => ("PostGateModel", "modulus64", "[B", true)
  | 48 => ("PostGateModel", "expected", "[B", true)
  | 49 => ("PostGateModel", "where", "LPostGateModel$Text;", true)
  | 50 => ("PostGateModel", "sealDomain", "LPostGateModel$Text;", true)
  | 51 => ("PostGateModel", "taken", "[Z", true)
  | 52 => ("PostGateModel", "relaxedFields", "Z", false)
  | 53 => ("PostGateModel", "relaxedBody", "Z", false)
  | 54 => ("PostGateModel", "ofFrom", "Z", false)
  | 55 => ("PostGateModel", "head", "[I", true)
  | 56 => ("PostGateModel", "asked", "LPostGateModel$Text;", true)
  | 57 => ("PostGateModel", "house", "LPostGateModel$Text;", true)
  | _ => ("PostGateModel", "other", "LPostGateModel$Text;", true)
def tyX15 : Nat → FieldType := fun k => match k with
  | 0 => .array .byte
  | 1 => .int
  | 2 => .int
  | 3 => .int
  | 4 => .array .byte
  | 5 => .array .int
  | 6 => .array .int
  | 7 => .array (.object "PostGateModel$Text")
  | 8 => .array (.object "PostGateModel$Text")
  | 9 => .object "PostGateModel$Text"
  | 10 => .object "PostGateModel$Text"
  | 11 => .int
  | 12 => .boolean
  | 13 => .array (.object "PostGateModel$Text")
  | 14 => .int
  | 15 => .int
  | 16 => .object "PostGateModel$Text"
  | 17 => .int
  | 18 => .int
  | 19 => .int
  | 20 => .int
  | 21 => .int
  | 22 => .int
  | 23 => .array .byte
  | 24 => .array .int
  | 25 => .array .int
  | 26 => .array .int
  | 27 => .array .int
  | 28 => .array .int
  | 29 => .array .int
  | 30 => .int
  | 31 => .int
  | 32 => .int
  | 33 => .boolean
  | 34 => .object "PostGateModel$Text"
  | 35 => .object "PostGateModel$Tags"
  | 36 => .object "PostGateModel$Tags"
  | 37 => .object "PostGateModel$Tags"
  | 38 => .object "PostGateModel$Hash"
  | 39 => .array .int
  | 40 => .array .int
  | 41 => .array .int
  | 42 => .array .int
  | 43 => .array .int
  | 44 => .array .byte
  | 45 => .array .byte
  | 46 => .array .byte
  | 47 => .array .byte
  | 48 => .array .byte
  | 49 => .object "PostGateModel$Text"
  | 50 => .object "PostGateModel$Text"
  | 51 => .array .boolean
  | 52 => .boolean
  | 53 => .boolean
  | 54 => .boolean
  | 55 => .array .int
  | 56 => .object "PostGateModel$Text"
  | 57 => .object "PostGateModel$Text"
  | _ => .object "PostGateModel$Text"
abbrev wsX150 : List Cond := u_ws RX15 TX15 59
theorem nmX15 : ∀ a, a < 59 → ∀ b, b < 59 → a ≠ b → (TX15 a).2.1 ≠ (TX15 b).2.1 := by decide +kernel
theorem tyX15_ok : ∀ k, k < 59 → parseFieldDescriptor (TX15 k).2.2.1 = some (tyX15 k) := by decide +kernel
def RJ6 : String := "java/lang/Integer"
def RJ9 : String := "java/lang/Math"
def RJ0 : String := "java/lang/String"
def RJ1 : String := "java/lang/StringLatin1"
def RJ2 : String := "java/lang/StringUTF16"
def RJ10 : String := "java/lang/System"
def RJ7 : String := "java/util/Arrays"
def RJ3 : String := "jdk/internal/util/Preconditions"
abbrev cX0_init : ByteArray := prog_2_method_1_code
def yX0_init : MethodName := ⟨RX0, "<init>", "(I)V"⟩
abbrev cX0_isWhite : ByteArray := prog_2_method_2_code
def yX0_isWhite : MethodName := ⟨RX0, "isWhite", "(I)Z"⟩
abbrev cX0_isSmall : ByteArray := prog_2_method_3_code
def yX0_isSmall : MethodName := ⟨RX0, "isSmall", "(I)Z"⟩
abbrev cX0_isDigit : ByteArray := prog_2_method_4_code
def yX0_isDigit : MethodName := ⟨RX0, "isDigit", "(I)Z"⟩
abbrev cX0_isFieldSign : ByteArray := prog_2_method_5_code
def yX0_isFieldSign : MethodName := ⟨RX0, "isFieldSign", "(I)Z"⟩
abbrev cX0_smallOf : ByteArray := prog_2_method_6_code
def yX0_smallOf : MethodName := ⟨RX0, "smallOf", "(I)I"⟩
abbrev cX0_clear : ByteArray := prog_2_method_7_code
def yX0_clear : MethodName := ⟨RX0, "clear", "()V"⟩
abbrev cX0_cut : ByteArray := prog_2_method_8_code
def yX0_cut : MethodName := ⟨RX0, "cut", "(I)V"⟩
abbrev cX0_at : ByteArray := prog_2_method_9_code
def yX0_at : MethodName := ⟨RX0, "at", "(I)I"⟩
abbrev cX0_add : ByteArray := prog_2_method_10_code
def yX0_add : MethodName := ⟨RX0, "add", "(I)V"⟩
abbrev cX0_addFour : ByteArray := prog_2_method_11_code
def yX0_addFour : MethodName := ⟨RX0, "addFour", "(I)V"⟩
abbrev cX0_addText : ByteArray := prog_2_method_12_code
def yX0_addText : MethodName := ⟨RX0, "addText", "(Ljava/lang/String;)V"⟩
abbrev cX0_addRange : ByteArray := prog_2_method_13_code
def yX0_addRange : MethodName := ⟨RX0, "addRange", "(LPostGate$Bytes;II)V"⟩
abbrev cX0_copy : ByteArray := prog_2_method_14_code
def yX0_copy : MethodName := ⟨RX0, "copy", "(LPostGate$Bytes;)V"⟩
abbrev cX0_is : ByteArray := prog_2_method_15_code
def yX0_is : MethodName := ⟨RX0, "is", "(IILjava/lang/String;)Z"⟩
abbrev cX0_begins : ByteArray := prog_2_method_16_code
def yX0_begins : MethodName := ⟨RX0, "begins", "(IILjava/lang/String;)Z"⟩
abbrev cX0_find : ByteArray := prog_2_method_17_code
def yX0_find : MethodName := ⟨RX0, "find", "(III)I"⟩
abbrev cX0_findLast : ByteArray := prog_2_method_18_code
def yX0_findLast : MethodName := ⟨RX0, "findLast", "(III)I"⟩
abbrev cX0_partStart : ByteArray := prog_2_method_19_code
def yX0_partStart : MethodName := ⟨RX0, "partStart", "(I)I"⟩
abbrev cX0_isName : ByteArray := prog_2_method_20_code
def yX0_isName : MethodName := ⟨RX0, "isName", "(II)Z"⟩
abbrev cX0_same : ByteArray := prog_2_method_21_code
def yX0_same : MethodName := ⟨RX0, "same", "(LPostGate$Bytes;)Z"⟩
abbrev cX0_isUnder : ByteArray := prog_2_method_22_code
def yX0_isUnder : MethodName := ⟨RX0, "isUnder", "(LPostGate$Bytes;)Z"⟩
abbrev cX0_endsLike : ByteArray := prog_2_method_23_code
def yX0_endsLike : MethodName := ⟨RX0, "endsLike", "(LPostGate$Bytes;I)Z"⟩
abbrev cX0_decode : ByteArray := prog_2_method_24_code
def yX0_decode : MethodName := ⟨RX0, "decode", "(LPostGate$Bytes;III)Z"⟩
abbrev cX0_sixOf : ByteArray := prog_2_method_25_code
def yX0_sixOf : MethodName := ⟨RX0, "sixOf", "(I)I"⟩
abbrev cX1_init : ByteArray := prog_3_method_1_code
def yX1_init : MethodName := ⟨RX1, "<init>", "(LPostGate$Directory;)V"⟩
abbrev cX1_takeSender : ByteArray := prog_3_method_2_code
def yX1_takeSender : MethodName := ⟨RX1, "takeSender", "(ILPostGate$Bytes;)Z"⟩
abbrev cX1_isLocal : ByteArray := prog_3_method_3_code
def yX1_isLocal : MethodName := ⟨RX1, "isLocal", "(LPostGate$Bytes;I)Z"⟩
abbrev cX1_addQuad : ByteArray := prog_3_method_4_code
def yX1_addQuad : MethodName := ⟨RX1, "addQuad", "()V"⟩
abbrev cX1_judge : ByteArray := prog_3_method_5_code
def yX1_judge : MethodName := ⟨RX1, "judge", "()I"⟩
abbrev cX1_check : ByteArray := prog_3_method_6_code
def yX1_check : MethodName := ⟨RX1, "check", "(I)I"⟩
abbrev cX1_startsTerm : ByteArray := prog_3_method_7_code
def yX1_startsTerm : MethodName := ⟨RX1, "startsTerm", "(LPostGate$Bytes;I)Z"⟩
abbrev cX1_readTerms : ByteArray := prog_3_method_8_code
def yX1_readTerms : MethodName := ⟨RX1, "readTerms", "(LPostGate$Bytes;LPostGate$Term;)I"⟩
abbrev cX1_follow : ByteArray := prog_3_method_9_code
def yX1_follow : MethodName := ⟨RX1, "follow", "(LPostGate$Bytes;I)I"⟩
abbrev cX1_answerOf : ByteArray := prog_3_method_10_code
def yX1_answerOf : MethodName := ⟨RX1, "answerOf", "(I)I"⟩
abbrev cX1_isCountedOut : ByteArray := prog_3_method_11_code
def yX1_isCountedOut : MethodName := ⟨RX1, "isCountedOut", "()Z"⟩
abbrev cX1_match : ByteArray := prog_3_method_12_code
def yX1_match : MethodName := ⟨RX1, "match", "(LPostGate$Bytes;I)I"⟩
abbrev cX1_look : ByteArray := prog_3_method_13_code
def yX1_look : MethodName := ⟨RX1, "look", "(LPostGate$Term;LPostGate$Bytes;)I"⟩
abbrev cX1_lookAtExchanges : ByteArray := prog_3_method_14_code
def yX1_lookAtExchanges : MethodName := ⟨RX1, "lookAtExchanges", "(LPostGate$Bytes;I)I"⟩
abbrev cX1_expand : ByteArray := prog_3_method_15_code
def yX1_expand : MethodName := ⟨RX1, "expand", "(LPostGate$Bytes;I)V"⟩
abbrev cX1_addMacro : ByteArray := prog_3_method_16_code
def yX1_addMacro : MethodName := ⟨RX1, "addMacro", "(LPostGate$Bytes;III)V"⟩
abbrev cX1_pieceOf : ByteArray := prog_3_method_17_code
def yX1_pieceOf : MethodName := ⟨RX1, "pieceOf", "(II)LPostGate$Bytes;"⟩
abbrev cX1_addParts : ByteArray := prog_3_method_18_code
def yX1_addParts : MethodName := ⟨RX1, "addParts", "(LPostGate$Bytes;IZLPostGate$Bytes;)V"⟩
abbrev cX2_init : ByteArray := prog_4_method_1_code
def yX2_init : MethodName := ⟨RX2, "<init>", "()V"⟩
abbrev cX2_take : ByteArray := prog_4_method_2_code
def yX2_take : MethodName := ⟨RX2, "take", "(IILPostGate$Bytes;)I"⟩
abbrev cX2_isValue : ByteArray := prog_4_method_3_code
def yX2_isValue : MethodName := ⟨RX2, "isValue", "(ILPostGate$Bytes;I)Z"⟩
abbrev cX2_clear : ByteArray := prog_4_method_4_code
def yX2_clear : MethodName := ⟨RX2, "clear", "()I"⟩
abbrev cX2_has : ByteArray := prog_4_method_5_code
def yX2_has : MethodName := ⟨RX2, "has", "(ILPostGate$Bytes;)Z"⟩
abbrev cX2_hasAddress : ByteArray := prog_4_method_6_code
def yX2_hasAddress : MethodName := ⟨RX2, "hasAddress", "(LPostGate$Bytes;II)Z"⟩
abbrev cX2_valueAt : ByteArray := prog_4_method_7_code
def yX2_valueAt : MethodName := ⟨RX2, "valueAt", "(I)LPostGate$Bytes;"⟩
abbrev cX2_firstText : ByteArray := prog_4_method_8_code
def yX2_firstText : MethodName := ⟨RX2, "firstText", "(LPostGate$Bytes;)I"⟩
abbrev cX2_onlyText : ByteArray := prog_4_method_9_code
def yX2_onlyText : MethodName := ⟨RX2, "onlyText", "(LPostGate$Bytes;Ljava/lang/String;Z)I"⟩
abbrev cX2_houseStart : ByteArray := prog_4_method_10_code
def yX2_houseStart : MethodName := ⟨RX2, "houseStart", "(LPostGate$Bytes;)I"⟩
abbrev cX2_isSameHouse : ByteArray := prog_4_method_11_code
def yX2_isSameHouse : MethodName := ⟨RX2, "isSameHouse", "(LPostGate$Bytes;LPostGate$Bytes;)Z"⟩
abbrev cX3_init : ByteArray := prog_5_method_1_code
def yX3_init : MethodName := ⟨RX3, "<init>", "()V"⟩
abbrev cX4_init : ByteArray := prog_6_method_1_code
def yX4_init : MethodName := ⟨RX4, "<init>", "()V"⟩
abbrev cX4_read : ByteArray := prog_6_method_2_code
def yX4_read : MethodName := ⟨RX4, "read", "(LPostGate$Bytes;)Z"⟩
abbrev cX4_takeLine : ByteArray := prog_6_method_3_code
def yX4_takeLine : MethodName := ⟨RX4, "takeLine", "(II)Z"⟩
abbrev cX4_isFieldName : ByteArray := prog_6_method_4_code
def yX4_isFieldName : MethodName := ⟨RX4, "isFieldName", "(LPostGate$Bytes;II)Z"⟩
abbrev cX4_isNamed : ByteArray := prog_6_method_5_code
def yX4_isNamed : MethodName := ⟨RX4, "isNamed", "(ILjava/lang/String;)Z"⟩
abbrev cX4_isNamedLike : ByteArray := prog_6_method_6_code
def yX4_isNamedLike : MethodName := ⟨RX4, "isNamedLike", "(ILPostGate$Bytes;II)Z"⟩
abbrev cX4_countOf : ByteArray := prog_6_method_7_code
def yX4_countOf : MethodName := ⟨RX4, "countOf", "(Ljava/lang/String;)I"⟩
abbrev cX4_fieldOf : ByteArray := prog_6_method_8_code
def yX4_fieldOf : MethodName := ⟨RX4, "fieldOf", "(Ljava/lang/String;I)I"⟩
abbrev cX4_addFieldWithout : ByteArray := prog_6_method_9_code
def yX4_addFieldWithout : MethodName := ⟨RX4, "addFieldWithout", "(LPostGate$Bytes;IZII)V"⟩
abbrev cX4_addRelaxedValue : ByteArray := prog_6_method_10_code
def yX4_addRelaxedValue : MethodName := ⟨RX4, "addRelaxedValue", "(LPostGate$Bytes;III)V"⟩
abbrev cX4_addBody : ByteArray := prog_6_method_11_code
def yX4_addBody : MethodName := ⟨RX4, "addBody", "(LPostGate$Bytes;Z)V"⟩
abbrev cX4_addRelaxedLines : ByteArray := prog_6_method_12_code
def yX4_addRelaxedLines : MethodName := ⟨RX4, "addRelaxedLines", "(LPostGate$Bytes;)V"⟩
abbrev cX5_init : ByteArray := prog_7_method_1_code
def yX5_init : MethodName := ⟨RX5, "<init>", "(LPostGate$Directory;)V"⟩
abbrev cX5_read : ByteArray := prog_7_method_2_code
def yX5_read : MethodName := ⟨RX5, "read", "(LPostGate$Message;)I"⟩
abbrev cX5_readDomain : ByteArray := prog_7_method_3_code
def yX5_readDomain : MethodName := ⟨RX5, "readDomain", "(LPostGate$Message;I)Z"⟩
abbrev cX5_setPlace : ByteArray := prog_7_method_4_code
def yX5_setPlace : MethodName := ⟨RX5, "setPlace", "(I)V"⟩
abbrev cX5_readRecord : ByteArray := prog_7_method_5_code
def yX5_readRecord : MethodName := ⟨RX5, "readRecord", "(LPostGate$Bytes;Z)I"⟩
abbrev cX5_wantOf : ByteArray := prog_7_method_6_code
def yX5_wantOf : MethodName := ⟨RX5, "wantOf", "(Ljava/lang/String;)I"⟩
abbrev cX5_isAligned : ByteArray := prog_7_method_7_code
def yX5_isAligned : MethodName := ⟨RX5, "isAligned", "(LPostGate$Bytes;Z)Z"⟩
abbrev cX6_init : ByteArray := prog_8_method_1_code
def yX6_init : MethodName := ⟨RX6, "<init>", "()V"⟩
abbrev cX6_of : ByteArray := prog_8_method_2_code
def yX6_of : MethodName := ⟨RX6, "of", "(LPostGate$Bytes;LPostGate$Bytes;LPostGate$Bytes;)V"⟩
abbrev cX6_load : ByteArray := prog_8_method_3_code
def yX6_load : MethodName := ⟨RX6, "load", "(LPostGate$Bytes;[J)V"⟩
abbrev cX6_factorOf : ByteArray := prog_8_method_4_code
def yX6_factorOf : MethodName := ⟨RX6, "factorOf", "(I)J"⟩
abbrev cX6_setTwo : ByteArray := prog_8_method_5_code
def yX6_setTwo : MethodName := ⟨RX6, "setTwo", "()V"⟩
abbrev cX6_multiply : ByteArray := prog_8_method_6_code
def yX6_multiply : MethodName := ⟨RX6, "multiply", "([J[J)V"⟩
abbrev cX6_addTimes : ByteArray := prog_8_method_7_code
def yX6_addTimes : MethodName := ⟨RX6, "addTimes", "([JJ)V"⟩
abbrev cX6_reduce : ByteArray := prog_8_method_8_code
def yX6_reduce : MethodName := ⟨RX6, "reduce", "()V"⟩
abbrev cX7_init : ByteArray := prog_9_method_1_code
def yX7_init : MethodName := ⟨RX7, "<init>", "(LPostGate$Directory;)V"⟩
abbrev cX7_judge : ByteArray := prog_9_method_2_code
def yX7_judge : MethodName := ⟨RX7, "judge", "(LPostGate$Message;II)I"⟩
abbrev cX7_isWell : ByteArray := prog_9_method_3_code
def yX7_isWell : MethodName := ⟨RX7, "isWell", "(LPostGate$Message;I)Z"⟩
abbrev cX7_isNumberOrMisses : ByteArray := prog_9_method_4_code
def yX7_isNumberOrMisses : MethodName := ⟨RX7, "isNumberOrMisses", "(Ljava/lang/String;)Z"⟩
abbrev cX7_readPlainness : ByteArray := prog_9_method_5_code
def yX7_readPlainness : MethodName := ⟨RX7, "readPlainness", "()Z"⟩
abbrev cX7_isFieldList : ByteArray := prog_9_method_6_code
def yX7_isFieldList : MethodName := ⟨RX7, "isFieldList", "()Z"⟩
abbrev cX7_isFrom : ByteArray := prog_9_method_7_code
def yX7_isFrom : MethodName := ⟨RX7, "isFrom", "(II)Z"⟩
abbrev cX7_readKey : ByteArray := prog_9_method_8_code
def yX7_readKey : MethodName := ⟨RX7, "readKey", "()I"⟩
abbrev cX7_isBodyRight : ByteArray := prog_9_method_9_code
def yX7_isBodyRight : MethodName := ⟨RX7, "isBodyRight", "(LPostGate$Message;)Z"⟩
abbrev cX7_isSigned : ByteArray := prog_9_method_10_code
def yX7_isSigned : MethodName := ⟨RX7, "isSigned", "()Z"⟩
abbrev cX7_addListed : ByteArray := prog_9_method_11_code
def yX7_addListed : MethodName := ⟨RX7, "addListed", "(LPostGate$Message;)V"⟩
abbrev cX7_addLast : ByteArray := prog_9_method_12_code
def yX7_addLast : MethodName := ⟨RX7, "addLast", "(LPostGate$Message;II)V"⟩
abbrev cX7_addOwn : ByteArray := prog_9_method_13_code
def yX7_addOwn : MethodName := ⟨RX7, "addOwn", "(LPostGate$Message;I)V"⟩
abbrev cX7_isLetterB : ByteArray := prog_9_method_14_code
def yX7_isLetterB : MethodName := ⟨RX7, "isLetterB", "(LPostGate$Bytes;II)Z"⟩
abbrev cX7_writeDue : ByteArray := prog_9_method_15_code
def yX7_writeDue : MethodName := ⟨RX7, "writeDue", "()V"⟩
abbrev cX8_init : ByteArray := prog_10_method_1_code
def yX8_init : MethodName := ⟨RX8, "<init>", "()V"⟩
abbrev cX8_sumOf : ByteArray := prog_10_method_2_code
def yX8_sumOf : MethodName := ⟨RX8, "sumOf", "(LPostGate$Bytes;ILPostGate$Bytes;)V"⟩
abbrev cX8_wordAt : ByteArray := prog_10_method_3_code
def yX8_wordAt : MethodName := ⟨RX8, "wordAt", "(LPostGate$Bytes;II)I"⟩
abbrev cX8_mix : ByteArray := prog_10_method_4_code
def yX8_mix : MethodName := ⟨RX8, "mix", "()V"⟩
abbrev cX8_step : ByteArray := prog_10_method_5_code
def yX8_step : MethodName := ⟨RX8, "step", "(I)V"⟩
abbrev cX9_init : ByteArray := prog_11_method_1_code
def yX9_init : MethodName := ⟨RX9, "<init>", "(I)V"⟩
abbrev cX9_read : ByteArray := prog_11_method_2_code
def yX9_read : MethodName := ⟨RX9, "read", "(LPostGate$Bytes;II)Z"⟩
abbrev cX9_take : ByteArray := prog_11_method_3_code
def yX9_take : MethodName := ⟨RX9, "take", "(II)Z"⟩
abbrev cX9_isKnown : ByteArray := prog_11_method_4_code
def yX9_isKnown : MethodName := ⟨RX9, "isKnown", "(II)Z"⟩
abbrev cX9_rowOf : ByteArray := prog_11_method_5_code
def yX9_rowOf : MethodName := ⟨RX9, "rowOf", "(Ljava/lang/String;)I"⟩
abbrev cX9_has : ByteArray := prog_11_method_6_code
def yX9_has : MethodName := ⟨RX9, "has", "(Ljava/lang/String;)Z"⟩
abbrev cX9_startOf : ByteArray := prog_11_method_7_code
def yX9_startOf : MethodName := ⟨RX9, "startOf", "(Ljava/lang/String;)I"⟩
abbrev cX9_endOf : ByteArray := prog_11_method_8_code
def yX9_endOf : MethodName := ⟨RX9, "endOf", "(Ljava/lang/String;)I"⟩
abbrev cX9_is : ByteArray := prog_11_method_9_code
def yX9_is : MethodName := ⟨RX9, "is", "(Ljava/lang/String;Ljava/lang/String;)Z"⟩
abbrev cX9_isOrMisses : ByteArray := prog_11_method_10_code
def yX9_isOrMisses : MethodName := ⟨RX9, "isOrMisses", "(Ljava/lang/String;Ljava/lang/String;)Z"⟩
abbrev cX9_isNameAt : ByteArray := prog_11_method_11_code
def yX9_isNameAt : MethodName := ⟨RX9, "isNameAt", "(Ljava/lang/String;)Z"⟩
abbrev cX9_numberAt : ByteArray := prog_11_method_12_code
def yX9_numberAt : MethodName := ⟨RX9, "numberAt", "(Ljava/lang/String;)I"⟩
abbrev cX9_decode : ByteArray := prog_11_method_13_code
def yX9_decode : MethodName := ⟨RX9, "decode", "(Ljava/lang/String;LPostGate$Bytes;I)Z"⟩
abbrev cX10_init : ByteArray := prog_12_method_1_code
def yX10_init : MethodName := ⟨RX10, "<init>", "()V"⟩
abbrev cX10_isSameNet : ByteArray := prog_12_method_2_code
def yX10_isSameNet : MethodName := ⟨RX10, "isSameNet", "(III)Z"⟩
abbrev cX10_read : ByteArray := prog_12_method_3_code
def yX10_read : MethodName := ⟨RX10, "read", "(LPostGate$Bytes;II)V"⟩
abbrev cX10_readKind : ByteArray := prog_12_method_4_code
def yX10_readKind : MethodName := ⟨RX10, "readKind", "(LPostGate$Bytes;II)V"⟩
abbrev cX10_setKind : ByteArray := prog_12_method_5_code
def yX10_setKind : MethodName := ⟨RX10, "setKind", "(II)V"⟩
abbrev cX10_isOther : ByteArray := prog_12_method_6_code
def yX10_isOther : MethodName := ⟨RX10, "isOther", "(LPostGate$Bytes;II)Z"⟩
abbrev cX10_readQuad : ByteArray := prog_12_method_7_code
def yX10_readQuad : MethodName := ⟨RX10, "readQuad", "(LPostGate$Bytes;II)Z"⟩
abbrev cX10_numberOf : ByteArray := prog_12_method_8_code
def yX10_numberOf : MethodName := ⟨RX10, "numberOf", "(LPostGate$Bytes;III)I"⟩
abbrev cX10_isHost : ByteArray := prog_12_method_9_code
def yX10_isHost : MethodName := ⟨RX10, "isHost", "(LPostGate$Bytes;II)Z"⟩
abbrev cX10_macroLength : ByteArray := prog_12_method_10_code
def yX10_macroLength : MethodName := ⟨RX10, "macroLength", "(LPostGate$Bytes;II)I"⟩
abbrev cX11_init : ByteArray := prog_1_method_1_code
def yX11_init : MethodName := ⟨RX11, "<init>", "()V"⟩
abbrev cX11_feed : ByteArray := prog_1_method_2_code
def yX11_feed : MethodName := ⟨RX11, "feed", "(IIIII)I"⟩
abbrev cX11_end : ByteArray := prog_1_method_3_code
def yX11_end : MethodName := ⟨RX11, "end", "(I)I"⟩
abbrev cX11_entry : ByteArray := prog_1_method_4_code
def yX11_entry : MethodName := ⟨RX11, "entry", "(II)I"⟩
abbrev cX11_forget : ByteArray := prog_1_method_5_code
def yX11_forget : MethodName := ⟨RX11, "forget", "()I"⟩
abbrev cX11_sender : ByteArray := prog_1_method_6_code
def yX11_sender : MethodName := ⟨RX11, "sender", "(I)I"⟩
abbrev cX11_permission : ByteArray := prog_1_method_7_code
def yX11_permission : MethodName := ⟨RX11, "permission", "()I"⟩
abbrev cX11_cost : ByteArray := prog_1_method_8_code
def yX11_cost : MethodName := ⟨RX11, "cost", "(I)I"⟩
abbrev cX11_message : ByteArray := prog_1_method_9_code
def yX11_message : MethodName := ⟨RX11, "message", "()I"⟩
abbrev cX11_seals : ByteArray := prog_1_method_10_code
def yX11_seals : MethodName := ⟨RX11, "seals", "()I"⟩
abbrev cX11_sealed : ByteArray := prog_1_method_11_code
def yX11_sealed : MethodName := ⟨RX11, "sealed", "(II)I"⟩
abbrev cX11_plainBody : ByteArray := prog_1_method_12_code
def yX11_plainBody : MethodName := ⟨RX11, "plainBody", "(Z)I"⟩
abbrev cX11_plainField : ByteArray := prog_1_method_13_code
def yX11_plainField : MethodName := ⟨RX11, "plainField", "(IZ)I"⟩
abbrev cX11_house : ByteArray := prog_1_method_14_code
def yX11_house : MethodName := ⟨RX11, "house", "()I"⟩
abbrev cX11_wish : ByteArray := prog_1_method_15_code
def yX11_wish : MethodName := ⟨RX11, "wish", "(I)I"⟩
abbrev cX11_hasAlignedSeal : ByteArray := prog_1_method_16_code
def yX11_hasAlignedSeal : MethodName := ⟨RX11, "hasAlignedSeal", "(I)Z"⟩
abbrev cX11_digest : ByteArray := prog_1_method_17_code
def yX11_digest : MethodName := ⟨RX11, "digest", "()I"⟩
abbrev cX11_octet : ByteArray := prog_1_method_18_code
def yX11_octet : MethodName := ⟨RX11, "octet", "(I)I"⟩
abbrev cX12_init : ByteArray := prog_15_method_1_code
def yX12_init : MethodName := ⟨RX12, "<init>", "()V"⟩
abbrev cX12_isPrime : ByteArray := prog_15_method_2_code
def yX12_isPrime : MethodName := ⟨RX12, "isPrime", "(I)Z"⟩
abbrev cX12_rootOf : ByteArray := prog_15_method_3_code
def yX12_rootOf : MethodName := ⟨RX12, "rootOf", "(II)I"⟩
abbrev cX12_isAtMost : ByteArray := prog_15_method_4_code
def yX12_isAtMost : MethodName := ⟨RX12, "isAtMost", "(JII)Z"⟩
abbrev cX12_begin : ByteArray := prog_15_method_5_code
def yX12_begin : MethodName := ⟨RX12, "begin", "()V"⟩
abbrev cX12_one : ByteArray := prog_15_method_6_code
def yX12_one : MethodName := ⟨RX12, "one", "(I)V"⟩
abbrev cX12_add : ByteArray := prog_15_method_7_code
def yX12_add : MethodName := ⟨RX12, "add", "([BII)V"⟩
abbrev cX12_four : ByteArray := prog_15_method_8_code
def yX12_four : MethodName := ⟨RX12, "four", "(I)V"⟩
abbrev cX12_finish : ByteArray := prog_15_method_9_code
def yX12_finish : MethodName := ⟨RX12, "finish", "([BI)V"⟩
abbrev cX12_round : ByteArray := prog_15_method_10_code
def yX12_round : MethodName := ⟨RX12, "round", "()V"⟩
abbrev cX13_init : ByteArray := prog_16_method_1_code
def yX13_init : MethodName := ⟨RX13, "<init>", "(I)V"⟩
abbrev cX13_read : ByteArray := prog_16_method_2_code
def yX13_read : MethodName := ⟨RX13, "read", "(I)Z"⟩
abbrev cX13_isSame : ByteArray := prog_16_method_3_code
def yX13_isSame : MethodName := ⟨RX13, "isSame", "(III)Z"⟩
abbrev cX13_find : ByteArray := prog_16_method_4_code
def yX13_find : MethodName := ⟨RX13, "find", "(Ljava/lang/String;)I"⟩
abbrev cX13_has : ByteArray := prog_16_method_5_code
def yX13_has : MethodName := ⟨RX13, "has", "(Ljava/lang/String;Ljava/lang/String;)Z"⟩
abbrev cX14_init : ByteArray := prog_17_method_1_code
def yX14_init : MethodName := ⟨RX14, "<init>", "(I)V"⟩
abbrev cX14_add : ByteArray := prog_17_method_2_code
def yX14_add : MethodName := ⟨RX14, "add", "(I)V"⟩
abbrev cX14_add_ : ByteArray := prog_17_method_3_code
def yX14_add_ : MethodName := ⟨RX14, "add", "([BII)V"⟩
abbrev cX14_set : ByteArray := prog_17_method_4_code
def yX14_set : MethodName := ⟨RX14, "set", "([BII)V"⟩
abbrev cX14_is : ByteArray := prog_17_method_5_code
def yX14_is : MethodName := ⟨RX14, "is", "([BII)Z"⟩
abbrev cX14_is_ : ByteArray := prog_17_method_6_code
def yX14_is_ : MethodName := ⟨RX14, "is", "(LPostGateModel$Text;)Z"⟩
abbrev cX14_isUnder : ByteArray := prog_17_method_7_code
def yX14_isUnder : MethodName := ⟨RX14, "isUnder", "(LPostGateModel$Text;)Z"⟩
abbrev cX14_isName : ByteArray := prog_17_method_8_code
def yX14_isName : MethodName := ⟨RX14, "isName", "()Z"⟩
abbrev cX14_isName_ : ByteArray := prog_17_method_9_code
def yX14_isName_ : MethodName := ⟨RX14, "isName", "([BII)Z"⟩
abbrev cX15_in : ByteArray := prog_14_method_1_code
def yX15_in : MethodName := ⟨RX15, "in", "(JJJ)Z"⟩
abbrev cX15_isSmall : ByteArray := prog_14_method_2_code
def yX15_isSmall : MethodName := ⟨RX15, "isSmall", "(I)Z"⟩
abbrev cX15_isDigit : ByteArray := prog_14_method_3_code
def yX15_isDigit : MethodName := ⟨RX15, "isDigit", "(I)Z"⟩
abbrev cX15_isLetter : ByteArray := prog_14_method_4_code
def yX15_isLetter : MethodName := ⟨RX15, "isLetter", "(I)Z"⟩
abbrev cX15_small : ByteArray := prog_14_method_5_code
def yX15_small : MethodName := ⟨RX15, "small", "(I)I"⟩
abbrev cX15_isWhite : ByteArray := prog_14_method_6_code
def yX15_isWhite : MethodName := ⟨RX15, "isWhite", "(I)Z"⟩
abbrev cX15_is : ByteArray := prog_14_method_7_code
def yX15_is : MethodName := ⟨RX15, "is", "([BIILjava/lang/String;)Z"⟩
abbrev cX15_begins : ByteArray := prog_14_method_8_code
def yX15_begins : MethodName := ⟨RX15, "begins", "([BIILjava/lang/String;)Z"⟩
abbrev cX15_isAlike : ByteArray := prog_14_method_9_code
def yX15_isAlike : MethodName := ⟨RX15, "isAlike", "([BIILjava/lang/String;)Z"⟩
abbrev cX15_init : ByteArray := prog_14_method_10_code
def yX15_init : MethodName := ⟨RX15, "<init>", "()V"⟩
abbrev cX15_feed : ByteArray := prog_14_method_11_code
def yX15_feed : MethodName := ⟨RX15, "feed", "(IIIII)I"⟩
abbrev cX15_end : ByteArray := prog_14_method_12_code
def yX15_end : MethodName := ⟨RX15, "end", "(I)I"⟩
abbrev cX15_used : ByteArray := prog_14_method_13_code
def yX15_used : MethodName := ⟨RX15, "used", "()I"⟩
abbrev cX15_entry : ByteArray := prog_14_method_14_code
def yX15_entry : MethodName := ⟨RX15, "entry", "(II)I"⟩
abbrev cX15_forget : ByteArray := prog_14_method_15_code
def yX15_forget : MethodName := ⟨RX15, "forget", "()I"⟩
abbrev cX15_isOf : ByteArray := prog_14_method_16_code
def yX15_isOf : MethodName := ⟨RX15, "isOf", "(IILPostGateModel$Text;)Z"⟩
abbrev cX15_isTrouble : ByteArray := prog_14_method_17_code
def yX15_isTrouble : MethodName := ⟨RX15, "isTrouble", "(LPostGateModel$Text;)Z"⟩
abbrev cX15_sender : ByteArray := prog_14_method_18_code
def yX15_sender : MethodName := ⟨RX15, "sender", "(I)I"⟩
abbrev cX15_permission : ByteArray := prog_14_method_19_code
def yX15_permission : MethodName := ⟨RX15, "permission", "()I"⟩
abbrev cX15_cost : ByteArray := prog_14_method_20_code
def yX15_cost : MethodName := ⟨RX15, "cost", "(I)I"⟩
abbrev cX15_macro : ByteArray := prog_14_method_21_code
def yX15_macro : MethodName := ⟨RX15, "macro", "([BII)I"⟩
abbrev cX15_isD : ByteArray := prog_14_method_22_code
def yX15_isD : MethodName := ⟨RX15, "isD", "([BIIZ)Z"⟩
abbrev cX15_bits : ByteArray := prog_14_method_23_code
def yX15_bits : MethodName := ⟨RX15, "bits", "([BII)I"⟩
abbrev cX15_slashOf : ByteArray := prog_14_method_24_code
def yX15_slashOf : MethodName := ⟨RX15, "slashOf", "([BII)I"⟩
abbrev cX15_isQuad : ByteArray := prog_14_method_25_code
def yX15_isQuad : MethodName := ⟨RX15, "isQuad", "([BII)Z"⟩
abbrev cX15_readTerm : ByteArray := prog_14_method_26_code
def yX15_readTerm : MethodName := ⟨RX15, "readTerm", "([BII)V"⟩
abbrev cX15_readHost : ByteArray := prog_14_method_27_code
def yX15_readHost : MethodName := ⟨RX15, "readHost", "([BIII)V"⟩
abbrev cX15_expand : ByteArray := prog_14_method_28_code
def yX15_expand : MethodName := ⟨RX15, "expand", "([BIILPostGateModel$Text;LPostGateModel$Text;)V"⟩
abbrev cX15_put : ByteArray := prog_14_method_29_code
def yX15_put : MethodName := ⟨RX15, "put", "(LPostGateModel$Text;I)V"⟩
abbrev cX15_macroValue : ByteArray := prog_14_method_30_code
def yX15_macroValue : MethodName := ⟨RX15, "macroValue", "([BIILPostGateModel$Text;LPostGateModel$Text;)V"⟩
abbrev cX15_part : ByteArray := prog_14_method_31_code
def yX15_part : MethodName := ⟨RX15, "part", "(ILPostGateModel$Text;)V"⟩
abbrev cX15_recordOf : ByteArray := prog_14_method_32_code
def yX15_recordOf : MethodName := ⟨RX15, "recordOf", "(LPostGateModel$Text;)I"⟩
abbrev cX15_blankFrom : ByteArray := prog_14_method_33_code
def yX15_blankFrom : MethodName := ⟨RX15, "blankFrom", "(LPostGateModel$Text;I)I"⟩
abbrev cX15_wordEnd : ByteArray := prog_14_method_34_code
def yX15_wordEnd : MethodName := ⟨RX15, "wordEnd", "(LPostGateModel$Text;I)I"⟩
abbrev cX15_check : ByteArray := prog_14_method_35_code
def yX15_check : MethodName := ⟨RX15, "check", "(LPostGateModel$Text;I)I"⟩
abbrev cX15_isSender : ByteArray := prog_14_method_36_code
def yX15_isSender : MethodName := ⟨RX15, "isSender", "(II)Z"⟩
abbrev cX15_matches : ByteArray := prog_14_method_37_code
def yX15_matches : MethodName := ⟨RX15, "matches", "(LPostGateModel$Text;LPostGateModel$Text;I)I"⟩
abbrev cX15_exchanges : ByteArray := prog_14_method_38_code
def yX15_exchanges : MethodName := ⟨RX15, "exchanges", "(LPostGateModel$Text;I)I"⟩
abbrev cX15_lineEnd : ByteArray := prog_14_method_39_code
def yX15_lineEnd : MethodName := ⟨RX15, "lineEnd", "([BII)I"⟩
abbrev cX15_message : ByteArray := prog_14_method_40_code
def yX15_message : MethodName := ⟨RX15, "message", "()I"⟩
abbrev cX15_isNamed : ByteArray := prog_14_method_41_code
def yX15_isNamed : MethodName := ⟨RX15, "isNamed", "(ILjava/lang/String;)Z"⟩
abbrev cX15_valueEnd : ByteArray := prog_14_method_42_code
def yX15_valueEnd : MethodName := ⟨RX15, "valueEnd", "(I)I"⟩
abbrev cX15_seals : ByteArray := prog_14_method_43_code
def yX15_seals : MethodName := ⟨RX15, "seals", "()I"⟩
abbrev cX15_sealAt : ByteArray := prog_14_method_44_code
def yX15_sealAt : MethodName := ⟨RX15, "sealAt", "(I)I"⟩
abbrev cX15_bodyPlain : ByteArray := prog_14_method_45_code
def yX15_bodyPlain : MethodName := ⟨RX15, "bodyPlain", "(Z)V"⟩
abbrev cX15_fieldPlain : ByteArray := prog_14_method_46_code
def yX15_fieldPlain : MethodName := ⟨RX15, "fieldPlain", "(IZII)V"⟩
abbrev cX15_tell : ByteArray := prog_14_method_47_code
def yX15_tell : MethodName := ⟨RX15, "tell", "(LPostGateModel$Text;)I"⟩
abbrev cX15_plainBody : ByteArray := prog_14_method_48_code
def yX15_plainBody : MethodName := ⟨RX15, "plainBody", "(Z)I"⟩
abbrev cX15_plainField : ByteArray := prog_14_method_49_code
def yX15_plainField : MethodName := ⟨RX15, "plainField", "(IZ)I"⟩
abbrev cX15_digitOf : ByteArray := prog_14_method_50_code
def yX15_digitOf : MethodName := ⟨RX15, "digitOf", "(I)I"⟩
abbrev cX15_base : ByteArray := prog_14_method_51_code
def yX15_base : MethodName := ⟨RX15, "base", "(LPostGateModel$Tags;Ljava/lang/String;I[B)Z"⟩
abbrev cX15_number : ByteArray := prog_14_method_52_code
def yX15_number : MethodName := ⟨RX15, "number", "(LPostGateModel$Tags;Ljava/lang/String;)I"⟩
abbrev cX15_digest : ByteArray := prog_14_method_53_code
def yX15_digest : MethodName := ⟨RX15, "digest", "([BI[B)V"⟩
abbrev cX15_digits : ByteArray := prog_14_method_54_code
def yX15_digits : MethodName := ⟨RX15, "digits", "([B[I)V"⟩
abbrev cX15_remainder : ByteArray := prog_14_method_55_code
def yX15_remainder : MethodName := ⟨RX15, "remainder", "([II[I)V"⟩
abbrev cX15_isBelow : ByteArray := prog_14_method_56_code
def yX15_isBelow : MethodName := ⟨RX15, "isBelow", "([I[I)Z"⟩
abbrev cX15_times : ByteArray := prog_14_method_57_code
def yX15_times : MethodName := ⟨RX15, "times", "([I)V"⟩
abbrev cX15_withoutWhite : ByteArray := prog_14_method_58_code
def yX15_withoutWhite : MethodName := ⟨RX15, "withoutWhite", "([BIILPostGateModel$Text;)V"⟩
abbrev cX15_isTagName : ByteArray := prog_14_method_59_code
def yX15_isTagName : MethodName := ⟨RX15, "isTagName", "(Ljava/lang/String;)Z"⟩
abbrev cX15_isWell : ByteArray := prog_14_method_60_code
def yX15_isWell : MethodName := ⟨RX15, "isWell", "()Z"⟩
abbrev cX15_isNames : ByteArray := prog_14_method_61_code
def yX15_isNames : MethodName := ⟨RX15, "isNames", "()Z"⟩
abbrev cX15_isWay : ByteArray := prog_14_method_62_code
def yX15_isWay : MethodName := ⟨RX15, "isWay", "()Z"⟩
abbrev cX15_sealed : ByteArray := prog_14_method_63_code
def yX15_sealed : MethodName := ⟨RX15, "sealed", "(II)I"⟩
abbrev cX15_sealOf : ByteArray := prog_14_method_64_code
def yX15_sealOf : MethodName := ⟨RX15, "sealOf", "(II)I"⟩
abbrev cX15_isAll : ByteArray := prog_14_method_65_code
def yX15_isAll : MethodName := ⟨RX15, "isAll", "([B[B)Z"⟩
abbrev cX15_keyOf : ByteArray := prog_14_method_66_code
def yX15_keyOf : MethodName := ⟨RX15, "keyOf", "()I"⟩
abbrev cX15_fieldsPlain : ByteArray := prog_14_method_67_code
def yX15_fieldsPlain : MethodName := ⟨RX15, "fieldsPlain", "(I)V"⟩
abbrev cX15_isAlikeTo : ByteArray := prog_14_method_68_code
def yX15_isAlikeTo : MethodName := ⟨RX15, "isAlikeTo", "(I[BII)Z"⟩
abbrev cX15_isPower : ByteArray := prog_14_method_69_code
def yX15_isPower : MethodName := ⟨RX15, "isPower", "()Z"⟩
abbrev cX15_digest_ : ByteArray := prog_14_method_70_code
def yX15_digest_ : MethodName := ⟨RX15, "digest", "()I"⟩
abbrev cX15_houseOf : ByteArray := prog_14_method_71_code
def yX15_houseOf : MethodName := ⟨RX15, "houseOf", "(LPostGateModel$Text;LPostGateModel$Text;)V"⟩
abbrev cX15_house : ByteArray := prog_14_method_72_code
def yX15_house : MethodName := ⟨RX15, "house", "()I"⟩
abbrev cX15_wantedOf : ByteArray := prog_14_method_73_code
def yX15_wantedOf : MethodName := ⟨RX15, "wantedOf", "(LPostGateModel$Text;)I"⟩
abbrev cX15_isAligned : ByteArray := prog_14_method_74_code
def yX15_isAligned : MethodName := ⟨RX15, "isAligned", "(LPostGateModel$Text;LPostGateModel$Text;Z)Z"⟩
abbrev cX15_wanted : ByteArray := prog_14_method_75_code
def yX15_wanted : MethodName := ⟨RX15, "wanted", "(LPostGateModel$Tags;Ljava/lang/String;)I"⟩
abbrev cX15_isSeen : ByteArray := prog_14_method_76_code
def yX15_isSeen : MethodName := ⟨RX15, "isSeen", "()Z"⟩
abbrev cX15_wish : ByteArray := prog_14_method_77_code
def yX15_wish : MethodName := ⟨RX15, "wish", "(I)I"⟩
abbrev cX15_octet : ByteArray := prog_14_method_78_code
def yX15_octet : MethodName := ⟨RX15, "octet", "(I)I"⟩
abbrev cJ6_rotateRight_7cf53 : ByteArray := prog_18_method_51_code
def yJ6_rotateRight_7cf53 : MethodName := ⟨RJ6, "rotateRight", "(II)I"⟩
abbrev cJ9_multiplyHigh_f86c9 : ByteArray := prog_19_method_45_code
def yJ9_multiplyHigh_f86c9 : MethodName := ⟨RJ9, "multiplyHigh", "(JJ)J"⟩
abbrev cJ9_max_7cf53 : ByteArray := prog_19_method_65_code
def yJ9_max_7cf53 : MethodName := ⟨RJ9, "max", "(II)I"⟩
abbrev cJ9_min_7cf53 : ByteArray := prog_19_method_69_code
def yJ9_min_7cf53 : MethodName := ⟨RJ9, "min", "(II)I"⟩
abbrev cJ0_length_8abf5 : ByteArray := prog_20_method_54_code
def yJ0_length_8abf5 : MethodName := ⟨RJ0, "length", "()I"⟩
abbrev cJ0_charAt_5068e : ByteArray := prog_20_method_56_code
def yJ0_charAt_5068e : MethodName := ⟨RJ0, "charAt", "(I)C"⟩
abbrev cJ0_coder_7d493 : ByteArray := prog_20_method_152_code
def yJ0_coder_7d493 : MethodName := ⟨RJ0, "coder", "()B"⟩
abbrev cJ0_isLatin1_aae02 : ByteArray := prog_20_method_154_code
def yJ0_isLatin1_aae02 : MethodName := ⟨RJ0, "isLatin1", "()Z"⟩
abbrev cJ0_checkIndex_df160 : ByteArray := prog_20_method_155_code
def yJ0_checkIndex_df160 : MethodName := ⟨RJ0, "checkIndex", "(II)V"⟩
abbrev cJ1_charAt_3b067 : ByteArray := prog_21_method_2_code
def yJ1_charAt_3b067 : MethodName := ⟨RJ1, "charAt", "([BI)C"⟩
abbrev cJ2_getChar_3b067 : ByteArray := prog_22_method_5_code
def yJ2_getChar_3b067 : MethodName := ⟨RJ2, "getChar", "([BI)C"⟩
abbrev cJ2_length_9d52b : ByteArray := prog_22_method_6_code
def yJ2_length_9d52b : MethodName := ⟨RJ2, "length", "([B)I"⟩
abbrev cJ2_charAt_3b067 : ByteArray := prog_22_method_83_code
def yJ2_charAt_3b067 : MethodName := ⟨RJ2, "charAt", "([BI)C"⟩
abbrev cJ2_checkIndex_2214a : ByteArray := prog_22_method_91_code
def yJ2_checkIndex_2214a : MethodName := ⟨RJ2, "checkIndex", "(I[B)V"⟩
abbrev cJ7_fill_53178 : ByteArray := prog_24_method_103_code
def yJ7_fill_53178 : MethodName := ⟨RJ7, "fill", "([II)V"⟩
abbrev cJ7_fill_031fb : ByteArray := prog_24_method_109_code
def yJ7_fill_031fb : MethodName := ⟨RJ7, "fill", "([BB)V"⟩
abbrev cJ7_fill_49daa : ByteArray := prog_24_method_111_code
def yJ7_fill_49daa : MethodName := ⟨RJ7, "fill", "([ZZ)V"⟩
abbrev cJ3_checkIndex_8e157 : ByteArray := prog_25_method_11_code
def yJ3_checkIndex_8e157 : MethodName := ⟨RJ3, "checkIndex", "(IILjava/util/function/BiFunction;)I"⟩
abbrev vwCl : List vw_C := [(RX0, TX0, 3), (RX1, TX1, 11), (RX2, TX2, 2), (RX3, TX3, 4), (RX4, TX4, 6), (RX5, TX5, 7), (RX6, TX6, 5), (RX7, TX7, 17), (RX8, TX8, 3), (RX9, TX9, 5), (RX10, TX10, 6), (RX11, TX11, 9), (RX12, TX12, 7), (RX13, TX13, 5), (RX14, TX14, 2), (RX15, TX15, 59)]
end
section
def tb : List Cond := lw_tbl.filter goodWord
theorem tb_at {i : Nat} {w : Cond} (h : lw_tbl[i]? = some w) (hg : goodWord w = true) : w ∈ tb := List.mem_filter.mpr ⟨List.mem_of_getElem? h, hg⟩
theorem tb_in {w : Cond} (h : w ∈ tb) : w ∈ lw_tbl := (List.mem_filter.mp h).1
theorem gi {c : Cond} (h : c ∈ tb) : GoodIn tb (c :: tb) := fun w hw => (List.mem_cons.mp hw).elim (fun e => e ▸ ⟨h, good_of_word (List.mem_filter.mp h).2⟩) (fun hw => ⟨hw, good_of_word (List.mem_filter.mp hw).2⟩)
def isNest : Cond → Bool
  | .fieldLinkNest .. => true
  | .methodLinkNest .. => true
  | _ => false
def nw : List Cond := tables_1.filter isNest
theorem nw_at {i : Nat} {w : Cond} (h : tables_1[i]? = some w) (hg : isNest w = true) : w ∈ nw := List.mem_filter.mpr ⟨List.mem_of_getElem? h, hg⟩
def ENV (U : State) : Prop := (∀ w ∈ nw, va_Nw w U) ∧ (va_AO RX3 U ∧ va_AO RX0 U ∧ va_AO RX10 U ∧ va_AO RX14 U) ∧ ∃ a, vk_R RX11 112 "dkim-signature" a U
theorem isNest_on {w : Cond} (h : isNest w = true) : w.onTables = true := by
  cases w <;> first | rfl | (simp [isNest] at h)
theorem nest_warm {w : Cond} (h : isNest w = true) {s U : State} (hW : s.WarmedH U.vm) (hZ : va_Nw w s) : va_Nw w U := by
  cases w <;> first | exact va_Nw.warmF hW hZ | exact va_Nw.warmM hW hZ | (simp [isNest] at h)
theorem ENV.warm {s U : State} (hW : s.WarmedH U.vm) (h : ENV s) : ENV U := by
  obtain ⟨h1, ⟨a1, a2, a3, a4⟩, q, h3⟩ := h
  exact ⟨fun w hw => nest_warm (List.mem_filter.mp hw).2 hW (h1 w hw), ⟨a1.moved hW.alike, a2.moved hW.alike, a3.moved hW.alike, a4.moved hW.alike⟩, q, h3.warm hW⟩
theorem ENV.same {u U : State} (hv : u.vm = U.vm) (h : ENV u) : ENV U := by
  obtain ⟨h1, ⟨a1, a2, a3, a4⟩, q, h3⟩ := h
  have hal : u.vm.Alike U.vm := hv ▸ Vm.Alike.refl u.vm
  exact ⟨fun w hw => va_Nw.same (isNest_on (List.mem_filter.mp hw).2) hv (h1 w hw), ⟨a1.moved hal, a2.moved hal, a3.moved hal, a4.moved hal⟩, q, h3.same hv.symm⟩
theorem ENV.nest {s : State} (h : ENV s) {w : Cond} (hw : w ∈ nw) {args : Array Value} : w.before args s = true := va_Nw.use (isNest_on (List.mem_filter.mp hw).2) (h.1 w hw)
theorem ENV.nestw {s : State} (h : ENV s) {w : Cond} (hw : w ∈ nw) : va_Nw w s := h.1 w hw
theorem ENV.ao3 {s : State} (h : ENV s) : va_AO RX3 s := h.2.1.1
theorem ENV.ao0 {s : State} (h : ENV s) : va_AO RX0 s := h.2.1.2.1
theorem ENV.ao10 {s : State} (h : ENV s) : va_AO RX10 s := h.2.1.2.2.1
theorem ENV.ao14 {s : State} (h : ENV s) : va_AO RX14 s := h.2.1.2.2.2
theorem ENV.str {s : State} (h : ENV s) : ∃ a, vk_R RX11 112 "dkim-signature" a s := h.2.2
def PW (D : va_G) (sz : Nat) (ws : va_W) (tys : List (ClassId × FieldType)) (U : State) : Prop := U.heap.size = sz ∧ va_P D vwCl ws U.heap ∧ va_K D vwCl tys U ∧ va_D (fun _ => True) ws ∧ ENV U
theorem PW.calling {D : va_G} {sz : Nat} {ws : va_W} {tys : List (ClassId × FieldType)} {U : State} {g : JFrame} {mk : MethodId} {a : Array Value} (h : PW D sz ws tys U) : PW D sz ws tys (U.calling g mk a) :=
  ⟨h.1, h.2.1, va_K.moved (u := U) (U := U.calling g mk a) (Vm.Alike.refl U.vm) h.2.2.1, h.2.2.2.1, ENV.same (u := U) (U := U.calling g mk a) rfl h.2.2.2.2⟩
theorem PW.mk {D : va_G} {ws : va_W} {tys : List (ClassId × FieldType)} {s U : State} {H : Heap} {A : Nat → Prop} (hU : U.heap = H) (hW : s.WarmedH U.vm) (hP : va_P D vwCl ws H) (hK : va_K D vwCl tys s) (hD : va_D A ws) (hE : ENV s) : PW D H.size ws tys U :=
  ⟨by rw [hU], by rw [hU]; exact hP, va_K.moved hW.alike hK, hD.weaken (fun _ _ _ _ => trivial), hE.warm hW⟩
def QW (D : va_G) (A : Nat → Prop) (ws : va_W) (tys : List (ClassId × FieldType)) (t : State) : Prop := va_P D vwCl ws t.heap ∧ va_K D vwCl tys t ∧ va_D A ws
theorem QW.mk {D : va_G} {A : Nat → Prop} {ws : va_W} {tys : List (ClassId × FieldType)} {s t : State} {H : Heap} (ht : t.heap = H) (hW : s.WarmedH t.vm) (hP : va_P D vwCl ws H) (hK : va_K D vwCl tys s) (hD : va_D A ws) : QW D A ws tys t :=
  ⟨by rw [ht]; exact hP, va_K.moved hW.alike hK, hD⟩
theorem QW.join {A0 : Nat → Prop} {D : va_G} {ws wc wr w1 : va_W} {tys ty1 : List (ClassId × FieldType)} {s t : State} {H H1 : Heap} (hP : va_P D vwCl ws H) (hD : va_D A0 ws) (hK : va_K D vwCl tys s) (isC isR : List Nat) (hC : isC.map (fun i => ws[i]?) = wc.map some) (hR : isR.map (fun i => ws[i]?) = wr.map some) (hn : va_nd isR = true) (hdis : ∀ i ∈ isR, i ∉ isC) (hk : ∀ q : Nat, q < H.size → ¬ va_A wc H.size q → H1[q]? = H[q]?) (hF : ∀ q, va_A wc H.size q → A0 q) (ht : t.heap = H1) (hvm : s.vm.Alike t.vm) (hB : QW D (va_A wc H.size) w1 ty1 t) : va_P D vwCl (wr ++ w1) H1 ∧ va_D A0 (wr ++ w1) ∧ va_K D vwCl (tys ++ ty1) s := by
  obtain ⟨b1, b2, b3⟩ := hB
  rw [ht] at b1
  obtain ⟨h1, h2⟩ := va_join hP hD isC isR hC hR hn hdis hk hF b1 b3
  exact ⟨h1, h2, hK.app (va_K.moved hvm.symm b2)⟩
theorem wl_loop {σ : Type} {p : Program} {l : Launch} {e : Env} {R : Room} {s : State} {m : MethodId} {args : Array Value} {below : List Frame} {meth : Method} {c : Code} {Q : State → Prop} (A : Nat → Prop) (D : va_G) (pc mL : Nat) (wsf : σ → va_W) (lvf : σ → List (Nat × Value)) (stf : σ → List Value) (cf sf : σ → Nat) (inv : σ → Prop) (μ : σ → Nat)
    (body : ∀ x : σ, inv x → (∀ y : σ, inv y → μ y < μ x → ∀ (H : Heap) (locs : List Loc), va_P D vwCl (wsf y) H → va_D A (wsf y) → va_S A s.heap H locs → ∀ ls : Array Slot, lv_has ls mL (lvf y) → W p l e R s m args below meth c H locs (cf y) (sf y) Q (F0 m pc ls (stf y))) →
      ∀ (H : Heap) (locs : List Loc), va_P D vwCl (wsf x) H → va_D A (wsf x) → va_S A s.heap H locs → ∀ ls : Array Slot, lv_has ls mL (lvf x) → W p l e R s m args below meth c H locs (cf x) (sf x) Q (F0 m pc ls (stf x)))
    (x : σ) (hx : inv x) : ∀ (H : Heap) (locs : List Loc), va_P D vwCl (wsf x) H → va_D A (wsf x) → va_S A s.heap H locs → ∀ ls : Array Slot, lv_has ls mL (lvf x) → W p l e R s m args below meth c H locs (cf x) (sf x) Q (F0 m pc ls (stf x)) := by
  suffices h : ∀ (k : Nat) (x : σ), μ x < k → inv x → ∀ (H : Heap) (locs : List Loc), va_P D vwCl (wsf x) H → va_D A (wsf x) → va_S A s.heap H locs → ∀ ls : Array Slot, lv_has ls mL (lvf x) → W p l e R s m args below meth c H locs (cf x) (sf x) Q (F0 m pc ls (stf x)) from h (μ x + 1) x (Nat.lt_succ_self _) hx
  intro k
  induction k with
  | zero => intro x h; exact absurd h (Nat.not_lt_zero _)
  | succ k ih => exact fun x h hi => body x hi (fun y hy hm => ih y (Nat.lt_of_lt_of_le hm (Nat.le_of_lt_succ h)) hy)
def SHV (A : Nat → Prop) (U : State) (H : Heap) : Prop := ∃ (aB aF : Nat) (fB fF : Nat → Int32), va_Z RX8 "BEGINNING" "[I" (.ref aB) A U H ∧ va_T .int aB 8 (fun j => .int (fB j)) A U H ∧ va_Z RX8 "FACTORS" "[I" (.ref aF) A U H ∧ va_T .int aF 64 (fun j => .int (fF j)) A U H
theorem SHV.moved {A : Nat → Prop} {u U : State} {H : Heap} (hvm : u.vm.Alike U.vm) (h : SHV A u H) : SHV A U H := by
  obtain ⟨aB, aF, fB, fF, zB, tB, zF, tF⟩ := h
  exact ⟨aB, aF, fB, fF, zB.moved hvm, tB.moved hvm, zF.moved hvm, tF.moved hvm⟩
theorem SHV.pass {A B : Nat → Prop} {s U : State} {H : Heap} {locs : List Loc} (h : SHV A s s.heap) (hS : va_S A s.heap H locs) (hF : ∀ q, B q → A q) (hU : U.heap = H) (hvm : s.vm.Alike U.vm) : SHV B U U.heap := by
  obtain ⟨aB, aF, fB, fF, zB, tB, zF, tF⟩ := h
  rw [hU]
  exact ⟨aB, aF, fB, fF, ((zB.kept hS.2.1).narrow hF).moved hvm, ((tB.kept hS.2.1).narrow hF).moved hvm, ((zF.kept hS.2.1).narrow hF).moved hvm, ((tF.kept hS.2.1).narrow hF).moved hvm⟩
def PWS (D : va_G) (sz : Nat) (ws : va_W) (tys : List (ClassId × FieldType)) (U : State) : Prop := PW D sz ws tys U ∧ SHV (va_A ws sz) U U.heap
theorem PWS.calling {D : va_G} {sz : Nat} {ws : va_W} {tys : List (ClassId × FieldType)} {U : State} {g : JFrame} {mk : MethodId} {a : Array Value} (h : PWS D sz ws tys U) : PWS D sz ws tys (U.calling g mk a) :=
  ⟨h.1.calling, SHV.moved (u := U) (U := U.calling g mk a) (Vm.Alike.refl U.vm) h.2⟩
theorem PWS.mk {D : va_G} {ws : va_W} {tys : List (ClassId × FieldType)} {s U : State} {H : Heap} {A A0 : Nat → Prop} {locs : List Loc} (hU : U.heap = H) (hW : s.WarmedH U.vm) (hP : va_P D vwCl ws H) (hK : va_K D vwCl tys s) (hD : va_D A ws) (hE : ENV s) (hZ : SHV A0 s s.heap) (hS : va_S A0 s.heap H locs) (hF : ∀ q, va_A ws H.size q → A0 q) : PWS D H.size ws tys U :=
  ⟨PW.mk hU hW hP hK hD hE, hZ.pass hS hF hU hW.alike⟩
theorem ltN {i N : Nat} {M : Int32} (c : ¬ M ≤ nI i) (hM : M = nI N := by rfl) (hi : i < 2 ^ 31 := by omega) (hN : N < 2 ^ 31 := by omega) : i < N := by
  rcases Nat.lt_or_ge i N with q | q
  · exact q
  · exact absurd (by rw [hM]; exact nI_le q hi) c
theorem leN {i N : Nat} {M : Int32} (c : M ≤ nI i) (hM : M = nI N := by rfl) (hi : i < 2 ^ 31 := by omega) (hN : N < 2 ^ 31 := by omega) : N ≤ i := by
  rw [hM] at c
  exact (nI_leI hN hi).mp c
theorem df_0 : ∀ j, j < 3 → defaultValue (tyX0 j) = vp_V [.null, .int 0, .int 0] j := by decide +kernel
theorem it_0 : ∀ w ∈ wsX00, w ∈ tb := by
  have h : ∀ w ∈ wsX00, w ∈ lw_tbl ∧ goodWord w = true := by decide +kernel
  exact fun w hw => List.mem_filter.mpr (h w hw)
theorem df_1 : ∀ j, j < 11 → defaultValue (tyX1 j) = vp_V [.null, .null, .null, .null, .null, .null, .null, .int 0, .int 0, .int 0, .int 0] j := by decide +kernel
theorem it_1 : ∀ w ∈ wsX10, w ∈ tb := by
  have h : ∀ w ∈ wsX10, w ∈ lw_tbl ∧ goodWord w = true := by decide +kernel
  exact fun w hw => List.mem_filter.mpr (h w hw)
theorem df_2 : ∀ j, j < 2 → defaultValue (tyX2 j) = vp_V [.null, .int 0] j := by decide +kernel
theorem it_2 : ∀ w ∈ wsX20, w ∈ tb := by
  have h : ∀ w ∈ wsX20, w ∈ lw_tbl ∧ goodWord w = true := by decide +kernel
  exact fun w hw => List.mem_filter.mpr (h w hw)
theorem df_3 : ∀ j, j < 4 → defaultValue (tyX3 j) = vp_V [.null, .null, .int 0, .int 0] j := by decide +kernel
theorem it_3 : ∀ w ∈ wsX30, w ∈ tb := by
  have h : ∀ w ∈ wsX30, w ∈ lw_tbl ∧ goodWord w = true := by decide +kernel
  exact fun w hw => List.mem_filter.mpr (h w hw)
theorem df_4 : ∀ j, j < 6 → defaultValue (tyX4 j) = vp_V [.null, .null, .null, .null, .int 0, .int 0] j := by decide +kernel
theorem it_4 : ∀ w ∈ wsX40, w ∈ tb := by
  have h : ∀ w ∈ wsX40, w ∈ lw_tbl ∧ goodWord w = true := by decide +kernel
  exact fun w hw => List.mem_filter.mpr (h w hw)
theorem df_5 : ∀ j, j < 7 → defaultValue (tyX5 j) = vp_V [.null, .null, .null, .null, .int 0, .int 0, .int 0] j := by decide +kernel
theorem it_5 : ∀ w ∈ wsX50, w ∈ tb := by
  have h : ∀ w ∈ wsX50, w ∈ lw_tbl ∧ goodWord w = true := by decide +kernel
  exact fun w hw => List.mem_filter.mpr (h w hw)
theorem df_6 : ∀ j, j < 5 → defaultValue (tyX6 j) = vp_V [.null, .null, .null, .null, .long 0] j := by decide +kernel
theorem it_6 : ∀ w ∈ wsX60, w ∈ tb := by
  have h : ∀ w ∈ wsX60, w ∈ lw_tbl ∧ goodWord w = true := by decide +kernel
  exact fun w hw => List.mem_filter.mpr (h w hw)
theorem df_7 : ∀ j, j < 17 → defaultValue (tyX7 j) = vp_V [.null, .null, .null, .null, .null, .null, .null, .null, .null, .null, .null, .null, .null, .null, .null, .int 0, .int 0] j := by decide +kernel
theorem it_7 : ∀ w ∈ wsX70, w ∈ tb := by
  have h : ∀ w ∈ wsX70, w ∈ lw_tbl ∧ goodWord w = true := by decide +kernel
  exact fun w hw => List.mem_filter.mpr (h w hw)
theorem df_8 : ∀ j, j < 3 → defaultValue (tyX8 j) = vp_V [.null, .null, .null] j := by decide +kernel
theorem it_8 : ∀ w ∈ wsX80, w ∈ tb := by
  have h : ∀ w ∈ wsX80, w ∈ lw_tbl ∧ goodWord w = true := by decide +kernel
  exact fun w hw => List.mem_filter.mpr (h w hw)
theorem df_9 : ∀ j, j < 5 → defaultValue (tyX9 j) = vp_V [.null, .null, .null, .null, .int 0] j := by decide +kernel
theorem it_9 : ∀ w ∈ wsX90, w ∈ tb := by
  have h : ∀ w ∈ wsX90, w ∈ lw_tbl ∧ goodWord w = true := by decide +kernel
  exact fun w hw => List.mem_filter.mpr (h w hw)
theorem df_10 : ∀ j, j < 6 → defaultValue (tyX10 j) = vp_V [.int 0, .int 0, .int 0, .int 0, .int 0, .int 0] j := by decide +kernel
theorem it_10 : ∀ w ∈ wsX100, w ∈ tb := by
  have h : ∀ w ∈ wsX100, w ∈ lw_tbl ∧ goodWord w = true := by decide +kernel
  exact fun w hw => List.mem_filter.mpr (h w hw)
theorem df_11 : ∀ j, j < 9 → defaultValue (tyX11 j) = vp_V [.null, .null, .null, .null, .null, .null, .null, .null, .null] j := by decide +kernel
theorem it_11 : ∀ w ∈ wsX110, w ∈ tb := by
  have h : ∀ w ∈ wsX110, w ∈ lw_tbl ∧ goodWord w = true := by decide +kernel
  exact fun w hw => List.mem_filter.mpr (h w hw)
theorem df_12 : ∀ j, j < 7 → defaultValue (tyX12 j) = vp_V [.null, .null, .null, .null, .null, .int 0, .long 0] j := by decide +kernel
theorem it_12 : ∀ w ∈ wsX120, w ∈ tb := by
  have h : ∀ w ∈ wsX120, w ∈ lw_tbl ∧ goodWord w = true := by decide +kernel
  exact fun w hw => List.mem_filter.mpr (h w hw)
theorem df_13 : ∀ j, j < 5 → defaultValue (tyX13 j) = vp_V [.null, .null, .null, .null, .int 0] j := by decide +kernel
theorem it_13 : ∀ w ∈ wsX130, w ∈ tb := by
  have h : ∀ w ∈ wsX130, w ∈ lw_tbl ∧ goodWord w = true := by decide +kernel
  exact fun w hw => List.mem_filter.mpr (h w hw)
theorem df_14 : ∀ j, j < 2 → defaultValue (tyX14 j) = vp_V [.null, .int 0] j := by decide +kernel
theorem it_14 : ∀ w ∈ wsX140, w ∈ tb := by
  have h : ∀ w ∈ wsX140, w ∈ lw_tbl ∧ goodWord w = true := by decide +kernel
  exact fun w hw => List.mem_filter.mpr (h w hw)
theorem df_15 : ∀ j, j < 59 → defaultValue (tyX15 j) = vp_V [.null, .int 0, .int 0, .int 0, .null, .null, .null, .null, .null, .null, .null, .int 0, .int 0, .null, .int 0, .int 0, .null, .int 0, .int 0, .int 0, .int 0, .int 0, .int 0, .null, .null, .null, .null, .null, .null, .null, .int 0, .int 0, .int 0, .int 0, .null, .null, .null, .null, .null, .null, .null, .null, .null, .null, .null, .null, .null, .null, .null, .null, .null, .null, .int 0, .int 0, .int 0, .null, .null, .null, .null] j := by decide +kernel
theorem it_15 : ∀ w ∈ wsX150, w ∈ tb := by
  have h : ∀ w ∈ wsX150, w ∈ lw_tbl ∧ goodWord w = true := by decide +kernel
  exact fun w hw => List.mem_filter.mpr (h w hw)
end
section
theorem dX0_init_0 : decode cX0_init 0 = .ok (.aload_n 0, 1) := by decide +kernel
theorem dX0_init_1 : decode cX0_init 1 = .ok (.invokespecial 3, 3) := by decide +kernel
theorem dX0_init_4 : decode cX0_init 4 = .ok (.aload_n 0, 1) := by decide +kernel
theorem dX0_init_5 : decode cX0_init 5 = .ok (.iconst 0, 1) := by decide +kernel
theorem dX0_init_6 : decode cX0_init 6 = .ok (.putfield 9, 3) := by decide +kernel
theorem dX0_init_9 : decode cX0_init 9 = .ok (.aload_n 0, 1) := by decide +kernel
theorem dX0_init_10 : decode cX0_init 10 = .ok (.iconst 0, 1) := by decide +kernel
theorem dX0_init_11 : decode cX0_init 11 = .ok (.putfield 15, 3) := by decide +kernel
theorem dX0_init_14 : decode cX0_init 14 = .ok (.aload_n 0, 1) := by decide +kernel
theorem dX0_init_15 : decode cX0_init 15 = .ok (.iload_n 1, 1) := by decide +kernel
theorem dX0_init_16 : decode cX0_init 16 = .ok (.newarray .int, 2) := by decide +kernel
theorem dX0_init_18 : decode cX0_init 18 = .ok (.putfield 19, 3) := by decide +kernel
theorem dX0_init_21 : decode cX0_init 21 = .ok (.return_, 1) := by decide +kernel
theorem kt_0 : Cond.methodLink RX0 3 objectInit ∈ tb := tb_at (i := 118) (by decide +kernel) (by decide +kernel)
theorem kt_1 : Cond.instanceMethod objectInit ∈ tb := tb_at (i := 111) (by decide +kernel) (by decide +kernel)
theorem kt_2 : Cond.code objectInit ⟨#[0xb1]⟩ 1 none ∈ tb := tb_at (i := 112) (by decide +kernel) (by decide +kernel)
theorem kt_3 : Cond.fieldLink RX0 9 "PostGate$Bytes" "size" "I" ∈ tb := tb_at (i := 120) (by decide +kernel) (by decide +kernel)
theorem kt_4 : Cond.fieldLink RX0 15 "PostGate$Bytes" "over" "Z" ∈ tb := tb_at (i := 128) (by decide +kernel) (by decide +kernel)
theorem kt_5 : Cond.arrayClass .int ∈ tb := tb_at (i := 136) (by decide +kernel) (by decide +kernel)
theorem kt_6 : Cond.fieldLink RX0 19 "PostGate$Bytes" "row" "[I" ∈ tb := tb_at (i := 119) (by decide +kernel) (by decide +kernel)
set_option maxHeartbeats 4000000 in
set_option maxRecDepth 100000 in
theorem c_X0_init (l : Launch) (dC : Nat → ClassId) (dI : Nat → Nat → Nat) (sz : Nat) (h0 : Nat) (n : Nat) (hn : n < 10000) : Met l yX0_init (.code yX0_init cX0_init 2 none :: tb) ({ frames := 1, cells := 1, slots := n, locals := 12 }) (va_Pc [.ref h0, .int (nI n)] (PW (dC, dI) sz [(h0, .inr (0, [.null, .int 0, .int 0]))] [])) (va_Qv (fun _ : Unit => True) (fun _ T9 => ∃ (q : Nat) (cA : ClassId), QW (dC, dI) (va_A [(h0, .inr (0, [.null, .int 0, .int 0]))] sz) [(h0, .inr (0, [.ref q, .int 0, .int 0])), (q, .inl (cA, n, .inl (fun _ => 0)))] [(cA, .int)] T9) (va_A [(h0, .inr (0, [.null, .int 0, .int 0]))] sz)) 1 n (va_A [(h0, .inr (0, [.null, .int 0, .int 0]))] sz) := by
  refine Met.ofW (cc := cX0_init) (maxL := 2) (ret := none) (by decide) rfl ?_
  intro p e s m args below meth c s₁ B hml hv
  obtain ⟨rfl, hsz, hP, hK, hD0, hE⟩ := hv
  have hx := B.exec
  have hb := B.bytes
  have hr := B.returns
  have hts : ∀ w ∈ tb, w.before _ s = true := fun w h => atoms_spec (ws := .code yX0_init cX0_init 2 none :: tb) B.pre w (List.mem_cons_of_mem _ h)
  have hown : s.vm.findClass RX0 = some m.cls := findClass_of_methodNamed B.named
  have hlocks := B.notSynchronized
  have hin : meth.name = "<init>" := (name_of_methodNamed B.named B.method).1
  subst hsz
  have hD := hD0.self (sz := s.heap.size)
  generalize hAe : va_A [(h0, .inr (0, [.null, .int 0, .int 0]))] s.heap.size = A at hD ⊢
  have hA : ∀ q : Nat, s.heap.size ≤ q → A q := fun q h => by rw [← hAe]; exact Or.inr h
  have hS : va_S A s.heap s.heap [] := va_S.rf
  have hP : va_P (dC, dI) vwCl [(h0, .inr (0, [.null, .int 0, .int 0]))] s.heap := hP
  have hl := lv_entry ([.ref h0, .int (nI n)]) (n := 2) (Nat.le_of_ble_eq_true rfl)
  rw [lg_entry_eq]
  generalize (lg_sl ([.ref h0, .int (nI n)]) ++ List.replicate (2 - (lg_sl ([.ref h0, .int (nI n)])).length) Slot.unset).toArray = ls at hl ⊢
  have hl : lv_has ls 2 [(0, .ref h0), (1, .int (nI n))] := hl
  refine lv_aload_n hx hb dX0_init_0 rfl (lv_at hl 0 rfl) ?_
  refine W.objInit hx hb hown (hts _ kt_0) (hts _ kt_1) (hts _ kt_2) rfl (by rw [hml]; exact hl.1) rfl dX0_init_1 (Nat.le_of_ble_eq_true rfl) (Nat.le_of_ble_eq_true rfl) ?_
  refine W.eq (g2 := F0 m 4 ls []) rfl ?_
  refine lv_aload_n hx hb dX0_init_4 rfl (lv_at hl 0 rfl) ?_
  refine lv_iconst (v := 0) hx hb dX0_init_5 (by decide) ?_
  refine va_put (D := (dC, dI)) (ci := 0) (v := .int 0) (ty := .int) (C := RX0) (T := TX0) (N := 3) hx hb hts it_0 tyX0 tyX0_ok nmX0 hown hK hP hD hS 0 rfl rfl 1 (by decide) (hts _ kt_3) (fun _ h9 => h9) rfl (by decide +kernel) rfl rfl (Nat.le_of_ble_eq_true rfl) dX0_init_6 (fun H locs hP hD hS => ?_)
  have hP : va_P (dC, dI) vwCl [(h0, .inr (0, [.null, .int 0, .int 0]))] H := hP
  have hD : va_D A [(h0, .inr (0, [.null, .int 0, .int 0]))] := hD
  refine lv_aload_n hx hb dX0_init_9 rfl (lv_at hl 0 rfl) ?_
  refine lv_iconst (v := 0) hx hb dX0_init_10 (by decide) ?_
  refine va_put (D := (dC, dI)) (ci := 0) (v := .int 0) (ty := .boolean) (C := RX0) (T := TX0) (N := 3) hx hb hts it_0 tyX0 tyX0_ok nmX0 hown hK hP hD hS 0 rfl rfl 2 (by decide) (hts _ kt_4) (fun _ h9 => h9) rfl (by decide +kernel) rfl rfl (Nat.le_of_ble_eq_true rfl) dX0_init_11 (fun H locs hP hD hS => ?_)
  have hP : va_P (dC, dI) vwCl [(h0, .inr (0, [.null, .int 0, .int 0]))] H := hP
  have hD : va_D A [(h0, .inr (0, [.null, .int 0, .int 0]))] := hD
  refine lv_aload_n hx hb dX0_init_14 rfl (lv_at hl 0 rfl) ?_
  refine lv_iload_n hx hb dX0_init_15 rfl (lv_at hl 1 rfl) ?_
  refine va_newa (atype := .int) (ty := .int) (a0 := (n, .inl (fun _ => 0))) (N' := n) hx hb (hts _ kt_5) rfl hK hP hD hS hA (fun _ => rfl) (nI_pos (by omega)) (nI_clamp (by omega)) (by show _ * 4 ≤ _; omega) (by show _ + 1 ≤ 1; omega) (by show _ + n ≤ n; omega) dX0_init_16 (fun q_1 cA_2 H hK hP hD hS => ?_)
  have hK : va_K (dC, dI) vwCl [(cA_2, .int)] s := hK
  have hP : va_P (dC, dI) vwCl [(h0, .inr (0, [.null, .int 0, .int 0])), (q_1, .inl (cA_2, n, .inl (fun _ => 0)))] H := hP
  have hD : va_D A [(h0, .inr (0, [.null, .int 0, .int 0])), (q_1, .inl (cA_2, n, .inl (fun _ => 0)))] := hD
  refine va_putF (D := (dC, dI)) (ci := 0) (v := .ref q_1) (ty := .array .int) (C := RX0) (T := TX0) (N := 3) hx hb hts it_0 tyX0 tyX0_ok nmX0 hown hK hP hD hS 0 rfl rfl 0 (by decide) (hts _ kt_6) (fun _ h9 => h9) rfl hin rfl (by decide +kernel) rfl rfl (Nat.le_of_ble_eq_true rfl) dX0_init_18 (fun H locs hP hD hS => ?_)
  have hP : va_P (dC, dI) vwCl [(h0, .inr (0, [.ref q_1, .int 0, .int 0])), (q_1, .inl (cA_2, n, .inl (fun _ => 0)))] H := hP
  have hD : va_D A [(h0, .inr (0, [.ref q_1, .int 0, .int 0])), (q_1, .inl (cA_2, n, .inl (fun _ => 0)))] := hD
  have hP9 := hP.sub (ws' := [(h0, .inr (0, [.ref q_1, .int 0, .int 0])), (q_1, .inl (cA_2, n, .inl (fun _ => 0)))]) [0, 1] rfl
  have hD9 := hD.sub (ws' := [(h0, .inr (0, [.ref q_1, .int 0, .int 0])), (q_1, .inl (cA_2, n, .inl (fun _ => 0)))]) [0, 1] (by decide) rfl
  have hK9 := hK.sub (tys' := [(cA_2, .int)]) [0] rfl
  refine W.widen (k := 1) (n := n) (by omega) (by omega) ?_
  exact W.vret hx hb hr (fun t ht hW => ⟨⟨(), rfl, trivial, ⟨q_1, cA_2, QW.mk ht hW hP9 hK9 hD9⟩⟩, hS.F ht⟩) hS.2.2 dX0_init_21
end
section
theorem dX10_init_0 : decode cX10_init 0 = .ok (.aload_n 0, 1) := by decide +kernel
theorem dX10_init_1 : decode cX10_init 1 = .ok (.invokespecial 1, 3) := by decide +kernel
theorem dX10_init_4 : decode cX10_init 4 = .ok (.aload_n 0, 1) := by decide +kernel
theorem dX10_init_5 : decode cX10_init 5 = .ok (.iconst 0, 1) := by decide +kernel
theorem dX10_init_6 : decode cX10_init 6 = .ok (.putfield 9, 3) := by decide +kernel
theorem dX10_init_9 : decode cX10_init 9 = .ok (.aload_n 0, 1) := by decide +kernel
theorem dX10_init_10 : decode cX10_init 10 = .ok (.bipush 43, 2) := by decide +kernel
theorem dX10_init_12 : decode cX10_init 12 = .ok (.putfield 13, 3) := by decide +kernel
theorem dX10_init_15 : decode cX10_init 15 = .ok (.aload_n 0, 1) := by decide +kernel
theorem dX10_init_16 : decode cX10_init 16 = .ok (.iconst 0, 1) := by decide +kernel
theorem dX10_init_17 : decode cX10_init 17 = .ok (.putfield 16, 3) := by decide +kernel
theorem dX10_init_20 : decode cX10_init 20 = .ok (.aload_n 0, 1) := by decide +kernel
theorem dX10_init_21 : decode cX10_init 21 = .ok (.iconst 0, 1) := by decide +kernel
theorem dX10_init_22 : decode cX10_init 22 = .ok (.putfield 19, 3) := by decide +kernel
theorem dX10_init_25 : decode cX10_init 25 = .ok (.aload_n 0, 1) := by decide +kernel
theorem dX10_init_26 : decode cX10_init 26 = .ok (.bipush 32, 2) := by decide +kernel
theorem dX10_init_28 : decode cX10_init 28 = .ok (.putfield 22, 3) := by decide +kernel
theorem dX10_init_31 : decode cX10_init 31 = .ok (.aload_n 0, 1) := by decide +kernel
theorem dX10_init_32 : decode cX10_init 32 = .ok (.iconst 0, 1) := by decide +kernel
theorem dX10_init_33 : decode cX10_init 33 = .ok (.putfield 25, 3) := by decide +kernel
theorem dX10_init_36 : decode cX10_init 36 = .ok (.return_, 1) := by decide +kernel
theorem dX3_init_0 : decode cX3_init 0 = .ok (.aload_n 0, 1) := by decide +kernel
theorem dX3_init_1 : decode cX3_init 1 = .ok (.invokespecial 3, 3) := by decide +kernel
theorem dX3_init_4 : decode cX3_init 4 = .ok (.aload_n 0, 1) := by decide +kernel
theorem dX3_init_5 : decode cX3_init 5 = .ok (.new 9, 3) := by decide +kernel
theorem dX3_init_8 : decode cX3_init 8 = .ok (.dup, 1) := by decide +kernel
theorem dX3_init_9 : decode cX3_init 9 = .ok (.bipush 60, 2) := by decide +kernel
theorem dX3_init_11 : decode cX3_init 11 = .ok (.invokespecial 11, 3) := by decide +kernel
theorem dX3_init_14 : decode cX3_init 14 = .ok (.putfield 14, 3) := by decide +kernel
theorem dX3_init_17 : decode cX3_init 17 = .ok (.aload_n 0, 1) := by decide +kernel
theorem dX3_init_18 : decode cX3_init 18 = .ok (.new 9, 3) := by decide +kernel
theorem dX3_init_21 : decode cX3_init 21 = .ok (.dup, 1) := by decide +kernel
theorem dX3_init_22 : decode cX3_init 22 = .ok (.sipush 700, 3) := by decide +kernel
theorem dX3_init_25 : decode cX3_init 25 = .ok (.invokespecial 11, 3) := by decide +kernel
theorem dX3_init_28 : decode cX3_init 28 = .ok (.putfield 20, 3) := by decide +kernel
theorem dX3_init_31 : decode cX3_init 31 = .ok (.aload_n 0, 1) := by decide +kernel
theorem dX3_init_32 : decode cX3_init 32 = .ok (.iconst 0, 1) := by decide +kernel
theorem dX3_init_33 : decode cX3_init 33 = .ok (.putfield 23, 3) := by decide +kernel
theorem dX3_init_36 : decode cX3_init 36 = .ok (.aload_n 0, 1) := by decide +kernel
theorem dX3_init_37 : decode cX3_init 37 = .ok (.iconst 0, 1) := by decide +kernel
theorem dX3_init_38 : decode cX3_init 38 = .ok (.putfield 27, 3) := by decide +kernel
theorem dX3_init_41 : decode cX3_init 41 = .ok (.return_, 1) := by decide +kernel
theorem dX4_init_0 : decode cX4_init 0 = .ok (.aload_n 0, 1) := by decide +kernel
theorem dX4_init_1 : decode cX4_init 1 = .ok (.invokespecial 3, 3) := by decide +kernel
theorem dX4_init_4 : decode cX4_init 4 = .ok (.aload_n 0, 1) := by decide +kernel
theorem dX4_init_5 : decode cX4_init 5 = .ok (.new 9, 3) := by decide +kernel
theorem dX4_init_8 : decode cX4_init 8 = .ok (.dup, 1) := by decide +kernel
theorem dX4_init_9 : decode cX4_init 9 = .ok (.sipush 3000, 3) := by decide +kernel
theorem dX4_init_12 : decode cX4_init 12 = .ok (.invokespecial 11, 3) := by decide +kernel
theorem dX4_init_15 : decode cX4_init 15 = .ok (.putfield 14, 3) := by decide +kernel
theorem dX4_init_18 : decode cX4_init 18 = .ok (.aload_n 0, 1) := by decide +kernel
theorem dX4_init_19 : decode cX4_init 19 = .ok (.bipush 20, 2) := by decide +kernel
theorem dX4_init_21 : decode cX4_init 21 = .ok (.newarray .int, 2) := by decide +kernel
theorem dX4_init_23 : decode cX4_init 23 = .ok (.putfield 20, 3) := by decide +kernel
theorem dX4_init_26 : decode cX4_init 26 = .ok (.aload_n 0, 1) := by decide +kernel
theorem dX4_init_27 : decode cX4_init 27 = .ok (.bipush 20, 2) := by decide +kernel
theorem dX4_init_29 : decode cX4_init 29 = .ok (.newarray .int, 2) := by decide +kernel
theorem dX4_init_31 : decode cX4_init 31 = .ok (.putfield 24, 3) := by decide +kernel
theorem dX4_init_34 : decode cX4_init 34 = .ok (.aload_n 0, 1) := by decide +kernel
theorem dX4_init_35 : decode cX4_init 35 = .ok (.bipush 20, 2) := by decide +kernel
theorem dX4_init_37 : decode cX4_init 37 = .ok (.newarray .int, 2) := by decide +kernel
theorem dX4_init_39 : decode cX4_init 39 = .ok (.putfield 27, 3) := by decide +kernel
theorem dX4_init_42 : decode cX4_init 42 = .ok (.aload_n 0, 1) := by decide +kernel
theorem dX4_init_43 : decode cX4_init 43 = .ok (.iconst 0, 1) := by decide +kernel
theorem dX4_init_44 : decode cX4_init 44 = .ok (.putfield 30, 3) := by decide +kernel
theorem dX4_init_47 : decode cX4_init 47 = .ok (.aload_n 0, 1) := by decide +kernel
theorem dX4_init_48 : decode cX4_init 48 = .ok (.iconst 0, 1) := by decide +kernel
theorem dX4_init_49 : decode cX4_init 49 = .ok (.putfield 34, 3) := by decide +kernel
theorem dX4_init_52 : decode cX4_init 52 = .ok (.return_, 1) := by decide +kernel
theorem dX6_init_0 : decode cX6_init 0 = .ok (.aload_n 0, 1) := by decide +kernel
theorem dX6_init_1 : decode cX6_init 1 = .ok (.invokespecial 1, 3) := by decide +kernel
theorem dX6_init_4 : decode cX6_init 4 = .ok (.aload_n 0, 1) := by decide +kernel
theorem dX6_init_5 : decode cX6_init 5 = .ok (.bipush 16, 2) := by decide +kernel
theorem dX6_init_7 : decode cX6_init 7 = .ok (.newarray .long, 2) := by decide +kernel
theorem dX6_init_9 : decode cX6_init 9 = .ok (.putfield 9, 3) := by decide +kernel
theorem dX6_init_12 : decode cX6_init 12 = .ok (.aload_n 0, 1) := by decide +kernel
theorem dX6_init_13 : decode cX6_init 13 = .ok (.bipush 16, 2) := by decide +kernel
theorem dX6_init_15 : decode cX6_init 15 = .ok (.newarray .long, 2) := by decide +kernel
theorem dX6_init_17 : decode cX6_init 17 = .ok (.putfield 13, 3) := by decide +kernel
theorem dX6_init_20 : decode cX6_init 20 = .ok (.aload_n 0, 1) := by decide +kernel
theorem dX6_init_21 : decode cX6_init 21 = .ok (.bipush 16, 2) := by decide +kernel
theorem dX6_init_23 : decode cX6_init 23 = .ok (.newarray .long, 2) := by decide +kernel
theorem dX6_init_25 : decode cX6_init 25 = .ok (.putfield 16, 3) := by decide +kernel
theorem dX6_init_28 : decode cX6_init 28 = .ok (.aload_n 0, 1) := by decide +kernel
theorem dX6_init_29 : decode cX6_init 29 = .ok (.bipush 18, 2) := by decide +kernel
theorem dX6_init_31 : decode cX6_init 31 = .ok (.newarray .long, 2) := by decide +kernel
theorem dX6_init_33 : decode cX6_init 33 = .ok (.putfield 19, 3) := by decide +kernel
theorem dX6_init_36 : decode cX6_init 36 = .ok (.aload_n 0, 1) := by decide +kernel
theorem dX6_init_37 : decode cX6_init 37 = .ok (.lconst 0, 1) := by decide +kernel
theorem dX6_init_38 : decode cX6_init 38 = .ok (.putfield 22, 3) := by decide +kernel
theorem dX6_init_41 : decode cX6_init 41 = .ok (.return_, 1) := by decide +kernel
theorem dX8_init_0 : decode cX8_init 0 = .ok (.aload_n 0, 1) := by decide +kernel
theorem dX8_init_1 : decode cX8_init 1 = .ok (.invokespecial 1, 3) := by decide +kernel
theorem dX8_init_4 : decode cX8_init 4 = .ok (.aload_n 0, 1) := by decide +kernel
theorem dX8_init_5 : decode cX8_init 5 = .ok (.bipush 64, 2) := by decide +kernel
theorem dX8_init_7 : decode cX8_init 7 = .ok (.newarray .int, 2) := by decide +kernel
theorem dX8_init_9 : decode cX8_init 9 = .ok (.putfield 7, 3) := by decide +kernel
theorem dX8_init_12 : decode cX8_init 12 = .ok (.aload_n 0, 1) := by decide +kernel
theorem dX8_init_13 : decode cX8_init 13 = .ok (.bipush 8, 2) := by decide +kernel
theorem dX8_init_15 : decode cX8_init 15 = .ok (.newarray .int, 2) := by decide +kernel
theorem dX8_init_17 : decode cX8_init 17 = .ok (.putfield 13, 3) := by decide +kernel
theorem dX8_init_20 : decode cX8_init 20 = .ok (.aload_n 0, 1) := by decide +kernel
theorem dX8_init_21 : decode cX8_init 21 = .ok (.bipush 8, 2) := by decide +kernel
theorem dX8_init_23 : decode cX8_init 23 = .ok (.newarray .int, 2) := by decide +kernel
theorem dX8_init_25 : decode cX8_init 25 = .ok (.putfield 16, 3) := by decide +kernel
theorem dX8_init_28 : decode cX8_init 28 = .ok (.return_, 1) := by decide +kernel
theorem dX9_init_0 : decode cX9_init 0 = .ok (.aload_n 0, 1) := by decide +kernel
theorem dX9_init_1 : decode cX9_init 1 = .ok (.invokespecial 1, 3) := by decide +kernel
theorem dX9_init_4 : decode cX9_init 4 = .ok (.aload_n 0, 1) := by decide +kernel
theorem dX9_init_5 : decode cX9_init 5 = .ok (.bipush 40, 2) := by decide +kernel
theorem dX9_init_7 : decode cX9_init 7 = .ok (.newarray .int, 2) := by decide +kernel
theorem dX9_init_9 : decode cX9_init 9 = .ok (.putfield 9, 3) := by decide +kernel
theorem dX9_init_12 : decode cX9_init 12 = .ok (.aload_n 0, 1) := by decide +kernel
theorem dX9_init_13 : decode cX9_init 13 = .ok (.bipush 40, 2) := by decide +kernel
theorem dX9_init_15 : decode cX9_init 15 = .ok (.newarray .int, 2) := by decide +kernel
theorem dX9_init_17 : decode cX9_init 17 = .ok (.putfield 13, 3) := by decide +kernel
theorem dX9_init_20 : decode cX9_init 20 = .ok (.aload_n 0, 1) := by decide +kernel
theorem dX9_init_21 : decode cX9_init 21 = .ok (.bipush 40, 2) := by decide +kernel
theorem dX9_init_23 : decode cX9_init 23 = .ok (.newarray .int, 2) := by decide +kernel
theorem dX9_init_25 : decode cX9_init 25 = .ok (.putfield 16, 3) := by decide +kernel
theorem dX9_init_28 : decode cX9_init 28 = .ok (.aload_n 0, 1) := by decide +kernel
theorem dX9_init_29 : decode cX9_init 29 = .ok (.iconst 0, 1) := by decide +kernel
theorem dX9_init_30 : decode cX9_init 30 = .ok (.putfield 19, 3) := by decide +kernel
theorem dX9_init_33 : decode cX9_init 33 = .ok (.aload_n 0, 1) := by decide +kernel
theorem dX9_init_34 : decode cX9_init 34 = .ok (.new 23, 3) := by decide +kernel
theorem dX9_init_37 : decode cX9_init 37 = .ok (.dup, 1) := by decide +kernel
theorem dX9_init_38 : decode cX9_init 38 = .ok (.iload_n 1, 1) := by decide +kernel
theorem dX9_init_39 : decode cX9_init 39 = .ok (.invokespecial 25, 3) := by decide +kernel
theorem dX9_init_42 : decode cX9_init 42 = .ok (.putfield 28, 3) := by decide +kernel
theorem dX9_init_45 : decode cX9_init 45 = .ok (.return_, 1) := by decide +kernel
theorem kt_7 : Cond.methodLink RX3 3 objectInit ∈ tb := tb_at (i := 149) (by decide +kernel) (by decide +kernel)
theorem kt_8 : Cond.classLink RX3 9 RX0 ∈ tb := tb_at (i := 150) (by decide +kernel) (by decide +kernel)
theorem kt_9 : Cond.instantiable RX0 3 ∈ tb := tb_at (i := 114) (by decide +kernel) (by decide +kernel)
theorem kt_10 : Cond.initialized RX0 ∈ tb := tb_at (i := 82) (by decide +kernel) (by decide +kernel)
theorem kt_11 : Cond.code yX0_init cX0_init 2 none ∈ tb := tb_at (i := 117) (by decide +kernel) (by decide +kernel)
theorem kt_12 : Cond.methodLink RX3 11 yX0_init ∈ tb := tb_at (i := 151) (by decide +kernel) (by decide +kernel)
theorem kt_13 : Cond.instanceMethod yX0_init ∈ tb := tb_at (i := 116) (by decide +kernel) (by decide +kernel)
theorem kt_14 : Cond.fieldLink RX3 14 "PostGate$Entry" "name" "LPostGate$Bytes;" ∈ tb := tb_at (i := 152) (by decide +kernel) (by decide +kernel)
theorem kt_15 : Cond.fieldLink RX3 20 "PostGate$Entry" "value" "LPostGate$Bytes;" ∈ tb := tb_at (i := 155) (by decide +kernel) (by decide +kernel)
theorem kt_16 : Cond.fieldLink RX3 23 "PostGate$Entry" "sort" "I" ∈ tb := tb_at (i := 157) (by decide +kernel) (by decide +kernel)
theorem kt_17 : Cond.fieldLink RX3 27 "PostGate$Entry" "address" "I" ∈ tb := tb_at (i := 160) (by decide +kernel) (by decide +kernel)
theorem kt_18 : Cond.methodLink RX10 1 objectInit ∈ tb := tb_at (i := 195) (by decide +kernel) (by decide +kernel)
theorem kt_19 : Cond.fieldLink RX10 9 "PostGate$Term" "kind" "I" ∈ tb := tb_at (i := 196) (by decide +kernel) (by decide +kernel)
theorem kt_20 : Cond.fieldLink RX10 13 "PostGate$Term" "sign" "I" ∈ tb := tb_at (i := 198) (by decide +kernel) (by decide +kernel)
theorem kt_21 : Cond.fieldLink RX10 16 "PostGate$Term" "start" "I" ∈ tb := tb_at (i := 200) (by decide +kernel) (by decide +kernel)
theorem kt_22 : Cond.fieldLink RX10 19 "PostGate$Term" "stop" "I" ∈ tb := tb_at (i := 202) (by decide +kernel) (by decide +kernel)
theorem kt_23 : Cond.fieldLink RX10 22 "PostGate$Term" "bits" "I" ∈ tb := tb_at (i := 204) (by decide +kernel) (by decide +kernel)
theorem kt_24 : Cond.fieldLink RX10 25 "PostGate$Term" "address" "I" ∈ tb := tb_at (i := 206) (by decide +kernel) (by decide +kernel)
theorem kt_25 : Cond.methodLink RX9 1 objectInit ∈ tb := tb_at (i := 270) (by decide +kernel) (by decide +kernel)
theorem kt_26 : Cond.fieldLink RX9 9 "PostGate$Tags" "starts" "[I" ∈ tb := tb_at (i := 275) (by decide +kernel) (by decide +kernel)
theorem kt_27 : Cond.fieldLink RX9 13 "PostGate$Tags" "signs" "[I" ∈ tb := tb_at (i := 276) (by decide +kernel) (by decide +kernel)
theorem kt_28 : Cond.fieldLink RX9 16 "PostGate$Tags" "ends" "[I" ∈ tb := tb_at (i := 277) (by decide +kernel) (by decide +kernel)
theorem kt_29 : Cond.fieldLink RX9 19 "PostGate$Tags" "count" "I" ∈ tb := tb_at (i := 278) (by decide +kernel) (by decide +kernel)
theorem kt_30 : Cond.classLink RX9 23 RX0 ∈ tb := tb_at (i := 271) (by decide +kernel) (by decide +kernel)
theorem kt_31 : Cond.methodLink RX9 25 yX0_init ∈ tb := tb_at (i := 272) (by decide +kernel) (by decide +kernel)
theorem kt_32 : Cond.fieldLink RX9 28 "PostGate$Tags" "text" "LPostGate$Bytes;" ∈ tb := tb_at (i := 273) (by decide +kernel) (by decide +kernel)
theorem kt_33 : Cond.methodLink RX8 1 objectInit ∈ tb := tb_at (i := 297) (by decide +kernel) (by decide +kernel)
theorem kt_34 : Cond.fieldLink RX8 7 "PostGate$Sha" "words" "[I" ∈ tb := tb_at (i := 298) (by decide +kernel) (by decide +kernel)
theorem kt_35 : Cond.fieldLink RX8 13 "PostGate$Sha" "state" "[I" ∈ tb := tb_at (i := 299) (by decide +kernel) (by decide +kernel)
theorem kt_36 : Cond.fieldLink RX8 16 "PostGate$Sha" "turn" "[I" ∈ tb := tb_at (i := 300) (by decide +kernel) (by decide +kernel)
theorem kt_37 : Cond.methodLink RX6 1 objectInit ∈ tb := tb_at (i := 314) (by decide +kernel) (by decide +kernel)
theorem kt_38 : Cond.arrayClass .long ∈ tb := tb_at (i := 331) (by decide +kernel) (by decide +kernel)
theorem kt_39 : Cond.fieldLink RX6 9 "PostGate$Power" "modulus" "[J" ∈ tb := tb_at (i := 315) (by decide +kernel) (by decide +kernel)
theorem kt_40 : Cond.fieldLink RX6 13 "PostGate$Power" "base" "[J" ∈ tb := tb_at (i := 316) (by decide +kernel) (by decide +kernel)
theorem kt_41 : Cond.fieldLink RX6 16 "PostGate$Power" "value" "[J" ∈ tb := tb_at (i := 317) (by decide +kernel) (by decide +kernel)
theorem kt_42 : Cond.fieldLink RX6 19 "PostGate$Power" "sum" "[J" ∈ tb := tb_at (i := 318) (by decide +kernel) (by decide +kernel)
theorem kt_43 : Cond.fieldLink RX6 22 "PostGate$Power" "factor" "J" ∈ tb := tb_at (i := 319) (by decide +kernel) (by decide +kernel)
theorem kt_44 : Cond.methodLink RX4 3 objectInit ∈ tb := tb_at (i := 427) (by decide +kernel) (by decide +kernel)
theorem kt_45 : Cond.classLink RX4 9 RX0 ∈ tb := tb_at (i := 428) (by decide +kernel) (by decide +kernel)
theorem kt_46 : Cond.methodLink RX4 11 yX0_init ∈ tb := tb_at (i := 429) (by decide +kernel) (by decide +kernel)
theorem kt_47 : Cond.fieldLink RX4 14 "PostGate$Message" "text" "LPostGate$Bytes;" ∈ tb := tb_at (i := 430) (by decide +kernel) (by decide +kernel)
theorem kt_48 : Cond.fieldLink RX4 20 "PostGate$Message" "starts" "[I" ∈ tb := tb_at (i := 433) (by decide +kernel) (by decide +kernel)
theorem kt_49 : Cond.fieldLink RX4 24 "PostGate$Message" "colons" "[I" ∈ tb := tb_at (i := 434) (by decide +kernel) (by decide +kernel)
theorem kt_50 : Cond.fieldLink RX4 27 "PostGate$Message" "ends" "[I" ∈ tb := tb_at (i := 437) (by decide +kernel) (by decide +kernel)
theorem kt_51 : Cond.fieldLink RX4 30 "PostGate$Message" "count" "I" ∈ tb := tb_at (i := 440) (by decide +kernel) (by decide +kernel)
theorem kt_52 : Cond.fieldLink RX4 34 "PostGate$Message" "bodyStart" "I" ∈ tb := tb_at (i := 443) (by decide +kernel) (by decide +kernel)
set_option maxHeartbeats 4000000 in
set_option maxRecDepth 100000 in
theorem c_X3_init (l : Launch) (dC : Nat → ClassId) (dI : Nat → Nat → Nat) (sz : Nat) (h0 : Nat) : Met l yX3_init (.code yX3_init cX3_init 1 none :: tb) ({ frames := 2, cells := 4, slots := 766, locals := 33 }) (va_Pc [.ref h0] (PW (dC, dI) sz [(h0, .inr (3, [.null, .null, .int 0, .int 0]))] [])) (va_Qv (fun _ : Unit => True) (fun _ T9 => ∃ (q1 : Nat) (q2 : Nat), QW (dC, dI) (va_A [(h0, .inr (3, [.null, .null, .int 0, .int 0]))] sz) [(h0, .inr (3, [.ref q1, .ref q2, .int 0, .int 0]))] [] T9) (va_A [(h0, .inr (3, [.null, .null, .int 0, .int 0]))] sz)) 4 766 (va_A [(h0, .inr (3, [.null, .null, .int 0, .int 0]))] sz) := by
  refine Met.ofW (cc := cX3_init) (maxL := 1) (ret := none) (by decide) rfl ?_
  intro p e s m args below meth c s₁ B hml hv
  obtain ⟨rfl, hsz, hP, hK, hD0, hE⟩ := hv
  have hx := B.exec
  have hb := B.bytes
  have hr := B.returns
  have hts : ∀ w ∈ tb, w.before _ s = true := fun w h => atoms_spec (ws := .code yX3_init cX3_init 1 none :: tb) B.pre w (List.mem_cons_of_mem _ h)
  have hown : s.vm.findClass RX3 = some m.cls := findClass_of_methodNamed B.named
  have hlocks := B.notSynchronized
  have hin : meth.name = "<init>" := (name_of_methodNamed B.named B.method).1
  subst hsz
  have hD := hD0.self (sz := s.heap.size)
  generalize hAe : va_A [(h0, .inr (3, [.null, .null, .int 0, .int 0]))] s.heap.size = A at hD ⊢
  have hA : ∀ q : Nat, s.heap.size ≤ q → A q := fun q h => by rw [← hAe]; exact Or.inr h
  have hS : va_S A s.heap s.heap [] := va_S.rf
  have hP : va_P (dC, dI) vwCl [(h0, .inr (3, [.null, .null, .int 0, .int 0]))] s.heap := hP
  have hl := lv_entry ([.ref h0]) (n := 1) (Nat.le_of_ble_eq_true rfl)
  rw [lg_entry_eq]
  generalize (lg_sl ([.ref h0]) ++ List.replicate (1 - (lg_sl ([.ref h0])).length) Slot.unset).toArray = ls at hl ⊢
  have hl : lv_has ls 1 [(0, .ref h0)] := hl
  refine lv_aload_n hx hb dX3_init_0 rfl (lv_at hl 0 rfl) ?_
  refine W.objInit hx hb hown (hts _ kt_7) (hts _ kt_1) (hts _ kt_2) rfl (by rw [hml]; exact hl.1) rfl dX3_init_1 (Nat.le_of_ble_eq_true rfl) (Nat.le_of_ble_eq_true rfl) ?_
  refine W.eq (g2 := F0 m 4 ls []) rfl ?_
  refine lv_aload_n hx hb dX3_init_4 rfl (lv_at hl 0 rfl) ?_
  refine va_new (ci := 0) (fs := [.null, .int 0, .int 0]) (C := RX0) (T := TX0) (N := 3) hx hb hts it_0 tyX0 tyX0_ok hown (hts _ kt_8) (hts _ kt_9) (hts _ kt_10) hK hP hD hS hA rfl df_0 (by show _ + 1 ≤ 4; omega) (by show _ + 3 ≤ 766; omega) dX3_init_5 (fun q_1 H hP hD hS => ?_)
  have hP : va_P (dC, dI) vwCl [(h0, .inr (3, [.null, .null, .int 0, .int 0])), (q_1, .inr (0, [.null, .int 0, .int 0]))] H := hP
  have hD : va_D A [(h0, .inr (3, [.null, .null, .int 0, .int 0])), (q_1, .inr (0, [.null, .int 0, .int 0]))] := hD
  refine lv_dup hx hb dX3_init_8 rfl ?_
  refine lv_bipush (v := 60) hx hb dX3_init_9 (by decide) ?_
  refine lv_topi (fun x ex => ?_)
  obtain rfl : x = nI 60 := ex.trans (by decide)
  have hPc := hP.sub (ws' := [(q_1, .inr (0, [.null, .int 0, .int 0]))]) [1] rfl
  have hDc := hD.sub (ws' := [(q_1, .inr (0, [.null, .int 0, .int 0]))]) [1] (by decide) rfl
  have hKc := hK.sub (tys' := []) [] rfl
  have hFc := va_free (wc := [(q_1, .inr (0, [.null, .int 0, .int 0]))]) hD hS hA [1] rfl
  refine va_callv (va_runI (As := [.int (nI 60)]) (rest := [.ref q_1, .ref h0]) ⟨hx, hb, hml, hown, hts⟩ (c_X0_init l dC dI H.size q_1 60 (by omega)) ⟨callB_of 1 hts (gi kt_11) rfl rfl rfl (hts _ kt_10) (hts _ kt_12) (by decide +kernel) ⟨Nat.le_of_ble_eq_true rfl, Nat.le_of_ble_eq_true rfl⟩, rfl, (hts _ kt_13)⟩ ⟨fun a U g mk q => ⟨q.1, PW.calling q.2⟩, fun U hU hW => ⟨rfl, PW.mk hU hW hPc hKc hDc hE⟩⟩ rfl rfl hl.1 rfl (lv_room (Nat.le_of_ble_eq_true rfl)) dX3_init_11 ⟨by show _ + 1 ≤ 4; omega, by show _ + 60 ≤ 766; omega⟩) hS (fun q _ h => hFc q h) hFc (fun u t H1 locs ht hvm hw hB hz1 hk1 hS => ?_)
  obtain ⟨q_3, cA_4, hB1⟩ := hB
  obtain ⟨hP, hD, hK⟩ := QW.join (wr := [(h0, .inr (3, [.null, .null, .int 0, .int 0]))]) hP hD hK [1] [0] rfl rfl (by decide) (by decide) hk1 hFc ht hvm hB1
  generalize H1 = H at hP hS ⊢
  have hK : va_K (dC, dI) vwCl [(cA_4, .int)] s := hK.sub [0] rfl
  have hP : va_P (dC, dI) vwCl [(h0, .inr (3, [.null, .null, .int 0, .int 0])), (q_1, .inr (0, [.ref q_3, .int 0, .int 0])), (q_3, .inl (cA_4, 60, .inl (fun _ => 0)))] H := hP
  have hD : va_D A [(h0, .inr (3, [.null, .null, .int 0, .int 0])), (q_1, .inr (0, [.ref q_3, .int 0, .int 0])), (q_3, .inl (cA_4, 60, .inl (fun _ => 0)))] := hD
  refine va_putF (D := (dC, dI)) (ci := 3) (v := .ref q_1) (ty := .object "PostGate$Bytes") (C := RX3) (T := TX3) (N := 4) hx hb hts it_3 tyX3 tyX3_ok nmX3 hown hK hP hD hS 0 rfl rfl 0 (by decide) (hts _ kt_14) (fun _ h9 => h9) rfl hin rfl (by decide +kernel) rfl rfl (Nat.le_of_ble_eq_true rfl) dX3_init_14 (fun H locs hP hD hS => ?_)
  have hP : va_P (dC, dI) vwCl [(h0, .inr (3, [.ref q_1, .null, .int 0, .int 0])), (q_1, .inr (0, [.ref q_3, .int 0, .int 0])), (q_3, .inl (cA_4, 60, .inl (fun _ => 0)))] H := hP
  have hD : va_D A [(h0, .inr (3, [.ref q_1, .null, .int 0, .int 0])), (q_1, .inr (0, [.ref q_3, .int 0, .int 0])), (q_3, .inl (cA_4, 60, .inl (fun _ => 0)))] := hD
  refine lv_aload_n hx hb dX3_init_17 rfl (lv_at hl 0 rfl) ?_
  refine va_new (ci := 0) (fs := [.null, .int 0, .int 0]) (C := RX0) (T := TX0) (N := 3) hx hb hts it_0 tyX0 tyX0_ok hown (hts _ kt_8) (hts _ kt_9) (hts _ kt_10) hK hP hD hS hA rfl df_0 (by show _ + 1 ≤ 4; omega) (by show _ + 3 ≤ 766; omega) dX3_init_18 (fun q_5 H hP hD hS => ?_)
  have hP : va_P (dC, dI) vwCl [(h0, .inr (3, [.ref q_1, .null, .int 0, .int 0])), (q_1, .inr (0, [.ref q_3, .int 0, .int 0])), (q_3, .inl (cA_4, 60, .inl (fun _ => 0))), (q_5, .inr (0, [.null, .int 0, .int 0]))] H := hP
  have hD : va_D A [(h0, .inr (3, [.ref q_1, .null, .int 0, .int 0])), (q_1, .inr (0, [.ref q_3, .int 0, .int 0])), (q_3, .inl (cA_4, 60, .inl (fun _ => 0))), (q_5, .inr (0, [.null, .int 0, .int 0]))] := hD
  refine lv_dup hx hb dX3_init_21 rfl ?_
  refine lv_sipush (v := 700) hx hb dX3_init_22 (by decide) ?_
  refine lv_topi (fun x ex => ?_)
  obtain rfl : x = nI 700 := ex.trans (by decide)
  have hPc := hP.sub (ws' := [(q_5, .inr (0, [.null, .int 0, .int 0]))]) [3] rfl
  have hDc := hD.sub (ws' := [(q_5, .inr (0, [.null, .int 0, .int 0]))]) [3] (by decide) rfl
  have hKc := hK.sub (tys' := []) [] rfl
  have hFc := va_free (wc := [(q_5, .inr (0, [.null, .int 0, .int 0]))]) hD hS hA [3] rfl
  refine va_callv (va_runI (As := [.int (nI 700)]) (rest := [.ref q_5, .ref h0]) ⟨hx, hb, hml, hown, hts⟩ (c_X0_init l dC dI H.size q_5 700 (by omega)) ⟨callB_of 1 hts (gi kt_11) rfl rfl rfl (hts _ kt_10) (hts _ kt_12) (by decide +kernel) ⟨Nat.le_of_ble_eq_true rfl, Nat.le_of_ble_eq_true rfl⟩, rfl, (hts _ kt_13)⟩ ⟨fun a U g mk q => ⟨q.1, PW.calling q.2⟩, fun U hU hW => ⟨rfl, PW.mk hU hW hPc hKc hDc hE⟩⟩ rfl rfl hl.1 rfl (lv_room (Nat.le_of_ble_eq_true rfl)) dX3_init_25 ⟨by show _ + 1 ≤ 4; omega, by show _ + 700 ≤ 766; omega⟩) hS (fun q _ h => hFc q h) hFc (fun u t H1 locs ht hvm hw hB hz1 hk1 hS => ?_)
  obtain ⟨q_7, cA_8, hB1⟩ := hB
  obtain ⟨hP, hD, hK⟩ := QW.join (wr := [(h0, .inr (3, [.ref q_1, .null, .int 0, .int 0])), (q_1, .inr (0, [.ref q_3, .int 0, .int 0])), (q_3, .inl (cA_4, 60, .inl (fun _ => 0)))]) hP hD hK [3] [0, 1, 2] rfl rfl (by decide) (by decide) hk1 hFc ht hvm hB1
  generalize H1 = H at hP hS ⊢
  have hK : va_K (dC, dI) vwCl [(cA_4, .int), (cA_8, .int)] s := hK.sub [0, 1] rfl
  have hP : va_P (dC, dI) vwCl [(h0, .inr (3, [.ref q_1, .null, .int 0, .int 0])), (q_1, .inr (0, [.ref q_3, .int 0, .int 0])), (q_3, .inl (cA_4, 60, .inl (fun _ => 0))), (q_5, .inr (0, [.ref q_7, .int 0, .int 0])), (q_7, .inl (cA_8, 700, .inl (fun _ => 0)))] H := hP
  have hD : va_D A [(h0, .inr (3, [.ref q_1, .null, .int 0, .int 0])), (q_1, .inr (0, [.ref q_3, .int 0, .int 0])), (q_3, .inl (cA_4, 60, .inl (fun _ => 0))), (q_5, .inr (0, [.ref q_7, .int 0, .int 0])), (q_7, .inl (cA_8, 700, .inl (fun _ => 0)))] := hD
  refine va_putF (D := (dC, dI)) (ci := 3) (v := .ref q_5) (ty := .object "PostGate$Bytes") (C := RX3) (T := TX3) (N := 4) hx hb hts it_3 tyX3 tyX3_ok nmX3 hown hK hP hD hS 0 rfl rfl 1 (by decide) (hts _ kt_15) (fun _ h9 => h9) rfl hin rfl (by decide +kernel) rfl rfl (Nat.le_of_ble_eq_true rfl) dX3_init_28 (fun H locs hP hD hS => ?_)
  have hP : va_P (dC, dI) vwCl [(h0, .inr (3, [.ref q_1, .ref q_5, .int 0, .int 0])), (q_1, .inr (0, [.ref q_3, .int 0, .int 0])), (q_3, .inl (cA_4, 60, .inl (fun _ => 0))), (q_5, .inr (0, [.ref q_7, .int 0, .int 0])), (q_7, .inl (cA_8, 700, .inl (fun _ => 0)))] H := hP
  have hD : va_D A [(h0, .inr (3, [.ref q_1, .ref q_5, .int 0, .int 0])), (q_1, .inr (0, [.ref q_3, .int 0, .int 0])), (q_3, .inl (cA_4, 60, .inl (fun _ => 0))), (q_5, .inr (0, [.ref q_7, .int 0, .int 0])), (q_7, .inl (cA_8, 700, .inl (fun _ => 0)))] := hD
  refine lv_aload_n hx hb dX3_init_31 rfl (lv_at hl 0 rfl) ?_
  refine lv_iconst (v := 0) hx hb dX3_init_32 (by decide) ?_
  refine va_put (D := (dC, dI)) (ci := 3) (v := .int 0) (ty := .int) (C := RX3) (T := TX3) (N := 4) hx hb hts it_3 tyX3 tyX3_ok nmX3 hown hK hP hD hS 0 rfl rfl 2 (by decide) (hts _ kt_16) (fun _ h9 => h9) rfl (by decide +kernel) rfl rfl (Nat.le_of_ble_eq_true rfl) dX3_init_33 (fun H locs hP hD hS => ?_)
  have hP : va_P (dC, dI) vwCl [(h0, .inr (3, [.ref q_1, .ref q_5, .int 0, .int 0])), (q_1, .inr (0, [.ref q_3, .int 0, .int 0])), (q_3, .inl (cA_4, 60, .inl (fun _ => 0))), (q_5, .inr (0, [.ref q_7, .int 0, .int 0])), (q_7, .inl (cA_8, 700, .inl (fun _ => 0)))] H := hP
  have hD : va_D A [(h0, .inr (3, [.ref q_1, .ref q_5, .int 0, .int 0])), (q_1, .inr (0, [.ref q_3, .int 0, .int 0])), (q_3, .inl (cA_4, 60, .inl (fun _ => 0))), (q_5, .inr (0, [.ref q_7, .int 0, .int 0])), (q_7, .inl (cA_8, 700, .inl (fun _ => 0)))] := hD
  refine lv_aload_n hx hb dX3_init_36 rfl (lv_at hl 0 rfl) ?_
  refine lv_iconst (v := 0) hx hb dX3_init_37 (by decide) ?_
  refine va_put (D := (dC, dI)) (ci := 3) (v := .int 0) (ty := .int) (C := RX3) (T := TX3) (N := 4) hx hb hts it_3 tyX3 tyX3_ok nmX3 hown hK hP hD hS 0 rfl rfl 3 (by decide) (hts _ kt_17) (fun _ h9 => h9) rfl (by decide +kernel) rfl rfl (Nat.le_of_ble_eq_true rfl) dX3_init_38 (fun H locs hP hD hS => ?_)
  have hP : va_P (dC, dI) vwCl [(h0, .inr (3, [.ref q_1, .ref q_5, .int 0, .int 0])), (q_1, .inr (0, [.ref q_3, .int 0, .int 0])), (q_3, .inl (cA_4, 60, .inl (fun _ => 0))), (q_5, .inr (0, [.ref q_7, .int 0, .int 0])), (q_7, .inl (cA_8, 700, .inl (fun _ => 0)))] H := hP
  have hD : va_D A [(h0, .inr (3, [.ref q_1, .ref q_5, .int 0, .int 0])), (q_1, .inr (0, [.ref q_3, .int 0, .int 0])), (q_3, .inl (cA_4, 60, .inl (fun _ => 0))), (q_5, .inr (0, [.ref q_7, .int 0, .int 0])), (q_7, .inl (cA_8, 700, .inl (fun _ => 0)))] := hD
  have hP9 := hP.sub (ws' := [(h0, .inr (3, [.ref q_1, .ref q_5, .int 0, .int 0]))]) [0] rfl
  have hD9 := hD.sub (ws' := [(h0, .inr (3, [.ref q_1, .ref q_5, .int 0, .int 0]))]) [0] (by decide) rfl
  have hK9 := hK.sub (tys' := []) [] rfl
  refine W.widen (k := 4) (n := 766) (by omega) (by omega) ?_
  exact W.vret hx hb hr (fun t ht hW => ⟨⟨(), rfl, trivial, ⟨q_1, q_5, QW.mk ht hW hP9 hK9 hD9⟩⟩, hS.F ht⟩) hS.2.2 dX3_init_41
set_option maxHeartbeats 4000000 in
set_option maxRecDepth 100000 in
theorem c_X10_init (l : Launch) (dC : Nat → ClassId) (dI : Nat → Nat → Nat) (sz : Nat) (h0 : Nat) : Met l yX10_init (.code yX10_init cX10_init 1 none :: tb) ({ frames := 1, cells := 0, slots := 0, locals := 12 }) (va_Pc [.ref h0] (PW (dC, dI) sz [(h0, .inr (10, [.int 0, .int 0, .int 0, .int 0, .int 0, .int 0]))] [])) (va_Qv (fun _ : Unit => True) (fun _ T9 => QW (dC, dI) (va_A [(h0, .inr (10, [.int 0, .int 0, .int 0, .int 0, .int 0, .int 0]))] sz) [(h0, .inr (10, [.int 0, .int 43, .int 0, .int 0, .int 32, .int 0]))] [] T9) (va_A [(h0, .inr (10, [.int 0, .int 0, .int 0, .int 0, .int 0, .int 0]))] sz)) 0 0 (va_A [(h0, .inr (10, [.int 0, .int 0, .int 0, .int 0, .int 0, .int 0]))] sz) := by
  refine Met.ofW (cc := cX10_init) (maxL := 1) (ret := none) (by decide) rfl ?_
  intro p e s m args below meth c s₁ B hml hv
  obtain ⟨rfl, hsz, hP, hK, hD0, hE⟩ := hv
  have hx := B.exec
  have hb := B.bytes
  have hr := B.returns
  have hts : ∀ w ∈ tb, w.before _ s = true := fun w h => atoms_spec (ws := .code yX10_init cX10_init 1 none :: tb) B.pre w (List.mem_cons_of_mem _ h)
  have hown : s.vm.findClass RX10 = some m.cls := findClass_of_methodNamed B.named
  have hlocks := B.notSynchronized
  have hin : meth.name = "<init>" := (name_of_methodNamed B.named B.method).1
  subst hsz
  have hD := hD0.self (sz := s.heap.size)
  generalize hAe : va_A [(h0, .inr (10, [.int 0, .int 0, .int 0, .int 0, .int 0, .int 0]))] s.heap.size = A at hD ⊢
  have hA : ∀ q : Nat, s.heap.size ≤ q → A q := fun q h => by rw [← hAe]; exact Or.inr h
  have hS : va_S A s.heap s.heap [] := va_S.rf
  have hP : va_P (dC, dI) vwCl [(h0, .inr (10, [.int 0, .int 0, .int 0, .int 0, .int 0, .int 0]))] s.heap := hP
  have hl := lv_entry ([.ref h0]) (n := 1) (Nat.le_of_ble_eq_true rfl)
  rw [lg_entry_eq]
  generalize (lg_sl ([.ref h0]) ++ List.replicate (1 - (lg_sl ([.ref h0])).length) Slot.unset).toArray = ls at hl ⊢
  have hl : lv_has ls 1 [(0, .ref h0)] := hl
  refine lv_aload_n hx hb dX10_init_0 rfl (lv_at hl 0 rfl) ?_
  refine W.objInit hx hb hown (hts _ kt_18) (hts _ kt_1) (hts _ kt_2) rfl (by rw [hml]; exact hl.1) rfl dX10_init_1 (Nat.le_of_ble_eq_true rfl) (Nat.le_of_ble_eq_true rfl) ?_
  refine W.eq (g2 := F0 m 4 ls []) rfl ?_
  refine lv_aload_n hx hb dX10_init_4 rfl (lv_at hl 0 rfl) ?_
  refine lv_iconst (v := 0) hx hb dX10_init_5 (by decide) ?_
  refine va_put (D := (dC, dI)) (ci := 10) (v := .int 0) (ty := .int) (C := RX10) (T := TX10) (N := 6) hx hb hts it_10 tyX10 tyX10_ok nmX10 hown hK hP hD hS 0 rfl rfl 0 (by decide) (hts _ kt_19) (fun _ h9 => h9) rfl (by decide +kernel) rfl rfl (Nat.le_of_ble_eq_true rfl) dX10_init_6 (fun H locs hP hD hS => ?_)
  have hP : va_P (dC, dI) vwCl [(h0, .inr (10, [.int 0, .int 0, .int 0, .int 0, .int 0, .int 0]))] H := hP
  have hD : va_D A [(h0, .inr (10, [.int 0, .int 0, .int 0, .int 0, .int 0, .int 0]))] := hD
  refine lv_aload_n hx hb dX10_init_9 rfl (lv_at hl 0 rfl) ?_
  refine lv_bipush (v := 43) hx hb dX10_init_10 (by decide) ?_
  refine va_put (D := (dC, dI)) (ci := 10) (v := .int 43) (ty := .int) (C := RX10) (T := TX10) (N := 6) hx hb hts it_10 tyX10 tyX10_ok nmX10 hown hK hP hD hS 0 rfl rfl 1 (by decide) (hts _ kt_20) (fun _ h9 => h9) rfl (by decide +kernel) rfl rfl (Nat.le_of_ble_eq_true rfl) dX10_init_12 (fun H locs hP hD hS => ?_)
  have hP : va_P (dC, dI) vwCl [(h0, .inr (10, [.int 0, .int 43, .int 0, .int 0, .int 0, .int 0]))] H := hP
  have hD : va_D A [(h0, .inr (10, [.int 0, .int 43, .int 0, .int 0, .int 0, .int 0]))] := hD
  refine lv_aload_n hx hb dX10_init_15 rfl (lv_at hl 0 rfl) ?_
  refine lv_iconst (v := 0) hx hb dX10_init_16 (by decide) ?_
  refine va_put (D := (dC, dI)) (ci := 10) (v := .int 0) (ty := .int) (C := RX10) (T := TX10) (N := 6) hx hb hts it_10 tyX10 tyX10_ok nmX10 hown hK hP hD hS 0 rfl rfl 2 (by decide) (hts _ kt_21) (fun _ h9 => h9) rfl (by decide +kernel) rfl rfl (Nat.le_of_ble_eq_true rfl) dX10_init_17 (fun H locs hP hD hS => ?_)
  have hP : va_P (dC, dI) vwCl [(h0, .inr (10, [.int 0, .int 43, .int 0, .int 0, .int 0, .int 0]))] H := hP
  have hD : va_D A [(h0, .inr (10, [.int 0, .int 43, .int 0, .int 0, .int 0, .int 0]))] := hD
  refine lv_aload_n hx hb dX10_init_20 rfl (lv_at hl 0 rfl) ?_
  refine lv_iconst (v := 0) hx hb dX10_init_21 (by decide) ?_
  refine va_put (D := (dC, dI)) (ci := 10) (v := .int 0) (ty := .int) (C := RX10) (T := TX10) (N := 6) hx hb hts it_10 tyX10 tyX10_ok nmX10 hown hK hP hD hS 0 rfl rfl 3 (by decide) (hts _ kt_22) (fun _ h9 => h9) rfl (by decide +kernel) rfl rfl (Nat.le_of_ble_eq_true rfl) dX10_init_22 (fun H locs hP hD hS => ?_)
  have hP : va_P (dC, dI) vwCl [(h0, .inr (10, [.int 0, .int 43, .int 0, .int 0, .int 0, .int 0]))] H := hP
  have hD : va_D A [(h0, .inr (10, [.int 0, .int 43, .int 0, .int 0, .int 0, .int 0]))] := hD
  refine lv_aload_n hx hb dX10_init_25 rfl (lv_at hl 0 rfl) ?_
  refine lv_bipush (v := 32) hx hb dX10_init_26 (by decide) ?_
  refine va_put (D := (dC, dI)) (ci := 10) (v := .int 32) (ty := .int) (C := RX10) (T := TX10) (N := 6) hx hb hts it_10 tyX10 tyX10_ok nmX10 hown hK hP hD hS 0 rfl rfl 4 (by decide) (hts _ kt_23) (fun _ h9 => h9) rfl (by decide +kernel) rfl rfl (Nat.le_of_ble_eq_true rfl) dX10_init_28 (fun H locs hP hD hS => ?_)
  have hP : va_P (dC, dI) vwCl [(h0, .inr (10, [.int 0, .int 43, .int 0, .int 0, .int 32, .int 0]))] H := hP
  have hD : va_D A [(h0, .inr (10, [.int 0, .int 43, .int 0, .int 0, .int 32, .int 0]))] := hD
  refine lv_aload_n hx hb dX10_init_31 rfl (lv_at hl 0 rfl) ?_
  refine lv_iconst (v := 0) hx hb dX10_init_32 (by decide) ?_
  refine va_put (D := (dC, dI)) (ci := 10) (v := .int 0) (ty := .int) (C := RX10) (T := TX10) (N := 6) hx hb hts it_10 tyX10 tyX10_ok nmX10 hown hK hP hD hS 0 rfl rfl 5 (by decide) (hts _ kt_24) (fun _ h9 => h9) rfl (by decide +kernel) rfl rfl (Nat.le_of_ble_eq_true rfl) dX10_init_33 (fun H locs hP hD hS => ?_)
  have hP : va_P (dC, dI) vwCl [(h0, .inr (10, [.int 0, .int 43, .int 0, .int 0, .int 32, .int 0]))] H := hP
  have hD : va_D A [(h0, .inr (10, [.int 0, .int 43, .int 0, .int 0, .int 32, .int 0]))] := hD
  have hP9 := hP.sub (ws' := [(h0, .inr (10, [.int 0, .int 43, .int 0, .int 0, .int 32, .int 0]))]) [0] rfl
  have hD9 := hD.sub (ws' := [(h0, .inr (10, [.int 0, .int 43, .int 0, .int 0, .int 32, .int 0]))]) [0] (by decide) rfl
  have hK9 := hK.sub (tys' := []) [] rfl
  refine W.widen (k := 0) (n := 0) (by omega) (by omega) ?_
  exact W.vret hx hb hr (fun t ht hW => ⟨⟨(), rfl, trivial, QW.mk ht hW hP9 hK9 hD9⟩, hS.F ht⟩) hS.2.2 dX10_init_36
set_option maxHeartbeats 4000000 in
set_option maxRecDepth 100000 in
theorem c_X9_init (l : Launch) (dC : Nat → ClassId) (dI : Nat → Nat → Nat) (sz : Nat) (h0 : Nat) (n : Nat) (hn : n < 10000) : Met l yX9_init (.code yX9_init cX9_init 2 none :: tb) ({ frames := 2, cells := 5, slots := n + 123, locals := 33 }) (va_Pc [.ref h0, .int (nI n)] (PW (dC, dI) sz [(h0, .inr (9, [.null, .null, .null, .null, .int 0]))] [])) (va_Qv (fun _ : Unit => True) (fun _ T9 => QW (dC, dI) (va_A [(h0, .inr (9, [.null, .null, .null, .null, .int 0]))] sz) [] [] T9) (va_A [(h0, .inr (9, [.null, .null, .null, .null, .int 0]))] sz)) 5 (n + 123) (va_A [(h0, .inr (9, [.null, .null, .null, .null, .int 0]))] sz) := by
  refine Met.ofW (cc := cX9_init) (maxL := 2) (ret := none) (by decide) rfl ?_
  intro p e s m args below meth c s₁ B hml hv
  obtain ⟨rfl, hsz, hP, hK, hD0, hE⟩ := hv
  have hx := B.exec
  have hb := B.bytes
  have hr := B.returns
  have hts : ∀ w ∈ tb, w.before _ s = true := fun w h => atoms_spec (ws := .code yX9_init cX9_init 2 none :: tb) B.pre w (List.mem_cons_of_mem _ h)
  have hown : s.vm.findClass RX9 = some m.cls := findClass_of_methodNamed B.named
  have hlocks := B.notSynchronized
  have hin : meth.name = "<init>" := (name_of_methodNamed B.named B.method).1
  subst hsz
  have hD := hD0.self (sz := s.heap.size)
  generalize hAe : va_A [(h0, .inr (9, [.null, .null, .null, .null, .int 0]))] s.heap.size = A at hD ⊢
  have hA : ∀ q : Nat, s.heap.size ≤ q → A q := fun q h => by rw [← hAe]; exact Or.inr h
  have hS : va_S A s.heap s.heap [] := va_S.rf
  have hP : va_P (dC, dI) vwCl [(h0, .inr (9, [.null, .null, .null, .null, .int 0]))] s.heap := hP
  have hl := lv_entry ([.ref h0, .int (nI n)]) (n := 2) (Nat.le_of_ble_eq_true rfl)
  rw [lg_entry_eq]
  generalize (lg_sl ([.ref h0, .int (nI n)]) ++ List.replicate (2 - (lg_sl ([.ref h0, .int (nI n)])).length) Slot.unset).toArray = ls at hl ⊢
  have hl : lv_has ls 2 [(0, .ref h0), (1, .int (nI n))] := hl
  refine lv_aload_n hx hb dX9_init_0 rfl (lv_at hl 0 rfl) ?_
  refine W.objInit hx hb hown (hts _ kt_25) (hts _ kt_1) (hts _ kt_2) rfl (by rw [hml]; exact hl.1) rfl dX9_init_1 (Nat.le_of_ble_eq_true rfl) (Nat.le_of_ble_eq_true rfl) ?_
  refine W.eq (g2 := F0 m 4 ls []) rfl ?_
  refine lv_aload_n hx hb dX9_init_4 rfl (lv_at hl 0 rfl) ?_
  refine lv_bipush (v := 40) hx hb dX9_init_5 (by decide) ?_
  refine va_newa (atype := .int) (ty := .int) (a0 := (40, .inl (fun _ => 0))) (N' := 40) hx hb (hts _ kt_5) rfl hK hP hD hS hA (fun _ => rfl) (by decide) (by decide) (by show _ * 4 ≤ _; omega) (by show _ + 1 ≤ 5; omega) (by show _ + 40 ≤ n + 123; omega) dX9_init_7 (fun q_1 cA_2 H hK hP hD hS => ?_)
  have hK : va_K (dC, dI) vwCl [(cA_2, .int)] s := hK
  have hP : va_P (dC, dI) vwCl [(h0, .inr (9, [.null, .null, .null, .null, .int 0])), (q_1, .inl (cA_2, 40, .inl (fun _ => 0)))] H := hP
  have hD : va_D A [(h0, .inr (9, [.null, .null, .null, .null, .int 0])), (q_1, .inl (cA_2, 40, .inl (fun _ => 0)))] := hD
  refine va_putF (D := (dC, dI)) (ci := 9) (v := .ref q_1) (ty := .array .int) (C := RX9) (T := TX9) (N := 5) hx hb hts it_9 tyX9 tyX9_ok nmX9 hown hK hP hD hS 0 rfl rfl 1 (by decide) (hts _ kt_26) (fun _ h9 => h9) rfl hin rfl (by decide +kernel) rfl rfl (Nat.le_of_ble_eq_true rfl) dX9_init_9 (fun H locs hP hD hS => ?_)
  have hP : va_P (dC, dI) vwCl [(h0, .inr (9, [.null, .ref q_1, .null, .null, .int 0])), (q_1, .inl (cA_2, 40, .inl (fun _ => 0)))] H := hP
  have hD : va_D A [(h0, .inr (9, [.null, .ref q_1, .null, .null, .int 0])), (q_1, .inl (cA_2, 40, .inl (fun _ => 0)))] := hD
  refine lv_aload_n hx hb dX9_init_12 rfl (lv_at hl 0 rfl) ?_
  refine lv_bipush (v := 40) hx hb dX9_init_13 (by decide) ?_
  refine va_newa (atype := .int) (ty := .int) (a0 := (40, .inl (fun _ => 0))) (N' := 40) hx hb (hts _ kt_5) rfl hK hP hD hS hA (fun _ => rfl) (by decide) (by decide) (by show _ * 4 ≤ _; omega) (by show _ + 1 ≤ 5; omega) (by show _ + 40 ≤ n + 123; omega) dX9_init_15 (fun q_3 cA_4 H hK hP hD hS => ?_)
  have hK : va_K (dC, dI) vwCl [(cA_2, .int), (cA_4, .int)] s := hK
  have hP : va_P (dC, dI) vwCl [(h0, .inr (9, [.null, .ref q_1, .null, .null, .int 0])), (q_1, .inl (cA_2, 40, .inl (fun _ => 0))), (q_3, .inl (cA_4, 40, .inl (fun _ => 0)))] H := hP
  have hD : va_D A [(h0, .inr (9, [.null, .ref q_1, .null, .null, .int 0])), (q_1, .inl (cA_2, 40, .inl (fun _ => 0))), (q_3, .inl (cA_4, 40, .inl (fun _ => 0)))] := hD
  refine va_putF (D := (dC, dI)) (ci := 9) (v := .ref q_3) (ty := .array .int) (C := RX9) (T := TX9) (N := 5) hx hb hts it_9 tyX9 tyX9_ok nmX9 hown hK hP hD hS 0 rfl rfl 2 (by decide) (hts _ kt_27) (fun _ h9 => h9) rfl hin rfl (by decide +kernel) rfl rfl (Nat.le_of_ble_eq_true rfl) dX9_init_17 (fun H locs hP hD hS => ?_)
  have hP : va_P (dC, dI) vwCl [(h0, .inr (9, [.null, .ref q_1, .ref q_3, .null, .int 0])), (q_1, .inl (cA_2, 40, .inl (fun _ => 0))), (q_3, .inl (cA_4, 40, .inl (fun _ => 0)))] H := hP
  have hD : va_D A [(h0, .inr (9, [.null, .ref q_1, .ref q_3, .null, .int 0])), (q_1, .inl (cA_2, 40, .inl (fun _ => 0))), (q_3, .inl (cA_4, 40, .inl (fun _ => 0)))] := hD
  refine lv_aload_n hx hb dX9_init_20 rfl (lv_at hl 0 rfl) ?_
  refine lv_bipush (v := 40) hx hb dX9_init_21 (by decide) ?_
  refine va_newa (atype := .int) (ty := .int) (a0 := (40, .inl (fun _ => 0))) (N' := 40) hx hb (hts _ kt_5) rfl hK hP hD hS hA (fun _ => rfl) (by decide) (by decide) (by show _ * 4 ≤ _; omega) (by show _ + 1 ≤ 5; omega) (by show _ + 40 ≤ n + 123; omega) dX9_init_23 (fun q_5 cA_6 H hK hP hD hS => ?_)
  have hK : va_K (dC, dI) vwCl [(cA_2, .int), (cA_4, .int), (cA_6, .int)] s := hK
  have hP : va_P (dC, dI) vwCl [(h0, .inr (9, [.null, .ref q_1, .ref q_3, .null, .int 0])), (q_1, .inl (cA_2, 40, .inl (fun _ => 0))), (q_3, .inl (cA_4, 40, .inl (fun _ => 0))), (q_5, .inl (cA_6, 40, .inl (fun _ => 0)))] H := hP
  have hD : va_D A [(h0, .inr (9, [.null, .ref q_1, .ref q_3, .null, .int 0])), (q_1, .inl (cA_2, 40, .inl (fun _ => 0))), (q_3, .inl (cA_4, 40, .inl (fun _ => 0))), (q_5, .inl (cA_6, 40, .inl (fun _ => 0)))] := hD
  refine va_putF (D := (dC, dI)) (ci := 9) (v := .ref q_5) (ty := .array .int) (C := RX9) (T := TX9) (N := 5) hx hb hts it_9 tyX9 tyX9_ok nmX9 hown hK hP hD hS 0 rfl rfl 3 (by decide) (hts _ kt_28) (fun _ h9 => h9) rfl hin rfl (by decide +kernel) rfl rfl (Nat.le_of_ble_eq_true rfl) dX9_init_25 (fun H locs hP hD hS => ?_)
  have hP : va_P (dC, dI) vwCl [(h0, .inr (9, [.null, .ref q_1, .ref q_3, .ref q_5, .int 0])), (q_1, .inl (cA_2, 40, .inl (fun _ => 0))), (q_3, .inl (cA_4, 40, .inl (fun _ => 0))), (q_5, .inl (cA_6, 40, .inl (fun _ => 0)))] H := hP
  have hD : va_D A [(h0, .inr (9, [.null, .ref q_1, .ref q_3, .ref q_5, .int 0])), (q_1, .inl (cA_2, 40, .inl (fun _ => 0))), (q_3, .inl (cA_4, 40, .inl (fun _ => 0))), (q_5, .inl (cA_6, 40, .inl (fun _ => 0)))] := hD
  refine lv_aload_n hx hb dX9_init_28 rfl (lv_at hl 0 rfl) ?_
  refine lv_iconst (v := 0) hx hb dX9_init_29 (by decide) ?_
  refine va_put (D := (dC, dI)) (ci := 9) (v := .int 0) (ty := .int) (C := RX9) (T := TX9) (N := 5) hx hb hts it_9 tyX9 tyX9_ok nmX9 hown hK hP hD hS 0 rfl rfl 4 (by decide) (hts _ kt_29) (fun _ h9 => h9) rfl (by decide +kernel) rfl rfl (Nat.le_of_ble_eq_true rfl) dX9_init_30 (fun H locs hP hD hS => ?_)
  have hP : va_P (dC, dI) vwCl [(h0, .inr (9, [.null, .ref q_1, .ref q_3, .ref q_5, .int 0])), (q_1, .inl (cA_2, 40, .inl (fun _ => 0))), (q_3, .inl (cA_4, 40, .inl (fun _ => 0))), (q_5, .inl (cA_6, 40, .inl (fun _ => 0)))] H := hP
  have hD : va_D A [(h0, .inr (9, [.null, .ref q_1, .ref q_3, .ref q_5, .int 0])), (q_1, .inl (cA_2, 40, .inl (fun _ => 0))), (q_3, .inl (cA_4, 40, .inl (fun _ => 0))), (q_5, .inl (cA_6, 40, .inl (fun _ => 0)))] := hD
  refine lv_aload_n hx hb dX9_init_33 rfl (lv_at hl 0 rfl) ?_
  refine va_new (ci := 0) (fs := [.null, .int 0, .int 0]) (C := RX0) (T := TX0) (N := 3) hx hb hts it_0 tyX0 tyX0_ok hown (hts _ kt_30) (hts _ kt_9) (hts _ kt_10) hK hP hD hS hA rfl df_0 (by show _ + 1 ≤ 5; omega) (by show _ + 3 ≤ n + 123; omega) dX9_init_34 (fun q_7 H hP hD hS => ?_)
  have hP : va_P (dC, dI) vwCl [(h0, .inr (9, [.null, .ref q_1, .ref q_3, .ref q_5, .int 0])), (q_1, .inl (cA_2, 40, .inl (fun _ => 0))), (q_3, .inl (cA_4, 40, .inl (fun _ => 0))), (q_5, .inl (cA_6, 40, .inl (fun _ => 0))), (q_7, .inr (0, [.null, .int 0, .int 0]))] H := hP
  have hD : va_D A [(h0, .inr (9, [.null, .ref q_1, .ref q_3, .ref q_5, .int 0])), (q_1, .inl (cA_2, 40, .inl (fun _ => 0))), (q_3, .inl (cA_4, 40, .inl (fun _ => 0))), (q_5, .inl (cA_6, 40, .inl (fun _ => 0))), (q_7, .inr (0, [.null, .int 0, .int 0]))] := hD
  refine lv_dup hx hb dX9_init_37 rfl ?_
  refine lv_iload_n hx hb dX9_init_38 rfl (lv_at hl 1 rfl) ?_
  have hPc := hP.sub (ws' := [(q_7, .inr (0, [.null, .int 0, .int 0]))]) [4] rfl
  have hDc := hD.sub (ws' := [(q_7, .inr (0, [.null, .int 0, .int 0]))]) [4] (by decide) rfl
  have hKc := hK.sub (tys' := []) [] rfl
  have hFc := va_free (wc := [(q_7, .inr (0, [.null, .int 0, .int 0]))]) hD hS hA [4] rfl
  refine va_callv (va_runI (As := [.int (nI n)]) (rest := [.ref q_7, .ref h0]) ⟨hx, hb, hml, hown, hts⟩ (c_X0_init l dC dI H.size q_7 n (by omega)) ⟨callB_of 1 hts (gi kt_11) rfl rfl rfl (hts _ kt_10) (hts _ kt_31) (by decide +kernel) ⟨Nat.le_of_ble_eq_true rfl, Nat.le_of_ble_eq_true rfl⟩, rfl, (hts _ kt_13)⟩ ⟨fun a U g mk q => ⟨q.1, PW.calling q.2⟩, fun U hU hW => ⟨rfl, PW.mk hU hW hPc hKc hDc hE⟩⟩ rfl rfl hl.1 rfl (lv_room (Nat.le_of_ble_eq_true rfl)) dX9_init_39 ⟨by show _ + 1 ≤ 5; omega, by show _ + n ≤ n + 123; omega⟩) hS (fun q _ h => hFc q h) hFc (fun u t H1 locs ht hvm hw hB hz1 hk1 hS => ?_)
  obtain ⟨q_9, cA_10, hB1⟩ := hB
  obtain ⟨hP, hD, hK⟩ := QW.join (wr := [(h0, .inr (9, [.null, .ref q_1, .ref q_3, .ref q_5, .int 0])), (q_1, .inl (cA_2, 40, .inl (fun _ => 0))), (q_3, .inl (cA_4, 40, .inl (fun _ => 0))), (q_5, .inl (cA_6, 40, .inl (fun _ => 0)))]) hP hD hK [4] [0, 1, 2, 3] rfl rfl (by decide) (by decide) hk1 hFc ht hvm hB1
  generalize H1 = H at hP hS ⊢
  have hK : va_K (dC, dI) vwCl [(cA_2, .int), (cA_4, .int), (cA_6, .int), (cA_10, .int)] s := hK.sub [0, 1, 2, 3] rfl
  have hP : va_P (dC, dI) vwCl [(h0, .inr (9, [.null, .ref q_1, .ref q_3, .ref q_5, .int 0])), (q_1, .inl (cA_2, 40, .inl (fun _ => 0))), (q_3, .inl (cA_4, 40, .inl (fun _ => 0))), (q_5, .inl (cA_6, 40, .inl (fun _ => 0))), (q_7, .inr (0, [.ref q_9, .int 0, .int 0])), (q_9, .inl (cA_10, n, .inl (fun _ => 0)))] H := hP
  have hD : va_D A [(h0, .inr (9, [.null, .ref q_1, .ref q_3, .ref q_5, .int 0])), (q_1, .inl (cA_2, 40, .inl (fun _ => 0))), (q_3, .inl (cA_4, 40, .inl (fun _ => 0))), (q_5, .inl (cA_6, 40, .inl (fun _ => 0))), (q_7, .inr (0, [.ref q_9, .int 0, .int 0])), (q_9, .inl (cA_10, n, .inl (fun _ => 0)))] := hD
  refine va_putF (D := (dC, dI)) (ci := 9) (v := .ref q_7) (ty := .object "PostGate$Bytes") (C := RX9) (T := TX9) (N := 5) hx hb hts it_9 tyX9 tyX9_ok nmX9 hown hK hP hD hS 0 rfl rfl 0 (by decide) (hts _ kt_32) (fun _ h9 => h9) rfl hin rfl (by decide +kernel) rfl rfl (Nat.le_of_ble_eq_true rfl) dX9_init_42 (fun H locs hP hD hS => ?_)
  have hP : va_P (dC, dI) vwCl [(h0, .inr (9, [.ref q_7, .ref q_1, .ref q_3, .ref q_5, .int 0])), (q_1, .inl (cA_2, 40, .inl (fun _ => 0))), (q_3, .inl (cA_4, 40, .inl (fun _ => 0))), (q_5, .inl (cA_6, 40, .inl (fun _ => 0))), (q_7, .inr (0, [.ref q_9, .int 0, .int 0])), (q_9, .inl (cA_10, n, .inl (fun _ => 0)))] H := hP
  have hD : va_D A [(h0, .inr (9, [.ref q_7, .ref q_1, .ref q_3, .ref q_5, .int 0])), (q_1, .inl (cA_2, 40, .inl (fun _ => 0))), (q_3, .inl (cA_4, 40, .inl (fun _ => 0))), (q_5, .inl (cA_6, 40, .inl (fun _ => 0))), (q_7, .inr (0, [.ref q_9, .int 0, .int 0])), (q_9, .inl (cA_10, n, .inl (fun _ => 0)))] := hD
  have hP9 := hP.sub (ws' := []) [] rfl
  have hD9 := hD.sub (ws' := []) [] (by decide) rfl
  have hK9 := hK.sub (tys' := []) [] rfl
  refine W.widen (k := 5) (n := n + 123) (by omega) (by omega) ?_
  exact W.vret hx hb hr (fun t ht hW => ⟨⟨(), rfl, trivial, QW.mk ht hW hP9 hK9 hD9⟩, hS.F ht⟩) hS.2.2 dX9_init_45
set_option maxHeartbeats 4000000 in
set_option maxRecDepth 100000 in
theorem c_X8_init (l : Launch) (dC : Nat → ClassId) (dI : Nat → Nat → Nat) (sz : Nat) (h0 : Nat) : Met l yX8_init (.code yX8_init cX8_init 1 none :: tb) ({ frames := 1, cells := 3, slots := 80, locals := 12 }) (va_Pc [.ref h0] (PW (dC, dI) sz [(h0, .inr (8, [.null, .null, .null]))] [])) (va_Qv (fun _ : Unit => True) (fun _ T9 => ∃ (qw : Nat) (qs : Nat) (qt : Nat) (cw : ClassId) (cs : ClassId) (ct : ClassId), QW (dC, dI) (va_A [(h0, .inr (8, [.null, .null, .null]))] sz) [(h0, .inr (8, [.ref qw, .ref qs, .ref qt])), (qw, .inl (cw, 64, .inl (fun _ => 0))), (qs, .inl (cs, 8, .inl (fun _ => 0))), (qt, .inl (ct, 8, .inl (fun _ => 0)))] [(cw, .int), (cs, .int), (ct, .int)] T9) (va_A [(h0, .inr (8, [.null, .null, .null]))] sz)) 3 80 (va_A [(h0, .inr (8, [.null, .null, .null]))] sz) := by
  refine Met.ofW (cc := cX8_init) (maxL := 1) (ret := none) (by decide) rfl ?_
  intro p e s m args below meth c s₁ B hml hv
  obtain ⟨rfl, hsz, hP, hK, hD0, hE⟩ := hv
  have hx := B.exec
  have hb := B.bytes
  have hr := B.returns
  have hts : ∀ w ∈ tb, w.before _ s = true := fun w h => atoms_spec (ws := .code yX8_init cX8_init 1 none :: tb) B.pre w (List.mem_cons_of_mem _ h)
  have hown : s.vm.findClass RX8 = some m.cls := findClass_of_methodNamed B.named
  have hlocks := B.notSynchronized
  have hin : meth.name = "<init>" := (name_of_methodNamed B.named B.method).1
  subst hsz
  have hD := hD0.self (sz := s.heap.size)
  generalize hAe : va_A [(h0, .inr (8, [.null, .null, .null]))] s.heap.size = A at hD ⊢
  have hA : ∀ q : Nat, s.heap.size ≤ q → A q := fun q h => by rw [← hAe]; exact Or.inr h
  have hS : va_S A s.heap s.heap [] := va_S.rf
  have hP : va_P (dC, dI) vwCl [(h0, .inr (8, [.null, .null, .null]))] s.heap := hP
  have hl := lv_entry ([.ref h0]) (n := 1) (Nat.le_of_ble_eq_true rfl)
  rw [lg_entry_eq]
  generalize (lg_sl ([.ref h0]) ++ List.replicate (1 - (lg_sl ([.ref h0])).length) Slot.unset).toArray = ls at hl ⊢
  have hl : lv_has ls 1 [(0, .ref h0)] := hl
  refine lv_aload_n hx hb dX8_init_0 rfl (lv_at hl 0 rfl) ?_
  refine W.objInit hx hb hown (hts _ kt_33) (hts _ kt_1) (hts _ kt_2) rfl (by rw [hml]; exact hl.1) rfl dX8_init_1 (Nat.le_of_ble_eq_true rfl) (Nat.le_of_ble_eq_true rfl) ?_
  refine W.eq (g2 := F0 m 4 ls []) rfl ?_
  refine lv_aload_n hx hb dX8_init_4 rfl (lv_at hl 0 rfl) ?_
  refine lv_bipush (v := 64) hx hb dX8_init_5 (by decide) ?_
  refine va_newa (atype := .int) (ty := .int) (a0 := (64, .inl (fun _ => 0))) (N' := 64) hx hb (hts _ kt_5) rfl hK hP hD hS hA (fun _ => rfl) (by decide) (by decide) (by show _ * 4 ≤ _; omega) (by show _ + 1 ≤ 3; omega) (by show _ + 64 ≤ 80; omega) dX8_init_7 (fun q_1 cA_2 H hK hP hD hS => ?_)
  have hK : va_K (dC, dI) vwCl [(cA_2, .int)] s := hK
  have hP : va_P (dC, dI) vwCl [(h0, .inr (8, [.null, .null, .null])), (q_1, .inl (cA_2, 64, .inl (fun _ => 0)))] H := hP
  have hD : va_D A [(h0, .inr (8, [.null, .null, .null])), (q_1, .inl (cA_2, 64, .inl (fun _ => 0)))] := hD
  refine va_putF (D := (dC, dI)) (ci := 8) (v := .ref q_1) (ty := .array .int) (C := RX8) (T := TX8) (N := 3) hx hb hts it_8 tyX8 tyX8_ok nmX8 hown hK hP hD hS 0 rfl rfl 0 (by decide) (hts _ kt_34) (fun _ h9 => h9) rfl hin rfl (by decide +kernel) rfl rfl (Nat.le_of_ble_eq_true rfl) dX8_init_9 (fun H locs hP hD hS => ?_)
  have hP : va_P (dC, dI) vwCl [(h0, .inr (8, [.ref q_1, .null, .null])), (q_1, .inl (cA_2, 64, .inl (fun _ => 0)))] H := hP
  have hD : va_D A [(h0, .inr (8, [.ref q_1, .null, .null])), (q_1, .inl (cA_2, 64, .inl (fun _ => 0)))] := hD
  refine lv_aload_n hx hb dX8_init_12 rfl (lv_at hl 0 rfl) ?_
  refine lv_bipush (v := 8) hx hb dX8_init_13 (by decide) ?_
  refine va_newa (atype := .int) (ty := .int) (a0 := (8, .inl (fun _ => 0))) (N' := 8) hx hb (hts _ kt_5) rfl hK hP hD hS hA (fun _ => rfl) (by decide) (by decide) (by show _ * 4 ≤ _; omega) (by show _ + 1 ≤ 3; omega) (by show _ + 8 ≤ 80; omega) dX8_init_15 (fun q_3 cA_4 H hK hP hD hS => ?_)
  have hK : va_K (dC, dI) vwCl [(cA_2, .int), (cA_4, .int)] s := hK
  have hP : va_P (dC, dI) vwCl [(h0, .inr (8, [.ref q_1, .null, .null])), (q_1, .inl (cA_2, 64, .inl (fun _ => 0))), (q_3, .inl (cA_4, 8, .inl (fun _ => 0)))] H := hP
  have hD : va_D A [(h0, .inr (8, [.ref q_1, .null, .null])), (q_1, .inl (cA_2, 64, .inl (fun _ => 0))), (q_3, .inl (cA_4, 8, .inl (fun _ => 0)))] := hD
  refine va_putF (D := (dC, dI)) (ci := 8) (v := .ref q_3) (ty := .array .int) (C := RX8) (T := TX8) (N := 3) hx hb hts it_8 tyX8 tyX8_ok nmX8 hown hK hP hD hS 0 rfl rfl 1 (by decide) (hts _ kt_35) (fun _ h9 => h9) rfl hin rfl (by decide +kernel) rfl rfl (Nat.le_of_ble_eq_true rfl) dX8_init_17 (fun H locs hP hD hS => ?_)
  have hP : va_P (dC, dI) vwCl [(h0, .inr (8, [.ref q_1, .ref q_3, .null])), (q_1, .inl (cA_2, 64, .inl (fun _ => 0))), (q_3, .inl (cA_4, 8, .inl (fun _ => 0)))] H := hP
  have hD : va_D A [(h0, .inr (8, [.ref q_1, .ref q_3, .null])), (q_1, .inl (cA_2, 64, .inl (fun _ => 0))), (q_3, .inl (cA_4, 8, .inl (fun _ => 0)))] := hD
  refine lv_aload_n hx hb dX8_init_20 rfl (lv_at hl 0 rfl) ?_
  refine lv_bipush (v := 8) hx hb dX8_init_21 (by decide) ?_
  refine va_newa (atype := .int) (ty := .int) (a0 := (8, .inl (fun _ => 0))) (N' := 8) hx hb (hts _ kt_5) rfl hK hP hD hS hA (fun _ => rfl) (by decide) (by decide) (by show _ * 4 ≤ _; omega) (by show _ + 1 ≤ 3; omega) (by show _ + 8 ≤ 80; omega) dX8_init_23 (fun q_5 cA_6 H hK hP hD hS => ?_)
  have hK : va_K (dC, dI) vwCl [(cA_2, .int), (cA_4, .int), (cA_6, .int)] s := hK
  have hP : va_P (dC, dI) vwCl [(h0, .inr (8, [.ref q_1, .ref q_3, .null])), (q_1, .inl (cA_2, 64, .inl (fun _ => 0))), (q_3, .inl (cA_4, 8, .inl (fun _ => 0))), (q_5, .inl (cA_6, 8, .inl (fun _ => 0)))] H := hP
  have hD : va_D A [(h0, .inr (8, [.ref q_1, .ref q_3, .null])), (q_1, .inl (cA_2, 64, .inl (fun _ => 0))), (q_3, .inl (cA_4, 8, .inl (fun _ => 0))), (q_5, .inl (cA_6, 8, .inl (fun _ => 0)))] := hD
  refine va_putF (D := (dC, dI)) (ci := 8) (v := .ref q_5) (ty := .array .int) (C := RX8) (T := TX8) (N := 3) hx hb hts it_8 tyX8 tyX8_ok nmX8 hown hK hP hD hS 0 rfl rfl 2 (by decide) (hts _ kt_36) (fun _ h9 => h9) rfl hin rfl (by decide +kernel) rfl rfl (Nat.le_of_ble_eq_true rfl) dX8_init_25 (fun H locs hP hD hS => ?_)
  have hP : va_P (dC, dI) vwCl [(h0, .inr (8, [.ref q_1, .ref q_3, .ref q_5])), (q_1, .inl (cA_2, 64, .inl (fun _ => 0))), (q_3, .inl (cA_4, 8, .inl (fun _ => 0))), (q_5, .inl (cA_6, 8, .inl (fun _ => 0)))] H := hP
  have hD : va_D A [(h0, .inr (8, [.ref q_1, .ref q_3, .ref q_5])), (q_1, .inl (cA_2, 64, .inl (fun _ => 0))), (q_3, .inl (cA_4, 8, .inl (fun _ => 0))), (q_5, .inl (cA_6, 8, .inl (fun _ => 0)))] := hD
  have hP9 := hP.sub (ws' := [(h0, .inr (8, [.ref q_1, .ref q_3, .ref q_5])), (q_1, .inl (cA_2, 64, .inl (fun _ => 0))), (q_3, .inl (cA_4, 8, .inl (fun _ => 0))), (q_5, .inl (cA_6, 8, .inl (fun _ => 0)))]) [0, 1, 2, 3] rfl
  have hD9 := hD.sub (ws' := [(h0, .inr (8, [.ref q_1, .ref q_3, .ref q_5])), (q_1, .inl (cA_2, 64, .inl (fun _ => 0))), (q_3, .inl (cA_4, 8, .inl (fun _ => 0))), (q_5, .inl (cA_6, 8, .inl (fun _ => 0)))]) [0, 1, 2, 3] (by decide) rfl
  have hK9 := hK.sub (tys' := [(cA_2, .int), (cA_4, .int), (cA_6, .int)]) [0, 1, 2] rfl
  refine W.widen (k := 3) (n := 80) (by omega) (by omega) ?_
  exact W.vret hx hb hr (fun t ht hW => ⟨⟨(), rfl, trivial, ⟨q_1, q_3, q_5, cA_2, cA_4, cA_6, QW.mk ht hW hP9 hK9 hD9⟩⟩, hS.F ht⟩) hS.2.2 dX8_init_28
set_option maxHeartbeats 4000000 in
set_option maxRecDepth 100000 in
theorem c_X6_init (l : Launch) (dC : Nat → ClassId) (dI : Nat → Nat → Nat) (sz : Nat) (h0 : Nat) : Met l yX6_init (.code yX6_init cX6_init 1 none :: tb) ({ frames := 1, cells := 4, slots := 66, locals := 12 }) (va_Pc [.ref h0] (PW (dC, dI) sz [(h0, .inr (6, [.null, .null, .null, .null, .long 0]))] [])) (va_Qv (fun _ : Unit => True) (fun _ T9 => QW (dC, dI) (va_A [(h0, .inr (6, [.null, .null, .null, .null, .long 0]))] sz) [] [] T9) (va_A [(h0, .inr (6, [.null, .null, .null, .null, .long 0]))] sz)) 4 66 (va_A [(h0, .inr (6, [.null, .null, .null, .null, .long 0]))] sz) := by
  refine Met.ofW (cc := cX6_init) (maxL := 1) (ret := none) (by decide) rfl ?_
  intro p e s m args below meth c s₁ B hml hv
  obtain ⟨rfl, hsz, hP, hK, hD0, hE⟩ := hv
  have hx := B.exec
  have hb := B.bytes
  have hr := B.returns
  have hts : ∀ w ∈ tb, w.before _ s = true := fun w h => atoms_spec (ws := .code yX6_init cX6_init 1 none :: tb) B.pre w (List.mem_cons_of_mem _ h)
  have hown : s.vm.findClass RX6 = some m.cls := findClass_of_methodNamed B.named
  have hlocks := B.notSynchronized
  have hin : meth.name = "<init>" := (name_of_methodNamed B.named B.method).1
  subst hsz
  have hD := hD0.self (sz := s.heap.size)
  generalize hAe : va_A [(h0, .inr (6, [.null, .null, .null, .null, .long 0]))] s.heap.size = A at hD ⊢
  have hA : ∀ q : Nat, s.heap.size ≤ q → A q := fun q h => by rw [← hAe]; exact Or.inr h
  have hS : va_S A s.heap s.heap [] := va_S.rf
  have hP : va_P (dC, dI) vwCl [(h0, .inr (6, [.null, .null, .null, .null, .long 0]))] s.heap := hP
  have hl := lv_entry ([.ref h0]) (n := 1) (Nat.le_of_ble_eq_true rfl)
  rw [lg_entry_eq]
  generalize (lg_sl ([.ref h0]) ++ List.replicate (1 - (lg_sl ([.ref h0])).length) Slot.unset).toArray = ls at hl ⊢
  have hl : lv_has ls 1 [(0, .ref h0)] := hl
  refine lv_aload_n hx hb dX6_init_0 rfl (lv_at hl 0 rfl) ?_
  refine W.objInit hx hb hown (hts _ kt_37) (hts _ kt_1) (hts _ kt_2) rfl (by rw [hml]; exact hl.1) rfl dX6_init_1 (Nat.le_of_ble_eq_true rfl) (Nat.le_of_ble_eq_true rfl) ?_
  refine W.eq (g2 := F0 m 4 ls []) rfl ?_
  refine lv_aload_n hx hb dX6_init_4 rfl (lv_at hl 0 rfl) ?_
  refine lv_bipush (v := 16) hx hb dX6_init_5 (by decide) ?_
  refine va_newa (atype := .long) (ty := .long) (a0 := (16, .inr (.inl (fun _ => 0)))) (N' := 16) hx hb (hts _ kt_38) rfl hK hP hD hS hA (fun _ => rfl) (by decide) (by decide) (by show _ * 8 ≤ _; omega) (by show _ + 1 ≤ 4; omega) (by show _ + 16 ≤ 66; omega) dX6_init_7 (fun q_1 cA_2 H hK hP hD hS => ?_)
  have hK : va_K (dC, dI) vwCl [(cA_2, .long)] s := hK
  have hP : va_P (dC, dI) vwCl [(h0, .inr (6, [.null, .null, .null, .null, .long 0])), (q_1, .inl (cA_2, 16, .inr (.inl (fun _ => 0))))] H := hP
  have hD : va_D A [(h0, .inr (6, [.null, .null, .null, .null, .long 0])), (q_1, .inl (cA_2, 16, .inr (.inl (fun _ => 0))))] := hD
  refine va_putF (D := (dC, dI)) (ci := 6) (v := .ref q_1) (ty := .array .long) (C := RX6) (T := TX6) (N := 5) hx hb hts it_6 tyX6 tyX6_ok nmX6 hown hK hP hD hS 0 rfl rfl 0 (by decide) (hts _ kt_39) (fun _ h9 => h9) rfl hin rfl (by decide +kernel) rfl rfl (Nat.le_of_ble_eq_true rfl) dX6_init_9 (fun H locs hP hD hS => ?_)
  have hP : va_P (dC, dI) vwCl [(h0, .inr (6, [.ref q_1, .null, .null, .null, .long 0])), (q_1, .inl (cA_2, 16, .inr (.inl (fun _ => 0))))] H := hP
  have hD : va_D A [(h0, .inr (6, [.ref q_1, .null, .null, .null, .long 0])), (q_1, .inl (cA_2, 16, .inr (.inl (fun _ => 0))))] := hD
  refine lv_aload_n hx hb dX6_init_12 rfl (lv_at hl 0 rfl) ?_
  refine lv_bipush (v := 16) hx hb dX6_init_13 (by decide) ?_
  refine va_newa (atype := .long) (ty := .long) (a0 := (16, .inr (.inl (fun _ => 0)))) (N' := 16) hx hb (hts _ kt_38) rfl hK hP hD hS hA (fun _ => rfl) (by decide) (by decide) (by show _ * 8 ≤ _; omega) (by show _ + 1 ≤ 4; omega) (by show _ + 16 ≤ 66; omega) dX6_init_15 (fun q_3 cA_4 H hK hP hD hS => ?_)
  have hK : va_K (dC, dI) vwCl [(cA_2, .long), (cA_4, .long)] s := hK
  have hP : va_P (dC, dI) vwCl [(h0, .inr (6, [.ref q_1, .null, .null, .null, .long 0])), (q_1, .inl (cA_2, 16, .inr (.inl (fun _ => 0)))), (q_3, .inl (cA_4, 16, .inr (.inl (fun _ => 0))))] H := hP
  have hD : va_D A [(h0, .inr (6, [.ref q_1, .null, .null, .null, .long 0])), (q_1, .inl (cA_2, 16, .inr (.inl (fun _ => 0)))), (q_3, .inl (cA_4, 16, .inr (.inl (fun _ => 0))))] := hD
  refine va_putF (D := (dC, dI)) (ci := 6) (v := .ref q_3) (ty := .array .long) (C := RX6) (T := TX6) (N := 5) hx hb hts it_6 tyX6 tyX6_ok nmX6 hown hK hP hD hS 0 rfl rfl 1 (by decide) (hts _ kt_40) (fun _ h9 => h9) rfl hin rfl (by decide +kernel) rfl rfl (Nat.le_of_ble_eq_true rfl) dX6_init_17 (fun H locs hP hD hS => ?_)
  have hP : va_P (dC, dI) vwCl [(h0, .inr (6, [.ref q_1, .ref q_3, .null, .null, .long 0])), (q_1, .inl (cA_2, 16, .inr (.inl (fun _ => 0)))), (q_3, .inl (cA_4, 16, .inr (.inl (fun _ => 0))))] H := hP
  have hD : va_D A [(h0, .inr (6, [.ref q_1, .ref q_3, .null, .null, .long 0])), (q_1, .inl (cA_2, 16, .inr (.inl (fun _ => 0)))), (q_3, .inl (cA_4, 16, .inr (.inl (fun _ => 0))))] := hD
  refine lv_aload_n hx hb dX6_init_20 rfl (lv_at hl 0 rfl) ?_
  refine lv_bipush (v := 16) hx hb dX6_init_21 (by decide) ?_
  refine va_newa (atype := .long) (ty := .long) (a0 := (16, .inr (.inl (fun _ => 0)))) (N' := 16) hx hb (hts _ kt_38) rfl hK hP hD hS hA (fun _ => rfl) (by decide) (by decide) (by show _ * 8 ≤ _; omega) (by show _ + 1 ≤ 4; omega) (by show _ + 16 ≤ 66; omega) dX6_init_23 (fun q_5 cA_6 H hK hP hD hS => ?_)
  have hK : va_K (dC, dI) vwCl [(cA_2, .long), (cA_4, .long), (cA_6, .long)] s := hK
  have hP : va_P (dC, dI) vwCl [(h0, .inr (6, [.ref q_1, .ref q_3, .null, .null, .long 0])), (q_1, .inl (cA_2, 16, .inr (.inl (fun _ => 0)))), (q_3, .inl (cA_4, 16, .inr (.inl (fun _ => 0)))), (q_5, .inl (cA_6, 16, .inr (.inl (fun _ => 0))))] H := hP
  have hD : va_D A [(h0, .inr (6, [.ref q_1, .ref q_3, .null, .null, .long 0])), (q_1, .inl (cA_2, 16, .inr (.inl (fun _ => 0)))), (q_3, .inl (cA_4, 16, .inr (.inl (fun _ => 0)))), (q_5, .inl (cA_6, 16, .inr (.inl (fun _ => 0))))] := hD
  refine va_putF (D := (dC, dI)) (ci := 6) (v := .ref q_5) (ty := .array .long) (C := RX6) (T := TX6) (N := 5) hx hb hts it_6 tyX6 tyX6_ok nmX6 hown hK hP hD hS 0 rfl rfl 2 (by decide) (hts _ kt_41) (fun _ h9 => h9) rfl hin rfl (by decide +kernel) rfl rfl (Nat.le_of_ble_eq_true rfl) dX6_init_25 (fun H locs hP hD hS => ?_)
  have hP : va_P (dC, dI) vwCl [(h0, .inr (6, [.ref q_1, .ref q_3, .ref q_5, .null, .long 0])), (q_1, .inl (cA_2, 16, .inr (.inl (fun _ => 0)))), (q_3, .inl (cA_4, 16, .inr (.inl (fun _ => 0)))), (q_5, .inl (cA_6, 16, .inr (.inl (fun _ => 0))))] H := hP
  have hD : va_D A [(h0, .inr (6, [.ref q_1, .ref q_3, .ref q_5, .null, .long 0])), (q_1, .inl (cA_2, 16, .inr (.inl (fun _ => 0)))), (q_3, .inl (cA_4, 16, .inr (.inl (fun _ => 0)))), (q_5, .inl (cA_6, 16, .inr (.inl (fun _ => 0))))] := hD
  refine lv_aload_n hx hb dX6_init_28 rfl (lv_at hl 0 rfl) ?_
  refine lv_bipush (v := 18) hx hb dX6_init_29 (by decide) ?_
  refine va_newa (atype := .long) (ty := .long) (a0 := (18, .inr (.inl (fun _ => 0)))) (N' := 18) hx hb (hts _ kt_38) rfl hK hP hD hS hA (fun _ => rfl) (by decide) (by decide) (by show _ * 8 ≤ _; omega) (by show _ + 1 ≤ 4; omega) (by show _ + 18 ≤ 66; omega) dX6_init_31 (fun q_7 cA_8 H hK hP hD hS => ?_)
  have hK : va_K (dC, dI) vwCl [(cA_2, .long), (cA_4, .long), (cA_6, .long), (cA_8, .long)] s := hK
  have hP : va_P (dC, dI) vwCl [(h0, .inr (6, [.ref q_1, .ref q_3, .ref q_5, .null, .long 0])), (q_1, .inl (cA_2, 16, .inr (.inl (fun _ => 0)))), (q_3, .inl (cA_4, 16, .inr (.inl (fun _ => 0)))), (q_5, .inl (cA_6, 16, .inr (.inl (fun _ => 0)))), (q_7, .inl (cA_8, 18, .inr (.inl (fun _ => 0))))] H := hP
  have hD : va_D A [(h0, .inr (6, [.ref q_1, .ref q_3, .ref q_5, .null, .long 0])), (q_1, .inl (cA_2, 16, .inr (.inl (fun _ => 0)))), (q_3, .inl (cA_4, 16, .inr (.inl (fun _ => 0)))), (q_5, .inl (cA_6, 16, .inr (.inl (fun _ => 0)))), (q_7, .inl (cA_8, 18, .inr (.inl (fun _ => 0))))] := hD
  refine va_putF (D := (dC, dI)) (ci := 6) (v := .ref q_7) (ty := .array .long) (C := RX6) (T := TX6) (N := 5) hx hb hts it_6 tyX6 tyX6_ok nmX6 hown hK hP hD hS 0 rfl rfl 3 (by decide) (hts _ kt_42) (fun _ h9 => h9) rfl hin rfl (by decide +kernel) rfl rfl (Nat.le_of_ble_eq_true rfl) dX6_init_33 (fun H locs hP hD hS => ?_)
  have hP : va_P (dC, dI) vwCl [(h0, .inr (6, [.ref q_1, .ref q_3, .ref q_5, .ref q_7, .long 0])), (q_1, .inl (cA_2, 16, .inr (.inl (fun _ => 0)))), (q_3, .inl (cA_4, 16, .inr (.inl (fun _ => 0)))), (q_5, .inl (cA_6, 16, .inr (.inl (fun _ => 0)))), (q_7, .inl (cA_8, 18, .inr (.inl (fun _ => 0))))] H := hP
  have hD : va_D A [(h0, .inr (6, [.ref q_1, .ref q_3, .ref q_5, .ref q_7, .long 0])), (q_1, .inl (cA_2, 16, .inr (.inl (fun _ => 0)))), (q_3, .inl (cA_4, 16, .inr (.inl (fun _ => 0)))), (q_5, .inl (cA_6, 16, .inr (.inl (fun _ => 0)))), (q_7, .inl (cA_8, 18, .inr (.inl (fun _ => 0))))] := hD
  refine lv_aload_n hx hb dX6_init_36 rfl (lv_at hl 0 rfl) ?_
  refine lv_lconst (v := 0) hx hb dX6_init_37 (by decide) ?_
  refine va_put (D := (dC, dI)) (ci := 6) (v := .long 0) (ty := .long) (C := RX6) (T := TX6) (N := 5) hx hb hts it_6 tyX6 tyX6_ok nmX6 hown hK hP hD hS 0 rfl rfl 4 (by decide) (hts _ kt_43) (fun _ h9 => h9) rfl (by decide +kernel) rfl rfl (Nat.le_of_ble_eq_true rfl) dX6_init_38 (fun H locs hP hD hS => ?_)
  have hP : va_P (dC, dI) vwCl [(h0, .inr (6, [.ref q_1, .ref q_3, .ref q_5, .ref q_7, .long 0])), (q_1, .inl (cA_2, 16, .inr (.inl (fun _ => 0)))), (q_3, .inl (cA_4, 16, .inr (.inl (fun _ => 0)))), (q_5, .inl (cA_6, 16, .inr (.inl (fun _ => 0)))), (q_7, .inl (cA_8, 18, .inr (.inl (fun _ => 0))))] H := hP
  have hD : va_D A [(h0, .inr (6, [.ref q_1, .ref q_3, .ref q_5, .ref q_7, .long 0])), (q_1, .inl (cA_2, 16, .inr (.inl (fun _ => 0)))), (q_3, .inl (cA_4, 16, .inr (.inl (fun _ => 0)))), (q_5, .inl (cA_6, 16, .inr (.inl (fun _ => 0)))), (q_7, .inl (cA_8, 18, .inr (.inl (fun _ => 0))))] := hD
  have hP9 := hP.sub (ws' := []) [] rfl
  have hD9 := hD.sub (ws' := []) [] (by decide) rfl
  have hK9 := hK.sub (tys' := []) [] rfl
  refine W.widen (k := 4) (n := 66) (by omega) (by omega) ?_
  exact W.vret hx hb hr (fun t ht hW => ⟨⟨(), rfl, trivial, QW.mk ht hW hP9 hK9 hD9⟩, hS.F ht⟩) hS.2.2 dX6_init_41
set_option maxHeartbeats 4000000 in
set_option maxRecDepth 100000 in
theorem c_X4_init (l : Launch) (dC : Nat → ClassId) (dI : Nat → Nat → Nat) (sz : Nat) (h0 : Nat) : Met l yX4_init (.code yX4_init cX4_init 1 none :: tb) ({ frames := 2, cells := 5, slots := 3063, locals := 33 }) (va_Pc [.ref h0] (PW (dC, dI) sz [(h0, .inr (4, [.null, .null, .null, .null, .int 0, .int 0]))] [])) (va_Qv (fun _ : Unit => True) (fun _ T9 => ∃ (qx : Nat) (q1 : Nat) (q2 : Nat) (q3 : Nat) (qr : Nat) (cr : ClassId), QW (dC, dI) (va_A [(h0, .inr (4, [.null, .null, .null, .null, .int 0, .int 0]))] sz) [(h0, .inr (4, [.ref qx, .ref q1, .ref q2, .ref q3, .int 0, .int 0])), (qx, .inr (0, [.ref qr, .int 0, .int 0])), (qr, .inl (cr, 3000, .inl (fun _ => 0)))] [(cr, .int)] T9) (va_A [(h0, .inr (4, [.null, .null, .null, .null, .int 0, .int 0]))] sz)) 5 3063 (va_A [(h0, .inr (4, [.null, .null, .null, .null, .int 0, .int 0]))] sz) := by
  refine Met.ofW (cc := cX4_init) (maxL := 1) (ret := none) (by decide) rfl ?_
  intro p e s m args below meth c s₁ B hml hv
  obtain ⟨rfl, hsz, hP, hK, hD0, hE⟩ := hv
  have hx := B.exec
  have hb := B.bytes
  have hr := B.returns
  have hts : ∀ w ∈ tb, w.before _ s = true := fun w h => atoms_spec (ws := .code yX4_init cX4_init 1 none :: tb) B.pre w (List.mem_cons_of_mem _ h)
  have hown : s.vm.findClass RX4 = some m.cls := findClass_of_methodNamed B.named
  have hlocks := B.notSynchronized
  have hin : meth.name = "<init>" := (name_of_methodNamed B.named B.method).1
  subst hsz
  have hD := hD0.self (sz := s.heap.size)
  generalize hAe : va_A [(h0, .inr (4, [.null, .null, .null, .null, .int 0, .int 0]))] s.heap.size = A at hD ⊢
  have hA : ∀ q : Nat, s.heap.size ≤ q → A q := fun q h => by rw [← hAe]; exact Or.inr h
  have hS : va_S A s.heap s.heap [] := va_S.rf
  have hP : va_P (dC, dI) vwCl [(h0, .inr (4, [.null, .null, .null, .null, .int 0, .int 0]))] s.heap := hP
  have hl := lv_entry ([.ref h0]) (n := 1) (Nat.le_of_ble_eq_true rfl)
  rw [lg_entry_eq]
  generalize (lg_sl ([.ref h0]) ++ List.replicate (1 - (lg_sl ([.ref h0])).length) Slot.unset).toArray = ls at hl ⊢
  have hl : lv_has ls 1 [(0, .ref h0)] := hl
  refine lv_aload_n hx hb dX4_init_0 rfl (lv_at hl 0 rfl) ?_
  refine W.objInit hx hb hown (hts _ kt_44) (hts _ kt_1) (hts _ kt_2) rfl (by rw [hml]; exact hl.1) rfl dX4_init_1 (Nat.le_of_ble_eq_true rfl) (Nat.le_of_ble_eq_true rfl) ?_
  refine W.eq (g2 := F0 m 4 ls []) rfl ?_
  refine lv_aload_n hx hb dX4_init_4 rfl (lv_at hl 0 rfl) ?_
  refine va_new (ci := 0) (fs := [.null, .int 0, .int 0]) (C := RX0) (T := TX0) (N := 3) hx hb hts it_0 tyX0 tyX0_ok hown (hts _ kt_45) (hts _ kt_9) (hts _ kt_10) hK hP hD hS hA rfl df_0 (by show _ + 1 ≤ 5; omega) (by show _ + 3 ≤ 3063; omega) dX4_init_5 (fun q_1 H hP hD hS => ?_)
  have hP : va_P (dC, dI) vwCl [(h0, .inr (4, [.null, .null, .null, .null, .int 0, .int 0])), (q_1, .inr (0, [.null, .int 0, .int 0]))] H := hP
  have hD : va_D A [(h0, .inr (4, [.null, .null, .null, .null, .int 0, .int 0])), (q_1, .inr (0, [.null, .int 0, .int 0]))] := hD
  refine lv_dup hx hb dX4_init_8 rfl ?_
  refine lv_sipush (v := 3000) hx hb dX4_init_9 (by decide) ?_
  refine lv_topi (fun x ex => ?_)
  obtain rfl : x = nI 3000 := ex.trans (by decide)
  have hPc := hP.sub (ws' := [(q_1, .inr (0, [.null, .int 0, .int 0]))]) [1] rfl
  have hDc := hD.sub (ws' := [(q_1, .inr (0, [.null, .int 0, .int 0]))]) [1] (by decide) rfl
  have hKc := hK.sub (tys' := []) [] rfl
  have hFc := va_free (wc := [(q_1, .inr (0, [.null, .int 0, .int 0]))]) hD hS hA [1] rfl
  refine va_callv (va_runI (As := [.int (nI 3000)]) (rest := [.ref q_1, .ref h0]) ⟨hx, hb, hml, hown, hts⟩ (c_X0_init l dC dI H.size q_1 3000 (by omega)) ⟨callB_of 1 hts (gi kt_11) rfl rfl rfl (hts _ kt_10) (hts _ kt_46) (by decide +kernel) ⟨Nat.le_of_ble_eq_true rfl, Nat.le_of_ble_eq_true rfl⟩, rfl, (hts _ kt_13)⟩ ⟨fun a U g mk q => ⟨q.1, PW.calling q.2⟩, fun U hU hW => ⟨rfl, PW.mk hU hW hPc hKc hDc hE⟩⟩ rfl rfl hl.1 rfl (lv_room (Nat.le_of_ble_eq_true rfl)) dX4_init_12 ⟨by show _ + 1 ≤ 5; omega, by show _ + 3000 ≤ 3063; omega⟩) hS (fun q _ h => hFc q h) hFc (fun u t H1 locs ht hvm hw hB hz1 hk1 hS => ?_)
  obtain ⟨q_3, cA_4, hB1⟩ := hB
  obtain ⟨hP, hD, hK⟩ := QW.join (wr := [(h0, .inr (4, [.null, .null, .null, .null, .int 0, .int 0]))]) hP hD hK [1] [0] rfl rfl (by decide) (by decide) hk1 hFc ht hvm hB1
  generalize H1 = H at hP hS ⊢
  have hK : va_K (dC, dI) vwCl [(cA_4, .int)] s := hK.sub [0] rfl
  have hP : va_P (dC, dI) vwCl [(h0, .inr (4, [.null, .null, .null, .null, .int 0, .int 0])), (q_1, .inr (0, [.ref q_3, .int 0, .int 0])), (q_3, .inl (cA_4, 3000, .inl (fun _ => 0)))] H := hP
  have hD : va_D A [(h0, .inr (4, [.null, .null, .null, .null, .int 0, .int 0])), (q_1, .inr (0, [.ref q_3, .int 0, .int 0])), (q_3, .inl (cA_4, 3000, .inl (fun _ => 0)))] := hD
  refine va_putF (D := (dC, dI)) (ci := 4) (v := .ref q_1) (ty := .object "PostGate$Bytes") (C := RX4) (T := TX4) (N := 6) hx hb hts it_4 tyX4 tyX4_ok nmX4 hown hK hP hD hS 0 rfl rfl 0 (by decide) (hts _ kt_47) (fun _ h9 => h9) rfl hin rfl (by decide +kernel) rfl rfl (Nat.le_of_ble_eq_true rfl) dX4_init_15 (fun H locs hP hD hS => ?_)
  have hP : va_P (dC, dI) vwCl [(h0, .inr (4, [.ref q_1, .null, .null, .null, .int 0, .int 0])), (q_1, .inr (0, [.ref q_3, .int 0, .int 0])), (q_3, .inl (cA_4, 3000, .inl (fun _ => 0)))] H := hP
  have hD : va_D A [(h0, .inr (4, [.ref q_1, .null, .null, .null, .int 0, .int 0])), (q_1, .inr (0, [.ref q_3, .int 0, .int 0])), (q_3, .inl (cA_4, 3000, .inl (fun _ => 0)))] := hD
  refine lv_aload_n hx hb dX4_init_18 rfl (lv_at hl 0 rfl) ?_
  refine lv_bipush (v := 20) hx hb dX4_init_19 (by decide) ?_
  refine va_newa (atype := .int) (ty := .int) (a0 := (20, .inl (fun _ => 0))) (N' := 20) hx hb (hts _ kt_5) rfl hK hP hD hS hA (fun _ => rfl) (by decide) (by decide) (by show _ * 4 ≤ _; omega) (by show _ + 1 ≤ 5; omega) (by show _ + 20 ≤ 3063; omega) dX4_init_21 (fun q_5 cA_6 H hK hP hD hS => ?_)
  have hK : va_K (dC, dI) vwCl [(cA_4, .int), (cA_6, .int)] s := hK
  have hP : va_P (dC, dI) vwCl [(h0, .inr (4, [.ref q_1, .null, .null, .null, .int 0, .int 0])), (q_1, .inr (0, [.ref q_3, .int 0, .int 0])), (q_3, .inl (cA_4, 3000, .inl (fun _ => 0))), (q_5, .inl (cA_6, 20, .inl (fun _ => 0)))] H := hP
  have hD : va_D A [(h0, .inr (4, [.ref q_1, .null, .null, .null, .int 0, .int 0])), (q_1, .inr (0, [.ref q_3, .int 0, .int 0])), (q_3, .inl (cA_4, 3000, .inl (fun _ => 0))), (q_5, .inl (cA_6, 20, .inl (fun _ => 0)))] := hD
  refine va_putF (D := (dC, dI)) (ci := 4) (v := .ref q_5) (ty := .array .int) (C := RX4) (T := TX4) (N := 6) hx hb hts it_4 tyX4 tyX4_ok nmX4 hown hK hP hD hS 0 rfl rfl 1 (by decide) (hts _ kt_48) (fun _ h9 => h9) rfl hin rfl (by decide +kernel) rfl rfl (Nat.le_of_ble_eq_true rfl) dX4_init_23 (fun H locs hP hD hS => ?_)
  have hP : va_P (dC, dI) vwCl [(h0, .inr (4, [.ref q_1, .ref q_5, .null, .null, .int 0, .int 0])), (q_1, .inr (0, [.ref q_3, .int 0, .int 0])), (q_3, .inl (cA_4, 3000, .inl (fun _ => 0))), (q_5, .inl (cA_6, 20, .inl (fun _ => 0)))] H := hP
  have hD : va_D A [(h0, .inr (4, [.ref q_1, .ref q_5, .null, .null, .int 0, .int 0])), (q_1, .inr (0, [.ref q_3, .int 0, .int 0])), (q_3, .inl (cA_4, 3000, .inl (fun _ => 0))), (q_5, .inl (cA_6, 20, .inl (fun _ => 0)))] := hD
  refine lv_aload_n hx hb dX4_init_26 rfl (lv_at hl 0 rfl) ?_
  refine lv_bipush (v := 20) hx hb dX4_init_27 (by decide) ?_
  refine va_newa (atype := .int) (ty := .int) (a0 := (20, .inl (fun _ => 0))) (N' := 20) hx hb (hts _ kt_5) rfl hK hP hD hS hA (fun _ => rfl) (by decide) (by decide) (by show _ * 4 ≤ _; omega) (by show _ + 1 ≤ 5; omega) (by show _ + 20 ≤ 3063; omega) dX4_init_29 (fun q_7 cA_8 H hK hP hD hS => ?_)
  have hK : va_K (dC, dI) vwCl [(cA_4, .int), (cA_6, .int), (cA_8, .int)] s := hK
  have hP : va_P (dC, dI) vwCl [(h0, .inr (4, [.ref q_1, .ref q_5, .null, .null, .int 0, .int 0])), (q_1, .inr (0, [.ref q_3, .int 0, .int 0])), (q_3, .inl (cA_4, 3000, .inl (fun _ => 0))), (q_5, .inl (cA_6, 20, .inl (fun _ => 0))), (q_7, .inl (cA_8, 20, .inl (fun _ => 0)))] H := hP
  have hD : va_D A [(h0, .inr (4, [.ref q_1, .ref q_5, .null, .null, .int 0, .int 0])), (q_1, .inr (0, [.ref q_3, .int 0, .int 0])), (q_3, .inl (cA_4, 3000, .inl (fun _ => 0))), (q_5, .inl (cA_6, 20, .inl (fun _ => 0))), (q_7, .inl (cA_8, 20, .inl (fun _ => 0)))] := hD
  refine va_putF (D := (dC, dI)) (ci := 4) (v := .ref q_7) (ty := .array .int) (C := RX4) (T := TX4) (N := 6) hx hb hts it_4 tyX4 tyX4_ok nmX4 hown hK hP hD hS 0 rfl rfl 2 (by decide) (hts _ kt_49) (fun _ h9 => h9) rfl hin rfl (by decide +kernel) rfl rfl (Nat.le_of_ble_eq_true rfl) dX4_init_31 (fun H locs hP hD hS => ?_)
  have hP : va_P (dC, dI) vwCl [(h0, .inr (4, [.ref q_1, .ref q_5, .ref q_7, .null, .int 0, .int 0])), (q_1, .inr (0, [.ref q_3, .int 0, .int 0])), (q_3, .inl (cA_4, 3000, .inl (fun _ => 0))), (q_5, .inl (cA_6, 20, .inl (fun _ => 0))), (q_7, .inl (cA_8, 20, .inl (fun _ => 0)))] H := hP
  have hD : va_D A [(h0, .inr (4, [.ref q_1, .ref q_5, .ref q_7, .null, .int 0, .int 0])), (q_1, .inr (0, [.ref q_3, .int 0, .int 0])), (q_3, .inl (cA_4, 3000, .inl (fun _ => 0))), (q_5, .inl (cA_6, 20, .inl (fun _ => 0))), (q_7, .inl (cA_8, 20, .inl (fun _ => 0)))] := hD
  refine lv_aload_n hx hb dX4_init_34 rfl (lv_at hl 0 rfl) ?_
  refine lv_bipush (v := 20) hx hb dX4_init_35 (by decide) ?_
  refine va_newa (atype := .int) (ty := .int) (a0 := (20, .inl (fun _ => 0))) (N' := 20) hx hb (hts _ kt_5) rfl hK hP hD hS hA (fun _ => rfl) (by decide) (by decide) (by show _ * 4 ≤ _; omega) (by show _ + 1 ≤ 5; omega) (by show _ + 20 ≤ 3063; omega) dX4_init_37 (fun q_9 cA_10 H hK hP hD hS => ?_)
  have hK : va_K (dC, dI) vwCl [(cA_4, .int), (cA_6, .int), (cA_8, .int), (cA_10, .int)] s := hK
  have hP : va_P (dC, dI) vwCl [(h0, .inr (4, [.ref q_1, .ref q_5, .ref q_7, .null, .int 0, .int 0])), (q_1, .inr (0, [.ref q_3, .int 0, .int 0])), (q_3, .inl (cA_4, 3000, .inl (fun _ => 0))), (q_5, .inl (cA_6, 20, .inl (fun _ => 0))), (q_7, .inl (cA_8, 20, .inl (fun _ => 0))), (q_9, .inl (cA_10, 20, .inl (fun _ => 0)))] H := hP
  have hD : va_D A [(h0, .inr (4, [.ref q_1, .ref q_5, .ref q_7, .null, .int 0, .int 0])), (q_1, .inr (0, [.ref q_3, .int 0, .int 0])), (q_3, .inl (cA_4, 3000, .inl (fun _ => 0))), (q_5, .inl (cA_6, 20, .inl (fun _ => 0))), (q_7, .inl (cA_8, 20, .inl (fun _ => 0))), (q_9, .inl (cA_10, 20, .inl (fun _ => 0)))] := hD
  refine va_putF (D := (dC, dI)) (ci := 4) (v := .ref q_9) (ty := .array .int) (C := RX4) (T := TX4) (N := 6) hx hb hts it_4 tyX4 tyX4_ok nmX4 hown hK hP hD hS 0 rfl rfl 3 (by decide) (hts _ kt_50) (fun _ h9 => h9) rfl hin rfl (by decide +kernel) rfl rfl (Nat.le_of_ble_eq_true rfl) dX4_init_39 (fun H locs hP hD hS => ?_)
  have hP : va_P (dC, dI) vwCl [(h0, .inr (4, [.ref q_1, .ref q_5, .ref q_7, .ref q_9, .int 0, .int 0])), (q_1, .inr (0, [.ref q_3, .int 0, .int 0])), (q_3, .inl (cA_4, 3000, .inl (fun _ => 0))), (q_5, .inl (cA_6, 20, .inl (fun _ => 0))), (q_7, .inl (cA_8, 20, .inl (fun _ => 0))), (q_9, .inl (cA_10, 20, .inl (fun _ => 0)))] H := hP
  have hD : va_D A [(h0, .inr (4, [.ref q_1, .ref q_5, .ref q_7, .ref q_9, .int 0, .int 0])), (q_1, .inr (0, [.ref q_3, .int 0, .int 0])), (q_3, .inl (cA_4, 3000, .inl (fun _ => 0))), (q_5, .inl (cA_6, 20, .inl (fun _ => 0))), (q_7, .inl (cA_8, 20, .inl (fun _ => 0))), (q_9, .inl (cA_10, 20, .inl (fun _ => 0)))] := hD
  refine lv_aload_n hx hb dX4_init_42 rfl (lv_at hl 0 rfl) ?_
  refine lv_iconst (v := 0) hx hb dX4_init_43 (by decide) ?_
  refine va_put (D := (dC, dI)) (ci := 4) (v := .int 0) (ty := .int) (C := RX4) (T := TX4) (N := 6) hx hb hts it_4 tyX4 tyX4_ok nmX4 hown hK hP hD hS 0 rfl rfl 4 (by decide) (hts _ kt_51) (fun _ h9 => h9) rfl (by decide +kernel) rfl rfl (Nat.le_of_ble_eq_true rfl) dX4_init_44 (fun H locs hP hD hS => ?_)
  have hP : va_P (dC, dI) vwCl [(h0, .inr (4, [.ref q_1, .ref q_5, .ref q_7, .ref q_9, .int 0, .int 0])), (q_1, .inr (0, [.ref q_3, .int 0, .int 0])), (q_3, .inl (cA_4, 3000, .inl (fun _ => 0))), (q_5, .inl (cA_6, 20, .inl (fun _ => 0))), (q_7, .inl (cA_8, 20, .inl (fun _ => 0))), (q_9, .inl (cA_10, 20, .inl (fun _ => 0)))] H := hP
  have hD : va_D A [(h0, .inr (4, [.ref q_1, .ref q_5, .ref q_7, .ref q_9, .int 0, .int 0])), (q_1, .inr (0, [.ref q_3, .int 0, .int 0])), (q_3, .inl (cA_4, 3000, .inl (fun _ => 0))), (q_5, .inl (cA_6, 20, .inl (fun _ => 0))), (q_7, .inl (cA_8, 20, .inl (fun _ => 0))), (q_9, .inl (cA_10, 20, .inl (fun _ => 0)))] := hD
  refine lv_aload_n hx hb dX4_init_47 rfl (lv_at hl 0 rfl) ?_
  refine lv_iconst (v := 0) hx hb dX4_init_48 (by decide) ?_
  refine va_put (D := (dC, dI)) (ci := 4) (v := .int 0) (ty := .int) (C := RX4) (T := TX4) (N := 6) hx hb hts it_4 tyX4 tyX4_ok nmX4 hown hK hP hD hS 0 rfl rfl 5 (by decide) (hts _ kt_52) (fun _ h9 => h9) rfl (by decide +kernel) rfl rfl (Nat.le_of_ble_eq_true rfl) dX4_init_49 (fun H locs hP hD hS => ?_)
  have hP : va_P (dC, dI) vwCl [(h0, .inr (4, [.ref q_1, .ref q_5, .ref q_7, .ref q_9, .int 0, .int 0])), (q_1, .inr (0, [.ref q_3, .int 0, .int 0])), (q_3, .inl (cA_4, 3000, .inl (fun _ => 0))), (q_5, .inl (cA_6, 20, .inl (fun _ => 0))), (q_7, .inl (cA_8, 20, .inl (fun _ => 0))), (q_9, .inl (cA_10, 20, .inl (fun _ => 0)))] H := hP
  have hD : va_D A [(h0, .inr (4, [.ref q_1, .ref q_5, .ref q_7, .ref q_9, .int 0, .int 0])), (q_1, .inr (0, [.ref q_3, .int 0, .int 0])), (q_3, .inl (cA_4, 3000, .inl (fun _ => 0))), (q_5, .inl (cA_6, 20, .inl (fun _ => 0))), (q_7, .inl (cA_8, 20, .inl (fun _ => 0))), (q_9, .inl (cA_10, 20, .inl (fun _ => 0)))] := hD
  have hP9 := hP.sub (ws' := [(h0, .inr (4, [.ref q_1, .ref q_5, .ref q_7, .ref q_9, .int 0, .int 0])), (q_1, .inr (0, [.ref q_3, .int 0, .int 0])), (q_3, .inl (cA_4, 3000, .inl (fun _ => 0)))]) [0, 1, 2] rfl
  have hD9 := hD.sub (ws' := [(h0, .inr (4, [.ref q_1, .ref q_5, .ref q_7, .ref q_9, .int 0, .int 0])), (q_1, .inr (0, [.ref q_3, .int 0, .int 0])), (q_3, .inl (cA_4, 3000, .inl (fun _ => 0)))]) [0, 1, 2] (by decide) rfl
  have hK9 := hK.sub (tys' := [(cA_4, .int)]) [0] rfl
  refine W.widen (k := 5) (n := 3063) (by omega) (by omega) ?_
  exact W.vret hx hb hr (fun t ht hW => ⟨⟨(), rfl, trivial, ⟨q_1, q_5, q_7, q_9, q_3, cA_4, QW.mk ht hW hP9 hK9 hD9⟩⟩, hS.F ht⟩) hS.2.2 dX4_init_52
end
section
theorem dX2_init_0 : decode cX2_init 0 = .ok (.aload_n 0, 1) := by decide +kernel
theorem dX2_init_1 : decode cX2_init 1 = .ok (.invokespecial 3, 3) := by decide +kernel
theorem dX2_init_4 : decode cX2_init 4 = .ok (.aload_n 0, 1) := by decide +kernel
theorem dX2_init_5 : decode cX2_init 5 = .ok (.bipush 40, 2) := by decide +kernel
theorem dX2_init_7 : decode cX2_init 7 = .ok (.anewarray 11, 3) := by decide +kernel
theorem dX2_init_10 : decode cX2_init 10 = .ok (.putfield 13, 3) := by decide +kernel
theorem dX2_init_13 : decode cX2_init 13 = .ok (.aload_n 0, 1) := by decide +kernel
theorem dX2_init_14 : decode cX2_init 14 = .ok (.iconst 0, 1) := by decide +kernel
theorem dX2_init_15 : decode cX2_init 15 = .ok (.putfield 17, 3) := by decide +kernel
theorem dX2_init_18 : decode cX2_init 18 = .ok (.iconst 0, 1) := by decide +kernel
theorem dX2_init_19 : decode cX2_init 19 = .ok (.istore_n 1, 1) := by decide +kernel
theorem dX2_init_20 : decode cX2_init 20 = .ok (.iload_n 1, 1) := by decide +kernel
theorem dX2_init_21 : decode cX2_init 21 = .ok (.bipush 40, 2) := by decide +kernel
theorem dX2_init_23 : decode cX2_init 23 = .ok (.if_icmp .ge 22, 3) := by decide +kernel
theorem dX2_init_26 : decode cX2_init 26 = .ok (.aload_n 0, 1) := by decide +kernel
theorem dX2_init_27 : decode cX2_init 27 = .ok (.getfield 13, 3) := by decide +kernel
theorem dX2_init_30 : decode cX2_init 30 = .ok (.iload_n 1, 1) := by decide +kernel
theorem dX2_init_31 : decode cX2_init 31 = .ok (.new 11, 3) := by decide +kernel
theorem dX2_init_34 : decode cX2_init 34 = .ok (.dup, 1) := by decide +kernel
theorem dX2_init_35 : decode cX2_init 35 = .ok (.invokespecial 21, 3) := by decide +kernel
theorem dX2_init_38 : decode cX2_init 38 = .ok (.aastore, 1) := by decide +kernel
theorem dX2_init_39 : decode cX2_init 39 = .ok (.iinc 1 1, 3) := by decide +kernel
theorem dX2_init_42 : decode cX2_init 42 = .ok (.goto (-22), 3) := by decide +kernel
theorem dX2_init_45 : decode cX2_init 45 = .ok (.return_, 1) := by decide +kernel
theorem kt_53 : Cond.methodLink RX2 3 objectInit ∈ tb := tb_at (i := 142) (by decide +kernel) (by decide +kernel)
theorem kt_54 : Cond.classLink RX2 11 RX3 ∈ tb := tb_at (i := 143) (by decide +kernel) (by decide +kernel)
theorem kt_55 : Cond.fieldLink RX2 13 "PostGate$Directory" "entries" "[LPostGate$Entry;" ∈ tb := tb_at (i := 171) (by decide +kernel) (by decide +kernel)
theorem kt_56 : Cond.fieldLink RX2 17 "PostGate$Directory" "count" "I" ∈ tb := tb_at (i := 173) (by decide +kernel) (by decide +kernel)
theorem kt_57 : Cond.instantiable RX3 4 ∈ tb := tb_at (i := 145) (by decide +kernel) (by decide +kernel)
theorem kt_58 : Cond.initialized RX3 ∈ tb := tb_at (i := 84) (by decide +kernel) (by decide +kernel)
theorem kt_59 : Cond.code yX3_init cX3_init 1 none ∈ tb := tb_at (i := 148) (by decide +kernel) (by decide +kernel)
theorem kt_60 : Cond.instanceMethod yX3_init ∈ tb := tb_at (i := 147) (by decide +kernel) (by decide +kernel)
theorem kn_0 : Cond.methodLinkNest RX2 21 yX3_init "PostGate" ∈ nw := nw_at (i := 66) (by decide +kernel) rfl
set_option maxHeartbeats 4000000 in
set_option maxRecDepth 100000 in
theorem c_X2_init (l : Launch) (dC : Nat → ClassId) (dI : Nat → Nat → Nat) (sz : Nat) (h0 : Nat) : Met l yX2_init (.code yX2_init cX2_init 2 none :: tb) ({ frames := 3, cells := 201, slots := 30840, locals := 53 }) (va_Pc [.ref h0] (PW (dC, dI) sz [(h0, .inr (2, [.null, .int 0]))] [])) (va_Qv (fun _ : Unit => True) (fun _ T9 => ∃ (q : Nat), QW (dC, dI) (va_A [(h0, .inr (2, [.null, .int 0]))] sz) [(h0, .inr (2, [.ref q, .int 0]))] [] T9) (va_A [(h0, .inr (2, [.null, .int 0]))] sz)) 201 30840 (va_A [(h0, .inr (2, [.null, .int 0]))] sz) := by
  refine Met.ofW (cc := cX2_init) (maxL := 2) (ret := none) (by decide) rfl ?_
  intro p e s m args below meth c s₁ B hml hv
  obtain ⟨rfl, hsz, hP, hK, hD0, hE⟩ := hv
  have hx := B.exec
  have hb := B.bytes
  have hr := B.returns
  have hts : ∀ w ∈ tb, w.before _ s = true := fun w h => atoms_spec (ws := .code yX2_init cX2_init 2 none :: tb) B.pre w (List.mem_cons_of_mem _ h)
  have hown : s.vm.findClass RX2 = some m.cls := findClass_of_methodNamed B.named
  have hlocks := B.notSynchronized
  have hin : meth.name = "<init>" := (name_of_methodNamed B.named B.method).1
  subst hsz
  have hD := hD0.self (sz := s.heap.size)
  generalize hAe : va_A [(h0, .inr (2, [.null, .int 0]))] s.heap.size = A at hD ⊢
  have hA : ∀ q : Nat, s.heap.size ≤ q → A q := fun q h => by rw [← hAe]; exact Or.inr h
  have hS : va_S A s.heap s.heap [] := va_S.rf
  have hP : va_P (dC, dI) vwCl [(h0, .inr (2, [.null, .int 0]))] s.heap := hP
  have hl := lv_entry ([.ref h0]) (n := 2) (Nat.le_of_ble_eq_true rfl)
  rw [lg_entry_eq]
  generalize (lg_sl ([.ref h0]) ++ List.replicate (2 - (lg_sl ([.ref h0])).length) Slot.unset).toArray = ls at hl ⊢
  have hl : lv_has ls 2 [(0, .ref h0)] := hl
  refine lv_aload_n hx hb dX2_init_0 rfl (lv_at hl 0 rfl) ?_
  refine W.objInit hx hb hown (hts _ kt_53) (hts _ kt_1) (hts _ kt_2) rfl (by rw [hml]; exact hl.1) rfl dX2_init_1 (Nat.le_of_ble_eq_true rfl) (Nat.le_of_ble_eq_true rfl) ?_
  refine W.eq (g2 := F0 m 4 ls []) rfl ?_
  refine lv_aload_n hx hb dX2_init_4 rfl (lv_at hl 0 rfl) ?_
  refine lv_bipush (v := 40) hx hb dX2_init_5 (by decide) ?_
  refine va_newq (N' := 40) hx hb hown (hts _ kt_54) (hE.ao3) hK hP hD hS hA (by decide) (by decide) (by decide) (by show _ + 1 ≤ 201; omega) (by show _ + 40 ≤ 30840; omega) dX2_init_7 (fun q_1 cA_2 H hK hP hD hS => ?_)
  have hK : va_K (dC, dI) vwCl [(cA_2, .object RX3)] s := hK
  have hP : va_P (dC, dI) vwCl [(h0, .inr (2, [.null, .int 0])), (q_1, .inl (cA_2, 40, .inr (.inr (.inr (.inr (fun _ => none))))))] H := hP
  have hD : va_D A [(h0, .inr (2, [.null, .int 0])), (q_1, .inl (cA_2, 40, .inr (.inr (.inr (.inr (fun _ => none))))))] := hD
  refine va_putF (D := (dC, dI)) (ci := 2) (v := .ref q_1) (ty := .array (.object "PostGate$Entry")) (C := RX2) (T := TX2) (N := 2) hx hb hts it_2 tyX2 tyX2_ok nmX2 hown hK hP hD hS 0 rfl rfl 0 (by decide) (hts _ kt_55) (fun _ h9 => h9) rfl hin rfl (by decide +kernel) rfl rfl (Nat.le_of_ble_eq_true rfl) dX2_init_10 (fun H locs hP hD hS => ?_)
  have hP : va_P (dC, dI) vwCl [(h0, .inr (2, [.ref q_1, .int 0])), (q_1, .inl (cA_2, 40, .inr (.inr (.inr (.inr (fun _ => none))))))] H := hP
  have hD : va_D A [(h0, .inr (2, [.ref q_1, .int 0])), (q_1, .inl (cA_2, 40, .inr (.inr (.inr (.inr (fun _ => none))))))] := hD
  refine lv_aload_n hx hb dX2_init_13 rfl (lv_at hl 0 rfl) ?_
  refine lv_iconst (v := 0) hx hb dX2_init_14 (by decide) ?_
  refine va_put (D := (dC, dI)) (ci := 2) (v := .int 0) (ty := .int) (C := RX2) (T := TX2) (N := 2) hx hb hts it_2 tyX2 tyX2_ok nmX2 hown hK hP hD hS 0 rfl rfl 1 (by decide) (hts _ kt_56) (fun _ h9 => h9) rfl (by decide +kernel) rfl rfl (Nat.le_of_ble_eq_true rfl) dX2_init_15 (fun H locs hP hD hS => ?_)
  have hP : va_P (dC, dI) vwCl [(h0, .inr (2, [.ref q_1, .int 0])), (q_1, .inl (cA_2, 40, .inr (.inr (.inr (.inr (fun _ => none))))))] H := hP
  have hD : va_D A [(h0, .inr (2, [.ref q_1, .int 0])), (q_1, .inl (cA_2, 40, .inr (.inr (.inr (.inr (fun _ => none))))))] := hD
  refine lv_iconst (v := 0) hx hb dX2_init_18 (by decide) ?_
  refine lv_istore_n (lv' := [(1, .int 0), (0, .ref h0)]) hx hb dX2_init_19 rfl hl (by decide) rfl (fun ls hl => ?_)
  refine W.widen (k := 1 + 5 * 0) (n := 40 + 770 * 0) (by omega) (by omega) ?_
  refine wl_loop (σ := Nat × (Nat → Option Nat)) A (dC, dI) 20 2 (fun (i, f) => [(h0, .inr (2, [.ref q_1, .int 0])), (q_1, .inl (cA_2, 40, .inr (.inr (.inr (.inr f)))))]) (fun (i, f) => [(1, .int (nI i)), (0, .ref h0)]) (fun (i, f) => []) (fun (i, f) => 1 + 5 * i) (fun (i, f) => 40 + 770 * i) (fun (i, f) => i ≤ 40) (fun (i, f) => 40 - i) ?_ (0, (fun _ => none)) (by first | omega | exact ⟨by omega, by omega⟩) _ _ (hP.sub [0, 1] rfl) (hD.sub [0, 1] (by decide) rfl) hS ls (lv_sub hl [0, 1] rfl)
  rintro ⟨i, f⟩ hv_3 ih_4 H locs hP hD hS ls hl
  have hP : va_P (dC, dI) vwCl [(h0, .inr (2, [.ref q_1, .int 0])), (q_1, .inl (cA_2, 40, .inr (.inr (.inr (.inr f)))))] H := hP
  have hD : va_D A [(h0, .inr (2, [.ref q_1, .int 0])), (q_1, .inl (cA_2, 40, .inr (.inr (.inr (.inr f)))))] := hD
  have hl : lv_has ls 2 [(1, .int (nI i)), (0, .ref h0)] := hl
  have hv_3 : i ≤ 40 := hv_3
  refine W.widen (k := 1 + 5 * i) (n := 40 + 770 * i) (Nat.le_refl _) (Nat.le_refl _) ?_
  refine W.eq (g2 := F0 m 20 ls []) rfl ?_
  refine lv_iload_n hx hb dX2_init_20 rfl (lv_at hl 0 rfl) ?_
  refine lv_bipush (v := 40) hx hb dX2_init_21 (by decide) ?_
  refine lv_icmp_ge (tgt := 45) hx hb dX2_init_23 (by decide) (fun c_5 => ?_) (fun c_5 => ?_)
  ·
    have hi_6 : 40 ≤ i := leN (N := 40) c_5
    have hP9 := hP.sub (ws' := [(h0, .inr (2, [.ref q_1, .int 0]))]) [0] rfl
    have hD9 := hD.sub (ws' := [(h0, .inr (2, [.ref q_1, .int 0]))]) [0] (by decide) rfl
    have hK9 := hK.sub (tys' := []) [] rfl
    refine W.widen (k := 201) (n := 30840) (by omega) (by omega) ?_
    exact W.vret hx hb hr (fun t ht hW => ⟨⟨(), rfl, trivial, ⟨q_1, QW.mk ht hW hP9 hK9 hD9⟩⟩, hS.F ht⟩) hS.2.2 dX2_init_45
  ·
    have hi_7 : i < 40 := ltN (N := 40) c_5
    refine lv_aload_n hx hb dX2_init_26 rfl (lv_at hl 1 rfl) ?_
    refine va_get (D := (dC, dI)) (ci := 2) (v := .ref q_1) (C := RX2) (T := TX2) (N := 2) hx hb hts it_2 hown hK hP 0 rfl rfl 0 (by decide) (hts _ kt_55) (fun _ h9 => h9) rfl dX2_init_27 ?_
    refine lv_iload_n hx hb dX2_init_30 rfl (lv_at hl 0 rfl) ?_
    refine va_new (ci := 3) (fs := [.null, .null, .int 0, .int 0]) (C := RX3) (T := TX3) (N := 4) hx hb hts it_3 tyX3 tyX3_ok hown (hts _ kt_54) (hts _ kt_57) (hts _ kt_58) hK hP hD hS hA rfl df_3 (by show _ + 1 ≤ 201; omega) (by show _ + 4 ≤ 30840; omega) dX2_init_31 (fun q_8 H hP hD hS => ?_)
    have hP : va_P (dC, dI) vwCl [(h0, .inr (2, [.ref q_1, .int 0])), (q_1, .inl (cA_2, 40, .inr (.inr (.inr (.inr f))))), (q_8, .inr (3, [.null, .null, .int 0, .int 0]))] H := hP
    have hD : va_D A [(h0, .inr (2, [.ref q_1, .int 0])), (q_1, .inl (cA_2, 40, .inr (.inr (.inr (.inr f))))), (q_8, .inr (3, [.null, .null, .int 0, .int 0]))] := hD
    refine lv_dup hx hb dX2_init_34 rfl ?_
    have hPc := hP.sub (ws' := [(q_8, .inr (3, [.null, .null, .int 0, .int 0]))]) [2] rfl
    have hDc := hD.sub (ws' := [(q_8, .inr (3, [.null, .null, .int 0, .int 0]))]) [2] (by decide) rfl
    have hKc := hK.sub (tys' := []) [] rfl
    have hFc := va_free (wc := [(q_8, .inr (3, [.null, .null, .int 0, .int 0]))]) hD hS hA [2] rfl
    refine va_callv (va_runIN (As := []) (rest := [.ref q_8, .int (nI i), .ref q_1]) ⟨hx, hb, hml, hown, hts⟩ (c_X3_init l dC dI H.size q_8 ) ⟨va_cnB 0 hts (gi kt_59) rfl rfl rfl (hE.nestw kn_0) (hts _ kt_58) (by decide +kernel) ⟨Nat.le_of_ble_eq_true rfl, Nat.le_of_ble_eq_true rfl⟩, rfl, (hts _ kt_60)⟩ ⟨fun a U g mk q => ⟨q.1, PW.calling q.2⟩, fun U hU hW => ⟨rfl, PW.mk hU hW hPc hKc hDc hE⟩⟩ rfl rfl hl.1 rfl (lv_room (Nat.le_of_ble_eq_true rfl)) dX2_init_35 ⟨by show _ + 4 ≤ 201; omega, by show _ + 766 ≤ 30840; omega⟩) hS (fun q _ h => hFc q h) hFc (fun u t H1 locs ht hvm hw hB hz1 hk1 hS => ?_)
    obtain ⟨q1_10, q2_11, hB1⟩ := hB
    obtain ⟨hP, hD, hK⟩ := QW.join (wr := [(h0, .inr (2, [.ref q_1, .int 0])), (q_1, .inl (cA_2, 40, .inr (.inr (.inr (.inr f)))))]) hP hD hK [2] [0, 1] rfl rfl (by decide) (by decide) hk1 hFc ht hvm hB1
    generalize H1 = H at hP hS ⊢
    have hK : va_K (dC, dI) vwCl [(cA_2, .object RX3)] s := hK.sub [0] rfl
    have hP : va_P (dC, dI) vwCl [(h0, .inr (2, [.ref q_1, .int 0])), (q_1, .inl (cA_2, 40, .inr (.inr (.inr (.inr f))))), (q_8, .inr (3, [.ref q1_10, .ref q2_11, .int 0, .int 0]))] H := hP
    have hD : va_D A [(h0, .inr (2, [.ref q_1, .int 0])), (q_1, .inl (cA_2, 40, .inr (.inr (.inr (.inr f))))), (q_8, .inr (3, [.ref q1_10, .ref q2_11, .int 0, .int 0]))] := hD
    refine va_astq (r := (RX3, TX3, 4)) hx hb hK hP hD hS 1 0 2 3 rfl rfl rfl rfl (vp_in_nI (by omega) (by omega)) dX2_init_38 (fun H locs hP hD hS => ?_)
    obtain ⟨f_12, hP, hD⟩ : ∃ f_12 : Nat → Option Nat, va_P (dC, dI) vwCl [(h0, .inr (2, [.ref q_1, .int 0])), (q_1, .inl (cA_2, 40, .inr (.inr (.inr (.inr f_12))))), (q_8, .inr (3, [.ref q1_10, .ref q2_11, .int 0, .int 0]))] H ∧ va_D A [(h0, .inr (2, [.ref q_1, .int 0])), (q_1, .inl (cA_2, 40, .inr (.inr (.inr (.inr f_12))))), (q_8, .inr (3, [.ref q1_10, .ref q2_11, .int 0, .int 0]))] := ⟨_, hP, hD⟩
    refine lv_iinc (v := (nI (i + 1))) (lv' := [(1, .int (nI (i + 1))), (0, .ref h0)]) hx hb dX2_init_39 hl (k := 0) rfl (nI_1 _) (by decide) rfl (fun ls hl => ?_)
    refine lv_goto (tgt := 20) hx hb dX2_init_42 (by decide) ?_
    refine W.widen (k := 1 + 5 * (i + 1)) (n := 40 + 770 * (i + 1)) (by omega) (by omega) ?_
    exact ih_4 ((i + 1), f_12) (by first | omega | exact ⟨by omega, by omega⟩) (by show 40 - (i + 1) < 40 - i; omega) _ _ (hP.sub [0, 1] rfl) (hD.sub [0, 1] (by decide) rfl) hS ls (lv_sub hl [0, 1] rfl)
end
section
theorem dX11_init_0 : decode cX11_init 0 = .ok (.aload_n 0, 1) := by decide +kernel
theorem dX11_init_1 : decode cX11_init 1 = .ok (.invokespecial 1, 3) := by decide +kernel
theorem dX11_init_4 : decode cX11_init 4 = .ok (.aload_n 0, 1) := by decide +kernel
theorem dX11_init_5 : decode cX11_init 5 = .ok (.new 7, 3) := by decide +kernel
theorem dX11_init_8 : decode cX11_init 8 = .ok (.dup, 1) := by decide +kernel
theorem dX11_init_9 : decode cX11_init 9 = .ok (.sipush 3000, 3) := by decide +kernel
theorem dX11_init_12 : decode cX11_init 12 = .ok (.invokespecial 11, 3) := by decide +kernel
theorem dX11_init_15 : decode cX11_init 15 = .ok (.putfield 14, 3) := by decide +kernel
theorem dX11_init_18 : decode cX11_init 18 = .ok (.aload_n 0, 1) := by decide +kernel
theorem dX11_init_19 : decode cX11_init 19 = .ok (.new 7, 3) := by decide +kernel
theorem dX11_init_22 : decode cX11_init 22 = .ok (.dup, 1) := by decide +kernel
theorem dX11_init_23 : decode cX11_init 23 = .ok (.sipush 3000, 3) := by decide +kernel
theorem dX11_init_26 : decode cX11_init 26 = .ok (.invokespecial 11, 3) := by decide +kernel
theorem dX11_init_29 : decode cX11_init 29 = .ok (.putfield 18, 3) := by decide +kernel
theorem dX11_init_32 : decode cX11_init 32 = .ok (.aload_n 0, 1) := by decide +kernel
theorem dX11_init_33 : decode cX11_init 33 = .ok (.new 21, 3) := by decide +kernel
theorem dX11_init_36 : decode cX11_init 36 = .ok (.dup, 1) := by decide +kernel
theorem dX11_init_37 : decode cX11_init 37 = .ok (.invokespecial 23, 3) := by decide +kernel
theorem dX11_init_40 : decode cX11_init 40 = .ok (.putfield 24, 3) := by decide +kernel
theorem dX11_init_43 : decode cX11_init 43 = .ok (.aload_n 0, 1) := by decide +kernel
theorem dX11_init_44 : decode cX11_init 44 = .ok (.new 28, 3) := by decide +kernel
theorem dX11_init_47 : decode cX11_init 47 = .ok (.dup, 1) := by decide +kernel
theorem dX11_init_48 : decode cX11_init 48 = .ok (.aload_n 0, 1) := by decide +kernel
theorem dX11_init_49 : decode cX11_init 49 = .ok (.getfield 24, 3) := by decide +kernel
theorem dX11_init_52 : decode cX11_init 52 = .ok (.invokespecial 30, 3) := by decide +kernel
theorem dX11_init_55 : decode cX11_init 55 = .ok (.putfield 33, 3) := by decide +kernel
theorem dX11_init_58 : decode cX11_init 58 = .ok (.aload_n 0, 1) := by decide +kernel
theorem dX11_init_59 : decode cX11_init 59 = .ok (.new 37, 3) := by decide +kernel
theorem dX11_init_62 : decode cX11_init 62 = .ok (.dup, 1) := by decide +kernel
theorem dX11_init_63 : decode cX11_init 63 = .ok (.aload_n 0, 1) := by decide +kernel
theorem dX11_init_64 : decode cX11_init 64 = .ok (.getfield 24, 3) := by decide +kernel
theorem dX11_init_67 : decode cX11_init 67 = .ok (.invokespecial 39, 3) := by decide +kernel
theorem dX11_init_70 : decode cX11_init 70 = .ok (.putfield 40, 3) := by decide +kernel
theorem dX11_init_73 : decode cX11_init 73 = .ok (.aload_n 0, 1) := by decide +kernel
theorem dX11_init_74 : decode cX11_init 74 = .ok (.new 44, 3) := by decide +kernel
theorem dX11_init_77 : decode cX11_init 77 = .ok (.dup, 1) := by decide +kernel
theorem dX11_init_78 : decode cX11_init 78 = .ok (.aload_n 0, 1) := by decide +kernel
theorem dX11_init_79 : decode cX11_init 79 = .ok (.getfield 24, 3) := by decide +kernel
theorem dX11_init_82 : decode cX11_init 82 = .ok (.invokespecial 46, 3) := by decide +kernel
theorem dX11_init_85 : decode cX11_init 85 = .ok (.putfield 47, 3) := by decide +kernel
theorem dX11_init_88 : decode cX11_init 88 = .ok (.aload_n 0, 1) := by decide +kernel
theorem dX11_init_89 : decode cX11_init 89 = .ok (.new 51, 3) := by decide +kernel
theorem dX11_init_92 : decode cX11_init 92 = .ok (.dup, 1) := by decide +kernel
theorem dX11_init_93 : decode cX11_init 93 = .ok (.invokespecial 53, 3) := by decide +kernel
theorem dX11_init_96 : decode cX11_init 96 = .ok (.putfield 54, 3) := by decide +kernel
theorem dX11_init_99 : decode cX11_init 99 = .ok (.aload_n 0, 1) := by decide +kernel
theorem dX11_init_100 : decode cX11_init 100 = .ok (.new 58, 3) := by decide +kernel
theorem dX11_init_103 : decode cX11_init 103 = .ok (.dup, 1) := by decide +kernel
theorem dX11_init_104 : decode cX11_init 104 = .ok (.invokespecial 60, 3) := by decide +kernel
theorem dX11_init_107 : decode cX11_init 107 = .ok (.putfield 61, 3) := by decide +kernel
theorem dX11_init_110 : decode cX11_init 110 = .ok (.aload_n 0, 1) := by decide +kernel
theorem dX11_init_111 : decode cX11_init 111 = .ok (.new 58, 3) := by decide +kernel
theorem dX11_init_114 : decode cX11_init 114 = .ok (.dup, 1) := by decide +kernel
theorem dX11_init_115 : decode cX11_init 115 = .ok (.invokespecial 60, 3) := by decide +kernel
theorem dX11_init_118 : decode cX11_init 118 = .ok (.putfield 65, 3) := by decide +kernel
theorem dX11_init_121 : decode cX11_init 121 = .ok (.return_, 1) := by decide +kernel
theorem dX1_init_0 : decode cX1_init 0 = .ok (.aload_n 0, 1) := by decide +kernel
theorem dX1_init_1 : decode cX1_init 1 = .ok (.invokespecial 5, 3) := by decide +kernel
theorem dX1_init_4 : decode cX1_init 4 = .ok (.aload_n 0, 1) := by decide +kernel
theorem dX1_init_5 : decode cX1_init 5 = .ok (.new 11, 3) := by decide +kernel
theorem dX1_init_8 : decode cX1_init 8 = .ok (.dup, 1) := by decide +kernel
theorem dX1_init_9 : decode cX1_init 9 = .ok (.bipush 91, 2) := by decide +kernel
theorem dX1_init_11 : decode cX1_init 11 = .ok (.invokespecial 13, 3) := by decide +kernel
theorem dX1_init_14 : decode cX1_init 14 = .ok (.putfield 16, 3) := by decide +kernel
theorem dX1_init_17 : decode cX1_init 17 = .ok (.aload_n 0, 1) := by decide +kernel
theorem dX1_init_18 : decode cX1_init 18 = .ok (.new 11, 3) := by decide +kernel
theorem dX1_init_21 : decode cX1_init 21 = .ok (.dup, 1) := by decide +kernel
theorem dX1_init_22 : decode cX1_init 22 = .ok (.bipush 30, 2) := by decide +kernel
theorem dX1_init_24 : decode cX1_init 24 = .ok (.invokespecial 13, 3) := by decide +kernel
theorem dX1_init_27 : decode cX1_init 27 = .ok (.putfield 20, 3) := by decide +kernel
theorem dX1_init_30 : decode cX1_init 30 = .ok (.aload_n 0, 1) := by decide +kernel
theorem dX1_init_31 : decode cX1_init 31 = .ok (.new 11, 3) := by decide +kernel
theorem dX1_init_34 : decode cX1_init 34 = .ok (.dup, 1) := by decide +kernel
theorem dX1_init_35 : decode cX1_init 35 = .ok (.bipush 60, 2) := by decide +kernel
theorem dX1_init_37 : decode cX1_init 37 = .ok (.invokespecial 13, 3) := by decide +kernel
theorem dX1_init_40 : decode cX1_init 40 = .ok (.putfield 23, 3) := by decide +kernel
theorem dX1_init_43 : decode cX1_init 43 = .ok (.aload_n 0, 1) := by decide +kernel
theorem dX1_init_44 : decode cX1_init 44 = .ok (.new 11, 3) := by decide +kernel
theorem dX1_init_47 : decode cX1_init 47 = .ok (.dup, 1) := by decide +kernel
theorem dX1_init_48 : decode cX1_init 48 = .ok (.bipush 15, 2) := by decide +kernel
theorem dX1_init_50 : decode cX1_init 50 = .ok (.invokespecial 13, 3) := by decide +kernel
theorem dX1_init_53 : decode cX1_init 53 = .ok (.putfield 26, 3) := by decide +kernel
theorem dX1_init_56 : decode cX1_init 56 = .ok (.aload_n 0, 1) := by decide +kernel
theorem dX1_init_57 : decode cX1_init 57 = .ok (.bipush 12, 2) := by decide +kernel
theorem dX1_init_59 : decode cX1_init 59 = .ok (.anewarray 11, 3) := by decide +kernel
theorem dX1_init_62 : decode cX1_init 62 = .ok (.putfield 29, 3) := by decide +kernel
theorem dX1_init_65 : decode cX1_init 65 = .ok (.aload_n 0, 1) := by decide +kernel
theorem dX1_init_66 : decode cX1_init 66 = .ok (.bipush 11, 2) := by decide +kernel
theorem dX1_init_68 : decode cX1_init 68 = .ok (.anewarray 33, 3) := by decide +kernel
theorem dX1_init_71 : decode cX1_init 71 = .ok (.putfield 35, 3) := by decide +kernel
theorem dX1_init_74 : decode cX1_init 74 = .ok (.aload_n 0, 1) := by decide +kernel
theorem dX1_init_75 : decode cX1_init 75 = .ok (.iconst 0, 1) := by decide +kernel
theorem dX1_init_76 : decode cX1_init 76 = .ok (.putfield 39, 3) := by decide +kernel
theorem dX1_init_79 : decode cX1_init 79 = .ok (.aload_n 0, 1) := by decide +kernel
theorem dX1_init_80 : decode cX1_init 80 = .ok (.iconst 0, 1) := by decide +kernel
theorem dX1_init_81 : decode cX1_init 81 = .ok (.putfield 43, 3) := by decide +kernel
theorem dX1_init_84 : decode cX1_init 84 = .ok (.aload_n 0, 1) := by decide +kernel
theorem dX1_init_85 : decode cX1_init 85 = .ok (.iconst 0, 1) := by decide +kernel
theorem dX1_init_86 : decode cX1_init 86 = .ok (.putfield 47, 3) := by decide +kernel
theorem dX1_init_89 : decode cX1_init 89 = .ok (.aload_n 0, 1) := by decide +kernel
theorem dX1_init_90 : decode cX1_init 90 = .ok (.iconst 0, 1) := by decide +kernel
theorem dX1_init_91 : decode cX1_init 91 = .ok (.putfield 50, 3) := by decide +kernel
theorem dX1_init_94 : decode cX1_init 94 = .ok (.aload_n 0, 1) := by decide +kernel
theorem dX1_init_95 : decode cX1_init 95 = .ok (.aload_n 1, 1) := by decide +kernel
theorem dX1_init_96 : decode cX1_init 96 = .ok (.putfield 53, 3) := by decide +kernel
theorem dX1_init_99 : decode cX1_init 99 = .ok (.iconst 0, 1) := by decide +kernel
theorem dX1_init_100 : decode cX1_init 100 = .ok (.istore_n 2, 1) := by decide +kernel
theorem dX1_init_101 : decode cX1_init 101 = .ok (.iload_n 2, 1) := by decide +kernel
theorem dX1_init_102 : decode cX1_init 102 = .ok (.bipush 11, 2) := by decide +kernel
theorem dX1_init_104 : decode cX1_init 104 = .ok (.if_icmp .ge 37, 3) := by decide +kernel
theorem dX1_init_107 : decode cX1_init 107 = .ok (.aload_n 0, 1) := by decide +kernel
theorem dX1_init_108 : decode cX1_init 108 = .ok (.getfield 29, 3) := by decide +kernel
theorem dX1_init_111 : decode cX1_init 111 = .ok (.iload_n 2, 1) := by decide +kernel
theorem dX1_init_112 : decode cX1_init 112 = .ok (.new 11, 3) := by decide +kernel
theorem dX1_init_115 : decode cX1_init 115 = .ok (.dup, 1) := by decide +kernel
theorem dX1_init_116 : decode cX1_init 116 = .ok (.bipush 60, 2) := by decide +kernel
theorem dX1_init_118 : decode cX1_init 118 = .ok (.invokespecial 13, 3) := by decide +kernel
theorem dX1_init_121 : decode cX1_init 121 = .ok (.aastore, 1) := by decide +kernel
theorem dX1_init_122 : decode cX1_init 122 = .ok (.aload_n 0, 1) := by decide +kernel
theorem dX1_init_123 : decode cX1_init 123 = .ok (.getfield 35, 3) := by decide +kernel
theorem dX1_init_126 : decode cX1_init 126 = .ok (.iload_n 2, 1) := by decide +kernel
theorem dX1_init_127 : decode cX1_init 127 = .ok (.new 33, 3) := by decide +kernel
theorem dX1_init_130 : decode cX1_init 130 = .ok (.dup, 1) := by decide +kernel
theorem dX1_init_131 : decode cX1_init 131 = .ok (.invokespecial 57, 3) := by decide +kernel
theorem dX1_init_134 : decode cX1_init 134 = .ok (.aastore, 1) := by decide +kernel
theorem dX1_init_135 : decode cX1_init 135 = .ok (.iinc 2 1, 3) := by decide +kernel
theorem dX1_init_138 : decode cX1_init 138 = .ok (.goto (-37), 3) := by decide +kernel
theorem dX1_init_141 : decode cX1_init 141 = .ok (.aload_n 0, 1) := by decide +kernel
theorem dX1_init_142 : decode cX1_init 142 = .ok (.getfield 29, 3) := by decide +kernel
theorem dX1_init_145 : decode cX1_init 145 = .ok (.bipush 11, 2) := by decide +kernel
theorem dX1_init_147 : decode cX1_init 147 = .ok (.new 11, 3) := by decide +kernel
theorem dX1_init_150 : decode cX1_init 150 = .ok (.dup, 1) := by decide +kernel
theorem dX1_init_151 : decode cX1_init 151 = .ok (.bipush 60, 2) := by decide +kernel
theorem dX1_init_153 : decode cX1_init 153 = .ok (.invokespecial 13, 3) := by decide +kernel
theorem dX1_init_156 : decode cX1_init 156 = .ok (.aastore, 1) := by decide +kernel
theorem dX1_init_157 : decode cX1_init 157 = .ok (.return_, 1) := by decide +kernel
theorem dX5_init_0 : decode cX5_init 0 = .ok (.aload_n 0, 1) := by decide +kernel
theorem dX5_init_1 : decode cX5_init 1 = .ok (.invokespecial 3, 3) := by decide +kernel
theorem dX5_init_4 : decode cX5_init 4 = .ok (.aload_n 0, 1) := by decide +kernel
theorem dX5_init_5 : decode cX5_init 5 = .ok (.new 9, 3) := by decide +kernel
theorem dX5_init_8 : decode cX5_init 8 = .ok (.dup, 1) := by decide +kernel
theorem dX5_init_9 : decode cX5_init 9 = .ok (.bipush 60, 2) := by decide +kernel
theorem dX5_init_11 : decode cX5_init 11 = .ok (.invokespecial 11, 3) := by decide +kernel
theorem dX5_init_14 : decode cX5_init 14 = .ok (.putfield 14, 3) := by decide +kernel
theorem dX5_init_17 : decode cX5_init 17 = .ok (.aload_n 0, 1) := by decide +kernel
theorem dX5_init_18 : decode cX5_init 18 = .ok (.new 9, 3) := by decide +kernel
theorem dX5_init_21 : decode cX5_init 21 = .ok (.dup, 1) := by decide +kernel
theorem dX5_init_22 : decode cX5_init 22 = .ok (.bipush 60, 2) := by decide +kernel
theorem dX5_init_24 : decode cX5_init 24 = .ok (.invokespecial 11, 3) := by decide +kernel
theorem dX5_init_27 : decode cX5_init 27 = .ok (.putfield 20, 3) := by decide +kernel
theorem dX5_init_30 : decode cX5_init 30 = .ok (.aload_n 0, 1) := by decide +kernel
theorem dX5_init_31 : decode cX5_init 31 = .ok (.new 23, 3) := by decide +kernel
theorem dX5_init_34 : decode cX5_init 34 = .ok (.dup, 1) := by decide +kernel
theorem dX5_init_35 : decode cX5_init 35 = .ok (.sipush 700, 3) := by decide +kernel
theorem dX5_init_38 : decode cX5_init 38 = .ok (.invokespecial 25, 3) := by decide +kernel
theorem dX5_init_41 : decode cX5_init 41 = .ok (.putfield 26, 3) := by decide +kernel
theorem dX5_init_44 : decode cX5_init 44 = .ok (.aload_n 0, 1) := by decide +kernel
theorem dX5_init_45 : decode cX5_init 45 = .ok (.iconst 0, 1) := by decide +kernel
theorem dX5_init_46 : decode cX5_init 46 = .ok (.putfield 30, 3) := by decide +kernel
theorem dX5_init_49 : decode cX5_init 49 = .ok (.aload_n 0, 1) := by decide +kernel
theorem dX5_init_50 : decode cX5_init 50 = .ok (.iconst 0, 1) := by decide +kernel
theorem dX5_init_51 : decode cX5_init 51 = .ok (.putfield 34, 3) := by decide +kernel
theorem dX5_init_54 : decode cX5_init 54 = .ok (.aload_n 0, 1) := by decide +kernel
theorem dX5_init_55 : decode cX5_init 55 = .ok (.iconst 0, 1) := by decide +kernel
theorem dX5_init_56 : decode cX5_init 56 = .ok (.putfield 38, 3) := by decide +kernel
theorem dX5_init_59 : decode cX5_init 59 = .ok (.aload_n 0, 1) := by decide +kernel
theorem dX5_init_60 : decode cX5_init 60 = .ok (.aload_n 1, 1) := by decide +kernel
theorem dX5_init_61 : decode cX5_init 61 = .ok (.putfield 41, 3) := by decide +kernel
theorem dX5_init_64 : decode cX5_init 64 = .ok (.return_, 1) := by decide +kernel
theorem dX7_init_0 : decode cX7_init 0 = .ok (.aload_n 0, 1) := by decide +kernel
theorem dX7_init_1 : decode cX7_init 1 = .ok (.invokespecial 3, 3) := by decide +kernel
theorem dX7_init_4 : decode cX7_init 4 = .ok (.aload_n 0, 1) := by decide +kernel
theorem dX7_init_5 : decode cX7_init 5 = .ok (.new 9, 3) := by decide +kernel
theorem dX7_init_8 : decode cX7_init 8 = .ok (.dup, 1) := by decide +kernel
theorem dX7_init_9 : decode cX7_init 9 = .ok (.sipush 3000, 3) := by decide +kernel
theorem dX7_init_12 : decode cX7_init 12 = .ok (.invokespecial 11, 3) := by decide +kernel
theorem dX7_init_15 : decode cX7_init 15 = .ok (.putfield 14, 3) := by decide +kernel
theorem dX7_init_18 : decode cX7_init 18 = .ok (.aload_n 0, 1) := by decide +kernel
theorem dX7_init_19 : decode cX7_init 19 = .ok (.new 9, 3) := by decide +kernel
theorem dX7_init_22 : decode cX7_init 22 = .ok (.dup, 1) := by decide +kernel
theorem dX7_init_23 : decode cX7_init 23 = .ok (.sipush 700, 3) := by decide +kernel
theorem dX7_init_26 : decode cX7_init 26 = .ok (.invokespecial 11, 3) := by decide +kernel
theorem dX7_init_29 : decode cX7_init 29 = .ok (.putfield 20, 3) := by decide +kernel
theorem dX7_init_32 : decode cX7_init 32 = .ok (.aload_n 0, 1) := by decide +kernel
theorem dX7_init_33 : decode cX7_init 33 = .ok (.new 23, 3) := by decide +kernel
theorem dX7_init_36 : decode cX7_init 36 = .ok (.dup, 1) := by decide +kernel
theorem dX7_init_37 : decode cX7_init 37 = .ok (.bipush 60, 2) := by decide +kernel
theorem dX7_init_39 : decode cX7_init 39 = .ok (.invokespecial 25, 3) := by decide +kernel
theorem dX7_init_42 : decode cX7_init 42 = .ok (.putfield 26, 3) := by decide +kernel
theorem dX7_init_45 : decode cX7_init 45 = .ok (.aload_n 0, 1) := by decide +kernel
theorem dX7_init_46 : decode cX7_init 46 = .ok (.new 23, 3) := by decide +kernel
theorem dX7_init_49 : decode cX7_init 49 = .ok (.dup, 1) := by decide +kernel
theorem dX7_init_50 : decode cX7_init 50 = .ok (.bipush 60, 2) := by decide +kernel
theorem dX7_init_52 : decode cX7_init 52 = .ok (.invokespecial 25, 3) := by decide +kernel
theorem dX7_init_55 : decode cX7_init 55 = .ok (.putfield 30, 3) := by decide +kernel
theorem dX7_init_58 : decode cX7_init 58 = .ok (.aload_n 0, 1) := by decide +kernel
theorem dX7_init_59 : decode cX7_init 59 = .ok (.new 23, 3) := by decide +kernel
theorem dX7_init_62 : decode cX7_init 62 = .ok (.dup, 1) := by decide +kernel
theorem dX7_init_63 : decode cX7_init 63 = .ok (.bipush 32, 2) := by decide +kernel
theorem dX7_init_65 : decode cX7_init 65 = .ok (.invokespecial 25, 3) := by decide +kernel
theorem dX7_init_68 : decode cX7_init 68 = .ok (.putfield 33, 3) := by decide +kernel
theorem dX7_init_71 : decode cX7_init 71 = .ok (.aload_n 0, 1) := by decide +kernel
theorem dX7_init_72 : decode cX7_init 72 = .ok (.new 23, 3) := by decide +kernel
theorem dX7_init_75 : decode cX7_init 75 = .ok (.dup, 1) := by decide +kernel
theorem dX7_init_76 : decode cX7_init 76 = .ok (.bipush 64, 2) := by decide +kernel
theorem dX7_init_78 : decode cX7_init 78 = .ok (.invokespecial 25, 3) := by decide +kernel
theorem dX7_init_81 : decode cX7_init 81 = .ok (.putfield 36, 3) := by decide +kernel
theorem dX7_init_84 : decode cX7_init 84 = .ok (.aload_n 0, 1) := by decide +kernel
theorem dX7_init_85 : decode cX7_init 85 = .ok (.new 23, 3) := by decide +kernel
theorem dX7_init_88 : decode cX7_init 88 = .ok (.dup, 1) := by decide +kernel
theorem dX7_init_89 : decode cX7_init 89 = .ok (.bipush 64, 2) := by decide +kernel
theorem dX7_init_91 : decode cX7_init 91 = .ok (.invokespecial 25, 3) := by decide +kernel
theorem dX7_init_94 : decode cX7_init 94 = .ok (.putfield 39, 3) := by decide +kernel
theorem dX7_init_97 : decode cX7_init 97 = .ok (.aload_n 0, 1) := by decide +kernel
theorem dX7_init_98 : decode cX7_init 98 = .ok (.new 23, 3) := by decide +kernel
theorem dX7_init_101 : decode cX7_init 101 = .ok (.dup, 1) := by decide +kernel
theorem dX7_init_102 : decode cX7_init 102 = .ok (.bipush 32, 2) := by decide +kernel
theorem dX7_init_104 : decode cX7_init 104 = .ok (.invokespecial 25, 3) := by decide +kernel
theorem dX7_init_107 : decode cX7_init 107 = .ok (.putfield 42, 3) := by decide +kernel
theorem dX7_init_110 : decode cX7_init 110 = .ok (.aload_n 0, 1) := by decide +kernel
theorem dX7_init_111 : decode cX7_init 111 = .ok (.new 23, 3) := by decide +kernel
theorem dX7_init_114 : decode cX7_init 114 = .ok (.dup, 1) := by decide +kernel
theorem dX7_init_115 : decode cX7_init 115 = .ok (.bipush 64, 2) := by decide +kernel
theorem dX7_init_117 : decode cX7_init 117 = .ok (.invokespecial 25, 3) := by decide +kernel
theorem dX7_init_120 : decode cX7_init 120 = .ok (.putfield 45, 3) := by decide +kernel
theorem dX7_init_123 : decode cX7_init 123 = .ok (.aload_n 0, 1) := by decide +kernel
theorem dX7_init_124 : decode cX7_init 124 = .ok (.new 23, 3) := by decide +kernel
theorem dX7_init_127 : decode cX7_init 127 = .ok (.dup, 1) := by decide +kernel
theorem dX7_init_128 : decode cX7_init 128 = .ok (.bipush 64, 2) := by decide +kernel
theorem dX7_init_130 : decode cX7_init 130 = .ok (.invokespecial 25, 3) := by decide +kernel
theorem dX7_init_133 : decode cX7_init 133 = .ok (.putfield 48, 3) := by decide +kernel
theorem dX7_init_136 : decode cX7_init 136 = .ok (.aload_n 0, 1) := by decide +kernel
theorem dX7_init_137 : decode cX7_init 137 = .ok (.new 23, 3) := by decide +kernel
theorem dX7_init_140 : decode cX7_init 140 = .ok (.dup, 1) := by decide +kernel
theorem dX7_init_141 : decode cX7_init 141 = .ok (.sipush 6100, 3) := by decide +kernel
theorem dX7_init_144 : decode cX7_init 144 = .ok (.invokespecial 25, 3) := by decide +kernel
theorem dX7_init_147 : decode cX7_init 147 = .ok (.putfield 51, 3) := by decide +kernel
theorem dX7_init_150 : decode cX7_init 150 = .ok (.aload_n 0, 1) := by decide +kernel
theorem dX7_init_151 : decode cX7_init 151 = .ok (.bipush 20, 2) := by decide +kernel
theorem dX7_init_153 : decode cX7_init 153 = .ok (.newarray .boolean, 2) := by decide +kernel
theorem dX7_init_155 : decode cX7_init 155 = .ok (.putfield 56, 3) := by decide +kernel
theorem dX7_init_158 : decode cX7_init 158 = .ok (.aload_n 0, 1) := by decide +kernel
theorem dX7_init_159 : decode cX7_init 159 = .ok (.new 60, 3) := by decide +kernel
theorem dX7_init_162 : decode cX7_init 162 = .ok (.dup, 1) := by decide +kernel
theorem dX7_init_163 : decode cX7_init 163 = .ok (.invokespecial 62, 3) := by decide +kernel
theorem dX7_init_166 : decode cX7_init 166 = .ok (.putfield 63, 3) := by decide +kernel
theorem dX7_init_169 : decode cX7_init 169 = .ok (.aload_n 0, 1) := by decide +kernel
theorem dX7_init_170 : decode cX7_init 170 = .ok (.new 67, 3) := by decide +kernel
theorem dX7_init_173 : decode cX7_init 173 = .ok (.dup, 1) := by decide +kernel
theorem dX7_init_174 : decode cX7_init 174 = .ok (.invokespecial 69, 3) := by decide +kernel
theorem dX7_init_177 : decode cX7_init 177 = .ok (.putfield 70, 3) := by decide +kernel
theorem dX7_init_180 : decode cX7_init 180 = .ok (.aload_n 0, 1) := by decide +kernel
theorem dX7_init_181 : decode cX7_init 181 = .ok (.iconst 0, 1) := by decide +kernel
theorem dX7_init_182 : decode cX7_init 182 = .ok (.putfield 74, 3) := by decide +kernel
theorem dX7_init_185 : decode cX7_init 185 = .ok (.aload_n 0, 1) := by decide +kernel
theorem dX7_init_186 : decode cX7_init 186 = .ok (.iconst 0, 1) := by decide +kernel
theorem dX7_init_187 : decode cX7_init 187 = .ok (.putfield 78, 3) := by decide +kernel
theorem dX7_init_190 : decode cX7_init 190 = .ok (.aload_n 0, 1) := by decide +kernel
theorem dX7_init_191 : decode cX7_init 191 = .ok (.aload_n 1, 1) := by decide +kernel
theorem dX7_init_192 : decode cX7_init 192 = .ok (.putfield 81, 3) := by decide +kernel
theorem dX7_init_195 : decode cX7_init 195 = .ok (.return_, 1) := by decide +kernel
theorem kt_61 : Cond.methodLink RX1 5 objectInit ∈ tb := tb_at (i := 185) (by decide +kernel) (by decide +kernel)
theorem kt_62 : Cond.classLink RX1 11 RX0 ∈ tb := tb_at (i := 186) (by decide +kernel) (by decide +kernel)
theorem kt_63 : Cond.methodLink RX1 13 yX0_init ∈ tb := tb_at (i := 187) (by decide +kernel) (by decide +kernel)
theorem kt_64 : Cond.fieldLink RX1 16 "PostGate$Checker" "whole" "LPostGate$Bytes;" ∈ tb := tb_at (i := 222) (by decide +kernel) (by decide +kernel)
theorem kt_65 : Cond.fieldLink RX1 20 "PostGate$Checker" "local" "LPostGate$Bytes;" ∈ tb := tb_at (i := 223) (by decide +kernel) (by decide +kernel)
theorem kt_66 : Cond.fieldLink RX1 23 "PostGate$Checker" "domain" "LPostGate$Bytes;" ∈ tb := tb_at (i := 224) (by decide +kernel) (by decide +kernel)
theorem kt_67 : Cond.fieldLink RX1 26 "PostGate$Checker" "quad" "LPostGate$Bytes;" ∈ tb := tb_at (i := 226) (by decide +kernel) (by decide +kernel)
theorem kt_68 : Cond.fieldLink RX1 29 "PostGate$Checker" "names" "[LPostGate$Bytes;" ∈ tb := tb_at (i := 227) (by decide +kernel) (by decide +kernel)
theorem kt_69 : Cond.classLink RX1 33 RX10 ∈ tb := tb_at (i := 189) (by decide +kernel) (by decide +kernel)
theorem kt_70 : Cond.fieldLink RX1 35 "PostGate$Checker" "terms" "[LPostGate$Term;" ∈ tb := tb_at (i := 228) (by decide +kernel) (by decide +kernel)
theorem kt_71 : Cond.fieldLink RX1 39 "PostGate$Checker" "address" "I" ∈ tb := tb_at (i := 229) (by decide +kernel) (by decide +kernel)
theorem kt_72 : Cond.fieldLink RX1 43 "PostGate$Checker" "isReady" "Z" ∈ tb := tb_at (i := 230) (by decide +kernel) (by decide +kernel)
theorem kt_73 : Cond.fieldLink RX1 47 "PostGate$Checker" "counted" "I" ∈ tb := tb_at (i := 232) (by decide +kernel) (by decide +kernel)
theorem kt_74 : Cond.fieldLink RX1 50 "PostGate$Checker" "voids" "I" ∈ tb := tb_at (i := 234) (by decide +kernel) (by decide +kernel)
theorem kt_75 : Cond.fieldLink RX1 53 "PostGate$Checker" "directory" "LPostGate$Directory;" ∈ tb := tb_at (i := 221) (by decide +kernel) (by decide +kernel)
theorem kt_76 : Cond.instantiable RX10 6 ∈ tb := tb_at (i := 191) (by decide +kernel) (by decide +kernel)
theorem kt_77 : Cond.initialized RX10 ∈ tb := tb_at (i := 86) (by decide +kernel) (by decide +kernel)
theorem kt_78 : Cond.code yX10_init cX10_init 1 none ∈ tb := tb_at (i := 194) (by decide +kernel) (by decide +kernel)
theorem kt_79 : Cond.instanceMethod yX10_init ∈ tb := tb_at (i := 193) (by decide +kernel) (by decide +kernel)
theorem kt_80 : Cond.methodLink RX5 3 objectInit ∈ tb := tb_at (i := 390) (by decide +kernel) (by decide +kernel)
theorem kt_81 : Cond.classLink RX5 9 RX0 ∈ tb := tb_at (i := 391) (by decide +kernel) (by decide +kernel)
theorem kt_82 : Cond.methodLink RX5 11 yX0_init ∈ tb := tb_at (i := 392) (by decide +kernel) (by decide +kernel)
theorem kt_83 : Cond.fieldLink RX5 14 "PostGate$Policy" "domain" "LPostGate$Bytes;" ∈ tb := tb_at (i := 396) (by decide +kernel) (by decide +kernel)
theorem kt_84 : Cond.fieldLink RX5 20 "PostGate$Policy" "place" "LPostGate$Bytes;" ∈ tb := tb_at (i := 397) (by decide +kernel) (by decide +kernel)
theorem kt_85 : Cond.classLink RX5 23 RX9 ∈ tb := tb_at (i := 393) (by decide +kernel) (by decide +kernel)
theorem kt_86 : Cond.instantiable RX9 5 ∈ tb := tb_at (i := 266) (by decide +kernel) (by decide +kernel)
theorem kt_87 : Cond.initialized RX9 ∈ tb := tb_at (i := 88) (by decide +kernel) (by decide +kernel)
theorem kt_88 : Cond.code yX9_init cX9_init 2 none ∈ tb := tb_at (i := 269) (by decide +kernel) (by decide +kernel)
theorem kt_89 : Cond.methodLink RX5 25 yX9_init ∈ tb := tb_at (i := 394) (by decide +kernel) (by decide +kernel)
theorem kt_90 : Cond.instanceMethod yX9_init ∈ tb := tb_at (i := 268) (by decide +kernel) (by decide +kernel)
theorem kt_91 : Cond.fieldLink RX5 26 "PostGate$Policy" "record" "LPostGate$Tags;" ∈ tb := tb_at (i := 398) (by decide +kernel) (by decide +kernel)
theorem kt_92 : Cond.fieldLink RX5 30 "PostGate$Policy" "wanted" "I" ∈ tb := tb_at (i := 399) (by decide +kernel) (by decide +kernel)
theorem kt_93 : Cond.fieldLink RX5 34 "PostGate$Policy" "strictSender" "Z" ∈ tb := tb_at (i := 401) (by decide +kernel) (by decide +kernel)
theorem kt_94 : Cond.fieldLink RX5 38 "PostGate$Policy" "strictSeal" "Z" ∈ tb := tb_at (i := 403) (by decide +kernel) (by decide +kernel)
theorem kt_95 : Cond.fieldLink RX5 41 "PostGate$Policy" "directory" "LPostGate$Directory;" ∈ tb := tb_at (i := 395) (by decide +kernel) (by decide +kernel)
theorem kt_96 : Cond.methodLink RX7 3 objectInit ∈ tb := tb_at (i := 264) (by decide +kernel) (by decide +kernel)
theorem kt_97 : Cond.classLink RX7 9 RX9 ∈ tb := tb_at (i := 265) (by decide +kernel) (by decide +kernel)
theorem kt_98 : Cond.methodLink RX7 11 yX9_init ∈ tb := tb_at (i := 267) (by decide +kernel) (by decide +kernel)
theorem kt_99 : Cond.fieldLink RX7 14 "PostGate$Sealer" "seal" "LPostGate$Tags;" ∈ tb := tb_at (i := 333) (by decide +kernel) (by decide +kernel)
theorem kt_100 : Cond.fieldLink RX7 20 "PostGate$Sealer" "key" "LPostGate$Tags;" ∈ tb := tb_at (i := 334) (by decide +kernel) (by decide +kernel)
theorem kt_101 : Cond.classLink RX7 23 RX0 ∈ tb := tb_at (i := 290) (by decide +kernel) (by decide +kernel)
theorem kt_102 : Cond.methodLink RX7 25 yX0_init ∈ tb := tb_at (i := 291) (by decide +kernel) (by decide +kernel)
theorem kt_103 : Cond.fieldLink RX7 26 "PostGate$Sealer" "domain" "LPostGate$Bytes;" ∈ tb := tb_at (i := 335) (by decide +kernel) (by decide +kernel)
theorem kt_104 : Cond.fieldLink RX7 30 "PostGate$Sealer" "keyName" "LPostGate$Bytes;" ∈ tb := tb_at (i := 337) (by decide +kernel) (by decide +kernel)
theorem kt_105 : Cond.fieldLink RX7 33 "PostGate$Sealer" "bodySum" "LPostGate$Bytes;" ∈ tb := tb_at (i := 338) (by decide +kernel) (by decide +kernel)
theorem kt_106 : Cond.fieldLink RX7 36 "PostGate$Sealer" "signature" "LPostGate$Bytes;" ∈ tb := tb_at (i := 339) (by decide +kernel) (by decide +kernel)
theorem kt_107 : Cond.fieldLink RX7 39 "PostGate$Sealer" "modulus" "LPostGate$Bytes;" ∈ tb := tb_at (i := 340) (by decide +kernel) (by decide +kernel)
theorem kt_108 : Cond.fieldLink RX7 42 "PostGate$Sealer" "sum" "LPostGate$Bytes;" ∈ tb := tb_at (i := 341) (by decide +kernel) (by decide +kernel)
theorem kt_109 : Cond.fieldLink RX7 45 "PostGate$Sealer" "power" "LPostGate$Bytes;" ∈ tb := tb_at (i := 342) (by decide +kernel) (by decide +kernel)
theorem kt_110 : Cond.fieldLink RX7 48 "PostGate$Sealer" "due" "LPostGate$Bytes;" ∈ tb := tb_at (i := 343) (by decide +kernel) (by decide +kernel)
theorem kt_111 : Cond.fieldLink RX7 51 "PostGate$Sealer" "work" "LPostGate$Bytes;" ∈ tb := tb_at (i := 344) (by decide +kernel) (by decide +kernel)
theorem kt_112 : Cond.arrayClass .boolean ∈ tb := tb_at (i := 308) (by decide +kernel) (by decide +kernel)
theorem kt_113 : Cond.fieldLink RX7 56 "PostGate$Sealer" "taken" "[Z" ∈ tb := tb_at (i := 345) (by decide +kernel) (by decide +kernel)
theorem kt_114 : Cond.classLink RX7 60 RX8 ∈ tb := tb_at (i := 292) (by decide +kernel) (by decide +kernel)
theorem kt_115 : Cond.instantiable RX8 3 ∈ tb := tb_at (i := 293) (by decide +kernel) (by decide +kernel)
theorem kt_116 : Cond.initialized RX8 ∈ tb := tb_at (i := 89) (by decide +kernel) (by decide +kernel)
theorem kt_117 : Cond.code yX8_init cX8_init 1 none ∈ tb := tb_at (i := 296) (by decide +kernel) (by decide +kernel)
theorem kt_118 : Cond.instanceMethod yX8_init ∈ tb := tb_at (i := 295) (by decide +kernel) (by decide +kernel)
theorem kt_119 : Cond.fieldLink RX7 63 "PostGate$Sealer" "sha" "LPostGate$Sha;" ∈ tb := tb_at (i := 346) (by decide +kernel) (by decide +kernel)
theorem kt_120 : Cond.classLink RX7 67 RX6 ∈ tb := tb_at (i := 309) (by decide +kernel) (by decide +kernel)
theorem kt_121 : Cond.instantiable RX6 5 ∈ tb := tb_at (i := 310) (by decide +kernel) (by decide +kernel)
theorem kt_122 : Cond.initialized RX6 ∈ tb := tb_at (i := 90) (by decide +kernel) (by decide +kernel)
theorem kt_123 : Cond.code yX6_init cX6_init 1 none ∈ tb := tb_at (i := 313) (by decide +kernel) (by decide +kernel)
theorem kt_124 : Cond.instanceMethod yX6_init ∈ tb := tb_at (i := 312) (by decide +kernel) (by decide +kernel)
theorem kt_125 : Cond.fieldLink RX7 70 "PostGate$Sealer" "powers" "LPostGate$Power;" ∈ tb := tb_at (i := 347) (by decide +kernel) (by decide +kernel)
theorem kt_126 : Cond.fieldLink RX7 74 "PostGate$Sealer" "fieldRelaxed" "Z" ∈ tb := tb_at (i := 348) (by decide +kernel) (by decide +kernel)
theorem kt_127 : Cond.fieldLink RX7 78 "PostGate$Sealer" "bodyRelaxed" "Z" ∈ tb := tb_at (i := 349) (by decide +kernel) (by decide +kernel)
theorem kt_128 : Cond.fieldLink RX7 81 "PostGate$Sealer" "directory" "LPostGate$Directory;" ∈ tb := tb_at (i := 332) (by decide +kernel) (by decide +kernel)
theorem kt_129 : Cond.methodLink RX11 1 objectInit ∈ tb := tb_at (i := 110) (by decide +kernel) (by decide +kernel)
theorem kt_130 : Cond.classLink RX11 7 RX0 ∈ tb := tb_at (i := 113) (by decide +kernel) (by decide +kernel)
theorem kt_131 : Cond.methodLink RX11 11 yX0_init ∈ tb := tb_at (i := 115) (by decide +kernel) (by decide +kernel)
theorem kt_132 : Cond.fieldLink RX11 14 "PostGate" "tape" "LPostGate$Bytes;" ∈ tb := tb_at (i := 457) (by decide +kernel) (by decide +kernel)
theorem kt_133 : Cond.fieldLink RX11 18 "PostGate" "out" "LPostGate$Bytes;" ∈ tb := tb_at (i := 458) (by decide +kernel) (by decide +kernel)
theorem kt_134 : Cond.classLink RX11 21 RX2 ∈ tb := tb_at (i := 137) (by decide +kernel) (by decide +kernel)
theorem kt_135 : Cond.instantiable RX2 2 ∈ tb := tb_at (i := 138) (by decide +kernel) (by decide +kernel)
theorem kt_136 : Cond.initialized RX2 ∈ tb := tb_at (i := 83) (by decide +kernel) (by decide +kernel)
theorem kt_137 : Cond.code yX2_init cX2_init 2 none ∈ tb := tb_at (i := 141) (by decide +kernel) (by decide +kernel)
theorem kt_138 : Cond.methodLink RX11 23 yX2_init ∈ tb := tb_at (i := 139) (by decide +kernel) (by decide +kernel)
theorem kt_139 : Cond.instanceMethod yX2_init ∈ tb := tb_at (i := 140) (by decide +kernel) (by decide +kernel)
theorem kt_140 : Cond.fieldLink RX11 24 "PostGate" "directory" "LPostGate$Directory;" ∈ tb := tb_at (i := 459) (by decide +kernel) (by decide +kernel)
theorem kt_141 : Cond.classLink RX11 28 RX1 ∈ tb := tb_at (i := 180) (by decide +kernel) (by decide +kernel)
theorem kt_142 : Cond.instantiable RX1 11 ∈ tb := tb_at (i := 181) (by decide +kernel) (by decide +kernel)
theorem kt_143 : Cond.initialized RX1 ∈ tb := tb_at (i := 85) (by decide +kernel) (by decide +kernel)
theorem kt_144 : Cond.code yX1_init cX1_init 3 none ∈ tb := tb_at (i := 184) (by decide +kernel) (by decide +kernel)
theorem kt_145 : Cond.methodLink RX11 30 yX1_init ∈ tb := tb_at (i := 182) (by decide +kernel) (by decide +kernel)
theorem kt_146 : Cond.instanceMethod yX1_init ∈ tb := tb_at (i := 183) (by decide +kernel) (by decide +kernel)
theorem kt_147 : Cond.fieldLink RX11 33 "PostGate" "checker" "LPostGate$Checker;" ∈ tb := tb_at (i := 460) (by decide +kernel) (by decide +kernel)
theorem kt_148 : Cond.classLink RX11 37 RX7 ∈ tb := tb_at (i := 259) (by decide +kernel) (by decide +kernel)
theorem kt_149 : Cond.instantiable RX7 17 ∈ tb := tb_at (i := 260) (by decide +kernel) (by decide +kernel)
theorem kt_150 : Cond.initialized RX7 ∈ tb := tb_at (i := 87) (by decide +kernel) (by decide +kernel)
theorem kt_151 : Cond.code yX7_init cX7_init 2 none ∈ tb := tb_at (i := 263) (by decide +kernel) (by decide +kernel)
theorem kt_152 : Cond.methodLink RX11 39 yX7_init ∈ tb := tb_at (i := 261) (by decide +kernel) (by decide +kernel)
theorem kt_153 : Cond.instanceMethod yX7_init ∈ tb := tb_at (i := 262) (by decide +kernel) (by decide +kernel)
theorem kt_154 : Cond.fieldLink RX11 40 "PostGate" "sealer" "LPostGate$Sealer;" ∈ tb := tb_at (i := 461) (by decide +kernel) (by decide +kernel)
theorem kt_155 : Cond.classLink RX11 44 RX5 ∈ tb := tb_at (i := 385) (by decide +kernel) (by decide +kernel)
theorem kt_156 : Cond.instantiable RX5 7 ∈ tb := tb_at (i := 386) (by decide +kernel) (by decide +kernel)
theorem kt_157 : Cond.initialized RX5 ∈ tb := tb_at (i := 91) (by decide +kernel) (by decide +kernel)
theorem kt_158 : Cond.code yX5_init cX5_init 2 none ∈ tb := tb_at (i := 389) (by decide +kernel) (by decide +kernel)
theorem kt_159 : Cond.methodLink RX11 46 yX5_init ∈ tb := tb_at (i := 387) (by decide +kernel) (by decide +kernel)
theorem kt_160 : Cond.instanceMethod yX5_init ∈ tb := tb_at (i := 388) (by decide +kernel) (by decide +kernel)
theorem kt_161 : Cond.fieldLink RX11 47 "PostGate" "policy" "LPostGate$Policy;" ∈ tb := tb_at (i := 462) (by decide +kernel) (by decide +kernel)
theorem kt_162 : Cond.classLink RX11 51 RX8 ∈ tb := tb_at (i := 420) (by decide +kernel) (by decide +kernel)
theorem kt_163 : Cond.fieldLink RX11 54 "PostGate" "sha" "LPostGate$Sha;" ∈ tb := tb_at (i := 463) (by decide +kernel) (by decide +kernel)
theorem kt_164 : Cond.classLink RX11 58 RX4 ∈ tb := tb_at (i := 422) (by decide +kernel) (by decide +kernel)
theorem kt_165 : Cond.instantiable RX4 6 ∈ tb := tb_at (i := 423) (by decide +kernel) (by decide +kernel)
theorem kt_166 : Cond.initialized RX4 ∈ tb := tb_at (i := 92) (by decide +kernel) (by decide +kernel)
theorem kt_167 : Cond.code yX4_init cX4_init 1 none ∈ tb := tb_at (i := 426) (by decide +kernel) (by decide +kernel)
theorem kt_168 : Cond.instanceMethod yX4_init ∈ tb := tb_at (i := 425) (by decide +kernel) (by decide +kernel)
theorem kt_169 : Cond.fieldLink RX11 61 "PostGate" "letter" "LPostGate$Message;" ∈ tb := tb_at (i := 464) (by decide +kernel) (by decide +kernel)
theorem kt_170 : Cond.fieldLink RX11 65 "PostGate" "spare" "LPostGate$Message;" ∈ tb := tb_at (i := 465) (by decide +kernel) (by decide +kernel)
theorem kn_1 : Cond.methodLinkNest RX1 57 yX10_init "PostGate" ∈ nw := nw_at (i := 112) (by decide +kernel) rfl
theorem kn_2 : Cond.methodLinkNest RX7 62 yX8_init "PostGate" ∈ nw := nw_at (i := 214) (by decide +kernel) rfl
theorem kn_3 : Cond.methodLinkNest RX7 69 yX6_init "PostGate" ∈ nw := nw_at (i := 231) (by decide +kernel) rfl
theorem kn_4 : Cond.methodLinkNest RX11 53 yX8_init "PostGate" ∈ nw := nw_at (i := 341) (by decide +kernel) rfl
theorem kn_5 : Cond.methodLinkNest RX11 60 yX4_init "PostGate" ∈ nw := nw_at (i := 344) (by decide +kernel) rfl
set_option maxHeartbeats 4000000 in
set_option maxRecDepth 100000 in
theorem c_X1_init (l : Launch) (dC : Nat → ClassId) (dI : Nat → Nat → Nat) (sz : Nat) (h0 : Nat) (qd : Nat) : Met l yX1_init (.code yX1_init cX1_init 3 none :: tb) ({ frames := 2, cells := 45, slots := 1053, locals := 33 }) (va_Pc [.ref h0, .ref qd] (PW (dC, dI) sz [(h0, .inr (1, [.null, .null, .null, .null, .null, .null, .null, .int 0, .int 0, .int 0, .int 0]))] [])) (va_Qv (fun _ : Unit => True) (fun _ T9 => ∃ (q1 : Nat) (q2 : Nat) (q3 : Nat) (q4 : Nat) (q5 : Nat) (q6 : Nat), QW (dC, dI) (va_A [(h0, .inr (1, [.null, .null, .null, .null, .null, .null, .null, .int 0, .int 0, .int 0, .int 0]))] sz) [(h0, .inr (1, [.ref qd, .ref q1, .ref q2, .ref q3, .ref q4, .ref q5, .ref q6, .int 0, .int 0, .int 0, .int 0]))] [] T9) (va_A [(h0, .inr (1, [.null, .null, .null, .null, .null, .null, .null, .int 0, .int 0, .int 0, .int 0]))] sz)) 45 1053 (va_A [(h0, .inr (1, [.null, .null, .null, .null, .null, .null, .null, .int 0, .int 0, .int 0, .int 0]))] sz) := by
  refine Met.ofW (cc := cX1_init) (maxL := 3) (ret := none) (by decide) rfl ?_
  intro p e s m args below meth c s₁ B hml hv
  obtain ⟨rfl, hsz, hP, hK, hD0, hE⟩ := hv
  have hx := B.exec
  have hb := B.bytes
  have hr := B.returns
  have hts : ∀ w ∈ tb, w.before _ s = true := fun w h => atoms_spec (ws := .code yX1_init cX1_init 3 none :: tb) B.pre w (List.mem_cons_of_mem _ h)
  have hown : s.vm.findClass RX1 = some m.cls := findClass_of_methodNamed B.named
  have hlocks := B.notSynchronized
  have hin : meth.name = "<init>" := (name_of_methodNamed B.named B.method).1
  subst hsz
  have hD := hD0.self (sz := s.heap.size)
  generalize hAe : va_A [(h0, .inr (1, [.null, .null, .null, .null, .null, .null, .null, .int 0, .int 0, .int 0, .int 0]))] s.heap.size = A at hD ⊢
  have hA : ∀ q : Nat, s.heap.size ≤ q → A q := fun q h => by rw [← hAe]; exact Or.inr h
  have hS : va_S A s.heap s.heap [] := va_S.rf
  have hP : va_P (dC, dI) vwCl [(h0, .inr (1, [.null, .null, .null, .null, .null, .null, .null, .int 0, .int 0, .int 0, .int 0]))] s.heap := hP
  have hl := lv_entry ([.ref h0, .ref qd]) (n := 3) (Nat.le_of_ble_eq_true rfl)
  rw [lg_entry_eq]
  generalize (lg_sl ([.ref h0, .ref qd]) ++ List.replicate (3 - (lg_sl ([.ref h0, .ref qd])).length) Slot.unset).toArray = ls at hl ⊢
  have hl : lv_has ls 3 [(0, .ref h0), (1, .ref qd)] := hl
  refine lv_aload_n hx hb dX1_init_0 rfl (lv_at hl 0 rfl) ?_
  refine W.objInit hx hb hown (hts _ kt_61) (hts _ kt_1) (hts _ kt_2) rfl (by rw [hml]; exact hl.1) rfl dX1_init_1 (Nat.le_of_ble_eq_true rfl) (Nat.le_of_ble_eq_true rfl) ?_
  refine W.eq (g2 := F0 m 4 ls []) rfl ?_
  refine lv_aload_n hx hb dX1_init_4 rfl (lv_at hl 0 rfl) ?_
  refine va_new (ci := 0) (fs := [.null, .int 0, .int 0]) (C := RX0) (T := TX0) (N := 3) hx hb hts it_0 tyX0 tyX0_ok hown (hts _ kt_62) (hts _ kt_9) (hts _ kt_10) hK hP hD hS hA rfl df_0 (by show _ + 1 ≤ 45; omega) (by show _ + 3 ≤ 1053; omega) dX1_init_5 (fun q_1 H hP hD hS => ?_)
  have hP : va_P (dC, dI) vwCl [(h0, .inr (1, [.null, .null, .null, .null, .null, .null, .null, .int 0, .int 0, .int 0, .int 0])), (q_1, .inr (0, [.null, .int 0, .int 0]))] H := hP
  have hD : va_D A [(h0, .inr (1, [.null, .null, .null, .null, .null, .null, .null, .int 0, .int 0, .int 0, .int 0])), (q_1, .inr (0, [.null, .int 0, .int 0]))] := hD
  refine lv_dup hx hb dX1_init_8 rfl ?_
  refine lv_bipush (v := 91) hx hb dX1_init_9 (by decide) ?_
  refine lv_topi (fun x ex => ?_)
  obtain rfl : x = nI 91 := ex.trans (by decide)
  have hPc := hP.sub (ws' := [(q_1, .inr (0, [.null, .int 0, .int 0]))]) [1] rfl
  have hDc := hD.sub (ws' := [(q_1, .inr (0, [.null, .int 0, .int 0]))]) [1] (by decide) rfl
  have hKc := hK.sub (tys' := []) [] rfl
  have hFc := va_free (wc := [(q_1, .inr (0, [.null, .int 0, .int 0]))]) hD hS hA [1] rfl
  refine va_callv (va_runI (As := [.int (nI 91)]) (rest := [.ref q_1, .ref h0]) ⟨hx, hb, hml, hown, hts⟩ (c_X0_init l dC dI H.size q_1 91 (by omega)) ⟨callB_of 1 hts (gi kt_11) rfl rfl rfl (hts _ kt_10) (hts _ kt_63) (by decide +kernel) ⟨Nat.le_of_ble_eq_true rfl, Nat.le_of_ble_eq_true rfl⟩, rfl, (hts _ kt_13)⟩ ⟨fun a U g mk q => ⟨q.1, PW.calling q.2⟩, fun U hU hW => ⟨rfl, PW.mk hU hW hPc hKc hDc hE⟩⟩ rfl rfl hl.1 rfl (lv_room (Nat.le_of_ble_eq_true rfl)) dX1_init_11 ⟨by show _ + 1 ≤ 45; omega, by show _ + 91 ≤ 1053; omega⟩) hS (fun q _ h => hFc q h) hFc (fun u t H1 locs ht hvm hw hB hz1 hk1 hS => ?_)
  obtain ⟨q_3, cA_4, hB1⟩ := hB
  obtain ⟨hP, hD, hK⟩ := QW.join (wr := [(h0, .inr (1, [.null, .null, .null, .null, .null, .null, .null, .int 0, .int 0, .int 0, .int 0]))]) hP hD hK [1] [0] rfl rfl (by decide) (by decide) hk1 hFc ht hvm hB1
  generalize H1 = H at hP hS ⊢
  have hK : va_K (dC, dI) vwCl [(cA_4, .int)] s := hK.sub [0] rfl
  have hP : va_P (dC, dI) vwCl [(h0, .inr (1, [.null, .null, .null, .null, .null, .null, .null, .int 0, .int 0, .int 0, .int 0])), (q_1, .inr (0, [.ref q_3, .int 0, .int 0])), (q_3, .inl (cA_4, 91, .inl (fun _ => 0)))] H := hP
  have hD : va_D A [(h0, .inr (1, [.null, .null, .null, .null, .null, .null, .null, .int 0, .int 0, .int 0, .int 0])), (q_1, .inr (0, [.ref q_3, .int 0, .int 0])), (q_3, .inl (cA_4, 91, .inl (fun _ => 0)))] := hD
  refine va_putF (D := (dC, dI)) (ci := 1) (v := .ref q_1) (ty := .object "PostGate$Bytes") (C := RX1) (T := TX1) (N := 11) hx hb hts it_1 tyX1 tyX1_ok nmX1 hown hK hP hD hS 0 rfl rfl 1 (by decide) (hts _ kt_64) (fun _ h9 => h9) rfl hin rfl (by decide +kernel) rfl rfl (Nat.le_of_ble_eq_true rfl) dX1_init_14 (fun H locs hP hD hS => ?_)
  have hP : va_P (dC, dI) vwCl [(h0, .inr (1, [.null, .ref q_1, .null, .null, .null, .null, .null, .int 0, .int 0, .int 0, .int 0])), (q_1, .inr (0, [.ref q_3, .int 0, .int 0])), (q_3, .inl (cA_4, 91, .inl (fun _ => 0)))] H := hP
  have hD : va_D A [(h0, .inr (1, [.null, .ref q_1, .null, .null, .null, .null, .null, .int 0, .int 0, .int 0, .int 0])), (q_1, .inr (0, [.ref q_3, .int 0, .int 0])), (q_3, .inl (cA_4, 91, .inl (fun _ => 0)))] := hD
  refine lv_aload_n hx hb dX1_init_17 rfl (lv_at hl 0 rfl) ?_
  refine va_new (ci := 0) (fs := [.null, .int 0, .int 0]) (C := RX0) (T := TX0) (N := 3) hx hb hts it_0 tyX0 tyX0_ok hown (hts _ kt_62) (hts _ kt_9) (hts _ kt_10) hK hP hD hS hA rfl df_0 (by show _ + 1 ≤ 45; omega) (by show _ + 3 ≤ 1053; omega) dX1_init_18 (fun q_5 H hP hD hS => ?_)
  have hP : va_P (dC, dI) vwCl [(h0, .inr (1, [.null, .ref q_1, .null, .null, .null, .null, .null, .int 0, .int 0, .int 0, .int 0])), (q_1, .inr (0, [.ref q_3, .int 0, .int 0])), (q_3, .inl (cA_4, 91, .inl (fun _ => 0))), (q_5, .inr (0, [.null, .int 0, .int 0]))] H := hP
  have hD : va_D A [(h0, .inr (1, [.null, .ref q_1, .null, .null, .null, .null, .null, .int 0, .int 0, .int 0, .int 0])), (q_1, .inr (0, [.ref q_3, .int 0, .int 0])), (q_3, .inl (cA_4, 91, .inl (fun _ => 0))), (q_5, .inr (0, [.null, .int 0, .int 0]))] := hD
  refine lv_dup hx hb dX1_init_21 rfl ?_
  refine lv_bipush (v := 30) hx hb dX1_init_22 (by decide) ?_
  refine lv_topi (fun x ex => ?_)
  obtain rfl : x = nI 30 := ex.trans (by decide)
  have hPc := hP.sub (ws' := [(q_5, .inr (0, [.null, .int 0, .int 0]))]) [3] rfl
  have hDc := hD.sub (ws' := [(q_5, .inr (0, [.null, .int 0, .int 0]))]) [3] (by decide) rfl
  have hKc := hK.sub (tys' := []) [] rfl
  have hFc := va_free (wc := [(q_5, .inr (0, [.null, .int 0, .int 0]))]) hD hS hA [3] rfl
  refine va_callv (va_runI (As := [.int (nI 30)]) (rest := [.ref q_5, .ref h0]) ⟨hx, hb, hml, hown, hts⟩ (c_X0_init l dC dI H.size q_5 30 (by omega)) ⟨callB_of 1 hts (gi kt_11) rfl rfl rfl (hts _ kt_10) (hts _ kt_63) (by decide +kernel) ⟨Nat.le_of_ble_eq_true rfl, Nat.le_of_ble_eq_true rfl⟩, rfl, (hts _ kt_13)⟩ ⟨fun a U g mk q => ⟨q.1, PW.calling q.2⟩, fun U hU hW => ⟨rfl, PW.mk hU hW hPc hKc hDc hE⟩⟩ rfl rfl hl.1 rfl (lv_room (Nat.le_of_ble_eq_true rfl)) dX1_init_24 ⟨by show _ + 1 ≤ 45; omega, by show _ + 30 ≤ 1053; omega⟩) hS (fun q _ h => hFc q h) hFc (fun u t H1 locs ht hvm hw hB hz1 hk1 hS => ?_)
  obtain ⟨q_7, cA_8, hB1⟩ := hB
  obtain ⟨hP, hD, hK⟩ := QW.join (wr := [(h0, .inr (1, [.null, .ref q_1, .null, .null, .null, .null, .null, .int 0, .int 0, .int 0, .int 0])), (q_1, .inr (0, [.ref q_3, .int 0, .int 0])), (q_3, .inl (cA_4, 91, .inl (fun _ => 0)))]) hP hD hK [3] [0, 1, 2] rfl rfl (by decide) (by decide) hk1 hFc ht hvm hB1
  generalize H1 = H at hP hS ⊢
  have hK : va_K (dC, dI) vwCl [(cA_4, .int), (cA_8, .int)] s := hK.sub [0, 1] rfl
  have hP : va_P (dC, dI) vwCl [(h0, .inr (1, [.null, .ref q_1, .null, .null, .null, .null, .null, .int 0, .int 0, .int 0, .int 0])), (q_1, .inr (0, [.ref q_3, .int 0, .int 0])), (q_3, .inl (cA_4, 91, .inl (fun _ => 0))), (q_5, .inr (0, [.ref q_7, .int 0, .int 0])), (q_7, .inl (cA_8, 30, .inl (fun _ => 0)))] H := hP
  have hD : va_D A [(h0, .inr (1, [.null, .ref q_1, .null, .null, .null, .null, .null, .int 0, .int 0, .int 0, .int 0])), (q_1, .inr (0, [.ref q_3, .int 0, .int 0])), (q_3, .inl (cA_4, 91, .inl (fun _ => 0))), (q_5, .inr (0, [.ref q_7, .int 0, .int 0])), (q_7, .inl (cA_8, 30, .inl (fun _ => 0)))] := hD
  refine va_putF (D := (dC, dI)) (ci := 1) (v := .ref q_5) (ty := .object "PostGate$Bytes") (C := RX1) (T := TX1) (N := 11) hx hb hts it_1 tyX1 tyX1_ok nmX1 hown hK hP hD hS 0 rfl rfl 2 (by decide) (hts _ kt_65) (fun _ h9 => h9) rfl hin rfl (by decide +kernel) rfl rfl (Nat.le_of_ble_eq_true rfl) dX1_init_27 (fun H locs hP hD hS => ?_)
  have hP : va_P (dC, dI) vwCl [(h0, .inr (1, [.null, .ref q_1, .ref q_5, .null, .null, .null, .null, .int 0, .int 0, .int 0, .int 0])), (q_1, .inr (0, [.ref q_3, .int 0, .int 0])), (q_3, .inl (cA_4, 91, .inl (fun _ => 0))), (q_5, .inr (0, [.ref q_7, .int 0, .int 0])), (q_7, .inl (cA_8, 30, .inl (fun _ => 0)))] H := hP
  have hD : va_D A [(h0, .inr (1, [.null, .ref q_1, .ref q_5, .null, .null, .null, .null, .int 0, .int 0, .int 0, .int 0])), (q_1, .inr (0, [.ref q_3, .int 0, .int 0])), (q_3, .inl (cA_4, 91, .inl (fun _ => 0))), (q_5, .inr (0, [.ref q_7, .int 0, .int 0])), (q_7, .inl (cA_8, 30, .inl (fun _ => 0)))] := hD
  refine lv_aload_n hx hb dX1_init_30 rfl (lv_at hl 0 rfl) ?_
  refine va_new (ci := 0) (fs := [.null, .int 0, .int 0]) (C := RX0) (T := TX0) (N := 3) hx hb hts it_0 tyX0 tyX0_ok hown (hts _ kt_62) (hts _ kt_9) (hts _ kt_10) hK hP hD hS hA rfl df_0 (by show _ + 1 ≤ 45; omega) (by show _ + 3 ≤ 1053; omega) dX1_init_31 (fun q_9 H hP hD hS => ?_)
  have hP : va_P (dC, dI) vwCl [(h0, .inr (1, [.null, .ref q_1, .ref q_5, .null, .null, .null, .null, .int 0, .int 0, .int 0, .int 0])), (q_1, .inr (0, [.ref q_3, .int 0, .int 0])), (q_3, .inl (cA_4, 91, .inl (fun _ => 0))), (q_5, .inr (0, [.ref q_7, .int 0, .int 0])), (q_7, .inl (cA_8, 30, .inl (fun _ => 0))), (q_9, .inr (0, [.null, .int 0, .int 0]))] H := hP
  have hD : va_D A [(h0, .inr (1, [.null, .ref q_1, .ref q_5, .null, .null, .null, .null, .int 0, .int 0, .int 0, .int 0])), (q_1, .inr (0, [.ref q_3, .int 0, .int 0])), (q_3, .inl (cA_4, 91, .inl (fun _ => 0))), (q_5, .inr (0, [.ref q_7, .int 0, .int 0])), (q_7, .inl (cA_8, 30, .inl (fun _ => 0))), (q_9, .inr (0, [.null, .int 0, .int 0]))] := hD
  refine lv_dup hx hb dX1_init_34 rfl ?_
  refine lv_bipush (v := 60) hx hb dX1_init_35 (by decide) ?_
  refine lv_topi (fun x ex => ?_)
  obtain rfl : x = nI 60 := ex.trans (by decide)
  have hPc := hP.sub (ws' := [(q_9, .inr (0, [.null, .int 0, .int 0]))]) [5] rfl
  have hDc := hD.sub (ws' := [(q_9, .inr (0, [.null, .int 0, .int 0]))]) [5] (by decide) rfl
  have hKc := hK.sub (tys' := []) [] rfl
  have hFc := va_free (wc := [(q_9, .inr (0, [.null, .int 0, .int 0]))]) hD hS hA [5] rfl
  refine va_callv (va_runI (As := [.int (nI 60)]) (rest := [.ref q_9, .ref h0]) ⟨hx, hb, hml, hown, hts⟩ (c_X0_init l dC dI H.size q_9 60 (by omega)) ⟨callB_of 1 hts (gi kt_11) rfl rfl rfl (hts _ kt_10) (hts _ kt_63) (by decide +kernel) ⟨Nat.le_of_ble_eq_true rfl, Nat.le_of_ble_eq_true rfl⟩, rfl, (hts _ kt_13)⟩ ⟨fun a U g mk q => ⟨q.1, PW.calling q.2⟩, fun U hU hW => ⟨rfl, PW.mk hU hW hPc hKc hDc hE⟩⟩ rfl rfl hl.1 rfl (lv_room (Nat.le_of_ble_eq_true rfl)) dX1_init_37 ⟨by show _ + 1 ≤ 45; omega, by show _ + 60 ≤ 1053; omega⟩) hS (fun q _ h => hFc q h) hFc (fun u t H1 locs ht hvm hw hB hz1 hk1 hS => ?_)
  obtain ⟨q_11, cA_12, hB1⟩ := hB
  obtain ⟨hP, hD, hK⟩ := QW.join (wr := [(h0, .inr (1, [.null, .ref q_1, .ref q_5, .null, .null, .null, .null, .int 0, .int 0, .int 0, .int 0])), (q_1, .inr (0, [.ref q_3, .int 0, .int 0])), (q_3, .inl (cA_4, 91, .inl (fun _ => 0))), (q_5, .inr (0, [.ref q_7, .int 0, .int 0])), (q_7, .inl (cA_8, 30, .inl (fun _ => 0)))]) hP hD hK [5] [0, 1, 2, 3, 4] rfl rfl (by decide) (by decide) hk1 hFc ht hvm hB1
  generalize H1 = H at hP hS ⊢
  have hK : va_K (dC, dI) vwCl [(cA_4, .int), (cA_8, .int), (cA_12, .int)] s := hK.sub [0, 1, 2] rfl
  have hP : va_P (dC, dI) vwCl [(h0, .inr (1, [.null, .ref q_1, .ref q_5, .null, .null, .null, .null, .int 0, .int 0, .int 0, .int 0])), (q_1, .inr (0, [.ref q_3, .int 0, .int 0])), (q_3, .inl (cA_4, 91, .inl (fun _ => 0))), (q_5, .inr (0, [.ref q_7, .int 0, .int 0])), (q_7, .inl (cA_8, 30, .inl (fun _ => 0))), (q_9, .inr (0, [.ref q_11, .int 0, .int 0])), (q_11, .inl (cA_12, 60, .inl (fun _ => 0)))] H := hP
  have hD : va_D A [(h0, .inr (1, [.null, .ref q_1, .ref q_5, .null, .null, .null, .null, .int 0, .int 0, .int 0, .int 0])), (q_1, .inr (0, [.ref q_3, .int 0, .int 0])), (q_3, .inl (cA_4, 91, .inl (fun _ => 0))), (q_5, .inr (0, [.ref q_7, .int 0, .int 0])), (q_7, .inl (cA_8, 30, .inl (fun _ => 0))), (q_9, .inr (0, [.ref q_11, .int 0, .int 0])), (q_11, .inl (cA_12, 60, .inl (fun _ => 0)))] := hD
  refine va_putF (D := (dC, dI)) (ci := 1) (v := .ref q_9) (ty := .object "PostGate$Bytes") (C := RX1) (T := TX1) (N := 11) hx hb hts it_1 tyX1 tyX1_ok nmX1 hown hK hP hD hS 0 rfl rfl 3 (by decide) (hts _ kt_66) (fun _ h9 => h9) rfl hin rfl (by decide +kernel) rfl rfl (Nat.le_of_ble_eq_true rfl) dX1_init_40 (fun H locs hP hD hS => ?_)
  have hP : va_P (dC, dI) vwCl [(h0, .inr (1, [.null, .ref q_1, .ref q_5, .ref q_9, .null, .null, .null, .int 0, .int 0, .int 0, .int 0])), (q_1, .inr (0, [.ref q_3, .int 0, .int 0])), (q_3, .inl (cA_4, 91, .inl (fun _ => 0))), (q_5, .inr (0, [.ref q_7, .int 0, .int 0])), (q_7, .inl (cA_8, 30, .inl (fun _ => 0))), (q_9, .inr (0, [.ref q_11, .int 0, .int 0])), (q_11, .inl (cA_12, 60, .inl (fun _ => 0)))] H := hP
  have hD : va_D A [(h0, .inr (1, [.null, .ref q_1, .ref q_5, .ref q_9, .null, .null, .null, .int 0, .int 0, .int 0, .int 0])), (q_1, .inr (0, [.ref q_3, .int 0, .int 0])), (q_3, .inl (cA_4, 91, .inl (fun _ => 0))), (q_5, .inr (0, [.ref q_7, .int 0, .int 0])), (q_7, .inl (cA_8, 30, .inl (fun _ => 0))), (q_9, .inr (0, [.ref q_11, .int 0, .int 0])), (q_11, .inl (cA_12, 60, .inl (fun _ => 0)))] := hD
  refine lv_aload_n hx hb dX1_init_43 rfl (lv_at hl 0 rfl) ?_
  refine va_new (ci := 0) (fs := [.null, .int 0, .int 0]) (C := RX0) (T := TX0) (N := 3) hx hb hts it_0 tyX0 tyX0_ok hown (hts _ kt_62) (hts _ kt_9) (hts _ kt_10) hK hP hD hS hA rfl df_0 (by show _ + 1 ≤ 45; omega) (by show _ + 3 ≤ 1053; omega) dX1_init_44 (fun q_13 H hP hD hS => ?_)
  have hP : va_P (dC, dI) vwCl [(h0, .inr (1, [.null, .ref q_1, .ref q_5, .ref q_9, .null, .null, .null, .int 0, .int 0, .int 0, .int 0])), (q_1, .inr (0, [.ref q_3, .int 0, .int 0])), (q_3, .inl (cA_4, 91, .inl (fun _ => 0))), (q_5, .inr (0, [.ref q_7, .int 0, .int 0])), (q_7, .inl (cA_8, 30, .inl (fun _ => 0))), (q_9, .inr (0, [.ref q_11, .int 0, .int 0])), (q_11, .inl (cA_12, 60, .inl (fun _ => 0))), (q_13, .inr (0, [.null, .int 0, .int 0]))] H := hP
  have hD : va_D A [(h0, .inr (1, [.null, .ref q_1, .ref q_5, .ref q_9, .null, .null, .null, .int 0, .int 0, .int 0, .int 0])), (q_1, .inr (0, [.ref q_3, .int 0, .int 0])), (q_3, .inl (cA_4, 91, .inl (fun _ => 0))), (q_5, .inr (0, [.ref q_7, .int 0, .int 0])), (q_7, .inl (cA_8, 30, .inl (fun _ => 0))), (q_9, .inr (0, [.ref q_11, .int 0, .int 0])), (q_11, .inl (cA_12, 60, .inl (fun _ => 0))), (q_13, .inr (0, [.null, .int 0, .int 0]))] := hD
  refine lv_dup hx hb dX1_init_47 rfl ?_
  refine lv_bipush (v := 15) hx hb dX1_init_48 (by decide) ?_
  refine lv_topi (fun x ex => ?_)
  obtain rfl : x = nI 15 := ex.trans (by decide)
  have hPc := hP.sub (ws' := [(q_13, .inr (0, [.null, .int 0, .int 0]))]) [7] rfl
  have hDc := hD.sub (ws' := [(q_13, .inr (0, [.null, .int 0, .int 0]))]) [7] (by decide) rfl
  have hKc := hK.sub (tys' := []) [] rfl
  have hFc := va_free (wc := [(q_13, .inr (0, [.null, .int 0, .int 0]))]) hD hS hA [7] rfl
  refine va_callv (va_runI (As := [.int (nI 15)]) (rest := [.ref q_13, .ref h0]) ⟨hx, hb, hml, hown, hts⟩ (c_X0_init l dC dI H.size q_13 15 (by omega)) ⟨callB_of 1 hts (gi kt_11) rfl rfl rfl (hts _ kt_10) (hts _ kt_63) (by decide +kernel) ⟨Nat.le_of_ble_eq_true rfl, Nat.le_of_ble_eq_true rfl⟩, rfl, (hts _ kt_13)⟩ ⟨fun a U g mk q => ⟨q.1, PW.calling q.2⟩, fun U hU hW => ⟨rfl, PW.mk hU hW hPc hKc hDc hE⟩⟩ rfl rfl hl.1 rfl (lv_room (Nat.le_of_ble_eq_true rfl)) dX1_init_50 ⟨by show _ + 1 ≤ 45; omega, by show _ + 15 ≤ 1053; omega⟩) hS (fun q _ h => hFc q h) hFc (fun u t H1 locs ht hvm hw hB hz1 hk1 hS => ?_)
  obtain ⟨q_15, cA_16, hB1⟩ := hB
  obtain ⟨hP, hD, hK⟩ := QW.join (wr := [(h0, .inr (1, [.null, .ref q_1, .ref q_5, .ref q_9, .null, .null, .null, .int 0, .int 0, .int 0, .int 0])), (q_1, .inr (0, [.ref q_3, .int 0, .int 0])), (q_3, .inl (cA_4, 91, .inl (fun _ => 0))), (q_5, .inr (0, [.ref q_7, .int 0, .int 0])), (q_7, .inl (cA_8, 30, .inl (fun _ => 0))), (q_9, .inr (0, [.ref q_11, .int 0, .int 0])), (q_11, .inl (cA_12, 60, .inl (fun _ => 0)))]) hP hD hK [7] [0, 1, 2, 3, 4, 5, 6] rfl rfl (by decide) (by decide) hk1 hFc ht hvm hB1
  generalize H1 = H at hP hS ⊢
  have hK : va_K (dC, dI) vwCl [(cA_4, .int), (cA_8, .int), (cA_12, .int), (cA_16, .int)] s := hK.sub [0, 1, 2, 3] rfl
  have hP : va_P (dC, dI) vwCl [(h0, .inr (1, [.null, .ref q_1, .ref q_5, .ref q_9, .null, .null, .null, .int 0, .int 0, .int 0, .int 0])), (q_1, .inr (0, [.ref q_3, .int 0, .int 0])), (q_3, .inl (cA_4, 91, .inl (fun _ => 0))), (q_5, .inr (0, [.ref q_7, .int 0, .int 0])), (q_7, .inl (cA_8, 30, .inl (fun _ => 0))), (q_9, .inr (0, [.ref q_11, .int 0, .int 0])), (q_11, .inl (cA_12, 60, .inl (fun _ => 0))), (q_13, .inr (0, [.ref q_15, .int 0, .int 0])), (q_15, .inl (cA_16, 15, .inl (fun _ => 0)))] H := hP
  have hD : va_D A [(h0, .inr (1, [.null, .ref q_1, .ref q_5, .ref q_9, .null, .null, .null, .int 0, .int 0, .int 0, .int 0])), (q_1, .inr (0, [.ref q_3, .int 0, .int 0])), (q_3, .inl (cA_4, 91, .inl (fun _ => 0))), (q_5, .inr (0, [.ref q_7, .int 0, .int 0])), (q_7, .inl (cA_8, 30, .inl (fun _ => 0))), (q_9, .inr (0, [.ref q_11, .int 0, .int 0])), (q_11, .inl (cA_12, 60, .inl (fun _ => 0))), (q_13, .inr (0, [.ref q_15, .int 0, .int 0])), (q_15, .inl (cA_16, 15, .inl (fun _ => 0)))] := hD
  refine va_putF (D := (dC, dI)) (ci := 1) (v := .ref q_13) (ty := .object "PostGate$Bytes") (C := RX1) (T := TX1) (N := 11) hx hb hts it_1 tyX1 tyX1_ok nmX1 hown hK hP hD hS 0 rfl rfl 4 (by decide) (hts _ kt_67) (fun _ h9 => h9) rfl hin rfl (by decide +kernel) rfl rfl (Nat.le_of_ble_eq_true rfl) dX1_init_53 (fun H locs hP hD hS => ?_)
  have hP : va_P (dC, dI) vwCl [(h0, .inr (1, [.null, .ref q_1, .ref q_5, .ref q_9, .ref q_13, .null, .null, .int 0, .int 0, .int 0, .int 0])), (q_1, .inr (0, [.ref q_3, .int 0, .int 0])), (q_3, .inl (cA_4, 91, .inl (fun _ => 0))), (q_5, .inr (0, [.ref q_7, .int 0, .int 0])), (q_7, .inl (cA_8, 30, .inl (fun _ => 0))), (q_9, .inr (0, [.ref q_11, .int 0, .int 0])), (q_11, .inl (cA_12, 60, .inl (fun _ => 0))), (q_13, .inr (0, [.ref q_15, .int 0, .int 0])), (q_15, .inl (cA_16, 15, .inl (fun _ => 0)))] H := hP
  have hD : va_D A [(h0, .inr (1, [.null, .ref q_1, .ref q_5, .ref q_9, .ref q_13, .null, .null, .int 0, .int 0, .int 0, .int 0])), (q_1, .inr (0, [.ref q_3, .int 0, .int 0])), (q_3, .inl (cA_4, 91, .inl (fun _ => 0))), (q_5, .inr (0, [.ref q_7, .int 0, .int 0])), (q_7, .inl (cA_8, 30, .inl (fun _ => 0))), (q_9, .inr (0, [.ref q_11, .int 0, .int 0])), (q_11, .inl (cA_12, 60, .inl (fun _ => 0))), (q_13, .inr (0, [.ref q_15, .int 0, .int 0])), (q_15, .inl (cA_16, 15, .inl (fun _ => 0)))] := hD
  refine lv_aload_n hx hb dX1_init_56 rfl (lv_at hl 0 rfl) ?_
  refine lv_bipush (v := 12) hx hb dX1_init_57 (by decide) ?_
  refine va_newq (N' := 12) hx hb hown (hts _ kt_62) (hE.ao0) hK hP hD hS hA (by decide) (by decide) (by decide) (by show _ + 1 ≤ 45; omega) (by show _ + 12 ≤ 1053; omega) dX1_init_59 (fun q_17 cA_18 H hK hP hD hS => ?_)
  have hK : va_K (dC, dI) vwCl [(cA_4, .int), (cA_8, .int), (cA_12, .int), (cA_16, .int), (cA_18, .object RX0)] s := hK
  have hP : va_P (dC, dI) vwCl [(h0, .inr (1, [.null, .ref q_1, .ref q_5, .ref q_9, .ref q_13, .null, .null, .int 0, .int 0, .int 0, .int 0])), (q_1, .inr (0, [.ref q_3, .int 0, .int 0])), (q_3, .inl (cA_4, 91, .inl (fun _ => 0))), (q_5, .inr (0, [.ref q_7, .int 0, .int 0])), (q_7, .inl (cA_8, 30, .inl (fun _ => 0))), (q_9, .inr (0, [.ref q_11, .int 0, .int 0])), (q_11, .inl (cA_12, 60, .inl (fun _ => 0))), (q_13, .inr (0, [.ref q_15, .int 0, .int 0])), (q_15, .inl (cA_16, 15, .inl (fun _ => 0))), (q_17, .inl (cA_18, 12, .inr (.inr (.inr (.inr (fun _ => none))))))] H := hP
  have hD : va_D A [(h0, .inr (1, [.null, .ref q_1, .ref q_5, .ref q_9, .ref q_13, .null, .null, .int 0, .int 0, .int 0, .int 0])), (q_1, .inr (0, [.ref q_3, .int 0, .int 0])), (q_3, .inl (cA_4, 91, .inl (fun _ => 0))), (q_5, .inr (0, [.ref q_7, .int 0, .int 0])), (q_7, .inl (cA_8, 30, .inl (fun _ => 0))), (q_9, .inr (0, [.ref q_11, .int 0, .int 0])), (q_11, .inl (cA_12, 60, .inl (fun _ => 0))), (q_13, .inr (0, [.ref q_15, .int 0, .int 0])), (q_15, .inl (cA_16, 15, .inl (fun _ => 0))), (q_17, .inl (cA_18, 12, .inr (.inr (.inr (.inr (fun _ => none))))))] := hD
  refine va_putF (D := (dC, dI)) (ci := 1) (v := .ref q_17) (ty := .array (.object "PostGate$Bytes")) (C := RX1) (T := TX1) (N := 11) hx hb hts it_1 tyX1 tyX1_ok nmX1 hown hK hP hD hS 0 rfl rfl 5 (by decide) (hts _ kt_68) (fun _ h9 => h9) rfl hin rfl (by decide +kernel) rfl rfl (Nat.le_of_ble_eq_true rfl) dX1_init_62 (fun H locs hP hD hS => ?_)
  have hP : va_P (dC, dI) vwCl [(h0, .inr (1, [.null, .ref q_1, .ref q_5, .ref q_9, .ref q_13, .ref q_17, .null, .int 0, .int 0, .int 0, .int 0])), (q_1, .inr (0, [.ref q_3, .int 0, .int 0])), (q_3, .inl (cA_4, 91, .inl (fun _ => 0))), (q_5, .inr (0, [.ref q_7, .int 0, .int 0])), (q_7, .inl (cA_8, 30, .inl (fun _ => 0))), (q_9, .inr (0, [.ref q_11, .int 0, .int 0])), (q_11, .inl (cA_12, 60, .inl (fun _ => 0))), (q_13, .inr (0, [.ref q_15, .int 0, .int 0])), (q_15, .inl (cA_16, 15, .inl (fun _ => 0))), (q_17, .inl (cA_18, 12, .inr (.inr (.inr (.inr (fun _ => none))))))] H := hP
  have hD : va_D A [(h0, .inr (1, [.null, .ref q_1, .ref q_5, .ref q_9, .ref q_13, .ref q_17, .null, .int 0, .int 0, .int 0, .int 0])), (q_1, .inr (0, [.ref q_3, .int 0, .int 0])), (q_3, .inl (cA_4, 91, .inl (fun _ => 0))), (q_5, .inr (0, [.ref q_7, .int 0, .int 0])), (q_7, .inl (cA_8, 30, .inl (fun _ => 0))), (q_9, .inr (0, [.ref q_11, .int 0, .int 0])), (q_11, .inl (cA_12, 60, .inl (fun _ => 0))), (q_13, .inr (0, [.ref q_15, .int 0, .int 0])), (q_15, .inl (cA_16, 15, .inl (fun _ => 0))), (q_17, .inl (cA_18, 12, .inr (.inr (.inr (.inr (fun _ => none))))))] := hD
  refine lv_aload_n hx hb dX1_init_65 rfl (lv_at hl 0 rfl) ?_
  refine lv_bipush (v := 11) hx hb dX1_init_66 (by decide) ?_
  refine va_newq (N' := 11) hx hb hown (hts _ kt_69) (hE.ao10) hK hP hD hS hA (by decide) (by decide) (by decide) (by show _ + 1 ≤ 45; omega) (by show _ + 11 ≤ 1053; omega) dX1_init_68 (fun q_19 cA_20 H hK hP hD hS => ?_)
  have hK : va_K (dC, dI) vwCl [(cA_4, .int), (cA_8, .int), (cA_12, .int), (cA_16, .int), (cA_18, .object RX0), (cA_20, .object RX10)] s := hK
  have hP : va_P (dC, dI) vwCl [(h0, .inr (1, [.null, .ref q_1, .ref q_5, .ref q_9, .ref q_13, .ref q_17, .null, .int 0, .int 0, .int 0, .int 0])), (q_1, .inr (0, [.ref q_3, .int 0, .int 0])), (q_3, .inl (cA_4, 91, .inl (fun _ => 0))), (q_5, .inr (0, [.ref q_7, .int 0, .int 0])), (q_7, .inl (cA_8, 30, .inl (fun _ => 0))), (q_9, .inr (0, [.ref q_11, .int 0, .int 0])), (q_11, .inl (cA_12, 60, .inl (fun _ => 0))), (q_13, .inr (0, [.ref q_15, .int 0, .int 0])), (q_15, .inl (cA_16, 15, .inl (fun _ => 0))), (q_17, .inl (cA_18, 12, .inr (.inr (.inr (.inr (fun _ => none)))))), (q_19, .inl (cA_20, 11, .inr (.inr (.inr (.inr (fun _ => none))))))] H := hP
  have hD : va_D A [(h0, .inr (1, [.null, .ref q_1, .ref q_5, .ref q_9, .ref q_13, .ref q_17, .null, .int 0, .int 0, .int 0, .int 0])), (q_1, .inr (0, [.ref q_3, .int 0, .int 0])), (q_3, .inl (cA_4, 91, .inl (fun _ => 0))), (q_5, .inr (0, [.ref q_7, .int 0, .int 0])), (q_7, .inl (cA_8, 30, .inl (fun _ => 0))), (q_9, .inr (0, [.ref q_11, .int 0, .int 0])), (q_11, .inl (cA_12, 60, .inl (fun _ => 0))), (q_13, .inr (0, [.ref q_15, .int 0, .int 0])), (q_15, .inl (cA_16, 15, .inl (fun _ => 0))), (q_17, .inl (cA_18, 12, .inr (.inr (.inr (.inr (fun _ => none)))))), (q_19, .inl (cA_20, 11, .inr (.inr (.inr (.inr (fun _ => none))))))] := hD
  refine va_putF (D := (dC, dI)) (ci := 1) (v := .ref q_19) (ty := .array (.object "PostGate$Term")) (C := RX1) (T := TX1) (N := 11) hx hb hts it_1 tyX1 tyX1_ok nmX1 hown hK hP hD hS 0 rfl rfl 6 (by decide) (hts _ kt_70) (fun _ h9 => h9) rfl hin rfl (by decide +kernel) rfl rfl (Nat.le_of_ble_eq_true rfl) dX1_init_71 (fun H locs hP hD hS => ?_)
  have hP : va_P (dC, dI) vwCl [(h0, .inr (1, [.null, .ref q_1, .ref q_5, .ref q_9, .ref q_13, .ref q_17, .ref q_19, .int 0, .int 0, .int 0, .int 0])), (q_1, .inr (0, [.ref q_3, .int 0, .int 0])), (q_3, .inl (cA_4, 91, .inl (fun _ => 0))), (q_5, .inr (0, [.ref q_7, .int 0, .int 0])), (q_7, .inl (cA_8, 30, .inl (fun _ => 0))), (q_9, .inr (0, [.ref q_11, .int 0, .int 0])), (q_11, .inl (cA_12, 60, .inl (fun _ => 0))), (q_13, .inr (0, [.ref q_15, .int 0, .int 0])), (q_15, .inl (cA_16, 15, .inl (fun _ => 0))), (q_17, .inl (cA_18, 12, .inr (.inr (.inr (.inr (fun _ => none)))))), (q_19, .inl (cA_20, 11, .inr (.inr (.inr (.inr (fun _ => none))))))] H := hP
  have hD : va_D A [(h0, .inr (1, [.null, .ref q_1, .ref q_5, .ref q_9, .ref q_13, .ref q_17, .ref q_19, .int 0, .int 0, .int 0, .int 0])), (q_1, .inr (0, [.ref q_3, .int 0, .int 0])), (q_3, .inl (cA_4, 91, .inl (fun _ => 0))), (q_5, .inr (0, [.ref q_7, .int 0, .int 0])), (q_7, .inl (cA_8, 30, .inl (fun _ => 0))), (q_9, .inr (0, [.ref q_11, .int 0, .int 0])), (q_11, .inl (cA_12, 60, .inl (fun _ => 0))), (q_13, .inr (0, [.ref q_15, .int 0, .int 0])), (q_15, .inl (cA_16, 15, .inl (fun _ => 0))), (q_17, .inl (cA_18, 12, .inr (.inr (.inr (.inr (fun _ => none)))))), (q_19, .inl (cA_20, 11, .inr (.inr (.inr (.inr (fun _ => none))))))] := hD
  refine lv_aload_n hx hb dX1_init_74 rfl (lv_at hl 0 rfl) ?_
  refine lv_iconst (v := 0) hx hb dX1_init_75 (by decide) ?_
  refine va_put (D := (dC, dI)) (ci := 1) (v := .int 0) (ty := .int) (C := RX1) (T := TX1) (N := 11) hx hb hts it_1 tyX1 tyX1_ok nmX1 hown hK hP hD hS 0 rfl rfl 7 (by decide) (hts _ kt_71) (fun _ h9 => h9) rfl (by decide +kernel) rfl rfl (Nat.le_of_ble_eq_true rfl) dX1_init_76 (fun H locs hP hD hS => ?_)
  have hP : va_P (dC, dI) vwCl [(h0, .inr (1, [.null, .ref q_1, .ref q_5, .ref q_9, .ref q_13, .ref q_17, .ref q_19, .int 0, .int 0, .int 0, .int 0])), (q_1, .inr (0, [.ref q_3, .int 0, .int 0])), (q_3, .inl (cA_4, 91, .inl (fun _ => 0))), (q_5, .inr (0, [.ref q_7, .int 0, .int 0])), (q_7, .inl (cA_8, 30, .inl (fun _ => 0))), (q_9, .inr (0, [.ref q_11, .int 0, .int 0])), (q_11, .inl (cA_12, 60, .inl (fun _ => 0))), (q_13, .inr (0, [.ref q_15, .int 0, .int 0])), (q_15, .inl (cA_16, 15, .inl (fun _ => 0))), (q_17, .inl (cA_18, 12, .inr (.inr (.inr (.inr (fun _ => none)))))), (q_19, .inl (cA_20, 11, .inr (.inr (.inr (.inr (fun _ => none))))))] H := hP
  have hD : va_D A [(h0, .inr (1, [.null, .ref q_1, .ref q_5, .ref q_9, .ref q_13, .ref q_17, .ref q_19, .int 0, .int 0, .int 0, .int 0])), (q_1, .inr (0, [.ref q_3, .int 0, .int 0])), (q_3, .inl (cA_4, 91, .inl (fun _ => 0))), (q_5, .inr (0, [.ref q_7, .int 0, .int 0])), (q_7, .inl (cA_8, 30, .inl (fun _ => 0))), (q_9, .inr (0, [.ref q_11, .int 0, .int 0])), (q_11, .inl (cA_12, 60, .inl (fun _ => 0))), (q_13, .inr (0, [.ref q_15, .int 0, .int 0])), (q_15, .inl (cA_16, 15, .inl (fun _ => 0))), (q_17, .inl (cA_18, 12, .inr (.inr (.inr (.inr (fun _ => none)))))), (q_19, .inl (cA_20, 11, .inr (.inr (.inr (.inr (fun _ => none))))))] := hD
  refine lv_aload_n hx hb dX1_init_79 rfl (lv_at hl 0 rfl) ?_
  refine lv_iconst (v := 0) hx hb dX1_init_80 (by decide) ?_
  refine va_put (D := (dC, dI)) (ci := 1) (v := .int 0) (ty := .boolean) (C := RX1) (T := TX1) (N := 11) hx hb hts it_1 tyX1 tyX1_ok nmX1 hown hK hP hD hS 0 rfl rfl 8 (by decide) (hts _ kt_72) (fun _ h9 => h9) rfl (by decide +kernel) rfl rfl (Nat.le_of_ble_eq_true rfl) dX1_init_81 (fun H locs hP hD hS => ?_)
  have hP : va_P (dC, dI) vwCl [(h0, .inr (1, [.null, .ref q_1, .ref q_5, .ref q_9, .ref q_13, .ref q_17, .ref q_19, .int 0, .int 0, .int 0, .int 0])), (q_1, .inr (0, [.ref q_3, .int 0, .int 0])), (q_3, .inl (cA_4, 91, .inl (fun _ => 0))), (q_5, .inr (0, [.ref q_7, .int 0, .int 0])), (q_7, .inl (cA_8, 30, .inl (fun _ => 0))), (q_9, .inr (0, [.ref q_11, .int 0, .int 0])), (q_11, .inl (cA_12, 60, .inl (fun _ => 0))), (q_13, .inr (0, [.ref q_15, .int 0, .int 0])), (q_15, .inl (cA_16, 15, .inl (fun _ => 0))), (q_17, .inl (cA_18, 12, .inr (.inr (.inr (.inr (fun _ => none)))))), (q_19, .inl (cA_20, 11, .inr (.inr (.inr (.inr (fun _ => none))))))] H := hP
  have hD : va_D A [(h0, .inr (1, [.null, .ref q_1, .ref q_5, .ref q_9, .ref q_13, .ref q_17, .ref q_19, .int 0, .int 0, .int 0, .int 0])), (q_1, .inr (0, [.ref q_3, .int 0, .int 0])), (q_3, .inl (cA_4, 91, .inl (fun _ => 0))), (q_5, .inr (0, [.ref q_7, .int 0, .int 0])), (q_7, .inl (cA_8, 30, .inl (fun _ => 0))), (q_9, .inr (0, [.ref q_11, .int 0, .int 0])), (q_11, .inl (cA_12, 60, .inl (fun _ => 0))), (q_13, .inr (0, [.ref q_15, .int 0, .int 0])), (q_15, .inl (cA_16, 15, .inl (fun _ => 0))), (q_17, .inl (cA_18, 12, .inr (.inr (.inr (.inr (fun _ => none)))))), (q_19, .inl (cA_20, 11, .inr (.inr (.inr (.inr (fun _ => none))))))] := hD
  refine lv_aload_n hx hb dX1_init_84 rfl (lv_at hl 0 rfl) ?_
  refine lv_iconst (v := 0) hx hb dX1_init_85 (by decide) ?_
  refine va_put (D := (dC, dI)) (ci := 1) (v := .int 0) (ty := .int) (C := RX1) (T := TX1) (N := 11) hx hb hts it_1 tyX1 tyX1_ok nmX1 hown hK hP hD hS 0 rfl rfl 9 (by decide) (hts _ kt_73) (fun _ h9 => h9) rfl (by decide +kernel) rfl rfl (Nat.le_of_ble_eq_true rfl) dX1_init_86 (fun H locs hP hD hS => ?_)
  have hP : va_P (dC, dI) vwCl [(h0, .inr (1, [.null, .ref q_1, .ref q_5, .ref q_9, .ref q_13, .ref q_17, .ref q_19, .int 0, .int 0, .int 0, .int 0])), (q_1, .inr (0, [.ref q_3, .int 0, .int 0])), (q_3, .inl (cA_4, 91, .inl (fun _ => 0))), (q_5, .inr (0, [.ref q_7, .int 0, .int 0])), (q_7, .inl (cA_8, 30, .inl (fun _ => 0))), (q_9, .inr (0, [.ref q_11, .int 0, .int 0])), (q_11, .inl (cA_12, 60, .inl (fun _ => 0))), (q_13, .inr (0, [.ref q_15, .int 0, .int 0])), (q_15, .inl (cA_16, 15, .inl (fun _ => 0))), (q_17, .inl (cA_18, 12, .inr (.inr (.inr (.inr (fun _ => none)))))), (q_19, .inl (cA_20, 11, .inr (.inr (.inr (.inr (fun _ => none))))))] H := hP
  have hD : va_D A [(h0, .inr (1, [.null, .ref q_1, .ref q_5, .ref q_9, .ref q_13, .ref q_17, .ref q_19, .int 0, .int 0, .int 0, .int 0])), (q_1, .inr (0, [.ref q_3, .int 0, .int 0])), (q_3, .inl (cA_4, 91, .inl (fun _ => 0))), (q_5, .inr (0, [.ref q_7, .int 0, .int 0])), (q_7, .inl (cA_8, 30, .inl (fun _ => 0))), (q_9, .inr (0, [.ref q_11, .int 0, .int 0])), (q_11, .inl (cA_12, 60, .inl (fun _ => 0))), (q_13, .inr (0, [.ref q_15, .int 0, .int 0])), (q_15, .inl (cA_16, 15, .inl (fun _ => 0))), (q_17, .inl (cA_18, 12, .inr (.inr (.inr (.inr (fun _ => none)))))), (q_19, .inl (cA_20, 11, .inr (.inr (.inr (.inr (fun _ => none))))))] := hD
  refine lv_aload_n hx hb dX1_init_89 rfl (lv_at hl 0 rfl) ?_
  refine lv_iconst (v := 0) hx hb dX1_init_90 (by decide) ?_
  refine va_put (D := (dC, dI)) (ci := 1) (v := .int 0) (ty := .int) (C := RX1) (T := TX1) (N := 11) hx hb hts it_1 tyX1 tyX1_ok nmX1 hown hK hP hD hS 0 rfl rfl 10 (by decide) (hts _ kt_74) (fun _ h9 => h9) rfl (by decide +kernel) rfl rfl (Nat.le_of_ble_eq_true rfl) dX1_init_91 (fun H locs hP hD hS => ?_)
  have hP : va_P (dC, dI) vwCl [(h0, .inr (1, [.null, .ref q_1, .ref q_5, .ref q_9, .ref q_13, .ref q_17, .ref q_19, .int 0, .int 0, .int 0, .int 0])), (q_1, .inr (0, [.ref q_3, .int 0, .int 0])), (q_3, .inl (cA_4, 91, .inl (fun _ => 0))), (q_5, .inr (0, [.ref q_7, .int 0, .int 0])), (q_7, .inl (cA_8, 30, .inl (fun _ => 0))), (q_9, .inr (0, [.ref q_11, .int 0, .int 0])), (q_11, .inl (cA_12, 60, .inl (fun _ => 0))), (q_13, .inr (0, [.ref q_15, .int 0, .int 0])), (q_15, .inl (cA_16, 15, .inl (fun _ => 0))), (q_17, .inl (cA_18, 12, .inr (.inr (.inr (.inr (fun _ => none)))))), (q_19, .inl (cA_20, 11, .inr (.inr (.inr (.inr (fun _ => none))))))] H := hP
  have hD : va_D A [(h0, .inr (1, [.null, .ref q_1, .ref q_5, .ref q_9, .ref q_13, .ref q_17, .ref q_19, .int 0, .int 0, .int 0, .int 0])), (q_1, .inr (0, [.ref q_3, .int 0, .int 0])), (q_3, .inl (cA_4, 91, .inl (fun _ => 0))), (q_5, .inr (0, [.ref q_7, .int 0, .int 0])), (q_7, .inl (cA_8, 30, .inl (fun _ => 0))), (q_9, .inr (0, [.ref q_11, .int 0, .int 0])), (q_11, .inl (cA_12, 60, .inl (fun _ => 0))), (q_13, .inr (0, [.ref q_15, .int 0, .int 0])), (q_15, .inl (cA_16, 15, .inl (fun _ => 0))), (q_17, .inl (cA_18, 12, .inr (.inr (.inr (.inr (fun _ => none)))))), (q_19, .inl (cA_20, 11, .inr (.inr (.inr (.inr (fun _ => none))))))] := hD
  refine lv_aload_n hx hb dX1_init_94 rfl (lv_at hl 0 rfl) ?_
  refine lv_aload_n hx hb dX1_init_95 rfl (lv_at hl 1 rfl) ?_
  refine va_putF (D := (dC, dI)) (ci := 1) (v := .ref qd) (ty := .object "PostGate$Directory") (C := RX1) (T := TX1) (N := 11) hx hb hts it_1 tyX1 tyX1_ok nmX1 hown hK hP hD hS 0 rfl rfl 0 (by decide) (hts _ kt_75) (fun _ h9 => h9) rfl hin rfl (by decide +kernel) rfl rfl (Nat.le_of_ble_eq_true rfl) dX1_init_96 (fun H locs hP hD hS => ?_)
  have hP : va_P (dC, dI) vwCl [(h0, .inr (1, [.ref qd, .ref q_1, .ref q_5, .ref q_9, .ref q_13, .ref q_17, .ref q_19, .int 0, .int 0, .int 0, .int 0])), (q_1, .inr (0, [.ref q_3, .int 0, .int 0])), (q_3, .inl (cA_4, 91, .inl (fun _ => 0))), (q_5, .inr (0, [.ref q_7, .int 0, .int 0])), (q_7, .inl (cA_8, 30, .inl (fun _ => 0))), (q_9, .inr (0, [.ref q_11, .int 0, .int 0])), (q_11, .inl (cA_12, 60, .inl (fun _ => 0))), (q_13, .inr (0, [.ref q_15, .int 0, .int 0])), (q_15, .inl (cA_16, 15, .inl (fun _ => 0))), (q_17, .inl (cA_18, 12, .inr (.inr (.inr (.inr (fun _ => none)))))), (q_19, .inl (cA_20, 11, .inr (.inr (.inr (.inr (fun _ => none))))))] H := hP
  have hD : va_D A [(h0, .inr (1, [.ref qd, .ref q_1, .ref q_5, .ref q_9, .ref q_13, .ref q_17, .ref q_19, .int 0, .int 0, .int 0, .int 0])), (q_1, .inr (0, [.ref q_3, .int 0, .int 0])), (q_3, .inl (cA_4, 91, .inl (fun _ => 0))), (q_5, .inr (0, [.ref q_7, .int 0, .int 0])), (q_7, .inl (cA_8, 30, .inl (fun _ => 0))), (q_9, .inr (0, [.ref q_11, .int 0, .int 0])), (q_11, .inl (cA_12, 60, .inl (fun _ => 0))), (q_13, .inr (0, [.ref q_15, .int 0, .int 0])), (q_15, .inl (cA_16, 15, .inl (fun _ => 0))), (q_17, .inl (cA_18, 12, .inr (.inr (.inr (.inr (fun _ => none)))))), (q_19, .inl (cA_20, 11, .inr (.inr (.inr (.inr (fun _ => none))))))] := hD
  refine lv_iconst (v := 0) hx hb dX1_init_99 (by decide) ?_
  refine lv_istore_n (lv' := [(2, .int 0), (0, .ref h0), (1, .ref qd)]) hx hb dX1_init_100 rfl hl (by decide) rfl (fun ls hl => ?_)
  refine W.widen (k := 10 + 3 * 0) (n := 231 + 69 * 0) (by omega) (by omega) ?_
  refine wl_loop (σ := Nat × (Nat → Option Nat) × (Nat → Option Nat)) A (dC, dI) 101 3 (fun (i, f, k) => [(h0, .inr (1, [.ref qd, .ref q_1, .ref q_5, .ref q_9, .ref q_13, .ref q_17, .ref q_19, .int 0, .int 0, .int 0, .int 0])), (q_17, .inl (cA_18, 12, .inr (.inr (.inr (.inr f))))), (q_19, .inl (cA_20, 11, .inr (.inr (.inr (.inr k)))))]) (fun (i, f, k) => [(2, .int (nI i)), (0, .ref h0), (1, .ref qd)]) (fun (i, f, k) => []) (fun (i, f, k) => 10 + 3 * i) (fun (i, f, k) => 231 + 69 * i) (fun (i, f, k) => i ≤ 11) (fun (i, f, k) => 11 - i) ?_ (0, (fun _ => none), (fun _ => none)) (by first | omega | exact ⟨by omega, by omega⟩) _ _ (hP.sub [0, 9, 10] rfl) (hD.sub [0, 9, 10] (by decide) rfl) hS ls (lv_sub hl [0, 1, 2] rfl)
  rintro ⟨i, f, k⟩ hv_21 ih_22 H locs hP hD hS ls hl
  have hP : va_P (dC, dI) vwCl [(h0, .inr (1, [.ref qd, .ref q_1, .ref q_5, .ref q_9, .ref q_13, .ref q_17, .ref q_19, .int 0, .int 0, .int 0, .int 0])), (q_17, .inl (cA_18, 12, .inr (.inr (.inr (.inr f))))), (q_19, .inl (cA_20, 11, .inr (.inr (.inr (.inr k)))))] H := hP
  have hD : va_D A [(h0, .inr (1, [.ref qd, .ref q_1, .ref q_5, .ref q_9, .ref q_13, .ref q_17, .ref q_19, .int 0, .int 0, .int 0, .int 0])), (q_17, .inl (cA_18, 12, .inr (.inr (.inr (.inr f))))), (q_19, .inl (cA_20, 11, .inr (.inr (.inr (.inr k)))))] := hD
  have hl : lv_has ls 3 [(2, .int (nI i)), (0, .ref h0), (1, .ref qd)] := hl
  have hv_21 : i ≤ 11 := hv_21
  refine W.widen (k := 10 + 3 * i) (n := 231 + 69 * i) (Nat.le_refl _) (Nat.le_refl _) ?_
  refine W.eq (g2 := F0 m 101 ls []) rfl ?_
  refine lv_iload_n hx hb dX1_init_101 rfl (lv_at hl 0 rfl) ?_
  refine lv_bipush (v := 11) hx hb dX1_init_102 (by decide) ?_
  refine lv_icmp_ge (tgt := 141) hx hb dX1_init_104 (by decide) (fun c_23 => ?_) (fun c_23 => ?_)
  ·
    have hi_24 : 11 ≤ i := leN (N := 11) c_23
    refine lv_aload_n hx hb dX1_init_141 rfl (lv_at hl 1 rfl) ?_
    refine va_get (D := (dC, dI)) (ci := 1) (v := .ref q_17) (C := RX1) (T := TX1) (N := 11) hx hb hts it_1 hown hK hP 0 rfl rfl 5 (by decide) (hts _ kt_68) (fun _ h9 => h9) rfl dX1_init_142 ?_
    refine lv_bipush (v := 11) hx hb dX1_init_145 (by decide) ?_
    refine va_new (ci := 0) (fs := [.null, .int 0, .int 0]) (C := RX0) (T := TX0) (N := 3) hx hb hts it_0 tyX0 tyX0_ok hown (hts _ kt_62) (hts _ kt_9) (hts _ kt_10) hK hP hD hS hA rfl df_0 (by show _ + 1 ≤ 45; omega) (by show _ + 3 ≤ 1053; omega) dX1_init_147 (fun q_25 H hP hD hS => ?_)
    have hP : va_P (dC, dI) vwCl [(h0, .inr (1, [.ref qd, .ref q_1, .ref q_5, .ref q_9, .ref q_13, .ref q_17, .ref q_19, .int 0, .int 0, .int 0, .int 0])), (q_17, .inl (cA_18, 12, .inr (.inr (.inr (.inr f))))), (q_19, .inl (cA_20, 11, .inr (.inr (.inr (.inr k))))), (q_25, .inr (0, [.null, .int 0, .int 0]))] H := hP
    have hD : va_D A [(h0, .inr (1, [.ref qd, .ref q_1, .ref q_5, .ref q_9, .ref q_13, .ref q_17, .ref q_19, .int 0, .int 0, .int 0, .int 0])), (q_17, .inl (cA_18, 12, .inr (.inr (.inr (.inr f))))), (q_19, .inl (cA_20, 11, .inr (.inr (.inr (.inr k))))), (q_25, .inr (0, [.null, .int 0, .int 0]))] := hD
    refine lv_dup hx hb dX1_init_150 rfl ?_
    refine lv_bipush (v := 60) hx hb dX1_init_151 (by decide) ?_
    refine lv_topi (fun x ex => ?_)
    obtain rfl : x = nI 60 := ex.trans (by decide)
    have hPc := hP.sub (ws' := [(q_25, .inr (0, [.null, .int 0, .int 0]))]) [3] rfl
    have hDc := hD.sub (ws' := [(q_25, .inr (0, [.null, .int 0, .int 0]))]) [3] (by decide) rfl
    have hKc := hK.sub (tys' := []) [] rfl
    have hFc := va_free (wc := [(q_25, .inr (0, [.null, .int 0, .int 0]))]) hD hS hA [3] rfl
    refine va_callv (va_runI (As := [.int (nI 60)]) (rest := [.ref q_25, .int 11, .ref q_17]) ⟨hx, hb, hml, hown, hts⟩ (c_X0_init l dC dI H.size q_25 60 (by omega)) ⟨callB_of 1 hts (gi kt_11) rfl rfl rfl (hts _ kt_10) (hts _ kt_63) (by decide +kernel) ⟨Nat.le_of_ble_eq_true rfl, Nat.le_of_ble_eq_true rfl⟩, rfl, (hts _ kt_13)⟩ ⟨fun a U g mk q => ⟨q.1, PW.calling q.2⟩, fun U hU hW => ⟨rfl, PW.mk hU hW hPc hKc hDc hE⟩⟩ rfl rfl hl.1 rfl (lv_room (Nat.le_of_ble_eq_true rfl)) dX1_init_153 ⟨by show _ + 1 ≤ 45; omega, by show _ + 60 ≤ 1053; omega⟩) hS (fun q _ h => hFc q h) hFc (fun u t H1 locs ht hvm hw hB hz1 hk1 hS => ?_)
    obtain ⟨q_27, cA_28, hB1⟩ := hB
    obtain ⟨hP, hD, hK⟩ := QW.join (wr := [(h0, .inr (1, [.ref qd, .ref q_1, .ref q_5, .ref q_9, .ref q_13, .ref q_17, .ref q_19, .int 0, .int 0, .int 0, .int 0])), (q_17, .inl (cA_18, 12, .inr (.inr (.inr (.inr f))))), (q_19, .inl (cA_20, 11, .inr (.inr (.inr (.inr k)))))]) hP hD hK [3] [0, 1, 2] rfl rfl (by decide) (by decide) hk1 hFc ht hvm hB1
    generalize H1 = H at hP hS ⊢
    have hK : va_K (dC, dI) vwCl [(cA_4, .int), (cA_8, .int), (cA_12, .int), (cA_16, .int), (cA_18, .object RX0), (cA_20, .object RX10), (cA_28, .int)] s := hK.sub [0, 1, 2, 3, 4, 5, 6] rfl
    have hP : va_P (dC, dI) vwCl [(h0, .inr (1, [.ref qd, .ref q_1, .ref q_5, .ref q_9, .ref q_13, .ref q_17, .ref q_19, .int 0, .int 0, .int 0, .int 0])), (q_17, .inl (cA_18, 12, .inr (.inr (.inr (.inr f))))), (q_19, .inl (cA_20, 11, .inr (.inr (.inr (.inr k))))), (q_25, .inr (0, [.ref q_27, .int 0, .int 0])), (q_27, .inl (cA_28, 60, .inl (fun _ => 0)))] H := hP
    have hD : va_D A [(h0, .inr (1, [.ref qd, .ref q_1, .ref q_5, .ref q_9, .ref q_13, .ref q_17, .ref q_19, .int 0, .int 0, .int 0, .int 0])), (q_17, .inl (cA_18, 12, .inr (.inr (.inr (.inr f))))), (q_19, .inl (cA_20, 11, .inr (.inr (.inr (.inr k))))), (q_25, .inr (0, [.ref q_27, .int 0, .int 0])), (q_27, .inl (cA_28, 60, .inl (fun _ => 0)))] := hD
    refine va_astq (r := (RX0, TX0, 3)) hx hb hK hP hD hS 1 4 3 0 rfl rfl rfl rfl (show vp_in (11 : Int32) 12 from (show vp_in (nI 11) 12 from vp_in_nI (by omega) (by omega))) dX1_init_156 (fun H locs hP hD hS => ?_)
    obtain ⟨f_29, hP, hD⟩ : ∃ f_29 : Nat → Option Nat, va_P (dC, dI) vwCl [(h0, .inr (1, [.ref qd, .ref q_1, .ref q_5, .ref q_9, .ref q_13, .ref q_17, .ref q_19, .int 0, .int 0, .int 0, .int 0])), (q_17, .inl (cA_18, 12, .inr (.inr (.inr (.inr f_29))))), (q_19, .inl (cA_20, 11, .inr (.inr (.inr (.inr k))))), (q_25, .inr (0, [.ref q_27, .int 0, .int 0])), (q_27, .inl (cA_28, 60, .inl (fun _ => 0)))] H ∧ va_D A [(h0, .inr (1, [.ref qd, .ref q_1, .ref q_5, .ref q_9, .ref q_13, .ref q_17, .ref q_19, .int 0, .int 0, .int 0, .int 0])), (q_17, .inl (cA_18, 12, .inr (.inr (.inr (.inr f_29))))), (q_19, .inl (cA_20, 11, .inr (.inr (.inr (.inr k))))), (q_25, .inr (0, [.ref q_27, .int 0, .int 0])), (q_27, .inl (cA_28, 60, .inl (fun _ => 0)))] := ⟨_, hP, hD⟩
    have hP9 := hP.sub (ws' := [(h0, .inr (1, [.ref qd, .ref q_1, .ref q_5, .ref q_9, .ref q_13, .ref q_17, .ref q_19, .int 0, .int 0, .int 0, .int 0]))]) [0] rfl
    have hD9 := hD.sub (ws' := [(h0, .inr (1, [.ref qd, .ref q_1, .ref q_5, .ref q_9, .ref q_13, .ref q_17, .ref q_19, .int 0, .int 0, .int 0, .int 0]))]) [0] (by decide) rfl
    have hK9 := hK.sub (tys' := []) [] rfl
    refine W.widen (k := 45) (n := 1053) (by omega) (by omega) ?_
    exact W.vret hx hb hr (fun t ht hW => ⟨⟨(), rfl, trivial, ⟨q_1, q_5, q_9, q_13, q_17, q_19, QW.mk ht hW hP9 hK9 hD9⟩⟩, hS.F ht⟩) hS.2.2 dX1_init_157
  ·
    have hi_30 : i < 11 := ltN (N := 11) c_23
    refine lv_aload_n hx hb dX1_init_107 rfl (lv_at hl 1 rfl) ?_
    refine va_get (D := (dC, dI)) (ci := 1) (v := .ref q_17) (C := RX1) (T := TX1) (N := 11) hx hb hts it_1 hown hK hP 0 rfl rfl 5 (by decide) (hts _ kt_68) (fun _ h9 => h9) rfl dX1_init_108 ?_
    refine lv_iload_n hx hb dX1_init_111 rfl (lv_at hl 0 rfl) ?_
    refine va_new (ci := 0) (fs := [.null, .int 0, .int 0]) (C := RX0) (T := TX0) (N := 3) hx hb hts it_0 tyX0 tyX0_ok hown (hts _ kt_62) (hts _ kt_9) (hts _ kt_10) hK hP hD hS hA rfl df_0 (by show _ + 1 ≤ 45; omega) (by show _ + 3 ≤ 1053; omega) dX1_init_112 (fun q_31 H hP hD hS => ?_)
    have hP : va_P (dC, dI) vwCl [(h0, .inr (1, [.ref qd, .ref q_1, .ref q_5, .ref q_9, .ref q_13, .ref q_17, .ref q_19, .int 0, .int 0, .int 0, .int 0])), (q_17, .inl (cA_18, 12, .inr (.inr (.inr (.inr f))))), (q_19, .inl (cA_20, 11, .inr (.inr (.inr (.inr k))))), (q_31, .inr (0, [.null, .int 0, .int 0]))] H := hP
    have hD : va_D A [(h0, .inr (1, [.ref qd, .ref q_1, .ref q_5, .ref q_9, .ref q_13, .ref q_17, .ref q_19, .int 0, .int 0, .int 0, .int 0])), (q_17, .inl (cA_18, 12, .inr (.inr (.inr (.inr f))))), (q_19, .inl (cA_20, 11, .inr (.inr (.inr (.inr k))))), (q_31, .inr (0, [.null, .int 0, .int 0]))] := hD
    refine lv_dup hx hb dX1_init_115 rfl ?_
    refine lv_bipush (v := 60) hx hb dX1_init_116 (by decide) ?_
    refine lv_topi (fun x ex => ?_)
    obtain rfl : x = nI 60 := ex.trans (by decide)
    have hPc := hP.sub (ws' := [(q_31, .inr (0, [.null, .int 0, .int 0]))]) [3] rfl
    have hDc := hD.sub (ws' := [(q_31, .inr (0, [.null, .int 0, .int 0]))]) [3] (by decide) rfl
    have hKc := hK.sub (tys' := []) [] rfl
    have hFc := va_free (wc := [(q_31, .inr (0, [.null, .int 0, .int 0]))]) hD hS hA [3] rfl
    refine va_callv (va_runI (As := [.int (nI 60)]) (rest := [.ref q_31, .int (nI i), .ref q_17]) ⟨hx, hb, hml, hown, hts⟩ (c_X0_init l dC dI H.size q_31 60 (by omega)) ⟨callB_of 1 hts (gi kt_11) rfl rfl rfl (hts _ kt_10) (hts _ kt_63) (by decide +kernel) ⟨Nat.le_of_ble_eq_true rfl, Nat.le_of_ble_eq_true rfl⟩, rfl, (hts _ kt_13)⟩ ⟨fun a U g mk q => ⟨q.1, PW.calling q.2⟩, fun U hU hW => ⟨rfl, PW.mk hU hW hPc hKc hDc hE⟩⟩ rfl rfl hl.1 rfl (lv_room (Nat.le_of_ble_eq_true rfl)) dX1_init_118 ⟨by show _ + 1 ≤ 45; omega, by show _ + 60 ≤ 1053; omega⟩) hS (fun q _ h => hFc q h) hFc (fun u t H1 locs ht hvm hw hB hz1 hk1 hS => ?_)
    obtain ⟨q_33, cA_34, hB1⟩ := hB
    obtain ⟨hP, hD, hK⟩ := QW.join (wr := [(h0, .inr (1, [.ref qd, .ref q_1, .ref q_5, .ref q_9, .ref q_13, .ref q_17, .ref q_19, .int 0, .int 0, .int 0, .int 0])), (q_17, .inl (cA_18, 12, .inr (.inr (.inr (.inr f))))), (q_19, .inl (cA_20, 11, .inr (.inr (.inr (.inr k)))))]) hP hD hK [3] [0, 1, 2] rfl rfl (by decide) (by decide) hk1 hFc ht hvm hB1
    generalize H1 = H at hP hS ⊢
    have hK : va_K (dC, dI) vwCl [(cA_4, .int), (cA_8, .int), (cA_12, .int), (cA_16, .int), (cA_18, .object RX0), (cA_20, .object RX10), (cA_34, .int)] s := hK.sub [0, 1, 2, 3, 4, 5, 6] rfl
    have hP : va_P (dC, dI) vwCl [(h0, .inr (1, [.ref qd, .ref q_1, .ref q_5, .ref q_9, .ref q_13, .ref q_17, .ref q_19, .int 0, .int 0, .int 0, .int 0])), (q_17, .inl (cA_18, 12, .inr (.inr (.inr (.inr f))))), (q_19, .inl (cA_20, 11, .inr (.inr (.inr (.inr k))))), (q_31, .inr (0, [.ref q_33, .int 0, .int 0])), (q_33, .inl (cA_34, 60, .inl (fun _ => 0)))] H := hP
    have hD : va_D A [(h0, .inr (1, [.ref qd, .ref q_1, .ref q_5, .ref q_9, .ref q_13, .ref q_17, .ref q_19, .int 0, .int 0, .int 0, .int 0])), (q_17, .inl (cA_18, 12, .inr (.inr (.inr (.inr f))))), (q_19, .inl (cA_20, 11, .inr (.inr (.inr (.inr k))))), (q_31, .inr (0, [.ref q_33, .int 0, .int 0])), (q_33, .inl (cA_34, 60, .inl (fun _ => 0)))] := hD
    refine va_astq (r := (RX0, TX0, 3)) hx hb hK hP hD hS 1 4 3 0 rfl rfl rfl rfl (vp_in_nI (by omega) (by omega)) dX1_init_121 (fun H locs hP hD hS => ?_)
    obtain ⟨f_35, hP, hD⟩ : ∃ f_35 : Nat → Option Nat, va_P (dC, dI) vwCl [(h0, .inr (1, [.ref qd, .ref q_1, .ref q_5, .ref q_9, .ref q_13, .ref q_17, .ref q_19, .int 0, .int 0, .int 0, .int 0])), (q_17, .inl (cA_18, 12, .inr (.inr (.inr (.inr f_35))))), (q_19, .inl (cA_20, 11, .inr (.inr (.inr (.inr k))))), (q_31, .inr (0, [.ref q_33, .int 0, .int 0])), (q_33, .inl (cA_34, 60, .inl (fun _ => 0)))] H ∧ va_D A [(h0, .inr (1, [.ref qd, .ref q_1, .ref q_5, .ref q_9, .ref q_13, .ref q_17, .ref q_19, .int 0, .int 0, .int 0, .int 0])), (q_17, .inl (cA_18, 12, .inr (.inr (.inr (.inr f_35))))), (q_19, .inl (cA_20, 11, .inr (.inr (.inr (.inr k))))), (q_31, .inr (0, [.ref q_33, .int 0, .int 0])), (q_33, .inl (cA_34, 60, .inl (fun _ => 0)))] := ⟨_, hP, hD⟩
    refine lv_aload_n hx hb dX1_init_122 rfl (lv_at hl 1 rfl) ?_
    refine va_get (D := (dC, dI)) (ci := 1) (v := .ref q_19) (C := RX1) (T := TX1) (N := 11) hx hb hts it_1 hown hK hP 0 rfl rfl 6 (by decide) (hts _ kt_70) (fun _ h9 => h9) rfl dX1_init_123 ?_
    refine lv_iload_n hx hb dX1_init_126 rfl (lv_at hl 0 rfl) ?_
    refine va_new (ci := 10) (fs := [.int 0, .int 0, .int 0, .int 0, .int 0, .int 0]) (C := RX10) (T := TX10) (N := 6) hx hb hts it_10 tyX10 tyX10_ok hown (hts _ kt_69) (hts _ kt_76) (hts _ kt_77) hK hP hD hS hA rfl df_10 (by show _ + 1 ≤ 45; omega) (by show _ + 6 ≤ 1053; omega) dX1_init_127 (fun q_36 H hP hD hS => ?_)
    have hP : va_P (dC, dI) vwCl [(h0, .inr (1, [.ref qd, .ref q_1, .ref q_5, .ref q_9, .ref q_13, .ref q_17, .ref q_19, .int 0, .int 0, .int 0, .int 0])), (q_17, .inl (cA_18, 12, .inr (.inr (.inr (.inr f_35))))), (q_19, .inl (cA_20, 11, .inr (.inr (.inr (.inr k))))), (q_31, .inr (0, [.ref q_33, .int 0, .int 0])), (q_33, .inl (cA_34, 60, .inl (fun _ => 0))), (q_36, .inr (10, [.int 0, .int 0, .int 0, .int 0, .int 0, .int 0]))] H := hP
    have hD : va_D A [(h0, .inr (1, [.ref qd, .ref q_1, .ref q_5, .ref q_9, .ref q_13, .ref q_17, .ref q_19, .int 0, .int 0, .int 0, .int 0])), (q_17, .inl (cA_18, 12, .inr (.inr (.inr (.inr f_35))))), (q_19, .inl (cA_20, 11, .inr (.inr (.inr (.inr k))))), (q_31, .inr (0, [.ref q_33, .int 0, .int 0])), (q_33, .inl (cA_34, 60, .inl (fun _ => 0))), (q_36, .inr (10, [.int 0, .int 0, .int 0, .int 0, .int 0, .int 0]))] := hD
    refine lv_dup hx hb dX1_init_130 rfl ?_
    have hPc := hP.sub (ws' := [(q_36, .inr (10, [.int 0, .int 0, .int 0, .int 0, .int 0, .int 0]))]) [5] rfl
    have hDc := hD.sub (ws' := [(q_36, .inr (10, [.int 0, .int 0, .int 0, .int 0, .int 0, .int 0]))]) [5] (by decide) rfl
    have hKc := hK.sub (tys' := []) [] rfl
    have hFc := va_free (wc := [(q_36, .inr (10, [.int 0, .int 0, .int 0, .int 0, .int 0, .int 0]))]) hD hS hA [5] rfl
    refine va_callv (va_runIN (As := []) (rest := [.ref q_36, .int (nI i), .ref q_19]) ⟨hx, hb, hml, hown, hts⟩ (c_X10_init l dC dI H.size q_36 ) ⟨va_cnB 0 hts (gi kt_78) rfl rfl rfl (hE.nestw kn_1) (hts _ kt_77) (by decide +kernel) ⟨Nat.le_of_ble_eq_true rfl, Nat.le_of_ble_eq_true rfl⟩, rfl, (hts _ kt_79)⟩ ⟨fun a U g mk q => ⟨q.1, PW.calling q.2⟩, fun U hU hW => ⟨rfl, PW.mk hU hW hPc hKc hDc hE⟩⟩ rfl rfl hl.1 rfl (lv_room (Nat.le_of_ble_eq_true rfl)) dX1_init_131 ⟨by show _ + 0 ≤ 45; omega, by show _ + 0 ≤ 1053; omega⟩) hS (fun q _ h => hFc q h) hFc (fun u t H1 locs ht hvm hw hB hz1 hk1 hS => ?_)
    have hB1 := hB
    obtain ⟨hP, hD, hK⟩ := QW.join (wr := [(h0, .inr (1, [.ref qd, .ref q_1, .ref q_5, .ref q_9, .ref q_13, .ref q_17, .ref q_19, .int 0, .int 0, .int 0, .int 0])), (q_17, .inl (cA_18, 12, .inr (.inr (.inr (.inr f_35))))), (q_19, .inl (cA_20, 11, .inr (.inr (.inr (.inr k))))), (q_31, .inr (0, [.ref q_33, .int 0, .int 0])), (q_33, .inl (cA_34, 60, .inl (fun _ => 0)))]) hP hD hK [5] [0, 1, 2, 3, 4] rfl rfl (by decide) (by decide) hk1 hFc ht hvm hB1
    generalize H1 = H at hP hS ⊢
    have hK : va_K (dC, dI) vwCl [(cA_4, .int), (cA_8, .int), (cA_12, .int), (cA_16, .int), (cA_18, .object RX0), (cA_20, .object RX10), (cA_34, .int)] s := hK.sub [0, 1, 2, 3, 4, 5, 6] rfl
    have hP : va_P (dC, dI) vwCl [(h0, .inr (1, [.ref qd, .ref q_1, .ref q_5, .ref q_9, .ref q_13, .ref q_17, .ref q_19, .int 0, .int 0, .int 0, .int 0])), (q_17, .inl (cA_18, 12, .inr (.inr (.inr (.inr f_35))))), (q_19, .inl (cA_20, 11, .inr (.inr (.inr (.inr k))))), (q_31, .inr (0, [.ref q_33, .int 0, .int 0])), (q_33, .inl (cA_34, 60, .inl (fun _ => 0))), (q_36, .inr (10, [.int 0, .int 43, .int 0, .int 0, .int 32, .int 0]))] H := hP
    have hD : va_D A [(h0, .inr (1, [.ref qd, .ref q_1, .ref q_5, .ref q_9, .ref q_13, .ref q_17, .ref q_19, .int 0, .int 0, .int 0, .int 0])), (q_17, .inl (cA_18, 12, .inr (.inr (.inr (.inr f_35))))), (q_19, .inl (cA_20, 11, .inr (.inr (.inr (.inr k))))), (q_31, .inr (0, [.ref q_33, .int 0, .int 0])), (q_33, .inl (cA_34, 60, .inl (fun _ => 0))), (q_36, .inr (10, [.int 0, .int 43, .int 0, .int 0, .int 32, .int 0]))] := hD
    refine va_astq (r := (RX10, TX10, 6)) hx hb hK hP hD hS 2 5 5 10 rfl rfl rfl rfl (vp_in_nI (by omega) (by omega)) dX1_init_134 (fun H locs hP hD hS => ?_)
    obtain ⟨f_38, hP, hD⟩ : ∃ f_38 : Nat → Option Nat, va_P (dC, dI) vwCl [(h0, .inr (1, [.ref qd, .ref q_1, .ref q_5, .ref q_9, .ref q_13, .ref q_17, .ref q_19, .int 0, .int 0, .int 0, .int 0])), (q_17, .inl (cA_18, 12, .inr (.inr (.inr (.inr f_35))))), (q_19, .inl (cA_20, 11, .inr (.inr (.inr (.inr f_38))))), (q_31, .inr (0, [.ref q_33, .int 0, .int 0])), (q_33, .inl (cA_34, 60, .inl (fun _ => 0))), (q_36, .inr (10, [.int 0, .int 43, .int 0, .int 0, .int 32, .int 0]))] H ∧ va_D A [(h0, .inr (1, [.ref qd, .ref q_1, .ref q_5, .ref q_9, .ref q_13, .ref q_17, .ref q_19, .int 0, .int 0, .int 0, .int 0])), (q_17, .inl (cA_18, 12, .inr (.inr (.inr (.inr f_35))))), (q_19, .inl (cA_20, 11, .inr (.inr (.inr (.inr f_38))))), (q_31, .inr (0, [.ref q_33, .int 0, .int 0])), (q_33, .inl (cA_34, 60, .inl (fun _ => 0))), (q_36, .inr (10, [.int 0, .int 43, .int 0, .int 0, .int 32, .int 0]))] := ⟨_, hP, hD⟩
    refine lv_iinc (v := (nI (i + 1))) (lv' := [(2, .int (nI (i + 1))), (0, .ref h0), (1, .ref qd)]) hx hb dX1_init_135 hl (k := 0) rfl (nI_1 _) (by decide) rfl (fun ls hl => ?_)
    refine lv_goto (tgt := 101) hx hb dX1_init_138 (by decide) ?_
    refine W.widen (k := 10 + 3 * (i + 1)) (n := 231 + 69 * (i + 1)) (by omega) (by omega) ?_
    exact ih_22 ((i + 1), f_35, f_38) (by first | omega | exact ⟨by omega, by omega⟩) (by show 11 - (i + 1) < 11 - i; omega) _ _ (hP.sub [0, 1, 2] rfl) (hD.sub [0, 1, 2] (by decide) rfl) hS ls (lv_sub hl [0, 1, 2] rfl)
set_option maxHeartbeats 4000000 in
set_option maxRecDepth 100000 in
theorem c_X5_init (l : Launch) (dC : Nat → ClassId) (dI : Nat → Nat → Nat) (sz : Nat) (h0 : Nat) (qd : Nat) : Met l yX5_init (.code yX5_init cX5_init 2 none :: tb) ({ frames := 3, cells := 10, slots := 954, locals := 54 }) (va_Pc [.ref h0, .ref qd] (PW (dC, dI) sz [(h0, .inr (5, [.null, .null, .null, .null, .int 0, .int 0, .int 0]))] [])) (va_Qv (fun _ : Unit => True) (fun _ T9 => QW (dC, dI) (va_A [(h0, .inr (5, [.null, .null, .null, .null, .int 0, .int 0, .int 0]))] sz) [] [] T9) (va_A [(h0, .inr (5, [.null, .null, .null, .null, .int 0, .int 0, .int 0]))] sz)) 10 954 (va_A [(h0, .inr (5, [.null, .null, .null, .null, .int 0, .int 0, .int 0]))] sz) := by
  refine Met.ofW (cc := cX5_init) (maxL := 2) (ret := none) (by decide) rfl ?_
  intro p e s m args below meth c s₁ B hml hv
  obtain ⟨rfl, hsz, hP, hK, hD0, hE⟩ := hv
  have hx := B.exec
  have hb := B.bytes
  have hr := B.returns
  have hts : ∀ w ∈ tb, w.before _ s = true := fun w h => atoms_spec (ws := .code yX5_init cX5_init 2 none :: tb) B.pre w (List.mem_cons_of_mem _ h)
  have hown : s.vm.findClass RX5 = some m.cls := findClass_of_methodNamed B.named
  have hlocks := B.notSynchronized
  have hin : meth.name = "<init>" := (name_of_methodNamed B.named B.method).1
  subst hsz
  have hD := hD0.self (sz := s.heap.size)
  generalize hAe : va_A [(h0, .inr (5, [.null, .null, .null, .null, .int 0, .int 0, .int 0]))] s.heap.size = A at hD ⊢
  have hA : ∀ q : Nat, s.heap.size ≤ q → A q := fun q h => by rw [← hAe]; exact Or.inr h
  have hS : va_S A s.heap s.heap [] := va_S.rf
  have hP : va_P (dC, dI) vwCl [(h0, .inr (5, [.null, .null, .null, .null, .int 0, .int 0, .int 0]))] s.heap := hP
  have hl := lv_entry ([.ref h0, .ref qd]) (n := 2) (Nat.le_of_ble_eq_true rfl)
  rw [lg_entry_eq]
  generalize (lg_sl ([.ref h0, .ref qd]) ++ List.replicate (2 - (lg_sl ([.ref h0, .ref qd])).length) Slot.unset).toArray = ls at hl ⊢
  have hl : lv_has ls 2 [(0, .ref h0), (1, .ref qd)] := hl
  refine lv_aload_n hx hb dX5_init_0 rfl (lv_at hl 0 rfl) ?_
  refine W.objInit hx hb hown (hts _ kt_80) (hts _ kt_1) (hts _ kt_2) rfl (by rw [hml]; exact hl.1) rfl dX5_init_1 (Nat.le_of_ble_eq_true rfl) (Nat.le_of_ble_eq_true rfl) ?_
  refine W.eq (g2 := F0 m 4 ls []) rfl ?_
  refine lv_aload_n hx hb dX5_init_4 rfl (lv_at hl 0 rfl) ?_
  refine va_new (ci := 0) (fs := [.null, .int 0, .int 0]) (C := RX0) (T := TX0) (N := 3) hx hb hts it_0 tyX0 tyX0_ok hown (hts _ kt_81) (hts _ kt_9) (hts _ kt_10) hK hP hD hS hA rfl df_0 (by show _ + 1 ≤ 10; omega) (by show _ + 3 ≤ 954; omega) dX5_init_5 (fun q_1 H hP hD hS => ?_)
  have hP : va_P (dC, dI) vwCl [(h0, .inr (5, [.null, .null, .null, .null, .int 0, .int 0, .int 0])), (q_1, .inr (0, [.null, .int 0, .int 0]))] H := hP
  have hD : va_D A [(h0, .inr (5, [.null, .null, .null, .null, .int 0, .int 0, .int 0])), (q_1, .inr (0, [.null, .int 0, .int 0]))] := hD
  refine lv_dup hx hb dX5_init_8 rfl ?_
  refine lv_bipush (v := 60) hx hb dX5_init_9 (by decide) ?_
  refine lv_topi (fun x ex => ?_)
  obtain rfl : x = nI 60 := ex.trans (by decide)
  have hPc := hP.sub (ws' := [(q_1, .inr (0, [.null, .int 0, .int 0]))]) [1] rfl
  have hDc := hD.sub (ws' := [(q_1, .inr (0, [.null, .int 0, .int 0]))]) [1] (by decide) rfl
  have hKc := hK.sub (tys' := []) [] rfl
  have hFc := va_free (wc := [(q_1, .inr (0, [.null, .int 0, .int 0]))]) hD hS hA [1] rfl
  refine va_callv (va_runI (As := [.int (nI 60)]) (rest := [.ref q_1, .ref h0]) ⟨hx, hb, hml, hown, hts⟩ (c_X0_init l dC dI H.size q_1 60 (by omega)) ⟨callB_of 1 hts (gi kt_11) rfl rfl rfl (hts _ kt_10) (hts _ kt_82) (by decide +kernel) ⟨Nat.le_of_ble_eq_true rfl, Nat.le_of_ble_eq_true rfl⟩, rfl, (hts _ kt_13)⟩ ⟨fun a U g mk q => ⟨q.1, PW.calling q.2⟩, fun U hU hW => ⟨rfl, PW.mk hU hW hPc hKc hDc hE⟩⟩ rfl rfl hl.1 rfl (lv_room (Nat.le_of_ble_eq_true rfl)) dX5_init_11 ⟨by show _ + 1 ≤ 10; omega, by show _ + 60 ≤ 954; omega⟩) hS (fun q _ h => hFc q h) hFc (fun u t H1 locs ht hvm hw hB hz1 hk1 hS => ?_)
  obtain ⟨q_3, cA_4, hB1⟩ := hB
  obtain ⟨hP, hD, hK⟩ := QW.join (wr := [(h0, .inr (5, [.null, .null, .null, .null, .int 0, .int 0, .int 0]))]) hP hD hK [1] [0] rfl rfl (by decide) (by decide) hk1 hFc ht hvm hB1
  generalize H1 = H at hP hS ⊢
  have hK : va_K (dC, dI) vwCl [(cA_4, .int)] s := hK.sub [0] rfl
  have hP : va_P (dC, dI) vwCl [(h0, .inr (5, [.null, .null, .null, .null, .int 0, .int 0, .int 0])), (q_1, .inr (0, [.ref q_3, .int 0, .int 0])), (q_3, .inl (cA_4, 60, .inl (fun _ => 0)))] H := hP
  have hD : va_D A [(h0, .inr (5, [.null, .null, .null, .null, .int 0, .int 0, .int 0])), (q_1, .inr (0, [.ref q_3, .int 0, .int 0])), (q_3, .inl (cA_4, 60, .inl (fun _ => 0)))] := hD
  refine va_putF (D := (dC, dI)) (ci := 5) (v := .ref q_1) (ty := .object "PostGate$Bytes") (C := RX5) (T := TX5) (N := 7) hx hb hts it_5 tyX5 tyX5_ok nmX5 hown hK hP hD hS 0 rfl rfl 1 (by decide) (hts _ kt_83) (fun _ h9 => h9) rfl hin rfl (by decide +kernel) rfl rfl (Nat.le_of_ble_eq_true rfl) dX5_init_14 (fun H locs hP hD hS => ?_)
  have hP : va_P (dC, dI) vwCl [(h0, .inr (5, [.null, .ref q_1, .null, .null, .int 0, .int 0, .int 0])), (q_1, .inr (0, [.ref q_3, .int 0, .int 0])), (q_3, .inl (cA_4, 60, .inl (fun _ => 0)))] H := hP
  have hD : va_D A [(h0, .inr (5, [.null, .ref q_1, .null, .null, .int 0, .int 0, .int 0])), (q_1, .inr (0, [.ref q_3, .int 0, .int 0])), (q_3, .inl (cA_4, 60, .inl (fun _ => 0)))] := hD
  refine lv_aload_n hx hb dX5_init_17 rfl (lv_at hl 0 rfl) ?_
  refine va_new (ci := 0) (fs := [.null, .int 0, .int 0]) (C := RX0) (T := TX0) (N := 3) hx hb hts it_0 tyX0 tyX0_ok hown (hts _ kt_81) (hts _ kt_9) (hts _ kt_10) hK hP hD hS hA rfl df_0 (by show _ + 1 ≤ 10; omega) (by show _ + 3 ≤ 954; omega) dX5_init_18 (fun q_5 H hP hD hS => ?_)
  have hP : va_P (dC, dI) vwCl [(h0, .inr (5, [.null, .ref q_1, .null, .null, .int 0, .int 0, .int 0])), (q_1, .inr (0, [.ref q_3, .int 0, .int 0])), (q_3, .inl (cA_4, 60, .inl (fun _ => 0))), (q_5, .inr (0, [.null, .int 0, .int 0]))] H := hP
  have hD : va_D A [(h0, .inr (5, [.null, .ref q_1, .null, .null, .int 0, .int 0, .int 0])), (q_1, .inr (0, [.ref q_3, .int 0, .int 0])), (q_3, .inl (cA_4, 60, .inl (fun _ => 0))), (q_5, .inr (0, [.null, .int 0, .int 0]))] := hD
  refine lv_dup hx hb dX5_init_21 rfl ?_
  refine lv_bipush (v := 60) hx hb dX5_init_22 (by decide) ?_
  refine lv_topi (fun x ex => ?_)
  obtain rfl : x = nI 60 := ex.trans (by decide)
  have hPc := hP.sub (ws' := [(q_5, .inr (0, [.null, .int 0, .int 0]))]) [3] rfl
  have hDc := hD.sub (ws' := [(q_5, .inr (0, [.null, .int 0, .int 0]))]) [3] (by decide) rfl
  have hKc := hK.sub (tys' := []) [] rfl
  have hFc := va_free (wc := [(q_5, .inr (0, [.null, .int 0, .int 0]))]) hD hS hA [3] rfl
  refine va_callv (va_runI (As := [.int (nI 60)]) (rest := [.ref q_5, .ref h0]) ⟨hx, hb, hml, hown, hts⟩ (c_X0_init l dC dI H.size q_5 60 (by omega)) ⟨callB_of 1 hts (gi kt_11) rfl rfl rfl (hts _ kt_10) (hts _ kt_82) (by decide +kernel) ⟨Nat.le_of_ble_eq_true rfl, Nat.le_of_ble_eq_true rfl⟩, rfl, (hts _ kt_13)⟩ ⟨fun a U g mk q => ⟨q.1, PW.calling q.2⟩, fun U hU hW => ⟨rfl, PW.mk hU hW hPc hKc hDc hE⟩⟩ rfl rfl hl.1 rfl (lv_room (Nat.le_of_ble_eq_true rfl)) dX5_init_24 ⟨by show _ + 1 ≤ 10; omega, by show _ + 60 ≤ 954; omega⟩) hS (fun q _ h => hFc q h) hFc (fun u t H1 locs ht hvm hw hB hz1 hk1 hS => ?_)
  obtain ⟨q_7, cA_8, hB1⟩ := hB
  obtain ⟨hP, hD, hK⟩ := QW.join (wr := [(h0, .inr (5, [.null, .ref q_1, .null, .null, .int 0, .int 0, .int 0])), (q_1, .inr (0, [.ref q_3, .int 0, .int 0])), (q_3, .inl (cA_4, 60, .inl (fun _ => 0)))]) hP hD hK [3] [0, 1, 2] rfl rfl (by decide) (by decide) hk1 hFc ht hvm hB1
  generalize H1 = H at hP hS ⊢
  have hK : va_K (dC, dI) vwCl [(cA_4, .int), (cA_8, .int)] s := hK.sub [0, 1] rfl
  have hP : va_P (dC, dI) vwCl [(h0, .inr (5, [.null, .ref q_1, .null, .null, .int 0, .int 0, .int 0])), (q_1, .inr (0, [.ref q_3, .int 0, .int 0])), (q_3, .inl (cA_4, 60, .inl (fun _ => 0))), (q_5, .inr (0, [.ref q_7, .int 0, .int 0])), (q_7, .inl (cA_8, 60, .inl (fun _ => 0)))] H := hP
  have hD : va_D A [(h0, .inr (5, [.null, .ref q_1, .null, .null, .int 0, .int 0, .int 0])), (q_1, .inr (0, [.ref q_3, .int 0, .int 0])), (q_3, .inl (cA_4, 60, .inl (fun _ => 0))), (q_5, .inr (0, [.ref q_7, .int 0, .int 0])), (q_7, .inl (cA_8, 60, .inl (fun _ => 0)))] := hD
  refine va_putF (D := (dC, dI)) (ci := 5) (v := .ref q_5) (ty := .object "PostGate$Bytes") (C := RX5) (T := TX5) (N := 7) hx hb hts it_5 tyX5 tyX5_ok nmX5 hown hK hP hD hS 0 rfl rfl 2 (by decide) (hts _ kt_84) (fun _ h9 => h9) rfl hin rfl (by decide +kernel) rfl rfl (Nat.le_of_ble_eq_true rfl) dX5_init_27 (fun H locs hP hD hS => ?_)
  have hP : va_P (dC, dI) vwCl [(h0, .inr (5, [.null, .ref q_1, .ref q_5, .null, .int 0, .int 0, .int 0])), (q_1, .inr (0, [.ref q_3, .int 0, .int 0])), (q_3, .inl (cA_4, 60, .inl (fun _ => 0))), (q_5, .inr (0, [.ref q_7, .int 0, .int 0])), (q_7, .inl (cA_8, 60, .inl (fun _ => 0)))] H := hP
  have hD : va_D A [(h0, .inr (5, [.null, .ref q_1, .ref q_5, .null, .int 0, .int 0, .int 0])), (q_1, .inr (0, [.ref q_3, .int 0, .int 0])), (q_3, .inl (cA_4, 60, .inl (fun _ => 0))), (q_5, .inr (0, [.ref q_7, .int 0, .int 0])), (q_7, .inl (cA_8, 60, .inl (fun _ => 0)))] := hD
  refine lv_aload_n hx hb dX5_init_30 rfl (lv_at hl 0 rfl) ?_
  refine va_new (ci := 9) (fs := [.null, .null, .null, .null, .int 0]) (C := RX9) (T := TX9) (N := 5) hx hb hts it_9 tyX9 tyX9_ok hown (hts _ kt_85) (hts _ kt_86) (hts _ kt_87) hK hP hD hS hA rfl df_9 (by show _ + 1 ≤ 10; omega) (by show _ + 5 ≤ 954; omega) dX5_init_31 (fun q_9 H hP hD hS => ?_)
  have hP : va_P (dC, dI) vwCl [(h0, .inr (5, [.null, .ref q_1, .ref q_5, .null, .int 0, .int 0, .int 0])), (q_1, .inr (0, [.ref q_3, .int 0, .int 0])), (q_3, .inl (cA_4, 60, .inl (fun _ => 0))), (q_5, .inr (0, [.ref q_7, .int 0, .int 0])), (q_7, .inl (cA_8, 60, .inl (fun _ => 0))), (q_9, .inr (9, [.null, .null, .null, .null, .int 0]))] H := hP
  have hD : va_D A [(h0, .inr (5, [.null, .ref q_1, .ref q_5, .null, .int 0, .int 0, .int 0])), (q_1, .inr (0, [.ref q_3, .int 0, .int 0])), (q_3, .inl (cA_4, 60, .inl (fun _ => 0))), (q_5, .inr (0, [.ref q_7, .int 0, .int 0])), (q_7, .inl (cA_8, 60, .inl (fun _ => 0))), (q_9, .inr (9, [.null, .null, .null, .null, .int 0]))] := hD
  refine lv_dup hx hb dX5_init_34 rfl ?_
  refine lv_sipush (v := 700) hx hb dX5_init_35 (by decide) ?_
  refine lv_topi (fun x ex => ?_)
  obtain rfl : x = nI 700 := ex.trans (by decide)
  have hPc := hP.sub (ws' := [(q_9, .inr (9, [.null, .null, .null, .null, .int 0]))]) [5] rfl
  have hDc := hD.sub (ws' := [(q_9, .inr (9, [.null, .null, .null, .null, .int 0]))]) [5] (by decide) rfl
  have hKc := hK.sub (tys' := []) [] rfl
  have hFc := va_free (wc := [(q_9, .inr (9, [.null, .null, .null, .null, .int 0]))]) hD hS hA [5] rfl
  refine va_callv (va_runI (As := [.int (nI 700)]) (rest := [.ref q_9, .ref h0]) ⟨hx, hb, hml, hown, hts⟩ (c_X9_init l dC dI H.size q_9 700 (by omega)) ⟨callB_of 1 hts (gi kt_88) rfl rfl rfl (hts _ kt_87) (hts _ kt_89) (by decide +kernel) ⟨Nat.le_of_ble_eq_true rfl, Nat.le_of_ble_eq_true rfl⟩, rfl, (hts _ kt_90)⟩ ⟨fun a U g mk q => ⟨q.1, PW.calling q.2⟩, fun U hU hW => ⟨rfl, PW.mk hU hW hPc hKc hDc hE⟩⟩ rfl rfl hl.1 rfl (lv_room (Nat.le_of_ble_eq_true rfl)) dX5_init_38 ⟨by show _ + 5 ≤ 10; omega, by show _ + (700 + 123) ≤ 954; omega⟩) hS (fun q _ h => hFc q h) hFc (fun u t H1 locs ht hvm hw hB hz1 hk1 hS => ?_)
  have hB1 := hB
  obtain ⟨hP, hD, hK⟩ := QW.join (wr := [(h0, .inr (5, [.null, .ref q_1, .ref q_5, .null, .int 0, .int 0, .int 0])), (q_1, .inr (0, [.ref q_3, .int 0, .int 0])), (q_3, .inl (cA_4, 60, .inl (fun _ => 0))), (q_5, .inr (0, [.ref q_7, .int 0, .int 0])), (q_7, .inl (cA_8, 60, .inl (fun _ => 0)))]) hP hD hK [5] [0, 1, 2, 3, 4] rfl rfl (by decide) (by decide) hk1 hFc ht hvm hB1
  generalize H1 = H at hP hS ⊢
  have hK : va_K (dC, dI) vwCl [(cA_4, .int), (cA_8, .int)] s := hK.sub [0, 1] rfl
  have hP : va_P (dC, dI) vwCl [(h0, .inr (5, [.null, .ref q_1, .ref q_5, .null, .int 0, .int 0, .int 0])), (q_1, .inr (0, [.ref q_3, .int 0, .int 0])), (q_3, .inl (cA_4, 60, .inl (fun _ => 0))), (q_5, .inr (0, [.ref q_7, .int 0, .int 0])), (q_7, .inl (cA_8, 60, .inl (fun _ => 0)))] H := hP
  have hD : va_D A [(h0, .inr (5, [.null, .ref q_1, .ref q_5, .null, .int 0, .int 0, .int 0])), (q_1, .inr (0, [.ref q_3, .int 0, .int 0])), (q_3, .inl (cA_4, 60, .inl (fun _ => 0))), (q_5, .inr (0, [.ref q_7, .int 0, .int 0])), (q_7, .inl (cA_8, 60, .inl (fun _ => 0)))] := hD
  refine va_putF (D := (dC, dI)) (ci := 5) (v := .ref q_9) (ty := .object "PostGate$Tags") (C := RX5) (T := TX5) (N := 7) hx hb hts it_5 tyX5 tyX5_ok nmX5 hown hK hP hD hS 0 rfl rfl 3 (by decide) (hts _ kt_91) (fun _ h9 => h9) rfl hin rfl (by decide +kernel) rfl rfl (Nat.le_of_ble_eq_true rfl) dX5_init_41 (fun H locs hP hD hS => ?_)
  have hP : va_P (dC, dI) vwCl [(h0, .inr (5, [.null, .ref q_1, .ref q_5, .ref q_9, .int 0, .int 0, .int 0])), (q_1, .inr (0, [.ref q_3, .int 0, .int 0])), (q_3, .inl (cA_4, 60, .inl (fun _ => 0))), (q_5, .inr (0, [.ref q_7, .int 0, .int 0])), (q_7, .inl (cA_8, 60, .inl (fun _ => 0)))] H := hP
  have hD : va_D A [(h0, .inr (5, [.null, .ref q_1, .ref q_5, .ref q_9, .int 0, .int 0, .int 0])), (q_1, .inr (0, [.ref q_3, .int 0, .int 0])), (q_3, .inl (cA_4, 60, .inl (fun _ => 0))), (q_5, .inr (0, [.ref q_7, .int 0, .int 0])), (q_7, .inl (cA_8, 60, .inl (fun _ => 0)))] := hD
  refine lv_aload_n hx hb dX5_init_44 rfl (lv_at hl 0 rfl) ?_
  refine lv_iconst (v := 0) hx hb dX5_init_45 (by decide) ?_
  refine va_put (D := (dC, dI)) (ci := 5) (v := .int 0) (ty := .int) (C := RX5) (T := TX5) (N := 7) hx hb hts it_5 tyX5 tyX5_ok nmX5 hown hK hP hD hS 0 rfl rfl 4 (by decide) (hts _ kt_92) (fun _ h9 => h9) rfl (by decide +kernel) rfl rfl (Nat.le_of_ble_eq_true rfl) dX5_init_46 (fun H locs hP hD hS => ?_)
  have hP : va_P (dC, dI) vwCl [(h0, .inr (5, [.null, .ref q_1, .ref q_5, .ref q_9, .int 0, .int 0, .int 0])), (q_1, .inr (0, [.ref q_3, .int 0, .int 0])), (q_3, .inl (cA_4, 60, .inl (fun _ => 0))), (q_5, .inr (0, [.ref q_7, .int 0, .int 0])), (q_7, .inl (cA_8, 60, .inl (fun _ => 0)))] H := hP
  have hD : va_D A [(h0, .inr (5, [.null, .ref q_1, .ref q_5, .ref q_9, .int 0, .int 0, .int 0])), (q_1, .inr (0, [.ref q_3, .int 0, .int 0])), (q_3, .inl (cA_4, 60, .inl (fun _ => 0))), (q_5, .inr (0, [.ref q_7, .int 0, .int 0])), (q_7, .inl (cA_8, 60, .inl (fun _ => 0)))] := hD
  refine lv_aload_n hx hb dX5_init_49 rfl (lv_at hl 0 rfl) ?_
  refine lv_iconst (v := 0) hx hb dX5_init_50 (by decide) ?_
  refine va_put (D := (dC, dI)) (ci := 5) (v := .int 0) (ty := .boolean) (C := RX5) (T := TX5) (N := 7) hx hb hts it_5 tyX5 tyX5_ok nmX5 hown hK hP hD hS 0 rfl rfl 5 (by decide) (hts _ kt_93) (fun _ h9 => h9) rfl (by decide +kernel) rfl rfl (Nat.le_of_ble_eq_true rfl) dX5_init_51 (fun H locs hP hD hS => ?_)
  have hP : va_P (dC, dI) vwCl [(h0, .inr (5, [.null, .ref q_1, .ref q_5, .ref q_9, .int 0, .int 0, .int 0])), (q_1, .inr (0, [.ref q_3, .int 0, .int 0])), (q_3, .inl (cA_4, 60, .inl (fun _ => 0))), (q_5, .inr (0, [.ref q_7, .int 0, .int 0])), (q_7, .inl (cA_8, 60, .inl (fun _ => 0)))] H := hP
  have hD : va_D A [(h0, .inr (5, [.null, .ref q_1, .ref q_5, .ref q_9, .int 0, .int 0, .int 0])), (q_1, .inr (0, [.ref q_3, .int 0, .int 0])), (q_3, .inl (cA_4, 60, .inl (fun _ => 0))), (q_5, .inr (0, [.ref q_7, .int 0, .int 0])), (q_7, .inl (cA_8, 60, .inl (fun _ => 0)))] := hD
  refine lv_aload_n hx hb dX5_init_54 rfl (lv_at hl 0 rfl) ?_
  refine lv_iconst (v := 0) hx hb dX5_init_55 (by decide) ?_
  refine va_put (D := (dC, dI)) (ci := 5) (v := .int 0) (ty := .boolean) (C := RX5) (T := TX5) (N := 7) hx hb hts it_5 tyX5 tyX5_ok nmX5 hown hK hP hD hS 0 rfl rfl 6 (by decide) (hts _ kt_94) (fun _ h9 => h9) rfl (by decide +kernel) rfl rfl (Nat.le_of_ble_eq_true rfl) dX5_init_56 (fun H locs hP hD hS => ?_)
  have hP : va_P (dC, dI) vwCl [(h0, .inr (5, [.null, .ref q_1, .ref q_5, .ref q_9, .int 0, .int 0, .int 0])), (q_1, .inr (0, [.ref q_3, .int 0, .int 0])), (q_3, .inl (cA_4, 60, .inl (fun _ => 0))), (q_5, .inr (0, [.ref q_7, .int 0, .int 0])), (q_7, .inl (cA_8, 60, .inl (fun _ => 0)))] H := hP
  have hD : va_D A [(h0, .inr (5, [.null, .ref q_1, .ref q_5, .ref q_9, .int 0, .int 0, .int 0])), (q_1, .inr (0, [.ref q_3, .int 0, .int 0])), (q_3, .inl (cA_4, 60, .inl (fun _ => 0))), (q_5, .inr (0, [.ref q_7, .int 0, .int 0])), (q_7, .inl (cA_8, 60, .inl (fun _ => 0)))] := hD
  refine lv_aload_n hx hb dX5_init_59 rfl (lv_at hl 0 rfl) ?_
  refine lv_aload_n hx hb dX5_init_60 rfl (lv_at hl 1 rfl) ?_
  refine va_putF (D := (dC, dI)) (ci := 5) (v := .ref qd) (ty := .object "PostGate$Directory") (C := RX5) (T := TX5) (N := 7) hx hb hts it_5 tyX5 tyX5_ok nmX5 hown hK hP hD hS 0 rfl rfl 0 (by decide) (hts _ kt_95) (fun _ h9 => h9) rfl hin rfl (by decide +kernel) rfl rfl (Nat.le_of_ble_eq_true rfl) dX5_init_61 (fun H locs hP hD hS => ?_)
  have hP : va_P (dC, dI) vwCl [(h0, .inr (5, [.ref qd, .ref q_1, .ref q_5, .ref q_9, .int 0, .int 0, .int 0])), (q_1, .inr (0, [.ref q_3, .int 0, .int 0])), (q_3, .inl (cA_4, 60, .inl (fun _ => 0))), (q_5, .inr (0, [.ref q_7, .int 0, .int 0])), (q_7, .inl (cA_8, 60, .inl (fun _ => 0)))] H := hP
  have hD : va_D A [(h0, .inr (5, [.ref qd, .ref q_1, .ref q_5, .ref q_9, .int 0, .int 0, .int 0])), (q_1, .inr (0, [.ref q_3, .int 0, .int 0])), (q_3, .inl (cA_4, 60, .inl (fun _ => 0))), (q_5, .inr (0, [.ref q_7, .int 0, .int 0])), (q_7, .inl (cA_8, 60, .inl (fun _ => 0)))] := hD
  have hP9 := hP.sub (ws' := []) [] rfl
  have hD9 := hD.sub (ws' := []) [] (by decide) rfl
  have hK9 := hK.sub (tys' := []) [] rfl
  refine W.widen (k := 10) (n := 954) (by omega) (by omega) ?_
  exact W.vret hx hb hr (fun t ht hW => ⟨⟨(), rfl, trivial, QW.mk ht hW hP9 hK9 hD9⟩, hS.F ht⟩) hS.2.2 dX5_init_64
set_option maxHeartbeats 4000000 in
set_option maxRecDepth 100000 in
theorem c_X7_init (l : Launch) (dC : Nat → ClassId) (dI : Nat → Nat → Nat) (sz : Nat) (h0 : Nat) (qd : Nat) : Met l yX7_init (.code yX7_init cX7_init 2 none :: tb) ({ frames := 3, cells := 40, slots := 10697, locals := 54 }) (va_Pc [.ref h0, .ref qd] (PW (dC, dI) sz [(h0, .inr (7, [.null, .null, .null, .null, .null, .null, .null, .null, .null, .null, .null, .null, .null, .null, .null, .int 0, .int 0]))] [])) (va_Qv (fun _ : Unit => True) (fun _ T9 => QW (dC, dI) (va_A [(h0, .inr (7, [.null, .null, .null, .null, .null, .null, .null, .null, .null, .null, .null, .null, .null, .null, .null, .int 0, .int 0]))] sz) [] [] T9) (va_A [(h0, .inr (7, [.null, .null, .null, .null, .null, .null, .null, .null, .null, .null, .null, .null, .null, .null, .null, .int 0, .int 0]))] sz)) 40 10697 (va_A [(h0, .inr (7, [.null, .null, .null, .null, .null, .null, .null, .null, .null, .null, .null, .null, .null, .null, .null, .int 0, .int 0]))] sz) := by
  refine Met.ofW (cc := cX7_init) (maxL := 2) (ret := none) (by decide) rfl ?_
  intro p e s m args below meth c s₁ B hml hv
  obtain ⟨rfl, hsz, hP, hK, hD0, hE⟩ := hv
  have hx := B.exec
  have hb := B.bytes
  have hr := B.returns
  have hts : ∀ w ∈ tb, w.before _ s = true := fun w h => atoms_spec (ws := .code yX7_init cX7_init 2 none :: tb) B.pre w (List.mem_cons_of_mem _ h)
  have hown : s.vm.findClass RX7 = some m.cls := findClass_of_methodNamed B.named
  have hlocks := B.notSynchronized
  have hin : meth.name = "<init>" := (name_of_methodNamed B.named B.method).1
  subst hsz
  have hD := hD0.self (sz := s.heap.size)
  generalize hAe : va_A [(h0, .inr (7, [.null, .null, .null, .null, .null, .null, .null, .null, .null, .null, .null, .null, .null, .null, .null, .int 0, .int 0]))] s.heap.size = A at hD ⊢
  have hA : ∀ q : Nat, s.heap.size ≤ q → A q := fun q h => by rw [← hAe]; exact Or.inr h
  have hS : va_S A s.heap s.heap [] := va_S.rf
  have hP : va_P (dC, dI) vwCl [(h0, .inr (7, [.null, .null, .null, .null, .null, .null, .null, .null, .null, .null, .null, .null, .null, .null, .null, .int 0, .int 0]))] s.heap := hP
  have hl := lv_entry ([.ref h0, .ref qd]) (n := 2) (Nat.le_of_ble_eq_true rfl)
  rw [lg_entry_eq]
  generalize (lg_sl ([.ref h0, .ref qd]) ++ List.replicate (2 - (lg_sl ([.ref h0, .ref qd])).length) Slot.unset).toArray = ls at hl ⊢
  have hl : lv_has ls 2 [(0, .ref h0), (1, .ref qd)] := hl
  refine lv_aload_n hx hb dX7_init_0 rfl (lv_at hl 0 rfl) ?_
  refine W.objInit hx hb hown (hts _ kt_96) (hts _ kt_1) (hts _ kt_2) rfl (by rw [hml]; exact hl.1) rfl dX7_init_1 (Nat.le_of_ble_eq_true rfl) (Nat.le_of_ble_eq_true rfl) ?_
  refine W.eq (g2 := F0 m 4 ls []) rfl ?_
  refine lv_aload_n hx hb dX7_init_4 rfl (lv_at hl 0 rfl) ?_
  refine va_new (ci := 9) (fs := [.null, .null, .null, .null, .int 0]) (C := RX9) (T := TX9) (N := 5) hx hb hts it_9 tyX9 tyX9_ok hown (hts _ kt_97) (hts _ kt_86) (hts _ kt_87) hK hP hD hS hA rfl df_9 (by show _ + 1 ≤ 40; omega) (by show _ + 5 ≤ 10697; omega) dX7_init_5 (fun q_1 H hP hD hS => ?_)
  have hP : va_P (dC, dI) vwCl [(h0, .inr (7, [.null, .null, .null, .null, .null, .null, .null, .null, .null, .null, .null, .null, .null, .null, .null, .int 0, .int 0])), (q_1, .inr (9, [.null, .null, .null, .null, .int 0]))] H := hP
  have hD : va_D A [(h0, .inr (7, [.null, .null, .null, .null, .null, .null, .null, .null, .null, .null, .null, .null, .null, .null, .null, .int 0, .int 0])), (q_1, .inr (9, [.null, .null, .null, .null, .int 0]))] := hD
  refine lv_dup hx hb dX7_init_8 rfl ?_
  refine lv_sipush (v := 3000) hx hb dX7_init_9 (by decide) ?_
  refine lv_topi (fun x ex => ?_)
  obtain rfl : x = nI 3000 := ex.trans (by decide)
  have hPc := hP.sub (ws' := [(q_1, .inr (9, [.null, .null, .null, .null, .int 0]))]) [1] rfl
  have hDc := hD.sub (ws' := [(q_1, .inr (9, [.null, .null, .null, .null, .int 0]))]) [1] (by decide) rfl
  have hKc := hK.sub (tys' := []) [] rfl
  have hFc := va_free (wc := [(q_1, .inr (9, [.null, .null, .null, .null, .int 0]))]) hD hS hA [1] rfl
  refine va_callv (va_runI (As := [.int (nI 3000)]) (rest := [.ref q_1, .ref h0]) ⟨hx, hb, hml, hown, hts⟩ (c_X9_init l dC dI H.size q_1 3000 (by omega)) ⟨callB_of 1 hts (gi kt_88) rfl rfl rfl (hts _ kt_87) (hts _ kt_98) (by decide +kernel) ⟨Nat.le_of_ble_eq_true rfl, Nat.le_of_ble_eq_true rfl⟩, rfl, (hts _ kt_90)⟩ ⟨fun a U g mk q => ⟨q.1, PW.calling q.2⟩, fun U hU hW => ⟨rfl, PW.mk hU hW hPc hKc hDc hE⟩⟩ rfl rfl hl.1 rfl (lv_room (Nat.le_of_ble_eq_true rfl)) dX7_init_12 ⟨by show _ + 5 ≤ 40; omega, by show _ + (3000 + 123) ≤ 10697; omega⟩) hS (fun q _ h => hFc q h) hFc (fun u t H1 locs ht hvm hw hB hz1 hk1 hS => ?_)
  have hB1 := hB
  obtain ⟨hP, hD, hK⟩ := QW.join (wr := [(h0, .inr (7, [.null, .null, .null, .null, .null, .null, .null, .null, .null, .null, .null, .null, .null, .null, .null, .int 0, .int 0]))]) hP hD hK [1] [0] rfl rfl (by decide) (by decide) hk1 hFc ht hvm hB1
  generalize H1 = H at hP hS ⊢
  have hK : va_K (dC, dI) vwCl [] s := hK.sub [] rfl
  have hP : va_P (dC, dI) vwCl [(h0, .inr (7, [.null, .null, .null, .null, .null, .null, .null, .null, .null, .null, .null, .null, .null, .null, .null, .int 0, .int 0]))] H := hP
  have hD : va_D A [(h0, .inr (7, [.null, .null, .null, .null, .null, .null, .null, .null, .null, .null, .null, .null, .null, .null, .null, .int 0, .int 0]))] := hD
  have hP := hP.sub (ws' := [(h0, .inr (7, [.null, .null, .null, .null, .null, .null, .null, .null, .null, .null, .null, .null, .null, .null, .null, .int 0, .int 0]))]) [0] rfl
  have hD := hD.sub (ws' := [(h0, .inr (7, [.null, .null, .null, .null, .null, .null, .null, .null, .null, .null, .null, .null, .null, .null, .null, .int 0, .int 0]))]) [0] (by decide) rfl
  have hK := hK.sub (tys' := []) [] rfl
  refine va_putF (D := (dC, dI)) (ci := 7) (v := .ref q_1) (ty := .object "PostGate$Tags") (C := RX7) (T := TX7) (N := 17) hx hb hts it_7 tyX7 tyX7_ok nmX7 hown hK hP hD hS 0 rfl rfl 1 (by decide) (hts _ kt_99) (fun _ h9 => h9) rfl hin rfl (by decide +kernel) rfl rfl (Nat.le_of_ble_eq_true rfl) dX7_init_15 (fun H locs hP hD hS => ?_)
  have hP : va_P (dC, dI) vwCl [(h0, .inr (7, [.null, .ref q_1, .null, .null, .null, .null, .null, .null, .null, .null, .null, .null, .null, .null, .null, .int 0, .int 0]))] H := hP
  have hD : va_D A [(h0, .inr (7, [.null, .ref q_1, .null, .null, .null, .null, .null, .null, .null, .null, .null, .null, .null, .null, .null, .int 0, .int 0]))] := hD
  refine lv_aload_n hx hb dX7_init_18 rfl (lv_at hl 0 rfl) ?_
  refine va_new (ci := 9) (fs := [.null, .null, .null, .null, .int 0]) (C := RX9) (T := TX9) (N := 5) hx hb hts it_9 tyX9 tyX9_ok hown (hts _ kt_97) (hts _ kt_86) (hts _ kt_87) hK hP hD hS hA rfl df_9 (by show _ + 1 ≤ 40; omega) (by show _ + 5 ≤ 10697; omega) dX7_init_19 (fun q_3 H hP hD hS => ?_)
  have hP : va_P (dC, dI) vwCl [(h0, .inr (7, [.null, .ref q_1, .null, .null, .null, .null, .null, .null, .null, .null, .null, .null, .null, .null, .null, .int 0, .int 0])), (q_3, .inr (9, [.null, .null, .null, .null, .int 0]))] H := hP
  have hD : va_D A [(h0, .inr (7, [.null, .ref q_1, .null, .null, .null, .null, .null, .null, .null, .null, .null, .null, .null, .null, .null, .int 0, .int 0])), (q_3, .inr (9, [.null, .null, .null, .null, .int 0]))] := hD
  refine lv_dup hx hb dX7_init_22 rfl ?_
  refine lv_sipush (v := 700) hx hb dX7_init_23 (by decide) ?_
  refine lv_topi (fun x ex => ?_)
  obtain rfl : x = nI 700 := ex.trans (by decide)
  have hPc := hP.sub (ws' := [(q_3, .inr (9, [.null, .null, .null, .null, .int 0]))]) [1] rfl
  have hDc := hD.sub (ws' := [(q_3, .inr (9, [.null, .null, .null, .null, .int 0]))]) [1] (by decide) rfl
  have hKc := hK.sub (tys' := []) [] rfl
  have hFc := va_free (wc := [(q_3, .inr (9, [.null, .null, .null, .null, .int 0]))]) hD hS hA [1] rfl
  refine va_callv (va_runI (As := [.int (nI 700)]) (rest := [.ref q_3, .ref h0]) ⟨hx, hb, hml, hown, hts⟩ (c_X9_init l dC dI H.size q_3 700 (by omega)) ⟨callB_of 1 hts (gi kt_88) rfl rfl rfl (hts _ kt_87) (hts _ kt_98) (by decide +kernel) ⟨Nat.le_of_ble_eq_true rfl, Nat.le_of_ble_eq_true rfl⟩, rfl, (hts _ kt_90)⟩ ⟨fun a U g mk q => ⟨q.1, PW.calling q.2⟩, fun U hU hW => ⟨rfl, PW.mk hU hW hPc hKc hDc hE⟩⟩ rfl rfl hl.1 rfl (lv_room (Nat.le_of_ble_eq_true rfl)) dX7_init_26 ⟨by show _ + 5 ≤ 40; omega, by show _ + (700 + 123) ≤ 10697; omega⟩) hS (fun q _ h => hFc q h) hFc (fun u t H1 locs ht hvm hw hB hz1 hk1 hS => ?_)
  have hB1 := hB
  obtain ⟨hP, hD, hK⟩ := QW.join (wr := [(h0, .inr (7, [.null, .ref q_1, .null, .null, .null, .null, .null, .null, .null, .null, .null, .null, .null, .null, .null, .int 0, .int 0]))]) hP hD hK [1] [0] rfl rfl (by decide) (by decide) hk1 hFc ht hvm hB1
  generalize H1 = H at hP hS ⊢
  have hK : va_K (dC, dI) vwCl [] s := hK.sub [] rfl
  have hP : va_P (dC, dI) vwCl [(h0, .inr (7, [.null, .ref q_1, .null, .null, .null, .null, .null, .null, .null, .null, .null, .null, .null, .null, .null, .int 0, .int 0]))] H := hP
  have hD : va_D A [(h0, .inr (7, [.null, .ref q_1, .null, .null, .null, .null, .null, .null, .null, .null, .null, .null, .null, .null, .null, .int 0, .int 0]))] := hD
  have hP := hP.sub (ws' := [(h0, .inr (7, [.null, .ref q_1, .null, .null, .null, .null, .null, .null, .null, .null, .null, .null, .null, .null, .null, .int 0, .int 0]))]) [0] rfl
  have hD := hD.sub (ws' := [(h0, .inr (7, [.null, .ref q_1, .null, .null, .null, .null, .null, .null, .null, .null, .null, .null, .null, .null, .null, .int 0, .int 0]))]) [0] (by decide) rfl
  have hK := hK.sub (tys' := []) [] rfl
  refine va_putF (D := (dC, dI)) (ci := 7) (v := .ref q_3) (ty := .object "PostGate$Tags") (C := RX7) (T := TX7) (N := 17) hx hb hts it_7 tyX7 tyX7_ok nmX7 hown hK hP hD hS 0 rfl rfl 2 (by decide) (hts _ kt_100) (fun _ h9 => h9) rfl hin rfl (by decide +kernel) rfl rfl (Nat.le_of_ble_eq_true rfl) dX7_init_29 (fun H locs hP hD hS => ?_)
  have hP : va_P (dC, dI) vwCl [(h0, .inr (7, [.null, .ref q_1, .ref q_3, .null, .null, .null, .null, .null, .null, .null, .null, .null, .null, .null, .null, .int 0, .int 0]))] H := hP
  have hD : va_D A [(h0, .inr (7, [.null, .ref q_1, .ref q_3, .null, .null, .null, .null, .null, .null, .null, .null, .null, .null, .null, .null, .int 0, .int 0]))] := hD
  refine lv_aload_n hx hb dX7_init_32 rfl (lv_at hl 0 rfl) ?_
  refine va_new (ci := 0) (fs := [.null, .int 0, .int 0]) (C := RX0) (T := TX0) (N := 3) hx hb hts it_0 tyX0 tyX0_ok hown (hts _ kt_101) (hts _ kt_9) (hts _ kt_10) hK hP hD hS hA rfl df_0 (by show _ + 1 ≤ 40; omega) (by show _ + 3 ≤ 10697; omega) dX7_init_33 (fun q_5 H hP hD hS => ?_)
  have hP : va_P (dC, dI) vwCl [(h0, .inr (7, [.null, .ref q_1, .ref q_3, .null, .null, .null, .null, .null, .null, .null, .null, .null, .null, .null, .null, .int 0, .int 0])), (q_5, .inr (0, [.null, .int 0, .int 0]))] H := hP
  have hD : va_D A [(h0, .inr (7, [.null, .ref q_1, .ref q_3, .null, .null, .null, .null, .null, .null, .null, .null, .null, .null, .null, .null, .int 0, .int 0])), (q_5, .inr (0, [.null, .int 0, .int 0]))] := hD
  refine lv_dup hx hb dX7_init_36 rfl ?_
  refine lv_bipush (v := 60) hx hb dX7_init_37 (by decide) ?_
  refine lv_topi (fun x ex => ?_)
  obtain rfl : x = nI 60 := ex.trans (by decide)
  have hPc := hP.sub (ws' := [(q_5, .inr (0, [.null, .int 0, .int 0]))]) [1] rfl
  have hDc := hD.sub (ws' := [(q_5, .inr (0, [.null, .int 0, .int 0]))]) [1] (by decide) rfl
  have hKc := hK.sub (tys' := []) [] rfl
  have hFc := va_free (wc := [(q_5, .inr (0, [.null, .int 0, .int 0]))]) hD hS hA [1] rfl
  refine va_callv (va_runI (As := [.int (nI 60)]) (rest := [.ref q_5, .ref h0]) ⟨hx, hb, hml, hown, hts⟩ (c_X0_init l dC dI H.size q_5 60 (by omega)) ⟨callB_of 1 hts (gi kt_11) rfl rfl rfl (hts _ kt_10) (hts _ kt_102) (by decide +kernel) ⟨Nat.le_of_ble_eq_true rfl, Nat.le_of_ble_eq_true rfl⟩, rfl, (hts _ kt_13)⟩ ⟨fun a U g mk q => ⟨q.1, PW.calling q.2⟩, fun U hU hW => ⟨rfl, PW.mk hU hW hPc hKc hDc hE⟩⟩ rfl rfl hl.1 rfl (lv_room (Nat.le_of_ble_eq_true rfl)) dX7_init_39 ⟨by show _ + 1 ≤ 40; omega, by show _ + 60 ≤ 10697; omega⟩) hS (fun q _ h => hFc q h) hFc (fun u t H1 locs ht hvm hw hB hz1 hk1 hS => ?_)
  obtain ⟨q_7, cA_8, hB1⟩ := hB
  obtain ⟨hP, hD, hK⟩ := QW.join (wr := [(h0, .inr (7, [.null, .ref q_1, .ref q_3, .null, .null, .null, .null, .null, .null, .null, .null, .null, .null, .null, .null, .int 0, .int 0]))]) hP hD hK [1] [0] rfl rfl (by decide) (by decide) hk1 hFc ht hvm hB1
  generalize H1 = H at hP hS ⊢
  have hK : va_K (dC, dI) vwCl [(cA_8, .int)] s := hK.sub [0] rfl
  have hP : va_P (dC, dI) vwCl [(h0, .inr (7, [.null, .ref q_1, .ref q_3, .null, .null, .null, .null, .null, .null, .null, .null, .null, .null, .null, .null, .int 0, .int 0])), (q_5, .inr (0, [.ref q_7, .int 0, .int 0])), (q_7, .inl (cA_8, 60, .inl (fun _ => 0)))] H := hP
  have hD : va_D A [(h0, .inr (7, [.null, .ref q_1, .ref q_3, .null, .null, .null, .null, .null, .null, .null, .null, .null, .null, .null, .null, .int 0, .int 0])), (q_5, .inr (0, [.ref q_7, .int 0, .int 0])), (q_7, .inl (cA_8, 60, .inl (fun _ => 0)))] := hD
  have hP := hP.sub (ws' := [(h0, .inr (7, [.null, .ref q_1, .ref q_3, .null, .null, .null, .null, .null, .null, .null, .null, .null, .null, .null, .null, .int 0, .int 0]))]) [0] rfl
  have hD := hD.sub (ws' := [(h0, .inr (7, [.null, .ref q_1, .ref q_3, .null, .null, .null, .null, .null, .null, .null, .null, .null, .null, .null, .null, .int 0, .int 0]))]) [0] (by decide) rfl
  have hK := hK.sub (tys' := []) [] rfl
  refine va_putF (D := (dC, dI)) (ci := 7) (v := .ref q_5) (ty := .object "PostGate$Bytes") (C := RX7) (T := TX7) (N := 17) hx hb hts it_7 tyX7 tyX7_ok nmX7 hown hK hP hD hS 0 rfl rfl 3 (by decide) (hts _ kt_103) (fun _ h9 => h9) rfl hin rfl (by decide +kernel) rfl rfl (Nat.le_of_ble_eq_true rfl) dX7_init_42 (fun H locs hP hD hS => ?_)
  have hP : va_P (dC, dI) vwCl [(h0, .inr (7, [.null, .ref q_1, .ref q_3, .ref q_5, .null, .null, .null, .null, .null, .null, .null, .null, .null, .null, .null, .int 0, .int 0]))] H := hP
  have hD : va_D A [(h0, .inr (7, [.null, .ref q_1, .ref q_3, .ref q_5, .null, .null, .null, .null, .null, .null, .null, .null, .null, .null, .null, .int 0, .int 0]))] := hD
  refine lv_aload_n hx hb dX7_init_45 rfl (lv_at hl 0 rfl) ?_
  refine va_new (ci := 0) (fs := [.null, .int 0, .int 0]) (C := RX0) (T := TX0) (N := 3) hx hb hts it_0 tyX0 tyX0_ok hown (hts _ kt_101) (hts _ kt_9) (hts _ kt_10) hK hP hD hS hA rfl df_0 (by show _ + 1 ≤ 40; omega) (by show _ + 3 ≤ 10697; omega) dX7_init_46 (fun q_9 H hP hD hS => ?_)
  have hP : va_P (dC, dI) vwCl [(h0, .inr (7, [.null, .ref q_1, .ref q_3, .ref q_5, .null, .null, .null, .null, .null, .null, .null, .null, .null, .null, .null, .int 0, .int 0])), (q_9, .inr (0, [.null, .int 0, .int 0]))] H := hP
  have hD : va_D A [(h0, .inr (7, [.null, .ref q_1, .ref q_3, .ref q_5, .null, .null, .null, .null, .null, .null, .null, .null, .null, .null, .null, .int 0, .int 0])), (q_9, .inr (0, [.null, .int 0, .int 0]))] := hD
  refine lv_dup hx hb dX7_init_49 rfl ?_
  refine lv_bipush (v := 60) hx hb dX7_init_50 (by decide) ?_
  refine lv_topi (fun x ex => ?_)
  obtain rfl : x = nI 60 := ex.trans (by decide)
  have hPc := hP.sub (ws' := [(q_9, .inr (0, [.null, .int 0, .int 0]))]) [1] rfl
  have hDc := hD.sub (ws' := [(q_9, .inr (0, [.null, .int 0, .int 0]))]) [1] (by decide) rfl
  have hKc := hK.sub (tys' := []) [] rfl
  have hFc := va_free (wc := [(q_9, .inr (0, [.null, .int 0, .int 0]))]) hD hS hA [1] rfl
  refine va_callv (va_runI (As := [.int (nI 60)]) (rest := [.ref q_9, .ref h0]) ⟨hx, hb, hml, hown, hts⟩ (c_X0_init l dC dI H.size q_9 60 (by omega)) ⟨callB_of 1 hts (gi kt_11) rfl rfl rfl (hts _ kt_10) (hts _ kt_102) (by decide +kernel) ⟨Nat.le_of_ble_eq_true rfl, Nat.le_of_ble_eq_true rfl⟩, rfl, (hts _ kt_13)⟩ ⟨fun a U g mk q => ⟨q.1, PW.calling q.2⟩, fun U hU hW => ⟨rfl, PW.mk hU hW hPc hKc hDc hE⟩⟩ rfl rfl hl.1 rfl (lv_room (Nat.le_of_ble_eq_true rfl)) dX7_init_52 ⟨by show _ + 1 ≤ 40; omega, by show _ + 60 ≤ 10697; omega⟩) hS (fun q _ h => hFc q h) hFc (fun u t H1 locs ht hvm hw hB hz1 hk1 hS => ?_)
  obtain ⟨q_11, cA_12, hB1⟩ := hB
  obtain ⟨hP, hD, hK⟩ := QW.join (wr := [(h0, .inr (7, [.null, .ref q_1, .ref q_3, .ref q_5, .null, .null, .null, .null, .null, .null, .null, .null, .null, .null, .null, .int 0, .int 0]))]) hP hD hK [1] [0] rfl rfl (by decide) (by decide) hk1 hFc ht hvm hB1
  generalize H1 = H at hP hS ⊢
  have hK : va_K (dC, dI) vwCl [(cA_12, .int)] s := hK.sub [0] rfl
  have hP : va_P (dC, dI) vwCl [(h0, .inr (7, [.null, .ref q_1, .ref q_3, .ref q_5, .null, .null, .null, .null, .null, .null, .null, .null, .null, .null, .null, .int 0, .int 0])), (q_9, .inr (0, [.ref q_11, .int 0, .int 0])), (q_11, .inl (cA_12, 60, .inl (fun _ => 0)))] H := hP
  have hD : va_D A [(h0, .inr (7, [.null, .ref q_1, .ref q_3, .ref q_5, .null, .null, .null, .null, .null, .null, .null, .null, .null, .null, .null, .int 0, .int 0])), (q_9, .inr (0, [.ref q_11, .int 0, .int 0])), (q_11, .inl (cA_12, 60, .inl (fun _ => 0)))] := hD
  have hP := hP.sub (ws' := [(h0, .inr (7, [.null, .ref q_1, .ref q_3, .ref q_5, .null, .null, .null, .null, .null, .null, .null, .null, .null, .null, .null, .int 0, .int 0]))]) [0] rfl
  have hD := hD.sub (ws' := [(h0, .inr (7, [.null, .ref q_1, .ref q_3, .ref q_5, .null, .null, .null, .null, .null, .null, .null, .null, .null, .null, .null, .int 0, .int 0]))]) [0] (by decide) rfl
  have hK := hK.sub (tys' := []) [] rfl
  refine va_putF (D := (dC, dI)) (ci := 7) (v := .ref q_9) (ty := .object "PostGate$Bytes") (C := RX7) (T := TX7) (N := 17) hx hb hts it_7 tyX7 tyX7_ok nmX7 hown hK hP hD hS 0 rfl rfl 4 (by decide) (hts _ kt_104) (fun _ h9 => h9) rfl hin rfl (by decide +kernel) rfl rfl (Nat.le_of_ble_eq_true rfl) dX7_init_55 (fun H locs hP hD hS => ?_)
  have hP : va_P (dC, dI) vwCl [(h0, .inr (7, [.null, .ref q_1, .ref q_3, .ref q_5, .ref q_9, .null, .null, .null, .null, .null, .null, .null, .null, .null, .null, .int 0, .int 0]))] H := hP
  have hD : va_D A [(h0, .inr (7, [.null, .ref q_1, .ref q_3, .ref q_5, .ref q_9, .null, .null, .null, .null, .null, .null, .null, .null, .null, .null, .int 0, .int 0]))] := hD
  refine lv_aload_n hx hb dX7_init_58 rfl (lv_at hl 0 rfl) ?_
  refine va_new (ci := 0) (fs := [.null, .int 0, .int 0]) (C := RX0) (T := TX0) (N := 3) hx hb hts it_0 tyX0 tyX0_ok hown (hts _ kt_101) (hts _ kt_9) (hts _ kt_10) hK hP hD hS hA rfl df_0 (by show _ + 1 ≤ 40; omega) (by show _ + 3 ≤ 10697; omega) dX7_init_59 (fun q_13 H hP hD hS => ?_)
  have hP : va_P (dC, dI) vwCl [(h0, .inr (7, [.null, .ref q_1, .ref q_3, .ref q_5, .ref q_9, .null, .null, .null, .null, .null, .null, .null, .null, .null, .null, .int 0, .int 0])), (q_13, .inr (0, [.null, .int 0, .int 0]))] H := hP
  have hD : va_D A [(h0, .inr (7, [.null, .ref q_1, .ref q_3, .ref q_5, .ref q_9, .null, .null, .null, .null, .null, .null, .null, .null, .null, .null, .int 0, .int 0])), (q_13, .inr (0, [.null, .int 0, .int 0]))] := hD
  refine lv_dup hx hb dX7_init_62 rfl ?_
  refine lv_bipush (v := 32) hx hb dX7_init_63 (by decide) ?_
  refine lv_topi (fun x ex => ?_)
  obtain rfl : x = nI 32 := ex.trans (by decide)
  have hPc := hP.sub (ws' := [(q_13, .inr (0, [.null, .int 0, .int 0]))]) [1] rfl
  have hDc := hD.sub (ws' := [(q_13, .inr (0, [.null, .int 0, .int 0]))]) [1] (by decide) rfl
  have hKc := hK.sub (tys' := []) [] rfl
  have hFc := va_free (wc := [(q_13, .inr (0, [.null, .int 0, .int 0]))]) hD hS hA [1] rfl
  refine va_callv (va_runI (As := [.int (nI 32)]) (rest := [.ref q_13, .ref h0]) ⟨hx, hb, hml, hown, hts⟩ (c_X0_init l dC dI H.size q_13 32 (by omega)) ⟨callB_of 1 hts (gi kt_11) rfl rfl rfl (hts _ kt_10) (hts _ kt_102) (by decide +kernel) ⟨Nat.le_of_ble_eq_true rfl, Nat.le_of_ble_eq_true rfl⟩, rfl, (hts _ kt_13)⟩ ⟨fun a U g mk q => ⟨q.1, PW.calling q.2⟩, fun U hU hW => ⟨rfl, PW.mk hU hW hPc hKc hDc hE⟩⟩ rfl rfl hl.1 rfl (lv_room (Nat.le_of_ble_eq_true rfl)) dX7_init_65 ⟨by show _ + 1 ≤ 40; omega, by show _ + 32 ≤ 10697; omega⟩) hS (fun q _ h => hFc q h) hFc (fun u t H1 locs ht hvm hw hB hz1 hk1 hS => ?_)
  obtain ⟨q_15, cA_16, hB1⟩ := hB
  obtain ⟨hP, hD, hK⟩ := QW.join (wr := [(h0, .inr (7, [.null, .ref q_1, .ref q_3, .ref q_5, .ref q_9, .null, .null, .null, .null, .null, .null, .null, .null, .null, .null, .int 0, .int 0]))]) hP hD hK [1] [0] rfl rfl (by decide) (by decide) hk1 hFc ht hvm hB1
  generalize H1 = H at hP hS ⊢
  have hK : va_K (dC, dI) vwCl [(cA_16, .int)] s := hK.sub [0] rfl
  have hP : va_P (dC, dI) vwCl [(h0, .inr (7, [.null, .ref q_1, .ref q_3, .ref q_5, .ref q_9, .null, .null, .null, .null, .null, .null, .null, .null, .null, .null, .int 0, .int 0])), (q_13, .inr (0, [.ref q_15, .int 0, .int 0])), (q_15, .inl (cA_16, 32, .inl (fun _ => 0)))] H := hP
  have hD : va_D A [(h0, .inr (7, [.null, .ref q_1, .ref q_3, .ref q_5, .ref q_9, .null, .null, .null, .null, .null, .null, .null, .null, .null, .null, .int 0, .int 0])), (q_13, .inr (0, [.ref q_15, .int 0, .int 0])), (q_15, .inl (cA_16, 32, .inl (fun _ => 0)))] := hD
  have hP := hP.sub (ws' := [(h0, .inr (7, [.null, .ref q_1, .ref q_3, .ref q_5, .ref q_9, .null, .null, .null, .null, .null, .null, .null, .null, .null, .null, .int 0, .int 0]))]) [0] rfl
  have hD := hD.sub (ws' := [(h0, .inr (7, [.null, .ref q_1, .ref q_3, .ref q_5, .ref q_9, .null, .null, .null, .null, .null, .null, .null, .null, .null, .null, .int 0, .int 0]))]) [0] (by decide) rfl
  have hK := hK.sub (tys' := []) [] rfl
  refine va_putF (D := (dC, dI)) (ci := 7) (v := .ref q_13) (ty := .object "PostGate$Bytes") (C := RX7) (T := TX7) (N := 17) hx hb hts it_7 tyX7 tyX7_ok nmX7 hown hK hP hD hS 0 rfl rfl 5 (by decide) (hts _ kt_105) (fun _ h9 => h9) rfl hin rfl (by decide +kernel) rfl rfl (Nat.le_of_ble_eq_true rfl) dX7_init_68 (fun H locs hP hD hS => ?_)
  have hP : va_P (dC, dI) vwCl [(h0, .inr (7, [.null, .ref q_1, .ref q_3, .ref q_5, .ref q_9, .ref q_13, .null, .null, .null, .null, .null, .null, .null, .null, .null, .int 0, .int 0]))] H := hP
  have hD : va_D A [(h0, .inr (7, [.null, .ref q_1, .ref q_3, .ref q_5, .ref q_9, .ref q_13, .null, .null, .null, .null, .null, .null, .null, .null, .null, .int 0, .int 0]))] := hD
  refine lv_aload_n hx hb dX7_init_71 rfl (lv_at hl 0 rfl) ?_
  refine va_new (ci := 0) (fs := [.null, .int 0, .int 0]) (C := RX0) (T := TX0) (N := 3) hx hb hts it_0 tyX0 tyX0_ok hown (hts _ kt_101) (hts _ kt_9) (hts _ kt_10) hK hP hD hS hA rfl df_0 (by show _ + 1 ≤ 40; omega) (by show _ + 3 ≤ 10697; omega) dX7_init_72 (fun q_17 H hP hD hS => ?_)
  have hP : va_P (dC, dI) vwCl [(h0, .inr (7, [.null, .ref q_1, .ref q_3, .ref q_5, .ref q_9, .ref q_13, .null, .null, .null, .null, .null, .null, .null, .null, .null, .int 0, .int 0])), (q_17, .inr (0, [.null, .int 0, .int 0]))] H := hP
  have hD : va_D A [(h0, .inr (7, [.null, .ref q_1, .ref q_3, .ref q_5, .ref q_9, .ref q_13, .null, .null, .null, .null, .null, .null, .null, .null, .null, .int 0, .int 0])), (q_17, .inr (0, [.null, .int 0, .int 0]))] := hD
  refine lv_dup hx hb dX7_init_75 rfl ?_
  refine lv_bipush (v := 64) hx hb dX7_init_76 (by decide) ?_
  refine lv_topi (fun x ex => ?_)
  obtain rfl : x = nI 64 := ex.trans (by decide)
  have hPc := hP.sub (ws' := [(q_17, .inr (0, [.null, .int 0, .int 0]))]) [1] rfl
  have hDc := hD.sub (ws' := [(q_17, .inr (0, [.null, .int 0, .int 0]))]) [1] (by decide) rfl
  have hKc := hK.sub (tys' := []) [] rfl
  have hFc := va_free (wc := [(q_17, .inr (0, [.null, .int 0, .int 0]))]) hD hS hA [1] rfl
  refine va_callv (va_runI (As := [.int (nI 64)]) (rest := [.ref q_17, .ref h0]) ⟨hx, hb, hml, hown, hts⟩ (c_X0_init l dC dI H.size q_17 64 (by omega)) ⟨callB_of 1 hts (gi kt_11) rfl rfl rfl (hts _ kt_10) (hts _ kt_102) (by decide +kernel) ⟨Nat.le_of_ble_eq_true rfl, Nat.le_of_ble_eq_true rfl⟩, rfl, (hts _ kt_13)⟩ ⟨fun a U g mk q => ⟨q.1, PW.calling q.2⟩, fun U hU hW => ⟨rfl, PW.mk hU hW hPc hKc hDc hE⟩⟩ rfl rfl hl.1 rfl (lv_room (Nat.le_of_ble_eq_true rfl)) dX7_init_78 ⟨by show _ + 1 ≤ 40; omega, by show _ + 64 ≤ 10697; omega⟩) hS (fun q _ h => hFc q h) hFc (fun u t H1 locs ht hvm hw hB hz1 hk1 hS => ?_)
  obtain ⟨q_19, cA_20, hB1⟩ := hB
  obtain ⟨hP, hD, hK⟩ := QW.join (wr := [(h0, .inr (7, [.null, .ref q_1, .ref q_3, .ref q_5, .ref q_9, .ref q_13, .null, .null, .null, .null, .null, .null, .null, .null, .null, .int 0, .int 0]))]) hP hD hK [1] [0] rfl rfl (by decide) (by decide) hk1 hFc ht hvm hB1
  generalize H1 = H at hP hS ⊢
  have hK : va_K (dC, dI) vwCl [(cA_20, .int)] s := hK.sub [0] rfl
  have hP : va_P (dC, dI) vwCl [(h0, .inr (7, [.null, .ref q_1, .ref q_3, .ref q_5, .ref q_9, .ref q_13, .null, .null, .null, .null, .null, .null, .null, .null, .null, .int 0, .int 0])), (q_17, .inr (0, [.ref q_19, .int 0, .int 0])), (q_19, .inl (cA_20, 64, .inl (fun _ => 0)))] H := hP
  have hD : va_D A [(h0, .inr (7, [.null, .ref q_1, .ref q_3, .ref q_5, .ref q_9, .ref q_13, .null, .null, .null, .null, .null, .null, .null, .null, .null, .int 0, .int 0])), (q_17, .inr (0, [.ref q_19, .int 0, .int 0])), (q_19, .inl (cA_20, 64, .inl (fun _ => 0)))] := hD
  have hP := hP.sub (ws' := [(h0, .inr (7, [.null, .ref q_1, .ref q_3, .ref q_5, .ref q_9, .ref q_13, .null, .null, .null, .null, .null, .null, .null, .null, .null, .int 0, .int 0]))]) [0] rfl
  have hD := hD.sub (ws' := [(h0, .inr (7, [.null, .ref q_1, .ref q_3, .ref q_5, .ref q_9, .ref q_13, .null, .null, .null, .null, .null, .null, .null, .null, .null, .int 0, .int 0]))]) [0] (by decide) rfl
  have hK := hK.sub (tys' := []) [] rfl
  refine va_putF (D := (dC, dI)) (ci := 7) (v := .ref q_17) (ty := .object "PostGate$Bytes") (C := RX7) (T := TX7) (N := 17) hx hb hts it_7 tyX7 tyX7_ok nmX7 hown hK hP hD hS 0 rfl rfl 6 (by decide) (hts _ kt_106) (fun _ h9 => h9) rfl hin rfl (by decide +kernel) rfl rfl (Nat.le_of_ble_eq_true rfl) dX7_init_81 (fun H locs hP hD hS => ?_)
  have hP : va_P (dC, dI) vwCl [(h0, .inr (7, [.null, .ref q_1, .ref q_3, .ref q_5, .ref q_9, .ref q_13, .ref q_17, .null, .null, .null, .null, .null, .null, .null, .null, .int 0, .int 0]))] H := hP
  have hD : va_D A [(h0, .inr (7, [.null, .ref q_1, .ref q_3, .ref q_5, .ref q_9, .ref q_13, .ref q_17, .null, .null, .null, .null, .null, .null, .null, .null, .int 0, .int 0]))] := hD
  refine lv_aload_n hx hb dX7_init_84 rfl (lv_at hl 0 rfl) ?_
  refine va_new (ci := 0) (fs := [.null, .int 0, .int 0]) (C := RX0) (T := TX0) (N := 3) hx hb hts it_0 tyX0 tyX0_ok hown (hts _ kt_101) (hts _ kt_9) (hts _ kt_10) hK hP hD hS hA rfl df_0 (by show _ + 1 ≤ 40; omega) (by show _ + 3 ≤ 10697; omega) dX7_init_85 (fun q_21 H hP hD hS => ?_)
  have hP : va_P (dC, dI) vwCl [(h0, .inr (7, [.null, .ref q_1, .ref q_3, .ref q_5, .ref q_9, .ref q_13, .ref q_17, .null, .null, .null, .null, .null, .null, .null, .null, .int 0, .int 0])), (q_21, .inr (0, [.null, .int 0, .int 0]))] H := hP
  have hD : va_D A [(h0, .inr (7, [.null, .ref q_1, .ref q_3, .ref q_5, .ref q_9, .ref q_13, .ref q_17, .null, .null, .null, .null, .null, .null, .null, .null, .int 0, .int 0])), (q_21, .inr (0, [.null, .int 0, .int 0]))] := hD
  refine lv_dup hx hb dX7_init_88 rfl ?_
  refine lv_bipush (v := 64) hx hb dX7_init_89 (by decide) ?_
  refine lv_topi (fun x ex => ?_)
  obtain rfl : x = nI 64 := ex.trans (by decide)
  have hPc := hP.sub (ws' := [(q_21, .inr (0, [.null, .int 0, .int 0]))]) [1] rfl
  have hDc := hD.sub (ws' := [(q_21, .inr (0, [.null, .int 0, .int 0]))]) [1] (by decide) rfl
  have hKc := hK.sub (tys' := []) [] rfl
  have hFc := va_free (wc := [(q_21, .inr (0, [.null, .int 0, .int 0]))]) hD hS hA [1] rfl
  refine va_callv (va_runI (As := [.int (nI 64)]) (rest := [.ref q_21, .ref h0]) ⟨hx, hb, hml, hown, hts⟩ (c_X0_init l dC dI H.size q_21 64 (by omega)) ⟨callB_of 1 hts (gi kt_11) rfl rfl rfl (hts _ kt_10) (hts _ kt_102) (by decide +kernel) ⟨Nat.le_of_ble_eq_true rfl, Nat.le_of_ble_eq_true rfl⟩, rfl, (hts _ kt_13)⟩ ⟨fun a U g mk q => ⟨q.1, PW.calling q.2⟩, fun U hU hW => ⟨rfl, PW.mk hU hW hPc hKc hDc hE⟩⟩ rfl rfl hl.1 rfl (lv_room (Nat.le_of_ble_eq_true rfl)) dX7_init_91 ⟨by show _ + 1 ≤ 40; omega, by show _ + 64 ≤ 10697; omega⟩) hS (fun q _ h => hFc q h) hFc (fun u t H1 locs ht hvm hw hB hz1 hk1 hS => ?_)
  obtain ⟨q_23, cA_24, hB1⟩ := hB
  obtain ⟨hP, hD, hK⟩ := QW.join (wr := [(h0, .inr (7, [.null, .ref q_1, .ref q_3, .ref q_5, .ref q_9, .ref q_13, .ref q_17, .null, .null, .null, .null, .null, .null, .null, .null, .int 0, .int 0]))]) hP hD hK [1] [0] rfl rfl (by decide) (by decide) hk1 hFc ht hvm hB1
  generalize H1 = H at hP hS ⊢
  have hK : va_K (dC, dI) vwCl [(cA_24, .int)] s := hK.sub [0] rfl
  have hP : va_P (dC, dI) vwCl [(h0, .inr (7, [.null, .ref q_1, .ref q_3, .ref q_5, .ref q_9, .ref q_13, .ref q_17, .null, .null, .null, .null, .null, .null, .null, .null, .int 0, .int 0])), (q_21, .inr (0, [.ref q_23, .int 0, .int 0])), (q_23, .inl (cA_24, 64, .inl (fun _ => 0)))] H := hP
  have hD : va_D A [(h0, .inr (7, [.null, .ref q_1, .ref q_3, .ref q_5, .ref q_9, .ref q_13, .ref q_17, .null, .null, .null, .null, .null, .null, .null, .null, .int 0, .int 0])), (q_21, .inr (0, [.ref q_23, .int 0, .int 0])), (q_23, .inl (cA_24, 64, .inl (fun _ => 0)))] := hD
  have hP := hP.sub (ws' := [(h0, .inr (7, [.null, .ref q_1, .ref q_3, .ref q_5, .ref q_9, .ref q_13, .ref q_17, .null, .null, .null, .null, .null, .null, .null, .null, .int 0, .int 0]))]) [0] rfl
  have hD := hD.sub (ws' := [(h0, .inr (7, [.null, .ref q_1, .ref q_3, .ref q_5, .ref q_9, .ref q_13, .ref q_17, .null, .null, .null, .null, .null, .null, .null, .null, .int 0, .int 0]))]) [0] (by decide) rfl
  have hK := hK.sub (tys' := []) [] rfl
  refine va_putF (D := (dC, dI)) (ci := 7) (v := .ref q_21) (ty := .object "PostGate$Bytes") (C := RX7) (T := TX7) (N := 17) hx hb hts it_7 tyX7 tyX7_ok nmX7 hown hK hP hD hS 0 rfl rfl 7 (by decide) (hts _ kt_107) (fun _ h9 => h9) rfl hin rfl (by decide +kernel) rfl rfl (Nat.le_of_ble_eq_true rfl) dX7_init_94 (fun H locs hP hD hS => ?_)
  have hP : va_P (dC, dI) vwCl [(h0, .inr (7, [.null, .ref q_1, .ref q_3, .ref q_5, .ref q_9, .ref q_13, .ref q_17, .ref q_21, .null, .null, .null, .null, .null, .null, .null, .int 0, .int 0]))] H := hP
  have hD : va_D A [(h0, .inr (7, [.null, .ref q_1, .ref q_3, .ref q_5, .ref q_9, .ref q_13, .ref q_17, .ref q_21, .null, .null, .null, .null, .null, .null, .null, .int 0, .int 0]))] := hD
  refine lv_aload_n hx hb dX7_init_97 rfl (lv_at hl 0 rfl) ?_
  refine va_new (ci := 0) (fs := [.null, .int 0, .int 0]) (C := RX0) (T := TX0) (N := 3) hx hb hts it_0 tyX0 tyX0_ok hown (hts _ kt_101) (hts _ kt_9) (hts _ kt_10) hK hP hD hS hA rfl df_0 (by show _ + 1 ≤ 40; omega) (by show _ + 3 ≤ 10697; omega) dX7_init_98 (fun q_25 H hP hD hS => ?_)
  have hP : va_P (dC, dI) vwCl [(h0, .inr (7, [.null, .ref q_1, .ref q_3, .ref q_5, .ref q_9, .ref q_13, .ref q_17, .ref q_21, .null, .null, .null, .null, .null, .null, .null, .int 0, .int 0])), (q_25, .inr (0, [.null, .int 0, .int 0]))] H := hP
  have hD : va_D A [(h0, .inr (7, [.null, .ref q_1, .ref q_3, .ref q_5, .ref q_9, .ref q_13, .ref q_17, .ref q_21, .null, .null, .null, .null, .null, .null, .null, .int 0, .int 0])), (q_25, .inr (0, [.null, .int 0, .int 0]))] := hD
  refine lv_dup hx hb dX7_init_101 rfl ?_
  refine lv_bipush (v := 32) hx hb dX7_init_102 (by decide) ?_
  refine lv_topi (fun x ex => ?_)
  obtain rfl : x = nI 32 := ex.trans (by decide)
  have hPc := hP.sub (ws' := [(q_25, .inr (0, [.null, .int 0, .int 0]))]) [1] rfl
  have hDc := hD.sub (ws' := [(q_25, .inr (0, [.null, .int 0, .int 0]))]) [1] (by decide) rfl
  have hKc := hK.sub (tys' := []) [] rfl
  have hFc := va_free (wc := [(q_25, .inr (0, [.null, .int 0, .int 0]))]) hD hS hA [1] rfl
  refine va_callv (va_runI (As := [.int (nI 32)]) (rest := [.ref q_25, .ref h0]) ⟨hx, hb, hml, hown, hts⟩ (c_X0_init l dC dI H.size q_25 32 (by omega)) ⟨callB_of 1 hts (gi kt_11) rfl rfl rfl (hts _ kt_10) (hts _ kt_102) (by decide +kernel) ⟨Nat.le_of_ble_eq_true rfl, Nat.le_of_ble_eq_true rfl⟩, rfl, (hts _ kt_13)⟩ ⟨fun a U g mk q => ⟨q.1, PW.calling q.2⟩, fun U hU hW => ⟨rfl, PW.mk hU hW hPc hKc hDc hE⟩⟩ rfl rfl hl.1 rfl (lv_room (Nat.le_of_ble_eq_true rfl)) dX7_init_104 ⟨by show _ + 1 ≤ 40; omega, by show _ + 32 ≤ 10697; omega⟩) hS (fun q _ h => hFc q h) hFc (fun u t H1 locs ht hvm hw hB hz1 hk1 hS => ?_)
  obtain ⟨q_27, cA_28, hB1⟩ := hB
  obtain ⟨hP, hD, hK⟩ := QW.join (wr := [(h0, .inr (7, [.null, .ref q_1, .ref q_3, .ref q_5, .ref q_9, .ref q_13, .ref q_17, .ref q_21, .null, .null, .null, .null, .null, .null, .null, .int 0, .int 0]))]) hP hD hK [1] [0] rfl rfl (by decide) (by decide) hk1 hFc ht hvm hB1
  generalize H1 = H at hP hS ⊢
  have hK : va_K (dC, dI) vwCl [(cA_28, .int)] s := hK.sub [0] rfl
  have hP : va_P (dC, dI) vwCl [(h0, .inr (7, [.null, .ref q_1, .ref q_3, .ref q_5, .ref q_9, .ref q_13, .ref q_17, .ref q_21, .null, .null, .null, .null, .null, .null, .null, .int 0, .int 0])), (q_25, .inr (0, [.ref q_27, .int 0, .int 0])), (q_27, .inl (cA_28, 32, .inl (fun _ => 0)))] H := hP
  have hD : va_D A [(h0, .inr (7, [.null, .ref q_1, .ref q_3, .ref q_5, .ref q_9, .ref q_13, .ref q_17, .ref q_21, .null, .null, .null, .null, .null, .null, .null, .int 0, .int 0])), (q_25, .inr (0, [.ref q_27, .int 0, .int 0])), (q_27, .inl (cA_28, 32, .inl (fun _ => 0)))] := hD
  have hP := hP.sub (ws' := [(h0, .inr (7, [.null, .ref q_1, .ref q_3, .ref q_5, .ref q_9, .ref q_13, .ref q_17, .ref q_21, .null, .null, .null, .null, .null, .null, .null, .int 0, .int 0]))]) [0] rfl
  have hD := hD.sub (ws' := [(h0, .inr (7, [.null, .ref q_1, .ref q_3, .ref q_5, .ref q_9, .ref q_13, .ref q_17, .ref q_21, .null, .null, .null, .null, .null, .null, .null, .int 0, .int 0]))]) [0] (by decide) rfl
  have hK := hK.sub (tys' := []) [] rfl
  refine va_putF (D := (dC, dI)) (ci := 7) (v := .ref q_25) (ty := .object "PostGate$Bytes") (C := RX7) (T := TX7) (N := 17) hx hb hts it_7 tyX7 tyX7_ok nmX7 hown hK hP hD hS 0 rfl rfl 8 (by decide) (hts _ kt_108) (fun _ h9 => h9) rfl hin rfl (by decide +kernel) rfl rfl (Nat.le_of_ble_eq_true rfl) dX7_init_107 (fun H locs hP hD hS => ?_)
  have hP : va_P (dC, dI) vwCl [(h0, .inr (7, [.null, .ref q_1, .ref q_3, .ref q_5, .ref q_9, .ref q_13, .ref q_17, .ref q_21, .ref q_25, .null, .null, .null, .null, .null, .null, .int 0, .int 0]))] H := hP
  have hD : va_D A [(h0, .inr (7, [.null, .ref q_1, .ref q_3, .ref q_5, .ref q_9, .ref q_13, .ref q_17, .ref q_21, .ref q_25, .null, .null, .null, .null, .null, .null, .int 0, .int 0]))] := hD
  refine lv_aload_n hx hb dX7_init_110 rfl (lv_at hl 0 rfl) ?_
  refine va_new (ci := 0) (fs := [.null, .int 0, .int 0]) (C := RX0) (T := TX0) (N := 3) hx hb hts it_0 tyX0 tyX0_ok hown (hts _ kt_101) (hts _ kt_9) (hts _ kt_10) hK hP hD hS hA rfl df_0 (by show _ + 1 ≤ 40; omega) (by show _ + 3 ≤ 10697; omega) dX7_init_111 (fun q_29 H hP hD hS => ?_)
  have hP : va_P (dC, dI) vwCl [(h0, .inr (7, [.null, .ref q_1, .ref q_3, .ref q_5, .ref q_9, .ref q_13, .ref q_17, .ref q_21, .ref q_25, .null, .null, .null, .null, .null, .null, .int 0, .int 0])), (q_29, .inr (0, [.null, .int 0, .int 0]))] H := hP
  have hD : va_D A [(h0, .inr (7, [.null, .ref q_1, .ref q_3, .ref q_5, .ref q_9, .ref q_13, .ref q_17, .ref q_21, .ref q_25, .null, .null, .null, .null, .null, .null, .int 0, .int 0])), (q_29, .inr (0, [.null, .int 0, .int 0]))] := hD
  refine lv_dup hx hb dX7_init_114 rfl ?_
  refine lv_bipush (v := 64) hx hb dX7_init_115 (by decide) ?_
  refine lv_topi (fun x ex => ?_)
  obtain rfl : x = nI 64 := ex.trans (by decide)
  have hPc := hP.sub (ws' := [(q_29, .inr (0, [.null, .int 0, .int 0]))]) [1] rfl
  have hDc := hD.sub (ws' := [(q_29, .inr (0, [.null, .int 0, .int 0]))]) [1] (by decide) rfl
  have hKc := hK.sub (tys' := []) [] rfl
  have hFc := va_free (wc := [(q_29, .inr (0, [.null, .int 0, .int 0]))]) hD hS hA [1] rfl
  refine va_callv (va_runI (As := [.int (nI 64)]) (rest := [.ref q_29, .ref h0]) ⟨hx, hb, hml, hown, hts⟩ (c_X0_init l dC dI H.size q_29 64 (by omega)) ⟨callB_of 1 hts (gi kt_11) rfl rfl rfl (hts _ kt_10) (hts _ kt_102) (by decide +kernel) ⟨Nat.le_of_ble_eq_true rfl, Nat.le_of_ble_eq_true rfl⟩, rfl, (hts _ kt_13)⟩ ⟨fun a U g mk q => ⟨q.1, PW.calling q.2⟩, fun U hU hW => ⟨rfl, PW.mk hU hW hPc hKc hDc hE⟩⟩ rfl rfl hl.1 rfl (lv_room (Nat.le_of_ble_eq_true rfl)) dX7_init_117 ⟨by show _ + 1 ≤ 40; omega, by show _ + 64 ≤ 10697; omega⟩) hS (fun q _ h => hFc q h) hFc (fun u t H1 locs ht hvm hw hB hz1 hk1 hS => ?_)
  obtain ⟨q_31, cA_32, hB1⟩ := hB
  obtain ⟨hP, hD, hK⟩ := QW.join (wr := [(h0, .inr (7, [.null, .ref q_1, .ref q_3, .ref q_5, .ref q_9, .ref q_13, .ref q_17, .ref q_21, .ref q_25, .null, .null, .null, .null, .null, .null, .int 0, .int 0]))]) hP hD hK [1] [0] rfl rfl (by decide) (by decide) hk1 hFc ht hvm hB1
  generalize H1 = H at hP hS ⊢
  have hK : va_K (dC, dI) vwCl [(cA_32, .int)] s := hK.sub [0] rfl
  have hP : va_P (dC, dI) vwCl [(h0, .inr (7, [.null, .ref q_1, .ref q_3, .ref q_5, .ref q_9, .ref q_13, .ref q_17, .ref q_21, .ref q_25, .null, .null, .null, .null, .null, .null, .int 0, .int 0])), (q_29, .inr (0, [.ref q_31, .int 0, .int 0])), (q_31, .inl (cA_32, 64, .inl (fun _ => 0)))] H := hP
  have hD : va_D A [(h0, .inr (7, [.null, .ref q_1, .ref q_3, .ref q_5, .ref q_9, .ref q_13, .ref q_17, .ref q_21, .ref q_25, .null, .null, .null, .null, .null, .null, .int 0, .int 0])), (q_29, .inr (0, [.ref q_31, .int 0, .int 0])), (q_31, .inl (cA_32, 64, .inl (fun _ => 0)))] := hD
  have hP := hP.sub (ws' := [(h0, .inr (7, [.null, .ref q_1, .ref q_3, .ref q_5, .ref q_9, .ref q_13, .ref q_17, .ref q_21, .ref q_25, .null, .null, .null, .null, .null, .null, .int 0, .int 0]))]) [0] rfl
  have hD := hD.sub (ws' := [(h0, .inr (7, [.null, .ref q_1, .ref q_3, .ref q_5, .ref q_9, .ref q_13, .ref q_17, .ref q_21, .ref q_25, .null, .null, .null, .null, .null, .null, .int 0, .int 0]))]) [0] (by decide) rfl
  have hK := hK.sub (tys' := []) [] rfl
  refine va_putF (D := (dC, dI)) (ci := 7) (v := .ref q_29) (ty := .object "PostGate$Bytes") (C := RX7) (T := TX7) (N := 17) hx hb hts it_7 tyX7 tyX7_ok nmX7 hown hK hP hD hS 0 rfl rfl 9 (by decide) (hts _ kt_109) (fun _ h9 => h9) rfl hin rfl (by decide +kernel) rfl rfl (Nat.le_of_ble_eq_true rfl) dX7_init_120 (fun H locs hP hD hS => ?_)
  have hP : va_P (dC, dI) vwCl [(h0, .inr (7, [.null, .ref q_1, .ref q_3, .ref q_5, .ref q_9, .ref q_13, .ref q_17, .ref q_21, .ref q_25, .ref q_29, .null, .null, .null, .null, .null, .int 0, .int 0]))] H := hP
  have hD : va_D A [(h0, .inr (7, [.null, .ref q_1, .ref q_3, .ref q_5, .ref q_9, .ref q_13, .ref q_17, .ref q_21, .ref q_25, .ref q_29, .null, .null, .null, .null, .null, .int 0, .int 0]))] := hD
  refine lv_aload_n hx hb dX7_init_123 rfl (lv_at hl 0 rfl) ?_
  refine va_new (ci := 0) (fs := [.null, .int 0, .int 0]) (C := RX0) (T := TX0) (N := 3) hx hb hts it_0 tyX0 tyX0_ok hown (hts _ kt_101) (hts _ kt_9) (hts _ kt_10) hK hP hD hS hA rfl df_0 (by show _ + 1 ≤ 40; omega) (by show _ + 3 ≤ 10697; omega) dX7_init_124 (fun q_33 H hP hD hS => ?_)
  have hP : va_P (dC, dI) vwCl [(h0, .inr (7, [.null, .ref q_1, .ref q_3, .ref q_5, .ref q_9, .ref q_13, .ref q_17, .ref q_21, .ref q_25, .ref q_29, .null, .null, .null, .null, .null, .int 0, .int 0])), (q_33, .inr (0, [.null, .int 0, .int 0]))] H := hP
  have hD : va_D A [(h0, .inr (7, [.null, .ref q_1, .ref q_3, .ref q_5, .ref q_9, .ref q_13, .ref q_17, .ref q_21, .ref q_25, .ref q_29, .null, .null, .null, .null, .null, .int 0, .int 0])), (q_33, .inr (0, [.null, .int 0, .int 0]))] := hD
  refine lv_dup hx hb dX7_init_127 rfl ?_
  refine lv_bipush (v := 64) hx hb dX7_init_128 (by decide) ?_
  refine lv_topi (fun x ex => ?_)
  obtain rfl : x = nI 64 := ex.trans (by decide)
  have hPc := hP.sub (ws' := [(q_33, .inr (0, [.null, .int 0, .int 0]))]) [1] rfl
  have hDc := hD.sub (ws' := [(q_33, .inr (0, [.null, .int 0, .int 0]))]) [1] (by decide) rfl
  have hKc := hK.sub (tys' := []) [] rfl
  have hFc := va_free (wc := [(q_33, .inr (0, [.null, .int 0, .int 0]))]) hD hS hA [1] rfl
  refine va_callv (va_runI (As := [.int (nI 64)]) (rest := [.ref q_33, .ref h0]) ⟨hx, hb, hml, hown, hts⟩ (c_X0_init l dC dI H.size q_33 64 (by omega)) ⟨callB_of 1 hts (gi kt_11) rfl rfl rfl (hts _ kt_10) (hts _ kt_102) (by decide +kernel) ⟨Nat.le_of_ble_eq_true rfl, Nat.le_of_ble_eq_true rfl⟩, rfl, (hts _ kt_13)⟩ ⟨fun a U g mk q => ⟨q.1, PW.calling q.2⟩, fun U hU hW => ⟨rfl, PW.mk hU hW hPc hKc hDc hE⟩⟩ rfl rfl hl.1 rfl (lv_room (Nat.le_of_ble_eq_true rfl)) dX7_init_130 ⟨by show _ + 1 ≤ 40; omega, by show _ + 64 ≤ 10697; omega⟩) hS (fun q _ h => hFc q h) hFc (fun u t H1 locs ht hvm hw hB hz1 hk1 hS => ?_)
  obtain ⟨q_35, cA_36, hB1⟩ := hB
  obtain ⟨hP, hD, hK⟩ := QW.join (wr := [(h0, .inr (7, [.null, .ref q_1, .ref q_3, .ref q_5, .ref q_9, .ref q_13, .ref q_17, .ref q_21, .ref q_25, .ref q_29, .null, .null, .null, .null, .null, .int 0, .int 0]))]) hP hD hK [1] [0] rfl rfl (by decide) (by decide) hk1 hFc ht hvm hB1
  generalize H1 = H at hP hS ⊢
  have hK : va_K (dC, dI) vwCl [(cA_36, .int)] s := hK.sub [0] rfl
  have hP : va_P (dC, dI) vwCl [(h0, .inr (7, [.null, .ref q_1, .ref q_3, .ref q_5, .ref q_9, .ref q_13, .ref q_17, .ref q_21, .ref q_25, .ref q_29, .null, .null, .null, .null, .null, .int 0, .int 0])), (q_33, .inr (0, [.ref q_35, .int 0, .int 0])), (q_35, .inl (cA_36, 64, .inl (fun _ => 0)))] H := hP
  have hD : va_D A [(h0, .inr (7, [.null, .ref q_1, .ref q_3, .ref q_5, .ref q_9, .ref q_13, .ref q_17, .ref q_21, .ref q_25, .ref q_29, .null, .null, .null, .null, .null, .int 0, .int 0])), (q_33, .inr (0, [.ref q_35, .int 0, .int 0])), (q_35, .inl (cA_36, 64, .inl (fun _ => 0)))] := hD
  have hP := hP.sub (ws' := [(h0, .inr (7, [.null, .ref q_1, .ref q_3, .ref q_5, .ref q_9, .ref q_13, .ref q_17, .ref q_21, .ref q_25, .ref q_29, .null, .null, .null, .null, .null, .int 0, .int 0]))]) [0] rfl
  have hD := hD.sub (ws' := [(h0, .inr (7, [.null, .ref q_1, .ref q_3, .ref q_5, .ref q_9, .ref q_13, .ref q_17, .ref q_21, .ref q_25, .ref q_29, .null, .null, .null, .null, .null, .int 0, .int 0]))]) [0] (by decide) rfl
  have hK := hK.sub (tys' := []) [] rfl
  refine va_putF (D := (dC, dI)) (ci := 7) (v := .ref q_33) (ty := .object "PostGate$Bytes") (C := RX7) (T := TX7) (N := 17) hx hb hts it_7 tyX7 tyX7_ok nmX7 hown hK hP hD hS 0 rfl rfl 10 (by decide) (hts _ kt_110) (fun _ h9 => h9) rfl hin rfl (by decide +kernel) rfl rfl (Nat.le_of_ble_eq_true rfl) dX7_init_133 (fun H locs hP hD hS => ?_)
  have hP : va_P (dC, dI) vwCl [(h0, .inr (7, [.null, .ref q_1, .ref q_3, .ref q_5, .ref q_9, .ref q_13, .ref q_17, .ref q_21, .ref q_25, .ref q_29, .ref q_33, .null, .null, .null, .null, .int 0, .int 0]))] H := hP
  have hD : va_D A [(h0, .inr (7, [.null, .ref q_1, .ref q_3, .ref q_5, .ref q_9, .ref q_13, .ref q_17, .ref q_21, .ref q_25, .ref q_29, .ref q_33, .null, .null, .null, .null, .int 0, .int 0]))] := hD
  refine lv_aload_n hx hb dX7_init_136 rfl (lv_at hl 0 rfl) ?_
  refine va_new (ci := 0) (fs := [.null, .int 0, .int 0]) (C := RX0) (T := TX0) (N := 3) hx hb hts it_0 tyX0 tyX0_ok hown (hts _ kt_101) (hts _ kt_9) (hts _ kt_10) hK hP hD hS hA rfl df_0 (by show _ + 1 ≤ 40; omega) (by show _ + 3 ≤ 10697; omega) dX7_init_137 (fun q_37 H hP hD hS => ?_)
  have hP : va_P (dC, dI) vwCl [(h0, .inr (7, [.null, .ref q_1, .ref q_3, .ref q_5, .ref q_9, .ref q_13, .ref q_17, .ref q_21, .ref q_25, .ref q_29, .ref q_33, .null, .null, .null, .null, .int 0, .int 0])), (q_37, .inr (0, [.null, .int 0, .int 0]))] H := hP
  have hD : va_D A [(h0, .inr (7, [.null, .ref q_1, .ref q_3, .ref q_5, .ref q_9, .ref q_13, .ref q_17, .ref q_21, .ref q_25, .ref q_29, .ref q_33, .null, .null, .null, .null, .int 0, .int 0])), (q_37, .inr (0, [.null, .int 0, .int 0]))] := hD
  refine lv_dup hx hb dX7_init_140 rfl ?_
  refine lv_sipush (v := 6100) hx hb dX7_init_141 (by decide) ?_
  refine lv_topi (fun x ex => ?_)
  obtain rfl : x = nI 6100 := ex.trans (by decide)
  have hPc := hP.sub (ws' := [(q_37, .inr (0, [.null, .int 0, .int 0]))]) [1] rfl
  have hDc := hD.sub (ws' := [(q_37, .inr (0, [.null, .int 0, .int 0]))]) [1] (by decide) rfl
  have hKc := hK.sub (tys' := []) [] rfl
  have hFc := va_free (wc := [(q_37, .inr (0, [.null, .int 0, .int 0]))]) hD hS hA [1] rfl
  refine va_callv (va_runI (As := [.int (nI 6100)]) (rest := [.ref q_37, .ref h0]) ⟨hx, hb, hml, hown, hts⟩ (c_X0_init l dC dI H.size q_37 6100 (by omega)) ⟨callB_of 1 hts (gi kt_11) rfl rfl rfl (hts _ kt_10) (hts _ kt_102) (by decide +kernel) ⟨Nat.le_of_ble_eq_true rfl, Nat.le_of_ble_eq_true rfl⟩, rfl, (hts _ kt_13)⟩ ⟨fun a U g mk q => ⟨q.1, PW.calling q.2⟩, fun U hU hW => ⟨rfl, PW.mk hU hW hPc hKc hDc hE⟩⟩ rfl rfl hl.1 rfl (lv_room (Nat.le_of_ble_eq_true rfl)) dX7_init_144 ⟨by show _ + 1 ≤ 40; omega, by show _ + 6100 ≤ 10697; omega⟩) hS (fun q _ h => hFc q h) hFc (fun u t H1 locs ht hvm hw hB hz1 hk1 hS => ?_)
  obtain ⟨q_39, cA_40, hB1⟩ := hB
  obtain ⟨hP, hD, hK⟩ := QW.join (wr := [(h0, .inr (7, [.null, .ref q_1, .ref q_3, .ref q_5, .ref q_9, .ref q_13, .ref q_17, .ref q_21, .ref q_25, .ref q_29, .ref q_33, .null, .null, .null, .null, .int 0, .int 0]))]) hP hD hK [1] [0] rfl rfl (by decide) (by decide) hk1 hFc ht hvm hB1
  generalize H1 = H at hP hS ⊢
  have hK : va_K (dC, dI) vwCl [(cA_40, .int)] s := hK.sub [0] rfl
  have hP : va_P (dC, dI) vwCl [(h0, .inr (7, [.null, .ref q_1, .ref q_3, .ref q_5, .ref q_9, .ref q_13, .ref q_17, .ref q_21, .ref q_25, .ref q_29, .ref q_33, .null, .null, .null, .null, .int 0, .int 0])), (q_37, .inr (0, [.ref q_39, .int 0, .int 0])), (q_39, .inl (cA_40, 6100, .inl (fun _ => 0)))] H := hP
  have hD : va_D A [(h0, .inr (7, [.null, .ref q_1, .ref q_3, .ref q_5, .ref q_9, .ref q_13, .ref q_17, .ref q_21, .ref q_25, .ref q_29, .ref q_33, .null, .null, .null, .null, .int 0, .int 0])), (q_37, .inr (0, [.ref q_39, .int 0, .int 0])), (q_39, .inl (cA_40, 6100, .inl (fun _ => 0)))] := hD
  have hP := hP.sub (ws' := [(h0, .inr (7, [.null, .ref q_1, .ref q_3, .ref q_5, .ref q_9, .ref q_13, .ref q_17, .ref q_21, .ref q_25, .ref q_29, .ref q_33, .null, .null, .null, .null, .int 0, .int 0]))]) [0] rfl
  have hD := hD.sub (ws' := [(h0, .inr (7, [.null, .ref q_1, .ref q_3, .ref q_5, .ref q_9, .ref q_13, .ref q_17, .ref q_21, .ref q_25, .ref q_29, .ref q_33, .null, .null, .null, .null, .int 0, .int 0]))]) [0] (by decide) rfl
  have hK := hK.sub (tys' := []) [] rfl
  refine va_putF (D := (dC, dI)) (ci := 7) (v := .ref q_37) (ty := .object "PostGate$Bytes") (C := RX7) (T := TX7) (N := 17) hx hb hts it_7 tyX7 tyX7_ok nmX7 hown hK hP hD hS 0 rfl rfl 11 (by decide) (hts _ kt_111) (fun _ h9 => h9) rfl hin rfl (by decide +kernel) rfl rfl (Nat.le_of_ble_eq_true rfl) dX7_init_147 (fun H locs hP hD hS => ?_)
  have hP : va_P (dC, dI) vwCl [(h0, .inr (7, [.null, .ref q_1, .ref q_3, .ref q_5, .ref q_9, .ref q_13, .ref q_17, .ref q_21, .ref q_25, .ref q_29, .ref q_33, .ref q_37, .null, .null, .null, .int 0, .int 0]))] H := hP
  have hD : va_D A [(h0, .inr (7, [.null, .ref q_1, .ref q_3, .ref q_5, .ref q_9, .ref q_13, .ref q_17, .ref q_21, .ref q_25, .ref q_29, .ref q_33, .ref q_37, .null, .null, .null, .int 0, .int 0]))] := hD
  refine lv_aload_n hx hb dX7_init_150 rfl (lv_at hl 0 rfl) ?_
  refine lv_bipush (v := 20) hx hb dX7_init_151 (by decide) ?_
  refine va_newa (atype := .boolean) (ty := .boolean) (a0 := (20, .inl (fun _ => 0))) (N' := 20) hx hb (hts _ kt_112) rfl hK hP hD hS hA (fun _ => rfl) (by decide) (by decide) (by show _ * 1 ≤ _; omega) (by show _ + 1 ≤ 40; omega) (by show _ + 20 ≤ 10697; omega) dX7_init_153 (fun q_41 cA_42 H hK hP hD hS => ?_)
  have hK : va_K (dC, dI) vwCl [(cA_42, .boolean)] s := hK
  have hP : va_P (dC, dI) vwCl [(h0, .inr (7, [.null, .ref q_1, .ref q_3, .ref q_5, .ref q_9, .ref q_13, .ref q_17, .ref q_21, .ref q_25, .ref q_29, .ref q_33, .ref q_37, .null, .null, .null, .int 0, .int 0])), (q_41, .inl (cA_42, 20, .inl (fun _ => 0)))] H := hP
  have hD : va_D A [(h0, .inr (7, [.null, .ref q_1, .ref q_3, .ref q_5, .ref q_9, .ref q_13, .ref q_17, .ref q_21, .ref q_25, .ref q_29, .ref q_33, .ref q_37, .null, .null, .null, .int 0, .int 0])), (q_41, .inl (cA_42, 20, .inl (fun _ => 0)))] := hD
  refine va_putF (D := (dC, dI)) (ci := 7) (v := .ref q_41) (ty := .array .boolean) (C := RX7) (T := TX7) (N := 17) hx hb hts it_7 tyX7 tyX7_ok nmX7 hown hK hP hD hS 0 rfl rfl 12 (by decide) (hts _ kt_113) (fun _ h9 => h9) rfl hin rfl (by decide +kernel) rfl rfl (Nat.le_of_ble_eq_true rfl) dX7_init_155 (fun H locs hP hD hS => ?_)
  have hP : va_P (dC, dI) vwCl [(h0, .inr (7, [.null, .ref q_1, .ref q_3, .ref q_5, .ref q_9, .ref q_13, .ref q_17, .ref q_21, .ref q_25, .ref q_29, .ref q_33, .ref q_37, .ref q_41, .null, .null, .int 0, .int 0])), (q_41, .inl (cA_42, 20, .inl (fun _ => 0)))] H := hP
  have hD : va_D A [(h0, .inr (7, [.null, .ref q_1, .ref q_3, .ref q_5, .ref q_9, .ref q_13, .ref q_17, .ref q_21, .ref q_25, .ref q_29, .ref q_33, .ref q_37, .ref q_41, .null, .null, .int 0, .int 0])), (q_41, .inl (cA_42, 20, .inl (fun _ => 0)))] := hD
  refine lv_aload_n hx hb dX7_init_158 rfl (lv_at hl 0 rfl) ?_
  refine va_new (ci := 8) (fs := [.null, .null, .null]) (C := RX8) (T := TX8) (N := 3) hx hb hts it_8 tyX8 tyX8_ok hown (hts _ kt_114) (hts _ kt_115) (hts _ kt_116) hK hP hD hS hA rfl df_8 (by show _ + 1 ≤ 40; omega) (by show _ + 3 ≤ 10697; omega) dX7_init_159 (fun q_43 H hP hD hS => ?_)
  have hP : va_P (dC, dI) vwCl [(h0, .inr (7, [.null, .ref q_1, .ref q_3, .ref q_5, .ref q_9, .ref q_13, .ref q_17, .ref q_21, .ref q_25, .ref q_29, .ref q_33, .ref q_37, .ref q_41, .null, .null, .int 0, .int 0])), (q_41, .inl (cA_42, 20, .inl (fun _ => 0))), (q_43, .inr (8, [.null, .null, .null]))] H := hP
  have hD : va_D A [(h0, .inr (7, [.null, .ref q_1, .ref q_3, .ref q_5, .ref q_9, .ref q_13, .ref q_17, .ref q_21, .ref q_25, .ref q_29, .ref q_33, .ref q_37, .ref q_41, .null, .null, .int 0, .int 0])), (q_41, .inl (cA_42, 20, .inl (fun _ => 0))), (q_43, .inr (8, [.null, .null, .null]))] := hD
  refine lv_dup hx hb dX7_init_162 rfl ?_
  have hPc := hP.sub (ws' := [(q_43, .inr (8, [.null, .null, .null]))]) [2] rfl
  have hDc := hD.sub (ws' := [(q_43, .inr (8, [.null, .null, .null]))]) [2] (by decide) rfl
  have hKc := hK.sub (tys' := []) [] rfl
  have hFc := va_free (wc := [(q_43, .inr (8, [.null, .null, .null]))]) hD hS hA [2] rfl
  refine va_callv (va_runIN (As := []) (rest := [.ref q_43, .ref h0]) ⟨hx, hb, hml, hown, hts⟩ (c_X8_init l dC dI H.size q_43 ) ⟨va_cnB 0 hts (gi kt_117) rfl rfl rfl (hE.nestw kn_2) (hts _ kt_116) (by decide +kernel) ⟨Nat.le_of_ble_eq_true rfl, Nat.le_of_ble_eq_true rfl⟩, rfl, (hts _ kt_118)⟩ ⟨fun a U g mk q => ⟨q.1, PW.calling q.2⟩, fun U hU hW => ⟨rfl, PW.mk hU hW hPc hKc hDc hE⟩⟩ rfl rfl hl.1 rfl (lv_room (Nat.le_of_ble_eq_true rfl)) dX7_init_163 ⟨by show _ + 3 ≤ 40; omega, by show _ + 80 ≤ 10697; omega⟩) hS (fun q _ h => hFc q h) hFc (fun u t H1 locs ht hvm hw hB hz1 hk1 hS => ?_)
  obtain ⟨qw_45, qs_46, qt_47, cw_48, cs_49, ct_50, hB1⟩ := hB
  obtain ⟨hP, hD, hK⟩ := QW.join (wr := [(h0, .inr (7, [.null, .ref q_1, .ref q_3, .ref q_5, .ref q_9, .ref q_13, .ref q_17, .ref q_21, .ref q_25, .ref q_29, .ref q_33, .ref q_37, .ref q_41, .null, .null, .int 0, .int 0])), (q_41, .inl (cA_42, 20, .inl (fun _ => 0)))]) hP hD hK [2] [0, 1] rfl rfl (by decide) (by decide) hk1 hFc ht hvm hB1
  generalize H1 = H at hP hS ⊢
  have hK : va_K (dC, dI) vwCl [(cA_42, .boolean), (cw_48, .int), (cs_49, .int), (ct_50, .int)] s := hK.sub [0, 1, 2, 3] rfl
  have hP : va_P (dC, dI) vwCl [(h0, .inr (7, [.null, .ref q_1, .ref q_3, .ref q_5, .ref q_9, .ref q_13, .ref q_17, .ref q_21, .ref q_25, .ref q_29, .ref q_33, .ref q_37, .ref q_41, .null, .null, .int 0, .int 0])), (q_41, .inl (cA_42, 20, .inl (fun _ => 0))), (q_43, .inr (8, [.ref qw_45, .ref qs_46, .ref qt_47])), (qw_45, .inl (cw_48, 64, .inl (fun _ => 0))), (qs_46, .inl (cs_49, 8, .inl (fun _ => 0))), (qt_47, .inl (ct_50, 8, .inl (fun _ => 0)))] H := hP
  have hD : va_D A [(h0, .inr (7, [.null, .ref q_1, .ref q_3, .ref q_5, .ref q_9, .ref q_13, .ref q_17, .ref q_21, .ref q_25, .ref q_29, .ref q_33, .ref q_37, .ref q_41, .null, .null, .int 0, .int 0])), (q_41, .inl (cA_42, 20, .inl (fun _ => 0))), (q_43, .inr (8, [.ref qw_45, .ref qs_46, .ref qt_47])), (qw_45, .inl (cw_48, 64, .inl (fun _ => 0))), (qs_46, .inl (cs_49, 8, .inl (fun _ => 0))), (qt_47, .inl (ct_50, 8, .inl (fun _ => 0)))] := hD
  have hP := hP.sub (ws' := [(h0, .inr (7, [.null, .ref q_1, .ref q_3, .ref q_5, .ref q_9, .ref q_13, .ref q_17, .ref q_21, .ref q_25, .ref q_29, .ref q_33, .ref q_37, .ref q_41, .null, .null, .int 0, .int 0]))]) [0] rfl
  have hD := hD.sub (ws' := [(h0, .inr (7, [.null, .ref q_1, .ref q_3, .ref q_5, .ref q_9, .ref q_13, .ref q_17, .ref q_21, .ref q_25, .ref q_29, .ref q_33, .ref q_37, .ref q_41, .null, .null, .int 0, .int 0]))]) [0] (by decide) rfl
  have hK := hK.sub (tys' := []) [] rfl
  refine va_putF (D := (dC, dI)) (ci := 7) (v := .ref q_43) (ty := .object "PostGate$Sha") (C := RX7) (T := TX7) (N := 17) hx hb hts it_7 tyX7 tyX7_ok nmX7 hown hK hP hD hS 0 rfl rfl 13 (by decide) (hts _ kt_119) (fun _ h9 => h9) rfl hin rfl (by decide +kernel) rfl rfl (Nat.le_of_ble_eq_true rfl) dX7_init_166 (fun H locs hP hD hS => ?_)
  have hP : va_P (dC, dI) vwCl [(h0, .inr (7, [.null, .ref q_1, .ref q_3, .ref q_5, .ref q_9, .ref q_13, .ref q_17, .ref q_21, .ref q_25, .ref q_29, .ref q_33, .ref q_37, .ref q_41, .ref q_43, .null, .int 0, .int 0]))] H := hP
  have hD : va_D A [(h0, .inr (7, [.null, .ref q_1, .ref q_3, .ref q_5, .ref q_9, .ref q_13, .ref q_17, .ref q_21, .ref q_25, .ref q_29, .ref q_33, .ref q_37, .ref q_41, .ref q_43, .null, .int 0, .int 0]))] := hD
  refine lv_aload_n hx hb dX7_init_169 rfl (lv_at hl 0 rfl) ?_
  refine va_new (ci := 6) (fs := [.null, .null, .null, .null, .long 0]) (C := RX6) (T := TX6) (N := 5) hx hb hts it_6 tyX6 tyX6_ok hown (hts _ kt_120) (hts _ kt_121) (hts _ kt_122) hK hP hD hS hA rfl df_6 (by show _ + 1 ≤ 40; omega) (by show _ + 5 ≤ 10697; omega) dX7_init_170 (fun q_51 H hP hD hS => ?_)
  have hP : va_P (dC, dI) vwCl [(h0, .inr (7, [.null, .ref q_1, .ref q_3, .ref q_5, .ref q_9, .ref q_13, .ref q_17, .ref q_21, .ref q_25, .ref q_29, .ref q_33, .ref q_37, .ref q_41, .ref q_43, .null, .int 0, .int 0])), (q_51, .inr (6, [.null, .null, .null, .null, .long 0]))] H := hP
  have hD : va_D A [(h0, .inr (7, [.null, .ref q_1, .ref q_3, .ref q_5, .ref q_9, .ref q_13, .ref q_17, .ref q_21, .ref q_25, .ref q_29, .ref q_33, .ref q_37, .ref q_41, .ref q_43, .null, .int 0, .int 0])), (q_51, .inr (6, [.null, .null, .null, .null, .long 0]))] := hD
  refine lv_dup hx hb dX7_init_173 rfl ?_
  have hPc := hP.sub (ws' := [(q_51, .inr (6, [.null, .null, .null, .null, .long 0]))]) [1] rfl
  have hDc := hD.sub (ws' := [(q_51, .inr (6, [.null, .null, .null, .null, .long 0]))]) [1] (by decide) rfl
  have hKc := hK.sub (tys' := []) [] rfl
  have hFc := va_free (wc := [(q_51, .inr (6, [.null, .null, .null, .null, .long 0]))]) hD hS hA [1] rfl
  refine va_callv (va_runIN (As := []) (rest := [.ref q_51, .ref h0]) ⟨hx, hb, hml, hown, hts⟩ (c_X6_init l dC dI H.size q_51 ) ⟨va_cnB 0 hts (gi kt_123) rfl rfl rfl (hE.nestw kn_3) (hts _ kt_122) (by decide +kernel) ⟨Nat.le_of_ble_eq_true rfl, Nat.le_of_ble_eq_true rfl⟩, rfl, (hts _ kt_124)⟩ ⟨fun a U g mk q => ⟨q.1, PW.calling q.2⟩, fun U hU hW => ⟨rfl, PW.mk hU hW hPc hKc hDc hE⟩⟩ rfl rfl hl.1 rfl (lv_room (Nat.le_of_ble_eq_true rfl)) dX7_init_174 ⟨by show _ + 4 ≤ 40; omega, by show _ + 66 ≤ 10697; omega⟩) hS (fun q _ h => hFc q h) hFc (fun u t H1 locs ht hvm hw hB hz1 hk1 hS => ?_)
  have hB1 := hB
  obtain ⟨hP, hD, hK⟩ := QW.join (wr := [(h0, .inr (7, [.null, .ref q_1, .ref q_3, .ref q_5, .ref q_9, .ref q_13, .ref q_17, .ref q_21, .ref q_25, .ref q_29, .ref q_33, .ref q_37, .ref q_41, .ref q_43, .null, .int 0, .int 0]))]) hP hD hK [1] [0] rfl rfl (by decide) (by decide) hk1 hFc ht hvm hB1
  generalize H1 = H at hP hS ⊢
  have hK : va_K (dC, dI) vwCl [] s := hK.sub [] rfl
  have hP : va_P (dC, dI) vwCl [(h0, .inr (7, [.null, .ref q_1, .ref q_3, .ref q_5, .ref q_9, .ref q_13, .ref q_17, .ref q_21, .ref q_25, .ref q_29, .ref q_33, .ref q_37, .ref q_41, .ref q_43, .null, .int 0, .int 0]))] H := hP
  have hD : va_D A [(h0, .inr (7, [.null, .ref q_1, .ref q_3, .ref q_5, .ref q_9, .ref q_13, .ref q_17, .ref q_21, .ref q_25, .ref q_29, .ref q_33, .ref q_37, .ref q_41, .ref q_43, .null, .int 0, .int 0]))] := hD
  have hP := hP.sub (ws' := [(h0, .inr (7, [.null, .ref q_1, .ref q_3, .ref q_5, .ref q_9, .ref q_13, .ref q_17, .ref q_21, .ref q_25, .ref q_29, .ref q_33, .ref q_37, .ref q_41, .ref q_43, .null, .int 0, .int 0]))]) [0] rfl
  have hD := hD.sub (ws' := [(h0, .inr (7, [.null, .ref q_1, .ref q_3, .ref q_5, .ref q_9, .ref q_13, .ref q_17, .ref q_21, .ref q_25, .ref q_29, .ref q_33, .ref q_37, .ref q_41, .ref q_43, .null, .int 0, .int 0]))]) [0] (by decide) rfl
  have hK := hK.sub (tys' := []) [] rfl
  refine va_putF (D := (dC, dI)) (ci := 7) (v := .ref q_51) (ty := .object "PostGate$Power") (C := RX7) (T := TX7) (N := 17) hx hb hts it_7 tyX7 tyX7_ok nmX7 hown hK hP hD hS 0 rfl rfl 14 (by decide) (hts _ kt_125) (fun _ h9 => h9) rfl hin rfl (by decide +kernel) rfl rfl (Nat.le_of_ble_eq_true rfl) dX7_init_177 (fun H locs hP hD hS => ?_)
  have hP : va_P (dC, dI) vwCl [(h0, .inr (7, [.null, .ref q_1, .ref q_3, .ref q_5, .ref q_9, .ref q_13, .ref q_17, .ref q_21, .ref q_25, .ref q_29, .ref q_33, .ref q_37, .ref q_41, .ref q_43, .ref q_51, .int 0, .int 0]))] H := hP
  have hD : va_D A [(h0, .inr (7, [.null, .ref q_1, .ref q_3, .ref q_5, .ref q_9, .ref q_13, .ref q_17, .ref q_21, .ref q_25, .ref q_29, .ref q_33, .ref q_37, .ref q_41, .ref q_43, .ref q_51, .int 0, .int 0]))] := hD
  refine lv_aload_n hx hb dX7_init_180 rfl (lv_at hl 0 rfl) ?_
  refine lv_iconst (v := 0) hx hb dX7_init_181 (by decide) ?_
  refine va_put (D := (dC, dI)) (ci := 7) (v := .int 0) (ty := .boolean) (C := RX7) (T := TX7) (N := 17) hx hb hts it_7 tyX7 tyX7_ok nmX7 hown hK hP hD hS 0 rfl rfl 15 (by decide) (hts _ kt_126) (fun _ h9 => h9) rfl (by decide +kernel) rfl rfl (Nat.le_of_ble_eq_true rfl) dX7_init_182 (fun H locs hP hD hS => ?_)
  have hP : va_P (dC, dI) vwCl [(h0, .inr (7, [.null, .ref q_1, .ref q_3, .ref q_5, .ref q_9, .ref q_13, .ref q_17, .ref q_21, .ref q_25, .ref q_29, .ref q_33, .ref q_37, .ref q_41, .ref q_43, .ref q_51, .int 0, .int 0]))] H := hP
  have hD : va_D A [(h0, .inr (7, [.null, .ref q_1, .ref q_3, .ref q_5, .ref q_9, .ref q_13, .ref q_17, .ref q_21, .ref q_25, .ref q_29, .ref q_33, .ref q_37, .ref q_41, .ref q_43, .ref q_51, .int 0, .int 0]))] := hD
  refine lv_aload_n hx hb dX7_init_185 rfl (lv_at hl 0 rfl) ?_
  refine lv_iconst (v := 0) hx hb dX7_init_186 (by decide) ?_
  refine va_put (D := (dC, dI)) (ci := 7) (v := .int 0) (ty := .boolean) (C := RX7) (T := TX7) (N := 17) hx hb hts it_7 tyX7 tyX7_ok nmX7 hown hK hP hD hS 0 rfl rfl 16 (by decide) (hts _ kt_127) (fun _ h9 => h9) rfl (by decide +kernel) rfl rfl (Nat.le_of_ble_eq_true rfl) dX7_init_187 (fun H locs hP hD hS => ?_)
  have hP : va_P (dC, dI) vwCl [(h0, .inr (7, [.null, .ref q_1, .ref q_3, .ref q_5, .ref q_9, .ref q_13, .ref q_17, .ref q_21, .ref q_25, .ref q_29, .ref q_33, .ref q_37, .ref q_41, .ref q_43, .ref q_51, .int 0, .int 0]))] H := hP
  have hD : va_D A [(h0, .inr (7, [.null, .ref q_1, .ref q_3, .ref q_5, .ref q_9, .ref q_13, .ref q_17, .ref q_21, .ref q_25, .ref q_29, .ref q_33, .ref q_37, .ref q_41, .ref q_43, .ref q_51, .int 0, .int 0]))] := hD
  refine lv_aload_n hx hb dX7_init_190 rfl (lv_at hl 0 rfl) ?_
  refine lv_aload_n hx hb dX7_init_191 rfl (lv_at hl 1 rfl) ?_
  refine va_putF (D := (dC, dI)) (ci := 7) (v := .ref qd) (ty := .object "PostGate$Directory") (C := RX7) (T := TX7) (N := 17) hx hb hts it_7 tyX7 tyX7_ok nmX7 hown hK hP hD hS 0 rfl rfl 0 (by decide) (hts _ kt_128) (fun _ h9 => h9) rfl hin rfl (by decide +kernel) rfl rfl (Nat.le_of_ble_eq_true rfl) dX7_init_192 (fun H locs hP hD hS => ?_)
  have hP : va_P (dC, dI) vwCl [(h0, .inr (7, [.ref qd, .ref q_1, .ref q_3, .ref q_5, .ref q_9, .ref q_13, .ref q_17, .ref q_21, .ref q_25, .ref q_29, .ref q_33, .ref q_37, .ref q_41, .ref q_43, .ref q_51, .int 0, .int 0]))] H := hP
  have hD : va_D A [(h0, .inr (7, [.ref qd, .ref q_1, .ref q_3, .ref q_5, .ref q_9, .ref q_13, .ref q_17, .ref q_21, .ref q_25, .ref q_29, .ref q_33, .ref q_37, .ref q_41, .ref q_43, .ref q_51, .int 0, .int 0]))] := hD
  have hP9 := hP.sub (ws' := []) [] rfl
  have hD9 := hD.sub (ws' := []) [] (by decide) rfl
  have hK9 := hK.sub (tys' := []) [] rfl
  refine W.widen (k := 40) (n := 10697) (by omega) (by omega) ?_
  exact W.vret hx hb hr (fun t ht hW => ⟨⟨(), rfl, trivial, QW.mk ht hW hP9 hK9 hD9⟩, hS.F ht⟩) hS.2.2 dX7_init_195
set_option maxHeartbeats 4000000 in
set_option maxRecDepth 100000 in
theorem c_X11_init (l : Launch) (dC : Nat → ClassId) (dI : Nat → Nat → Nat) (sz : Nat) (h0 : Nat) : Met l yX11_init (.code yX11_init cX11_init 1 none :: tb) ({ frames := 4, cells := 320, slots := 55808, locals := 75 }) (va_Pc [.ref h0] (PW (dC, dI) sz [(h0, .inr (11, [.null, .null, .null, .null, .null, .null, .null, .null, .null]))] [])) (va_Qv (fun _ : Unit => True) (fun _ T9 => ∃ (t : Nat) (o : Nat) (d : Nat) (ck : Nat) (se : Nat) (po : Nat) (sh : Nat) (le : Nat) (sp : Nat) (tr : Nat) (orw : Nat) (de : Nat) (k1 : Nat) (k2 : Nat) (k3 : Nat) (k4 : Nat) (k5 : Nat) (k6 : Nat) (sw : Nat) (ss : Nat) (st : Nat) (l0 : Nat) (l1 : Nat) (l2 : Nat) (l3 : Nat) (px : Nat) (p1 : Nat) (p2 : Nat) (p3 : Nat) (pr : Nat) (ct : ClassId) (co : ClassId) (cw : ClassId) (cs : ClassId) (cst : ClassId) (cp : ClassId), QW (dC, dI) (va_A [(h0, .inr (11, [.null, .null, .null, .null, .null, .null, .null, .null, .null]))] sz) [(h0, .inr (11, [.ref t, .ref o, .ref d, .ref ck, .ref se, .ref po, .ref sh, .ref le, .ref sp])), (t, .inr (0, [.ref tr, .int 0, .int 0])), (tr, .inl (ct, 3000, .inl (fun _ => 0))), (o, .inr (0, [.ref orw, .int 0, .int 0])), (orw, .inl (co, 3000, .inl (fun _ => 0))), (d, .inr (2, [.ref de, .int 0])), (ck, .inr (1, [.ref d, .ref k1, .ref k2, .ref k3, .ref k4, .ref k5, .ref k6, .int 0, .int 0, .int 0, .int 0])), (sh, .inr (8, [.ref sw, .ref ss, .ref st])), (sw, .inl (cw, 64, .inl (fun _ => 0))), (ss, .inl (cs, 8, .inl (fun _ => 0))), (st, .inl (cst, 8, .inl (fun _ => 0))), (le, .inr (4, [.ref l0, .ref l1, .ref l2, .ref l3, .int 0, .int 0])), (sp, .inr (4, [.ref px, .ref p1, .ref p2, .ref p3, .int 0, .int 0])), (px, .inr (0, [.ref pr, .int 0, .int 0])), (pr, .inl (cp, 3000, .inl (fun _ => 0)))] [(ct, .int), (co, .int), (cw, .int), (cs, .int), (cst, .int), (cp, .int)] T9) (va_A [(h0, .inr (11, [.null, .null, .null, .null, .null, .null, .null, .null, .null]))] sz)) 320 55808 (va_A [(h0, .inr (11, [.null, .null, .null, .null, .null, .null, .null, .null, .null]))] sz) := by
  refine Met.ofW (cc := cX11_init) (maxL := 1) (ret := none) (by decide) rfl ?_
  intro p e s m args below meth c s₁ B hml hv
  obtain ⟨rfl, hsz, hP, hK, hD0, hE⟩ := hv
  have hx := B.exec
  have hb := B.bytes
  have hr := B.returns
  have hts : ∀ w ∈ tb, w.before _ s = true := fun w h => atoms_spec (ws := .code yX11_init cX11_init 1 none :: tb) B.pre w (List.mem_cons_of_mem _ h)
  have hown : s.vm.findClass RX11 = some m.cls := findClass_of_methodNamed B.named
  have hlocks := B.notSynchronized
  have hin : meth.name = "<init>" := (name_of_methodNamed B.named B.method).1
  subst hsz
  have hD := hD0.self (sz := s.heap.size)
  generalize hAe : va_A [(h0, .inr (11, [.null, .null, .null, .null, .null, .null, .null, .null, .null]))] s.heap.size = A at hD ⊢
  have hA : ∀ q : Nat, s.heap.size ≤ q → A q := fun q h => by rw [← hAe]; exact Or.inr h
  have hS : va_S A s.heap s.heap [] := va_S.rf
  have hP : va_P (dC, dI) vwCl [(h0, .inr (11, [.null, .null, .null, .null, .null, .null, .null, .null, .null]))] s.heap := hP
  have hl := lv_entry ([.ref h0]) (n := 1) (Nat.le_of_ble_eq_true rfl)
  rw [lg_entry_eq]
  generalize (lg_sl ([.ref h0]) ++ List.replicate (1 - (lg_sl ([.ref h0])).length) Slot.unset).toArray = ls at hl ⊢
  have hl : lv_has ls 1 [(0, .ref h0)] := hl
  refine lv_aload_n hx hb dX11_init_0 rfl (lv_at hl 0 rfl) ?_
  refine W.objInit hx hb hown (hts _ kt_129) (hts _ kt_1) (hts _ kt_2) rfl (by rw [hml]; exact hl.1) rfl dX11_init_1 (Nat.le_of_ble_eq_true rfl) (Nat.le_of_ble_eq_true rfl) ?_
  refine W.eq (g2 := F0 m 4 ls []) rfl ?_
  refine lv_aload_n hx hb dX11_init_4 rfl (lv_at hl 0 rfl) ?_
  refine va_new (ci := 0) (fs := [.null, .int 0, .int 0]) (C := RX0) (T := TX0) (N := 3) hx hb hts it_0 tyX0 tyX0_ok hown (hts _ kt_130) (hts _ kt_9) (hts _ kt_10) hK hP hD hS hA rfl df_0 (by show _ + 1 ≤ 320; omega) (by show _ + 3 ≤ 55808; omega) dX11_init_5 (fun q_1 H hP hD hS => ?_)
  have hP : va_P (dC, dI) vwCl [(h0, .inr (11, [.null, .null, .null, .null, .null, .null, .null, .null, .null])), (q_1, .inr (0, [.null, .int 0, .int 0]))] H := hP
  have hD : va_D A [(h0, .inr (11, [.null, .null, .null, .null, .null, .null, .null, .null, .null])), (q_1, .inr (0, [.null, .int 0, .int 0]))] := hD
  refine lv_dup hx hb dX11_init_8 rfl ?_
  refine lv_sipush (v := 3000) hx hb dX11_init_9 (by decide) ?_
  refine lv_topi (fun x ex => ?_)
  obtain rfl : x = nI 3000 := ex.trans (by decide)
  have hPc := hP.sub (ws' := [(q_1, .inr (0, [.null, .int 0, .int 0]))]) [1] rfl
  have hDc := hD.sub (ws' := [(q_1, .inr (0, [.null, .int 0, .int 0]))]) [1] (by decide) rfl
  have hKc := hK.sub (tys' := []) [] rfl
  have hFc := va_free (wc := [(q_1, .inr (0, [.null, .int 0, .int 0]))]) hD hS hA [1] rfl
  refine va_callv (va_runI (As := [.int (nI 3000)]) (rest := [.ref q_1, .ref h0]) ⟨hx, hb, hml, hown, hts⟩ (c_X0_init l dC dI H.size q_1 3000 (by omega)) ⟨callB_of 1 hts (gi kt_11) rfl rfl rfl (hts _ kt_10) (hts _ kt_131) (by decide +kernel) ⟨Nat.le_of_ble_eq_true rfl, Nat.le_of_ble_eq_true rfl⟩, rfl, (hts _ kt_13)⟩ ⟨fun a U g mk q => ⟨q.1, PW.calling q.2⟩, fun U hU hW => ⟨rfl, PW.mk hU hW hPc hKc hDc hE⟩⟩ rfl rfl hl.1 rfl (lv_room (Nat.le_of_ble_eq_true rfl)) dX11_init_12 ⟨by show _ + 1 ≤ 320; omega, by show _ + 3000 ≤ 55808; omega⟩) hS (fun q _ h => hFc q h) hFc (fun u t H1 locs ht hvm hw hB hz1 hk1 hS => ?_)
  obtain ⟨q_3, cA_4, hB1⟩ := hB
  obtain ⟨hP, hD, hK⟩ := QW.join (wr := [(h0, .inr (11, [.null, .null, .null, .null, .null, .null, .null, .null, .null]))]) hP hD hK [1] [0] rfl rfl (by decide) (by decide) hk1 hFc ht hvm hB1
  generalize H1 = H at hP hS ⊢
  have hK : va_K (dC, dI) vwCl [(cA_4, .int)] s := hK.sub [0] rfl
  have hP : va_P (dC, dI) vwCl [(h0, .inr (11, [.null, .null, .null, .null, .null, .null, .null, .null, .null])), (q_1, .inr (0, [.ref q_3, .int 0, .int 0])), (q_3, .inl (cA_4, 3000, .inl (fun _ => 0)))] H := hP
  have hD : va_D A [(h0, .inr (11, [.null, .null, .null, .null, .null, .null, .null, .null, .null])), (q_1, .inr (0, [.ref q_3, .int 0, .int 0])), (q_3, .inl (cA_4, 3000, .inl (fun _ => 0)))] := hD
  refine va_putF (D := (dC, dI)) (ci := 11) (v := .ref q_1) (ty := .object "PostGate$Bytes") (C := RX11) (T := TX11) (N := 9) hx hb hts it_11 tyX11 tyX11_ok nmX11 hown hK hP hD hS 0 rfl rfl 0 (by decide) (hts _ kt_132) (fun _ h9 => h9) rfl hin rfl (by decide +kernel) rfl rfl (Nat.le_of_ble_eq_true rfl) dX11_init_15 (fun H locs hP hD hS => ?_)
  have hP : va_P (dC, dI) vwCl [(h0, .inr (11, [.ref q_1, .null, .null, .null, .null, .null, .null, .null, .null])), (q_1, .inr (0, [.ref q_3, .int 0, .int 0])), (q_3, .inl (cA_4, 3000, .inl (fun _ => 0)))] H := hP
  have hD : va_D A [(h0, .inr (11, [.ref q_1, .null, .null, .null, .null, .null, .null, .null, .null])), (q_1, .inr (0, [.ref q_3, .int 0, .int 0])), (q_3, .inl (cA_4, 3000, .inl (fun _ => 0)))] := hD
  refine lv_aload_n hx hb dX11_init_18 rfl (lv_at hl 0 rfl) ?_
  refine va_new (ci := 0) (fs := [.null, .int 0, .int 0]) (C := RX0) (T := TX0) (N := 3) hx hb hts it_0 tyX0 tyX0_ok hown (hts _ kt_130) (hts _ kt_9) (hts _ kt_10) hK hP hD hS hA rfl df_0 (by show _ + 1 ≤ 320; omega) (by show _ + 3 ≤ 55808; omega) dX11_init_19 (fun q_5 H hP hD hS => ?_)
  have hP : va_P (dC, dI) vwCl [(h0, .inr (11, [.ref q_1, .null, .null, .null, .null, .null, .null, .null, .null])), (q_1, .inr (0, [.ref q_3, .int 0, .int 0])), (q_3, .inl (cA_4, 3000, .inl (fun _ => 0))), (q_5, .inr (0, [.null, .int 0, .int 0]))] H := hP
  have hD : va_D A [(h0, .inr (11, [.ref q_1, .null, .null, .null, .null, .null, .null, .null, .null])), (q_1, .inr (0, [.ref q_3, .int 0, .int 0])), (q_3, .inl (cA_4, 3000, .inl (fun _ => 0))), (q_5, .inr (0, [.null, .int 0, .int 0]))] := hD
  refine lv_dup hx hb dX11_init_22 rfl ?_
  refine lv_sipush (v := 3000) hx hb dX11_init_23 (by decide) ?_
  refine lv_topi (fun x ex => ?_)
  obtain rfl : x = nI 3000 := ex.trans (by decide)
  have hPc := hP.sub (ws' := [(q_5, .inr (0, [.null, .int 0, .int 0]))]) [3] rfl
  have hDc := hD.sub (ws' := [(q_5, .inr (0, [.null, .int 0, .int 0]))]) [3] (by decide) rfl
  have hKc := hK.sub (tys' := []) [] rfl
  have hFc := va_free (wc := [(q_5, .inr (0, [.null, .int 0, .int 0]))]) hD hS hA [3] rfl
  refine va_callv (va_runI (As := [.int (nI 3000)]) (rest := [.ref q_5, .ref h0]) ⟨hx, hb, hml, hown, hts⟩ (c_X0_init l dC dI H.size q_5 3000 (by omega)) ⟨callB_of 1 hts (gi kt_11) rfl rfl rfl (hts _ kt_10) (hts _ kt_131) (by decide +kernel) ⟨Nat.le_of_ble_eq_true rfl, Nat.le_of_ble_eq_true rfl⟩, rfl, (hts _ kt_13)⟩ ⟨fun a U g mk q => ⟨q.1, PW.calling q.2⟩, fun U hU hW => ⟨rfl, PW.mk hU hW hPc hKc hDc hE⟩⟩ rfl rfl hl.1 rfl (lv_room (Nat.le_of_ble_eq_true rfl)) dX11_init_26 ⟨by show _ + 1 ≤ 320; omega, by show _ + 3000 ≤ 55808; omega⟩) hS (fun q _ h => hFc q h) hFc (fun u t H1 locs ht hvm hw hB hz1 hk1 hS => ?_)
  obtain ⟨q_7, cA_8, hB1⟩ := hB
  obtain ⟨hP, hD, hK⟩ := QW.join (wr := [(h0, .inr (11, [.ref q_1, .null, .null, .null, .null, .null, .null, .null, .null])), (q_1, .inr (0, [.ref q_3, .int 0, .int 0])), (q_3, .inl (cA_4, 3000, .inl (fun _ => 0)))]) hP hD hK [3] [0, 1, 2] rfl rfl (by decide) (by decide) hk1 hFc ht hvm hB1
  generalize H1 = H at hP hS ⊢
  have hK : va_K (dC, dI) vwCl [(cA_4, .int), (cA_8, .int)] s := hK.sub [0, 1] rfl
  have hP : va_P (dC, dI) vwCl [(h0, .inr (11, [.ref q_1, .null, .null, .null, .null, .null, .null, .null, .null])), (q_1, .inr (0, [.ref q_3, .int 0, .int 0])), (q_3, .inl (cA_4, 3000, .inl (fun _ => 0))), (q_5, .inr (0, [.ref q_7, .int 0, .int 0])), (q_7, .inl (cA_8, 3000, .inl (fun _ => 0)))] H := hP
  have hD : va_D A [(h0, .inr (11, [.ref q_1, .null, .null, .null, .null, .null, .null, .null, .null])), (q_1, .inr (0, [.ref q_3, .int 0, .int 0])), (q_3, .inl (cA_4, 3000, .inl (fun _ => 0))), (q_5, .inr (0, [.ref q_7, .int 0, .int 0])), (q_7, .inl (cA_8, 3000, .inl (fun _ => 0)))] := hD
  refine va_putF (D := (dC, dI)) (ci := 11) (v := .ref q_5) (ty := .object "PostGate$Bytes") (C := RX11) (T := TX11) (N := 9) hx hb hts it_11 tyX11 tyX11_ok nmX11 hown hK hP hD hS 0 rfl rfl 1 (by decide) (hts _ kt_133) (fun _ h9 => h9) rfl hin rfl (by decide +kernel) rfl rfl (Nat.le_of_ble_eq_true rfl) dX11_init_29 (fun H locs hP hD hS => ?_)
  have hP : va_P (dC, dI) vwCl [(h0, .inr (11, [.ref q_1, .ref q_5, .null, .null, .null, .null, .null, .null, .null])), (q_1, .inr (0, [.ref q_3, .int 0, .int 0])), (q_3, .inl (cA_4, 3000, .inl (fun _ => 0))), (q_5, .inr (0, [.ref q_7, .int 0, .int 0])), (q_7, .inl (cA_8, 3000, .inl (fun _ => 0)))] H := hP
  have hD : va_D A [(h0, .inr (11, [.ref q_1, .ref q_5, .null, .null, .null, .null, .null, .null, .null])), (q_1, .inr (0, [.ref q_3, .int 0, .int 0])), (q_3, .inl (cA_4, 3000, .inl (fun _ => 0))), (q_5, .inr (0, [.ref q_7, .int 0, .int 0])), (q_7, .inl (cA_8, 3000, .inl (fun _ => 0)))] := hD
  refine lv_aload_n hx hb dX11_init_32 rfl (lv_at hl 0 rfl) ?_
  refine va_new (ci := 2) (fs := [.null, .int 0]) (C := RX2) (T := TX2) (N := 2) hx hb hts it_2 tyX2 tyX2_ok hown (hts _ kt_134) (hts _ kt_135) (hts _ kt_136) hK hP hD hS hA rfl df_2 (by show _ + 1 ≤ 320; omega) (by show _ + 2 ≤ 55808; omega) dX11_init_33 (fun q_9 H hP hD hS => ?_)
  have hP : va_P (dC, dI) vwCl [(h0, .inr (11, [.ref q_1, .ref q_5, .null, .null, .null, .null, .null, .null, .null])), (q_1, .inr (0, [.ref q_3, .int 0, .int 0])), (q_3, .inl (cA_4, 3000, .inl (fun _ => 0))), (q_5, .inr (0, [.ref q_7, .int 0, .int 0])), (q_7, .inl (cA_8, 3000, .inl (fun _ => 0))), (q_9, .inr (2, [.null, .int 0]))] H := hP
  have hD : va_D A [(h0, .inr (11, [.ref q_1, .ref q_5, .null, .null, .null, .null, .null, .null, .null])), (q_1, .inr (0, [.ref q_3, .int 0, .int 0])), (q_3, .inl (cA_4, 3000, .inl (fun _ => 0))), (q_5, .inr (0, [.ref q_7, .int 0, .int 0])), (q_7, .inl (cA_8, 3000, .inl (fun _ => 0))), (q_9, .inr (2, [.null, .int 0]))] := hD
  refine lv_dup hx hb dX11_init_36 rfl ?_
  have hPc := hP.sub (ws' := [(q_9, .inr (2, [.null, .int 0]))]) [5] rfl
  have hDc := hD.sub (ws' := [(q_9, .inr (2, [.null, .int 0]))]) [5] (by decide) rfl
  have hKc := hK.sub (tys' := []) [] rfl
  have hFc := va_free (wc := [(q_9, .inr (2, [.null, .int 0]))]) hD hS hA [5] rfl
  refine va_callv (va_runI (As := []) (rest := [.ref q_9, .ref h0]) ⟨hx, hb, hml, hown, hts⟩ (c_X2_init l dC dI H.size q_9 ) ⟨callB_of 0 hts (gi kt_137) rfl rfl rfl (hts _ kt_136) (hts _ kt_138) (by decide +kernel) ⟨Nat.le_of_ble_eq_true rfl, Nat.le_of_ble_eq_true rfl⟩, rfl, (hts _ kt_139)⟩ ⟨fun a U g mk q => ⟨q.1, PW.calling q.2⟩, fun U hU hW => ⟨rfl, PW.mk hU hW hPc hKc hDc hE⟩⟩ rfl rfl hl.1 rfl (lv_room (Nat.le_of_ble_eq_true rfl)) dX11_init_37 ⟨by show _ + 201 ≤ 320; omega, by show _ + 30840 ≤ 55808; omega⟩) hS (fun q _ h => hFc q h) hFc (fun u t H1 locs ht hvm hw hB hz1 hk1 hS => ?_)
  obtain ⟨q_11, hB1⟩ := hB
  obtain ⟨hP, hD, hK⟩ := QW.join (wr := [(h0, .inr (11, [.ref q_1, .ref q_5, .null, .null, .null, .null, .null, .null, .null])), (q_1, .inr (0, [.ref q_3, .int 0, .int 0])), (q_3, .inl (cA_4, 3000, .inl (fun _ => 0))), (q_5, .inr (0, [.ref q_7, .int 0, .int 0])), (q_7, .inl (cA_8, 3000, .inl (fun _ => 0)))]) hP hD hK [5] [0, 1, 2, 3, 4] rfl rfl (by decide) (by decide) hk1 hFc ht hvm hB1
  generalize H1 = H at hP hS ⊢
  have hK : va_K (dC, dI) vwCl [(cA_4, .int), (cA_8, .int)] s := hK.sub [0, 1] rfl
  have hP : va_P (dC, dI) vwCl [(h0, .inr (11, [.ref q_1, .ref q_5, .null, .null, .null, .null, .null, .null, .null])), (q_1, .inr (0, [.ref q_3, .int 0, .int 0])), (q_3, .inl (cA_4, 3000, .inl (fun _ => 0))), (q_5, .inr (0, [.ref q_7, .int 0, .int 0])), (q_7, .inl (cA_8, 3000, .inl (fun _ => 0))), (q_9, .inr (2, [.ref q_11, .int 0]))] H := hP
  have hD : va_D A [(h0, .inr (11, [.ref q_1, .ref q_5, .null, .null, .null, .null, .null, .null, .null])), (q_1, .inr (0, [.ref q_3, .int 0, .int 0])), (q_3, .inl (cA_4, 3000, .inl (fun _ => 0))), (q_5, .inr (0, [.ref q_7, .int 0, .int 0])), (q_7, .inl (cA_8, 3000, .inl (fun _ => 0))), (q_9, .inr (2, [.ref q_11, .int 0]))] := hD
  refine va_putF (D := (dC, dI)) (ci := 11) (v := .ref q_9) (ty := .object "PostGate$Directory") (C := RX11) (T := TX11) (N := 9) hx hb hts it_11 tyX11 tyX11_ok nmX11 hown hK hP hD hS 0 rfl rfl 2 (by decide) (hts _ kt_140) (fun _ h9 => h9) rfl hin rfl (by decide +kernel) rfl rfl (Nat.le_of_ble_eq_true rfl) dX11_init_40 (fun H locs hP hD hS => ?_)
  have hP : va_P (dC, dI) vwCl [(h0, .inr (11, [.ref q_1, .ref q_5, .ref q_9, .null, .null, .null, .null, .null, .null])), (q_1, .inr (0, [.ref q_3, .int 0, .int 0])), (q_3, .inl (cA_4, 3000, .inl (fun _ => 0))), (q_5, .inr (0, [.ref q_7, .int 0, .int 0])), (q_7, .inl (cA_8, 3000, .inl (fun _ => 0))), (q_9, .inr (2, [.ref q_11, .int 0]))] H := hP
  have hD : va_D A [(h0, .inr (11, [.ref q_1, .ref q_5, .ref q_9, .null, .null, .null, .null, .null, .null])), (q_1, .inr (0, [.ref q_3, .int 0, .int 0])), (q_3, .inl (cA_4, 3000, .inl (fun _ => 0))), (q_5, .inr (0, [.ref q_7, .int 0, .int 0])), (q_7, .inl (cA_8, 3000, .inl (fun _ => 0))), (q_9, .inr (2, [.ref q_11, .int 0]))] := hD
  refine lv_aload_n hx hb dX11_init_43 rfl (lv_at hl 0 rfl) ?_
  refine va_new (ci := 1) (fs := [.null, .null, .null, .null, .null, .null, .null, .int 0, .int 0, .int 0, .int 0]) (C := RX1) (T := TX1) (N := 11) hx hb hts it_1 tyX1 tyX1_ok hown (hts _ kt_141) (hts _ kt_142) (hts _ kt_143) hK hP hD hS hA rfl df_1 (by show _ + 1 ≤ 320; omega) (by show _ + 11 ≤ 55808; omega) dX11_init_44 (fun q_12 H hP hD hS => ?_)
  have hP : va_P (dC, dI) vwCl [(h0, .inr (11, [.ref q_1, .ref q_5, .ref q_9, .null, .null, .null, .null, .null, .null])), (q_1, .inr (0, [.ref q_3, .int 0, .int 0])), (q_3, .inl (cA_4, 3000, .inl (fun _ => 0))), (q_5, .inr (0, [.ref q_7, .int 0, .int 0])), (q_7, .inl (cA_8, 3000, .inl (fun _ => 0))), (q_9, .inr (2, [.ref q_11, .int 0])), (q_12, .inr (1, [.null, .null, .null, .null, .null, .null, .null, .int 0, .int 0, .int 0, .int 0]))] H := hP
  have hD : va_D A [(h0, .inr (11, [.ref q_1, .ref q_5, .ref q_9, .null, .null, .null, .null, .null, .null])), (q_1, .inr (0, [.ref q_3, .int 0, .int 0])), (q_3, .inl (cA_4, 3000, .inl (fun _ => 0))), (q_5, .inr (0, [.ref q_7, .int 0, .int 0])), (q_7, .inl (cA_8, 3000, .inl (fun _ => 0))), (q_9, .inr (2, [.ref q_11, .int 0])), (q_12, .inr (1, [.null, .null, .null, .null, .null, .null, .null, .int 0, .int 0, .int 0, .int 0]))] := hD
  refine lv_dup hx hb dX11_init_47 rfl ?_
  refine lv_aload_n hx hb dX11_init_48 rfl (lv_at hl 0 rfl) ?_
  refine va_get (D := (dC, dI)) (ci := 11) (v := .ref q_9) (C := RX11) (T := TX11) (N := 9) hx hb hts it_11 hown hK hP 0 rfl rfl 2 (by decide) (hts _ kt_140) (fun _ h9 => h9) rfl dX11_init_49 ?_
  have hPc := hP.sub (ws' := [(q_12, .inr (1, [.null, .null, .null, .null, .null, .null, .null, .int 0, .int 0, .int 0, .int 0]))]) [6] rfl
  have hDc := hD.sub (ws' := [(q_12, .inr (1, [.null, .null, .null, .null, .null, .null, .null, .int 0, .int 0, .int 0, .int 0]))]) [6] (by decide) rfl
  have hKc := hK.sub (tys' := []) [] rfl
  have hFc := va_free (wc := [(q_12, .inr (1, [.null, .null, .null, .null, .null, .null, .null, .int 0, .int 0, .int 0, .int 0]))]) hD hS hA [6] rfl
  refine va_callv (va_runI (As := [.ref q_9]) (rest := [.ref q_12, .ref h0]) ⟨hx, hb, hml, hown, hts⟩ (c_X1_init l dC dI H.size q_12 q_9 ) ⟨callB_of 1 hts (gi kt_144) rfl rfl rfl (hts _ kt_143) (hts _ kt_145) (by decide +kernel) ⟨Nat.le_of_ble_eq_true rfl, Nat.le_of_ble_eq_true rfl⟩, rfl, (hts _ kt_146)⟩ ⟨fun a U g mk q => ⟨q.1, PW.calling q.2⟩, fun U hU hW => ⟨rfl, PW.mk hU hW hPc hKc hDc hE⟩⟩ rfl rfl hl.1 rfl (lv_room (Nat.le_of_ble_eq_true rfl)) dX11_init_52 ⟨by show _ + 45 ≤ 320; omega, by show _ + 1053 ≤ 55808; omega⟩) hS (fun q _ h => hFc q h) hFc (fun u t H1 locs ht hvm hw hB hz1 hk1 hS => ?_)
  obtain ⟨q1_14, q2_15, q3_16, q4_17, q5_18, q6_19, hB1⟩ := hB
  obtain ⟨hP, hD, hK⟩ := QW.join (wr := [(h0, .inr (11, [.ref q_1, .ref q_5, .ref q_9, .null, .null, .null, .null, .null, .null])), (q_1, .inr (0, [.ref q_3, .int 0, .int 0])), (q_3, .inl (cA_4, 3000, .inl (fun _ => 0))), (q_5, .inr (0, [.ref q_7, .int 0, .int 0])), (q_7, .inl (cA_8, 3000, .inl (fun _ => 0))), (q_9, .inr (2, [.ref q_11, .int 0]))]) hP hD hK [6] [0, 1, 2, 3, 4, 5] rfl rfl (by decide) (by decide) hk1 hFc ht hvm hB1
  generalize H1 = H at hP hS ⊢
  have hK : va_K (dC, dI) vwCl [(cA_4, .int), (cA_8, .int)] s := hK.sub [0, 1] rfl
  have hP : va_P (dC, dI) vwCl [(h0, .inr (11, [.ref q_1, .ref q_5, .ref q_9, .null, .null, .null, .null, .null, .null])), (q_1, .inr (0, [.ref q_3, .int 0, .int 0])), (q_3, .inl (cA_4, 3000, .inl (fun _ => 0))), (q_5, .inr (0, [.ref q_7, .int 0, .int 0])), (q_7, .inl (cA_8, 3000, .inl (fun _ => 0))), (q_9, .inr (2, [.ref q_11, .int 0])), (q_12, .inr (1, [.ref q_9, .ref q1_14, .ref q2_15, .ref q3_16, .ref q4_17, .ref q5_18, .ref q6_19, .int 0, .int 0, .int 0, .int 0]))] H := hP
  have hD : va_D A [(h0, .inr (11, [.ref q_1, .ref q_5, .ref q_9, .null, .null, .null, .null, .null, .null])), (q_1, .inr (0, [.ref q_3, .int 0, .int 0])), (q_3, .inl (cA_4, 3000, .inl (fun _ => 0))), (q_5, .inr (0, [.ref q_7, .int 0, .int 0])), (q_7, .inl (cA_8, 3000, .inl (fun _ => 0))), (q_9, .inr (2, [.ref q_11, .int 0])), (q_12, .inr (1, [.ref q_9, .ref q1_14, .ref q2_15, .ref q3_16, .ref q4_17, .ref q5_18, .ref q6_19, .int 0, .int 0, .int 0, .int 0]))] := hD
  refine va_putF (D := (dC, dI)) (ci := 11) (v := .ref q_12) (ty := .object "PostGate$Checker") (C := RX11) (T := TX11) (N := 9) hx hb hts it_11 tyX11 tyX11_ok nmX11 hown hK hP hD hS 0 rfl rfl 3 (by decide) (hts _ kt_147) (fun _ h9 => h9) rfl hin rfl (by decide +kernel) rfl rfl (Nat.le_of_ble_eq_true rfl) dX11_init_55 (fun H locs hP hD hS => ?_)
  have hP : va_P (dC, dI) vwCl [(h0, .inr (11, [.ref q_1, .ref q_5, .ref q_9, .ref q_12, .null, .null, .null, .null, .null])), (q_1, .inr (0, [.ref q_3, .int 0, .int 0])), (q_3, .inl (cA_4, 3000, .inl (fun _ => 0))), (q_5, .inr (0, [.ref q_7, .int 0, .int 0])), (q_7, .inl (cA_8, 3000, .inl (fun _ => 0))), (q_9, .inr (2, [.ref q_11, .int 0])), (q_12, .inr (1, [.ref q_9, .ref q1_14, .ref q2_15, .ref q3_16, .ref q4_17, .ref q5_18, .ref q6_19, .int 0, .int 0, .int 0, .int 0]))] H := hP
  have hD : va_D A [(h0, .inr (11, [.ref q_1, .ref q_5, .ref q_9, .ref q_12, .null, .null, .null, .null, .null])), (q_1, .inr (0, [.ref q_3, .int 0, .int 0])), (q_3, .inl (cA_4, 3000, .inl (fun _ => 0))), (q_5, .inr (0, [.ref q_7, .int 0, .int 0])), (q_7, .inl (cA_8, 3000, .inl (fun _ => 0))), (q_9, .inr (2, [.ref q_11, .int 0])), (q_12, .inr (1, [.ref q_9, .ref q1_14, .ref q2_15, .ref q3_16, .ref q4_17, .ref q5_18, .ref q6_19, .int 0, .int 0, .int 0, .int 0]))] := hD
  refine lv_aload_n hx hb dX11_init_58 rfl (lv_at hl 0 rfl) ?_
  refine va_new (ci := 7) (fs := [.null, .null, .null, .null, .null, .null, .null, .null, .null, .null, .null, .null, .null, .null, .null, .int 0, .int 0]) (C := RX7) (T := TX7) (N := 17) hx hb hts it_7 tyX7 tyX7_ok hown (hts _ kt_148) (hts _ kt_149) (hts _ kt_150) hK hP hD hS hA rfl df_7 (by show _ + 1 ≤ 320; omega) (by show _ + 17 ≤ 55808; omega) dX11_init_59 (fun q_20 H hP hD hS => ?_)
  have hP : va_P (dC, dI) vwCl [(h0, .inr (11, [.ref q_1, .ref q_5, .ref q_9, .ref q_12, .null, .null, .null, .null, .null])), (q_1, .inr (0, [.ref q_3, .int 0, .int 0])), (q_3, .inl (cA_4, 3000, .inl (fun _ => 0))), (q_5, .inr (0, [.ref q_7, .int 0, .int 0])), (q_7, .inl (cA_8, 3000, .inl (fun _ => 0))), (q_9, .inr (2, [.ref q_11, .int 0])), (q_12, .inr (1, [.ref q_9, .ref q1_14, .ref q2_15, .ref q3_16, .ref q4_17, .ref q5_18, .ref q6_19, .int 0, .int 0, .int 0, .int 0])), (q_20, .inr (7, [.null, .null, .null, .null, .null, .null, .null, .null, .null, .null, .null, .null, .null, .null, .null, .int 0, .int 0]))] H := hP
  have hD : va_D A [(h0, .inr (11, [.ref q_1, .ref q_5, .ref q_9, .ref q_12, .null, .null, .null, .null, .null])), (q_1, .inr (0, [.ref q_3, .int 0, .int 0])), (q_3, .inl (cA_4, 3000, .inl (fun _ => 0))), (q_5, .inr (0, [.ref q_7, .int 0, .int 0])), (q_7, .inl (cA_8, 3000, .inl (fun _ => 0))), (q_9, .inr (2, [.ref q_11, .int 0])), (q_12, .inr (1, [.ref q_9, .ref q1_14, .ref q2_15, .ref q3_16, .ref q4_17, .ref q5_18, .ref q6_19, .int 0, .int 0, .int 0, .int 0])), (q_20, .inr (7, [.null, .null, .null, .null, .null, .null, .null, .null, .null, .null, .null, .null, .null, .null, .null, .int 0, .int 0]))] := hD
  refine lv_dup hx hb dX11_init_62 rfl ?_
  refine lv_aload_n hx hb dX11_init_63 rfl (lv_at hl 0 rfl) ?_
  refine va_get (D := (dC, dI)) (ci := 11) (v := .ref q_9) (C := RX11) (T := TX11) (N := 9) hx hb hts it_11 hown hK hP 0 rfl rfl 2 (by decide) (hts _ kt_140) (fun _ h9 => h9) rfl dX11_init_64 ?_
  have hPc := hP.sub (ws' := [(q_20, .inr (7, [.null, .null, .null, .null, .null, .null, .null, .null, .null, .null, .null, .null, .null, .null, .null, .int 0, .int 0]))]) [7] rfl
  have hDc := hD.sub (ws' := [(q_20, .inr (7, [.null, .null, .null, .null, .null, .null, .null, .null, .null, .null, .null, .null, .null, .null, .null, .int 0, .int 0]))]) [7] (by decide) rfl
  have hKc := hK.sub (tys' := []) [] rfl
  have hFc := va_free (wc := [(q_20, .inr (7, [.null, .null, .null, .null, .null, .null, .null, .null, .null, .null, .null, .null, .null, .null, .null, .int 0, .int 0]))]) hD hS hA [7] rfl
  refine va_callv (va_runI (As := [.ref q_9]) (rest := [.ref q_20, .ref h0]) ⟨hx, hb, hml, hown, hts⟩ (c_X7_init l dC dI H.size q_20 q_9 ) ⟨callB_of 1 hts (gi kt_151) rfl rfl rfl (hts _ kt_150) (hts _ kt_152) (by decide +kernel) ⟨Nat.le_of_ble_eq_true rfl, Nat.le_of_ble_eq_true rfl⟩, rfl, (hts _ kt_153)⟩ ⟨fun a U g mk q => ⟨q.1, PW.calling q.2⟩, fun U hU hW => ⟨rfl, PW.mk hU hW hPc hKc hDc hE⟩⟩ rfl rfl hl.1 rfl (lv_room (Nat.le_of_ble_eq_true rfl)) dX11_init_67 ⟨by show _ + 40 ≤ 320; omega, by show _ + 10697 ≤ 55808; omega⟩) hS (fun q _ h => hFc q h) hFc (fun u t H1 locs ht hvm hw hB hz1 hk1 hS => ?_)
  have hB1 := hB
  obtain ⟨hP, hD, hK⟩ := QW.join (wr := [(h0, .inr (11, [.ref q_1, .ref q_5, .ref q_9, .ref q_12, .null, .null, .null, .null, .null])), (q_1, .inr (0, [.ref q_3, .int 0, .int 0])), (q_3, .inl (cA_4, 3000, .inl (fun _ => 0))), (q_5, .inr (0, [.ref q_7, .int 0, .int 0])), (q_7, .inl (cA_8, 3000, .inl (fun _ => 0))), (q_9, .inr (2, [.ref q_11, .int 0])), (q_12, .inr (1, [.ref q_9, .ref q1_14, .ref q2_15, .ref q3_16, .ref q4_17, .ref q5_18, .ref q6_19, .int 0, .int 0, .int 0, .int 0]))]) hP hD hK [7] [0, 1, 2, 3, 4, 5, 6] rfl rfl (by decide) (by decide) hk1 hFc ht hvm hB1
  generalize H1 = H at hP hS ⊢
  have hK : va_K (dC, dI) vwCl [(cA_4, .int), (cA_8, .int)] s := hK.sub [0, 1] rfl
  have hP : va_P (dC, dI) vwCl [(h0, .inr (11, [.ref q_1, .ref q_5, .ref q_9, .ref q_12, .null, .null, .null, .null, .null])), (q_1, .inr (0, [.ref q_3, .int 0, .int 0])), (q_3, .inl (cA_4, 3000, .inl (fun _ => 0))), (q_5, .inr (0, [.ref q_7, .int 0, .int 0])), (q_7, .inl (cA_8, 3000, .inl (fun _ => 0))), (q_9, .inr (2, [.ref q_11, .int 0])), (q_12, .inr (1, [.ref q_9, .ref q1_14, .ref q2_15, .ref q3_16, .ref q4_17, .ref q5_18, .ref q6_19, .int 0, .int 0, .int 0, .int 0]))] H := hP
  have hD : va_D A [(h0, .inr (11, [.ref q_1, .ref q_5, .ref q_9, .ref q_12, .null, .null, .null, .null, .null])), (q_1, .inr (0, [.ref q_3, .int 0, .int 0])), (q_3, .inl (cA_4, 3000, .inl (fun _ => 0))), (q_5, .inr (0, [.ref q_7, .int 0, .int 0])), (q_7, .inl (cA_8, 3000, .inl (fun _ => 0))), (q_9, .inr (2, [.ref q_11, .int 0])), (q_12, .inr (1, [.ref q_9, .ref q1_14, .ref q2_15, .ref q3_16, .ref q4_17, .ref q5_18, .ref q6_19, .int 0, .int 0, .int 0, .int 0]))] := hD
  refine va_putF (D := (dC, dI)) (ci := 11) (v := .ref q_20) (ty := .object "PostGate$Sealer") (C := RX11) (T := TX11) (N := 9) hx hb hts it_11 tyX11 tyX11_ok nmX11 hown hK hP hD hS 0 rfl rfl 4 (by decide) (hts _ kt_154) (fun _ h9 => h9) rfl hin rfl (by decide +kernel) rfl rfl (Nat.le_of_ble_eq_true rfl) dX11_init_70 (fun H locs hP hD hS => ?_)
  have hP : va_P (dC, dI) vwCl [(h0, .inr (11, [.ref q_1, .ref q_5, .ref q_9, .ref q_12, .ref q_20, .null, .null, .null, .null])), (q_1, .inr (0, [.ref q_3, .int 0, .int 0])), (q_3, .inl (cA_4, 3000, .inl (fun _ => 0))), (q_5, .inr (0, [.ref q_7, .int 0, .int 0])), (q_7, .inl (cA_8, 3000, .inl (fun _ => 0))), (q_9, .inr (2, [.ref q_11, .int 0])), (q_12, .inr (1, [.ref q_9, .ref q1_14, .ref q2_15, .ref q3_16, .ref q4_17, .ref q5_18, .ref q6_19, .int 0, .int 0, .int 0, .int 0]))] H := hP
  have hD : va_D A [(h0, .inr (11, [.ref q_1, .ref q_5, .ref q_9, .ref q_12, .ref q_20, .null, .null, .null, .null])), (q_1, .inr (0, [.ref q_3, .int 0, .int 0])), (q_3, .inl (cA_4, 3000, .inl (fun _ => 0))), (q_5, .inr (0, [.ref q_7, .int 0, .int 0])), (q_7, .inl (cA_8, 3000, .inl (fun _ => 0))), (q_9, .inr (2, [.ref q_11, .int 0])), (q_12, .inr (1, [.ref q_9, .ref q1_14, .ref q2_15, .ref q3_16, .ref q4_17, .ref q5_18, .ref q6_19, .int 0, .int 0, .int 0, .int 0]))] := hD
  refine lv_aload_n hx hb dX11_init_73 rfl (lv_at hl 0 rfl) ?_
  refine va_new (ci := 5) (fs := [.null, .null, .null, .null, .int 0, .int 0, .int 0]) (C := RX5) (T := TX5) (N := 7) hx hb hts it_5 tyX5 tyX5_ok hown (hts _ kt_155) (hts _ kt_156) (hts _ kt_157) hK hP hD hS hA rfl df_5 (by show _ + 1 ≤ 320; omega) (by show _ + 7 ≤ 55808; omega) dX11_init_74 (fun q_22 H hP hD hS => ?_)
  have hP : va_P (dC, dI) vwCl [(h0, .inr (11, [.ref q_1, .ref q_5, .ref q_9, .ref q_12, .ref q_20, .null, .null, .null, .null])), (q_1, .inr (0, [.ref q_3, .int 0, .int 0])), (q_3, .inl (cA_4, 3000, .inl (fun _ => 0))), (q_5, .inr (0, [.ref q_7, .int 0, .int 0])), (q_7, .inl (cA_8, 3000, .inl (fun _ => 0))), (q_9, .inr (2, [.ref q_11, .int 0])), (q_12, .inr (1, [.ref q_9, .ref q1_14, .ref q2_15, .ref q3_16, .ref q4_17, .ref q5_18, .ref q6_19, .int 0, .int 0, .int 0, .int 0])), (q_22, .inr (5, [.null, .null, .null, .null, .int 0, .int 0, .int 0]))] H := hP
  have hD : va_D A [(h0, .inr (11, [.ref q_1, .ref q_5, .ref q_9, .ref q_12, .ref q_20, .null, .null, .null, .null])), (q_1, .inr (0, [.ref q_3, .int 0, .int 0])), (q_3, .inl (cA_4, 3000, .inl (fun _ => 0))), (q_5, .inr (0, [.ref q_7, .int 0, .int 0])), (q_7, .inl (cA_8, 3000, .inl (fun _ => 0))), (q_9, .inr (2, [.ref q_11, .int 0])), (q_12, .inr (1, [.ref q_9, .ref q1_14, .ref q2_15, .ref q3_16, .ref q4_17, .ref q5_18, .ref q6_19, .int 0, .int 0, .int 0, .int 0])), (q_22, .inr (5, [.null, .null, .null, .null, .int 0, .int 0, .int 0]))] := hD
  refine lv_dup hx hb dX11_init_77 rfl ?_
  refine lv_aload_n hx hb dX11_init_78 rfl (lv_at hl 0 rfl) ?_
  refine va_get (D := (dC, dI)) (ci := 11) (v := .ref q_9) (C := RX11) (T := TX11) (N := 9) hx hb hts it_11 hown hK hP 0 rfl rfl 2 (by decide) (hts _ kt_140) (fun _ h9 => h9) rfl dX11_init_79 ?_
  have hPc := hP.sub (ws' := [(q_22, .inr (5, [.null, .null, .null, .null, .int 0, .int 0, .int 0]))]) [7] rfl
  have hDc := hD.sub (ws' := [(q_22, .inr (5, [.null, .null, .null, .null, .int 0, .int 0, .int 0]))]) [7] (by decide) rfl
  have hKc := hK.sub (tys' := []) [] rfl
  have hFc := va_free (wc := [(q_22, .inr (5, [.null, .null, .null, .null, .int 0, .int 0, .int 0]))]) hD hS hA [7] rfl
  refine va_callv (va_runI (As := [.ref q_9]) (rest := [.ref q_22, .ref h0]) ⟨hx, hb, hml, hown, hts⟩ (c_X5_init l dC dI H.size q_22 q_9 ) ⟨callB_of 1 hts (gi kt_158) rfl rfl rfl (hts _ kt_157) (hts _ kt_159) (by decide +kernel) ⟨Nat.le_of_ble_eq_true rfl, Nat.le_of_ble_eq_true rfl⟩, rfl, (hts _ kt_160)⟩ ⟨fun a U g mk q => ⟨q.1, PW.calling q.2⟩, fun U hU hW => ⟨rfl, PW.mk hU hW hPc hKc hDc hE⟩⟩ rfl rfl hl.1 rfl (lv_room (Nat.le_of_ble_eq_true rfl)) dX11_init_82 ⟨by show _ + 10 ≤ 320; omega, by show _ + 954 ≤ 55808; omega⟩) hS (fun q _ h => hFc q h) hFc (fun u t H1 locs ht hvm hw hB hz1 hk1 hS => ?_)
  have hB1 := hB
  obtain ⟨hP, hD, hK⟩ := QW.join (wr := [(h0, .inr (11, [.ref q_1, .ref q_5, .ref q_9, .ref q_12, .ref q_20, .null, .null, .null, .null])), (q_1, .inr (0, [.ref q_3, .int 0, .int 0])), (q_3, .inl (cA_4, 3000, .inl (fun _ => 0))), (q_5, .inr (0, [.ref q_7, .int 0, .int 0])), (q_7, .inl (cA_8, 3000, .inl (fun _ => 0))), (q_9, .inr (2, [.ref q_11, .int 0])), (q_12, .inr (1, [.ref q_9, .ref q1_14, .ref q2_15, .ref q3_16, .ref q4_17, .ref q5_18, .ref q6_19, .int 0, .int 0, .int 0, .int 0]))]) hP hD hK [7] [0, 1, 2, 3, 4, 5, 6] rfl rfl (by decide) (by decide) hk1 hFc ht hvm hB1
  generalize H1 = H at hP hS ⊢
  have hK : va_K (dC, dI) vwCl [(cA_4, .int), (cA_8, .int)] s := hK.sub [0, 1] rfl
  have hP : va_P (dC, dI) vwCl [(h0, .inr (11, [.ref q_1, .ref q_5, .ref q_9, .ref q_12, .ref q_20, .null, .null, .null, .null])), (q_1, .inr (0, [.ref q_3, .int 0, .int 0])), (q_3, .inl (cA_4, 3000, .inl (fun _ => 0))), (q_5, .inr (0, [.ref q_7, .int 0, .int 0])), (q_7, .inl (cA_8, 3000, .inl (fun _ => 0))), (q_9, .inr (2, [.ref q_11, .int 0])), (q_12, .inr (1, [.ref q_9, .ref q1_14, .ref q2_15, .ref q3_16, .ref q4_17, .ref q5_18, .ref q6_19, .int 0, .int 0, .int 0, .int 0]))] H := hP
  have hD : va_D A [(h0, .inr (11, [.ref q_1, .ref q_5, .ref q_9, .ref q_12, .ref q_20, .null, .null, .null, .null])), (q_1, .inr (0, [.ref q_3, .int 0, .int 0])), (q_3, .inl (cA_4, 3000, .inl (fun _ => 0))), (q_5, .inr (0, [.ref q_7, .int 0, .int 0])), (q_7, .inl (cA_8, 3000, .inl (fun _ => 0))), (q_9, .inr (2, [.ref q_11, .int 0])), (q_12, .inr (1, [.ref q_9, .ref q1_14, .ref q2_15, .ref q3_16, .ref q4_17, .ref q5_18, .ref q6_19, .int 0, .int 0, .int 0, .int 0]))] := hD
  refine va_putF (D := (dC, dI)) (ci := 11) (v := .ref q_22) (ty := .object "PostGate$Policy") (C := RX11) (T := TX11) (N := 9) hx hb hts it_11 tyX11 tyX11_ok nmX11 hown hK hP hD hS 0 rfl rfl 5 (by decide) (hts _ kt_161) (fun _ h9 => h9) rfl hin rfl (by decide +kernel) rfl rfl (Nat.le_of_ble_eq_true rfl) dX11_init_85 (fun H locs hP hD hS => ?_)
  have hP : va_P (dC, dI) vwCl [(h0, .inr (11, [.ref q_1, .ref q_5, .ref q_9, .ref q_12, .ref q_20, .ref q_22, .null, .null, .null])), (q_1, .inr (0, [.ref q_3, .int 0, .int 0])), (q_3, .inl (cA_4, 3000, .inl (fun _ => 0))), (q_5, .inr (0, [.ref q_7, .int 0, .int 0])), (q_7, .inl (cA_8, 3000, .inl (fun _ => 0))), (q_9, .inr (2, [.ref q_11, .int 0])), (q_12, .inr (1, [.ref q_9, .ref q1_14, .ref q2_15, .ref q3_16, .ref q4_17, .ref q5_18, .ref q6_19, .int 0, .int 0, .int 0, .int 0]))] H := hP
  have hD : va_D A [(h0, .inr (11, [.ref q_1, .ref q_5, .ref q_9, .ref q_12, .ref q_20, .ref q_22, .null, .null, .null])), (q_1, .inr (0, [.ref q_3, .int 0, .int 0])), (q_3, .inl (cA_4, 3000, .inl (fun _ => 0))), (q_5, .inr (0, [.ref q_7, .int 0, .int 0])), (q_7, .inl (cA_8, 3000, .inl (fun _ => 0))), (q_9, .inr (2, [.ref q_11, .int 0])), (q_12, .inr (1, [.ref q_9, .ref q1_14, .ref q2_15, .ref q3_16, .ref q4_17, .ref q5_18, .ref q6_19, .int 0, .int 0, .int 0, .int 0]))] := hD
  refine lv_aload_n hx hb dX11_init_88 rfl (lv_at hl 0 rfl) ?_
  refine va_new (ci := 8) (fs := [.null, .null, .null]) (C := RX8) (T := TX8) (N := 3) hx hb hts it_8 tyX8 tyX8_ok hown (hts _ kt_162) (hts _ kt_115) (hts _ kt_116) hK hP hD hS hA rfl df_8 (by show _ + 1 ≤ 320; omega) (by show _ + 3 ≤ 55808; omega) dX11_init_89 (fun q_24 H hP hD hS => ?_)
  have hP : va_P (dC, dI) vwCl [(h0, .inr (11, [.ref q_1, .ref q_5, .ref q_9, .ref q_12, .ref q_20, .ref q_22, .null, .null, .null])), (q_1, .inr (0, [.ref q_3, .int 0, .int 0])), (q_3, .inl (cA_4, 3000, .inl (fun _ => 0))), (q_5, .inr (0, [.ref q_7, .int 0, .int 0])), (q_7, .inl (cA_8, 3000, .inl (fun _ => 0))), (q_9, .inr (2, [.ref q_11, .int 0])), (q_12, .inr (1, [.ref q_9, .ref q1_14, .ref q2_15, .ref q3_16, .ref q4_17, .ref q5_18, .ref q6_19, .int 0, .int 0, .int 0, .int 0])), (q_24, .inr (8, [.null, .null, .null]))] H := hP
  have hD : va_D A [(h0, .inr (11, [.ref q_1, .ref q_5, .ref q_9, .ref q_12, .ref q_20, .ref q_22, .null, .null, .null])), (q_1, .inr (0, [.ref q_3, .int 0, .int 0])), (q_3, .inl (cA_4, 3000, .inl (fun _ => 0))), (q_5, .inr (0, [.ref q_7, .int 0, .int 0])), (q_7, .inl (cA_8, 3000, .inl (fun _ => 0))), (q_9, .inr (2, [.ref q_11, .int 0])), (q_12, .inr (1, [.ref q_9, .ref q1_14, .ref q2_15, .ref q3_16, .ref q4_17, .ref q5_18, .ref q6_19, .int 0, .int 0, .int 0, .int 0])), (q_24, .inr (8, [.null, .null, .null]))] := hD
  refine lv_dup hx hb dX11_init_92 rfl ?_
  have hPc := hP.sub (ws' := [(q_24, .inr (8, [.null, .null, .null]))]) [7] rfl
  have hDc := hD.sub (ws' := [(q_24, .inr (8, [.null, .null, .null]))]) [7] (by decide) rfl
  have hKc := hK.sub (tys' := []) [] rfl
  have hFc := va_free (wc := [(q_24, .inr (8, [.null, .null, .null]))]) hD hS hA [7] rfl
  refine va_callv (va_runIN (As := []) (rest := [.ref q_24, .ref h0]) ⟨hx, hb, hml, hown, hts⟩ (c_X8_init l dC dI H.size q_24 ) ⟨va_cnB 0 hts (gi kt_117) rfl rfl rfl (hE.nestw kn_4) (hts _ kt_116) (by decide +kernel) ⟨Nat.le_of_ble_eq_true rfl, Nat.le_of_ble_eq_true rfl⟩, rfl, (hts _ kt_118)⟩ ⟨fun a U g mk q => ⟨q.1, PW.calling q.2⟩, fun U hU hW => ⟨rfl, PW.mk hU hW hPc hKc hDc hE⟩⟩ rfl rfl hl.1 rfl (lv_room (Nat.le_of_ble_eq_true rfl)) dX11_init_93 ⟨by show _ + 3 ≤ 320; omega, by show _ + 80 ≤ 55808; omega⟩) hS (fun q _ h => hFc q h) hFc (fun u t H1 locs ht hvm hw hB hz1 hk1 hS => ?_)
  obtain ⟨qw_26, qs_27, qt_28, cw_29, cs_30, ct_31, hB1⟩ := hB
  obtain ⟨hP, hD, hK⟩ := QW.join (wr := [(h0, .inr (11, [.ref q_1, .ref q_5, .ref q_9, .ref q_12, .ref q_20, .ref q_22, .null, .null, .null])), (q_1, .inr (0, [.ref q_3, .int 0, .int 0])), (q_3, .inl (cA_4, 3000, .inl (fun _ => 0))), (q_5, .inr (0, [.ref q_7, .int 0, .int 0])), (q_7, .inl (cA_8, 3000, .inl (fun _ => 0))), (q_9, .inr (2, [.ref q_11, .int 0])), (q_12, .inr (1, [.ref q_9, .ref q1_14, .ref q2_15, .ref q3_16, .ref q4_17, .ref q5_18, .ref q6_19, .int 0, .int 0, .int 0, .int 0]))]) hP hD hK [7] [0, 1, 2, 3, 4, 5, 6] rfl rfl (by decide) (by decide) hk1 hFc ht hvm hB1
  generalize H1 = H at hP hS ⊢
  have hK : va_K (dC, dI) vwCl [(cA_4, .int), (cA_8, .int), (cw_29, .int), (cs_30, .int), (ct_31, .int)] s := hK.sub [0, 1, 2, 3, 4] rfl
  have hP : va_P (dC, dI) vwCl [(h0, .inr (11, [.ref q_1, .ref q_5, .ref q_9, .ref q_12, .ref q_20, .ref q_22, .null, .null, .null])), (q_1, .inr (0, [.ref q_3, .int 0, .int 0])), (q_3, .inl (cA_4, 3000, .inl (fun _ => 0))), (q_5, .inr (0, [.ref q_7, .int 0, .int 0])), (q_7, .inl (cA_8, 3000, .inl (fun _ => 0))), (q_9, .inr (2, [.ref q_11, .int 0])), (q_12, .inr (1, [.ref q_9, .ref q1_14, .ref q2_15, .ref q3_16, .ref q4_17, .ref q5_18, .ref q6_19, .int 0, .int 0, .int 0, .int 0])), (q_24, .inr (8, [.ref qw_26, .ref qs_27, .ref qt_28])), (qw_26, .inl (cw_29, 64, .inl (fun _ => 0))), (qs_27, .inl (cs_30, 8, .inl (fun _ => 0))), (qt_28, .inl (ct_31, 8, .inl (fun _ => 0)))] H := hP
  have hD : va_D A [(h0, .inr (11, [.ref q_1, .ref q_5, .ref q_9, .ref q_12, .ref q_20, .ref q_22, .null, .null, .null])), (q_1, .inr (0, [.ref q_3, .int 0, .int 0])), (q_3, .inl (cA_4, 3000, .inl (fun _ => 0))), (q_5, .inr (0, [.ref q_7, .int 0, .int 0])), (q_7, .inl (cA_8, 3000, .inl (fun _ => 0))), (q_9, .inr (2, [.ref q_11, .int 0])), (q_12, .inr (1, [.ref q_9, .ref q1_14, .ref q2_15, .ref q3_16, .ref q4_17, .ref q5_18, .ref q6_19, .int 0, .int 0, .int 0, .int 0])), (q_24, .inr (8, [.ref qw_26, .ref qs_27, .ref qt_28])), (qw_26, .inl (cw_29, 64, .inl (fun _ => 0))), (qs_27, .inl (cs_30, 8, .inl (fun _ => 0))), (qt_28, .inl (ct_31, 8, .inl (fun _ => 0)))] := hD
  refine va_putF (D := (dC, dI)) (ci := 11) (v := .ref q_24) (ty := .object "PostGate$Sha") (C := RX11) (T := TX11) (N := 9) hx hb hts it_11 tyX11 tyX11_ok nmX11 hown hK hP hD hS 0 rfl rfl 6 (by decide) (hts _ kt_163) (fun _ h9 => h9) rfl hin rfl (by decide +kernel) rfl rfl (Nat.le_of_ble_eq_true rfl) dX11_init_96 (fun H locs hP hD hS => ?_)
  have hP : va_P (dC, dI) vwCl [(h0, .inr (11, [.ref q_1, .ref q_5, .ref q_9, .ref q_12, .ref q_20, .ref q_22, .ref q_24, .null, .null])), (q_1, .inr (0, [.ref q_3, .int 0, .int 0])), (q_3, .inl (cA_4, 3000, .inl (fun _ => 0))), (q_5, .inr (0, [.ref q_7, .int 0, .int 0])), (q_7, .inl (cA_8, 3000, .inl (fun _ => 0))), (q_9, .inr (2, [.ref q_11, .int 0])), (q_12, .inr (1, [.ref q_9, .ref q1_14, .ref q2_15, .ref q3_16, .ref q4_17, .ref q5_18, .ref q6_19, .int 0, .int 0, .int 0, .int 0])), (q_24, .inr (8, [.ref qw_26, .ref qs_27, .ref qt_28])), (qw_26, .inl (cw_29, 64, .inl (fun _ => 0))), (qs_27, .inl (cs_30, 8, .inl (fun _ => 0))), (qt_28, .inl (ct_31, 8, .inl (fun _ => 0)))] H := hP
  have hD : va_D A [(h0, .inr (11, [.ref q_1, .ref q_5, .ref q_9, .ref q_12, .ref q_20, .ref q_22, .ref q_24, .null, .null])), (q_1, .inr (0, [.ref q_3, .int 0, .int 0])), (q_3, .inl (cA_4, 3000, .inl (fun _ => 0))), (q_5, .inr (0, [.ref q_7, .int 0, .int 0])), (q_7, .inl (cA_8, 3000, .inl (fun _ => 0))), (q_9, .inr (2, [.ref q_11, .int 0])), (q_12, .inr (1, [.ref q_9, .ref q1_14, .ref q2_15, .ref q3_16, .ref q4_17, .ref q5_18, .ref q6_19, .int 0, .int 0, .int 0, .int 0])), (q_24, .inr (8, [.ref qw_26, .ref qs_27, .ref qt_28])), (qw_26, .inl (cw_29, 64, .inl (fun _ => 0))), (qs_27, .inl (cs_30, 8, .inl (fun _ => 0))), (qt_28, .inl (ct_31, 8, .inl (fun _ => 0)))] := hD
  refine lv_aload_n hx hb dX11_init_99 rfl (lv_at hl 0 rfl) ?_
  refine va_new (ci := 4) (fs := [.null, .null, .null, .null, .int 0, .int 0]) (C := RX4) (T := TX4) (N := 6) hx hb hts it_4 tyX4 tyX4_ok hown (hts _ kt_164) (hts _ kt_165) (hts _ kt_166) hK hP hD hS hA rfl df_4 (by show _ + 1 ≤ 320; omega) (by show _ + 6 ≤ 55808; omega) dX11_init_100 (fun q_32 H hP hD hS => ?_)
  have hP : va_P (dC, dI) vwCl [(h0, .inr (11, [.ref q_1, .ref q_5, .ref q_9, .ref q_12, .ref q_20, .ref q_22, .ref q_24, .null, .null])), (q_1, .inr (0, [.ref q_3, .int 0, .int 0])), (q_3, .inl (cA_4, 3000, .inl (fun _ => 0))), (q_5, .inr (0, [.ref q_7, .int 0, .int 0])), (q_7, .inl (cA_8, 3000, .inl (fun _ => 0))), (q_9, .inr (2, [.ref q_11, .int 0])), (q_12, .inr (1, [.ref q_9, .ref q1_14, .ref q2_15, .ref q3_16, .ref q4_17, .ref q5_18, .ref q6_19, .int 0, .int 0, .int 0, .int 0])), (q_24, .inr (8, [.ref qw_26, .ref qs_27, .ref qt_28])), (qw_26, .inl (cw_29, 64, .inl (fun _ => 0))), (qs_27, .inl (cs_30, 8, .inl (fun _ => 0))), (qt_28, .inl (ct_31, 8, .inl (fun _ => 0))), (q_32, .inr (4, [.null, .null, .null, .null, .int 0, .int 0]))] H := hP
  have hD : va_D A [(h0, .inr (11, [.ref q_1, .ref q_5, .ref q_9, .ref q_12, .ref q_20, .ref q_22, .ref q_24, .null, .null])), (q_1, .inr (0, [.ref q_3, .int 0, .int 0])), (q_3, .inl (cA_4, 3000, .inl (fun _ => 0))), (q_5, .inr (0, [.ref q_7, .int 0, .int 0])), (q_7, .inl (cA_8, 3000, .inl (fun _ => 0))), (q_9, .inr (2, [.ref q_11, .int 0])), (q_12, .inr (1, [.ref q_9, .ref q1_14, .ref q2_15, .ref q3_16, .ref q4_17, .ref q5_18, .ref q6_19, .int 0, .int 0, .int 0, .int 0])), (q_24, .inr (8, [.ref qw_26, .ref qs_27, .ref qt_28])), (qw_26, .inl (cw_29, 64, .inl (fun _ => 0))), (qs_27, .inl (cs_30, 8, .inl (fun _ => 0))), (qt_28, .inl (ct_31, 8, .inl (fun _ => 0))), (q_32, .inr (4, [.null, .null, .null, .null, .int 0, .int 0]))] := hD
  refine lv_dup hx hb dX11_init_103 rfl ?_
  have hPc := hP.sub (ws' := [(q_32, .inr (4, [.null, .null, .null, .null, .int 0, .int 0]))]) [11] rfl
  have hDc := hD.sub (ws' := [(q_32, .inr (4, [.null, .null, .null, .null, .int 0, .int 0]))]) [11] (by decide) rfl
  have hKc := hK.sub (tys' := []) [] rfl
  have hFc := va_free (wc := [(q_32, .inr (4, [.null, .null, .null, .null, .int 0, .int 0]))]) hD hS hA [11] rfl
  refine va_callv (va_runIN (As := []) (rest := [.ref q_32, .ref h0]) ⟨hx, hb, hml, hown, hts⟩ (c_X4_init l dC dI H.size q_32 ) ⟨va_cnB 0 hts (gi kt_167) rfl rfl rfl (hE.nestw kn_5) (hts _ kt_166) (by decide +kernel) ⟨Nat.le_of_ble_eq_true rfl, Nat.le_of_ble_eq_true rfl⟩, rfl, (hts _ kt_168)⟩ ⟨fun a U g mk q => ⟨q.1, PW.calling q.2⟩, fun U hU hW => ⟨rfl, PW.mk hU hW hPc hKc hDc hE⟩⟩ rfl rfl hl.1 rfl (lv_room (Nat.le_of_ble_eq_true rfl)) dX11_init_104 ⟨by show _ + 5 ≤ 320; omega, by show _ + 3063 ≤ 55808; omega⟩) hS (fun q _ h => hFc q h) hFc (fun u t H1 locs ht hvm hw hB hz1 hk1 hS => ?_)
  obtain ⟨qx_34, q1_35, q2_36, q3_37, qr_38, cr_39, hB1⟩ := hB
  obtain ⟨hP, hD, hK⟩ := QW.join (wr := [(h0, .inr (11, [.ref q_1, .ref q_5, .ref q_9, .ref q_12, .ref q_20, .ref q_22, .ref q_24, .null, .null])), (q_1, .inr (0, [.ref q_3, .int 0, .int 0])), (q_3, .inl (cA_4, 3000, .inl (fun _ => 0))), (q_5, .inr (0, [.ref q_7, .int 0, .int 0])), (q_7, .inl (cA_8, 3000, .inl (fun _ => 0))), (q_9, .inr (2, [.ref q_11, .int 0])), (q_12, .inr (1, [.ref q_9, .ref q1_14, .ref q2_15, .ref q3_16, .ref q4_17, .ref q5_18, .ref q6_19, .int 0, .int 0, .int 0, .int 0])), (q_24, .inr (8, [.ref qw_26, .ref qs_27, .ref qt_28])), (qw_26, .inl (cw_29, 64, .inl (fun _ => 0))), (qs_27, .inl (cs_30, 8, .inl (fun _ => 0))), (qt_28, .inl (ct_31, 8, .inl (fun _ => 0)))]) hP hD hK [11] [0, 1, 2, 3, 4, 5, 6, 7, 8, 9, 10] rfl rfl (by decide) (by decide) hk1 hFc ht hvm hB1
  generalize H1 = H at hP hS ⊢
  have hK : va_K (dC, dI) vwCl [(cA_4, .int), (cA_8, .int), (cw_29, .int), (cs_30, .int), (ct_31, .int), (cr_39, .int)] s := hK.sub [0, 1, 2, 3, 4, 5] rfl
  have hP : va_P (dC, dI) vwCl [(h0, .inr (11, [.ref q_1, .ref q_5, .ref q_9, .ref q_12, .ref q_20, .ref q_22, .ref q_24, .null, .null])), (q_1, .inr (0, [.ref q_3, .int 0, .int 0])), (q_3, .inl (cA_4, 3000, .inl (fun _ => 0))), (q_5, .inr (0, [.ref q_7, .int 0, .int 0])), (q_7, .inl (cA_8, 3000, .inl (fun _ => 0))), (q_9, .inr (2, [.ref q_11, .int 0])), (q_12, .inr (1, [.ref q_9, .ref q1_14, .ref q2_15, .ref q3_16, .ref q4_17, .ref q5_18, .ref q6_19, .int 0, .int 0, .int 0, .int 0])), (q_24, .inr (8, [.ref qw_26, .ref qs_27, .ref qt_28])), (qw_26, .inl (cw_29, 64, .inl (fun _ => 0))), (qs_27, .inl (cs_30, 8, .inl (fun _ => 0))), (qt_28, .inl (ct_31, 8, .inl (fun _ => 0))), (q_32, .inr (4, [.ref qx_34, .ref q1_35, .ref q2_36, .ref q3_37, .int 0, .int 0])), (qx_34, .inr (0, [.ref qr_38, .int 0, .int 0])), (qr_38, .inl (cr_39, 3000, .inl (fun _ => 0)))] H := hP
  have hD : va_D A [(h0, .inr (11, [.ref q_1, .ref q_5, .ref q_9, .ref q_12, .ref q_20, .ref q_22, .ref q_24, .null, .null])), (q_1, .inr (0, [.ref q_3, .int 0, .int 0])), (q_3, .inl (cA_4, 3000, .inl (fun _ => 0))), (q_5, .inr (0, [.ref q_7, .int 0, .int 0])), (q_7, .inl (cA_8, 3000, .inl (fun _ => 0))), (q_9, .inr (2, [.ref q_11, .int 0])), (q_12, .inr (1, [.ref q_9, .ref q1_14, .ref q2_15, .ref q3_16, .ref q4_17, .ref q5_18, .ref q6_19, .int 0, .int 0, .int 0, .int 0])), (q_24, .inr (8, [.ref qw_26, .ref qs_27, .ref qt_28])), (qw_26, .inl (cw_29, 64, .inl (fun _ => 0))), (qs_27, .inl (cs_30, 8, .inl (fun _ => 0))), (qt_28, .inl (ct_31, 8, .inl (fun _ => 0))), (q_32, .inr (4, [.ref qx_34, .ref q1_35, .ref q2_36, .ref q3_37, .int 0, .int 0])), (qx_34, .inr (0, [.ref qr_38, .int 0, .int 0])), (qr_38, .inl (cr_39, 3000, .inl (fun _ => 0)))] := hD
  refine va_put (D := (dC, dI)) (ci := 11) (v := .ref q_32) (ty := .object "PostGate$Message") (C := RX11) (T := TX11) (N := 9) hx hb hts it_11 tyX11 tyX11_ok nmX11 hown hK hP hD hS 0 rfl rfl 7 (by decide) (hts _ kt_169) (fun _ h9 => h9) rfl (by decide +kernel) rfl rfl (Nat.le_of_ble_eq_true rfl) dX11_init_107 (fun H locs hP hD hS => ?_)
  have hP : va_P (dC, dI) vwCl [(h0, .inr (11, [.ref q_1, .ref q_5, .ref q_9, .ref q_12, .ref q_20, .ref q_22, .ref q_24, .ref q_32, .null])), (q_1, .inr (0, [.ref q_3, .int 0, .int 0])), (q_3, .inl (cA_4, 3000, .inl (fun _ => 0))), (q_5, .inr (0, [.ref q_7, .int 0, .int 0])), (q_7, .inl (cA_8, 3000, .inl (fun _ => 0))), (q_9, .inr (2, [.ref q_11, .int 0])), (q_12, .inr (1, [.ref q_9, .ref q1_14, .ref q2_15, .ref q3_16, .ref q4_17, .ref q5_18, .ref q6_19, .int 0, .int 0, .int 0, .int 0])), (q_24, .inr (8, [.ref qw_26, .ref qs_27, .ref qt_28])), (qw_26, .inl (cw_29, 64, .inl (fun _ => 0))), (qs_27, .inl (cs_30, 8, .inl (fun _ => 0))), (qt_28, .inl (ct_31, 8, .inl (fun _ => 0))), (q_32, .inr (4, [.ref qx_34, .ref q1_35, .ref q2_36, .ref q3_37, .int 0, .int 0])), (qx_34, .inr (0, [.ref qr_38, .int 0, .int 0])), (qr_38, .inl (cr_39, 3000, .inl (fun _ => 0)))] H := hP
  have hD : va_D A [(h0, .inr (11, [.ref q_1, .ref q_5, .ref q_9, .ref q_12, .ref q_20, .ref q_22, .ref q_24, .ref q_32, .null])), (q_1, .inr (0, [.ref q_3, .int 0, .int 0])), (q_3, .inl (cA_4, 3000, .inl (fun _ => 0))), (q_5, .inr (0, [.ref q_7, .int 0, .int 0])), (q_7, .inl (cA_8, 3000, .inl (fun _ => 0))), (q_9, .inr (2, [.ref q_11, .int 0])), (q_12, .inr (1, [.ref q_9, .ref q1_14, .ref q2_15, .ref q3_16, .ref q4_17, .ref q5_18, .ref q6_19, .int 0, .int 0, .int 0, .int 0])), (q_24, .inr (8, [.ref qw_26, .ref qs_27, .ref qt_28])), (qw_26, .inl (cw_29, 64, .inl (fun _ => 0))), (qs_27, .inl (cs_30, 8, .inl (fun _ => 0))), (qt_28, .inl (ct_31, 8, .inl (fun _ => 0))), (q_32, .inr (4, [.ref qx_34, .ref q1_35, .ref q2_36, .ref q3_37, .int 0, .int 0])), (qx_34, .inr (0, [.ref qr_38, .int 0, .int 0])), (qr_38, .inl (cr_39, 3000, .inl (fun _ => 0)))] := hD
  refine lv_aload_n hx hb dX11_init_110 rfl (lv_at hl 0 rfl) ?_
  refine va_new (ci := 4) (fs := [.null, .null, .null, .null, .int 0, .int 0]) (C := RX4) (T := TX4) (N := 6) hx hb hts it_4 tyX4 tyX4_ok hown (hts _ kt_164) (hts _ kt_165) (hts _ kt_166) hK hP hD hS hA rfl df_4 (by show _ + 1 ≤ 320; omega) (by show _ + 6 ≤ 55808; omega) dX11_init_111 (fun q_40 H hP hD hS => ?_)
  have hP : va_P (dC, dI) vwCl [(h0, .inr (11, [.ref q_1, .ref q_5, .ref q_9, .ref q_12, .ref q_20, .ref q_22, .ref q_24, .ref q_32, .null])), (q_1, .inr (0, [.ref q_3, .int 0, .int 0])), (q_3, .inl (cA_4, 3000, .inl (fun _ => 0))), (q_5, .inr (0, [.ref q_7, .int 0, .int 0])), (q_7, .inl (cA_8, 3000, .inl (fun _ => 0))), (q_9, .inr (2, [.ref q_11, .int 0])), (q_12, .inr (1, [.ref q_9, .ref q1_14, .ref q2_15, .ref q3_16, .ref q4_17, .ref q5_18, .ref q6_19, .int 0, .int 0, .int 0, .int 0])), (q_24, .inr (8, [.ref qw_26, .ref qs_27, .ref qt_28])), (qw_26, .inl (cw_29, 64, .inl (fun _ => 0))), (qs_27, .inl (cs_30, 8, .inl (fun _ => 0))), (qt_28, .inl (ct_31, 8, .inl (fun _ => 0))), (q_32, .inr (4, [.ref qx_34, .ref q1_35, .ref q2_36, .ref q3_37, .int 0, .int 0])), (qx_34, .inr (0, [.ref qr_38, .int 0, .int 0])), (qr_38, .inl (cr_39, 3000, .inl (fun _ => 0))), (q_40, .inr (4, [.null, .null, .null, .null, .int 0, .int 0]))] H := hP
  have hD : va_D A [(h0, .inr (11, [.ref q_1, .ref q_5, .ref q_9, .ref q_12, .ref q_20, .ref q_22, .ref q_24, .ref q_32, .null])), (q_1, .inr (0, [.ref q_3, .int 0, .int 0])), (q_3, .inl (cA_4, 3000, .inl (fun _ => 0))), (q_5, .inr (0, [.ref q_7, .int 0, .int 0])), (q_7, .inl (cA_8, 3000, .inl (fun _ => 0))), (q_9, .inr (2, [.ref q_11, .int 0])), (q_12, .inr (1, [.ref q_9, .ref q1_14, .ref q2_15, .ref q3_16, .ref q4_17, .ref q5_18, .ref q6_19, .int 0, .int 0, .int 0, .int 0])), (q_24, .inr (8, [.ref qw_26, .ref qs_27, .ref qt_28])), (qw_26, .inl (cw_29, 64, .inl (fun _ => 0))), (qs_27, .inl (cs_30, 8, .inl (fun _ => 0))), (qt_28, .inl (ct_31, 8, .inl (fun _ => 0))), (q_32, .inr (4, [.ref qx_34, .ref q1_35, .ref q2_36, .ref q3_37, .int 0, .int 0])), (qx_34, .inr (0, [.ref qr_38, .int 0, .int 0])), (qr_38, .inl (cr_39, 3000, .inl (fun _ => 0))), (q_40, .inr (4, [.null, .null, .null, .null, .int 0, .int 0]))] := hD
  refine lv_dup hx hb dX11_init_114 rfl ?_
  have hPc := hP.sub (ws' := [(q_40, .inr (4, [.null, .null, .null, .null, .int 0, .int 0]))]) [14] rfl
  have hDc := hD.sub (ws' := [(q_40, .inr (4, [.null, .null, .null, .null, .int 0, .int 0]))]) [14] (by decide) rfl
  have hKc := hK.sub (tys' := []) [] rfl
  have hFc := va_free (wc := [(q_40, .inr (4, [.null, .null, .null, .null, .int 0, .int 0]))]) hD hS hA [14] rfl
  refine va_callv (va_runIN (As := []) (rest := [.ref q_40, .ref h0]) ⟨hx, hb, hml, hown, hts⟩ (c_X4_init l dC dI H.size q_40 ) ⟨va_cnB 0 hts (gi kt_167) rfl rfl rfl (hE.nestw kn_5) (hts _ kt_166) (by decide +kernel) ⟨Nat.le_of_ble_eq_true rfl, Nat.le_of_ble_eq_true rfl⟩, rfl, (hts _ kt_168)⟩ ⟨fun a U g mk q => ⟨q.1, PW.calling q.2⟩, fun U hU hW => ⟨rfl, PW.mk hU hW hPc hKc hDc hE⟩⟩ rfl rfl hl.1 rfl (lv_room (Nat.le_of_ble_eq_true rfl)) dX11_init_115 ⟨by show _ + 5 ≤ 320; omega, by show _ + 3063 ≤ 55808; omega⟩) hS (fun q _ h => hFc q h) hFc (fun u t H1 locs ht hvm hw hB hz1 hk1 hS => ?_)
  obtain ⟨qx_42, q1_43, q2_44, q3_45, qr_46, cr_47, hB1⟩ := hB
  obtain ⟨hP, hD, hK⟩ := QW.join (wr := [(h0, .inr (11, [.ref q_1, .ref q_5, .ref q_9, .ref q_12, .ref q_20, .ref q_22, .ref q_24, .ref q_32, .null])), (q_1, .inr (0, [.ref q_3, .int 0, .int 0])), (q_3, .inl (cA_4, 3000, .inl (fun _ => 0))), (q_5, .inr (0, [.ref q_7, .int 0, .int 0])), (q_7, .inl (cA_8, 3000, .inl (fun _ => 0))), (q_9, .inr (2, [.ref q_11, .int 0])), (q_12, .inr (1, [.ref q_9, .ref q1_14, .ref q2_15, .ref q3_16, .ref q4_17, .ref q5_18, .ref q6_19, .int 0, .int 0, .int 0, .int 0])), (q_24, .inr (8, [.ref qw_26, .ref qs_27, .ref qt_28])), (qw_26, .inl (cw_29, 64, .inl (fun _ => 0))), (qs_27, .inl (cs_30, 8, .inl (fun _ => 0))), (qt_28, .inl (ct_31, 8, .inl (fun _ => 0))), (q_32, .inr (4, [.ref qx_34, .ref q1_35, .ref q2_36, .ref q3_37, .int 0, .int 0])), (qx_34, .inr (0, [.ref qr_38, .int 0, .int 0])), (qr_38, .inl (cr_39, 3000, .inl (fun _ => 0)))]) hP hD hK [14] [0, 1, 2, 3, 4, 5, 6, 7, 8, 9, 10, 11, 12, 13] rfl rfl (by decide) (by decide) hk1 hFc ht hvm hB1
  generalize H1 = H at hP hS ⊢
  have hK : va_K (dC, dI) vwCl [(cA_4, .int), (cA_8, .int), (cw_29, .int), (cs_30, .int), (ct_31, .int), (cr_39, .int), (cr_47, .int)] s := hK.sub [0, 1, 2, 3, 4, 5, 6] rfl
  have hP : va_P (dC, dI) vwCl [(h0, .inr (11, [.ref q_1, .ref q_5, .ref q_9, .ref q_12, .ref q_20, .ref q_22, .ref q_24, .ref q_32, .null])), (q_1, .inr (0, [.ref q_3, .int 0, .int 0])), (q_3, .inl (cA_4, 3000, .inl (fun _ => 0))), (q_5, .inr (0, [.ref q_7, .int 0, .int 0])), (q_7, .inl (cA_8, 3000, .inl (fun _ => 0))), (q_9, .inr (2, [.ref q_11, .int 0])), (q_12, .inr (1, [.ref q_9, .ref q1_14, .ref q2_15, .ref q3_16, .ref q4_17, .ref q5_18, .ref q6_19, .int 0, .int 0, .int 0, .int 0])), (q_24, .inr (8, [.ref qw_26, .ref qs_27, .ref qt_28])), (qw_26, .inl (cw_29, 64, .inl (fun _ => 0))), (qs_27, .inl (cs_30, 8, .inl (fun _ => 0))), (qt_28, .inl (ct_31, 8, .inl (fun _ => 0))), (q_32, .inr (4, [.ref qx_34, .ref q1_35, .ref q2_36, .ref q3_37, .int 0, .int 0])), (qx_34, .inr (0, [.ref qr_38, .int 0, .int 0])), (qr_38, .inl (cr_39, 3000, .inl (fun _ => 0))), (q_40, .inr (4, [.ref qx_42, .ref q1_43, .ref q2_44, .ref q3_45, .int 0, .int 0])), (qx_42, .inr (0, [.ref qr_46, .int 0, .int 0])), (qr_46, .inl (cr_47, 3000, .inl (fun _ => 0)))] H := hP
  have hD : va_D A [(h0, .inr (11, [.ref q_1, .ref q_5, .ref q_9, .ref q_12, .ref q_20, .ref q_22, .ref q_24, .ref q_32, .null])), (q_1, .inr (0, [.ref q_3, .int 0, .int 0])), (q_3, .inl (cA_4, 3000, .inl (fun _ => 0))), (q_5, .inr (0, [.ref q_7, .int 0, .int 0])), (q_7, .inl (cA_8, 3000, .inl (fun _ => 0))), (q_9, .inr (2, [.ref q_11, .int 0])), (q_12, .inr (1, [.ref q_9, .ref q1_14, .ref q2_15, .ref q3_16, .ref q4_17, .ref q5_18, .ref q6_19, .int 0, .int 0, .int 0, .int 0])), (q_24, .inr (8, [.ref qw_26, .ref qs_27, .ref qt_28])), (qw_26, .inl (cw_29, 64, .inl (fun _ => 0))), (qs_27, .inl (cs_30, 8, .inl (fun _ => 0))), (qt_28, .inl (ct_31, 8, .inl (fun _ => 0))), (q_32, .inr (4, [.ref qx_34, .ref q1_35, .ref q2_36, .ref q3_37, .int 0, .int 0])), (qx_34, .inr (0, [.ref qr_38, .int 0, .int 0])), (qr_38, .inl (cr_39, 3000, .inl (fun _ => 0))), (q_40, .inr (4, [.ref qx_42, .ref q1_43, .ref q2_44, .ref q3_45, .int 0, .int 0])), (qx_42, .inr (0, [.ref qr_46, .int 0, .int 0])), (qr_46, .inl (cr_47, 3000, .inl (fun _ => 0)))] := hD
  refine va_put (D := (dC, dI)) (ci := 11) (v := .ref q_40) (ty := .object "PostGate$Message") (C := RX11) (T := TX11) (N := 9) hx hb hts it_11 tyX11 tyX11_ok nmX11 hown hK hP hD hS 0 rfl rfl 8 (by decide) (hts _ kt_170) (fun _ h9 => h9) rfl (by decide +kernel) rfl rfl (Nat.le_of_ble_eq_true rfl) dX11_init_118 (fun H locs hP hD hS => ?_)
  have hP : va_P (dC, dI) vwCl [(h0, .inr (11, [.ref q_1, .ref q_5, .ref q_9, .ref q_12, .ref q_20, .ref q_22, .ref q_24, .ref q_32, .ref q_40])), (q_1, .inr (0, [.ref q_3, .int 0, .int 0])), (q_3, .inl (cA_4, 3000, .inl (fun _ => 0))), (q_5, .inr (0, [.ref q_7, .int 0, .int 0])), (q_7, .inl (cA_8, 3000, .inl (fun _ => 0))), (q_9, .inr (2, [.ref q_11, .int 0])), (q_12, .inr (1, [.ref q_9, .ref q1_14, .ref q2_15, .ref q3_16, .ref q4_17, .ref q5_18, .ref q6_19, .int 0, .int 0, .int 0, .int 0])), (q_24, .inr (8, [.ref qw_26, .ref qs_27, .ref qt_28])), (qw_26, .inl (cw_29, 64, .inl (fun _ => 0))), (qs_27, .inl (cs_30, 8, .inl (fun _ => 0))), (qt_28, .inl (ct_31, 8, .inl (fun _ => 0))), (q_32, .inr (4, [.ref qx_34, .ref q1_35, .ref q2_36, .ref q3_37, .int 0, .int 0])), (qx_34, .inr (0, [.ref qr_38, .int 0, .int 0])), (qr_38, .inl (cr_39, 3000, .inl (fun _ => 0))), (q_40, .inr (4, [.ref qx_42, .ref q1_43, .ref q2_44, .ref q3_45, .int 0, .int 0])), (qx_42, .inr (0, [.ref qr_46, .int 0, .int 0])), (qr_46, .inl (cr_47, 3000, .inl (fun _ => 0)))] H := hP
  have hD : va_D A [(h0, .inr (11, [.ref q_1, .ref q_5, .ref q_9, .ref q_12, .ref q_20, .ref q_22, .ref q_24, .ref q_32, .ref q_40])), (q_1, .inr (0, [.ref q_3, .int 0, .int 0])), (q_3, .inl (cA_4, 3000, .inl (fun _ => 0))), (q_5, .inr (0, [.ref q_7, .int 0, .int 0])), (q_7, .inl (cA_8, 3000, .inl (fun _ => 0))), (q_9, .inr (2, [.ref q_11, .int 0])), (q_12, .inr (1, [.ref q_9, .ref q1_14, .ref q2_15, .ref q3_16, .ref q4_17, .ref q5_18, .ref q6_19, .int 0, .int 0, .int 0, .int 0])), (q_24, .inr (8, [.ref qw_26, .ref qs_27, .ref qt_28])), (qw_26, .inl (cw_29, 64, .inl (fun _ => 0))), (qs_27, .inl (cs_30, 8, .inl (fun _ => 0))), (qt_28, .inl (ct_31, 8, .inl (fun _ => 0))), (q_32, .inr (4, [.ref qx_34, .ref q1_35, .ref q2_36, .ref q3_37, .int 0, .int 0])), (qx_34, .inr (0, [.ref qr_38, .int 0, .int 0])), (qr_38, .inl (cr_39, 3000, .inl (fun _ => 0))), (q_40, .inr (4, [.ref qx_42, .ref q1_43, .ref q2_44, .ref q3_45, .int 0, .int 0])), (qx_42, .inr (0, [.ref qr_46, .int 0, .int 0])), (qr_46, .inl (cr_47, 3000, .inl (fun _ => 0)))] := hD
  have hP9 := hP.sub (ws' := [(h0, .inr (11, [.ref q_1, .ref q_5, .ref q_9, .ref q_12, .ref q_20, .ref q_22, .ref q_24, .ref q_32, .ref q_40])), (q_1, .inr (0, [.ref q_3, .int 0, .int 0])), (q_3, .inl (cA_4, 3000, .inl (fun _ => 0))), (q_5, .inr (0, [.ref q_7, .int 0, .int 0])), (q_7, .inl (cA_8, 3000, .inl (fun _ => 0))), (q_9, .inr (2, [.ref q_11, .int 0])), (q_12, .inr (1, [.ref q_9, .ref q1_14, .ref q2_15, .ref q3_16, .ref q4_17, .ref q5_18, .ref q6_19, .int 0, .int 0, .int 0, .int 0])), (q_24, .inr (8, [.ref qw_26, .ref qs_27, .ref qt_28])), (qw_26, .inl (cw_29, 64, .inl (fun _ => 0))), (qs_27, .inl (cs_30, 8, .inl (fun _ => 0))), (qt_28, .inl (ct_31, 8, .inl (fun _ => 0))), (q_32, .inr (4, [.ref qx_34, .ref q1_35, .ref q2_36, .ref q3_37, .int 0, .int 0])), (q_40, .inr (4, [.ref qx_42, .ref q1_43, .ref q2_44, .ref q3_45, .int 0, .int 0])), (qx_42, .inr (0, [.ref qr_46, .int 0, .int 0])), (qr_46, .inl (cr_47, 3000, .inl (fun _ => 0)))]) [0, 1, 2, 3, 4, 5, 6, 7, 8, 9, 10, 11, 14, 15, 16] rfl
  have hD9 := hD.sub (ws' := [(h0, .inr (11, [.ref q_1, .ref q_5, .ref q_9, .ref q_12, .ref q_20, .ref q_22, .ref q_24, .ref q_32, .ref q_40])), (q_1, .inr (0, [.ref q_3, .int 0, .int 0])), (q_3, .inl (cA_4, 3000, .inl (fun _ => 0))), (q_5, .inr (0, [.ref q_7, .int 0, .int 0])), (q_7, .inl (cA_8, 3000, .inl (fun _ => 0))), (q_9, .inr (2, [.ref q_11, .int 0])), (q_12, .inr (1, [.ref q_9, .ref q1_14, .ref q2_15, .ref q3_16, .ref q4_17, .ref q5_18, .ref q6_19, .int 0, .int 0, .int 0, .int 0])), (q_24, .inr (8, [.ref qw_26, .ref qs_27, .ref qt_28])), (qw_26, .inl (cw_29, 64, .inl (fun _ => 0))), (qs_27, .inl (cs_30, 8, .inl (fun _ => 0))), (qt_28, .inl (ct_31, 8, .inl (fun _ => 0))), (q_32, .inr (4, [.ref qx_34, .ref q1_35, .ref q2_36, .ref q3_37, .int 0, .int 0])), (q_40, .inr (4, [.ref qx_42, .ref q1_43, .ref q2_44, .ref q3_45, .int 0, .int 0])), (qx_42, .inr (0, [.ref qr_46, .int 0, .int 0])), (qr_46, .inl (cr_47, 3000, .inl (fun _ => 0)))]) [0, 1, 2, 3, 4, 5, 6, 7, 8, 9, 10, 11, 14, 15, 16] (by decide) rfl
  have hK9 := hK.sub (tys' := [(cA_4, .int), (cA_8, .int), (cw_29, .int), (cs_30, .int), (ct_31, .int), (cr_47, .int)]) [0, 1, 2, 3, 4, 6] rfl
  refine W.widen (k := 320) (n := 55808) (by omega) (by omega) ?_
  exact W.vret hx hb hr (fun t ht hW => ⟨⟨(), rfl, trivial, ⟨q_1, q_5, q_9, q_12, q_20, q_22, q_24, q_32, q_40, q_3, q_7, q_11, q1_14, q2_15, q3_16, q4_17, q5_18, q6_19, qw_26, qs_27, qt_28, qx_34, q1_35, q2_36, q3_37, qx_42, q1_43, q2_44, q3_45, qr_46, cA_4, cA_8, cw_29, cs_30, ct_31, cr_47, QW.mk ht hW hP9 hK9 hD9⟩⟩, hS.F ht⟩) hS.2.2 dX11_init_121
end
section
theorem dX0_add_0 : decode cX0_add 0 = .ok (.aload_n 0, 1) := by decide +kernel
theorem dX0_add_1 : decode cX0_add 1 = .ok (.getfield 9, 3) := by decide +kernel
theorem dX0_add_4 : decode cX0_add 4 = .ok (.aload_n 0, 1) := by decide +kernel
theorem dX0_add_5 : decode cX0_add 5 = .ok (.getfield 19, 3) := by decide +kernel
theorem dX0_add_8 : decode cX0_add 8 = .ok (.arraylength, 1) := by decide +kernel
theorem dX0_add_9 : decode cX0_add 9 = .ok (.if_icmp .ge 26, 3) := by decide +kernel
theorem dX0_add_12 : decode cX0_add 12 = .ok (.aload_n 0, 1) := by decide +kernel
theorem dX0_add_13 : decode cX0_add 13 = .ok (.getfield 19, 3) := by decide +kernel
theorem dX0_add_16 : decode cX0_add 16 = .ok (.aload_n 0, 1) := by decide +kernel
theorem dX0_add_17 : decode cX0_add 17 = .ok (.getfield 9, 3) := by decide +kernel
theorem dX0_add_20 : decode cX0_add 20 = .ok (.iload_n 1, 1) := by decide +kernel
theorem dX0_add_21 : decode cX0_add 21 = .ok (.iastore, 1) := by decide +kernel
theorem dX0_add_22 : decode cX0_add 22 = .ok (.aload_n 0, 1) := by decide +kernel
theorem dX0_add_23 : decode cX0_add 23 = .ok (.dup, 1) := by decide +kernel
theorem dX0_add_24 : decode cX0_add 24 = .ok (.getfield 9, 3) := by decide +kernel
theorem dX0_add_27 : decode cX0_add 27 = .ok (.iconst 1, 1) := by decide +kernel
theorem dX0_add_28 : decode cX0_add 28 = .ok (.iadd, 1) := by decide +kernel
theorem dX0_add_29 : decode cX0_add 29 = .ok (.putfield 9, 3) := by decide +kernel
theorem dX0_add_32 : decode cX0_add 32 = .ok (.goto 8, 3) := by decide +kernel
theorem dX0_add_35 : decode cX0_add 35 = .ok (.aload_n 0, 1) := by decide +kernel
theorem dX0_add_36 : decode cX0_add 36 = .ok (.iconst 1, 1) := by decide +kernel
theorem dX0_add_37 : decode cX0_add 37 = .ok (.putfield 15, 3) := by decide +kernel
theorem dX0_add_40 : decode cX0_add 40 = .ok (.return_, 1) := by decide +kernel
theorem dX0_addFour_0 : decode cX0_addFour 0 = .ok (.bipush 24, 2) := by decide +kernel
theorem dX0_addFour_2 : decode cX0_addFour 2 = .ok (.istore_n 2, 1) := by decide +kernel
theorem dX0_addFour_3 : decode cX0_addFour 3 = .ok (.iload_n 2, 1) := by decide +kernel
theorem dX0_addFour_4 : decode cX0_addFour 4 = .ok (.ifCond .lt 20, 3) := by decide +kernel
theorem dX0_addFour_7 : decode cX0_addFour 7 = .ok (.aload_n 0, 1) := by decide +kernel
theorem dX0_addFour_8 : decode cX0_addFour 8 = .ok (.iload_n 1, 1) := by decide +kernel
theorem dX0_addFour_9 : decode cX0_addFour 9 = .ok (.iload_n 2, 1) := by decide +kernel
theorem dX0_addFour_10 : decode cX0_addFour 10 = .ok (.iushr, 1) := by decide +kernel
theorem dX0_addFour_11 : decode cX0_addFour 11 = .ok (.sipush 255, 3) := by decide +kernel
theorem dX0_addFour_14 : decode cX0_addFour 14 = .ok (.iand, 1) := by decide +kernel
theorem dX0_addFour_15 : decode cX0_addFour 15 = .ok (.invokevirtual 34, 3) := by decide +kernel
theorem dX0_addFour_18 : decode cX0_addFour 18 = .ok (.iinc 2 (-8), 3) := by decide +kernel
theorem dX0_addFour_21 : decode cX0_addFour 21 = .ok (.goto (-18), 3) := by decide +kernel
theorem dX0_addFour_24 : decode cX0_addFour 24 = .ok (.return_, 1) := by decide +kernel
theorem dX0_addRange_0 : decode cX0_addRange 0 = .ok (.iconst 0, 1) := by decide +kernel
theorem dX0_addRange_1 : decode cX0_addRange 1 = .ok (.iload_n 2, 1) := by decide +kernel
theorem dX0_addRange_2 : decode cX0_addRange 2 = .ok (.invokestatic 48, 3) := by decide +kernel
theorem dX0_addRange_5 : decode cX0_addRange 5 = .ok (.istore 4, 2) := by decide +kernel
theorem dX0_addRange_7 : decode cX0_addRange 7 = .ok (.iload_n 3, 1) := by decide +kernel
theorem dX0_addRange_8 : decode cX0_addRange 8 = .ok (.aload_n 1, 1) := by decide +kernel
theorem dX0_addRange_9 : decode cX0_addRange 9 = .ok (.getfield 9, 3) := by decide +kernel
theorem dX0_addRange_12 : decode cX0_addRange 12 = .ok (.invokestatic 54, 3) := by decide +kernel
theorem dX0_addRange_15 : decode cX0_addRange 15 = .ok (.iload 4, 2) := by decide +kernel
theorem dX0_addRange_17 : decode cX0_addRange 17 = .ok (.isub, 1) := by decide +kernel
theorem dX0_addRange_18 : decode cX0_addRange 18 = .ok (.istore 5, 2) := by decide +kernel
theorem dX0_addRange_20 : decode cX0_addRange 20 = .ok (.iload 5, 2) := by decide +kernel
theorem dX0_addRange_22 : decode cX0_addRange 22 = .ok (.aload_n 0, 1) := by decide +kernel
theorem dX0_addRange_23 : decode cX0_addRange 23 = .ok (.getfield 19, 3) := by decide +kernel
theorem dX0_addRange_26 : decode cX0_addRange 26 = .ok (.arraylength, 1) := by decide +kernel
theorem dX0_addRange_27 : decode cX0_addRange 27 = .ok (.aload_n 0, 1) := by decide +kernel
theorem dX0_addRange_28 : decode cX0_addRange 28 = .ok (.getfield 9, 3) := by decide +kernel
theorem dX0_addRange_31 : decode cX0_addRange 31 = .ok (.isub, 1) := by decide +kernel
theorem dX0_addRange_32 : decode cX0_addRange 32 = .ok (.invokestatic 54, 3) := by decide +kernel
theorem dX0_addRange_35 : decode cX0_addRange 35 = .ok (.istore 6, 2) := by decide +kernel
theorem dX0_addRange_37 : decode cX0_addRange 37 = .ok (.iload 6, 2) := by decide +kernel
theorem dX0_addRange_39 : decode cX0_addRange 39 = .ok (.ifCond .le 33, 3) := by decide +kernel
theorem dX0_addRange_42 : decode cX0_addRange 42 = .ok (.aload_n 1, 1) := by decide +kernel
theorem dX0_addRange_43 : decode cX0_addRange 43 = .ok (.getfield 19, 3) := by decide +kernel
theorem dX0_addRange_46 : decode cX0_addRange 46 = .ok (.iload 4, 2) := by decide +kernel
theorem dX0_addRange_48 : decode cX0_addRange 48 = .ok (.aload_n 0, 1) := by decide +kernel
theorem dX0_addRange_49 : decode cX0_addRange 49 = .ok (.getfield 19, 3) := by decide +kernel
theorem dX0_addRange_52 : decode cX0_addRange 52 = .ok (.aload_n 0, 1) := by decide +kernel
theorem dX0_addRange_53 : decode cX0_addRange 53 = .ok (.getfield 9, 3) := by decide +kernel
theorem dX0_addRange_56 : decode cX0_addRange 56 = .ok (.iload 6, 2) := by decide +kernel
theorem dX0_addRange_58 : decode cX0_addRange 58 = .ok (.invokestatic 57, 3) := by decide +kernel
theorem dX0_addRange_61 : decode cX0_addRange 61 = .ok (.aload_n 0, 1) := by decide +kernel
theorem dX0_addRange_62 : decode cX0_addRange 62 = .ok (.dup, 1) := by decide +kernel
theorem dX0_addRange_63 : decode cX0_addRange 63 = .ok (.getfield 9, 3) := by decide +kernel
theorem dX0_addRange_66 : decode cX0_addRange 66 = .ok (.iload 6, 2) := by decide +kernel
theorem dX0_addRange_68 : decode cX0_addRange 68 = .ok (.iadd, 1) := by decide +kernel
theorem dX0_addRange_69 : decode cX0_addRange 69 = .ok (.putfield 9, 3) := by decide +kernel
theorem dX0_addRange_72 : decode cX0_addRange 72 = .ok (.aload_n 0, 1) := by decide +kernel
theorem dX0_addRange_73 : decode cX0_addRange 73 = .ok (.aload_n 0, 1) := by decide +kernel
theorem dX0_addRange_74 : decode cX0_addRange 74 = .ok (.getfield 15, 3) := by decide +kernel
theorem dX0_addRange_77 : decode cX0_addRange 77 = .ok (.ifCond .ne 10, 3) := by decide +kernel
theorem dX0_addRange_80 : decode cX0_addRange 80 = .ok (.iload 6, 2) := by decide +kernel
theorem dX0_addRange_82 : decode cX0_addRange 82 = .ok (.iload 5, 2) := by decide +kernel
theorem dX0_addRange_84 : decode cX0_addRange 84 = .ok (.if_icmp .ge 7, 3) := by decide +kernel
theorem dX0_addRange_87 : decode cX0_addRange 87 = .ok (.iconst 1, 1) := by decide +kernel
theorem dX0_addRange_88 : decode cX0_addRange 88 = .ok (.goto 4, 3) := by decide +kernel
theorem dX0_addRange_91 : decode cX0_addRange 91 = .ok (.iconst 0, 1) := by decide +kernel
theorem dX0_addRange_92 : decode cX0_addRange 92 = .ok (.putfield 15, 3) := by decide +kernel
theorem dX0_addRange_95 : decode cX0_addRange 95 = .ok (.return_, 1) := by decide +kernel
theorem dX0_clear_0 : decode cX0_clear 0 = .ok (.aload_n 0, 1) := by decide +kernel
theorem dX0_clear_1 : decode cX0_clear 1 = .ok (.iconst 0, 1) := by decide +kernel
theorem dX0_clear_2 : decode cX0_clear 2 = .ok (.putfield 9, 3) := by decide +kernel
theorem dX0_clear_5 : decode cX0_clear 5 = .ok (.aload_n 0, 1) := by decide +kernel
theorem dX0_clear_6 : decode cX0_clear 6 = .ok (.iconst 0, 1) := by decide +kernel
theorem dX0_clear_7 : decode cX0_clear 7 = .ok (.putfield 15, 3) := by decide +kernel
theorem dX0_clear_10 : decode cX0_clear 10 = .ok (.return_, 1) := by decide +kernel
theorem dX0_copy_0 : decode cX0_copy 0 = .ok (.aload_n 0, 1) := by decide +kernel
theorem dX0_copy_1 : decode cX0_copy 1 = .ok (.invokevirtual 63, 3) := by decide +kernel
theorem dX0_copy_4 : decode cX0_copy 4 = .ok (.aload_n 0, 1) := by decide +kernel
theorem dX0_copy_5 : decode cX0_copy 5 = .ok (.aload_n 1, 1) := by decide +kernel
theorem dX0_copy_6 : decode cX0_copy 6 = .ok (.iconst 0, 1) := by decide +kernel
theorem dX0_copy_7 : decode cX0_copy 7 = .ok (.aload_n 1, 1) := by decide +kernel
theorem dX0_copy_8 : decode cX0_copy 8 = .ok (.getfield 9, 3) := by decide +kernel
theorem dX0_copy_11 : decode cX0_copy 11 = .ok (.invokevirtual 66, 3) := by decide +kernel
theorem dX0_copy_14 : decode cX0_copy 14 = .ok (.return_, 1) := by decide +kernel
theorem dX0_cut_0 : decode cX0_cut 0 = .ok (.iload_n 1, 1) := by decide +kernel
theorem dX0_cut_1 : decode cX0_cut 1 = .ok (.ifCond .lt 16, 3) := by decide +kernel
theorem dX0_cut_4 : decode cX0_cut 4 = .ok (.iload_n 1, 1) := by decide +kernel
theorem dX0_cut_5 : decode cX0_cut 5 = .ok (.aload_n 0, 1) := by decide +kernel
theorem dX0_cut_6 : decode cX0_cut 6 = .ok (.getfield 9, 3) := by decide +kernel
theorem dX0_cut_9 : decode cX0_cut 9 = .ok (.if_icmp .ge 8, 3) := by decide +kernel
theorem dX0_cut_12 : decode cX0_cut 12 = .ok (.aload_n 0, 1) := by decide +kernel
theorem dX0_cut_13 : decode cX0_cut 13 = .ok (.iload_n 1, 1) := by decide +kernel
theorem dX0_cut_14 : decode cX0_cut 14 = .ok (.putfield 9, 3) := by decide +kernel
theorem dX0_cut_17 : decode cX0_cut 17 = .ok (.return_, 1) := by decide +kernel
theorem dX0_find_0 : decode cX0_find 0 = .ok (.iconst 0, 1) := by decide +kernel
theorem dX0_find_1 : decode cX0_find 1 = .ok (.iload_n 2, 1) := by decide +kernel
theorem dX0_find_2 : decode cX0_find 2 = .ok (.invokestatic 48, 3) := by decide +kernel
theorem dX0_find_5 : decode cX0_find 5 = .ok (.istore 4, 2) := by decide +kernel
theorem dX0_find_7 : decode cX0_find 7 = .ok (.iload 4, 2) := by decide +kernel
theorem dX0_find_9 : decode cX0_find 9 = .ok (.iload_n 3, 1) := by decide +kernel
theorem dX0_find_10 : decode cX0_find 10 = .ok (.if_icmp .ge 32, 3) := by decide +kernel
theorem dX0_find_13 : decode cX0_find 13 = .ok (.iload 4, 2) := by decide +kernel
theorem dX0_find_15 : decode cX0_find 15 = .ok (.aload_n 0, 1) := by decide +kernel
theorem dX0_find_16 : decode cX0_find 16 = .ok (.getfield 9, 3) := by decide +kernel
theorem dX0_find_19 : decode cX0_find 19 = .ok (.if_icmp .ge 23, 3) := by decide +kernel
theorem dX0_find_22 : decode cX0_find 22 = .ok (.aload_n 0, 1) := by decide +kernel
theorem dX0_find_23 : decode cX0_find 23 = .ok (.getfield 19, 3) := by decide +kernel
theorem dX0_find_26 : decode cX0_find 26 = .ok (.iload 4, 2) := by decide +kernel
theorem dX0_find_28 : decode cX0_find 28 = .ok (.iaload, 1) := by decide +kernel
theorem dX0_find_29 : decode cX0_find 29 = .ok (.iload_n 1, 1) := by decide +kernel
theorem dX0_find_30 : decode cX0_find 30 = .ok (.if_icmp .ne 6, 3) := by decide +kernel
theorem dX0_find_33 : decode cX0_find 33 = .ok (.iload 4, 2) := by decide +kernel
theorem dX0_find_35 : decode cX0_find 35 = .ok (.ireturn, 1) := by decide +kernel
theorem dX0_find_36 : decode cX0_find 36 = .ok (.iinc 4 1, 3) := by decide +kernel
theorem dX0_find_39 : decode cX0_find 39 = .ok (.goto (-32), 3) := by decide +kernel
theorem dX0_find_42 : decode cX0_find 42 = .ok (.iload_n 3, 1) := by decide +kernel
theorem dX0_find_43 : decode cX0_find 43 = .ok (.ireturn, 1) := by decide +kernel
theorem dX0_isName_0 : decode cX0_isName 0 = .ok (.aload_n 0, 1) := by decide +kernel
theorem dX0_isName_1 : decode cX0_isName 1 = .ok (.getfield 15, 3) := by decide +kernel
theorem dX0_isName_4 : decode cX0_isName 4 = .ok (.ifCond .ne 18, 3) := by decide +kernel
theorem dX0_isName_7 : decode cX0_isName 7 = .ok (.iload_n 2, 1) := by decide +kernel
theorem dX0_isName_8 : decode cX0_isName 8 = .ok (.iload_n 1, 1) := by decide +kernel
theorem dX0_isName_9 : decode cX0_isName 9 = .ok (.isub, 1) := by decide +kernel
theorem dX0_isName_10 : decode cX0_isName 10 = .ok (.iconst 1, 1) := by decide +kernel
theorem dX0_isName_11 : decode cX0_isName 11 = .ok (.if_icmp .lt 11, 3) := by decide +kernel
theorem dX0_isName_14 : decode cX0_isName 14 = .ok (.iload_n 2, 1) := by decide +kernel
theorem dX0_isName_15 : decode cX0_isName 15 = .ok (.iload_n 1, 1) := by decide +kernel
theorem dX0_isName_16 : decode cX0_isName 16 = .ok (.isub, 1) := by decide +kernel
theorem dX0_isName_17 : decode cX0_isName 17 = .ok (.bipush 60, 2) := by decide +kernel
theorem dX0_isName_19 : decode cX0_isName 19 = .ok (.if_icmp .le 5, 3) := by decide +kernel
theorem dX0_isName_22 : decode cX0_isName 22 = .ok (.iconst 0, 1) := by decide +kernel
theorem dX0_isName_23 : decode cX0_isName 23 = .ok (.ireturn, 1) := by decide +kernel
theorem dX0_isName_24 : decode cX0_isName 24 = .ok (.iconst 0, 1) := by decide +kernel
theorem dX0_isName_25 : decode cX0_isName 25 = .ok (.istore_n 3, 1) := by decide +kernel
theorem dX0_isName_26 : decode cX0_isName 26 = .ok (.iload_n 1, 1) := by decide +kernel
theorem dX0_isName_27 : decode cX0_isName 27 = .ok (.istore 4, 2) := by decide +kernel
theorem dX0_isName_29 : decode cX0_isName 29 = .ok (.iload 4, 2) := by decide +kernel
theorem dX0_isName_31 : decode cX0_isName 31 = .ok (.iload_n 2, 1) := by decide +kernel
theorem dX0_isName_32 : decode cX0_isName 32 = .ok (.if_icmp .ge 94, 3) := by decide +kernel
theorem dX0_isName_35 : decode cX0_isName 35 = .ok (.aload_n 0, 1) := by decide +kernel
theorem dX0_isName_36 : decode cX0_isName 36 = .ok (.iload 4, 2) := by decide +kernel
theorem dX0_isName_38 : decode cX0_isName 38 = .ok (.invokevirtual 74, 3) := by decide +kernel
theorem dX0_isName_41 : decode cX0_isName 41 = .ok (.istore 5, 2) := by decide +kernel
theorem dX0_isName_43 : decode cX0_isName 43 = .ok (.iload 5, 2) := by decide +kernel
theorem dX0_isName_45 : decode cX0_isName 45 = .ok (.bipush 46, 2) := by decide +kernel
theorem dX0_isName_47 : decode cX0_isName 47 = .ok (.if_icmp .ne 7, 3) := by decide +kernel
theorem dX0_isName_50 : decode cX0_isName 50 = .ok (.iconst 1, 1) := by decide +kernel
theorem dX0_isName_51 : decode cX0_isName 51 = .ok (.goto 4, 3) := by decide +kernel
theorem dX0_isName_54 : decode cX0_isName 54 = .ok (.iconst 0, 1) := by decide +kernel
theorem dX0_isName_55 : decode cX0_isName 55 = .ok (.istore 6, 2) := by decide +kernel
theorem dX0_isName_57 : decode cX0_isName 57 = .ok (.iload 6, 2) := by decide +kernel
theorem dX0_isName_59 : decode cX0_isName 59 = .ok (.ifCond .eq 10, 3) := by decide +kernel
theorem dX0_isName_62 : decode cX0_isName 62 = .ok (.iload_n 3, 1) := by decide +kernel
theorem dX0_isName_63 : decode cX0_isName 63 = .ok (.ifCond .ne 44, 3) := by decide +kernel
theorem dX0_isName_66 : decode cX0_isName 66 = .ok (.goto 39, 3) := by decide +kernel
theorem dX0_isName_69 : decode cX0_isName 69 = .ok (.iload_n 3, 1) := by decide +kernel
theorem dX0_isName_70 : decode cX0_isName 70 = .ok (.bipush 20, 2) := by decide +kernel
theorem dX0_isName_72 : decode cX0_isName 72 = .ok (.if_icmp .eq 33, 3) := by decide +kernel
theorem dX0_isName_75 : decode cX0_isName 75 = .ok (.iload 5, 2) := by decide +kernel
theorem dX0_isName_77 : decode cX0_isName 77 = .ok (.invokestatic 27, 3) := by decide +kernel
theorem dX0_isName_80 : decode cX0_isName 80 = .ok (.ifCond .ne 27, 3) := by decide +kernel
theorem dX0_isName_83 : decode cX0_isName 83 = .ok (.iload 5, 2) := by decide +kernel
theorem dX0_isName_85 : decode cX0_isName 85 = .ok (.invokestatic 31, 3) := by decide +kernel
theorem dX0_isName_88 : decode cX0_isName 88 = .ok (.ifCond .ne 19, 3) := by decide +kernel
theorem dX0_isName_91 : decode cX0_isName 91 = .ok (.iload 5, 2) := by decide +kernel
theorem dX0_isName_93 : decode cX0_isName 93 = .ok (.bipush 45, 2) := by decide +kernel
theorem dX0_isName_95 : decode cX0_isName 95 = .ok (.if_icmp .eq 12, 3) := by decide +kernel
theorem dX0_isName_98 : decode cX0_isName 98 = .ok (.iload 5, 2) := by decide +kernel
theorem dX0_isName_100 : decode cX0_isName 100 = .ok (.bipush 95, 2) := by decide +kernel
theorem dX0_isName_102 : decode cX0_isName 102 = .ok (.if_icmp .eq 5, 3) := by decide +kernel
theorem dX0_isName_105 : decode cX0_isName 105 = .ok (.iconst 0, 1) := by decide +kernel
theorem dX0_isName_106 : decode cX0_isName 106 = .ok (.ireturn, 1) := by decide +kernel
theorem dX0_isName_107 : decode cX0_isName 107 = .ok (.iload 6, 2) := by decide +kernel
theorem dX0_isName_109 : decode cX0_isName 109 = .ok (.ifCond .eq 7, 3) := by decide +kernel
theorem dX0_isName_112 : decode cX0_isName 112 = .ok (.iconst 0, 1) := by decide +kernel
theorem dX0_isName_113 : decode cX0_isName 113 = .ok (.goto 6, 3) := by decide +kernel
theorem dX0_isName_116 : decode cX0_isName 116 = .ok (.iload_n 3, 1) := by decide +kernel
theorem dX0_isName_117 : decode cX0_isName 117 = .ok (.iconst 1, 1) := by decide +kernel
theorem dX0_isName_118 : decode cX0_isName 118 = .ok (.iadd, 1) := by decide +kernel
theorem dX0_isName_119 : decode cX0_isName 119 = .ok (.istore_n 3, 1) := by decide +kernel
theorem dX0_isName_120 : decode cX0_isName 120 = .ok (.iinc 4 1, 3) := by decide +kernel
theorem dX0_isName_123 : decode cX0_isName 123 = .ok (.goto (-94), 3) := by decide +kernel
theorem dX0_isName_126 : decode cX0_isName 126 = .ok (.iload_n 3, 1) := by decide +kernel
theorem dX0_isName_127 : decode cX0_isName 127 = .ok (.ifCond .le 7, 3) := by decide +kernel
theorem dX0_isName_130 : decode cX0_isName 130 = .ok (.iconst 1, 1) := by decide +kernel
theorem dX0_isName_131 : decode cX0_isName 131 = .ok (.goto 4, 3) := by decide +kernel
theorem dX0_isName_134 : decode cX0_isName 134 = .ok (.iconst 0, 1) := by decide +kernel
theorem dX0_isName_135 : decode cX0_isName 135 = .ok (.ireturn, 1) := by decide +kernel
theorem kt_171 : Cond.methodLink RX0 48 Lib.Math.max.name ∈ tb := tb_at (i := 517) (by decide +kernel) (by decide +kernel)
theorem kt_172 : Cond.static Lib.Math.max.name ∈ tb := tb_at (i := 518) (by decide +kernel) (by decide +kernel)
theorem kt_173 : Cond.initialized "java/lang/Math" ∈ tb := tb_at (i := 97) (by decide +kernel) (by decide +kernel)
theorem kt_174 : Cond.code Lib.Math.max.name Lib.Math.max.code 2 (some .int) ∈ tb := tb_at (i := 519) (by decide +kernel) (by decide +kernel)
theorem kt_175 : Cond.methodLink RX0 54 Lib.Math.min.name ∈ tb := tb_at (i := 545) (by decide +kernel) (by decide +kernel)
theorem kt_176 : Cond.static Lib.Math.min.name ∈ tb := tb_at (i := 546) (by decide +kernel) (by decide +kernel)
theorem kt_177 : Cond.code Lib.Math.min.name Lib.Math.min.code 2 (some .int) ∈ tb := tb_at (i := 547) (by decide +kernel) (by decide +kernel)
theorem kt_178 : Cond.code yX0_clear cX0_clear 1 none ∈ tb := tb_at (i := 540) (by decide +kernel) (by decide +kernel)
theorem kt_179 : Cond.methodLink RX0 63 yX0_clear ∈ tb := tb_at (i := 580) (by decide +kernel) (by decide +kernel)
theorem kt_180 : Cond.instanceMethod yX0_clear ∈ tb := tb_at (i := 538) (by decide +kernel) (by decide +kernel)
theorem kt_181 : Cond.selects RX0 yX0_clear yX0_clear ∈ tb := tb_at (i := 539) (by decide +kernel) (by decide +kernel)
theorem kt_182 : Cond.code yX0_addRange cX0_addRange 7 none ∈ tb := tb_at (i := 544) (by decide +kernel) (by decide +kernel)
theorem kt_183 : Cond.methodLink RX0 66 yX0_addRange ∈ tb := tb_at (i := 581) (by decide +kernel) (by decide +kernel)
theorem kt_184 : Cond.instanceMethod yX0_addRange ∈ tb := tb_at (i := 542) (by decide +kernel) (by decide +kernel)
theorem kt_185 : Cond.selects RX0 yX0_addRange yX0_addRange ∈ tb := tb_at (i := 543) (by decide +kernel) (by decide +kernel)
theorem kt_186 : Cond.code yX0_add cX0_add 2 none ∈ tb := tb_at (i := 496) (by decide +kernel) (by decide +kernel)
theorem kt_187 : Cond.methodLink RX0 34 yX0_add ∈ tb := tb_at (i := 493) (by decide +kernel) (by decide +kernel)
theorem kt_188 : Cond.instanceMethod yX0_add ∈ tb := tb_at (i := 494) (by decide +kernel) (by decide +kernel)
theorem kt_189 : Cond.selects RX0 yX0_add yX0_add ∈ tb := tb_at (i := 495) (by decide +kernel) (by decide +kernel)
set_option maxHeartbeats 4000000 in
set_option maxRecDepth 100000 in
theorem c_X0_clear (l : Launch) (dC : Nat → ClassId) (dI : Nat → Nat → Nat) (sz : Nat) (h0 : Nat) (q : Nat) (n : Int32) (v : Int32) : Met l yX0_clear (.code yX0_clear cX0_clear 1 none :: tb) ({ frames := 0, cells := 0, slots := 0, locals := 0 }) (va_Pc [.ref h0] (PW (dC, dI) sz [(h0, .inr (0, [.ref q, .int n, .int v]))] [])) (va_Qv (fun _ : Unit => True) (fun _ T9 => QW (dC, dI) (va_A [(h0, .inr (0, [.ref q, .int n, .int v]))] sz) [(h0, .inr (0, [.ref q, .int 0, .int 0]))] [] T9) (va_A [(h0, .inr (0, [.ref q, .int n, .int v]))] sz)) 0 0 (va_A [(h0, .inr (0, [.ref q, .int n, .int v]))] sz) := by
  refine Met.ofW (cc := cX0_clear) (maxL := 1) (ret := none) (by decide) rfl ?_
  intro p e s m args below meth c s₁ B hml hv
  obtain ⟨rfl, hsz, hP, hK, hD0, hE⟩ := hv
  have hx := B.exec
  have hb := B.bytes
  have hr := B.returns
  have hts : ∀ w ∈ tb, w.before _ s = true := fun w h => atoms_spec (ws := .code yX0_clear cX0_clear 1 none :: tb) B.pre w (List.mem_cons_of_mem _ h)
  have hown : s.vm.findClass RX0 = some m.cls := findClass_of_methodNamed B.named
  have hlocks := B.notSynchronized
  subst hsz
  have hD := hD0.self (sz := s.heap.size)
  generalize hAe : va_A [(h0, .inr (0, [.ref q, .int n, .int v]))] s.heap.size = A at hD ⊢
  have hA : ∀ q : Nat, s.heap.size ≤ q → A q := fun q h => by rw [← hAe]; exact Or.inr h
  have hS : va_S A s.heap s.heap [] := va_S.rf
  have hP : va_P (dC, dI) vwCl [(h0, .inr (0, [.ref q, .int n, .int v]))] s.heap := hP
  have hl := lv_entry ([.ref h0]) (n := 1) (Nat.le_of_ble_eq_true rfl)
  rw [lg_entry_eq]
  generalize (lg_sl ([.ref h0]) ++ List.replicate (1 - (lg_sl ([.ref h0])).length) Slot.unset).toArray = ls at hl ⊢
  have hl : lv_has ls 1 [(0, .ref h0)] := hl
  refine lv_aload_n hx hb dX0_clear_0 rfl (lv_at hl 0 rfl) ?_
  refine lv_iconst (v := 0) hx hb dX0_clear_1 (by decide) ?_
  refine va_put (D := (dC, dI)) (ci := 0) (v := .int 0) (ty := .int) (C := RX0) (T := TX0) (N := 3) hx hb hts it_0 tyX0 tyX0_ok nmX0 hown hK hP hD hS 0 rfl rfl 1 (by decide) (hts _ kt_3) (fun _ h9 => h9) rfl (by decide +kernel) rfl rfl (Nat.le_of_ble_eq_true rfl) dX0_clear_2 (fun H locs hP hD hS => ?_)
  have hP : va_P (dC, dI) vwCl [(h0, .inr (0, [.ref q, .int 0, .int v]))] H := hP
  have hD : va_D A [(h0, .inr (0, [.ref q, .int 0, .int v]))] := hD
  refine lv_aload_n hx hb dX0_clear_5 rfl (lv_at hl 0 rfl) ?_
  refine lv_iconst (v := 0) hx hb dX0_clear_6 (by decide) ?_
  refine va_put (D := (dC, dI)) (ci := 0) (v := .int 0) (ty := .boolean) (C := RX0) (T := TX0) (N := 3) hx hb hts it_0 tyX0 tyX0_ok nmX0 hown hK hP hD hS 0 rfl rfl 2 (by decide) (hts _ kt_4) (fun _ h9 => h9) rfl (by decide +kernel) rfl rfl (Nat.le_of_ble_eq_true rfl) dX0_clear_7 (fun H locs hP hD hS => ?_)
  have hP : va_P (dC, dI) vwCl [(h0, .inr (0, [.ref q, .int 0, .int 0]))] H := hP
  have hD : va_D A [(h0, .inr (0, [.ref q, .int 0, .int 0]))] := hD
  have hP9 := hP.sub (ws' := [(h0, .inr (0, [.ref q, .int 0, .int 0]))]) [0] rfl
  have hD9 := hD.sub (ws' := [(h0, .inr (0, [.ref q, .int 0, .int 0]))]) [0] (by decide) rfl
  have hK9 := hK.sub (tys' := []) [] rfl
  refine W.widen (k := 0) (n := 0) (by omega) (by omega) ?_
  exact W.vret hx hb hr (fun t ht hW => ⟨⟨(), rfl, trivial, QW.mk ht hW hP9 hK9 hD9⟩, hS.F ht⟩) hS.2.2 dX0_clear_10
set_option maxHeartbeats 4000000 in
set_option maxRecDepth 100000 in
theorem c_X0_cut (l : Launch) (dC : Nat → ClassId) (dI : Nat → Nat → Nat) (sz : Nat) (h0 : Nat) (q : Nat) : Met l yX0_cut (.code yX0_cut cX0_cut 2 none :: tb) ({ frames := 0, cells := 0, slots := 0, locals := 0 }) (va_Pc [.ref h0, .int 0] (PW (dC, dI) sz [(h0, .inr (0, [.ref q, .int 0, .int 0]))] [])) (va_Qv (fun _ : Unit => True) (fun _ T9 => QW (dC, dI) (va_A [(h0, .inr (0, [.ref q, .int 0, .int 0]))] sz) [(h0, .inr (0, [.ref q, .int 0, .int 0]))] [] T9) (va_A [(h0, .inr (0, [.ref q, .int 0, .int 0]))] sz)) 0 0 (va_A [(h0, .inr (0, [.ref q, .int 0, .int 0]))] sz) := by
  refine Met.ofW (cc := cX0_cut) (maxL := 2) (ret := none) (by decide) rfl ?_
  intro p e s m args below meth c s₁ B hml hv
  obtain ⟨rfl, hsz, hP, hK, hD0, hE⟩ := hv
  have hx := B.exec
  have hb := B.bytes
  have hr := B.returns
  have hts : ∀ w ∈ tb, w.before _ s = true := fun w h => atoms_spec (ws := .code yX0_cut cX0_cut 2 none :: tb) B.pre w (List.mem_cons_of_mem _ h)
  have hown : s.vm.findClass RX0 = some m.cls := findClass_of_methodNamed B.named
  have hlocks := B.notSynchronized
  subst hsz
  have hD := hD0.self (sz := s.heap.size)
  generalize hAe : va_A [(h0, .inr (0, [.ref q, .int 0, .int 0]))] s.heap.size = A at hD ⊢
  have hA : ∀ q : Nat, s.heap.size ≤ q → A q := fun q h => by rw [← hAe]; exact Or.inr h
  have hS : va_S A s.heap s.heap [] := va_S.rf
  have hP : va_P (dC, dI) vwCl [(h0, .inr (0, [.ref q, .int 0, .int 0]))] s.heap := hP
  have hl := lv_entry ([.ref h0, .int 0]) (n := 2) (Nat.le_of_ble_eq_true rfl)
  rw [lg_entry_eq]
  generalize (lg_sl ([.ref h0, .int 0]) ++ List.replicate (2 - (lg_sl ([.ref h0, .int 0])).length) Slot.unset).toArray = ls at hl ⊢
  have hl : lv_has ls 2 [(0, .ref h0), (1, .int 0)] := hl
  refine lv_iload_n hx hb dX0_cut_0 rfl (lv_at hl 1 rfl) ?_
  refine lv_if_lt (tgt := 17) hx hb dX0_cut_1 (by decide) (fun c_1 => absurd c_1 (by decide)) (fun c_1 => ?_)
  refine lv_iload_n hx hb dX0_cut_4 rfl (lv_at hl 1 rfl) ?_
  refine lv_aload_n hx hb dX0_cut_5 rfl (lv_at hl 0 rfl) ?_
  refine va_get (D := (dC, dI)) (ci := 0) (v := .int 0) (C := RX0) (T := TX0) (N := 3) hx hb hts it_0 hown hK hP 0 rfl rfl 1 (by decide) (hts _ kt_3) (fun _ h9 => h9) rfl dX0_cut_6 ?_
  refine lv_icmp_ge (tgt := 17) hx hb dX0_cut_9 (by decide) (fun c_2 => ?_) (fun c_2 => absurd (by decide) c_2)
  have hP9 := hP.sub (ws' := [(h0, .inr (0, [.ref q, .int 0, .int 0]))]) [0] rfl
  have hD9 := hD.sub (ws' := [(h0, .inr (0, [.ref q, .int 0, .int 0]))]) [0] (by decide) rfl
  have hK9 := hK.sub (tys' := []) [] rfl
  refine W.widen (k := 0) (n := 0) (by omega) (by omega) ?_
  exact W.vret hx hb hr (fun t ht hW => ⟨⟨(), rfl, trivial, QW.mk ht hW hP9 hK9 hD9⟩, hS.F ht⟩) hS.2.2 dX0_cut_17
set_option maxHeartbeats 4000000 in
set_option maxRecDepth 100000 in
theorem c_X0_find (l : Launch) (dC : Nat → ClassId) (dI : Nat → Nat → Nat) (sz : Nat) (h0 : Nat) (q : Nat) (x1 : Int32) : Met l yX0_find (.code yX0_find cX0_find 5 (some .int) :: tb) ({ frames := 1, cells := 0, slots := 0, locals := 21 }) (va_Pc [.ref h0, .int x1, .int 0, .int 0] (PW (dC, dI) sz [(h0, .inr (0, [.ref q, .int 0, .int 0]))] [])) (va_Qi (fun (r : Int32) (_ : Unit) => r = 0) (fun _ T9 => QW (dC, dI) (va_A [(h0, .inr (0, [.ref q, .int 0, .int 0]))] sz) [(h0, .inr (0, [.ref q, .int 0, .int 0]))] [] T9) (va_A [(h0, .inr (0, [.ref q, .int 0, .int 0]))] sz)) 0 0 (va_A [(h0, .inr (0, [.ref q, .int 0, .int 0]))] sz) := by
  refine Met.ofW (cc := cX0_find) (maxL := 5) (ret := (some .int)) (by decide) rfl ?_
  intro p e s m args below meth c s₁ B hml hv
  obtain ⟨rfl, hsz, hP, hK, hD0, hE⟩ := hv
  have hx := B.exec
  have hb := B.bytes
  have hr := B.returns
  have hts : ∀ w ∈ tb, w.before _ s = true := fun w h => atoms_spec (ws := .code yX0_find cX0_find 5 (some .int) :: tb) B.pre w (List.mem_cons_of_mem _ h)
  have hown : s.vm.findClass RX0 = some m.cls := findClass_of_methodNamed B.named
  have hlocks := B.notSynchronized
  subst hsz
  have hD := hD0.self (sz := s.heap.size)
  generalize hAe : va_A [(h0, .inr (0, [.ref q, .int 0, .int 0]))] s.heap.size = A at hD ⊢
  have hA : ∀ q : Nat, s.heap.size ≤ q → A q := fun q h => by rw [← hAe]; exact Or.inr h
  have hS : va_S A s.heap s.heap [] := va_S.rf
  have hP : va_P (dC, dI) vwCl [(h0, .inr (0, [.ref q, .int 0, .int 0]))] s.heap := hP
  have hl := lv_entry ([.ref h0, .int x1, .int 0, .int 0]) (n := 5) (Nat.le_of_ble_eq_true rfl)
  rw [lg_entry_eq]
  generalize (lg_sl ([.ref h0, .int x1, .int 0, .int 0]) ++ List.replicate (5 - (lg_sl ([.ref h0, .int x1, .int 0, .int 0])).length) Slot.unset).toArray = ls at hl ⊢
  have hl : lv_has ls 5 [(0, .ref h0), (1, .int x1), (2, .int 0), (3, .int 0)] := hl
  refine lv_iconst (v := 0) hx hb dX0_find_0 (by decide) ?_
  refine lv_iload_n hx hb dX0_find_1 rfl (lv_at hl 2 rfl) ?_
  refine va_mmax hx hb (by rw [hml]; exact hl.1.symm) hown (hts _ kt_171) (hts _ kt_172) (hts _ kt_173) (hts _ kt_174) (Nat.le_of_ble_eq_true rfl) (Nat.le_of_ble_eq_true rfl) (by show _ ≤ 0; omega) (by show _ ≤ 0; omega) dX0_find_2 ?_
  refine lv_topi (fun x_1 ex_1 => ?_)
  obtain rfl : x_1 = 0 := ex_1.trans (by decide)
  refine lv_istore (lv' := [(4, .int 0), (0, .ref h0), (1, .int x1), (2, .int 0), (3, .int 0)]) hx hb dX0_find_5 hl (by decide) rfl (fun ls hl => ?_)
  refine lv_iload hx hb dX0_find_7 (lv_at hl 0 rfl) ?_
  refine lv_iload_n hx hb dX0_find_9 rfl (lv_at hl 4 rfl) ?_
  refine lv_icmp_ge (tgt := 42) hx hb dX0_find_10 (by decide) (fun c_2 => ?_) (fun c_2 => absurd (by decide) c_2)
  refine lv_iload_n hx hb dX0_find_42 rfl (lv_at hl 4 rfl) ?_
  have hP9 := hP.sub (ws' := [(h0, .inr (0, [.ref q, .int 0, .int 0]))]) [0] rfl
  have hD9 := hD.sub (ws' := [(h0, .inr (0, [.ref q, .int 0, .int 0]))]) [0] (by decide) rfl
  have hK9 := hK.sub (tys' := []) [] rfl
  refine W.widen (k := 0) (n := 0) (by omega) (by omega) ?_
  exact W.iret (v := 0) hx hb hr (fun t ht hW => ⟨⟨0, (), rfl, rfl, QW.mk ht hW hP9 hK9 hD9⟩, hS.F ht⟩) hS.2.2 dX0_find_43
set_option maxHeartbeats 4000000 in
set_option maxRecDepth 100000 in
theorem c_X0_isName (l : Launch) (dC : Nat → ClassId) (dI : Nat → Nat → Nat) (sz : Nat) (h0 : Nat) (q : Nat) : Met l yX0_isName (.code yX0_isName cX0_isName 7 (some .boolean) :: tb) ({ frames := 0, cells := 0, slots := 0, locals := 0 }) (va_Pc [.ref h0, .int 0, .int 0] (PW (dC, dI) sz [(h0, .inr (0, [.ref q, .int 0, .int 0]))] [])) (va_Qi (fun (r : Int32) (_ : Unit) => r = 0) (fun _ T9 => QW (dC, dI) (va_A [(h0, .inr (0, [.ref q, .int 0, .int 0]))] sz) [(h0, .inr (0, [.ref q, .int 0, .int 0]))] [] T9) (va_A [(h0, .inr (0, [.ref q, .int 0, .int 0]))] sz)) 0 0 (va_A [(h0, .inr (0, [.ref q, .int 0, .int 0]))] sz) := by
  refine Met.ofW (cc := cX0_isName) (maxL := 7) (ret := (some .boolean)) (by decide) rfl ?_
  intro p e s m args below meth c s₁ B hml hv
  obtain ⟨rfl, hsz, hP, hK, hD0, hE⟩ := hv
  have hx := B.exec
  have hb := B.bytes
  have hr := B.returns
  have hts : ∀ w ∈ tb, w.before _ s = true := fun w h => atoms_spec (ws := .code yX0_isName cX0_isName 7 (some .boolean) :: tb) B.pre w (List.mem_cons_of_mem _ h)
  have hown : s.vm.findClass RX0 = some m.cls := findClass_of_methodNamed B.named
  have hlocks := B.notSynchronized
  subst hsz
  have hD := hD0.self (sz := s.heap.size)
  generalize hAe : va_A [(h0, .inr (0, [.ref q, .int 0, .int 0]))] s.heap.size = A at hD ⊢
  have hA : ∀ q : Nat, s.heap.size ≤ q → A q := fun q h => by rw [← hAe]; exact Or.inr h
  have hS : va_S A s.heap s.heap [] := va_S.rf
  have hP : va_P (dC, dI) vwCl [(h0, .inr (0, [.ref q, .int 0, .int 0]))] s.heap := hP
  have hl := lv_entry ([.ref h0, .int 0, .int 0]) (n := 7) (Nat.le_of_ble_eq_true rfl)
  rw [lg_entry_eq]
  generalize (lg_sl ([.ref h0, .int 0, .int 0]) ++ List.replicate (7 - (lg_sl ([.ref h0, .int 0, .int 0])).length) Slot.unset).toArray = ls at hl ⊢
  have hl : lv_has ls 7 [(0, .ref h0), (1, .int 0), (2, .int 0)] := hl
  refine lv_aload_n hx hb dX0_isName_0 rfl (lv_at hl 0 rfl) ?_
  refine va_get (D := (dC, dI)) (ci := 0) (v := .int 0) (C := RX0) (T := TX0) (N := 3) hx hb hts it_0 hown hK hP 0 rfl rfl 2 (by decide) (hts _ kt_4) (fun _ h9 => h9) rfl dX0_isName_1 ?_
  refine lv_if_ne (tgt := 22) hx hb dX0_isName_4 (by decide) (fun c_1 => absurd (by decide) c_1) (fun c_1 => ?_)
  refine lv_iload_n hx hb dX0_isName_7 rfl (lv_at hl 2 rfl) ?_
  refine lv_iload_n hx hb dX0_isName_8 rfl (lv_at hl 1 rfl) ?_
  refine lv_isub hx hb dX0_isName_9 ?_
  refine lv_topi (fun x_2 ex_2 => ?_)
  obtain rfl : x_2 = 0 := ex_2.trans (by decide)
  refine lv_iconst (v := 1) hx hb dX0_isName_10 (by decide) ?_
  refine lv_icmp_lt (tgt := 22) hx hb dX0_isName_11 (by decide) (fun c_3 => ?_) (fun c_3 => absurd (by decide) c_3)
  refine lv_iconst (v := 0) hx hb dX0_isName_22 (by decide) ?_
  have hP9 := hP.sub (ws' := [(h0, .inr (0, [.ref q, .int 0, .int 0]))]) [0] rfl
  have hD9 := hD.sub (ws' := [(h0, .inr (0, [.ref q, .int 0, .int 0]))]) [0] (by decide) rfl
  have hK9 := hK.sub (tys' := []) [] rfl
  refine W.widen (k := 0) (n := 0) (by omega) (by omega) ?_
  exact W.zret (v := 0) (ty := .boolean) hx hb hr (by decide) (fun t ht hW => ⟨⟨0, (), rfl, rfl, QW.mk ht hW hP9 hK9 hD9⟩, hS.F ht⟩) hS.2.2 dX0_isName_23
set_option maxHeartbeats 4000000 in
set_option maxRecDepth 100000 in
theorem c_X0_addRange (l : Launch) (dC : Nat → ClassId) (dI : Nat → Nat → Nat) (sz : Nat) (h0 : Nat) (q : Nat) (g1 : Nat) (g2 : Nat) (cA : ClassId) : Met l yX0_addRange (.code yX0_addRange cX0_addRange 7 none :: tb) ({ frames := 1, cells := 0, slots := 0, locals := 21 }) (va_Pc [.ref h0, .ref g1, .int 0, .int 0] (PW (dC, dI) sz [(h0, .inr (0, [.ref q, .int 0, .int 0])), (q, .inl (cA, 3000, .inl (fun _ => 0))), (g1, .inr (0, [.ref g2, .int 0, .int 0]))] [(cA, .int)])) (va_Qv (fun _ : Unit => True) (fun _ T9 => QW (dC, dI) (va_A [(h0, .inr (0, [.ref q, .int 0, .int 0])), (q, .inl (cA, 3000, .inl (fun _ => 0))), (g1, .inr (0, [.ref g2, .int 0, .int 0]))] sz) [(h0, .inr (0, [.ref q, .int 0, .int 0])), (q, .inl (cA, 3000, .inl (fun _ => 0))), (g1, .inr (0, [.ref g2, .int 0, .int 0]))] [(cA, .int)] T9) (va_A [(h0, .inr (0, [.ref q, .int 0, .int 0])), (q, .inl (cA, 3000, .inl (fun _ => 0))), (g1, .inr (0, [.ref g2, .int 0, .int 0]))] sz)) 0 0 (va_A [(h0, .inr (0, [.ref q, .int 0, .int 0])), (q, .inl (cA, 3000, .inl (fun _ => 0))), (g1, .inr (0, [.ref g2, .int 0, .int 0]))] sz) := by
  refine Met.ofW (cc := cX0_addRange) (maxL := 7) (ret := none) (by decide) rfl ?_
  intro p e s m args below meth c s₁ B hml hv
  obtain ⟨rfl, hsz, hP, hK, hD0, hE⟩ := hv
  have hx := B.exec
  have hb := B.bytes
  have hr := B.returns
  have hts : ∀ w ∈ tb, w.before _ s = true := fun w h => atoms_spec (ws := .code yX0_addRange cX0_addRange 7 none :: tb) B.pre w (List.mem_cons_of_mem _ h)
  have hown : s.vm.findClass RX0 = some m.cls := findClass_of_methodNamed B.named
  have hlocks := B.notSynchronized
  subst hsz
  have hD := hD0.self (sz := s.heap.size)
  generalize hAe : va_A [(h0, .inr (0, [.ref q, .int 0, .int 0])), (q, .inl (cA, 3000, .inl (fun _ => 0))), (g1, .inr (0, [.ref g2, .int 0, .int 0]))] s.heap.size = A at hD ⊢
  have hA : ∀ q : Nat, s.heap.size ≤ q → A q := fun q h => by rw [← hAe]; exact Or.inr h
  have hS : va_S A s.heap s.heap [] := va_S.rf
  have hP : va_P (dC, dI) vwCl [(h0, .inr (0, [.ref q, .int 0, .int 0])), (q, .inl (cA, 3000, .inl (fun _ => 0))), (g1, .inr (0, [.ref g2, .int 0, .int 0]))] s.heap := hP
  have hl := lv_entry ([.ref h0, .ref g1, .int 0, .int 0]) (n := 7) (Nat.le_of_ble_eq_true rfl)
  rw [lg_entry_eq]
  generalize (lg_sl ([.ref h0, .ref g1, .int 0, .int 0]) ++ List.replicate (7 - (lg_sl ([.ref h0, .ref g1, .int 0, .int 0])).length) Slot.unset).toArray = ls at hl ⊢
  have hl : lv_has ls 7 [(0, .ref h0), (1, .ref g1), (2, .int 0), (3, .int 0)] := hl
  refine lv_iconst (v := 0) hx hb dX0_addRange_0 (by decide) ?_
  refine lv_iload_n hx hb dX0_addRange_1 rfl (lv_at hl 2 rfl) ?_
  refine va_mmax hx hb (by rw [hml]; exact hl.1.symm) hown (hts _ kt_171) (hts _ kt_172) (hts _ kt_173) (hts _ kt_174) (Nat.le_of_ble_eq_true rfl) (Nat.le_of_ble_eq_true rfl) (by show _ ≤ 0; omega) (by show _ ≤ 0; omega) dX0_addRange_2 ?_
  refine lv_topi (fun x_1 ex_1 => ?_)
  obtain rfl : x_1 = 0 := ex_1.trans (by decide)
  refine lv_istore (lv' := [(4, .int 0), (0, .ref h0), (1, .ref g1), (2, .int 0), (3, .int 0)]) hx hb dX0_addRange_5 hl (by decide) rfl (fun ls hl => ?_)
  refine lv_iload_n hx hb dX0_addRange_7 rfl (lv_at hl 4 rfl) ?_
  refine lv_aload_n hx hb dX0_addRange_8 rfl (lv_at hl 2 rfl) ?_
  refine va_get (D := (dC, dI)) (ci := 0) (v := .int 0) (C := RX0) (T := TX0) (N := 3) hx hb hts it_0 hown hK hP 2 rfl rfl 1 (by decide) (hts _ kt_3) (fun _ h9 => h9) rfl dX0_addRange_9 ?_
  refine va_mmin hx hb (by rw [hml]; exact hl.1.symm) hown (hts _ kt_175) (hts _ kt_176) (hts _ kt_173) (hts _ kt_177) (Nat.le_of_ble_eq_true rfl) (Nat.le_of_ble_eq_true rfl) (by show _ ≤ 0; omega) (by show _ ≤ 0; omega) dX0_addRange_12 ?_
  refine lv_topi (fun x_2 ex_2 => ?_)
  obtain rfl : x_2 = 0 := ex_2.trans (by decide)
  refine lv_iload hx hb dX0_addRange_15 (lv_at hl 0 rfl) ?_
  refine lv_isub hx hb dX0_addRange_17 ?_
  refine lv_topi (fun x_3 ex_3 => ?_)
  obtain rfl : x_3 = 0 := ex_3.trans (by decide)
  refine lv_istore (lv' := [(5, .int 0), (4, .int 0), (0, .ref h0), (1, .ref g1), (2, .int 0), (3, .int 0)]) hx hb dX0_addRange_18 hl (by decide) rfl (fun ls hl => ?_)
  refine lv_iload hx hb dX0_addRange_20 (lv_at hl 0 rfl) ?_
  refine lv_aload_n hx hb dX0_addRange_22 rfl (lv_at hl 2 rfl) ?_
  refine va_get (D := (dC, dI)) (ci := 0) (v := .ref q) (C := RX0) (T := TX0) (N := 3) hx hb hts it_0 hown hK hP 0 rfl rfl 0 (by decide) (hts _ kt_6) (fun _ h9 => h9) rfl dX0_addRange_23 ?_
  refine va_alen (v := 3000) hx hb hK hP 1 0 rfl rfl rfl dX0_addRange_26 ?_
  refine lv_aload_n hx hb dX0_addRange_27 rfl (lv_at hl 2 rfl) ?_
  refine va_get (D := (dC, dI)) (ci := 0) (v := .int 0) (C := RX0) (T := TX0) (N := 3) hx hb hts it_0 hown hK hP 0 rfl rfl 1 (by decide) (hts _ kt_3) (fun _ h9 => h9) rfl dX0_addRange_28 ?_
  refine lv_isub hx hb dX0_addRange_31 ?_
  refine lv_topi (fun x_4 ex_4 => ?_)
  obtain rfl : x_4 = 3000 := ex_4.trans (by decide)
  refine va_mmin hx hb (by rw [hml]; exact hl.1.symm) hown (hts _ kt_175) (hts _ kt_176) (hts _ kt_173) (hts _ kt_177) (Nat.le_of_ble_eq_true rfl) (Nat.le_of_ble_eq_true rfl) (by show _ ≤ 0; omega) (by show _ ≤ 0; omega) dX0_addRange_32 ?_
  refine lv_topi (fun x_5 ex_5 => ?_)
  obtain rfl : x_5 = 0 := ex_5.trans (by decide)
  refine lv_istore (lv' := [(6, .int 0), (5, .int 0), (4, .int 0), (0, .ref h0), (1, .ref g1), (2, .int 0), (3, .int 0)]) hx hb dX0_addRange_35 hl (by decide) rfl (fun ls hl => ?_)
  refine lv_iload hx hb dX0_addRange_37 (lv_at hl 0 rfl) ?_
  refine lv_if_le (tgt := 72) hx hb dX0_addRange_39 (by decide) (fun c_6 => ?_) (fun c_6 => absurd (by decide) c_6)
  refine lv_aload_n hx hb dX0_addRange_72 rfl (lv_at hl 3 rfl) ?_
  refine lv_aload_n hx hb dX0_addRange_73 rfl (lv_at hl 3 rfl) ?_
  refine va_get (D := (dC, dI)) (ci := 0) (v := .int 0) (C := RX0) (T := TX0) (N := 3) hx hb hts it_0 hown hK hP 0 rfl rfl 2 (by decide) (hts _ kt_4) (fun _ h9 => h9) rfl dX0_addRange_74 ?_
  refine lv_if_ne (tgt := 87) hx hb dX0_addRange_77 (by decide) (fun c_7 => absurd (by decide) c_7) (fun c_7 => ?_)
  refine lv_iload hx hb dX0_addRange_80 (lv_at hl 0 rfl) ?_
  refine lv_iload hx hb dX0_addRange_82 (lv_at hl 1 rfl) ?_
  refine lv_icmp_ge (tgt := 91) hx hb dX0_addRange_84 (by decide) (fun c_8 => ?_) (fun c_8 => absurd (by decide) c_8)
  refine lv_iconst (v := 0) hx hb dX0_addRange_91 (by decide) ?_
  refine va_put (D := (dC, dI)) (ci := 0) (v := .int 0) (ty := .boolean) (C := RX0) (T := TX0) (N := 3) hx hb hts it_0 tyX0 tyX0_ok nmX0 hown hK hP hD hS 0 rfl rfl 2 (by decide) (hts _ kt_4) (fun _ h9 => h9) rfl (by decide +kernel) rfl rfl (Nat.le_of_ble_eq_true rfl) dX0_addRange_92 (fun H locs hP hD hS => ?_)
  have hP : va_P (dC, dI) vwCl [(h0, .inr (0, [.ref q, .int 0, .int 0])), (q, .inl (cA, 3000, .inl (fun _ => 0))), (g1, .inr (0, [.ref g2, .int 0, .int 0]))] H := hP
  have hD : va_D A [(h0, .inr (0, [.ref q, .int 0, .int 0])), (q, .inl (cA, 3000, .inl (fun _ => 0))), (g1, .inr (0, [.ref g2, .int 0, .int 0]))] := hD
  have hP9 := hP.sub (ws' := [(h0, .inr (0, [.ref q, .int 0, .int 0])), (q, .inl (cA, 3000, .inl (fun _ => 0))), (g1, .inr (0, [.ref g2, .int 0, .int 0]))]) [0, 1, 2] rfl
  have hD9 := hD.sub (ws' := [(h0, .inr (0, [.ref q, .int 0, .int 0])), (q, .inl (cA, 3000, .inl (fun _ => 0))), (g1, .inr (0, [.ref g2, .int 0, .int 0]))]) [0, 1, 2] (by decide) rfl
  have hK9 := hK.sub (tys' := [(cA, .int)]) [0] rfl
  refine W.widen (k := 0) (n := 0) (by omega) (by omega) ?_
  exact W.vret hx hb hr (fun t ht hW => ⟨⟨(), rfl, trivial, QW.mk ht hW hP9 hK9 hD9⟩, hS.F ht⟩) hS.2.2 dX0_addRange_95
set_option maxHeartbeats 4000000 in
set_option maxRecDepth 100000 in
theorem c_X0_copy (l : Launch) (dC : Nat → ClassId) (dI : Nat → Nat → Nat) (sz : Nat) (h0 : Nat) (q : Nat) (g1 : Nat) (g2 : Nat) (cA : ClassId) : Met l yX0_copy (.code yX0_copy cX0_copy 2 none :: tb) ({ frames := 2, cells := 0, slots := 0, locals := 47 }) (va_Pc [.ref h0, .ref g1] (PW (dC, dI) sz [(h0, .inr (0, [.ref q, .int 0, .int 0])), (q, .inl (cA, 3000, .inl (fun _ => 0))), (g1, .inr (0, [.ref g2, .int 0, .int 0]))] [(cA, .int)])) (va_Qv (fun _ : Unit => True) (fun _ T9 => QW (dC, dI) (va_A [(h0, .inr (0, [.ref q, .int 0, .int 0])), (q, .inl (cA, 3000, .inl (fun _ => 0))), (g1, .inr (0, [.ref g2, .int 0, .int 0]))] sz) [(h0, .inr (0, [.ref q, .int 0, .int 0])), (q, .inl (cA, 3000, .inl (fun _ => 0))), (g1, .inr (0, [.ref g2, .int 0, .int 0]))] [(cA, .int)] T9) (va_A [(h0, .inr (0, [.ref q, .int 0, .int 0])), (q, .inl (cA, 3000, .inl (fun _ => 0))), (g1, .inr (0, [.ref g2, .int 0, .int 0]))] sz)) 0 0 (va_A [(h0, .inr (0, [.ref q, .int 0, .int 0])), (q, .inl (cA, 3000, .inl (fun _ => 0))), (g1, .inr (0, [.ref g2, .int 0, .int 0]))] sz) := by
  refine Met.ofW (cc := cX0_copy) (maxL := 2) (ret := none) (by decide) rfl ?_
  intro p e s m args below meth c s₁ B hml hv
  obtain ⟨rfl, hsz, hP, hK, hD0, hE⟩ := hv
  have hx := B.exec
  have hb := B.bytes
  have hr := B.returns
  have hts : ∀ w ∈ tb, w.before _ s = true := fun w h => atoms_spec (ws := .code yX0_copy cX0_copy 2 none :: tb) B.pre w (List.mem_cons_of_mem _ h)
  have hown : s.vm.findClass RX0 = some m.cls := findClass_of_methodNamed B.named
  have hlocks := B.notSynchronized
  subst hsz
  have hD := hD0.self (sz := s.heap.size)
  generalize hAe : va_A [(h0, .inr (0, [.ref q, .int 0, .int 0])), (q, .inl (cA, 3000, .inl (fun _ => 0))), (g1, .inr (0, [.ref g2, .int 0, .int 0]))] s.heap.size = A at hD ⊢
  have hA : ∀ q : Nat, s.heap.size ≤ q → A q := fun q h => by rw [← hAe]; exact Or.inr h
  have hS : va_S A s.heap s.heap [] := va_S.rf
  have hP : va_P (dC, dI) vwCl [(h0, .inr (0, [.ref q, .int 0, .int 0])), (q, .inl (cA, 3000, .inl (fun _ => 0))), (g1, .inr (0, [.ref g2, .int 0, .int 0]))] s.heap := hP
  have hl := lv_entry ([.ref h0, .ref g1]) (n := 2) (Nat.le_of_ble_eq_true rfl)
  rw [lg_entry_eq]
  generalize (lg_sl ([.ref h0, .ref g1]) ++ List.replicate (2 - (lg_sl ([.ref h0, .ref g1])).length) Slot.unset).toArray = ls at hl ⊢
  have hl : lv_has ls 2 [(0, .ref h0), (1, .ref g1)] := hl
  refine lv_aload_n hx hb dX0_copy_0 rfl (lv_at hl 0 rfl) ?_
  have hPc := hP.sub (ws' := [(h0, .inr (0, [.ref q, .int 0, .int 0]))]) [0] rfl
  have hDc := hD.sub (ws' := [(h0, .inr (0, [.ref q, .int 0, .int 0]))]) [0] (by decide) rfl
  have hKc := hK.sub (tys' := []) [] rfl
  have hFc := va_free (wc := [(h0, .inr (0, [.ref q, .int 0, .int 0]))]) hD hS hA [0] rfl
  refine va_callv (va_runV (As := []) (rest := []) ⟨hx, hb, hml, hown, hts⟩ (c_X0_clear l dC dI s.heap.size h0 q 0 0 ) ⟨callB_of 0 hts (gi kt_178) rfl rfl rfl (hts _ kt_10) (hts _ kt_179) (by decide +kernel) ⟨Nat.le_of_ble_eq_true rfl, Nat.le_of_ble_eq_true rfl⟩, (hts _ kt_180), (hts _ kt_181)⟩ ⟨fun a U g mk q => ⟨q.1, PW.calling q.2⟩, va_recv hKc hPc (ci := 0) (q0 := 0) rfl rfl, fun U hU hW => ⟨rfl, PW.mk hU hW hPc hKc hDc hE⟩⟩ rfl rfl hl.1 rfl (lv_room (Nat.le_of_ble_eq_true rfl)) dX0_copy_1 ⟨by show _ + 0 ≤ 0; omega, by show _ + 0 ≤ 0; omega⟩) hS (fun q _ h => hFc q h) hFc (fun u t H1 locs ht hvm hw hB hz1 hk1 hS => ?_)
  have hB1 := hB
  obtain ⟨hP, hD, hK⟩ := QW.join (wr := [(q, .inl (cA, 3000, .inl (fun _ => 0))), (g1, .inr (0, [.ref g2, .int 0, .int 0]))]) hP hD hK [0] [1, 2] rfl rfl (by decide) (by decide) hk1 hFc ht hvm hB1
  generalize H1 = H at hP hS ⊢
  have hK : va_K (dC, dI) vwCl [(cA, .int)] s := hK.sub [0] rfl
  have hP : va_P (dC, dI) vwCl [(q, .inl (cA, 3000, .inl (fun _ => 0))), (g1, .inr (0, [.ref g2, .int 0, .int 0])), (h0, .inr (0, [.ref q, .int 0, .int 0]))] H := hP
  have hD : va_D A [(q, .inl (cA, 3000, .inl (fun _ => 0))), (g1, .inr (0, [.ref g2, .int 0, .int 0])), (h0, .inr (0, [.ref q, .int 0, .int 0]))] := hD
  refine lv_aload_n hx hb dX0_copy_4 rfl (lv_at hl 0 rfl) ?_
  refine lv_aload_n hx hb dX0_copy_5 rfl (lv_at hl 1 rfl) ?_
  refine lv_iconst (v := 0) hx hb dX0_copy_6 (by decide) ?_
  refine lv_aload_n hx hb dX0_copy_7 rfl (lv_at hl 1 rfl) ?_
  refine va_get (D := (dC, dI)) (ci := 0) (v := .int 0) (C := RX0) (T := TX0) (N := 3) hx hb hts it_0 hown hK hP 1 rfl rfl 1 (by decide) (hts _ kt_3) (fun _ h9 => h9) rfl dX0_copy_8 ?_
  have hPc := hP.sub (ws' := [(h0, .inr (0, [.ref q, .int 0, .int 0])), (q, .inl (cA, 3000, .inl (fun _ => 0))), (g1, .inr (0, [.ref g2, .int 0, .int 0]))]) [2, 0, 1] rfl
  have hDc := hD.sub (ws' := [(h0, .inr (0, [.ref q, .int 0, .int 0])), (q, .inl (cA, 3000, .inl (fun _ => 0))), (g1, .inr (0, [.ref g2, .int 0, .int 0]))]) [2, 0, 1] (by decide) rfl
  have hKc := hK.sub (tys' := [(cA, .int)]) [0] rfl
  have hFc := va_free (wc := [(h0, .inr (0, [.ref q, .int 0, .int 0])), (q, .inl (cA, 3000, .inl (fun _ => 0))), (g1, .inr (0, [.ref g2, .int 0, .int 0]))]) hD hS hA [2, 0, 1] rfl
  refine va_callv (va_runV (As := [.ref g1, .int 0, .int 0]) (rest := []) ⟨hx, hb, hml, hown, hts⟩ (c_X0_addRange l dC dI H.size h0 q g1 g2 cA ) ⟨callB_of 3 hts (gi kt_182) rfl rfl rfl (hts _ kt_10) (hts _ kt_183) (by decide +kernel) ⟨Nat.le_of_ble_eq_true rfl, Nat.le_of_ble_eq_true rfl⟩, (hts _ kt_184), (hts _ kt_185)⟩ ⟨fun a U g mk q => ⟨q.1, PW.calling q.2⟩, va_recv hKc hPc (ci := 0) (q0 := 0) rfl rfl, fun U hU hW => ⟨rfl, PW.mk hU hW hPc hKc hDc hE⟩⟩ rfl rfl hl.1 rfl (lv_room (Nat.le_of_ble_eq_true rfl)) dX0_copy_11 ⟨by show _ + 0 ≤ 0; omega, by show _ + 0 ≤ 0; omega⟩) hS (fun q _ h => hFc q h) hFc (fun u t H1 locs ht hvm hw hB hz1 hk1 hS => ?_)
  have hB1 := hB
  obtain ⟨hP, hD, hK⟩ := QW.join (wr := []) hP hD hK [2, 0, 1] [] rfl rfl (by decide) (by decide) hk1 hFc ht hvm hB1
  generalize H1 = H at hP hS ⊢
  have hK : va_K (dC, dI) vwCl [(cA, .int)] s := hK.sub [0] rfl
  have hP : va_P (dC, dI) vwCl [(h0, .inr (0, [.ref q, .int 0, .int 0])), (q, .inl (cA, 3000, .inl (fun _ => 0))), (g1, .inr (0, [.ref g2, .int 0, .int 0]))] H := hP
  have hD : va_D A [(h0, .inr (0, [.ref q, .int 0, .int 0])), (q, .inl (cA, 3000, .inl (fun _ => 0))), (g1, .inr (0, [.ref g2, .int 0, .int 0]))] := hD
  have hP9 := hP.sub (ws' := [(h0, .inr (0, [.ref q, .int 0, .int 0])), (q, .inl (cA, 3000, .inl (fun _ => 0))), (g1, .inr (0, [.ref g2, .int 0, .int 0]))]) [0, 1, 2] rfl
  have hD9 := hD.sub (ws' := [(h0, .inr (0, [.ref q, .int 0, .int 0])), (q, .inl (cA, 3000, .inl (fun _ => 0))), (g1, .inr (0, [.ref g2, .int 0, .int 0]))]) [0, 1, 2] (by decide) rfl
  have hK9 := hK.sub (tys' := [(cA, .int)]) [0] rfl
  refine W.widen (k := 0) (n := 0) (by omega) (by omega) ?_
  exact W.vret hx hb hr (fun t ht hW => ⟨⟨(), rfl, trivial, QW.mk ht hW hP9 hK9 hD9⟩, hS.F ht⟩) hS.2.2 dX0_copy_14
set_option maxHeartbeats 4000000 in
set_option maxRecDepth 100000 in
theorem c_X0_add (l : Launch) (dC : Nat → ClassId) (dI : Nat → Nat → Nat) (sz : Nat) (h0 : Nat) (q : Nat) (n : Nat) (cA : ClassId) (f : Nat → Int32) (x1 : Int32) (hn : n < 3000) : Met l yX0_add (.code yX0_add cX0_add 2 none :: tb) ({ frames := 0, cells := 0, slots := 0, locals := 0 }) (va_Pc [.ref h0, .int x1] (PW (dC, dI) sz [(h0, .inr (0, [.ref q, .int (nI n), .int 0])), (q, .inl (cA, 3000, .inl f))] [(cA, .int)])) (va_Qv (fun _ : Unit => True) (fun _ T9 => ∃ (f2 : Nat → Int32), QW (dC, dI) (va_A [(h0, .inr (0, [.ref q, .int (nI n), .int 0])), (q, .inl (cA, 3000, .inl f))] sz) [(h0, .inr (0, [.ref q, .int (nI (n + 1)), .int 0])), (q, .inl (cA, 3000, .inl f2))] [(cA, .int)] T9) (va_A [(h0, .inr (0, [.ref q, .int (nI n), .int 0])), (q, .inl (cA, 3000, .inl f))] sz)) 0 0 (va_A [(h0, .inr (0, [.ref q, .int (nI n), .int 0])), (q, .inl (cA, 3000, .inl f))] sz) := by
  refine Met.ofW (cc := cX0_add) (maxL := 2) (ret := none) (by decide) rfl ?_
  intro p e s m args below meth c s₁ B hml hv
  obtain ⟨rfl, hsz, hP, hK, hD0, hE⟩ := hv
  have hx := B.exec
  have hb := B.bytes
  have hr := B.returns
  have hts : ∀ w ∈ tb, w.before _ s = true := fun w h => atoms_spec (ws := .code yX0_add cX0_add 2 none :: tb) B.pre w (List.mem_cons_of_mem _ h)
  have hown : s.vm.findClass RX0 = some m.cls := findClass_of_methodNamed B.named
  have hlocks := B.notSynchronized
  subst hsz
  have hD := hD0.self (sz := s.heap.size)
  generalize hAe : va_A [(h0, .inr (0, [.ref q, .int (nI n), .int 0])), (q, .inl (cA, 3000, .inl f))] s.heap.size = A at hD ⊢
  have hA : ∀ q : Nat, s.heap.size ≤ q → A q := fun q h => by rw [← hAe]; exact Or.inr h
  have hS : va_S A s.heap s.heap [] := va_S.rf
  have hP : va_P (dC, dI) vwCl [(h0, .inr (0, [.ref q, .int (nI n), .int 0])), (q, .inl (cA, 3000, .inl f))] s.heap := hP
  have hl := lv_entry ([.ref h0, .int x1]) (n := 2) (Nat.le_of_ble_eq_true rfl)
  rw [lg_entry_eq]
  generalize (lg_sl ([.ref h0, .int x1]) ++ List.replicate (2 - (lg_sl ([.ref h0, .int x1])).length) Slot.unset).toArray = ls at hl ⊢
  have hl : lv_has ls 2 [(0, .ref h0), (1, .int x1)] := hl
  refine lv_aload_n hx hb dX0_add_0 rfl (lv_at hl 0 rfl) ?_
  refine va_get (D := (dC, dI)) (ci := 0) (v := .int (nI n)) (C := RX0) (T := TX0) (N := 3) hx hb hts it_0 hown hK hP 0 rfl rfl 1 (by decide) (hts _ kt_3) (fun _ h9 => h9) rfl dX0_add_1 ?_
  refine lv_aload_n hx hb dX0_add_4 rfl (lv_at hl 0 rfl) ?_
  refine va_get (D := (dC, dI)) (ci := 0) (v := .ref q) (C := RX0) (T := TX0) (N := 3) hx hb hts it_0 hown hK hP 0 rfl rfl 0 (by decide) (hts _ kt_6) (fun _ h9 => h9) rfl dX0_add_5 ?_
  refine va_alen (v := 3000) hx hb hK hP 1 0 rfl rfl rfl dX0_add_8 ?_
  refine lv_icmp_ge (tgt := 35) hx hb dX0_add_9 (by decide) (fun c_1 => absurd c_1 (show ¬ nI 3000 ≤ nI n from nI_ge hn (by omega))) (fun c_1 => ?_)
  refine lv_aload_n hx hb dX0_add_12 rfl (lv_at hl 0 rfl) ?_
  refine va_get (D := (dC, dI)) (ci := 0) (v := .ref q) (C := RX0) (T := TX0) (N := 3) hx hb hts it_0 hown hK hP 0 rfl rfl 0 (by decide) (hts _ kt_6) (fun _ h9 => h9) rfl dX0_add_13 ?_
  refine lv_aload_n hx hb dX0_add_16 rfl (lv_at hl 0 rfl) ?_
  refine va_get (D := (dC, dI)) (ci := 0) (v := .int (nI n)) (C := RX0) (T := TX0) (N := 3) hx hb hts it_0 hown hK hP 0 rfl rfl 1 (by decide) (hts _ kt_3) (fun _ h9 => h9) rfl dX0_add_17 ?_
  refine lv_iload_n hx hb dX0_add_20 rfl (lv_at hl 1 rfl) ?_
  refine va_iast hx hb hK hP hD hS 1 0 rfl rfl (vp_in_nI (by omega) (by omega)) dX0_add_21 (fun H locs hP hD hS => ?_)
  obtain ⟨f_2, hP, hD⟩ : ∃ f_2 : Nat → Int32, va_P (dC, dI) vwCl [(h0, .inr (0, [.ref q, .int (nI n), .int 0])), (q, .inl (cA, 3000, .inl f_2))] H ∧ va_D A [(h0, .inr (0, [.ref q, .int (nI n), .int 0])), (q, .inl (cA, 3000, .inl f_2))] := ⟨_, hP, hD⟩
  refine lv_aload_n hx hb dX0_add_22 rfl (lv_at hl 0 rfl) ?_
  refine lv_dup hx hb dX0_add_23 rfl ?_
  refine va_get (D := (dC, dI)) (ci := 0) (v := .int (nI n)) (C := RX0) (T := TX0) (N := 3) hx hb hts it_0 hown hK hP 0 rfl rfl 1 (by decide) (hts _ kt_3) (fun _ h9 => h9) rfl dX0_add_24 ?_
  refine lv_iconst (v := 1) hx hb dX0_add_27 (by decide) ?_
  refine lv_iadd hx hb dX0_add_28 ?_
  refine lv_topi (fun x_3 ex_3 => ?_)
  obtain rfl : x_3 = (nI (n + 1)) := ex_3.trans (nI_1 n)
  refine va_put (D := (dC, dI)) (ci := 0) (v := .int (nI (n + 1))) (ty := .int) (C := RX0) (T := TX0) (N := 3) hx hb hts it_0 tyX0 tyX0_ok nmX0 hown hK hP hD hS 0 rfl rfl 1 (by decide) (hts _ kt_3) (fun _ h9 => h9) rfl (by decide +kernel) rfl rfl (Nat.le_of_ble_eq_true rfl) dX0_add_29 (fun H locs hP hD hS => ?_)
  have hP : va_P (dC, dI) vwCl [(h0, .inr (0, [.ref q, .int (nI (n + 1)), .int 0])), (q, .inl (cA, 3000, .inl f_2))] H := hP
  have hD : va_D A [(h0, .inr (0, [.ref q, .int (nI (n + 1)), .int 0])), (q, .inl (cA, 3000, .inl f_2))] := hD
  refine lv_goto (tgt := 40) hx hb dX0_add_32 (by decide) ?_
  have hP9 := hP.sub (ws' := [(h0, .inr (0, [.ref q, .int (nI (n + 1)), .int 0])), (q, .inl (cA, 3000, .inl f_2))]) [0, 1] rfl
  have hD9 := hD.sub (ws' := [(h0, .inr (0, [.ref q, .int (nI (n + 1)), .int 0])), (q, .inl (cA, 3000, .inl f_2))]) [0, 1] (by decide) rfl
  have hK9 := hK.sub (tys' := [(cA, .int)]) [0] rfl
  refine W.widen (k := 0) (n := 0) (by omega) (by omega) ?_
  exact W.vret hx hb hr (fun t ht hW => ⟨⟨(), rfl, trivial, ⟨f_2, QW.mk ht hW hP9 hK9 hD9⟩⟩, hS.F ht⟩) hS.2.2 dX0_add_40
set_option maxHeartbeats 4000000 in
set_option maxRecDepth 100000 in
theorem c_X0_addFour (l : Launch) (dC : Nat → ClassId) (dI : Nat → Nat → Nat) (sz : Nat) (h0 : Nat) (q : Nat) (n : Nat) (cA : ClassId) (f : Nat → Int32) (x1 : Int32) (hn : n + 4 ≤ 3000) : Met l yX0_addFour (.code yX0_addFour cX0_addFour 3 none :: tb) ({ frames := 1, cells := 0, slots := 0, locals := 21 }) (va_Pc [.ref h0, .int x1] (PW (dC, dI) sz [(h0, .inr (0, [.ref q, .int (nI n), .int 0])), (q, .inl (cA, 3000, .inl f))] [(cA, .int)])) (va_Qv (fun _ : Unit => True) (fun _ T9 => ∃ (f2 : Nat → Int32), QW (dC, dI) (va_A [(h0, .inr (0, [.ref q, .int (nI n), .int 0])), (q, .inl (cA, 3000, .inl f))] sz) [(h0, .inr (0, [.ref q, .int (nI (n + 4)), .int 0])), (q, .inl (cA, 3000, .inl f2))] [(cA, .int)] T9) (va_A [(h0, .inr (0, [.ref q, .int (nI n), .int 0])), (q, .inl (cA, 3000, .inl f))] sz)) 0 0 (va_A [(h0, .inr (0, [.ref q, .int (nI n), .int 0])), (q, .inl (cA, 3000, .inl f))] sz) := by
  refine Met.ofW (cc := cX0_addFour) (maxL := 3) (ret := none) (by decide) rfl ?_
  intro p e s m args below meth c s₁ B hml hv
  obtain ⟨rfl, hsz, hP, hK, hD0, hE⟩ := hv
  have hx := B.exec
  have hb := B.bytes
  have hr := B.returns
  have hts : ∀ w ∈ tb, w.before _ s = true := fun w h => atoms_spec (ws := .code yX0_addFour cX0_addFour 3 none :: tb) B.pre w (List.mem_cons_of_mem _ h)
  have hown : s.vm.findClass RX0 = some m.cls := findClass_of_methodNamed B.named
  have hlocks := B.notSynchronized
  subst hsz
  have hD := hD0.self (sz := s.heap.size)
  generalize hAe : va_A [(h0, .inr (0, [.ref q, .int (nI n), .int 0])), (q, .inl (cA, 3000, .inl f))] s.heap.size = A at hD ⊢
  have hA : ∀ q : Nat, s.heap.size ≤ q → A q := fun q h => by rw [← hAe]; exact Or.inr h
  have hS : va_S A s.heap s.heap [] := va_S.rf
  have hP : va_P (dC, dI) vwCl [(h0, .inr (0, [.ref q, .int (nI n), .int 0])), (q, .inl (cA, 3000, .inl f))] s.heap := hP
  have hl := lv_entry ([.ref h0, .int x1]) (n := 3) (Nat.le_of_ble_eq_true rfl)
  rw [lg_entry_eq]
  generalize (lg_sl ([.ref h0, .int x1]) ++ List.replicate (3 - (lg_sl ([.ref h0, .int x1])).length) Slot.unset).toArray = ls at hl ⊢
  have hl : lv_has ls 3 [(0, .ref h0), (1, .int x1)] := hl
  refine lv_bipush (v := 24) hx hb dX0_addFour_0 (by decide) ?_
  refine lv_istore_n (lv' := [(2, .int 24), (0, .ref h0), (1, .int x1)]) hx hb dX0_addFour_2 rfl hl (by decide) rfl (fun ls hl => ?_)
  refine lv_iload_n hx hb dX0_addFour_3 rfl (lv_at hl 0 rfl) ?_
  refine lv_if_lt (tgt := 24) hx hb dX0_addFour_4 (by decide) (fun c_1 => absurd c_1 (by decide)) (fun c_1 => ?_)
  refine lv_aload_n hx hb dX0_addFour_7 rfl (lv_at hl 1 rfl) ?_
  refine lv_iload_n hx hb dX0_addFour_8 rfl (lv_at hl 2 rfl) ?_
  refine lv_iload_n hx hb dX0_addFour_9 rfl (lv_at hl 0 rfl) ?_
  refine lv_iushr hx hb dX0_addFour_10 rfl ?_
  refine lv_topi (fun x_3 _ => ?_)
  refine lv_sipush (v := 255) hx hb dX0_addFour_11 (by decide) ?_
  refine lv_iand hx hb dX0_addFour_14 ?_
  refine lv_topi (fun x_4 _ => ?_)
  have hPc := hP.sub (ws' := [(h0, .inr (0, [.ref q, .int (nI n), .int 0])), (q, .inl (cA, 3000, .inl f))]) [0, 1] rfl
  have hDc := hD.sub (ws' := [(h0, .inr (0, [.ref q, .int (nI n), .int 0])), (q, .inl (cA, 3000, .inl f))]) [0, 1] (by decide) rfl
  have hKc := hK.sub (tys' := [(cA, .int)]) [0] rfl
  have hFc := va_free (wc := [(h0, .inr (0, [.ref q, .int (nI n), .int 0])), (q, .inl (cA, 3000, .inl f))]) hD hS hA [0, 1] rfl
  refine va_callv (va_runV (As := [.int x_4]) (rest := []) ⟨hx, hb, hml, hown, hts⟩ (c_X0_add l dC dI s.heap.size h0 q n cA f x_4 (by omega)) ⟨callB_of 1 hts (gi kt_186) rfl rfl rfl (hts _ kt_10) (hts _ kt_187) (by decide +kernel) ⟨Nat.le_of_ble_eq_true rfl, Nat.le_of_ble_eq_true rfl⟩, (hts _ kt_188), (hts _ kt_189)⟩ ⟨fun a U g mk q => ⟨q.1, PW.calling q.2⟩, va_recv hKc hPc (ci := 0) (q0 := 0) rfl rfl, fun U hU hW => ⟨rfl, PW.mk hU hW hPc hKc hDc hE⟩⟩ rfl rfl hl.1 rfl (lv_room (Nat.le_of_ble_eq_true rfl)) dX0_addFour_15 ⟨by show _ + 0 ≤ 0; omega, by show _ + 0 ≤ 0; omega⟩) hS (fun q _ h => hFc q h) hFc (fun u t H1 locs ht hvm hw hB hz1 hk1 hS => ?_)
  obtain ⟨f2_6, hB1⟩ := hB
  obtain ⟨hP, hD, hK⟩ := QW.join (wr := []) hP hD hK [0, 1] [] rfl rfl (by decide) (by decide) hk1 hFc ht hvm hB1
  generalize H1 = H at hP hS ⊢
  have hK : va_K (dC, dI) vwCl [(cA, .int)] s := hK.sub [0] rfl
  have hP : va_P (dC, dI) vwCl [(h0, .inr (0, [.ref q, .int (nI (n + 1)), .int 0])), (q, .inl (cA, 3000, .inl f2_6))] H := hP
  have hD : va_D A [(h0, .inr (0, [.ref q, .int (nI (n + 1)), .int 0])), (q, .inl (cA, 3000, .inl f2_6))] := hD
  refine lv_iinc (v := 16) (lv' := [(2, .int 16), (0, .ref h0), (1, .int x1)]) hx hb dX0_addFour_18 hl (k := 0) rfl (by decide) (by decide) rfl (fun ls hl => ?_)
  refine lv_goto (tgt := 3) hx hb dX0_addFour_21 (by decide) ?_
  refine lv_iload_n hx hb dX0_addFour_3 rfl (lv_at hl 0 rfl) ?_
  refine lv_if_lt (tgt := 24) hx hb dX0_addFour_4 (by decide) (fun c_7 => absurd c_7 (by decide)) (fun c_7 => ?_)
  refine lv_aload_n hx hb dX0_addFour_7 rfl (lv_at hl 1 rfl) ?_
  refine lv_iload_n hx hb dX0_addFour_8 rfl (lv_at hl 2 rfl) ?_
  refine lv_iload_n hx hb dX0_addFour_9 rfl (lv_at hl 0 rfl) ?_
  refine lv_iushr hx hb dX0_addFour_10 rfl ?_
  refine lv_topi (fun x_9 _ => ?_)
  refine lv_sipush (v := 255) hx hb dX0_addFour_11 (by decide) ?_
  refine lv_iand hx hb dX0_addFour_14 ?_
  refine lv_topi (fun x_10 _ => ?_)
  have hPc := hP.sub (ws' := [(h0, .inr (0, [.ref q, .int (nI (n + 1)), .int 0])), (q, .inl (cA, 3000, .inl f2_6))]) [0, 1] rfl
  have hDc := hD.sub (ws' := [(h0, .inr (0, [.ref q, .int (nI (n + 1)), .int 0])), (q, .inl (cA, 3000, .inl f2_6))]) [0, 1] (by decide) rfl
  have hKc := hK.sub (tys' := [(cA, .int)]) [0] rfl
  have hFc := va_free (wc := [(h0, .inr (0, [.ref q, .int (nI (n + 1)), .int 0])), (q, .inl (cA, 3000, .inl f2_6))]) hD hS hA [0, 1] rfl
  refine va_callv (va_runV (As := [.int x_10]) (rest := []) ⟨hx, hb, hml, hown, hts⟩ (c_X0_add l dC dI H.size h0 q (n + 1) cA f2_6 x_10 (by omega)) ⟨callB_of 1 hts (gi kt_186) rfl rfl rfl (hts _ kt_10) (hts _ kt_187) (by decide +kernel) ⟨Nat.le_of_ble_eq_true rfl, Nat.le_of_ble_eq_true rfl⟩, (hts _ kt_188), (hts _ kt_189)⟩ ⟨fun a U g mk q => ⟨q.1, PW.calling q.2⟩, va_recv hKc hPc (ci := 0) (q0 := 0) rfl rfl, fun U hU hW => ⟨rfl, PW.mk hU hW hPc hKc hDc hE⟩⟩ rfl rfl hl.1 rfl (lv_room (Nat.le_of_ble_eq_true rfl)) dX0_addFour_15 ⟨by show _ + 0 ≤ 0; omega, by show _ + 0 ≤ 0; omega⟩) hS (fun q _ h => hFc q h) hFc (fun u t H1 locs ht hvm hw hB hz1 hk1 hS => ?_)
  obtain ⟨f2_12, hB1⟩ := hB
  obtain ⟨hP, hD, hK⟩ := QW.join (wr := []) hP hD hK [0, 1] [] rfl rfl (by decide) (by decide) hk1 hFc ht hvm hB1
  generalize H1 = H at hP hS ⊢
  have hK : va_K (dC, dI) vwCl [(cA, .int)] s := hK.sub [0] rfl
  have hP : va_P (dC, dI) vwCl [(h0, .inr (0, [.ref q, .int (nI (n + 2)), .int 0])), (q, .inl (cA, 3000, .inl f2_12))] H := hP
  have hD : va_D A [(h0, .inr (0, [.ref q, .int (nI (n + 2)), .int 0])), (q, .inl (cA, 3000, .inl f2_12))] := hD
  refine lv_iinc (v := 8) (lv' := [(2, .int 8), (0, .ref h0), (1, .int x1)]) hx hb dX0_addFour_18 hl (k := 0) rfl (by decide) (by decide) rfl (fun ls hl => ?_)
  refine lv_goto (tgt := 3) hx hb dX0_addFour_21 (by decide) ?_
  refine lv_iload_n hx hb dX0_addFour_3 rfl (lv_at hl 0 rfl) ?_
  refine lv_if_lt (tgt := 24) hx hb dX0_addFour_4 (by decide) (fun c_13 => absurd c_13 (by decide)) (fun c_13 => ?_)
  refine lv_aload_n hx hb dX0_addFour_7 rfl (lv_at hl 1 rfl) ?_
  refine lv_iload_n hx hb dX0_addFour_8 rfl (lv_at hl 2 rfl) ?_
  refine lv_iload_n hx hb dX0_addFour_9 rfl (lv_at hl 0 rfl) ?_
  refine lv_iushr hx hb dX0_addFour_10 rfl ?_
  refine lv_topi (fun x_15 _ => ?_)
  refine lv_sipush (v := 255) hx hb dX0_addFour_11 (by decide) ?_
  refine lv_iand hx hb dX0_addFour_14 ?_
  refine lv_topi (fun x_16 _ => ?_)
  have hPc := hP.sub (ws' := [(h0, .inr (0, [.ref q, .int (nI (n + 2)), .int 0])), (q, .inl (cA, 3000, .inl f2_12))]) [0, 1] rfl
  have hDc := hD.sub (ws' := [(h0, .inr (0, [.ref q, .int (nI (n + 2)), .int 0])), (q, .inl (cA, 3000, .inl f2_12))]) [0, 1] (by decide) rfl
  have hKc := hK.sub (tys' := [(cA, .int)]) [0] rfl
  have hFc := va_free (wc := [(h0, .inr (0, [.ref q, .int (nI (n + 2)), .int 0])), (q, .inl (cA, 3000, .inl f2_12))]) hD hS hA [0, 1] rfl
  refine va_callv (va_runV (As := [.int x_16]) (rest := []) ⟨hx, hb, hml, hown, hts⟩ (c_X0_add l dC dI H.size h0 q (n + 2) cA f2_12 x_16 (by omega)) ⟨callB_of 1 hts (gi kt_186) rfl rfl rfl (hts _ kt_10) (hts _ kt_187) (by decide +kernel) ⟨Nat.le_of_ble_eq_true rfl, Nat.le_of_ble_eq_true rfl⟩, (hts _ kt_188), (hts _ kt_189)⟩ ⟨fun a U g mk q => ⟨q.1, PW.calling q.2⟩, va_recv hKc hPc (ci := 0) (q0 := 0) rfl rfl, fun U hU hW => ⟨rfl, PW.mk hU hW hPc hKc hDc hE⟩⟩ rfl rfl hl.1 rfl (lv_room (Nat.le_of_ble_eq_true rfl)) dX0_addFour_15 ⟨by show _ + 0 ≤ 0; omega, by show _ + 0 ≤ 0; omega⟩) hS (fun q _ h => hFc q h) hFc (fun u t H1 locs ht hvm hw hB hz1 hk1 hS => ?_)
  obtain ⟨f2_18, hB1⟩ := hB
  obtain ⟨hP, hD, hK⟩ := QW.join (wr := []) hP hD hK [0, 1] [] rfl rfl (by decide) (by decide) hk1 hFc ht hvm hB1
  generalize H1 = H at hP hS ⊢
  have hK : va_K (dC, dI) vwCl [(cA, .int)] s := hK.sub [0] rfl
  have hP : va_P (dC, dI) vwCl [(h0, .inr (0, [.ref q, .int (nI (n + 3)), .int 0])), (q, .inl (cA, 3000, .inl f2_18))] H := hP
  have hD : va_D A [(h0, .inr (0, [.ref q, .int (nI (n + 3)), .int 0])), (q, .inl (cA, 3000, .inl f2_18))] := hD
  refine lv_iinc (v := 0) (lv' := [(2, .int 0), (0, .ref h0), (1, .int x1)]) hx hb dX0_addFour_18 hl (k := 0) rfl (by decide) (by decide) rfl (fun ls hl => ?_)
  refine lv_goto (tgt := 3) hx hb dX0_addFour_21 (by decide) ?_
  refine lv_iload_n hx hb dX0_addFour_3 rfl (lv_at hl 0 rfl) ?_
  refine lv_if_lt (tgt := 24) hx hb dX0_addFour_4 (by decide) (fun c_19 => absurd c_19 (by decide)) (fun c_19 => ?_)
  refine lv_aload_n hx hb dX0_addFour_7 rfl (lv_at hl 1 rfl) ?_
  refine lv_iload_n hx hb dX0_addFour_8 rfl (lv_at hl 2 rfl) ?_
  refine lv_iload_n hx hb dX0_addFour_9 rfl (lv_at hl 0 rfl) ?_
  refine lv_iushr hx hb dX0_addFour_10 rfl ?_
  refine lv_topi (fun x_21 _ => ?_)
  refine lv_sipush (v := 255) hx hb dX0_addFour_11 (by decide) ?_
  refine lv_iand hx hb dX0_addFour_14 ?_
  refine lv_topi (fun x_22 _ => ?_)
  have hPc := hP.sub (ws' := [(h0, .inr (0, [.ref q, .int (nI (n + 3)), .int 0])), (q, .inl (cA, 3000, .inl f2_18))]) [0, 1] rfl
  have hDc := hD.sub (ws' := [(h0, .inr (0, [.ref q, .int (nI (n + 3)), .int 0])), (q, .inl (cA, 3000, .inl f2_18))]) [0, 1] (by decide) rfl
  have hKc := hK.sub (tys' := [(cA, .int)]) [0] rfl
  have hFc := va_free (wc := [(h0, .inr (0, [.ref q, .int (nI (n + 3)), .int 0])), (q, .inl (cA, 3000, .inl f2_18))]) hD hS hA [0, 1] rfl
  refine va_callv (va_runV (As := [.int x_22]) (rest := []) ⟨hx, hb, hml, hown, hts⟩ (c_X0_add l dC dI H.size h0 q (n + 3) cA f2_18 x_22 (by omega)) ⟨callB_of 1 hts (gi kt_186) rfl rfl rfl (hts _ kt_10) (hts _ kt_187) (by decide +kernel) ⟨Nat.le_of_ble_eq_true rfl, Nat.le_of_ble_eq_true rfl⟩, (hts _ kt_188), (hts _ kt_189)⟩ ⟨fun a U g mk q => ⟨q.1, PW.calling q.2⟩, va_recv hKc hPc (ci := 0) (q0 := 0) rfl rfl, fun U hU hW => ⟨rfl, PW.mk hU hW hPc hKc hDc hE⟩⟩ rfl rfl hl.1 rfl (lv_room (Nat.le_of_ble_eq_true rfl)) dX0_addFour_15 ⟨by show _ + 0 ≤ 0; omega, by show _ + 0 ≤ 0; omega⟩) hS (fun q _ h => hFc q h) hFc (fun u t H1 locs ht hvm hw hB hz1 hk1 hS => ?_)
  obtain ⟨f2_24, hB1⟩ := hB
  obtain ⟨hP, hD, hK⟩ := QW.join (wr := []) hP hD hK [0, 1] [] rfl rfl (by decide) (by decide) hk1 hFc ht hvm hB1
  generalize H1 = H at hP hS ⊢
  have hK : va_K (dC, dI) vwCl [(cA, .int)] s := hK.sub [0] rfl
  have hP : va_P (dC, dI) vwCl [(h0, .inr (0, [.ref q, .int (nI (n + 4)), .int 0])), (q, .inl (cA, 3000, .inl f2_24))] H := hP
  have hD : va_D A [(h0, .inr (0, [.ref q, .int (nI (n + 4)), .int 0])), (q, .inl (cA, 3000, .inl f2_24))] := hD
  refine lv_iinc (v := (-8)) (lv' := [(2, .int (-8)), (0, .ref h0), (1, .int x1)]) hx hb dX0_addFour_18 hl (k := 0) rfl (by decide) (by decide) rfl (fun ls hl => ?_)
  refine lv_goto (tgt := 3) hx hb dX0_addFour_21 (by decide) ?_
  refine lv_iload_n hx hb dX0_addFour_3 rfl (lv_at hl 0 rfl) ?_
  refine lv_if_lt (tgt := 24) hx hb dX0_addFour_4 (by decide) (fun c_25 => ?_) (fun c_25 => absurd (by decide) c_25)
  have hP9 := hP.sub (ws' := [(h0, .inr (0, [.ref q, .int (nI (n + 4)), .int 0])), (q, .inl (cA, 3000, .inl f2_24))]) [0, 1] rfl
  have hD9 := hD.sub (ws' := [(h0, .inr (0, [.ref q, .int (nI (n + 4)), .int 0])), (q, .inl (cA, 3000, .inl f2_24))]) [0, 1] (by decide) rfl
  have hK9 := hK.sub (tys' := [(cA, .int)]) [0] rfl
  refine W.widen (k := 0) (n := 0) (by omega) (by omega) ?_
  exact W.vret hx hb hr (fun t ht hW => ⟨⟨(), rfl, trivial, ⟨f2_24, QW.mk ht hW hP9 hK9 hD9⟩⟩, hS.F ht⟩) hS.2.2 dX0_addFour_24
end
section
theorem dX1_isLocal_0 : decode cX1_isLocal 0 = .ok (.iconst 0, 1) := by decide +kernel
theorem dX1_isLocal_1 : decode cX1_isLocal 1 = .ok (.istore_n 2, 1) := by decide +kernel
theorem dX1_isLocal_2 : decode cX1_isLocal 2 = .ok (.iload_n 2, 1) := by decide +kernel
theorem dX1_isLocal_3 : decode cX1_isLocal 3 = .ok (.iload_n 1, 1) := by decide +kernel
theorem dX1_isLocal_4 : decode cX1_isLocal 4 = .ok (.if_icmp .ge 67, 3) := by decide +kernel
theorem dX1_isLocal_7 : decode cX1_isLocal 7 = .ok (.aload_n 0, 1) := by decide +kernel
theorem dX1_isLocal_8 : decode cX1_isLocal 8 = .ok (.iload_n 2, 1) := by decide +kernel
theorem dX1_isLocal_9 : decode cX1_isLocal 9 = .ok (.invokevirtual 87, 3) := by decide +kernel
theorem dX1_isLocal_12 : decode cX1_isLocal 12 = .ok (.istore_n 3, 1) := by decide +kernel
theorem dX1_isLocal_13 : decode cX1_isLocal 13 = .ok (.iload_n 3, 1) := by decide +kernel
theorem dX1_isLocal_14 : decode cX1_isLocal 14 = .ok (.bipush 46, 2) := by decide +kernel
theorem dX1_isLocal_16 : decode cX1_isLocal 16 = .ok (.if_icmp .eq 21, 3) := by decide +kernel
theorem dX1_isLocal_19 : decode cX1_isLocal 19 = .ok (.iload_n 3, 1) := by decide +kernel
theorem dX1_isLocal_20 : decode cX1_isLocal 20 = .ok (.bipush 45, 2) := by decide +kernel
theorem dX1_isLocal_22 : decode cX1_isLocal 22 = .ok (.if_icmp .eq 15, 3) := by decide +kernel
theorem dX1_isLocal_25 : decode cX1_isLocal 25 = .ok (.iload_n 3, 1) := by decide +kernel
theorem dX1_isLocal_26 : decode cX1_isLocal 26 = .ok (.bipush 95, 2) := by decide +kernel
theorem dX1_isLocal_28 : decode cX1_isLocal 28 = .ok (.if_icmp .eq 9, 3) := by decide +kernel
theorem dX1_isLocal_31 : decode cX1_isLocal 31 = .ok (.iload_n 3, 1) := by decide +kernel
theorem dX1_isLocal_32 : decode cX1_isLocal 32 = .ok (.bipush 43, 2) := by decide +kernel
theorem dX1_isLocal_34 : decode cX1_isLocal 34 = .ok (.if_icmp .ne 7, 3) := by decide +kernel
theorem dX1_isLocal_37 : decode cX1_isLocal 37 = .ok (.iconst 1, 1) := by decide +kernel
theorem dX1_isLocal_38 : decode cX1_isLocal 38 = .ok (.goto 4, 3) := by decide +kernel
theorem dX1_isLocal_41 : decode cX1_isLocal 41 = .ok (.iconst 0, 1) := by decide +kernel
theorem dX1_isLocal_42 : decode cX1_isLocal 42 = .ok (.istore 4, 2) := by decide +kernel
theorem dX1_isLocal_44 : decode cX1_isLocal 44 = .ok (.iload 4, 2) := by decide +kernel
theorem dX1_isLocal_46 : decode cX1_isLocal 46 = .ok (.ifCond .ne 19, 3) := by decide +kernel
theorem dX1_isLocal_49 : decode cX1_isLocal 49 = .ok (.iload_n 3, 1) := by decide +kernel
theorem dX1_isLocal_50 : decode cX1_isLocal 50 = .ok (.invokestatic 91, 3) := by decide +kernel
theorem dX1_isLocal_53 : decode cX1_isLocal 53 = .ok (.ifCond .ne 12, 3) := by decide +kernel
theorem dX1_isLocal_56 : decode cX1_isLocal 56 = .ok (.iload_n 3, 1) := by decide +kernel
theorem dX1_isLocal_57 : decode cX1_isLocal 57 = .ok (.invokestatic 95, 3) := by decide +kernel
theorem dX1_isLocal_60 : decode cX1_isLocal 60 = .ok (.ifCond .ne 5, 3) := by decide +kernel
theorem dX1_isLocal_63 : decode cX1_isLocal 63 = .ok (.iconst 0, 1) := by decide +kernel
theorem dX1_isLocal_64 : decode cX1_isLocal 64 = .ok (.ireturn, 1) := by decide +kernel
theorem dX1_isLocal_65 : decode cX1_isLocal 65 = .ok (.iinc 2 1, 3) := by decide +kernel
theorem dX1_isLocal_68 : decode cX1_isLocal 68 = .ok (.goto (-66), 3) := by decide +kernel
theorem dX1_isLocal_71 : decode cX1_isLocal 71 = .ok (.iload_n 1, 1) := by decide +kernel
theorem dX1_isLocal_72 : decode cX1_isLocal 72 = .ok (.iconst 1, 1) := by decide +kernel
theorem dX1_isLocal_73 : decode cX1_isLocal 73 = .ok (.if_icmp .lt 13, 3) := by decide +kernel
theorem dX1_isLocal_76 : decode cX1_isLocal 76 = .ok (.iload_n 1, 1) := by decide +kernel
theorem dX1_isLocal_77 : decode cX1_isLocal 77 = .ok (.bipush 30, 2) := by decide +kernel
theorem dX1_isLocal_79 : decode cX1_isLocal 79 = .ok (.if_icmp .gt 7, 3) := by decide +kernel
theorem dX1_isLocal_82 : decode cX1_isLocal 82 = .ok (.iconst 1, 1) := by decide +kernel
theorem dX1_isLocal_83 : decode cX1_isLocal 83 = .ok (.goto 4, 3) := by decide +kernel
theorem dX1_isLocal_86 : decode cX1_isLocal 86 = .ok (.iconst 0, 1) := by decide +kernel
theorem dX1_isLocal_87 : decode cX1_isLocal 87 = .ok (.ireturn, 1) := by decide +kernel
theorem dX1_takeSender_0 : decode cX1_takeSender 0 = .ok (.aload_n 2, 1) := by decide +kernel
theorem dX1_takeSender_1 : decode cX1_takeSender 1 = .ok (.bipush 64, 2) := by decide +kernel
theorem dX1_takeSender_3 : decode cX1_takeSender 3 = .ok (.iconst 0, 1) := by decide +kernel
theorem dX1_takeSender_4 : decode cX1_takeSender 4 = .ok (.aload_n 2, 1) := by decide +kernel
theorem dX1_takeSender_5 : decode cX1_takeSender 5 = .ok (.getfield 58, 3) := by decide +kernel
theorem dX1_takeSender_8 : decode cX1_takeSender 8 = .ok (.invokevirtual 61, 3) := by decide +kernel
theorem dX1_takeSender_11 : decode cX1_takeSender 11 = .ok (.istore_n 3, 1) := by decide +kernel
theorem dX1_takeSender_12 : decode cX1_takeSender 12 = .ok (.aload_n 2, 1) := by decide +kernel
theorem dX1_takeSender_13 : decode cX1_takeSender 13 = .ok (.iload_n 3, 1) := by decide +kernel
theorem dX1_takeSender_14 : decode cX1_takeSender 14 = .ok (.invokestatic 65, 3) := by decide +kernel
theorem dX1_takeSender_17 : decode cX1_takeSender 17 = .ok (.ifCond .eq 17, 3) := by decide +kernel
theorem dX1_takeSender_20 : decode cX1_takeSender 20 = .ok (.aload_n 2, 1) := by decide +kernel
theorem dX1_takeSender_21 : decode cX1_takeSender 21 = .ok (.iload_n 3, 1) := by decide +kernel
theorem dX1_takeSender_22 : decode cX1_takeSender 22 = .ok (.iconst 1, 1) := by decide +kernel
theorem dX1_takeSender_23 : decode cX1_takeSender 23 = .ok (.iadd, 1) := by decide +kernel
theorem dX1_takeSender_24 : decode cX1_takeSender 24 = .ok (.aload_n 2, 1) := by decide +kernel
theorem dX1_takeSender_25 : decode cX1_takeSender 25 = .ok (.getfield 58, 3) := by decide +kernel
theorem dX1_takeSender_28 : decode cX1_takeSender 28 = .ok (.invokevirtual 69, 3) := by decide +kernel
theorem dX1_takeSender_31 : decode cX1_takeSender 31 = .ok (.ifCond .ne 5, 3) := by decide +kernel
theorem dX1_takeSender_34 : decode cX1_takeSender 34 = .ok (.iconst 0, 1) := by decide +kernel
theorem dX1_takeSender_35 : decode cX1_takeSender 35 = .ok (.ireturn, 1) := by decide +kernel
theorem dX1_takeSender_36 : decode cX1_takeSender 36 = .ok (.aload_n 0, 1) := by decide +kernel
theorem dX1_takeSender_37 : decode cX1_takeSender 37 = .ok (.getfield 16, 3) := by decide +kernel
theorem dX1_takeSender_40 : decode cX1_takeSender 40 = .ok (.aload_n 2, 1) := by decide +kernel
theorem dX1_takeSender_41 : decode cX1_takeSender 41 = .ok (.invokevirtual 73, 3) := by decide +kernel
theorem dX1_takeSender_44 : decode cX1_takeSender 44 = .ok (.aload_n 0, 1) := by decide +kernel
theorem dX1_takeSender_45 : decode cX1_takeSender 45 = .ok (.getfield 20, 3) := by decide +kernel
theorem dX1_takeSender_48 : decode cX1_takeSender 48 = .ok (.invokevirtual 77, 3) := by decide +kernel
theorem dX1_takeSender_51 : decode cX1_takeSender 51 = .ok (.aload_n 0, 1) := by decide +kernel
theorem dX1_takeSender_52 : decode cX1_takeSender 52 = .ok (.getfield 20, 3) := by decide +kernel
theorem dX1_takeSender_55 : decode cX1_takeSender 55 = .ok (.aload_n 2, 1) := by decide +kernel
theorem dX1_takeSender_56 : decode cX1_takeSender 56 = .ok (.iconst 0, 1) := by decide +kernel
theorem dX1_takeSender_57 : decode cX1_takeSender 57 = .ok (.iload_n 3, 1) := by decide +kernel
theorem dX1_takeSender_58 : decode cX1_takeSender 58 = .ok (.invokevirtual 80, 3) := by decide +kernel
theorem dX1_takeSender_61 : decode cX1_takeSender 61 = .ok (.aload_n 0, 1) := by decide +kernel
theorem dX1_takeSender_62 : decode cX1_takeSender 62 = .ok (.getfield 23, 3) := by decide +kernel
theorem dX1_takeSender_65 : decode cX1_takeSender 65 = .ok (.invokevirtual 77, 3) := by decide +kernel
theorem dX1_takeSender_68 : decode cX1_takeSender 68 = .ok (.aload_n 0, 1) := by decide +kernel
theorem dX1_takeSender_69 : decode cX1_takeSender 69 = .ok (.getfield 23, 3) := by decide +kernel
theorem dX1_takeSender_72 : decode cX1_takeSender 72 = .ok (.aload_n 2, 1) := by decide +kernel
theorem dX1_takeSender_73 : decode cX1_takeSender 73 = .ok (.iload_n 3, 1) := by decide +kernel
theorem dX1_takeSender_74 : decode cX1_takeSender 74 = .ok (.iconst 1, 1) := by decide +kernel
theorem dX1_takeSender_75 : decode cX1_takeSender 75 = .ok (.iadd, 1) := by decide +kernel
theorem dX1_takeSender_76 : decode cX1_takeSender 76 = .ok (.aload_n 2, 1) := by decide +kernel
theorem dX1_takeSender_77 : decode cX1_takeSender 77 = .ok (.getfield 58, 3) := by decide +kernel
theorem dX1_takeSender_80 : decode cX1_takeSender 80 = .ok (.invokevirtual 80, 3) := by decide +kernel
theorem dX1_takeSender_83 : decode cX1_takeSender 83 = .ok (.aload_n 0, 1) := by decide +kernel
theorem dX1_takeSender_84 : decode cX1_takeSender 84 = .ok (.iload_n 1, 1) := by decide +kernel
theorem dX1_takeSender_85 : decode cX1_takeSender 85 = .ok (.putfield 39, 3) := by decide +kernel
theorem dX1_takeSender_88 : decode cX1_takeSender 88 = .ok (.aload_n 0, 1) := by decide +kernel
theorem dX1_takeSender_89 : decode cX1_takeSender 89 = .ok (.getfield 26, 3) := by decide +kernel
theorem dX1_takeSender_92 : decode cX1_takeSender 92 = .ok (.invokevirtual 77, 3) := by decide +kernel
theorem dX1_takeSender_95 : decode cX1_takeSender 95 = .ok (.aload_n 0, 1) := by decide +kernel
theorem dX1_takeSender_96 : decode cX1_takeSender 96 = .ok (.invokevirtual 84, 3) := by decide +kernel
theorem dX1_takeSender_99 : decode cX1_takeSender 99 = .ok (.aload_n 0, 1) := by decide +kernel
theorem dX1_takeSender_100 : decode cX1_takeSender 100 = .ok (.iconst 1, 1) := by decide +kernel
theorem dX1_takeSender_101 : decode cX1_takeSender 101 = .ok (.putfield 43, 3) := by decide +kernel
theorem dX1_takeSender_104 : decode cX1_takeSender 104 = .ok (.iconst 1, 1) := by decide +kernel
theorem dX1_takeSender_105 : decode cX1_takeSender 105 = .ok (.ireturn, 1) := by decide +kernel
theorem dX2_clear_0 : decode cX2_clear 0 = .ok (.aload_n 0, 1) := by decide +kernel
theorem dX2_clear_1 : decode cX2_clear 1 = .ok (.getfield 17, 3) := by decide +kernel
theorem dX2_clear_4 : decode cX2_clear 4 = .ok (.istore_n 1, 1) := by decide +kernel
theorem dX2_clear_5 : decode cX2_clear 5 = .ok (.aload_n 0, 1) := by decide +kernel
theorem dX2_clear_6 : decode cX2_clear 6 = .ok (.iconst 0, 1) := by decide +kernel
theorem dX2_clear_7 : decode cX2_clear 7 = .ok (.putfield 17, 3) := by decide +kernel
theorem dX2_clear_10 : decode cX2_clear 10 = .ok (.iload_n 1, 1) := by decide +kernel
theorem dX2_clear_11 : decode cX2_clear 11 = .ok (.ireturn, 1) := by decide +kernel
theorem dX2_take_0 : decode cX2_take 0 = .ok (.aload_n 0, 1) := by decide +kernel
theorem dX2_take_1 : decode cX2_take 1 = .ok (.getfield 17, 3) := by decide +kernel
theorem dX2_take_4 : decode cX2_take 4 = .ok (.bipush 40, 2) := by decide +kernel
theorem dX2_take_6 : decode cX2_take 6 = .ok (.if_icmp .ne 6, 3) := by decide +kernel
theorem dX2_take_9 : decode cX2_take 9 = .ok (.bipush (-3), 2) := by decide +kernel
theorem dX2_take_11 : decode cX2_take 11 = .ok (.ireturn, 1) := by decide +kernel
theorem dX2_take_12 : decode cX2_take 12 = .ok (.iload_n 1, 1) := by decide +kernel
theorem dX2_take_13 : decode cX2_take 13 = .ok (.ifCond .eq 8, 3) := by decide +kernel
theorem dX2_take_16 : decode cX2_take 16 = .ok (.iload_n 1, 1) := by decide +kernel
theorem dX2_take_17 : decode cX2_take 17 = .ok (.iconst 2, 1) := by decide +kernel
theorem dX2_take_18 : decode cX2_take 18 = .ok (.if_icmp .ne 7, 3) := by decide +kernel
theorem dX2_take_21 : decode cX2_take 21 = .ok (.iconst 1, 1) := by decide +kernel
theorem dX2_take_22 : decode cX2_take 22 = .ok (.goto 4, 3) := by decide +kernel
theorem dX2_take_25 : decode cX2_take 25 = .ok (.iconst 0, 1) := by decide +kernel
theorem dX2_take_26 : decode cX2_take 26 = .ok (.istore 4, 2) := by decide +kernel
theorem dX2_take_28 : decode cX2_take 28 = .ok (.iload 4, 2) := by decide +kernel
theorem dX2_take_30 : decode cX2_take 30 = .ok (.ifCond .eq 17, 3) := by decide +kernel
theorem dX2_take_33 : decode cX2_take 33 = .ok (.aload_n 3, 1) := by decide +kernel
theorem dX2_take_34 : decode cX2_take 34 = .ok (.bipush 32, 2) := by decide +kernel
theorem dX2_take_36 : decode cX2_take 36 = .ok (.iconst 0, 1) := by decide +kernel
theorem dX2_take_37 : decode cX2_take 37 = .ok (.aload_n 3, 1) := by decide +kernel
theorem dX2_take_38 : decode cX2_take 38 = .ok (.getfield 22, 3) := by decide +kernel
theorem dX2_take_41 : decode cX2_take 41 = .ok (.invokevirtual 27, 3) := by decide +kernel
theorem dX2_take_44 : decode cX2_take 44 = .ok (.goto 7, 3) := by decide +kernel
theorem dX2_take_47 : decode cX2_take 47 = .ok (.aload_n 3, 1) := by decide +kernel
theorem dX2_take_48 : decode cX2_take 48 = .ok (.getfield 22, 3) := by decide +kernel
theorem dX2_take_51 : decode cX2_take 51 = .ok (.istore 5, 2) := by decide +kernel
theorem dX2_take_53 : decode cX2_take 53 = .ok (.iload_n 1, 1) := by decide +kernel
theorem dX2_take_54 : decode cX2_take 54 = .ok (.ifCond .lt 18, 3) := by decide +kernel
theorem dX2_take_57 : decode cX2_take 57 = .ok (.iload_n 1, 1) := by decide +kernel
theorem dX2_take_58 : decode cX2_take 58 = .ok (.iconst 4, 1) := by decide +kernel
theorem dX2_take_59 : decode cX2_take 59 = .ok (.if_icmp .gt 13, 3) := by decide +kernel
theorem dX2_take_62 : decode cX2_take 62 = .ok (.aload_n 3, 1) := by decide +kernel
theorem dX2_take_63 : decode cX2_take 63 = .ok (.iconst 0, 1) := by decide +kernel
theorem dX2_take_64 : decode cX2_take 64 = .ok (.iload 5, 2) := by decide +kernel
theorem dX2_take_66 : decode cX2_take 66 = .ok (.invokevirtual 31, 3) := by decide +kernel
theorem dX2_take_69 : decode cX2_take 69 = .ok (.ifCond .ne 5, 3) := by decide +kernel
theorem dX2_take_72 : decode cX2_take 72 = .ok (.iconst (-1), 1) := by decide +kernel
theorem dX2_take_73 : decode cX2_take 73 = .ok (.ireturn, 1) := by decide +kernel
theorem dX2_take_74 : decode cX2_take 74 = .ok (.iload 4, 2) := by decide +kernel
theorem dX2_take_76 : decode cX2_take 76 = .ok (.ifCond .eq 15, 3) := by decide +kernel
theorem dX2_take_79 : decode cX2_take 79 = .ok (.iload_n 1, 1) := by decide +kernel
theorem dX2_take_80 : decode cX2_take 80 = .ok (.aload_n 3, 1) := by decide +kernel
theorem dX2_take_81 : decode cX2_take 81 = .ok (.iload 5, 2) := by decide +kernel
theorem dX2_take_83 : decode cX2_take 83 = .ok (.invokestatic 35, 3) := by decide +kernel
theorem dX2_take_86 : decode cX2_take 86 = .ok (.ifCond .ne 5, 3) := by decide +kernel
theorem dX2_take_89 : decode cX2_take 89 = .ok (.iconst (-1), 1) := by decide +kernel
theorem dX2_take_90 : decode cX2_take 90 = .ok (.ireturn, 1) := by decide +kernel
theorem dX2_take_91 : decode cX2_take 91 = .ok (.aload_n 0, 1) := by decide +kernel
theorem dX2_take_92 : decode cX2_take 92 = .ok (.getfield 13, 3) := by decide +kernel
theorem dX2_take_95 : decode cX2_take 95 = .ok (.aload_n 0, 1) := by decide +kernel
theorem dX2_take_96 : decode cX2_take 96 = .ok (.getfield 17, 3) := by decide +kernel
theorem dX2_take_99 : decode cX2_take 99 = .ok (.aaload, 1) := by decide +kernel
theorem dX2_take_100 : decode cX2_take 100 = .ok (.astore 6, 2) := by decide +kernel
theorem dX2_take_102 : decode cX2_take 102 = .ok (.aload 6, 2) := by decide +kernel
theorem dX2_take_104 : decode cX2_take 104 = .ok (.iload_n 1, 1) := by decide +kernel
theorem dX2_take_105 : decode cX2_take 105 = .ok (.putfield 39, 3) := by decide +kernel
theorem dX2_take_108 : decode cX2_take 108 = .ok (.aload 6, 2) := by decide +kernel
theorem dX2_take_110 : decode cX2_take 110 = .ok (.iload_n 2, 1) := by decide +kernel
theorem dX2_take_111 : decode cX2_take 111 = .ok (.putfield 42, 3) := by decide +kernel
theorem dX2_take_114 : decode cX2_take 114 = .ok (.aload 6, 2) := by decide +kernel
theorem dX2_take_116 : decode cX2_take 116 = .ok (.getfield 45, 3) := by decide +kernel
theorem dX2_take_119 : decode cX2_take 119 = .ok (.invokevirtual 49, 3) := by decide +kernel
theorem dX2_take_122 : decode cX2_take 122 = .ok (.aload 6, 2) := by decide +kernel
theorem dX2_take_124 : decode cX2_take 124 = .ok (.getfield 45, 3) := by decide +kernel
theorem dX2_take_127 : decode cX2_take 127 = .ok (.aload_n 3, 1) := by decide +kernel
theorem dX2_take_128 : decode cX2_take 128 = .ok (.iconst 0, 1) := by decide +kernel
theorem dX2_take_129 : decode cX2_take 129 = .ok (.iload 5, 2) := by decide +kernel
theorem dX2_take_131 : decode cX2_take 131 = .ok (.invokevirtual 52, 3) := by decide +kernel
theorem dX2_take_134 : decode cX2_take 134 = .ok (.aload 6, 2) := by decide +kernel
theorem dX2_take_136 : decode cX2_take 136 = .ok (.getfield 56, 3) := by decide +kernel
theorem dX2_take_139 : decode cX2_take 139 = .ok (.invokevirtual 49, 3) := by decide +kernel
theorem dX2_take_142 : decode cX2_take 142 = .ok (.aload 6, 2) := by decide +kernel
theorem dX2_take_144 : decode cX2_take 144 = .ok (.getfield 56, 3) := by decide +kernel
theorem dX2_take_147 : decode cX2_take 147 = .ok (.aload_n 3, 1) := by decide +kernel
theorem dX2_take_148 : decode cX2_take 148 = .ok (.iload 5, 2) := by decide +kernel
theorem dX2_take_150 : decode cX2_take 150 = .ok (.iconst 1, 1) := by decide +kernel
theorem dX2_take_151 : decode cX2_take 151 = .ok (.iadd, 1) := by decide +kernel
theorem dX2_take_152 : decode cX2_take 152 = .ok (.aload_n 3, 1) := by decide +kernel
theorem dX2_take_153 : decode cX2_take 153 = .ok (.getfield 22, 3) := by decide +kernel
theorem dX2_take_156 : decode cX2_take 156 = .ok (.invokevirtual 52, 3) := by decide +kernel
theorem dX2_take_159 : decode cX2_take 159 = .ok (.aload_n 0, 1) := by decide +kernel
theorem dX2_take_160 : decode cX2_take 160 = .ok (.dup, 1) := by decide +kernel
theorem dX2_take_161 : decode cX2_take 161 = .ok (.getfield 17, 3) := by decide +kernel
theorem dX2_take_164 : decode cX2_take 164 = .ok (.iconst 1, 1) := by decide +kernel
theorem dX2_take_165 : decode cX2_take 165 = .ok (.iadd, 1) := by decide +kernel
theorem dX2_take_166 : decode cX2_take 166 = .ok (.putfield 17, 3) := by decide +kernel
theorem dX2_take_169 : decode cX2_take 169 = .ok (.aload_n 0, 1) := by decide +kernel
theorem dX2_take_170 : decode cX2_take 170 = .ok (.getfield 17, 3) := by decide +kernel
theorem dX2_take_173 : decode cX2_take 173 = .ok (.ireturn, 1) := by decide +kernel
theorem dX4_countOf_0 : decode cX4_countOf 0 = .ok (.iconst 0, 1) := by decide +kernel
theorem dX4_countOf_1 : decode cX4_countOf 1 = .ok (.istore_n 2, 1) := by decide +kernel
theorem dX4_countOf_2 : decode cX4_countOf 2 = .ok (.iconst 0, 1) := by decide +kernel
theorem dX4_countOf_3 : decode cX4_countOf 3 = .ok (.istore_n 3, 1) := by decide +kernel
theorem dX4_countOf_4 : decode cX4_countOf 4 = .ok (.iload_n 3, 1) := by decide +kernel
theorem dX4_countOf_5 : decode cX4_countOf 5 = .ok (.aload_n 0, 1) := by decide +kernel
theorem dX4_countOf_6 : decode cX4_countOf 6 = .ok (.getfield 30, 3) := by decide +kernel
theorem dX4_countOf_9 : decode cX4_countOf 9 = .ok (.if_icmp .ge 26, 3) := by decide +kernel
theorem dX4_countOf_12 : decode cX4_countOf 12 = .ok (.iload_n 2, 1) := by decide +kernel
theorem dX4_countOf_13 : decode cX4_countOf 13 = .ok (.aload_n 0, 1) := by decide +kernel
theorem dX4_countOf_14 : decode cX4_countOf 14 = .ok (.iload_n 3, 1) := by decide +kernel
theorem dX4_countOf_15 : decode cX4_countOf 15 = .ok (.aload_n 1, 1) := by decide +kernel
theorem dX4_countOf_16 : decode cX4_countOf 16 = .ok (.invokevirtual 80, 3) := by decide +kernel
theorem dX4_countOf_19 : decode cX4_countOf 19 = .ok (.ifCond .eq 7, 3) := by decide +kernel
theorem dX4_countOf_22 : decode cX4_countOf 22 = .ok (.iconst 1, 1) := by decide +kernel
theorem dX4_countOf_23 : decode cX4_countOf 23 = .ok (.goto 4, 3) := by decide +kernel
theorem dX4_countOf_26 : decode cX4_countOf 26 = .ok (.iconst 0, 1) := by decide +kernel
theorem dX4_countOf_27 : decode cX4_countOf 27 = .ok (.iadd, 1) := by decide +kernel
theorem dX4_countOf_28 : decode cX4_countOf 28 = .ok (.istore_n 2, 1) := by decide +kernel
theorem dX4_countOf_29 : decode cX4_countOf 29 = .ok (.iinc 3 1, 3) := by decide +kernel
theorem dX4_countOf_32 : decode cX4_countOf 32 = .ok (.goto (-28), 3) := by decide +kernel
theorem dX4_countOf_35 : decode cX4_countOf 35 = .ok (.iload_n 2, 1) := by decide +kernel
theorem dX4_countOf_36 : decode cX4_countOf 36 = .ok (.ireturn, 1) := by decide +kernel
theorem dX4_fieldOf_0 : decode cX4_fieldOf 0 = .ok (.iload_n 2, 1) := by decide +kernel
theorem dX4_fieldOf_1 : decode cX4_fieldOf 1 = .ok (.istore_n 3, 1) := by decide +kernel
theorem dX4_fieldOf_2 : decode cX4_fieldOf 2 = .ok (.iconst 0, 1) := by decide +kernel
theorem dX4_fieldOf_3 : decode cX4_fieldOf 3 = .ok (.istore 4, 2) := by decide +kernel
theorem dX4_fieldOf_5 : decode cX4_fieldOf 5 = .ok (.iload 4, 2) := by decide +kernel
theorem dX4_fieldOf_7 : decode cX4_fieldOf 7 = .ok (.aload_n 0, 1) := by decide +kernel
theorem dX4_fieldOf_8 : decode cX4_fieldOf 8 = .ok (.getfield 30, 3) := by decide +kernel
theorem dX4_fieldOf_11 : decode cX4_fieldOf 11 = .ok (.if_icmp .ge 32, 3) := by decide +kernel
theorem dX4_fieldOf_14 : decode cX4_fieldOf 14 = .ok (.aload_n 0, 1) := by decide +kernel
theorem dX4_fieldOf_15 : decode cX4_fieldOf 15 = .ok (.iload 4, 2) := by decide +kernel
theorem dX4_fieldOf_17 : decode cX4_fieldOf 17 = .ok (.aload_n 1, 1) := by decide +kernel
theorem dX4_fieldOf_18 : decode cX4_fieldOf 18 = .ok (.invokevirtual 80, 3) := by decide +kernel
theorem dX4_fieldOf_21 : decode cX4_fieldOf 21 = .ok (.ifCond .ne 6, 3) := by decide +kernel
theorem dX4_fieldOf_24 : decode cX4_fieldOf 24 = .ok (.goto 13, 3) := by decide +kernel
theorem dX4_fieldOf_27 : decode cX4_fieldOf 27 = .ok (.iload_n 3, 1) := by decide +kernel
theorem dX4_fieldOf_28 : decode cX4_fieldOf 28 = .ok (.ifCond .ne 6, 3) := by decide +kernel
theorem dX4_fieldOf_31 : decode cX4_fieldOf 31 = .ok (.iload 4, 2) := by decide +kernel
theorem dX4_fieldOf_33 : decode cX4_fieldOf 33 = .ok (.ireturn, 1) := by decide +kernel
theorem dX4_fieldOf_34 : decode cX4_fieldOf 34 = .ok (.iinc 3 (-1), 3) := by decide +kernel
theorem dX4_fieldOf_37 : decode cX4_fieldOf 37 = .ok (.iinc 4 1, 3) := by decide +kernel
theorem dX4_fieldOf_40 : decode cX4_fieldOf 40 = .ok (.goto (-35), 3) := by decide +kernel
theorem dX4_fieldOf_43 : decode cX4_fieldOf 43 = .ok (.iconst (-1), 1) := by decide +kernel
theorem dX4_fieldOf_44 : decode cX4_fieldOf 44 = .ok (.ireturn, 1) := by decide +kernel
theorem dX4_read_0 : decode cX4_read 0 = .ok (.aload_n 0, 1) := by decide +kernel
theorem dX4_read_1 : decode cX4_read 1 = .ok (.getfield 14, 3) := by decide +kernel
theorem dX4_read_4 : decode cX4_read 4 = .ok (.aload_n 1, 1) := by decide +kernel
theorem dX4_read_5 : decode cX4_read 5 = .ok (.invokevirtual 37, 3) := by decide +kernel
theorem dX4_read_8 : decode cX4_read 8 = .ok (.aload_n 0, 1) := by decide +kernel
theorem dX4_read_9 : decode cX4_read 9 = .ok (.iconst 0, 1) := by decide +kernel
theorem dX4_read_10 : decode cX4_read 10 = .ok (.putfield 30, 3) := by decide +kernel
theorem dX4_read_13 : decode cX4_read 13 = .ok (.aload_n 0, 1) := by decide +kernel
theorem dX4_read_14 : decode cX4_read 14 = .ok (.aload_n 0, 1) := by decide +kernel
theorem dX4_read_15 : decode cX4_read 15 = .ok (.getfield 14, 3) := by decide +kernel
theorem dX4_read_18 : decode cX4_read 18 = .ok (.getfield 41, 3) := by decide +kernel
theorem dX4_read_21 : decode cX4_read 21 = .ok (.putfield 34, 3) := by decide +kernel
theorem dX4_read_24 : decode cX4_read 24 = .ok (.iconst 0, 1) := by decide +kernel
theorem dX4_read_25 : decode cX4_read 25 = .ok (.istore_n 2, 1) := by decide +kernel
theorem dX4_read_26 : decode cX4_read 26 = .ok (.iconst 0, 1) := by decide +kernel
theorem dX4_read_27 : decode cX4_read 27 = .ok (.istore_n 3, 1) := by decide +kernel
theorem dX4_read_28 : decode cX4_read 28 = .ok (.iload_n 3, 1) := by decide +kernel
theorem dX4_read_29 : decode cX4_read 29 = .ok (.aload_n 0, 1) := by decide +kernel
theorem dX4_read_30 : decode cX4_read 30 = .ok (.getfield 14, 3) := by decide +kernel
theorem dX4_read_33 : decode cX4_read 33 = .ok (.getfield 41, 3) := by decide +kernel
theorem dX4_read_36 : decode cX4_read 36 = .ok (.if_icmp .gt 88, 3) := by decide +kernel
theorem dX4_read_39 : decode cX4_read 39 = .ok (.iload_n 3, 1) := by decide +kernel
theorem dX4_read_40 : decode cX4_read 40 = .ok (.aload_n 0, 1) := by decide +kernel
theorem dX4_read_41 : decode cX4_read 41 = .ok (.getfield 14, 3) := by decide +kernel
theorem dX4_read_44 : decode cX4_read 44 = .ok (.getfield 41, 3) := by decide +kernel
theorem dX4_read_47 : decode cX4_read 47 = .ok (.if_icmp .ne 7, 3) := by decide +kernel
theorem dX4_read_50 : decode cX4_read 50 = .ok (.iconst 1, 1) := by decide +kernel
theorem dX4_read_51 : decode cX4_read 51 = .ok (.goto 4, 3) := by decide +kernel
theorem dX4_read_54 : decode cX4_read 54 = .ok (.iconst 0, 1) := by decide +kernel
theorem dX4_read_55 : decode cX4_read 55 = .ok (.istore 4, 2) := by decide +kernel
theorem dX4_read_57 : decode cX4_read 57 = .ok (.iload 4, 2) := by decide +kernel
theorem dX4_read_59 : decode cX4_read 59 = .ok (.ifCond .ne 16, 3) := by decide +kernel
theorem dX4_read_62 : decode cX4_read 62 = .ok (.aload_n 0, 1) := by decide +kernel
theorem dX4_read_63 : decode cX4_read 63 = .ok (.getfield 14, 3) := by decide +kernel
theorem dX4_read_66 : decode cX4_read 66 = .ok (.iload_n 3, 1) := by decide +kernel
theorem dX4_read_67 : decode cX4_read 67 = .ok (.invokevirtual 44, 3) := by decide +kernel
theorem dX4_read_70 : decode cX4_read 70 = .ok (.bipush 10, 2) := by decide +kernel
theorem dX4_read_72 : decode cX4_read 72 = .ok (.if_icmp .ne 46, 3) := by decide +kernel
theorem dX4_read_75 : decode cX4_read 75 = .ok (.iload 4, 2) := by decide +kernel
theorem dX4_read_77 : decode cX4_read 77 = .ok (.ifCond .eq 11, 3) := by decide +kernel
theorem dX4_read_80 : decode cX4_read 80 = .ok (.iload_n 2, 1) := by decide +kernel
theorem dX4_read_81 : decode cX4_read 81 = .ok (.iload_n 3, 1) := by decide +kernel
theorem dX4_read_82 : decode cX4_read 82 = .ok (.if_icmp .ne 6, 3) := by decide +kernel
theorem dX4_read_85 : decode cX4_read 85 = .ok (.goto 33, 3) := by decide +kernel
theorem dX4_read_88 : decode cX4_read 88 = .ok (.iload_n 2, 1) := by decide +kernel
theorem dX4_read_89 : decode cX4_read 89 = .ok (.iload_n 3, 1) := by decide +kernel
theorem dX4_read_90 : decode cX4_read 90 = .ok (.if_icmp .ne 13, 3) := by decide +kernel
theorem dX4_read_93 : decode cX4_read 93 = .ok (.aload_n 0, 1) := by decide +kernel
theorem dX4_read_94 : decode cX4_read 94 = .ok (.iload_n 3, 1) := by decide +kernel
theorem dX4_read_95 : decode cX4_read 95 = .ok (.iconst 1, 1) := by decide +kernel
theorem dX4_read_96 : decode cX4_read 96 = .ok (.iadd, 1) := by decide +kernel
theorem dX4_read_97 : decode cX4_read 97 = .ok (.putfield 34, 3) := by decide +kernel
theorem dX4_read_100 : decode cX4_read 100 = .ok (.goto 24, 3) := by decide +kernel
theorem dX4_read_103 : decode cX4_read 103 = .ok (.aload_n 0, 1) := by decide +kernel
theorem dX4_read_104 : decode cX4_read 104 = .ok (.iload_n 2, 1) := by decide +kernel
theorem dX4_read_105 : decode cX4_read 105 = .ok (.iload_n 3, 1) := by decide +kernel
theorem dX4_read_106 : decode cX4_read 106 = .ok (.invokevirtual 48, 3) := by decide +kernel
theorem dX4_read_109 : decode cX4_read 109 = .ok (.ifCond .ne 5, 3) := by decide +kernel
theorem dX4_read_112 : decode cX4_read 112 = .ok (.iconst 0, 1) := by decide +kernel
theorem dX4_read_113 : decode cX4_read 113 = .ok (.ireturn, 1) := by decide +kernel
theorem dX4_read_114 : decode cX4_read 114 = .ok (.iload_n 3, 1) := by decide +kernel
theorem dX4_read_115 : decode cX4_read 115 = .ok (.iconst 1, 1) := by decide +kernel
theorem dX4_read_116 : decode cX4_read 116 = .ok (.iadd, 1) := by decide +kernel
theorem dX4_read_117 : decode cX4_read 117 = .ok (.istore_n 2, 1) := by decide +kernel
theorem dX4_read_118 : decode cX4_read 118 = .ok (.iinc 3 1, 3) := by decide +kernel
theorem dX4_read_121 : decode cX4_read 121 = .ok (.goto (-93), 3) := by decide +kernel
theorem dX4_read_124 : decode cX4_read 124 = .ok (.aload_n 0, 1) := by decide +kernel
theorem dX4_read_125 : decode cX4_read 125 = .ok (.getfield 30, 3) := by decide +kernel
theorem dX4_read_128 : decode cX4_read 128 = .ok (.ifCond .le 7, 3) := by decide +kernel
theorem dX4_read_131 : decode cX4_read 131 = .ok (.iconst 1, 1) := by decide +kernel
theorem dX4_read_132 : decode cX4_read 132 = .ok (.goto 4, 3) := by decide +kernel
theorem dX4_read_135 : decode cX4_read 135 = .ok (.iconst 0, 1) := by decide +kernel
theorem dX4_read_136 : decode cX4_read 136 = .ok (.ireturn, 1) := by decide +kernel
theorem kt_190 : Cond.code yX0_find cX0_find 5 (some .int) ∈ tb := tb_at (i := 516) (by decide +kernel) (by decide +kernel)
theorem kt_191 : Cond.methodLink RX1 61 yX0_find ∈ tb := tb_at (i := 568) (by decide +kernel) (by decide +kernel)
theorem kt_192 : Cond.instanceMethod yX0_find ∈ tb := tb_at (i := 514) (by decide +kernel) (by decide +kernel)
theorem kt_193 : Cond.selects RX0 yX0_find yX0_find ∈ tb := tb_at (i := 515) (by decide +kernel) (by decide +kernel)
theorem kt_194 : Cond.code yX1_isLocal cX1_isLocal 5 (some .boolean) ∈ tb := tb_at (i := 571) (by decide +kernel) (by decide +kernel)
theorem kt_195 : Cond.methodLink RX1 65 yX1_isLocal ∈ tb := tb_at (i := 569) (by decide +kernel) (by decide +kernel)
theorem kt_196 : Cond.static yX1_isLocal ∈ tb := tb_at (i := 570) (by decide +kernel) (by decide +kernel)
theorem kt_197 : Cond.methodLink RX2 27 yX0_find ∈ tb := tb_at (i := 513) (by decide +kernel) (by decide +kernel)
theorem kt_198 : Cond.code yX0_isName cX0_isName 7 (some .boolean) ∈ tb := tb_at (i := 523) (by decide +kernel) (by decide +kernel)
theorem kt_199 : Cond.methodLink RX2 31 yX0_isName ∈ tb := tb_at (i := 520) (by decide +kernel) (by decide +kernel)
theorem kt_200 : Cond.instanceMethod yX0_isName ∈ tb := tb_at (i := 521) (by decide +kernel) (by decide +kernel)
theorem kt_201 : Cond.selects RX0 yX0_isName yX0_isName ∈ tb := tb_at (i := 522) (by decide +kernel) (by decide +kernel)
theorem kt_202 : Cond.code yX0_copy cX0_copy 2 none ∈ tb := tb_at (i := 579) (by decide +kernel) (by decide +kernel)
theorem kt_203 : Cond.methodLink RX4 37 yX0_copy ∈ tb := tb_at (i := 799) (by decide +kernel) (by decide +kernel)
theorem kt_204 : Cond.instanceMethod yX0_copy ∈ tb := tb_at (i := 577) (by decide +kernel) (by decide +kernel)
theorem kt_205 : Cond.selects RX0 yX0_copy yX0_copy ∈ tb := tb_at (i := 578) (by decide +kernel) (by decide +kernel)
theorem kn_6 : Cond.fieldLinkNest RX1 58 "PostGate$Bytes" "size" "I" "PostGate" ∈ nw := nw_at (i := 42) (by decide +kernel) rfl
theorem kn_7 : Cond.fieldLinkNest RX2 22 "PostGate$Bytes" "size" "I" "PostGate" ∈ nw := nw_at (i := 44) (by decide +kernel) rfl
theorem kn_8 : Cond.fieldLinkNest RX4 41 "PostGate$Bytes" "size" "I" "PostGate" ∈ nw := nw_at (i := 43) (by decide +kernel) rfl
set_option maxHeartbeats 4000000 in
set_option maxRecDepth 100000 in
theorem c_X1_isLocal (l : Launch) (dC : Nat → ClassId) (dI : Nat → Nat → Nat) (sz : Nat) (t1 : Nat) : Met l yX1_isLocal (.code yX1_isLocal cX1_isLocal 5 (some .boolean) :: tb) ({ frames := 0, cells := 0, slots := 0, locals := 0 }) (va_Pc [.ref t1, .int 0] (PW (dC, dI) sz [] [])) (va_Qi (fun (r : Int32) (_ : Unit) => r = 0) (fun _ T9 => QW (dC, dI) (va_A [] sz) [] [] T9) (va_A [] sz)) 0 0 (va_A [] sz) := by
  refine Met.ofW (cc := cX1_isLocal) (maxL := 5) (ret := (some .boolean)) (by decide) rfl ?_
  intro p e s m args below meth c s₁ B hml hv
  obtain ⟨rfl, hsz, hP, hK, hD0, hE⟩ := hv
  have hx := B.exec
  have hb := B.bytes
  have hr := B.returns
  have hts : ∀ w ∈ tb, w.before _ s = true := fun w h => atoms_spec (ws := .code yX1_isLocal cX1_isLocal 5 (some .boolean) :: tb) B.pre w (List.mem_cons_of_mem _ h)
  have hown : s.vm.findClass RX1 = some m.cls := findClass_of_methodNamed B.named
  have hlocks := B.notSynchronized
  subst hsz
  have hD := hD0.self (sz := s.heap.size)
  generalize hAe : va_A [] s.heap.size = A at hD ⊢
  have hA : ∀ q : Nat, s.heap.size ≤ q → A q := fun q h => by rw [← hAe]; exact Or.inr h
  have hS : va_S A s.heap s.heap [] := va_S.rf
  have hP : va_P (dC, dI) vwCl [] s.heap := hP
  have hl := lv_entry ([.ref t1, .int 0]) (n := 5) (Nat.le_of_ble_eq_true rfl)
  rw [lg_entry_eq]
  generalize (lg_sl ([.ref t1, .int 0]) ++ List.replicate (5 - (lg_sl ([.ref t1, .int 0])).length) Slot.unset).toArray = ls at hl ⊢
  have hl : lv_has ls 5 [(0, .ref t1), (1, .int 0)] := hl
  refine lv_iconst (v := 0) hx hb dX1_isLocal_0 (by decide) ?_
  refine lv_istore_n (lv' := [(2, .int 0), (0, .ref t1), (1, .int 0)]) hx hb dX1_isLocal_1 rfl hl (by decide) rfl (fun ls hl => ?_)
  refine lv_iload_n hx hb dX1_isLocal_2 rfl (lv_at hl 0 rfl) ?_
  refine lv_iload_n hx hb dX1_isLocal_3 rfl (lv_at hl 2 rfl) ?_
  refine lv_icmp_ge (tgt := 71) hx hb dX1_isLocal_4 (by decide) (fun c_1 => ?_) (fun c_1 => absurd (by decide) c_1)
  refine lv_iload_n hx hb dX1_isLocal_71 rfl (lv_at hl 2 rfl) ?_
  refine lv_iconst (v := 1) hx hb dX1_isLocal_72 (by decide) ?_
  refine lv_icmp_lt (tgt := 86) hx hb dX1_isLocal_73 (by decide) (fun c_2 => ?_) (fun c_2 => absurd (by decide) c_2)
  refine lv_iconst (v := 0) hx hb dX1_isLocal_86 (by decide) ?_
  have hP9 := hP.sub (ws' := []) [] rfl
  have hD9 := hD.sub (ws' := []) [] (by decide) rfl
  have hK9 := hK.sub (tys' := []) [] rfl
  refine W.widen (k := 0) (n := 0) (by omega) (by omega) ?_
  exact W.zret (v := 0) (ty := .boolean) hx hb hr (by decide) (fun t ht hW => ⟨⟨0, (), rfl, rfl, QW.mk ht hW hP9 hK9 hD9⟩, hS.F ht⟩) hS.2.2 dX1_isLocal_87
set_option maxHeartbeats 4000000 in
set_option maxRecDepth 100000 in
theorem c_X1_takeSender (l : Launch) (dC : Nat → ClassId) (dI : Nat → Nat → Nat) (sz : Nat) (h0 : Nat) (t1 : Nat) (t2 : Nat) (qd : Nat) (q1 : Nat) (q2 : Nat) (q3 : Nat) (q4 : Nat) (q5 : Nat) (q6 : Nat) (x1 : Int32) : Met l yX1_takeSender (.code yX1_takeSender cX1_takeSender 4 (some .boolean) :: tb) ({ frames := 2, cells := 0, slots := 0, locals := 45 }) (va_Pc [.ref h0, .int x1, .ref t1] (PW (dC, dI) sz [(h0, .inr (1, [.ref qd, .ref q1, .ref q2, .ref q3, .ref q4, .ref q5, .ref q6, .int 0, .int 0, .int 0, .int 0])), (t1, .inr (0, [.ref t2, .int 0, .int 0]))] [])) (va_Qi (fun (r : Int32) (_ : Unit) => r = 0) (fun _ T9 => QW (dC, dI) (va_A [(h0, .inr (1, [.ref qd, .ref q1, .ref q2, .ref q3, .ref q4, .ref q5, .ref q6, .int 0, .int 0, .int 0, .int 0])), (t1, .inr (0, [.ref t2, .int 0, .int 0]))] sz) [(h0, .inr (1, [.ref qd, .ref q1, .ref q2, .ref q3, .ref q4, .ref q5, .ref q6, .int 0, .int 0, .int 0, .int 0])), (t1, .inr (0, [.ref t2, .int 0, .int 0]))] [] T9) (va_A [(h0, .inr (1, [.ref qd, .ref q1, .ref q2, .ref q3, .ref q4, .ref q5, .ref q6, .int 0, .int 0, .int 0, .int 0])), (t1, .inr (0, [.ref t2, .int 0, .int 0]))] sz)) 0 0 (va_A [(h0, .inr (1, [.ref qd, .ref q1, .ref q2, .ref q3, .ref q4, .ref q5, .ref q6, .int 0, .int 0, .int 0, .int 0])), (t1, .inr (0, [.ref t2, .int 0, .int 0]))] sz) := by
  refine Met.ofW (cc := cX1_takeSender) (maxL := 4) (ret := (some .boolean)) (by decide) rfl ?_
  intro p e s m args below meth c s₁ B hml hv
  obtain ⟨rfl, hsz, hP, hK, hD0, hE⟩ := hv
  have hx := B.exec
  have hb := B.bytes
  have hr := B.returns
  have hts : ∀ w ∈ tb, w.before _ s = true := fun w h => atoms_spec (ws := .code yX1_takeSender cX1_takeSender 4 (some .boolean) :: tb) B.pre w (List.mem_cons_of_mem _ h)
  have hown : s.vm.findClass RX1 = some m.cls := findClass_of_methodNamed B.named
  have hlocks := B.notSynchronized
  subst hsz
  have hD := hD0.self (sz := s.heap.size)
  generalize hAe : va_A [(h0, .inr (1, [.ref qd, .ref q1, .ref q2, .ref q3, .ref q4, .ref q5, .ref q6, .int 0, .int 0, .int 0, .int 0])), (t1, .inr (0, [.ref t2, .int 0, .int 0]))] s.heap.size = A at hD ⊢
  have hA : ∀ q : Nat, s.heap.size ≤ q → A q := fun q h => by rw [← hAe]; exact Or.inr h
  have hS : va_S A s.heap s.heap [] := va_S.rf
  have hP : va_P (dC, dI) vwCl [(h0, .inr (1, [.ref qd, .ref q1, .ref q2, .ref q3, .ref q4, .ref q5, .ref q6, .int 0, .int 0, .int 0, .int 0])), (t1, .inr (0, [.ref t2, .int 0, .int 0]))] s.heap := hP
  have hl := lv_entry ([.ref h0, .int x1, .ref t1]) (n := 4) (Nat.le_of_ble_eq_true rfl)
  rw [lg_entry_eq]
  generalize (lg_sl ([.ref h0, .int x1, .ref t1]) ++ List.replicate (4 - (lg_sl ([.ref h0, .int x1, .ref t1])).length) Slot.unset).toArray = ls at hl ⊢
  have hl : lv_has ls 4 [(0, .ref h0), (1, .int x1), (2, .ref t1)] := hl
  refine lv_aload_n hx hb dX1_takeSender_0 rfl (lv_at hl 2 rfl) ?_
  refine lv_bipush (v := 64) hx hb dX1_takeSender_1 (by decide) ?_
  refine lv_iconst (v := 0) hx hb dX1_takeSender_3 (by decide) ?_
  refine lv_aload_n hx hb dX1_takeSender_4 rfl (lv_at hl 2 rfl) ?_
  refine va_getN (D := (dC, dI)) (ci := 0) (v := .int 0) (C := RX0) (T := TX0) (N := 3) hx hb hts it_0 hown hK hP 1 rfl rfl 1 (by decide) (hE.nest kn_6) (fun _ h9 => h9) rfl dX1_takeSender_5 ?_
  have hPc := hP.sub (ws' := [(t1, .inr (0, [.ref t2, .int 0, .int 0]))]) [1] rfl
  have hDc := hD.sub (ws' := [(t1, .inr (0, [.ref t2, .int 0, .int 0]))]) [1] (by decide) rfl
  have hKc := hK.sub (tys' := []) [] rfl
  have hFc := va_free (wc := [(t1, .inr (0, [.ref t2, .int 0, .int 0]))]) hD hS hA [1] rfl
  refine va_calli (va_runV (As := [.int 64, .int 0, .int 0]) (rest := []) ⟨hx, hb, hml, hown, hts⟩ (c_X0_find l dC dI s.heap.size t1 t2 64 ) ⟨callB_of 3 hts (gi kt_190) rfl rfl rfl (hts _ kt_10) (hts _ kt_191) (by decide +kernel) ⟨Nat.le_of_ble_eq_true rfl, Nat.le_of_ble_eq_true rfl⟩, (hts _ kt_192), (hts _ kt_193)⟩ ⟨fun a U g mk q => ⟨q.1, PW.calling q.2⟩, va_recv hKc hPc (ci := 0) (q0 := 0) rfl rfl, fun U hU hW => ⟨rfl, PW.mk hU hW hPc hKc hDc hE⟩⟩ rfl rfl hl.1 rfl (lv_room (Nat.le_of_ble_eq_true rfl)) dX1_takeSender_8 ⟨by show _ + 0 ≤ 0; omega, by show _ + 0 ≤ 0; omega⟩) hS (fun q _ h => hFc q h) hFc (fun r_1 u t H1 locs ht hvm hw hB hz1 hk1 hS => ?_)
  have hB1 := hB
  obtain ⟨hP, hD, hK⟩ := QW.join (wr := [(h0, .inr (1, [.ref qd, .ref q1, .ref q2, .ref q3, .ref q4, .ref q5, .ref q6, .int 0, .int 0, .int 0, .int 0]))]) hP hD hK [1] [0] rfl rfl (by decide) (by decide) hk1 hFc ht hvm hB1
  generalize H1 = H at hP hS ⊢
  have hK : va_K (dC, dI) vwCl [] s := hK.sub [] rfl
  have hP : va_P (dC, dI) vwCl [(h0, .inr (1, [.ref qd, .ref q1, .ref q2, .ref q3, .ref q4, .ref q5, .ref q6, .int 0, .int 0, .int 0, .int 0])), (t1, .inr (0, [.ref t2, .int 0, .int 0]))] H := hP
  have hD : va_D A [(h0, .inr (1, [.ref qd, .ref q1, .ref q2, .ref q3, .ref q4, .ref q5, .ref q6, .int 0, .int 0, .int 0, .int 0])), (t1, .inr (0, [.ref t2, .int 0, .int 0]))] := hD
  have hw : r_1 = 0 := hw
  subst hw
  refine lv_istore_n (lv' := [(3, .int 0), (0, .ref h0), (1, .int x1), (2, .ref t1)]) hx hb dX1_takeSender_11 rfl hl (by decide) rfl (fun ls hl => ?_)
  refine lv_aload_n hx hb dX1_takeSender_12 rfl (lv_at hl 3 rfl) ?_
  refine lv_iload_n hx hb dX1_takeSender_13 rfl (lv_at hl 0 rfl) ?_
  have hPc := hP.sub (ws' := []) [] rfl
  have hDc := hD.sub (ws' := []) [] (by decide) rfl
  have hKc := hK.sub (tys' := []) [] rfl
  have hFc := va_free (wc := []) hD hS hA [] rfl
  refine va_calli (va_runS (As := [.ref t1, .int 0]) (rest := []) ⟨hx, hb, hml, hown, hts⟩ (c_X1_isLocal l dC dI H.size t1 ) ⟨callB_of 2 hts (gi kt_194) rfl rfl rfl (hts _ kt_143) (hts _ kt_195) (by decide +kernel) ⟨Nat.le_of_ble_eq_true rfl, Nat.le_of_ble_eq_true rfl⟩, (hts _ kt_196)⟩ ⟨fun a U g mk q => ⟨q.1, PW.calling q.2⟩, fun U hU hW => ⟨rfl, PW.mk hU hW hPc hKc hDc hE⟩⟩ rfl rfl hl.1 rfl (lv_room (Nat.le_of_ble_eq_true rfl)) dX1_takeSender_14 ⟨by show _ + 0 ≤ 0; omega, by show _ + 0 ≤ 0; omega⟩) hS (fun q _ h => hFc q h) hFc (fun r_2 u t H1 locs ht hvm hw hB hz1 hk1 hS => ?_)
  have hB1 := hB
  obtain ⟨hP, hD, hK⟩ := QW.join (wr := [(h0, .inr (1, [.ref qd, .ref q1, .ref q2, .ref q3, .ref q4, .ref q5, .ref q6, .int 0, .int 0, .int 0, .int 0])), (t1, .inr (0, [.ref t2, .int 0, .int 0]))]) hP hD hK [] [0, 1] rfl rfl (by decide) (by decide) hk1 hFc ht hvm hB1
  generalize H1 = H at hP hS ⊢
  have hK : va_K (dC, dI) vwCl [] s := hK.sub [] rfl
  have hP : va_P (dC, dI) vwCl [(h0, .inr (1, [.ref qd, .ref q1, .ref q2, .ref q3, .ref q4, .ref q5, .ref q6, .int 0, .int 0, .int 0, .int 0])), (t1, .inr (0, [.ref t2, .int 0, .int 0]))] H := hP
  have hD : va_D A [(h0, .inr (1, [.ref qd, .ref q1, .ref q2, .ref q3, .ref q4, .ref q5, .ref q6, .int 0, .int 0, .int 0, .int 0])), (t1, .inr (0, [.ref t2, .int 0, .int 0]))] := hD
  have hw : r_2 = 0 := hw
  subst hw
  refine lv_if_eq (tgt := 34) hx hb dX1_takeSender_17 (by decide) (fun c_3 => ?_) (fun c_3 => absurd (by decide) c_3)
  refine lv_iconst (v := 0) hx hb dX1_takeSender_34 (by decide) ?_
  have hP9 := hP.sub (ws' := [(h0, .inr (1, [.ref qd, .ref q1, .ref q2, .ref q3, .ref q4, .ref q5, .ref q6, .int 0, .int 0, .int 0, .int 0])), (t1, .inr (0, [.ref t2, .int 0, .int 0]))]) [0, 1] rfl
  have hD9 := hD.sub (ws' := [(h0, .inr (1, [.ref qd, .ref q1, .ref q2, .ref q3, .ref q4, .ref q5, .ref q6, .int 0, .int 0, .int 0, .int 0])), (t1, .inr (0, [.ref t2, .int 0, .int 0]))]) [0, 1] (by decide) rfl
  have hK9 := hK.sub (tys' := []) [] rfl
  refine W.widen (k := 0) (n := 0) (by omega) (by omega) ?_
  exact W.zret (v := 0) (ty := .boolean) hx hb hr (by decide) (fun t ht hW => ⟨⟨0, (), rfl, rfl, QW.mk ht hW hP9 hK9 hD9⟩, hS.F ht⟩) hS.2.2 dX1_takeSender_35
set_option maxHeartbeats 4000000 in
set_option maxRecDepth 100000 in
theorem c_X2_clear (l : Launch) (dC : Nat → ClassId) (dI : Nat → Nat → Nat) (sz : Nat) (h0 : Nat) (qe : Nat) : Met l yX2_clear (.code yX2_clear cX2_clear 2 (some .int) :: tb) ({ frames := 0, cells := 0, slots := 0, locals := 0 }) (va_Pc [.ref h0] (PW (dC, dI) sz [(h0, .inr (2, [.ref qe, .int 0]))] [])) (va_Qi (fun (r : Int32) (_ : Unit) => r = 0) (fun _ T9 => QW (dC, dI) (va_A [(h0, .inr (2, [.ref qe, .int 0]))] sz) [(h0, .inr (2, [.ref qe, .int 0]))] [] T9) (va_A [(h0, .inr (2, [.ref qe, .int 0]))] sz)) 0 0 (va_A [(h0, .inr (2, [.ref qe, .int 0]))] sz) := by
  refine Met.ofW (cc := cX2_clear) (maxL := 2) (ret := (some .int)) (by decide) rfl ?_
  intro p e s m args below meth c s₁ B hml hv
  obtain ⟨rfl, hsz, hP, hK, hD0, hE⟩ := hv
  have hx := B.exec
  have hb := B.bytes
  have hr := B.returns
  have hts : ∀ w ∈ tb, w.before _ s = true := fun w h => atoms_spec (ws := .code yX2_clear cX2_clear 2 (some .int) :: tb) B.pre w (List.mem_cons_of_mem _ h)
  have hown : s.vm.findClass RX2 = some m.cls := findClass_of_methodNamed B.named
  have hlocks := B.notSynchronized
  subst hsz
  have hD := hD0.self (sz := s.heap.size)
  generalize hAe : va_A [(h0, .inr (2, [.ref qe, .int 0]))] s.heap.size = A at hD ⊢
  have hA : ∀ q : Nat, s.heap.size ≤ q → A q := fun q h => by rw [← hAe]; exact Or.inr h
  have hS : va_S A s.heap s.heap [] := va_S.rf
  have hP : va_P (dC, dI) vwCl [(h0, .inr (2, [.ref qe, .int 0]))] s.heap := hP
  have hl := lv_entry ([.ref h0]) (n := 2) (Nat.le_of_ble_eq_true rfl)
  rw [lg_entry_eq]
  generalize (lg_sl ([.ref h0]) ++ List.replicate (2 - (lg_sl ([.ref h0])).length) Slot.unset).toArray = ls at hl ⊢
  have hl : lv_has ls 2 [(0, .ref h0)] := hl
  refine lv_aload_n hx hb dX2_clear_0 rfl (lv_at hl 0 rfl) ?_
  refine va_get (D := (dC, dI)) (ci := 2) (v := .int 0) (C := RX2) (T := TX2) (N := 2) hx hb hts it_2 hown hK hP 0 rfl rfl 1 (by decide) (hts _ kt_56) (fun _ h9 => h9) rfl dX2_clear_1 ?_
  refine lv_istore_n (lv' := [(1, .int 0), (0, .ref h0)]) hx hb dX2_clear_4 rfl hl (by decide) rfl (fun ls hl => ?_)
  refine lv_aload_n hx hb dX2_clear_5 rfl (lv_at hl 1 rfl) ?_
  refine lv_iconst (v := 0) hx hb dX2_clear_6 (by decide) ?_
  refine va_put (D := (dC, dI)) (ci := 2) (v := .int 0) (ty := .int) (C := RX2) (T := TX2) (N := 2) hx hb hts it_2 tyX2 tyX2_ok nmX2 hown hK hP hD hS 0 rfl rfl 1 (by decide) (hts _ kt_56) (fun _ h9 => h9) rfl (by decide +kernel) rfl rfl (Nat.le_of_ble_eq_true rfl) dX2_clear_7 (fun H locs hP hD hS => ?_)
  have hP : va_P (dC, dI) vwCl [(h0, .inr (2, [.ref qe, .int 0]))] H := hP
  have hD : va_D A [(h0, .inr (2, [.ref qe, .int 0]))] := hD
  refine lv_iload_n hx hb dX2_clear_10 rfl (lv_at hl 0 rfl) ?_
  have hP9 := hP.sub (ws' := [(h0, .inr (2, [.ref qe, .int 0]))]) [0] rfl
  have hD9 := hD.sub (ws' := [(h0, .inr (2, [.ref qe, .int 0]))]) [0] (by decide) rfl
  have hK9 := hK.sub (tys' := []) [] rfl
  refine W.widen (k := 0) (n := 0) (by omega) (by omega) ?_
  exact W.iret (v := 0) hx hb hr (fun t ht hW => ⟨⟨0, (), rfl, rfl, QW.mk ht hW hP9 hK9 hD9⟩, hS.F ht⟩) hS.2.2 dX2_clear_11
set_option maxHeartbeats 4000000 in
set_option maxRecDepth 100000 in
theorem c_X2_take (l : Launch) (dC : Nat → ClassId) (dI : Nat → Nat → Nat) (sz : Nat) (h0 : Nat) (qe : Nat) (t1 : Nat) (t2 : Nat) (x1 : Int32) (x2 : Int32) : Met l yX2_take (.code yX2_take cX2_take 7 (some .int) :: tb) ({ frames := 2, cells := 0, slots := 0, locals := 45 }) (va_Pc [.ref h0, .int x1, .int x2, .ref t1] (PW (dC, dI) sz [(h0, .inr (2, [.ref qe, .int 0])), (t1, .inr (0, [.ref t2, .int 0, .int 0]))] [])) (va_Qi (fun (r : Int32) (_ : Unit) => r = (-1)) (fun _ T9 => QW (dC, dI) (va_A [(h0, .inr (2, [.ref qe, .int 0])), (t1, .inr (0, [.ref t2, .int 0, .int 0]))] sz) [(h0, .inr (2, [.ref qe, .int 0])), (t1, .inr (0, [.ref t2, .int 0, .int 0]))] [] T9) (va_A [(h0, .inr (2, [.ref qe, .int 0])), (t1, .inr (0, [.ref t2, .int 0, .int 0]))] sz)) 0 0 (va_A [(h0, .inr (2, [.ref qe, .int 0])), (t1, .inr (0, [.ref t2, .int 0, .int 0]))] sz) := by
  refine Met.ofW (cc := cX2_take) (maxL := 7) (ret := (some .int)) (by decide) rfl ?_
  intro p e s m args below meth c s₁ B hml hv
  obtain ⟨rfl, hsz, hP, hK, hD0, hE⟩ := hv
  have hx := B.exec
  have hb := B.bytes
  have hr := B.returns
  have hts : ∀ w ∈ tb, w.before _ s = true := fun w h => atoms_spec (ws := .code yX2_take cX2_take 7 (some .int) :: tb) B.pre w (List.mem_cons_of_mem _ h)
  have hown : s.vm.findClass RX2 = some m.cls := findClass_of_methodNamed B.named
  have hlocks := B.notSynchronized
  subst hsz
  have hD := hD0.self (sz := s.heap.size)
  generalize hAe : va_A [(h0, .inr (2, [.ref qe, .int 0])), (t1, .inr (0, [.ref t2, .int 0, .int 0]))] s.heap.size = A at hD ⊢
  have hA : ∀ q : Nat, s.heap.size ≤ q → A q := fun q h => by rw [← hAe]; exact Or.inr h
  have hS : va_S A s.heap s.heap [] := va_S.rf
  have hP : va_P (dC, dI) vwCl [(h0, .inr (2, [.ref qe, .int 0])), (t1, .inr (0, [.ref t2, .int 0, .int 0]))] s.heap := hP
  have hl := lv_entry ([.ref h0, .int x1, .int x2, .ref t1]) (n := 7) (Nat.le_of_ble_eq_true rfl)
  rw [lg_entry_eq]
  generalize (lg_sl ([.ref h0, .int x1, .int x2, .ref t1]) ++ List.replicate (7 - (lg_sl ([.ref h0, .int x1, .int x2, .ref t1])).length) Slot.unset).toArray = ls at hl ⊢
  have hl : lv_has ls 7 [(0, .ref h0), (1, .int x1), (2, .int x2), (3, .ref t1)] := hl
  refine lv_aload_n hx hb dX2_take_0 rfl (lv_at hl 0 rfl) ?_
  refine va_get (D := (dC, dI)) (ci := 2) (v := .int 0) (C := RX2) (T := TX2) (N := 2) hx hb hts it_2 hown hK hP 0 rfl rfl 1 (by decide) (hts _ kt_56) (fun _ h9 => h9) rfl dX2_take_1 ?_
  refine lv_bipush (v := 40) hx hb dX2_take_4 (by decide) ?_
  refine lv_icmp_ne (tgt := 12) hx hb dX2_take_6 (by decide) (fun c_1 => ?_) (fun c_1 => absurd c_1 (by decide))
  refine lv_iload_n hx hb dX2_take_12 rfl (lv_at hl 1 rfl) ?_
  refine lv_if_eq (tgt := 21) hx hb dX2_take_13 (by decide) (fun c_2 => ?_) (fun c_2 => ?_)
  ·
    refine lv_iconst (v := 1) hx hb dX2_take_21 (by decide) ?_
    refine lv_goto (tgt := 26) hx hb dX2_take_22 (by decide) ?_
    refine lv_istore (lv' := [(4, .int 1), (0, .ref h0), (1, .int x1), (2, .int x2), (3, .ref t1)]) hx hb dX2_take_26 hl (by decide) rfl (fun ls hl => ?_)
    refine lv_iload hx hb dX2_take_28 (lv_at hl 0 rfl) ?_
    refine lv_if_eq (tgt := 47) hx hb dX2_take_30 (by decide) (fun c_3 => absurd c_3 (by decide)) (fun c_3 => ?_)
    refine lv_aload_n hx hb dX2_take_33 rfl (lv_at hl 4 rfl) ?_
    refine lv_bipush (v := 32) hx hb dX2_take_34 (by decide) ?_
    refine lv_iconst (v := 0) hx hb dX2_take_36 (by decide) ?_
    refine lv_aload_n hx hb dX2_take_37 rfl (lv_at hl 4 rfl) ?_
    refine va_getN (D := (dC, dI)) (ci := 0) (v := .int 0) (C := RX0) (T := TX0) (N := 3) hx hb hts it_0 hown hK hP 1 rfl rfl 1 (by decide) (hE.nest kn_7) (fun _ h9 => h9) rfl dX2_take_38 ?_
    have hPc := hP.sub (ws' := [(t1, .inr (0, [.ref t2, .int 0, .int 0]))]) [1] rfl
    have hDc := hD.sub (ws' := [(t1, .inr (0, [.ref t2, .int 0, .int 0]))]) [1] (by decide) rfl
    have hKc := hK.sub (tys' := []) [] rfl
    have hFc := va_free (wc := [(t1, .inr (0, [.ref t2, .int 0, .int 0]))]) hD hS hA [1] rfl
    refine va_calli (va_runV (As := [.int 32, .int 0, .int 0]) (rest := []) ⟨hx, hb, hml, hown, hts⟩ (c_X0_find l dC dI s.heap.size t1 t2 32 ) ⟨callB_of 3 hts (gi kt_190) rfl rfl rfl (hts _ kt_10) (hts _ kt_197) (by decide +kernel) ⟨Nat.le_of_ble_eq_true rfl, Nat.le_of_ble_eq_true rfl⟩, (hts _ kt_192), (hts _ kt_193)⟩ ⟨fun a U g mk q => ⟨q.1, PW.calling q.2⟩, va_recv hKc hPc (ci := 0) (q0 := 0) rfl rfl, fun U hU hW => ⟨rfl, PW.mk hU hW hPc hKc hDc hE⟩⟩ rfl rfl hl.1 rfl (lv_room (Nat.le_of_ble_eq_true rfl)) dX2_take_41 ⟨by show _ + 0 ≤ 0; omega, by show _ + 0 ≤ 0; omega⟩) hS (fun q _ h => hFc q h) hFc (fun r_4 u t H1 locs ht hvm hw hB hz1 hk1 hS => ?_)
    have hB1 := hB
    obtain ⟨hP, hD, hK⟩ := QW.join (wr := [(h0, .inr (2, [.ref qe, .int 0]))]) hP hD hK [1] [0] rfl rfl (by decide) (by decide) hk1 hFc ht hvm hB1
    generalize H1 = H at hP hS ⊢
    have hK : va_K (dC, dI) vwCl [] s := hK.sub [] rfl
    have hP : va_P (dC, dI) vwCl [(h0, .inr (2, [.ref qe, .int 0])), (t1, .inr (0, [.ref t2, .int 0, .int 0]))] H := hP
    have hD : va_D A [(h0, .inr (2, [.ref qe, .int 0])), (t1, .inr (0, [.ref t2, .int 0, .int 0]))] := hD
    have hw : r_4 = 0 := hw
    subst hw
    refine lv_goto (tgt := 51) hx hb dX2_take_44 (by decide) ?_
    refine lv_istore (lv' := [(5, .int 0), (4, .int 1), (0, .ref h0), (1, .int x1), (2, .int x2), (3, .ref t1)]) hx hb dX2_take_51 hl (by decide) rfl (fun ls hl => ?_)
    refine lv_iload_n hx hb dX2_take_53 rfl (lv_at hl 3 rfl) ?_
    refine lv_if_lt (tgt := 72) hx hb dX2_take_54 (by decide) (fun c_5 => ?_) (fun c_5 => ?_)
    ·
      refine lv_iconst (v := (-1)) hx hb dX2_take_72 (by decide) ?_
      have hP9 := hP.sub (ws' := [(h0, .inr (2, [.ref qe, .int 0])), (t1, .inr (0, [.ref t2, .int 0, .int 0]))]) [0, 1] rfl
      have hD9 := hD.sub (ws' := [(h0, .inr (2, [.ref qe, .int 0])), (t1, .inr (0, [.ref t2, .int 0, .int 0]))]) [0, 1] (by decide) rfl
      have hK9 := hK.sub (tys' := []) [] rfl
      refine W.widen (k := 0) (n := 0) (by omega) (by omega) ?_
      exact W.iret (v := (-1)) hx hb hr (fun t ht hW => ⟨⟨(-1), (), rfl, rfl, QW.mk ht hW hP9 hK9 hD9⟩, hS.F ht⟩) hS.2.2 dX2_take_73
    ·
      refine lv_iload_n hx hb dX2_take_57 rfl (lv_at hl 3 rfl) ?_
      refine lv_iconst (v := 4) hx hb dX2_take_58 (by decide) ?_
      refine lv_icmp_gt (tgt := 72) hx hb dX2_take_59 (by decide) (fun c_6 => ?_) (fun c_6 => ?_)
      ·
        refine lv_iconst (v := (-1)) hx hb dX2_take_72 (by decide) ?_
        have hP9 := hP.sub (ws' := [(h0, .inr (2, [.ref qe, .int 0])), (t1, .inr (0, [.ref t2, .int 0, .int 0]))]) [0, 1] rfl
        have hD9 := hD.sub (ws' := [(h0, .inr (2, [.ref qe, .int 0])), (t1, .inr (0, [.ref t2, .int 0, .int 0]))]) [0, 1] (by decide) rfl
        have hK9 := hK.sub (tys' := []) [] rfl
        refine W.widen (k := 0) (n := 0) (by omega) (by omega) ?_
        exact W.iret (v := (-1)) hx hb hr (fun t ht hW => ⟨⟨(-1), (), rfl, rfl, QW.mk ht hW hP9 hK9 hD9⟩, hS.F ht⟩) hS.2.2 dX2_take_73
      ·
        refine lv_aload_n hx hb dX2_take_62 rfl (lv_at hl 5 rfl) ?_
        refine lv_iconst (v := 0) hx hb dX2_take_63 (by decide) ?_
        refine lv_iload hx hb dX2_take_64 (lv_at hl 0 rfl) ?_
        have hPc := hP.sub (ws' := [(t1, .inr (0, [.ref t2, .int 0, .int 0]))]) [1] rfl
        have hDc := hD.sub (ws' := [(t1, .inr (0, [.ref t2, .int 0, .int 0]))]) [1] (by decide) rfl
        have hKc := hK.sub (tys' := []) [] rfl
        have hFc := va_free (wc := [(t1, .inr (0, [.ref t2, .int 0, .int 0]))]) hD hS hA [1] rfl
        refine va_calli (va_runV (As := [.int 0, .int 0]) (rest := []) ⟨hx, hb, hml, hown, hts⟩ (c_X0_isName l dC dI H.size t1 t2 ) ⟨callB_of 2 hts (gi kt_198) rfl rfl rfl (hts _ kt_10) (hts _ kt_199) (by decide +kernel) ⟨Nat.le_of_ble_eq_true rfl, Nat.le_of_ble_eq_true rfl⟩, (hts _ kt_200), (hts _ kt_201)⟩ ⟨fun a U g mk q => ⟨q.1, PW.calling q.2⟩, va_recv hKc hPc (ci := 0) (q0 := 0) rfl rfl, fun U hU hW => ⟨rfl, PW.mk hU hW hPc hKc hDc hE⟩⟩ rfl rfl hl.1 rfl (lv_room (Nat.le_of_ble_eq_true rfl)) dX2_take_66 ⟨by show _ + 0 ≤ 0; omega, by show _ + 0 ≤ 0; omega⟩) hS (fun q _ h => hFc q h) hFc (fun r_7 u t H1 locs ht hvm hw hB hz1 hk1 hS => ?_)
        have hB1 := hB
        obtain ⟨hP, hD, hK⟩ := QW.join (wr := [(h0, .inr (2, [.ref qe, .int 0]))]) hP hD hK [1] [0] rfl rfl (by decide) (by decide) hk1 hFc ht hvm hB1
        generalize H1 = H at hP hS ⊢
        have hK : va_K (dC, dI) vwCl [] s := hK.sub [] rfl
        have hP : va_P (dC, dI) vwCl [(h0, .inr (2, [.ref qe, .int 0])), (t1, .inr (0, [.ref t2, .int 0, .int 0]))] H := hP
        have hD : va_D A [(h0, .inr (2, [.ref qe, .int 0])), (t1, .inr (0, [.ref t2, .int 0, .int 0]))] := hD
        have hw : r_7 = 0 := hw
        subst hw
        refine lv_if_ne (tgt := 74) hx hb dX2_take_69 (by decide) (fun c_8 => absurd (by decide) c_8) (fun c_8 => ?_)
        refine lv_iconst (v := (-1)) hx hb dX2_take_72 (by decide) ?_
        have hP9 := hP.sub (ws' := [(h0, .inr (2, [.ref qe, .int 0])), (t1, .inr (0, [.ref t2, .int 0, .int 0]))]) [0, 1] rfl
        have hD9 := hD.sub (ws' := [(h0, .inr (2, [.ref qe, .int 0])), (t1, .inr (0, [.ref t2, .int 0, .int 0]))]) [0, 1] (by decide) rfl
        have hK9 := hK.sub (tys' := []) [] rfl
        refine W.widen (k := 0) (n := 0) (by omega) (by omega) ?_
        exact W.iret (v := (-1)) hx hb hr (fun t ht hW => ⟨⟨(-1), (), rfl, rfl, QW.mk ht hW hP9 hK9 hD9⟩, hS.F ht⟩) hS.2.2 dX2_take_73
  ·
    refine lv_iload_n hx hb dX2_take_16 rfl (lv_at hl 1 rfl) ?_
    refine lv_iconst (v := 2) hx hb dX2_take_17 (by decide) ?_
    refine lv_icmp_ne (tgt := 25) hx hb dX2_take_18 (by decide) (fun c_9 => ?_) (fun c_9 => ?_)
    ·
      refine lv_iconst (v := 0) hx hb dX2_take_25 (by decide) ?_
      refine lv_istore (lv' := [(4, .int 0), (0, .ref h0), (1, .int x1), (2, .int x2), (3, .ref t1)]) hx hb dX2_take_26 hl (by decide) rfl (fun ls hl => ?_)
      refine lv_iload hx hb dX2_take_28 (lv_at hl 0 rfl) ?_
      refine lv_if_eq (tgt := 47) hx hb dX2_take_30 (by decide) (fun c_10 => ?_) (fun c_10 => absurd (by decide) c_10)
      refine lv_aload_n hx hb dX2_take_47 rfl (lv_at hl 4 rfl) ?_
      refine va_getN (D := (dC, dI)) (ci := 0) (v := .int 0) (C := RX0) (T := TX0) (N := 3) hx hb hts it_0 hown hK hP 1 rfl rfl 1 (by decide) (hE.nest kn_7) (fun _ h9 => h9) rfl dX2_take_48 ?_
      refine lv_istore (lv' := [(5, .int 0), (4, .int 0), (0, .ref h0), (1, .int x1), (2, .int x2), (3, .ref t1)]) hx hb dX2_take_51 hl (by decide) rfl (fun ls hl => ?_)
      refine lv_iload_n hx hb dX2_take_53 rfl (lv_at hl 3 rfl) ?_
      refine lv_if_lt (tgt := 72) hx hb dX2_take_54 (by decide) (fun c_11 => ?_) (fun c_11 => ?_)
      ·
        refine lv_iconst (v := (-1)) hx hb dX2_take_72 (by decide) ?_
        have hP9 := hP.sub (ws' := [(h0, .inr (2, [.ref qe, .int 0])), (t1, .inr (0, [.ref t2, .int 0, .int 0]))]) [0, 1] rfl
        have hD9 := hD.sub (ws' := [(h0, .inr (2, [.ref qe, .int 0])), (t1, .inr (0, [.ref t2, .int 0, .int 0]))]) [0, 1] (by decide) rfl
        have hK9 := hK.sub (tys' := []) [] rfl
        refine W.widen (k := 0) (n := 0) (by omega) (by omega) ?_
        exact W.iret (v := (-1)) hx hb hr (fun t ht hW => ⟨⟨(-1), (), rfl, rfl, QW.mk ht hW hP9 hK9 hD9⟩, hS.F ht⟩) hS.2.2 dX2_take_73
      ·
        refine lv_iload_n hx hb dX2_take_57 rfl (lv_at hl 3 rfl) ?_
        refine lv_iconst (v := 4) hx hb dX2_take_58 (by decide) ?_
        refine lv_icmp_gt (tgt := 72) hx hb dX2_take_59 (by decide) (fun c_12 => ?_) (fun c_12 => ?_)
        ·
          refine lv_iconst (v := (-1)) hx hb dX2_take_72 (by decide) ?_
          have hP9 := hP.sub (ws' := [(h0, .inr (2, [.ref qe, .int 0])), (t1, .inr (0, [.ref t2, .int 0, .int 0]))]) [0, 1] rfl
          have hD9 := hD.sub (ws' := [(h0, .inr (2, [.ref qe, .int 0])), (t1, .inr (0, [.ref t2, .int 0, .int 0]))]) [0, 1] (by decide) rfl
          have hK9 := hK.sub (tys' := []) [] rfl
          refine W.widen (k := 0) (n := 0) (by omega) (by omega) ?_
          exact W.iret (v := (-1)) hx hb hr (fun t ht hW => ⟨⟨(-1), (), rfl, rfl, QW.mk ht hW hP9 hK9 hD9⟩, hS.F ht⟩) hS.2.2 dX2_take_73
        ·
          refine lv_aload_n hx hb dX2_take_62 rfl (lv_at hl 5 rfl) ?_
          refine lv_iconst (v := 0) hx hb dX2_take_63 (by decide) ?_
          refine lv_iload hx hb dX2_take_64 (lv_at hl 0 rfl) ?_
          have hPc := hP.sub (ws' := [(t1, .inr (0, [.ref t2, .int 0, .int 0]))]) [1] rfl
          have hDc := hD.sub (ws' := [(t1, .inr (0, [.ref t2, .int 0, .int 0]))]) [1] (by decide) rfl
          have hKc := hK.sub (tys' := []) [] rfl
          have hFc := va_free (wc := [(t1, .inr (0, [.ref t2, .int 0, .int 0]))]) hD hS hA [1] rfl
          refine va_calli (va_runV (As := [.int 0, .int 0]) (rest := []) ⟨hx, hb, hml, hown, hts⟩ (c_X0_isName l dC dI s.heap.size t1 t2 ) ⟨callB_of 2 hts (gi kt_198) rfl rfl rfl (hts _ kt_10) (hts _ kt_199) (by decide +kernel) ⟨Nat.le_of_ble_eq_true rfl, Nat.le_of_ble_eq_true rfl⟩, (hts _ kt_200), (hts _ kt_201)⟩ ⟨fun a U g mk q => ⟨q.1, PW.calling q.2⟩, va_recv hKc hPc (ci := 0) (q0 := 0) rfl rfl, fun U hU hW => ⟨rfl, PW.mk hU hW hPc hKc hDc hE⟩⟩ rfl rfl hl.1 rfl (lv_room (Nat.le_of_ble_eq_true rfl)) dX2_take_66 ⟨by show _ + 0 ≤ 0; omega, by show _ + 0 ≤ 0; omega⟩) hS (fun q _ h => hFc q h) hFc (fun r_13 u t H1 locs ht hvm hw hB hz1 hk1 hS => ?_)
          have hB1 := hB
          obtain ⟨hP, hD, hK⟩ := QW.join (wr := [(h0, .inr (2, [.ref qe, .int 0]))]) hP hD hK [1] [0] rfl rfl (by decide) (by decide) hk1 hFc ht hvm hB1
          generalize H1 = H at hP hS ⊢
          have hK : va_K (dC, dI) vwCl [] s := hK.sub [] rfl
          have hP : va_P (dC, dI) vwCl [(h0, .inr (2, [.ref qe, .int 0])), (t1, .inr (0, [.ref t2, .int 0, .int 0]))] H := hP
          have hD : va_D A [(h0, .inr (2, [.ref qe, .int 0])), (t1, .inr (0, [.ref t2, .int 0, .int 0]))] := hD
          have hw : r_13 = 0 := hw
          subst hw
          refine lv_if_ne (tgt := 74) hx hb dX2_take_69 (by decide) (fun c_14 => absurd (by decide) c_14) (fun c_14 => ?_)
          refine lv_iconst (v := (-1)) hx hb dX2_take_72 (by decide) ?_
          have hP9 := hP.sub (ws' := [(h0, .inr (2, [.ref qe, .int 0])), (t1, .inr (0, [.ref t2, .int 0, .int 0]))]) [0, 1] rfl
          have hD9 := hD.sub (ws' := [(h0, .inr (2, [.ref qe, .int 0])), (t1, .inr (0, [.ref t2, .int 0, .int 0]))]) [0, 1] (by decide) rfl
          have hK9 := hK.sub (tys' := []) [] rfl
          refine W.widen (k := 0) (n := 0) (by omega) (by omega) ?_
          exact W.iret (v := (-1)) hx hb hr (fun t ht hW => ⟨⟨(-1), (), rfl, rfl, QW.mk ht hW hP9 hK9 hD9⟩, hS.F ht⟩) hS.2.2 dX2_take_73
    ·
      refine lv_iconst (v := 1) hx hb dX2_take_21 (by decide) ?_
      refine lv_goto (tgt := 26) hx hb dX2_take_22 (by decide) ?_
      refine lv_istore (lv' := [(4, .int 1), (0, .ref h0), (1, .int x1), (2, .int x2), (3, .ref t1)]) hx hb dX2_take_26 hl (by decide) rfl (fun ls hl => ?_)
      refine lv_iload hx hb dX2_take_28 (lv_at hl 0 rfl) ?_
      refine lv_if_eq (tgt := 47) hx hb dX2_take_30 (by decide) (fun c_15 => absurd c_15 (by decide)) (fun c_15 => ?_)
      refine lv_aload_n hx hb dX2_take_33 rfl (lv_at hl 4 rfl) ?_
      refine lv_bipush (v := 32) hx hb dX2_take_34 (by decide) ?_
      refine lv_iconst (v := 0) hx hb dX2_take_36 (by decide) ?_
      refine lv_aload_n hx hb dX2_take_37 rfl (lv_at hl 4 rfl) ?_
      refine va_getN (D := (dC, dI)) (ci := 0) (v := .int 0) (C := RX0) (T := TX0) (N := 3) hx hb hts it_0 hown hK hP 1 rfl rfl 1 (by decide) (hE.nest kn_7) (fun _ h9 => h9) rfl dX2_take_38 ?_
      have hPc := hP.sub (ws' := [(t1, .inr (0, [.ref t2, .int 0, .int 0]))]) [1] rfl
      have hDc := hD.sub (ws' := [(t1, .inr (0, [.ref t2, .int 0, .int 0]))]) [1] (by decide) rfl
      have hKc := hK.sub (tys' := []) [] rfl
      have hFc := va_free (wc := [(t1, .inr (0, [.ref t2, .int 0, .int 0]))]) hD hS hA [1] rfl
      refine va_calli (va_runV (As := [.int 32, .int 0, .int 0]) (rest := []) ⟨hx, hb, hml, hown, hts⟩ (c_X0_find l dC dI s.heap.size t1 t2 32 ) ⟨callB_of 3 hts (gi kt_190) rfl rfl rfl (hts _ kt_10) (hts _ kt_197) (by decide +kernel) ⟨Nat.le_of_ble_eq_true rfl, Nat.le_of_ble_eq_true rfl⟩, (hts _ kt_192), (hts _ kt_193)⟩ ⟨fun a U g mk q => ⟨q.1, PW.calling q.2⟩, va_recv hKc hPc (ci := 0) (q0 := 0) rfl rfl, fun U hU hW => ⟨rfl, PW.mk hU hW hPc hKc hDc hE⟩⟩ rfl rfl hl.1 rfl (lv_room (Nat.le_of_ble_eq_true rfl)) dX2_take_41 ⟨by show _ + 0 ≤ 0; omega, by show _ + 0 ≤ 0; omega⟩) hS (fun q _ h => hFc q h) hFc (fun r_16 u t H1 locs ht hvm hw hB hz1 hk1 hS => ?_)
      have hB1 := hB
      obtain ⟨hP, hD, hK⟩ := QW.join (wr := [(h0, .inr (2, [.ref qe, .int 0]))]) hP hD hK [1] [0] rfl rfl (by decide) (by decide) hk1 hFc ht hvm hB1
      generalize H1 = H at hP hS ⊢
      have hK : va_K (dC, dI) vwCl [] s := hK.sub [] rfl
      have hP : va_P (dC, dI) vwCl [(h0, .inr (2, [.ref qe, .int 0])), (t1, .inr (0, [.ref t2, .int 0, .int 0]))] H := hP
      have hD : va_D A [(h0, .inr (2, [.ref qe, .int 0])), (t1, .inr (0, [.ref t2, .int 0, .int 0]))] := hD
      have hw : r_16 = 0 := hw
      subst hw
      refine lv_goto (tgt := 51) hx hb dX2_take_44 (by decide) ?_
      refine lv_istore (lv' := [(5, .int 0), (4, .int 1), (0, .ref h0), (1, .int x1), (2, .int x2), (3, .ref t1)]) hx hb dX2_take_51 hl (by decide) rfl (fun ls hl => ?_)
      refine lv_iload_n hx hb dX2_take_53 rfl (lv_at hl 3 rfl) ?_
      refine lv_if_lt (tgt := 72) hx hb dX2_take_54 (by decide) (fun c_17 => ?_) (fun c_17 => ?_)
      ·
        refine lv_iconst (v := (-1)) hx hb dX2_take_72 (by decide) ?_
        have hP9 := hP.sub (ws' := [(h0, .inr (2, [.ref qe, .int 0])), (t1, .inr (0, [.ref t2, .int 0, .int 0]))]) [0, 1] rfl
        have hD9 := hD.sub (ws' := [(h0, .inr (2, [.ref qe, .int 0])), (t1, .inr (0, [.ref t2, .int 0, .int 0]))]) [0, 1] (by decide) rfl
        have hK9 := hK.sub (tys' := []) [] rfl
        refine W.widen (k := 0) (n := 0) (by omega) (by omega) ?_
        exact W.iret (v := (-1)) hx hb hr (fun t ht hW => ⟨⟨(-1), (), rfl, rfl, QW.mk ht hW hP9 hK9 hD9⟩, hS.F ht⟩) hS.2.2 dX2_take_73
      ·
        refine lv_iload_n hx hb dX2_take_57 rfl (lv_at hl 3 rfl) ?_
        refine lv_iconst (v := 4) hx hb dX2_take_58 (by decide) ?_
        refine lv_icmp_gt (tgt := 72) hx hb dX2_take_59 (by decide) (fun c_18 => ?_) (fun c_18 => ?_)
        ·
          refine lv_iconst (v := (-1)) hx hb dX2_take_72 (by decide) ?_
          have hP9 := hP.sub (ws' := [(h0, .inr (2, [.ref qe, .int 0])), (t1, .inr (0, [.ref t2, .int 0, .int 0]))]) [0, 1] rfl
          have hD9 := hD.sub (ws' := [(h0, .inr (2, [.ref qe, .int 0])), (t1, .inr (0, [.ref t2, .int 0, .int 0]))]) [0, 1] (by decide) rfl
          have hK9 := hK.sub (tys' := []) [] rfl
          refine W.widen (k := 0) (n := 0) (by omega) (by omega) ?_
          exact W.iret (v := (-1)) hx hb hr (fun t ht hW => ⟨⟨(-1), (), rfl, rfl, QW.mk ht hW hP9 hK9 hD9⟩, hS.F ht⟩) hS.2.2 dX2_take_73
        ·
          refine lv_aload_n hx hb dX2_take_62 rfl (lv_at hl 5 rfl) ?_
          refine lv_iconst (v := 0) hx hb dX2_take_63 (by decide) ?_
          refine lv_iload hx hb dX2_take_64 (lv_at hl 0 rfl) ?_
          have hPc := hP.sub (ws' := [(t1, .inr (0, [.ref t2, .int 0, .int 0]))]) [1] rfl
          have hDc := hD.sub (ws' := [(t1, .inr (0, [.ref t2, .int 0, .int 0]))]) [1] (by decide) rfl
          have hKc := hK.sub (tys' := []) [] rfl
          have hFc := va_free (wc := [(t1, .inr (0, [.ref t2, .int 0, .int 0]))]) hD hS hA [1] rfl
          refine va_calli (va_runV (As := [.int 0, .int 0]) (rest := []) ⟨hx, hb, hml, hown, hts⟩ (c_X0_isName l dC dI H.size t1 t2 ) ⟨callB_of 2 hts (gi kt_198) rfl rfl rfl (hts _ kt_10) (hts _ kt_199) (by decide +kernel) ⟨Nat.le_of_ble_eq_true rfl, Nat.le_of_ble_eq_true rfl⟩, (hts _ kt_200), (hts _ kt_201)⟩ ⟨fun a U g mk q => ⟨q.1, PW.calling q.2⟩, va_recv hKc hPc (ci := 0) (q0 := 0) rfl rfl, fun U hU hW => ⟨rfl, PW.mk hU hW hPc hKc hDc hE⟩⟩ rfl rfl hl.1 rfl (lv_room (Nat.le_of_ble_eq_true rfl)) dX2_take_66 ⟨by show _ + 0 ≤ 0; omega, by show _ + 0 ≤ 0; omega⟩) hS (fun q _ h => hFc q h) hFc (fun r_19 u t H1 locs ht hvm hw hB hz1 hk1 hS => ?_)
          have hB1 := hB
          obtain ⟨hP, hD, hK⟩ := QW.join (wr := [(h0, .inr (2, [.ref qe, .int 0]))]) hP hD hK [1] [0] rfl rfl (by decide) (by decide) hk1 hFc ht hvm hB1
          generalize H1 = H at hP hS ⊢
          have hK : va_K (dC, dI) vwCl [] s := hK.sub [] rfl
          have hP : va_P (dC, dI) vwCl [(h0, .inr (2, [.ref qe, .int 0])), (t1, .inr (0, [.ref t2, .int 0, .int 0]))] H := hP
          have hD : va_D A [(h0, .inr (2, [.ref qe, .int 0])), (t1, .inr (0, [.ref t2, .int 0, .int 0]))] := hD
          have hw : r_19 = 0 := hw
          subst hw
          refine lv_if_ne (tgt := 74) hx hb dX2_take_69 (by decide) (fun c_20 => absurd (by decide) c_20) (fun c_20 => ?_)
          refine lv_iconst (v := (-1)) hx hb dX2_take_72 (by decide) ?_
          have hP9 := hP.sub (ws' := [(h0, .inr (2, [.ref qe, .int 0])), (t1, .inr (0, [.ref t2, .int 0, .int 0]))]) [0, 1] rfl
          have hD9 := hD.sub (ws' := [(h0, .inr (2, [.ref qe, .int 0])), (t1, .inr (0, [.ref t2, .int 0, .int 0]))]) [0, 1] (by decide) rfl
          have hK9 := hK.sub (tys' := []) [] rfl
          refine W.widen (k := 0) (n := 0) (by omega) (by omega) ?_
          exact W.iret (v := (-1)) hx hb hr (fun t ht hW => ⟨⟨(-1), (), rfl, rfl, QW.mk ht hW hP9 hK9 hD9⟩, hS.F ht⟩) hS.2.2 dX2_take_73
set_option maxHeartbeats 4000000 in
set_option maxRecDepth 100000 in
theorem c_X4_countOf (l : Launch) (dC : Nat → ClassId) (dI : Nat → Nat → Nat) (sz : Nat) (h0 : Nat) (l0 : Nat) (l1 : Nat) (l2 : Nat) (l3 : Nat) (qs : Nat) : Met l yX4_countOf (.code yX4_countOf cX4_countOf 4 (some .int) :: tb) ({ frames := 0, cells := 0, slots := 0, locals := 0 }) (va_Pc [.ref h0, .ref qs] (PW (dC, dI) sz [(h0, .inr (4, [.ref l0, .ref l1, .ref l2, .ref l3, .int 0, .int 0]))] [])) (va_Qi (fun (r : Int32) (_ : Unit) => r = 0) (fun _ T9 => QW (dC, dI) (va_A [(h0, .inr (4, [.ref l0, .ref l1, .ref l2, .ref l3, .int 0, .int 0]))] sz) [(h0, .inr (4, [.ref l0, .ref l1, .ref l2, .ref l3, .int 0, .int 0]))] [] T9) (va_A [(h0, .inr (4, [.ref l0, .ref l1, .ref l2, .ref l3, .int 0, .int 0]))] sz)) 0 0 (va_A [(h0, .inr (4, [.ref l0, .ref l1, .ref l2, .ref l3, .int 0, .int 0]))] sz) := by
  refine Met.ofW (cc := cX4_countOf) (maxL := 4) (ret := (some .int)) (by decide) rfl ?_
  intro p e s m args below meth c s₁ B hml hv
  obtain ⟨rfl, hsz, hP, hK, hD0, hE⟩ := hv
  have hx := B.exec
  have hb := B.bytes
  have hr := B.returns
  have hts : ∀ w ∈ tb, w.before _ s = true := fun w h => atoms_spec (ws := .code yX4_countOf cX4_countOf 4 (some .int) :: tb) B.pre w (List.mem_cons_of_mem _ h)
  have hown : s.vm.findClass RX4 = some m.cls := findClass_of_methodNamed B.named
  have hlocks := B.notSynchronized
  subst hsz
  have hD := hD0.self (sz := s.heap.size)
  generalize hAe : va_A [(h0, .inr (4, [.ref l0, .ref l1, .ref l2, .ref l3, .int 0, .int 0]))] s.heap.size = A at hD ⊢
  have hA : ∀ q : Nat, s.heap.size ≤ q → A q := fun q h => by rw [← hAe]; exact Or.inr h
  have hS : va_S A s.heap s.heap [] := va_S.rf
  have hP : va_P (dC, dI) vwCl [(h0, .inr (4, [.ref l0, .ref l1, .ref l2, .ref l3, .int 0, .int 0]))] s.heap := hP
  have hl := lv_entry ([.ref h0, .ref qs]) (n := 4) (Nat.le_of_ble_eq_true rfl)
  rw [lg_entry_eq]
  generalize (lg_sl ([.ref h0, .ref qs]) ++ List.replicate (4 - (lg_sl ([.ref h0, .ref qs])).length) Slot.unset).toArray = ls at hl ⊢
  have hl : lv_has ls 4 [(0, .ref h0), (1, .ref qs)] := hl
  refine lv_iconst (v := 0) hx hb dX4_countOf_0 (by decide) ?_
  refine lv_istore_n (lv' := [(2, .int 0), (0, .ref h0), (1, .ref qs)]) hx hb dX4_countOf_1 rfl hl (by decide) rfl (fun ls hl => ?_)
  refine lv_iconst (v := 0) hx hb dX4_countOf_2 (by decide) ?_
  refine lv_istore_n (lv' := [(3, .int 0), (2, .int 0), (0, .ref h0), (1, .ref qs)]) hx hb dX4_countOf_3 rfl hl (by decide) rfl (fun ls hl => ?_)
  refine lv_iload_n hx hb dX4_countOf_4 rfl (lv_at hl 0 rfl) ?_
  refine lv_aload_n hx hb dX4_countOf_5 rfl (lv_at hl 2 rfl) ?_
  refine va_get (D := (dC, dI)) (ci := 4) (v := .int 0) (C := RX4) (T := TX4) (N := 6) hx hb hts it_4 hown hK hP 0 rfl rfl 4 (by decide) (hts _ kt_51) (fun _ h9 => h9) rfl dX4_countOf_6 ?_
  refine lv_icmp_ge (tgt := 35) hx hb dX4_countOf_9 (by decide) (fun c_1 => ?_) (fun c_1 => absurd (by decide) c_1)
  refine lv_iload_n hx hb dX4_countOf_35 rfl (lv_at hl 1 rfl) ?_
  have hP9 := hP.sub (ws' := [(h0, .inr (4, [.ref l0, .ref l1, .ref l2, .ref l3, .int 0, .int 0]))]) [0] rfl
  have hD9 := hD.sub (ws' := [(h0, .inr (4, [.ref l0, .ref l1, .ref l2, .ref l3, .int 0, .int 0]))]) [0] (by decide) rfl
  have hK9 := hK.sub (tys' := []) [] rfl
  refine W.widen (k := 0) (n := 0) (by omega) (by omega) ?_
  exact W.iret (v := 0) hx hb hr (fun t ht hW => ⟨⟨0, (), rfl, rfl, QW.mk ht hW hP9 hK9 hD9⟩, hS.F ht⟩) hS.2.2 dX4_countOf_36
set_option maxHeartbeats 4000000 in
set_option maxRecDepth 100000 in
theorem c_X4_fieldOf (l : Launch) (dC : Nat → ClassId) (dI : Nat → Nat → Nat) (sz : Nat) (h0 : Nat) (l0 : Nat) (l1 : Nat) (l2 : Nat) (l3 : Nat) (qs : Nat) (x1 : Int32) : Met l yX4_fieldOf (.code yX4_fieldOf cX4_fieldOf 5 (some .int) :: tb) ({ frames := 0, cells := 0, slots := 0, locals := 0 }) (va_Pc [.ref h0, .ref qs, .int x1] (PW (dC, dI) sz [(h0, .inr (4, [.ref l0, .ref l1, .ref l2, .ref l3, .int 0, .int 0]))] [])) (va_Qi (fun (r : Int32) (_ : Unit) => r = (-1)) (fun _ T9 => QW (dC, dI) (va_A [(h0, .inr (4, [.ref l0, .ref l1, .ref l2, .ref l3, .int 0, .int 0]))] sz) [(h0, .inr (4, [.ref l0, .ref l1, .ref l2, .ref l3, .int 0, .int 0]))] [] T9) (va_A [(h0, .inr (4, [.ref l0, .ref l1, .ref l2, .ref l3, .int 0, .int 0]))] sz)) 0 0 (va_A [(h0, .inr (4, [.ref l0, .ref l1, .ref l2, .ref l3, .int 0, .int 0]))] sz) := by
  refine Met.ofW (cc := cX4_fieldOf) (maxL := 5) (ret := (some .int)) (by decide) rfl ?_
  intro p e s m args below meth c s₁ B hml hv
  obtain ⟨rfl, hsz, hP, hK, hD0, hE⟩ := hv
  have hx := B.exec
  have hb := B.bytes
  have hr := B.returns
  have hts : ∀ w ∈ tb, w.before _ s = true := fun w h => atoms_spec (ws := .code yX4_fieldOf cX4_fieldOf 5 (some .int) :: tb) B.pre w (List.mem_cons_of_mem _ h)
  have hown : s.vm.findClass RX4 = some m.cls := findClass_of_methodNamed B.named
  have hlocks := B.notSynchronized
  subst hsz
  have hD := hD0.self (sz := s.heap.size)
  generalize hAe : va_A [(h0, .inr (4, [.ref l0, .ref l1, .ref l2, .ref l3, .int 0, .int 0]))] s.heap.size = A at hD ⊢
  have hA : ∀ q : Nat, s.heap.size ≤ q → A q := fun q h => by rw [← hAe]; exact Or.inr h
  have hS : va_S A s.heap s.heap [] := va_S.rf
  have hP : va_P (dC, dI) vwCl [(h0, .inr (4, [.ref l0, .ref l1, .ref l2, .ref l3, .int 0, .int 0]))] s.heap := hP
  have hl := lv_entry ([.ref h0, .ref qs, .int x1]) (n := 5) (Nat.le_of_ble_eq_true rfl)
  rw [lg_entry_eq]
  generalize (lg_sl ([.ref h0, .ref qs, .int x1]) ++ List.replicate (5 - (lg_sl ([.ref h0, .ref qs, .int x1])).length) Slot.unset).toArray = ls at hl ⊢
  have hl : lv_has ls 5 [(0, .ref h0), (1, .ref qs), (2, .int x1)] := hl
  refine lv_iload_n hx hb dX4_fieldOf_0 rfl (lv_at hl 2 rfl) ?_
  refine lv_istore_n (lv' := [(3, .int x1), (0, .ref h0), (1, .ref qs), (2, .int x1)]) hx hb dX4_fieldOf_1 rfl hl (by decide) rfl (fun ls hl => ?_)
  refine lv_iconst (v := 0) hx hb dX4_fieldOf_2 (by decide) ?_
  refine lv_istore (lv' := [(4, .int 0), (3, .int x1), (0, .ref h0), (1, .ref qs), (2, .int x1)]) hx hb dX4_fieldOf_3 hl (by decide) rfl (fun ls hl => ?_)
  refine lv_iload hx hb dX4_fieldOf_5 (lv_at hl 0 rfl) ?_
  refine lv_aload_n hx hb dX4_fieldOf_7 rfl (lv_at hl 2 rfl) ?_
  refine va_get (D := (dC, dI)) (ci := 4) (v := .int 0) (C := RX4) (T := TX4) (N := 6) hx hb hts it_4 hown hK hP 0 rfl rfl 4 (by decide) (hts _ kt_51) (fun _ h9 => h9) rfl dX4_fieldOf_8 ?_
  refine lv_icmp_ge (tgt := 43) hx hb dX4_fieldOf_11 (by decide) (fun c_1 => ?_) (fun c_1 => absurd (by decide) c_1)
  refine lv_iconst (v := (-1)) hx hb dX4_fieldOf_43 (by decide) ?_
  have hP9 := hP.sub (ws' := [(h0, .inr (4, [.ref l0, .ref l1, .ref l2, .ref l3, .int 0, .int 0]))]) [0] rfl
  have hD9 := hD.sub (ws' := [(h0, .inr (4, [.ref l0, .ref l1, .ref l2, .ref l3, .int 0, .int 0]))]) [0] (by decide) rfl
  have hK9 := hK.sub (tys' := []) [] rfl
  refine W.widen (k := 0) (n := 0) (by omega) (by omega) ?_
  exact W.iret (v := (-1)) hx hb hr (fun t ht hW => ⟨⟨(-1), (), rfl, rfl, QW.mk ht hW hP9 hK9 hD9⟩, hS.F ht⟩) hS.2.2 dX4_fieldOf_44
set_option maxHeartbeats 4000000 in
set_option maxRecDepth 100000 in
theorem c_X4_read (l : Launch) (dC : Nat → ClassId) (dI : Nat → Nat → Nat) (sz : Nat) (h0 : Nat) (px : Nat) (p1 : Nat) (p2 : Nat) (p3 : Nat) (pr : Nat) (t1 : Nat) (t2 : Nat) (cA : ClassId) : Met l yX4_read (.code yX4_read cX4_read 5 (some .boolean) :: tb) ({ frames := 3, cells := 0, slots := 0, locals := 68 }) (va_Pc [.ref h0, .ref t1] (PW (dC, dI) sz [(h0, .inr (4, [.ref px, .ref p1, .ref p2, .ref p3, .int 0, .int 0])), (px, .inr (0, [.ref pr, .int 0, .int 0])), (pr, .inl (cA, 3000, .inl (fun _ => 0))), (t1, .inr (0, [.ref t2, .int 0, .int 0]))] [(cA, .int)])) (va_Qi (fun (r : Int32) (_ : Unit) => r = 0) (fun _ T9 => QW (dC, dI) (va_A [(h0, .inr (4, [.ref px, .ref p1, .ref p2, .ref p3, .int 0, .int 0])), (px, .inr (0, [.ref pr, .int 0, .int 0])), (pr, .inl (cA, 3000, .inl (fun _ => 0))), (t1, .inr (0, [.ref t2, .int 0, .int 0]))] sz) [(t1, .inr (0, [.ref t2, .int 0, .int 0]))] [] T9) (va_A [(h0, .inr (4, [.ref px, .ref p1, .ref p2, .ref p3, .int 0, .int 0])), (px, .inr (0, [.ref pr, .int 0, .int 0])), (pr, .inl (cA, 3000, .inl (fun _ => 0))), (t1, .inr (0, [.ref t2, .int 0, .int 0]))] sz)) 0 0 (va_A [(h0, .inr (4, [.ref px, .ref p1, .ref p2, .ref p3, .int 0, .int 0])), (px, .inr (0, [.ref pr, .int 0, .int 0])), (pr, .inl (cA, 3000, .inl (fun _ => 0))), (t1, .inr (0, [.ref t2, .int 0, .int 0]))] sz) := by
  refine Met.ofW (cc := cX4_read) (maxL := 5) (ret := (some .boolean)) (by decide) rfl ?_
  intro p e s m args below meth c s₁ B hml hv
  obtain ⟨rfl, hsz, hP, hK, hD0, hE⟩ := hv
  have hx := B.exec
  have hb := B.bytes
  have hr := B.returns
  have hts : ∀ w ∈ tb, w.before _ s = true := fun w h => atoms_spec (ws := .code yX4_read cX4_read 5 (some .boolean) :: tb) B.pre w (List.mem_cons_of_mem _ h)
  have hown : s.vm.findClass RX4 = some m.cls := findClass_of_methodNamed B.named
  have hlocks := B.notSynchronized
  subst hsz
  have hD := hD0.self (sz := s.heap.size)
  generalize hAe : va_A [(h0, .inr (4, [.ref px, .ref p1, .ref p2, .ref p3, .int 0, .int 0])), (px, .inr (0, [.ref pr, .int 0, .int 0])), (pr, .inl (cA, 3000, .inl (fun _ => 0))), (t1, .inr (0, [.ref t2, .int 0, .int 0]))] s.heap.size = A at hD ⊢
  have hA : ∀ q : Nat, s.heap.size ≤ q → A q := fun q h => by rw [← hAe]; exact Or.inr h
  have hS : va_S A s.heap s.heap [] := va_S.rf
  have hP : va_P (dC, dI) vwCl [(h0, .inr (4, [.ref px, .ref p1, .ref p2, .ref p3, .int 0, .int 0])), (px, .inr (0, [.ref pr, .int 0, .int 0])), (pr, .inl (cA, 3000, .inl (fun _ => 0))), (t1, .inr (0, [.ref t2, .int 0, .int 0]))] s.heap := hP
  have hl := lv_entry ([.ref h0, .ref t1]) (n := 5) (Nat.le_of_ble_eq_true rfl)
  rw [lg_entry_eq]
  generalize (lg_sl ([.ref h0, .ref t1]) ++ List.replicate (5 - (lg_sl ([.ref h0, .ref t1])).length) Slot.unset).toArray = ls at hl ⊢
  have hl : lv_has ls 5 [(0, .ref h0), (1, .ref t1)] := hl
  refine lv_aload_n hx hb dX4_read_0 rfl (lv_at hl 0 rfl) ?_
  refine va_get (D := (dC, dI)) (ci := 4) (v := .ref px) (C := RX4) (T := TX4) (N := 6) hx hb hts it_4 hown hK hP 0 rfl rfl 0 (by decide) (hts _ kt_47) (fun _ h9 => h9) rfl dX4_read_1 ?_
  refine lv_aload_n hx hb dX4_read_4 rfl (lv_at hl 1 rfl) ?_
  have hPc := hP.sub (ws' := [(px, .inr (0, [.ref pr, .int 0, .int 0])), (pr, .inl (cA, 3000, .inl (fun _ => 0))), (t1, .inr (0, [.ref t2, .int 0, .int 0]))]) [1, 2, 3] rfl
  have hDc := hD.sub (ws' := [(px, .inr (0, [.ref pr, .int 0, .int 0])), (pr, .inl (cA, 3000, .inl (fun _ => 0))), (t1, .inr (0, [.ref t2, .int 0, .int 0]))]) [1, 2, 3] (by decide) rfl
  have hKc := hK.sub (tys' := [(cA, .int)]) [0] rfl
  have hFc := va_free (wc := [(px, .inr (0, [.ref pr, .int 0, .int 0])), (pr, .inl (cA, 3000, .inl (fun _ => 0))), (t1, .inr (0, [.ref t2, .int 0, .int 0]))]) hD hS hA [1, 2, 3] rfl
  refine va_callv (va_runV (As := [.ref t1]) (rest := []) ⟨hx, hb, hml, hown, hts⟩ (c_X0_copy l dC dI s.heap.size px pr t1 t2 cA ) ⟨callB_of 1 hts (gi kt_202) rfl rfl rfl (hts _ kt_10) (hts _ kt_203) (by decide +kernel) ⟨Nat.le_of_ble_eq_true rfl, Nat.le_of_ble_eq_true rfl⟩, (hts _ kt_204), (hts _ kt_205)⟩ ⟨fun a U g mk q => ⟨q.1, PW.calling q.2⟩, va_recv hKc hPc (ci := 0) (q0 := 0) rfl rfl, fun U hU hW => ⟨rfl, PW.mk hU hW hPc hKc hDc hE⟩⟩ rfl rfl hl.1 rfl (lv_room (Nat.le_of_ble_eq_true rfl)) dX4_read_5 ⟨by show _ + 0 ≤ 0; omega, by show _ + 0 ≤ 0; omega⟩) hS (fun q _ h => hFc q h) hFc (fun u t H1 locs ht hvm hw hB hz1 hk1 hS => ?_)
  have hB1 := hB
  obtain ⟨hP, hD, hK⟩ := QW.join (wr := [(h0, .inr (4, [.ref px, .ref p1, .ref p2, .ref p3, .int 0, .int 0]))]) hP hD hK [1, 2, 3] [0] rfl rfl (by decide) (by decide) hk1 hFc ht hvm hB1
  generalize H1 = H at hP hS ⊢
  have hK : va_K (dC, dI) vwCl [(cA, .int)] s := hK.sub [0] rfl
  have hP : va_P (dC, dI) vwCl [(h0, .inr (4, [.ref px, .ref p1, .ref p2, .ref p3, .int 0, .int 0])), (px, .inr (0, [.ref pr, .int 0, .int 0])), (pr, .inl (cA, 3000, .inl (fun _ => 0))), (t1, .inr (0, [.ref t2, .int 0, .int 0]))] H := hP
  have hD : va_D A [(h0, .inr (4, [.ref px, .ref p1, .ref p2, .ref p3, .int 0, .int 0])), (px, .inr (0, [.ref pr, .int 0, .int 0])), (pr, .inl (cA, 3000, .inl (fun _ => 0))), (t1, .inr (0, [.ref t2, .int 0, .int 0]))] := hD
  refine lv_aload_n hx hb dX4_read_8 rfl (lv_at hl 0 rfl) ?_
  refine lv_iconst (v := 0) hx hb dX4_read_9 (by decide) ?_
  refine va_put (D := (dC, dI)) (ci := 4) (v := .int 0) (ty := .int) (C := RX4) (T := TX4) (N := 6) hx hb hts it_4 tyX4 tyX4_ok nmX4 hown hK hP hD hS 0 rfl rfl 4 (by decide) (hts _ kt_51) (fun _ h9 => h9) rfl (by decide +kernel) rfl rfl (Nat.le_of_ble_eq_true rfl) dX4_read_10 (fun H locs hP hD hS => ?_)
  have hP : va_P (dC, dI) vwCl [(h0, .inr (4, [.ref px, .ref p1, .ref p2, .ref p3, .int 0, .int 0])), (px, .inr (0, [.ref pr, .int 0, .int 0])), (pr, .inl (cA, 3000, .inl (fun _ => 0))), (t1, .inr (0, [.ref t2, .int 0, .int 0]))] H := hP
  have hD : va_D A [(h0, .inr (4, [.ref px, .ref p1, .ref p2, .ref p3, .int 0, .int 0])), (px, .inr (0, [.ref pr, .int 0, .int 0])), (pr, .inl (cA, 3000, .inl (fun _ => 0))), (t1, .inr (0, [.ref t2, .int 0, .int 0]))] := hD
  refine lv_aload_n hx hb dX4_read_13 rfl (lv_at hl 0 rfl) ?_
  refine lv_aload_n hx hb dX4_read_14 rfl (lv_at hl 0 rfl) ?_
  refine va_get (D := (dC, dI)) (ci := 4) (v := .ref px) (C := RX4) (T := TX4) (N := 6) hx hb hts it_4 hown hK hP 0 rfl rfl 0 (by decide) (hts _ kt_47) (fun _ h9 => h9) rfl dX4_read_15 ?_
  refine va_getN (D := (dC, dI)) (ci := 0) (v := .int 0) (C := RX0) (T := TX0) (N := 3) hx hb hts it_0 hown hK hP 1 rfl rfl 1 (by decide) (hE.nest kn_8) (fun _ h9 => h9) rfl dX4_read_18 ?_
  refine va_put (D := (dC, dI)) (ci := 4) (v := .int 0) (ty := .int) (C := RX4) (T := TX4) (N := 6) hx hb hts it_4 tyX4 tyX4_ok nmX4 hown hK hP hD hS 0 rfl rfl 5 (by decide) (hts _ kt_52) (fun _ h9 => h9) rfl (by decide +kernel) rfl rfl (Nat.le_of_ble_eq_true rfl) dX4_read_21 (fun H locs hP hD hS => ?_)
  have hP : va_P (dC, dI) vwCl [(h0, .inr (4, [.ref px, .ref p1, .ref p2, .ref p3, .int 0, .int 0])), (px, .inr (0, [.ref pr, .int 0, .int 0])), (pr, .inl (cA, 3000, .inl (fun _ => 0))), (t1, .inr (0, [.ref t2, .int 0, .int 0]))] H := hP
  have hD : va_D A [(h0, .inr (4, [.ref px, .ref p1, .ref p2, .ref p3, .int 0, .int 0])), (px, .inr (0, [.ref pr, .int 0, .int 0])), (pr, .inl (cA, 3000, .inl (fun _ => 0))), (t1, .inr (0, [.ref t2, .int 0, .int 0]))] := hD
  refine lv_iconst (v := 0) hx hb dX4_read_24 (by decide) ?_
  refine lv_istore_n (lv' := [(2, .int 0), (0, .ref h0), (1, .ref t1)]) hx hb dX4_read_25 rfl hl (by decide) rfl (fun ls hl => ?_)
  refine lv_iconst (v := 0) hx hb dX4_read_26 (by decide) ?_
  refine lv_istore_n (lv' := [(3, .int 0), (2, .int 0), (0, .ref h0), (1, .ref t1)]) hx hb dX4_read_27 rfl hl (by decide) rfl (fun ls hl => ?_)
  refine lv_iload_n hx hb dX4_read_28 rfl (lv_at hl 0 rfl) ?_
  refine lv_aload_n hx hb dX4_read_29 rfl (lv_at hl 2 rfl) ?_
  refine va_get (D := (dC, dI)) (ci := 4) (v := .ref px) (C := RX4) (T := TX4) (N := 6) hx hb hts it_4 hown hK hP 0 rfl rfl 0 (by decide) (hts _ kt_47) (fun _ h9 => h9) rfl dX4_read_30 ?_
  refine va_getN (D := (dC, dI)) (ci := 0) (v := .int 0) (C := RX0) (T := TX0) (N := 3) hx hb hts it_0 hown hK hP 1 rfl rfl 1 (by decide) (hE.nest kn_8) (fun _ h9 => h9) rfl dX4_read_33 ?_
  refine lv_icmp_gt (tgt := 124) hx hb dX4_read_36 (by decide) (fun c_2 => absurd c_2 (by decide)) (fun c_2 => ?_)
  refine lv_iload_n hx hb dX4_read_39 rfl (lv_at hl 0 rfl) ?_
  refine lv_aload_n hx hb dX4_read_40 rfl (lv_at hl 2 rfl) ?_
  refine va_get (D := (dC, dI)) (ci := 4) (v := .ref px) (C := RX4) (T := TX4) (N := 6) hx hb hts it_4 hown hK hP 0 rfl rfl 0 (by decide) (hts _ kt_47) (fun _ h9 => h9) rfl dX4_read_41 ?_
  refine va_getN (D := (dC, dI)) (ci := 0) (v := .int 0) (C := RX0) (T := TX0) (N := 3) hx hb hts it_0 hown hK hP 1 rfl rfl 1 (by decide) (hE.nest kn_8) (fun _ h9 => h9) rfl dX4_read_44 ?_
  refine lv_icmp_ne (tgt := 54) hx hb dX4_read_47 (by decide) (fun c_3 => absurd (by decide) c_3) (fun c_3 => ?_)
  refine lv_iconst (v := 1) hx hb dX4_read_50 (by decide) ?_
  refine lv_goto (tgt := 55) hx hb dX4_read_51 (by decide) ?_
  refine lv_istore (lv' := [(4, .int 1), (3, .int 0), (2, .int 0), (0, .ref h0), (1, .ref t1)]) hx hb dX4_read_55 hl (by decide) rfl (fun ls hl => ?_)
  refine lv_iload hx hb dX4_read_57 (lv_at hl 0 rfl) ?_
  refine lv_if_ne (tgt := 75) hx hb dX4_read_59 (by decide) (fun c_4 => ?_) (fun c_4 => absurd c_4 (by decide))
  refine lv_iload hx hb dX4_read_75 (lv_at hl 0 rfl) ?_
  refine lv_if_eq (tgt := 88) hx hb dX4_read_77 (by decide) (fun c_5 => absurd c_5 (by decide)) (fun c_5 => ?_)
  refine lv_iload_n hx hb dX4_read_80 rfl (lv_at hl 2 rfl) ?_
  refine lv_iload_n hx hb dX4_read_81 rfl (lv_at hl 1 rfl) ?_
  refine lv_icmp_ne (tgt := 88) hx hb dX4_read_82 (by decide) (fun c_6 => absurd (by decide) c_6) (fun c_6 => ?_)
  refine lv_goto (tgt := 118) hx hb dX4_read_85 (by decide) ?_
  refine lv_iinc (v := 1) (lv' := [(3, .int 1), (4, .int 1), (2, .int 0), (0, .ref h0), (1, .ref t1)]) hx hb dX4_read_118 hl (k := 1) rfl (by decide) (by decide) rfl (fun ls hl => ?_)
  refine lv_goto (tgt := 28) hx hb dX4_read_121 (by decide) ?_
  refine lv_iload_n hx hb dX4_read_28 rfl (lv_at hl 0 rfl) ?_
  refine lv_aload_n hx hb dX4_read_29 rfl (lv_at hl 3 rfl) ?_
  refine va_get (D := (dC, dI)) (ci := 4) (v := .ref px) (C := RX4) (T := TX4) (N := 6) hx hb hts it_4 hown hK hP 0 rfl rfl 0 (by decide) (hts _ kt_47) (fun _ h9 => h9) rfl dX4_read_30 ?_
  refine va_getN (D := (dC, dI)) (ci := 0) (v := .int 0) (C := RX0) (T := TX0) (N := 3) hx hb hts it_0 hown hK hP 1 rfl rfl 1 (by decide) (hE.nest kn_8) (fun _ h9 => h9) rfl dX4_read_33 ?_
  refine lv_icmp_gt (tgt := 124) hx hb dX4_read_36 (by decide) (fun c_7 => ?_) (fun c_7 => absurd (by decide) c_7)
  refine lv_aload_n hx hb dX4_read_124 rfl (lv_at hl 3 rfl) ?_
  refine va_get (D := (dC, dI)) (ci := 4) (v := .int 0) (C := RX4) (T := TX4) (N := 6) hx hb hts it_4 hown hK hP 0 rfl rfl 4 (by decide) (hts _ kt_51) (fun _ h9 => h9) rfl dX4_read_125 ?_
  refine lv_if_le (tgt := 135) hx hb dX4_read_128 (by decide) (fun c_8 => ?_) (fun c_8 => absurd (by decide) c_8)
  refine lv_iconst (v := 0) hx hb dX4_read_135 (by decide) ?_
  have hP9 := hP.sub (ws' := [(t1, .inr (0, [.ref t2, .int 0, .int 0]))]) [3] rfl
  have hD9 := hD.sub (ws' := [(t1, .inr (0, [.ref t2, .int 0, .int 0]))]) [3] (by decide) rfl
  have hK9 := hK.sub (tys' := []) [] rfl
  refine W.widen (k := 0) (n := 0) (by omega) (by omega) ?_
  exact W.zret (v := 0) (ty := .boolean) hx hb hr (by decide) (fun t ht hW => ⟨⟨0, (), rfl, rfl, QW.mk ht hW hP9 hK9 hD9⟩, hS.F ht⟩) hS.2.2 dX4_read_136
end
section
theorem dX11_cost_0 : decode cX11_cost 0 = .ok (.iload_n 1, 1) := by decide +kernel
theorem dX11_cost_1 : decode cX11_cost 1 = .ok (.lookupswitch 43 #[(0, 27), (1, 35)], 27) := by decide +kernel
theorem dX11_cost_28 : decode cX11_cost 28 = .ok (.aload_n 0, 1) := by decide +kernel
theorem dX11_cost_29 : decode cX11_cost 29 = .ok (.getfield 33, 3) := by decide +kernel
theorem dX11_cost_32 : decode cX11_cost 32 = .ok (.getfield 99, 3) := by decide +kernel
theorem dX11_cost_35 : decode cX11_cost 35 = .ok (.ireturn, 1) := by decide +kernel
theorem dX11_cost_36 : decode cX11_cost 36 = .ok (.aload_n 0, 1) := by decide +kernel
theorem dX11_cost_37 : decode cX11_cost 37 = .ok (.getfield 33, 3) := by decide +kernel
theorem dX11_cost_40 : decode cX11_cost 40 = .ok (.getfield 102, 3) := by decide +kernel
theorem dX11_cost_43 : decode cX11_cost 43 = .ok (.ireturn, 1) := by decide +kernel
theorem dX11_cost_44 : decode cX11_cost 44 = .ok (.iconst (-1), 1) := by decide +kernel
theorem dX11_cost_45 : decode cX11_cost 45 = .ok (.ireturn, 1) := by decide +kernel
theorem dX11_end_0 : decode cX11_end 0 = .ok (.iload_n 1, 1) := by decide +kernel
theorem dX11_end_1 : decode cX11_end 1 = .ok (.ifCond .lt 14, 3) := by decide +kernel
theorem dX11_end_4 : decode cX11_end 4 = .ok (.iload_n 1, 1) := by decide +kernel
theorem dX11_end_5 : decode cX11_end 5 = .ok (.aload_n 0, 1) := by decide +kernel
theorem dX11_end_6 : decode cX11_end 6 = .ok (.getfield 14, 3) := by decide +kernel
theorem dX11_end_9 : decode cX11_end 9 = .ok (.getfield 68, 3) := by decide +kernel
theorem dX11_end_12 : decode cX11_end 12 = .ok (.if_icmp .le 5, 3) := by decide +kernel
theorem dX11_end_15 : decode cX11_end 15 = .ok (.iconst (-1), 1) := by decide +kernel
theorem dX11_end_16 : decode cX11_end 16 = .ok (.ireturn, 1) := by decide +kernel
theorem dX11_end_17 : decode cX11_end 17 = .ok (.aload_n 0, 1) := by decide +kernel
theorem dX11_end_18 : decode cX11_end 18 = .ok (.getfield 14, 3) := by decide +kernel
theorem dX11_end_21 : decode cX11_end 21 = .ok (.iload_n 1, 1) := by decide +kernel
theorem dX11_end_22 : decode cX11_end 22 = .ok (.invokevirtual 75, 3) := by decide +kernel
theorem dX11_end_25 : decode cX11_end 25 = .ok (.iload_n 1, 1) := by decide +kernel
theorem dX11_end_26 : decode cX11_end 26 = .ok (.ireturn, 1) := by decide +kernel
theorem dX11_entry_0 : decode cX11_entry 0 = .ok (.aload_n 0, 1) := by decide +kernel
theorem dX11_entry_1 : decode cX11_entry 1 = .ok (.getfield 24, 3) := by decide +kernel
theorem dX11_entry_4 : decode cX11_entry 4 = .ok (.iload_n 1, 1) := by decide +kernel
theorem dX11_entry_5 : decode cX11_entry 5 = .ok (.iload_n 2, 1) := by decide +kernel
theorem dX11_entry_6 : decode cX11_entry 6 = .ok (.aload_n 0, 1) := by decide +kernel
theorem dX11_entry_7 : decode cX11_entry 7 = .ok (.getfield 14, 3) := by decide +kernel
theorem dX11_entry_10 : decode cX11_entry 10 = .ok (.invokevirtual 78, 3) := by decide +kernel
theorem dX11_entry_13 : decode cX11_entry 13 = .ok (.istore_n 3, 1) := by decide +kernel
theorem dX11_entry_14 : decode cX11_entry 14 = .ok (.aload_n 0, 1) := by decide +kernel
theorem dX11_entry_15 : decode cX11_entry 15 = .ok (.getfield 14, 3) := by decide +kernel
theorem dX11_entry_18 : decode cX11_entry 18 = .ok (.invokevirtual 82, 3) := by decide +kernel
theorem dX11_entry_21 : decode cX11_entry 21 = .ok (.iload_n 3, 1) := by decide +kernel
theorem dX11_entry_22 : decode cX11_entry 22 = .ok (.ireturn, 1) := by decide +kernel
theorem dX11_feed_0 : decode cX11_feed 0 = .ok (.aload_n 0, 1) := by decide +kernel
theorem dX11_feed_1 : decode cX11_feed 1 = .ok (.getfield 14, 3) := by decide +kernel
theorem dX11_feed_4 : decode cX11_feed 4 = .ok (.getfield 68, 3) := by decide +kernel
theorem dX11_feed_7 : decode cX11_feed 7 = .ok (.bipush 20, 2) := by decide +kernel
theorem dX11_feed_9 : decode cX11_feed 9 = .ok (.iadd, 1) := by decide +kernel
theorem dX11_feed_10 : decode cX11_feed 10 = .ok (.sipush 3000, 3) := by decide +kernel
theorem dX11_feed_13 : decode cX11_feed 13 = .ok (.if_icmp .le 6, 3) := by decide +kernel
theorem dX11_feed_16 : decode cX11_feed 16 = .ok (.bipush (-3), 2) := by decide +kernel
theorem dX11_feed_18 : decode cX11_feed 18 = .ok (.ireturn, 1) := by decide +kernel
theorem dX11_feed_19 : decode cX11_feed 19 = .ok (.aload_n 0, 1) := by decide +kernel
theorem dX11_feed_20 : decode cX11_feed 20 = .ok (.getfield 14, 3) := by decide +kernel
theorem dX11_feed_23 : decode cX11_feed 23 = .ok (.iload_n 1, 1) := by decide +kernel
theorem dX11_feed_24 : decode cX11_feed 24 = .ok (.invokevirtual 72, 3) := by decide +kernel
theorem dX11_feed_27 : decode cX11_feed 27 = .ok (.aload_n 0, 1) := by decide +kernel
theorem dX11_feed_28 : decode cX11_feed 28 = .ok (.getfield 14, 3) := by decide +kernel
theorem dX11_feed_31 : decode cX11_feed 31 = .ok (.iload_n 2, 1) := by decide +kernel
theorem dX11_feed_32 : decode cX11_feed 32 = .ok (.invokevirtual 72, 3) := by decide +kernel
theorem dX11_feed_35 : decode cX11_feed 35 = .ok (.aload_n 0, 1) := by decide +kernel
theorem dX11_feed_36 : decode cX11_feed 36 = .ok (.getfield 14, 3) := by decide +kernel
theorem dX11_feed_39 : decode cX11_feed 39 = .ok (.iload_n 3, 1) := by decide +kernel
theorem dX11_feed_40 : decode cX11_feed 40 = .ok (.invokevirtual 72, 3) := by decide +kernel
theorem dX11_feed_43 : decode cX11_feed 43 = .ok (.aload_n 0, 1) := by decide +kernel
theorem dX11_feed_44 : decode cX11_feed 44 = .ok (.getfield 14, 3) := by decide +kernel
theorem dX11_feed_47 : decode cX11_feed 47 = .ok (.iload 4, 2) := by decide +kernel
theorem dX11_feed_49 : decode cX11_feed 49 = .ok (.invokevirtual 72, 3) := by decide +kernel
theorem dX11_feed_52 : decode cX11_feed 52 = .ok (.aload_n 0, 1) := by decide +kernel
theorem dX11_feed_53 : decode cX11_feed 53 = .ok (.getfield 14, 3) := by decide +kernel
theorem dX11_feed_56 : decode cX11_feed 56 = .ok (.iload 5, 2) := by decide +kernel
theorem dX11_feed_58 : decode cX11_feed 58 = .ok (.invokevirtual 72, 3) := by decide +kernel
theorem dX11_feed_61 : decode cX11_feed 61 = .ok (.aload_n 0, 1) := by decide +kernel
theorem dX11_feed_62 : decode cX11_feed 62 = .ok (.getfield 14, 3) := by decide +kernel
theorem dX11_feed_65 : decode cX11_feed 65 = .ok (.getfield 68, 3) := by decide +kernel
theorem dX11_feed_68 : decode cX11_feed 68 = .ok (.ireturn, 1) := by decide +kernel
theorem dX11_forget_0 : decode cX11_forget 0 = .ok (.aload_n 0, 1) := by decide +kernel
theorem dX11_forget_1 : decode cX11_forget 1 = .ok (.getfield 24, 3) := by decide +kernel
theorem dX11_forget_4 : decode cX11_forget 4 = .ok (.invokevirtual 85, 3) := by decide +kernel
theorem dX11_forget_7 : decode cX11_forget 7 = .ok (.ireturn, 1) := by decide +kernel
theorem dX11_house_0 : decode cX11_house 0 = .ok (.aload_n 0, 1) := by decide +kernel
theorem dX11_house_1 : decode cX11_house 1 = .ok (.getfield 14, 3) := by decide +kernel
theorem dX11_house_4 : decode cX11_house 4 = .ok (.iconst 0, 1) := by decide +kernel
theorem dX11_house_5 : decode cX11_house 5 = .ok (.aload_n 0, 1) := by decide +kernel
theorem dX11_house_6 : decode cX11_house 6 = .ok (.getfield 14, 3) := by decide +kernel
theorem dX11_house_9 : decode cX11_house 9 = .ok (.getfield 68, 3) := by decide +kernel
theorem dX11_house_12 : decode cX11_house 12 = .ok (.invokevirtual 133, 3) := by decide +kernel
theorem dX11_house_15 : decode cX11_house 15 = .ok (.ifCond .ne 12, 3) := by decide +kernel
theorem dX11_house_18 : decode cX11_house 18 = .ok (.aload_n 0, 1) := by decide +kernel
theorem dX11_house_19 : decode cX11_house 19 = .ok (.getfield 14, 3) := by decide +kernel
theorem dX11_house_22 : decode cX11_house 22 = .ok (.invokevirtual 82, 3) := by decide +kernel
theorem dX11_house_25 : decode cX11_house 25 = .ok (.iconst (-1), 1) := by decide +kernel
theorem dX11_house_26 : decode cX11_house 26 = .ok (.ireturn, 1) := by decide +kernel
theorem dX11_house_27 : decode cX11_house 27 = .ok (.aload_n 0, 1) := by decide +kernel
theorem dX11_house_28 : decode cX11_house 28 = .ok (.getfield 18, 3) := by decide +kernel
theorem dX11_house_31 : decode cX11_house 31 = .ok (.invokevirtual 82, 3) := by decide +kernel
theorem dX11_house_34 : decode cX11_house 34 = .ok (.aload_n 0, 1) := by decide +kernel
theorem dX11_house_35 : decode cX11_house 35 = .ok (.getfield 18, 3) := by decide +kernel
theorem dX11_house_38 : decode cX11_house 38 = .ok (.aload_n 0, 1) := by decide +kernel
theorem dX11_house_39 : decode cX11_house 39 = .ok (.getfield 14, 3) := by decide +kernel
theorem dX11_house_42 : decode cX11_house 42 = .ok (.aload_n 0, 1) := by decide +kernel
theorem dX11_house_43 : decode cX11_house 43 = .ok (.getfield 24, 3) := by decide +kernel
theorem dX11_house_46 : decode cX11_house 46 = .ok (.aload_n 0, 1) := by decide +kernel
theorem dX11_house_47 : decode cX11_house 47 = .ok (.getfield 14, 3) := by decide +kernel
theorem dX11_house_50 : decode cX11_house 50 = .ok (.invokevirtual 137, 3) := by decide +kernel
theorem dX11_house_53 : decode cX11_house 53 = .ok (.aload_n 0, 1) := by decide +kernel
theorem dX11_house_54 : decode cX11_house 54 = .ok (.getfield 14, 3) := by decide +kernel
theorem dX11_house_57 : decode cX11_house 57 = .ok (.getfield 68, 3) := by decide +kernel
theorem dX11_house_60 : decode cX11_house 60 = .ok (.invokevirtual 141, 3) := by decide +kernel
theorem dX11_house_63 : decode cX11_house 63 = .ok (.aload_n 0, 1) := by decide +kernel
theorem dX11_house_64 : decode cX11_house 64 = .ok (.getfield 14, 3) := by decide +kernel
theorem dX11_house_67 : decode cX11_house 67 = .ok (.invokevirtual 82, 3) := by decide +kernel
theorem dX11_house_70 : decode cX11_house 70 = .ok (.aload_n 0, 1) := by decide +kernel
theorem dX11_house_71 : decode cX11_house 71 = .ok (.getfield 18, 3) := by decide +kernel
theorem dX11_house_74 : decode cX11_house 74 = .ok (.getfield 68, 3) := by decide +kernel
theorem dX11_house_77 : decode cX11_house 77 = .ok (.ireturn, 1) := by decide +kernel
theorem dX11_message_0 : decode cX11_message 0 = .ok (.aload_n 0, 1) := by decide +kernel
theorem dX11_message_1 : decode cX11_message 1 = .ok (.getfield 65, 3) := by decide +kernel
theorem dX11_message_4 : decode cX11_message 4 = .ok (.aload_n 0, 1) := by decide +kernel
theorem dX11_message_5 : decode cX11_message 5 = .ok (.getfield 14, 3) := by decide +kernel
theorem dX11_message_8 : decode cX11_message 8 = .ok (.invokevirtual 105, 3) := by decide +kernel
theorem dX11_message_11 : decode cX11_message 11 = .ok (.istore_n 1, 1) := by decide +kernel
theorem dX11_message_12 : decode cX11_message 12 = .ok (.aload_n 0, 1) := by decide +kernel
theorem dX11_message_13 : decode cX11_message 13 = .ok (.getfield 14, 3) := by decide +kernel
theorem dX11_message_16 : decode cX11_message 16 = .ok (.invokevirtual 82, 3) := by decide +kernel
theorem dX11_message_19 : decode cX11_message 19 = .ok (.iload_n 1, 1) := by decide +kernel
theorem dX11_message_20 : decode cX11_message 20 = .ok (.ifCond .ne 5, 3) := by decide +kernel
theorem dX11_message_23 : decode cX11_message 23 = .ok (.iconst (-1), 1) := by decide +kernel
theorem dX11_message_24 : decode cX11_message 24 = .ok (.ireturn, 1) := by decide +kernel
theorem dX11_message_25 : decode cX11_message 25 = .ok (.aload_n 0, 1) := by decide +kernel
theorem dX11_message_26 : decode cX11_message 26 = .ok (.getfield 61, 3) := by decide +kernel
theorem dX11_message_29 : decode cX11_message 29 = .ok (.astore_n 2, 1) := by decide +kernel
theorem dX11_message_30 : decode cX11_message 30 = .ok (.aload_n 0, 1) := by decide +kernel
theorem dX11_message_31 : decode cX11_message 31 = .ok (.aload_n 0, 1) := by decide +kernel
theorem dX11_message_32 : decode cX11_message 32 = .ok (.getfield 65, 3) := by decide +kernel
theorem dX11_message_35 : decode cX11_message 35 = .ok (.putfield 61, 3) := by decide +kernel
theorem dX11_message_38 : decode cX11_message 38 = .ok (.aload_n 0, 1) := by decide +kernel
theorem dX11_message_39 : decode cX11_message 39 = .ok (.aload_n 2, 1) := by decide +kernel
theorem dX11_message_40 : decode cX11_message 40 = .ok (.putfield 65, 3) := by decide +kernel
theorem dX11_message_43 : decode cX11_message 43 = .ok (.aload_n 0, 1) := by decide +kernel
theorem dX11_message_44 : decode cX11_message 44 = .ok (.getfield 61, 3) := by decide +kernel
theorem dX11_message_47 : decode cX11_message 47 = .ok (.getfield 109, 3) := by decide +kernel
theorem dX11_message_50 : decode cX11_message 50 = .ok (.ireturn, 1) := by decide +kernel
theorem dX11_octet_0 : decode cX11_octet 0 = .ok (.iload_n 1, 1) := by decide +kernel
theorem dX11_octet_1 : decode cX11_octet 1 = .ok (.iconst (-1), 1) := by decide +kernel
theorem dX11_octet_2 : decode cX11_octet 2 = .ok (.if_icmp .ne 11, 3) := by decide +kernel
theorem dX11_octet_5 : decode cX11_octet 5 = .ok (.aload_n 0, 1) := by decide +kernel
theorem dX11_octet_6 : decode cX11_octet 6 = .ok (.getfield 18, 3) := by decide +kernel
theorem dX11_octet_9 : decode cX11_octet 9 = .ok (.getfield 68, 3) := by decide +kernel
theorem dX11_octet_12 : decode cX11_octet 12 = .ok (.ireturn, 1) := by decide +kernel
theorem dX11_octet_13 : decode cX11_octet 13 = .ok (.iload_n 1, 1) := by decide +kernel
theorem dX11_octet_14 : decode cX11_octet 14 = .ok (.ifCond .lt 14, 3) := by decide +kernel
theorem dX11_octet_17 : decode cX11_octet 17 = .ok (.iload_n 1, 1) := by decide +kernel
theorem dX11_octet_18 : decode cX11_octet 18 = .ok (.aload_n 0, 1) := by decide +kernel
theorem dX11_octet_19 : decode cX11_octet 19 = .ok (.getfield 18, 3) := by decide +kernel
theorem dX11_octet_22 : decode cX11_octet 22 = .ok (.getfield 68, 3) := by decide +kernel
theorem dX11_octet_25 : decode cX11_octet 25 = .ok (.if_icmp .lt 8, 3) := by decide +kernel
theorem dX11_octet_28 : decode cX11_octet 28 = .ok (.bipush (-2), 2) := by decide +kernel
theorem dX11_octet_30 : decode cX11_octet 30 = .ok (.goto 11, 3) := by decide +kernel
theorem dX11_octet_33 : decode cX11_octet 33 = .ok (.aload_n 0, 1) := by decide +kernel
theorem dX11_octet_34 : decode cX11_octet 34 = .ok (.getfield 18, 3) := by decide +kernel
theorem dX11_octet_37 : decode cX11_octet 37 = .ok (.iload_n 1, 1) := by decide +kernel
theorem dX11_octet_38 : decode cX11_octet 38 = .ok (.invokevirtual 177, 3) := by decide +kernel
theorem dX11_octet_41 : decode cX11_octet 41 = .ok (.ireturn, 1) := by decide +kernel
theorem dX11_permission_0 : decode cX11_permission 0 = .ok (.aload_n 0, 1) := by decide +kernel
theorem dX11_permission_1 : decode cX11_permission 1 = .ok (.getfield 33, 3) := by decide +kernel
theorem dX11_permission_4 : decode cX11_permission 4 = .ok (.getfield 92, 3) := by decide +kernel
theorem dX11_permission_7 : decode cX11_permission 7 = .ok (.ifCond .eq 13, 3) := by decide +kernel
theorem dX11_permission_10 : decode cX11_permission 10 = .ok (.aload_n 0, 1) := by decide +kernel
theorem dX11_permission_11 : decode cX11_permission 11 = .ok (.getfield 33, 3) := by decide +kernel
theorem dX11_permission_14 : decode cX11_permission 14 = .ok (.invokevirtual 96, 3) := by decide +kernel
theorem dX11_permission_17 : decode cX11_permission 17 = .ok (.goto 4, 3) := by decide +kernel
theorem dX11_permission_20 : decode cX11_permission 20 = .ok (.iconst (-1), 1) := by decide +kernel
theorem dX11_permission_21 : decode cX11_permission 21 = .ok (.ireturn, 1) := by decide +kernel
theorem dX11_plainBody_0 : decode cX11_plainBody 0 = .ok (.aload_n 0, 1) := by decide +kernel
theorem dX11_plainBody_1 : decode cX11_plainBody 1 = .ok (.getfield 61, 3) := by decide +kernel
theorem dX11_plainBody_4 : decode cX11_plainBody 4 = .ok (.getfield 109, 3) := by decide +kernel
theorem dX11_plainBody_7 : decode cX11_plainBody 7 = .ok (.ifCond .ne 6, 3) := by decide +kernel
theorem dX11_plainBody_10 : decode cX11_plainBody 10 = .ok (.bipush (-2), 2) := by decide +kernel
theorem dX11_plainBody_12 : decode cX11_plainBody 12 = .ok (.ireturn, 1) := by decide +kernel
theorem dX11_plainBody_13 : decode cX11_plainBody 13 = .ok (.aload_n 0, 1) := by decide +kernel
theorem dX11_plainBody_14 : decode cX11_plainBody 14 = .ok (.getfield 18, 3) := by decide +kernel
theorem dX11_plainBody_17 : decode cX11_plainBody 17 = .ok (.invokevirtual 82, 3) := by decide +kernel
theorem dX11_plainBody_20 : decode cX11_plainBody 20 = .ok (.aload_n 0, 1) := by decide +kernel
theorem dX11_plainBody_21 : decode cX11_plainBody 21 = .ok (.getfield 61, 3) := by decide +kernel
theorem dX11_plainBody_24 : decode cX11_plainBody 24 = .ok (.aload_n 0, 1) := by decide +kernel
theorem dX11_plainBody_25 : decode cX11_plainBody 25 = .ok (.getfield 18, 3) := by decide +kernel
theorem dX11_plainBody_28 : decode cX11_plainBody 28 = .ok (.iload_n 1, 1) := by decide +kernel
theorem dX11_plainBody_29 : decode cX11_plainBody 29 = .ok (.invokevirtual 125, 3) := by decide +kernel
theorem dX11_plainBody_32 : decode cX11_plainBody 32 = .ok (.aload_n 0, 1) := by decide +kernel
theorem dX11_plainBody_33 : decode cX11_plainBody 33 = .ok (.getfield 18, 3) := by decide +kernel
theorem dX11_plainBody_36 : decode cX11_plainBody 36 = .ok (.getfield 68, 3) := by decide +kernel
theorem dX11_plainBody_39 : decode cX11_plainBody 39 = .ok (.ireturn, 1) := by decide +kernel
theorem dX11_plainField_0 : decode cX11_plainField 0 = .ok (.iload_n 1, 1) := by decide +kernel
theorem dX11_plainField_1 : decode cX11_plainField 1 = .ok (.ifCond .lt 14, 3) := by decide +kernel
theorem dX11_plainField_4 : decode cX11_plainField 4 = .ok (.iload_n 1, 1) := by decide +kernel
theorem dX11_plainField_5 : decode cX11_plainField 5 = .ok (.aload_n 0, 1) := by decide +kernel
theorem dX11_plainField_6 : decode cX11_plainField 6 = .ok (.getfield 61, 3) := by decide +kernel
theorem dX11_plainField_9 : decode cX11_plainField 9 = .ok (.getfield 109, 3) := by decide +kernel
theorem dX11_plainField_12 : decode cX11_plainField 12 = .ok (.if_icmp .lt 6, 3) := by decide +kernel
theorem dX11_plainField_15 : decode cX11_plainField 15 = .ok (.bipush (-2), 2) := by decide +kernel
theorem dX11_plainField_17 : decode cX11_plainField 17 = .ok (.ireturn, 1) := by decide +kernel
theorem dX11_plainField_18 : decode cX11_plainField 18 = .ok (.aload_n 0, 1) := by decide +kernel
theorem dX11_plainField_19 : decode cX11_plainField 19 = .ok (.getfield 18, 3) := by decide +kernel
theorem dX11_plainField_22 : decode cX11_plainField 22 = .ok (.invokevirtual 82, 3) := by decide +kernel
theorem dX11_plainField_25 : decode cX11_plainField 25 = .ok (.aload_n 0, 1) := by decide +kernel
theorem dX11_plainField_26 : decode cX11_plainField 26 = .ok (.getfield 61, 3) := by decide +kernel
theorem dX11_plainField_29 : decode cX11_plainField 29 = .ok (.aload_n 0, 1) := by decide +kernel
theorem dX11_plainField_30 : decode cX11_plainField 30 = .ok (.getfield 18, 3) := by decide +kernel
theorem dX11_plainField_33 : decode cX11_plainField 33 = .ok (.iload_n 1, 1) := by decide +kernel
theorem dX11_plainField_34 : decode cX11_plainField 34 = .ok (.iload_n 2, 1) := by decide +kernel
theorem dX11_plainField_35 : decode cX11_plainField 35 = .ok (.iconst 0, 1) := by decide +kernel
theorem dX11_plainField_36 : decode cX11_plainField 36 = .ok (.iconst 0, 1) := by decide +kernel
theorem dX11_plainField_37 : decode cX11_plainField 37 = .ok (.invokevirtual 129, 3) := by decide +kernel
theorem dX11_plainField_40 : decode cX11_plainField 40 = .ok (.aload_n 0, 1) := by decide +kernel
theorem dX11_plainField_41 : decode cX11_plainField 41 = .ok (.getfield 18, 3) := by decide +kernel
theorem dX11_plainField_44 : decode cX11_plainField 44 = .ok (.getfield 68, 3) := by decide +kernel
theorem dX11_plainField_47 : decode cX11_plainField 47 = .ok (.ireturn, 1) := by decide +kernel
theorem dX11_sealed_0 : decode cX11_sealed 0 = .ok (.iload_n 2, 1) := by decide +kernel
theorem dX11_sealed_1 : decode cX11_sealed 1 = .ok (.ifCond .ge 5, 3) := by decide +kernel
theorem dX11_sealed_4 : decode cX11_sealed 4 = .ok (.iconst (-1), 1) := by decide +kernel
theorem dX11_sealed_5 : decode cX11_sealed 5 = .ok (.ireturn, 1) := by decide +kernel
theorem dX11_sealed_6 : decode cX11_sealed 6 = .ok (.aload_n 0, 1) := by decide +kernel
theorem dX11_sealed_7 : decode cX11_sealed 7 = .ok (.getfield 61, 3) := by decide +kernel
theorem dX11_sealed_10 : decode cX11_sealed 10 = .ok (.ldc 112, 2) := by decide +kernel
theorem dX11_sealed_12 : decode cX11_sealed 12 = .ok (.iload_n 1, 1) := by decide +kernel
theorem dX11_sealed_13 : decode cX11_sealed 13 = .ok (.invokevirtual 118, 3) := by decide +kernel
theorem dX11_sealed_16 : decode cX11_sealed 16 = .ok (.istore_n 3, 1) := by decide +kernel
theorem dX11_sealed_17 : decode cX11_sealed 17 = .ok (.iload_n 3, 1) := by decide +kernel
theorem dX11_sealed_18 : decode cX11_sealed 18 = .ok (.ifCond .ge 8, 3) := by decide +kernel
theorem dX11_sealed_21 : decode cX11_sealed 21 = .ok (.bipush (-2), 2) := by decide +kernel
theorem dX11_sealed_23 : decode cX11_sealed 23 = .ok (.goto 16, 3) := by decide +kernel
theorem dX11_sealed_26 : decode cX11_sealed 26 = .ok (.aload_n 0, 1) := by decide +kernel
theorem dX11_sealed_27 : decode cX11_sealed 27 = .ok (.getfield 40, 3) := by decide +kernel
theorem dX11_sealed_30 : decode cX11_sealed 30 = .ok (.aload_n 0, 1) := by decide +kernel
theorem dX11_sealed_31 : decode cX11_sealed 31 = .ok (.getfield 61, 3) := by decide +kernel
theorem dX11_sealed_34 : decode cX11_sealed 34 = .ok (.iload_n 3, 1) := by decide +kernel
theorem dX11_sealed_35 : decode cX11_sealed 35 = .ok (.iload_n 2, 1) := by decide +kernel
theorem dX11_sealed_36 : decode cX11_sealed 36 = .ok (.invokevirtual 122, 3) := by decide +kernel
theorem dX11_sealed_39 : decode cX11_sealed 39 = .ok (.ireturn, 1) := by decide +kernel
theorem dX11_seals_0 : decode cX11_seals 0 = .ok (.aload_n 0, 1) := by decide +kernel
theorem dX11_seals_1 : decode cX11_seals 1 = .ok (.getfield 61, 3) := by decide +kernel
theorem dX11_seals_4 : decode cX11_seals 4 = .ok (.ldc 112, 2) := by decide +kernel
theorem dX11_seals_6 : decode cX11_seals 6 = .ok (.invokevirtual 114, 3) := by decide +kernel
theorem dX11_seals_9 : decode cX11_seals 9 = .ok (.ireturn, 1) := by decide +kernel
theorem dX11_sender_0 : decode cX11_sender 0 = .ok (.aload_n 0, 1) := by decide +kernel
theorem dX11_sender_1 : decode cX11_sender 1 = .ok (.getfield 33, 3) := by decide +kernel
theorem dX11_sender_4 : decode cX11_sender 4 = .ok (.iload_n 1, 1) := by decide +kernel
theorem dX11_sender_5 : decode cX11_sender 5 = .ok (.aload_n 0, 1) := by decide +kernel
theorem dX11_sender_6 : decode cX11_sender 6 = .ok (.getfield 14, 3) := by decide +kernel
theorem dX11_sender_9 : decode cX11_sender 9 = .ok (.invokevirtual 88, 3) := by decide +kernel
theorem dX11_sender_12 : decode cX11_sender 12 = .ok (.istore_n 2, 1) := by decide +kernel
theorem dX11_sender_13 : decode cX11_sender 13 = .ok (.aload_n 0, 1) := by decide +kernel
theorem dX11_sender_14 : decode cX11_sender 14 = .ok (.getfield 14, 3) := by decide +kernel
theorem dX11_sender_17 : decode cX11_sender 17 = .ok (.invokevirtual 82, 3) := by decide +kernel
theorem dX11_sender_20 : decode cX11_sender 20 = .ok (.iload_n 2, 1) := by decide +kernel
theorem dX11_sender_21 : decode cX11_sender 21 = .ok (.ifCond .eq 7, 3) := by decide +kernel
theorem dX11_sender_24 : decode cX11_sender 24 = .ok (.iconst 0, 1) := by decide +kernel
theorem dX11_sender_25 : decode cX11_sender 25 = .ok (.goto 4, 3) := by decide +kernel
theorem dX11_sender_28 : decode cX11_sender 28 = .ok (.iconst (-1), 1) := by decide +kernel
theorem dX11_sender_29 : decode cX11_sender 29 = .ok (.ireturn, 1) := by decide +kernel
theorem dX11_wish_0 : decode cX11_wish 0 = .ok (.aload_n 0, 1) := by decide +kernel
theorem dX11_wish_1 : decode cX11_wish 1 = .ok (.getfield 33, 3) := by decide +kernel
theorem dX11_wish_4 : decode cX11_wish 4 = .ok (.getfield 92, 3) := by decide +kernel
theorem dX11_wish_7 : decode cX11_wish 7 = .ok (.ifCond .eq 7, 3) := by decide +kernel
theorem dX11_wish_10 : decode cX11_wish 10 = .ok (.iload_n 1, 1) := by decide +kernel
theorem dX11_wish_11 : decode cX11_wish 11 = .ok (.ifCond .ge 5, 3) := by decide +kernel
theorem dX11_wish_14 : decode cX11_wish 14 = .ok (.iconst (-1), 1) := by decide +kernel
theorem dX11_wish_15 : decode cX11_wish 15 = .ok (.ireturn, 1) := by decide +kernel
theorem dX11_wish_16 : decode cX11_wish 16 = .ok (.aload_n 0, 1) := by decide +kernel
theorem dX11_wish_17 : decode cX11_wish 17 = .ok (.getfield 61, 3) := by decide +kernel
theorem dX11_wish_20 : decode cX11_wish 20 = .ok (.getfield 109, 3) := by decide +kernel
theorem dX11_wish_23 : decode cX11_wish 23 = .ok (.ifCond .ne 6, 3) := by decide +kernel
theorem dX11_wish_26 : decode cX11_wish 26 = .ok (.bipush (-2), 2) := by decide +kernel
theorem dX11_wish_28 : decode cX11_wish 28 = .ok (.ireturn, 1) := by decide +kernel
theorem dX11_wish_29 : decode cX11_wish 29 = .ok (.aload_n 0, 1) := by decide +kernel
theorem dX11_wish_30 : decode cX11_wish 30 = .ok (.getfield 47, 3) := by decide +kernel
theorem dX11_wish_33 : decode cX11_wish 33 = .ok (.aload_n 0, 1) := by decide +kernel
theorem dX11_wish_34 : decode cX11_wish 34 = .ok (.getfield 61, 3) := by decide +kernel
theorem dX11_wish_37 : decode cX11_wish 37 = .ok (.invokevirtual 145, 3) := by decide +kernel
theorem dX11_wish_40 : decode cX11_wish 40 = .ok (.istore_n 2, 1) := by decide +kernel
theorem dX11_wish_41 : decode cX11_wish 41 = .ok (.iload_n 2, 1) := by decide +kernel
theorem dX11_wish_42 : decode cX11_wish 42 = .ok (.iconst (-1), 1) := by decide +kernel
theorem dX11_wish_43 : decode cX11_wish 43 = .ok (.if_icmp .eq 5, 3) := by decide +kernel
theorem dX11_wish_46 : decode cX11_wish 46 = .ok (.iload_n 2, 1) := by decide +kernel
theorem dX11_wish_47 : decode cX11_wish 47 = .ok (.ireturn, 1) := by decide +kernel
theorem dX11_wish_48 : decode cX11_wish 48 = .ok (.aload_n 0, 1) := by decide +kernel
theorem dX11_wish_49 : decode cX11_wish 49 = .ok (.getfield 33, 3) := by decide +kernel
theorem dX11_wish_52 : decode cX11_wish 52 = .ok (.invokevirtual 96, 3) := by decide +kernel
theorem dX11_wish_55 : decode cX11_wish 55 = .ok (.iconst 2, 1) := by decide +kernel
theorem dX11_wish_56 : decode cX11_wish 56 = .ok (.if_icmp .ne 31, 3) := by decide +kernel
theorem dX11_wish_59 : decode cX11_wish 59 = .ok (.aload_n 0, 1) := by decide +kernel
theorem dX11_wish_60 : decode cX11_wish 60 = .ok (.getfield 47, 3) := by decide +kernel
theorem dX11_wish_63 : decode cX11_wish 63 = .ok (.aload_n 0, 1) := by decide +kernel
theorem dX11_wish_64 : decode cX11_wish 64 = .ok (.getfield 33, 3) := by decide +kernel
theorem dX11_wish_67 : decode cX11_wish 67 = .ok (.getfield 148, 3) := by decide +kernel
theorem dX11_wish_70 : decode cX11_wish 70 = .ok (.aload_n 0, 1) := by decide +kernel
theorem dX11_wish_71 : decode cX11_wish 71 = .ok (.getfield 47, 3) := by decide +kernel
theorem dX11_wish_74 : decode cX11_wish 74 = .ok (.getfield 151, 3) := by decide +kernel
theorem dX11_wish_77 : decode cX11_wish 77 = .ok (.invokevirtual 154, 3) := by decide +kernel
theorem dX11_wish_80 : decode cX11_wish 80 = .ok (.ifCond .eq 7, 3) := by decide +kernel
theorem dX11_wish_83 : decode cX11_wish 83 = .ok (.iconst 1, 1) := by decide +kernel
theorem dX11_wish_84 : decode cX11_wish 84 = .ok (.goto 4, 3) := by decide +kernel
theorem dX11_wish_87 : decode cX11_wish 87 = .ok (.iconst 0, 1) := by decide +kernel
theorem dX11_wish_88 : decode cX11_wish 88 = .ok (.istore_n 3, 1) := by decide +kernel
theorem dX11_wish_89 : decode cX11_wish 89 = .ok (.iload_n 3, 1) := by decide +kernel
theorem dX11_wish_90 : decode cX11_wish 90 = .ok (.ifCond .ne 11, 3) := by decide +kernel
theorem dX11_wish_93 : decode cX11_wish 93 = .ok (.aload_n 0, 1) := by decide +kernel
theorem dX11_wish_94 : decode cX11_wish 94 = .ok (.iload_n 1, 1) := by decide +kernel
theorem dX11_wish_95 : decode cX11_wish 95 = .ok (.invokevirtual 158, 3) := by decide +kernel
theorem dX11_wish_98 : decode cX11_wish 98 = .ok (.ifCond .eq 7, 3) := by decide +kernel
theorem dX11_wish_101 : decode cX11_wish 101 = .ok (.iconst 2, 1) := by decide +kernel
theorem dX11_wish_102 : decode cX11_wish 102 = .ok (.goto 10, 3) := by decide +kernel
theorem dX11_wish_105 : decode cX11_wish 105 = .ok (.aload_n 0, 1) := by decide +kernel
theorem dX11_wish_106 : decode cX11_wish 106 = .ok (.getfield 47, 3) := by decide +kernel
theorem dX11_wish_109 : decode cX11_wish 109 = .ok (.getfield 162, 3) := by decide +kernel
theorem dX11_wish_112 : decode cX11_wish 112 = .ok (.ireturn, 1) := by decide +kernel
theorem kt_206 : Cond.code yX0_addFour cX0_addFour 3 none ∈ tb := tb_at (i := 492) (by decide +kernel) (by decide +kernel)
theorem kt_207 : Cond.methodLink RX11 72 yX0_addFour ∈ tb := tb_at (i := 489) (by decide +kernel) (by decide +kernel)
theorem kt_208 : Cond.instanceMethod yX0_addFour ∈ tb := tb_at (i := 490) (by decide +kernel) (by decide +kernel)
theorem kt_209 : Cond.selects RX0 yX0_addFour yX0_addFour ∈ tb := tb_at (i := 491) (by decide +kernel) (by decide +kernel)
theorem kt_210 : Cond.code yX0_cut cX0_cut 2 none ∈ tb := tb_at (i := 504) (by decide +kernel) (by decide +kernel)
theorem kt_211 : Cond.methodLink RX11 75 yX0_cut ∈ tb := tb_at (i := 501) (by decide +kernel) (by decide +kernel)
theorem kt_212 : Cond.instanceMethod yX0_cut ∈ tb := tb_at (i := 502) (by decide +kernel) (by decide +kernel)
theorem kt_213 : Cond.selects RX0 yX0_cut yX0_cut ∈ tb := tb_at (i := 503) (by decide +kernel) (by decide +kernel)
theorem kt_214 : Cond.code yX2_take cX2_take 7 (some .int) ∈ tb := tb_at (i := 512) (by decide +kernel) (by decide +kernel)
theorem kt_215 : Cond.methodLink RX11 78 yX2_take ∈ tb := tb_at (i := 509) (by decide +kernel) (by decide +kernel)
theorem kt_216 : Cond.instanceMethod yX2_take ∈ tb := tb_at (i := 510) (by decide +kernel) (by decide +kernel)
theorem kt_217 : Cond.selects RX2 yX2_take yX2_take ∈ tb := tb_at (i := 511) (by decide +kernel) (by decide +kernel)
theorem kt_218 : Cond.methodLink RX11 82 yX0_clear ∈ tb := tb_at (i := 551) (by decide +kernel) (by decide +kernel)
theorem kt_219 : Cond.code yX2_clear cX2_clear 2 (some .int) ∈ tb := tb_at (i := 559) (by decide +kernel) (by decide +kernel)
theorem kt_220 : Cond.methodLink RX11 85 yX2_clear ∈ tb := tb_at (i := 556) (by decide +kernel) (by decide +kernel)
theorem kt_221 : Cond.instanceMethod yX2_clear ∈ tb := tb_at (i := 557) (by decide +kernel) (by decide +kernel)
theorem kt_222 : Cond.selects RX2 yX2_clear yX2_clear ∈ tb := tb_at (i := 558) (by decide +kernel) (by decide +kernel)
theorem kt_223 : Cond.code yX1_takeSender cX1_takeSender 4 (some .boolean) ∈ tb := tb_at (i := 567) (by decide +kernel) (by decide +kernel)
theorem kt_224 : Cond.methodLink RX11 88 yX1_takeSender ∈ tb := tb_at (i := 564) (by decide +kernel) (by decide +kernel)
theorem kt_225 : Cond.instanceMethod yX1_takeSender ∈ tb := tb_at (i := 565) (by decide +kernel) (by decide +kernel)
theorem kt_226 : Cond.selects RX1 yX1_takeSender yX1_takeSender ∈ tb := tb_at (i := 566) (by decide +kernel) (by decide +kernel)
theorem kt_227 : Cond.code yX4_read cX4_read 5 (some .boolean) ∈ tb := tb_at (i := 798) (by decide +kernel) (by decide +kernel)
theorem kt_228 : Cond.methodLink RX11 105 yX4_read ∈ tb := tb_at (i := 795) (by decide +kernel) (by decide +kernel)
theorem kt_229 : Cond.instanceMethod yX4_read ∈ tb := tb_at (i := 796) (by decide +kernel) (by decide +kernel)
theorem kt_230 : Cond.selects RX4 yX4_read yX4_read ∈ tb := tb_at (i := 797) (by decide +kernel) (by decide +kernel)
theorem kt_231 : Cond.code yX4_countOf cX4_countOf 4 (some .int) ∈ tb := tb_at (i := 826) (by decide +kernel) (by decide +kernel)
theorem kt_232 : Cond.methodLink RX11 114 yX4_countOf ∈ tb := tb_at (i := 823) (by decide +kernel) (by decide +kernel)
theorem kt_233 : Cond.instanceMethod yX4_countOf ∈ tb := tb_at (i := 824) (by decide +kernel) (by decide +kernel)
theorem kt_234 : Cond.selects RX4 yX4_countOf yX4_countOf ∈ tb := tb_at (i := 825) (by decide +kernel) (by decide +kernel)
theorem kt_235 : Cond.code yX4_fieldOf cX4_fieldOf 5 (some .int) ∈ tb := tb_at (i := 841) (by decide +kernel) (by decide +kernel)
theorem kt_236 : Cond.methodLink RX11 118 yX4_fieldOf ∈ tb := tb_at (i := 838) (by decide +kernel) (by decide +kernel)
theorem kt_237 : Cond.instanceMethod yX4_fieldOf ∈ tb := tb_at (i := 839) (by decide +kernel) (by decide +kernel)
theorem kt_238 : Cond.selects RX4 yX4_fieldOf yX4_fieldOf ∈ tb := tb_at (i := 840) (by decide +kernel) (by decide +kernel)
theorem kt_239 : Cond.methodLink RX11 133 yX0_isName ∈ tb := tb_at (i := 1097) (by decide +kernel) (by decide +kernel)
theorem kn_9 : Cond.fieldLinkNest RX11 68 "PostGate$Bytes" "size" "I" "PostGate" ∈ nw := nw_at (i := 41) (by decide +kernel) rfl
theorem kn_10 : Cond.fieldLinkNest RX11 92 "PostGate$Checker" "isReady" "Z" "PostGate" ∈ nw := nw_at (i := 151) (by decide +kernel) rfl
theorem kn_11 : Cond.fieldLinkNest RX11 99 "PostGate$Checker" "counted" "I" "PostGate" ∈ nw := nw_at (i := 153) (by decide +kernel) rfl
theorem kn_12 : Cond.fieldLinkNest RX11 102 "PostGate$Checker" "voids" "I" "PostGate" ∈ nw := nw_at (i := 155) (by decide +kernel) rfl
theorem kn_13 : Cond.fieldLinkNest RX11 109 "PostGate$Message" "count" "I" "PostGate" ∈ nw := nw_at (i := 361) (by decide +kernel) rfl
set_option maxHeartbeats 4000000 in
set_option maxRecDepth 100000 in
theorem c_X11_feed (l : Launch) (dC : Nat → ClassId) (dI : Nat → Nat → Nat) (sz : Nat) (h0 : Nat) (ta : Nat) (oa : Nat) (da : Nat) (ka : Nat) (ea : Nat) (pa : Nat) (ha : Nat) (la : Nat) (sa : Nat) (tr : Nat) (ct : ClassId) (x1 : Int32) (x2 : Int32) (x3 : Int32) (x4 : Int32) (x5 : Int32) : Met l yX11_feed (.code yX11_feed cX11_feed 6 (some .int) :: tb) ({ frames := 2, cells := 0, slots := 0, locals := 43 }) (va_Pc [.ref h0, .int x1, .int x2, .int x3, .int x4, .int x5] (PW (dC, dI) sz [(h0, .inr (11, [.ref ta, .ref oa, .ref da, .ref ka, .ref ea, .ref pa, .ref ha, .ref la, .ref sa])), (ta, .inr (0, [.ref tr, .int 0, .int 0])), (tr, .inl (ct, 3000, .inl (fun _ => 0)))] [(ct, .int)])) (va_Qi (fun (r : Int32) (_ : Unit) => r = 20) (fun _ T9 => QW (dC, dI) (va_A [(h0, .inr (11, [.ref ta, .ref oa, .ref da, .ref ka, .ref ea, .ref pa, .ref ha, .ref la, .ref sa])), (ta, .inr (0, [.ref tr, .int 0, .int 0])), (tr, .inl (ct, 3000, .inl (fun _ => 0)))] sz) [] [] T9) (va_A [(h0, .inr (11, [.ref ta, .ref oa, .ref da, .ref ka, .ref ea, .ref pa, .ref ha, .ref la, .ref sa])), (ta, .inr (0, [.ref tr, .int 0, .int 0])), (tr, .inl (ct, 3000, .inl (fun _ => 0)))] sz)) 0 0 (va_A [(h0, .inr (11, [.ref ta, .ref oa, .ref da, .ref ka, .ref ea, .ref pa, .ref ha, .ref la, .ref sa])), (ta, .inr (0, [.ref tr, .int 0, .int 0])), (tr, .inl (ct, 3000, .inl (fun _ => 0)))] sz) := by
  refine Met.ofW (cc := cX11_feed) (maxL := 6) (ret := (some .int)) (by decide) rfl ?_
  intro p e s m args below meth c s₁ B hml hv
  obtain ⟨rfl, hsz, hP, hK, hD0, hE⟩ := hv
  have hx := B.exec
  have hb := B.bytes
  have hr := B.returns
  have hts : ∀ w ∈ tb, w.before _ s = true := fun w h => atoms_spec (ws := .code yX11_feed cX11_feed 6 (some .int) :: tb) B.pre w (List.mem_cons_of_mem _ h)
  have hown : s.vm.findClass RX11 = some m.cls := findClass_of_methodNamed B.named
  have hlocks := B.notSynchronized
  subst hsz
  have hD := hD0.self (sz := s.heap.size)
  generalize hAe : va_A [(h0, .inr (11, [.ref ta, .ref oa, .ref da, .ref ka, .ref ea, .ref pa, .ref ha, .ref la, .ref sa])), (ta, .inr (0, [.ref tr, .int 0, .int 0])), (tr, .inl (ct, 3000, .inl (fun _ => 0)))] s.heap.size = A at hD ⊢
  have hA : ∀ q : Nat, s.heap.size ≤ q → A q := fun q h => by rw [← hAe]; exact Or.inr h
  have hS : va_S A s.heap s.heap [] := va_S.rf
  have hP : va_P (dC, dI) vwCl [(h0, .inr (11, [.ref ta, .ref oa, .ref da, .ref ka, .ref ea, .ref pa, .ref ha, .ref la, .ref sa])), (ta, .inr (0, [.ref tr, .int 0, .int 0])), (tr, .inl (ct, 3000, .inl (fun _ => 0)))] s.heap := hP
  have hl := lv_entry ([.ref h0, .int x1, .int x2, .int x3, .int x4, .int x5]) (n := 6) (Nat.le_of_ble_eq_true rfl)
  rw [lg_entry_eq]
  generalize (lg_sl ([.ref h0, .int x1, .int x2, .int x3, .int x4, .int x5]) ++ List.replicate (6 - (lg_sl ([.ref h0, .int x1, .int x2, .int x3, .int x4, .int x5])).length) Slot.unset).toArray = ls at hl ⊢
  have hl : lv_has ls 6 [(0, .ref h0), (1, .int x1), (2, .int x2), (3, .int x3), (4, .int x4), (5, .int x5)] := hl
  refine lv_aload_n hx hb dX11_feed_0 rfl (lv_at hl 0 rfl) ?_
  refine va_get (D := (dC, dI)) (ci := 11) (v := .ref ta) (C := RX11) (T := TX11) (N := 9) hx hb hts it_11 hown hK hP 0 rfl rfl 0 (by decide) (hts _ kt_132) (fun _ h9 => h9) rfl dX11_feed_1 ?_
  refine va_getN (D := (dC, dI)) (ci := 0) (v := .int 0) (C := RX0) (T := TX0) (N := 3) hx hb hts it_0 hown hK hP 1 rfl rfl 1 (by decide) (hE.nest kn_9) (fun _ h9 => h9) rfl dX11_feed_4 ?_
  refine lv_bipush (v := 20) hx hb dX11_feed_7 (by decide) ?_
  refine lv_iadd hx hb dX11_feed_9 ?_
  refine lv_topi (fun x_1 ex_1 => ?_)
  obtain rfl : x_1 = 20 := ex_1.trans (by decide)
  refine lv_sipush (v := 3000) hx hb dX11_feed_10 (by decide) ?_
  refine lv_icmp_le (tgt := 19) hx hb dX11_feed_13 (by decide) (fun c_2 => ?_) (fun c_2 => absurd (by decide) c_2)
  refine lv_aload_n hx hb dX11_feed_19 rfl (lv_at hl 0 rfl) ?_
  refine va_get (D := (dC, dI)) (ci := 11) (v := .ref ta) (C := RX11) (T := TX11) (N := 9) hx hb hts it_11 hown hK hP 0 rfl rfl 0 (by decide) (hts _ kt_132) (fun _ h9 => h9) rfl dX11_feed_20 ?_
  refine lv_iload_n hx hb dX11_feed_23 rfl (lv_at hl 1 rfl) ?_
  have hP : va_P (dC, dI) vwCl [(h0, .inr (11, [.ref ta, .ref oa, .ref da, .ref ka, .ref ea, .ref pa, .ref ha, .ref la, .ref sa])), (ta, .inr (0, [.ref tr, .int (nI 0), .int 0])), (tr, .inl (ct, 3000, .inl (fun _ => 0)))] s.heap := hP
  have hD : va_D A [(h0, .inr (11, [.ref ta, .ref oa, .ref da, .ref ka, .ref ea, .ref pa, .ref ha, .ref la, .ref sa])), (ta, .inr (0, [.ref tr, .int (nI 0), .int 0])), (tr, .inl (ct, 3000, .inl (fun _ => 0)))] := hD
  have hPc := hP.sub (ws' := [(ta, .inr (0, [.ref tr, .int (nI 0), .int 0])), (tr, .inl (ct, 3000, .inl (fun _ => 0)))]) [1, 2] rfl
  have hDc := hD.sub (ws' := [(ta, .inr (0, [.ref tr, .int (nI 0), .int 0])), (tr, .inl (ct, 3000, .inl (fun _ => 0)))]) [1, 2] (by decide) rfl
  have hKc := hK.sub (tys' := [(ct, .int)]) [0] rfl
  have hFc := va_free (wc := [(ta, .inr (0, [.ref tr, .int (nI 0), .int 0])), (tr, .inl (ct, 3000, .inl (fun _ => 0)))]) hD hS hA [1, 2] rfl
  refine va_callv (va_runV (As := [.int x1]) (rest := []) ⟨hx, hb, hml, hown, hts⟩ (c_X0_addFour l dC dI s.heap.size ta tr 0 ct (fun _ => 0) x1 (by omega)) ⟨callB_of 1 hts (gi kt_206) rfl rfl rfl (hts _ kt_10) (hts _ kt_207) (by decide +kernel) ⟨Nat.le_of_ble_eq_true rfl, Nat.le_of_ble_eq_true rfl⟩, (hts _ kt_208), (hts _ kt_209)⟩ ⟨fun a U g mk q => ⟨q.1, PW.calling q.2⟩, va_recv hKc hPc (ci := 0) (q0 := 0) rfl rfl, fun U hU hW => ⟨rfl, PW.mk hU hW hPc hKc hDc hE⟩⟩ rfl rfl hl.1 rfl (lv_room (Nat.le_of_ble_eq_true rfl)) dX11_feed_24 ⟨by show _ + 0 ≤ 0; omega, by show _ + 0 ≤ 0; omega⟩) hS (fun q _ h => hFc q h) hFc (fun u t H1 locs ht hvm hw hB hz1 hk1 hS => ?_)
  obtain ⟨f2_4, hB1⟩ := hB
  obtain ⟨hP, hD, hK⟩ := QW.join (wr := [(h0, .inr (11, [.ref ta, .ref oa, .ref da, .ref ka, .ref ea, .ref pa, .ref ha, .ref la, .ref sa]))]) hP hD hK [1, 2] [0] rfl rfl (by decide) (by decide) hk1 hFc ht hvm hB1
  generalize H1 = H at hP hS ⊢
  have hK : va_K (dC, dI) vwCl [(ct, .int)] s := hK.sub [0] rfl
  have hP : va_P (dC, dI) vwCl [(h0, .inr (11, [.ref ta, .ref oa, .ref da, .ref ka, .ref ea, .ref pa, .ref ha, .ref la, .ref sa])), (ta, .inr (0, [.ref tr, .int (nI 4), .int 0])), (tr, .inl (ct, 3000, .inl f2_4))] H := hP
  have hD : va_D A [(h0, .inr (11, [.ref ta, .ref oa, .ref da, .ref ka, .ref ea, .ref pa, .ref ha, .ref la, .ref sa])), (ta, .inr (0, [.ref tr, .int (nI 4), .int 0])), (tr, .inl (ct, 3000, .inl f2_4))] := hD
  refine lv_aload_n hx hb dX11_feed_27 rfl (lv_at hl 0 rfl) ?_
  refine va_get (D := (dC, dI)) (ci := 11) (v := .ref ta) (C := RX11) (T := TX11) (N := 9) hx hb hts it_11 hown hK hP 0 rfl rfl 0 (by decide) (hts _ kt_132) (fun _ h9 => h9) rfl dX11_feed_28 ?_
  refine lv_iload_n hx hb dX11_feed_31 rfl (lv_at hl 2 rfl) ?_
  have hPc := hP.sub (ws' := [(ta, .inr (0, [.ref tr, .int (nI 4), .int 0])), (tr, .inl (ct, 3000, .inl f2_4))]) [1, 2] rfl
  have hDc := hD.sub (ws' := [(ta, .inr (0, [.ref tr, .int (nI 4), .int 0])), (tr, .inl (ct, 3000, .inl f2_4))]) [1, 2] (by decide) rfl
  have hKc := hK.sub (tys' := [(ct, .int)]) [0] rfl
  have hFc := va_free (wc := [(ta, .inr (0, [.ref tr, .int (nI 4), .int 0])), (tr, .inl (ct, 3000, .inl f2_4))]) hD hS hA [1, 2] rfl
  refine va_callv (va_runV (As := [.int x2]) (rest := []) ⟨hx, hb, hml, hown, hts⟩ (c_X0_addFour l dC dI H.size ta tr 4 ct f2_4 x2 (by omega)) ⟨callB_of 1 hts (gi kt_206) rfl rfl rfl (hts _ kt_10) (hts _ kt_207) (by decide +kernel) ⟨Nat.le_of_ble_eq_true rfl, Nat.le_of_ble_eq_true rfl⟩, (hts _ kt_208), (hts _ kt_209)⟩ ⟨fun a U g mk q => ⟨q.1, PW.calling q.2⟩, va_recv hKc hPc (ci := 0) (q0 := 0) rfl rfl, fun U hU hW => ⟨rfl, PW.mk hU hW hPc hKc hDc hE⟩⟩ rfl rfl hl.1 rfl (lv_room (Nat.le_of_ble_eq_true rfl)) dX11_feed_32 ⟨by show _ + 0 ≤ 0; omega, by show _ + 0 ≤ 0; omega⟩) hS (fun q _ h => hFc q h) hFc (fun u t H1 locs ht hvm hw hB hz1 hk1 hS => ?_)
  obtain ⟨f2_6, hB1⟩ := hB
  obtain ⟨hP, hD, hK⟩ := QW.join (wr := [(h0, .inr (11, [.ref ta, .ref oa, .ref da, .ref ka, .ref ea, .ref pa, .ref ha, .ref la, .ref sa]))]) hP hD hK [1, 2] [0] rfl rfl (by decide) (by decide) hk1 hFc ht hvm hB1
  generalize H1 = H at hP hS ⊢
  have hK : va_K (dC, dI) vwCl [(ct, .int)] s := hK.sub [0] rfl
  have hP : va_P (dC, dI) vwCl [(h0, .inr (11, [.ref ta, .ref oa, .ref da, .ref ka, .ref ea, .ref pa, .ref ha, .ref la, .ref sa])), (ta, .inr (0, [.ref tr, .int (nI 8), .int 0])), (tr, .inl (ct, 3000, .inl f2_6))] H := hP
  have hD : va_D A [(h0, .inr (11, [.ref ta, .ref oa, .ref da, .ref ka, .ref ea, .ref pa, .ref ha, .ref la, .ref sa])), (ta, .inr (0, [.ref tr, .int (nI 8), .int 0])), (tr, .inl (ct, 3000, .inl f2_6))] := hD
  refine lv_aload_n hx hb dX11_feed_35 rfl (lv_at hl 0 rfl) ?_
  refine va_get (D := (dC, dI)) (ci := 11) (v := .ref ta) (C := RX11) (T := TX11) (N := 9) hx hb hts it_11 hown hK hP 0 rfl rfl 0 (by decide) (hts _ kt_132) (fun _ h9 => h9) rfl dX11_feed_36 ?_
  refine lv_iload_n hx hb dX11_feed_39 rfl (lv_at hl 3 rfl) ?_
  have hPc := hP.sub (ws' := [(ta, .inr (0, [.ref tr, .int (nI 8), .int 0])), (tr, .inl (ct, 3000, .inl f2_6))]) [1, 2] rfl
  have hDc := hD.sub (ws' := [(ta, .inr (0, [.ref tr, .int (nI 8), .int 0])), (tr, .inl (ct, 3000, .inl f2_6))]) [1, 2] (by decide) rfl
  have hKc := hK.sub (tys' := [(ct, .int)]) [0] rfl
  have hFc := va_free (wc := [(ta, .inr (0, [.ref tr, .int (nI 8), .int 0])), (tr, .inl (ct, 3000, .inl f2_6))]) hD hS hA [1, 2] rfl
  refine va_callv (va_runV (As := [.int x3]) (rest := []) ⟨hx, hb, hml, hown, hts⟩ (c_X0_addFour l dC dI H.size ta tr 8 ct f2_6 x3 (by omega)) ⟨callB_of 1 hts (gi kt_206) rfl rfl rfl (hts _ kt_10) (hts _ kt_207) (by decide +kernel) ⟨Nat.le_of_ble_eq_true rfl, Nat.le_of_ble_eq_true rfl⟩, (hts _ kt_208), (hts _ kt_209)⟩ ⟨fun a U g mk q => ⟨q.1, PW.calling q.2⟩, va_recv hKc hPc (ci := 0) (q0 := 0) rfl rfl, fun U hU hW => ⟨rfl, PW.mk hU hW hPc hKc hDc hE⟩⟩ rfl rfl hl.1 rfl (lv_room (Nat.le_of_ble_eq_true rfl)) dX11_feed_40 ⟨by show _ + 0 ≤ 0; omega, by show _ + 0 ≤ 0; omega⟩) hS (fun q _ h => hFc q h) hFc (fun u t H1 locs ht hvm hw hB hz1 hk1 hS => ?_)
  obtain ⟨f2_8, hB1⟩ := hB
  obtain ⟨hP, hD, hK⟩ := QW.join (wr := [(h0, .inr (11, [.ref ta, .ref oa, .ref da, .ref ka, .ref ea, .ref pa, .ref ha, .ref la, .ref sa]))]) hP hD hK [1, 2] [0] rfl rfl (by decide) (by decide) hk1 hFc ht hvm hB1
  generalize H1 = H at hP hS ⊢
  have hK : va_K (dC, dI) vwCl [(ct, .int)] s := hK.sub [0] rfl
  have hP : va_P (dC, dI) vwCl [(h0, .inr (11, [.ref ta, .ref oa, .ref da, .ref ka, .ref ea, .ref pa, .ref ha, .ref la, .ref sa])), (ta, .inr (0, [.ref tr, .int (nI 12), .int 0])), (tr, .inl (ct, 3000, .inl f2_8))] H := hP
  have hD : va_D A [(h0, .inr (11, [.ref ta, .ref oa, .ref da, .ref ka, .ref ea, .ref pa, .ref ha, .ref la, .ref sa])), (ta, .inr (0, [.ref tr, .int (nI 12), .int 0])), (tr, .inl (ct, 3000, .inl f2_8))] := hD
  refine lv_aload_n hx hb dX11_feed_43 rfl (lv_at hl 0 rfl) ?_
  refine va_get (D := (dC, dI)) (ci := 11) (v := .ref ta) (C := RX11) (T := TX11) (N := 9) hx hb hts it_11 hown hK hP 0 rfl rfl 0 (by decide) (hts _ kt_132) (fun _ h9 => h9) rfl dX11_feed_44 ?_
  refine lv_iload hx hb dX11_feed_47 (lv_at hl 4 rfl) ?_
  have hPc := hP.sub (ws' := [(ta, .inr (0, [.ref tr, .int (nI 12), .int 0])), (tr, .inl (ct, 3000, .inl f2_8))]) [1, 2] rfl
  have hDc := hD.sub (ws' := [(ta, .inr (0, [.ref tr, .int (nI 12), .int 0])), (tr, .inl (ct, 3000, .inl f2_8))]) [1, 2] (by decide) rfl
  have hKc := hK.sub (tys' := [(ct, .int)]) [0] rfl
  have hFc := va_free (wc := [(ta, .inr (0, [.ref tr, .int (nI 12), .int 0])), (tr, .inl (ct, 3000, .inl f2_8))]) hD hS hA [1, 2] rfl
  refine va_callv (va_runV (As := [.int x4]) (rest := []) ⟨hx, hb, hml, hown, hts⟩ (c_X0_addFour l dC dI H.size ta tr 12 ct f2_8 x4 (by omega)) ⟨callB_of 1 hts (gi kt_206) rfl rfl rfl (hts _ kt_10) (hts _ kt_207) (by decide +kernel) ⟨Nat.le_of_ble_eq_true rfl, Nat.le_of_ble_eq_true rfl⟩, (hts _ kt_208), (hts _ kt_209)⟩ ⟨fun a U g mk q => ⟨q.1, PW.calling q.2⟩, va_recv hKc hPc (ci := 0) (q0 := 0) rfl rfl, fun U hU hW => ⟨rfl, PW.mk hU hW hPc hKc hDc hE⟩⟩ rfl rfl hl.1 rfl (lv_room (Nat.le_of_ble_eq_true rfl)) dX11_feed_49 ⟨by show _ + 0 ≤ 0; omega, by show _ + 0 ≤ 0; omega⟩) hS (fun q _ h => hFc q h) hFc (fun u t H1 locs ht hvm hw hB hz1 hk1 hS => ?_)
  obtain ⟨f2_10, hB1⟩ := hB
  obtain ⟨hP, hD, hK⟩ := QW.join (wr := [(h0, .inr (11, [.ref ta, .ref oa, .ref da, .ref ka, .ref ea, .ref pa, .ref ha, .ref la, .ref sa]))]) hP hD hK [1, 2] [0] rfl rfl (by decide) (by decide) hk1 hFc ht hvm hB1
  generalize H1 = H at hP hS ⊢
  have hK : va_K (dC, dI) vwCl [(ct, .int)] s := hK.sub [0] rfl
  have hP : va_P (dC, dI) vwCl [(h0, .inr (11, [.ref ta, .ref oa, .ref da, .ref ka, .ref ea, .ref pa, .ref ha, .ref la, .ref sa])), (ta, .inr (0, [.ref tr, .int (nI 16), .int 0])), (tr, .inl (ct, 3000, .inl f2_10))] H := hP
  have hD : va_D A [(h0, .inr (11, [.ref ta, .ref oa, .ref da, .ref ka, .ref ea, .ref pa, .ref ha, .ref la, .ref sa])), (ta, .inr (0, [.ref tr, .int (nI 16), .int 0])), (tr, .inl (ct, 3000, .inl f2_10))] := hD
  refine lv_aload_n hx hb dX11_feed_52 rfl (lv_at hl 0 rfl) ?_
  refine va_get (D := (dC, dI)) (ci := 11) (v := .ref ta) (C := RX11) (T := TX11) (N := 9) hx hb hts it_11 hown hK hP 0 rfl rfl 0 (by decide) (hts _ kt_132) (fun _ h9 => h9) rfl dX11_feed_53 ?_
  refine lv_iload hx hb dX11_feed_56 (lv_at hl 5 rfl) ?_
  have hPc := hP.sub (ws' := [(ta, .inr (0, [.ref tr, .int (nI 16), .int 0])), (tr, .inl (ct, 3000, .inl f2_10))]) [1, 2] rfl
  have hDc := hD.sub (ws' := [(ta, .inr (0, [.ref tr, .int (nI 16), .int 0])), (tr, .inl (ct, 3000, .inl f2_10))]) [1, 2] (by decide) rfl
  have hKc := hK.sub (tys' := [(ct, .int)]) [0] rfl
  have hFc := va_free (wc := [(ta, .inr (0, [.ref tr, .int (nI 16), .int 0])), (tr, .inl (ct, 3000, .inl f2_10))]) hD hS hA [1, 2] rfl
  refine va_callv (va_runV (As := [.int x5]) (rest := []) ⟨hx, hb, hml, hown, hts⟩ (c_X0_addFour l dC dI H.size ta tr 16 ct f2_10 x5 (by omega)) ⟨callB_of 1 hts (gi kt_206) rfl rfl rfl (hts _ kt_10) (hts _ kt_207) (by decide +kernel) ⟨Nat.le_of_ble_eq_true rfl, Nat.le_of_ble_eq_true rfl⟩, (hts _ kt_208), (hts _ kt_209)⟩ ⟨fun a U g mk q => ⟨q.1, PW.calling q.2⟩, va_recv hKc hPc (ci := 0) (q0 := 0) rfl rfl, fun U hU hW => ⟨rfl, PW.mk hU hW hPc hKc hDc hE⟩⟩ rfl rfl hl.1 rfl (lv_room (Nat.le_of_ble_eq_true rfl)) dX11_feed_58 ⟨by show _ + 0 ≤ 0; omega, by show _ + 0 ≤ 0; omega⟩) hS (fun q _ h => hFc q h) hFc (fun u t H1 locs ht hvm hw hB hz1 hk1 hS => ?_)
  obtain ⟨f2_12, hB1⟩ := hB
  obtain ⟨hP, hD, hK⟩ := QW.join (wr := [(h0, .inr (11, [.ref ta, .ref oa, .ref da, .ref ka, .ref ea, .ref pa, .ref ha, .ref la, .ref sa]))]) hP hD hK [1, 2] [0] rfl rfl (by decide) (by decide) hk1 hFc ht hvm hB1
  generalize H1 = H at hP hS ⊢
  have hK : va_K (dC, dI) vwCl [(ct, .int)] s := hK.sub [0] rfl
  have hP : va_P (dC, dI) vwCl [(h0, .inr (11, [.ref ta, .ref oa, .ref da, .ref ka, .ref ea, .ref pa, .ref ha, .ref la, .ref sa])), (ta, .inr (0, [.ref tr, .int (nI 20), .int 0])), (tr, .inl (ct, 3000, .inl f2_12))] H := hP
  have hD : va_D A [(h0, .inr (11, [.ref ta, .ref oa, .ref da, .ref ka, .ref ea, .ref pa, .ref ha, .ref la, .ref sa])), (ta, .inr (0, [.ref tr, .int (nI 20), .int 0])), (tr, .inl (ct, 3000, .inl f2_12))] := hD
  refine lv_aload_n hx hb dX11_feed_61 rfl (lv_at hl 0 rfl) ?_
  refine va_get (D := (dC, dI)) (ci := 11) (v := .ref ta) (C := RX11) (T := TX11) (N := 9) hx hb hts it_11 hown hK hP 0 rfl rfl 0 (by decide) (hts _ kt_132) (fun _ h9 => h9) rfl dX11_feed_62 ?_
  refine va_getN (D := (dC, dI)) (ci := 0) (v := .int (nI 20)) (C := RX0) (T := TX0) (N := 3) hx hb hts it_0 hown hK hP 1 rfl rfl 1 (by decide) (hE.nest kn_9) (fun _ h9 => h9) rfl dX11_feed_65 ?_
  have hP9 := hP.sub (ws' := []) [] rfl
  have hD9 := hD.sub (ws' := []) [] (by decide) rfl
  have hK9 := hK.sub (tys' := []) [] rfl
  refine W.widen (k := 0) (n := 0) (by omega) (by omega) ?_
  exact W.iret (v := (nI 20)) hx hb hr (fun t ht hW => ⟨⟨(nI 20), (), rfl, rfl, QW.mk ht hW hP9 hK9 hD9⟩, hS.F ht⟩) hS.2.2 dX11_feed_68
set_option maxHeartbeats 4000000 in
set_option maxRecDepth 100000 in
theorem c_X11_end (l : Launch) (dC : Nat → ClassId) (dI : Nat → Nat → Nat) (sz : Nat) (h0 : Nat) (ta : Nat) (oa : Nat) (da : Nat) (ka : Nat) (ea : Nat) (pa : Nat) (ha : Nat) (la : Nat) (sa : Nat) (tr : Nat) (x1 : Int32) : Met l yX11_end (.code yX11_end cX11_end 2 (some .int) :: tb) ({ frames := 1, cells := 0, slots := 0, locals := 21 }) (va_Pc [.ref h0, .int x1] (PW (dC, dI) sz [(h0, .inr (11, [.ref ta, .ref oa, .ref da, .ref ka, .ref ea, .ref pa, .ref ha, .ref la, .ref sa])), (ta, .inr (0, [.ref tr, .int 0, .int 0]))] [])) (va_Qi (fun (r : Int32) (_ : Unit) => r = (if x1 = 0 then 0 else (-1))) (fun _ T9 => QW (dC, dI) (va_A [(h0, .inr (11, [.ref ta, .ref oa, .ref da, .ref ka, .ref ea, .ref pa, .ref ha, .ref la, .ref sa])), (ta, .inr (0, [.ref tr, .int 0, .int 0]))] sz) [] [] T9) (va_A [(h0, .inr (11, [.ref ta, .ref oa, .ref da, .ref ka, .ref ea, .ref pa, .ref ha, .ref la, .ref sa])), (ta, .inr (0, [.ref tr, .int 0, .int 0]))] sz)) 0 0 (va_A [(h0, .inr (11, [.ref ta, .ref oa, .ref da, .ref ka, .ref ea, .ref pa, .ref ha, .ref la, .ref sa])), (ta, .inr (0, [.ref tr, .int 0, .int 0]))] sz) := by
  refine Met.ofW (cc := cX11_end) (maxL := 2) (ret := (some .int)) (by decide) rfl ?_
  intro p e s m args below meth c s₁ B hml hv
  obtain ⟨rfl, hsz, hP, hK, hD0, hE⟩ := hv
  have hx := B.exec
  have hb := B.bytes
  have hr := B.returns
  have hts : ∀ w ∈ tb, w.before _ s = true := fun w h => atoms_spec (ws := .code yX11_end cX11_end 2 (some .int) :: tb) B.pre w (List.mem_cons_of_mem _ h)
  have hown : s.vm.findClass RX11 = some m.cls := findClass_of_methodNamed B.named
  have hlocks := B.notSynchronized
  subst hsz
  have hD := hD0.self (sz := s.heap.size)
  generalize hAe : va_A [(h0, .inr (11, [.ref ta, .ref oa, .ref da, .ref ka, .ref ea, .ref pa, .ref ha, .ref la, .ref sa])), (ta, .inr (0, [.ref tr, .int 0, .int 0]))] s.heap.size = A at hD ⊢
  have hA : ∀ q : Nat, s.heap.size ≤ q → A q := fun q h => by rw [← hAe]; exact Or.inr h
  have hS : va_S A s.heap s.heap [] := va_S.rf
  have hP : va_P (dC, dI) vwCl [(h0, .inr (11, [.ref ta, .ref oa, .ref da, .ref ka, .ref ea, .ref pa, .ref ha, .ref la, .ref sa])), (ta, .inr (0, [.ref tr, .int 0, .int 0]))] s.heap := hP
  have hl := lv_entry ([.ref h0, .int x1]) (n := 2) (Nat.le_of_ble_eq_true rfl)
  rw [lg_entry_eq]
  generalize (lg_sl ([.ref h0, .int x1]) ++ List.replicate (2 - (lg_sl ([.ref h0, .int x1])).length) Slot.unset).toArray = ls at hl ⊢
  have hl : lv_has ls 2 [(0, .ref h0), (1, .int x1)] := hl
  refine lv_iload_n hx hb dX11_end_0 rfl (lv_at hl 1 rfl) ?_
  refine lv_if_lt (tgt := 15) hx hb dX11_end_1 (by decide) (fun c_1 => ?_) (fun c_1 => ?_)
  ·
    refine lv_iconst (v := (-1)) hx hb dX11_end_15 (by decide) ?_
    have hP9 := hP.sub (ws' := []) [] rfl
    have hD9 := hD.sub (ws' := []) [] (by decide) rfl
    have hK9 := hK.sub (tys' := []) [] rfl
    refine W.widen (k := 0) (n := 0) (by omega) (by omega) ?_
    exact W.iret (v := (-1)) hx hb hr (fun t ht hW => ⟨⟨(-1), (), rfl, (by rw [if_neg (fun h => absurd c_1 (by rw [h]; decide))]), QW.mk ht hW hP9 hK9 hD9⟩, hS.F ht⟩) hS.2.2 dX11_end_16
  ·
    refine lv_iload_n hx hb dX11_end_4 rfl (lv_at hl 1 rfl) ?_
    refine lv_aload_n hx hb dX11_end_5 rfl (lv_at hl 0 rfl) ?_
    refine va_get (D := (dC, dI)) (ci := 11) (v := .ref ta) (C := RX11) (T := TX11) (N := 9) hx hb hts it_11 hown hK hP 0 rfl rfl 0 (by decide) (hts _ kt_132) (fun _ h9 => h9) rfl dX11_end_6 ?_
    refine va_getN (D := (dC, dI)) (ci := 0) (v := .int 0) (C := RX0) (T := TX0) (N := 3) hx hb hts it_0 hown hK hP 1 rfl rfl 1 (by decide) (hE.nest kn_9) (fun _ h9 => h9) rfl dX11_end_9 ?_
    refine lv_icmp_le (tgt := 17) hx hb dX11_end_12 (by decide) (fun c_2 => ?_) (fun c_2 => ?_)
    ·
      have hz : x1 = 0 := Int32.le_antisymm c_2 (Int32.not_lt.mp c_1)
      subst hz
      refine lv_aload_n hx hb dX11_end_17 rfl (lv_at hl 0 rfl) ?_
      refine va_get (D := (dC, dI)) (ci := 11) (v := .ref ta) (C := RX11) (T := TX11) (N := 9) hx hb hts it_11 hown hK hP 0 rfl rfl 0 (by decide) (hts _ kt_132) (fun _ h9 => h9) rfl dX11_end_18 ?_
      refine lv_iload_n hx hb dX11_end_21 rfl (lv_at hl 1 rfl) ?_
      have hPc := hP.sub (ws' := [(ta, .inr (0, [.ref tr, .int 0, .int 0]))]) [1] rfl
      have hDc := hD.sub (ws' := [(ta, .inr (0, [.ref tr, .int 0, .int 0]))]) [1] (by decide) rfl
      have hKc := hK.sub (tys' := []) [] rfl
      have hFc := va_free (wc := [(ta, .inr (0, [.ref tr, .int 0, .int 0]))]) hD hS hA [1] rfl
      refine va_callv (va_runV (As := [.int 0]) (rest := []) ⟨hx, hb, hml, hown, hts⟩ (c_X0_cut l dC dI s.heap.size ta tr ) ⟨callB_of 1 hts (gi kt_210) rfl rfl rfl (hts _ kt_10) (hts _ kt_211) (by decide +kernel) ⟨Nat.le_of_ble_eq_true rfl, Nat.le_of_ble_eq_true rfl⟩, (hts _ kt_212), (hts _ kt_213)⟩ ⟨fun a U g mk q => ⟨q.1, PW.calling q.2⟩, va_recv hKc hPc (ci := 0) (q0 := 0) rfl rfl, fun U hU hW => ⟨rfl, PW.mk hU hW hPc hKc hDc hE⟩⟩ rfl rfl hl.1 rfl (lv_room (Nat.le_of_ble_eq_true rfl)) dX11_end_22 ⟨by show _ + 0 ≤ 0; omega, by show _ + 0 ≤ 0; omega⟩) hS (fun q _ h => hFc q h) hFc (fun u t H1 locs ht hvm hw hB hz1 hk1 hS => ?_)
      have hB1 := hB
      obtain ⟨hP, hD, hK⟩ := QW.join (wr := [(h0, .inr (11, [.ref ta, .ref oa, .ref da, .ref ka, .ref ea, .ref pa, .ref ha, .ref la, .ref sa]))]) hP hD hK [1] [0] rfl rfl (by decide) (by decide) hk1 hFc ht hvm hB1
      generalize H1 = H at hP hS ⊢
      have hK : va_K (dC, dI) vwCl [] s := hK.sub [] rfl
      have hP : va_P (dC, dI) vwCl [(h0, .inr (11, [.ref ta, .ref oa, .ref da, .ref ka, .ref ea, .ref pa, .ref ha, .ref la, .ref sa])), (ta, .inr (0, [.ref tr, .int 0, .int 0]))] H := hP
      have hD : va_D A [(h0, .inr (11, [.ref ta, .ref oa, .ref da, .ref ka, .ref ea, .ref pa, .ref ha, .ref la, .ref sa])), (ta, .inr (0, [.ref tr, .int 0, .int 0]))] := hD
      refine lv_iload_n hx hb dX11_end_25 rfl (lv_at hl 1 rfl) ?_
      have hP9 := hP.sub (ws' := []) [] rfl
      have hD9 := hD.sub (ws' := []) [] (by decide) rfl
      have hK9 := hK.sub (tys' := []) [] rfl
      refine W.widen (k := 0) (n := 0) (by omega) (by omega) ?_
      exact W.iret (v := 0) hx hb hr (fun t ht hW => ⟨⟨0, (), rfl, rfl, QW.mk ht hW hP9 hK9 hD9⟩, hS.F ht⟩) hS.2.2 dX11_end_26
    ·
      refine lv_iconst (v := (-1)) hx hb dX11_end_15 (by decide) ?_
      have hP9 := hP.sub (ws' := []) [] rfl
      have hD9 := hD.sub (ws' := []) [] (by decide) rfl
      have hK9 := hK.sub (tys' := []) [] rfl
      refine W.widen (k := 0) (n := 0) (by omega) (by omega) ?_
      exact W.iret (v := (-1)) hx hb hr (fun t ht hW => ⟨⟨(-1), (), rfl, (by rw [if_neg (fun h => c_2 (by rw [h]; decide))]), QW.mk ht hW hP9 hK9 hD9⟩, hS.F ht⟩) hS.2.2 dX11_end_16
set_option maxHeartbeats 4000000 in
set_option maxRecDepth 100000 in
theorem c_X11_entry (l : Launch) (dC : Nat → ClassId) (dI : Nat → Nat → Nat) (sz : Nat) (h0 : Nat) (ta : Nat) (oa : Nat) (da : Nat) (ka : Nat) (ea : Nat) (pa : Nat) (ha : Nat) (la : Nat) (sa : Nat) (tr : Nat) (qe : Nat) (x1 : Int32) (x2 : Int32) : Met l yX11_entry (.code yX11_entry cX11_entry 4 (some .int) :: tb) ({ frames := 3, cells := 0, slots := 0, locals := 71 }) (va_Pc [.ref h0, .int x1, .int x2] (PW (dC, dI) sz [(h0, .inr (11, [.ref ta, .ref oa, .ref da, .ref ka, .ref ea, .ref pa, .ref ha, .ref la, .ref sa])), (ta, .inr (0, [.ref tr, .int 0, .int 0])), (da, .inr (2, [.ref qe, .int 0]))] [])) (va_Qi (fun (r : Int32) (_ : Unit) => r = (-1)) (fun _ T9 => QW (dC, dI) (va_A [(h0, .inr (11, [.ref ta, .ref oa, .ref da, .ref ka, .ref ea, .ref pa, .ref ha, .ref la, .ref sa])), (ta, .inr (0, [.ref tr, .int 0, .int 0])), (da, .inr (2, [.ref qe, .int 0]))] sz) [] [] T9) (va_A [(h0, .inr (11, [.ref ta, .ref oa, .ref da, .ref ka, .ref ea, .ref pa, .ref ha, .ref la, .ref sa])), (ta, .inr (0, [.ref tr, .int 0, .int 0])), (da, .inr (2, [.ref qe, .int 0]))] sz)) 0 0 (va_A [(h0, .inr (11, [.ref ta, .ref oa, .ref da, .ref ka, .ref ea, .ref pa, .ref ha, .ref la, .ref sa])), (ta, .inr (0, [.ref tr, .int 0, .int 0])), (da, .inr (2, [.ref qe, .int 0]))] sz) := by
  refine Met.ofW (cc := cX11_entry) (maxL := 4) (ret := (some .int)) (by decide) rfl ?_
  intro p e s m args below meth c s₁ B hml hv
  obtain ⟨rfl, hsz, hP, hK, hD0, hE⟩ := hv
  have hx := B.exec
  have hb := B.bytes
  have hr := B.returns
  have hts : ∀ w ∈ tb, w.before _ s = true := fun w h => atoms_spec (ws := .code yX11_entry cX11_entry 4 (some .int) :: tb) B.pre w (List.mem_cons_of_mem _ h)
  have hown : s.vm.findClass RX11 = some m.cls := findClass_of_methodNamed B.named
  have hlocks := B.notSynchronized
  subst hsz
  have hD := hD0.self (sz := s.heap.size)
  generalize hAe : va_A [(h0, .inr (11, [.ref ta, .ref oa, .ref da, .ref ka, .ref ea, .ref pa, .ref ha, .ref la, .ref sa])), (ta, .inr (0, [.ref tr, .int 0, .int 0])), (da, .inr (2, [.ref qe, .int 0]))] s.heap.size = A at hD ⊢
  have hA : ∀ q : Nat, s.heap.size ≤ q → A q := fun q h => by rw [← hAe]; exact Or.inr h
  have hS : va_S A s.heap s.heap [] := va_S.rf
  have hP : va_P (dC, dI) vwCl [(h0, .inr (11, [.ref ta, .ref oa, .ref da, .ref ka, .ref ea, .ref pa, .ref ha, .ref la, .ref sa])), (ta, .inr (0, [.ref tr, .int 0, .int 0])), (da, .inr (2, [.ref qe, .int 0]))] s.heap := hP
  have hl := lv_entry ([.ref h0, .int x1, .int x2]) (n := 4) (Nat.le_of_ble_eq_true rfl)
  rw [lg_entry_eq]
  generalize (lg_sl ([.ref h0, .int x1, .int x2]) ++ List.replicate (4 - (lg_sl ([.ref h0, .int x1, .int x2])).length) Slot.unset).toArray = ls at hl ⊢
  have hl : lv_has ls 4 [(0, .ref h0), (1, .int x1), (2, .int x2)] := hl
  refine lv_aload_n hx hb dX11_entry_0 rfl (lv_at hl 0 rfl) ?_
  refine va_get (D := (dC, dI)) (ci := 11) (v := .ref da) (C := RX11) (T := TX11) (N := 9) hx hb hts it_11 hown hK hP 0 rfl rfl 2 (by decide) (hts _ kt_140) (fun _ h9 => h9) rfl dX11_entry_1 ?_
  refine lv_iload_n hx hb dX11_entry_4 rfl (lv_at hl 1 rfl) ?_
  refine lv_iload_n hx hb dX11_entry_5 rfl (lv_at hl 2 rfl) ?_
  refine lv_aload_n hx hb dX11_entry_6 rfl (lv_at hl 0 rfl) ?_
  refine va_get (D := (dC, dI)) (ci := 11) (v := .ref ta) (C := RX11) (T := TX11) (N := 9) hx hb hts it_11 hown hK hP 0 rfl rfl 0 (by decide) (hts _ kt_132) (fun _ h9 => h9) rfl dX11_entry_7 ?_
  have hPc := hP.sub (ws' := [(da, .inr (2, [.ref qe, .int 0])), (ta, .inr (0, [.ref tr, .int 0, .int 0]))]) [2, 1] rfl
  have hDc := hD.sub (ws' := [(da, .inr (2, [.ref qe, .int 0])), (ta, .inr (0, [.ref tr, .int 0, .int 0]))]) [2, 1] (by decide) rfl
  have hKc := hK.sub (tys' := []) [] rfl
  have hFc := va_free (wc := [(da, .inr (2, [.ref qe, .int 0])), (ta, .inr (0, [.ref tr, .int 0, .int 0]))]) hD hS hA [2, 1] rfl
  refine va_calli (va_runV (As := [.int x1, .int x2, .ref ta]) (rest := []) ⟨hx, hb, hml, hown, hts⟩ (c_X2_take l dC dI s.heap.size da qe ta tr x1 x2 ) ⟨callB_of 3 hts (gi kt_214) rfl rfl rfl (hts _ kt_136) (hts _ kt_215) (by decide +kernel) ⟨Nat.le_of_ble_eq_true rfl, Nat.le_of_ble_eq_true rfl⟩, (hts _ kt_216), (hts _ kt_217)⟩ ⟨fun a U g mk q => ⟨q.1, PW.calling q.2⟩, va_recv hKc hPc (ci := 2) (q0 := 0) rfl rfl, fun U hU hW => ⟨rfl, PW.mk hU hW hPc hKc hDc hE⟩⟩ rfl rfl hl.1 rfl (lv_room (Nat.le_of_ble_eq_true rfl)) dX11_entry_10 ⟨by show _ + 0 ≤ 0; omega, by show _ + 0 ≤ 0; omega⟩) hS (fun q _ h => hFc q h) hFc (fun r_1 u t H1 locs ht hvm hw hB hz1 hk1 hS => ?_)
  have hB1 := hB
  obtain ⟨hP, hD, hK⟩ := QW.join (wr := [(h0, .inr (11, [.ref ta, .ref oa, .ref da, .ref ka, .ref ea, .ref pa, .ref ha, .ref la, .ref sa]))]) hP hD hK [2, 1] [0] rfl rfl (by decide) (by decide) hk1 hFc ht hvm hB1
  generalize H1 = H at hP hS ⊢
  have hK : va_K (dC, dI) vwCl [] s := hK.sub [] rfl
  have hP : va_P (dC, dI) vwCl [(h0, .inr (11, [.ref ta, .ref oa, .ref da, .ref ka, .ref ea, .ref pa, .ref ha, .ref la, .ref sa])), (da, .inr (2, [.ref qe, .int 0])), (ta, .inr (0, [.ref tr, .int 0, .int 0]))] H := hP
  have hD : va_D A [(h0, .inr (11, [.ref ta, .ref oa, .ref da, .ref ka, .ref ea, .ref pa, .ref ha, .ref la, .ref sa])), (da, .inr (2, [.ref qe, .int 0])), (ta, .inr (0, [.ref tr, .int 0, .int 0]))] := hD
  have hw : r_1 = (-1) := hw
  subst hw
  refine lv_istore_n (lv' := [(3, .int (-1)), (0, .ref h0), (1, .int x1), (2, .int x2)]) hx hb dX11_entry_13 rfl hl (by decide) rfl (fun ls hl => ?_)
  refine lv_aload_n hx hb dX11_entry_14 rfl (lv_at hl 1 rfl) ?_
  refine va_get (D := (dC, dI)) (ci := 11) (v := .ref ta) (C := RX11) (T := TX11) (N := 9) hx hb hts it_11 hown hK hP 0 rfl rfl 0 (by decide) (hts _ kt_132) (fun _ h9 => h9) rfl dX11_entry_15 ?_
  have hPc := hP.sub (ws' := [(ta, .inr (0, [.ref tr, .int 0, .int 0]))]) [2] rfl
  have hDc := hD.sub (ws' := [(ta, .inr (0, [.ref tr, .int 0, .int 0]))]) [2] (by decide) rfl
  have hKc := hK.sub (tys' := []) [] rfl
  have hFc := va_free (wc := [(ta, .inr (0, [.ref tr, .int 0, .int 0]))]) hD hS hA [2] rfl
  refine va_callv (va_runV (As := []) (rest := []) ⟨hx, hb, hml, hown, hts⟩ (c_X0_clear l dC dI H.size ta tr 0 0 ) ⟨callB_of 0 hts (gi kt_178) rfl rfl rfl (hts _ kt_10) (hts _ kt_218) (by decide +kernel) ⟨Nat.le_of_ble_eq_true rfl, Nat.le_of_ble_eq_true rfl⟩, (hts _ kt_180), (hts _ kt_181)⟩ ⟨fun a U g mk q => ⟨q.1, PW.calling q.2⟩, va_recv hKc hPc (ci := 0) (q0 := 0) rfl rfl, fun U hU hW => ⟨rfl, PW.mk hU hW hPc hKc hDc hE⟩⟩ rfl rfl hl.1 rfl (lv_room (Nat.le_of_ble_eq_true rfl)) dX11_entry_18 ⟨by show _ + 0 ≤ 0; omega, by show _ + 0 ≤ 0; omega⟩) hS (fun q _ h => hFc q h) hFc (fun u t H1 locs ht hvm hw hB hz1 hk1 hS => ?_)
  have hB1 := hB
  obtain ⟨hP, hD, hK⟩ := QW.join (wr := [(h0, .inr (11, [.ref ta, .ref oa, .ref da, .ref ka, .ref ea, .ref pa, .ref ha, .ref la, .ref sa])), (da, .inr (2, [.ref qe, .int 0]))]) hP hD hK [2] [0, 1] rfl rfl (by decide) (by decide) hk1 hFc ht hvm hB1
  generalize H1 = H at hP hS ⊢
  have hK : va_K (dC, dI) vwCl [] s := hK.sub [] rfl
  have hP : va_P (dC, dI) vwCl [(h0, .inr (11, [.ref ta, .ref oa, .ref da, .ref ka, .ref ea, .ref pa, .ref ha, .ref la, .ref sa])), (da, .inr (2, [.ref qe, .int 0])), (ta, .inr (0, [.ref tr, .int 0, .int 0]))] H := hP
  have hD : va_D A [(h0, .inr (11, [.ref ta, .ref oa, .ref da, .ref ka, .ref ea, .ref pa, .ref ha, .ref la, .ref sa])), (da, .inr (2, [.ref qe, .int 0])), (ta, .inr (0, [.ref tr, .int 0, .int 0]))] := hD
  refine lv_iload_n hx hb dX11_entry_21 rfl (lv_at hl 0 rfl) ?_
  have hP9 := hP.sub (ws' := []) [] rfl
  have hD9 := hD.sub (ws' := []) [] (by decide) rfl
  have hK9 := hK.sub (tys' := []) [] rfl
  refine W.widen (k := 0) (n := 0) (by omega) (by omega) ?_
  exact W.iret (v := (-1)) hx hb hr (fun t ht hW => ⟨⟨(-1), (), rfl, rfl, QW.mk ht hW hP9 hK9 hD9⟩, hS.F ht⟩) hS.2.2 dX11_entry_22
set_option maxHeartbeats 4000000 in
set_option maxRecDepth 100000 in
theorem c_X11_forget (l : Launch) (dC : Nat → ClassId) (dI : Nat → Nat → Nat) (sz : Nat) (h0 : Nat) (ta : Nat) (oa : Nat) (da : Nat) (ka : Nat) (ea : Nat) (pa : Nat) (ha : Nat) (la : Nat) (sa : Nat) (qe : Nat) : Met l yX11_forget (.code yX11_forget cX11_forget 1 (some .int) :: tb) ({ frames := 1, cells := 0, slots := 0, locals := 21 }) (va_Pc [.ref h0] (PW (dC, dI) sz [(h0, .inr (11, [.ref ta, .ref oa, .ref da, .ref ka, .ref ea, .ref pa, .ref ha, .ref la, .ref sa])), (da, .inr (2, [.ref qe, .int 0]))] [])) (va_Qi (fun (r : Int32) (_ : Unit) => r = 0) (fun _ T9 => QW (dC, dI) (va_A [(h0, .inr (11, [.ref ta, .ref oa, .ref da, .ref ka, .ref ea, .ref pa, .ref ha, .ref la, .ref sa])), (da, .inr (2, [.ref qe, .int 0]))] sz) [] [] T9) (va_A [(h0, .inr (11, [.ref ta, .ref oa, .ref da, .ref ka, .ref ea, .ref pa, .ref ha, .ref la, .ref sa])), (da, .inr (2, [.ref qe, .int 0]))] sz)) 0 0 (va_A [(h0, .inr (11, [.ref ta, .ref oa, .ref da, .ref ka, .ref ea, .ref pa, .ref ha, .ref la, .ref sa])), (da, .inr (2, [.ref qe, .int 0]))] sz) := by
  refine Met.ofW (cc := cX11_forget) (maxL := 1) (ret := (some .int)) (by decide) rfl ?_
  intro p e s m args below meth c s₁ B hml hv
  obtain ⟨rfl, hsz, hP, hK, hD0, hE⟩ := hv
  have hx := B.exec
  have hb := B.bytes
  have hr := B.returns
  have hts : ∀ w ∈ tb, w.before _ s = true := fun w h => atoms_spec (ws := .code yX11_forget cX11_forget 1 (some .int) :: tb) B.pre w (List.mem_cons_of_mem _ h)
  have hown : s.vm.findClass RX11 = some m.cls := findClass_of_methodNamed B.named
  have hlocks := B.notSynchronized
  subst hsz
  have hD := hD0.self (sz := s.heap.size)
  generalize hAe : va_A [(h0, .inr (11, [.ref ta, .ref oa, .ref da, .ref ka, .ref ea, .ref pa, .ref ha, .ref la, .ref sa])), (da, .inr (2, [.ref qe, .int 0]))] s.heap.size = A at hD ⊢
  have hA : ∀ q : Nat, s.heap.size ≤ q → A q := fun q h => by rw [← hAe]; exact Or.inr h
  have hS : va_S A s.heap s.heap [] := va_S.rf
  have hP : va_P (dC, dI) vwCl [(h0, .inr (11, [.ref ta, .ref oa, .ref da, .ref ka, .ref ea, .ref pa, .ref ha, .ref la, .ref sa])), (da, .inr (2, [.ref qe, .int 0]))] s.heap := hP
  have hl := lv_entry ([.ref h0]) (n := 1) (Nat.le_of_ble_eq_true rfl)
  rw [lg_entry_eq]
  generalize (lg_sl ([.ref h0]) ++ List.replicate (1 - (lg_sl ([.ref h0])).length) Slot.unset).toArray = ls at hl ⊢
  have hl : lv_has ls 1 [(0, .ref h0)] := hl
  refine lv_aload_n hx hb dX11_forget_0 rfl (lv_at hl 0 rfl) ?_
  refine va_get (D := (dC, dI)) (ci := 11) (v := .ref da) (C := RX11) (T := TX11) (N := 9) hx hb hts it_11 hown hK hP 0 rfl rfl 2 (by decide) (hts _ kt_140) (fun _ h9 => h9) rfl dX11_forget_1 ?_
  have hPc := hP.sub (ws' := [(da, .inr (2, [.ref qe, .int 0]))]) [1] rfl
  have hDc := hD.sub (ws' := [(da, .inr (2, [.ref qe, .int 0]))]) [1] (by decide) rfl
  have hKc := hK.sub (tys' := []) [] rfl
  have hFc := va_free (wc := [(da, .inr (2, [.ref qe, .int 0]))]) hD hS hA [1] rfl
  refine va_calli (va_runV (As := []) (rest := []) ⟨hx, hb, hml, hown, hts⟩ (c_X2_clear l dC dI s.heap.size da qe ) ⟨callB_of 0 hts (gi kt_219) rfl rfl rfl (hts _ kt_136) (hts _ kt_220) (by decide +kernel) ⟨Nat.le_of_ble_eq_true rfl, Nat.le_of_ble_eq_true rfl⟩, (hts _ kt_221), (hts _ kt_222)⟩ ⟨fun a U g mk q => ⟨q.1, PW.calling q.2⟩, va_recv hKc hPc (ci := 2) (q0 := 0) rfl rfl, fun U hU hW => ⟨rfl, PW.mk hU hW hPc hKc hDc hE⟩⟩ rfl rfl hl.1 rfl (lv_room (Nat.le_of_ble_eq_true rfl)) dX11_forget_4 ⟨by show _ + 0 ≤ 0; omega, by show _ + 0 ≤ 0; omega⟩) hS (fun q _ h => hFc q h) hFc (fun r_1 u t H1 locs ht hvm hw hB hz1 hk1 hS => ?_)
  have hB1 := hB
  obtain ⟨hP, hD, hK⟩ := QW.join (wr := [(h0, .inr (11, [.ref ta, .ref oa, .ref da, .ref ka, .ref ea, .ref pa, .ref ha, .ref la, .ref sa]))]) hP hD hK [1] [0] rfl rfl (by decide) (by decide) hk1 hFc ht hvm hB1
  generalize H1 = H at hP hS ⊢
  have hK : va_K (dC, dI) vwCl [] s := hK.sub [] rfl
  have hP : va_P (dC, dI) vwCl [(h0, .inr (11, [.ref ta, .ref oa, .ref da, .ref ka, .ref ea, .ref pa, .ref ha, .ref la, .ref sa])), (da, .inr (2, [.ref qe, .int 0]))] H := hP
  have hD : va_D A [(h0, .inr (11, [.ref ta, .ref oa, .ref da, .ref ka, .ref ea, .ref pa, .ref ha, .ref la, .ref sa])), (da, .inr (2, [.ref qe, .int 0]))] := hD
  have hw : r_1 = 0 := hw
  subst hw
  have hP9 := hP.sub (ws' := []) [] rfl
  have hD9 := hD.sub (ws' := []) [] (by decide) rfl
  have hK9 := hK.sub (tys' := []) [] rfl
  refine W.widen (k := 0) (n := 0) (by omega) (by omega) ?_
  exact W.iret (v := 0) hx hb hr (fun t ht hW => ⟨⟨0, (), rfl, rfl, QW.mk ht hW hP9 hK9 hD9⟩, hS.F ht⟩) hS.2.2 dX11_forget_7
set_option maxHeartbeats 4000000 in
set_option maxRecDepth 100000 in
theorem c_X11_sender (l : Launch) (dC : Nat → ClassId) (dI : Nat → Nat → Nat) (sz : Nat) (h0 : Nat) (ta : Nat) (oa : Nat) (da : Nat) (ka : Nat) (ea : Nat) (pa : Nat) (ha : Nat) (la : Nat) (sa : Nat) (tr : Nat) (qd : Nat) (q1 : Nat) (q2 : Nat) (q3 : Nat) (q4 : Nat) (q5 : Nat) (q6 : Nat) (x1 : Int32) : Met l yX11_sender (.code yX11_sender cX11_sender 3 (some .int) :: tb) ({ frames := 3, cells := 0, slots := 0, locals := 68 }) (va_Pc [.ref h0, .int x1] (PW (dC, dI) sz [(h0, .inr (11, [.ref ta, .ref oa, .ref da, .ref ka, .ref ea, .ref pa, .ref ha, .ref la, .ref sa])), (ta, .inr (0, [.ref tr, .int 0, .int 0])), (ka, .inr (1, [.ref qd, .ref q1, .ref q2, .ref q3, .ref q4, .ref q5, .ref q6, .int 0, .int 0, .int 0, .int 0]))] [])) (va_Qi (fun (r : Int32) (_ : Unit) => r = (-1)) (fun _ T9 => QW (dC, dI) (va_A [(h0, .inr (11, [.ref ta, .ref oa, .ref da, .ref ka, .ref ea, .ref pa, .ref ha, .ref la, .ref sa])), (ta, .inr (0, [.ref tr, .int 0, .int 0])), (ka, .inr (1, [.ref qd, .ref q1, .ref q2, .ref q3, .ref q4, .ref q5, .ref q6, .int 0, .int 0, .int 0, .int 0]))] sz) [] [] T9) (va_A [(h0, .inr (11, [.ref ta, .ref oa, .ref da, .ref ka, .ref ea, .ref pa, .ref ha, .ref la, .ref sa])), (ta, .inr (0, [.ref tr, .int 0, .int 0])), (ka, .inr (1, [.ref qd, .ref q1, .ref q2, .ref q3, .ref q4, .ref q5, .ref q6, .int 0, .int 0, .int 0, .int 0]))] sz)) 0 0 (va_A [(h0, .inr (11, [.ref ta, .ref oa, .ref da, .ref ka, .ref ea, .ref pa, .ref ha, .ref la, .ref sa])), (ta, .inr (0, [.ref tr, .int 0, .int 0])), (ka, .inr (1, [.ref qd, .ref q1, .ref q2, .ref q3, .ref q4, .ref q5, .ref q6, .int 0, .int 0, .int 0, .int 0]))] sz) := by
  refine Met.ofW (cc := cX11_sender) (maxL := 3) (ret := (some .int)) (by decide) rfl ?_
  intro p e s m args below meth c s₁ B hml hv
  obtain ⟨rfl, hsz, hP, hK, hD0, hE⟩ := hv
  have hx := B.exec
  have hb := B.bytes
  have hr := B.returns
  have hts : ∀ w ∈ tb, w.before _ s = true := fun w h => atoms_spec (ws := .code yX11_sender cX11_sender 3 (some .int) :: tb) B.pre w (List.mem_cons_of_mem _ h)
  have hown : s.vm.findClass RX11 = some m.cls := findClass_of_methodNamed B.named
  have hlocks := B.notSynchronized
  subst hsz
  have hD := hD0.self (sz := s.heap.size)
  generalize hAe : va_A [(h0, .inr (11, [.ref ta, .ref oa, .ref da, .ref ka, .ref ea, .ref pa, .ref ha, .ref la, .ref sa])), (ta, .inr (0, [.ref tr, .int 0, .int 0])), (ka, .inr (1, [.ref qd, .ref q1, .ref q2, .ref q3, .ref q4, .ref q5, .ref q6, .int 0, .int 0, .int 0, .int 0]))] s.heap.size = A at hD ⊢
  have hA : ∀ q : Nat, s.heap.size ≤ q → A q := fun q h => by rw [← hAe]; exact Or.inr h
  have hS : va_S A s.heap s.heap [] := va_S.rf
  have hP : va_P (dC, dI) vwCl [(h0, .inr (11, [.ref ta, .ref oa, .ref da, .ref ka, .ref ea, .ref pa, .ref ha, .ref la, .ref sa])), (ta, .inr (0, [.ref tr, .int 0, .int 0])), (ka, .inr (1, [.ref qd, .ref q1, .ref q2, .ref q3, .ref q4, .ref q5, .ref q6, .int 0, .int 0, .int 0, .int 0]))] s.heap := hP
  have hl := lv_entry ([.ref h0, .int x1]) (n := 3) (Nat.le_of_ble_eq_true rfl)
  rw [lg_entry_eq]
  generalize (lg_sl ([.ref h0, .int x1]) ++ List.replicate (3 - (lg_sl ([.ref h0, .int x1])).length) Slot.unset).toArray = ls at hl ⊢
  have hl : lv_has ls 3 [(0, .ref h0), (1, .int x1)] := hl
  refine lv_aload_n hx hb dX11_sender_0 rfl (lv_at hl 0 rfl) ?_
  refine va_get (D := (dC, dI)) (ci := 11) (v := .ref ka) (C := RX11) (T := TX11) (N := 9) hx hb hts it_11 hown hK hP 0 rfl rfl 3 (by decide) (hts _ kt_147) (fun _ h9 => h9) rfl dX11_sender_1 ?_
  refine lv_iload_n hx hb dX11_sender_4 rfl (lv_at hl 1 rfl) ?_
  refine lv_aload_n hx hb dX11_sender_5 rfl (lv_at hl 0 rfl) ?_
  refine va_get (D := (dC, dI)) (ci := 11) (v := .ref ta) (C := RX11) (T := TX11) (N := 9) hx hb hts it_11 hown hK hP 0 rfl rfl 0 (by decide) (hts _ kt_132) (fun _ h9 => h9) rfl dX11_sender_6 ?_
  have hPc := hP.sub (ws' := [(ka, .inr (1, [.ref qd, .ref q1, .ref q2, .ref q3, .ref q4, .ref q5, .ref q6, .int 0, .int 0, .int 0, .int 0])), (ta, .inr (0, [.ref tr, .int 0, .int 0]))]) [2, 1] rfl
  have hDc := hD.sub (ws' := [(ka, .inr (1, [.ref qd, .ref q1, .ref q2, .ref q3, .ref q4, .ref q5, .ref q6, .int 0, .int 0, .int 0, .int 0])), (ta, .inr (0, [.ref tr, .int 0, .int 0]))]) [2, 1] (by decide) rfl
  have hKc := hK.sub (tys' := []) [] rfl
  have hFc := va_free (wc := [(ka, .inr (1, [.ref qd, .ref q1, .ref q2, .ref q3, .ref q4, .ref q5, .ref q6, .int 0, .int 0, .int 0, .int 0])), (ta, .inr (0, [.ref tr, .int 0, .int 0]))]) hD hS hA [2, 1] rfl
  refine va_calli (va_runV (As := [.int x1, .ref ta]) (rest := []) ⟨hx, hb, hml, hown, hts⟩ (c_X1_takeSender l dC dI s.heap.size ka ta tr qd q1 q2 q3 q4 q5 q6 x1 ) ⟨callB_of 2 hts (gi kt_223) rfl rfl rfl (hts _ kt_143) (hts _ kt_224) (by decide +kernel) ⟨Nat.le_of_ble_eq_true rfl, Nat.le_of_ble_eq_true rfl⟩, (hts _ kt_225), (hts _ kt_226)⟩ ⟨fun a U g mk q => ⟨q.1, PW.calling q.2⟩, va_recv hKc hPc (ci := 1) (q0 := 0) rfl rfl, fun U hU hW => ⟨rfl, PW.mk hU hW hPc hKc hDc hE⟩⟩ rfl rfl hl.1 rfl (lv_room (Nat.le_of_ble_eq_true rfl)) dX11_sender_9 ⟨by show _ + 0 ≤ 0; omega, by show _ + 0 ≤ 0; omega⟩) hS (fun q _ h => hFc q h) hFc (fun r_1 u t H1 locs ht hvm hw hB hz1 hk1 hS => ?_)
  have hB1 := hB
  obtain ⟨hP, hD, hK⟩ := QW.join (wr := [(h0, .inr (11, [.ref ta, .ref oa, .ref da, .ref ka, .ref ea, .ref pa, .ref ha, .ref la, .ref sa]))]) hP hD hK [2, 1] [0] rfl rfl (by decide) (by decide) hk1 hFc ht hvm hB1
  generalize H1 = H at hP hS ⊢
  have hK : va_K (dC, dI) vwCl [] s := hK.sub [] rfl
  have hP : va_P (dC, dI) vwCl [(h0, .inr (11, [.ref ta, .ref oa, .ref da, .ref ka, .ref ea, .ref pa, .ref ha, .ref la, .ref sa])), (ka, .inr (1, [.ref qd, .ref q1, .ref q2, .ref q3, .ref q4, .ref q5, .ref q6, .int 0, .int 0, .int 0, .int 0])), (ta, .inr (0, [.ref tr, .int 0, .int 0]))] H := hP
  have hD : va_D A [(h0, .inr (11, [.ref ta, .ref oa, .ref da, .ref ka, .ref ea, .ref pa, .ref ha, .ref la, .ref sa])), (ka, .inr (1, [.ref qd, .ref q1, .ref q2, .ref q3, .ref q4, .ref q5, .ref q6, .int 0, .int 0, .int 0, .int 0])), (ta, .inr (0, [.ref tr, .int 0, .int 0]))] := hD
  have hw : r_1 = 0 := hw
  subst hw
  refine lv_istore_n (lv' := [(2, .int 0), (0, .ref h0), (1, .int x1)]) hx hb dX11_sender_12 rfl hl (by decide) rfl (fun ls hl => ?_)
  refine lv_aload_n hx hb dX11_sender_13 rfl (lv_at hl 1 rfl) ?_
  refine va_get (D := (dC, dI)) (ci := 11) (v := .ref ta) (C := RX11) (T := TX11) (N := 9) hx hb hts it_11 hown hK hP 0 rfl rfl 0 (by decide) (hts _ kt_132) (fun _ h9 => h9) rfl dX11_sender_14 ?_
  have hPc := hP.sub (ws' := [(ta, .inr (0, [.ref tr, .int 0, .int 0]))]) [2] rfl
  have hDc := hD.sub (ws' := [(ta, .inr (0, [.ref tr, .int 0, .int 0]))]) [2] (by decide) rfl
  have hKc := hK.sub (tys' := []) [] rfl
  have hFc := va_free (wc := [(ta, .inr (0, [.ref tr, .int 0, .int 0]))]) hD hS hA [2] rfl
  refine va_callv (va_runV (As := []) (rest := []) ⟨hx, hb, hml, hown, hts⟩ (c_X0_clear l dC dI H.size ta tr 0 0 ) ⟨callB_of 0 hts (gi kt_178) rfl rfl rfl (hts _ kt_10) (hts _ kt_218) (by decide +kernel) ⟨Nat.le_of_ble_eq_true rfl, Nat.le_of_ble_eq_true rfl⟩, (hts _ kt_180), (hts _ kt_181)⟩ ⟨fun a U g mk q => ⟨q.1, PW.calling q.2⟩, va_recv hKc hPc (ci := 0) (q0 := 0) rfl rfl, fun U hU hW => ⟨rfl, PW.mk hU hW hPc hKc hDc hE⟩⟩ rfl rfl hl.1 rfl (lv_room (Nat.le_of_ble_eq_true rfl)) dX11_sender_17 ⟨by show _ + 0 ≤ 0; omega, by show _ + 0 ≤ 0; omega⟩) hS (fun q _ h => hFc q h) hFc (fun u t H1 locs ht hvm hw hB hz1 hk1 hS => ?_)
  have hB1 := hB
  obtain ⟨hP, hD, hK⟩ := QW.join (wr := [(h0, .inr (11, [.ref ta, .ref oa, .ref da, .ref ka, .ref ea, .ref pa, .ref ha, .ref la, .ref sa])), (ka, .inr (1, [.ref qd, .ref q1, .ref q2, .ref q3, .ref q4, .ref q5, .ref q6, .int 0, .int 0, .int 0, .int 0]))]) hP hD hK [2] [0, 1] rfl rfl (by decide) (by decide) hk1 hFc ht hvm hB1
  generalize H1 = H at hP hS ⊢
  have hK : va_K (dC, dI) vwCl [] s := hK.sub [] rfl
  have hP : va_P (dC, dI) vwCl [(h0, .inr (11, [.ref ta, .ref oa, .ref da, .ref ka, .ref ea, .ref pa, .ref ha, .ref la, .ref sa])), (ka, .inr (1, [.ref qd, .ref q1, .ref q2, .ref q3, .ref q4, .ref q5, .ref q6, .int 0, .int 0, .int 0, .int 0])), (ta, .inr (0, [.ref tr, .int 0, .int 0]))] H := hP
  have hD : va_D A [(h0, .inr (11, [.ref ta, .ref oa, .ref da, .ref ka, .ref ea, .ref pa, .ref ha, .ref la, .ref sa])), (ka, .inr (1, [.ref qd, .ref q1, .ref q2, .ref q3, .ref q4, .ref q5, .ref q6, .int 0, .int 0, .int 0, .int 0])), (ta, .inr (0, [.ref tr, .int 0, .int 0]))] := hD
  refine lv_iload_n hx hb dX11_sender_20 rfl (lv_at hl 0 rfl) ?_
  refine lv_if_eq (tgt := 28) hx hb dX11_sender_21 (by decide) (fun c_3 => ?_) (fun c_3 => absurd (by decide) c_3)
  refine lv_iconst (v := (-1)) hx hb dX11_sender_28 (by decide) ?_
  have hP9 := hP.sub (ws' := []) [] rfl
  have hD9 := hD.sub (ws' := []) [] (by decide) rfl
  have hK9 := hK.sub (tys' := []) [] rfl
  refine W.widen (k := 0) (n := 0) (by omega) (by omega) ?_
  exact W.iret (v := (-1)) hx hb hr (fun t ht hW => ⟨⟨(-1), (), rfl, rfl, QW.mk ht hW hP9 hK9 hD9⟩, hS.F ht⟩) hS.2.2 dX11_sender_29
set_option maxHeartbeats 4000000 in
set_option maxRecDepth 100000 in
theorem c_X11_permission (l : Launch) (dC : Nat → ClassId) (dI : Nat → Nat → Nat) (sz : Nat) (h0 : Nat) (ta : Nat) (oa : Nat) (da : Nat) (ka : Nat) (ea : Nat) (pa : Nat) (ha : Nat) (la : Nat) (sa : Nat) (qd : Nat) (q1 : Nat) (q2 : Nat) (q3 : Nat) (q4 : Nat) (q5 : Nat) (q6 : Nat) : Met l yX11_permission (.code yX11_permission cX11_permission 1 (some .int) :: tb) ({ frames := 0, cells := 0, slots := 0, locals := 0 }) (va_Pc [.ref h0] (PW (dC, dI) sz [(h0, .inr (11, [.ref ta, .ref oa, .ref da, .ref ka, .ref ea, .ref pa, .ref ha, .ref la, .ref sa])), (ka, .inr (1, [.ref qd, .ref q1, .ref q2, .ref q3, .ref q4, .ref q5, .ref q6, .int 0, .int 0, .int 0, .int 0]))] [])) (va_Qi (fun (r : Int32) (_ : Unit) => r = (-1)) (fun _ T9 => QW (dC, dI) (va_A [(h0, .inr (11, [.ref ta, .ref oa, .ref da, .ref ka, .ref ea, .ref pa, .ref ha, .ref la, .ref sa])), (ka, .inr (1, [.ref qd, .ref q1, .ref q2, .ref q3, .ref q4, .ref q5, .ref q6, .int 0, .int 0, .int 0, .int 0]))] sz) [] [] T9) (va_A [(h0, .inr (11, [.ref ta, .ref oa, .ref da, .ref ka, .ref ea, .ref pa, .ref ha, .ref la, .ref sa])), (ka, .inr (1, [.ref qd, .ref q1, .ref q2, .ref q3, .ref q4, .ref q5, .ref q6, .int 0, .int 0, .int 0, .int 0]))] sz)) 0 0 (va_A [(h0, .inr (11, [.ref ta, .ref oa, .ref da, .ref ka, .ref ea, .ref pa, .ref ha, .ref la, .ref sa])), (ka, .inr (1, [.ref qd, .ref q1, .ref q2, .ref q3, .ref q4, .ref q5, .ref q6, .int 0, .int 0, .int 0, .int 0]))] sz) := by
  refine Met.ofW (cc := cX11_permission) (maxL := 1) (ret := (some .int)) (by decide) rfl ?_
  intro p e s m args below meth c s₁ B hml hv
  obtain ⟨rfl, hsz, hP, hK, hD0, hE⟩ := hv
  have hx := B.exec
  have hb := B.bytes
  have hr := B.returns
  have hts : ∀ w ∈ tb, w.before _ s = true := fun w h => atoms_spec (ws := .code yX11_permission cX11_permission 1 (some .int) :: tb) B.pre w (List.mem_cons_of_mem _ h)
  have hown : s.vm.findClass RX11 = some m.cls := findClass_of_methodNamed B.named
  have hlocks := B.notSynchronized
  subst hsz
  have hD := hD0.self (sz := s.heap.size)
  generalize hAe : va_A [(h0, .inr (11, [.ref ta, .ref oa, .ref da, .ref ka, .ref ea, .ref pa, .ref ha, .ref la, .ref sa])), (ka, .inr (1, [.ref qd, .ref q1, .ref q2, .ref q3, .ref q4, .ref q5, .ref q6, .int 0, .int 0, .int 0, .int 0]))] s.heap.size = A at hD ⊢
  have hA : ∀ q : Nat, s.heap.size ≤ q → A q := fun q h => by rw [← hAe]; exact Or.inr h
  have hS : va_S A s.heap s.heap [] := va_S.rf
  have hP : va_P (dC, dI) vwCl [(h0, .inr (11, [.ref ta, .ref oa, .ref da, .ref ka, .ref ea, .ref pa, .ref ha, .ref la, .ref sa])), (ka, .inr (1, [.ref qd, .ref q1, .ref q2, .ref q3, .ref q4, .ref q5, .ref q6, .int 0, .int 0, .int 0, .int 0]))] s.heap := hP
  have hl := lv_entry ([.ref h0]) (n := 1) (Nat.le_of_ble_eq_true rfl)
  rw [lg_entry_eq]
  generalize (lg_sl ([.ref h0]) ++ List.replicate (1 - (lg_sl ([.ref h0])).length) Slot.unset).toArray = ls at hl ⊢
  have hl : lv_has ls 1 [(0, .ref h0)] := hl
  refine lv_aload_n hx hb dX11_permission_0 rfl (lv_at hl 0 rfl) ?_
  refine va_get (D := (dC, dI)) (ci := 11) (v := .ref ka) (C := RX11) (T := TX11) (N := 9) hx hb hts it_11 hown hK hP 0 rfl rfl 3 (by decide) (hts _ kt_147) (fun _ h9 => h9) rfl dX11_permission_1 ?_
  refine va_getN (D := (dC, dI)) (ci := 1) (v := .int 0) (C := RX1) (T := TX1) (N := 11) hx hb hts it_1 hown hK hP 1 rfl rfl 8 (by decide) (hE.nest kn_10) (fun _ h9 => h9) rfl dX11_permission_4 ?_
  refine lv_if_eq (tgt := 20) hx hb dX11_permission_7 (by decide) (fun c_1 => ?_) (fun c_1 => absurd (by decide) c_1)
  refine lv_iconst (v := (-1)) hx hb dX11_permission_20 (by decide) ?_
  have hP9 := hP.sub (ws' := []) [] rfl
  have hD9 := hD.sub (ws' := []) [] (by decide) rfl
  have hK9 := hK.sub (tys' := []) [] rfl
  refine W.widen (k := 0) (n := 0) (by omega) (by omega) ?_
  exact W.iret (v := (-1)) hx hb hr (fun t ht hW => ⟨⟨(-1), (), rfl, rfl, QW.mk ht hW hP9 hK9 hD9⟩, hS.F ht⟩) hS.2.2 dX11_permission_21
theorem lk_none {x : Int32} (a b : Int) (h0 : ¬ x.toInt = 0) (h1 : ¬ x.toInt = 1) : Op.lookupswitch.offset [(0, a), (1, b)] 43 x.toInt = 43 := by
  simp [Op.lookupswitch.offset, h0, h1, Ne.symm, eq_comm]
  <;> omega
set_option maxHeartbeats 4000000 in
set_option maxRecDepth 100000 in
theorem c_X11_cost (l : Launch) (dC : Nat → ClassId) (dI : Nat → Nat → Nat) (sz : Nat) (h0 : Nat) (ta : Nat) (oa : Nat) (da : Nat) (ka : Nat) (ea : Nat) (pa : Nat) (ha : Nat) (la : Nat) (sa : Nat) (qd : Nat) (q1 : Nat) (q2 : Nat) (q3 : Nat) (q4 : Nat) (q5 : Nat) (q6 : Nat) (x1 : Int32) : Met l yX11_cost (.code yX11_cost cX11_cost 2 (some .int) :: tb) ({ frames := 0, cells := 0, slots := 0, locals := 0 }) (va_Pc [.ref h0, .int x1] (PW (dC, dI) sz [(h0, .inr (11, [.ref ta, .ref oa, .ref da, .ref ka, .ref ea, .ref pa, .ref ha, .ref la, .ref sa])), (ka, .inr (1, [.ref qd, .ref q1, .ref q2, .ref q3, .ref q4, .ref q5, .ref q6, .int 0, .int 0, .int 0, .int 0]))] [])) (va_Qi (fun (r : Int32) (_ : Unit) => r = (if x1 = 0 ∨ x1 = 1 then 0 else (-1))) (fun _ T9 => QW (dC, dI) (va_A [(h0, .inr (11, [.ref ta, .ref oa, .ref da, .ref ka, .ref ea, .ref pa, .ref ha, .ref la, .ref sa])), (ka, .inr (1, [.ref qd, .ref q1, .ref q2, .ref q3, .ref q4, .ref q5, .ref q6, .int 0, .int 0, .int 0, .int 0]))] sz) [] [] T9) (va_A [(h0, .inr (11, [.ref ta, .ref oa, .ref da, .ref ka, .ref ea, .ref pa, .ref ha, .ref la, .ref sa])), (ka, .inr (1, [.ref qd, .ref q1, .ref q2, .ref q3, .ref q4, .ref q5, .ref q6, .int 0, .int 0, .int 0, .int 0]))] sz)) 0 0 (va_A [(h0, .inr (11, [.ref ta, .ref oa, .ref da, .ref ka, .ref ea, .ref pa, .ref ha, .ref la, .ref sa])), (ka, .inr (1, [.ref qd, .ref q1, .ref q2, .ref q3, .ref q4, .ref q5, .ref q6, .int 0, .int 0, .int 0, .int 0]))] sz) := by
  refine Met.ofW (cc := cX11_cost) (maxL := 2) (ret := (some .int)) (by decide) rfl ?_
  intro p e s m args below meth c s₁ B hml hv
  obtain ⟨rfl, hsz, hP, hK, hD0, hE⟩ := hv
  have hx := B.exec
  have hb := B.bytes
  have hr := B.returns
  have hts : ∀ w ∈ tb, w.before _ s = true := fun w h => atoms_spec (ws := .code yX11_cost cX11_cost 2 (some .int) :: tb) B.pre w (List.mem_cons_of_mem _ h)
  have hown : s.vm.findClass RX11 = some m.cls := findClass_of_methodNamed B.named
  have hlocks := B.notSynchronized
  subst hsz
  have hD := hD0.self (sz := s.heap.size)
  generalize hAe : va_A [(h0, .inr (11, [.ref ta, .ref oa, .ref da, .ref ka, .ref ea, .ref pa, .ref ha, .ref la, .ref sa])), (ka, .inr (1, [.ref qd, .ref q1, .ref q2, .ref q3, .ref q4, .ref q5, .ref q6, .int 0, .int 0, .int 0, .int 0]))] s.heap.size = A at hD ⊢
  have hA : ∀ q : Nat, s.heap.size ≤ q → A q := fun q h => by rw [← hAe]; exact Or.inr h
  have hS : va_S A s.heap s.heap [] := va_S.rf
  have hP : va_P (dC, dI) vwCl [(h0, .inr (11, [.ref ta, .ref oa, .ref da, .ref ka, .ref ea, .ref pa, .ref ha, .ref la, .ref sa])), (ka, .inr (1, [.ref qd, .ref q1, .ref q2, .ref q3, .ref q4, .ref q5, .ref q6, .int 0, .int 0, .int 0, .int 0]))] s.heap := hP
  have hl := lv_entry ([.ref h0, .int x1]) (n := 2) (Nat.le_of_ble_eq_true rfl)
  rw [lg_entry_eq]
  generalize (lg_sl ([.ref h0, .int x1]) ++ List.replicate (2 - (lg_sl ([.ref h0, .int x1])).length) Slot.unset).toArray = ls at hl ⊢
  have hl : lv_has ls 2 [(0, .ref h0), (1, .int x1)] := hl
  refine lv_iload_n hx hb dX11_cost_0 rfl (lv_at hl 1 rfl) ?_
  by_cases c_1 : x1 = 0
  ·
    refine lv_lookup (off := 27) (tgt := 28) hx hb dX11_cost_1 (by decide) (by rw [c_1]; decide) (by decide) ?_
    refine lv_aload_n hx hb dX11_cost_28 rfl (lv_at hl 0 rfl) ?_
    refine va_get (D := (dC, dI)) (ci := 11) (v := .ref ka) (C := RX11) (T := TX11) (N := 9) hx hb hts it_11 hown hK hP 0 rfl rfl 3 (by decide) (hts _ kt_147) (fun _ h9 => h9) rfl dX11_cost_29 ?_
    refine va_getN (D := (dC, dI)) (ci := 1) (v := .int 0) (C := RX1) (T := TX1) (N := 11) hx hb hts it_1 hown hK hP 1 rfl rfl 9 (by decide) (hE.nest kn_11) (fun _ h9 => h9) rfl dX11_cost_32 ?_
    have hP9 := hP.sub (ws' := []) [] rfl
    have hD9 := hD.sub (ws' := []) [] (by decide) rfl
    have hK9 := hK.sub (tys' := []) [] rfl
    refine W.widen (k := 0) (n := 0) (by omega) (by omega) ?_
    exact W.iret (v := 0) hx hb hr (fun t ht hW => ⟨⟨0, (), rfl, (by rw [if_pos (Or.inl c_1)]), QW.mk ht hW hP9 hK9 hD9⟩, hS.F ht⟩) hS.2.2 dX11_cost_35
  ·
    by_cases c_2 : x1 = 1
    ·
      refine lv_lookup (off := 35) (tgt := 36) hx hb dX11_cost_1 (by decide) (by rw [c_2]; decide) (by decide) ?_
      refine lv_aload_n hx hb dX11_cost_36 rfl (lv_at hl 0 rfl) ?_
      refine va_get (D := (dC, dI)) (ci := 11) (v := .ref ka) (C := RX11) (T := TX11) (N := 9) hx hb hts it_11 hown hK hP 0 rfl rfl 3 (by decide) (hts _ kt_147) (fun _ h9 => h9) rfl dX11_cost_37 ?_
      refine va_getN (D := (dC, dI)) (ci := 1) (v := .int 0) (C := RX1) (T := TX1) (N := 11) hx hb hts it_1 hown hK hP 1 rfl rfl 10 (by decide) (hE.nest kn_12) (fun _ h9 => h9) rfl dX11_cost_40 ?_
      have hP9 := hP.sub (ws' := []) [] rfl
      have hD9 := hD.sub (ws' := []) [] (by decide) rfl
      have hK9 := hK.sub (tys' := []) [] rfl
      refine W.widen (k := 0) (n := 0) (by omega) (by omega) ?_
      exact W.iret (v := 0) hx hb hr (fun t ht hW => ⟨⟨0, (), rfl, (by rw [if_pos (Or.inr c_2)]), QW.mk ht hW hP9 hK9 hD9⟩, hS.F ht⟩) hS.2.2 dX11_cost_43
    ·
      refine lv_lookup (off := 43) (tgt := 44) hx hb dX11_cost_1 (by decide) (lk_none _ _ (fun h => c_1 (Int32.toInt_inj.mp h)) (fun h => c_2 (Int32.toInt_inj.mp h))) (by decide) ?_
      refine lv_iconst (v := (-1)) hx hb dX11_cost_44 (by decide) ?_
      have hP9 := hP.sub (ws' := []) [] rfl
      have hD9 := hD.sub (ws' := []) [] (by decide) rfl
      have hK9 := hK.sub (tys' := []) [] rfl
      refine W.widen (k := 0) (n := 0) (by omega) (by omega) ?_
      exact W.iret (v := (-1)) hx hb hr (fun t ht hW => ⟨⟨(-1), (), rfl, (by rw [if_neg (fun h => h.elim c_1 c_2)]), QW.mk ht hW hP9 hK9 hD9⟩, hS.F ht⟩) hS.2.2 dX11_cost_45
set_option maxHeartbeats 4000000 in
set_option maxRecDepth 100000 in
theorem c_X11_message (l : Launch) (dC : Nat → ClassId) (dI : Nat → Nat → Nat) (sz : Nat) (h0 : Nat) (ta : Nat) (oa : Nat) (da : Nat) (ka : Nat) (ea : Nat) (pa : Nat) (ha : Nat) (la : Nat) (sa : Nat) (tr : Nat) (px : Nat) (p1 : Nat) (p2 : Nat) (p3 : Nat) (pr : Nat) (cp : ClassId) : Met l yX11_message (.code yX11_message cX11_message 3 (some .int) :: tb) ({ frames := 4, cells := 0, slots := 0, locals := 92 }) (va_Pc [.ref h0] (PW (dC, dI) sz [(h0, .inr (11, [.ref ta, .ref oa, .ref da, .ref ka, .ref ea, .ref pa, .ref ha, .ref la, .ref sa])), (ta, .inr (0, [.ref tr, .int 0, .int 0])), (sa, .inr (4, [.ref px, .ref p1, .ref p2, .ref p3, .int 0, .int 0])), (px, .inr (0, [.ref pr, .int 0, .int 0])), (pr, .inl (cp, 3000, .inl (fun _ => 0)))] [(cp, .int)])) (va_Qi (fun (r : Int32) (_ : Unit) => r = (-1)) (fun _ T9 => QW (dC, dI) (va_A [(h0, .inr (11, [.ref ta, .ref oa, .ref da, .ref ka, .ref ea, .ref pa, .ref ha, .ref la, .ref sa])), (ta, .inr (0, [.ref tr, .int 0, .int 0])), (sa, .inr (4, [.ref px, .ref p1, .ref p2, .ref p3, .int 0, .int 0])), (px, .inr (0, [.ref pr, .int 0, .int 0])), (pr, .inl (cp, 3000, .inl (fun _ => 0)))] sz) [] [] T9) (va_A [(h0, .inr (11, [.ref ta, .ref oa, .ref da, .ref ka, .ref ea, .ref pa, .ref ha, .ref la, .ref sa])), (ta, .inr (0, [.ref tr, .int 0, .int 0])), (sa, .inr (4, [.ref px, .ref p1, .ref p2, .ref p3, .int 0, .int 0])), (px, .inr (0, [.ref pr, .int 0, .int 0])), (pr, .inl (cp, 3000, .inl (fun _ => 0)))] sz)) 0 0 (va_A [(h0, .inr (11, [.ref ta, .ref oa, .ref da, .ref ka, .ref ea, .ref pa, .ref ha, .ref la, .ref sa])), (ta, .inr (0, [.ref tr, .int 0, .int 0])), (sa, .inr (4, [.ref px, .ref p1, .ref p2, .ref p3, .int 0, .int 0])), (px, .inr (0, [.ref pr, .int 0, .int 0])), (pr, .inl (cp, 3000, .inl (fun _ => 0)))] sz) := by
  refine Met.ofW (cc := cX11_message) (maxL := 3) (ret := (some .int)) (by decide) rfl ?_
  intro p e s m args below meth c s₁ B hml hv
  obtain ⟨rfl, hsz, hP, hK, hD0, hE⟩ := hv
  have hx := B.exec
  have hb := B.bytes
  have hr := B.returns
  have hts : ∀ w ∈ tb, w.before _ s = true := fun w h => atoms_spec (ws := .code yX11_message cX11_message 3 (some .int) :: tb) B.pre w (List.mem_cons_of_mem _ h)
  have hown : s.vm.findClass RX11 = some m.cls := findClass_of_methodNamed B.named
  have hlocks := B.notSynchronized
  subst hsz
  have hD := hD0.self (sz := s.heap.size)
  generalize hAe : va_A [(h0, .inr (11, [.ref ta, .ref oa, .ref da, .ref ka, .ref ea, .ref pa, .ref ha, .ref la, .ref sa])), (ta, .inr (0, [.ref tr, .int 0, .int 0])), (sa, .inr (4, [.ref px, .ref p1, .ref p2, .ref p3, .int 0, .int 0])), (px, .inr (0, [.ref pr, .int 0, .int 0])), (pr, .inl (cp, 3000, .inl (fun _ => 0)))] s.heap.size = A at hD ⊢
  have hA : ∀ q : Nat, s.heap.size ≤ q → A q := fun q h => by rw [← hAe]; exact Or.inr h
  have hS : va_S A s.heap s.heap [] := va_S.rf
  have hP : va_P (dC, dI) vwCl [(h0, .inr (11, [.ref ta, .ref oa, .ref da, .ref ka, .ref ea, .ref pa, .ref ha, .ref la, .ref sa])), (ta, .inr (0, [.ref tr, .int 0, .int 0])), (sa, .inr (4, [.ref px, .ref p1, .ref p2, .ref p3, .int 0, .int 0])), (px, .inr (0, [.ref pr, .int 0, .int 0])), (pr, .inl (cp, 3000, .inl (fun _ => 0)))] s.heap := hP
  have hl := lv_entry ([.ref h0]) (n := 3) (Nat.le_of_ble_eq_true rfl)
  rw [lg_entry_eq]
  generalize (lg_sl ([.ref h0]) ++ List.replicate (3 - (lg_sl ([.ref h0])).length) Slot.unset).toArray = ls at hl ⊢
  have hl : lv_has ls 3 [(0, .ref h0)] := hl
  refine lv_aload_n hx hb dX11_message_0 rfl (lv_at hl 0 rfl) ?_
  refine va_get (D := (dC, dI)) (ci := 11) (v := .ref sa) (C := RX11) (T := TX11) (N := 9) hx hb hts it_11 hown hK hP 0 rfl rfl 8 (by decide) (hts _ kt_170) (fun _ h9 => h9) rfl dX11_message_1 ?_
  refine lv_aload_n hx hb dX11_message_4 rfl (lv_at hl 0 rfl) ?_
  refine va_get (D := (dC, dI)) (ci := 11) (v := .ref ta) (C := RX11) (T := TX11) (N := 9) hx hb hts it_11 hown hK hP 0 rfl rfl 0 (by decide) (hts _ kt_132) (fun _ h9 => h9) rfl dX11_message_5 ?_
  have hPc := hP.sub (ws' := [(sa, .inr (4, [.ref px, .ref p1, .ref p2, .ref p3, .int 0, .int 0])), (px, .inr (0, [.ref pr, .int 0, .int 0])), (pr, .inl (cp, 3000, .inl (fun _ => 0))), (ta, .inr (0, [.ref tr, .int 0, .int 0]))]) [2, 3, 4, 1] rfl
  have hDc := hD.sub (ws' := [(sa, .inr (4, [.ref px, .ref p1, .ref p2, .ref p3, .int 0, .int 0])), (px, .inr (0, [.ref pr, .int 0, .int 0])), (pr, .inl (cp, 3000, .inl (fun _ => 0))), (ta, .inr (0, [.ref tr, .int 0, .int 0]))]) [2, 3, 4, 1] (by decide) rfl
  have hKc := hK.sub (tys' := [(cp, .int)]) [0] rfl
  have hFc := va_free (wc := [(sa, .inr (4, [.ref px, .ref p1, .ref p2, .ref p3, .int 0, .int 0])), (px, .inr (0, [.ref pr, .int 0, .int 0])), (pr, .inl (cp, 3000, .inl (fun _ => 0))), (ta, .inr (0, [.ref tr, .int 0, .int 0]))]) hD hS hA [2, 3, 4, 1] rfl
  refine va_calli (va_runV (As := [.ref ta]) (rest := []) ⟨hx, hb, hml, hown, hts⟩ (c_X4_read l dC dI s.heap.size sa px p1 p2 p3 pr ta tr cp ) ⟨callB_of 1 hts (gi kt_227) rfl rfl rfl (hts _ kt_166) (hts _ kt_228) (by decide +kernel) ⟨Nat.le_of_ble_eq_true rfl, Nat.le_of_ble_eq_true rfl⟩, (hts _ kt_229), (hts _ kt_230)⟩ ⟨fun a U g mk q => ⟨q.1, PW.calling q.2⟩, va_recv hKc hPc (ci := 4) (q0 := 0) rfl rfl, fun U hU hW => ⟨rfl, PW.mk hU hW hPc hKc hDc hE⟩⟩ rfl rfl hl.1 rfl (lv_room (Nat.le_of_ble_eq_true rfl)) dX11_message_8 ⟨by show _ + 0 ≤ 0; omega, by show _ + 0 ≤ 0; omega⟩) hS (fun q _ h => hFc q h) hFc (fun r_1 u t H1 locs ht hvm hw hB hz1 hk1 hS => ?_)
  have hB1 := hB
  obtain ⟨hP, hD, hK⟩ := QW.join (wr := [(h0, .inr (11, [.ref ta, .ref oa, .ref da, .ref ka, .ref ea, .ref pa, .ref ha, .ref la, .ref sa]))]) hP hD hK [2, 3, 4, 1] [0] rfl rfl (by decide) (by decide) hk1 hFc ht hvm hB1
  generalize H1 = H at hP hS ⊢
  have hK : va_K (dC, dI) vwCl [(cp, .int)] s := hK.sub [0] rfl
  have hP : va_P (dC, dI) vwCl [(h0, .inr (11, [.ref ta, .ref oa, .ref da, .ref ka, .ref ea, .ref pa, .ref ha, .ref la, .ref sa])), (ta, .inr (0, [.ref tr, .int 0, .int 0]))] H := hP
  have hD : va_D A [(h0, .inr (11, [.ref ta, .ref oa, .ref da, .ref ka, .ref ea, .ref pa, .ref ha, .ref la, .ref sa])), (ta, .inr (0, [.ref tr, .int 0, .int 0]))] := hD
  have hw : r_1 = 0 := hw
  subst hw
  refine lv_istore_n (lv' := [(1, .int 0), (0, .ref h0)]) hx hb dX11_message_11 rfl hl (by decide) rfl (fun ls hl => ?_)
  refine lv_aload_n hx hb dX11_message_12 rfl (lv_at hl 1 rfl) ?_
  refine va_get (D := (dC, dI)) (ci := 11) (v := .ref ta) (C := RX11) (T := TX11) (N := 9) hx hb hts it_11 hown hK hP 0 rfl rfl 0 (by decide) (hts _ kt_132) (fun _ h9 => h9) rfl dX11_message_13 ?_
  have hPc := hP.sub (ws' := [(ta, .inr (0, [.ref tr, .int 0, .int 0]))]) [1] rfl
  have hDc := hD.sub (ws' := [(ta, .inr (0, [.ref tr, .int 0, .int 0]))]) [1] (by decide) rfl
  have hKc := hK.sub (tys' := []) [] rfl
  have hFc := va_free (wc := [(ta, .inr (0, [.ref tr, .int 0, .int 0]))]) hD hS hA [1] rfl
  refine va_callv (va_runV (As := []) (rest := []) ⟨hx, hb, hml, hown, hts⟩ (c_X0_clear l dC dI H.size ta tr 0 0 ) ⟨callB_of 0 hts (gi kt_178) rfl rfl rfl (hts _ kt_10) (hts _ kt_218) (by decide +kernel) ⟨Nat.le_of_ble_eq_true rfl, Nat.le_of_ble_eq_true rfl⟩, (hts _ kt_180), (hts _ kt_181)⟩ ⟨fun a U g mk q => ⟨q.1, PW.calling q.2⟩, va_recv hKc hPc (ci := 0) (q0 := 0) rfl rfl, fun U hU hW => ⟨rfl, PW.mk hU hW hPc hKc hDc hE⟩⟩ rfl rfl hl.1 rfl (lv_room (Nat.le_of_ble_eq_true rfl)) dX11_message_16 ⟨by show _ + 0 ≤ 0; omega, by show _ + 0 ≤ 0; omega⟩) hS (fun q _ h => hFc q h) hFc (fun u t H1 locs ht hvm hw hB hz1 hk1 hS => ?_)
  have hB1 := hB
  obtain ⟨hP, hD, hK⟩ := QW.join (wr := [(h0, .inr (11, [.ref ta, .ref oa, .ref da, .ref ka, .ref ea, .ref pa, .ref ha, .ref la, .ref sa]))]) hP hD hK [1] [0] rfl rfl (by decide) (by decide) hk1 hFc ht hvm hB1
  generalize H1 = H at hP hS ⊢
  have hK : va_K (dC, dI) vwCl [(cp, .int)] s := hK.sub [0] rfl
  have hP : va_P (dC, dI) vwCl [(h0, .inr (11, [.ref ta, .ref oa, .ref da, .ref ka, .ref ea, .ref pa, .ref ha, .ref la, .ref sa])), (ta, .inr (0, [.ref tr, .int 0, .int 0]))] H := hP
  have hD : va_D A [(h0, .inr (11, [.ref ta, .ref oa, .ref da, .ref ka, .ref ea, .ref pa, .ref ha, .ref la, .ref sa])), (ta, .inr (0, [.ref tr, .int 0, .int 0]))] := hD
  refine lv_iload_n hx hb dX11_message_19 rfl (lv_at hl 0 rfl) ?_
  refine lv_if_ne (tgt := 25) hx hb dX11_message_20 (by decide) (fun c_3 => absurd (by decide) c_3) (fun c_3 => ?_)
  refine lv_iconst (v := (-1)) hx hb dX11_message_23 (by decide) ?_
  have hP9 := hP.sub (ws' := []) [] rfl
  have hD9 := hD.sub (ws' := []) [] (by decide) rfl
  have hK9 := hK.sub (tys' := []) [] rfl
  refine W.widen (k := 0) (n := 0) (by omega) (by omega) ?_
  exact W.iret (v := (-1)) hx hb hr (fun t ht hW => ⟨⟨(-1), (), rfl, rfl, QW.mk ht hW hP9 hK9 hD9⟩, hS.F ht⟩) hS.2.2 dX11_message_24
set_option maxHeartbeats 4000000 in
set_option maxRecDepth 100000 in
theorem c_X11_seals (l : Launch) (dC : Nat → ClassId) (dI : Nat → Nat → Nat) (sz : Nat) (h0 : Nat) (ta : Nat) (oa : Nat) (da : Nat) (ka : Nat) (ea : Nat) (pa : Nat) (ha : Nat) (la : Nat) (sa : Nat) (l0 : Nat) (l1 : Nat) (l2 : Nat) (l3 : Nat) : Met l yX11_seals (.code yX11_seals cX11_seals 1 (some .int) :: tb) ({ frames := 1, cells := 0, slots := 0, locals := 23 }) (va_Pc [.ref h0] (PW (dC, dI) sz [(h0, .inr (11, [.ref ta, .ref oa, .ref da, .ref ka, .ref ea, .ref pa, .ref ha, .ref la, .ref sa])), (la, .inr (4, [.ref l0, .ref l1, .ref l2, .ref l3, .int 0, .int 0]))] [])) (va_Qi (fun (r : Int32) (_ : Unit) => r = 0) (fun _ T9 => QW (dC, dI) (va_A [(h0, .inr (11, [.ref ta, .ref oa, .ref da, .ref ka, .ref ea, .ref pa, .ref ha, .ref la, .ref sa])), (la, .inr (4, [.ref l0, .ref l1, .ref l2, .ref l3, .int 0, .int 0]))] sz) [] [] T9) (va_A [(h0, .inr (11, [.ref ta, .ref oa, .ref da, .ref ka, .ref ea, .ref pa, .ref ha, .ref la, .ref sa])), (la, .inr (4, [.ref l0, .ref l1, .ref l2, .ref l3, .int 0, .int 0]))] sz)) 0 0 (va_A [(h0, .inr (11, [.ref ta, .ref oa, .ref da, .ref ka, .ref ea, .ref pa, .ref ha, .ref la, .ref sa])), (la, .inr (4, [.ref l0, .ref l1, .ref l2, .ref l3, .int 0, .int 0]))] sz) := by
  refine Met.ofW (cc := cX11_seals) (maxL := 1) (ret := (some .int)) (by decide) rfl ?_
  intro p e s m args below meth c s₁ B hml hv
  obtain ⟨rfl, hsz, hP, hK, hD0, hE⟩ := hv
  have hx := B.exec
  have hb := B.bytes
  have hr := B.returns
  have hts : ∀ w ∈ tb, w.before _ s = true := fun w h => atoms_spec (ws := .code yX11_seals cX11_seals 1 (some .int) :: tb) B.pre w (List.mem_cons_of_mem _ h)
  have hown : s.vm.findClass RX11 = some m.cls := findClass_of_methodNamed B.named
  have hlocks := B.notSynchronized
  subst hsz
  have hD := hD0.self (sz := s.heap.size)
  generalize hAe : va_A [(h0, .inr (11, [.ref ta, .ref oa, .ref da, .ref ka, .ref ea, .ref pa, .ref ha, .ref la, .ref sa])), (la, .inr (4, [.ref l0, .ref l1, .ref l2, .ref l3, .int 0, .int 0]))] s.heap.size = A at hD ⊢
  have hA : ∀ q : Nat, s.heap.size ≤ q → A q := fun q h => by rw [← hAe]; exact Or.inr h
  have hS : va_S A s.heap s.heap [] := va_S.rf
  have hP : va_P (dC, dI) vwCl [(h0, .inr (11, [.ref ta, .ref oa, .ref da, .ref ka, .ref ea, .ref pa, .ref ha, .ref la, .ref sa])), (la, .inr (4, [.ref l0, .ref l1, .ref l2, .ref l3, .int 0, .int 0]))] s.heap := hP
  have hl := lv_entry ([.ref h0]) (n := 1) (Nat.le_of_ble_eq_true rfl)
  rw [lg_entry_eq]
  generalize (lg_sl ([.ref h0]) ++ List.replicate (1 - (lg_sl ([.ref h0])).length) Slot.unset).toArray = ls at hl ⊢
  have hl : lv_has ls 1 [(0, .ref h0)] := hl
  refine lv_aload_n hx hb dX11_seals_0 rfl (lv_at hl 0 rfl) ?_
  refine va_get (D := (dC, dI)) (ci := 11) (v := .ref la) (C := RX11) (T := TX11) (N := 9) hx hb hts it_11 hown hK hP 0 rfl rfl 7 (by decide) (hts _ kt_169) (fun _ h9 => h9) rfl dX11_seals_1 ?_
  obtain ⟨q_1, hq_1⟩ := hE.str
  refine va_ldcS hx hb hown hq_1 dX11_seals_4 ?_
  have hPc := hP.sub (ws' := [(la, .inr (4, [.ref l0, .ref l1, .ref l2, .ref l3, .int 0, .int 0]))]) [1] rfl
  have hDc := hD.sub (ws' := [(la, .inr (4, [.ref l0, .ref l1, .ref l2, .ref l3, .int 0, .int 0]))]) [1] (by decide) rfl
  have hKc := hK.sub (tys' := []) [] rfl
  have hFc := va_free (wc := [(la, .inr (4, [.ref l0, .ref l1, .ref l2, .ref l3, .int 0, .int 0]))]) hD hS hA [1] rfl
  refine va_calli (va_runV (As := [.ref q_1]) (rest := []) ⟨hx, hb, hml, hown, hts⟩ (c_X4_countOf l dC dI s.heap.size la l0 l1 l2 l3 q_1 ) ⟨callB_of 1 hts (gi kt_231) rfl rfl rfl (hts _ kt_166) (hts _ kt_232) (by decide +kernel) ⟨Nat.le_of_ble_eq_true rfl, Nat.le_of_ble_eq_true rfl⟩, (hts _ kt_233), (hts _ kt_234)⟩ ⟨fun a U g mk q => ⟨q.1, PW.calling q.2⟩, va_recv hKc hPc (ci := 4) (q0 := 0) rfl rfl, fun U hU hW => ⟨rfl, PW.mk hU hW hPc hKc hDc hE⟩⟩ rfl rfl hl.1 rfl (lv_room (Nat.le_of_ble_eq_true rfl)) dX11_seals_6 ⟨by show _ + 0 ≤ 0; omega, by show _ + 0 ≤ 0; omega⟩) hS (fun q _ h => hFc q h) hFc (fun r_2 u t H1 locs ht hvm hw hB hz1 hk1 hS => ?_)
  have hB1 := hB
  obtain ⟨hP, hD, hK⟩ := QW.join (wr := [(h0, .inr (11, [.ref ta, .ref oa, .ref da, .ref ka, .ref ea, .ref pa, .ref ha, .ref la, .ref sa]))]) hP hD hK [1] [0] rfl rfl (by decide) (by decide) hk1 hFc ht hvm hB1
  generalize H1 = H at hP hS ⊢
  have hK : va_K (dC, dI) vwCl [] s := hK.sub [] rfl
  have hP : va_P (dC, dI) vwCl [(h0, .inr (11, [.ref ta, .ref oa, .ref da, .ref ka, .ref ea, .ref pa, .ref ha, .ref la, .ref sa])), (la, .inr (4, [.ref l0, .ref l1, .ref l2, .ref l3, .int 0, .int 0]))] H := hP
  have hD : va_D A [(h0, .inr (11, [.ref ta, .ref oa, .ref da, .ref ka, .ref ea, .ref pa, .ref ha, .ref la, .ref sa])), (la, .inr (4, [.ref l0, .ref l1, .ref l2, .ref l3, .int 0, .int 0]))] := hD
  have hw : r_2 = 0 := hw
  subst hw
  have hP9 := hP.sub (ws' := []) [] rfl
  have hD9 := hD.sub (ws' := []) [] (by decide) rfl
  have hK9 := hK.sub (tys' := []) [] rfl
  refine W.widen (k := 0) (n := 0) (by omega) (by omega) ?_
  exact W.iret (v := 0) hx hb hr (fun t ht hW => ⟨⟨0, (), rfl, rfl, QW.mk ht hW hP9 hK9 hD9⟩, hS.F ht⟩) hS.2.2 dX11_seals_9
set_option maxHeartbeats 4000000 in
set_option maxRecDepth 100000 in
theorem c_X11_sealed (l : Launch) (dC : Nat → ClassId) (dI : Nat → Nat → Nat) (sz : Nat) (h0 : Nat) (ta : Nat) (oa : Nat) (da : Nat) (ka : Nat) (ea : Nat) (pa : Nat) (ha : Nat) (la : Nat) (sa : Nat) (l0 : Nat) (l1 : Nat) (l2 : Nat) (l3 : Nat) (x1 : Int32) (x2 : Int32) : Met l yX11_sealed (.code yX11_sealed cX11_sealed 4 (some .int) :: tb) ({ frames := 1, cells := 0, slots := 0, locals := 24 }) (va_Pc [.ref h0, .int x1, .int x2] (PW (dC, dI) sz [(h0, .inr (11, [.ref ta, .ref oa, .ref da, .ref ka, .ref ea, .ref pa, .ref ha, .ref la, .ref sa])), (la, .inr (4, [.ref l0, .ref l1, .ref l2, .ref l3, .int 0, .int 0]))] [])) (va_Qi (fun (r : Int32) (_ : Unit) => r = (if x2 < 0 then (-1) else (-2))) (fun _ T9 => QW (dC, dI) (va_A [(h0, .inr (11, [.ref ta, .ref oa, .ref da, .ref ka, .ref ea, .ref pa, .ref ha, .ref la, .ref sa])), (la, .inr (4, [.ref l0, .ref l1, .ref l2, .ref l3, .int 0, .int 0]))] sz) [] [] T9) (va_A [(h0, .inr (11, [.ref ta, .ref oa, .ref da, .ref ka, .ref ea, .ref pa, .ref ha, .ref la, .ref sa])), (la, .inr (4, [.ref l0, .ref l1, .ref l2, .ref l3, .int 0, .int 0]))] sz)) 0 0 (va_A [(h0, .inr (11, [.ref ta, .ref oa, .ref da, .ref ka, .ref ea, .ref pa, .ref ha, .ref la, .ref sa])), (la, .inr (4, [.ref l0, .ref l1, .ref l2, .ref l3, .int 0, .int 0]))] sz) := by
  refine Met.ofW (cc := cX11_sealed) (maxL := 4) (ret := (some .int)) (by decide) rfl ?_
  intro p e s m args below meth c s₁ B hml hv
  obtain ⟨rfl, hsz, hP, hK, hD0, hE⟩ := hv
  have hx := B.exec
  have hb := B.bytes
  have hr := B.returns
  have hts : ∀ w ∈ tb, w.before _ s = true := fun w h => atoms_spec (ws := .code yX11_sealed cX11_sealed 4 (some .int) :: tb) B.pre w (List.mem_cons_of_mem _ h)
  have hown : s.vm.findClass RX11 = some m.cls := findClass_of_methodNamed B.named
  have hlocks := B.notSynchronized
  subst hsz
  have hD := hD0.self (sz := s.heap.size)
  generalize hAe : va_A [(h0, .inr (11, [.ref ta, .ref oa, .ref da, .ref ka, .ref ea, .ref pa, .ref ha, .ref la, .ref sa])), (la, .inr (4, [.ref l0, .ref l1, .ref l2, .ref l3, .int 0, .int 0]))] s.heap.size = A at hD ⊢
  have hA : ∀ q : Nat, s.heap.size ≤ q → A q := fun q h => by rw [← hAe]; exact Or.inr h
  have hS : va_S A s.heap s.heap [] := va_S.rf
  have hP : va_P (dC, dI) vwCl [(h0, .inr (11, [.ref ta, .ref oa, .ref da, .ref ka, .ref ea, .ref pa, .ref ha, .ref la, .ref sa])), (la, .inr (4, [.ref l0, .ref l1, .ref l2, .ref l3, .int 0, .int 0]))] s.heap := hP
  have hl := lv_entry ([.ref h0, .int x1, .int x2]) (n := 4) (Nat.le_of_ble_eq_true rfl)
  rw [lg_entry_eq]
  generalize (lg_sl ([.ref h0, .int x1, .int x2]) ++ List.replicate (4 - (lg_sl ([.ref h0, .int x1, .int x2])).length) Slot.unset).toArray = ls at hl ⊢
  have hl : lv_has ls 4 [(0, .ref h0), (1, .int x1), (2, .int x2)] := hl
  refine lv_iload_n hx hb dX11_sealed_0 rfl (lv_at hl 2 rfl) ?_
  refine lv_if_ge (tgt := 6) hx hb dX11_sealed_1 (by decide) (fun c_1 => ?_) (fun c_1 => ?_)
  ·
    refine lv_aload_n hx hb dX11_sealed_6 rfl (lv_at hl 0 rfl) ?_
    refine va_get (D := (dC, dI)) (ci := 11) (v := .ref la) (C := RX11) (T := TX11) (N := 9) hx hb hts it_11 hown hK hP 0 rfl rfl 7 (by decide) (hts _ kt_169) (fun _ h9 => h9) rfl dX11_sealed_7 ?_
    obtain ⟨q_2, hq_2⟩ := hE.str
    refine va_ldcS hx hb hown hq_2 dX11_sealed_10 ?_
    refine lv_iload_n hx hb dX11_sealed_12 rfl (lv_at hl 1 rfl) ?_
    have hPc := hP.sub (ws' := [(la, .inr (4, [.ref l0, .ref l1, .ref l2, .ref l3, .int 0, .int 0]))]) [1] rfl
    have hDc := hD.sub (ws' := [(la, .inr (4, [.ref l0, .ref l1, .ref l2, .ref l3, .int 0, .int 0]))]) [1] (by decide) rfl
    have hKc := hK.sub (tys' := []) [] rfl
    have hFc := va_free (wc := [(la, .inr (4, [.ref l0, .ref l1, .ref l2, .ref l3, .int 0, .int 0]))]) hD hS hA [1] rfl
    refine va_calli (va_runV (As := [.ref q_2, .int x1]) (rest := []) ⟨hx, hb, hml, hown, hts⟩ (c_X4_fieldOf l dC dI s.heap.size la l0 l1 l2 l3 q_2 x1 ) ⟨callB_of 2 hts (gi kt_235) rfl rfl rfl (hts _ kt_166) (hts _ kt_236) (by decide +kernel) ⟨Nat.le_of_ble_eq_true rfl, Nat.le_of_ble_eq_true rfl⟩, (hts _ kt_237), (hts _ kt_238)⟩ ⟨fun a U g mk q => ⟨q.1, PW.calling q.2⟩, va_recv hKc hPc (ci := 4) (q0 := 0) rfl rfl, fun U hU hW => ⟨rfl, PW.mk hU hW hPc hKc hDc hE⟩⟩ rfl rfl hl.1 rfl (lv_room (Nat.le_of_ble_eq_true rfl)) dX11_sealed_13 ⟨by show _ + 0 ≤ 0; omega, by show _ + 0 ≤ 0; omega⟩) hS (fun q _ h => hFc q h) hFc (fun r_3 u t H1 locs ht hvm hw hB hz1 hk1 hS => ?_)
    have hB1 := hB
    obtain ⟨hP, hD, hK⟩ := QW.join (wr := [(h0, .inr (11, [.ref ta, .ref oa, .ref da, .ref ka, .ref ea, .ref pa, .ref ha, .ref la, .ref sa]))]) hP hD hK [1] [0] rfl rfl (by decide) (by decide) hk1 hFc ht hvm hB1
    generalize H1 = H at hP hS ⊢
    have hK : va_K (dC, dI) vwCl [] s := hK.sub [] rfl
    have hP : va_P (dC, dI) vwCl [(h0, .inr (11, [.ref ta, .ref oa, .ref da, .ref ka, .ref ea, .ref pa, .ref ha, .ref la, .ref sa])), (la, .inr (4, [.ref l0, .ref l1, .ref l2, .ref l3, .int 0, .int 0]))] H := hP
    have hD : va_D A [(h0, .inr (11, [.ref ta, .ref oa, .ref da, .ref ka, .ref ea, .ref pa, .ref ha, .ref la, .ref sa])), (la, .inr (4, [.ref l0, .ref l1, .ref l2, .ref l3, .int 0, .int 0]))] := hD
    have hw : r_3 = (-1) := hw
    subst hw
    refine lv_istore_n (lv' := [(3, .int (-1)), (0, .ref h0), (1, .int x1), (2, .int x2)]) hx hb dX11_sealed_16 rfl hl (by decide) rfl (fun ls hl => ?_)
    refine lv_iload_n hx hb dX11_sealed_17 rfl (lv_at hl 0 rfl) ?_
    refine lv_if_ge (tgt := 26) hx hb dX11_sealed_18 (by decide) (fun c_4 => absurd c_4 (by decide)) (fun c_4 => ?_)
    refine lv_bipush (v := (-2)) hx hb dX11_sealed_21 (by decide) ?_
    refine lv_goto (tgt := 39) hx hb dX11_sealed_23 (by decide) ?_
    have hP9 := hP.sub (ws' := []) [] rfl
    have hD9 := hD.sub (ws' := []) [] (by decide) rfl
    have hK9 := hK.sub (tys' := []) [] rfl
    refine W.widen (k := 0) (n := 0) (by omega) (by omega) ?_
    exact W.iret (v := (-2)) hx hb hr (fun t ht hW => ⟨⟨(-2), (), rfl, (by rw [if_neg (Int32.not_lt.mpr c_1)]), QW.mk ht hW hP9 hK9 hD9⟩, hS.F ht⟩) hS.2.2 dX11_sealed_39
  ·
    refine lv_iconst (v := (-1)) hx hb dX11_sealed_4 (by decide) ?_
    have hP9 := hP.sub (ws' := []) [] rfl
    have hD9 := hD.sub (ws' := []) [] (by decide) rfl
    have hK9 := hK.sub (tys' := []) [] rfl
    refine W.widen (k := 0) (n := 0) (by omega) (by omega) ?_
    exact W.iret (v := (-1)) hx hb hr (fun t ht hW => ⟨⟨(-1), (), rfl, (by rw [if_pos (Int32.not_le.mp c_1)]), QW.mk ht hW hP9 hK9 hD9⟩, hS.F ht⟩) hS.2.2 dX11_sealed_5
set_option maxHeartbeats 4000000 in
set_option maxRecDepth 100000 in
theorem c_X11_plainBody (l : Launch) (dC : Nat → ClassId) (dI : Nat → Nat → Nat) (sz : Nat) (h0 : Nat) (ta : Nat) (oa : Nat) (da : Nat) (ka : Nat) (ea : Nat) (pa : Nat) (ha : Nat) (la : Nat) (sa : Nat) (l0 : Nat) (l1 : Nat) (l2 : Nat) (l3 : Nat) (x1 : Int32) : Met l yX11_plainBody (.code yX11_plainBody cX11_plainBody 2 (some .int) :: tb) ({ frames := 0, cells := 0, slots := 0, locals := 0 }) (va_Pc [.ref h0, .int x1] (PW (dC, dI) sz [(h0, .inr (11, [.ref ta, .ref oa, .ref da, .ref ka, .ref ea, .ref pa, .ref ha, .ref la, .ref sa])), (la, .inr (4, [.ref l0, .ref l1, .ref l2, .ref l3, .int 0, .int 0]))] [])) (va_Qi (fun (r : Int32) (_ : Unit) => r = (-2)) (fun _ T9 => QW (dC, dI) (va_A [(h0, .inr (11, [.ref ta, .ref oa, .ref da, .ref ka, .ref ea, .ref pa, .ref ha, .ref la, .ref sa])), (la, .inr (4, [.ref l0, .ref l1, .ref l2, .ref l3, .int 0, .int 0]))] sz) [] [] T9) (va_A [(h0, .inr (11, [.ref ta, .ref oa, .ref da, .ref ka, .ref ea, .ref pa, .ref ha, .ref la, .ref sa])), (la, .inr (4, [.ref l0, .ref l1, .ref l2, .ref l3, .int 0, .int 0]))] sz)) 0 0 (va_A [(h0, .inr (11, [.ref ta, .ref oa, .ref da, .ref ka, .ref ea, .ref pa, .ref ha, .ref la, .ref sa])), (la, .inr (4, [.ref l0, .ref l1, .ref l2, .ref l3, .int 0, .int 0]))] sz) := by
  refine Met.ofW (cc := cX11_plainBody) (maxL := 2) (ret := (some .int)) (by decide) rfl ?_
  intro p e s m args below meth c s₁ B hml hv
  obtain ⟨rfl, hsz, hP, hK, hD0, hE⟩ := hv
  have hx := B.exec
  have hb := B.bytes
  have hr := B.returns
  have hts : ∀ w ∈ tb, w.before _ s = true := fun w h => atoms_spec (ws := .code yX11_plainBody cX11_plainBody 2 (some .int) :: tb) B.pre w (List.mem_cons_of_mem _ h)
  have hown : s.vm.findClass RX11 = some m.cls := findClass_of_methodNamed B.named
  have hlocks := B.notSynchronized
  subst hsz
  have hD := hD0.self (sz := s.heap.size)
  generalize hAe : va_A [(h0, .inr (11, [.ref ta, .ref oa, .ref da, .ref ka, .ref ea, .ref pa, .ref ha, .ref la, .ref sa])), (la, .inr (4, [.ref l0, .ref l1, .ref l2, .ref l3, .int 0, .int 0]))] s.heap.size = A at hD ⊢
  have hA : ∀ q : Nat, s.heap.size ≤ q → A q := fun q h => by rw [← hAe]; exact Or.inr h
  have hS : va_S A s.heap s.heap [] := va_S.rf
  have hP : va_P (dC, dI) vwCl [(h0, .inr (11, [.ref ta, .ref oa, .ref da, .ref ka, .ref ea, .ref pa, .ref ha, .ref la, .ref sa])), (la, .inr (4, [.ref l0, .ref l1, .ref l2, .ref l3, .int 0, .int 0]))] s.heap := hP
  have hl := lv_entry ([.ref h0, .int x1]) (n := 2) (Nat.le_of_ble_eq_true rfl)
  rw [lg_entry_eq]
  generalize (lg_sl ([.ref h0, .int x1]) ++ List.replicate (2 - (lg_sl ([.ref h0, .int x1])).length) Slot.unset).toArray = ls at hl ⊢
  have hl : lv_has ls 2 [(0, .ref h0), (1, .int x1)] := hl
  refine lv_aload_n hx hb dX11_plainBody_0 rfl (lv_at hl 0 rfl) ?_
  refine va_get (D := (dC, dI)) (ci := 11) (v := .ref la) (C := RX11) (T := TX11) (N := 9) hx hb hts it_11 hown hK hP 0 rfl rfl 7 (by decide) (hts _ kt_169) (fun _ h9 => h9) rfl dX11_plainBody_1 ?_
  refine va_getN (D := (dC, dI)) (ci := 4) (v := .int 0) (C := RX4) (T := TX4) (N := 6) hx hb hts it_4 hown hK hP 1 rfl rfl 4 (by decide) (hE.nest kn_13) (fun _ h9 => h9) rfl dX11_plainBody_4 ?_
  refine lv_if_ne (tgt := 13) hx hb dX11_plainBody_7 (by decide) (fun c_1 => absurd (by decide) c_1) (fun c_1 => ?_)
  refine lv_bipush (v := (-2)) hx hb dX11_plainBody_10 (by decide) ?_
  have hP9 := hP.sub (ws' := []) [] rfl
  have hD9 := hD.sub (ws' := []) [] (by decide) rfl
  have hK9 := hK.sub (tys' := []) [] rfl
  refine W.widen (k := 0) (n := 0) (by omega) (by omega) ?_
  exact W.iret (v := (-2)) hx hb hr (fun t ht hW => ⟨⟨(-2), (), rfl, rfl, QW.mk ht hW hP9 hK9 hD9⟩, hS.F ht⟩) hS.2.2 dX11_plainBody_12
set_option maxHeartbeats 4000000 in
set_option maxRecDepth 100000 in
theorem c_X11_plainField (l : Launch) (dC : Nat → ClassId) (dI : Nat → Nat → Nat) (sz : Nat) (h0 : Nat) (ta : Nat) (oa : Nat) (da : Nat) (ka : Nat) (ea : Nat) (pa : Nat) (ha : Nat) (la : Nat) (sa : Nat) (l0 : Nat) (l1 : Nat) (l2 : Nat) (l3 : Nat) (x1 : Int32) (x2 : Int32) : Met l yX11_plainField (.code yX11_plainField cX11_plainField 3 (some .int) :: tb) ({ frames := 0, cells := 0, slots := 0, locals := 0 }) (va_Pc [.ref h0, .int x1, .int x2] (PW (dC, dI) sz [(h0, .inr (11, [.ref ta, .ref oa, .ref da, .ref ka, .ref ea, .ref pa, .ref ha, .ref la, .ref sa])), (la, .inr (4, [.ref l0, .ref l1, .ref l2, .ref l3, .int 0, .int 0]))] [])) (va_Qi (fun (r : Int32) (_ : Unit) => r = (-2)) (fun _ T9 => QW (dC, dI) (va_A [(h0, .inr (11, [.ref ta, .ref oa, .ref da, .ref ka, .ref ea, .ref pa, .ref ha, .ref la, .ref sa])), (la, .inr (4, [.ref l0, .ref l1, .ref l2, .ref l3, .int 0, .int 0]))] sz) [] [] T9) (va_A [(h0, .inr (11, [.ref ta, .ref oa, .ref da, .ref ka, .ref ea, .ref pa, .ref ha, .ref la, .ref sa])), (la, .inr (4, [.ref l0, .ref l1, .ref l2, .ref l3, .int 0, .int 0]))] sz)) 0 0 (va_A [(h0, .inr (11, [.ref ta, .ref oa, .ref da, .ref ka, .ref ea, .ref pa, .ref ha, .ref la, .ref sa])), (la, .inr (4, [.ref l0, .ref l1, .ref l2, .ref l3, .int 0, .int 0]))] sz) := by
  refine Met.ofW (cc := cX11_plainField) (maxL := 3) (ret := (some .int)) (by decide) rfl ?_
  intro p e s m args below meth c s₁ B hml hv
  obtain ⟨rfl, hsz, hP, hK, hD0, hE⟩ := hv
  have hx := B.exec
  have hb := B.bytes
  have hr := B.returns
  have hts : ∀ w ∈ tb, w.before _ s = true := fun w h => atoms_spec (ws := .code yX11_plainField cX11_plainField 3 (some .int) :: tb) B.pre w (List.mem_cons_of_mem _ h)
  have hown : s.vm.findClass RX11 = some m.cls := findClass_of_methodNamed B.named
  have hlocks := B.notSynchronized
  subst hsz
  have hD := hD0.self (sz := s.heap.size)
  generalize hAe : va_A [(h0, .inr (11, [.ref ta, .ref oa, .ref da, .ref ka, .ref ea, .ref pa, .ref ha, .ref la, .ref sa])), (la, .inr (4, [.ref l0, .ref l1, .ref l2, .ref l3, .int 0, .int 0]))] s.heap.size = A at hD ⊢
  have hA : ∀ q : Nat, s.heap.size ≤ q → A q := fun q h => by rw [← hAe]; exact Or.inr h
  have hS : va_S A s.heap s.heap [] := va_S.rf
  have hP : va_P (dC, dI) vwCl [(h0, .inr (11, [.ref ta, .ref oa, .ref da, .ref ka, .ref ea, .ref pa, .ref ha, .ref la, .ref sa])), (la, .inr (4, [.ref l0, .ref l1, .ref l2, .ref l3, .int 0, .int 0]))] s.heap := hP
  have hl := lv_entry ([.ref h0, .int x1, .int x2]) (n := 3) (Nat.le_of_ble_eq_true rfl)
  rw [lg_entry_eq]
  generalize (lg_sl ([.ref h0, .int x1, .int x2]) ++ List.replicate (3 - (lg_sl ([.ref h0, .int x1, .int x2])).length) Slot.unset).toArray = ls at hl ⊢
  have hl : lv_has ls 3 [(0, .ref h0), (1, .int x1), (2, .int x2)] := hl
  refine lv_iload_n hx hb dX11_plainField_0 rfl (lv_at hl 1 rfl) ?_
  refine lv_if_lt (tgt := 15) hx hb dX11_plainField_1 (by decide) (fun c_1 => ?_) (fun c_1 => ?_)
  ·
    refine lv_bipush (v := (-2)) hx hb dX11_plainField_15 (by decide) ?_
    have hP9 := hP.sub (ws' := []) [] rfl
    have hD9 := hD.sub (ws' := []) [] (by decide) rfl
    have hK9 := hK.sub (tys' := []) [] rfl
    refine W.widen (k := 0) (n := 0) (by omega) (by omega) ?_
    exact W.iret (v := (-2)) hx hb hr (fun t ht hW => ⟨⟨(-2), (), rfl, rfl, QW.mk ht hW hP9 hK9 hD9⟩, hS.F ht⟩) hS.2.2 dX11_plainField_17
  ·
    refine lv_iload_n hx hb dX11_plainField_4 rfl (lv_at hl 1 rfl) ?_
    refine lv_aload_n hx hb dX11_plainField_5 rfl (lv_at hl 0 rfl) ?_
    refine va_get (D := (dC, dI)) (ci := 11) (v := .ref la) (C := RX11) (T := TX11) (N := 9) hx hb hts it_11 hown hK hP 0 rfl rfl 7 (by decide) (hts _ kt_169) (fun _ h9 => h9) rfl dX11_plainField_6 ?_
    refine va_getN (D := (dC, dI)) (ci := 4) (v := .int 0) (C := RX4) (T := TX4) (N := 6) hx hb hts it_4 hown hK hP 1 rfl rfl 4 (by decide) (hE.nest kn_13) (fun _ h9 => h9) rfl dX11_plainField_9 ?_
    refine lv_icmp_lt (tgt := 18) hx hb dX11_plainField_12 (by decide) (fun c_2 => ?_) (fun c_2 => ?_)
    ·
      exact absurd c_2 c_1
    ·
      refine lv_bipush (v := (-2)) hx hb dX11_plainField_15 (by decide) ?_
      have hP9 := hP.sub (ws' := []) [] rfl
      have hD9 := hD.sub (ws' := []) [] (by decide) rfl
      have hK9 := hK.sub (tys' := []) [] rfl
      refine W.widen (k := 0) (n := 0) (by omega) (by omega) ?_
      exact W.iret (v := (-2)) hx hb hr (fun t ht hW => ⟨⟨(-2), (), rfl, rfl, QW.mk ht hW hP9 hK9 hD9⟩, hS.F ht⟩) hS.2.2 dX11_plainField_17
set_option maxHeartbeats 4000000 in
set_option maxRecDepth 100000 in
theorem c_X11_house (l : Launch) (dC : Nat → ClassId) (dI : Nat → Nat → Nat) (sz : Nat) (h0 : Nat) (ta : Nat) (oa : Nat) (da : Nat) (ka : Nat) (ea : Nat) (pa : Nat) (ha : Nat) (la : Nat) (sa : Nat) (tr : Nat) : Met l yX11_house (.code yX11_house cX11_house 1 (some .int) :: tb) ({ frames := 1, cells := 0, slots := 0, locals := 26 }) (va_Pc [.ref h0] (PW (dC, dI) sz [(h0, .inr (11, [.ref ta, .ref oa, .ref da, .ref ka, .ref ea, .ref pa, .ref ha, .ref la, .ref sa])), (ta, .inr (0, [.ref tr, .int 0, .int 0]))] [])) (va_Qi (fun (r : Int32) (_ : Unit) => r = (-1)) (fun _ T9 => QW (dC, dI) (va_A [(h0, .inr (11, [.ref ta, .ref oa, .ref da, .ref ka, .ref ea, .ref pa, .ref ha, .ref la, .ref sa])), (ta, .inr (0, [.ref tr, .int 0, .int 0]))] sz) [] [] T9) (va_A [(h0, .inr (11, [.ref ta, .ref oa, .ref da, .ref ka, .ref ea, .ref pa, .ref ha, .ref la, .ref sa])), (ta, .inr (0, [.ref tr, .int 0, .int 0]))] sz)) 0 0 (va_A [(h0, .inr (11, [.ref ta, .ref oa, .ref da, .ref ka, .ref ea, .ref pa, .ref ha, .ref la, .ref sa])), (ta, .inr (0, [.ref tr, .int 0, .int 0]))] sz) := by
  refine Met.ofW (cc := cX11_house) (maxL := 1) (ret := (some .int)) (by decide) rfl ?_
  intro p e s m args below meth c s₁ B hml hv
  obtain ⟨rfl, hsz, hP, hK, hD0, hE⟩ := hv
  have hx := B.exec
  have hb := B.bytes
  have hr := B.returns
  have hts : ∀ w ∈ tb, w.before _ s = true := fun w h => atoms_spec (ws := .code yX11_house cX11_house 1 (some .int) :: tb) B.pre w (List.mem_cons_of_mem _ h)
  have hown : s.vm.findClass RX11 = some m.cls := findClass_of_methodNamed B.named
  have hlocks := B.notSynchronized
  subst hsz
  have hD := hD0.self (sz := s.heap.size)
  generalize hAe : va_A [(h0, .inr (11, [.ref ta, .ref oa, .ref da, .ref ka, .ref ea, .ref pa, .ref ha, .ref la, .ref sa])), (ta, .inr (0, [.ref tr, .int 0, .int 0]))] s.heap.size = A at hD ⊢
  have hA : ∀ q : Nat, s.heap.size ≤ q → A q := fun q h => by rw [← hAe]; exact Or.inr h
  have hS : va_S A s.heap s.heap [] := va_S.rf
  have hP : va_P (dC, dI) vwCl [(h0, .inr (11, [.ref ta, .ref oa, .ref da, .ref ka, .ref ea, .ref pa, .ref ha, .ref la, .ref sa])), (ta, .inr (0, [.ref tr, .int 0, .int 0]))] s.heap := hP
  have hl := lv_entry ([.ref h0]) (n := 1) (Nat.le_of_ble_eq_true rfl)
  rw [lg_entry_eq]
  generalize (lg_sl ([.ref h0]) ++ List.replicate (1 - (lg_sl ([.ref h0])).length) Slot.unset).toArray = ls at hl ⊢
  have hl : lv_has ls 1 [(0, .ref h0)] := hl
  refine lv_aload_n hx hb dX11_house_0 rfl (lv_at hl 0 rfl) ?_
  refine va_get (D := (dC, dI)) (ci := 11) (v := .ref ta) (C := RX11) (T := TX11) (N := 9) hx hb hts it_11 hown hK hP 0 rfl rfl 0 (by decide) (hts _ kt_132) (fun _ h9 => h9) rfl dX11_house_1 ?_
  refine lv_iconst (v := 0) hx hb dX11_house_4 (by decide) ?_
  refine lv_aload_n hx hb dX11_house_5 rfl (lv_at hl 0 rfl) ?_
  refine va_get (D := (dC, dI)) (ci := 11) (v := .ref ta) (C := RX11) (T := TX11) (N := 9) hx hb hts it_11 hown hK hP 0 rfl rfl 0 (by decide) (hts _ kt_132) (fun _ h9 => h9) rfl dX11_house_6 ?_
  refine va_getN (D := (dC, dI)) (ci := 0) (v := .int 0) (C := RX0) (T := TX0) (N := 3) hx hb hts it_0 hown hK hP 1 rfl rfl 1 (by decide) (hE.nest kn_9) (fun _ h9 => h9) rfl dX11_house_9 ?_
  have hPc := hP.sub (ws' := [(ta, .inr (0, [.ref tr, .int 0, .int 0]))]) [1] rfl
  have hDc := hD.sub (ws' := [(ta, .inr (0, [.ref tr, .int 0, .int 0]))]) [1] (by decide) rfl
  have hKc := hK.sub (tys' := []) [] rfl
  have hFc := va_free (wc := [(ta, .inr (0, [.ref tr, .int 0, .int 0]))]) hD hS hA [1] rfl
  refine va_calli (va_runV (As := [.int 0, .int 0]) (rest := []) ⟨hx, hb, hml, hown, hts⟩ (c_X0_isName l dC dI s.heap.size ta tr ) ⟨callB_of 2 hts (gi kt_198) rfl rfl rfl (hts _ kt_10) (hts _ kt_239) (by decide +kernel) ⟨Nat.le_of_ble_eq_true rfl, Nat.le_of_ble_eq_true rfl⟩, (hts _ kt_200), (hts _ kt_201)⟩ ⟨fun a U g mk q => ⟨q.1, PW.calling q.2⟩, va_recv hKc hPc (ci := 0) (q0 := 0) rfl rfl, fun U hU hW => ⟨rfl, PW.mk hU hW hPc hKc hDc hE⟩⟩ rfl rfl hl.1 rfl (lv_room (Nat.le_of_ble_eq_true rfl)) dX11_house_12 ⟨by show _ + 0 ≤ 0; omega, by show _ + 0 ≤ 0; omega⟩) hS (fun q _ h => hFc q h) hFc (fun r_1 u t H1 locs ht hvm hw hB hz1 hk1 hS => ?_)
  have hB1 := hB
  obtain ⟨hP, hD, hK⟩ := QW.join (wr := [(h0, .inr (11, [.ref ta, .ref oa, .ref da, .ref ka, .ref ea, .ref pa, .ref ha, .ref la, .ref sa]))]) hP hD hK [1] [0] rfl rfl (by decide) (by decide) hk1 hFc ht hvm hB1
  generalize H1 = H at hP hS ⊢
  have hK : va_K (dC, dI) vwCl [] s := hK.sub [] rfl
  have hP : va_P (dC, dI) vwCl [(h0, .inr (11, [.ref ta, .ref oa, .ref da, .ref ka, .ref ea, .ref pa, .ref ha, .ref la, .ref sa])), (ta, .inr (0, [.ref tr, .int 0, .int 0]))] H := hP
  have hD : va_D A [(h0, .inr (11, [.ref ta, .ref oa, .ref da, .ref ka, .ref ea, .ref pa, .ref ha, .ref la, .ref sa])), (ta, .inr (0, [.ref tr, .int 0, .int 0]))] := hD
  have hw : r_1 = 0 := hw
  subst hw
  refine lv_if_ne (tgt := 27) hx hb dX11_house_15 (by decide) (fun c_2 => absurd (by decide) c_2) (fun c_2 => ?_)
  refine lv_aload_n hx hb dX11_house_18 rfl (lv_at hl 0 rfl) ?_
  refine va_get (D := (dC, dI)) (ci := 11) (v := .ref ta) (C := RX11) (T := TX11) (N := 9) hx hb hts it_11 hown hK hP 0 rfl rfl 0 (by decide) (hts _ kt_132) (fun _ h9 => h9) rfl dX11_house_19 ?_
  have hPc := hP.sub (ws' := [(ta, .inr (0, [.ref tr, .int 0, .int 0]))]) [1] rfl
  have hDc := hD.sub (ws' := [(ta, .inr (0, [.ref tr, .int 0, .int 0]))]) [1] (by decide) rfl
  have hKc := hK.sub (tys' := []) [] rfl
  have hFc := va_free (wc := [(ta, .inr (0, [.ref tr, .int 0, .int 0]))]) hD hS hA [1] rfl
  refine va_callv (va_runV (As := []) (rest := []) ⟨hx, hb, hml, hown, hts⟩ (c_X0_clear l dC dI H.size ta tr 0 0 ) ⟨callB_of 0 hts (gi kt_178) rfl rfl rfl (hts _ kt_10) (hts _ kt_218) (by decide +kernel) ⟨Nat.le_of_ble_eq_true rfl, Nat.le_of_ble_eq_true rfl⟩, (hts _ kt_180), (hts _ kt_181)⟩ ⟨fun a U g mk q => ⟨q.1, PW.calling q.2⟩, va_recv hKc hPc (ci := 0) (q0 := 0) rfl rfl, fun U hU hW => ⟨rfl, PW.mk hU hW hPc hKc hDc hE⟩⟩ rfl rfl hl.1 rfl (lv_room (Nat.le_of_ble_eq_true rfl)) dX11_house_22 ⟨by show _ + 0 ≤ 0; omega, by show _ + 0 ≤ 0; omega⟩) hS (fun q _ h => hFc q h) hFc (fun u t H1 locs ht hvm hw hB hz1 hk1 hS => ?_)
  have hB1 := hB
  obtain ⟨hP, hD, hK⟩ := QW.join (wr := [(h0, .inr (11, [.ref ta, .ref oa, .ref da, .ref ka, .ref ea, .ref pa, .ref ha, .ref la, .ref sa]))]) hP hD hK [1] [0] rfl rfl (by decide) (by decide) hk1 hFc ht hvm hB1
  generalize H1 = H at hP hS ⊢
  have hK : va_K (dC, dI) vwCl [] s := hK.sub [] rfl
  have hP : va_P (dC, dI) vwCl [(h0, .inr (11, [.ref ta, .ref oa, .ref da, .ref ka, .ref ea, .ref pa, .ref ha, .ref la, .ref sa])), (ta, .inr (0, [.ref tr, .int 0, .int 0]))] H := hP
  have hD : va_D A [(h0, .inr (11, [.ref ta, .ref oa, .ref da, .ref ka, .ref ea, .ref pa, .ref ha, .ref la, .ref sa])), (ta, .inr (0, [.ref tr, .int 0, .int 0]))] := hD
  refine lv_iconst (v := (-1)) hx hb dX11_house_25 (by decide) ?_
  have hP9 := hP.sub (ws' := []) [] rfl
  have hD9 := hD.sub (ws' := []) [] (by decide) rfl
  have hK9 := hK.sub (tys' := []) [] rfl
  refine W.widen (k := 0) (n := 0) (by omega) (by omega) ?_
  exact W.iret (v := (-1)) hx hb hr (fun t ht hW => ⟨⟨(-1), (), rfl, rfl, QW.mk ht hW hP9 hK9 hD9⟩, hS.F ht⟩) hS.2.2 dX11_house_26
set_option maxHeartbeats 4000000 in
set_option maxRecDepth 100000 in
theorem c_X11_wish (l : Launch) (dC : Nat → ClassId) (dI : Nat → Nat → Nat) (sz : Nat) (h0 : Nat) (ta : Nat) (oa : Nat) (da : Nat) (ka : Nat) (ea : Nat) (pa : Nat) (ha : Nat) (la : Nat) (sa : Nat) (qd : Nat) (q1 : Nat) (q2 : Nat) (q3 : Nat) (q4 : Nat) (q5 : Nat) (q6 : Nat) (x1 : Int32) : Met l yX11_wish (.code yX11_wish cX11_wish 4 (some .int) :: tb) ({ frames := 0, cells := 0, slots := 0, locals := 0 }) (va_Pc [.ref h0, .int x1] (PW (dC, dI) sz [(h0, .inr (11, [.ref ta, .ref oa, .ref da, .ref ka, .ref ea, .ref pa, .ref ha, .ref la, .ref sa])), (ka, .inr (1, [.ref qd, .ref q1, .ref q2, .ref q3, .ref q4, .ref q5, .ref q6, .int 0, .int 0, .int 0, .int 0]))] [])) (va_Qi (fun (r : Int32) (_ : Unit) => r = (-1)) (fun _ T9 => QW (dC, dI) (va_A [(h0, .inr (11, [.ref ta, .ref oa, .ref da, .ref ka, .ref ea, .ref pa, .ref ha, .ref la, .ref sa])), (ka, .inr (1, [.ref qd, .ref q1, .ref q2, .ref q3, .ref q4, .ref q5, .ref q6, .int 0, .int 0, .int 0, .int 0]))] sz) [] [] T9) (va_A [(h0, .inr (11, [.ref ta, .ref oa, .ref da, .ref ka, .ref ea, .ref pa, .ref ha, .ref la, .ref sa])), (ka, .inr (1, [.ref qd, .ref q1, .ref q2, .ref q3, .ref q4, .ref q5, .ref q6, .int 0, .int 0, .int 0, .int 0]))] sz)) 0 0 (va_A [(h0, .inr (11, [.ref ta, .ref oa, .ref da, .ref ka, .ref ea, .ref pa, .ref ha, .ref la, .ref sa])), (ka, .inr (1, [.ref qd, .ref q1, .ref q2, .ref q3, .ref q4, .ref q5, .ref q6, .int 0, .int 0, .int 0, .int 0]))] sz) := by
  refine Met.ofW (cc := cX11_wish) (maxL := 4) (ret := (some .int)) (by decide) rfl ?_
  intro p e s m args below meth c s₁ B hml hv
  obtain ⟨rfl, hsz, hP, hK, hD0, hE⟩ := hv
  have hx := B.exec
  have hb := B.bytes
  have hr := B.returns
  have hts : ∀ w ∈ tb, w.before _ s = true := fun w h => atoms_spec (ws := .code yX11_wish cX11_wish 4 (some .int) :: tb) B.pre w (List.mem_cons_of_mem _ h)
  have hown : s.vm.findClass RX11 = some m.cls := findClass_of_methodNamed B.named
  have hlocks := B.notSynchronized
  subst hsz
  have hD := hD0.self (sz := s.heap.size)
  generalize hAe : va_A [(h0, .inr (11, [.ref ta, .ref oa, .ref da, .ref ka, .ref ea, .ref pa, .ref ha, .ref la, .ref sa])), (ka, .inr (1, [.ref qd, .ref q1, .ref q2, .ref q3, .ref q4, .ref q5, .ref q6, .int 0, .int 0, .int 0, .int 0]))] s.heap.size = A at hD ⊢
  have hA : ∀ q : Nat, s.heap.size ≤ q → A q := fun q h => by rw [← hAe]; exact Or.inr h
  have hS : va_S A s.heap s.heap [] := va_S.rf
  have hP : va_P (dC, dI) vwCl [(h0, .inr (11, [.ref ta, .ref oa, .ref da, .ref ka, .ref ea, .ref pa, .ref ha, .ref la, .ref sa])), (ka, .inr (1, [.ref qd, .ref q1, .ref q2, .ref q3, .ref q4, .ref q5, .ref q6, .int 0, .int 0, .int 0, .int 0]))] s.heap := hP
  have hl := lv_entry ([.ref h0, .int x1]) (n := 4) (Nat.le_of_ble_eq_true rfl)
  rw [lg_entry_eq]
  generalize (lg_sl ([.ref h0, .int x1]) ++ List.replicate (4 - (lg_sl ([.ref h0, .int x1])).length) Slot.unset).toArray = ls at hl ⊢
  have hl : lv_has ls 4 [(0, .ref h0), (1, .int x1)] := hl
  refine lv_aload_n hx hb dX11_wish_0 rfl (lv_at hl 0 rfl) ?_
  refine va_get (D := (dC, dI)) (ci := 11) (v := .ref ka) (C := RX11) (T := TX11) (N := 9) hx hb hts it_11 hown hK hP 0 rfl rfl 3 (by decide) (hts _ kt_147) (fun _ h9 => h9) rfl dX11_wish_1 ?_
  refine va_getN (D := (dC, dI)) (ci := 1) (v := .int 0) (C := RX1) (T := TX1) (N := 11) hx hb hts it_1 hown hK hP 1 rfl rfl 8 (by decide) (hE.nest kn_10) (fun _ h9 => h9) rfl dX11_wish_4 ?_
  refine lv_if_eq (tgt := 14) hx hb dX11_wish_7 (by decide) (fun c_1 => ?_) (fun c_1 => absurd (by decide) c_1)
  refine lv_iconst (v := (-1)) hx hb dX11_wish_14 (by decide) ?_
  have hP9 := hP.sub (ws' := []) [] rfl
  have hD9 := hD.sub (ws' := []) [] (by decide) rfl
  have hK9 := hK.sub (tys' := []) [] rfl
  refine W.widen (k := 0) (n := 0) (by omega) (by omega) ?_
  exact W.iret (v := (-1)) hx hb hr (fun t ht hW => ⟨⟨(-1), (), rfl, rfl, QW.mk ht hW hP9 hK9 hD9⟩, hS.F ht⟩) hS.2.2 dX11_wish_15
set_option maxHeartbeats 4000000 in
set_option maxRecDepth 100000 in
theorem c_X11_octet (l : Launch) (dC : Nat → ClassId) (dI : Nat → Nat → Nat) (sz : Nat) (h0 : Nat) (ta : Nat) (oa : Nat) (da : Nat) (ka : Nat) (ea : Nat) (pa : Nat) (ha : Nat) (la : Nat) (sa : Nat) (orw : Nat) (x1 : Int32) : Met l yX11_octet (.code yX11_octet cX11_octet 2 (some .int) :: tb) ({ frames := 0, cells := 0, slots := 0, locals := 0 }) (va_Pc [.ref h0, .int x1] (PW (dC, dI) sz [(h0, .inr (11, [.ref ta, .ref oa, .ref da, .ref ka, .ref ea, .ref pa, .ref ha, .ref la, .ref sa])), (oa, .inr (0, [.ref orw, .int 0, .int 0]))] [])) (va_Qi (fun (r : Int32) (_ : Unit) => r = (if x1 = (-1) then 0 else (-2))) (fun _ T9 => QW (dC, dI) (va_A [(h0, .inr (11, [.ref ta, .ref oa, .ref da, .ref ka, .ref ea, .ref pa, .ref ha, .ref la, .ref sa])), (oa, .inr (0, [.ref orw, .int 0, .int 0]))] sz) [] [] T9) (va_A [(h0, .inr (11, [.ref ta, .ref oa, .ref da, .ref ka, .ref ea, .ref pa, .ref ha, .ref la, .ref sa])), (oa, .inr (0, [.ref orw, .int 0, .int 0]))] sz)) 0 0 (va_A [(h0, .inr (11, [.ref ta, .ref oa, .ref da, .ref ka, .ref ea, .ref pa, .ref ha, .ref la, .ref sa])), (oa, .inr (0, [.ref orw, .int 0, .int 0]))] sz) := by
  refine Met.ofW (cc := cX11_octet) (maxL := 2) (ret := (some .int)) (by decide) rfl ?_
  intro p e s m args below meth c s₁ B hml hv
  obtain ⟨rfl, hsz, hP, hK, hD0, hE⟩ := hv
  have hx := B.exec
  have hb := B.bytes
  have hr := B.returns
  have hts : ∀ w ∈ tb, w.before _ s = true := fun w h => atoms_spec (ws := .code yX11_octet cX11_octet 2 (some .int) :: tb) B.pre w (List.mem_cons_of_mem _ h)
  have hown : s.vm.findClass RX11 = some m.cls := findClass_of_methodNamed B.named
  have hlocks := B.notSynchronized
  subst hsz
  have hD := hD0.self (sz := s.heap.size)
  generalize hAe : va_A [(h0, .inr (11, [.ref ta, .ref oa, .ref da, .ref ka, .ref ea, .ref pa, .ref ha, .ref la, .ref sa])), (oa, .inr (0, [.ref orw, .int 0, .int 0]))] s.heap.size = A at hD ⊢
  have hA : ∀ q : Nat, s.heap.size ≤ q → A q := fun q h => by rw [← hAe]; exact Or.inr h
  have hS : va_S A s.heap s.heap [] := va_S.rf
  have hP : va_P (dC, dI) vwCl [(h0, .inr (11, [.ref ta, .ref oa, .ref da, .ref ka, .ref ea, .ref pa, .ref ha, .ref la, .ref sa])), (oa, .inr (0, [.ref orw, .int 0, .int 0]))] s.heap := hP
  have hl := lv_entry ([.ref h0, .int x1]) (n := 2) (Nat.le_of_ble_eq_true rfl)
  rw [lg_entry_eq]
  generalize (lg_sl ([.ref h0, .int x1]) ++ List.replicate (2 - (lg_sl ([.ref h0, .int x1])).length) Slot.unset).toArray = ls at hl ⊢
  have hl : lv_has ls 2 [(0, .ref h0), (1, .int x1)] := hl
  refine lv_iload_n hx hb dX11_octet_0 rfl (lv_at hl 1 rfl) ?_
  refine lv_iconst (v := (-1)) hx hb dX11_octet_1 (by decide) ?_
  refine lv_icmp_ne (tgt := 13) hx hb dX11_octet_2 (by decide) (fun c_1 => ?_) (fun c_1 => ?_)
  ·
    refine lv_iload_n hx hb dX11_octet_13 rfl (lv_at hl 1 rfl) ?_
    refine lv_if_lt (tgt := 28) hx hb dX11_octet_14 (by decide) (fun c_2 => ?_) (fun c_2 => ?_)
    ·
      refine lv_bipush (v := (-2)) hx hb dX11_octet_28 (by decide) ?_
      refine lv_goto (tgt := 41) hx hb dX11_octet_30 (by decide) ?_
      have hP9 := hP.sub (ws' := []) [] rfl
      have hD9 := hD.sub (ws' := []) [] (by decide) rfl
      have hK9 := hK.sub (tys' := []) [] rfl
      refine W.widen (k := 0) (n := 0) (by omega) (by omega) ?_
      exact W.iret (v := (-2)) hx hb hr (fun t ht hW => ⟨⟨(-2), (), rfl, (by rw [if_neg c_1]), QW.mk ht hW hP9 hK9 hD9⟩, hS.F ht⟩) hS.2.2 dX11_octet_41
    ·
      refine lv_iload_n hx hb dX11_octet_17 rfl (lv_at hl 1 rfl) ?_
      refine lv_aload_n hx hb dX11_octet_18 rfl (lv_at hl 0 rfl) ?_
      refine va_get (D := (dC, dI)) (ci := 11) (v := .ref oa) (C := RX11) (T := TX11) (N := 9) hx hb hts it_11 hown hK hP 0 rfl rfl 1 (by decide) (hts _ kt_133) (fun _ h9 => h9) rfl dX11_octet_19 ?_
      refine va_getN (D := (dC, dI)) (ci := 0) (v := .int 0) (C := RX0) (T := TX0) (N := 3) hx hb hts it_0 hown hK hP 1 rfl rfl 1 (by decide) (hE.nest kn_9) (fun _ h9 => h9) rfl dX11_octet_22 ?_
      refine lv_icmp_lt (tgt := 33) hx hb dX11_octet_25 (by decide) (fun c_3 => ?_) (fun c_3 => ?_)
      ·
        exact absurd c_3 c_2
      ·
        refine lv_bipush (v := (-2)) hx hb dX11_octet_28 (by decide) ?_
        refine lv_goto (tgt := 41) hx hb dX11_octet_30 (by decide) ?_
        have hP9 := hP.sub (ws' := []) [] rfl
        have hD9 := hD.sub (ws' := []) [] (by decide) rfl
        have hK9 := hK.sub (tys' := []) [] rfl
        refine W.widen (k := 0) (n := 0) (by omega) (by omega) ?_
        exact W.iret (v := (-2)) hx hb hr (fun t ht hW => ⟨⟨(-2), (), rfl, (by rw [if_neg c_1]), QW.mk ht hW hP9 hK9 hD9⟩, hS.F ht⟩) hS.2.2 dX11_octet_41
  ·
    refine lv_aload_n hx hb dX11_octet_5 rfl (lv_at hl 0 rfl) ?_
    refine va_get (D := (dC, dI)) (ci := 11) (v := .ref oa) (C := RX11) (T := TX11) (N := 9) hx hb hts it_11 hown hK hP 0 rfl rfl 1 (by decide) (hts _ kt_133) (fun _ h9 => h9) rfl dX11_octet_6 ?_
    refine va_getN (D := (dC, dI)) (ci := 0) (v := .int 0) (C := RX0) (T := TX0) (N := 3) hx hb hts it_0 hown hK hP 1 rfl rfl 1 (by decide) (hE.nest kn_9) (fun _ h9 => h9) rfl dX11_octet_9 ?_
    have hP9 := hP.sub (ws' := []) [] rfl
    have hD9 := hD.sub (ws' := []) [] (by decide) rfl
    have hK9 := hK.sub (tys' := []) [] rfl
    refine W.widen (k := 0) (n := 0) (by omega) (by omega) ?_
    exact W.iret (v := 0) hx hb hr (fun t ht hW => ⟨⟨0, (), rfl, (by rw [if_pos c_1]), QW.mk ht hW hP9 hK9 hD9⟩, hS.F ht⟩) hS.2.2 dX11_octet_12
end
section
theorem dX11_digest_0 : decode cX11_digest 0 = .ok (.aload_n 0, 1) := by decide +kernel
theorem dX11_digest_1 : decode cX11_digest 1 = .ok (.getfield 54, 3) := by decide +kernel
theorem dX11_digest_4 : decode cX11_digest 4 = .ok (.aload_n 0, 1) := by decide +kernel
theorem dX11_digest_5 : decode cX11_digest 5 = .ok (.getfield 14, 3) := by decide +kernel
theorem dX11_digest_8 : decode cX11_digest 8 = .ok (.aload_n 0, 1) := by decide +kernel
theorem dX11_digest_9 : decode cX11_digest 9 = .ok (.getfield 14, 3) := by decide +kernel
theorem dX11_digest_12 : decode cX11_digest 12 = .ok (.getfield 68, 3) := by decide +kernel
theorem dX11_digest_15 : decode cX11_digest 15 = .ok (.aload_n 0, 1) := by decide +kernel
theorem dX11_digest_16 : decode cX11_digest 16 = .ok (.getfield 18, 3) := by decide +kernel
theorem dX11_digest_19 : decode cX11_digest 19 = .ok (.invokevirtual 173, 3) := by decide +kernel
theorem dX11_digest_22 : decode cX11_digest 22 = .ok (.aload_n 0, 1) := by decide +kernel
theorem dX11_digest_23 : decode cX11_digest 23 = .ok (.getfield 14, 3) := by decide +kernel
theorem dX11_digest_26 : decode cX11_digest 26 = .ok (.invokevirtual 82, 3) := by decide +kernel
theorem dX11_digest_29 : decode cX11_digest 29 = .ok (.aload_n 0, 1) := by decide +kernel
theorem dX11_digest_30 : decode cX11_digest 30 = .ok (.getfield 18, 3) := by decide +kernel
theorem dX11_digest_33 : decode cX11_digest 33 = .ok (.getfield 68, 3) := by decide +kernel
theorem dX11_digest_36 : decode cX11_digest 36 = .ok (.ireturn, 1) := by decide +kernel
theorem dX8_mix_0 : decode cX8_mix 0 = .ok (.bipush 16, 2) := by decide +kernel
theorem dX8_mix_2 : decode cX8_mix 2 = .ok (.istore_n 1, 1) := by decide +kernel
theorem dX8_mix_3 : decode cX8_mix 3 = .ok (.iload_n 1, 1) := by decide +kernel
theorem dX8_mix_4 : decode cX8_mix 4 = .ok (.bipush 64, 2) := by decide +kernel
theorem dX8_mix_6 : decode cX8_mix 6 = .ok (.if_icmp .ge 110, 3) := by decide +kernel
theorem dX8_mix_9 : decode cX8_mix 9 = .ok (.aload_n 0, 1) := by decide +kernel
theorem dX8_mix_10 : decode cX8_mix 10 = .ok (.getfield 7, 3) := by decide +kernel
theorem dX8_mix_13 : decode cX8_mix 13 = .ok (.iload_n 1, 1) := by decide +kernel
theorem dX8_mix_14 : decode cX8_mix 14 = .ok (.bipush 15, 2) := by decide +kernel
theorem dX8_mix_16 : decode cX8_mix 16 = .ok (.isub, 1) := by decide +kernel
theorem dX8_mix_17 : decode cX8_mix 17 = .ok (.iaload, 1) := by decide +kernel
theorem dX8_mix_18 : decode cX8_mix 18 = .ok (.istore_n 2, 1) := by decide +kernel
theorem dX8_mix_19 : decode cX8_mix 19 = .ok (.aload_n 0, 1) := by decide +kernel
theorem dX8_mix_20 : decode cX8_mix 20 = .ok (.getfield 7, 3) := by decide +kernel
theorem dX8_mix_23 : decode cX8_mix 23 = .ok (.iload_n 1, 1) := by decide +kernel
theorem dX8_mix_24 : decode cX8_mix 24 = .ok (.iconst 2, 1) := by decide +kernel
theorem dX8_mix_25 : decode cX8_mix 25 = .ok (.isub, 1) := by decide +kernel
theorem dX8_mix_26 : decode cX8_mix 26 = .ok (.iaload, 1) := by decide +kernel
theorem dX8_mix_27 : decode cX8_mix 27 = .ok (.istore_n 3, 1) := by decide +kernel
theorem dX8_mix_28 : decode cX8_mix 28 = .ok (.iload_n 2, 1) := by decide +kernel
theorem dX8_mix_29 : decode cX8_mix 29 = .ok (.bipush 7, 2) := by decide +kernel
theorem dX8_mix_31 : decode cX8_mix 31 = .ok (.iushr, 1) := by decide +kernel
theorem dX8_mix_32 : decode cX8_mix 32 = .ok (.iload_n 2, 1) := by decide +kernel
theorem dX8_mix_33 : decode cX8_mix 33 = .ok (.bipush 25, 2) := by decide +kernel
theorem dX8_mix_35 : decode cX8_mix 35 = .ok (.ishl, 1) := by decide +kernel
theorem dX8_mix_36 : decode cX8_mix 36 = .ok (.ior, 1) := by decide +kernel
theorem dX8_mix_37 : decode cX8_mix 37 = .ok (.iload_n 2, 1) := by decide +kernel
theorem dX8_mix_38 : decode cX8_mix 38 = .ok (.bipush 18, 2) := by decide +kernel
theorem dX8_mix_40 : decode cX8_mix 40 = .ok (.iushr, 1) := by decide +kernel
theorem dX8_mix_41 : decode cX8_mix 41 = .ok (.iload_n 2, 1) := by decide +kernel
theorem dX8_mix_42 : decode cX8_mix 42 = .ok (.bipush 14, 2) := by decide +kernel
theorem dX8_mix_44 : decode cX8_mix 44 = .ok (.ishl, 1) := by decide +kernel
theorem dX8_mix_45 : decode cX8_mix 45 = .ok (.ior, 1) := by decide +kernel
theorem dX8_mix_46 : decode cX8_mix 46 = .ok (.ixor, 1) := by decide +kernel
theorem dX8_mix_47 : decode cX8_mix 47 = .ok (.iload_n 2, 1) := by decide +kernel
theorem dX8_mix_48 : decode cX8_mix 48 = .ok (.iconst 3, 1) := by decide +kernel
theorem dX8_mix_49 : decode cX8_mix 49 = .ok (.iushr, 1) := by decide +kernel
theorem dX8_mix_50 : decode cX8_mix 50 = .ok (.ixor, 1) := by decide +kernel
theorem dX8_mix_51 : decode cX8_mix 51 = .ok (.istore 4, 2) := by decide +kernel
theorem dX8_mix_53 : decode cX8_mix 53 = .ok (.iload_n 3, 1) := by decide +kernel
theorem dX8_mix_54 : decode cX8_mix 54 = .ok (.bipush 17, 2) := by decide +kernel
theorem dX8_mix_56 : decode cX8_mix 56 = .ok (.iushr, 1) := by decide +kernel
theorem dX8_mix_57 : decode cX8_mix 57 = .ok (.iload_n 3, 1) := by decide +kernel
theorem dX8_mix_58 : decode cX8_mix 58 = .ok (.bipush 15, 2) := by decide +kernel
theorem dX8_mix_60 : decode cX8_mix 60 = .ok (.ishl, 1) := by decide +kernel
theorem dX8_mix_61 : decode cX8_mix 61 = .ok (.ior, 1) := by decide +kernel
theorem dX8_mix_62 : decode cX8_mix 62 = .ok (.iload_n 3, 1) := by decide +kernel
theorem dX8_mix_63 : decode cX8_mix 63 = .ok (.bipush 19, 2) := by decide +kernel
theorem dX8_mix_65 : decode cX8_mix 65 = .ok (.iushr, 1) := by decide +kernel
theorem dX8_mix_66 : decode cX8_mix 66 = .ok (.iload_n 3, 1) := by decide +kernel
theorem dX8_mix_67 : decode cX8_mix 67 = .ok (.bipush 13, 2) := by decide +kernel
theorem dX8_mix_69 : decode cX8_mix 69 = .ok (.ishl, 1) := by decide +kernel
theorem dX8_mix_70 : decode cX8_mix 70 = .ok (.ior, 1) := by decide +kernel
theorem dX8_mix_71 : decode cX8_mix 71 = .ok (.ixor, 1) := by decide +kernel
theorem dX8_mix_72 : decode cX8_mix 72 = .ok (.iload_n 3, 1) := by decide +kernel
theorem dX8_mix_73 : decode cX8_mix 73 = .ok (.bipush 10, 2) := by decide +kernel
theorem dX8_mix_75 : decode cX8_mix 75 = .ok (.iushr, 1) := by decide +kernel
theorem dX8_mix_76 : decode cX8_mix 76 = .ok (.ixor, 1) := by decide +kernel
theorem dX8_mix_77 : decode cX8_mix 77 = .ok (.istore 5, 2) := by decide +kernel
theorem dX8_mix_79 : decode cX8_mix 79 = .ok (.aload_n 0, 1) := by decide +kernel
theorem dX8_mix_80 : decode cX8_mix 80 = .ok (.getfield 7, 3) := by decide +kernel
theorem dX8_mix_83 : decode cX8_mix 83 = .ok (.iload_n 1, 1) := by decide +kernel
theorem dX8_mix_84 : decode cX8_mix 84 = .ok (.aload_n 0, 1) := by decide +kernel
theorem dX8_mix_85 : decode cX8_mix 85 = .ok (.getfield 7, 3) := by decide +kernel
theorem dX8_mix_88 : decode cX8_mix 88 = .ok (.iload_n 1, 1) := by decide +kernel
theorem dX8_mix_89 : decode cX8_mix 89 = .ok (.bipush 16, 2) := by decide +kernel
theorem dX8_mix_91 : decode cX8_mix 91 = .ok (.isub, 1) := by decide +kernel
theorem dX8_mix_92 : decode cX8_mix 92 = .ok (.iaload, 1) := by decide +kernel
theorem dX8_mix_93 : decode cX8_mix 93 = .ok (.iload 4, 2) := by decide +kernel
theorem dX8_mix_95 : decode cX8_mix 95 = .ok (.iadd, 1) := by decide +kernel
theorem dX8_mix_96 : decode cX8_mix 96 = .ok (.aload_n 0, 1) := by decide +kernel
theorem dX8_mix_97 : decode cX8_mix 97 = .ok (.getfield 7, 3) := by decide +kernel
theorem dX8_mix_100 : decode cX8_mix 100 = .ok (.iload_n 1, 1) := by decide +kernel
theorem dX8_mix_101 : decode cX8_mix 101 = .ok (.bipush 7, 2) := by decide +kernel
theorem dX8_mix_103 : decode cX8_mix 103 = .ok (.isub, 1) := by decide +kernel
theorem dX8_mix_104 : decode cX8_mix 104 = .ok (.iaload, 1) := by decide +kernel
theorem dX8_mix_105 : decode cX8_mix 105 = .ok (.iadd, 1) := by decide +kernel
theorem dX8_mix_106 : decode cX8_mix 106 = .ok (.iload 5, 2) := by decide +kernel
theorem dX8_mix_108 : decode cX8_mix 108 = .ok (.iadd, 1) := by decide +kernel
theorem dX8_mix_109 : decode cX8_mix 109 = .ok (.iastore, 1) := by decide +kernel
theorem dX8_mix_110 : decode cX8_mix 110 = .ok (.iinc 1 1, 3) := by decide +kernel
theorem dX8_mix_113 : decode cX8_mix 113 = .ok (.goto (-110), 3) := by decide +kernel
theorem dX8_mix_116 : decode cX8_mix 116 = .ok (.aload_n 0, 1) := by decide +kernel
theorem dX8_mix_117 : decode cX8_mix 117 = .ok (.getfield 13, 3) := by decide +kernel
theorem dX8_mix_120 : decode cX8_mix 120 = .ok (.iconst 0, 1) := by decide +kernel
theorem dX8_mix_121 : decode cX8_mix 121 = .ok (.aload_n 0, 1) := by decide +kernel
theorem dX8_mix_122 : decode cX8_mix 122 = .ok (.getfield 16, 3) := by decide +kernel
theorem dX8_mix_125 : decode cX8_mix 125 = .ok (.iconst 0, 1) := by decide +kernel
theorem dX8_mix_126 : decode cX8_mix 126 = .ok (.bipush 8, 2) := by decide +kernel
theorem dX8_mix_128 : decode cX8_mix 128 = .ok (.invokestatic 22, 3) := by decide +kernel
theorem dX8_mix_131 : decode cX8_mix 131 = .ok (.iconst 0, 1) := by decide +kernel
theorem dX8_mix_132 : decode cX8_mix 132 = .ok (.istore_n 1, 1) := by decide +kernel
theorem dX8_mix_133 : decode cX8_mix 133 = .ok (.iload_n 1, 1) := by decide +kernel
theorem dX8_mix_134 : decode cX8_mix 134 = .ok (.bipush 64, 2) := by decide +kernel
theorem dX8_mix_136 : decode cX8_mix 136 = .ok (.if_icmp .ge 14, 3) := by decide +kernel
theorem dX8_mix_139 : decode cX8_mix 139 = .ok (.aload_n 0, 1) := by decide +kernel
theorem dX8_mix_140 : decode cX8_mix 140 = .ok (.iload_n 1, 1) := by decide +kernel
theorem dX8_mix_141 : decode cX8_mix 141 = .ok (.invokevirtual 48, 3) := by decide +kernel
theorem dX8_mix_144 : decode cX8_mix 144 = .ok (.iinc 1 1, 3) := by decide +kernel
theorem dX8_mix_147 : decode cX8_mix 147 = .ok (.goto (-14), 3) := by decide +kernel
theorem dX8_mix_150 : decode cX8_mix 150 = .ok (.iconst 0, 1) := by decide +kernel
theorem dX8_mix_151 : decode cX8_mix 151 = .ok (.istore_n 1, 1) := by decide +kernel
theorem dX8_mix_152 : decode cX8_mix 152 = .ok (.iload_n 1, 1) := by decide +kernel
theorem dX8_mix_153 : decode cX8_mix 153 = .ok (.bipush 8, 2) := by decide +kernel
theorem dX8_mix_155 : decode cX8_mix 155 = .ok (.if_icmp .ge 24, 3) := by decide +kernel
theorem dX8_mix_158 : decode cX8_mix 158 = .ok (.aload_n 0, 1) := by decide +kernel
theorem dX8_mix_159 : decode cX8_mix 159 = .ok (.getfield 13, 3) := by decide +kernel
theorem dX8_mix_162 : decode cX8_mix 162 = .ok (.iload_n 1, 1) := by decide +kernel
theorem dX8_mix_163 : decode cX8_mix 163 = .ok (.dup2, 1) := by decide +kernel
theorem dX8_mix_164 : decode cX8_mix 164 = .ok (.iaload, 1) := by decide +kernel
theorem dX8_mix_165 : decode cX8_mix 165 = .ok (.aload_n 0, 1) := by decide +kernel
theorem dX8_mix_166 : decode cX8_mix 166 = .ok (.getfield 16, 3) := by decide +kernel
theorem dX8_mix_169 : decode cX8_mix 169 = .ok (.iload_n 1, 1) := by decide +kernel
theorem dX8_mix_170 : decode cX8_mix 170 = .ok (.iaload, 1) := by decide +kernel
theorem dX8_mix_171 : decode cX8_mix 171 = .ok (.iadd, 1) := by decide +kernel
theorem dX8_mix_172 : decode cX8_mix 172 = .ok (.iastore, 1) := by decide +kernel
theorem dX8_mix_173 : decode cX8_mix 173 = .ok (.iinc 1 1, 3) := by decide +kernel
theorem dX8_mix_176 : decode cX8_mix 176 = .ok (.goto (-24), 3) := by decide +kernel
theorem dX8_mix_179 : decode cX8_mix 179 = .ok (.return_, 1) := by decide +kernel
theorem dX8_step_0 : decode cX8_step 0 = .ok (.aload_n 0, 1) := by decide +kernel
theorem dX8_step_1 : decode cX8_step 1 = .ok (.getfield 16, 3) := by decide +kernel
theorem dX8_step_4 : decode cX8_step 4 = .ok (.iconst 0, 1) := by decide +kernel
theorem dX8_step_5 : decode cX8_step 5 = .ok (.iaload, 1) := by decide +kernel
theorem dX8_step_6 : decode cX8_step 6 = .ok (.istore_n 2, 1) := by decide +kernel
theorem dX8_step_7 : decode cX8_step 7 = .ok (.aload_n 0, 1) := by decide +kernel
theorem dX8_step_8 : decode cX8_step 8 = .ok (.getfield 16, 3) := by decide +kernel
theorem dX8_step_11 : decode cX8_step 11 = .ok (.iconst 4, 1) := by decide +kernel
theorem dX8_step_12 : decode cX8_step 12 = .ok (.iaload, 1) := by decide +kernel
theorem dX8_step_13 : decode cX8_step 13 = .ok (.istore_n 3, 1) := by decide +kernel
theorem dX8_step_14 : decode cX8_step 14 = .ok (.iload_n 3, 1) := by decide +kernel
theorem dX8_step_15 : decode cX8_step 15 = .ok (.aload_n 0, 1) := by decide +kernel
theorem dX8_step_16 : decode cX8_step 16 = .ok (.getfield 16, 3) := by decide +kernel
theorem dX8_step_19 : decode cX8_step 19 = .ok (.iconst 5, 1) := by decide +kernel
theorem dX8_step_20 : decode cX8_step 20 = .ok (.iaload, 1) := by decide +kernel
theorem dX8_step_21 : decode cX8_step 21 = .ok (.iand, 1) := by decide +kernel
theorem dX8_step_22 : decode cX8_step 22 = .ok (.iload_n 3, 1) := by decide +kernel
theorem dX8_step_23 : decode cX8_step 23 = .ok (.iconst (-1), 1) := by decide +kernel
theorem dX8_step_24 : decode cX8_step 24 = .ok (.ixor, 1) := by decide +kernel
theorem dX8_step_25 : decode cX8_step 25 = .ok (.aload_n 0, 1) := by decide +kernel
theorem dX8_step_26 : decode cX8_step 26 = .ok (.getfield 16, 3) := by decide +kernel
theorem dX8_step_29 : decode cX8_step 29 = .ok (.bipush 6, 2) := by decide +kernel
theorem dX8_step_31 : decode cX8_step 31 = .ok (.iaload, 1) := by decide +kernel
theorem dX8_step_32 : decode cX8_step 32 = .ok (.iand, 1) := by decide +kernel
theorem dX8_step_33 : decode cX8_step 33 = .ok (.ixor, 1) := by decide +kernel
theorem dX8_step_34 : decode cX8_step 34 = .ok (.istore 4, 2) := by decide +kernel
theorem dX8_step_36 : decode cX8_step 36 = .ok (.iload_n 2, 1) := by decide +kernel
theorem dX8_step_37 : decode cX8_step 37 = .ok (.aload_n 0, 1) := by decide +kernel
theorem dX8_step_38 : decode cX8_step 38 = .ok (.getfield 16, 3) := by decide +kernel
theorem dX8_step_41 : decode cX8_step 41 = .ok (.iconst 1, 1) := by decide +kernel
theorem dX8_step_42 : decode cX8_step 42 = .ok (.iaload, 1) := by decide +kernel
theorem dX8_step_43 : decode cX8_step 43 = .ok (.iand, 1) := by decide +kernel
theorem dX8_step_44 : decode cX8_step 44 = .ok (.iload_n 2, 1) := by decide +kernel
theorem dX8_step_45 : decode cX8_step 45 = .ok (.aload_n 0, 1) := by decide +kernel
theorem dX8_step_46 : decode cX8_step 46 = .ok (.getfield 16, 3) := by decide +kernel
theorem dX8_step_49 : decode cX8_step 49 = .ok (.iconst 2, 1) := by decide +kernel
theorem dX8_step_50 : decode cX8_step 50 = .ok (.iaload, 1) := by decide +kernel
theorem dX8_step_51 : decode cX8_step 51 = .ok (.iand, 1) := by decide +kernel
theorem dX8_step_52 : decode cX8_step 52 = .ok (.ixor, 1) := by decide +kernel
theorem dX8_step_53 : decode cX8_step 53 = .ok (.aload_n 0, 1) := by decide +kernel
theorem dX8_step_54 : decode cX8_step 54 = .ok (.getfield 16, 3) := by decide +kernel
theorem dX8_step_57 : decode cX8_step 57 = .ok (.iconst 1, 1) := by decide +kernel
theorem dX8_step_58 : decode cX8_step 58 = .ok (.iaload, 1) := by decide +kernel
theorem dX8_step_59 : decode cX8_step 59 = .ok (.aload_n 0, 1) := by decide +kernel
theorem dX8_step_60 : decode cX8_step 60 = .ok (.getfield 16, 3) := by decide +kernel
theorem dX8_step_63 : decode cX8_step 63 = .ok (.iconst 2, 1) := by decide +kernel
theorem dX8_step_64 : decode cX8_step 64 = .ok (.iaload, 1) := by decide +kernel
theorem dX8_step_65 : decode cX8_step 65 = .ok (.iand, 1) := by decide +kernel
theorem dX8_step_66 : decode cX8_step 66 = .ok (.ixor, 1) := by decide +kernel
theorem dX8_step_67 : decode cX8_step 67 = .ok (.istore 5, 2) := by decide +kernel
theorem dX8_step_69 : decode cX8_step 69 = .ok (.iload_n 3, 1) := by decide +kernel
theorem dX8_step_70 : decode cX8_step 70 = .ok (.bipush 6, 2) := by decide +kernel
theorem dX8_step_72 : decode cX8_step 72 = .ok (.iushr, 1) := by decide +kernel
theorem dX8_step_73 : decode cX8_step 73 = .ok (.iload_n 3, 1) := by decide +kernel
theorem dX8_step_74 : decode cX8_step 74 = .ok (.bipush 26, 2) := by decide +kernel
theorem dX8_step_76 : decode cX8_step 76 = .ok (.ishl, 1) := by decide +kernel
theorem dX8_step_77 : decode cX8_step 77 = .ok (.ior, 1) := by decide +kernel
theorem dX8_step_78 : decode cX8_step 78 = .ok (.iload_n 3, 1) := by decide +kernel
theorem dX8_step_79 : decode cX8_step 79 = .ok (.bipush 11, 2) := by decide +kernel
theorem dX8_step_81 : decode cX8_step 81 = .ok (.iushr, 1) := by decide +kernel
theorem dX8_step_82 : decode cX8_step 82 = .ok (.iload_n 3, 1) := by decide +kernel
theorem dX8_step_83 : decode cX8_step 83 = .ok (.bipush 21, 2) := by decide +kernel
theorem dX8_step_85 : decode cX8_step 85 = .ok (.ishl, 1) := by decide +kernel
theorem dX8_step_86 : decode cX8_step 86 = .ok (.ior, 1) := by decide +kernel
theorem dX8_step_87 : decode cX8_step 87 = .ok (.ixor, 1) := by decide +kernel
theorem dX8_step_88 : decode cX8_step 88 = .ok (.iload_n 3, 1) := by decide +kernel
theorem dX8_step_89 : decode cX8_step 89 = .ok (.bipush 25, 2) := by decide +kernel
theorem dX8_step_91 : decode cX8_step 91 = .ok (.iushr, 1) := by decide +kernel
theorem dX8_step_92 : decode cX8_step 92 = .ok (.iload_n 3, 1) := by decide +kernel
theorem dX8_step_93 : decode cX8_step 93 = .ok (.bipush 7, 2) := by decide +kernel
theorem dX8_step_95 : decode cX8_step 95 = .ok (.ishl, 1) := by decide +kernel
theorem dX8_step_96 : decode cX8_step 96 = .ok (.ior, 1) := by decide +kernel
theorem dX8_step_97 : decode cX8_step 97 = .ok (.ixor, 1) := by decide +kernel
theorem dX8_step_98 : decode cX8_step 98 = .ok (.istore 6, 2) := by decide +kernel
theorem dX8_step_100 : decode cX8_step 100 = .ok (.iload_n 2, 1) := by decide +kernel
theorem dX8_step_101 : decode cX8_step 101 = .ok (.iconst 2, 1) := by decide +kernel
theorem dX8_step_102 : decode cX8_step 102 = .ok (.iushr, 1) := by decide +kernel
theorem dX8_step_103 : decode cX8_step 103 = .ok (.iload_n 2, 1) := by decide +kernel
theorem dX8_step_104 : decode cX8_step 104 = .ok (.bipush 30, 2) := by decide +kernel
theorem dX8_step_106 : decode cX8_step 106 = .ok (.ishl, 1) := by decide +kernel
theorem dX8_step_107 : decode cX8_step 107 = .ok (.ior, 1) := by decide +kernel
theorem dX8_step_108 : decode cX8_step 108 = .ok (.iload_n 2, 1) := by decide +kernel
theorem dX8_step_109 : decode cX8_step 109 = .ok (.bipush 13, 2) := by decide +kernel
theorem dX8_step_111 : decode cX8_step 111 = .ok (.iushr, 1) := by decide +kernel
theorem dX8_step_112 : decode cX8_step 112 = .ok (.iload_n 2, 1) := by decide +kernel
theorem dX8_step_113 : decode cX8_step 113 = .ok (.bipush 19, 2) := by decide +kernel
theorem dX8_step_115 : decode cX8_step 115 = .ok (.ishl, 1) := by decide +kernel
theorem dX8_step_116 : decode cX8_step 116 = .ok (.ior, 1) := by decide +kernel
theorem dX8_step_117 : decode cX8_step 117 = .ok (.ixor, 1) := by decide +kernel
theorem dX8_step_118 : decode cX8_step 118 = .ok (.iload_n 2, 1) := by decide +kernel
theorem dX8_step_119 : decode cX8_step 119 = .ok (.bipush 22, 2) := by decide +kernel
theorem dX8_step_121 : decode cX8_step 121 = .ok (.iushr, 1) := by decide +kernel
theorem dX8_step_122 : decode cX8_step 122 = .ok (.iload_n 2, 1) := by decide +kernel
theorem dX8_step_123 : decode cX8_step 123 = .ok (.bipush 10, 2) := by decide +kernel
theorem dX8_step_125 : decode cX8_step 125 = .ok (.ishl, 1) := by decide +kernel
theorem dX8_step_126 : decode cX8_step 126 = .ok (.ior, 1) := by decide +kernel
theorem dX8_step_127 : decode cX8_step 127 = .ok (.ixor, 1) := by decide +kernel
theorem dX8_step_128 : decode cX8_step 128 = .ok (.istore 7, 2) := by decide +kernel
theorem dX8_step_130 : decode cX8_step 130 = .ok (.aload_n 0, 1) := by decide +kernel
theorem dX8_step_131 : decode cX8_step 131 = .ok (.getfield 16, 3) := by decide +kernel
theorem dX8_step_134 : decode cX8_step 134 = .ok (.bipush 7, 2) := by decide +kernel
theorem dX8_step_136 : decode cX8_step 136 = .ok (.iaload, 1) := by decide +kernel
theorem dX8_step_137 : decode cX8_step 137 = .ok (.iload 6, 2) := by decide +kernel
theorem dX8_step_139 : decode cX8_step 139 = .ok (.iadd, 1) := by decide +kernel
theorem dX8_step_140 : decode cX8_step 140 = .ok (.iload 4, 2) := by decide +kernel
theorem dX8_step_142 : decode cX8_step 142 = .ok (.iadd, 1) := by decide +kernel
theorem dX8_step_143 : decode cX8_step 143 = .ok (.getstatic 51, 3) := by decide +kernel
theorem dX8_step_146 : decode cX8_step 146 = .ok (.iload_n 1, 1) := by decide +kernel
theorem dX8_step_147 : decode cX8_step 147 = .ok (.iaload, 1) := by decide +kernel
theorem dX8_step_148 : decode cX8_step 148 = .ok (.iadd, 1) := by decide +kernel
theorem dX8_step_149 : decode cX8_step 149 = .ok (.aload_n 0, 1) := by decide +kernel
theorem dX8_step_150 : decode cX8_step 150 = .ok (.getfield 7, 3) := by decide +kernel
theorem dX8_step_153 : decode cX8_step 153 = .ok (.iload_n 1, 1) := by decide +kernel
theorem dX8_step_154 : decode cX8_step 154 = .ok (.iaload, 1) := by decide +kernel
theorem dX8_step_155 : decode cX8_step 155 = .ok (.iadd, 1) := by decide +kernel
theorem dX8_step_156 : decode cX8_step 156 = .ok (.istore 8, 2) := by decide +kernel
theorem dX8_step_158 : decode cX8_step 158 = .ok (.bipush 7, 2) := by decide +kernel
theorem dX8_step_160 : decode cX8_step 160 = .ok (.istore 9, 2) := by decide +kernel
theorem dX8_step_162 : decode cX8_step 162 = .ok (.iload 9, 2) := by decide +kernel
theorem dX8_step_164 : decode cX8_step 164 = .ok (.ifCond .le 25, 3) := by decide +kernel
theorem dX8_step_167 : decode cX8_step 167 = .ok (.aload_n 0, 1) := by decide +kernel
theorem dX8_step_168 : decode cX8_step 168 = .ok (.getfield 16, 3) := by decide +kernel
theorem dX8_step_171 : decode cX8_step 171 = .ok (.iload 9, 2) := by decide +kernel
theorem dX8_step_173 : decode cX8_step 173 = .ok (.aload_n 0, 1) := by decide +kernel
theorem dX8_step_174 : decode cX8_step 174 = .ok (.getfield 16, 3) := by decide +kernel
theorem dX8_step_177 : decode cX8_step 177 = .ok (.iload 9, 2) := by decide +kernel
theorem dX8_step_179 : decode cX8_step 179 = .ok (.iconst 1, 1) := by decide +kernel
theorem dX8_step_180 : decode cX8_step 180 = .ok (.isub, 1) := by decide +kernel
theorem dX8_step_181 : decode cX8_step 181 = .ok (.iaload, 1) := by decide +kernel
theorem dX8_step_182 : decode cX8_step 182 = .ok (.iastore, 1) := by decide +kernel
theorem dX8_step_183 : decode cX8_step 183 = .ok (.iinc 9 (-1), 3) := by decide +kernel
theorem dX8_step_186 : decode cX8_step 186 = .ok (.goto (-24), 3) := by decide +kernel
theorem dX8_step_189 : decode cX8_step 189 = .ok (.aload_n 0, 1) := by decide +kernel
theorem dX8_step_190 : decode cX8_step 190 = .ok (.getfield 16, 3) := by decide +kernel
theorem dX8_step_193 : decode cX8_step 193 = .ok (.iconst 4, 1) := by decide +kernel
theorem dX8_step_194 : decode cX8_step 194 = .ok (.dup2, 1) := by decide +kernel
theorem dX8_step_195 : decode cX8_step 195 = .ok (.iaload, 1) := by decide +kernel
theorem dX8_step_196 : decode cX8_step 196 = .ok (.iload 8, 2) := by decide +kernel
theorem dX8_step_198 : decode cX8_step 198 = .ok (.iadd, 1) := by decide +kernel
theorem dX8_step_199 : decode cX8_step 199 = .ok (.iastore, 1) := by decide +kernel
theorem dX8_step_200 : decode cX8_step 200 = .ok (.aload_n 0, 1) := by decide +kernel
theorem dX8_step_201 : decode cX8_step 201 = .ok (.getfield 16, 3) := by decide +kernel
theorem dX8_step_204 : decode cX8_step 204 = .ok (.iconst 0, 1) := by decide +kernel
theorem dX8_step_205 : decode cX8_step 205 = .ok (.iload 8, 2) := by decide +kernel
theorem dX8_step_207 : decode cX8_step 207 = .ok (.iload 7, 2) := by decide +kernel
theorem dX8_step_209 : decode cX8_step 209 = .ok (.iadd, 1) := by decide +kernel
theorem dX8_step_210 : decode cX8_step 210 = .ok (.iload 5, 2) := by decide +kernel
theorem dX8_step_212 : decode cX8_step 212 = .ok (.iadd, 1) := by decide +kernel
theorem dX8_step_213 : decode cX8_step 213 = .ok (.iastore, 1) := by decide +kernel
theorem dX8_step_214 : decode cX8_step 214 = .ok (.return_, 1) := by decide +kernel
theorem dX8_sumOf_0 : decode cX8_sumOf 0 = .ok (.getstatic 19, 3) := by decide +kernel
theorem dX8_sumOf_3 : decode cX8_sumOf 3 = .ok (.iconst 0, 1) := by decide +kernel
theorem dX8_sumOf_4 : decode cX8_sumOf 4 = .ok (.aload_n 0, 1) := by decide +kernel
theorem dX8_sumOf_5 : decode cX8_sumOf 5 = .ok (.getfield 13, 3) := by decide +kernel
theorem dX8_sumOf_8 : decode cX8_sumOf 8 = .ok (.iconst 0, 1) := by decide +kernel
theorem dX8_sumOf_9 : decode cX8_sumOf 9 = .ok (.bipush 8, 2) := by decide +kernel
theorem dX8_sumOf_11 : decode cX8_sumOf 11 = .ok (.invokestatic 22, 3) := by decide +kernel
theorem dX8_sumOf_14 : decode cX8_sumOf 14 = .ok (.iload_n 2, 1) := by decide +kernel
theorem dX8_sumOf_15 : decode cX8_sumOf 15 = .ok (.bipush 9, 2) := by decide +kernel
theorem dX8_sumOf_17 : decode cX8_sumOf 17 = .ok (.iadd, 1) := by decide +kernel
theorem dX8_sumOf_18 : decode cX8_sumOf 18 = .ok (.bipush 63, 2) := by decide +kernel
theorem dX8_sumOf_20 : decode cX8_sumOf 20 = .ok (.iadd, 1) := by decide +kernel
theorem dX8_sumOf_21 : decode cX8_sumOf 21 = .ok (.bipush 64, 2) := by decide +kernel
theorem dX8_sumOf_23 : decode cX8_sumOf 23 = .ok (.idiv, 1) := by decide +kernel
theorem dX8_sumOf_24 : decode cX8_sumOf 24 = .ok (.istore 4, 2) := by decide +kernel
theorem dX8_sumOf_26 : decode cX8_sumOf 26 = .ok (.iconst 0, 1) := by decide +kernel
theorem dX8_sumOf_27 : decode cX8_sumOf 27 = .ok (.istore 5, 2) := by decide +kernel
theorem dX8_sumOf_29 : decode cX8_sumOf 29 = .ok (.iload 5, 2) := by decide +kernel
theorem dX8_sumOf_31 : decode cX8_sumOf 31 = .ok (.iload 4, 2) := by decide +kernel
theorem dX8_sumOf_33 : decode cX8_sumOf 33 = .ok (.if_icmp .ge 71, 3) := by decide +kernel
theorem dX8_sumOf_36 : decode cX8_sumOf 36 = .ok (.iconst 0, 1) := by decide +kernel
theorem dX8_sumOf_37 : decode cX8_sumOf 37 = .ok (.istore 6, 2) := by decide +kernel
theorem dX8_sumOf_39 : decode cX8_sumOf 39 = .ok (.iload 6, 2) := by decide +kernel
theorem dX8_sumOf_41 : decode cX8_sumOf 41 = .ok (.bipush 16, 2) := by decide +kernel
theorem dX8_sumOf_43 : decode cX8_sumOf 43 = .ok (.if_icmp .ge 31, 3) := by decide +kernel
theorem dX8_sumOf_46 : decode cX8_sumOf 46 = .ok (.aload_n 0, 1) := by decide +kernel
theorem dX8_sumOf_47 : decode cX8_sumOf 47 = .ok (.getfield 7, 3) := by decide +kernel
theorem dX8_sumOf_50 : decode cX8_sumOf 50 = .ok (.iload 6, 2) := by decide +kernel
theorem dX8_sumOf_52 : decode cX8_sumOf 52 = .ok (.aload_n 1, 1) := by decide +kernel
theorem dX8_sumOf_53 : decode cX8_sumOf 53 = .ok (.iload_n 2, 1) := by decide +kernel
theorem dX8_sumOf_54 : decode cX8_sumOf 54 = .ok (.iload 5, 2) := by decide +kernel
theorem dX8_sumOf_56 : decode cX8_sumOf 56 = .ok (.bipush 64, 2) := by decide +kernel
theorem dX8_sumOf_58 : decode cX8_sumOf 58 = .ok (.imul, 1) := by decide +kernel
theorem dX8_sumOf_59 : decode cX8_sumOf 59 = .ok (.iload 6, 2) := by decide +kernel
theorem dX8_sumOf_61 : decode cX8_sumOf 61 = .ok (.iconst 4, 1) := by decide +kernel
theorem dX8_sumOf_62 : decode cX8_sumOf 62 = .ok (.imul, 1) := by decide +kernel
theorem dX8_sumOf_63 : decode cX8_sumOf 63 = .ok (.iadd, 1) := by decide +kernel
theorem dX8_sumOf_64 : decode cX8_sumOf 64 = .ok (.invokestatic 28, 3) := by decide +kernel
theorem dX8_sumOf_67 : decode cX8_sumOf 67 = .ok (.iastore, 1) := by decide +kernel
theorem dX8_sumOf_68 : decode cX8_sumOf 68 = .ok (.iinc 6 1, 3) := by decide +kernel
theorem dX8_sumOf_71 : decode cX8_sumOf 71 = .ok (.goto (-32), 3) := by decide +kernel
theorem dX8_sumOf_74 : decode cX8_sumOf 74 = .ok (.iload 5, 2) := by decide +kernel
theorem dX8_sumOf_76 : decode cX8_sumOf 76 = .ok (.iload 4, 2) := by decide +kernel
theorem dX8_sumOf_78 : decode cX8_sumOf 78 = .ok (.iconst 1, 1) := by decide +kernel
theorem dX8_sumOf_79 : decode cX8_sumOf 79 = .ok (.isub, 1) := by decide +kernel
theorem dX8_sumOf_80 : decode cX8_sumOf 80 = .ok (.if_icmp .ne 14, 3) := by decide +kernel
theorem dX8_sumOf_83 : decode cX8_sumOf 83 = .ok (.aload_n 0, 1) := by decide +kernel
theorem dX8_sumOf_84 : decode cX8_sumOf 84 = .ok (.getfield 7, 3) := by decide +kernel
theorem dX8_sumOf_87 : decode cX8_sumOf 87 = .ok (.bipush 15, 2) := by decide +kernel
theorem dX8_sumOf_89 : decode cX8_sumOf 89 = .ok (.iload_n 2, 1) := by decide +kernel
theorem dX8_sumOf_90 : decode cX8_sumOf 90 = .ok (.bipush 8, 2) := by decide +kernel
theorem dX8_sumOf_92 : decode cX8_sumOf 92 = .ok (.imul, 1) := by decide +kernel
theorem dX8_sumOf_93 : decode cX8_sumOf 93 = .ok (.iastore, 1) := by decide +kernel
theorem dX8_sumOf_94 : decode cX8_sumOf 94 = .ok (.aload_n 0, 1) := by decide +kernel
theorem dX8_sumOf_95 : decode cX8_sumOf 95 = .ok (.invokevirtual 32, 3) := by decide +kernel
theorem dX8_sumOf_98 : decode cX8_sumOf 98 = .ok (.iinc 5 1, 3) := by decide +kernel
theorem dX8_sumOf_101 : decode cX8_sumOf 101 = .ok (.goto (-72), 3) := by decide +kernel
theorem dX8_sumOf_104 : decode cX8_sumOf 104 = .ok (.aload_n 3, 1) := by decide +kernel
theorem dX8_sumOf_105 : decode cX8_sumOf 105 = .ok (.invokevirtual 35, 3) := by decide +kernel
theorem dX8_sumOf_108 : decode cX8_sumOf 108 = .ok (.iconst 0, 1) := by decide +kernel
theorem dX8_sumOf_109 : decode cX8_sumOf 109 = .ok (.istore 5, 2) := by decide +kernel
theorem dX8_sumOf_111 : decode cX8_sumOf 111 = .ok (.iload 5, 2) := by decide +kernel
theorem dX8_sumOf_113 : decode cX8_sumOf 113 = .ok (.bipush 8, 2) := by decide +kernel
theorem dX8_sumOf_115 : decode cX8_sumOf 115 = .ok (.if_icmp .ge 20, 3) := by decide +kernel
theorem dX8_sumOf_118 : decode cX8_sumOf 118 = .ok (.aload_n 3, 1) := by decide +kernel
theorem dX8_sumOf_119 : decode cX8_sumOf 119 = .ok (.aload_n 0, 1) := by decide +kernel
theorem dX8_sumOf_120 : decode cX8_sumOf 120 = .ok (.getfield 13, 3) := by decide +kernel
theorem dX8_sumOf_123 : decode cX8_sumOf 123 = .ok (.iload 5, 2) := by decide +kernel
theorem dX8_sumOf_125 : decode cX8_sumOf 125 = .ok (.iaload, 1) := by decide +kernel
theorem dX8_sumOf_126 : decode cX8_sumOf 126 = .ok (.invokevirtual 40, 3) := by decide +kernel
theorem dX8_sumOf_129 : decode cX8_sumOf 129 = .ok (.iinc 5 1, 3) := by decide +kernel
theorem dX8_sumOf_132 : decode cX8_sumOf 132 = .ok (.goto (-21), 3) := by decide +kernel
theorem dX8_sumOf_135 : decode cX8_sumOf 135 = .ok (.return_, 1) := by decide +kernel
theorem dX8_wordAt_0 : decode cX8_wordAt 0 = .ok (.iconst 0, 1) := by decide +kernel
theorem dX8_wordAt_1 : decode cX8_wordAt 1 = .ok (.istore_n 3, 1) := by decide +kernel
theorem dX8_wordAt_2 : decode cX8_wordAt 2 = .ok (.iload_n 2, 1) := by decide +kernel
theorem dX8_wordAt_3 : decode cX8_wordAt 3 = .ok (.istore 4, 2) := by decide +kernel
theorem dX8_wordAt_5 : decode cX8_wordAt 5 = .ok (.iload 4, 2) := by decide +kernel
theorem dX8_wordAt_7 : decode cX8_wordAt 7 = .ok (.iload_n 2, 1) := by decide +kernel
theorem dX8_wordAt_8 : decode cX8_wordAt 8 = .ok (.iconst 4, 1) := by decide +kernel
theorem dX8_wordAt_9 : decode cX8_wordAt 9 = .ok (.iadd, 1) := by decide +kernel
theorem dX8_wordAt_10 : decode cX8_wordAt 10 = .ok (.if_icmp .ge 51, 3) := by decide +kernel
theorem dX8_wordAt_13 : decode cX8_wordAt 13 = .ok (.iload 4, 2) := by decide +kernel
theorem dX8_wordAt_15 : decode cX8_wordAt 15 = .ok (.iload_n 1, 1) := by decide +kernel
theorem dX8_wordAt_16 : decode cX8_wordAt 16 = .ok (.if_icmp .ge 16, 3) := by decide +kernel
theorem dX8_wordAt_19 : decode cX8_wordAt 19 = .ok (.aload_n 0, 1) := by decide +kernel
theorem dX8_wordAt_20 : decode cX8_wordAt 20 = .ok (.iload 4, 2) := by decide +kernel
theorem dX8_wordAt_22 : decode cX8_wordAt 22 = .ok (.invokevirtual 44, 3) := by decide +kernel
theorem dX8_wordAt_25 : decode cX8_wordAt 25 = .ok (.sipush 255, 3) := by decide +kernel
theorem dX8_wordAt_28 : decode cX8_wordAt 28 = .ok (.iand, 1) := by decide +kernel
theorem dX8_wordAt_29 : decode cX8_wordAt 29 = .ok (.goto 16, 3) := by decide +kernel
theorem dX8_wordAt_32 : decode cX8_wordAt 32 = .ok (.iload 4, 2) := by decide +kernel
theorem dX8_wordAt_34 : decode cX8_wordAt 34 = .ok (.iload_n 1, 1) := by decide +kernel
theorem dX8_wordAt_35 : decode cX8_wordAt 35 = .ok (.if_icmp .ne 9, 3) := by decide +kernel
theorem dX8_wordAt_38 : decode cX8_wordAt 38 = .ok (.sipush 128, 3) := by decide +kernel
theorem dX8_wordAt_41 : decode cX8_wordAt 41 = .ok (.goto 4, 3) := by decide +kernel
theorem dX8_wordAt_44 : decode cX8_wordAt 44 = .ok (.iconst 0, 1) := by decide +kernel
theorem dX8_wordAt_45 : decode cX8_wordAt 45 = .ok (.istore 5, 2) := by decide +kernel
theorem dX8_wordAt_47 : decode cX8_wordAt 47 = .ok (.iload_n 3, 1) := by decide +kernel
theorem dX8_wordAt_48 : decode cX8_wordAt 48 = .ok (.bipush 8, 2) := by decide +kernel
theorem dX8_wordAt_50 : decode cX8_wordAt 50 = .ok (.ishl, 1) := by decide +kernel
theorem dX8_wordAt_51 : decode cX8_wordAt 51 = .ok (.iload 5, 2) := by decide +kernel
theorem dX8_wordAt_53 : decode cX8_wordAt 53 = .ok (.ior, 1) := by decide +kernel
theorem dX8_wordAt_54 : decode cX8_wordAt 54 = .ok (.istore_n 3, 1) := by decide +kernel
theorem dX8_wordAt_55 : decode cX8_wordAt 55 = .ok (.iinc 4 1, 3) := by decide +kernel
theorem dX8_wordAt_58 : decode cX8_wordAt 58 = .ok (.goto (-53), 3) := by decide +kernel
theorem dX8_wordAt_61 : decode cX8_wordAt 61 = .ok (.iload_n 3, 1) := by decide +kernel
theorem dX8_wordAt_62 : decode cX8_wordAt 62 = .ok (.ireturn, 1) := by decide +kernel
theorem kt_240 : Cond.fieldLink RX8 51 "PostGate$Sha" "FACTORS" "[I" ∈ tb := tb_at (i := 1008) (by decide +kernel) (by decide +kernel)
theorem kt_241 : Cond.methodLink RX8 22 arraycopyName ∈ tb := tb_at (i := 995) (by decide +kernel) (by decide +kernel)
theorem kt_242 : Cond.native arraycopyName ∈ tb := tb_at (i := 550) (by decide +kernel) (by decide +kernel)
theorem kt_243 : Cond.static arraycopyName ∈ tb := tb_at (i := 549) (by decide +kernel) (by decide +kernel)
theorem kt_244 : Cond.initialized "java/lang/System" ∈ tb := tb_at (i := 98) (by decide +kernel) (by decide +kernel)
theorem kt_245 : Cond.code yX8_step cX8_step 10 none ∈ tb := tb_at (i := 1007) (by decide +kernel) (by decide +kernel)
theorem kt_246 : Cond.methodLink RX8 48 yX8_step ∈ tb := tb_at (i := 1004) (by decide +kernel) (by decide +kernel)
theorem kt_247 : Cond.instanceMethod yX8_step ∈ tb := tb_at (i := 1006) (by decide +kernel) (by decide +kernel)
theorem kt_248 : Cond.selects RX8 yX8_step yX8_step ∈ tb := tb_at (i := 26) (by decide +kernel) (by decide +kernel)
theorem kt_249 : Cond.fieldLink RX8 19 "PostGate$Sha" "BEGINNING" "[I" ∈ tb := tb_at (i := 993) (by decide +kernel) (by decide +kernel)
theorem kt_250 : Cond.code yX8_mix cX8_mix 6 none ∈ tb := tb_at (i := 1003) (by decide +kernel) (by decide +kernel)
theorem kt_251 : Cond.methodLink RX8 32 yX8_mix ∈ tb := tb_at (i := 1000) (by decide +kernel) (by decide +kernel)
theorem kt_252 : Cond.instanceMethod yX8_mix ∈ tb := tb_at (i := 1002) (by decide +kernel) (by decide +kernel)
theorem kt_253 : Cond.selects RX8 yX8_mix yX8_mix ∈ tb := tb_at (i := 25) (by decide +kernel) (by decide +kernel)
theorem kt_254 : Cond.methodLink RX8 35 yX0_clear ∈ tb := tb_at (i := 1010) (by decide +kernel) (by decide +kernel)
theorem kt_255 : Cond.methodLink RX8 40 yX0_addFour ∈ tb := tb_at (i := 1011) (by decide +kernel) (by decide +kernel)
theorem kt_256 : Cond.code yX8_wordAt cX8_wordAt 6 (some .int) ∈ tb := tb_at (i := 998) (by decide +kernel) (by decide +kernel)
theorem kt_257 : Cond.methodLink RX8 28 yX8_wordAt ∈ tb := tb_at (i := 996) (by decide +kernel) (by decide +kernel)
theorem kt_258 : Cond.static yX8_wordAt ∈ tb := tb_at (i := 997) (by decide +kernel) (by decide +kernel)
theorem kt_259 : Cond.code yX8_sumOf cX8_sumOf 7 none ∈ tb := tb_at (i := 992) (by decide +kernel) (by decide +kernel)
theorem kt_260 : Cond.methodLink RX11 173 yX8_sumOf ∈ tb := tb_at (i := 1189) (by decide +kernel) (by decide +kernel)
theorem kt_261 : Cond.instanceMethod yX8_sumOf ∈ tb := tb_at (i := 990) (by decide +kernel) (by decide +kernel)
theorem kt_262 : Cond.selects RX8 yX8_sumOf yX8_sumOf ∈ tb := tb_at (i := 991) (by decide +kernel) (by decide +kernel)
section
variable {p : Program} {l : Launch} {e : Env} {R : Room} {s : State} {m : MethodId} {args : Array Value} {below : List Frame} {meth : Method} {c : Code} {H : Heap} {locs : List Loc} {cells slots : Nat} {Q : State → Prop}
/-- arraycopy out of a static table of ints (the kit has this row for bytes, vk_copyt; turned to ints) -/
theorem cp_ti {cc : ByteArray} {pc : Nat} {ls : Array Slot} {rest : List Value} {A : Nat → Prop} {D : va_G} {cl : List vw_C} {tys : List (ClassId × FieldType)} {ws : va_W} {a : Nat} (hexec : p.tables.exec = Jvm.exec) (hb : c.code = cc) (hml : c.maxLocals = ls.size) {own : String} {index : Nat} (hown : s.vm.findClass own = some m.cls) (hlink : (Cond.methodLink own index arraycopyName).before args s = true) (hnat : (Cond.native arraycopyName).before args s = true) (hstat : (Cond.static arraycopyName).before args s = true) (hini : (Cond.initialized "java/lang/System").before args s = true)
    (hK : va_K D cl tys s) (hP : va_P D cl ws H) (hD : va_D A ws) (hS : va_S A s.heap H locs) {b0 n0 : Nat} {f : Nat → Int32} (hX : va_T .int b0 n0 (fun j => .int (f j)) A s s.heap) (q1 t1 : Nat) {c1 : ClassId} {n1 : Nat} {g : Nat → Int32} (ha1 : ws[q1]? = some (a, .inl (c1, n1, .inl g))) (ht1 : tys[t1]? = some (c1, .int))
    {sp dp n : Int32} (h1 : ¬ sp < 0) (h2 : ¬ dp < 0) (h3 : ¬ n < 0) (h4 : sp.toNatClampNeg + n.toNatClampNeg ≤ n0) (h5 : dp.toNatClampNeg + n.toNatClampNeg ≤ n1)
    (hframes : 1 ≤ R.frames) (hlocals : (rest.map fun v => v.category).sum + (nativeFrameWords "java/lang/System" "arraycopy" 5 + 11) ≤ R.locals) (hdg : decode cc pc = .ok (.invokestatic index, 3))
    (kk : ∀ (H1 : Heap) (locs1 : List Loc), va_P D cl (ws.set q1 (a, .inl (c1, n1, .inl (va_cpy f g sp.toNatClampNeg dp.toNatClampNeg n.toNatClampNeg)))) H1 → va_D A (ws.set q1 (a, .inl (c1, n1, .inl (va_cpy f g sp.toNatClampNeg dp.toNatClampNeg n.toNatClampNeg)))) → va_S A s.heap H1 locs1 → W p l e R s m args below meth c H1 locs1 cells slots Q (F0 m (pc + 3) ls rest)) : W p l e R s m args below meth c H locs cells slots Q (F0 m pc ls (.int n :: .int dp :: .ref a :: .int sp :: .ref b0 :: rest)) := by
  have nn : ∀ z : Int32, ¬ z < 0 → z.toInt = (z.toNatClampNeg : Int) := by
    intro z hz
    obtain ⟨j, hj, rfl⟩ := nI_of hz
    rw [nI_toInt hj, nI_clamp hj]
  intro T hT X
  obtain ⟨scr, hs1, hs2, hs3, hs4, -, hs5, hs7⟩ := hX
  have hc0 : H[b0]? = some scr := by rw [hS.2.1 b0 (Array.getElem?_eq_some_iff.mp hs1).1 hs7]; exact hs1
  have hc1 : H[a]? = some (vp_cell c1 (n1, .inl g)) := hP q1 _ ha1
  obtain ⟨hs6, k0, hk0, cm0, hkk0⟩ := hs2
  obtain ⟨-, k1, hk1, cm1, hkk1⟩ := (hK.2 t1 _ ht1).1 n1 (fun j => .int (g j))
  obtain ⟨vm', X', step⟩ := X.arraycopy hexec hown hlink hnat hstat hini (src := b0) (dst := a) (cs := scr) (cd := vp_cell c1 (n1, .inl g)) (srcPos := sp) (destPos := dp) (n := n) (by rw [hT]; exact hc0) (by rw [hT]; exact hc1)
    hs6 (fun _ h => by cases h) hs3 (fun h => by cases h) hk0 hk1 hkk0 hkk1 (by simp [refKind]) h1 h2 h3
    (by rw [nn sp h1, nn n h3]; omega)
    (by rw [nn dp h2, nn n h3]; show ¬ _ > ((arrV c1 n1 (fun j => .int (g j))).slots.size : Int); rw [arrV_size]; omega)
    (fun vm₁ _ i hi => by
      have e : scr.slots.getD (sp.toNatClampNeg + i) .null = .int (f (sp.toNatClampNeg + i)) := by
        rw [Array.getD_eq_getD_getElem?, hs5 _ (by omega)]
        rfl
      refine ⟨?_, ?_⟩
      · rw [e]
        rfl
      · rw [e]
        exact trivial)
    (g := F0 m pc ls (.int n :: .int dp :: .ref a :: .int sp :: .ref b0 :: rest)) rfl (by rw [hml]) (rest := rest) rfl (by rw [hb]; exact hdg) hframes (by show 2 * 0 + _ + _ ≤ _; omega)
  have e1 : copied scr (vp_cell c1 (n1, .inl g)) sp dp n = vp_cell c1 (n1, .inl (va_cpy f g sp.toNatClampNeg dp.toNatClampNeg n.toNatClampNeg)) := va_copiedX (fun z => .int z) scr c1 f g hs5 h4
  rw [e1] at X' step
  have hl : a < H.size := (Array.getElem?_eq_some_iff.mp hc1).1
  have hheap : ((T.setVm vm').setCell a (vp_cell c1 (n1, .inl (va_cpy f g sp.toNatClampNeg dp.toNatClampNeg n.toNatClampNeg)))).heap = H.setIfInBounds a (vp_cell c1 (n1, .inl (va_cpy f g sp.toNatClampNeg dp.toNatClampNeg n.toNatClampNeg))) := by rw [← hT]; rfl
  have oq : ∀ q : Nat, q ≠ a → (H.setIfInBounds a (vp_cell c1 (n1, .inl (va_cpy f g sp.toNatClampNeg dp.toNatClampNeg n.toNatClampNeg))))[q]? = H[q]? := fun q hq => by simp [Array.getElem?_setIfInBounds, Ne.symm hq]
  obtain ⟨t, a1, b1⟩ := kk _ _ (hP.set hD ha1 (show (H.setIfInBounds a _)[a]? = some _ by simp [Array.getElem?_setIfInBounds, hl]) oq) (hD.set ha1) ⟨by simp; exact hS.1, fun q g1 g2 => by
      rw [oq q (fun e => g2 (by rw [e]; exact hD.2 q1 _ ha1))]
      exact hS.2.1 q g1 g2, fun q hq => by
      rcases List.mem_append.mp hq with h | h
      · exact hS.2.2 q h
      · obtain ⟨z, -, hz⟩ := List.mem_map.mp h
        rw [← hz]
        exact hD.2 q1 _ ha1⟩ _ hheap X'
  exact ⟨t, step t a1, b1⟩
end
set_option maxHeartbeats 4000000 in
set_option maxRecDepth 100000 in
theorem c_X8_step (l : Launch) (dC : Nat → ClassId) (dI : Nat → Nat → Nat) (sz : Nat) (h0 : Nat) (qw : Nat) (qs : Nat) (qt : Nat) (i : Nat) (cw : ClassId) (ct : ClassId) (f : Nat → Int32) (k : Nat → Int32) (hi : i < 64) : Met l yX8_step (.code yX8_step cX8_step 10 none :: tb) ({ frames := 0, cells := 0, slots := 0, locals := 0 }) (va_Pc [.ref h0, .int (nI i)] (PWS (dC, dI) sz [(h0, .inr (8, [.ref qw, .ref qs, .ref qt])), (qw, .inl (cw, 64, .inl f)), (qt, .inl (ct, 8, .inl k))] [(cw, .int), (ct, .int)])) (va_Qv (fun _ : Unit => True) (fun _ T9 => ∃ (k2 : Nat → Int32), QW (dC, dI) (va_A [(h0, .inr (8, [.ref qw, .ref qs, .ref qt])), (qw, .inl (cw, 64, .inl f)), (qt, .inl (ct, 8, .inl k))] sz) [(h0, .inr (8, [.ref qw, .ref qs, .ref qt])), (qw, .inl (cw, 64, .inl f)), (qt, .inl (ct, 8, .inl k2))] [(cw, .int), (ct, .int)] T9) (va_A [(h0, .inr (8, [.ref qw, .ref qs, .ref qt])), (qw, .inl (cw, 64, .inl f)), (qt, .inl (ct, 8, .inl k))] sz)) 0 0 (va_A [(h0, .inr (8, [.ref qw, .ref qs, .ref qt])), (qw, .inl (cw, 64, .inl f)), (qt, .inl (ct, 8, .inl k))] sz) := by
  refine Met.ofW (cc := cX8_step) (maxL := 10) (ret := none) (by decide) rfl ?_
  intro p e s m args below meth c s₁ B hml hv
  obtain ⟨rfl, ⟨hsz, hP, hK, hD0, hE⟩, hZ⟩ := hv
  have hx := B.exec
  have hb := B.bytes
  have hr := B.returns
  have hts : ∀ w ∈ tb, w.before _ s = true := fun w h => atoms_spec (ws := .code yX8_step cX8_step 10 none :: tb) B.pre w (List.mem_cons_of_mem _ h)
  have hown : s.vm.findClass RX8 = some m.cls := findClass_of_methodNamed B.named
  have hlocks := B.notSynchronized
  subst hsz
  have hD := hD0.self (sz := s.heap.size)
  generalize hAe : va_A [(h0, .inr (8, [.ref qw, .ref qs, .ref qt])), (qw, .inl (cw, 64, .inl f)), (qt, .inl (ct, 8, .inl k))] s.heap.size = A at hD hZ ⊢
  obtain ⟨aB, aF, fB, fF, zB, tB, zF, tF⟩ := id hZ
  have hA : ∀ q : Nat, s.heap.size ≤ q → A q := fun q h => by rw [← hAe]; exact Or.inr h
  have hS : va_S A s.heap s.heap [] := va_S.rf
  have hP : va_P (dC, dI) vwCl [(h0, .inr (8, [.ref qw, .ref qs, .ref qt])), (qw, .inl (cw, 64, .inl f)), (qt, .inl (ct, 8, .inl k))] s.heap := hP
  have hl := lv_entry ([.ref h0, .int (nI i)]) (n := 10) (Nat.le_of_ble_eq_true rfl)
  rw [lg_entry_eq]
  generalize (lg_sl ([.ref h0, .int (nI i)]) ++ List.replicate (10 - (lg_sl ([.ref h0, .int (nI i)])).length) Slot.unset).toArray = ls at hl ⊢
  have hl : lv_has ls 10 [(0, .ref h0), (1, .int (nI i))] := hl
  refine lv_aload_n hx hb dX8_step_0 rfl (lv_at hl 0 rfl) ?_
  refine va_get (D := (dC, dI)) (ci := 8) (v := .ref qt) (C := RX8) (T := TX8) (N := 3) hx hb hts it_8 hown hK hP 0 rfl rfl 2 (by decide) (hts _ kt_36) (fun _ h9 => h9) rfl dX8_step_1 ?_
  refine lv_iconst (v := 0) hx hb dX8_step_4 (by decide) ?_
  refine va_iald hx hb hK hP 2 1 rfl rfl (show vp_in (0 : Int32) 8 from (show vp_in (nI 0) 8 from vp_in_nI (by omega) (by omega))) dX8_step_5 ?_
  refine lv_topi (fun x_1 _ => ?_)
  refine lv_istore_n (lv' := [(2, .int x_1), (0, .ref h0), (1, .int (nI i))]) hx hb dX8_step_6 rfl hl (by decide) rfl (fun ls hl => ?_)
  refine lv_aload_n hx hb dX8_step_7 rfl (lv_at hl 1 rfl) ?_
  refine va_get (D := (dC, dI)) (ci := 8) (v := .ref qt) (C := RX8) (T := TX8) (N := 3) hx hb hts it_8 hown hK hP 0 rfl rfl 2 (by decide) (hts _ kt_36) (fun _ h9 => h9) rfl dX8_step_8 ?_
  refine lv_iconst (v := 4) hx hb dX8_step_11 (by decide) ?_
  refine va_iald hx hb hK hP 2 1 rfl rfl (show vp_in (4 : Int32) 8 from (show vp_in (nI 4) 8 from vp_in_nI (by omega) (by omega))) dX8_step_12 ?_
  refine lv_topi (fun x_2 _ => ?_)
  refine lv_istore_n (lv' := [(3, .int x_2), (2, .int x_1), (0, .ref h0), (1, .int (nI i))]) hx hb dX8_step_13 rfl hl (by decide) rfl (fun ls hl => ?_)
  refine lv_iload_n hx hb dX8_step_14 rfl (lv_at hl 0 rfl) ?_
  refine lv_aload_n hx hb dX8_step_15 rfl (lv_at hl 2 rfl) ?_
  refine va_get (D := (dC, dI)) (ci := 8) (v := .ref qt) (C := RX8) (T := TX8) (N := 3) hx hb hts it_8 hown hK hP 0 rfl rfl 2 (by decide) (hts _ kt_36) (fun _ h9 => h9) rfl dX8_step_16 ?_
  refine lv_iconst (v := 5) hx hb dX8_step_19 (by decide) ?_
  refine va_iald hx hb hK hP 2 1 rfl rfl (show vp_in (5 : Int32) 8 from (show vp_in (nI 5) 8 from vp_in_nI (by omega) (by omega))) dX8_step_20 ?_
  refine lv_topi (fun x_3 _ => ?_)
  refine lv_iand hx hb dX8_step_21 ?_
  refine lv_topi (fun x_4 _ => ?_)
  refine lv_iload_n hx hb dX8_step_22 rfl (lv_at hl 0 rfl) ?_
  refine lv_iconst (v := (-1)) hx hb dX8_step_23 (by decide) ?_
  refine lv_ixor hx hb dX8_step_24 ?_
  refine lv_topi (fun x_5 _ => ?_)
  refine lv_aload_n hx hb dX8_step_25 rfl (lv_at hl 2 rfl) ?_
  refine va_get (D := (dC, dI)) (ci := 8) (v := .ref qt) (C := RX8) (T := TX8) (N := 3) hx hb hts it_8 hown hK hP 0 rfl rfl 2 (by decide) (hts _ kt_36) (fun _ h9 => h9) rfl dX8_step_26 ?_
  refine lv_bipush (v := 6) hx hb dX8_step_29 (by decide) ?_
  refine va_iald hx hb hK hP 2 1 rfl rfl (show vp_in (6 : Int32) 8 from (show vp_in (nI 6) 8 from vp_in_nI (by omega) (by omega))) dX8_step_31 ?_
  refine lv_topi (fun x_6 _ => ?_)
  refine lv_iand hx hb dX8_step_32 ?_
  refine lv_topi (fun x_7 _ => ?_)
  refine lv_ixor hx hb dX8_step_33 ?_
  refine lv_topi (fun x_8 _ => ?_)
  refine lv_istore (lv' := [(4, .int x_8), (3, .int x_2), (2, .int x_1), (0, .ref h0), (1, .int (nI i))]) hx hb dX8_step_34 hl (by decide) rfl (fun ls hl => ?_)
  refine lv_iload_n hx hb dX8_step_36 rfl (lv_at hl 2 rfl) ?_
  refine lv_aload_n hx hb dX8_step_37 rfl (lv_at hl 3 rfl) ?_
  refine va_get (D := (dC, dI)) (ci := 8) (v := .ref qt) (C := RX8) (T := TX8) (N := 3) hx hb hts it_8 hown hK hP 0 rfl rfl 2 (by decide) (hts _ kt_36) (fun _ h9 => h9) rfl dX8_step_38 ?_
  refine lv_iconst (v := 1) hx hb dX8_step_41 (by decide) ?_
  refine va_iald hx hb hK hP 2 1 rfl rfl (show vp_in (1 : Int32) 8 from (show vp_in (nI 1) 8 from vp_in_nI (by omega) (by omega))) dX8_step_42 ?_
  refine lv_topi (fun x_9 _ => ?_)
  refine lv_iand hx hb dX8_step_43 ?_
  refine lv_topi (fun x_10 _ => ?_)
  refine lv_iload_n hx hb dX8_step_44 rfl (lv_at hl 2 rfl) ?_
  refine lv_aload_n hx hb dX8_step_45 rfl (lv_at hl 3 rfl) ?_
  refine va_get (D := (dC, dI)) (ci := 8) (v := .ref qt) (C := RX8) (T := TX8) (N := 3) hx hb hts it_8 hown hK hP 0 rfl rfl 2 (by decide) (hts _ kt_36) (fun _ h9 => h9) rfl dX8_step_46 ?_
  refine lv_iconst (v := 2) hx hb dX8_step_49 (by decide) ?_
  refine va_iald hx hb hK hP 2 1 rfl rfl (show vp_in (2 : Int32) 8 from (show vp_in (nI 2) 8 from vp_in_nI (by omega) (by omega))) dX8_step_50 ?_
  refine lv_topi (fun x_11 _ => ?_)
  refine lv_iand hx hb dX8_step_51 ?_
  refine lv_topi (fun x_12 _ => ?_)
  refine lv_ixor hx hb dX8_step_52 ?_
  refine lv_topi (fun x_13 _ => ?_)
  refine lv_aload_n hx hb dX8_step_53 rfl (lv_at hl 3 rfl) ?_
  refine va_get (D := (dC, dI)) (ci := 8) (v := .ref qt) (C := RX8) (T := TX8) (N := 3) hx hb hts it_8 hown hK hP 0 rfl rfl 2 (by decide) (hts _ kt_36) (fun _ h9 => h9) rfl dX8_step_54 ?_
  refine lv_iconst (v := 1) hx hb dX8_step_57 (by decide) ?_
  refine va_iald hx hb hK hP 2 1 rfl rfl (show vp_in (1 : Int32) 8 from (show vp_in (nI 1) 8 from vp_in_nI (by omega) (by omega))) dX8_step_58 ?_
  refine lv_topi (fun x_14 _ => ?_)
  refine lv_aload_n hx hb dX8_step_59 rfl (lv_at hl 3 rfl) ?_
  refine va_get (D := (dC, dI)) (ci := 8) (v := .ref qt) (C := RX8) (T := TX8) (N := 3) hx hb hts it_8 hown hK hP 0 rfl rfl 2 (by decide) (hts _ kt_36) (fun _ h9 => h9) rfl dX8_step_60 ?_
  refine lv_iconst (v := 2) hx hb dX8_step_63 (by decide) ?_
  refine va_iald hx hb hK hP 2 1 rfl rfl (show vp_in (2 : Int32) 8 from (show vp_in (nI 2) 8 from vp_in_nI (by omega) (by omega))) dX8_step_64 ?_
  refine lv_topi (fun x_15 _ => ?_)
  refine lv_iand hx hb dX8_step_65 ?_
  refine lv_topi (fun x_16 _ => ?_)
  refine lv_ixor hx hb dX8_step_66 ?_
  refine lv_topi (fun x_17 _ => ?_)
  refine lv_istore (lv' := [(5, .int x_17), (4, .int x_8), (3, .int x_2), (2, .int x_1), (0, .ref h0), (1, .int (nI i))]) hx hb dX8_step_67 hl (by decide) rfl (fun ls hl => ?_)
  refine lv_iload_n hx hb dX8_step_69 rfl (lv_at hl 2 rfl) ?_
  refine lv_bipush (v := 6) hx hb dX8_step_70 (by decide) ?_
  refine lv_iushr hx hb dX8_step_72 rfl ?_
  refine lv_topi (fun x_19 _ => ?_)
  refine lv_iload_n hx hb dX8_step_73 rfl (lv_at hl 2 rfl) ?_
  refine lv_bipush (v := 26) hx hb dX8_step_74 (by decide) ?_
  refine lv_ishl hx hb dX8_step_76 ?_
  refine lv_topi (fun x_20 _ => ?_)
  refine lv_ior hx hb dX8_step_77 ?_
  refine lv_topi (fun x_21 _ => ?_)
  refine lv_iload_n hx hb dX8_step_78 rfl (lv_at hl 2 rfl) ?_
  refine lv_bipush (v := 11) hx hb dX8_step_79 (by decide) ?_
  refine lv_iushr hx hb dX8_step_81 rfl ?_
  refine lv_topi (fun x_23 _ => ?_)
  refine lv_iload_n hx hb dX8_step_82 rfl (lv_at hl 2 rfl) ?_
  refine lv_bipush (v := 21) hx hb dX8_step_83 (by decide) ?_
  refine lv_ishl hx hb dX8_step_85 ?_
  refine lv_topi (fun x_24 _ => ?_)
  refine lv_ior hx hb dX8_step_86 ?_
  refine lv_topi (fun x_25 _ => ?_)
  refine lv_ixor hx hb dX8_step_87 ?_
  refine lv_topi (fun x_26 _ => ?_)
  refine lv_iload_n hx hb dX8_step_88 rfl (lv_at hl 2 rfl) ?_
  refine lv_bipush (v := 25) hx hb dX8_step_89 (by decide) ?_
  refine lv_iushr hx hb dX8_step_91 rfl ?_
  refine lv_topi (fun x_28 _ => ?_)
  refine lv_iload_n hx hb dX8_step_92 rfl (lv_at hl 2 rfl) ?_
  refine lv_bipush (v := 7) hx hb dX8_step_93 (by decide) ?_
  refine lv_ishl hx hb dX8_step_95 ?_
  refine lv_topi (fun x_29 _ => ?_)
  refine lv_ior hx hb dX8_step_96 ?_
  refine lv_topi (fun x_30 _ => ?_)
  refine lv_ixor hx hb dX8_step_97 ?_
  refine lv_topi (fun x_31 _ => ?_)
  refine lv_istore (lv' := [(6, .int x_31), (5, .int x_17), (4, .int x_8), (3, .int x_2), (2, .int x_1), (0, .ref h0), (1, .int (nI i))]) hx hb dX8_step_98 hl (by decide) rfl (fun ls hl => ?_)
  refine lv_iload_n hx hb dX8_step_100 rfl (lv_at hl 4 rfl) ?_
  refine lv_iconst (v := 2) hx hb dX8_step_101 (by decide) ?_
  refine lv_iushr hx hb dX8_step_102 rfl ?_
  refine lv_topi (fun x_33 _ => ?_)
  refine lv_iload_n hx hb dX8_step_103 rfl (lv_at hl 4 rfl) ?_
  refine lv_bipush (v := 30) hx hb dX8_step_104 (by decide) ?_
  refine lv_ishl hx hb dX8_step_106 ?_
  refine lv_topi (fun x_34 _ => ?_)
  refine lv_ior hx hb dX8_step_107 ?_
  refine lv_topi (fun x_35 _ => ?_)
  refine lv_iload_n hx hb dX8_step_108 rfl (lv_at hl 4 rfl) ?_
  refine lv_bipush (v := 13) hx hb dX8_step_109 (by decide) ?_
  refine lv_iushr hx hb dX8_step_111 rfl ?_
  refine lv_topi (fun x_37 _ => ?_)
  refine lv_iload_n hx hb dX8_step_112 rfl (lv_at hl 4 rfl) ?_
  refine lv_bipush (v := 19) hx hb dX8_step_113 (by decide) ?_
  refine lv_ishl hx hb dX8_step_115 ?_
  refine lv_topi (fun x_38 _ => ?_)
  refine lv_ior hx hb dX8_step_116 ?_
  refine lv_topi (fun x_39 _ => ?_)
  refine lv_ixor hx hb dX8_step_117 ?_
  refine lv_topi (fun x_40 _ => ?_)
  refine lv_iload_n hx hb dX8_step_118 rfl (lv_at hl 4 rfl) ?_
  refine lv_bipush (v := 22) hx hb dX8_step_119 (by decide) ?_
  refine lv_iushr hx hb dX8_step_121 rfl ?_
  refine lv_topi (fun x_42 _ => ?_)
  refine lv_iload_n hx hb dX8_step_122 rfl (lv_at hl 4 rfl) ?_
  refine lv_bipush (v := 10) hx hb dX8_step_123 (by decide) ?_
  refine lv_ishl hx hb dX8_step_125 ?_
  refine lv_topi (fun x_43 _ => ?_)
  refine lv_ior hx hb dX8_step_126 ?_
  refine lv_topi (fun x_44 _ => ?_)
  refine lv_ixor hx hb dX8_step_127 ?_
  refine lv_topi (fun x_45 _ => ?_)
  refine lv_istore (lv' := [(7, .int x_45), (6, .int x_31), (5, .int x_17), (4, .int x_8), (3, .int x_2), (2, .int x_1), (0, .ref h0), (1, .int (nI i))]) hx hb dX8_step_128 hl (by decide) rfl (fun ls hl => ?_)
  refine lv_aload_n hx hb dX8_step_130 rfl (lv_at hl 6 rfl) ?_
  refine va_get (D := (dC, dI)) (ci := 8) (v := .ref qt) (C := RX8) (T := TX8) (N := 3) hx hb hts it_8 hown hK hP 0 rfl rfl 2 (by decide) (hts _ kt_36) (fun _ h9 => h9) rfl dX8_step_131 ?_
  refine lv_bipush (v := 7) hx hb dX8_step_134 (by decide) ?_
  refine va_iald hx hb hK hP 2 1 rfl rfl (show vp_in (7 : Int32) 8 from (show vp_in (nI 7) 8 from vp_in_nI (by omega) (by omega))) dX8_step_136 ?_
  refine lv_topi (fun x_46 _ => ?_)
  refine lv_iload hx hb dX8_step_137 (lv_at hl 1 rfl) ?_
  refine lv_iadd hx hb dX8_step_139 ?_
  refine lv_topi (fun x_47 _ => ?_)
  refine lv_iload hx hb dX8_step_140 (lv_at hl 3 rfl) ?_
  refine lv_iadd hx hb dX8_step_142 ?_
  refine lv_topi (fun x_48 _ => ?_)
  refine va_gets hx hb zF hS hown (hts _ kt_240) (fun _ h9 => h9) dX8_step_143 ?_
  refine lv_iload_n hx hb dX8_step_146 rfl (lv_at hl 7 rfl) ?_
  refine va_ti hx hb tF hS (vp_in_nI (by omega) (by omega)) rfl dX8_step_147 ?_
  refine lv_topi (fun x_49 _ => ?_)
  refine lv_iadd hx hb dX8_step_148 ?_
  refine lv_topi (fun x_50 _ => ?_)
  refine lv_aload_n hx hb dX8_step_149 rfl (lv_at hl 6 rfl) ?_
  refine va_get (D := (dC, dI)) (ci := 8) (v := .ref qw) (C := RX8) (T := TX8) (N := 3) hx hb hts it_8 hown hK hP 0 rfl rfl 0 (by decide) (hts _ kt_34) (fun _ h9 => h9) rfl dX8_step_150 ?_
  refine lv_iload_n hx hb dX8_step_153 rfl (lv_at hl 7 rfl) ?_
  refine va_iald hx hb hK hP 1 0 rfl rfl (vp_in_nI (by omega) (by omega)) dX8_step_154 ?_
  refine lv_topi (fun x_51 _ => ?_)
  refine lv_iadd hx hb dX8_step_155 ?_
  refine lv_topi (fun x_52 _ => ?_)
  refine lv_istore (lv' := [(8, .int x_52), (7, .int x_45), (6, .int x_31), (5, .int x_17), (4, .int x_8), (3, .int x_2), (2, .int x_1), (0, .ref h0), (1, .int (nI i))]) hx hb dX8_step_156 hl (by decide) rfl (fun ls hl => ?_)
  refine lv_bipush (v := 7) hx hb dX8_step_158 (by decide) ?_
  refine lv_istore (lv' := [(9, .int 7), (8, .int x_52), (7, .int x_45), (6, .int x_31), (5, .int x_17), (4, .int x_8), (3, .int x_2), (2, .int x_1), (0, .ref h0), (1, .int (nI i))]) hx hb dX8_step_160 hl (by decide) rfl (fun ls hl => ?_)
  refine lv_iload hx hb dX8_step_162 (lv_at hl 0 rfl) ?_
  refine lv_if_le (tgt := 189) hx hb dX8_step_164 (by decide) (fun c_53 => absurd c_53 (by decide)) (fun c_53 => ?_)
  refine lv_aload_n hx hb dX8_step_167 rfl (lv_at hl 8 rfl) ?_
  refine va_get (D := (dC, dI)) (ci := 8) (v := .ref qt) (C := RX8) (T := TX8) (N := 3) hx hb hts it_8 hown hK hP 0 rfl rfl 2 (by decide) (hts _ kt_36) (fun _ h9 => h9) rfl dX8_step_168 ?_
  refine lv_iload hx hb dX8_step_171 (lv_at hl 0 rfl) ?_
  refine lv_aload_n hx hb dX8_step_173 rfl (lv_at hl 8 rfl) ?_
  refine va_get (D := (dC, dI)) (ci := 8) (v := .ref qt) (C := RX8) (T := TX8) (N := 3) hx hb hts it_8 hown hK hP 0 rfl rfl 2 (by decide) (hts _ kt_36) (fun _ h9 => h9) rfl dX8_step_174 ?_
  refine lv_iload hx hb dX8_step_177 (lv_at hl 0 rfl) ?_
  refine lv_iconst (v := 1) hx hb dX8_step_179 (by decide) ?_
  refine lv_isub hx hb dX8_step_180 ?_
  refine lv_topi (fun x_54 ex_54 => ?_)
  obtain rfl : x_54 = 6 := ex_54.trans (by decide)
  refine va_iald hx hb hK hP 2 1 rfl rfl (show vp_in (6 : Int32) 8 from (show vp_in (nI 6) 8 from vp_in_nI (by omega) (by omega))) dX8_step_181 ?_
  refine lv_topi (fun x_55 _ => ?_)
  refine va_iast hx hb hK hP hD hS 2 1 rfl rfl (show vp_in (7 : Int32) 8 from (show vp_in (nI 7) 8 from vp_in_nI (by omega) (by omega))) dX8_step_182 (fun H locs hP hD hS => ?_)
  obtain ⟨f_56, hP, hD⟩ : ∃ f_56 : Nat → Int32, va_P (dC, dI) vwCl [(h0, .inr (8, [.ref qw, .ref qs, .ref qt])), (qw, .inl (cw, 64, .inl f)), (qt, .inl (ct, 8, .inl f_56))] H ∧ va_D A [(h0, .inr (8, [.ref qw, .ref qs, .ref qt])), (qw, .inl (cw, 64, .inl f)), (qt, .inl (ct, 8, .inl f_56))] := ⟨_, hP, hD⟩
  refine lv_iinc (v := 6) (lv' := [(9, .int 6), (8, .int x_52), (7, .int x_45), (6, .int x_31), (5, .int x_17), (4, .int x_8), (3, .int x_2), (2, .int x_1), (0, .ref h0), (1, .int (nI i))]) hx hb dX8_step_183 hl (k := 0) rfl (by decide) (by decide) rfl (fun ls hl => ?_)
  refine lv_goto (tgt := 162) hx hb dX8_step_186 (by decide) ?_
  refine lv_iload hx hb dX8_step_162 (lv_at hl 0 rfl) ?_
  refine lv_if_le (tgt := 189) hx hb dX8_step_164 (by decide) (fun c_57 => absurd c_57 (by decide)) (fun c_57 => ?_)
  refine lv_aload_n hx hb dX8_step_167 rfl (lv_at hl 8 rfl) ?_
  refine va_get (D := (dC, dI)) (ci := 8) (v := .ref qt) (C := RX8) (T := TX8) (N := 3) hx hb hts it_8 hown hK hP 0 rfl rfl 2 (by decide) (hts _ kt_36) (fun _ h9 => h9) rfl dX8_step_168 ?_
  refine lv_iload hx hb dX8_step_171 (lv_at hl 0 rfl) ?_
  refine lv_aload_n hx hb dX8_step_173 rfl (lv_at hl 8 rfl) ?_
  refine va_get (D := (dC, dI)) (ci := 8) (v := .ref qt) (C := RX8) (T := TX8) (N := 3) hx hb hts it_8 hown hK hP 0 rfl rfl 2 (by decide) (hts _ kt_36) (fun _ h9 => h9) rfl dX8_step_174 ?_
  refine lv_iload hx hb dX8_step_177 (lv_at hl 0 rfl) ?_
  refine lv_iconst (v := 1) hx hb dX8_step_179 (by decide) ?_
  refine lv_isub hx hb dX8_step_180 ?_
  refine lv_topi (fun x_58 ex_58 => ?_)
  obtain rfl : x_58 = 5 := ex_58.trans (by decide)
  refine va_iald hx hb hK hP 2 1 rfl rfl (show vp_in (5 : Int32) 8 from (show vp_in (nI 5) 8 from vp_in_nI (by omega) (by omega))) dX8_step_181 ?_
  refine lv_topi (fun x_59 _ => ?_)
  refine va_iast hx hb hK hP hD hS 2 1 rfl rfl (show vp_in (6 : Int32) 8 from (show vp_in (nI 6) 8 from vp_in_nI (by omega) (by omega))) dX8_step_182 (fun H locs hP hD hS => ?_)
  obtain ⟨f_60, hP, hD⟩ : ∃ f_60 : Nat → Int32, va_P (dC, dI) vwCl [(h0, .inr (8, [.ref qw, .ref qs, .ref qt])), (qw, .inl (cw, 64, .inl f)), (qt, .inl (ct, 8, .inl f_60))] H ∧ va_D A [(h0, .inr (8, [.ref qw, .ref qs, .ref qt])), (qw, .inl (cw, 64, .inl f)), (qt, .inl (ct, 8, .inl f_60))] := ⟨_, hP, hD⟩
  refine lv_iinc (v := 5) (lv' := [(9, .int 5), (8, .int x_52), (7, .int x_45), (6, .int x_31), (5, .int x_17), (4, .int x_8), (3, .int x_2), (2, .int x_1), (0, .ref h0), (1, .int (nI i))]) hx hb dX8_step_183 hl (k := 0) rfl (by decide) (by decide) rfl (fun ls hl => ?_)
  refine lv_goto (tgt := 162) hx hb dX8_step_186 (by decide) ?_
  refine lv_iload hx hb dX8_step_162 (lv_at hl 0 rfl) ?_
  refine lv_if_le (tgt := 189) hx hb dX8_step_164 (by decide) (fun c_61 => absurd c_61 (by decide)) (fun c_61 => ?_)
  refine lv_aload_n hx hb dX8_step_167 rfl (lv_at hl 8 rfl) ?_
  refine va_get (D := (dC, dI)) (ci := 8) (v := .ref qt) (C := RX8) (T := TX8) (N := 3) hx hb hts it_8 hown hK hP 0 rfl rfl 2 (by decide) (hts _ kt_36) (fun _ h9 => h9) rfl dX8_step_168 ?_
  refine lv_iload hx hb dX8_step_171 (lv_at hl 0 rfl) ?_
  refine lv_aload_n hx hb dX8_step_173 rfl (lv_at hl 8 rfl) ?_
  refine va_get (D := (dC, dI)) (ci := 8) (v := .ref qt) (C := RX8) (T := TX8) (N := 3) hx hb hts it_8 hown hK hP 0 rfl rfl 2 (by decide) (hts _ kt_36) (fun _ h9 => h9) rfl dX8_step_174 ?_
  refine lv_iload hx hb dX8_step_177 (lv_at hl 0 rfl) ?_
  refine lv_iconst (v := 1) hx hb dX8_step_179 (by decide) ?_
  refine lv_isub hx hb dX8_step_180 ?_
  refine lv_topi (fun x_62 ex_62 => ?_)
  obtain rfl : x_62 = 4 := ex_62.trans (by decide)
  refine va_iald hx hb hK hP 2 1 rfl rfl (show vp_in (4 : Int32) 8 from (show vp_in (nI 4) 8 from vp_in_nI (by omega) (by omega))) dX8_step_181 ?_
  refine lv_topi (fun x_63 _ => ?_)
  refine va_iast hx hb hK hP hD hS 2 1 rfl rfl (show vp_in (5 : Int32) 8 from (show vp_in (nI 5) 8 from vp_in_nI (by omega) (by omega))) dX8_step_182 (fun H locs hP hD hS => ?_)
  obtain ⟨f_64, hP, hD⟩ : ∃ f_64 : Nat → Int32, va_P (dC, dI) vwCl [(h0, .inr (8, [.ref qw, .ref qs, .ref qt])), (qw, .inl (cw, 64, .inl f)), (qt, .inl (ct, 8, .inl f_64))] H ∧ va_D A [(h0, .inr (8, [.ref qw, .ref qs, .ref qt])), (qw, .inl (cw, 64, .inl f)), (qt, .inl (ct, 8, .inl f_64))] := ⟨_, hP, hD⟩
  refine lv_iinc (v := 4) (lv' := [(9, .int 4), (8, .int x_52), (7, .int x_45), (6, .int x_31), (5, .int x_17), (4, .int x_8), (3, .int x_2), (2, .int x_1), (0, .ref h0), (1, .int (nI i))]) hx hb dX8_step_183 hl (k := 0) rfl (by decide) (by decide) rfl (fun ls hl => ?_)
  refine lv_goto (tgt := 162) hx hb dX8_step_186 (by decide) ?_
  refine lv_iload hx hb dX8_step_162 (lv_at hl 0 rfl) ?_
  refine lv_if_le (tgt := 189) hx hb dX8_step_164 (by decide) (fun c_65 => absurd c_65 (by decide)) (fun c_65 => ?_)
  refine lv_aload_n hx hb dX8_step_167 rfl (lv_at hl 8 rfl) ?_
  refine va_get (D := (dC, dI)) (ci := 8) (v := .ref qt) (C := RX8) (T := TX8) (N := 3) hx hb hts it_8 hown hK hP 0 rfl rfl 2 (by decide) (hts _ kt_36) (fun _ h9 => h9) rfl dX8_step_168 ?_
  refine lv_iload hx hb dX8_step_171 (lv_at hl 0 rfl) ?_
  refine lv_aload_n hx hb dX8_step_173 rfl (lv_at hl 8 rfl) ?_
  refine va_get (D := (dC, dI)) (ci := 8) (v := .ref qt) (C := RX8) (T := TX8) (N := 3) hx hb hts it_8 hown hK hP 0 rfl rfl 2 (by decide) (hts _ kt_36) (fun _ h9 => h9) rfl dX8_step_174 ?_
  refine lv_iload hx hb dX8_step_177 (lv_at hl 0 rfl) ?_
  refine lv_iconst (v := 1) hx hb dX8_step_179 (by decide) ?_
  refine lv_isub hx hb dX8_step_180 ?_
  refine lv_topi (fun x_66 ex_66 => ?_)
  obtain rfl : x_66 = 3 := ex_66.trans (by decide)
  refine va_iald hx hb hK hP 2 1 rfl rfl (show vp_in (3 : Int32) 8 from (show vp_in (nI 3) 8 from vp_in_nI (by omega) (by omega))) dX8_step_181 ?_
  refine lv_topi (fun x_67 _ => ?_)
  refine va_iast hx hb hK hP hD hS 2 1 rfl rfl (show vp_in (4 : Int32) 8 from (show vp_in (nI 4) 8 from vp_in_nI (by omega) (by omega))) dX8_step_182 (fun H locs hP hD hS => ?_)
  obtain ⟨f_68, hP, hD⟩ : ∃ f_68 : Nat → Int32, va_P (dC, dI) vwCl [(h0, .inr (8, [.ref qw, .ref qs, .ref qt])), (qw, .inl (cw, 64, .inl f)), (qt, .inl (ct, 8, .inl f_68))] H ∧ va_D A [(h0, .inr (8, [.ref qw, .ref qs, .ref qt])), (qw, .inl (cw, 64, .inl f)), (qt, .inl (ct, 8, .inl f_68))] := ⟨_, hP, hD⟩
  refine lv_iinc (v := 3) (lv' := [(9, .int 3), (8, .int x_52), (7, .int x_45), (6, .int x_31), (5, .int x_17), (4, .int x_8), (3, .int x_2), (2, .int x_1), (0, .ref h0), (1, .int (nI i))]) hx hb dX8_step_183 hl (k := 0) rfl (by decide) (by decide) rfl (fun ls hl => ?_)
  refine lv_goto (tgt := 162) hx hb dX8_step_186 (by decide) ?_
  refine lv_iload hx hb dX8_step_162 (lv_at hl 0 rfl) ?_
  refine lv_if_le (tgt := 189) hx hb dX8_step_164 (by decide) (fun c_69 => absurd c_69 (by decide)) (fun c_69 => ?_)
  refine lv_aload_n hx hb dX8_step_167 rfl (lv_at hl 8 rfl) ?_
  refine va_get (D := (dC, dI)) (ci := 8) (v := .ref qt) (C := RX8) (T := TX8) (N := 3) hx hb hts it_8 hown hK hP 0 rfl rfl 2 (by decide) (hts _ kt_36) (fun _ h9 => h9) rfl dX8_step_168 ?_
  refine lv_iload hx hb dX8_step_171 (lv_at hl 0 rfl) ?_
  refine lv_aload_n hx hb dX8_step_173 rfl (lv_at hl 8 rfl) ?_
  refine va_get (D := (dC, dI)) (ci := 8) (v := .ref qt) (C := RX8) (T := TX8) (N := 3) hx hb hts it_8 hown hK hP 0 rfl rfl 2 (by decide) (hts _ kt_36) (fun _ h9 => h9) rfl dX8_step_174 ?_
  refine lv_iload hx hb dX8_step_177 (lv_at hl 0 rfl) ?_
  refine lv_iconst (v := 1) hx hb dX8_step_179 (by decide) ?_
  refine lv_isub hx hb dX8_step_180 ?_
  refine lv_topi (fun x_70 ex_70 => ?_)
  obtain rfl : x_70 = 2 := ex_70.trans (by decide)
  refine va_iald hx hb hK hP 2 1 rfl rfl (show vp_in (2 : Int32) 8 from (show vp_in (nI 2) 8 from vp_in_nI (by omega) (by omega))) dX8_step_181 ?_
  refine lv_topi (fun x_71 _ => ?_)
  refine va_iast hx hb hK hP hD hS 2 1 rfl rfl (show vp_in (3 : Int32) 8 from (show vp_in (nI 3) 8 from vp_in_nI (by omega) (by omega))) dX8_step_182 (fun H locs hP hD hS => ?_)
  obtain ⟨f_72, hP, hD⟩ : ∃ f_72 : Nat → Int32, va_P (dC, dI) vwCl [(h0, .inr (8, [.ref qw, .ref qs, .ref qt])), (qw, .inl (cw, 64, .inl f)), (qt, .inl (ct, 8, .inl f_72))] H ∧ va_D A [(h0, .inr (8, [.ref qw, .ref qs, .ref qt])), (qw, .inl (cw, 64, .inl f)), (qt, .inl (ct, 8, .inl f_72))] := ⟨_, hP, hD⟩
  refine lv_iinc (v := 2) (lv' := [(9, .int 2), (8, .int x_52), (7, .int x_45), (6, .int x_31), (5, .int x_17), (4, .int x_8), (3, .int x_2), (2, .int x_1), (0, .ref h0), (1, .int (nI i))]) hx hb dX8_step_183 hl (k := 0) rfl (by decide) (by decide) rfl (fun ls hl => ?_)
  refine lv_goto (tgt := 162) hx hb dX8_step_186 (by decide) ?_
  refine lv_iload hx hb dX8_step_162 (lv_at hl 0 rfl) ?_
  refine lv_if_le (tgt := 189) hx hb dX8_step_164 (by decide) (fun c_73 => absurd c_73 (by decide)) (fun c_73 => ?_)
  refine lv_aload_n hx hb dX8_step_167 rfl (lv_at hl 8 rfl) ?_
  refine va_get (D := (dC, dI)) (ci := 8) (v := .ref qt) (C := RX8) (T := TX8) (N := 3) hx hb hts it_8 hown hK hP 0 rfl rfl 2 (by decide) (hts _ kt_36) (fun _ h9 => h9) rfl dX8_step_168 ?_
  refine lv_iload hx hb dX8_step_171 (lv_at hl 0 rfl) ?_
  refine lv_aload_n hx hb dX8_step_173 rfl (lv_at hl 8 rfl) ?_
  refine va_get (D := (dC, dI)) (ci := 8) (v := .ref qt) (C := RX8) (T := TX8) (N := 3) hx hb hts it_8 hown hK hP 0 rfl rfl 2 (by decide) (hts _ kt_36) (fun _ h9 => h9) rfl dX8_step_174 ?_
  refine lv_iload hx hb dX8_step_177 (lv_at hl 0 rfl) ?_
  refine lv_iconst (v := 1) hx hb dX8_step_179 (by decide) ?_
  refine lv_isub hx hb dX8_step_180 ?_
  refine lv_topi (fun x_74 ex_74 => ?_)
  obtain rfl : x_74 = 1 := ex_74.trans (by decide)
  refine va_iald hx hb hK hP 2 1 rfl rfl (show vp_in (1 : Int32) 8 from (show vp_in (nI 1) 8 from vp_in_nI (by omega) (by omega))) dX8_step_181 ?_
  refine lv_topi (fun x_75 _ => ?_)
  refine va_iast hx hb hK hP hD hS 2 1 rfl rfl (show vp_in (2 : Int32) 8 from (show vp_in (nI 2) 8 from vp_in_nI (by omega) (by omega))) dX8_step_182 (fun H locs hP hD hS => ?_)
  obtain ⟨f_76, hP, hD⟩ : ∃ f_76 : Nat → Int32, va_P (dC, dI) vwCl [(h0, .inr (8, [.ref qw, .ref qs, .ref qt])), (qw, .inl (cw, 64, .inl f)), (qt, .inl (ct, 8, .inl f_76))] H ∧ va_D A [(h0, .inr (8, [.ref qw, .ref qs, .ref qt])), (qw, .inl (cw, 64, .inl f)), (qt, .inl (ct, 8, .inl f_76))] := ⟨_, hP, hD⟩
  refine lv_iinc (v := 1) (lv' := [(9, .int 1), (8, .int x_52), (7, .int x_45), (6, .int x_31), (5, .int x_17), (4, .int x_8), (3, .int x_2), (2, .int x_1), (0, .ref h0), (1, .int (nI i))]) hx hb dX8_step_183 hl (k := 0) rfl (by decide) (by decide) rfl (fun ls hl => ?_)
  refine lv_goto (tgt := 162) hx hb dX8_step_186 (by decide) ?_
  refine lv_iload hx hb dX8_step_162 (lv_at hl 0 rfl) ?_
  refine lv_if_le (tgt := 189) hx hb dX8_step_164 (by decide) (fun c_77 => absurd c_77 (by decide)) (fun c_77 => ?_)
  refine lv_aload_n hx hb dX8_step_167 rfl (lv_at hl 8 rfl) ?_
  refine va_get (D := (dC, dI)) (ci := 8) (v := .ref qt) (C := RX8) (T := TX8) (N := 3) hx hb hts it_8 hown hK hP 0 rfl rfl 2 (by decide) (hts _ kt_36) (fun _ h9 => h9) rfl dX8_step_168 ?_
  refine lv_iload hx hb dX8_step_171 (lv_at hl 0 rfl) ?_
  refine lv_aload_n hx hb dX8_step_173 rfl (lv_at hl 8 rfl) ?_
  refine va_get (D := (dC, dI)) (ci := 8) (v := .ref qt) (C := RX8) (T := TX8) (N := 3) hx hb hts it_8 hown hK hP 0 rfl rfl 2 (by decide) (hts _ kt_36) (fun _ h9 => h9) rfl dX8_step_174 ?_
  refine lv_iload hx hb dX8_step_177 (lv_at hl 0 rfl) ?_
  refine lv_iconst (v := 1) hx hb dX8_step_179 (by decide) ?_
  refine lv_isub hx hb dX8_step_180 ?_
  refine lv_topi (fun x_78 ex_78 => ?_)
  obtain rfl : x_78 = 0 := ex_78.trans (by decide)
  refine va_iald hx hb hK hP 2 1 rfl rfl (show vp_in (0 : Int32) 8 from (show vp_in (nI 0) 8 from vp_in_nI (by omega) (by omega))) dX8_step_181 ?_
  refine lv_topi (fun x_79 _ => ?_)
  refine va_iast hx hb hK hP hD hS 2 1 rfl rfl (show vp_in (1 : Int32) 8 from (show vp_in (nI 1) 8 from vp_in_nI (by omega) (by omega))) dX8_step_182 (fun H locs hP hD hS => ?_)
  obtain ⟨f_80, hP, hD⟩ : ∃ f_80 : Nat → Int32, va_P (dC, dI) vwCl [(h0, .inr (8, [.ref qw, .ref qs, .ref qt])), (qw, .inl (cw, 64, .inl f)), (qt, .inl (ct, 8, .inl f_80))] H ∧ va_D A [(h0, .inr (8, [.ref qw, .ref qs, .ref qt])), (qw, .inl (cw, 64, .inl f)), (qt, .inl (ct, 8, .inl f_80))] := ⟨_, hP, hD⟩
  refine lv_iinc (v := 0) (lv' := [(9, .int 0), (8, .int x_52), (7, .int x_45), (6, .int x_31), (5, .int x_17), (4, .int x_8), (3, .int x_2), (2, .int x_1), (0, .ref h0), (1, .int (nI i))]) hx hb dX8_step_183 hl (k := 0) rfl (by decide) (by decide) rfl (fun ls hl => ?_)
  refine lv_goto (tgt := 162) hx hb dX8_step_186 (by decide) ?_
  refine lv_iload hx hb dX8_step_162 (lv_at hl 0 rfl) ?_
  refine lv_if_le (tgt := 189) hx hb dX8_step_164 (by decide) (fun c_81 => ?_) (fun c_81 => absurd (by decide) c_81)
  refine lv_aload_n hx hb dX8_step_189 rfl (lv_at hl 8 rfl) ?_
  refine va_get (D := (dC, dI)) (ci := 8) (v := .ref qt) (C := RX8) (T := TX8) (N := 3) hx hb hts it_8 hown hK hP 0 rfl rfl 2 (by decide) (hts _ kt_36) (fun _ h9 => h9) rfl dX8_step_190 ?_
  refine lv_iconst (v := 4) hx hb dX8_step_193 (by decide) ?_
  refine lv_dup2_11 hx hb dX8_step_194 rfl rfl ?_
  refine va_iald hx hb hK hP 2 1 rfl rfl (show vp_in (4 : Int32) 8 from (show vp_in (nI 4) 8 from vp_in_nI (by omega) (by omega))) dX8_step_195 ?_
  refine lv_topi (fun x_82 _ => ?_)
  refine lv_iload hx hb dX8_step_196 (lv_at hl 1 rfl) ?_
  refine lv_iadd hx hb dX8_step_198 ?_
  refine lv_topi (fun x_83 _ => ?_)
  refine va_iast hx hb hK hP hD hS 2 1 rfl rfl (show vp_in (4 : Int32) 8 from (show vp_in (nI 4) 8 from vp_in_nI (by omega) (by omega))) dX8_step_199 (fun H locs hP hD hS => ?_)
  obtain ⟨f_84, hP, hD⟩ : ∃ f_84 : Nat → Int32, va_P (dC, dI) vwCl [(h0, .inr (8, [.ref qw, .ref qs, .ref qt])), (qw, .inl (cw, 64, .inl f)), (qt, .inl (ct, 8, .inl f_84))] H ∧ va_D A [(h0, .inr (8, [.ref qw, .ref qs, .ref qt])), (qw, .inl (cw, 64, .inl f)), (qt, .inl (ct, 8, .inl f_84))] := ⟨_, hP, hD⟩
  refine lv_aload_n hx hb dX8_step_200 rfl (lv_at hl 8 rfl) ?_
  refine va_get (D := (dC, dI)) (ci := 8) (v := .ref qt) (C := RX8) (T := TX8) (N := 3) hx hb hts it_8 hown hK hP 0 rfl rfl 2 (by decide) (hts _ kt_36) (fun _ h9 => h9) rfl dX8_step_201 ?_
  refine lv_iconst (v := 0) hx hb dX8_step_204 (by decide) ?_
  refine lv_iload hx hb dX8_step_205 (lv_at hl 1 rfl) ?_
  refine lv_iload hx hb dX8_step_207 (lv_at hl 2 rfl) ?_
  refine lv_iadd hx hb dX8_step_209 ?_
  refine lv_topi (fun x_85 _ => ?_)
  refine lv_iload hx hb dX8_step_210 (lv_at hl 4 rfl) ?_
  refine lv_iadd hx hb dX8_step_212 ?_
  refine lv_topi (fun x_86 _ => ?_)
  refine va_iast hx hb hK hP hD hS 2 1 rfl rfl (show vp_in (0 : Int32) 8 from (show vp_in (nI 0) 8 from vp_in_nI (by omega) (by omega))) dX8_step_213 (fun H locs hP hD hS => ?_)
  obtain ⟨f_87, hP, hD⟩ : ∃ f_87 : Nat → Int32, va_P (dC, dI) vwCl [(h0, .inr (8, [.ref qw, .ref qs, .ref qt])), (qw, .inl (cw, 64, .inl f)), (qt, .inl (ct, 8, .inl f_87))] H ∧ va_D A [(h0, .inr (8, [.ref qw, .ref qs, .ref qt])), (qw, .inl (cw, 64, .inl f)), (qt, .inl (ct, 8, .inl f_87))] := ⟨_, hP, hD⟩
  have hP9 := hP.sub (ws' := [(h0, .inr (8, [.ref qw, .ref qs, .ref qt])), (qw, .inl (cw, 64, .inl f)), (qt, .inl (ct, 8, .inl f_87))]) [0, 1, 2] rfl
  have hD9 := hD.sub (ws' := [(h0, .inr (8, [.ref qw, .ref qs, .ref qt])), (qw, .inl (cw, 64, .inl f)), (qt, .inl (ct, 8, .inl f_87))]) [0, 1, 2] (by decide) rfl
  have hK9 := hK.sub (tys' := [(cw, .int), (ct, .int)]) [0, 1] rfl
  refine W.widen (k := 0) (n := 0) (by omega) (by omega) ?_
  exact W.vret hx hb hr (fun t ht hW => ⟨⟨(), rfl, trivial, ⟨f_87, QW.mk ht hW hP9 hK9 hD9⟩⟩, hS.F ht⟩) hS.2.2 dX8_step_214
set_option maxHeartbeats 4000000 in
set_option maxRecDepth 100000 in
theorem c_X8_mix (l : Launch) (dC : Nat → ClassId) (dI : Nat → Nat → Nat) (sz : Nat) (h0 : Nat) (qw : Nat) (qs : Nat) (qt : Nat) (cw : ClassId) (cs : ClassId) (ct : ClassId) (f : Nat → Int32) (g0 : Nat → Int32) (k : Nat → Int32) : Met l yX8_mix (.code yX8_mix cX8_mix 6 none :: tb) ({ frames := 1, cells := 0, slots := 0, locals := 48 }) (va_Pc [.ref h0] (PWS (dC, dI) sz [(h0, .inr (8, [.ref qw, .ref qs, .ref qt])), (qw, .inl (cw, 64, .inl f)), (qs, .inl (cs, 8, .inl g0)), (qt, .inl (ct, 8, .inl k))] [(cw, .int), (cs, .int), (ct, .int)])) (va_Qv (fun _ : Unit => True) (fun _ T9 => ∃ (f2 : Nat → Int32) (g2 : Nat → Int32) (k2 : Nat → Int32), QW (dC, dI) (va_A [(h0, .inr (8, [.ref qw, .ref qs, .ref qt])), (qw, .inl (cw, 64, .inl f)), (qs, .inl (cs, 8, .inl g0)), (qt, .inl (ct, 8, .inl k))] sz) [(h0, .inr (8, [.ref qw, .ref qs, .ref qt])), (qw, .inl (cw, 64, .inl f2)), (qs, .inl (cs, 8, .inl g2)), (qt, .inl (ct, 8, .inl k2))] [(cw, .int), (cs, .int), (ct, .int)] T9) (va_A [(h0, .inr (8, [.ref qw, .ref qs, .ref qt])), (qw, .inl (cw, 64, .inl f)), (qs, .inl (cs, 8, .inl g0)), (qt, .inl (ct, 8, .inl k))] sz)) 0 0 (va_A [(h0, .inr (8, [.ref qw, .ref qs, .ref qt])), (qw, .inl (cw, 64, .inl f)), (qs, .inl (cs, 8, .inl g0)), (qt, .inl (ct, 8, .inl k))] sz) := by
  refine Met.ofW (cc := cX8_mix) (maxL := 6) (ret := none) (by decide) rfl ?_
  intro p e s m args below meth c s₁ B hml hv
  obtain ⟨rfl, ⟨hsz, hP, hK, hD0, hE⟩, hZ⟩ := hv
  have hx := B.exec
  have hb := B.bytes
  have hr := B.returns
  have hts : ∀ w ∈ tb, w.before _ s = true := fun w h => atoms_spec (ws := .code yX8_mix cX8_mix 6 none :: tb) B.pre w (List.mem_cons_of_mem _ h)
  have hown : s.vm.findClass RX8 = some m.cls := findClass_of_methodNamed B.named
  have hlocks := B.notSynchronized
  subst hsz
  have hD := hD0.self (sz := s.heap.size)
  generalize hAe : va_A [(h0, .inr (8, [.ref qw, .ref qs, .ref qt])), (qw, .inl (cw, 64, .inl f)), (qs, .inl (cs, 8, .inl g0)), (qt, .inl (ct, 8, .inl k))] s.heap.size = A at hD hZ ⊢
  obtain ⟨aB, aF, fB, fF, zB, tB, zF, tF⟩ := id hZ
  have hA : ∀ q : Nat, s.heap.size ≤ q → A q := fun q h => by rw [← hAe]; exact Or.inr h
  have hS : va_S A s.heap s.heap [] := va_S.rf
  have hP : va_P (dC, dI) vwCl [(h0, .inr (8, [.ref qw, .ref qs, .ref qt])), (qw, .inl (cw, 64, .inl f)), (qs, .inl (cs, 8, .inl g0)), (qt, .inl (ct, 8, .inl k))] s.heap := hP
  have hl := lv_entry ([.ref h0]) (n := 6) (Nat.le_of_ble_eq_true rfl)
  rw [lg_entry_eq]
  generalize (lg_sl ([.ref h0]) ++ List.replicate (6 - (lg_sl ([.ref h0])).length) Slot.unset).toArray = ls at hl ⊢
  have hl : lv_has ls 6 [(0, .ref h0)] := hl
  refine lv_bipush (v := 16) hx hb dX8_mix_0 (by decide) ?_
  refine lv_istore_n (lv' := [(1, .int 16), (0, .ref h0)]) hx hb dX8_mix_2 rfl hl (by decide) rfl (fun ls hl => ?_)
  refine W.widen (k := 0) (n := 0) (by omega) (by omega) ?_
  refine wl_loop (σ := Nat × (Nat → Int32)) A (dC, dI) 3 6 (fun (i1, fa) => [(h0, .inr (8, [.ref qw, .ref qs, .ref qt])), (qw, .inl (cw, 64, .inl fa)), (qs, .inl (cs, 8, .inl g0)), (qt, .inl (ct, 8, .inl k))]) (fun (i1, fa) => [(1, .int (nI i1)), (0, .ref h0)]) (fun (i1, fa) => []) (fun (i1, fa) => 0) (fun (i1, fa) => 0) (fun (i1, fa) => 16 ≤ i1 ∧ i1 ≤ 64) (fun (i1, fa) => 64 - i1) ?_ (16, f) (by first | omega | exact ⟨by omega, by omega⟩) _ _ (hP.sub [0, 1, 2, 3] rfl) (hD.sub [0, 1, 2, 3] (by decide) rfl) hS ls (lv_sub hl [0, 1] rfl)
  rintro ⟨i1, fa⟩ hv_1 ih_2 H locs hP hD hS ls hl
  have hP : va_P (dC, dI) vwCl [(h0, .inr (8, [.ref qw, .ref qs, .ref qt])), (qw, .inl (cw, 64, .inl fa)), (qs, .inl (cs, 8, .inl g0)), (qt, .inl (ct, 8, .inl k))] H := hP
  have hD : va_D A [(h0, .inr (8, [.ref qw, .ref qs, .ref qt])), (qw, .inl (cw, 64, .inl fa)), (qs, .inl (cs, 8, .inl g0)), (qt, .inl (ct, 8, .inl k))] := hD
  have hl : lv_has ls 6 [(1, .int (nI i1)), (0, .ref h0)] := hl
  have hv_1 : 16 ≤ i1 ∧ i1 ≤ 64 := hv_1
  refine W.widen (k := 0) (n := 0) (Nat.le_refl _) (Nat.le_refl _) ?_
  refine W.eq (g2 := F0 m 3 ls []) rfl ?_
  obtain ⟨hv1, hv2⟩ := hv_1
  refine lv_iload_n hx hb dX8_mix_3 rfl (lv_at hl 0 rfl) ?_
  refine lv_bipush (v := 64) hx hb dX8_mix_4 (by decide) ?_
  refine lv_icmp_ge (tgt := 116) hx hb dX8_mix_6 (by decide) (fun c_3 => ?_) (fun c_3 => ?_)
  ·
    have hi_4 : 64 ≤ i1 := leN (N := 64) c_3
    refine lv_aload_n hx hb dX8_mix_116 rfl (lv_at hl 1 rfl) ?_
    refine va_get (D := (dC, dI)) (ci := 8) (v := .ref qs) (C := RX8) (T := TX8) (N := 3) hx hb hts it_8 hown hK hP 0 rfl rfl 1 (by decide) (hts _ kt_35) (fun _ h9 => h9) rfl dX8_mix_117 ?_
    refine lv_iconst (v := 0) hx hb dX8_mix_120 (by decide) ?_
    refine lv_aload_n hx hb dX8_mix_121 rfl (lv_at hl 1 rfl) ?_
    refine va_get (D := (dC, dI)) (ci := 8) (v := .ref qt) (C := RX8) (T := TX8) (N := 3) hx hb hts it_8 hown hK hP 0 rfl rfl 2 (by decide) (hts _ kt_36) (fun _ h9 => h9) rfl dX8_mix_122 ?_
    refine lv_iconst (v := 0) hx hb dX8_mix_125 (by decide) ?_
    refine lv_bipush (v := 8) hx hb dX8_mix_126 (by decide) ?_
    refine va_copyi hx hb (by rw [hml]; exact hl.1.symm) hown (hts _ kt_241) (hts _ kt_242) (hts _ kt_243) (hts _ kt_244) hK hP hD hS 2 3 1 2 rfl rfl rfl rfl rfl (by decide) (by decide) (by decide) (by decide) (by decide) (fun _ _ => rfl) (Nat.le_of_ble_eq_true rfl) (by decide) dX8_mix_128 (fun H locs hP hD hS => ?_)
    obtain ⟨f_5, hP, hD⟩ : ∃ f_5 : Nat → Int32, va_P (dC, dI) vwCl [(h0, .inr (8, [.ref qw, .ref qs, .ref qt])), (qw, .inl (cw, 64, .inl fa)), (qs, .inl (cs, 8, .inl g0)), (qt, .inl (ct, 8, .inl f_5))] H ∧ va_D A [(h0, .inr (8, [.ref qw, .ref qs, .ref qt])), (qw, .inl (cw, 64, .inl fa)), (qs, .inl (cs, 8, .inl g0)), (qt, .inl (ct, 8, .inl f_5))] := ⟨_, hP, hD⟩
    refine lv_iconst (v := 0) hx hb dX8_mix_131 (by decide) ?_
    refine lv_istore_n (lv' := [(1, .int 0), (0, .ref h0)]) hx hb dX8_mix_132 rfl hl (by decide) rfl (fun ls hl => ?_)
    refine W.widen (k := 0) (n := 0) (by omega) (by omega) ?_
    refine wl_loop (σ := Nat × (Nat → Int32)) A (dC, dI) 133 6 (fun (i2, ka) => [(h0, .inr (8, [.ref qw, .ref qs, .ref qt])), (qw, .inl (cw, 64, .inl fa)), (qs, .inl (cs, 8, .inl g0)), (qt, .inl (ct, 8, .inl ka))]) (fun (i2, ka) => [(1, .int (nI i2)), (0, .ref h0)]) (fun (i2, ka) => []) (fun (i2, ka) => 0) (fun (i2, ka) => 0) (fun (i2, ka) => i2 ≤ 64) (fun (i2, ka) => 64 - i2) ?_ (0, f_5) (by first | omega | exact ⟨by omega, by omega⟩) _ _ (hP.sub [0, 1, 2, 3] rfl) (hD.sub [0, 1, 2, 3] (by decide) rfl) hS ls (lv_sub hl [0, 1] rfl)
    rintro ⟨i2, ka⟩ hv_6 ih_7 H locs hP hD hS ls hl
    have hP : va_P (dC, dI) vwCl [(h0, .inr (8, [.ref qw, .ref qs, .ref qt])), (qw, .inl (cw, 64, .inl fa)), (qs, .inl (cs, 8, .inl g0)), (qt, .inl (ct, 8, .inl ka))] H := hP
    have hD : va_D A [(h0, .inr (8, [.ref qw, .ref qs, .ref qt])), (qw, .inl (cw, 64, .inl fa)), (qs, .inl (cs, 8, .inl g0)), (qt, .inl (ct, 8, .inl ka))] := hD
    have hl : lv_has ls 6 [(1, .int (nI i2)), (0, .ref h0)] := hl
    have hv_6 : i2 ≤ 64 := hv_6
    refine W.widen (k := 0) (n := 0) (Nat.le_refl _) (Nat.le_refl _) ?_
    refine W.eq (g2 := F0 m 133 ls []) rfl ?_
    refine lv_iload_n hx hb dX8_mix_133 rfl (lv_at hl 0 rfl) ?_
    refine lv_bipush (v := 64) hx hb dX8_mix_134 (by decide) ?_
    refine lv_icmp_ge (tgt := 150) hx hb dX8_mix_136 (by decide) (fun c_8 => ?_) (fun c_8 => ?_)
    ·
      have hi_9 : 64 ≤ i2 := leN (N := 64) c_8
      refine lv_iconst (v := 0) hx hb dX8_mix_150 (by decide) ?_
      refine lv_istore_n (lv' := [(1, .int 0), (0, .ref h0)]) hx hb dX8_mix_151 rfl hl (by decide) rfl (fun ls hl => ?_)
      refine W.widen (k := 0) (n := 0) (by omega) (by omega) ?_
      refine wl_loop (σ := Nat × (Nat → Int32)) A (dC, dI) 152 6 (fun (i3, ga) => [(h0, .inr (8, [.ref qw, .ref qs, .ref qt])), (qw, .inl (cw, 64, .inl fa)), (qs, .inl (cs, 8, .inl ga)), (qt, .inl (ct, 8, .inl ka))]) (fun (i3, ga) => [(1, .int (nI i3)), (0, .ref h0)]) (fun (i3, ga) => []) (fun (i3, ga) => 0) (fun (i3, ga) => 0) (fun (i3, ga) => i3 ≤ 8) (fun (i3, ga) => 8 - i3) ?_ (0, g0) (by first | omega | exact ⟨by omega, by omega⟩) _ _ (hP.sub [0, 1, 2, 3] rfl) (hD.sub [0, 1, 2, 3] (by decide) rfl) hS ls (lv_sub hl [0, 1] rfl)
      rintro ⟨i3, ga⟩ hv_10 ih_11 H locs hP hD hS ls hl
      have hP : va_P (dC, dI) vwCl [(h0, .inr (8, [.ref qw, .ref qs, .ref qt])), (qw, .inl (cw, 64, .inl fa)), (qs, .inl (cs, 8, .inl ga)), (qt, .inl (ct, 8, .inl ka))] H := hP
      have hD : va_D A [(h0, .inr (8, [.ref qw, .ref qs, .ref qt])), (qw, .inl (cw, 64, .inl fa)), (qs, .inl (cs, 8, .inl ga)), (qt, .inl (ct, 8, .inl ka))] := hD
      have hl : lv_has ls 6 [(1, .int (nI i3)), (0, .ref h0)] := hl
      have hv_10 : i3 ≤ 8 := hv_10
      refine W.widen (k := 0) (n := 0) (Nat.le_refl _) (Nat.le_refl _) ?_
      refine W.eq (g2 := F0 m 152 ls []) rfl ?_
      refine lv_iload_n hx hb dX8_mix_152 rfl (lv_at hl 0 rfl) ?_
      refine lv_bipush (v := 8) hx hb dX8_mix_153 (by decide) ?_
      refine lv_icmp_ge (tgt := 179) hx hb dX8_mix_155 (by decide) (fun c_12 => ?_) (fun c_12 => ?_)
      ·
        have hi_13 : 8 ≤ i3 := leN (N := 8) c_12
        have hP9 := hP.sub (ws' := [(h0, .inr (8, [.ref qw, .ref qs, .ref qt])), (qw, .inl (cw, 64, .inl fa)), (qs, .inl (cs, 8, .inl ga)), (qt, .inl (ct, 8, .inl ka))]) [0, 1, 2, 3] rfl
        have hD9 := hD.sub (ws' := [(h0, .inr (8, [.ref qw, .ref qs, .ref qt])), (qw, .inl (cw, 64, .inl fa)), (qs, .inl (cs, 8, .inl ga)), (qt, .inl (ct, 8, .inl ka))]) [0, 1, 2, 3] (by decide) rfl
        have hK9 := hK.sub (tys' := [(cw, .int), (cs, .int), (ct, .int)]) [0, 1, 2] rfl
        refine W.widen (k := 0) (n := 0) (by omega) (by omega) ?_
        exact W.vret hx hb hr (fun t ht hW => ⟨⟨(), rfl, trivial, ⟨fa, ga, ka, QW.mk ht hW hP9 hK9 hD9⟩⟩, hS.F ht⟩) hS.2.2 dX8_mix_179
      ·
        have hi_14 : i3 < 8 := ltN (N := 8) c_12
        refine lv_aload_n hx hb dX8_mix_158 rfl (lv_at hl 1 rfl) ?_
        refine va_get (D := (dC, dI)) (ci := 8) (v := .ref qs) (C := RX8) (T := TX8) (N := 3) hx hb hts it_8 hown hK hP 0 rfl rfl 1 (by decide) (hts _ kt_35) (fun _ h9 => h9) rfl dX8_mix_159 ?_
        refine lv_iload_n hx hb dX8_mix_162 rfl (lv_at hl 0 rfl) ?_
        refine lv_dup2_11 hx hb dX8_mix_163 rfl rfl ?_
        refine va_iald hx hb hK hP 2 1 rfl rfl (vp_in_nI (by omega) (by omega)) dX8_mix_164 ?_
        refine lv_topi (fun x_15 _ => ?_)
        refine lv_aload_n hx hb dX8_mix_165 rfl (lv_at hl 1 rfl) ?_
        refine va_get (D := (dC, dI)) (ci := 8) (v := .ref qt) (C := RX8) (T := TX8) (N := 3) hx hb hts it_8 hown hK hP 0 rfl rfl 2 (by decide) (hts _ kt_36) (fun _ h9 => h9) rfl dX8_mix_166 ?_
        refine lv_iload_n hx hb dX8_mix_169 rfl (lv_at hl 0 rfl) ?_
        refine va_iald hx hb hK hP 3 2 rfl rfl (vp_in_nI (by omega) (by omega)) dX8_mix_170 ?_
        refine lv_topi (fun x_16 _ => ?_)
        refine lv_iadd hx hb dX8_mix_171 ?_
        refine lv_topi (fun x_17 _ => ?_)
        refine va_iast hx hb hK hP hD hS 2 1 rfl rfl (vp_in_nI (by omega) (by omega)) dX8_mix_172 (fun H locs hP hD hS => ?_)
        obtain ⟨f_18, hP, hD⟩ : ∃ f_18 : Nat → Int32, va_P (dC, dI) vwCl [(h0, .inr (8, [.ref qw, .ref qs, .ref qt])), (qw, .inl (cw, 64, .inl fa)), (qs, .inl (cs, 8, .inl f_18)), (qt, .inl (ct, 8, .inl ka))] H ∧ va_D A [(h0, .inr (8, [.ref qw, .ref qs, .ref qt])), (qw, .inl (cw, 64, .inl fa)), (qs, .inl (cs, 8, .inl f_18)), (qt, .inl (ct, 8, .inl ka))] := ⟨_, hP, hD⟩
        refine lv_iinc (v := (nI (i3 + 1))) (lv' := [(1, .int (nI (i3 + 1))), (0, .ref h0)]) hx hb dX8_mix_173 hl (k := 0) rfl (nI_1 _) (by decide) rfl (fun ls hl => ?_)
        refine lv_goto (tgt := 152) hx hb dX8_mix_176 (by decide) ?_
        refine W.widen (k := 0) (n := 0) (by omega) (by omega) ?_
        exact ih_11 ((i3 + 1), f_18) (by first | omega | exact ⟨by omega, by omega⟩) (by show 8 - (i3 + 1) < 8 - i3; omega) _ _ (hP.sub [0, 1, 2, 3] rfl) (hD.sub [0, 1, 2, 3] (by decide) rfl) hS ls (lv_sub hl [0, 1] rfl)
    ·
      have hi_19 : i2 < 64 := ltN (N := 64) c_8
      refine lv_aload_n hx hb dX8_mix_139 rfl (lv_at hl 1 rfl) ?_
      refine lv_iload_n hx hb dX8_mix_140 rfl (lv_at hl 0 rfl) ?_
      have hPc := hP.sub (ws' := [(h0, .inr (8, [.ref qw, .ref qs, .ref qt])), (qw, .inl (cw, 64, .inl fa)), (qt, .inl (ct, 8, .inl ka))]) [0, 1, 3] rfl
      have hDc := hD.sub (ws' := [(h0, .inr (8, [.ref qw, .ref qs, .ref qt])), (qw, .inl (cw, 64, .inl fa)), (qt, .inl (ct, 8, .inl ka))]) [0, 1, 3] (by decide) rfl
      have hKc := hK.sub (tys' := [(cw, .int), (ct, .int)]) [0, 2] rfl
      have hFc := va_free (wc := [(h0, .inr (8, [.ref qw, .ref qs, .ref qt])), (qw, .inl (cw, 64, .inl fa)), (qt, .inl (ct, 8, .inl ka))]) hD hS hA [0, 1, 3] rfl
      refine va_callv (va_runV (As := [.int (nI i2)]) (rest := []) ⟨hx, hb, hml, hown, hts⟩ (c_X8_step l dC dI H.size h0 qw qs qt i2 cw ct fa ka (by omega)) ⟨callB_of 1 hts (gi kt_245) rfl rfl rfl (hts _ kt_116) (hts _ kt_246) (by decide +kernel) ⟨Nat.le_of_ble_eq_true rfl, Nat.le_of_ble_eq_true rfl⟩, (hts _ kt_247), (hts _ kt_248)⟩ ⟨fun a U g mk q => ⟨q.1, PWS.calling q.2⟩, va_recv hKc hPc (ci := 8) (q0 := 0) rfl rfl, fun U hU hW => ⟨rfl, PWS.mk hU hW hPc hKc hDc hE hZ hS hFc⟩⟩ rfl rfl hl.1 rfl (lv_room (Nat.le_of_ble_eq_true rfl)) dX8_mix_141 ⟨by show _ + 0 ≤ 0; omega, by show _ + 0 ≤ 0; omega⟩) hS (fun q _ h => hFc q h) hFc (fun u t H1 locs ht hvm hw hB hz1 hk1 hS => ?_)
      obtain ⟨k2_21, hB1⟩ := hB
      obtain ⟨hP, hD, hK⟩ := QW.join (wr := [(qs, .inl (cs, 8, .inl g0))]) hP hD hK [0, 1, 3] [2] rfl rfl (by decide) (by decide) hk1 hFc ht hvm hB1
      generalize H1 = H at hP hS ⊢
      have hK : va_K (dC, dI) vwCl [(cw, .int), (cs, .int), (ct, .int)] s := hK.sub [0, 1, 2] rfl
      have hP : va_P (dC, dI) vwCl [(qs, .inl (cs, 8, .inl g0)), (h0, .inr (8, [.ref qw, .ref qs, .ref qt])), (qw, .inl (cw, 64, .inl fa)), (qt, .inl (ct, 8, .inl k2_21))] H := hP
      have hD : va_D A [(qs, .inl (cs, 8, .inl g0)), (h0, .inr (8, [.ref qw, .ref qs, .ref qt])), (qw, .inl (cw, 64, .inl fa)), (qt, .inl (ct, 8, .inl k2_21))] := hD
      refine lv_iinc (v := (nI (i2 + 1))) (lv' := [(1, .int (nI (i2 + 1))), (0, .ref h0)]) hx hb dX8_mix_144 hl (k := 0) rfl (nI_1 _) (by decide) rfl (fun ls hl => ?_)
      refine lv_goto (tgt := 133) hx hb dX8_mix_147 (by decide) ?_
      refine W.widen (k := 0) (n := 0) (by omega) (by omega) ?_
      exact ih_7 ((i2 + 1), k2_21) (by first | omega | exact ⟨by omega, by omega⟩) (by show 64 - (i2 + 1) < 64 - i2; omega) _ _ (hP.sub [1, 2, 0, 3] rfl) (hD.sub [1, 2, 0, 3] (by decide) rfl) hS ls (lv_sub hl [0, 1] rfl)
  ·
    have hi_22 : i1 < 64 := ltN (N := 64) c_3
    refine lv_aload_n hx hb dX8_mix_9 rfl (lv_at hl 1 rfl) ?_
    refine va_get (D := (dC, dI)) (ci := 8) (v := .ref qw) (C := RX8) (T := TX8) (N := 3) hx hb hts it_8 hown hK hP 0 rfl rfl 0 (by decide) (hts _ kt_34) (fun _ h9 => h9) rfl dX8_mix_10 ?_
    refine lv_iload_n hx hb dX8_mix_13 rfl (lv_at hl 0 rfl) ?_
    refine lv_bipush (v := 15) hx hb dX8_mix_14 (by decide) ?_
    refine lv_isub hx hb dX8_mix_16 ?_
    refine lv_topi (fun x_23 ex_23 => ?_)
    obtain rfl : x_23 = (nI (i1 - 15)) := ex_23.trans (pk_sub (b := 15) (by omega))
    refine va_iald hx hb hK hP 1 0 rfl rfl (vp_in_nI (by omega) (by omega)) dX8_mix_17 ?_
    refine lv_topi (fun x_24 _ => ?_)
    refine lv_istore_n (lv' := [(2, .int x_24), (1, .int (nI i1)), (0, .ref h0)]) hx hb dX8_mix_18 rfl hl (by decide) rfl (fun ls hl => ?_)
    refine lv_aload_n hx hb dX8_mix_19 rfl (lv_at hl 2 rfl) ?_
    refine va_get (D := (dC, dI)) (ci := 8) (v := .ref qw) (C := RX8) (T := TX8) (N := 3) hx hb hts it_8 hown hK hP 0 rfl rfl 0 (by decide) (hts _ kt_34) (fun _ h9 => h9) rfl dX8_mix_20 ?_
    refine lv_iload_n hx hb dX8_mix_23 rfl (lv_at hl 1 rfl) ?_
    refine lv_iconst (v := 2) hx hb dX8_mix_24 (by decide) ?_
    refine lv_isub hx hb dX8_mix_25 ?_
    refine lv_topi (fun x_25 ex_25 => ?_)
    obtain rfl : x_25 = (nI (i1 - 2)) := ex_25.trans (pk_sub (b := 2) (by omega))
    refine va_iald hx hb hK hP 1 0 rfl rfl (vp_in_nI (by omega) (by omega)) dX8_mix_26 ?_
    refine lv_topi (fun x_26 _ => ?_)
    refine lv_istore_n (lv' := [(3, .int x_26), (2, .int x_24), (1, .int (nI i1)), (0, .ref h0)]) hx hb dX8_mix_27 rfl hl (by decide) rfl (fun ls hl => ?_)
    refine lv_iload_n hx hb dX8_mix_28 rfl (lv_at hl 1 rfl) ?_
    refine lv_bipush (v := 7) hx hb dX8_mix_29 (by decide) ?_
    refine lv_iushr hx hb dX8_mix_31 rfl ?_
    refine lv_topi (fun x_28 _ => ?_)
    refine lv_iload_n hx hb dX8_mix_32 rfl (lv_at hl 1 rfl) ?_
    refine lv_bipush (v := 25) hx hb dX8_mix_33 (by decide) ?_
    refine lv_ishl hx hb dX8_mix_35 ?_
    refine lv_topi (fun x_29 _ => ?_)
    refine lv_ior hx hb dX8_mix_36 ?_
    refine lv_topi (fun x_30 _ => ?_)
    refine lv_iload_n hx hb dX8_mix_37 rfl (lv_at hl 1 rfl) ?_
    refine lv_bipush (v := 18) hx hb dX8_mix_38 (by decide) ?_
    refine lv_iushr hx hb dX8_mix_40 rfl ?_
    refine lv_topi (fun x_32 _ => ?_)
    refine lv_iload_n hx hb dX8_mix_41 rfl (lv_at hl 1 rfl) ?_
    refine lv_bipush (v := 14) hx hb dX8_mix_42 (by decide) ?_
    refine lv_ishl hx hb dX8_mix_44 ?_
    refine lv_topi (fun x_33 _ => ?_)
    refine lv_ior hx hb dX8_mix_45 ?_
    refine lv_topi (fun x_34 _ => ?_)
    refine lv_ixor hx hb dX8_mix_46 ?_
    refine lv_topi (fun x_35 _ => ?_)
    refine lv_iload_n hx hb dX8_mix_47 rfl (lv_at hl 1 rfl) ?_
    refine lv_iconst (v := 3) hx hb dX8_mix_48 (by decide) ?_
    refine lv_iushr hx hb dX8_mix_49 rfl ?_
    refine lv_topi (fun x_37 _ => ?_)
    refine lv_ixor hx hb dX8_mix_50 ?_
    refine lv_topi (fun x_38 _ => ?_)
    refine lv_istore (lv' := [(4, .int x_38), (3, .int x_26), (2, .int x_24), (1, .int (nI i1)), (0, .ref h0)]) hx hb dX8_mix_51 hl (by decide) rfl (fun ls hl => ?_)
    refine lv_iload_n hx hb dX8_mix_53 rfl (lv_at hl 1 rfl) ?_
    refine lv_bipush (v := 17) hx hb dX8_mix_54 (by decide) ?_
    refine lv_iushr hx hb dX8_mix_56 rfl ?_
    refine lv_topi (fun x_40 _ => ?_)
    refine lv_iload_n hx hb dX8_mix_57 rfl (lv_at hl 1 rfl) ?_
    refine lv_bipush (v := 15) hx hb dX8_mix_58 (by decide) ?_
    refine lv_ishl hx hb dX8_mix_60 ?_
    refine lv_topi (fun x_41 _ => ?_)
    refine lv_ior hx hb dX8_mix_61 ?_
    refine lv_topi (fun x_42 _ => ?_)
    refine lv_iload_n hx hb dX8_mix_62 rfl (lv_at hl 1 rfl) ?_
    refine lv_bipush (v := 19) hx hb dX8_mix_63 (by decide) ?_
    refine lv_iushr hx hb dX8_mix_65 rfl ?_
    refine lv_topi (fun x_44 _ => ?_)
    refine lv_iload_n hx hb dX8_mix_66 rfl (lv_at hl 1 rfl) ?_
    refine lv_bipush (v := 13) hx hb dX8_mix_67 (by decide) ?_
    refine lv_ishl hx hb dX8_mix_69 ?_
    refine lv_topi (fun x_45 _ => ?_)
    refine lv_ior hx hb dX8_mix_70 ?_
    refine lv_topi (fun x_46 _ => ?_)
    refine lv_ixor hx hb dX8_mix_71 ?_
    refine lv_topi (fun x_47 _ => ?_)
    refine lv_iload_n hx hb dX8_mix_72 rfl (lv_at hl 1 rfl) ?_
    refine lv_bipush (v := 10) hx hb dX8_mix_73 (by decide) ?_
    refine lv_iushr hx hb dX8_mix_75 rfl ?_
    refine lv_topi (fun x_49 _ => ?_)
    refine lv_ixor hx hb dX8_mix_76 ?_
    refine lv_topi (fun x_50 _ => ?_)
    refine lv_istore (lv' := [(5, .int x_50), (4, .int x_38), (3, .int x_26), (2, .int x_24), (1, .int (nI i1)), (0, .ref h0)]) hx hb dX8_mix_77 hl (by decide) rfl (fun ls hl => ?_)
    refine lv_aload_n hx hb dX8_mix_79 rfl (lv_at hl 5 rfl) ?_
    refine va_get (D := (dC, dI)) (ci := 8) (v := .ref qw) (C := RX8) (T := TX8) (N := 3) hx hb hts it_8 hown hK hP 0 rfl rfl 0 (by decide) (hts _ kt_34) (fun _ h9 => h9) rfl dX8_mix_80 ?_
    refine lv_iload_n hx hb dX8_mix_83 rfl (lv_at hl 4 rfl) ?_
    refine lv_aload_n hx hb dX8_mix_84 rfl (lv_at hl 5 rfl) ?_
    refine va_get (D := (dC, dI)) (ci := 8) (v := .ref qw) (C := RX8) (T := TX8) (N := 3) hx hb hts it_8 hown hK hP 0 rfl rfl 0 (by decide) (hts _ kt_34) (fun _ h9 => h9) rfl dX8_mix_85 ?_
    refine lv_iload_n hx hb dX8_mix_88 rfl (lv_at hl 4 rfl) ?_
    refine lv_bipush (v := 16) hx hb dX8_mix_89 (by decide) ?_
    refine lv_isub hx hb dX8_mix_91 ?_
    refine lv_topi (fun x_51 ex_51 => ?_)
    obtain rfl : x_51 = (nI (i1 - 16)) := ex_51.trans (pk_sub (b := 16) (by omega))
    refine va_iald hx hb hK hP 1 0 rfl rfl (vp_in_nI (by omega) (by omega)) dX8_mix_92 ?_
    refine lv_topi (fun x_52 _ => ?_)
    refine lv_iload hx hb dX8_mix_93 (lv_at hl 1 rfl) ?_
    refine lv_iadd hx hb dX8_mix_95 ?_
    refine lv_topi (fun x_53 _ => ?_)
    refine lv_aload_n hx hb dX8_mix_96 rfl (lv_at hl 5 rfl) ?_
    refine va_get (D := (dC, dI)) (ci := 8) (v := .ref qw) (C := RX8) (T := TX8) (N := 3) hx hb hts it_8 hown hK hP 0 rfl rfl 0 (by decide) (hts _ kt_34) (fun _ h9 => h9) rfl dX8_mix_97 ?_
    refine lv_iload_n hx hb dX8_mix_100 rfl (lv_at hl 4 rfl) ?_
    refine lv_bipush (v := 7) hx hb dX8_mix_101 (by decide) ?_
    refine lv_isub hx hb dX8_mix_103 ?_
    refine lv_topi (fun x_54 ex_54 => ?_)
    obtain rfl : x_54 = (nI (i1 - 7)) := ex_54.trans (pk_sub (b := 7) (by omega))
    refine va_iald hx hb hK hP 1 0 rfl rfl (vp_in_nI (by omega) (by omega)) dX8_mix_104 ?_
    refine lv_topi (fun x_55 _ => ?_)
    refine lv_iadd hx hb dX8_mix_105 ?_
    refine lv_topi (fun x_56 _ => ?_)
    refine lv_iload hx hb dX8_mix_106 (lv_at hl 0 rfl) ?_
    refine lv_iadd hx hb dX8_mix_108 ?_
    refine lv_topi (fun x_57 _ => ?_)
    refine va_iast hx hb hK hP hD hS 1 0 rfl rfl (vp_in_nI (by omega) (by omega)) dX8_mix_109 (fun H locs hP hD hS => ?_)
    obtain ⟨f_58, hP, hD⟩ : ∃ f_58 : Nat → Int32, va_P (dC, dI) vwCl [(h0, .inr (8, [.ref qw, .ref qs, .ref qt])), (qw, .inl (cw, 64, .inl f_58)), (qs, .inl (cs, 8, .inl g0)), (qt, .inl (ct, 8, .inl k))] H ∧ va_D A [(h0, .inr (8, [.ref qw, .ref qs, .ref qt])), (qw, .inl (cw, 64, .inl f_58)), (qs, .inl (cs, 8, .inl g0)), (qt, .inl (ct, 8, .inl k))] := ⟨_, hP, hD⟩
    refine lv_iinc (v := (nI (i1 + 1))) (lv' := [(1, .int (nI (i1 + 1))), (5, .int x_50), (4, .int x_38), (3, .int x_26), (2, .int x_24), (0, .ref h0)]) hx hb dX8_mix_110 hl (k := 4) rfl (nI_1 _) (by decide) rfl (fun ls hl => ?_)
    refine lv_goto (tgt := 3) hx hb dX8_mix_113 (by decide) ?_
    refine W.widen (k := 0) (n := 0) (by omega) (by omega) ?_
    exact ih_2 ((i1 + 1), f_58) (by first | omega | exact ⟨by omega, by omega⟩) (by show 64 - (i1 + 1) < 64 - i1; omega) _ _ (hP.sub [0, 1, 2, 3] rfl) (hD.sub [0, 1, 2, 3] (by decide) rfl) hS ls (lv_sub hl [0, 5] rfl)
set_option maxHeartbeats 4000000 in
set_option maxRecDepth 100000 in
theorem c_X8_wordAt (l : Launch) (dC : Nat → ClassId) (dI : Nat → Nat → Nat) (sz : Nat) (t1 : Nat) (b : Nat) (hb0 : b < 1000) : Met l yX8_wordAt (.code yX8_wordAt cX8_wordAt 6 (some .int) :: tb) ({ frames := 0, cells := 0, slots := 0, locals := 0 }) (va_Pc [.ref t1, .int 0, .int (nI b)] (PW (dC, dI) sz [] [])) (va_Qi (fun (r : Int32) (_ : Unit) => True) (fun _ T9 => QW (dC, dI) (va_A [] sz) [] [] T9) (va_A [] sz)) 0 0 (va_A [] sz) := by
  refine Met.ofW (cc := cX8_wordAt) (maxL := 6) (ret := (some .int)) (by decide) rfl ?_
  intro p e s m args below meth c s₁ B hml hv
  obtain ⟨rfl, hsz, hP, hK, hD0, hE⟩ := hv
  have hx := B.exec
  have hb := B.bytes
  have hr := B.returns
  have hts : ∀ w ∈ tb, w.before _ s = true := fun w h => atoms_spec (ws := .code yX8_wordAt cX8_wordAt 6 (some .int) :: tb) B.pre w (List.mem_cons_of_mem _ h)
  have hown : s.vm.findClass RX8 = some m.cls := findClass_of_methodNamed B.named
  have hlocks := B.notSynchronized
  subst hsz
  have hD := hD0.self (sz := s.heap.size)
  generalize hAe : va_A [] s.heap.size = A at hD ⊢
  have hA : ∀ q : Nat, s.heap.size ≤ q → A q := fun q h => by rw [← hAe]; exact Or.inr h
  have hS : va_S A s.heap s.heap [] := va_S.rf
  have hP : va_P (dC, dI) vwCl [] s.heap := hP
  have hl := lv_entry ([.ref t1, .int 0, .int (nI b)]) (n := 6) (Nat.le_of_ble_eq_true rfl)
  rw [lg_entry_eq]
  generalize (lg_sl ([.ref t1, .int 0, .int (nI b)]) ++ List.replicate (6 - (lg_sl ([.ref t1, .int 0, .int (nI b)])).length) Slot.unset).toArray = ls at hl ⊢
  have hl : lv_has ls 6 [(0, .ref t1), (1, .int 0), (2, .int (nI b))] := hl
  refine lv_iconst (v := 0) hx hb dX8_wordAt_0 (by decide) ?_
  refine lv_istore_n (lv' := [(3, .int 0), (0, .ref t1), (1, .int 0), (2, .int (nI b))]) hx hb dX8_wordAt_1 rfl hl (by decide) rfl (fun ls hl => ?_)
  refine lv_iload_n hx hb dX8_wordAt_2 rfl (lv_at hl 3 rfl) ?_
  refine lv_istore (lv' := [(4, .int (nI b)), (3, .int 0), (0, .ref t1), (1, .int 0), (2, .int (nI b))]) hx hb dX8_wordAt_3 hl (by decide) rfl (fun ls hl => ?_)
  refine W.widen (k := 0) (n := 0) (by omega) (by omega) ?_
  refine wl_loop (σ := Nat × Int32) A (dC, dI) 5 6 (fun (i1, wv) => []) (fun (i1, wv) => [(4, .int (nI i1)), (3, .int wv), (0, .ref t1), (1, .int 0), (2, .int (nI b))]) (fun (i1, wv) => []) (fun (i1, wv) => 0) (fun (i1, wv) => 0) (fun (i1, wv) => b ≤ i1 ∧ i1 ≤ b + 4) (fun (i1, wv) => b + 4 - i1) ?_ (b, 0) (by first | omega | exact ⟨by omega, by omega⟩) _ _ (hP.sub [] rfl) (hD.sub [] (by decide) rfl) hS ls (lv_sub hl [0, 1, 2, 3, 4] rfl)
  rintro ⟨i1, wv⟩ hv_1 ih_2 H locs hP hD hS ls hl
  have hP : va_P (dC, dI) vwCl [] H := hP
  have hD : va_D A [] := hD
  have hl : lv_has ls 6 [(4, .int (nI i1)), (3, .int wv), (0, .ref t1), (1, .int 0), (2, .int (nI b))] := hl
  have hv_1 : b ≤ i1 ∧ i1 ≤ b + 4 := hv_1
  refine W.widen (k := 0) (n := 0) (Nat.le_refl _) (Nat.le_refl _) ?_
  refine W.eq (g2 := F0 m 5 ls []) rfl ?_
  obtain ⟨hv1, hv2⟩ := hv_1
  refine lv_iload hx hb dX8_wordAt_5 (lv_at hl 0 rfl) ?_
  refine lv_iload_n hx hb dX8_wordAt_7 rfl (lv_at hl 4 rfl) ?_
  refine lv_iconst (v := 4) hx hb dX8_wordAt_8 (by decide) ?_
  refine lv_iadd hx hb dX8_wordAt_9 ?_
  refine lv_topi (fun x_3 ex_3 => ?_)
  obtain rfl : x_3 = (nI (b + 4)) := ex_3.trans (nI_add b 4)
  refine lv_icmp_ge (tgt := 61) hx hb dX8_wordAt_10 (by decide) (fun c_4 => ?_) (fun c_4 => ?_)
  ·
    have hi_5 : (b + 4) ≤ i1 := leN (N := (b + 4)) c_4
    refine lv_iload_n hx hb dX8_wordAt_61 rfl (lv_at hl 1 rfl) ?_
    have hP9 := hP.sub (ws' := []) [] rfl
    have hD9 := hD.sub (ws' := []) [] (by decide) rfl
    have hK9 := hK.sub (tys' := []) [] rfl
    refine W.widen (k := 0) (n := 0) (by omega) (by omega) ?_
    exact W.iret (v := wv) hx hb hr (fun t ht hW => ⟨⟨wv, (), rfl, trivial, QW.mk ht hW hP9 hK9 hD9⟩, hS.F ht⟩) hS.2.2 dX8_wordAt_62
  ·
    have hi_6 : i1 < (b + 4) := ltN (N := (b + 4)) c_4
    refine lv_iload hx hb dX8_wordAt_13 (lv_at hl 0 rfl) ?_
    refine lv_iload_n hx hb dX8_wordAt_15 rfl (lv_at hl 3 rfl) ?_
    refine lv_icmp_ge (tgt := 32) hx hb dX8_wordAt_16 (by decide) (fun c_7 => ?_) (fun c_7 => absurd (nI_pos' (by omega)) c_7)
    refine lv_iload hx hb dX8_wordAt_32 (lv_at hl 0 rfl) ?_
    refine lv_iload_n hx hb dX8_wordAt_34 rfl (lv_at hl 3 rfl) ?_
    refine lv_icmp_ne (tgt := 44) hx hb dX8_wordAt_35 (by decide) (fun c_8 => ?_) (fun c_8 => ?_)
    ·
      refine lv_iconst (v := 0) hx hb dX8_wordAt_44 (by decide) ?_
      refine lv_istore (lv' := [(5, .int 0), (4, .int (nI i1)), (3, .int wv), (0, .ref t1), (1, .int 0), (2, .int (nI b))]) hx hb dX8_wordAt_45 hl (by decide) rfl (fun ls hl => ?_)
      refine lv_iload_n hx hb dX8_wordAt_47 rfl (lv_at hl 2 rfl) ?_
      refine lv_bipush (v := 8) hx hb dX8_wordAt_48 (by decide) ?_
      refine lv_ishl hx hb dX8_wordAt_50 ?_
      refine lv_topi (fun x_10 _ => ?_)
      refine lv_iload hx hb dX8_wordAt_51 (lv_at hl 0 rfl) ?_
      refine lv_ior hx hb dX8_wordAt_53 ?_
      refine lv_topi (fun x_11 _ => ?_)
      refine lv_istore_n (lv' := [(3, .int x_11), (5, .int 0), (4, .int (nI i1)), (0, .ref t1), (1, .int 0), (2, .int (nI b))]) hx hb dX8_wordAt_54 rfl hl (by decide) rfl (fun ls hl => ?_)
      refine lv_iinc (v := (nI (i1 + 1))) (lv' := [(4, .int (nI (i1 + 1))), (3, .int x_11), (5, .int 0), (0, .ref t1), (1, .int 0), (2, .int (nI b))]) hx hb dX8_wordAt_55 hl (k := 2) rfl (nI_1 _) (by decide) rfl (fun ls hl => ?_)
      refine lv_goto (tgt := 5) hx hb dX8_wordAt_58 (by decide) ?_
      refine W.widen (k := 0) (n := 0) (by omega) (by omega) ?_
      exact ih_2 ((i1 + 1), x_11) (by first | omega | exact ⟨by omega, by omega⟩) (by show b + 4 - (i1 + 1) < b + 4 - i1; omega) _ _ (hP.sub [] rfl) (hD.sub [] (by decide) rfl) hS ls (lv_sub hl [0, 1, 3, 4, 5] rfl)
    ·
      refine lv_sipush (v := 128) hx hb dX8_wordAt_38 (by decide) ?_
      refine lv_goto (tgt := 45) hx hb dX8_wordAt_41 (by decide) ?_
      refine lv_istore (lv' := [(5, .int 128), (4, .int (nI i1)), (3, .int wv), (0, .ref t1), (1, .int 0), (2, .int (nI b))]) hx hb dX8_wordAt_45 hl (by decide) rfl (fun ls hl => ?_)
      refine lv_iload_n hx hb dX8_wordAt_47 rfl (lv_at hl 2 rfl) ?_
      refine lv_bipush (v := 8) hx hb dX8_wordAt_48 (by decide) ?_
      refine lv_ishl hx hb dX8_wordAt_50 ?_
      refine lv_topi (fun x_13 _ => ?_)
      refine lv_iload hx hb dX8_wordAt_51 (lv_at hl 0 rfl) ?_
      refine lv_ior hx hb dX8_wordAt_53 ?_
      refine lv_topi (fun x_14 _ => ?_)
      refine lv_istore_n (lv' := [(3, .int x_14), (5, .int 128), (4, .int (nI i1)), (0, .ref t1), (1, .int 0), (2, .int (nI b))]) hx hb dX8_wordAt_54 rfl hl (by decide) rfl (fun ls hl => ?_)
      refine lv_iinc (v := (nI (i1 + 1))) (lv' := [(4, .int (nI (i1 + 1))), (3, .int x_14), (5, .int 128), (0, .ref t1), (1, .int 0), (2, .int (nI b))]) hx hb dX8_wordAt_55 hl (k := 2) rfl (nI_1 _) (by decide) rfl (fun ls hl => ?_)
      refine lv_goto (tgt := 5) hx hb dX8_wordAt_58 (by decide) ?_
      refine W.widen (k := 0) (n := 0) (by omega) (by omega) ?_
      exact ih_2 ((i1 + 1), x_14) (by first | omega | exact ⟨by omega, by omega⟩) (by show b + 4 - (i1 + 1) < b + 4 - i1; omega) _ _ (hP.sub [] rfl) (hD.sub [] (by decide) rfl) hS ls (lv_sub hl [0, 1, 3, 4, 5] rfl)
set_option maxHeartbeats 4000000 in
set_option maxRecDepth 100000 in
theorem c_X8_sumOf (l : Launch) (dC : Nat → ClassId) (dI : Nat → Nat → Nat) (sz : Nat) (h0 : Nat) (qw : Nat) (qs : Nat) (qt : Nat) (t1 : Nat) (t2 : Nat) (o1 : Nat) (o2 : Nat) (cw : ClassId) (cs : ClassId) (ct : ClassId) (co : ClassId) (f : Nat → Int32) (g0 : Nat → Int32) (k : Nat → Int32) (fo : Nat → Int32) : Met l yX8_sumOf (.code yX8_sumOf cX8_sumOf 7 none :: tb) ({ frames := 2, cells := 0, slots := 0, locals := 73 }) (va_Pc [.ref h0, .ref t1, .int 0, .ref o1] (PWS (dC, dI) sz [(h0, .inr (8, [.ref qw, .ref qs, .ref qt])), (qw, .inl (cw, 64, .inl f)), (qs, .inl (cs, 8, .inl g0)), (qt, .inl (ct, 8, .inl k)), (t1, .inr (0, [.ref t2, .int 0, .int 0])), (o1, .inr (0, [.ref o2, .int 0, .int 0])), (o2, .inl (co, 3000, .inl fo))] [(cw, .int), (cs, .int), (ct, .int), (co, .int)])) (va_Qv (fun _ : Unit => True) (fun _ T9 => QW (dC, dI) (va_A [(h0, .inr (8, [.ref qw, .ref qs, .ref qt])), (qw, .inl (cw, 64, .inl f)), (qs, .inl (cs, 8, .inl g0)), (qt, .inl (ct, 8, .inl k)), (t1, .inr (0, [.ref t2, .int 0, .int 0])), (o1, .inr (0, [.ref o2, .int 0, .int 0])), (o2, .inl (co, 3000, .inl fo))] sz) [(t1, .inr (0, [.ref t2, .int 0, .int 0])), (o1, .inr (0, [.ref o2, .int (nI 32), .int 0]))] [] T9) (va_A [(h0, .inr (8, [.ref qw, .ref qs, .ref qt])), (qw, .inl (cw, 64, .inl f)), (qs, .inl (cs, 8, .inl g0)), (qt, .inl (ct, 8, .inl k)), (t1, .inr (0, [.ref t2, .int 0, .int 0])), (o1, .inr (0, [.ref o2, .int 0, .int 0])), (o2, .inl (co, 3000, .inl fo))] sz)) 0 0 (va_A [(h0, .inr (8, [.ref qw, .ref qs, .ref qt])), (qw, .inl (cw, 64, .inl f)), (qs, .inl (cs, 8, .inl g0)), (qt, .inl (ct, 8, .inl k)), (t1, .inr (0, [.ref t2, .int 0, .int 0])), (o1, .inr (0, [.ref o2, .int 0, .int 0])), (o2, .inl (co, 3000, .inl fo))] sz) := by
  refine Met.ofW (cc := cX8_sumOf) (maxL := 7) (ret := none) (by decide) rfl ?_
  intro p e s m args below meth c s₁ B hml hv
  obtain ⟨rfl, ⟨hsz, hP, hK, hD0, hE⟩, hZ⟩ := hv
  have hx := B.exec
  have hb := B.bytes
  have hr := B.returns
  have hts : ∀ w ∈ tb, w.before _ s = true := fun w h => atoms_spec (ws := .code yX8_sumOf cX8_sumOf 7 none :: tb) B.pre w (List.mem_cons_of_mem _ h)
  have hown : s.vm.findClass RX8 = some m.cls := findClass_of_methodNamed B.named
  have hlocks := B.notSynchronized
  subst hsz
  have hD := hD0.self (sz := s.heap.size)
  generalize hAe : va_A [(h0, .inr (8, [.ref qw, .ref qs, .ref qt])), (qw, .inl (cw, 64, .inl f)), (qs, .inl (cs, 8, .inl g0)), (qt, .inl (ct, 8, .inl k)), (t1, .inr (0, [.ref t2, .int 0, .int 0])), (o1, .inr (0, [.ref o2, .int 0, .int 0])), (o2, .inl (co, 3000, .inl fo))] s.heap.size = A at hD hZ ⊢
  obtain ⟨aB, aF, fB, fF, zB, tB, zF, tF⟩ := id hZ
  have hA : ∀ q : Nat, s.heap.size ≤ q → A q := fun q h => by rw [← hAe]; exact Or.inr h
  have hS : va_S A s.heap s.heap [] := va_S.rf
  have hP : va_P (dC, dI) vwCl [(h0, .inr (8, [.ref qw, .ref qs, .ref qt])), (qw, .inl (cw, 64, .inl f)), (qs, .inl (cs, 8, .inl g0)), (qt, .inl (ct, 8, .inl k)), (t1, .inr (0, [.ref t2, .int 0, .int 0])), (o1, .inr (0, [.ref o2, .int 0, .int 0])), (o2, .inl (co, 3000, .inl fo))] s.heap := hP
  have hl := lv_entry ([.ref h0, .ref t1, .int 0, .ref o1]) (n := 7) (Nat.le_of_ble_eq_true rfl)
  rw [lg_entry_eq]
  generalize (lg_sl ([.ref h0, .ref t1, .int 0, .ref o1]) ++ List.replicate (7 - (lg_sl ([.ref h0, .ref t1, .int 0, .ref o1])).length) Slot.unset).toArray = ls at hl ⊢
  have hl : lv_has ls 7 [(0, .ref h0), (1, .ref t1), (2, .int 0), (3, .ref o1)] := hl
  refine va_gets hx hb zB hS hown (hts _ kt_249) (fun _ h9 => h9) dX8_sumOf_0 ?_
  refine lv_iconst (v := 0) hx hb dX8_sumOf_3 (by decide) ?_
  refine lv_aload_n hx hb dX8_sumOf_4 rfl (lv_at hl 0 rfl) ?_
  refine va_get (D := (dC, dI)) (ci := 8) (v := .ref qs) (C := RX8) (T := TX8) (N := 3) hx hb hts it_8 hown hK hP 0 rfl rfl 1 (by decide) (hts _ kt_35) (fun _ h9 => h9) rfl dX8_sumOf_5 ?_
  refine lv_iconst (v := 0) hx hb dX8_sumOf_8 (by decide) ?_
  refine lv_bipush (v := 8) hx hb dX8_sumOf_9 (by decide) ?_
  refine cp_ti hx hb (by rw [hml]; exact hl.1.symm) hown (hts _ kt_241) (hts _ kt_242) (hts _ kt_243) (hts _ kt_244) hK hP hD hS tB 2 1 rfl rfl (by decide) (by decide) (by decide) (by decide) (by decide) (Nat.le_of_ble_eq_true rfl) (by decide) dX8_sumOf_11 (fun H locs hP hD hS => ?_)
  obtain ⟨f_1, hP, hD⟩ : ∃ f_1 : Nat → Int32, va_P (dC, dI) vwCl [(h0, .inr (8, [.ref qw, .ref qs, .ref qt])), (qw, .inl (cw, 64, .inl f)), (qs, .inl (cs, 8, .inl f_1)), (qt, .inl (ct, 8, .inl k)), (t1, .inr (0, [.ref t2, .int 0, .int 0])), (o1, .inr (0, [.ref o2, .int 0, .int 0])), (o2, .inl (co, 3000, .inl fo))] H ∧ va_D A [(h0, .inr (8, [.ref qw, .ref qs, .ref qt])), (qw, .inl (cw, 64, .inl f)), (qs, .inl (cs, 8, .inl f_1)), (qt, .inl (ct, 8, .inl k)), (t1, .inr (0, [.ref t2, .int 0, .int 0])), (o1, .inr (0, [.ref o2, .int 0, .int 0])), (o2, .inl (co, 3000, .inl fo))] := ⟨_, hP, hD⟩
  refine lv_iload_n hx hb dX8_sumOf_14 rfl (lv_at hl 2 rfl) ?_
  refine lv_bipush (v := 9) hx hb dX8_sumOf_15 (by decide) ?_
  refine lv_iadd hx hb dX8_sumOf_17 ?_
  refine lv_topi (fun x_2 ex_2 => ?_)
  obtain rfl : x_2 = 9 := ex_2.trans (by decide)
  refine lv_bipush (v := 63) hx hb dX8_sumOf_18 (by decide) ?_
  refine lv_iadd hx hb dX8_sumOf_20 ?_
  refine lv_topi (fun x_3 ex_3 => ?_)
  obtain rfl : x_3 = 72 := ex_3.trans (by decide)
  refine lv_bipush (v := 64) hx hb dX8_sumOf_21 (by decide) ?_
  refine lv_idiv hx hb dX8_sumOf_23 (by decide) ?_
  refine lv_topi (fun x_4 ex_4 => ?_)
  obtain rfl : x_4 = 1 := ex_4.trans (by decide)
  refine lv_istore (lv' := [(4, .int 1), (0, .ref h0), (1, .ref t1), (2, .int 0), (3, .ref o1)]) hx hb dX8_sumOf_24 hl (by decide) rfl (fun ls hl => ?_)
  refine lv_iconst (v := 0) hx hb dX8_sumOf_26 (by decide) ?_
  refine lv_istore (lv' := [(5, .int 0), (4, .int 1), (0, .ref h0), (1, .ref t1), (2, .int 0), (3, .ref o1)]) hx hb dX8_sumOf_27 hl (by decide) rfl (fun ls hl => ?_)
  refine lv_iload hx hb dX8_sumOf_29 (lv_at hl 0 rfl) ?_
  refine lv_iload hx hb dX8_sumOf_31 (lv_at hl 1 rfl) ?_
  refine lv_icmp_ge (tgt := 104) hx hb dX8_sumOf_33 (by decide) (fun c_5 => absurd c_5 (by decide)) (fun c_5 => ?_)
  refine lv_iconst (v := 0) hx hb dX8_sumOf_36 (by decide) ?_
  refine lv_istore (lv' := [(6, .int 0), (5, .int 0), (4, .int 1), (0, .ref h0), (1, .ref t1), (2, .int 0), (3, .ref o1)]) hx hb dX8_sumOf_37 hl (by decide) rfl (fun ls hl => ?_)
  refine W.widen (k := 0) (n := 0) (by omega) (by omega) ?_
  refine wl_loop (σ := Nat × (Nat → Int32)) A (dC, dI) 39 7 (fun (i1, fa) => [(h0, .inr (8, [.ref qw, .ref qs, .ref qt])), (qw, .inl (cw, 64, .inl fa)), (qs, .inl (cs, 8, .inl f_1)), (qt, .inl (ct, 8, .inl k)), (t1, .inr (0, [.ref t2, .int 0, .int 0])), (o1, .inr (0, [.ref o2, .int 0, .int 0])), (o2, .inl (co, 3000, .inl fo))]) (fun (i1, fa) => [(6, .int (nI i1)), (5, .int 0), (4, .int 1), (0, .ref h0), (1, .ref t1), (2, .int 0), (3, .ref o1)]) (fun (i1, fa) => []) (fun (i1, fa) => 0) (fun (i1, fa) => 0) (fun (i1, fa) => i1 ≤ 16) (fun (i1, fa) => 16 - i1) ?_ (0, f) (by first | omega | exact ⟨by omega, by omega⟩) _ _ (hP.sub [0, 1, 2, 3, 4, 5, 6] rfl) (hD.sub [0, 1, 2, 3, 4, 5, 6] (by decide) rfl) hS ls (lv_sub hl [0, 1, 2, 3, 4, 5, 6] rfl)
  rintro ⟨i1, fa⟩ hv_6 ih_7 H locs hP hD hS ls hl
  have hP : va_P (dC, dI) vwCl [(h0, .inr (8, [.ref qw, .ref qs, .ref qt])), (qw, .inl (cw, 64, .inl fa)), (qs, .inl (cs, 8, .inl f_1)), (qt, .inl (ct, 8, .inl k)), (t1, .inr (0, [.ref t2, .int 0, .int 0])), (o1, .inr (0, [.ref o2, .int 0, .int 0])), (o2, .inl (co, 3000, .inl fo))] H := hP
  have hD : va_D A [(h0, .inr (8, [.ref qw, .ref qs, .ref qt])), (qw, .inl (cw, 64, .inl fa)), (qs, .inl (cs, 8, .inl f_1)), (qt, .inl (ct, 8, .inl k)), (t1, .inr (0, [.ref t2, .int 0, .int 0])), (o1, .inr (0, [.ref o2, .int 0, .int 0])), (o2, .inl (co, 3000, .inl fo))] := hD
  have hl : lv_has ls 7 [(6, .int (nI i1)), (5, .int 0), (4, .int 1), (0, .ref h0), (1, .ref t1), (2, .int 0), (3, .ref o1)] := hl
  have hv_6 : i1 ≤ 16 := hv_6
  refine W.widen (k := 0) (n := 0) (Nat.le_refl _) (Nat.le_refl _) ?_
  refine W.eq (g2 := F0 m 39 ls []) rfl ?_
  refine lv_iload hx hb dX8_sumOf_39 (lv_at hl 0 rfl) ?_
  refine lv_bipush (v := 16) hx hb dX8_sumOf_41 (by decide) ?_
  refine lv_icmp_ge (tgt := 74) hx hb dX8_sumOf_43 (by decide) (fun c_8 => ?_) (fun c_8 => ?_)
  ·
    have hi_9 : 16 ≤ i1 := leN (N := 16) c_8
    refine lv_iload hx hb dX8_sumOf_74 (lv_at hl 1 rfl) ?_
    refine lv_iload hx hb dX8_sumOf_76 (lv_at hl 2 rfl) ?_
    refine lv_iconst (v := 1) hx hb dX8_sumOf_78 (by decide) ?_
    refine lv_isub hx hb dX8_sumOf_79 ?_
    refine lv_topi (fun x_10 ex_10 => ?_)
    obtain rfl : x_10 = 0 := ex_10.trans (by decide)
    refine lv_icmp_ne (tgt := 94) hx hb dX8_sumOf_80 (by decide) (fun c_11 => absurd (by decide) c_11) (fun c_11 => ?_)
    refine lv_aload_n hx hb dX8_sumOf_83 rfl (lv_at hl 3 rfl) ?_
    refine va_get (D := (dC, dI)) (ci := 8) (v := .ref qw) (C := RX8) (T := TX8) (N := 3) hx hb hts it_8 hown hK hP 0 rfl rfl 0 (by decide) (hts _ kt_34) (fun _ h9 => h9) rfl dX8_sumOf_84 ?_
    refine lv_bipush (v := 15) hx hb dX8_sumOf_87 (by decide) ?_
    refine lv_iload_n hx hb dX8_sumOf_89 rfl (lv_at hl 5 rfl) ?_
    refine lv_bipush (v := 8) hx hb dX8_sumOf_90 (by decide) ?_
    refine lv_imul hx hb dX8_sumOf_92 ?_
    refine lv_topi (fun x_12 ex_12 => ?_)
    obtain rfl : x_12 = 0 := ex_12.trans (by decide)
    refine va_iast hx hb hK hP hD hS 1 0 rfl rfl (show vp_in (15 : Int32) 64 from (show vp_in (nI 15) 64 from vp_in_nI (by omega) (by omega))) dX8_sumOf_93 (fun H locs hP hD hS => ?_)
    obtain ⟨f_13, hP, hD⟩ : ∃ f_13 : Nat → Int32, va_P (dC, dI) vwCl [(h0, .inr (8, [.ref qw, .ref qs, .ref qt])), (qw, .inl (cw, 64, .inl f_13)), (qs, .inl (cs, 8, .inl f_1)), (qt, .inl (ct, 8, .inl k)), (t1, .inr (0, [.ref t2, .int 0, .int 0])), (o1, .inr (0, [.ref o2, .int 0, .int 0])), (o2, .inl (co, 3000, .inl fo))] H ∧ va_D A [(h0, .inr (8, [.ref qw, .ref qs, .ref qt])), (qw, .inl (cw, 64, .inl f_13)), (qs, .inl (cs, 8, .inl f_1)), (qt, .inl (ct, 8, .inl k)), (t1, .inr (0, [.ref t2, .int 0, .int 0])), (o1, .inr (0, [.ref o2, .int 0, .int 0])), (o2, .inl (co, 3000, .inl fo))] := ⟨_, hP, hD⟩
    refine lv_aload_n hx hb dX8_sumOf_94 rfl (lv_at hl 3 rfl) ?_
    have hPc := hP.sub (ws' := [(h0, .inr (8, [.ref qw, .ref qs, .ref qt])), (qw, .inl (cw, 64, .inl f_13)), (qs, .inl (cs, 8, .inl f_1)), (qt, .inl (ct, 8, .inl k))]) [0, 1, 2, 3] rfl
    have hDc := hD.sub (ws' := [(h0, .inr (8, [.ref qw, .ref qs, .ref qt])), (qw, .inl (cw, 64, .inl f_13)), (qs, .inl (cs, 8, .inl f_1)), (qt, .inl (ct, 8, .inl k))]) [0, 1, 2, 3] (by decide) rfl
    have hKc := hK.sub (tys' := [(cw, .int), (cs, .int), (ct, .int)]) [0, 1, 2] rfl
    have hFc := va_free (wc := [(h0, .inr (8, [.ref qw, .ref qs, .ref qt])), (qw, .inl (cw, 64, .inl f_13)), (qs, .inl (cs, 8, .inl f_1)), (qt, .inl (ct, 8, .inl k))]) hD hS hA [0, 1, 2, 3] rfl
    refine va_callv (va_runV (As := []) (rest := []) ⟨hx, hb, hml, hown, hts⟩ (c_X8_mix l dC dI H.size h0 qw qs qt cw cs ct f_13 f_1 k ) ⟨callB_of 0 hts (gi kt_250) rfl rfl rfl (hts _ kt_116) (hts _ kt_251) (by decide +kernel) ⟨Nat.le_of_ble_eq_true rfl, Nat.le_of_ble_eq_true rfl⟩, (hts _ kt_252), (hts _ kt_253)⟩ ⟨fun a U g mk q => ⟨q.1, PWS.calling q.2⟩, va_recv hKc hPc (ci := 8) (q0 := 0) rfl rfl, fun U hU hW => ⟨rfl, PWS.mk hU hW hPc hKc hDc hE hZ hS hFc⟩⟩ rfl rfl hl.1 rfl (lv_room (Nat.le_of_ble_eq_true rfl)) dX8_sumOf_95 ⟨by show _ + 0 ≤ 0; omega, by show _ + 0 ≤ 0; omega⟩) hS (fun q _ h => hFc q h) hFc (fun u t H1 locs ht hvm hw hB hz1 hk1 hS => ?_)
    obtain ⟨f2_15, g2_16, k2_17, hB1⟩ := hB
    obtain ⟨hP, hD, hK⟩ := QW.join (wr := [(t1, .inr (0, [.ref t2, .int 0, .int 0])), (o1, .inr (0, [.ref o2, .int 0, .int 0])), (o2, .inl (co, 3000, .inl fo))]) hP hD hK [0, 1, 2, 3] [4, 5, 6] rfl rfl (by decide) (by decide) hk1 hFc ht hvm hB1
    generalize H1 = H at hP hS ⊢
    have hK : va_K (dC, dI) vwCl [(cw, .int), (cs, .int), (ct, .int), (co, .int)] s := hK.sub [0, 1, 2, 3] rfl
    have hP : va_P (dC, dI) vwCl [(t1, .inr (0, [.ref t2, .int 0, .int 0])), (o1, .inr (0, [.ref o2, .int 0, .int 0])), (o2, .inl (co, 3000, .inl fo)), (h0, .inr (8, [.ref qw, .ref qs, .ref qt])), (qw, .inl (cw, 64, .inl f2_15)), (qs, .inl (cs, 8, .inl g2_16)), (qt, .inl (ct, 8, .inl k2_17))] H := hP
    have hD : va_D A [(t1, .inr (0, [.ref t2, .int 0, .int 0])), (o1, .inr (0, [.ref o2, .int 0, .int 0])), (o2, .inl (co, 3000, .inl fo)), (h0, .inr (8, [.ref qw, .ref qs, .ref qt])), (qw, .inl (cw, 64, .inl f2_15)), (qs, .inl (cs, 8, .inl g2_16)), (qt, .inl (ct, 8, .inl k2_17))] := hD
    refine lv_iinc (v := 1) (lv' := [(5, .int 1), (6, .int (nI i1)), (4, .int 1), (0, .ref h0), (1, .ref t1), (2, .int 0), (3, .ref o1)]) hx hb dX8_sumOf_98 hl (k := 1) rfl (by decide) (by decide) rfl (fun ls hl => ?_)
    refine lv_goto (tgt := 29) hx hb dX8_sumOf_101 (by decide) ?_
    refine lv_iload hx hb dX8_sumOf_29 (lv_at hl 0 rfl) ?_
    refine lv_iload hx hb dX8_sumOf_31 (lv_at hl 2 rfl) ?_
    refine lv_icmp_ge (tgt := 104) hx hb dX8_sumOf_33 (by decide) (fun c_18 => ?_) (fun c_18 => absurd (by decide) c_18)
    refine lv_aload_n hx hb dX8_sumOf_104 rfl (lv_at hl 6 rfl) ?_
    have hPc := hP.sub (ws' := [(o1, .inr (0, [.ref o2, .int 0, .int 0]))]) [1] rfl
    have hDc := hD.sub (ws' := [(o1, .inr (0, [.ref o2, .int 0, .int 0]))]) [1] (by decide) rfl
    have hKc := hK.sub (tys' := []) [] rfl
    have hFc := va_free (wc := [(o1, .inr (0, [.ref o2, .int 0, .int 0]))]) hD hS hA [1] rfl
    refine va_callv (va_runV (As := []) (rest := []) ⟨hx, hb, hml, hown, hts⟩ (c_X0_clear l dC dI H.size o1 o2 0 0 ) ⟨callB_of 0 hts (gi kt_178) rfl rfl rfl (hts _ kt_10) (hts _ kt_254) (by decide +kernel) ⟨Nat.le_of_ble_eq_true rfl, Nat.le_of_ble_eq_true rfl⟩, (hts _ kt_180), (hts _ kt_181)⟩ ⟨fun a U g mk q => ⟨q.1, PW.calling q.2⟩, va_recv hKc hPc (ci := 0) (q0 := 0) rfl rfl, fun U hU hW => ⟨rfl, PW.mk hU hW hPc hKc hDc hE⟩⟩ rfl rfl hl.1 rfl (lv_room (Nat.le_of_ble_eq_true rfl)) dX8_sumOf_105 ⟨by show _ + 0 ≤ 0; omega, by show _ + 0 ≤ 0; omega⟩) hS (fun q _ h => hFc q h) hFc (fun u t H1 locs ht hvm hw hB hz1 hk1 hS => ?_)
    have hB1 := hB
    obtain ⟨hP, hD, hK⟩ := QW.join (wr := [(t1, .inr (0, [.ref t2, .int 0, .int 0])), (o2, .inl (co, 3000, .inl fo)), (h0, .inr (8, [.ref qw, .ref qs, .ref qt])), (qw, .inl (cw, 64, .inl f2_15)), (qs, .inl (cs, 8, .inl g2_16)), (qt, .inl (ct, 8, .inl k2_17))]) hP hD hK [1] [0, 2, 3, 4, 5, 6] rfl rfl (by decide) (by decide) hk1 hFc ht hvm hB1
    generalize H1 = H at hP hS ⊢
    have hK : va_K (dC, dI) vwCl [(cw, .int), (cs, .int), (ct, .int), (co, .int)] s := hK.sub [0, 1, 2, 3] rfl
    have hP : va_P (dC, dI) vwCl [(t1, .inr (0, [.ref t2, .int 0, .int 0])), (o2, .inl (co, 3000, .inl fo)), (h0, .inr (8, [.ref qw, .ref qs, .ref qt])), (qw, .inl (cw, 64, .inl f2_15)), (qs, .inl (cs, 8, .inl g2_16)), (qt, .inl (ct, 8, .inl k2_17)), (o1, .inr (0, [.ref o2, .int 0, .int 0]))] H := hP
    have hD : va_D A [(t1, .inr (0, [.ref t2, .int 0, .int 0])), (o2, .inl (co, 3000, .inl fo)), (h0, .inr (8, [.ref qw, .ref qs, .ref qt])), (qw, .inl (cw, 64, .inl f2_15)), (qs, .inl (cs, 8, .inl g2_16)), (qt, .inl (ct, 8, .inl k2_17)), (o1, .inr (0, [.ref o2, .int 0, .int 0]))] := hD
    refine lv_iconst (v := 0) hx hb dX8_sumOf_108 (by decide) ?_
    refine lv_istore (lv' := [(5, .int 0), (6, .int (nI i1)), (4, .int 1), (0, .ref h0), (1, .ref t1), (2, .int 0), (3, .ref o1)]) hx hb dX8_sumOf_109 hl (by decide) rfl (fun ls hl => ?_)
    refine lv_iload hx hb dX8_sumOf_111 (lv_at hl 0 rfl) ?_
    refine lv_bipush (v := 8) hx hb dX8_sumOf_113 (by decide) ?_
    refine lv_icmp_ge (tgt := 135) hx hb dX8_sumOf_115 (by decide) (fun c_20 => absurd c_20 (by decide)) (fun c_20 => ?_)
    refine lv_aload_n hx hb dX8_sumOf_118 rfl (lv_at hl 6 rfl) ?_
    refine lv_aload_n hx hb dX8_sumOf_119 rfl (lv_at hl 3 rfl) ?_
    refine va_get (D := (dC, dI)) (ci := 8) (v := .ref qs) (C := RX8) (T := TX8) (N := 3) hx hb hts it_8 hown hK hP 2 rfl rfl 1 (by decide) (hts _ kt_35) (fun _ h9 => h9) rfl dX8_sumOf_120 ?_
    refine lv_iload hx hb dX8_sumOf_123 (lv_at hl 0 rfl) ?_
    refine va_iald hx hb hK hP 4 1 rfl rfl (show vp_in (0 : Int32) 8 from (show vp_in (nI 0) 8 from vp_in_nI (by omega) (by omega))) dX8_sumOf_125 ?_
    refine lv_topi (fun x_21 _ => ?_)
    have hP : va_P (dC, dI) vwCl [(t1, .inr (0, [.ref t2, .int 0, .int 0])), (o2, .inl (co, 3000, .inl fo)), (h0, .inr (8, [.ref qw, .ref qs, .ref qt])), (qw, .inl (cw, 64, .inl f2_15)), (qs, .inl (cs, 8, .inl g2_16)), (qt, .inl (ct, 8, .inl k2_17)), (o1, .inr (0, [.ref o2, .int (nI 0), .int 0]))] H := hP
    have hD : va_D A [(t1, .inr (0, [.ref t2, .int 0, .int 0])), (o2, .inl (co, 3000, .inl fo)), (h0, .inr (8, [.ref qw, .ref qs, .ref qt])), (qw, .inl (cw, 64, .inl f2_15)), (qs, .inl (cs, 8, .inl g2_16)), (qt, .inl (ct, 8, .inl k2_17)), (o1, .inr (0, [.ref o2, .int (nI 0), .int 0]))] := hD
    have hPc := hP.sub (ws' := [(o1, .inr (0, [.ref o2, .int (nI 0), .int 0])), (o2, .inl (co, 3000, .inl fo))]) [6, 1] rfl
    have hDc := hD.sub (ws' := [(o1, .inr (0, [.ref o2, .int (nI 0), .int 0])), (o2, .inl (co, 3000, .inl fo))]) [6, 1] (by decide) rfl
    have hKc := hK.sub (tys' := [(co, .int)]) [3] rfl
    have hFc := va_free (wc := [(o1, .inr (0, [.ref o2, .int (nI 0), .int 0])), (o2, .inl (co, 3000, .inl fo))]) hD hS hA [6, 1] rfl
    refine va_callv (va_runV (As := [.int x_21]) (rest := []) ⟨hx, hb, hml, hown, hts⟩ (c_X0_addFour l dC dI H.size o1 o2 0 co fo x_21 (by omega)) ⟨callB_of 1 hts (gi kt_206) rfl rfl rfl (hts _ kt_10) (hts _ kt_255) (by decide +kernel) ⟨Nat.le_of_ble_eq_true rfl, Nat.le_of_ble_eq_true rfl⟩, (hts _ kt_208), (hts _ kt_209)⟩ ⟨fun a U g mk q => ⟨q.1, PW.calling q.2⟩, va_recv hKc hPc (ci := 0) (q0 := 0) rfl rfl, fun U hU hW => ⟨rfl, PW.mk hU hW hPc hKc hDc hE⟩⟩ rfl rfl hl.1 rfl (lv_room (Nat.le_of_ble_eq_true rfl)) dX8_sumOf_126 ⟨by show _ + 0 ≤ 0; omega, by show _ + 0 ≤ 0; omega⟩) hS (fun q _ h => hFc q h) hFc (fun u t H1 locs ht hvm hw hB hz1 hk1 hS => ?_)
    obtain ⟨f2_23, hB1⟩ := hB
    obtain ⟨hP, hD, hK⟩ := QW.join (wr := [(t1, .inr (0, [.ref t2, .int 0, .int 0])), (h0, .inr (8, [.ref qw, .ref qs, .ref qt])), (qw, .inl (cw, 64, .inl f2_15)), (qs, .inl (cs, 8, .inl g2_16)), (qt, .inl (ct, 8, .inl k2_17))]) hP hD hK [6, 1] [0, 2, 3, 4, 5] rfl rfl (by decide) (by decide) hk1 hFc ht hvm hB1
    generalize H1 = H at hP hS ⊢
    have hK : va_K (dC, dI) vwCl [(cw, .int), (cs, .int), (ct, .int), (co, .int)] s := hK.sub [0, 1, 2, 3] rfl
    have hP : va_P (dC, dI) vwCl [(t1, .inr (0, [.ref t2, .int 0, .int 0])), (h0, .inr (8, [.ref qw, .ref qs, .ref qt])), (qw, .inl (cw, 64, .inl f2_15)), (qs, .inl (cs, 8, .inl g2_16)), (qt, .inl (ct, 8, .inl k2_17)), (o1, .inr (0, [.ref o2, .int (nI 4), .int 0])), (o2, .inl (co, 3000, .inl f2_23))] H := hP
    have hD : va_D A [(t1, .inr (0, [.ref t2, .int 0, .int 0])), (h0, .inr (8, [.ref qw, .ref qs, .ref qt])), (qw, .inl (cw, 64, .inl f2_15)), (qs, .inl (cs, 8, .inl g2_16)), (qt, .inl (ct, 8, .inl k2_17)), (o1, .inr (0, [.ref o2, .int (nI 4), .int 0])), (o2, .inl (co, 3000, .inl f2_23))] := hD
    refine lv_iinc (v := 1) (lv' := [(5, .int 1), (6, .int (nI i1)), (4, .int 1), (0, .ref h0), (1, .ref t1), (2, .int 0), (3, .ref o1)]) hx hb dX8_sumOf_129 hl (k := 0) rfl (by decide) (by decide) rfl (fun ls hl => ?_)
    refine lv_goto (tgt := 111) hx hb dX8_sumOf_132 (by decide) ?_
    refine lv_iload hx hb dX8_sumOf_111 (lv_at hl 0 rfl) ?_
    refine lv_bipush (v := 8) hx hb dX8_sumOf_113 (by decide) ?_
    refine lv_icmp_ge (tgt := 135) hx hb dX8_sumOf_115 (by decide) (fun c_24 => absurd c_24 (by decide)) (fun c_24 => ?_)
    refine lv_aload_n hx hb dX8_sumOf_118 rfl (lv_at hl 6 rfl) ?_
    refine lv_aload_n hx hb dX8_sumOf_119 rfl (lv_at hl 3 rfl) ?_
    refine va_get (D := (dC, dI)) (ci := 8) (v := .ref qs) (C := RX8) (T := TX8) (N := 3) hx hb hts it_8 hown hK hP 1 rfl rfl 1 (by decide) (hts _ kt_35) (fun _ h9 => h9) rfl dX8_sumOf_120 ?_
    refine lv_iload hx hb dX8_sumOf_123 (lv_at hl 0 rfl) ?_
    refine va_iald hx hb hK hP 3 1 rfl rfl (show vp_in (1 : Int32) 8 from (show vp_in (nI 1) 8 from vp_in_nI (by omega) (by omega))) dX8_sumOf_125 ?_
    refine lv_topi (fun x_25 _ => ?_)
    have hPc := hP.sub (ws' := [(o1, .inr (0, [.ref o2, .int (nI 4), .int 0])), (o2, .inl (co, 3000, .inl f2_23))]) [5, 6] rfl
    have hDc := hD.sub (ws' := [(o1, .inr (0, [.ref o2, .int (nI 4), .int 0])), (o2, .inl (co, 3000, .inl f2_23))]) [5, 6] (by decide) rfl
    have hKc := hK.sub (tys' := [(co, .int)]) [3] rfl
    have hFc := va_free (wc := [(o1, .inr (0, [.ref o2, .int (nI 4), .int 0])), (o2, .inl (co, 3000, .inl f2_23))]) hD hS hA [5, 6] rfl
    refine va_callv (va_runV (As := [.int x_25]) (rest := []) ⟨hx, hb, hml, hown, hts⟩ (c_X0_addFour l dC dI H.size o1 o2 4 co f2_23 x_25 (by omega)) ⟨callB_of 1 hts (gi kt_206) rfl rfl rfl (hts _ kt_10) (hts _ kt_255) (by decide +kernel) ⟨Nat.le_of_ble_eq_true rfl, Nat.le_of_ble_eq_true rfl⟩, (hts _ kt_208), (hts _ kt_209)⟩ ⟨fun a U g mk q => ⟨q.1, PW.calling q.2⟩, va_recv hKc hPc (ci := 0) (q0 := 0) rfl rfl, fun U hU hW => ⟨rfl, PW.mk hU hW hPc hKc hDc hE⟩⟩ rfl rfl hl.1 rfl (lv_room (Nat.le_of_ble_eq_true rfl)) dX8_sumOf_126 ⟨by show _ + 0 ≤ 0; omega, by show _ + 0 ≤ 0; omega⟩) hS (fun q _ h => hFc q h) hFc (fun u t H1 locs ht hvm hw hB hz1 hk1 hS => ?_)
    obtain ⟨f2_27, hB1⟩ := hB
    obtain ⟨hP, hD, hK⟩ := QW.join (wr := [(t1, .inr (0, [.ref t2, .int 0, .int 0])), (h0, .inr (8, [.ref qw, .ref qs, .ref qt])), (qw, .inl (cw, 64, .inl f2_15)), (qs, .inl (cs, 8, .inl g2_16)), (qt, .inl (ct, 8, .inl k2_17))]) hP hD hK [5, 6] [0, 1, 2, 3, 4] rfl rfl (by decide) (by decide) hk1 hFc ht hvm hB1
    generalize H1 = H at hP hS ⊢
    have hK : va_K (dC, dI) vwCl [(cw, .int), (cs, .int), (ct, .int), (co, .int)] s := hK.sub [0, 1, 2, 3] rfl
    have hP : va_P (dC, dI) vwCl [(t1, .inr (0, [.ref t2, .int 0, .int 0])), (h0, .inr (8, [.ref qw, .ref qs, .ref qt])), (qw, .inl (cw, 64, .inl f2_15)), (qs, .inl (cs, 8, .inl g2_16)), (qt, .inl (ct, 8, .inl k2_17)), (o1, .inr (0, [.ref o2, .int (nI 8), .int 0])), (o2, .inl (co, 3000, .inl f2_27))] H := hP
    have hD : va_D A [(t1, .inr (0, [.ref t2, .int 0, .int 0])), (h0, .inr (8, [.ref qw, .ref qs, .ref qt])), (qw, .inl (cw, 64, .inl f2_15)), (qs, .inl (cs, 8, .inl g2_16)), (qt, .inl (ct, 8, .inl k2_17)), (o1, .inr (0, [.ref o2, .int (nI 8), .int 0])), (o2, .inl (co, 3000, .inl f2_27))] := hD
    refine lv_iinc (v := 2) (lv' := [(5, .int 2), (6, .int (nI i1)), (4, .int 1), (0, .ref h0), (1, .ref t1), (2, .int 0), (3, .ref o1)]) hx hb dX8_sumOf_129 hl (k := 0) rfl (by decide) (by decide) rfl (fun ls hl => ?_)
    refine lv_goto (tgt := 111) hx hb dX8_sumOf_132 (by decide) ?_
    refine lv_iload hx hb dX8_sumOf_111 (lv_at hl 0 rfl) ?_
    refine lv_bipush (v := 8) hx hb dX8_sumOf_113 (by decide) ?_
    refine lv_icmp_ge (tgt := 135) hx hb dX8_sumOf_115 (by decide) (fun c_28 => absurd c_28 (by decide)) (fun c_28 => ?_)
    refine lv_aload_n hx hb dX8_sumOf_118 rfl (lv_at hl 6 rfl) ?_
    refine lv_aload_n hx hb dX8_sumOf_119 rfl (lv_at hl 3 rfl) ?_
    refine va_get (D := (dC, dI)) (ci := 8) (v := .ref qs) (C := RX8) (T := TX8) (N := 3) hx hb hts it_8 hown hK hP 1 rfl rfl 1 (by decide) (hts _ kt_35) (fun _ h9 => h9) rfl dX8_sumOf_120 ?_
    refine lv_iload hx hb dX8_sumOf_123 (lv_at hl 0 rfl) ?_
    refine va_iald hx hb hK hP 3 1 rfl rfl (show vp_in (2 : Int32) 8 from (show vp_in (nI 2) 8 from vp_in_nI (by omega) (by omega))) dX8_sumOf_125 ?_
    refine lv_topi (fun x_29 _ => ?_)
    have hPc := hP.sub (ws' := [(o1, .inr (0, [.ref o2, .int (nI 8), .int 0])), (o2, .inl (co, 3000, .inl f2_27))]) [5, 6] rfl
    have hDc := hD.sub (ws' := [(o1, .inr (0, [.ref o2, .int (nI 8), .int 0])), (o2, .inl (co, 3000, .inl f2_27))]) [5, 6] (by decide) rfl
    have hKc := hK.sub (tys' := [(co, .int)]) [3] rfl
    have hFc := va_free (wc := [(o1, .inr (0, [.ref o2, .int (nI 8), .int 0])), (o2, .inl (co, 3000, .inl f2_27))]) hD hS hA [5, 6] rfl
    refine va_callv (va_runV (As := [.int x_29]) (rest := []) ⟨hx, hb, hml, hown, hts⟩ (c_X0_addFour l dC dI H.size o1 o2 8 co f2_27 x_29 (by omega)) ⟨callB_of 1 hts (gi kt_206) rfl rfl rfl (hts _ kt_10) (hts _ kt_255) (by decide +kernel) ⟨Nat.le_of_ble_eq_true rfl, Nat.le_of_ble_eq_true rfl⟩, (hts _ kt_208), (hts _ kt_209)⟩ ⟨fun a U g mk q => ⟨q.1, PW.calling q.2⟩, va_recv hKc hPc (ci := 0) (q0 := 0) rfl rfl, fun U hU hW => ⟨rfl, PW.mk hU hW hPc hKc hDc hE⟩⟩ rfl rfl hl.1 rfl (lv_room (Nat.le_of_ble_eq_true rfl)) dX8_sumOf_126 ⟨by show _ + 0 ≤ 0; omega, by show _ + 0 ≤ 0; omega⟩) hS (fun q _ h => hFc q h) hFc (fun u t H1 locs ht hvm hw hB hz1 hk1 hS => ?_)
    obtain ⟨f2_31, hB1⟩ := hB
    obtain ⟨hP, hD, hK⟩ := QW.join (wr := [(t1, .inr (0, [.ref t2, .int 0, .int 0])), (h0, .inr (8, [.ref qw, .ref qs, .ref qt])), (qw, .inl (cw, 64, .inl f2_15)), (qs, .inl (cs, 8, .inl g2_16)), (qt, .inl (ct, 8, .inl k2_17))]) hP hD hK [5, 6] [0, 1, 2, 3, 4] rfl rfl (by decide) (by decide) hk1 hFc ht hvm hB1
    generalize H1 = H at hP hS ⊢
    have hK : va_K (dC, dI) vwCl [(cw, .int), (cs, .int), (ct, .int), (co, .int)] s := hK.sub [0, 1, 2, 3] rfl
    have hP : va_P (dC, dI) vwCl [(t1, .inr (0, [.ref t2, .int 0, .int 0])), (h0, .inr (8, [.ref qw, .ref qs, .ref qt])), (qw, .inl (cw, 64, .inl f2_15)), (qs, .inl (cs, 8, .inl g2_16)), (qt, .inl (ct, 8, .inl k2_17)), (o1, .inr (0, [.ref o2, .int (nI 12), .int 0])), (o2, .inl (co, 3000, .inl f2_31))] H := hP
    have hD : va_D A [(t1, .inr (0, [.ref t2, .int 0, .int 0])), (h0, .inr (8, [.ref qw, .ref qs, .ref qt])), (qw, .inl (cw, 64, .inl f2_15)), (qs, .inl (cs, 8, .inl g2_16)), (qt, .inl (ct, 8, .inl k2_17)), (o1, .inr (0, [.ref o2, .int (nI 12), .int 0])), (o2, .inl (co, 3000, .inl f2_31))] := hD
    refine lv_iinc (v := 3) (lv' := [(5, .int 3), (6, .int (nI i1)), (4, .int 1), (0, .ref h0), (1, .ref t1), (2, .int 0), (3, .ref o1)]) hx hb dX8_sumOf_129 hl (k := 0) rfl (by decide) (by decide) rfl (fun ls hl => ?_)
    refine lv_goto (tgt := 111) hx hb dX8_sumOf_132 (by decide) ?_
    refine lv_iload hx hb dX8_sumOf_111 (lv_at hl 0 rfl) ?_
    refine lv_bipush (v := 8) hx hb dX8_sumOf_113 (by decide) ?_
    refine lv_icmp_ge (tgt := 135) hx hb dX8_sumOf_115 (by decide) (fun c_32 => absurd c_32 (by decide)) (fun c_32 => ?_)
    refine lv_aload_n hx hb dX8_sumOf_118 rfl (lv_at hl 6 rfl) ?_
    refine lv_aload_n hx hb dX8_sumOf_119 rfl (lv_at hl 3 rfl) ?_
    refine va_get (D := (dC, dI)) (ci := 8) (v := .ref qs) (C := RX8) (T := TX8) (N := 3) hx hb hts it_8 hown hK hP 1 rfl rfl 1 (by decide) (hts _ kt_35) (fun _ h9 => h9) rfl dX8_sumOf_120 ?_
    refine lv_iload hx hb dX8_sumOf_123 (lv_at hl 0 rfl) ?_
    refine va_iald hx hb hK hP 3 1 rfl rfl (show vp_in (3 : Int32) 8 from (show vp_in (nI 3) 8 from vp_in_nI (by omega) (by omega))) dX8_sumOf_125 ?_
    refine lv_topi (fun x_33 _ => ?_)
    have hPc := hP.sub (ws' := [(o1, .inr (0, [.ref o2, .int (nI 12), .int 0])), (o2, .inl (co, 3000, .inl f2_31))]) [5, 6] rfl
    have hDc := hD.sub (ws' := [(o1, .inr (0, [.ref o2, .int (nI 12), .int 0])), (o2, .inl (co, 3000, .inl f2_31))]) [5, 6] (by decide) rfl
    have hKc := hK.sub (tys' := [(co, .int)]) [3] rfl
    have hFc := va_free (wc := [(o1, .inr (0, [.ref o2, .int (nI 12), .int 0])), (o2, .inl (co, 3000, .inl f2_31))]) hD hS hA [5, 6] rfl
    refine va_callv (va_runV (As := [.int x_33]) (rest := []) ⟨hx, hb, hml, hown, hts⟩ (c_X0_addFour l dC dI H.size o1 o2 12 co f2_31 x_33 (by omega)) ⟨callB_of 1 hts (gi kt_206) rfl rfl rfl (hts _ kt_10) (hts _ kt_255) (by decide +kernel) ⟨Nat.le_of_ble_eq_true rfl, Nat.le_of_ble_eq_true rfl⟩, (hts _ kt_208), (hts _ kt_209)⟩ ⟨fun a U g mk q => ⟨q.1, PW.calling q.2⟩, va_recv hKc hPc (ci := 0) (q0 := 0) rfl rfl, fun U hU hW => ⟨rfl, PW.mk hU hW hPc hKc hDc hE⟩⟩ rfl rfl hl.1 rfl (lv_room (Nat.le_of_ble_eq_true rfl)) dX8_sumOf_126 ⟨by show _ + 0 ≤ 0; omega, by show _ + 0 ≤ 0; omega⟩) hS (fun q _ h => hFc q h) hFc (fun u t H1 locs ht hvm hw hB hz1 hk1 hS => ?_)
    obtain ⟨f2_35, hB1⟩ := hB
    obtain ⟨hP, hD, hK⟩ := QW.join (wr := [(t1, .inr (0, [.ref t2, .int 0, .int 0])), (h0, .inr (8, [.ref qw, .ref qs, .ref qt])), (qw, .inl (cw, 64, .inl f2_15)), (qs, .inl (cs, 8, .inl g2_16)), (qt, .inl (ct, 8, .inl k2_17))]) hP hD hK [5, 6] [0, 1, 2, 3, 4] rfl rfl (by decide) (by decide) hk1 hFc ht hvm hB1
    generalize H1 = H at hP hS ⊢
    have hK : va_K (dC, dI) vwCl [(cw, .int), (cs, .int), (ct, .int), (co, .int)] s := hK.sub [0, 1, 2, 3] rfl
    have hP : va_P (dC, dI) vwCl [(t1, .inr (0, [.ref t2, .int 0, .int 0])), (h0, .inr (8, [.ref qw, .ref qs, .ref qt])), (qw, .inl (cw, 64, .inl f2_15)), (qs, .inl (cs, 8, .inl g2_16)), (qt, .inl (ct, 8, .inl k2_17)), (o1, .inr (0, [.ref o2, .int (nI 16), .int 0])), (o2, .inl (co, 3000, .inl f2_35))] H := hP
    have hD : va_D A [(t1, .inr (0, [.ref t2, .int 0, .int 0])), (h0, .inr (8, [.ref qw, .ref qs, .ref qt])), (qw, .inl (cw, 64, .inl f2_15)), (qs, .inl (cs, 8, .inl g2_16)), (qt, .inl (ct, 8, .inl k2_17)), (o1, .inr (0, [.ref o2, .int (nI 16), .int 0])), (o2, .inl (co, 3000, .inl f2_35))] := hD
    refine lv_iinc (v := 4) (lv' := [(5, .int 4), (6, .int (nI i1)), (4, .int 1), (0, .ref h0), (1, .ref t1), (2, .int 0), (3, .ref o1)]) hx hb dX8_sumOf_129 hl (k := 0) rfl (by decide) (by decide) rfl (fun ls hl => ?_)
    refine lv_goto (tgt := 111) hx hb dX8_sumOf_132 (by decide) ?_
    refine lv_iload hx hb dX8_sumOf_111 (lv_at hl 0 rfl) ?_
    refine lv_bipush (v := 8) hx hb dX8_sumOf_113 (by decide) ?_
    refine lv_icmp_ge (tgt := 135) hx hb dX8_sumOf_115 (by decide) (fun c_36 => absurd c_36 (by decide)) (fun c_36 => ?_)
    refine lv_aload_n hx hb dX8_sumOf_118 rfl (lv_at hl 6 rfl) ?_
    refine lv_aload_n hx hb dX8_sumOf_119 rfl (lv_at hl 3 rfl) ?_
    refine va_get (D := (dC, dI)) (ci := 8) (v := .ref qs) (C := RX8) (T := TX8) (N := 3) hx hb hts it_8 hown hK hP 1 rfl rfl 1 (by decide) (hts _ kt_35) (fun _ h9 => h9) rfl dX8_sumOf_120 ?_
    refine lv_iload hx hb dX8_sumOf_123 (lv_at hl 0 rfl) ?_
    refine va_iald hx hb hK hP 3 1 rfl rfl (show vp_in (4 : Int32) 8 from (show vp_in (nI 4) 8 from vp_in_nI (by omega) (by omega))) dX8_sumOf_125 ?_
    refine lv_topi (fun x_37 _ => ?_)
    have hPc := hP.sub (ws' := [(o1, .inr (0, [.ref o2, .int (nI 16), .int 0])), (o2, .inl (co, 3000, .inl f2_35))]) [5, 6] rfl
    have hDc := hD.sub (ws' := [(o1, .inr (0, [.ref o2, .int (nI 16), .int 0])), (o2, .inl (co, 3000, .inl f2_35))]) [5, 6] (by decide) rfl
    have hKc := hK.sub (tys' := [(co, .int)]) [3] rfl
    have hFc := va_free (wc := [(o1, .inr (0, [.ref o2, .int (nI 16), .int 0])), (o2, .inl (co, 3000, .inl f2_35))]) hD hS hA [5, 6] rfl
    refine va_callv (va_runV (As := [.int x_37]) (rest := []) ⟨hx, hb, hml, hown, hts⟩ (c_X0_addFour l dC dI H.size o1 o2 16 co f2_35 x_37 (by omega)) ⟨callB_of 1 hts (gi kt_206) rfl rfl rfl (hts _ kt_10) (hts _ kt_255) (by decide +kernel) ⟨Nat.le_of_ble_eq_true rfl, Nat.le_of_ble_eq_true rfl⟩, (hts _ kt_208), (hts _ kt_209)⟩ ⟨fun a U g mk q => ⟨q.1, PW.calling q.2⟩, va_recv hKc hPc (ci := 0) (q0 := 0) rfl rfl, fun U hU hW => ⟨rfl, PW.mk hU hW hPc hKc hDc hE⟩⟩ rfl rfl hl.1 rfl (lv_room (Nat.le_of_ble_eq_true rfl)) dX8_sumOf_126 ⟨by show _ + 0 ≤ 0; omega, by show _ + 0 ≤ 0; omega⟩) hS (fun q _ h => hFc q h) hFc (fun u t H1 locs ht hvm hw hB hz1 hk1 hS => ?_)
    obtain ⟨f2_39, hB1⟩ := hB
    obtain ⟨hP, hD, hK⟩ := QW.join (wr := [(t1, .inr (0, [.ref t2, .int 0, .int 0])), (h0, .inr (8, [.ref qw, .ref qs, .ref qt])), (qw, .inl (cw, 64, .inl f2_15)), (qs, .inl (cs, 8, .inl g2_16)), (qt, .inl (ct, 8, .inl k2_17))]) hP hD hK [5, 6] [0, 1, 2, 3, 4] rfl rfl (by decide) (by decide) hk1 hFc ht hvm hB1
    generalize H1 = H at hP hS ⊢
    have hK : va_K (dC, dI) vwCl [(cw, .int), (cs, .int), (ct, .int), (co, .int)] s := hK.sub [0, 1, 2, 3] rfl
    have hP : va_P (dC, dI) vwCl [(t1, .inr (0, [.ref t2, .int 0, .int 0])), (h0, .inr (8, [.ref qw, .ref qs, .ref qt])), (qw, .inl (cw, 64, .inl f2_15)), (qs, .inl (cs, 8, .inl g2_16)), (qt, .inl (ct, 8, .inl k2_17)), (o1, .inr (0, [.ref o2, .int (nI 20), .int 0])), (o2, .inl (co, 3000, .inl f2_39))] H := hP
    have hD : va_D A [(t1, .inr (0, [.ref t2, .int 0, .int 0])), (h0, .inr (8, [.ref qw, .ref qs, .ref qt])), (qw, .inl (cw, 64, .inl f2_15)), (qs, .inl (cs, 8, .inl g2_16)), (qt, .inl (ct, 8, .inl k2_17)), (o1, .inr (0, [.ref o2, .int (nI 20), .int 0])), (o2, .inl (co, 3000, .inl f2_39))] := hD
    refine lv_iinc (v := 5) (lv' := [(5, .int 5), (6, .int (nI i1)), (4, .int 1), (0, .ref h0), (1, .ref t1), (2, .int 0), (3, .ref o1)]) hx hb dX8_sumOf_129 hl (k := 0) rfl (by decide) (by decide) rfl (fun ls hl => ?_)
    refine lv_goto (tgt := 111) hx hb dX8_sumOf_132 (by decide) ?_
    refine lv_iload hx hb dX8_sumOf_111 (lv_at hl 0 rfl) ?_
    refine lv_bipush (v := 8) hx hb dX8_sumOf_113 (by decide) ?_
    refine lv_icmp_ge (tgt := 135) hx hb dX8_sumOf_115 (by decide) (fun c_40 => absurd c_40 (by decide)) (fun c_40 => ?_)
    refine lv_aload_n hx hb dX8_sumOf_118 rfl (lv_at hl 6 rfl) ?_
    refine lv_aload_n hx hb dX8_sumOf_119 rfl (lv_at hl 3 rfl) ?_
    refine va_get (D := (dC, dI)) (ci := 8) (v := .ref qs) (C := RX8) (T := TX8) (N := 3) hx hb hts it_8 hown hK hP 1 rfl rfl 1 (by decide) (hts _ kt_35) (fun _ h9 => h9) rfl dX8_sumOf_120 ?_
    refine lv_iload hx hb dX8_sumOf_123 (lv_at hl 0 rfl) ?_
    refine va_iald hx hb hK hP 3 1 rfl rfl (show vp_in (5 : Int32) 8 from (show vp_in (nI 5) 8 from vp_in_nI (by omega) (by omega))) dX8_sumOf_125 ?_
    refine lv_topi (fun x_41 _ => ?_)
    have hPc := hP.sub (ws' := [(o1, .inr (0, [.ref o2, .int (nI 20), .int 0])), (o2, .inl (co, 3000, .inl f2_39))]) [5, 6] rfl
    have hDc := hD.sub (ws' := [(o1, .inr (0, [.ref o2, .int (nI 20), .int 0])), (o2, .inl (co, 3000, .inl f2_39))]) [5, 6] (by decide) rfl
    have hKc := hK.sub (tys' := [(co, .int)]) [3] rfl
    have hFc := va_free (wc := [(o1, .inr (0, [.ref o2, .int (nI 20), .int 0])), (o2, .inl (co, 3000, .inl f2_39))]) hD hS hA [5, 6] rfl
    refine va_callv (va_runV (As := [.int x_41]) (rest := []) ⟨hx, hb, hml, hown, hts⟩ (c_X0_addFour l dC dI H.size o1 o2 20 co f2_39 x_41 (by omega)) ⟨callB_of 1 hts (gi kt_206) rfl rfl rfl (hts _ kt_10) (hts _ kt_255) (by decide +kernel) ⟨Nat.le_of_ble_eq_true rfl, Nat.le_of_ble_eq_true rfl⟩, (hts _ kt_208), (hts _ kt_209)⟩ ⟨fun a U g mk q => ⟨q.1, PW.calling q.2⟩, va_recv hKc hPc (ci := 0) (q0 := 0) rfl rfl, fun U hU hW => ⟨rfl, PW.mk hU hW hPc hKc hDc hE⟩⟩ rfl rfl hl.1 rfl (lv_room (Nat.le_of_ble_eq_true rfl)) dX8_sumOf_126 ⟨by show _ + 0 ≤ 0; omega, by show _ + 0 ≤ 0; omega⟩) hS (fun q _ h => hFc q h) hFc (fun u t H1 locs ht hvm hw hB hz1 hk1 hS => ?_)
    obtain ⟨f2_43, hB1⟩ := hB
    obtain ⟨hP, hD, hK⟩ := QW.join (wr := [(t1, .inr (0, [.ref t2, .int 0, .int 0])), (h0, .inr (8, [.ref qw, .ref qs, .ref qt])), (qw, .inl (cw, 64, .inl f2_15)), (qs, .inl (cs, 8, .inl g2_16)), (qt, .inl (ct, 8, .inl k2_17))]) hP hD hK [5, 6] [0, 1, 2, 3, 4] rfl rfl (by decide) (by decide) hk1 hFc ht hvm hB1
    generalize H1 = H at hP hS ⊢
    have hK : va_K (dC, dI) vwCl [(cw, .int), (cs, .int), (ct, .int), (co, .int)] s := hK.sub [0, 1, 2, 3] rfl
    have hP : va_P (dC, dI) vwCl [(t1, .inr (0, [.ref t2, .int 0, .int 0])), (h0, .inr (8, [.ref qw, .ref qs, .ref qt])), (qw, .inl (cw, 64, .inl f2_15)), (qs, .inl (cs, 8, .inl g2_16)), (qt, .inl (ct, 8, .inl k2_17)), (o1, .inr (0, [.ref o2, .int (nI 24), .int 0])), (o2, .inl (co, 3000, .inl f2_43))] H := hP
    have hD : va_D A [(t1, .inr (0, [.ref t2, .int 0, .int 0])), (h0, .inr (8, [.ref qw, .ref qs, .ref qt])), (qw, .inl (cw, 64, .inl f2_15)), (qs, .inl (cs, 8, .inl g2_16)), (qt, .inl (ct, 8, .inl k2_17)), (o1, .inr (0, [.ref o2, .int (nI 24), .int 0])), (o2, .inl (co, 3000, .inl f2_43))] := hD
    refine lv_iinc (v := 6) (lv' := [(5, .int 6), (6, .int (nI i1)), (4, .int 1), (0, .ref h0), (1, .ref t1), (2, .int 0), (3, .ref o1)]) hx hb dX8_sumOf_129 hl (k := 0) rfl (by decide) (by decide) rfl (fun ls hl => ?_)
    refine lv_goto (tgt := 111) hx hb dX8_sumOf_132 (by decide) ?_
    refine lv_iload hx hb dX8_sumOf_111 (lv_at hl 0 rfl) ?_
    refine lv_bipush (v := 8) hx hb dX8_sumOf_113 (by decide) ?_
    refine lv_icmp_ge (tgt := 135) hx hb dX8_sumOf_115 (by decide) (fun c_44 => absurd c_44 (by decide)) (fun c_44 => ?_)
    refine lv_aload_n hx hb dX8_sumOf_118 rfl (lv_at hl 6 rfl) ?_
    refine lv_aload_n hx hb dX8_sumOf_119 rfl (lv_at hl 3 rfl) ?_
    refine va_get (D := (dC, dI)) (ci := 8) (v := .ref qs) (C := RX8) (T := TX8) (N := 3) hx hb hts it_8 hown hK hP 1 rfl rfl 1 (by decide) (hts _ kt_35) (fun _ h9 => h9) rfl dX8_sumOf_120 ?_
    refine lv_iload hx hb dX8_sumOf_123 (lv_at hl 0 rfl) ?_
    refine va_iald hx hb hK hP 3 1 rfl rfl (show vp_in (6 : Int32) 8 from (show vp_in (nI 6) 8 from vp_in_nI (by omega) (by omega))) dX8_sumOf_125 ?_
    refine lv_topi (fun x_45 _ => ?_)
    have hPc := hP.sub (ws' := [(o1, .inr (0, [.ref o2, .int (nI 24), .int 0])), (o2, .inl (co, 3000, .inl f2_43))]) [5, 6] rfl
    have hDc := hD.sub (ws' := [(o1, .inr (0, [.ref o2, .int (nI 24), .int 0])), (o2, .inl (co, 3000, .inl f2_43))]) [5, 6] (by decide) rfl
    have hKc := hK.sub (tys' := [(co, .int)]) [3] rfl
    have hFc := va_free (wc := [(o1, .inr (0, [.ref o2, .int (nI 24), .int 0])), (o2, .inl (co, 3000, .inl f2_43))]) hD hS hA [5, 6] rfl
    refine va_callv (va_runV (As := [.int x_45]) (rest := []) ⟨hx, hb, hml, hown, hts⟩ (c_X0_addFour l dC dI H.size o1 o2 24 co f2_43 x_45 (by omega)) ⟨callB_of 1 hts (gi kt_206) rfl rfl rfl (hts _ kt_10) (hts _ kt_255) (by decide +kernel) ⟨Nat.le_of_ble_eq_true rfl, Nat.le_of_ble_eq_true rfl⟩, (hts _ kt_208), (hts _ kt_209)⟩ ⟨fun a U g mk q => ⟨q.1, PW.calling q.2⟩, va_recv hKc hPc (ci := 0) (q0 := 0) rfl rfl, fun U hU hW => ⟨rfl, PW.mk hU hW hPc hKc hDc hE⟩⟩ rfl rfl hl.1 rfl (lv_room (Nat.le_of_ble_eq_true rfl)) dX8_sumOf_126 ⟨by show _ + 0 ≤ 0; omega, by show _ + 0 ≤ 0; omega⟩) hS (fun q _ h => hFc q h) hFc (fun u t H1 locs ht hvm hw hB hz1 hk1 hS => ?_)
    obtain ⟨f2_47, hB1⟩ := hB
    obtain ⟨hP, hD, hK⟩ := QW.join (wr := [(t1, .inr (0, [.ref t2, .int 0, .int 0])), (h0, .inr (8, [.ref qw, .ref qs, .ref qt])), (qw, .inl (cw, 64, .inl f2_15)), (qs, .inl (cs, 8, .inl g2_16)), (qt, .inl (ct, 8, .inl k2_17))]) hP hD hK [5, 6] [0, 1, 2, 3, 4] rfl rfl (by decide) (by decide) hk1 hFc ht hvm hB1
    generalize H1 = H at hP hS ⊢
    have hK : va_K (dC, dI) vwCl [(cw, .int), (cs, .int), (ct, .int), (co, .int)] s := hK.sub [0, 1, 2, 3] rfl
    have hP : va_P (dC, dI) vwCl [(t1, .inr (0, [.ref t2, .int 0, .int 0])), (h0, .inr (8, [.ref qw, .ref qs, .ref qt])), (qw, .inl (cw, 64, .inl f2_15)), (qs, .inl (cs, 8, .inl g2_16)), (qt, .inl (ct, 8, .inl k2_17)), (o1, .inr (0, [.ref o2, .int (nI 28), .int 0])), (o2, .inl (co, 3000, .inl f2_47))] H := hP
    have hD : va_D A [(t1, .inr (0, [.ref t2, .int 0, .int 0])), (h0, .inr (8, [.ref qw, .ref qs, .ref qt])), (qw, .inl (cw, 64, .inl f2_15)), (qs, .inl (cs, 8, .inl g2_16)), (qt, .inl (ct, 8, .inl k2_17)), (o1, .inr (0, [.ref o2, .int (nI 28), .int 0])), (o2, .inl (co, 3000, .inl f2_47))] := hD
    refine lv_iinc (v := 7) (lv' := [(5, .int 7), (6, .int (nI i1)), (4, .int 1), (0, .ref h0), (1, .ref t1), (2, .int 0), (3, .ref o1)]) hx hb dX8_sumOf_129 hl (k := 0) rfl (by decide) (by decide) rfl (fun ls hl => ?_)
    refine lv_goto (tgt := 111) hx hb dX8_sumOf_132 (by decide) ?_
    refine lv_iload hx hb dX8_sumOf_111 (lv_at hl 0 rfl) ?_
    refine lv_bipush (v := 8) hx hb dX8_sumOf_113 (by decide) ?_
    refine lv_icmp_ge (tgt := 135) hx hb dX8_sumOf_115 (by decide) (fun c_48 => absurd c_48 (by decide)) (fun c_48 => ?_)
    refine lv_aload_n hx hb dX8_sumOf_118 rfl (lv_at hl 6 rfl) ?_
    refine lv_aload_n hx hb dX8_sumOf_119 rfl (lv_at hl 3 rfl) ?_
    refine va_get (D := (dC, dI)) (ci := 8) (v := .ref qs) (C := RX8) (T := TX8) (N := 3) hx hb hts it_8 hown hK hP 1 rfl rfl 1 (by decide) (hts _ kt_35) (fun _ h9 => h9) rfl dX8_sumOf_120 ?_
    refine lv_iload hx hb dX8_sumOf_123 (lv_at hl 0 rfl) ?_
    refine va_iald hx hb hK hP 3 1 rfl rfl (show vp_in (7 : Int32) 8 from (show vp_in (nI 7) 8 from vp_in_nI (by omega) (by omega))) dX8_sumOf_125 ?_
    refine lv_topi (fun x_49 _ => ?_)
    have hPc := hP.sub (ws' := [(o1, .inr (0, [.ref o2, .int (nI 28), .int 0])), (o2, .inl (co, 3000, .inl f2_47))]) [5, 6] rfl
    have hDc := hD.sub (ws' := [(o1, .inr (0, [.ref o2, .int (nI 28), .int 0])), (o2, .inl (co, 3000, .inl f2_47))]) [5, 6] (by decide) rfl
    have hKc := hK.sub (tys' := [(co, .int)]) [3] rfl
    have hFc := va_free (wc := [(o1, .inr (0, [.ref o2, .int (nI 28), .int 0])), (o2, .inl (co, 3000, .inl f2_47))]) hD hS hA [5, 6] rfl
    refine va_callv (va_runV (As := [.int x_49]) (rest := []) ⟨hx, hb, hml, hown, hts⟩ (c_X0_addFour l dC dI H.size o1 o2 28 co f2_47 x_49 (by omega)) ⟨callB_of 1 hts (gi kt_206) rfl rfl rfl (hts _ kt_10) (hts _ kt_255) (by decide +kernel) ⟨Nat.le_of_ble_eq_true rfl, Nat.le_of_ble_eq_true rfl⟩, (hts _ kt_208), (hts _ kt_209)⟩ ⟨fun a U g mk q => ⟨q.1, PW.calling q.2⟩, va_recv hKc hPc (ci := 0) (q0 := 0) rfl rfl, fun U hU hW => ⟨rfl, PW.mk hU hW hPc hKc hDc hE⟩⟩ rfl rfl hl.1 rfl (lv_room (Nat.le_of_ble_eq_true rfl)) dX8_sumOf_126 ⟨by show _ + 0 ≤ 0; omega, by show _ + 0 ≤ 0; omega⟩) hS (fun q _ h => hFc q h) hFc (fun u t H1 locs ht hvm hw hB hz1 hk1 hS => ?_)
    obtain ⟨f2_51, hB1⟩ := hB
    obtain ⟨hP, hD, hK⟩ := QW.join (wr := [(t1, .inr (0, [.ref t2, .int 0, .int 0])), (h0, .inr (8, [.ref qw, .ref qs, .ref qt])), (qw, .inl (cw, 64, .inl f2_15)), (qs, .inl (cs, 8, .inl g2_16)), (qt, .inl (ct, 8, .inl k2_17))]) hP hD hK [5, 6] [0, 1, 2, 3, 4] rfl rfl (by decide) (by decide) hk1 hFc ht hvm hB1
    generalize H1 = H at hP hS ⊢
    have hK : va_K (dC, dI) vwCl [(cw, .int), (cs, .int), (ct, .int), (co, .int)] s := hK.sub [0, 1, 2, 3] rfl
    have hP : va_P (dC, dI) vwCl [(t1, .inr (0, [.ref t2, .int 0, .int 0])), (h0, .inr (8, [.ref qw, .ref qs, .ref qt])), (qw, .inl (cw, 64, .inl f2_15)), (qs, .inl (cs, 8, .inl g2_16)), (qt, .inl (ct, 8, .inl k2_17)), (o1, .inr (0, [.ref o2, .int (nI 32), .int 0])), (o2, .inl (co, 3000, .inl f2_51))] H := hP
    have hD : va_D A [(t1, .inr (0, [.ref t2, .int 0, .int 0])), (h0, .inr (8, [.ref qw, .ref qs, .ref qt])), (qw, .inl (cw, 64, .inl f2_15)), (qs, .inl (cs, 8, .inl g2_16)), (qt, .inl (ct, 8, .inl k2_17)), (o1, .inr (0, [.ref o2, .int (nI 32), .int 0])), (o2, .inl (co, 3000, .inl f2_51))] := hD
    refine lv_iinc (v := 8) (lv' := [(5, .int 8), (6, .int (nI i1)), (4, .int 1), (0, .ref h0), (1, .ref t1), (2, .int 0), (3, .ref o1)]) hx hb dX8_sumOf_129 hl (k := 0) rfl (by decide) (by decide) rfl (fun ls hl => ?_)
    refine lv_goto (tgt := 111) hx hb dX8_sumOf_132 (by decide) ?_
    refine lv_iload hx hb dX8_sumOf_111 (lv_at hl 0 rfl) ?_
    refine lv_bipush (v := 8) hx hb dX8_sumOf_113 (by decide) ?_
    refine lv_icmp_ge (tgt := 135) hx hb dX8_sumOf_115 (by decide) (fun c_52 => ?_) (fun c_52 => absurd (by decide) c_52)
    have hP9 := hP.sub (ws' := [(t1, .inr (0, [.ref t2, .int 0, .int 0])), (o1, .inr (0, [.ref o2, .int (nI 32), .int 0]))]) [0, 5] rfl
    have hD9 := hD.sub (ws' := [(t1, .inr (0, [.ref t2, .int 0, .int 0])), (o1, .inr (0, [.ref o2, .int (nI 32), .int 0]))]) [0, 5] (by decide) rfl
    have hK9 := hK.sub (tys' := []) [] rfl
    refine W.widen (k := 0) (n := 0) (by omega) (by omega) ?_
    exact W.vret hx hb hr (fun t ht hW => ⟨⟨(), rfl, trivial, QW.mk ht hW hP9 hK9 hD9⟩, hS.F ht⟩) hS.2.2 dX8_sumOf_135
  ·
    have hi_53 : i1 < 16 := ltN (N := 16) c_8
    refine lv_aload_n hx hb dX8_sumOf_46 rfl (lv_at hl 3 rfl) ?_
    refine va_get (D := (dC, dI)) (ci := 8) (v := .ref qw) (C := RX8) (T := TX8) (N := 3) hx hb hts it_8 hown hK hP 0 rfl rfl 0 (by decide) (hts _ kt_34) (fun _ h9 => h9) rfl dX8_sumOf_47 ?_
    refine lv_iload hx hb dX8_sumOf_50 (lv_at hl 0 rfl) ?_
    refine lv_aload_n hx hb dX8_sumOf_52 rfl (lv_at hl 4 rfl) ?_
    refine lv_iload_n hx hb dX8_sumOf_53 rfl (lv_at hl 5 rfl) ?_
    refine lv_iload hx hb dX8_sumOf_54 (lv_at hl 1 rfl) ?_
    refine lv_bipush (v := 64) hx hb dX8_sumOf_56 (by decide) ?_
    refine lv_imul hx hb dX8_sumOf_58 ?_
    refine lv_topi (fun x_54 ex_54 => ?_)
    obtain rfl : x_54 = 0 := ex_54.trans (by decide)
    refine lv_iload hx hb dX8_sumOf_59 (lv_at hl 0 rfl) ?_
    refine lv_iconst (v := 4) hx hb dX8_sumOf_61 (by decide) ?_
    refine lv_imul hx hb dX8_sumOf_62 ?_
    refine lv_topi (fun x_55 ex_55 => ?_)
    obtain rfl : x_55 = (nI (i1 * 4)) := ex_55.trans (pk_mul i1 4)
    refine lv_iadd hx hb dX8_sumOf_63 ?_
    refine lv_topi (fun x_56 ex_56 => ?_)
    obtain rfl : x_56 = (nI (0 + i1 * 4)) := ex_56.trans (nI_add 0 (i1 * 4))
    have hPc := hP.sub (ws' := []) [] rfl
    have hDc := hD.sub (ws' := []) [] (by decide) rfl
    have hKc := hK.sub (tys' := []) [] rfl
    have hFc := va_free (wc := []) hD hS hA [] rfl
    refine va_calli (va_runS (As := [.ref t1, .int 0, .int (nI (0 + i1 * 4))]) (rest := [.int (nI i1), .ref qw]) ⟨hx, hb, hml, hown, hts⟩ (c_X8_wordAt l dC dI H.size t1 (0 + i1 * 4) (by omega)) ⟨callB_of 3 hts (gi kt_256) rfl rfl rfl (hts _ kt_116) (hts _ kt_257) (by decide +kernel) ⟨Nat.le_of_ble_eq_true rfl, Nat.le_of_ble_eq_true rfl⟩, (hts _ kt_258)⟩ ⟨fun a U g mk q => ⟨q.1, PW.calling q.2⟩, fun U hU hW => ⟨rfl, PW.mk hU hW hPc hKc hDc hE⟩⟩ rfl rfl hl.1 rfl (lv_room (Nat.le_of_ble_eq_true rfl)) dX8_sumOf_64 ⟨by show _ + 0 ≤ 0; omega, by show _ + 0 ≤ 0; omega⟩) hS (fun q _ h => hFc q h) hFc (fun r_57 u t H1 locs ht hvm hw hB hz1 hk1 hS => ?_)
    have hB1 := hB
    obtain ⟨hP, hD, hK⟩ := QW.join (wr := [(h0, .inr (8, [.ref qw, .ref qs, .ref qt])), (qw, .inl (cw, 64, .inl fa)), (qs, .inl (cs, 8, .inl f_1)), (qt, .inl (ct, 8, .inl k)), (t1, .inr (0, [.ref t2, .int 0, .int 0])), (o1, .inr (0, [.ref o2, .int 0, .int 0])), (o2, .inl (co, 3000, .inl fo))]) hP hD hK [] [0, 1, 2, 3, 4, 5, 6] rfl rfl (by decide) (by decide) hk1 hFc ht hvm hB1
    generalize H1 = H at hP hS ⊢
    have hK : va_K (dC, dI) vwCl [(cw, .int), (cs, .int), (ct, .int), (co, .int)] s := hK.sub [0, 1, 2, 3] rfl
    have hP : va_P (dC, dI) vwCl [(h0, .inr (8, [.ref qw, .ref qs, .ref qt])), (qw, .inl (cw, 64, .inl fa)), (qs, .inl (cs, 8, .inl f_1)), (qt, .inl (ct, 8, .inl k)), (t1, .inr (0, [.ref t2, .int 0, .int 0])), (o1, .inr (0, [.ref o2, .int 0, .int 0])), (o2, .inl (co, 3000, .inl fo))] H := hP
    have hD : va_D A [(h0, .inr (8, [.ref qw, .ref qs, .ref qt])), (qw, .inl (cw, 64, .inl fa)), (qs, .inl (cs, 8, .inl f_1)), (qt, .inl (ct, 8, .inl k)), (t1, .inr (0, [.ref t2, .int 0, .int 0])), (o1, .inr (0, [.ref o2, .int 0, .int 0])), (o2, .inl (co, 3000, .inl fo))] := hD
    have hw : True := hw
    have hw_58 := hw
    refine va_iast hx hb hK hP hD hS 1 0 rfl rfl (vp_in_nI (by omega) (by omega)) dX8_sumOf_67 (fun H locs hP hD hS => ?_)
    obtain ⟨f_59, hP, hD⟩ : ∃ f_59 : Nat → Int32, va_P (dC, dI) vwCl [(h0, .inr (8, [.ref qw, .ref qs, .ref qt])), (qw, .inl (cw, 64, .inl f_59)), (qs, .inl (cs, 8, .inl f_1)), (qt, .inl (ct, 8, .inl k)), (t1, .inr (0, [.ref t2, .int 0, .int 0])), (o1, .inr (0, [.ref o2, .int 0, .int 0])), (o2, .inl (co, 3000, .inl fo))] H ∧ va_D A [(h0, .inr (8, [.ref qw, .ref qs, .ref qt])), (qw, .inl (cw, 64, .inl f_59)), (qs, .inl (cs, 8, .inl f_1)), (qt, .inl (ct, 8, .inl k)), (t1, .inr (0, [.ref t2, .int 0, .int 0])), (o1, .inr (0, [.ref o2, .int 0, .int 0])), (o2, .inl (co, 3000, .inl fo))] := ⟨_, hP, hD⟩
    refine lv_iinc (v := (nI (i1 + 1))) (lv' := [(6, .int (nI (i1 + 1))), (5, .int 0), (4, .int 1), (0, .ref h0), (1, .ref t1), (2, .int 0), (3, .ref o1)]) hx hb dX8_sumOf_68 hl (k := 0) rfl (nI_1 _) (by decide) rfl (fun ls hl => ?_)
    refine lv_goto (tgt := 39) hx hb dX8_sumOf_71 (by decide) ?_
    refine W.widen (k := 0) (n := 0) (by omega) (by omega) ?_
    exact ih_7 ((i1 + 1), f_59) (by first | omega | exact ⟨by omega, by omega⟩) (by show 16 - (i1 + 1) < 16 - i1; omega) _ _ (hP.sub [0, 1, 2, 3, 4, 5, 6] rfl) (hD.sub [0, 1, 2, 3, 4, 5, 6] (by decide) rfl) hS ls (lv_sub hl [0, 1, 2, 3, 4, 5, 6] rfl)
set_option maxHeartbeats 4000000 in
set_option maxRecDepth 100000 in
theorem c_X11_digest (l : Launch) (dC : Nat → ClassId) (dI : Nat → Nat → Nat) (sz : Nat) (h0 : Nat) (ta : Nat) (oa : Nat) (da : Nat) (ka : Nat) (ea : Nat) (pa : Nat) (ha : Nat) (la : Nat) (sa : Nat) (tr : Nat) (orw : Nat) (sw : Nat) (ss : Nat) (sx : Nat) (co : ClassId) (cw : ClassId) (cs : ClassId) (cst : ClassId) : Met l yX11_digest (.code yX11_digest cX11_digest 1 (some .int) :: tb) ({ frames := 3, cells := 0, slots := 0, locals := 99 }) (va_Pc [.ref h0] (PWS (dC, dI) sz [(h0, .inr (11, [.ref ta, .ref oa, .ref da, .ref ka, .ref ea, .ref pa, .ref ha, .ref la, .ref sa])), (ta, .inr (0, [.ref tr, .int 0, .int 0])), (oa, .inr (0, [.ref orw, .int 0, .int 0])), (orw, .inl (co, 3000, .inl (fun _ => 0))), (ha, .inr (8, [.ref sw, .ref ss, .ref sx])), (sw, .inl (cw, 64, .inl (fun _ => 0))), (ss, .inl (cs, 8, .inl (fun _ => 0))), (sx, .inl (cst, 8, .inl (fun _ => 0)))] [(co, .int), (cw, .int), (cs, .int), (cst, .int)])) (va_Qi (fun (r : Int32) (_ : Unit) => r = 32) (fun _ T9 => QW (dC, dI) (va_A [(h0, .inr (11, [.ref ta, .ref oa, .ref da, .ref ka, .ref ea, .ref pa, .ref ha, .ref la, .ref sa])), (ta, .inr (0, [.ref tr, .int 0, .int 0])), (oa, .inr (0, [.ref orw, .int 0, .int 0])), (orw, .inl (co, 3000, .inl (fun _ => 0))), (ha, .inr (8, [.ref sw, .ref ss, .ref sx])), (sw, .inl (cw, 64, .inl (fun _ => 0))), (ss, .inl (cs, 8, .inl (fun _ => 0))), (sx, .inl (cst, 8, .inl (fun _ => 0)))] sz) [] [] T9) (va_A [(h0, .inr (11, [.ref ta, .ref oa, .ref da, .ref ka, .ref ea, .ref pa, .ref ha, .ref la, .ref sa])), (ta, .inr (0, [.ref tr, .int 0, .int 0])), (oa, .inr (0, [.ref orw, .int 0, .int 0])), (orw, .inl (co, 3000, .inl (fun _ => 0))), (ha, .inr (8, [.ref sw, .ref ss, .ref sx])), (sw, .inl (cw, 64, .inl (fun _ => 0))), (ss, .inl (cs, 8, .inl (fun _ => 0))), (sx, .inl (cst, 8, .inl (fun _ => 0)))] sz)) 0 0 (va_A [(h0, .inr (11, [.ref ta, .ref oa, .ref da, .ref ka, .ref ea, .ref pa, .ref ha, .ref la, .ref sa])), (ta, .inr (0, [.ref tr, .int 0, .int 0])), (oa, .inr (0, [.ref orw, .int 0, .int 0])), (orw, .inl (co, 3000, .inl (fun _ => 0))), (ha, .inr (8, [.ref sw, .ref ss, .ref sx])), (sw, .inl (cw, 64, .inl (fun _ => 0))), (ss, .inl (cs, 8, .inl (fun _ => 0))), (sx, .inl (cst, 8, .inl (fun _ => 0)))] sz) := by
  refine Met.ofW (cc := cX11_digest) (maxL := 1) (ret := (some .int)) (by decide) rfl ?_
  intro p e s m args below meth c s₁ B hml hv
  obtain ⟨rfl, ⟨hsz, hP, hK, hD0, hE⟩, hZ⟩ := hv
  have hx := B.exec
  have hb := B.bytes
  have hr := B.returns
  have hts : ∀ w ∈ tb, w.before _ s = true := fun w h => atoms_spec (ws := .code yX11_digest cX11_digest 1 (some .int) :: tb) B.pre w (List.mem_cons_of_mem _ h)
  have hown : s.vm.findClass RX11 = some m.cls := findClass_of_methodNamed B.named
  have hlocks := B.notSynchronized
  subst hsz
  have hD := hD0.self (sz := s.heap.size)
  generalize hAe : va_A [(h0, .inr (11, [.ref ta, .ref oa, .ref da, .ref ka, .ref ea, .ref pa, .ref ha, .ref la, .ref sa])), (ta, .inr (0, [.ref tr, .int 0, .int 0])), (oa, .inr (0, [.ref orw, .int 0, .int 0])), (orw, .inl (co, 3000, .inl (fun _ => 0))), (ha, .inr (8, [.ref sw, .ref ss, .ref sx])), (sw, .inl (cw, 64, .inl (fun _ => 0))), (ss, .inl (cs, 8, .inl (fun _ => 0))), (sx, .inl (cst, 8, .inl (fun _ => 0)))] s.heap.size = A at hD hZ ⊢
  obtain ⟨aB, aF, fB, fF, zB, tB, zF, tF⟩ := id hZ
  have hA : ∀ q : Nat, s.heap.size ≤ q → A q := fun q h => by rw [← hAe]; exact Or.inr h
  have hS : va_S A s.heap s.heap [] := va_S.rf
  have hP : va_P (dC, dI) vwCl [(h0, .inr (11, [.ref ta, .ref oa, .ref da, .ref ka, .ref ea, .ref pa, .ref ha, .ref la, .ref sa])), (ta, .inr (0, [.ref tr, .int 0, .int 0])), (oa, .inr (0, [.ref orw, .int 0, .int 0])), (orw, .inl (co, 3000, .inl (fun _ => 0))), (ha, .inr (8, [.ref sw, .ref ss, .ref sx])), (sw, .inl (cw, 64, .inl (fun _ => 0))), (ss, .inl (cs, 8, .inl (fun _ => 0))), (sx, .inl (cst, 8, .inl (fun _ => 0)))] s.heap := hP
  have hl := lv_entry ([.ref h0]) (n := 1) (Nat.le_of_ble_eq_true rfl)
  rw [lg_entry_eq]
  generalize (lg_sl ([.ref h0]) ++ List.replicate (1 - (lg_sl ([.ref h0])).length) Slot.unset).toArray = ls at hl ⊢
  have hl : lv_has ls 1 [(0, .ref h0)] := hl
  refine lv_aload_n hx hb dX11_digest_0 rfl (lv_at hl 0 rfl) ?_
  refine va_get (D := (dC, dI)) (ci := 11) (v := .ref ha) (C := RX11) (T := TX11) (N := 9) hx hb hts it_11 hown hK hP 0 rfl rfl 6 (by decide) (hts _ kt_163) (fun _ h9 => h9) rfl dX11_digest_1 ?_
  refine lv_aload_n hx hb dX11_digest_4 rfl (lv_at hl 0 rfl) ?_
  refine va_get (D := (dC, dI)) (ci := 11) (v := .ref ta) (C := RX11) (T := TX11) (N := 9) hx hb hts it_11 hown hK hP 0 rfl rfl 0 (by decide) (hts _ kt_132) (fun _ h9 => h9) rfl dX11_digest_5 ?_
  refine lv_aload_n hx hb dX11_digest_8 rfl (lv_at hl 0 rfl) ?_
  refine va_get (D := (dC, dI)) (ci := 11) (v := .ref ta) (C := RX11) (T := TX11) (N := 9) hx hb hts it_11 hown hK hP 0 rfl rfl 0 (by decide) (hts _ kt_132) (fun _ h9 => h9) rfl dX11_digest_9 ?_
  refine va_getN (D := (dC, dI)) (ci := 0) (v := .int 0) (C := RX0) (T := TX0) (N := 3) hx hb hts it_0 hown hK hP 1 rfl rfl 1 (by decide) (hE.nest kn_9) (fun _ h9 => h9) rfl dX11_digest_12 ?_
  refine lv_aload_n hx hb dX11_digest_15 rfl (lv_at hl 0 rfl) ?_
  refine va_get (D := (dC, dI)) (ci := 11) (v := .ref oa) (C := RX11) (T := TX11) (N := 9) hx hb hts it_11 hown hK hP 0 rfl rfl 1 (by decide) (hts _ kt_133) (fun _ h9 => h9) rfl dX11_digest_16 ?_
  have hPc := hP.sub (ws' := [(ha, .inr (8, [.ref sw, .ref ss, .ref sx])), (sw, .inl (cw, 64, .inl (fun _ => 0))), (ss, .inl (cs, 8, .inl (fun _ => 0))), (sx, .inl (cst, 8, .inl (fun _ => 0))), (ta, .inr (0, [.ref tr, .int 0, .int 0])), (oa, .inr (0, [.ref orw, .int 0, .int 0])), (orw, .inl (co, 3000, .inl (fun _ => 0)))]) [4, 5, 6, 7, 1, 2, 3] rfl
  have hDc := hD.sub (ws' := [(ha, .inr (8, [.ref sw, .ref ss, .ref sx])), (sw, .inl (cw, 64, .inl (fun _ => 0))), (ss, .inl (cs, 8, .inl (fun _ => 0))), (sx, .inl (cst, 8, .inl (fun _ => 0))), (ta, .inr (0, [.ref tr, .int 0, .int 0])), (oa, .inr (0, [.ref orw, .int 0, .int 0])), (orw, .inl (co, 3000, .inl (fun _ => 0)))]) [4, 5, 6, 7, 1, 2, 3] (by decide) rfl
  have hKc := hK.sub (tys' := [(cw, .int), (cs, .int), (cst, .int), (co, .int)]) [1, 2, 3, 0] rfl
  have hFc := va_free (wc := [(ha, .inr (8, [.ref sw, .ref ss, .ref sx])), (sw, .inl (cw, 64, .inl (fun _ => 0))), (ss, .inl (cs, 8, .inl (fun _ => 0))), (sx, .inl (cst, 8, .inl (fun _ => 0))), (ta, .inr (0, [.ref tr, .int 0, .int 0])), (oa, .inr (0, [.ref orw, .int 0, .int 0])), (orw, .inl (co, 3000, .inl (fun _ => 0)))]) hD hS hA [4, 5, 6, 7, 1, 2, 3] rfl
  refine va_callv (va_runV (As := [.ref ta, .int 0, .ref oa]) (rest := []) ⟨hx, hb, hml, hown, hts⟩ (c_X8_sumOf l dC dI s.heap.size ha sw ss sx ta tr oa orw cw cs cst co (fun _ => 0) (fun _ => 0) (fun _ => 0) (fun _ => 0) ) ⟨callB_of 3 hts (gi kt_259) rfl rfl rfl (hts _ kt_116) (hts _ kt_260) (by decide +kernel) ⟨Nat.le_of_ble_eq_true rfl, Nat.le_of_ble_eq_true rfl⟩, (hts _ kt_261), (hts _ kt_262)⟩ ⟨fun a U g mk q => ⟨q.1, PWS.calling q.2⟩, va_recv hKc hPc (ci := 8) (q0 := 0) rfl rfl, fun U hU hW => ⟨rfl, PWS.mk hU hW hPc hKc hDc hE hZ hS hFc⟩⟩ rfl rfl hl.1 rfl (lv_room (Nat.le_of_ble_eq_true rfl)) dX11_digest_19 ⟨by show _ + 0 ≤ 0; omega, by show _ + 0 ≤ 0; omega⟩) hS (fun q _ h => hFc q h) hFc (fun u t H1 locs ht hvm hw hB hz1 hk1 hS => ?_)
  have hB1 := hB
  obtain ⟨hP, hD, hK⟩ := QW.join (wr := [(h0, .inr (11, [.ref ta, .ref oa, .ref da, .ref ka, .ref ea, .ref pa, .ref ha, .ref la, .ref sa]))]) hP hD hK [4, 5, 6, 7, 1, 2, 3] [0] rfl rfl (by decide) (by decide) hk1 hFc ht hvm hB1
  generalize H1 = H at hP hS ⊢
  have hK : va_K (dC, dI) vwCl [(co, .int), (cw, .int), (cs, .int), (cst, .int)] s := hK.sub [0, 1, 2, 3] rfl
  have hP : va_P (dC, dI) vwCl [(h0, .inr (11, [.ref ta, .ref oa, .ref da, .ref ka, .ref ea, .ref pa, .ref ha, .ref la, .ref sa])), (ta, .inr (0, [.ref tr, .int 0, .int 0])), (oa, .inr (0, [.ref orw, .int (nI 32), .int 0]))] H := hP
  have hD : va_D A [(h0, .inr (11, [.ref ta, .ref oa, .ref da, .ref ka, .ref ea, .ref pa, .ref ha, .ref la, .ref sa])), (ta, .inr (0, [.ref tr, .int 0, .int 0])), (oa, .inr (0, [.ref orw, .int (nI 32), .int 0]))] := hD
  refine lv_aload_n hx hb dX11_digest_22 rfl (lv_at hl 0 rfl) ?_
  refine va_get (D := (dC, dI)) (ci := 11) (v := .ref ta) (C := RX11) (T := TX11) (N := 9) hx hb hts it_11 hown hK hP 0 rfl rfl 0 (by decide) (hts _ kt_132) (fun _ h9 => h9) rfl dX11_digest_23 ?_
  have hPc := hP.sub (ws' := [(ta, .inr (0, [.ref tr, .int 0, .int 0]))]) [1] rfl
  have hDc := hD.sub (ws' := [(ta, .inr (0, [.ref tr, .int 0, .int 0]))]) [1] (by decide) rfl
  have hKc := hK.sub (tys' := []) [] rfl
  have hFc := va_free (wc := [(ta, .inr (0, [.ref tr, .int 0, .int 0]))]) hD hS hA [1] rfl
  refine va_callv (va_runV (As := []) (rest := []) ⟨hx, hb, hml, hown, hts⟩ (c_X0_clear l dC dI H.size ta tr 0 0 ) ⟨callB_of 0 hts (gi kt_178) rfl rfl rfl (hts _ kt_10) (hts _ kt_218) (by decide +kernel) ⟨Nat.le_of_ble_eq_true rfl, Nat.le_of_ble_eq_true rfl⟩, (hts _ kt_180), (hts _ kt_181)⟩ ⟨fun a U g mk q => ⟨q.1, PW.calling q.2⟩, va_recv hKc hPc (ci := 0) (q0 := 0) rfl rfl, fun U hU hW => ⟨rfl, PW.mk hU hW hPc hKc hDc hE⟩⟩ rfl rfl hl.1 rfl (lv_room (Nat.le_of_ble_eq_true rfl)) dX11_digest_26 ⟨by show _ + 0 ≤ 0; omega, by show _ + 0 ≤ 0; omega⟩) hS (fun q _ h => hFc q h) hFc (fun u t H1 locs ht hvm hw hB hz1 hk1 hS => ?_)
  have hB1 := hB
  obtain ⟨hP, hD, hK⟩ := QW.join (wr := [(h0, .inr (11, [.ref ta, .ref oa, .ref da, .ref ka, .ref ea, .ref pa, .ref ha, .ref la, .ref sa])), (oa, .inr (0, [.ref orw, .int (nI 32), .int 0]))]) hP hD hK [1] [0, 2] rfl rfl (by decide) (by decide) hk1 hFc ht hvm hB1
  generalize H1 = H at hP hS ⊢
  have hK : va_K (dC, dI) vwCl [(co, .int), (cw, .int), (cs, .int), (cst, .int)] s := hK.sub [0, 1, 2, 3] rfl
  have hP : va_P (dC, dI) vwCl [(h0, .inr (11, [.ref ta, .ref oa, .ref da, .ref ka, .ref ea, .ref pa, .ref ha, .ref la, .ref sa])), (oa, .inr (0, [.ref orw, .int (nI 32), .int 0])), (ta, .inr (0, [.ref tr, .int 0, .int 0]))] H := hP
  have hD : va_D A [(h0, .inr (11, [.ref ta, .ref oa, .ref da, .ref ka, .ref ea, .ref pa, .ref ha, .ref la, .ref sa])), (oa, .inr (0, [.ref orw, .int (nI 32), .int 0])), (ta, .inr (0, [.ref tr, .int 0, .int 0]))] := hD
  refine lv_aload_n hx hb dX11_digest_29 rfl (lv_at hl 0 rfl) ?_
  refine va_get (D := (dC, dI)) (ci := 11) (v := .ref oa) (C := RX11) (T := TX11) (N := 9) hx hb hts it_11 hown hK hP 0 rfl rfl 1 (by decide) (hts _ kt_133) (fun _ h9 => h9) rfl dX11_digest_30 ?_
  refine va_getN (D := (dC, dI)) (ci := 0) (v := .int (nI 32)) (C := RX0) (T := TX0) (N := 3) hx hb hts it_0 hown hK hP 1 rfl rfl 1 (by decide) (hE.nest kn_9) (fun _ h9 => h9) rfl dX11_digest_33 ?_
  have hP9 := hP.sub (ws' := []) [] rfl
  have hD9 := hD.sub (ws' := []) [] (by decide) rfl
  have hK9 := hK.sub (tys' := []) [] rfl
  refine W.widen (k := 0) (n := 0) (by omega) (by omega) ?_
  exact W.iret (v := (nI 32)) hx hb hr (fun t ht hW => ⟨⟨(nI 32), (), rfl, rfl, QW.mk ht hW hP9 hK9 hD9⟩, hS.F ht⟩) hS.2.2 dX11_digest_36
end
