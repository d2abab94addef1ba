section
-- ===== PART A: goes FIRST, ahead of the names: the tables' words, and 'selects' of the private methods out of them =====
/-- a private method of a class that the tables say can be made, by its rows of tables_1 -/
def lw_okq (q : MethodName × Nat) : Prop := (q.1.cls ≠ "java/lang/invoke/MethodHandle" ∧ q.1.cls ≠ "java/lang/invoke/VarHandle") ∧ Cond.instantiable q.1.cls q.2 ∈ tables_1 ∧ Cond.privateMethod q.1 ∈ tables_1 ∧ Cond.instanceMethod q.1 ∈ tables_1
theorem lw_p0 : lw_okq (⟨"ClockForTalk", "readText", "(III)I"⟩, 14) := ⟨⟨by decide +kernel, by decide +kernel⟩, List.mem_of_getElem? (i := 26) (by decide +kernel), List.mem_of_getElem? (i := 454) (by decide +kernel), List.mem_of_getElem? (i := 455) (by decide +kernel)⟩
theorem lw_p1 : lw_okq (⟨"ClockForTalk$Rule", "readExpression", "(LClockForTalk$Text;I)Z"⟩, 4) := ⟨⟨by decide +kernel, by decide +kernel⟩, List.mem_of_getElem? (i := 210) (by decide +kernel), List.mem_of_getElem? (i := 466) (by decide +kernel), List.mem_of_getElem? (i := 467) (by decide +kernel)⟩
theorem lw_p2 : lw_okq (⟨"ClockForTalk$Rule", "readSum", "(LClockForTalk$Text;I)Z"⟩, 4) := ⟨⟨by decide +kernel, by decide +kernel⟩, List.mem_of_getElem? (i := 210) (by decide +kernel), List.mem_of_getElem? (i := 470) (by decide +kernel), List.mem_of_getElem? (i := 471) (by decide +kernel)⟩
theorem lw_p3 : lw_okq (⟨"ClockForTalk$Rule", "readProduct", "(LClockForTalk$Text;I)Z"⟩, 4) := ⟨⟨by decide +kernel, by decide +kernel⟩, List.mem_of_getElem? (i := 210) (by decide +kernel), List.mem_of_getElem? (i := 474) (by decide +kernel), List.mem_of_getElem? (i := 475) (by decide +kernel)⟩
theorem lw_p4 : lw_okq (⟨"ClockForTalk$Rule", "readFactor", "(LClockForTalk$Text;I)Z"⟩, 4) := ⟨⟨by decide +kernel, by decide +kernel⟩, List.mem_of_getElem? (i := 210) (by decide +kernel), List.mem_of_getElem? (i := 478) (by decide +kernel), List.mem_of_getElem? (i := 479) (by decide +kernel)⟩
theorem lw_p5 : lw_okq (⟨"ClockForTalk$Rule", "readAtom", "(LClockForTalk$Text;I)Z"⟩, 4) := ⟨⟨by decide +kernel, by decide +kernel⟩, List.mem_of_getElem? (i := 210) (by decide +kernel), List.mem_of_getElem? (i := 489) (by decide +kernel), List.mem_of_getElem? (i := 490) (by decide +kernel)⟩
theorem lw_p6 : lw_okq (⟨"ClockForTalk$Rule", "add", "(I)Z"⟩, 4) := ⟨⟨by decide +kernel, by decide +kernel⟩, List.mem_of_getElem? (i := 210) (by decide +kernel), List.mem_of_getElem? (i := 547) (by decide +kernel), List.mem_of_getElem? (i := 548) (by decide +kernel)⟩
theorem lw_p7 : lw_okq (⟨"ClockForTalk$Rule", "addSign", "(Ljava/lang/String;I)Z"⟩, 4) := ⟨⟨by decide +kernel, by decide +kernel⟩, List.mem_of_getElem? (i := 210) (by decide +kernel), List.mem_of_getElem? (i := 563) (by decide +kernel), List.mem_of_getElem? (i := 564) (by decide +kernel)⟩
theorem lw_p8 : lw_okq (⟨"ClockForTalk", "readLines", "(II)I"⟩, 14) := ⟨⟨by decide +kernel, by decide +kernel⟩, List.mem_of_getElem? (i := 26) (by decide +kernel), List.mem_of_getElem? (i := 582) (by decide +kernel), List.mem_of_getElem? (i := 583) (by decide +kernel)⟩
theorem lw_p9 : lw_okq (⟨"ClockForTalk", "readLine", "(II)Z"⟩, 14) := ⟨⟨by decide +kernel, by decide +kernel⟩, List.mem_of_getElem? (i := 26) (by decide +kernel), List.mem_of_getElem? (i := 586) (by decide +kernel), List.mem_of_getElem? (i := 587) (by decide +kernel)⟩
theorem lw_p10 : lw_okq (⟨"ClockForTalk", "readWish", "(I)Z"⟩, 14) := ⟨⟨by decide +kernel, by decide +kernel⟩, List.mem_of_getElem? (i := 26) (by decide +kernel), List.mem_of_getElem? (i := 597) (by decide +kernel), List.mem_of_getElem? (i := 598) (by decide +kernel)⟩
theorem lw_p11 : lw_okq (⟨"ClockForTalk", "readAct", "(I)Z"⟩, 14) := ⟨⟨by decide +kernel, by decide +kernel⟩, List.mem_of_getElem? (i := 26) (by decide +kernel), List.mem_of_getElem? (i := 614) (by decide +kernel), List.mem_of_getElem? (i := 615) (by decide +kernel)⟩
theorem lw_p12 : lw_okq (⟨"ClockForTalk", "readSaying", "(I)Z"⟩, 14) := ⟨⟨by decide +kernel, by decide +kernel⟩, List.mem_of_getElem? (i := 26) (by decide +kernel), List.mem_of_getElem? (i := 619) (by decide +kernel), List.mem_of_getElem? (i := 620) (by decide +kernel)⟩
theorem lw_p13 : lw_okq (⟨"ClockForTalk", "writeAct", "(IIIII)V"⟩, 14) := ⟨⟨by decide +kernel, by decide +kernel⟩, List.mem_of_getElem? (i := 26) (by decide +kernel), List.mem_of_getElem? (i := 624) (by decide +kernel), List.mem_of_getElem? (i := 625) (by decide +kernel)⟩
theorem lw_p14 : lw_okq (⟨"ClockForTalk", "readGift", "(I)Z"⟩, 14) := ⟨⟨by decide +kernel, by decide +kernel⟩, List.mem_of_getElem? (i := 26) (by decide +kernel), List.mem_of_getElem? (i := 629) (by decide +kernel), List.mem_of_getElem? (i := 630) (by decide +kernel)⟩
theorem lw_p15 : lw_okq (⟨"ClockForTalk", "utter", "(II)I"⟩, 14) := ⟨⟨by decide +kernel, by decide +kernel⟩, List.mem_of_getElem? (i := 26) (by decide +kernel), List.mem_of_getElem? (i := 770) (by decide +kernel), List.mem_of_getElem? (i := 771) (by decide +kernel)⟩
def lw_privs_1 : List (MethodName × Nat) := [(⟨"ClockForTalk", "readText", "(III)I"⟩, 14), (⟨"ClockForTalk$Rule", "readExpression", "(LClockForTalk$Text;I)Z"⟩, 4), (⟨"ClockForTalk$Rule", "readSum", "(LClockForTalk$Text;I)Z"⟩, 4), (⟨"ClockForTalk$Rule", "readProduct", "(LClockForTalk$Text;I)Z"⟩, 4), (⟨"ClockForTalk$Rule", "readFactor", "(LClockForTalk$Text;I)Z"⟩, 4), (⟨"ClockForTalk$Rule", "readAtom", "(LClockForTalk$Text;I)Z"⟩, 4), (⟨"ClockForTalk$Rule", "add", "(I)Z"⟩, 4), (⟨"ClockForTalk$Rule", "addSign", "(Ljava/lang/String;I)Z"⟩, 4), (⟨"ClockForTalk", "readLines", "(II)I"⟩, 14), (⟨"ClockForTalk", "readLine", "(II)Z"⟩, 14), (⟨"ClockForTalk", "readWish", "(I)Z"⟩, 14), (⟨"ClockForTalk", "readAct", "(I)Z"⟩, 14), (⟨"ClockForTalk", "readSaying", "(I)Z"⟩, 14), (⟨"ClockForTalk", "writeAct", "(IIIII)V"⟩, 14), (⟨"ClockForTalk", "readGift", "(I)Z"⟩, 14), (⟨"ClockForTalk", "utter", "(II)I"⟩, 14)]
theorem lw_r1 : ∀ q ∈ lw_privs_1, lw_okq q := List.forall_mem_cons.mpr ⟨lw_p0, List.forall_mem_cons.mpr ⟨lw_p1, List.forall_mem_cons.mpr ⟨lw_p2, List.forall_mem_cons.mpr ⟨lw_p3, List.forall_mem_cons.mpr ⟨lw_p4, List.forall_mem_cons.mpr ⟨lw_p5, List.forall_mem_cons.mpr ⟨lw_p6, List.forall_mem_cons.mpr ⟨lw_p7, List.forall_mem_cons.mpr ⟨lw_p8, List.forall_mem_cons.mpr ⟨lw_p9, List.forall_mem_cons.mpr ⟨lw_p10, List.forall_mem_cons.mpr ⟨lw_p11, List.forall_mem_cons.mpr ⟨lw_p12, List.forall_mem_cons.mpr ⟨lw_p13, List.forall_mem_cons.mpr ⟨lw_p14, List.forall_mem_cons.mpr ⟨lw_p15, fun _ h => absurd h List.not_mem_nil⟩⟩⟩⟩⟩⟩⟩⟩⟩⟩⟩⟩⟩⟩⟩⟩
theorem lw_p16 : lw_okq (⟨"ClockForTalk", "held", "(I)I"⟩, 14) := ⟨⟨by decide +kernel, by decide +kernel⟩, List.mem_of_getElem? (i := 26) (by decide +kernel), List.mem_of_getElem? (i := 785) (by decide +kernel), List.mem_of_getElem? (i := 786) (by decide +kernel)⟩
theorem lw_p17 : lw_okq (⟨"ClockForTalk", "handOver", "(III)I"⟩, 14) := ⟨⟨by decide +kernel, by decide +kernel⟩, List.mem_of_getElem? (i := 26) (by decide +kernel), List.mem_of_getElem? (i := 798) (by decide +kernel), List.mem_of_getElem? (i := 799) (by decide +kernel)⟩
theorem lw_p18 : lw_okq (⟨"ClockForTalk", "passDays", "(I)V"⟩, 14) := ⟨⟨by decide +kernel, by decide +kernel⟩, List.mem_of_getElem? (i := 26) (by decide +kernel), List.mem_of_getElem? (i := 839) (by decide +kernel), List.mem_of_getElem? (i := 840) (by decide +kernel)⟩
theorem lw_p19 : lw_okq (⟨"ClockForTalk$Ledger", "addTenths", "()V"⟩, 11) := ⟨⟨by decide +kernel, by decide +kernel⟩, List.mem_of_getElem? (i := 124) (by decide +kernel), List.mem_of_getElem? (i := 847) (by decide +kernel), List.mem_of_getElem? (i := 848) (by decide +kernel)⟩
theorem lw_p20 : lw_okq (⟨"ClockForTalk$Ledger", "settle", "(I)V"⟩, 11) := ⟨⟨by decide +kernel, by decide +kernel⟩, List.mem_of_getElem? (i := 124) (by decide +kernel), List.mem_of_getElem? (i := 857) (by decide +kernel), List.mem_of_getElem? (i := 858) (by decide +kernel)⟩
theorem lw_p21 : lw_okq (⟨"ClockForTalk$Ledger", "beginYear", "(LClockForTalk$Town;)V"⟩, 11) := ⟨⟨by decide +kernel, by decide +kernel⟩, List.mem_of_getElem? (i := 124) (by decide +kernel), List.mem_of_getElem? (i := 865) (by decide +kernel), List.mem_of_getElem? (i := 866) (by decide +kernel)⟩
theorem lw_p22 : lw_okq (⟨"ClockForTalk", "doAct", "(I)I"⟩, 14) := ⟨⟨by decide +kernel, by decide +kernel⟩, List.mem_of_getElem? (i := 26) (by decide +kernel), List.mem_of_getElem? (i := 878) (by decide +kernel), List.mem_of_getElem? (i := 879) (by decide +kernel)⟩
theorem lw_p23 : lw_okq (⟨"ClockForTalk", "isSpeech", "(I)Z"⟩, 14) := ⟨⟨by decide +kernel, by decide +kernel⟩, List.mem_of_getElem? (i := 26) (by decide +kernel), List.mem_of_getElem? (i := 890) (by decide +kernel), List.mem_of_getElem? (i := 891) (by decide +kernel)⟩
theorem lw_p24 : lw_okq (⟨"ClockForTalk$Costs", "weigh", "(II)V"⟩, 8) := ⟨⟨by decide +kernel, by decide +kernel⟩, List.mem_of_getElem? (i := 277) (by decide +kernel), List.mem_of_getElem? (i := 935) (by decide +kernel), List.mem_of_getElem? (i := 936) (by decide +kernel)⟩
theorem lw_p25 : lw_okq (⟨"ClockForTalk$WordOfMouth", "linkCost", "(III)I"⟩, 9) := ⟨⟨by decide +kernel, by decide +kernel⟩, List.mem_of_getElem? (i := 313) (by decide +kernel), List.mem_of_getElem? (i := 983) (by decide +kernel), List.mem_of_getElem? (i := 984) (by decide +kernel)⟩
theorem lw_p26 : lw_okq (⟨"ClockForTalk$WordOfMouth", "walk", "(IIII)V"⟩, 9) := ⟨⟨by decide +kernel, by decide +kernel⟩, List.mem_of_getElem? (i := 313) (by decide +kernel), List.mem_of_getElem? (i := 992) (by decide +kernel), List.mem_of_getElem? (i := 993) (by decide +kernel)⟩
theorem lw_p27 : lw_okq (⟨"ClockForTalk$WordOfMouth", "widestHearers", "(II)I"⟩, 9) := ⟨⟨by decide +kernel, by decide +kernel⟩, List.mem_of_getElem? (i := 313) (by decide +kernel), List.mem_of_getElem? (i := 1012) (by decide +kernel), List.mem_of_getElem? (i := 1013) (by decide +kernel)⟩
theorem lw_p28 : lw_okq (⟨"ClockForTalk$WordOfMouth", "knowers", "(II)I"⟩, 9) := ⟨⟨by decide +kernel, by decide +kernel⟩, List.mem_of_getElem? (i := 313) (by decide +kernel), List.mem_of_getElem? (i := 1018) (by decide +kernel), List.mem_of_getElem? (i := 1019) (by decide +kernel)⟩
theorem lw_p29 : lw_okq (⟨"ClockForTalk$Debates", "fill", "(I)V"⟩, 2) := ⟨⟨by decide +kernel, by decide +kernel⟩, List.mem_of_getElem? (i := 230) (by decide +kernel), List.mem_of_getElem? (i := 1031) (by decide +kernel), List.mem_of_getElem? (i := 1032) (by decide +kernel)⟩
theorem lw_p30 : lw_okq (⟨"ClockForTalk$Debates", "mostToWin", "(III)I"⟩, 2) := ⟨⟨by decide +kernel, by decide +kernel⟩, List.mem_of_getElem? (i := 230) (by decide +kernel), List.mem_of_getElem? (i := 1040) (by decide +kernel), List.mem_of_getElem? (i := 1041) (by decide +kernel)⟩
theorem lw_p31 : lw_okq (⟨"ClockForTalk$Debates", "wins", "(IIII)Z"⟩, 2) := ⟨⟨by decide +kernel, by decide +kernel⟩, List.mem_of_getElem? (i := 230) (by decide +kernel), List.mem_of_getElem? (i := 1044) (by decide +kernel), List.mem_of_getElem? (i := 1045) (by decide +kernel)⟩
def lw_privs_2 : List (MethodName × Nat) := [(⟨"ClockForTalk", "held", "(I)I"⟩, 14), (⟨"ClockForTalk", "handOver", "(III)I"⟩, 14), (⟨"ClockForTalk", "passDays", "(I)V"⟩, 14), (⟨"ClockForTalk$Ledger", "addTenths", "()V"⟩, 11), (⟨"ClockForTalk$Ledger", "settle", "(I)V"⟩, 11), (⟨"ClockForTalk$Ledger", "beginYear", "(LClockForTalk$Town;)V"⟩, 11), (⟨"ClockForTalk", "doAct", "(I)I"⟩, 14), (⟨"ClockForTalk", "isSpeech", "(I)Z"⟩, 14), (⟨"ClockForTalk$Costs", "weigh", "(II)V"⟩, 8), (⟨"ClockForTalk$WordOfMouth", "linkCost", "(III)I"⟩, 9), (⟨"ClockForTalk$WordOfMouth", "walk", "(IIII)V"⟩, 9), (⟨"ClockForTalk$WordOfMouth", "widestHearers", "(II)I"⟩, 9), (⟨"ClockForTalk$WordOfMouth", "knowers", "(II)I"⟩, 9), (⟨"ClockForTalk$Debates", "fill", "(I)V"⟩, 2), (⟨"ClockForTalk$Debates", "mostToWin", "(III)I"⟩, 2), (⟨"ClockForTalk$Debates", "wins", "(IIII)Z"⟩, 2)]
theorem lw_r2 : ∀ q ∈ lw_privs_2, lw_okq q := List.forall_mem_cons.mpr ⟨lw_p16, List.forall_mem_cons.mpr ⟨lw_p17, List.forall_mem_cons.mpr ⟨lw_p18, List.forall_mem_cons.mpr ⟨lw_p19, List.forall_mem_cons.mpr ⟨lw_p20, List.forall_mem_cons.mpr ⟨lw_p21, List.forall_mem_cons.mpr ⟨lw_p22, List.forall_mem_cons.mpr ⟨lw_p23, List.forall_mem_cons.mpr ⟨lw_p24, List.forall_mem_cons.mpr ⟨lw_p25, List.forall_mem_cons.mpr ⟨lw_p26, List.forall_mem_cons.mpr ⟨lw_p27, List.forall_mem_cons.mpr ⟨lw_p28, List.forall_mem_cons.mpr ⟨lw_p29, List.forall_mem_cons.mpr ⟨lw_p30, List.forall_mem_cons.mpr ⟨lw_p31, fun _ h => absurd h List.not_mem_nil⟩⟩⟩⟩⟩⟩⟩⟩⟩⟩⟩⟩⟩⟩⟩⟩
theorem lw_p32 : lw_okq (⟨"ClockForTalk$Wordings", "joined", "(II)I"⟩, 8) := ⟨⟨by decide +kernel, by decide +kernel⟩, List.mem_of_getElem? (i := 244) (by decide +kernel), List.mem_of_getElem? (i := 1072) (by decide +kernel), List.mem_of_getElem? (i := 1073) (by decide +kernel)⟩
theorem lw_p33 : lw_okq (⟨"ClockForTalk$Wordings", "tryFirst", "(II)V"⟩, 8) := ⟨⟨by decide +kernel, by decide +kernel⟩, List.mem_of_getElem? (i := 244) (by decide +kernel), List.mem_of_getElem? (i := 1085) (by decide +kernel), List.mem_of_getElem? (i := 1086) (by decide +kernel)⟩
theorem lw_p34 : lw_okq (⟨"ClockForTalk$Wordings", "isTrialLess", "(II)Z"⟩, 8) := ⟨⟨by decide +kernel, by decide +kernel⟩, List.mem_of_getElem? (i := 244) (by decide +kernel), List.mem_of_getElem? (i := 1093) (by decide +kernel), List.mem_of_getElem? (i := 1094) (by decide +kernel)⟩
theorem lw_p35 : lw_okq (⟨"ClockForTalk$Dusk", "fillSums", "(II)V"⟩, 9) := ⟨⟨by decide +kernel, by decide +kernel⟩, List.mem_of_getElem? (i := 350) (by decide +kernel), List.mem_of_getElem? (i := 1128) (by decide +kernel), List.mem_of_getElem? (i := 1129) (by decide +kernel)⟩
theorem lw_p36 : lw_okq (⟨"ClockForTalk$Dusk", "clearSums", "(II)V"⟩, 9) := ⟨⟨by decide +kernel, by decide +kernel⟩, List.mem_of_getElem? (i := 350) (by decide +kernel), List.mem_of_getElem? (i := 1132) (by decide +kernel), List.mem_of_getElem? (i := 1133) (by decide +kernel)⟩
theorem lw_p37 : lw_okq (⟨"ClockForTalk$Dusk", "addSpeech", "(IIII)V"⟩, 9) := ⟨⟨by decide +kernel, by decide +kernel⟩, List.mem_of_getElem? (i := 350) (by decide +kernel), List.mem_of_getElem? (i := 1138) (by decide +kernel), List.mem_of_getElem? (i := 1139) (by decide +kernel)⟩
theorem lw_p38 : lw_okq (⟨"ClockForTalk$Dusk", "addShifted", "(IIII)V"⟩, 9) := ⟨⟨by decide +kernel, by decide +kernel⟩, List.mem_of_getElem? (i := 350) (by decide +kernel), List.mem_of_getElem? (i := 1142) (by decide +kernel), List.mem_of_getElem? (i := 1143) (by decide +kernel)⟩
theorem lw_p39 : lw_okq (⟨"ClockForTalk$Dusk", "hasSum", "(II)Z"⟩, 9) := ⟨⟨by decide +kernel, by decide +kernel⟩, List.mem_of_getElem? (i := 350) (by decide +kernel), List.mem_of_getElem? (i := 1147) (by decide +kernel), List.mem_of_getElem? (i := 1148) (by decide +kernel)⟩
theorem lw_p40 : lw_okq (⟨"ClockForTalk$Dusk", "countSet", "(I)V"⟩, 9) := ⟨⟨by decide +kernel, by decide +kernel⟩, List.mem_of_getElem? (i := 350) (by decide +kernel), List.mem_of_getElem? (i := 1151) (by decide +kernel), List.mem_of_getElem? (i := 1152) (by decide +kernel)⟩
theorem lw_p41 : lw_okq (⟨"ClockForTalk$Dusk", "countSums", "(II)I"⟩, 9) := ⟨⟨by decide +kernel, by decide +kernel⟩, List.mem_of_getElem? (i := 350) (by decide +kernel), List.mem_of_getElem? (i := 1165) (by decide +kernel), List.mem_of_getElem? (i := 1166) (by decide +kernel)⟩
theorem lw_p42 : lw_okq (⟨"ClockForTalk", "bestOfAll", "(LClockForTalk$Costs;)I"⟩, 14) := ⟨⟨by decide +kernel, by decide +kernel⟩, List.mem_of_getElem? (i := 26) (by decide +kernel), List.mem_of_getElem? (i := 1173) (by decide +kernel), List.mem_of_getElem? (i := 1174) (by decide +kernel)⟩
theorem lw_p43 : lw_okq (⟨"ClockForTalk$Ledger", "isStruckBy", "(II)Z"⟩, 11) := ⟨⟨by decide +kernel, by decide +kernel⟩, List.mem_of_getElem? (i := 124) (by decide +kernel), List.mem_of_getElem? (i := 1193) (by decide +kernel), List.mem_of_getElem? (i := 1194) (by decide +kernel)⟩
theorem lw_p44 : lw_okq (⟨"java/lang/Throwable", "fillInStackTrace", "(I)Ljava/lang/Throwable;"⟩, 6) := ⟨⟨by decide +kernel, by decide +kernel⟩, List.mem_of_getElem? (i := 1280) (by decide +kernel), List.mem_of_getElem? (i := 1278) (by decide +kernel), List.mem_of_getElem? (i := 1279) (by decide +kernel)⟩
theorem lw_p45 : lw_okq (⟨"ClockForTalkModel", "begin", "([BII)V"⟩, 52) := ⟨⟨by decide +kernel, by decide +kernel⟩, List.mem_of_getElem? (i := 1337) (by decide +kernel), List.mem_of_getElem? (i := 1522) (by decide +kernel), List.mem_of_getElem? (i := 1523) (by decide +kernel)⟩
theorem lw_p46 : lw_okq (⟨"ClockForTalkModel", "fine", "()Z"⟩, 52) := ⟨⟨by decide +kernel, by decide +kernel⟩, List.mem_of_getElem? (i := 1337) (by decide +kernel), List.mem_of_getElem? (i := 1526) (by decide +kernel), List.mem_of_getElem? (i := 1527) (by decide +kernel)⟩
theorem lw_p47 : lw_okq (⟨"ClockForTalkModel", "fault", "(I)V"⟩, 52) := ⟨⟨by decide +kernel, by decide +kernel⟩, List.mem_of_getElem? (i := 1337) (by decide +kernel), List.mem_of_getElem? (i := 1530) (by decide +kernel), List.mem_of_getElem? (i := 1531) (by decide +kernel)⟩
def lw_privs_3 : List (MethodName × Nat) := [(⟨"ClockForTalk$Wordings", "joined", "(II)I"⟩, 8), (⟨"ClockForTalk$Wordings", "tryFirst", "(II)V"⟩, 8), (⟨"ClockForTalk$Wordings", "isTrialLess", "(II)Z"⟩, 8), (⟨"ClockForTalk$Dusk", "fillSums", "(II)V"⟩, 9), (⟨"ClockForTalk$Dusk", "clearSums", "(II)V"⟩, 9), (⟨"ClockForTalk$Dusk", "addSpeech", "(IIII)V"⟩, 9), (⟨"ClockForTalk$Dusk", "addShifted", "(IIII)V"⟩, 9), (⟨"ClockForTalk$Dusk", "hasSum", "(II)Z"⟩, 9), (⟨"ClockForTalk$Dusk", "countSet", "(I)V"⟩, 9), (⟨"ClockForTalk$Dusk", "countSums", "(II)I"⟩, 9), (⟨"ClockForTalk", "bestOfAll", "(LClockForTalk$Costs;)I"⟩, 14), (⟨"ClockForTalk$Ledger", "isStruckBy", "(II)Z"⟩, 11), (⟨"java/lang/Throwable", "fillInStackTrace", "(I)Ljava/lang/Throwable;"⟩, 6), (⟨"ClockForTalkModel", "begin", "([BII)V"⟩, 52), (⟨"ClockForTalkModel", "fine", "()Z"⟩, 52), (⟨"ClockForTalkModel", "fault", "(I)V"⟩, 52)]
theorem lw_r3 : ∀ q ∈ lw_privs_3, lw_okq q := List.forall_mem_cons.mpr ⟨lw_p32, List.forall_mem_cons.mpr ⟨lw_p33, List.forall_mem_cons.mpr ⟨lw_p34, List.forall_mem_cons.mpr ⟨lw_p35, List.forall_mem_cons.mpr ⟨lw_p36, List.forall_mem_cons.mpr ⟨lw_p37, List.forall_mem_cons.mpr ⟨lw_p38, List.forall_mem_cons.mpr ⟨lw_p39, List.forall_mem_cons.mpr ⟨lw_p40, List.forall_mem_cons.mpr ⟨lw_p41, List.forall_mem_cons.mpr ⟨lw_p42, List.forall_mem_cons.mpr ⟨lw_p43, List.forall_mem_cons.mpr ⟨lw_p44, List.forall_mem_cons.mpr ⟨lw_p45, List.forall_mem_cons.mpr ⟨lw_p46, List.forall_mem_cons.mpr ⟨lw_p47, fun _ h => absurd h List.not_mem_nil⟩⟩⟩⟩⟩⟩⟩⟩⟩⟩⟩⟩⟩⟩⟩⟩
theorem lw_p48 : lw_okq (⟨"ClockForTalkModel", "number", "(I)I"⟩, 52) := ⟨⟨by decide +kernel, by decide +kernel⟩, List.mem_of_getElem? (i := 1337) (by decide +kernel), List.mem_of_getElem? (i := 1534) (by decide +kernel), List.mem_of_getElem? (i := 1535) (by decide +kernel)⟩
theorem lw_p49 : lw_okq (⟨"ClockForTalkModel", "oneOf", "(CII)I"⟩, 52) := ⟨⟨by decide +kernel, by decide +kernel⟩, List.mem_of_getElem? (i := 1337) (by decide +kernel), List.mem_of_getElem? (i := 1538) (by decide +kernel), List.mem_of_getElem? (i := 1539) (by decide +kernel)⟩
theorem lw_p50 : lw_okq (⟨"ClockForTalkModel", "here", "()I"⟩, 52) := ⟨⟨by decide +kernel, by decide +kernel⟩, List.mem_of_getElem? (i := 1337) (by decide +kernel), List.mem_of_getElem? (i := 1542) (by decide +kernel), List.mem_of_getElem? (i := 1543) (by decide +kernel)⟩
theorem lw_p51 : lw_okq (⟨"ClockForTalkModel", "need", "(C)V"⟩, 52) := ⟨⟨by decide +kernel, by decide +kernel⟩, List.mem_of_getElem? (i := 1337) (by decide +kernel), List.mem_of_getElem? (i := 1546) (by decide +kernel), List.mem_of_getElem? (i := 1547) (by decide +kernel)⟩
theorem lw_p52 : lw_okq (⟨"ClockForTalkModel", "passes", "(C)Z"⟩, 52) := ⟨⟨by decide +kernel, by decide +kernel⟩, List.mem_of_getElem? (i := 1337) (by decide +kernel), List.mem_of_getElem? (i := 1550) (by decide +kernel), List.mem_of_getElem? (i := 1551) (by decide +kernel)⟩
theorem lw_p53 : lw_okq (⟨"ClockForTalkModel", "readThing", "(I)V"⟩, 52) := ⟨⟨by decide +kernel, by decide +kernel⟩, List.mem_of_getElem? (i := 1337) (by decide +kernel), List.mem_of_getElem? (i := 1558) (by decide +kernel), List.mem_of_getElem? (i := 1559) (by decide +kernel)⟩
theorem lw_p54 : lw_okq (⟨"ClockForTalkModel", "readRule", "()Z"⟩, 52) := ⟨⟨by decide +kernel, by decide +kernel⟩, List.mem_of_getElem? (i := 1337) (by decide +kernel), List.mem_of_getElem? (i := 1566) (by decide +kernel), List.mem_of_getElem? (i := 1567) (by decide +kernel)⟩
theorem lw_p55 : lw_okq (⟨"ClockForTalkModel", "held", "(I)I"⟩, 52) := ⟨⟨by decide +kernel, by decide +kernel⟩, List.mem_of_getElem? (i := 1337) (by decide +kernel), List.mem_of_getElem? (i := 1570) (by decide +kernel), List.mem_of_getElem? (i := 1571) (by decide +kernel)⟩
theorem lw_p56 : lw_okq (⟨"ClockForTalkModel", "sum", "(I)I"⟩, 52) := ⟨⟨by decide +kernel, by decide +kernel⟩, List.mem_of_getElem? (i := 1337) (by decide +kernel), List.mem_of_getElem? (i := 1574) (by decide +kernel), List.mem_of_getElem? (i := 1575) (by decide +kernel)⟩
theorem lw_p57 : lw_okq (⟨"ClockForTalkModel", "product", "(I)I"⟩, 52) := ⟨⟨by decide +kernel, by decide +kernel⟩, List.mem_of_getElem? (i := 1337) (by decide +kernel), List.mem_of_getElem? (i := 1578) (by decide +kernel), List.mem_of_getElem? (i := 1579) (by decide +kernel)⟩
theorem lw_p58 : lw_okq (⟨"ClockForTalkModel", "part", "(I)I"⟩, 52) := ⟨⟨by decide +kernel, by decide +kernel⟩, List.mem_of_getElem? (i := 1337) (by decide +kernel), List.mem_of_getElem? (i := 1582) (by decide +kernel), List.mem_of_getElem? (i := 1583) (by decide +kernel)⟩
theorem lw_p59 : lw_okq (⟨"ClockForTalkModel", "isOne", "(I)Z"⟩, 52) := ⟨⟨by decide +kernel, by decide +kernel⟩, List.mem_of_getElem? (i := 1337) (by decide +kernel), List.mem_of_getElem? (i := 1593) (by decide +kernel), List.mem_of_getElem? (i := 1594) (by decide +kernel)⟩
theorem lw_p60 : lw_okq (⟨"ClockForTalkModel", "lost", "()I"⟩, 52) := ⟨⟨by decide +kernel, by decide +kernel⟩, List.mem_of_getElem? (i := 1337) (by decide +kernel), List.mem_of_getElem? (i := 1597) (by decide +kernel), List.mem_of_getElem? (i := 1598) (by decide +kernel)⟩
theorem lw_p61 : lw_okq (⟨"ClockForTalkModel", "owedBy", "(II)I"⟩, 52) := ⟨⟨by decide +kernel, by decide +kernel⟩, List.mem_of_getElem? (i := 1337) (by decide +kernel), List.mem_of_getElem? (i := 1601) (by decide +kernel), List.mem_of_getElem? (i := 1602) (by decide +kernel)⟩
theorem lw_p62 : lw_okq (⟨"ClockForTalkModel", "isThing", "(I)Z"⟩, 52) := ⟨⟨by decide +kernel, by decide +kernel⟩, List.mem_of_getElem? (i := 1337) (by decide +kernel), List.mem_of_getElem? (i := 1609) (by decide +kernel), List.mem_of_getElem? (i := 1610) (by decide +kernel)⟩
theorem lw_p63 : lw_okq (⟨"ClockForTalkModel", "field", "(II)I"⟩, 52) := ⟨⟨by decide +kernel, by decide +kernel⟩, List.mem_of_getElem? (i := 1337) (by decide +kernel), List.mem_of_getElem? (i := 1613) (by decide +kernel), List.mem_of_getElem? (i := 1614) (by decide +kernel)⟩
def lw_privs_4 : List (MethodName × Nat) := [(⟨"ClockForTalkModel", "number", "(I)I"⟩, 52), (⟨"ClockForTalkModel", "oneOf", "(CII)I"⟩, 52), (⟨"ClockForTalkModel", "here", "()I"⟩, 52), (⟨"ClockForTalkModel", "need", "(C)V"⟩, 52), (⟨"ClockForTalkModel", "passes", "(C)Z"⟩, 52), (⟨"ClockForTalkModel", "readThing", "(I)V"⟩, 52), (⟨"ClockForTalkModel", "readRule", "()Z"⟩, 52), (⟨"ClockForTalkModel", "held", "(I)I"⟩, 52), (⟨"ClockForTalkModel", "sum", "(I)I"⟩, 52), (⟨"ClockForTalkModel", "product", "(I)I"⟩, 52), (⟨"ClockForTalkModel", "part", "(I)I"⟩, 52), (⟨"ClockForTalkModel", "isOne", "(I)Z"⟩, 52), (⟨"ClockForTalkModel", "lost", "()I"⟩, 52), (⟨"ClockForTalkModel", "owedBy", "(II)I"⟩, 52), (⟨"ClockForTalkModel", "isThing", "(I)Z"⟩, 52), (⟨"ClockForTalkModel", "field", "(II)I"⟩, 52)]
theorem lw_r4 : ∀ q ∈ lw_privs_4, lw_okq q := List.forall_mem_cons.mpr ⟨lw_p48, List.forall_mem_cons.mpr ⟨lw_p49, List.forall_mem_cons.mpr ⟨lw_p50, List.forall_mem_cons.mpr ⟨lw_p51, List.forall_mem_cons.mpr ⟨lw_p52, List.forall_mem_cons.mpr ⟨lw_p53, List.forall_mem_cons.mpr ⟨lw_p54, List.forall_mem_cons.mpr ⟨lw_p55, List.forall_mem_cons.mpr ⟨lw_p56, List.forall_mem_cons.mpr ⟨lw_p57, List.forall_mem_cons.mpr ⟨lw_p58, List.forall_mem_cons.mpr ⟨lw_p59, List.forall_mem_cons.mpr ⟨lw_p60, List.forall_mem_cons.mpr ⟨lw_p61, List.forall_mem_cons.mpr ⟨lw_p62, List.forall_mem_cons.mpr ⟨lw_p63, fun _ h => absurd h List.not_mem_nil⟩⟩⟩⟩⟩⟩⟩⟩⟩⟩⟩⟩⟩⟩⟩⟩
theorem lw_p64 : lw_okq (⟨"ClockForTalkModel", "apart", "(II)I"⟩, 52) := ⟨⟨by decide +kernel, by decide +kernel⟩, List.mem_of_getElem? (i := 1337) (by decide +kernel), List.mem_of_getElem? (i := 1617) (by decide +kernel), List.mem_of_getElem? (i := 1618) (by decide +kernel)⟩
theorem lw_p65 : lw_okq (⟨"ClockForTalkModel", "bestWayOf", "([II)I"⟩, 52) := ⟨⟨by decide +kernel, by decide +kernel⟩, List.mem_of_getElem? (i := 1337) (by decide +kernel), List.mem_of_getElem? (i := 1622) (by decide +kernel), List.mem_of_getElem? (i := 1623) (by decide +kernel)⟩
theorem lw_p66 : lw_okq (⟨"ClockForTalkModel", "bestWay", "([IIII)I"⟩, 52) := ⟨⟨by decide +kernel, by decide +kernel⟩, List.mem_of_getElem? (i := 1337) (by decide +kernel), List.mem_of_getElem? (i := 1626) (by decide +kernel), List.mem_of_getElem? (i := 1627) (by decide +kernel)⟩
theorem lw_p67 : lw_okq (⟨"ClockForTalkModel", "costOf", "([IIIII)I"⟩, 52) := ⟨⟨by decide +kernel, by decide +kernel⟩, List.mem_of_getElem? (i := 1337) (by decide +kernel), List.mem_of_getElem? (i := 1633) (by decide +kernel), List.mem_of_getElem? (i := 1634) (by decide +kernel)⟩
theorem lw_p68 : lw_okq (⟨"ClockForTalkModel", "hears", "(II)I"⟩, 52) := ⟨⟨by decide +kernel, by decide +kernel⟩, List.mem_of_getElem? (i := 1337) (by decide +kernel), List.mem_of_getElem? (i := 1637) (by decide +kernel), List.mem_of_getElem? (i := 1638) (by decide +kernel)⟩
theorem lw_p69 : lw_okq (⟨"ClockForTalkModel", "costBy", "(IIIIII)I"⟩, 52) := ⟨⟨by decide +kernel, by decide +kernel⟩, List.mem_of_getElem? (i := 1337) (by decide +kernel), List.mem_of_getElem? (i := 1642) (by decide +kernel), List.mem_of_getElem? (i := 1643) (by decide +kernel)⟩
theorem lw_p70 : lw_okq (⟨"ClockForTalkModel", "isHeard", "(II)Z"⟩, 52) := ⟨⟨by decide +kernel, by decide +kernel⟩, List.mem_of_getElem? (i := 1337) (by decide +kernel), List.mem_of_getElem? (i := 1663) (by decide +kernel), List.mem_of_getElem? (i := 1664) (by decide +kernel)⟩
theorem lw_p71 : lw_okq (⟨"ClockForTalkModel", "costOfThing", "([III)I"⟩, 52) := ⟨⟨by decide +kernel, by decide +kernel⟩, List.mem_of_getElem? (i := 1337) (by decide +kernel), List.mem_of_getElem? (i := 1667) (by decide +kernel), List.mem_of_getElem? (i := 1668) (by decide +kernel)⟩
theorem lw_p72 : lw_okq (⟨"ClockForTalkModel", "refusesSay", "([III)I"⟩, 52) := ⟨⟨by decide +kernel, by decide +kernel⟩, List.mem_of_getElem? (i := 1337) (by decide +kernel), List.mem_of_getElem? (i := 1675) (by decide +kernel), List.mem_of_getElem? (i := 1676) (by decide +kernel)⟩
theorem lw_p73 : lw_okq (⟨"ClockForTalkModel", "isLate", "([II)Z"⟩, 52) := ⟨⟨by decide +kernel, by decide +kernel⟩, List.mem_of_getElem? (i := 1337) (by decide +kernel), List.mem_of_getElem? (i := 1682) (by decide +kernel), List.mem_of_getElem? (i := 1683) (by decide +kernel)⟩
theorem lw_p74 : lw_okq (⟨"ClockForTalkModel", "remember", "([I)V"⟩, 52) := ⟨⟨by decide +kernel, by decide +kernel⟩, List.mem_of_getElem? (i := 1337) (by decide +kernel), List.mem_of_getElem? (i := 1686) (by decide +kernel), List.mem_of_getElem? (i := 1687) (by decide +kernel)⟩
theorem lw_p75 : lw_okq (⟨"ClockForTalkModel", "goSay", "([III)I"⟩, 52) := ⟨⟨by decide +kernel, by decide +kernel⟩, List.mem_of_getElem? (i := 1337) (by decide +kernel), List.mem_of_getElem? (i := 1693) (by decide +kernel), List.mem_of_getElem? (i := 1694) (by decide +kernel)⟩
theorem lw_p76 : lw_okq (⟨"ClockForTalkModel", "refusesGive", "(III)I"⟩, 52) := ⟨⟨by decide +kernel, by decide +kernel⟩, List.mem_of_getElem? (i := 1337) (by decide +kernel), List.mem_of_getElem? (i := 1701) (by decide +kernel), List.mem_of_getElem? (i := 1702) (by decide +kernel)⟩
theorem lw_p77 : lw_okq (⟨"ClockForTalkModel", "areTwo", "(II)Z"⟩, 52) := ⟨⟨by decide +kernel, by decide +kernel⟩, List.mem_of_getElem? (i := 1337) (by decide +kernel), List.mem_of_getElem? (i := 1705) (by decide +kernel), List.mem_of_getElem? (i := 1706) (by decide +kernel)⟩
theorem lw_p78 : lw_okq (⟨"ClockForTalkModel", "goDays", "([II)V"⟩, 52) := ⟨⟨by decide +kernel, by decide +kernel⟩, List.mem_of_getElem? (i := 1337) (by decide +kernel), List.mem_of_getElem? (i := 1720) (by decide +kernel), List.mem_of_getElem? (i := 1721) (by decide +kernel)⟩
theorem lw_p79 : lw_okq (⟨"ClockForTalkModel", "goDay", "([I)V"⟩, 52) := ⟨⟨by decide +kernel, by decide +kernel⟩, List.mem_of_getElem? (i := 1337) (by decide +kernel), List.mem_of_getElem? (i := 1724) (by decide +kernel), List.mem_of_getElem? (i := 1725) (by decide +kernel)⟩
def lw_privs_5 : List (MethodName × Nat) := [(⟨"ClockForTalkModel", "apart", "(II)I"⟩, 52), (⟨"ClockForTalkModel", "bestWayOf", "([II)I"⟩, 52), (⟨"ClockForTalkModel", "bestWay", "([IIII)I"⟩, 52), (⟨"ClockForTalkModel", "costOf", "([IIIII)I"⟩, 52), (⟨"ClockForTalkModel", "hears", "(II)I"⟩, 52), (⟨"ClockForTalkModel", "costBy", "(IIIIII)I"⟩, 52), (⟨"ClockForTalkModel", "isHeard", "(II)Z"⟩, 52), (⟨"ClockForTalkModel", "costOfThing", "([III)I"⟩, 52), (⟨"ClockForTalkModel", "refusesSay", "([III)I"⟩, 52), (⟨"ClockForTalkModel", "isLate", "([II)Z"⟩, 52), (⟨"ClockForTalkModel", "remember", "([I)V"⟩, 52), (⟨"ClockForTalkModel", "goSay", "([III)I"⟩, 52), (⟨"ClockForTalkModel", "refusesGive", "(III)I"⟩, 52), (⟨"ClockForTalkModel", "areTwo", "(II)Z"⟩, 52), (⟨"ClockForTalkModel", "goDays", "([II)V"⟩, 52), (⟨"ClockForTalkModel", "goDay", "([I)V"⟩, 52)]
theorem lw_r5 : ∀ q ∈ lw_privs_5, lw_okq q := List.forall_mem_cons.mpr ⟨lw_p64, List.forall_mem_cons.mpr ⟨lw_p65, List.forall_mem_cons.mpr ⟨lw_p66, List.forall_mem_cons.mpr ⟨lw_p67, List.forall_mem_cons.mpr ⟨lw_p68, List.forall_mem_cons.mpr ⟨lw_p69, List.forall_mem_cons.mpr ⟨lw_p70, List.forall_mem_cons.mpr ⟨lw_p71, List.forall_mem_cons.mpr ⟨lw_p72, List.forall_mem_cons.mpr ⟨lw_p73, List.forall_mem_cons.mpr ⟨lw_p74, List.forall_mem_cons.mpr ⟨lw_p75, List.forall_mem_cons.mpr ⟨lw_p76, List.forall_mem_cons.mpr ⟨lw_p77, List.forall_mem_cons.mpr ⟨lw_p78, List.forall_mem_cons.mpr ⟨lw_p79, fun _ h => absurd h List.not_mem_nil⟩⟩⟩⟩⟩⟩⟩⟩⟩⟩⟩⟩⟩⟩⟩⟩
theorem lw_p80 : lw_okq (⟨"ClockForTalkModel", "tell", "(I)V"⟩, 52) := ⟨⟨by decide +kernel, by decide +kernel⟩, List.mem_of_getElem? (i := 1337) (by decide +kernel), List.mem_of_getElem? (i := 1728) (by decide +kernel), List.mem_of_getElem? (i := 1729) (by decide +kernel)⟩
theorem lw_p81 : lw_okq (⟨"ClockForTalkModel", "readAct", "(I)V"⟩, 52) := ⟨⟨by decide +kernel, by decide +kernel⟩, List.mem_of_getElem? (i := 1337) (by decide +kernel), List.mem_of_getElem? (i := 1736) (by decide +kernel), List.mem_of_getElem? (i := 1737) (by decide +kernel)⟩
theorem lw_p82 : lw_okq (⟨"ClockForTalkModel", "act", "(IIII)Z"⟩, 52) := ⟨⟨by decide +kernel, by decide +kernel⟩, List.mem_of_getElem? (i := 1337) (by decide +kernel), List.mem_of_getElem? (i := 1740) (by decide +kernel), List.mem_of_getElem? (i := 1741) (by decide +kernel)⟩
theorem lw_p83 : lw_okq (⟨"ClockForTalkModel", "layLeast", "()V"⟩, 52) := ⟨⟨by decide +kernel, by decide +kernel⟩, List.mem_of_getElem? (i := 1337) (by decide +kernel), List.mem_of_getElem? (i := 1752) (by decide +kernel), List.mem_of_getElem? (i := 1753) (by decide +kernel)⟩
theorem lw_p84 : lw_okq (⟨"ClockForTalkModel", "leastOf", "([II)I"⟩, 52) := ⟨⟨by decide +kernel, by decide +kernel⟩, List.mem_of_getElem? (i := 1337) (by decide +kernel), List.mem_of_getElem? (i := 1756) (by decide +kernel), List.mem_of_getElem? (i := 1757) (by decide +kernel)⟩
theorem lw_p85 : lw_okq (⟨"ClockForTalkModel", "thingsOf", "(I)I"⟩, 52) := ⟨⟨by decide +kernel, by decide +kernel⟩, List.mem_of_getElem? (i := 1337) (by decide +kernel), List.mem_of_getElem? (i := 1760) (by decide +kernel), List.mem_of_getElem? (i := 1761) (by decide +kernel)⟩
theorem lw_p86 : lw_okq (⟨"ClockForTalkModel", "today", "()I"⟩, 52) := ⟨⟨by decide +kernel, by decide +kernel⟩, List.mem_of_getElem? (i := 1337) (by decide +kernel), List.mem_of_getElem? (i := 1764) (by decide +kernel), List.mem_of_getElem? (i := 1765) (by decide +kernel)⟩
theorem lw_p87 : lw_okq (⟨"ClockForTalkModel", "bestSet", "(II)I"⟩, 52) := ⟨⟨by decide +kernel, by decide +kernel⟩, List.mem_of_getElem? (i := 1337) (by decide +kernel), List.mem_of_getElem? (i := 1768) (by decide +kernel), List.mem_of_getElem? (i := 1769) (by decide +kernel)⟩
theorem lw_p88 : lw_okq (⟨"ClockForTalkModel", "sumOf", "(I)I"⟩, 52) := ⟨⟨by decide +kernel, by decide +kernel⟩, List.mem_of_getElem? (i := 1337) (by decide +kernel), List.mem_of_getElem? (i := 1772) (by decide +kernel), List.mem_of_getElem? (i := 1773) (by decide +kernel)⟩
theorem lw_p89 : lw_okq (⟨"ClockForTalkModel", "worthOf", "(I)I"⟩, 52) := ⟨⟨by decide +kernel, by decide +kernel⟩, List.mem_of_getElem? (i := 1337) (by decide +kernel), List.mem_of_getElem? (i := 1776) (by decide +kernel), List.mem_of_getElem? (i := 1777) (by decide +kernel)⟩
theorem lw_p90 : lw_okq (⟨"ClockForTalkModel", "allClocks", "()I"⟩, 52) := ⟨⟨by decide +kernel, by decide +kernel⟩, List.mem_of_getElem? (i := 1337) (by decide +kernel), List.mem_of_getElem? (i := 1788) (by decide +kernel), List.mem_of_getElem? (i := 1789) (by decide +kernel)⟩
theorem lw_p91 : lw_okq (⟨"ClockForTalkModel", "goRelay", "(IIIIII)V"⟩, 52) := ⟨⟨by decide +kernel, by decide +kernel⟩, List.mem_of_getElem? (i := 1337) (by decide +kernel), List.mem_of_getElem? (i := 1805) (by decide +kernel), List.mem_of_getElem? (i := 1806) (by decide +kernel)⟩
theorem lw_p92 : lw_okq (⟨"ClockForTalkModel", "isBefore", "(I)Z"⟩, 52) := ⟨⟨by decide +kernel, by decide +kernel⟩, List.mem_of_getElem? (i := 1337) (by decide +kernel), List.mem_of_getElem? (i := 1809) (by decide +kernel), List.mem_of_getElem? (i := 1810) (by decide +kernel)⟩
theorem lw_p93 : lw_okq (⟨"ClockForTalkModel", "known", "(III)I"⟩, 52) := ⟨⟨by decide +kernel, by decide +kernel⟩, List.mem_of_getElem? (i := 1337) (by decide +kernel), List.mem_of_getElem? (i := 1817) (by decide +kernel), List.mem_of_getElem? (i := 1818) (by decide +kernel)⟩
theorem lw_p94 : lw_okq (⟨"ClockForTalkModel", "cried", "(II)I"⟩, 52) := ⟨⟨by decide +kernel, by decide +kernel⟩, List.mem_of_getElem? (i := 1337) (by decide +kernel), List.mem_of_getElem? (i := 1821) (by decide +kernel), List.mem_of_getElem? (i := 1822) (by decide +kernel)⟩
theorem lw_p95 : lw_okq (⟨"ClockForTalkModel", "layWins", "(I)V"⟩, 52) := ⟨⟨by decide +kernel, by decide +kernel⟩, List.mem_of_getElem? (i := 1337) (by decide +kernel), List.mem_of_getElem? (i := 1832) (by decide +kernel), List.mem_of_getElem? (i := 1833) (by decide +kernel)⟩
def lw_privs_6 : List (MethodName × Nat) := [(⟨"ClockForTalkModel", "tell", "(I)V"⟩, 52), (⟨"ClockForTalkModel", "readAct", "(I)V"⟩, 52), (⟨"ClockForTalkModel", "act", "(IIII)Z"⟩, 52), (⟨"ClockForTalkModel", "layLeast", "()V"⟩, 52), (⟨"ClockForTalkModel", "leastOf", "([II)I"⟩, 52), (⟨"ClockForTalkModel", "thingsOf", "(I)I"⟩, 52), (⟨"ClockForTalkModel", "today", "()I"⟩, 52), (⟨"ClockForTalkModel", "bestSet", "(II)I"⟩, 52), (⟨"ClockForTalkModel", "sumOf", "(I)I"⟩, 52), (⟨"ClockForTalkModel", "worthOf", "(I)I"⟩, 52), (⟨"ClockForTalkModel", "allClocks", "()I"⟩, 52), (⟨"ClockForTalkModel", "goRelay", "(IIIIII)V"⟩, 52), (⟨"ClockForTalkModel", "isBefore", "(I)Z"⟩, 52), (⟨"ClockForTalkModel", "known", "(III)I"⟩, 52), (⟨"ClockForTalkModel", "cried", "(II)I"⟩, 52), (⟨"ClockForTalkModel", "layWins", "(I)V"⟩, 52)]
theorem lw_r6 : ∀ q ∈ lw_privs_6, lw_okq q := List.forall_mem_cons.mpr ⟨lw_p80, List.forall_mem_cons.mpr ⟨lw_p81, List.forall_mem_cons.mpr ⟨lw_p82, List.forall_mem_cons.mpr ⟨lw_p83, List.forall_mem_cons.mpr ⟨lw_p84, List.forall_mem_cons.mpr ⟨lw_p85, List.forall_mem_cons.mpr ⟨lw_p86, List.forall_mem_cons.mpr ⟨lw_p87, List.forall_mem_cons.mpr ⟨lw_p88, List.forall_mem_cons.mpr ⟨lw_p89, List.forall_mem_cons.mpr ⟨lw_p90, List.forall_mem_cons.mpr ⟨lw_p91, List.forall_mem_cons.mpr ⟨lw_p92, List.forall_mem_cons.mpr ⟨lw_p93, List.forall_mem_cons.mpr ⟨lw_p94, List.forall_mem_cons.mpr ⟨lw_p95, fun _ h => absurd h List.not_mem_nil⟩⟩⟩⟩⟩⟩⟩⟩⟩⟩⟩⟩⟩⟩⟩⟩
theorem lw_p96 : lw_okq (⟨"ClockForTalkModel", "readWording", "()I"⟩, 52) := ⟨⟨by decide +kernel, by decide +kernel⟩, List.mem_of_getElem? (i := 1337) (by decide +kernel), List.mem_of_getElem? (i := 1851) (by decide +kernel), List.mem_of_getElem? (i := 1852) (by decide +kernel)⟩
theorem lw_p97 : lw_okq (⟨"ClockForTalkModel", "joined", "(II)I"⟩, 52) := ⟨⟨by decide +kernel, by decide +kernel⟩, List.mem_of_getElem? (i := 1337) (by decide +kernel), List.mem_of_getElem? (i := 1855) (by decide +kernel), List.mem_of_getElem? (i := 1856) (by decide +kernel)⟩
theorem lw_p98 : lw_okq (⟨"ClockForTalkModel", "markCosts", "(II)V"⟩, 52) := ⟨⟨by decide +kernel, by decide +kernel⟩, List.mem_of_getElem? (i := 1337) (by decide +kernel), List.mem_of_getElem? (i := 1876) (by decide +kernel), List.mem_of_getElem? (i := 1877) (by decide +kernel)⟩
theorem lw_p99 : lw_okq (⟨"ClockForTalkModel", "goCosts", "(IIIIII)V"⟩, 52) := ⟨⟨by decide +kernel, by decide +kernel⟩, List.mem_of_getElem? (i := 1337) (by decide +kernel), List.mem_of_getElem? (i := 1880) (by decide +kernel), List.mem_of_getElem? (i := 1881) (by decide +kernel)⟩
theorem lw_p100 : lw_okq (⟨"ClockForTalkModel", "mark", "(I)V"⟩, 52) := ⟨⟨by decide +kernel, by decide +kernel⟩, List.mem_of_getElem? (i := 1337) (by decide +kernel), List.mem_of_getElem? (i := 1884) (by decide +kernel), List.mem_of_getElem? (i := 1885) (by decide +kernel)⟩
theorem lw_p101 : lw_okq (⟨"ClockForTalkModel", "bestAll", "()I"⟩, 52) := ⟨⟨by decide +kernel, by decide +kernel⟩, List.mem_of_getElem? (i := 1337) (by decide +kernel), List.mem_of_getElem? (i := 1896) (by decide +kernel), List.mem_of_getElem? (i := 1897) (by decide +kernel)⟩
theorem lw_p102 : lw_okq (⟨"ClockForTalkModel", "isStruck", "(II)Z"⟩, 52) := ⟨⟨by decide +kernel, by decide +kernel⟩, List.mem_of_getElem? (i := 1337) (by decide +kernel), List.mem_of_getElem? (i := 1904) (by decide +kernel), List.mem_of_getElem? (i := 1905) (by decide +kernel)⟩
def lw_privs_7 : List (MethodName × Nat) := [(⟨"ClockForTalkModel", "readWording", "()I"⟩, 52), (⟨"ClockForTalkModel", "joined", "(II)I"⟩, 52), (⟨"ClockForTalkModel", "markCosts", "(II)V"⟩, 52), (⟨"ClockForTalkModel", "goCosts", "(IIIIII)V"⟩, 52), (⟨"ClockForTalkModel", "mark", "(I)V"⟩, 52), (⟨"ClockForTalkModel", "bestAll", "()I"⟩, 52), (⟨"ClockForTalkModel", "isStruck", "(II)Z"⟩, 52)]
theorem lw_r7 : ∀ q ∈ lw_privs_7, lw_okq q := List.forall_mem_cons.mpr ⟨lw_p96, List.forall_mem_cons.mpr ⟨lw_p97, List.forall_mem_cons.mpr ⟨lw_p98, List.forall_mem_cons.mpr ⟨lw_p99, List.forall_mem_cons.mpr ⟨lw_p100, List.forall_mem_cons.mpr ⟨lw_p101, List.forall_mem_cons.mpr ⟨lw_p102, fun _ h => absurd h List.not_mem_nil⟩⟩⟩⟩⟩⟩⟩
def lw_privs : List (MethodName × Nat) := lw_privs_1 ++ (lw_privs_2 ++ (lw_privs_3 ++ (lw_privs_4 ++ (lw_privs_5 ++ (lw_privs_6 ++ (lw_privs_7))))))
def lw_tbl : List Cond := k2_sels lw_privs ++ tables_1
theorem lw_privs_ok : ∀ q ∈ lw_privs, lw_okq q := by
  show ∀ q ∈ lw_privs_1 ++ (lw_privs_2 ++ (lw_privs_3 ++ (lw_privs_4 ++ (lw_privs_5 ++ (lw_privs_6 ++ (lw_privs_7)))))), lw_okq q
  exact List.forall_mem_append.mpr ⟨lw_r1, List.forall_mem_append.mpr ⟨lw_r2, List.forall_mem_append.mpr ⟨lw_r3, List.forall_mem_append.mpr ⟨lw_r4, List.forall_mem_append.mpr ⟨lw_r5, List.forall_mem_append.mpr ⟨lw_r6, lw_r7⟩⟩⟩⟩⟩⟩
end
section
def RX0 : String := "ClockForTalk$Costs"
def TX0 : u_T := fun k => match k with
  | 0 => ("ClockForTalk$Costs", "town", "LClockForTalk$Town;", true)
  | 1 => ("ClockForTalk$Costs", "ledger", "LClockForTalk$Ledger;", true)
  | 2 => ("ClockForTalk$Costs", "law", "LClockForTalk$Rule;", true)
  | 3 => ("ClockForTalk$Costs", "prices", "[I", true)
  | 4 => ("ClockForTalk$Costs", "least", "[I", true)
  | 5 => ("ClockForTalk$Costs", "chosen", "I", false)
  | 6 => ("ClockForTalk$Costs", "chosenCost", "I", false)
  | _ => ("ClockForTalk$Costs", "chosenWorth", "I", false)
def tyX0 : Nat → FieldType := fun k => match k with
  | 0 => .object "ClockForTalk$Town"
  | 1 => .object "ClockForTalk$Ledger"
  | 2 => .object "ClockForTalk$Rule"
  | 3 => .array .int
  | 4 => .array .int
  | 5 => .int
  | 6 => .int
  | _ => .int
theorem nmX0 : ∀ a, a < 8 → ∀ b, b < 8 → a ≠ b → (TX0 a).2.1 ≠ (TX0 b).2.1 := by decide +kernel
theorem tyX0_ok : ∀ k, k < 8 → parseFieldDescriptor (TX0 k).2.2.1 = some (tyX0 k) := by decide +kernel
abbrev cX0_init : ByteArray := prog_2_method_1_code
def yX0_init : MethodName := ⟨RX0, "<init>", "(LClockForTalk$Town;LClockForTalk$Ledger;LClockForTalk$Rule;)V"⟩
abbrev cX0_isHeard : ByteArray := prog_2_method_2_code
def yX0_isHeard : MethodName := ⟨RX0, "isHeard", "(II)Z"⟩
abbrev cX0_hearers : ByteArray := prog_2_method_3_code
def yX0_hearers : MethodName := ⟨RX0, "hearers", "(II)I"⟩
abbrev cX0_ofWord : ByteArray := prog_2_method_4_code
def yX0_ofWord : MethodName := ⟨RX0, "ofWord", "(IIII)I"⟩
abbrev cX0_ofThing : ByteArray := prog_2_method_5_code
def yX0_ofThing : MethodName := ⟨RX0, "ofThing", "(II)I"⟩
abbrev cX0_leastWay : ByteArray := prog_2_method_6_code
def yX0_leastWay : MethodName := ⟨RX0, "leastWay", "(I)I"⟩
abbrev cX0_cheapestWay : ByteArray := prog_2_method_7_code
def yX0_cheapestWay : MethodName := ⟨RX0, "cheapestWay", "(III)I"⟩
abbrev cX0_fill : ByteArray := prog_2_method_8_code
def yX0_fill : MethodName := ⟨RX0, "fill", "()V"⟩
abbrev cX0_leastOfAll : ByteArray := prog_2_method_9_code
def yX0_leastOfAll : MethodName := ⟨RX0, "leastOfAll", "(I)I"⟩
abbrev cX0_openThings : ByteArray := prog_2_method_10_code
def yX0_openThings : MethodName := ⟨RX0, "openThings", "()I"⟩
abbrev cX0_openThingsOf : ByteArray := prog_2_method_11_code
def yX0_openThingsOf : MethodName := ⟨RX0, "openThingsOf", "(I)I"⟩
abbrev cX0_chooseFor : ByteArray := prog_2_method_12_code
def yX0_chooseFor : MethodName := ⟨RX0, "chooseFor", "(I)V"⟩
abbrev cX0_choose : ByteArray := prog_2_method_13_code
def yX0_choose : MethodName := ⟨RX0, "choose", "(II)V"⟩
abbrev cX0_weigh : ByteArray := prog_2_method_14_code
def yX0_weigh : MethodName := ⟨RX0, "weigh", "(II)V"⟩
abbrev cX0_firstUnpayable : ByteArray := prog_2_method_15_code
def yX0_firstUnpayable : MethodName := ⟨RX0, "firstUnpayable", "()I"⟩
def RX1 : String := "ClockForTalk$Debates"
def TX1 : u_T := fun k => match k with
  | 0 => ("ClockForTalk$Debates", "most", "[I", true)
  | _ => ("ClockForTalk$Debates", "filled", "I", false)
def tyX1 : Nat → FieldType := fun k => match k with
  | 0 => .array .int
  | _ => .int
theorem nmX1 : ∀ a, a < 2 → ∀ b, b < 2 → a ≠ b → (TX1 a).2.1 ≠ (TX1 b).2.1 := by decide +kernel
theorem tyX1_ok : ∀ k, k < 2 → parseFieldDescriptor (TX1 k).2.2.1 = some (tyX1 k) := by decide +kernel
abbrev cX1_init : ByteArray := prog_3_method_1_code
def yX1_init : MethodName := ⟨RX1, "<init>", "()V"⟩
abbrev cX1_fewestToWin : ByteArray := prog_3_method_2_code
def yX1_fewestToWin : MethodName := ⟨RX1, "fewestToWin", "(III)I"⟩
abbrev cX1_cell : ByteArray := prog_3_method_3_code
def yX1_cell : MethodName := ⟨RX1, "cell", "(III)I"⟩
abbrev cX1_wins : ByteArray := prog_3_method_4_code
def yX1_wins : MethodName := ⟨RX1, "wins", "(IIII)Z"⟩
abbrev cX1_fill : ByteArray := prog_3_method_5_code
def yX1_fill : MethodName := ⟨RX1, "fill", "(I)V"⟩
abbrev cX1_mostToWin : ByteArray := prog_3_method_6_code
def yX1_mostToWin : MethodName := ⟨RX1, "mostToWin", "(III)I"⟩
def RX2 : String := "ClockForTalk$Dusk"
def TX2 : u_T := fun k => match k with
  | 0 => ("ClockForTalk$Dusk", "town", "LClockForTalk$Town;", true)
  | 1 => ("ClockForTalk$Dusk", "ledger", "LClockForTalk$Ledger;", true)
  | 2 => ("ClockForTalk$Dusk", "costs", "LClockForTalk$Costs;", true)
  | 3 => ("ClockForTalk$Dusk", "readings", "[I", true)
  | 4 => ("ClockForTalk$Dusk", "sums", "[J", true)
  | 5 => ("ClockForTalk$Dusk", "readBits", "I", false)
  | 6 => ("ClockForTalk$Dusk", "explained", "I", false)
  | 7 => ("ClockForTalk$Dusk", "leastSet", "I", false)
  | _ => ("ClockForTalk$Dusk", "inAll", "I", false)
def tyX2 : Nat → FieldType := fun k => match k with
  | 0 => .object "ClockForTalk$Town"
  | 1 => .object "ClockForTalk$Ledger"
  | 2 => .object "ClockForTalk$Costs"
  | 3 => .array .int
  | 4 => .array .long
  | 5 => .int
  | 6 => .int
  | 7 => .int
  | _ => .int
theorem nmX2 : ∀ a, a < 9 → ∀ b, b < 9 → a ≠ b → (TX2 a).2.1 ≠ (TX2 b).2.1 := by decide +kernel
theorem tyX2_ok : ∀ k, k < 9 → parseFieldDescriptor (TX2 k).2.2.1 = some (tyX2 k) := by decide +kernel
abbrev cX2_init : ByteArray := prog_4_method_1_code
def yX2_init : MethodName := ⟨RX2, "<init>", "(LClockForTalk$Town;LClockForTalk$Ledger;LClockForTalk$Costs;)V"⟩
abbrev cX2_note : ByteArray := prog_4_method_2_code
def yX2_note : MethodName := ⟨RX2, "note", "(II)V"⟩
abbrev cX2_explain : ByteArray := prog_4_method_3_code
def yX2_explain : MethodName := ⟨RX2, "explain", "(I)V"⟩
abbrev cX2_countSet : ByteArray := prog_4_method_4_code
def yX2_countSet : MethodName := ⟨RX2, "countSet", "(I)V"⟩
abbrev cX2_wordsFor : ByteArray := prog_4_method_5_code
def yX2_wordsFor : MethodName := ⟨RX2, "wordsFor", "(I)I"⟩
abbrev cX2_hasSum : ByteArray := prog_4_method_6_code
def yX2_hasSum : MethodName := ⟨RX2, "hasSum", "(II)Z"⟩
abbrev cX2_fillSums : ByteArray := prog_4_method_7_code
def yX2_fillSums : MethodName := ⟨RX2, "fillSums", "(II)V"⟩
abbrev cX2_clearSums : ByteArray := prog_4_method_8_code
def yX2_clearSums : MethodName := ⟨RX2, "clearSums", "(II)V"⟩
abbrev cX2_addSpeech : ByteArray := prog_4_method_9_code
def yX2_addSpeech : MethodName := ⟨RX2, "addSpeech", "(IIII)V"⟩
abbrev cX2_addShifted : ByteArray := prog_4_method_10_code
def yX2_addShifted : MethodName := ⟨RX2, "addShifted", "(IIII)V"⟩
abbrev cX2_differentReadings : ByteArray := prog_4_method_11_code
def yX2_differentReadings : MethodName := ⟨RX2, "differentReadings", "(I)I"⟩
abbrev cX2_countSums : ByteArray := prog_4_method_12_code
def yX2_countSums : MethodName := ⟨RX2, "countSums", "(II)I"⟩
def RX3 : String := "ClockForTalk$History"
def TX3 : u_T := fun k => match k with
  | 0 => ("ClockForTalk$History", "ring", "[LClockForTalk$Ledger;", true)
  | 1 => ("ClockForTalk$History", "kept", "[LClockForTalk$Ledger;", true)
  | 2 => ("ClockForTalk$History", "ahead", "LClockForTalk$Ledger;", true)
  | 3 => ("ClockForTalk$History", "keptBits", "I", false)
  | 4 => ("ClockForTalk$History", "held", "I", false)
  | _ => ("ClockForTalk$History", "next", "I", false)
def tyX3 : Nat → FieldType := fun k => match k with
  | 0 => .array (.object "ClockForTalk$Ledger")
  | 1 => .array (.object "ClockForTalk$Ledger")
  | 2 => .object "ClockForTalk$Ledger"
  | 3 => .int
  | 4 => .int
  | _ => .int
theorem nmX3 : ∀ a, a < 6 → ∀ b, b < 6 → a ≠ b → (TX3 a).2.1 ≠ (TX3 b).2.1 := by decide +kernel
theorem tyX3_ok : ∀ k, k < 6 → parseFieldDescriptor (TX3 k).2.2.1 = some (tyX3 k) := by decide +kernel
abbrev cX3_init : ByteArray := prog_5_method_1_code
def yX3_init : MethodName := ⟨RX3, "<init>", "()V"⟩
abbrev cX3_clearAll : ByteArray := prog_5_method_2_code
def yX3_clearAll : MethodName := ⟨RX3, "clearAll", "()V"⟩
abbrev cX3_note : ByteArray := prog_5_method_3_code
def yX3_note : MethodName := ⟨RX3, "note", "(LClockForTalk$Ledger;)V"⟩
abbrev cX3_recall : ByteArray := prog_5_method_4_code
def yX3_recall : MethodName := ⟨RX3, "recall", "(LClockForTalk$Ledger;)V"⟩
abbrev cX3_hold : ByteArray := prog_5_method_5_code
def yX3_hold : MethodName := ⟨RX3, "hold", "()V"⟩
abbrev cX3_stepBack : ByteArray := prog_5_method_6_code
def yX3_stepBack : MethodName := ⟨RX3, "stepBack", "(LClockForTalk$Ledger;)Z"⟩
abbrev cX3_keepUnder : ByteArray := prog_5_method_7_code
def yX3_keepUnder : MethodName := ⟨RX3, "keepUnder", "(ILClockForTalk$Ledger;)Z"⟩
abbrev cX3_bringBack : ByteArray := prog_5_method_8_code
def yX3_bringBack : MethodName := ⟨RX3, "bringBack", "(ILClockForTalk$Ledger;)Z"⟩
def RX4 : String := "ClockForTalk$Ledger"
def TX4 : u_T := fun k => match k with
  | 0 => ("ClockForTalk$Ledger", "day", "I", false)
  | 1 => ("ClockForTalk$Ledger", "said", "I", false)
  | 2 => ("ClockForTalk$Ledger", "loans", "I", false)
  | 3 => ("ClockForTalk$Ledger", "ended", "I", false)
  | 4 => ("ClockForTalk$Ledger", "clocks", "[I", true)
  | 5 => ("ClockForTalk$Ledger", "spent", "[I", true)
  | 6 => ("ClockForTalk$Ledger", "losses", "[J", true)
  | 7 => ("ClockForTalk$Ledger", "lenders", "[I", true)
  | 8 => ("ClockForTalk$Ledger", "debtors", "[I", true)
  | 9 => ("ClockForTalk$Ledger", "due", "[I", true)
  | _ => ("ClockForTalk$Ledger", "owed", "[J", true)
def tyX4 : Nat → FieldType := fun k => match k with
  | 0 => .int
  | 1 => .int
  | 2 => .int
  | 3 => .int
  | 4 => .array .int
  | 5 => .array .int
  | 6 => .array .long
  | 7 => .array .int
  | 8 => .array .int
  | 9 => .array .int
  | _ => .array .long
theorem nmX4 : ∀ a, a < 11 → ∀ b, b < 11 → a ≠ b → (TX4 a).2.1 ≠ (TX4 b).2.1 := by decide +kernel
theorem tyX4_ok : ∀ k, k < 11 → parseFieldDescriptor (TX4 k).2.2.1 = some (tyX4 k) := by decide +kernel
abbrev cX4_init : ByteArray := prog_6_method_1_code
def yX4_init : MethodName := ⟨RX4, "<init>", "()V"⟩
abbrev cX4_copyFrom : ByteArray := prog_6_method_2_code
def yX4_copyFrom : MethodName := ⟨RX4, "copyFrom", "(LClockForTalk$Ledger;)V"⟩
abbrev cX4_welcome : ByteArray := prog_6_method_3_code
def yX4_welcome : MethodName := ⟨RX4, "welcome", "(LClockForTalk$Town;I)V"⟩
abbrev cX4_allClocks : ByteArray := prog_6_method_4_code
def yX4_allClocks : MethodName := ⟨RX4, "allClocks", "(I)I"⟩
abbrev cX4_isLate : ByteArray := prog_6_method_5_code
def yX4_isLate : MethodName := ⟨RX4, "isLate", "(LClockForTalk$Town;I)Z"⟩
abbrev cX4_spend : ByteArray := prog_6_method_6_code
def yX4_spend : MethodName := ⟨RX4, "spend", "(II)V"⟩
abbrev cX4_carry : ByteArray := prog_6_method_7_code
def yX4_carry : MethodName := ⟨RX4, "carry", "(III)V"⟩
abbrev cX4_write : ByteArray := prog_6_method_8_code
def yX4_write : MethodName := ⟨RX4, "write", "(IIII)I"⟩
abbrev cX4_isOpen : ByteArray := prog_6_method_9_code
def yX4_isOpen : MethodName := ⟨RX4, "isOpen", "(I)Z"⟩
abbrev cX4_owedBy : ByteArray := prog_6_method_10_code
def yX4_owedBy : MethodName := ⟨RX4, "owedBy", "(I)J"⟩
abbrev cX4_owedByAll : ByteArray := prog_6_method_11_code
def yX4_owedByAll : MethodName := ⟨RX4, "owedByAll", "(I)J"⟩
abbrev cX4_owedTo : ByteArray := prog_6_method_12_code
def yX4_owedTo : MethodName := ⟨RX4, "owedTo", "(I)J"⟩
abbrev cX4_owedToBut : ByteArray := prog_6_method_13_code
def yX4_owedToBut : MethodName := ⟨RX4, "owedToBut", "(II)J"⟩
abbrev cX4_endedLoans : ByteArray := prog_6_method_14_code
def yX4_endedLoans : MethodName := ⟨RX4, "endedLoans", "()I"⟩
abbrev cX4_allLosses : ByteArray := prog_6_method_15_code
def yX4_allLosses : MethodName := ⟨RX4, "allLosses", "()J"⟩
abbrev cX4_passDay : ByteArray := prog_6_method_16_code
def yX4_passDay : MethodName := ⟨RX4, "passDay", "(LClockForTalk$Town;)V"⟩
abbrev cX4_addTenths : ByteArray := prog_6_method_17_code
def yX4_addTenths : MethodName := ⟨RX4, "addTenths", "()V"⟩
abbrev cX4_settle : ByteArray := prog_6_method_18_code
def yX4_settle : MethodName := ⟨RX4, "settle", "(I)V"⟩
abbrev cX4_beginYear : ByteArray := prog_6_method_19_code
def yX4_beginYear : MethodName := ⟨RX4, "beginYear", "(LClockForTalk$Town;)V"⟩
abbrev cX4_struckWith : ByteArray := prog_6_method_20_code
def yX4_struckWith : MethodName := ⟨RX4, "struckWith", "(II)I"⟩
abbrev cX4_isStruckBy : ByteArray := prog_6_method_21_code
def yX4_isStruckBy : MethodName := ⟨RX4, "isStruckBy", "(II)Z"⟩
def RX5 : String := "ClockForTalk$Row"
def TX5 : u_T := fun k => match k with
  | 0 => ("ClockForTalk$Row", "numbers", "[I", true)
  | _ => ("ClockForTalk$Row", "length", "I", false)
def tyX5 : Nat → FieldType := fun k => match k with
  | 0 => .array .int
  | _ => .int
theorem nmX5 : ∀ a, a < 2 → ∀ b, b < 2 → a ≠ b → (TX5 a).2.1 ≠ (TX5 b).2.1 := by decide +kernel
theorem tyX5_ok : ∀ k, k < 2 → parseFieldDescriptor (TX5 k).2.2.1 = some (tyX5 k) := by decide +kernel
abbrev cX5_init : ByteArray := prog_7_method_1_code
def yX5_init : MethodName := ⟨RX5, "<init>", "()V"⟩
abbrev cX5_tell : ByteArray := prog_7_method_2_code
def yX5_tell : MethodName := ⟨RX5, "tell", "(I)V"⟩
abbrev cX5_tellTwo : ByteArray := prog_7_method_3_code
def yX5_tellTwo : MethodName := ⟨RX5, "tellTwo", "(II)V"⟩
abbrev cX5_tellAll : ByteArray := prog_7_method_4_code
def yX5_tellAll : MethodName := ⟨RX5, "tellAll", "([III)V"⟩
def RX6 : String := "ClockForTalk$Rule"
def TX6 : u_T := fun k => match k with
  | 0 => ("ClockForTalk$Rule", "steps", "[I", true)
  | 1 => ("ClockForTalk$Rule", "stack", "[I", true)
  | 2 => ("ClockForTalk$Rule", "given", "[I", true)
  | _ => ("ClockForTalk$Rule", "length", "I", false)
def tyX6 : Nat → FieldType := fun k => match k with
  | 0 => .array .int
  | 1 => .array .int
  | 2 => .array .int
  | _ => .int
theorem nmX6 : ∀ a, a < 4 → ∀ b, b < 4 → a ≠ b → (TX6 a).2.1 ≠ (TX6 b).2.1 := by decide +kernel
theorem tyX6_ok : ∀ k, k < 4 → parseFieldDescriptor (TX6 k).2.2.1 = some (tyX6 k) := by decide +kernel
abbrev cX6_init : ByteArray := prog_8_method_1_code
def yX6_init : MethodName := ⟨RX6, "<init>", "()V"⟩
abbrev cX6_copyFrom : ByteArray := prog_8_method_2_code
def yX6_copyFrom : MethodName := ⟨RX6, "copyFrom", "(LClockForTalk$Rule;)V"⟩
abbrev cX6_readAll : ByteArray := prog_8_method_3_code
def yX6_readAll : MethodName := ⟨RX6, "readAll", "(LClockForTalk$Text;)Z"⟩
abbrev cX6_add : ByteArray := prog_8_method_4_code
def yX6_add : MethodName := ⟨RX6, "add", "(I)Z"⟩
abbrev cX6_readExpression : ByteArray := prog_8_method_5_code
def yX6_readExpression : MethodName := ⟨RX6, "readExpression", "(LClockForTalk$Text;I)Z"⟩
abbrev cX6_addSign : ByteArray := prog_8_method_6_code
def yX6_addSign : MethodName := ⟨RX6, "addSign", "(Ljava/lang/String;I)Z"⟩
abbrev cX6_readSum : ByteArray := prog_8_method_7_code
def yX6_readSum : MethodName := ⟨RX6, "readSum", "(LClockForTalk$Text;I)Z"⟩
abbrev cX6_readProduct : ByteArray := prog_8_method_8_code
def yX6_readProduct : MethodName := ⟨RX6, "readProduct", "(LClockForTalk$Text;I)Z"⟩
abbrev cX6_readFactor : ByteArray := prog_8_method_9_code
def yX6_readFactor : MethodName := ⟨RX6, "readFactor", "(LClockForTalk$Text;I)Z"⟩
abbrev cX6_readAtom : ByteArray := prog_8_method_10_code
def yX6_readAtom : MethodName := ⟨RX6, "readAtom", "(LClockForTalk$Text;I)Z"⟩
abbrev cX6_evaluate : ByteArray := prog_8_method_11_code
def yX6_evaluate : MethodName := ⟨RX6, "evaluate", "()I"⟩
abbrev cX6_usual : ByteArray := prog_8_method_12_code
def yX6_usual : MethodName := ⟨RX6, "usual", "(II)I"⟩
abbrev cX6_reckon : ByteArray := prog_8_method_13_code
def yX6_reckon : MethodName := ⟨RX6, "reckon", "(III)I"⟩
def RX7 : String := "ClockForTalk$Text"
def TX7 : u_T := fun k => match k with
  | 0 => ("ClockForTalk$Text", "signs", "[I", true)
  | 1 => ("ClockForTalk$Text", "length", "I", false)
  | _ => ("ClockForTalk$Text", "place", "I", false)
def tyX7 : Nat → FieldType := fun k => match k with
  | 0 => .array .int
  | 1 => .int
  | _ => .int
theorem nmX7 : ∀ a, a < 3 → ∀ b, b < 3 → a ≠ b → (TX7 a).2.1 ≠ (TX7 b).2.1 := by decide +kernel
theorem tyX7_ok : ∀ k, k < 3 → parseFieldDescriptor (TX7 k).2.2.1 = some (tyX7 k) := by decide +kernel
abbrev cX7_init : ByteArray := prog_9_method_1_code
def yX7_init : MethodName := ⟨RX7, "<init>", "()V"⟩
abbrev cX7_addFour : ByteArray := prog_9_method_2_code
def yX7_addFour : MethodName := ⟨RX7, "addFour", "(I)Z"⟩
abbrev cX7_cutTo : ByteArray := prog_9_method_3_code
def yX7_cutTo : MethodName := ⟨RX7, "cutTo", "(I)Z"⟩
abbrev cX7_atEnd : ByteArray := prog_9_method_4_code
def yX7_atEnd : MethodName := ⟨RX7, "atEnd", "()Z"⟩
abbrev cX7_skip : ByteArray := prog_9_method_5_code
def yX7_skip : MethodName := ⟨RX7, "skip", "(I)Z"⟩
abbrev cX7_takeOneOf : ByteArray := prog_9_method_6_code
def yX7_takeOneOf : MethodName := ⟨RX7, "takeOneOf", "(II)I"⟩
abbrev cX7_takeAnyOf : ByteArray := prog_9_method_7_code
def yX7_takeAnyOf : MethodName := ⟨RX7, "takeAnyOf", "(Ljava/lang/String;)I"⟩
abbrev cX7_takeNumber : ByteArray := prog_9_method_8_code
def yX7_takeNumber : MethodName := ⟨RX7, "takeNumber", "(I)I"⟩
abbrev cX7_verdict : ByteArray := prog_9_method_9_code
def yX7_verdict : MethodName := ⟨RX7, "verdict", "(II)I"⟩
def RX8 : String := "ClockForTalk$Town"
def TX8 : u_T := fun k => match k with
  | 0 => ("ClockForTalk$Town", "persons", "I", false)
  | 1 => ("ClockForTalk$Town", "wishes", "I", false)
  | 2 => ("ClockForTalk$Town", "steps", "[I", true)
  | 3 => ("ClockForTalk$Town", "yearly", "[I", true)
  | 4 => ("ClockForTalk$Town", "who", "[I", true)
  | 5 => ("ClockForTalk$Town", "whom", "[I", true)
  | 6 => ("ClockForTalk$Town", "seconds", "[I", true)
  | 7 => ("ClockForTalk$Town", "by", "[I", true)
  | _ => ("ClockForTalk$Town", "worth", "[I", true)
def tyX8 : Nat → FieldType := fun k => match k with
  | 0 => .int
  | 1 => .int
  | 2 => .array .int
  | 3 => .array .int
  | 4 => .array .int
  | 5 => .array .int
  | 6 => .array .int
  | 7 => .array .int
  | _ => .array .int
theorem nmX8 : ∀ a, a < 9 → ∀ b, b < 9 → a ≠ b → (TX8 a).2.1 ≠ (TX8 b).2.1 := by decide +kernel
theorem tyX8_ok : ∀ k, k < 9 → parseFieldDescriptor (TX8 k).2.2.1 = some (tyX8 k) := by decide +kernel
abbrev cX8_init : ByteArray := prog_10_method_1_code
def yX8_init : MethodName := ⟨RX8, "<init>", "()V"⟩
abbrev cX8_hasPerson : ByteArray := prog_10_method_2_code
def yX8_hasPerson : MethodName := ⟨RX8, "hasPerson", "(I)Z"⟩
abbrev cX8_hasThing : ByteArray := prog_10_method_3_code
def yX8_hasThing : MethodName := ⟨RX8, "hasThing", "(I)Z"⟩
abbrev cX8_areTwo : ByteArray := prog_10_method_4_code
def yX8_areTwo : MethodName := ⟨RX8, "areTwo", "(II)Z"⟩
abbrev cX8_apart : ByteArray := prog_10_method_5_code
def yX8_apart : MethodName := ⟨RX8, "apart", "(II)I"⟩
abbrev cX8_apartFor : ByteArray := prog_10_method_6_code
def yX8_apartFor : MethodName := ⟨RX8, "apartFor", "(I)I"⟩
abbrev cX8_thingsOf : ByteArray := prog_10_method_7_code
def yX8_thingsOf : MethodName := ⟨RX8, "thingsOf", "(I)I"⟩
abbrev cX8_readPerson : ByteArray := prog_10_method_8_code
def yX8_readPerson : MethodName := ⟨RX8, "readPerson", "(LClockForTalk$Text;I)Z"⟩
abbrev cX8_readTwo : ByteArray := prog_10_method_9_code
def yX8_readTwo : MethodName := ⟨RX8, "readTwo", "(LClockForTalk$Text;I)Z"⟩
abbrev cX8_readSeconds : ByteArray := prog_10_method_10_code
def yX8_readSeconds : MethodName := ⟨RX8, "readSeconds", "(LClockForTalk$Text;I)Z"⟩
abbrev cX8_readDayAndWorth : ByteArray := prog_10_method_11_code
def yX8_readDayAndWorth : MethodName := ⟨RX8, "readDayAndWorth", "(LClockForTalk$Text;I)Z"⟩
def RX9 : String := "ClockForTalk$WordOfMouth"
def TX9 : u_T := fun k => match k with
  | 0 => ("ClockForTalk$WordOfMouth", "town", "LClockForTalk$Town;", true)
  | 1 => ("ClockForTalk$WordOfMouth", "ledger", "LClockForTalk$Ledger;", true)
  | 2 => ("ClockForTalk$WordOfMouth", "costs", "LClockForTalk$Costs;", true)
  | 3 => ("ClockForTalk$WordOfMouth", "links", "[I", true)
  | 4 => ("ClockForTalk$WordOfMouth", "hears", "[I", true)
  | 5 => ("ClockForTalk$WordOfMouth", "path", "[I", true)
  | 6 => ("ClockForTalk$WordOfMouth", "bestPath", "[I", true)
  | 7 => ("ClockForTalk$WordOfMouth", "bestLength", "I", false)
  | _ => ("ClockForTalk$WordOfMouth", "bestCost", "I", false)
def tyX9 : Nat → FieldType := fun k => match k with
  | 0 => .object "ClockForTalk$Town"
  | 1 => .object "ClockForTalk$Ledger"
  | 2 => .object "ClockForTalk$Costs"
  | 3 => .array .int
  | 4 => .array .int
  | 5 => .array .int
  | 6 => .array .int
  | 7 => .int
  | _ => .int
theorem nmX9 : ∀ a, a < 9 → ∀ b, b < 9 → a ≠ b → (TX9 a).2.1 ≠ (TX9 b).2.1 := by decide +kernel
theorem tyX9_ok : ∀ k, k < 9 → parseFieldDescriptor (TX9 k).2.2.1 = some (tyX9 k) := by decide +kernel
abbrev cX9_init : ByteArray := prog_11_method_1_code
def yX9_init : MethodName := ⟨RX9, "<init>", "(LClockForTalk$Town;LClockForTalk$Ledger;LClockForTalk$Costs;)V"⟩
abbrev cX9_findChain : ByteArray := prog_11_method_2_code
def yX9_findChain : MethodName := ⟨RX9, "findChain", "(III)V"⟩
abbrev cX9_linkCost : ByteArray := prog_11_method_3_code
def yX9_linkCost : MethodName := ⟨RX9, "linkCost", "(III)I"⟩
abbrev cX9_walk : ByteArray := prog_11_method_4_code
def yX9_walk : MethodName := ⟨RX9, "walk", "(IIII)V"⟩
abbrev cX9_fewestCriers : ByteArray := prog_11_method_5_code
def yX9_fewestCriers : MethodName := ⟨RX9, "fewestCriers", "(III)I"⟩
abbrev cX9_widestHearers : ByteArray := prog_11_method_6_code
def yX9_widestHearers : MethodName := ⟨RX9, "widestHearers", "(II)I"⟩
abbrev cX9_knowers : ByteArray := prog_11_method_7_code
def yX9_knowers : MethodName := ⟨RX9, "knowers", "(II)I"⟩
def RX10 : String := "ClockForTalk$Wordings"
def TX10 : u_T := fun k => match k with
  | 0 => ("ClockForTalk$Wordings", "grammar", "[I", true)
  | 1 => ("ClockForTalk$Wordings", "draft", "[I", true)
  | 2 => ("ClockForTalk$Wordings", "letters", "[I", true)
  | 3 => ("ClockForTalk$Wordings", "masks", "[I", true)
  | 4 => ("ClockForTalk$Wordings", "fewest", "[I", true)
  | 5 => ("ClockForTalk$Wordings", "rows", "[I", true)
  | 6 => ("ClockForTalk$Wordings", "trial", "[I", true)
  | _ => ("ClockForTalk$Wordings", "lines", "I", false)
def tyX10 : Nat → FieldType := fun k => match k with
  | 0 => .array .int
  | 1 => .array .int
  | 2 => .array .int
  | 3 => .array .int
  | 4 => .array .int
  | 5 => .array .int
  | 6 => .array .int
  | _ => .int
theorem nmX10 : ∀ a, a < 8 → ∀ b, b < 8 → a ≠ b → (TX10 a).2.1 ≠ (TX10 b).2.1 := by decide +kernel
theorem tyX10_ok : ∀ k, k < 8 → parseFieldDescriptor (TX10 k).2.2.1 = some (tyX10 k) := by decide +kernel
abbrev cX10_init : ByteArray := prog_12_method_1_code
def yX10_init : MethodName := ⟨RX10, "<init>", "()V"⟩
abbrev cX10_readLine : ByteArray := prog_12_method_2_code
def yX10_readLine : MethodName := ⟨RX10, "readLine", "(LClockForTalk$Text;I)Z"⟩
abbrev cX10_adopt : ByteArray := prog_12_method_3_code
def yX10_adopt : MethodName := ⟨RX10, "adopt", "(I)V"⟩
abbrev cX10_readWording : ByteArray := prog_12_method_4_code
def yX10_readWording : MethodName := ⟨RX10, "readWording", "(LClockForTalk$Text;)I"⟩
abbrev cX10_mask : ByteArray := prog_12_method_5_code
def yX10_mask : MethodName := ⟨RX10, "mask", "(II)I"⟩
abbrev cX10_fillMasks : ByteArray := prog_12_method_6_code
def yX10_fillMasks : MethodName := ⟨RX10, "fillMasks", "(I)V"⟩
abbrev cX10_joined : ByteArray := prog_12_method_7_code
def yX10_joined : MethodName := ⟨RX10, "joined", "(II)I"⟩
abbrev cX10_shorten : ByteArray := prog_12_method_8_code
def yX10_shorten : MethodName := ⟨RX10, "shorten", "(I)I"⟩
abbrev cX10_tryFirst : ByteArray := prog_12_method_9_code
def yX10_tryFirst : MethodName := ⟨RX10, "tryFirst", "(II)V"⟩
abbrev cX10_isTrialLess : ByteArray := prog_12_method_10_code
def yX10_isTrialLess : MethodName := ⟨RX10, "isTrialLess", "(II)Z"⟩
def RX11 : String := "ClockForTalk"
def TX11 : u_T := fun k => match k with
  | 0 => ("ClockForTalk", "text", "LClockForTalk$Text;", true)
  | 1 => ("ClockForTalk", "told", "LClockForTalk$Row;", true)
  | 2 => ("ClockForTalk", "town", "LClockForTalk$Town;", true)
  | 3 => ("ClockForTalk", "ledger", "LClockForTalk$Ledger;", true)
  | 4 => ("ClockForTalk", "past", "LClockForTalk$History;", true)
  | 5 => ("ClockForTalk", "law", "LClockForTalk$Rule;", true)
  | 6 => ("ClockForTalk", "otherLaw", "LClockForTalk$Rule;", true)
  | 7 => ("ClockForTalk", "costs", "LClockForTalk$Costs;", true)
  | 8 => ("ClockForTalk", "otherCosts", "LClockForTalk$Costs;", true)
  | 9 => ("ClockForTalk", "mouths", "LClockForTalk$WordOfMouth;", true)
  | 10 => ("ClockForTalk", "debates", "LClockForTalk$Debates;", true)
  | 11 => ("ClockForTalk", "wordings", "LClockForTalk$Wordings;", true)
  | 12 => ("ClockForTalk", "dusk", "LClockForTalk$Dusk;", true)
  | _ => ("ClockForTalk", "acts", "[I", true)
def tyX11 : Nat → FieldType := fun k => match k with
  | 0 => .object "ClockForTalk$Text"
  | 1 => .object "ClockForTalk$Row"
  | 2 => .object "ClockForTalk$Town"
  | 3 => .object "ClockForTalk$Ledger"
  | 4 => .object "ClockForTalk$History"
  | 5 => .object "ClockForTalk$Rule"
  | 6 => .object "ClockForTalk$Rule"
  | 7 => .object "ClockForTalk$Costs"
  | 8 => .object "ClockForTalk$Costs"
  | 9 => .object "ClockForTalk$WordOfMouth"
  | 10 => .object "ClockForTalk$Debates"
  | 11 => .object "ClockForTalk$Wordings"
  | 12 => .object "ClockForTalk$Dusk"
  | _ => .array .int
theorem nmX11 : ∀ a, a < 14 → ∀ b, b < 14 → a ≠ b → (TX11 a).2.1 ≠ (TX11 b).2.1 := by decide +kernel
theorem tyX11_ok : ∀ k, k < 14 → parseFieldDescriptor (TX11 k).2.2.1 = some (tyX11 k) := by decide +kernel
abbrev cX11_init : ByteArray := prog_1_method_1_code
def yX11_init : MethodName := ⟨RX11, "<init>", "()V"⟩
abbrev cX11_sign : ByteArray := prog_1_method_2_code
def yX11_sign : MethodName := ⟨RX11, "sign", "(I)I"⟩
abbrev cX11_end : ByteArray := prog_1_method_3_code
def yX11_end : MethodName := ⟨RX11, "end", "(I)Z"⟩
abbrev cX11_people : ByteArray := prog_1_method_4_code
def yX11_people : MethodName := ⟨RX11, "people", "()I"⟩
abbrev cX11_things : ByteArray := prog_1_method_5_code
def yX11_things : MethodName := ⟨RX11, "things", "()I"⟩
abbrev cX11_rule : ByteArray := prog_1_method_6_code
def yX11_rule : MethodName := ⟨RX11, "rule", "()I"⟩
abbrev cX11_person : ByteArray := prog_1_method_7_code
def yX11_person : MethodName := ⟨RX11, "person", "(II)I"⟩
abbrev cX11_thing : ByteArray := prog_1_method_8_code
def yX11_thing : MethodName := ⟨RX11, "thing", "(II)I"⟩
abbrev cX11_loan : ByteArray := prog_1_method_9_code
def yX11_loan : MethodName := ⟨RX11, "loan", "(II)I"⟩
abbrev cX11_move : ByteArray := prog_1_method_10_code
def yX11_move : MethodName := ⟨RX11, "move", "(II)I"⟩
abbrev cX11_sheet : ByteArray := prog_1_method_11_code
def yX11_sheet : MethodName := ⟨RX11, "sheet", "(IIII)I"⟩
abbrev cX11_cost : ByteArray := prog_1_method_12_code
def yX11_cost : MethodName := ⟨RX11, "cost", "(II)I"⟩
abbrev cX11_say : ByteArray := prog_1_method_13_code
def yX11_say : MethodName := ⟨RX11, "say", "(II)I"⟩
abbrev cX11_give : ByteArray := prog_1_method_14_code
def yX11_give : MethodName := ⟨RX11, "give", "(III)I"⟩
abbrev cX11_lend : ByteArray := prog_1_method_15_code
def yX11_lend : MethodName := ⟨RX11, "lend", "(IIII)I"⟩
abbrev cX11_days : ByteArray := prog_1_method_16_code
def yX11_days : MethodName := ⟨RX11, "days", "(I)I"⟩
abbrev cX11_talk : ByteArray := prog_1_method_17_code
def yX11_talk : MethodName := ⟨RX11, "talk", "()I"⟩
abbrev cX11_undo : ByteArray := prog_1_method_18_code
def yX11_undo : MethodName := ⟨RX11, "undo", "()I"⟩
abbrev cX11_best : ByteArray := prog_1_method_19_code
def yX11_best : MethodName := ⟨RX11, "best", "(I)I"⟩
abbrev cX11_lacks : ByteArray := prog_1_method_20_code
def yX11_lacks : MethodName := ⟨RX11, "lacks", "(I)I"⟩
abbrev cX11_pool : ByteArray := prog_1_method_21_code
def yX11_pool : MethodName := ⟨RX11, "pool", "()I"⟩
abbrev cX11_gifts : ByteArray := prog_1_method_22_code
def yX11_gifts : MethodName := ⟨RX11, "gifts", "(I)I"⟩
abbrev cX11_mute : ByteArray := prog_1_method_23_code
def yX11_mute : MethodName := ⟨RX11, "mute", "()I"⟩
abbrev cX11_relay : ByteArray := prog_1_method_24_code
def yX11_relay : MethodName := ⟨RX11, "relay", "(III)I"⟩
abbrev cX11_criers : ByteArray := prog_1_method_25_code
def yX11_criers : MethodName := ⟨RX11, "criers", "(III)I"⟩
abbrev cX11_debate : ByteArray := prog_1_method_26_code
def yX11_debate : MethodName := ⟨RX11, "debate", "(III)I"⟩
abbrev cX11_enough : ByteArray := prog_1_method_27_code
def yX11_enough : MethodName := ⟨RX11, "enough", "(II)I"⟩
abbrev cX11_grammar : ByteArray := prog_1_method_28_code
def yX11_grammar : MethodName := ⟨RX11, "grammar", "()I"⟩
abbrev cX11_shorter : ByteArray := prog_1_method_29_code
def yX11_shorter : MethodName := ⟨RX11, "shorter", "()I"⟩
abbrev cX11_becomes : ByteArray := prog_1_method_30_code
def yX11_becomes : MethodName := ⟨RX11, "becomes", "()I"⟩
abbrev cX11_read : ByteArray := prog_1_method_31_code
def yX11_read : MethodName := ⟨RX11, "read", "(II)I"⟩
abbrev cX11_forget : ByteArray := prog_1_method_32_code
def yX11_forget : MethodName := ⟨RX11, "forget", "()I"⟩
abbrev cX11_spoke : ByteArray := prog_1_method_33_code
def yX11_spoke : MethodName := ⟨RX11, "spoke", "(I)I"⟩
abbrev cX11_look : ByteArray := prog_1_method_34_code
def yX11_look : MethodName := ⟨RX11, "look", "()I"⟩
abbrev cX11_rate : ByteArray := prog_1_method_35_code
def yX11_rate : MethodName := ⟨RX11, "rate", "()I"⟩
abbrev cX11_run : ByteArray := prog_1_method_36_code
def yX11_run : MethodName := ⟨RX11, "run", "(I)I"⟩
abbrev cX11_years : ByteArray := prog_1_method_37_code
def yX11_years : MethodName := ⟨RX11, "years", "(II)I"⟩
abbrev cX11_keep : ByteArray := prog_1_method_38_code
def yX11_keep : MethodName := ⟨RX11, "keep", "(I)Z"⟩
abbrev cX11_again : ByteArray := prog_1_method_39_code
def yX11_again : MethodName := ⟨RX11, "again", "(I)Z"⟩
abbrev cX11_count : ByteArray := prog_1_method_40_code
def yX11_count : MethodName := ⟨RX11, "count", "(I)I"⟩
abbrev cX11_row : ByteArray := prog_1_method_41_code
def yX11_row : MethodName := ⟨RX11, "row", "(I)I"⟩
abbrev cX11_held : ByteArray := prog_1_method_42_code
def yX11_held : MethodName := ⟨RX11, "held", "(I)I"⟩
abbrev cX11_utter : ByteArray := prog_1_method_43_code
def yX11_utter : MethodName := ⟨RX11, "utter", "(II)I"⟩
abbrev cX11_handOver : ByteArray := prog_1_method_44_code
def yX11_handOver : MethodName := ⟨RX11, "handOver", "(III)I"⟩
abbrev cX11_passDays : ByteArray := prog_1_method_45_code
def yX11_passDays : MethodName := ⟨RX11, "passDays", "(I)V"⟩
abbrev cX11_isSpeech : ByteArray := prog_1_method_46_code
def yX11_isSpeech : MethodName := ⟨RX11, "isSpeech", "(I)Z"⟩
abbrev cX11_doAct : ByteArray := prog_1_method_47_code
def yX11_doAct : MethodName := ⟨RX11, "doAct", "(I)I"⟩
abbrev cX11_bestOfAll : ByteArray := prog_1_method_48_code
def yX11_bestOfAll : MethodName := ⟨RX11, "bestOfAll", "(LClockForTalk$Costs;)I"⟩
abbrev cX11_readText : ByteArray := prog_1_method_49_code
def yX11_readText : MethodName := ⟨RX11, "readText", "(III)I"⟩
abbrev cX11_readLines : ByteArray := prog_1_method_50_code
def yX11_readLines : MethodName := ⟨RX11, "readLines", "(II)I"⟩
abbrev cX11_readLine : ByteArray := prog_1_method_51_code
def yX11_readLine : MethodName := ⟨RX11, "readLine", "(II)Z"⟩
abbrev cX11_readWish : ByteArray := prog_1_method_52_code
def yX11_readWish : MethodName := ⟨RX11, "readWish", "(I)Z"⟩
abbrev cX11_readAct : ByteArray := prog_1_method_53_code
def yX11_readAct : MethodName := ⟨RX11, "readAct", "(I)Z"⟩
abbrev cX11_readSaying : ByteArray := prog_1_method_54_code
def yX11_readSaying : MethodName := ⟨RX11, "readSaying", "(I)Z"⟩
abbrev cX11_readGift : ByteArray := prog_1_method_55_code
def yX11_readGift : MethodName := ⟨RX11, "readGift", "(I)Z"⟩
abbrev cX11_writeAct : ByteArray := prog_1_method_56_code
def yX11_writeAct : MethodName := ⟨RX11, "writeAct", "(IIIII)V"⟩
abbrev cX11_at : ByteArray := prog_1_method_57_code
def yX11_at : MethodName := ⟨RX11, "at", "([II)I"⟩
abbrev cX11_put : ByteArray := prog_1_method_58_code
def yX11_put : MethodName := ⟨RX11, "put", "([III)V"⟩
abbrev cX11_wordAt : ByteArray := prog_1_method_59_code
def yX11_wordAt : MethodName := ⟨RX11, "wordAt", "([JI)J"⟩
abbrev cX11_putWord : ByteArray := prog_1_method_60_code
def yX11_putWord : MethodName := ⟨RX11, "putWord", "([JIJ)V"⟩
abbrev cX11_within : ByteArray := prog_1_method_61_code
def yX11_within : MethodName := ⟨RX11, "within", "(III)Z"⟩
abbrev cX11_clamp : ByteArray := prog_1_method_62_code
def yX11_clamp : MethodName := ⟨RX11, "clamp", "(II)I"⟩
abbrev cX11_holds : ByteArray := prog_1_method_63_code
def yX11_holds : MethodName := ⟨RX11, "holds", "(II)Z"⟩
abbrev cX11_areBitsOf : ByteArray := prog_1_method_64_code
def yX11_areBitsOf : MethodName := ⟨RX11, "areBitsOf", "(II)Z"⟩
abbrev cX11_entryOf : ByteArray := prog_1_method_65_code
def yX11_entryOf : MethodName := ⟨RX11, "entryOf", "(II)I"⟩
def RX12 : String := "ClockForTalkModel"
def TX12 : u_T := fun k => match k with
  | 0 => ("ClockForTalkModel", "now", "[I", true)
  | 1 => ("ClockForTalkModel", "people", "I", false)
  | 2 => ("ClockForTalkModel", "step", "[I", true)
  | 3 => ("ClockForTalkModel", "yearly", "[I", true)
  | 4 => ("ClockForTalkModel", "things", "I", false)
  | 5 => ("ClockForTalkModel", "thing", "[I", true)
  | 6 => ("ClockForTalkModel", "text", "[B", true)
  | 7 => ("ClockForTalkModel", "typed", "I", false)
  | 8 => ("ClockForTalkModel", "row", "[I", true)
  | 9 => ("ClockForTalkModel", "rowMany", "I", false)
  | 10 => ("ClockForTalkModel", "thrown", "I", false)
  | 11 => ("ClockForTalkModel", "read", "[B", false)
  | 12 => ("ClockForTalkModel", "length", "I", false)
  | 13 => ("ClockForTalkModel", "top", "I", false)
  | 14 => ("ClockForTalkModel", "at", "I", false)
  | 15 => ("ClockForTalkModel", "wrong", "I", false)
  | 16 => ("ClockForTalkModel", "comes", "[I", true)
  | 17 => ("ClockForTalkModel", "rule", "[B", false)
  | 18 => ("ClockForTalkModel", "ruleSize", "I", false)
  | 19 => ("ClockForTalkModel", "otherRule", "[B", false)
  | 20 => ("ClockForTalkModel", "isAsked", "Z", false)
  | 21 => ("ClockForTalkModel", "asked", "[I", true)
  | 22 => ("ClockForTalkModel", "undos", "[I", true)
  | 23 => ("ClockForTalkModel", "undoMany", "I", false)
  | 24 => ("ClockForTalkModel", "aside", "[I", true)
  | 25 => ("ClockForTalkModel", "endedMany", "I", false)
  | 26 => ("ClockForTalkModel", "lostAll", "I", false)
  | 27 => ("ClockForTalkModel", "acts", "[I", true)
  | 28 => ("ClockForTalkModel", "costAll", "I", false)
  | 29 => ("ClockForTalkModel", "least", "[I", true)
  | 30 => ("ClockForTalkModel", "line", "[I", true)
  | 31 => ("ClockForTalkModel", "bestLine", "[I", true)
  | 32 => ("ClockForTalkModel", "bestMany", "I", false)
  | 33 => ("ClockForTalkModel", "cheapest", "I", false)
  | 34 => ("ClockForTalkModel", "wins", "[Z", true)
  | 35 => ("ClockForTalkModel", "laidFor", "I", false)
  | 36 => ("ClockForTalkModel", "lines", "[I", true)
  | 37 => ("ClockForTalkModel", "newLines", "[I", true)
  | 38 => ("ClockForTalkModel", "lineMany", "I", false)
  | 39 => ("ClockForTalkModel", "turns", "[I", true)
  | 40 => ("ClockForTalkModel", "wordMany", "I", false)
  | 41 => ("ClockForTalkModel", "fewest", "[I", true)
  | 42 => ("ClockForTalkModel", "readAt", "[I", true)
  | 43 => ("ClockForTalkModel", "readBits", "I", false)
  | 44 => ("ClockForTalkModel", "costs", "[I", true)
  | 45 => ("ClockForTalkModel", "isMarked", "[Z", true)
  | 46 => ("ClockForTalkModel", "markedMany", "I", false)
  | 47 => ("ClockForTalkModel", "then", "[I", true)
  | 48 => ("ClockForTalkModel", "came", "I", false)
  | 49 => ("ClockForTalkModel", "kept", "[I", true)
  | 50 => ("ClockForTalkModel", "isKept", "[Z", true)
  | _ => ("ClockForTalkModel", "keptCame", "[I", true)
def tyX12 : Nat → FieldType := fun k => match k with
  | 0 => .array .int
  | 1 => .int
  | 2 => .array .int
  | 3 => .array .int
  | 4 => .int
  | 5 => .array .int
  | 6 => .array .byte
  | 7 => .int
  | 8 => .array .int
  | 9 => .int
  | 10 => .int
  | 11 => .array .byte
  | 12 => .int
  | 13 => .int
  | 14 => .int
  | 15 => .int
  | 16 => .array .int
  | 17 => .array .byte
  | 18 => .int
  | 19 => .array .byte
  | 20 => .boolean
  | 21 => .array .int
  | 22 => .array .int
  | 23 => .int
  | 24 => .array .int
  | 25 => .int
  | 26 => .int
  | 27 => .array .int
  | 28 => .int
  | 29 => .array .int
  | 30 => .array .int
  | 31 => .array .int
  | 32 => .int
  | 33 => .int
  | 34 => .array .boolean
  | 35 => .int
  | 36 => .array .int
  | 37 => .array .int
  | 38 => .int
  | 39 => .array .int
  | 40 => .int
  | 41 => .array .int
  | 42 => .array .int
  | 43 => .int
  | 44 => .array .int
  | 45 => .array .boolean
  | 46 => .int
  | 47 => .array .int
  | 48 => .int
  | 49 => .array .int
  | 50 => .array .boolean
  | _ => .array .int
theorem nmX12 : ∀ a, a < 52 → ∀ b, b < 52 → a ≠ b → (TX12 a).2.1 ≠ (TX12 b).2.1 := by decide +kernel
theorem tyX12_ok : ∀ k, k < 52 → parseFieldDescriptor (TX12 k).2.2.1 = some (tyX12 k) := by decide +kernel
abbrev cX12_init : ByteArray := prog_14_method_1_code
def yX12_init : MethodName := ⟨RX12, "<init>", "()V"⟩
abbrev cX12_thrown : ByteArray := prog_14_method_2_code
def yX12_thrown : MethodName := ⟨RX12, "thrown", "()I"⟩
abbrev cX12_in : ByteArray := prog_14_method_3_code
def yX12_in : MethodName := ⟨RX12, "in", "(III)Z"⟩
abbrev cX12_has : ByteArray := prog_14_method_4_code
def yX12_has : MethodName := ⟨RX12, "has", "(II)Z"⟩
abbrev cX12_lost : ByteArray := prog_14_method_5_code
def yX12_lost : MethodName := ⟨RX12, "lost", "()I"⟩
abbrev cX12_tell : ByteArray := prog_14_method_6_code
def yX12_tell : MethodName := ⟨RX12, "tell", "(I)V"⟩
abbrev cX12_isOne : ByteArray := prog_14_method_7_code
def yX12_isOne : MethodName := ⟨RX12, "isOne", "(I)Z"⟩
abbrev cX12_areTwo : ByteArray := prog_14_method_8_code
def yX12_areTwo : MethodName := ⟨RX12, "areTwo", "(II)Z"⟩
abbrev cX12_isThing : ByteArray := prog_14_method_9_code
def yX12_isThing : MethodName := ⟨RX12, "isThing", "(I)Z"⟩
abbrev cX12_sign : ByteArray := prog_14_method_10_code
def yX12_sign : MethodName := ⟨RX12, "sign", "(I)I"⟩
abbrev cX12_end : ByteArray := prog_14_method_11_code
def yX12_end : MethodName := ⟨RX12, "end", "(I)Z"⟩
abbrev cX12_begin : ByteArray := prog_14_method_12_code
def yX12_begin : MethodName := ⟨RX12, "begin", "([BII)V"⟩
abbrev cX12_here : ByteArray := prog_14_method_13_code
def yX12_here : MethodName := ⟨RX12, "here", "()I"⟩
abbrev cX12_fine : ByteArray := prog_14_method_14_code
def yX12_fine : MethodName := ⟨RX12, "fine", "()Z"⟩
abbrev cX12_fault : ByteArray := prog_14_method_15_code
def yX12_fault : MethodName := ⟨RX12, "fault", "(I)V"⟩
abbrev cX12_passes : ByteArray := prog_14_method_16_code
def yX12_passes : MethodName := ⟨RX12, "passes", "(C)Z"⟩
abbrev cX12_need : ByteArray := prog_14_method_17_code
def yX12_need : MethodName := ⟨RX12, "need", "(C)V"⟩
abbrev cX12_oneOf : ByteArray := prog_14_method_18_code
def yX12_oneOf : MethodName := ⟨RX12, "oneOf", "(CII)I"⟩
abbrev cX12_number : ByteArray := prog_14_method_19_code
def yX12_number : MethodName := ⟨RX12, "number", "(I)I"⟩
abbrev cX12_people : ByteArray := prog_14_method_20_code
def yX12_people : MethodName := ⟨RX12, "people", "()I"⟩
abbrev cX12_readThing : ByteArray := prog_14_method_21_code
def yX12_readThing : MethodName := ⟨RX12, "readThing", "(I)V"⟩
abbrev cX12_things : ByteArray := prog_14_method_22_code
def yX12_things : MethodName := ⟨RX12, "things", "()I"⟩
abbrev cX12_held : ByteArray := prog_14_method_23_code
def yX12_held : MethodName := ⟨RX12, "held", "(I)I"⟩
abbrev cX12_sum : ByteArray := prog_14_method_24_code
def yX12_sum : MethodName := ⟨RX12, "sum", "(I)I"⟩
abbrev cX12_product : ByteArray := prog_14_method_25_code
def yX12_product : MethodName := ⟨RX12, "product", "(I)I"⟩
abbrev cX12_letterOf : ByteArray := prog_14_method_26_code
def yX12_letterOf : MethodName := ⟨RX12, "letterOf", "(I)I"⟩
abbrev cX12_part : ByteArray := prog_14_method_27_code
def yX12_part : MethodName := ⟨RX12, "part", "(I)I"⟩
abbrev cX12_readRule : ByteArray := prog_14_method_28_code
def yX12_readRule : MethodName := ⟨RX12, "readRule", "()Z"⟩
abbrev cX12_rule : ByteArray := prog_14_method_29_code
def yX12_rule : MethodName := ⟨RX12, "rule", "()I"⟩
abbrev cX12_costBy : ByteArray := prog_14_method_30_code
def yX12_costBy : MethodName := ⟨RX12, "costBy", "(IIIIII)I"⟩
abbrev cX12_carries : ByteArray := prog_14_method_31_code
def yX12_carries : MethodName := ⟨RX12, "carries", "(I)I"⟩
abbrev cX12_apart : ByteArray := prog_14_method_32_code
def yX12_apart : MethodName := ⟨RX12, "apart", "(II)I"⟩
abbrev cX12_hears : ByteArray := prog_14_method_33_code
def yX12_hears : MethodName := ⟨RX12, "hears", "(II)I"⟩
abbrev cX12_field : ByteArray := prog_14_method_34_code
def yX12_field : MethodName := ⟨RX12, "field", "(II)I"⟩
abbrev cX12_isHeard : ByteArray := prog_14_method_35_code
def yX12_isHeard : MethodName := ⟨RX12, "isHeard", "(II)Z"⟩
abbrev cX12_costOf : ByteArray := prog_14_method_36_code
def yX12_costOf : MethodName := ⟨RX12, "costOf", "([IIIII)I"⟩
abbrev cX12_costOfThing : ByteArray := prog_14_method_37_code
def yX12_costOfThing : MethodName := ⟨RX12, "costOfThing", "([III)I"⟩
abbrev cX12_bestWay : ByteArray := prog_14_method_38_code
def yX12_bestWay : MethodName := ⟨RX12, "bestWay", "([IIII)I"⟩
abbrev cX12_bestWayOf : ByteArray := prog_14_method_39_code
def yX12_bestWayOf : MethodName := ⟨RX12, "bestWayOf", "([II)I"⟩
abbrev cX12_leastOf : ByteArray := prog_14_method_40_code
def yX12_leastOf : MethodName := ⟨RX12, "leastOf", "([II)I"⟩
abbrev cX12_isLate : ByteArray := prog_14_method_41_code
def yX12_isLate : MethodName := ⟨RX12, "isLate", "([II)Z"⟩
abbrev cX12_today : ByteArray := prog_14_method_42_code
def yX12_today : MethodName := ⟨RX12, "today", "()I"⟩
abbrev cX12_owedBy : ByteArray := prog_14_method_43_code
def yX12_owedBy : MethodName := ⟨RX12, "owedBy", "(II)I"⟩
abbrev cX12_person : ByteArray := prog_14_method_44_code
def yX12_person : MethodName := ⟨RX12, "person", "(II)I"⟩
abbrev cX12_thing : ByteArray := prog_14_method_45_code
def yX12_thing : MethodName := ⟨RX12, "thing", "(II)I"⟩
abbrev cX12_loan : ByteArray := prog_14_method_46_code
def yX12_loan : MethodName := ⟨RX12, "loan", "(II)I"⟩
abbrev cX12_move : ByteArray := prog_14_method_47_code
def yX12_move : MethodName := ⟨RX12, "move", "(II)I"⟩
abbrev cX12_sheet : ByteArray := prog_14_method_48_code
def yX12_sheet : MethodName := ⟨RX12, "sheet", "(IIII)I"⟩
abbrev cX12_lay : ByteArray := prog_14_method_49_code
def yX12_lay : MethodName := ⟨RX12, "lay", "([I[II)V"⟩
abbrev cX12_remember : ByteArray := prog_14_method_50_code
def yX12_remember : MethodName := ⟨RX12, "remember", "([I)V"⟩
abbrev cX12_cost : ByteArray := prog_14_method_51_code
def yX12_cost : MethodName := ⟨RX12, "cost", "(II)I"⟩
abbrev cX12_refusesSay : ByteArray := prog_14_method_52_code
def yX12_refusesSay : MethodName := ⟨RX12, "refusesSay", "([III)I"⟩
abbrev cX12_goSay : ByteArray := prog_14_method_53_code
def yX12_goSay : MethodName := ⟨RX12, "goSay", "([III)I"⟩
abbrev cX12_say : ByteArray := prog_14_method_54_code
def yX12_say : MethodName := ⟨RX12, "say", "(II)I"⟩
abbrev cX12_refusesGive : ByteArray := prog_14_method_55_code
def yX12_refusesGive : MethodName := ⟨RX12, "refusesGive", "(III)I"⟩
abbrev cX12_goGive : ByteArray := prog_14_method_56_code
def yX12_goGive : MethodName := ⟨RX12, "goGive", "([IIII)I"⟩
abbrev cX12_give : ByteArray := prog_14_method_57_code
def yX12_give : MethodName := ⟨RX12, "give", "(III)I"⟩
abbrev cX12_lend : ByteArray := prog_14_method_58_code
def yX12_lend : MethodName := ⟨RX12, "lend", "(IIII)I"⟩
abbrev cX12_goDay : ByteArray := prog_14_method_59_code
def yX12_goDay : MethodName := ⟨RX12, "goDay", "([I)V"⟩
abbrev cX12_goDays : ByteArray := prog_14_method_60_code
def yX12_goDays : MethodName := ⟨RX12, "goDays", "([II)V"⟩
abbrev cX12_days : ByteArray := prog_14_method_61_code
def yX12_days : MethodName := ⟨RX12, "days", "(I)I"⟩
abbrev cX12_talk : ByteArray := prog_14_method_62_code
def yX12_talk : MethodName := ⟨RX12, "talk", "()I"⟩
abbrev cX12_readAct : ByteArray := prog_14_method_63_code
def yX12_readAct : MethodName := ⟨RX12, "readAct", "(I)V"⟩
abbrev cX12_act : ByteArray := prog_14_method_64_code
def yX12_act : MethodName := ⟨RX12, "act", "(IIII)Z"⟩
abbrev cX12_undo : ByteArray := prog_14_method_65_code
def yX12_undo : MethodName := ⟨RX12, "undo", "()I"⟩
abbrev cX12_layLeast : ByteArray := prog_14_method_66_code
def yX12_layLeast : MethodName := ⟨RX12, "layLeast", "()V"⟩
abbrev cX12_sumOf : ByteArray := prog_14_method_67_code
def yX12_sumOf : MethodName := ⟨RX12, "sumOf", "(I)I"⟩
abbrev cX12_worthOf : ByteArray := prog_14_method_68_code
def yX12_worthOf : MethodName := ⟨RX12, "worthOf", "(I)I"⟩
abbrev cX12_thingsOf : ByteArray := prog_14_method_69_code
def yX12_thingsOf : MethodName := ⟨RX12, "thingsOf", "(I)I"⟩
abbrev cX12_bestSet : ByteArray := prog_14_method_70_code
def yX12_bestSet : MethodName := ⟨RX12, "bestSet", "(II)I"⟩
abbrev cX12_best : ByteArray := prog_14_method_71_code
def yX12_best : MethodName := ⟨RX12, "best", "(I)I"⟩
abbrev cX12_lacks : ByteArray := prog_14_method_72_code
def yX12_lacks : MethodName := ⟨RX12, "lacks", "(I)I"⟩
abbrev cX12_allClocks : ByteArray := prog_14_method_73_code
def yX12_allClocks : MethodName := ⟨RX12, "allClocks", "()I"⟩
abbrev cX12_pool : ByteArray := prog_14_method_74_code
def yX12_pool : MethodName := ⟨RX12, "pool", "()I"⟩
abbrev cX12_gifts : ByteArray := prog_14_method_75_code
def yX12_gifts : MethodName := ⟨RX12, "gifts", "(I)I"⟩
abbrev cX12_mute : ByteArray := prog_14_method_76_code
def yX12_mute : MethodName := ⟨RX12, "mute", "()I"⟩
abbrev cX12_isBefore : ByteArray := prog_14_method_77_code
def yX12_isBefore : MethodName := ⟨RX12, "isBefore", "(I)Z"⟩
abbrev cX12_goRelay : ByteArray := prog_14_method_78_code
def yX12_goRelay : MethodName := ⟨RX12, "goRelay", "(IIIIII)V"⟩
abbrev cX12_relay : ByteArray := prog_14_method_79_code
def yX12_relay : MethodName := ⟨RX12, "relay", "(III)I"⟩
abbrev cX12_known : ByteArray := prog_14_method_80_code
def yX12_known : MethodName := ⟨RX12, "known", "(III)I"⟩
abbrev cX12_cried : ByteArray := prog_14_method_81_code
def yX12_cried : MethodName := ⟨RX12, "cried", "(II)I"⟩
abbrev cX12_criers : ByteArray := prog_14_method_82_code
def yX12_criers : MethodName := ⟨RX12, "criers", "(III)I"⟩
abbrev cX12_place : ByteArray := prog_14_method_83_code
def yX12_place : MethodName := ⟨RX12, "place", "(III)I"⟩
abbrev cX12_layWins : ByteArray := prog_14_method_84_code
def yX12_layWins : MethodName := ⟨RX12, "layWins", "(I)V"⟩
abbrev cX12_isLeft : ByteArray := prog_14_method_85_code
def yX12_isLeft : MethodName := ⟨RX12, "isLeft", "(I)Z"⟩
abbrev cX12_debate : ByteArray := prog_14_method_86_code
def yX12_debate : MethodName := ⟨RX12, "debate", "(III)I"⟩
abbrev cX12_enough : ByteArray := prog_14_method_87_code
def yX12_enough : MethodName := ⟨RX12, "enough", "(II)I"⟩
abbrev cX12_grammar : ByteArray := prog_14_method_88_code
def yX12_grammar : MethodName := ⟨RX12, "grammar", "()I"⟩
abbrev cX12_readWording : ByteArray := prog_14_method_89_code
def yX12_readWording : MethodName := ⟨RX12, "readWording", "()I"⟩
abbrev cX12_joined : ByteArray := prog_14_method_90_code
def yX12_joined : MethodName := ⟨RX12, "joined", "(II)I"⟩
abbrev cX12_shorter : ByteArray := prog_14_method_91_code
def yX12_shorter : MethodName := ⟨RX12, "shorter", "()I"⟩
abbrev cX12_becomes : ByteArray := prog_14_method_92_code
def yX12_becomes : MethodName := ⟨RX12, "becomes", "()I"⟩
abbrev cX12_read : ByteArray := prog_14_method_93_code
def yX12_read : MethodName := ⟨RX12, "read", "(II)I"⟩
abbrev cX12_forget : ByteArray := prog_14_method_94_code
def yX12_forget : MethodName := ⟨RX12, "forget", "()I"⟩
abbrev cX12_mark : ByteArray := prog_14_method_95_code
def yX12_mark : MethodName := ⟨RX12, "mark", "(I)V"⟩
abbrev cX12_goCosts : ByteArray := prog_14_method_96_code
def yX12_goCosts : MethodName := ⟨RX12, "goCosts", "(IIIIII)V"⟩
abbrev cX12_markCosts : ByteArray := prog_14_method_97_code
def yX12_markCosts : MethodName := ⟨RX12, "markCosts", "(II)V"⟩
abbrev cX12_spoke : ByteArray := prog_14_method_98_code
def yX12_spoke : MethodName := ⟨RX12, "spoke", "(I)I"⟩
abbrev cX12_look : ByteArray := prog_14_method_99_code
def yX12_look : MethodName := ⟨RX12, "look", "()I"⟩
abbrev cX12_bestAll : ByteArray := prog_14_method_100_code
def yX12_bestAll : MethodName := ⟨RX12, "bestAll", "()I"⟩
abbrev cX12_rate : ByteArray := prog_14_method_101_code
def yX12_rate : MethodName := ⟨RX12, "rate", "()I"⟩
abbrev cX12_run : ByteArray := prog_14_method_102_code
def yX12_run : MethodName := ⟨RX12, "run", "(I)I"⟩
abbrev cX12_isStruck : ByteArray := prog_14_method_103_code
def yX12_isStruck : MethodName := ⟨RX12, "isStruck", "(II)Z"⟩
abbrev cX12_years : ByteArray := prog_14_method_104_code
def yX12_years : MethodName := ⟨RX12, "years", "(II)I"⟩
abbrev cX12_keep : ByteArray := prog_14_method_105_code
def yX12_keep : MethodName := ⟨RX12, "keep", "(I)Z"⟩
abbrev cX12_again : ByteArray := prog_14_method_106_code
def yX12_again : MethodName := ⟨RX12, "again", "(I)Z"⟩
abbrev cX12_count : ByteArray := prog_14_method_107_code
def yX12_count : MethodName := ⟨RX12, "count", "(I)I"⟩
abbrev cX12_row : ByteArray := prog_14_method_108_code
def yX12_row : MethodName := ⟨RX12, "row", "(I)I"⟩
def RJ6 : String := "java/lang/Integer"
abbrev cJ6_numberOfTrailingZeros_0f7a4 : ByteArray := prog_19_method_48_code
def yJ6_numberOfTrailingZeros_0f7a4 : MethodName := ⟨RJ6, "numberOfTrailingZeros", "(I)I"⟩
abbrev cJ6_bitCount_0f7a4 : ByteArray := prog_19_method_49_code
def yJ6_bitCount_0f7a4 : MethodName := ⟨RJ6, "bitCount", "(I)I"⟩
def RJ9 : String := "java/lang/Math"
abbrev cJ9_abs_0f7a4 : ByteArray := prog_20_method_59_code
def yJ9_abs_0f7a4 : MethodName := ⟨RJ9, "abs", "(I)I"⟩
abbrev cJ9_max_7cf53 : ByteArray := prog_20_method_65_code
def yJ9_max_7cf53 : MethodName := ⟨RJ9, "max", "(II)I"⟩
abbrev cJ9_min_7cf53 : ByteArray := prog_20_method_69_code
def yJ9_min_7cf53 : MethodName := ⟨RJ9, "min", "(II)I"⟩
abbrev cJ9_min_f86c9 : ByteArray := prog_20_method_70_code
def yJ9_min_f86c9 : MethodName := ⟨RJ9, "min", "(JJ)J"⟩
def RJ0 : String := "java/lang/String"
abbrev cJ0_length_8abf5 : ByteArray := prog_22_method_54_code
def yJ0_length_8abf5 : MethodName := ⟨RJ0, "length", "()I"⟩
abbrev cJ0_charAt_5068e : ByteArray := prog_22_method_56_code
def yJ0_charAt_5068e : MethodName := ⟨RJ0, "charAt", "(I)C"⟩
abbrev cJ0_coder_7d493 : ByteArray := prog_22_method_152_code
def yJ0_coder_7d493 : MethodName := ⟨RJ0, "coder", "()B"⟩
abbrev cJ0_isLatin1_aae02 : ByteArray := prog_22_method_154_code
def yJ0_isLatin1_aae02 : MethodName := ⟨RJ0, "isLatin1", "()Z"⟩
abbrev cJ0_checkIndex_df160 : ByteArray := prog_22_method_155_code
def yJ0_checkIndex_df160 : MethodName := ⟨RJ0, "checkIndex", "(II)V"⟩
def RJ1 : String := "java/lang/StringLatin1"
abbrev cJ1_charAt_3b067 : ByteArray := prog_23_method_2_code
def yJ1_charAt_3b067 : MethodName := ⟨RJ1, "charAt", "([BI)C"⟩
def RJ2 : String := "java/lang/StringUTF16"
abbrev cJ2_getChar_3b067 : ByteArray := prog_24_method_5_code
def yJ2_getChar_3b067 : MethodName := ⟨RJ2, "getChar", "([BI)C"⟩
abbrev cJ2_length_9d52b : ByteArray := prog_24_method_6_code
def yJ2_length_9d52b : MethodName := ⟨RJ2, "length", "([B)I"⟩
abbrev cJ2_charAt_3b067 : ByteArray := prog_24_method_83_code
def yJ2_charAt_3b067 : MethodName := ⟨RJ2, "charAt", "([BI)C"⟩
abbrev cJ2_checkIndex_2214a : ByteArray := prog_24_method_91_code
def yJ2_checkIndex_2214a : MethodName := ⟨RJ2, "checkIndex", "(I[B)V"⟩
def RJ10 : String := "java/lang/System"
def RJ3 : String := "jdk/internal/util/Preconditions"
abbrev cJ3_checkIndex_8e157 : ByteArray := prog_30_method_11_code
def yJ3_checkIndex_8e157 : MethodName := ⟨RJ3, "checkIndex", "(IILjava/util/function/BiFunction;)I"⟩
def RL : String := "ClockForTalkLaw"
abbrev cL_person : ByteArray := method_3_code
def yL_person : MethodName := ⟨RL, "person", "(LClockForTalk;II[J)I"⟩
abbrev cL_thing : ByteArray := method_4_code
def yL_thing : MethodName := ⟨RL, "thing", "(LClockForTalk;II[J)I"⟩
abbrev cL_loan : ByteArray := method_5_code
def yL_loan : MethodName := ⟨RL, "loan", "(LClockForTalk;II[J)I"⟩
abbrev cL_row : ByteArray := method_6_code
def yL_row : MethodName := ⟨RL, "row", "(LClockForTalk;I[J)I"⟩
abbrev cL_law : ByteArray := code
def yL_law : MethodName := ⟨RL, "law", "([I)Z"⟩
abbrev vwCl : List vw_C := [(RX0, TX0, 8), (RX1, TX1, 2), (RX2, TX2, 9), (RX3, TX3, 6), (RX4, TX4, 11), (RX5, TX5, 2), (RX6, TX6, 4), (RX7, TX7, 3), (RX8, TX8, 9), (RX9, TX9, 9), (RX10, TX10, 8), (RX11, TX11, 14), (RX12, TX12, 52)]
def li_ws : List Cond := lw_tbl.filter goodWord
def li_nw : List Cond := [(Jvm.Cond.methodLinkNest "ClockForTalk" (11 : Nat) ({ cls := "ClockForTalk$Text", name := "<init>", desc := "()V" } : Jvm.MethodName) "ClockForTalk"), (Jvm.Cond.methodLinkNest "ClockForTalk" (18 : Nat) ({ cls := "ClockForTalk$Row", name := "<init>", desc := "()V" } : Jvm.MethodName) "ClockForTalk"), (Jvm.Cond.methodLinkNest "ClockForTalk" (25 : Nat) ({ cls := "ClockForTalk$Town", name := "<init>", desc := "()V" } : Jvm.MethodName) "ClockForTalk"), (Jvm.Cond.methodLinkNest "ClockForTalk" (32 : Nat) ({ cls := "ClockForTalk$Ledger", name := "<init>", desc := "()V" } : Jvm.MethodName) "ClockForTalk"), (Jvm.Cond.methodLinkNest "ClockForTalk$History" (18 : Nat) ({ cls := "ClockForTalk$Ledger", name := "<init>", desc := "()V" } : Jvm.MethodName) "ClockForTalk"), (Jvm.Cond.methodLinkNest "ClockForTalk" (46 : Nat) ({ cls := "ClockForTalk$Rule", name := "<init>", desc := "()V" } : Jvm.MethodName) "ClockForTalk"), (Jvm.Cond.methodLinkNest "ClockForTalk" (56 : Nat) ({ cls := "ClockForTalk$Debates", name := "<init>", desc := "()V" } : Jvm.MethodName) "ClockForTalk"), (Jvm.Cond.methodLinkNest "ClockForTalk" (63 : Nat) ({ cls := "ClockForTalk$Wordings", name := "<init>", desc := "()V" } : Jvm.MethodName) "ClockForTalk"), (Jvm.Cond.methodLinkNest "ClockForTalk$Text" (19 : Nat) ({ cls := "ClockForTalk", name := "put", desc := "([III)V" } : Jvm.MethodName) "ClockForTalk"), (Jvm.Cond.methodLinkNest "ClockForTalk$Text" (26 : Nat) ({ cls := "ClockForTalk", name := "at", desc := "([II)I" } : Jvm.MethodName) "ClockForTalk"), (Jvm.Cond.methodLinkNest "ClockForTalk$Rule" (41 : Nat) ({ cls := "ClockForTalk", name := "put", desc := "([III)V" } : Jvm.MethodName) "ClockForTalk"), (Jvm.Cond.methodLinkNest "ClockForTalk$Text" (43 : Nat) ({ cls := "ClockForTalk", name := "within", desc := "(III)Z" } : Jvm.MethodName) "ClockForTalk"), (Jvm.Cond.methodLinkNest "ClockForTalk$Wordings" (43 : Nat) ({ cls := "ClockForTalk", name := "put", desc := "([III)V" } : Jvm.MethodName) "ClockForTalk"), (Jvm.Cond.methodLinkNest "ClockForTalk$Town" (66 : Nat) ({ cls := "ClockForTalk", name := "put", desc := "([III)V" } : Jvm.MethodName) "ClockForTalk"), (Jvm.Cond.methodLinkNest "ClockForTalk$Ledger" (61 : Nat) ({ cls := "ClockForTalk", name := "at", desc := "([II)I" } : Jvm.MethodName) "ClockForTalk"), (Jvm.Cond.methodLinkNest "ClockForTalk$Ledger" (65 : Nat) ({ cls := "ClockForTalk", name := "put", desc := "([III)V" } : Jvm.MethodName) "ClockForTalk"), (Jvm.Cond.methodLinkNest "ClockForTalk$Town" (44 : Nat) ({ cls := "ClockForTalk", name := "at", desc := "([II)I" } : Jvm.MethodName) "ClockForTalk"), (Jvm.Cond.methodLinkNest "ClockForTalk$Costs" (39 : Nat) ({ cls := "ClockForTalk", name := "at", desc := "([II)I" } : Jvm.MethodName) "ClockForTalk"), (Jvm.Cond.methodLinkNest "ClockForTalk$Costs" (56 : Nat) ({ cls := "ClockForTalk", name := "put", desc := "([III)V" } : Jvm.MethodName) "ClockForTalk"), (Jvm.Cond.methodLinkNest "ClockForTalk$Rule" (93 : Nat) ({ cls := "ClockForTalk", name := "at", desc := "([II)I" } : Jvm.MethodName) "ClockForTalk"), (Jvm.Cond.methodLinkNest "ClockForTalk$Rule" (105 : Nat) ({ cls := "ClockForTalk", name := "clamp", desc := "(II)I" } : Jvm.MethodName) "ClockForTalk"), (Jvm.Cond.methodLinkNest "ClockForTalk$Ledger" (78 : Nat) ({ cls := "ClockForTalk", name := "putWord", desc := "([JIJ)V" } : Jvm.MethodName) "ClockForTalk"), (Jvm.Cond.methodLinkNest "ClockForTalk$Ledger" (94 : Nat) ({ cls := "ClockForTalk", name := "wordAt", desc := "([JI)J" } : Jvm.MethodName) "ClockForTalk"), (Jvm.Cond.methodLinkNest "ClockForTalk$Ledger" (82 : Nat) ({ cls := "ClockForTalk", name := "holds", desc := "(II)Z" } : Jvm.MethodName) "ClockForTalk"), (Jvm.Cond.methodLinkNest "ClockForTalk$Row" (15 : Nat) ({ cls := "ClockForTalk", name := "put", desc := "([III)V" } : Jvm.MethodName) "ClockForTalk"), (Jvm.Cond.methodLinkNest "ClockForTalk$Costs" (112 : Nat) ({ cls := "ClockForTalk", name := "holds", desc := "(II)Z" } : Jvm.MethodName) "ClockForTalk"), (Jvm.Cond.methodLinkNest "ClockForTalk$WordOfMouth" (78 : Nat) ({ cls := "ClockForTalk", name := "at", desc := "([II)I" } : Jvm.MethodName) "ClockForTalk"), (Jvm.Cond.methodLinkNest "ClockForTalk$WordOfMouth" (46 : Nat) ({ cls := "ClockForTalk", name := "put", desc := "([III)V" } : Jvm.MethodName) "ClockForTalk"), (Jvm.Cond.methodLinkNest "ClockForTalk$WordOfMouth" (88 : Nat) ({ cls := "ClockForTalk", name := "holds", desc := "(II)Z" } : Jvm.MethodName) "ClockForTalk"), (Jvm.Cond.methodLinkNest "ClockForTalk$Row" (23 : Nat) ({ cls := "ClockForTalk", name := "clamp", desc := "(II)I" } : Jvm.MethodName) "ClockForTalk"), (Jvm.Cond.methodLinkNest "ClockForTalk$Row" (27 : Nat) ({ cls := "ClockForTalk", name := "at", desc := "([II)I" } : Jvm.MethodName) "ClockForTalk"), (Jvm.Cond.methodLinkNest "ClockForTalk$Debates" (20 : Nat) ({ cls := "ClockForTalk", name := "holds", desc := "(II)Z" } : Jvm.MethodName) "ClockForTalk"), (Jvm.Cond.methodLinkNest "ClockForTalk$Debates" (42 : Nat) ({ cls := "ClockForTalk", name := "at", desc := "([II)I" } : Jvm.MethodName) "ClockForTalk"), (Jvm.Cond.methodLinkNest "ClockForTalk$Debates" (52 : Nat) ({ cls := "ClockForTalk", name := "put", desc := "([III)V" } : Jvm.MethodName) "ClockForTalk"), (Jvm.Cond.methodLinkNest "ClockForTalk$Wordings" (61 : Nat) ({ cls := "ClockForTalk", name := "at", desc := "([II)I" } : Jvm.MethodName) "ClockForTalk"), (Jvm.Cond.methodLinkNest "ClockForTalk$Wordings" (71 : Nat) ({ cls := "ClockForTalk", name := "holds", desc := "(II)Z" } : Jvm.MethodName) "ClockForTalk"), (Jvm.Cond.methodLinkNest "ClockForTalk$Dusk" (31 : Nat) ({ cls := "ClockForTalk", name := "put", desc := "([III)V" } : Jvm.MethodName) "ClockForTalk"), (Jvm.Cond.methodLinkNest "ClockForTalk$Dusk" (59 : Nat) ({ cls := "ClockForTalk", name := "at", desc := "([II)I" } : Jvm.MethodName) "ClockForTalk"), (Jvm.Cond.methodLinkNest "ClockForTalk$Dusk" (85 : Nat) ({ cls := "ClockForTalk", name := "putWord", desc := "([JIJ)V" } : Jvm.MethodName) "ClockForTalk"), (Jvm.Cond.methodLinkNest "ClockForTalk$Dusk" (78 : Nat) ({ cls := "ClockForTalk", name := "wordAt", desc := "([JI)J" } : Jvm.MethodName) "ClockForTalk"), (Jvm.Cond.methodLinkNest "ClockForTalk$Dusk" (115 : Nat) ({ cls := "ClockForTalk", name := "holds", desc := "(II)Z" } : Jvm.MethodName) "ClockForTalk"), (Jvm.Cond.methodLinkNest "ClockForTalk$History" (43 : Nat) ({ cls := "ClockForTalk", name := "holds", desc := "(II)Z" } : Jvm.MethodName) "ClockForTalk")]
theorem li_mem {w : Cond} (i : Nat) (h : lw_tbl[i]? = some w) (g : goodWord w = true) : w ∈ li_ws := List.mem_filter.mpr ⟨List.mem_of_getElem? h, g⟩
theorem li_sub {ws : List Cond} (is : List Nat) (h : is.filterMap (fun i => lw_tbl[i]?) = ws) (g : ws.all goodWord = true) : ∀ w ∈ ws, w ∈ li_ws := by
  intro w hw
  have g1 := List.all_eq_true.mp g w hw
  rw [← h] at hw
  obtain ⟨i, -, hi⟩ := List.mem_filterMap.mp hw
  exact li_mem i hi g1
theorem li_in0 : ∀ w ∈ u_ws RX0 TX0 8, w ∈ li_ws := li_sub [398, 400, 402, 404, 406, 408, 410, 412] (by decide +kernel) (by decide +kernel)
theorem li_in1 : ∀ w ∈ u_ws RX1 TX1 2, w ∈ li_ws := li_sub [341, 343] (by decide +kernel) (by decide +kernel)
theorem li_in2 : ∀ w ∈ u_ws RX2 TX2 9, w ∈ li_ws := li_sub [471, 473, 475, 477, 479, 481, 483, 485, 487] (by decide +kernel) (by decide +kernel)
theorem li_in3 : ∀ w ∈ u_ws RX3 TX3 6, w ∈ li_ws := li_sub [299, 301, 303, 305, 307, 309] (by decide +kernel) (by decide +kernel)
theorem li_in4 : ∀ w ∈ u_ws RX4 TX4 11, w ∈ li_ws := li_sub [259, 261, 263, 265, 267, 269, 271, 273, 275, 277, 279] (by decide +kernel) (by decide +kernel)
theorem li_in5 : ∀ w ∈ u_ws RX5 TX5 2, w ∈ li_ws := li_sub [166, 168] (by decide +kernel) (by decide +kernel)
theorem li_in6 : ∀ w ∈ u_ws RX6 TX6 4, w ∈ li_ws := li_sub [323, 325, 327, 329] (by decide +kernel) (by decide +kernel)
theorem li_in7 : ∀ w ∈ u_ws RX7 TX7 3, w ∈ li_ws := li_sub [148, 150, 152] (by decide +kernel) (by decide +kernel)
theorem li_in8 : ∀ w ∈ u_ws RX8 TX8 9, w ∈ li_ws := li_sub [207, 209, 211, 213, 215, 217, 219, 221, 223] (by decide +kernel) (by decide +kernel)
theorem li_in9 : ∀ w ∈ u_ws RX9 TX9 9, w ∈ li_ws := li_sub [433, 435, 437, 439, 441, 443, 445, 447, 449] (by decide +kernel) (by decide +kernel)
theorem li_in10 : ∀ w ∈ u_ws RX10 TX10 8, w ∈ li_ws := li_sub [362, 364, 366, 368, 370, 372, 374, 376] (by decide +kernel) (by decide +kernel)
theorem li_in11 : ∀ w ∈ u_ws RX11 TX11 14, w ∈ li_ws := li_sub [504, 506, 508, 510, 512, 514, 516, 518, 520, 522, 524, 526, 528, 530] (by decide +kernel) (by decide +kernel)
theorem li_in12 : ∀ w ∈ u_ws RX12 TX12 52, w ∈ li_ws := li_sub [1499, 1501, 1503, 1505, 1507, 1509, 1511, 1513, 1515, 1517, 1519, 1521, 1523, 1525, 1527, 1529, 1531, 1533, 1535, 1537, 1539, 1541, 1543, 1545, 1547, 1549, 1551, 1553, 1555, 1557, 1559, 1561, 1563, 1565, 1567, 1569, 1571, 1573, 1575, 1577, 1579, 1581, 1583, 1585, 1587, 1589, 1591, 1593, 1595, 1597, 1599, 1601] (by decide +kernel) (by decide +kernel)
end
section
abbrev li_S : Type := (Nat × List (Option Nat)) ⊕ (Nat × Nat)
def li_tab : List li_S := [.inl (11, [some 1, some 3, some 5, some 13, some 21, some 144, some 151, some 148, some 155, some 158, some 163, some 165, some 173, some 176]), .inl (7, [some 2, none, none]), .inr (0, 80), .inl (5, [some 4, none]), .inr (0, 14), .inl (8, [none, none, some 6, some 7, some 8, some 9, some 10, some 11, some 12]), .inr (0, 6), .inr (0, 6), .inr (0, 8), .inr (0, 8), .inr (0, 8), .inr (0, 8), .inr (0, 8), .inl (4, [none, none, none, none, some 14, some 15, some 16, some 17, some 18, some 19, some 20]), .inr (0, 6), .inr (0, 6), .inr (1, 6), .inr (0, 6), .inr (0, 6), .inr (0, 6), .inr (1, 6), .inl (3, [some 22, some 23, some 24, none, none, none]), .inr (132, 12), .inr (228, 2), .inl (4, [none, none, none, none, some 25, some 26, some 27, some 28, some 29, some 30, some 31]), .inr (0, 6), .inr (0, 6), .inr (1, 6), .inr (0, 6), .inr (0, 6), .inr (0, 6), .inr (1, 6), .inl (4, [none, none, none, none, some 33, some 34, some 35, some 36, some 37, some 38, some 39]), .inr (0, 6), .inr (0, 6), .inr (1, 6), .inr (0, 6), .inr (0, 6), .inr (0, 6), .inr (1, 6), .inl (4, [none, none, none, none, some 41, some 42, some 43, some 44, some 45, some 46, some 47]), .inr (0, 6), .inr (0, 6), .inr (1, 6), .inr (0, 6), .inr (0, 6), .inr (0, 6), .inr (1, 6), .inl (4, [none, none, none, none, some 49, some 50, some 51, some 52, some 53, some 54, some 55]), .inr (0, 6), .inr (0, 6), .inr (1, 6), .inr (0, 6), .inr (0, 6), .inr (0, 6), .inr (1, 6), .inl (4, [none, none, none, none, some 57, some 58, some 59, some 60, some 61, some 62, some 63]), .inr (0, 6), .inr (0, 6), .inr (1, 6), .inr (0, 6), .inr (0, 6), .inr (0, 6), .inr (1, 6), .inl (4, [none, none, none, none, some 65, some 66, some 67, some 68, some 69, some 70, some 71]), .inr (0, 6), .inr (0, 6), .inr (1, 6), .inr (0, 6), .inr (0, 6), .inr (0, 6), .inr (1, 6), .inl (4, [none, none, none, none, some 73, some 74, some 75, some 76, some 77, some 78, some 79]), .inr (0, 6), .inr (0, 6), .inr (1, 6), .inr (0, 6), .inr (0, 6), .inr (0, 6), .inr (1, 6), .inl (4, [none, none, none, none, some 81, some 82, some 83, some 84, some 85, some 86, some 87]), .inr (0, 6), .inr (0, 6), .inr (1, 6), .inr (0, 6), .inr (0, 6), .inr (0, 6), .inr (1, 6), .inl (4, [none, none, none, none, some 89, some 90, some 91, some 92, some 93, some 94, some 95]), .inr (0, 6), .inr (0, 6), .inr (1, 6), .inr (0, 6), .inr (0, 6), .inr (0, 6), .inr (1, 6), .inl (4, [none, none, none, none, some 97, some 98, some 99, some 100, some 101, some 102, some 103]), .inr (0, 6), .inr (0, 6), .inr (1, 6), .inr (0, 6), .inr (0, 6), .inr (0, 6), .inr (1, 6), .inl (4, [none, none, none, none, some 105, some 106, some 107, some 108, some 109, some 110, some 111]), .inr (0, 6), .inr (0, 6), .inr (1, 6), .inr (0, 6), .inr (0, 6), .inr (0, 6), .inr (1, 6), .inl (4, [none, none, none, none, some 113, some 114, some 115, some 116, some 117, some 118, some 119]), .inr (0, 6), .inr (0, 6), .inr (1, 6), .inr (0, 6), .inr (0, 6), .inr (0, 6), .inr (1, 6), .inl (4, [none, none, none, none, some 121, some 122, some 123, some 124, some 125, some 126, some 127]), .inr (0, 6), .inr (0, 6), .inr (1, 6), .inr (0, 6), .inr (0, 6), .inr (0, 6), .inr (1, 6), .inl (4, [none, none, none, none, some 129, some 130, some 131, some 132, some 133, some 134, some 135]), .inr (0, 6), .inr (0, 6), .inr (1, 6), .inr (0, 6), .inr (0, 6), .inr (0, 6), .inr (1, 6), .inl (4, [none, none, none, none, some 137, some 138, some 139, some 140, some 141, some 142, some 143]), .inr (0, 6), .inr (0, 6), .inr (1, 6), .inr (0, 6), .inr (0, 6), .inr (0, 6), .inr (1, 6), .inl (6, [some 145, some 146, some 147, none]), .inr (0, 80), .inr (0, 80), .inr (0, 6), .inl (0, [some 5, some 13, some 144, some 149, some 150, none, none, none]), .inr (0, 32), .inr (0, 8), .inl (6, [some 152, some 153, some 154, none]), .inr (0, 80), .inr (0, 80), .inr (0, 6), .inl (0, [some 5, some 13, some 151, some 156, some 157, none, none, none]), .inr (0, 32), .inr (0, 8), .inl (9, [some 5, some 13, some 148, some 159, some 160, some 161, some 162, none, none]), .inr (0, 36), .inr (0, 6), .inr (0, 6), .inr (0, 6), .inl (1, [some 164, none]), .inr (0, 33489), .inl (10, [some 166, some 167, some 168, some 169, some 170, some 171, some 172, none]), .inr (0, 30), .inr (0, 30), .inr (0, 14), .inr (0, 225), .inr (0, 15), .inr (0, 225), .inr (0, 15), .inl (2, [some 5, some 13, some 148, some 174, some 175, none, none, none, none]), .inr (0, 6), .inr (1, 32000), .inr (0, 160), .inl (12, [some 178, none, some 179, some 180, none, some 181, some 182, none, some 183, none, none, some 1000, none, none, none, none, some 184, some 1001, none, some 186, none, some 187, some 188, none, some 189, none, none, some 190, none, some 191, some 192, some 193, none, none, some 194, none, some 195, some 196, none, some 197, none, some 198, some 199, none, some 200, some 201, none, some 202, none, some 203, some 204, some 205]), .inr (0, 51), .inr (0, 6), .inr (0, 6), .inr (0, 40), .inr (2, 80), .inr (0, 20), .inr (0, 40), .inr (2, 40), .inr (2, 40), .inr (0, 6), .inr (0, 612), .inr (0, 51), .inr (0, 320), .inr (0, 8), .inr (0, 6), .inr (0, 6), .inr (3, 37210), .inr (0, 30), .inr (0, 30), .inr (0, 225), .inr (0, 15), .inr (0, 6), .inr (0, 32), .inr (3, 10000), .inr (0, 51), .inr (0, 102), .inr (3, 2), .inr (0, 2)]
def li_N : Nat := 206
def li_sh (i : Nat) : li_S := (li_tab[i]?).getD (.inr (0, 0))
/-! THE LITE MACHINE. A state: ints of objects and of int-like arrays (by cell and place), longs of arrays, references that change. -/
abbrev li_M : Type := (Nat → Nat → Int32) × (Nat → Nat → Int64) × (Nat → Option Nat)
/-- the classes' numbers and slots; the array classes; the cells' addresses -/
abbrev li_Z : Type := va_G × (Nat → ClassId) × (Nat → Nat)
def li_rv (Z : li_Z) (M : li_M) (j : Nat) : Value := if j < 1000 then .ref (Z.2.2 j) else va_rf ((M.2.2 (j - 1000)).map Z.2.2)
def li_ob (Z : li_Z) (M : li_M) (i : Nat) : Nat → List (Option Nat) → List Value
  | _, [] => []
  | k, o :: r => (match o with
    | none => Value.int (M.1 i k)
    | some j => li_rv Z M j) :: li_ob Z M i (k + 1) r
def li_ar (Z : li_Z) (M : li_M) (i t : Nat) : (Nat → Int32) ⊕ (Nat → Int64) ⊕ (Nat → UInt32) ⊕ (Nat → UInt64) ⊕ (Nat → Option Nat) :=
  if t < 100 then (if t = 1 then .inr (.inl (M.2.1 i)) else .inl (M.1 i)) else .inr (.inr (.inr (.inr (fun j => some (Z.2.2 (t - 100 + 8 * j))))))
def li_ct (t : Nat) : Nat := if t < 100 then t else 4
def li_cell (Z : li_Z) (M : li_M) (i : Nat) : va_E := match li_sh i with
  | .inl o => .inr (o.1, li_ob Z M i 0 o.2)
  | .inr a => .inl (Z.2.1 (li_ct a.1), a.2, li_ar Z M i a.1)
def li_wd (Z : li_Z) (M : li_M) : va_W := (List.range li_N).map fun i => (Z.2.2 i, li_cell Z M i)
def li_tys (Z : li_Z) : List (ClassId × FieldType) := [(Z.2.1 0, .int), (Z.2.1 1, .long), (Z.2.1 2, .byte), (Z.2.1 3, .boolean), (Z.2.1 4, .object "ClockForTalk$Ledger")]
def li_H (Z : li_Z) (M : li_M) (H : Heap) : Prop := va_P Z.1 vwCl (li_wd Z M) H
def li_dis (Z : li_Z) : Prop := ∀ i j, i < li_N → j < li_N → Z.2.2 i = Z.2.2 j → i = j
def li_A (Z : li_Z) : Nat → Prop := fun q => ∃ i, i < li_N ∧ q = Z.2.2 i
theorem li_get {Z : li_Z} {M : li_M} {i : Nat} (h : i < li_N) : (li_wd Z M)[i]? = some (Z.2.2 i, li_cell Z M i) := by
  simp [li_wd, h]
theorem li_get' {Z : li_Z} {M : li_M} {i : Nat} {q : Nat × va_E} (h : (li_wd Z M)[i]? = some q) : i < li_N ∧ q = (Z.2.2 i, li_cell Z M i) := by
  by_cases hi : i < li_N
  · rw [li_get hi] at h
    exact ⟨hi, (Option.some.inj h).symm⟩
  · simp [li_wd, hi] at h
theorem li_D {Z : li_Z} {M : li_M} (hd : li_dis Z) : va_D (li_A Z) (li_wd Z M) := by
  refine ⟨fun i j p q hi hj hpq => ?_, fun k q hk => ?_⟩
  · obtain ⟨a1, rfl⟩ := li_get' hi
    obtain ⟨a2, rfl⟩ := li_get' hj
    exact hd i j a1 a2 hpq
  · obtain ⟨a1, rfl⟩ := li_get' hk
    exact ⟨k, a1, rfl⟩
theorem li_set {Z : li_Z} {M M' : li_M} {i : Nat} (hi : i < li_N) (h : ∀ j, j ≠ i → li_cell Z M' j = li_cell Z M j) : (li_wd Z M).set i (Z.2.2 i, li_cell Z M' i) = li_wd Z M' := by
  apply List.ext_getElem?
  intro k
  by_cases hk : k = i
  · subst hk
    rw [List.getElem?_set_self (by simp [li_wd, hi]), li_get hi]
  · rw [List.getElem?_set_ne (Ne.symm hk)]
    by_cases hl : k < li_N
    · rw [li_get hl, li_get hl, h k hk]
    · simp [li_wd, hl]
/-- an int of a cell is set; a long; a reference -/
def li_ui (M : li_M) (i k : Nat) (x : Int32) : li_M := (fun a b => if a = i then (if b = k then x else M.1 a b) else M.1 a b, M.2.1, M.2.2)
def li_ul (M : li_M) (i k : Nat) (x : Int64) : li_M := (M.1, fun a b => if a = i then (if b = k then x else M.2.1 a b) else M.2.1 a b, M.2.2)
def li_ur (M : li_M) (r : Nat) (x : Option Nat) : li_M := (M.1, M.2.1, fun a => if a = r then x else M.2.2 a)
theorem li_ui_at (M : li_M) (i k : Nat) (x : Int32) (a b : Nat) : (li_ui M i k x).1 a b = if a = i then (if b = k then x else M.1 a b) else M.1 a b := rfl
theorem li_ul_at (M : li_M) (i k : Nat) (x : Int64) (a b : Nat) : (li_ul M i k x).2.1 a b = if a = i then (if b = k then x else M.2.1 a b) else M.2.1 a b := rfl
theorem li_rv_ui {Z : li_Z} {M : li_M} {i k : Nat} {x : Int32} (j : Nat) : li_rv Z (li_ui M i k x) j = li_rv Z M j := rfl
theorem li_ob_ne {Z : li_Z} {M : li_M} {i k j : Nat} {x : Int32} (h : j ≠ i) : ∀ (sl : List (Option Nat)) (n : Nat), li_ob Z (li_ui M i k x) j n sl = li_ob Z M j n sl := by
  intro sl
  induction sl with
  | nil => intro n; rfl
  | cons o r ih =>
    intro n
    cases o with
    | none => simp only [li_ob, ih, li_ui_at, if_neg h]
    | some q => simp [li_ob, ih, li_rv_ui]
theorem li_ob_len {Z : li_Z} {M : li_M} {i : Nat} : ∀ (sl : List (Option Nat)) (n : Nat), (li_ob Z M i n sl).length = sl.length := by
  intro sl
  induction sl with
  | nil => intro n; rfl
  | cons o r ih => intro n; simp [li_ob, ih]
theorem li_ob_get {Z : li_Z} {M : li_M} {i : Nat} : ∀ (sl : List (Option Nat)) (n k : Nat), (li_ob Z M i n sl)[k]? = (sl[k]?).map (fun o => match o with
    | none => Value.int (M.1 i (n + k))
    | some j => li_rv Z M j) := by
  intro sl
  induction sl with
  | nil => intro n k; simp [li_ob]
  | cons o r ih =>
    intro n k
    cases k with
    | zero => simp [li_ob]
    | succ k =>
      simp only [li_ob, List.getElem?_cons_succ, ih]
      rw [show n + 1 + k = n + (k + 1) by omega]
theorem li_ob_ge {Z : li_Z} {M : li_M} {i k : Nat} {x : Int32} : ∀ (sl : List (Option Nat)) (n : Nat), k < n → li_ob Z (li_ui M i k x) i n sl = li_ob Z M i n sl := by
  intro sl
  induction sl with
  | nil => intro n _; rfl
  | cons o r ih =>
    intro n hn
    cases o with
    | none => simp only [li_ob, ih (n + 1) (by omega), li_ui_at, if_neg (show n ≠ k by omega), ite_self]
    | some q => simp [li_ob, ih (n + 1) (by omega), li_rv_ui]
theorem li_ob_set {Z : li_Z} {M : li_M} {i : Nat} {x : Int32} : ∀ (sl : List (Option Nat)) (n k : Nat), sl[k]? = some none → li_ob Z (li_ui M i (n + k) x) i n sl = (li_ob Z M i n sl).set k (.int x) := by
  intro sl
  induction sl with
  | nil => intro n k h; simp at h
  | cons o r ih =>
    intro n k h
    cases k with
    | zero =>
      simp only [List.getElem?_cons_zero, Option.some.injEq] at h
      subst h
      simp only [Nat.add_zero, li_ob, List.set_cons_zero]
      rw [li_ob_ge r (n + 1) (by omega)]
      simp [li_ui]
    | succ k =>
      have h1 := ih (n + 1) k (by simpa using h)
      rw [show n + 1 + k = n + (k + 1) by omega] at h1
      cases o with
      | none => simp only [li_ob, h1, li_ui_at, List.set_cons_succ, if_neg (show n ≠ n + (k + 1) by omega), ite_self]
      | some q => simp [li_ob, h1, li_rv_ui]
theorem li_ar_ui {Z : li_Z} {M : li_M} {i k j t : Nat} {x : Int32} (h : j ≠ i) : li_ar Z (li_ui M i k x) j t = li_ar Z M j t := by
  simp [li_ar, li_ui, h]
theorem li_cell_ne {Z : li_Z} {M : li_M} {i k : Nat} {x : Int32} (j : Nat) (h : j ≠ i) : li_cell Z (li_ui M i k x) j = li_cell Z M j := by
  unfold li_cell
  cases li_sh j with
  | inl o => simp only [li_ob_ne h]
  | inr a => simp only [li_ar_ui h]
theorem li_ob_ul {Z : li_Z} {M : li_M} {i k j : Nat} {x : Int64} : ∀ (sl : List (Option Nat)) (n : Nat), li_ob Z (li_ul M i k x) j n sl = li_ob Z M j n sl := by
  intro sl
  induction sl with
  | nil => intro n; rfl
  | cons o r ih =>
    intro n
    cases o with
    | none =>
      simp only [li_ob, ih]
      rfl
    | some q =>
      simp only [li_ob, ih]
      rfl
theorem li_cell_neL {Z : li_Z} {M : li_M} {i k : Nat} {x : Int64} (j : Nat) (h : j ≠ i) : li_cell Z (li_ul M i k x) j = li_cell Z M j := by
  unfold li_cell
  cases li_sh j with
  | inl o => simp only [li_ob_ul]
  | inr a => simp [li_ar, li_ul, h]
/-- a method: its name, code, locals, type -/
abbrev li_Y : Type := MethodName × ByteArray × Nat × Option FieldType
def li_rm (d : Nat) : Room := { frames := d, cells := 0, slots := 0, locals := 60 * d }
/-- what lies outside the world and stays: the static row, the texts -/
def li_rf (j : Nat) : Int32 := if j = 0 then 1 else if j = 1 then 3 else if j = 2 then 9 else 99
def li_so (i : Nat) : String × Nat × String := if i = 0 then ("ClockForTalk$Rule", 48, "<>=") else if i = 1 then ("ClockForTalk$Rule", 74, "+-") else if i = 2 then ("ClockForTalk$Rule", 79, "*/") else ("ClockForTalk$Rule", 87, "lwscdh")
def li_len : List Nat := [3, 2, 2, 6]
def li_byt : List (List Int32) := [[60, 62, 61], [43, 45], [42, 47], [108, 119, 115, 99, 100, 104]]
def li_E (Z : li_Z) (U : State) (H : Heap) : Prop :=
  va_Z "ClockForTalk$Costs" "REACH" "[I" (.ref (Z.2.2 2000)) (li_A Z) U H ∧ va_T .int (Z.2.2 2000) 4 (fun j => .int (li_rf j)) (li_A Z) U H ∧
  vk_S 4 li_len li_byt (fun i => Z.2.2 (2100 + i)) (fun i => Z.2.2 (2200 + i)) (li_A Z) U H ∧ va_Z "java/lang/String" "COMPACT_STRINGS" "Z" (.int 1) (li_A Z) U H ∧ va_Zq "jdk/internal/util/Preconditions" "SIOOBE_FORMATTER" "Ljava/util/function/BiFunction;" (li_A Z) U H
theorem li_E.moved {Z : li_Z} {u U : State} {H : Heap} (hvm : u.vm.Alike U.vm) (h : li_E Z u H) : li_E Z U H :=
  ⟨va_Z.moved hvm h.1, va_T.moved hvm h.2.1, vk_S.moved hvm h.2.2.1, va_Z.moved hvm h.2.2.2.1, va_Zq.moved hvm h.2.2.2.2⟩
theorem li_E.kept {Z : li_Z} {U : State} {H H1 : Heap} (h : li_E Z U H) (hq : ∀ a : Nat, a < H.size → ¬ li_A Z a → H1[a]? = H[a]?) : li_E Z U H1 :=
  ⟨va_Z.kept h.1 hq, va_T.kept h.2.1 hq, vk_S.kept h.2.2.1 hq, va_Z.kept h.2.2.2.1 hq, va_Zq.kept h.2.2.2.2 hq⟩
def li_K (Z : li_Z) (s : State) : Prop := va_K Z.1 vwCl (li_tys Z) s ∧ li_dis Z ∧ (∀ w ∈ li_nw, va_Nw w s) ∧ li_E Z s s.heap ∧ ∀ i : Nat, i < 4 → vk_R (li_so i).1 (li_so i).2.1 (li_so i).2.2 (Z.2.2 (2100 + i)) s
def li_X (Y : li_Y) (p : Program) (s : State) (m : MethodId) (args : Array Value) (meth : Method) (c : Code) : Prop :=
  p.tables.exec = Jvm.exec ∧ c.code = Y.2.1 ∧ c.maxLocals = Y.2.2.1 ∧ s.vm.findClass Y.1.cls = some m.cls ∧ (∀ w ∈ li_ws, w.before args s = true) ∧ meth.sig.returnType = Y.2.2.2 ∧ meth.locks = false
def li_Q (Z : li_Z) (Q : Option Value → li_M → Prop) : Array Value → State → Outcome → State → Prop := fun _ st oc t => (∃ (r : Option Value) (M' : li_M), oc = .returned r ∧ Q r M' ∧ li_H Z M' t.heap) ∧ va_F (li_A Z) st t
/-- from this pc, with these locals and this stack, at this state, the method comes to its end with Q -/
def li_T (l : Launch) (Z : li_Z) (Y : li_Y) (d : Nat) (pc : Nat) (lo : List (Nat × Value)) (st : List Value) (M : li_M) (Q : Option Value → li_M → Prop) : Prop :=
  ∀ (p : Program) (e : Env) (s : State) (m : MethodId) (args : Array Value) (below : List Frame) (meth : Method) (c : Code), li_X Y p s m args meth c → li_K Z s →
    ∀ (H : Heap) (locs : List Loc) (ls : Array Slot), li_H Z M H → va_S (li_A Z) s.heap H locs → lv_has ls Y.2.2.1 lo →
      W p l e (li_rm d) s m args below meth c H locs 0 0 (MQ below (li_Q Z Q) args s 0 0 (li_A Z)) (F0 m pc ls st)
def li_wy (Y : li_Y) : List Cond := .code Y.1 Y.2.1 Y.2.2.1 Y.2.2.2 :: li_ws
def li_Met (l : Launch) (Z : li_Z) (Y : li_Y) (d : Nat) (av : List Value) (M : li_M) (Q : Option Value → li_M → Prop) : Prop :=
  Met l Y.1 (li_wy Y) (li_rm d) (va_Pc av (fun U => li_H Z M U.heap ∧ li_K Z U)) (li_Q Z Q) 0 0 (li_A Z)
theorem li_enter {l : Launch} {Z : li_Z} {Y : li_Y} {d : Nat} {av : List Value} {M : li_M} {Q : Option Value → li_M → Prop} (hy : plainName Y.1.cls = true) (hlen : (lg_sl av).length ≤ Y.2.2.1)
    (k : li_T l Z Y d 0 (lv_args 0 av) [] M Q) : li_Met l Z Y d av M Q := by
  refine Met.ofW (cc := Y.2.1) (maxL := Y.2.2.1) (ret := Y.2.2.2) hy rfl ?_
  intro p e s m args below meth c s₁ B hml hv
  obtain ⟨rfl, hH, hK⟩ := hv
  have hts := atoms_spec (ws := li_wy Y) B.pre
  have hl := lv_entry av (n := Y.2.2.1) hlen
  rw [lg_entry_eq]
  exact k p e s m _ below meth c ⟨B.exec, B.bytes, hml, findClass_of_methodNamed B.named, fun w hw => hts w (List.mem_cons_of_mem _ hw), B.returns, B.notSynchronized⟩ hK s.heap [] _ hH va_S.rf hl
theorem li_mono {l : Launch} {Z : li_Z} {Y : li_Y} {d : Nat} {av : List Value} {M : li_M} {Q Q' : Option Value → li_M → Prop} (h : ∀ r M', Q r M' → Q' r M') (hM : li_Met l Z Y d av M Q) : li_Met l Z Y d av M Q' := by
  intro p e a1 a2 a3 s m args below a4 a5 a6 a7
  obtain ⟨n, o, h1, h2, h3, h4, h5⟩ := hM p e a1 a2 a3 s m args below a4 a5 a6 a7
  refine ⟨n, o, h1, h2, h3, ?_, h5⟩
  obtain ⟨⟨r, M', e1, e2, e3⟩, e4⟩ := h4
  exact ⟨⟨r, M', e1, h _ _ e2, e3⟩, e4⟩
end
section
/-! THE STEPS: a row an instruction -/
section LIS
variable {l : Launch} {Z : li_Z} {Y : li_Y} {d pc : Nat} {lo lo' : List (Nat × Value)} {st : List Value} {M : li_M} {Q : Option Value → li_M → Prop}
theorem li_iload_n {k : Fin 4} {x : Int32} (q : Nat) (hd : decode Y.2.1 pc = .ok (.iload_n k, 1)) (hk : lo[q]? = some ((k : Nat), .int x)) (kk : li_T l Z Y d (pc + 1) lo (.int x :: st) M Q) : li_T l Z Y d pc lo (st) M Q :=
  fun p e s m args below meth c C K H locs ls hH hS hl => lv_iload_n C.1 C.2.1 hd rfl (lv_at hl q hk) (kk p e s m args below meth c C K H locs ls hH hS hl)
theorem li_iload {i : Nat} {x : Int32} (q : Nat) (hd : decode Y.2.1 pc = .ok (.iload i, 2)) (hk : lo[q]? = some (i, .int x)) (kk : li_T l Z Y d (pc + 2) lo (.int x :: st) M Q) : li_T l Z Y d pc lo (st) M Q :=
  fun p e s m args below meth c C K H locs ls hH hS hl => lv_iload C.1 C.2.1 hd (lv_at hl q hk) (kk p e s m args below meth c C K H locs ls hH hS hl)
theorem li_aload_n {k : Fin 4} {x : Nat} (q : Nat) (hd : decode Y.2.1 pc = .ok (.aload_n k, 1)) (hk : lo[q]? = some ((k : Nat), .ref x)) (kk : li_T l Z Y d (pc + 1) lo (.ref x :: st) M Q) : li_T l Z Y d pc lo (st) M Q :=
  fun p e s m args below meth c C K H locs ls hH hS hl => lv_aload_n C.1 C.2.1 hd rfl (lv_at hl q hk) (kk p e s m args below meth c C K H locs ls hH hS hl)
theorem li_aload {i : Nat} {x : Nat} (q : Nat) (hd : decode Y.2.1 pc = .ok (.aload i, 2)) (hk : lo[q]? = some (i, .ref x)) (kk : li_T l Z Y d (pc + 2) lo (.ref x :: st) M Q) : li_T l Z Y d pc lo (st) M Q :=
  fun p e s m args below meth c C K H locs ls hH hS hl => lv_aload C.1 C.2.1 hd (lv_at hl q hk) (kk p e s m args below meth c C K H locs ls hH hS hl)
theorem li_lload_n {k : Fin 4} {x : Int64} (q : Nat) (hd : decode Y.2.1 pc = .ok (.lload_n k, 1)) (hk : lo[q]? = some ((k : Nat), .long x)) (kk : li_T l Z Y d (pc + 1) lo (.long x :: st) M Q) : li_T l Z Y d pc lo (st) M Q :=
  fun p e s m args below meth c C K H locs ls hH hS hl => lv_lload_n C.1 C.2.1 hd rfl (lv_at hl q hk) (kk p e s m args below meth c C K H locs ls hH hS hl)
theorem li_lload {i : Nat} {x : Int64} (q : Nat) (hd : decode Y.2.1 pc = .ok (.lload i, 2)) (hk : lo[q]? = some (i, .long x)) (kk : li_T l Z Y d (pc + 2) lo (.long x :: st) M Q) : li_T l Z Y d pc lo (st) M Q :=
  fun p e s m args below meth c C K H locs ls hH hS hl => lv_lload C.1 C.2.1 hd (lv_at hl q hk) (kk p e s m args below meth c C K H locs ls hH hS hl)
theorem li_istore_n {k : Fin 4} {x : Int32} (lo' : List (Nat × Value)) (hd : decode Y.2.1 pc = .ok (.istore_n k, 1)) (hn : (k : Nat) < Y.2.2.1) (hl0 : ((k : Nat), Value.int x) :: lo.filter (fun q => !(q.1 == (k : Nat)) && !(q.1 + 1 == (k : Nat) && q.2.category == 2)) = lo') (kk : li_T l Z Y d (pc + 1) lo' (st) M Q) : li_T l Z Y d pc lo (.int x :: st) M Q :=
  fun p e s m args below meth c C K H locs ls hH hS hl => lv_istore_n C.1 C.2.1 hd rfl hl hn hl0 (fun _ hl => (kk p e s m args below meth c C K H locs _ hH hS hl))
theorem li_istore {i : Nat} {x : Int32} (lo' : List (Nat × Value)) (hd : decode Y.2.1 pc = .ok (.istore i, 2)) (hn : i < Y.2.2.1) (hl0 : (i, Value.int x) :: lo.filter (fun q => !(q.1 == i) && !(q.1 + 1 == i && q.2.category == 2)) = lo') (kk : li_T l Z Y d (pc + 2) lo' (st) M Q) : li_T l Z Y d pc lo (.int x :: st) M Q :=
  fun p e s m args below meth c C K H locs ls hH hS hl => lv_istore C.1 C.2.1 hd hl hn hl0 (fun _ hl => (kk p e s m args below meth c C K H locs _ hH hS hl))
theorem li_astore_n {k : Fin 4} {x : Nat} (lo' : List (Nat × Value)) (hd : decode Y.2.1 pc = .ok (.astore_n k, 1)) (hn : (k : Nat) < Y.2.2.1) (hl0 : ((k : Nat), Value.ref x) :: lo.filter (fun q => !(q.1 == (k : Nat)) && !(q.1 + 1 == (k : Nat) && q.2.category == 2)) = lo') (kk : li_T l Z Y d (pc + 1) lo' (st) M Q) : li_T l Z Y d pc lo (.ref x :: st) M Q :=
  fun p e s m args below meth c C K H locs ls hH hS hl => lv_astore_n C.1 C.2.1 hd rfl hl hn hl0 (fun _ hl => (kk p e s m args below meth c C K H locs _ hH hS hl))
theorem li_astore {i : Nat} {x : Nat} (lo' : List (Nat × Value)) (hd : decode Y.2.1 pc = .ok (.astore i, 2)) (hn : i < Y.2.2.1) (hl0 : (i, Value.ref x) :: lo.filter (fun q => !(q.1 == i) && !(q.1 + 1 == i && q.2.category == 2)) = lo') (kk : li_T l Z Y d (pc + 2) lo' (st) M Q) : li_T l Z Y d pc lo (.ref x :: st) M Q :=
  fun p e s m args below meth c C K H locs ls hH hS hl => lv_astore C.1 C.2.1 hd hl hn hl0 (fun _ hl => (kk p e s m args below meth c C K H locs _ hH hS hl))
theorem li_lstore_n {k : Fin 4} {x : Int64} (lo' : List (Nat × Value)) (hd : decode Y.2.1 pc = .ok (.lstore_n k, 1)) (hn : (k : Nat) + 1 < Y.2.2.1) (hl0 : ((k : Nat), Value.long x) :: lo.filter (fun q => !(q.1 == (k : Nat)) && (!(q.1 == (k : Nat) + 1) && !(q.1 + 1 == (k : Nat) && q.2.category == 2))) = lo') (kk : li_T l Z Y d (pc + 1) lo' (st) M Q) : li_T l Z Y d pc lo (.long x :: st) M Q :=
  fun p e s m args below meth c C K H locs ls hH hS hl => lv_lstore_n C.1 C.2.1 hd rfl hl hn hl0 (fun _ hl => (kk p e s m args below meth c C K H locs _ hH hS hl))
theorem li_lstore {i : Nat} {x : Int64} (lo' : List (Nat × Value)) (hd : decode Y.2.1 pc = .ok (.lstore i, 2)) (hn : i + 1 < Y.2.2.1) (hl0 : (i, Value.long x) :: lo.filter (fun q => !(q.1 == i) && (!(q.1 == i + 1) && !(q.1 + 1 == i && q.2.category == 2))) = lo') (kk : li_T l Z Y d (pc + 2) lo' (st) M Q) : li_T l Z Y d pc lo (.long x :: st) M Q :=
  fun p e s m args below meth c C K H locs ls hH hS hl => lv_lstore C.1 C.2.1 hd hl hn hl0 (fun _ hl => (kk p e s m args below meth c C K H locs _ hH hS hl))
theorem li_iinc {i : Nat} {n : Int} {x : Int32} (q : Nat) (lo' : List (Nat × Value)) (v : Int32) (hd : decode Y.2.1 pc = .ok (.iinc i n, 3)) (hk : lo[q]? = some (i, .int x)) (hv : x + Int32.ofInt n = v) (hn : i < Y.2.2.1) (hl0 : (i, Value.int v) :: lo.filter (fun q => !(q.1 == i) && !(q.1 + 1 == i && q.2.category == 2)) = lo') (kk : li_T l Z Y d (pc + 3) lo' st M Q) : li_T l Z Y d pc lo st M Q :=
  fun p e s m args below meth c C K H locs ls hH hS hl => lv_iinc C.1 C.2.1 hd hl hk hv hn hl0 (fun _ hl => (kk p e s m args below meth c C K H locs _ hH hS hl))
theorem li_iconst {n : Int} (v : Int32) (hd : decode Y.2.1 pc = .ok (.iconst n, 1)) (hv : Int32.ofInt n = v) (kk : li_T l Z Y d (pc + 1) lo (.int v :: st) M Q) : li_T l Z Y d pc lo (st) M Q :=
  fun p e s m args below meth c C K H locs ls hH hS hl => lv_iconst C.1 C.2.1 hd hv (kk p e s m args below meth c C K H locs ls hH hS hl)
theorem li_bipush {n : Int} (v : Int32) (hd : decode Y.2.1 pc = .ok (.bipush n, 2)) (hv : (Int8.ofInt n).toInt32 = v) (kk : li_T l Z Y d (pc + 2) lo (.int v :: st) M Q) : li_T l Z Y d pc lo (st) M Q :=
  fun p e s m args below meth c C K H locs ls hH hS hl => lv_bipush C.1 C.2.1 hd hv (kk p e s m args below meth c C K H locs ls hH hS hl)
theorem li_sipush {n : Int} (v : Int32) (hd : decode Y.2.1 pc = .ok (.sipush n, 3)) (hv : (Int16.ofInt n).toInt32 = v) (kk : li_T l Z Y d (pc + 3) lo (.int v :: st) M Q) : li_T l Z Y d pc lo (st) M Q :=
  fun p e s m args below meth c C K H locs ls hH hS hl => lv_sipush C.1 C.2.1 hd hv (kk p e s m args below meth c C K H locs ls hH hS hl)
theorem li_lconst {n : Fin 2} (v : Int64) (hd : decode Y.2.1 pc = .ok (.lconst n, 1)) (hv : Int64.ofNat (n : Nat) = v) (kk : li_T l Z Y d (pc + 1) lo (.long v :: st) M Q) : li_T l Z Y d pc lo (st) M Q :=
  fun p e s m args below meth c C K H locs ls hH hS hl => lv_lconst C.1 C.2.1 hd hv (kk p e s m args below meth c C K H locs ls hH hS hl)
theorem li_ldc {ix : Nat} (v : Int32) (hd : decode Y.2.1 pc = .ok (.ldc ix, 2)) (hw : Cond.constant Y.1.cls ix v ∈ li_ws) (kk : li_T l Z Y d (pc + 2) lo (.int v :: st) M Q) : li_T l Z Y d pc lo (st) M Q :=
  fun p e s m args below meth c C K H locs ls hH hS hl => lv_ldc C.1 C.2.1 C.2.2.2.1 (C.2.2.2.2.1 _ hw) hd (kk p e s m args below meth c C K H locs ls hH hS hl)
theorem li_ldcw {ix : Nat} (v : Int32) (hd : decode Y.2.1 pc = .ok (.ldc_w ix, 3)) (hw : Cond.constant Y.1.cls ix v ∈ li_ws) (kk : li_T l Z Y d (pc + 3) lo (.int v :: st) M Q) : li_T l Z Y d pc lo (st) M Q :=
  fun p e s m args below meth c C K H locs ls hH hS hl => lv_ldcw C.1 C.2.1 C.2.2.2.1 (C.2.2.2.2.1 _ hw) hd (kk p e s m args below meth c C K H locs ls hH hS hl)
theorem li_ldc2 {ix : Nat} (v : Int64) (hd : decode Y.2.1 pc = .ok (.ldc2_w ix, 3)) (hw : Cond.constantLong Y.1.cls ix v ∈ li_ws) (kk : li_T l Z Y d (pc + 3) lo (.long v :: st) M Q) : li_T l Z Y d pc lo (st) M Q :=
  fun p e s m args below meth c C K H locs ls hH hS hl => lv_ldc2 C.1 C.2.1 C.2.2.2.1 (C.2.2.2.2.1 _ hw) hd (kk p e s m args below meth c C K H locs ls hH hS hl)
theorem li_iadd {x y : Int32} (hd : decode Y.2.1 pc = .ok (.iadd, 1))  (kk : li_T l Z Y d (pc + 1) lo (.int (x + y) :: st) M Q) : li_T l Z Y d pc lo (.int y :: .int x :: st) M Q :=
  fun p e s m args below meth c C K H locs ls hH hS hl => lv_iadd C.1 C.2.1 hd (kk p e s m args below meth c C K H locs ls hH hS hl)
theorem li_isub {x y : Int32} (hd : decode Y.2.1 pc = .ok (.isub, 1))  (kk : li_T l Z Y d (pc + 1) lo (.int (x - y) :: st) M Q) : li_T l Z Y d pc lo (.int y :: .int x :: st) M Q :=
  fun p e s m args below meth c C K H locs ls hH hS hl => lv_isub C.1 C.2.1 hd (kk p e s m args below meth c C K H locs ls hH hS hl)
theorem li_imul {x y : Int32} (hd : decode Y.2.1 pc = .ok (.imul, 1))  (kk : li_T l Z Y d (pc + 1) lo (.int (x * y) :: st) M Q) : li_T l Z Y d pc lo (.int y :: .int x :: st) M Q :=
  fun p e s m args below meth c C K H locs ls hH hS hl => lv_imul C.1 C.2.1 hd (kk p e s m args below meth c C K H locs ls hH hS hl)
theorem li_iand {x y : Int32} (hd : decode Y.2.1 pc = .ok (.iand, 1))  (kk : li_T l Z Y d (pc + 1) lo (.int (x &&& y) :: st) M Q) : li_T l Z Y d pc lo (.int y :: .int x :: st) M Q :=
  fun p e s m args below meth c C K H locs ls hH hS hl => lv_iand C.1 C.2.1 hd (kk p e s m args below meth c C K H locs ls hH hS hl)
theorem li_ior {x y : Int32} (hd : decode Y.2.1 pc = .ok (.ior, 1))  (kk : li_T l Z Y d (pc + 1) lo (.int (x ||| y) :: st) M Q) : li_T l Z Y d pc lo (.int y :: .int x :: st) M Q :=
  fun p e s m args below meth c C K H locs ls hH hS hl => lv_ior C.1 C.2.1 hd (kk p e s m args below meth c C K H locs ls hH hS hl)
theorem li_ixor {x y : Int32} (hd : decode Y.2.1 pc = .ok (.ixor, 1))  (kk : li_T l Z Y d (pc + 1) lo (.int (x ^^^ y) :: st) M Q) : li_T l Z Y d pc lo (.int y :: .int x :: st) M Q :=
  fun p e s m args below meth c C K H locs ls hH hS hl => lv_ixor C.1 C.2.1 hd (kk p e s m args below meth c C K H locs ls hH hS hl)
theorem li_ladd {x y : Int64} (hd : decode Y.2.1 pc = .ok (.ladd, 1))  (kk : li_T l Z Y d (pc + 1) lo (.long (x + y) :: st) M Q) : li_T l Z Y d pc lo (.long y :: .long x :: st) M Q :=
  fun p e s m args below meth c C K H locs ls hH hS hl => lv_ladd C.1 C.2.1 hd (kk p e s m args below meth c C K H locs ls hH hS hl)
theorem li_lsub {x y : Int64} (hd : decode Y.2.1 pc = .ok (.lsub, 1))  (kk : li_T l Z Y d (pc + 1) lo (.long (x - y) :: st) M Q) : li_T l Z Y d pc lo (.long y :: .long x :: st) M Q :=
  fun p e s m args below meth c C K H locs ls hH hS hl => lv_lsub C.1 C.2.1 hd (kk p e s m args below meth c C K H locs ls hH hS hl)
theorem li_land {x y : Int64} (hd : decode Y.2.1 pc = .ok (.land, 1))  (kk : li_T l Z Y d (pc + 1) lo (.long (x &&& y) :: st) M Q) : li_T l Z Y d pc lo (.long y :: .long x :: st) M Q :=
  fun p e s m args below meth c C K H locs ls hH hS hl => lv_land C.1 C.2.1 hd (kk p e s m args below meth c C K H locs ls hH hS hl)
theorem li_lor {x y : Int64} (hd : decode Y.2.1 pc = .ok (.lor, 1))  (kk : li_T l Z Y d (pc + 1) lo (.long (x ||| y) :: st) M Q) : li_T l Z Y d pc lo (.long y :: .long x :: st) M Q :=
  fun p e s m args below meth c C K H locs ls hH hS hl => lv_lor C.1 C.2.1 hd (kk p e s m args below meth c C K H locs ls hH hS hl)
theorem li_ineg {x : Int32} (hd : decode Y.2.1 pc = .ok (.ineg, 1))  (kk : li_T l Z Y d (pc + 1) lo (.int (-x) :: st) M Q) : li_T l Z Y d pc lo (.int x :: st) M Q :=
  fun p e s m args below meth c C K H locs ls hH hS hl => lv_ineg C.1 C.2.1 hd (kk p e s m args below meth c C K H locs ls hH hS hl)
theorem li_idiv {x y : Int32} (hd : decode Y.2.1 pc = .ok (.idiv, 1)) (hne : ¬ y = 0) (kk : li_T l Z Y d (pc + 1) lo (.int (x / y) :: st) M Q) : li_T l Z Y d pc lo (.int y :: .int x :: st) M Q :=
  fun p e s m args below meth c C K H locs ls hH hS hl => lv_idiv C.1 C.2.1 hd hne (kk p e s m args below meth c C K H locs ls hH hS hl)
theorem li_irem {x y : Int32} (hd : decode Y.2.1 pc = .ok (.irem, 1)) (hne : ¬ y = 0) (kk : li_T l Z Y d (pc + 1) lo (.int (x - x / y * y) :: st) M Q) : li_T l Z Y d pc lo (.int y :: .int x :: st) M Q :=
  fun p e s m args below meth c C K H locs ls hH hS hl => lv_irem C.1 C.2.1 hd hne (kk p e s m args below meth c C K H locs ls hH hS hl)
theorem li_ldiv {x y : Int64} (hd : decode Y.2.1 pc = .ok (.ldiv, 1)) (hne : ¬ y = 0) (kk : li_T l Z Y d (pc + 1) lo (.long (x / y) :: st) M Q) : li_T l Z Y d pc lo (.long y :: .long x :: st) M Q :=
  fun p e s m args below meth c C K H locs ls hH hS hl => lv_ldiv C.1 C.2.1 hd hne (kk p e s m args below meth c C K H locs ls hH hS hl)
theorem li_ishl {x y : Int32} (hd : decode Y.2.1 pc = .ok (.ishl, 1))  (kk : li_T l Z Y d (pc + 1) lo (.int (x <<< (y &&& 31)) :: st) M Q) : li_T l Z Y d pc lo (.int y :: .int x :: st) M Q :=
  fun p e s m args below meth c C K H locs ls hH hS hl => lv_ishl C.1 C.2.1 hd (kk p e s m args below meth c C K H locs ls hH hS hl)
theorem li_ishr {x y : Int32} (hd : decode Y.2.1 pc = .ok (.ishr, 1))  (kk : li_T l Z Y d (pc + 1) lo (.int (x >>> (y &&& 31)) :: st) M Q) : li_T l Z Y d pc lo (.int y :: .int x :: st) M Q :=
  fun p e s m args below meth c C K H locs ls hH hS hl => lv_ishr C.1 C.2.1 hd (kk p e s m args below meth c C K H locs ls hH hS hl)
theorem li_iushr {x y : Int32} (hd : decode Y.2.1 pc = .ok (.iushr, 1))  (kk : li_T l Z Y d (pc + 1) lo (.int ((x.toUInt32 >>> (y.toUInt32 &&& Int32.toUInt32 31)).toInt32) :: st) M Q) : li_T l Z Y d pc lo (.int y :: .int x :: st) M Q :=
  fun p e s m args below meth c C K H locs ls hH hS hl => lv_iushr C.1 C.2.1 hd rfl (kk p e s m args below meth c C K H locs ls hH hS hl)
theorem li_lshl {x : Int64} {y : Int32} (hd : decode Y.2.1 pc = .ok (.lshl, 1))  (kk : li_T l Z Y d (pc + 1) lo (.long (x <<< (y.toInt64 &&& 63)) :: st) M Q) : li_T l Z Y d pc lo (.int y :: .long x :: st) M Q :=
  fun p e s m args below meth c C K H locs ls hH hS hl => lv_lshl C.1 C.2.1 hd rfl (kk p e s m args below meth c C K H locs ls hH hS hl)
theorem li_lushr {x : Int64} {y : Int32} (hd : decode Y.2.1 pc = .ok (.lushr, 1))  (kk : li_T l Z Y d (pc + 1) lo (.long ((x.toUInt64 >>> (y.toInt64.toUInt64 &&& Int64.toUInt64 63)).toInt64) :: st) M Q) : li_T l Z Y d pc lo (.int y :: .long x :: st) M Q :=
  fun p e s m args below meth c C K H locs ls hH hS hl => lv_lushr C.1 C.2.1 hd rfl (kk p e s m args below meth c C K H locs ls hH hS hl)
theorem li_i2l {x : Int32} (hd : decode Y.2.1 pc = .ok (.i2l, 1))  (kk : li_T l Z Y d (pc + 1) lo (.long x.toInt64 :: st) M Q) : li_T l Z Y d pc lo (.int x :: st) M Q :=
  fun p e s m args below meth c C K H locs ls hH hS hl => lv_i2l C.1 C.2.1 hd rfl (kk p e s m args below meth c C K H locs ls hH hS hl)
theorem li_l2i {x : Int64} (hd : decode Y.2.1 pc = .ok (.l2i, 1))  (kk : li_T l Z Y d (pc + 1) lo (.int x.toInt32 :: st) M Q) : li_T l Z Y d pc lo (.long x :: st) M Q :=
  fun p e s m args below meth c C K H locs ls hH hS hl => lv_l2i C.1 C.2.1 hd rfl (kk p e s m args below meth c C K H locs ls hH hS hl)
theorem li_i2b {x : Int32} (hd : decode Y.2.1 pc = .ok (.i2b, 1))  (kk : li_T l Z Y d (pc + 1) lo (.int x.toInt8.toInt32 :: st) M Q) : li_T l Z Y d pc lo (.int x :: st) M Q :=
  fun p e s m args below meth c C K H locs ls hH hS hl => lv_i2b C.1 C.2.1 hd rfl (kk p e s m args below meth c C K H locs ls hH hS hl)
theorem li_i2s {x : Int32} (hd : decode Y.2.1 pc = .ok (.i2s, 1))  (kk : li_T l Z Y d (pc + 1) lo (.int x.toInt16.toInt32 :: st) M Q) : li_T l Z Y d pc lo (.int x :: st) M Q :=
  fun p e s m args below meth c C K H locs ls hH hS hl => lv_i2s C.1 C.2.1 hd rfl (kk p e s m args below meth c C K H locs ls hH hS hl)
theorem li_i2c {x : Int32} (hd : decode Y.2.1 pc = .ok (.i2c, 1))  (kk : li_T l Z Y d (pc + 1) lo (.int (x.toUInt32 % 65536).toInt32 :: st) M Q) : li_T l Z Y d pc lo (.int x :: st) M Q :=
  fun p e s m args below meth c C K H locs ls hH hS hl => lv_i2c C.1 C.2.1 hd rfl (kk p e s m args below meth c C K H locs ls hH hS hl)
theorem li_lcmp {x y : Int64} (hd : decode Y.2.1 pc = .ok (.lcmp, 1))  (kk : li_T l Z Y d (pc + 1) lo (.int (lg_cmp x y) :: st) M Q) : li_T l Z Y d pc lo (.long y :: .long x :: st) M Q :=
  fun p e s m args below meth c C K H locs ls hH hS hl => W.lcmp C.1 C.2.1 hd (kk p e s m args below meth c C K H locs ls hH hS hl)
theorem li_dup {v : Value} (hd : decode Y.2.1 pc = .ok (.dup, 1)) (hv : v.category = 1) (kk : li_T l Z Y d (pc + 1) lo (v :: v :: st) M Q) : li_T l Z Y d pc lo (v :: st) M Q :=
  fun p e s m args below meth c C K H locs ls hH hS hl => lv_dup C.1 C.2.1 hd hv (kk p e s m args below meth c C K H locs ls hH hS hl)
theorem li_pop {v : Value} (hd : decode Y.2.1 pc = .ok (.pop, 1)) (hv : v.category = 1) (kk : li_T l Z Y d (pc + 1) lo (st) M Q) : li_T l Z Y d pc lo (v :: st) M Q :=
  fun p e s m args below meth c C K H locs ls hH hS hl => lv_pop C.1 C.2.1 hd hv (kk p e s m args below meth c C K H locs ls hH hS hl)
theorem li_dup_x1 {v w : Value} (hd : decode Y.2.1 pc = .ok (.dup_x1, 1)) (hv : v.category = 1) (hw : w.category = 1) (kk : li_T l Z Y d (pc + 1) lo (v :: w :: v :: st) M Q) : li_T l Z Y d pc lo (v :: w :: st) M Q :=
  fun p e s m args below meth c C K H locs ls hH hS hl => lv_dup_x1 C.1 C.2.1 hd hv hw (kk p e s m args below meth c C K H locs ls hH hS hl)
theorem li_dup2 {v w : Value} (hd : decode Y.2.1 pc = .ok (.dup2, 1)) (hv : v.category = 1) (hw : w.category = 1) (kk : li_T l Z Y d (pc + 1) lo (v :: w :: v :: w :: st) M Q) : li_T l Z Y d pc lo (v :: w :: st) M Q :=
  fun p e s m args below meth c C K H locs ls hH hS hl => lv_dup2_11 C.1 C.2.1 hd hv hw (kk p e s m args below meth c C K H locs ls hH hS hl)
theorem li_goto {off : Int} (tgt : Nat) (hd : decode Y.2.1 pc = .ok (.goto off, 3)) (ht : (pc : Int) + off = (tgt : Int)) (kk : li_T l Z Y d tgt lo st M Q) : li_T l Z Y d pc lo st M Q :=
  fun p e s m args below meth c C K H locs ls hH hS hl => lv_goto C.1 C.2.1 hd ht (kk p e s m args below meth c C K H locs ls hH hS hl)
theorem li_icmp_eq {x y : Int32} {off : Int} (tgt : Nat) (hd : decode Y.2.1 pc = .ok (.if_icmp .eq off, 3)) (ht : (pc : Int) + off = (tgt : Int)) (kt : x = y → li_T l Z Y d tgt lo st M Q) (kf : ¬ (x = y) → li_T l Z Y d (pc + 3) lo st M Q) : li_T l Z Y d pc lo (.int y :: .int x :: st) M Q :=
  fun p e s m args below meth c C K H locs ls hH hS hl => lv_icmp_eq C.1 C.2.1 hd ht (fun h => kt h p e s m args below meth c C K H locs ls hH hS hl) (fun h => kf h p e s m args below meth c C K H locs ls hH hS hl)
theorem li_if_eq {x : Int32} {off : Int} (tgt : Nat) (hd : decode Y.2.1 pc = .ok (.ifCond .eq off, 3)) (ht : (pc : Int) + off = (tgt : Int)) (kt : x = 0 → li_T l Z Y d tgt lo st M Q) (kf : ¬ (x = 0) → li_T l Z Y d (pc + 3) lo st M Q) : li_T l Z Y d pc lo (.int x :: st) M Q :=
  fun p e s m args below meth c C K H locs ls hH hS hl => lv_if_eq C.1 C.2.1 hd ht (fun h => kt h p e s m args below meth c C K H locs ls hH hS hl) (fun h => kf h p e s m args below meth c C K H locs ls hH hS hl)
theorem li_icmp_ne {x y : Int32} {off : Int} (tgt : Nat) (hd : decode Y.2.1 pc = .ok (.if_icmp .ne off, 3)) (ht : (pc : Int) + off = (tgt : Int)) (kt : x ≠ y → li_T l Z Y d tgt lo st M Q) (kf : x = y → li_T l Z Y d (pc + 3) lo st M Q) : li_T l Z Y d pc lo (.int y :: .int x :: st) M Q :=
  fun p e s m args below meth c C K H locs ls hH hS hl => lv_icmp_ne C.1 C.2.1 hd ht (fun h => kt h p e s m args below meth c C K H locs ls hH hS hl) (fun h => kf h p e s m args below meth c C K H locs ls hH hS hl)
theorem li_if_ne {x : Int32} {off : Int} (tgt : Nat) (hd : decode Y.2.1 pc = .ok (.ifCond .ne off, 3)) (ht : (pc : Int) + off = (tgt : Int)) (kt : x ≠ 0 → li_T l Z Y d tgt lo st M Q) (kf : x = 0 → li_T l Z Y d (pc + 3) lo st M Q) : li_T l Z Y d pc lo (.int x :: st) M Q :=
  fun p e s m args below meth c C K H locs ls hH hS hl => lv_if_ne C.1 C.2.1 hd ht (fun h => kt h p e s m args below meth c C K H locs ls hH hS hl) (fun h => kf h p e s m args below meth c C K H locs ls hH hS hl)
theorem li_icmp_lt {x y : Int32} {off : Int} (tgt : Nat) (hd : decode Y.2.1 pc = .ok (.if_icmp .lt off, 3)) (ht : (pc : Int) + off = (tgt : Int)) (kt : x < y → li_T l Z Y d tgt lo st M Q) (kf : ¬ (x < y) → li_T l Z Y d (pc + 3) lo st M Q) : li_T l Z Y d pc lo (.int y :: .int x :: st) M Q :=
  fun p e s m args below meth c C K H locs ls hH hS hl => lv_icmp_lt C.1 C.2.1 hd ht (fun h => kt h p e s m args below meth c C K H locs ls hH hS hl) (fun h => kf h p e s m args below meth c C K H locs ls hH hS hl)
theorem li_if_lt {x : Int32} {off : Int} (tgt : Nat) (hd : decode Y.2.1 pc = .ok (.ifCond .lt off, 3)) (ht : (pc : Int) + off = (tgt : Int)) (kt : x < 0 → li_T l Z Y d tgt lo st M Q) (kf : ¬ (x < 0) → li_T l Z Y d (pc + 3) lo st M Q) : li_T l Z Y d pc lo (.int x :: st) M Q :=
  fun p e s m args below meth c C K H locs ls hH hS hl => lv_if_lt C.1 C.2.1 hd ht (fun h => kt h p e s m args below meth c C K H locs ls hH hS hl) (fun h => kf h p e s m args below meth c C K H locs ls hH hS hl)
theorem li_icmp_ge {x y : Int32} {off : Int} (tgt : Nat) (hd : decode Y.2.1 pc = .ok (.if_icmp .ge off, 3)) (ht : (pc : Int) + off = (tgt : Int)) (kt : y ≤ x → li_T l Z Y d tgt lo st M Q) (kf : ¬ (y ≤ x) → li_T l Z Y d (pc + 3) lo st M Q) : li_T l Z Y d pc lo (.int y :: .int x :: st) M Q :=
  fun p e s m args below meth c C K H locs ls hH hS hl => lv_icmp_ge C.1 C.2.1 hd ht (fun h => kt h p e s m args below meth c C K H locs ls hH hS hl) (fun h => kf h p e s m args below meth c C K H locs ls hH hS hl)
theorem li_if_ge {x : Int32} {off : Int} (tgt : Nat) (hd : decode Y.2.1 pc = .ok (.ifCond .ge off, 3)) (ht : (pc : Int) + off = (tgt : Int)) (kt : 0 ≤ x → li_T l Z Y d tgt lo st M Q) (kf : ¬ (0 ≤ x) → li_T l Z Y d (pc + 3) lo st M Q) : li_T l Z Y d pc lo (.int x :: st) M Q :=
  fun p e s m args below meth c C K H locs ls hH hS hl => lv_if_ge C.1 C.2.1 hd ht (fun h => kt h p e s m args below meth c C K H locs ls hH hS hl) (fun h => kf h p e s m args below meth c C K H locs ls hH hS hl)
theorem li_icmp_gt {x y : Int32} {off : Int} (tgt : Nat) (hd : decode Y.2.1 pc = .ok (.if_icmp .gt off, 3)) (ht : (pc : Int) + off = (tgt : Int)) (kt : y < x → li_T l Z Y d tgt lo st M Q) (kf : ¬ (y < x) → li_T l Z Y d (pc + 3) lo st M Q) : li_T l Z Y d pc lo (.int y :: .int x :: st) M Q :=
  fun p e s m args below meth c C K H locs ls hH hS hl => lv_icmp_gt C.1 C.2.1 hd ht (fun h => kt h p e s m args below meth c C K H locs ls hH hS hl) (fun h => kf h p e s m args below meth c C K H locs ls hH hS hl)
theorem li_if_gt {x : Int32} {off : Int} (tgt : Nat) (hd : decode Y.2.1 pc = .ok (.ifCond .gt off, 3)) (ht : (pc : Int) + off = (tgt : Int)) (kt : 0 < x → li_T l Z Y d tgt lo st M Q) (kf : ¬ (0 < x) → li_T l Z Y d (pc + 3) lo st M Q) : li_T l Z Y d pc lo (.int x :: st) M Q :=
  fun p e s m args below meth c C K H locs ls hH hS hl => lv_if_gt C.1 C.2.1 hd ht (fun h => kt h p e s m args below meth c C K H locs ls hH hS hl) (fun h => kf h p e s m args below meth c C K H locs ls hH hS hl)
theorem li_icmp_le {x y : Int32} {off : Int} (tgt : Nat) (hd : decode Y.2.1 pc = .ok (.if_icmp .le off, 3)) (ht : (pc : Int) + off = (tgt : Int)) (kt : x ≤ y → li_T l Z Y d tgt lo st M Q) (kf : ¬ (x ≤ y) → li_T l Z Y d (pc + 3) lo st M Q) : li_T l Z Y d pc lo (.int y :: .int x :: st) M Q :=
  fun p e s m args below meth c C K H locs ls hH hS hl => lv_icmp_le C.1 C.2.1 hd ht (fun h => kt h p e s m args below meth c C K H locs ls hH hS hl) (fun h => kf h p e s m args below meth c C K H locs ls hH hS hl)
theorem li_if_le {x : Int32} {off : Int} (tgt : Nat) (hd : decode Y.2.1 pc = .ok (.ifCond .le off, 3)) (ht : (pc : Int) + off = (tgt : Int)) (kt : x ≤ 0 → li_T l Z Y d tgt lo st M Q) (kf : ¬ (x ≤ 0) → li_T l Z Y d (pc + 3) lo st M Q) : li_T l Z Y d pc lo (.int x :: st) M Q :=
  fun p e s m args below meth c C K H locs ls hH hS hl => lv_if_le C.1 C.2.1 hd ht (fun h => kt h p e s m args below meth c C K H locs ls hH hS hl) (fun h => kf h p e s m args below meth c C K H locs ls hH hS hl)
theorem li_ifnull {x : Nat} {off : Int} (hd : decode Y.2.1 pc = .ok (.ifnull off, 3))  (kk : li_T l Z Y d (pc + 3) lo (st) M Q) : li_T l Z Y d pc lo (.ref x :: st) M Q :=
  fun p e s m args below meth c C K H locs ls hH hS hl => lv_ifnull C.1 C.2.1 hd (kk p e s m args below meth c C K H locs ls hH hS hl)
theorem li_ifnonnull {x : Nat} {off : Int} (tgt : Nat) (hd : decode Y.2.1 pc = .ok (.ifnonnull off, 3)) (ht : (pc : Int) + off = (tgt : Int)) (kk : li_T l Z Y d tgt lo st M Q) : li_T l Z Y d pc lo (.ref x :: st) M Q :=
  fun p e s m args below meth c C K H locs ls hH hS hl => lv_ifnonnull C.1 C.2.1 hd ht (kk p e s m args below meth c C K H locs ls hH hS hl)
theorem li_table {dflt lw hi : Int} {offs : Array Int} {len : Nat} {x : Int32} (hd : decode Y.2.1 pc = .ok (.tableswitch dflt lw hi offs, len)) (tds : Nat) (htd : (pc : Int) + dflt = (tds : Int)) (ko : (x.toInt < lw ∨ hi < x.toInt) → li_T l Z Y d tds lo st M Q) (ki : ¬ x.toInt < lw → ¬ hi < x.toInt → ∃ (off : Int) (tgt : Nat), offs[(x.toInt - lw).toNat]? = some off ∧ (pc : Int) + off = (tgt : Int) ∧ li_T l Z Y d tgt lo st M Q) : li_T l Z Y d pc lo (.int x :: st) M Q := by
  intro p e s m args below meth c C K H locs ls hH hS hl
  by_cases h1 : x.toInt < lw
  · exact lv_tableOut C.1 C.2.1 hd (Or.inl h1) htd (ko (Or.inl h1) p e s m args below meth c C K H locs ls hH hS hl)
  · by_cases h2 : hi < x.toInt
    · exact lv_tableOut C.1 C.2.1 hd (Or.inr h2) htd (ko (Or.inr h2) p e s m args below meth c C K H locs ls hH hS hl)
    · obtain ⟨off, tgt, a1, a2, a3⟩ := ki h1 h2
      exact lv_tableIn C.1 C.2.1 hd h1 h2 a1 a2 (a3 p e s m args below meth c C K H locs ls hH hS hl)
theorem li_lookup {dflt : Int} {ps : Array (Int × Int)} {len : Nat} {x : Int32} {off : Int} (tgt : Nat) (hd : decode Y.2.1 pc = .ok (.lookupswitch dflt ps, len)) (hp : (ps.toList.zip (ps.toList.drop 1)).all (fun (a, next) => a.1 < next.1) = true) (ho : Op.lookupswitch.offset ps.toList dflt x.toInt = off) (ht : (pc : Int) + off = (tgt : Int)) (kk : li_T l Z Y d tgt lo st M Q) : li_T l Z Y d pc lo (.int x :: st) M Q :=
  fun p e s m args below meth c C K H locs ls hH hS hl => lv_lookup C.1 C.2.1 hd hp ho ht (kk p e s m args below meth c C K H locs ls hH hS hl)
theorem li_iret {x : Int32} {ty : FieldType} (hd : decode Y.2.1 pc = .ok (.ireturn, 1)) (hr : Y.2.2.2 = some ty) (hn : narrow ty (.int x) = .int x) (hq : Q (some (.int x)) M) : li_T l Z Y d pc lo [.int x] M Q :=
  fun p e s m args below meth c C K H locs ls hH hS hl => W.zret C.1 C.2.1 (C.2.2.2.2.2.1.trans hr) hn (fun t ht hW => ⟨⟨_, M, rfl, hq, by rw [ht]; exact hH⟩, hS.F ht⟩) hS.2.2 hd C.2.2.2.2.2.2
theorem li_lret {x : Int64} (hd : decode Y.2.1 pc = .ok (.lreturn, 1)) (hr : Y.2.2.2 = some .long) (hq : Q (some (.long x)) M) : li_T l Z Y d pc lo [.long x] M Q :=
  fun p e s m args below meth c C K H locs ls hH hS hl => W.lret C.1 C.2.1 (C.2.2.2.2.2.1.trans hr) (fun t ht hW => ⟨⟨_, M, rfl, hq, by rw [ht]; exact hH⟩, hS.F ht⟩) hS.2.2 hd C.2.2.2.2.2.2
theorem li_vret (hd : decode Y.2.1 pc = .ok (.return_, 1)) (hr : Y.2.2.2 = none) (hq : Q none M) : li_T l Z Y d pc lo [] M Q :=
  fun p e s m args below meth c C K H locs ls hH hS hl => W.vret C.1 C.2.1 (C.2.2.2.2.2.1.trans hr) (fun t ht hW => ⟨⟨_, M, rfl, hq, by rw [ht]; exact hH⟩, hS.F ht⟩) hS.2.2 hd C.2.2.2.2.2.2
end LIS
end
section
/-! THE STEPS that touch cells, and calls -/
section LIH
variable {l : Launch} {Z : li_Z} {Y : li_Y} {d pc : Nat} {lo lo' : List (Nat × Value)} {st : List Value} {M : li_M} {Q : Option Value → li_M → Prop}
theorem li_cellO {i ci : Nat} {sl : List (Option Nat)} (hs : li_sh i = .inl (ci, sl)) : li_cell Z M i = .inr (ci, li_ob Z M i 0 sl) := by
  unfold li_cell; rw [hs]
theorem li_cellA {i t n : Nat} (hs : li_sh i = .inr (t, n)) : li_cell Z M i = .inl (Z.2.1 (li_ct t), n, li_ar Z M i t) := by
  unfold li_cell; rw [hs]
/-- an int field -/
theorem li_geti {j ci k ix N : Nat} {T : u_T} {C0 : String} {sl : List (Option Nat)} (hd : decode Y.2.1 pc = .ok (.getfield ix, 3)) (hj : j < li_N) (hs : li_sh j = .inl (ci, sl)) (hc : vwCl[ci]? = some (C0, T, N)) (hk : sl[k]? = some none) (hkN : k < N) (hin : ∀ w ∈ u_ws C0 T N, w ∈ li_ws) (hw : Cond.fieldLink Y.1.cls ix (T k).1 (T k).2.1 (T k).2.2.1 ∈ li_ws)
    (kk : li_T l Z Y d (pc + 3) lo (.int (M.1 j k) :: st) M Q) : li_T l Z Y d pc lo (.ref (Z.2.2 j) :: st) M Q := by
  intro p e s m args below meth c C K H locs ls hH hS hl
  refine va_get (D := Z.1) (ci := ci) (v := .int (M.1 j k)) (C := C0) (T := T) (N := N) (fs := li_ob Z M j 0 sl) C.1 C.2.1 C.2.2.2.2.1 hin C.2.2.2.1 K.1 hH j (by rw [li_get hj, li_cellO hs]) hc k hkN (C.2.2.2.2.1 _ hw) (fun _ h => h) (by rw [li_ob_get, hk]; simp) hd (kk p e s m args below meth c C K H locs ls hH hS hl)
/-- a reference field that stays -/
theorem li_getr {j ci k ix N q : Nat} {T : u_T} {C0 : String} {sl : List (Option Nat)} (hd : decode Y.2.1 pc = .ok (.getfield ix, 3)) (hj : j < li_N) (hs : li_sh j = .inl (ci, sl)) (hc : vwCl[ci]? = some (C0, T, N)) (hk : sl[k]? = some (some q)) (hq : q < 1000) (hkN : k < N) (hin : ∀ w ∈ u_ws C0 T N, w ∈ li_ws) (hw : Cond.fieldLink Y.1.cls ix (T k).1 (T k).2.1 (T k).2.2.1 ∈ li_ws)
    (kk : li_T l Z Y d (pc + 3) lo (.ref (Z.2.2 q) :: st) M Q) : li_T l Z Y d pc lo (.ref (Z.2.2 j) :: st) M Q := by
  intro p e s m args below meth c C K H locs ls hH hS hl
  refine va_get (D := Z.1) (ci := ci) (v := .ref (Z.2.2 q)) (C := C0) (T := T) (N := N) (fs := li_ob Z M j 0 sl) C.1 C.2.1 C.2.2.2.2.1 hin C.2.2.2.1 K.1 hH j (by rw [li_get hj, li_cellO hs]) hc k hkN (C.2.2.2.2.1 _ hw) (fun _ h => h) (by rw [li_ob_get, hk]; simp [li_rv, hq]) hd (kk p e s m args below meth c C K H locs ls hH hS hl)
/-- a reference field that changes, holding the cell q -/
theorem li_getm {j ci k ix N r q : Nat} {T : u_T} {C0 : String} {sl : List (Option Nat)} (hd : decode Y.2.1 pc = .ok (.getfield ix, 3)) (hj : j < li_N) (hs : li_sh j = .inl (ci, sl)) (hc : vwCl[ci]? = some (C0, T, N)) (hk : sl[k]? = some (some (1000 + r))) (hr : M.2.2 r = some q) (hkN : k < N) (hin : ∀ w ∈ u_ws C0 T N, w ∈ li_ws) (hw : Cond.fieldLink Y.1.cls ix (T k).1 (T k).2.1 (T k).2.2.1 ∈ li_ws)
    (kk : li_T l Z Y d (pc + 3) lo (.ref (Z.2.2 q) :: st) M Q) : li_T l Z Y d pc lo (.ref (Z.2.2 j) :: st) M Q := by
  intro p e s m args below meth c C K H locs ls hH hS hl
  refine va_get (D := Z.1) (ci := ci) (v := .ref (Z.2.2 q)) (C := C0) (T := T) (N := N) (fs := li_ob Z M j 0 sl) C.1 C.2.1 C.2.2.2.2.1 hin C.2.2.2.1 K.1 hH j (by rw [li_get hj, li_cellO hs]) hc k hkN (C.2.2.2.2.1 _ hw) (fun _ h => h) (by rw [li_ob_get, hk]; simp [li_rv, hr, va_rf, show ¬ 1000 + r < 1000 by omega]) hd (kk p e s m args below meth c C K H locs ls hH hS hl)
/-- an int (or boolean) field is set -/
theorem li_puti {j ci k ix N : Nat} {T : u_T} {C0 : String} {sl : List (Option Nat)} {x : Int32} {ty0 : Nat → FieldType} {ty : FieldType} (hd : decode Y.2.1 pc = .ok (.putfield ix, 3)) (hj : j < li_N) (hs : li_sh j = .inl (ci, sl)) (hc : vwCl[ci]? = some (C0, T, N)) (hk : sl[k]? = some none) (hkN : k < N) (hin : ∀ w ∈ u_ws C0 T N, w ∈ li_ws) (hty : ∀ k, k < N → parseFieldDescriptor (T k).2.2.1 = some (ty0 k)) (hnm : ∀ a, a < N → ∀ b, b < N → a ≠ b → (T a).2.1 ≠ (T b).2.1) (hfin : (T k).2.2.2 = false) (hdesc : parseFieldDescriptor (T k).2.2.1 = some ty) (hn : narrow ty (.int x) = .int x) (hf : fits ty (.int x) = true) (hw : Cond.fieldLink Y.1.cls ix (T k).1 (T k).2.1 (T k).2.2.1 ∈ li_ws)
    (kk : li_T l Z Y d (pc + 3) lo st (li_ui M j k x) Q) : li_T l Z Y d pc lo (.int x :: .ref (Z.2.2 j) :: st) M Q := by
  intro p e s m args below meth c C K H locs ls hH hS hl
  refine va_put (D := Z.1) (ci := ci) (v := .int x) (ty := ty) (C := C0) (T := T) (N := N) (fs := li_ob Z M j 0 sl) C.1 C.2.1 C.2.2.2.2.1 hin ty0 hty hnm C.2.2.2.1 K.1 hH (li_D K.2.1) hS j (by rw [li_get hj, li_cellO hs]) hc k hkN (C.2.2.2.2.1 _ hw) (fun _ h => h) hfin hdesc hn hf (by rw [li_ob_len]; exact (List.getElem?_eq_some_iff.mp hk).1) hd (fun H1 locs1 hP hD hS1 => ?_)
  have e0 : (li_wd Z M).set j (Z.2.2 j, .inr (ci, (li_ob Z M j 0 sl).set k (.int x))) = li_wd Z (li_ui M j k x) := by
    have e1 := li_ob_set (Z := Z) (M := M) (i := j) (x := x) sl 0 k hk
    rw [Nat.zero_add] at e1
    rw [← e1, ← li_cellO (Z := Z) (M := li_ui M j k x) hs]
    exact li_set hj li_cell_ne
  rw [e0] at hP
  exact kk p e s m args below meth c C K H1 locs1 ls hP hS1 hl
/-- an int array read -/
theorem li_iald {j n : Nat} {i : Int32} (hd : decode Y.2.1 pc = .ok (.iaload, 1)) (hj : j < li_N) (hs : li_sh j = .inr (0, n)) (hi : vp_in i n) (kk : li_T l Z Y d (pc + 1) lo (.int (M.1 j i.toNatClampNeg) :: st) M Q) : li_T l Z Y d pc lo (.int i :: .ref (Z.2.2 j) :: st) M Q := by
  intro p e s m args below meth c C K H locs ls hH hS hl
  exact va_iald (D := Z.1) (f := M.1 j) C.1 C.2.1 K.1 hH j 0 (by rw [li_get hj, li_cellA hs]; rfl) rfl hi hd (kk p e s m args below meth c C K H locs ls hH hS hl)
theorem li_bald {j n : Nat} {i : Int32} (hd : decode Y.2.1 pc = .ok (.baload, 1)) (hj : j < li_N) (hs : li_sh j = .inr (2, n)) (hi : vp_in i n) (kk : li_T l Z Y d (pc + 1) lo (.int (M.1 j i.toNatClampNeg) :: st) M Q) : li_T l Z Y d pc lo (.int i :: .ref (Z.2.2 j) :: st) M Q := by
  intro p e s m args below meth c C K H locs ls hH hS hl
  exact va_bald (D := Z.1) (f := M.1 j) C.1 C.2.1 K.1 hH j 2 (by rw [li_get hj, li_cellA hs]; rfl) rfl hi hd (kk p e s m args below meth c C K H locs ls hH hS hl)
theorem li_zald {j n : Nat} {i : Int32} (hd : decode Y.2.1 pc = .ok (.baload, 1)) (hj : j < li_N) (hs : li_sh j = .inr (3, n)) (hi : vp_in i n) (kk : li_T l Z Y d (pc + 1) lo (.int (M.1 j i.toNatClampNeg) :: st) M Q) : li_T l Z Y d pc lo (.int i :: .ref (Z.2.2 j) :: st) M Q := by
  intro p e s m args below meth c C K H locs ls hH hS hl
  exact va_zald (D := Z.1) (f := M.1 j) C.1 C.2.1 K.1 hH j 3 (by rw [li_get hj, li_cellA hs]; rfl) rfl hi hd (kk p e s m args below meth c C K H locs ls hH hS hl)
theorem li_lald {j n : Nat} {i : Int32} (hd : decode Y.2.1 pc = .ok (.laload, 1)) (hj : j < li_N) (hs : li_sh j = .inr (1, n)) (hi : vp_in i n) (kk : li_T l Z Y d (pc + 1) lo (.long (M.2.1 j i.toNatClampNeg) :: st) M Q) : li_T l Z Y d pc lo (.int i :: .ref (Z.2.2 j) :: st) M Q := by
  intro p e s m args below meth c C K H locs ls hH hS hl
  exact va_lald (D := Z.1) (f := M.2.1 j) C.1 C.2.1 K.1 hH j 1 (by rw [li_get hj, li_cellA hs]; rfl) rfl hi hd (kk p e s m args below meth c C K H locs ls hH hS hl)
/-- the ledgers' row -/
theorem li_aald {j n b : Nat} {i : Int32} (hd : decode Y.2.1 pc = .ok (.aaload, 1)) (hj : j < li_N) (hs : li_sh j = .inr (100 + b, n)) (hi : vp_in i n) (kk : li_T l Z Y d (pc + 1) lo (.ref (Z.2.2 (b + 8 * i.toNatClampNeg)) :: st) M Q) : li_T l Z Y d pc lo (.int i :: .ref (Z.2.2 j) :: st) M Q := by
  intro p e s m args below meth c C K H locs ls hH hS hl
  have e1 : li_ar Z M j (100 + b) = .inr (.inr (.inr (.inr (fun j => some (Z.2.2 (b + 8 * j)))))) := by
    unfold li_ar
    rw [if_neg (by omega)]
    simp
  have e2 : li_ct (100 + b) = 4 := by unfold li_ct; rw [if_neg (by omega)]
  refine va_aldq (D := Z.1) (C := "ClockForTalk$Ledger") (f := fun j => some (Z.2.2 (b + 8 * j))) (cA := Z.2.1 4) (n := n) C.1 C.2.1 K.1 hH j 4 (by rw [li_get hj, li_cellA hs, e1, e2]) rfl hi hd (kk p e s m args below meth c C K H locs ls hH hS hl)
theorem li_alen {j t n : Nat} (v : Int32) (hd : decode Y.2.1 pc = .ok (.arraylength, 1)) (hj : j < li_N) (hs : li_sh j = .inr (t, n)) (ht : t < 4 ∨ 100 ≤ t) (hv : Int32.ofNat n = v) (kk : li_T l Z Y d (pc + 1) lo (.int v :: st) M Q) : li_T l Z Y d pc lo (.ref (Z.2.2 j) :: st) M Q := by
  intro p e s m args below meth c C K H locs ls hH hS hl
  have hk := kk p e s m args below meth c C K H locs ls hH hS hl
  rcases ht with ht | ht
  · rcases (show t = 0 ∨ t = 1 ∨ t = 2 ∨ t = 3 by omega) with rfl | rfl | rfl | rfl
    · exact va_alen (D := Z.1) C.1 C.2.1 K.1 hH j 0 (x := (n, li_ar Z M j 0)) (by rw [li_get hj, li_cellA hs]; rfl) rfl hv hd hk
    · exact va_alen (D := Z.1) C.1 C.2.1 K.1 hH j 1 (x := (n, li_ar Z M j 1)) (by rw [li_get hj, li_cellA hs]; rfl) rfl hv hd hk
    · exact va_alen (D := Z.1) C.1 C.2.1 K.1 hH j 2 (x := (n, li_ar Z M j 2)) (by rw [li_get hj, li_cellA hs]; rfl) rfl hv hd hk
    · exact va_alen (D := Z.1) C.1 C.2.1 K.1 hH j 3 (x := (n, li_ar Z M j 3)) (by rw [li_get hj, li_cellA hs]; rfl) rfl hv hd hk
  · have e2 : li_ct t = 4 := by unfold li_ct; rw [if_neg (by omega)]
    exact va_alen (D := Z.1) C.1 C.2.1 K.1 hH j 4 (x := (n, li_ar Z M j t)) (by rw [li_get hj, li_cellA hs, e2]) rfl hv hd hk
/-- an int array written -/
theorem li_iast {j n : Nat} {i x : Int32} (hd : decode Y.2.1 pc = .ok (.iastore, 1)) (hj : j < li_N) (hs : li_sh j = .inr (0, n)) (hi : vp_in i n) (kk : li_T l Z Y d (pc + 1) lo st (li_ui M j i.toNatClampNeg x) Q) : li_T l Z Y d pc lo (.int x :: .int i :: .ref (Z.2.2 j) :: st) M Q := by
  intro p e s m args below meth c C K H locs ls hH hS hl
  refine va_iast (D := Z.1) (f := M.1 j) C.1 C.2.1 K.1 hH (li_D K.2.1) hS j 0 (by rw [li_get hj, li_cellA hs]; rfl) rfl hi hd (fun H1 locs1 hP hD hS1 => ?_)
  have e0 : (li_wd Z M).set j (Z.2.2 j, .inl (Z.2.1 0, n, .inl (upd (M.1 j) i.toNatClampNeg x))) = li_wd Z (li_ui M j i.toNatClampNeg x) := by
    rw [← li_set (Z := Z) (M := M) (M' := li_ui M j i.toNatClampNeg x) hj li_cell_ne, li_cellA hs]
    simp [li_ct, li_ar, li_ui, upd]
    rfl
  rw [e0] at hP
  exact kk p e s m args below meth c C K H1 locs1 ls hP hS1 hl
theorem li_bast {j n : Nat} {i x : Int32} (hd : decode Y.2.1 pc = .ok (.bastore, 1)) (hj : j < li_N) (hs : li_sh j = .inr (2, n)) (hi : vp_in i n) (kk : li_T l Z Y d (pc + 1) lo st (li_ui M j i.toNatClampNeg x.toInt8.toInt32) Q) : li_T l Z Y d pc lo (.int x :: .int i :: .ref (Z.2.2 j) :: st) M Q := by
  intro p e s m args below meth c C K H locs ls hH hS hl
  refine va_bast (D := Z.1) (f := M.1 j) C.1 C.2.1 K.1 hH (li_D K.2.1) hS j 2 (by rw [li_get hj, li_cellA hs]; rfl) rfl hi hd (fun H1 locs1 hP hD hS1 => ?_)
  rw [vp_nar_byte] at hP
  have e0 : (li_wd Z M).set j (Z.2.2 j, .inl (Z.2.1 2, n, .inl (upd (M.1 j) i.toNatClampNeg x.toInt8.toInt32))) = li_wd Z (li_ui M j i.toNatClampNeg x.toInt8.toInt32) := by
    rw [← li_set (Z := Z) (M := M) (M' := li_ui M j i.toNatClampNeg x.toInt8.toInt32) hj li_cell_ne, li_cellA hs]
    simp [li_ct, li_ar, li_ui, upd]
    rfl
  rw [e0] at hP
  exact kk p e s m args below meth c C K H1 locs1 ls hP hS1 hl
theorem li_zast {j n : Nat} {i x : Int32} (hd : decode Y.2.1 pc = .ok (.bastore, 1)) (hj : j < li_N) (hs : li_sh j = .inr (3, n)) (hi : vp_in i n) (hx : x = 0 ∨ x = 1) (kk : li_T l Z Y d (pc + 1) lo st (li_ui M j i.toNatClampNeg x) Q) : li_T l Z Y d pc lo (.int x :: .int i :: .ref (Z.2.2 j) :: st) M Q := by
  intro p e s m args below meth c C K H locs ls hH hS hl
  refine va_zast (D := Z.1) (f := M.1 j) C.1 C.2.1 K.1 hH (li_D K.2.1) hS j 3 (by rw [li_get hj, li_cellA hs]; rfl) rfl hi hd (fun H1 locs1 hP hD hS1 => ?_)
  have ex : vp_nar .boolean x = x := by
    rcases hx with rfl | rfl <;> rfl
  rw [ex] at hP
  have e0 : (li_wd Z M).set j (Z.2.2 j, .inl (Z.2.1 3, n, .inl (upd (M.1 j) i.toNatClampNeg x))) = li_wd Z (li_ui M j i.toNatClampNeg x) := by
    rw [← li_set (Z := Z) (M := M) (M' := li_ui M j i.toNatClampNeg x) hj li_cell_ne, li_cellA hs]
    simp [li_ct, li_ar, li_ui, upd]
    rfl
  rw [e0] at hP
  exact kk p e s m args below meth c C K H1 locs1 ls hP hS1 hl
theorem li_last {j n : Nat} {i : Int32} {x : Int64} (hd : decode Y.2.1 pc = .ok (.lastore, 1)) (hj : j < li_N) (hs : li_sh j = .inr (1, n)) (hi : vp_in i n) (kk : li_T l Z Y d (pc + 1) lo st (li_ul M j i.toNatClampNeg x) Q) : li_T l Z Y d pc lo (.long x :: .int i :: .ref (Z.2.2 j) :: st) M Q := by
  intro p e s m args below meth c C K H locs ls hH hS hl
  refine va_last (D := Z.1) (f := M.2.1 j) C.1 C.2.1 K.1 hH (li_D K.2.1) hS j 1 (by rw [li_get hj, li_cellA hs]; rfl) rfl hi hd (fun H1 locs1 hP hD hS1 => ?_)
  have e0 : (li_wd Z M).set j (Z.2.2 j, .inl (Z.2.1 1, n, .inr (.inl (vp_updL (M.2.1 j) i.toNatClampNeg x)))) = li_wd Z (li_ul M j i.toNatClampNeg x) := by
    rw [← li_set (Z := Z) (M := M) (M' := li_ul M j i.toNatClampNeg x) hj li_cell_neL, li_cellA hs]
    simp [li_ct, li_ar, li_ul, vp_updL]
    rfl
  rw [e0] at hP
  exact kk p e s m args below meth c C K H1 locs1 ls hP hS1 hl
end LIH
end
section
/-! CALLS -/
def li_isN : Cond → Bool
  | .methodLinkNest _ _ _ _ => true
  | .fieldLinkNest _ _ _ _ _ _ => true
  | _ => false
theorem li_nw_ok : li_nw.all li_isN = true := by decide +kernel
theorem li_nw_warm {w : Cond} {s U : State} (h : li_isN w = true) (hW : s.WarmedH U.vm) (hZ : va_Nw w s) : va_Nw w U := by
  cases w with
  | methodLinkNest a b c d => exact va_Nw.warmM hW hZ
  | fieldLinkNest a b c d e f => exact va_Nw.warmF hW hZ
  | _ => cases h
theorem li_nw_on {w : Cond} (h : li_isN w = true) : w.onTables = true := by
  cases w with
  | methodLinkNest a b c d => rfl
  | fieldLinkNest a b c d e f => rfl
  | _ => cases h
theorem li_K_warm {Z : li_Z} {s U : State} {H : Heap} {locs : List Loc} (hW : s.WarmedH U.vm) (hU : U.heap = H) (hS : va_S (li_A Z) s.heap H locs) (h : li_K Z s) : li_K Z U :=
  ⟨va_K.moved hW.alike h.1, h.2.1, fun w hw => li_nw_warm (List.all_eq_true.mp li_nw_ok w hw) hW (h.2.2.1 w hw), li_E.moved hW.alike (h.2.2.2.1.kept fun a h1 h2 => by rw [hU]; exact hS.2.1 a h1 h2), fun i hi => vk_R.warm hW (h.2.2.2.2 i hi)⟩
theorem li_blind {Z : li_Z} {M : li_M} {av : List Value} : FrameBlind (va_Pc av (fun U => li_H Z M U.heap ∧ li_K Z U)) := by
  intro a U g mk h
  obtain ⟨h1, h2, h3, h4, h5, h6, h7⟩ := h
  exact ⟨h1, h2, va_K.moved (u := U) (U := U.calling g mk a) (Vm.Alike.refl U.vm) h3, h4, fun w hw => va_Nw.same (u := U) (U := U.calling g mk a) (li_nw_on (List.all_eq_true.mp li_nw_ok w hw)) rfl (h5 w hw), li_E.moved (u := U) (U := U.calling g mk a) (Vm.Alike.refl U.vm) h6, fun i hi => vk_R.same (u := U) (U := U.calling g mk a) rfl (h7 i hi)⟩
section LIC
variable {l : Launch} {Z : li_Z} {Y Y' : li_Y} {d d' pc ix : Nat} {lo : List (Nat × Value)} {st rest : List Value} {M : li_M} {Q Q' : Option Value → li_M → Prop}
theorem li_good (hc : Cond.code Y'.1 Y'.2.1 Y'.2.2.1 Y'.2.2.2 ∈ li_ws) : GoodIn li_ws (li_wy Y') := by
  have key : ∀ w ∈ li_ws, (w.onTables && w.keeps) = true ∨ ∃ ty, w = .arrayClass ty := fun w hw => good_of_word (List.mem_filter.mp hw).2
  intro w hw
  rcases List.mem_cons.mp hw with rfl | hw
  · exact ⟨hc, key _ hc⟩
  · exact ⟨hw, key _ hw⟩
/-- what is behind a call: every answer, at every state that the callee's end allows -/
theorem li_behind {p : Program} {e : Env} {s : State} {m : MethodId} {args : Array Value} {below : List Frame} {meth : Method} {c : Code} {H : Heap} {locs : List Loc} {ls : Array Slot} {a : Array Value} {st0 : List Value} {R : Room} {Qf : State → Prop}
    (hr : va_Run p l e R s m args below meth c H locs 0 0 0 0 (F0 m pc ls st0) rest (li_Q Z Q' a) (li_A Z)) (hS : va_S (li_A Z) s.heap H locs)
    (kk : ∀ (r : Option Value) (M' : li_M) (H1 : Heap) (locs1 : List Loc), Q' r M' → li_H Z M' H1 → va_S (li_A Z) s.heap H1 locs1 → W p l e R s m args below meth c H1 locs1 0 0 Qf (F0 m (pc + 3) ls (r.toList ++ rest))) : W p l e R s m args below meth c H locs 0 0 Qf (F0 m pc ls st0) := by
  intro T hT X
  obtain ⟨v, st₀, t, T', L, h0, X', hL, e1, e2, ⟨⟨r, M', hv, hp, hb⟩, hz, hk⟩, stp⟩ := hr T hT X
  cases hv
  rw [h0] at hz hk
  obtain ⟨t2, a1, b1⟩ := kk v M' T'.heap (locs ++ L) hp (by rw [e1]; exact hb)
    ⟨Nat.le_trans hS.1 (by rw [e1]; exact hz), fun q h1 h2 => by rw [e1, hk q (Nat.lt_of_lt_of_le h1 hS.1) h2]; exact hS.2.1 q h1 h2, fun q hq => by
      rcases List.mem_append.mp hq with h | h
      · exact hS.2.2 q h
      · exact hL q h⟩ T' rfl X'
  exact ⟨t2, stp t2 a1, b1⟩
theorem li_callV {As : List Value} {j ci N n : Nat} {T : u_T} {sl : List (Option Nat)} (hd : decode Y.2.1 pc = .ok (.invokevirtual ix, 3)) (hM : li_Met l Z Y' d' (.ref (Z.2.2 j) :: As) M Q') (hdd : d' + 1 ≤ d) (hml : Y'.2.2.1 ≤ 41)
    (w1 : Cond.methodLink Y.1.cls ix Y'.1 ∈ li_ws) (w2 : Cond.instanceMethod Y'.1 ∈ li_ws) (w3 : Cond.selects Y'.1.cls Y'.1 Y'.1 ∈ li_ws) (w4 : Cond.initialized Y'.1.cls ∈ li_ws) (w5 : Cond.code Y'.1 Y'.2.1 Y'.2.2.1 Y'.2.2.2 ∈ li_ws)
    (hy : Y'.1.cls ≠ "java/lang/invoke/MethodHandle" ∧ Y'.1.cls ≠ "java/lang/invoke/VarHandle" ∧ (parseMethodDescriptor Y'.1.desc).map (fun d => d.parameters.length) = some n) (hn : As.length = n)
    (hj : j < li_N) (hs : li_sh j = .inl (ci, sl)) (hc : vwCl[ci]? = some (Y'.1.cls, T, N)) (hst : st = As.reverse ++ .ref (Z.2.2 j) :: rest) (hcat : (rest.map fun v => v.category).sum ≤ 8)
    (kk : ∀ (r : Option Value) (M' : li_M), Q' r M' → li_T l Z Y d (pc + 3) lo (r.toList ++ rest) M' Q) : li_T l Z Y d pc lo st M Q := by
  intro p e s m args below meth c C K H locs ls hH hS hl
  have hrun := va_runV (R := li_rm d) (e := e) (below := below) (meth := meth) (locs := locs) (cells := 0) (slots := 0) (As := As) (rest := rest) (n := n) (g := F0 m pc ls st) (index := ix) (own := Y.1.cls) (C := Y'.1.cls) (b := Z.2.2 j) (H := H) (Ts := li_ws)
    ⟨C.1, C.2.1, C.2.2.1, C.2.2.2.1, C.2.2.2.2.1⟩ hM
    (cwV n C.2.2.2.2.1 (fun w hw => by
      rcases List.mem_append.mp (by unfold wsV at hw; exact hw) with h | h
      · have hm : w ∈ li_ws := by
          simp only [List.mem_cons, List.not_mem_nil, or_false] at h
          rcases h with rfl | rfl | rfl | rfl
          · exact w1
          · exact w2
          · exact w3
          · exact w4
        exact ⟨hm, good_of_word (List.mem_filter.mp hm).2⟩
      · exact li_good w5 w h) rfl rfl rfl ⟨rfl, hy⟩ ⟨hdd, by show 8 + (Y'.2.2.1 + 11) + 60 * d' ≤ 60 * d; omega⟩)
    ⟨li_blind, va_recv K.1 hH hc (q0 := j) (by rw [li_get hj, li_cellO hs]), fun U hU hW => ⟨rfl, by rw [hU]; exact hH, li_K_warm hW hU hS K⟩⟩ rfl hn hl.1 hst (lv_room hcat) hd ⟨Nat.le_refl _, Nat.le_refl _⟩
  exact li_behind hrun hS (fun r M' H1 locs1 hq hH1 hS1 => kk r M' hq p e s m args below meth c C K H1 locs1 ls hH1 hS1 hl)
theorem li_callS {As : List Value} {n : Nat} (hd : decode Y.2.1 pc = .ok (.invokestatic ix, 3)) (hM : li_Met l Z Y' d' As M Q') (hdd : d' + 1 ≤ d) (hml : Y'.2.2.1 ≤ 41)
    (w1 : Cond.methodLink Y.1.cls ix Y'.1 ∈ li_ws) (w2 : Cond.static Y'.1 ∈ li_ws) (w4 : Cond.initialized Y'.1.cls ∈ li_ws) (w5 : Cond.code Y'.1 Y'.2.1 Y'.2.2.1 Y'.2.2.2 ∈ li_ws)
    (hy : Y'.1.cls ≠ "java/lang/invoke/MethodHandle" ∧ Y'.1.cls ≠ "java/lang/invoke/VarHandle" ∧ (parseMethodDescriptor Y'.1.desc).map (fun d => d.parameters.length) = some n) (hn : As.length = n)
    (hst : st = As.reverse ++ rest) (hcat : (rest.map fun v => v.category).sum ≤ 8)
    (kk : ∀ (r : Option Value) (M' : li_M), Q' r M' → li_T l Z Y d (pc + 3) lo (r.toList ++ rest) M' Q) : li_T l Z Y d pc lo st M Q := by
  intro p e s m args below meth c C K H locs ls hH hS hl
  have hrun := va_runS (R := li_rm d) (e := e) (below := below) (meth := meth) (locs := locs) (cells := 0) (slots := 0) (As := As) (rest := rest) (n := n) (g := F0 m pc ls st) (index := ix) (own := Y.1.cls) (H := H) (Ts := li_ws)
    ⟨C.1, C.2.1, C.2.2.1, C.2.2.2.1, C.2.2.2.2.1⟩ hM
    ⟨callB_of n C.2.2.2.2.1 (li_good w5) rfl rfl rfl (C.2.2.2.2.1 _ w4) (C.2.2.2.2.1 _ w1) hy ⟨hdd, by show 8 + (Y'.2.2.1 + 11) + 60 * d' ≤ 60 * d; omega⟩, C.2.2.2.2.1 _ w2⟩
    ⟨li_blind, fun U hU hW => ⟨rfl, by rw [hU]; exact hH, li_K_warm hW hU hS K⟩⟩ rfl hn hl.1 hst (lv_room hcat) hd ⟨Nat.le_refl _, Nat.le_refl _⟩
  exact li_behind hrun hS (fun r M' H1 locs1 hq hH1 hS1 => kk r M' hq p e s m args below meth c C K H1 locs1 ls hH1 hS1 hl)
/-- a private static method of a nest mate -/
theorem li_callN {As : List Value} {n : Nat} {host : String} (hd : decode Y.2.1 pc = .ok (.invokestatic ix, 3)) (hM : li_Met l Z Y' d' As M Q') (hdd : d' + 1 ≤ d) (hml : Y'.2.2.1 ≤ 41)
    (w1 : Cond.methodLinkNest Y.1.cls ix Y'.1 host ∈ li_nw) (w2 : Cond.static Y'.1 ∈ li_ws) (w4 : Cond.initialized Y'.1.cls ∈ li_ws) (w5 : Cond.code Y'.1 Y'.2.1 Y'.2.2.1 Y'.2.2.2 ∈ li_ws)
    (hy : Y'.1.cls ≠ "java/lang/invoke/MethodHandle" ∧ Y'.1.cls ≠ "java/lang/invoke/VarHandle" ∧ (parseMethodDescriptor Y'.1.desc).map (fun d => d.parameters.length) = some n) (hn : As.length = n)
    (hst : st = As.reverse ++ rest) (hcat : (rest.map fun v => v.category).sum ≤ 8)
    (kk : ∀ (r : Option Value) (M' : li_M), Q' r M' → li_T l Z Y d (pc + 3) lo (r.toList ++ rest) M' Q) : li_T l Z Y d pc lo st M Q := by
  intro p e s m args below meth c C K H locs ls hH hS hl
  have hrun := va_runSN (R := li_rm d) (e := e) (below := below) (meth := meth) (locs := locs) (cells := 0) (slots := 0) (As := As) (rest := rest) (n := n) (g := F0 m pc ls st) (index := ix) (own := Y.1.cls) (host := host) (H := H) (Ts := li_ws)
    ⟨C.1, C.2.1, C.2.2.1, C.2.2.2.1, C.2.2.2.2.1⟩ hM
    ⟨va_cnB n C.2.2.2.2.1 (li_good w5) rfl rfl rfl (K.2.2.1 _ w1) (C.2.2.2.2.1 _ w4) hy ⟨hdd, by show 8 + (Y'.2.2.1 + 11) + 60 * d' ≤ 60 * d; omega⟩, C.2.2.2.2.1 _ w2, trivial⟩
    ⟨li_blind, fun U hU hW => ⟨rfl, by rw [hU]; exact hH, li_K_warm hW hU hS K⟩⟩ rfl hn hl.1 hst (lv_room hcat) hd ⟨Nat.le_refl _, Nat.le_refl _⟩
  exact li_behind hrun hS (fun r M' H1 locs1 hq hH1 hS1 => kk r M' hq p e s m args below meth c C K H1 locs1 ls hH1 hS1 hl)
end LIC
end
section
/-! FRAMES, names, the JDK's small functions -/
/-- outside the cells of E nothing has changed -/
def li_fr (E : Nat → Prop) (M M' : li_M) : Prop := (∀ i, ¬ E i → M'.1 i = M.1 i) ∧ (∀ i, ¬ E i → M'.2.1 i = M.2.1 i) ∧ M'.2.2 = M.2.2
theorem li_fr_refl {E : Nat → Prop} {M : li_M} : li_fr E M M := ⟨fun _ _ => rfl, fun _ _ => rfl, rfl⟩
theorem li_fr_ui {E : Nat → Prop} {M N N' : li_M} {j k : Nat} {x : Int32} (h : li_fr E M N) (hj : E j) (e : N' = li_ui N j k x) : li_fr E M N' := by
  subst e
  refine ⟨fun i hi => ?_, h.2.1, h.2.2⟩
  rw [← h.1 i hi]
  funext b
  have hij : i ≠ j := fun q => hi (q ▸ hj)
  simp [li_ui, hij]
theorem li_fr_ul {E : Nat → Prop} {M N N' : li_M} {j k : Nat} {x : Int64} (h : li_fr E M N) (hj : E j) (e : N' = li_ul N j k x) : li_fr E M N' := by
  subst e
  refine ⟨h.1, fun i hi => ?_, h.2.2⟩
  rw [← h.2.1 i hi]
  funext b
  have hij : i ≠ j := fun q => hi (q ▸ hj)
  simp [li_ul, hij]
theorem li_fr_trans {E E' : Nat → Prop} {M N N' : li_M} (h : li_fr E M N) (h' : li_fr E' N N') (hE : ∀ i, E' i → E i) : li_fr E M N' :=
  ⟨fun i hi => (h'.1 i (fun q => hi (hE i q))).trans (h.1 i hi), fun i hi => (h'.2.1 i (fun q => hi (hE i q))).trans (h.2.1 i hi), h'.2.2.trans h.2.2⟩
theorem li_fr_wide {E E' : Nat → Prop} {M N : li_M} (h : li_fr E' M N) (hE : ∀ i, E' i → E i) : li_fr E M N := li_fr_trans li_fr_refl h hE
/-- ends: an int, a boolean, nothing, a long; and the frame -/
abbrev li_SI (E : Nat → Prop) (M : li_M) : Option Value → li_M → Prop := fun r M' => (∃ x : Int32, r = some (.int x)) ∧ li_fr E M M'
abbrev li_SZ (E : Nat → Prop) (M : li_M) : Option Value → li_M → Prop := fun r M' => (∃ x : Int32, r = some (.int x) ∧ (x = 0 ∨ x = 1)) ∧ li_fr E M M'
abbrev li_SV (E : Nat → Prop) (M : li_M) : Option Value → li_M → Prop := fun r M' => r = none ∧ li_fr E M M'
abbrev li_SL (E : Nat → Prop) (M : li_M) : Option Value → li_M → Prop := fun r M' => (∃ x : Int64, r = some (.long x)) ∧ li_fr E M M'
theorem li_nz {x : Int32} (h : x = 0 ∨ x = 1) : narrow .boolean (.int x) = .int x := by rcases h with rfl | rfl <;> rfl
theorem li_fz {x : Int32} (h : x = 0 ∨ x = 1) : fits .boolean (.int x) = true := by rcases h with rfl | rfl <;> rfl
theorem li_up {i B : Int32} (h : i < B) : (2147483647 - (i + 1).toInt).toNat < (2147483647 - i.toInt).toNat := by
  have h1 := Int32.lt_iff_toInt_lt.mp h
  have h2 := Int32.toInt_lt B
  have h3 := Int32.le_toInt i
  have e : (i + 1).toInt = i.toInt + 1 := by
    rw [Int32.toInt_add]
    have : (1 : Int32).toInt = 1 := rfl
    rw [this, Int.bmod_eq_of_le (by omega) (by omega)]
  omega
theorem li_in {i v : Int32} {n : Nat} (h1 : 0 ≤ i) (h2 : i < v) (hv : v.toInt = n) : vp_in i n := by
  rw [vp_in_iff]
  have h3 := Int32.le_iff_toInt_le.mp h1
  have h4 := Int32.lt_iff_toInt_lt.mp h2
  have : (0 : Int32).toInt = 0 := rfl
  omega
theorem li_ge {x y : Int32} (h : ¬ x < y) : y ≤ x := Int32.not_lt.mp h
theorem li_gt {x y : Int32} (h : ¬ x ≤ y) : y < x := Int32.not_le.mp h
section LIM
variable {l : Launch} {Z : li_Z} {Y : li_Y} {d pc ix : Nat} {lo lo' : List (Nat × Value)} {st rest : List Value} {M : li_M} {Q : Option Value → li_M → Prop}
theorem li_top {x : Int32} (k : ∀ y : Int32, y = x → li_T l Z Y d pc lo (.int y :: st) M Q) : li_T l Z Y d pc lo (.int x :: st) M Q := k x rfl
theorem li_topL {x : Int64} (k : ∀ y : Int64, y = x → li_T l Z Y d pc lo (.long y :: st) M Q) : li_T l Z Y d pc lo (.long x :: st) M Q := k x rfl
theorem li_nm (k : ∀ N : li_M, N = M → li_T l Z Y d pc lo st N Q) : li_T l Z Y d pc lo st M Q := k M rfl
theorem li_pick (ks : List Nat) (lo' : List (Nat × Value)) (hl : lv_pick lo ks = lo') (k : li_T l Z Y d pc lo' st M Q) : li_T l Z Y d pc lo st M Q :=
  fun p e s m args below meth c C K H locs ls hH hS hl' => k p e s m args below meth c C K H locs ls hH hS (lv_sub hl' ks hl)
theorem li_mmax {x y : Int32} (hd : decode Y.2.1 pc = .ok (.invokestatic ix, 3)) (hdd : 1 ≤ d) (w1 : Cond.methodLink Y.1.cls ix Lib.Math.max.name ∈ li_ws) (w2 : Cond.static Lib.Math.max.name ∈ li_ws) (w3 : Cond.initialized "java/lang/Math" ∈ li_ws) (w4 : Cond.code Lib.Math.max.name Lib.Math.max.code 2 (some .int) ∈ li_ws) (hc : (st.map fun v => v.category).sum ≤ 8)
    (kk : li_T l Z Y d (pc + 3) lo (.int (if x < y then y else x) :: st) M Q) : li_T l Z Y d pc lo (.int y :: .int x :: st) M Q :=
  fun p e s m args below meth c C K H locs ls hH hS hl => va_mmax C.1 C.2.1 (C.2.2.1.trans hl.1.symm) C.2.2.2.1 (C.2.2.2.2.1 _ w1) (C.2.2.2.2.1 _ w2) (C.2.2.2.2.1 _ w3) (C.2.2.2.2.1 _ w4) hdd (by show _ + 13 ≤ 60 * d; omega) (Nat.le_refl _) (Nat.le_refl _) hd (kk p e s m args below meth c C K H locs ls hH hS hl)
theorem li_mmin {x y : Int32} (hd : decode Y.2.1 pc = .ok (.invokestatic ix, 3)) (hdd : 1 ≤ d) (w1 : Cond.methodLink Y.1.cls ix Lib.Math.min.name ∈ li_ws) (w2 : Cond.static Lib.Math.min.name ∈ li_ws) (w3 : Cond.initialized "java/lang/Math" ∈ li_ws) (w4 : Cond.code Lib.Math.min.name Lib.Math.min.code 2 (some .int) ∈ li_ws) (hc : (st.map fun v => v.category).sum ≤ 8)
    (kk : li_T l Z Y d (pc + 3) lo (.int (if y < x then y else x) :: st) M Q) : li_T l Z Y d pc lo (.int y :: .int x :: st) M Q :=
  fun p e s m args below meth c C K H locs ls hH hS hl => va_mmin C.1 C.2.1 (C.2.2.1.trans hl.1.symm) C.2.2.2.1 (C.2.2.2.2.1 _ w1) (C.2.2.2.2.1 _ w2) (C.2.2.2.2.1 _ w3) (C.2.2.2.2.1 _ w4) hdd (by show _ + 13 ≤ 60 * d; omega) (Nat.le_refl _) (Nat.le_refl _) hd (kk p e s m args below meth c C K H locs ls hH hS hl)
theorem li_mabs {x : Int32} (hd : decode Y.2.1 pc = .ok (.invokestatic ix, 3)) (hdd : 1 ≤ d) (w1 : Cond.methodLink Y.1.cls ix Lib.Math.abs.name ∈ li_ws) (w2 : Cond.static Lib.Math.abs.name ∈ li_ws) (w3 : Cond.initialized "java/lang/Math" ∈ li_ws) (w4 : Cond.code Lib.Math.abs.name Lib.Math.abs.code 1 (some .int) ∈ li_ws) (hc : (st.map fun v => v.category).sum ≤ 8)
    (kk : li_T l Z Y d (pc + 3) lo (.int (if 0 ≤ x then x else 0 - x) :: st) M Q) : li_T l Z Y d pc lo (.int x :: st) M Q :=
  fun p e s m args below meth c C K H locs ls hH hS hl => va_mabs C.1 C.2.1 (C.2.2.1.trans hl.1.symm) C.2.2.2.1 (C.2.2.2.2.1 _ w1) (C.2.2.2.2.1 _ w2) (C.2.2.2.2.1 _ w3) (C.2.2.2.2.1 _ w4) hdd (by show _ + 13 ≤ 60 * d; omega) (Nat.le_refl _) (Nat.le_refl _) hd (kk p e s m args below meth c C K H locs ls hH hS hl)
theorem li_mminL {x y : Int64} (hd : decode Y.2.1 pc = .ok (.invokestatic ix, 3)) (hdd : 1 ≤ d) (w1 : Cond.methodLink Y.1.cls ix Lib.MathLoose.min_long.x ∈ li_ws) (w2 : Cond.static Lib.MathLoose.min_long.x ∈ li_ws) (w3 : Cond.initialized "java/lang/Math" ∈ li_ws) (w4 : Cond.code Lib.MathLoose.min_long.x Lib.MathLoose.min_long.code 4 (some .long) ∈ li_ws) (hc : (st.map fun v => v.category).sum ≤ 8)
    (kk : li_T l Z Y d (pc + 3) lo (.long (if y < x then y else x) :: st) M Q) : li_T l Z Y d pc lo (.long y :: .long x :: st) M Q :=
  fun p e s m args below meth c C K H locs ls hH hS hl => va_mmin_long C.1 C.2.1 (C.2.2.1.trans hl.1.symm) C.2.2.2.1 (C.2.2.2.2.1 _ w1) (C.2.2.2.2.1 _ w2) (C.2.2.2.2.1 _ w3) (C.2.2.2.2.1 _ w4) hdd (by show _ + 15 ≤ 60 * d; omega) (Nat.le_refl _) (Nat.le_refl _) hd (kk p e s m args below meth c C K H locs ls hH hS hl)
/-- the static row -/
theorem li_reach (hd : decode Y.2.1 pc = .ok (.getstatic ix, 3)) (hw : Cond.fieldLink Y.1.cls ix "ClockForTalk$Costs" "REACH" "[I" ∈ li_ws) (kk : li_T l Z Y d (pc + 3) lo (.ref (Z.2.2 2000) :: st) M Q) : li_T l Z Y d pc lo st M Q :=
  fun p e s m args below meth c C K H locs ls hH hS hl => va_gets C.1 C.2.1 (C := "ClockForTalk$Costs") (n := "REACH") (d := "[I") (ref := "ClockForTalk$Costs") K.2.2.2.1.1 hS C.2.2.2.1 (C.2.2.2.2.1 _ hw) (fun _ h => h) hd (kk p e s m args below meth c C K H locs ls hH hS hl)
/-- copying: a row of ints to another -/
def li_uc (M : li_M) (j : Nat) (f : Nat → Int32) : li_M := (fun a => if a = j then f else M.1 a, M.2.1, M.2.2)
def li_ucL (M : li_M) (j : Nat) (f : Nat → Int64) : li_M := (M.1, fun a => if a = j then f else M.2.1 a, M.2.2)
theorem li_fr_uc {E : Nat → Prop} {M N N' : li_M} {j : Nat} {f : Nat → Int32} (h : li_fr E M N) (hj : E j) (e : N' = li_uc N j f) : li_fr E M N' := by
  subst e
  refine ⟨fun i hi => ?_, h.2.1, h.2.2⟩
  rw [← h.1 i hi]
  have hij : i ≠ j := fun q => hi (q ▸ hj)
  simp [li_uc, hij]
theorem li_fr_ucL {E : Nat → Prop} {M N N' : li_M} {j : Nat} {f : Nat → Int64} (h : li_fr E M N) (hj : E j) (e : N' = li_ucL N j f) : li_fr E M N' := by
  subst e
  refine ⟨h.1, fun i hi => ?_, h.2.2⟩
  rw [← h.2.1 i hi]
  have hij : i ≠ j := fun q => hi (q ▸ hj)
  simp [li_ucL, hij]
end LIM
end
section
theorem sh_0 : li_sh 0 = .inl (11, [some 1, some 3, some 5, some 13, some 21, some 144, some 151, some 148, some 155, some 158, some 163, some 165, some 173, some 176]) := by decide +kernel
theorem sh_1 : li_sh 1 = .inl (7, [some 2, none, none]) := by decide +kernel
theorem sh_2 : li_sh 2 = .inr (0, 80) := by decide +kernel
theorem sh_3 : li_sh 3 = .inl (5, [some 4, none]) := by decide +kernel
theorem sh_4 : li_sh 4 = .inr (0, 14) := by decide +kernel
theorem sh_5 : li_sh 5 = .inl (8, [none, none, some 6, some 7, some 8, some 9, some 10, some 11, some 12]) := by decide +kernel
theorem sh_6 : li_sh 6 = .inr (0, 6) := by decide +kernel
theorem sh_7 : li_sh 7 = .inr (0, 6) := by decide +kernel
theorem sh_8 : li_sh 8 = .inr (0, 8) := by decide +kernel
theorem sh_9 : li_sh 9 = .inr (0, 8) := by decide +kernel
theorem sh_10 : li_sh 10 = .inr (0, 8) := by decide +kernel
theorem sh_11 : li_sh 11 = .inr (0, 8) := by decide +kernel
theorem sh_12 : li_sh 12 = .inr (0, 8) := by decide +kernel
theorem sh_13 : li_sh 13 = .inl (4, [none, none, none, none, some 14, some 15, some 16, some 17, some 18, some 19, some 20]) := by decide +kernel
theorem sh_14 : li_sh 14 = .inr (0, 6) := by decide +kernel
theorem sh_15 : li_sh 15 = .inr (0, 6) := by decide +kernel
theorem sh_16 : li_sh 16 = .inr (1, 6) := by decide +kernel
theorem sh_17 : li_sh 17 = .inr (0, 6) := by decide +kernel
theorem sh_18 : li_sh 18 = .inr (0, 6) := by decide +kernel
theorem sh_19 : li_sh 19 = .inr (0, 6) := by decide +kernel
theorem sh_20 : li_sh 20 = .inr (1, 6) := by decide +kernel
theorem sh_21 : li_sh 21 = .inl (3, [some 22, some 23, some 24, none, none, none]) := by decide +kernel
theorem sh_22 : li_sh 22 = .inr (132, 12) := by decide +kernel
theorem sh_23 : li_sh 23 = .inr (228, 2) := by decide +kernel
theorem sh_24 : li_sh 24 = .inl (4, [none, none, none, none, some 25, some 26, some 27, some 28, some 29, some 30, some 31]) := by decide +kernel
theorem sh_25 : li_sh 25 = .inr (0, 6) := by decide +kernel
theorem sh_26 : li_sh 26 = .inr (0, 6) := by decide +kernel
theorem sh_27 : li_sh 27 = .inr (1, 6) := by decide +kernel
theorem sh_28 : li_sh 28 = .inr (0, 6) := by decide +kernel
theorem sh_29 : li_sh 29 = .inr (0, 6) := by decide +kernel
theorem sh_30 : li_sh 30 = .inr (0, 6) := by decide +kernel
theorem sh_31 : li_sh 31 = .inr (1, 6) := by decide +kernel
theorem sh_32 : li_sh 32 = .inl (4, [none, none, none, none, some 33, some 34, some 35, some 36, some 37, some 38, some 39]) := by decide +kernel
theorem sh_33 : li_sh 33 = .inr (0, 6) := by decide +kernel
theorem sh_34 : li_sh 34 = .inr (0, 6) := by decide +kernel
theorem sh_35 : li_sh 35 = .inr (1, 6) := by decide +kernel
theorem sh_36 : li_sh 36 = .inr (0, 6) := by decide +kernel
theorem sh_37 : li_sh 37 = .inr (0, 6) := by decide +kernel
theorem sh_38 : li_sh 38 = .inr (0, 6) := by decide +kernel
theorem sh_39 : li_sh 39 = .inr (1, 6) := by decide +kernel
theorem sh_40 : li_sh 40 = .inl (4, [none, none, none, none, some 41, some 42, some 43, some 44, some 45, some 46, some 47]) := by decide +kernel
theorem sh_41 : li_sh 41 = .inr (0, 6) := by decide +kernel
theorem sh_42 : li_sh 42 = .inr (0, 6) := by decide +kernel
theorem sh_43 : li_sh 43 = .inr (1, 6) := by decide +kernel
theorem sh_44 : li_sh 44 = .inr (0, 6) := by decide +kernel
theorem sh_45 : li_sh 45 = .inr (0, 6) := by decide +kernel
theorem sh_46 : li_sh 46 = .inr (0, 6) := by decide +kernel
theorem sh_47 : li_sh 47 = .inr (1, 6) := by decide +kernel
theorem sh_48 : li_sh 48 = .inl (4, [none, none, none, none, some 49, some 50, some 51, some 52, some 53, some 54, some 55]) := by decide +kernel
theorem sh_49 : li_sh 49 = .inr (0, 6) := by decide +kernel
theorem sh_50 : li_sh 50 = .inr (0, 6) := by decide +kernel
theorem sh_51 : li_sh 51 = .inr (1, 6) := by decide +kernel
theorem sh_52 : li_sh 52 = .inr (0, 6) := by decide +kernel
theorem sh_53 : li_sh 53 = .inr (0, 6) := by decide +kernel
theorem sh_54 : li_sh 54 = .inr (0, 6) := by decide +kernel
theorem sh_55 : li_sh 55 = .inr (1, 6) := by decide +kernel
theorem sh_56 : li_sh 56 = .inl (4, [none, none, none, none, some 57, some 58, some 59, some 60, some 61, some 62, some 63]) := by decide +kernel
theorem sh_57 : li_sh 57 = .inr (0, 6) := by decide +kernel
theorem sh_58 : li_sh 58 = .inr (0, 6) := by decide +kernel
theorem sh_59 : li_sh 59 = .inr (1, 6) := by decide +kernel
theorem sh_60 : li_sh 60 = .inr (0, 6) := by decide +kernel
theorem sh_61 : li_sh 61 = .inr (0, 6) := by decide +kernel
theorem sh_62 : li_sh 62 = .inr (0, 6) := by decide +kernel
theorem sh_63 : li_sh 63 = .inr (1, 6) := by decide +kernel
theorem sh_64 : li_sh 64 = .inl (4, [none, none, none, none, some 65, some 66, some 67, some 68, some 69, some 70, some 71]) := by decide +kernel
theorem sh_65 : li_sh 65 = .inr (0, 6) := by decide +kernel
theorem sh_66 : li_sh 66 = .inr (0, 6) := by decide +kernel
theorem sh_67 : li_sh 67 = .inr (1, 6) := by decide +kernel
theorem sh_68 : li_sh 68 = .inr (0, 6) := by decide +kernel
theorem sh_69 : li_sh 69 = .inr (0, 6) := by decide +kernel
theorem sh_70 : li_sh 70 = .inr (0, 6) := by decide +kernel
theorem sh_71 : li_sh 71 = .inr (1, 6) := by decide +kernel
theorem sh_72 : li_sh 72 = .inl (4, [none, none, none, none, some 73, some 74, some 75, some 76, some 77, some 78, some 79]) := by decide +kernel
theorem sh_73 : li_sh 73 = .inr (0, 6) := by decide +kernel
theorem sh_74 : li_sh 74 = .inr (0, 6) := by decide +kernel
theorem sh_75 : li_sh 75 = .inr (1, 6) := by decide +kernel
theorem sh_76 : li_sh 76 = .inr (0, 6) := by decide +kernel
theorem sh_77 : li_sh 77 = .inr (0, 6) := by decide +kernel
theorem sh_78 : li_sh 78 = .inr (0, 6) := by decide +kernel
theorem sh_79 : li_sh 79 = .inr (1, 6) := by decide +kernel
theorem sh_80 : li_sh 80 = .inl (4, [none, none, none, none, some 81, some 82, some 83, some 84, some 85, some 86, some 87]) := by decide +kernel
theorem sh_81 : li_sh 81 = .inr (0, 6) := by decide +kernel
theorem sh_82 : li_sh 82 = .inr (0, 6) := by decide +kernel
theorem sh_83 : li_sh 83 = .inr (1, 6) := by decide +kernel
theorem sh_84 : li_sh 84 = .inr (0, 6) := by decide +kernel
theorem sh_85 : li_sh 85 = .inr (0, 6) := by decide +kernel
theorem sh_86 : li_sh 86 = .inr (0, 6) := by decide +kernel
theorem sh_87 : li_sh 87 = .inr (1, 6) := by decide +kernel
theorem sh_88 : li_sh 88 = .inl (4, [none, none, none, none, some 89, some 90, some 91, some 92, some 93, some 94, some 95]) := by decide +kernel
theorem sh_89 : li_sh 89 = .inr (0, 6) := by decide +kernel
theorem sh_90 : li_sh 90 = .inr (0, 6) := by decide +kernel
theorem sh_91 : li_sh 91 = .inr (1, 6) := by decide +kernel
theorem sh_92 : li_sh 92 = .inr (0, 6) := by decide +kernel
theorem sh_93 : li_sh 93 = .inr (0, 6) := by decide +kernel
theorem sh_94 : li_sh 94 = .inr (0, 6) := by decide +kernel
theorem sh_95 : li_sh 95 = .inr (1, 6) := by decide +kernel
theorem sh_96 : li_sh 96 = .inl (4, [none, none, none, none, some 97, some 98, some 99, some 100, some 101, some 102, some 103]) := by decide +kernel
theorem sh_97 : li_sh 97 = .inr (0, 6) := by decide +kernel
theorem sh_98 : li_sh 98 = .inr (0, 6) := by decide +kernel
theorem sh_99 : li_sh 99 = .inr (1, 6) := by decide +kernel
theorem sh_100 : li_sh 100 = .inr (0, 6) := by decide +kernel
theorem sh_101 : li_sh 101 = .inr (0, 6) := by decide +kernel
theorem sh_102 : li_sh 102 = .inr (0, 6) := by decide +kernel
theorem sh_103 : li_sh 103 = .inr (1, 6) := by decide +kernel
theorem sh_104 : li_sh 104 = .inl (4, [none, none, none, none, some 105, some 106, some 107, some 108, some 109, some 110, some 111]) := by decide +kernel
theorem sh_105 : li_sh 105 = .inr (0, 6) := by decide +kernel
theorem sh_106 : li_sh 106 = .inr (0, 6) := by decide +kernel
theorem sh_107 : li_sh 107 = .inr (1, 6) := by decide +kernel
theorem sh_108 : li_sh 108 = .inr (0, 6) := by decide +kernel
theorem sh_109 : li_sh 109 = .inr (0, 6) := by decide +kernel
theorem sh_110 : li_sh 110 = .inr (0, 6) := by decide +kernel
theorem sh_111 : li_sh 111 = .inr (1, 6) := by decide +kernel
theorem sh_112 : li_sh 112 = .inl (4, [none, none, none, none, some 113, some 114, some 115, some 116, some 117, some 118, some 119]) := by decide +kernel
theorem sh_113 : li_sh 113 = .inr (0, 6) := by decide +kernel
theorem sh_114 : li_sh 114 = .inr (0, 6) := by decide +kernel
theorem sh_115 : li_sh 115 = .inr (1, 6) := by decide +kernel
theorem sh_116 : li_sh 116 = .inr (0, 6) := by decide +kernel
theorem sh_117 : li_sh 117 = .inr (0, 6) := by decide +kernel
theorem sh_118 : li_sh 118 = .inr (0, 6) := by decide +kernel
theorem sh_119 : li_sh 119 = .inr (1, 6) := by decide +kernel
theorem sh_120 : li_sh 120 = .inl (4, [none, none, none, none, some 121, some 122, some 123, some 124, some 125, some 126, some 127]) := by decide +kernel
theorem sh_121 : li_sh 121 = .inr (0, 6) := by decide +kernel
theorem sh_122 : li_sh 122 = .inr (0, 6) := by decide +kernel
theorem sh_123 : li_sh 123 = .inr (1, 6) := by decide +kernel
theorem sh_124 : li_sh 124 = .inr (0, 6) := by decide +kernel
theorem sh_125 : li_sh 125 = .inr (0, 6) := by decide +kernel
theorem sh_126 : li_sh 126 = .inr (0, 6) := by decide +kernel
theorem sh_127 : li_sh 127 = .inr (1, 6) := by decide +kernel
theorem sh_128 : li_sh 128 = .inl (4, [none, none, none, none, some 129, some 130, some 131, some 132, some 133, some 134, some 135]) := by decide +kernel
theorem sh_129 : li_sh 129 = .inr (0, 6) := by decide +kernel
theorem sh_130 : li_sh 130 = .inr (0, 6) := by decide +kernel
theorem sh_131 : li_sh 131 = .inr (1, 6) := by decide +kernel
theorem sh_132 : li_sh 132 = .inr (0, 6) := by decide +kernel
theorem sh_133 : li_sh 133 = .inr (0, 6) := by decide +kernel
theorem sh_134 : li_sh 134 = .inr (0, 6) := by decide +kernel
theorem sh_135 : li_sh 135 = .inr (1, 6) := by decide +kernel
theorem sh_136 : li_sh 136 = .inl (4, [none, none, none, none, some 137, some 138, some 139, some 140, some 141, some 142, some 143]) := by decide +kernel
theorem sh_137 : li_sh 137 = .inr (0, 6) := by decide +kernel
theorem sh_138 : li_sh 138 = .inr (0, 6) := by decide +kernel
theorem sh_139 : li_sh 139 = .inr (1, 6) := by decide +kernel
theorem sh_140 : li_sh 140 = .inr (0, 6) := by decide +kernel
theorem sh_141 : li_sh 141 = .inr (0, 6) := by decide +kernel
theorem sh_142 : li_sh 142 = .inr (0, 6) := by decide +kernel
theorem sh_143 : li_sh 143 = .inr (1, 6) := by decide +kernel
theorem sh_144 : li_sh 144 = .inl (6, [some 145, some 146, some 147, none]) := by decide +kernel
theorem sh_145 : li_sh 145 = .inr (0, 80) := by decide +kernel
theorem sh_146 : li_sh 146 = .inr (0, 80) := by decide +kernel
theorem sh_147 : li_sh 147 = .inr (0, 6) := by decide +kernel
theorem sh_148 : li_sh 148 = .inl (0, [some 5, some 13, some 144, some 149, some 150, none, none, none]) := by decide +kernel
theorem sh_149 : li_sh 149 = .inr (0, 32) := by decide +kernel
theorem sh_150 : li_sh 150 = .inr (0, 8) := by decide +kernel
theorem sh_151 : li_sh 151 = .inl (6, [some 152, some 153, some 154, none]) := by decide +kernel
theorem sh_152 : li_sh 152 = .inr (0, 80) := by decide +kernel
theorem sh_153 : li_sh 153 = .inr (0, 80) := by decide +kernel
theorem sh_154 : li_sh 154 = .inr (0, 6) := by decide +kernel
theorem sh_155 : li_sh 155 = .inl (0, [some 5, some 13, some 151, some 156, some 157, none, none, none]) := by decide +kernel
theorem sh_156 : li_sh 156 = .inr (0, 32) := by decide +kernel
theorem sh_157 : li_sh 157 = .inr (0, 8) := by decide +kernel
theorem sh_158 : li_sh 158 = .inl (9, [some 5, some 13, some 148, some 159, some 160, some 161, some 162, none, none]) := by decide +kernel
theorem sh_159 : li_sh 159 = .inr (0, 36) := by decide +kernel
theorem sh_160 : li_sh 160 = .inr (0, 6) := by decide +kernel
theorem sh_161 : li_sh 161 = .inr (0, 6) := by decide +kernel
theorem sh_162 : li_sh 162 = .inr (0, 6) := by decide +kernel
theorem sh_163 : li_sh 163 = .inl (1, [some 164, none]) := by decide +kernel
theorem sh_164 : li_sh 164 = .inr (0, 33489) := by decide +kernel
theorem sh_165 : li_sh 165 = .inl (10, [some 166, some 167, some 168, some 169, some 170, some 171, some 172, none]) := by decide +kernel
theorem sh_166 : li_sh 166 = .inr (0, 30) := by decide +kernel
theorem sh_167 : li_sh 167 = .inr (0, 30) := by decide +kernel
theorem sh_168 : li_sh 168 = .inr (0, 14) := by decide +kernel
theorem sh_169 : li_sh 169 = .inr (0, 225) := by decide +kernel
theorem sh_170 : li_sh 170 = .inr (0, 15) := by decide +kernel
theorem sh_171 : li_sh 171 = .inr (0, 225) := by decide +kernel
theorem sh_172 : li_sh 172 = .inr (0, 15) := by decide +kernel
theorem sh_173 : li_sh 173 = .inl (2, [some 5, some 13, some 148, some 174, some 175, none, none, none, none]) := by decide +kernel
theorem sh_174 : li_sh 174 = .inr (0, 6) := by decide +kernel
theorem sh_175 : li_sh 175 = .inr (1, 32000) := by decide +kernel
theorem sh_176 : li_sh 176 = .inr (0, 160) := by decide +kernel
theorem sh_177 : li_sh 177 = .inl (12, [some 178, none, some 179, some 180, none, some 181, some 182, none, some 183, none, none, some 1000, none, none, none, none, some 184, some 1001, none, some 186, none, some 187, some 188, none, some 189, none, none, some 190, none, some 191, some 192, some 193, none, none, some 194, none, some 195, some 196, none, some 197, none, some 198, some 199, none, some 200, some 201, none, some 202, none, some 203, some 204, some 205]) := by decide +kernel
theorem sh_178 : li_sh 178 = .inr (0, 51) := by decide +kernel
theorem sh_179 : li_sh 179 = .inr (0, 6) := by decide +kernel
theorem sh_180 : li_sh 180 = .inr (0, 6) := by decide +kernel
theorem sh_181 : li_sh 181 = .inr (0, 40) := by decide +kernel
theorem sh_182 : li_sh 182 = .inr (2, 80) := by decide +kernel
theorem sh_183 : li_sh 183 = .inr (0, 20) := by decide +kernel
theorem sh_184 : li_sh 184 = .inr (0, 40) := by decide +kernel
theorem sh_185 : li_sh 185 = .inr (2, 40) := by decide +kernel
theorem sh_186 : li_sh 186 = .inr (2, 40) := by decide +kernel
theorem sh_187 : li_sh 187 = .inr (0, 6) := by decide +kernel
theorem sh_188 : li_sh 188 = .inr (0, 612) := by decide +kernel
theorem sh_189 : li_sh 189 = .inr (0, 51) := by decide +kernel
theorem sh_190 : li_sh 190 = .inr (0, 320) := by decide +kernel
theorem sh_191 : li_sh 191 = .inr (0, 8) := by decide +kernel
theorem sh_192 : li_sh 192 = .inr (0, 6) := by decide +kernel
theorem sh_193 : li_sh 193 = .inr (0, 6) := by decide +kernel
theorem sh_194 : li_sh 194 = .inr (3, 37210) := by decide +kernel
theorem sh_195 : li_sh 195 = .inr (0, 30) := by decide +kernel
theorem sh_196 : li_sh 196 = .inr (0, 30) := by decide +kernel
theorem sh_197 : li_sh 197 = .inr (0, 225) := by decide +kernel
theorem sh_198 : li_sh 198 = .inr (0, 15) := by decide +kernel
theorem sh_199 : li_sh 199 = .inr (0, 6) := by decide +kernel
theorem sh_200 : li_sh 200 = .inr (0, 32) := by decide +kernel
theorem sh_201 : li_sh 201 = .inr (3, 10000) := by decide +kernel
theorem sh_202 : li_sh 202 = .inr (0, 51) := by decide +kernel
theorem sh_203 : li_sh 203 = .inr (0, 102) := by decide +kernel
theorem sh_204 : li_sh 204 = .inr (3, 2) := by decide +kernel
theorem sh_205 : li_sh 205 = .inr (0, 2) := by decide +kernel
def li_lg (b : Nat) : Prop := b = 13 ∨ b = 24 ∨ b = 32 ∨ b = 40 ∨ b = 48 ∨ b = 56 ∨ b = 64 ∨ b = 72 ∨ b = 80 ∨ b = 88 ∨ b = 96 ∨ b = 104 ∨ b = 112 ∨ b = 120 ∨ b = 128 ∨ b = 136
theorem shL0 {b : Nat} (h : li_lg b) : li_sh (b) = .inl (4, [none, none, none, none, some (b + 1), some (b + 2), some (b + 3), some (b + 4), some (b + 5), some (b + 6), some (b + 7)]) := by rcases h with rfl | rfl | rfl | rfl | rfl | rfl | rfl | rfl | rfl | rfl | rfl | rfl | rfl | rfl | rfl | rfl <;> decide +kernel
theorem snL0 {b : Nat} (h : li_lg b) : b < li_N := by rcases h with rfl | rfl | rfl | rfl | rfl | rfl | rfl | rfl | rfl | rfl | rfl | rfl | rfl | rfl | rfl | rfl <;> decide +kernel
theorem lkL0 {b : Nat} (h : li_lg b) : b < 1000 := by rcases h with rfl | rfl | rfl | rfl | rfl | rfl | rfl | rfl | rfl | rfl | rfl | rfl | rfl | rfl | rfl | rfl <;> decide +kernel
theorem shL1 {b : Nat} (h : li_lg b) : li_sh (b + 1) = .inr (0, 6) := by rcases h with rfl | rfl | rfl | rfl | rfl | rfl | rfl | rfl | rfl | rfl | rfl | rfl | rfl | rfl | rfl | rfl <;> decide +kernel
theorem snL1 {b : Nat} (h : li_lg b) : b + 1 < li_N := by rcases h with rfl | rfl | rfl | rfl | rfl | rfl | rfl | rfl | rfl | rfl | rfl | rfl | rfl | rfl | rfl | rfl <;> decide +kernel
theorem lkL1 {b : Nat} (h : li_lg b) : b + 1 < 1000 := by rcases h with rfl | rfl | rfl | rfl | rfl | rfl | rfl | rfl | rfl | rfl | rfl | rfl | rfl | rfl | rfl | rfl <;> decide +kernel
theorem shL2 {b : Nat} (h : li_lg b) : li_sh (b + 2) = .inr (0, 6) := by rcases h with rfl | rfl | rfl | rfl | rfl | rfl | rfl | rfl | rfl | rfl | rfl | rfl | rfl | rfl | rfl | rfl <;> decide +kernel
theorem snL2 {b : Nat} (h : li_lg b) : b + 2 < li_N := by rcases h with rfl | rfl | rfl | rfl | rfl | rfl | rfl | rfl | rfl | rfl | rfl | rfl | rfl | rfl | rfl | rfl <;> decide +kernel
theorem lkL2 {b : Nat} (h : li_lg b) : b + 2 < 1000 := by rcases h with rfl | rfl | rfl | rfl | rfl | rfl | rfl | rfl | rfl | rfl | rfl | rfl | rfl | rfl | rfl | rfl <;> decide +kernel
theorem shL3 {b : Nat} (h : li_lg b) : li_sh (b + 3) = .inr (1, 6) := by rcases h with rfl | rfl | rfl | rfl | rfl | rfl | rfl | rfl | rfl | rfl | rfl | rfl | rfl | rfl | rfl | rfl <;> decide +kernel
theorem snL3 {b : Nat} (h : li_lg b) : b + 3 < li_N := by rcases h with rfl | rfl | rfl | rfl | rfl | rfl | rfl | rfl | rfl | rfl | rfl | rfl | rfl | rfl | rfl | rfl <;> decide +kernel
theorem lkL3 {b : Nat} (h : li_lg b) : b + 3 < 1000 := by rcases h with rfl | rfl | rfl | rfl | rfl | rfl | rfl | rfl | rfl | rfl | rfl | rfl | rfl | rfl | rfl | rfl <;> decide +kernel
theorem shL4 {b : Nat} (h : li_lg b) : li_sh (b + 4) = .inr (0, 6) := by rcases h with rfl | rfl | rfl | rfl | rfl | rfl | rfl | rfl | rfl | rfl | rfl | rfl | rfl | rfl | rfl | rfl <;> decide +kernel
theorem snL4 {b : Nat} (h : li_lg b) : b + 4 < li_N := by rcases h with rfl | rfl | rfl | rfl | rfl | rfl | rfl | rfl | rfl | rfl | rfl | rfl | rfl | rfl | rfl | rfl <;> decide +kernel
theorem lkL4 {b : Nat} (h : li_lg b) : b + 4 < 1000 := by rcases h with rfl | rfl | rfl | rfl | rfl | rfl | rfl | rfl | rfl | rfl | rfl | rfl | rfl | rfl | rfl | rfl <;> decide +kernel
theorem shL5 {b : Nat} (h : li_lg b) : li_sh (b + 5) = .inr (0, 6) := by rcases h with rfl | rfl | rfl | rfl | rfl | rfl | rfl | rfl | rfl | rfl | rfl | rfl | rfl | rfl | rfl | rfl <;> decide +kernel
theorem snL5 {b : Nat} (h : li_lg b) : b + 5 < li_N := by rcases h with rfl | rfl | rfl | rfl | rfl | rfl | rfl | rfl | rfl | rfl | rfl | rfl | rfl | rfl | rfl | rfl <;> decide +kernel
theorem lkL5 {b : Nat} (h : li_lg b) : b + 5 < 1000 := by rcases h with rfl | rfl | rfl | rfl | rfl | rfl | rfl | rfl | rfl | rfl | rfl | rfl | rfl | rfl | rfl | rfl <;> decide +kernel
theorem shL6 {b : Nat} (h : li_lg b) : li_sh (b + 6) = .inr (0, 6) := by rcases h with rfl | rfl | rfl | rfl | rfl | rfl | rfl | rfl | rfl | rfl | rfl | rfl | rfl | rfl | rfl | rfl <;> decide +kernel
theorem snL6 {b : Nat} (h : li_lg b) : b + 6 < li_N := by rcases h with rfl | rfl | rfl | rfl | rfl | rfl | rfl | rfl | rfl | rfl | rfl | rfl | rfl | rfl | rfl | rfl <;> decide +kernel
theorem lkL6 {b : Nat} (h : li_lg b) : b + 6 < 1000 := by rcases h with rfl | rfl | rfl | rfl | rfl | rfl | rfl | rfl | rfl | rfl | rfl | rfl | rfl | rfl | rfl | rfl <;> decide +kernel
theorem shL7 {b : Nat} (h : li_lg b) : li_sh (b + 7) = .inr (1, 6) := by rcases h with rfl | rfl | rfl | rfl | rfl | rfl | rfl | rfl | rfl | rfl | rfl | rfl | rfl | rfl | rfl | rfl <;> decide +kernel
theorem snL7 {b : Nat} (h : li_lg b) : b + 7 < li_N := by rcases h with rfl | rfl | rfl | rfl | rfl | rfl | rfl | rfl | rfl | rfl | rfl | rfl | rfl | rfl | rfl | rfl <;> decide +kernel
theorem lkL7 {b : Nat} (h : li_lg b) : b + 7 < 1000 := by rcases h with rfl | rfl | rfl | rfl | rfl | rfl | rfl | rfl | rfl | rfl | rfl | rfl | rfl | rfl | rfl | rfl <;> decide +kernel
def li_ru (r : Nat) : Prop := r = 144 ∨ r = 151
theorem shR0 {r : Nat} (h : li_ru r) : li_sh (r) = .inl (6, [some (r + 1), some (r + 2), some (r + 3), none]) := by rcases h with rfl | rfl <;> decide +kernel
theorem snR0 {r : Nat} (h : li_ru r) : r < li_N := by rcases h with rfl | rfl <;> decide +kernel
theorem lkR0 {r : Nat} (h : li_ru r) : r < 1000 := by rcases h with rfl | rfl <;> decide +kernel
theorem shR1 {r : Nat} (h : li_ru r) : li_sh (r + 1) = .inr (0, 80) := by rcases h with rfl | rfl <;> decide +kernel
theorem snR1 {r : Nat} (h : li_ru r) : r + 1 < li_N := by rcases h with rfl | rfl <;> decide +kernel
theorem lkR1 {r : Nat} (h : li_ru r) : r + 1 < 1000 := by rcases h with rfl | rfl <;> decide +kernel
theorem shR2 {r : Nat} (h : li_ru r) : li_sh (r + 2) = .inr (0, 80) := by rcases h with rfl | rfl <;> decide +kernel
theorem snR2 {r : Nat} (h : li_ru r) : r + 2 < li_N := by rcases h with rfl | rfl <;> decide +kernel
theorem lkR2 {r : Nat} (h : li_ru r) : r + 2 < 1000 := by rcases h with rfl | rfl <;> decide +kernel
theorem shR3 {r : Nat} (h : li_ru r) : li_sh (r + 3) = .inr (0, 6) := by rcases h with rfl | rfl <;> decide +kernel
theorem snR3 {r : Nat} (h : li_ru r) : r + 3 < li_N := by rcases h with rfl | rfl <;> decide +kernel
theorem lkR3 {r : Nat} (h : li_ru r) : r + 3 < 1000 := by rcases h with rfl | rfl <;> decide +kernel
def li_co (c : Nat) : Prop := c = 148 ∨ c = 155
theorem shC0 {c : Nat} (h : li_co c) : li_sh (c) = .inl (0, [some (5), some (13), some (c - 4), some (c + 1), some (c + 2), none, none, none]) := by rcases h with rfl | rfl <;> decide +kernel
theorem snC0 {c : Nat} (h : li_co c) : c < li_N := by rcases h with rfl | rfl <;> decide +kernel
theorem lkC0 {c : Nat} (h : li_co c) : c < 1000 := by rcases h with rfl | rfl <;> decide +kernel
theorem shC1 {c : Nat} (h : li_co c) : li_sh (c + 1) = .inr (0, 32) := by rcases h with rfl | rfl <;> decide +kernel
theorem snC1 {c : Nat} (h : li_co c) : c + 1 < li_N := by rcases h with rfl | rfl <;> decide +kernel
theorem lkC1 {c : Nat} (h : li_co c) : c + 1 < 1000 := by rcases h with rfl | rfl <;> decide +kernel
theorem shC2 {c : Nat} (h : li_co c) : li_sh (c + 2) = .inr (0, 8) := by rcases h with rfl | rfl <;> decide +kernel
theorem snC2 {c : Nat} (h : li_co c) : c + 2 < li_N := by rcases h with rfl | rfl <;> decide +kernel
theorem lkC2 {c : Nat} (h : li_co c) : c + 2 < 1000 := by rcases h with rfl | rfl <;> decide +kernel
theorem li_co_ru {c : Nat} (h : li_co c) : li_ru (c - 4) := by rcases h with rfl | rfl; exact Or.inl rfl; exact Or.inr rfl
theorem lgb_13 : li_lg 13 := by unfold li_lg; omega
theorem lgb_24 : li_lg 24 := by unfold li_lg; omega
theorem lgb_32 : li_lg 32 := by unfold li_lg; omega
theorem lgb_40 : li_lg 40 := by unfold li_lg; omega
theorem lgb_48 : li_lg 48 := by unfold li_lg; omega
theorem lgb_56 : li_lg 56 := by unfold li_lg; omega
theorem lgb_64 : li_lg 64 := by unfold li_lg; omega
theorem lgb_72 : li_lg 72 := by unfold li_lg; omega
theorem lgb_80 : li_lg 80 := by unfold li_lg; omega
theorem lgb_88 : li_lg 88 := by unfold li_lg; omega
theorem lgb_96 : li_lg 96 := by unfold li_lg; omega
theorem lgb_104 : li_lg 104 := by unfold li_lg; omega
theorem lgb_112 : li_lg 112 := by unfold li_lg; omega
theorem lgb_120 : li_lg 120 := by unfold li_lg; omega
theorem lgb_128 : li_lg 128 := by unfold li_lg; omega
theorem lgb_136 : li_lg 136 := by unfold li_lg; omega
theorem rub_144 : li_ru 144 := by unfold li_ru; omega
theorem rub_151 : li_ru 151 := by unfold li_ru; omega
theorem cob_148 : li_co 148 := by unfold li_co; omega
theorem cob_155 : li_co 155 := by unfold li_co; omega
theorem lg_ring {n : Nat} (h : n < 12) : li_lg (32 + 8 * n) := by unfold li_lg; omega
theorem lg_kept {n : Nat} (h : n < 2) : li_lg (128 + 8 * n) := by unfold li_lg; omega
theorem li_dn1 {i : Int32} (h : ¬ i < 0) : ((i + (-1)).toInt + 2147483648).toNat < ((i : Int32).toInt + 2147483648).toNat := by
  have h1 := Int32.le_iff_toInt_le.mp (Int32.not_lt.mp h)
  have h2 := Int32.toInt_lt i
  have h0 : (0 : Int32).toInt = 0 := rfl
  have e : (i + (-1)).toInt = i.toInt + (-1) := by
    rw [Int32.toInt_add]
    have : (-1 : Int32).toInt = -1 := by decide
    rw [this, Int.bmod_eq_of_le (by omega) (by omega)]
  omega
theorem li_dn8 {i : Int32} (h : ¬ i < 0) : ((i + (-8)).toInt + 2147483648).toNat < ((i : Int32).toInt + 2147483648).toNat := by
  have h1 := Int32.le_iff_toInt_le.mp (Int32.not_lt.mp h)
  have h2 := Int32.toInt_lt i
  have h0 : (0 : Int32).toInt = 0 := rfl
  have e : (i + (-8)).toInt = i.toInt + (-8) := by
    rw [Int32.toInt_add]
    have : (-8 : Int32).toInt = -8 := by decide
    rw [this, Int.bmod_eq_of_le (by omega) (by omega)]
  omega
theorem li_nlt0 {i : Int32} (h : 0 < i) : ¬ i < 0 := by
  rw [Int32.lt_iff_toInt_lt] at h ⊢
  omega
theorem nw_0 : (Jvm.Cond.methodLinkNest "ClockForTalk" (11 : Nat) ({ cls := "ClockForTalk$Text", name := "<init>", desc := "()V" } : Jvm.MethodName) "ClockForTalk") ∈ li_nw := List.mem_of_getElem? (i := 0) rfl
theorem nw_1 : (Jvm.Cond.methodLinkNest "ClockForTalk" (18 : Nat) ({ cls := "ClockForTalk$Row", name := "<init>", desc := "()V" } : Jvm.MethodName) "ClockForTalk") ∈ li_nw := List.mem_of_getElem? (i := 1) rfl
theorem nw_2 : (Jvm.Cond.methodLinkNest "ClockForTalk" (25 : Nat) ({ cls := "ClockForTalk$Town", name := "<init>", desc := "()V" } : Jvm.MethodName) "ClockForTalk") ∈ li_nw := List.mem_of_getElem? (i := 2) rfl
theorem nw_3 : (Jvm.Cond.methodLinkNest "ClockForTalk" (32 : Nat) ({ cls := "ClockForTalk$Ledger", name := "<init>", desc := "()V" } : Jvm.MethodName) "ClockForTalk") ∈ li_nw := List.mem_of_getElem? (i := 3) rfl
theorem nw_4 : (Jvm.Cond.methodLinkNest "ClockForTalk$History" (18 : Nat) ({ cls := "ClockForTalk$Ledger", name := "<init>", desc := "()V" } : Jvm.MethodName) "ClockForTalk") ∈ li_nw := List.mem_of_getElem? (i := 4) rfl
theorem nw_5 : (Jvm.Cond.methodLinkNest "ClockForTalk" (46 : Nat) ({ cls := "ClockForTalk$Rule", name := "<init>", desc := "()V" } : Jvm.MethodName) "ClockForTalk") ∈ li_nw := List.mem_of_getElem? (i := 5) rfl
theorem nw_6 : (Jvm.Cond.methodLinkNest "ClockForTalk" (56 : Nat) ({ cls := "ClockForTalk$Debates", name := "<init>", desc := "()V" } : Jvm.MethodName) "ClockForTalk") ∈ li_nw := List.mem_of_getElem? (i := 6) rfl
theorem nw_7 : (Jvm.Cond.methodLinkNest "ClockForTalk" (63 : Nat) ({ cls := "ClockForTalk$Wordings", name := "<init>", desc := "()V" } : Jvm.MethodName) "ClockForTalk") ∈ li_nw := List.mem_of_getElem? (i := 7) rfl
theorem nw_8 : (Jvm.Cond.methodLinkNest "ClockForTalk$Text" (19 : Nat) ({ cls := "ClockForTalk", name := "put", desc := "([III)V" } : Jvm.MethodName) "ClockForTalk") ∈ li_nw := List.mem_of_getElem? (i := 8) rfl
theorem nw_9 : (Jvm.Cond.methodLinkNest "ClockForTalk$Text" (26 : Nat) ({ cls := "ClockForTalk", name := "at", desc := "([II)I" } : Jvm.MethodName) "ClockForTalk") ∈ li_nw := List.mem_of_getElem? (i := 9) rfl
theorem nw_10 : (Jvm.Cond.methodLinkNest "ClockForTalk$Rule" (41 : Nat) ({ cls := "ClockForTalk", name := "put", desc := "([III)V" } : Jvm.MethodName) "ClockForTalk") ∈ li_nw := List.mem_of_getElem? (i := 10) rfl
theorem nw_11 : (Jvm.Cond.methodLinkNest "ClockForTalk$Text" (43 : Nat) ({ cls := "ClockForTalk", name := "within", desc := "(III)Z" } : Jvm.MethodName) "ClockForTalk") ∈ li_nw := List.mem_of_getElem? (i := 11) rfl
theorem nw_12 : (Jvm.Cond.methodLinkNest "ClockForTalk$Wordings" (43 : Nat) ({ cls := "ClockForTalk", name := "put", desc := "([III)V" } : Jvm.MethodName) "ClockForTalk") ∈ li_nw := List.mem_of_getElem? (i := 12) rfl
theorem nw_13 : (Jvm.Cond.methodLinkNest "ClockForTalk$Town" (66 : Nat) ({ cls := "ClockForTalk", name := "put", desc := "([III)V" } : Jvm.MethodName) "ClockForTalk") ∈ li_nw := List.mem_of_getElem? (i := 13) rfl
theorem nw_14 : (Jvm.Cond.methodLinkNest "ClockForTalk$Ledger" (61 : Nat) ({ cls := "ClockForTalk", name := "at", desc := "([II)I" } : Jvm.MethodName) "ClockForTalk") ∈ li_nw := List.mem_of_getElem? (i := 14) rfl
theorem nw_15 : (Jvm.Cond.methodLinkNest "ClockForTalk$Ledger" (65 : Nat) ({ cls := "ClockForTalk", name := "put", desc := "([III)V" } : Jvm.MethodName) "ClockForTalk") ∈ li_nw := List.mem_of_getElem? (i := 15) rfl
theorem nw_16 : (Jvm.Cond.methodLinkNest "ClockForTalk$Town" (44 : Nat) ({ cls := "ClockForTalk", name := "at", desc := "([II)I" } : Jvm.MethodName) "ClockForTalk") ∈ li_nw := List.mem_of_getElem? (i := 16) rfl
theorem nw_17 : (Jvm.Cond.methodLinkNest "ClockForTalk$Costs" (39 : Nat) ({ cls := "ClockForTalk", name := "at", desc := "([II)I" } : Jvm.MethodName) "ClockForTalk") ∈ li_nw := List.mem_of_getElem? (i := 17) rfl
theorem nw_18 : (Jvm.Cond.methodLinkNest "ClockForTalk$Costs" (56 : Nat) ({ cls := "ClockForTalk", name := "put", desc := "([III)V" } : Jvm.MethodName) "ClockForTalk") ∈ li_nw := List.mem_of_getElem? (i := 18) rfl
theorem nw_19 : (Jvm.Cond.methodLinkNest "ClockForTalk$Rule" (93 : Nat) ({ cls := "ClockForTalk", name := "at", desc := "([II)I" } : Jvm.MethodName) "ClockForTalk") ∈ li_nw := List.mem_of_getElem? (i := 19) rfl
theorem nw_20 : (Jvm.Cond.methodLinkNest "ClockForTalk$Rule" (105 : Nat) ({ cls := "ClockForTalk", name := "clamp", desc := "(II)I" } : Jvm.MethodName) "ClockForTalk") ∈ li_nw := List.mem_of_getElem? (i := 20) rfl
theorem nw_21 : (Jvm.Cond.methodLinkNest "ClockForTalk$Ledger" (78 : Nat) ({ cls := "ClockForTalk", name := "putWord", desc := "([JIJ)V" } : Jvm.MethodName) "ClockForTalk") ∈ li_nw := List.mem_of_getElem? (i := 21) rfl
theorem nw_22 : (Jvm.Cond.methodLinkNest "ClockForTalk$Ledger" (94 : Nat) ({ cls := "ClockForTalk", name := "wordAt", desc := "([JI)J" } : Jvm.MethodName) "ClockForTalk") ∈ li_nw := List.mem_of_getElem? (i := 22) rfl
theorem nw_23 : (Jvm.Cond.methodLinkNest "ClockForTalk$Ledger" (82 : Nat) ({ cls := "ClockForTalk", name := "holds", desc := "(II)Z" } : Jvm.MethodName) "ClockForTalk") ∈ li_nw := List.mem_of_getElem? (i := 23) rfl
theorem nw_24 : (Jvm.Cond.methodLinkNest "ClockForTalk$Row" (15 : Nat) ({ cls := "ClockForTalk", name := "put", desc := "([III)V" } : Jvm.MethodName) "ClockForTalk") ∈ li_nw := List.mem_of_getElem? (i := 24) rfl
theorem nw_25 : (Jvm.Cond.methodLinkNest "ClockForTalk$Costs" (112 : Nat) ({ cls := "ClockForTalk", name := "holds", desc := "(II)Z" } : Jvm.MethodName) "ClockForTalk") ∈ li_nw := List.mem_of_getElem? (i := 25) rfl
theorem nw_26 : (Jvm.Cond.methodLinkNest "ClockForTalk$WordOfMouth" (78 : Nat) ({ cls := "ClockForTalk", name := "at", desc := "([II)I" } : Jvm.MethodName) "ClockForTalk") ∈ li_nw := List.mem_of_getElem? (i := 26) rfl
theorem nw_27 : (Jvm.Cond.methodLinkNest "ClockForTalk$WordOfMouth" (46 : Nat) ({ cls := "ClockForTalk", name := "put", desc := "([III)V" } : Jvm.MethodName) "ClockForTalk") ∈ li_nw := List.mem_of_getElem? (i := 27) rfl
theorem nw_28 : (Jvm.Cond.methodLinkNest "ClockForTalk$WordOfMouth" (88 : Nat) ({ cls := "ClockForTalk", name := "holds", desc := "(II)Z" } : Jvm.MethodName) "ClockForTalk") ∈ li_nw := List.mem_of_getElem? (i := 28) rfl
theorem nw_29 : (Jvm.Cond.methodLinkNest "ClockForTalk$Row" (23 : Nat) ({ cls := "ClockForTalk", name := "clamp", desc := "(II)I" } : Jvm.MethodName) "ClockForTalk") ∈ li_nw := List.mem_of_getElem? (i := 29) rfl
theorem nw_30 : (Jvm.Cond.methodLinkNest "ClockForTalk$Row" (27 : Nat) ({ cls := "ClockForTalk", name := "at", desc := "([II)I" } : Jvm.MethodName) "ClockForTalk") ∈ li_nw := List.mem_of_getElem? (i := 30) rfl
theorem nw_31 : (Jvm.Cond.methodLinkNest "ClockForTalk$Debates" (20 : Nat) ({ cls := "ClockForTalk", name := "holds", desc := "(II)Z" } : Jvm.MethodName) "ClockForTalk") ∈ li_nw := List.mem_of_getElem? (i := 31) rfl
theorem nw_32 : (Jvm.Cond.methodLinkNest "ClockForTalk$Debates" (42 : Nat) ({ cls := "ClockForTalk", name := "at", desc := "([II)I" } : Jvm.MethodName) "ClockForTalk") ∈ li_nw := List.mem_of_getElem? (i := 32) rfl
theorem nw_33 : (Jvm.Cond.methodLinkNest "ClockForTalk$Debates" (52 : Nat) ({ cls := "ClockForTalk", name := "put", desc := "([III)V" } : Jvm.MethodName) "ClockForTalk") ∈ li_nw := List.mem_of_getElem? (i := 33) rfl
theorem nw_34 : (Jvm.Cond.methodLinkNest "ClockForTalk$Wordings" (61 : Nat) ({ cls := "ClockForTalk", name := "at", desc := "([II)I" } : Jvm.MethodName) "ClockForTalk") ∈ li_nw := List.mem_of_getElem? (i := 34) rfl
theorem nw_35 : (Jvm.Cond.methodLinkNest "ClockForTalk$Wordings" (71 : Nat) ({ cls := "ClockForTalk", name := "holds", desc := "(II)Z" } : Jvm.MethodName) "ClockForTalk") ∈ li_nw := List.mem_of_getElem? (i := 35) rfl
theorem nw_36 : (Jvm.Cond.methodLinkNest "ClockForTalk$Dusk" (31 : Nat) ({ cls := "ClockForTalk", name := "put", desc := "([III)V" } : Jvm.MethodName) "ClockForTalk") ∈ li_nw := List.mem_of_getElem? (i := 36) rfl
theorem nw_37 : (Jvm.Cond.methodLinkNest "ClockForTalk$Dusk" (59 : Nat) ({ cls := "ClockForTalk", name := "at", desc := "([II)I" } : Jvm.MethodName) "ClockForTalk") ∈ li_nw := List.mem_of_getElem? (i := 37) rfl
theorem nw_38 : (Jvm.Cond.methodLinkNest "ClockForTalk$Dusk" (85 : Nat) ({ cls := "ClockForTalk", name := "putWord", desc := "([JIJ)V" } : Jvm.MethodName) "ClockForTalk") ∈ li_nw := List.mem_of_getElem? (i := 38) rfl
theorem nw_39 : (Jvm.Cond.methodLinkNest "ClockForTalk$Dusk" (78 : Nat) ({ cls := "ClockForTalk", name := "wordAt", desc := "([JI)J" } : Jvm.MethodName) "ClockForTalk") ∈ li_nw := List.mem_of_getElem? (i := 39) rfl
theorem nw_40 : (Jvm.Cond.methodLinkNest "ClockForTalk$Dusk" (115 : Nat) ({ cls := "ClockForTalk", name := "holds", desc := "(II)Z" } : Jvm.MethodName) "ClockForTalk") ∈ li_nw := List.mem_of_getElem? (i := 40) rfl
theorem nw_41 : (Jvm.Cond.methodLinkNest "ClockForTalk$History" (43 : Nat) ({ cls := "ClockForTalk", name := "holds", desc := "(II)Z" } : Jvm.MethodName) "ClockForTalk") ∈ li_nw := List.mem_of_getElem? (i := 41) rfl

theorem li_nlt1 {i B : Int32} (h : ¬ B < i) (hB : B < 2147483647) : i < 2147483647 := Int32.lt_of_le_of_lt (Int32.not_lt.mp h) hB
theorem tl_lt {x y : Int32} (h : x < y) : x.toInt < y.toInt := Int32.lt_iff_toInt_lt.mp h
theorem tl_le {x y : Int32} (h : x ≤ y) : x.toInt ≤ y.toInt := Int32.le_iff_toInt_le.mp h
theorem tl_nlt {x y : Int32} (h : ¬ x < y) : y.toInt ≤ x.toInt := tl_le (Int32.not_lt.mp h)
theorem tl_nle {x y : Int32} (h : ¬ x ≤ y) : y.toInt < x.toInt := tl_lt (Int32.not_le.mp h)
theorem tl_eq {x y : Int32} (h : x = y) : x.toInt = y.toInt := by rw [h]
theorem tl_ne {x y : Int32} (h : ¬ x = y) : ¬ x.toInt = y.toInt := fun e => h (Int32.toInt_inj.mp e)
theorem tl_rg (x : Int32) : -2147483648 ≤ x.toInt ∧ x.toInt ≤ 2147483647 := ⟨by have := Int32.le_toInt x; omega, by have := Int32.toInt_lt x; omega⟩
theorem tl_add {x y z : Int32} (h : z = x + y) : (-2147483648 ≤ x.toInt + y.toInt ∧ x.toInt + y.toInt ≤ 2147483647) → z.toInt = x.toInt + y.toInt := by
  intro hb
  rw [h, Int32.toInt_add, Int.bmod_eq_of_le (by omega) (by omega)]
theorem tl_sub {x y z : Int32} (h : z = x - y) : (-2147483648 ≤ x.toInt - y.toInt ∧ x.toInt - y.toInt ≤ 2147483647) → z.toInt = x.toInt - y.toInt := by
  intro hb
  rw [h, Int32.toInt_sub, Int.bmod_eq_of_le (by omega) (by omega)]
theorem tl_mul {x y z : Int32} (h : z = x * y) : (-2147483648 ≤ x.toInt * y.toInt ∧ x.toInt * y.toInt ≤ 2147483647) → z.toInt = x.toInt * y.toInt := by
  intro hb
  rw [h, Int32.toInt_mul, Int.bmod_eq_of_le (by omega) (by omega)]
theorem tl_neg {x z : Int32} (h : z = -x) : (-2147483648 < x.toInt) → z.toInt = -x.toInt := by
  intro hb
  have := tl_rg x
  rw [h, Int32.toInt_neg, Int.bmod_eq_of_le (by omega) (by omega)]
theorem tl_in {i : Int32} {n : Nat} (h : 0 ≤ i.toInt ∧ i.toInt < n) : vp_in i n := vp_in_iff.mpr h
theorem tl_min {x y z : Int32} (h : z = if y < x then y else x) : (y.toInt < x.toInt → z.toInt = y.toInt) ∧ (x.toInt ≤ y.toInt → z.toInt = x.toInt) := by
  by_cases c : y < x
  · rw [if_pos c] at h; subst h; exact ⟨fun _ => rfl, fun q => absurd (tl_lt c) (by omega)⟩
  · rw [if_neg c] at h; subst h; exact ⟨fun q => absurd (tl_nlt c) (by omega), fun _ => rfl⟩
theorem tl_max {x y z : Int32} (h : z = if x < y then y else x) : (x.toInt < y.toInt → z.toInt = y.toInt) ∧ (y.toInt ≤ x.toInt → z.toInt = x.toInt) := by
  by_cases c : x < y
  · rw [if_pos c] at h; subst h; exact ⟨fun _ => rfl, fun q => absurd (tl_lt c) (by omega)⟩
  · rw [if_neg c] at h; subst h; exact ⟨fun q => absurd (tl_nlt c) (by omega), fun _ => rfl⟩
end
section
abbrev YX11_at : li_Y := (yX11_at, cX11_at, 2, (some .int))
theorem dX11_at_0 : decode cX11_at 0 = .ok (.aload_n 0, 1) := by decide +kernel
theorem dX11_at_1 : decode cX11_at 1 = .ok (.ifnull 19, 3) := by decide +kernel
theorem dX11_at_4 : decode cX11_at 4 = .ok (.iload_n 1, 1) := by decide +kernel
theorem dX11_at_5 : decode cX11_at 5 = .ok (.ifCond .lt 15, 3) := by decide +kernel
theorem dX11_at_8 : decode cX11_at 8 = .ok (.iload_n 1, 1) := by decide +kernel
theorem dX11_at_9 : decode cX11_at 9 = .ok (.aload_n 0, 1) := by decide +kernel
theorem dX11_at_10 : decode cX11_at 10 = .ok (.arraylength, 1) := by decide +kernel
theorem dX11_at_11 : decode cX11_at 11 = .ok (.if_icmp .ge 9, 3) := by decide +kernel
theorem dX11_at_14 : decode cX11_at 14 = .ok (.aload_n 0, 1) := by decide +kernel
theorem dX11_at_15 : decode cX11_at 15 = .ok (.iload_n 1, 1) := by decide +kernel
theorem dX11_at_16 : decode cX11_at 16 = .ok (.iaload, 1) := by decide +kernel
theorem dX11_at_17 : decode cX11_at 17 = .ok (.goto 4, 3) := by decide +kernel
theorem dX11_at_20 : decode cX11_at 20 = .ok (.iconst 0, 1) := by decide +kernel
theorem dX11_at_21 : decode cX11_at 21 = .ok (.ireturn, 1) := by decide +kernel
abbrev YX11_put : li_Y := (yX11_put, cX11_put, 3, none)
theorem dX11_put_0 : decode cX11_put 0 = .ok (.aload_n 0, 1) := by decide +kernel
theorem dX11_put_1 : decode cX11_put 1 = .ok (.ifnull 17, 3) := by decide +kernel
theorem dX11_put_4 : decode cX11_put 4 = .ok (.iload_n 1, 1) := by decide +kernel
theorem dX11_put_5 : decode cX11_put 5 = .ok (.ifCond .lt 13, 3) := by decide +kernel
theorem dX11_put_8 : decode cX11_put 8 = .ok (.iload_n 1, 1) := by decide +kernel
theorem dX11_put_9 : decode cX11_put 9 = .ok (.aload_n 0, 1) := by decide +kernel
theorem dX11_put_10 : decode cX11_put 10 = .ok (.arraylength, 1) := by decide +kernel
theorem dX11_put_11 : decode cX11_put 11 = .ok (.if_icmp .ge 7, 3) := by decide +kernel
theorem dX11_put_14 : decode cX11_put 14 = .ok (.aload_n 0, 1) := by decide +kernel
theorem dX11_put_15 : decode cX11_put 15 = .ok (.iload_n 1, 1) := by decide +kernel
theorem dX11_put_16 : decode cX11_put 16 = .ok (.iload_n 2, 1) := by decide +kernel
theorem dX11_put_17 : decode cX11_put 17 = .ok (.iastore, 1) := by decide +kernel
theorem dX11_put_18 : decode cX11_put 18 = .ok (.return_, 1) := by decide +kernel
abbrev YX11_wordAt : li_Y := (yX11_wordAt, cX11_wordAt, 2, (some .long))
theorem dX11_wordAt_0 : decode cX11_wordAt 0 = .ok (.aload_n 0, 1) := by decide +kernel
theorem dX11_wordAt_1 : decode cX11_wordAt 1 = .ok (.ifnull 19, 3) := by decide +kernel
theorem dX11_wordAt_4 : decode cX11_wordAt 4 = .ok (.iload_n 1, 1) := by decide +kernel
theorem dX11_wordAt_5 : decode cX11_wordAt 5 = .ok (.ifCond .lt 15, 3) := by decide +kernel
theorem dX11_wordAt_8 : decode cX11_wordAt 8 = .ok (.iload_n 1, 1) := by decide +kernel
theorem dX11_wordAt_9 : decode cX11_wordAt 9 = .ok (.aload_n 0, 1) := by decide +kernel
theorem dX11_wordAt_10 : decode cX11_wordAt 10 = .ok (.arraylength, 1) := by decide +kernel
theorem dX11_wordAt_11 : decode cX11_wordAt 11 = .ok (.if_icmp .ge 9, 3) := by decide +kernel
theorem dX11_wordAt_14 : decode cX11_wordAt 14 = .ok (.aload_n 0, 1) := by decide +kernel
theorem dX11_wordAt_15 : decode cX11_wordAt 15 = .ok (.iload_n 1, 1) := by decide +kernel
theorem dX11_wordAt_16 : decode cX11_wordAt 16 = .ok (.laload, 1) := by decide +kernel
theorem dX11_wordAt_17 : decode cX11_wordAt 17 = .ok (.goto 4, 3) := by decide +kernel
theorem dX11_wordAt_20 : decode cX11_wordAt 20 = .ok (.lconst 0, 1) := by decide +kernel
theorem dX11_wordAt_21 : decode cX11_wordAt 21 = .ok (.lreturn, 1) := by decide +kernel
abbrev YX11_putWord : li_Y := (yX11_putWord, cX11_putWord, 4, none)
theorem dX11_putWord_0 : decode cX11_putWord 0 = .ok (.aload_n 0, 1) := by decide +kernel
theorem dX11_putWord_1 : decode cX11_putWord 1 = .ok (.ifnull 17, 3) := by decide +kernel
theorem dX11_putWord_4 : decode cX11_putWord 4 = .ok (.iload_n 1, 1) := by decide +kernel
theorem dX11_putWord_5 : decode cX11_putWord 5 = .ok (.ifCond .lt 13, 3) := by decide +kernel
theorem dX11_putWord_8 : decode cX11_putWord 8 = .ok (.iload_n 1, 1) := by decide +kernel
theorem dX11_putWord_9 : decode cX11_putWord 9 = .ok (.aload_n 0, 1) := by decide +kernel
theorem dX11_putWord_10 : decode cX11_putWord 10 = .ok (.arraylength, 1) := by decide +kernel
theorem dX11_putWord_11 : decode cX11_putWord 11 = .ok (.if_icmp .ge 7, 3) := by decide +kernel
theorem dX11_putWord_14 : decode cX11_putWord 14 = .ok (.aload_n 0, 1) := by decide +kernel
theorem dX11_putWord_15 : decode cX11_putWord 15 = .ok (.iload_n 1, 1) := by decide +kernel
theorem dX11_putWord_16 : decode cX11_putWord 16 = .ok (.lload_n 2, 1) := by decide +kernel
theorem dX11_putWord_17 : decode cX11_putWord 17 = .ok (.lastore, 1) := by decide +kernel
theorem dX11_putWord_18 : decode cX11_putWord 18 = .ok (.return_, 1) := by decide +kernel
theorem nI_toInt32 {n : Nat} (h : n < 2147483648) : (nI n).toInt = (n : Int) := nI_toInt h
section LIR
variable {l : Launch} {Z : li_Z} {Y : li_Y} {d pc : Nat} {lo : List (Nat × Value)} {st : List Value} {M : li_M} {Q : Option Value → li_M → Prop}
theorem li_alenR (hd : decode Y.2.1 pc = .ok (.arraylength, 1)) (kk : li_T l Z Y d (pc + 1) lo (.int 4 :: st) M Q) : li_T l Z Y d pc lo (.ref (Z.2.2 2000) :: st) M Q := by
  intro p e s m args below meth c C K H locs ls hH hS hl
  obtain ⟨cell, h1, h2, h3, h4, h5, h6, h7⟩ := va_T.kept K.2.2.2.1.2.1 hS.2.1
  exact W.alen C.1 C.2.1 h1 h2 (n := 4) (h5.trans rfl) rfl rfl hd (kk p e s m args below meth c C K H locs ls hH hS hl)
theorem li_ialdR {i : Int32} (hi : vp_in i 4) (hd : decode Y.2.1 pc = .ok (.iaload, 1)) (kk : li_T l Z Y d (pc + 1) lo (.int (li_rf i.toNatClampNeg) :: st) M Q) : li_T l Z Y d pc lo (.int i :: .ref (Z.2.2 2000) :: st) M Q := by
  intro p e s m args below meth c C K H locs ls hH hS hl
  obtain ⟨cell, h1, h2, h3, h4, h5, h6, h7⟩ := va_T.kept K.2.2.2.1.2.1 hS.2.1
  have hlt : i.toNatClampNeg < 4 := Nat.not_le.mp fun q => hi (Or.inr q)
  exact W.iald C.1 C.2.1 h1 h2 h3 (fun q => hi (q.elim Or.inl (fun q => Or.inr (by omega)))) (h6 _ hlt) rfl rfl hd (kk p e s m args below meth c C K H locs ls hH hS hl)
end LIR
def li_at (f : Nat → Int32) (n : Nat) (i : Int32) : Int32 := if 0 ≤ i ∧ i < nI n then f i.toNatClampNeg else 0
def li_atL (f : Nat → Int64) (n : Nat) (i : Int32) : Int64 := if 0 ≤ i ∧ i < nI n then f i.toNatClampNeg else 0
def li_put (M : li_M) (j n : Nat) (i x : Int32) : li_M := if 0 ≤ i ∧ i < nI n then li_ui M j i.toNatClampNeg x else M
def li_putL (M : li_M) (j n : Nat) (i : Int32) (x : Int64) : li_M := if 0 ≤ i ∧ i < nI n then li_ul M j i.toNatClampNeg x else M
theorem li_fr_put {E : Nat → Prop} {M : li_M} {j n : Nat} {i x : Int32} (hj : E j) : li_fr E M (li_put M j n i x) := by
  unfold li_put
  by_cases h : 0 ≤ i ∧ i < nI n
  · rw [if_pos h]; exact li_fr_ui li_fr_refl hj rfl
  · rw [if_neg h]; exact li_fr_refl
theorem li_fr_putL {E : Nat → Prop} {M : li_M} {j n : Nat} {i : Int32} {x : Int64} (hj : E j) : li_fr E M (li_putL M j n i x) := by
  unfold li_putL
  by_cases h : 0 ≤ i ∧ i < nI n
  · rw [if_pos h]; exact li_fr_ul li_fr_refl hj rfl
  · rw [if_neg h]; exact li_fr_refl
theorem x_X11_at {l : Launch} {Z : li_Z} (d : Nat) (hd : 1 ≤ d) {j n : Nat} (hj : j < li_N) (hs : li_sh j = .inr (0, n)) (hn : n < 2147483648) (i : Int32) (M0 : li_M) : li_Met l Z YX11_at d [.ref (Z.2.2 j), .int i] M0 (fun r M' => r = some (.int (li_at (M0.1 j) n i)) ∧ M' = M0) := by
  refine li_enter (by decide +kernel) (Nat.le_of_ble_eq_true rfl) ?_
  show li_T l Z YX11_at d 0 [(0, .ref (Z.2.2 j)), (1, .int i)] [] M0 _
  refine li_aload_n 0 dX11_at_0 rfl ?_
  refine li_ifnull dX11_at_1 ?_
  refine li_iload_n 1 dX11_at_4 rfl ?_
  refine li_if_lt 20 dX11_at_5 (by decide) (fun c1 => ?_) (fun c1 => ?_)
  · refine li_iconst 0 dX11_at_20 (by decide) ?_
    exact li_iret dX11_at_21 rfl rfl ⟨by rw [li_at, if_neg (fun h => absurd h.1 (Int32.not_le.mpr c1))], rfl⟩
  · refine li_iload_n 1 dX11_at_8 rfl ?_
    refine li_aload_n 0 dX11_at_9 rfl ?_
    refine li_alen (nI n) dX11_at_10 hj hs (Or.inl (by decide)) rfl ?_
    refine li_icmp_ge 20 dX11_at_11 (by decide) (fun c2 => ?_) (fun c2 => ?_)
    · refine li_iconst 0 dX11_at_20 (by decide) ?_
      exact li_iret dX11_at_21 rfl rfl ⟨by rw [li_at, if_neg (fun h => absurd h.2 (Int32.not_lt.mpr c2))], rfl⟩
    · refine li_aload_n 0 dX11_at_14 rfl ?_
      refine li_iload_n 1 dX11_at_15 rfl ?_
      refine li_iald dX11_at_16 hj hs (li_in (li_ge c1) (li_gt c2) (nI_toInt32 hn)) ?_
      refine li_goto 21 dX11_at_17 (by decide) ?_
      exact li_iret dX11_at_21 rfl rfl ⟨by rw [li_at, if_pos ⟨li_ge c1, li_gt c2⟩], rfl⟩
theorem x_X11_atR {l : Launch} {Z : li_Z} (d : Nat) (hd : 1 ≤ d) (i : Int32) (M0 : li_M) : li_Met l Z YX11_at d [.ref (Z.2.2 2000), .int i] M0 (fun r M' => r = some (.int (li_at li_rf 4 i)) ∧ M' = M0) := by
  refine li_enter (by decide +kernel) (Nat.le_of_ble_eq_true rfl) ?_
  show li_T l Z YX11_at d 0 [(0, .ref (Z.2.2 2000)), (1, .int i)] [] M0 _
  refine li_aload_n 0 dX11_at_0 rfl ?_
  refine li_ifnull dX11_at_1 ?_
  refine li_iload_n 1 dX11_at_4 rfl ?_
  refine li_if_lt 20 dX11_at_5 (by decide) (fun c1 => ?_) (fun c1 => ?_)
  · refine li_iconst 0 dX11_at_20 (by decide) ?_
    exact li_iret dX11_at_21 rfl rfl ⟨by rw [li_at, if_neg (fun h => absurd h.1 (Int32.not_le.mpr c1))], rfl⟩
  · refine li_iload_n 1 dX11_at_8 rfl ?_
    refine li_aload_n 0 dX11_at_9 rfl ?_
    refine li_alenR dX11_at_10 ?_
    refine li_icmp_ge 20 dX11_at_11 (by decide) (fun c2 => ?_) (fun c2 => ?_)
    · refine li_iconst 0 dX11_at_20 (by decide) ?_
      exact li_iret dX11_at_21 rfl rfl ⟨by rw [li_at, if_neg (fun h => absurd h.2 (Int32.not_lt.mpr c2))], rfl⟩
    · refine li_aload_n 0 dX11_at_14 rfl ?_
      refine li_iload_n 1 dX11_at_15 rfl ?_
      refine li_ialdR (li_in (li_ge c1) (li_gt c2) rfl) dX11_at_16 ?_
      refine li_goto 21 dX11_at_17 (by decide) ?_
      exact li_iret dX11_at_21 rfl rfl ⟨by rw [li_at, if_pos ⟨li_ge c1, li_gt c2⟩], rfl⟩
theorem x_X11_put {l : Launch} {Z : li_Z} (d : Nat) (hd : 1 ≤ d) {j n : Nat} (hj : j < li_N) (hs : li_sh j = .inr (0, n)) (hn : n < 2147483648) (i x : Int32) (M0 : li_M) : li_Met l Z YX11_put d [.ref (Z.2.2 j), .int i, .int x] M0 (fun r M' => r = none ∧ M' = li_put M0 j n i x) := by
  refine li_enter (by decide +kernel) (Nat.le_of_ble_eq_true rfl) ?_
  show li_T l Z YX11_put d 0 [(0, .ref (Z.2.2 j)), (1, .int i), (2, .int x)] [] M0 _
  refine li_aload_n 0 dX11_put_0 rfl ?_
  refine li_ifnull dX11_put_1 ?_
  refine li_iload_n 1 dX11_put_4 rfl ?_
  refine li_if_lt 18 dX11_put_5 (by decide) (fun c1 => ?_) (fun c1 => ?_)
  · exact li_vret dX11_put_18 rfl ⟨rfl, by rw [li_put, if_neg (fun h => absurd h.1 (Int32.not_le.mpr c1))]⟩
  · refine li_iload_n 1 dX11_put_8 rfl ?_
    refine li_aload_n 0 dX11_put_9 rfl ?_
    refine li_alen (nI n) dX11_put_10 hj hs (Or.inl (by decide)) rfl ?_
    refine li_icmp_ge 18 dX11_put_11 (by decide) (fun c2 => ?_) (fun c2 => ?_)
    · exact li_vret dX11_put_18 rfl ⟨rfl, by rw [li_put, if_neg (fun h => absurd h.2 (Int32.not_lt.mpr c2))]⟩
    · refine li_aload_n 0 dX11_put_14 rfl ?_
      refine li_iload_n 1 dX11_put_15 rfl ?_
      refine li_iload_n 2 dX11_put_16 rfl ?_
      refine li_iast dX11_put_17 hj hs (li_in (li_ge c1) (li_gt c2) (nI_toInt32 hn)) ?_
      exact li_vret dX11_put_18 rfl ⟨rfl, by rw [li_put, if_pos ⟨li_ge c1, li_gt c2⟩]⟩
theorem x_X11_wordAt {l : Launch} {Z : li_Z} (d : Nat) (hd : 1 ≤ d) {j n : Nat} (hj : j < li_N) (hs : li_sh j = .inr (1, n)) (hn : n < 2147483648) (i : Int32) (M0 : li_M) : li_Met l Z YX11_wordAt d [.ref (Z.2.2 j), .int i] M0 (fun r M' => r = some (.long (li_atL (M0.2.1 j) n i)) ∧ M' = M0) := by
  refine li_enter (by decide +kernel) (Nat.le_of_ble_eq_true rfl) ?_
  show li_T l Z YX11_wordAt d 0 [(0, .ref (Z.2.2 j)), (1, .int i)] [] M0 _
  refine li_aload_n 0 dX11_wordAt_0 rfl ?_
  refine li_ifnull dX11_wordAt_1 ?_
  refine li_iload_n 1 dX11_wordAt_4 rfl ?_
  refine li_if_lt 20 dX11_wordAt_5 (by decide) (fun c1 => ?_) (fun c1 => ?_)
  · refine li_lconst 0 dX11_wordAt_20 (by decide) ?_
    exact li_lret dX11_wordAt_21 rfl ⟨by rw [li_atL, if_neg (fun h => absurd h.1 (Int32.not_le.mpr c1))], rfl⟩
  · refine li_iload_n 1 dX11_wordAt_8 rfl ?_
    refine li_aload_n 0 dX11_wordAt_9 rfl ?_
    refine li_alen (nI n) dX11_wordAt_10 hj hs (Or.inl (by decide)) rfl ?_
    refine li_icmp_ge 20 dX11_wordAt_11 (by decide) (fun c2 => ?_) (fun c2 => ?_)
    · refine li_lconst 0 dX11_wordAt_20 (by decide) ?_
      exact li_lret dX11_wordAt_21 rfl ⟨by rw [li_atL, if_neg (fun h => absurd h.2 (Int32.not_lt.mpr c2))], rfl⟩
    · refine li_aload_n 0 dX11_wordAt_14 rfl ?_
      refine li_iload_n 1 dX11_wordAt_15 rfl ?_
      refine li_lald dX11_wordAt_16 hj hs (li_in (li_ge c1) (li_gt c2) (nI_toInt32 hn)) ?_
      refine li_goto 21 dX11_wordAt_17 (by decide) ?_
      exact li_lret dX11_wordAt_21 rfl ⟨by rw [li_atL, if_pos ⟨li_ge c1, li_gt c2⟩], rfl⟩
theorem x_X11_putWord {l : Launch} {Z : li_Z} (d : Nat) (hd : 1 ≤ d) {j n : Nat} (hj : j < li_N) (hs : li_sh j = .inr (1, n)) (hn : n < 2147483648) (i : Int32) (x : Int64) (M0 : li_M) : li_Met l Z YX11_putWord d [.ref (Z.2.2 j), .int i, .long x] M0 (fun r M' => r = none ∧ M' = li_putL M0 j n i x) := by
  refine li_enter (by decide +kernel) (Nat.le_of_ble_eq_true rfl) ?_
  show li_T l Z YX11_putWord d 0 [(0, .ref (Z.2.2 j)), (1, .int i), (2, .long x)] [] M0 _
  refine li_aload_n 0 dX11_putWord_0 rfl ?_
  refine li_ifnull dX11_putWord_1 ?_
  refine li_iload_n 1 dX11_putWord_4 rfl ?_
  refine li_if_lt 18 dX11_putWord_5 (by decide) (fun c1 => ?_) (fun c1 => ?_)
  · exact li_vret dX11_putWord_18 rfl ⟨rfl, by rw [li_putL, if_neg (fun h => absurd h.1 (Int32.not_le.mpr c1))]⟩
  · refine li_iload_n 1 dX11_putWord_8 rfl ?_
    refine li_aload_n 0 dX11_putWord_9 rfl ?_
    refine li_alen (nI n) dX11_putWord_10 hj hs (Or.inl (by decide)) rfl ?_
    refine li_icmp_ge 18 dX11_putWord_11 (by decide) (fun c2 => ?_) (fun c2 => ?_)
    · exact li_vret dX11_putWord_18 rfl ⟨rfl, by rw [li_putL, if_neg (fun h => absurd h.2 (Int32.not_lt.mpr c2))]⟩
    · refine li_aload_n 0 dX11_putWord_14 rfl ?_
      refine li_iload_n 1 dX11_putWord_15 rfl ?_
      refine li_lload_n 2 dX11_putWord_16 rfl ?_
      refine li_last dX11_putWord_17 hj hs (li_in (li_ge c1) (li_gt c2) (nI_toInt32 hn)) ?_
      exact li_vret dX11_putWord_18 rfl ⟨rfl, by rw [li_putL, if_pos ⟨li_ge c1, li_gt c2⟩]⟩
theorem k_X11_at {l : Launch} {Z : li_Z} (d : Nat) (hd : 1 ≤ d) {j n : Nat} (hj : j < li_N) (hs : li_sh j = .inr (0, n)) (hn : n < 2147483648) (i : Int32) (M0 : li_M) : li_Met l Z YX11_at d [.ref (Z.2.2 j), .int i] M0 (li_SI (fun _ => False) M0) := li_mono (fun r M' h => ⟨⟨_, h.1⟩, by rw [h.2]; exact li_fr_refl⟩) (x_X11_at d hd hj hs hn i M0)
theorem k_X11_atR {l : Launch} {Z : li_Z} (d : Nat) (hd : 1 ≤ d) (i : Int32) (M0 : li_M) : li_Met l Z YX11_at d [.ref (Z.2.2 2000), .int i] M0 (li_SI (fun _ => False) M0) := li_mono (fun r M' h => ⟨⟨_, h.1⟩, by rw [h.2]; exact li_fr_refl⟩) (x_X11_atR d hd i M0)
theorem k_X11_put {l : Launch} {Z : li_Z} (d : Nat) (hd : 1 ≤ d) {j n : Nat} (hj : j < li_N) (hs : li_sh j = .inr (0, n)) (hn : n < 2147483648) (i x : Int32) (M0 : li_M) : li_Met l Z YX11_put d [.ref (Z.2.2 j), .int i, .int x] M0 (li_SV (fun i => i = j) M0) := li_mono (fun r M' h => ⟨h.1, by rw [h.2]; exact li_fr_put rfl⟩) (x_X11_put d hd hj hs hn i x M0)
theorem k_X11_wordAt {l : Launch} {Z : li_Z} (d : Nat) (hd : 1 ≤ d) {j n : Nat} (hj : j < li_N) (hs : li_sh j = .inr (1, n)) (hn : n < 2147483648) (i : Int32) (M0 : li_M) : li_Met l Z YX11_wordAt d [.ref (Z.2.2 j), .int i] M0 (li_SL (fun _ => False) M0) := li_mono (fun r M' h => ⟨⟨_, h.1⟩, by rw [h.2]; exact li_fr_refl⟩) (x_X11_wordAt d hd hj hs hn i M0)
theorem k_X11_putWord {l : Launch} {Z : li_Z} (d : Nat) (hd : 1 ≤ d) {j n : Nat} (hj : j < li_N) (hs : li_sh j = .inr (1, n)) (hn : n < 2147483648) (i : Int32) (x : Int64) (M0 : li_M) : li_Met l Z YX11_putWord d [.ref (Z.2.2 j), .int i, .long x] M0 (li_SV (fun i => i = j) M0) := li_mono (fun r M' h => ⟨h.1, by rw [h.2]; exact li_fr_putL rfl⟩) (x_X11_putWord d hd hj hs hn i x M0)
end
section
/-! COPYING whole rows -/
theorem li_cell_uc {Z : li_Z} {M : li_M} {i : Nat} {f : Nat → Int32} (hs : ∃ t n, li_sh i = .inr (t, n)) (j : Nat) (h : j ≠ i) : li_cell Z (li_uc M i f) j = li_cell Z M j := by
  have hob : ∀ (sl : List (Option Nat)) (n : Nat), li_ob Z (li_uc M i f) j n sl = li_ob Z M j n sl := by
    intro sl
    induction sl with
    | nil => intro n; rfl
    | cons o r ih =>
      intro n
      cases o with
      | none =>
        simp only [li_ob, ih]
        simp [li_uc, h]
      | some q =>
        simp only [li_ob, ih]
        rfl
  unfold li_cell
  cases li_sh j with
  | inl o => simp only [hob]
  | inr a => simp [li_ar, li_uc, h]
theorem li_cell_ucL {Z : li_Z} {M : li_M} {i : Nat} {f : Nat → Int64} (j : Nat) (h : j ≠ i) : li_cell Z (li_ucL M i f) j = li_cell Z M j := by
  have hob : ∀ (sl : List (Option Nat)) (n : Nat), li_ob Z (li_ucL M i f) j n sl = li_ob Z M j n sl := by
    intro sl
    induction sl with
    | nil => intro n; rfl
    | cons o r ih =>
      intro n
      cases o with
      | none =>
        simp only [li_ob, ih]
        rfl
      | some q =>
        simp only [li_ob, ih]
        rfl
  unfold li_cell
  cases li_sh j with
  | inl o => simp only [hob]
  | inr a => simp [li_ar, li_ucL, h]
section LIY
variable {l : Launch} {Z : li_Z} {Y : li_Y} {d pc ix : Nat} {lo : List (Nat × Value)} {st : List Value} {M : li_M} {Q : Option Value → li_M → Prop}
theorem li_nfw : nativeFrameWords "java/lang/System" "arraycopy" 5 ≤ 20 := by decide +kernel
theorem li_copyI {js jd n0 n1 : Nat} {N : Int32} (hd : decode Y.2.1 pc = .ok (.invokestatic ix, 3)) (hdd : 1 ≤ d) (w1 : Cond.methodLink Y.1.cls ix arraycopyName ∈ li_ws) (w2 : Cond.native arraycopyName ∈ li_ws) (w3 : Cond.static arraycopyName ∈ li_ws) (w4 : Cond.initialized "java/lang/System" ∈ li_ws)
    (hjs : js < li_N) (hss : li_sh js = .inr (0, n0)) (hjd : jd < li_N) (hsd : li_sh jd = .inr (0, n1)) (h3 : ¬ N < 0) (h4 : N.toNatClampNeg ≤ n0) (h5 : N.toNatClampNeg ≤ n1) (hc : (st.map fun v => v.category).sum ≤ 8)
    (kk : li_T l Z Y d (pc + 3) lo st (li_uc M jd (va_cpy (M.1 js) (M.1 jd) 0 0 N.toNatClampNeg)) Q) : li_T l Z Y d pc lo (.int N :: .int 0 :: .ref (Z.2.2 jd) :: .int 0 :: .ref (Z.2.2 js) :: st) M Q := by
  intro p e s m args below meth c C K H locs ls hH hS hl
  have hn := li_nfw
  refine va_copyi (D := Z.1) (f := M.1 js) (g := M.1 jd) C.1 C.2.1 (C.2.2.1.trans hl.1.symm) C.2.2.2.1 (C.2.2.2.2.1 _ w1) (C.2.2.2.2.1 _ w2) (C.2.2.2.2.1 _ w3) (C.2.2.2.2.1 _ w4) K.1 hH (li_D K.2.1) hS js jd 0 0 (by rw [li_get hjs, li_cellA hss]; rfl) (by rw [li_get hjd, li_cellA hsd]; rfl) rfl rfl rfl (by decide) (by decide) h3 (by show 0 + _ ≤ _; omega) (by show 0 + _ ≤ _; omega) (fun _ _ => rfl) hdd (by show _ ≤ 60 * d; omega) hd (fun H1 locs1 hP hD hS1 => ?_)
  have e0 : (li_wd Z M).set jd (Z.2.2 jd, .inl (Z.2.1 0, n1, .inl (va_cpy (M.1 js) (M.1 jd) (0 : Int32).toNatClampNeg (0 : Int32).toNatClampNeg N.toNatClampNeg))) = li_wd Z (li_uc M jd (va_cpy (M.1 js) (M.1 jd) 0 0 N.toNatClampNeg)) := by
    rw [← li_set (Z := Z) (M := M) (M' := li_uc M jd (va_cpy (M.1 js) (M.1 jd) 0 0 N.toNatClampNeg)) hjd (li_cell_uc ⟨_, _, hsd⟩), li_cellA hsd]
    simp [li_ct, li_ar, li_uc]
  rw [e0] at hP
  exact kk p e s m args below meth c C K H1 locs1 ls hP hS1 hl
theorem li_copyL {js jd n0 n1 : Nat} {N : Int32} (hd : decode Y.2.1 pc = .ok (.invokestatic ix, 3)) (hdd : 1 ≤ d) (w1 : Cond.methodLink Y.1.cls ix arraycopyName ∈ li_ws) (w2 : Cond.native arraycopyName ∈ li_ws) (w3 : Cond.static arraycopyName ∈ li_ws) (w4 : Cond.initialized "java/lang/System" ∈ li_ws)
    (hjs : js < li_N) (hss : li_sh js = .inr (1, n0)) (hjd : jd < li_N) (hsd : li_sh jd = .inr (1, n1)) (h3 : ¬ N < 0) (h4 : N.toNatClampNeg ≤ n0) (h5 : N.toNatClampNeg ≤ n1) (hc : (st.map fun v => v.category).sum ≤ 8)
    (kk : li_T l Z Y d (pc + 3) lo st (li_ucL M jd (va_cpy (M.2.1 js) (M.2.1 jd) 0 0 N.toNatClampNeg)) Q) : li_T l Z Y d pc lo (.int N :: .int 0 :: .ref (Z.2.2 jd) :: .int 0 :: .ref (Z.2.2 js) :: st) M Q := by
  intro p e s m args below meth c C K H locs ls hH hS hl
  have hn := li_nfw
  refine va_copyl (D := Z.1) (f := M.2.1 js) (g := M.2.1 jd) C.1 C.2.1 (C.2.2.1.trans hl.1.symm) C.2.2.2.1 (C.2.2.2.2.1 _ w1) (C.2.2.2.2.1 _ w2) (C.2.2.2.2.1 _ w3) (C.2.2.2.2.1 _ w4) K.1 hH (li_D K.2.1) hS js jd 1 1 (by rw [li_get hjs, li_cellA hss]; rfl) (by rw [li_get hjd, li_cellA hsd]; rfl) rfl rfl rfl (by decide) (by decide) h3 (by show 0 + _ ≤ _; omega) (by show 0 + _ ≤ _; omega) (fun _ _ => rfl) hdd (by show _ ≤ 60 * d; omega) hd (fun H1 locs1 hP hD hS1 => ?_)
  have e0 : (li_wd Z M).set jd (Z.2.2 jd, .inl (Z.2.1 1, n1, .inr (.inl (va_cpy (M.2.1 js) (M.2.1 jd) (0 : Int32).toNatClampNeg (0 : Int32).toNatClampNeg N.toNatClampNeg)))) = li_wd Z (li_ucL M jd (va_cpy (M.2.1 js) (M.2.1 jd) 0 0 N.toNatClampNeg)) := by
    rw [← li_set (Z := Z) (M := M) (M' := li_ucL M jd (va_cpy (M.2.1 js) (M.2.1 jd) 0 0 N.toNatClampNeg)) hjd li_cell_ucL, li_cellA hsd]
    simp [li_ct, li_ar, li_ucL]
  rw [e0] at hP
  exact kk p e s m args below meth c C K H1 locs1 ls hP hS1 hl
/-- a text's constant -/
theorem li_ldcS (i : Nat) (hd : decode Y.2.1 pc = .ok (.ldc ix, 2)) (hi : i < 4) (hw : (li_so i).1 = Y.1.cls ∧ (li_so i).2.1 = ix) (kk : li_T l Z Y d (pc + 2) lo (.ref (Z.2.2 (2100 + i)) :: st) M Q) : li_T l Z Y d pc lo st M Q := by
  intro p e s m args below meth c C K H locs ls hH hS hl
  have h1 := K.2.2.2.2 i hi
  rw [hw.1, hw.2] at h1
  exact va_ldcS C.1 C.2.1 C.2.2.2.1 h1 hd (kk p e s m args below meth c C K H locs ls hH hS hl)
end LIY
end
section
theorem w_118 : (Jvm.Cond.initialized "java/lang/String") ∈ li_ws := li_mem 118 (by decide +kernel) (by decide +kernel)
theorem w_119 : (Jvm.Cond.initialized "java/lang/StringLatin1") ∈ li_ws := li_mem 119 (by decide +kernel) (by decide +kernel)
theorem w_120 : (Jvm.Cond.initialized "jdk/internal/util/Preconditions") ∈ li_ws := li_mem 120 (by decide +kernel) (by decide +kernel)
theorem w_604 : (Jvm.Cond.methodLink "java/lang/String" (335 : Nat) ({ cls := "java/lang/String", name := "coder", desc := "()B" } : Jvm.MethodName)) ∈ li_ws := li_mem 604 (by decide +kernel) (by decide +kernel)
theorem w_605 : (Jvm.Cond.instanceMethod ({ cls := "java/lang/String", name := "coder", desc := "()B" } : Jvm.MethodName)) ∈ li_ws := li_mem 605 (by decide +kernel) (by decide +kernel)
theorem w_606 : (Jvm.Cond.selects "java/lang/String" ({ cls := "java/lang/String", name := "coder", desc := "()B" } : Jvm.MethodName) ({ cls := "java/lang/String", name := "coder", desc := "()B" } : Jvm.MethodName)) ∈ li_ws := li_mem 606 (by decide +kernel) (by decide +kernel)
theorem w_607 : (Jvm.Cond.code ({ cls := "java/lang/String", name := "coder", desc := "()B" } : Jvm.MethodName) prog_22_method_152_code (1 : Nat) (Option.some Jvm.ClassFile.FieldType.byte)) ∈ li_ws := li_mem 607 (by decide +kernel) (by decide +kernel)
theorem w_608 : (Jvm.Cond.fieldLink "java/lang/String" (38 : Nat) "java/lang/String" "COMPACT_STRINGS" "Z") ∈ li_ws := li_mem 608 (by decide +kernel) (by decide +kernel)
theorem w_614 : (Jvm.Cond.methodLink "java/lang/String" (492 : Nat) ({ cls := "java/lang/String", name := "isLatin1", desc := "()Z" } : Jvm.MethodName)) ∈ li_ws := li_mem 614 (by decide +kernel) (by decide +kernel)
theorem w_615 : (Jvm.Cond.instanceMethod ({ cls := "java/lang/String", name := "isLatin1", desc := "()Z" } : Jvm.MethodName)) ∈ li_ws := li_mem 615 (by decide +kernel) (by decide +kernel)
theorem w_616 : (Jvm.Cond.selects "java/lang/String" ({ cls := "java/lang/String", name := "isLatin1", desc := "()Z" } : Jvm.MethodName) ({ cls := "java/lang/String", name := "isLatin1", desc := "()Z" } : Jvm.MethodName)) ∈ li_ws := li_mem 616 (by decide +kernel) (by decide +kernel)
theorem w_617 : (Jvm.Cond.code ({ cls := "java/lang/String", name := "isLatin1", desc := "()Z" } : Jvm.MethodName) prog_22_method_154_code (1 : Nat) (Option.some Jvm.ClassFile.FieldType.boolean)) ∈ li_ws := li_mem 617 (by decide +kernel) (by decide +kernel)
theorem w_618 : (Jvm.Cond.methodLink "java/lang/String" (495 : Nat) ({ cls := "java/lang/StringLatin1", name := "charAt", desc := "([BI)C" } : Jvm.MethodName)) ∈ li_ws := li_mem 618 (by decide +kernel) (by decide +kernel)
theorem w_619 : (Jvm.Cond.static ({ cls := "java/lang/StringLatin1", name := "charAt", desc := "([BI)C" } : Jvm.MethodName)) ∈ li_ws := li_mem 619 (by decide +kernel) (by decide +kernel)
theorem w_620 : (Jvm.Cond.code ({ cls := "java/lang/StringLatin1", name := "charAt", desc := "([BI)C" } : Jvm.MethodName) prog_23_method_2_code (2 : Nat) (Option.some Jvm.ClassFile.FieldType.char)) ∈ li_ws := li_mem 620 (by decide +kernel) (by decide +kernel)
theorem w_621 : (Jvm.Cond.methodLink "java/lang/StringLatin1" (9 : Nat) ({ cls := "java/lang/String", name := "checkIndex", desc := "(II)V" } : Jvm.MethodName)) ∈ li_ws := li_mem 621 (by decide +kernel) (by decide +kernel)
theorem w_622 : (Jvm.Cond.static ({ cls := "java/lang/String", name := "checkIndex", desc := "(II)V" } : Jvm.MethodName)) ∈ li_ws := li_mem 622 (by decide +kernel) (by decide +kernel)
theorem w_623 : (Jvm.Cond.code ({ cls := "java/lang/String", name := "checkIndex", desc := "(II)V" } : Jvm.MethodName) prog_22_method_155_code (2 : Nat) (Option.none : Option Jvm.ClassFile.FieldType)) ∈ li_ws := li_mem 623 (by decide +kernel) (by decide +kernel)
theorem w_624 : (Jvm.Cond.fieldLink "java/lang/String" (1053 : Nat) "jdk/internal/util/Preconditions" "SIOOBE_FORMATTER" "Ljava/util/function/BiFunction;") ∈ li_ws := li_mem 624 (by decide +kernel) (by decide +kernel)
theorem w_626 : (Jvm.Cond.methodLink "java/lang/String" (1059 : Nat) ({ cls := "jdk/internal/util/Preconditions", name := "checkIndex", desc := "(IILjava/util/function/BiFunction;)I" } : Jvm.MethodName)) ∈ li_ws := li_mem 626 (by decide +kernel) (by decide +kernel)
theorem w_627 : (Jvm.Cond.static ({ cls := "jdk/internal/util/Preconditions", name := "checkIndex", desc := "(IILjava/util/function/BiFunction;)I" } : Jvm.MethodName)) ∈ li_ws := li_mem 627 (by decide +kernel) (by decide +kernel)
theorem w_628 : (Jvm.Cond.code ({ cls := "jdk/internal/util/Preconditions", name := "checkIndex", desc := "(IILjava/util/function/BiFunction;)I" } : Jvm.MethodName) prog_30_method_11_code (3 : Nat) (Option.some Jvm.ClassFile.FieldType.int)) ∈ li_ws := li_mem 628 (by decide +kernel) (by decide +kernel)
theorem w_2048 : (Jvm.Cond.fieldLink "java/lang/String" (9 : Nat) "java/lang/String" "value" "[B") ∈ li_ws := li_mem 2048 (by decide +kernel) (by decide +kernel)
theorem w_2049 : (Jvm.Cond.fieldLink "java/lang/String" (15 : Nat) "java/lang/String" "coder" "B") ∈ li_ws := li_mem 2049 (by decide +kernel) (by decide +kernel)
abbrev YJ0_length_8abf5 : li_Y := (yJ0_length_8abf5, cJ0_length_8abf5, 1, (some .int))
theorem dJ0_length_8abf5_0 : decode cJ0_length_8abf5 0 = .ok (.aload_n 0, 1) := by decide +kernel
theorem dJ0_length_8abf5_1 : decode cJ0_length_8abf5 1 = .ok (.getfield 9, 3) := by decide +kernel
theorem dJ0_length_8abf5_4 : decode cJ0_length_8abf5 4 = .ok (.arraylength, 1) := by decide +kernel
theorem dJ0_length_8abf5_5 : decode cJ0_length_8abf5 5 = .ok (.aload_n 0, 1) := by decide +kernel
theorem dJ0_length_8abf5_6 : decode cJ0_length_8abf5 6 = .ok (.invokevirtual 335, 3) := by decide +kernel
theorem dJ0_length_8abf5_9 : decode cJ0_length_8abf5 9 = .ok (.ishr, 1) := by decide +kernel
theorem dJ0_length_8abf5_10 : decode cJ0_length_8abf5 10 = .ok (.ireturn, 1) := by decide +kernel
abbrev YJ0_coder_7d493 : li_Y := (yJ0_coder_7d493, cJ0_coder_7d493, 1, (some .byte))
theorem dJ0_coder_7d493_0 : decode cJ0_coder_7d493 0 = .ok (.getstatic 38, 3) := by decide +kernel
theorem dJ0_coder_7d493_3 : decode cJ0_coder_7d493 3 = .ok (.ifCond .eq 10, 3) := by decide +kernel
theorem dJ0_coder_7d493_6 : decode cJ0_coder_7d493 6 = .ok (.aload_n 0, 1) := by decide +kernel
theorem dJ0_coder_7d493_7 : decode cJ0_coder_7d493 7 = .ok (.getfield 15, 3) := by decide +kernel
theorem dJ0_coder_7d493_10 : decode cJ0_coder_7d493 10 = .ok (.goto 4, 3) := by decide +kernel
theorem dJ0_coder_7d493_13 : decode cJ0_coder_7d493 13 = .ok (.iconst 1, 1) := by decide +kernel
theorem dJ0_coder_7d493_14 : decode cJ0_coder_7d493 14 = .ok (.ireturn, 1) := by decide +kernel
abbrev YJ0_charAt_5068e : li_Y := (yJ0_charAt_5068e, cJ0_charAt_5068e, 2, (some .char))
theorem dJ0_charAt_5068e_0 : decode cJ0_charAt_5068e 0 = .ok (.aload_n 0, 1) := by decide +kernel
theorem dJ0_charAt_5068e_1 : decode cJ0_charAt_5068e 1 = .ok (.invokevirtual 492, 3) := by decide +kernel
theorem dJ0_charAt_5068e_4 : decode cJ0_charAt_5068e 4 = .ok (.ifCond .eq 12, 3) := by decide +kernel
theorem dJ0_charAt_5068e_7 : decode cJ0_charAt_5068e 7 = .ok (.aload_n 0, 1) := by decide +kernel
theorem dJ0_charAt_5068e_8 : decode cJ0_charAt_5068e 8 = .ok (.getfield 9, 3) := by decide +kernel
theorem dJ0_charAt_5068e_11 : decode cJ0_charAt_5068e 11 = .ok (.iload_n 1, 1) := by decide +kernel
theorem dJ0_charAt_5068e_12 : decode cJ0_charAt_5068e 12 = .ok (.invokestatic 495, 3) := by decide +kernel
theorem dJ0_charAt_5068e_15 : decode cJ0_charAt_5068e 15 = .ok (.ireturn, 1) := by decide +kernel
theorem dJ0_charAt_5068e_16 : decode cJ0_charAt_5068e 16 = .ok (.aload_n 0, 1) := by decide +kernel
theorem dJ0_charAt_5068e_17 : decode cJ0_charAt_5068e 17 = .ok (.getfield 9, 3) := by decide +kernel
theorem dJ0_charAt_5068e_20 : decode cJ0_charAt_5068e 20 = .ok (.iload_n 1, 1) := by decide +kernel
theorem dJ0_charAt_5068e_21 : decode cJ0_charAt_5068e 21 = .ok (.invokestatic 498, 3) := by decide +kernel
theorem dJ0_charAt_5068e_24 : decode cJ0_charAt_5068e 24 = .ok (.ireturn, 1) := by decide +kernel
abbrev YJ0_isLatin1_aae02 : li_Y := (yJ0_isLatin1_aae02, cJ0_isLatin1_aae02, 1, (some .boolean))
theorem dJ0_isLatin1_aae02_0 : decode cJ0_isLatin1_aae02 0 = .ok (.getstatic 38, 3) := by decide +kernel
theorem dJ0_isLatin1_aae02_3 : decode cJ0_isLatin1_aae02 3 = .ok (.ifCond .eq 14, 3) := by decide +kernel
theorem dJ0_isLatin1_aae02_6 : decode cJ0_isLatin1_aae02 6 = .ok (.aload_n 0, 1) := by decide +kernel
theorem dJ0_isLatin1_aae02_7 : decode cJ0_isLatin1_aae02 7 = .ok (.getfield 15, 3) := by decide +kernel
theorem dJ0_isLatin1_aae02_10 : decode cJ0_isLatin1_aae02 10 = .ok (.ifCond .ne 7, 3) := by decide +kernel
theorem dJ0_isLatin1_aae02_13 : decode cJ0_isLatin1_aae02 13 = .ok (.iconst 1, 1) := by decide +kernel
theorem dJ0_isLatin1_aae02_14 : decode cJ0_isLatin1_aae02 14 = .ok (.goto 4, 3) := by decide +kernel
theorem dJ0_isLatin1_aae02_17 : decode cJ0_isLatin1_aae02 17 = .ok (.iconst 0, 1) := by decide +kernel
theorem dJ0_isLatin1_aae02_18 : decode cJ0_isLatin1_aae02 18 = .ok (.ireturn, 1) := by decide +kernel
abbrev YJ1_charAt_3b067 : li_Y := (yJ1_charAt_3b067, cJ1_charAt_3b067, 2, (some .char))
theorem dJ1_charAt_3b067_0 : decode cJ1_charAt_3b067 0 = .ok (.iload_n 1, 1) := by decide +kernel
theorem dJ1_charAt_3b067_1 : decode cJ1_charAt_3b067 1 = .ok (.aload_n 0, 1) := by decide +kernel
theorem dJ1_charAt_3b067_2 : decode cJ1_charAt_3b067 2 = .ok (.arraylength, 1) := by decide +kernel
theorem dJ1_charAt_3b067_3 : decode cJ1_charAt_3b067 3 = .ok (.invokestatic 9, 3) := by decide +kernel
theorem dJ1_charAt_3b067_6 : decode cJ1_charAt_3b067 6 = .ok (.aload_n 0, 1) := by decide +kernel
theorem dJ1_charAt_3b067_7 : decode cJ1_charAt_3b067 7 = .ok (.iload_n 1, 1) := by decide +kernel
theorem dJ1_charAt_3b067_8 : decode cJ1_charAt_3b067 8 = .ok (.baload, 1) := by decide +kernel
theorem dJ1_charAt_3b067_9 : decode cJ1_charAt_3b067 9 = .ok (.sipush 255, 3) := by decide +kernel
theorem dJ1_charAt_3b067_12 : decode cJ1_charAt_3b067 12 = .ok (.iand, 1) := by decide +kernel
theorem dJ1_charAt_3b067_13 : decode cJ1_charAt_3b067 13 = .ok (.i2c, 1) := by decide +kernel
theorem dJ1_charAt_3b067_14 : decode cJ1_charAt_3b067 14 = .ok (.ireturn, 1) := by decide +kernel
abbrev YJ0_checkIndex_df160 : li_Y := (yJ0_checkIndex_df160, cJ0_checkIndex_df160, 2, none)
theorem dJ0_checkIndex_df160_0 : decode cJ0_checkIndex_df160 0 = .ok (.iload_n 0, 1) := by decide +kernel
theorem dJ0_checkIndex_df160_1 : decode cJ0_checkIndex_df160 1 = .ok (.iload_n 1, 1) := by decide +kernel
theorem dJ0_checkIndex_df160_2 : decode cJ0_checkIndex_df160 2 = .ok (.getstatic 1053, 3) := by decide +kernel
theorem dJ0_checkIndex_df160_5 : decode cJ0_checkIndex_df160 5 = .ok (.invokestatic 1059, 3) := by decide +kernel
theorem dJ0_checkIndex_df160_8 : decode cJ0_checkIndex_df160 8 = .ok (.pop, 1) := by decide +kernel
theorem dJ0_checkIndex_df160_9 : decode cJ0_checkIndex_df160 9 = .ok (.return_, 1) := by decide +kernel
abbrev YJ3_checkIndex_8e157 : li_Y := (yJ3_checkIndex_8e157, cJ3_checkIndex_8e157, 3, (some .int))
theorem dJ3_checkIndex_8e157_0 : decode cJ3_checkIndex_8e157 0 = .ok (.iload_n 0, 1) := by decide +kernel
theorem dJ3_checkIndex_8e157_1 : decode cJ3_checkIndex_8e157 1 = .ok (.ifCond .lt 8, 3) := by decide +kernel
theorem dJ3_checkIndex_8e157_4 : decode cJ3_checkIndex_8e157 4 = .ok (.iload_n 0, 1) := by decide +kernel
theorem dJ3_checkIndex_8e157_5 : decode cJ3_checkIndex_8e157 5 = .ok (.iload_n 1, 1) := by decide +kernel
theorem dJ3_checkIndex_8e157_6 : decode cJ3_checkIndex_8e157 6 = .ok (.if_icmp .lt 10, 3) := by decide +kernel
theorem dJ3_checkIndex_8e157_9 : decode cJ3_checkIndex_8e157 9 = .ok (.aload_n 2, 1) := by decide +kernel
theorem dJ3_checkIndex_8e157_10 : decode cJ3_checkIndex_8e157 10 = .ok (.iload_n 0, 1) := by decide +kernel
theorem dJ3_checkIndex_8e157_11 : decode cJ3_checkIndex_8e157 11 = .ok (.iload_n 1, 1) := by decide +kernel
theorem dJ3_checkIndex_8e157_12 : decode cJ3_checkIndex_8e157 12 = .ok (.invokestatic 95, 3) := by decide +kernel
theorem dJ3_checkIndex_8e157_15 : decode cJ3_checkIndex_8e157 15 = .ok (.athrow, 1) := by decide +kernel
theorem dJ3_checkIndex_8e157_16 : decode cJ3_checkIndex_8e157 16 = .ok (.iload_n 0, 1) := by decide +kernel
theorem dJ3_checkIndex_8e157_17 : decode cJ3_checkIndex_8e157 17 = .ok (.ireturn, 1) := by decide +kernel
section LIST
variable {l : Launch} {Z : li_Z} {Y Y' : li_Y} {d d' pc ix : Nat} {lo : List (Nat × Value)} {st rest : List Value} {M : li_M} {Q Q' : Option Value → li_M → Prop}
theorem li_compact (hd : decode Y.2.1 pc = .ok (.getstatic ix, 3)) (hw : Cond.fieldLink Y.1.cls ix "java/lang/String" "COMPACT_STRINGS" "Z" ∈ li_ws) (kk : li_T l Z Y d (pc + 3) lo (.int 1 :: st) M Q) : li_T l Z Y d pc lo st M Q :=
  fun p e s m args below meth c C K H locs ls hH hS hl => va_gets C.1 C.2.1 (C := "java/lang/String") (n := "COMPACT_STRINGS") (d := "Z") (ref := "java/lang/String") K.2.2.2.1.2.2.2.1 hS C.2.2.2.1 (C.2.2.2.2.1 _ hw) (fun _ h => h) hd (kk p e s m args below meth c C K H locs ls hH hS hl)
theorem li_sioobe (hd : decode Y.2.1 pc = .ok (.getstatic ix, 3)) (hw : Cond.fieldLink Y.1.cls ix "jdk/internal/util/Preconditions" "SIOOBE_FORMATTER" "Ljava/util/function/BiFunction;" ∈ li_ws) (kk : ∀ v : Value, (v = .null ∨ ∃ t : Nat, v = .ref t) → li_T l Z Y d (pc + 3) lo (v :: st) M Q) : li_T l Z Y d pc lo st M Q := by
  intro p e s m args below meth c C K H locs ls hH hS hl
  rcases K.2.2.2.1.2.2.2.2 with h | ⟨t, h⟩
  · exact va_gets C.1 C.2.1 (ref := "jdk/internal/util/Preconditions") h hS C.2.2.2.1 (C.2.2.2.2.1 _ hw) (fun _ h => h) hd (kk .null (Or.inl rfl) p e s m args below meth c C K H locs ls hH hS hl)
  · exact va_gets C.1 C.2.1 (ref := "jdk/internal/util/Preconditions") h hS C.2.2.2.1 (C.2.2.2.2.1 _ hw) (fun _ h => h) hd (kk (.ref t) (Or.inr ⟨t, rfl⟩) p e s m args below meth c C K H locs ls hH hS hl)
theorem li_getV {i : Nat} (hi : i < 4) (hd : decode Y.2.1 pc = .ok (.getfield ix, 3)) (hw : Cond.fieldLink Y.1.cls ix "java/lang/String" "value" "[B" ∈ li_ws) (kk : li_T l Z Y d (pc + 3) lo (.ref (Z.2.2 (2200 + i)) :: st) M Q) : li_T l Z Y d pc lo (.ref (Z.2.2 (2100 + i)) :: st) M Q :=
  fun p e s m args below meth c C K H locs ls hH hS hl => vk_getf C.1 C.2.1 (ref := "java/lang/String") (K.2.2.2.1.2.2.1.1 i hi).2.2.1 hS C.2.2.2.1 (C.2.2.2.2.1 _ hw) (fun _ h => h) hd (kk p e s m args below meth c C K H locs ls hH hS hl)
theorem li_getC {i : Nat} (hi : i < 4) (hd : decode Y.2.1 pc = .ok (.getfield ix, 3)) (hw : Cond.fieldLink Y.1.cls ix "java/lang/String" "coder" "B" ∈ li_ws) (kk : li_T l Z Y d (pc + 3) lo (.int 0 :: st) M Q) : li_T l Z Y d pc lo (.ref (Z.2.2 (2100 + i)) :: st) M Q :=
  fun p e s m args below meth c C K H locs ls hH hS hl => vk_getf C.1 C.2.1 (ref := "java/lang/String") (K.2.2.2.1.2.2.1.1 i hi).2.1 hS C.2.2.2.1 (C.2.2.2.2.1 _ hw) (fun _ h => h) hd (kk p e s m args below meth c C K H locs ls hH hS hl)
theorem li_alenS {i : Nat} (hi : i < 4) (hd : decode Y.2.1 pc = .ok (.arraylength, 1)) (kk : li_T l Z Y d (pc + 1) lo (.int (nI (li_len.getD i 0)) :: st) M Q) : li_T l Z Y d pc lo (.ref (Z.2.2 (2200 + i)) :: st) M Q := by
  intro p e s m args below meth c C K H locs ls hH hS hl
  obtain ⟨cell, h1, h2, h3, h4, h5, h6, h7⟩ := va_T.kept (K.2.2.2.1.2.2.1.1 i hi).2.2.2 hS.2.1
  exact W.alen C.1 C.2.1 h1 h2 (n := nI (li_len.getD i 0)) h5 rfl rfl hd (kk p e s m args below meth c C K H locs ls hH hS hl)
theorem li_baldS {i : Nat} {k : Int32} (hi : i < 4) (hk : vp_in k (li_len.getD i 0)) (hd : decode Y.2.1 pc = .ok (.baload, 1)) (kk : li_T l Z Y d (pc + 1) lo (.int ((li_byt.getD i []).getD k.toNatClampNeg 0) :: st) M Q) : li_T l Z Y d pc lo (.int k :: .ref (Z.2.2 (2200 + i)) :: st) M Q := by
  intro p e s m args below meth c C K H locs ls hH hS hl
  obtain ⟨cell, h1, h2, h3, h4, h5, h6, h7⟩ := va_T.kept (K.2.2.2.1.2.2.1.1 i hi).2.2.2 hS.2.1
  have hlt : k.toNatClampNeg < li_len.getD i 0 := Nat.not_le.mp fun q => hk (Or.inr q)
  exact W.bald C.1 C.2.1 h1 h2 h3 (fun q => hk (q.elim Or.inl (fun q => Or.inr (by omega)))) (h6 _ hlt) rfl rfl hd (kk p e s m args below meth c C K H locs ls hH hS hl)
theorem li_callT {As : List Value} {i n : Nat} (hi : i < 4) (hd : decode Y.2.1 pc = .ok (.invokevirtual ix, 3)) (hM : li_Met l Z Y' d' (.ref (Z.2.2 (2100 + i)) :: As) M Q') (hdd : d' + 1 ≤ d) (hml : Y'.2.2.1 ≤ 41) (hcl : Y'.1.cls = "java/lang/String")
    (w1 : Cond.methodLink Y.1.cls ix Y'.1 ∈ li_ws) (w2 : Cond.instanceMethod Y'.1 ∈ li_ws) (w3 : Cond.selects Y'.1.cls Y'.1 Y'.1 ∈ li_ws) (w4 : Cond.initialized Y'.1.cls ∈ li_ws) (w5 : Cond.code Y'.1 Y'.2.1 Y'.2.2.1 Y'.2.2.2 ∈ li_ws)
    (hy : Y'.1.cls ≠ "java/lang/invoke/MethodHandle" ∧ Y'.1.cls ≠ "java/lang/invoke/VarHandle" ∧ (parseMethodDescriptor Y'.1.desc).map (fun d => d.parameters.length) = some n) (hn : As.length = n)
    (hst : st = As.reverse ++ .ref (Z.2.2 (2100 + i)) :: rest) (hcat : (rest.map fun v => v.category).sum ≤ 8)
    (kk : ∀ (r : Option Value) (M' : li_M), Q' r M' → li_T l Z Y d (pc + 3) lo (r.toList ++ rest) M' Q) : li_T l Z Y d pc lo st M Q := by
  intro p e s m args below meth c C K H locs ls hH hS hl
  have hrun := va_runV (R := li_rm d) (e := e) (below := below) (meth := meth) (locs := locs) (cells := 0) (slots := 0) (As := As) (rest := rest) (n := n) (g := F0 m pc ls st) (index := ix) (own := Y.1.cls) (C := Y'.1.cls) (b := Z.2.2 (2100 + i)) (H := H) (Ts := li_ws)
    ⟨C.1, C.2.1, C.2.2.1, C.2.2.2.1, C.2.2.2.2.1⟩ hM
    (cwV n C.2.2.2.2.1 (fun w hw => by
      rcases List.mem_append.mp (by unfold wsV at hw; exact hw) with h | h
      · have hm : w ∈ li_ws := by
          simp only [List.mem_cons, List.not_mem_nil, or_false] at h
          rcases h with rfl | rfl | rfl | rfl
          · exact w1
          · exact w2
          · exact w3
          · exact w4
        exact ⟨hm, good_of_word (List.mem_filter.mp hm).2⟩
      · exact li_good w5 w h) rfl rfl rfl ⟨rfl, hy⟩ ⟨hdd, by show 8 + (Y'.2.2.1 + 11) + 60 * d' ≤ 60 * d; omega⟩)
    ⟨li_blind, by rw [hcl]; exact vk_recv (i := i) K.2.2.2.1.2.2.1 hi hS, fun U hU hW => ⟨rfl, by rw [hU]; exact hH, li_K_warm hW hU hS K⟩⟩ rfl hn hl.1 hst (lv_room hcat) hd ⟨Nat.le_refl _, Nat.le_refl _⟩
  exact li_behind hrun hS (fun r M' H1 locs1 hq hH1 hS1 => kk r M' hq p e s m args below meth c C K H1 locs1 ls hH1 hS1 hl)
theorem li_aloadA {k : Fin 4} {v : Value} (q : Nat) (hv : ∃ x : Nat, v = .ref x) (hd : decode Y.2.1 pc = .ok (.aload_n k, 1)) (hk : lo[q]? = some ((k : Nat), v)) (kk : li_T l Z Y d (pc + 1) lo (v :: st) M Q) : li_T l Z Y d pc lo st M Q := by
  obtain ⟨x, rfl⟩ := hv
  exact li_aload_n q hd hk kk
end LIST
theorem x_J3_checkIndex {l : Launch} {Z : li_Z} (d : Nat) (hd : 1 ≤ d) (i n : Int32) (v : Value) (hv : v = .null ∨ ∃ t : Nat, v = .ref t) (h1 : 0 ≤ i) (h2 : i < n) (M0 : li_M) : li_Met l Z YJ3_checkIndex_8e157 d [.int i, .int n, v] M0 (fun r M' => r = some (.int i) ∧ M' = M0) := by
  refine li_enter (by decide +kernel) (by rcases hv with rfl | ⟨t, rfl⟩ <;> exact Nat.le_of_ble_eq_true rfl) ?_
  have e : lv_args 0 [.int i, .int n, v] = [(0, .int i), (1, .int n), (2, v)] := by rcases hv with rfl | ⟨t, rfl⟩ <;> rfl
  rw [e]
  refine li_iload_n 0 dJ3_checkIndex_8e157_0 rfl ?_
  refine li_if_lt 9 dJ3_checkIndex_8e157_1 (by decide) (fun c => absurd h1 (Int32.not_le.mpr c)) (fun c => ?_)
  refine li_iload_n 0 dJ3_checkIndex_8e157_4 rfl ?_
  refine li_iload_n 1 dJ3_checkIndex_8e157_5 rfl ?_
  refine li_icmp_lt 16 dJ3_checkIndex_8e157_6 (by decide) (fun c => ?_) (fun c => absurd h2 c)
  refine li_iload_n 0 dJ3_checkIndex_8e157_16 rfl ?_
  exact li_iret dJ3_checkIndex_8e157_17 rfl rfl ⟨rfl, rfl⟩
theorem x_J0_checkIndex {l : Launch} {Z : li_Z} (d : Nat) (hd : 2 ≤ d) (i n : Int32) (h1 : 0 ≤ i) (h2 : i < n) (M0 : li_M) : li_Met l Z YJ0_checkIndex_df160 d [.int i, .int n] M0 (fun r M' => r = none ∧ M' = M0) := by
  refine li_enter (by decide +kernel) (Nat.le_of_ble_eq_true rfl) ?_
  show li_T l Z YJ0_checkIndex_df160 d 0 [(0, .int i), (1, .int n)] [] M0 _
  refine li_iload_n 0 dJ0_checkIndex_df160_0 rfl ?_
  refine li_iload_n 1 dJ0_checkIndex_df160_1 rfl ?_
  refine li_sioobe dJ0_checkIndex_df160_2 w_624 (fun v hv => ?_)
  refine li_callS (n := 3) (As := [.int i, .int n, v]) dJ0_checkIndex_df160_5 (x_J3_checkIndex (d - 1) (by omega) i n v hv h1 h2 M0) (by omega) (Nat.le_of_ble_eq_true rfl) w_626 w_627 w_120 w_628 (by decide +kernel) rfl rfl (Nat.le_of_ble_eq_true rfl) (fun r M1 hq => ?_)
  obtain ⟨rfl, rfl⟩ := hq
  refine li_pop dJ0_checkIndex_df160_8 rfl ?_
  exact li_vret dJ0_checkIndex_df160_9 rfl ⟨rfl, rfl⟩
theorem x_J0_coder {l : Launch} {Z : li_Z} (d : Nat) {i : Nat} (hi : i < 4) (M0 : li_M) : li_Met l Z YJ0_coder_7d493 d [.ref (Z.2.2 (2100 + i))] M0 (fun r M' => r = some (.int 0) ∧ M' = M0) := by
  refine li_enter (by decide +kernel) (Nat.le_of_ble_eq_true rfl) ?_
  show li_T l Z YJ0_coder_7d493 d 0 [(0, .ref (Z.2.2 (2100 + i)))] [] M0 _
  refine li_compact dJ0_coder_7d493_0 w_608 ?_
  refine li_if_eq 13 dJ0_coder_7d493_3 (by decide) (fun c => absurd c (by decide)) (fun c => ?_)
  refine li_aload_n 0 dJ0_coder_7d493_6 rfl ?_
  refine li_getC hi dJ0_coder_7d493_7 w_2049 ?_
  refine li_goto 14 dJ0_coder_7d493_10 (by decide) ?_
  exact li_iret dJ0_coder_7d493_14 rfl rfl ⟨rfl, rfl⟩
theorem x_J0_isLatin1 {l : Launch} {Z : li_Z} (d : Nat) {i : Nat} (hi : i < 4) (M0 : li_M) : li_Met l Z YJ0_isLatin1_aae02 d [.ref (Z.2.2 (2100 + i))] M0 (fun r M' => r = some (.int 1) ∧ M' = M0) := by
  refine li_enter (by decide +kernel) (Nat.le_of_ble_eq_true rfl) ?_
  show li_T l Z YJ0_isLatin1_aae02 d 0 [(0, .ref (Z.2.2 (2100 + i)))] [] M0 _
  refine li_compact dJ0_isLatin1_aae02_0 w_608 ?_
  refine li_if_eq 17 dJ0_isLatin1_aae02_3 (by decide) (fun c => absurd c (by decide)) (fun c => ?_)
  refine li_aload_n 0 dJ0_isLatin1_aae02_6 rfl ?_
  refine li_getC hi dJ0_isLatin1_aae02_7 w_2049 ?_
  refine li_if_ne 17 dJ0_isLatin1_aae02_10 (by decide) (fun c => absurd rfl c) (fun c => ?_)
  refine li_iconst 1 dJ0_isLatin1_aae02_13 (by decide) ?_
  refine li_goto 18 dJ0_isLatin1_aae02_14 (by decide) ?_
  exact li_iret dJ0_isLatin1_aae02_18 rfl rfl ⟨rfl, rfl⟩
theorem x_J0_length {l : Launch} {Z : li_Z} (d : Nat) (hd : 2 ≤ d) {i : Nat} (hi : i < 4) (M0 : li_M) : li_Met l Z YJ0_length_8abf5 d [.ref (Z.2.2 (2100 + i))] M0 (fun r M' => r = some (.int (nI (li_len.getD i 0))) ∧ M' = M0) := by
  refine li_enter (by decide +kernel) (Nat.le_of_ble_eq_true rfl) ?_
  show li_T l Z YJ0_length_8abf5 d 0 [(0, .ref (Z.2.2 (2100 + i)))] [] M0 _
  refine li_aload_n 0 dJ0_length_8abf5_0 rfl ?_
  refine li_getV hi dJ0_length_8abf5_1 w_2048 ?_
  refine li_alenS hi dJ0_length_8abf5_4 ?_
  refine li_aload_n 0 dJ0_length_8abf5_5 rfl ?_
  refine li_callT (n := 0) (As := []) hi dJ0_length_8abf5_6 (x_J0_coder (d - 1) hi M0) (by omega) (Nat.le_of_ble_eq_true rfl) rfl w_604 w_605 w_606 w_118 w_607 (by decide +kernel) rfl rfl (Nat.le_of_ble_eq_true rfl) (fun r M1 hq => ?_)
  obtain ⟨rfl, rfl⟩ := hq
  refine li_ishr dJ0_length_8abf5_9 ?_
  exact li_iret dJ0_length_8abf5_10 rfl rfl ⟨by rw [sb_shr0], rfl⟩
def li_ch (i : Nat) (k : Int32) : Int32 := (((li_byt.getD i []).getD k.toNatClampNeg 0 &&& 255).toUInt32 % 65536).toInt32
theorem x_J1_charAt {l : Launch} {Z : li_Z} (d : Nat) (hd : 3 ≤ d) {i : Nat} (hi : i < 4) (k : Int32) (h1 : 0 ≤ k.toInt) (h2 : k.toInt < (li_len.getD i 0 : Nat)) (M0 : li_M) : li_Met l Z YJ1_charAt_3b067 d [.ref (Z.2.2 (2200 + i)), .int k] M0 (fun r M' => r = some (.int (li_ch i k)) ∧ M' = M0) := by
  have hl4 : li_len.getD i 0 < 7 := by rcases (show i = 0 ∨ i = 1 ∨ i = 2 ∨ i = 3 by omega) with rfl | rfl | rfl | rfl <;> decide
  have g2 : k < nI (li_len.getD i 0) := Int32.lt_iff_toInt_lt.mpr (by rw [nI_toInt (by omega)]; exact h2)
  refine li_enter (by decide +kernel) (Nat.le_of_ble_eq_true rfl) ?_
  show li_T l Z YJ1_charAt_3b067 d 0 [(0, .ref (Z.2.2 (2200 + i))), (1, .int k)] [] M0 _
  refine li_iload_n 1 dJ1_charAt_3b067_0 rfl ?_
  refine li_aload_n 0 dJ1_charAt_3b067_1 rfl ?_
  refine li_alenS hi dJ1_charAt_3b067_2 ?_
  refine li_callS (n := 2) (As := [.int k, .int (nI (li_len.getD i 0))]) dJ1_charAt_3b067_3 (x_J0_checkIndex (d - 1) (by omega) k _ (Int32.le_iff_toInt_le.mpr h1) g2 M0) (by omega) (Nat.le_of_ble_eq_true rfl) w_621 w_622 w_118 w_623 (by decide +kernel) rfl rfl (Nat.le_of_ble_eq_true rfl) (fun r M1 hq => ?_)
  obtain ⟨rfl, rfl⟩ := hq
  refine li_aload_n 0 dJ1_charAt_3b067_6 rfl ?_
  refine li_iload_n 1 dJ1_charAt_3b067_7 rfl ?_
  refine li_baldS hi (tl_in ⟨h1, h2⟩) dJ1_charAt_3b067_8 ?_
  refine li_sipush 255 dJ1_charAt_3b067_9 (by decide) ?_
  refine li_iand dJ1_charAt_3b067_12 ?_
  refine li_i2c dJ1_charAt_3b067_13 ?_
  exact li_iret dJ1_charAt_3b067_14 rfl (pk_nc _) ⟨rfl, rfl⟩
theorem x_J0_charAt {l : Launch} {Z : li_Z} (d : Nat) (hd : 4 ≤ d) {i : Nat} (hi : i < 4) (k : Int32) (h1 : 0 ≤ k.toInt) (h2 : k.toInt < (li_len.getD i 0 : Nat)) (M0 : li_M) : li_Met l Z YJ0_charAt_5068e d [.ref (Z.2.2 (2100 + i)), .int k] M0 (fun r M' => r = some (.int (li_ch i k)) ∧ M' = M0) := by
  refine li_enter (by decide +kernel) (Nat.le_of_ble_eq_true rfl) ?_
  show li_T l Z YJ0_charAt_5068e d 0 [(0, .ref (Z.2.2 (2100 + i))), (1, .int k)] [] M0 _
  refine li_aload_n 0 dJ0_charAt_5068e_0 rfl ?_
  refine li_callT (n := 0) (As := []) hi dJ0_charAt_5068e_1 (x_J0_isLatin1 (d - 1) hi M0) (by omega) (Nat.le_of_ble_eq_true rfl) rfl w_614 w_615 w_616 w_118 w_617 (by decide +kernel) rfl rfl (Nat.le_of_ble_eq_true rfl) (fun r M1 hq => ?_)
  obtain ⟨rfl, rfl⟩ := hq
  refine li_if_eq 16 dJ0_charAt_5068e_4 (by decide) (fun c => absurd c (by decide)) (fun c => ?_)
  refine li_aload_n 0 dJ0_charAt_5068e_7 rfl ?_
  refine li_getV hi dJ0_charAt_5068e_8 w_2048 ?_
  refine li_iload_n 1 dJ0_charAt_5068e_11 rfl ?_
  refine li_callS (n := 2) (As := [.ref (Z.2.2 (2200 + i)), .int k]) dJ0_charAt_5068e_12 (x_J1_charAt (d - 1) (by omega) hi k h1 h2 M1) (by omega) (Nat.le_of_ble_eq_true rfl) w_618 w_619 w_119 w_620 (by decide +kernel) rfl rfl (Nat.le_of_ble_eq_true rfl) (fun r M1 hq => ?_)
  obtain ⟨rfl, rfl⟩ := hq
  exact li_iret dJ0_charAt_5068e_15 rfl (pk_nc _) ⟨rfl, rfl⟩
end
