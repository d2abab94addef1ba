section
-- ===== PART A: goes FIRST, ahead of the names: the tables' words, and 'selects' of the private methods out of them =====
/-- a private method of a class that the tables say can be made, by its rows of tables_1 -/
def lw_okq (q : MethodName × Nat) : Prop := (q.1.cls ≠ "java/lang/invoke/MethodHandle" ∧ q.1.cls ≠ "java/lang/invoke/VarHandle") ∧ Cond.instantiable q.1.cls q.2 ∈ tables_1 ∧ Cond.privateMethod q.1 ∈ tables_1 ∧ Cond.instanceMethod q.1 ∈ tables_1
theorem lw_p0 : lw_okq (⟨"ClockForTalk", "readText", "(III)I"⟩, 14) := ⟨⟨by decide +kernel, by decide +kernel⟩, List.mem_of_getElem? (i := 26) (by decide +kernel), List.mem_of_getElem? (i := 454) (by decide +kernel), List.mem_of_getElem? (i := 455) (by decide +kernel)⟩
theorem lw_p1 : lw_okq (⟨"ClockForTalk$Rule", "readExpression", "(LClockForTalk$Text;I)Z"⟩, 4) := ⟨⟨by decide +kernel, by decide +kernel⟩, List.mem_of_getElem? (i := 210) (by decide +kernel), List.mem_of_getElem? (i := 466) (by decide +kernel), List.mem_of_getElem? (i := 467) (by decide +kernel)⟩
theorem lw_p2 : lw_okq (⟨"ClockForTalk$Rule", "readSum", "(LClockForTalk$Text;I)Z"⟩, 4) := ⟨⟨by decide +kernel, by decide +kernel⟩, List.mem_of_getElem? (i := 210) (by decide +kernel), List.mem_of_getElem? (i := 470) (by decide +kernel), List.mem_of_getElem? (i := 471) (by decide +kernel)⟩
theorem lw_p3 : lw_okq (⟨"ClockForTalk$Rule", "readProduct", "(LClockForTalk$Text;I)Z"⟩, 4) := ⟨⟨by decide +kernel, by decide +kernel⟩, List.mem_of_getElem? (i := 210) (by decide +kernel), List.mem_of_getElem? (i := 474) (by decide +kernel), List.mem_of_getElem? (i := 475) (by decide +kernel)⟩
theorem lw_p4 : lw_okq (⟨"ClockForTalk$Rule", "readFactor", "(LClockForTalk$Text;I)Z"⟩, 4) := ⟨⟨by decide +kernel, by decide +kernel⟩, List.mem_of_getElem? (i := 210) (by decide +kernel), List.mem_of_getElem? (i := 478) (by decide +kernel), List.mem_of_getElem? (i := 479) (by decide +kernel)⟩
theorem lw_p5 : lw_okq (⟨"ClockForTalk$Rule", "readAtom", "(LClockForTalk$Text;I)Z"⟩, 4) := ⟨⟨by decide +kernel, by decide +kernel⟩, List.mem_of_getElem? (i := 210) (by decide +kernel), List.mem_of_getElem? (i := 489) (by decide +kernel), List.mem_of_getElem? (i := 490) (by decide +kernel)⟩
theorem lw_p6 : lw_okq (⟨"ClockForTalk$Rule", "add", "(I)Z"⟩, 4) := ⟨⟨by decide +kernel, by decide +kernel⟩, List.mem_of_getElem? (i := 210) (by decide +kernel), List.mem_of_getElem? (i := 547) (by decide +kernel), List.mem_of_getElem? (i := 548) (by decide +kernel)⟩
theorem lw_p7 : lw_okq (⟨"ClockForTalk$Rule", "addSign", "(Ljava/lang/String;I)Z"⟩, 4) := ⟨⟨by decide +kernel, by decide +kernel⟩, List.mem_of_getElem? (i := 210) (by decide +kernel), List.mem_of_getElem? (i := 563) (by decide +kernel), List.mem_of_getElem? (i := 564) (by decide +kernel)⟩
theorem lw_p8 : lw_okq (⟨"ClockForTalk", "readLines", "(II)I"⟩, 14) := ⟨⟨by decide +kernel, by decide +kernel⟩, List.mem_of_getElem? (i := 26) (by decide +kernel), List.mem_of_getElem? (i := 582) (by decide +kernel), List.mem_of_getElem? (i := 583) (by decide +kernel)⟩
theorem lw_p9 : lw_okq (⟨"ClockForTalk", "readLine", "(II)Z"⟩, 14) := ⟨⟨by decide +kernel, by decide +kernel⟩, List.mem_of_getElem? (i := 26) (by decide +kernel), List.mem_of_getElem? (i := 586) (by decide +kernel), List.mem_of_getElem? (i := 587) (by decide +kernel)⟩
theorem lw_p10 : lw_okq (⟨"ClockForTalk", "readWish", "(I)Z"⟩, 14) := ⟨⟨by decide +kernel, by decide +kernel⟩, List.mem_of_getElem? (i := 26) (by decide +kernel), List.mem_of_getElem? (i := 597) (by decide +kernel), List.mem_of_getElem? (i := 598) (by decide +kernel)⟩
theorem lw_p11 : lw_okq (⟨"ClockForTalk", "readAct", "(I)Z"⟩, 14) := ⟨⟨by decide +kernel, by decide +kernel⟩, List.mem_of_getElem? (i := 26) (by decide +kernel), List.mem_of_getElem? (i := 614) (by decide +kernel), List.mem_of_getElem? (i := 615) (by decide +kernel)⟩
theorem lw_p12 : lw_okq (⟨"ClockForTalk", "readSaying", "(I)Z"⟩, 14) := ⟨⟨by decide +kernel, by decide +kernel⟩, List.mem_of_getElem? (i := 26) (by decide +kernel), List.mem_of_getElem? (i := 619) (by decide +kernel), List.mem_of_getElem? (i := 620) (by decide +kernel)⟩
theorem lw_p13 : lw_okq (⟨"ClockForTalk", "writeAct", "(IIIII)V"⟩, 14) := ⟨⟨by decide +kernel, by decide +kernel⟩, List.mem_of_getElem? (i := 26) (by decide +kernel), List.mem_of_getElem? (i := 624) (by decide +kernel), List.mem_of_getElem? (i := 625) (by decide +kernel)⟩
theorem lw_p14 : lw_okq (⟨"ClockForTalk", "readGift", "(I)Z"⟩, 14) := ⟨⟨by decide +kernel, by decide +kernel⟩, List.mem_of_getElem? (i := 26) (by decide +kernel), List.mem_of_getElem? (i := 629) (by decide +kernel), List.mem_of_getElem? (i := 630) (by decide +kernel)⟩
theorem lw_p15 : lw_okq (⟨"ClockForTalk", "utter", "(II)I"⟩, 14) := ⟨⟨by decide +kernel, by decide +kernel⟩, List.mem_of_getElem? (i := 26) (by decide +kernel), List.mem_of_getElem? (i := 770) (by decide +kernel), List.mem_of_getElem? (i := 771) (by decide +kernel)⟩
def lw_privs_1 : List (MethodName × Nat) := [(⟨"ClockForTalk", "readText", "(III)I"⟩, 14), (⟨"ClockForTalk$Rule", "readExpression", "(LClockForTalk$Text;I)Z"⟩, 4), (⟨"ClockForTalk$Rule", "readSum", "(LClockForTalk$Text;I)Z"⟩, 4), (⟨"ClockForTalk$Rule", "readProduct", "(LClockForTalk$Text;I)Z"⟩, 4), (⟨"ClockForTalk$Rule", "readFactor", "(LClockForTalk$Text;I)Z"⟩, 4), (⟨"ClockForTalk$Rule", "readAtom", "(LClockForTalk$Text;I)Z"⟩, 4), (⟨"ClockForTalk$Rule", "add", "(I)Z"⟩, 4), (⟨"ClockForTalk$Rule", "addSign", "(Ljava/lang/String;I)Z"⟩, 4), (⟨"ClockForTalk", "readLines", "(II)I"⟩, 14), (⟨"ClockForTalk", "readLine", "(II)Z"⟩, 14), (⟨"ClockForTalk", "readWish", "(I)Z"⟩, 14), (⟨"ClockForTalk", "readAct", "(I)Z"⟩, 14), (⟨"ClockForTalk", "readSaying", "(I)Z"⟩, 14), (⟨"ClockForTalk", "writeAct", "(IIIII)V"⟩, 14), (⟨"ClockForTalk", "readGift", "(I)Z"⟩, 14), (⟨"ClockForTalk", "utter", "(II)I"⟩, 14)]
theorem lw_r1 : ∀ q ∈ lw_privs_1, lw_okq q := List.forall_mem_cons.mpr ⟨lw_p0, List.forall_mem_cons.mpr ⟨lw_p1, List.forall_mem_cons.mpr ⟨lw_p2, List.forall_mem_cons.mpr ⟨lw_p3, List.forall_mem_cons.mpr ⟨lw_p4, List.forall_mem_cons.mpr ⟨lw_p5, List.forall_mem_cons.mpr ⟨lw_p6, List.forall_mem_cons.mpr ⟨lw_p7, List.forall_mem_cons.mpr ⟨lw_p8, List.forall_mem_cons.mpr ⟨lw_p9, List.forall_mem_cons.mpr ⟨lw_p10, List.forall_mem_cons.mpr ⟨lw_p11, List.forall_mem_cons.mpr ⟨lw_p12, List.forall_mem_cons.mpr ⟨lw_p13, List.forall_mem_cons.mpr ⟨lw_p14, List.forall_mem_cons.mpr ⟨lw_p15, fun _ h => absurd h List.not_mem_nil⟩⟩⟩⟩⟩⟩⟩⟩⟩⟩⟩⟩⟩⟩⟩⟩
theorem lw_p16 : lw_okq (⟨"ClockForTalk", "held", "(I)I"⟩, 14) := ⟨⟨by decide +kernel, by decide +kernel⟩, List.mem_of_getElem? (i := 26) (by decide +kernel), List.mem_of_getElem? (i := 785) (by decide +kernel), List.mem_of_getElem? (i := 786) (by decide +kernel)⟩
theorem lw_p17 : lw_okq (⟨"ClockForTalk", "handOver", "(III)I"⟩, 14) := ⟨⟨by decide +kernel, by decide +kernel⟩, List.mem_of_getElem? (i := 26) (by decide +kernel), List.mem_of_getElem? (i := 798) (by decide +kernel), List.mem_of_getElem? (i := 799) (by decide +kernel)⟩
theorem lw_p18 : lw_okq (⟨"ClockForTalk", "passDays", "(I)V"⟩, 14) := ⟨⟨by decide +kernel, by decide +kernel⟩, List.mem_of_getElem? (i := 26) (by decide +kernel), List.mem_of_getElem? (i := 839) (by decide +kernel), List.mem_of_getElem? (i := 840) (by decide +kernel)⟩
theorem lw_p19 : lw_okq (⟨"ClockForTalk$Ledger", "addTenths", "()V"⟩, 11) := ⟨⟨by decide +kernel, by decide +kernel⟩, List.mem_of_getElem? (i := 124) (by decide +kernel), List.mem_of_getElem? (i := 847) (by decide +kernel), List.mem_of_getElem? (i := 848) (by decide +kernel)⟩
theorem lw_p20 : lw_okq (⟨"ClockForTalk$Ledger", "settle", "(I)V"⟩, 11) := ⟨⟨by decide +kernel, by decide +kernel⟩, List.mem_of_getElem? (i := 124) (by decide +kernel), List.mem_of_getElem? (i := 857) (by decide +kernel), List.mem_of_getElem? (i := 858) (by decide +kernel)⟩
theorem lw_p21 : lw_okq (⟨"ClockForTalk$Ledger", "beginYear", "(LClockForTalk$Town;)V"⟩, 11) := ⟨⟨by decide +kernel, by decide +kernel⟩, List.mem_of_getElem? (i := 124) (by decide +kernel), List.mem_of_getElem? (i := 865) (by decide +kernel), List.mem_of_getElem? (i := 866) (by decide +kernel)⟩
theorem lw_p22 : lw_okq (⟨"ClockForTalk", "doAct", "(I)I"⟩, 14) := ⟨⟨by decide +kernel, by decide +kernel⟩, List.mem_of_getElem? (i := 26) (by decide +kernel), List.mem_of_getElem? (i := 878) (by decide +kernel), List.mem_of_getElem? (i := 879) (by decide +kernel)⟩
theorem lw_p23 : lw_okq (⟨"ClockForTalk", "isSpeech", "(I)Z"⟩, 14) := ⟨⟨by decide +kernel, by decide +kernel⟩, List.mem_of_getElem? (i := 26) (by decide +kernel), List.mem_of_getElem? (i := 890) (by decide +kernel), List.mem_of_getElem? (i := 891) (by decide +kernel)⟩
theorem lw_p24 : lw_okq (⟨"ClockForTalk$Costs", "weigh", "(II)V"⟩, 8) := ⟨⟨by decide +kernel, by decide +kernel⟩, List.mem_of_getElem? (i := 277) (by decide +kernel), List.mem_of_getElem? (i := 935) (by decide +kernel), List.mem_of_getElem? (i := 936) (by decide +kernel)⟩
theorem lw_p25 : lw_okq (⟨"ClockForTalk$WordOfMouth", "linkCost", "(III)I"⟩, 9) := ⟨⟨by decide +kernel, by decide +kernel⟩, List.mem_of_getElem? (i := 313) (by decide +kernel), List.mem_of_getElem? (i := 983) (by decide +kernel), List.mem_of_getElem? (i := 984) (by decide +kernel)⟩
theorem lw_p26 : lw_okq (⟨"ClockForTalk$WordOfMouth", "walk", "(IIII)V"⟩, 9) := ⟨⟨by decide +kernel, by decide +kernel⟩, List.mem_of_getElem? (i := 313) (by decide +kernel), List.mem_of_getElem? (i := 992) (by decide +kernel), List.mem_of_getElem? (i := 993) (by decide +kernel)⟩
theorem lw_p27 : lw_okq (⟨"ClockForTalk$WordOfMouth", "widestHearers", "(II)I"⟩, 9) := ⟨⟨by decide +kernel, by decide +kernel⟩, List.mem_of_getElem? (i := 313) (by decide +kernel), List.mem_of_getElem? (i := 1012) (by decide +kernel), List.mem_of_getElem? (i := 1013) (by decide +kernel)⟩
theorem lw_p28 : lw_okq (⟨"ClockForTalk$WordOfMouth", "knowers", "(II)I"⟩, 9) := ⟨⟨by decide +kernel, by decide +kernel⟩, List.mem_of_getElem? (i := 313) (by decide +kernel), List.mem_of_getElem? (i := 1018) (by decide +kernel), List.mem_of_getElem? (i := 1019) (by decide +kernel)⟩
theorem lw_p29 : lw_okq (⟨"ClockForTalk$Debates", "fill", "(I)V"⟩, 2) := ⟨⟨by decide +kernel, by decide +kernel⟩, List.mem_of_getElem? (i := 230) (by decide +kernel), List.mem_of_getElem? (i := 1031) (by decide +kernel), List.mem_of_getElem? (i := 1032) (by decide +kernel)⟩
theorem lw_p30 : lw_okq (⟨"ClockForTalk$Debates", "mostToWin", "(III)I"⟩, 2) := ⟨⟨by decide +kernel, by decide +kernel⟩, List.mem_of_getElem? (i := 230) (by decide +kernel), List.mem_of_getElem? (i := 1040) (by decide +kernel), List.mem_of_getElem? (i := 1041) (by decide +kernel)⟩
theorem lw_p31 : lw_okq (⟨"ClockForTalk$Debates", "wins", "(IIII)Z"⟩, 2) := ⟨⟨by decide +kernel, by decide +kernel⟩, List.mem_of_getElem? (i := 230) (by decide +kernel), List.mem_of_getElem? (i := 1044) (by decide +kernel), List.mem_of_getElem? (i := 1045) (by decide +kernel)⟩
def lw_privs_2 : List (MethodName × Nat) := [(⟨"ClockForTalk", "held", "(I)I"⟩, 14), (⟨"ClockForTalk", "handOver", "(III)I"⟩, 14), (⟨"ClockForTalk", "passDays", "(I)V"⟩, 14), (⟨"ClockForTalk$Ledger", "addTenths", "()V"⟩, 11), (⟨"ClockForTalk$Ledger", "settle", "(I)V"⟩, 11), (⟨"ClockForTalk$Ledger", "beginYear", "(LClockForTalk$Town;)V"⟩, 11), (⟨"ClockForTalk", "doAct", "(I)I"⟩, 14), (⟨"ClockForTalk", "isSpeech", "(I)Z"⟩, 14), (⟨"ClockForTalk$Costs", "weigh", "(II)V"⟩, 8), (⟨"ClockForTalk$WordOfMouth", "linkCost", "(III)I"⟩, 9), (⟨"ClockForTalk$WordOfMouth", "walk", "(IIII)V"⟩, 9), (⟨"ClockForTalk$WordOfMouth", "widestHearers", "(II)I"⟩, 9), (⟨"ClockForTalk$WordOfMouth", "knowers", "(II)I"⟩, 9), (⟨"ClockForTalk$Debates", "fill", "(I)V"⟩, 2), (⟨"ClockForTalk$Debates", "mostToWin", "(III)I"⟩, 2), (⟨"ClockForTalk$Debates", "wins", "(IIII)Z"⟩, 2)]
theorem lw_r2 : ∀ q ∈ lw_privs_2, lw_okq q := List.forall_mem_cons.mpr ⟨lw_p16, List.forall_mem_cons.mpr ⟨lw_p17, List.forall_mem_cons.mpr ⟨lw_p18, List.forall_mem_cons.mpr ⟨lw_p19, List.forall_mem_cons.mpr ⟨lw_p20, List.forall_mem_cons.mpr ⟨lw_p21, List.forall_mem_cons.mpr ⟨lw_p22, List.forall_mem_cons.mpr ⟨lw_p23, List.forall_mem_cons.mpr ⟨lw_p24, List.forall_mem_cons.mpr ⟨lw_p25, List.forall_mem_cons.mpr ⟨lw_p26, List.forall_mem_cons.mpr ⟨lw_p27, List.forall_mem_cons.mpr ⟨lw_p28, List.forall_mem_cons.mpr ⟨lw_p29, List.forall_mem_cons.mpr ⟨lw_p30, List.forall_mem_cons.mpr ⟨lw_p31, fun _ h => absurd h List.not_mem_nil⟩⟩⟩⟩⟩⟩⟩⟩⟩⟩⟩⟩⟩⟩⟩⟩
theorem lw_p32 : lw_okq (⟨"ClockForTalk$Wordings", "joined", "(II)I"⟩, 8) := ⟨⟨by decide +kernel, by decide +kernel⟩, List.mem_of_getElem? (i := 244) (by decide +kernel), List.mem_of_getElem? (i := 1072) (by decide +kernel), List.mem_of_getElem? (i := 1073) (by decide +kernel)⟩
theorem lw_p33 : lw_okq (⟨"ClockForTalk$Wordings", "tryFirst", "(II)V"⟩, 8) := ⟨⟨by decide +kernel, by decide +kernel⟩, List.mem_of_getElem? (i := 244) (by decide +kernel), List.mem_of_getElem? (i := 1085) (by decide +kernel), List.mem_of_getElem? (i := 1086) (by decide +kernel)⟩
theorem lw_p34 : lw_okq (⟨"ClockForTalk$Wordings", "isTrialLess", "(II)Z"⟩, 8) := ⟨⟨by decide +kernel, by decide +kernel⟩, List.mem_of_getElem? (i := 244) (by decide +kernel), List.mem_of_getElem? (i := 1093) (by decide +kernel), List.mem_of_getElem? (i := 1094) (by decide +kernel)⟩
theorem lw_p35 : lw_okq (⟨"ClockForTalk$Dusk", "fillSums", "(II)V"⟩, 9) := ⟨⟨by decide +kernel, by decide +kernel⟩, List.mem_of_getElem? (i := 350) (by decide +kernel), List.mem_of_getElem? (i := 1128) (by decide +kernel), List.mem_of_getElem? (i := 1129) (by decide +kernel)⟩
theorem lw_p36 : lw_okq (⟨"ClockForTalk$Dusk", "clearSums", "(II)V"⟩, 9) := ⟨⟨by decide +kernel, by decide +kernel⟩, List.mem_of_getElem? (i := 350) (by decide +kernel), List.mem_of_getElem? (i := 1132) (by decide +kernel), List.mem_of_getElem? (i := 1133) (by decide +kernel)⟩
theorem lw_p37 : lw_okq (⟨"ClockForTalk$Dusk", "addSpeech", "(IIII)V"⟩, 9) := ⟨⟨by decide +kernel, by decide +kernel⟩, List.mem_of_getElem? (i := 350) (by decide +kernel), List.mem_of_getElem? (i := 1138) (by decide +kernel), List.mem_of_getElem? (i := 1139) (by decide +kernel)⟩
theorem lw_p38 : lw_okq (⟨"ClockForTalk$Dusk", "addShifted", "(IIII)V"⟩, 9) := ⟨⟨by decide +kernel, by decide +kernel⟩, List.mem_of_getElem? (i := 350) (by decide +kernel), List.mem_of_getElem? (i := 1142) (by decide +kernel), List.mem_of_getElem? (i := 1143) (by decide +kernel)⟩
theorem lw_p39 : lw_okq (⟨"ClockForTalk$Dusk", "hasSum", "(II)Z"⟩, 9) := ⟨⟨by decide +kernel, by decide +kernel⟩, List.mem_of_getElem? (i := 350) (by decide +kernel), List.mem_of_getElem? (i := 1147) (by decide +kernel), List.mem_of_getElem? (i := 1148) (by decide +kernel)⟩
theorem lw_p40 : lw_okq (⟨"ClockForTalk$Dusk", "countSet", "(I)V"⟩, 9) := ⟨⟨by decide +kernel, by decide +kernel⟩, List.mem_of_getElem? (i := 350) (by decide +kernel), List.mem_of_getElem? (i := 1151) (by decide +kernel), List.mem_of_getElem? (i := 1152) (by decide +kernel)⟩
theorem lw_p41 : lw_okq (⟨"ClockForTalk$Dusk", "countSums", "(II)I"⟩, 9) := ⟨⟨by decide +kernel, by decide +kernel⟩, List.mem_of_getElem? (i := 350) (by decide +kernel), List.mem_of_getElem? (i := 1165) (by decide +kernel), List.mem_of_getElem? (i := 1166) (by decide +kernel)⟩
theorem lw_p42 : lw_okq (⟨"ClockForTalk", "bestOfAll", "(LClockForTalk$Costs;)I"⟩, 14) := ⟨⟨by decide +kernel, by decide +kernel⟩, List.mem_of_getElem? (i := 26) (by decide +kernel), List.mem_of_getElem? (i := 1173) (by decide +kernel), List.mem_of_getElem? (i := 1174) (by decide +kernel)⟩
theorem lw_p43 : lw_okq (⟨"ClockForTalk$Ledger", "isStruckBy", "(II)Z"⟩, 11) := ⟨⟨by decide +kernel, by decide +kernel⟩, List.mem_of_getElem? (i := 124) (by decide +kernel), List.mem_of_getElem? (i := 1193) (by decide +kernel), List.mem_of_getElem? (i := 1194) (by decide +kernel)⟩
theorem lw_p44 : lw_okq (⟨"java/lang/Throwable", "fillInStackTrace", "(I)Ljava/lang/Throwable;"⟩, 6) := ⟨⟨by decide +kernel, by decide +kernel⟩, List.mem_of_getElem? (i := 1280) (by decide +kernel), List.mem_of_getElem? (i := 1278) (by decide +kernel), List.mem_of_getElem? (i := 1279) (by decide +kernel)⟩
theorem lw_p45 : lw_okq (⟨"ClockForTalkModel", "begin", "([BII)V"⟩, 52) := ⟨⟨by decide +kernel, by decide +kernel⟩, List.mem_of_getElem? (i := 1337) (by decide +kernel), List.mem_of_getElem? (i := 1522) (by decide +kernel), List.mem_of_getElem? (i := 1523) (by decide +kernel)⟩
theorem lw_p46 : lw_okq (⟨"ClockForTalkModel", "fine", "()Z"⟩, 52) := ⟨⟨by decide +kernel, by decide +kernel⟩, List.mem_of_getElem? (i := 1337) (by decide +kernel), List.mem_of_getElem? (i := 1526) (by decide +kernel), List.mem_of_getElem? (i := 1527) (by decide +kernel)⟩
theorem lw_p47 : lw_okq (⟨"ClockForTalkModel", "fault", "(I)V"⟩, 52) := ⟨⟨by decide +kernel, by decide +kernel⟩, List.mem_of_getElem? (i := 1337) (by decide +kernel), List.mem_of_getElem? (i := 1530) (by decide +kernel), List.mem_of_getElem? (i := 1531) (by decide +kernel)⟩
def lw_privs_3 : List (MethodName × Nat) := [(⟨"ClockForTalk$Wordings", "joined", "(II)I"⟩, 8), (⟨"ClockForTalk$Wordings", "tryFirst", "(II)V"⟩, 8), (⟨"ClockForTalk$Wordings", "isTrialLess", "(II)Z"⟩, 8), (⟨"ClockForTalk$Dusk", "fillSums", "(II)V"⟩, 9), (⟨"ClockForTalk$Dusk", "clearSums", "(II)V"⟩, 9), (⟨"ClockForTalk$Dusk", "addSpeech", "(IIII)V"⟩, 9), (⟨"ClockForTalk$Dusk", "addShifted", "(IIII)V"⟩, 9), (⟨"ClockForTalk$Dusk", "hasSum", "(II)Z"⟩, 9), (⟨"ClockForTalk$Dusk", "countSet", "(I)V"⟩, 9), (⟨"ClockForTalk$Dusk", "countSums", "(II)I"⟩, 9), (⟨"ClockForTalk", "bestOfAll", "(LClockForTalk$Costs;)I"⟩, 14), (⟨"ClockForTalk$Ledger", "isStruckBy", "(II)Z"⟩, 11), (⟨"java/lang/Throwable", "fillInStackTrace", "(I)Ljava/lang/Throwable;"⟩, 6), (⟨"ClockForTalkModel", "begin", "([BII)V"⟩, 52), (⟨"ClockForTalkModel", "fine", "()Z"⟩, 52), (⟨"ClockForTalkModel", "fault", "(I)V"⟩, 52)]
theorem lw_r3 : ∀ q ∈ lw_privs_3, lw_okq q := List.forall_mem_cons.mpr ⟨lw_p32, List.forall_mem_cons.mpr ⟨lw_p33, List.forall_mem_cons.mpr ⟨lw_p34, List.forall_mem_cons.mpr ⟨lw_p35, List.forall_mem_cons.mpr ⟨lw_p36, List.forall_mem_cons.mpr ⟨lw_p37, List.forall_mem_cons.mpr ⟨lw_p38, List.forall_mem_cons.mpr ⟨lw_p39, List.forall_mem_cons.mpr ⟨lw_p40, List.forall_mem_cons.mpr ⟨lw_p41, List.forall_mem_cons.mpr ⟨lw_p42, List.forall_mem_cons.mpr ⟨lw_p43, List.forall_mem_cons.mpr ⟨lw_p44, List.forall_mem_cons.mpr ⟨lw_p45, List.forall_mem_cons.mpr ⟨lw_p46, List.forall_mem_cons.mpr ⟨lw_p47, fun _ h => absurd h List.not_mem_nil⟩⟩⟩⟩⟩⟩⟩⟩⟩⟩⟩⟩⟩⟩⟩⟩
theorem lw_p48 : lw_okq (⟨"ClockForTalkModel", "number", "(I)I"⟩, 52) := ⟨⟨by decide +kernel, by decide +kernel⟩, List.mem_of_getElem? (i := 1337) (by decide +kernel), List.mem_of_getElem? (i := 1534) (by decide +kernel), List.mem_of_getElem? (i := 1535) (by decide +kernel)⟩
theorem lw_p49 : lw_okq (⟨"ClockForTalkModel", "oneOf", "(CII)I"⟩, 52) := ⟨⟨by decide +kernel, by decide +kernel⟩, List.mem_of_getElem? (i := 1337) (by decide +kernel), List.mem_of_getElem? (i := 1538) (by decide +kernel), List.mem_of_getElem? (i := 1539) (by decide +kernel)⟩
theorem lw_p50 : lw_okq (⟨"ClockForTalkModel", "here", "()I"⟩, 52) := ⟨⟨by decide +kernel, by decide +kernel⟩, List.mem_of_getElem? (i := 1337) (by decide +kernel), List.mem_of_getElem? (i := 1542) (by decide +kernel), List.mem_of_getElem? (i := 1543) (by decide +kernel)⟩
theorem lw_p51 : lw_okq (⟨"ClockForTalkModel", "need", "(C)V"⟩, 52) := ⟨⟨by decide +kernel, by decide +kernel⟩, List.mem_of_getElem? (i := 1337) (by decide +kernel), List.mem_of_getElem? (i := 1546) (by decide +kernel), List.mem_of_getElem? (i := 1547) (by decide +kernel)⟩
theorem lw_p52 : lw_okq (⟨"ClockForTalkModel", "passes", "(C)Z"⟩, 52) := ⟨⟨by decide +kernel, by decide +kernel⟩, List.mem_of_getElem? (i := 1337) (by decide +kernel), List.mem_of_getElem? (i := 1550) (by decide +kernel), List.mem_of_getElem? (i := 1551) (by decide +kernel)⟩
theorem lw_p53 : lw_okq (⟨"ClockForTalkModel", "readThing", "(I)V"⟩, 52) := ⟨⟨by decide +kernel, by decide +kernel⟩, List.mem_of_getElem? (i := 1337) (by decide +kernel), List.mem_of_getElem? (i := 1558) (by decide +kernel), List.mem_of_getElem? (i := 1559) (by decide +kernel)⟩
theorem lw_p54 : lw_okq (⟨"ClockForTalkModel", "readRule", "()Z"⟩, 52) := ⟨⟨by decide +kernel, by decide +kernel⟩, List.mem_of_getElem? (i := 1337) (by decide +kernel), List.mem_of_getElem? (i := 1566) (by decide +kernel), List.mem_of_getElem? (i := 1567) (by decide +kernel)⟩
theorem lw_p55 : lw_okq (⟨"ClockForTalkModel", "held", "(I)I"⟩, 52) := ⟨⟨by decide +kernel, by decide +kernel⟩, List.mem_of_getElem? (i := 1337) (by decide +kernel), List.mem_of_getElem? (i := 1570) (by decide +kernel), List.mem_of_getElem? (i := 1571) (by decide +kernel)⟩
theorem lw_p56 : lw_okq (⟨"ClockForTalkModel", "sum", "(I)I"⟩, 52) := ⟨⟨by decide +kernel, by decide +kernel⟩, List.mem_of_getElem? (i := 1337) (by decide +kernel), List.mem_of_getElem? (i := 1574) (by decide +kernel), List.mem_of_getElem? (i := 1575) (by decide +kernel)⟩
theorem lw_p57 : lw_okq (⟨"ClockForTalkModel", "product", "(I)I"⟩, 52) := ⟨⟨by decide +kernel, by decide +kernel⟩, List.mem_of_getElem? (i := 1337) (by decide +kernel), List.mem_of_getElem? (i := 1578) (by decide +kernel), List.mem_of_getElem? (i := 1579) (by decide +kernel)⟩
theorem lw_p58 : lw_okq (⟨"ClockForTalkModel", "part", "(I)I"⟩, 52) := ⟨⟨by decide +kernel, by decide +kernel⟩, List.mem_of_getElem? (i := 1337) (by decide +kernel), List.mem_of_getElem? (i := 1582) (by decide +kernel), List.mem_of_getElem? (i := 1583) (by decide +kernel)⟩
theorem lw_p59 : lw_okq (⟨"ClockForTalkModel", "isOne", "(I)Z"⟩, 52) := ⟨⟨by decide +kernel, by decide +kernel⟩, List.mem_of_getElem? (i := 1337) (by decide +kernel), List.mem_of_getElem? (i := 1593) (by decide +kernel), List.mem_of_getElem? (i := 1594) (by decide +kernel)⟩
theorem lw_p60 : lw_okq (⟨"ClockForTalkModel", "lost", "()I"⟩, 52) := ⟨⟨by decide +kernel, by decide +kernel⟩, List.mem_of_getElem? (i := 1337) (by decide +kernel), List.mem_of_getElem? (i := 1597) (by decide +kernel), List.mem_of_getElem? (i := 1598) (by decide +kernel)⟩
theorem lw_p61 : lw_okq (⟨"ClockForTalkModel", "owedBy", "(II)I"⟩, 52) := ⟨⟨by decide +kernel, by decide +kernel⟩, List.mem_of_getElem? (i := 1337) (by decide +kernel), List.mem_of_getElem? (i := 1601) (by decide +kernel), List.mem_of_getElem? (i := 1602) (by decide +kernel)⟩
theorem lw_p62 : lw_okq (⟨"ClockForTalkModel", "isThing", "(I)Z"⟩, 52) := ⟨⟨by decide +kernel, by decide +kernel⟩, List.mem_of_getElem? (i := 1337) (by decide +kernel), List.mem_of_getElem? (i := 1609) (by decide +kernel), List.mem_of_getElem? (i := 1610) (by decide +kernel)⟩
theorem lw_p63 : lw_okq (⟨"ClockForTalkModel", "field", "(II)I"⟩, 52) := ⟨⟨by decide +kernel, by decide +kernel⟩, List.mem_of_getElem? (i := 1337) (by decide +kernel), List.mem_of_getElem? (i := 1613) (by decide +kernel), List.mem_of_getElem? (i := 1614) (by decide +kernel)⟩
def lw_privs_4 : List (MethodName × Nat) := [(⟨"ClockForTalkModel", "number", "(I)I"⟩, 52), (⟨"ClockForTalkModel", "oneOf", "(CII)I"⟩, 52), (⟨"ClockForTalkModel", "here", "()I"⟩, 52), (⟨"ClockForTalkModel", "need", "(C)V"⟩, 52), (⟨"ClockForTalkModel", "passes", "(C)Z"⟩, 52), (⟨"ClockForTalkModel", "readThing", "(I)V"⟩, 52), (⟨"ClockForTalkModel", "readRule", "()Z"⟩, 52), (⟨"ClockForTalkModel", "held", "(I)I"⟩, 52), (⟨"ClockForTalkModel", "sum", "(I)I"⟩, 52), (⟨"ClockForTalkModel", "product", "(I)I"⟩, 52), (⟨"ClockForTalkModel", "part", "(I)I"⟩, 52), (⟨"ClockForTalkModel", "isOne", "(I)Z"⟩, 52), (⟨"ClockForTalkModel", "lost", "()I"⟩, 52), (⟨"ClockForTalkModel", "owedBy", "(II)I"⟩, 52), (⟨"ClockForTalkModel", "isThing", "(I)Z"⟩, 52), (⟨"ClockForTalkModel", "field", "(II)I"⟩, 52)]
theorem lw_r4 : ∀ q ∈ lw_privs_4, lw_okq q := List.forall_mem_cons.mpr ⟨lw_p48, List.forall_mem_cons.mpr ⟨lw_p49, List.forall_mem_cons.mpr ⟨lw_p50, List.forall_mem_cons.mpr ⟨lw_p51, List.forall_mem_cons.mpr ⟨lw_p52, List.forall_mem_cons.mpr ⟨lw_p53, List.forall_mem_cons.mpr ⟨lw_p54, List.forall_mem_cons.mpr ⟨lw_p55, List.forall_mem_cons.mpr ⟨lw_p56, List.forall_mem_cons.mpr ⟨lw_p57, List.forall_mem_cons.mpr ⟨lw_p58, List.forall_mem_cons.mpr ⟨lw_p59, List.forall_mem_cons.mpr ⟨lw_p60, List.forall_mem_cons.mpr ⟨lw_p61, List.forall_mem_cons.mpr ⟨lw_p62, List.forall_mem_cons.mpr ⟨lw_p63, fun _ h => absurd h List.not_mem_nil⟩⟩⟩⟩⟩⟩⟩⟩⟩⟩⟩⟩⟩⟩⟩⟩
theorem lw_p64 : lw_okq (⟨"ClockForTalkModel", "apart", "(II)I"⟩, 52) := ⟨⟨by decide +kernel, by decide +kernel⟩, List.mem_of_getElem? (i := 1337) (by decide +kernel), List.mem_of_getElem? (i := 1617) (by decide +kernel), List.mem_of_getElem? (i := 1618) (by decide +kernel)⟩
theorem lw_p65 : lw_okq (⟨"ClockForTalkModel", "bestWayOf", "([II)I"⟩, 52) := ⟨⟨by decide +kernel, by decide +kernel⟩, List.mem_of_getElem? (i := 1337) (by decide +kernel), List.mem_of_getElem? (i := 1622) (by decide +kernel), List.mem_of_getElem? (i := 1623) (by decide +kernel)⟩
theorem lw_p66 : lw_okq (⟨"ClockForTalkModel", "bestWay", "([IIII)I"⟩, 52) := ⟨⟨by decide +kernel, by decide +kernel⟩, List.mem_of_getElem? (i := 1337) (by decide +kernel), List.mem_of_getElem? (i := 1626) (by decide +kernel), List.mem_of_getElem? (i := 1627) (by decide +kernel)⟩
theorem lw_p67 : lw_okq (⟨"ClockForTalkModel", "costOf", "([IIIII)I"⟩, 52) := ⟨⟨by decide +kernel, by decide +kernel⟩, List.mem_of_getElem? (i := 1337) (by decide +kernel), List.mem_of_getElem? (i := 1633) (by decide +kernel), List.mem_of_getElem? (i := 1634) (by decide +kernel)⟩
theorem lw_p68 : lw_okq (⟨"ClockForTalkModel", "hears", "(II)I"⟩, 52) := ⟨⟨by decide +kernel, by decide +kernel⟩, List.mem_of_getElem? (i := 1337) (by decide +kernel), List.mem_of_getElem? (i := 1637) (by decide +kernel), List.mem_of_getElem? (i := 1638) (by decide +kernel)⟩
theorem lw_p69 : lw_okq (⟨"ClockForTalkModel", "costBy", "(IIIIII)I"⟩, 52) := ⟨⟨by decide +kernel, by decide +kernel⟩, List.mem_of_getElem? (i := 1337) (by decide +kernel), List.mem_of_getElem? (i := 1642) (by decide +kernel), List.mem_of_getElem? (i := 1643) (by decide +kernel)⟩
theorem lw_p70 : lw_okq (⟨"ClockForTalkModel", "isHeard", "(II)Z"⟩, 52) := ⟨⟨by decide +kernel, by decide +kernel⟩, List.mem_of_getElem? (i := 1337) (by decide +kernel), List.mem_of_getElem? (i := 1663) (by decide +kernel), List.mem_of_getElem? (i := 1664) (by decide +kernel)⟩
theorem lw_p71 : lw_okq (⟨"ClockForTalkModel", "costOfThing", "([III)I"⟩, 52) := ⟨⟨by decide +kernel, by decide +kernel⟩, List.mem_of_getElem? (i := 1337) (by decide +kernel), List.mem_of_getElem? (i := 1667) (by decide +kernel), List.mem_of_getElem? (i := 1668) (by decide +kernel)⟩
theorem lw_p72 : lw_okq (⟨"ClockForTalkModel", "refusesSay", "([III)I"⟩, 52) := ⟨⟨by decide +kernel, by decide +kernel⟩, List.mem_of_getElem? (i := 1337) (by decide +kernel), List.mem_of_getElem? (i := 1675) (by decide +kernel), List.mem_of_getElem? (i := 1676) (by decide +kernel)⟩
theorem lw_p73 : lw_okq (⟨"ClockForTalkModel", "isLate", "([II)Z"⟩, 52) := ⟨⟨by decide +kernel, by decide +kernel⟩, List.mem_of_getElem? (i := 1337) (by decide +kernel), List.mem_of_getElem? (i := 1682) (by decide +kernel), List.mem_of_getElem? (i := 1683) (by decide +kernel)⟩
theorem lw_p74 : lw_okq (⟨"ClockForTalkModel", "remember", "([I)V"⟩, 52) := ⟨⟨by decide +kernel, by decide +kernel⟩, List.mem_of_getElem? (i := 1337) (by decide +kernel), List.mem_of_getElem? (i := 1686) (by decide +kernel), List.mem_of_getElem? (i := 1687) (by decide +kernel)⟩
theorem lw_p75 : lw_okq (⟨"ClockForTalkModel", "goSay", "([III)I"⟩, 52) := ⟨⟨by decide +kernel, by decide +kernel⟩, List.mem_of_getElem? (i := 1337) (by decide +kernel), List.mem_of_getElem? (i := 1693) (by decide +kernel), List.mem_of_getElem? (i := 1694) (by decide +kernel)⟩
theorem lw_p76 : lw_okq (⟨"ClockForTalkModel", "refusesGive", "(III)I"⟩, 52) := ⟨⟨by decide +kernel, by decide +kernel⟩, List.mem_of_getElem? (i := 1337) (by decide +kernel), List.mem_of_getElem? (i := 1701) (by decide +kernel), List.mem_of_getElem? (i := 1702) (by decide +kernel)⟩
theorem lw_p77 : lw_okq (⟨"ClockForTalkModel", "areTwo", "(II)Z"⟩, 52) := ⟨⟨by decide +kernel, by decide +kernel⟩, List.mem_of_getElem? (i := 1337) (by decide +kernel), List.mem_of_getElem? (i := 1705) (by decide +kernel), List.mem_of_getElem? (i := 1706) (by decide +kernel)⟩
theorem lw_p78 : lw_okq (⟨"ClockForTalkModel", "goDays", "([II)V"⟩, 52) := ⟨⟨by decide +kernel, by decide +kernel⟩, List.mem_of_getElem? (i := 1337) (by decide +kernel), List.mem_of_getElem? (i := 1720) (by decide +kernel), List.mem_of_getElem? (i := 1721) (by decide +kernel)⟩
theorem lw_p79 : lw_okq (⟨"ClockForTalkModel", "goDay", "([I)V"⟩, 52) := ⟨⟨by decide +kernel, by decide +kernel⟩, List.mem_of_getElem? (i := 1337) (by decide +kernel), List.mem_of_getElem? (i := 1724) (by decide +kernel), List.mem_of_getElem? (i := 1725) (by decide +kernel)⟩
def lw_privs_5 : List (MethodName × Nat) := [(⟨"ClockForTalkModel", "apart", "(II)I"⟩, 52), (⟨"ClockForTalkModel", "bestWayOf", "([II)I"⟩, 52), (⟨"ClockForTalkModel", "bestWay", "([IIII)I"⟩, 52), (⟨"ClockForTalkModel", "costOf", "([IIIII)I"⟩, 52), (⟨"ClockForTalkModel", "hears", "(II)I"⟩, 52), (⟨"ClockForTalkModel", "costBy", "(IIIIII)I"⟩, 52), (⟨"ClockForTalkModel", "isHeard", "(II)Z"⟩, 52), (⟨"ClockForTalkModel", "costOfThing", "([III)I"⟩, 52), (⟨"ClockForTalkModel", "refusesSay", "([III)I"⟩, 52), (⟨"ClockForTalkModel", "isLate", "([II)Z"⟩, 52), (⟨"ClockForTalkModel", "remember", "([I)V"⟩, 52), (⟨"ClockForTalkModel", "goSay", "([III)I"⟩, 52), (⟨"ClockForTalkModel", "refusesGive", "(III)I"⟩, 52), (⟨"ClockForTalkModel", "areTwo", "(II)Z"⟩, 52), (⟨"ClockForTalkModel", "goDays", "([II)V"⟩, 52), (⟨"ClockForTalkModel", "goDay", "([I)V"⟩, 52)]
theorem lw_r5 : ∀ q ∈ lw_privs_5, lw_okq q := List.forall_mem_cons.mpr ⟨lw_p64, List.forall_mem_cons.mpr ⟨lw_p65, List.forall_mem_cons.mpr ⟨lw_p66, List.forall_mem_cons.mpr ⟨lw_p67, List.forall_mem_cons.mpr ⟨lw_p68, List.forall_mem_cons.mpr ⟨lw_p69, List.forall_mem_cons.mpr ⟨lw_p70, List.forall_mem_cons.mpr ⟨lw_p71, List.forall_mem_cons.mpr ⟨lw_p72, List.forall_mem_cons.mpr ⟨lw_p73, List.forall_mem_cons.mpr ⟨lw_p74, List.forall_mem_cons.mpr ⟨lw_p75, List.forall_mem_cons.mpr ⟨lw_p76, List.forall_mem_cons.mpr ⟨lw_p77, List.forall_mem_cons.mpr ⟨lw_p78, List.forall_mem_cons.mpr ⟨lw_p79, fun _ h => absurd h List.not_mem_nil⟩⟩⟩⟩⟩⟩⟩⟩⟩⟩⟩⟩⟩⟩⟩⟩
theorem lw_p80 : lw_okq (⟨"ClockForTalkModel", "tell", "(I)V"⟩, 52) := ⟨⟨by decide +kernel, by decide +kernel⟩, List.mem_of_getElem? (i := 1337) (by decide +kernel), List.mem_of_getElem? (i := 1728) (by decide +kernel), List.mem_of_getElem? (i := 1729) (by decide +kernel)⟩
theorem lw_p81 : lw_okq (⟨"ClockForTalkModel", "readAct", "(I)V"⟩, 52) := ⟨⟨by decide +kernel, by decide +kernel⟩, List.mem_of_getElem? (i := 1337) (by decide +kernel), List.mem_of_getElem? (i := 1736) (by decide +kernel), List.mem_of_getElem? (i := 1737) (by decide +kernel)⟩
theorem lw_p82 : lw_okq (⟨"ClockForTalkModel", "act", "(IIII)Z"⟩, 52) := ⟨⟨by decide +kernel, by decide +kernel⟩, List.mem_of_getElem? (i := 1337) (by decide +kernel), List.mem_of_getElem? (i := 1740) (by decide +kernel), List.mem_of_getElem? (i := 1741) (by decide +kernel)⟩
theorem lw_p83 : lw_okq (⟨"ClockForTalkModel", "layLeast", "()V"⟩, 52) := ⟨⟨by decide +kernel, by decide +kernel⟩, List.mem_of_getElem? (i := 1337) (by decide +kernel), List.mem_of_getElem? (i := 1752) (by decide +kernel), List.mem_of_getElem? (i := 1753) (by decide +kernel)⟩
theorem lw_p84 : lw_okq (⟨"ClockForTalkModel", "leastOf", "([II)I"⟩, 52) := ⟨⟨by decide +kernel, by decide +kernel⟩, List.mem_of_getElem? (i := 1337) (by decide +kernel), List.mem_of_getElem? (i := 1756) (by decide +kernel), List.mem_of_getElem? (i := 1757) (by decide +kernel)⟩
theorem lw_p85 : lw_okq (⟨"ClockForTalkModel", "thingsOf", "(I)I"⟩, 52) := ⟨⟨by decide +kernel, by decide +kernel⟩, List.mem_of_getElem? (i := 1337) (by decide +kernel), List.mem_of_getElem? (i := 1760) (by decide +kernel), List.mem_of_getElem? (i := 1761) (by decide +kernel)⟩
theorem lw_p86 : lw_okq (⟨"ClockForTalkModel", "today", "()I"⟩, 52) := ⟨⟨by decide +kernel, by decide +kernel⟩, List.mem_of_getElem? (i := 1337) (by decide +kernel), List.mem_of_getElem? (i := 1764) (by decide +kernel), List.mem_of_getElem? (i := 1765) (by decide +kernel)⟩
theorem lw_p87 : lw_okq (⟨"ClockForTalkModel", "bestSet", "(II)I"⟩, 52) := ⟨⟨by decide +kernel, by decide +kernel⟩, List.mem_of_getElem? (i := 1337) (by decide +kernel), List.mem_of_getElem? (i := 1768) (by decide +kernel), List.mem_of_getElem? (i := 1769) (by decide +kernel)⟩
theorem lw_p88 : lw_okq (⟨"ClockForTalkModel", "sumOf", "(I)I"⟩, 52) := ⟨⟨by decide +kernel, by decide +kernel⟩, List.mem_of_getElem? (i := 1337) (by decide +kernel), List.mem_of_getElem? (i := 1772) (by decide +kernel), List.mem_of_getElem? (i := 1773) (by decide +kernel)⟩
theorem lw_p89 : lw_okq (⟨"ClockForTalkModel", "worthOf", "(I)I"⟩, 52) := ⟨⟨by decide +kernel, by decide +kernel⟩, List.mem_of_getElem? (i := 1337) (by decide +kernel), List.mem_of_getElem? (i := 1776) (by decide +kernel), List.mem_of_getElem? (i := 1777) (by decide +kernel)⟩
theorem lw_p90 : lw_okq (⟨"ClockForTalkModel", "allClocks", "()I"⟩, 52) := ⟨⟨by decide +kernel, by decide +kernel⟩, List.mem_of_getElem? (i := 1337) (by decide +kernel), List.mem_of_getElem? (i := 1788) (by decide +kernel), List.mem_of_getElem? (i := 1789) (by decide +kernel)⟩
theorem lw_p91 : lw_okq (⟨"ClockForTalkModel", "goRelay", "(IIIIII)V"⟩, 52) := ⟨⟨by decide +kernel, by decide +kernel⟩, List.mem_of_getElem? (i := 1337) (by decide +kernel), List.mem_of_getElem? (i := 1805) (by decide +kernel), List.mem_of_getElem? (i := 1806) (by decide +kernel)⟩
theorem lw_p92 : lw_okq (⟨"ClockForTalkModel", "isBefore", "(I)Z"⟩, 52) := ⟨⟨by decide +kernel, by decide +kernel⟩, List.mem_of_getElem? (i := 1337) (by decide +kernel), List.mem_of_getElem? (i := 1809) (by decide +kernel), List.mem_of_getElem? (i := 1810) (by decide +kernel)⟩
theorem lw_p93 : lw_okq (⟨"ClockForTalkModel", "known", "(III)I"⟩, 52) := ⟨⟨by decide +kernel, by decide +kernel⟩, List.mem_of_getElem? (i := 1337) (by decide +kernel), List.mem_of_getElem? (i := 1817) (by decide +kernel), List.mem_of_getElem? (i := 1818) (by decide +kernel)⟩
theorem lw_p94 : lw_okq (⟨"ClockForTalkModel", "cried", "(II)I"⟩, 52) := ⟨⟨by decide +kernel, by decide +kernel⟩, List.mem_of_getElem? (i := 1337) (by decide +kernel), List.mem_of_getElem? (i := 1821) (by decide +kernel), List.mem_of_getElem? (i := 1822) (by decide +kernel)⟩
theorem lw_p95 : lw_okq (⟨"ClockForTalkModel", "layWins", "(I)V"⟩, 52) := ⟨⟨by decide +kernel, by decide +kernel⟩, List.mem_of_getElem? (i := 1337) (by decide +kernel), List.mem_of_getElem? (i := 1832) (by decide +kernel), List.mem_of_getElem? (i := 1833) (by decide +kernel)⟩
def lw_privs_6 : List (MethodName × Nat) := [(⟨"ClockForTalkModel", "tell", "(I)V"⟩, 52), (⟨"ClockForTalkModel", "readAct", "(I)V"⟩, 52), (⟨"ClockForTalkModel", "act", "(IIII)Z"⟩, 52), (⟨"ClockForTalkModel", "layLeast", "()V"⟩, 52), (⟨"ClockForTalkModel", "leastOf", "([II)I"⟩, 52), (⟨"ClockForTalkModel", "thingsOf", "(I)I"⟩, 52), (⟨"ClockForTalkModel", "today", "()I"⟩, 52), (⟨"ClockForTalkModel", "bestSet", "(II)I"⟩, 52), (⟨"ClockForTalkModel", "sumOf", "(I)I"⟩, 52), (⟨"ClockForTalkModel", "worthOf", "(I)I"⟩, 52), (⟨"ClockForTalkModel", "allClocks", "()I"⟩, 52), (⟨"ClockForTalkModel", "goRelay", "(IIIIII)V"⟩, 52), (⟨"ClockForTalkModel", "isBefore", "(I)Z"⟩, 52), (⟨"ClockForTalkModel", "known", "(III)I"⟩, 52), (⟨"ClockForTalkModel", "cried", "(II)I"⟩, 52), (⟨"ClockForTalkModel", "layWins", "(I)V"⟩, 52)]
theorem lw_r6 : ∀ q ∈ lw_privs_6, lw_okq q := List.forall_mem_cons.mpr ⟨lw_p80, List.forall_mem_cons.mpr ⟨lw_p81, List.forall_mem_cons.mpr ⟨lw_p82, List.forall_mem_cons.mpr ⟨lw_p83, List.forall_mem_cons.mpr ⟨lw_p84, List.forall_mem_cons.mpr ⟨lw_p85, List.forall_mem_cons.mpr ⟨lw_p86, List.forall_mem_cons.mpr ⟨lw_p87, List.forall_mem_cons.mpr ⟨lw_p88, List.forall_mem_cons.mpr ⟨lw_p89, List.forall_mem_cons.mpr ⟨lw_p90, List.forall_mem_cons.mpr ⟨lw_p91, List.forall_mem_cons.mpr ⟨lw_p92, List.forall_mem_cons.mpr ⟨lw_p93, List.forall_mem_cons.mpr ⟨lw_p94, List.forall_mem_cons.mpr ⟨lw_p95, fun _ h => absurd h List.not_mem_nil⟩⟩⟩⟩⟩⟩⟩⟩⟩⟩⟩⟩⟩⟩⟩⟩
theorem lw_p96 : lw_okq (⟨"ClockForTalkModel", "readWording", "()I"⟩, 52) := ⟨⟨by decide +kernel, by decide +kernel⟩, List.mem_of_getElem? (i := 1337) (by decide +kernel), List.mem_of_getElem? (i := 1851) (by decide +kernel), List.mem_of_getElem? (i := 1852) (by decide +kernel)⟩
theorem lw_p97 : lw_okq (⟨"ClockForTalkModel", "joined", "(II)I"⟩, 52) := ⟨⟨by decide +kernel, by decide +kernel⟩, List.mem_of_getElem? (i := 1337) (by decide +kernel), List.mem_of_getElem? (i := 1855) (by decide +kernel), List.mem_of_getElem? (i := 1856) (by decide +kernel)⟩
theorem lw_p98 : lw_okq (⟨"ClockForTalkModel", "markCosts", "(II)V"⟩, 52) := ⟨⟨by decide +kernel, by decide +kernel⟩, List.mem_of_getElem? (i := 1337) (by decide +kernel), List.mem_of_getElem? (i := 1876) (by decide +kernel), List.mem_of_getElem? (i := 1877) (by decide +kernel)⟩
theorem lw_p99 : lw_okq (⟨"ClockForTalkModel", "goCosts", "(IIIIII)V"⟩, 52) := ⟨⟨by decide +kernel, by decide +kernel⟩, List.mem_of_getElem? (i := 1337) (by decide +kernel), List.mem_of_getElem? (i := 1880) (by decide +kernel), List.mem_of_getElem? (i := 1881) (by decide +kernel)⟩
theorem lw_p100 : lw_okq (⟨"ClockForTalkModel", "mark", "(I)V"⟩, 52) := ⟨⟨by decide +kernel, by decide +kernel⟩, List.mem_of_getElem? (i := 1337) (by decide +kernel), List.mem_of_getElem? (i := 1884) (by decide +kernel), List.mem_of_getElem? (i := 1885) (by decide +kernel)⟩
theorem lw_p101 : lw_okq (⟨"ClockForTalkModel", "bestAll", "()I"⟩, 52) := ⟨⟨by decide +kernel, by decide +kernel⟩, List.mem_of_getElem? (i := 1337) (by decide +kernel), List.mem_of_getElem? (i := 1896) (by decide +kernel), List.mem_of_getElem? (i := 1897) (by decide +kernel)⟩
theorem lw_p102 : lw_okq (⟨"ClockForTalkModel", "isStruck", "(II)Z"⟩, 52) := ⟨⟨by decide +kernel, by decide +kernel⟩, List.mem_of_getElem? (i := 1337) (by decide +kernel), List.mem_of_getElem? (i := 1904) (by decide +kernel), List.mem_of_getElem? (i := 1905) (by decide +kernel)⟩
def lw_privs_7 : List (MethodName × Nat) := [(⟨"ClockForTalkModel", "readWording", "()I"⟩, 52), (⟨"ClockForTalkModel", "joined", "(II)I"⟩, 52), (⟨"ClockForTalkModel", "markCosts", "(II)V"⟩, 52), (⟨"ClockForTalkModel", "goCosts", "(IIIIII)V"⟩, 52), (⟨"ClockForTalkModel", "mark", "(I)V"⟩, 52), (⟨"ClockForTalkModel", "bestAll", "()I"⟩, 52), (⟨"ClockForTalkModel", "isStruck", "(II)Z"⟩, 52)]
theorem lw_r7 : ∀ q ∈ lw_privs_7, lw_okq q := List.forall_mem_cons.mpr ⟨lw_p96, List.forall_mem_cons.mpr ⟨lw_p97, List.forall_mem_cons.mpr ⟨lw_p98, List.forall_mem_cons.mpr ⟨lw_p99, List.forall_mem_cons.mpr ⟨lw_p100, List.forall_mem_cons.mpr ⟨lw_p101, List.forall_mem_cons.mpr ⟨lw_p102, fun _ h => absurd h List.not_mem_nil⟩⟩⟩⟩⟩⟩⟩
def lw_privs : List (MethodName × Nat) := lw_privs_1 ++ (lw_privs_2 ++ (lw_privs_3 ++ (lw_privs_4 ++ (lw_privs_5 ++ (lw_privs_6 ++ (lw_privs_7))))))
def lw_tbl : List Cond := k2_sels lw_privs ++ tables_1
theorem lw_privs_ok : ∀ q ∈ lw_privs, lw_okq q := by
  show ∀ q ∈ lw_privs_1 ++ (lw_privs_2 ++ (lw_privs_3 ++ (lw_privs_4 ++ (lw_privs_5 ++ (lw_privs_6 ++ (lw_privs_7)))))), lw_okq q
  exact List.forall_mem_append.mpr ⟨lw_r1, List.forall_mem_append.mpr ⟨lw_r2, List.forall_mem_append.mpr ⟨lw_r3, List.forall_mem_append.mpr ⟨lw_r4, List.forall_mem_append.mpr ⟨lw_r5, List.forall_mem_append.mpr ⟨lw_r6, lw_r7⟩⟩⟩⟩⟩⟩
end
section
def RX0 : String := "ClockForTalk$Costs"
def TX0 : u_T := fun k => match k with
  | 0 => ("ClockForTalk$Costs", "town", "LClockForTalk$Town;", true)
  | 1 => ("ClockForTalk$Costs", "ledger", "LClockForTalk$Ledger;", true)
  | 2 => ("ClockForTalk$Costs", "law", "LClockForTalk$Rule;", true)
  | 3 => ("ClockForTalk$Costs", "prices", "[I", true)
  | 4 => ("ClockForTalk$Costs", "least", "[I", true)
  | 5 => ("ClockForTalk$Costs", "chosen", "I", false)
  | 6 => ("ClockForTalk$Costs", "chosenCost", "I", false)
  | _ => ("ClockForTalk$Costs", "chosenWorth", "I", false)
def tyX0 : Nat → FieldType := fun k => match k with
  | 0 => .object "ClockForTalk$Town"
  | 1 => .object "ClockForTalk$Ledger"
  | 2 => .object "ClockForTalk$Rule"
  | 3 => .array .int
  | 4 => .array .int
  | 5 => .int
  | 6 => .int
  | _ => .int
theorem nmX0 : ∀ a, a < 8 → ∀ b, b < 8 → a ≠ b → (TX0 a).2.1 ≠ (TX0 b).2.1 := by decide +kernel
theorem tyX0_ok : ∀ k, k < 8 → parseFieldDescriptor (TX0 k).2.2.1 = some (tyX0 k) := by decide +kernel
abbrev cX0_init : ByteArray := prog_2_method_1_code
def yX0_init : MethodName := ⟨RX0, "<init>", "(LClockForTalk$Town;LClockForTalk$Ledger;LClockForTalk$Rule;)V"⟩
abbrev cX0_isHeard : ByteArray := prog_2_method_2_code
def yX0_isHeard : MethodName := ⟨RX0, "isHeard", "(II)Z"⟩
abbrev cX0_hearers : ByteArray := prog_2_method_3_code
def yX0_hearers : MethodName := ⟨RX0, "hearers", "(II)I"⟩
abbrev cX0_ofWord : ByteArray := prog_2_method_4_code
def yX0_ofWord : MethodName := ⟨RX0, "ofWord", "(IIII)I"⟩
abbrev cX0_ofThing : ByteArray := prog_2_method_5_code
def yX0_ofThing : MethodName := ⟨RX0, "ofThing", "(II)I"⟩
abbrev cX0_leastWay : ByteArray := prog_2_method_6_code
def yX0_leastWay : MethodName := ⟨RX0, "leastWay", "(I)I"⟩
abbrev cX0_cheapestWay : ByteArray := prog_2_method_7_code
def yX0_cheapestWay : MethodName := ⟨RX0, "cheapestWay", "(III)I"⟩
abbrev cX0_fill : ByteArray := prog_2_method_8_code
def yX0_fill : MethodName := ⟨RX0, "fill", "()V"⟩
abbrev cX0_leastOfAll : ByteArray := prog_2_method_9_code
def yX0_leastOfAll : MethodName := ⟨RX0, "leastOfAll", "(I)I"⟩
abbrev cX0_openThings : ByteArray := prog_2_method_10_code
def yX0_openThings : MethodName := ⟨RX0, "openThings", "()I"⟩
abbrev cX0_openThingsOf : ByteArray := prog_2_method_11_code
def yX0_openThingsOf : MethodName := ⟨RX0, "openThingsOf", "(I)I"⟩
abbrev cX0_chooseFor : ByteArray := prog_2_method_12_code
def yX0_chooseFor : MethodName := ⟨RX0, "chooseFor", "(I)V"⟩
abbrev cX0_choose : ByteArray := prog_2_method_13_code
def yX0_choose : MethodName := ⟨RX0, "choose", "(II)V"⟩
abbrev cX0_weigh : ByteArray := prog_2_method_14_code
def yX0_weigh : MethodName := ⟨RX0, "weigh", "(II)V"⟩
abbrev cX0_firstUnpayable : ByteArray := prog_2_method_15_code
def yX0_firstUnpayable : MethodName := ⟨RX0, "firstUnpayable", "()I"⟩
def RX1 : String := "ClockForTalk$Debates"
def TX1 : u_T := fun k => match k with
  | 0 => ("ClockForTalk$Debates", "most", "[I", true)
  | _ => ("ClockForTalk$Debates", "filled", "I", false)
def tyX1 : Nat → FieldType := fun k => match k with
  | 0 => .array .int
  | _ => .int
theorem nmX1 : ∀ a, a < 2 → ∀ b, b < 2 → a ≠ b → (TX1 a).2.1 ≠ (TX1 b).2.1 := by decide +kernel
theorem tyX1_ok : ∀ k, k < 2 → parseFieldDescriptor (TX1 k).2.2.1 = some (tyX1 k) := by decide +kernel
abbrev cX1_init : ByteArray := prog_3_method_1_code
def yX1_init : MethodName := ⟨RX1, "<init>", "()V"⟩
abbrev cX1_fewestToWin : ByteArray := prog_3_method_2_code
def yX1_fewestToWin : MethodName := ⟨RX1, "fewestToWin", "(III)I"⟩
abbrev cX1_cell : ByteArray := prog_3_method_3_code
def yX1_cell : MethodName := ⟨RX1, "cell", "(III)I"⟩
abbrev cX1_wins : ByteArray := prog_3_method_4_code
def yX1_wins : MethodName := ⟨RX1, "wins", "(IIII)Z"⟩
abbrev cX1_fill : ByteArray := prog_3_method_5_code
def yX1_fill : MethodName := ⟨RX1, "fill", "(I)V"⟩
abbrev cX1_mostToWin : ByteArray := prog_3_method_6_code
def yX1_mostToWin : MethodName := ⟨RX1, "mostToWin", "(III)I"⟩
def RX2 : String := "ClockForTalk$Dusk"
def TX2 : u_T := fun k => match k with
  | 0 => ("ClockForTalk$Dusk", "town", "LClockForTalk$Town;", true)
  | 1 => ("ClockForTalk$Dusk", "ledger", "LClockForTalk$Ledger;", true)
  | 2 => ("ClockForTalk$Dusk", "costs", "LClockForTalk$Costs;", true)
  | 3 => ("ClockForTalk$Dusk", "readings", "[I", true)
  | 4 => ("ClockForTalk$Dusk", "sums", "[J", true)
  | 5 => ("ClockForTalk$Dusk", "readBits", "I", false)
  | 6 => ("ClockForTalk$Dusk", "explained", "I", false)
  | 7 => ("ClockForTalk$Dusk", "leastSet", "I", false)
  | _ => ("ClockForTalk$Dusk", "inAll", "I", false)
def tyX2 : Nat → FieldType := fun k => match k with
  | 0 => .object "ClockForTalk$Town"
  | 1 => .object "ClockForTalk$Ledger"
  | 2 => .object "ClockForTalk$Costs"
  | 3 => .array .int
  | 4 => .array .long
  | 5 => .int
  | 6 => .int
  | 7 => .int
  | _ => .int
theorem nmX2 : ∀ a, a < 9 → ∀ b, b < 9 → a ≠ b → (TX2 a).2.1 ≠ (TX2 b).2.1 := by decide +kernel
theorem tyX2_ok : ∀ k, k < 9 → parseFieldDescriptor (TX2 k).2.2.1 = some (tyX2 k) := by decide +kernel
abbrev cX2_init : ByteArray := prog_4_method_1_code
def yX2_init : MethodName := ⟨RX2, "<init>", "(LClockForTalk$Town;LClockForTalk$Ledger;LClockForTalk$Costs;)V"⟩
abbrev cX2_note : ByteArray := prog_4_method_2_code
def yX2_note : MethodName := ⟨RX2, "note", "(II)V"⟩
abbrev cX2_explain : ByteArray := prog_4_method_3_code
def yX2_explain : MethodName := ⟨RX2, "explain", "(I)V"⟩
abbrev cX2_countSet : ByteArray := prog_4_method_4_code
def yX2_countSet : MethodName := ⟨RX2, "countSet", "(I)V"⟩
abbrev cX2_wordsFor : ByteArray := prog_4_method_5_code
def yX2_wordsFor : MethodName := ⟨RX2, "wordsFor", "(I)I"⟩
abbrev cX2_hasSum : ByteArray := prog_4_method_6_code
def yX2_hasSum : MethodName := ⟨RX2, "hasSum", "(II)Z"⟩
abbrev cX2_fillSums : ByteArray := prog_4_method_7_code
def yX2_fillSums : MethodName := ⟨RX2, "fillSums", "(II)V"⟩
abbrev cX2_clearSums : ByteArray := prog_4_method_8_code
def yX2_clearSums : MethodName := ⟨RX2, "clearSums", "(II)V"⟩
abbrev cX2_addSpeech : ByteArray := prog_4_method_9_code
def yX2_addSpeech : MethodName := ⟨RX2, "addSpeech", "(IIII)V"⟩
abbrev cX2_addShifted : ByteArray := prog_4_method_10_code
def yX2_addShifted : MethodName := ⟨RX2, "addShifted", "(IIII)V"⟩
abbrev cX2_differentReadings : ByteArray := prog_4_method_11_code
def yX2_differentReadings : MethodName := ⟨RX2, "differentReadings", "(I)I"⟩
abbrev cX2_countSums : ByteArray := prog_4_method_12_code
def yX2_countSums : MethodName := ⟨RX2, "countSums", "(II)I"⟩
def RX3 : String := "ClockForTalk$History"
def TX3 : u_T := fun k => match k with
  | 0 => ("ClockForTalk$History", "ring", "[LClockForTalk$Ledger;", true)
  | 1 => ("ClockForTalk$History", "kept", "[LClockForTalk$Ledger;", true)
  | 2 => ("ClockForTalk$History", "ahead", "LClockForTalk$Ledger;", true)
  | 3 => ("ClockForTalk$History", "keptBits", "I", false)
  | 4 => ("ClockForTalk$History", "held", "I", false)
  | _ => ("ClockForTalk$History", "next", "I", false)
def tyX3 : Nat → FieldType := fun k => match k with
  | 0 => .array (.object "ClockForTalk$Ledger")
  | 1 => .array (.object "ClockForTalk$Ledger")
  | 2 => .object "ClockForTalk$Ledger"
  | 3 => .int
  | 4 => .int
  | _ => .int
theorem nmX3 : ∀ a, a < 6 → ∀ b, b < 6 → a ≠ b → (TX3 a).2.1 ≠ (TX3 b).2.1 := by decide +kernel
theorem tyX3_ok : ∀ k, k < 6 → parseFieldDescriptor (TX3 k).2.2.1 = some (tyX3 k) := by decide +kernel
abbrev cX3_init : ByteArray := prog_5_method_1_code
def yX3_init : MethodName := ⟨RX3, "<init>", "()V"⟩
abbrev cX3_clearAll : ByteArray := prog_5_method_2_code
def yX3_clearAll : MethodName := ⟨RX3, "clearAll", "()V"⟩
abbrev cX3_note : ByteArray := prog_5_method_3_code
def yX3_note : MethodName := ⟨RX3, "note", "(LClockForTalk$Ledger;)V"⟩
abbrev cX3_recall : ByteArray := prog_5_method_4_code
def yX3_recall : MethodName := ⟨RX3, "recall", "(LClockForTalk$Ledger;)V"⟩
abbrev cX3_hold : ByteArray := prog_5_method_5_code
def yX3_hold : MethodName := ⟨RX3, "hold", "()V"⟩
abbrev cX3_stepBack : ByteArray := prog_5_method_6_code
def yX3_stepBack : MethodName := ⟨RX3, "stepBack", "(LClockForTalk$Ledger;)Z"⟩
abbrev cX3_keepUnder : ByteArray := prog_5_method_7_code
def yX3_keepUnder : MethodName := ⟨RX3, "keepUnder", "(ILClockForTalk$Ledger;)Z"⟩
abbrev cX3_bringBack : ByteArray := prog_5_method_8_code
def yX3_bringBack : MethodName := ⟨RX3, "bringBack", "(ILClockForTalk$Ledger;)Z"⟩
def RX4 : String := "ClockForTalk$Ledger"
def TX4 : u_T := fun k => match k with
  | 0 => ("ClockForTalk$Ledger", "day", "I", false)
  | 1 => ("ClockForTalk$Ledger", "said", "I", false)
  | 2 => ("ClockForTalk$Ledger", "loans", "I", false)
  | 3 => ("ClockForTalk$Ledger", "ended", "I", false)
  | 4 => ("ClockForTalk$Ledger", "clocks", "[I", true)
  | 5 => ("ClockForTalk$Ledger", "spent", "[I", true)
  | 6 => ("ClockForTalk$Ledger", "losses", "[J", true)
  | 7 => ("ClockForTalk$Ledger", "lenders", "[I", true)
  | 8 => ("ClockForTalk$Ledger", "debtors", "[I", true)
  | 9 => ("ClockForTalk$Ledger", "due", "[I", true)
  | _ => ("ClockForTalk$Ledger", "owed", "[J", true)
def tyX4 : Nat → FieldType := fun k => match k with
  | 0 => .int
  | 1 => .int
  | 2 => .int
  | 3 => .int
  | 4 => .array .int
  | 5 => .array .int
  | 6 => .array .long
  | 7 => .array .int
  | 8 => .array .int
  | 9 => .array .int
  | _ => .array .long
theorem nmX4 : ∀ a, a < 11 → ∀ b, b < 11 → a ≠ b → (TX4 a).2.1 ≠ (TX4 b).2.1 := by decide +kernel
theorem tyX4_ok : ∀ k, k < 11 → parseFieldDescriptor (TX4 k).2.2.1 = some (tyX4 k) := by decide +kernel
abbrev cX4_init : ByteArray := prog_6_method_1_code
def yX4_init : MethodName := ⟨RX4, "<init>", "()V"⟩
abbrev cX4_copyFrom : ByteArray := prog_6_method_2_code
def yX4_copyFrom : MethodName := ⟨RX4, "copyFrom", "(LClockForTalk$Ledger;)V"⟩
abbrev cX4_welcome : ByteArray := prog_6_method_3_code
def yX4_welcome : MethodName := ⟨RX4, "welcome", "(LClockForTalk$Town;I)V"⟩
abbrev cX4_allClocks : ByteArray := prog_6_method_4_code
def yX4_allClocks : MethodName := ⟨RX4, "allClocks", "(I)I"⟩
abbrev cX4_isLate : ByteArray := prog_6_method_5_code
def yX4_isLate : MethodName := ⟨RX4, "isLate", "(LClockForTalk$Town;I)Z"⟩
abbrev cX4_spend : ByteArray := prog_6_method_6_code
def yX4_spend : MethodName := ⟨RX4, "spend", "(II)V"⟩
abbrev cX4_carry : ByteArray := prog_6_method_7_code
def yX4_carry : MethodName := ⟨RX4, "carry", "(III)V"⟩
abbrev cX4_write : ByteArray := prog_6_method_8_code
def yX4_write : MethodName := ⟨RX4, "write", "(IIII)I"⟩
abbrev cX4_isOpen : ByteArray := prog_6_method_9_code
def yX4_isOpen : MethodName := ⟨RX4, "isOpen", "(I)Z"⟩
abbrev cX4_owedBy : ByteArray := prog_6_method_10_code
def yX4_owedBy : MethodName := ⟨RX4, "owedBy", "(I)J"⟩
abbrev cX4_owedByAll : ByteArray := prog_6_method_11_code
def yX4_owedByAll : MethodName := ⟨RX4, "owedByAll", "(I)J"⟩
abbrev cX4_owedTo : ByteArray := prog_6_method_12_code
def yX4_owedTo : MethodName := ⟨RX4, "owedTo", "(I)J"⟩
abbrev cX4_owedToBut : ByteArray := prog_6_method_13_code
def yX4_owedToBut : MethodName := ⟨RX4, "owedToBut", "(II)J"⟩
abbrev cX4_endedLoans : ByteArray := prog_6_method_14_code
def yX4_endedLoans : MethodName := ⟨RX4, "endedLoans", "()I"⟩
abbrev cX4_allLosses : ByteArray := prog_6_method_15_code
def yX4_allLosses : MethodName := ⟨RX4, "allLosses", "()J"⟩
abbrev cX4_passDay : ByteArray := prog_6_method_16_code
def yX4_passDay : MethodName := ⟨RX4, "passDay", "(LClockForTalk$Town;)V"⟩
abbrev cX4_addTenths : ByteArray := prog_6_method_17_code
def yX4_addTenths : MethodName := ⟨RX4, "addTenths", "()V"⟩
abbrev cX4_settle : ByteArray := prog_6_method_18_code
def yX4_settle : MethodName := ⟨RX4, "settle", "(I)V"⟩
abbrev cX4_beginYear : ByteArray := prog_6_method_19_code
def yX4_beginYear : MethodName := ⟨RX4, "beginYear", "(LClockForTalk$Town;)V"⟩
abbrev cX4_struckWith : ByteArray := prog_6_method_20_code
def yX4_struckWith : MethodName := ⟨RX4, "struckWith", "(II)I"⟩
abbrev cX4_isStruckBy : ByteArray := prog_6_method_21_code
def yX4_isStruckBy : MethodName := ⟨RX4, "isStruckBy", "(II)Z"⟩
def RX5 : String := "ClockForTalk$Row"
def TX5 : u_T := fun k => match k with
  | 0 => ("ClockForTalk$Row", "numbers", "[I", true)
  | _ => ("ClockForTalk$Row", "length", "I", false)
def tyX5 : Nat → FieldType := fun k => match k with
  | 0 => .array .int
  | _ => .int
theorem nmX5 : ∀ a, a < 2 → ∀ b, b < 2 → a ≠ b → (TX5 a).2.1 ≠ (TX5 b).2.1 := by decide +kernel
theorem tyX5_ok : ∀ k, k < 2 → parseFieldDescriptor (TX5 k).2.2.1 = some (tyX5 k) := by decide +kernel
abbrev cX5_init : ByteArray := prog_7_method_1_code
def yX5_init : MethodName := ⟨RX5, "<init>", "()V"⟩
abbrev cX5_tell : ByteArray := prog_7_method_2_code
def yX5_tell : MethodName := ⟨RX5, "tell", "(I)V"⟩
abbrev cX5_tellTwo : ByteArray := prog_7_method_3_code
def yX5_tellTwo : MethodName := ⟨RX5, "tellTwo", "(II)V"⟩
abbrev cX5_tellAll : ByteArray := prog_7_method_4_code
def yX5_tellAll : MethodName := ⟨RX5, "tellAll", "([III)V"⟩
def RX6 : String := "ClockForTalk$Rule"
def TX6 : u_T := fun k => match k with
  | 0 => ("ClockForTalk$Rule", "steps", "[I", true)
  | 1 => ("ClockForTalk$Rule", "stack", "[I", true)
  | 2 => ("ClockForTalk$Rule", "given", "[I", true)
  | _ => ("ClockForTalk$Rule", "length", "I", false)
def tyX6 : Nat → FieldType := fun k => match k with
  | 0 => .array .int
  | 1 => .array .int
  | 2 => .array .int
  | _ => .int
theorem nmX6 : ∀ a, a < 4 → ∀ b, b < 4 → a ≠ b → (TX6 a).2.1 ≠ (TX6 b).2.1 := by decide +kernel
theorem tyX6_ok : ∀ k, k < 4 → parseFieldDescriptor (TX6 k).2.2.1 = some (tyX6 k) := by decide +kernel
abbrev cX6_init : ByteArray := prog_8_method_1_code
def yX6_init : MethodName := ⟨RX6, "<init>", "()V"⟩
abbrev cX6_copyFrom : ByteArray := prog_8_method_2_code
def yX6_copyFrom : MethodName := ⟨RX6, "copyFrom", "(LClockForTalk$Rule;)V"⟩
abbrev cX6_readAll : ByteArray := prog_8_method_3_code
def yX6_readAll : MethodName := ⟨RX6, "readAll", "(LClockForTalk$Text;)Z"⟩
abbrev cX6_add : ByteArray := prog_8_method_4_code
def yX6_add : MethodName := ⟨RX6, "add", "(I)Z"⟩
abbrev cX6_readExpression : ByteArray := prog_8_method_5_code
def yX6_readExpression : MethodName := ⟨RX6, "readExpression", "(LClockForTalk$Text;I)Z"⟩
abbrev cX6_addSign : ByteArray := prog_8_method_6_code
def yX6_addSign : MethodName := ⟨RX6, "addSign", "(Ljava/lang/String;I)Z"⟩
abbrev cX6_readSum : ByteArray := prog_8_method_7_code
def yX6_readSum : MethodName := ⟨RX6, "readSum", "(LClockForTalk$Text;I)Z"⟩
abbrev cX6_readProduct : ByteArray := prog_8_method_8_code
def yX6_readProduct : MethodName := ⟨RX6, "readProduct", "(LClockForTalk$Text;I)Z"⟩
abbrev cX6_readFactor : ByteArray := prog_8_method_9_code
def yX6_readFactor : MethodName := ⟨RX6, "readFactor", "(LClockForTalk$Text;I)Z"⟩
abbrev cX6_readAtom : ByteArray := prog_8_method_10_code
def yX6_readAtom : MethodName := ⟨RX6, "readAtom", "(LClockForTalk$Text;I)Z"⟩
abbrev cX6_evaluate : ByteArray := prog_8_method_11_code
def yX6_evaluate : MethodName := ⟨RX6, "evaluate", "()I"⟩
abbrev cX6_usual : ByteArray := prog_8_method_12_code
def yX6_usual : MethodName := ⟨RX6, "usual", "(II)I"⟩
abbrev cX6_reckon : ByteArray := prog_8_method_13_code
def yX6_reckon : MethodName := ⟨RX6, "reckon", "(III)I"⟩
def RX7 : String := "ClockForTalk$Text"
def TX7 : u_T := fun k => match k with
  | 0 => ("ClockForTalk$Text", "signs", "[I", true)
  | 1 => ("ClockForTalk$Text", "length", "I", false)
  | _ => ("ClockForTalk$Text", "place", "I", false)
def tyX7 : Nat → FieldType := fun k => match k with
  | 0 => .array .int
  | 1 => .int
  | _ => .int
theorem nmX7 : ∀ a, a < 3 → ∀ b, b < 3 → a ≠ b → (TX7 a).2.1 ≠ (TX7 b).2.1 := by decide +kernel
theorem tyX7_ok : ∀ k, k < 3 → parseFieldDescriptor (TX7 k).2.2.1 = some (tyX7 k) := by decide +kernel
abbrev cX7_init : ByteArray := prog_9_method_1_code
def yX7_init : MethodName := ⟨RX7, "<init>", "()V"⟩
abbrev cX7_addFour : ByteArray := prog_9_method_2_code
def yX7_addFour : MethodName := ⟨RX7, "addFour", "(I)Z"⟩
abbrev cX7_cutTo : ByteArray := prog_9_method_3_code
def yX7_cutTo : MethodName := ⟨RX7, "cutTo", "(I)Z"⟩
abbrev cX7_atEnd : ByteArray := prog_9_method_4_code
def yX7_atEnd : MethodName := ⟨RX7, "atEnd", "()Z"⟩
abbrev cX7_skip : ByteArray := prog_9_method_5_code
def yX7_skip : MethodName := ⟨RX7, "skip", "(I)Z"⟩
abbrev cX7_takeOneOf : ByteArray := prog_9_method_6_code
def yX7_takeOneOf : MethodName := ⟨RX7, "takeOneOf", "(II)I"⟩
abbrev cX7_takeAnyOf : ByteArray := prog_9_method_7_code
def yX7_takeAnyOf : MethodName := ⟨RX7, "takeAnyOf", "(Ljava/lang/String;)I"⟩
abbrev cX7_takeNumber : ByteArray := prog_9_method_8_code
def yX7_takeNumber : MethodName := ⟨RX7, "takeNumber", "(I)I"⟩
abbrev cX7_verdict : ByteArray := prog_9_method_9_code
def yX7_verdict : MethodName := ⟨RX7, "verdict", "(II)I"⟩
def RX8 : String := "ClockForTalk$Town"
def TX8 : u_T := fun k => match k with
  | 0 => ("ClockForTalk$Town", "persons", "I", false)
  | 1 => ("ClockForTalk$Town", "wishes", "I", false)
  | 2 => ("ClockForTalk$Town", "steps", "[I", true)
  | 3 => ("ClockForTalk$Town", "yearly", "[I", true)
  | 4 => ("ClockForTalk$Town", "who", "[I", true)
  | 5 => ("ClockForTalk$Town", "whom", "[I", true)
  | 6 => ("ClockForTalk$Town", "seconds", "[I", true)
  | 7 => ("ClockForTalk$Town", "by", "[I", true)
  | _ => ("ClockForTalk$Town", "worth", "[I", true)
def tyX8 : Nat → FieldType := fun k => match k with
  | 0 => .int
  | 1 => .int
  | 2 => .array .int
  | 3 => .array .int
  | 4 => .array .int
  | 5 => .array .int
  | 6 => .array .int
  | 7 => .array .int
  | _ => .array .int
theorem nmX8 : ∀ a, a < 9 → ∀ b, b < 9 → a ≠ b → (TX8 a).2.1 ≠ (TX8 b).2.1 := by decide +kernel
theorem tyX8_ok : ∀ k, k < 9 → parseFieldDescriptor (TX8 k).2.2.1 = some (tyX8 k) := by decide +kernel
abbrev cX8_init : ByteArray := prog_10_method_1_code
def yX8_init : MethodName := ⟨RX8, "<init>", "()V"⟩
abbrev cX8_hasPerson : ByteArray := prog_10_method_2_code
def yX8_hasPerson : MethodName := ⟨RX8, "hasPerson", "(I)Z"⟩
abbrev cX8_hasThing : ByteArray := prog_10_method_3_code
def yX8_hasThing : MethodName := ⟨RX8, "hasThing", "(I)Z"⟩
abbrev cX8_areTwo : ByteArray := prog_10_method_4_code
def yX8_areTwo : MethodName := ⟨RX8, "areTwo", "(II)Z"⟩
abbrev cX8_apart : ByteArray := prog_10_method_5_code
def yX8_apart : MethodName := ⟨RX8, "apart", "(II)I"⟩
abbrev cX8_apartFor : ByteArray := prog_10_method_6_code
def yX8_apartFor : MethodName := ⟨RX8, "apartFor", "(I)I"⟩
abbrev cX8_thingsOf : ByteArray := prog_10_method_7_code
def yX8_thingsOf : MethodName := ⟨RX8, "thingsOf", "(I)I"⟩
abbrev cX8_readPerson : ByteArray := prog_10_method_8_code
def yX8_readPerson : MethodName := ⟨RX8, "readPerson", "(LClockForTalk$Text;I)Z"⟩
abbrev cX8_readTwo : ByteArray := prog_10_method_9_code
def yX8_readTwo : MethodName := ⟨RX8, "readTwo", "(LClockForTalk$Text;I)Z"⟩
abbrev cX8_readSeconds : ByteArray := prog_10_method_10_code
def yX8_readSeconds : MethodName := ⟨RX8, "readSeconds", "(LClockForTalk$Text;I)Z"⟩
abbrev cX8_readDayAndWorth : ByteArray := prog_10_method_11_code
def yX8_readDayAndWorth : MethodName := ⟨RX8, "readDayAndWorth", "(LClockForTalk$Text;I)Z"⟩
def RX9 : String := "ClockForTalk$WordOfMouth"
def TX9 : u_T := fun k => match k with
  | 0 => ("ClockForTalk$WordOfMouth", "town", "LClockForTalk$Town;", true)
  | 1 => ("ClockForTalk$WordOfMouth", "ledger", "LClockForTalk$Ledger;", true)
  | 2 => ("ClockForTalk$WordOfMouth", "costs", "LClockForTalk$Costs;", true)
  | 3 => ("ClockForTalk$WordOfMouth", "links", "[I", true)
  | 4 => ("ClockForTalk$WordOfMouth", "hears", "[I", true)
  | 5 => ("ClockForTalk$WordOfMouth", "path", "[I", true)
  | 6 => ("ClockForTalk$WordOfMouth", "bestPath", "[I", true)
  | 7 => ("ClockForTalk$WordOfMouth", "bestLength", "I", false)
  | _ => ("ClockForTalk$WordOfMouth", "bestCost", "I", false)
def tyX9 : Nat → FieldType := fun k => match k with
  | 0 => .object "ClockForTalk$Town"
  | 1 => .object "ClockForTalk$Ledger"
  | 2 => .object "ClockForTalk$Costs"
  | 3 => .array .int
  | 4 => .array .int
  | 5 => .array .int
  | 6 => .array .int
  | 7 => .int
  | _ => .int
theorem nmX9 : ∀ a, a < 9 → ∀ b, b < 9 → a ≠ b → (TX9 a).2.1 ≠ (TX9 b).2.1 := by decide +kernel
theorem tyX9_ok : ∀ k, k < 9 → parseFieldDescriptor (TX9 k).2.2.1 = some (tyX9 k) := by decide +kernel
abbrev cX9_init : ByteArray := prog_11_method_1_code
def yX9_init : MethodName := ⟨RX9, "<init>", "(LClockForTalk$Town;LClockForTalk$Ledger;LClockForTalk$Costs;)V"⟩
abbrev cX9_findChain : ByteArray := prog_11_method_2_code
def yX9_findChain : MethodName := ⟨RX9, "findChain", "(III)V"⟩
abbrev cX9_linkCost : ByteArray := prog_11_method_3_code
def yX9_linkCost : MethodName := ⟨RX9, "linkCost", "(III)I"⟩
abbrev cX9_walk : ByteArray := prog_11_method_4_code
def yX9_walk : MethodName := ⟨RX9, "walk", "(IIII)V"⟩
abbrev cX9_fewestCriers : ByteArray := prog_11_method_5_code
def yX9_fewestCriers : MethodName := ⟨RX9, "fewestCriers", "(III)I"⟩
abbrev cX9_widestHearers : ByteArray := prog_11_method_6_code
def yX9_widestHearers : MethodName := ⟨RX9, "widestHearers", "(II)I"⟩
abbrev cX9_knowers : ByteArray := prog_11_method_7_code
def yX9_knowers : MethodName := ⟨RX9, "knowers", "(II)I"⟩
def RX10 : String := "ClockForTalk$Wordings"
def TX10 : u_T := fun k => match k with
  | 0 => ("ClockForTalk$Wordings", "grammar", "[I", true)
  | 1 => ("ClockForTalk$Wordings", "draft", "[I", true)
  | 2 => ("ClockForTalk$Wordings", "letters", "[I", true)
  | 3 => ("ClockForTalk$Wordings", "masks", "[I", true)
  | 4 => ("ClockForTalk$Wordings", "fewest", "[I", true)
  | 5 => ("ClockForTalk$Wordings", "rows", "[I", true)
  | 6 => ("ClockForTalk$Wordings", "trial", "[I", true)
  | _ => ("ClockForTalk$Wordings", "lines", "I", false)
def tyX10 : Nat → FieldType := fun k => match k with
  | 0 => .array .int
  | 1 => .array .int
  | 2 => .array .int
  | 3 => .array .int
  | 4 => .array .int
  | 5 => .array .int
  | 6 => .array .int
  | _ => .int
theorem nmX10 : ∀ a, a < 8 → ∀ b, b < 8 → a ≠ b → (TX10 a).2.1 ≠ (TX10 b).2.1 := by decide +kernel
theorem tyX10_ok : ∀ k, k < 8 → parseFieldDescriptor (TX10 k).2.2.1 = some (tyX10 k) := by decide +kernel
abbrev cX10_init : ByteArray := prog_12_method_1_code
def yX10_init : MethodName := ⟨RX10, "<init>", "()V"⟩
abbrev cX10_readLine : ByteArray := prog_12_method_2_code
def yX10_readLine : MethodName := ⟨RX10, "readLine", "(LClockForTalk$Text;I)Z"⟩
abbrev cX10_adopt : ByteArray := prog_12_method_3_code
def yX10_adopt : MethodName := ⟨RX10, "adopt", "(I)V"⟩
abbrev cX10_readWording : ByteArray := prog_12_method_4_code
def yX10_readWording : MethodName := ⟨RX10, "readWording", "(LClockForTalk$Text;)I"⟩
abbrev cX10_mask : ByteArray := prog_12_method_5_code
def yX10_mask : MethodName := ⟨RX10, "mask", "(II)I"⟩
abbrev cX10_fillMasks : ByteArray := prog_12_method_6_code
def yX10_fillMasks : MethodName := ⟨RX10, "fillMasks", "(I)V"⟩
abbrev cX10_joined : ByteArray := prog_12_method_7_code
def yX10_joined : MethodName := ⟨RX10, "joined", "(II)I"⟩
abbrev cX10_shorten : ByteArray := prog_12_method_8_code
def yX10_shorten : MethodName := ⟨RX10, "shorten", "(I)I"⟩
abbrev cX10_tryFirst : ByteArray := prog_12_method_9_code
def yX10_tryFirst : MethodName := ⟨RX10, "tryFirst", "(II)V"⟩
abbrev cX10_isTrialLess : ByteArray := prog_12_method_10_code
def yX10_isTrialLess : MethodName := ⟨RX10, "isTrialLess", "(II)Z"⟩
def RX11 : String := "ClockForTalk"
def TX11 : u_T := fun k => match k with
  | 0 => ("ClockForTalk", "text", "LClockForTalk$Text;", true)
  | 1 => ("ClockForTalk", "told", "LClockForTalk$Row;", true)
  | 2 => ("ClockForTalk", "town", "LClockForTalk$Town;", true)
  | 3 => ("ClockForTalk", "ledger", "LClockForTalk$Ledger;", true)
  | 4 => ("ClockForTalk", "past", "LClockForTalk$History;", true)
  | 5 => ("ClockForTalk", "law", "LClockForTalk$Rule;", true)
  | 6 => ("ClockForTalk", "otherLaw", "LClockForTalk$Rule;", true)
  | 7 => ("ClockForTalk", "costs", "LClockForTalk$Costs;", true)
  | 8 => ("ClockForTalk", "otherCosts", "LClockForTalk$Costs;", true)
  | 9 => ("ClockForTalk", "mouths", "LClockForTalk$WordOfMouth;", true)
  | 10 => ("ClockForTalk", "debates", "LClockForTalk$Debates;", true)
  | 11 => ("ClockForTalk", "wordings", "LClockForTalk$Wordings;", true)
  | 12 => ("ClockForTalk", "dusk", "LClockForTalk$Dusk;", true)
  | _ => ("ClockForTalk", "acts", "[I", true)
def tyX11 : Nat → FieldType := fun k => match k with
  | 0 => .object "ClockForTalk$Text"
  | 1 => .object "ClockForTalk$Row"
  | 2 => .object "ClockForTalk$Town"
  | 3 => .object "ClockForTalk$Ledger"
  | 4 => .object "ClockForTalk$History"
  | 5 => .object "ClockForTalk$Rule"
  | 6 => .object "ClockForTalk$Rule"
  | 7 => .object "ClockForTalk$Costs"
  | 8 => .object "ClockForTalk$Costs"
  | 9 => .object "ClockForTalk$WordOfMouth"
  | 10 => .object "ClockForTalk$Debates"
  | 11 => .object "ClockForTalk$Wordings"
  | 12 => .object "ClockForTalk$Dusk"
  | _ => .array .int
theorem nmX11 : ∀ a, a < 14 → ∀ b, b < 14 → a ≠ b → (TX11 a).2.1 ≠ (TX11 b).2.1 := by decide +kernel
theorem tyX11_ok : ∀ k, k < 14 → parseFieldDescriptor (TX11 k).2.2.1 = some (tyX11 k) := by decide +kernel
abbrev cX11_init : ByteArray := prog_1_method_1_code
def yX11_init : MethodName := ⟨RX11, "<init>", "()V"⟩
abbrev cX11_sign : ByteArray := prog_1_method_2_code
def yX11_sign : MethodName := ⟨RX11, "sign", "(I)I"⟩
abbrev cX11_end : ByteArray := prog_1_method_3_code
def yX11_end : MethodName := ⟨RX11, "end", "(I)Z"⟩
abbrev cX11_people : ByteArray := prog_1_method_4_code
def yX11_people : MethodName := ⟨RX11, "people", "()I"⟩
abbrev cX11_things : ByteArray := prog_1_method_5_code
def yX11_things : MethodName := ⟨RX11, "things", "()I"⟩
abbrev cX11_rule : ByteArray := prog_1_method_6_code
def yX11_rule : MethodName := ⟨RX11, "rule", "()I"⟩
abbrev cX11_person : ByteArray := prog_1_method_7_code
def yX11_person : MethodName := ⟨RX11, "person", "(II)I"⟩
abbrev cX11_thing : ByteArray := prog_1_method_8_code
def yX11_thing : MethodName := ⟨RX11, "thing", "(II)I"⟩
abbrev cX11_loan : ByteArray := prog_1_method_9_code
def yX11_loan : MethodName := ⟨RX11, "loan", "(II)I"⟩
abbrev cX11_move : ByteArray := prog_1_method_10_code
def yX11_move : MethodName := ⟨RX11, "move", "(II)I"⟩
abbrev cX11_sheet : ByteArray := prog_1_method_11_code
def yX11_sheet : MethodName := ⟨RX11, "sheet", "(IIII)I"⟩
abbrev cX11_cost : ByteArray := prog_1_method_12_code
def yX11_cost : MethodName := ⟨RX11, "cost", "(II)I"⟩
abbrev cX11_say : ByteArray := prog_1_method_13_code
def yX11_say : MethodName := ⟨RX11, "say", "(II)I"⟩
abbrev cX11_give : ByteArray := prog_1_method_14_code
def yX11_give : MethodName := ⟨RX11, "give", "(III)I"⟩
abbrev cX11_lend : ByteArray := prog_1_method_15_code
def yX11_lend : MethodName := ⟨RX11, "lend", "(IIII)I"⟩
abbrev cX11_days : ByteArray := prog_1_method_16_code
def yX11_days : MethodName := ⟨RX11, "days", "(I)I"⟩
abbrev cX11_talk : ByteArray := prog_1_method_17_code
def yX11_talk : MethodName := ⟨RX11, "talk", "()I"⟩
abbrev cX11_undo : ByteArray := prog_1_method_18_code
def yX11_undo : MethodName := ⟨RX11, "undo", "()I"⟩
abbrev cX11_best : ByteArray := prog_1_method_19_code
def yX11_best : MethodName := ⟨RX11, "best", "(I)I"⟩
abbrev cX11_lacks : ByteArray := prog_1_method_20_code
def yX11_lacks : MethodName := ⟨RX11, "lacks", "(I)I"⟩
abbrev cX11_pool : ByteArray := prog_1_method_21_code
def yX11_pool : MethodName := ⟨RX11, "pool", "()I"⟩
abbrev cX11_gifts : ByteArray := prog_1_method_22_code
def yX11_gifts : MethodName := ⟨RX11, "gifts", "(I)I"⟩
abbrev cX11_mute : ByteArray := prog_1_method_23_code
def yX11_mute : MethodName := ⟨RX11, "mute", "()I"⟩
abbrev cX11_relay : ByteArray := prog_1_method_24_code
def yX11_relay : MethodName := ⟨RX11, "relay", "(III)I"⟩
abbrev cX11_criers : ByteArray := prog_1_method_25_code
def yX11_criers : MethodName := ⟨RX11, "criers", "(III)I"⟩
abbrev cX11_debate : ByteArray := prog_1_method_26_code
def yX11_debate : MethodName := ⟨RX11, "debate", "(III)I"⟩
abbrev cX11_enough : ByteArray := prog_1_method_27_code
def yX11_enough : MethodName := ⟨RX11, "enough", "(II)I"⟩
abbrev cX11_grammar : ByteArray := prog_1_method_28_code
def yX11_grammar : MethodName := ⟨RX11, "grammar", "()I"⟩
abbrev cX11_shorter : ByteArray := prog_1_method_29_code
def yX11_shorter : MethodName := ⟨RX11, "shorter", "()I"⟩
abbrev cX11_becomes : ByteArray := prog_1_method_30_code
def yX11_becomes : MethodName := ⟨RX11, "becomes", "()I"⟩
abbrev cX11_read : ByteArray := prog_1_method_31_code
def yX11_read : MethodName := ⟨RX11, "read", "(II)I"⟩
abbrev cX11_forget : ByteArray := prog_1_method_32_code
def yX11_forget : MethodName := ⟨RX11, "forget", "()I"⟩
abbrev cX11_spoke : ByteArray := prog_1_method_33_code
def yX11_spoke : MethodName := ⟨RX11, "spoke", "(I)I"⟩
abbrev cX11_look : ByteArray := prog_1_method_34_code
def yX11_look : MethodName := ⟨RX11, "look", "()I"⟩
abbrev cX11_rate : ByteArray := prog_1_method_35_code
def yX11_rate : MethodName := ⟨RX11, "rate", "()I"⟩
abbrev cX11_run : ByteArray := prog_1_method_36_code
def yX11_run : MethodName := ⟨RX11, "run", "(I)I"⟩
abbrev cX11_years : ByteArray := prog_1_method_37_code
def yX11_years : MethodName := ⟨RX11, "years", "(II)I"⟩
abbrev cX11_keep : ByteArray := prog_1_method_38_code
def yX11_keep : MethodName := ⟨RX11, "keep", "(I)Z"⟩
abbrev cX11_again : ByteArray := prog_1_method_39_code
def yX11_again : MethodName := ⟨RX11, "again", "(I)Z"⟩
abbrev cX11_count : ByteArray := prog_1_method_40_code
def yX11_count : MethodName := ⟨RX11, "count", "(I)I"⟩
abbrev cX11_row : ByteArray := prog_1_method_41_code
def yX11_row : MethodName := ⟨RX11, "row", "(I)I"⟩
abbrev cX11_held : ByteArray := prog_1_method_42_code
def yX11_held : MethodName := ⟨RX11, "held", "(I)I"⟩
abbrev cX11_utter : ByteArray := prog_1_method_43_code
def yX11_utter : MethodName := ⟨RX11, "utter", "(II)I"⟩
abbrev cX11_handOver : ByteArray := prog_1_method_44_code
def yX11_handOver : MethodName := ⟨RX11, "handOver", "(III)I"⟩
abbrev cX11_passDays : ByteArray := prog_1_method_45_code
def yX11_passDays : MethodName := ⟨RX11, "passDays", "(I)V"⟩
abbrev cX11_isSpeech : ByteArray := prog_1_method_46_code
def yX11_isSpeech : MethodName := ⟨RX11, "isSpeech", "(I)Z"⟩
abbrev cX11_doAct : ByteArray := prog_1_method_47_code
def yX11_doAct : MethodName := ⟨RX11, "doAct", "(I)I"⟩
abbrev cX11_bestOfAll : ByteArray := prog_1_method_48_code
def yX11_bestOfAll : MethodName := ⟨RX11, "bestOfAll", "(LClockForTalk$Costs;)I"⟩
abbrev cX11_readText : ByteArray := prog_1_method_49_code
def yX11_readText : MethodName := ⟨RX11, "readText", "(III)I"⟩
abbrev cX11_readLines : ByteArray := prog_1_method_50_code
def yX11_readLines : MethodName := ⟨RX11, "readLines", "(II)I"⟩
abbrev cX11_readLine : ByteArray := prog_1_method_51_code
def yX11_readLine : MethodName := ⟨RX11, "readLine", "(II)Z"⟩
abbrev cX11_readWish : ByteArray := prog_1_method_52_code
def yX11_readWish : MethodName := ⟨RX11, "readWish", "(I)Z"⟩
abbrev cX11_readAct : ByteArray := prog_1_method_53_code
def yX11_readAct : MethodName := ⟨RX11, "readAct", "(I)Z"⟩
abbrev cX11_readSaying : ByteArray := prog_1_method_54_code
def yX11_readSaying : MethodName := ⟨RX11, "readSaying", "(I)Z"⟩
abbrev cX11_readGift : ByteArray := prog_1_method_55_code
def yX11_readGift : MethodName := ⟨RX11, "readGift", "(I)Z"⟩
abbrev cX11_writeAct : ByteArray := prog_1_method_56_code
def yX11_writeAct : MethodName := ⟨RX11, "writeAct", "(IIIII)V"⟩
abbrev cX11_at : ByteArray := prog_1_method_57_code
def yX11_at : MethodName := ⟨RX11, "at", "([II)I"⟩
abbrev cX11_put : ByteArray := prog_1_method_58_code
def yX11_put : MethodName := ⟨RX11, "put", "([III)V"⟩
abbrev cX11_wordAt : ByteArray := prog_1_method_59_code
def yX11_wordAt : MethodName := ⟨RX11, "wordAt", "([JI)J"⟩
abbrev cX11_putWord : ByteArray := prog_1_method_60_code
def yX11_putWord : MethodName := ⟨RX11, "putWord", "([JIJ)V"⟩
abbrev cX11_within : ByteArray := prog_1_method_61_code
def yX11_within : MethodName := ⟨RX11, "within", "(III)Z"⟩
abbrev cX11_clamp : ByteArray := prog_1_method_62_code
def yX11_clamp : MethodName := ⟨RX11, "clamp", "(II)I"⟩
abbrev cX11_holds : ByteArray := prog_1_method_63_code
def yX11_holds : MethodName := ⟨RX11, "holds", "(II)Z"⟩
abbrev cX11_areBitsOf : ByteArray := prog_1_method_64_code
def yX11_areBitsOf : MethodName := ⟨RX11, "areBitsOf", "(II)Z"⟩
abbrev cX11_entryOf : ByteArray := prog_1_method_65_code
def yX11_entryOf : MethodName := ⟨RX11, "entryOf", "(II)I"⟩
def RX12 : String := "ClockForTalkModel"
def TX12 : u_T := fun k => match k with
  | 0 => ("ClockForTalkModel", "now", "[I", true)
  | 1 => ("ClockForTalkModel", "people", "I", false)
  | 2 => ("ClockForTalkModel", "step", "[I", true)
  | 3 => ("ClockForTalkModel", "yearly", "[I", true)
  | 4 => ("ClockForTalkModel", "things", "I", false)
  | 5 => ("ClockForTalkModel", "thing", "[I", true)
  | 6 => ("ClockForTalkModel", "text", "[B", true)
  | 7 => ("ClockForTalkModel", "typed", "I", false)
  | 8 => ("ClockForTalkModel", "row", "[I", true)
  | 9 => ("ClockForTalkModel", "rowMany", "I", false)
  | 10 => ("ClockForTalkModel", "thrown", "I", false)
  | 11 => ("ClockForTalkModel", "read", "[B", false)
  | 12 => ("ClockForTalkModel", "length", "I", false)
  | 13 => ("ClockForTalkModel", "top", "I", false)
  | 14 => ("ClockForTalkModel", "at", "I", false)
  | 15 => ("ClockForTalkModel", "wrong", "I", false)
  | 16 => ("ClockForTalkModel", "comes", "[I", true)
  | 17 => ("ClockForTalkModel", "rule", "[B", false)
  | 18 => ("ClockForTalkModel", "ruleSize", "I", false)
  | 19 => ("ClockForTalkModel", "otherRule", "[B", false)
  | 20 => ("ClockForTalkModel", "isAsked", "Z", false)
  | 21 => ("ClockForTalkModel", "asked", "[I", true)
  | 22 => ("ClockForTalkModel", "undos", "[I", true)
  | 23 => ("ClockForTalkModel", "undoMany", "I", false)
  | 24 => ("ClockForTalkModel", "aside", "[I", true)
  | 25 => ("ClockForTalkModel", "endedMany", "I", false)
  | 26 => ("ClockForTalkModel", "lostAll", "I", false)
  | 27 => ("ClockForTalkModel", "acts", "[I", true)
  | 28 => ("ClockForTalkModel", "costAll", "I", false)
  | 29 => ("ClockForTalkModel", "least", "[I", true)
  | 30 => ("ClockForTalkModel", "line", "[I", true)
  | 31 => ("ClockForTalkModel", "bestLine", "[I", true)
  | 32 => ("ClockForTalkModel", "bestMany", "I", false)
  | 33 => ("ClockForTalkModel", "cheapest", "I", false)
  | 34 => ("ClockForTalkModel", "wins", "[Z", true)
  | 35 => ("ClockForTalkModel", "laidFor", "I", false)
  | 36 => ("ClockForTalkModel", "lines", "[I", true)
  | 37 => ("ClockForTalkModel", "newLines", "[I", true)
  | 38 => ("ClockForTalkModel", "lineMany", "I", false)
  | 39 => ("ClockForTalkModel", "turns", "[I", true)
  | 40 => ("ClockForTalkModel", "wordMany", "I", false)
  | 41 => ("ClockForTalkModel", "fewest", "[I", true)
  | 42 => ("ClockForTalkModel", "readAt", "[I", true)
  | 43 => ("ClockForTalkModel", "readBits", "I", false)
  | 44 => ("ClockForTalkModel", "costs", "[I", true)
  | 45 => ("ClockForTalkModel", "isMarked", "[Z", true)
  | 46 => ("ClockForTalkModel", "markedMany", "I", false)
  | 47 => ("ClockForTalkModel", "then", "[I", true)
  | 48 => ("ClockForTalkModel", "came", "I", false)
  | 49 => ("ClockForTalkModel", "kept", "[I", true)
  | 50 => ("ClockForTalkModel", "isKept", "[Z", true)
  | _ => ("ClockForTalkModel", "keptCame", "[I", true)
def tyX12 : Nat → FieldType := fun k => match k with
  | 0 => .array .int
  | 1 => .int
  | 2 => .array .int
  | 3 => .array .int
  | 4 => .int
  | 5 => .array .int
  | 6 => .array .byte
  | 7 => .int
  | 8 => .array .int
  | 9 => .int
  | 10 => .int
  | 11 => .array .byte
  | 12 => .int
  | 13 => .int
  | 14 => .int
  | 15 => .int
  | 16 => .array .int
  | 17 => .array .byte
  | 18 => .int
  | 19 => .array .byte
  | 20 => .boolean
  | 21 => .array .int
  | 22 => .array .int
  | 23 => .int
  | 24 => .array .int
  | 25 => .int
  | 26 => .int
  | 27 => .array .int
  | 28 => .int
  | 29 => .array .int
  | 30 => .array .int
  | 31 => .array .int
  | 32 => .int
  | 33 => .int
  | 34 => .array .boolean
  | 35 => .int
  | 36 => .array .int
  | 37 => .array .int
  | 38 => .int
  | 39 => .array .int
  | 40 => .int
  | 41 => .array .int
  | 42 => .array .int
  | 43 => .int
  | 44 => .array .int
  | 45 => .array .boolean
  | 46 => .int
  | 47 => .array .int
  | 48 => .int
  | 49 => .array .int
  | 50 => .array .boolean
  | _ => .array .int
theorem nmX12 : ∀ a, a < 52 → ∀ b, b < 52 → a ≠ b → (TX12 a).2.1 ≠ (TX12 b).2.1 := by decide +kernel
theorem tyX12_ok : ∀ k, k < 52 → parseFieldDescriptor (TX12 k).2.2.1 = some (tyX12 k) := by decide +kernel
abbrev cX12_init : ByteArray := prog_14_method_1_code
def yX12_init : MethodName := ⟨RX12, "<init>", "()V"⟩
abbrev cX12_thrown : ByteArray := prog_14_method_2_code
def yX12_thrown : MethodName := ⟨RX12, "thrown", "()I"⟩
abbrev cX12_in : ByteArray := prog_14_method_3_code
def yX12_in : MethodName := ⟨RX12, "in", "(III)Z"⟩
abbrev cX12_has : ByteArray := prog_14_method_4_code
def yX12_has : MethodName := ⟨RX12, "has", "(II)Z"⟩
abbrev cX12_lost : ByteArray := prog_14_method_5_code
def yX12_lost : MethodName := ⟨RX12, "lost", "()I"⟩
abbrev cX12_tell : ByteArray := prog_14_method_6_code
def yX12_tell : MethodName := ⟨RX12, "tell", "(I)V"⟩
abbrev cX12_isOne : ByteArray := prog_14_method_7_code
def yX12_isOne : MethodName := ⟨RX12, "isOne", "(I)Z"⟩
abbrev cX12_areTwo : ByteArray := prog_14_method_8_code
def yX12_areTwo : MethodName := ⟨RX12, "areTwo", "(II)Z"⟩
abbrev cX12_isThing : ByteArray := prog_14_method_9_code
def yX12_isThing : MethodName := ⟨RX12, "isThing", "(I)Z"⟩
abbrev cX12_sign : ByteArray := prog_14_method_10_code
def yX12_sign : MethodName := ⟨RX12, "sign", "(I)I"⟩
abbrev cX12_end : ByteArray := prog_14_method_11_code
def yX12_end : MethodName := ⟨RX12, "end", "(I)Z"⟩
abbrev cX12_begin : ByteArray := prog_14_method_12_code
def yX12_begin : MethodName := ⟨RX12, "begin", "([BII)V"⟩
abbrev cX12_here : ByteArray := prog_14_method_13_code
def yX12_here : MethodName := ⟨RX12, "here", "()I"⟩
abbrev cX12_fine : ByteArray := prog_14_method_14_code
def yX12_fine : MethodName := ⟨RX12, "fine", "()Z"⟩
abbrev cX12_fault : ByteArray := prog_14_method_15_code
def yX12_fault : MethodName := ⟨RX12, "fault", "(I)V"⟩
abbrev cX12_passes : ByteArray := prog_14_method_16_code
def yX12_passes : MethodName := ⟨RX12, "passes", "(C)Z"⟩
abbrev cX12_need : ByteArray := prog_14_method_17_code
def yX12_need : MethodName := ⟨RX12, "need", "(C)V"⟩
abbrev cX12_oneOf : ByteArray := prog_14_method_18_code
def yX12_oneOf : MethodName := ⟨RX12, "oneOf", "(CII)I"⟩
abbrev cX12_number : ByteArray := prog_14_method_19_code
def yX12_number : MethodName := ⟨RX12, "number", "(I)I"⟩
abbrev cX12_people : ByteArray := prog_14_method_20_code
def yX12_people : MethodName := ⟨RX12, "people", "()I"⟩
abbrev cX12_readThing : ByteArray := prog_14_method_21_code
def yX12_readThing : MethodName := ⟨RX12, "readThing", "(I)V"⟩
abbrev cX12_things : ByteArray := prog_14_method_22_code
def yX12_things : MethodName := ⟨RX12, "things", "()I"⟩
abbrev cX12_held : ByteArray := prog_14_method_23_code
def yX12_held : MethodName := ⟨RX12, "held", "(I)I"⟩
abbrev cX12_sum : ByteArray := prog_14_method_24_code
def yX12_sum : MethodName := ⟨RX12, "sum", "(I)I"⟩
abbrev cX12_product : ByteArray := prog_14_method_25_code
def yX12_product : MethodName := ⟨RX12, "product", "(I)I"⟩
abbrev cX12_letterOf : ByteArray := prog_14_method_26_code
def yX12_letterOf : MethodName := ⟨RX12, "letterOf", "(I)I"⟩
abbrev cX12_part : ByteArray := prog_14_method_27_code
def yX12_part : MethodName := ⟨RX12, "part", "(I)I"⟩
abbrev cX12_readRule : ByteArray := prog_14_method_28_code
def yX12_readRule : MethodName := ⟨RX12, "readRule", "()Z"⟩
abbrev cX12_rule : ByteArray := prog_14_method_29_code
def yX12_rule : MethodName := ⟨RX12, "rule", "()I"⟩
abbrev cX12_costBy : ByteArray := prog_14_method_30_code
def yX12_costBy : MethodName := ⟨RX12, "costBy", "(IIIIII)I"⟩
abbrev cX12_carries : ByteArray := prog_14_method_31_code
def yX12_carries : MethodName := ⟨RX12, "carries", "(I)I"⟩
abbrev cX12_apart : ByteArray := prog_14_method_32_code
def yX12_apart : MethodName := ⟨RX12, "apart", "(II)I"⟩
abbrev cX12_hears : ByteArray := prog_14_method_33_code
def yX12_hears : MethodName := ⟨RX12, "hears", "(II)I"⟩
abbrev cX12_field : ByteArray := prog_14_method_34_code
def yX12_field : MethodName := ⟨RX12, "field", "(II)I"⟩
abbrev cX12_isHeard : ByteArray := prog_14_method_35_code
def yX12_isHeard : MethodName := ⟨RX12, "isHeard", "(II)Z"⟩
abbrev cX12_costOf : ByteArray := prog_14_method_36_code
def yX12_costOf : MethodName := ⟨RX12, "costOf", "([IIIII)I"⟩
abbrev cX12_costOfThing : ByteArray := prog_14_method_37_code
def yX12_costOfThing : MethodName := ⟨RX12, "costOfThing", "([III)I"⟩
abbrev cX12_bestWay : ByteArray := prog_14_method_38_code
def yX12_bestWay : MethodName := ⟨RX12, "bestWay", "([IIII)I"⟩
abbrev cX12_bestWayOf : ByteArray := prog_14_method_39_code
def yX12_bestWayOf : MethodName := ⟨RX12, "bestWayOf", "([II)I"⟩
abbrev cX12_leastOf : ByteArray := prog_14_method_40_code
def yX12_leastOf : MethodName := ⟨RX12, "leastOf", "([II)I"⟩
abbrev cX12_isLate : ByteArray := prog_14_method_41_code
def yX12_isLate : MethodName := ⟨RX12, "isLate", "([II)Z"⟩
abbrev cX12_today : ByteArray := prog_14_method_42_code
def yX12_today : MethodName := ⟨RX12, "today", "()I"⟩
abbrev cX12_owedBy : ByteArray := prog_14_method_43_code
def yX12_owedBy : MethodName := ⟨RX12, "owedBy", "(II)I"⟩
abbrev cX12_person : ByteArray := prog_14_method_44_code
def yX12_person : MethodName := ⟨RX12, "person", "(II)I"⟩
abbrev cX12_thing : ByteArray := prog_14_method_45_code
def yX12_thing : MethodName := ⟨RX12, "thing", "(II)I"⟩
abbrev cX12_loan : ByteArray := prog_14_method_46_code
def yX12_loan : MethodName := ⟨RX12, "loan", "(II)I"⟩
abbrev cX12_move : ByteArray := prog_14_method_47_code
def yX12_move : MethodName := ⟨RX12, "move", "(II)I"⟩
abbrev cX12_sheet : ByteArray := prog_14_method_48_code
def yX12_sheet : MethodName := ⟨RX12, "sheet", "(IIII)I"⟩
abbrev cX12_lay : ByteArray := prog_14_method_49_code
def yX12_lay : MethodName := ⟨RX12, "lay", "([I[II)V"⟩
abbrev cX12_remember : ByteArray := prog_14_method_50_code
def yX12_remember : MethodName := ⟨RX12, "remember", "([I)V"⟩
abbrev cX12_cost : ByteArray := prog_14_method_51_code
def yX12_cost : MethodName := ⟨RX12, "cost", "(II)I"⟩
abbrev cX12_refusesSay : ByteArray := prog_14_method_52_code
def yX12_refusesSay : MethodName := ⟨RX12, "refusesSay", "([III)I"⟩
abbrev cX12_goSay : ByteArray := prog_14_method_53_code
def yX12_goSay : MethodName := ⟨RX12, "goSay", "([III)I"⟩
abbrev cX12_say : ByteArray := prog_14_method_54_code
def yX12_say : MethodName := ⟨RX12, "say", "(II)I"⟩
abbrev cX12_refusesGive : ByteArray := prog_14_method_55_code
def yX12_refusesGive : MethodName := ⟨RX12, "refusesGive", "(III)I"⟩
abbrev cX12_goGive : ByteArray := prog_14_method_56_code
def yX12_goGive : MethodName := ⟨RX12, "goGive", "([IIII)I"⟩
abbrev cX12_give : ByteArray := prog_14_method_57_code
def yX12_give : MethodName := ⟨RX12, "give", "(III)I"⟩
abbrev cX12_lend : ByteArray := prog_14_method_58_code
def yX12_lend : MethodName := ⟨RX12, "lend", "(IIII)I"⟩
abbrev cX12_goDay : ByteArray := prog_14_method_59_code
def yX12_goDay : MethodName := ⟨RX12, "goDay", "([I)V"⟩
abbrev cX12_goDays : ByteArray := prog_14_method_60_code
def yX12_goDays : MethodName := ⟨RX12, "goDays", "([II)V"⟩
abbrev cX12_days : ByteArray := prog_14_method_61_code
def yX12_days : MethodName := ⟨RX12, "days", "(I)I"⟩
abbrev cX12_talk : ByteArray := prog_14_method_62_code
def yX12_talk : MethodName := ⟨RX12, "talk", "()I"⟩
abbrev cX12_readAct : ByteArray := prog_14_method_63_code
def yX12_readAct : MethodName := ⟨RX12, "readAct", "(I)V"⟩
abbrev cX12_act : ByteArray := prog_14_method_64_code
def yX12_act : MethodName := ⟨RX12, "act", "(IIII)Z"⟩
abbrev cX12_undo : ByteArray := prog_14_method_65_code
def yX12_undo : MethodName := ⟨RX12, "undo", "()I"⟩
abbrev cX12_layLeast : ByteArray := prog_14_method_66_code
def yX12_layLeast : MethodName := ⟨RX12, "layLeast", "()V"⟩
abbrev cX12_sumOf : ByteArray := prog_14_method_67_code
def yX12_sumOf : MethodName := ⟨RX12, "sumOf", "(I)I"⟩
abbrev cX12_worthOf : ByteArray := prog_14_method_68_code
def yX12_worthOf : MethodName := ⟨RX12, "worthOf", "(I)I"⟩
abbrev cX12_thingsOf : ByteArray := prog_14_method_69_code
def yX12_thingsOf : MethodName := ⟨RX12, "thingsOf", "(I)I"⟩
abbrev cX12_bestSet : ByteArray := prog_14_method_70_code
def yX12_bestSet : MethodName := ⟨RX12, "bestSet", "(II)I"⟩
abbrev cX12_best : ByteArray := prog_14_method_71_code
def yX12_best : MethodName := ⟨RX12, "best", "(I)I"⟩
abbrev cX12_lacks : ByteArray := prog_14_method_72_code
def yX12_lacks : MethodName := ⟨RX12, "lacks", "(I)I"⟩
abbrev cX12_allClocks : ByteArray := prog_14_method_73_code
def yX12_allClocks : MethodName := ⟨RX12, "allClocks", "()I"⟩
abbrev cX12_pool : ByteArray := prog_14_method_74_code
def yX12_pool : MethodName := ⟨RX12, "pool", "()I"⟩
abbrev cX12_gifts : ByteArray := prog_14_method_75_code
def yX12_gifts : MethodName := ⟨RX12, "gifts", "(I)I"⟩
abbrev cX12_mute : ByteArray := prog_14_method_76_code
def yX12_mute : MethodName := ⟨RX12, "mute", "()I"⟩
abbrev cX12_isBefore : ByteArray := prog_14_method_77_code
def yX12_isBefore : MethodName := ⟨RX12, "isBefore", "(I)Z"⟩
abbrev cX12_goRelay : ByteArray := prog_14_method_78_code
def yX12_goRelay : MethodName := ⟨RX12, "goRelay", "(IIIIII)V"⟩
abbrev cX12_relay : ByteArray := prog_14_method_79_code
def yX12_relay : MethodName := ⟨RX12, "relay", "(III)I"⟩
abbrev cX12_known : ByteArray := prog_14_method_80_code
def yX12_known : MethodName := ⟨RX12, "known", "(III)I"⟩
abbrev cX12_cried : ByteArray := prog_14_method_81_code
def yX12_cried : MethodName := ⟨RX12, "cried", "(II)I"⟩
abbrev cX12_criers : ByteArray := prog_14_method_82_code
def yX12_criers : MethodName := ⟨RX12, "criers", "(III)I"⟩
abbrev cX12_place : ByteArray := prog_14_method_83_code
def yX12_place : MethodName := ⟨RX12, "place", "(III)I"⟩
abbrev cX12_layWins : ByteArray := prog_14_method_84_code
def yX12_layWins : MethodName := ⟨RX12, "layWins", "(I)V"⟩
abbrev cX12_isLeft : ByteArray := prog_14_method_85_code
def yX12_isLeft : MethodName := ⟨RX12, "isLeft", "(I)Z"⟩
abbrev cX12_debate : ByteArray := prog_14_method_86_code
def yX12_debate : MethodName := ⟨RX12, "debate", "(III)I"⟩
abbrev cX12_enough : ByteArray := prog_14_method_87_code
def yX12_enough : MethodName := ⟨RX12, "enough", "(II)I"⟩
abbrev cX12_grammar : ByteArray := prog_14_method_88_code
def yX12_grammar : MethodName := ⟨RX12, "grammar", "()I"⟩
abbrev cX12_readWording : ByteArray := prog_14_method_89_code
def yX12_readWording : MethodName := ⟨RX12, "readWording", "()I"⟩
abbrev cX12_joined : ByteArray := prog_14_method_90_code
def yX12_joined : MethodName := ⟨RX12, "joined", "(II)I"⟩
abbrev cX12_shorter : ByteArray := prog_14_method_91_code
def yX12_shorter : MethodName := ⟨RX12, "shorter", "()I"⟩
abbrev cX12_becomes : ByteArray := prog_14_method_92_code
def yX12_becomes : MethodName := ⟨RX12, "becomes", "()I"⟩
abbrev cX12_read : ByteArray := prog_14_method_93_code
def yX12_read : MethodName := ⟨RX12, "read", "(II)I"⟩
abbrev cX12_forget : ByteArray := prog_14_method_94_code
def yX12_forget : MethodName := ⟨RX12, "forget", "()I"⟩
abbrev cX12_mark : ByteArray := prog_14_method_95_code
def yX12_mark : MethodName := ⟨RX12, "mark", "(I)V"⟩
abbrev cX12_goCosts : ByteArray := prog_14_method_96_code
def yX12_goCosts : MethodName := ⟨RX12, "goCosts", "(IIIIII)V"⟩
abbrev cX12_markCosts : ByteArray := prog_14_method_97_code
def yX12_markCosts : MethodName := ⟨RX12, "markCosts", "(II)V"⟩
abbrev cX12_spoke : ByteArray := prog_14_method_98_code
def yX12_spoke : MethodName := ⟨RX12, "spoke", "(I)I"⟩
abbrev cX12_look : ByteArray := prog_14_method_99_code
def yX12_look : MethodName := ⟨RX12, "look", "()I"⟩
abbrev cX12_bestAll : ByteArray := prog_14_method_100_code
def yX12_bestAll : MethodName := ⟨RX12, "bestAll", "()I"⟩
abbrev cX12_rate : ByteArray := prog_14_method_101_code
def yX12_rate : MethodName := ⟨RX12, "rate", "()I"⟩
abbrev cX12_run : ByteArray := prog_14_method_102_code
def yX12_run : MethodName := ⟨RX12, "run", "(I)I"⟩
abbrev cX12_isStruck : ByteArray := prog_14_method_103_code
def yX12_isStruck : MethodName := ⟨RX12, "isStruck", "(II)Z"⟩
abbrev cX12_years : ByteArray := prog_14_method_104_code
def yX12_years : MethodName := ⟨RX12, "years", "(II)I"⟩
abbrev cX12_keep : ByteArray := prog_14_method_105_code
def yX12_keep : MethodName := ⟨RX12, "keep", "(I)Z"⟩
abbrev cX12_again : ByteArray := prog_14_method_106_code
def yX12_again : MethodName := ⟨RX12, "again", "(I)Z"⟩
abbrev cX12_count : ByteArray := prog_14_method_107_code
def yX12_count : MethodName := ⟨RX12, "count", "(I)I"⟩
abbrev cX12_row : ByteArray := prog_14_method_108_code
def yX12_row : MethodName := ⟨RX12, "row", "(I)I"⟩
def RJ6 : String := "java/lang/Integer"
abbrev cJ6_numberOfTrailingZeros_0f7a4 : ByteArray := prog_19_method_48_code
def yJ6_numberOfTrailingZeros_0f7a4 : MethodName := ⟨RJ6, "numberOfTrailingZeros", "(I)I"⟩
abbrev cJ6_bitCount_0f7a4 : ByteArray := prog_19_method_49_code
def yJ6_bitCount_0f7a4 : MethodName := ⟨RJ6, "bitCount", "(I)I"⟩
def RJ9 : String := "java/lang/Math"
abbrev cJ9_abs_0f7a4 : ByteArray := prog_20_method_59_code
def yJ9_abs_0f7a4 : MethodName := ⟨RJ9, "abs", "(I)I"⟩
abbrev cJ9_max_7cf53 : ByteArray := prog_20_method_65_code
def yJ9_max_7cf53 : MethodName := ⟨RJ9, "max", "(II)I"⟩
abbrev cJ9_min_7cf53 : ByteArray := prog_20_method_69_code
def yJ9_min_7cf53 : MethodName := ⟨RJ9, "min", "(II)I"⟩
abbrev cJ9_min_f86c9 : ByteArray := prog_20_method_70_code
def yJ9_min_f86c9 : MethodName := ⟨RJ9, "min", "(JJ)J"⟩
def RJ0 : String := "java/lang/String"
abbrev cJ0_length_8abf5 : ByteArray := prog_22_method_54_code
def yJ0_length_8abf5 : MethodName := ⟨RJ0, "length", "()I"⟩
abbrev cJ0_charAt_5068e : ByteArray := prog_22_method_56_code
def yJ0_charAt_5068e : MethodName := ⟨RJ0, "charAt", "(I)C"⟩
abbrev cJ0_coder_7d493 : ByteArray := prog_22_method_152_code
def yJ0_coder_7d493 : MethodName := ⟨RJ0, "coder", "()B"⟩
abbrev cJ0_isLatin1_aae02 : ByteArray := prog_22_method_154_code
def yJ0_isLatin1_aae02 : MethodName := ⟨RJ0, "isLatin1", "()Z"⟩
abbrev cJ0_checkIndex_df160 : ByteArray := prog_22_method_155_code
def yJ0_checkIndex_df160 : MethodName := ⟨RJ0, "checkIndex", "(II)V"⟩
def RJ1 : String := "java/lang/StringLatin1"
abbrev cJ1_charAt_3b067 : ByteArray := prog_23_method_2_code
def yJ1_charAt_3b067 : MethodName := ⟨RJ1, "charAt", "([BI)C"⟩
def RJ2 : String := "java/lang/StringUTF16"
abbrev cJ2_getChar_3b067 : ByteArray := prog_24_method_5_code
def yJ2_getChar_3b067 : MethodName := ⟨RJ2, "getChar", "([BI)C"⟩
abbrev cJ2_length_9d52b : ByteArray := prog_24_method_6_code
def yJ2_length_9d52b : MethodName := ⟨RJ2, "length", "([B)I"⟩
abbrev cJ2_charAt_3b067 : ByteArray := prog_24_method_83_code
def yJ2_charAt_3b067 : MethodName := ⟨RJ2, "charAt", "([BI)C"⟩
abbrev cJ2_checkIndex_2214a : ByteArray := prog_24_method_91_code
def yJ2_checkIndex_2214a : MethodName := ⟨RJ2, "checkIndex", "(I[B)V"⟩
def RJ10 : String := "java/lang/System"
def RJ3 : String := "jdk/internal/util/Preconditions"
abbrev cJ3_checkIndex_8e157 : ByteArray := prog_30_method_11_code
def yJ3_checkIndex_8e157 : MethodName := ⟨RJ3, "checkIndex", "(IILjava/util/function/BiFunction;)I"⟩
def RL : String := "ClockForTalkLaw"
abbrev cL_person : ByteArray := method_3_code
def yL_person : MethodName := ⟨RL, "person", "(LClockForTalk;II[J)I"⟩
abbrev cL_thing : ByteArray := method_4_code
def yL_thing : MethodName := ⟨RL, "thing", "(LClockForTalk;II[J)I"⟩
abbrev cL_loan : ByteArray := method_5_code
def yL_loan : MethodName := ⟨RL, "loan", "(LClockForTalk;II[J)I"⟩
abbrev cL_row : ByteArray := method_6_code
def yL_row : MethodName := ⟨RL, "row", "(LClockForTalk;I[J)I"⟩
abbrev cL_law : ByteArray := code
def yL_law : MethodName := ⟨RL, "law", "([I)Z"⟩
abbrev vwCl : List vw_C := [(RX0, TX0, 8), (RX1, TX1, 2), (RX2, TX2, 9), (RX3, TX3, 6), (RX4, TX4, 11), (RX5, TX5, 2), (RX6, TX6, 4), (RX7, TX7, 3), (RX8, TX8, 9), (RX9, TX9, 9), (RX10, TX10, 8), (RX11, TX11, 14), (RX12, TX12, 52)]
def li_ws : List Cond := lw_tbl.filter goodWord
def li_nw : List Cond := [(Jvm.Cond.methodLinkNest "ClockForTalk" (11 : Nat) ({ cls := "ClockForTalk$Text", name := "<init>", desc := "()V" } : Jvm.MethodName) "ClockForTalk"), (Jvm.Cond.methodLinkNest "ClockForTalk" (18 : Nat) ({ cls := "ClockForTalk$Row", name := "<init>", desc := "()V" } : Jvm.MethodName) "ClockForTalk"), (Jvm.Cond.methodLinkNest "ClockForTalk" (25 : Nat) ({ cls := "ClockForTalk$Town", name := "<init>", desc := "()V" } : Jvm.MethodName) "ClockForTalk"), (Jvm.Cond.methodLinkNest "ClockForTalk" (32 : Nat) ({ cls := "ClockForTalk$Ledger", name := "<init>", desc := "()V" } : Jvm.MethodName) "ClockForTalk"), (Jvm.Cond.methodLinkNest "ClockForTalk$History" (18 : Nat) ({ cls := "ClockForTalk$Ledger", name := "<init>", desc := "()V" } : Jvm.MethodName) "ClockForTalk"), (Jvm.Cond.methodLinkNest "ClockForTalk" (46 : Nat) ({ cls := "ClockForTalk$Rule", name := "<init>", desc := "()V" } : Jvm.MethodName) "ClockForTalk"), (Jvm.Cond.methodLinkNest "ClockForTalk" (56 : Nat) ({ cls := "ClockForTalk$Debates", name := "<init>", desc := "()V" } : Jvm.MethodName) "ClockForTalk"), (Jvm.Cond.methodLinkNest "ClockForTalk" (63 : Nat) ({ cls := "ClockForTalk$Wordings", name := "<init>", desc := "()V" } : Jvm.MethodName) "ClockForTalk"), (Jvm.Cond.methodLinkNest "ClockForTalk$Text" (19 : Nat) ({ cls := "ClockForTalk", name := "put", desc := "([III)V" } : Jvm.MethodName) "ClockForTalk"), (Jvm.Cond.methodLinkNest "ClockForTalk$Text" (26 : Nat) ({ cls := "ClockForTalk", name := "at", desc := "([II)I" } : Jvm.MethodName) "ClockForTalk"), (Jvm.Cond.methodLinkNest "ClockForTalk$Rule" (41 : Nat) ({ cls := "ClockForTalk", name := "put", desc := "([III)V" } : Jvm.MethodName) "ClockForTalk"), (Jvm.Cond.methodLinkNest "ClockForTalk$Text" (43 : Nat) ({ cls := "ClockForTalk", name := "within", desc := "(III)Z" } : Jvm.MethodName) "ClockForTalk"), (Jvm.Cond.methodLinkNest "ClockForTalk$Wordings" (43 : Nat) ({ cls := "ClockForTalk", name := "put", desc := "([III)V" } : Jvm.MethodName) "ClockForTalk"), (Jvm.Cond.methodLinkNest "ClockForTalk$Town" (66 : Nat) ({ cls := "ClockForTalk", name := "put", desc := "([III)V" } : Jvm.MethodName) "ClockForTalk"), (Jvm.Cond.methodLinkNest "ClockForTalk$Ledger" (61 : Nat) ({ cls := "ClockForTalk", name := "at", desc := "([II)I" } : Jvm.MethodName) "ClockForTalk"), (Jvm.Cond.methodLinkNest "ClockForTalk$Ledger" (65 : Nat) ({ cls := "ClockForTalk", name := "put", desc := "([III)V" } : Jvm.MethodName) "ClockForTalk"), (Jvm.Cond.methodLinkNest "ClockForTalk$Town" (44 : Nat) ({ cls := "ClockForTalk", name := "at", desc := "([II)I" } : Jvm.MethodName) "ClockForTalk"), (Jvm.Cond.methodLinkNest "ClockForTalk$Costs" (39 : Nat) ({ cls := "ClockForTalk", name := "at", desc := "([II)I" } : Jvm.MethodName) "ClockForTalk"), (Jvm.Cond.methodLinkNest "ClockForTalk$Costs" (56 : Nat) ({ cls := "ClockForTalk", name := "put", desc := "([III)V" } : Jvm.MethodName) "ClockForTalk"), (Jvm.Cond.methodLinkNest "ClockForTalk$Rule" (93 : Nat) ({ cls := "ClockForTalk", name := "at", desc := "([II)I" } : Jvm.MethodName) "ClockForTalk"), (Jvm.Cond.methodLinkNest "ClockForTalk$Rule" (105 : Nat) ({ cls := "ClockForTalk", name := "clamp", desc := "(II)I" } : Jvm.MethodName) "ClockForTalk"), (Jvm.Cond.methodLinkNest "ClockForTalk$Ledger" (78 : Nat) ({ cls := "ClockForTalk", name := "putWord", desc := "([JIJ)V" } : Jvm.MethodName) "ClockForTalk"), (Jvm.Cond.methodLinkNest "ClockForTalk$Ledger" (94 : Nat) ({ cls := "ClockForTalk", name := "wordAt", desc := "([JI)J" } : Jvm.MethodName) "ClockForTalk"), (Jvm.Cond.methodLinkNest "ClockForTalk$Ledger" (82 : Nat) ({ cls := "ClockForTalk", name := "holds", desc := "(II)Z" } : Jvm.MethodName) "ClockForTalk"), (Jvm.Cond.methodLinkNest "ClockForTalk$Row" (15 : Nat) ({ cls := "ClockForTalk", name := "put", desc := "([III)V" } : Jvm.MethodName) "ClockForTalk"), (Jvm.Cond.methodLinkNest "ClockForTalk$Costs" (112 : Nat) ({ cls := "ClockForTalk", name := "holds", desc := "(II)Z" } : Jvm.MethodName) "ClockForTalk"), (Jvm.Cond.methodLinkNest "ClockForTalk$WordOfMouth" (78 : Nat) ({ cls := "ClockForTalk", name := "at", desc := "([II)I" } : Jvm.MethodName) "ClockForTalk"), (Jvm.Cond.methodLinkNest "ClockForTalk$WordOfMouth" (46 : Nat) ({ cls := "ClockForTalk", name := "put", desc := "([III)V" } : Jvm.MethodName) "ClockForTalk"), (Jvm.Cond.methodLinkNest "ClockForTalk$WordOfMouth" (88 : Nat) ({ cls := "ClockForTalk", name := "holds", desc := "(II)Z" } : Jvm.MethodName) "ClockForTalk"), (Jvm.Cond.methodLinkNest "ClockForTalk$Row" (23 : Nat) ({ cls := "ClockForTalk", name := "clamp", desc := "(II)I" } : Jvm.MethodName) "ClockForTalk"), (Jvm.Cond.methodLinkNest "ClockForTalk$Row" (27 : Nat) ({ cls := "ClockForTalk", name := "at", desc := "([II)I" } : Jvm.MethodName) "ClockForTalk"), (Jvm.Cond.methodLinkNest "ClockForTalk$Debates" (20 : Nat) ({ cls := "ClockForTalk", name := "holds", desc := "(II)Z" } : Jvm.MethodName) "ClockForTalk"), (Jvm.Cond.methodLinkNest "ClockForTalk$Debates" (42 : Nat) ({ cls := "ClockForTalk", name := "at", desc := "([II)I" } : Jvm.MethodName) "ClockForTalk"), (Jvm.Cond.methodLinkNest "ClockForTalk$Debates" (52 : Nat) ({ cls := "ClockForTalk", name := "put", desc := "([III)V" } : Jvm.MethodName) "ClockForTalk"), (Jvm.Cond.methodLinkNest "ClockForTalk$Wordings" (61 : Nat) ({ cls := "ClockForTalk", name := "at", desc := "([II)I" } : Jvm.MethodName) "ClockForTalk"), (Jvm.Cond.methodLinkNest "ClockForTalk$Wordings" (71 : Nat) ({ cls := "ClockForTalk", name := "holds", desc := "(II)Z" } : Jvm.MethodName) "ClockForTalk"), (Jvm.Cond.methodLinkNest "ClockForTalk$Dusk" (31 : Nat) ({ cls := "ClockForTalk", name := "put", desc := "([III)V" } : Jvm.MethodName) "ClockForTalk"), (Jvm.Cond.methodLinkNest "ClockForTalk$Dusk" (59 : Nat) ({ cls := "ClockForTalk", name := "at", desc := "([II)I" } : Jvm.MethodName) "ClockForTalk"), (Jvm.Cond.methodLinkNest "ClockForTalk$Dusk" (85 : Nat) ({ cls := "ClockForTalk", name := "putWord", desc := "([JIJ)V" } : Jvm.MethodName) "ClockForTalk"), (Jvm.Cond.methodLinkNest "ClockForTalk$Dusk" (78 : Nat) ({ cls := "ClockForTalk", name := "wordAt", desc := "([JI)J" } : Jvm.MethodName) "ClockForTalk"), (Jvm.Cond.methodLinkNest "ClockForTalk$Dusk" (115 : Nat) ({ cls := "ClockForTalk", name := "holds", desc := "(II)Z" } : Jvm.MethodName) "ClockForTalk"), (Jvm.Cond.methodLinkNest "ClockForTalk$History" (43 : Nat) ({ cls := "ClockForTalk", name := "holds", desc := "(II)Z" } : Jvm.MethodName) "ClockForTalk")]
theorem li_mem {w : Cond} (i : Nat) (h : lw_tbl[i]? = some w) (g : goodWord w = true) : w ∈ li_ws := List.mem_filter.mpr ⟨List.mem_of_getElem? h, g⟩
theorem li_sub {ws : List Cond} (is : List Nat) (h : is.filterMap (fun i => lw_tbl[i]?) = ws) (g : ws.all goodWord = true) : ∀ w ∈ ws, w ∈ li_ws := by
  intro w hw
  have g1 := List.all_eq_true.mp g w hw
  rw [← h] at hw
  obtain ⟨i, -, hi⟩ := List.mem_filterMap.mp hw
  exact li_mem i hi g1
theorem li_in0 : ∀ w ∈ u_ws RX0 TX0 8, w ∈ li_ws := li_sub [398, 400, 402, 404, 406, 408, 410, 412] (by decide +kernel) (by decide +kernel)
theorem li_in1 : ∀ w ∈ u_ws RX1 TX1 2, w ∈ li_ws := li_sub [341, 343] (by decide +kernel) (by decide +kernel)
theorem li_in2 : ∀ w ∈ u_ws RX2 TX2 9, w ∈ li_ws := li_sub [471, 473, 475, 477, 479, 481, 483, 485, 487] (by decide +kernel) (by decide +kernel)
theorem li_in3 : ∀ w ∈ u_ws RX3 TX3 6, w ∈ li_ws := li_sub [299, 301, 303, 305, 307, 309] (by decide +kernel) (by decide +kernel)
theorem li_in4 : ∀ w ∈ u_ws RX4 TX4 11, w ∈ li_ws := li_sub [259, 261, 263, 265, 267, 269, 271, 273, 275, 277, 279] (by decide +kernel) (by decide +kernel)
theorem li_in5 : ∀ w ∈ u_ws RX5 TX5 2, w ∈ li_ws := li_sub [166, 168] (by decide +kernel) (by decide +kernel)
theorem li_in6 : ∀ w ∈ u_ws RX6 TX6 4, w ∈ li_ws := li_sub [323, 325, 327, 329] (by decide +kernel) (by decide +kernel)
theorem li_in7 : ∀ w ∈ u_ws RX7 TX7 3, w ∈ li_ws := li_sub [148, 150, 152] (by decide +kernel) (by decide +kernel)
theorem li_in8 : ∀ w ∈ u_ws RX8 TX8 9, w ∈ li_ws := li_sub [207, 209, 211, 213, 215, 217, 219, 221, 223] (by decide +kernel) (by decide +kernel)
theorem li_in9 : ∀ w ∈ u_ws RX9 TX9 9, w ∈ li_ws := li_sub [433, 435, 437, 439, 441, 443, 445, 447, 449] (by decide +kernel) (by decide +kernel)
theorem li_in10 : ∀ w ∈ u_ws RX10 TX10 8, w ∈ li_ws := li_sub [362, 364, 366, 368, 370, 372, 374, 376] (by decide +kernel) (by decide +kernel)
theorem li_in11 : ∀ w ∈ u_ws RX11 TX11 14, w ∈ li_ws := li_sub [504, 506, 508, 510, 512, 514, 516, 518, 520, 522, 524, 526, 528, 530] (by decide +kernel) (by decide +kernel)
theorem li_in12 : ∀ w ∈ u_ws RX12 TX12 52, w ∈ li_ws := li_sub [1499, 1501, 1503, 1505, 1507, 1509, 1511, 1513, 1515, 1517, 1519, 1521, 1523, 1525, 1527, 1529, 1531, 1533, 1535, 1537, 1539, 1541, 1543, 1545, 1547, 1549, 1551, 1553, 1555, 1557, 1559, 1561, 1563, 1565, 1567, 1569, 1571, 1573, 1575, 1577, 1579, 1581, 1583, 1585, 1587, 1589, 1591, 1593, 1595, 1597, 1599, 1601] (by decide +kernel) (by decide +kernel)
end
section
abbrev li_S : Type := (Nat × List (Option Nat)) ⊕ (Nat × Nat)
def li_tab : List li_S := [.inl (11, [some 1, some 3, some 5, some 13, some 21, some 144, some 151, some 148, some 155, some 158, some 163, some 165, some 173, some 176]), .inl (7, [some 2, none, none]), .inr (0, 80), .inl (5, [some 4, none]), .inr (0, 14), .inl (8, [none, none, some 6, some 7, some 8, some 9, some 10, some 11, some 12]), .inr (0, 6), .inr (0, 6), .inr (0, 8), .inr (0, 8), .inr (0, 8), .inr (0, 8), .inr (0, 8), .inl (4, [none, none, none, none, some 14, some 15, some 16, some 17, some 18, some 19, some 20]), .inr (0, 6), .inr (0, 6), .inr (1, 6), .inr (0, 6), .inr (0, 6), .inr (0, 6), .inr (1, 6), .inl (3, [some 22, some 23, some 24, none, none, none]), .inr (132, 12), .inr (228, 2), .inl (4, [none, none, none, none, some 25, some 26, some 27, some 28, some 29, some 30, some 31]), .inr (0, 6), .inr (0, 6), .inr (1, 6), .inr (0, 6), .inr (0, 6), .inr (0, 6), .inr (1, 6), .inl (4, [none, none, none, none, some 33, some 34, some 35, some 36, some 37, some 38, some 39]), .inr (0, 6), .inr (0, 6), .inr (1, 6), .inr (0, 6), .inr (0, 6), .inr (0, 6), .inr (1, 6), .inl (4, [none, none, none, none, some 41, some 42, some 43, some 44, some 45, some 46, some 47]), .inr (0, 6), .inr (0, 6), .inr (1, 6), .inr (0, 6), .inr (0, 6), .inr (0, 6), .inr (1, 6), .inl (4, [none, none, none, none, some 49, some 50, some 51, some 52, some 53, some 54, some 55]), .inr (0, 6), .inr (0, 6), .inr (1, 6), .inr (0, 6), .inr (0, 6), .inr (0, 6), .inr (1, 6), .inl (4, [none, none, none, none, some 57, some 58, some 59, some 60, some 61, some 62, some 63]), .inr (0, 6), .inr (0, 6), .inr (1, 6), .inr (0, 6), .inr (0, 6), .inr (0, 6), .inr (1, 6), .inl (4, [none, none, none, none, some 65, some 66, some 67, some 68, some 69, some 70, some 71]), .inr (0, 6), .inr (0, 6), .inr (1, 6), .inr (0, 6), .inr (0, 6), .inr (0, 6), .inr (1, 6), .inl (4, [none, none, none, none, some 73, some 74, some 75, some 76, some 77, some 78, some 79]), .inr (0, 6), .inr (0, 6), .inr (1, 6), .inr (0, 6), .inr (0, 6), .inr (0, 6), .inr (1, 6), .inl (4, [none, none, none, none, some 81, some 82, some 83, some 84, some 85, some 86, some 87]), .inr (0, 6), .inr (0, 6), .inr (1, 6), .inr (0, 6), .inr (0, 6), .inr (0, 6), .inr (1, 6), .inl (4, [none, none, none, none, some 89, some 90, some 91, some 92, some 93, some 94, some 95]), .inr (0, 6), .inr (0, 6), .inr (1, 6), .inr (0, 6), .inr (0, 6), .inr (0, 6), .inr (1, 6), .inl (4, [none, none, none, none, some 97, some 98, some 99, some 100, some 101, some 102, some 103]), .inr (0, 6), .inr (0, 6), .inr (1, 6), .inr (0, 6), .inr (0, 6), .inr (0, 6), .inr (1, 6), .inl (4, [none, none, none, none, some 105, some 106, some 107, some 108, some 109, some 110, some 111]), .inr (0, 6), .inr (0, 6), .inr (1, 6), .inr (0, 6), .inr (0, 6), .inr (0, 6), .inr (1, 6), .inl (4, [none, none, none, none, some 113, some 114, some 115, some 116, some 117, some 118, some 119]), .inr (0, 6), .inr (0, 6), .inr (1, 6), .inr (0, 6), .inr (0, 6), .inr (0, 6), .inr (1, 6), .inl (4, [none, none, none, none, some 121, some 122, some 123, some 124, some 125, some 126, some 127]), .inr (0, 6), .inr (0, 6), .inr (1, 6), .inr (0, 6), .inr (0, 6), .inr (0, 6), .inr (1, 6), .inl (4, [none, none, none, none, some 129, some 130, some 131, some 132, some 133, some 134, some 135]), .inr (0, 6), .inr (0, 6), .inr (1, 6), .inr (0, 6), .inr (0, 6), .inr (0, 6), .inr (1, 6), .inl (4, [none, none, none, none, some 137, some 138, some 139, some 140, some 141, some 142, some 143]), .inr (0, 6), .inr (0, 6), .inr (1, 6), .inr (0, 6), .inr (0, 6), .inr (0, 6), .inr (1, 6), .inl (6, [some 145, some 146, some 147, none]), .inr (0, 80), .inr (0, 80), .inr (0, 6), .inl (0, [some 5, some 13, some 144, some 149, some 150, none, none, none]), .inr (0, 32), .inr (0, 8), .inl (6, [some 152, some 153, some 154, none]), .inr (0, 80), .inr (0, 80), .inr (0, 6), .inl (0, [some 5, some 13, some 151, some 156, some 157, none, none, none]), .inr (0, 32), .inr (0, 8), .inl (9, [some 5, some 13, some 148, some 159, some 160, some 161, some 162, none, none]), .inr (0, 36), .inr (0, 6), .inr (0, 6), .inr (0, 6), .inl (1, [some 164, none]), .inr (0, 33489), .inl (10, [some 166, some 167, some 168, some 169, some 170, some 171, some 172, none]), .inr (0, 30), .inr (0, 30), .inr (0, 14), .inr (0, 225), .inr (0, 15), .inr (0, 225), .inr (0, 15), .inl (2, [some 5, some 13, some 148, some 174, some 175, none, none, none, none]), .inr (0, 6), .inr (1, 32000), .inr (0, 160), .inl (12, [some 178, none, some 179, some 180, none, some 181, some 182, none, some 183, none, none, some 1000, none, none, none, none, some 184, some 1001, none, some 186, none, some 187, some 188, none, some 189, none, none, some 190, none, some 191, some 192, some 193, none, none, some 194, none, some 195, some 196, none, some 197, none, some 198, some 199, none, some 200, some 201, none, some 202, none, some 203, some 204, some 205]), .inr (0, 51), .inr (0, 6), .inr (0, 6), .inr (0, 40), .inr (2, 80), .inr (0, 20), .inr (0, 40), .inr (2, 40), .inr (2, 40), .inr (0, 6), .inr (0, 612), .inr (0, 51), .inr (0, 320), .inr (0, 8), .inr (0, 6), .inr (0, 6), .inr (3, 37210), .inr (0, 30), .inr (0, 30), .inr (0, 225), .inr (0, 15), .inr (0, 6), .inr (0, 32), .inr (3, 10000), .inr (0, 51), .inr (0, 102), .inr (3, 2), .inr (0, 2)]
def li_N : Nat := 206
def li_sh (i : Nat) : li_S := (li_tab[i]?).getD (.inr (0, 0))
/-! THE LITE MACHINE. A state: ints of objects and of int-like arrays (by cell and place), longs of arrays, references that change. -/
abbrev li_M : Type := (Nat → Nat → Int32) × (Nat → Nat → Int64) × (Nat → Option Nat)
/-- the classes' numbers and slots; the array classes; the cells' addresses -/
abbrev li_Z : Type := va_G × (Nat → ClassId) × (Nat → Nat)
def li_rv (Z : li_Z) (M : li_M) (j : Nat) : Value := if j < 1000 then .ref (Z.2.2 j) else va_rf ((M.2.2 (j - 1000)).map Z.2.2)
def li_ob (Z : li_Z) (M : li_M) (i : Nat) : Nat → List (Option Nat) → List Value
  | _, [] => []
  | k, o :: r => (match o with
    | none => Value.int (M.1 i k)
    | some j => li_rv Z M j) :: li_ob Z M i (k + 1) r
def li_ar (Z : li_Z) (M : li_M) (i t : Nat) : (Nat → Int32) ⊕ (Nat → Int64) ⊕ (Nat → UInt32) ⊕ (Nat → UInt64) ⊕ (Nat → Option Nat) :=
  if t < 100 then (if t = 1 then .inr (.inl (M.2.1 i)) else .inl (M.1 i)) else .inr (.inr (.inr (.inr (fun j => some (Z.2.2 (t - 100 + 8 * j))))))
def li_ct (t : Nat) : Nat := if t < 100 then t else 4
def li_cell (Z : li_Z) (M : li_M) (i : Nat) : va_E := match li_sh i with
  | .inl o => .inr (o.1, li_ob Z M i 0 o.2)
  | .inr a => .inl (Z.2.1 (li_ct a.1), a.2, li_ar Z M i a.1)
def li_wd (Z : li_Z) (M : li_M) : va_W := (List.range li_N).map fun i => (Z.2.2 i, li_cell Z M i)
def li_tys (Z : li_Z) : List (ClassId × FieldType) := [(Z.2.1 0, .int), (Z.2.1 1, .long), (Z.2.1 2, .byte), (Z.2.1 3, .boolean), (Z.2.1 4, .object "ClockForTalk$Ledger")]
def li_H (Z : li_Z) (M : li_M) (H : Heap) : Prop := va_P Z.1 vwCl (li_wd Z M) H
def li_dis (Z : li_Z) : Prop := ∀ i j, i < li_N → j < li_N → Z.2.2 i = Z.2.2 j → i = j
def li_A (Z : li_Z) : Nat → Prop := fun q => ∃ i, i < li_N ∧ q = Z.2.2 i
theorem li_get {Z : li_Z} {M : li_M} {i : Nat} (h : i < li_N) : (li_wd Z M)[i]? = some (Z.2.2 i, li_cell Z M i) := by
  simp [li_wd, h]
theorem li_get' {Z : li_Z} {M : li_M} {i : Nat} {q : Nat × va_E} (h : (li_wd Z M)[i]? = some q) : i < li_N ∧ q = (Z.2.2 i, li_cell Z M i) := by
  by_cases hi : i < li_N
  · rw [li_get hi] at h
    exact ⟨hi, (Option.some.inj h).symm⟩
  · simp [li_wd, hi] at h
theorem li_D {Z : li_Z} {M : li_M} (hd : li_dis Z) : va_D (li_A Z) (li_wd Z M) := by
  refine ⟨fun i j p q hi hj hpq => ?_, fun k q hk => ?_⟩
  · obtain ⟨a1, rfl⟩ := li_get' hi
    obtain ⟨a2, rfl⟩ := li_get' hj
    exact hd i j a1 a2 hpq
  · obtain ⟨a1, rfl⟩ := li_get' hk
    exact ⟨k, a1, rfl⟩
theorem li_set {Z : li_Z} {M M' : li_M} {i : Nat} (hi : i < li_N) (h : ∀ j, j ≠ i → li_cell Z M' j = li_cell Z M j) : (li_wd Z M).set i (Z.2.2 i, li_cell Z M' i) = li_wd Z M' := by
  apply List.ext_getElem?
  intro k
  by_cases hk : k = i
  · subst hk
    rw [List.getElem?_set_self (by simp [li_wd, hi]), li_get hi]
  · rw [List.getElem?_set_ne (Ne.symm hk)]
    by_cases hl : k < li_N
    · rw [li_get hl, li_get hl, h k hk]
    · simp [li_wd, hl]
/-- an int of a cell is set; a long; a reference -/
def li_ui (M : li_M) (i k : Nat) (x : Int32) : li_M := (fun a b => if a = i then (if b = k then x else M.1 a b) else M.1 a b, M.2.1, M.2.2)
def li_ul (M : li_M) (i k : Nat) (x : Int64) : li_M := (M.1, fun a b => if a = i then (if b = k then x else M.2.1 a b) else M.2.1 a b, M.2.2)
def li_ur (M : li_M) (r : Nat) (x : Option Nat) : li_M := (M.1, M.2.1, fun a => if a = r then x else M.2.2 a)
theorem li_ui_at (M : li_M) (i k : Nat) (x : Int32) (a b : Nat) : (li_ui M i k x).1 a b = if a = i then (if b = k then x else M.1 a b) else M.1 a b := rfl
theorem li_ul_at (M : li_M) (i k : Nat) (x : Int64) (a b : Nat) : (li_ul M i k x).2.1 a b = if a = i then (if b = k then x else M.2.1 a b) else M.2.1 a b := rfl
theorem li_rv_ui {Z : li_Z} {M : li_M} {i k : Nat} {x : Int32} (j : Nat) : li_rv Z (li_ui M i k x) j = li_rv Z M j := rfl
theorem li_ob_ne {Z : li_Z} {M : li_M} {i k j : Nat} {x : Int32} (h : j ≠ i) : ∀ (sl : List (Option Nat)) (n : Nat), li_ob Z (li_ui M i k x) j n sl = li_ob Z M j n sl := by
  intro sl
  induction sl with
  | nil => intro n; rfl
  | cons o r ih =>
    intro n
    cases o with
    | none => simp only [li_ob, ih, li_ui_at, if_neg h]
    | some q => simp [li_ob, ih, li_rv_ui]
theorem li_ob_len {Z : li_Z} {M : li_M} {i : Nat} : ∀ (sl : List (Option Nat)) (n : Nat), (li_ob Z M i n sl).length = sl.length := by
  intro sl
  induction sl with
  | nil => intro n; rfl
  | cons o r ih => intro n; simp [li_ob, ih]
theorem li_ob_get {Z : li_Z} {M : li_M} {i : Nat} : ∀ (sl : List (Option Nat)) (n k : Nat), (li_ob Z M i n sl)[k]? = (sl[k]?).map (fun o => match o with
    | none => Value.int (M.1 i (n + k))
    | some j => li_rv Z M j) := by
  intro sl
  induction sl with
  | nil => intro n k; simp [li_ob]
  | cons o r ih =>
    intro n k
    cases k with
    | zero => simp [li_ob]
    | succ k =>
      simp only [li_ob, List.getElem?_cons_succ, ih]
      rw [show n + 1 + k = n + (k + 1) by omega]
theorem li_ob_ge {Z : li_Z} {M : li_M} {i k : Nat} {x : Int32} : ∀ (sl : List (Option Nat)) (n : Nat), k < n → li_ob Z (li_ui M i k x) i n sl = li_ob Z M i n sl := by
  intro sl
  induction sl with
  | nil => intro n _; rfl
  | cons o r ih =>
    intro n hn
    cases o with
    | none => simp only [li_ob, ih (n + 1) (by omega), li_ui_at, if_neg (show n ≠ k by omega), ite_self]
    | some q => simp [li_ob, ih (n + 1) (by omega), li_rv_ui]
theorem li_ob_set {Z : li_Z} {M : li_M} {i : Nat} {x : Int32} : ∀ (sl : List (Option Nat)) (n k : Nat), sl[k]? = some none → li_ob Z (li_ui M i (n + k) x) i n sl = (li_ob Z M i n sl).set k (.int x) := by
  intro sl
  induction sl with
  | nil => intro n k h; simp at h
  | cons o r ih =>
    intro n k h
    cases k with
    | zero =>
      simp only [List.getElem?_cons_zero, Option.some.injEq] at h
      subst h
      simp only [Nat.add_zero, li_ob, List.set_cons_zero]
      rw [li_ob_ge r (n + 1) (by omega)]
      simp [li_ui]
    | succ k =>
      have h1 := ih (n + 1) k (by simpa using h)
      rw [show n + 1 + k = n + (k + 1) by omega] at h1
      cases o with
      | none => simp only [li_ob, h1, li_ui_at, List.set_cons_succ, if_neg (show n ≠ n + (k + 1) by omega), ite_self]
      | some q => simp [li_ob, h1, li_rv_ui]
theorem li_ar_ui {Z : li_Z} {M : li_M} {i k j t : Nat} {x : Int32} (h : j ≠ i) : li_ar Z (li_ui M i k x) j t = li_ar Z M j t := by
  simp [li_ar, li_ui, h]
theorem li_cell_ne {Z : li_Z} {M : li_M} {i k : Nat} {x : Int32} (j : Nat) (h : j ≠ i) : li_cell Z (li_ui M i k x) j = li_cell Z M j := by
  unfold li_cell
  cases li_sh j with
  | inl o => simp only [li_ob_ne h]
  | inr a => simp only [li_ar_ui h]
theorem li_ob_ul {Z : li_Z} {M : li_M} {i k j : Nat} {x : Int64} : ∀ (sl : List (Option Nat)) (n : Nat), li_ob Z (li_ul M i k x) j n sl = li_ob Z M j n sl := by
  intro sl
  induction sl with
  | nil => intro n; rfl
  | cons o r ih =>
    intro n
    cases o with
    | none =>
      simp only [li_ob, ih]
      rfl
    | some q =>
      simp only [li_ob, ih]
      rfl
theorem li_cell_neL {Z : li_Z} {M : li_M} {i k : Nat} {x : Int64} (j : Nat) (h : j ≠ i) : li_cell Z (li_ul M i k x) j = li_cell Z M j := by
  unfold li_cell
  cases li_sh j with
  | inl o => simp only [li_ob_ul]
  | inr a => simp [li_ar, li_ul, h]
/-- a method: its name, code, locals, type -/
abbrev li_Y : Type := MethodName × ByteArray × Nat × Option FieldType
def li_rm (d : Nat) : Room := { frames := d, cells := 0, slots := 0, locals := 60 * d }
/-- what lies outside the world and stays: the static row, the texts -/
def li_rf (j : Nat) : Int32 := if j = 0 then 1 else if j = 1 then 3 else if j = 2 then 9 else 99
def li_so (i : Nat) : String × Nat × String := if i = 0 then ("ClockForTalk$Rule", 48, "<>=") else if i = 1 then ("ClockForTalk$Rule", 74, "+-") else if i = 2 then ("ClockForTalk$Rule", 79, "*/") else ("ClockForTalk$Rule", 87, "lwscdh")
def li_len : List Nat := [3, 2, 2, 6]
def li_byt : List (List Int32) := [[60, 62, 61], [43, 45], [42, 47], [108, 119, 115, 99, 100, 104]]
def li_E (Z : li_Z) (U : State) (H : Heap) : Prop :=
  va_Z "ClockForTalk$Costs" "REACH" "[I" (.ref (Z.2.2 2000)) (li_A Z) U H ∧ va_T .int (Z.2.2 2000) 4 (fun j => .int (li_rf j)) (li_A Z) U H ∧
  vk_S 4 li_len li_byt (fun i => Z.2.2 (2100 + i)) (fun i => Z.2.2 (2200 + i)) (li_A Z) U H ∧ va_Z "java/lang/String" "COMPACT_STRINGS" "Z" (.int 1) (li_A Z) U H ∧ va_Zq "jdk/internal/util/Preconditions" "SIOOBE_FORMATTER" "Ljava/util/function/BiFunction;" (li_A Z) U H
theorem li_E.moved {Z : li_Z} {u U : State} {H : Heap} (hvm : u.vm.Alike U.vm) (h : li_E Z u H) : li_E Z U H :=
  ⟨va_Z.moved hvm h.1, va_T.moved hvm h.2.1, vk_S.moved hvm h.2.2.1, va_Z.moved hvm h.2.2.2.1, va_Zq.moved hvm h.2.2.2.2⟩
theorem li_E.kept {Z : li_Z} {U : State} {H H1 : Heap} (h : li_E Z U H) (hq : ∀ a : Nat, a < H.size → ¬ li_A Z a → H1[a]? = H[a]?) : li_E Z U H1 :=
  ⟨va_Z.kept h.1 hq, va_T.kept h.2.1 hq, vk_S.kept h.2.2.1 hq, va_Z.kept h.2.2.2.1 hq, va_Zq.kept h.2.2.2.2 hq⟩
def li_K (Z : li_Z) (s : State) : Prop := va_K Z.1 vwCl (li_tys Z) s ∧ li_dis Z ∧ (∀ w ∈ li_nw, va_Nw w s) ∧ li_E Z s s.heap ∧ ∀ i : Nat, i < 4 → vk_R (li_so i).1 (li_so i).2.1 (li_so i).2.2 (Z.2.2 (2100 + i)) s
def li_X (Y : li_Y) (p : Program) (s : State) (m : MethodId) (args : Array Value) (meth : Method) (c : Code) : Prop :=
  p.tables.exec = Jvm.exec ∧ c.code = Y.2.1 ∧ c.maxLocals = Y.2.2.1 ∧ s.vm.findClass Y.1.cls = some m.cls ∧ (∀ w ∈ li_ws, w.before args s = true) ∧ meth.sig.returnType = Y.2.2.2 ∧ meth.locks = false
def li_Q (Z : li_Z) (Q : Option Value → li_M → Prop) : Array Value → State → Outcome → State → Prop := fun _ st oc t => (∃ (r : Option Value) (M' : li_M), oc = .returned r ∧ Q r M' ∧ li_H Z M' t.heap) ∧ va_F (li_A Z) st t
/-- from this pc, with these locals and this stack, at this state, the method comes to its end with Q -/
def li_T (l : Launch) (Z : li_Z) (Y : li_Y) (d : Nat) (pc : Nat) (lo : List (Nat × Value)) (st : List Value) (M : li_M) (Q : Option Value → li_M → Prop) : Prop :=
  ∀ (p : Program) (e : Env) (s : State) (m : MethodId) (args : Array Value) (below : List Frame) (meth : Method) (c : Code), li_X Y p s m args meth c → li_K Z s →
    ∀ (H : Heap) (locs : List Loc) (ls : Array Slot), li_H Z M H → va_S (li_A Z) s.heap H locs → lv_has ls Y.2.2.1 lo →
      W p l e (li_rm d) s m args below meth c H locs 0 0 (MQ below (li_Q Z Q) args s 0 0 (li_A Z)) (F0 m pc ls st)
def li_wy (Y : li_Y) : List Cond := .code Y.1 Y.2.1 Y.2.2.1 Y.2.2.2 :: li_ws
def li_Met (l : Launch) (Z : li_Z) (Y : li_Y) (d : Nat) (av : List Value) (M : li_M) (Q : Option Value → li_M → Prop) : Prop :=
  Met l Y.1 (li_wy Y) (li_rm d) (va_Pc av (fun U => li_H Z M U.heap ∧ li_K Z U)) (li_Q Z Q) 0 0 (li_A Z)
theorem li_enter {l : Launch} {Z : li_Z} {Y : li_Y} {d : Nat} {av : List Value} {M : li_M} {Q : Option Value → li_M → Prop} (hy : plainName Y.1.cls = true) (hlen : (lg_sl av).length ≤ Y.2.2.1)
    (k : li_T l Z Y d 0 (lv_args 0 av) [] M Q) : li_Met l Z Y d av M Q := by
  refine Met.ofW (cc := Y.2.1) (maxL := Y.2.2.1) (ret := Y.2.2.2) hy rfl ?_
  intro p e s m args below meth c s₁ B hml hv
  obtain ⟨rfl, hH, hK⟩ := hv
  have hts := atoms_spec (ws := li_wy Y) B.pre
  have hl := lv_entry av (n := Y.2.2.1) hlen
  rw [lg_entry_eq]
  exact k p e s m _ below meth c ⟨B.exec, B.bytes, hml, findClass_of_methodNamed B.named, fun w hw => hts w (List.mem_cons_of_mem _ hw), B.returns, B.notSynchronized⟩ hK s.heap [] _ hH va_S.rf hl
theorem li_mono {l : Launch} {Z : li_Z} {Y : li_Y} {d : Nat} {av : List Value} {M : li_M} {Q Q' : Option Value → li_M → Prop} (h : ∀ r M', Q r M' → Q' r M') (hM : li_Met l Z Y d av M Q) : li_Met l Z Y d av M Q' := by
  intro p e a1 a2 a3 s m args below a4 a5 a6 a7
  obtain ⟨n, o, h1, h2, h3, h4, h5⟩ := hM p e a1 a2 a3 s m args below a4 a5 a6 a7
  refine ⟨n, o, h1, h2, h3, ?_, h5⟩
  obtain ⟨⟨r, M', e1, e2, e3⟩, e4⟩ := h4
  exact ⟨⟨r, M', e1, h _ _ e2, e3⟩, e4⟩
end
section
/-! THE STEPS: a row an instruction -/
section LIS
variable {l : Launch} {Z : li_Z} {Y : li_Y} {d pc : Nat} {lo lo' : List (Nat × Value)} {st : List Value} {M : li_M} {Q : Option Value → li_M → Prop}
theorem li_iload_n {k : Fin 4} {x : Int32} (q : Nat) (hd : decode Y.2.1 pc = .ok (.iload_n k, 1)) (hk : lo[q]? = some ((k : Nat), .int x)) (kk : li_T l Z Y d (pc + 1) lo (.int x :: st) M Q) : li_T l Z Y d pc lo (st) M Q :=
  fun p e s m args below meth c C K H locs ls hH hS hl => lv_iload_n C.1 C.2.1 hd rfl (lv_at hl q hk) (kk p e s m args below meth c C K H locs ls hH hS hl)
theorem li_iload {i : Nat} {x : Int32} (q : Nat) (hd : decode Y.2.1 pc = .ok (.iload i, 2)) (hk : lo[q]? = some (i, .int x)) (kk : li_T l Z Y d (pc + 2) lo (.int x :: st) M Q) : li_T l Z Y d pc lo (st) M Q :=
  fun p e s m args below meth c C K H locs ls hH hS hl => lv_iload C.1 C.2.1 hd (lv_at hl q hk) (kk p e s m args below meth c C K H locs ls hH hS hl)
theorem li_aload_n {k : Fin 4} {x : Nat} (q : Nat) (hd : decode Y.2.1 pc = .ok (.aload_n k, 1)) (hk : lo[q]? = some ((k : Nat), .ref x)) (kk : li_T l Z Y d (pc + 1) lo (.ref x :: st) M Q) : li_T l Z Y d pc lo (st) M Q :=
  fun p e s m args below meth c C K H locs ls hH hS hl => lv_aload_n C.1 C.2.1 hd rfl (lv_at hl q hk) (kk p e s m args below meth c C K H locs ls hH hS hl)
theorem li_aload {i : Nat} {x : Nat} (q : Nat) (hd : decode Y.2.1 pc = .ok (.aload i, 2)) (hk : lo[q]? = some (i, .ref x)) (kk : li_T l Z Y d (pc + 2) lo (.ref x :: st) M Q) : li_T l Z Y d pc lo (st) M Q :=
  fun p e s m args below meth c C K H locs ls hH hS hl => lv_aload C.1 C.2.1 hd (lv_at hl q hk) (kk p e s m args below meth c C K H locs ls hH hS hl)
theorem li_lload_n {k : Fin 4} {x : Int64} (q : Nat) (hd : decode Y.2.1 pc = .ok (.lload_n k, 1)) (hk : lo[q]? = some ((k : Nat), .long x)) (kk : li_T l Z Y d (pc + 1) lo (.long x :: st) M Q) : li_T l Z Y d pc lo (st) M Q :=
  fun p e s m args below meth c C K H locs ls hH hS hl => lv_lload_n C.1 C.2.1 hd rfl (lv_at hl q hk) (kk p e s m args below meth c C K H locs ls hH hS hl)
theorem li_lload {i : Nat} {x : Int64} (q : Nat) (hd : decode Y.2.1 pc = .ok (.lload i, 2)) (hk : lo[q]? = some (i, .long x)) (kk : li_T l Z Y d (pc + 2) lo (.long x :: st) M Q) : li_T l Z Y d pc lo (st) M Q :=
  fun p e s m args below meth c C K H locs ls hH hS hl => lv_lload C.1 C.2.1 hd (lv_at hl q hk) (kk p e s m args below meth c C K H locs ls hH hS hl)
theorem li_istore_n {k : Fin 4} {x : Int32} (lo' : List (Nat × Value)) (hd : decode Y.2.1 pc = .ok (.istore_n k, 1)) (hn : (k : Nat) < Y.2.2.1) (hl0 : ((k : Nat), Value.int x) :: lo.filter (fun q => !(q.1 == (k : Nat)) && !(q.1 + 1 == (k : Nat) && q.2.category == 2)) = lo') (kk : li_T l Z Y d (pc + 1) lo' (st) M Q) : li_T l Z Y d pc lo (.int x :: st) M Q :=
  fun p e s m args below meth c C K H locs ls hH hS hl => lv_istore_n C.1 C.2.1 hd rfl hl hn hl0 (fun _ hl => (kk p e s m args below meth c C K H locs _ hH hS hl))
theorem li_istore {i : Nat} {x : Int32} (lo' : List (Nat × Value)) (hd : decode Y.2.1 pc = .ok (.istore i, 2)) (hn : i < Y.2.2.1) (hl0 : (i, Value.int x) :: lo.filter (fun q => !(q.1 == i) && !(q.1 + 1 == i && q.2.category == 2)) = lo') (kk : li_T l Z Y d (pc + 2) lo' (st) M Q) : li_T l Z Y d pc lo (.int x :: st) M Q :=
  fun p e s m args below meth c C K H locs ls hH hS hl => lv_istore C.1 C.2.1 hd hl hn hl0 (fun _ hl => (kk p e s m args below meth c C K H locs _ hH hS hl))
theorem li_astore_n {k : Fin 4} {x : Nat} (lo' : List (Nat × Value)) (hd : decode Y.2.1 pc = .ok (.astore_n k, 1)) (hn : (k : Nat) < Y.2.2.1) (hl0 : ((k : Nat), Value.ref x) :: lo.filter (fun q => !(q.1 == (k : Nat)) && !(q.1 + 1 == (k : Nat) && q.2.category == 2)) = lo') (kk : li_T l Z Y d (pc + 1) lo' (st) M Q) : li_T l Z Y d pc lo (.ref x :: st) M Q :=
  fun p e s m args below meth c C K H locs ls hH hS hl => lv_astore_n C.1 C.2.1 hd rfl hl hn hl0 (fun _ hl => (kk p e s m args below meth c C K H locs _ hH hS hl))
theorem li_astore {i : Nat} {x : Nat} (lo' : List (Nat × Value)) (hd : decode Y.2.1 pc = .ok (.astore i, 2)) (hn : i < Y.2.2.1) (hl0 : (i, Value.ref x) :: lo.filter (fun q => !(q.1 == i) && !(q.1 + 1 == i && q.2.category == 2)) = lo') (kk : li_T l Z Y d (pc + 2) lo' (st) M Q) : li_T l Z Y d pc lo (.ref x :: st) M Q :=
  fun p e s m args below meth c C K H locs ls hH hS hl => lv_astore C.1 C.2.1 hd hl hn hl0 (fun _ hl => (kk p e s m args below meth c C K H locs _ hH hS hl))
theorem li_lstore_n {k : Fin 4} {x : Int64} (lo' : List (Nat × Value)) (hd : decode Y.2.1 pc = .ok (.lstore_n k, 1)) (hn : (k : Nat) + 1 < Y.2.2.1) (hl0 : ((k : Nat), Value.long x) :: lo.filter (fun q => !(q.1 == (k : Nat)) && (!(q.1 == (k : Nat) + 1) && !(q.1 + 1 == (k : Nat) && q.2.category == 2))) = lo') (kk : li_T l Z Y d (pc + 1) lo' (st) M Q) : li_T l Z Y d pc lo (.long x :: st) M Q :=
  fun p e s m args below meth c C K H locs ls hH hS hl => lv_lstore_n C.1 C.2.1 hd rfl hl hn hl0 (fun _ hl => (kk p e s m args below meth c C K H locs _ hH hS hl))
theorem li_lstore {i : Nat} {x : Int64} (lo' : List (Nat × Value)) (hd : decode Y.2.1 pc = .ok (.lstore i, 2)) (hn : i + 1 < Y.2.2.1) (hl0 : (i, Value.long x) :: lo.filter (fun q => !(q.1 == i) && (!(q.1 == i + 1) && !(q.1 + 1 == i && q.2.category == 2))) = lo') (kk : li_T l Z Y d (pc + 2) lo' (st) M Q) : li_T l Z Y d pc lo (.long x :: st) M Q :=
  fun p e s m args below meth c C K H locs ls hH hS hl => lv_lstore C.1 C.2.1 hd hl hn hl0 (fun _ hl => (kk p e s m args below meth c C K H locs _ hH hS hl))
theorem li_iinc {i : Nat} {n : Int} {x : Int32} (q : Nat) (lo' : List (Nat × Value)) (v : Int32) (hd : decode Y.2.1 pc = .ok (.iinc i n, 3)) (hk : lo[q]? = some (i, .int x)) (hv : x + Int32.ofInt n = v) (hn : i < Y.2.2.1) (hl0 : (i, Value.int v) :: lo.filter (fun q => !(q.1 == i) && !(q.1 + 1 == i && q.2.category == 2)) = lo') (kk : li_T l Z Y d (pc + 3) lo' st M Q) : li_T l Z Y d pc lo st M Q :=
  fun p e s m args below meth c C K H locs ls hH hS hl => lv_iinc C.1 C.2.1 hd hl hk hv hn hl0 (fun _ hl => (kk p e s m args below meth c C K H locs _ hH hS hl))
theorem li_iconst {n : Int} (v : Int32) (hd : decode Y.2.1 pc = .ok (.iconst n, 1)) (hv : Int32.ofInt n = v) (kk : li_T l Z Y d (pc + 1) lo (.int v :: st) M Q) : li_T l Z Y d pc lo (st) M Q :=
  fun p e s m args below meth c C K H locs ls hH hS hl => lv_iconst C.1 C.2.1 hd hv (kk p e s m args below meth c C K H locs ls hH hS hl)
theorem li_bipush {n : Int} (v : Int32) (hd : decode Y.2.1 pc = .ok (.bipush n, 2)) (hv : (Int8.ofInt n).toInt32 = v) (kk : li_T l Z Y d (pc + 2) lo (.int v :: st) M Q) : li_T l Z Y d pc lo (st) M Q :=
  fun p e s m args below meth c C K H locs ls hH hS hl => lv_bipush C.1 C.2.1 hd hv (kk p e s m args below meth c C K H locs ls hH hS hl)
theorem li_sipush {n : Int} (v : Int32) (hd : decode Y.2.1 pc = .ok (.sipush n, 3)) (hv : (Int16.ofInt n).toInt32 = v) (kk : li_T l Z Y d (pc + 3) lo (.int v :: st) M Q) : li_T l Z Y d pc lo (st) M Q :=
  fun p e s m args below meth c C K H locs ls hH hS hl => lv_sipush C.1 C.2.1 hd hv (kk p e s m args below meth c C K H locs ls hH hS hl)
theorem li_lconst {n : Fin 2} (v : Int64) (hd : decode Y.2.1 pc = .ok (.lconst n, 1)) (hv : Int64.ofNat (n : Nat) = v) (kk : li_T l Z Y d (pc + 1) lo (.long v :: st) M Q) : li_T l Z Y d pc lo (st) M Q :=
  fun p e s m args below meth c C K H locs ls hH hS hl => lv_lconst C.1 C.2.1 hd hv (kk p e s m args below meth c C K H locs ls hH hS hl)
theorem li_ldc {ix : Nat} (v : Int32) (hd : decode Y.2.1 pc = .ok (.ldc ix, 2)) (hw : Cond.constant Y.1.cls ix v ∈ li_ws) (kk : li_T l Z Y d (pc + 2) lo (.int v :: st) M Q) : li_T l Z Y d pc lo (st) M Q :=
  fun p e s m args below meth c C K H locs ls hH hS hl => lv_ldc C.1 C.2.1 C.2.2.2.1 (C.2.2.2.2.1 _ hw) hd (kk p e s m args below meth c C K H locs ls hH hS hl)
theorem li_ldcw {ix : Nat} (v : Int32) (hd : decode Y.2.1 pc = .ok (.ldc_w ix, 3)) (hw : Cond.constant Y.1.cls ix v ∈ li_ws) (kk : li_T l Z Y d (pc + 3) lo (.int v :: st) M Q) : li_T l Z Y d pc lo (st) M Q :=
  fun p e s m args below meth c C K H locs ls hH hS hl => lv_ldcw C.1 C.2.1 C.2.2.2.1 (C.2.2.2.2.1 _ hw) hd (kk p e s m args below meth c C K H locs ls hH hS hl)
theorem li_ldc2 {ix : Nat} (v : Int64) (hd : decode Y.2.1 pc = .ok (.ldc2_w ix, 3)) (hw : Cond.constantLong Y.1.cls ix v ∈ li_ws) (kk : li_T l Z Y d (pc + 3) lo (.long v :: st) M Q) : li_T l Z Y d pc lo (st) M Q :=
  fun p e s m args below meth c C K H locs ls hH hS hl => lv_ldc2 C.1 C.2.1 C.2.2.2.1 (C.2.2.2.2.1 _ hw) hd (kk p e s m args below meth c C K H locs ls hH hS hl)
theorem li_iadd {x y : Int32} (hd : decode Y.2.1 pc = .ok (.iadd, 1))  (kk : li_T l Z Y d (pc + 1) lo (.int (x + y) :: st) M Q) : li_T l Z Y d pc lo (.int y :: .int x :: st) M Q :=
  fun p e s m args below meth c C K H locs ls hH hS hl => lv_iadd C.1 C.2.1 hd (kk p e s m args below meth c C K H locs ls hH hS hl)
theorem li_isub {x y : Int32} (hd : decode Y.2.1 pc = .ok (.isub, 1))  (kk : li_T l Z Y d (pc + 1) lo (.int (x - y) :: st) M Q) : li_T l Z Y d pc lo (.int y :: .int x :: st) M Q :=
  fun p e s m args below meth c C K H locs ls hH hS hl => lv_isub C.1 C.2.1 hd (kk p e s m args below meth c C K H locs ls hH hS hl)
theorem li_imul {x y : Int32} (hd : decode Y.2.1 pc = .ok (.imul, 1))  (kk : li_T l Z Y d (pc + 1) lo (.int (x * y) :: st) M Q) : li_T l Z Y d pc lo (.int y :: .int x :: st) M Q :=
  fun p e s m args below meth c C K H locs ls hH hS hl => lv_imul C.1 C.2.1 hd (kk p e s m args below meth c C K H locs ls hH hS hl)
theorem li_iand {x y : Int32} (hd : decode Y.2.1 pc = .ok (.iand, 1))  (kk : li_T l Z Y d (pc + 1) lo (.int (x &&& y) :: st) M Q) : li_T l Z Y d pc lo (.int y :: .int x :: st) M Q :=
  fun p e s m args below meth c C K H locs ls hH hS hl => lv_iand C.1 C.2.1 hd (kk p e s m args below meth c C K H locs ls hH hS hl)
theorem li_ior {x y : Int32} (hd : decode Y.2.1 pc = .ok (.ior, 1))  (kk : li_T l Z Y d (pc + 1) lo (.int (x ||| y) :: st) M Q) : li_T l Z Y d pc lo (.int y :: .int x :: st) M Q :=
  fun p e s m args below meth c C K H locs ls hH hS hl => lv_ior C.1 C.2.1 hd (kk p e s m args below meth c C K H locs ls hH hS hl)
theorem li_ixor {x y : Int32} (hd : decode Y.2.1 pc = .ok (.ixor, 1))  (kk : li_T l Z Y d (pc + 1) lo (.int (x ^^^ y) :: st) M Q) : li_T l Z Y d pc lo (.int y :: .int x :: st) M Q :=
  fun p e s m args below meth c C K H locs ls hH hS hl => lv_ixor C.1 C.2.1 hd (kk p e s m args below meth c C K H locs ls hH hS hl)
theorem li_ladd {x y : Int64} (hd : decode Y.2.1 pc = .ok (.ladd, 1))  (kk : li_T l Z Y d (pc + 1) lo (.long (x + y) :: st) M Q) : li_T l Z Y d pc lo (.long y :: .long x :: st) M Q :=
  fun p e s m args below meth c C K H locs ls hH hS hl => lv_ladd C.1 C.2.1 hd (kk p e s m args below meth c C K H locs ls hH hS hl)
theorem li_lsub {x y : Int64} (hd : decode Y.2.1 pc = .ok (.lsub, 1))  (kk : li_T l Z Y d (pc + 1) lo (.long (x - y) :: st) M Q) : li_T l Z Y d pc lo (.long y :: .long x :: st) M Q :=
  fun p e s m args below meth c C K H locs ls hH hS hl => lv_lsub C.1 C.2.1 hd (kk p e s m args below meth c C K H locs ls hH hS hl)
theorem li_land {x y : Int64} (hd : decode Y.2.1 pc = .ok (.land, 1))  (kk : li_T l Z Y d (pc + 1) lo (.long (x &&& y) :: st) M Q) : li_T l Z Y d pc lo (.long y :: .long x :: st) M Q :=
  fun p e s m args below meth c C K H locs ls hH hS hl => lv_land C.1 C.2.1 hd (kk p e s m args below meth c C K H locs ls hH hS hl)
theorem li_lor {x y : Int64} (hd : decode Y.2.1 pc = .ok (.lor, 1))  (kk : li_T l Z Y d (pc + 1) lo (.long (x ||| y) :: st) M Q) : li_T l Z Y d pc lo (.long y :: .long x :: st) M Q :=
  fun p e s m args below meth c C K H locs ls hH hS hl => lv_lor C.1 C.2.1 hd (kk p e s m args below meth c C K H locs ls hH hS hl)
theorem li_ineg {x : Int32} (hd : decode Y.2.1 pc = .ok (.ineg, 1))  (kk : li_T l Z Y d (pc + 1) lo (.int (-x) :: st) M Q) : li_T l Z Y d pc lo (.int x :: st) M Q :=
  fun p e s m args below meth c C K H locs ls hH hS hl => lv_ineg C.1 C.2.1 hd (kk p e s m args below meth c C K H locs ls hH hS hl)
theorem li_idiv {x y : Int32} (hd : decode Y.2.1 pc = .ok (.idiv, 1)) (hne : ¬ y = 0) (kk : li_T l Z Y d (pc + 1) lo (.int (x / y) :: st) M Q) : li_T l Z Y d pc lo (.int y :: .int x :: st) M Q :=
  fun p e s m args below meth c C K H locs ls hH hS hl => lv_idiv C.1 C.2.1 hd hne (kk p e s m args below meth c C K H locs ls hH hS hl)
theorem li_irem {x y : Int32} (hd : decode Y.2.1 pc = .ok (.irem, 1)) (hne : ¬ y = 0) (kk : li_T l Z Y d (pc + 1) lo (.int (x - x / y * y) :: st) M Q) : li_T l Z Y d pc lo (.int y :: .int x :: st) M Q :=
  fun p e s m args below meth c C K H locs ls hH hS hl => lv_irem C.1 C.2.1 hd hne (kk p e s m args below meth c C K H locs ls hH hS hl)
theorem li_ldiv {x y : Int64} (hd : decode Y.2.1 pc = .ok (.ldiv, 1)) (hne : ¬ y = 0) (kk : li_T l Z Y d (pc + 1) lo (.long (x / y) :: st) M Q) : li_T l Z Y d pc lo (.long y :: .long x :: st) M Q :=
  fun p e s m args below meth c C K H locs ls hH hS hl => lv_ldiv C.1 C.2.1 hd hne (kk p e s m args below meth c C K H locs ls hH hS hl)
theorem li_ishl {x y : Int32} (hd : decode Y.2.1 pc = .ok (.ishl, 1))  (kk : li_T l Z Y d (pc + 1) lo (.int (x <<< (y &&& 31)) :: st) M Q) : li_T l Z Y d pc lo (.int y :: .int x :: st) M Q :=
  fun p e s m args below meth c C K H locs ls hH hS hl => lv_ishl C.1 C.2.1 hd (kk p e s m args below meth c C K H locs ls hH hS hl)
theorem li_ishr {x y : Int32} (hd : decode Y.2.1 pc = .ok (.ishr, 1))  (kk : li_T l Z Y d (pc + 1) lo (.int (x >>> (y &&& 31)) :: st) M Q) : li_T l Z Y d pc lo (.int y :: .int x :: st) M Q :=
  fun p e s m args below meth c C K H locs ls hH hS hl => lv_ishr C.1 C.2.1 hd (kk p e s m args below meth c C K H locs ls hH hS hl)
theorem li_iushr {x y : Int32} (hd : decode Y.2.1 pc = .ok (.iushr, 1))  (kk : li_T l Z Y d (pc + 1) lo (.int ((x.toUInt32 >>> (y.toUInt32 &&& Int32.toUInt32 31)).toInt32) :: st) M Q) : li_T l Z Y d pc lo (.int y :: .int x :: st) M Q :=
  fun p e s m args below meth c C K H locs ls hH hS hl => lv_iushr C.1 C.2.1 hd rfl (kk p e s m args below meth c C K H locs ls hH hS hl)
theorem li_lshl {x : Int64} {y : Int32} (hd : decode Y.2.1 pc = .ok (.lshl, 1))  (kk : li_T l Z Y d (pc + 1) lo (.long (x <<< (y.toInt64 &&& 63)) :: st) M Q) : li_T l Z Y d pc lo (.int y :: .long x :: st) M Q :=
  fun p e s m args below meth c C K H locs ls hH hS hl => lv_lshl C.1 C.2.1 hd rfl (kk p e s m args below meth c C K H locs ls hH hS hl)
theorem li_lushr {x : Int64} {y : Int32} (hd : decode Y.2.1 pc = .ok (.lushr, 1))  (kk : li_T l Z Y d (pc + 1) lo (.long ((x.toUInt64 >>> (y.toInt64.toUInt64 &&& Int64.toUInt64 63)).toInt64) :: st) M Q) : li_T l Z Y d pc lo (.int y :: .long x :: st) M Q :=
  fun p e s m args below meth c C K H locs ls hH hS hl => lv_lushr C.1 C.2.1 hd rfl (kk p e s m args below meth c C K H locs ls hH hS hl)
theorem li_i2l {x : Int32} (hd : decode Y.2.1 pc = .ok (.i2l, 1))  (kk : li_T l Z Y d (pc + 1) lo (.long x.toInt64 :: st) M Q) : li_T l Z Y d pc lo (.int x :: st) M Q :=
  fun p e s m args below meth c C K H locs ls hH hS hl => lv_i2l C.1 C.2.1 hd rfl (kk p e s m args below meth c C K H locs ls hH hS hl)
theorem li_l2i {x : Int64} (hd : decode Y.2.1 pc = .ok (.l2i, 1))  (kk : li_T l Z Y d (pc + 1) lo (.int x.toInt32 :: st) M Q) : li_T l Z Y d pc lo (.long x :: st) M Q :=
  fun p e s m args below meth c C K H locs ls hH hS hl => lv_l2i C.1 C.2.1 hd rfl (kk p e s m args below meth c C K H locs ls hH hS hl)
theorem li_i2b {x : Int32} (hd : decode Y.2.1 pc = .ok (.i2b, 1))  (kk : li_T l Z Y d (pc + 1) lo (.int x.toInt8.toInt32 :: st) M Q) : li_T l Z Y d pc lo (.int x :: st) M Q :=
  fun p e s m args below meth c C K H locs ls hH hS hl => lv_i2b C.1 C.2.1 hd rfl (kk p e s m args below meth c C K H locs ls hH hS hl)
theorem li_i2s {x : Int32} (hd : decode Y.2.1 pc = .ok (.i2s, 1))  (kk : li_T l Z Y d (pc + 1) lo (.int x.toInt16.toInt32 :: st) M Q) : li_T l Z Y d pc lo (.int x :: st) M Q :=
  fun p e s m args below meth c C K H locs ls hH hS hl => lv_i2s C.1 C.2.1 hd rfl (kk p e s m args below meth c C K H locs ls hH hS hl)
theorem li_i2c {x : Int32} (hd : decode Y.2.1 pc = .ok (.i2c, 1))  (kk : li_T l Z Y d (pc + 1) lo (.int (x.toUInt32 % 65536).toInt32 :: st) M Q) : li_T l Z Y d pc lo (.int x :: st) M Q :=
  fun p e s m args below meth c C K H locs ls hH hS hl => lv_i2c C.1 C.2.1 hd rfl (kk p e s m args below meth c C K H locs ls hH hS hl)
theorem li_lcmp {x y : Int64} (hd : decode Y.2.1 pc = .ok (.lcmp, 1))  (kk : li_T l Z Y d (pc + 1) lo (.int (lg_cmp x y) :: st) M Q) : li_T l Z Y d pc lo (.long y :: .long x :: st) M Q :=
  fun p e s m args below meth c C K H locs ls hH hS hl => W.lcmp C.1 C.2.1 hd (kk p e s m args below meth c C K H locs ls hH hS hl)
theorem li_dup {v : Value} (hd : decode Y.2.1 pc = .ok (.dup, 1)) (hv : v.category = 1) (kk : li_T l Z Y d (pc + 1) lo (v :: v :: st) M Q) : li_T l Z Y d pc lo (v :: st) M Q :=
  fun p e s m args below meth c C K H locs ls hH hS hl => lv_dup C.1 C.2.1 hd hv (kk p e s m args below meth c C K H locs ls hH hS hl)
theorem li_pop {v : Value} (hd : decode Y.2.1 pc = .ok (.pop, 1)) (hv : v.category = 1) (kk : li_T l Z Y d (pc + 1) lo (st) M Q) : li_T l Z Y d pc lo (v :: st) M Q :=
  fun p e s m args below meth c C K H locs ls hH hS hl => lv_pop C.1 C.2.1 hd hv (kk p e s m args below meth c C K H locs ls hH hS hl)
theorem li_dup_x1 {v w : Value} (hd : decode Y.2.1 pc = .ok (.dup_x1, 1)) (hv : v.category = 1) (hw : w.category = 1) (kk : li_T l Z Y d (pc + 1) lo (v :: w :: v :: st) M Q) : li_T l Z Y d pc lo (v :: w :: st) M Q :=
  fun p e s m args below meth c C K H locs ls hH hS hl => lv_dup_x1 C.1 C.2.1 hd hv hw (kk p e s m args below meth c C K H locs ls hH hS hl)
theorem li_dup2 {v w : Value} (hd : decode Y.2.1 pc = .ok (.dup2, 1)) (hv : v.category = 1) (hw : w.category = 1) (kk : li_T l Z Y d (pc + 1) lo (v :: w :: v :: w :: st) M Q) : li_T l Z Y d pc lo (v :: w :: st) M Q :=
  fun p e s m args below meth c C K H locs ls hH hS hl => lv_dup2_11 C.1 C.2.1 hd hv hw (kk p e s m args below meth c C K H locs ls hH hS hl)
theorem li_goto {off : Int} (tgt : Nat) (hd : decode Y.2.1 pc = .ok (.goto off, 3)) (ht : (pc : Int) + off = (tgt : Int)) (kk : li_T l Z Y d tgt lo st M Q) : li_T l Z Y d pc lo st M Q :=
  fun p e s m args below meth c C K H locs ls hH hS hl => lv_goto C.1 C.2.1 hd ht (kk p e s m args below meth c C K H locs ls hH hS hl)
theorem li_icmp_eq {x y : Int32} {off : Int} (tgt : Nat) (hd : decode Y.2.1 pc = .ok (.if_icmp .eq off, 3)) (ht : (pc : Int) + off = (tgt : Int)) (kt : x = y → li_T l Z Y d tgt lo st M Q) (kf : ¬ (x = y) → li_T l Z Y d (pc + 3) lo st M Q) : li_T l Z Y d pc lo (.int y :: .int x :: st) M Q :=
  fun p e s m args below meth c C K H locs ls hH hS hl => lv_icmp_eq C.1 C.2.1 hd ht (fun h => kt h p e s m args below meth c C K H locs ls hH hS hl) (fun h => kf h p e s m args below meth c C K H locs ls hH hS hl)
theorem li_if_eq {x : Int32} {off : Int} (tgt : Nat) (hd : decode Y.2.1 pc = .ok (.ifCond .eq off, 3)) (ht : (pc : Int) + off = (tgt : Int)) (kt : x = 0 → li_T l Z Y d tgt lo st M Q) (kf : ¬ (x = 0) → li_T l Z Y d (pc + 3) lo st M Q) : li_T l Z Y d pc lo (.int x :: st) M Q :=
  fun p e s m args below meth c C K H locs ls hH hS hl => lv_if_eq C.1 C.2.1 hd ht (fun h => kt h p e s m args below meth c C K H locs ls hH hS hl) (fun h => kf h p e s m args below meth c C K H locs ls hH hS hl)
theorem li_icmp_ne {x y : Int32} {off : Int} (tgt : Nat) (hd : decode Y.2.1 pc = .ok (.if_icmp .ne off, 3)) (ht : (pc : Int) + off = (tgt : Int)) (kt : x ≠ y → li_T l Z Y d tgt lo st M Q) (kf : x = y → li_T l Z Y d (pc + 3) lo st M Q) : li_T l Z Y d pc lo (.int y :: .int x :: st) M Q :=
  fun p e s m args below meth c C K H locs ls hH hS hl => lv_icmp_ne C.1 C.2.1 hd ht (fun h => kt h p e s m args below meth c C K H locs ls hH hS hl) (fun h => kf h p e s m args below meth c C K H locs ls hH hS hl)
theorem li_if_ne {x : Int32} {off : Int} (tgt : Nat) (hd : decode Y.2.1 pc = .ok (.ifCond .ne off, 3)) (ht : (pc : Int) + off = (tgt : Int)) (kt : x ≠ 0 → li_T l Z Y d tgt lo st M Q) (kf : x = 0 → li_T l Z Y d (pc + 3) lo st M Q) : li_T l Z Y d pc lo (.int x :: st) M Q :=
  fun p e s m args below meth c C K H locs ls hH hS hl => lv_if_ne C.1 C.2.1 hd ht (fun h => kt h p e s m args below meth c C K H locs ls hH hS hl) (fun h => kf h p e s m args below meth c C K H locs ls hH hS hl)
theorem li_icmp_lt {x y : Int32} {off : Int} (tgt : Nat) (hd : decode Y.2.1 pc = .ok (.if_icmp .lt off, 3)) (ht : (pc : Int) + off = (tgt : Int)) (kt : x < y → li_T l Z Y d tgt lo st M Q) (kf : ¬ (x < y) → li_T l Z Y d (pc + 3) lo st M Q) : li_T l Z Y d pc lo (.int y :: .int x :: st) M Q :=
  fun p e s m args below meth c C K H locs ls hH hS hl => lv_icmp_lt C.1 C.2.1 hd ht (fun h => kt h p e s m args below meth c C K H locs ls hH hS hl) (fun h => kf h p e s m args below meth c C K H locs ls hH hS hl)
theorem li_if_lt {x : Int32} {off : Int} (tgt : Nat) (hd : decode Y.2.1 pc = .ok (.ifCond .lt off, 3)) (ht : (pc : Int) + off = (tgt : Int)) (kt : x < 0 → li_T l Z Y d tgt lo st M Q) (kf : ¬ (x < 0) → li_T l Z Y d (pc + 3) lo st M Q) : li_T l Z Y d pc lo (.int x :: st) M Q :=
  fun p e s m args below meth c C K H locs ls hH hS hl => lv_if_lt C.1 C.2.1 hd ht (fun h => kt h p e s m args below meth c C K H locs ls hH hS hl) (fun h => kf h p e s m args below meth c C K H locs ls hH hS hl)
theorem li_icmp_ge {x y : Int32} {off : Int} (tgt : Nat) (hd : decode Y.2.1 pc = .ok (.if_icmp .ge off, 3)) (ht : (pc : Int) + off = (tgt : Int)) (kt : y ≤ x → li_T l Z Y d tgt lo st M Q) (kf : ¬ (y ≤ x) → li_T l Z Y d (pc + 3) lo st M Q) : li_T l Z Y d pc lo (.int y :: .int x :: st) M Q :=
  fun p e s m args below meth c C K H locs ls hH hS hl => lv_icmp_ge C.1 C.2.1 hd ht (fun h => kt h p e s m args below meth c C K H locs ls hH hS hl) (fun h => kf h p e s m args below meth c C K H locs ls hH hS hl)
theorem li_if_ge {x : Int32} {off : Int} (tgt : Nat) (hd : decode Y.2.1 pc = .ok (.ifCond .ge off, 3)) (ht : (pc : Int) + off = (tgt : Int)) (kt : 0 ≤ x → li_T l Z Y d tgt lo st M Q) (kf : ¬ (0 ≤ x) → li_T l Z Y d (pc + 3) lo st M Q) : li_T l Z Y d pc lo (.int x :: st) M Q :=
  fun p e s m args below meth c C K H locs ls hH hS hl => lv_if_ge C.1 C.2.1 hd ht (fun h => kt h p e s m args below meth c C K H locs ls hH hS hl) (fun h => kf h p e s m args below meth c C K H locs ls hH hS hl)
theorem li_icmp_gt {x y : Int32} {off : Int} (tgt : Nat) (hd : decode Y.2.1 pc = .ok (.if_icmp .gt off, 3)) (ht : (pc : Int) + off = (tgt : Int)) (kt : y < x → li_T l Z Y d tgt lo st M Q) (kf : ¬ (y < x) → li_T l Z Y d (pc + 3) lo st M Q) : li_T l Z Y d pc lo (.int y :: .int x :: st) M Q :=
  fun p e s m args below meth c C K H locs ls hH hS hl => lv_icmp_gt C.1 C.2.1 hd ht (fun h => kt h p e s m args below meth c C K H locs ls hH hS hl) (fun h => kf h p e s m args below meth c C K H locs ls hH hS hl)
theorem li_if_gt {x : Int32} {off : Int} (tgt : Nat) (hd : decode Y.2.1 pc = .ok (.ifCond .gt off, 3)) (ht : (pc : Int) + off = (tgt : Int)) (kt : 0 < x → li_T l Z Y d tgt lo st M Q) (kf : ¬ (0 < x) → li_T l Z Y d (pc + 3) lo st M Q) : li_T l Z Y d pc lo (.int x :: st) M Q :=
  fun p e s m args below meth c C K H locs ls hH hS hl => lv_if_gt C.1 C.2.1 hd ht (fun h => kt h p e s m args below meth c C K H locs ls hH hS hl) (fun h => kf h p e s m args below meth c C K H locs ls hH hS hl)
theorem li_icmp_le {x y : Int32} {off : Int} (tgt : Nat) (hd : decode Y.2.1 pc = .ok (.if_icmp .le off, 3)) (ht : (pc : Int) + off = (tgt : Int)) (kt : x ≤ y → li_T l Z Y d tgt lo st M Q) (kf : ¬ (x ≤ y) → li_T l Z Y d (pc + 3) lo st M Q) : li_T l Z Y d pc lo (.int y :: .int x :: st) M Q :=
  fun p e s m args below meth c C K H locs ls hH hS hl => lv_icmp_le C.1 C.2.1 hd ht (fun h => kt h p e s m args below meth c C K H locs ls hH hS hl) (fun h => kf h p e s m args below meth c C K H locs ls hH hS hl)
theorem li_if_le {x : Int32} {off : Int} (tgt : Nat) (hd : decode Y.2.1 pc = .ok (.ifCond .le off, 3)) (ht : (pc : Int) + off = (tgt : Int)) (kt : x ≤ 0 → li_T l Z Y d tgt lo st M Q) (kf : ¬ (x ≤ 0) → li_T l Z Y d (pc + 3) lo st M Q) : li_T l Z Y d pc lo (.int x :: st) M Q :=
  fun p e s m args below meth c C K H locs ls hH hS hl => lv_if_le C.1 C.2.1 hd ht (fun h => kt h p e s m args below meth c C K H locs ls hH hS hl) (fun h => kf h p e s m args below meth c C K H locs ls hH hS hl)
theorem li_ifnull {x : Nat} {off : Int} (hd : decode Y.2.1 pc = .ok (.ifnull off, 3))  (kk : li_T l Z Y d (pc + 3) lo (st) M Q) : li_T l Z Y d pc lo (.ref x :: st) M Q :=
  fun p e s m args below meth c C K H locs ls hH hS hl => lv_ifnull C.1 C.2.1 hd (kk p e s m args below meth c C K H locs ls hH hS hl)
theorem li_ifnonnull {x : Nat} {off : Int} (tgt : Nat) (hd : decode Y.2.1 pc = .ok (.ifnonnull off, 3)) (ht : (pc : Int) + off = (tgt : Int)) (kk : li_T l Z Y d tgt lo st M Q) : li_T l Z Y d pc lo (.ref x :: st) M Q :=
  fun p e s m args below meth c C K H locs ls hH hS hl => lv_ifnonnull C.1 C.2.1 hd ht (kk p e s m args below meth c C K H locs ls hH hS hl)
theorem li_table {dflt lw hi : Int} {offs : Array Int} {len : Nat} {x : Int32} (hd : decode Y.2.1 pc = .ok (.tableswitch dflt lw hi offs, len)) (tds : Nat) (htd : (pc : Int) + dflt = (tds : Int)) (ko : (x.toInt < lw ∨ hi < x.toInt) → li_T l Z Y d tds lo st M Q) (ki : ¬ x.toInt < lw → ¬ hi < x.toInt → ∃ (off : Int) (tgt : Nat), offs[(x.toInt - lw).toNat]? = some off ∧ (pc : Int) + off = (tgt : Int) ∧ li_T l Z Y d tgt lo st M Q) : li_T l Z Y d pc lo (.int x :: st) M Q := by
  intro p e s m args below meth c C K H locs ls hH hS hl
  by_cases h1 : x.toInt < lw
  · exact lv_tableOut C.1 C.2.1 hd (Or.inl h1) htd (ko (Or.inl h1) p e s m args below meth c C K H locs ls hH hS hl)
  · by_cases h2 : hi < x.toInt
    · exact lv_tableOut C.1 C.2.1 hd (Or.inr h2) htd (ko (Or.inr h2) p e s m args below meth c C K H locs ls hH hS hl)
    · obtain ⟨off, tgt, a1, a2, a3⟩ := ki h1 h2
      exact lv_tableIn C.1 C.2.1 hd h1 h2 a1 a2 (a3 p e s m args below meth c C K H locs ls hH hS hl)
theorem li_lookup {dflt : Int} {ps : Array (Int × Int)} {len : Nat} {x : Int32} {off : Int} (tgt : Nat) (hd : decode Y.2.1 pc = .ok (.lookupswitch dflt ps, len)) (hp : (ps.toList.zip (ps.toList.drop 1)).all (fun (a, next) => a.1 < next.1) = true) (ho : Op.lookupswitch.offset ps.toList dflt x.toInt = off) (ht : (pc : Int) + off = (tgt : Int)) (kk : li_T l Z Y d tgt lo st M Q) : li_T l Z Y d pc lo (.int x :: st) M Q :=
  fun p e s m args below meth c C K H locs ls hH hS hl => lv_lookup C.1 C.2.1 hd hp ho ht (kk p e s m args below meth c C K H locs ls hH hS hl)
theorem li_iret {x : Int32} {ty : FieldType} (hd : decode Y.2.1 pc = .ok (.ireturn, 1)) (hr : Y.2.2.2 = some ty) (hn : narrow ty (.int x) = .int x) (hq : Q (some (.int x)) M) : li_T l Z Y d pc lo [.int x] M Q :=
  fun p e s m args below meth c C K H locs ls hH hS hl => W.zret C.1 C.2.1 (C.2.2.2.2.2.1.trans hr) hn (fun t ht hW => ⟨⟨_, M, rfl, hq, by rw [ht]; exact hH⟩, hS.F ht⟩) hS.2.2 hd C.2.2.2.2.2.2
theorem li_lret {x : Int64} (hd : decode Y.2.1 pc = .ok (.lreturn, 1)) (hr : Y.2.2.2 = some .long) (hq : Q (some (.long x)) M) : li_T l Z Y d pc lo [.long x] M Q :=
  fun p e s m args below meth c C K H locs ls hH hS hl => W.lret C.1 C.2.1 (C.2.2.2.2.2.1.trans hr) (fun t ht hW => ⟨⟨_, M, rfl, hq, by rw [ht]; exact hH⟩, hS.F ht⟩) hS.2.2 hd C.2.2.2.2.2.2
theorem li_vret (hd : decode Y.2.1 pc = .ok (.return_, 1)) (hr : Y.2.2.2 = none) (hq : Q none M) : li_T l Z Y d pc lo [] M Q :=
  fun p e s m args below meth c C K H locs ls hH hS hl => W.vret C.1 C.2.1 (C.2.2.2.2.2.1.trans hr) (fun t ht hW => ⟨⟨_, M, rfl, hq, by rw [ht]; exact hH⟩, hS.F ht⟩) hS.2.2 hd C.2.2.2.2.2.2
end LIS
end
section
/-! THE STEPS that touch cells, and calls -/
section LIH
variable {l : Launch} {Z : li_Z} {Y : li_Y} {d pc : Nat} {lo lo' : List (Nat × Value)} {st : List Value} {M : li_M} {Q : Option Value → li_M → Prop}
theorem li_cellO {i ci : Nat} {sl : List (Option Nat)} (hs : li_sh i = .inl (ci, sl)) : li_cell Z M i = .inr (ci, li_ob Z M i 0 sl) := by
  unfold li_cell; rw [hs]
theorem li_cellA {i t n : Nat} (hs : li_sh i = .inr (t, n)) : li_cell Z M i = .inl (Z.2.1 (li_ct t), n, li_ar Z M i t) := by
  unfold li_cell; rw [hs]
/-- an int field -/
theorem li_geti {j ci k ix N : Nat} {T : u_T} {C0 : String} {sl : List (Option Nat)} (hd : decode Y.2.1 pc = .ok (.getfield ix, 3)) (hj : j < li_N) (hs : li_sh j = .inl (ci, sl)) (hc : vwCl[ci]? = some (C0, T, N)) (hk : sl[k]? = some none) (hkN : k < N) (hin : ∀ w ∈ u_ws C0 T N, w ∈ li_ws) (hw : Cond.fieldLink Y.1.cls ix (T k).1 (T k).2.1 (T k).2.2.1 ∈ li_ws)
    (kk : li_T l Z Y d (pc + 3) lo (.int (M.1 j k) :: st) M Q) : li_T l Z Y d pc lo (.ref (Z.2.2 j) :: st) M Q := by
  intro p e s m args below meth c C K H locs ls hH hS hl
  refine va_get (D := Z.1) (ci := ci) (v := .int (M.1 j k)) (C := C0) (T := T) (N := N) (fs := li_ob Z M j 0 sl) C.1 C.2.1 C.2.2.2.2.1 hin C.2.2.2.1 K.1 hH j (by rw [li_get hj, li_cellO hs]) hc k hkN (C.2.2.2.2.1 _ hw) (fun _ h => h) (by rw [li_ob_get, hk]; simp) hd (kk p e s m args below meth c C K H locs ls hH hS hl)
/-- a reference field that stays -/
theorem li_getr {j ci k ix N q : Nat} {T : u_T} {C0 : String} {sl : List (Option Nat)} (hd : decode Y.2.1 pc = .ok (.getfield ix, 3)) (hj : j < li_N) (hs : li_sh j = .inl (ci, sl)) (hc : vwCl[ci]? = some (C0, T, N)) (hk : sl[k]? = some (some q)) (hq : q < 1000) (hkN : k < N) (hin : ∀ w ∈ u_ws C0 T N, w ∈ li_ws) (hw : Cond.fieldLink Y.1.cls ix (T k).1 (T k).2.1 (T k).2.2.1 ∈ li_ws)
    (kk : li_T l Z Y d (pc + 3) lo (.ref (Z.2.2 q) :: st) M Q) : li_T l Z Y d pc lo (.ref (Z.2.2 j) :: st) M Q := by
  intro p e s m args below meth c C K H locs ls hH hS hl
  refine va_get (D := Z.1) (ci := ci) (v := .ref (Z.2.2 q)) (C := C0) (T := T) (N := N) (fs := li_ob Z M j 0 sl) C.1 C.2.1 C.2.2.2.2.1 hin C.2.2.2.1 K.1 hH j (by rw [li_get hj, li_cellO hs]) hc k hkN (C.2.2.2.2.1 _ hw) (fun _ h => h) (by rw [li_ob_get, hk]; simp [li_rv, hq]) hd (kk p e s m args below meth c C K H locs ls hH hS hl)
/-- a reference field that changes, holding the cell q -/
theorem li_getm {j ci k ix N r q : Nat} {T : u_T} {C0 : String} {sl : List (Option Nat)} (hd : decode Y.2.1 pc = .ok (.getfield ix, 3)) (hj : j < li_N) (hs : li_sh j = .inl (ci, sl)) (hc : vwCl[ci]? = some (C0, T, N)) (hk : sl[k]? = some (some (1000 + r))) (hr : M.2.2 r = some q) (hkN : k < N) (hin : ∀ w ∈ u_ws C0 T N, w ∈ li_ws) (hw : Cond.fieldLink Y.1.cls ix (T k).1 (T k).2.1 (T k).2.2.1 ∈ li_ws)
    (kk : li_T l Z Y d (pc + 3) lo (.ref (Z.2.2 q) :: st) M Q) : li_T l Z Y d pc lo (.ref (Z.2.2 j) :: st) M Q := by
  intro p e s m args below meth c C K H locs ls hH hS hl
  refine va_get (D := Z.1) (ci := ci) (v := .ref (Z.2.2 q)) (C := C0) (T := T) (N := N) (fs := li_ob Z M j 0 sl) C.1 C.2.1 C.2.2.2.2.1 hin C.2.2.2.1 K.1 hH j (by rw [li_get hj, li_cellO hs]) hc k hkN (C.2.2.2.2.1 _ hw) (fun _ h => h) (by rw [li_ob_get, hk]; simp [li_rv, hr, va_rf, show ¬ 1000 + r < 1000 by omega]) hd (kk p e s m args below meth c C K H locs ls hH hS hl)
/-- an int (or boolean) field is set -/
theorem li_puti {j ci k ix N : Nat} {T : u_T} {C0 : String} {sl : List (Option Nat)} {x : Int32} {ty0 : Nat → FieldType} {ty : FieldType} (hd : decode Y.2.1 pc = .ok (.putfield ix, 3)) (hj : j < li_N) (hs : li_sh j = .inl (ci, sl)) (hc : vwCl[ci]? = some (C0, T, N)) (hk : sl[k]? = some none) (hkN : k < N) (hin : ∀ w ∈ u_ws C0 T N, w ∈ li_ws) (hty : ∀ k, k < N → parseFieldDescriptor (T k).2.2.1 = some (ty0 k)) (hnm : ∀ a, a < N → ∀ b, b < N → a ≠ b → (T a).2.1 ≠ (T b).2.1) (hfin : (T k).2.2.2 = false) (hdesc : parseFieldDescriptor (T k).2.2.1 = some ty) (hn : narrow ty (.int x) = .int x) (hf : fits ty (.int x) = true) (hw : Cond.fieldLink Y.1.cls ix (T k).1 (T k).2.1 (T k).2.2.1 ∈ li_ws)
    (kk : li_T l Z Y d (pc + 3) lo st (li_ui M j k x) Q) : li_T l Z Y d pc lo (.int x :: .ref (Z.2.2 j) :: st) M Q := by
  intro p e s m args below meth c C K H locs ls hH hS hl
  refine va_put (D := Z.1) (ci := ci) (v := .int x) (ty := ty) (C := C0) (T := T) (N := N) (fs := li_ob Z M j 0 sl) C.1 C.2.1 C.2.2.2.2.1 hin ty0 hty hnm C.2.2.2.1 K.1 hH (li_D K.2.1) hS j (by rw [li_get hj, li_cellO hs]) hc k hkN (C.2.2.2.2.1 _ hw) (fun _ h => h) hfin hdesc hn hf (by rw [li_ob_len]; exact (List.getElem?_eq_some_iff.mp hk).1) hd (fun H1 locs1 hP hD hS1 => ?_)
  have e0 : (li_wd Z M).set j (Z.2.2 j, .inr (ci, (li_ob Z M j 0 sl).set k (.int x))) = li_wd Z (li_ui M j k x) := by
    have e1 := li_ob_set (Z := Z) (M := M) (i := j) (x := x) sl 0 k hk
    rw [Nat.zero_add] at e1
    rw [← e1, ← li_cellO (Z := Z) (M := li_ui M j k x) hs]
    exact li_set hj li_cell_ne
  rw [e0] at hP
  exact kk p e s m args below meth c C K H1 locs1 ls hP hS1 hl
/-- an int array read -/
theorem li_iald {j n : Nat} {i : Int32} (hd : decode Y.2.1 pc = .ok (.iaload, 1)) (hj : j < li_N) (hs : li_sh j = .inr (0, n)) (hi : vp_in i n) (kk : li_T l Z Y d (pc + 1) lo (.int (M.1 j i.toNatClampNeg) :: st) M Q) : li_T l Z Y d pc lo (.int i :: .ref (Z.2.2 j) :: st) M Q := by
  intro p e s m args below meth c C K H locs ls hH hS hl
  exact va_iald (D := Z.1) (f := M.1 j) C.1 C.2.1 K.1 hH j 0 (by rw [li_get hj, li_cellA hs]; rfl) rfl hi hd (kk p e s m args below meth c C K H locs ls hH hS hl)
theorem li_bald {j n : Nat} {i : Int32} (hd : decode Y.2.1 pc = .ok (.baload, 1)) (hj : j < li_N) (hs : li_sh j = .inr (2, n)) (hi : vp_in i n) (kk : li_T l Z Y d (pc + 1) lo (.int (M.1 j i.toNatClampNeg) :: st) M Q) : li_T l Z Y d pc lo (.int i :: .ref (Z.2.2 j) :: st) M Q := by
  intro p e s m args below meth c C K H locs ls hH hS hl
  exact va_bald (D := Z.1) (f := M.1 j) C.1 C.2.1 K.1 hH j 2 (by rw [li_get hj, li_cellA hs]; rfl) rfl hi hd (kk p e s m args below meth c C K H locs ls hH hS hl)
theorem li_zald {j n : Nat} {i : Int32} (hd : decode Y.2.1 pc = .ok (.baload, 1)) (hj : j < li_N) (hs : li_sh j = .inr (3, n)) (hi : vp_in i n) (kk : li_T l Z Y d (pc + 1) lo (.int (M.1 j i.toNatClampNeg) :: st) M Q) : li_T l Z Y d pc lo (.int i :: .ref (Z.2.2 j) :: st) M Q := by
  intro p e s m args below meth c C K H locs ls hH hS hl
  exact va_zald (D := Z.1) (f := M.1 j) C.1 C.2.1 K.1 hH j 3 (by rw [li_get hj, li_cellA hs]; rfl) rfl hi hd (kk p e s m args below meth c C K H locs ls hH hS hl)
theorem li_lald {j n : Nat} {i : Int32} (hd : decode Y.2.1 pc = .ok (.laload, 1)) (hj : j < li_N) (hs : li_sh j = .inr (1, n)) (hi : vp_in i n) (kk : li_T l Z Y d (pc + 1) lo (.long (M.2.1 j i.toNatClampNeg) :: st) M Q) : li_T l Z Y d pc lo (.int i :: .ref (Z.2.2 j) :: st) M Q := by
  intro p e s m args below meth c C K H locs ls hH hS hl
  exact va_lald (D := Z.1) (f := M.2.1 j) C.1 C.2.1 K.1 hH j 1 (by rw [li_get hj, li_cellA hs]; rfl) rfl hi hd (kk p e s m args below meth c C K H locs ls hH hS hl)
/-- the ledgers' row -/
theorem li_aald {j n b : Nat} {i : Int32} (hd : decode Y.2.1 pc = .ok (.aaload, 1)) (hj : j < li_N) (hs : li_sh j = .inr (100 + b, n)) (hi : vp_in i n) (kk : li_T l Z Y d (pc + 1) lo (.ref (Z.2.2 (b + 8 * i.toNatClampNeg)) :: st) M Q) : li_T l Z Y d pc lo (.int i :: .ref (Z.2.2 j) :: st) M Q := by
  intro p e s m args below meth c C K H locs ls hH hS hl
  have e1 : li_ar Z M j (100 + b) = .inr (.inr (.inr (.inr (fun j => some (Z.2.2 (b + 8 * j)))))) := by
    unfold li_ar
    rw [if_neg (by omega)]
    simp
  have e2 : li_ct (100 + b) = 4 := by unfold li_ct; rw [if_neg (by omega)]
  refine va_aldq (D := Z.1) (C := "ClockForTalk$Ledger") (f := fun j => some (Z.2.2 (b + 8 * j))) (cA := Z.2.1 4) (n := n) C.1 C.2.1 K.1 hH j 4 (by rw [li_get hj, li_cellA hs, e1, e2]) rfl hi hd (kk p e s m args below meth c C K H locs ls hH hS hl)
theorem li_alen {j t n : Nat} (v : Int32) (hd : decode Y.2.1 pc = .ok (.arraylength, 1)) (hj : j < li_N) (hs : li_sh j = .inr (t, n)) (ht : t < 4 ∨ 100 ≤ t) (hv : Int32.ofNat n = v) (kk : li_T l Z Y d (pc + 1) lo (.int v :: st) M Q) : li_T l Z Y d pc lo (.ref (Z.2.2 j) :: st) M Q := by
  intro p e s m args below meth c C K H locs ls hH hS hl
  have hk := kk p e s m args below meth c C K H locs ls hH hS hl
  rcases ht with ht | ht
  · rcases (show t = 0 ∨ t = 1 ∨ t = 2 ∨ t = 3 by omega) with rfl | rfl | rfl | rfl
    · exact va_alen (D := Z.1) C.1 C.2.1 K.1 hH j 0 (x := (n, li_ar Z M j 0)) (by rw [li_get hj, li_cellA hs]; rfl) rfl hv hd hk
    · exact va_alen (D := Z.1) C.1 C.2.1 K.1 hH j 1 (x := (n, li_ar Z M j 1)) (by rw [li_get hj, li_cellA hs]; rfl) rfl hv hd hk
    · exact va_alen (D := Z.1) C.1 C.2.1 K.1 hH j 2 (x := (n, li_ar Z M j 2)) (by rw [li_get hj, li_cellA hs]; rfl) rfl hv hd hk
    · exact va_alen (D := Z.1) C.1 C.2.1 K.1 hH j 3 (x := (n, li_ar Z M j 3)) (by rw [li_get hj, li_cellA hs]; rfl) rfl hv hd hk
  · have e2 : li_ct t = 4 := by unfold li_ct; rw [if_neg (by omega)]
    exact va_alen (D := Z.1) C.1 C.2.1 K.1 hH j 4 (x := (n, li_ar Z M j t)) (by rw [li_get hj, li_cellA hs, e2]) rfl hv hd hk
/-- an int array written -/
theorem li_iast {j n : Nat} {i x : Int32} (hd : decode Y.2.1 pc = .ok (.iastore, 1)) (hj : j < li_N) (hs : li_sh j = .inr (0, n)) (hi : vp_in i n) (kk : li_T l Z Y d (pc + 1) lo st (li_ui M j i.toNatClampNeg x) Q) : li_T l Z Y d pc lo (.int x :: .int i :: .ref (Z.2.2 j) :: st) M Q := by
  intro p e s m args below meth c C K H locs ls hH hS hl
  refine va_iast (D := Z.1) (f := M.1 j) C.1 C.2.1 K.1 hH (li_D K.2.1) hS j 0 (by rw [li_get hj, li_cellA hs]; rfl) rfl hi hd (fun H1 locs1 hP hD hS1 => ?_)
  have e0 : (li_wd Z M).set j (Z.2.2 j, .inl (Z.2.1 0, n, .inl (upd (M.1 j) i.toNatClampNeg x))) = li_wd Z (li_ui M j i.toNatClampNeg x) := by
    rw [← li_set (Z := Z) (M := M) (M' := li_ui M j i.toNatClampNeg x) hj li_cell_ne, li_cellA hs]
    simp [li_ct, li_ar, li_ui, upd]
    rfl
  rw [e0] at hP
  exact kk p e s m args below meth c C K H1 locs1 ls hP hS1 hl
theorem li_bast {j n : Nat} {i x : Int32} (hd : decode Y.2.1 pc = .ok (.bastore, 1)) (hj : j < li_N) (hs : li_sh j = .inr (2, n)) (hi : vp_in i n) (kk : li_T l Z Y d (pc + 1) lo st (li_ui M j i.toNatClampNeg x.toInt8.toInt32) Q) : li_T l Z Y d pc lo (.int x :: .int i :: .ref (Z.2.2 j) :: st) M Q := by
  intro p e s m args below meth c C K H locs ls hH hS hl
  refine va_bast (D := Z.1) (f := M.1 j) C.1 C.2.1 K.1 hH (li_D K.2.1) hS j 2 (by rw [li_get hj, li_cellA hs]; rfl) rfl hi hd (fun H1 locs1 hP hD hS1 => ?_)
  rw [vp_nar_byte] at hP
  have e0 : (li_wd Z M).set j (Z.2.2 j, .inl (Z.2.1 2, n, .inl (upd (M.1 j) i.toNatClampNeg x.toInt8.toInt32))) = li_wd Z (li_ui M j i.toNatClampNeg x.toInt8.toInt32) := by
    rw [← li_set (Z := Z) (M := M) (M' := li_ui M j i.toNatClampNeg x.toInt8.toInt32) hj li_cell_ne, li_cellA hs]
    simp [li_ct, li_ar, li_ui, upd]
    rfl
  rw [e0] at hP
  exact kk p e s m args below meth c C K H1 locs1 ls hP hS1 hl
theorem li_zast {j n : Nat} {i x : Int32} (hd : decode Y.2.1 pc = .ok (.bastore, 1)) (hj : j < li_N) (hs : li_sh j = .inr (3, n)) (hi : vp_in i n) (hx : x = 0 ∨ x = 1) (kk : li_T l Z Y d (pc + 1) lo st (li_ui M j i.toNatClampNeg x) Q) : li_T l Z Y d pc lo (.int x :: .int i :: .ref (Z.2.2 j) :: st) M Q := by
  intro p e s m args below meth c C K H locs ls hH hS hl
  refine va_zast (D := Z.1) (f := M.1 j) C.1 C.2.1 K.1 hH (li_D K.2.1) hS j 3 (by rw [li_get hj, li_cellA hs]; rfl) rfl hi hd (fun H1 locs1 hP hD hS1 => ?_)
  have ex : vp_nar .boolean x = x := by
    rcases hx with rfl | rfl <;> rfl
  rw [ex] at hP
  have e0 : (li_wd Z M).set j (Z.2.2 j, .inl (Z.2.1 3, n, .inl (upd (M.1 j) i.toNatClampNeg x))) = li_wd Z (li_ui M j i.toNatClampNeg x) := by
    rw [← li_set (Z := Z) (M := M) (M' := li_ui M j i.toNatClampNeg x) hj li_cell_ne, li_cellA hs]
    simp [li_ct, li_ar, li_ui, upd]
    rfl
  rw [e0] at hP
  exact kk p e s m args below meth c C K H1 locs1 ls hP hS1 hl
theorem li_last {j n : Nat} {i : Int32} {x : Int64} (hd : decode Y.2.1 pc = .ok (.lastore, 1)) (hj : j < li_N) (hs : li_sh j = .inr (1, n)) (hi : vp_in i n) (kk : li_T l Z Y d (pc + 1) lo st (li_ul M j i.toNatClampNeg x) Q) : li_T l Z Y d pc lo (.long x :: .int i :: .ref (Z.2.2 j) :: st) M Q := by
  intro p e s m args below meth c C K H locs ls hH hS hl
  refine va_last (D := Z.1) (f := M.2.1 j) C.1 C.2.1 K.1 hH (li_D K.2.1) hS j 1 (by rw [li_get hj, li_cellA hs]; rfl) rfl hi hd (fun H1 locs1 hP hD hS1 => ?_)
  have e0 : (li_wd Z M).set j (Z.2.2 j, .inl (Z.2.1 1, n, .inr (.inl (vp_updL (M.2.1 j) i.toNatClampNeg x)))) = li_wd Z (li_ul M j i.toNatClampNeg x) := by
    rw [← li_set (Z := Z) (M := M) (M' := li_ul M j i.toNatClampNeg x) hj li_cell_neL, li_cellA hs]
    simp [li_ct, li_ar, li_ul, vp_updL]
    rfl
  rw [e0] at hP
  exact kk p e s m args below meth c C K H1 locs1 ls hP hS1 hl
end LIH
end
section
/-! CALLS -/
def li_isN : Cond → Bool
  | .methodLinkNest _ _ _ _ => true
  | .fieldLinkNest _ _ _ _ _ _ => true
  | _ => false
theorem li_nw_ok : li_nw.all li_isN = true := by decide +kernel
theorem li_nw_warm {w : Cond} {s U : State} (h : li_isN w = true) (hW : s.WarmedH U.vm) (hZ : va_Nw w s) : va_Nw w U := by
  cases w with
  | methodLinkNest a b c d => exact va_Nw.warmM hW hZ
  | fieldLinkNest a b c d e f => exact va_Nw.warmF hW hZ
  | _ => cases h
theorem li_nw_on {w : Cond} (h : li_isN w = true) : w.onTables = true := by
  cases w with
  | methodLinkNest a b c d => rfl
  | fieldLinkNest a b c d e f => rfl
  | _ => cases h
theorem li_K_warm {Z : li_Z} {s U : State} {H : Heap} {locs : List Loc} (hW : s.WarmedH U.vm) (hU : U.heap = H) (hS : va_S (li_A Z) s.heap H locs) (h : li_K Z s) : li_K Z U :=
  ⟨va_K.moved hW.alike h.1, h.2.1, fun w hw => li_nw_warm (List.all_eq_true.mp li_nw_ok w hw) hW (h.2.2.1 w hw), li_E.moved hW.alike (h.2.2.2.1.kept fun a h1 h2 => by rw [hU]; exact hS.2.1 a h1 h2), fun i hi => vk_R.warm hW (h.2.2.2.2 i hi)⟩
theorem li_blind {Z : li_Z} {M : li_M} {av : List Value} : FrameBlind (va_Pc av (fun U => li_H Z M U.heap ∧ li_K Z U)) := by
  intro a U g mk h
  obtain ⟨h1, h2, h3, h4, h5, h6, h7⟩ := h
  exact ⟨h1, h2, va_K.moved (u := U) (U := U.calling g mk a) (Vm.Alike.refl U.vm) h3, h4, fun w hw => va_Nw.same (u := U) (U := U.calling g mk a) (li_nw_on (List.all_eq_true.mp li_nw_ok w hw)) rfl (h5 w hw), li_E.moved (u := U) (U := U.calling g mk a) (Vm.Alike.refl U.vm) h6, fun i hi => vk_R.same (u := U) (U := U.calling g mk a) rfl (h7 i hi)⟩
section LIC
variable {l : Launch} {Z : li_Z} {Y Y' : li_Y} {d d' pc ix : Nat} {lo : List (Nat × Value)} {st rest : List Value} {M : li_M} {Q Q' : Option Value → li_M → Prop}
theorem li_good (hc : Cond.code Y'.1 Y'.2.1 Y'.2.2.1 Y'.2.2.2 ∈ li_ws) : GoodIn li_ws (li_wy Y') := by
  have key : ∀ w ∈ li_ws, (w.onTables && w.keeps) = true ∨ ∃ ty, w = .arrayClass ty := fun w hw => good_of_word (List.mem_filter.mp hw).2
  intro w hw
  rcases List.mem_cons.mp hw with rfl | hw
  · exact ⟨hc, key _ hc⟩
  · exact ⟨hw, key _ hw⟩
/-- what is behind a call: every answer, at every state that the callee's end allows -/
theorem li_behind {p : Program} {e : Env} {s : State} {m : MethodId} {args : Array Value} {below : List Frame} {meth : Method} {c : Code} {H : Heap} {locs : List Loc} {ls : Array Slot} {a : Array Value} {st0 : List Value} {R : Room} {Qf : State → Prop}
    (hr : va_Run p l e R s m args below meth c H locs 0 0 0 0 (F0 m pc ls st0) rest (li_Q Z Q' a) (li_A Z)) (hS : va_S (li_A Z) s.heap H locs)
    (kk : ∀ (r : Option Value) (M' : li_M) (H1 : Heap) (locs1 : List Loc), Q' r M' → li_H Z M' H1 → va_S (li_A Z) s.heap H1 locs1 → W p l e R s m args below meth c H1 locs1 0 0 Qf (F0 m (pc + 3) ls (r.toList ++ rest))) : W p l e R s m args below meth c H locs 0 0 Qf (F0 m pc ls st0) := by
  intro T hT X
  obtain ⟨v, st₀, t, T', L, h0, X', hL, e1, e2, ⟨⟨r, M', hv, hp, hb⟩, hz, hk⟩, stp⟩ := hr T hT X
  cases hv
  rw [h0] at hz hk
  obtain ⟨t2, a1, b1⟩ := kk v M' T'.heap (locs ++ L) hp (by rw [e1]; exact hb)
    ⟨Nat.le_trans hS.1 (by rw [e1]; exact hz), fun q h1 h2 => by rw [e1, hk q (Nat.lt_of_lt_of_le h1 hS.1) h2]; exact hS.2.1 q h1 h2, fun q hq => by
      rcases List.mem_append.mp hq with h | h
      · exact hS.2.2 q h
      · exact hL q h⟩ T' rfl X'
  exact ⟨t2, stp t2 a1, b1⟩
theorem li_callV {As : List Value} {j ci N n : Nat} {T : u_T} {sl : List (Option Nat)} (hd : decode Y.2.1 pc = .ok (.invokevirtual ix, 3)) (hM : li_Met l Z Y' d' (.ref (Z.2.2 j) :: As) M Q') (hdd : d' + 1 ≤ d) (hml : Y'.2.2.1 ≤ 41)
    (w1 : Cond.methodLink Y.1.cls ix Y'.1 ∈ li_ws) (w2 : Cond.instanceMethod Y'.1 ∈ li_ws) (w3 : Cond.selects Y'.1.cls Y'.1 Y'.1 ∈ li_ws) (w4 : Cond.initialized Y'.1.cls ∈ li_ws) (w5 : Cond.code Y'.1 Y'.2.1 Y'.2.2.1 Y'.2.2.2 ∈ li_ws)
    (hy : Y'.1.cls ≠ "java/lang/invoke/MethodHandle" ∧ Y'.1.cls ≠ "java/lang/invoke/VarHandle" ∧ (parseMethodDescriptor Y'.1.desc).map (fun d => d.parameters.length) = some n) (hn : As.length = n)
    (hj : j < li_N) (hs : li_sh j = .inl (ci, sl)) (hc : vwCl[ci]? = some (Y'.1.cls, T, N)) (hst : st = As.reverse ++ .ref (Z.2.2 j) :: rest) (hcat : (rest.map fun v => v.category).sum ≤ 8)
    (kk : ∀ (r : Option Value) (M' : li_M), Q' r M' → li_T l Z Y d (pc + 3) lo (r.toList ++ rest) M' Q) : li_T l Z Y d pc lo st M Q := by
  intro p e s m args below meth c C K H locs ls hH hS hl
  have hrun := va_runV (R := li_rm d) (e := e) (below := below) (meth := meth) (locs := locs) (cells := 0) (slots := 0) (As := As) (rest := rest) (n := n) (g := F0 m pc ls st) (index := ix) (own := Y.1.cls) (C := Y'.1.cls) (b := Z.2.2 j) (H := H) (Ts := li_ws)
    ⟨C.1, C.2.1, C.2.2.1, C.2.2.2.1, C.2.2.2.2.1⟩ hM
    (cwV n C.2.2.2.2.1 (fun w hw => by
      rcases List.mem_append.mp (by unfold wsV at hw; exact hw) with h | h
      · have hm : w ∈ li_ws := by
          simp only [List.mem_cons, List.not_mem_nil, or_false] at h
          rcases h with rfl | rfl | rfl | rfl
          · exact w1
          · exact w2
          · exact w3
          · exact w4
        exact ⟨hm, good_of_word (List.mem_filter.mp hm).2⟩
      · exact li_good w5 w h) rfl rfl rfl ⟨rfl, hy⟩ ⟨hdd, by show 8 + (Y'.2.2.1 + 11) + 60 * d' ≤ 60 * d; omega⟩)
    ⟨li_blind, va_recv K.1 hH hc (q0 := j) (by rw [li_get hj, li_cellO hs]), fun U hU hW => ⟨rfl, by rw [hU]; exact hH, li_K_warm hW hU hS K⟩⟩ rfl hn hl.1 hst (lv_room hcat) hd ⟨Nat.le_refl _, Nat.le_refl _⟩
  exact li_behind hrun hS (fun r M' H1 locs1 hq hH1 hS1 => kk r M' hq p e s m args below meth c C K H1 locs1 ls hH1 hS1 hl)
theorem li_callS {As : List Value} {n : Nat} (hd : decode Y.2.1 pc = .ok (.invokestatic ix, 3)) (hM : li_Met l Z Y' d' As M Q') (hdd : d' + 1 ≤ d) (hml : Y'.2.2.1 ≤ 41)
    (w1 : Cond.methodLink Y.1.cls ix Y'.1 ∈ li_ws) (w2 : Cond.static Y'.1 ∈ li_ws) (w4 : Cond.initialized Y'.1.cls ∈ li_ws) (w5 : Cond.code Y'.1 Y'.2.1 Y'.2.2.1 Y'.2.2.2 ∈ li_ws)
    (hy : Y'.1.cls ≠ "java/lang/invoke/MethodHandle" ∧ Y'.1.cls ≠ "java/lang/invoke/VarHandle" ∧ (parseMethodDescriptor Y'.1.desc).map (fun d => d.parameters.length) = some n) (hn : As.length = n)
    (hst : st = As.reverse ++ rest) (hcat : (rest.map fun v => v.category).sum ≤ 8)
    (kk : ∀ (r : Option Value) (M' : li_M), Q' r M' → li_T l Z Y d (pc + 3) lo (r.toList ++ rest) M' Q) : li_T l Z Y d pc lo st M Q := by
  intro p e s m args below meth c C K H locs ls hH hS hl
  have hrun := va_runS (R := li_rm d) (e := e) (below := below) (meth := meth) (locs := locs) (cells := 0) (slots := 0) (As := As) (rest := rest) (n := n) (g := F0 m pc ls st) (index := ix) (own := Y.1.cls) (H := H) (Ts := li_ws)
    ⟨C.1, C.2.1, C.2.2.1, C.2.2.2.1, C.2.2.2.2.1⟩ hM
    ⟨callB_of n C.2.2.2.2.1 (li_good w5) rfl rfl rfl (C.2.2.2.2.1 _ w4) (C.2.2.2.2.1 _ w1) hy ⟨hdd, by show 8 + (Y'.2.2.1 + 11) + 60 * d' ≤ 60 * d; omega⟩, C.2.2.2.2.1 _ w2⟩
    ⟨li_blind, fun U hU hW => ⟨rfl, by rw [hU]; exact hH, li_K_warm hW hU hS K⟩⟩ rfl hn hl.1 hst (lv_room hcat) hd ⟨Nat.le_refl _, Nat.le_refl _⟩
  exact li_behind hrun hS (fun r M' H1 locs1 hq hH1 hS1 => kk r M' hq p e s m args below meth c C K H1 locs1 ls hH1 hS1 hl)
/-- a private static method of a nest mate -/
theorem li_callN {As : List Value} {n : Nat} {host : String} (hd : decode Y.2.1 pc = .ok (.invokestatic ix, 3)) (hM : li_Met l Z Y' d' As M Q') (hdd : d' + 1 ≤ d) (hml : Y'.2.2.1 ≤ 41)
    (w1 : Cond.methodLinkNest Y.1.cls ix Y'.1 host ∈ li_nw) (w2 : Cond.static Y'.1 ∈ li_ws) (w4 : Cond.initialized Y'.1.cls ∈ li_ws) (w5 : Cond.code Y'.1 Y'.2.1 Y'.2.2.1 Y'.2.2.2 ∈ li_ws)
    (hy : Y'.1.cls ≠ "java/lang/invoke/MethodHandle" ∧ Y'.1.cls ≠ "java/lang/invoke/VarHandle" ∧ (parseMethodDescriptor Y'.1.desc).map (fun d => d.parameters.length) = some n) (hn : As.length = n)
    (hst : st = As.reverse ++ rest) (hcat : (rest.map fun v => v.category).sum ≤ 8)
    (kk : ∀ (r : Option Value) (M' : li_M), Q' r M' → li_T l Z Y d (pc + 3) lo (r.toList ++ rest) M' Q) : li_T l Z Y d pc lo st M Q := by
  intro p e s m args below meth c C K H locs ls hH hS hl
  have hrun := va_runSN (R := li_rm d) (e := e) (below := below) (meth := meth) (locs := locs) (cells := 0) (slots := 0) (As := As) (rest := rest) (n := n) (g := F0 m pc ls st) (index := ix) (own := Y.1.cls) (host := host) (H := H) (Ts := li_ws)
    ⟨C.1, C.2.1, C.2.2.1, C.2.2.2.1, C.2.2.2.2.1⟩ hM
    ⟨va_cnB n C.2.2.2.2.1 (li_good w5) rfl rfl rfl (K.2.2.1 _ w1) (C.2.2.2.2.1 _ w4) hy ⟨hdd, by show 8 + (Y'.2.2.1 + 11) + 60 * d' ≤ 60 * d; omega⟩, C.2.2.2.2.1 _ w2, trivial⟩
    ⟨li_blind, fun U hU hW => ⟨rfl, by rw [hU]; exact hH, li_K_warm hW hU hS K⟩⟩ rfl hn hl.1 hst (lv_room hcat) hd ⟨Nat.le_refl _, Nat.le_refl _⟩
  exact li_behind hrun hS (fun r M' H1 locs1 hq hH1 hS1 => kk r M' hq p e s m args below meth c C K H1 locs1 ls hH1 hS1 hl)
end LIC
end
section
/-! FRAMES, names, the JDK's small functions -/
/-- outside the cells of E nothing has changed -/
def li_fr (E : Nat → Prop) (M M' : li_M) : Prop := (∀ i, ¬ E i → M'.1 i = M.1 i) ∧ (∀ i, ¬ E i → M'.2.1 i = M.2.1 i) ∧ M'.2.2 = M.2.2
theorem li_fr_refl {E : Nat → Prop} {M : li_M} : li_fr E M M := ⟨fun _ _ => rfl, fun _ _ => rfl, rfl⟩
theorem li_fr_ui {E : Nat → Prop} {M N N' : li_M} {j k : Nat} {x : Int32} (h : li_fr E M N) (hj : E j) (e : N' = li_ui N j k x) : li_fr E M N' := by
  subst e
  refine ⟨fun i hi => ?_, h.2.1, h.2.2⟩
  rw [← h.1 i hi]
  funext b
  have hij : i ≠ j := fun q => hi (q ▸ hj)
  simp [li_ui, hij]
theorem li_fr_ul {E : Nat → Prop} {M N N' : li_M} {j k : Nat} {x : Int64} (h : li_fr E M N) (hj : E j) (e : N' = li_ul N j k x) : li_fr E M N' := by
  subst e
  refine ⟨h.1, fun i hi => ?_, h.2.2⟩
  rw [← h.2.1 i hi]
  funext b
  have hij : i ≠ j := fun q => hi (q ▸ hj)
  simp [li_ul, hij]
theorem li_fr_trans {E E' : Nat → Prop} {M N N' : li_M} (h : li_fr E M N) (h' : li_fr E' N N') (hE : ∀ i, E' i → E i) : li_fr E M N' :=
  ⟨fun i hi => (h'.1 i (fun q => hi (hE i q))).trans (h.1 i hi), fun i hi => (h'.2.1 i (fun q => hi (hE i q))).trans (h.2.1 i hi), h'.2.2.trans h.2.2⟩
theorem li_fr_wide {E E' : Nat → Prop} {M N : li_M} (h : li_fr E' M N) (hE : ∀ i, E' i → E i) : li_fr E M N := li_fr_trans li_fr_refl h hE
/-- ends: an int, a boolean, nothing, a long; and the frame -/
abbrev li_SI (E : Nat → Prop) (M : li_M) : Option Value → li_M → Prop := fun r M' => (∃ x : Int32, r = some (.int x)) ∧ li_fr E M M'
abbrev li_SZ (E : Nat → Prop) (M : li_M) : Option Value → li_M → Prop := fun r M' => (∃ x : Int32, r = some (.int x) ∧ (x = 0 ∨ x = 1)) ∧ li_fr E M M'
abbrev li_SV (E : Nat → Prop) (M : li_M) : Option Value → li_M → Prop := fun r M' => r = none ∧ li_fr E M M'
abbrev li_SL (E : Nat → Prop) (M : li_M) : Option Value → li_M → Prop := fun r M' => (∃ x : Int64, r = some (.long x)) ∧ li_fr E M M'
theorem li_nz {x : Int32} (h : x = 0 ∨ x = 1) : narrow .boolean (.int x) = .int x := by rcases h with rfl | rfl <;> rfl
theorem li_fz {x : Int32} (h : x = 0 ∨ x = 1) : fits .boolean (.int x) = true := by rcases h with rfl | rfl <;> rfl
theorem li_up {i B : Int32} (h : i < B) : (2147483647 - (i + 1).toInt).toNat < (2147483647 - i.toInt).toNat := by
  have h1 := Int32.lt_iff_toInt_lt.mp h
  have h2 := Int32.toInt_lt B
  have h3 := Int32.le_toInt i
  have e : (i + 1).toInt = i.toInt + 1 := by
    rw [Int32.toInt_add]
    have : (1 : Int32).toInt = 1 := rfl
    rw [this, Int.bmod_eq_of_le (by omega) (by omega)]
  omega
theorem li_in {i v : Int32} {n : Nat} (h1 : 0 ≤ i) (h2 : i < v) (hv : v.toInt = n) : vp_in i n := by
  rw [vp_in_iff]
  have h3 := Int32.le_iff_toInt_le.mp h1
  have h4 := Int32.lt_iff_toInt_lt.mp h2
  have : (0 : Int32).toInt = 0 := rfl
  omega
theorem li_ge {x y : Int32} (h : ¬ x < y) : y ≤ x := Int32.not_lt.mp h
theorem li_gt {x y : Int32} (h : ¬ x ≤ y) : y < x := Int32.not_le.mp h
section LIM
variable {l : Launch} {Z : li_Z} {Y : li_Y} {d pc ix : Nat} {lo lo' : List (Nat × Value)} {st rest : List Value} {M : li_M} {Q : Option Value → li_M → Prop}
theorem li_top {x : Int32} (k : ∀ y : Int32, y = x → li_T l Z Y d pc lo (.int y :: st) M Q) : li_T l Z Y d pc lo (.int x :: st) M Q := k x rfl
theorem li_topL {x : Int64} (k : ∀ y : Int64, y = x → li_T l Z Y d pc lo (.long y :: st) M Q) : li_T l Z Y d pc lo (.long x :: st) M Q := k x rfl
theorem li_nm (k : ∀ N : li_M, N = M → li_T l Z Y d pc lo st N Q) : li_T l Z Y d pc lo st M Q := k M rfl
theorem li_pick (ks : List Nat) (lo' : List (Nat × Value)) (hl : lv_pick lo ks = lo') (k : li_T l Z Y d pc lo' st M Q) : li_T l Z Y d pc lo st M Q :=
  fun p e s m args below meth c C K H locs ls hH hS hl' => k p e s m args below meth c C K H locs ls hH hS (lv_sub hl' ks hl)
theorem li_mmax {x y : Int32} (hd : decode Y.2.1 pc = .ok (.invokestatic ix, 3)) (hdd : 1 ≤ d) (w1 : Cond.methodLink Y.1.cls ix Lib.Math.max.name ∈ li_ws) (w2 : Cond.static Lib.Math.max.name ∈ li_ws) (w3 : Cond.initialized "java/lang/Math" ∈ li_ws) (w4 : Cond.code Lib.Math.max.name Lib.Math.max.code 2 (some .int) ∈ li_ws) (hc : (st.map fun v => v.category).sum ≤ 8)
    (kk : li_T l Z Y d (pc + 3) lo (.int (if x < y then y else x) :: st) M Q) : li_T l Z Y d pc lo (.int y :: .int x :: st) M Q :=
  fun p e s m args below meth c C K H locs ls hH hS hl => va_mmax C.1 C.2.1 (C.2.2.1.trans hl.1.symm) C.2.2.2.1 (C.2.2.2.2.1 _ w1) (C.2.2.2.2.1 _ w2) (C.2.2.2.2.1 _ w3) (C.2.2.2.2.1 _ w4) hdd (by show _ + 13 ≤ 60 * d; omega) (Nat.le_refl _) (Nat.le_refl _) hd (kk p e s m args below meth c C K H locs ls hH hS hl)
theorem li_mmin {x y : Int32} (hd : decode Y.2.1 pc = .ok (.invokestatic ix, 3)) (hdd : 1 ≤ d) (w1 : Cond.methodLink Y.1.cls ix Lib.Math.min.name ∈ li_ws) (w2 : Cond.static Lib.Math.min.name ∈ li_ws) (w3 : Cond.initialized "java/lang/Math" ∈ li_ws) (w4 : Cond.code Lib.Math.min.name Lib.Math.min.code 2 (some .int) ∈ li_ws) (hc : (st.map fun v => v.category).sum ≤ 8)
    (kk : li_T l Z Y d (pc + 3) lo (.int (if y < x then y else x) :: st) M Q) : li_T l Z Y d pc lo (.int y :: .int x :: st) M Q :=
  fun p e s m args below meth c C K H locs ls hH hS hl => va_mmin C.1 C.2.1 (C.2.2.1.trans hl.1.symm) C.2.2.2.1 (C.2.2.2.2.1 _ w1) (C.2.2.2.2.1 _ w2) (C.2.2.2.2.1 _ w3) (C.2.2.2.2.1 _ w4) hdd (by show _ + 13 ≤ 60 * d; omega) (Nat.le_refl _) (Nat.le_refl _) hd (kk p e s m args below meth c C K H locs ls hH hS hl)
theorem li_mabs {x : Int32} (hd : decode Y.2.1 pc = .ok (.invokestatic ix, 3)) (hdd : 1 ≤ d) (w1 : Cond.methodLink Y.1.cls ix Lib.Math.abs.name ∈ li_ws) (w2 : Cond.static Lib.Math.abs.name ∈ li_ws) (w3 : Cond.initialized "java/lang/Math" ∈ li_ws) (w4 : Cond.code Lib.Math.abs.name Lib.Math.abs.code 1 (some .int) ∈ li_ws) (hc : (st.map fun v => v.category).sum ≤ 8)
    (kk : li_T l Z Y d (pc + 3) lo (.int (if 0 ≤ x then x else 0 - x) :: st) M Q) : li_T l Z Y d pc lo (.int x :: st) M Q :=
  fun p e s m args below meth c C K H locs ls hH hS hl => va_mabs C.1 C.2.1 (C.2.2.1.trans hl.1.symm) C.2.2.2.1 (C.2.2.2.2.1 _ w1) (C.2.2.2.2.1 _ w2) (C.2.2.2.2.1 _ w3) (C.2.2.2.2.1 _ w4) hdd (by show _ + 13 ≤ 60 * d; omega) (Nat.le_refl _) (Nat.le_refl _) hd (kk p e s m args below meth c C K H locs ls hH hS hl)
theorem li_mminL {x y : Int64} (hd : decode Y.2.1 pc = .ok (.invokestatic ix, 3)) (hdd : 1 ≤ d) (w1 : Cond.methodLink Y.1.cls ix Lib.MathLoose.min_long.x ∈ li_ws) (w2 : Cond.static Lib.MathLoose.min_long.x ∈ li_ws) (w3 : Cond.initialized "java/lang/Math" ∈ li_ws) (w4 : Cond.code Lib.MathLoose.min_long.x Lib.MathLoose.min_long.code 4 (some .long) ∈ li_ws) (hc : (st.map fun v => v.category).sum ≤ 8)
    (kk : li_T l Z Y d (pc + 3) lo (.long (if y < x then y else x) :: st) M Q) : li_T l Z Y d pc lo (.long y :: .long x :: st) M Q :=
  fun p e s m args below meth c C K H locs ls hH hS hl => va_mmin_long C.1 C.2.1 (C.2.2.1.trans hl.1.symm) C.2.2.2.1 (C.2.2.2.2.1 _ w1) (C.2.2.2.2.1 _ w2) (C.2.2.2.2.1 _ w3) (C.2.2.2.2.1 _ w4) hdd (by show _ + 15 ≤ 60 * d; omega) (Nat.le_refl _) (Nat.le_refl _) hd (kk p e s m args below meth c C K H locs ls hH hS hl)
/-- the static row -/
theorem li_reach (hd : decode Y.2.1 pc = .ok (.getstatic ix, 3)) (hw : Cond.fieldLink Y.1.cls ix "ClockForTalk$Costs" "REACH" "[I" ∈ li_ws) (kk : li_T l Z Y d (pc + 3) lo (.ref (Z.2.2 2000) :: st) M Q) : li_T l Z Y d pc lo st M Q :=
  fun p e s m args below meth c C K H locs ls hH hS hl => va_gets C.1 C.2.1 (C := "ClockForTalk$Costs") (n := "REACH") (d := "[I") (ref := "ClockForTalk$Costs") K.2.2.2.1.1 hS C.2.2.2.1 (C.2.2.2.2.1 _ hw) (fun _ h => h) hd (kk p e s m args below meth c C K H locs ls hH hS hl)
/-- copying: a row of ints to another -/
def li_uc (M : li_M) (j : Nat) (f : Nat → Int32) : li_M := (fun a => if a = j then f else M.1 a, M.2.1, M.2.2)
def li_ucL (M : li_M) (j : Nat) (f : Nat → Int64) : li_M := (M.1, fun a => if a = j then f else M.2.1 a, M.2.2)
theorem li_fr_uc {E : Nat → Prop} {M N N' : li_M} {j : Nat} {f : Nat → Int32} (h : li_fr E M N) (hj : E j) (e : N' = li_uc N j f) : li_fr E M N' := by
  subst e
  refine ⟨fun i hi => ?_, h.2.1, h.2.2⟩
  rw [← h.1 i hi]
  have hij : i ≠ j := fun q => hi (q ▸ hj)
  simp [li_uc, hij]
theorem li_fr_ucL {E : Nat → Prop} {M N N' : li_M} {j : Nat} {f : Nat → Int64} (h : li_fr E M N) (hj : E j) (e : N' = li_ucL N j f) : li_fr E M N' := by
  subst e
  refine ⟨h.1, fun i hi => ?_, h.2.2⟩
  rw [← h.2.1 i hi]
  have hij : i ≠ j := fun q => hi (q ▸ hj)
  simp [li_ucL, hij]
end LIM
end
section
theorem sh_0 : li_sh 0 = .inl (11, [some 1, some 3, some 5, some 13, some 21, some 144, some 151, some 148, some 155, some 158, some 163, some 165, some 173, some 176]) := by decide +kernel
theorem sh_1 : li_sh 1 = .inl (7, [some 2, none, none]) := by decide +kernel
theorem sh_2 : li_sh 2 = .inr (0, 80) := by decide +kernel
theorem sh_3 : li_sh 3 = .inl (5, [some 4, none]) := by decide +kernel
theorem sh_4 : li_sh 4 = .inr (0, 14) := by decide +kernel
theorem sh_5 : li_sh 5 = .inl (8, [none, none, some 6, some 7, some 8, some 9, some 10, some 11, some 12]) := by decide +kernel
theorem sh_6 : li_sh 6 = .inr (0, 6) := by decide +kernel
theorem sh_7 : li_sh 7 = .inr (0, 6) := by decide +kernel
theorem sh_8 : li_sh 8 = .inr (0, 8) := by decide +kernel
theorem sh_9 : li_sh 9 = .inr (0, 8) := by decide +kernel
theorem sh_10 : li_sh 10 = .inr (0, 8) := by decide +kernel
theorem sh_11 : li_sh 11 = .inr (0, 8) := by decide +kernel
theorem sh_12 : li_sh 12 = .inr (0, 8) := by decide +kernel
theorem sh_13 : li_sh 13 = .inl (4, [none, none, none, none, some 14, some 15, some 16, some 17, some 18, some 19, some 20]) := by decide +kernel
theorem sh_14 : li_sh 14 = .inr (0, 6) := by decide +kernel
theorem sh_15 : li_sh 15 = .inr (0, 6) := by decide +kernel
theorem sh_16 : li_sh 16 = .inr (1, 6) := by decide +kernel
theorem sh_17 : li_sh 17 = .inr (0, 6) := by decide +kernel
theorem sh_18 : li_sh 18 = .inr (0, 6) := by decide +kernel
theorem sh_19 : li_sh 19 = .inr (0, 6) := by decide +kernel
theorem sh_20 : li_sh 20 = .inr (1, 6) := by decide +kernel
theorem sh_21 : li_sh 21 = .inl (3, [some 22, some 23, some 24, none, none, none]) := by decide +kernel
theorem sh_22 : li_sh 22 = .inr (132, 12) := by decide +kernel
theorem sh_23 : li_sh 23 = .inr (228, 2) := by decide +kernel
theorem sh_24 : li_sh 24 = .inl (4, [none, none, none, none, some 25, some 26, some 27, some 28, some 29, some 30, some 31]) := by decide +kernel
theorem sh_25 : li_sh 25 = .inr (0, 6) := by decide +kernel
theorem sh_26 : li_sh 26 = .inr (0, 6) := by decide +kernel
theorem sh_27 : li_sh 27 = .inr (1, 6) := by decide +kernel
theorem sh_28 : li_sh 28 = .inr (0, 6) := by decide +kernel
theorem sh_29 : li_sh 29 = .inr (0, 6) := by decide +kernel
theorem sh_30 : li_sh 30 = .inr (0, 6) := by decide +kernel
theorem sh_31 : li_sh 31 = .inr (1, 6) := by decide +kernel
theorem sh_32 : li_sh 32 = .inl (4, [none, none, none, none, some 33, some 34, some 35, some 36, some 37, some 38, some 39]) := by decide +kernel
theorem sh_33 : li_sh 33 = .inr (0, 6) := by decide +kernel
theorem sh_34 : li_sh 34 = .inr (0, 6) := by decide +kernel
theorem sh_35 : li_sh 35 = .inr (1, 6) := by decide +kernel
theorem sh_36 : li_sh 36 = .inr (0, 6) := by decide +kernel
theorem sh_37 : li_sh 37 = .inr (0, 6) := by decide +kernel
theorem sh_38 : li_sh 38 = .inr (0, 6) := by decide +kernel
theorem sh_39 : li_sh 39 = .inr (1, 6) := by decide +kernel
theorem sh_40 : li_sh 40 = .inl (4, [none, none, none, none, some 41, some 42, some 43, some 44, some 45, some 46, some 47]) := by decide +kernel
theorem sh_41 : li_sh 41 = .inr (0, 6) := by decide +kernel
theorem sh_42 : li_sh 42 = .inr (0, 6) := by decide +kernel
theorem sh_43 : li_sh 43 = .inr (1, 6) := by decide +kernel
theorem sh_44 : li_sh 44 = .inr (0, 6) := by decide +kernel
theorem sh_45 : li_sh 45 = .inr (0, 6) := by decide +kernel
theorem sh_46 : li_sh 46 = .inr (0, 6) := by decide +kernel
theorem sh_47 : li_sh 47 = .inr (1, 6) := by decide +kernel
theorem sh_48 : li_sh 48 = .inl (4, [none, none, none, none, some 49, some 50, some 51, some 52, some 53, some 54, some 55]) := by decide +kernel
theorem sh_49 : li_sh 49 = .inr (0, 6) := by decide +kernel
theorem sh_50 : li_sh 50 = .inr (0, 6) := by decide +kernel
theorem sh_51 : li_sh 51 = .inr (1, 6) := by decide +kernel
theorem sh_52 : li_sh 52 = .inr (0, 6) := by decide +kernel
theorem sh_53 : li_sh 53 = .inr (0, 6) := by decide +kernel
theorem sh_54 : li_sh 54 = .inr (0, 6) := by decide +kernel
theorem sh_55 : li_sh 55 = .inr (1, 6) := by decide +kernel
theorem sh_56 : li_sh 56 = .inl (4, [none, none, none, none, some 57, some 58, some 59, some 60, some 61, some 62, some 63]) := by decide +kernel
theorem sh_57 : li_sh 57 = .inr (0, 6) := by decide +kernel
theorem sh_58 : li_sh 58 = .inr (0, 6) := by decide +kernel
theorem sh_59 : li_sh 59 = .inr (1, 6) := by decide +kernel
theorem sh_60 : li_sh 60 = .inr (0, 6) := by decide +kernel
theorem sh_61 : li_sh 61 = .inr (0, 6) := by decide +kernel
theorem sh_62 : li_sh 62 = .inr (0, 6) := by decide +kernel
theorem sh_63 : li_sh 63 = .inr (1, 6) := by decide +kernel
theorem sh_64 : li_sh 64 = .inl (4, [none, none, none, none, some 65, some 66, some 67, some 68, some 69, some 70, some 71]) := by decide +kernel
theorem sh_65 : li_sh 65 = .inr (0, 6) := by decide +kernel
theorem sh_66 : li_sh 66 = .inr (0, 6) := by decide +kernel
theorem sh_67 : li_sh 67 = .inr (1, 6) := by decide +kernel
theorem sh_68 : li_sh 68 = .inr (0, 6) := by decide +kernel
theorem sh_69 : li_sh 69 = .inr (0, 6) := by decide +kernel
theorem sh_70 : li_sh 70 = .inr (0, 6) := by decide +kernel
theorem sh_71 : li_sh 71 = .inr (1, 6) := by decide +kernel
theorem sh_72 : li_sh 72 = .inl (4, [none, none, none, none, some 73, some 74, some 75, some 76, some 77, some 78, some 79]) := by decide +kernel
theorem sh_73 : li_sh 73 = .inr (0, 6) := by decide +kernel
theorem sh_74 : li_sh 74 = .inr (0, 6) := by decide +kernel
theorem sh_75 : li_sh 75 = .inr (1, 6) := by decide +kernel
theorem sh_76 : li_sh 76 = .inr (0, 6) := by decide +kernel
theorem sh_77 : li_sh 77 = .inr (0, 6) := by decide +kernel
theorem sh_78 : li_sh 78 = .inr (0, 6) := by decide +kernel
theorem sh_79 : li_sh 79 = .inr (1, 6) := by decide +kernel
theorem sh_80 : li_sh 80 = .inl (4, [none, none, none, none, some 81, some 82, some 83, some 84, some 85, some 86, some 87]) := by decide +kernel
theorem sh_81 : li_sh 81 = .inr (0, 6) := by decide +kernel
theorem sh_82 : li_sh 82 = .inr (0, 6) := by decide +kernel
theorem sh_83 : li_sh 83 = .inr (1, 6) := by decide +kernel
theorem sh_84 : li_sh 84 = .inr (0, 6) := by decide +kernel
theorem sh_85 : li_sh 85 = .inr (0, 6) := by decide +kernel
theorem sh_86 : li_sh 86 = .inr (0, 6) := by decide +kernel
theorem sh_87 : li_sh 87 = .inr (1, 6) := by decide +kernel
theorem sh_88 : li_sh 88 = .inl (4, [none, none, none, none, some 89, some 90, some 91, some 92, some 93, some 94, some 95]) := by decide +kernel
theorem sh_89 : li_sh 89 = .inr (0, 6) := by decide +kernel
theorem sh_90 : li_sh 90 = .inr (0, 6) := by decide +kernel
theorem sh_91 : li_sh 91 = .inr (1, 6) := by decide +kernel
theorem sh_92 : li_sh 92 = .inr (0, 6) := by decide +kernel
theorem sh_93 : li_sh 93 = .inr (0, 6) := by decide +kernel
theorem sh_94 : li_sh 94 = .inr (0, 6) := by decide +kernel
theorem sh_95 : li_sh 95 = .inr (1, 6) := by decide +kernel
theorem sh_96 : li_sh 96 = .inl (4, [none, none, none, none, some 97, some 98, some 99, some 100, some 101, some 102, some 103]) := by decide +kernel
theorem sh_97 : li_sh 97 = .inr (0, 6) := by decide +kernel
theorem sh_98 : li_sh 98 = .inr (0, 6) := by decide +kernel
theorem sh_99 : li_sh 99 = .inr (1, 6) := by decide +kernel
theorem sh_100 : li_sh 100 = .inr (0, 6) := by decide +kernel
theorem sh_101 : li_sh 101 = .inr (0, 6) := by decide +kernel
theorem sh_102 : li_sh 102 = .inr (0, 6) := by decide +kernel
theorem sh_103 : li_sh 103 = .inr (1, 6) := by decide +kernel
theorem sh_104 : li_sh 104 = .inl (4, [none, none, none, none, some 105, some 106, some 107, some 108, some 109, some 110, some 111]) := by decide +kernel
theorem sh_105 : li_sh 105 = .inr (0, 6) := by decide +kernel
theorem sh_106 : li_sh 106 = .inr (0, 6) := by decide +kernel
theorem sh_107 : li_sh 107 = .inr (1, 6) := by decide +kernel
theorem sh_108 : li_sh 108 = .inr (0, 6) := by decide +kernel
theorem sh_109 : li_sh 109 = .inr (0, 6) := by decide +kernel
theorem sh_110 : li_sh 110 = .inr (0, 6) := by decide +kernel
theorem sh_111 : li_sh 111 = .inr (1, 6) := by decide +kernel
theorem sh_112 : li_sh 112 = .inl (4, [none, none, none, none, some 113, some 114, some 115, some 116, some 117, some 118, some 119]) := by decide +kernel
theorem sh_113 : li_sh 113 = .inr (0, 6) := by decide +kernel
theorem sh_114 : li_sh 114 = .inr (0, 6) := by decide +kernel
theorem sh_115 : li_sh 115 = .inr (1, 6) := by decide +kernel
theorem sh_116 : li_sh 116 = .inr (0, 6) := by decide +kernel
theorem sh_117 : li_sh 117 = .inr (0, 6) := by decide +kernel
theorem sh_118 : li_sh 118 = .inr (0, 6) := by decide +kernel
theorem sh_119 : li_sh 119 = .inr (1, 6) := by decide +kernel
theorem sh_120 : li_sh 120 = .inl (4, [none, none, none, none, some 121, some 122, some 123, some 124, some 125, some 126, some 127]) := by decide +kernel
theorem sh_121 : li_sh 121 = .inr (0, 6) := by decide +kernel
theorem sh_122 : li_sh 122 = .inr (0, 6) := by decide +kernel
theorem sh_123 : li_sh 123 = .inr (1, 6) := by decide +kernel
theorem sh_124 : li_sh 124 = .inr (0, 6) := by decide +kernel
theorem sh_125 : li_sh 125 = .inr (0, 6) := by decide +kernel
theorem sh_126 : li_sh 126 = .inr (0, 6) := by decide +kernel
theorem sh_127 : li_sh 127 = .inr (1, 6) := by decide +kernel
theorem sh_128 : li_sh 128 = .inl (4, [none, none, none, none, some 129, some 130, some 131, some 132, some 133, some 134, some 135]) := by decide +kernel
theorem sh_129 : li_sh 129 = .inr (0, 6) := by decide +kernel
theorem sh_130 : li_sh 130 = .inr (0, 6) := by decide +kernel
theorem sh_131 : li_sh 131 = .inr (1, 6) := by decide +kernel
theorem sh_132 : li_sh 132 = .inr (0, 6) := by decide +kernel
theorem sh_133 : li_sh 133 = .inr (0, 6) := by decide +kernel
theorem sh_134 : li_sh 134 = .inr (0, 6) := by decide +kernel
theorem sh_135 : li_sh 135 = .inr (1, 6) := by decide +kernel
theorem sh_136 : li_sh 136 = .inl (4, [none, none, none, none, some 137, some 138, some 139, some 140, some 141, some 142, some 143]) := by decide +kernel
theorem sh_137 : li_sh 137 = .inr (0, 6) := by decide +kernel
theorem sh_138 : li_sh 138 = .inr (0, 6) := by decide +kernel
theorem sh_139 : li_sh 139 = .inr (1, 6) := by decide +kernel
theorem sh_140 : li_sh 140 = .inr (0, 6) := by decide +kernel
theorem sh_141 : li_sh 141 = .inr (0, 6) := by decide +kernel
theorem sh_142 : li_sh 142 = .inr (0, 6) := by decide +kernel
theorem sh_143 : li_sh 143 = .inr (1, 6) := by decide +kernel
theorem sh_144 : li_sh 144 = .inl (6, [some 145, some 146, some 147, none]) := by decide +kernel
theorem sh_145 : li_sh 145 = .inr (0, 80) := by decide +kernel
theorem sh_146 : li_sh 146 = .inr (0, 80) := by decide +kernel
theorem sh_147 : li_sh 147 = .inr (0, 6) := by decide +kernel
theorem sh_148 : li_sh 148 = .inl (0, [some 5, some 13, some 144, some 149, some 150, none, none, none]) := by decide +kernel
theorem sh_149 : li_sh 149 = .inr (0, 32) := by decide +kernel
theorem sh_150 : li_sh 150 = .inr (0, 8) := by decide +kernel
theorem sh_151 : li_sh 151 = .inl (6, [some 152, some 153, some 154, none]) := by decide +kernel
theorem sh_152 : li_sh 152 = .inr (0, 80) := by decide +kernel
theorem sh_153 : li_sh 153 = .inr (0, 80) := by decide +kernel
theorem sh_154 : li_sh 154 = .inr (0, 6) := by decide +kernel
theorem sh_155 : li_sh 155 = .inl (0, [some 5, some 13, some 151, some 156, some 157, none, none, none]) := by decide +kernel
theorem sh_156 : li_sh 156 = .inr (0, 32) := by decide +kernel
theorem sh_157 : li_sh 157 = .inr (0, 8) := by decide +kernel
theorem sh_158 : li_sh 158 = .inl (9, [some 5, some 13, some 148, some 159, some 160, some 161, some 162, none, none]) := by decide +kernel
theorem sh_159 : li_sh 159 = .inr (0, 36) := by decide +kernel
theorem sh_160 : li_sh 160 = .inr (0, 6) := by decide +kernel
theorem sh_161 : li_sh 161 = .inr (0, 6) := by decide +kernel
theorem sh_162 : li_sh 162 = .inr (0, 6) := by decide +kernel
theorem sh_163 : li_sh 163 = .inl (1, [some 164, none]) := by decide +kernel
theorem sh_164 : li_sh 164 = .inr (0, 33489) := by decide +kernel
theorem sh_165 : li_sh 165 = .inl (10, [some 166, some 167, some 168, some 169, some 170, some 171, some 172, none]) := by decide +kernel
theorem sh_166 : li_sh 166 = .inr (0, 30) := by decide +kernel
theorem sh_167 : li_sh 167 = .inr (0, 30) := by decide +kernel
theorem sh_168 : li_sh 168 = .inr (0, 14) := by decide +kernel
theorem sh_169 : li_sh 169 = .inr (0, 225) := by decide +kernel
theorem sh_170 : li_sh 170 = .inr (0, 15) := by decide +kernel
theorem sh_171 : li_sh 171 = .inr (0, 225) := by decide +kernel
theorem sh_172 : li_sh 172 = .inr (0, 15) := by decide +kernel
theorem sh_173 : li_sh 173 = .inl (2, [some 5, some 13, some 148, some 174, some 175, none, none, none, none]) := by decide +kernel
theorem sh_174 : li_sh 174 = .inr (0, 6) := by decide +kernel
theorem sh_175 : li_sh 175 = .inr (1, 32000) := by decide +kernel
theorem sh_176 : li_sh 176 = .inr (0, 160) := by decide +kernel
theorem sh_177 : li_sh 177 = .inl (12, [some 178, none, some 179, some 180, none, some 181, some 182, none, some 183, none, none, some 1000, none, none, none, none, some 184, some 1001, none, some 186, none, some 187, some 188, none, some 189, none, none, some 190, none, some 191, some 192, some 193, none, none, some 194, none, some 195, some 196, none, some 197, none, some 198, some 199, none, some 200, some 201, none, some 202, none, some 203, some 204, some 205]) := by decide +kernel
theorem sh_178 : li_sh 178 = .inr (0, 51) := by decide +kernel
theorem sh_179 : li_sh 179 = .inr (0, 6) := by decide +kernel
theorem sh_180 : li_sh 180 = .inr (0, 6) := by decide +kernel
theorem sh_181 : li_sh 181 = .inr (0, 40) := by decide +kernel
theorem sh_182 : li_sh 182 = .inr (2, 80) := by decide +kernel
theorem sh_183 : li_sh 183 = .inr (0, 20) := by decide +kernel
theorem sh_184 : li_sh 184 = .inr (0, 40) := by decide +kernel
theorem sh_185 : li_sh 185 = .inr (2, 40) := by decide +kernel
theorem sh_186 : li_sh 186 = .inr (2, 40) := by decide +kernel
theorem sh_187 : li_sh 187 = .inr (0, 6) := by decide +kernel
theorem sh_188 : li_sh 188 = .inr (0, 612) := by decide +kernel
theorem sh_189 : li_sh 189 = .inr (0, 51) := by decide +kernel
theorem sh_190 : li_sh 190 = .inr (0, 320) := by decide +kernel
theorem sh_191 : li_sh 191 = .inr (0, 8) := by decide +kernel
theorem sh_192 : li_sh 192 = .inr (0, 6) := by decide +kernel
theorem sh_193 : li_sh 193 = .inr (0, 6) := by decide +kernel
theorem sh_194 : li_sh 194 = .inr (3, 37210) := by decide +kernel
theorem sh_195 : li_sh 195 = .inr (0, 30) := by decide +kernel
theorem sh_196 : li_sh 196 = .inr (0, 30) := by decide +kernel
theorem sh_197 : li_sh 197 = .inr (0, 225) := by decide +kernel
theorem sh_198 : li_sh 198 = .inr (0, 15) := by decide +kernel
theorem sh_199 : li_sh 199 = .inr (0, 6) := by decide +kernel
theorem sh_200 : li_sh 200 = .inr (0, 32) := by decide +kernel
theorem sh_201 : li_sh 201 = .inr (3, 10000) := by decide +kernel
theorem sh_202 : li_sh 202 = .inr (0, 51) := by decide +kernel
theorem sh_203 : li_sh 203 = .inr (0, 102) := by decide +kernel
theorem sh_204 : li_sh 204 = .inr (3, 2) := by decide +kernel
theorem sh_205 : li_sh 205 = .inr (0, 2) := by decide +kernel
def li_lg (b : Nat) : Prop := b = 13 ∨ b = 24 ∨ b = 32 ∨ b = 40 ∨ b = 48 ∨ b = 56 ∨ b = 64 ∨ b = 72 ∨ b = 80 ∨ b = 88 ∨ b = 96 ∨ b = 104 ∨ b = 112 ∨ b = 120 ∨ b = 128 ∨ b = 136
theorem shL0 {b : Nat} (h : li_lg b) : li_sh (b) = .inl (4, [none, none, none, none, some (b + 1), some (b + 2), some (b + 3), some (b + 4), some (b + 5), some (b + 6), some (b + 7)]) := by rcases h with rfl | rfl | rfl | rfl | rfl | rfl | rfl | rfl | rfl | rfl | rfl | rfl | rfl | rfl | rfl | rfl <;> decide +kernel
theorem snL0 {b : Nat} (h : li_lg b) : b < li_N := by rcases h with rfl | rfl | rfl | rfl | rfl | rfl | rfl | rfl | rfl | rfl | rfl | rfl | rfl | rfl | rfl | rfl <;> decide +kernel
theorem lkL0 {b : Nat} (h : li_lg b) : b < 1000 := by rcases h with rfl | rfl | rfl | rfl | rfl | rfl | rfl | rfl | rfl | rfl | rfl | rfl | rfl | rfl | rfl | rfl <;> decide +kernel
theorem shL1 {b : Nat} (h : li_lg b) : li_sh (b + 1) = .inr (0, 6) := by rcases h with rfl | rfl | rfl | rfl | rfl | rfl | rfl | rfl | rfl | rfl | rfl | rfl | rfl | rfl | rfl | rfl <;> decide +kernel
theorem snL1 {b : Nat} (h : li_lg b) : b + 1 < li_N := by rcases h with rfl | rfl | rfl | rfl | rfl | rfl | rfl | rfl | rfl | rfl | rfl | rfl | rfl | rfl | rfl | rfl <;> decide +kernel
theorem lkL1 {b : Nat} (h : li_lg b) : b + 1 < 1000 := by rcases h with rfl | rfl | rfl | rfl | rfl | rfl | rfl | rfl | rfl | rfl | rfl | rfl | rfl | rfl | rfl | rfl <;> decide +kernel
theorem shL2 {b : Nat} (h : li_lg b) : li_sh (b + 2) = .inr (0, 6) := by rcases h with rfl | rfl | rfl | rfl | rfl | rfl | rfl | rfl | rfl | rfl | rfl | rfl | rfl | rfl | rfl | rfl <;> decide +kernel
theorem snL2 {b : Nat} (h : li_lg b) : b + 2 < li_N := by rcases h with rfl | rfl | rfl | rfl | rfl | rfl | rfl | rfl | rfl | rfl | rfl | rfl | rfl | rfl | rfl | rfl <;> decide +kernel
theorem lkL2 {b : Nat} (h : li_lg b) : b + 2 < 1000 := by rcases h with rfl | rfl | rfl | rfl | rfl | rfl | rfl | rfl | rfl | rfl | rfl | rfl | rfl | rfl | rfl | rfl <;> decide +kernel
theorem shL3 {b : Nat} (h : li_lg b) : li_sh (b + 3) = .inr (1, 6) := by rcases h with rfl | rfl | rfl | rfl | rfl | rfl | rfl | rfl | rfl | rfl | rfl | rfl | rfl | rfl | rfl | rfl <;> decide +kernel
theorem snL3 {b : Nat} (h : li_lg b) : b + 3 < li_N := by rcases h with rfl | rfl | rfl | rfl | rfl | rfl | rfl | rfl | rfl | rfl | rfl | rfl | rfl | rfl | rfl | rfl <;> decide +kernel
theorem lkL3 {b : Nat} (h : li_lg b) : b + 3 < 1000 := by rcases h with rfl | rfl | rfl | rfl | rfl | rfl | rfl | rfl | rfl | rfl | rfl | rfl | rfl | rfl | rfl | rfl <;> decide +kernel
theorem shL4 {b : Nat} (h : li_lg b) : li_sh (b + 4) = .inr (0, 6) := by rcases h with rfl | rfl | rfl | rfl | rfl | rfl | rfl | rfl | rfl | rfl | rfl | rfl | rfl | rfl | rfl | rfl <;> decide +kernel
theorem snL4 {b : Nat} (h : li_lg b) : b + 4 < li_N := by rcases h with rfl | rfl | rfl | rfl | rfl | rfl | rfl | rfl | rfl | rfl | rfl | rfl | rfl | rfl | rfl | rfl <;> decide +kernel
theorem lkL4 {b : Nat} (h : li_lg b) : b + 4 < 1000 := by rcases h with rfl | rfl | rfl | rfl | rfl | rfl | rfl | rfl | rfl | rfl | rfl | rfl | rfl | rfl | rfl | rfl <;> decide +kernel
theorem shL5 {b : Nat} (h : li_lg b) : li_sh (b + 5) = .inr (0, 6) := by rcases h with rfl | rfl | rfl | rfl | rfl | rfl | rfl | rfl | rfl | rfl | rfl | rfl | rfl | rfl | rfl | rfl <;> decide +kernel
theorem snL5 {b : Nat} (h : li_lg b) : b + 5 < li_N := by rcases h with rfl | rfl | rfl | rfl | rfl | rfl | rfl | rfl | rfl | rfl | rfl | rfl | rfl | rfl | rfl | rfl <;> decide +kernel
theorem lkL5 {b : Nat} (h : li_lg b) : b + 5 < 1000 := by rcases h with rfl | rfl | rfl | rfl | rfl | rfl | rfl | rfl | rfl | rfl | rfl | rfl | rfl | rfl | rfl | rfl <;> decide +kernel
theorem shL6 {b : Nat} (h : li_lg b) : li_sh (b + 6) = .inr (0, 6) := by rcases h with rfl | rfl | rfl | rfl | rfl | rfl | rfl | rfl | rfl | rfl | rfl | rfl | rfl | rfl | rfl | rfl <;> decide +kernel
theorem snL6 {b : Nat} (h : li_lg b) : b + 6 < li_N := by rcases h with rfl | rfl | rfl | rfl | rfl | rfl | rfl | rfl | rfl | rfl | rfl | rfl | rfl | rfl | rfl | rfl <;> decide +kernel
theorem lkL6 {b : Nat} (h : li_lg b) : b + 6 < 1000 := by rcases h with rfl | rfl | rfl | rfl | rfl | rfl | rfl | rfl | rfl | rfl | rfl | rfl | rfl | rfl | rfl | rfl <;> decide +kernel
theorem shL7 {b : Nat} (h : li_lg b) : li_sh (b + 7) = .inr (1, 6) := by rcases h with rfl | rfl | rfl | rfl | rfl | rfl | rfl | rfl | rfl | rfl | rfl | rfl | rfl | rfl | rfl | rfl <;> decide +kernel
theorem snL7 {b : Nat} (h : li_lg b) : b + 7 < li_N := by rcases h with rfl | rfl | rfl | rfl | rfl | rfl | rfl | rfl | rfl | rfl | rfl | rfl | rfl | rfl | rfl | rfl <;> decide +kernel
theorem lkL7 {b : Nat} (h : li_lg b) : b + 7 < 1000 := by rcases h with rfl | rfl | rfl | rfl | rfl | rfl | rfl | rfl | rfl | rfl | rfl | rfl | rfl | rfl | rfl | rfl <;> decide +kernel
def li_ru (r : Nat) : Prop := r = 144 ∨ r = 151
theorem shR0 {r : Nat} (h : li_ru r) : li_sh (r) = .inl (6, [some (r + 1), some (r + 2), some (r + 3), none]) := by rcases h with rfl | rfl <;> decide +kernel
theorem snR0 {r : Nat} (h : li_ru r) : r < li_N := by rcases h with rfl | rfl <;> decide +kernel
theorem lkR0 {r : Nat} (h : li_ru r) : r < 1000 := by rcases h with rfl | rfl <;> decide +kernel
theorem shR1 {r : Nat} (h : li_ru r) : li_sh (r + 1) = .inr (0, 80) := by rcases h with rfl | rfl <;> decide +kernel
theorem snR1 {r : Nat} (h : li_ru r) : r + 1 < li_N := by rcases h with rfl | rfl <;> decide +kernel
theorem lkR1 {r : Nat} (h : li_ru r) : r + 1 < 1000 := by rcases h with rfl | rfl <;> decide +kernel
theorem shR2 {r : Nat} (h : li_ru r) : li_sh (r + 2) = .inr (0, 80) := by rcases h with rfl | rfl <;> decide +kernel
theorem snR2 {r : Nat} (h : li_ru r) : r + 2 < li_N := by rcases h with rfl | rfl <;> decide +kernel
theorem lkR2 {r : Nat} (h : li_ru r) : r + 2 < 1000 := by rcases h with rfl | rfl <;> decide +kernel
theorem shR3 {r : Nat} (h : li_ru r) : li_sh (r + 3) = .inr (0, 6) := by rcases h with rfl | rfl <;> decide +kernel
theorem snR3 {r : Nat} (h : li_ru r) : r + 3 < li_N := by rcases h with rfl | rfl <;> decide +kernel
theorem lkR3 {r : Nat} (h : li_ru r) : r + 3 < 1000 := by rcases h with rfl | rfl <;> decide +kernel
def li_co (c : Nat) : Prop := c = 148 ∨ c = 155
theorem shC0 {c : Nat} (h : li_co c) : li_sh (c) = .inl (0, [some (5), some (13), some (c - 4), some (c + 1), some (c + 2), none, none, none]) := by rcases h with rfl | rfl <;> decide +kernel
theorem snC0 {c : Nat} (h : li_co c) : c < li_N := by rcases h with rfl | rfl <;> decide +kernel
theorem lkC0 {c : Nat} (h : li_co c) : c < 1000 := by rcases h with rfl | rfl <;> decide +kernel
theorem shC1 {c : Nat} (h : li_co c) : li_sh (c + 1) = .inr (0, 32) := by rcases h with rfl | rfl <;> decide +kernel
theorem snC1 {c : Nat} (h : li_co c) : c + 1 < li_N := by rcases h with rfl | rfl <;> decide +kernel
theorem lkC1 {c : Nat} (h : li_co c) : c + 1 < 1000 := by rcases h with rfl | rfl <;> decide +kernel
theorem shC2 {c : Nat} (h : li_co c) : li_sh (c + 2) = .inr (0, 8) := by rcases h with rfl | rfl <;> decide +kernel
theorem snC2 {c : Nat} (h : li_co c) : c + 2 < li_N := by rcases h with rfl | rfl <;> decide +kernel
theorem lkC2 {c : Nat} (h : li_co c) : c + 2 < 1000 := by rcases h with rfl | rfl <;> decide +kernel
theorem li_co_ru {c : Nat} (h : li_co c) : li_ru (c - 4) := by rcases h with rfl | rfl; exact Or.inl rfl; exact Or.inr rfl
theorem lgb_13 : li_lg 13 := by unfold li_lg; omega
theorem lgb_24 : li_lg 24 := by unfold li_lg; omega
theorem lgb_32 : li_lg 32 := by unfold li_lg; omega
theorem lgb_40 : li_lg 40 := by unfold li_lg; omega
theorem lgb_48 : li_lg 48 := by unfold li_lg; omega
theorem lgb_56 : li_lg 56 := by unfold li_lg; omega
theorem lgb_64 : li_lg 64 := by unfold li_lg; omega
theorem lgb_72 : li_lg 72 := by unfold li_lg; omega
theorem lgb_80 : li_lg 80 := by unfold li_lg; omega
theorem lgb_88 : li_lg 88 := by unfold li_lg; omega
theorem lgb_96 : li_lg 96 := by unfold li_lg; omega
theorem lgb_104 : li_lg 104 := by unfold li_lg; omega
theorem lgb_112 : li_lg 112 := by unfold li_lg; omega
theorem lgb_120 : li_lg 120 := by unfold li_lg; omega
theorem lgb_128 : li_lg 128 := by unfold li_lg; omega
theorem lgb_136 : li_lg 136 := by unfold li_lg; omega
theorem rub_144 : li_ru 144 := by unfold li_ru; omega
theorem rub_151 : li_ru 151 := by unfold li_ru; omega
theorem cob_148 : li_co 148 := by unfold li_co; omega
theorem cob_155 : li_co 155 := by unfold li_co; omega
theorem lg_ring {n : Nat} (h : n < 12) : li_lg (32 + 8 * n) := by unfold li_lg; omega
theorem lg_kept {n : Nat} (h : n < 2) : li_lg (128 + 8 * n) := by unfold li_lg; omega
theorem li_dn1 {i : Int32} (h : ¬ i < 0) : ((i + (-1)).toInt + 2147483648).toNat < ((i : Int32).toInt + 2147483648).toNat := by
  have h1 := Int32.le_iff_toInt_le.mp (Int32.not_lt.mp h)
  have h2 := Int32.toInt_lt i
  have h0 : (0 : Int32).toInt = 0 := rfl
  have e : (i + (-1)).toInt = i.toInt + (-1) := by
    rw [Int32.toInt_add]
    have : (-1 : Int32).toInt = -1 := by decide
    rw [this, Int.bmod_eq_of_le (by omega) (by omega)]
  omega
theorem li_dn8 {i : Int32} (h : ¬ i < 0) : ((i + (-8)).toInt + 2147483648).toNat < ((i : Int32).toInt + 2147483648).toNat := by
  have h1 := Int32.le_iff_toInt_le.mp (Int32.not_lt.mp h)
  have h2 := Int32.toInt_lt i
  have h0 : (0 : Int32).toInt = 0 := rfl
  have e : (i + (-8)).toInt = i.toInt + (-8) := by
    rw [Int32.toInt_add]
    have : (-8 : Int32).toInt = -8 := by decide
    rw [this, Int.bmod_eq_of_le (by omega) (by omega)]
  omega
theorem li_nlt0 {i : Int32} (h : 0 < i) : ¬ i < 0 := by
  rw [Int32.lt_iff_toInt_lt] at h ⊢
  omega
theorem nw_0 : (Jvm.Cond.methodLinkNest "ClockForTalk" (11 : Nat) ({ cls := "ClockForTalk$Text", name := "<init>", desc := "()V" } : Jvm.MethodName) "ClockForTalk") ∈ li_nw := List.mem_of_getElem? (i := 0) rfl
theorem nw_1 : (Jvm.Cond.methodLinkNest "ClockForTalk" (18 : Nat) ({ cls := "ClockForTalk$Row", name := "<init>", desc := "()V" } : Jvm.MethodName) "ClockForTalk") ∈ li_nw := List.mem_of_getElem? (i := 1) rfl
theorem nw_2 : (Jvm.Cond.methodLinkNest "ClockForTalk" (25 : Nat) ({ cls := "ClockForTalk$Town", name := "<init>", desc := "()V" } : Jvm.MethodName) "ClockForTalk") ∈ li_nw := List.mem_of_getElem? (i := 2) rfl
theorem nw_3 : (Jvm.Cond.methodLinkNest "ClockForTalk" (32 : Nat) ({ cls := "ClockForTalk$Ledger", name := "<init>", desc := "()V" } : Jvm.MethodName) "ClockForTalk") ∈ li_nw := List.mem_of_getElem? (i := 3) rfl
theorem nw_4 : (Jvm.Cond.methodLinkNest "ClockForTalk$History" (18 : Nat) ({ cls := "ClockForTalk$Ledger", name := "<init>", desc := "()V" } : Jvm.MethodName) "ClockForTalk") ∈ li_nw := List.mem_of_getElem? (i := 4) rfl
theorem nw_5 : (Jvm.Cond.methodLinkNest "ClockForTalk" (46 : Nat) ({ cls := "ClockForTalk$Rule", name := "<init>", desc := "()V" } : Jvm.MethodName) "ClockForTalk") ∈ li_nw := List.mem_of_getElem? (i := 5) rfl
theorem nw_6 : (Jvm.Cond.methodLinkNest "ClockForTalk" (56 : Nat) ({ cls := "ClockForTalk$Debates", name := "<init>", desc := "()V" } : Jvm.MethodName) "ClockForTalk") ∈ li_nw := List.mem_of_getElem? (i := 6) rfl
theorem nw_7 : (Jvm.Cond.methodLinkNest "ClockForTalk" (63 : Nat) ({ cls := "ClockForTalk$Wordings", name := "<init>", desc := "()V" } : Jvm.MethodName) "ClockForTalk") ∈ li_nw := List.mem_of_getElem? (i := 7) rfl
theorem nw_8 : (Jvm.Cond.methodLinkNest "ClockForTalk$Text" (19 : Nat) ({ cls := "ClockForTalk", name := "put", desc := "([III)V" } : Jvm.MethodName) "ClockForTalk") ∈ li_nw := List.mem_of_getElem? (i := 8) rfl
theorem nw_9 : (Jvm.Cond.methodLinkNest "ClockForTalk$Text" (26 : Nat) ({ cls := "ClockForTalk", name := "at", desc := "([II)I" } : Jvm.MethodName) "ClockForTalk") ∈ li_nw := List.mem_of_getElem? (i := 9) rfl
theorem nw_10 : (Jvm.Cond.methodLinkNest "ClockForTalk$Rule" (41 : Nat) ({ cls := "ClockForTalk", name := "put", desc := "([III)V" } : Jvm.MethodName) "ClockForTalk") ∈ li_nw := List.mem_of_getElem? (i := 10) rfl
theorem nw_11 : (Jvm.Cond.methodLinkNest "ClockForTalk$Text" (43 : Nat) ({ cls := "ClockForTalk", name := "within", desc := "(III)Z" } : Jvm.MethodName) "ClockForTalk") ∈ li_nw := List.mem_of_getElem? (i := 11) rfl
theorem nw_12 : (Jvm.Cond.methodLinkNest "ClockForTalk$Wordings" (43 : Nat) ({ cls := "ClockForTalk", name := "put", desc := "([III)V" } : Jvm.MethodName) "ClockForTalk") ∈ li_nw := List.mem_of_getElem? (i := 12) rfl
theorem nw_13 : (Jvm.Cond.methodLinkNest "ClockForTalk$Town" (66 : Nat) ({ cls := "ClockForTalk", name := "put", desc := "([III)V" } : Jvm.MethodName) "ClockForTalk") ∈ li_nw := List.mem_of_getElem? (i := 13) rfl
theorem nw_14 : (Jvm.Cond.methodLinkNest "ClockForTalk$Ledger" (61 : Nat) ({ cls := "ClockForTalk", name := "at", desc := "([II)I" } : Jvm.MethodName) "ClockForTalk") ∈ li_nw := List.mem_of_getElem? (i := 14) rfl
theorem nw_15 : (Jvm.Cond.methodLinkNest "ClockForTalk$Ledger" (65 : Nat) ({ cls := "ClockForTalk", name := "put", desc := "([III)V" } : Jvm.MethodName) "ClockForTalk") ∈ li_nw := List.mem_of_getElem? (i := 15) rfl
theorem nw_16 : (Jvm.Cond.methodLinkNest "ClockForTalk$Town" (44 : Nat) ({ cls := "ClockForTalk", name := "at", desc := "([II)I" } : Jvm.MethodName) "ClockForTalk") ∈ li_nw := List.mem_of_getElem? (i := 16) rfl
theorem nw_17 : (Jvm.Cond.methodLinkNest "ClockForTalk$Costs" (39 : Nat) ({ cls := "ClockForTalk", name := "at", desc := "([II)I" } : Jvm.MethodName) "ClockForTalk") ∈ li_nw := List.mem_of_getElem? (i := 17) rfl
theorem nw_18 : (Jvm.Cond.methodLinkNest "ClockForTalk$Costs" (56 : Nat) ({ cls := "ClockForTalk", name := "put", desc := "([III)V" } : Jvm.MethodName) "ClockForTalk") ∈ li_nw := List.mem_of_getElem? (i := 18) rfl
theorem nw_19 : (Jvm.Cond.methodLinkNest "ClockForTalk$Rule" (93 : Nat) ({ cls := "ClockForTalk", name := "at", desc := "([II)I" } : Jvm.MethodName) "ClockForTalk") ∈ li_nw := List.mem_of_getElem? (i := 19) rfl
theorem nw_20 : (Jvm.Cond.methodLinkNest "ClockForTalk$Rule" (105 : Nat) ({ cls := "ClockForTalk", name := "clamp", desc := "(II)I" } : Jvm.MethodName) "ClockForTalk") ∈ li_nw := List.mem_of_getElem? (i := 20) rfl
theorem nw_21 : (Jvm.Cond.methodLinkNest "ClockForTalk$Ledger" (78 : Nat) ({ cls := "ClockForTalk", name := "putWord", desc := "([JIJ)V" } : Jvm.MethodName) "ClockForTalk") ∈ li_nw := List.mem_of_getElem? (i := 21) rfl
theorem nw_22 : (Jvm.Cond.methodLinkNest "ClockForTalk$Ledger" (94 : Nat) ({ cls := "ClockForTalk", name := "wordAt", desc := "([JI)J" } : Jvm.MethodName) "ClockForTalk") ∈ li_nw := List.mem_of_getElem? (i := 22) rfl
theorem nw_23 : (Jvm.Cond.methodLinkNest "ClockForTalk$Ledger" (82 : Nat) ({ cls := "ClockForTalk", name := "holds", desc := "(II)Z" } : Jvm.MethodName) "ClockForTalk") ∈ li_nw := List.mem_of_getElem? (i := 23) rfl
theorem nw_24 : (Jvm.Cond.methodLinkNest "ClockForTalk$Row" (15 : Nat) ({ cls := "ClockForTalk", name := "put", desc := "([III)V" } : Jvm.MethodName) "ClockForTalk") ∈ li_nw := List.mem_of_getElem? (i := 24) rfl
theorem nw_25 : (Jvm.Cond.methodLinkNest "ClockForTalk$Costs" (112 : Nat) ({ cls := "ClockForTalk", name := "holds", desc := "(II)Z" } : Jvm.MethodName) "ClockForTalk") ∈ li_nw := List.mem_of_getElem? (i := 25) rfl
theorem nw_26 : (Jvm.Cond.methodLinkNest "ClockForTalk$WordOfMouth" (78 : Nat) ({ cls := "ClockForTalk", name := "at", desc := "([II)I" } : Jvm.MethodName) "ClockForTalk") ∈ li_nw := List.mem_of_getElem? (i := 26) rfl
theorem nw_27 : (Jvm.Cond.methodLinkNest "ClockForTalk$WordOfMouth" (46 : Nat) ({ cls := "ClockForTalk", name := "put", desc := "([III)V" } : Jvm.MethodName) "ClockForTalk") ∈ li_nw := List.mem_of_getElem? (i := 27) rfl
theorem nw_28 : (Jvm.Cond.methodLinkNest "ClockForTalk$WordOfMouth" (88 : Nat) ({ cls := "ClockForTalk", name := "holds", desc := "(II)Z" } : Jvm.MethodName) "ClockForTalk") ∈ li_nw := List.mem_of_getElem? (i := 28) rfl
theorem nw_29 : (Jvm.Cond.methodLinkNest "ClockForTalk$Row" (23 : Nat) ({ cls := "ClockForTalk", name := "clamp", desc := "(II)I" } : Jvm.MethodName) "ClockForTalk") ∈ li_nw := List.mem_of_getElem? (i := 29) rfl
theorem nw_30 : (Jvm.Cond.methodLinkNest "ClockForTalk$Row" (27 : Nat) ({ cls := "ClockForTalk", name := "at", desc := "([II)I" } : Jvm.MethodName) "ClockForTalk") ∈ li_nw := List.mem_of_getElem? (i := 30) rfl
theorem nw_31 : (Jvm.Cond.methodLinkNest "ClockForTalk$Debates" (20 : Nat) ({ cls := "ClockForTalk", name := "holds", desc := "(II)Z" } : Jvm.MethodName) "ClockForTalk") ∈ li_nw := List.mem_of_getElem? (i := 31) rfl
theorem nw_32 : (Jvm.Cond.methodLinkNest "ClockForTalk$Debates" (42 : Nat) ({ cls := "ClockForTalk", name := "at", desc := "([II)I" } : Jvm.MethodName) "ClockForTalk") ∈ li_nw := List.mem_of_getElem? (i := 32) rfl
theorem nw_33 : (Jvm.Cond.methodLinkNest "ClockForTalk$Debates" (52 : Nat) ({ cls := "ClockForTalk", name := "put", desc := "([III)V" } : Jvm.MethodName) "ClockForTalk") ∈ li_nw := List.mem_of_getElem? (i := 33) rfl
theorem nw_34 : (Jvm.Cond.methodLinkNest "ClockForTalk$Wordings" (61 : Nat) ({ cls := "ClockForTalk", name := "at", desc := "([II)I" } : Jvm.MethodName) "ClockForTalk") ∈ li_nw := List.mem_of_getElem? (i := 34) rfl
theorem nw_35 : (Jvm.Cond.methodLinkNest "ClockForTalk$Wordings" (71 : Nat) ({ cls := "ClockForTalk", name := "holds", desc := "(II)Z" } : Jvm.MethodName) "ClockForTalk") ∈ li_nw := List.mem_of_getElem? (i := 35) rfl
theorem nw_36 : (Jvm.Cond.methodLinkNest "ClockForTalk$Dusk" (31 : Nat) ({ cls := "ClockForTalk", name := "put", desc := "([III)V" } : Jvm.MethodName) "ClockForTalk") ∈ li_nw := List.mem_of_getElem? (i := 36) rfl
theorem nw_37 : (Jvm.Cond.methodLinkNest "ClockForTalk$Dusk" (59 : Nat) ({ cls := "ClockForTalk", name := "at", desc := "([II)I" } : Jvm.MethodName) "ClockForTalk") ∈ li_nw := List.mem_of_getElem? (i := 37) rfl
theorem nw_38 : (Jvm.Cond.methodLinkNest "ClockForTalk$Dusk" (85 : Nat) ({ cls := "ClockForTalk", name := "putWord", desc := "([JIJ)V" } : Jvm.MethodName) "ClockForTalk") ∈ li_nw := List.mem_of_getElem? (i := 38) rfl
theorem nw_39 : (Jvm.Cond.methodLinkNest "ClockForTalk$Dusk" (78 : Nat) ({ cls := "ClockForTalk", name := "wordAt", desc := "([JI)J" } : Jvm.MethodName) "ClockForTalk") ∈ li_nw := List.mem_of_getElem? (i := 39) rfl
theorem nw_40 : (Jvm.Cond.methodLinkNest "ClockForTalk$Dusk" (115 : Nat) ({ cls := "ClockForTalk", name := "holds", desc := "(II)Z" } : Jvm.MethodName) "ClockForTalk") ∈ li_nw := List.mem_of_getElem? (i := 40) rfl
theorem nw_41 : (Jvm.Cond.methodLinkNest "ClockForTalk$History" (43 : Nat) ({ cls := "ClockForTalk", name := "holds", desc := "(II)Z" } : Jvm.MethodName) "ClockForTalk") ∈ li_nw := List.mem_of_getElem? (i := 41) rfl

theorem li_nlt1 {i B : Int32} (h : ¬ B < i) (hB : B < 2147483647) : i < 2147483647 := Int32.lt_of_le_of_lt (Int32.not_lt.mp h) hB
theorem tl_lt {x y : Int32} (h : x < y) : x.toInt < y.toInt := Int32.lt_iff_toInt_lt.mp h
theorem tl_le {x y : Int32} (h : x ≤ y) : x.toInt ≤ y.toInt := Int32.le_iff_toInt_le.mp h
theorem tl_nlt {x y : Int32} (h : ¬ x < y) : y.toInt ≤ x.toInt := tl_le (Int32.not_lt.mp h)
theorem tl_nle {x y : Int32} (h : ¬ x ≤ y) : y.toInt < x.toInt := tl_lt (Int32.not_le.mp h)
theorem tl_eq {x y : Int32} (h : x = y) : x.toInt = y.toInt := by rw [h]
theorem tl_ne {x y : Int32} (h : ¬ x = y) : ¬ x.toInt = y.toInt := fun e => h (Int32.toInt_inj.mp e)
theorem tl_rg (x : Int32) : -2147483648 ≤ x.toInt ∧ x.toInt ≤ 2147483647 := ⟨by have := Int32.le_toInt x; omega, by have := Int32.toInt_lt x; omega⟩
theorem tl_add {x y z : Int32} (h : z = x + y) : (-2147483648 ≤ x.toInt + y.toInt ∧ x.toInt + y.toInt ≤ 2147483647) → z.toInt = x.toInt + y.toInt := by
  intro hb
  rw [h, Int32.toInt_add, Int.bmod_eq_of_le (by omega) (by omega)]
theorem tl_sub {x y z : Int32} (h : z = x - y) : (-2147483648 ≤ x.toInt - y.toInt ∧ x.toInt - y.toInt ≤ 2147483647) → z.toInt = x.toInt - y.toInt := by
  intro hb
  rw [h, Int32.toInt_sub, Int.bmod_eq_of_le (by omega) (by omega)]
theorem tl_mul {x y z : Int32} (h : z = x * y) : (-2147483648 ≤ x.toInt * y.toInt ∧ x.toInt * y.toInt ≤ 2147483647) → z.toInt = x.toInt * y.toInt := by
  intro hb
  rw [h, Int32.toInt_mul, Int.bmod_eq_of_le (by omega) (by omega)]
theorem tl_neg {x z : Int32} (h : z = -x) : (-2147483648 < x.toInt) → z.toInt = -x.toInt := by
  intro hb
  have := tl_rg x
  rw [h, Int32.toInt_neg, Int.bmod_eq_of_le (by omega) (by omega)]
theorem tl_in {i : Int32} {n : Nat} (h : 0 ≤ i.toInt ∧ i.toInt < n) : vp_in i n := vp_in_iff.mpr h
theorem tl_min {x y z : Int32} (h : z = if y < x then y else x) : (y.toInt < x.toInt → z.toInt = y.toInt) ∧ (x.toInt ≤ y.toInt → z.toInt = x.toInt) := by
  by_cases c : y < x
  · rw [if_pos c] at h; subst h; exact ⟨fun _ => rfl, fun q => absurd (tl_lt c) (by omega)⟩
  · rw [if_neg c] at h; subst h; exact ⟨fun q => absurd (tl_nlt c) (by omega), fun _ => rfl⟩
theorem tl_max {x y z : Int32} (h : z = if x < y then y else x) : (x.toInt < y.toInt → z.toInt = y.toInt) ∧ (y.toInt ≤ x.toInt → z.toInt = x.toInt) := by
  by_cases c : x < y
  · rw [if_pos c] at h; subst h; exact ⟨fun _ => rfl, fun q => absurd (tl_lt c) (by omega)⟩
  · rw [if_neg c] at h; subst h; exact ⟨fun q => absurd (tl_nlt c) (by omega), fun _ => rfl⟩
end
section
abbrev YX11_at : li_Y := (yX11_at, cX11_at, 2, (some .int))
theorem dX11_at_0 : decode cX11_at 0 = .ok (.aload_n 0, 1) := by decide +kernel
theorem dX11_at_1 : decode cX11_at 1 = .ok (.ifnull 19, 3) := by decide +kernel
theorem dX11_at_4 : decode cX11_at 4 = .ok (.iload_n 1, 1) := by decide +kernel
theorem dX11_at_5 : decode cX11_at 5 = .ok (.ifCond .lt 15, 3) := by decide +kernel
theorem dX11_at_8 : decode cX11_at 8 = .ok (.iload_n 1, 1) := by decide +kernel
theorem dX11_at_9 : decode cX11_at 9 = .ok (.aload_n 0, 1) := by decide +kernel
theorem dX11_at_10 : decode cX11_at 10 = .ok (.arraylength, 1) := by decide +kernel
theorem dX11_at_11 : decode cX11_at 11 = .ok (.if_icmp .ge 9, 3) := by decide +kernel
theorem dX11_at_14 : decode cX11_at 14 = .ok (.aload_n 0, 1) := by decide +kernel
theorem dX11_at_15 : decode cX11_at 15 = .ok (.iload_n 1, 1) := by decide +kernel
theorem dX11_at_16 : decode cX11_at 16 = .ok (.iaload, 1) := by decide +kernel
theorem dX11_at_17 : decode cX11_at 17 = .ok (.goto 4, 3) := by decide +kernel
theorem dX11_at_20 : decode cX11_at 20 = .ok (.iconst 0, 1) := by decide +kernel
theorem dX11_at_21 : decode cX11_at 21 = .ok (.ireturn, 1) := by decide +kernel
abbrev YX11_put : li_Y := (yX11_put, cX11_put, 3, none)
theorem dX11_put_0 : decode cX11_put 0 = .ok (.aload_n 0, 1) := by decide +kernel
theorem dX11_put_1 : decode cX11_put 1 = .ok (.ifnull 17, 3) := by decide +kernel
theorem dX11_put_4 : decode cX11_put 4 = .ok (.iload_n 1, 1) := by decide +kernel
theorem dX11_put_5 : decode cX11_put 5 = .ok (.ifCond .lt 13, 3) := by decide +kernel
theorem dX11_put_8 : decode cX11_put 8 = .ok (.iload_n 1, 1) := by decide +kernel
theorem dX11_put_9 : decode cX11_put 9 = .ok (.aload_n 0, 1) := by decide +kernel
theorem dX11_put_10 : decode cX11_put 10 = .ok (.arraylength, 1) := by decide +kernel
theorem dX11_put_11 : decode cX11_put 11 = .ok (.if_icmp .ge 7, 3) := by decide +kernel
theorem dX11_put_14 : decode cX11_put 14 = .ok (.aload_n 0, 1) := by decide +kernel
theorem dX11_put_15 : decode cX11_put 15 = .ok (.iload_n 1, 1) := by decide +kernel
theorem dX11_put_16 : decode cX11_put 16 = .ok (.iload_n 2, 1) := by decide +kernel
theorem dX11_put_17 : decode cX11_put 17 = .ok (.iastore, 1) := by decide +kernel
theorem dX11_put_18 : decode cX11_put 18 = .ok (.return_, 1) := by decide +kernel
abbrev YX11_wordAt : li_Y := (yX11_wordAt, cX11_wordAt, 2, (some .long))
theorem dX11_wordAt_0 : decode cX11_wordAt 0 = .ok (.aload_n 0, 1) := by decide +kernel
theorem dX11_wordAt_1 : decode cX11_wordAt 1 = .ok (.ifnull 19, 3) := by decide +kernel
theorem dX11_wordAt_4 : decode cX11_wordAt 4 = .ok (.iload_n 1, 1) := by decide +kernel
theorem dX11_wordAt_5 : decode cX11_wordAt 5 = .ok (.ifCond .lt 15, 3) := by decide +kernel
theorem dX11_wordAt_8 : decode cX11_wordAt 8 = .ok (.iload_n 1, 1) := by decide +kernel
theorem dX11_wordAt_9 : decode cX11_wordAt 9 = .ok (.aload_n 0, 1) := by decide +kernel
theorem dX11_wordAt_10 : decode cX11_wordAt 10 = .ok (.arraylength, 1) := by decide +kernel
theorem dX11_wordAt_11 : decode cX11_wordAt 11 = .ok (.if_icmp .ge 9, 3) := by decide +kernel
theorem dX11_wordAt_14 : decode cX11_wordAt 14 = .ok (.aload_n 0, 1) := by decide +kernel
theorem dX11_wordAt_15 : decode cX11_wordAt 15 = .ok (.iload_n 1, 1) := by decide +kernel
theorem dX11_wordAt_16 : decode cX11_wordAt 16 = .ok (.laload, 1) := by decide +kernel
theorem dX11_wordAt_17 : decode cX11_wordAt 17 = .ok (.goto 4, 3) := by decide +kernel
theorem dX11_wordAt_20 : decode cX11_wordAt 20 = .ok (.lconst 0, 1) := by decide +kernel
theorem dX11_wordAt_21 : decode cX11_wordAt 21 = .ok (.lreturn, 1) := by decide +kernel
abbrev YX11_putWord : li_Y := (yX11_putWord, cX11_putWord, 4, none)
theorem dX11_putWord_0 : decode cX11_putWord 0 = .ok (.aload_n 0, 1) := by decide +kernel
theorem dX11_putWord_1 : decode cX11_putWord 1 = .ok (.ifnull 17, 3) := by decide +kernel
theorem dX11_putWord_4 : decode cX11_putWord 4 = .ok (.iload_n 1, 1) := by decide +kernel
theorem dX11_putWord_5 : decode cX11_putWord 5 = .ok (.ifCond .lt 13, 3) := by decide +kernel
theorem dX11_putWord_8 : decode cX11_putWord 8 = .ok (.iload_n 1, 1) := by decide +kernel
theorem dX11_putWord_9 : decode cX11_putWord 9 = .ok (.aload_n 0, 1) := by decide +kernel
theorem dX11_putWord_10 : decode cX11_putWord 10 = .ok (.arraylength, 1) := by decide +kernel
theorem dX11_putWord_11 : decode cX11_putWord 11 = .ok (.if_icmp .ge 7, 3) := by decide +kernel
theorem dX11_putWord_14 : decode cX11_putWord 14 = .ok (.aload_n 0, 1) := by decide +kernel
theorem dX11_putWord_15 : decode cX11_putWord 15 = .ok (.iload_n 1, 1) := by decide +kernel
theorem dX11_putWord_16 : decode cX11_putWord 16 = .ok (.lload_n 2, 1) := by decide +kernel
theorem dX11_putWord_17 : decode cX11_putWord 17 = .ok (.lastore, 1) := by decide +kernel
theorem dX11_putWord_18 : decode cX11_putWord 18 = .ok (.return_, 1) := by decide +kernel
theorem nI_toInt32 {n : Nat} (h : n < 2147483648) : (nI n).toInt = (n : Int) := nI_toInt h
section LIR
variable {l : Launch} {Z : li_Z} {Y : li_Y} {d pc : Nat} {lo : List (Nat × Value)} {st : List Value} {M : li_M} {Q : Option Value → li_M → Prop}
theorem li_alenR (hd : decode Y.2.1 pc = .ok (.arraylength, 1)) (kk : li_T l Z Y d (pc + 1) lo (.int 4 :: st) M Q) : li_T l Z Y d pc lo (.ref (Z.2.2 2000) :: st) M Q := by
  intro p e s m args below meth c C K H locs ls hH hS hl
  obtain ⟨cell, h1, h2, h3, h4, h5, h6, h7⟩ := va_T.kept K.2.2.2.1.2.1 hS.2.1
  exact W.alen C.1 C.2.1 h1 h2 (n := 4) (h5.trans rfl) rfl rfl hd (kk p e s m args below meth c C K H locs ls hH hS hl)
theorem li_ialdR {i : Int32} (hi : vp_in i 4) (hd : decode Y.2.1 pc = .ok (.iaload, 1)) (kk : li_T l Z Y d (pc + 1) lo (.int (li_rf i.toNatClampNeg) :: st) M Q) : li_T l Z Y d pc lo (.int i :: .ref (Z.2.2 2000) :: st) M Q := by
  intro p e s m args below meth c C K H locs ls hH hS hl
  obtain ⟨cell, h1, h2, h3, h4, h5, h6, h7⟩ := va_T.kept K.2.2.2.1.2.1 hS.2.1
  have hlt : i.toNatClampNeg < 4 := Nat.not_le.mp fun q => hi (Or.inr q)
  exact W.iald C.1 C.2.1 h1 h2 h3 (fun q => hi (q.elim Or.inl (fun q => Or.inr (by omega)))) (h6 _ hlt) rfl rfl hd (kk p e s m args below meth c C K H locs ls hH hS hl)
end LIR
def li_at (f : Nat → Int32) (n : Nat) (i : Int32) : Int32 := if 0 ≤ i ∧ i < nI n then f i.toNatClampNeg else 0
def li_atL (f : Nat → Int64) (n : Nat) (i : Int32) : Int64 := if 0 ≤ i ∧ i < nI n then f i.toNatClampNeg else 0
def li_put (M : li_M) (j n : Nat) (i x : Int32) : li_M := if 0 ≤ i ∧ i < nI n then li_ui M j i.toNatClampNeg x else M
def li_putL (M : li_M) (j n : Nat) (i : Int32) (x : Int64) : li_M := if 0 ≤ i ∧ i < nI n then li_ul M j i.toNatClampNeg x else M
theorem li_fr_put {E : Nat → Prop} {M : li_M} {j n : Nat} {i x : Int32} (hj : E j) : li_fr E M (li_put M j n i x) := by
  unfold li_put
  by_cases h : 0 ≤ i ∧ i < nI n
  · rw [if_pos h]; exact li_fr_ui li_fr_refl hj rfl
  · rw [if_neg h]; exact li_fr_refl
theorem li_fr_putL {E : Nat → Prop} {M : li_M} {j n : Nat} {i : Int32} {x : Int64} (hj : E j) : li_fr E M (li_putL M j n i x) := by
  unfold li_putL
  by_cases h : 0 ≤ i ∧ i < nI n
  · rw [if_pos h]; exact li_fr_ul li_fr_refl hj rfl
  · rw [if_neg h]; exact li_fr_refl
theorem x_X11_at {l : Launch} {Z : li_Z} (d : Nat) (hd : 1 ≤ d) {j n : Nat} (hj : j < li_N) (hs : li_sh j = .inr (0, n)) (hn : n < 2147483648) (i : Int32) (M0 : li_M) : li_Met l Z YX11_at d [.ref (Z.2.2 j), .int i] M0 (fun r M' => r = some (.int (li_at (M0.1 j) n i)) ∧ M' = M0) := by
  refine li_enter (by decide +kernel) (Nat.le_of_ble_eq_true rfl) ?_
  show li_T l Z YX11_at d 0 [(0, .ref (Z.2.2 j)), (1, .int i)] [] M0 _
  refine li_aload_n 0 dX11_at_0 rfl ?_
  refine li_ifnull dX11_at_1 ?_
  refine li_iload_n 1 dX11_at_4 rfl ?_
  refine li_if_lt 20 dX11_at_5 (by decide) (fun c1 => ?_) (fun c1 => ?_)
  · refine li_iconst 0 dX11_at_20 (by decide) ?_
    exact li_iret dX11_at_21 rfl rfl ⟨by rw [li_at, if_neg (fun h => absurd h.1 (Int32.not_le.mpr c1))], rfl⟩
  · refine li_iload_n 1 dX11_at_8 rfl ?_
    refine li_aload_n 0 dX11_at_9 rfl ?_
    refine li_alen (nI n) dX11_at_10 hj hs (Or.inl (by decide)) rfl ?_
    refine li_icmp_ge 20 dX11_at_11 (by decide) (fun c2 => ?_) (fun c2 => ?_)
    · refine li_iconst 0 dX11_at_20 (by decide) ?_
      exact li_iret dX11_at_21 rfl rfl ⟨by rw [li_at, if_neg (fun h => absurd h.2 (Int32.not_lt.mpr c2))], rfl⟩
    · refine li_aload_n 0 dX11_at_14 rfl ?_
      refine li_iload_n 1 dX11_at_15 rfl ?_
      refine li_iald dX11_at_16 hj hs (li_in (li_ge c1) (li_gt c2) (nI_toInt32 hn)) ?_
      refine li_goto 21 dX11_at_17 (by decide) ?_
      exact li_iret dX11_at_21 rfl rfl ⟨by rw [li_at, if_pos ⟨li_ge c1, li_gt c2⟩], rfl⟩
theorem x_X11_atR {l : Launch} {Z : li_Z} (d : Nat) (hd : 1 ≤ d) (i : Int32) (M0 : li_M) : li_Met l Z YX11_at d [.ref (Z.2.2 2000), .int i] M0 (fun r M' => r = some (.int (li_at li_rf 4 i)) ∧ M' = M0) := by
  refine li_enter (by decide +kernel) (Nat.le_of_ble_eq_true rfl) ?_
  show li_T l Z YX11_at d 0 [(0, .ref (Z.2.2 2000)), (1, .int i)] [] M0 _
  refine li_aload_n 0 dX11_at_0 rfl ?_
  refine li_ifnull dX11_at_1 ?_
  refine li_iload_n 1 dX11_at_4 rfl ?_
  refine li_if_lt 20 dX11_at_5 (by decide) (fun c1 => ?_) (fun c1 => ?_)
  · refine li_iconst 0 dX11_at_20 (by decide) ?_
    exact li_iret dX11_at_21 rfl rfl ⟨by rw [li_at, if_neg (fun h => absurd h.1 (Int32.not_le.mpr c1))], rfl⟩
  · refine li_iload_n 1 dX11_at_8 rfl ?_
    refine li_aload_n 0 dX11_at_9 rfl ?_
    refine li_alenR dX11_at_10 ?_
    refine li_icmp_ge 20 dX11_at_11 (by decide) (fun c2 => ?_) (fun c2 => ?_)
    · refine li_iconst 0 dX11_at_20 (by decide) ?_
      exact li_iret dX11_at_21 rfl rfl ⟨by rw [li_at, if_neg (fun h => absurd h.2 (Int32.not_lt.mpr c2))], rfl⟩
    · refine li_aload_n 0 dX11_at_14 rfl ?_
      refine li_iload_n 1 dX11_at_15 rfl ?_
      refine li_ialdR (li_in (li_ge c1) (li_gt c2) rfl) dX11_at_16 ?_
      refine li_goto 21 dX11_at_17 (by decide) ?_
      exact li_iret dX11_at_21 rfl rfl ⟨by rw [li_at, if_pos ⟨li_ge c1, li_gt c2⟩], rfl⟩
theorem x_X11_put {l : Launch} {Z : li_Z} (d : Nat) (hd : 1 ≤ d) {j n : Nat} (hj : j < li_N) (hs : li_sh j = .inr (0, n)) (hn : n < 2147483648) (i x : Int32) (M0 : li_M) : li_Met l Z YX11_put d [.ref (Z.2.2 j), .int i, .int x] M0 (fun r M' => r = none ∧ M' = li_put M0 j n i x) := by
  refine li_enter (by decide +kernel) (Nat.le_of_ble_eq_true rfl) ?_
  show li_T l Z YX11_put d 0 [(0, .ref (Z.2.2 j)), (1, .int i), (2, .int x)] [] M0 _
  refine li_aload_n 0 dX11_put_0 rfl ?_
  refine li_ifnull dX11_put_1 ?_
  refine li_iload_n 1 dX11_put_4 rfl ?_
  refine li_if_lt 18 dX11_put_5 (by decide) (fun c1 => ?_) (fun c1 => ?_)
  · exact li_vret dX11_put_18 rfl ⟨rfl, by rw [li_put, if_neg (fun h => absurd h.1 (Int32.not_le.mpr c1))]⟩
  · refine li_iload_n 1 dX11_put_8 rfl ?_
    refine li_aload_n 0 dX11_put_9 rfl ?_
    refine li_alen (nI n) dX11_put_10 hj hs (Or.inl (by decide)) rfl ?_
    refine li_icmp_ge 18 dX11_put_11 (by decide) (fun c2 => ?_) (fun c2 => ?_)
    · exact li_vret dX11_put_18 rfl ⟨rfl, by rw [li_put, if_neg (fun h => absurd h.2 (Int32.not_lt.mpr c2))]⟩
    · refine li_aload_n 0 dX11_put_14 rfl ?_
      refine li_iload_n 1 dX11_put_15 rfl ?_
      refine li_iload_n 2 dX11_put_16 rfl ?_
      refine li_iast dX11_put_17 hj hs (li_in (li_ge c1) (li_gt c2) (nI_toInt32 hn)) ?_
      exact li_vret dX11_put_18 rfl ⟨rfl, by rw [li_put, if_pos ⟨li_ge c1, li_gt c2⟩]⟩
theorem x_X11_wordAt {l : Launch} {Z : li_Z} (d : Nat) (hd : 1 ≤ d) {j n : Nat} (hj : j < li_N) (hs : li_sh j = .inr (1, n)) (hn : n < 2147483648) (i : Int32) (M0 : li_M) : li_Met l Z YX11_wordAt d [.ref (Z.2.2 j), .int i] M0 (fun r M' => r = some (.long (li_atL (M0.2.1 j) n i)) ∧ M' = M0) := by
  refine li_enter (by decide +kernel) (Nat.le_of_ble_eq_true rfl) ?_
  show li_T l Z YX11_wordAt d 0 [(0, .ref (Z.2.2 j)), (1, .int i)] [] M0 _
  refine li_aload_n 0 dX11_wordAt_0 rfl ?_
  refine li_ifnull dX11_wordAt_1 ?_
  refine li_iload_n 1 dX11_wordAt_4 rfl ?_
  refine li_if_lt 20 dX11_wordAt_5 (by decide) (fun c1 => ?_) (fun c1 => ?_)
  · refine li_lconst 0 dX11_wordAt_20 (by decide) ?_
    exact li_lret dX11_wordAt_21 rfl ⟨by rw [li_atL, if_neg (fun h => absurd h.1 (Int32.not_le.mpr c1))], rfl⟩
  · refine li_iload_n 1 dX11_wordAt_8 rfl ?_
    refine li_aload_n 0 dX11_wordAt_9 rfl ?_
    refine li_alen (nI n) dX11_wordAt_10 hj hs (Or.inl (by decide)) rfl ?_
    refine li_icmp_ge 20 dX11_wordAt_11 (by decide) (fun c2 => ?_) (fun c2 => ?_)
    · refine li_lconst 0 dX11_wordAt_20 (by decide) ?_
      exact li_lret dX11_wordAt_21 rfl ⟨by rw [li_atL, if_neg (fun h => absurd h.2 (Int32.not_lt.mpr c2))], rfl⟩
    · refine li_aload_n 0 dX11_wordAt_14 rfl ?_
      refine li_iload_n 1 dX11_wordAt_15 rfl ?_
      refine li_lald dX11_wordAt_16 hj hs (li_in (li_ge c1) (li_gt c2) (nI_toInt32 hn)) ?_
      refine li_goto 21 dX11_wordAt_17 (by decide) ?_
      exact li_lret dX11_wordAt_21 rfl ⟨by rw [li_atL, if_pos ⟨li_ge c1, li_gt c2⟩], rfl⟩
theorem x_X11_putWord {l : Launch} {Z : li_Z} (d : Nat) (hd : 1 ≤ d) {j n : Nat} (hj : j < li_N) (hs : li_sh j = .inr (1, n)) (hn : n < 2147483648) (i : Int32) (x : Int64) (M0 : li_M) : li_Met l Z YX11_putWord d [.ref (Z.2.2 j), .int i, .long x] M0 (fun r M' => r = none ∧ M' = li_putL M0 j n i x) := by
  refine li_enter (by decide +kernel) (Nat.le_of_ble_eq_true rfl) ?_
  show li_T l Z YX11_putWord d 0 [(0, .ref (Z.2.2 j)), (1, .int i), (2, .long x)] [] M0 _
  refine li_aload_n 0 dX11_putWord_0 rfl ?_
  refine li_ifnull dX11_putWord_1 ?_
  refine li_iload_n 1 dX11_putWord_4 rfl ?_
  refine li_if_lt 18 dX11_putWord_5 (by decide) (fun c1 => ?_) (fun c1 => ?_)
  · exact li_vret dX11_putWord_18 rfl ⟨rfl, by rw [li_putL, if_neg (fun h => absurd h.1 (Int32.not_le.mpr c1))]⟩
  · refine li_iload_n 1 dX11_putWord_8 rfl ?_
    refine li_aload_n 0 dX11_putWord_9 rfl ?_
    refine li_alen (nI n) dX11_putWord_10 hj hs (Or.inl (by decide)) rfl ?_
    refine li_icmp_ge 18 dX11_putWord_11 (by decide) (fun c2 => ?_) (fun c2 => ?_)
    · exact li_vret dX11_putWord_18 rfl ⟨rfl, by rw [li_putL, if_neg (fun h => absurd h.2 (Int32.not_lt.mpr c2))]⟩
    · refine li_aload_n 0 dX11_putWord_14 rfl ?_
      refine li_iload_n 1 dX11_putWord_15 rfl ?_
      refine li_lload_n 2 dX11_putWord_16 rfl ?_
      refine li_last dX11_putWord_17 hj hs (li_in (li_ge c1) (li_gt c2) (nI_toInt32 hn)) ?_
      exact li_vret dX11_putWord_18 rfl ⟨rfl, by rw [li_putL, if_pos ⟨li_ge c1, li_gt c2⟩]⟩
theorem k_X11_at {l : Launch} {Z : li_Z} (d : Nat) (hd : 1 ≤ d) {j n : Nat} (hj : j < li_N) (hs : li_sh j = .inr (0, n)) (hn : n < 2147483648) (i : Int32) (M0 : li_M) : li_Met l Z YX11_at d [.ref (Z.2.2 j), .int i] M0 (li_SI (fun _ => False) M0) := li_mono (fun r M' h => ⟨⟨_, h.1⟩, by rw [h.2]; exact li_fr_refl⟩) (x_X11_at d hd hj hs hn i M0)
theorem k_X11_atR {l : Launch} {Z : li_Z} (d : Nat) (hd : 1 ≤ d) (i : Int32) (M0 : li_M) : li_Met l Z YX11_at d [.ref (Z.2.2 2000), .int i] M0 (li_SI (fun _ => False) M0) := li_mono (fun r M' h => ⟨⟨_, h.1⟩, by rw [h.2]; exact li_fr_refl⟩) (x_X11_atR d hd i M0)
theorem k_X11_put {l : Launch} {Z : li_Z} (d : Nat) (hd : 1 ≤ d) {j n : Nat} (hj : j < li_N) (hs : li_sh j = .inr (0, n)) (hn : n < 2147483648) (i x : Int32) (M0 : li_M) : li_Met l Z YX11_put d [.ref (Z.2.2 j), .int i, .int x] M0 (li_SV (fun i => i = j) M0) := li_mono (fun r M' h => ⟨h.1, by rw [h.2]; exact li_fr_put rfl⟩) (x_X11_put d hd hj hs hn i x M0)
theorem k_X11_wordAt {l : Launch} {Z : li_Z} (d : Nat) (hd : 1 ≤ d) {j n : Nat} (hj : j < li_N) (hs : li_sh j = .inr (1, n)) (hn : n < 2147483648) (i : Int32) (M0 : li_M) : li_Met l Z YX11_wordAt d [.ref (Z.2.2 j), .int i] M0 (li_SL (fun _ => False) M0) := li_mono (fun r M' h => ⟨⟨_, h.1⟩, by rw [h.2]; exact li_fr_refl⟩) (x_X11_wordAt d hd hj hs hn i M0)
theorem k_X11_putWord {l : Launch} {Z : li_Z} (d : Nat) (hd : 1 ≤ d) {j n : Nat} (hj : j < li_N) (hs : li_sh j = .inr (1, n)) (hn : n < 2147483648) (i : Int32) (x : Int64) (M0 : li_M) : li_Met l Z YX11_putWord d [.ref (Z.2.2 j), .int i, .long x] M0 (li_SV (fun i => i = j) M0) := li_mono (fun r M' h => ⟨h.1, by rw [h.2]; exact li_fr_putL rfl⟩) (x_X11_putWord d hd hj hs hn i x M0)
end
section
/-! COPYING whole rows -/
theorem li_cell_uc {Z : li_Z} {M : li_M} {i : Nat} {f : Nat → Int32} (hs : ∃ t n, li_sh i = .inr (t, n)) (j : Nat) (h : j ≠ i) : li_cell Z (li_uc M i f) j = li_cell Z M j := by
  have hob : ∀ (sl : List (Option Nat)) (n : Nat), li_ob Z (li_uc M i f) j n sl = li_ob Z M j n sl := by
    intro sl
    induction sl with
    | nil => intro n; rfl
    | cons o r ih =>
      intro n
      cases o with
      | none =>
        simp only [li_ob, ih]
        simp [li_uc, h]
      | some q =>
        simp only [li_ob, ih]
        rfl
  unfold li_cell
  cases li_sh j with
  | inl o => simp only [hob]
  | inr a => simp [li_ar, li_uc, h]
theorem li_cell_ucL {Z : li_Z} {M : li_M} {i : Nat} {f : Nat → Int64} (j : Nat) (h : j ≠ i) : li_cell Z (li_ucL M i f) j = li_cell Z M j := by
  have hob : ∀ (sl : List (Option Nat)) (n : Nat), li_ob Z (li_ucL M i f) j n sl = li_ob Z M j n sl := by
    intro sl
    induction sl with
    | nil => intro n; rfl
    | cons o r ih =>
      intro n
      cases o with
      | none =>
        simp only [li_ob, ih]
        rfl
      | some q =>
        simp only [li_ob, ih]
        rfl
  unfold li_cell
  cases li_sh j with
  | inl o => simp only [hob]
  | inr a => simp [li_ar, li_ucL, h]
section LIY
variable {l : Launch} {Z : li_Z} {Y : li_Y} {d pc ix : Nat} {lo : List (Nat × Value)} {st : List Value} {M : li_M} {Q : Option Value → li_M → Prop}
theorem li_nfw : nativeFrameWords "java/lang/System" "arraycopy" 5 ≤ 20 := by decide +kernel
theorem li_copyI {js jd n0 n1 : Nat} {N : Int32} (hd : decode Y.2.1 pc = .ok (.invokestatic ix, 3)) (hdd : 1 ≤ d) (w1 : Cond.methodLink Y.1.cls ix arraycopyName ∈ li_ws) (w2 : Cond.native arraycopyName ∈ li_ws) (w3 : Cond.static arraycopyName ∈ li_ws) (w4 : Cond.initialized "java/lang/System" ∈ li_ws)
    (hjs : js < li_N) (hss : li_sh js = .inr (0, n0)) (hjd : jd < li_N) (hsd : li_sh jd = .inr (0, n1)) (h3 : ¬ N < 0) (h4 : N.toNatClampNeg ≤ n0) (h5 : N.toNatClampNeg ≤ n1) (hc : (st.map fun v => v.category).sum ≤ 8)
    (kk : li_T l Z Y d (pc + 3) lo st (li_uc M jd (va_cpy (M.1 js) (M.1 jd) 0 0 N.toNatClampNeg)) Q) : li_T l Z Y d pc lo (.int N :: .int 0 :: .ref (Z.2.2 jd) :: .int 0 :: .ref (Z.2.2 js) :: st) M Q := by
  intro p e s m args below meth c C K H locs ls hH hS hl
  have hn := li_nfw
  refine va_copyi (D := Z.1) (f := M.1 js) (g := M.1 jd) C.1 C.2.1 (C.2.2.1.trans hl.1.symm) C.2.2.2.1 (C.2.2.2.2.1 _ w1) (C.2.2.2.2.1 _ w2) (C.2.2.2.2.1 _ w3) (C.2.2.2.2.1 _ w4) K.1 hH (li_D K.2.1) hS js jd 0 0 (by rw [li_get hjs, li_cellA hss]; rfl) (by rw [li_get hjd, li_cellA hsd]; rfl) rfl rfl rfl (by decide) (by decide) h3 (by show 0 + _ ≤ _; omega) (by show 0 + _ ≤ _; omega) (fun _ _ => rfl) hdd (by show _ ≤ 60 * d; omega) hd (fun H1 locs1 hP hD hS1 => ?_)
  have e0 : (li_wd Z M).set jd (Z.2.2 jd, .inl (Z.2.1 0, n1, .inl (va_cpy (M.1 js) (M.1 jd) (0 : Int32).toNatClampNeg (0 : Int32).toNatClampNeg N.toNatClampNeg))) = li_wd Z (li_uc M jd (va_cpy (M.1 js) (M.1 jd) 0 0 N.toNatClampNeg)) := by
    rw [← li_set (Z := Z) (M := M) (M' := li_uc M jd (va_cpy (M.1 js) (M.1 jd) 0 0 N.toNatClampNeg)) hjd (li_cell_uc ⟨_, _, hsd⟩), li_cellA hsd]
    simp [li_ct, li_ar, li_uc]
  rw [e0] at hP
  exact kk p e s m args below meth c C K H1 locs1 ls hP hS1 hl
theorem li_copyL {js jd n0 n1 : Nat} {N : Int32} (hd : decode Y.2.1 pc = .ok (.invokestatic ix, 3)) (hdd : 1 ≤ d) (w1 : Cond.methodLink Y.1.cls ix arraycopyName ∈ li_ws) (w2 : Cond.native arraycopyName ∈ li_ws) (w3 : Cond.static arraycopyName ∈ li_ws) (w4 : Cond.initialized "java/lang/System" ∈ li_ws)
    (hjs : js < li_N) (hss : li_sh js = .inr (1, n0)) (hjd : jd < li_N) (hsd : li_sh jd = .inr (1, n1)) (h3 : ¬ N < 0) (h4 : N.toNatClampNeg ≤ n0) (h5 : N.toNatClampNeg ≤ n1) (hc : (st.map fun v => v.category).sum ≤ 8)
    (kk : li_T l Z Y d (pc + 3) lo st (li_ucL M jd (va_cpy (M.2.1 js) (M.2.1 jd) 0 0 N.toNatClampNeg)) Q) : li_T l Z Y d pc lo (.int N :: .int 0 :: .ref (Z.2.2 jd) :: .int 0 :: .ref (Z.2.2 js) :: st) M Q := by
  intro p e s m args below meth c C K H locs ls hH hS hl
  have hn := li_nfw
  refine va_copyl (D := Z.1) (f := M.2.1 js) (g := M.2.1 jd) C.1 C.2.1 (C.2.2.1.trans hl.1.symm) C.2.2.2.1 (C.2.2.2.2.1 _ w1) (C.2.2.2.2.1 _ w2) (C.2.2.2.2.1 _ w3) (C.2.2.2.2.1 _ w4) K.1 hH (li_D K.2.1) hS js jd 1 1 (by rw [li_get hjs, li_cellA hss]; rfl) (by rw [li_get hjd, li_cellA hsd]; rfl) rfl rfl rfl (by decide) (by decide) h3 (by show 0 + _ ≤ _; omega) (by show 0 + _ ≤ _; omega) (fun _ _ => rfl) hdd (by show _ ≤ 60 * d; omega) hd (fun H1 locs1 hP hD hS1 => ?_)
  have e0 : (li_wd Z M).set jd (Z.2.2 jd, .inl (Z.2.1 1, n1, .inr (.inl (va_cpy (M.2.1 js) (M.2.1 jd) (0 : Int32).toNatClampNeg (0 : Int32).toNatClampNeg N.toNatClampNeg)))) = li_wd Z (li_ucL M jd (va_cpy (M.2.1 js) (M.2.1 jd) 0 0 N.toNatClampNeg)) := by
    rw [← li_set (Z := Z) (M := M) (M' := li_ucL M jd (va_cpy (M.2.1 js) (M.2.1 jd) 0 0 N.toNatClampNeg)) hjd li_cell_ucL, li_cellA hsd]
    simp [li_ct, li_ar, li_ucL]
  rw [e0] at hP
  exact kk p e s m args below meth c C K H1 locs1 ls hP hS1 hl
/-- a text's constant -/
theorem li_ldcS (i : Nat) (hd : decode Y.2.1 pc = .ok (.ldc ix, 2)) (hi : i < 4) (hw : (li_so i).1 = Y.1.cls ∧ (li_so i).2.1 = ix) (kk : li_T l Z Y d (pc + 2) lo (.ref (Z.2.2 (2100 + i)) :: st) M Q) : li_T l Z Y d pc lo st M Q := by
  intro p e s m args below meth c C K H locs ls hH hS hl
  have h1 := K.2.2.2.2 i hi
  rw [hw.1, hw.2] at h1
  exact va_ldcS C.1 C.2.1 C.2.2.2.1 h1 hd (kk p e s m args below meth c C K H locs ls hH hS hl)
end LIY
end
section
theorem w_118 : (Jvm.Cond.initialized "java/lang/String") ∈ li_ws := li_mem 118 (by decide +kernel) (by decide +kernel)
theorem w_119 : (Jvm.Cond.initialized "java/lang/StringLatin1") ∈ li_ws := li_mem 119 (by decide +kernel) (by decide +kernel)
theorem w_120 : (Jvm.Cond.initialized "jdk/internal/util/Preconditions") ∈ li_ws := li_mem 120 (by decide +kernel) (by decide +kernel)
theorem w_604 : (Jvm.Cond.methodLink "java/lang/String" (335 : Nat) ({ cls := "java/lang/String", name := "coder", desc := "()B" } : Jvm.MethodName)) ∈ li_ws := li_mem 604 (by decide +kernel) (by decide +kernel)
theorem w_605 : (Jvm.Cond.instanceMethod ({ cls := "java/lang/String", name := "coder", desc := "()B" } : Jvm.MethodName)) ∈ li_ws := li_mem 605 (by decide +kernel) (by decide +kernel)
theorem w_606 : (Jvm.Cond.selects "java/lang/String" ({ cls := "java/lang/String", name := "coder", desc := "()B" } : Jvm.MethodName) ({ cls := "java/lang/String", name := "coder", desc := "()B" } : Jvm.MethodName)) ∈ li_ws := li_mem 606 (by decide +kernel) (by decide +kernel)
theorem w_607 : (Jvm.Cond.code ({ cls := "java/lang/String", name := "coder", desc := "()B" } : Jvm.MethodName) prog_22_method_152_code (1 : Nat) (Option.some Jvm.ClassFile.FieldType.byte)) ∈ li_ws := li_mem 607 (by decide +kernel) (by decide +kernel)
theorem w_608 : (Jvm.Cond.fieldLink "java/lang/String" (38 : Nat) "java/lang/String" "COMPACT_STRINGS" "Z") ∈ li_ws := li_mem 608 (by decide +kernel) (by decide +kernel)
theorem w_614 : (Jvm.Cond.methodLink "java/lang/String" (492 : Nat) ({ cls := "java/lang/String", name := "isLatin1", desc := "()Z" } : Jvm.MethodName)) ∈ li_ws := li_mem 614 (by decide +kernel) (by decide +kernel)
theorem w_615 : (Jvm.Cond.instanceMethod ({ cls := "java/lang/String", name := "isLatin1", desc := "()Z" } : Jvm.MethodName)) ∈ li_ws := li_mem 615 (by decide +kernel) (by decide +kernel)
theorem w_616 : (Jvm.Cond.selects "java/lang/String" ({ cls := "java/lang/String", name := "isLatin1", desc := "()Z" } : Jvm.MethodName) ({ cls := "java/lang/String", name := "isLatin1", desc := "()Z" } : Jvm.MethodName)) ∈ li_ws := li_mem 616 (by decide +kernel) (by decide +kernel)
theorem w_617 : (Jvm.Cond.code ({ cls := "java/lang/String", name := "isLatin1", desc := "()Z" } : Jvm.MethodName) prog_22_method_154_code (1 : Nat) (Option.some Jvm.ClassFile.FieldType.boolean)) ∈ li_ws := li_mem 617 (by decide +kernel) (by decide +kernel)
theorem w_618 : (Jvm.Cond.methodLink "java/lang/String" (495 : Nat) ({ cls := "java/lang/StringLatin1", name := "charAt", desc := "([BI)C" } : Jvm.MethodName)) ∈ li_ws := li_mem 618 (by decide +kernel) (by decide +kernel)
theorem w_619 : (Jvm.Cond.static ({ cls := "java/lang/StringLatin1", name := "charAt", desc := "([BI)C" } : Jvm.MethodName)) ∈ li_ws := li_mem 619 (by decide +kernel) (by decide +kernel)
theorem w_620 : (Jvm.Cond.code ({ cls := "java/lang/StringLatin1", name := "charAt", desc := "([BI)C" } : Jvm.MethodName) prog_23_method_2_code (2 : Nat) (Option.some Jvm.ClassFile.FieldType.char)) ∈ li_ws := li_mem 620 (by decide +kernel) (by decide +kernel)
theorem w_621 : (Jvm.Cond.methodLink "java/lang/StringLatin1" (9 : Nat) ({ cls := "java/lang/String", name := "checkIndex", desc := "(II)V" } : Jvm.MethodName)) ∈ li_ws := li_mem 621 (by decide +kernel) (by decide +kernel)
theorem w_622 : (Jvm.Cond.static ({ cls := "java/lang/String", name := "checkIndex", desc := "(II)V" } : Jvm.MethodName)) ∈ li_ws := li_mem 622 (by decide +kernel) (by decide +kernel)
theorem w_623 : (Jvm.Cond.code ({ cls := "java/lang/String", name := "checkIndex", desc := "(II)V" } : Jvm.MethodName) prog_22_method_155_code (2 : Nat) (Option.none : Option Jvm.ClassFile.FieldType)) ∈ li_ws := li_mem 623 (by decide +kernel) (by decide +kernel)
theorem w_624 : (Jvm.Cond.fieldLink "java/lang/String" (1053 : Nat) "jdk/internal/util/Preconditions" "SIOOBE_FORMATTER" "Ljava/util/function/BiFunction;") ∈ li_ws := li_mem 624 (by decide +kernel) (by decide +kernel)
theorem w_626 : (Jvm.Cond.methodLink "java/lang/String" (1059 : Nat) ({ cls := "jdk/internal/util/Preconditions", name := "checkIndex", desc := "(IILjava/util/function/BiFunction;)I" } : Jvm.MethodName)) ∈ li_ws := li_mem 626 (by decide +kernel) (by decide +kernel)
theorem w_627 : (Jvm.Cond.static ({ cls := "jdk/internal/util/Preconditions", name := "checkIndex", desc := "(IILjava/util/function/BiFunction;)I" } : Jvm.MethodName)) ∈ li_ws := li_mem 627 (by decide +kernel) (by decide +kernel)
theorem w_628 : (Jvm.Cond.code ({ cls := "jdk/internal/util/Preconditions", name := "checkIndex", desc := "(IILjava/util/function/BiFunction;)I" } : Jvm.MethodName) prog_30_method_11_code (3 : Nat) (Option.some Jvm.ClassFile.FieldType.int)) ∈ li_ws := li_mem 628 (by decide +kernel) (by decide +kernel)
theorem w_2048 : (Jvm.Cond.fieldLink "java/lang/String" (9 : Nat) "java/lang/String" "value" "[B") ∈ li_ws := li_mem 2048 (by decide +kernel) (by decide +kernel)
theorem w_2049 : (Jvm.Cond.fieldLink "java/lang/String" (15 : Nat) "java/lang/String" "coder" "B") ∈ li_ws := li_mem 2049 (by decide +kernel) (by decide +kernel)
abbrev YJ0_length_8abf5 : li_Y := (yJ0_length_8abf5, cJ0_length_8abf5, 1, (some .int))
theorem dJ0_length_8abf5_0 : decode cJ0_length_8abf5 0 = .ok (.aload_n 0, 1) := by decide +kernel
theorem dJ0_length_8abf5_1 : decode cJ0_length_8abf5 1 = .ok (.getfield 9, 3) := by decide +kernel
theorem dJ0_length_8abf5_4 : decode cJ0_length_8abf5 4 = .ok (.arraylength, 1) := by decide +kernel
theorem dJ0_length_8abf5_5 : decode cJ0_length_8abf5 5 = .ok (.aload_n 0, 1) := by decide +kernel
theorem dJ0_length_8abf5_6 : decode cJ0_length_8abf5 6 = .ok (.invokevirtual 335, 3) := by decide +kernel
theorem dJ0_length_8abf5_9 : decode cJ0_length_8abf5 9 = .ok (.ishr, 1) := by decide +kernel
theorem dJ0_length_8abf5_10 : decode cJ0_length_8abf5 10 = .ok (.ireturn, 1) := by decide +kernel
abbrev YJ0_coder_7d493 : li_Y := (yJ0_coder_7d493, cJ0_coder_7d493, 1, (some .byte))
theorem dJ0_coder_7d493_0 : decode cJ0_coder_7d493 0 = .ok (.getstatic 38, 3) := by decide +kernel
theorem dJ0_coder_7d493_3 : decode cJ0_coder_7d493 3 = .ok (.ifCond .eq 10, 3) := by decide +kernel
theorem dJ0_coder_7d493_6 : decode cJ0_coder_7d493 6 = .ok (.aload_n 0, 1) := by decide +kernel
theorem dJ0_coder_7d493_7 : decode cJ0_coder_7d493 7 = .ok (.getfield 15, 3) := by decide +kernel
theorem dJ0_coder_7d493_10 : decode cJ0_coder_7d493 10 = .ok (.goto 4, 3) := by decide +kernel
theorem dJ0_coder_7d493_13 : decode cJ0_coder_7d493 13 = .ok (.iconst 1, 1) := by decide +kernel
theorem dJ0_coder_7d493_14 : decode cJ0_coder_7d493 14 = .ok (.ireturn, 1) := by decide +kernel
abbrev YJ0_charAt_5068e : li_Y := (yJ0_charAt_5068e, cJ0_charAt_5068e, 2, (some .char))
theorem dJ0_charAt_5068e_0 : decode cJ0_charAt_5068e 0 = .ok (.aload_n 0, 1) := by decide +kernel
theorem dJ0_charAt_5068e_1 : decode cJ0_charAt_5068e 1 = .ok (.invokevirtual 492, 3) := by decide +kernel
theorem dJ0_charAt_5068e_4 : decode cJ0_charAt_5068e 4 = .ok (.ifCond .eq 12, 3) := by decide +kernel
theorem dJ0_charAt_5068e_7 : decode cJ0_charAt_5068e 7 = .ok (.aload_n 0, 1) := by decide +kernel
theorem dJ0_charAt_5068e_8 : decode cJ0_charAt_5068e 8 = .ok (.getfield 9, 3) := by decide +kernel
theorem dJ0_charAt_5068e_11 : decode cJ0_charAt_5068e 11 = .ok (.iload_n 1, 1) := by decide +kernel
theorem dJ0_charAt_5068e_12 : decode cJ0_charAt_5068e 12 = .ok (.invokestatic 495, 3) := by decide +kernel
theorem dJ0_charAt_5068e_15 : decode cJ0_charAt_5068e 15 = .ok (.ireturn, 1) := by decide +kernel
theorem dJ0_charAt_5068e_16 : decode cJ0_charAt_5068e 16 = .ok (.aload_n 0, 1) := by decide +kernel
theorem dJ0_charAt_5068e_17 : decode cJ0_charAt_5068e 17 = .ok (.getfield 9, 3) := by decide +kernel
theorem dJ0_charAt_5068e_20 : decode cJ0_charAt_5068e 20 = .ok (.iload_n 1, 1) := by decide +kernel
theorem dJ0_charAt_5068e_21 : decode cJ0_charAt_5068e 21 = .ok (.invokestatic 498, 3) := by decide +kernel
theorem dJ0_charAt_5068e_24 : decode cJ0_charAt_5068e 24 = .ok (.ireturn, 1) := by decide +kernel
abbrev YJ0_isLatin1_aae02 : li_Y := (yJ0_isLatin1_aae02, cJ0_isLatin1_aae02, 1, (some .boolean))
theorem dJ0_isLatin1_aae02_0 : decode cJ0_isLatin1_aae02 0 = .ok (.getstatic 38, 3) := by decide +kernel
theorem dJ0_isLatin1_aae02_3 : decode cJ0_isLatin1_aae02 3 = .ok (.ifCond .eq 14, 3) := by decide +kernel
theorem dJ0_isLatin1_aae02_6 : decode cJ0_isLatin1_aae02 6 = .ok (.aload_n 0, 1) := by decide +kernel
theorem dJ0_isLatin1_aae02_7 : decode cJ0_isLatin1_aae02 7 = .ok (.getfield 15, 3) := by decide +kernel
theorem dJ0_isLatin1_aae02_10 : decode cJ0_isLatin1_aae02 10 = .ok (.ifCond .ne 7, 3) := by decide +kernel
theorem dJ0_isLatin1_aae02_13 : decode cJ0_isLatin1_aae02 13 = .ok (.iconst 1, 1) := by decide +kernel
theorem dJ0_isLatin1_aae02_14 : decode cJ0_isLatin1_aae02 14 = .ok (.goto 4, 3) := by decide +kernel
theorem dJ0_isLatin1_aae02_17 : decode cJ0_isLatin1_aae02 17 = .ok (.iconst 0, 1) := by decide +kernel
theorem dJ0_isLatin1_aae02_18 : decode cJ0_isLatin1_aae02 18 = .ok (.ireturn, 1) := by decide +kernel
abbrev YJ1_charAt_3b067 : li_Y := (yJ1_charAt_3b067, cJ1_charAt_3b067, 2, (some .char))
theorem dJ1_charAt_3b067_0 : decode cJ1_charAt_3b067 0 = .ok (.iload_n 1, 1) := by decide +kernel
theorem dJ1_charAt_3b067_1 : decode cJ1_charAt_3b067 1 = .ok (.aload_n 0, 1) := by decide +kernel
theorem dJ1_charAt_3b067_2 : decode cJ1_charAt_3b067 2 = .ok (.arraylength, 1) := by decide +kernel
theorem dJ1_charAt_3b067_3 : decode cJ1_charAt_3b067 3 = .ok (.invokestatic 9, 3) := by decide +kernel
theorem dJ1_charAt_3b067_6 : decode cJ1_charAt_3b067 6 = .ok (.aload_n 0, 1) := by decide +kernel
theorem dJ1_charAt_3b067_7 : decode cJ1_charAt_3b067 7 = .ok (.iload_n 1, 1) := by decide +kernel
theorem dJ1_charAt_3b067_8 : decode cJ1_charAt_3b067 8 = .ok (.baload, 1) := by decide +kernel
theorem dJ1_charAt_3b067_9 : decode cJ1_charAt_3b067 9 = .ok (.sipush 255, 3) := by decide +kernel
theorem dJ1_charAt_3b067_12 : decode cJ1_charAt_3b067 12 = .ok (.iand, 1) := by decide +kernel
theorem dJ1_charAt_3b067_13 : decode cJ1_charAt_3b067 13 = .ok (.i2c, 1) := by decide +kernel
theorem dJ1_charAt_3b067_14 : decode cJ1_charAt_3b067 14 = .ok (.ireturn, 1) := by decide +kernel
abbrev YJ0_checkIndex_df160 : li_Y := (yJ0_checkIndex_df160, cJ0_checkIndex_df160, 2, none)
theorem dJ0_checkIndex_df160_0 : decode cJ0_checkIndex_df160 0 = .ok (.iload_n 0, 1) := by decide +kernel
theorem dJ0_checkIndex_df160_1 : decode cJ0_checkIndex_df160 1 = .ok (.iload_n 1, 1) := by decide +kernel
theorem dJ0_checkIndex_df160_2 : decode cJ0_checkIndex_df160 2 = .ok (.getstatic 1053, 3) := by decide +kernel
theorem dJ0_checkIndex_df160_5 : decode cJ0_checkIndex_df160 5 = .ok (.invokestatic 1059, 3) := by decide +kernel
theorem dJ0_checkIndex_df160_8 : decode cJ0_checkIndex_df160 8 = .ok (.pop, 1) := by decide +kernel
theorem dJ0_checkIndex_df160_9 : decode cJ0_checkIndex_df160 9 = .ok (.return_, 1) := by decide +kernel
abbrev YJ3_checkIndex_8e157 : li_Y := (yJ3_checkIndex_8e157, cJ3_checkIndex_8e157, 3, (some .int))
theorem dJ3_checkIndex_8e157_0 : decode cJ3_checkIndex_8e157 0 = .ok (.iload_n 0, 1) := by decide +kernel
theorem dJ3_checkIndex_8e157_1 : decode cJ3_checkIndex_8e157 1 = .ok (.ifCond .lt 8, 3) := by decide +kernel
theorem dJ3_checkIndex_8e157_4 : decode cJ3_checkIndex_8e157 4 = .ok (.iload_n 0, 1) := by decide +kernel
theorem dJ3_checkIndex_8e157_5 : decode cJ3_checkIndex_8e157 5 = .ok (.iload_n 1, 1) := by decide +kernel
theorem dJ3_checkIndex_8e157_6 : decode cJ3_checkIndex_8e157 6 = .ok (.if_icmp .lt 10, 3) := by decide +kernel
theorem dJ3_checkIndex_8e157_9 : decode cJ3_checkIndex_8e157 9 = .ok (.aload_n 2, 1) := by decide +kernel
theorem dJ3_checkIndex_8e157_10 : decode cJ3_checkIndex_8e157 10 = .ok (.iload_n 0, 1) := by decide +kernel
theorem dJ3_checkIndex_8e157_11 : decode cJ3_checkIndex_8e157 11 = .ok (.iload_n 1, 1) := by decide +kernel
theorem dJ3_checkIndex_8e157_12 : decode cJ3_checkIndex_8e157 12 = .ok (.invokestatic 95, 3) := by decide +kernel
theorem dJ3_checkIndex_8e157_15 : decode cJ3_checkIndex_8e157 15 = .ok (.athrow, 1) := by decide +kernel
theorem dJ3_checkIndex_8e157_16 : decode cJ3_checkIndex_8e157 16 = .ok (.iload_n 0, 1) := by decide +kernel
theorem dJ3_checkIndex_8e157_17 : decode cJ3_checkIndex_8e157 17 = .ok (.ireturn, 1) := by decide +kernel
section LIST
variable {l : Launch} {Z : li_Z} {Y Y' : li_Y} {d d' pc ix : Nat} {lo : List (Nat × Value)} {st rest : List Value} {M : li_M} {Q Q' : Option Value → li_M → Prop}
theorem li_compact (hd : decode Y.2.1 pc = .ok (.getstatic ix, 3)) (hw : Cond.fieldLink Y.1.cls ix "java/lang/String" "COMPACT_STRINGS" "Z" ∈ li_ws) (kk : li_T l Z Y d (pc + 3) lo (.int 1 :: st) M Q) : li_T l Z Y d pc lo st M Q :=
  fun p e s m args below meth c C K H locs ls hH hS hl => va_gets C.1 C.2.1 (C := "java/lang/String") (n := "COMPACT_STRINGS") (d := "Z") (ref := "java/lang/String") K.2.2.2.1.2.2.2.1 hS C.2.2.2.1 (C.2.2.2.2.1 _ hw) (fun _ h => h) hd (kk p e s m args below meth c C K H locs ls hH hS hl)
theorem li_sioobe (hd : decode Y.2.1 pc = .ok (.getstatic ix, 3)) (hw : Cond.fieldLink Y.1.cls ix "jdk/internal/util/Preconditions" "SIOOBE_FORMATTER" "Ljava/util/function/BiFunction;" ∈ li_ws) (kk : ∀ v : Value, (v = .null ∨ ∃ t : Nat, v = .ref t) → li_T l Z Y d (pc + 3) lo (v :: st) M Q) : li_T l Z Y d pc lo st M Q := by
  intro p e s m args below meth c C K H locs ls hH hS hl
  rcases K.2.2.2.1.2.2.2.2 with h | ⟨t, h⟩
  · exact va_gets C.1 C.2.1 (ref := "jdk/internal/util/Preconditions") h hS C.2.2.2.1 (C.2.2.2.2.1 _ hw) (fun _ h => h) hd (kk .null (Or.inl rfl) p e s m args below meth c C K H locs ls hH hS hl)
  · exact va_gets C.1 C.2.1 (ref := "jdk/internal/util/Preconditions") h hS C.2.2.2.1 (C.2.2.2.2.1 _ hw) (fun _ h => h) hd (kk (.ref t) (Or.inr ⟨t, rfl⟩) p e s m args below meth c C K H locs ls hH hS hl)
theorem li_getV {i : Nat} (hi : i < 4) (hd : decode Y.2.1 pc = .ok (.getfield ix, 3)) (hw : Cond.fieldLink Y.1.cls ix "java/lang/String" "value" "[B" ∈ li_ws) (kk : li_T l Z Y d (pc + 3) lo (.ref (Z.2.2 (2200 + i)) :: st) M Q) : li_T l Z Y d pc lo (.ref (Z.2.2 (2100 + i)) :: st) M Q :=
  fun p e s m args below meth c C K H locs ls hH hS hl => vk_getf C.1 C.2.1 (ref := "java/lang/String") (K.2.2.2.1.2.2.1.1 i hi).2.2.1 hS C.2.2.2.1 (C.2.2.2.2.1 _ hw) (fun _ h => h) hd (kk p e s m args below meth c C K H locs ls hH hS hl)
theorem li_getC {i : Nat} (hi : i < 4) (hd : decode Y.2.1 pc = .ok (.getfield ix, 3)) (hw : Cond.fieldLink Y.1.cls ix "java/lang/String" "coder" "B" ∈ li_ws) (kk : li_T l Z Y d (pc + 3) lo (.int 0 :: st) M Q) : li_T l Z Y d pc lo (.ref (Z.2.2 (2100 + i)) :: st) M Q :=
  fun p e s m args below meth c C K H locs ls hH hS hl => vk_getf C.1 C.2.1 (ref := "java/lang/String") (K.2.2.2.1.2.2.1.1 i hi).2.1 hS C.2.2.2.1 (C.2.2.2.2.1 _ hw) (fun _ h => h) hd (kk p e s m args below meth c C K H locs ls hH hS hl)
theorem li_alenS {i : Nat} (hi : i < 4) (hd : decode Y.2.1 pc = .ok (.arraylength, 1)) (kk : li_T l Z Y d (pc + 1) lo (.int (nI (li_len.getD i 0)) :: st) M Q) : li_T l Z Y d pc lo (.ref (Z.2.2 (2200 + i)) :: st) M Q := by
  intro p e s m args below meth c C K H locs ls hH hS hl
  obtain ⟨cell, h1, h2, h3, h4, h5, h6, h7⟩ := va_T.kept (K.2.2.2.1.2.2.1.1 i hi).2.2.2 hS.2.1
  exact W.alen C.1 C.2.1 h1 h2 (n := nI (li_len.getD i 0)) h5 rfl rfl hd (kk p e s m args below meth c C K H locs ls hH hS hl)
theorem li_baldS {i : Nat} {k : Int32} (hi : i < 4) (hk : vp_in k (li_len.getD i 0)) (hd : decode Y.2.1 pc = .ok (.baload, 1)) (kk : li_T l Z Y d (pc + 1) lo (.int ((li_byt.getD i []).getD k.toNatClampNeg 0) :: st) M Q) : li_T l Z Y d pc lo (.int k :: .ref (Z.2.2 (2200 + i)) :: st) M Q := by
  intro p e s m args below meth c C K H locs ls hH hS hl
  obtain ⟨cell, h1, h2, h3, h4, h5, h6, h7⟩ := va_T.kept (K.2.2.2.1.2.2.1.1 i hi).2.2.2 hS.2.1
  have hlt : k.toNatClampNeg < li_len.getD i 0 := Nat.not_le.mp fun q => hk (Or.inr q)
  exact W.bald C.1 C.2.1 h1 h2 h3 (fun q => hk (q.elim Or.inl (fun q => Or.inr (by omega)))) (h6 _ hlt) rfl rfl hd (kk p e s m args below meth c C K H locs ls hH hS hl)
theorem li_callT {As : List Value} {i n : Nat} (hi : i < 4) (hd : decode Y.2.1 pc = .ok (.invokevirtual ix, 3)) (hM : li_Met l Z Y' d' (.ref (Z.2.2 (2100 + i)) :: As) M Q') (hdd : d' + 1 ≤ d) (hml : Y'.2.2.1 ≤ 41) (hcl : Y'.1.cls = "java/lang/String")
    (w1 : Cond.methodLink Y.1.cls ix Y'.1 ∈ li_ws) (w2 : Cond.instanceMethod Y'.1 ∈ li_ws) (w3 : Cond.selects Y'.1.cls Y'.1 Y'.1 ∈ li_ws) (w4 : Cond.initialized Y'.1.cls ∈ li_ws) (w5 : Cond.code Y'.1 Y'.2.1 Y'.2.2.1 Y'.2.2.2 ∈ li_ws)
    (hy : Y'.1.cls ≠ "java/lang/invoke/MethodHandle" ∧ Y'.1.cls ≠ "java/lang/invoke/VarHandle" ∧ (parseMethodDescriptor Y'.1.desc).map (fun d => d.parameters.length) = some n) (hn : As.length = n)
    (hst : st = As.reverse ++ .ref (Z.2.2 (2100 + i)) :: rest) (hcat : (rest.map fun v => v.category).sum ≤ 8)
    (kk : ∀ (r : Option Value) (M' : li_M), Q' r M' → li_T l Z Y d (pc + 3) lo (r.toList ++ rest) M' Q) : li_T l Z Y d pc lo st M Q := by
  intro p e s m args below meth c C K H locs ls hH hS hl
  have hrun := va_runV (R := li_rm d) (e := e) (below := below) (meth := meth) (locs := locs) (cells := 0) (slots := 0) (As := As) (rest := rest) (n := n) (g := F0 m pc ls st) (index := ix) (own := Y.1.cls) (C := Y'.1.cls) (b := Z.2.2 (2100 + i)) (H := H) (Ts := li_ws)
    ⟨C.1, C.2.1, C.2.2.1, C.2.2.2.1, C.2.2.2.2.1⟩ hM
    (cwV n C.2.2.2.2.1 (fun w hw => by
      rcases List.mem_append.mp (by unfold wsV at hw; exact hw) with h | h
      · have hm : w ∈ li_ws := by
          simp only [List.mem_cons, List.not_mem_nil, or_false] at h
          rcases h with rfl | rfl | rfl | rfl
          · exact w1
          · exact w2
          · exact w3
          · exact w4
        exact ⟨hm, good_of_word (List.mem_filter.mp hm).2⟩
      · exact li_good w5 w h) rfl rfl rfl ⟨rfl, hy⟩ ⟨hdd, by show 8 + (Y'.2.2.1 + 11) + 60 * d' ≤ 60 * d; omega⟩)
    ⟨li_blind, by rw [hcl]; exact vk_recv (i := i) K.2.2.2.1.2.2.1 hi hS, fun U hU hW => ⟨rfl, by rw [hU]; exact hH, li_K_warm hW hU hS K⟩⟩ rfl hn hl.1 hst (lv_room hcat) hd ⟨Nat.le_refl _, Nat.le_refl _⟩
  exact li_behind hrun hS (fun r M' H1 locs1 hq hH1 hS1 => kk r M' hq p e s m args below meth c C K H1 locs1 ls hH1 hS1 hl)
theorem li_aloadA {k : Fin 4} {v : Value} (q : Nat) (hv : ∃ x : Nat, v = .ref x) (hd : decode Y.2.1 pc = .ok (.aload_n k, 1)) (hk : lo[q]? = some ((k : Nat), v)) (kk : li_T l Z Y d (pc + 1) lo (v :: st) M Q) : li_T l Z Y d pc lo st M Q := by
  obtain ⟨x, rfl⟩ := hv
  exact li_aload_n q hd hk kk
end LIST
theorem x_J3_checkIndex {l : Launch} {Z : li_Z} (d : Nat) (hd : 1 ≤ d) (i n : Int32) (v : Value) (hv : v = .null ∨ ∃ t : Nat, v = .ref t) (h1 : 0 ≤ i) (h2 : i < n) (M0 : li_M) : li_Met l Z YJ3_checkIndex_8e157 d [.int i, .int n, v] M0 (fun r M' => r = some (.int i) ∧ M' = M0) := by
  refine li_enter (by decide +kernel) (by rcases hv with rfl | ⟨t, rfl⟩ <;> exact Nat.le_of_ble_eq_true rfl) ?_
  have e : lv_args 0 [.int i, .int n, v] = [(0, .int i), (1, .int n), (2, v)] := by rcases hv with rfl | ⟨t, rfl⟩ <;> rfl
  rw [e]
  refine li_iload_n 0 dJ3_checkIndex_8e157_0 rfl ?_
  refine li_if_lt 9 dJ3_checkIndex_8e157_1 (by decide) (fun c => absurd h1 (Int32.not_le.mpr c)) (fun c => ?_)
  refine li_iload_n 0 dJ3_checkIndex_8e157_4 rfl ?_
  refine li_iload_n 1 dJ3_checkIndex_8e157_5 rfl ?_
  refine li_icmp_lt 16 dJ3_checkIndex_8e157_6 (by decide) (fun c => ?_) (fun c => absurd h2 c)
  refine li_iload_n 0 dJ3_checkIndex_8e157_16 rfl ?_
  exact li_iret dJ3_checkIndex_8e157_17 rfl rfl ⟨rfl, rfl⟩
theorem x_J0_checkIndex {l : Launch} {Z : li_Z} (d : Nat) (hd : 2 ≤ d) (i n : Int32) (h1 : 0 ≤ i) (h2 : i < n) (M0 : li_M) : li_Met l Z YJ0_checkIndex_df160 d [.int i, .int n] M0 (fun r M' => r = none ∧ M' = M0) := by
  refine li_enter (by decide +kernel) (Nat.le_of_ble_eq_true rfl) ?_
  show li_T l Z YJ0_checkIndex_df160 d 0 [(0, .int i), (1, .int n)] [] M0 _
  refine li_iload_n 0 dJ0_checkIndex_df160_0 rfl ?_
  refine li_iload_n 1 dJ0_checkIndex_df160_1 rfl ?_
  refine li_sioobe dJ0_checkIndex_df160_2 w_624 (fun v hv => ?_)
  refine li_callS (n := 3) (As := [.int i, .int n, v]) dJ0_checkIndex_df160_5 (x_J3_checkIndex (d - 1) (by omega) i n v hv h1 h2 M0) (by omega) (Nat.le_of_ble_eq_true rfl) w_626 w_627 w_120 w_628 (by decide +kernel) rfl rfl (Nat.le_of_ble_eq_true rfl) (fun r M1 hq => ?_)
  obtain ⟨rfl, rfl⟩ := hq
  refine li_pop dJ0_checkIndex_df160_8 rfl ?_
  exact li_vret dJ0_checkIndex_df160_9 rfl ⟨rfl, rfl⟩
theorem x_J0_coder {l : Launch} {Z : li_Z} (d : Nat) {i : Nat} (hi : i < 4) (M0 : li_M) : li_Met l Z YJ0_coder_7d493 d [.ref (Z.2.2 (2100 + i))] M0 (fun r M' => r = some (.int 0) ∧ M' = M0) := by
  refine li_enter (by decide +kernel) (Nat.le_of_ble_eq_true rfl) ?_
  show li_T l Z YJ0_coder_7d493 d 0 [(0, .ref (Z.2.2 (2100 + i)))] [] M0 _
  refine li_compact dJ0_coder_7d493_0 w_608 ?_
  refine li_if_eq 13 dJ0_coder_7d493_3 (by decide) (fun c => absurd c (by decide)) (fun c => ?_)
  refine li_aload_n 0 dJ0_coder_7d493_6 rfl ?_
  refine li_getC hi dJ0_coder_7d493_7 w_2049 ?_
  refine li_goto 14 dJ0_coder_7d493_10 (by decide) ?_
  exact li_iret dJ0_coder_7d493_14 rfl rfl ⟨rfl, rfl⟩
theorem x_J0_isLatin1 {l : Launch} {Z : li_Z} (d : Nat) {i : Nat} (hi : i < 4) (M0 : li_M) : li_Met l Z YJ0_isLatin1_aae02 d [.ref (Z.2.2 (2100 + i))] M0 (fun r M' => r = some (.int 1) ∧ M' = M0) := by
  refine li_enter (by decide +kernel) (Nat.le_of_ble_eq_true rfl) ?_
  show li_T l Z YJ0_isLatin1_aae02 d 0 [(0, .ref (Z.2.2 (2100 + i)))] [] M0 _
  refine li_compact dJ0_isLatin1_aae02_0 w_608 ?_
  refine li_if_eq 17 dJ0_isLatin1_aae02_3 (by decide) (fun c => absurd c (by decide)) (fun c => ?_)
  refine li_aload_n 0 dJ0_isLatin1_aae02_6 rfl ?_
  refine li_getC hi dJ0_isLatin1_aae02_7 w_2049 ?_
  refine li_if_ne 17 dJ0_isLatin1_aae02_10 (by decide) (fun c => absurd rfl c) (fun c => ?_)
  refine li_iconst 1 dJ0_isLatin1_aae02_13 (by decide) ?_
  refine li_goto 18 dJ0_isLatin1_aae02_14 (by decide) ?_
  exact li_iret dJ0_isLatin1_aae02_18 rfl rfl ⟨rfl, rfl⟩
theorem x_J0_length {l : Launch} {Z : li_Z} (d : Nat) (hd : 2 ≤ d) {i : Nat} (hi : i < 4) (M0 : li_M) : li_Met l Z YJ0_length_8abf5 d [.ref (Z.2.2 (2100 + i))] M0 (fun r M' => r = some (.int (nI (li_len.getD i 0))) ∧ M' = M0) := by
  refine li_enter (by decide +kernel) (Nat.le_of_ble_eq_true rfl) ?_
  show li_T l Z YJ0_length_8abf5 d 0 [(0, .ref (Z.2.2 (2100 + i)))] [] M0 _
  refine li_aload_n 0 dJ0_length_8abf5_0 rfl ?_
  refine li_getV hi dJ0_length_8abf5_1 w_2048 ?_
  refine li_alenS hi dJ0_length_8abf5_4 ?_
  refine li_aload_n 0 dJ0_length_8abf5_5 rfl ?_
  refine li_callT (n := 0) (As := []) hi dJ0_length_8abf5_6 (x_J0_coder (d - 1) hi M0) (by omega) (Nat.le_of_ble_eq_true rfl) rfl w_604 w_605 w_606 w_118 w_607 (by decide +kernel) rfl rfl (Nat.le_of_ble_eq_true rfl) (fun r M1 hq => ?_)
  obtain ⟨rfl, rfl⟩ := hq
  refine li_ishr dJ0_length_8abf5_9 ?_
  exact li_iret dJ0_length_8abf5_10 rfl rfl ⟨by rw [sb_shr0], rfl⟩
def li_ch (i : Nat) (k : Int32) : Int32 := (((li_byt.getD i []).getD k.toNatClampNeg 0 &&& 255).toUInt32 % 65536).toInt32
theorem x_J1_charAt {l : Launch} {Z : li_Z} (d : Nat) (hd : 3 ≤ d) {i : Nat} (hi : i < 4) (k : Int32) (h1 : 0 ≤ k.toInt) (h2 : k.toInt < (li_len.getD i 0 : Nat)) (M0 : li_M) : li_Met l Z YJ1_charAt_3b067 d [.ref (Z.2.2 (2200 + i)), .int k] M0 (fun r M' => r = some (.int (li_ch i k)) ∧ M' = M0) := by
  have hl4 : li_len.getD i 0 < 7 := by rcases (show i = 0 ∨ i = 1 ∨ i = 2 ∨ i = 3 by omega) with rfl | rfl | rfl | rfl <;> decide
  have g2 : k < nI (li_len.getD i 0) := Int32.lt_iff_toInt_lt.mpr (by rw [nI_toInt (by omega)]; exact h2)
  refine li_enter (by decide +kernel) (Nat.le_of_ble_eq_true rfl) ?_
  show li_T l Z YJ1_charAt_3b067 d 0 [(0, .ref (Z.2.2 (2200 + i))), (1, .int k)] [] M0 _
  refine li_iload_n 1 dJ1_charAt_3b067_0 rfl ?_
  refine li_aload_n 0 dJ1_charAt_3b067_1 rfl ?_
  refine li_alenS hi dJ1_charAt_3b067_2 ?_
  refine li_callS (n := 2) (As := [.int k, .int (nI (li_len.getD i 0))]) dJ1_charAt_3b067_3 (x_J0_checkIndex (d - 1) (by omega) k _ (Int32.le_iff_toInt_le.mpr h1) g2 M0) (by omega) (Nat.le_of_ble_eq_true rfl) w_621 w_622 w_118 w_623 (by decide +kernel) rfl rfl (Nat.le_of_ble_eq_true rfl) (fun r M1 hq => ?_)
  obtain ⟨rfl, rfl⟩ := hq
  refine li_aload_n 0 dJ1_charAt_3b067_6 rfl ?_
  refine li_iload_n 1 dJ1_charAt_3b067_7 rfl ?_
  refine li_baldS hi (tl_in ⟨h1, h2⟩) dJ1_charAt_3b067_8 ?_
  refine li_sipush 255 dJ1_charAt_3b067_9 (by decide) ?_
  refine li_iand dJ1_charAt_3b067_12 ?_
  refine li_i2c dJ1_charAt_3b067_13 ?_
  exact li_iret dJ1_charAt_3b067_14 rfl (pk_nc _) ⟨rfl, rfl⟩
theorem x_J0_charAt {l : Launch} {Z : li_Z} (d : Nat) (hd : 4 ≤ d) {i : Nat} (hi : i < 4) (k : Int32) (h1 : 0 ≤ k.toInt) (h2 : k.toInt < (li_len.getD i 0 : Nat)) (M0 : li_M) : li_Met l Z YJ0_charAt_5068e d [.ref (Z.2.2 (2100 + i)), .int k] M0 (fun r M' => r = some (.int (li_ch i k)) ∧ M' = M0) := by
  refine li_enter (by decide +kernel) (Nat.le_of_ble_eq_true rfl) ?_
  show li_T l Z YJ0_charAt_5068e d 0 [(0, .ref (Z.2.2 (2100 + i))), (1, .int k)] [] M0 _
  refine li_aload_n 0 dJ0_charAt_5068e_0 rfl ?_
  refine li_callT (n := 0) (As := []) hi dJ0_charAt_5068e_1 (x_J0_isLatin1 (d - 1) hi M0) (by omega) (Nat.le_of_ble_eq_true rfl) rfl w_614 w_615 w_616 w_118 w_617 (by decide +kernel) rfl rfl (Nat.le_of_ble_eq_true rfl) (fun r M1 hq => ?_)
  obtain ⟨rfl, rfl⟩ := hq
  refine li_if_eq 16 dJ0_charAt_5068e_4 (by decide) (fun c => absurd c (by decide)) (fun c => ?_)
  refine li_aload_n 0 dJ0_charAt_5068e_7 rfl ?_
  refine li_getV hi dJ0_charAt_5068e_8 w_2048 ?_
  refine li_iload_n 1 dJ0_charAt_5068e_11 rfl ?_
  refine li_callS (n := 2) (As := [.ref (Z.2.2 (2200 + i)), .int k]) dJ0_charAt_5068e_12 (x_J1_charAt (d - 1) (by omega) hi k h1 h2 M1) (by omega) (Nat.le_of_ble_eq_true rfl) w_618 w_619 w_119 w_620 (by decide +kernel) rfl rfl (Nat.le_of_ble_eq_true rfl) (fun r M1 hq => ?_)
  obtain ⟨rfl, rfl⟩ := hq
  exact li_iret dJ0_charAt_5068e_15 rfl (pk_nc _) ⟨rfl, rfl⟩
theorem tl_b {x : Int32} (h : x = 0 ∨ x = 1) : x.toInt = 0 ∨ x.toInt = 1 := by rcases h with rfl | rfl; exact Or.inl rfl; exact Or.inr rfl
theorem k_J0_length {l : Launch} {Z : li_Z} (d : Nat) (hd : 2 ≤ d) {i : Nat} (hi : i < 4) (M0 : li_M) : li_Met l Z YJ0_length_8abf5 d [.ref (Z.2.2 (2100 + i))] M0 (fun r M' => (∃ x : Int32, r = some (.int x) ∧ x.toInt = (li_len.getD i 0 : Nat)) ∧ li_fr (fun _ => False) M0 M') :=
  li_mono (fun r M' h => ⟨⟨_, h.1, nI_toInt (by rcases (show i = 0 ∨ i = 1 ∨ i = 2 ∨ i = 3 by omega) with rfl | rfl | rfl | rfl <;> decide)⟩, by rw [h.2]; exact li_fr_refl⟩) (x_J0_length d hd hi M0)
theorem k_J0_charAt {l : Launch} {Z : li_Z} (d : Nat) (hd : 4 ≤ d) {i : Nat} (hi : i < 4) (k : Int32) (h1 : 0 ≤ k.toInt) (h2 : k.toInt < (li_len.getD i 0 : Nat)) (M0 : li_M) : li_Met l Z YJ0_charAt_5068e d [.ref (Z.2.2 (2100 + i)), .int k] M0 (li_SI (fun _ => False) M0) := li_mono (fun r M' h => ⟨⟨_, h.1⟩, by rw [h.2]; exact li_fr_refl⟩) (x_J0_charAt d hd hi k h1 h2 M0)
end
section
theorem w_104 : (Jvm.Cond.initialized "ClockForTalk") ∈ li_ws := li_mem 104 (by decide +kernel) (by decide +kernel)
theorem w_117 : (Jvm.Cond.initialized "java/lang/Math") ∈ li_ws := li_mem 117 (by decide +kernel) (by decide +kernel)
theorem w_662 : (Jvm.Cond.static ({ cls := "java/lang/Math", name := "max", desc := "(II)I" } : Jvm.MethodName)) ∈ li_ws := li_mem 662 (by decide +kernel) (by decide +kernel)
theorem w_663 : (Jvm.Cond.code ({ cls := "java/lang/Math", name := "max", desc := "(II)I" } : Jvm.MethodName) prog_20_method_65_code (2 : Nat) (Option.some Jvm.ClassFile.FieldType.int)) ∈ li_ws := li_mem 663 (by decide +kernel) (by decide +kernel)
theorem w_746 : (Jvm.Cond.static ({ cls := "java/lang/Math", name := "min", desc := "(II)I" } : Jvm.MethodName)) ∈ li_ws := li_mem 746 (by decide +kernel) (by decide +kernel)
theorem w_747 : (Jvm.Cond.code ({ cls := "java/lang/Math", name := "min", desc := "(II)I" } : Jvm.MethodName) prog_20_method_69_code (2 : Nat) (Option.some Jvm.ClassFile.FieldType.int)) ∈ li_ws := li_mem 747 (by decide +kernel) (by decide +kernel)
theorem w_791 : (Jvm.Cond.methodLink "ClockForTalk" (522 : Nat) ({ cls := "ClockForTalk", name := "clamp", desc := "(II)I" } : Jvm.MethodName)) ∈ li_ws := li_mem 791 (by decide +kernel) (by decide +kernel)
theorem w_792 : (Jvm.Cond.static ({ cls := "ClockForTalk", name := "clamp", desc := "(II)I" } : Jvm.MethodName)) ∈ li_ws := li_mem 792 (by decide +kernel) (by decide +kernel)
theorem w_793 : (Jvm.Cond.code ({ cls := "ClockForTalk", name := "clamp", desc := "(II)I" } : Jvm.MethodName) prog_1_method_62_code (2 : Nat) (Option.some Jvm.ClassFile.FieldType.int)) ∈ li_ws := li_mem 793 (by decide +kernel) (by decide +kernel)
theorem w_794 : (Jvm.Cond.methodLink "ClockForTalk" (519 : Nat) ({ cls := "java/lang/Math", name := "min", desc := "(II)I" } : Jvm.MethodName)) ∈ li_ws := li_mem 794 (by decide +kernel) (by decide +kernel)
theorem w_795 : (Jvm.Cond.methodLink "ClockForTalk" (332 : Nat) ({ cls := "java/lang/Math", name := "max", desc := "(II)I" } : Jvm.MethodName)) ∈ li_ws := li_mem 795 (by decide +kernel) (by decide +kernel)
theorem w_844 : (Jvm.Cond.constant "java/lang/Integer" (265 : Nat) (1431655765 : Int32)) ∈ li_ws := li_mem 844 (by decide +kernel) (by decide +kernel)
theorem w_845 : (Jvm.Cond.constant "java/lang/Integer" (266 : Nat) (858993459 : Int32)) ∈ li_ws := li_mem 845 (by decide +kernel) (by decide +kernel)
theorem w_846 : (Jvm.Cond.constant "java/lang/Integer" (267 : Nat) (252645135 : Int32)) ∈ li_ws := li_mem 846 (by decide +kernel) (by decide +kernel)
theorem w_1194 : (Jvm.Cond.constant "java/lang/Integer" (264 : Nat) (65536 : Int32)) ∈ li_ws := li_mem 1194 (by decide +kernel) (by decide +kernel)
theorem dX11_within_0 : decode cX11_within 0 = .ok (.iload_n 0, 1) := by decide +kernel
theorem dX11_within_1 : decode cX11_within 1 = .ok (.iload_n 1, 1) := by decide +kernel
theorem dX11_within_2 : decode cX11_within 2 = .ok (.if_icmp .lt 12, 3) := by decide +kernel
theorem dX11_within_5 : decode cX11_within 5 = .ok (.iload_n 0, 1) := by decide +kernel
theorem dX11_within_6 : decode cX11_within 6 = .ok (.iload_n 2, 1) := by decide +kernel
theorem dX11_within_7 : decode cX11_within 7 = .ok (.if_icmp .gt 7, 3) := by decide +kernel
theorem dX11_within_10 : decode cX11_within 10 = .ok (.iconst 1, 1) := by decide +kernel
theorem dX11_within_11 : decode cX11_within 11 = .ok (.goto 4, 3) := by decide +kernel
theorem dX11_within_14 : decode cX11_within 14 = .ok (.iconst 0, 1) := by decide +kernel
theorem dX11_within_15 : decode cX11_within 15 = .ok (.ireturn, 1) := by decide +kernel
abbrev YX11_within : li_Y := (yX11_within, cX11_within, 3, (some .boolean))
theorem dJ6_bitCount_0f7a4_0 : decode cJ6_bitCount_0f7a4 0 = .ok (.iload_n 0, 1) := by decide +kernel
theorem dJ6_bitCount_0f7a4_1 : decode cJ6_bitCount_0f7a4 1 = .ok (.iload_n 0, 1) := by decide +kernel
theorem dJ6_bitCount_0f7a4_2 : decode cJ6_bitCount_0f7a4 2 = .ok (.iconst 1, 1) := by decide +kernel
theorem dJ6_bitCount_0f7a4_3 : decode cJ6_bitCount_0f7a4 3 = .ok (.iushr, 1) := by decide +kernel
theorem dJ6_bitCount_0f7a4_4 : decode cJ6_bitCount_0f7a4 4 = .ok (.ldc_w 265, 3) := by decide +kernel
theorem dJ6_bitCount_0f7a4_7 : decode cJ6_bitCount_0f7a4 7 = .ok (.iand, 1) := by decide +kernel
theorem dJ6_bitCount_0f7a4_8 : decode cJ6_bitCount_0f7a4 8 = .ok (.isub, 1) := by decide +kernel
theorem dJ6_bitCount_0f7a4_9 : decode cJ6_bitCount_0f7a4 9 = .ok (.istore_n 0, 1) := by decide +kernel
theorem dJ6_bitCount_0f7a4_10 : decode cJ6_bitCount_0f7a4 10 = .ok (.iload_n 0, 1) := by decide +kernel
theorem dJ6_bitCount_0f7a4_11 : decode cJ6_bitCount_0f7a4 11 = .ok (.ldc_w 266, 3) := by decide +kernel
theorem dJ6_bitCount_0f7a4_14 : decode cJ6_bitCount_0f7a4 14 = .ok (.iand, 1) := by decide +kernel
theorem dJ6_bitCount_0f7a4_15 : decode cJ6_bitCount_0f7a4 15 = .ok (.iload_n 0, 1) := by decide +kernel
theorem dJ6_bitCount_0f7a4_16 : decode cJ6_bitCount_0f7a4 16 = .ok (.iconst 2, 1) := by decide +kernel
theorem dJ6_bitCount_0f7a4_17 : decode cJ6_bitCount_0f7a4 17 = .ok (.iushr, 1) := by decide +kernel
theorem dJ6_bitCount_0f7a4_18 : decode cJ6_bitCount_0f7a4 18 = .ok (.ldc_w 266, 3) := by decide +kernel
theorem dJ6_bitCount_0f7a4_21 : decode cJ6_bitCount_0f7a4 21 = .ok (.iand, 1) := by decide +kernel
theorem dJ6_bitCount_0f7a4_22 : decode cJ6_bitCount_0f7a4 22 = .ok (.iadd, 1) := by decide +kernel
theorem dJ6_bitCount_0f7a4_23 : decode cJ6_bitCount_0f7a4 23 = .ok (.istore_n 0, 1) := by decide +kernel
theorem dJ6_bitCount_0f7a4_24 : decode cJ6_bitCount_0f7a4 24 = .ok (.iload_n 0, 1) := by decide +kernel
theorem dJ6_bitCount_0f7a4_25 : decode cJ6_bitCount_0f7a4 25 = .ok (.iload_n 0, 1) := by decide +kernel
theorem dJ6_bitCount_0f7a4_26 : decode cJ6_bitCount_0f7a4 26 = .ok (.iconst 4, 1) := by decide +kernel
theorem dJ6_bitCount_0f7a4_27 : decode cJ6_bitCount_0f7a4 27 = .ok (.iushr, 1) := by decide +kernel
theorem dJ6_bitCount_0f7a4_28 : decode cJ6_bitCount_0f7a4 28 = .ok (.iadd, 1) := by decide +kernel
theorem dJ6_bitCount_0f7a4_29 : decode cJ6_bitCount_0f7a4 29 = .ok (.ldc_w 267, 3) := by decide +kernel
theorem dJ6_bitCount_0f7a4_32 : decode cJ6_bitCount_0f7a4 32 = .ok (.iand, 1) := by decide +kernel
theorem dJ6_bitCount_0f7a4_33 : decode cJ6_bitCount_0f7a4 33 = .ok (.istore_n 0, 1) := by decide +kernel
theorem dJ6_bitCount_0f7a4_34 : decode cJ6_bitCount_0f7a4 34 = .ok (.iload_n 0, 1) := by decide +kernel
theorem dJ6_bitCount_0f7a4_35 : decode cJ6_bitCount_0f7a4 35 = .ok (.iload_n 0, 1) := by decide +kernel
theorem dJ6_bitCount_0f7a4_36 : decode cJ6_bitCount_0f7a4 36 = .ok (.bipush 8, 2) := by decide +kernel
theorem dJ6_bitCount_0f7a4_38 : decode cJ6_bitCount_0f7a4 38 = .ok (.iushr, 1) := by decide +kernel
theorem dJ6_bitCount_0f7a4_39 : decode cJ6_bitCount_0f7a4 39 = .ok (.iadd, 1) := by decide +kernel
theorem dJ6_bitCount_0f7a4_40 : decode cJ6_bitCount_0f7a4 40 = .ok (.istore_n 0, 1) := by decide +kernel
theorem dJ6_bitCount_0f7a4_41 : decode cJ6_bitCount_0f7a4 41 = .ok (.iload_n 0, 1) := by decide +kernel
theorem dJ6_bitCount_0f7a4_42 : decode cJ6_bitCount_0f7a4 42 = .ok (.iload_n 0, 1) := by decide +kernel
theorem dJ6_bitCount_0f7a4_43 : decode cJ6_bitCount_0f7a4 43 = .ok (.bipush 16, 2) := by decide +kernel
theorem dJ6_bitCount_0f7a4_45 : decode cJ6_bitCount_0f7a4 45 = .ok (.iushr, 1) := by decide +kernel
theorem dJ6_bitCount_0f7a4_46 : decode cJ6_bitCount_0f7a4 46 = .ok (.iadd, 1) := by decide +kernel
theorem dJ6_bitCount_0f7a4_47 : decode cJ6_bitCount_0f7a4 47 = .ok (.istore_n 0, 1) := by decide +kernel
theorem dJ6_bitCount_0f7a4_48 : decode cJ6_bitCount_0f7a4 48 = .ok (.iload_n 0, 1) := by decide +kernel
theorem dJ6_bitCount_0f7a4_49 : decode cJ6_bitCount_0f7a4 49 = .ok (.bipush 63, 2) := by decide +kernel
theorem dJ6_bitCount_0f7a4_51 : decode cJ6_bitCount_0f7a4 51 = .ok (.iand, 1) := by decide +kernel
theorem dJ6_bitCount_0f7a4_52 : decode cJ6_bitCount_0f7a4 52 = .ok (.ireturn, 1) := by decide +kernel
abbrev YJ6_bitCount_0f7a4 : li_Y := (yJ6_bitCount_0f7a4, cJ6_bitCount_0f7a4, 1, (some .int))
theorem dJ6_numberOfTrailingZeros_0f7a4_0 : decode cJ6_numberOfTrailingZeros_0f7a4 0 = .ok (.iload_n 0, 1) := by decide +kernel
theorem dJ6_numberOfTrailingZeros_0f7a4_1 : decode cJ6_numberOfTrailingZeros_0f7a4 1 = .ok (.iconst (-1), 1) := by decide +kernel
theorem dJ6_numberOfTrailingZeros_0f7a4_2 : decode cJ6_numberOfTrailingZeros_0f7a4 2 = .ok (.ixor, 1) := by decide +kernel
theorem dJ6_numberOfTrailingZeros_0f7a4_3 : decode cJ6_numberOfTrailingZeros_0f7a4 3 = .ok (.iload_n 0, 1) := by decide +kernel
theorem dJ6_numberOfTrailingZeros_0f7a4_4 : decode cJ6_numberOfTrailingZeros_0f7a4 4 = .ok (.iconst 1, 1) := by decide +kernel
theorem dJ6_numberOfTrailingZeros_0f7a4_5 : decode cJ6_numberOfTrailingZeros_0f7a4 5 = .ok (.isub, 1) := by decide +kernel
theorem dJ6_numberOfTrailingZeros_0f7a4_6 : decode cJ6_numberOfTrailingZeros_0f7a4 6 = .ok (.iand, 1) := by decide +kernel
theorem dJ6_numberOfTrailingZeros_0f7a4_7 : decode cJ6_numberOfTrailingZeros_0f7a4 7 = .ok (.istore_n 0, 1) := by decide +kernel
theorem dJ6_numberOfTrailingZeros_0f7a4_8 : decode cJ6_numberOfTrailingZeros_0f7a4 8 = .ok (.iload_n 0, 1) := by decide +kernel
theorem dJ6_numberOfTrailingZeros_0f7a4_9 : decode cJ6_numberOfTrailingZeros_0f7a4 9 = .ok (.ifCond .gt 8, 3) := by decide +kernel
theorem dJ6_numberOfTrailingZeros_0f7a4_12 : decode cJ6_numberOfTrailingZeros_0f7a4 12 = .ok (.iload_n 0, 1) := by decide +kernel
theorem dJ6_numberOfTrailingZeros_0f7a4_13 : decode cJ6_numberOfTrailingZeros_0f7a4 13 = .ok (.bipush 32, 2) := by decide +kernel
theorem dJ6_numberOfTrailingZeros_0f7a4_15 : decode cJ6_numberOfTrailingZeros_0f7a4 15 = .ok (.iand, 1) := by decide +kernel
theorem dJ6_numberOfTrailingZeros_0f7a4_16 : decode cJ6_numberOfTrailingZeros_0f7a4 16 = .ok (.ireturn, 1) := by decide +kernel
theorem dJ6_numberOfTrailingZeros_0f7a4_17 : decode cJ6_numberOfTrailingZeros_0f7a4 17 = .ok (.iconst 1, 1) := by decide +kernel
theorem dJ6_numberOfTrailingZeros_0f7a4_18 : decode cJ6_numberOfTrailingZeros_0f7a4 18 = .ok (.istore_n 1, 1) := by decide +kernel
theorem dJ6_numberOfTrailingZeros_0f7a4_19 : decode cJ6_numberOfTrailingZeros_0f7a4 19 = .ok (.iload_n 0, 1) := by decide +kernel
theorem dJ6_numberOfTrailingZeros_0f7a4_20 : decode cJ6_numberOfTrailingZeros_0f7a4 20 = .ok (.ldc_w 264, 3) := by decide +kernel
theorem dJ6_numberOfTrailingZeros_0f7a4_23 : decode cJ6_numberOfTrailingZeros_0f7a4 23 = .ok (.if_icmp .le 11, 3) := by decide +kernel
theorem dJ6_numberOfTrailingZeros_0f7a4_26 : decode cJ6_numberOfTrailingZeros_0f7a4 26 = .ok (.iinc 1 16, 3) := by decide +kernel
theorem dJ6_numberOfTrailingZeros_0f7a4_29 : decode cJ6_numberOfTrailingZeros_0f7a4 29 = .ok (.iload_n 0, 1) := by decide +kernel
theorem dJ6_numberOfTrailingZeros_0f7a4_30 : decode cJ6_numberOfTrailingZeros_0f7a4 30 = .ok (.bipush 16, 2) := by decide +kernel
theorem dJ6_numberOfTrailingZeros_0f7a4_32 : decode cJ6_numberOfTrailingZeros_0f7a4 32 = .ok (.iushr, 1) := by decide +kernel
theorem dJ6_numberOfTrailingZeros_0f7a4_33 : decode cJ6_numberOfTrailingZeros_0f7a4 33 = .ok (.istore_n 0, 1) := by decide +kernel
theorem dJ6_numberOfTrailingZeros_0f7a4_34 : decode cJ6_numberOfTrailingZeros_0f7a4 34 = .ok (.iload_n 0, 1) := by decide +kernel
theorem dJ6_numberOfTrailingZeros_0f7a4_35 : decode cJ6_numberOfTrailingZeros_0f7a4 35 = .ok (.sipush 256, 3) := by decide +kernel
theorem dJ6_numberOfTrailingZeros_0f7a4_38 : decode cJ6_numberOfTrailingZeros_0f7a4 38 = .ok (.if_icmp .le 11, 3) := by decide +kernel
theorem dJ6_numberOfTrailingZeros_0f7a4_41 : decode cJ6_numberOfTrailingZeros_0f7a4 41 = .ok (.iinc 1 8, 3) := by decide +kernel
theorem dJ6_numberOfTrailingZeros_0f7a4_44 : decode cJ6_numberOfTrailingZeros_0f7a4 44 = .ok (.iload_n 0, 1) := by decide +kernel
theorem dJ6_numberOfTrailingZeros_0f7a4_45 : decode cJ6_numberOfTrailingZeros_0f7a4 45 = .ok (.bipush 8, 2) := by decide +kernel
theorem dJ6_numberOfTrailingZeros_0f7a4_47 : decode cJ6_numberOfTrailingZeros_0f7a4 47 = .ok (.iushr, 1) := by decide +kernel
theorem dJ6_numberOfTrailingZeros_0f7a4_48 : decode cJ6_numberOfTrailingZeros_0f7a4 48 = .ok (.istore_n 0, 1) := by decide +kernel
theorem dJ6_numberOfTrailingZeros_0f7a4_49 : decode cJ6_numberOfTrailingZeros_0f7a4 49 = .ok (.iload_n 0, 1) := by decide +kernel
theorem dJ6_numberOfTrailingZeros_0f7a4_50 : decode cJ6_numberOfTrailingZeros_0f7a4 50 = .ok (.bipush 16, 2) := by decide +kernel
theorem dJ6_numberOfTrailingZeros_0f7a4_52 : decode cJ6_numberOfTrailingZeros_0f7a4 52 = .ok (.if_icmp .le 10, 3) := by decide +kernel
theorem dJ6_numberOfTrailingZeros_0f7a4_55 : decode cJ6_numberOfTrailingZeros_0f7a4 55 = .ok (.iinc 1 4, 3) := by decide +kernel
theorem dJ6_numberOfTrailingZeros_0f7a4_58 : decode cJ6_numberOfTrailingZeros_0f7a4 58 = .ok (.iload_n 0, 1) := by decide +kernel
theorem dJ6_numberOfTrailingZeros_0f7a4_59 : decode cJ6_numberOfTrailingZeros_0f7a4 59 = .ok (.iconst 4, 1) := by decide +kernel
theorem dJ6_numberOfTrailingZeros_0f7a4_60 : decode cJ6_numberOfTrailingZeros_0f7a4 60 = .ok (.iushr, 1) := by decide +kernel
theorem dJ6_numberOfTrailingZeros_0f7a4_61 : decode cJ6_numberOfTrailingZeros_0f7a4 61 = .ok (.istore_n 0, 1) := by decide +kernel
theorem dJ6_numberOfTrailingZeros_0f7a4_62 : decode cJ6_numberOfTrailingZeros_0f7a4 62 = .ok (.iload_n 0, 1) := by decide +kernel
theorem dJ6_numberOfTrailingZeros_0f7a4_63 : decode cJ6_numberOfTrailingZeros_0f7a4 63 = .ok (.iconst 4, 1) := by decide +kernel
theorem dJ6_numberOfTrailingZeros_0f7a4_64 : decode cJ6_numberOfTrailingZeros_0f7a4 64 = .ok (.if_icmp .le 10, 3) := by decide +kernel
theorem dJ6_numberOfTrailingZeros_0f7a4_67 : decode cJ6_numberOfTrailingZeros_0f7a4 67 = .ok (.iinc 1 2, 3) := by decide +kernel
theorem dJ6_numberOfTrailingZeros_0f7a4_70 : decode cJ6_numberOfTrailingZeros_0f7a4 70 = .ok (.iload_n 0, 1) := by decide +kernel
theorem dJ6_numberOfTrailingZeros_0f7a4_71 : decode cJ6_numberOfTrailingZeros_0f7a4 71 = .ok (.iconst 2, 1) := by decide +kernel
theorem dJ6_numberOfTrailingZeros_0f7a4_72 : decode cJ6_numberOfTrailingZeros_0f7a4 72 = .ok (.iushr, 1) := by decide +kernel
theorem dJ6_numberOfTrailingZeros_0f7a4_73 : decode cJ6_numberOfTrailingZeros_0f7a4 73 = .ok (.istore_n 0, 1) := by decide +kernel
theorem dJ6_numberOfTrailingZeros_0f7a4_74 : decode cJ6_numberOfTrailingZeros_0f7a4 74 = .ok (.iload_n 1, 1) := by decide +kernel
theorem dJ6_numberOfTrailingZeros_0f7a4_75 : decode cJ6_numberOfTrailingZeros_0f7a4 75 = .ok (.iload_n 0, 1) := by decide +kernel
theorem dJ6_numberOfTrailingZeros_0f7a4_76 : decode cJ6_numberOfTrailingZeros_0f7a4 76 = .ok (.iconst 1, 1) := by decide +kernel
theorem dJ6_numberOfTrailingZeros_0f7a4_77 : decode cJ6_numberOfTrailingZeros_0f7a4 77 = .ok (.iushr, 1) := by decide +kernel
theorem dJ6_numberOfTrailingZeros_0f7a4_78 : decode cJ6_numberOfTrailingZeros_0f7a4 78 = .ok (.iadd, 1) := by decide +kernel
theorem dJ6_numberOfTrailingZeros_0f7a4_79 : decode cJ6_numberOfTrailingZeros_0f7a4 79 = .ok (.ireturn, 1) := by decide +kernel
abbrev YJ6_numberOfTrailingZeros_0f7a4 : li_Y := (yJ6_numberOfTrailingZeros_0f7a4, cJ6_numberOfTrailingZeros_0f7a4, 2, (some .int))
theorem dX11_clamp_0 : decode cX11_clamp 0 = .ok (.iconst 0, 1) := by decide +kernel
theorem dX11_clamp_1 : decode cX11_clamp 1 = .ok (.iload_n 0, 1) := by decide +kernel
theorem dX11_clamp_2 : decode cX11_clamp 2 = .ok (.iload_n 1, 1) := by decide +kernel
theorem dX11_clamp_3 : decode cX11_clamp 3 = .ok (.invokestatic 519, 3) := by decide +kernel
theorem dX11_clamp_6 : decode cX11_clamp 6 = .ok (.invokestatic 332, 3) := by decide +kernel
theorem dX11_clamp_9 : decode cX11_clamp 9 = .ok (.ireturn, 1) := by decide +kernel
abbrev YX11_clamp : li_Y := (yX11_clamp, cX11_clamp, 2, (some .int))
theorem dX11_holds_0 : decode cX11_holds 0 = .ok (.iload_n 1, 1) := by decide +kernel
theorem dX11_holds_1 : decode cX11_holds 1 = .ok (.ifCond .lt 21, 3) := by decide +kernel
theorem dX11_holds_4 : decode cX11_holds 4 = .ok (.iload_n 1, 1) := by decide +kernel
theorem dX11_holds_5 : decode cX11_holds 5 = .ok (.bipush 32, 2) := by decide +kernel
theorem dX11_holds_7 : decode cX11_holds 7 = .ok (.if_icmp .ge 15, 3) := by decide +kernel
theorem dX11_holds_10 : decode cX11_holds 10 = .ok (.iload_n 0, 1) := by decide +kernel
theorem dX11_holds_11 : decode cX11_holds 11 = .ok (.iload_n 1, 1) := by decide +kernel
theorem dX11_holds_12 : decode cX11_holds 12 = .ok (.iushr, 1) := by decide +kernel
theorem dX11_holds_13 : decode cX11_holds 13 = .ok (.iconst 1, 1) := by decide +kernel
theorem dX11_holds_14 : decode cX11_holds 14 = .ok (.iand, 1) := by decide +kernel
theorem dX11_holds_15 : decode cX11_holds 15 = .ok (.ifCond .eq 7, 3) := by decide +kernel
theorem dX11_holds_18 : decode cX11_holds 18 = .ok (.iconst 1, 1) := by decide +kernel
theorem dX11_holds_19 : decode cX11_holds 19 = .ok (.goto 4, 3) := by decide +kernel
theorem dX11_holds_22 : decode cX11_holds 22 = .ok (.iconst 0, 1) := by decide +kernel
theorem dX11_holds_23 : decode cX11_holds 23 = .ok (.ireturn, 1) := by decide +kernel
abbrev YX11_holds : li_Y := (yX11_holds, cX11_holds, 2, (some .boolean))
theorem dX11_areBitsOf_0 : decode cX11_areBitsOf 0 = .ok (.iload_n 0, 1) := by decide +kernel
theorem dX11_areBitsOf_1 : decode cX11_areBitsOf 1 = .ok (.iconst 1, 1) := by decide +kernel
theorem dX11_areBitsOf_2 : decode cX11_areBitsOf 2 = .ok (.iload_n 1, 1) := by decide +kernel
theorem dX11_areBitsOf_3 : decode cX11_areBitsOf 3 = .ok (.ishl, 1) := by decide +kernel
theorem dX11_areBitsOf_4 : decode cX11_areBitsOf 4 = .ok (.iconst 1, 1) := by decide +kernel
theorem dX11_areBitsOf_5 : decode cX11_areBitsOf 5 = .ok (.isub, 1) := by decide +kernel
theorem dX11_areBitsOf_6 : decode cX11_areBitsOf 6 = .ok (.iconst (-1), 1) := by decide +kernel
theorem dX11_areBitsOf_7 : decode cX11_areBitsOf 7 = .ok (.ixor, 1) := by decide +kernel
theorem dX11_areBitsOf_8 : decode cX11_areBitsOf 8 = .ok (.iand, 1) := by decide +kernel
theorem dX11_areBitsOf_9 : decode cX11_areBitsOf 9 = .ok (.ifCond .ne 7, 3) := by decide +kernel
theorem dX11_areBitsOf_12 : decode cX11_areBitsOf 12 = .ok (.iconst 1, 1) := by decide +kernel
theorem dX11_areBitsOf_13 : decode cX11_areBitsOf 13 = .ok (.goto 4, 3) := by decide +kernel
theorem dX11_areBitsOf_16 : decode cX11_areBitsOf 16 = .ok (.iconst 0, 1) := by decide +kernel
theorem dX11_areBitsOf_17 : decode cX11_areBitsOf 17 = .ok (.ireturn, 1) := by decide +kernel
abbrev YX11_areBitsOf : li_Y := (yX11_areBitsOf, cX11_areBitsOf, 2, (some .boolean))
theorem dX11_entryOf_0 : decode cX11_entryOf 0 = .ok (.iload_n 1, 1) := by decide +kernel
theorem dX11_entryOf_1 : decode cX11_entryOf 1 = .ok (.istore_n 2, 1) := by decide +kernel
theorem dX11_entryOf_2 : decode cX11_entryOf 2 = .ok (.iload_n 0, 1) := by decide +kernel
theorem dX11_entryOf_3 : decode cX11_entryOf 3 = .ok (.ifCond .ne 9, 3) := by decide +kernel
theorem dX11_entryOf_6 : decode cX11_entryOf 6 = .ok (.iload_n 1, 1) := by decide +kernel
theorem dX11_entryOf_7 : decode cX11_entryOf 7 = .ok (.i2b, 1) := by decide +kernel
theorem dX11_entryOf_8 : decode cX11_entryOf 8 = .ok (.istore_n 2, 1) := by decide +kernel
theorem dX11_entryOf_9 : decode cX11_entryOf 9 = .ok (.goto 11, 3) := by decide +kernel
theorem dX11_entryOf_12 : decode cX11_entryOf 12 = .ok (.iload_n 0, 1) := by decide +kernel
theorem dX11_entryOf_13 : decode cX11_entryOf 13 = .ok (.iconst 1, 1) := by decide +kernel
theorem dX11_entryOf_14 : decode cX11_entryOf 14 = .ok (.if_icmp .ne 6, 3) := by decide +kernel
theorem dX11_entryOf_17 : decode cX11_entryOf 17 = .ok (.iload_n 1, 1) := by decide +kernel
theorem dX11_entryOf_18 : decode cX11_entryOf 18 = .ok (.i2s, 1) := by decide +kernel
theorem dX11_entryOf_19 : decode cX11_entryOf 19 = .ok (.istore_n 2, 1) := by decide +kernel
theorem dX11_entryOf_20 : decode cX11_entryOf 20 = .ok (.iload_n 2, 1) := by decide +kernel
theorem dX11_entryOf_21 : decode cX11_entryOf 21 = .ok (.sipush 9999, 3) := by decide +kernel
theorem dX11_entryOf_24 : decode cX11_entryOf 24 = .ok (.invokestatic 522, 3) := by decide +kernel
theorem dX11_entryOf_27 : decode cX11_entryOf 27 = .ok (.ireturn, 1) := by decide +kernel
abbrev YX11_entryOf : li_Y := (yX11_entryOf, cX11_entryOf, 3, (some .int))
theorem dX6_usual_0 : decode cX6_usual 0 = .ok (.iload_n 1, 1) := by decide +kernel
theorem dX6_usual_1 : decode cX6_usual 1 = .ok (.tableswitch 41 0 2 #[27, 33, 39], 27) := by decide +kernel
theorem dX6_usual_28 : decode cX6_usual 28 = .ok (.iload_n 0, 1) := by decide +kernel
theorem dX6_usual_29 : decode cX6_usual 29 = .ok (.iconst 1, 1) := by decide +kernel
theorem dX6_usual_30 : decode cX6_usual 30 = .ok (.iadd, 1) := by decide +kernel
theorem dX6_usual_31 : decode cX6_usual 31 = .ok (.iconst 2, 1) := by decide +kernel
theorem dX6_usual_32 : decode cX6_usual 32 = .ok (.idiv, 1) := by decide +kernel
theorem dX6_usual_33 : decode cX6_usual 33 = .ok (.ireturn, 1) := by decide +kernel
theorem dX6_usual_34 : decode cX6_usual 34 = .ok (.iload_n 0, 1) := by decide +kernel
theorem dX6_usual_35 : decode cX6_usual 35 = .ok (.iconst 2, 1) := by decide +kernel
theorem dX6_usual_36 : decode cX6_usual 36 = .ok (.iadd, 1) := by decide +kernel
theorem dX6_usual_37 : decode cX6_usual 37 = .ok (.iconst 3, 1) := by decide +kernel
theorem dX6_usual_38 : decode cX6_usual 38 = .ok (.idiv, 1) := by decide +kernel
theorem dX6_usual_39 : decode cX6_usual 39 = .ok (.ireturn, 1) := by decide +kernel
theorem dX6_usual_40 : decode cX6_usual 40 = .ok (.iload_n 0, 1) := by decide +kernel
theorem dX6_usual_41 : decode cX6_usual 41 = .ok (.ireturn, 1) := by decide +kernel
theorem dX6_usual_42 : decode cX6_usual 42 = .ok (.iload_n 0, 1) := by decide +kernel
theorem dX6_usual_43 : decode cX6_usual 43 = .ok (.iconst 2, 1) := by decide +kernel
theorem dX6_usual_44 : decode cX6_usual 44 = .ok (.imul, 1) := by decide +kernel
theorem dX6_usual_45 : decode cX6_usual 45 = .ok (.ireturn, 1) := by decide +kernel
abbrev YX6_usual : li_Y := (yX6_usual, cX6_usual, 2, (some .int))
theorem dX6_reckon_0 : decode cX6_reckon 0 = .ok (.iload_n 0, 1) := by decide +kernel
theorem dX6_reckon_1 : decode cX6_reckon 1 = .ok (.lookupswitch 104 #[(42, 100), (43, 92), (45, 96), (60, 59), (61, 81), (62, 70)], 59) := by decide +kernel
theorem dX6_reckon_60 : decode cX6_reckon 60 = .ok (.iload_n 1, 1) := by decide +kernel
theorem dX6_reckon_61 : decode cX6_reckon 61 = .ok (.iload_n 2, 1) := by decide +kernel
theorem dX6_reckon_62 : decode cX6_reckon 62 = .ok (.if_icmp .ge 7, 3) := by decide +kernel
theorem dX6_reckon_65 : decode cX6_reckon 65 = .ok (.iconst 1, 1) := by decide +kernel
theorem dX6_reckon_66 : decode cX6_reckon 66 = .ok (.goto 4, 3) := by decide +kernel
theorem dX6_reckon_69 : decode cX6_reckon 69 = .ok (.iconst 0, 1) := by decide +kernel
theorem dX6_reckon_70 : decode cX6_reckon 70 = .ok (.ireturn, 1) := by decide +kernel
theorem dX6_reckon_71 : decode cX6_reckon 71 = .ok (.iload_n 1, 1) := by decide +kernel
theorem dX6_reckon_72 : decode cX6_reckon 72 = .ok (.iload_n 2, 1) := by decide +kernel
theorem dX6_reckon_73 : decode cX6_reckon 73 = .ok (.if_icmp .le 7, 3) := by decide +kernel
theorem dX6_reckon_76 : decode cX6_reckon 76 = .ok (.iconst 1, 1) := by decide +kernel
theorem dX6_reckon_77 : decode cX6_reckon 77 = .ok (.goto 4, 3) := by decide +kernel
theorem dX6_reckon_80 : decode cX6_reckon 80 = .ok (.iconst 0, 1) := by decide +kernel
theorem dX6_reckon_81 : decode cX6_reckon 81 = .ok (.ireturn, 1) := by decide +kernel
theorem dX6_reckon_82 : decode cX6_reckon 82 = .ok (.iload_n 1, 1) := by decide +kernel
theorem dX6_reckon_83 : decode cX6_reckon 83 = .ok (.iload_n 2, 1) := by decide +kernel
theorem dX6_reckon_84 : decode cX6_reckon 84 = .ok (.if_icmp .ne 7, 3) := by decide +kernel
theorem dX6_reckon_87 : decode cX6_reckon 87 = .ok (.iconst 1, 1) := by decide +kernel
theorem dX6_reckon_88 : decode cX6_reckon 88 = .ok (.goto 4, 3) := by decide +kernel
theorem dX6_reckon_91 : decode cX6_reckon 91 = .ok (.iconst 0, 1) := by decide +kernel
theorem dX6_reckon_92 : decode cX6_reckon 92 = .ok (.ireturn, 1) := by decide +kernel
theorem dX6_reckon_93 : decode cX6_reckon 93 = .ok (.iload_n 1, 1) := by decide +kernel
theorem dX6_reckon_94 : decode cX6_reckon 94 = .ok (.iload_n 2, 1) := by decide +kernel
theorem dX6_reckon_95 : decode cX6_reckon 95 = .ok (.iadd, 1) := by decide +kernel
theorem dX6_reckon_96 : decode cX6_reckon 96 = .ok (.ireturn, 1) := by decide +kernel
theorem dX6_reckon_97 : decode cX6_reckon 97 = .ok (.iload_n 1, 1) := by decide +kernel
theorem dX6_reckon_98 : decode cX6_reckon 98 = .ok (.iload_n 2, 1) := by decide +kernel
theorem dX6_reckon_99 : decode cX6_reckon 99 = .ok (.isub, 1) := by decide +kernel
theorem dX6_reckon_100 : decode cX6_reckon 100 = .ok (.ireturn, 1) := by decide +kernel
theorem dX6_reckon_101 : decode cX6_reckon 101 = .ok (.iload_n 1, 1) := by decide +kernel
theorem dX6_reckon_102 : decode cX6_reckon 102 = .ok (.iload_n 2, 1) := by decide +kernel
theorem dX6_reckon_103 : decode cX6_reckon 103 = .ok (.imul, 1) := by decide +kernel
theorem dX6_reckon_104 : decode cX6_reckon 104 = .ok (.ireturn, 1) := by decide +kernel
theorem dX6_reckon_105 : decode cX6_reckon 105 = .ok (.iload_n 2, 1) := by decide +kernel
theorem dX6_reckon_106 : decode cX6_reckon 106 = .ok (.ifCond .ne 7, 3) := by decide +kernel
theorem dX6_reckon_109 : decode cX6_reckon 109 = .ok (.iconst 0, 1) := by decide +kernel
theorem dX6_reckon_110 : decode cX6_reckon 110 = .ok (.goto 6, 3) := by decide +kernel
theorem dX6_reckon_113 : decode cX6_reckon 113 = .ok (.iload_n 1, 1) := by decide +kernel
theorem dX6_reckon_114 : decode cX6_reckon 114 = .ok (.iload_n 2, 1) := by decide +kernel
theorem dX6_reckon_115 : decode cX6_reckon 115 = .ok (.idiv, 1) := by decide +kernel
theorem dX6_reckon_116 : decode cX6_reckon 116 = .ok (.ireturn, 1) := by decide +kernel
abbrev YX6_reckon : li_Y := (yX6_reckon, cX6_reckon, 3, (some .int))
theorem dX1_cell_0 : decode cX1_cell 0 = .ok (.iload_n 2, 1) := by decide +kernel
theorem dX1_cell_1 : decode cX1_cell 1 = .ok (.iconst 1, 1) := by decide +kernel
theorem dX1_cell_2 : decode cX1_cell 2 = .ok (.isub, 1) := by decide +kernel
theorem dX1_cell_3 : decode cX1_cell 3 = .ok (.bipush 61, 2) := by decide +kernel
theorem dX1_cell_5 : decode cX1_cell 5 = .ok (.imul, 1) := by decide +kernel
theorem dX1_cell_6 : decode cX1_cell 6 = .ok (.iload_n 0, 1) := by decide +kernel
theorem dX1_cell_7 : decode cX1_cell 7 = .ok (.iadd, 1) := by decide +kernel
theorem dX1_cell_8 : decode cX1_cell 8 = .ok (.bipush 61, 2) := by decide +kernel
theorem dX1_cell_10 : decode cX1_cell 10 = .ok (.imul, 1) := by decide +kernel
theorem dX1_cell_11 : decode cX1_cell 11 = .ok (.iload_n 1, 1) := by decide +kernel
theorem dX1_cell_12 : decode cX1_cell 12 = .ok (.iadd, 1) := by decide +kernel
theorem dX1_cell_13 : decode cX1_cell 13 = .ok (.ireturn, 1) := by decide +kernel
abbrev YX1_cell : li_Y := (yX1_cell, cX1_cell, 3, (some .int))
theorem dX2_wordsFor_0 : decode cX2_wordsFor 0 = .ok (.iload_n 0, 1) := by decide +kernel
theorem dX2_wordsFor_1 : decode cX2_wordsFor 1 = .ok (.ifCond .lt 10, 3) := by decide +kernel
theorem dX2_wordsFor_4 : decode cX2_wordsFor 4 = .ok (.iload_n 0, 1) := by decide +kernel
theorem dX2_wordsFor_5 : decode cX2_wordsFor 5 = .ok (.sipush 8000, 3) := by decide +kernel
theorem dX2_wordsFor_8 : decode cX2_wordsFor 8 = .ok (.if_icmp .lt 7, 3) := by decide +kernel
theorem dX2_wordsFor_11 : decode cX2_wordsFor 11 = .ok (.iconst 0, 1) := by decide +kernel
theorem dX2_wordsFor_12 : decode cX2_wordsFor 12 = .ok (.goto 9, 3) := by decide +kernel
theorem dX2_wordsFor_15 : decode cX2_wordsFor 15 = .ok (.iload_n 0, 1) := by decide +kernel
theorem dX2_wordsFor_16 : decode cX2_wordsFor 16 = .ok (.bipush 64, 2) := by decide +kernel
theorem dX2_wordsFor_18 : decode cX2_wordsFor 18 = .ok (.idiv, 1) := by decide +kernel
theorem dX2_wordsFor_19 : decode cX2_wordsFor 19 = .ok (.iconst 1, 1) := by decide +kernel
theorem dX2_wordsFor_20 : decode cX2_wordsFor 20 = .ok (.iadd, 1) := by decide +kernel
theorem dX2_wordsFor_21 : decode cX2_wordsFor 21 = .ok (.ireturn, 1) := by decide +kernel
abbrev YX2_wordsFor : li_Y := (yX2_wordsFor, cX2_wordsFor, 1, (some .int))
set_option maxRecDepth 100000 in
set_option maxHeartbeats 4000000 in
theorem k_X11_within {l : Launch} {Z : li_Z} (d : Nat) (hd : 1 ≤ d) (p1 : Int32) (p2 : Int32) (p3 : Int32) (M0 : li_M) : li_Met l Z YX11_within d [.int p1, .int p2, .int p3] M0 (fun r M' => (∃ x : Int32, r = some (.int x) ∧ (x = 0 ∨ x = 1) ∧ (x.toInt = 1 → p2.toInt ≤ p1.toInt ∧ p1.toInt ≤ p3.toInt)) ∧ li_fr (fun i => False) M0 M') := by
  refine li_enter (by decide +kernel) (Nat.le_of_ble_eq_true rfl) ?_
  show li_T l Z YX11_within d 0 [(0, .int p1), (1, .int p2), (2, .int p3)] [] M0 _
  have hf : li_fr (fun i => False) M0 M0 := li_fr_refl
  have gp1 := tl_rg p1
  have gp2 := tl_rg p2
  have gp3 := tl_rg p3
  refine li_iload_n 0 dX11_within_0 rfl ?_
  refine li_iload_n 1 dX11_within_1 rfl ?_
  refine li_icmp_lt 14 dX11_within_2 (by decide) (fun c1 => ?_) (fun c1 => ?_)
  · have tc1 : p1.toInt < p2.toInt := tl_lt c1
    refine li_iconst 0 dX11_within_14 (by decide) ?_
    have z0 : (0 : Int32).toInt = 0 := rfl
    exact li_iret dX11_within_15 rfl (li_nz (Or.inl rfl)) ⟨⟨_, rfl, Or.inl rfl, (by first | omega | (intro _; omega) | (intro h; exact absurd h (by decide)))⟩, hf⟩
  · have tc1 : p2.toInt ≤ p1.toInt := tl_nlt c1
    refine li_iload_n 0 dX11_within_5 rfl ?_
    refine li_iload_n 2 dX11_within_6 rfl ?_
    refine li_icmp_gt 14 dX11_within_7 (by decide) (fun c2 => ?_) (fun c2 => ?_)
    · have tc2 : p3.toInt < p1.toInt := tl_lt c2
      refine li_iconst 0 dX11_within_14 (by decide) ?_
      have z0 : (0 : Int32).toInt = 0 := rfl
      exact li_iret dX11_within_15 rfl (li_nz (Or.inl rfl)) ⟨⟨_, rfl, Or.inl rfl, (by first | omega | (intro _; omega) | (intro h; exact absurd h (by decide)))⟩, hf⟩
    · have tc2 : p1.toInt ≤ p3.toInt := tl_nlt c2
      refine li_iconst 1 dX11_within_10 (by decide) ?_
      refine li_goto 15 dX11_within_11 (by decide) ?_
      have z1 : (1 : Int32).toInt = 1 := rfl
      exact li_iret dX11_within_15 rfl (li_nz (Or.inr rfl)) ⟨⟨_, rfl, Or.inr rfl, (by first | omega | (intro _; omega) | (intro h; exact absurd h (by decide)))⟩, hf⟩
set_option maxRecDepth 100000 in
set_option maxHeartbeats 4000000 in
theorem k_J6_bitCount_0f7a4 {l : Launch} {Z : li_Z} (d : Nat) (hd : 1 ≤ d) (p1 : Int32) (M0 : li_M) : li_Met l Z YJ6_bitCount_0f7a4 d [.int p1] M0 (li_SI (fun i => False) M0) := by
  refine li_enter (by decide +kernel) (Nat.le_of_ble_eq_true rfl) ?_
  show li_T l Z YJ6_bitCount_0f7a4 d 0 [(0, .int p1)] [] M0 _
  have hf : li_fr (fun i => False) M0 M0 := li_fr_refl
  refine li_iload_n 0 dJ6_bitCount_0f7a4_0 rfl ?_
  refine li_iload_n 0 dJ6_bitCount_0f7a4_1 rfl ?_
  refine li_iconst 1 dJ6_bitCount_0f7a4_2 (by decide) ?_
  refine li_iushr dJ6_bitCount_0f7a4_3 ?_
  refine li_top (fun x1 ex1 => ?_)
  refine li_ldcw 1431655765 dJ6_bitCount_0f7a4_4 w_844 ?_
  refine li_iand dJ6_bitCount_0f7a4_7 ?_
  refine li_top (fun x2 ex2 => ?_)
  refine li_isub dJ6_bitCount_0f7a4_8 ?_
  refine li_top (fun x3 ex3 => ?_)
  refine li_istore_n [(0, .int x3)] dJ6_bitCount_0f7a4_9 (by decide) rfl ?_
  refine li_iload_n 0 dJ6_bitCount_0f7a4_10 rfl ?_
  refine li_ldcw 858993459 dJ6_bitCount_0f7a4_11 w_845 ?_
  refine li_iand dJ6_bitCount_0f7a4_14 ?_
  refine li_top (fun x4 ex4 => ?_)
  refine li_iload_n 0 dJ6_bitCount_0f7a4_15 rfl ?_
  refine li_iconst 2 dJ6_bitCount_0f7a4_16 (by decide) ?_
  refine li_iushr dJ6_bitCount_0f7a4_17 ?_
  refine li_top (fun x5 ex5 => ?_)
  refine li_ldcw 858993459 dJ6_bitCount_0f7a4_18 w_845 ?_
  refine li_iand dJ6_bitCount_0f7a4_21 ?_
  refine li_top (fun x6 ex6 => ?_)
  refine li_iadd dJ6_bitCount_0f7a4_22 ?_
  refine li_top (fun x7 ex7 => ?_)
  refine li_istore_n [(0, .int x7)] dJ6_bitCount_0f7a4_23 (by decide) rfl ?_
  refine li_iload_n 0 dJ6_bitCount_0f7a4_24 rfl ?_
  refine li_iload_n 0 dJ6_bitCount_0f7a4_25 rfl ?_
  refine li_iconst 4 dJ6_bitCount_0f7a4_26 (by decide) ?_
  refine li_iushr dJ6_bitCount_0f7a4_27 ?_
  refine li_top (fun x8 ex8 => ?_)
  refine li_iadd dJ6_bitCount_0f7a4_28 ?_
  refine li_top (fun x9 ex9 => ?_)
  refine li_ldcw 252645135 dJ6_bitCount_0f7a4_29 w_846 ?_
  refine li_iand dJ6_bitCount_0f7a4_32 ?_
  refine li_top (fun x10 ex10 => ?_)
  refine li_istore_n [(0, .int x10)] dJ6_bitCount_0f7a4_33 (by decide) rfl ?_
  refine li_iload_n 0 dJ6_bitCount_0f7a4_34 rfl ?_
  refine li_iload_n 0 dJ6_bitCount_0f7a4_35 rfl ?_
  refine li_bipush 8 dJ6_bitCount_0f7a4_36 (by decide) ?_
  refine li_iushr dJ6_bitCount_0f7a4_38 ?_
  refine li_top (fun x11 ex11 => ?_)
  refine li_iadd dJ6_bitCount_0f7a4_39 ?_
  refine li_top (fun x12 ex12 => ?_)
  refine li_istore_n [(0, .int x12)] dJ6_bitCount_0f7a4_40 (by decide) rfl ?_
  refine li_iload_n 0 dJ6_bitCount_0f7a4_41 rfl ?_
  refine li_iload_n 0 dJ6_bitCount_0f7a4_42 rfl ?_
  refine li_bipush 16 dJ6_bitCount_0f7a4_43 (by decide) ?_
  refine li_iushr dJ6_bitCount_0f7a4_45 ?_
  refine li_top (fun x13 ex13 => ?_)
  refine li_iadd dJ6_bitCount_0f7a4_46 ?_
  refine li_top (fun x14 ex14 => ?_)
  refine li_istore_n [(0, .int x14)] dJ6_bitCount_0f7a4_47 (by decide) rfl ?_
  refine li_iload_n 0 dJ6_bitCount_0f7a4_48 rfl ?_
  refine li_bipush 63 dJ6_bitCount_0f7a4_49 (by decide) ?_
  refine li_iand dJ6_bitCount_0f7a4_51 ?_
  refine li_top (fun x15 ex15 => ?_)
  exact li_iret dJ6_bitCount_0f7a4_52 rfl rfl ⟨⟨_, rfl⟩, hf⟩
set_option maxRecDepth 100000 in
set_option maxHeartbeats 4000000 in
theorem k_J6_numberOfTrailingZeros_0f7a4 {l : Launch} {Z : li_Z} (d : Nat) (hd : 1 ≤ d) (p1 : Int32) (M0 : li_M) : li_Met l Z YJ6_numberOfTrailingZeros_0f7a4 d [.int p1] M0 (li_SI (fun i => False) M0) := by
  refine li_enter (by decide +kernel) (Nat.le_of_ble_eq_true rfl) ?_
  show li_T l Z YJ6_numberOfTrailingZeros_0f7a4 d 0 [(0, .int p1)] [] M0 _
  have hf : li_fr (fun i => False) M0 M0 := li_fr_refl
  refine li_iload_n 0 dJ6_numberOfTrailingZeros_0f7a4_0 rfl ?_
  refine li_iconst (-1) dJ6_numberOfTrailingZeros_0f7a4_1 (by decide) ?_
  refine li_ixor dJ6_numberOfTrailingZeros_0f7a4_2 ?_
  refine li_top (fun x1 ex1 => ?_)
  refine li_iload_n 0 dJ6_numberOfTrailingZeros_0f7a4_3 rfl ?_
  refine li_iconst 1 dJ6_numberOfTrailingZeros_0f7a4_4 (by decide) ?_
  refine li_isub dJ6_numberOfTrailingZeros_0f7a4_5 ?_
  refine li_top (fun x2 ex2 => ?_)
  refine li_iand dJ6_numberOfTrailingZeros_0f7a4_6 ?_
  refine li_top (fun x3 ex3 => ?_)
  refine li_istore_n [(0, .int x3)] dJ6_numberOfTrailingZeros_0f7a4_7 (by decide) rfl ?_
  refine li_iload_n 0 dJ6_numberOfTrailingZeros_0f7a4_8 rfl ?_
  refine li_if_gt 17 dJ6_numberOfTrailingZeros_0f7a4_9 (by decide) (fun c4 => ?_) (fun c4 => ?_)
  · refine li_iconst 1 dJ6_numberOfTrailingZeros_0f7a4_17 (by decide) ?_
    refine li_istore_n [(1, .int 1), (0, .int x3)] dJ6_numberOfTrailingZeros_0f7a4_18 (by decide) rfl ?_
    refine li_iload_n 1 dJ6_numberOfTrailingZeros_0f7a4_19 rfl ?_
    refine li_ldcw 65536 dJ6_numberOfTrailingZeros_0f7a4_20 w_1194 ?_
    have J34 : ∀ (x6 : Int32) (x7 : Int32) (M8 : li_M), li_fr (fun i => False) M0 M8 → li_T l Z YJ6_numberOfTrailingZeros_0f7a4 d 34 [(1, .int x6), (0, .int x7)] [] M8 (li_SI (fun i => False) M0) := by
      intro x6 x7 M8 hf
      refine li_iload_n 1 dJ6_numberOfTrailingZeros_0f7a4_34 rfl ?_
      refine li_sipush 256 dJ6_numberOfTrailingZeros_0f7a4_35 (by decide) ?_
      have J49 : ∀ (x10 : Int32) (x11 : Int32) (M12 : li_M), li_fr (fun i => False) M0 M12 → li_T l Z YJ6_numberOfTrailingZeros_0f7a4 d 49 [(1, .int x10), (0, .int x11)] [] M12 (li_SI (fun i => False) M0) := by
        intro x10 x11 M12 hf
        refine li_iload_n 1 dJ6_numberOfTrailingZeros_0f7a4_49 rfl ?_
        refine li_bipush 16 dJ6_numberOfTrailingZeros_0f7a4_50 (by decide) ?_
        have J62 : ∀ (x14 : Int32) (x15 : Int32) (M16 : li_M), li_fr (fun i => False) M0 M16 → li_T l Z YJ6_numberOfTrailingZeros_0f7a4 d 62 [(1, .int x14), (0, .int x15)] [] M16 (li_SI (fun i => False) M0) := by
          intro x14 x15 M16 hf
          refine li_iload_n 1 dJ6_numberOfTrailingZeros_0f7a4_62 rfl ?_
          refine li_iconst 4 dJ6_numberOfTrailingZeros_0f7a4_63 (by decide) ?_
          refine li_icmp_le 74 dJ6_numberOfTrailingZeros_0f7a4_64 (by decide) (fun c17 => ?_) (fun c17 => ?_)
          · refine li_iload_n 0 dJ6_numberOfTrailingZeros_0f7a4_74 rfl ?_
            refine li_iload_n 1 dJ6_numberOfTrailingZeros_0f7a4_75 rfl ?_
            refine li_iconst 1 dJ6_numberOfTrailingZeros_0f7a4_76 (by decide) ?_
            refine li_iushr dJ6_numberOfTrailingZeros_0f7a4_77 ?_
            refine li_top (fun x18 ex18 => ?_)
            refine li_iadd dJ6_numberOfTrailingZeros_0f7a4_78 ?_
            refine li_top (fun x19 ex19 => ?_)
            exact li_iret dJ6_numberOfTrailingZeros_0f7a4_79 rfl rfl ⟨⟨_, rfl⟩, hf⟩
          · obtain ⟨x20, ex20⟩ : ∃ y : Int32, y = x14 + 2 := ⟨_, rfl⟩
            refine li_iinc 0 [(1, .int x20), (0, .int x15)] x20 dJ6_numberOfTrailingZeros_0f7a4_67 rfl (by rw [ex20]; rfl) (by decide) rfl ?_
            refine li_iload_n 1 dJ6_numberOfTrailingZeros_0f7a4_70 rfl ?_
            refine li_iconst 2 dJ6_numberOfTrailingZeros_0f7a4_71 (by decide) ?_
            refine li_iushr dJ6_numberOfTrailingZeros_0f7a4_72 ?_
            refine li_top (fun x21 ex21 => ?_)
            refine li_istore_n [(0, .int x21), (1, .int x20)] dJ6_numberOfTrailingZeros_0f7a4_73 (by decide) rfl ?_
            refine li_iload_n 1 dJ6_numberOfTrailingZeros_0f7a4_74 rfl ?_
            refine li_iload_n 0 dJ6_numberOfTrailingZeros_0f7a4_75 rfl ?_
            refine li_iconst 1 dJ6_numberOfTrailingZeros_0f7a4_76 (by decide) ?_
            refine li_iushr dJ6_numberOfTrailingZeros_0f7a4_77 ?_
            refine li_top (fun x22 ex22 => ?_)
            refine li_iadd dJ6_numberOfTrailingZeros_0f7a4_78 ?_
            refine li_top (fun x23 ex23 => ?_)
            exact li_iret dJ6_numberOfTrailingZeros_0f7a4_79 rfl rfl ⟨⟨_, rfl⟩, hf⟩
        refine li_icmp_le 62 dJ6_numberOfTrailingZeros_0f7a4_52 (by decide) (fun c13 => ?_) (fun c13 => ?_)
        · refine li_pick [0, 1] [(1, .int x10), (0, .int x11)] rfl ?_
          exact J62 x10 x11 M12 hf
        · obtain ⟨x24, ex24⟩ : ∃ y : Int32, y = x10 + 4 := ⟨_, rfl⟩
          refine li_iinc 0 [(1, .int x24), (0, .int x11)] x24 dJ6_numberOfTrailingZeros_0f7a4_55 rfl (by rw [ex24]; rfl) (by decide) rfl ?_
          refine li_iload_n 1 dJ6_numberOfTrailingZeros_0f7a4_58 rfl ?_
          refine li_iconst 4 dJ6_numberOfTrailingZeros_0f7a4_59 (by decide) ?_
          refine li_iushr dJ6_numberOfTrailingZeros_0f7a4_60 ?_
          refine li_top (fun x25 ex25 => ?_)
          refine li_istore_n [(0, .int x25), (1, .int x24)] dJ6_numberOfTrailingZeros_0f7a4_61 (by decide) rfl ?_
          refine li_pick [1, 0] [(1, .int x24), (0, .int x25)] rfl ?_
          exact J62 x24 x25 M12 hf
      refine li_icmp_le 49 dJ6_numberOfTrailingZeros_0f7a4_38 (by decide) (fun c9 => ?_) (fun c9 => ?_)
      · refine li_pick [0, 1] [(1, .int x6), (0, .int x7)] rfl ?_
        exact J49 x6 x7 M8 hf
      · obtain ⟨x26, ex26⟩ : ∃ y : Int32, y = x6 + 8 := ⟨_, rfl⟩
        refine li_iinc 0 [(1, .int x26), (0, .int x7)] x26 dJ6_numberOfTrailingZeros_0f7a4_41 rfl (by rw [ex26]; rfl) (by decide) rfl ?_
        refine li_iload_n 1 dJ6_numberOfTrailingZeros_0f7a4_44 rfl ?_
        refine li_bipush 8 dJ6_numberOfTrailingZeros_0f7a4_45 (by decide) ?_
        refine li_iushr dJ6_numberOfTrailingZeros_0f7a4_47 ?_
        refine li_top (fun x27 ex27 => ?_)
        refine li_istore_n [(0, .int x27), (1, .int x26)] dJ6_numberOfTrailingZeros_0f7a4_48 (by decide) rfl ?_
        refine li_pick [1, 0] [(1, .int x26), (0, .int x27)] rfl ?_
        exact J49 x26 x27 M8 hf
    refine li_icmp_le 34 dJ6_numberOfTrailingZeros_0f7a4_23 (by decide) (fun c5 => ?_) (fun c5 => ?_)
    · refine li_pick [0, 1] [(1, .int 1), (0, .int x3)] rfl ?_
      exact J34 1 x3 M0 hf
    · obtain ⟨x28, ex28⟩ : ∃ y : Int32, y = 1 + 16 := ⟨_, rfl⟩
      refine li_iinc 0 [(1, .int x28), (0, .int x3)] x28 dJ6_numberOfTrailingZeros_0f7a4_26 rfl (by rw [ex28]; rfl) (by decide) rfl ?_
      refine li_iload_n 1 dJ6_numberOfTrailingZeros_0f7a4_29 rfl ?_
      refine li_bipush 16 dJ6_numberOfTrailingZeros_0f7a4_30 (by decide) ?_
      refine li_iushr dJ6_numberOfTrailingZeros_0f7a4_32 ?_
      refine li_top (fun x29 ex29 => ?_)
      refine li_istore_n [(0, .int x29), (1, .int x28)] dJ6_numberOfTrailingZeros_0f7a4_33 (by decide) rfl ?_
      refine li_pick [1, 0] [(1, .int x28), (0, .int x29)] rfl ?_
      exact J34 x28 x29 M0 hf
  · refine li_iload_n 0 dJ6_numberOfTrailingZeros_0f7a4_12 rfl ?_
    refine li_bipush 32 dJ6_numberOfTrailingZeros_0f7a4_13 (by decide) ?_
    refine li_iand dJ6_numberOfTrailingZeros_0f7a4_15 ?_
    refine li_top (fun x30 ex30 => ?_)
    exact li_iret dJ6_numberOfTrailingZeros_0f7a4_16 rfl rfl ⟨⟨_, rfl⟩, hf⟩
set_option maxRecDepth 100000 in
set_option maxHeartbeats 4000000 in
theorem k_X11_clamp {l : Launch} {Z : li_Z} (d : Nat) (hd : 1 ≤ d) (p1 : Int32) (p2 : Int32) (M0 : li_M) : li_Met l Z YX11_clamp d [.int p1, .int p2] M0 (li_SI (fun i => False) M0) := by
  refine li_enter (by decide +kernel) (Nat.le_of_ble_eq_true rfl) ?_
  show li_T l Z YX11_clamp d 0 [(0, .int p1), (1, .int p2)] [] M0 _
  have hf : li_fr (fun i => False) M0 M0 := li_fr_refl
  refine li_iconst 0 dX11_clamp_0 (by decide) ?_
  refine li_iload_n 0 dX11_clamp_1 rfl ?_
  refine li_iload_n 1 dX11_clamp_2 rfl ?_
  refine li_mmin dX11_clamp_3 (by omega) w_794 w_746 w_117 w_747 (Nat.le_of_ble_eq_true rfl) ?_
  refine li_top (fun x1 ex1 => ?_)
  refine li_mmax dX11_clamp_6 (by omega) w_795 w_662 w_117 w_663 (Nat.le_of_ble_eq_true rfl) ?_
  refine li_top (fun x2 ex2 => ?_)
  exact li_iret dX11_clamp_9 rfl rfl ⟨⟨_, rfl⟩, hf⟩
set_option maxRecDepth 100000 in
set_option maxHeartbeats 4000000 in
theorem k_X11_holds {l : Launch} {Z : li_Z} (d : Nat) (hd : 1 ≤ d) (p1 : Int32) (p2 : Int32) (M0 : li_M) : li_Met l Z YX11_holds d [.int p1, .int p2] M0 (li_SZ (fun i => False) M0) := by
  refine li_enter (by decide +kernel) (Nat.le_of_ble_eq_true rfl) ?_
  show li_T l Z YX11_holds d 0 [(0, .int p1), (1, .int p2)] [] M0 _
  have hf : li_fr (fun i => False) M0 M0 := li_fr_refl
  refine li_iload_n 1 dX11_holds_0 rfl ?_
  refine li_if_lt 22 dX11_holds_1 (by decide) (fun c1 => ?_) (fun c1 => ?_)
  · refine li_iconst 0 dX11_holds_22 (by decide) ?_
    exact li_iret dX11_holds_23 rfl (li_nz (Or.inl rfl)) ⟨⟨_, rfl, Or.inl rfl⟩, hf⟩
  · refine li_iload_n 1 dX11_holds_4 rfl ?_
    refine li_bipush 32 dX11_holds_5 (by decide) ?_
    refine li_icmp_ge 22 dX11_holds_7 (by decide) (fun c2 => ?_) (fun c2 => ?_)
    · refine li_iconst 0 dX11_holds_22 (by decide) ?_
      exact li_iret dX11_holds_23 rfl (li_nz (Or.inl rfl)) ⟨⟨_, rfl, Or.inl rfl⟩, hf⟩
    · refine li_iload_n 0 dX11_holds_10 rfl ?_
      refine li_iload_n 1 dX11_holds_11 rfl ?_
      refine li_iushr dX11_holds_12 ?_
      refine li_top (fun x3 ex3 => ?_)
      refine li_iconst 1 dX11_holds_13 (by decide) ?_
      refine li_iand dX11_holds_14 ?_
      refine li_top (fun x4 ex4 => ?_)
      refine li_if_eq 22 dX11_holds_15 (by decide) (fun c5 => ?_) (fun c5 => ?_)
      · refine li_iconst 0 dX11_holds_22 (by decide) ?_
        exact li_iret dX11_holds_23 rfl (li_nz (Or.inl rfl)) ⟨⟨_, rfl, Or.inl rfl⟩, hf⟩
      · refine li_iconst 1 dX11_holds_18 (by decide) ?_
        refine li_goto 23 dX11_holds_19 (by decide) ?_
        exact li_iret dX11_holds_23 rfl (li_nz (Or.inr rfl)) ⟨⟨_, rfl, Or.inr rfl⟩, hf⟩
set_option maxRecDepth 100000 in
set_option maxHeartbeats 4000000 in
theorem k_X11_areBitsOf {l : Launch} {Z : li_Z} (d : Nat) (hd : 1 ≤ d) (p1 : Int32) (p2 : Int32) (M0 : li_M) : li_Met l Z YX11_areBitsOf d [.int p1, .int p2] M0 (li_SZ (fun i => False) M0) := by
  refine li_enter (by decide +kernel) (Nat.le_of_ble_eq_true rfl) ?_
  show li_T l Z YX11_areBitsOf d 0 [(0, .int p1), (1, .int p2)] [] M0 _
  have hf : li_fr (fun i => False) M0 M0 := li_fr_refl
  refine li_iload_n 0 dX11_areBitsOf_0 rfl ?_
  refine li_iconst 1 dX11_areBitsOf_1 (by decide) ?_
  refine li_iload_n 1 dX11_areBitsOf_2 rfl ?_
  refine li_ishl dX11_areBitsOf_3 ?_
  refine li_top (fun x1 ex1 => ?_)
  refine li_iconst 1 dX11_areBitsOf_4 (by decide) ?_
  refine li_isub dX11_areBitsOf_5 ?_
  refine li_top (fun x2 ex2 => ?_)
  refine li_iconst (-1) dX11_areBitsOf_6 (by decide) ?_
  refine li_ixor dX11_areBitsOf_7 ?_
  refine li_top (fun x3 ex3 => ?_)
  refine li_iand dX11_areBitsOf_8 ?_
  refine li_top (fun x4 ex4 => ?_)
  refine li_if_ne 16 dX11_areBitsOf_9 (by decide) (fun c5 => ?_) (fun c5 => ?_)
  · refine li_iconst 0 dX11_areBitsOf_16 (by decide) ?_
    exact li_iret dX11_areBitsOf_17 rfl (li_nz (Or.inl rfl)) ⟨⟨_, rfl, Or.inl rfl⟩, hf⟩
  · refine li_iconst 1 dX11_areBitsOf_12 (by decide) ?_
    refine li_goto 17 dX11_areBitsOf_13 (by decide) ?_
    exact li_iret dX11_areBitsOf_17 rfl (li_nz (Or.inr rfl)) ⟨⟨_, rfl, Or.inr rfl⟩, hf⟩
set_option maxRecDepth 100000 in
set_option maxHeartbeats 4000000 in
theorem k_X11_entryOf {l : Launch} {Z : li_Z} (d : Nat) (hd : 2 ≤ d) (p1 : Int32) (p2 : Int32) (M0 : li_M) : li_Met l Z YX11_entryOf d [.int p1, .int p2] M0 (li_SI (fun i => False) M0) := by
  refine li_enter (by decide +kernel) (Nat.le_of_ble_eq_true rfl) ?_
  show li_T l Z YX11_entryOf d 0 [(0, .int p1), (1, .int p2)] [] M0 _
  have hf : li_fr (fun i => False) M0 M0 := li_fr_refl
  refine li_iload_n 1 dX11_entryOf_0 rfl ?_
  refine li_istore_n [(2, .int p2), (0, .int p1), (1, .int p2)] dX11_entryOf_1 (by decide) rfl ?_
  refine li_iload_n 1 dX11_entryOf_2 rfl ?_
  refine li_if_ne 12 dX11_entryOf_3 (by decide) (fun c1 => ?_) (fun c1 => ?_)
  · refine li_iload_n 1 dX11_entryOf_12 rfl ?_
    refine li_iconst 1 dX11_entryOf_13 (by decide) ?_
    refine li_icmp_ne 20 dX11_entryOf_14 (by decide) (fun c2 => ?_) (fun c2 => ?_)
    · refine li_iload_n 0 dX11_entryOf_20 rfl ?_
      refine li_sipush 9999 dX11_entryOf_21 (by decide) ?_
      refine li_callS (n := 2) (As := [.int p2, .int 9999]) dX11_entryOf_24 (k_X11_clamp (d - 1) (by omega) p2 9999 M0) (by omega) (Nat.le_of_ble_eq_true rfl) w_791 w_792 w_104 w_793 (by decide +kernel) rfl rfl (Nat.le_of_ble_eq_true rfl) (fun r M4 h5 => ?_)
      obtain ⟨⟨x3, rfl⟩, h5⟩ := h5
      have hf := li_fr_trans hf h5 (fun i h => False.elim h)
      exact li_iret dX11_entryOf_27 rfl rfl ⟨⟨_, rfl⟩, hf⟩
    · refine li_iload_n 2 dX11_entryOf_17 rfl ?_
      refine li_i2s dX11_entryOf_18 ?_
      refine li_top (fun x6 ex6 => ?_)
      refine li_istore_n [(2, .int x6), (0, .int p1), (1, .int p2)] dX11_entryOf_19 (by decide) rfl ?_
      refine li_iload_n 0 dX11_entryOf_20 rfl ?_
      refine li_sipush 9999 dX11_entryOf_21 (by decide) ?_
      refine li_callS (n := 2) (As := [.int x6, .int 9999]) dX11_entryOf_24 (k_X11_clamp (d - 1) (by omega) x6 9999 M0) (by omega) (Nat.le_of_ble_eq_true rfl) w_791 w_792 w_104 w_793 (by decide +kernel) rfl rfl (Nat.le_of_ble_eq_true rfl) (fun r M8 h9 => ?_)
      obtain ⟨⟨x7, rfl⟩, h9⟩ := h9
      have hf := li_fr_trans hf h9 (fun i h => False.elim h)
      exact li_iret dX11_entryOf_27 rfl rfl ⟨⟨_, rfl⟩, hf⟩
  · refine li_iload_n 2 dX11_entryOf_6 rfl ?_
    refine li_i2b dX11_entryOf_7 ?_
    refine li_top (fun x10 ex10 => ?_)
    refine li_istore_n [(2, .int x10), (0, .int p1), (1, .int p2)] dX11_entryOf_8 (by decide) rfl ?_
    refine li_goto 20 dX11_entryOf_9 (by decide) ?_
    refine li_iload_n 0 dX11_entryOf_20 rfl ?_
    refine li_sipush 9999 dX11_entryOf_21 (by decide) ?_
    refine li_callS (n := 2) (As := [.int x10, .int 9999]) dX11_entryOf_24 (k_X11_clamp (d - 1) (by omega) x10 9999 M0) (by omega) (Nat.le_of_ble_eq_true rfl) w_791 w_792 w_104 w_793 (by decide +kernel) rfl rfl (Nat.le_of_ble_eq_true rfl) (fun r M12 h13 => ?_)
    obtain ⟨⟨x11, rfl⟩, h13⟩ := h13
    have hf := li_fr_trans hf h13 (fun i h => False.elim h)
    exact li_iret dX11_entryOf_27 rfl rfl ⟨⟨_, rfl⟩, hf⟩
set_option maxRecDepth 100000 in
set_option maxHeartbeats 4000000 in
theorem k_X6_usual {l : Launch} {Z : li_Z} (d : Nat) (hd : 1 ≤ d) (p1 : Int32) (p2 : Int32) (M0 : li_M) : li_Met l Z YX6_usual d [.int p1, .int p2] M0 (li_SI (fun i => False) M0) := by
  refine li_enter (by decide +kernel) (Nat.le_of_ble_eq_true rfl) ?_
  show li_T l Z YX6_usual d 0 [(0, .int p1), (1, .int p2)] [] M0 _
  have hf : li_fr (fun i => False) M0 M0 := li_fr_refl
  refine li_iload_n 1 dX6_usual_0 rfl ?_
  refine li_table dX6_usual_1 42 (by decide) (fun c1 => ?_) (fun c1a c1b => ?_)
  · refine li_iload_n 0 dX6_usual_42 rfl ?_
    refine li_iconst 2 dX6_usual_43 (by decide) ?_
    refine li_imul dX6_usual_44 ?_
    refine li_top (fun x2 ex2 => ?_)
    exact li_iret dX6_usual_45 rfl rfl ⟨⟨_, rfl⟩, hf⟩
  · rcases (show (p2 : Int32).toInt = 0 ∨ (p2 : Int32).toInt = 1 ∨ (p2 : Int32).toInt = 2 by omega) with c1 | c1 | c1
    · refine ⟨27, 28, by rw [c1]; rfl, by decide, ?_⟩
      refine li_iload_n 0 dX6_usual_28 rfl ?_
      refine li_iconst 1 dX6_usual_29 (by decide) ?_
      refine li_iadd dX6_usual_30 ?_
      refine li_top (fun x3 ex3 => ?_)
      refine li_iconst 2 dX6_usual_31 (by decide) ?_
      refine li_idiv dX6_usual_32 (by decide) ?_
      refine li_top (fun x4 ex4 => ?_)
      exact li_iret dX6_usual_33 rfl rfl ⟨⟨_, rfl⟩, hf⟩
    · refine ⟨33, 34, by rw [c1]; rfl, by decide, ?_⟩
      refine li_iload_n 0 dX6_usual_34 rfl ?_
      refine li_iconst 2 dX6_usual_35 (by decide) ?_
      refine li_iadd dX6_usual_36 ?_
      refine li_top (fun x5 ex5 => ?_)
      refine li_iconst 3 dX6_usual_37 (by decide) ?_
      refine li_idiv dX6_usual_38 (by decide) ?_
      refine li_top (fun x6 ex6 => ?_)
      exact li_iret dX6_usual_39 rfl rfl ⟨⟨_, rfl⟩, hf⟩
    · refine ⟨39, 40, by rw [c1]; rfl, by decide, ?_⟩
      refine li_iload_n 0 dX6_usual_40 rfl ?_
      exact li_iret dX6_usual_41 rfl rfl ⟨⟨_, rfl⟩, hf⟩
set_option maxRecDepth 100000 in
set_option maxHeartbeats 4000000 in
theorem k_X6_reckon {l : Launch} {Z : li_Z} (d : Nat) (hd : 1 ≤ d) (p1 : Int32) (p2 : Int32) (p3 : Int32) (M0 : li_M) : li_Met l Z YX6_reckon d [.int p1, .int p2, .int p3] M0 (li_SI (fun i => False) M0) := by
  refine li_enter (by decide +kernel) (Nat.le_of_ble_eq_true rfl) ?_
  show li_T l Z YX6_reckon d 0 [(0, .int p1), (1, .int p2), (2, .int p3)] [] M0 _
  have hf : li_fr (fun i => False) M0 M0 := li_fr_refl
  refine li_iload_n 0 dX6_reckon_0 rfl ?_
  by_cases c1_0 : (p1 : Int32).toInt = 42
  · refine li_lookup (off := 100) 101 dX6_reckon_1 rfl (by rw [c1_0]; rfl) (by decide) ?_
    refine li_iload_n 1 dX6_reckon_101 rfl ?_
    refine li_iload_n 2 dX6_reckon_102 rfl ?_
    refine li_imul dX6_reckon_103 ?_
    refine li_top (fun x2 ex2 => ?_)
    exact li_iret dX6_reckon_104 rfl rfl ⟨⟨_, rfl⟩, hf⟩
  by_cases c1_1 : (p1 : Int32).toInt = 43
  · refine li_lookup (off := 92) 93 dX6_reckon_1 rfl (by rw [c1_1]; rfl) (by decide) ?_
    refine li_iload_n 1 dX6_reckon_93 rfl ?_
    refine li_iload_n 2 dX6_reckon_94 rfl ?_
    refine li_iadd dX6_reckon_95 ?_
    refine li_top (fun x3 ex3 => ?_)
    exact li_iret dX6_reckon_96 rfl rfl ⟨⟨_, rfl⟩, hf⟩
  by_cases c1_2 : (p1 : Int32).toInt = 45
  · refine li_lookup (off := 96) 97 dX6_reckon_1 rfl (by rw [c1_2]; rfl) (by decide) ?_
    refine li_iload_n 1 dX6_reckon_97 rfl ?_
    refine li_iload_n 2 dX6_reckon_98 rfl ?_
    refine li_isub dX6_reckon_99 ?_
    refine li_top (fun x4 ex4 => ?_)
    exact li_iret dX6_reckon_100 rfl rfl ⟨⟨_, rfl⟩, hf⟩
  by_cases c1_3 : (p1 : Int32).toInt = 60
  · refine li_lookup (off := 59) 60 dX6_reckon_1 rfl (by rw [c1_3]; rfl) (by decide) ?_
    refine li_iload_n 1 dX6_reckon_60 rfl ?_
    refine li_iload_n 2 dX6_reckon_61 rfl ?_
    refine li_icmp_ge 69 dX6_reckon_62 (by decide) (fun c5 => ?_) (fun c5 => ?_)
    · refine li_iconst 0 dX6_reckon_69 (by decide) ?_
      exact li_iret dX6_reckon_70 rfl rfl ⟨⟨_, rfl⟩, hf⟩
    · refine li_iconst 1 dX6_reckon_65 (by decide) ?_
      refine li_goto 70 dX6_reckon_66 (by decide) ?_
      exact li_iret dX6_reckon_70 rfl rfl ⟨⟨_, rfl⟩, hf⟩
  by_cases c1_4 : (p1 : Int32).toInt = 61
  · refine li_lookup (off := 81) 82 dX6_reckon_1 rfl (by rw [c1_4]; rfl) (by decide) ?_
    refine li_iload_n 1 dX6_reckon_82 rfl ?_
    refine li_iload_n 2 dX6_reckon_83 rfl ?_
    refine li_icmp_ne 91 dX6_reckon_84 (by decide) (fun c6 => ?_) (fun c6 => ?_)
    · refine li_iconst 0 dX6_reckon_91 (by decide) ?_
      exact li_iret dX6_reckon_92 rfl rfl ⟨⟨_, rfl⟩, hf⟩
    · refine li_iconst 1 dX6_reckon_87 (by decide) ?_
      refine li_goto 92 dX6_reckon_88 (by decide) ?_
      exact li_iret dX6_reckon_92 rfl rfl ⟨⟨_, rfl⟩, hf⟩
  by_cases c1_5 : (p1 : Int32).toInt = 62
  · refine li_lookup (off := 70) 71 dX6_reckon_1 rfl (by rw [c1_5]; rfl) (by decide) ?_
    refine li_iload_n 1 dX6_reckon_71 rfl ?_
    refine li_iload_n 2 dX6_reckon_72 rfl ?_
    refine li_icmp_le 80 dX6_reckon_73 (by decide) (fun c7 => ?_) (fun c7 => ?_)
    · refine li_iconst 0 dX6_reckon_80 (by decide) ?_
      exact li_iret dX6_reckon_81 rfl rfl ⟨⟨_, rfl⟩, hf⟩
    · refine li_iconst 1 dX6_reckon_76 (by decide) ?_
      refine li_goto 81 dX6_reckon_77 (by decide) ?_
      exact li_iret dX6_reckon_81 rfl rfl ⟨⟨_, rfl⟩, hf⟩
  refine li_lookup (off := 104) 105 dX6_reckon_1 rfl (by simp [Op.lookupswitch.offset, c1_0, Ne.symm c1_0, c1_1, Ne.symm c1_1, c1_2, Ne.symm c1_2, c1_3, Ne.symm c1_3, c1_4, Ne.symm c1_4, c1_5, Ne.symm c1_5]) (by decide) ?_
  refine li_iload_n 2 dX6_reckon_105 rfl ?_
  refine li_if_ne 113 dX6_reckon_106 (by decide) (fun c8 => ?_) (fun c8 => ?_)
  · refine li_iload_n 1 dX6_reckon_113 rfl ?_
    refine li_iload_n 2 dX6_reckon_114 rfl ?_
    refine li_idiv dX6_reckon_115 (by assumption) ?_
    refine li_top (fun x9 ex9 => ?_)
    exact li_iret dX6_reckon_116 rfl rfl ⟨⟨_, rfl⟩, hf⟩
  · refine li_iconst 0 dX6_reckon_109 (by decide) ?_
    refine li_goto 116 dX6_reckon_110 (by decide) ?_
    exact li_iret dX6_reckon_116 rfl rfl ⟨⟨_, rfl⟩, hf⟩
set_option maxRecDepth 100000 in
set_option maxHeartbeats 4000000 in
theorem k_X1_cell {l : Launch} {Z : li_Z} (d : Nat) (hd : 1 ≤ d) (p1 : Int32) (p2 : Int32) (p3 : Int32) (M0 : li_M) : li_Met l Z YX1_cell d [.int p1, .int p2, .int p3] M0 (li_SI (fun i => False) M0) := by
  refine li_enter (by decide +kernel) (Nat.le_of_ble_eq_true rfl) ?_
  show li_T l Z YX1_cell d 0 [(0, .int p1), (1, .int p2), (2, .int p3)] [] M0 _
  have hf : li_fr (fun i => False) M0 M0 := li_fr_refl
  refine li_iload_n 2 dX1_cell_0 rfl ?_
  refine li_iconst 1 dX1_cell_1 (by decide) ?_
  refine li_isub dX1_cell_2 ?_
  refine li_top (fun x1 ex1 => ?_)
  refine li_bipush 61 dX1_cell_3 (by decide) ?_
  refine li_imul dX1_cell_5 ?_
  refine li_top (fun x2 ex2 => ?_)
  refine li_iload_n 0 dX1_cell_6 rfl ?_
  refine li_iadd dX1_cell_7 ?_
  refine li_top (fun x3 ex3 => ?_)
  refine li_bipush 61 dX1_cell_8 (by decide) ?_
  refine li_imul dX1_cell_10 ?_
  refine li_top (fun x4 ex4 => ?_)
  refine li_iload_n 1 dX1_cell_11 rfl ?_
  refine li_iadd dX1_cell_12 ?_
  refine li_top (fun x5 ex5 => ?_)
  exact li_iret dX1_cell_13 rfl rfl ⟨⟨_, rfl⟩, hf⟩
set_option maxRecDepth 100000 in
set_option maxHeartbeats 4000000 in
theorem k_X2_wordsFor {l : Launch} {Z : li_Z} (d : Nat) (hd : 1 ≤ d) (p1 : Int32) (M0 : li_M) : li_Met l Z YX2_wordsFor d [.int p1] M0 (li_SI (fun i => False) M0) := by
  refine li_enter (by decide +kernel) (Nat.le_of_ble_eq_true rfl) ?_
  show li_T l Z YX2_wordsFor d 0 [(0, .int p1)] [] M0 _
  have hf : li_fr (fun i => False) M0 M0 := li_fr_refl
  refine li_iload_n 0 dX2_wordsFor_0 rfl ?_
  refine li_if_lt 11 dX2_wordsFor_1 (by decide) (fun c1 => ?_) (fun c1 => ?_)
  · refine li_iconst 0 dX2_wordsFor_11 (by decide) ?_
    refine li_goto 21 dX2_wordsFor_12 (by decide) ?_
    exact li_iret dX2_wordsFor_21 rfl rfl ⟨⟨_, rfl⟩, hf⟩
  · refine li_iload_n 0 dX2_wordsFor_4 rfl ?_
    refine li_sipush 8000 dX2_wordsFor_5 (by decide) ?_
    refine li_icmp_lt 15 dX2_wordsFor_8 (by decide) (fun c2 => ?_) (fun c2 => ?_)
    · refine li_iload_n 0 dX2_wordsFor_15 rfl ?_
      refine li_bipush 64 dX2_wordsFor_16 (by decide) ?_
      refine li_idiv dX2_wordsFor_18 (by decide) ?_
      refine li_top (fun x3 ex3 => ?_)
      refine li_iconst 1 dX2_wordsFor_19 (by decide) ?_
      refine li_iadd dX2_wordsFor_20 ?_
      refine li_top (fun x4 ex4 => ?_)
      exact li_iret dX2_wordsFor_21 rfl rfl ⟨⟨_, rfl⟩, hf⟩
    · refine li_iconst 0 dX2_wordsFor_11 (by decide) ?_
      refine li_goto 21 dX2_wordsFor_12 (by decide) ?_
      exact li_iret dX2_wordsFor_21 rfl rfl ⟨⟨_, rfl⟩, hf⟩
end
section
theorem w_142 : (Jvm.Cond.fieldLink "ClockForTalk$Text" (9 : Nat) "ClockForTalk$Text" "signs" "[I") ∈ li_ws := li_mem 142 (by decide +kernel) (by decide +kernel)
theorem w_143 : (Jvm.Cond.fieldLink "ClockForTalk$Text" (15 : Nat) "ClockForTalk$Text" "length" "I") ∈ li_ws := li_mem 143 (by decide +kernel) (by decide +kernel)
theorem w_145 : (Jvm.Cond.fieldLink "ClockForTalk$Text" (23 : Nat) "ClockForTalk$Text" "place" "I") ∈ li_ws := li_mem 145 (by decide +kernel) (by decide +kernel)
theorem w_162 : (Jvm.Cond.fieldLink "ClockForTalk$Row" (9 : Nat) "ClockForTalk$Row" "numbers" "[I") ∈ li_ws := li_mem 162 (by decide +kernel) (by decide +kernel)
theorem w_164 : (Jvm.Cond.fieldLink "ClockForTalk$Row" (19 : Nat) "ClockForTalk$Row" "length" "I") ∈ li_ws := li_mem 164 (by decide +kernel) (by decide +kernel)
theorem w_542 : (Jvm.Cond.static ({ cls := "ClockForTalk", name := "put", desc := "([III)V" } : Jvm.MethodName)) ∈ li_ws := li_mem 542 (by decide +kernel) (by decide +kernel)
theorem w_543 : (Jvm.Cond.code ({ cls := "ClockForTalk", name := "put", desc := "([III)V" } : Jvm.MethodName) prog_1_method_58_code (3 : Nat) (Option.none : Option Jvm.ClassFile.FieldType)) ∈ li_ws := li_mem 543 (by decide +kernel) (by decide +kernel)
theorem w_589 : (Jvm.Cond.static ({ cls := "ClockForTalk", name := "at", desc := "([II)I" } : Jvm.MethodName)) ∈ li_ws := li_mem 589 (by decide +kernel) (by decide +kernel)
theorem w_590 : (Jvm.Cond.code ({ cls := "ClockForTalk", name := "at", desc := "([II)I" } : Jvm.MethodName) prog_1_method_57_code (2 : Nat) (Option.some Jvm.ClassFile.FieldType.int)) ∈ li_ws := li_mem 590 (by decide +kernel) (by decide +kernel)
theorem w_659 : (Jvm.Cond.static ({ cls := "ClockForTalk", name := "within", desc := "(III)Z" } : Jvm.MethodName)) ∈ li_ws := li_mem 659 (by decide +kernel) (by decide +kernel)
theorem w_660 : (Jvm.Cond.code ({ cls := "ClockForTalk", name := "within", desc := "(III)Z" } : Jvm.MethodName) prog_1_method_61_code (3 : Nat) (Option.some Jvm.ClassFile.FieldType.boolean)) ∈ li_ws := li_mem 660 (by decide +kernel) (by decide +kernel)
theorem w_661 : (Jvm.Cond.methodLink "ClockForTalk$Text" (47 : Nat) ({ cls := "java/lang/Math", name := "max", desc := "(II)I" } : Jvm.MethodName)) ∈ li_ws := li_mem 661 (by decide +kernel) (by decide +kernel)
theorem w_745 : (Jvm.Cond.methodLink "ClockForTalk$Text" (53 : Nat) ({ cls := "java/lang/Math", name := "min", desc := "(II)I" } : Jvm.MethodName)) ∈ li_ws := li_mem 745 (by decide +kernel) (by decide +kernel)
theorem dX7_addFour_0 : decode cX7_addFour 0 = .ok (.aload_n 0, 1) := by decide +kernel
theorem dX7_addFour_1 : decode cX7_addFour 1 = .ok (.getfield 15, 3) := by decide +kernel
theorem dX7_addFour_4 : decode cX7_addFour 4 = .ok (.iconst 4, 1) := by decide +kernel
theorem dX7_addFour_5 : decode cX7_addFour 5 = .ok (.iadd, 1) := by decide +kernel
theorem dX7_addFour_6 : decode cX7_addFour 6 = .ok (.bipush 80, 2) := by decide +kernel
theorem dX7_addFour_8 : decode cX7_addFour 8 = .ok (.if_icmp .le 5, 3) := by decide +kernel
theorem dX7_addFour_11 : decode cX7_addFour 11 = .ok (.iconst 0, 1) := by decide +kernel
theorem dX7_addFour_12 : decode cX7_addFour 12 = .ok (.ireturn, 1) := by decide +kernel
theorem dX7_addFour_13 : decode cX7_addFour 13 = .ok (.bipush 24, 2) := by decide +kernel
theorem dX7_addFour_15 : decode cX7_addFour 15 = .ok (.istore_n 2, 1) := by decide +kernel
theorem dX7_addFour_16 : decode cX7_addFour 16 = .ok (.iload_n 2, 1) := by decide +kernel
theorem dX7_addFour_17 : decode cX7_addFour 17 = .ok (.ifCond .lt 37, 3) := by decide +kernel
theorem dX7_addFour_20 : decode cX7_addFour 20 = .ok (.aload_n 0, 1) := by decide +kernel
theorem dX7_addFour_21 : decode cX7_addFour 21 = .ok (.getfield 9, 3) := by decide +kernel
theorem dX7_addFour_24 : decode cX7_addFour 24 = .ok (.aload_n 0, 1) := by decide +kernel
theorem dX7_addFour_25 : decode cX7_addFour 25 = .ok (.getfield 15, 3) := by decide +kernel
theorem dX7_addFour_28 : decode cX7_addFour 28 = .ok (.iload_n 1, 1) := by decide +kernel
theorem dX7_addFour_29 : decode cX7_addFour 29 = .ok (.iload_n 2, 1) := by decide +kernel
theorem dX7_addFour_30 : decode cX7_addFour 30 = .ok (.iushr, 1) := by decide +kernel
theorem dX7_addFour_31 : decode cX7_addFour 31 = .ok (.sipush 255, 3) := by decide +kernel
theorem dX7_addFour_34 : decode cX7_addFour 34 = .ok (.iand, 1) := by decide +kernel
theorem dX7_addFour_35 : decode cX7_addFour 35 = .ok (.invokestatic 19, 3) := by decide +kernel
theorem dX7_addFour_38 : decode cX7_addFour 38 = .ok (.aload_n 0, 1) := by decide +kernel
theorem dX7_addFour_39 : decode cX7_addFour 39 = .ok (.dup, 1) := by decide +kernel
theorem dX7_addFour_40 : decode cX7_addFour 40 = .ok (.getfield 15, 3) := by decide +kernel
theorem dX7_addFour_43 : decode cX7_addFour 43 = .ok (.iconst 1, 1) := by decide +kernel
theorem dX7_addFour_44 : decode cX7_addFour 44 = .ok (.iadd, 1) := by decide +kernel
theorem dX7_addFour_45 : decode cX7_addFour 45 = .ok (.putfield 15, 3) := by decide +kernel
theorem dX7_addFour_48 : decode cX7_addFour 48 = .ok (.iinc 2 (-8), 3) := by decide +kernel
theorem dX7_addFour_51 : decode cX7_addFour 51 = .ok (.goto (-35), 3) := by decide +kernel
theorem dX7_addFour_54 : decode cX7_addFour 54 = .ok (.iconst 1, 1) := by decide +kernel
theorem dX7_addFour_55 : decode cX7_addFour 55 = .ok (.ireturn, 1) := by decide +kernel
abbrev YX7_addFour : li_Y := (yX7_addFour, cX7_addFour, 3, (some .boolean))
theorem dX7_cutTo_0 : decode cX7_cutTo 0 = .ok (.iload_n 1, 1) := by decide +kernel
theorem dX7_cutTo_1 : decode cX7_cutTo 1 = .ok (.ifCond .lt 11, 3) := by decide +kernel
theorem dX7_cutTo_4 : decode cX7_cutTo 4 = .ok (.iload_n 1, 1) := by decide +kernel
theorem dX7_cutTo_5 : decode cX7_cutTo 5 = .ok (.aload_n 0, 1) := by decide +kernel
theorem dX7_cutTo_6 : decode cX7_cutTo 6 = .ok (.getfield 15, 3) := by decide +kernel
theorem dX7_cutTo_9 : decode cX7_cutTo 9 = .ok (.if_icmp .le 5, 3) := by decide +kernel
theorem dX7_cutTo_12 : decode cX7_cutTo 12 = .ok (.iconst 0, 1) := by decide +kernel
theorem dX7_cutTo_13 : decode cX7_cutTo 13 = .ok (.ireturn, 1) := by decide +kernel
theorem dX7_cutTo_14 : decode cX7_cutTo 14 = .ok (.aload_n 0, 1) := by decide +kernel
theorem dX7_cutTo_15 : decode cX7_cutTo 15 = .ok (.iload_n 1, 1) := by decide +kernel
theorem dX7_cutTo_16 : decode cX7_cutTo 16 = .ok (.putfield 15, 3) := by decide +kernel
theorem dX7_cutTo_19 : decode cX7_cutTo 19 = .ok (.iconst 1, 1) := by decide +kernel
theorem dX7_cutTo_20 : decode cX7_cutTo 20 = .ok (.ireturn, 1) := by decide +kernel
abbrev YX7_cutTo : li_Y := (yX7_cutTo, cX7_cutTo, 2, (some .boolean))
theorem dX7_atEnd_0 : decode cX7_atEnd 0 = .ok (.aload_n 0, 1) := by decide +kernel
theorem dX7_atEnd_1 : decode cX7_atEnd 1 = .ok (.getfield 23, 3) := by decide +kernel
theorem dX7_atEnd_4 : decode cX7_atEnd 4 = .ok (.aload_n 0, 1) := by decide +kernel
theorem dX7_atEnd_5 : decode cX7_atEnd 5 = .ok (.getfield 15, 3) := by decide +kernel
theorem dX7_atEnd_8 : decode cX7_atEnd 8 = .ok (.if_icmp .lt 7, 3) := by decide +kernel
theorem dX7_atEnd_11 : decode cX7_atEnd 11 = .ok (.iconst 1, 1) := by decide +kernel
theorem dX7_atEnd_12 : decode cX7_atEnd 12 = .ok (.goto 4, 3) := by decide +kernel
theorem dX7_atEnd_15 : decode cX7_atEnd 15 = .ok (.iconst 0, 1) := by decide +kernel
theorem dX7_atEnd_16 : decode cX7_atEnd 16 = .ok (.ireturn, 1) := by decide +kernel
abbrev YX7_atEnd : li_Y := (yX7_atEnd, cX7_atEnd, 1, (some .boolean))
theorem dX7_skip_0 : decode cX7_skip 0 = .ok (.aload_n 0, 1) := by decide +kernel
theorem dX7_skip_1 : decode cX7_skip 1 = .ok (.getfield 23, 3) := by decide +kernel
theorem dX7_skip_4 : decode cX7_skip 4 = .ok (.aload_n 0, 1) := by decide +kernel
theorem dX7_skip_5 : decode cX7_skip 5 = .ok (.getfield 15, 3) := by decide +kernel
theorem dX7_skip_8 : decode cX7_skip 8 = .ok (.if_icmp .ge 18, 3) := by decide +kernel
theorem dX7_skip_11 : decode cX7_skip 11 = .ok (.aload_n 0, 1) := by decide +kernel
theorem dX7_skip_12 : decode cX7_skip 12 = .ok (.getfield 9, 3) := by decide +kernel
theorem dX7_skip_15 : decode cX7_skip 15 = .ok (.aload_n 0, 1) := by decide +kernel
theorem dX7_skip_16 : decode cX7_skip 16 = .ok (.getfield 23, 3) := by decide +kernel
theorem dX7_skip_19 : decode cX7_skip 19 = .ok (.invokestatic 26, 3) := by decide +kernel
theorem dX7_skip_22 : decode cX7_skip 22 = .ok (.iload_n 1, 1) := by decide +kernel
theorem dX7_skip_23 : decode cX7_skip 23 = .ok (.if_icmp .eq 5, 3) := by decide +kernel
theorem dX7_skip_26 : decode cX7_skip 26 = .ok (.iconst 0, 1) := by decide +kernel
theorem dX7_skip_27 : decode cX7_skip 27 = .ok (.ireturn, 1) := by decide +kernel
theorem dX7_skip_28 : decode cX7_skip 28 = .ok (.aload_n 0, 1) := by decide +kernel
theorem dX7_skip_29 : decode cX7_skip 29 = .ok (.dup, 1) := by decide +kernel
theorem dX7_skip_30 : decode cX7_skip 30 = .ok (.getfield 23, 3) := by decide +kernel
theorem dX7_skip_33 : decode cX7_skip 33 = .ok (.iconst 1, 1) := by decide +kernel
theorem dX7_skip_34 : decode cX7_skip 34 = .ok (.iadd, 1) := by decide +kernel
theorem dX7_skip_35 : decode cX7_skip 35 = .ok (.putfield 23, 3) := by decide +kernel
theorem dX7_skip_38 : decode cX7_skip 38 = .ok (.iconst 1, 1) := by decide +kernel
theorem dX7_skip_39 : decode cX7_skip 39 = .ok (.ireturn, 1) := by decide +kernel
abbrev YX7_skip : li_Y := (yX7_skip, cX7_skip, 2, (some .boolean))
theorem dX7_takeOneOf_0 : decode cX7_takeOneOf 0 = .ok (.aload_n 0, 1) := by decide +kernel
theorem dX7_takeOneOf_1 : decode cX7_takeOneOf 1 = .ok (.getfield 23, 3) := by decide +kernel
theorem dX7_takeOneOf_4 : decode cX7_takeOneOf 4 = .ok (.aload_n 0, 1) := by decide +kernel
theorem dX7_takeOneOf_5 : decode cX7_takeOneOf 5 = .ok (.getfield 15, 3) := by decide +kernel
theorem dX7_takeOneOf_8 : decode cX7_takeOneOf 8 = .ok (.if_icmp .lt 5, 3) := by decide +kernel
theorem dX7_takeOneOf_11 : decode cX7_takeOneOf 11 = .ok (.iconst (-1), 1) := by decide +kernel
theorem dX7_takeOneOf_12 : decode cX7_takeOneOf 12 = .ok (.ireturn, 1) := by decide +kernel
theorem dX7_takeOneOf_13 : decode cX7_takeOneOf 13 = .ok (.aload_n 0, 1) := by decide +kernel
theorem dX7_takeOneOf_14 : decode cX7_takeOneOf 14 = .ok (.getfield 9, 3) := by decide +kernel
theorem dX7_takeOneOf_17 : decode cX7_takeOneOf 17 = .ok (.aload_n 0, 1) := by decide +kernel
theorem dX7_takeOneOf_18 : decode cX7_takeOneOf 18 = .ok (.getfield 23, 3) := by decide +kernel
theorem dX7_takeOneOf_21 : decode cX7_takeOneOf 21 = .ok (.invokestatic 26, 3) := by decide +kernel
theorem dX7_takeOneOf_24 : decode cX7_takeOneOf 24 = .ok (.iload_n 1, 1) := by decide +kernel
theorem dX7_takeOneOf_25 : decode cX7_takeOneOf 25 = .ok (.isub, 1) := by decide +kernel
theorem dX7_takeOneOf_26 : decode cX7_takeOneOf 26 = .ok (.istore_n 3, 1) := by decide +kernel
theorem dX7_takeOneOf_27 : decode cX7_takeOneOf 27 = .ok (.iload_n 3, 1) := by decide +kernel
theorem dX7_takeOneOf_28 : decode cX7_takeOneOf 28 = .ok (.ifCond .lt 8, 3) := by decide +kernel
theorem dX7_takeOneOf_31 : decode cX7_takeOneOf 31 = .ok (.iload_n 3, 1) := by decide +kernel
theorem dX7_takeOneOf_32 : decode cX7_takeOneOf 32 = .ok (.iload_n 2, 1) := by decide +kernel
theorem dX7_takeOneOf_33 : decode cX7_takeOneOf 33 = .ok (.if_icmp .lt 5, 3) := by decide +kernel
theorem dX7_takeOneOf_36 : decode cX7_takeOneOf 36 = .ok (.iconst (-1), 1) := by decide +kernel
theorem dX7_takeOneOf_37 : decode cX7_takeOneOf 37 = .ok (.ireturn, 1) := by decide +kernel
theorem dX7_takeOneOf_38 : decode cX7_takeOneOf 38 = .ok (.aload_n 0, 1) := by decide +kernel
theorem dX7_takeOneOf_39 : decode cX7_takeOneOf 39 = .ok (.dup, 1) := by decide +kernel
theorem dX7_takeOneOf_40 : decode cX7_takeOneOf 40 = .ok (.getfield 23, 3) := by decide +kernel
theorem dX7_takeOneOf_43 : decode cX7_takeOneOf 43 = .ok (.iconst 1, 1) := by decide +kernel
theorem dX7_takeOneOf_44 : decode cX7_takeOneOf 44 = .ok (.iadd, 1) := by decide +kernel
theorem dX7_takeOneOf_45 : decode cX7_takeOneOf 45 = .ok (.putfield 23, 3) := by decide +kernel
theorem dX7_takeOneOf_48 : decode cX7_takeOneOf 48 = .ok (.iload_n 3, 1) := by decide +kernel
theorem dX7_takeOneOf_49 : decode cX7_takeOneOf 49 = .ok (.ireturn, 1) := by decide +kernel
abbrev YX7_takeOneOf : li_Y := (yX7_takeOneOf, cX7_takeOneOf, 4, (some .int))
theorem dX7_takeNumber_0 : decode cX7_takeNumber 0 = .ok (.iconst (-1), 1) := by decide +kernel
theorem dX7_takeNumber_1 : decode cX7_takeNumber 1 = .ok (.istore_n 2, 1) := by decide +kernel
theorem dX7_takeNumber_2 : decode cX7_takeNumber 2 = .ok (.iconst 0, 1) := by decide +kernel
theorem dX7_takeNumber_3 : decode cX7_takeNumber 3 = .ok (.istore_n 3, 1) := by decide +kernel
theorem dX7_takeNumber_4 : decode cX7_takeNumber 4 = .ok (.iload_n 3, 1) := by decide +kernel
theorem dX7_takeNumber_5 : decode cX7_takeNumber 5 = .ok (.iload_n 1, 1) := by decide +kernel
theorem dX7_takeNumber_6 : decode cX7_takeNumber 6 = .ok (.if_icmp .ge 76, 3) := by decide +kernel
theorem dX7_takeNumber_9 : decode cX7_takeNumber 9 = .ok (.aload_n 0, 1) := by decide +kernel
theorem dX7_takeNumber_10 : decode cX7_takeNumber 10 = .ok (.getfield 23, 3) := by decide +kernel
theorem dX7_takeNumber_13 : decode cX7_takeNumber 13 = .ok (.aload_n 0, 1) := by decide +kernel
theorem dX7_takeNumber_14 : decode cX7_takeNumber 14 = .ok (.getfield 15, 3) := by decide +kernel
theorem dX7_takeNumber_17 : decode cX7_takeNumber 17 = .ok (.if_icmp .ge 20, 3) := by decide +kernel
theorem dX7_takeNumber_20 : decode cX7_takeNumber 20 = .ok (.aload_n 0, 1) := by decide +kernel
theorem dX7_takeNumber_21 : decode cX7_takeNumber 21 = .ok (.getfield 9, 3) := by decide +kernel
theorem dX7_takeNumber_24 : decode cX7_takeNumber 24 = .ok (.aload_n 0, 1) := by decide +kernel
theorem dX7_takeNumber_25 : decode cX7_takeNumber 25 = .ok (.getfield 23, 3) := by decide +kernel
theorem dX7_takeNumber_28 : decode cX7_takeNumber 28 = .ok (.invokestatic 26, 3) := by decide +kernel
theorem dX7_takeNumber_31 : decode cX7_takeNumber 31 = .ok (.bipush 48, 2) := by decide +kernel
theorem dX7_takeNumber_33 : decode cX7_takeNumber 33 = .ok (.isub, 1) := by decide +kernel
theorem dX7_takeNumber_34 : decode cX7_takeNumber 34 = .ok (.goto 4, 3) := by decide +kernel
theorem dX7_takeNumber_37 : decode cX7_takeNumber 37 = .ok (.iconst (-1), 1) := by decide +kernel
theorem dX7_takeNumber_38 : decode cX7_takeNumber 38 = .ok (.istore 4, 2) := by decide +kernel
theorem dX7_takeNumber_40 : decode cX7_takeNumber 40 = .ok (.iload 4, 2) := by decide +kernel
theorem dX7_takeNumber_42 : decode cX7_takeNumber 42 = .ok (.iconst 0, 1) := by decide +kernel
theorem dX7_takeNumber_43 : decode cX7_takeNumber 43 = .ok (.bipush 9, 2) := by decide +kernel
theorem dX7_takeNumber_45 : decode cX7_takeNumber 45 = .ok (.invokestatic 43, 3) := by decide +kernel
theorem dX7_takeNumber_48 : decode cX7_takeNumber 48 = .ok (.ifCond .ne 6, 3) := by decide +kernel
theorem dX7_takeNumber_51 : decode cX7_takeNumber 51 = .ok (.goto 31, 3) := by decide +kernel
theorem dX7_takeNumber_54 : decode cX7_takeNumber 54 = .ok (.aload_n 0, 1) := by decide +kernel
theorem dX7_takeNumber_55 : decode cX7_takeNumber 55 = .ok (.dup, 1) := by decide +kernel
theorem dX7_takeNumber_56 : decode cX7_takeNumber 56 = .ok (.getfield 23, 3) := by decide +kernel
theorem dX7_takeNumber_59 : decode cX7_takeNumber 59 = .ok (.iconst 1, 1) := by decide +kernel
theorem dX7_takeNumber_60 : decode cX7_takeNumber 60 = .ok (.iadd, 1) := by decide +kernel
theorem dX7_takeNumber_61 : decode cX7_takeNumber 61 = .ok (.putfield 23, 3) := by decide +kernel
theorem dX7_takeNumber_64 : decode cX7_takeNumber 64 = .ok (.iload_n 2, 1) := by decide +kernel
theorem dX7_takeNumber_65 : decode cX7_takeNumber 65 = .ok (.iconst 0, 1) := by decide +kernel
theorem dX7_takeNumber_66 : decode cX7_takeNumber 66 = .ok (.invokestatic 47, 3) := by decide +kernel
theorem dX7_takeNumber_69 : decode cX7_takeNumber 69 = .ok (.bipush 10, 2) := by decide +kernel
theorem dX7_takeNumber_71 : decode cX7_takeNumber 71 = .ok (.imul, 1) := by decide +kernel
theorem dX7_takeNumber_72 : decode cX7_takeNumber 72 = .ok (.iload 4, 2) := by decide +kernel
theorem dX7_takeNumber_74 : decode cX7_takeNumber 74 = .ok (.iadd, 1) := by decide +kernel
theorem dX7_takeNumber_75 : decode cX7_takeNumber 75 = .ok (.istore_n 2, 1) := by decide +kernel
theorem dX7_takeNumber_76 : decode cX7_takeNumber 76 = .ok (.iinc 3 1, 3) := by decide +kernel
theorem dX7_takeNumber_79 : decode cX7_takeNumber 79 = .ok (.goto (-75), 3) := by decide +kernel
theorem dX7_takeNumber_82 : decode cX7_takeNumber 82 = .ok (.iload_n 2, 1) := by decide +kernel
theorem dX7_takeNumber_83 : decode cX7_takeNumber 83 = .ok (.ireturn, 1) := by decide +kernel
abbrev YX7_takeNumber : li_Y := (yX7_takeNumber, cX7_takeNumber, 5, (some .int))
theorem dX7_verdict_0 : decode cX7_verdict 0 = .ok (.iload_n 1, 1) := by decide +kernel
theorem dX7_verdict_1 : decode cX7_verdict 1 = .ok (.ifCond .ge 14, 3) := by decide +kernel
theorem dX7_verdict_4 : decode cX7_verdict 4 = .ok (.iconst (-1), 1) := by decide +kernel
theorem dX7_verdict_5 : decode cX7_verdict 5 = .ok (.aload_n 0, 1) := by decide +kernel
theorem dX7_verdict_6 : decode cX7_verdict 6 = .ok (.getfield 23, 3) := by decide +kernel
theorem dX7_verdict_9 : decode cX7_verdict 9 = .ok (.iload_n 2, 1) := by decide +kernel
theorem dX7_verdict_10 : decode cX7_verdict 10 = .ok (.invokestatic 53, 3) := by decide +kernel
theorem dX7_verdict_13 : decode cX7_verdict 13 = .ok (.isub, 1) := by decide +kernel
theorem dX7_verdict_14 : decode cX7_verdict 14 = .ok (.ireturn, 1) := by decide +kernel
theorem dX7_verdict_15 : decode cX7_verdict 15 = .ok (.aload_n 0, 1) := by decide +kernel
theorem dX7_verdict_16 : decode cX7_verdict 16 = .ok (.getfield 15, 3) := by decide +kernel
theorem dX7_verdict_19 : decode cX7_verdict 19 = .ok (.iload_n 2, 1) := by decide +kernel
theorem dX7_verdict_20 : decode cX7_verdict 20 = .ok (.if_icmp .le 9, 3) := by decide +kernel
theorem dX7_verdict_23 : decode cX7_verdict 23 = .ok (.iconst (-1), 1) := by decide +kernel
theorem dX7_verdict_24 : decode cX7_verdict 24 = .ok (.iload_n 2, 1) := by decide +kernel
theorem dX7_verdict_25 : decode cX7_verdict 25 = .ok (.isub, 1) := by decide +kernel
theorem dX7_verdict_26 : decode cX7_verdict 26 = .ok (.goto 4, 3) := by decide +kernel
theorem dX7_verdict_29 : decode cX7_verdict 29 = .ok (.iload_n 1, 1) := by decide +kernel
theorem dX7_verdict_30 : decode cX7_verdict 30 = .ok (.ireturn, 1) := by decide +kernel
abbrev YX7_verdict : li_Y := (yX7_verdict, cX7_verdict, 3, (some .int))
theorem dX5_tell_0 : decode cX5_tell 0 = .ok (.aload_n 0, 1) := by decide +kernel
theorem dX5_tell_1 : decode cX5_tell 1 = .ok (.getfield 9, 3) := by decide +kernel
theorem dX5_tell_4 : decode cX5_tell 4 = .ok (.iconst 0, 1) := by decide +kernel
theorem dX5_tell_5 : decode cX5_tell 5 = .ok (.iload_n 1, 1) := by decide +kernel
theorem dX5_tell_6 : decode cX5_tell 6 = .ok (.invokestatic 15, 3) := by decide +kernel
theorem dX5_tell_9 : decode cX5_tell 9 = .ok (.aload_n 0, 1) := by decide +kernel
theorem dX5_tell_10 : decode cX5_tell 10 = .ok (.iconst 1, 1) := by decide +kernel
theorem dX5_tell_11 : decode cX5_tell 11 = .ok (.putfield 19, 3) := by decide +kernel
theorem dX5_tell_14 : decode cX5_tell 14 = .ok (.return_, 1) := by decide +kernel
abbrev YX5_tell : li_Y := (yX5_tell, cX5_tell, 2, none)
theorem dX5_tellTwo_0 : decode cX5_tellTwo 0 = .ok (.aload_n 0, 1) := by decide +kernel
theorem dX5_tellTwo_1 : decode cX5_tellTwo 1 = .ok (.getfield 9, 3) := by decide +kernel
theorem dX5_tellTwo_4 : decode cX5_tellTwo 4 = .ok (.iconst 0, 1) := by decide +kernel
theorem dX5_tellTwo_5 : decode cX5_tellTwo 5 = .ok (.iload_n 1, 1) := by decide +kernel
theorem dX5_tellTwo_6 : decode cX5_tellTwo 6 = .ok (.invokestatic 15, 3) := by decide +kernel
theorem dX5_tellTwo_9 : decode cX5_tellTwo 9 = .ok (.aload_n 0, 1) := by decide +kernel
theorem dX5_tellTwo_10 : decode cX5_tellTwo 10 = .ok (.getfield 9, 3) := by decide +kernel
theorem dX5_tellTwo_13 : decode cX5_tellTwo 13 = .ok (.iconst 1, 1) := by decide +kernel
theorem dX5_tellTwo_14 : decode cX5_tellTwo 14 = .ok (.iload_n 2, 1) := by decide +kernel
theorem dX5_tellTwo_15 : decode cX5_tellTwo 15 = .ok (.invokestatic 15, 3) := by decide +kernel
theorem dX5_tellTwo_18 : decode cX5_tellTwo 18 = .ok (.aload_n 0, 1) := by decide +kernel
theorem dX5_tellTwo_19 : decode cX5_tellTwo 19 = .ok (.iconst 2, 1) := by decide +kernel
theorem dX5_tellTwo_20 : decode cX5_tellTwo 20 = .ok (.putfield 19, 3) := by decide +kernel
theorem dX5_tellTwo_23 : decode cX5_tellTwo 23 = .ok (.return_, 1) := by decide +kernel
abbrev YX5_tellTwo : li_Y := (yX5_tellTwo, cX5_tellTwo, 3, none)
set_option maxRecDepth 100000 in
set_option maxHeartbeats 4000000 in
theorem k_X7_addFour {l : Launch} {Z : li_Z} (d : Nat) (hd : 2 ≤ d) (p1 : Int32) (M0 : li_M) : li_Met l Z YX7_addFour d [.ref (Z.2.2 1), .int p1] M0 (li_SZ (fun i => i = 1 ∨ i = 2) M0) := by
  refine li_enter (by decide +kernel) (Nat.le_of_ble_eq_true rfl) ?_
  show li_T l Z YX7_addFour d 0 [(0, .ref (Z.2.2 1)), (1, .int p1)] [] M0 _
  have hf : li_fr (fun i => i = 1 ∨ i = 2) M0 M0 := li_fr_refl
  refine li_aload_n 0 dX7_addFour_0 rfl ?_
  refine li_geti (k := 1) (N := 3) (T := TX7) (C0 := RX7) dX7_addFour_1 (by decide) sh_1 rfl rfl (by decide) li_in7 w_143 ?_
  refine li_top (fun x1 ex1 => ?_)
  refine li_iconst 4 dX7_addFour_4 (by decide) ?_
  refine li_iadd dX7_addFour_5 ?_
  refine li_top (fun x2 ex2 => ?_)
  refine li_bipush 80 dX7_addFour_6 (by decide) ?_
  refine li_icmp_le 13 dX7_addFour_8 (by decide) (fun c3 => ?_) (fun c3 => ?_)
  · refine li_bipush 24 dX7_addFour_13 (by decide) ?_
    refine li_istore_n [(2, .int 24), (0, .ref (Z.2.2 1)), (1, .int p1)] dX7_addFour_15 (by decide) rfl ?_
    have L16 : ∀ (n : Nat) (x4 : Int32) (M5 : li_M), ((x4 : Int32).toInt + 2147483648).toNat < n → li_fr (fun i => i = 1 ∨ i = 2) M0 M5 → li_T l Z YX7_addFour d 16 [(2, .int x4), (0, .ref (Z.2.2 1)), (1, .int p1)] [] M5 (li_SZ (fun i => i = 1 ∨ i = 2) M0) := by
      intro n
      induction n with
      | zero => intro x4 M5 hn; exact absurd hn (Nat.not_lt_zero _)
      | succ n ih16 =>
        intro x4 M5 hn hf
        refine li_iload_n 0 dX7_addFour_16 rfl ?_
        refine li_if_lt 54 dX7_addFour_17 (by decide) (fun c6 => ?_) (fun c6 => ?_)
        · refine li_iconst 1 dX7_addFour_54 (by decide) ?_
          exact li_iret dX7_addFour_55 rfl (li_nz (Or.inr rfl)) ⟨⟨_, rfl, Or.inr rfl⟩, hf⟩
        · refine li_aload_n 1 dX7_addFour_20 rfl ?_
          refine li_getr (k := 0) (N := 3) (T := TX7) (C0 := RX7) dX7_addFour_21 (by decide) sh_1 rfl rfl (by decide) (by decide) li_in7 w_142 ?_
          refine li_aload_n 1 dX7_addFour_24 rfl ?_
          refine li_geti (k := 1) (N := 3) (T := TX7) (C0 := RX7) dX7_addFour_25 (by decide) sh_1 rfl rfl (by decide) li_in7 w_143 ?_
          refine li_top (fun x7 ex7 => ?_)
          refine li_iload_n 2 dX7_addFour_28 rfl ?_
          refine li_iload_n 0 dX7_addFour_29 rfl ?_
          refine li_iushr dX7_addFour_30 ?_
          refine li_top (fun x8 ex8 => ?_)
          refine li_sipush 255 dX7_addFour_31 (by decide) ?_
          refine li_iand dX7_addFour_34 ?_
          refine li_top (fun x9 ex9 => ?_)
          refine li_callN (n := 3) (As := [.ref (Z.2.2 2), .int x7, .int x9]) dX7_addFour_35 (k_X11_put (d - 1) (by omega) (by decide) sh_2 (by decide) x7 x9 M5) (by omega) (Nat.le_of_ble_eq_true rfl) nw_8 w_542 w_104 w_543 (by decide +kernel) rfl rfl (Nat.le_of_ble_eq_true rfl) (fun r M11 h12 => ?_)
          obtain ⟨rfl, h12⟩ := h12
          have hf := li_fr_trans hf h12 (fun i (h : i = 2) => (show i = 1 ∨ i = 2 by omega))
          refine li_aload_n 1 dX7_addFour_38 rfl ?_
          refine li_dup dX7_addFour_39 rfl ?_
          refine li_geti (k := 1) (N := 3) (T := TX7) (C0 := RX7) dX7_addFour_40 (by decide) sh_1 rfl rfl (by decide) li_in7 w_143 ?_
          refine li_top (fun x13 ex13 => ?_)
          refine li_iconst 1 dX7_addFour_43 (by decide) ?_
          refine li_iadd dX7_addFour_44 ?_
          refine li_top (fun x14 ex14 => ?_)
          refine li_puti (k := 1) (N := 3) (T := TX7) (C0 := RX7) dX7_addFour_45 (by decide) sh_1 rfl rfl (by decide) li_in7 tyX7_ok nmX7 rfl rfl rfl rfl w_143 ?_
          refine li_nm (fun M15 eM15 => ?_)
          have hf := li_fr_ui hf (show 1 = 1 ∨ 1 = 2 by omega) eM15
          obtain ⟨x16, ex16⟩ : ∃ y : Int32, y = x4 + (-8) := ⟨_, rfl⟩
          refine li_iinc 0 [(2, .int x16), (0, .ref (Z.2.2 1)), (1, .int p1)] x16 dX7_addFour_48 rfl (by rw [ex16]; rfl) (by decide) rfl ?_
          refine li_goto 16 dX7_addFour_51 (by decide) ?_
          refine li_pick [0, 1, 2] [(2, .int x16), (0, .ref (Z.2.2 1)), (1, .int p1)] rfl ?_
          exact ih16 x16 M15 (by have h9 := li_dn8 c6; rw [← ex16] at h9; omega) hf
    exact L16 _ 24 M0 (Nat.lt_succ_self _) hf
  · refine li_iconst 0 dX7_addFour_11 (by decide) ?_
    exact li_iret dX7_addFour_12 rfl (li_nz (Or.inl rfl)) ⟨⟨_, rfl, Or.inl rfl⟩, hf⟩
set_option maxRecDepth 100000 in
set_option maxHeartbeats 4000000 in
theorem k_X7_cutTo {l : Launch} {Z : li_Z} (d : Nat) (hd : 1 ≤ d) (p1 : Int32) (M0 : li_M) : li_Met l Z YX7_cutTo d [.ref (Z.2.2 1), .int p1] M0 (li_SZ (fun i => i = 1) M0) := by
  refine li_enter (by decide +kernel) (Nat.le_of_ble_eq_true rfl) ?_
  show li_T l Z YX7_cutTo d 0 [(0, .ref (Z.2.2 1)), (1, .int p1)] [] M0 _
  have hf : li_fr (fun i => i = 1) M0 M0 := li_fr_refl
  refine li_iload_n 1 dX7_cutTo_0 rfl ?_
  refine li_if_lt 12 dX7_cutTo_1 (by decide) (fun c1 => ?_) (fun c1 => ?_)
  · refine li_iconst 0 dX7_cutTo_12 (by decide) ?_
    exact li_iret dX7_cutTo_13 rfl (li_nz (Or.inl rfl)) ⟨⟨_, rfl, Or.inl rfl⟩, hf⟩
  · refine li_iload_n 1 dX7_cutTo_4 rfl ?_
    refine li_aload_n 0 dX7_cutTo_5 rfl ?_
    refine li_geti (k := 1) (N := 3) (T := TX7) (C0 := RX7) dX7_cutTo_6 (by decide) sh_1 rfl rfl (by decide) li_in7 w_143 ?_
    refine li_top (fun x2 ex2 => ?_)
    refine li_icmp_le 14 dX7_cutTo_9 (by decide) (fun c3 => ?_) (fun c3 => ?_)
    · refine li_aload_n 0 dX7_cutTo_14 rfl ?_
      refine li_iload_n 1 dX7_cutTo_15 rfl ?_
      refine li_puti (k := 1) (N := 3) (T := TX7) (C0 := RX7) dX7_cutTo_16 (by decide) sh_1 rfl rfl (by decide) li_in7 tyX7_ok nmX7 rfl rfl rfl rfl w_143 ?_
      refine li_nm (fun M4 eM4 => ?_)
      have hf := li_fr_ui hf (show 1 = 1 by omega) eM4
      refine li_iconst 1 dX7_cutTo_19 (by decide) ?_
      exact li_iret dX7_cutTo_20 rfl (li_nz (Or.inr rfl)) ⟨⟨_, rfl, Or.inr rfl⟩, hf⟩
    · refine li_iconst 0 dX7_cutTo_12 (by decide) ?_
      exact li_iret dX7_cutTo_13 rfl (li_nz (Or.inl rfl)) ⟨⟨_, rfl, Or.inl rfl⟩, hf⟩
set_option maxRecDepth 100000 in
set_option maxHeartbeats 4000000 in
theorem k_X7_atEnd {l : Launch} {Z : li_Z} (d : Nat) (hd : 1 ≤ d) (M0 : li_M) : li_Met l Z YX7_atEnd d [.ref (Z.2.2 1)] M0 (li_SZ (fun i => False) M0) := by
  refine li_enter (by decide +kernel) (Nat.le_of_ble_eq_true rfl) ?_
  show li_T l Z YX7_atEnd d 0 [(0, .ref (Z.2.2 1))] [] M0 _
  have hf : li_fr (fun i => False) M0 M0 := li_fr_refl
  refine li_aload_n 0 dX7_atEnd_0 rfl ?_
  refine li_geti (k := 2) (N := 3) (T := TX7) (C0 := RX7) dX7_atEnd_1 (by decide) sh_1 rfl rfl (by decide) li_in7 w_145 ?_
  refine li_top (fun x1 ex1 => ?_)
  refine li_aload_n 0 dX7_atEnd_4 rfl ?_
  refine li_geti (k := 1) (N := 3) (T := TX7) (C0 := RX7) dX7_atEnd_5 (by decide) sh_1 rfl rfl (by decide) li_in7 w_143 ?_
  refine li_top (fun x2 ex2 => ?_)
  refine li_icmp_lt 15 dX7_atEnd_8 (by decide) (fun c3 => ?_) (fun c3 => ?_)
  · refine li_iconst 0 dX7_atEnd_15 (by decide) ?_
    exact li_iret dX7_atEnd_16 rfl (li_nz (Or.inl rfl)) ⟨⟨_, rfl, Or.inl rfl⟩, hf⟩
  · refine li_iconst 1 dX7_atEnd_11 (by decide) ?_
    refine li_goto 16 dX7_atEnd_12 (by decide) ?_
    exact li_iret dX7_atEnd_16 rfl (li_nz (Or.inr rfl)) ⟨⟨_, rfl, Or.inr rfl⟩, hf⟩
set_option maxRecDepth 100000 in
set_option maxHeartbeats 4000000 in
theorem k_X7_skip {l : Launch} {Z : li_Z} (d : Nat) (hd : 2 ≤ d) (p1 : Int32) (M0 : li_M) : li_Met l Z YX7_skip d [.ref (Z.2.2 1), .int p1] M0 (li_SZ (fun i => i = 1) M0) := by
  refine li_enter (by decide +kernel) (Nat.le_of_ble_eq_true rfl) ?_
  show li_T l Z YX7_skip d 0 [(0, .ref (Z.2.2 1)), (1, .int p1)] [] M0 _
  have hf : li_fr (fun i => i = 1) M0 M0 := li_fr_refl
  refine li_aload_n 0 dX7_skip_0 rfl ?_
  refine li_geti (k := 2) (N := 3) (T := TX7) (C0 := RX7) dX7_skip_1 (by decide) sh_1 rfl rfl (by decide) li_in7 w_145 ?_
  refine li_top (fun x1 ex1 => ?_)
  refine li_aload_n 0 dX7_skip_4 rfl ?_
  refine li_geti (k := 1) (N := 3) (T := TX7) (C0 := RX7) dX7_skip_5 (by decide) sh_1 rfl rfl (by decide) li_in7 w_143 ?_
  refine li_top (fun x2 ex2 => ?_)
  refine li_icmp_ge 26 dX7_skip_8 (by decide) (fun c3 => ?_) (fun c3 => ?_)
  · refine li_iconst 0 dX7_skip_26 (by decide) ?_
    exact li_iret dX7_skip_27 rfl (li_nz (Or.inl rfl)) ⟨⟨_, rfl, Or.inl rfl⟩, hf⟩
  · refine li_aload_n 0 dX7_skip_11 rfl ?_
    refine li_getr (k := 0) (N := 3) (T := TX7) (C0 := RX7) dX7_skip_12 (by decide) sh_1 rfl rfl (by decide) (by decide) li_in7 w_142 ?_
    refine li_aload_n 0 dX7_skip_15 rfl ?_
    refine li_geti (k := 2) (N := 3) (T := TX7) (C0 := RX7) dX7_skip_16 (by decide) sh_1 rfl rfl (by decide) li_in7 w_145 ?_
    refine li_top (fun x4 ex4 => ?_)
    refine li_callN (n := 2) (As := [.ref (Z.2.2 2), .int x4]) dX7_skip_19 (k_X11_at (d - 1) (by omega) (by decide) sh_2 (by decide) x4 M0) (by omega) (Nat.le_of_ble_eq_true rfl) nw_9 w_589 w_104 w_590 (by decide +kernel) rfl rfl (Nat.le_of_ble_eq_true rfl) (fun r M6 h7 => ?_)
    obtain ⟨⟨x5, rfl⟩, h7⟩ := h7
    have hf := li_fr_trans hf h7 (fun i h => False.elim h)
    refine li_iload_n 1 dX7_skip_22 rfl ?_
    refine li_icmp_eq 28 dX7_skip_23 (by decide) (fun c8 => ?_) (fun c8 => ?_)
    · refine li_aload_n 0 dX7_skip_28 rfl ?_
      refine li_dup dX7_skip_29 rfl ?_
      refine li_geti (k := 2) (N := 3) (T := TX7) (C0 := RX7) dX7_skip_30 (by decide) sh_1 rfl rfl (by decide) li_in7 w_145 ?_
      refine li_top (fun x9 ex9 => ?_)
      refine li_iconst 1 dX7_skip_33 (by decide) ?_
      refine li_iadd dX7_skip_34 ?_
      refine li_top (fun x10 ex10 => ?_)
      refine li_puti (k := 2) (N := 3) (T := TX7) (C0 := RX7) dX7_skip_35 (by decide) sh_1 rfl rfl (by decide) li_in7 tyX7_ok nmX7 rfl rfl rfl rfl w_145 ?_
      refine li_nm (fun M11 eM11 => ?_)
      have hf := li_fr_ui hf (show 1 = 1 by omega) eM11
      refine li_iconst 1 dX7_skip_38 (by decide) ?_
      exact li_iret dX7_skip_39 rfl (li_nz (Or.inr rfl)) ⟨⟨_, rfl, Or.inr rfl⟩, hf⟩
    · refine li_iconst 0 dX7_skip_26 (by decide) ?_
      exact li_iret dX7_skip_27 rfl (li_nz (Or.inl rfl)) ⟨⟨_, rfl, Or.inl rfl⟩, hf⟩
set_option maxRecDepth 100000 in
set_option maxHeartbeats 4000000 in
theorem k_X7_takeOneOf {l : Launch} {Z : li_Z} (d : Nat) (hd : 2 ≤ d) (p1 : Int32) (p2 : Int32) (M0 : li_M) : li_Met l Z YX7_takeOneOf d [.ref (Z.2.2 1), .int p1, .int p2] M0 (li_SI (fun i => i = 1) M0) := by
  refine li_enter (by decide +kernel) (Nat.le_of_ble_eq_true rfl) ?_
  show li_T l Z YX7_takeOneOf d 0 [(0, .ref (Z.2.2 1)), (1, .int p1), (2, .int p2)] [] M0 _
  have hf : li_fr (fun i => i = 1) M0 M0 := li_fr_refl
  refine li_aload_n 0 dX7_takeOneOf_0 rfl ?_
  refine li_geti (k := 2) (N := 3) (T := TX7) (C0 := RX7) dX7_takeOneOf_1 (by decide) sh_1 rfl rfl (by decide) li_in7 w_145 ?_
  refine li_top (fun x1 ex1 => ?_)
  refine li_aload_n 0 dX7_takeOneOf_4 rfl ?_
  refine li_geti (k := 1) (N := 3) (T := TX7) (C0 := RX7) dX7_takeOneOf_5 (by decide) sh_1 rfl rfl (by decide) li_in7 w_143 ?_
  refine li_top (fun x2 ex2 => ?_)
  refine li_icmp_lt 13 dX7_takeOneOf_8 (by decide) (fun c3 => ?_) (fun c3 => ?_)
  · refine li_aload_n 0 dX7_takeOneOf_13 rfl ?_
    refine li_getr (k := 0) (N := 3) (T := TX7) (C0 := RX7) dX7_takeOneOf_14 (by decide) sh_1 rfl rfl (by decide) (by decide) li_in7 w_142 ?_
    refine li_aload_n 0 dX7_takeOneOf_17 rfl ?_
    refine li_geti (k := 2) (N := 3) (T := TX7) (C0 := RX7) dX7_takeOneOf_18 (by decide) sh_1 rfl rfl (by decide) li_in7 w_145 ?_
    refine li_top (fun x4 ex4 => ?_)
    refine li_callN (n := 2) (As := [.ref (Z.2.2 2), .int x4]) dX7_takeOneOf_21 (k_X11_at (d - 1) (by omega) (by decide) sh_2 (by decide) x4 M0) (by omega) (Nat.le_of_ble_eq_true rfl) nw_9 w_589 w_104 w_590 (by decide +kernel) rfl rfl (Nat.le_of_ble_eq_true rfl) (fun r M6 h7 => ?_)
    obtain ⟨⟨x5, rfl⟩, h7⟩ := h7
    have hf := li_fr_trans hf h7 (fun i h => False.elim h)
    refine li_iload_n 1 dX7_takeOneOf_24 rfl ?_
    refine li_isub dX7_takeOneOf_25 ?_
    refine li_top (fun x8 ex8 => ?_)
    refine li_istore_n [(3, .int x8), (0, .ref (Z.2.2 1)), (1, .int p1), (2, .int p2)] dX7_takeOneOf_26 (by decide) rfl ?_
    refine li_iload_n 0 dX7_takeOneOf_27 rfl ?_
    refine li_if_lt 36 dX7_takeOneOf_28 (by decide) (fun c9 => ?_) (fun c9 => ?_)
    · refine li_iconst (-1) dX7_takeOneOf_36 (by decide) ?_
      exact li_iret dX7_takeOneOf_37 rfl rfl ⟨⟨_, rfl⟩, hf⟩
    · refine li_iload_n 0 dX7_takeOneOf_31 rfl ?_
      refine li_iload_n 3 dX7_takeOneOf_32 rfl ?_
      refine li_icmp_lt 38 dX7_takeOneOf_33 (by decide) (fun c10 => ?_) (fun c10 => ?_)
      · refine li_aload_n 1 dX7_takeOneOf_38 rfl ?_
        refine li_dup dX7_takeOneOf_39 rfl ?_
        refine li_geti (k := 2) (N := 3) (T := TX7) (C0 := RX7) dX7_takeOneOf_40 (by decide) sh_1 rfl rfl (by decide) li_in7 w_145 ?_
        refine li_top (fun x11 ex11 => ?_)
        refine li_iconst 1 dX7_takeOneOf_43 (by decide) ?_
        refine li_iadd dX7_takeOneOf_44 ?_
        refine li_top (fun x12 ex12 => ?_)
        refine li_puti (k := 2) (N := 3) (T := TX7) (C0 := RX7) dX7_takeOneOf_45 (by decide) sh_1 rfl rfl (by decide) li_in7 tyX7_ok nmX7 rfl rfl rfl rfl w_145 ?_
        refine li_nm (fun M13 eM13 => ?_)
        have hf := li_fr_ui hf (show 1 = 1 by omega) eM13
        refine li_iload_n 0 dX7_takeOneOf_48 rfl ?_
        exact li_iret dX7_takeOneOf_49 rfl rfl ⟨⟨_, rfl⟩, hf⟩
      · refine li_iconst (-1) dX7_takeOneOf_36 (by decide) ?_
        exact li_iret dX7_takeOneOf_37 rfl rfl ⟨⟨_, rfl⟩, hf⟩
  · refine li_iconst (-1) dX7_takeOneOf_11 (by decide) ?_
    exact li_iret dX7_takeOneOf_12 rfl rfl ⟨⟨_, rfl⟩, hf⟩
set_option maxRecDepth 100000 in
set_option maxHeartbeats 4000000 in
theorem k_X7_takeNumber {l : Launch} {Z : li_Z} (d : Nat) (hd : 2 ≤ d) (p1 : Int32) (M0 : li_M) : li_Met l Z YX7_takeNumber d [.ref (Z.2.2 1), .int p1] M0 (li_SI (fun i => i = 1) M0) := by
  refine li_enter (by decide +kernel) (Nat.le_of_ble_eq_true rfl) ?_
  show li_T l Z YX7_takeNumber d 0 [(0, .ref (Z.2.2 1)), (1, .int p1)] [] M0 _
  have hf : li_fr (fun i => i = 1) M0 M0 := li_fr_refl
  refine li_iconst (-1) dX7_takeNumber_0 (by decide) ?_
  refine li_istore_n [(2, .int (-1)), (0, .ref (Z.2.2 1)), (1, .int p1)] dX7_takeNumber_1 (by decide) rfl ?_
  refine li_iconst 0 dX7_takeNumber_2 (by decide) ?_
  refine li_istore_n [(3, .int 0), (2, .int (-1)), (0, .ref (Z.2.2 1)), (1, .int p1)] dX7_takeNumber_3 (by decide) rfl ?_
  have L4 : ∀ (n : Nat) (x1 : Int32) (x2 : Int32) (M3 : li_M), (2147483647 - (x1 : Int32).toInt).toNat < n → li_fr (fun i => i = 1) M0 M3 → li_T l Z YX7_takeNumber d 4 [(3, .int x1), (2, .int x2), (0, .ref (Z.2.2 1)), (1, .int p1)] [] M3 (li_SI (fun i => i = 1) M0) := by
    intro n
    induction n with
    | zero => intro x1 x2 M3 hn; exact absurd hn (Nat.not_lt_zero _)
    | succ n ih4 =>
      intro x1 x2 M3 hn hf
      refine li_iload_n 0 dX7_takeNumber_4 rfl ?_
      refine li_iload_n 3 dX7_takeNumber_5 rfl ?_
      refine li_icmp_ge 82 dX7_takeNumber_6 (by decide) (fun c4 => ?_) (fun c4 => ?_)
      · refine li_iload_n 1 dX7_takeNumber_82 rfl ?_
        exact li_iret dX7_takeNumber_83 rfl rfl ⟨⟨_, rfl⟩, hf⟩
      · refine li_aload_n 2 dX7_takeNumber_9 rfl ?_
        refine li_geti (k := 2) (N := 3) (T := TX7) (C0 := RX7) dX7_takeNumber_10 (by decide) sh_1 rfl rfl (by decide) li_in7 w_145 ?_
        refine li_top (fun x5 ex5 => ?_)
        refine li_aload_n 2 dX7_takeNumber_13 rfl ?_
        refine li_geti (k := 1) (N := 3) (T := TX7) (C0 := RX7) dX7_takeNumber_14 (by decide) sh_1 rfl rfl (by decide) li_in7 w_143 ?_
        refine li_top (fun x6 ex6 => ?_)
        have J38 : ∀ (x8 : Int32) (M9 : li_M), li_fr (fun i => i = 1) M0 M9 → li_T l Z YX7_takeNumber d 38 [(3, .int x1), (2, .int x2), (0, .ref (Z.2.2 1)), (1, .int p1)] [.int x8] M9 (li_SI (fun i => i = 1) M0) := by
          intro x8 M9 hf
          refine li_istore [(4, .int x8), (3, .int x1), (2, .int x2), (0, .ref (Z.2.2 1)), (1, .int p1)] dX7_takeNumber_38 (by decide) rfl ?_
          refine li_iload 0 dX7_takeNumber_40 rfl ?_
          refine li_iconst 0 dX7_takeNumber_42 (by decide) ?_
          refine li_bipush 9 dX7_takeNumber_43 (by decide) ?_
          refine li_callN (n := 3) (As := [.int x8, .int 0, .int 9]) dX7_takeNumber_45 (k_X11_within (d - 1) (by omega) x8 0 9 M9) (by omega) (Nat.le_of_ble_eq_true rfl) nw_11 w_659 w_104 w_660 (by decide +kernel) rfl rfl (Nat.le_of_ble_eq_true rfl) (fun r M11 h12 => ?_)
          obtain ⟨⟨x10, rfl, bx10, qx10⟩, h12⟩ := h12
          have hf := li_fr_trans hf h12 (fun i h => False.elim h)
          refine li_if_ne 54 dX7_takeNumber_48 (by decide) (fun c13 => ?_) (fun c13 => ?_)
          · refine li_aload_n 3 dX7_takeNumber_54 rfl ?_
            refine li_dup dX7_takeNumber_55 rfl ?_
            refine li_geti (k := 2) (N := 3) (T := TX7) (C0 := RX7) dX7_takeNumber_56 (by decide) sh_1 rfl rfl (by decide) li_in7 w_145 ?_
            refine li_top (fun x14 ex14 => ?_)
            refine li_iconst 1 dX7_takeNumber_59 (by decide) ?_
            refine li_iadd dX7_takeNumber_60 ?_
            refine li_top (fun x15 ex15 => ?_)
            refine li_puti (k := 2) (N := 3) (T := TX7) (C0 := RX7) dX7_takeNumber_61 (by decide) sh_1 rfl rfl (by decide) li_in7 tyX7_ok nmX7 rfl rfl rfl rfl w_145 ?_
            refine li_nm (fun M16 eM16 => ?_)
            have hf := li_fr_ui hf (show 1 = 1 by omega) eM16
            refine li_iload_n 2 dX7_takeNumber_64 rfl ?_
            refine li_iconst 0 dX7_takeNumber_65 (by decide) ?_
            refine li_mmax dX7_takeNumber_66 (by omega) w_661 w_662 w_117 w_663 (Nat.le_of_ble_eq_true rfl) ?_
            refine li_top (fun x17 ex17 => ?_)
            refine li_bipush 10 dX7_takeNumber_69 (by decide) ?_
            refine li_imul dX7_takeNumber_71 ?_
            refine li_top (fun x18 ex18 => ?_)
            refine li_iload 0 dX7_takeNumber_72 rfl ?_
            refine li_iadd dX7_takeNumber_74 ?_
            refine li_top (fun x19 ex19 => ?_)
            refine li_istore_n [(2, .int x19), (4, .int x8), (3, .int x1), (0, .ref (Z.2.2 1)), (1, .int p1)] dX7_takeNumber_75 (by decide) rfl ?_
            obtain ⟨x20, ex20⟩ : ∃ y : Int32, y = x1 + 1 := ⟨_, rfl⟩
            refine li_iinc 2 [(3, .int x20), (2, .int x19), (4, .int x8), (0, .ref (Z.2.2 1)), (1, .int p1)] x20 dX7_takeNumber_76 rfl (by rw [ex20]; rfl) (by decide) rfl ?_
            refine li_goto 4 dX7_takeNumber_79 (by decide) ?_
            refine li_pick [0, 1, 3, 4] [(3, .int x20), (2, .int x19), (0, .ref (Z.2.2 1)), (1, .int p1)] rfl ?_
            exact ih4 x20 x19 M16 (by have h9 := li_up (li_gt c4); rw [← ex20] at h9; omega) hf
          · refine li_goto 82 dX7_takeNumber_51 (by decide) ?_
            refine li_iload_n 2 dX7_takeNumber_82 rfl ?_
            exact li_iret dX7_takeNumber_83 rfl rfl ⟨⟨_, rfl⟩, hf⟩
        refine li_icmp_ge 37 dX7_takeNumber_17 (by decide) (fun c7 => ?_) (fun c7 => ?_)
        · refine li_iconst (-1) dX7_takeNumber_37 (by decide) ?_
          refine li_pick [0, 1, 2, 3] [(3, .int x1), (2, .int x2), (0, .ref (Z.2.2 1)), (1, .int p1)] rfl ?_
          exact J38 (-1) M3 hf
        · refine li_aload_n 2 dX7_takeNumber_20 rfl ?_
          refine li_getr (k := 0) (N := 3) (T := TX7) (C0 := RX7) dX7_takeNumber_21 (by decide) sh_1 rfl rfl (by decide) (by decide) li_in7 w_142 ?_
          refine li_aload_n 2 dX7_takeNumber_24 rfl ?_
          refine li_geti (k := 2) (N := 3) (T := TX7) (C0 := RX7) dX7_takeNumber_25 (by decide) sh_1 rfl rfl (by decide) li_in7 w_145 ?_
          refine li_top (fun x21 ex21 => ?_)
          refine li_callN (n := 2) (As := [.ref (Z.2.2 2), .int x21]) dX7_takeNumber_28 (k_X11_at (d - 1) (by omega) (by decide) sh_2 (by decide) x21 M3) (by omega) (Nat.le_of_ble_eq_true rfl) nw_9 w_589 w_104 w_590 (by decide +kernel) rfl rfl (Nat.le_of_ble_eq_true rfl) (fun r M23 h24 => ?_)
          obtain ⟨⟨x22, rfl⟩, h24⟩ := h24
          have hf := li_fr_trans hf h24 (fun i h => False.elim h)
          refine li_bipush 48 dX7_takeNumber_31 (by decide) ?_
          refine li_isub dX7_takeNumber_33 ?_
          refine li_top (fun x25 ex25 => ?_)
          refine li_goto 38 dX7_takeNumber_34 (by decide) ?_
          refine li_pick [0, 1, 2, 3] [(3, .int x1), (2, .int x2), (0, .ref (Z.2.2 1)), (1, .int p1)] rfl ?_
          exact J38 x25 M23 hf
  exact L4 _ 0 (-1) M0 (Nat.lt_succ_self _) hf
set_option maxRecDepth 100000 in
set_option maxHeartbeats 4000000 in
theorem k_X7_verdict {l : Launch} {Z : li_Z} (d : Nat) (hd : 1 ≤ d) (p1 : Int32) (p2 : Int32) (M0 : li_M) : li_Met l Z YX7_verdict d [.ref (Z.2.2 1), .int p1, .int p2] M0 (li_SI (fun i => False) M0) := by
  refine li_enter (by decide +kernel) (Nat.le_of_ble_eq_true rfl) ?_
  show li_T l Z YX7_verdict d 0 [(0, .ref (Z.2.2 1)), (1, .int p1), (2, .int p2)] [] M0 _
  have hf : li_fr (fun i => False) M0 M0 := li_fr_refl
  refine li_iload_n 1 dX7_verdict_0 rfl ?_
  refine li_if_ge 15 dX7_verdict_1 (by decide) (fun c1 => ?_) (fun c1 => ?_)
  · refine li_aload_n 0 dX7_verdict_15 rfl ?_
    refine li_geti (k := 1) (N := 3) (T := TX7) (C0 := RX7) dX7_verdict_16 (by decide) sh_1 rfl rfl (by decide) li_in7 w_143 ?_
    refine li_top (fun x2 ex2 => ?_)
    refine li_iload_n 2 dX7_verdict_19 rfl ?_
    refine li_icmp_le 29 dX7_verdict_20 (by decide) (fun c3 => ?_) (fun c3 => ?_)
    · refine li_iload_n 1 dX7_verdict_29 rfl ?_
      exact li_iret dX7_verdict_30 rfl rfl ⟨⟨_, rfl⟩, hf⟩
    · refine li_iconst (-1) dX7_verdict_23 (by decide) ?_
      refine li_iload_n 2 dX7_verdict_24 rfl ?_
      refine li_isub dX7_verdict_25 ?_
      refine li_top (fun x4 ex4 => ?_)
      refine li_goto 30 dX7_verdict_26 (by decide) ?_
      exact li_iret dX7_verdict_30 rfl rfl ⟨⟨_, rfl⟩, hf⟩
  · refine li_iconst (-1) dX7_verdict_4 (by decide) ?_
    refine li_aload_n 0 dX7_verdict_5 rfl ?_
    refine li_geti (k := 2) (N := 3) (T := TX7) (C0 := RX7) dX7_verdict_6 (by decide) sh_1 rfl rfl (by decide) li_in7 w_145 ?_
    refine li_top (fun x5 ex5 => ?_)
    refine li_iload_n 2 dX7_verdict_9 rfl ?_
    refine li_mmin dX7_verdict_10 (by omega) w_745 w_746 w_117 w_747 (Nat.le_of_ble_eq_true rfl) ?_
    refine li_top (fun x6 ex6 => ?_)
    refine li_isub dX7_verdict_13 ?_
    refine li_top (fun x7 ex7 => ?_)
    exact li_iret dX7_verdict_14 rfl rfl ⟨⟨_, rfl⟩, hf⟩
set_option maxRecDepth 100000 in
set_option maxHeartbeats 4000000 in
theorem k_X5_tell {l : Launch} {Z : li_Z} (d : Nat) (hd : 2 ≤ d) (p1 : Int32) (M0 : li_M) : li_Met l Z YX5_tell d [.ref (Z.2.2 3), .int p1] M0 (li_SV (fun i => i = 3 ∨ i = 4) M0) := by
  refine li_enter (by decide +kernel) (Nat.le_of_ble_eq_true rfl) ?_
  show li_T l Z YX5_tell d 0 [(0, .ref (Z.2.2 3)), (1, .int p1)] [] M0 _
  have hf : li_fr (fun i => i = 3 ∨ i = 4) M0 M0 := li_fr_refl
  refine li_aload_n 0 dX5_tell_0 rfl ?_
  refine li_getr (k := 0) (N := 2) (T := TX5) (C0 := RX5) dX5_tell_1 (by decide) sh_3 rfl rfl (by decide) (by decide) li_in5 w_162 ?_
  refine li_iconst 0 dX5_tell_4 (by decide) ?_
  refine li_iload_n 1 dX5_tell_5 rfl ?_
  refine li_callN (n := 3) (As := [.ref (Z.2.2 4), .int 0, .int p1]) dX5_tell_6 (k_X11_put (d - 1) (by omega) (by decide) sh_4 (by decide) 0 p1 M0) (by omega) (Nat.le_of_ble_eq_true rfl) nw_24 w_542 w_104 w_543 (by decide +kernel) rfl rfl (Nat.le_of_ble_eq_true rfl) (fun r M2 h3 => ?_)
  obtain ⟨rfl, h3⟩ := h3
  have hf := li_fr_trans hf h3 (fun i (h : i = 4) => (show i = 3 ∨ i = 4 by omega))
  refine li_aload_n 0 dX5_tell_9 rfl ?_
  refine li_iconst 1 dX5_tell_10 (by decide) ?_
  refine li_puti (k := 1) (N := 2) (T := TX5) (C0 := RX5) dX5_tell_11 (by decide) sh_3 rfl rfl (by decide) li_in5 tyX5_ok nmX5 rfl rfl rfl rfl w_164 ?_
  refine li_nm (fun M4 eM4 => ?_)
  have hf := li_fr_ui hf (show 3 = 3 ∨ 3 = 4 by omega) eM4
  exact li_vret dX5_tell_14 rfl ⟨rfl, hf⟩
set_option maxRecDepth 100000 in
set_option maxHeartbeats 4000000 in
theorem k_X5_tellTwo {l : Launch} {Z : li_Z} (d : Nat) (hd : 2 ≤ d) (p1 : Int32) (p2 : Int32) (M0 : li_M) : li_Met l Z YX5_tellTwo d [.ref (Z.2.2 3), .int p1, .int p2] M0 (li_SV (fun i => i = 3 ∨ i = 4) M0) := by
  refine li_enter (by decide +kernel) (Nat.le_of_ble_eq_true rfl) ?_
  show li_T l Z YX5_tellTwo d 0 [(0, .ref (Z.2.2 3)), (1, .int p1), (2, .int p2)] [] M0 _
  have hf : li_fr (fun i => i = 3 ∨ i = 4) M0 M0 := li_fr_refl
  refine li_aload_n 0 dX5_tellTwo_0 rfl ?_
  refine li_getr (k := 0) (N := 2) (T := TX5) (C0 := RX5) dX5_tellTwo_1 (by decide) sh_3 rfl rfl (by decide) (by decide) li_in5 w_162 ?_
  refine li_iconst 0 dX5_tellTwo_4 (by decide) ?_
  refine li_iload_n 1 dX5_tellTwo_5 rfl ?_
  refine li_callN (n := 3) (As := [.ref (Z.2.2 4), .int 0, .int p1]) dX5_tellTwo_6 (k_X11_put (d - 1) (by omega) (by decide) sh_4 (by decide) 0 p1 M0) (by omega) (Nat.le_of_ble_eq_true rfl) nw_24 w_542 w_104 w_543 (by decide +kernel) rfl rfl (Nat.le_of_ble_eq_true rfl) (fun r M2 h3 => ?_)
  obtain ⟨rfl, h3⟩ := h3
  have hf := li_fr_trans hf h3 (fun i (h : i = 4) => (show i = 3 ∨ i = 4 by omega))
  refine li_aload_n 0 dX5_tellTwo_9 rfl ?_
  refine li_getr (k := 0) (N := 2) (T := TX5) (C0 := RX5) dX5_tellTwo_10 (by decide) sh_3 rfl rfl (by decide) (by decide) li_in5 w_162 ?_
  refine li_iconst 1 dX5_tellTwo_13 (by decide) ?_
  refine li_iload_n 2 dX5_tellTwo_14 rfl ?_
  refine li_callN (n := 3) (As := [.ref (Z.2.2 4), .int 1, .int p2]) dX5_tellTwo_15 (k_X11_put (d - 1) (by omega) (by decide) sh_4 (by decide) 1 p2 M2) (by omega) (Nat.le_of_ble_eq_true rfl) nw_24 w_542 w_104 w_543 (by decide +kernel) rfl rfl (Nat.le_of_ble_eq_true rfl) (fun r M5 h6 => ?_)
  obtain ⟨rfl, h6⟩ := h6
  have hf := li_fr_trans hf h6 (fun i (h : i = 4) => (show i = 3 ∨ i = 4 by omega))
  refine li_aload_n 0 dX5_tellTwo_18 rfl ?_
  refine li_iconst 2 dX5_tellTwo_19 (by decide) ?_
  refine li_puti (k := 1) (N := 2) (T := TX5) (C0 := RX5) dX5_tellTwo_20 (by decide) sh_3 rfl rfl (by decide) li_in5 tyX5_ok nmX5 rfl rfl rfl rfl w_164 ?_
  refine li_nm (fun M7 eM7 => ?_)
  have hf := li_fr_ui hf (show 3 = 3 ∨ 3 = 4 by omega) eM7
  exact li_vret dX5_tellTwo_23 rfl ⟨rfl, hf⟩
end
section
theorem w_105 : (Jvm.Cond.initialized "ClockForTalk$Text") ∈ li_ws := li_mem 105 (by decide +kernel) (by decide +kernel)
theorem w_107 : (Jvm.Cond.initialized "ClockForTalk$Town") ∈ li_ws := li_mem 107 (by decide +kernel) (by decide +kernel)
theorem w_146 : (Jvm.Cond.fieldLink "ClockForTalk$Town" (73 : Nat) "ClockForTalk$Text" "place" "I") ∈ li_ws := li_mem 146 (by decide +kernel) (by decide +kernel)
theorem w_177 : (Jvm.Cond.fieldLink "ClockForTalk$Town" (33 : Nat) "ClockForTalk$Town" "persons" "I") ∈ li_ws := li_mem 177 (by decide +kernel) (by decide +kernel)
theorem w_182 : (Jvm.Cond.fieldLink "ClockForTalk$Town" (37 : Nat) "ClockForTalk$Town" "wishes" "I") ∈ li_ws := li_mem 182 (by decide +kernel) (by decide +kernel)
theorem w_186 : (Jvm.Cond.fieldLink "ClockForTalk$Town" (9 : Nat) "ClockForTalk$Town" "steps" "[I") ∈ li_ws := li_mem 186 (by decide +kernel) (by decide +kernel)
theorem w_188 : (Jvm.Cond.fieldLink "ClockForTalk$Town" (15 : Nat) "ClockForTalk$Town" "yearly" "[I") ∈ li_ws := li_mem 188 (by decide +kernel) (by decide +kernel)
theorem w_191 : (Jvm.Cond.fieldLink "ClockForTalk$Town" (18 : Nat) "ClockForTalk$Town" "who" "[I") ∈ li_ws := li_mem 191 (by decide +kernel) (by decide +kernel)
theorem w_194 : (Jvm.Cond.fieldLink "ClockForTalk$Town" (21 : Nat) "ClockForTalk$Town" "whom" "[I") ∈ li_ws := li_mem 194 (by decide +kernel) (by decide +kernel)
theorem w_197 : (Jvm.Cond.fieldLink "ClockForTalk$Town" (24 : Nat) "ClockForTalk$Town" "seconds" "[I") ∈ li_ws := li_mem 197 (by decide +kernel) (by decide +kernel)
theorem w_200 : (Jvm.Cond.fieldLink "ClockForTalk$Town" (27 : Nat) "ClockForTalk$Town" "by" "[I") ∈ li_ws := li_mem 200 (by decide +kernel) (by decide +kernel)
theorem w_204 : (Jvm.Cond.fieldLink "ClockForTalk$Town" (30 : Nat) "ClockForTalk$Town" "worth" "[I") ∈ li_ws := li_mem 204 (by decide +kernel) (by decide +kernel)
theorem w_585 : (Jvm.Cond.instanceMethod ({ cls := "ClockForTalk$Text", name := "skip", desc := "(I)Z" } : Jvm.MethodName)) ∈ li_ws := li_mem 585 (by decide +kernel) (by decide +kernel)
theorem w_586 : (Jvm.Cond.selects "ClockForTalk$Text" ({ cls := "ClockForTalk$Text", name := "skip", desc := "(I)Z" } : Jvm.MethodName) ({ cls := "ClockForTalk$Text", name := "skip", desc := "(I)Z" } : Jvm.MethodName)) ∈ li_ws := li_mem 586 (by decide +kernel) (by decide +kernel)
theorem w_587 : (Jvm.Cond.code ({ cls := "ClockForTalk$Text", name := "skip", desc := "(I)Z" } : Jvm.MethodName) prog_9_method_5_code (2 : Nat) (Option.some Jvm.ClassFile.FieldType.boolean)) ∈ li_ws := li_mem 587 (by decide +kernel) (by decide +kernel)
theorem w_655 : (Jvm.Cond.instanceMethod ({ cls := "ClockForTalk$Text", name := "takeNumber", desc := "(I)I" } : Jvm.MethodName)) ∈ li_ws := li_mem 655 (by decide +kernel) (by decide +kernel)
theorem w_656 : (Jvm.Cond.selects "ClockForTalk$Text" ({ cls := "ClockForTalk$Text", name := "takeNumber", desc := "(I)I" } : Jvm.MethodName) ({ cls := "ClockForTalk$Text", name := "takeNumber", desc := "(I)I" } : Jvm.MethodName)) ∈ li_ws := li_mem 656 (by decide +kernel) (by decide +kernel)
theorem w_657 : (Jvm.Cond.code ({ cls := "ClockForTalk$Text", name := "takeNumber", desc := "(I)I" } : Jvm.MethodName) prog_9_method_8_code (5 : Nat) (Option.some Jvm.ClassFile.FieldType.int)) ∈ li_ws := li_mem 657 (by decide +kernel) (by decide +kernel)
theorem w_679 : (Jvm.Cond.instanceMethod ({ cls := "ClockForTalk$Text", name := "takeOneOf", desc := "(II)I" } : Jvm.MethodName)) ∈ li_ws := li_mem 679 (by decide +kernel) (by decide +kernel)
theorem w_680 : (Jvm.Cond.selects "ClockForTalk$Text" ({ cls := "ClockForTalk$Text", name := "takeOneOf", desc := "(II)I" } : Jvm.MethodName) ({ cls := "ClockForTalk$Text", name := "takeOneOf", desc := "(II)I" } : Jvm.MethodName)) ∈ li_ws := li_mem 680 (by decide +kernel) (by decide +kernel)
theorem w_681 : (Jvm.Cond.code ({ cls := "ClockForTalk$Text", name := "takeOneOf", desc := "(II)I" } : Jvm.MethodName) prog_9_method_6_code (4 : Nat) (Option.some Jvm.ClassFile.FieldType.int)) ∈ li_ws := li_mem 681 (by decide +kernel) (by decide +kernel)
theorem w_696 : (Jvm.Cond.methodLink "ClockForTalk$Town" (58 : Nat) ({ cls := "ClockForTalk$Text", name := "takeNumber", desc := "(I)I" } : Jvm.MethodName)) ∈ li_ws := li_mem 696 (by decide +kernel) (by decide +kernel)
theorem w_697 : (Jvm.Cond.methodLink "ClockForTalk$Town" (63 : Nat) ({ cls := "ClockForTalk$Text", name := "skip", desc := "(I)Z" } : Jvm.MethodName)) ∈ li_ws := li_mem 697 (by decide +kernel) (by decide +kernel)
theorem w_707 : (Jvm.Cond.methodLink "ClockForTalk$Town" (70 : Nat) ({ cls := "ClockForTalk$Text", name := "takeOneOf", desc := "(II)I" } : Jvm.MethodName)) ∈ li_ws := li_mem 707 (by decide +kernel) (by decide +kernel)
theorem w_779 : (Jvm.Cond.instanceMethod ({ cls := "ClockForTalk$Town", name := "hasPerson", desc := "(I)Z" } : Jvm.MethodName)) ∈ li_ws := li_mem 779 (by decide +kernel) (by decide +kernel)
theorem w_780 : (Jvm.Cond.selects "ClockForTalk$Town" ({ cls := "ClockForTalk$Town", name := "hasPerson", desc := "(I)Z" } : Jvm.MethodName) ({ cls := "ClockForTalk$Town", name := "hasPerson", desc := "(I)Z" } : Jvm.MethodName)) ∈ li_ws := li_mem 780 (by decide +kernel) (by decide +kernel)
theorem w_781 : (Jvm.Cond.code ({ cls := "ClockForTalk$Town", name := "hasPerson", desc := "(I)Z" } : Jvm.MethodName) prog_10_method_2_code (2 : Nat) (Option.some Jvm.ClassFile.FieldType.boolean)) ∈ li_ws := li_mem 781 (by decide +kernel) (by decide +kernel)
theorem w_817 : (Jvm.Cond.methodLink "ClockForTalk$Town" (54 : Nat) ({ cls := "ClockForTalk$Town", name := "apart", desc := "(II)I" } : Jvm.MethodName)) ∈ li_ws := li_mem 817 (by decide +kernel) (by decide +kernel)
theorem w_818 : (Jvm.Cond.instanceMethod ({ cls := "ClockForTalk$Town", name := "apart", desc := "(II)I" } : Jvm.MethodName)) ∈ li_ws := li_mem 818 (by decide +kernel) (by decide +kernel)
theorem w_819 : (Jvm.Cond.selects "ClockForTalk$Town" ({ cls := "ClockForTalk$Town", name := "apart", desc := "(II)I" } : Jvm.MethodName) ({ cls := "ClockForTalk$Town", name := "apart", desc := "(II)I" } : Jvm.MethodName)) ∈ li_ws := li_mem 819 (by decide +kernel) (by decide +kernel)
theorem w_820 : (Jvm.Cond.code ({ cls := "ClockForTalk$Town", name := "apart", desc := "(II)I" } : Jvm.MethodName) prog_10_method_5_code (3 : Nat) (Option.some Jvm.ClassFile.FieldType.int)) ∈ li_ws := li_mem 820 (by decide +kernel) (by decide +kernel)
theorem w_821 : (Jvm.Cond.methodLink "ClockForTalk$Town" (48 : Nat) ({ cls := "java/lang/Math", name := "abs", desc := "(I)I" } : Jvm.MethodName)) ∈ li_ws := li_mem 821 (by decide +kernel) (by decide +kernel)
theorem w_822 : (Jvm.Cond.static ({ cls := "java/lang/Math", name := "abs", desc := "(I)I" } : Jvm.MethodName)) ∈ li_ws := li_mem 822 (by decide +kernel) (by decide +kernel)
theorem w_823 : (Jvm.Cond.code ({ cls := "java/lang/Math", name := "abs", desc := "(I)I" } : Jvm.MethodName) prog_20_method_59_code (1 : Nat) (Option.some Jvm.ClassFile.FieldType.int)) ∈ li_ws := li_mem 823 (by decide +kernel) (by decide +kernel)
theorem w_908 : (Jvm.Cond.methodLink "ClockForTalk$Town" (40 : Nat) ({ cls := "ClockForTalk$Town", name := "hasPerson", desc := "(I)Z" } : Jvm.MethodName)) ∈ li_ws := li_mem 908 (by decide +kernel) (by decide +kernel)
theorem dX8_hasPerson_0 : decode cX8_hasPerson 0 = .ok (.iload_n 1, 1) := by decide +kernel
theorem dX8_hasPerson_1 : decode cX8_hasPerson 1 = .ok (.ifCond .lt 15, 3) := by decide +kernel
theorem dX8_hasPerson_4 : decode cX8_hasPerson 4 = .ok (.iload_n 1, 1) := by decide +kernel
theorem dX8_hasPerson_5 : decode cX8_hasPerson 5 = .ok (.aload_n 0, 1) := by decide +kernel
theorem dX8_hasPerson_6 : decode cX8_hasPerson 6 = .ok (.getfield 33, 3) := by decide +kernel
theorem dX8_hasPerson_9 : decode cX8_hasPerson 9 = .ok (.if_icmp .ge 7, 3) := by decide +kernel
theorem dX8_hasPerson_12 : decode cX8_hasPerson 12 = .ok (.iconst 1, 1) := by decide +kernel
theorem dX8_hasPerson_13 : decode cX8_hasPerson 13 = .ok (.goto 4, 3) := by decide +kernel
theorem dX8_hasPerson_16 : decode cX8_hasPerson 16 = .ok (.iconst 0, 1) := by decide +kernel
theorem dX8_hasPerson_17 : decode cX8_hasPerson 17 = .ok (.ireturn, 1) := by decide +kernel
abbrev YX8_hasPerson : li_Y := (yX8_hasPerson, cX8_hasPerson, 2, (some .boolean))
theorem dX8_hasThing_0 : decode cX8_hasThing 0 = .ok (.iload_n 1, 1) := by decide +kernel
theorem dX8_hasThing_1 : decode cX8_hasThing 1 = .ok (.ifCond .lt 15, 3) := by decide +kernel
theorem dX8_hasThing_4 : decode cX8_hasThing 4 = .ok (.iload_n 1, 1) := by decide +kernel
theorem dX8_hasThing_5 : decode cX8_hasThing 5 = .ok (.aload_n 0, 1) := by decide +kernel
theorem dX8_hasThing_6 : decode cX8_hasThing 6 = .ok (.getfield 37, 3) := by decide +kernel
theorem dX8_hasThing_9 : decode cX8_hasThing 9 = .ok (.if_icmp .ge 7, 3) := by decide +kernel
theorem dX8_hasThing_12 : decode cX8_hasThing 12 = .ok (.iconst 1, 1) := by decide +kernel
theorem dX8_hasThing_13 : decode cX8_hasThing 13 = .ok (.goto 4, 3) := by decide +kernel
theorem dX8_hasThing_16 : decode cX8_hasThing 16 = .ok (.iconst 0, 1) := by decide +kernel
theorem dX8_hasThing_17 : decode cX8_hasThing 17 = .ok (.ireturn, 1) := by decide +kernel
abbrev YX8_hasThing : li_Y := (yX8_hasThing, cX8_hasThing, 2, (some .boolean))
theorem dX8_areTwo_0 : decode cX8_areTwo 0 = .ok (.aload_n 0, 1) := by decide +kernel
theorem dX8_areTwo_1 : decode cX8_areTwo 1 = .ok (.iload_n 1, 1) := by decide +kernel
theorem dX8_areTwo_2 : decode cX8_areTwo 2 = .ok (.invokevirtual 40, 3) := by decide +kernel
theorem dX8_areTwo_5 : decode cX8_areTwo 5 = .ok (.ifCond .eq 20, 3) := by decide +kernel
theorem dX8_areTwo_8 : decode cX8_areTwo 8 = .ok (.aload_n 0, 1) := by decide +kernel
theorem dX8_areTwo_9 : decode cX8_areTwo 9 = .ok (.iload_n 2, 1) := by decide +kernel
theorem dX8_areTwo_10 : decode cX8_areTwo 10 = .ok (.invokevirtual 40, 3) := by decide +kernel
theorem dX8_areTwo_13 : decode cX8_areTwo 13 = .ok (.ifCond .eq 12, 3) := by decide +kernel
theorem dX8_areTwo_16 : decode cX8_areTwo 16 = .ok (.iload_n 1, 1) := by decide +kernel
theorem dX8_areTwo_17 : decode cX8_areTwo 17 = .ok (.iload_n 2, 1) := by decide +kernel
theorem dX8_areTwo_18 : decode cX8_areTwo 18 = .ok (.if_icmp .eq 7, 3) := by decide +kernel
theorem dX8_areTwo_21 : decode cX8_areTwo 21 = .ok (.iconst 1, 1) := by decide +kernel
theorem dX8_areTwo_22 : decode cX8_areTwo 22 = .ok (.goto 4, 3) := by decide +kernel
theorem dX8_areTwo_25 : decode cX8_areTwo 25 = .ok (.iconst 0, 1) := by decide +kernel
theorem dX8_areTwo_26 : decode cX8_areTwo 26 = .ok (.ireturn, 1) := by decide +kernel
abbrev YX8_areTwo : li_Y := (yX8_areTwo, cX8_areTwo, 3, (some .boolean))
theorem dX8_apart_0 : decode cX8_apart 0 = .ok (.aload_n 0, 1) := by decide +kernel
theorem dX8_apart_1 : decode cX8_apart 1 = .ok (.getfield 9, 3) := by decide +kernel
theorem dX8_apart_4 : decode cX8_apart 4 = .ok (.iload_n 1, 1) := by decide +kernel
theorem dX8_apart_5 : decode cX8_apart 5 = .ok (.invokestatic 44, 3) := by decide +kernel
theorem dX8_apart_8 : decode cX8_apart 8 = .ok (.aload_n 0, 1) := by decide +kernel
theorem dX8_apart_9 : decode cX8_apart 9 = .ok (.getfield 9, 3) := by decide +kernel
theorem dX8_apart_12 : decode cX8_apart 12 = .ok (.iload_n 2, 1) := by decide +kernel
theorem dX8_apart_13 : decode cX8_apart 13 = .ok (.invokestatic 44, 3) := by decide +kernel
theorem dX8_apart_16 : decode cX8_apart 16 = .ok (.isub, 1) := by decide +kernel
theorem dX8_apart_17 : decode cX8_apart 17 = .ok (.invokestatic 48, 3) := by decide +kernel
theorem dX8_apart_20 : decode cX8_apart 20 = .ok (.ireturn, 1) := by decide +kernel
abbrev YX8_apart : li_Y := (yX8_apart, cX8_apart, 3, (some .int))
theorem dX8_apartFor_0 : decode cX8_apartFor 0 = .ok (.aload_n 0, 1) := by decide +kernel
theorem dX8_apartFor_1 : decode cX8_apartFor 1 = .ok (.aload_n 0, 1) := by decide +kernel
theorem dX8_apartFor_2 : decode cX8_apartFor 2 = .ok (.getfield 18, 3) := by decide +kernel
theorem dX8_apartFor_5 : decode cX8_apartFor 5 = .ok (.iload_n 1, 1) := by decide +kernel
theorem dX8_apartFor_6 : decode cX8_apartFor 6 = .ok (.invokestatic 44, 3) := by decide +kernel
theorem dX8_apartFor_9 : decode cX8_apartFor 9 = .ok (.aload_n 0, 1) := by decide +kernel
theorem dX8_apartFor_10 : decode cX8_apartFor 10 = .ok (.getfield 21, 3) := by decide +kernel
theorem dX8_apartFor_13 : decode cX8_apartFor 13 = .ok (.iload_n 1, 1) := by decide +kernel
theorem dX8_apartFor_14 : decode cX8_apartFor 14 = .ok (.invokestatic 44, 3) := by decide +kernel
theorem dX8_apartFor_17 : decode cX8_apartFor 17 = .ok (.invokevirtual 54, 3) := by decide +kernel
theorem dX8_apartFor_20 : decode cX8_apartFor 20 = .ok (.ireturn, 1) := by decide +kernel
abbrev YX8_apartFor : li_Y := (yX8_apartFor, cX8_apartFor, 2, (some .int))
theorem dX8_thingsOf_0 : decode cX8_thingsOf 0 = .ok (.iconst 0, 1) := by decide +kernel
theorem dX8_thingsOf_1 : decode cX8_thingsOf 1 = .ok (.istore_n 2, 1) := by decide +kernel
theorem dX8_thingsOf_2 : decode cX8_thingsOf 2 = .ok (.iconst 0, 1) := by decide +kernel
theorem dX8_thingsOf_3 : decode cX8_thingsOf 3 = .ok (.istore_n 3, 1) := by decide +kernel
theorem dX8_thingsOf_4 : decode cX8_thingsOf 4 = .ok (.iload_n 3, 1) := by decide +kernel
theorem dX8_thingsOf_5 : decode cX8_thingsOf 5 = .ok (.aload_n 0, 1) := by decide +kernel
theorem dX8_thingsOf_6 : decode cX8_thingsOf 6 = .ok (.getfield 37, 3) := by decide +kernel
theorem dX8_thingsOf_9 : decode cX8_thingsOf 9 = .ok (.if_icmp .ge 27, 3) := by decide +kernel
theorem dX8_thingsOf_12 : decode cX8_thingsOf 12 = .ok (.aload_n 0, 1) := by decide +kernel
theorem dX8_thingsOf_13 : decode cX8_thingsOf 13 = .ok (.getfield 18, 3) := by decide +kernel
theorem dX8_thingsOf_16 : decode cX8_thingsOf 16 = .ok (.iload_n 3, 1) := by decide +kernel
theorem dX8_thingsOf_17 : decode cX8_thingsOf 17 = .ok (.invokestatic 44, 3) := by decide +kernel
theorem dX8_thingsOf_20 : decode cX8_thingsOf 20 = .ok (.iload_n 1, 1) := by decide +kernel
theorem dX8_thingsOf_21 : decode cX8_thingsOf 21 = .ok (.if_icmp .ne 9, 3) := by decide +kernel
theorem dX8_thingsOf_24 : decode cX8_thingsOf 24 = .ok (.iload_n 2, 1) := by decide +kernel
theorem dX8_thingsOf_25 : decode cX8_thingsOf 25 = .ok (.iconst 1, 1) := by decide +kernel
theorem dX8_thingsOf_26 : decode cX8_thingsOf 26 = .ok (.iload_n 3, 1) := by decide +kernel
theorem dX8_thingsOf_27 : decode cX8_thingsOf 27 = .ok (.ishl, 1) := by decide +kernel
theorem dX8_thingsOf_28 : decode cX8_thingsOf 28 = .ok (.ior, 1) := by decide +kernel
theorem dX8_thingsOf_29 : decode cX8_thingsOf 29 = .ok (.istore_n 2, 1) := by decide +kernel
theorem dX8_thingsOf_30 : decode cX8_thingsOf 30 = .ok (.iinc 3 1, 3) := by decide +kernel
theorem dX8_thingsOf_33 : decode cX8_thingsOf 33 = .ok (.goto (-29), 3) := by decide +kernel
theorem dX8_thingsOf_36 : decode cX8_thingsOf 36 = .ok (.iload_n 2, 1) := by decide +kernel
theorem dX8_thingsOf_37 : decode cX8_thingsOf 37 = .ok (.ireturn, 1) := by decide +kernel
abbrev YX8_thingsOf : li_Y := (yX8_thingsOf, cX8_thingsOf, 4, (some .int))
theorem dX8_readPerson_0 : decode cX8_readPerson 0 = .ok (.aload_n 1, 1) := by decide +kernel
theorem dX8_readPerson_1 : decode cX8_readPerson 1 = .ok (.iconst 2, 1) := by decide +kernel
theorem dX8_readPerson_2 : decode cX8_readPerson 2 = .ok (.invokevirtual 58, 3) := by decide +kernel
theorem dX8_readPerson_5 : decode cX8_readPerson 5 = .ok (.istore_n 3, 1) := by decide +kernel
theorem dX8_readPerson_6 : decode cX8_readPerson 6 = .ok (.iload_n 3, 1) := by decide +kernel
theorem dX8_readPerson_7 : decode cX8_readPerson 7 = .ok (.ifCond .lt 12, 3) := by decide +kernel
theorem dX8_readPerson_10 : decode cX8_readPerson 10 = .ok (.aload_n 1, 1) := by decide +kernel
theorem dX8_readPerson_11 : decode cX8_readPerson 11 = .ok (.bipush 58, 2) := by decide +kernel
theorem dX8_readPerson_13 : decode cX8_readPerson 13 = .ok (.invokevirtual 63, 3) := by decide +kernel
theorem dX8_readPerson_16 : decode cX8_readPerson 16 = .ok (.ifCond .ne 5, 3) := by decide +kernel
theorem dX8_readPerson_19 : decode cX8_readPerson 19 = .ok (.iconst 0, 1) := by decide +kernel
theorem dX8_readPerson_20 : decode cX8_readPerson 20 = .ok (.ireturn, 1) := by decide +kernel
theorem dX8_readPerson_21 : decode cX8_readPerson 21 = .ok (.aload_n 1, 1) := by decide +kernel
theorem dX8_readPerson_22 : decode cX8_readPerson 22 = .ok (.iconst 3, 1) := by decide +kernel
theorem dX8_readPerson_23 : decode cX8_readPerson 23 = .ok (.invokevirtual 58, 3) := by decide +kernel
theorem dX8_readPerson_26 : decode cX8_readPerson 26 = .ok (.istore 4, 2) := by decide +kernel
theorem dX8_readPerson_28 : decode cX8_readPerson 28 = .ok (.aload_n 0, 1) := by decide +kernel
theorem dX8_readPerson_29 : decode cX8_readPerson 29 = .ok (.getfield 9, 3) := by decide +kernel
theorem dX8_readPerson_32 : decode cX8_readPerson 32 = .ok (.iload_n 2, 1) := by decide +kernel
theorem dX8_readPerson_33 : decode cX8_readPerson 33 = .ok (.iload_n 3, 1) := by decide +kernel
theorem dX8_readPerson_34 : decode cX8_readPerson 34 = .ok (.invokestatic 66, 3) := by decide +kernel
theorem dX8_readPerson_37 : decode cX8_readPerson 37 = .ok (.aload_n 0, 1) := by decide +kernel
theorem dX8_readPerson_38 : decode cX8_readPerson 38 = .ok (.getfield 15, 3) := by decide +kernel
theorem dX8_readPerson_41 : decode cX8_readPerson 41 = .ok (.iload_n 2, 1) := by decide +kernel
theorem dX8_readPerson_42 : decode cX8_readPerson 42 = .ok (.iload 4, 2) := by decide +kernel
theorem dX8_readPerson_44 : decode cX8_readPerson 44 = .ok (.invokestatic 66, 3) := by decide +kernel
theorem dX8_readPerson_47 : decode cX8_readPerson 47 = .ok (.iload 4, 2) := by decide +kernel
theorem dX8_readPerson_49 : decode cX8_readPerson 49 = .ok (.ifCond .lt 7, 3) := by decide +kernel
theorem dX8_readPerson_52 : decode cX8_readPerson 52 = .ok (.iconst 1, 1) := by decide +kernel
theorem dX8_readPerson_53 : decode cX8_readPerson 53 = .ok (.goto 4, 3) := by decide +kernel
theorem dX8_readPerson_56 : decode cX8_readPerson 56 = .ok (.iconst 0, 1) := by decide +kernel
theorem dX8_readPerson_57 : decode cX8_readPerson 57 = .ok (.ireturn, 1) := by decide +kernel
abbrev YX8_readPerson : li_Y := (yX8_readPerson, cX8_readPerson, 5, (some .boolean))
theorem dX8_readTwo_0 : decode cX8_readTwo 0 = .ok (.aload_n 1, 1) := by decide +kernel
theorem dX8_readTwo_1 : decode cX8_readTwo 1 = .ok (.bipush 97, 2) := by decide +kernel
theorem dX8_readTwo_3 : decode cX8_readTwo 3 = .ok (.aload_n 0, 1) := by decide +kernel
theorem dX8_readTwo_4 : decode cX8_readTwo 4 = .ok (.getfield 33, 3) := by decide +kernel
theorem dX8_readTwo_7 : decode cX8_readTwo 7 = .ok (.invokevirtual 70, 3) := by decide +kernel
theorem dX8_readTwo_10 : decode cX8_readTwo 10 = .ok (.istore_n 3, 1) := by decide +kernel
theorem dX8_readTwo_11 : decode cX8_readTwo 11 = .ok (.iload_n 3, 1) := by decide +kernel
theorem dX8_readTwo_12 : decode cX8_readTwo 12 = .ok (.ifCond .ge 5, 3) := by decide +kernel
theorem dX8_readTwo_15 : decode cX8_readTwo 15 = .ok (.iconst 0, 1) := by decide +kernel
theorem dX8_readTwo_16 : decode cX8_readTwo 16 = .ok (.ireturn, 1) := by decide +kernel
theorem dX8_readTwo_17 : decode cX8_readTwo 17 = .ok (.aload_n 1, 1) := by decide +kernel
theorem dX8_readTwo_18 : decode cX8_readTwo 18 = .ok (.bipush 97, 2) := by decide +kernel
theorem dX8_readTwo_20 : decode cX8_readTwo 20 = .ok (.aload_n 0, 1) := by decide +kernel
theorem dX8_readTwo_21 : decode cX8_readTwo 21 = .ok (.getfield 33, 3) := by decide +kernel
theorem dX8_readTwo_24 : decode cX8_readTwo 24 = .ok (.invokevirtual 70, 3) := by decide +kernel
theorem dX8_readTwo_27 : decode cX8_readTwo 27 = .ok (.istore 4, 2) := by decide +kernel
theorem dX8_readTwo_29 : decode cX8_readTwo 29 = .ok (.iload 4, 2) := by decide +kernel
theorem dX8_readTwo_31 : decode cX8_readTwo 31 = .ok (.ifCond .lt 9, 3) := by decide +kernel
theorem dX8_readTwo_34 : decode cX8_readTwo 34 = .ok (.iload 4, 2) := by decide +kernel
theorem dX8_readTwo_36 : decode cX8_readTwo 36 = .ok (.iload_n 3, 1) := by decide +kernel
theorem dX8_readTwo_37 : decode cX8_readTwo 37 = .ok (.if_icmp .ne 24, 3) := by decide +kernel
theorem dX8_readTwo_40 : decode cX8_readTwo 40 = .ok (.aload_n 1, 1) := by decide +kernel
theorem dX8_readTwo_41 : decode cX8_readTwo 41 = .ok (.dup, 1) := by decide +kernel
theorem dX8_readTwo_42 : decode cX8_readTwo 42 = .ok (.getfield 73, 3) := by decide +kernel
theorem dX8_readTwo_45 : decode cX8_readTwo 45 = .ok (.iload 4, 2) := by decide +kernel
theorem dX8_readTwo_47 : decode cX8_readTwo 47 = .ok (.ifCond .ge 7, 3) := by decide +kernel
theorem dX8_readTwo_50 : decode cX8_readTwo 50 = .ok (.iconst 0, 1) := by decide +kernel
theorem dX8_readTwo_51 : decode cX8_readTwo 51 = .ok (.goto 4, 3) := by decide +kernel
theorem dX8_readTwo_54 : decode cX8_readTwo 54 = .ok (.iconst 1, 1) := by decide +kernel
theorem dX8_readTwo_55 : decode cX8_readTwo 55 = .ok (.isub, 1) := by decide +kernel
theorem dX8_readTwo_56 : decode cX8_readTwo 56 = .ok (.putfield 73, 3) := by decide +kernel
theorem dX8_readTwo_59 : decode cX8_readTwo 59 = .ok (.iconst 0, 1) := by decide +kernel
theorem dX8_readTwo_60 : decode cX8_readTwo 60 = .ok (.ireturn, 1) := by decide +kernel
theorem dX8_readTwo_61 : decode cX8_readTwo 61 = .ok (.aload_n 0, 1) := by decide +kernel
theorem dX8_readTwo_62 : decode cX8_readTwo 62 = .ok (.getfield 18, 3) := by decide +kernel
theorem dX8_readTwo_65 : decode cX8_readTwo 65 = .ok (.iload_n 2, 1) := by decide +kernel
theorem dX8_readTwo_66 : decode cX8_readTwo 66 = .ok (.iload_n 3, 1) := by decide +kernel
theorem dX8_readTwo_67 : decode cX8_readTwo 67 = .ok (.invokestatic 66, 3) := by decide +kernel
theorem dX8_readTwo_70 : decode cX8_readTwo 70 = .ok (.aload_n 0, 1) := by decide +kernel
theorem dX8_readTwo_71 : decode cX8_readTwo 71 = .ok (.getfield 21, 3) := by decide +kernel
theorem dX8_readTwo_74 : decode cX8_readTwo 74 = .ok (.iload_n 2, 1) := by decide +kernel
theorem dX8_readTwo_75 : decode cX8_readTwo 75 = .ok (.iload 4, 2) := by decide +kernel
theorem dX8_readTwo_77 : decode cX8_readTwo 77 = .ok (.invokestatic 66, 3) := by decide +kernel
theorem dX8_readTwo_80 : decode cX8_readTwo 80 = .ok (.iconst 1, 1) := by decide +kernel
theorem dX8_readTwo_81 : decode cX8_readTwo 81 = .ok (.ireturn, 1) := by decide +kernel
abbrev YX8_readTwo : li_Y := (yX8_readTwo, cX8_readTwo, 5, (some .boolean))
theorem dX8_readSeconds_0 : decode cX8_readSeconds 0 = .ok (.aload_n 1, 1) := by decide +kernel
theorem dX8_readSeconds_1 : decode cX8_readSeconds 1 = .ok (.iconst 2, 1) := by decide +kernel
theorem dX8_readSeconds_2 : decode cX8_readSeconds 2 = .ok (.invokevirtual 58, 3) := by decide +kernel
theorem dX8_readSeconds_5 : decode cX8_readSeconds 5 = .ok (.istore_n 3, 1) := by decide +kernel
theorem dX8_readSeconds_6 : decode cX8_readSeconds 6 = .ok (.iload_n 3, 1) := by decide +kernel
theorem dX8_readSeconds_7 : decode cX8_readSeconds 7 = .ok (.ifCond .ne 13, 3) := by decide +kernel
theorem dX8_readSeconds_10 : decode cX8_readSeconds 10 = .ok (.aload_n 1, 1) := by decide +kernel
theorem dX8_readSeconds_11 : decode cX8_readSeconds 11 = .ok (.dup, 1) := by decide +kernel
theorem dX8_readSeconds_12 : decode cX8_readSeconds 12 = .ok (.getfield 73, 3) := by decide +kernel
theorem dX8_readSeconds_15 : decode cX8_readSeconds 15 = .ok (.iconst 1, 1) := by decide +kernel
theorem dX8_readSeconds_16 : decode cX8_readSeconds 16 = .ok (.isub, 1) := by decide +kernel
theorem dX8_readSeconds_17 : decode cX8_readSeconds 17 = .ok (.putfield 73, 3) := by decide +kernel
theorem dX8_readSeconds_20 : decode cX8_readSeconds 20 = .ok (.aload_n 0, 1) := by decide +kernel
theorem dX8_readSeconds_21 : decode cX8_readSeconds 21 = .ok (.getfield 24, 3) := by decide +kernel
theorem dX8_readSeconds_24 : decode cX8_readSeconds 24 = .ok (.iload_n 2, 1) := by decide +kernel
theorem dX8_readSeconds_25 : decode cX8_readSeconds 25 = .ok (.iload_n 3, 1) := by decide +kernel
theorem dX8_readSeconds_26 : decode cX8_readSeconds 26 = .ok (.invokestatic 66, 3) := by decide +kernel
theorem dX8_readSeconds_29 : decode cX8_readSeconds 29 = .ok (.iload_n 3, 1) := by decide +kernel
theorem dX8_readSeconds_30 : decode cX8_readSeconds 30 = .ok (.ifCond .le 16, 3) := by decide +kernel
theorem dX8_readSeconds_33 : decode cX8_readSeconds 33 = .ok (.aload_n 1, 1) := by decide +kernel
theorem dX8_readSeconds_34 : decode cX8_readSeconds 34 = .ok (.bipush 45, 2) := by decide +kernel
theorem dX8_readSeconds_36 : decode cX8_readSeconds 36 = .ok (.invokevirtual 63, 3) := by decide +kernel
theorem dX8_readSeconds_39 : decode cX8_readSeconds 39 = .ok (.ifCond .eq 7, 3) := by decide +kernel
theorem dX8_readSeconds_42 : decode cX8_readSeconds 42 = .ok (.iconst 1, 1) := by decide +kernel
theorem dX8_readSeconds_43 : decode cX8_readSeconds 43 = .ok (.goto 4, 3) := by decide +kernel
theorem dX8_readSeconds_46 : decode cX8_readSeconds 46 = .ok (.iconst 0, 1) := by decide +kernel
theorem dX8_readSeconds_47 : decode cX8_readSeconds 47 = .ok (.ireturn, 1) := by decide +kernel
abbrev YX8_readSeconds : li_Y := (yX8_readSeconds, cX8_readSeconds, 4, (some .boolean))
theorem dX8_readDayAndWorth_0 : decode cX8_readDayAndWorth 0 = .ok (.aload_n 1, 1) := by decide +kernel
theorem dX8_readDayAndWorth_1 : decode cX8_readDayAndWorth 1 = .ok (.iconst 2, 1) := by decide +kernel
theorem dX8_readDayAndWorth_2 : decode cX8_readDayAndWorth 2 = .ok (.invokevirtual 58, 3) := by decide +kernel
theorem dX8_readDayAndWorth_5 : decode cX8_readDayAndWorth 5 = .ok (.istore_n 3, 1) := by decide +kernel
theorem dX8_readDayAndWorth_6 : decode cX8_readDayAndWorth 6 = .ok (.iload_n 3, 1) := by decide +kernel
theorem dX8_readDayAndWorth_7 : decode cX8_readDayAndWorth 7 = .ok (.ifCond .lt 12, 3) := by decide +kernel
theorem dX8_readDayAndWorth_10 : decode cX8_readDayAndWorth 10 = .ok (.aload_n 1, 1) := by decide +kernel
theorem dX8_readDayAndWorth_11 : decode cX8_readDayAndWorth 11 = .ok (.bipush 61, 2) := by decide +kernel
theorem dX8_readDayAndWorth_13 : decode cX8_readDayAndWorth 13 = .ok (.invokevirtual 63, 3) := by decide +kernel
theorem dX8_readDayAndWorth_16 : decode cX8_readDayAndWorth 16 = .ok (.ifCond .ne 5, 3) := by decide +kernel
theorem dX8_readDayAndWorth_19 : decode cX8_readDayAndWorth 19 = .ok (.iconst 0, 1) := by decide +kernel
theorem dX8_readDayAndWorth_20 : decode cX8_readDayAndWorth 20 = .ok (.ireturn, 1) := by decide +kernel
theorem dX8_readDayAndWorth_21 : decode cX8_readDayAndWorth 21 = .ok (.aload_n 1, 1) := by decide +kernel
theorem dX8_readDayAndWorth_22 : decode cX8_readDayAndWorth 22 = .ok (.iconst 2, 1) := by decide +kernel
theorem dX8_readDayAndWorth_23 : decode cX8_readDayAndWorth 23 = .ok (.invokevirtual 58, 3) := by decide +kernel
theorem dX8_readDayAndWorth_26 : decode cX8_readDayAndWorth 26 = .ok (.istore 4, 2) := by decide +kernel
theorem dX8_readDayAndWorth_28 : decode cX8_readDayAndWorth 28 = .ok (.aload_n 0, 1) := by decide +kernel
theorem dX8_readDayAndWorth_29 : decode cX8_readDayAndWorth 29 = .ok (.getfield 27, 3) := by decide +kernel
theorem dX8_readDayAndWorth_32 : decode cX8_readDayAndWorth 32 = .ok (.iload_n 2, 1) := by decide +kernel
theorem dX8_readDayAndWorth_33 : decode cX8_readDayAndWorth 33 = .ok (.iload_n 3, 1) := by decide +kernel
theorem dX8_readDayAndWorth_34 : decode cX8_readDayAndWorth 34 = .ok (.invokestatic 66, 3) := by decide +kernel
theorem dX8_readDayAndWorth_37 : decode cX8_readDayAndWorth 37 = .ok (.aload_n 0, 1) := by decide +kernel
theorem dX8_readDayAndWorth_38 : decode cX8_readDayAndWorth 38 = .ok (.getfield 30, 3) := by decide +kernel
theorem dX8_readDayAndWorth_41 : decode cX8_readDayAndWorth 41 = .ok (.iload_n 2, 1) := by decide +kernel
theorem dX8_readDayAndWorth_42 : decode cX8_readDayAndWorth 42 = .ok (.iload 4, 2) := by decide +kernel
theorem dX8_readDayAndWorth_44 : decode cX8_readDayAndWorth 44 = .ok (.invokestatic 66, 3) := by decide +kernel
theorem dX8_readDayAndWorth_47 : decode cX8_readDayAndWorth 47 = .ok (.iload 4, 2) := by decide +kernel
theorem dX8_readDayAndWorth_49 : decode cX8_readDayAndWorth 49 = .ok (.ifCond .lt 7, 3) := by decide +kernel
theorem dX8_readDayAndWorth_52 : decode cX8_readDayAndWorth 52 = .ok (.iconst 1, 1) := by decide +kernel
theorem dX8_readDayAndWorth_53 : decode cX8_readDayAndWorth 53 = .ok (.goto 4, 3) := by decide +kernel
theorem dX8_readDayAndWorth_56 : decode cX8_readDayAndWorth 56 = .ok (.iconst 0, 1) := by decide +kernel
theorem dX8_readDayAndWorth_57 : decode cX8_readDayAndWorth 57 = .ok (.ireturn, 1) := by decide +kernel
abbrev YX8_readDayAndWorth : li_Y := (yX8_readDayAndWorth, cX8_readDayAndWorth, 5, (some .boolean))
set_option maxRecDepth 100000 in
set_option maxHeartbeats 4000000 in
theorem k_X8_hasPerson {l : Launch} {Z : li_Z} (d : Nat) (hd : 1 ≤ d) (p1 : Int32) (M0 : li_M) : li_Met l Z YX8_hasPerson d [.ref (Z.2.2 5), .int p1] M0 (li_SZ (fun i => False) M0) := by
  refine li_enter (by decide +kernel) (Nat.le_of_ble_eq_true rfl) ?_
  show li_T l Z YX8_hasPerson d 0 [(0, .ref (Z.2.2 5)), (1, .int p1)] [] M0 _
  have hf : li_fr (fun i => False) M0 M0 := li_fr_refl
  refine li_iload_n 1 dX8_hasPerson_0 rfl ?_
  refine li_if_lt 16 dX8_hasPerson_1 (by decide) (fun c1 => ?_) (fun c1 => ?_)
  · refine li_iconst 0 dX8_hasPerson_16 (by decide) ?_
    exact li_iret dX8_hasPerson_17 rfl (li_nz (Or.inl rfl)) ⟨⟨_, rfl, Or.inl rfl⟩, hf⟩
  · refine li_iload_n 1 dX8_hasPerson_4 rfl ?_
    refine li_aload_n 0 dX8_hasPerson_5 rfl ?_
    refine li_geti (k := 0) (N := 9) (T := TX8) (C0 := RX8) dX8_hasPerson_6 (by decide) sh_5 rfl rfl (by decide) li_in8 w_177 ?_
    refine li_top (fun x2 ex2 => ?_)
    refine li_icmp_ge 16 dX8_hasPerson_9 (by decide) (fun c3 => ?_) (fun c3 => ?_)
    · refine li_iconst 0 dX8_hasPerson_16 (by decide) ?_
      exact li_iret dX8_hasPerson_17 rfl (li_nz (Or.inl rfl)) ⟨⟨_, rfl, Or.inl rfl⟩, hf⟩
    · refine li_iconst 1 dX8_hasPerson_12 (by decide) ?_
      refine li_goto 17 dX8_hasPerson_13 (by decide) ?_
      exact li_iret dX8_hasPerson_17 rfl (li_nz (Or.inr rfl)) ⟨⟨_, rfl, Or.inr rfl⟩, hf⟩
set_option maxRecDepth 100000 in
set_option maxHeartbeats 4000000 in
theorem k_X8_hasThing {l : Launch} {Z : li_Z} (d : Nat) (hd : 1 ≤ d) (p1 : Int32) (M0 : li_M) : li_Met l Z YX8_hasThing d [.ref (Z.2.2 5), .int p1] M0 (li_SZ (fun i => False) M0) := by
  refine li_enter (by decide +kernel) (Nat.le_of_ble_eq_true rfl) ?_
  show li_T l Z YX8_hasThing d 0 [(0, .ref (Z.2.2 5)), (1, .int p1)] [] M0 _
  have hf : li_fr (fun i => False) M0 M0 := li_fr_refl
  refine li_iload_n 1 dX8_hasThing_0 rfl ?_
  refine li_if_lt 16 dX8_hasThing_1 (by decide) (fun c1 => ?_) (fun c1 => ?_)
  · refine li_iconst 0 dX8_hasThing_16 (by decide) ?_
    exact li_iret dX8_hasThing_17 rfl (li_nz (Or.inl rfl)) ⟨⟨_, rfl, Or.inl rfl⟩, hf⟩
  · refine li_iload_n 1 dX8_hasThing_4 rfl ?_
    refine li_aload_n 0 dX8_hasThing_5 rfl ?_
    refine li_geti (k := 1) (N := 9) (T := TX8) (C0 := RX8) dX8_hasThing_6 (by decide) sh_5 rfl rfl (by decide) li_in8 w_182 ?_
    refine li_top (fun x2 ex2 => ?_)
    refine li_icmp_ge 16 dX8_hasThing_9 (by decide) (fun c3 => ?_) (fun c3 => ?_)
    · refine li_iconst 0 dX8_hasThing_16 (by decide) ?_
      exact li_iret dX8_hasThing_17 rfl (li_nz (Or.inl rfl)) ⟨⟨_, rfl, Or.inl rfl⟩, hf⟩
    · refine li_iconst 1 dX8_hasThing_12 (by decide) ?_
      refine li_goto 17 dX8_hasThing_13 (by decide) ?_
      exact li_iret dX8_hasThing_17 rfl (li_nz (Or.inr rfl)) ⟨⟨_, rfl, Or.inr rfl⟩, hf⟩
set_option maxRecDepth 100000 in
set_option maxHeartbeats 4000000 in
theorem k_X8_areTwo {l : Launch} {Z : li_Z} (d : Nat) (hd : 2 ≤ d) (p1 : Int32) (p2 : Int32) (M0 : li_M) : li_Met l Z YX8_areTwo d [.ref (Z.2.2 5), .int p1, .int p2] M0 (li_SZ (fun i => False) M0) := by
  refine li_enter (by decide +kernel) (Nat.le_of_ble_eq_true rfl) ?_
  show li_T l Z YX8_areTwo d 0 [(0, .ref (Z.2.2 5)), (1, .int p1), (2, .int p2)] [] M0 _
  have hf : li_fr (fun i => False) M0 M0 := li_fr_refl
  refine li_aload_n 0 dX8_areTwo_0 rfl ?_
  refine li_iload_n 1 dX8_areTwo_1 rfl ?_
  refine li_callV (n := 1) (As := [.int p1]) dX8_areTwo_2 (k_X8_hasPerson (d - 1) (by omega) p1 M0) (by omega) (Nat.le_of_ble_eq_true rfl) w_908 w_779 w_780 w_107 w_781 (by decide +kernel) rfl (by decide) sh_5 rfl rfl (Nat.le_of_ble_eq_true rfl) (fun r M2 h3 => ?_)
  obtain ⟨⟨x1, rfl, bx1⟩, h3⟩ := h3
  have hf := li_fr_trans hf h3 (fun i h => False.elim h)
  refine li_if_eq 25 dX8_areTwo_5 (by decide) (fun c4 => ?_) (fun c4 => ?_)
  · refine li_iconst 0 dX8_areTwo_25 (by decide) ?_
    exact li_iret dX8_areTwo_26 rfl (li_nz (Or.inl rfl)) ⟨⟨_, rfl, Or.inl rfl⟩, hf⟩
  · refine li_aload_n 0 dX8_areTwo_8 rfl ?_
    refine li_iload_n 2 dX8_areTwo_9 rfl ?_
    refine li_callV (n := 1) (As := [.int p2]) dX8_areTwo_10 (k_X8_hasPerson (d - 1) (by omega) p2 M2) (by omega) (Nat.le_of_ble_eq_true rfl) w_908 w_779 w_780 w_107 w_781 (by decide +kernel) rfl (by decide) sh_5 rfl rfl (Nat.le_of_ble_eq_true rfl) (fun r M6 h7 => ?_)
    obtain ⟨⟨x5, rfl, bx5⟩, h7⟩ := h7
    have hf := li_fr_trans hf h7 (fun i h => False.elim h)
    refine li_if_eq 25 dX8_areTwo_13 (by decide) (fun c8 => ?_) (fun c8 => ?_)
    · refine li_iconst 0 dX8_areTwo_25 (by decide) ?_
      exact li_iret dX8_areTwo_26 rfl (li_nz (Or.inl rfl)) ⟨⟨_, rfl, Or.inl rfl⟩, hf⟩
    · refine li_iload_n 1 dX8_areTwo_16 rfl ?_
      refine li_iload_n 2 dX8_areTwo_17 rfl ?_
      refine li_icmp_eq 25 dX8_areTwo_18 (by decide) (fun c9 => ?_) (fun c9 => ?_)
      · refine li_iconst 0 dX8_areTwo_25 (by decide) ?_
        exact li_iret dX8_areTwo_26 rfl (li_nz (Or.inl rfl)) ⟨⟨_, rfl, Or.inl rfl⟩, hf⟩
      · refine li_iconst 1 dX8_areTwo_21 (by decide) ?_
        refine li_goto 26 dX8_areTwo_22 (by decide) ?_
        exact li_iret dX8_areTwo_26 rfl (li_nz (Or.inr rfl)) ⟨⟨_, rfl, Or.inr rfl⟩, hf⟩
set_option maxRecDepth 100000 in
set_option maxHeartbeats 4000000 in
theorem k_X8_apart {l : Launch} {Z : li_Z} (d : Nat) (hd : 2 ≤ d) (p1 : Int32) (p2 : Int32) (M0 : li_M) : li_Met l Z YX8_apart d [.ref (Z.2.2 5), .int p1, .int p2] M0 (li_SI (fun i => False) M0) := by
  refine li_enter (by decide +kernel) (Nat.le_of_ble_eq_true rfl) ?_
  show li_T l Z YX8_apart d 0 [(0, .ref (Z.2.2 5)), (1, .int p1), (2, .int p2)] [] M0 _
  have hf : li_fr (fun i => False) M0 M0 := li_fr_refl
  refine li_aload_n 0 dX8_apart_0 rfl ?_
  refine li_getr (k := 2) (N := 9) (T := TX8) (C0 := RX8) dX8_apart_1 (by decide) sh_5 rfl rfl (by decide) (by decide) li_in8 w_186 ?_
  refine li_iload_n 1 dX8_apart_4 rfl ?_
  refine li_callN (n := 2) (As := [.ref (Z.2.2 6), .int p1]) dX8_apart_5 (k_X11_at (d - 1) (by omega) (by decide) sh_6 (by decide) p1 M0) (by omega) (Nat.le_of_ble_eq_true rfl) nw_16 w_589 w_104 w_590 (by decide +kernel) rfl rfl (Nat.le_of_ble_eq_true rfl) (fun r M2 h3 => ?_)
  obtain ⟨⟨x1, rfl⟩, h3⟩ := h3
  have hf := li_fr_trans hf h3 (fun i h => False.elim h)
  refine li_aload_n 0 dX8_apart_8 rfl ?_
  refine li_getr (k := 2) (N := 9) (T := TX8) (C0 := RX8) dX8_apart_9 (by decide) sh_5 rfl rfl (by decide) (by decide) li_in8 w_186 ?_
  refine li_iload_n 2 dX8_apart_12 rfl ?_
  refine li_callN (n := 2) (As := [.ref (Z.2.2 6), .int p2]) dX8_apart_13 (k_X11_at (d - 1) (by omega) (by decide) sh_6 (by decide) p2 M2) (by omega) (Nat.le_of_ble_eq_true rfl) nw_16 w_589 w_104 w_590 (by decide +kernel) rfl rfl (Nat.le_of_ble_eq_true rfl) (fun r M5 h6 => ?_)
  obtain ⟨⟨x4, rfl⟩, h6⟩ := h6
  have hf := li_fr_trans hf h6 (fun i h => False.elim h)
  refine li_isub dX8_apart_16 ?_
  refine li_top (fun x7 ex7 => ?_)
  refine li_mabs dX8_apart_17 (by omega) w_821 w_822 w_117 w_823 (Nat.le_of_ble_eq_true rfl) ?_
  refine li_top (fun x8 ex8 => ?_)
  exact li_iret dX8_apart_20 rfl rfl ⟨⟨_, rfl⟩, hf⟩
set_option maxRecDepth 100000 in
set_option maxHeartbeats 4000000 in
theorem k_X8_apartFor {l : Launch} {Z : li_Z} (d : Nat) (hd : 3 ≤ d) (p1 : Int32) (M0 : li_M) : li_Met l Z YX8_apartFor d [.ref (Z.2.2 5), .int p1] M0 (li_SI (fun i => False) M0) := by
  refine li_enter (by decide +kernel) (Nat.le_of_ble_eq_true rfl) ?_
  show li_T l Z YX8_apartFor d 0 [(0, .ref (Z.2.2 5)), (1, .int p1)] [] M0 _
  have hf : li_fr (fun i => False) M0 M0 := li_fr_refl
  refine li_aload_n 0 dX8_apartFor_0 rfl ?_
  refine li_aload_n 0 dX8_apartFor_1 rfl ?_
  refine li_getr (k := 4) (N := 9) (T := TX8) (C0 := RX8) dX8_apartFor_2 (by decide) sh_5 rfl rfl (by decide) (by decide) li_in8 w_191 ?_
  refine li_iload_n 1 dX8_apartFor_5 rfl ?_
  refine li_callN (n := 2) (As := [.ref (Z.2.2 8), .int p1]) dX8_apartFor_6 (k_X11_at (d - 1) (by omega) (by decide) sh_8 (by decide) p1 M0) (by omega) (Nat.le_of_ble_eq_true rfl) nw_16 w_589 w_104 w_590 (by decide +kernel) rfl rfl (Nat.le_of_ble_eq_true rfl) (fun r M2 h3 => ?_)
  obtain ⟨⟨x1, rfl⟩, h3⟩ := h3
  have hf := li_fr_trans hf h3 (fun i h => False.elim h)
  refine li_aload_n 0 dX8_apartFor_9 rfl ?_
  refine li_getr (k := 5) (N := 9) (T := TX8) (C0 := RX8) dX8_apartFor_10 (by decide) sh_5 rfl rfl (by decide) (by decide) li_in8 w_194 ?_
  refine li_iload_n 1 dX8_apartFor_13 rfl ?_
  refine li_callN (n := 2) (As := [.ref (Z.2.2 9), .int p1]) dX8_apartFor_14 (k_X11_at (d - 1) (by omega) (by decide) sh_9 (by decide) p1 M2) (by omega) (Nat.le_of_ble_eq_true rfl) nw_16 w_589 w_104 w_590 (by decide +kernel) rfl rfl (Nat.le_of_ble_eq_true rfl) (fun r M5 h6 => ?_)
  obtain ⟨⟨x4, rfl⟩, h6⟩ := h6
  have hf := li_fr_trans hf h6 (fun i h => False.elim h)
  refine li_callV (n := 2) (As := [.int x1, .int x4]) dX8_apartFor_17 (k_X8_apart (d - 1) (by omega) x1 x4 M5) (by omega) (Nat.le_of_ble_eq_true rfl) w_817 w_818 w_819 w_107 w_820 (by decide +kernel) rfl (by decide) sh_5 rfl rfl (Nat.le_of_ble_eq_true rfl) (fun r M8 h9 => ?_)
  obtain ⟨⟨x7, rfl⟩, h9⟩ := h9
  have hf := li_fr_trans hf h9 (fun i h => False.elim h)
  exact li_iret dX8_apartFor_20 rfl rfl ⟨⟨_, rfl⟩, hf⟩
set_option maxRecDepth 100000 in
set_option maxHeartbeats 4000000 in
theorem k_X8_thingsOf {l : Launch} {Z : li_Z} (d : Nat) (hd : 2 ≤ d) (p1 : Int32) (M0 : li_M) : li_Met l Z YX8_thingsOf d [.ref (Z.2.2 5), .int p1] M0 (li_SI (fun i => False) M0) := by
  refine li_enter (by decide +kernel) (Nat.le_of_ble_eq_true rfl) ?_
  show li_T l Z YX8_thingsOf d 0 [(0, .ref (Z.2.2 5)), (1, .int p1)] [] M0 _
  have hf : li_fr (fun i => False) M0 M0 := li_fr_refl
  refine li_iconst 0 dX8_thingsOf_0 (by decide) ?_
  refine li_istore_n [(2, .int 0), (0, .ref (Z.2.2 5)), (1, .int p1)] dX8_thingsOf_1 (by decide) rfl ?_
  refine li_iconst 0 dX8_thingsOf_2 (by decide) ?_
  refine li_istore_n [(3, .int 0), (2, .int 0), (0, .ref (Z.2.2 5)), (1, .int p1)] dX8_thingsOf_3 (by decide) rfl ?_
  have L4 : ∀ (n : Nat) (x1 : Int32) (x2 : Int32) (M3 : li_M), (2147483647 - (x1 : Int32).toInt).toNat < n → li_fr (fun i => False) M0 M3 → li_T l Z YX8_thingsOf d 4 [(3, .int x1), (2, .int x2), (0, .ref (Z.2.2 5)), (1, .int p1)] [] M3 (li_SI (fun i => False) M0) := by
    intro n
    induction n with
    | zero => intro x1 x2 M3 hn; exact absurd hn (Nat.not_lt_zero _)
    | succ n ih4 =>
      intro x1 x2 M3 hn hf
      refine li_iload_n 0 dX8_thingsOf_4 rfl ?_
      refine li_aload_n 2 dX8_thingsOf_5 rfl ?_
      refine li_geti (k := 1) (N := 9) (T := TX8) (C0 := RX8) dX8_thingsOf_6 (by decide) sh_5 rfl rfl (by decide) li_in8 w_182 ?_
      refine li_top (fun x4 ex4 => ?_)
      refine li_icmp_ge 36 dX8_thingsOf_9 (by decide) (fun c5 => ?_) (fun c5 => ?_)
      · refine li_iload_n 1 dX8_thingsOf_36 rfl ?_
        exact li_iret dX8_thingsOf_37 rfl rfl ⟨⟨_, rfl⟩, hf⟩
      · refine li_aload_n 2 dX8_thingsOf_12 rfl ?_
        refine li_getr (k := 4) (N := 9) (T := TX8) (C0 := RX8) dX8_thingsOf_13 (by decide) sh_5 rfl rfl (by decide) (by decide) li_in8 w_191 ?_
        refine li_iload_n 0 dX8_thingsOf_16 rfl ?_
        refine li_callN (n := 2) (As := [.ref (Z.2.2 8), .int x1]) dX8_thingsOf_17 (k_X11_at (d - 1) (by omega) (by decide) sh_8 (by decide) x1 M3) (by omega) (Nat.le_of_ble_eq_true rfl) nw_16 w_589 w_104 w_590 (by decide +kernel) rfl rfl (Nat.le_of_ble_eq_true rfl) (fun r M7 h8 => ?_)
        obtain ⟨⟨x6, rfl⟩, h8⟩ := h8
        have hf := li_fr_trans hf h8 (fun i h => False.elim h)
        refine li_iload_n 3 dX8_thingsOf_20 rfl ?_
        have J30 : ∀ (x10 : Int32) (M11 : li_M), li_fr (fun i => False) M0 M11 → li_T l Z YX8_thingsOf d 30 [(3, .int x1), (2, .int x10), (0, .ref (Z.2.2 5)), (1, .int p1)] [] M11 (li_SI (fun i => False) M0) := by
          intro x10 M11 hf
          obtain ⟨x12, ex12⟩ : ∃ y : Int32, y = x1 + 1 := ⟨_, rfl⟩
          refine li_iinc 0 [(3, .int x12), (2, .int x10), (0, .ref (Z.2.2 5)), (1, .int p1)] x12 dX8_thingsOf_30 rfl (by rw [ex12]; rfl) (by decide) rfl ?_
          refine li_goto 4 dX8_thingsOf_33 (by decide) ?_
          refine li_pick [0, 1, 2, 3] [(3, .int x12), (2, .int x10), (0, .ref (Z.2.2 5)), (1, .int p1)] rfl ?_
          exact ih4 x12 x10 M11 (by have h9 := li_up (li_gt c5); rw [← ex12] at h9; omega) hf
        refine li_icmp_ne 30 dX8_thingsOf_21 (by decide) (fun c9 => ?_) (fun c9 => ?_)
        · refine li_pick [0, 1, 2, 3] [(3, .int x1), (2, .int x2), (0, .ref (Z.2.2 5)), (1, .int p1)] rfl ?_
          exact J30 x2 M7 hf
        · refine li_iload_n 1 dX8_thingsOf_24 rfl ?_
          refine li_iconst 1 dX8_thingsOf_25 (by decide) ?_
          refine li_iload_n 0 dX8_thingsOf_26 rfl ?_
          refine li_ishl dX8_thingsOf_27 ?_
          refine li_top (fun x13 ex13 => ?_)
          refine li_ior dX8_thingsOf_28 ?_
          refine li_top (fun x14 ex14 => ?_)
          refine li_istore_n [(2, .int x14), (3, .int x1), (0, .ref (Z.2.2 5)), (1, .int p1)] dX8_thingsOf_29 (by decide) rfl ?_
          refine li_pick [1, 0, 2, 3] [(3, .int x1), (2, .int x14), (0, .ref (Z.2.2 5)), (1, .int p1)] rfl ?_
          exact J30 x14 M7 hf
  exact L4 _ 0 0 M0 (Nat.lt_succ_self _) hf
set_option maxRecDepth 100000 in
set_option maxHeartbeats 4000000 in
theorem k_X8_readPerson {l : Launch} {Z : li_Z} (d : Nat) (hd : 3 ≤ d) (p1 : Int32) (M0 : li_M) : li_Met l Z YX8_readPerson d [.ref (Z.2.2 5), .ref (Z.2.2 1), .int p1] M0 (li_SZ (fun i => i = 1 ∨ i = 6 ∨ i = 7) M0) := by
  refine li_enter (by decide +kernel) (Nat.le_of_ble_eq_true rfl) ?_
  show li_T l Z YX8_readPerson d 0 [(0, .ref (Z.2.2 5)), (1, .ref (Z.2.2 1)), (2, .int p1)] [] M0 _
  have hf : li_fr (fun i => i = 1 ∨ i = 6 ∨ i = 7) M0 M0 := li_fr_refl
  refine li_aload_n 1 dX8_readPerson_0 rfl ?_
  refine li_iconst 2 dX8_readPerson_1 (by decide) ?_
  refine li_callV (n := 1) (As := [.int 2]) dX8_readPerson_2 (k_X7_takeNumber (d - 1) (by omega) 2 M0) (by omega) (Nat.le_of_ble_eq_true rfl) w_696 w_655 w_656 w_105 w_657 (by decide +kernel) rfl (by decide) sh_1 rfl rfl (Nat.le_of_ble_eq_true rfl) (fun r M2 h3 => ?_)
  obtain ⟨⟨x1, rfl⟩, h3⟩ := h3
  have hf := li_fr_trans hf h3 (fun i (h : i = 1) => (show i = 1 ∨ i = 6 ∨ i = 7 by omega))
  refine li_istore_n [(3, .int x1), (0, .ref (Z.2.2 5)), (1, .ref (Z.2.2 1)), (2, .int p1)] dX8_readPerson_5 (by decide) rfl ?_
  refine li_iload_n 0 dX8_readPerson_6 rfl ?_
  refine li_if_lt 19 dX8_readPerson_7 (by decide) (fun c4 => ?_) (fun c4 => ?_)
  · refine li_iconst 0 dX8_readPerson_19 (by decide) ?_
    exact li_iret dX8_readPerson_20 rfl (li_nz (Or.inl rfl)) ⟨⟨_, rfl, Or.inl rfl⟩, hf⟩
  · refine li_aload_n 2 dX8_readPerson_10 rfl ?_
    refine li_bipush 58 dX8_readPerson_11 (by decide) ?_
    refine li_callV (n := 1) (As := [.int 58]) dX8_readPerson_13 (k_X7_skip (d - 1) (by omega) 58 M2) (by omega) (Nat.le_of_ble_eq_true rfl) w_697 w_585 w_586 w_105 w_587 (by decide +kernel) rfl (by decide) sh_1 rfl rfl (Nat.le_of_ble_eq_true rfl) (fun r M6 h7 => ?_)
    obtain ⟨⟨x5, rfl, bx5⟩, h7⟩ := h7
    have hf := li_fr_trans hf h7 (fun i (h : i = 1) => (show i = 1 ∨ i = 6 ∨ i = 7 by omega))
    refine li_if_ne 21 dX8_readPerson_16 (by decide) (fun c8 => ?_) (fun c8 => ?_)
    · refine li_aload_n 2 dX8_readPerson_21 rfl ?_
      refine li_iconst 3 dX8_readPerson_22 (by decide) ?_
      refine li_callV (n := 1) (As := [.int 3]) dX8_readPerson_23 (k_X7_takeNumber (d - 1) (by omega) 3 M6) (by omega) (Nat.le_of_ble_eq_true rfl) w_696 w_655 w_656 w_105 w_657 (by decide +kernel) rfl (by decide) sh_1 rfl rfl (Nat.le_of_ble_eq_true rfl) (fun r M10 h11 => ?_)
      obtain ⟨⟨x9, rfl⟩, h11⟩ := h11
      have hf := li_fr_trans hf h11 (fun i (h : i = 1) => (show i = 1 ∨ i = 6 ∨ i = 7 by omega))
      refine li_istore [(4, .int x9), (3, .int x1), (0, .ref (Z.2.2 5)), (1, .ref (Z.2.2 1)), (2, .int p1)] dX8_readPerson_26 (by decide) rfl ?_
      refine li_aload_n 2 dX8_readPerson_28 rfl ?_
      refine li_getr (k := 2) (N := 9) (T := TX8) (C0 := RX8) dX8_readPerson_29 (by decide) sh_5 rfl rfl (by decide) (by decide) li_in8 w_186 ?_
      refine li_iload_n 4 dX8_readPerson_32 rfl ?_
      refine li_iload_n 1 dX8_readPerson_33 rfl ?_
      refine li_callN (n := 3) (As := [.ref (Z.2.2 6), .int p1, .int x1]) dX8_readPerson_34 (k_X11_put (d - 1) (by omega) (by decide) sh_6 (by decide) p1 x1 M10) (by omega) (Nat.le_of_ble_eq_true rfl) nw_13 w_542 w_104 w_543 (by decide +kernel) rfl rfl (Nat.le_of_ble_eq_true rfl) (fun r M13 h14 => ?_)
      obtain ⟨rfl, h14⟩ := h14
      have hf := li_fr_trans hf h14 (fun i (h : i = 6) => (show i = 1 ∨ i = 6 ∨ i = 7 by omega))
      refine li_aload_n 2 dX8_readPerson_37 rfl ?_
      refine li_getr (k := 3) (N := 9) (T := TX8) (C0 := RX8) dX8_readPerson_38 (by decide) sh_5 rfl rfl (by decide) (by decide) li_in8 w_188 ?_
      refine li_iload_n 4 dX8_readPerson_41 rfl ?_
      refine li_iload 0 dX8_readPerson_42 rfl ?_
      refine li_callN (n := 3) (As := [.ref (Z.2.2 7), .int p1, .int x9]) dX8_readPerson_44 (k_X11_put (d - 1) (by omega) (by decide) sh_7 (by decide) p1 x9 M13) (by omega) (Nat.le_of_ble_eq_true rfl) nw_13 w_542 w_104 w_543 (by decide +kernel) rfl rfl (Nat.le_of_ble_eq_true rfl) (fun r M16 h17 => ?_)
      obtain ⟨rfl, h17⟩ := h17
      have hf := li_fr_trans hf h17 (fun i (h : i = 7) => (show i = 1 ∨ i = 6 ∨ i = 7 by omega))
      refine li_iload 0 dX8_readPerson_47 rfl ?_
      refine li_if_lt 56 dX8_readPerson_49 (by decide) (fun c18 => ?_) (fun c18 => ?_)
      · refine li_iconst 0 dX8_readPerson_56 (by decide) ?_
        exact li_iret dX8_readPerson_57 rfl (li_nz (Or.inl rfl)) ⟨⟨_, rfl, Or.inl rfl⟩, hf⟩
      · refine li_iconst 1 dX8_readPerson_52 (by decide) ?_
        refine li_goto 57 dX8_readPerson_53 (by decide) ?_
        exact li_iret dX8_readPerson_57 rfl (li_nz (Or.inr rfl)) ⟨⟨_, rfl, Or.inr rfl⟩, hf⟩
    · refine li_iconst 0 dX8_readPerson_19 (by decide) ?_
      exact li_iret dX8_readPerson_20 rfl (li_nz (Or.inl rfl)) ⟨⟨_, rfl, Or.inl rfl⟩, hf⟩
set_option maxRecDepth 100000 in
set_option maxHeartbeats 4000000 in
theorem k_X8_readTwo {l : Launch} {Z : li_Z} (d : Nat) (hd : 3 ≤ d) (p1 : Int32) (M0 : li_M) : li_Met l Z YX8_readTwo d [.ref (Z.2.2 5), .ref (Z.2.2 1), .int p1] M0 (li_SZ (fun i => i = 1 ∨ i = 8 ∨ i = 9) M0) := by
  refine li_enter (by decide +kernel) (Nat.le_of_ble_eq_true rfl) ?_
  show li_T l Z YX8_readTwo d 0 [(0, .ref (Z.2.2 5)), (1, .ref (Z.2.2 1)), (2, .int p1)] [] M0 _
  have hf : li_fr (fun i => i = 1 ∨ i = 8 ∨ i = 9) M0 M0 := li_fr_refl
  refine li_aload_n 1 dX8_readTwo_0 rfl ?_
  refine li_bipush 97 dX8_readTwo_1 (by decide) ?_
  refine li_aload_n 0 dX8_readTwo_3 rfl ?_
  refine li_geti (k := 0) (N := 9) (T := TX8) (C0 := RX8) dX8_readTwo_4 (by decide) sh_5 rfl rfl (by decide) li_in8 w_177 ?_
  refine li_top (fun x1 ex1 => ?_)
  refine li_callV (n := 2) (As := [.int 97, .int x1]) dX8_readTwo_7 (k_X7_takeOneOf (d - 1) (by omega) 97 x1 M0) (by omega) (Nat.le_of_ble_eq_true rfl) w_707 w_679 w_680 w_105 w_681 (by decide +kernel) rfl (by decide) sh_1 rfl rfl (Nat.le_of_ble_eq_true rfl) (fun r M3 h4 => ?_)
  obtain ⟨⟨x2, rfl⟩, h4⟩ := h4
  have hf := li_fr_trans hf h4 (fun i (h : i = 1) => (show i = 1 ∨ i = 8 ∨ i = 9 by omega))
  refine li_istore_n [(3, .int x2), (0, .ref (Z.2.2 5)), (1, .ref (Z.2.2 1)), (2, .int p1)] dX8_readTwo_10 (by decide) rfl ?_
  refine li_iload_n 0 dX8_readTwo_11 rfl ?_
  refine li_if_ge 17 dX8_readTwo_12 (by decide) (fun c5 => ?_) (fun c5 => ?_)
  · refine li_aload_n 2 dX8_readTwo_17 rfl ?_
    refine li_bipush 97 dX8_readTwo_18 (by decide) ?_
    refine li_aload_n 1 dX8_readTwo_20 rfl ?_
    refine li_geti (k := 0) (N := 9) (T := TX8) (C0 := RX8) dX8_readTwo_21 (by decide) sh_5 rfl rfl (by decide) li_in8 w_177 ?_
    refine li_top (fun x6 ex6 => ?_)
    refine li_callV (n := 2) (As := [.int 97, .int x6]) dX8_readTwo_24 (k_X7_takeOneOf (d - 1) (by omega) 97 x6 M3) (by omega) (Nat.le_of_ble_eq_true rfl) w_707 w_679 w_680 w_105 w_681 (by decide +kernel) rfl (by decide) sh_1 rfl rfl (Nat.le_of_ble_eq_true rfl) (fun r M8 h9 => ?_)
    obtain ⟨⟨x7, rfl⟩, h9⟩ := h9
    have hf := li_fr_trans hf h9 (fun i (h : i = 1) => (show i = 1 ∨ i = 8 ∨ i = 9 by omega))
    refine li_istore [(4, .int x7), (3, .int x2), (0, .ref (Z.2.2 5)), (1, .ref (Z.2.2 1)), (2, .int p1)] dX8_readTwo_27 (by decide) rfl ?_
    refine li_iload 0 dX8_readTwo_29 rfl ?_
    refine li_if_lt 40 dX8_readTwo_31 (by decide) (fun c10 => ?_) (fun c10 => ?_)
    · refine li_aload_n 3 dX8_readTwo_40 rfl ?_
      refine li_dup dX8_readTwo_41 rfl ?_
      refine li_geti (k := 2) (N := 3) (T := TX7) (C0 := RX7) dX8_readTwo_42 (by decide) sh_1 rfl rfl (by decide) li_in7 w_146 ?_
      refine li_top (fun x11 ex11 => ?_)
      refine li_iload 0 dX8_readTwo_45 rfl ?_
      refine li_if_ge 54 dX8_readTwo_47 (by decide) (fun c12 => ?_) (fun c12 => ?_)
      · refine li_iconst 1 dX8_readTwo_54 (by decide) ?_
        refine li_isub dX8_readTwo_55 ?_
        refine li_top (fun x13 ex13 => ?_)
        refine li_puti (k := 2) (N := 3) (T := TX7) (C0 := RX7) dX8_readTwo_56 (by decide) sh_1 rfl rfl (by decide) li_in7 tyX7_ok nmX7 rfl rfl rfl rfl w_146 ?_
        refine li_nm (fun M14 eM14 => ?_)
        have hf := li_fr_ui hf (show 1 = 1 ∨ 1 = 8 ∨ 1 = 9 by omega) eM14
        refine li_iconst 0 dX8_readTwo_59 (by decide) ?_
        exact li_iret dX8_readTwo_60 rfl (li_nz (Or.inl rfl)) ⟨⟨_, rfl, Or.inl rfl⟩, hf⟩
      · refine li_iconst 0 dX8_readTwo_50 (by decide) ?_
        refine li_goto 55 dX8_readTwo_51 (by decide) ?_
        refine li_isub dX8_readTwo_55 ?_
        refine li_top (fun x15 ex15 => ?_)
        refine li_puti (k := 2) (N := 3) (T := TX7) (C0 := RX7) dX8_readTwo_56 (by decide) sh_1 rfl rfl (by decide) li_in7 tyX7_ok nmX7 rfl rfl rfl rfl w_146 ?_
        refine li_nm (fun M16 eM16 => ?_)
        have hf := li_fr_ui hf (show 1 = 1 ∨ 1 = 8 ∨ 1 = 9 by omega) eM16
        refine li_iconst 0 dX8_readTwo_59 (by decide) ?_
        exact li_iret dX8_readTwo_60 rfl (li_nz (Or.inl rfl)) ⟨⟨_, rfl, Or.inl rfl⟩, hf⟩
    · refine li_iload 0 dX8_readTwo_34 rfl ?_
      refine li_iload_n 1 dX8_readTwo_36 rfl ?_
      refine li_icmp_ne 61 dX8_readTwo_37 (by decide) (fun c17 => ?_) (fun c17 => ?_)
      · refine li_aload_n 2 dX8_readTwo_61 rfl ?_
        refine li_getr (k := 4) (N := 9) (T := TX8) (C0 := RX8) dX8_readTwo_62 (by decide) sh_5 rfl rfl (by decide) (by decide) li_in8 w_191 ?_
        refine li_iload_n 4 dX8_readTwo_65 rfl ?_
        refine li_iload_n 1 dX8_readTwo_66 rfl ?_
        refine li_callN (n := 3) (As := [.ref (Z.2.2 8), .int p1, .int x2]) dX8_readTwo_67 (k_X11_put (d - 1) (by omega) (by decide) sh_8 (by decide) p1 x2 M8) (by omega) (Nat.le_of_ble_eq_true rfl) nw_13 w_542 w_104 w_543 (by decide +kernel) rfl rfl (Nat.le_of_ble_eq_true rfl) (fun r M19 h20 => ?_)
        obtain ⟨rfl, h20⟩ := h20
        have hf := li_fr_trans hf h20 (fun i (h : i = 8) => (show i = 1 ∨ i = 8 ∨ i = 9 by omega))
        refine li_aload_n 2 dX8_readTwo_70 rfl ?_
        refine li_getr (k := 5) (N := 9) (T := TX8) (C0 := RX8) dX8_readTwo_71 (by decide) sh_5 rfl rfl (by decide) (by decide) li_in8 w_194 ?_
        refine li_iload_n 4 dX8_readTwo_74 rfl ?_
        refine li_iload 0 dX8_readTwo_75 rfl ?_
        refine li_callN (n := 3) (As := [.ref (Z.2.2 9), .int p1, .int x7]) dX8_readTwo_77 (k_X11_put (d - 1) (by omega) (by decide) sh_9 (by decide) p1 x7 M19) (by omega) (Nat.le_of_ble_eq_true rfl) nw_13 w_542 w_104 w_543 (by decide +kernel) rfl rfl (Nat.le_of_ble_eq_true rfl) (fun r M22 h23 => ?_)
        obtain ⟨rfl, h23⟩ := h23
        have hf := li_fr_trans hf h23 (fun i (h : i = 9) => (show i = 1 ∨ i = 8 ∨ i = 9 by omega))
        refine li_iconst 1 dX8_readTwo_80 (by decide) ?_
        exact li_iret dX8_readTwo_81 rfl (li_nz (Or.inr rfl)) ⟨⟨_, rfl, Or.inr rfl⟩, hf⟩
      · refine li_aload_n 3 dX8_readTwo_40 rfl ?_
        refine li_dup dX8_readTwo_41 rfl ?_
        refine li_geti (k := 2) (N := 3) (T := TX7) (C0 := RX7) dX8_readTwo_42 (by decide) sh_1 rfl rfl (by decide) li_in7 w_146 ?_
        refine li_top (fun x24 ex24 => ?_)
        refine li_iload 0 dX8_readTwo_45 rfl ?_
        refine li_if_ge 54 dX8_readTwo_47 (by decide) (fun c25 => ?_) (fun c25 => ?_)
        · refine li_iconst 1 dX8_readTwo_54 (by decide) ?_
          refine li_isub dX8_readTwo_55 ?_
          refine li_top (fun x26 ex26 => ?_)
          refine li_puti (k := 2) (N := 3) (T := TX7) (C0 := RX7) dX8_readTwo_56 (by decide) sh_1 rfl rfl (by decide) li_in7 tyX7_ok nmX7 rfl rfl rfl rfl w_146 ?_
          refine li_nm (fun M27 eM27 => ?_)
          have hf := li_fr_ui hf (show 1 = 1 ∨ 1 = 8 ∨ 1 = 9 by omega) eM27
          refine li_iconst 0 dX8_readTwo_59 (by decide) ?_
          exact li_iret dX8_readTwo_60 rfl (li_nz (Or.inl rfl)) ⟨⟨_, rfl, Or.inl rfl⟩, hf⟩
        · refine li_iconst 0 dX8_readTwo_50 (by decide) ?_
          refine li_goto 55 dX8_readTwo_51 (by decide) ?_
          refine li_isub dX8_readTwo_55 ?_
          refine li_top (fun x28 ex28 => ?_)
          refine li_puti (k := 2) (N := 3) (T := TX7) (C0 := RX7) dX8_readTwo_56 (by decide) sh_1 rfl rfl (by decide) li_in7 tyX7_ok nmX7 rfl rfl rfl rfl w_146 ?_
          refine li_nm (fun M29 eM29 => ?_)
          have hf := li_fr_ui hf (show 1 = 1 ∨ 1 = 8 ∨ 1 = 9 by omega) eM29
          refine li_iconst 0 dX8_readTwo_59 (by decide) ?_
          exact li_iret dX8_readTwo_60 rfl (li_nz (Or.inl rfl)) ⟨⟨_, rfl, Or.inl rfl⟩, hf⟩
  · refine li_iconst 0 dX8_readTwo_15 (by decide) ?_
    exact li_iret dX8_readTwo_16 rfl (li_nz (Or.inl rfl)) ⟨⟨_, rfl, Or.inl rfl⟩, hf⟩
set_option maxRecDepth 100000 in
set_option maxHeartbeats 4000000 in
theorem k_X8_readSeconds {l : Launch} {Z : li_Z} (d : Nat) (hd : 3 ≤ d) (p1 : Int32) (M0 : li_M) : li_Met l Z YX8_readSeconds d [.ref (Z.2.2 5), .ref (Z.2.2 1), .int p1] M0 (li_SZ (fun i => i = 1 ∨ i = 10) M0) := by
  refine li_enter (by decide +kernel) (Nat.le_of_ble_eq_true rfl) ?_
  show li_T l Z YX8_readSeconds d 0 [(0, .ref (Z.2.2 5)), (1, .ref (Z.2.2 1)), (2, .int p1)] [] M0 _
  have hf : li_fr (fun i => i = 1 ∨ i = 10) M0 M0 := li_fr_refl
  refine li_aload_n 1 dX8_readSeconds_0 rfl ?_
  refine li_iconst 2 dX8_readSeconds_1 (by decide) ?_
  refine li_callV (n := 1) (As := [.int 2]) dX8_readSeconds_2 (k_X7_takeNumber (d - 1) (by omega) 2 M0) (by omega) (Nat.le_of_ble_eq_true rfl) w_696 w_655 w_656 w_105 w_657 (by decide +kernel) rfl (by decide) sh_1 rfl rfl (Nat.le_of_ble_eq_true rfl) (fun r M2 h3 => ?_)
  obtain ⟨⟨x1, rfl⟩, h3⟩ := h3
  have hf := li_fr_trans hf h3 (fun i (h : i = 1) => (show i = 1 ∨ i = 10 by omega))
  refine li_istore_n [(3, .int x1), (0, .ref (Z.2.2 5)), (1, .ref (Z.2.2 1)), (2, .int p1)] dX8_readSeconds_5 (by decide) rfl ?_
  refine li_iload_n 0 dX8_readSeconds_6 rfl ?_
  have J20 : ∀  (M5 : li_M), li_fr (fun i => i = 1 ∨ i = 10) M0 M5 → li_T l Z YX8_readSeconds d 20 [(3, .int x1), (0, .ref (Z.2.2 5)), (1, .ref (Z.2.2 1)), (2, .int p1)] [] M5 (li_SZ (fun i => i = 1 ∨ i = 10) M0) := by
    intro  M5 hf
    refine li_aload_n 1 dX8_readSeconds_20 rfl ?_
    refine li_getr (k := 6) (N := 9) (T := TX8) (C0 := RX8) dX8_readSeconds_21 (by decide) sh_5 rfl rfl (by decide) (by decide) li_in8 w_197 ?_
    refine li_iload_n 3 dX8_readSeconds_24 rfl ?_
    refine li_iload_n 0 dX8_readSeconds_25 rfl ?_
    refine li_callN (n := 3) (As := [.ref (Z.2.2 10), .int p1, .int x1]) dX8_readSeconds_26 (k_X11_put (d - 1) (by omega) (by decide) sh_10 (by decide) p1 x1 M5) (by omega) (Nat.le_of_ble_eq_true rfl) nw_13 w_542 w_104 w_543 (by decide +kernel) rfl rfl (Nat.le_of_ble_eq_true rfl) (fun r M7 h8 => ?_)
    obtain ⟨rfl, h8⟩ := h8
    have hf := li_fr_trans hf h8 (fun i (h : i = 10) => (show i = 1 ∨ i = 10 by omega))
    refine li_iload_n 0 dX8_readSeconds_29 rfl ?_
    refine li_if_le 46 dX8_readSeconds_30 (by decide) (fun c9 => ?_) (fun c9 => ?_)
    · refine li_iconst 0 dX8_readSeconds_46 (by decide) ?_
      exact li_iret dX8_readSeconds_47 rfl (li_nz (Or.inl rfl)) ⟨⟨_, rfl, Or.inl rfl⟩, hf⟩
    · refine li_aload_n 2 dX8_readSeconds_33 rfl ?_
      refine li_bipush 45 dX8_readSeconds_34 (by decide) ?_
      refine li_callV (n := 1) (As := [.int 45]) dX8_readSeconds_36 (k_X7_skip (d - 1) (by omega) 45 M7) (by omega) (Nat.le_of_ble_eq_true rfl) w_697 w_585 w_586 w_105 w_587 (by decide +kernel) rfl (by decide) sh_1 rfl rfl (Nat.le_of_ble_eq_true rfl) (fun r M11 h12 => ?_)
      obtain ⟨⟨x10, rfl, bx10⟩, h12⟩ := h12
      have hf := li_fr_trans hf h12 (fun i (h : i = 1) => (show i = 1 ∨ i = 10 by omega))
      refine li_if_eq 46 dX8_readSeconds_39 (by decide) (fun c13 => ?_) (fun c13 => ?_)
      · refine li_iconst 0 dX8_readSeconds_46 (by decide) ?_
        exact li_iret dX8_readSeconds_47 rfl (li_nz (Or.inl rfl)) ⟨⟨_, rfl, Or.inl rfl⟩, hf⟩
      · refine li_iconst 1 dX8_readSeconds_42 (by decide) ?_
        refine li_goto 47 dX8_readSeconds_43 (by decide) ?_
        exact li_iret dX8_readSeconds_47 rfl (li_nz (Or.inr rfl)) ⟨⟨_, rfl, Or.inr rfl⟩, hf⟩
  refine li_if_ne 20 dX8_readSeconds_7 (by decide) (fun c4 => ?_) (fun c4 => ?_)
  · refine li_pick [0, 1, 2, 3] [(3, .int x1), (0, .ref (Z.2.2 5)), (1, .ref (Z.2.2 1)), (2, .int p1)] rfl ?_
    exact J20  M2 hf
  · refine li_aload_n 2 dX8_readSeconds_10 rfl ?_
    refine li_dup dX8_readSeconds_11 rfl ?_
    refine li_geti (k := 2) (N := 3) (T := TX7) (C0 := RX7) dX8_readSeconds_12 (by decide) sh_1 rfl rfl (by decide) li_in7 w_146 ?_
    refine li_top (fun x14 ex14 => ?_)
    refine li_iconst 1 dX8_readSeconds_15 (by decide) ?_
    refine li_isub dX8_readSeconds_16 ?_
    refine li_top (fun x15 ex15 => ?_)
    refine li_puti (k := 2) (N := 3) (T := TX7) (C0 := RX7) dX8_readSeconds_17 (by decide) sh_1 rfl rfl (by decide) li_in7 tyX7_ok nmX7 rfl rfl rfl rfl w_146 ?_
    refine li_nm (fun M16 eM16 => ?_)
    have hf := li_fr_ui hf (show 1 = 1 ∨ 1 = 10 by omega) eM16
    refine li_pick [0, 1, 2, 3] [(3, .int x1), (0, .ref (Z.2.2 5)), (1, .ref (Z.2.2 1)), (2, .int p1)] rfl ?_
    exact J20  M16 hf
set_option maxRecDepth 100000 in
set_option maxHeartbeats 4000000 in
theorem k_X8_readDayAndWorth {l : Launch} {Z : li_Z} (d : Nat) (hd : 3 ≤ d) (p1 : Int32) (M0 : li_M) : li_Met l Z YX8_readDayAndWorth d [.ref (Z.2.2 5), .ref (Z.2.2 1), .int p1] M0 (li_SZ (fun i => i = 1 ∨ i = 11 ∨ i = 12) M0) := by
  refine li_enter (by decide +kernel) (Nat.le_of_ble_eq_true rfl) ?_
  show li_T l Z YX8_readDayAndWorth d 0 [(0, .ref (Z.2.2 5)), (1, .ref (Z.2.2 1)), (2, .int p1)] [] M0 _
  have hf : li_fr (fun i => i = 1 ∨ i = 11 ∨ i = 12) M0 M0 := li_fr_refl
  refine li_aload_n 1 dX8_readDayAndWorth_0 rfl ?_
  refine li_iconst 2 dX8_readDayAndWorth_1 (by decide) ?_
  refine li_callV (n := 1) (As := [.int 2]) dX8_readDayAndWorth_2 (k_X7_takeNumber (d - 1) (by omega) 2 M0) (by omega) (Nat.le_of_ble_eq_true rfl) w_696 w_655 w_656 w_105 w_657 (by decide +kernel) rfl (by decide) sh_1 rfl rfl (Nat.le_of_ble_eq_true rfl) (fun r M2 h3 => ?_)
  obtain ⟨⟨x1, rfl⟩, h3⟩ := h3
  have hf := li_fr_trans hf h3 (fun i (h : i = 1) => (show i = 1 ∨ i = 11 ∨ i = 12 by omega))
  refine li_istore_n [(3, .int x1), (0, .ref (Z.2.2 5)), (1, .ref (Z.2.2 1)), (2, .int p1)] dX8_readDayAndWorth_5 (by decide) rfl ?_
  refine li_iload_n 0 dX8_readDayAndWorth_6 rfl ?_
  refine li_if_lt 19 dX8_readDayAndWorth_7 (by decide) (fun c4 => ?_) (fun c4 => ?_)
  · refine li_iconst 0 dX8_readDayAndWorth_19 (by decide) ?_
    exact li_iret dX8_readDayAndWorth_20 rfl (li_nz (Or.inl rfl)) ⟨⟨_, rfl, Or.inl rfl⟩, hf⟩
  · refine li_aload_n 2 dX8_readDayAndWorth_10 rfl ?_
    refine li_bipush 61 dX8_readDayAndWorth_11 (by decide) ?_
    refine li_callV (n := 1) (As := [.int 61]) dX8_readDayAndWorth_13 (k_X7_skip (d - 1) (by omega) 61 M2) (by omega) (Nat.le_of_ble_eq_true rfl) w_697 w_585 w_586 w_105 w_587 (by decide +kernel) rfl (by decide) sh_1 rfl rfl (Nat.le_of_ble_eq_true rfl) (fun r M6 h7 => ?_)
    obtain ⟨⟨x5, rfl, bx5⟩, h7⟩ := h7
    have hf := li_fr_trans hf h7 (fun i (h : i = 1) => (show i = 1 ∨ i = 11 ∨ i = 12 by omega))
    refine li_if_ne 21 dX8_readDayAndWorth_16 (by decide) (fun c8 => ?_) (fun c8 => ?_)
    · refine li_aload_n 2 dX8_readDayAndWorth_21 rfl ?_
      refine li_iconst 2 dX8_readDayAndWorth_22 (by decide) ?_
      refine li_callV (n := 1) (As := [.int 2]) dX8_readDayAndWorth_23 (k_X7_takeNumber (d - 1) (by omega) 2 M6) (by omega) (Nat.le_of_ble_eq_true rfl) w_696 w_655 w_656 w_105 w_657 (by decide +kernel) rfl (by decide) sh_1 rfl rfl (Nat.le_of_ble_eq_true rfl) (fun r M10 h11 => ?_)
      obtain ⟨⟨x9, rfl⟩, h11⟩ := h11
      have hf := li_fr_trans hf h11 (fun i (h : i = 1) => (show i = 1 ∨ i = 11 ∨ i = 12 by omega))
      refine li_istore [(4, .int x9), (3, .int x1), (0, .ref (Z.2.2 5)), (1, .ref (Z.2.2 1)), (2, .int p1)] dX8_readDayAndWorth_26 (by decide) rfl ?_
      refine li_aload_n 2 dX8_readDayAndWorth_28 rfl ?_
      refine li_getr (k := 7) (N := 9) (T := TX8) (C0 := RX8) dX8_readDayAndWorth_29 (by decide) sh_5 rfl rfl (by decide) (by decide) li_in8 w_200 ?_
      refine li_iload_n 4 dX8_readDayAndWorth_32 rfl ?_
      refine li_iload_n 1 dX8_readDayAndWorth_33 rfl ?_
      refine li_callN (n := 3) (As := [.ref (Z.2.2 11), .int p1, .int x1]) dX8_readDayAndWorth_34 (k_X11_put (d - 1) (by omega) (by decide) sh_11 (by decide) p1 x1 M10) (by omega) (Nat.le_of_ble_eq_true rfl) nw_13 w_542 w_104 w_543 (by decide +kernel) rfl rfl (Nat.le_of_ble_eq_true rfl) (fun r M13 h14 => ?_)
      obtain ⟨rfl, h14⟩ := h14
      have hf := li_fr_trans hf h14 (fun i (h : i = 11) => (show i = 1 ∨ i = 11 ∨ i = 12 by omega))
      refine li_aload_n 2 dX8_readDayAndWorth_37 rfl ?_
      refine li_getr (k := 8) (N := 9) (T := TX8) (C0 := RX8) dX8_readDayAndWorth_38 (by decide) sh_5 rfl rfl (by decide) (by decide) li_in8 w_204 ?_
      refine li_iload_n 4 dX8_readDayAndWorth_41 rfl ?_
      refine li_iload 0 dX8_readDayAndWorth_42 rfl ?_
      refine li_callN (n := 3) (As := [.ref (Z.2.2 12), .int p1, .int x9]) dX8_readDayAndWorth_44 (k_X11_put (d - 1) (by omega) (by decide) sh_12 (by decide) p1 x9 M13) (by omega) (Nat.le_of_ble_eq_true rfl) nw_13 w_542 w_104 w_543 (by decide +kernel) rfl rfl (Nat.le_of_ble_eq_true rfl) (fun r M16 h17 => ?_)
      obtain ⟨rfl, h17⟩ := h17
      have hf := li_fr_trans hf h17 (fun i (h : i = 12) => (show i = 1 ∨ i = 11 ∨ i = 12 by omega))
      refine li_iload 0 dX8_readDayAndWorth_47 rfl ?_
      refine li_if_lt 56 dX8_readDayAndWorth_49 (by decide) (fun c18 => ?_) (fun c18 => ?_)
      · refine li_iconst 0 dX8_readDayAndWorth_56 (by decide) ?_
        exact li_iret dX8_readDayAndWorth_57 rfl (li_nz (Or.inl rfl)) ⟨⟨_, rfl, Or.inl rfl⟩, hf⟩
      · refine li_iconst 1 dX8_readDayAndWorth_52 (by decide) ?_
        refine li_goto 57 dX8_readDayAndWorth_53 (by decide) ?_
        exact li_iret dX8_readDayAndWorth_57 rfl (li_nz (Or.inr rfl)) ⟨⟨_, rfl, Or.inr rfl⟩, hf⟩
    · refine li_iconst 0 dX8_readDayAndWorth_19 (by decide) ?_
      exact li_iret dX8_readDayAndWorth_20 rfl (li_nz (Or.inl rfl)) ⟨⟨_, rfl, Or.inl rfl⟩, hf⟩
end
section
theorem w_19 : (Jvm.Cond.selects "ClockForTalk$Ledger" ({ cls := "ClockForTalk$Ledger", name := "addTenths", desc := "()V" } : Jvm.MethodName) ({ cls := "ClockForTalk$Ledger", name := "addTenths", desc := "()V" } : Jvm.MethodName)) ∈ li_ws := li_mem 19 (by decide +kernel) (by decide +kernel)
theorem w_20 : (Jvm.Cond.selects "ClockForTalk$Ledger" ({ cls := "ClockForTalk$Ledger", name := "settle", desc := "(I)V" } : Jvm.MethodName) ({ cls := "ClockForTalk$Ledger", name := "settle", desc := "(I)V" } : Jvm.MethodName)) ∈ li_ws := li_mem 20 (by decide +kernel) (by decide +kernel)
theorem w_21 : (Jvm.Cond.selects "ClockForTalk$Ledger" ({ cls := "ClockForTalk$Ledger", name := "beginYear", desc := "(LClockForTalk$Town;)V" } : Jvm.MethodName) ({ cls := "ClockForTalk$Ledger", name := "beginYear", desc := "(LClockForTalk$Town;)V" } : Jvm.MethodName)) ∈ li_ws := li_mem 21 (by decide +kernel) (by decide +kernel)
theorem w_43 : (Jvm.Cond.selects "ClockForTalk$Ledger" ({ cls := "ClockForTalk$Ledger", name := "isStruckBy", desc := "(II)Z" } : Jvm.MethodName) ({ cls := "ClockForTalk$Ledger", name := "isStruckBy", desc := "(II)Z" } : Jvm.MethodName)) ∈ li_ws := li_mem 43 (by decide +kernel) (by decide +kernel)
theorem w_108 : (Jvm.Cond.initialized "ClockForTalk$Ledger") ∈ li_ws := li_mem 108 (by decide +kernel) (by decide +kernel)
theorem w_127 : (Jvm.Cond.initialized "java/lang/Integer") ∈ li_ws := li_mem 127 (by decide +kernel) (by decide +kernel)
theorem w_179 : (Jvm.Cond.fieldLink "ClockForTalk$Ledger" (53 : Nat) "ClockForTalk$Town" "persons" "I") ∈ li_ws := li_mem 179 (by decide +kernel) (by decide +kernel)
theorem w_189 : (Jvm.Cond.fieldLink "ClockForTalk$Ledger" (58 : Nat) "ClockForTalk$Town" "yearly" "[I") ∈ li_ws := li_mem 189 (by decide +kernel) (by decide +kernel)
theorem w_201 : (Jvm.Cond.fieldLink "ClockForTalk$Ledger" (69 : Nat) "ClockForTalk$Town" "by" "[I") ∈ li_ws := li_mem 201 (by decide +kernel) (by decide +kernel)
theorem w_232 : (Jvm.Cond.fieldLink "ClockForTalk$Ledger" (34 : Nat) "ClockForTalk$Ledger" "day" "I") ∈ li_ws := li_mem 232 (by decide +kernel) (by decide +kernel)
theorem w_235 : (Jvm.Cond.fieldLink "ClockForTalk$Ledger" (38 : Nat) "ClockForTalk$Ledger" "said" "I") ∈ li_ws := li_mem 235 (by decide +kernel) (by decide +kernel)
theorem w_238 : (Jvm.Cond.fieldLink "ClockForTalk$Ledger" (41 : Nat) "ClockForTalk$Ledger" "loans" "I") ∈ li_ws := li_mem 238 (by decide +kernel) (by decide +kernel)
theorem w_240 : (Jvm.Cond.fieldLink "ClockForTalk$Ledger" (44 : Nat) "ClockForTalk$Ledger" "ended" "I") ∈ li_ws := li_mem 240 (by decide +kernel) (by decide +kernel)
theorem w_242 : (Jvm.Cond.fieldLink "ClockForTalk$Ledger" (9 : Nat) "ClockForTalk$Ledger" "clocks" "[I") ∈ li_ws := li_mem 242 (by decide +kernel) (by decide +kernel)
theorem w_247 : (Jvm.Cond.fieldLink "ClockForTalk$Ledger" (15 : Nat) "ClockForTalk$Ledger" "spent" "[I") ∈ li_ws := li_mem 247 (by decide +kernel) (by decide +kernel)
theorem w_249 : (Jvm.Cond.fieldLink "ClockForTalk$Ledger" (18 : Nat) "ClockForTalk$Ledger" "losses" "[J") ∈ li_ws := li_mem 249 (by decide +kernel) (by decide +kernel)
theorem w_251 : (Jvm.Cond.fieldLink "ClockForTalk$Ledger" (22 : Nat) "ClockForTalk$Ledger" "lenders" "[I") ∈ li_ws := li_mem 251 (by decide +kernel) (by decide +kernel)
theorem w_253 : (Jvm.Cond.fieldLink "ClockForTalk$Ledger" (25 : Nat) "ClockForTalk$Ledger" "debtors" "[I") ∈ li_ws := li_mem 253 (by decide +kernel) (by decide +kernel)
theorem w_255 : (Jvm.Cond.fieldLink "ClockForTalk$Ledger" (28 : Nat) "ClockForTalk$Ledger" "due" "[I") ∈ li_ws := li_mem 255 (by decide +kernel) (by decide +kernel)
theorem w_257 : (Jvm.Cond.fieldLink "ClockForTalk$Ledger" (31 : Nat) "ClockForTalk$Ledger" "owed" "[J") ∈ li_ws := li_mem 257 (by decide +kernel) (by decide +kernel)
theorem w_842 : (Jvm.Cond.static ({ cls := "java/lang/Integer", name := "bitCount", desc := "(I)I" } : Jvm.MethodName)) ∈ li_ws := li_mem 842 (by decide +kernel) (by decide +kernel)
theorem w_843 : (Jvm.Cond.code ({ cls := "java/lang/Integer", name := "bitCount", desc := "(I)I" } : Jvm.MethodName) prog_19_method_49_code (1 : Nat) (Option.some Jvm.ClassFile.FieldType.int)) ∈ li_ws := li_mem 843 (by decide +kernel) (by decide +kernel)
theorem w_877 : (Jvm.Cond.static ({ cls := "ClockForTalk", name := "holds", desc := "(II)Z" } : Jvm.MethodName)) ∈ li_ws := li_mem 877 (by decide +kernel) (by decide +kernel)
theorem w_878 : (Jvm.Cond.code ({ cls := "ClockForTalk", name := "holds", desc := "(II)Z" } : Jvm.MethodName) prog_1_method_63_code (2 : Nat) (Option.some Jvm.ClassFile.FieldType.boolean)) ∈ li_ws := li_mem 878 (by decide +kernel) (by decide +kernel)
theorem w_910 : (Jvm.Cond.instanceMethod ({ cls := "ClockForTalk$Ledger", name := "carry", desc := "(III)V" } : Jvm.MethodName)) ∈ li_ws := li_mem 910 (by decide +kernel) (by decide +kernel)
theorem w_911 : (Jvm.Cond.selects "ClockForTalk$Ledger" ({ cls := "ClockForTalk$Ledger", name := "carry", desc := "(III)V" } : Jvm.MethodName) ({ cls := "ClockForTalk$Ledger", name := "carry", desc := "(III)V" } : Jvm.MethodName)) ∈ li_ws := li_mem 911 (by decide +kernel) (by decide +kernel)
theorem w_912 : (Jvm.Cond.code ({ cls := "ClockForTalk$Ledger", name := "carry", desc := "(III)V" } : Jvm.MethodName) prog_6_method_7_code (4 : Nat) (Option.none : Option Jvm.ClassFile.FieldType)) ∈ li_ws := li_mem 912 (by decide +kernel) (by decide +kernel)
theorem w_913 : (Jvm.Cond.methodLink "ClockForTalk$Ledger" (72 : Nat) ({ cls := "java/lang/Math", name := "min", desc := "(II)I" } : Jvm.MethodName)) ∈ li_ws := li_mem 913 (by decide +kernel) (by decide +kernel)
theorem w_923 : (Jvm.Cond.static ({ cls := "ClockForTalk", name := "putWord", desc := "([JIJ)V" } : Jvm.MethodName)) ∈ li_ws := li_mem 923 (by decide +kernel) (by decide +kernel)
theorem w_924 : (Jvm.Cond.code ({ cls := "ClockForTalk", name := "putWord", desc := "([JIJ)V" } : Jvm.MethodName) prog_1_method_60_code (4 : Nat) (Option.none : Option Jvm.ClassFile.FieldType)) ∈ li_ws := li_mem 924 (by decide +kernel) (by decide +kernel)
theorem w_933 : (Jvm.Cond.methodLink "ClockForTalk$Ledger" (102 : Nat) ({ cls := "java/lang/Integer", name := "bitCount", desc := "(I)I" } : Jvm.MethodName)) ∈ li_ws := li_mem 933 (by decide +kernel) (by decide +kernel)
theorem w_939 : (Jvm.Cond.static ({ cls := "ClockForTalk", name := "wordAt", desc := "([JI)J" } : Jvm.MethodName)) ∈ li_ws := li_mem 939 (by decide +kernel) (by decide +kernel)
theorem w_940 : (Jvm.Cond.code ({ cls := "ClockForTalk", name := "wordAt", desc := "([JI)J" } : Jvm.MethodName) prog_1_method_59_code (2 : Nat) (Option.some Jvm.ClassFile.FieldType.long)) ∈ li_ws := li_mem 940 (by decide +kernel) (by decide +kernel)
theorem w_949 : (Jvm.Cond.methodLink "ClockForTalk$Ledger" (108 : Nat) ({ cls := "ClockForTalk$Ledger", name := "addTenths", desc := "()V" } : Jvm.MethodName)) ∈ li_ws := li_mem 949 (by decide +kernel) (by decide +kernel)
theorem w_951 : (Jvm.Cond.instanceMethod ({ cls := "ClockForTalk$Ledger", name := "addTenths", desc := "()V" } : Jvm.MethodName)) ∈ li_ws := li_mem 951 (by decide +kernel) (by decide +kernel)
theorem w_952 : (Jvm.Cond.code ({ cls := "ClockForTalk$Ledger", name := "addTenths", desc := "()V" } : Jvm.MethodName) prog_6_method_17_code (2 : Nat) (Option.none : Option Jvm.ClassFile.FieldType)) ∈ li_ws := li_mem 952 (by decide +kernel) (by decide +kernel)
theorem w_953 : (Jvm.Cond.methodLink "ClockForTalk$Ledger" (90 : Nat) ({ cls := "ClockForTalk$Ledger", name := "isOpen", desc := "(I)Z" } : Jvm.MethodName)) ∈ li_ws := li_mem 953 (by decide +kernel) (by decide +kernel)
theorem w_954 : (Jvm.Cond.instanceMethod ({ cls := "ClockForTalk$Ledger", name := "isOpen", desc := "(I)Z" } : Jvm.MethodName)) ∈ li_ws := li_mem 954 (by decide +kernel) (by decide +kernel)
theorem w_955 : (Jvm.Cond.selects "ClockForTalk$Ledger" ({ cls := "ClockForTalk$Ledger", name := "isOpen", desc := "(I)Z" } : Jvm.MethodName) ({ cls := "ClockForTalk$Ledger", name := "isOpen", desc := "(I)Z" } : Jvm.MethodName)) ∈ li_ws := li_mem 955 (by decide +kernel) (by decide +kernel)
theorem w_956 : (Jvm.Cond.code ({ cls := "ClockForTalk$Ledger", name := "isOpen", desc := "(I)Z" } : Jvm.MethodName) prog_6_method_9_code (2 : Nat) (Option.some Jvm.ClassFile.FieldType.boolean)) ∈ li_ws := li_mem 956 (by decide +kernel) (by decide +kernel)
theorem w_958 : (Jvm.Cond.constantLong "ClockForTalk$Ledger" (119 : Nat) (10 : Int64)) ∈ li_ws := li_mem 958 (by decide +kernel) (by decide +kernel)
theorem w_959 : (Jvm.Cond.methodLink "ClockForTalk$Ledger" (111 : Nat) ({ cls := "ClockForTalk$Ledger", name := "settle", desc := "(I)V" } : Jvm.MethodName)) ∈ li_ws := li_mem 959 (by decide +kernel) (by decide +kernel)
theorem w_961 : (Jvm.Cond.instanceMethod ({ cls := "ClockForTalk$Ledger", name := "settle", desc := "(I)V" } : Jvm.MethodName)) ∈ li_ws := li_mem 961 (by decide +kernel) (by decide +kernel)
theorem w_962 : (Jvm.Cond.code ({ cls := "ClockForTalk$Ledger", name := "settle", desc := "(I)V" } : Jvm.MethodName) prog_6_method_18_code (5 : Nat) (Option.none : Option Jvm.ClassFile.FieldType)) ∈ li_ws := li_mem 962 (by decide +kernel) (by decide +kernel)
theorem w_963 : (Jvm.Cond.methodLink "ClockForTalk$Ledger" (121 : Nat) ({ cls := "java/lang/Math", name := "min", desc := "(JJ)J" } : Jvm.MethodName)) ∈ li_ws := li_mem 963 (by decide +kernel) (by decide +kernel)
theorem w_964 : (Jvm.Cond.static ({ cls := "java/lang/Math", name := "min", desc := "(JJ)J" } : Jvm.MethodName)) ∈ li_ws := li_mem 964 (by decide +kernel) (by decide +kernel)
theorem w_965 : (Jvm.Cond.code ({ cls := "java/lang/Math", name := "min", desc := "(JJ)J" } : Jvm.MethodName) prog_20_method_70_code (4 : Nat) (Option.some Jvm.ClassFile.FieldType.long)) ∈ li_ws := li_mem 965 (by decide +kernel) (by decide +kernel)
theorem w_966 : (Jvm.Cond.methodLink "ClockForTalk$Ledger" (124 : Nat) ({ cls := "ClockForTalk$Ledger", name := "carry", desc := "(III)V" } : Jvm.MethodName)) ∈ li_ws := li_mem 966 (by decide +kernel) (by decide +kernel)
theorem w_967 : (Jvm.Cond.methodLink "ClockForTalk$Ledger" (115 : Nat) ({ cls := "ClockForTalk$Ledger", name := "beginYear", desc := "(LClockForTalk$Town;)V" } : Jvm.MethodName)) ∈ li_ws := li_mem 967 (by decide +kernel) (by decide +kernel)
theorem w_969 : (Jvm.Cond.instanceMethod ({ cls := "ClockForTalk$Ledger", name := "beginYear", desc := "(LClockForTalk$Town;)V" } : Jvm.MethodName)) ∈ li_ws := li_mem 969 (by decide +kernel) (by decide +kernel)
theorem w_970 : (Jvm.Cond.code ({ cls := "ClockForTalk$Ledger", name := "beginYear", desc := "(LClockForTalk$Town;)V" } : Jvm.MethodName) prog_6_method_19_code (3 : Nat) (Option.none : Option Jvm.ClassFile.FieldType)) ∈ li_ws := li_mem 970 (by decide +kernel) (by decide +kernel)
theorem w_1287 : (Jvm.Cond.methodLink "ClockForTalk$Ledger" (128 : Nat) ({ cls := "ClockForTalk$Ledger", name := "owedBy", desc := "(I)J" } : Jvm.MethodName)) ∈ li_ws := li_mem 1287 (by decide +kernel) (by decide +kernel)
theorem w_1288 : (Jvm.Cond.instanceMethod ({ cls := "ClockForTalk$Ledger", name := "owedBy", desc := "(I)J" } : Jvm.MethodName)) ∈ li_ws := li_mem 1288 (by decide +kernel) (by decide +kernel)
theorem w_1289 : (Jvm.Cond.selects "ClockForTalk$Ledger" ({ cls := "ClockForTalk$Ledger", name := "owedBy", desc := "(I)J" } : Jvm.MethodName) ({ cls := "ClockForTalk$Ledger", name := "owedBy", desc := "(I)J" } : Jvm.MethodName)) ∈ li_ws := li_mem 1289 (by decide +kernel) (by decide +kernel)
theorem w_1290 : (Jvm.Cond.code ({ cls := "ClockForTalk$Ledger", name := "owedBy", desc := "(I)J" } : Jvm.MethodName) prog_6_method_10_code (2 : Nat) (Option.some Jvm.ClassFile.FieldType.long)) ∈ li_ws := li_mem 1290 (by decide +kernel) (by decide +kernel)
theorem w_1291 : (Jvm.Cond.methodLink "ClockForTalk$Ledger" (86 : Nat) ({ cls := "ClockForTalk$Ledger", name := "owedByAll", desc := "(I)J" } : Jvm.MethodName)) ∈ li_ws := li_mem 1291 (by decide +kernel) (by decide +kernel)
theorem w_1292 : (Jvm.Cond.instanceMethod ({ cls := "ClockForTalk$Ledger", name := "owedByAll", desc := "(I)J" } : Jvm.MethodName)) ∈ li_ws := li_mem 1292 (by decide +kernel) (by decide +kernel)
theorem w_1293 : (Jvm.Cond.selects "ClockForTalk$Ledger" ({ cls := "ClockForTalk$Ledger", name := "owedByAll", desc := "(I)J" } : Jvm.MethodName) ({ cls := "ClockForTalk$Ledger", name := "owedByAll", desc := "(I)J" } : Jvm.MethodName)) ∈ li_ws := li_mem 1293 (by decide +kernel) (by decide +kernel)
theorem w_1294 : (Jvm.Cond.code ({ cls := "ClockForTalk$Ledger", name := "owedByAll", desc := "(I)J" } : Jvm.MethodName) prog_6_method_11_code (5 : Nat) (Option.some Jvm.ClassFile.FieldType.long)) ∈ li_ws := li_mem 1294 (by decide +kernel) (by decide +kernel)
theorem w_1295 : (Jvm.Cond.methodLink "ClockForTalk$Ledger" (131 : Nat) ({ cls := "ClockForTalk$Ledger", name := "isStruckBy", desc := "(II)Z" } : Jvm.MethodName)) ∈ li_ws := li_mem 1295 (by decide +kernel) (by decide +kernel)
theorem w_1297 : (Jvm.Cond.instanceMethod ({ cls := "ClockForTalk$Ledger", name := "isStruckBy", desc := "(II)Z" } : Jvm.MethodName)) ∈ li_ws := li_mem 1297 (by decide +kernel) (by decide +kernel)
theorem w_1298 : (Jvm.Cond.code ({ cls := "ClockForTalk$Ledger", name := "isStruckBy", desc := "(II)Z" } : Jvm.MethodName) prog_6_method_21_code (5 : Nat) (Option.some Jvm.ClassFile.FieldType.boolean)) ∈ li_ws := li_mem 1298 (by decide +kernel) (by decide +kernel)
theorem w_1299 : (Jvm.Cond.methodLink "ClockForTalk$Ledger" (98 : Nat) ({ cls := "ClockForTalk$Ledger", name := "owedToBut", desc := "(II)J" } : Jvm.MethodName)) ∈ li_ws := li_mem 1299 (by decide +kernel) (by decide +kernel)
theorem w_1300 : (Jvm.Cond.instanceMethod ({ cls := "ClockForTalk$Ledger", name := "owedToBut", desc := "(II)J" } : Jvm.MethodName)) ∈ li_ws := li_mem 1300 (by decide +kernel) (by decide +kernel)
theorem w_1301 : (Jvm.Cond.selects "ClockForTalk$Ledger" ({ cls := "ClockForTalk$Ledger", name := "owedToBut", desc := "(II)J" } : Jvm.MethodName) ({ cls := "ClockForTalk$Ledger", name := "owedToBut", desc := "(II)J" } : Jvm.MethodName)) ∈ li_ws := li_mem 1301 (by decide +kernel) (by decide +kernel)
theorem w_1302 : (Jvm.Cond.code ({ cls := "ClockForTalk$Ledger", name := "owedToBut", desc := "(II)J" } : Jvm.MethodName) prog_6_method_13_code (6 : Nat) (Option.some Jvm.ClassFile.FieldType.long)) ∈ li_ws := li_mem 1302 (by decide +kernel) (by decide +kernel)
theorem w_1303 : (Jvm.Cond.methodLink "ClockForTalk$Ledger" (134 : Nat) ({ cls := "ClockForTalk$Ledger", name := "owedTo", desc := "(I)J" } : Jvm.MethodName)) ∈ li_ws := li_mem 1303 (by decide +kernel) (by decide +kernel)
theorem w_1304 : (Jvm.Cond.instanceMethod ({ cls := "ClockForTalk$Ledger", name := "owedTo", desc := "(I)J" } : Jvm.MethodName)) ∈ li_ws := li_mem 1304 (by decide +kernel) (by decide +kernel)
theorem w_1305 : (Jvm.Cond.selects "ClockForTalk$Ledger" ({ cls := "ClockForTalk$Ledger", name := "owedTo", desc := "(I)J" } : Jvm.MethodName) ({ cls := "ClockForTalk$Ledger", name := "owedTo", desc := "(I)J" } : Jvm.MethodName)) ∈ li_ws := li_mem 1305 (by decide +kernel) (by decide +kernel)
theorem w_1306 : (Jvm.Cond.code ({ cls := "ClockForTalk$Ledger", name := "owedTo", desc := "(I)J" } : Jvm.MethodName) prog_6_method_12_code (2 : Nat) (Option.some Jvm.ClassFile.FieldType.long)) ∈ li_ws := li_mem 1306 (by decide +kernel) (by decide +kernel)
theorem dX4_welcome_0 : decode cX4_welcome 0 = .ok (.iconst 0, 1) := by decide +kernel
theorem dX4_welcome_1 : decode cX4_welcome 1 = .ok (.istore_n 3, 1) := by decide +kernel
theorem dX4_welcome_2 : decode cX4_welcome 2 = .ok (.iload_n 3, 1) := by decide +kernel
theorem dX4_welcome_3 : decode cX4_welcome 3 = .ok (.iload_n 2, 1) := by decide +kernel
theorem dX4_welcome_4 : decode cX4_welcome 4 = .ok (.if_icmp .ge 35, 3) := by decide +kernel
theorem dX4_welcome_7 : decode cX4_welcome 7 = .ok (.aload_n 1, 1) := by decide +kernel
theorem dX4_welcome_8 : decode cX4_welcome 8 = .ok (.getfield 53, 3) := by decide +kernel
theorem dX4_welcome_11 : decode cX4_welcome 11 = .ok (.iload_n 3, 1) := by decide +kernel
theorem dX4_welcome_12 : decode cX4_welcome 12 = .ok (.iadd, 1) := by decide +kernel
theorem dX4_welcome_13 : decode cX4_welcome 13 = .ok (.istore 4, 2) := by decide +kernel
theorem dX4_welcome_15 : decode cX4_welcome 15 = .ok (.aload_n 0, 1) := by decide +kernel
theorem dX4_welcome_16 : decode cX4_welcome 16 = .ok (.getfield 9, 3) := by decide +kernel
theorem dX4_welcome_19 : decode cX4_welcome 19 = .ok (.iload 4, 2) := by decide +kernel
theorem dX4_welcome_21 : decode cX4_welcome 21 = .ok (.aload_n 1, 1) := by decide +kernel
theorem dX4_welcome_22 : decode cX4_welcome 22 = .ok (.getfield 58, 3) := by decide +kernel
theorem dX4_welcome_25 : decode cX4_welcome 25 = .ok (.iload 4, 2) := by decide +kernel
theorem dX4_welcome_27 : decode cX4_welcome 27 = .ok (.invokestatic 61, 3) := by decide +kernel
theorem dX4_welcome_30 : decode cX4_welcome 30 = .ok (.invokestatic 65, 3) := by decide +kernel
theorem dX4_welcome_33 : decode cX4_welcome 33 = .ok (.iinc 3 1, 3) := by decide +kernel
theorem dX4_welcome_36 : decode cX4_welcome 36 = .ok (.goto (-34), 3) := by decide +kernel
theorem dX4_welcome_39 : decode cX4_welcome 39 = .ok (.return_, 1) := by decide +kernel
abbrev YX4_welcome : li_Y := (yX4_welcome, cX4_welcome, 5, none)
theorem dX4_allClocks_0 : decode cX4_allClocks 0 = .ok (.iconst 0, 1) := by decide +kernel
theorem dX4_allClocks_1 : decode cX4_allClocks 1 = .ok (.istore_n 2, 1) := by decide +kernel
theorem dX4_allClocks_2 : decode cX4_allClocks 2 = .ok (.iconst 0, 1) := by decide +kernel
theorem dX4_allClocks_3 : decode cX4_allClocks 3 = .ok (.istore_n 3, 1) := by decide +kernel
theorem dX4_allClocks_4 : decode cX4_allClocks 4 = .ok (.iload_n 3, 1) := by decide +kernel
theorem dX4_allClocks_5 : decode cX4_allClocks 5 = .ok (.iload_n 1, 1) := by decide +kernel
theorem dX4_allClocks_6 : decode cX4_allClocks 6 = .ok (.if_icmp .ge 20, 3) := by decide +kernel
theorem dX4_allClocks_9 : decode cX4_allClocks 9 = .ok (.iload_n 2, 1) := by decide +kernel
theorem dX4_allClocks_10 : decode cX4_allClocks 10 = .ok (.aload_n 0, 1) := by decide +kernel
theorem dX4_allClocks_11 : decode cX4_allClocks 11 = .ok (.getfield 9, 3) := by decide +kernel
theorem dX4_allClocks_14 : decode cX4_allClocks 14 = .ok (.iload_n 3, 1) := by decide +kernel
theorem dX4_allClocks_15 : decode cX4_allClocks 15 = .ok (.invokestatic 61, 3) := by decide +kernel
theorem dX4_allClocks_18 : decode cX4_allClocks 18 = .ok (.iadd, 1) := by decide +kernel
theorem dX4_allClocks_19 : decode cX4_allClocks 19 = .ok (.istore_n 2, 1) := by decide +kernel
theorem dX4_allClocks_20 : decode cX4_allClocks 20 = .ok (.iinc 3 1, 3) := by decide +kernel
theorem dX4_allClocks_23 : decode cX4_allClocks 23 = .ok (.goto (-19), 3) := by decide +kernel
theorem dX4_allClocks_26 : decode cX4_allClocks 26 = .ok (.iload_n 2, 1) := by decide +kernel
theorem dX4_allClocks_27 : decode cX4_allClocks 27 = .ok (.ireturn, 1) := by decide +kernel
abbrev YX4_allClocks : li_Y := (yX4_allClocks, cX4_allClocks, 4, (some .int))
theorem dX4_isLate_0 : decode cX4_isLate 0 = .ok (.aload_n 1, 1) := by decide +kernel
theorem dX4_isLate_1 : decode cX4_isLate 1 = .ok (.getfield 69, 3) := by decide +kernel
theorem dX4_isLate_4 : decode cX4_isLate 4 = .ok (.iload_n 2, 1) := by decide +kernel
theorem dX4_isLate_5 : decode cX4_isLate 5 = .ok (.invokestatic 61, 3) := by decide +kernel
theorem dX4_isLate_8 : decode cX4_isLate 8 = .ok (.aload_n 0, 1) := by decide +kernel
theorem dX4_isLate_9 : decode cX4_isLate 9 = .ok (.getfield 34, 3) := by decide +kernel
theorem dX4_isLate_12 : decode cX4_isLate 12 = .ok (.bipush 100, 2) := by decide +kernel
theorem dX4_isLate_14 : decode cX4_isLate 14 = .ok (.irem, 1) := by decide +kernel
theorem dX4_isLate_15 : decode cX4_isLate 15 = .ok (.if_icmp .ge 7, 3) := by decide +kernel
theorem dX4_isLate_18 : decode cX4_isLate 18 = .ok (.iconst 1, 1) := by decide +kernel
theorem dX4_isLate_19 : decode cX4_isLate 19 = .ok (.goto 4, 3) := by decide +kernel
theorem dX4_isLate_22 : decode cX4_isLate 22 = .ok (.iconst 0, 1) := by decide +kernel
theorem dX4_isLate_23 : decode cX4_isLate 23 = .ok (.ireturn, 1) := by decide +kernel
abbrev YX4_isLate : li_Y := (yX4_isLate, cX4_isLate, 3, (some .boolean))
theorem dX4_spend_0 : decode cX4_spend 0 = .ok (.aload_n 0, 1) := by decide +kernel
theorem dX4_spend_1 : decode cX4_spend 1 = .ok (.getfield 9, 3) := by decide +kernel
theorem dX4_spend_4 : decode cX4_spend 4 = .ok (.iload_n 1, 1) := by decide +kernel
theorem dX4_spend_5 : decode cX4_spend 5 = .ok (.aload_n 0, 1) := by decide +kernel
theorem dX4_spend_6 : decode cX4_spend 6 = .ok (.getfield 9, 3) := by decide +kernel
theorem dX4_spend_9 : decode cX4_spend 9 = .ok (.iload_n 1, 1) := by decide +kernel
theorem dX4_spend_10 : decode cX4_spend 10 = .ok (.invokestatic 61, 3) := by decide +kernel
theorem dX4_spend_13 : decode cX4_spend 13 = .ok (.iload_n 2, 1) := by decide +kernel
theorem dX4_spend_14 : decode cX4_spend 14 = .ok (.isub, 1) := by decide +kernel
theorem dX4_spend_15 : decode cX4_spend 15 = .ok (.invokestatic 65, 3) := by decide +kernel
theorem dX4_spend_18 : decode cX4_spend 18 = .ok (.aload_n 0, 1) := by decide +kernel
theorem dX4_spend_19 : decode cX4_spend 19 = .ok (.getfield 15, 3) := by decide +kernel
theorem dX4_spend_22 : decode cX4_spend 22 = .ok (.iload_n 1, 1) := by decide +kernel
theorem dX4_spend_23 : decode cX4_spend 23 = .ok (.aload_n 0, 1) := by decide +kernel
theorem dX4_spend_24 : decode cX4_spend 24 = .ok (.getfield 15, 3) := by decide +kernel
theorem dX4_spend_27 : decode cX4_spend 27 = .ok (.iload_n 1, 1) := by decide +kernel
theorem dX4_spend_28 : decode cX4_spend 28 = .ok (.invokestatic 61, 3) := by decide +kernel
theorem dX4_spend_31 : decode cX4_spend 31 = .ok (.iload_n 2, 1) := by decide +kernel
theorem dX4_spend_32 : decode cX4_spend 32 = .ok (.iadd, 1) := by decide +kernel
theorem dX4_spend_33 : decode cX4_spend 33 = .ok (.invokestatic 65, 3) := by decide +kernel
theorem dX4_spend_36 : decode cX4_spend 36 = .ok (.return_, 1) := by decide +kernel
abbrev YX4_spend : li_Y := (yX4_spend, cX4_spend, 3, none)
theorem dX4_carry_0 : decode cX4_carry 0 = .ok (.aload_n 0, 1) := by decide +kernel
theorem dX4_carry_1 : decode cX4_carry 1 = .ok (.getfield 9, 3) := by decide +kernel
theorem dX4_carry_4 : decode cX4_carry 4 = .ok (.iload_n 1, 1) := by decide +kernel
theorem dX4_carry_5 : decode cX4_carry 5 = .ok (.aload_n 0, 1) := by decide +kernel
theorem dX4_carry_6 : decode cX4_carry 6 = .ok (.getfield 9, 3) := by decide +kernel
theorem dX4_carry_9 : decode cX4_carry 9 = .ok (.iload_n 1, 1) := by decide +kernel
theorem dX4_carry_10 : decode cX4_carry 10 = .ok (.invokestatic 61, 3) := by decide +kernel
theorem dX4_carry_13 : decode cX4_carry 13 = .ok (.iload_n 3, 1) := by decide +kernel
theorem dX4_carry_14 : decode cX4_carry 14 = .ok (.isub, 1) := by decide +kernel
theorem dX4_carry_15 : decode cX4_carry 15 = .ok (.invokestatic 65, 3) := by decide +kernel
theorem dX4_carry_18 : decode cX4_carry 18 = .ok (.aload_n 0, 1) := by decide +kernel
theorem dX4_carry_19 : decode cX4_carry 19 = .ok (.getfield 9, 3) := by decide +kernel
theorem dX4_carry_22 : decode cX4_carry 22 = .ok (.iload_n 2, 1) := by decide +kernel
theorem dX4_carry_23 : decode cX4_carry 23 = .ok (.aload_n 0, 1) := by decide +kernel
theorem dX4_carry_24 : decode cX4_carry 24 = .ok (.getfield 9, 3) := by decide +kernel
theorem dX4_carry_27 : decode cX4_carry 27 = .ok (.iload_n 2, 1) := by decide +kernel
theorem dX4_carry_28 : decode cX4_carry 28 = .ok (.invokestatic 61, 3) := by decide +kernel
theorem dX4_carry_31 : decode cX4_carry 31 = .ok (.iload_n 3, 1) := by decide +kernel
theorem dX4_carry_32 : decode cX4_carry 32 = .ok (.iadd, 1) := by decide +kernel
theorem dX4_carry_33 : decode cX4_carry 33 = .ok (.sipush 9999, 3) := by decide +kernel
theorem dX4_carry_36 : decode cX4_carry 36 = .ok (.invokestatic 72, 3) := by decide +kernel
theorem dX4_carry_39 : decode cX4_carry 39 = .ok (.invokestatic 65, 3) := by decide +kernel
theorem dX4_carry_42 : decode cX4_carry 42 = .ok (.return_, 1) := by decide +kernel
abbrev YX4_carry : li_Y := (yX4_carry, cX4_carry, 4, none)
theorem dX4_write_0 : decode cX4_write 0 = .ok (.aload_n 0, 1) := by decide +kernel
theorem dX4_write_1 : decode cX4_write 1 = .ok (.getfield 41, 3) := by decide +kernel
theorem dX4_write_4 : decode cX4_write 4 = .ok (.istore 5, 2) := by decide +kernel
theorem dX4_write_6 : decode cX4_write 6 = .ok (.aload_n 0, 1) := by decide +kernel
theorem dX4_write_7 : decode cX4_write 7 = .ok (.getfield 22, 3) := by decide +kernel
theorem dX4_write_10 : decode cX4_write 10 = .ok (.iload 5, 2) := by decide +kernel
theorem dX4_write_12 : decode cX4_write 12 = .ok (.iload_n 1, 1) := by decide +kernel
theorem dX4_write_13 : decode cX4_write 13 = .ok (.invokestatic 65, 3) := by decide +kernel
theorem dX4_write_16 : decode cX4_write 16 = .ok (.aload_n 0, 1) := by decide +kernel
theorem dX4_write_17 : decode cX4_write 17 = .ok (.getfield 25, 3) := by decide +kernel
theorem dX4_write_20 : decode cX4_write 20 = .ok (.iload 5, 2) := by decide +kernel
theorem dX4_write_22 : decode cX4_write 22 = .ok (.iload_n 2, 1) := by decide +kernel
theorem dX4_write_23 : decode cX4_write 23 = .ok (.invokestatic 65, 3) := by decide +kernel
theorem dX4_write_26 : decode cX4_write 26 = .ok (.aload_n 0, 1) := by decide +kernel
theorem dX4_write_27 : decode cX4_write 27 = .ok (.getfield 31, 3) := by decide +kernel
theorem dX4_write_30 : decode cX4_write 30 = .ok (.iload 5, 2) := by decide +kernel
theorem dX4_write_32 : decode cX4_write 32 = .ok (.iload_n 3, 1) := by decide +kernel
theorem dX4_write_33 : decode cX4_write 33 = .ok (.i2l, 1) := by decide +kernel
theorem dX4_write_34 : decode cX4_write 34 = .ok (.invokestatic 78, 3) := by decide +kernel
theorem dX4_write_37 : decode cX4_write 37 = .ok (.aload_n 0, 1) := by decide +kernel
theorem dX4_write_38 : decode cX4_write 38 = .ok (.getfield 28, 3) := by decide +kernel
theorem dX4_write_41 : decode cX4_write 41 = .ok (.iload 5, 2) := by decide +kernel
theorem dX4_write_43 : decode cX4_write 43 = .ok (.iload 4, 2) := by decide +kernel
theorem dX4_write_45 : decode cX4_write 45 = .ok (.invokestatic 65, 3) := by decide +kernel
theorem dX4_write_48 : decode cX4_write 48 = .ok (.aload_n 0, 1) := by decide +kernel
theorem dX4_write_49 : decode cX4_write 49 = .ok (.dup, 1) := by decide +kernel
theorem dX4_write_50 : decode cX4_write 50 = .ok (.getfield 41, 3) := by decide +kernel
theorem dX4_write_53 : decode cX4_write 53 = .ok (.iconst 1, 1) := by decide +kernel
theorem dX4_write_54 : decode cX4_write 54 = .ok (.iadd, 1) := by decide +kernel
theorem dX4_write_55 : decode cX4_write 55 = .ok (.putfield 41, 3) := by decide +kernel
theorem dX4_write_58 : decode cX4_write 58 = .ok (.iload 5, 2) := by decide +kernel
theorem dX4_write_60 : decode cX4_write 60 = .ok (.ireturn, 1) := by decide +kernel
abbrev YX4_write : li_Y := (yX4_write, cX4_write, 6, (some .int))
theorem dX4_isOpen_0 : decode cX4_isOpen 0 = .ok (.iload_n 1, 1) := by decide +kernel
theorem dX4_isOpen_1 : decode cX4_isOpen 1 = .ok (.aload_n 0, 1) := by decide +kernel
theorem dX4_isOpen_2 : decode cX4_isOpen 2 = .ok (.getfield 41, 3) := by decide +kernel
theorem dX4_isOpen_5 : decode cX4_isOpen 5 = .ok (.if_icmp .ge 18, 3) := by decide +kernel
theorem dX4_isOpen_8 : decode cX4_isOpen 8 = .ok (.aload_n 0, 1) := by decide +kernel
theorem dX4_isOpen_9 : decode cX4_isOpen 9 = .ok (.getfield 44, 3) := by decide +kernel
theorem dX4_isOpen_12 : decode cX4_isOpen 12 = .ok (.iload_n 1, 1) := by decide +kernel
theorem dX4_isOpen_13 : decode cX4_isOpen 13 = .ok (.invokestatic 82, 3) := by decide +kernel
theorem dX4_isOpen_16 : decode cX4_isOpen 16 = .ok (.ifCond .ne 7, 3) := by decide +kernel
theorem dX4_isOpen_19 : decode cX4_isOpen 19 = .ok (.iconst 1, 1) := by decide +kernel
theorem dX4_isOpen_20 : decode cX4_isOpen 20 = .ok (.goto 4, 3) := by decide +kernel
theorem dX4_isOpen_23 : decode cX4_isOpen 23 = .ok (.iconst 0, 1) := by decide +kernel
theorem dX4_isOpen_24 : decode cX4_isOpen 24 = .ok (.ireturn, 1) := by decide +kernel
abbrev YX4_isOpen : li_Y := (yX4_isOpen, cX4_isOpen, 2, (some .boolean))
theorem dX4_owedByAll_0 : decode cX4_owedByAll 0 = .ok (.lconst 0, 1) := by decide +kernel
theorem dX4_owedByAll_1 : decode cX4_owedByAll 1 = .ok (.lstore_n 2, 1) := by decide +kernel
theorem dX4_owedByAll_2 : decode cX4_owedByAll 2 = .ok (.iconst 0, 1) := by decide +kernel
theorem dX4_owedByAll_3 : decode cX4_owedByAll 3 = .ok (.istore 4, 2) := by decide +kernel
theorem dX4_owedByAll_5 : decode cX4_owedByAll 5 = .ok (.iload 4, 2) := by decide +kernel
theorem dX4_owedByAll_7 : decode cX4_owedByAll 7 = .ok (.aload_n 0, 1) := by decide +kernel
theorem dX4_owedByAll_8 : decode cX4_owedByAll 8 = .ok (.getfield 41, 3) := by decide +kernel
theorem dX4_owedByAll_11 : decode cX4_owedByAll 11 = .ok (.if_icmp .ge 46, 3) := by decide +kernel
theorem dX4_owedByAll_14 : decode cX4_owedByAll 14 = .ok (.aload_n 0, 1) := by decide +kernel
theorem dX4_owedByAll_15 : decode cX4_owedByAll 15 = .ok (.iload 4, 2) := by decide +kernel
theorem dX4_owedByAll_17 : decode cX4_owedByAll 17 = .ok (.invokevirtual 90, 3) := by decide +kernel
theorem dX4_owedByAll_20 : decode cX4_owedByAll 20 = .ok (.ifCond .eq 31, 3) := by decide +kernel
theorem dX4_owedByAll_23 : decode cX4_owedByAll 23 = .ok (.iload_n 1, 1) := by decide +kernel
theorem dX4_owedByAll_24 : decode cX4_owedByAll 24 = .ok (.aload_n 0, 1) := by decide +kernel
theorem dX4_owedByAll_25 : decode cX4_owedByAll 25 = .ok (.getfield 25, 3) := by decide +kernel
theorem dX4_owedByAll_28 : decode cX4_owedByAll 28 = .ok (.iload 4, 2) := by decide +kernel
theorem dX4_owedByAll_30 : decode cX4_owedByAll 30 = .ok (.invokestatic 61, 3) := by decide +kernel
theorem dX4_owedByAll_33 : decode cX4_owedByAll 33 = .ok (.invokestatic 82, 3) := by decide +kernel
theorem dX4_owedByAll_36 : decode cX4_owedByAll 36 = .ok (.ifCond .eq 15, 3) := by decide +kernel
theorem dX4_owedByAll_39 : decode cX4_owedByAll 39 = .ok (.lload_n 2, 1) := by decide +kernel
theorem dX4_owedByAll_40 : decode cX4_owedByAll 40 = .ok (.aload_n 0, 1) := by decide +kernel
theorem dX4_owedByAll_41 : decode cX4_owedByAll 41 = .ok (.getfield 31, 3) := by decide +kernel
theorem dX4_owedByAll_44 : decode cX4_owedByAll 44 = .ok (.iload 4, 2) := by decide +kernel
theorem dX4_owedByAll_46 : decode cX4_owedByAll 46 = .ok (.invokestatic 94, 3) := by decide +kernel
theorem dX4_owedByAll_49 : decode cX4_owedByAll 49 = .ok (.ladd, 1) := by decide +kernel
theorem dX4_owedByAll_50 : decode cX4_owedByAll 50 = .ok (.lstore_n 2, 1) := by decide +kernel
theorem dX4_owedByAll_51 : decode cX4_owedByAll 51 = .ok (.iinc 4 1, 3) := by decide +kernel
theorem dX4_owedByAll_54 : decode cX4_owedByAll 54 = .ok (.goto (-49), 3) := by decide +kernel
theorem dX4_owedByAll_57 : decode cX4_owedByAll 57 = .ok (.lload_n 2, 1) := by decide +kernel
theorem dX4_owedByAll_58 : decode cX4_owedByAll 58 = .ok (.lreturn, 1) := by decide +kernel
abbrev YX4_owedByAll : li_Y := (yX4_owedByAll, cX4_owedByAll, 5, (some .long))
theorem dX4_owedBy_0 : decode cX4_owedBy 0 = .ok (.aload_n 0, 1) := by decide +kernel
theorem dX4_owedBy_1 : decode cX4_owedBy 1 = .ok (.iconst 1, 1) := by decide +kernel
theorem dX4_owedBy_2 : decode cX4_owedBy 2 = .ok (.iload_n 1, 1) := by decide +kernel
theorem dX4_owedBy_3 : decode cX4_owedBy 3 = .ok (.ishl, 1) := by decide +kernel
theorem dX4_owedBy_4 : decode cX4_owedBy 4 = .ok (.invokevirtual 86, 3) := by decide +kernel
theorem dX4_owedBy_7 : decode cX4_owedBy 7 = .ok (.lreturn, 1) := by decide +kernel
abbrev YX4_owedBy : li_Y := (yX4_owedBy, cX4_owedBy, 2, (some .long))
theorem dX4_owedToBut_0 : decode cX4_owedToBut 0 = .ok (.lconst 0, 1) := by decide +kernel
theorem dX4_owedToBut_1 : decode cX4_owedToBut 1 = .ok (.lstore_n 3, 1) := by decide +kernel
theorem dX4_owedToBut_2 : decode cX4_owedToBut 2 = .ok (.iconst 0, 1) := by decide +kernel
theorem dX4_owedToBut_3 : decode cX4_owedToBut 3 = .ok (.istore 5, 2) := by decide +kernel
theorem dX4_owedToBut_5 : decode cX4_owedToBut 5 = .ok (.iload 5, 2) := by decide +kernel
theorem dX4_owedToBut_7 : decode cX4_owedToBut 7 = .ok (.aload_n 0, 1) := by decide +kernel
theorem dX4_owedToBut_8 : decode cX4_owedToBut 8 = .ok (.getfield 41, 3) := by decide +kernel
theorem dX4_owedToBut_11 : decode cX4_owedToBut 11 = .ok (.if_icmp .ge 59, 3) := by decide +kernel
theorem dX4_owedToBut_14 : decode cX4_owedToBut 14 = .ok (.aload_n 0, 1) := by decide +kernel
theorem dX4_owedToBut_15 : decode cX4_owedToBut 15 = .ok (.iload 5, 2) := by decide +kernel
theorem dX4_owedToBut_17 : decode cX4_owedToBut 17 = .ok (.invokevirtual 90, 3) := by decide +kernel
theorem dX4_owedToBut_20 : decode cX4_owedToBut 20 = .ok (.ifCond .eq 44, 3) := by decide +kernel
theorem dX4_owedToBut_23 : decode cX4_owedToBut 23 = .ok (.aload_n 0, 1) := by decide +kernel
theorem dX4_owedToBut_24 : decode cX4_owedToBut 24 = .ok (.getfield 22, 3) := by decide +kernel
theorem dX4_owedToBut_27 : decode cX4_owedToBut 27 = .ok (.iload 5, 2) := by decide +kernel
theorem dX4_owedToBut_29 : decode cX4_owedToBut 29 = .ok (.invokestatic 61, 3) := by decide +kernel
theorem dX4_owedToBut_32 : decode cX4_owedToBut 32 = .ok (.iload_n 1, 1) := by decide +kernel
theorem dX4_owedToBut_33 : decode cX4_owedToBut 33 = .ok (.if_icmp .ne 31, 3) := by decide +kernel
theorem dX4_owedToBut_36 : decode cX4_owedToBut 36 = .ok (.iload_n 2, 1) := by decide +kernel
theorem dX4_owedToBut_37 : decode cX4_owedToBut 37 = .ok (.aload_n 0, 1) := by decide +kernel
theorem dX4_owedToBut_38 : decode cX4_owedToBut 38 = .ok (.getfield 25, 3) := by decide +kernel
theorem dX4_owedToBut_41 : decode cX4_owedToBut 41 = .ok (.iload 5, 2) := by decide +kernel
theorem dX4_owedToBut_43 : decode cX4_owedToBut 43 = .ok (.invokestatic 61, 3) := by decide +kernel
theorem dX4_owedToBut_46 : decode cX4_owedToBut 46 = .ok (.invokestatic 82, 3) := by decide +kernel
theorem dX4_owedToBut_49 : decode cX4_owedToBut 49 = .ok (.ifCond .ne 15, 3) := by decide +kernel
theorem dX4_owedToBut_52 : decode cX4_owedToBut 52 = .ok (.lload_n 3, 1) := by decide +kernel
theorem dX4_owedToBut_53 : decode cX4_owedToBut 53 = .ok (.aload_n 0, 1) := by decide +kernel
theorem dX4_owedToBut_54 : decode cX4_owedToBut 54 = .ok (.getfield 31, 3) := by decide +kernel
theorem dX4_owedToBut_57 : decode cX4_owedToBut 57 = .ok (.iload 5, 2) := by decide +kernel
theorem dX4_owedToBut_59 : decode cX4_owedToBut 59 = .ok (.invokestatic 94, 3) := by decide +kernel
theorem dX4_owedToBut_62 : decode cX4_owedToBut 62 = .ok (.ladd, 1) := by decide +kernel
theorem dX4_owedToBut_63 : decode cX4_owedToBut 63 = .ok (.lstore_n 3, 1) := by decide +kernel
theorem dX4_owedToBut_64 : decode cX4_owedToBut 64 = .ok (.iinc 5 1, 3) := by decide +kernel
theorem dX4_owedToBut_67 : decode cX4_owedToBut 67 = .ok (.goto (-62), 3) := by decide +kernel
theorem dX4_owedToBut_70 : decode cX4_owedToBut 70 = .ok (.lload_n 3, 1) := by decide +kernel
theorem dX4_owedToBut_71 : decode cX4_owedToBut 71 = .ok (.lreturn, 1) := by decide +kernel
abbrev YX4_owedToBut : li_Y := (yX4_owedToBut, cX4_owedToBut, 6, (some .long))
theorem dX4_owedTo_0 : decode cX4_owedTo 0 = .ok (.aload_n 0, 1) := by decide +kernel
theorem dX4_owedTo_1 : decode cX4_owedTo 1 = .ok (.iload_n 1, 1) := by decide +kernel
theorem dX4_owedTo_2 : decode cX4_owedTo 2 = .ok (.iconst 0, 1) := by decide +kernel
theorem dX4_owedTo_3 : decode cX4_owedTo 3 = .ok (.invokevirtual 98, 3) := by decide +kernel
theorem dX4_owedTo_6 : decode cX4_owedTo 6 = .ok (.lreturn, 1) := by decide +kernel
abbrev YX4_owedTo : li_Y := (yX4_owedTo, cX4_owedTo, 2, (some .long))
theorem dX4_endedLoans_0 : decode cX4_endedLoans 0 = .ok (.aload_n 0, 1) := by decide +kernel
theorem dX4_endedLoans_1 : decode cX4_endedLoans 1 = .ok (.getfield 44, 3) := by decide +kernel
theorem dX4_endedLoans_4 : decode cX4_endedLoans 4 = .ok (.invokestatic 102, 3) := by decide +kernel
theorem dX4_endedLoans_7 : decode cX4_endedLoans 7 = .ok (.ireturn, 1) := by decide +kernel
abbrev YX4_endedLoans : li_Y := (yX4_endedLoans, cX4_endedLoans, 1, (some .int))
theorem dX4_allLosses_0 : decode cX4_allLosses 0 = .ok (.lconst 0, 1) := by decide +kernel
theorem dX4_allLosses_1 : decode cX4_allLosses 1 = .ok (.lstore_n 1, 1) := by decide +kernel
theorem dX4_allLosses_2 : decode cX4_allLosses 2 = .ok (.iconst 0, 1) := by decide +kernel
theorem dX4_allLosses_3 : decode cX4_allLosses 3 = .ok (.istore_n 3, 1) := by decide +kernel
theorem dX4_allLosses_4 : decode cX4_allLosses 4 = .ok (.iload_n 3, 1) := by decide +kernel
theorem dX4_allLosses_5 : decode cX4_allLosses 5 = .ok (.bipush 6, 2) := by decide +kernel
theorem dX4_allLosses_7 : decode cX4_allLosses 7 = .ok (.if_icmp .ge 20, 3) := by decide +kernel
theorem dX4_allLosses_10 : decode cX4_allLosses 10 = .ok (.lload_n 1, 1) := by decide +kernel
theorem dX4_allLosses_11 : decode cX4_allLosses 11 = .ok (.aload_n 0, 1) := by decide +kernel
theorem dX4_allLosses_12 : decode cX4_allLosses 12 = .ok (.getfield 18, 3) := by decide +kernel
theorem dX4_allLosses_15 : decode cX4_allLosses 15 = .ok (.iload_n 3, 1) := by decide +kernel
theorem dX4_allLosses_16 : decode cX4_allLosses 16 = .ok (.invokestatic 94, 3) := by decide +kernel
theorem dX4_allLosses_19 : decode cX4_allLosses 19 = .ok (.ladd, 1) := by decide +kernel
theorem dX4_allLosses_20 : decode cX4_allLosses 20 = .ok (.lstore_n 1, 1) := by decide +kernel
theorem dX4_allLosses_21 : decode cX4_allLosses 21 = .ok (.iinc 3 1, 3) := by decide +kernel
theorem dX4_allLosses_24 : decode cX4_allLosses 24 = .ok (.goto (-20), 3) := by decide +kernel
theorem dX4_allLosses_27 : decode cX4_allLosses 27 = .ok (.lload_n 1, 1) := by decide +kernel
theorem dX4_allLosses_28 : decode cX4_allLosses 28 = .ok (.lreturn, 1) := by decide +kernel
abbrev YX4_allLosses : li_Y := (yX4_allLosses, cX4_allLosses, 4, (some .long))
theorem dX4_addTenths_0 : decode cX4_addTenths 0 = .ok (.iconst 0, 1) := by decide +kernel
theorem dX4_addTenths_1 : decode cX4_addTenths 1 = .ok (.istore_n 1, 1) := by decide +kernel
theorem dX4_addTenths_2 : decode cX4_addTenths 2 = .ok (.iload_n 1, 1) := by decide +kernel
theorem dX4_addTenths_3 : decode cX4_addTenths 3 = .ok (.aload_n 0, 1) := by decide +kernel
theorem dX4_addTenths_4 : decode cX4_addTenths 4 = .ok (.getfield 41, 3) := by decide +kernel
theorem dX4_addTenths_7 : decode cX4_addTenths 7 = .ok (.if_icmp .ge 46, 3) := by decide +kernel
theorem dX4_addTenths_10 : decode cX4_addTenths 10 = .ok (.aload_n 0, 1) := by decide +kernel
theorem dX4_addTenths_11 : decode cX4_addTenths 11 = .ok (.iload_n 1, 1) := by decide +kernel
theorem dX4_addTenths_12 : decode cX4_addTenths 12 = .ok (.invokevirtual 90, 3) := by decide +kernel
theorem dX4_addTenths_15 : decode cX4_addTenths 15 = .ok (.ifCond .eq 32, 3) := by decide +kernel
theorem dX4_addTenths_18 : decode cX4_addTenths 18 = .ok (.aload_n 0, 1) := by decide +kernel
theorem dX4_addTenths_19 : decode cX4_addTenths 19 = .ok (.getfield 31, 3) := by decide +kernel
theorem dX4_addTenths_22 : decode cX4_addTenths 22 = .ok (.iload_n 1, 1) := by decide +kernel
theorem dX4_addTenths_23 : decode cX4_addTenths 23 = .ok (.aload_n 0, 1) := by decide +kernel
theorem dX4_addTenths_24 : decode cX4_addTenths 24 = .ok (.getfield 31, 3) := by decide +kernel
theorem dX4_addTenths_27 : decode cX4_addTenths 27 = .ok (.iload_n 1, 1) := by decide +kernel
theorem dX4_addTenths_28 : decode cX4_addTenths 28 = .ok (.invokestatic 94, 3) := by decide +kernel
theorem dX4_addTenths_31 : decode cX4_addTenths 31 = .ok (.aload_n 0, 1) := by decide +kernel
theorem dX4_addTenths_32 : decode cX4_addTenths 32 = .ok (.getfield 31, 3) := by decide +kernel
theorem dX4_addTenths_35 : decode cX4_addTenths 35 = .ok (.iload_n 1, 1) := by decide +kernel
theorem dX4_addTenths_36 : decode cX4_addTenths 36 = .ok (.invokestatic 94, 3) := by decide +kernel
theorem dX4_addTenths_39 : decode cX4_addTenths 39 = .ok (.ldc2_w 119, 3) := by decide +kernel
theorem dX4_addTenths_42 : decode cX4_addTenths 42 = .ok (.ldiv, 1) := by decide +kernel
theorem dX4_addTenths_43 : decode cX4_addTenths 43 = .ok (.ladd, 1) := by decide +kernel
theorem dX4_addTenths_44 : decode cX4_addTenths 44 = .ok (.invokestatic 78, 3) := by decide +kernel
theorem dX4_addTenths_47 : decode cX4_addTenths 47 = .ok (.iinc 1 1, 3) := by decide +kernel
theorem dX4_addTenths_50 : decode cX4_addTenths 50 = .ok (.goto (-48), 3) := by decide +kernel
theorem dX4_addTenths_53 : decode cX4_addTenths 53 = .ok (.return_, 1) := by decide +kernel
abbrev YX4_addTenths : li_Y := (yX4_addTenths, cX4_addTenths, 2, none)
theorem dX4_settle_0 : decode cX4_settle 0 = .ok (.aload_n 0, 1) := by decide +kernel
theorem dX4_settle_1 : decode cX4_settle 1 = .ok (.getfield 22, 3) := by decide +kernel
theorem dX4_settle_4 : decode cX4_settle 4 = .ok (.iload_n 1, 1) := by decide +kernel
theorem dX4_settle_5 : decode cX4_settle 5 = .ok (.invokestatic 61, 3) := by decide +kernel
theorem dX4_settle_8 : decode cX4_settle 8 = .ok (.istore_n 2, 1) := by decide +kernel
theorem dX4_settle_9 : decode cX4_settle 9 = .ok (.aload_n 0, 1) := by decide +kernel
theorem dX4_settle_10 : decode cX4_settle 10 = .ok (.getfield 25, 3) := by decide +kernel
theorem dX4_settle_13 : decode cX4_settle 13 = .ok (.iload_n 1, 1) := by decide +kernel
theorem dX4_settle_14 : decode cX4_settle 14 = .ok (.invokestatic 61, 3) := by decide +kernel
theorem dX4_settle_17 : decode cX4_settle 17 = .ok (.istore_n 3, 1) := by decide +kernel
theorem dX4_settle_18 : decode cX4_settle 18 = .ok (.aload_n 0, 1) := by decide +kernel
theorem dX4_settle_19 : decode cX4_settle 19 = .ok (.getfield 31, 3) := by decide +kernel
theorem dX4_settle_22 : decode cX4_settle 22 = .ok (.iload_n 1, 1) := by decide +kernel
theorem dX4_settle_23 : decode cX4_settle 23 = .ok (.invokestatic 94, 3) := by decide +kernel
theorem dX4_settle_26 : decode cX4_settle 26 = .ok (.aload_n 0, 1) := by decide +kernel
theorem dX4_settle_27 : decode cX4_settle 27 = .ok (.getfield 9, 3) := by decide +kernel
theorem dX4_settle_30 : decode cX4_settle 30 = .ok (.iload_n 3, 1) := by decide +kernel
theorem dX4_settle_31 : decode cX4_settle 31 = .ok (.invokestatic 61, 3) := by decide +kernel
theorem dX4_settle_34 : decode cX4_settle 34 = .ok (.i2l, 1) := by decide +kernel
theorem dX4_settle_35 : decode cX4_settle 35 = .ok (.invokestatic 121, 3) := by decide +kernel
theorem dX4_settle_38 : decode cX4_settle 38 = .ok (.l2i, 1) := by decide +kernel
theorem dX4_settle_39 : decode cX4_settle 39 = .ok (.istore 4, 2) := by decide +kernel
theorem dX4_settle_41 : decode cX4_settle 41 = .ok (.aload_n 0, 1) := by decide +kernel
theorem dX4_settle_42 : decode cX4_settle 42 = .ok (.iload_n 3, 1) := by decide +kernel
theorem dX4_settle_43 : decode cX4_settle 43 = .ok (.iload_n 2, 1) := by decide +kernel
theorem dX4_settle_44 : decode cX4_settle 44 = .ok (.iload 4, 2) := by decide +kernel
theorem dX4_settle_46 : decode cX4_settle 46 = .ok (.invokevirtual 124, 3) := by decide +kernel
theorem dX4_settle_49 : decode cX4_settle 49 = .ok (.aload_n 0, 1) := by decide +kernel
theorem dX4_settle_50 : decode cX4_settle 50 = .ok (.getfield 18, 3) := by decide +kernel
theorem dX4_settle_53 : decode cX4_settle 53 = .ok (.iload_n 2, 1) := by decide +kernel
theorem dX4_settle_54 : decode cX4_settle 54 = .ok (.aload_n 0, 1) := by decide +kernel
theorem dX4_settle_55 : decode cX4_settle 55 = .ok (.getfield 18, 3) := by decide +kernel
theorem dX4_settle_58 : decode cX4_settle 58 = .ok (.iload_n 2, 1) := by decide +kernel
theorem dX4_settle_59 : decode cX4_settle 59 = .ok (.invokestatic 94, 3) := by decide +kernel
theorem dX4_settle_62 : decode cX4_settle 62 = .ok (.aload_n 0, 1) := by decide +kernel
theorem dX4_settle_63 : decode cX4_settle 63 = .ok (.getfield 31, 3) := by decide +kernel
theorem dX4_settle_66 : decode cX4_settle 66 = .ok (.iload_n 1, 1) := by decide +kernel
theorem dX4_settle_67 : decode cX4_settle 67 = .ok (.invokestatic 94, 3) := by decide +kernel
theorem dX4_settle_70 : decode cX4_settle 70 = .ok (.ladd, 1) := by decide +kernel
theorem dX4_settle_71 : decode cX4_settle 71 = .ok (.iload 4, 2) := by decide +kernel
theorem dX4_settle_73 : decode cX4_settle 73 = .ok (.i2l, 1) := by decide +kernel
theorem dX4_settle_74 : decode cX4_settle 74 = .ok (.lsub, 1) := by decide +kernel
theorem dX4_settle_75 : decode cX4_settle 75 = .ok (.invokestatic 78, 3) := by decide +kernel
theorem dX4_settle_78 : decode cX4_settle 78 = .ok (.aload_n 0, 1) := by decide +kernel
theorem dX4_settle_79 : decode cX4_settle 79 = .ok (.dup, 1) := by decide +kernel
theorem dX4_settle_80 : decode cX4_settle 80 = .ok (.getfield 44, 3) := by decide +kernel
theorem dX4_settle_83 : decode cX4_settle 83 = .ok (.iconst 1, 1) := by decide +kernel
theorem dX4_settle_84 : decode cX4_settle 84 = .ok (.iload_n 1, 1) := by decide +kernel
theorem dX4_settle_85 : decode cX4_settle 85 = .ok (.ishl, 1) := by decide +kernel
theorem dX4_settle_86 : decode cX4_settle 86 = .ok (.ior, 1) := by decide +kernel
theorem dX4_settle_87 : decode cX4_settle 87 = .ok (.putfield 44, 3) := by decide +kernel
theorem dX4_settle_90 : decode cX4_settle 90 = .ok (.return_, 1) := by decide +kernel
abbrev YX4_settle : li_Y := (yX4_settle, cX4_settle, 5, none)
theorem dX4_beginYear_0 : decode cX4_beginYear 0 = .ok (.aload_n 0, 1) := by decide +kernel
theorem dX4_beginYear_1 : decode cX4_beginYear 1 = .ok (.iconst 0, 1) := by decide +kernel
theorem dX4_beginYear_2 : decode cX4_beginYear 2 = .ok (.putfield 38, 3) := by decide +kernel
theorem dX4_beginYear_5 : decode cX4_beginYear 5 = .ok (.iconst 0, 1) := by decide +kernel
theorem dX4_beginYear_6 : decode cX4_beginYear 6 = .ok (.istore_n 2, 1) := by decide +kernel
theorem dX4_beginYear_7 : decode cX4_beginYear 7 = .ok (.iload_n 2, 1) := by decide +kernel
theorem dX4_beginYear_8 : decode cX4_beginYear 8 = .ok (.bipush 6, 2) := by decide +kernel
theorem dX4_beginYear_10 : decode cX4_beginYear 10 = .ok (.if_icmp .ge 46, 3) := by decide +kernel
theorem dX4_beginYear_13 : decode cX4_beginYear 13 = .ok (.aload_n 0, 1) := by decide +kernel
theorem dX4_beginYear_14 : decode cX4_beginYear 14 = .ok (.getfield 9, 3) := by decide +kernel
theorem dX4_beginYear_17 : decode cX4_beginYear 17 = .ok (.iload_n 2, 1) := by decide +kernel
theorem dX4_beginYear_18 : decode cX4_beginYear 18 = .ok (.iload_n 2, 1) := by decide +kernel
theorem dX4_beginYear_19 : decode cX4_beginYear 19 = .ok (.aload_n 1, 1) := by decide +kernel
theorem dX4_beginYear_20 : decode cX4_beginYear 20 = .ok (.getfield 53, 3) := by decide +kernel
theorem dX4_beginYear_23 : decode cX4_beginYear 23 = .ok (.if_icmp .ge 14, 3) := by decide +kernel
theorem dX4_beginYear_26 : decode cX4_beginYear 26 = .ok (.aload_n 1, 1) := by decide +kernel
theorem dX4_beginYear_27 : decode cX4_beginYear 27 = .ok (.getfield 58, 3) := by decide +kernel
theorem dX4_beginYear_30 : decode cX4_beginYear 30 = .ok (.iload_n 2, 1) := by decide +kernel
theorem dX4_beginYear_31 : decode cX4_beginYear 31 = .ok (.invokestatic 61, 3) := by decide +kernel
theorem dX4_beginYear_34 : decode cX4_beginYear 34 = .ok (.goto 4, 3) := by decide +kernel
theorem dX4_beginYear_37 : decode cX4_beginYear 37 = .ok (.iconst 0, 1) := by decide +kernel
theorem dX4_beginYear_38 : decode cX4_beginYear 38 = .ok (.invokestatic 65, 3) := by decide +kernel
theorem dX4_beginYear_41 : decode cX4_beginYear 41 = .ok (.aload_n 0, 1) := by decide +kernel
theorem dX4_beginYear_42 : decode cX4_beginYear 42 = .ok (.getfield 15, 3) := by decide +kernel
theorem dX4_beginYear_45 : decode cX4_beginYear 45 = .ok (.iload_n 2, 1) := by decide +kernel
theorem dX4_beginYear_46 : decode cX4_beginYear 46 = .ok (.iconst 0, 1) := by decide +kernel
theorem dX4_beginYear_47 : decode cX4_beginYear 47 = .ok (.invokestatic 65, 3) := by decide +kernel
theorem dX4_beginYear_50 : decode cX4_beginYear 50 = .ok (.iinc 2 1, 3) := by decide +kernel
theorem dX4_beginYear_53 : decode cX4_beginYear 53 = .ok (.goto (-46), 3) := by decide +kernel
theorem dX4_beginYear_56 : decode cX4_beginYear 56 = .ok (.return_, 1) := by decide +kernel
abbrev YX4_beginYear : li_Y := (yX4_beginYear, cX4_beginYear, 3, none)
theorem dX4_passDay_0 : decode cX4_passDay 0 = .ok (.aload_n 0, 1) := by decide +kernel
theorem dX4_passDay_1 : decode cX4_passDay 1 = .ok (.dup, 1) := by decide +kernel
theorem dX4_passDay_2 : decode cX4_passDay 2 = .ok (.getfield 34, 3) := by decide +kernel
theorem dX4_passDay_5 : decode cX4_passDay 5 = .ok (.iconst 1, 1) := by decide +kernel
theorem dX4_passDay_6 : decode cX4_passDay 6 = .ok (.iadd, 1) := by decide +kernel
theorem dX4_passDay_7 : decode cX4_passDay 7 = .ok (.putfield 34, 3) := by decide +kernel
theorem dX4_passDay_10 : decode cX4_passDay 10 = .ok (.aload_n 0, 1) := by decide +kernel
theorem dX4_passDay_11 : decode cX4_passDay 11 = .ok (.getfield 34, 3) := by decide +kernel
theorem dX4_passDay_14 : decode cX4_passDay 14 = .ok (.bipush 30, 2) := by decide +kernel
theorem dX4_passDay_16 : decode cX4_passDay 16 = .ok (.irem, 1) := by decide +kernel
theorem dX4_passDay_17 : decode cX4_passDay 17 = .ok (.ifCond .ne 7, 3) := by decide +kernel
theorem dX4_passDay_20 : decode cX4_passDay 20 = .ok (.aload_n 0, 1) := by decide +kernel
theorem dX4_passDay_21 : decode cX4_passDay 21 = .ok (.invokevirtual 108, 3) := by decide +kernel
theorem dX4_passDay_24 : decode cX4_passDay 24 = .ok (.iconst 0, 1) := by decide +kernel
theorem dX4_passDay_25 : decode cX4_passDay 25 = .ok (.istore_n 2, 1) := by decide +kernel
theorem dX4_passDay_26 : decode cX4_passDay 26 = .ok (.iload_n 2, 1) := by decide +kernel
theorem dX4_passDay_27 : decode cX4_passDay 27 = .ok (.aload_n 0, 1) := by decide +kernel
theorem dX4_passDay_28 : decode cX4_passDay 28 = .ok (.getfield 41, 3) := by decide +kernel
theorem dX4_passDay_31 : decode cX4_passDay 31 = .ok (.if_icmp .ge 37, 3) := by decide +kernel
theorem dX4_passDay_34 : decode cX4_passDay 34 = .ok (.aload_n 0, 1) := by decide +kernel
theorem dX4_passDay_35 : decode cX4_passDay 35 = .ok (.iload_n 2, 1) := by decide +kernel
theorem dX4_passDay_36 : decode cX4_passDay 36 = .ok (.invokevirtual 90, 3) := by decide +kernel
theorem dX4_passDay_39 : decode cX4_passDay 39 = .ok (.ifCond .eq 23, 3) := by decide +kernel
theorem dX4_passDay_42 : decode cX4_passDay 42 = .ok (.aload_n 0, 1) := by decide +kernel
theorem dX4_passDay_43 : decode cX4_passDay 43 = .ok (.getfield 28, 3) := by decide +kernel
theorem dX4_passDay_46 : decode cX4_passDay 46 = .ok (.iload_n 2, 1) := by decide +kernel
theorem dX4_passDay_47 : decode cX4_passDay 47 = .ok (.invokestatic 61, 3) := by decide +kernel
theorem dX4_passDay_50 : decode cX4_passDay 50 = .ok (.aload_n 0, 1) := by decide +kernel
theorem dX4_passDay_51 : decode cX4_passDay 51 = .ok (.getfield 34, 3) := by decide +kernel
theorem dX4_passDay_54 : decode cX4_passDay 54 = .ok (.if_icmp .ne 8, 3) := by decide +kernel
theorem dX4_passDay_57 : decode cX4_passDay 57 = .ok (.aload_n 0, 1) := by decide +kernel
theorem dX4_passDay_58 : decode cX4_passDay 58 = .ok (.iload_n 2, 1) := by decide +kernel
theorem dX4_passDay_59 : decode cX4_passDay 59 = .ok (.invokevirtual 111, 3) := by decide +kernel
theorem dX4_passDay_62 : decode cX4_passDay 62 = .ok (.iinc 2 1, 3) := by decide +kernel
theorem dX4_passDay_65 : decode cX4_passDay 65 = .ok (.goto (-39), 3) := by decide +kernel
theorem dX4_passDay_68 : decode cX4_passDay 68 = .ok (.aload_n 0, 1) := by decide +kernel
theorem dX4_passDay_69 : decode cX4_passDay 69 = .ok (.getfield 34, 3) := by decide +kernel
theorem dX4_passDay_72 : decode cX4_passDay 72 = .ok (.bipush 100, 2) := by decide +kernel
theorem dX4_passDay_74 : decode cX4_passDay 74 = .ok (.irem, 1) := by decide +kernel
theorem dX4_passDay_75 : decode cX4_passDay 75 = .ok (.ifCond .ne 8, 3) := by decide +kernel
theorem dX4_passDay_78 : decode cX4_passDay 78 = .ok (.aload_n 0, 1) := by decide +kernel
theorem dX4_passDay_79 : decode cX4_passDay 79 = .ok (.aload_n 1, 1) := by decide +kernel
theorem dX4_passDay_80 : decode cX4_passDay 80 = .ok (.invokevirtual 115, 3) := by decide +kernel
theorem dX4_passDay_83 : decode cX4_passDay 83 = .ok (.return_, 1) := by decide +kernel
abbrev YX4_passDay : li_Y := (yX4_passDay, cX4_passDay, 3, none)
theorem dX4_isStruckBy_0 : decode cX4_isStruckBy 0 = .ok (.aload_n 0, 1) := by decide +kernel
theorem dX4_isStruckBy_1 : decode cX4_isStruckBy 1 = .ok (.iload_n 1, 1) := by decide +kernel
theorem dX4_isStruckBy_2 : decode cX4_isStruckBy 2 = .ok (.iload_n 2, 1) := by decide +kernel
theorem dX4_isStruckBy_3 : decode cX4_isStruckBy 3 = .ok (.invokevirtual 98, 3) := by decide +kernel
theorem dX4_isStruckBy_6 : decode cX4_isStruckBy 6 = .ok (.lstore_n 3, 1) := by decide +kernel
theorem dX4_isStruckBy_7 : decode cX4_isStruckBy 7 = .ok (.lload_n 3, 1) := by decide +kernel
theorem dX4_isStruckBy_8 : decode cX4_isStruckBy 8 = .ok (.aload_n 0, 1) := by decide +kernel
theorem dX4_isStruckBy_9 : decode cX4_isStruckBy 9 = .ok (.iload_n 1, 1) := by decide +kernel
theorem dX4_isStruckBy_10 : decode cX4_isStruckBy 10 = .ok (.invokevirtual 134, 3) := by decide +kernel
theorem dX4_isStruckBy_13 : decode cX4_isStruckBy 13 = .ok (.lcmp, 1) := by decide +kernel
theorem dX4_isStruckBy_14 : decode cX4_isStruckBy 14 = .ok (.ifCond .ge 27, 3) := by decide +kernel
theorem dX4_isStruckBy_17 : decode cX4_isStruckBy 17 = .ok (.aload_n 0, 1) := by decide +kernel
theorem dX4_isStruckBy_18 : decode cX4_isStruckBy 18 = .ok (.getfield 9, 3) := by decide +kernel
theorem dX4_isStruckBy_21 : decode cX4_isStruckBy 21 = .ok (.iload_n 1, 1) := by decide +kernel
theorem dX4_isStruckBy_22 : decode cX4_isStruckBy 22 = .ok (.invokestatic 61, 3) := by decide +kernel
theorem dX4_isStruckBy_25 : decode cX4_isStruckBy 25 = .ok (.i2l, 1) := by decide +kernel
theorem dX4_isStruckBy_26 : decode cX4_isStruckBy 26 = .ok (.lload_n 3, 1) := by decide +kernel
theorem dX4_isStruckBy_27 : decode cX4_isStruckBy 27 = .ok (.ladd, 1) := by decide +kernel
theorem dX4_isStruckBy_28 : decode cX4_isStruckBy 28 = .ok (.aload_n 0, 1) := by decide +kernel
theorem dX4_isStruckBy_29 : decode cX4_isStruckBy 29 = .ok (.iload_n 1, 1) := by decide +kernel
theorem dX4_isStruckBy_30 : decode cX4_isStruckBy 30 = .ok (.invokevirtual 128, 3) := by decide +kernel
theorem dX4_isStruckBy_33 : decode cX4_isStruckBy 33 = .ok (.lcmp, 1) := by decide +kernel
theorem dX4_isStruckBy_34 : decode cX4_isStruckBy 34 = .ok (.ifCond .ge 7, 3) := by decide +kernel
theorem dX4_isStruckBy_37 : decode cX4_isStruckBy 37 = .ok (.iconst 1, 1) := by decide +kernel
theorem dX4_isStruckBy_38 : decode cX4_isStruckBy 38 = .ok (.goto 4, 3) := by decide +kernel
theorem dX4_isStruckBy_41 : decode cX4_isStruckBy 41 = .ok (.iconst 0, 1) := by decide +kernel
theorem dX4_isStruckBy_42 : decode cX4_isStruckBy 42 = .ok (.ireturn, 1) := by decide +kernel
abbrev YX4_isStruckBy : li_Y := (yX4_isStruckBy, cX4_isStruckBy, 5, (some .boolean))
theorem dX4_struckWith_0 : decode cX4_struckWith 0 = .ok (.aload_n 0, 1) := by decide +kernel
theorem dX4_struckWith_1 : decode cX4_struckWith 1 = .ok (.iload_n 1, 1) := by decide +kernel
theorem dX4_struckWith_2 : decode cX4_struckWith 2 = .ok (.invokevirtual 128, 3) := by decide +kernel
theorem dX4_struckWith_5 : decode cX4_struckWith 5 = .ok (.lconst 0, 1) := by decide +kernel
theorem dX4_struckWith_6 : decode cX4_struckWith 6 = .ok (.lcmp, 1) := by decide +kernel
theorem dX4_struckWith_7 : decode cX4_struckWith 7 = .ok (.ifCond .ne 5, 3) := by decide +kernel
theorem dX4_struckWith_10 : decode cX4_struckWith 10 = .ok (.iconst 0, 1) := by decide +kernel
theorem dX4_struckWith_11 : decode cX4_struckWith 11 = .ok (.ireturn, 1) := by decide +kernel
theorem dX4_struckWith_12 : decode cX4_struckWith 12 = .ok (.iconst 1, 1) := by decide +kernel
theorem dX4_struckWith_13 : decode cX4_struckWith 13 = .ok (.iload_n 1, 1) := by decide +kernel
theorem dX4_struckWith_14 : decode cX4_struckWith 14 = .ok (.ishl, 1) := by decide +kernel
theorem dX4_struckWith_15 : decode cX4_struckWith 15 = .ok (.istore_n 3, 1) := by decide +kernel
theorem dX4_struckWith_16 : decode cX4_struckWith 16 = .ok (.iconst 0, 1) := by decide +kernel
theorem dX4_struckWith_17 : decode cX4_struckWith 17 = .ok (.istore 4, 2) := by decide +kernel
theorem dX4_struckWith_19 : decode cX4_struckWith 19 = .ok (.iload 4, 2) := by decide +kernel
theorem dX4_struckWith_21 : decode cX4_struckWith 21 = .ok (.iload_n 2, 1) := by decide +kernel
theorem dX4_struckWith_22 : decode cX4_struckWith 22 = .ok (.if_icmp .ge 50, 3) := by decide +kernel
theorem dX4_struckWith_25 : decode cX4_struckWith 25 = .ok (.iconst 0, 1) := by decide +kernel
theorem dX4_struckWith_26 : decode cX4_struckWith 26 = .ok (.istore 5, 2) := by decide +kernel
theorem dX4_struckWith_28 : decode cX4_struckWith 28 = .ok (.iload 5, 2) := by decide +kernel
theorem dX4_struckWith_30 : decode cX4_struckWith 30 = .ok (.iload_n 2, 1) := by decide +kernel
theorem dX4_struckWith_31 : decode cX4_struckWith 31 = .ok (.if_icmp .ge 35, 3) := by decide +kernel
theorem dX4_struckWith_34 : decode cX4_struckWith 34 = .ok (.iload_n 3, 1) := by decide +kernel
theorem dX4_struckWith_35 : decode cX4_struckWith 35 = .ok (.iload 5, 2) := by decide +kernel
theorem dX4_struckWith_37 : decode cX4_struckWith 37 = .ok (.invokestatic 82, 3) := by decide +kernel
theorem dX4_struckWith_40 : decode cX4_struckWith 40 = .ok (.ifCond .ne 20, 3) := by decide +kernel
theorem dX4_struckWith_43 : decode cX4_struckWith 43 = .ok (.aload_n 0, 1) := by decide +kernel
theorem dX4_struckWith_44 : decode cX4_struckWith 44 = .ok (.iload 5, 2) := by decide +kernel
theorem dX4_struckWith_46 : decode cX4_struckWith 46 = .ok (.iload_n 3, 1) := by decide +kernel
theorem dX4_struckWith_47 : decode cX4_struckWith 47 = .ok (.invokevirtual 131, 3) := by decide +kernel
theorem dX4_struckWith_50 : decode cX4_struckWith 50 = .ok (.ifCond .eq 10, 3) := by decide +kernel
theorem dX4_struckWith_53 : decode cX4_struckWith 53 = .ok (.iload_n 3, 1) := by decide +kernel
theorem dX4_struckWith_54 : decode cX4_struckWith 54 = .ok (.iconst 1, 1) := by decide +kernel
theorem dX4_struckWith_55 : decode cX4_struckWith 55 = .ok (.iload 5, 2) := by decide +kernel
theorem dX4_struckWith_57 : decode cX4_struckWith 57 = .ok (.ishl, 1) := by decide +kernel
theorem dX4_struckWith_58 : decode cX4_struckWith 58 = .ok (.ior, 1) := by decide +kernel
theorem dX4_struckWith_59 : decode cX4_struckWith 59 = .ok (.istore_n 3, 1) := by decide +kernel
theorem dX4_struckWith_60 : decode cX4_struckWith 60 = .ok (.iinc 5 1, 3) := by decide +kernel
theorem dX4_struckWith_63 : decode cX4_struckWith 63 = .ok (.goto (-35), 3) := by decide +kernel
theorem dX4_struckWith_66 : decode cX4_struckWith 66 = .ok (.iinc 4 1, 3) := by decide +kernel
theorem dX4_struckWith_69 : decode cX4_struckWith 69 = .ok (.goto (-50), 3) := by decide +kernel
theorem dX4_struckWith_72 : decode cX4_struckWith 72 = .ok (.iload_n 3, 1) := by decide +kernel
theorem dX4_struckWith_73 : decode cX4_struckWith 73 = .ok (.ireturn, 1) := by decide +kernel
abbrev YX4_struckWith : li_Y := (yX4_struckWith, cX4_struckWith, 6, (some .int))
set_option maxRecDepth 100000 in
set_option maxHeartbeats 4000000 in
theorem k_X4_welcome {l : Launch} {Z : li_Z} (d : Nat) (hd : 2 ≤ d) (p1 : Int32) (M0 : li_M) : li_Met l Z YX4_welcome d [.ref (Z.2.2 13), .ref (Z.2.2 5), .int p1] M0 (li_SV (fun i => i = 14) M0) := by
  refine li_enter (by decide +kernel) (Nat.le_of_ble_eq_true rfl) ?_
  show li_T l Z YX4_welcome d 0 [(0, .ref (Z.2.2 13)), (1, .ref (Z.2.2 5)), (2, .int p1)] [] M0 _
  have hf : li_fr (fun i => i = 14) M0 M0 := li_fr_refl
  refine li_iconst 0 dX4_welcome_0 (by decide) ?_
  refine li_istore_n [(3, .int 0), (0, .ref (Z.2.2 13)), (1, .ref (Z.2.2 5)), (2, .int p1)] dX4_welcome_1 (by decide) rfl ?_
  have L2 : ∀ (n : Nat) (x1 : Int32) (M2 : li_M), (2147483647 - (x1 : Int32).toInt).toNat < n → li_fr (fun i => i = 14) M0 M2 → li_T l Z YX4_welcome d 2 [(3, .int x1), (0, .ref (Z.2.2 13)), (1, .ref (Z.2.2 5)), (2, .int p1)] [] M2 (li_SV (fun i => i = 14) M0) := by
    intro n
    induction n with
    | zero => intro x1 M2 hn; exact absurd hn (Nat.not_lt_zero _)
    | succ n ih2 =>
      intro x1 M2 hn hf
      refine li_iload_n 0 dX4_welcome_2 rfl ?_
      refine li_iload_n 3 dX4_welcome_3 rfl ?_
      refine li_icmp_ge 39 dX4_welcome_4 (by decide) (fun c3 => ?_) (fun c3 => ?_)
      · exact li_vret dX4_welcome_39 rfl ⟨rfl, hf⟩
      · refine li_aload_n 2 dX4_welcome_7 rfl ?_
        refine li_geti (k := 0) (N := 9) (T := TX8) (C0 := RX8) dX4_welcome_8 (by decide) sh_5 rfl rfl (by decide) li_in8 w_179 ?_
        refine li_top (fun x4 ex4 => ?_)
        refine li_iload_n 0 dX4_welcome_11 rfl ?_
        refine li_iadd dX4_welcome_12 ?_
        refine li_top (fun x5 ex5 => ?_)
        refine li_istore [(4, .int x5), (3, .int x1), (0, .ref (Z.2.2 13)), (1, .ref (Z.2.2 5)), (2, .int p1)] dX4_welcome_13 (by decide) rfl ?_
        refine li_aload_n 2 dX4_welcome_15 rfl ?_
        refine li_getr (k := 4) (N := 11) (T := TX4) (C0 := RX4) dX4_welcome_16 (by decide) sh_13 rfl rfl (by decide) (by decide) li_in4 w_242 ?_
        refine li_iload 0 dX4_welcome_19 rfl ?_
        refine li_aload_n 3 dX4_welcome_21 rfl ?_
        refine li_getr (k := 3) (N := 9) (T := TX8) (C0 := RX8) dX4_welcome_22 (by decide) sh_5 rfl rfl (by decide) (by decide) li_in8 w_189 ?_
        refine li_iload 0 dX4_welcome_25 rfl ?_
        refine li_callN (n := 2) (As := [.ref (Z.2.2 7), .int x5]) dX4_welcome_27 (k_X11_at (d - 1) (by omega) (by decide) sh_7 (by decide) x5 M2) (by omega) (Nat.le_of_ble_eq_true rfl) nw_14 w_589 w_104 w_590 (by decide +kernel) rfl rfl (Nat.le_of_ble_eq_true rfl) (fun r M7 h8 => ?_)
        obtain ⟨⟨x6, rfl⟩, h8⟩ := h8
        have hf := li_fr_trans hf h8 (fun i h => False.elim h)
        refine li_callN (n := 3) (As := [.ref (Z.2.2 14), .int x5, .int x6]) dX4_welcome_30 (k_X11_put (d - 1) (by omega) (by decide) sh_14 (by decide) x5 x6 M7) (by omega) (Nat.le_of_ble_eq_true rfl) nw_15 w_542 w_104 w_543 (by decide +kernel) rfl rfl (Nat.le_of_ble_eq_true rfl) (fun r M10 h11 => ?_)
        obtain ⟨rfl, h11⟩ := h11
        have hf := li_fr_trans hf h11 (fun i (h : i = 14) => (show i = 14 by omega))
        obtain ⟨x12, ex12⟩ : ∃ y : Int32, y = x1 + 1 := ⟨_, rfl⟩
        refine li_iinc 1 [(3, .int x12), (4, .int x5), (0, .ref (Z.2.2 13)), (1, .ref (Z.2.2 5)), (2, .int p1)] x12 dX4_welcome_33 rfl (by rw [ex12]; rfl) (by decide) rfl ?_
        refine li_goto 2 dX4_welcome_36 (by decide) ?_
        refine li_pick [0, 2, 3, 4] [(3, .int x12), (0, .ref (Z.2.2 13)), (1, .ref (Z.2.2 5)), (2, .int p1)] rfl ?_
        exact ih2 x12 M10 (by have h9 := li_up (li_gt c3); rw [← ex12] at h9; omega) hf
  exact L2 _ 0 M0 (Nat.lt_succ_self _) hf
set_option maxRecDepth 100000 in
set_option maxHeartbeats 4000000 in
theorem k_X4_allClocks {l : Launch} {Z : li_Z} (d : Nat) (hd : 2 ≤ d) (p1 : Int32) (M0 : li_M) : li_Met l Z YX4_allClocks d [.ref (Z.2.2 13), .int p1] M0 (li_SI (fun i => False) M0) := by
  refine li_enter (by decide +kernel) (Nat.le_of_ble_eq_true rfl) ?_
  show li_T l Z YX4_allClocks d 0 [(0, .ref (Z.2.2 13)), (1, .int p1)] [] M0 _
  have hf : li_fr (fun i => False) M0 M0 := li_fr_refl
  refine li_iconst 0 dX4_allClocks_0 (by decide) ?_
  refine li_istore_n [(2, .int 0), (0, .ref (Z.2.2 13)), (1, .int p1)] dX4_allClocks_1 (by decide) rfl ?_
  refine li_iconst 0 dX4_allClocks_2 (by decide) ?_
  refine li_istore_n [(3, .int 0), (2, .int 0), (0, .ref (Z.2.2 13)), (1, .int p1)] dX4_allClocks_3 (by decide) rfl ?_
  have L4 : ∀ (n : Nat) (x1 : Int32) (x2 : Int32) (M3 : li_M), (2147483647 - (x1 : Int32).toInt).toNat < n → li_fr (fun i => False) M0 M3 → li_T l Z YX4_allClocks d 4 [(3, .int x1), (2, .int x2), (0, .ref (Z.2.2 13)), (1, .int p1)] [] M3 (li_SI (fun i => False) M0) := by
    intro n
    induction n with
    | zero => intro x1 x2 M3 hn; exact absurd hn (Nat.not_lt_zero _)
    | succ n ih4 =>
      intro x1 x2 M3 hn hf
      refine li_iload_n 0 dX4_allClocks_4 rfl ?_
      refine li_iload_n 3 dX4_allClocks_5 rfl ?_
      refine li_icmp_ge 26 dX4_allClocks_6 (by decide) (fun c4 => ?_) (fun c4 => ?_)
      · refine li_iload_n 1 dX4_allClocks_26 rfl ?_
        exact li_iret dX4_allClocks_27 rfl rfl ⟨⟨_, rfl⟩, hf⟩
      · refine li_iload_n 1 dX4_allClocks_9 rfl ?_
        refine li_aload_n 2 dX4_allClocks_10 rfl ?_
        refine li_getr (k := 4) (N := 11) (T := TX4) (C0 := RX4) dX4_allClocks_11 (by decide) sh_13 rfl rfl (by decide) (by decide) li_in4 w_242 ?_
        refine li_iload_n 0 dX4_allClocks_14 rfl ?_
        refine li_callN (n := 2) (As := [.ref (Z.2.2 14), .int x1]) dX4_allClocks_15 (k_X11_at (d - 1) (by omega) (by decide) sh_14 (by decide) x1 M3) (by omega) (Nat.le_of_ble_eq_true rfl) nw_14 w_589 w_104 w_590 (by decide +kernel) rfl rfl (Nat.le_of_ble_eq_true rfl) (fun r M6 h7 => ?_)
        obtain ⟨⟨x5, rfl⟩, h7⟩ := h7
        have hf := li_fr_trans hf h7 (fun i h => False.elim h)
        refine li_iadd dX4_allClocks_18 ?_
        refine li_top (fun x8 ex8 => ?_)
        refine li_istore_n [(2, .int x8), (3, .int x1), (0, .ref (Z.2.2 13)), (1, .int p1)] dX4_allClocks_19 (by decide) rfl ?_
        obtain ⟨x9, ex9⟩ : ∃ y : Int32, y = x1 + 1 := ⟨_, rfl⟩
        refine li_iinc 1 [(3, .int x9), (2, .int x8), (0, .ref (Z.2.2 13)), (1, .int p1)] x9 dX4_allClocks_20 rfl (by rw [ex9]; rfl) (by decide) rfl ?_
        refine li_goto 4 dX4_allClocks_23 (by decide) ?_
        refine li_pick [0, 1, 2, 3] [(3, .int x9), (2, .int x8), (0, .ref (Z.2.2 13)), (1, .int p1)] rfl ?_
        exact ih4 x9 x8 M6 (by have h9 := li_up (li_gt c4); rw [← ex9] at h9; omega) hf
  exact L4 _ 0 0 M0 (Nat.lt_succ_self _) hf
set_option maxRecDepth 100000 in
set_option maxHeartbeats 4000000 in
theorem k_X4_isLate {l : Launch} {Z : li_Z} (d : Nat) (hd : 2 ≤ d) (p1 : Int32) (M0 : li_M) : li_Met l Z YX4_isLate d [.ref (Z.2.2 13), .ref (Z.2.2 5), .int p1] M0 (li_SZ (fun i => False) M0) := by
  refine li_enter (by decide +kernel) (Nat.le_of_ble_eq_true rfl) ?_
  show li_T l Z YX4_isLate d 0 [(0, .ref (Z.2.2 13)), (1, .ref (Z.2.2 5)), (2, .int p1)] [] M0 _
  have hf : li_fr (fun i => False) M0 M0 := li_fr_refl
  refine li_aload_n 1 dX4_isLate_0 rfl ?_
  refine li_getr (k := 7) (N := 9) (T := TX8) (C0 := RX8) dX4_isLate_1 (by decide) sh_5 rfl rfl (by decide) (by decide) li_in8 w_201 ?_
  refine li_iload_n 2 dX4_isLate_4 rfl ?_
  refine li_callN (n := 2) (As := [.ref (Z.2.2 11), .int p1]) dX4_isLate_5 (k_X11_at (d - 1) (by omega) (by decide) sh_11 (by decide) p1 M0) (by omega) (Nat.le_of_ble_eq_true rfl) nw_14 w_589 w_104 w_590 (by decide +kernel) rfl rfl (Nat.le_of_ble_eq_true rfl) (fun r M2 h3 => ?_)
  obtain ⟨⟨x1, rfl⟩, h3⟩ := h3
  have hf := li_fr_trans hf h3 (fun i h => False.elim h)
  refine li_aload_n 0 dX4_isLate_8 rfl ?_
  refine li_geti (k := 0) (N := 11) (T := TX4) (C0 := RX4) dX4_isLate_9 (by decide) sh_13 rfl rfl (by decide) li_in4 w_232 ?_
  refine li_top (fun x4 ex4 => ?_)
  refine li_bipush 100 dX4_isLate_12 (by decide) ?_
  refine li_irem dX4_isLate_14 (by decide) ?_
  refine li_top (fun x5 ex5 => ?_)
  refine li_icmp_ge 22 dX4_isLate_15 (by decide) (fun c6 => ?_) (fun c6 => ?_)
  · refine li_iconst 0 dX4_isLate_22 (by decide) ?_
    exact li_iret dX4_isLate_23 rfl (li_nz (Or.inl rfl)) ⟨⟨_, rfl, Or.inl rfl⟩, hf⟩
  · refine li_iconst 1 dX4_isLate_18 (by decide) ?_
    refine li_goto 23 dX4_isLate_19 (by decide) ?_
    exact li_iret dX4_isLate_23 rfl (li_nz (Or.inr rfl)) ⟨⟨_, rfl, Or.inr rfl⟩, hf⟩
set_option maxRecDepth 100000 in
set_option maxHeartbeats 4000000 in
theorem k_X4_spend {l : Launch} {Z : li_Z} (d : Nat) (hd : 2 ≤ d) (p1 : Int32) (p2 : Int32) (M0 : li_M) : li_Met l Z YX4_spend d [.ref (Z.2.2 13), .int p1, .int p2] M0 (li_SV (fun i => i = 14 ∨ i = 15) M0) := by
  refine li_enter (by decide +kernel) (Nat.le_of_ble_eq_true rfl) ?_
  show li_T l Z YX4_spend d 0 [(0, .ref (Z.2.2 13)), (1, .int p1), (2, .int p2)] [] M0 _
  have hf : li_fr (fun i => i = 14 ∨ i = 15) M0 M0 := li_fr_refl
  refine li_aload_n 0 dX4_spend_0 rfl ?_
  refine li_getr (k := 4) (N := 11) (T := TX4) (C0 := RX4) dX4_spend_1 (by decide) sh_13 rfl rfl (by decide) (by decide) li_in4 w_242 ?_
  refine li_iload_n 1 dX4_spend_4 rfl ?_
  refine li_aload_n 0 dX4_spend_5 rfl ?_
  refine li_getr (k := 4) (N := 11) (T := TX4) (C0 := RX4) dX4_spend_6 (by decide) sh_13 rfl rfl (by decide) (by decide) li_in4 w_242 ?_
  refine li_iload_n 1 dX4_spend_9 rfl ?_
  refine li_callN (n := 2) (As := [.ref (Z.2.2 14), .int p1]) dX4_spend_10 (k_X11_at (d - 1) (by omega) (by decide) sh_14 (by decide) p1 M0) (by omega) (Nat.le_of_ble_eq_true rfl) nw_14 w_589 w_104 w_590 (by decide +kernel) rfl rfl (Nat.le_of_ble_eq_true rfl) (fun r M2 h3 => ?_)
  obtain ⟨⟨x1, rfl⟩, h3⟩ := h3
  have hf := li_fr_trans hf h3 (fun i h => False.elim h)
  refine li_iload_n 2 dX4_spend_13 rfl ?_
  refine li_isub dX4_spend_14 ?_
  refine li_top (fun x4 ex4 => ?_)
  refine li_callN (n := 3) (As := [.ref (Z.2.2 14), .int p1, .int x4]) dX4_spend_15 (k_X11_put (d - 1) (by omega) (by decide) sh_14 (by decide) p1 x4 M2) (by omega) (Nat.le_of_ble_eq_true rfl) nw_15 w_542 w_104 w_543 (by decide +kernel) rfl rfl (Nat.le_of_ble_eq_true rfl) (fun r M6 h7 => ?_)
  obtain ⟨rfl, h7⟩ := h7
  have hf := li_fr_trans hf h7 (fun i (h : i = 14) => (show i = 14 ∨ i = 15 by omega))
  refine li_aload_n 0 dX4_spend_18 rfl ?_
  refine li_getr (k := 5) (N := 11) (T := TX4) (C0 := RX4) dX4_spend_19 (by decide) sh_13 rfl rfl (by decide) (by decide) li_in4 w_247 ?_
  refine li_iload_n 1 dX4_spend_22 rfl ?_
  refine li_aload_n 0 dX4_spend_23 rfl ?_
  refine li_getr (k := 5) (N := 11) (T := TX4) (C0 := RX4) dX4_spend_24 (by decide) sh_13 rfl rfl (by decide) (by decide) li_in4 w_247 ?_
  refine li_iload_n 1 dX4_spend_27 rfl ?_
  refine li_callN (n := 2) (As := [.ref (Z.2.2 15), .int p1]) dX4_spend_28 (k_X11_at (d - 1) (by omega) (by decide) sh_15 (by decide) p1 M6) (by omega) (Nat.le_of_ble_eq_true rfl) nw_14 w_589 w_104 w_590 (by decide +kernel) rfl rfl (Nat.le_of_ble_eq_true rfl) (fun r M9 h10 => ?_)
  obtain ⟨⟨x8, rfl⟩, h10⟩ := h10
  have hf := li_fr_trans hf h10 (fun i h => False.elim h)
  refine li_iload_n 2 dX4_spend_31 rfl ?_
  refine li_iadd dX4_spend_32 ?_
  refine li_top (fun x11 ex11 => ?_)
  refine li_callN (n := 3) (As := [.ref (Z.2.2 15), .int p1, .int x11]) dX4_spend_33 (k_X11_put (d - 1) (by omega) (by decide) sh_15 (by decide) p1 x11 M9) (by omega) (Nat.le_of_ble_eq_true rfl) nw_15 w_542 w_104 w_543 (by decide +kernel) rfl rfl (Nat.le_of_ble_eq_true rfl) (fun r M13 h14 => ?_)
  obtain ⟨rfl, h14⟩ := h14
  have hf := li_fr_trans hf h14 (fun i (h : i = 15) => (show i = 14 ∨ i = 15 by omega))
  exact li_vret dX4_spend_36 rfl ⟨rfl, hf⟩
set_option maxRecDepth 100000 in
set_option maxHeartbeats 4000000 in
theorem k_X4_carry {l : Launch} {Z : li_Z} (d : Nat) (hd : 2 ≤ d) (p1 : Int32) (p2 : Int32) (p3 : Int32) (M0 : li_M) : li_Met l Z YX4_carry d [.ref (Z.2.2 13), .int p1, .int p2, .int p3] M0 (li_SV (fun i => i = 14) M0) := by
  refine li_enter (by decide +kernel) (Nat.le_of_ble_eq_true rfl) ?_
  show li_T l Z YX4_carry d 0 [(0, .ref (Z.2.2 13)), (1, .int p1), (2, .int p2), (3, .int p3)] [] M0 _
  have hf : li_fr (fun i => i = 14) M0 M0 := li_fr_refl
  refine li_aload_n 0 dX4_carry_0 rfl ?_
  refine li_getr (k := 4) (N := 11) (T := TX4) (C0 := RX4) dX4_carry_1 (by decide) sh_13 rfl rfl (by decide) (by decide) li_in4 w_242 ?_
  refine li_iload_n 1 dX4_carry_4 rfl ?_
  refine li_aload_n 0 dX4_carry_5 rfl ?_
  refine li_getr (k := 4) (N := 11) (T := TX4) (C0 := RX4) dX4_carry_6 (by decide) sh_13 rfl rfl (by decide) (by decide) li_in4 w_242 ?_
  refine li_iload_n 1 dX4_carry_9 rfl ?_
  refine li_callN (n := 2) (As := [.ref (Z.2.2 14), .int p1]) dX4_carry_10 (k_X11_at (d - 1) (by omega) (by decide) sh_14 (by decide) p1 M0) (by omega) (Nat.le_of_ble_eq_true rfl) nw_14 w_589 w_104 w_590 (by decide +kernel) rfl rfl (Nat.le_of_ble_eq_true rfl) (fun r M2 h3 => ?_)
  obtain ⟨⟨x1, rfl⟩, h3⟩ := h3
  have hf := li_fr_trans hf h3 (fun i h => False.elim h)
  refine li_iload_n 3 dX4_carry_13 rfl ?_
  refine li_isub dX4_carry_14 ?_
  refine li_top (fun x4 ex4 => ?_)
  refine li_callN (n := 3) (As := [.ref (Z.2.2 14), .int p1, .int x4]) dX4_carry_15 (k_X11_put (d - 1) (by omega) (by decide) sh_14 (by decide) p1 x4 M2) (by omega) (Nat.le_of_ble_eq_true rfl) nw_15 w_542 w_104 w_543 (by decide +kernel) rfl rfl (Nat.le_of_ble_eq_true rfl) (fun r M6 h7 => ?_)
  obtain ⟨rfl, h7⟩ := h7
  have hf := li_fr_trans hf h7 (fun i (h : i = 14) => (show i = 14 by omega))
  refine li_aload_n 0 dX4_carry_18 rfl ?_
  refine li_getr (k := 4) (N := 11) (T := TX4) (C0 := RX4) dX4_carry_19 (by decide) sh_13 rfl rfl (by decide) (by decide) li_in4 w_242 ?_
  refine li_iload_n 2 dX4_carry_22 rfl ?_
  refine li_aload_n 0 dX4_carry_23 rfl ?_
  refine li_getr (k := 4) (N := 11) (T := TX4) (C0 := RX4) dX4_carry_24 (by decide) sh_13 rfl rfl (by decide) (by decide) li_in4 w_242 ?_
  refine li_iload_n 2 dX4_carry_27 rfl ?_
  refine li_callN (n := 2) (As := [.ref (Z.2.2 14), .int p2]) dX4_carry_28 (k_X11_at (d - 1) (by omega) (by decide) sh_14 (by decide) p2 M6) (by omega) (Nat.le_of_ble_eq_true rfl) nw_14 w_589 w_104 w_590 (by decide +kernel) rfl rfl (Nat.le_of_ble_eq_true rfl) (fun r M9 h10 => ?_)
  obtain ⟨⟨x8, rfl⟩, h10⟩ := h10
  have hf := li_fr_trans hf h10 (fun i h => False.elim h)
  refine li_iload_n 3 dX4_carry_31 rfl ?_
  refine li_iadd dX4_carry_32 ?_
  refine li_top (fun x11 ex11 => ?_)
  refine li_sipush 9999 dX4_carry_33 (by decide) ?_
  refine li_mmin dX4_carry_36 (by omega) w_913 w_746 w_117 w_747 (Nat.le_of_ble_eq_true rfl) ?_
  refine li_top (fun x12 ex12 => ?_)
  refine li_callN (n := 3) (As := [.ref (Z.2.2 14), .int p2, .int x12]) dX4_carry_39 (k_X11_put (d - 1) (by omega) (by decide) sh_14 (by decide) p2 x12 M9) (by omega) (Nat.le_of_ble_eq_true rfl) nw_15 w_542 w_104 w_543 (by decide +kernel) rfl rfl (Nat.le_of_ble_eq_true rfl) (fun r M14 h15 => ?_)
  obtain ⟨rfl, h15⟩ := h15
  have hf := li_fr_trans hf h15 (fun i (h : i = 14) => (show i = 14 by omega))
  exact li_vret dX4_carry_42 rfl ⟨rfl, hf⟩
set_option maxRecDepth 100000 in
set_option maxHeartbeats 4000000 in
theorem k_X4_write {l : Launch} {Z : li_Z} (d : Nat) (hd : 2 ≤ d) (p1 : Int32) (p2 : Int32) (p3 : Int32) (p4 : Int32) (M0 : li_M) : li_Met l Z YX4_write d [.ref (Z.2.2 13), .int p1, .int p2, .int p3, .int p4] M0 (li_SI (fun i => i = 13 ∨ i = 17 ∨ i = 18 ∨ i = 19 ∨ i = 20) M0) := by
  refine li_enter (by decide +kernel) (Nat.le_of_ble_eq_true rfl) ?_
  show li_T l Z YX4_write d 0 [(0, .ref (Z.2.2 13)), (1, .int p1), (2, .int p2), (3, .int p3), (4, .int p4)] [] M0 _
  have hf : li_fr (fun i => i = 13 ∨ i = 17 ∨ i = 18 ∨ i = 19 ∨ i = 20) M0 M0 := li_fr_refl
  refine li_aload_n 0 dX4_write_0 rfl ?_
  refine li_geti (k := 2) (N := 11) (T := TX4) (C0 := RX4) dX4_write_1 (by decide) sh_13 rfl rfl (by decide) li_in4 w_238 ?_
  refine li_top (fun x1 ex1 => ?_)
  refine li_istore [(5, .int x1), (0, .ref (Z.2.2 13)), (1, .int p1), (2, .int p2), (3, .int p3), (4, .int p4)] dX4_write_4 (by decide) rfl ?_
  refine li_aload_n 1 dX4_write_6 rfl ?_
  refine li_getr (k := 7) (N := 11) (T := TX4) (C0 := RX4) dX4_write_7 (by decide) sh_13 rfl rfl (by decide) (by decide) li_in4 w_251 ?_
  refine li_iload 0 dX4_write_10 rfl ?_
  refine li_iload_n 2 dX4_write_12 rfl ?_
  refine li_callN (n := 3) (As := [.ref (Z.2.2 17), .int x1, .int p1]) dX4_write_13 (k_X11_put (d - 1) (by omega) (by decide) sh_17 (by decide) x1 p1 M0) (by omega) (Nat.le_of_ble_eq_true rfl) nw_15 w_542 w_104 w_543 (by decide +kernel) rfl rfl (Nat.le_of_ble_eq_true rfl) (fun r M3 h4 => ?_)
  obtain ⟨rfl, h4⟩ := h4
  have hf := li_fr_trans hf h4 (fun i (h : i = 17) => (show i = 13 ∨ i = 17 ∨ i = 18 ∨ i = 19 ∨ i = 20 by omega))
  refine li_aload_n 1 dX4_write_16 rfl ?_
  refine li_getr (k := 8) (N := 11) (T := TX4) (C0 := RX4) dX4_write_17 (by decide) sh_13 rfl rfl (by decide) (by decide) li_in4 w_253 ?_
  refine li_iload 0 dX4_write_20 rfl ?_
  refine li_iload_n 3 dX4_write_22 rfl ?_
  refine li_callN (n := 3) (As := [.ref (Z.2.2 18), .int x1, .int p2]) dX4_write_23 (k_X11_put (d - 1) (by omega) (by decide) sh_18 (by decide) x1 p2 M3) (by omega) (Nat.le_of_ble_eq_true rfl) nw_15 w_542 w_104 w_543 (by decide +kernel) rfl rfl (Nat.le_of_ble_eq_true rfl) (fun r M6 h7 => ?_)
  obtain ⟨rfl, h7⟩ := h7
  have hf := li_fr_trans hf h7 (fun i (h : i = 18) => (show i = 13 ∨ i = 17 ∨ i = 18 ∨ i = 19 ∨ i = 20 by omega))
  refine li_aload_n 1 dX4_write_26 rfl ?_
  refine li_getr (k := 10) (N := 11) (T := TX4) (C0 := RX4) dX4_write_27 (by decide) sh_13 rfl rfl (by decide) (by decide) li_in4 w_257 ?_
  refine li_iload 0 dX4_write_30 rfl ?_
  refine li_iload_n 4 dX4_write_32 rfl ?_
  refine li_i2l dX4_write_33 ?_
  refine li_topL (fun x8 ex8 => ?_)
  refine li_callN (n := 3) (As := [.ref (Z.2.2 20), .int x1, .long x8]) dX4_write_34 (k_X11_putWord (d - 1) (by omega) (by decide) sh_20 (by decide) x1 x8 M6) (by omega) (Nat.le_of_ble_eq_true rfl) nw_21 w_923 w_104 w_924 (by decide +kernel) rfl rfl (Nat.le_of_ble_eq_true rfl) (fun r M10 h11 => ?_)
  obtain ⟨rfl, h11⟩ := h11
  have hf := li_fr_trans hf h11 (fun i (h : i = 20) => (show i = 13 ∨ i = 17 ∨ i = 18 ∨ i = 19 ∨ i = 20 by omega))
  refine li_aload_n 1 dX4_write_37 rfl ?_
  refine li_getr (k := 9) (N := 11) (T := TX4) (C0 := RX4) dX4_write_38 (by decide) sh_13 rfl rfl (by decide) (by decide) li_in4 w_255 ?_
  refine li_iload 0 dX4_write_41 rfl ?_
  refine li_iload 5 dX4_write_43 rfl ?_
  refine li_callN (n := 3) (As := [.ref (Z.2.2 19), .int x1, .int p4]) dX4_write_45 (k_X11_put (d - 1) (by omega) (by decide) sh_19 (by decide) x1 p4 M10) (by omega) (Nat.le_of_ble_eq_true rfl) nw_15 w_542 w_104 w_543 (by decide +kernel) rfl rfl (Nat.le_of_ble_eq_true rfl) (fun r M13 h14 => ?_)
  obtain ⟨rfl, h14⟩ := h14
  have hf := li_fr_trans hf h14 (fun i (h : i = 19) => (show i = 13 ∨ i = 17 ∨ i = 18 ∨ i = 19 ∨ i = 20 by omega))
  refine li_aload_n 1 dX4_write_48 rfl ?_
  refine li_dup dX4_write_49 rfl ?_
  refine li_geti (k := 2) (N := 11) (T := TX4) (C0 := RX4) dX4_write_50 (by decide) sh_13 rfl rfl (by decide) li_in4 w_238 ?_
  refine li_top (fun x15 ex15 => ?_)
  refine li_iconst 1 dX4_write_53 (by decide) ?_
  refine li_iadd dX4_write_54 ?_
  refine li_top (fun x16 ex16 => ?_)
  refine li_puti (k := 2) (N := 11) (T := TX4) (C0 := RX4) dX4_write_55 (by decide) sh_13 rfl rfl (by decide) li_in4 tyX4_ok nmX4 rfl rfl rfl rfl w_238 ?_
  refine li_nm (fun M17 eM17 => ?_)
  have hf := li_fr_ui hf (show 13 = 13 ∨ 13 = 17 ∨ 13 = 18 ∨ 13 = 19 ∨ 13 = 20 by omega) eM17
  refine li_iload 0 dX4_write_58 rfl ?_
  exact li_iret dX4_write_60 rfl rfl ⟨⟨_, rfl⟩, hf⟩
set_option maxRecDepth 100000 in
set_option maxHeartbeats 4000000 in
theorem k_X4_isOpen {l : Launch} {Z : li_Z} (d : Nat) (hd : 2 ≤ d) (p1 : Int32) (M0 : li_M) : li_Met l Z YX4_isOpen d [.ref (Z.2.2 13), .int p1] M0 (li_SZ (fun i => False) M0) := by
  refine li_enter (by decide +kernel) (Nat.le_of_ble_eq_true rfl) ?_
  show li_T l Z YX4_isOpen d 0 [(0, .ref (Z.2.2 13)), (1, .int p1)] [] M0 _
  have hf : li_fr (fun i => False) M0 M0 := li_fr_refl
  refine li_iload_n 1 dX4_isOpen_0 rfl ?_
  refine li_aload_n 0 dX4_isOpen_1 rfl ?_
  refine li_geti (k := 2) (N := 11) (T := TX4) (C0 := RX4) dX4_isOpen_2 (by decide) sh_13 rfl rfl (by decide) li_in4 w_238 ?_
  refine li_top (fun x1 ex1 => ?_)
  refine li_icmp_ge 23 dX4_isOpen_5 (by decide) (fun c2 => ?_) (fun c2 => ?_)
  · refine li_iconst 0 dX4_isOpen_23 (by decide) ?_
    exact li_iret dX4_isOpen_24 rfl (li_nz (Or.inl rfl)) ⟨⟨_, rfl, Or.inl rfl⟩, hf⟩
  · refine li_aload_n 0 dX4_isOpen_8 rfl ?_
    refine li_geti (k := 3) (N := 11) (T := TX4) (C0 := RX4) dX4_isOpen_9 (by decide) sh_13 rfl rfl (by decide) li_in4 w_240 ?_
    refine li_top (fun x3 ex3 => ?_)
    refine li_iload_n 1 dX4_isOpen_12 rfl ?_
    refine li_callN (n := 2) (As := [.int x3, .int p1]) dX4_isOpen_13 (k_X11_holds (d - 1) (by omega) x3 p1 M0) (by omega) (Nat.le_of_ble_eq_true rfl) nw_23 w_877 w_104 w_878 (by decide +kernel) rfl rfl (Nat.le_of_ble_eq_true rfl) (fun r M5 h6 => ?_)
    obtain ⟨⟨x4, rfl, bx4⟩, h6⟩ := h6
    have hf := li_fr_trans hf h6 (fun i h => False.elim h)
    refine li_if_ne 23 dX4_isOpen_16 (by decide) (fun c7 => ?_) (fun c7 => ?_)
    · refine li_iconst 0 dX4_isOpen_23 (by decide) ?_
      exact li_iret dX4_isOpen_24 rfl (li_nz (Or.inl rfl)) ⟨⟨_, rfl, Or.inl rfl⟩, hf⟩
    · refine li_iconst 1 dX4_isOpen_19 (by decide) ?_
      refine li_goto 24 dX4_isOpen_20 (by decide) ?_
      exact li_iret dX4_isOpen_24 rfl (li_nz (Or.inr rfl)) ⟨⟨_, rfl, Or.inr rfl⟩, hf⟩
set_option maxRecDepth 100000 in
set_option maxHeartbeats 4000000 in
theorem k_X4_owedByAll {l : Launch} {Z : li_Z} (d : Nat) (hd : 3 ≤ d) (p1 : Int32) (M0 : li_M) : li_Met l Z YX4_owedByAll d [.ref (Z.2.2 13), .int p1] M0 (li_SL (fun i => False) M0) := by
  refine li_enter (by decide +kernel) (Nat.le_of_ble_eq_true rfl) ?_
  show li_T l Z YX4_owedByAll d 0 [(0, .ref (Z.2.2 13)), (1, .int p1)] [] M0 _
  have hf : li_fr (fun i => False) M0 M0 := li_fr_refl
  refine li_lconst 0 dX4_owedByAll_0 (by decide) ?_
  refine li_lstore_n [(2, .long 0), (0, .ref (Z.2.2 13)), (1, .int p1)] dX4_owedByAll_1 (by decide) rfl ?_
  refine li_iconst 0 dX4_owedByAll_2 (by decide) ?_
  refine li_istore [(4, .int 0), (2, .long 0), (0, .ref (Z.2.2 13)), (1, .int p1)] dX4_owedByAll_3 (by decide) rfl ?_
  have L5 : ∀ (n : Nat) (x1 : Int32) (x2 : Int64) (M3 : li_M), (2147483647 - (x1 : Int32).toInt).toNat < n → li_fr (fun i => False) M0 M3 → li_T l Z YX4_owedByAll d 5 [(4, .int x1), (2, .long x2), (0, .ref (Z.2.2 13)), (1, .int p1)] [] M3 (li_SL (fun i => False) M0) := by
    intro n
    induction n with
    | zero => intro x1 x2 M3 hn; exact absurd hn (Nat.not_lt_zero _)
    | succ n ih5 =>
      intro x1 x2 M3 hn hf
      refine li_iload 0 dX4_owedByAll_5 rfl ?_
      refine li_aload_n 2 dX4_owedByAll_7 rfl ?_
      refine li_geti (k := 2) (N := 11) (T := TX4) (C0 := RX4) dX4_owedByAll_8 (by decide) sh_13 rfl rfl (by decide) li_in4 w_238 ?_
      refine li_top (fun x4 ex4 => ?_)
      refine li_icmp_ge 57 dX4_owedByAll_11 (by decide) (fun c5 => ?_) (fun c5 => ?_)
      · refine li_lload_n 1 dX4_owedByAll_57 rfl ?_
        exact li_lret dX4_owedByAll_58 rfl ⟨⟨_, rfl⟩, hf⟩
      · refine li_aload_n 2 dX4_owedByAll_14 rfl ?_
        refine li_iload 0 dX4_owedByAll_15 rfl ?_
        refine li_callV (n := 1) (As := [.int x1]) dX4_owedByAll_17 (k_X4_isOpen (d - 1) (by omega) x1 M3) (by omega) (Nat.le_of_ble_eq_true rfl) w_953 w_954 w_955 w_108 w_956 (by decide +kernel) rfl (by decide) sh_13 rfl rfl (Nat.le_of_ble_eq_true rfl) (fun r M7 h8 => ?_)
        obtain ⟨⟨x6, rfl, bx6⟩, h8⟩ := h8
        have hf := li_fr_trans hf h8 (fun i h => False.elim h)
        have J51 : ∀ (x10 : Int64) (M11 : li_M), li_fr (fun i => False) M0 M11 → li_T l Z YX4_owedByAll d 51 [(4, .int x1), (2, .long x10), (0, .ref (Z.2.2 13)), (1, .int p1)] [] M11 (li_SL (fun i => False) M0) := by
          intro x10 M11 hf
          obtain ⟨x12, ex12⟩ : ∃ y : Int32, y = x1 + 1 := ⟨_, rfl⟩
          refine li_iinc 0 [(4, .int x12), (2, .long x10), (0, .ref (Z.2.2 13)), (1, .int p1)] x12 dX4_owedByAll_51 rfl (by rw [ex12]; rfl) (by decide) rfl ?_
          refine li_goto 5 dX4_owedByAll_54 (by decide) ?_
          refine li_pick [0, 1, 2, 3] [(4, .int x12), (2, .long x10), (0, .ref (Z.2.2 13)), (1, .int p1)] rfl ?_
          exact ih5 x12 x10 M11 (by have h9 := li_up (li_gt c5); rw [← ex12] at h9; omega) hf
        refine li_if_eq 51 dX4_owedByAll_20 (by decide) (fun c9 => ?_) (fun c9 => ?_)
        · refine li_pick [0, 1, 2, 3] [(4, .int x1), (2, .long x2), (0, .ref (Z.2.2 13)), (1, .int p1)] rfl ?_
          exact J51 x2 M7 hf
        · refine li_iload_n 3 dX4_owedByAll_23 rfl ?_
          refine li_aload_n 2 dX4_owedByAll_24 rfl ?_
          refine li_getr (k := 8) (N := 11) (T := TX4) (C0 := RX4) dX4_owedByAll_25 (by decide) sh_13 rfl rfl (by decide) (by decide) li_in4 w_253 ?_
          refine li_iload 0 dX4_owedByAll_28 rfl ?_
          refine li_callN (n := 2) (As := [.ref (Z.2.2 18), .int x1]) dX4_owedByAll_30 (k_X11_at (d - 1) (by omega) (by decide) sh_18 (by decide) x1 M7) (by omega) (Nat.le_of_ble_eq_true rfl) nw_14 w_589 w_104 w_590 (by decide +kernel) rfl rfl (Nat.le_of_ble_eq_true rfl) (fun r M14 h15 => ?_)
          obtain ⟨⟨x13, rfl⟩, h15⟩ := h15
          have hf := li_fr_trans hf h15 (fun i h => False.elim h)
          refine li_callN (n := 2) (As := [.int p1, .int x13]) dX4_owedByAll_33 (k_X11_holds (d - 1) (by omega) p1 x13 M14) (by omega) (Nat.le_of_ble_eq_true rfl) nw_23 w_877 w_104 w_878 (by decide +kernel) rfl rfl (Nat.le_of_ble_eq_true rfl) (fun r M17 h18 => ?_)
          obtain ⟨⟨x16, rfl, bx16⟩, h18⟩ := h18
          have hf := li_fr_trans hf h18 (fun i h => False.elim h)
          refine li_if_eq 51 dX4_owedByAll_36 (by decide) (fun c19 => ?_) (fun c19 => ?_)
          · refine li_pick [0, 1, 2, 3] [(4, .int x1), (2, .long x2), (0, .ref (Z.2.2 13)), (1, .int p1)] rfl ?_
            exact J51 x2 M17 hf
          · refine li_lload_n 1 dX4_owedByAll_39 rfl ?_
            refine li_aload_n 2 dX4_owedByAll_40 rfl ?_
            refine li_getr (k := 10) (N := 11) (T := TX4) (C0 := RX4) dX4_owedByAll_41 (by decide) sh_13 rfl rfl (by decide) (by decide) li_in4 w_257 ?_
            refine li_iload 0 dX4_owedByAll_44 rfl ?_
            refine li_callN (n := 2) (As := [.ref (Z.2.2 20), .int x1]) dX4_owedByAll_46 (k_X11_wordAt (d - 1) (by omega) (by decide) sh_20 (by decide) x1 M17) (by omega) (Nat.le_of_ble_eq_true rfl) nw_22 w_939 w_104 w_940 (by decide +kernel) rfl rfl (Nat.le_of_ble_eq_true rfl) (fun r M21 h22 => ?_)
            obtain ⟨⟨x20, rfl⟩, h22⟩ := h22
            have hf := li_fr_trans hf h22 (fun i h => False.elim h)
            refine li_ladd dX4_owedByAll_49 ?_
            refine li_topL (fun x23 ex23 => ?_)
            refine li_lstore_n [(2, .long x23), (4, .int x1), (0, .ref (Z.2.2 13)), (1, .int p1)] dX4_owedByAll_50 (by decide) rfl ?_
            refine li_pick [1, 0, 2, 3] [(4, .int x1), (2, .long x23), (0, .ref (Z.2.2 13)), (1, .int p1)] rfl ?_
            exact J51 x23 M21 hf
  exact L5 _ 0 0 M0 (Nat.lt_succ_self _) hf
set_option maxRecDepth 100000 in
set_option maxHeartbeats 4000000 in
theorem k_X4_owedBy {l : Launch} {Z : li_Z} (d : Nat) (hd : 4 ≤ d) (p1 : Int32) (M0 : li_M) : li_Met l Z YX4_owedBy d [.ref (Z.2.2 13), .int p1] M0 (li_SL (fun i => False) M0) := by
  refine li_enter (by decide +kernel) (Nat.le_of_ble_eq_true rfl) ?_
  show li_T l Z YX4_owedBy d 0 [(0, .ref (Z.2.2 13)), (1, .int p1)] [] M0 _
  have hf : li_fr (fun i => False) M0 M0 := li_fr_refl
  refine li_aload_n 0 dX4_owedBy_0 rfl ?_
  refine li_iconst 1 dX4_owedBy_1 (by decide) ?_
  refine li_iload_n 1 dX4_owedBy_2 rfl ?_
  refine li_ishl dX4_owedBy_3 ?_
  refine li_top (fun x1 ex1 => ?_)
  refine li_callV (n := 1) (As := [.int x1]) dX4_owedBy_4 (k_X4_owedByAll (d - 1) (by omega) x1 M0) (by omega) (Nat.le_of_ble_eq_true rfl) w_1291 w_1292 w_1293 w_108 w_1294 (by decide +kernel) rfl (by decide) sh_13 rfl rfl (Nat.le_of_ble_eq_true rfl) (fun r M3 h4 => ?_)
  obtain ⟨⟨x2, rfl⟩, h4⟩ := h4
  have hf := li_fr_trans hf h4 (fun i h => False.elim h)
  exact li_lret dX4_owedBy_7 rfl ⟨⟨_, rfl⟩, hf⟩
set_option maxRecDepth 100000 in
set_option maxHeartbeats 4000000 in
theorem k_X4_owedToBut {l : Launch} {Z : li_Z} (d : Nat) (hd : 3 ≤ d) (p1 : Int32) (p2 : Int32) (M0 : li_M) : li_Met l Z YX4_owedToBut d [.ref (Z.2.2 13), .int p1, .int p2] M0 (li_SL (fun i => False) M0) := by
  refine li_enter (by decide +kernel) (Nat.le_of_ble_eq_true rfl) ?_
  show li_T l Z YX4_owedToBut d 0 [(0, .ref (Z.2.2 13)), (1, .int p1), (2, .int p2)] [] M0 _
  have hf : li_fr (fun i => False) M0 M0 := li_fr_refl
  refine li_lconst 0 dX4_owedToBut_0 (by decide) ?_
  refine li_lstore_n [(3, .long 0), (0, .ref (Z.2.2 13)), (1, .int p1), (2, .int p2)] dX4_owedToBut_1 (by decide) rfl ?_
  refine li_iconst 0 dX4_owedToBut_2 (by decide) ?_
  refine li_istore [(5, .int 0), (3, .long 0), (0, .ref (Z.2.2 13)), (1, .int p1), (2, .int p2)] dX4_owedToBut_3 (by decide) rfl ?_
  have L5 : ∀ (n : Nat) (x1 : Int32) (x2 : Int64) (M3 : li_M), (2147483647 - (x1 : Int32).toInt).toNat < n → li_fr (fun i => False) M0 M3 → li_T l Z YX4_owedToBut d 5 [(5, .int x1), (3, .long x2), (0, .ref (Z.2.2 13)), (1, .int p1), (2, .int p2)] [] M3 (li_SL (fun i => False) M0) := by
    intro n
    induction n with
    | zero => intro x1 x2 M3 hn; exact absurd hn (Nat.not_lt_zero _)
    | succ n ih5 =>
      intro x1 x2 M3 hn hf
      refine li_iload 0 dX4_owedToBut_5 rfl ?_
      refine li_aload_n 2 dX4_owedToBut_7 rfl ?_
      refine li_geti (k := 2) (N := 11) (T := TX4) (C0 := RX4) dX4_owedToBut_8 (by decide) sh_13 rfl rfl (by decide) li_in4 w_238 ?_
      refine li_top (fun x4 ex4 => ?_)
      refine li_icmp_ge 70 dX4_owedToBut_11 (by decide) (fun c5 => ?_) (fun c5 => ?_)
      · refine li_lload_n 1 dX4_owedToBut_70 rfl ?_
        exact li_lret dX4_owedToBut_71 rfl ⟨⟨_, rfl⟩, hf⟩
      · refine li_aload_n 2 dX4_owedToBut_14 rfl ?_
        refine li_iload 0 dX4_owedToBut_15 rfl ?_
        refine li_callV (n := 1) (As := [.int x1]) dX4_owedToBut_17 (k_X4_isOpen (d - 1) (by omega) x1 M3) (by omega) (Nat.le_of_ble_eq_true rfl) w_953 w_954 w_955 w_108 w_956 (by decide +kernel) rfl (by decide) sh_13 rfl rfl (Nat.le_of_ble_eq_true rfl) (fun r M7 h8 => ?_)
        obtain ⟨⟨x6, rfl, bx6⟩, h8⟩ := h8
        have hf := li_fr_trans hf h8 (fun i h => False.elim h)
        have J64 : ∀ (x10 : Int64) (M11 : li_M), li_fr (fun i => False) M0 M11 → li_T l Z YX4_owedToBut d 64 [(5, .int x1), (3, .long x10), (0, .ref (Z.2.2 13)), (1, .int p1), (2, .int p2)] [] M11 (li_SL (fun i => False) M0) := by
          intro x10 M11 hf
          obtain ⟨x12, ex12⟩ : ∃ y : Int32, y = x1 + 1 := ⟨_, rfl⟩
          refine li_iinc 0 [(5, .int x12), (3, .long x10), (0, .ref (Z.2.2 13)), (1, .int p1), (2, .int p2)] x12 dX4_owedToBut_64 rfl (by rw [ex12]; rfl) (by decide) rfl ?_
          refine li_goto 5 dX4_owedToBut_67 (by decide) ?_
          refine li_pick [0, 1, 2, 3, 4] [(5, .int x12), (3, .long x10), (0, .ref (Z.2.2 13)), (1, .int p1), (2, .int p2)] rfl ?_
          exact ih5 x12 x10 M11 (by have h9 := li_up (li_gt c5); rw [← ex12] at h9; omega) hf
        refine li_if_eq 64 dX4_owedToBut_20 (by decide) (fun c9 => ?_) (fun c9 => ?_)
        · refine li_pick [0, 1, 2, 3, 4] [(5, .int x1), (3, .long x2), (0, .ref (Z.2.2 13)), (1, .int p1), (2, .int p2)] rfl ?_
          exact J64 x2 M7 hf
        · refine li_aload_n 2 dX4_owedToBut_23 rfl ?_
          refine li_getr (k := 7) (N := 11) (T := TX4) (C0 := RX4) dX4_owedToBut_24 (by decide) sh_13 rfl rfl (by decide) (by decide) li_in4 w_251 ?_
          refine li_iload 0 dX4_owedToBut_27 rfl ?_
          refine li_callN (n := 2) (As := [.ref (Z.2.2 17), .int x1]) dX4_owedToBut_29 (k_X11_at (d - 1) (by omega) (by decide) sh_17 (by decide) x1 M7) (by omega) (Nat.le_of_ble_eq_true rfl) nw_14 w_589 w_104 w_590 (by decide +kernel) rfl rfl (Nat.le_of_ble_eq_true rfl) (fun r M14 h15 => ?_)
          obtain ⟨⟨x13, rfl⟩, h15⟩ := h15
          have hf := li_fr_trans hf h15 (fun i h => False.elim h)
          refine li_iload_n 3 dX4_owedToBut_32 rfl ?_
          refine li_icmp_ne 64 dX4_owedToBut_33 (by decide) (fun c16 => ?_) (fun c16 => ?_)
          · refine li_pick [0, 1, 2, 3, 4] [(5, .int x1), (3, .long x2), (0, .ref (Z.2.2 13)), (1, .int p1), (2, .int p2)] rfl ?_
            exact J64 x2 M14 hf
          · refine li_iload_n 4 dX4_owedToBut_36 rfl ?_
            refine li_aload_n 2 dX4_owedToBut_37 rfl ?_
            refine li_getr (k := 8) (N := 11) (T := TX4) (C0 := RX4) dX4_owedToBut_38 (by decide) sh_13 rfl rfl (by decide) (by decide) li_in4 w_253 ?_
            refine li_iload 0 dX4_owedToBut_41 rfl ?_
            refine li_callN (n := 2) (As := [.ref (Z.2.2 18), .int x1]) dX4_owedToBut_43 (k_X11_at (d - 1) (by omega) (by decide) sh_18 (by decide) x1 M14) (by omega) (Nat.le_of_ble_eq_true rfl) nw_14 w_589 w_104 w_590 (by decide +kernel) rfl rfl (Nat.le_of_ble_eq_true rfl) (fun r M18 h19 => ?_)
            obtain ⟨⟨x17, rfl⟩, h19⟩ := h19
            have hf := li_fr_trans hf h19 (fun i h => False.elim h)
            refine li_callN (n := 2) (As := [.int p2, .int x17]) dX4_owedToBut_46 (k_X11_holds (d - 1) (by omega) p2 x17 M18) (by omega) (Nat.le_of_ble_eq_true rfl) nw_23 w_877 w_104 w_878 (by decide +kernel) rfl rfl (Nat.le_of_ble_eq_true rfl) (fun r M21 h22 => ?_)
            obtain ⟨⟨x20, rfl, bx20⟩, h22⟩ := h22
            have hf := li_fr_trans hf h22 (fun i h => False.elim h)
            refine li_if_ne 64 dX4_owedToBut_49 (by decide) (fun c23 => ?_) (fun c23 => ?_)
            · refine li_pick [0, 1, 2, 3, 4] [(5, .int x1), (3, .long x2), (0, .ref (Z.2.2 13)), (1, .int p1), (2, .int p2)] rfl ?_
              exact J64 x2 M21 hf
            · refine li_lload_n 1 dX4_owedToBut_52 rfl ?_
              refine li_aload_n 2 dX4_owedToBut_53 rfl ?_
              refine li_getr (k := 10) (N := 11) (T := TX4) (C0 := RX4) dX4_owedToBut_54 (by decide) sh_13 rfl rfl (by decide) (by decide) li_in4 w_257 ?_
              refine li_iload 0 dX4_owedToBut_57 rfl ?_
              refine li_callN (n := 2) (As := [.ref (Z.2.2 20), .int x1]) dX4_owedToBut_59 (k_X11_wordAt (d - 1) (by omega) (by decide) sh_20 (by decide) x1 M21) (by omega) (Nat.le_of_ble_eq_true rfl) nw_22 w_939 w_104 w_940 (by decide +kernel) rfl rfl (Nat.le_of_ble_eq_true rfl) (fun r M25 h26 => ?_)
              obtain ⟨⟨x24, rfl⟩, h26⟩ := h26
              have hf := li_fr_trans hf h26 (fun i h => False.elim h)
              refine li_ladd dX4_owedToBut_62 ?_
              refine li_topL (fun x27 ex27 => ?_)
              refine li_lstore_n [(3, .long x27), (5, .int x1), (0, .ref (Z.2.2 13)), (1, .int p1), (2, .int p2)] dX4_owedToBut_63 (by decide) rfl ?_
              refine li_pick [1, 0, 2, 3, 4] [(5, .int x1), (3, .long x27), (0, .ref (Z.2.2 13)), (1, .int p1), (2, .int p2)] rfl ?_
              exact J64 x27 M25 hf
  exact L5 _ 0 0 M0 (Nat.lt_succ_self _) hf
set_option maxRecDepth 100000 in
set_option maxHeartbeats 4000000 in
theorem k_X4_owedTo {l : Launch} {Z : li_Z} (d : Nat) (hd : 4 ≤ d) (p1 : Int32) (M0 : li_M) : li_Met l Z YX4_owedTo d [.ref (Z.2.2 13), .int p1] M0 (li_SL (fun i => False) M0) := by
  refine li_enter (by decide +kernel) (Nat.le_of_ble_eq_true rfl) ?_
  show li_T l Z YX4_owedTo d 0 [(0, .ref (Z.2.2 13)), (1, .int p1)] [] M0 _
  have hf : li_fr (fun i => False) M0 M0 := li_fr_refl
  refine li_aload_n 0 dX4_owedTo_0 rfl ?_
  refine li_iload_n 1 dX4_owedTo_1 rfl ?_
  refine li_iconst 0 dX4_owedTo_2 (by decide) ?_
  refine li_callV (n := 2) (As := [.int p1, .int 0]) dX4_owedTo_3 (k_X4_owedToBut (d - 1) (by omega) p1 0 M0) (by omega) (Nat.le_of_ble_eq_true rfl) w_1299 w_1300 w_1301 w_108 w_1302 (by decide +kernel) rfl (by decide) sh_13 rfl rfl (Nat.le_of_ble_eq_true rfl) (fun r M2 h3 => ?_)
  obtain ⟨⟨x1, rfl⟩, h3⟩ := h3
  have hf := li_fr_trans hf h3 (fun i h => False.elim h)
  exact li_lret dX4_owedTo_6 rfl ⟨⟨_, rfl⟩, hf⟩
set_option maxRecDepth 100000 in
set_option maxHeartbeats 4000000 in
theorem k_X4_endedLoans {l : Launch} {Z : li_Z} (d : Nat) (hd : 2 ≤ d) (M0 : li_M) : li_Met l Z YX4_endedLoans d [.ref (Z.2.2 13)] M0 (li_SI (fun i => False) M0) := by
  refine li_enter (by decide +kernel) (Nat.le_of_ble_eq_true rfl) ?_
  show li_T l Z YX4_endedLoans d 0 [(0, .ref (Z.2.2 13))] [] M0 _
  have hf : li_fr (fun i => False) M0 M0 := li_fr_refl
  refine li_aload_n 0 dX4_endedLoans_0 rfl ?_
  refine li_geti (k := 3) (N := 11) (T := TX4) (C0 := RX4) dX4_endedLoans_1 (by decide) sh_13 rfl rfl (by decide) li_in4 w_240 ?_
  refine li_top (fun x1 ex1 => ?_)
  refine li_callS (n := 1) (As := [.int x1]) dX4_endedLoans_4 (k_J6_bitCount_0f7a4 (d - 1) (by omega) x1 M0) (by omega) (Nat.le_of_ble_eq_true rfl) w_933 w_842 w_127 w_843 (by decide +kernel) rfl rfl (Nat.le_of_ble_eq_true rfl) (fun r M3 h4 => ?_)
  obtain ⟨⟨x2, rfl⟩, h4⟩ := h4
  have hf := li_fr_trans hf h4 (fun i h => False.elim h)
  exact li_iret dX4_endedLoans_7 rfl rfl ⟨⟨_, rfl⟩, hf⟩
set_option maxRecDepth 100000 in
set_option maxHeartbeats 4000000 in
theorem k_X4_allLosses {l : Launch} {Z : li_Z} (d : Nat) (hd : 2 ≤ d) (M0 : li_M) : li_Met l Z YX4_allLosses d [.ref (Z.2.2 13)] M0 (li_SL (fun i => False) M0) := by
  refine li_enter (by decide +kernel) (Nat.le_of_ble_eq_true rfl) ?_
  show li_T l Z YX4_allLosses d 0 [(0, .ref (Z.2.2 13))] [] M0 _
  have hf : li_fr (fun i => False) M0 M0 := li_fr_refl
  refine li_lconst 0 dX4_allLosses_0 (by decide) ?_
  refine li_lstore_n [(1, .long 0), (0, .ref (Z.2.2 13))] dX4_allLosses_1 (by decide) rfl ?_
  refine li_iconst 0 dX4_allLosses_2 (by decide) ?_
  refine li_istore_n [(3, .int 0), (1, .long 0), (0, .ref (Z.2.2 13))] dX4_allLosses_3 (by decide) rfl ?_
  have L4 : ∀ (n : Nat) (x1 : Int32) (x2 : Int64) (M3 : li_M), (2147483647 - (x1 : Int32).toInt).toNat < n → li_fr (fun i => False) M0 M3 → li_T l Z YX4_allLosses d 4 [(3, .int x1), (1, .long x2), (0, .ref (Z.2.2 13))] [] M3 (li_SL (fun i => False) M0) := by
    intro n
    induction n with
    | zero => intro x1 x2 M3 hn; exact absurd hn (Nat.not_lt_zero _)
    | succ n ih4 =>
      intro x1 x2 M3 hn hf
      refine li_iload_n 0 dX4_allLosses_4 rfl ?_
      refine li_bipush 6 dX4_allLosses_5 (by decide) ?_
      refine li_icmp_ge 27 dX4_allLosses_7 (by decide) (fun c4 => ?_) (fun c4 => ?_)
      · refine li_lload_n 1 dX4_allLosses_27 rfl ?_
        exact li_lret dX4_allLosses_28 rfl ⟨⟨_, rfl⟩, hf⟩
      · refine li_lload_n 1 dX4_allLosses_10 rfl ?_
        refine li_aload_n 2 dX4_allLosses_11 rfl ?_
        refine li_getr (k := 6) (N := 11) (T := TX4) (C0 := RX4) dX4_allLosses_12 (by decide) sh_13 rfl rfl (by decide) (by decide) li_in4 w_249 ?_
        refine li_iload_n 0 dX4_allLosses_15 rfl ?_
        refine li_callN (n := 2) (As := [.ref (Z.2.2 16), .int x1]) dX4_allLosses_16 (k_X11_wordAt (d - 1) (by omega) (by decide) sh_16 (by decide) x1 M3) (by omega) (Nat.le_of_ble_eq_true rfl) nw_22 w_939 w_104 w_940 (by decide +kernel) rfl rfl (Nat.le_of_ble_eq_true rfl) (fun r M6 h7 => ?_)
        obtain ⟨⟨x5, rfl⟩, h7⟩ := h7
        have hf := li_fr_trans hf h7 (fun i h => False.elim h)
        refine li_ladd dX4_allLosses_19 ?_
        refine li_topL (fun x8 ex8 => ?_)
        refine li_lstore_n [(1, .long x8), (3, .int x1), (0, .ref (Z.2.2 13))] dX4_allLosses_20 (by decide) rfl ?_
        obtain ⟨x9, ex9⟩ : ∃ y : Int32, y = x1 + 1 := ⟨_, rfl⟩
        refine li_iinc 1 [(3, .int x9), (1, .long x8), (0, .ref (Z.2.2 13))] x9 dX4_allLosses_21 rfl (by rw [ex9]; rfl) (by decide) rfl ?_
        refine li_goto 4 dX4_allLosses_24 (by decide) ?_
        refine li_pick [0, 1, 2] [(3, .int x9), (1, .long x8), (0, .ref (Z.2.2 13))] rfl ?_
        exact ih4 x9 x8 M6 (by have h9 := li_up (li_gt c4); rw [← ex9] at h9; omega) hf
  exact L4 _ 0 0 M0 (Nat.lt_succ_self _) hf
set_option maxRecDepth 100000 in
set_option maxHeartbeats 4000000 in
theorem k_X4_addTenths {l : Launch} {Z : li_Z} (d : Nat) (hd : 3 ≤ d) (M0 : li_M) : li_Met l Z YX4_addTenths d [.ref (Z.2.2 13)] M0 (li_SV (fun i => i = 20) M0) := by
  refine li_enter (by decide +kernel) (Nat.le_of_ble_eq_true rfl) ?_
  show li_T l Z YX4_addTenths d 0 [(0, .ref (Z.2.2 13))] [] M0 _
  have hf : li_fr (fun i => i = 20) M0 M0 := li_fr_refl
  refine li_iconst 0 dX4_addTenths_0 (by decide) ?_
  refine li_istore_n [(1, .int 0), (0, .ref (Z.2.2 13))] dX4_addTenths_1 (by decide) rfl ?_
  have L2 : ∀ (n : Nat) (x1 : Int32) (M2 : li_M), (2147483647 - (x1 : Int32).toInt).toNat < n → li_fr (fun i => i = 20) M0 M2 → li_T l Z YX4_addTenths d 2 [(1, .int x1), (0, .ref (Z.2.2 13))] [] M2 (li_SV (fun i => i = 20) M0) := by
    intro n
    induction n with
    | zero => intro x1 M2 hn; exact absurd hn (Nat.not_lt_zero _)
    | succ n ih2 =>
      intro x1 M2 hn hf
      refine li_iload_n 0 dX4_addTenths_2 rfl ?_
      refine li_aload_n 1 dX4_addTenths_3 rfl ?_
      refine li_geti (k := 2) (N := 11) (T := TX4) (C0 := RX4) dX4_addTenths_4 (by decide) sh_13 rfl rfl (by decide) li_in4 w_238 ?_
      refine li_top (fun x3 ex3 => ?_)
      refine li_icmp_ge 53 dX4_addTenths_7 (by decide) (fun c4 => ?_) (fun c4 => ?_)
      · exact li_vret dX4_addTenths_53 rfl ⟨rfl, hf⟩
      · refine li_aload_n 1 dX4_addTenths_10 rfl ?_
        refine li_iload_n 0 dX4_addTenths_11 rfl ?_
        refine li_callV (n := 1) (As := [.int x1]) dX4_addTenths_12 (k_X4_isOpen (d - 1) (by omega) x1 M2) (by omega) (Nat.le_of_ble_eq_true rfl) w_953 w_954 w_955 w_108 w_956 (by decide +kernel) rfl (by decide) sh_13 rfl rfl (Nat.le_of_ble_eq_true rfl) (fun r M6 h7 => ?_)
        obtain ⟨⟨x5, rfl, bx5⟩, h7⟩ := h7
        have hf := li_fr_trans hf h7 (fun i h => False.elim h)
        have J47 : ∀  (M9 : li_M), li_fr (fun i => i = 20) M0 M9 → li_T l Z YX4_addTenths d 47 [(1, .int x1), (0, .ref (Z.2.2 13))] [] M9 (li_SV (fun i => i = 20) M0) := by
          intro  M9 hf
          obtain ⟨x10, ex10⟩ : ∃ y : Int32, y = x1 + 1 := ⟨_, rfl⟩
          refine li_iinc 0 [(1, .int x10), (0, .ref (Z.2.2 13))] x10 dX4_addTenths_47 rfl (by rw [ex10]; rfl) (by decide) rfl ?_
          refine li_goto 2 dX4_addTenths_50 (by decide) ?_
          refine li_pick [0, 1] [(1, .int x10), (0, .ref (Z.2.2 13))] rfl ?_
          exact ih2 x10 M9 (by have h9 := li_up (li_gt c4); rw [← ex10] at h9; omega) hf
        refine li_if_eq 47 dX4_addTenths_15 (by decide) (fun c8 => ?_) (fun c8 => ?_)
        · refine li_pick [0, 1] [(1, .int x1), (0, .ref (Z.2.2 13))] rfl ?_
          exact J47  M6 hf
        · refine li_aload_n 1 dX4_addTenths_18 rfl ?_
          refine li_getr (k := 10) (N := 11) (T := TX4) (C0 := RX4) dX4_addTenths_19 (by decide) sh_13 rfl rfl (by decide) (by decide) li_in4 w_257 ?_
          refine li_iload_n 0 dX4_addTenths_22 rfl ?_
          refine li_aload_n 1 dX4_addTenths_23 rfl ?_
          refine li_getr (k := 10) (N := 11) (T := TX4) (C0 := RX4) dX4_addTenths_24 (by decide) sh_13 rfl rfl (by decide) (by decide) li_in4 w_257 ?_
          refine li_iload_n 0 dX4_addTenths_27 rfl ?_
          refine li_callN (n := 2) (As := [.ref (Z.2.2 20), .int x1]) dX4_addTenths_28 (k_X11_wordAt (d - 1) (by omega) (by decide) sh_20 (by decide) x1 M6) (by omega) (Nat.le_of_ble_eq_true rfl) nw_22 w_939 w_104 w_940 (by decide +kernel) rfl rfl (Nat.le_of_ble_eq_true rfl) (fun r M12 h13 => ?_)
          obtain ⟨⟨x11, rfl⟩, h13⟩ := h13
          have hf := li_fr_trans hf h13 (fun i h => False.elim h)
          refine li_aload_n 1 dX4_addTenths_31 rfl ?_
          refine li_getr (k := 10) (N := 11) (T := TX4) (C0 := RX4) dX4_addTenths_32 (by decide) sh_13 rfl rfl (by decide) (by decide) li_in4 w_257 ?_
          refine li_iload_n 0 dX4_addTenths_35 rfl ?_
          refine li_callN (n := 2) (As := [.ref (Z.2.2 20), .int x1]) dX4_addTenths_36 (k_X11_wordAt (d - 1) (by omega) (by decide) sh_20 (by decide) x1 M12) (by omega) (Nat.le_of_ble_eq_true rfl) nw_22 w_939 w_104 w_940 (by decide +kernel) rfl rfl (Nat.le_of_ble_eq_true rfl) (fun r M15 h16 => ?_)
          obtain ⟨⟨x14, rfl⟩, h16⟩ := h16
          have hf := li_fr_trans hf h16 (fun i h => False.elim h)
          refine li_ldc2 10 dX4_addTenths_39 w_958 ?_
          refine li_ldiv dX4_addTenths_42 (by decide) ?_
          refine li_topL (fun x17 ex17 => ?_)
          refine li_ladd dX4_addTenths_43 ?_
          refine li_topL (fun x18 ex18 => ?_)
          refine li_callN (n := 3) (As := [.ref (Z.2.2 20), .int x1, .long x18]) dX4_addTenths_44 (k_X11_putWord (d - 1) (by omega) (by decide) sh_20 (by decide) x1 x18 M15) (by omega) (Nat.le_of_ble_eq_true rfl) nw_21 w_923 w_104 w_924 (by decide +kernel) rfl rfl (Nat.le_of_ble_eq_true rfl) (fun r M20 h21 => ?_)
          obtain ⟨rfl, h21⟩ := h21
          have hf := li_fr_trans hf h21 (fun i (h : i = 20) => (show i = 20 by omega))
          refine li_pick [0, 1] [(1, .int x1), (0, .ref (Z.2.2 13))] rfl ?_
          exact J47  M20 hf
  exact L2 _ 0 M0 (Nat.lt_succ_self _) hf
set_option maxRecDepth 100000 in
set_option maxHeartbeats 4000000 in
theorem k_X4_settle {l : Launch} {Z : li_Z} (d : Nat) (hd : 3 ≤ d) (p1 : Int32) (M0 : li_M) : li_Met l Z YX4_settle d [.ref (Z.2.2 13), .int p1] M0 (li_SV (fun i => i = 13 ∨ i = 14 ∨ i = 16) M0) := by
  refine li_enter (by decide +kernel) (Nat.le_of_ble_eq_true rfl) ?_
  show li_T l Z YX4_settle d 0 [(0, .ref (Z.2.2 13)), (1, .int p1)] [] M0 _
  have hf : li_fr (fun i => i = 13 ∨ i = 14 ∨ i = 16) M0 M0 := li_fr_refl
  refine li_aload_n 0 dX4_settle_0 rfl ?_
  refine li_getr (k := 7) (N := 11) (T := TX4) (C0 := RX4) dX4_settle_1 (by decide) sh_13 rfl rfl (by decide) (by decide) li_in4 w_251 ?_
  refine li_iload_n 1 dX4_settle_4 rfl ?_
  refine li_callN (n := 2) (As := [.ref (Z.2.2 17), .int p1]) dX4_settle_5 (k_X11_at (d - 1) (by omega) (by decide) sh_17 (by decide) p1 M0) (by omega) (Nat.le_of_ble_eq_true rfl) nw_14 w_589 w_104 w_590 (by decide +kernel) rfl rfl (Nat.le_of_ble_eq_true rfl) (fun r M2 h3 => ?_)
  obtain ⟨⟨x1, rfl⟩, h3⟩ := h3
  have hf := li_fr_trans hf h3 (fun i h => False.elim h)
  refine li_istore_n [(2, .int x1), (0, .ref (Z.2.2 13)), (1, .int p1)] dX4_settle_8 (by decide) rfl ?_
  refine li_aload_n 1 dX4_settle_9 rfl ?_
  refine li_getr (k := 8) (N := 11) (T := TX4) (C0 := RX4) dX4_settle_10 (by decide) sh_13 rfl rfl (by decide) (by decide) li_in4 w_253 ?_
  refine li_iload_n 2 dX4_settle_13 rfl ?_
  refine li_callN (n := 2) (As := [.ref (Z.2.2 18), .int p1]) dX4_settle_14 (k_X11_at (d - 1) (by omega) (by decide) sh_18 (by decide) p1 M2) (by omega) (Nat.le_of_ble_eq_true rfl) nw_14 w_589 w_104 w_590 (by decide +kernel) rfl rfl (Nat.le_of_ble_eq_true rfl) (fun r M5 h6 => ?_)
  obtain ⟨⟨x4, rfl⟩, h6⟩ := h6
  have hf := li_fr_trans hf h6 (fun i h => False.elim h)
  refine li_istore_n [(3, .int x4), (2, .int x1), (0, .ref (Z.2.2 13)), (1, .int p1)] dX4_settle_17 (by decide) rfl ?_
  refine li_aload_n 2 dX4_settle_18 rfl ?_
  refine li_getr (k := 10) (N := 11) (T := TX4) (C0 := RX4) dX4_settle_19 (by decide) sh_13 rfl rfl (by decide) (by decide) li_in4 w_257 ?_
  refine li_iload_n 3 dX4_settle_22 rfl ?_
  refine li_callN (n := 2) (As := [.ref (Z.2.2 20), .int p1]) dX4_settle_23 (k_X11_wordAt (d - 1) (by omega) (by decide) sh_20 (by decide) p1 M5) (by omega) (Nat.le_of_ble_eq_true rfl) nw_22 w_939 w_104 w_940 (by decide +kernel) rfl rfl (Nat.le_of_ble_eq_true rfl) (fun r M8 h9 => ?_)
  obtain ⟨⟨x7, rfl⟩, h9⟩ := h9
  have hf := li_fr_trans hf h9 (fun i h => False.elim h)
  refine li_aload_n 2 dX4_settle_26 rfl ?_
  refine li_getr (k := 4) (N := 11) (T := TX4) (C0 := RX4) dX4_settle_27 (by decide) sh_13 rfl rfl (by decide) (by decide) li_in4 w_242 ?_
  refine li_iload_n 0 dX4_settle_30 rfl ?_
  refine li_callN (n := 2) (As := [.ref (Z.2.2 14), .int x4]) dX4_settle_31 (k_X11_at (d - 1) (by omega) (by decide) sh_14 (by decide) x4 M8) (by omega) (Nat.le_of_ble_eq_true rfl) nw_14 w_589 w_104 w_590 (by decide +kernel) rfl rfl (Nat.le_of_ble_eq_true rfl) (fun r M11 h12 => ?_)
  obtain ⟨⟨x10, rfl⟩, h12⟩ := h12
  have hf := li_fr_trans hf h12 (fun i h => False.elim h)
  refine li_i2l dX4_settle_34 ?_
  refine li_topL (fun x13 ex13 => ?_)
  refine li_mminL dX4_settle_35 (by omega) w_963 w_964 w_117 w_965 (Nat.le_of_ble_eq_true rfl) ?_
  refine li_topL (fun x14 ex14 => ?_)
  refine li_l2i dX4_settle_38 ?_
  refine li_top (fun x15 ex15 => ?_)
  refine li_istore [(4, .int x15), (3, .int x4), (2, .int x1), (0, .ref (Z.2.2 13)), (1, .int p1)] dX4_settle_39 (by decide) rfl ?_
  refine li_aload_n 3 dX4_settle_41 rfl ?_
  refine li_iload_n 1 dX4_settle_42 rfl ?_
  refine li_iload_n 2 dX4_settle_43 rfl ?_
  refine li_iload 0 dX4_settle_44 rfl ?_
  refine li_callV (n := 3) (As := [.int x4, .int x1, .int x15]) dX4_settle_46 (k_X4_carry (d - 1) (by omega) x4 x1 x15 M11) (by omega) (Nat.le_of_ble_eq_true rfl) w_966 w_910 w_911 w_108 w_912 (by decide +kernel) rfl (by decide) sh_13 rfl rfl (Nat.le_of_ble_eq_true rfl) (fun r M17 h18 => ?_)
  obtain ⟨rfl, h18⟩ := h18
  have hf := li_fr_trans hf h18 (fun i (h : i = 14) => (show i = 13 ∨ i = 14 ∨ i = 16 by omega))
  refine li_aload_n 3 dX4_settle_49 rfl ?_
  refine li_getr (k := 6) (N := 11) (T := TX4) (C0 := RX4) dX4_settle_50 (by decide) sh_13 rfl rfl (by decide) (by decide) li_in4 w_249 ?_
  refine li_iload_n 2 dX4_settle_53 rfl ?_
  refine li_aload_n 3 dX4_settle_54 rfl ?_
  refine li_getr (k := 6) (N := 11) (T := TX4) (C0 := RX4) dX4_settle_55 (by decide) sh_13 rfl rfl (by decide) (by decide) li_in4 w_249 ?_
  refine li_iload_n 2 dX4_settle_58 rfl ?_
  refine li_callN (n := 2) (As := [.ref (Z.2.2 16), .int x1]) dX4_settle_59 (k_X11_wordAt (d - 1) (by omega) (by decide) sh_16 (by decide) x1 M17) (by omega) (Nat.le_of_ble_eq_true rfl) nw_22 w_939 w_104 w_940 (by decide +kernel) rfl rfl (Nat.le_of_ble_eq_true rfl) (fun r M20 h21 => ?_)
  obtain ⟨⟨x19, rfl⟩, h21⟩ := h21
  have hf := li_fr_trans hf h21 (fun i h => False.elim h)
  refine li_aload_n 3 dX4_settle_62 rfl ?_
  refine li_getr (k := 10) (N := 11) (T := TX4) (C0 := RX4) dX4_settle_63 (by decide) sh_13 rfl rfl (by decide) (by decide) li_in4 w_257 ?_
  refine li_iload_n 4 dX4_settle_66 rfl ?_
  refine li_callN (n := 2) (As := [.ref (Z.2.2 20), .int p1]) dX4_settle_67 (k_X11_wordAt (d - 1) (by omega) (by decide) sh_20 (by decide) p1 M20) (by omega) (Nat.le_of_ble_eq_true rfl) nw_22 w_939 w_104 w_940 (by decide +kernel) rfl rfl (Nat.le_of_ble_eq_true rfl) (fun r M23 h24 => ?_)
  obtain ⟨⟨x22, rfl⟩, h24⟩ := h24
  have hf := li_fr_trans hf h24 (fun i h => False.elim h)
  refine li_ladd dX4_settle_70 ?_
  refine li_topL (fun x25 ex25 => ?_)
  refine li_iload 0 dX4_settle_71 rfl ?_
  refine li_i2l dX4_settle_73 ?_
  refine li_topL (fun x26 ex26 => ?_)
  refine li_lsub dX4_settle_74 ?_
  refine li_topL (fun x27 ex27 => ?_)
  refine li_callN (n := 3) (As := [.ref (Z.2.2 16), .int x1, .long x27]) dX4_settle_75 (k_X11_putWord (d - 1) (by omega) (by decide) sh_16 (by decide) x1 x27 M23) (by omega) (Nat.le_of_ble_eq_true rfl) nw_21 w_923 w_104 w_924 (by decide +kernel) rfl rfl (Nat.le_of_ble_eq_true rfl) (fun r M29 h30 => ?_)
  obtain ⟨rfl, h30⟩ := h30
  have hf := li_fr_trans hf h30 (fun i (h : i = 16) => (show i = 13 ∨ i = 14 ∨ i = 16 by omega))
  refine li_aload_n 3 dX4_settle_78 rfl ?_
  refine li_dup dX4_settle_79 rfl ?_
  refine li_geti (k := 3) (N := 11) (T := TX4) (C0 := RX4) dX4_settle_80 (by decide) sh_13 rfl rfl (by decide) li_in4 w_240 ?_
  refine li_top (fun x31 ex31 => ?_)
  refine li_iconst 1 dX4_settle_83 (by decide) ?_
  refine li_iload_n 4 dX4_settle_84 rfl ?_
  refine li_ishl dX4_settle_85 ?_
  refine li_top (fun x32 ex32 => ?_)
  refine li_ior dX4_settle_86 ?_
  refine li_top (fun x33 ex33 => ?_)
  refine li_puti (k := 3) (N := 11) (T := TX4) (C0 := RX4) dX4_settle_87 (by decide) sh_13 rfl rfl (by decide) li_in4 tyX4_ok nmX4 rfl rfl rfl rfl w_240 ?_
  refine li_nm (fun M34 eM34 => ?_)
  have hf := li_fr_ui hf (show 13 = 13 ∨ 13 = 14 ∨ 13 = 16 by omega) eM34
  exact li_vret dX4_settle_90 rfl ⟨rfl, hf⟩
set_option maxRecDepth 100000 in
set_option maxHeartbeats 4000000 in
theorem k_X4_beginYear {l : Launch} {Z : li_Z} (d : Nat) (hd : 2 ≤ d) (M0 : li_M) : li_Met l Z YX4_beginYear d [.ref (Z.2.2 13), .ref (Z.2.2 5)] M0 (li_SV (fun i => i = 13 ∨ i = 14 ∨ i = 15) M0) := by
  refine li_enter (by decide +kernel) (Nat.le_of_ble_eq_true rfl) ?_
  show li_T l Z YX4_beginYear d 0 [(0, .ref (Z.2.2 13)), (1, .ref (Z.2.2 5))] [] M0 _
  have hf : li_fr (fun i => i = 13 ∨ i = 14 ∨ i = 15) M0 M0 := li_fr_refl
  refine li_aload_n 0 dX4_beginYear_0 rfl ?_
  refine li_iconst 0 dX4_beginYear_1 (by decide) ?_
  refine li_puti (k := 1) (N := 11) (T := TX4) (C0 := RX4) dX4_beginYear_2 (by decide) sh_13 rfl rfl (by decide) li_in4 tyX4_ok nmX4 rfl rfl rfl rfl w_235 ?_
  refine li_nm (fun M1 eM1 => ?_)
  have hf := li_fr_ui hf (show 13 = 13 ∨ 13 = 14 ∨ 13 = 15 by omega) eM1
  refine li_iconst 0 dX4_beginYear_5 (by decide) ?_
  refine li_istore_n [(2, .int 0), (0, .ref (Z.2.2 13)), (1, .ref (Z.2.2 5))] dX4_beginYear_6 (by decide) rfl ?_
  have L7 : ∀ (n : Nat) (x2 : Int32) (M3 : li_M), (2147483647 - (x2 : Int32).toInt).toNat < n → li_fr (fun i => i = 13 ∨ i = 14 ∨ i = 15) M0 M3 → li_T l Z YX4_beginYear d 7 [(2, .int x2), (0, .ref (Z.2.2 13)), (1, .ref (Z.2.2 5))] [] M3 (li_SV (fun i => i = 13 ∨ i = 14 ∨ i = 15) M0) := by
    intro n
    induction n with
    | zero => intro x2 M3 hn; exact absurd hn (Nat.not_lt_zero _)
    | succ n ih7 =>
      intro x2 M3 hn hf
      refine li_iload_n 0 dX4_beginYear_7 rfl ?_
      refine li_bipush 6 dX4_beginYear_8 (by decide) ?_
      refine li_icmp_ge 56 dX4_beginYear_10 (by decide) (fun c4 => ?_) (fun c4 => ?_)
      · exact li_vret dX4_beginYear_56 rfl ⟨rfl, hf⟩
      · refine li_aload_n 1 dX4_beginYear_13 rfl ?_
        refine li_getr (k := 4) (N := 11) (T := TX4) (C0 := RX4) dX4_beginYear_14 (by decide) sh_13 rfl rfl (by decide) (by decide) li_in4 w_242 ?_
        refine li_iload_n 0 dX4_beginYear_17 rfl ?_
        refine li_iload_n 0 dX4_beginYear_18 rfl ?_
        refine li_aload_n 2 dX4_beginYear_19 rfl ?_
        refine li_geti (k := 0) (N := 9) (T := TX8) (C0 := RX8) dX4_beginYear_20 (by decide) sh_5 rfl rfl (by decide) li_in8 w_179 ?_
        refine li_top (fun x5 ex5 => ?_)
        have J38 : ∀ (x7 : Int32) (M8 : li_M), li_fr (fun i => i = 13 ∨ i = 14 ∨ i = 15) M0 M8 → li_T l Z YX4_beginYear d 38 [(2, .int x2), (0, .ref (Z.2.2 13)), (1, .ref (Z.2.2 5))] [.int x7, .int x2, .ref (Z.2.2 14)] M8 (li_SV (fun i => i = 13 ∨ i = 14 ∨ i = 15) M0) := by
          intro x7 M8 hf
          refine li_callN (n := 3) (As := [.ref (Z.2.2 14), .int x2, .int x7]) dX4_beginYear_38 (k_X11_put (d - 1) (by omega) (by decide) sh_14 (by decide) x2 x7 M8) (by omega) (Nat.le_of_ble_eq_true rfl) nw_15 w_542 w_104 w_543 (by decide +kernel) rfl rfl (Nat.le_of_ble_eq_true rfl) (fun r M10 h11 => ?_)
          obtain ⟨rfl, h11⟩ := h11
          have hf := li_fr_trans hf h11 (fun i (h : i = 14) => (show i = 13 ∨ i = 14 ∨ i = 15 by omega))
          refine li_aload_n 1 dX4_beginYear_41 rfl ?_
          refine li_getr (k := 5) (N := 11) (T := TX4) (C0 := RX4) dX4_beginYear_42 (by decide) sh_13 rfl rfl (by decide) (by decide) li_in4 w_247 ?_
          refine li_iload_n 0 dX4_beginYear_45 rfl ?_
          refine li_iconst 0 dX4_beginYear_46 (by decide) ?_
          refine li_callN (n := 3) (As := [.ref (Z.2.2 15), .int x2, .int 0]) dX4_beginYear_47 (k_X11_put (d - 1) (by omega) (by decide) sh_15 (by decide) x2 0 M10) (by omega) (Nat.le_of_ble_eq_true rfl) nw_15 w_542 w_104 w_543 (by decide +kernel) rfl rfl (Nat.le_of_ble_eq_true rfl) (fun r M13 h14 => ?_)
          obtain ⟨rfl, h14⟩ := h14
          have hf := li_fr_trans hf h14 (fun i (h : i = 15) => (show i = 13 ∨ i = 14 ∨ i = 15 by omega))
          obtain ⟨x15, ex15⟩ : ∃ y : Int32, y = x2 + 1 := ⟨_, rfl⟩
          refine li_iinc 0 [(2, .int x15), (0, .ref (Z.2.2 13)), (1, .ref (Z.2.2 5))] x15 dX4_beginYear_50 rfl (by rw [ex15]; rfl) (by decide) rfl ?_
          refine li_goto 7 dX4_beginYear_53 (by decide) ?_
          refine li_pick [0, 1, 2] [(2, .int x15), (0, .ref (Z.2.2 13)), (1, .ref (Z.2.2 5))] rfl ?_
          exact ih7 x15 M13 (by have h9 := li_up (li_gt c4); rw [← ex15] at h9; omega) hf
        refine li_icmp_ge 37 dX4_beginYear_23 (by decide) (fun c6 => ?_) (fun c6 => ?_)
        · refine li_iconst 0 dX4_beginYear_37 (by decide) ?_
          refine li_pick [0, 1, 2] [(2, .int x2), (0, .ref (Z.2.2 13)), (1, .ref (Z.2.2 5))] rfl ?_
          exact J38 0 M3 hf
        · refine li_aload_n 2 dX4_beginYear_26 rfl ?_
          refine li_getr (k := 3) (N := 9) (T := TX8) (C0 := RX8) dX4_beginYear_27 (by decide) sh_5 rfl rfl (by decide) (by decide) li_in8 w_189 ?_
          refine li_iload_n 0 dX4_beginYear_30 rfl ?_
          refine li_callN (n := 2) (As := [.ref (Z.2.2 7), .int x2]) dX4_beginYear_31 (k_X11_at (d - 1) (by omega) (by decide) sh_7 (by decide) x2 M3) (by omega) (Nat.le_of_ble_eq_true rfl) nw_14 w_589 w_104 w_590 (by decide +kernel) rfl rfl (Nat.le_of_ble_eq_true rfl) (fun r M17 h18 => ?_)
          obtain ⟨⟨x16, rfl⟩, h18⟩ := h18
          have hf := li_fr_trans hf h18 (fun i h => False.elim h)
          refine li_goto 38 dX4_beginYear_34 (by decide) ?_
          refine li_pick [0, 1, 2] [(2, .int x2), (0, .ref (Z.2.2 13)), (1, .ref (Z.2.2 5))] rfl ?_
          exact J38 x16 M17 hf
  exact L7 _ 0 M1 (Nat.lt_succ_self _) hf
set_option maxRecDepth 100000 in
set_option maxHeartbeats 4000000 in
theorem k_X4_passDay {l : Launch} {Z : li_Z} (d : Nat) (hd : 4 ≤ d) (M0 : li_M) : li_Met l Z YX4_passDay d [.ref (Z.2.2 13), .ref (Z.2.2 5)] M0 (li_SV (fun i => i = 13 ∨ i = 14 ∨ i = 15 ∨ i = 16 ∨ i = 20) M0) := by
  refine li_enter (by decide +kernel) (Nat.le_of_ble_eq_true rfl) ?_
  show li_T l Z YX4_passDay d 0 [(0, .ref (Z.2.2 13)), (1, .ref (Z.2.2 5))] [] M0 _
  have hf : li_fr (fun i => i = 13 ∨ i = 14 ∨ i = 15 ∨ i = 16 ∨ i = 20) M0 M0 := li_fr_refl
  refine li_aload_n 0 dX4_passDay_0 rfl ?_
  refine li_dup dX4_passDay_1 rfl ?_
  refine li_geti (k := 0) (N := 11) (T := TX4) (C0 := RX4) dX4_passDay_2 (by decide) sh_13 rfl rfl (by decide) li_in4 w_232 ?_
  refine li_top (fun x1 ex1 => ?_)
  refine li_iconst 1 dX4_passDay_5 (by decide) ?_
  refine li_iadd dX4_passDay_6 ?_
  refine li_top (fun x2 ex2 => ?_)
  refine li_puti (k := 0) (N := 11) (T := TX4) (C0 := RX4) dX4_passDay_7 (by decide) sh_13 rfl rfl (by decide) li_in4 tyX4_ok nmX4 rfl rfl rfl rfl w_232 ?_
  refine li_nm (fun M3 eM3 => ?_)
  have hf := li_fr_ui hf (show 13 = 13 ∨ 13 = 14 ∨ 13 = 15 ∨ 13 = 16 ∨ 13 = 20 by omega) eM3
  refine li_aload_n 0 dX4_passDay_10 rfl ?_
  refine li_geti (k := 0) (N := 11) (T := TX4) (C0 := RX4) dX4_passDay_11 (by decide) sh_13 rfl rfl (by decide) li_in4 w_232 ?_
  refine li_top (fun x4 ex4 => ?_)
  refine li_bipush 30 dX4_passDay_14 (by decide) ?_
  refine li_irem dX4_passDay_16 (by decide) ?_
  refine li_top (fun x5 ex5 => ?_)
  have J24 : ∀  (M7 : li_M), li_fr (fun i => i = 13 ∨ i = 14 ∨ i = 15 ∨ i = 16 ∨ i = 20) M0 M7 → li_T l Z YX4_passDay d 24 [(0, .ref (Z.2.2 13)), (1, .ref (Z.2.2 5))] [] M7 (li_SV (fun i => i = 13 ∨ i = 14 ∨ i = 15 ∨ i = 16 ∨ i = 20) M0) := by
    intro  M7 hf
    refine li_iconst 0 dX4_passDay_24 (by decide) ?_
    refine li_istore_n [(2, .int 0), (0, .ref (Z.2.2 13)), (1, .ref (Z.2.2 5))] dX4_passDay_25 (by decide) rfl ?_
    have L26 : ∀ (n : Nat) (x8 : Int32) (M9 : li_M), (2147483647 - (x8 : Int32).toInt).toNat < n → li_fr (fun i => i = 13 ∨ i = 14 ∨ i = 15 ∨ i = 16 ∨ i = 20) M0 M9 → li_T l Z YX4_passDay d 26 [(2, .int x8), (0, .ref (Z.2.2 13)), (1, .ref (Z.2.2 5))] [] M9 (li_SV (fun i => i = 13 ∨ i = 14 ∨ i = 15 ∨ i = 16 ∨ i = 20) M0) := by
      intro n
      induction n with
      | zero => intro x8 M9 hn; exact absurd hn (Nat.not_lt_zero _)
      | succ n ih26 =>
        intro x8 M9 hn hf
        refine li_iload_n 0 dX4_passDay_26 rfl ?_
        refine li_aload_n 1 dX4_passDay_27 rfl ?_
        refine li_geti (k := 2) (N := 11) (T := TX4) (C0 := RX4) dX4_passDay_28 (by decide) sh_13 rfl rfl (by decide) li_in4 w_238 ?_
        refine li_top (fun x10 ex10 => ?_)
        refine li_icmp_ge 68 dX4_passDay_31 (by decide) (fun c11 => ?_) (fun c11 => ?_)
        · refine li_aload_n 1 dX4_passDay_68 rfl ?_
          refine li_geti (k := 0) (N := 11) (T := TX4) (C0 := RX4) dX4_passDay_69 (by decide) sh_13 rfl rfl (by decide) li_in4 w_232 ?_
          refine li_top (fun x12 ex12 => ?_)
          refine li_bipush 100 dX4_passDay_72 (by decide) ?_
          refine li_irem dX4_passDay_74 (by decide) ?_
          refine li_top (fun x13 ex13 => ?_)
          refine li_if_ne 83 dX4_passDay_75 (by decide) (fun c14 => ?_) (fun c14 => ?_)
          · exact li_vret dX4_passDay_83 rfl ⟨rfl, hf⟩
          · refine li_aload_n 1 dX4_passDay_78 rfl ?_
            refine li_aload_n 2 dX4_passDay_79 rfl ?_
            refine li_callV (n := 1) (As := [.ref (Z.2.2 5)]) dX4_passDay_80 (k_X4_beginYear (d - 1) (by omega)  M9) (by omega) (Nat.le_of_ble_eq_true rfl) w_967 w_969 w_21 w_108 w_970 (by decide +kernel) rfl (by decide) sh_13 rfl rfl (Nat.le_of_ble_eq_true rfl) (fun r M16 h17 => ?_)
            obtain ⟨rfl, h17⟩ := h17
            have hf := li_fr_trans hf h17 (fun i (h : i = 13 ∨ i = 14 ∨ i = 15) => (show i = 13 ∨ i = 14 ∨ i = 15 ∨ i = 16 ∨ i = 20 by omega))
            exact li_vret dX4_passDay_83 rfl ⟨rfl, hf⟩
        · refine li_aload_n 1 dX4_passDay_34 rfl ?_
          refine li_iload_n 0 dX4_passDay_35 rfl ?_
          refine li_callV (n := 1) (As := [.int x8]) dX4_passDay_36 (k_X4_isOpen (d - 1) (by omega) x8 M9) (by omega) (Nat.le_of_ble_eq_true rfl) w_953 w_954 w_955 w_108 w_956 (by decide +kernel) rfl (by decide) sh_13 rfl rfl (Nat.le_of_ble_eq_true rfl) (fun r M19 h20 => ?_)
          obtain ⟨⟨x18, rfl, bx18⟩, h20⟩ := h20
          have hf := li_fr_trans hf h20 (fun i h => False.elim h)
          have J62 : ∀  (M22 : li_M), li_fr (fun i => i = 13 ∨ i = 14 ∨ i = 15 ∨ i = 16 ∨ i = 20) M0 M22 → li_T l Z YX4_passDay d 62 [(2, .int x8), (0, .ref (Z.2.2 13)), (1, .ref (Z.2.2 5))] [] M22 (li_SV (fun i => i = 13 ∨ i = 14 ∨ i = 15 ∨ i = 16 ∨ i = 20) M0) := by
            intro  M22 hf
            obtain ⟨x23, ex23⟩ : ∃ y : Int32, y = x8 + 1 := ⟨_, rfl⟩
            refine li_iinc 0 [(2, .int x23), (0, .ref (Z.2.2 13)), (1, .ref (Z.2.2 5))] x23 dX4_passDay_62 rfl (by rw [ex23]; rfl) (by decide) rfl ?_
            refine li_goto 26 dX4_passDay_65 (by decide) ?_
            refine li_pick [0, 1, 2] [(2, .int x23), (0, .ref (Z.2.2 13)), (1, .ref (Z.2.2 5))] rfl ?_
            exact ih26 x23 M22 (by have h9 := li_up (li_gt c11); rw [← ex23] at h9; omega) hf
          refine li_if_eq 62 dX4_passDay_39 (by decide) (fun c21 => ?_) (fun c21 => ?_)
          · refine li_pick [0, 1, 2] [(2, .int x8), (0, .ref (Z.2.2 13)), (1, .ref (Z.2.2 5))] rfl ?_
            exact J62  M19 hf
          · refine li_aload_n 1 dX4_passDay_42 rfl ?_
            refine li_getr (k := 9) (N := 11) (T := TX4) (C0 := RX4) dX4_passDay_43 (by decide) sh_13 rfl rfl (by decide) (by decide) li_in4 w_255 ?_
            refine li_iload_n 0 dX4_passDay_46 rfl ?_
            refine li_callN (n := 2) (As := [.ref (Z.2.2 19), .int x8]) dX4_passDay_47 (k_X11_at (d - 1) (by omega) (by decide) sh_19 (by decide) x8 M19) (by omega) (Nat.le_of_ble_eq_true rfl) nw_14 w_589 w_104 w_590 (by decide +kernel) rfl rfl (Nat.le_of_ble_eq_true rfl) (fun r M25 h26 => ?_)
            obtain ⟨⟨x24, rfl⟩, h26⟩ := h26
            have hf := li_fr_trans hf h26 (fun i h => False.elim h)
            refine li_aload_n 1 dX4_passDay_50 rfl ?_
            refine li_geti (k := 0) (N := 11) (T := TX4) (C0 := RX4) dX4_passDay_51 (by decide) sh_13 rfl rfl (by decide) li_in4 w_232 ?_
            refine li_top (fun x27 ex27 => ?_)
            refine li_icmp_ne 62 dX4_passDay_54 (by decide) (fun c28 => ?_) (fun c28 => ?_)
            · refine li_pick [0, 1, 2] [(2, .int x8), (0, .ref (Z.2.2 13)), (1, .ref (Z.2.2 5))] rfl ?_
              exact J62  M25 hf
            · refine li_aload_n 1 dX4_passDay_57 rfl ?_
              refine li_iload_n 0 dX4_passDay_58 rfl ?_
              refine li_callV (n := 1) (As := [.int x8]) dX4_passDay_59 (k_X4_settle (d - 1) (by omega) x8 M25) (by omega) (Nat.le_of_ble_eq_true rfl) w_959 w_961 w_20 w_108 w_962 (by decide +kernel) rfl (by decide) sh_13 rfl rfl (Nat.le_of_ble_eq_true rfl) (fun r M30 h31 => ?_)
              obtain ⟨rfl, h31⟩ := h31
              have hf := li_fr_trans hf h31 (fun i (h : i = 13 ∨ i = 14 ∨ i = 16) => (show i = 13 ∨ i = 14 ∨ i = 15 ∨ i = 16 ∨ i = 20 by omega))
              refine li_pick [0, 1, 2] [(2, .int x8), (0, .ref (Z.2.2 13)), (1, .ref (Z.2.2 5))] rfl ?_
              exact J62  M30 hf
    exact L26 _ 0 M7 (Nat.lt_succ_self _) hf
  refine li_if_ne 24 dX4_passDay_17 (by decide) (fun c6 => ?_) (fun c6 => ?_)
  · refine li_pick [0, 1] [(0, .ref (Z.2.2 13)), (1, .ref (Z.2.2 5))] rfl ?_
    exact J24  M3 hf
  · refine li_aload_n 0 dX4_passDay_20 rfl ?_
    refine li_callV (n := 0) (As := []) dX4_passDay_21 (k_X4_addTenths (d - 1) (by omega)  M3) (by omega) (Nat.le_of_ble_eq_true rfl) w_949 w_951 w_19 w_108 w_952 (by decide +kernel) rfl (by decide) sh_13 rfl rfl (Nat.le_of_ble_eq_true rfl) (fun r M33 h34 => ?_)
    obtain ⟨rfl, h34⟩ := h34
    have hf := li_fr_trans hf h34 (fun i (h : i = 20) => (show i = 13 ∨ i = 14 ∨ i = 15 ∨ i = 16 ∨ i = 20 by omega))
    refine li_pick [0, 1] [(0, .ref (Z.2.2 13)), (1, .ref (Z.2.2 5))] rfl ?_
    exact J24  M33 hf
set_option maxRecDepth 100000 in
set_option maxHeartbeats 4000000 in
theorem k_X4_isStruckBy {l : Launch} {Z : li_Z} (d : Nat) (hd : 5 ≤ d) (p1 : Int32) (p2 : Int32) (M0 : li_M) : li_Met l Z YX4_isStruckBy d [.ref (Z.2.2 13), .int p1, .int p2] M0 (li_SZ (fun i => False) M0) := by
  refine li_enter (by decide +kernel) (Nat.le_of_ble_eq_true rfl) ?_
  show li_T l Z YX4_isStruckBy d 0 [(0, .ref (Z.2.2 13)), (1, .int p1), (2, .int p2)] [] M0 _
  have hf : li_fr (fun i => False) M0 M0 := li_fr_refl
  refine li_aload_n 0 dX4_isStruckBy_0 rfl ?_
  refine li_iload_n 1 dX4_isStruckBy_1 rfl ?_
  refine li_iload_n 2 dX4_isStruckBy_2 rfl ?_
  refine li_callV (n := 2) (As := [.int p1, .int p2]) dX4_isStruckBy_3 (k_X4_owedToBut (d - 1) (by omega) p1 p2 M0) (by omega) (Nat.le_of_ble_eq_true rfl) w_1299 w_1300 w_1301 w_108 w_1302 (by decide +kernel) rfl (by decide) sh_13 rfl rfl (Nat.le_of_ble_eq_true rfl) (fun r M2 h3 => ?_)
  obtain ⟨⟨x1, rfl⟩, h3⟩ := h3
  have hf := li_fr_trans hf h3 (fun i h => False.elim h)
  refine li_lstore_n [(3, .long x1), (0, .ref (Z.2.2 13)), (1, .int p1), (2, .int p2)] dX4_isStruckBy_6 (by decide) rfl ?_
  refine li_lload_n 0 dX4_isStruckBy_7 rfl ?_
  refine li_aload_n 1 dX4_isStruckBy_8 rfl ?_
  refine li_iload_n 2 dX4_isStruckBy_9 rfl ?_
  refine li_callV (n := 1) (As := [.int p1]) dX4_isStruckBy_10 (k_X4_owedTo (d - 1) (by omega) p1 M2) (by omega) (Nat.le_of_ble_eq_true rfl) w_1303 w_1304 w_1305 w_108 w_1306 (by decide +kernel) rfl (by decide) sh_13 rfl rfl (Nat.le_of_ble_eq_true rfl) (fun r M5 h6 => ?_)
  obtain ⟨⟨x4, rfl⟩, h6⟩ := h6
  have hf := li_fr_trans hf h6 (fun i h => False.elim h)
  refine li_lcmp dX4_isStruckBy_13 ?_
  refine li_top (fun x7 ex7 => ?_)
  refine li_if_ge 41 dX4_isStruckBy_14 (by decide) (fun c8 => ?_) (fun c8 => ?_)
  · refine li_iconst 0 dX4_isStruckBy_41 (by decide) ?_
    exact li_iret dX4_isStruckBy_42 rfl (li_nz (Or.inl rfl)) ⟨⟨_, rfl, Or.inl rfl⟩, hf⟩
  · refine li_aload_n 1 dX4_isStruckBy_17 rfl ?_
    refine li_getr (k := 4) (N := 11) (T := TX4) (C0 := RX4) dX4_isStruckBy_18 (by decide) sh_13 rfl rfl (by decide) (by decide) li_in4 w_242 ?_
    refine li_iload_n 2 dX4_isStruckBy_21 rfl ?_
    refine li_callN (n := 2) (As := [.ref (Z.2.2 14), .int p1]) dX4_isStruckBy_22 (k_X11_at (d - 1) (by omega) (by decide) sh_14 (by decide) p1 M5) (by omega) (Nat.le_of_ble_eq_true rfl) nw_14 w_589 w_104 w_590 (by decide +kernel) rfl rfl (Nat.le_of_ble_eq_true rfl) (fun r M10 h11 => ?_)
    obtain ⟨⟨x9, rfl⟩, h11⟩ := h11
    have hf := li_fr_trans hf h11 (fun i h => False.elim h)
    refine li_i2l dX4_isStruckBy_25 ?_
    refine li_topL (fun x12 ex12 => ?_)
    refine li_lload_n 0 dX4_isStruckBy_26 rfl ?_
    refine li_ladd dX4_isStruckBy_27 ?_
    refine li_topL (fun x13 ex13 => ?_)
    refine li_aload_n 1 dX4_isStruckBy_28 rfl ?_
    refine li_iload_n 2 dX4_isStruckBy_29 rfl ?_
    refine li_callV (n := 1) (As := [.int p1]) dX4_isStruckBy_30 (k_X4_owedBy (d - 1) (by omega) p1 M10) (by omega) (Nat.le_of_ble_eq_true rfl) w_1287 w_1288 w_1289 w_108 w_1290 (by decide +kernel) rfl (by decide) sh_13 rfl rfl (Nat.le_of_ble_eq_true rfl) (fun r M15 h16 => ?_)
    obtain ⟨⟨x14, rfl⟩, h16⟩ := h16
    have hf := li_fr_trans hf h16 (fun i h => False.elim h)
    refine li_lcmp dX4_isStruckBy_33 ?_
    refine li_top (fun x17 ex17 => ?_)
    refine li_if_ge 41 dX4_isStruckBy_34 (by decide) (fun c18 => ?_) (fun c18 => ?_)
    · refine li_iconst 0 dX4_isStruckBy_41 (by decide) ?_
      exact li_iret dX4_isStruckBy_42 rfl (li_nz (Or.inl rfl)) ⟨⟨_, rfl, Or.inl rfl⟩, hf⟩
    · refine li_iconst 1 dX4_isStruckBy_37 (by decide) ?_
      refine li_goto 42 dX4_isStruckBy_38 (by decide) ?_
      exact li_iret dX4_isStruckBy_42 rfl (li_nz (Or.inr rfl)) ⟨⟨_, rfl, Or.inr rfl⟩, hf⟩
set_option maxRecDepth 100000 in
set_option maxHeartbeats 4000000 in
theorem k_X4_struckWith {l : Launch} {Z : li_Z} (d : Nat) (hd : 6 ≤ d) (p1 : Int32) (p2 : Int32) (M0 : li_M) : li_Met l Z YX4_struckWith d [.ref (Z.2.2 13), .int p1, .int p2] M0 (li_SI (fun i => False) M0) := by
  refine li_enter (by decide +kernel) (Nat.le_of_ble_eq_true rfl) ?_
  show li_T l Z YX4_struckWith d 0 [(0, .ref (Z.2.2 13)), (1, .int p1), (2, .int p2)] [] M0 _
  have hf : li_fr (fun i => False) M0 M0 := li_fr_refl
  refine li_aload_n 0 dX4_struckWith_0 rfl ?_
  refine li_iload_n 1 dX4_struckWith_1 rfl ?_
  refine li_callV (n := 1) (As := [.int p1]) dX4_struckWith_2 (k_X4_owedBy (d - 1) (by omega) p1 M0) (by omega) (Nat.le_of_ble_eq_true rfl) w_1287 w_1288 w_1289 w_108 w_1290 (by decide +kernel) rfl (by decide) sh_13 rfl rfl (Nat.le_of_ble_eq_true rfl) (fun r M2 h3 => ?_)
  obtain ⟨⟨x1, rfl⟩, h3⟩ := h3
  have hf := li_fr_trans hf h3 (fun i h => False.elim h)
  refine li_lconst 0 dX4_struckWith_5 (by decide) ?_
  refine li_lcmp dX4_struckWith_6 ?_
  refine li_top (fun x4 ex4 => ?_)
  refine li_if_ne 12 dX4_struckWith_7 (by decide) (fun c5 => ?_) (fun c5 => ?_)
  · refine li_iconst 1 dX4_struckWith_12 (by decide) ?_
    refine li_iload_n 1 dX4_struckWith_13 rfl ?_
    refine li_ishl dX4_struckWith_14 ?_
    refine li_top (fun x6 ex6 => ?_)
    refine li_istore_n [(3, .int x6), (0, .ref (Z.2.2 13)), (1, .int p1), (2, .int p2)] dX4_struckWith_15 (by decide) rfl ?_
    refine li_iconst 0 dX4_struckWith_16 (by decide) ?_
    refine li_istore [(4, .int 0), (3, .int x6), (0, .ref (Z.2.2 13)), (1, .int p1), (2, .int p2)] dX4_struckWith_17 (by decide) rfl ?_
    have L19 : ∀ (n : Nat) (x7 : Int32) (x8 : Int32) (M9 : li_M), (2147483647 - (x7 : Int32).toInt).toNat < n → li_fr (fun i => False) M0 M9 → li_T l Z YX4_struckWith d 19 [(4, .int x7), (3, .int x8), (0, .ref (Z.2.2 13)), (1, .int p1), (2, .int p2)] [] M9 (li_SI (fun i => False) M0) := by
      intro n
      induction n with
      | zero => intro x7 x8 M9 hn; exact absurd hn (Nat.not_lt_zero _)
      | succ n ih19 =>
        intro x7 x8 M9 hn hf
        refine li_iload 0 dX4_struckWith_19 rfl ?_
        refine li_iload_n 4 dX4_struckWith_21 rfl ?_
        refine li_icmp_ge 72 dX4_struckWith_22 (by decide) (fun c10 => ?_) (fun c10 => ?_)
        · refine li_iload_n 1 dX4_struckWith_72 rfl ?_
          exact li_iret dX4_struckWith_73 rfl rfl ⟨⟨_, rfl⟩, hf⟩
        · refine li_iconst 0 dX4_struckWith_25 (by decide) ?_
          refine li_istore [(5, .int 0), (4, .int x7), (3, .int x8), (0, .ref (Z.2.2 13)), (1, .int p1), (2, .int p2)] dX4_struckWith_26 (by decide) rfl ?_
          have L28 : ∀ (n : Nat) (x11 : Int32) (x12 : Int32) (M13 : li_M), (2147483647 - (x11 : Int32).toInt).toNat < n → li_fr (fun i => False) M0 M13 → li_T l Z YX4_struckWith d 28 [(5, .int x11), (4, .int x7), (3, .int x12), (0, .ref (Z.2.2 13)), (1, .int p1), (2, .int p2)] [] M13 (li_SI (fun i => False) M0) := by
            intro n
            induction n with
            | zero => intro x11 x12 M13 hn; exact absurd hn (Nat.not_lt_zero _)
            | succ n ih28 =>
              intro x11 x12 M13 hn hf
              refine li_iload 0 dX4_struckWith_28 rfl ?_
              refine li_iload_n 5 dX4_struckWith_30 rfl ?_
              refine li_icmp_ge 66 dX4_struckWith_31 (by decide) (fun c14 => ?_) (fun c14 => ?_)
              · obtain ⟨x15, ex15⟩ : ∃ y : Int32, y = x7 + 1 := ⟨_, rfl⟩
                refine li_iinc 1 [(4, .int x15), (5, .int x11), (3, .int x12), (0, .ref (Z.2.2 13)), (1, .int p1), (2, .int p2)] x15 dX4_struckWith_66 rfl (by rw [ex15]; rfl) (by decide) rfl ?_
                refine li_goto 19 dX4_struckWith_69 (by decide) ?_
                refine li_pick [0, 2, 3, 4, 5] [(4, .int x15), (3, .int x12), (0, .ref (Z.2.2 13)), (1, .int p1), (2, .int p2)] rfl ?_
                exact ih19 x15 x12 M13 (by have h9 := li_up (li_gt c10); rw [← ex15] at h9; omega) hf
              · refine li_iload_n 2 dX4_struckWith_34 rfl ?_
                refine li_iload 0 dX4_struckWith_35 rfl ?_
                refine li_callN (n := 2) (As := [.int x12, .int x11]) dX4_struckWith_37 (k_X11_holds (d - 1) (by omega) x12 x11 M13) (by omega) (Nat.le_of_ble_eq_true rfl) nw_23 w_877 w_104 w_878 (by decide +kernel) rfl rfl (Nat.le_of_ble_eq_true rfl) (fun r M17 h18 => ?_)
                obtain ⟨⟨x16, rfl, bx16⟩, h18⟩ := h18
                have hf := li_fr_trans hf h18 (fun i h => False.elim h)
                have J60 : ∀ (x20 : Int32) (M21 : li_M), li_fr (fun i => False) M0 M21 → li_T l Z YX4_struckWith d 60 [(5, .int x11), (4, .int x7), (3, .int x20), (0, .ref (Z.2.2 13)), (1, .int p1), (2, .int p2)] [] M21 (li_SI (fun i => False) M0) := by
                  intro x20 M21 hf
                  obtain ⟨x22, ex22⟩ : ∃ y : Int32, y = x11 + 1 := ⟨_, rfl⟩
                  refine li_iinc 0 [(5, .int x22), (4, .int x7), (3, .int x20), (0, .ref (Z.2.2 13)), (1, .int p1), (2, .int p2)] x22 dX4_struckWith_60 rfl (by rw [ex22]; rfl) (by decide) rfl ?_
                  refine li_goto 28 dX4_struckWith_63 (by decide) ?_
                  refine li_pick [0, 1, 2, 3, 4, 5] [(5, .int x22), (4, .int x7), (3, .int x20), (0, .ref (Z.2.2 13)), (1, .int p1), (2, .int p2)] rfl ?_
                  exact ih28 x22 x20 M21 (by have h9 := li_up (li_gt c14); rw [← ex22] at h9; omega) hf
                refine li_if_ne 60 dX4_struckWith_40 (by decide) (fun c19 => ?_) (fun c19 => ?_)
                · refine li_pick [0, 1, 2, 3, 4, 5] [(5, .int x11), (4, .int x7), (3, .int x12), (0, .ref (Z.2.2 13)), (1, .int p1), (2, .int p2)] rfl ?_
                  exact J60 x12 M17 hf
                · refine li_aload_n 3 dX4_struckWith_43 rfl ?_
                  refine li_iload 0 dX4_struckWith_44 rfl ?_
                  refine li_iload_n 2 dX4_struckWith_46 rfl ?_
                  refine li_callV (n := 2) (As := [.int x11, .int x12]) dX4_struckWith_47 (k_X4_isStruckBy (d - 1) (by omega) x11 x12 M17) (by omega) (Nat.le_of_ble_eq_true rfl) w_1295 w_1297 w_43 w_108 w_1298 (by decide +kernel) rfl (by decide) sh_13 rfl rfl (Nat.le_of_ble_eq_true rfl) (fun r M24 h25 => ?_)
                  obtain ⟨⟨x23, rfl, bx23⟩, h25⟩ := h25
                  have hf := li_fr_trans hf h25 (fun i h => False.elim h)
                  refine li_if_eq 60 dX4_struckWith_50 (by decide) (fun c26 => ?_) (fun c26 => ?_)
                  · refine li_pick [0, 1, 2, 3, 4, 5] [(5, .int x11), (4, .int x7), (3, .int x12), (0, .ref (Z.2.2 13)), (1, .int p1), (2, .int p2)] rfl ?_
                    exact J60 x12 M24 hf
                  · refine li_iload_n 2 dX4_struckWith_53 rfl ?_
                    refine li_iconst 1 dX4_struckWith_54 (by decide) ?_
                    refine li_iload 0 dX4_struckWith_55 rfl ?_
                    refine li_ishl dX4_struckWith_57 ?_
                    refine li_top (fun x27 ex27 => ?_)
                    refine li_ior dX4_struckWith_58 ?_
                    refine li_top (fun x28 ex28 => ?_)
                    refine li_istore_n [(3, .int x28), (5, .int x11), (4, .int x7), (0, .ref (Z.2.2 13)), (1, .int p1), (2, .int p2)] dX4_struckWith_59 (by decide) rfl ?_
                    refine li_pick [1, 2, 0, 3, 4, 5] [(5, .int x11), (4, .int x7), (3, .int x28), (0, .ref (Z.2.2 13)), (1, .int p1), (2, .int p2)] rfl ?_
                    exact J60 x28 M24 hf
          exact L28 _ 0 x8 M9 (Nat.lt_succ_self _) hf
    exact L19 _ 0 x6 M2 (Nat.lt_succ_self _) hf
  · refine li_iconst 0 dX4_struckWith_10 (by decide) ?_
    exact li_iret dX4_struckWith_11 rfl rfl ⟨⟨_, rfl⟩, hf⟩
end
section
theorem w_122 : (Jvm.Cond.initialized "java/lang/System") ∈ li_ws := li_mem 122 (by decide +kernel) (by decide +kernel)
theorem w_772 : (Jvm.Cond.static ({ cls := "java/lang/System", name := "arraycopy", desc := "(Ljava/lang/Object;ILjava/lang/Object;II)V" } : Jvm.MethodName)) ∈ li_ws := li_mem 772 (by decide +kernel) (by decide +kernel)
theorem w_773 : (Jvm.Cond.native ({ cls := "java/lang/System", name := "arraycopy", desc := "(Ljava/lang/Object;ILjava/lang/Object;II)V" } : Jvm.MethodName)) ∈ li_ws := li_mem 773 (by decide +kernel) (by decide +kernel)
theorem w_871 : (Jvm.Cond.methodLink "ClockForTalk$Ledger" (47 : Nat) ({ cls := "java/lang/System", name := "arraycopy", desc := "(Ljava/lang/Object;ILjava/lang/Object;II)V" } : Jvm.MethodName)) ∈ li_ws := li_mem 871 (by decide +kernel) (by decide +kernel)
theorem dX4_copyFrom_0 : decode cX4_copyFrom 0 = .ok (.aload_n 1, 1) := by decide +kernel
theorem dX4_copyFrom_1 : decode cX4_copyFrom 1 = .ok (.ifnonnull 4, 3) := by decide +kernel
theorem dX4_copyFrom_4 : decode cX4_copyFrom 4 = .ok (.return_, 1) := by decide +kernel
theorem dX4_copyFrom_5 : decode cX4_copyFrom 5 = .ok (.aload_n 0, 1) := by decide +kernel
theorem dX4_copyFrom_6 : decode cX4_copyFrom 6 = .ok (.aload_n 1, 1) := by decide +kernel
theorem dX4_copyFrom_7 : decode cX4_copyFrom 7 = .ok (.getfield 34, 3) := by decide +kernel
theorem dX4_copyFrom_10 : decode cX4_copyFrom 10 = .ok (.putfield 34, 3) := by decide +kernel
theorem dX4_copyFrom_13 : decode cX4_copyFrom 13 = .ok (.aload_n 0, 1) := by decide +kernel
theorem dX4_copyFrom_14 : decode cX4_copyFrom 14 = .ok (.aload_n 1, 1) := by decide +kernel
theorem dX4_copyFrom_15 : decode cX4_copyFrom 15 = .ok (.getfield 38, 3) := by decide +kernel
theorem dX4_copyFrom_18 : decode cX4_copyFrom 18 = .ok (.putfield 38, 3) := by decide +kernel
theorem dX4_copyFrom_21 : decode cX4_copyFrom 21 = .ok (.aload_n 0, 1) := by decide +kernel
theorem dX4_copyFrom_22 : decode cX4_copyFrom 22 = .ok (.aload_n 1, 1) := by decide +kernel
theorem dX4_copyFrom_23 : decode cX4_copyFrom 23 = .ok (.getfield 41, 3) := by decide +kernel
theorem dX4_copyFrom_26 : decode cX4_copyFrom 26 = .ok (.putfield 41, 3) := by decide +kernel
theorem dX4_copyFrom_29 : decode cX4_copyFrom 29 = .ok (.aload_n 0, 1) := by decide +kernel
theorem dX4_copyFrom_30 : decode cX4_copyFrom 30 = .ok (.aload_n 1, 1) := by decide +kernel
theorem dX4_copyFrom_31 : decode cX4_copyFrom 31 = .ok (.getfield 44, 3) := by decide +kernel
theorem dX4_copyFrom_34 : decode cX4_copyFrom 34 = .ok (.putfield 44, 3) := by decide +kernel
theorem dX4_copyFrom_37 : decode cX4_copyFrom 37 = .ok (.aload_n 1, 1) := by decide +kernel
theorem dX4_copyFrom_38 : decode cX4_copyFrom 38 = .ok (.getfield 9, 3) := by decide +kernel
theorem dX4_copyFrom_41 : decode cX4_copyFrom 41 = .ok (.iconst 0, 1) := by decide +kernel
theorem dX4_copyFrom_42 : decode cX4_copyFrom 42 = .ok (.aload_n 0, 1) := by decide +kernel
theorem dX4_copyFrom_43 : decode cX4_copyFrom 43 = .ok (.getfield 9, 3) := by decide +kernel
theorem dX4_copyFrom_46 : decode cX4_copyFrom 46 = .ok (.iconst 0, 1) := by decide +kernel
theorem dX4_copyFrom_47 : decode cX4_copyFrom 47 = .ok (.bipush 6, 2) := by decide +kernel
theorem dX4_copyFrom_49 : decode cX4_copyFrom 49 = .ok (.invokestatic 47, 3) := by decide +kernel
theorem dX4_copyFrom_52 : decode cX4_copyFrom 52 = .ok (.aload_n 1, 1) := by decide +kernel
theorem dX4_copyFrom_53 : decode cX4_copyFrom 53 = .ok (.getfield 15, 3) := by decide +kernel
theorem dX4_copyFrom_56 : decode cX4_copyFrom 56 = .ok (.iconst 0, 1) := by decide +kernel
theorem dX4_copyFrom_57 : decode cX4_copyFrom 57 = .ok (.aload_n 0, 1) := by decide +kernel
theorem dX4_copyFrom_58 : decode cX4_copyFrom 58 = .ok (.getfield 15, 3) := by decide +kernel
theorem dX4_copyFrom_61 : decode cX4_copyFrom 61 = .ok (.iconst 0, 1) := by decide +kernel
theorem dX4_copyFrom_62 : decode cX4_copyFrom 62 = .ok (.bipush 6, 2) := by decide +kernel
theorem dX4_copyFrom_64 : decode cX4_copyFrom 64 = .ok (.invokestatic 47, 3) := by decide +kernel
theorem dX4_copyFrom_67 : decode cX4_copyFrom 67 = .ok (.aload_n 1, 1) := by decide +kernel
theorem dX4_copyFrom_68 : decode cX4_copyFrom 68 = .ok (.getfield 18, 3) := by decide +kernel
theorem dX4_copyFrom_71 : decode cX4_copyFrom 71 = .ok (.iconst 0, 1) := by decide +kernel
theorem dX4_copyFrom_72 : decode cX4_copyFrom 72 = .ok (.aload_n 0, 1) := by decide +kernel
theorem dX4_copyFrom_73 : decode cX4_copyFrom 73 = .ok (.getfield 18, 3) := by decide +kernel
theorem dX4_copyFrom_76 : decode cX4_copyFrom 76 = .ok (.iconst 0, 1) := by decide +kernel
theorem dX4_copyFrom_77 : decode cX4_copyFrom 77 = .ok (.bipush 6, 2) := by decide +kernel
theorem dX4_copyFrom_79 : decode cX4_copyFrom 79 = .ok (.invokestatic 47, 3) := by decide +kernel
theorem dX4_copyFrom_82 : decode cX4_copyFrom 82 = .ok (.aload_n 1, 1) := by decide +kernel
theorem dX4_copyFrom_83 : decode cX4_copyFrom 83 = .ok (.getfield 22, 3) := by decide +kernel
theorem dX4_copyFrom_86 : decode cX4_copyFrom 86 = .ok (.iconst 0, 1) := by decide +kernel
theorem dX4_copyFrom_87 : decode cX4_copyFrom 87 = .ok (.aload_n 0, 1) := by decide +kernel
theorem dX4_copyFrom_88 : decode cX4_copyFrom 88 = .ok (.getfield 22, 3) := by decide +kernel
theorem dX4_copyFrom_91 : decode cX4_copyFrom 91 = .ok (.iconst 0, 1) := by decide +kernel
theorem dX4_copyFrom_92 : decode cX4_copyFrom 92 = .ok (.bipush 6, 2) := by decide +kernel
theorem dX4_copyFrom_94 : decode cX4_copyFrom 94 = .ok (.invokestatic 47, 3) := by decide +kernel
theorem dX4_copyFrom_97 : decode cX4_copyFrom 97 = .ok (.aload_n 1, 1) := by decide +kernel
theorem dX4_copyFrom_98 : decode cX4_copyFrom 98 = .ok (.getfield 25, 3) := by decide +kernel
theorem dX4_copyFrom_101 : decode cX4_copyFrom 101 = .ok (.iconst 0, 1) := by decide +kernel
theorem dX4_copyFrom_102 : decode cX4_copyFrom 102 = .ok (.aload_n 0, 1) := by decide +kernel
theorem dX4_copyFrom_103 : decode cX4_copyFrom 103 = .ok (.getfield 25, 3) := by decide +kernel
theorem dX4_copyFrom_106 : decode cX4_copyFrom 106 = .ok (.iconst 0, 1) := by decide +kernel
theorem dX4_copyFrom_107 : decode cX4_copyFrom 107 = .ok (.bipush 6, 2) := by decide +kernel
theorem dX4_copyFrom_109 : decode cX4_copyFrom 109 = .ok (.invokestatic 47, 3) := by decide +kernel
theorem dX4_copyFrom_112 : decode cX4_copyFrom 112 = .ok (.aload_n 1, 1) := by decide +kernel
theorem dX4_copyFrom_113 : decode cX4_copyFrom 113 = .ok (.getfield 28, 3) := by decide +kernel
theorem dX4_copyFrom_116 : decode cX4_copyFrom 116 = .ok (.iconst 0, 1) := by decide +kernel
theorem dX4_copyFrom_117 : decode cX4_copyFrom 117 = .ok (.aload_n 0, 1) := by decide +kernel
theorem dX4_copyFrom_118 : decode cX4_copyFrom 118 = .ok (.getfield 28, 3) := by decide +kernel
theorem dX4_copyFrom_121 : decode cX4_copyFrom 121 = .ok (.iconst 0, 1) := by decide +kernel
theorem dX4_copyFrom_122 : decode cX4_copyFrom 122 = .ok (.bipush 6, 2) := by decide +kernel
theorem dX4_copyFrom_124 : decode cX4_copyFrom 124 = .ok (.invokestatic 47, 3) := by decide +kernel
theorem dX4_copyFrom_127 : decode cX4_copyFrom 127 = .ok (.aload_n 1, 1) := by decide +kernel
theorem dX4_copyFrom_128 : decode cX4_copyFrom 128 = .ok (.getfield 31, 3) := by decide +kernel
theorem dX4_copyFrom_131 : decode cX4_copyFrom 131 = .ok (.iconst 0, 1) := by decide +kernel
theorem dX4_copyFrom_132 : decode cX4_copyFrom 132 = .ok (.aload_n 0, 1) := by decide +kernel
theorem dX4_copyFrom_133 : decode cX4_copyFrom 133 = .ok (.getfield 31, 3) := by decide +kernel
theorem dX4_copyFrom_136 : decode cX4_copyFrom 136 = .ok (.iconst 0, 1) := by decide +kernel
theorem dX4_copyFrom_137 : decode cX4_copyFrom 137 = .ok (.bipush 6, 2) := by decide +kernel
theorem dX4_copyFrom_139 : decode cX4_copyFrom 139 = .ok (.invokestatic 47, 3) := by decide +kernel
theorem dX4_copyFrom_142 : decode cX4_copyFrom 142 = .ok (.return_, 1) := by decide +kernel
abbrev YX4_copyFrom : li_Y := (yX4_copyFrom, cX4_copyFrom, 2, none)
set_option maxRecDepth 100000 in
set_option maxHeartbeats 4000000 in
theorem k_X4_copyFrom {l : Launch} {Z : li_Z} (d : Nat) (hd : 1 ≤ d) {b : Nat} (hb : li_lg b) {o : Nat} (ho : li_lg o) (M0 : li_M) : li_Met l Z YX4_copyFrom d [.ref (Z.2.2 b), .ref (Z.2.2 o)] M0 (li_SV (fun i => i = b ∨ i = b + 1 ∨ i = b + 2 ∨ i = b + 3 ∨ i = b + 4 ∨ i = b + 5 ∨ i = b + 6 ∨ i = b + 7) M0) := by
  refine li_enter (by decide +kernel) (Nat.le_of_ble_eq_true rfl) ?_
  show li_T l Z YX4_copyFrom d 0 [(0, .ref (Z.2.2 b)), (1, .ref (Z.2.2 o))] [] M0 _
  have hf : li_fr (fun i => i = b ∨ i = b + 1 ∨ i = b + 2 ∨ i = b + 3 ∨ i = b + 4 ∨ i = b + 5 ∨ i = b + 6 ∨ i = b + 7) M0 M0 := li_fr_refl
  refine li_aload_n 1 dX4_copyFrom_0 rfl ?_
  refine li_ifnonnull 5 dX4_copyFrom_1 (by decide) ?_
  refine li_aload_n 0 dX4_copyFrom_5 rfl ?_
  refine li_aload_n 1 dX4_copyFrom_6 rfl ?_
  refine li_geti (k := 0) (N := 11) (T := TX4) (C0 := RX4) dX4_copyFrom_7 (snL0 ho) (shL0 ho) rfl rfl (by decide) li_in4 w_232 ?_
  refine li_top (fun x1 ex1 => ?_)
  refine li_puti (k := 0) (N := 11) (T := TX4) (C0 := RX4) dX4_copyFrom_10 (snL0 hb) (shL0 hb) rfl rfl (by decide) li_in4 tyX4_ok nmX4 rfl rfl rfl rfl w_232 ?_
  refine li_nm (fun M2 eM2 => ?_)
  have hf := li_fr_ui hf (show b = b ∨ b = b + 1 ∨ b = b + 2 ∨ b = b + 3 ∨ b = b + 4 ∨ b = b + 5 ∨ b = b + 6 ∨ b = b + 7 by omega) eM2
  refine li_aload_n 0 dX4_copyFrom_13 rfl ?_
  refine li_aload_n 1 dX4_copyFrom_14 rfl ?_
  refine li_geti (k := 1) (N := 11) (T := TX4) (C0 := RX4) dX4_copyFrom_15 (snL0 ho) (shL0 ho) rfl rfl (by decide) li_in4 w_235 ?_
  refine li_top (fun x3 ex3 => ?_)
  refine li_puti (k := 1) (N := 11) (T := TX4) (C0 := RX4) dX4_copyFrom_18 (snL0 hb) (shL0 hb) rfl rfl (by decide) li_in4 tyX4_ok nmX4 rfl rfl rfl rfl w_235 ?_
  refine li_nm (fun M4 eM4 => ?_)
  have hf := li_fr_ui hf (show b = b ∨ b = b + 1 ∨ b = b + 2 ∨ b = b + 3 ∨ b = b + 4 ∨ b = b + 5 ∨ b = b + 6 ∨ b = b + 7 by omega) eM4
  refine li_aload_n 0 dX4_copyFrom_21 rfl ?_
  refine li_aload_n 1 dX4_copyFrom_22 rfl ?_
  refine li_geti (k := 2) (N := 11) (T := TX4) (C0 := RX4) dX4_copyFrom_23 (snL0 ho) (shL0 ho) rfl rfl (by decide) li_in4 w_238 ?_
  refine li_top (fun x5 ex5 => ?_)
  refine li_puti (k := 2) (N := 11) (T := TX4) (C0 := RX4) dX4_copyFrom_26 (snL0 hb) (shL0 hb) rfl rfl (by decide) li_in4 tyX4_ok nmX4 rfl rfl rfl rfl w_238 ?_
  refine li_nm (fun M6 eM6 => ?_)
  have hf := li_fr_ui hf (show b = b ∨ b = b + 1 ∨ b = b + 2 ∨ b = b + 3 ∨ b = b + 4 ∨ b = b + 5 ∨ b = b + 6 ∨ b = b + 7 by omega) eM6
  refine li_aload_n 0 dX4_copyFrom_29 rfl ?_
  refine li_aload_n 1 dX4_copyFrom_30 rfl ?_
  refine li_geti (k := 3) (N := 11) (T := TX4) (C0 := RX4) dX4_copyFrom_31 (snL0 ho) (shL0 ho) rfl rfl (by decide) li_in4 w_240 ?_
  refine li_top (fun x7 ex7 => ?_)
  refine li_puti (k := 3) (N := 11) (T := TX4) (C0 := RX4) dX4_copyFrom_34 (snL0 hb) (shL0 hb) rfl rfl (by decide) li_in4 tyX4_ok nmX4 rfl rfl rfl rfl w_240 ?_
  refine li_nm (fun M8 eM8 => ?_)
  have hf := li_fr_ui hf (show b = b ∨ b = b + 1 ∨ b = b + 2 ∨ b = b + 3 ∨ b = b + 4 ∨ b = b + 5 ∨ b = b + 6 ∨ b = b + 7 by omega) eM8
  refine li_aload_n 1 dX4_copyFrom_37 rfl ?_
  refine li_getr (k := 4) (N := 11) (T := TX4) (C0 := RX4) dX4_copyFrom_38 (snL0 ho) (shL0 ho) rfl rfl (lkL1 ho) (by decide) li_in4 w_242 ?_
  refine li_iconst 0 dX4_copyFrom_41 (by decide) ?_
  refine li_aload_n 0 dX4_copyFrom_42 rfl ?_
  refine li_getr (k := 4) (N := 11) (T := TX4) (C0 := RX4) dX4_copyFrom_43 (snL0 hb) (shL0 hb) rfl rfl (lkL1 hb) (by decide) li_in4 w_242 ?_
  refine li_iconst 0 dX4_copyFrom_46 (by decide) ?_
  refine li_bipush 6 dX4_copyFrom_47 (by decide) ?_
  refine li_copyI dX4_copyFrom_49 (by omega) w_871 w_773 w_772 w_122 (snL1 ho) (shL1 ho) (snL1 hb) (shL1 hb) (by decide) (by decide) (by decide) (Nat.le_of_ble_eq_true rfl) ?_
  refine li_nm (fun M9 eM9 => ?_)
  have hf := li_fr_uc hf (show b + 1 = b ∨ b + 1 = b + 1 ∨ b + 1 = b + 2 ∨ b + 1 = b + 3 ∨ b + 1 = b + 4 ∨ b + 1 = b + 5 ∨ b + 1 = b + 6 ∨ b + 1 = b + 7 by omega) eM9
  refine li_aload_n 1 dX4_copyFrom_52 rfl ?_
  refine li_getr (k := 5) (N := 11) (T := TX4) (C0 := RX4) dX4_copyFrom_53 (snL0 ho) (shL0 ho) rfl rfl (lkL2 ho) (by decide) li_in4 w_247 ?_
  refine li_iconst 0 dX4_copyFrom_56 (by decide) ?_
  refine li_aload_n 0 dX4_copyFrom_57 rfl ?_
  refine li_getr (k := 5) (N := 11) (T := TX4) (C0 := RX4) dX4_copyFrom_58 (snL0 hb) (shL0 hb) rfl rfl (lkL2 hb) (by decide) li_in4 w_247 ?_
  refine li_iconst 0 dX4_copyFrom_61 (by decide) ?_
  refine li_bipush 6 dX4_copyFrom_62 (by decide) ?_
  refine li_copyI dX4_copyFrom_64 (by omega) w_871 w_773 w_772 w_122 (snL2 ho) (shL2 ho) (snL2 hb) (shL2 hb) (by decide) (by decide) (by decide) (Nat.le_of_ble_eq_true rfl) ?_
  refine li_nm (fun M10 eM10 => ?_)
  have hf := li_fr_uc hf (show b + 2 = b ∨ b + 2 = b + 1 ∨ b + 2 = b + 2 ∨ b + 2 = b + 3 ∨ b + 2 = b + 4 ∨ b + 2 = b + 5 ∨ b + 2 = b + 6 ∨ b + 2 = b + 7 by omega) eM10
  refine li_aload_n 1 dX4_copyFrom_67 rfl ?_
  refine li_getr (k := 6) (N := 11) (T := TX4) (C0 := RX4) dX4_copyFrom_68 (snL0 ho) (shL0 ho) rfl rfl (lkL3 ho) (by decide) li_in4 w_249 ?_
  refine li_iconst 0 dX4_copyFrom_71 (by decide) ?_
  refine li_aload_n 0 dX4_copyFrom_72 rfl ?_
  refine li_getr (k := 6) (N := 11) (T := TX4) (C0 := RX4) dX4_copyFrom_73 (snL0 hb) (shL0 hb) rfl rfl (lkL3 hb) (by decide) li_in4 w_249 ?_
  refine li_iconst 0 dX4_copyFrom_76 (by decide) ?_
  refine li_bipush 6 dX4_copyFrom_77 (by decide) ?_
  refine li_copyL dX4_copyFrom_79 (by omega) w_871 w_773 w_772 w_122 (snL3 ho) (shL3 ho) (snL3 hb) (shL3 hb) (by decide) (by decide) (by decide) (Nat.le_of_ble_eq_true rfl) ?_
  refine li_nm (fun M11 eM11 => ?_)
  have hf := li_fr_ucL hf (show b + 3 = b ∨ b + 3 = b + 1 ∨ b + 3 = b + 2 ∨ b + 3 = b + 3 ∨ b + 3 = b + 4 ∨ b + 3 = b + 5 ∨ b + 3 = b + 6 ∨ b + 3 = b + 7 by omega) eM11
  refine li_aload_n 1 dX4_copyFrom_82 rfl ?_
  refine li_getr (k := 7) (N := 11) (T := TX4) (C0 := RX4) dX4_copyFrom_83 (snL0 ho) (shL0 ho) rfl rfl (lkL4 ho) (by decide) li_in4 w_251 ?_
  refine li_iconst 0 dX4_copyFrom_86 (by decide) ?_
  refine li_aload_n 0 dX4_copyFrom_87 rfl ?_
  refine li_getr (k := 7) (N := 11) (T := TX4) (C0 := RX4) dX4_copyFrom_88 (snL0 hb) (shL0 hb) rfl rfl (lkL4 hb) (by decide) li_in4 w_251 ?_
  refine li_iconst 0 dX4_copyFrom_91 (by decide) ?_
  refine li_bipush 6 dX4_copyFrom_92 (by decide) ?_
  refine li_copyI dX4_copyFrom_94 (by omega) w_871 w_773 w_772 w_122 (snL4 ho) (shL4 ho) (snL4 hb) (shL4 hb) (by decide) (by decide) (by decide) (Nat.le_of_ble_eq_true rfl) ?_
  refine li_nm (fun M12 eM12 => ?_)
  have hf := li_fr_uc hf (show b + 4 = b ∨ b + 4 = b + 1 ∨ b + 4 = b + 2 ∨ b + 4 = b + 3 ∨ b + 4 = b + 4 ∨ b + 4 = b + 5 ∨ b + 4 = b + 6 ∨ b + 4 = b + 7 by omega) eM12
  refine li_aload_n 1 dX4_copyFrom_97 rfl ?_
  refine li_getr (k := 8) (N := 11) (T := TX4) (C0 := RX4) dX4_copyFrom_98 (snL0 ho) (shL0 ho) rfl rfl (lkL5 ho) (by decide) li_in4 w_253 ?_
  refine li_iconst 0 dX4_copyFrom_101 (by decide) ?_
  refine li_aload_n 0 dX4_copyFrom_102 rfl ?_
  refine li_getr (k := 8) (N := 11) (T := TX4) (C0 := RX4) dX4_copyFrom_103 (snL0 hb) (shL0 hb) rfl rfl (lkL5 hb) (by decide) li_in4 w_253 ?_
  refine li_iconst 0 dX4_copyFrom_106 (by decide) ?_
  refine li_bipush 6 dX4_copyFrom_107 (by decide) ?_
  refine li_copyI dX4_copyFrom_109 (by omega) w_871 w_773 w_772 w_122 (snL5 ho) (shL5 ho) (snL5 hb) (shL5 hb) (by decide) (by decide) (by decide) (Nat.le_of_ble_eq_true rfl) ?_
  refine li_nm (fun M13 eM13 => ?_)
  have hf := li_fr_uc hf (show b + 5 = b ∨ b + 5 = b + 1 ∨ b + 5 = b + 2 ∨ b + 5 = b + 3 ∨ b + 5 = b + 4 ∨ b + 5 = b + 5 ∨ b + 5 = b + 6 ∨ b + 5 = b + 7 by omega) eM13
  refine li_aload_n 1 dX4_copyFrom_112 rfl ?_
  refine li_getr (k := 9) (N := 11) (T := TX4) (C0 := RX4) dX4_copyFrom_113 (snL0 ho) (shL0 ho) rfl rfl (lkL6 ho) (by decide) li_in4 w_255 ?_
  refine li_iconst 0 dX4_copyFrom_116 (by decide) ?_
  refine li_aload_n 0 dX4_copyFrom_117 rfl ?_
  refine li_getr (k := 9) (N := 11) (T := TX4) (C0 := RX4) dX4_copyFrom_118 (snL0 hb) (shL0 hb) rfl rfl (lkL6 hb) (by decide) li_in4 w_255 ?_
  refine li_iconst 0 dX4_copyFrom_121 (by decide) ?_
  refine li_bipush 6 dX4_copyFrom_122 (by decide) ?_
  refine li_copyI dX4_copyFrom_124 (by omega) w_871 w_773 w_772 w_122 (snL6 ho) (shL6 ho) (snL6 hb) (shL6 hb) (by decide) (by decide) (by decide) (Nat.le_of_ble_eq_true rfl) ?_
  refine li_nm (fun M14 eM14 => ?_)
  have hf := li_fr_uc hf (show b + 6 = b ∨ b + 6 = b + 1 ∨ b + 6 = b + 2 ∨ b + 6 = b + 3 ∨ b + 6 = b + 4 ∨ b + 6 = b + 5 ∨ b + 6 = b + 6 ∨ b + 6 = b + 7 by omega) eM14
  refine li_aload_n 1 dX4_copyFrom_127 rfl ?_
  refine li_getr (k := 10) (N := 11) (T := TX4) (C0 := RX4) dX4_copyFrom_128 (snL0 ho) (shL0 ho) rfl rfl (lkL7 ho) (by decide) li_in4 w_257 ?_
  refine li_iconst 0 dX4_copyFrom_131 (by decide) ?_
  refine li_aload_n 0 dX4_copyFrom_132 rfl ?_
  refine li_getr (k := 10) (N := 11) (T := TX4) (C0 := RX4) dX4_copyFrom_133 (snL0 hb) (shL0 hb) rfl rfl (lkL7 hb) (by decide) li_in4 w_257 ?_
  refine li_iconst 0 dX4_copyFrom_136 (by decide) ?_
  refine li_bipush 6 dX4_copyFrom_137 (by decide) ?_
  refine li_copyL dX4_copyFrom_139 (by omega) w_871 w_773 w_772 w_122 (snL7 ho) (shL7 ho) (snL7 hb) (shL7 hb) (by decide) (by decide) (by decide) (Nat.le_of_ble_eq_true rfl) ?_
  refine li_nm (fun M15 eM15 => ?_)
  have hf := li_fr_ucL hf (show b + 7 = b ∨ b + 7 = b + 1 ∨ b + 7 = b + 2 ∨ b + 7 = b + 3 ∨ b + 7 = b + 4 ∨ b + 7 = b + 5 ∨ b + 7 = b + 6 ∨ b + 7 = b + 7 by omega) eM15
  exact li_vret dX4_copyFrom_142 rfl ⟨rfl, hf⟩
end
section
theorem w_29 : (Jvm.Cond.selects "ClockForTalk$Debates" ({ cls := "ClockForTalk$Debates", name := "fill", desc := "(I)V" } : Jvm.MethodName) ({ cls := "ClockForTalk$Debates", name := "fill", desc := "(I)V" } : Jvm.MethodName)) ∈ li_ws := li_mem 29 (by decide +kernel) (by decide +kernel)
theorem w_30 : (Jvm.Cond.selects "ClockForTalk$Debates" ({ cls := "ClockForTalk$Debates", name := "mostToWin", desc := "(III)I" } : Jvm.MethodName) ({ cls := "ClockForTalk$Debates", name := "mostToWin", desc := "(III)I" } : Jvm.MethodName)) ∈ li_ws := li_mem 30 (by decide +kernel) (by decide +kernel)
theorem w_31 : (Jvm.Cond.selects "ClockForTalk$Debates" ({ cls := "ClockForTalk$Debates", name := "wins", desc := "(IIII)Z" } : Jvm.MethodName) ({ cls := "ClockForTalk$Debates", name := "wins", desc := "(IIII)Z" } : Jvm.MethodName)) ∈ li_ws := li_mem 31 (by decide +kernel) (by decide +kernel)
theorem w_111 : (Jvm.Cond.initialized "ClockForTalk$Debates") ∈ li_ws := li_mem 111 (by decide +kernel) (by decide +kernel)
theorem w_339 : (Jvm.Cond.fieldLink "ClockForTalk$Debates" (12 : Nat) "ClockForTalk$Debates" "most" "[I") ∈ li_ws := li_mem 339 (by decide +kernel) (by decide +kernel)
theorem w_340 : (Jvm.Cond.fieldLink "ClockForTalk$Debates" (16 : Nat) "ClockForTalk$Debates" "filled" "I") ∈ li_ws := li_mem 340 (by decide +kernel) (by decide +kernel)
theorem w_1133 : (Jvm.Cond.methodLink "ClockForTalk$Debates" (24 : Nat) ({ cls := "ClockForTalk$Debates", name := "fill", desc := "(I)V" } : Jvm.MethodName)) ∈ li_ws := li_mem 1133 (by decide +kernel) (by decide +kernel)
theorem w_1135 : (Jvm.Cond.instanceMethod ({ cls := "ClockForTalk$Debates", name := "fill", desc := "(I)V" } : Jvm.MethodName)) ∈ li_ws := li_mem 1135 (by decide +kernel) (by decide +kernel)
theorem w_1136 : (Jvm.Cond.code ({ cls := "ClockForTalk$Debates", name := "fill", desc := "(I)V" } : Jvm.MethodName) prog_3_method_5_code (4 : Nat) (Option.none : Option Jvm.ClassFile.FieldType)) ∈ li_ws := li_mem 1136 (by decide +kernel) (by decide +kernel)
theorem w_1137 : (Jvm.Cond.methodLink "ClockForTalk$Debates" (46 : Nat) ({ cls := "java/lang/Math", name := "max", desc := "(II)I" } : Jvm.MethodName)) ∈ li_ws := li_mem 1137 (by decide +kernel) (by decide +kernel)
theorem w_1138 : (Jvm.Cond.methodLink "ClockForTalk$Debates" (28 : Nat) ({ cls := "java/lang/Math", name := "min", desc := "(II)I" } : Jvm.MethodName)) ∈ li_ws := li_mem 1138 (by decide +kernel) (by decide +kernel)
theorem w_1139 : (Jvm.Cond.methodLink "ClockForTalk$Debates" (38 : Nat) ({ cls := "ClockForTalk$Debates", name := "cell", desc := "(III)I" } : Jvm.MethodName)) ∈ li_ws := li_mem 1139 (by decide +kernel) (by decide +kernel)
theorem w_1140 : (Jvm.Cond.static ({ cls := "ClockForTalk$Debates", name := "cell", desc := "(III)I" } : Jvm.MethodName)) ∈ li_ws := li_mem 1140 (by decide +kernel) (by decide +kernel)
theorem w_1141 : (Jvm.Cond.code ({ cls := "ClockForTalk$Debates", name := "cell", desc := "(III)I" } : Jvm.MethodName) prog_3_method_3_code (3 : Nat) (Option.some Jvm.ClassFile.FieldType.int)) ∈ li_ws := li_mem 1141 (by decide +kernel) (by decide +kernel)
theorem w_1142 : (Jvm.Cond.methodLink "ClockForTalk$Debates" (49 : Nat) ({ cls := "ClockForTalk$Debates", name := "mostToWin", desc := "(III)I" } : Jvm.MethodName)) ∈ li_ws := li_mem 1142 (by decide +kernel) (by decide +kernel)
theorem w_1144 : (Jvm.Cond.instanceMethod ({ cls := "ClockForTalk$Debates", name := "mostToWin", desc := "(III)I" } : Jvm.MethodName)) ∈ li_ws := li_mem 1144 (by decide +kernel) (by decide +kernel)
theorem w_1145 : (Jvm.Cond.code ({ cls := "ClockForTalk$Debates", name := "mostToWin", desc := "(III)I" } : Jvm.MethodName) prog_3_method_6_code (5 : Nat) (Option.some Jvm.ClassFile.FieldType.int)) ∈ li_ws := li_mem 1145 (by decide +kernel) (by decide +kernel)
theorem w_1146 : (Jvm.Cond.methodLink "ClockForTalk$Debates" (34 : Nat) ({ cls := "ClockForTalk$Debates", name := "wins", desc := "(IIII)Z" } : Jvm.MethodName)) ∈ li_ws := li_mem 1146 (by decide +kernel) (by decide +kernel)
theorem w_1148 : (Jvm.Cond.instanceMethod ({ cls := "ClockForTalk$Debates", name := "wins", desc := "(IIII)Z" } : Jvm.MethodName)) ∈ li_ws := li_mem 1148 (by decide +kernel) (by decide +kernel)
theorem w_1149 : (Jvm.Cond.code ({ cls := "ClockForTalk$Debates", name := "wins", desc := "(IIII)Z" } : Jvm.MethodName) prog_3_method_4_code (5 : Nat) (Option.some Jvm.ClassFile.FieldType.boolean)) ∈ li_ws := li_mem 1149 (by decide +kernel) (by decide +kernel)
theorem dX1_wins_0 : decode cX1_wins 0 = .ok (.aload_n 0, 1) := by decide +kernel
theorem dX1_wins_1 : decode cX1_wins 1 = .ok (.getfield 12, 3) := by decide +kernel
theorem dX1_wins_4 : decode cX1_wins 4 = .ok (.iload_n 2, 1) := by decide +kernel
theorem dX1_wins_5 : decode cX1_wins 5 = .ok (.iload_n 1, 1) := by decide +kernel
theorem dX1_wins_6 : decode cX1_wins 6 = .ok (.iload_n 3, 1) := by decide +kernel
theorem dX1_wins_7 : decode cX1_wins 7 = .ok (.isub, 1) := by decide +kernel
theorem dX1_wins_8 : decode cX1_wins 8 = .ok (.iload 4, 2) := by decide +kernel
theorem dX1_wins_10 : decode cX1_wins 10 = .ok (.invokestatic 38, 3) := by decide +kernel
theorem dX1_wins_13 : decode cX1_wins 13 = .ok (.invokestatic 42, 3) := by decide +kernel
theorem dX1_wins_16 : decode cX1_wins 16 = .ok (.iload_n 3, 1) := by decide +kernel
theorem dX1_wins_17 : decode cX1_wins 17 = .ok (.if_icmp .ge 7, 3) := by decide +kernel
theorem dX1_wins_20 : decode cX1_wins 20 = .ok (.iconst 1, 1) := by decide +kernel
theorem dX1_wins_21 : decode cX1_wins 21 = .ok (.goto 4, 3) := by decide +kernel
theorem dX1_wins_24 : decode cX1_wins 24 = .ok (.iconst 0, 1) := by decide +kernel
theorem dX1_wins_25 : decode cX1_wins 25 = .ok (.ireturn, 1) := by decide +kernel
abbrev YX1_wins : li_Y := (yX1_wins, cX1_wins, 5, (some .boolean))
theorem dX1_mostToWin_0 : decode cX1_mostToWin 0 = .ok (.iload_n 1, 1) := by decide +kernel
theorem dX1_mostToWin_1 : decode cX1_mostToWin 1 = .ok (.iload_n 3, 1) := by decide +kernel
theorem dX1_mostToWin_2 : decode cX1_mostToWin 2 = .ok (.invokestatic 28, 3) := by decide +kernel
theorem dX1_mostToWin_5 : decode cX1_mostToWin 5 = .ok (.istore 4, 2) := by decide +kernel
theorem dX1_mostToWin_7 : decode cX1_mostToWin 7 = .ok (.iload 4, 2) := by decide +kernel
theorem dX1_mostToWin_9 : decode cX1_mostToWin 9 = .ok (.ifCond .le 24, 3) := by decide +kernel
theorem dX1_mostToWin_12 : decode cX1_mostToWin 12 = .ok (.aload_n 0, 1) := by decide +kernel
theorem dX1_mostToWin_13 : decode cX1_mostToWin 13 = .ok (.iload_n 1, 1) := by decide +kernel
theorem dX1_mostToWin_14 : decode cX1_mostToWin 14 = .ok (.iload_n 2, 1) := by decide +kernel
theorem dX1_mostToWin_15 : decode cX1_mostToWin 15 = .ok (.iload 4, 2) := by decide +kernel
theorem dX1_mostToWin_17 : decode cX1_mostToWin 17 = .ok (.iload_n 3, 1) := by decide +kernel
theorem dX1_mostToWin_18 : decode cX1_mostToWin 18 = .ok (.invokevirtual 34, 3) := by decide +kernel
theorem dX1_mostToWin_21 : decode cX1_mostToWin 21 = .ok (.ifCond .eq 6, 3) := by decide +kernel
theorem dX1_mostToWin_24 : decode cX1_mostToWin 24 = .ok (.iload 4, 2) := by decide +kernel
theorem dX1_mostToWin_26 : decode cX1_mostToWin 26 = .ok (.ireturn, 1) := by decide +kernel
theorem dX1_mostToWin_27 : decode cX1_mostToWin 27 = .ok (.iinc 4 (-1), 3) := by decide +kernel
theorem dX1_mostToWin_30 : decode cX1_mostToWin 30 = .ok (.goto (-23), 3) := by decide +kernel
theorem dX1_mostToWin_33 : decode cX1_mostToWin 33 = .ok (.iconst 0, 1) := by decide +kernel
theorem dX1_mostToWin_34 : decode cX1_mostToWin 34 = .ok (.ireturn, 1) := by decide +kernel
abbrev YX1_mostToWin : li_Y := (yX1_mostToWin, cX1_mostToWin, 5, (some .int))
theorem dX1_fill_0 : decode cX1_fill 0 = .ok (.iconst 0, 1) := by decide +kernel
theorem dX1_fill_1 : decode cX1_fill 1 = .ok (.istore_n 2, 1) := by decide +kernel
theorem dX1_fill_2 : decode cX1_fill 2 = .ok (.iload_n 2, 1) := by decide +kernel
theorem dX1_fill_3 : decode cX1_fill 3 = .ok (.bipush 120, 2) := by decide +kernel
theorem dX1_fill_5 : decode cX1_fill 5 = .ok (.if_icmp .gt 58, 3) := by decide +kernel
theorem dX1_fill_8 : decode cX1_fill 8 = .ok (.iconst 0, 1) := by decide +kernel
theorem dX1_fill_9 : decode cX1_fill 9 = .ok (.iload_n 2, 1) := by decide +kernel
theorem dX1_fill_10 : decode cX1_fill 10 = .ok (.bipush 60, 2) := by decide +kernel
theorem dX1_fill_12 : decode cX1_fill 12 = .ok (.isub, 1) := by decide +kernel
theorem dX1_fill_13 : decode cX1_fill 13 = .ok (.invokestatic 46, 3) := by decide +kernel
theorem dX1_fill_16 : decode cX1_fill 16 = .ok (.istore_n 3, 1) := by decide +kernel
theorem dX1_fill_17 : decode cX1_fill 17 = .ok (.iload_n 3, 1) := by decide +kernel
theorem dX1_fill_18 : decode cX1_fill 18 = .ok (.iload_n 2, 1) := by decide +kernel
theorem dX1_fill_19 : decode cX1_fill 19 = .ok (.bipush 60, 2) := by decide +kernel
theorem dX1_fill_21 : decode cX1_fill 21 = .ok (.invokestatic 28, 3) := by decide +kernel
theorem dX1_fill_24 : decode cX1_fill 24 = .ok (.if_icmp .gt 33, 3) := by decide +kernel
theorem dX1_fill_27 : decode cX1_fill 27 = .ok (.aload_n 0, 1) := by decide +kernel
theorem dX1_fill_28 : decode cX1_fill 28 = .ok (.getfield 12, 3) := by decide +kernel
theorem dX1_fill_31 : decode cX1_fill 31 = .ok (.iload_n 3, 1) := by decide +kernel
theorem dX1_fill_32 : decode cX1_fill 32 = .ok (.iload_n 2, 1) := by decide +kernel
theorem dX1_fill_33 : decode cX1_fill 33 = .ok (.iload_n 3, 1) := by decide +kernel
theorem dX1_fill_34 : decode cX1_fill 34 = .ok (.isub, 1) := by decide +kernel
theorem dX1_fill_35 : decode cX1_fill 35 = .ok (.iload_n 1, 1) := by decide +kernel
theorem dX1_fill_36 : decode cX1_fill 36 = .ok (.invokestatic 38, 3) := by decide +kernel
theorem dX1_fill_39 : decode cX1_fill 39 = .ok (.aload_n 0, 1) := by decide +kernel
theorem dX1_fill_40 : decode cX1_fill 40 = .ok (.iload_n 3, 1) := by decide +kernel
theorem dX1_fill_41 : decode cX1_fill 41 = .ok (.iload_n 2, 1) := by decide +kernel
theorem dX1_fill_42 : decode cX1_fill 42 = .ok (.iload_n 3, 1) := by decide +kernel
theorem dX1_fill_43 : decode cX1_fill 43 = .ok (.isub, 1) := by decide +kernel
theorem dX1_fill_44 : decode cX1_fill 44 = .ok (.iload_n 1, 1) := by decide +kernel
theorem dX1_fill_45 : decode cX1_fill 45 = .ok (.invokevirtual 49, 3) := by decide +kernel
theorem dX1_fill_48 : decode cX1_fill 48 = .ok (.invokestatic 52, 3) := by decide +kernel
theorem dX1_fill_51 : decode cX1_fill 51 = .ok (.iinc 3 1, 3) := by decide +kernel
theorem dX1_fill_54 : decode cX1_fill 54 = .ok (.goto (-37), 3) := by decide +kernel
theorem dX1_fill_57 : decode cX1_fill 57 = .ok (.iinc 2 1, 3) := by decide +kernel
theorem dX1_fill_60 : decode cX1_fill 60 = .ok (.goto (-58), 3) := by decide +kernel
theorem dX1_fill_63 : decode cX1_fill 63 = .ok (.return_, 1) := by decide +kernel
abbrev YX1_fill : li_Y := (yX1_fill, cX1_fill, 4, none)
theorem dX1_fewestToWin_0 : decode cX1_fewestToWin 0 = .ok (.aload_n 0, 1) := by decide +kernel
theorem dX1_fewestToWin_1 : decode cX1_fewestToWin 1 = .ok (.getfield 16, 3) := by decide +kernel
theorem dX1_fewestToWin_4 : decode cX1_fewestToWin 4 = .ok (.iload_n 3, 1) := by decide +kernel
theorem dX1_fewestToWin_5 : decode cX1_fewestToWin 5 = .ok (.invokestatic 20, 3) := by decide +kernel
theorem dX1_fewestToWin_8 : decode cX1_fewestToWin 8 = .ok (.ifCond .ne 20, 3) := by decide +kernel
theorem dX1_fewestToWin_11 : decode cX1_fewestToWin 11 = .ok (.aload_n 0, 1) := by decide +kernel
theorem dX1_fewestToWin_12 : decode cX1_fewestToWin 12 = .ok (.iload_n 3, 1) := by decide +kernel
theorem dX1_fewestToWin_13 : decode cX1_fewestToWin 13 = .ok (.invokevirtual 24, 3) := by decide +kernel
theorem dX1_fewestToWin_16 : decode cX1_fewestToWin 16 = .ok (.aload_n 0, 1) := by decide +kernel
theorem dX1_fewestToWin_17 : decode cX1_fewestToWin 17 = .ok (.dup, 1) := by decide +kernel
theorem dX1_fewestToWin_18 : decode cX1_fewestToWin 18 = .ok (.getfield 16, 3) := by decide +kernel
theorem dX1_fewestToWin_21 : decode cX1_fewestToWin 21 = .ok (.iconst 1, 1) := by decide +kernel
theorem dX1_fewestToWin_22 : decode cX1_fewestToWin 22 = .ok (.iload_n 3, 1) := by decide +kernel
theorem dX1_fewestToWin_23 : decode cX1_fewestToWin 23 = .ok (.ishl, 1) := by decide +kernel
theorem dX1_fewestToWin_24 : decode cX1_fewestToWin 24 = .ok (.ior, 1) := by decide +kernel
theorem dX1_fewestToWin_25 : decode cX1_fewestToWin 25 = .ok (.putfield 16, 3) := by decide +kernel
theorem dX1_fewestToWin_28 : decode cX1_fewestToWin 28 = .ok (.iload_n 1, 1) := by decide +kernel
theorem dX1_fewestToWin_29 : decode cX1_fewestToWin 29 = .ok (.iload_n 3, 1) := by decide +kernel
theorem dX1_fewestToWin_30 : decode cX1_fewestToWin 30 = .ok (.invokestatic 28, 3) := by decide +kernel
theorem dX1_fewestToWin_33 : decode cX1_fewestToWin 33 = .ok (.istore 4, 2) := by decide +kernel
theorem dX1_fewestToWin_35 : decode cX1_fewestToWin 35 = .ok (.iconst 1, 1) := by decide +kernel
theorem dX1_fewestToWin_36 : decode cX1_fewestToWin 36 = .ok (.istore 5, 2) := by decide +kernel
theorem dX1_fewestToWin_38 : decode cX1_fewestToWin 38 = .ok (.iload 5, 2) := by decide +kernel
theorem dX1_fewestToWin_40 : decode cX1_fewestToWin 40 = .ok (.iload 4, 2) := by decide +kernel
theorem dX1_fewestToWin_42 : decode cX1_fewestToWin 42 = .ok (.if_icmp .gt 24, 3) := by decide +kernel
theorem dX1_fewestToWin_45 : decode cX1_fewestToWin 45 = .ok (.aload_n 0, 1) := by decide +kernel
theorem dX1_fewestToWin_46 : decode cX1_fewestToWin 46 = .ok (.iload_n 1, 1) := by decide +kernel
theorem dX1_fewestToWin_47 : decode cX1_fewestToWin 47 = .ok (.iload_n 2, 1) := by decide +kernel
theorem dX1_fewestToWin_48 : decode cX1_fewestToWin 48 = .ok (.iload 5, 2) := by decide +kernel
theorem dX1_fewestToWin_50 : decode cX1_fewestToWin 50 = .ok (.iload_n 3, 1) := by decide +kernel
theorem dX1_fewestToWin_51 : decode cX1_fewestToWin 51 = .ok (.invokevirtual 34, 3) := by decide +kernel
theorem dX1_fewestToWin_54 : decode cX1_fewestToWin 54 = .ok (.ifCond .eq 6, 3) := by decide +kernel
theorem dX1_fewestToWin_57 : decode cX1_fewestToWin 57 = .ok (.iload 5, 2) := by decide +kernel
theorem dX1_fewestToWin_59 : decode cX1_fewestToWin 59 = .ok (.ireturn, 1) := by decide +kernel
theorem dX1_fewestToWin_60 : decode cX1_fewestToWin 60 = .ok (.iinc 5 1, 3) := by decide +kernel
theorem dX1_fewestToWin_63 : decode cX1_fewestToWin 63 = .ok (.goto (-25), 3) := by decide +kernel
theorem dX1_fewestToWin_66 : decode cX1_fewestToWin 66 = .ok (.iconst 0, 1) := by decide +kernel
theorem dX1_fewestToWin_67 : decode cX1_fewestToWin 67 = .ok (.ireturn, 1) := by decide +kernel
abbrev YX1_fewestToWin : li_Y := (yX1_fewestToWin, cX1_fewestToWin, 6, (some .int))
set_option maxRecDepth 100000 in
set_option maxHeartbeats 4000000 in
theorem k_X1_wins {l : Launch} {Z : li_Z} (d : Nat) (hd : 2 ≤ d) (p1 : Int32) (p2 : Int32) (p3 : Int32) (p4 : Int32) (M0 : li_M) : li_Met l Z YX1_wins d [.ref (Z.2.2 163), .int p1, .int p2, .int p3, .int p4] M0 (li_SZ (fun i => False) M0) := by
  refine li_enter (by decide +kernel) (Nat.le_of_ble_eq_true rfl) ?_
  show li_T l Z YX1_wins d 0 [(0, .ref (Z.2.2 163)), (1, .int p1), (2, .int p2), (3, .int p3), (4, .int p4)] [] M0 _
  have hf : li_fr (fun i => False) M0 M0 := li_fr_refl
  refine li_aload_n 0 dX1_wins_0 rfl ?_
  refine li_getr (k := 0) (N := 2) (T := TX1) (C0 := RX1) dX1_wins_1 (by decide) sh_163 rfl rfl (by decide) (by decide) li_in1 w_339 ?_
  refine li_iload_n 2 dX1_wins_4 rfl ?_
  refine li_iload_n 1 dX1_wins_5 rfl ?_
  refine li_iload_n 3 dX1_wins_6 rfl ?_
  refine li_isub dX1_wins_7 ?_
  refine li_top (fun x1 ex1 => ?_)
  refine li_iload 4 dX1_wins_8 rfl ?_
  refine li_callS (n := 3) (As := [.int p2, .int x1, .int p4]) dX1_wins_10 (k_X1_cell (d - 1) (by omega) p2 x1 p4 M0) (by omega) (Nat.le_of_ble_eq_true rfl) w_1139 w_1140 w_111 w_1141 (by decide +kernel) rfl rfl (Nat.le_of_ble_eq_true rfl) (fun r M3 h4 => ?_)
  obtain ⟨⟨x2, rfl⟩, h4⟩ := h4
  have hf := li_fr_trans hf h4 (fun i h => False.elim h)
  refine li_callN (n := 2) (As := [.ref (Z.2.2 164), .int x2]) dX1_wins_13 (k_X11_at (d - 1) (by omega) (by decide) sh_164 (by decide) x2 M3) (by omega) (Nat.le_of_ble_eq_true rfl) nw_32 w_589 w_104 w_590 (by decide +kernel) rfl rfl (Nat.le_of_ble_eq_true rfl) (fun r M6 h7 => ?_)
  obtain ⟨⟨x5, rfl⟩, h7⟩ := h7
  have hf := li_fr_trans hf h7 (fun i h => False.elim h)
  refine li_iload_n 3 dX1_wins_16 rfl ?_
  refine li_icmp_ge 24 dX1_wins_17 (by decide) (fun c8 => ?_) (fun c8 => ?_)
  · refine li_iconst 0 dX1_wins_24 (by decide) ?_
    exact li_iret dX1_wins_25 rfl (li_nz (Or.inl rfl)) ⟨⟨_, rfl, Or.inl rfl⟩, hf⟩
  · refine li_iconst 1 dX1_wins_20 (by decide) ?_
    refine li_goto 25 dX1_wins_21 (by decide) ?_
    exact li_iret dX1_wins_25 rfl (li_nz (Or.inr rfl)) ⟨⟨_, rfl, Or.inr rfl⟩, hf⟩
set_option maxRecDepth 100000 in
set_option maxHeartbeats 4000000 in
theorem k_X1_mostToWin {l : Launch} {Z : li_Z} (d : Nat) (hd : 3 ≤ d) (p1 : Int32) (p2 : Int32) (p3 : Int32) (M0 : li_M) : li_Met l Z YX1_mostToWin d [.ref (Z.2.2 163), .int p1, .int p2, .int p3] M0 (li_SI (fun i => False) M0) := by
  refine li_enter (by decide +kernel) (Nat.le_of_ble_eq_true rfl) ?_
  show li_T l Z YX1_mostToWin d 0 [(0, .ref (Z.2.2 163)), (1, .int p1), (2, .int p2), (3, .int p3)] [] M0 _
  have hf : li_fr (fun i => False) M0 M0 := li_fr_refl
  refine li_iload_n 1 dX1_mostToWin_0 rfl ?_
  refine li_iload_n 3 dX1_mostToWin_1 rfl ?_
  refine li_mmin dX1_mostToWin_2 (by omega) w_1138 w_746 w_117 w_747 (Nat.le_of_ble_eq_true rfl) ?_
  refine li_top (fun x1 ex1 => ?_)
  refine li_istore [(4, .int x1), (0, .ref (Z.2.2 163)), (1, .int p1), (2, .int p2), (3, .int p3)] dX1_mostToWin_5 (by decide) rfl ?_
  have L7 : ∀ (n : Nat) (x2 : Int32) (M3 : li_M), ((x2 : Int32).toInt + 2147483648).toNat < n → li_fr (fun i => False) M0 M3 → li_T l Z YX1_mostToWin d 7 [(4, .int x2), (0, .ref (Z.2.2 163)), (1, .int p1), (2, .int p2), (3, .int p3)] [] M3 (li_SI (fun i => False) M0) := by
    intro n
    induction n with
    | zero => intro x2 M3 hn; exact absurd hn (Nat.not_lt_zero _)
    | succ n ih7 =>
      intro x2 M3 hn hf
      refine li_iload 0 dX1_mostToWin_7 rfl ?_
      refine li_if_le 33 dX1_mostToWin_9 (by decide) (fun c4 => ?_) (fun c4 => ?_)
      · refine li_iconst 0 dX1_mostToWin_33 (by decide) ?_
        exact li_iret dX1_mostToWin_34 rfl rfl ⟨⟨_, rfl⟩, hf⟩
      · refine li_aload_n 1 dX1_mostToWin_12 rfl ?_
        refine li_iload_n 2 dX1_mostToWin_13 rfl ?_
        refine li_iload_n 3 dX1_mostToWin_14 rfl ?_
        refine li_iload 0 dX1_mostToWin_15 rfl ?_
        refine li_iload_n 4 dX1_mostToWin_17 rfl ?_
        refine li_callV (n := 4) (As := [.int p1, .int p2, .int x2, .int p3]) dX1_mostToWin_18 (k_X1_wins (d - 1) (by omega) p1 p2 x2 p3 M3) (by omega) (Nat.le_of_ble_eq_true rfl) w_1146 w_1148 w_31 w_111 w_1149 (by decide +kernel) rfl (by decide) sh_163 rfl rfl (Nat.le_of_ble_eq_true rfl) (fun r M6 h7 => ?_)
        obtain ⟨⟨x5, rfl, bx5⟩, h7⟩ := h7
        have hf := li_fr_trans hf h7 (fun i h => False.elim h)
        refine li_if_eq 27 dX1_mostToWin_21 (by decide) (fun c8 => ?_) (fun c8 => ?_)
        · obtain ⟨x9, ex9⟩ : ∃ y : Int32, y = x2 + (-1) := ⟨_, rfl⟩
          refine li_iinc 0 [(4, .int x9), (0, .ref (Z.2.2 163)), (1, .int p1), (2, .int p2), (3, .int p3)] x9 dX1_mostToWin_27 rfl (by rw [ex9]; rfl) (by decide) rfl ?_
          refine li_goto 7 dX1_mostToWin_30 (by decide) ?_
          refine li_pick [0, 1, 2, 3, 4] [(4, .int x9), (0, .ref (Z.2.2 163)), (1, .int p1), (2, .int p2), (3, .int p3)] rfl ?_
          exact ih7 x9 M6 (by have h9 := li_dn1 (li_nlt0 (li_gt c4)); rw [← ex9] at h9; omega) hf
        · refine li_iload 0 dX1_mostToWin_24 rfl ?_
          exact li_iret dX1_mostToWin_26 rfl rfl ⟨⟨_, rfl⟩, hf⟩
  exact L7 _ x1 M0 (Nat.lt_succ_self _) hf
set_option maxRecDepth 100000 in
set_option maxHeartbeats 4000000 in
theorem k_X1_fill {l : Launch} {Z : li_Z} (d : Nat) (hd : 4 ≤ d) (p1 : Int32) (M0 : li_M) : li_Met l Z YX1_fill d [.ref (Z.2.2 163), .int p1] M0 (li_SV (fun i => i = 164) M0) := by
  refine li_enter (by decide +kernel) (Nat.le_of_ble_eq_true rfl) ?_
  show li_T l Z YX1_fill d 0 [(0, .ref (Z.2.2 163)), (1, .int p1)] [] M0 _
  have hf : li_fr (fun i => i = 164) M0 M0 := li_fr_refl
  have gp1 := tl_rg p1
  refine li_iconst 0 dX1_fill_0 (by decide) ?_
  refine li_istore_n [(2, .int 0), (0, .ref (Z.2.2 163)), (1, .int p1)] dX1_fill_1 (by decide) rfl ?_
  have L2 : ∀ (n : Nat) (x1 : Int32) (M2 : li_M), (121 - (x1 : Int32).toInt).toNat < n → li_fr (fun i => i = 164) M0 M2 → li_T l Z YX1_fill d 2 [(2, .int x1), (0, .ref (Z.2.2 163)), (1, .int p1)] [] M2 (li_SV (fun i => i = 164) M0) := by
    intro n
    induction n with
    | zero => intro x1 M2 hn; exact absurd hn (Nat.not_lt_zero _)
    | succ n ih2 =>
      intro x1 M2 hn hf
      have gx1 := tl_rg x1
      refine li_iload_n 0 dX1_fill_2 rfl ?_
      refine li_bipush 120 dX1_fill_3 (by decide) ?_
      refine li_icmp_gt 63 dX1_fill_5 (by decide) (fun c3 => ?_) (fun c3 => ?_)
      · have tc3 : 120 < x1.toInt := tl_lt c3
        exact li_vret dX1_fill_63 rfl ⟨rfl, hf⟩
      · have tc3 : x1.toInt ≤ 120 := tl_nlt c3
        refine li_iconst 0 dX1_fill_8 (by decide) ?_
        refine li_iload_n 0 dX1_fill_9 rfl ?_
        refine li_bipush 60 dX1_fill_10 (by decide) ?_
        refine li_isub dX1_fill_12 ?_
        refine li_top (fun x4 ex4 => ?_)
        have tx4 : (-2147483648 ≤ x1.toInt - 60 ∧ x1.toInt - 60 ≤ 2147483647) → x4.toInt = x1.toInt - 60 := tl_sub ex4
        refine li_mmax dX1_fill_13 (by omega) w_1137 w_662 w_117 w_663 (Nat.le_of_ble_eq_true rfl) ?_
        refine li_top (fun x5 ex5 => ?_)
        have tx5 : (0 < x4.toInt → x5.toInt = x4.toInt) ∧ (x4.toInt ≤ 0 → x5.toInt = 0) := tl_max ex5
        refine li_istore_n [(3, .int x5), (2, .int x1), (0, .ref (Z.2.2 163)), (1, .int p1)] dX1_fill_16 (by decide) rfl ?_
        have L17 : ∀ (n : Nat) (x6 : Int32) (M7 : li_M), (61 - (x6 : Int32).toInt).toNat < n → li_fr (fun i => i = 164) M0 M7 → li_T l Z YX1_fill d 17 [(3, .int x6), (2, .int x1), (0, .ref (Z.2.2 163)), (1, .int p1)] [] M7 (li_SV (fun i => i = 164) M0) := by
          intro n
          induction n with
          | zero => intro x6 M7 hn; exact absurd hn (Nat.not_lt_zero _)
          | succ n ih17 =>
            intro x6 M7 hn hf
            have gx6 := tl_rg x6
            refine li_iload_n 0 dX1_fill_17 rfl ?_
            refine li_iload_n 1 dX1_fill_18 rfl ?_
            refine li_bipush 60 dX1_fill_19 (by decide) ?_
            refine li_mmin dX1_fill_21 (by omega) w_1138 w_746 w_117 w_747 (Nat.le_of_ble_eq_true rfl) ?_
            refine li_top (fun x8 ex8 => ?_)
            have tx8 : (60 < x1.toInt → x8.toInt = 60) ∧ (x1.toInt ≤ 60 → x8.toInt = x1.toInt) := tl_min ex8
            refine li_icmp_gt 57 dX1_fill_24 (by decide) (fun c9 => ?_) (fun c9 => ?_)
            · have tc9 : x8.toInt < x6.toInt := tl_lt c9
              obtain ⟨x10, ex10⟩ : ∃ y : Int32, y = x1 + 1 := ⟨_, rfl⟩
              have tx10 : (-2147483648 ≤ x1.toInt + 1 ∧ x1.toInt + 1 ≤ 2147483647) → x10.toInt = x1.toInt + 1 := tl_add ex10
              refine li_iinc 1 [(2, .int x10), (3, .int x6), (0, .ref (Z.2.2 163)), (1, .int p1)] x10 dX1_fill_57 rfl (by rw [ex10]; rfl) (by decide) rfl ?_
              refine li_goto 2 dX1_fill_60 (by decide) ?_
              refine li_pick [0, 2, 3] [(2, .int x10), (0, .ref (Z.2.2 163)), (1, .int p1)] rfl ?_
              exact ih2 x10 M7 (by omega) hf
            · have tc9 : x6.toInt ≤ x8.toInt := tl_nlt c9
              refine li_aload_n 2 dX1_fill_27 rfl ?_
              refine li_getr (k := 0) (N := 2) (T := TX1) (C0 := RX1) dX1_fill_28 (by decide) sh_163 rfl rfl (by decide) (by decide) li_in1 w_339 ?_
              refine li_iload_n 0 dX1_fill_31 rfl ?_
              refine li_iload_n 1 dX1_fill_32 rfl ?_
              refine li_iload_n 0 dX1_fill_33 rfl ?_
              refine li_isub dX1_fill_34 ?_
              refine li_top (fun x11 ex11 => ?_)
              have tx11 : (-2147483648 ≤ x1.toInt - x6.toInt ∧ x1.toInt - x6.toInt ≤ 2147483647) → x11.toInt = x1.toInt - x6.toInt := tl_sub ex11
              refine li_iload_n 3 dX1_fill_35 rfl ?_
              refine li_callS (n := 3) (As := [.int x6, .int x11, .int p1]) dX1_fill_36 (k_X1_cell (d - 1) (by omega) x6 x11 p1 M7) (by omega) (Nat.le_of_ble_eq_true rfl) w_1139 w_1140 w_111 w_1141 (by decide +kernel) rfl rfl (Nat.le_of_ble_eq_true rfl) (fun r M13 h14 => ?_)
              obtain ⟨⟨x12, rfl⟩, h14⟩ := h14
              have gx12 := tl_rg x12
              have hf := li_fr_trans hf h14 (fun i h => False.elim h)
              refine li_aload_n 2 dX1_fill_39 rfl ?_
              refine li_iload_n 0 dX1_fill_40 rfl ?_
              refine li_iload_n 1 dX1_fill_41 rfl ?_
              refine li_iload_n 0 dX1_fill_42 rfl ?_
              refine li_isub dX1_fill_43 ?_
              refine li_top (fun x15 ex15 => ?_)
              have tx15 : (-2147483648 ≤ x1.toInt - x6.toInt ∧ x1.toInt - x6.toInt ≤ 2147483647) → x15.toInt = x1.toInt - x6.toInt := tl_sub ex15
              refine li_iload_n 3 dX1_fill_44 rfl ?_
              refine li_callV (n := 3) (As := [.int x6, .int x15, .int p1]) dX1_fill_45 (k_X1_mostToWin (d - 1) (by omega) x6 x15 p1 M13) (by omega) (Nat.le_of_ble_eq_true rfl) w_1142 w_1144 w_30 w_111 w_1145 (by decide +kernel) rfl (by decide) sh_163 rfl rfl (Nat.le_of_ble_eq_true rfl) (fun r M17 h18 => ?_)
              obtain ⟨⟨x16, rfl⟩, h18⟩ := h18
              have gx16 := tl_rg x16
              have hf := li_fr_trans hf h18 (fun i h => False.elim h)
              refine li_callN (n := 3) (As := [.ref (Z.2.2 164), .int x12, .int x16]) dX1_fill_48 (k_X11_put (d - 1) (by omega) (by decide) sh_164 (by decide) x12 x16 M17) (by omega) (Nat.le_of_ble_eq_true rfl) nw_33 w_542 w_104 w_543 (by decide +kernel) rfl rfl (Nat.le_of_ble_eq_true rfl) (fun r M20 h21 => ?_)
              obtain ⟨rfl, h21⟩ := h21
              have hf := li_fr_trans hf h21 (fun i (h : i = 164) => (show i = 164 by omega))
              obtain ⟨x22, ex22⟩ : ∃ y : Int32, y = x6 + 1 := ⟨_, rfl⟩
              have tx22 : (-2147483648 ≤ x6.toInt + 1 ∧ x6.toInt + 1 ≤ 2147483647) → x22.toInt = x6.toInt + 1 := tl_add ex22
              refine li_iinc 0 [(3, .int x22), (2, .int x1), (0, .ref (Z.2.2 163)), (1, .int p1)] x22 dX1_fill_51 rfl (by rw [ex22]; rfl) (by decide) rfl ?_
              refine li_goto 17 dX1_fill_54 (by decide) ?_
              refine li_pick [0, 1, 2, 3] [(3, .int x22), (2, .int x1), (0, .ref (Z.2.2 163)), (1, .int p1)] rfl ?_
              exact ih17 x22 M20 (by omega) hf
        exact L17 _ x5 M2 (Nat.lt_succ_self _) hf
  have z0 : (0 : Int32).toInt = 0 := rfl
  exact L2 _ 0 M0 (Nat.lt_succ_self _) hf
set_option maxRecDepth 100000 in
set_option maxHeartbeats 4000000 in
theorem k_X1_fewestToWin {l : Launch} {Z : li_Z} (d : Nat) (hd : 5 ≤ d) (p1 p2 p3 : Int32) (h3 : p3.toInt ≤ 9) (M0 : li_M) : li_Met l Z YX1_fewestToWin d [.ref (Z.2.2 163), .int p1, .int p2, .int p3] M0 (li_SI (fun i => i = 163 ∨ i = 164) M0) := by
  refine li_enter (by decide +kernel) (Nat.le_of_ble_eq_true rfl) ?_
  show li_T l Z YX1_fewestToWin d 0 [(0, .ref (Z.2.2 163)), (1, .int p1), (2, .int p2), (3, .int p3)] [] M0 _
  have hf : li_fr (fun i => i = 163 ∨ i = 164) M0 M0 := li_fr_refl
  have gp1 := tl_rg p1
  have gp2 := tl_rg p2
  have gp3 := tl_rg p3
  refine li_aload_n 0 dX1_fewestToWin_0 rfl ?_
  refine li_geti (k := 1) (N := 2) (T := TX1) (C0 := RX1) dX1_fewestToWin_1 (by decide) sh_163 rfl rfl (by decide) li_in1 w_340 ?_
  refine li_top (fun x1 ex1 => ?_)
  refine li_iload_n 3 dX1_fewestToWin_4 rfl ?_
  refine li_callN (n := 2) (As := [.int x1, .int p3]) dX1_fewestToWin_5 (k_X11_holds (d - 1) (by omega) x1 p3 M0) (by omega) (Nat.le_of_ble_eq_true rfl) nw_31 w_877 w_104 w_878 (by decide +kernel) rfl rfl (Nat.le_of_ble_eq_true rfl) (fun r M3 h4 => ?_)
  obtain ⟨⟨x2, rfl, bx2⟩, h4⟩ := h4
  have ux2 := tl_b bx2
  have hf := li_fr_trans hf h4 (fun i h => False.elim h)
  have J28 : ∀  (M6 : li_M), li_fr (fun i => i = 163 ∨ i = 164) M0 M6 → li_T l Z YX1_fewestToWin d 28 [(0, .ref (Z.2.2 163)), (1, .int p1), (2, .int p2), (3, .int p3)] [] M6 (li_SI (fun i => i = 163 ∨ i = 164) M0) := by
    intro  M6 hf
    refine li_iload_n 1 dX1_fewestToWin_28 rfl ?_
    refine li_iload_n 3 dX1_fewestToWin_29 rfl ?_
    refine li_mmin dX1_fewestToWin_30 (by omega) w_1138 w_746 w_117 w_747 (Nat.le_of_ble_eq_true rfl) ?_
    refine li_top (fun x7 ex7 => ?_)
    have tx7 : (p3.toInt < p1.toInt → x7.toInt = p3.toInt) ∧ (p1.toInt ≤ p3.toInt → x7.toInt = p1.toInt) := tl_min ex7
    refine li_istore [(4, .int x7), (0, .ref (Z.2.2 163)), (1, .int p1), (2, .int p2), (3, .int p3)] dX1_fewestToWin_33 (by decide) rfl ?_
    refine li_iconst 1 dX1_fewestToWin_35 (by decide) ?_
    refine li_istore [(5, .int 1), (4, .int x7), (0, .ref (Z.2.2 163)), (1, .int p1), (2, .int p2), (3, .int p3)] dX1_fewestToWin_36 (by decide) rfl ?_
    have L38 : ∀ (n : Nat) (x8 : Int32) (M9 : li_M), (10 - (x8 : Int32).toInt).toNat < n → li_fr (fun i => i = 163 ∨ i = 164) M0 M9 → li_T l Z YX1_fewestToWin d 38 [(5, .int x8), (4, .int x7), (0, .ref (Z.2.2 163)), (1, .int p1), (2, .int p2), (3, .int p3)] [] M9 (li_SI (fun i => i = 163 ∨ i = 164) M0) := by
      intro n
      induction n with
      | zero => intro x8 M9 hn; exact absurd hn (Nat.not_lt_zero _)
      | succ n ih38 =>
        intro x8 M9 hn hf
        have gx8 := tl_rg x8
        refine li_iload 0 dX1_fewestToWin_38 rfl ?_
        refine li_iload 1 dX1_fewestToWin_40 rfl ?_
        refine li_icmp_gt 66 dX1_fewestToWin_42 (by decide) (fun c10 => ?_) (fun c10 => ?_)
        · have tc10 : x7.toInt < x8.toInt := tl_lt c10
          refine li_iconst 0 dX1_fewestToWin_66 (by decide) ?_
          exact li_iret dX1_fewestToWin_67 rfl rfl ⟨⟨_, rfl⟩, hf⟩
        · have tc10 : x8.toInt ≤ x7.toInt := tl_nlt c10
          refine li_aload_n 2 dX1_fewestToWin_45 rfl ?_
          refine li_iload_n 3 dX1_fewestToWin_46 rfl ?_
          refine li_iload_n 4 dX1_fewestToWin_47 rfl ?_
          refine li_iload 0 dX1_fewestToWin_48 rfl ?_
          refine li_iload_n 5 dX1_fewestToWin_50 rfl ?_
          refine li_callV (n := 4) (As := [.int p1, .int p2, .int x8, .int p3]) dX1_fewestToWin_51 (k_X1_wins (d - 1) (by omega) p1 p2 x8 p3 M9) (by omega) (Nat.le_of_ble_eq_true rfl) w_1146 w_1148 w_31 w_111 w_1149 (by decide +kernel) rfl (by decide) sh_163 rfl rfl (Nat.le_of_ble_eq_true rfl) (fun r M12 h13 => ?_)
          obtain ⟨⟨x11, rfl, bx11⟩, h13⟩ := h13
          have ux11 := tl_b bx11
          have hf := li_fr_trans hf h13 (fun i h => False.elim h)
          refine li_if_eq 60 dX1_fewestToWin_54 (by decide) (fun c14 => ?_) (fun c14 => ?_)
          · have tc14 : x11.toInt = 0 := tl_eq c14
            obtain ⟨x15, ex15⟩ : ∃ y : Int32, y = x8 + 1 := ⟨_, rfl⟩
            have tx15 : (-2147483648 ≤ x8.toInt + 1 ∧ x8.toInt + 1 ≤ 2147483647) → x15.toInt = x8.toInt + 1 := tl_add ex15
            refine li_iinc 0 [(5, .int x15), (4, .int x7), (0, .ref (Z.2.2 163)), (1, .int p1), (2, .int p2), (3, .int p3)] x15 dX1_fewestToWin_60 rfl (by rw [ex15]; rfl) (by decide) rfl ?_
            refine li_goto 38 dX1_fewestToWin_63 (by decide) ?_
            refine li_pick [0, 1, 2, 3, 4, 5] [(5, .int x15), (4, .int x7), (0, .ref (Z.2.2 163)), (1, .int p1), (2, .int p2), (3, .int p3)] rfl ?_
            exact ih38 x15 M12 (by omega) hf
          · have tc14 : ¬ x11.toInt = 0 := tl_ne c14
            refine li_iload 0 dX1_fewestToWin_57 rfl ?_
            exact li_iret dX1_fewestToWin_59 rfl rfl ⟨⟨_, rfl⟩, hf⟩
    have z1 : (1 : Int32).toInt = 1 := rfl
    exact L38 _ 1 M6 (Nat.lt_succ_self _) hf
  refine li_if_ne 28 dX1_fewestToWin_8 (by decide) (fun c5 => ?_) (fun c5 => ?_)
  · have tc5 : ¬ x2.toInt = 0 := tl_ne c5
    refine li_pick [0, 1, 2, 3] [(0, .ref (Z.2.2 163)), (1, .int p1), (2, .int p2), (3, .int p3)] rfl ?_
    exact J28  M3 hf
  · have tc5 : x2.toInt = 0 := tl_eq c5
    refine li_aload_n 0 dX1_fewestToWin_11 rfl ?_
    refine li_iload_n 3 dX1_fewestToWin_12 rfl ?_
    refine li_callV (n := 1) (As := [.int p3]) dX1_fewestToWin_13 (k_X1_fill (d - 1) (by omega) p3 M3) (by omega) (Nat.le_of_ble_eq_true rfl) w_1133 w_1135 w_29 w_111 w_1136 (by decide +kernel) rfl (by decide) sh_163 rfl rfl (Nat.le_of_ble_eq_true rfl) (fun r M17 h18 => ?_)
    obtain ⟨rfl, h18⟩ := h18
    have hf := li_fr_trans hf h18 (fun i (h : i = 164) => (show i = 163 ∨ i = 164 by omega))
    refine li_aload_n 0 dX1_fewestToWin_16 rfl ?_
    refine li_dup dX1_fewestToWin_17 rfl ?_
    refine li_geti (k := 1) (N := 2) (T := TX1) (C0 := RX1) dX1_fewestToWin_18 (by decide) sh_163 rfl rfl (by decide) li_in1 w_340 ?_
    refine li_top (fun x19 ex19 => ?_)
    refine li_iconst 1 dX1_fewestToWin_21 (by decide) ?_
    refine li_iload_n 3 dX1_fewestToWin_22 rfl ?_
    refine li_ishl dX1_fewestToWin_23 ?_
    refine li_top (fun x20 ex20 => ?_)
    refine li_ior dX1_fewestToWin_24 ?_
    refine li_top (fun x21 ex21 => ?_)
    refine li_puti (k := 1) (N := 2) (T := TX1) (C0 := RX1) dX1_fewestToWin_25 (by decide) sh_163 rfl rfl (by decide) li_in1 tyX1_ok nmX1 rfl rfl rfl rfl w_340 ?_
    refine li_nm (fun M22 eM22 => ?_)
    have hf := li_fr_ui hf (show 163 = 163 ∨ 163 = 164 by omega) eM22
    refine li_pick [0, 1, 2, 3] [(0, .ref (Z.2.2 163)), (1, .int p1), (2, .int p2), (3, .int p3)] rfl ?_
    exact J28  M22 hf
end
section
theorem w_32 : (Jvm.Cond.selects "ClockForTalk$Wordings" ({ cls := "ClockForTalk$Wordings", name := "joined", desc := "(II)I" } : Jvm.MethodName) ({ cls := "ClockForTalk$Wordings", name := "joined", desc := "(II)I" } : Jvm.MethodName)) ∈ li_ws := li_mem 32 (by decide +kernel) (by decide +kernel)
theorem w_33 : (Jvm.Cond.selects "ClockForTalk$Wordings" ({ cls := "ClockForTalk$Wordings", name := "tryFirst", desc := "(II)V" } : Jvm.MethodName) ({ cls := "ClockForTalk$Wordings", name := "tryFirst", desc := "(II)V" } : Jvm.MethodName)) ∈ li_ws := li_mem 33 (by decide +kernel) (by decide +kernel)
theorem w_34 : (Jvm.Cond.selects "ClockForTalk$Wordings" ({ cls := "ClockForTalk$Wordings", name := "isTrialLess", desc := "(II)Z" } : Jvm.MethodName) ({ cls := "ClockForTalk$Wordings", name := "isTrialLess", desc := "(II)Z" } : Jvm.MethodName)) ∈ li_ws := li_mem 34 (by decide +kernel) (by decide +kernel)
theorem w_112 : (Jvm.Cond.initialized "ClockForTalk$Wordings") ∈ li_ws := li_mem 112 (by decide +kernel) (by decide +kernel)
theorem w_352 : (Jvm.Cond.fieldLink "ClockForTalk$Wordings" (11 : Nat) "ClockForTalk$Wordings" "grammar" "[I") ∈ li_ws := li_mem 352 (by decide +kernel) (by decide +kernel)
theorem w_353 : (Jvm.Cond.fieldLink "ClockForTalk$Wordings" (15 : Nat) "ClockForTalk$Wordings" "draft" "[I") ∈ li_ws := li_mem 353 (by decide +kernel) (by decide +kernel)
theorem w_354 : (Jvm.Cond.fieldLink "ClockForTalk$Wordings" (18 : Nat) "ClockForTalk$Wordings" "letters" "[I") ∈ li_ws := li_mem 354 (by decide +kernel) (by decide +kernel)
theorem w_355 : (Jvm.Cond.fieldLink "ClockForTalk$Wordings" (21 : Nat) "ClockForTalk$Wordings" "masks" "[I") ∈ li_ws := li_mem 355 (by decide +kernel) (by decide +kernel)
theorem w_356 : (Jvm.Cond.fieldLink "ClockForTalk$Wordings" (24 : Nat) "ClockForTalk$Wordings" "fewest" "[I") ∈ li_ws := li_mem 356 (by decide +kernel) (by decide +kernel)
theorem w_357 : (Jvm.Cond.fieldLink "ClockForTalk$Wordings" (27 : Nat) "ClockForTalk$Wordings" "rows" "[I") ∈ li_ws := li_mem 357 (by decide +kernel) (by decide +kernel)
theorem w_359 : (Jvm.Cond.fieldLink "ClockForTalk$Wordings" (30 : Nat) "ClockForTalk$Wordings" "trial" "[I") ∈ li_ws := li_mem 359 (by decide +kernel) (by decide +kernel)
theorem w_360 : (Jvm.Cond.fieldLink "ClockForTalk$Wordings" (53 : Nat) "ClockForTalk$Wordings" "lines" "I") ∈ li_ws := li_mem 360 (by decide +kernel) (by decide +kernel)
theorem w_565 : (Jvm.Cond.instanceMethod ({ cls := "ClockForTalk$Text", name := "atEnd", desc := "()Z" } : Jvm.MethodName)) ∈ li_ws := li_mem 565 (by decide +kernel) (by decide +kernel)
theorem w_566 : (Jvm.Cond.selects "ClockForTalk$Text" ({ cls := "ClockForTalk$Text", name := "atEnd", desc := "()Z" } : Jvm.MethodName) ({ cls := "ClockForTalk$Text", name := "atEnd", desc := "()Z" } : Jvm.MethodName)) ∈ li_ws := li_mem 566 (by decide +kernel) (by decide +kernel)
theorem w_567 : (Jvm.Cond.code ({ cls := "ClockForTalk$Text", name := "atEnd", desc := "()Z" } : Jvm.MethodName) prog_9_method_4_code (1 : Nat) (Option.some Jvm.ClassFile.FieldType.boolean)) ∈ li_ws := li_mem 567 (by decide +kernel) (by decide +kernel)
theorem w_677 : (Jvm.Cond.methodLink "ClockForTalk$Wordings" (57 : Nat) ({ cls := "ClockForTalk$Text", name := "atEnd", desc := "()Z" } : Jvm.MethodName)) ∈ li_ws := li_mem 677 (by decide +kernel) (by decide +kernel)
theorem w_678 : (Jvm.Cond.methodLink "ClockForTalk$Wordings" (33 : Nat) ({ cls := "ClockForTalk$Text", name := "takeOneOf", desc := "(II)I" } : Jvm.MethodName)) ∈ li_ws := li_mem 678 (by decide +kernel) (by decide +kernel)
theorem w_740 : (Jvm.Cond.methodLink "ClockForTalk$Wordings" (39 : Nat) ({ cls := "ClockForTalk$Text", name := "skip", desc := "(I)Z" } : Jvm.MethodName)) ∈ li_ws := li_mem 740 (by decide +kernel) (by decide +kernel)
theorem w_1164 : (Jvm.Cond.methodLink "ClockForTalk$Wordings" (47 : Nat) ({ cls := "java/lang/System", name := "arraycopy", desc := "(Ljava/lang/Object;ILjava/lang/Object;II)V" } : Jvm.MethodName)) ∈ li_ws := li_mem 1164 (by decide +kernel) (by decide +kernel)
theorem w_1174 : (Jvm.Cond.methodLink "ClockForTalk$Wordings" (65 : Nat) ({ cls := "ClockForTalk$Wordings", name := "joined", desc := "(II)I" } : Jvm.MethodName)) ∈ li_ws := li_mem 1174 (by decide +kernel) (by decide +kernel)
theorem w_1176 : (Jvm.Cond.instanceMethod ({ cls := "ClockForTalk$Wordings", name := "joined", desc := "(II)I" } : Jvm.MethodName)) ∈ li_ws := li_mem 1176 (by decide +kernel) (by decide +kernel)
theorem w_1177 : (Jvm.Cond.code ({ cls := "ClockForTalk$Wordings", name := "joined", desc := "(II)I" } : Jvm.MethodName) prog_12_method_7_code (9 : Nat) (Option.some Jvm.ClassFile.FieldType.int)) ∈ li_ws := li_mem 1177 (by decide +kernel) (by decide +kernel)
theorem w_1178 : (Jvm.Cond.methodLink "ClockForTalk$Wordings" (68 : Nat) ({ cls := "ClockForTalk$Wordings", name := "mask", desc := "(II)I" } : Jvm.MethodName)) ∈ li_ws := li_mem 1178 (by decide +kernel) (by decide +kernel)
theorem w_1179 : (Jvm.Cond.instanceMethod ({ cls := "ClockForTalk$Wordings", name := "mask", desc := "(II)I" } : Jvm.MethodName)) ∈ li_ws := li_mem 1179 (by decide +kernel) (by decide +kernel)
theorem w_1180 : (Jvm.Cond.selects "ClockForTalk$Wordings" ({ cls := "ClockForTalk$Wordings", name := "mask", desc := "(II)I" } : Jvm.MethodName) ({ cls := "ClockForTalk$Wordings", name := "mask", desc := "(II)I" } : Jvm.MethodName)) ∈ li_ws := li_mem 1180 (by decide +kernel) (by decide +kernel)
theorem w_1181 : (Jvm.Cond.code ({ cls := "ClockForTalk$Wordings", name := "mask", desc := "(II)I" } : Jvm.MethodName) prog_12_method_5_code (3 : Nat) (Option.some Jvm.ClassFile.FieldType.int)) ∈ li_ws := li_mem 1181 (by decide +kernel) (by decide +kernel)
theorem w_1187 : (Jvm.Cond.methodLink "ClockForTalk$Wordings" (75 : Nat) ({ cls := "ClockForTalk$Wordings", name := "tryFirst", desc := "(II)V" } : Jvm.MethodName)) ∈ li_ws := li_mem 1187 (by decide +kernel) (by decide +kernel)
theorem w_1189 : (Jvm.Cond.instanceMethod ({ cls := "ClockForTalk$Wordings", name := "tryFirst", desc := "(II)V" } : Jvm.MethodName)) ∈ li_ws := li_mem 1189 (by decide +kernel) (by decide +kernel)
theorem w_1190 : (Jvm.Cond.code ({ cls := "ClockForTalk$Wordings", name := "tryFirst", desc := "(II)V" } : Jvm.MethodName) prog_12_method_9_code (5 : Nat) (Option.none : Option Jvm.ClassFile.FieldType)) ∈ li_ws := li_mem 1190 (by decide +kernel) (by decide +kernel)
theorem w_1191 : (Jvm.Cond.methodLink "ClockForTalk$Wordings" (79 : Nat) ({ cls := "java/lang/Integer", name := "numberOfTrailingZeros", desc := "(I)I" } : Jvm.MethodName)) ∈ li_ws := li_mem 1191 (by decide +kernel) (by decide +kernel)
theorem w_1192 : (Jvm.Cond.static ({ cls := "java/lang/Integer", name := "numberOfTrailingZeros", desc := "(I)I" } : Jvm.MethodName)) ∈ li_ws := li_mem 1192 (by decide +kernel) (by decide +kernel)
theorem w_1193 : (Jvm.Cond.code ({ cls := "java/lang/Integer", name := "numberOfTrailingZeros", desc := "(I)I" } : Jvm.MethodName) prog_19_method_48_code (2 : Nat) (Option.some Jvm.ClassFile.FieldType.int)) ∈ li_ws := li_mem 1193 (by decide +kernel) (by decide +kernel)
theorem w_1195 : (Jvm.Cond.methodLink "ClockForTalk$Wordings" (85 : Nat) ({ cls := "ClockForTalk$Wordings", name := "isTrialLess", desc := "(II)Z" } : Jvm.MethodName)) ∈ li_ws := li_mem 1195 (by decide +kernel) (by decide +kernel)
theorem w_1197 : (Jvm.Cond.instanceMethod ({ cls := "ClockForTalk$Wordings", name := "isTrialLess", desc := "(II)Z" } : Jvm.MethodName)) ∈ li_ws := li_mem 1197 (by decide +kernel) (by decide +kernel)
theorem w_1198 : (Jvm.Cond.code ({ cls := "ClockForTalk$Wordings", name := "isTrialLess", desc := "(II)Z" } : Jvm.MethodName) prog_12_method_10_code (5 : Nat) (Option.some Jvm.ClassFile.FieldType.boolean)) ∈ li_ws := li_mem 1198 (by decide +kernel) (by decide +kernel)
theorem dX10_readLine_0 : decode cX10_readLine 0 = .ok (.aload_n 1, 1) := by decide +kernel
theorem dX10_readLine_1 : decode cX10_readLine 1 = .ok (.bipush 97, 2) := by decide +kernel
theorem dX10_readLine_3 : decode cX10_readLine 3 = .ok (.bipush 7, 2) := by decide +kernel
theorem dX10_readLine_5 : decode cX10_readLine 5 = .ok (.invokevirtual 33, 3) := by decide +kernel
theorem dX10_readLine_8 : decode cX10_readLine 8 = .ok (.istore_n 3, 1) := by decide +kernel
theorem dX10_readLine_9 : decode cX10_readLine 9 = .ok (.iload_n 3, 1) := by decide +kernel
theorem dX10_readLine_10 : decode cX10_readLine 10 = .ok (.ifCond .ge 5, 3) := by decide +kernel
theorem dX10_readLine_13 : decode cX10_readLine 13 = .ok (.iconst 0, 1) := by decide +kernel
theorem dX10_readLine_14 : decode cX10_readLine 14 = .ok (.ireturn, 1) := by decide +kernel
theorem dX10_readLine_15 : decode cX10_readLine 15 = .ok (.aload_n 1, 1) := by decide +kernel
theorem dX10_readLine_16 : decode cX10_readLine 16 = .ok (.bipush 97, 2) := by decide +kernel
theorem dX10_readLine_18 : decode cX10_readLine 18 = .ok (.bipush 7, 2) := by decide +kernel
theorem dX10_readLine_20 : decode cX10_readLine 20 = .ok (.invokevirtual 33, 3) := by decide +kernel
theorem dX10_readLine_23 : decode cX10_readLine 23 = .ok (.istore 4, 2) := by decide +kernel
theorem dX10_readLine_25 : decode cX10_readLine 25 = .ok (.iload 4, 2) := by decide +kernel
theorem dX10_readLine_27 : decode cX10_readLine 27 = .ok (.ifCond .lt 12, 3) := by decide +kernel
theorem dX10_readLine_30 : decode cX10_readLine 30 = .ok (.aload_n 1, 1) := by decide +kernel
theorem dX10_readLine_31 : decode cX10_readLine 31 = .ok (.bipush 62, 2) := by decide +kernel
theorem dX10_readLine_33 : decode cX10_readLine 33 = .ok (.invokevirtual 39, 3) := by decide +kernel
theorem dX10_readLine_36 : decode cX10_readLine 36 = .ok (.ifCond .ne 5, 3) := by decide +kernel
theorem dX10_readLine_39 : decode cX10_readLine 39 = .ok (.iconst 0, 1) := by decide +kernel
theorem dX10_readLine_40 : decode cX10_readLine 40 = .ok (.ireturn, 1) := by decide +kernel
theorem dX10_readLine_41 : decode cX10_readLine 41 = .ok (.aload_n 1, 1) := by decide +kernel
theorem dX10_readLine_42 : decode cX10_readLine 42 = .ok (.bipush 97, 2) := by decide +kernel
theorem dX10_readLine_44 : decode cX10_readLine 44 = .ok (.bipush 7, 2) := by decide +kernel
theorem dX10_readLine_46 : decode cX10_readLine 46 = .ok (.invokevirtual 33, 3) := by decide +kernel
theorem dX10_readLine_49 : decode cX10_readLine 49 = .ok (.istore 5, 2) := by decide +kernel
theorem dX10_readLine_51 : decode cX10_readLine 51 = .ok (.aload_n 0, 1) := by decide +kernel
theorem dX10_readLine_52 : decode cX10_readLine 52 = .ok (.getfield 15, 3) := by decide +kernel
theorem dX10_readLine_55 : decode cX10_readLine 55 = .ok (.iload_n 2, 1) := by decide +kernel
theorem dX10_readLine_56 : decode cX10_readLine 56 = .ok (.iconst 3, 1) := by decide +kernel
theorem dX10_readLine_57 : decode cX10_readLine 57 = .ok (.imul, 1) := by decide +kernel
theorem dX10_readLine_58 : decode cX10_readLine 58 = .ok (.iload_n 3, 1) := by decide +kernel
theorem dX10_readLine_59 : decode cX10_readLine 59 = .ok (.invokestatic 43, 3) := by decide +kernel
theorem dX10_readLine_62 : decode cX10_readLine 62 = .ok (.aload_n 0, 1) := by decide +kernel
theorem dX10_readLine_63 : decode cX10_readLine 63 = .ok (.getfield 15, 3) := by decide +kernel
theorem dX10_readLine_66 : decode cX10_readLine 66 = .ok (.iload_n 2, 1) := by decide +kernel
theorem dX10_readLine_67 : decode cX10_readLine 67 = .ok (.iconst 3, 1) := by decide +kernel
theorem dX10_readLine_68 : decode cX10_readLine 68 = .ok (.imul, 1) := by decide +kernel
theorem dX10_readLine_69 : decode cX10_readLine 69 = .ok (.iconst 1, 1) := by decide +kernel
theorem dX10_readLine_70 : decode cX10_readLine 70 = .ok (.iadd, 1) := by decide +kernel
theorem dX10_readLine_71 : decode cX10_readLine 71 = .ok (.iload 4, 2) := by decide +kernel
theorem dX10_readLine_73 : decode cX10_readLine 73 = .ok (.invokestatic 43, 3) := by decide +kernel
theorem dX10_readLine_76 : decode cX10_readLine 76 = .ok (.aload_n 0, 1) := by decide +kernel
theorem dX10_readLine_77 : decode cX10_readLine 77 = .ok (.getfield 15, 3) := by decide +kernel
theorem dX10_readLine_80 : decode cX10_readLine 80 = .ok (.iload_n 2, 1) := by decide +kernel
theorem dX10_readLine_81 : decode cX10_readLine 81 = .ok (.iconst 3, 1) := by decide +kernel
theorem dX10_readLine_82 : decode cX10_readLine 82 = .ok (.imul, 1) := by decide +kernel
theorem dX10_readLine_83 : decode cX10_readLine 83 = .ok (.iconst 2, 1) := by decide +kernel
theorem dX10_readLine_84 : decode cX10_readLine 84 = .ok (.iadd, 1) := by decide +kernel
theorem dX10_readLine_85 : decode cX10_readLine 85 = .ok (.iload 5, 2) := by decide +kernel
theorem dX10_readLine_87 : decode cX10_readLine 87 = .ok (.invokestatic 43, 3) := by decide +kernel
theorem dX10_readLine_90 : decode cX10_readLine 90 = .ok (.iload 5, 2) := by decide +kernel
theorem dX10_readLine_92 : decode cX10_readLine 92 = .ok (.ifCond .lt 7, 3) := by decide +kernel
theorem dX10_readLine_95 : decode cX10_readLine 95 = .ok (.iconst 1, 1) := by decide +kernel
theorem dX10_readLine_96 : decode cX10_readLine 96 = .ok (.goto 4, 3) := by decide +kernel
theorem dX10_readLine_99 : decode cX10_readLine 99 = .ok (.iconst 0, 1) := by decide +kernel
theorem dX10_readLine_100 : decode cX10_readLine 100 = .ok (.ireturn, 1) := by decide +kernel
abbrev YX10_readLine : li_Y := (yX10_readLine, cX10_readLine, 6, (some .boolean))
theorem dX10_adopt_0 : decode cX10_adopt 0 = .ok (.aload_n 0, 1) := by decide +kernel
theorem dX10_adopt_1 : decode cX10_adopt 1 = .ok (.getfield 15, 3) := by decide +kernel
theorem dX10_adopt_4 : decode cX10_adopt 4 = .ok (.iconst 0, 1) := by decide +kernel
theorem dX10_adopt_5 : decode cX10_adopt 5 = .ok (.aload_n 0, 1) := by decide +kernel
theorem dX10_adopt_6 : decode cX10_adopt 6 = .ok (.getfield 11, 3) := by decide +kernel
theorem dX10_adopt_9 : decode cX10_adopt 9 = .ok (.iconst 0, 1) := by decide +kernel
theorem dX10_adopt_10 : decode cX10_adopt 10 = .ok (.bipush 30, 2) := by decide +kernel
theorem dX10_adopt_12 : decode cX10_adopt 12 = .ok (.invokestatic 47, 3) := by decide +kernel
theorem dX10_adopt_15 : decode cX10_adopt 15 = .ok (.aload_n 0, 1) := by decide +kernel
theorem dX10_adopt_16 : decode cX10_adopt 16 = .ok (.iload_n 1, 1) := by decide +kernel
theorem dX10_adopt_17 : decode cX10_adopt 17 = .ok (.putfield 53, 3) := by decide +kernel
theorem dX10_adopt_20 : decode cX10_adopt 20 = .ok (.return_, 1) := by decide +kernel
abbrev YX10_adopt : li_Y := (yX10_adopt, cX10_adopt, 2, none)
theorem dX10_readWording_0 : decode cX10_readWording 0 = .ok (.iconst 0, 1) := by decide +kernel
theorem dX10_readWording_1 : decode cX10_readWording 1 = .ok (.istore_n 2, 1) := by decide +kernel
theorem dX10_readWording_2 : decode cX10_readWording 2 = .ok (.iconst 0, 1) := by decide +kernel
theorem dX10_readWording_3 : decode cX10_readWording 3 = .ok (.istore_n 3, 1) := by decide +kernel
theorem dX10_readWording_4 : decode cX10_readWording 4 = .ok (.iload_n 3, 1) := by decide +kernel
theorem dX10_readWording_5 : decode cX10_readWording 5 = .ok (.bipush 80, 2) := by decide +kernel
theorem dX10_readWording_7 : decode cX10_readWording 7 = .ok (.if_icmp .ge 46, 3) := by decide +kernel
theorem dX10_readWording_10 : decode cX10_readWording 10 = .ok (.aload_n 1, 1) := by decide +kernel
theorem dX10_readWording_11 : decode cX10_readWording 11 = .ok (.invokevirtual 57, 3) := by decide +kernel
theorem dX10_readWording_14 : decode cX10_readWording 14 = .ok (.ifCond .ne 39, 3) := by decide +kernel
theorem dX10_readWording_17 : decode cX10_readWording 17 = .ok (.aload_n 1, 1) := by decide +kernel
theorem dX10_readWording_18 : decode cX10_readWording 18 = .ok (.bipush 97, 2) := by decide +kernel
theorem dX10_readWording_20 : decode cX10_readWording 20 = .ok (.bipush 7, 2) := by decide +kernel
theorem dX10_readWording_22 : decode cX10_readWording 22 = .ok (.invokevirtual 33, 3) := by decide +kernel
theorem dX10_readWording_25 : decode cX10_readWording 25 = .ok (.istore 4, 2) := by decide +kernel
theorem dX10_readWording_27 : decode cX10_readWording 27 = .ok (.iload 4, 2) := by decide +kernel
theorem dX10_readWording_29 : decode cX10_readWording 29 = .ok (.ifCond .ge 5, 3) := by decide +kernel
theorem dX10_readWording_32 : decode cX10_readWording 32 = .ok (.iconst (-1), 1) := by decide +kernel
theorem dX10_readWording_33 : decode cX10_readWording 33 = .ok (.ireturn, 1) := by decide +kernel
theorem dX10_readWording_34 : decode cX10_readWording 34 = .ok (.aload_n 0, 1) := by decide +kernel
theorem dX10_readWording_35 : decode cX10_readWording 35 = .ok (.getfield 18, 3) := by decide +kernel
theorem dX10_readWording_38 : decode cX10_readWording 38 = .ok (.iload_n 2, 1) := by decide +kernel
theorem dX10_readWording_39 : decode cX10_readWording 39 = .ok (.iload 4, 2) := by decide +kernel
theorem dX10_readWording_41 : decode cX10_readWording 41 = .ok (.invokestatic 43, 3) := by decide +kernel
theorem dX10_readWording_44 : decode cX10_readWording 44 = .ok (.iinc 2 1, 3) := by decide +kernel
theorem dX10_readWording_47 : decode cX10_readWording 47 = .ok (.iinc 3 1, 3) := by decide +kernel
theorem dX10_readWording_50 : decode cX10_readWording 50 = .ok (.goto (-46), 3) := by decide +kernel
theorem dX10_readWording_53 : decode cX10_readWording 53 = .ok (.iload_n 2, 1) := by decide +kernel
theorem dX10_readWording_54 : decode cX10_readWording 54 = .ok (.ifCond .le 7, 3) := by decide +kernel
theorem dX10_readWording_57 : decode cX10_readWording 57 = .ok (.iload_n 2, 1) := by decide +kernel
theorem dX10_readWording_58 : decode cX10_readWording 58 = .ok (.goto 4, 3) := by decide +kernel
theorem dX10_readWording_61 : decode cX10_readWording 61 = .ok (.iconst (-1), 1) := by decide +kernel
theorem dX10_readWording_62 : decode cX10_readWording 62 = .ok (.ireturn, 1) := by decide +kernel
abbrev YX10_readWording : li_Y := (yX10_readWording, cX10_readWording, 5, (some .int))
theorem dX10_mask_0 : decode cX10_mask 0 = .ok (.aload_n 0, 1) := by decide +kernel
theorem dX10_mask_1 : decode cX10_mask 1 = .ok (.getfield 21, 3) := by decide +kernel
theorem dX10_mask_4 : decode cX10_mask 4 = .ok (.iload_n 1, 1) := by decide +kernel
theorem dX10_mask_5 : decode cX10_mask 5 = .ok (.bipush 15, 2) := by decide +kernel
theorem dX10_mask_7 : decode cX10_mask 7 = .ok (.imul, 1) := by decide +kernel
theorem dX10_mask_8 : decode cX10_mask 8 = .ok (.iload_n 2, 1) := by decide +kernel
theorem dX10_mask_9 : decode cX10_mask 9 = .ok (.iadd, 1) := by decide +kernel
theorem dX10_mask_10 : decode cX10_mask 10 = .ok (.invokestatic 61, 3) := by decide +kernel
theorem dX10_mask_13 : decode cX10_mask 13 = .ok (.ireturn, 1) := by decide +kernel
abbrev YX10_mask : li_Y := (yX10_mask, cX10_mask, 3, (some .int))
theorem dX10_joined_0 : decode cX10_joined 0 = .ok (.iconst 0, 1) := by decide +kernel
theorem dX10_joined_1 : decode cX10_joined 1 = .ok (.istore_n 3, 1) := by decide +kernel
theorem dX10_joined_2 : decode cX10_joined 2 = .ok (.iload_n 1, 1) := by decide +kernel
theorem dX10_joined_3 : decode cX10_joined 3 = .ok (.iconst 1, 1) := by decide +kernel
theorem dX10_joined_4 : decode cX10_joined 4 = .ok (.iadd, 1) := by decide +kernel
theorem dX10_joined_5 : decode cX10_joined 5 = .ok (.istore 4, 2) := by decide +kernel
theorem dX10_joined_7 : decode cX10_joined 7 = .ok (.iload 4, 2) := by decide +kernel
theorem dX10_joined_9 : decode cX10_joined 9 = .ok (.iload_n 2, 1) := by decide +kernel
theorem dX10_joined_10 : decode cX10_joined 10 = .ok (.if_icmp .ge 103, 3) := by decide +kernel
theorem dX10_joined_13 : decode cX10_joined 13 = .ok (.aload_n 0, 1) := by decide +kernel
theorem dX10_joined_14 : decode cX10_joined 14 = .ok (.iload_n 1, 1) := by decide +kernel
theorem dX10_joined_15 : decode cX10_joined 15 = .ok (.iload 4, 2) := by decide +kernel
theorem dX10_joined_17 : decode cX10_joined 17 = .ok (.invokevirtual 68, 3) := by decide +kernel
theorem dX10_joined_20 : decode cX10_joined 20 = .ok (.istore 5, 2) := by decide +kernel
theorem dX10_joined_22 : decode cX10_joined 22 = .ok (.aload_n 0, 1) := by decide +kernel
theorem dX10_joined_23 : decode cX10_joined 23 = .ok (.iload 4, 2) := by decide +kernel
theorem dX10_joined_25 : decode cX10_joined 25 = .ok (.iload_n 2, 1) := by decide +kernel
theorem dX10_joined_26 : decode cX10_joined 26 = .ok (.invokevirtual 68, 3) := by decide +kernel
theorem dX10_joined_29 : decode cX10_joined 29 = .ok (.istore 6, 2) := by decide +kernel
theorem dX10_joined_31 : decode cX10_joined 31 = .ok (.iconst 0, 1) := by decide +kernel
theorem dX10_joined_32 : decode cX10_joined 32 = .ok (.istore 7, 2) := by decide +kernel
theorem dX10_joined_34 : decode cX10_joined 34 = .ok (.iload 7, 2) := by decide +kernel
theorem dX10_joined_36 : decode cX10_joined 36 = .ok (.aload_n 0, 1) := by decide +kernel
theorem dX10_joined_37 : decode cX10_joined 37 = .ok (.getfield 53, 3) := by decide +kernel
theorem dX10_joined_40 : decode cX10_joined 40 = .ok (.if_icmp .ge 67, 3) := by decide +kernel
theorem dX10_joined_43 : decode cX10_joined 43 = .ok (.iload 7, 2) := by decide +kernel
theorem dX10_joined_45 : decode cX10_joined 45 = .ok (.iconst 3, 1) := by decide +kernel
theorem dX10_joined_46 : decode cX10_joined 46 = .ok (.imul, 1) := by decide +kernel
theorem dX10_joined_47 : decode cX10_joined 47 = .ok (.istore 8, 2) := by decide +kernel
theorem dX10_joined_49 : decode cX10_joined 49 = .ok (.iload 5, 2) := by decide +kernel
theorem dX10_joined_51 : decode cX10_joined 51 = .ok (.aload_n 0, 1) := by decide +kernel
theorem dX10_joined_52 : decode cX10_joined 52 = .ok (.getfield 11, 3) := by decide +kernel
theorem dX10_joined_55 : decode cX10_joined 55 = .ok (.iload 8, 2) := by decide +kernel
theorem dX10_joined_57 : decode cX10_joined 57 = .ok (.invokestatic 61, 3) := by decide +kernel
theorem dX10_joined_60 : decode cX10_joined 60 = .ok (.invokestatic 71, 3) := by decide +kernel
theorem dX10_joined_63 : decode cX10_joined 63 = .ok (.ifCond .eq 38, 3) := by decide +kernel
theorem dX10_joined_66 : decode cX10_joined 66 = .ok (.iload 6, 2) := by decide +kernel
theorem dX10_joined_68 : decode cX10_joined 68 = .ok (.aload_n 0, 1) := by decide +kernel
theorem dX10_joined_69 : decode cX10_joined 69 = .ok (.getfield 11, 3) := by decide +kernel
theorem dX10_joined_72 : decode cX10_joined 72 = .ok (.iload 8, 2) := by decide +kernel
theorem dX10_joined_74 : decode cX10_joined 74 = .ok (.iconst 1, 1) := by decide +kernel
theorem dX10_joined_75 : decode cX10_joined 75 = .ok (.iadd, 1) := by decide +kernel
theorem dX10_joined_76 : decode cX10_joined 76 = .ok (.invokestatic 61, 3) := by decide +kernel
theorem dX10_joined_79 : decode cX10_joined 79 = .ok (.invokestatic 71, 3) := by decide +kernel
theorem dX10_joined_82 : decode cX10_joined 82 = .ok (.ifCond .eq 19, 3) := by decide +kernel
theorem dX10_joined_85 : decode cX10_joined 85 = .ok (.iload_n 3, 1) := by decide +kernel
theorem dX10_joined_86 : decode cX10_joined 86 = .ok (.iconst 1, 1) := by decide +kernel
theorem dX10_joined_87 : decode cX10_joined 87 = .ok (.aload_n 0, 1) := by decide +kernel
theorem dX10_joined_88 : decode cX10_joined 88 = .ok (.getfield 11, 3) := by decide +kernel
theorem dX10_joined_91 : decode cX10_joined 91 = .ok (.iload 8, 2) := by decide +kernel
theorem dX10_joined_93 : decode cX10_joined 93 = .ok (.iconst 2, 1) := by decide +kernel
theorem dX10_joined_94 : decode cX10_joined 94 = .ok (.iadd, 1) := by decide +kernel
theorem dX10_joined_95 : decode cX10_joined 95 = .ok (.invokestatic 61, 3) := by decide +kernel
theorem dX10_joined_98 : decode cX10_joined 98 = .ok (.ishl, 1) := by decide +kernel
theorem dX10_joined_99 : decode cX10_joined 99 = .ok (.ior, 1) := by decide +kernel
theorem dX10_joined_100 : decode cX10_joined 100 = .ok (.istore_n 3, 1) := by decide +kernel
theorem dX10_joined_101 : decode cX10_joined 101 = .ok (.iinc 7 1, 3) := by decide +kernel
theorem dX10_joined_104 : decode cX10_joined 104 = .ok (.goto (-70), 3) := by decide +kernel
theorem dX10_joined_107 : decode cX10_joined 107 = .ok (.iinc 4 1, 3) := by decide +kernel
theorem dX10_joined_110 : decode cX10_joined 110 = .ok (.goto (-103), 3) := by decide +kernel
theorem dX10_joined_113 : decode cX10_joined 113 = .ok (.iload_n 3, 1) := by decide +kernel
theorem dX10_joined_114 : decode cX10_joined 114 = .ok (.ireturn, 1) := by decide +kernel
abbrev YX10_joined : li_Y := (yX10_joined, cX10_joined, 9, (some .int))
theorem dX10_fillMasks_0 : decode cX10_fillMasks 0 = .ok (.iconst 0, 1) := by decide +kernel
theorem dX10_fillMasks_1 : decode cX10_fillMasks 1 = .ok (.istore_n 2, 1) := by decide +kernel
theorem dX10_fillMasks_2 : decode cX10_fillMasks 2 = .ok (.iload_n 2, 1) := by decide +kernel
theorem dX10_fillMasks_3 : decode cX10_fillMasks 3 = .ok (.iload_n 1, 1) := by decide +kernel
theorem dX10_fillMasks_4 : decode cX10_fillMasks 4 = .ok (.if_icmp .ge 34, 3) := by decide +kernel
theorem dX10_fillMasks_7 : decode cX10_fillMasks 7 = .ok (.aload_n 0, 1) := by decide +kernel
theorem dX10_fillMasks_8 : decode cX10_fillMasks 8 = .ok (.getfield 21, 3) := by decide +kernel
theorem dX10_fillMasks_11 : decode cX10_fillMasks 11 = .ok (.iload_n 2, 1) := by decide +kernel
theorem dX10_fillMasks_12 : decode cX10_fillMasks 12 = .ok (.bipush 15, 2) := by decide +kernel
theorem dX10_fillMasks_14 : decode cX10_fillMasks 14 = .ok (.imul, 1) := by decide +kernel
theorem dX10_fillMasks_15 : decode cX10_fillMasks 15 = .ok (.iload_n 2, 1) := by decide +kernel
theorem dX10_fillMasks_16 : decode cX10_fillMasks 16 = .ok (.iadd, 1) := by decide +kernel
theorem dX10_fillMasks_17 : decode cX10_fillMasks 17 = .ok (.iconst 1, 1) := by decide +kernel
theorem dX10_fillMasks_18 : decode cX10_fillMasks 18 = .ok (.iadd, 1) := by decide +kernel
theorem dX10_fillMasks_19 : decode cX10_fillMasks 19 = .ok (.iconst 1, 1) := by decide +kernel
theorem dX10_fillMasks_20 : decode cX10_fillMasks 20 = .ok (.aload_n 0, 1) := by decide +kernel
theorem dX10_fillMasks_21 : decode cX10_fillMasks 21 = .ok (.getfield 18, 3) := by decide +kernel
theorem dX10_fillMasks_24 : decode cX10_fillMasks 24 = .ok (.iload_n 2, 1) := by decide +kernel
theorem dX10_fillMasks_25 : decode cX10_fillMasks 25 = .ok (.invokestatic 61, 3) := by decide +kernel
theorem dX10_fillMasks_28 : decode cX10_fillMasks 28 = .ok (.ishl, 1) := by decide +kernel
theorem dX10_fillMasks_29 : decode cX10_fillMasks 29 = .ok (.invokestatic 43, 3) := by decide +kernel
theorem dX10_fillMasks_32 : decode cX10_fillMasks 32 = .ok (.iinc 2 1, 3) := by decide +kernel
theorem dX10_fillMasks_35 : decode cX10_fillMasks 35 = .ok (.goto (-33), 3) := by decide +kernel
theorem dX10_fillMasks_38 : decode cX10_fillMasks 38 = .ok (.iconst 2, 1) := by decide +kernel
theorem dX10_fillMasks_39 : decode cX10_fillMasks 39 = .ok (.istore_n 2, 1) := by decide +kernel
theorem dX10_fillMasks_40 : decode cX10_fillMasks 40 = .ok (.iload_n 2, 1) := by decide +kernel
theorem dX10_fillMasks_41 : decode cX10_fillMasks 41 = .ok (.iload_n 1, 1) := by decide +kernel
theorem dX10_fillMasks_42 : decode cX10_fillMasks 42 = .ok (.if_icmp .gt 47, 3) := by decide +kernel
theorem dX10_fillMasks_45 : decode cX10_fillMasks 45 = .ok (.iconst 0, 1) := by decide +kernel
theorem dX10_fillMasks_46 : decode cX10_fillMasks 46 = .ok (.istore_n 3, 1) := by decide +kernel
theorem dX10_fillMasks_47 : decode cX10_fillMasks 47 = .ok (.iload_n 3, 1) := by decide +kernel
theorem dX10_fillMasks_48 : decode cX10_fillMasks 48 = .ok (.iload_n 2, 1) := by decide +kernel
theorem dX10_fillMasks_49 : decode cX10_fillMasks 49 = .ok (.iadd, 1) := by decide +kernel
theorem dX10_fillMasks_50 : decode cX10_fillMasks 50 = .ok (.iload_n 1, 1) := by decide +kernel
theorem dX10_fillMasks_51 : decode cX10_fillMasks 51 = .ok (.if_icmp .gt 32, 3) := by decide +kernel
theorem dX10_fillMasks_54 : decode cX10_fillMasks 54 = .ok (.aload_n 0, 1) := by decide +kernel
theorem dX10_fillMasks_55 : decode cX10_fillMasks 55 = .ok (.getfield 21, 3) := by decide +kernel
theorem dX10_fillMasks_58 : decode cX10_fillMasks 58 = .ok (.iload_n 3, 1) := by decide +kernel
theorem dX10_fillMasks_59 : decode cX10_fillMasks 59 = .ok (.bipush 15, 2) := by decide +kernel
theorem dX10_fillMasks_61 : decode cX10_fillMasks 61 = .ok (.imul, 1) := by decide +kernel
theorem dX10_fillMasks_62 : decode cX10_fillMasks 62 = .ok (.iload_n 3, 1) := by decide +kernel
theorem dX10_fillMasks_63 : decode cX10_fillMasks 63 = .ok (.iadd, 1) := by decide +kernel
theorem dX10_fillMasks_64 : decode cX10_fillMasks 64 = .ok (.iload_n 2, 1) := by decide +kernel
theorem dX10_fillMasks_65 : decode cX10_fillMasks 65 = .ok (.iadd, 1) := by decide +kernel
theorem dX10_fillMasks_66 : decode cX10_fillMasks 66 = .ok (.aload_n 0, 1) := by decide +kernel
theorem dX10_fillMasks_67 : decode cX10_fillMasks 67 = .ok (.iload_n 3, 1) := by decide +kernel
theorem dX10_fillMasks_68 : decode cX10_fillMasks 68 = .ok (.iload_n 3, 1) := by decide +kernel
theorem dX10_fillMasks_69 : decode cX10_fillMasks 69 = .ok (.iload_n 2, 1) := by decide +kernel
theorem dX10_fillMasks_70 : decode cX10_fillMasks 70 = .ok (.iadd, 1) := by decide +kernel
theorem dX10_fillMasks_71 : decode cX10_fillMasks 71 = .ok (.invokevirtual 65, 3) := by decide +kernel
theorem dX10_fillMasks_74 : decode cX10_fillMasks 74 = .ok (.invokestatic 43, 3) := by decide +kernel
theorem dX10_fillMasks_77 : decode cX10_fillMasks 77 = .ok (.iinc 3 1, 3) := by decide +kernel
theorem dX10_fillMasks_80 : decode cX10_fillMasks 80 = .ok (.goto (-33), 3) := by decide +kernel
theorem dX10_fillMasks_83 : decode cX10_fillMasks 83 = .ok (.iinc 2 1, 3) := by decide +kernel
theorem dX10_fillMasks_86 : decode cX10_fillMasks 86 = .ok (.goto (-46), 3) := by decide +kernel
theorem dX10_fillMasks_89 : decode cX10_fillMasks 89 = .ok (.return_, 1) := by decide +kernel
abbrev YX10_fillMasks : li_Y := (yX10_fillMasks, cX10_fillMasks, 4, none)
theorem dX10_isTrialLess_0 : decode cX10_isTrialLess 0 = .ok (.iconst 0, 1) := by decide +kernel
theorem dX10_isTrialLess_1 : decode cX10_isTrialLess 1 = .ok (.istore_n 3, 1) := by decide +kernel
theorem dX10_isTrialLess_2 : decode cX10_isTrialLess 2 = .ok (.iload_n 3, 1) := by decide +kernel
theorem dX10_isTrialLess_3 : decode cX10_isTrialLess 3 = .ok (.iload_n 2, 1) := by decide +kernel
theorem dX10_isTrialLess_4 : decode cX10_isTrialLess 4 = .ok (.if_icmp .ge 49, 3) := by decide +kernel
theorem dX10_isTrialLess_7 : decode cX10_isTrialLess 7 = .ok (.aload_n 0, 1) := by decide +kernel
theorem dX10_isTrialLess_8 : decode cX10_isTrialLess 8 = .ok (.getfield 30, 3) := by decide +kernel
theorem dX10_isTrialLess_11 : decode cX10_isTrialLess 11 = .ok (.iload_n 3, 1) := by decide +kernel
theorem dX10_isTrialLess_12 : decode cX10_isTrialLess 12 = .ok (.invokestatic 61, 3) := by decide +kernel
theorem dX10_isTrialLess_15 : decode cX10_isTrialLess 15 = .ok (.aload_n 0, 1) := by decide +kernel
theorem dX10_isTrialLess_16 : decode cX10_isTrialLess 16 = .ok (.getfield 27, 3) := by decide +kernel
theorem dX10_isTrialLess_19 : decode cX10_isTrialLess 19 = .ok (.iload_n 1, 1) := by decide +kernel
theorem dX10_isTrialLess_20 : decode cX10_isTrialLess 20 = .ok (.bipush 15, 2) := by decide +kernel
theorem dX10_isTrialLess_22 : decode cX10_isTrialLess 22 = .ok (.imul, 1) := by decide +kernel
theorem dX10_isTrialLess_23 : decode cX10_isTrialLess 23 = .ok (.iload_n 3, 1) := by decide +kernel
theorem dX10_isTrialLess_24 : decode cX10_isTrialLess 24 = .ok (.iadd, 1) := by decide +kernel
theorem dX10_isTrialLess_25 : decode cX10_isTrialLess 25 = .ok (.invokestatic 61, 3) := by decide +kernel
theorem dX10_isTrialLess_28 : decode cX10_isTrialLess 28 = .ok (.isub, 1) := by decide +kernel
theorem dX10_isTrialLess_29 : decode cX10_isTrialLess 29 = .ok (.istore 4, 2) := by decide +kernel
theorem dX10_isTrialLess_31 : decode cX10_isTrialLess 31 = .ok (.iload 4, 2) := by decide +kernel
theorem dX10_isTrialLess_33 : decode cX10_isTrialLess 33 = .ok (.ifCond .eq 14, 3) := by decide +kernel
theorem dX10_isTrialLess_36 : decode cX10_isTrialLess 36 = .ok (.iload 4, 2) := by decide +kernel
theorem dX10_isTrialLess_38 : decode cX10_isTrialLess 38 = .ok (.ifCond .ge 7, 3) := by decide +kernel
theorem dX10_isTrialLess_41 : decode cX10_isTrialLess 41 = .ok (.iconst 1, 1) := by decide +kernel
theorem dX10_isTrialLess_42 : decode cX10_isTrialLess 42 = .ok (.goto 4, 3) := by decide +kernel
theorem dX10_isTrialLess_45 : decode cX10_isTrialLess 45 = .ok (.iconst 0, 1) := by decide +kernel
theorem dX10_isTrialLess_46 : decode cX10_isTrialLess 46 = .ok (.ireturn, 1) := by decide +kernel
theorem dX10_isTrialLess_47 : decode cX10_isTrialLess 47 = .ok (.iinc 3 1, 3) := by decide +kernel
theorem dX10_isTrialLess_50 : decode cX10_isTrialLess 50 = .ok (.goto (-48), 3) := by decide +kernel
theorem dX10_isTrialLess_53 : decode cX10_isTrialLess 53 = .ok (.iconst 0, 1) := by decide +kernel
theorem dX10_isTrialLess_54 : decode cX10_isTrialLess 54 = .ok (.ireturn, 1) := by decide +kernel
abbrev YX10_isTrialLess : li_Y := (yX10_isTrialLess, cX10_isTrialLess, 5, (some .boolean))
theorem dX10_tryFirst_0 : decode cX10_tryFirst 0 = .ok (.iconst 1, 1) := by decide +kernel
theorem dX10_tryFirst_1 : decode cX10_tryFirst 1 = .ok (.aload_n 0, 1) := by decide +kernel
theorem dX10_tryFirst_2 : decode cX10_tryFirst 2 = .ok (.getfield 24, 3) := by decide +kernel
theorem dX10_tryFirst_5 : decode cX10_tryFirst 5 = .ok (.iload_n 2, 1) := by decide +kernel
theorem dX10_tryFirst_6 : decode cX10_tryFirst 6 = .ok (.invokestatic 61, 3) := by decide +kernel
theorem dX10_tryFirst_9 : decode cX10_tryFirst 9 = .ok (.iadd, 1) := by decide +kernel
theorem dX10_tryFirst_10 : decode cX10_tryFirst 10 = .ok (.istore_n 3, 1) := by decide +kernel
theorem dX10_tryFirst_11 : decode cX10_tryFirst 11 = .ok (.iload_n 3, 1) := by decide +kernel
theorem dX10_tryFirst_12 : decode cX10_tryFirst 12 = .ok (.aload_n 0, 1) := by decide +kernel
theorem dX10_tryFirst_13 : decode cX10_tryFirst 13 = .ok (.getfield 24, 3) := by decide +kernel
theorem dX10_tryFirst_16 : decode cX10_tryFirst 16 = .ok (.iload_n 1, 1) := by decide +kernel
theorem dX10_tryFirst_17 : decode cX10_tryFirst 17 = .ok (.invokestatic 61, 3) := by decide +kernel
theorem dX10_tryFirst_20 : decode cX10_tryFirst 20 = .ok (.if_icmp .le 4, 3) := by decide +kernel
theorem dX10_tryFirst_23 : decode cX10_tryFirst 23 = .ok (.return_, 1) := by decide +kernel
theorem dX10_tryFirst_24 : decode cX10_tryFirst 24 = .ok (.aload_n 0, 1) := by decide +kernel
theorem dX10_tryFirst_25 : decode cX10_tryFirst 25 = .ok (.getfield 30, 3) := by decide +kernel
theorem dX10_tryFirst_28 : decode cX10_tryFirst 28 = .ok (.iconst 0, 1) := by decide +kernel
theorem dX10_tryFirst_29 : decode cX10_tryFirst 29 = .ok (.aload_n 0, 1) := by decide +kernel
theorem dX10_tryFirst_30 : decode cX10_tryFirst 30 = .ok (.iload_n 1, 1) := by decide +kernel
theorem dX10_tryFirst_31 : decode cX10_tryFirst 31 = .ok (.iload_n 2, 1) := by decide +kernel
theorem dX10_tryFirst_32 : decode cX10_tryFirst 32 = .ok (.invokevirtual 68, 3) := by decide +kernel
theorem dX10_tryFirst_35 : decode cX10_tryFirst 35 = .ok (.invokestatic 79, 3) := by decide +kernel
theorem dX10_tryFirst_38 : decode cX10_tryFirst 38 = .ok (.invokestatic 43, 3) := by decide +kernel
theorem dX10_tryFirst_41 : decode cX10_tryFirst 41 = .ok (.iconst 1, 1) := by decide +kernel
theorem dX10_tryFirst_42 : decode cX10_tryFirst 42 = .ok (.istore 4, 2) := by decide +kernel
theorem dX10_tryFirst_44 : decode cX10_tryFirst 44 = .ok (.iload 4, 2) := by decide +kernel
theorem dX10_tryFirst_46 : decode cX10_tryFirst 46 = .ok (.iload_n 3, 1) := by decide +kernel
theorem dX10_tryFirst_47 : decode cX10_tryFirst 47 = .ok (.if_icmp .ge 34, 3) := by decide +kernel
theorem dX10_tryFirst_50 : decode cX10_tryFirst 50 = .ok (.aload_n 0, 1) := by decide +kernel
theorem dX10_tryFirst_51 : decode cX10_tryFirst 51 = .ok (.getfield 30, 3) := by decide +kernel
theorem dX10_tryFirst_54 : decode cX10_tryFirst 54 = .ok (.iload 4, 2) := by decide +kernel
theorem dX10_tryFirst_56 : decode cX10_tryFirst 56 = .ok (.aload_n 0, 1) := by decide +kernel
theorem dX10_tryFirst_57 : decode cX10_tryFirst 57 = .ok (.getfield 27, 3) := by decide +kernel
theorem dX10_tryFirst_60 : decode cX10_tryFirst 60 = .ok (.iload_n 2, 1) := by decide +kernel
theorem dX10_tryFirst_61 : decode cX10_tryFirst 61 = .ok (.bipush 15, 2) := by decide +kernel
theorem dX10_tryFirst_63 : decode cX10_tryFirst 63 = .ok (.imul, 1) := by decide +kernel
theorem dX10_tryFirst_64 : decode cX10_tryFirst 64 = .ok (.iload 4, 2) := by decide +kernel
theorem dX10_tryFirst_66 : decode cX10_tryFirst 66 = .ok (.iadd, 1) := by decide +kernel
theorem dX10_tryFirst_67 : decode cX10_tryFirst 67 = .ok (.iconst 1, 1) := by decide +kernel
theorem dX10_tryFirst_68 : decode cX10_tryFirst 68 = .ok (.isub, 1) := by decide +kernel
theorem dX10_tryFirst_69 : decode cX10_tryFirst 69 = .ok (.invokestatic 61, 3) := by decide +kernel
theorem dX10_tryFirst_72 : decode cX10_tryFirst 72 = .ok (.invokestatic 43, 3) := by decide +kernel
theorem dX10_tryFirst_75 : decode cX10_tryFirst 75 = .ok (.iinc 4 1, 3) := by decide +kernel
theorem dX10_tryFirst_78 : decode cX10_tryFirst 78 = .ok (.goto (-34), 3) := by decide +kernel
theorem dX10_tryFirst_81 : decode cX10_tryFirst 81 = .ok (.iload_n 3, 1) := by decide +kernel
theorem dX10_tryFirst_82 : decode cX10_tryFirst 82 = .ok (.aload_n 0, 1) := by decide +kernel
theorem dX10_tryFirst_83 : decode cX10_tryFirst 83 = .ok (.getfield 24, 3) := by decide +kernel
theorem dX10_tryFirst_86 : decode cX10_tryFirst 86 = .ok (.iload_n 1, 1) := by decide +kernel
theorem dX10_tryFirst_87 : decode cX10_tryFirst 87 = .ok (.invokestatic 61, 3) := by decide +kernel
theorem dX10_tryFirst_90 : decode cX10_tryFirst 90 = .ok (.if_icmp .lt 12, 3) := by decide +kernel
theorem dX10_tryFirst_93 : decode cX10_tryFirst 93 = .ok (.aload_n 0, 1) := by decide +kernel
theorem dX10_tryFirst_94 : decode cX10_tryFirst 94 = .ok (.iload_n 1, 1) := by decide +kernel
theorem dX10_tryFirst_95 : decode cX10_tryFirst 95 = .ok (.iload_n 3, 1) := by decide +kernel
theorem dX10_tryFirst_96 : decode cX10_tryFirst 96 = .ok (.invokevirtual 85, 3) := by decide +kernel
theorem dX10_tryFirst_99 : decode cX10_tryFirst 99 = .ok (.ifCond .eq 50, 3) := by decide +kernel
theorem dX10_tryFirst_102 : decode cX10_tryFirst 102 = .ok (.iconst 0, 1) := by decide +kernel
theorem dX10_tryFirst_103 : decode cX10_tryFirst 103 = .ok (.istore 4, 2) := by decide +kernel
theorem dX10_tryFirst_105 : decode cX10_tryFirst 105 = .ok (.iload 4, 2) := by decide +kernel
theorem dX10_tryFirst_107 : decode cX10_tryFirst 107 = .ok (.iload_n 3, 1) := by decide +kernel
theorem dX10_tryFirst_108 : decode cX10_tryFirst 108 = .ok (.if_icmp .ge 32, 3) := by decide +kernel
theorem dX10_tryFirst_111 : decode cX10_tryFirst 111 = .ok (.aload_n 0, 1) := by decide +kernel
theorem dX10_tryFirst_112 : decode cX10_tryFirst 112 = .ok (.getfield 27, 3) := by decide +kernel
theorem dX10_tryFirst_115 : decode cX10_tryFirst 115 = .ok (.iload_n 1, 1) := by decide +kernel
theorem dX10_tryFirst_116 : decode cX10_tryFirst 116 = .ok (.bipush 15, 2) := by decide +kernel
theorem dX10_tryFirst_118 : decode cX10_tryFirst 118 = .ok (.imul, 1) := by decide +kernel
theorem dX10_tryFirst_119 : decode cX10_tryFirst 119 = .ok (.iload 4, 2) := by decide +kernel
theorem dX10_tryFirst_121 : decode cX10_tryFirst 121 = .ok (.iadd, 1) := by decide +kernel
theorem dX10_tryFirst_122 : decode cX10_tryFirst 122 = .ok (.aload_n 0, 1) := by decide +kernel
theorem dX10_tryFirst_123 : decode cX10_tryFirst 123 = .ok (.getfield 30, 3) := by decide +kernel
theorem dX10_tryFirst_126 : decode cX10_tryFirst 126 = .ok (.iload 4, 2) := by decide +kernel
theorem dX10_tryFirst_128 : decode cX10_tryFirst 128 = .ok (.invokestatic 61, 3) := by decide +kernel
theorem dX10_tryFirst_131 : decode cX10_tryFirst 131 = .ok (.invokestatic 43, 3) := by decide +kernel
theorem dX10_tryFirst_134 : decode cX10_tryFirst 134 = .ok (.iinc 4 1, 3) := by decide +kernel
theorem dX10_tryFirst_137 : decode cX10_tryFirst 137 = .ok (.goto (-32), 3) := by decide +kernel
theorem dX10_tryFirst_140 : decode cX10_tryFirst 140 = .ok (.aload_n 0, 1) := by decide +kernel
theorem dX10_tryFirst_141 : decode cX10_tryFirst 141 = .ok (.getfield 24, 3) := by decide +kernel
theorem dX10_tryFirst_144 : decode cX10_tryFirst 144 = .ok (.iload_n 1, 1) := by decide +kernel
theorem dX10_tryFirst_145 : decode cX10_tryFirst 145 = .ok (.iload_n 3, 1) := by decide +kernel
theorem dX10_tryFirst_146 : decode cX10_tryFirst 146 = .ok (.invokestatic 43, 3) := by decide +kernel
theorem dX10_tryFirst_149 : decode cX10_tryFirst 149 = .ok (.return_, 1) := by decide +kernel
abbrev YX10_tryFirst : li_Y := (yX10_tryFirst, cX10_tryFirst, 5, none)
theorem dX10_shorten_0 : decode cX10_shorten 0 = .ok (.aload_n 0, 1) := by decide +kernel
theorem dX10_shorten_1 : decode cX10_shorten 1 = .ok (.getfield 24, 3) := by decide +kernel
theorem dX10_shorten_4 : decode cX10_shorten 4 = .ok (.iload_n 1, 1) := by decide +kernel
theorem dX10_shorten_5 : decode cX10_shorten 5 = .ok (.iconst 0, 1) := by decide +kernel
theorem dX10_shorten_6 : decode cX10_shorten 6 = .ok (.invokestatic 43, 3) := by decide +kernel
theorem dX10_shorten_9 : decode cX10_shorten 9 = .ok (.iload_n 1, 1) := by decide +kernel
theorem dX10_shorten_10 : decode cX10_shorten 10 = .ok (.iconst 1, 1) := by decide +kernel
theorem dX10_shorten_11 : decode cX10_shorten 11 = .ok (.isub, 1) := by decide +kernel
theorem dX10_shorten_12 : decode cX10_shorten 12 = .ok (.istore_n 2, 1) := by decide +kernel
theorem dX10_shorten_13 : decode cX10_shorten 13 = .ok (.iload_n 2, 1) := by decide +kernel
theorem dX10_shorten_14 : decode cX10_shorten 14 = .ok (.ifCond .lt 49, 3) := by decide +kernel
theorem dX10_shorten_17 : decode cX10_shorten 17 = .ok (.aload_n 0, 1) := by decide +kernel
theorem dX10_shorten_18 : decode cX10_shorten 18 = .ok (.getfield 24, 3) := by decide +kernel
theorem dX10_shorten_21 : decode cX10_shorten 21 = .ok (.iload_n 2, 1) := by decide +kernel
theorem dX10_shorten_22 : decode cX10_shorten 22 = .ok (.bipush 15, 2) := by decide +kernel
theorem dX10_shorten_24 : decode cX10_shorten 24 = .ok (.invokestatic 43, 3) := by decide +kernel
theorem dX10_shorten_27 : decode cX10_shorten 27 = .ok (.iload_n 2, 1) := by decide +kernel
theorem dX10_shorten_28 : decode cX10_shorten 28 = .ok (.iconst 1, 1) := by decide +kernel
theorem dX10_shorten_29 : decode cX10_shorten 29 = .ok (.iadd, 1) := by decide +kernel
theorem dX10_shorten_30 : decode cX10_shorten 30 = .ok (.istore_n 3, 1) := by decide +kernel
theorem dX10_shorten_31 : decode cX10_shorten 31 = .ok (.iload_n 3, 1) := by decide +kernel
theorem dX10_shorten_32 : decode cX10_shorten 32 = .ok (.iload_n 1, 1) := by decide +kernel
theorem dX10_shorten_33 : decode cX10_shorten 33 = .ok (.if_icmp .gt 24, 3) := by decide +kernel
theorem dX10_shorten_36 : decode cX10_shorten 36 = .ok (.aload_n 0, 1) := by decide +kernel
theorem dX10_shorten_37 : decode cX10_shorten 37 = .ok (.iload_n 2, 1) := by decide +kernel
theorem dX10_shorten_38 : decode cX10_shorten 38 = .ok (.iload_n 3, 1) := by decide +kernel
theorem dX10_shorten_39 : decode cX10_shorten 39 = .ok (.invokevirtual 68, 3) := by decide +kernel
theorem dX10_shorten_42 : decode cX10_shorten 42 = .ok (.ifCond .eq 9, 3) := by decide +kernel
theorem dX10_shorten_45 : decode cX10_shorten 45 = .ok (.aload_n 0, 1) := by decide +kernel
theorem dX10_shorten_46 : decode cX10_shorten 46 = .ok (.iload_n 2, 1) := by decide +kernel
theorem dX10_shorten_47 : decode cX10_shorten 47 = .ok (.iload_n 3, 1) := by decide +kernel
theorem dX10_shorten_48 : decode cX10_shorten 48 = .ok (.invokevirtual 75, 3) := by decide +kernel
theorem dX10_shorten_51 : decode cX10_shorten 51 = .ok (.iinc 3 1, 3) := by decide +kernel
theorem dX10_shorten_54 : decode cX10_shorten 54 = .ok (.goto (-23), 3) := by decide +kernel
theorem dX10_shorten_57 : decode cX10_shorten 57 = .ok (.iinc 2 (-1), 3) := by decide +kernel
theorem dX10_shorten_60 : decode cX10_shorten 60 = .ok (.goto (-47), 3) := by decide +kernel
theorem dX10_shorten_63 : decode cX10_shorten 63 = .ok (.aload_n 0, 1) := by decide +kernel
theorem dX10_shorten_64 : decode cX10_shorten 64 = .ok (.getfield 24, 3) := by decide +kernel
theorem dX10_shorten_67 : decode cX10_shorten 67 = .ok (.iconst 0, 1) := by decide +kernel
theorem dX10_shorten_68 : decode cX10_shorten 68 = .ok (.invokestatic 61, 3) := by decide +kernel
theorem dX10_shorten_71 : decode cX10_shorten 71 = .ok (.ireturn, 1) := by decide +kernel
abbrev YX10_shorten : li_Y := (yX10_shorten, cX10_shorten, 4, (some .int))
set_option maxRecDepth 100000 in
set_option maxHeartbeats 4000000 in
theorem k_X10_readLine {l : Launch} {Z : li_Z} (d : Nat) (hd : 3 ≤ d) (p1 : Int32) (M0 : li_M) : li_Met l Z YX10_readLine d [.ref (Z.2.2 165), .ref (Z.2.2 1), .int p1] M0 (li_SZ (fun i => i = 1 ∨ i = 167) M0) := by
  refine li_enter (by decide +kernel) (Nat.le_of_ble_eq_true rfl) ?_
  show li_T l Z YX10_readLine d 0 [(0, .ref (Z.2.2 165)), (1, .ref (Z.2.2 1)), (2, .int p1)] [] M0 _
  have hf : li_fr (fun i => i = 1 ∨ i = 167) M0 M0 := li_fr_refl
  refine li_aload_n 1 dX10_readLine_0 rfl ?_
  refine li_bipush 97 dX10_readLine_1 (by decide) ?_
  refine li_bipush 7 dX10_readLine_3 (by decide) ?_
  refine li_callV (n := 2) (As := [.int 97, .int 7]) dX10_readLine_5 (k_X7_takeOneOf (d - 1) (by omega) 97 7 M0) (by omega) (Nat.le_of_ble_eq_true rfl) w_678 w_679 w_680 w_105 w_681 (by decide +kernel) rfl (by decide) sh_1 rfl rfl (Nat.le_of_ble_eq_true rfl) (fun r M2 h3 => ?_)
  obtain ⟨⟨x1, rfl⟩, h3⟩ := h3
  have hf := li_fr_trans hf h3 (fun i (h : i = 1) => (show i = 1 ∨ i = 167 by omega))
  refine li_istore_n [(3, .int x1), (0, .ref (Z.2.2 165)), (1, .ref (Z.2.2 1)), (2, .int p1)] dX10_readLine_8 (by decide) rfl ?_
  refine li_iload_n 0 dX10_readLine_9 rfl ?_
  refine li_if_ge 15 dX10_readLine_10 (by decide) (fun c4 => ?_) (fun c4 => ?_)
  · refine li_aload_n 2 dX10_readLine_15 rfl ?_
    refine li_bipush 97 dX10_readLine_16 (by decide) ?_
    refine li_bipush 7 dX10_readLine_18 (by decide) ?_
    refine li_callV (n := 2) (As := [.int 97, .int 7]) dX10_readLine_20 (k_X7_takeOneOf (d - 1) (by omega) 97 7 M2) (by omega) (Nat.le_of_ble_eq_true rfl) w_678 w_679 w_680 w_105 w_681 (by decide +kernel) rfl (by decide) sh_1 rfl rfl (Nat.le_of_ble_eq_true rfl) (fun r M6 h7 => ?_)
    obtain ⟨⟨x5, rfl⟩, h7⟩ := h7
    have hf := li_fr_trans hf h7 (fun i (h : i = 1) => (show i = 1 ∨ i = 167 by omega))
    refine li_istore [(4, .int x5), (3, .int x1), (0, .ref (Z.2.2 165)), (1, .ref (Z.2.2 1)), (2, .int p1)] dX10_readLine_23 (by decide) rfl ?_
    refine li_iload 0 dX10_readLine_25 rfl ?_
    refine li_if_lt 39 dX10_readLine_27 (by decide) (fun c8 => ?_) (fun c8 => ?_)
    · refine li_iconst 0 dX10_readLine_39 (by decide) ?_
      exact li_iret dX10_readLine_40 rfl (li_nz (Or.inl rfl)) ⟨⟨_, rfl, Or.inl rfl⟩, hf⟩
    · refine li_aload_n 3 dX10_readLine_30 rfl ?_
      refine li_bipush 62 dX10_readLine_31 (by decide) ?_
      refine li_callV (n := 1) (As := [.int 62]) dX10_readLine_33 (k_X7_skip (d - 1) (by omega) 62 M6) (by omega) (Nat.le_of_ble_eq_true rfl) w_740 w_585 w_586 w_105 w_587 (by decide +kernel) rfl (by decide) sh_1 rfl rfl (Nat.le_of_ble_eq_true rfl) (fun r M10 h11 => ?_)
      obtain ⟨⟨x9, rfl, bx9⟩, h11⟩ := h11
      have hf := li_fr_trans hf h11 (fun i (h : i = 1) => (show i = 1 ∨ i = 167 by omega))
      refine li_if_ne 41 dX10_readLine_36 (by decide) (fun c12 => ?_) (fun c12 => ?_)
      · refine li_aload_n 3 dX10_readLine_41 rfl ?_
        refine li_bipush 97 dX10_readLine_42 (by decide) ?_
        refine li_bipush 7 dX10_readLine_44 (by decide) ?_
        refine li_callV (n := 2) (As := [.int 97, .int 7]) dX10_readLine_46 (k_X7_takeOneOf (d - 1) (by omega) 97 7 M10) (by omega) (Nat.le_of_ble_eq_true rfl) w_678 w_679 w_680 w_105 w_681 (by decide +kernel) rfl (by decide) sh_1 rfl rfl (Nat.le_of_ble_eq_true rfl) (fun r M14 h15 => ?_)
        obtain ⟨⟨x13, rfl⟩, h15⟩ := h15
        have hf := li_fr_trans hf h15 (fun i (h : i = 1) => (show i = 1 ∨ i = 167 by omega))
        refine li_istore [(5, .int x13), (4, .int x5), (3, .int x1), (0, .ref (Z.2.2 165)), (1, .ref (Z.2.2 1)), (2, .int p1)] dX10_readLine_49 (by decide) rfl ?_
        refine li_aload_n 3 dX10_readLine_51 rfl ?_
        refine li_getr (k := 1) (N := 8) (T := TX10) (C0 := RX10) dX10_readLine_52 (by decide) sh_165 rfl rfl (by decide) (by decide) li_in10 w_353 ?_
        refine li_iload_n 5 dX10_readLine_55 rfl ?_
        refine li_iconst 3 dX10_readLine_56 (by decide) ?_
        refine li_imul dX10_readLine_57 ?_
        refine li_top (fun x16 ex16 => ?_)
        refine li_iload_n 2 dX10_readLine_58 rfl ?_
        refine li_callN (n := 3) (As := [.ref (Z.2.2 167), .int x16, .int x1]) dX10_readLine_59 (k_X11_put (d - 1) (by omega) (by decide) sh_167 (by decide) x16 x1 M14) (by omega) (Nat.le_of_ble_eq_true rfl) nw_12 w_542 w_104 w_543 (by decide +kernel) rfl rfl (Nat.le_of_ble_eq_true rfl) (fun r M18 h19 => ?_)
        obtain ⟨rfl, h19⟩ := h19
        have hf := li_fr_trans hf h19 (fun i (h : i = 167) => (show i = 1 ∨ i = 167 by omega))
        refine li_aload_n 3 dX10_readLine_62 rfl ?_
        refine li_getr (k := 1) (N := 8) (T := TX10) (C0 := RX10) dX10_readLine_63 (by decide) sh_165 rfl rfl (by decide) (by decide) li_in10 w_353 ?_
        refine li_iload_n 5 dX10_readLine_66 rfl ?_
        refine li_iconst 3 dX10_readLine_67 (by decide) ?_
        refine li_imul dX10_readLine_68 ?_
        refine li_top (fun x20 ex20 => ?_)
        refine li_iconst 1 dX10_readLine_69 (by decide) ?_
        refine li_iadd dX10_readLine_70 ?_
        refine li_top (fun x21 ex21 => ?_)
        refine li_iload 1 dX10_readLine_71 rfl ?_
        refine li_callN (n := 3) (As := [.ref (Z.2.2 167), .int x21, .int x5]) dX10_readLine_73 (k_X11_put (d - 1) (by omega) (by decide) sh_167 (by decide) x21 x5 M18) (by omega) (Nat.le_of_ble_eq_true rfl) nw_12 w_542 w_104 w_543 (by decide +kernel) rfl rfl (Nat.le_of_ble_eq_true rfl) (fun r M23 h24 => ?_)
        obtain ⟨rfl, h24⟩ := h24
        have hf := li_fr_trans hf h24 (fun i (h : i = 167) => (show i = 1 ∨ i = 167 by omega))
        refine li_aload_n 3 dX10_readLine_76 rfl ?_
        refine li_getr (k := 1) (N := 8) (T := TX10) (C0 := RX10) dX10_readLine_77 (by decide) sh_165 rfl rfl (by decide) (by decide) li_in10 w_353 ?_
        refine li_iload_n 5 dX10_readLine_80 rfl ?_
        refine li_iconst 3 dX10_readLine_81 (by decide) ?_
        refine li_imul dX10_readLine_82 ?_
        refine li_top (fun x25 ex25 => ?_)
        refine li_iconst 2 dX10_readLine_83 (by decide) ?_
        refine li_iadd dX10_readLine_84 ?_
        refine li_top (fun x26 ex26 => ?_)
        refine li_iload 0 dX10_readLine_85 rfl ?_
        refine li_callN (n := 3) (As := [.ref (Z.2.2 167), .int x26, .int x13]) dX10_readLine_87 (k_X11_put (d - 1) (by omega) (by decide) sh_167 (by decide) x26 x13 M23) (by omega) (Nat.le_of_ble_eq_true rfl) nw_12 w_542 w_104 w_543 (by decide +kernel) rfl rfl (Nat.le_of_ble_eq_true rfl) (fun r M28 h29 => ?_)
        obtain ⟨rfl, h29⟩ := h29
        have hf := li_fr_trans hf h29 (fun i (h : i = 167) => (show i = 1 ∨ i = 167 by omega))
        refine li_iload 0 dX10_readLine_90 rfl ?_
        refine li_if_lt 99 dX10_readLine_92 (by decide) (fun c30 => ?_) (fun c30 => ?_)
        · refine li_iconst 0 dX10_readLine_99 (by decide) ?_
          exact li_iret dX10_readLine_100 rfl (li_nz (Or.inl rfl)) ⟨⟨_, rfl, Or.inl rfl⟩, hf⟩
        · refine li_iconst 1 dX10_readLine_95 (by decide) ?_
          refine li_goto 100 dX10_readLine_96 (by decide) ?_
          exact li_iret dX10_readLine_100 rfl (li_nz (Or.inr rfl)) ⟨⟨_, rfl, Or.inr rfl⟩, hf⟩
      · refine li_iconst 0 dX10_readLine_39 (by decide) ?_
        exact li_iret dX10_readLine_40 rfl (li_nz (Or.inl rfl)) ⟨⟨_, rfl, Or.inl rfl⟩, hf⟩
  · refine li_iconst 0 dX10_readLine_13 (by decide) ?_
    exact li_iret dX10_readLine_14 rfl (li_nz (Or.inl rfl)) ⟨⟨_, rfl, Or.inl rfl⟩, hf⟩
set_option maxRecDepth 100000 in
set_option maxHeartbeats 4000000 in
theorem k_X10_adopt {l : Launch} {Z : li_Z} (d : Nat) (hd : 1 ≤ d) (p1 : Int32) (M0 : li_M) : li_Met l Z YX10_adopt d [.ref (Z.2.2 165), .int p1] M0 (li_SV (fun i => i = 165 ∨ i = 166) M0) := by
  refine li_enter (by decide +kernel) (Nat.le_of_ble_eq_true rfl) ?_
  show li_T l Z YX10_adopt d 0 [(0, .ref (Z.2.2 165)), (1, .int p1)] [] M0 _
  have hf : li_fr (fun i => i = 165 ∨ i = 166) M0 M0 := li_fr_refl
  refine li_aload_n 0 dX10_adopt_0 rfl ?_
  refine li_getr (k := 1) (N := 8) (T := TX10) (C0 := RX10) dX10_adopt_1 (by decide) sh_165 rfl rfl (by decide) (by decide) li_in10 w_353 ?_
  refine li_iconst 0 dX10_adopt_4 (by decide) ?_
  refine li_aload_n 0 dX10_adopt_5 rfl ?_
  refine li_getr (k := 0) (N := 8) (T := TX10) (C0 := RX10) dX10_adopt_6 (by decide) sh_165 rfl rfl (by decide) (by decide) li_in10 w_352 ?_
  refine li_iconst 0 dX10_adopt_9 (by decide) ?_
  refine li_bipush 30 dX10_adopt_10 (by decide) ?_
  refine li_copyI dX10_adopt_12 (by omega) w_1164 w_773 w_772 w_122 (by decide) sh_167 (by decide) sh_166 (by decide) (by decide) (by decide) (Nat.le_of_ble_eq_true rfl) ?_
  refine li_nm (fun M1 eM1 => ?_)
  have hf := li_fr_uc hf (show 166 = 165 ∨ 166 = 166 by omega) eM1
  refine li_aload_n 0 dX10_adopt_15 rfl ?_
  refine li_iload_n 1 dX10_adopt_16 rfl ?_
  refine li_puti (k := 7) (N := 8) (T := TX10) (C0 := RX10) dX10_adopt_17 (by decide) sh_165 rfl rfl (by decide) li_in10 tyX10_ok nmX10 rfl rfl rfl rfl w_360 ?_
  refine li_nm (fun M2 eM2 => ?_)
  have hf := li_fr_ui hf (show 165 = 165 ∨ 165 = 166 by omega) eM2
  exact li_vret dX10_adopt_20 rfl ⟨rfl, hf⟩
set_option maxRecDepth 100000 in
set_option maxHeartbeats 4000000 in
theorem k_X10_readWording {l : Launch} {Z : li_Z} (d : Nat) (hd : 3 ≤ d) (M0 : li_M) : li_Met l Z YX10_readWording d [.ref (Z.2.2 165), .ref (Z.2.2 1)] M0 (li_SI (fun i => i = 1 ∨ i = 168) M0) := by
  refine li_enter (by decide +kernel) (Nat.le_of_ble_eq_true rfl) ?_
  show li_T l Z YX10_readWording d 0 [(0, .ref (Z.2.2 165)), (1, .ref (Z.2.2 1))] [] M0 _
  have hf : li_fr (fun i => i = 1 ∨ i = 168) M0 M0 := li_fr_refl
  refine li_iconst 0 dX10_readWording_0 (by decide) ?_
  refine li_istore_n [(2, .int 0), (0, .ref (Z.2.2 165)), (1, .ref (Z.2.2 1))] dX10_readWording_1 (by decide) rfl ?_
  refine li_iconst 0 dX10_readWording_2 (by decide) ?_
  refine li_istore_n [(3, .int 0), (2, .int 0), (0, .ref (Z.2.2 165)), (1, .ref (Z.2.2 1))] dX10_readWording_3 (by decide) rfl ?_
  have L4 : ∀ (n : Nat) (x1 : Int32) (x2 : Int32) (M3 : li_M), (2147483647 - (x1 : Int32).toInt).toNat < n → li_fr (fun i => i = 1 ∨ i = 168) M0 M3 → li_T l Z YX10_readWording d 4 [(3, .int x1), (2, .int x2), (0, .ref (Z.2.2 165)), (1, .ref (Z.2.2 1))] [] M3 (li_SI (fun i => i = 1 ∨ i = 168) M0) := by
    intro n
    induction n with
    | zero => intro x1 x2 M3 hn; exact absurd hn (Nat.not_lt_zero _)
    | succ n ih4 =>
      intro x1 x2 M3 hn hf
      refine li_iload_n 0 dX10_readWording_4 rfl ?_
      refine li_bipush 80 dX10_readWording_5 (by decide) ?_
      refine li_icmp_ge 53 dX10_readWording_7 (by decide) (fun c4 => ?_) (fun c4 => ?_)
      · refine li_iload_n 1 dX10_readWording_53 rfl ?_
        refine li_if_le 61 dX10_readWording_54 (by decide) (fun c5 => ?_) (fun c5 => ?_)
        · refine li_iconst (-1) dX10_readWording_61 (by decide) ?_
          exact li_iret dX10_readWording_62 rfl rfl ⟨⟨_, rfl⟩, hf⟩
        · refine li_iload_n 1 dX10_readWording_57 rfl ?_
          refine li_goto 62 dX10_readWording_58 (by decide) ?_
          exact li_iret dX10_readWording_62 rfl rfl ⟨⟨_, rfl⟩, hf⟩
      · refine li_aload_n 3 dX10_readWording_10 rfl ?_
        refine li_callV (n := 0) (As := []) dX10_readWording_11 (k_X7_atEnd (d - 1) (by omega)  M3) (by omega) (Nat.le_of_ble_eq_true rfl) w_677 w_565 w_566 w_105 w_567 (by decide +kernel) rfl (by decide) sh_1 rfl rfl (Nat.le_of_ble_eq_true rfl) (fun r M7 h8 => ?_)
        obtain ⟨⟨x6, rfl, bx6⟩, h8⟩ := h8
        have hf := li_fr_trans hf h8 (fun i h => False.elim h)
        refine li_if_ne 53 dX10_readWording_14 (by decide) (fun c9 => ?_) (fun c9 => ?_)
        · refine li_iload_n 1 dX10_readWording_53 rfl ?_
          refine li_if_le 61 dX10_readWording_54 (by decide) (fun c10 => ?_) (fun c10 => ?_)
          · refine li_iconst (-1) dX10_readWording_61 (by decide) ?_
            exact li_iret dX10_readWording_62 rfl rfl ⟨⟨_, rfl⟩, hf⟩
          · refine li_iload_n 1 dX10_readWording_57 rfl ?_
            refine li_goto 62 dX10_readWording_58 (by decide) ?_
            exact li_iret dX10_readWording_62 rfl rfl ⟨⟨_, rfl⟩, hf⟩
        · refine li_aload_n 3 dX10_readWording_17 rfl ?_
          refine li_bipush 97 dX10_readWording_18 (by decide) ?_
          refine li_bipush 7 dX10_readWording_20 (by decide) ?_
          refine li_callV (n := 2) (As := [.int 97, .int 7]) dX10_readWording_22 (k_X7_takeOneOf (d - 1) (by omega) 97 7 M7) (by omega) (Nat.le_of_ble_eq_true rfl) w_678 w_679 w_680 w_105 w_681 (by decide +kernel) rfl (by decide) sh_1 rfl rfl (Nat.le_of_ble_eq_true rfl) (fun r M12 h13 => ?_)
          obtain ⟨⟨x11, rfl⟩, h13⟩ := h13
          have hf := li_fr_trans hf h13 (fun i (h : i = 1) => (show i = 1 ∨ i = 168 by omega))
          refine li_istore [(4, .int x11), (3, .int x1), (2, .int x2), (0, .ref (Z.2.2 165)), (1, .ref (Z.2.2 1))] dX10_readWording_25 (by decide) rfl ?_
          refine li_iload 0 dX10_readWording_27 rfl ?_
          refine li_if_ge 34 dX10_readWording_29 (by decide) (fun c14 => ?_) (fun c14 => ?_)
          · refine li_aload_n 3 dX10_readWording_34 rfl ?_
            refine li_getr (k := 2) (N := 8) (T := TX10) (C0 := RX10) dX10_readWording_35 (by decide) sh_165 rfl rfl (by decide) (by decide) li_in10 w_354 ?_
            refine li_iload_n 2 dX10_readWording_38 rfl ?_
            refine li_iload 0 dX10_readWording_39 rfl ?_
            refine li_callN (n := 3) (As := [.ref (Z.2.2 168), .int x2, .int x11]) dX10_readWording_41 (k_X11_put (d - 1) (by omega) (by decide) sh_168 (by decide) x2 x11 M12) (by omega) (Nat.le_of_ble_eq_true rfl) nw_12 w_542 w_104 w_543 (by decide +kernel) rfl rfl (Nat.le_of_ble_eq_true rfl) (fun r M16 h17 => ?_)
            obtain ⟨rfl, h17⟩ := h17
            have hf := li_fr_trans hf h17 (fun i (h : i = 168) => (show i = 1 ∨ i = 168 by omega))
            obtain ⟨x18, ex18⟩ : ∃ y : Int32, y = x2 + 1 := ⟨_, rfl⟩
            refine li_iinc 2 [(2, .int x18), (4, .int x11), (3, .int x1), (0, .ref (Z.2.2 165)), (1, .ref (Z.2.2 1))] x18 dX10_readWording_44 rfl (by rw [ex18]; rfl) (by decide) rfl ?_
            obtain ⟨x19, ex19⟩ : ∃ y : Int32, y = x1 + 1 := ⟨_, rfl⟩
            refine li_iinc 2 [(3, .int x19), (2, .int x18), (4, .int x11), (0, .ref (Z.2.2 165)), (1, .ref (Z.2.2 1))] x19 dX10_readWording_47 rfl (by rw [ex19]; rfl) (by decide) rfl ?_
            refine li_goto 4 dX10_readWording_50 (by decide) ?_
            refine li_pick [0, 1, 3, 4] [(3, .int x19), (2, .int x18), (0, .ref (Z.2.2 165)), (1, .ref (Z.2.2 1))] rfl ?_
            exact ih4 x19 x18 M16 (by have h9 := li_up (li_gt c4); rw [← ex19] at h9; omega) hf
          · refine li_iconst (-1) dX10_readWording_32 (by decide) ?_
            exact li_iret dX10_readWording_33 rfl rfl ⟨⟨_, rfl⟩, hf⟩
  exact L4 _ 0 0 M0 (Nat.lt_succ_self _) hf
set_option maxRecDepth 100000 in
set_option maxHeartbeats 4000000 in
theorem k_X10_mask {l : Launch} {Z : li_Z} (d : Nat) (hd : 2 ≤ d) (p1 : Int32) (p2 : Int32) (M0 : li_M) : li_Met l Z YX10_mask d [.ref (Z.2.2 165), .int p1, .int p2] M0 (li_SI (fun i => False) M0) := by
  refine li_enter (by decide +kernel) (Nat.le_of_ble_eq_true rfl) ?_
  show li_T l Z YX10_mask d 0 [(0, .ref (Z.2.2 165)), (1, .int p1), (2, .int p2)] [] M0 _
  have hf : li_fr (fun i => False) M0 M0 := li_fr_refl
  refine li_aload_n 0 dX10_mask_0 rfl ?_
  refine li_getr (k := 3) (N := 8) (T := TX10) (C0 := RX10) dX10_mask_1 (by decide) sh_165 rfl rfl (by decide) (by decide) li_in10 w_355 ?_
  refine li_iload_n 1 dX10_mask_4 rfl ?_
  refine li_bipush 15 dX10_mask_5 (by decide) ?_
  refine li_imul dX10_mask_7 ?_
  refine li_top (fun x1 ex1 => ?_)
  refine li_iload_n 2 dX10_mask_8 rfl ?_
  refine li_iadd dX10_mask_9 ?_
  refine li_top (fun x2 ex2 => ?_)
  refine li_callN (n := 2) (As := [.ref (Z.2.2 169), .int x2]) dX10_mask_10 (k_X11_at (d - 1) (by omega) (by decide) sh_169 (by decide) x2 M0) (by omega) (Nat.le_of_ble_eq_true rfl) nw_34 w_589 w_104 w_590 (by decide +kernel) rfl rfl (Nat.le_of_ble_eq_true rfl) (fun r M4 h5 => ?_)
  obtain ⟨⟨x3, rfl⟩, h5⟩ := h5
  have hf := li_fr_trans hf h5 (fun i h => False.elim h)
  exact li_iret dX10_mask_13 rfl rfl ⟨⟨_, rfl⟩, hf⟩
set_option maxRecDepth 100000 in
set_option maxHeartbeats 4000000 in
theorem k_X10_joined {l : Launch} {Z : li_Z} (d : Nat) (hd : 3 ≤ d) (p1 : Int32) (p2 : Int32) (M0 : li_M) : li_Met l Z YX10_joined d [.ref (Z.2.2 165), .int p1, .int p2] M0 (li_SI (fun i => False) M0) := by
  refine li_enter (by decide +kernel) (Nat.le_of_ble_eq_true rfl) ?_
  show li_T l Z YX10_joined d 0 [(0, .ref (Z.2.2 165)), (1, .int p1), (2, .int p2)] [] M0 _
  have hf : li_fr (fun i => False) M0 M0 := li_fr_refl
  refine li_iconst 0 dX10_joined_0 (by decide) ?_
  refine li_istore_n [(3, .int 0), (0, .ref (Z.2.2 165)), (1, .int p1), (2, .int p2)] dX10_joined_1 (by decide) rfl ?_
  refine li_iload_n 2 dX10_joined_2 rfl ?_
  refine li_iconst 1 dX10_joined_3 (by decide) ?_
  refine li_iadd dX10_joined_4 ?_
  refine li_top (fun x1 ex1 => ?_)
  refine li_istore [(4, .int x1), (3, .int 0), (0, .ref (Z.2.2 165)), (1, .int p1), (2, .int p2)] dX10_joined_5 (by decide) rfl ?_
  have L7 : ∀ (n : Nat) (x2 : Int32) (x3 : Int32) (M4 : li_M), (2147483647 - (x2 : Int32).toInt).toNat < n → li_fr (fun i => False) M0 M4 → li_T l Z YX10_joined d 7 [(4, .int x2), (3, .int x3), (0, .ref (Z.2.2 165)), (1, .int p1), (2, .int p2)] [] M4 (li_SI (fun i => False) M0) := by
    intro n
    induction n with
    | zero => intro x2 x3 M4 hn; exact absurd hn (Nat.not_lt_zero _)
    | succ n ih7 =>
      intro x2 x3 M4 hn hf
      refine li_iload 0 dX10_joined_7 rfl ?_
      refine li_iload_n 4 dX10_joined_9 rfl ?_
      refine li_icmp_ge 113 dX10_joined_10 (by decide) (fun c5 => ?_) (fun c5 => ?_)
      · refine li_iload_n 1 dX10_joined_113 rfl ?_
        exact li_iret dX10_joined_114 rfl rfl ⟨⟨_, rfl⟩, hf⟩
      · refine li_aload_n 2 dX10_joined_13 rfl ?_
        refine li_iload_n 3 dX10_joined_14 rfl ?_
        refine li_iload 0 dX10_joined_15 rfl ?_
        refine li_callV (n := 2) (As := [.int p1, .int x2]) dX10_joined_17 (k_X10_mask (d - 1) (by omega) p1 x2 M4) (by omega) (Nat.le_of_ble_eq_true rfl) w_1178 w_1179 w_1180 w_112 w_1181 (by decide +kernel) rfl (by decide) sh_165 rfl rfl (Nat.le_of_ble_eq_true rfl) (fun r M7 h8 => ?_)
        obtain ⟨⟨x6, rfl⟩, h8⟩ := h8
        have hf := li_fr_trans hf h8 (fun i h => False.elim h)
        refine li_istore [(5, .int x6), (4, .int x2), (3, .int x3), (0, .ref (Z.2.2 165)), (1, .int p1), (2, .int p2)] dX10_joined_20 (by decide) rfl ?_
        refine li_aload_n 3 dX10_joined_22 rfl ?_
        refine li_iload 1 dX10_joined_23 rfl ?_
        refine li_iload_n 5 dX10_joined_25 rfl ?_
        refine li_callV (n := 2) (As := [.int x2, .int p2]) dX10_joined_26 (k_X10_mask (d - 1) (by omega) x2 p2 M7) (by omega) (Nat.le_of_ble_eq_true rfl) w_1178 w_1179 w_1180 w_112 w_1181 (by decide +kernel) rfl (by decide) sh_165 rfl rfl (Nat.le_of_ble_eq_true rfl) (fun r M10 h11 => ?_)
        obtain ⟨⟨x9, rfl⟩, h11⟩ := h11
        have hf := li_fr_trans hf h11 (fun i h => False.elim h)
        refine li_istore [(6, .int x9), (5, .int x6), (4, .int x2), (3, .int x3), (0, .ref (Z.2.2 165)), (1, .int p1), (2, .int p2)] dX10_joined_29 (by decide) rfl ?_
        refine li_iconst 0 dX10_joined_31 (by decide) ?_
        refine li_istore [(7, .int 0), (6, .int x9), (5, .int x6), (4, .int x2), (3, .int x3), (0, .ref (Z.2.2 165)), (1, .int p1), (2, .int p2)] dX10_joined_32 (by decide) rfl ?_
        have L34 : ∀ (n : Nat) (x12 : Int32) (x13 : Int32) (M14 : li_M), (2147483647 - (x12 : Int32).toInt).toNat < n → li_fr (fun i => False) M0 M14 → li_T l Z YX10_joined d 34 [(7, .int x12), (6, .int x9), (5, .int x6), (4, .int x2), (3, .int x13), (0, .ref (Z.2.2 165)), (1, .int p1), (2, .int p2)] [] M14 (li_SI (fun i => False) M0) := by
          intro n
          induction n with
          | zero => intro x12 x13 M14 hn; exact absurd hn (Nat.not_lt_zero _)
          | succ n ih34 =>
            intro x12 x13 M14 hn hf
            refine li_iload 0 dX10_joined_34 rfl ?_
            refine li_aload_n 5 dX10_joined_36 rfl ?_
            refine li_geti (k := 7) (N := 8) (T := TX10) (C0 := RX10) dX10_joined_37 (by decide) sh_165 rfl rfl (by decide) li_in10 w_360 ?_
            refine li_top (fun x15 ex15 => ?_)
            refine li_icmp_ge 107 dX10_joined_40 (by decide) (fun c16 => ?_) (fun c16 => ?_)
            · obtain ⟨x17, ex17⟩ : ∃ y : Int32, y = x2 + 1 := ⟨_, rfl⟩
              refine li_iinc 3 [(4, .int x17), (7, .int x12), (6, .int x9), (5, .int x6), (3, .int x13), (0, .ref (Z.2.2 165)), (1, .int p1), (2, .int p2)] x17 dX10_joined_107 rfl (by rw [ex17]; rfl) (by decide) rfl ?_
              refine li_goto 7 dX10_joined_110 (by decide) ?_
              refine li_pick [0, 4, 5, 6, 7] [(4, .int x17), (3, .int x13), (0, .ref (Z.2.2 165)), (1, .int p1), (2, .int p2)] rfl ?_
              exact ih7 x17 x13 M14 (by have h9 := li_up (li_gt c5); rw [← ex17] at h9; omega) hf
            · refine li_iload 0 dX10_joined_43 rfl ?_
              refine li_iconst 3 dX10_joined_45 (by decide) ?_
              refine li_imul dX10_joined_46 ?_
              refine li_top (fun x18 ex18 => ?_)
              refine li_istore [(8, .int x18), (7, .int x12), (6, .int x9), (5, .int x6), (4, .int x2), (3, .int x13), (0, .ref (Z.2.2 165)), (1, .int p1), (2, .int p2)] dX10_joined_47 (by decide) rfl ?_
              refine li_iload 3 dX10_joined_49 rfl ?_
              refine li_aload_n 6 dX10_joined_51 rfl ?_
              refine li_getr (k := 0) (N := 8) (T := TX10) (C0 := RX10) dX10_joined_52 (by decide) sh_165 rfl rfl (by decide) (by decide) li_in10 w_352 ?_
              refine li_iload 0 dX10_joined_55 rfl ?_
              refine li_callN (n := 2) (As := [.ref (Z.2.2 166), .int x18]) dX10_joined_57 (k_X11_at (d - 1) (by omega) (by decide) sh_166 (by decide) x18 M14) (by omega) (Nat.le_of_ble_eq_true rfl) nw_34 w_589 w_104 w_590 (by decide +kernel) rfl rfl (Nat.le_of_ble_eq_true rfl) (fun r M20 h21 => ?_)
              obtain ⟨⟨x19, rfl⟩, h21⟩ := h21
              have hf := li_fr_trans hf h21 (fun i h => False.elim h)
              refine li_callN (n := 2) (As := [.int x6, .int x19]) dX10_joined_60 (k_X11_holds (d - 1) (by omega) x6 x19 M20) (by omega) (Nat.le_of_ble_eq_true rfl) nw_35 w_877 w_104 w_878 (by decide +kernel) rfl rfl (Nat.le_of_ble_eq_true rfl) (fun r M23 h24 => ?_)
              obtain ⟨⟨x22, rfl, bx22⟩, h24⟩ := h24
              have hf := li_fr_trans hf h24 (fun i h => False.elim h)
              have J101 : ∀ (x26 : Int32) (M27 : li_M), li_fr (fun i => False) M0 M27 → li_T l Z YX10_joined d 101 [(8, .int x18), (7, .int x12), (6, .int x9), (5, .int x6), (4, .int x2), (3, .int x26), (0, .ref (Z.2.2 165)), (1, .int p1), (2, .int p2)] [] M27 (li_SI (fun i => False) M0) := by
                intro x26 M27 hf
                obtain ⟨x28, ex28⟩ : ∃ y : Int32, y = x12 + 1 := ⟨_, rfl⟩
                refine li_iinc 1 [(7, .int x28), (8, .int x18), (6, .int x9), (5, .int x6), (4, .int x2), (3, .int x26), (0, .ref (Z.2.2 165)), (1, .int p1), (2, .int p2)] x28 dX10_joined_101 rfl (by rw [ex28]; rfl) (by decide) rfl ?_
                refine li_goto 34 dX10_joined_104 (by decide) ?_
                refine li_pick [0, 2, 3, 4, 5, 6, 7, 8] [(7, .int x28), (6, .int x9), (5, .int x6), (4, .int x2), (3, .int x26), (0, .ref (Z.2.2 165)), (1, .int p1), (2, .int p2)] rfl ?_
                exact ih34 x28 x26 M27 (by have h9 := li_up (li_gt c16); rw [← ex28] at h9; omega) hf
              refine li_if_eq 101 dX10_joined_63 (by decide) (fun c25 => ?_) (fun c25 => ?_)
              · refine li_pick [0, 1, 2, 3, 4, 5, 6, 7, 8] [(8, .int x18), (7, .int x12), (6, .int x9), (5, .int x6), (4, .int x2), (3, .int x13), (0, .ref (Z.2.2 165)), (1, .int p1), (2, .int p2)] rfl ?_
                exact J101 x13 M23 hf
              · refine li_iload 2 dX10_joined_66 rfl ?_
                refine li_aload_n 6 dX10_joined_68 rfl ?_
                refine li_getr (k := 0) (N := 8) (T := TX10) (C0 := RX10) dX10_joined_69 (by decide) sh_165 rfl rfl (by decide) (by decide) li_in10 w_352 ?_
                refine li_iload 0 dX10_joined_72 rfl ?_
                refine li_iconst 1 dX10_joined_74 (by decide) ?_
                refine li_iadd dX10_joined_75 ?_
                refine li_top (fun x29 ex29 => ?_)
                refine li_callN (n := 2) (As := [.ref (Z.2.2 166), .int x29]) dX10_joined_76 (k_X11_at (d - 1) (by omega) (by decide) sh_166 (by decide) x29 M23) (by omega) (Nat.le_of_ble_eq_true rfl) nw_34 w_589 w_104 w_590 (by decide +kernel) rfl rfl (Nat.le_of_ble_eq_true rfl) (fun r M31 h32 => ?_)
                obtain ⟨⟨x30, rfl⟩, h32⟩ := h32
                have hf := li_fr_trans hf h32 (fun i h => False.elim h)
                refine li_callN (n := 2) (As := [.int x9, .int x30]) dX10_joined_79 (k_X11_holds (d - 1) (by omega) x9 x30 M31) (by omega) (Nat.le_of_ble_eq_true rfl) nw_35 w_877 w_104 w_878 (by decide +kernel) rfl rfl (Nat.le_of_ble_eq_true rfl) (fun r M34 h35 => ?_)
                obtain ⟨⟨x33, rfl, bx33⟩, h35⟩ := h35
                have hf := li_fr_trans hf h35 (fun i h => False.elim h)
                refine li_if_eq 101 dX10_joined_82 (by decide) (fun c36 => ?_) (fun c36 => ?_)
                · refine li_pick [0, 1, 2, 3, 4, 5, 6, 7, 8] [(8, .int x18), (7, .int x12), (6, .int x9), (5, .int x6), (4, .int x2), (3, .int x13), (0, .ref (Z.2.2 165)), (1, .int p1), (2, .int p2)] rfl ?_
                  exact J101 x13 M34 hf
                · refine li_iload_n 5 dX10_joined_85 rfl ?_
                  refine li_iconst 1 dX10_joined_86 (by decide) ?_
                  refine li_aload_n 6 dX10_joined_87 rfl ?_
                  refine li_getr (k := 0) (N := 8) (T := TX10) (C0 := RX10) dX10_joined_88 (by decide) sh_165 rfl rfl (by decide) (by decide) li_in10 w_352 ?_
                  refine li_iload 0 dX10_joined_91 rfl ?_
                  refine li_iconst 2 dX10_joined_93 (by decide) ?_
                  refine li_iadd dX10_joined_94 ?_
                  refine li_top (fun x37 ex37 => ?_)
                  refine li_callN (n := 2) (As := [.ref (Z.2.2 166), .int x37]) dX10_joined_95 (k_X11_at (d - 1) (by omega) (by decide) sh_166 (by decide) x37 M34) (by omega) (Nat.le_of_ble_eq_true rfl) nw_34 w_589 w_104 w_590 (by decide +kernel) rfl rfl (Nat.le_of_ble_eq_true rfl) (fun r M39 h40 => ?_)
                  obtain ⟨⟨x38, rfl⟩, h40⟩ := h40
                  have hf := li_fr_trans hf h40 (fun i h => False.elim h)
                  refine li_ishl dX10_joined_98 ?_
                  refine li_top (fun x41 ex41 => ?_)
                  refine li_ior dX10_joined_99 ?_
                  refine li_top (fun x42 ex42 => ?_)
                  refine li_istore_n [(3, .int x42), (8, .int x18), (7, .int x12), (6, .int x9), (5, .int x6), (4, .int x2), (0, .ref (Z.2.2 165)), (1, .int p1), (2, .int p2)] dX10_joined_100 (by decide) rfl ?_
                  refine li_pick [1, 2, 3, 4, 5, 0, 6, 7, 8] [(8, .int x18), (7, .int x12), (6, .int x9), (5, .int x6), (4, .int x2), (3, .int x42), (0, .ref (Z.2.2 165)), (1, .int p1), (2, .int p2)] rfl ?_
                  exact J101 x42 M39 hf
        exact L34 _ 0 x3 M10 (Nat.lt_succ_self _) hf
  exact L7 _ x1 0 M0 (Nat.lt_succ_self _) hf
set_option maxRecDepth 100000 in
set_option maxHeartbeats 4000000 in
theorem k_X10_fillMasks {l : Launch} {Z : li_Z} (d : Nat) (hd : 4 ≤ d) (p1 : Int32) (h1 : p1.toInt ≤ 80) (M0 : li_M) : li_Met l Z YX10_fillMasks d [.ref (Z.2.2 165), .int p1] M0 (li_SV (fun i => i = 169) M0) := by
  refine li_enter (by decide +kernel) (Nat.le_of_ble_eq_true rfl) ?_
  show li_T l Z YX10_fillMasks d 0 [(0, .ref (Z.2.2 165)), (1, .int p1)] [] M0 _
  have hf : li_fr (fun i => i = 169) M0 M0 := li_fr_refl
  have gp1 := tl_rg p1
  refine li_iconst 0 dX10_fillMasks_0 (by decide) ?_
  refine li_istore_n [(2, .int 0), (0, .ref (Z.2.2 165)), (1, .int p1)] dX10_fillMasks_1 (by decide) rfl ?_
  have L2 : ∀ (n : Nat) (x1 : Int32) (M2 : li_M), (2147483647 - (x1 : Int32).toInt).toNat < n → li_fr (fun i => i = 169) M0 M2 → li_T l Z YX10_fillMasks d 2 [(2, .int x1), (0, .ref (Z.2.2 165)), (1, .int p1)] [] M2 (li_SV (fun i => i = 169) M0) := by
    intro n
    induction n with
    | zero => intro x1 M2 hn; exact absurd hn (Nat.not_lt_zero _)
    | succ n ih2 =>
      intro x1 M2 hn hf
      have gx1 := tl_rg x1
      refine li_iload_n 0 dX10_fillMasks_2 rfl ?_
      refine li_iload_n 2 dX10_fillMasks_3 rfl ?_
      refine li_icmp_ge 38 dX10_fillMasks_4 (by decide) (fun c3 => ?_) (fun c3 => ?_)
      · have tc3 : p1.toInt ≤ x1.toInt := tl_le c3
        refine li_iconst 2 dX10_fillMasks_38 (by decide) ?_
        refine li_istore_n [(2, .int 2), (0, .ref (Z.2.2 165)), (1, .int p1)] dX10_fillMasks_39 (by decide) rfl ?_
        have L40 : ∀ (n : Nat) (x4 : Int32) (M5 : li_M), (82 - (x4 : Int32).toInt).toNat < n → li_fr (fun i => i = 169) M0 M5 → 0 ≤ (x4 : Int32).toInt → li_T l Z YX10_fillMasks d 40 [(2, .int x4), (0, .ref (Z.2.2 165)), (1, .int p1)] [] M5 (li_SV (fun i => i = 169) M0) := by
          intro n
          induction n with
          | zero => intro x4 M5 hn; exact absurd hn (Nat.not_lt_zero _)
          | succ n ih40 =>
            intro x4 M5 hn hf hi
            have gx4 := tl_rg x4
            refine li_iload_n 0 dX10_fillMasks_40 rfl ?_
            refine li_iload_n 2 dX10_fillMasks_41 rfl ?_
            refine li_icmp_gt 89 dX10_fillMasks_42 (by decide) (fun c6 => ?_) (fun c6 => ?_)
            · have tc6 : p1.toInt < x4.toInt := tl_lt c6
              exact li_vret dX10_fillMasks_89 rfl ⟨rfl, hf⟩
            · have tc6 : x4.toInt ≤ p1.toInt := tl_nlt c6
              refine li_iconst 0 dX10_fillMasks_45 (by decide) ?_
              refine li_istore_n [(3, .int 0), (2, .int x4), (0, .ref (Z.2.2 165)), (1, .int p1)] dX10_fillMasks_46 (by decide) rfl ?_
              have L47 : ∀ (n : Nat) (x7 : Int32) (M8 : li_M), (82 - (x7 : Int32).toInt).toNat < n → li_fr (fun i => i = 169) M0 M8 → 0 ≤ (x7 : Int32).toInt ∧ (x7 : Int32).toInt ≤ 81 → li_T l Z YX10_fillMasks d 47 [(3, .int x7), (2, .int x4), (0, .ref (Z.2.2 165)), (1, .int p1)] [] M8 (li_SV (fun i => i = 169) M0) := by
                intro n
                induction n with
                | zero => intro x7 M8 hn; exact absurd hn (Nat.not_lt_zero _)
                | succ n ih47 =>
                  intro x7 M8 hn hf hi
                  have gx7 := tl_rg x7
                  refine li_iload_n 0 dX10_fillMasks_47 rfl ?_
                  refine li_iload_n 1 dX10_fillMasks_48 rfl ?_
                  refine li_iadd dX10_fillMasks_49 ?_
                  refine li_top (fun x9 ex9 => ?_)
                  have tx9 : (-2147483648 ≤ x7.toInt + x4.toInt ∧ x7.toInt + x4.toInt ≤ 2147483647) → x9.toInt = x7.toInt + x4.toInt := tl_add ex9
                  refine li_iload_n 3 dX10_fillMasks_50 rfl ?_
                  refine li_icmp_gt 83 dX10_fillMasks_51 (by decide) (fun c10 => ?_) (fun c10 => ?_)
                  · have tc10 : p1.toInt < x9.toInt := tl_lt c10
                    obtain ⟨x11, ex11⟩ : ∃ y : Int32, y = x4 + 1 := ⟨_, rfl⟩
                    have tx11 : (-2147483648 ≤ x4.toInt + 1 ∧ x4.toInt + 1 ≤ 2147483647) → x11.toInt = x4.toInt + 1 := tl_add ex11
                    refine li_iinc 1 [(2, .int x11), (3, .int x7), (0, .ref (Z.2.2 165)), (1, .int p1)] x11 dX10_fillMasks_83 rfl (by rw [ex11]; rfl) (by decide) rfl ?_
                    refine li_goto 40 dX10_fillMasks_86 (by decide) ?_
                    refine li_pick [0, 2, 3] [(2, .int x11), (0, .ref (Z.2.2 165)), (1, .int p1)] rfl ?_
                    exact ih40 x11 M8 (by omega) hf (by omega)
                  · have tc10 : x9.toInt ≤ p1.toInt := tl_nlt c10
                    refine li_aload_n 2 dX10_fillMasks_54 rfl ?_
                    refine li_getr (k := 3) (N := 8) (T := TX10) (C0 := RX10) dX10_fillMasks_55 (by decide) sh_165 rfl rfl (by decide) (by decide) li_in10 w_355 ?_
                    refine li_iload_n 0 dX10_fillMasks_58 rfl ?_
                    refine li_bipush 15 dX10_fillMasks_59 (by decide) ?_
                    refine li_imul dX10_fillMasks_61 ?_
                    refine li_top (fun x12 ex12 => ?_)
                    have tx12 : (-2147483648 ≤ x7.toInt * 15 ∧ x7.toInt * 15 ≤ 2147483647) → x12.toInt = x7.toInt * 15 := tl_mul ex12
                    refine li_iload_n 0 dX10_fillMasks_62 rfl ?_
                    refine li_iadd dX10_fillMasks_63 ?_
                    refine li_top (fun x13 ex13 => ?_)
                    have tx13 : (-2147483648 ≤ x12.toInt + x7.toInt ∧ x12.toInt + x7.toInt ≤ 2147483647) → x13.toInt = x12.toInt + x7.toInt := tl_add ex13
                    refine li_iload_n 1 dX10_fillMasks_64 rfl ?_
                    refine li_iadd dX10_fillMasks_65 ?_
                    refine li_top (fun x14 ex14 => ?_)
                    have tx14 : (-2147483648 ≤ x13.toInt + x4.toInt ∧ x13.toInt + x4.toInt ≤ 2147483647) → x14.toInt = x13.toInt + x4.toInt := tl_add ex14
                    refine li_aload_n 2 dX10_fillMasks_66 rfl ?_
                    refine li_iload_n 0 dX10_fillMasks_67 rfl ?_
                    refine li_iload_n 0 dX10_fillMasks_68 rfl ?_
                    refine li_iload_n 1 dX10_fillMasks_69 rfl ?_
                    refine li_iadd dX10_fillMasks_70 ?_
                    refine li_top (fun x15 ex15 => ?_)
                    have tx15 : (-2147483648 ≤ x7.toInt + x4.toInt ∧ x7.toInt + x4.toInt ≤ 2147483647) → x15.toInt = x7.toInt + x4.toInt := tl_add ex15
                    refine li_callV (n := 2) (As := [.int x7, .int x15]) dX10_fillMasks_71 (k_X10_joined (d - 1) (by omega) x7 x15 M8) (by omega) (Nat.le_of_ble_eq_true rfl) w_1174 w_1176 w_32 w_112 w_1177 (by decide +kernel) rfl (by decide) sh_165 rfl rfl (Nat.le_of_ble_eq_true rfl) (fun r M17 h18 => ?_)
                    obtain ⟨⟨x16, rfl⟩, h18⟩ := h18
                    have gx16 := tl_rg x16
                    have hf := li_fr_trans hf h18 (fun i h => False.elim h)
                    refine li_callN (n := 3) (As := [.ref (Z.2.2 169), .int x14, .int x16]) dX10_fillMasks_74 (k_X11_put (d - 1) (by omega) (by decide) sh_169 (by decide) x14 x16 M17) (by omega) (Nat.le_of_ble_eq_true rfl) nw_12 w_542 w_104 w_543 (by decide +kernel) rfl rfl (Nat.le_of_ble_eq_true rfl) (fun r M20 h21 => ?_)
                    obtain ⟨rfl, h21⟩ := h21
                    have hf := li_fr_trans hf h21 (fun i (h : i = 169) => (show i = 169 by omega))
                    obtain ⟨x22, ex22⟩ : ∃ y : Int32, y = x7 + 1 := ⟨_, rfl⟩
                    have tx22 : (-2147483648 ≤ x7.toInt + 1 ∧ x7.toInt + 1 ≤ 2147483647) → x22.toInt = x7.toInt + 1 := tl_add ex22
                    refine li_iinc 0 [(3, .int x22), (2, .int x4), (0, .ref (Z.2.2 165)), (1, .int p1)] x22 dX10_fillMasks_77 rfl (by rw [ex22]; rfl) (by decide) rfl ?_
                    refine li_goto 47 dX10_fillMasks_80 (by decide) ?_
                    refine li_pick [0, 1, 2, 3] [(3, .int x22), (2, .int x4), (0, .ref (Z.2.2 165)), (1, .int p1)] rfl ?_
                    exact ih47 x22 M20 (by omega) hf (by omega)
              have z0 : (0 : Int32).toInt = 0 := rfl
              exact L47 _ 0 M5 (Nat.lt_succ_self _) hf (by omega)
        have z2 : (2 : Int32).toInt = 2 := rfl
        exact L40 _ 2 M2 (Nat.lt_succ_self _) hf (by omega)
      · have tc3 : x1.toInt < p1.toInt := tl_nle c3
        refine li_aload_n 1 dX10_fillMasks_7 rfl ?_
        refine li_getr (k := 3) (N := 8) (T := TX10) (C0 := RX10) dX10_fillMasks_8 (by decide) sh_165 rfl rfl (by decide) (by decide) li_in10 w_355 ?_
        refine li_iload_n 0 dX10_fillMasks_11 rfl ?_
        refine li_bipush 15 dX10_fillMasks_12 (by decide) ?_
        refine li_imul dX10_fillMasks_14 ?_
        refine li_top (fun x23 ex23 => ?_)
        have tx23 : (-2147483648 ≤ x1.toInt * 15 ∧ x1.toInt * 15 ≤ 2147483647) → x23.toInt = x1.toInt * 15 := tl_mul ex23
        refine li_iload_n 0 dX10_fillMasks_15 rfl ?_
        refine li_iadd dX10_fillMasks_16 ?_
        refine li_top (fun x24 ex24 => ?_)
        have tx24 : (-2147483648 ≤ x23.toInt + x1.toInt ∧ x23.toInt + x1.toInt ≤ 2147483647) → x24.toInt = x23.toInt + x1.toInt := tl_add ex24
        refine li_iconst 1 dX10_fillMasks_17 (by decide) ?_
        refine li_iadd dX10_fillMasks_18 ?_
        refine li_top (fun x25 ex25 => ?_)
        have tx25 : (-2147483648 ≤ x24.toInt + 1 ∧ x24.toInt + 1 ≤ 2147483647) → x25.toInt = x24.toInt + 1 := tl_add ex25
        refine li_iconst 1 dX10_fillMasks_19 (by decide) ?_
        refine li_aload_n 1 dX10_fillMasks_20 rfl ?_
        refine li_getr (k := 2) (N := 8) (T := TX10) (C0 := RX10) dX10_fillMasks_21 (by decide) sh_165 rfl rfl (by decide) (by decide) li_in10 w_354 ?_
        refine li_iload_n 0 dX10_fillMasks_24 rfl ?_
        refine li_callN (n := 2) (As := [.ref (Z.2.2 168), .int x1]) dX10_fillMasks_25 (k_X11_at (d - 1) (by omega) (by decide) sh_168 (by decide) x1 M2) (by omega) (Nat.le_of_ble_eq_true rfl) nw_34 w_589 w_104 w_590 (by decide +kernel) rfl rfl (Nat.le_of_ble_eq_true rfl) (fun r M27 h28 => ?_)
        obtain ⟨⟨x26, rfl⟩, h28⟩ := h28
        have gx26 := tl_rg x26
        have hf := li_fr_trans hf h28 (fun i h => False.elim h)
        refine li_ishl dX10_fillMasks_28 ?_
        refine li_top (fun x29 ex29 => ?_)
        refine li_callN (n := 3) (As := [.ref (Z.2.2 169), .int x25, .int x29]) dX10_fillMasks_29 (k_X11_put (d - 1) (by omega) (by decide) sh_169 (by decide) x25 x29 M27) (by omega) (Nat.le_of_ble_eq_true rfl) nw_12 w_542 w_104 w_543 (by decide +kernel) rfl rfl (Nat.le_of_ble_eq_true rfl) (fun r M31 h32 => ?_)
        obtain ⟨rfl, h32⟩ := h32
        have hf := li_fr_trans hf h32 (fun i (h : i = 169) => (show i = 169 by omega))
        obtain ⟨x33, ex33⟩ : ∃ y : Int32, y = x1 + 1 := ⟨_, rfl⟩
        have tx33 : (-2147483648 ≤ x1.toInt + 1 ∧ x1.toInt + 1 ≤ 2147483647) → x33.toInt = x1.toInt + 1 := tl_add ex33
        refine li_iinc 0 [(2, .int x33), (0, .ref (Z.2.2 165)), (1, .int p1)] x33 dX10_fillMasks_32 rfl (by rw [ex33]; rfl) (by decide) rfl ?_
        refine li_goto 2 dX10_fillMasks_35 (by decide) ?_
        refine li_pick [0, 1, 2] [(2, .int x33), (0, .ref (Z.2.2 165)), (1, .int p1)] rfl ?_
        exact ih2 x33 M31 (by have h9 := li_up (li_gt c3); rw [← ex33] at h9; omega) hf
  have z0 : (0 : Int32).toInt = 0 := rfl
  exact L2 _ 0 M0 (Nat.lt_succ_self _) hf
set_option maxRecDepth 100000 in
set_option maxHeartbeats 4000000 in
theorem k_X10_isTrialLess {l : Launch} {Z : li_Z} (d : Nat) (hd : 2 ≤ d) (p1 : Int32) (p2 : Int32) (M0 : li_M) : li_Met l Z YX10_isTrialLess d [.ref (Z.2.2 165), .int p1, .int p2] M0 (li_SZ (fun i => False) M0) := by
  refine li_enter (by decide +kernel) (Nat.le_of_ble_eq_true rfl) ?_
  show li_T l Z YX10_isTrialLess d 0 [(0, .ref (Z.2.2 165)), (1, .int p1), (2, .int p2)] [] M0 _
  have hf : li_fr (fun i => False) M0 M0 := li_fr_refl
  refine li_iconst 0 dX10_isTrialLess_0 (by decide) ?_
  refine li_istore_n [(3, .int 0), (0, .ref (Z.2.2 165)), (1, .int p1), (2, .int p2)] dX10_isTrialLess_1 (by decide) rfl ?_
  have L2 : ∀ (n : Nat) (x1 : Int32) (M2 : li_M), (2147483647 - (x1 : Int32).toInt).toNat < n → li_fr (fun i => False) M0 M2 → li_T l Z YX10_isTrialLess d 2 [(3, .int x1), (0, .ref (Z.2.2 165)), (1, .int p1), (2, .int p2)] [] M2 (li_SZ (fun i => False) M0) := by
    intro n
    induction n with
    | zero => intro x1 M2 hn; exact absurd hn (Nat.not_lt_zero _)
    | succ n ih2 =>
      intro x1 M2 hn hf
      refine li_iload_n 0 dX10_isTrialLess_2 rfl ?_
      refine li_iload_n 3 dX10_isTrialLess_3 rfl ?_
      refine li_icmp_ge 53 dX10_isTrialLess_4 (by decide) (fun c3 => ?_) (fun c3 => ?_)
      · refine li_iconst 0 dX10_isTrialLess_53 (by decide) ?_
        exact li_iret dX10_isTrialLess_54 rfl (li_nz (Or.inl rfl)) ⟨⟨_, rfl, Or.inl rfl⟩, hf⟩
      · refine li_aload_n 1 dX10_isTrialLess_7 rfl ?_
        refine li_getr (k := 6) (N := 8) (T := TX10) (C0 := RX10) dX10_isTrialLess_8 (by decide) sh_165 rfl rfl (by decide) (by decide) li_in10 w_359 ?_
        refine li_iload_n 0 dX10_isTrialLess_11 rfl ?_
        refine li_callN (n := 2) (As := [.ref (Z.2.2 172), .int x1]) dX10_isTrialLess_12 (k_X11_at (d - 1) (by omega) (by decide) sh_172 (by decide) x1 M2) (by omega) (Nat.le_of_ble_eq_true rfl) nw_34 w_589 w_104 w_590 (by decide +kernel) rfl rfl (Nat.le_of_ble_eq_true rfl) (fun r M5 h6 => ?_)
        obtain ⟨⟨x4, rfl⟩, h6⟩ := h6
        have hf := li_fr_trans hf h6 (fun i h => False.elim h)
        refine li_aload_n 1 dX10_isTrialLess_15 rfl ?_
        refine li_getr (k := 5) (N := 8) (T := TX10) (C0 := RX10) dX10_isTrialLess_16 (by decide) sh_165 rfl rfl (by decide) (by decide) li_in10 w_357 ?_
        refine li_iload_n 2 dX10_isTrialLess_19 rfl ?_
        refine li_bipush 15 dX10_isTrialLess_20 (by decide) ?_
        refine li_imul dX10_isTrialLess_22 ?_
        refine li_top (fun x7 ex7 => ?_)
        refine li_iload_n 0 dX10_isTrialLess_23 rfl ?_
        refine li_iadd dX10_isTrialLess_24 ?_
        refine li_top (fun x8 ex8 => ?_)
        refine li_callN (n := 2) (As := [.ref (Z.2.2 171), .int x8]) dX10_isTrialLess_25 (k_X11_at (d - 1) (by omega) (by decide) sh_171 (by decide) x8 M5) (by omega) (Nat.le_of_ble_eq_true rfl) nw_34 w_589 w_104 w_590 (by decide +kernel) rfl rfl (Nat.le_of_ble_eq_true rfl) (fun r M10 h11 => ?_)
        obtain ⟨⟨x9, rfl⟩, h11⟩ := h11
        have hf := li_fr_trans hf h11 (fun i h => False.elim h)
        refine li_isub dX10_isTrialLess_28 ?_
        refine li_top (fun x12 ex12 => ?_)
        refine li_istore [(4, .int x12), (3, .int x1), (0, .ref (Z.2.2 165)), (1, .int p1), (2, .int p2)] dX10_isTrialLess_29 (by decide) rfl ?_
        refine li_iload 0 dX10_isTrialLess_31 rfl ?_
        refine li_if_eq 47 dX10_isTrialLess_33 (by decide) (fun c13 => ?_) (fun c13 => ?_)
        · obtain ⟨x14, ex14⟩ : ∃ y : Int32, y = x1 + 1 := ⟨_, rfl⟩
          refine li_iinc 1 [(3, .int x14), (4, .int x12), (0, .ref (Z.2.2 165)), (1, .int p1), (2, .int p2)] x14 dX10_isTrialLess_47 rfl (by rw [ex14]; rfl) (by decide) rfl ?_
          refine li_goto 2 dX10_isTrialLess_50 (by decide) ?_
          refine li_pick [0, 2, 3, 4] [(3, .int x14), (0, .ref (Z.2.2 165)), (1, .int p1), (2, .int p2)] rfl ?_
          exact ih2 x14 M10 (by have h9 := li_up (li_gt c3); rw [← ex14] at h9; omega) hf
        · refine li_iload 0 dX10_isTrialLess_36 rfl ?_
          refine li_if_ge 45 dX10_isTrialLess_38 (by decide) (fun c15 => ?_) (fun c15 => ?_)
          · refine li_iconst 0 dX10_isTrialLess_45 (by decide) ?_
            exact li_iret dX10_isTrialLess_46 rfl (li_nz (Or.inl rfl)) ⟨⟨_, rfl, Or.inl rfl⟩, hf⟩
          · refine li_iconst 1 dX10_isTrialLess_41 (by decide) ?_
            refine li_goto 46 dX10_isTrialLess_42 (by decide) ?_
            exact li_iret dX10_isTrialLess_46 rfl (li_nz (Or.inr rfl)) ⟨⟨_, rfl, Or.inr rfl⟩, hf⟩
  exact L2 _ 0 M0 (Nat.lt_succ_self _) hf
set_option maxRecDepth 100000 in
set_option maxHeartbeats 4000000 in
theorem k_X10_tryFirst {l : Launch} {Z : li_Z} (d : Nat) (hd : 3 ≤ d) (p1 : Int32) (p2 : Int32) (M0 : li_M) : li_Met l Z YX10_tryFirst d [.ref (Z.2.2 165), .int p1, .int p2] M0 (li_SV (fun i => i = 170 ∨ i = 171 ∨ i = 172) M0) := by
  refine li_enter (by decide +kernel) (Nat.le_of_ble_eq_true rfl) ?_
  show li_T l Z YX10_tryFirst d 0 [(0, .ref (Z.2.2 165)), (1, .int p1), (2, .int p2)] [] M0 _
  have hf : li_fr (fun i => i = 170 ∨ i = 171 ∨ i = 172) M0 M0 := li_fr_refl
  refine li_iconst 1 dX10_tryFirst_0 (by decide) ?_
  refine li_aload_n 0 dX10_tryFirst_1 rfl ?_
  refine li_getr (k := 4) (N := 8) (T := TX10) (C0 := RX10) dX10_tryFirst_2 (by decide) sh_165 rfl rfl (by decide) (by decide) li_in10 w_356 ?_
  refine li_iload_n 2 dX10_tryFirst_5 rfl ?_
  refine li_callN (n := 2) (As := [.ref (Z.2.2 170), .int p2]) dX10_tryFirst_6 (k_X11_at (d - 1) (by omega) (by decide) sh_170 (by decide) p2 M0) (by omega) (Nat.le_of_ble_eq_true rfl) nw_34 w_589 w_104 w_590 (by decide +kernel) rfl rfl (Nat.le_of_ble_eq_true rfl) (fun r M2 h3 => ?_)
  obtain ⟨⟨x1, rfl⟩, h3⟩ := h3
  have hf := li_fr_trans hf h3 (fun i h => False.elim h)
  refine li_iadd dX10_tryFirst_9 ?_
  refine li_top (fun x4 ex4 => ?_)
  refine li_istore_n [(3, .int x4), (0, .ref (Z.2.2 165)), (1, .int p1), (2, .int p2)] dX10_tryFirst_10 (by decide) rfl ?_
  refine li_iload_n 0 dX10_tryFirst_11 rfl ?_
  refine li_aload_n 1 dX10_tryFirst_12 rfl ?_
  refine li_getr (k := 4) (N := 8) (T := TX10) (C0 := RX10) dX10_tryFirst_13 (by decide) sh_165 rfl rfl (by decide) (by decide) li_in10 w_356 ?_
  refine li_iload_n 2 dX10_tryFirst_16 rfl ?_
  refine li_callN (n := 2) (As := [.ref (Z.2.2 170), .int p1]) dX10_tryFirst_17 (k_X11_at (d - 1) (by omega) (by decide) sh_170 (by decide) p1 M2) (by omega) (Nat.le_of_ble_eq_true rfl) nw_34 w_589 w_104 w_590 (by decide +kernel) rfl rfl (Nat.le_of_ble_eq_true rfl) (fun r M6 h7 => ?_)
  obtain ⟨⟨x5, rfl⟩, h7⟩ := h7
  have hf := li_fr_trans hf h7 (fun i h => False.elim h)
  refine li_icmp_le 24 dX10_tryFirst_20 (by decide) (fun c8 => ?_) (fun c8 => ?_)
  · refine li_aload_n 1 dX10_tryFirst_24 rfl ?_
    refine li_getr (k := 6) (N := 8) (T := TX10) (C0 := RX10) dX10_tryFirst_25 (by decide) sh_165 rfl rfl (by decide) (by decide) li_in10 w_359 ?_
    refine li_iconst 0 dX10_tryFirst_28 (by decide) ?_
    refine li_aload_n 1 dX10_tryFirst_29 rfl ?_
    refine li_iload_n 2 dX10_tryFirst_30 rfl ?_
    refine li_iload_n 3 dX10_tryFirst_31 rfl ?_
    refine li_callV (n := 2) (As := [.int p1, .int p2]) dX10_tryFirst_32 (k_X10_mask (d - 1) (by omega) p1 p2 M6) (by omega) (Nat.le_of_ble_eq_true rfl) w_1178 w_1179 w_1180 w_112 w_1181 (by decide +kernel) rfl (by decide) sh_165 rfl rfl (Nat.le_of_ble_eq_true rfl) (fun r M10 h11 => ?_)
    obtain ⟨⟨x9, rfl⟩, h11⟩ := h11
    have hf := li_fr_trans hf h11 (fun i h => False.elim h)
    refine li_callS (n := 1) (As := [.int x9]) dX10_tryFirst_35 (k_J6_numberOfTrailingZeros_0f7a4 (d - 1) (by omega) x9 M10) (by omega) (Nat.le_of_ble_eq_true rfl) w_1191 w_1192 w_127 w_1193 (by decide +kernel) rfl rfl (Nat.le_of_ble_eq_true rfl) (fun r M13 h14 => ?_)
    obtain ⟨⟨x12, rfl⟩, h14⟩ := h14
    have hf := li_fr_trans hf h14 (fun i h => False.elim h)
    refine li_callN (n := 3) (As := [.ref (Z.2.2 172), .int 0, .int x12]) dX10_tryFirst_38 (k_X11_put (d - 1) (by omega) (by decide) sh_172 (by decide) 0 x12 M13) (by omega) (Nat.le_of_ble_eq_true rfl) nw_12 w_542 w_104 w_543 (by decide +kernel) rfl rfl (Nat.le_of_ble_eq_true rfl) (fun r M16 h17 => ?_)
    obtain ⟨rfl, h17⟩ := h17
    have hf := li_fr_trans hf h17 (fun i (h : i = 172) => (show i = 170 ∨ i = 171 ∨ i = 172 by omega))
    refine li_iconst 1 dX10_tryFirst_41 (by decide) ?_
    refine li_istore [(4, .int 1), (3, .int x4), (0, .ref (Z.2.2 165)), (1, .int p1), (2, .int p2)] dX10_tryFirst_42 (by decide) rfl ?_
    have L44 : ∀ (n : Nat) (x18 : Int32) (M19 : li_M), (2147483647 - (x18 : Int32).toInt).toNat < n → li_fr (fun i => i = 170 ∨ i = 171 ∨ i = 172) M0 M19 → li_T l Z YX10_tryFirst d 44 [(4, .int x18), (3, .int x4), (0, .ref (Z.2.2 165)), (1, .int p1), (2, .int p2)] [] M19 (li_SV (fun i => i = 170 ∨ i = 171 ∨ i = 172) M0) := by
      intro n
      induction n with
      | zero => intro x18 M19 hn; exact absurd hn (Nat.not_lt_zero _)
      | succ n ih44 =>
        intro x18 M19 hn hf
        refine li_iload 0 dX10_tryFirst_44 rfl ?_
        refine li_iload_n 1 dX10_tryFirst_46 rfl ?_
        refine li_icmp_ge 81 dX10_tryFirst_47 (by decide) (fun c20 => ?_) (fun c20 => ?_)
        · refine li_iload_n 1 dX10_tryFirst_81 rfl ?_
          refine li_aload_n 2 dX10_tryFirst_82 rfl ?_
          refine li_getr (k := 4) (N := 8) (T := TX10) (C0 := RX10) dX10_tryFirst_83 (by decide) sh_165 rfl rfl (by decide) (by decide) li_in10 w_356 ?_
          refine li_iload_n 3 dX10_tryFirst_86 rfl ?_
          refine li_callN (n := 2) (As := [.ref (Z.2.2 170), .int p1]) dX10_tryFirst_87 (k_X11_at (d - 1) (by omega) (by decide) sh_170 (by decide) p1 M19) (by omega) (Nat.le_of_ble_eq_true rfl) nw_34 w_589 w_104 w_590 (by decide +kernel) rfl rfl (Nat.le_of_ble_eq_true rfl) (fun r M22 h23 => ?_)
          obtain ⟨⟨x21, rfl⟩, h23⟩ := h23
          have hf := li_fr_trans hf h23 (fun i h => False.elim h)
          refine li_icmp_lt 102 dX10_tryFirst_90 (by decide) (fun c24 => ?_) (fun c24 => ?_)
          · refine li_iconst 0 dX10_tryFirst_102 (by decide) ?_
            refine li_istore [(4, .int 0), (3, .int x4), (0, .ref (Z.2.2 165)), (1, .int p1), (2, .int p2)] dX10_tryFirst_103 (by decide) rfl ?_
            have L105 : ∀ (n : Nat) (x25 : Int32) (M26 : li_M), (2147483647 - (x25 : Int32).toInt).toNat < n → li_fr (fun i => i = 170 ∨ i = 171 ∨ i = 172) M0 M26 → li_T l Z YX10_tryFirst d 105 [(4, .int x25), (3, .int x4), (0, .ref (Z.2.2 165)), (1, .int p1), (2, .int p2)] [] M26 (li_SV (fun i => i = 170 ∨ i = 171 ∨ i = 172) M0) := by
              intro n
              induction n with
              | zero => intro x25 M26 hn; exact absurd hn (Nat.not_lt_zero _)
              | succ n ih105 =>
                intro x25 M26 hn hf
                refine li_iload 0 dX10_tryFirst_105 rfl ?_
                refine li_iload_n 1 dX10_tryFirst_107 rfl ?_
                refine li_icmp_ge 140 dX10_tryFirst_108 (by decide) (fun c27 => ?_) (fun c27 => ?_)
                · refine li_aload_n 2 dX10_tryFirst_140 rfl ?_
                  refine li_getr (k := 4) (N := 8) (T := TX10) (C0 := RX10) dX10_tryFirst_141 (by decide) sh_165 rfl rfl (by decide) (by decide) li_in10 w_356 ?_
                  refine li_iload_n 3 dX10_tryFirst_144 rfl ?_
                  refine li_iload_n 1 dX10_tryFirst_145 rfl ?_
                  refine li_callN (n := 3) (As := [.ref (Z.2.2 170), .int p1, .int x4]) dX10_tryFirst_146 (k_X11_put (d - 1) (by omega) (by decide) sh_170 (by decide) p1 x4 M26) (by omega) (Nat.le_of_ble_eq_true rfl) nw_12 w_542 w_104 w_543 (by decide +kernel) rfl rfl (Nat.le_of_ble_eq_true rfl) (fun r M29 h30 => ?_)
                  obtain ⟨rfl, h30⟩ := h30
                  have hf := li_fr_trans hf h30 (fun i (h : i = 170) => (show i = 170 ∨ i = 171 ∨ i = 172 by omega))
                  exact li_vret dX10_tryFirst_149 rfl ⟨rfl, hf⟩
                · refine li_aload_n 2 dX10_tryFirst_111 rfl ?_
                  refine li_getr (k := 5) (N := 8) (T := TX10) (C0 := RX10) dX10_tryFirst_112 (by decide) sh_165 rfl rfl (by decide) (by decide) li_in10 w_357 ?_
                  refine li_iload_n 3 dX10_tryFirst_115 rfl ?_
                  refine li_bipush 15 dX10_tryFirst_116 (by decide) ?_
                  refine li_imul dX10_tryFirst_118 ?_
                  refine li_top (fun x31 ex31 => ?_)
                  refine li_iload 0 dX10_tryFirst_119 rfl ?_
                  refine li_iadd dX10_tryFirst_121 ?_
                  refine li_top (fun x32 ex32 => ?_)
                  refine li_aload_n 2 dX10_tryFirst_122 rfl ?_
                  refine li_getr (k := 6) (N := 8) (T := TX10) (C0 := RX10) dX10_tryFirst_123 (by decide) sh_165 rfl rfl (by decide) (by decide) li_in10 w_359 ?_
                  refine li_iload 0 dX10_tryFirst_126 rfl ?_
                  refine li_callN (n := 2) (As := [.ref (Z.2.2 172), .int x25]) dX10_tryFirst_128 (k_X11_at (d - 1) (by omega) (by decide) sh_172 (by decide) x25 M26) (by omega) (Nat.le_of_ble_eq_true rfl) nw_34 w_589 w_104 w_590 (by decide +kernel) rfl rfl (Nat.le_of_ble_eq_true rfl) (fun r M34 h35 => ?_)
                  obtain ⟨⟨x33, rfl⟩, h35⟩ := h35
                  have hf := li_fr_trans hf h35 (fun i h => False.elim h)
                  refine li_callN (n := 3) (As := [.ref (Z.2.2 171), .int x32, .int x33]) dX10_tryFirst_131 (k_X11_put (d - 1) (by omega) (by decide) sh_171 (by decide) x32 x33 M34) (by omega) (Nat.le_of_ble_eq_true rfl) nw_12 w_542 w_104 w_543 (by decide +kernel) rfl rfl (Nat.le_of_ble_eq_true rfl) (fun r M37 h38 => ?_)
                  obtain ⟨rfl, h38⟩ := h38
                  have hf := li_fr_trans hf h38 (fun i (h : i = 171) => (show i = 170 ∨ i = 171 ∨ i = 172 by omega))
                  obtain ⟨x39, ex39⟩ : ∃ y : Int32, y = x25 + 1 := ⟨_, rfl⟩
                  refine li_iinc 0 [(4, .int x39), (3, .int x4), (0, .ref (Z.2.2 165)), (1, .int p1), (2, .int p2)] x39 dX10_tryFirst_134 rfl (by rw [ex39]; rfl) (by decide) rfl ?_
                  refine li_goto 105 dX10_tryFirst_137 (by decide) ?_
                  refine li_pick [0, 1, 2, 3, 4] [(4, .int x39), (3, .int x4), (0, .ref (Z.2.2 165)), (1, .int p1), (2, .int p2)] rfl ?_
                  exact ih105 x39 M37 (by have h9 := li_up (li_gt c27); rw [← ex39] at h9; omega) hf
            exact L105 _ 0 M22 (Nat.lt_succ_self _) hf
          · refine li_aload_n 2 dX10_tryFirst_93 rfl ?_
            refine li_iload_n 3 dX10_tryFirst_94 rfl ?_
            refine li_iload_n 1 dX10_tryFirst_95 rfl ?_
            refine li_callV (n := 2) (As := [.int p1, .int x4]) dX10_tryFirst_96 (k_X10_isTrialLess (d - 1) (by omega) p1 x4 M22) (by omega) (Nat.le_of_ble_eq_true rfl) w_1195 w_1197 w_34 w_112 w_1198 (by decide +kernel) rfl (by decide) sh_165 rfl rfl (Nat.le_of_ble_eq_true rfl) (fun r M41 h42 => ?_)
            obtain ⟨⟨x40, rfl, bx40⟩, h42⟩ := h42
            have hf := li_fr_trans hf h42 (fun i h => False.elim h)
            refine li_if_eq 149 dX10_tryFirst_99 (by decide) (fun c43 => ?_) (fun c43 => ?_)
            · exact li_vret dX10_tryFirst_149 rfl ⟨rfl, hf⟩
            · refine li_iconst 0 dX10_tryFirst_102 (by decide) ?_
              refine li_istore [(4, .int 0), (3, .int x4), (0, .ref (Z.2.2 165)), (1, .int p1), (2, .int p2)] dX10_tryFirst_103 (by decide) rfl ?_
              have L105 : ∀ (n : Nat) (x44 : Int32) (M45 : li_M), (2147483647 - (x44 : Int32).toInt).toNat < n → li_fr (fun i => i = 170 ∨ i = 171 ∨ i = 172) M0 M45 → li_T l Z YX10_tryFirst d 105 [(4, .int x44), (3, .int x4), (0, .ref (Z.2.2 165)), (1, .int p1), (2, .int p2)] [] M45 (li_SV (fun i => i = 170 ∨ i = 171 ∨ i = 172) M0) := by
                intro n
                induction n with
                | zero => intro x44 M45 hn; exact absurd hn (Nat.not_lt_zero _)
                | succ n ih105 =>
                  intro x44 M45 hn hf
                  refine li_iload 0 dX10_tryFirst_105 rfl ?_
                  refine li_iload_n 1 dX10_tryFirst_107 rfl ?_
                  refine li_icmp_ge 140 dX10_tryFirst_108 (by decide) (fun c46 => ?_) (fun c46 => ?_)
                  · refine li_aload_n 2 dX10_tryFirst_140 rfl ?_
                    refine li_getr (k := 4) (N := 8) (T := TX10) (C0 := RX10) dX10_tryFirst_141 (by decide) sh_165 rfl rfl (by decide) (by decide) li_in10 w_356 ?_
                    refine li_iload_n 3 dX10_tryFirst_144 rfl ?_
                    refine li_iload_n 1 dX10_tryFirst_145 rfl ?_
                    refine li_callN (n := 3) (As := [.ref (Z.2.2 170), .int p1, .int x4]) dX10_tryFirst_146 (k_X11_put (d - 1) (by omega) (by decide) sh_170 (by decide) p1 x4 M45) (by omega) (Nat.le_of_ble_eq_true rfl) nw_12 w_542 w_104 w_543 (by decide +kernel) rfl rfl (Nat.le_of_ble_eq_true rfl) (fun r M48 h49 => ?_)
                    obtain ⟨rfl, h49⟩ := h49
                    have hf := li_fr_trans hf h49 (fun i (h : i = 170) => (show i = 170 ∨ i = 171 ∨ i = 172 by omega))
                    exact li_vret dX10_tryFirst_149 rfl ⟨rfl, hf⟩
                  · refine li_aload_n 2 dX10_tryFirst_111 rfl ?_
                    refine li_getr (k := 5) (N := 8) (T := TX10) (C0 := RX10) dX10_tryFirst_112 (by decide) sh_165 rfl rfl (by decide) (by decide) li_in10 w_357 ?_
                    refine li_iload_n 3 dX10_tryFirst_115 rfl ?_
                    refine li_bipush 15 dX10_tryFirst_116 (by decide) ?_
                    refine li_imul dX10_tryFirst_118 ?_
                    refine li_top (fun x50 ex50 => ?_)
                    refine li_iload 0 dX10_tryFirst_119 rfl ?_
                    refine li_iadd dX10_tryFirst_121 ?_
                    refine li_top (fun x51 ex51 => ?_)
                    refine li_aload_n 2 dX10_tryFirst_122 rfl ?_
                    refine li_getr (k := 6) (N := 8) (T := TX10) (C0 := RX10) dX10_tryFirst_123 (by decide) sh_165 rfl rfl (by decide) (by decide) li_in10 w_359 ?_
                    refine li_iload 0 dX10_tryFirst_126 rfl ?_
                    refine li_callN (n := 2) (As := [.ref (Z.2.2 172), .int x44]) dX10_tryFirst_128 (k_X11_at (d - 1) (by omega) (by decide) sh_172 (by decide) x44 M45) (by omega) (Nat.le_of_ble_eq_true rfl) nw_34 w_589 w_104 w_590 (by decide +kernel) rfl rfl (Nat.le_of_ble_eq_true rfl) (fun r M53 h54 => ?_)
                    obtain ⟨⟨x52, rfl⟩, h54⟩ := h54
                    have hf := li_fr_trans hf h54 (fun i h => False.elim h)
                    refine li_callN (n := 3) (As := [.ref (Z.2.2 171), .int x51, .int x52]) dX10_tryFirst_131 (k_X11_put (d - 1) (by omega) (by decide) sh_171 (by decide) x51 x52 M53) (by omega) (Nat.le_of_ble_eq_true rfl) nw_12 w_542 w_104 w_543 (by decide +kernel) rfl rfl (Nat.le_of_ble_eq_true rfl) (fun r M56 h57 => ?_)
                    obtain ⟨rfl, h57⟩ := h57
                    have hf := li_fr_trans hf h57 (fun i (h : i = 171) => (show i = 170 ∨ i = 171 ∨ i = 172 by omega))
                    obtain ⟨x58, ex58⟩ : ∃ y : Int32, y = x44 + 1 := ⟨_, rfl⟩
                    refine li_iinc 0 [(4, .int x58), (3, .int x4), (0, .ref (Z.2.2 165)), (1, .int p1), (2, .int p2)] x58 dX10_tryFirst_134 rfl (by rw [ex58]; rfl) (by decide) rfl ?_
                    refine li_goto 105 dX10_tryFirst_137 (by decide) ?_
                    refine li_pick [0, 1, 2, 3, 4] [(4, .int x58), (3, .int x4), (0, .ref (Z.2.2 165)), (1, .int p1), (2, .int p2)] rfl ?_
                    exact ih105 x58 M56 (by have h9 := li_up (li_gt c46); rw [← ex58] at h9; omega) hf
              exact L105 _ 0 M41 (Nat.lt_succ_self _) hf
        · refine li_aload_n 2 dX10_tryFirst_50 rfl ?_
          refine li_getr (k := 6) (N := 8) (T := TX10) (C0 := RX10) dX10_tryFirst_51 (by decide) sh_165 rfl rfl (by decide) (by decide) li_in10 w_359 ?_
          refine li_iload 0 dX10_tryFirst_54 rfl ?_
          refine li_aload_n 2 dX10_tryFirst_56 rfl ?_
          refine li_getr (k := 5) (N := 8) (T := TX10) (C0 := RX10) dX10_tryFirst_57 (by decide) sh_165 rfl rfl (by decide) (by decide) li_in10 w_357 ?_
          refine li_iload_n 4 dX10_tryFirst_60 rfl ?_
          refine li_bipush 15 dX10_tryFirst_61 (by decide) ?_
          refine li_imul dX10_tryFirst_63 ?_
          refine li_top (fun x59 ex59 => ?_)
          refine li_iload 0 dX10_tryFirst_64 rfl ?_
          refine li_iadd dX10_tryFirst_66 ?_
          refine li_top (fun x60 ex60 => ?_)
          refine li_iconst 1 dX10_tryFirst_67 (by decide) ?_
          refine li_isub dX10_tryFirst_68 ?_
          refine li_top (fun x61 ex61 => ?_)
          refine li_callN (n := 2) (As := [.ref (Z.2.2 171), .int x61]) dX10_tryFirst_69 (k_X11_at (d - 1) (by omega) (by decide) sh_171 (by decide) x61 M19) (by omega) (Nat.le_of_ble_eq_true rfl) nw_34 w_589 w_104 w_590 (by decide +kernel) rfl rfl (Nat.le_of_ble_eq_true rfl) (fun r M63 h64 => ?_)
          obtain ⟨⟨x62, rfl⟩, h64⟩ := h64
          have hf := li_fr_trans hf h64 (fun i h => False.elim h)
          refine li_callN (n := 3) (As := [.ref (Z.2.2 172), .int x18, .int x62]) dX10_tryFirst_72 (k_X11_put (d - 1) (by omega) (by decide) sh_172 (by decide) x18 x62 M63) (by omega) (Nat.le_of_ble_eq_true rfl) nw_12 w_542 w_104 w_543 (by decide +kernel) rfl rfl (Nat.le_of_ble_eq_true rfl) (fun r M66 h67 => ?_)
          obtain ⟨rfl, h67⟩ := h67
          have hf := li_fr_trans hf h67 (fun i (h : i = 172) => (show i = 170 ∨ i = 171 ∨ i = 172 by omega))
          obtain ⟨x68, ex68⟩ : ∃ y : Int32, y = x18 + 1 := ⟨_, rfl⟩
          refine li_iinc 0 [(4, .int x68), (3, .int x4), (0, .ref (Z.2.2 165)), (1, .int p1), (2, .int p2)] x68 dX10_tryFirst_75 rfl (by rw [ex68]; rfl) (by decide) rfl ?_
          refine li_goto 44 dX10_tryFirst_78 (by decide) ?_
          refine li_pick [0, 1, 2, 3, 4] [(4, .int x68), (3, .int x4), (0, .ref (Z.2.2 165)), (1, .int p1), (2, .int p2)] rfl ?_
          exact ih44 x68 M66 (by have h9 := li_up (li_gt c20); rw [← ex68] at h9; omega) hf
    exact L44 _ 1 M16 (Nat.lt_succ_self _) hf
  · exact li_vret dX10_tryFirst_23 rfl ⟨rfl, hf⟩
set_option maxRecDepth 100000 in
set_option maxHeartbeats 4000000 in
theorem k_X10_shorten {l : Launch} {Z : li_Z} (d : Nat) (hd : 4 ≤ d) (p1 : Int32) (h1 : p1.toInt ≤ 80) (M0 : li_M) : li_Met l Z YX10_shorten d [.ref (Z.2.2 165), .int p1] M0 (li_SI (fun i => i = 170 ∨ i = 171 ∨ i = 172) M0) := by
  refine li_enter (by decide +kernel) (Nat.le_of_ble_eq_true rfl) ?_
  show li_T l Z YX10_shorten d 0 [(0, .ref (Z.2.2 165)), (1, .int p1)] [] M0 _
  have hf : li_fr (fun i => i = 170 ∨ i = 171 ∨ i = 172) M0 M0 := li_fr_refl
  have gp1 := tl_rg p1
  refine li_aload_n 0 dX10_shorten_0 rfl ?_
  refine li_getr (k := 4) (N := 8) (T := TX10) (C0 := RX10) dX10_shorten_1 (by decide) sh_165 rfl rfl (by decide) (by decide) li_in10 w_356 ?_
  refine li_iload_n 1 dX10_shorten_4 rfl ?_
  refine li_iconst 0 dX10_shorten_5 (by decide) ?_
  refine li_callN (n := 3) (As := [.ref (Z.2.2 170), .int p1, .int 0]) dX10_shorten_6 (k_X11_put (d - 1) (by omega) (by decide) sh_170 (by decide) p1 0 M0) (by omega) (Nat.le_of_ble_eq_true rfl) nw_12 w_542 w_104 w_543 (by decide +kernel) rfl rfl (Nat.le_of_ble_eq_true rfl) (fun r M2 h3 => ?_)
  obtain ⟨rfl, h3⟩ := h3
  have hf := li_fr_trans hf h3 (fun i (h : i = 170) => (show i = 170 ∨ i = 171 ∨ i = 172 by omega))
  refine li_iload_n 1 dX10_shorten_9 rfl ?_
  refine li_iconst 1 dX10_shorten_10 (by decide) ?_
  refine li_isub dX10_shorten_11 ?_
  refine li_top (fun x4 ex4 => ?_)
  have tx4 : (-2147483648 ≤ p1.toInt - 1 ∧ p1.toInt - 1 ≤ 2147483647) → x4.toInt = p1.toInt - 1 := tl_sub ex4
  refine li_istore_n [(2, .int x4), (0, .ref (Z.2.2 165)), (1, .int p1)] dX10_shorten_12 (by decide) rfl ?_
  have L13 : ∀ (n : Nat) (x5 : Int32) (M6 : li_M), ((x5 : Int32).toInt + 2147483648).toNat < n → li_fr (fun i => i = 170 ∨ i = 171 ∨ i = 172) M0 M6 → li_T l Z YX10_shorten d 13 [(2, .int x5), (0, .ref (Z.2.2 165)), (1, .int p1)] [] M6 (li_SI (fun i => i = 170 ∨ i = 171 ∨ i = 172) M0) := by
    intro n
    induction n with
    | zero => intro x5 M6 hn; exact absurd hn (Nat.not_lt_zero _)
    | succ n ih13 =>
      intro x5 M6 hn hf
      have gx5 := tl_rg x5
      refine li_iload_n 0 dX10_shorten_13 rfl ?_
      refine li_if_lt 63 dX10_shorten_14 (by decide) (fun c7 => ?_) (fun c7 => ?_)
      · have tc7 : x5.toInt < 0 := tl_lt c7
        refine li_aload_n 1 dX10_shorten_63 rfl ?_
        refine li_getr (k := 4) (N := 8) (T := TX10) (C0 := RX10) dX10_shorten_64 (by decide) sh_165 rfl rfl (by decide) (by decide) li_in10 w_356 ?_
        refine li_iconst 0 dX10_shorten_67 (by decide) ?_
        refine li_callN (n := 2) (As := [.ref (Z.2.2 170), .int 0]) dX10_shorten_68 (k_X11_at (d - 1) (by omega) (by decide) sh_170 (by decide) 0 M6) (by omega) (Nat.le_of_ble_eq_true rfl) nw_34 w_589 w_104 w_590 (by decide +kernel) rfl rfl (Nat.le_of_ble_eq_true rfl) (fun r M9 h10 => ?_)
        obtain ⟨⟨x8, rfl⟩, h10⟩ := h10
        have gx8 := tl_rg x8
        have hf := li_fr_trans hf h10 (fun i h => False.elim h)
        exact li_iret dX10_shorten_71 rfl rfl ⟨⟨_, rfl⟩, hf⟩
      · have tc7 : 0 ≤ x5.toInt := tl_nlt c7
        refine li_aload_n 1 dX10_shorten_17 rfl ?_
        refine li_getr (k := 4) (N := 8) (T := TX10) (C0 := RX10) dX10_shorten_18 (by decide) sh_165 rfl rfl (by decide) (by decide) li_in10 w_356 ?_
        refine li_iload_n 0 dX10_shorten_21 rfl ?_
        refine li_bipush 15 dX10_shorten_22 (by decide) ?_
        refine li_callN (n := 3) (As := [.ref (Z.2.2 170), .int x5, .int 15]) dX10_shorten_24 (k_X11_put (d - 1) (by omega) (by decide) sh_170 (by decide) x5 15 M6) (by omega) (Nat.le_of_ble_eq_true rfl) nw_12 w_542 w_104 w_543 (by decide +kernel) rfl rfl (Nat.le_of_ble_eq_true rfl) (fun r M12 h13 => ?_)
        obtain ⟨rfl, h13⟩ := h13
        have hf := li_fr_trans hf h13 (fun i (h : i = 170) => (show i = 170 ∨ i = 171 ∨ i = 172 by omega))
        refine li_iload_n 0 dX10_shorten_27 rfl ?_
        refine li_iconst 1 dX10_shorten_28 (by decide) ?_
        refine li_iadd dX10_shorten_29 ?_
        refine li_top (fun x14 ex14 => ?_)
        have tx14 : (-2147483648 ≤ x5.toInt + 1 ∧ x5.toInt + 1 ≤ 2147483647) → x14.toInt = x5.toInt + 1 := tl_add ex14
        refine li_istore_n [(3, .int x14), (2, .int x5), (0, .ref (Z.2.2 165)), (1, .int p1)] dX10_shorten_30 (by decide) rfl ?_
        have L31 : ∀ (n : Nat) (x15 : Int32) (M16 : li_M), (81 - (x15 : Int32).toInt).toNat < n → li_fr (fun i => i = 170 ∨ i = 171 ∨ i = 172) M0 M16 → li_T l Z YX10_shorten d 31 [(3, .int x15), (2, .int x5), (0, .ref (Z.2.2 165)), (1, .int p1)] [] M16 (li_SI (fun i => i = 170 ∨ i = 171 ∨ i = 172) M0) := by
          intro n
          induction n with
          | zero => intro x15 M16 hn; exact absurd hn (Nat.not_lt_zero _)
          | succ n ih31 =>
            intro x15 M16 hn hf
            have gx15 := tl_rg x15
            refine li_iload_n 0 dX10_shorten_31 rfl ?_
            refine li_iload_n 3 dX10_shorten_32 rfl ?_
            refine li_icmp_gt 57 dX10_shorten_33 (by decide) (fun c17 => ?_) (fun c17 => ?_)
            · have tc17 : p1.toInt < x15.toInt := tl_lt c17
              obtain ⟨x18, ex18⟩ : ∃ y : Int32, y = x5 + (-1) := ⟨_, rfl⟩
              have tx18 : (-2147483648 ≤ x5.toInt + (-1) ∧ x5.toInt + (-1) ≤ 2147483647) → x18.toInt = x5.toInt + (-1) := tl_add ex18
              refine li_iinc 1 [(2, .int x18), (3, .int x15), (0, .ref (Z.2.2 165)), (1, .int p1)] x18 dX10_shorten_57 rfl (by rw [ex18]; rfl) (by decide) rfl ?_
              refine li_goto 13 dX10_shorten_60 (by decide) ?_
              refine li_pick [0, 2, 3] [(2, .int x18), (0, .ref (Z.2.2 165)), (1, .int p1)] rfl ?_
              exact ih13 x18 M16 (by have h9 := li_dn1 c7; rw [← ex18] at h9; omega) hf
            · have tc17 : x15.toInt ≤ p1.toInt := tl_nlt c17
              refine li_aload_n 2 dX10_shorten_36 rfl ?_
              refine li_iload_n 1 dX10_shorten_37 rfl ?_
              refine li_iload_n 0 dX10_shorten_38 rfl ?_
              refine li_callV (n := 2) (As := [.int x5, .int x15]) dX10_shorten_39 (k_X10_mask (d - 1) (by omega) x5 x15 M16) (by omega) (Nat.le_of_ble_eq_true rfl) w_1178 w_1179 w_1180 w_112 w_1181 (by decide +kernel) rfl (by decide) sh_165 rfl rfl (Nat.le_of_ble_eq_true rfl) (fun r M20 h21 => ?_)
              obtain ⟨⟨x19, rfl⟩, h21⟩ := h21
              have gx19 := tl_rg x19
              have hf := li_fr_trans hf h21 (fun i h => False.elim h)
              have J51 : ∀  (M23 : li_M), li_fr (fun i => i = 170 ∨ i = 171 ∨ i = 172) M0 M23 → li_T l Z YX10_shorten d 51 [(3, .int x15), (2, .int x5), (0, .ref (Z.2.2 165)), (1, .int p1)] [] M23 (li_SI (fun i => i = 170 ∨ i = 171 ∨ i = 172) M0) := by
                intro  M23 hf
                obtain ⟨x24, ex24⟩ : ∃ y : Int32, y = x15 + 1 := ⟨_, rfl⟩
                have tx24 : (-2147483648 ≤ x15.toInt + 1 ∧ x15.toInt + 1 ≤ 2147483647) → x24.toInt = x15.toInt + 1 := tl_add ex24
                refine li_iinc 0 [(3, .int x24), (2, .int x5), (0, .ref (Z.2.2 165)), (1, .int p1)] x24 dX10_shorten_51 rfl (by rw [ex24]; rfl) (by decide) rfl ?_
                refine li_goto 31 dX10_shorten_54 (by decide) ?_
                refine li_pick [0, 1, 2, 3] [(3, .int x24), (2, .int x5), (0, .ref (Z.2.2 165)), (1, .int p1)] rfl ?_
                exact ih31 x24 M23 (by omega) hf
              refine li_if_eq 51 dX10_shorten_42 (by decide) (fun c22 => ?_) (fun c22 => ?_)
              · have tc22 : x19.toInt = 0 := tl_eq c22
                refine li_pick [0, 1, 2, 3] [(3, .int x15), (2, .int x5), (0, .ref (Z.2.2 165)), (1, .int p1)] rfl ?_
                exact J51  M20 hf
              · have tc22 : ¬ x19.toInt = 0 := tl_ne c22
                refine li_aload_n 2 dX10_shorten_45 rfl ?_
                refine li_iload_n 1 dX10_shorten_46 rfl ?_
                refine li_iload_n 0 dX10_shorten_47 rfl ?_
                refine li_callV (n := 2) (As := [.int x5, .int x15]) dX10_shorten_48 (k_X10_tryFirst (d - 1) (by omega) x5 x15 M20) (by omega) (Nat.le_of_ble_eq_true rfl) w_1187 w_1189 w_33 w_112 w_1190 (by decide +kernel) rfl (by decide) sh_165 rfl rfl (Nat.le_of_ble_eq_true rfl) (fun r M26 h27 => ?_)
                obtain ⟨rfl, h27⟩ := h27
                have hf := li_fr_trans hf h27 (fun i (h : i = 170 ∨ i = 171 ∨ i = 172) => (show i = 170 ∨ i = 171 ∨ i = 172 by omega))
                refine li_pick [0, 1, 2, 3] [(3, .int x15), (2, .int x5), (0, .ref (Z.2.2 165)), (1, .int p1)] rfl ?_
                exact J51  M26 hf
        exact L31 _ x14 M12 (Nat.lt_succ_self _) hf
  exact L13 _ x4 M2 (Nat.lt_succ_self _) hf
end
section
theorem w_600 : (Jvm.Cond.methodLink "ClockForTalk$Text" (30 : Nat) ({ cls := "java/lang/String", name := "length", desc := "()I" } : Jvm.MethodName)) ∈ li_ws := li_mem 600 (by decide +kernel) (by decide +kernel)
theorem w_601 : (Jvm.Cond.instanceMethod ({ cls := "java/lang/String", name := "length", desc := "()I" } : Jvm.MethodName)) ∈ li_ws := li_mem 601 (by decide +kernel) (by decide +kernel)
theorem w_602 : (Jvm.Cond.selects "java/lang/String" ({ cls := "java/lang/String", name := "length", desc := "()I" } : Jvm.MethodName) ({ cls := "java/lang/String", name := "length", desc := "()I" } : Jvm.MethodName)) ∈ li_ws := li_mem 602 (by decide +kernel) (by decide +kernel)
theorem w_603 : (Jvm.Cond.code ({ cls := "java/lang/String", name := "length", desc := "()I" } : Jvm.MethodName) prog_22_method_54_code (1 : Nat) (Option.some Jvm.ClassFile.FieldType.int)) ∈ li_ws := li_mem 603 (by decide +kernel) (by decide +kernel)
theorem w_610 : (Jvm.Cond.methodLink "ClockForTalk$Text" (35 : Nat) ({ cls := "java/lang/String", name := "charAt", desc := "(I)C" } : Jvm.MethodName)) ∈ li_ws := li_mem 610 (by decide +kernel) (by decide +kernel)
theorem w_611 : (Jvm.Cond.instanceMethod ({ cls := "java/lang/String", name := "charAt", desc := "(I)C" } : Jvm.MethodName)) ∈ li_ws := li_mem 611 (by decide +kernel) (by decide +kernel)
theorem w_612 : (Jvm.Cond.selects "java/lang/String" ({ cls := "java/lang/String", name := "charAt", desc := "(I)C" } : Jvm.MethodName) ({ cls := "java/lang/String", name := "charAt", desc := "(I)C" } : Jvm.MethodName)) ∈ li_ws := li_mem 612 (by decide +kernel) (by decide +kernel)
theorem w_613 : (Jvm.Cond.code ({ cls := "java/lang/String", name := "charAt", desc := "(I)C" } : Jvm.MethodName) prog_22_method_56_code (2 : Nat) (Option.some Jvm.ClassFile.FieldType.char)) ∈ li_ws := li_mem 613 (by decide +kernel) (by decide +kernel)
theorem w_648 : (Jvm.Cond.methodLink "ClockForTalk$Text" (39 : Nat) ({ cls := "ClockForTalk$Text", name := "skip", desc := "(I)Z" } : Jvm.MethodName)) ∈ li_ws := li_mem 648 (by decide +kernel) (by decide +kernel)
theorem dX7_takeAnyOf_0 : decode cX7_takeAnyOf 0 = .ok (.iconst 0, 1) := by decide +kernel
theorem dX7_takeAnyOf_1 : decode cX7_takeAnyOf 1 = .ok (.istore_n 2, 1) := by decide +kernel
theorem dX7_takeAnyOf_2 : decode cX7_takeAnyOf 2 = .ok (.iload_n 2, 1) := by decide +kernel
theorem dX7_takeAnyOf_3 : decode cX7_takeAnyOf 3 = .ok (.aload_n 1, 1) := by decide +kernel
theorem dX7_takeAnyOf_4 : decode cX7_takeAnyOf 4 = .ok (.invokevirtual 30, 3) := by decide +kernel
theorem dX7_takeAnyOf_7 : decode cX7_takeAnyOf 7 = .ok (.if_icmp .ge 23, 3) := by decide +kernel
theorem dX7_takeAnyOf_10 : decode cX7_takeAnyOf 10 = .ok (.aload_n 0, 1) := by decide +kernel
theorem dX7_takeAnyOf_11 : decode cX7_takeAnyOf 11 = .ok (.aload_n 1, 1) := by decide +kernel
theorem dX7_takeAnyOf_12 : decode cX7_takeAnyOf 12 = .ok (.iload_n 2, 1) := by decide +kernel
theorem dX7_takeAnyOf_13 : decode cX7_takeAnyOf 13 = .ok (.invokevirtual 35, 3) := by decide +kernel
theorem dX7_takeAnyOf_16 : decode cX7_takeAnyOf 16 = .ok (.invokevirtual 39, 3) := by decide +kernel
theorem dX7_takeAnyOf_19 : decode cX7_takeAnyOf 19 = .ok (.ifCond .eq 5, 3) := by decide +kernel
theorem dX7_takeAnyOf_22 : decode cX7_takeAnyOf 22 = .ok (.iload_n 2, 1) := by decide +kernel
theorem dX7_takeAnyOf_23 : decode cX7_takeAnyOf 23 = .ok (.ireturn, 1) := by decide +kernel
theorem dX7_takeAnyOf_24 : decode cX7_takeAnyOf 24 = .ok (.iinc 2 1, 3) := by decide +kernel
theorem dX7_takeAnyOf_27 : decode cX7_takeAnyOf 27 = .ok (.goto (-25), 3) := by decide +kernel
theorem dX7_takeAnyOf_30 : decode cX7_takeAnyOf 30 = .ok (.iconst (-1), 1) := by decide +kernel
theorem dX7_takeAnyOf_31 : decode cX7_takeAnyOf 31 = .ok (.ireturn, 1) := by decide +kernel
abbrev YX7_takeAnyOf : li_Y := (yX7_takeAnyOf, cX7_takeAnyOf, 3, (some .int))
set_option maxRecDepth 100000 in
set_option maxHeartbeats 4000000 in
theorem k_X7_takeAnyOf {l : Launch} {Z : li_Z} (d : Nat) (hd : 5 ≤ d) {s : Nat} (hs : s < 4) (M0 : li_M) : li_Met l Z YX7_takeAnyOf d [.ref (Z.2.2 1), .ref (Z.2.2 (2100 + s))] M0 (li_SI (fun i => i = 1) M0) := by
  refine li_enter (by decide +kernel) (Nat.le_of_ble_eq_true rfl) ?_
  show li_T l Z YX7_takeAnyOf d 0 [(0, .ref (Z.2.2 1)), (1, .ref (Z.2.2 (2100 + s)))] [] M0 _
  have hf : li_fr (fun i => i = 1) M0 M0 := li_fr_refl
  refine li_iconst 0 dX7_takeAnyOf_0 (by decide) ?_
  refine li_istore_n [(2, .int 0), (0, .ref (Z.2.2 1)), (1, .ref (Z.2.2 (2100 + s)))] dX7_takeAnyOf_1 (by decide) rfl ?_
  have L2 : ∀ (n : Nat) (x1 : Int32) (M2 : li_M), (2147483647 - (x1 : Int32).toInt).toNat < n → li_fr (fun i => i = 1) M0 M2 → 0 ≤ (x1 : Int32).toInt → li_T l Z YX7_takeAnyOf d 2 [(2, .int x1), (0, .ref (Z.2.2 1)), (1, .ref (Z.2.2 (2100 + s)))] [] M2 (li_SI (fun i => i = 1) M0) := by
    intro n
    induction n with
    | zero => intro x1 M2 hn; exact absurd hn (Nat.not_lt_zero _)
    | succ n ih2 =>
      intro x1 M2 hn hf hi
      have gx1 := tl_rg x1
      refine li_iload_n 0 dX7_takeAnyOf_2 rfl ?_
      refine li_aload_n 2 dX7_takeAnyOf_3 rfl ?_
      refine li_callT (n := 0) (As := []) hs dX7_takeAnyOf_4 (k_J0_length (d - 1) (by omega) hs M2) (by omega) (Nat.le_of_ble_eq_true rfl) rfl w_600 w_601 w_602 w_118 w_603 (by decide +kernel) rfl rfl (Nat.le_of_ble_eq_true rfl) (fun r M4 h5 => ?_)
      obtain ⟨⟨x3, rfl, qx3⟩, h5⟩ := h5
      have gx3 := tl_rg x3
      have hf := li_fr_trans hf h5 (fun i h => False.elim h)
      refine li_icmp_ge 30 dX7_takeAnyOf_7 (by decide) (fun c6 => ?_) (fun c6 => ?_)
      · have tc6 : x3.toInt ≤ x1.toInt := tl_le c6
        refine li_iconst (-1) dX7_takeAnyOf_30 (by decide) ?_
        exact li_iret dX7_takeAnyOf_31 rfl rfl ⟨⟨_, rfl⟩, hf⟩
      · have tc6 : x1.toInt < x3.toInt := tl_nle c6
        refine li_aload_n 1 dX7_takeAnyOf_10 rfl ?_
        refine li_aload_n 2 dX7_takeAnyOf_11 rfl ?_
        refine li_iload_n 0 dX7_takeAnyOf_12 rfl ?_
        refine li_callT (n := 1) (As := [.int x1]) hs dX7_takeAnyOf_13 (k_J0_charAt (d - 1) (by omega) hs x1 (by omega) (by omega) M4) (by omega) (Nat.le_of_ble_eq_true rfl) rfl w_610 w_611 w_612 w_118 w_613 (by decide +kernel) rfl rfl (Nat.le_of_ble_eq_true rfl) (fun r M8 h9 => ?_)
        obtain ⟨⟨x7, rfl⟩, h9⟩ := h9
        have gx7 := tl_rg x7
        have hf := li_fr_trans hf h9 (fun i h => False.elim h)
        refine li_callV (n := 1) (As := [.int x7]) dX7_takeAnyOf_16 (k_X7_skip (d - 1) (by omega) x7 M8) (by omega) (Nat.le_of_ble_eq_true rfl) w_648 w_585 w_586 w_105 w_587 (by decide +kernel) rfl (by decide) sh_1 rfl rfl (Nat.le_of_ble_eq_true rfl) (fun r M11 h12 => ?_)
        obtain ⟨⟨x10, rfl, bx10⟩, h12⟩ := h12
        have ux10 := tl_b bx10
        have hf := li_fr_trans hf h12 (fun i (h : i = 1) => (show i = 1 by omega))
        refine li_if_eq 24 dX7_takeAnyOf_19 (by decide) (fun c13 => ?_) (fun c13 => ?_)
        · have tc13 : x10.toInt = 0 := tl_eq c13
          obtain ⟨x14, ex14⟩ : ∃ y : Int32, y = x1 + 1 := ⟨_, rfl⟩
          have tx14 : (-2147483648 ≤ x1.toInt + 1 ∧ x1.toInt + 1 ≤ 2147483647) → x14.toInt = x1.toInt + 1 := tl_add ex14
          refine li_iinc 0 [(2, .int x14), (0, .ref (Z.2.2 1)), (1, .ref (Z.2.2 (2100 + s)))] x14 dX7_takeAnyOf_24 rfl (by rw [ex14]; rfl) (by decide) rfl ?_
          refine li_goto 2 dX7_takeAnyOf_27 (by decide) ?_
          refine li_pick [0, 1, 2] [(2, .int x14), (0, .ref (Z.2.2 1)), (1, .ref (Z.2.2 (2100 + s)))] rfl ?_
          exact ih2 x14 M11 (by omega) hf (by omega)
        · have tc13 : ¬ x10.toInt = 0 := tl_ne c13
          refine li_iload_n 0 dX7_takeAnyOf_22 rfl ?_
          exact li_iret dX7_takeAnyOf_23 rfl rfl ⟨⟨_, rfl⟩, hf⟩
  have z0 : (0 : Int32).toInt = 0 := rfl
  exact L2 _ 0 M0 (Nat.lt_succ_self _) hf (by omega)
end
section
theorem w_1 : (Jvm.Cond.selects "ClockForTalk$Rule" ({ cls := "ClockForTalk$Rule", name := "readExpression", desc := "(LClockForTalk$Text;I)Z" } : Jvm.MethodName) ({ cls := "ClockForTalk$Rule", name := "readExpression", desc := "(LClockForTalk$Text;I)Z" } : Jvm.MethodName)) ∈ li_ws := li_mem 1 (by decide +kernel) (by decide +kernel)
theorem w_2 : (Jvm.Cond.selects "ClockForTalk$Rule" ({ cls := "ClockForTalk$Rule", name := "readSum", desc := "(LClockForTalk$Text;I)Z" } : Jvm.MethodName) ({ cls := "ClockForTalk$Rule", name := "readSum", desc := "(LClockForTalk$Text;I)Z" } : Jvm.MethodName)) ∈ li_ws := li_mem 2 (by decide +kernel) (by decide +kernel)
theorem w_3 : (Jvm.Cond.selects "ClockForTalk$Rule" ({ cls := "ClockForTalk$Rule", name := "readProduct", desc := "(LClockForTalk$Text;I)Z" } : Jvm.MethodName) ({ cls := "ClockForTalk$Rule", name := "readProduct", desc := "(LClockForTalk$Text;I)Z" } : Jvm.MethodName)) ∈ li_ws := li_mem 3 (by decide +kernel) (by decide +kernel)
theorem w_4 : (Jvm.Cond.selects "ClockForTalk$Rule" ({ cls := "ClockForTalk$Rule", name := "readFactor", desc := "(LClockForTalk$Text;I)Z" } : Jvm.MethodName) ({ cls := "ClockForTalk$Rule", name := "readFactor", desc := "(LClockForTalk$Text;I)Z" } : Jvm.MethodName)) ∈ li_ws := li_mem 4 (by decide +kernel) (by decide +kernel)
theorem w_5 : (Jvm.Cond.selects "ClockForTalk$Rule" ({ cls := "ClockForTalk$Rule", name := "readAtom", desc := "(LClockForTalk$Text;I)Z" } : Jvm.MethodName) ({ cls := "ClockForTalk$Rule", name := "readAtom", desc := "(LClockForTalk$Text;I)Z" } : Jvm.MethodName)) ∈ li_ws := li_mem 5 (by decide +kernel) (by decide +kernel)
theorem w_6 : (Jvm.Cond.selects "ClockForTalk$Rule" ({ cls := "ClockForTalk$Rule", name := "add", desc := "(I)Z" } : Jvm.MethodName) ({ cls := "ClockForTalk$Rule", name := "add", desc := "(I)Z" } : Jvm.MethodName)) ∈ li_ws := li_mem 6 (by decide +kernel) (by decide +kernel)
theorem w_7 : (Jvm.Cond.selects "ClockForTalk$Rule" ({ cls := "ClockForTalk$Rule", name := "addSign", desc := "(Ljava/lang/String;I)Z" } : Jvm.MethodName) ({ cls := "ClockForTalk$Rule", name := "addSign", desc := "(Ljava/lang/String;I)Z" } : Jvm.MethodName)) ∈ li_ws := li_mem 7 (by decide +kernel) (by decide +kernel)
theorem w_110 : (Jvm.Cond.initialized "ClockForTalk$Rule") ∈ li_ws := li_mem 110 (by decide +kernel) (by decide +kernel)
theorem w_318 : (Jvm.Cond.fieldLink "ClockForTalk$Rule" (9 : Nat) "ClockForTalk$Rule" "steps" "[I") ∈ li_ws := li_mem 318 (by decide +kernel) (by decide +kernel)
theorem w_319 : (Jvm.Cond.fieldLink "ClockForTalk$Rule" (15 : Nat) "ClockForTalk$Rule" "stack" "[I") ∈ li_ws := li_mem 319 (by decide +kernel) (by decide +kernel)
theorem w_320 : (Jvm.Cond.fieldLink "ClockForTalk$Rule" (18 : Nat) "ClockForTalk$Rule" "given" "[I") ∈ li_ws := li_mem 320 (by decide +kernel) (by decide +kernel)
theorem w_322 : (Jvm.Cond.fieldLink "ClockForTalk$Rule" (21 : Nat) "ClockForTalk$Rule" "length" "I") ∈ li_ws := li_mem 322 (by decide +kernel) (by decide +kernel)
theorem w_564 : (Jvm.Cond.methodLink "ClockForTalk$Rule" (31 : Nat) ({ cls := "ClockForTalk$Text", name := "atEnd", desc := "()Z" } : Jvm.MethodName)) ∈ li_ws := li_mem 564 (by decide +kernel) (by decide +kernel)
theorem w_568 : (Jvm.Cond.methodLink "ClockForTalk$Rule" (37 : Nat) ({ cls := "ClockForTalk$Rule", name := "readExpression", desc := "(LClockForTalk$Text;I)Z" } : Jvm.MethodName)) ∈ li_ws := li_mem 568 (by decide +kernel) (by decide +kernel)
theorem w_570 : (Jvm.Cond.instanceMethod ({ cls := "ClockForTalk$Rule", name := "readExpression", desc := "(LClockForTalk$Text;I)Z" } : Jvm.MethodName)) ∈ li_ws := li_mem 570 (by decide +kernel) (by decide +kernel)
theorem w_571 : (Jvm.Cond.code ({ cls := "ClockForTalk$Rule", name := "readExpression", desc := "(LClockForTalk$Text;I)Z" } : Jvm.MethodName) prog_8_method_5_code (4 : Nat) (Option.some Jvm.ClassFile.FieldType.boolean)) ∈ li_ws := li_mem 571 (by decide +kernel) (by decide +kernel)
theorem w_572 : (Jvm.Cond.methodLink "ClockForTalk$Rule" (45 : Nat) ({ cls := "ClockForTalk$Rule", name := "readSum", desc := "(LClockForTalk$Text;I)Z" } : Jvm.MethodName)) ∈ li_ws := li_mem 572 (by decide +kernel) (by decide +kernel)
theorem w_574 : (Jvm.Cond.instanceMethod ({ cls := "ClockForTalk$Rule", name := "readSum", desc := "(LClockForTalk$Text;I)Z" } : Jvm.MethodName)) ∈ li_ws := li_mem 574 (by decide +kernel) (by decide +kernel)
theorem w_575 : (Jvm.Cond.code ({ cls := "ClockForTalk$Rule", name := "readSum", desc := "(LClockForTalk$Text;I)Z" } : Jvm.MethodName) prog_8_method_7_code (5 : Nat) (Option.some Jvm.ClassFile.FieldType.boolean)) ∈ li_ws := li_mem 575 (by decide +kernel) (by decide +kernel)
theorem w_576 : (Jvm.Cond.methodLink "ClockForTalk$Rule" (71 : Nat) ({ cls := "ClockForTalk$Rule", name := "readProduct", desc := "(LClockForTalk$Text;I)Z" } : Jvm.MethodName)) ∈ li_ws := li_mem 576 (by decide +kernel) (by decide +kernel)
theorem w_578 : (Jvm.Cond.instanceMethod ({ cls := "ClockForTalk$Rule", name := "readProduct", desc := "(LClockForTalk$Text;I)Z" } : Jvm.MethodName)) ∈ li_ws := li_mem 578 (by decide +kernel) (by decide +kernel)
theorem w_579 : (Jvm.Cond.code ({ cls := "ClockForTalk$Rule", name := "readProduct", desc := "(LClockForTalk$Text;I)Z" } : Jvm.MethodName) prog_8_method_8_code (5 : Nat) (Option.some Jvm.ClassFile.FieldType.boolean)) ∈ li_ws := li_mem 579 (by decide +kernel) (by decide +kernel)
theorem w_580 : (Jvm.Cond.methodLink "ClockForTalk$Rule" (76 : Nat) ({ cls := "ClockForTalk$Rule", name := "readFactor", desc := "(LClockForTalk$Text;I)Z" } : Jvm.MethodName)) ∈ li_ws := li_mem 580 (by decide +kernel) (by decide +kernel)
theorem w_582 : (Jvm.Cond.instanceMethod ({ cls := "ClockForTalk$Rule", name := "readFactor", desc := "(LClockForTalk$Text;I)Z" } : Jvm.MethodName)) ∈ li_ws := li_mem 582 (by decide +kernel) (by decide +kernel)
theorem w_583 : (Jvm.Cond.code ({ cls := "ClockForTalk$Rule", name := "readFactor", desc := "(LClockForTalk$Text;I)Z" } : Jvm.MethodName) prog_8_method_9_code (5 : Nat) (Option.some Jvm.ClassFile.FieldType.boolean)) ∈ li_ws := li_mem 583 (by decide +kernel) (by decide +kernel)
theorem w_584 : (Jvm.Cond.methodLink "ClockForTalk$Rule" (81 : Nat) ({ cls := "ClockForTalk$Text", name := "skip", desc := "(I)Z" } : Jvm.MethodName)) ∈ li_ws := li_mem 584 (by decide +kernel) (by decide +kernel)
theorem w_591 : (Jvm.Cond.methodLink "ClockForTalk$Rule" (84 : Nat) ({ cls := "ClockForTalk$Rule", name := "readAtom", desc := "(LClockForTalk$Text;I)Z" } : Jvm.MethodName)) ∈ li_ws := li_mem 591 (by decide +kernel) (by decide +kernel)
theorem w_593 : (Jvm.Cond.instanceMethod ({ cls := "ClockForTalk$Rule", name := "readAtom", desc := "(LClockForTalk$Text;I)Z" } : Jvm.MethodName)) ∈ li_ws := li_mem 593 (by decide +kernel) (by decide +kernel)
theorem w_594 : (Jvm.Cond.code ({ cls := "ClockForTalk$Rule", name := "readAtom", desc := "(LClockForTalk$Text;I)Z" } : Jvm.MethodName) prog_8_method_10_code (5 : Nat) (Option.some Jvm.ClassFile.FieldType.boolean)) ∈ li_ws := li_mem 594 (by decide +kernel) (by decide +kernel)
theorem w_596 : (Jvm.Cond.methodLink "ClockForTalk$Rule" (50 : Nat) ({ cls := "ClockForTalk$Text", name := "takeAnyOf", desc := "(Ljava/lang/String;)I" } : Jvm.MethodName)) ∈ li_ws := li_mem 596 (by decide +kernel) (by decide +kernel)
theorem w_597 : (Jvm.Cond.instanceMethod ({ cls := "ClockForTalk$Text", name := "takeAnyOf", desc := "(Ljava/lang/String;)I" } : Jvm.MethodName)) ∈ li_ws := li_mem 597 (by decide +kernel) (by decide +kernel)
theorem w_598 : (Jvm.Cond.selects "ClockForTalk$Text" ({ cls := "ClockForTalk$Text", name := "takeAnyOf", desc := "(Ljava/lang/String;)I" } : Jvm.MethodName) ({ cls := "ClockForTalk$Text", name := "takeAnyOf", desc := "(Ljava/lang/String;)I" } : Jvm.MethodName)) ∈ li_ws := li_mem 598 (by decide +kernel) (by decide +kernel)
theorem w_599 : (Jvm.Cond.code ({ cls := "ClockForTalk$Text", name := "takeAnyOf", desc := "(Ljava/lang/String;)I" } : Jvm.MethodName) prog_9_method_7_code (3 : Nat) (Option.some Jvm.ClassFile.FieldType.int)) ∈ li_ws := li_mem 599 (by decide +kernel) (by decide +kernel)
theorem w_649 : (Jvm.Cond.methodLink "ClockForTalk$Rule" (67 : Nat) ({ cls := "ClockForTalk$Rule", name := "add", desc := "(I)Z" } : Jvm.MethodName)) ∈ li_ws := li_mem 649 (by decide +kernel) (by decide +kernel)
theorem w_651 : (Jvm.Cond.instanceMethod ({ cls := "ClockForTalk$Rule", name := "add", desc := "(I)Z" } : Jvm.MethodName)) ∈ li_ws := li_mem 651 (by decide +kernel) (by decide +kernel)
theorem w_652 : (Jvm.Cond.code ({ cls := "ClockForTalk$Rule", name := "add", desc := "(I)Z" } : Jvm.MethodName) prog_8_method_4_code (2 : Nat) (Option.some Jvm.ClassFile.FieldType.boolean)) ∈ li_ws := li_mem 652 (by decide +kernel) (by decide +kernel)
theorem w_654 : (Jvm.Cond.methodLink "ClockForTalk$Rule" (89 : Nat) ({ cls := "ClockForTalk$Text", name := "takeNumber", desc := "(I)I" } : Jvm.MethodName)) ∈ li_ws := li_mem 654 (by decide +kernel) (by decide +kernel)
theorem w_665 : (Jvm.Cond.methodLink "ClockForTalk$Rule" (54 : Nat) ({ cls := "ClockForTalk$Rule", name := "addSign", desc := "(Ljava/lang/String;I)Z" } : Jvm.MethodName)) ∈ li_ws := li_mem 665 (by decide +kernel) (by decide +kernel)
theorem w_667 : (Jvm.Cond.instanceMethod ({ cls := "ClockForTalk$Rule", name := "addSign", desc := "(Ljava/lang/String;I)Z" } : Jvm.MethodName)) ∈ li_ws := li_mem 667 (by decide +kernel) (by decide +kernel)
theorem w_668 : (Jvm.Cond.code ({ cls := "ClockForTalk$Rule", name := "addSign", desc := "(Ljava/lang/String;I)Z" } : Jvm.MethodName) prog_8_method_6_code (3 : Nat) (Option.some Jvm.ClassFile.FieldType.boolean)) ∈ li_ws := li_mem 668 (by decide +kernel) (by decide +kernel)
theorem w_669 : (Jvm.Cond.methodLink "ClockForTalk$Rule" (58 : Nat) ({ cls := "java/lang/String", name := "length", desc := "()I" } : Jvm.MethodName)) ∈ li_ws := li_mem 669 (by decide +kernel) (by decide +kernel)
theorem w_670 : (Jvm.Cond.methodLink "ClockForTalk$Rule" (63 : Nat) ({ cls := "java/lang/String", name := "charAt", desc := "(I)C" } : Jvm.MethodName)) ∈ li_ws := li_mem 670 (by decide +kernel) (by decide +kernel)
theorem w_771 : (Jvm.Cond.methodLink "ClockForTalk$Rule" (25 : Nat) ({ cls := "java/lang/System", name := "arraycopy", desc := "(Ljava/lang/Object;ILjava/lang/Object;II)V" } : Jvm.MethodName)) ∈ li_ws := li_mem 771 (by decide +kernel) (by decide +kernel)
theorem w_852 : (Jvm.Cond.methodLink "ClockForTalk$Rule" (97 : Nat) ({ cls := "ClockForTalk$Rule", name := "usual", desc := "(II)I" } : Jvm.MethodName)) ∈ li_ws := li_mem 852 (by decide +kernel) (by decide +kernel)
theorem w_853 : (Jvm.Cond.static ({ cls := "ClockForTalk$Rule", name := "usual", desc := "(II)I" } : Jvm.MethodName)) ∈ li_ws := li_mem 853 (by decide +kernel) (by decide +kernel)
theorem w_854 : (Jvm.Cond.code ({ cls := "ClockForTalk$Rule", name := "usual", desc := "(II)I" } : Jvm.MethodName) prog_8_method_12_code (2 : Nat) (Option.some Jvm.ClassFile.FieldType.int)) ∈ li_ws := li_mem 854 (by decide +kernel) (by decide +kernel)
theorem w_855 : (Jvm.Cond.methodLink "ClockForTalk$Rule" (101 : Nat) ({ cls := "ClockForTalk$Rule", name := "reckon", desc := "(III)I" } : Jvm.MethodName)) ∈ li_ws := li_mem 855 (by decide +kernel) (by decide +kernel)
theorem w_856 : (Jvm.Cond.static ({ cls := "ClockForTalk$Rule", name := "reckon", desc := "(III)I" } : Jvm.MethodName)) ∈ li_ws := li_mem 856 (by decide +kernel) (by decide +kernel)
theorem w_857 : (Jvm.Cond.code ({ cls := "ClockForTalk$Rule", name := "reckon", desc := "(III)I" } : Jvm.MethodName) prog_8_method_13_code (3 : Nat) (Option.some Jvm.ClassFile.FieldType.int)) ∈ li_ws := li_mem 857 (by decide +kernel) (by decide +kernel)
theorem dX6_add_0 : decode cX6_add 0 = .ok (.aload_n 0, 1) := by decide +kernel
theorem dX6_add_1 : decode cX6_add 1 = .ok (.getfield 21, 3) := by decide +kernel
theorem dX6_add_4 : decode cX6_add 4 = .ok (.bipush 80, 2) := by decide +kernel
theorem dX6_add_6 : decode cX6_add 6 = .ok (.if_icmp .lt 5, 3) := by decide +kernel
theorem dX6_add_9 : decode cX6_add 9 = .ok (.iconst 0, 1) := by decide +kernel
theorem dX6_add_10 : decode cX6_add 10 = .ok (.ireturn, 1) := by decide +kernel
theorem dX6_add_11 : decode cX6_add 11 = .ok (.aload_n 0, 1) := by decide +kernel
theorem dX6_add_12 : decode cX6_add 12 = .ok (.getfield 9, 3) := by decide +kernel
theorem dX6_add_15 : decode cX6_add 15 = .ok (.aload_n 0, 1) := by decide +kernel
theorem dX6_add_16 : decode cX6_add 16 = .ok (.getfield 21, 3) := by decide +kernel
theorem dX6_add_19 : decode cX6_add 19 = .ok (.iload_n 1, 1) := by decide +kernel
theorem dX6_add_20 : decode cX6_add 20 = .ok (.invokestatic 41, 3) := by decide +kernel
theorem dX6_add_23 : decode cX6_add 23 = .ok (.aload_n 0, 1) := by decide +kernel
theorem dX6_add_24 : decode cX6_add 24 = .ok (.dup, 1) := by decide +kernel
theorem dX6_add_25 : decode cX6_add 25 = .ok (.getfield 21, 3) := by decide +kernel
theorem dX6_add_28 : decode cX6_add 28 = .ok (.iconst 1, 1) := by decide +kernel
theorem dX6_add_29 : decode cX6_add 29 = .ok (.iadd, 1) := by decide +kernel
theorem dX6_add_30 : decode cX6_add 30 = .ok (.putfield 21, 3) := by decide +kernel
theorem dX6_add_33 : decode cX6_add 33 = .ok (.iconst 1, 1) := by decide +kernel
theorem dX6_add_34 : decode cX6_add 34 = .ok (.ireturn, 1) := by decide +kernel
abbrev YX6_add : li_Y := (yX6_add, cX6_add, 2, (some .boolean))
theorem dX6_addSign_0 : decode cX6_addSign 0 = .ok (.iload_n 2, 1) := by decide +kernel
theorem dX6_addSign_1 : decode cX6_addSign 1 = .ok (.ifCond .lt 28, 3) := by decide +kernel
theorem dX6_addSign_4 : decode cX6_addSign 4 = .ok (.iload_n 2, 1) := by decide +kernel
theorem dX6_addSign_5 : decode cX6_addSign 5 = .ok (.aload_n 1, 1) := by decide +kernel
theorem dX6_addSign_6 : decode cX6_addSign 6 = .ok (.invokevirtual 58, 3) := by decide +kernel
theorem dX6_addSign_9 : decode cX6_addSign 9 = .ok (.if_icmp .ge 20, 3) := by decide +kernel
theorem dX6_addSign_12 : decode cX6_addSign 12 = .ok (.aload_n 0, 1) := by decide +kernel
theorem dX6_addSign_13 : decode cX6_addSign 13 = .ok (.aload_n 1, 1) := by decide +kernel
theorem dX6_addSign_14 : decode cX6_addSign 14 = .ok (.iload_n 2, 1) := by decide +kernel
theorem dX6_addSign_15 : decode cX6_addSign 15 = .ok (.invokevirtual 63, 3) := by decide +kernel
theorem dX6_addSign_18 : decode cX6_addSign 18 = .ok (.ineg, 1) := by decide +kernel
theorem dX6_addSign_19 : decode cX6_addSign 19 = .ok (.invokevirtual 67, 3) := by decide +kernel
theorem dX6_addSign_22 : decode cX6_addSign 22 = .ok (.ifCond .eq 7, 3) := by decide +kernel
theorem dX6_addSign_25 : decode cX6_addSign 25 = .ok (.iconst 1, 1) := by decide +kernel
theorem dX6_addSign_26 : decode cX6_addSign 26 = .ok (.goto 4, 3) := by decide +kernel
theorem dX6_addSign_29 : decode cX6_addSign 29 = .ok (.iconst 0, 1) := by decide +kernel
theorem dX6_addSign_30 : decode cX6_addSign 30 = .ok (.ireturn, 1) := by decide +kernel
abbrev YX6_addSign : li_Y := (yX6_addSign, cX6_addSign, 3, (some .boolean))
theorem dX6_readAtom_0 : decode cX6_readAtom 0 = .ok (.iload_n 2, 1) := by decide +kernel
theorem dX6_readAtom_1 : decode cX6_readAtom 1 = .ok (.iconst 4, 1) := by decide +kernel
theorem dX6_readAtom_2 : decode cX6_readAtom 2 = .ok (.if_icmp .ge 38, 3) := by decide +kernel
theorem dX6_readAtom_5 : decode cX6_readAtom 5 = .ok (.aload_n 1, 1) := by decide +kernel
theorem dX6_readAtom_6 : decode cX6_readAtom 6 = .ok (.bipush 40, 2) := by decide +kernel
theorem dX6_readAtom_8 : decode cX6_readAtom 8 = .ok (.invokevirtual 81, 3) := by decide +kernel
theorem dX6_readAtom_11 : decode cX6_readAtom 11 = .ok (.ifCond .eq 29, 3) := by decide +kernel
theorem dX6_readAtom_14 : decode cX6_readAtom 14 = .ok (.aload_n 0, 1) := by decide +kernel
theorem dX6_readAtom_15 : decode cX6_readAtom 15 = .ok (.aload_n 1, 1) := by decide +kernel
theorem dX6_readAtom_16 : decode cX6_readAtom 16 = .ok (.iload_n 2, 1) := by decide +kernel
theorem dX6_readAtom_17 : decode cX6_readAtom 17 = .ok (.iconst 1, 1) := by decide +kernel
theorem dX6_readAtom_18 : decode cX6_readAtom 18 = .ok (.iadd, 1) := by decide +kernel
theorem dX6_readAtom_19 : decode cX6_readAtom 19 = .ok (.invokevirtual 37, 3) := by decide +kernel
theorem dX6_readAtom_22 : decode cX6_readAtom 22 = .ok (.ifCond .eq 16, 3) := by decide +kernel
theorem dX6_readAtom_25 : decode cX6_readAtom 25 = .ok (.aload_n 1, 1) := by decide +kernel
theorem dX6_readAtom_26 : decode cX6_readAtom 26 = .ok (.bipush 41, 2) := by decide +kernel
theorem dX6_readAtom_28 : decode cX6_readAtom 28 = .ok (.invokevirtual 81, 3) := by decide +kernel
theorem dX6_readAtom_31 : decode cX6_readAtom 31 = .ok (.ifCond .eq 7, 3) := by decide +kernel
theorem dX6_readAtom_34 : decode cX6_readAtom 34 = .ok (.iconst 1, 1) := by decide +kernel
theorem dX6_readAtom_35 : decode cX6_readAtom 35 = .ok (.goto 4, 3) := by decide +kernel
theorem dX6_readAtom_38 : decode cX6_readAtom 38 = .ok (.iconst 0, 1) := by decide +kernel
theorem dX6_readAtom_39 : decode cX6_readAtom 39 = .ok (.ireturn, 1) := by decide +kernel
theorem dX6_readAtom_40 : decode cX6_readAtom 40 = .ok (.aload_n 1, 1) := by decide +kernel
theorem dX6_readAtom_41 : decode cX6_readAtom 41 = .ok (.ldc 87, 2) := by decide +kernel
theorem dX6_readAtom_43 : decode cX6_readAtom 43 = .ok (.invokevirtual 50, 3) := by decide +kernel
theorem dX6_readAtom_46 : decode cX6_readAtom 46 = .ok (.istore_n 3, 1) := by decide +kernel
theorem dX6_readAtom_47 : decode cX6_readAtom 47 = .ok (.iload_n 3, 1) := by decide +kernel
theorem dX6_readAtom_48 : decode cX6_readAtom 48 = .ok (.ifCond .lt 13, 3) := by decide +kernel
theorem dX6_readAtom_51 : decode cX6_readAtom 51 = .ok (.aload_n 0, 1) := by decide +kernel
theorem dX6_readAtom_52 : decode cX6_readAtom 52 = .ok (.sipush 1000, 3) := by decide +kernel
theorem dX6_readAtom_55 : decode cX6_readAtom 55 = .ok (.iload_n 3, 1) := by decide +kernel
theorem dX6_readAtom_56 : decode cX6_readAtom 56 = .ok (.iadd, 1) := by decide +kernel
theorem dX6_readAtom_57 : decode cX6_readAtom 57 = .ok (.invokevirtual 67, 3) := by decide +kernel
theorem dX6_readAtom_60 : decode cX6_readAtom 60 = .ok (.ireturn, 1) := by decide +kernel
theorem dX6_readAtom_61 : decode cX6_readAtom 61 = .ok (.aload_n 1, 1) := by decide +kernel
theorem dX6_readAtom_62 : decode cX6_readAtom 62 = .ok (.iconst 3, 1) := by decide +kernel
theorem dX6_readAtom_63 : decode cX6_readAtom 63 = .ok (.invokevirtual 89, 3) := by decide +kernel
theorem dX6_readAtom_66 : decode cX6_readAtom 66 = .ok (.istore 4, 2) := by decide +kernel
theorem dX6_readAtom_68 : decode cX6_readAtom 68 = .ok (.iload 4, 2) := by decide +kernel
theorem dX6_readAtom_70 : decode cX6_readAtom 70 = .ok (.ifCond .lt 16, 3) := by decide +kernel
theorem dX6_readAtom_73 : decode cX6_readAtom 73 = .ok (.aload_n 0, 1) := by decide +kernel
theorem dX6_readAtom_74 : decode cX6_readAtom 74 = .ok (.iload 4, 2) := by decide +kernel
theorem dX6_readAtom_76 : decode cX6_readAtom 76 = .ok (.invokevirtual 67, 3) := by decide +kernel
theorem dX6_readAtom_79 : decode cX6_readAtom 79 = .ok (.ifCond .eq 7, 3) := by decide +kernel
theorem dX6_readAtom_82 : decode cX6_readAtom 82 = .ok (.iconst 1, 1) := by decide +kernel
theorem dX6_readAtom_83 : decode cX6_readAtom 83 = .ok (.goto 4, 3) := by decide +kernel
theorem dX6_readAtom_86 : decode cX6_readAtom 86 = .ok (.iconst 0, 1) := by decide +kernel
theorem dX6_readAtom_87 : decode cX6_readAtom 87 = .ok (.ireturn, 1) := by decide +kernel
abbrev YX6_readAtom : li_Y := (yX6_readAtom, cX6_readAtom, 5, (some .boolean))
theorem dX6_readFactor_0 : decode cX6_readFactor 0 = .ok (.iconst 0, 1) := by decide +kernel
theorem dX6_readFactor_1 : decode cX6_readFactor 1 = .ok (.istore_n 3, 1) := by decide +kernel
theorem dX6_readFactor_2 : decode cX6_readFactor 2 = .ok (.iconst 0, 1) := by decide +kernel
theorem dX6_readFactor_3 : decode cX6_readFactor 3 = .ok (.istore 4, 2) := by decide +kernel
theorem dX6_readFactor_5 : decode cX6_readFactor 5 = .ok (.iload 4, 2) := by decide +kernel
theorem dX6_readFactor_7 : decode cX6_readFactor 7 = .ok (.bipush 80, 2) := by decide +kernel
theorem dX6_readFactor_9 : decode cX6_readFactor 9 = .ok (.if_icmp .ge 28, 3) := by decide +kernel
theorem dX6_readFactor_12 : decode cX6_readFactor 12 = .ok (.aload_n 1, 1) := by decide +kernel
theorem dX6_readFactor_13 : decode cX6_readFactor 13 = .ok (.bipush 45, 2) := by decide +kernel
theorem dX6_readFactor_15 : decode cX6_readFactor 15 = .ok (.invokevirtual 81, 3) := by decide +kernel
theorem dX6_readFactor_18 : decode cX6_readFactor 18 = .ok (.ifCond .eq 19, 3) := by decide +kernel
theorem dX6_readFactor_21 : decode cX6_readFactor 21 = .ok (.iload_n 3, 1) := by decide +kernel
theorem dX6_readFactor_22 : decode cX6_readFactor 22 = .ok (.ifCond .ne 7, 3) := by decide +kernel
theorem dX6_readFactor_25 : decode cX6_readFactor 25 = .ok (.iconst 1, 1) := by decide +kernel
theorem dX6_readFactor_26 : decode cX6_readFactor 26 = .ok (.goto 4, 3) := by decide +kernel
theorem dX6_readFactor_29 : decode cX6_readFactor 29 = .ok (.iconst 0, 1) := by decide +kernel
theorem dX6_readFactor_30 : decode cX6_readFactor 30 = .ok (.istore_n 3, 1) := by decide +kernel
theorem dX6_readFactor_31 : decode cX6_readFactor 31 = .ok (.iinc 4 1, 3) := by decide +kernel
theorem dX6_readFactor_34 : decode cX6_readFactor 34 = .ok (.goto (-29), 3) := by decide +kernel
theorem dX6_readFactor_37 : decode cX6_readFactor 37 = .ok (.aload_n 0, 1) := by decide +kernel
theorem dX6_readFactor_38 : decode cX6_readFactor 38 = .ok (.aload_n 1, 1) := by decide +kernel
theorem dX6_readFactor_39 : decode cX6_readFactor 39 = .ok (.iload_n 2, 1) := by decide +kernel
theorem dX6_readFactor_40 : decode cX6_readFactor 40 = .ok (.invokevirtual 84, 3) := by decide +kernel
theorem dX6_readFactor_43 : decode cX6_readFactor 43 = .ok (.ifCond .eq 20, 3) := by decide +kernel
theorem dX6_readFactor_46 : decode cX6_readFactor 46 = .ok (.iload_n 3, 1) := by decide +kernel
theorem dX6_readFactor_47 : decode cX6_readFactor 47 = .ok (.ifCond .eq 12, 3) := by decide +kernel
theorem dX6_readFactor_50 : decode cX6_readFactor 50 = .ok (.aload_n 0, 1) := by decide +kernel
theorem dX6_readFactor_51 : decode cX6_readFactor 51 = .ok (.bipush (-126), 2) := by decide +kernel
theorem dX6_readFactor_53 : decode cX6_readFactor 53 = .ok (.invokevirtual 67, 3) := by decide +kernel
theorem dX6_readFactor_56 : decode cX6_readFactor 56 = .ok (.ifCond .eq 7, 3) := by decide +kernel
theorem dX6_readFactor_59 : decode cX6_readFactor 59 = .ok (.iconst 1, 1) := by decide +kernel
theorem dX6_readFactor_60 : decode cX6_readFactor 60 = .ok (.goto 4, 3) := by decide +kernel
theorem dX6_readFactor_63 : decode cX6_readFactor 63 = .ok (.iconst 0, 1) := by decide +kernel
theorem dX6_readFactor_64 : decode cX6_readFactor 64 = .ok (.ireturn, 1) := by decide +kernel
abbrev YX6_readFactor : li_Y := (yX6_readFactor, cX6_readFactor, 5, (some .boolean))
theorem dX6_readProduct_0 : decode cX6_readProduct 0 = .ok (.aload_n 0, 1) := by decide +kernel
theorem dX6_readProduct_1 : decode cX6_readProduct 1 = .ok (.aload_n 1, 1) := by decide +kernel
theorem dX6_readProduct_2 : decode cX6_readProduct 2 = .ok (.iload_n 2, 1) := by decide +kernel
theorem dX6_readProduct_3 : decode cX6_readProduct 3 = .ok (.invokevirtual 76, 3) := by decide +kernel
theorem dX6_readProduct_6 : decode cX6_readProduct 6 = .ok (.ifCond .ne 5, 3) := by decide +kernel
theorem dX6_readProduct_9 : decode cX6_readProduct 9 = .ok (.iconst 0, 1) := by decide +kernel
theorem dX6_readProduct_10 : decode cX6_readProduct 10 = .ok (.ireturn, 1) := by decide +kernel
theorem dX6_readProduct_11 : decode cX6_readProduct 11 = .ok (.iconst 0, 1) := by decide +kernel
theorem dX6_readProduct_12 : decode cX6_readProduct 12 = .ok (.istore_n 3, 1) := by decide +kernel
theorem dX6_readProduct_13 : decode cX6_readProduct 13 = .ok (.iload_n 3, 1) := by decide +kernel
theorem dX6_readProduct_14 : decode cX6_readProduct 14 = .ok (.bipush 80, 2) := by decide +kernel
theorem dX6_readProduct_16 : decode cX6_readProduct 16 = .ok (.if_icmp .ge 46, 3) := by decide +kernel
theorem dX6_readProduct_19 : decode cX6_readProduct 19 = .ok (.aload_n 1, 1) := by decide +kernel
theorem dX6_readProduct_20 : decode cX6_readProduct 20 = .ok (.ldc 79, 2) := by decide +kernel
theorem dX6_readProduct_22 : decode cX6_readProduct 22 = .ok (.invokevirtual 50, 3) := by decide +kernel
theorem dX6_readProduct_25 : decode cX6_readProduct 25 = .ok (.istore 4, 2) := by decide +kernel
theorem dX6_readProduct_27 : decode cX6_readProduct 27 = .ok (.iload 4, 2) := by decide +kernel
theorem dX6_readProduct_29 : decode cX6_readProduct 29 = .ok (.ifCond .ge 5, 3) := by decide +kernel
theorem dX6_readProduct_32 : decode cX6_readProduct 32 = .ok (.iconst 1, 1) := by decide +kernel
theorem dX6_readProduct_33 : decode cX6_readProduct 33 = .ok (.ireturn, 1) := by decide +kernel
theorem dX6_readProduct_34 : decode cX6_readProduct 34 = .ok (.aload_n 0, 1) := by decide +kernel
theorem dX6_readProduct_35 : decode cX6_readProduct 35 = .ok (.aload_n 1, 1) := by decide +kernel
theorem dX6_readProduct_36 : decode cX6_readProduct 36 = .ok (.iload_n 2, 1) := by decide +kernel
theorem dX6_readProduct_37 : decode cX6_readProduct 37 = .ok (.invokevirtual 76, 3) := by decide +kernel
theorem dX6_readProduct_40 : decode cX6_readProduct 40 = .ok (.ifCond .eq 14, 3) := by decide +kernel
theorem dX6_readProduct_43 : decode cX6_readProduct 43 = .ok (.aload_n 0, 1) := by decide +kernel
theorem dX6_readProduct_44 : decode cX6_readProduct 44 = .ok (.ldc 79, 2) := by decide +kernel
theorem dX6_readProduct_46 : decode cX6_readProduct 46 = .ok (.iload 4, 2) := by decide +kernel
theorem dX6_readProduct_48 : decode cX6_readProduct 48 = .ok (.invokevirtual 54, 3) := by decide +kernel
theorem dX6_readProduct_51 : decode cX6_readProduct 51 = .ok (.ifCond .ne 5, 3) := by decide +kernel
theorem dX6_readProduct_54 : decode cX6_readProduct 54 = .ok (.iconst 0, 1) := by decide +kernel
theorem dX6_readProduct_55 : decode cX6_readProduct 55 = .ok (.ireturn, 1) := by decide +kernel
theorem dX6_readProduct_56 : decode cX6_readProduct 56 = .ok (.iinc 3 1, 3) := by decide +kernel
theorem dX6_readProduct_59 : decode cX6_readProduct 59 = .ok (.goto (-46), 3) := by decide +kernel
theorem dX6_readProduct_62 : decode cX6_readProduct 62 = .ok (.iconst 1, 1) := by decide +kernel
theorem dX6_readProduct_63 : decode cX6_readProduct 63 = .ok (.ireturn, 1) := by decide +kernel
abbrev YX6_readProduct : li_Y := (yX6_readProduct, cX6_readProduct, 5, (some .boolean))
theorem dX6_readSum_0 : decode cX6_readSum 0 = .ok (.aload_n 0, 1) := by decide +kernel
theorem dX6_readSum_1 : decode cX6_readSum 1 = .ok (.aload_n 1, 1) := by decide +kernel
theorem dX6_readSum_2 : decode cX6_readSum 2 = .ok (.iload_n 2, 1) := by decide +kernel
theorem dX6_readSum_3 : decode cX6_readSum 3 = .ok (.invokevirtual 71, 3) := by decide +kernel
theorem dX6_readSum_6 : decode cX6_readSum 6 = .ok (.ifCond .ne 5, 3) := by decide +kernel
theorem dX6_readSum_9 : decode cX6_readSum 9 = .ok (.iconst 0, 1) := by decide +kernel
theorem dX6_readSum_10 : decode cX6_readSum 10 = .ok (.ireturn, 1) := by decide +kernel
theorem dX6_readSum_11 : decode cX6_readSum 11 = .ok (.iconst 0, 1) := by decide +kernel
theorem dX6_readSum_12 : decode cX6_readSum 12 = .ok (.istore_n 3, 1) := by decide +kernel
theorem dX6_readSum_13 : decode cX6_readSum 13 = .ok (.iload_n 3, 1) := by decide +kernel
theorem dX6_readSum_14 : decode cX6_readSum 14 = .ok (.bipush 80, 2) := by decide +kernel
theorem dX6_readSum_16 : decode cX6_readSum 16 = .ok (.if_icmp .ge 46, 3) := by decide +kernel
theorem dX6_readSum_19 : decode cX6_readSum 19 = .ok (.aload_n 1, 1) := by decide +kernel
theorem dX6_readSum_20 : decode cX6_readSum 20 = .ok (.ldc 74, 2) := by decide +kernel
theorem dX6_readSum_22 : decode cX6_readSum 22 = .ok (.invokevirtual 50, 3) := by decide +kernel
theorem dX6_readSum_25 : decode cX6_readSum 25 = .ok (.istore 4, 2) := by decide +kernel
theorem dX6_readSum_27 : decode cX6_readSum 27 = .ok (.iload 4, 2) := by decide +kernel
theorem dX6_readSum_29 : decode cX6_readSum 29 = .ok (.ifCond .ge 5, 3) := by decide +kernel
theorem dX6_readSum_32 : decode cX6_readSum 32 = .ok (.iconst 1, 1) := by decide +kernel
theorem dX6_readSum_33 : decode cX6_readSum 33 = .ok (.ireturn, 1) := by decide +kernel
theorem dX6_readSum_34 : decode cX6_readSum 34 = .ok (.aload_n 0, 1) := by decide +kernel
theorem dX6_readSum_35 : decode cX6_readSum 35 = .ok (.aload_n 1, 1) := by decide +kernel
theorem dX6_readSum_36 : decode cX6_readSum 36 = .ok (.iload_n 2, 1) := by decide +kernel
theorem dX6_readSum_37 : decode cX6_readSum 37 = .ok (.invokevirtual 71, 3) := by decide +kernel
theorem dX6_readSum_40 : decode cX6_readSum 40 = .ok (.ifCond .eq 14, 3) := by decide +kernel
theorem dX6_readSum_43 : decode cX6_readSum 43 = .ok (.aload_n 0, 1) := by decide +kernel
theorem dX6_readSum_44 : decode cX6_readSum 44 = .ok (.ldc 74, 2) := by decide +kernel
theorem dX6_readSum_46 : decode cX6_readSum 46 = .ok (.iload 4, 2) := by decide +kernel
theorem dX6_readSum_48 : decode cX6_readSum 48 = .ok (.invokevirtual 54, 3) := by decide +kernel
theorem dX6_readSum_51 : decode cX6_readSum 51 = .ok (.ifCond .ne 5, 3) := by decide +kernel
theorem dX6_readSum_54 : decode cX6_readSum 54 = .ok (.iconst 0, 1) := by decide +kernel
theorem dX6_readSum_55 : decode cX6_readSum 55 = .ok (.ireturn, 1) := by decide +kernel
theorem dX6_readSum_56 : decode cX6_readSum 56 = .ok (.iinc 3 1, 3) := by decide +kernel
theorem dX6_readSum_59 : decode cX6_readSum 59 = .ok (.goto (-46), 3) := by decide +kernel
theorem dX6_readSum_62 : decode cX6_readSum 62 = .ok (.iconst 1, 1) := by decide +kernel
theorem dX6_readSum_63 : decode cX6_readSum 63 = .ok (.ireturn, 1) := by decide +kernel
abbrev YX6_readSum : li_Y := (yX6_readSum, cX6_readSum, 5, (some .boolean))
theorem dX6_readExpression_0 : decode cX6_readExpression 0 = .ok (.iload_n 2, 1) := by decide +kernel
theorem dX6_readExpression_1 : decode cX6_readExpression 1 = .ok (.iconst 4, 1) := by decide +kernel
theorem dX6_readExpression_2 : decode cX6_readExpression 2 = .ok (.if_icmp .gt 12, 3) := by decide +kernel
theorem dX6_readExpression_5 : decode cX6_readExpression 5 = .ok (.aload_n 0, 1) := by decide +kernel
theorem dX6_readExpression_6 : decode cX6_readExpression 6 = .ok (.aload_n 1, 1) := by decide +kernel
theorem dX6_readExpression_7 : decode cX6_readExpression 7 = .ok (.iload_n 2, 1) := by decide +kernel
theorem dX6_readExpression_8 : decode cX6_readExpression 8 = .ok (.invokevirtual 45, 3) := by decide +kernel
theorem dX6_readExpression_11 : decode cX6_readExpression 11 = .ok (.ifCond .ne 5, 3) := by decide +kernel
theorem dX6_readExpression_14 : decode cX6_readExpression 14 = .ok (.iconst 0, 1) := by decide +kernel
theorem dX6_readExpression_15 : decode cX6_readExpression 15 = .ok (.ireturn, 1) := by decide +kernel
theorem dX6_readExpression_16 : decode cX6_readExpression 16 = .ok (.aload_n 1, 1) := by decide +kernel
theorem dX6_readExpression_17 : decode cX6_readExpression 17 = .ok (.ldc 48, 2) := by decide +kernel
theorem dX6_readExpression_19 : decode cX6_readExpression 19 = .ok (.invokevirtual 50, 3) := by decide +kernel
theorem dX6_readExpression_22 : decode cX6_readExpression 22 = .ok (.istore_n 3, 1) := by decide +kernel
theorem dX6_readExpression_23 : decode cX6_readExpression 23 = .ok (.iload_n 3, 1) := by decide +kernel
theorem dX6_readExpression_24 : decode cX6_readExpression 24 = .ok (.ifCond .lt 22, 3) := by decide +kernel
theorem dX6_readExpression_27 : decode cX6_readExpression 27 = .ok (.aload_n 0, 1) := by decide +kernel
theorem dX6_readExpression_28 : decode cX6_readExpression 28 = .ok (.aload_n 1, 1) := by decide +kernel
theorem dX6_readExpression_29 : decode cX6_readExpression 29 = .ok (.iload_n 2, 1) := by decide +kernel
theorem dX6_readExpression_30 : decode cX6_readExpression 30 = .ok (.invokevirtual 45, 3) := by decide +kernel
theorem dX6_readExpression_33 : decode cX6_readExpression 33 = .ok (.ifCond .eq 17, 3) := by decide +kernel
theorem dX6_readExpression_36 : decode cX6_readExpression 36 = .ok (.aload_n 0, 1) := by decide +kernel
theorem dX6_readExpression_37 : decode cX6_readExpression 37 = .ok (.ldc 48, 2) := by decide +kernel
theorem dX6_readExpression_39 : decode cX6_readExpression 39 = .ok (.iload_n 3, 1) := by decide +kernel
theorem dX6_readExpression_40 : decode cX6_readExpression 40 = .ok (.invokevirtual 54, 3) := by decide +kernel
theorem dX6_readExpression_43 : decode cX6_readExpression 43 = .ok (.ifCond .eq 7, 3) := by decide +kernel
theorem dX6_readExpression_46 : decode cX6_readExpression 46 = .ok (.iconst 1, 1) := by decide +kernel
theorem dX6_readExpression_47 : decode cX6_readExpression 47 = .ok (.goto 4, 3) := by decide +kernel
theorem dX6_readExpression_50 : decode cX6_readExpression 50 = .ok (.iconst 0, 1) := by decide +kernel
theorem dX6_readExpression_51 : decode cX6_readExpression 51 = .ok (.ireturn, 1) := by decide +kernel
abbrev YX6_readExpression : li_Y := (yX6_readExpression, cX6_readExpression, 4, (some .boolean))
theorem dX6_readAll_0 : decode cX6_readAll 0 = .ok (.aload_n 0, 1) := by decide +kernel
theorem dX6_readAll_1 : decode cX6_readAll 1 = .ok (.iconst 0, 1) := by decide +kernel
theorem dX6_readAll_2 : decode cX6_readAll 2 = .ok (.putfield 21, 3) := by decide +kernel
theorem dX6_readAll_5 : decode cX6_readAll 5 = .ok (.aload_n 1, 1) := by decide +kernel
theorem dX6_readAll_6 : decode cX6_readAll 6 = .ok (.invokevirtual 31, 3) := by decide +kernel
theorem dX6_readAll_9 : decode cX6_readAll 9 = .ok (.ifCond .ne 19, 3) := by decide +kernel
theorem dX6_readAll_12 : decode cX6_readAll 12 = .ok (.aload_n 0, 1) := by decide +kernel
theorem dX6_readAll_13 : decode cX6_readAll 13 = .ok (.aload_n 1, 1) := by decide +kernel
theorem dX6_readAll_14 : decode cX6_readAll 14 = .ok (.iconst 0, 1) := by decide +kernel
theorem dX6_readAll_15 : decode cX6_readAll 15 = .ok (.invokevirtual 37, 3) := by decide +kernel
theorem dX6_readAll_18 : decode cX6_readAll 18 = .ok (.ifCond .eq 14, 3) := by decide +kernel
theorem dX6_readAll_21 : decode cX6_readAll 21 = .ok (.aload_n 1, 1) := by decide +kernel
theorem dX6_readAll_22 : decode cX6_readAll 22 = .ok (.invokevirtual 31, 3) := by decide +kernel
theorem dX6_readAll_25 : decode cX6_readAll 25 = .ok (.ifCond .eq 7, 3) := by decide +kernel
theorem dX6_readAll_28 : decode cX6_readAll 28 = .ok (.iconst 1, 1) := by decide +kernel
theorem dX6_readAll_29 : decode cX6_readAll 29 = .ok (.goto 4, 3) := by decide +kernel
theorem dX6_readAll_32 : decode cX6_readAll 32 = .ok (.iconst 0, 1) := by decide +kernel
theorem dX6_readAll_33 : decode cX6_readAll 33 = .ok (.ireturn, 1) := by decide +kernel
abbrev YX6_readAll : li_Y := (yX6_readAll, cX6_readAll, 2, (some .boolean))
theorem dX6_copyFrom_0 : decode cX6_copyFrom 0 = .ok (.aload_n 0, 1) := by decide +kernel
theorem dX6_copyFrom_1 : decode cX6_copyFrom 1 = .ok (.aload_n 1, 1) := by decide +kernel
theorem dX6_copyFrom_2 : decode cX6_copyFrom 2 = .ok (.getfield 21, 3) := by decide +kernel
theorem dX6_copyFrom_5 : decode cX6_copyFrom 5 = .ok (.putfield 21, 3) := by decide +kernel
theorem dX6_copyFrom_8 : decode cX6_copyFrom 8 = .ok (.aload_n 1, 1) := by decide +kernel
theorem dX6_copyFrom_9 : decode cX6_copyFrom 9 = .ok (.getfield 9, 3) := by decide +kernel
theorem dX6_copyFrom_12 : decode cX6_copyFrom 12 = .ok (.iconst 0, 1) := by decide +kernel
theorem dX6_copyFrom_13 : decode cX6_copyFrom 13 = .ok (.aload_n 0, 1) := by decide +kernel
theorem dX6_copyFrom_14 : decode cX6_copyFrom 14 = .ok (.getfield 9, 3) := by decide +kernel
theorem dX6_copyFrom_17 : decode cX6_copyFrom 17 = .ok (.iconst 0, 1) := by decide +kernel
theorem dX6_copyFrom_18 : decode cX6_copyFrom 18 = .ok (.bipush 80, 2) := by decide +kernel
theorem dX6_copyFrom_20 : decode cX6_copyFrom 20 = .ok (.invokestatic 25, 3) := by decide +kernel
theorem dX6_copyFrom_23 : decode cX6_copyFrom 23 = .ok (.return_, 1) := by decide +kernel
abbrev YX6_copyFrom : li_Y := (yX6_copyFrom, cX6_copyFrom, 2, none)
theorem dX6_evaluate_0 : decode cX6_evaluate 0 = .ok (.aload_n 0, 1) := by decide +kernel
theorem dX6_evaluate_1 : decode cX6_evaluate 1 = .ok (.getfield 21, 3) := by decide +kernel
theorem dX6_evaluate_4 : decode cX6_evaluate 4 = .ok (.ifCond .ne 23, 3) := by decide +kernel
theorem dX6_evaluate_7 : decode cX6_evaluate 7 = .ok (.aload_n 0, 1) := by decide +kernel
theorem dX6_evaluate_8 : decode cX6_evaluate 8 = .ok (.getfield 18, 3) := by decide +kernel
theorem dX6_evaluate_11 : decode cX6_evaluate 11 = .ok (.iconst 0, 1) := by decide +kernel
theorem dX6_evaluate_12 : decode cX6_evaluate 12 = .ok (.invokestatic 93, 3) := by decide +kernel
theorem dX6_evaluate_15 : decode cX6_evaluate 15 = .ok (.aload_n 0, 1) := by decide +kernel
theorem dX6_evaluate_16 : decode cX6_evaluate 16 = .ok (.getfield 18, 3) := by decide +kernel
theorem dX6_evaluate_19 : decode cX6_evaluate 19 = .ok (.iconst 1, 1) := by decide +kernel
theorem dX6_evaluate_20 : decode cX6_evaluate 20 = .ok (.invokestatic 93, 3) := by decide +kernel
theorem dX6_evaluate_23 : decode cX6_evaluate 23 = .ok (.invokestatic 97, 3) := by decide +kernel
theorem dX6_evaluate_26 : decode cX6_evaluate 26 = .ok (.ireturn, 1) := by decide +kernel
theorem dX6_evaluate_27 : decode cX6_evaluate 27 = .ok (.iconst 0, 1) := by decide +kernel
theorem dX6_evaluate_28 : decode cX6_evaluate 28 = .ok (.istore_n 1, 1) := by decide +kernel
theorem dX6_evaluate_29 : decode cX6_evaluate 29 = .ok (.iconst 0, 1) := by decide +kernel
theorem dX6_evaluate_30 : decode cX6_evaluate 30 = .ok (.istore_n 2, 1) := by decide +kernel
theorem dX6_evaluate_31 : decode cX6_evaluate 31 = .ok (.iload_n 2, 1) := by decide +kernel
theorem dX6_evaluate_32 : decode cX6_evaluate 32 = .ok (.aload_n 0, 1) := by decide +kernel
theorem dX6_evaluate_33 : decode cX6_evaluate 33 = .ok (.getfield 21, 3) := by decide +kernel
theorem dX6_evaluate_36 : decode cX6_evaluate 36 = .ok (.if_icmp .ge 136, 3) := by decide +kernel
theorem dX6_evaluate_39 : decode cX6_evaluate 39 = .ok (.aload_n 0, 1) := by decide +kernel
theorem dX6_evaluate_40 : decode cX6_evaluate 40 = .ok (.getfield 9, 3) := by decide +kernel
theorem dX6_evaluate_43 : decode cX6_evaluate 43 = .ok (.iload_n 2, 1) := by decide +kernel
theorem dX6_evaluate_44 : decode cX6_evaluate 44 = .ok (.invokestatic 93, 3) := by decide +kernel
theorem dX6_evaluate_47 : decode cX6_evaluate 47 = .ok (.istore_n 3, 1) := by decide +kernel
theorem dX6_evaluate_48 : decode cX6_evaluate 48 = .ok (.iload_n 3, 1) := by decide +kernel
theorem dX6_evaluate_49 : decode cX6_evaluate 49 = .ok (.sipush 1000, 3) := by decide +kernel
theorem dX6_evaluate_52 : decode cX6_evaluate 52 = .ok (.if_icmp .lt 29, 3) := by decide +kernel
theorem dX6_evaluate_55 : decode cX6_evaluate 55 = .ok (.aload_n 0, 1) := by decide +kernel
theorem dX6_evaluate_56 : decode cX6_evaluate 56 = .ok (.getfield 15, 3) := by decide +kernel
theorem dX6_evaluate_59 : decode cX6_evaluate 59 = .ok (.iload_n 1, 1) := by decide +kernel
theorem dX6_evaluate_60 : decode cX6_evaluate 60 = .ok (.iinc 1 1, 3) := by decide +kernel
theorem dX6_evaluate_63 : decode cX6_evaluate 63 = .ok (.aload_n 0, 1) := by decide +kernel
theorem dX6_evaluate_64 : decode cX6_evaluate 64 = .ok (.getfield 18, 3) := by decide +kernel
theorem dX6_evaluate_67 : decode cX6_evaluate 67 = .ok (.iload_n 3, 1) := by decide +kernel
theorem dX6_evaluate_68 : decode cX6_evaluate 68 = .ok (.sipush 1000, 3) := by decide +kernel
theorem dX6_evaluate_71 : decode cX6_evaluate 71 = .ok (.isub, 1) := by decide +kernel
theorem dX6_evaluate_72 : decode cX6_evaluate 72 = .ok (.invokestatic 93, 3) := by decide +kernel
theorem dX6_evaluate_75 : decode cX6_evaluate 75 = .ok (.invokestatic 41, 3) := by decide +kernel
theorem dX6_evaluate_78 : decode cX6_evaluate 78 = .ok (.goto 88, 3) := by decide +kernel
theorem dX6_evaluate_81 : decode cX6_evaluate 81 = .ok (.iload_n 3, 1) := by decide +kernel
theorem dX6_evaluate_82 : decode cX6_evaluate 82 = .ok (.ifCond .lt 18, 3) := by decide +kernel
theorem dX6_evaluate_85 : decode cX6_evaluate 85 = .ok (.aload_n 0, 1) := by decide +kernel
theorem dX6_evaluate_86 : decode cX6_evaluate 86 = .ok (.getfield 15, 3) := by decide +kernel
theorem dX6_evaluate_89 : decode cX6_evaluate 89 = .ok (.iload_n 1, 1) := by decide +kernel
theorem dX6_evaluate_90 : decode cX6_evaluate 90 = .ok (.iinc 1 1, 3) := by decide +kernel
theorem dX6_evaluate_93 : decode cX6_evaluate 93 = .ok (.iload_n 3, 1) := by decide +kernel
theorem dX6_evaluate_94 : decode cX6_evaluate 94 = .ok (.invokestatic 41, 3) := by decide +kernel
theorem dX6_evaluate_97 : decode cX6_evaluate 97 = .ok (.goto 69, 3) := by decide +kernel
theorem dX6_evaluate_100 : decode cX6_evaluate 100 = .ok (.iload_n 3, 1) := by decide +kernel
theorem dX6_evaluate_101 : decode cX6_evaluate 101 = .ok (.bipush (-126), 2) := by decide +kernel
theorem dX6_evaluate_103 : decode cX6_evaluate 103 = .ok (.if_icmp .ne 27, 3) := by decide +kernel
theorem dX6_evaluate_106 : decode cX6_evaluate 106 = .ok (.aload_n 0, 1) := by decide +kernel
theorem dX6_evaluate_107 : decode cX6_evaluate 107 = .ok (.getfield 15, 3) := by decide +kernel
theorem dX6_evaluate_110 : decode cX6_evaluate 110 = .ok (.iload_n 1, 1) := by decide +kernel
theorem dX6_evaluate_111 : decode cX6_evaluate 111 = .ok (.iconst 1, 1) := by decide +kernel
theorem dX6_evaluate_112 : decode cX6_evaluate 112 = .ok (.isub, 1) := by decide +kernel
theorem dX6_evaluate_113 : decode cX6_evaluate 113 = .ok (.aload_n 0, 1) := by decide +kernel
theorem dX6_evaluate_114 : decode cX6_evaluate 114 = .ok (.getfield 15, 3) := by decide +kernel
theorem dX6_evaluate_117 : decode cX6_evaluate 117 = .ok (.iload_n 1, 1) := by decide +kernel
theorem dX6_evaluate_118 : decode cX6_evaluate 118 = .ok (.iconst 1, 1) := by decide +kernel
theorem dX6_evaluate_119 : decode cX6_evaluate 119 = .ok (.isub, 1) := by decide +kernel
theorem dX6_evaluate_120 : decode cX6_evaluate 120 = .ok (.invokestatic 93, 3) := by decide +kernel
theorem dX6_evaluate_123 : decode cX6_evaluate 123 = .ok (.ineg, 1) := by decide +kernel
theorem dX6_evaluate_124 : decode cX6_evaluate 124 = .ok (.invokestatic 41, 3) := by decide +kernel
theorem dX6_evaluate_127 : decode cX6_evaluate 127 = .ok (.goto 39, 3) := by decide +kernel
theorem dX6_evaluate_130 : decode cX6_evaluate 130 = .ok (.iinc 1 (-1), 3) := by decide +kernel
theorem dX6_evaluate_133 : decode cX6_evaluate 133 = .ok (.aload_n 0, 1) := by decide +kernel
theorem dX6_evaluate_134 : decode cX6_evaluate 134 = .ok (.getfield 15, 3) := by decide +kernel
theorem dX6_evaluate_137 : decode cX6_evaluate 137 = .ok (.iload_n 1, 1) := by decide +kernel
theorem dX6_evaluate_138 : decode cX6_evaluate 138 = .ok (.iconst 1, 1) := by decide +kernel
theorem dX6_evaluate_139 : decode cX6_evaluate 139 = .ok (.isub, 1) := by decide +kernel
theorem dX6_evaluate_140 : decode cX6_evaluate 140 = .ok (.iload_n 3, 1) := by decide +kernel
theorem dX6_evaluate_141 : decode cX6_evaluate 141 = .ok (.ineg, 1) := by decide +kernel
theorem dX6_evaluate_142 : decode cX6_evaluate 142 = .ok (.aload_n 0, 1) := by decide +kernel
theorem dX6_evaluate_143 : decode cX6_evaluate 143 = .ok (.getfield 15, 3) := by decide +kernel
theorem dX6_evaluate_146 : decode cX6_evaluate 146 = .ok (.iload_n 1, 1) := by decide +kernel
theorem dX6_evaluate_147 : decode cX6_evaluate 147 = .ok (.iconst 1, 1) := by decide +kernel
theorem dX6_evaluate_148 : decode cX6_evaluate 148 = .ok (.isub, 1) := by decide +kernel
theorem dX6_evaluate_149 : decode cX6_evaluate 149 = .ok (.invokestatic 93, 3) := by decide +kernel
theorem dX6_evaluate_152 : decode cX6_evaluate 152 = .ok (.aload_n 0, 1) := by decide +kernel
theorem dX6_evaluate_153 : decode cX6_evaluate 153 = .ok (.getfield 15, 3) := by decide +kernel
theorem dX6_evaluate_156 : decode cX6_evaluate 156 = .ok (.iload_n 1, 1) := by decide +kernel
theorem dX6_evaluate_157 : decode cX6_evaluate 157 = .ok (.invokestatic 93, 3) := by decide +kernel
theorem dX6_evaluate_160 : decode cX6_evaluate 160 = .ok (.invokestatic 101, 3) := by decide +kernel
theorem dX6_evaluate_163 : decode cX6_evaluate 163 = .ok (.invokestatic 41, 3) := by decide +kernel
theorem dX6_evaluate_166 : decode cX6_evaluate 166 = .ok (.iinc 2 1, 3) := by decide +kernel
theorem dX6_evaluate_169 : decode cX6_evaluate 169 = .ok (.goto (-138), 3) := by decide +kernel
theorem dX6_evaluate_172 : decode cX6_evaluate 172 = .ok (.aload_n 0, 1) := by decide +kernel
theorem dX6_evaluate_173 : decode cX6_evaluate 173 = .ok (.getfield 15, 3) := by decide +kernel
theorem dX6_evaluate_176 : decode cX6_evaluate 176 = .ok (.iconst 0, 1) := by decide +kernel
theorem dX6_evaluate_177 : decode cX6_evaluate 177 = .ok (.invokestatic 93, 3) := by decide +kernel
theorem dX6_evaluate_180 : decode cX6_evaluate 180 = .ok (.sipush 999, 3) := by decide +kernel
theorem dX6_evaluate_183 : decode cX6_evaluate 183 = .ok (.invokestatic 105, 3) := by decide +kernel
theorem dX6_evaluate_186 : decode cX6_evaluate 186 = .ok (.ireturn, 1) := by decide +kernel
abbrev YX6_evaluate : li_Y := (yX6_evaluate, cX6_evaluate, 4, (some .int))
set_option maxRecDepth 100000 in
set_option maxHeartbeats 4000000 in
theorem k_X6_add {l : Launch} {Z : li_Z} (d : Nat) (hd : 2 ≤ d) {r : Nat} (hr : li_ru r) (p1 : Int32) (M0 : li_M) : li_Met l Z YX6_add d [.ref (Z.2.2 r), .int p1] M0 (li_SZ (fun i => i = r ∨ i = r + 1) M0) := by
  refine li_enter (by decide +kernel) (Nat.le_of_ble_eq_true rfl) ?_
  show li_T l Z YX6_add d 0 [(0, .ref (Z.2.2 r)), (1, .int p1)] [] M0 _
  have hf : li_fr (fun i => i = r ∨ i = r + 1) M0 M0 := li_fr_refl
  refine li_aload_n 0 dX6_add_0 rfl ?_
  refine li_geti (k := 3) (N := 4) (T := TX6) (C0 := RX6) dX6_add_1 (snR0 hr) (shR0 hr) rfl rfl (by decide) li_in6 w_322 ?_
  refine li_top (fun x1 ex1 => ?_)
  refine li_bipush 80 dX6_add_4 (by decide) ?_
  refine li_icmp_lt 11 dX6_add_6 (by decide) (fun c2 => ?_) (fun c2 => ?_)
  · refine li_aload_n 0 dX6_add_11 rfl ?_
    refine li_getr (k := 0) (N := 4) (T := TX6) (C0 := RX6) dX6_add_12 (snR0 hr) (shR0 hr) rfl rfl (lkR1 hr) (by decide) li_in6 w_318 ?_
    refine li_aload_n 0 dX6_add_15 rfl ?_
    refine li_geti (k := 3) (N := 4) (T := TX6) (C0 := RX6) dX6_add_16 (snR0 hr) (shR0 hr) rfl rfl (by decide) li_in6 w_322 ?_
    refine li_top (fun x3 ex3 => ?_)
    refine li_iload_n 1 dX6_add_19 rfl ?_
    refine li_callN (n := 3) (As := [.ref (Z.2.2 (r + 1)), .int x3, .int p1]) dX6_add_20 (k_X11_put (d - 1) (by omega) (snR1 hr) (shR1 hr) (by decide) x3 p1 M0) (by omega) (Nat.le_of_ble_eq_true rfl) nw_10 w_542 w_104 w_543 (by decide +kernel) rfl rfl (Nat.le_of_ble_eq_true rfl) (fun r M5 h6 => ?_)
    obtain ⟨rfl, h6⟩ := h6
    have hf := li_fr_trans hf h6 (fun i (h : i = r + 1) => (show i = r ∨ i = r + 1 by omega))
    refine li_aload_n 0 dX6_add_23 rfl ?_
    refine li_dup dX6_add_24 rfl ?_
    refine li_geti (k := 3) (N := 4) (T := TX6) (C0 := RX6) dX6_add_25 (snR0 hr) (shR0 hr) rfl rfl (by decide) li_in6 w_322 ?_
    refine li_top (fun x7 ex7 => ?_)
    refine li_iconst 1 dX6_add_28 (by decide) ?_
    refine li_iadd dX6_add_29 ?_
    refine li_top (fun x8 ex8 => ?_)
    refine li_puti (k := 3) (N := 4) (T := TX6) (C0 := RX6) dX6_add_30 (snR0 hr) (shR0 hr) rfl rfl (by decide) li_in6 tyX6_ok nmX6 rfl rfl rfl rfl w_322 ?_
    refine li_nm (fun M9 eM9 => ?_)
    have hf := li_fr_ui hf (show r = r ∨ r = r + 1 by omega) eM9
    refine li_iconst 1 dX6_add_33 (by decide) ?_
    exact li_iret dX6_add_34 rfl (li_nz (Or.inr rfl)) ⟨⟨_, rfl, Or.inr rfl⟩, hf⟩
  · refine li_iconst 0 dX6_add_9 (by decide) ?_
    exact li_iret dX6_add_10 rfl (li_nz (Or.inl rfl)) ⟨⟨_, rfl, Or.inl rfl⟩, hf⟩
set_option maxRecDepth 100000 in
set_option maxHeartbeats 4000000 in
theorem k_X6_addSign {l : Launch} {Z : li_Z} (d : Nat) (hd : 5 ≤ d) {r : Nat} (hr : li_ru r) {s : Nat} (hs : s < 4) (p1 : Int32) (M0 : li_M) : li_Met l Z YX6_addSign d [.ref (Z.2.2 r), .ref (Z.2.2 (2100 + s)), .int p1] M0 (li_SZ (fun i => i = r ∨ i = r + 1) M0) := by
  refine li_enter (by decide +kernel) (Nat.le_of_ble_eq_true rfl) ?_
  show li_T l Z YX6_addSign d 0 [(0, .ref (Z.2.2 r)), (1, .ref (Z.2.2 (2100 + s))), (2, .int p1)] [] M0 _
  have hf : li_fr (fun i => i = r ∨ i = r + 1) M0 M0 := li_fr_refl
  have gp1 := tl_rg p1
  refine li_iload_n 2 dX6_addSign_0 rfl ?_
  refine li_if_lt 29 dX6_addSign_1 (by decide) (fun c1 => ?_) (fun c1 => ?_)
  · have tc1 : p1.toInt < 0 := tl_lt c1
    refine li_iconst 0 dX6_addSign_29 (by decide) ?_
    exact li_iret dX6_addSign_30 rfl (li_nz (Or.inl rfl)) ⟨⟨_, rfl, Or.inl rfl⟩, hf⟩
  · have tc1 : 0 ≤ p1.toInt := tl_nlt c1
    refine li_iload_n 2 dX6_addSign_4 rfl ?_
    refine li_aload_n 1 dX6_addSign_5 rfl ?_
    refine li_callT (n := 0) (As := []) hs dX6_addSign_6 (k_J0_length (d - 1) (by omega) hs M0) (by omega) (Nat.le_of_ble_eq_true rfl) rfl w_669 w_601 w_602 w_118 w_603 (by decide +kernel) rfl rfl (Nat.le_of_ble_eq_true rfl) (fun r M3 h4 => ?_)
    obtain ⟨⟨x2, rfl, qx2⟩, h4⟩ := h4
    have gx2 := tl_rg x2
    have hf := li_fr_trans hf h4 (fun i h => False.elim h)
    refine li_icmp_ge 29 dX6_addSign_9 (by decide) (fun c5 => ?_) (fun c5 => ?_)
    · have tc5 : x2.toInt ≤ p1.toInt := tl_le c5
      refine li_iconst 0 dX6_addSign_29 (by decide) ?_
      exact li_iret dX6_addSign_30 rfl (li_nz (Or.inl rfl)) ⟨⟨_, rfl, Or.inl rfl⟩, hf⟩
    · have tc5 : p1.toInt < x2.toInt := tl_nle c5
      refine li_aload_n 0 dX6_addSign_12 rfl ?_
      refine li_aload_n 1 dX6_addSign_13 rfl ?_
      refine li_iload_n 2 dX6_addSign_14 rfl ?_
      refine li_callT (n := 1) (As := [.int p1]) hs dX6_addSign_15 (k_J0_charAt (d - 1) (by omega) hs p1 (by omega) (by omega) M3) (by omega) (Nat.le_of_ble_eq_true rfl) rfl w_670 w_611 w_612 w_118 w_613 (by decide +kernel) rfl rfl (Nat.le_of_ble_eq_true rfl) (fun r M7 h8 => ?_)
      obtain ⟨⟨x6, rfl⟩, h8⟩ := h8
      have gx6 := tl_rg x6
      have hf := li_fr_trans hf h8 (fun i h => False.elim h)
      refine li_ineg dX6_addSign_18 ?_
      refine li_top (fun x9 ex9 => ?_)
      have tx9 : (-2147483648 < x6.toInt) → x9.toInt = -x6.toInt := tl_neg ex9
      refine li_callV (n := 1) (As := [.int x9]) dX6_addSign_19 (k_X6_add (d - 1) (by omega) hr x9 M7) (by omega) (Nat.le_of_ble_eq_true rfl) w_649 w_651 w_6 w_110 w_652 (by decide +kernel) rfl (snR0 hr) (shR0 hr) rfl rfl (Nat.le_of_ble_eq_true rfl) (fun r M11 h12 => ?_)
      obtain ⟨⟨x10, rfl, bx10⟩, h12⟩ := h12
      have ux10 := tl_b bx10
      have hf := li_fr_trans hf h12 (fun i (h : i = r ∨ i = r + 1) => (show i = r ∨ i = r + 1 by omega))
      refine li_if_eq 29 dX6_addSign_22 (by decide) (fun c13 => ?_) (fun c13 => ?_)
      · have tc13 : x10.toInt = 0 := tl_eq c13
        refine li_iconst 0 dX6_addSign_29 (by decide) ?_
        exact li_iret dX6_addSign_30 rfl (li_nz (Or.inl rfl)) ⟨⟨_, rfl, Or.inl rfl⟩, hf⟩
      · have tc13 : ¬ x10.toInt = 0 := tl_ne c13
        refine li_iconst 1 dX6_addSign_25 (by decide) ?_
        refine li_goto 30 dX6_addSign_26 (by decide) ?_
        exact li_iret dX6_addSign_30 rfl (li_nz (Or.inr rfl)) ⟨⟨_, rfl, Or.inr rfl⟩, hf⟩
set_option maxRecDepth 100000 in
set_option maxHeartbeats 4000000 in
theorem k_X6_readAtom {l : Launch} {Z : li_Z} (d : Nat) (hd : 6 ≤ d) {r : Nat} (hr : li_ru r) (p1 : Int32) (dE : Nat) (IH : p1.toInt < 4 → ∀ (q : Int32), q.toInt = p1.toInt + 1 → ∀ (M : li_M), li_Met l Z YX6_readExpression dE [.ref (Z.2.2 r), .ref (Z.2.2 1), .int q] M (li_SZ (fun i => i = r ∨ i = r + 1 ∨ i = 1) M)) (hE : dE + 1 ≤ d) (M0 : li_M) : li_Met l Z YX6_readAtom d [.ref (Z.2.2 r), .ref (Z.2.2 1), .int p1] M0 (li_SZ (fun i => i = r ∨ i = r + 1 ∨ i = 1) M0) := by
  refine li_enter (by decide +kernel) (Nat.le_of_ble_eq_true rfl) ?_
  show li_T l Z YX6_readAtom d 0 [(0, .ref (Z.2.2 r)), (1, .ref (Z.2.2 1)), (2, .int p1)] [] M0 _
  have hf : li_fr (fun i => i = r ∨ i = r + 1 ∨ i = 1) M0 M0 := li_fr_refl
  have gp1 := tl_rg p1
  refine li_iload_n 2 dX6_readAtom_0 rfl ?_
  refine li_iconst 4 dX6_readAtom_1 (by decide) ?_
  refine li_icmp_ge 40 dX6_readAtom_2 (by decide) (fun c1 => ?_) (fun c1 => ?_)
  · have tc1 : 4 ≤ p1.toInt := tl_le c1
    refine li_aload_n 1 dX6_readAtom_40 rfl ?_
    refine li_ldcS 3 dX6_readAtom_41 (by decide) ⟨rfl, rfl⟩ ?_
    refine li_callV (n := 1) (As := [.ref (Z.2.2 (2100 + 3))]) dX6_readAtom_43 (k_X7_takeAnyOf (d - 1) (by omega) (by decide) M0) (by omega) (Nat.le_of_ble_eq_true rfl) w_596 w_597 w_598 w_105 w_599 (by decide +kernel) rfl (by decide) sh_1 rfl rfl (Nat.le_of_ble_eq_true rfl) (fun r M3 h4 => ?_)
    obtain ⟨⟨x2, rfl⟩, h4⟩ := h4
    have gx2 := tl_rg x2
    have hf := li_fr_trans hf h4 (fun i (h : i = 1) => (show i = r ∨ i = r + 1 ∨ i = 1 by omega))
    refine li_istore_n [(3, .int x2), (0, .ref (Z.2.2 r)), (1, .ref (Z.2.2 1)), (2, .int p1)] dX6_readAtom_46 (by decide) rfl ?_
    refine li_iload_n 0 dX6_readAtom_47 rfl ?_
    refine li_if_lt 61 dX6_readAtom_48 (by decide) (fun c5 => ?_) (fun c5 => ?_)
    · have tc5 : x2.toInt < 0 := tl_lt c5
      refine li_aload_n 2 dX6_readAtom_61 rfl ?_
      refine li_iconst 3 dX6_readAtom_62 (by decide) ?_
      refine li_callV (n := 1) (As := [.int 3]) dX6_readAtom_63 (k_X7_takeNumber (d - 1) (by omega) 3 M3) (by omega) (Nat.le_of_ble_eq_true rfl) w_654 w_655 w_656 w_105 w_657 (by decide +kernel) rfl (by decide) sh_1 rfl rfl (Nat.le_of_ble_eq_true rfl) (fun r M7 h8 => ?_)
      obtain ⟨⟨x6, rfl⟩, h8⟩ := h8
      have gx6 := tl_rg x6
      have hf := li_fr_trans hf h8 (fun i (h : i = 1) => (show i = r ∨ i = r + 1 ∨ i = 1 by omega))
      refine li_istore [(4, .int x6), (3, .int x2), (0, .ref (Z.2.2 r)), (1, .ref (Z.2.2 1)), (2, .int p1)] dX6_readAtom_66 (by decide) rfl ?_
      refine li_iload 0 dX6_readAtom_68 rfl ?_
      refine li_if_lt 86 dX6_readAtom_70 (by decide) (fun c9 => ?_) (fun c9 => ?_)
      · have tc9 : x6.toInt < 0 := tl_lt c9
        refine li_iconst 0 dX6_readAtom_86 (by decide) ?_
        exact li_iret dX6_readAtom_87 rfl (li_nz (Or.inl rfl)) ⟨⟨_, rfl, Or.inl rfl⟩, hf⟩
      · have tc9 : 0 ≤ x6.toInt := tl_nlt c9
        refine li_aload_n 2 dX6_readAtom_73 rfl ?_
        refine li_iload 0 dX6_readAtom_74 rfl ?_
        refine li_callV (n := 1) (As := [.int x6]) dX6_readAtom_76 (k_X6_add (d - 1) (by omega) hr x6 M7) (by omega) (Nat.le_of_ble_eq_true rfl) w_649 w_651 w_6 w_110 w_652 (by decide +kernel) rfl (snR0 hr) (shR0 hr) rfl rfl (Nat.le_of_ble_eq_true rfl) (fun r M11 h12 => ?_)
        obtain ⟨⟨x10, rfl, bx10⟩, h12⟩ := h12
        have ux10 := tl_b bx10
        have hf := li_fr_trans hf h12 (fun i (h : i = r ∨ i = r + 1) => (show i = r ∨ i = r + 1 ∨ i = 1 by omega))
        refine li_if_eq 86 dX6_readAtom_79 (by decide) (fun c13 => ?_) (fun c13 => ?_)
        · have tc13 : x10.toInt = 0 := tl_eq c13
          refine li_iconst 0 dX6_readAtom_86 (by decide) ?_
          exact li_iret dX6_readAtom_87 rfl (li_nz (Or.inl rfl)) ⟨⟨_, rfl, Or.inl rfl⟩, hf⟩
        · have tc13 : ¬ x10.toInt = 0 := tl_ne c13
          refine li_iconst 1 dX6_readAtom_82 (by decide) ?_
          refine li_goto 87 dX6_readAtom_83 (by decide) ?_
          exact li_iret dX6_readAtom_87 rfl (li_nz (Or.inr rfl)) ⟨⟨_, rfl, Or.inr rfl⟩, hf⟩
    · have tc5 : 0 ≤ x2.toInt := tl_nlt c5
      refine li_aload_n 1 dX6_readAtom_51 rfl ?_
      refine li_sipush 1000 dX6_readAtom_52 (by decide) ?_
      refine li_iload_n 0 dX6_readAtom_55 rfl ?_
      refine li_iadd dX6_readAtom_56 ?_
      refine li_top (fun x14 ex14 => ?_)
      have tx14 : (-2147483648 ≤ 1000 + x2.toInt ∧ 1000 + x2.toInt ≤ 2147483647) → x14.toInt = 1000 + x2.toInt := tl_add ex14
      refine li_callV (n := 1) (As := [.int x14]) dX6_readAtom_57 (k_X6_add (d - 1) (by omega) hr x14 M3) (by omega) (Nat.le_of_ble_eq_true rfl) w_649 w_651 w_6 w_110 w_652 (by decide +kernel) rfl (snR0 hr) (shR0 hr) rfl rfl (Nat.le_of_ble_eq_true rfl) (fun r M16 h17 => ?_)
      obtain ⟨⟨x15, rfl, bx15⟩, h17⟩ := h17
      have ux15 := tl_b bx15
      have hf := li_fr_trans hf h17 (fun i (h : i = r ∨ i = r + 1) => (show i = r ∨ i = r + 1 ∨ i = 1 by omega))
      exact li_iret dX6_readAtom_60 rfl (li_nz (bx15)) ⟨⟨_, rfl, bx15⟩, hf⟩
  · have tc1 : p1.toInt < 4 := tl_nle c1
    refine li_aload_n 1 dX6_readAtom_5 rfl ?_
    refine li_bipush 40 dX6_readAtom_6 (by decide) ?_
    refine li_callV (n := 1) (As := [.int 40]) dX6_readAtom_8 (k_X7_skip (d - 1) (by omega) 40 M0) (by omega) (Nat.le_of_ble_eq_true rfl) w_584 w_585 w_586 w_105 w_587 (by decide +kernel) rfl (by decide) sh_1 rfl rfl (Nat.le_of_ble_eq_true rfl) (fun r M19 h20 => ?_)
    obtain ⟨⟨x18, rfl, bx18⟩, h20⟩ := h20
    have ux18 := tl_b bx18
    have hf := li_fr_trans hf h20 (fun i (h : i = 1) => (show i = r ∨ i = r + 1 ∨ i = 1 by omega))
    refine li_if_eq 40 dX6_readAtom_11 (by decide) (fun c21 => ?_) (fun c21 => ?_)
    · have tc21 : x18.toInt = 0 := tl_eq c21
      refine li_aload_n 1 dX6_readAtom_40 rfl ?_
      refine li_ldcS 3 dX6_readAtom_41 (by decide) ⟨rfl, rfl⟩ ?_
      refine li_callV (n := 1) (As := [.ref (Z.2.2 (2100 + 3))]) dX6_readAtom_43 (k_X7_takeAnyOf (d - 1) (by omega) (by decide) M19) (by omega) (Nat.le_of_ble_eq_true rfl) w_596 w_597 w_598 w_105 w_599 (by decide +kernel) rfl (by decide) sh_1 rfl rfl (Nat.le_of_ble_eq_true rfl) (fun r M23 h24 => ?_)
      obtain ⟨⟨x22, rfl⟩, h24⟩ := h24
      have gx22 := tl_rg x22
      have hf := li_fr_trans hf h24 (fun i (h : i = 1) => (show i = r ∨ i = r + 1 ∨ i = 1 by omega))
      refine li_istore_n [(3, .int x22), (0, .ref (Z.2.2 r)), (1, .ref (Z.2.2 1)), (2, .int p1)] dX6_readAtom_46 (by decide) rfl ?_
      refine li_iload_n 0 dX6_readAtom_47 rfl ?_
      refine li_if_lt 61 dX6_readAtom_48 (by decide) (fun c25 => ?_) (fun c25 => ?_)
      · have tc25 : x22.toInt < 0 := tl_lt c25
        refine li_aload_n 2 dX6_readAtom_61 rfl ?_
        refine li_iconst 3 dX6_readAtom_62 (by decide) ?_
        refine li_callV (n := 1) (As := [.int 3]) dX6_readAtom_63 (k_X7_takeNumber (d - 1) (by omega) 3 M23) (by omega) (Nat.le_of_ble_eq_true rfl) w_654 w_655 w_656 w_105 w_657 (by decide +kernel) rfl (by decide) sh_1 rfl rfl (Nat.le_of_ble_eq_true rfl) (fun r M27 h28 => ?_)
        obtain ⟨⟨x26, rfl⟩, h28⟩ := h28
        have gx26 := tl_rg x26
        have hf := li_fr_trans hf h28 (fun i (h : i = 1) => (show i = r ∨ i = r + 1 ∨ i = 1 by omega))
        refine li_istore [(4, .int x26), (3, .int x22), (0, .ref (Z.2.2 r)), (1, .ref (Z.2.2 1)), (2, .int p1)] dX6_readAtom_66 (by decide) rfl ?_
        refine li_iload 0 dX6_readAtom_68 rfl ?_
        refine li_if_lt 86 dX6_readAtom_70 (by decide) (fun c29 => ?_) (fun c29 => ?_)
        · have tc29 : x26.toInt < 0 := tl_lt c29
          refine li_iconst 0 dX6_readAtom_86 (by decide) ?_
          exact li_iret dX6_readAtom_87 rfl (li_nz (Or.inl rfl)) ⟨⟨_, rfl, Or.inl rfl⟩, hf⟩
        · have tc29 : 0 ≤ x26.toInt := tl_nlt c29
          refine li_aload_n 2 dX6_readAtom_73 rfl ?_
          refine li_iload 0 dX6_readAtom_74 rfl ?_
          refine li_callV (n := 1) (As := [.int x26]) dX6_readAtom_76 (k_X6_add (d - 1) (by omega) hr x26 M27) (by omega) (Nat.le_of_ble_eq_true rfl) w_649 w_651 w_6 w_110 w_652 (by decide +kernel) rfl (snR0 hr) (shR0 hr) rfl rfl (Nat.le_of_ble_eq_true rfl) (fun r M31 h32 => ?_)
          obtain ⟨⟨x30, rfl, bx30⟩, h32⟩ := h32
          have ux30 := tl_b bx30
          have hf := li_fr_trans hf h32 (fun i (h : i = r ∨ i = r + 1) => (show i = r ∨ i = r + 1 ∨ i = 1 by omega))
          refine li_if_eq 86 dX6_readAtom_79 (by decide) (fun c33 => ?_) (fun c33 => ?_)
          · have tc33 : x30.toInt = 0 := tl_eq c33
            refine li_iconst 0 dX6_readAtom_86 (by decide) ?_
            exact li_iret dX6_readAtom_87 rfl (li_nz (Or.inl rfl)) ⟨⟨_, rfl, Or.inl rfl⟩, hf⟩
          · have tc33 : ¬ x30.toInt = 0 := tl_ne c33
            refine li_iconst 1 dX6_readAtom_82 (by decide) ?_
            refine li_goto 87 dX6_readAtom_83 (by decide) ?_
            exact li_iret dX6_readAtom_87 rfl (li_nz (Or.inr rfl)) ⟨⟨_, rfl, Or.inr rfl⟩, hf⟩
      · have tc25 : 0 ≤ x22.toInt := tl_nlt c25
        refine li_aload_n 1 dX6_readAtom_51 rfl ?_
        refine li_sipush 1000 dX6_readAtom_52 (by decide) ?_
        refine li_iload_n 0 dX6_readAtom_55 rfl ?_
        refine li_iadd dX6_readAtom_56 ?_
        refine li_top (fun x34 ex34 => ?_)
        have tx34 : (-2147483648 ≤ 1000 + x22.toInt ∧ 1000 + x22.toInt ≤ 2147483647) → x34.toInt = 1000 + x22.toInt := tl_add ex34
        refine li_callV (n := 1) (As := [.int x34]) dX6_readAtom_57 (k_X6_add (d - 1) (by omega) hr x34 M23) (by omega) (Nat.le_of_ble_eq_true rfl) w_649 w_651 w_6 w_110 w_652 (by decide +kernel) rfl (snR0 hr) (shR0 hr) rfl rfl (Nat.le_of_ble_eq_true rfl) (fun r M36 h37 => ?_)
        obtain ⟨⟨x35, rfl, bx35⟩, h37⟩ := h37
        have ux35 := tl_b bx35
        have hf := li_fr_trans hf h37 (fun i (h : i = r ∨ i = r + 1) => (show i = r ∨ i = r + 1 ∨ i = 1 by omega))
        exact li_iret dX6_readAtom_60 rfl (li_nz (bx35)) ⟨⟨_, rfl, bx35⟩, hf⟩
    · have tc21 : ¬ x18.toInt = 0 := tl_ne c21
      refine li_aload_n 0 dX6_readAtom_14 rfl ?_
      refine li_aload_n 1 dX6_readAtom_15 rfl ?_
      refine li_iload_n 2 dX6_readAtom_16 rfl ?_
      refine li_iconst 1 dX6_readAtom_17 (by decide) ?_
      refine li_iadd dX6_readAtom_18 ?_
      refine li_top (fun x38 ex38 => ?_)
      have tx38 : (-2147483648 ≤ p1.toInt + 1 ∧ p1.toInt + 1 ≤ 2147483647) → x38.toInt = p1.toInt + 1 := tl_add ex38
      refine li_callV (n := 2) (As := [.ref (Z.2.2 1), .int x38]) dX6_readAtom_19 (IH (by omega) x38 (by omega) M19) (by omega) (Nat.le_of_ble_eq_true rfl) w_568 w_570 w_1 w_110 w_571 (by decide +kernel) rfl (snR0 hr) (shR0 hr) rfl rfl (Nat.le_of_ble_eq_true rfl) (fun r M40 h41 => ?_)
      obtain ⟨⟨x39, rfl, bx39⟩, h41⟩ := h41
      have ux39 := tl_b bx39
      have hf := li_fr_trans hf h41 (fun i (h : i = r ∨ i = r + 1 ∨ i = 1) => (show i = r ∨ i = r + 1 ∨ i = 1 by omega))
      refine li_if_eq 38 dX6_readAtom_22 (by decide) (fun c42 => ?_) (fun c42 => ?_)
      · have tc42 : x39.toInt = 0 := tl_eq c42
        refine li_iconst 0 dX6_readAtom_38 (by decide) ?_
        exact li_iret dX6_readAtom_39 rfl (li_nz (Or.inl rfl)) ⟨⟨_, rfl, Or.inl rfl⟩, hf⟩
      · have tc42 : ¬ x39.toInt = 0 := tl_ne c42
        refine li_aload_n 1 dX6_readAtom_25 rfl ?_
        refine li_bipush 41 dX6_readAtom_26 (by decide) ?_
        refine li_callV (n := 1) (As := [.int 41]) dX6_readAtom_28 (k_X7_skip (d - 1) (by omega) 41 M40) (by omega) (Nat.le_of_ble_eq_true rfl) w_584 w_585 w_586 w_105 w_587 (by decide +kernel) rfl (by decide) sh_1 rfl rfl (Nat.le_of_ble_eq_true rfl) (fun r M44 h45 => ?_)
        obtain ⟨⟨x43, rfl, bx43⟩, h45⟩ := h45
        have ux43 := tl_b bx43
        have hf := li_fr_trans hf h45 (fun i (h : i = 1) => (show i = r ∨ i = r + 1 ∨ i = 1 by omega))
        refine li_if_eq 38 dX6_readAtom_31 (by decide) (fun c46 => ?_) (fun c46 => ?_)
        · have tc46 : x43.toInt = 0 := tl_eq c46
          refine li_iconst 0 dX6_readAtom_38 (by decide) ?_
          exact li_iret dX6_readAtom_39 rfl (li_nz (Or.inl rfl)) ⟨⟨_, rfl, Or.inl rfl⟩, hf⟩
        · have tc46 : ¬ x43.toInt = 0 := tl_ne c46
          refine li_iconst 1 dX6_readAtom_34 (by decide) ?_
          refine li_goto 39 dX6_readAtom_35 (by decide) ?_
          exact li_iret dX6_readAtom_39 rfl (li_nz (Or.inr rfl)) ⟨⟨_, rfl, Or.inr rfl⟩, hf⟩
set_option maxRecDepth 100000 in
set_option maxHeartbeats 4000000 in
theorem k_X6_readFactor {l : Launch} {Z : li_Z} (d : Nat) (hd : 7 ≤ d) {r : Nat} (hr : li_ru r) (p1 : Int32) (dE : Nat) (IH : p1.toInt < 4 → ∀ (q : Int32), q.toInt = p1.toInt + 1 → ∀ (M : li_M), li_Met l Z YX6_readExpression dE [.ref (Z.2.2 r), .ref (Z.2.2 1), .int q] M (li_SZ (fun i => i = r ∨ i = r + 1 ∨ i = 1) M)) (hE : dE + 2 ≤ d) (M0 : li_M) : li_Met l Z YX6_readFactor d [.ref (Z.2.2 r), .ref (Z.2.2 1), .int p1] M0 (li_SZ (fun i => i = r ∨ i = r + 1 ∨ i = 1) M0) := by
  refine li_enter (by decide +kernel) (Nat.le_of_ble_eq_true rfl) ?_
  show li_T l Z YX6_readFactor d 0 [(0, .ref (Z.2.2 r)), (1, .ref (Z.2.2 1)), (2, .int p1)] [] M0 _
  have hf : li_fr (fun i => i = r ∨ i = r + 1 ∨ i = 1) M0 M0 := li_fr_refl
  have gp1 := tl_rg p1
  refine li_iconst 0 dX6_readFactor_0 (by decide) ?_
  refine li_istore_n [(3, .int 0), (0, .ref (Z.2.2 r)), (1, .ref (Z.2.2 1)), (2, .int p1)] dX6_readFactor_1 (by decide) rfl ?_
  refine li_iconst 0 dX6_readFactor_2 (by decide) ?_
  refine li_istore [(4, .int 0), (3, .int 0), (0, .ref (Z.2.2 r)), (1, .ref (Z.2.2 1)), (2, .int p1)] dX6_readFactor_3 (by decide) rfl ?_
  have L5 : ∀ (n : Nat) (x1 : Int32) (x2 : Int32) (M3 : li_M), (2147483647 - (x1 : Int32).toInt).toNat < n → li_fr (fun i => i = r ∨ i = r + 1 ∨ i = 1) M0 M3 → li_T l Z YX6_readFactor d 5 [(4, .int x1), (3, .int x2), (0, .ref (Z.2.2 r)), (1, .ref (Z.2.2 1)), (2, .int p1)] [] M3 (li_SZ (fun i => i = r ∨ i = r + 1 ∨ i = 1) M0) := by
    intro n
    induction n with
    | zero => intro x1 x2 M3 hn; exact absurd hn (Nat.not_lt_zero _)
    | succ n ih5 =>
      intro x1 x2 M3 hn hf
      have gx1 := tl_rg x1
      have gx2 := tl_rg x2
      refine li_iload 0 dX6_readFactor_5 rfl ?_
      refine li_bipush 80 dX6_readFactor_7 (by decide) ?_
      refine li_icmp_ge 37 dX6_readFactor_9 (by decide) (fun c4 => ?_) (fun c4 => ?_)
      · have tc4 : 80 ≤ x1.toInt := tl_le c4
        refine li_aload_n 2 dX6_readFactor_37 rfl ?_
        refine li_aload_n 3 dX6_readFactor_38 rfl ?_
        refine li_iload_n 4 dX6_readFactor_39 rfl ?_
        refine li_callV (n := 2) (As := [.ref (Z.2.2 1), .int p1]) dX6_readFactor_40 (k_X6_readAtom (d - 1) (by omega) hr p1 dE IH (by omega) M3) (by omega) (Nat.le_of_ble_eq_true rfl) w_591 w_593 w_5 w_110 w_594 (by decide +kernel) rfl (snR0 hr) (shR0 hr) rfl rfl (Nat.le_of_ble_eq_true rfl) (fun r M6 h7 => ?_)
        obtain ⟨⟨x5, rfl, bx5⟩, h7⟩ := h7
        have ux5 := tl_b bx5
        have hf := li_fr_trans hf h7 (fun i (h : i = r ∨ i = r + 1 ∨ i = 1) => (show i = r ∨ i = r + 1 ∨ i = 1 by omega))
        refine li_if_eq 63 dX6_readFactor_43 (by decide) (fun c8 => ?_) (fun c8 => ?_)
        · have tc8 : x5.toInt = 0 := tl_eq c8
          refine li_iconst 0 dX6_readFactor_63 (by decide) ?_
          exact li_iret dX6_readFactor_64 rfl (li_nz (Or.inl rfl)) ⟨⟨_, rfl, Or.inl rfl⟩, hf⟩
        · have tc8 : ¬ x5.toInt = 0 := tl_ne c8
          refine li_iload_n 1 dX6_readFactor_46 rfl ?_
          refine li_if_eq 59 dX6_readFactor_47 (by decide) (fun c9 => ?_) (fun c9 => ?_)
          · have tc9 : x2.toInt = 0 := tl_eq c9
            refine li_iconst 1 dX6_readFactor_59 (by decide) ?_
            refine li_goto 64 dX6_readFactor_60 (by decide) ?_
            exact li_iret dX6_readFactor_64 rfl (li_nz (Or.inr rfl)) ⟨⟨_, rfl, Or.inr rfl⟩, hf⟩
          · have tc9 : ¬ x2.toInt = 0 := tl_ne c9
            refine li_aload_n 2 dX6_readFactor_50 rfl ?_
            refine li_bipush (-126) dX6_readFactor_51 (by decide) ?_
            refine li_callV (n := 1) (As := [.int (-126)]) dX6_readFactor_53 (k_X6_add (d - 1) (by omega) hr (-126) M6) (by omega) (Nat.le_of_ble_eq_true rfl) w_649 w_651 w_6 w_110 w_652 (by decide +kernel) rfl (snR0 hr) (shR0 hr) rfl rfl (Nat.le_of_ble_eq_true rfl) (fun r M11 h12 => ?_)
            obtain ⟨⟨x10, rfl, bx10⟩, h12⟩ := h12
            have ux10 := tl_b bx10
            have hf := li_fr_trans hf h12 (fun i (h : i = r ∨ i = r + 1) => (show i = r ∨ i = r + 1 ∨ i = 1 by omega))
            refine li_if_eq 63 dX6_readFactor_56 (by decide) (fun c13 => ?_) (fun c13 => ?_)
            · have tc13 : x10.toInt = 0 := tl_eq c13
              refine li_iconst 0 dX6_readFactor_63 (by decide) ?_
              exact li_iret dX6_readFactor_64 rfl (li_nz (Or.inl rfl)) ⟨⟨_, rfl, Or.inl rfl⟩, hf⟩
            · have tc13 : ¬ x10.toInt = 0 := tl_ne c13
              refine li_iconst 1 dX6_readFactor_59 (by decide) ?_
              refine li_goto 64 dX6_readFactor_60 (by decide) ?_
              exact li_iret dX6_readFactor_64 rfl (li_nz (Or.inr rfl)) ⟨⟨_, rfl, Or.inr rfl⟩, hf⟩
      · have tc4 : x1.toInt < 80 := tl_nle c4
        refine li_aload_n 3 dX6_readFactor_12 rfl ?_
        refine li_bipush 45 dX6_readFactor_13 (by decide) ?_
        refine li_callV (n := 1) (As := [.int 45]) dX6_readFactor_15 (k_X7_skip (d - 1) (by omega) 45 M3) (by omega) (Nat.le_of_ble_eq_true rfl) w_584 w_585 w_586 w_105 w_587 (by decide +kernel) rfl (by decide) sh_1 rfl rfl (Nat.le_of_ble_eq_true rfl) (fun r M15 h16 => ?_)
        obtain ⟨⟨x14, rfl, bx14⟩, h16⟩ := h16
        have ux14 := tl_b bx14
        have hf := li_fr_trans hf h16 (fun i (h : i = 1) => (show i = r ∨ i = r + 1 ∨ i = 1 by omega))
        refine li_if_eq 37 dX6_readFactor_18 (by decide) (fun c17 => ?_) (fun c17 => ?_)
        · have tc17 : x14.toInt = 0 := tl_eq c17
          refine li_aload_n 2 dX6_readFactor_37 rfl ?_
          refine li_aload_n 3 dX6_readFactor_38 rfl ?_
          refine li_iload_n 4 dX6_readFactor_39 rfl ?_
          refine li_callV (n := 2) (As := [.ref (Z.2.2 1), .int p1]) dX6_readFactor_40 (k_X6_readAtom (d - 1) (by omega) hr p1 dE IH (by omega) M15) (by omega) (Nat.le_of_ble_eq_true rfl) w_591 w_593 w_5 w_110 w_594 (by decide +kernel) rfl (snR0 hr) (shR0 hr) rfl rfl (Nat.le_of_ble_eq_true rfl) (fun r M19 h20 => ?_)
          obtain ⟨⟨x18, rfl, bx18⟩, h20⟩ := h20
          have ux18 := tl_b bx18
          have hf := li_fr_trans hf h20 (fun i (h : i = r ∨ i = r + 1 ∨ i = 1) => (show i = r ∨ i = r + 1 ∨ i = 1 by omega))
          refine li_if_eq 63 dX6_readFactor_43 (by decide) (fun c21 => ?_) (fun c21 => ?_)
          · have tc21 : x18.toInt = 0 := tl_eq c21
            refine li_iconst 0 dX6_readFactor_63 (by decide) ?_
            exact li_iret dX6_readFactor_64 rfl (li_nz (Or.inl rfl)) ⟨⟨_, rfl, Or.inl rfl⟩, hf⟩
          · have tc21 : ¬ x18.toInt = 0 := tl_ne c21
            refine li_iload_n 1 dX6_readFactor_46 rfl ?_
            refine li_if_eq 59 dX6_readFactor_47 (by decide) (fun c22 => ?_) (fun c22 => ?_)
            · have tc22 : x2.toInt = 0 := tl_eq c22
              refine li_iconst 1 dX6_readFactor_59 (by decide) ?_
              refine li_goto 64 dX6_readFactor_60 (by decide) ?_
              exact li_iret dX6_readFactor_64 rfl (li_nz (Or.inr rfl)) ⟨⟨_, rfl, Or.inr rfl⟩, hf⟩
            · have tc22 : ¬ x2.toInt = 0 := tl_ne c22
              refine li_aload_n 2 dX6_readFactor_50 rfl ?_
              refine li_bipush (-126) dX6_readFactor_51 (by decide) ?_
              refine li_callV (n := 1) (As := [.int (-126)]) dX6_readFactor_53 (k_X6_add (d - 1) (by omega) hr (-126) M19) (by omega) (Nat.le_of_ble_eq_true rfl) w_649 w_651 w_6 w_110 w_652 (by decide +kernel) rfl (snR0 hr) (shR0 hr) rfl rfl (Nat.le_of_ble_eq_true rfl) (fun r M24 h25 => ?_)
              obtain ⟨⟨x23, rfl, bx23⟩, h25⟩ := h25
              have ux23 := tl_b bx23
              have hf := li_fr_trans hf h25 (fun i (h : i = r ∨ i = r + 1) => (show i = r ∨ i = r + 1 ∨ i = 1 by omega))
              refine li_if_eq 63 dX6_readFactor_56 (by decide) (fun c26 => ?_) (fun c26 => ?_)
              · have tc26 : x23.toInt = 0 := tl_eq c26
                refine li_iconst 0 dX6_readFactor_63 (by decide) ?_
                exact li_iret dX6_readFactor_64 rfl (li_nz (Or.inl rfl)) ⟨⟨_, rfl, Or.inl rfl⟩, hf⟩
              · have tc26 : ¬ x23.toInt = 0 := tl_ne c26
                refine li_iconst 1 dX6_readFactor_59 (by decide) ?_
                refine li_goto 64 dX6_readFactor_60 (by decide) ?_
                exact li_iret dX6_readFactor_64 rfl (li_nz (Or.inr rfl)) ⟨⟨_, rfl, Or.inr rfl⟩, hf⟩
        · have tc17 : ¬ x14.toInt = 0 := tl_ne c17
          refine li_iload_n 1 dX6_readFactor_21 rfl ?_
          have J30 : ∀ (x28 : Int32) (M29 : li_M), li_fr (fun i => i = r ∨ i = r + 1 ∨ i = 1) M0 M29 → li_T l Z YX6_readFactor d 30 [(4, .int x1), (3, .int x2), (0, .ref (Z.2.2 r)), (1, .ref (Z.2.2 1)), (2, .int p1)] [.int x28] M29 (li_SZ (fun i => i = r ∨ i = r + 1 ∨ i = 1) M0) := by
            intro x28 M29 hf
            have gx28 := tl_rg x28
            refine li_istore_n [(3, .int x28), (4, .int x1), (0, .ref (Z.2.2 r)), (1, .ref (Z.2.2 1)), (2, .int p1)] dX6_readFactor_30 (by decide) rfl ?_
            obtain ⟨x30, ex30⟩ : ∃ y : Int32, y = x1 + 1 := ⟨_, rfl⟩
            have tx30 : (-2147483648 ≤ x1.toInt + 1 ∧ x1.toInt + 1 ≤ 2147483647) → x30.toInt = x1.toInt + 1 := tl_add ex30
            refine li_iinc 1 [(4, .int x30), (3, .int x28), (0, .ref (Z.2.2 r)), (1, .ref (Z.2.2 1)), (2, .int p1)] x30 dX6_readFactor_31 rfl (by rw [ex30]; rfl) (by decide) rfl ?_
            refine li_goto 5 dX6_readFactor_34 (by decide) ?_
            refine li_pick [0, 1, 2, 3, 4] [(4, .int x30), (3, .int x28), (0, .ref (Z.2.2 r)), (1, .ref (Z.2.2 1)), (2, .int p1)] rfl ?_
            exact ih5 x30 x28 M29 (by have h9 := li_up (li_gt c4); rw [← ex30] at h9; omega) hf
          refine li_if_ne 29 dX6_readFactor_22 (by decide) (fun c27 => ?_) (fun c27 => ?_)
          · have tc27 : ¬ x2.toInt = 0 := tl_ne c27
            refine li_iconst 0 dX6_readFactor_29 (by decide) ?_
            refine li_pick [0, 1, 2, 3, 4] [(4, .int x1), (3, .int x2), (0, .ref (Z.2.2 r)), (1, .ref (Z.2.2 1)), (2, .int p1)] rfl ?_
            have z0 : (0 : Int32).toInt = 0 := rfl
            exact J30 0 M15 hf
          · have tc27 : x2.toInt = 0 := tl_eq c27
            refine li_iconst 1 dX6_readFactor_25 (by decide) ?_
            refine li_goto 30 dX6_readFactor_26 (by decide) ?_
            refine li_pick [0, 1, 2, 3, 4] [(4, .int x1), (3, .int x2), (0, .ref (Z.2.2 r)), (1, .ref (Z.2.2 1)), (2, .int p1)] rfl ?_
            have z1 : (1 : Int32).toInt = 1 := rfl
            exact J30 1 M15 hf
  have z0 : (0 : Int32).toInt = 0 := rfl
  have z0 : (0 : Int32).toInt = 0 := rfl
  exact L5 _ 0 0 M0 (Nat.lt_succ_self _) hf
set_option maxRecDepth 100000 in
set_option maxHeartbeats 4000000 in
theorem k_X6_readProduct {l : Launch} {Z : li_Z} (d : Nat) (hd : 8 ≤ d) {r : Nat} (hr : li_ru r) (p1 : Int32) (dE : Nat) (IH : p1.toInt < 4 → ∀ (q : Int32), q.toInt = p1.toInt + 1 → ∀ (M : li_M), li_Met l Z YX6_readExpression dE [.ref (Z.2.2 r), .ref (Z.2.2 1), .int q] M (li_SZ (fun i => i = r ∨ i = r + 1 ∨ i = 1) M)) (hE : dE + 3 ≤ d) (M0 : li_M) : li_Met l Z YX6_readProduct d [.ref (Z.2.2 r), .ref (Z.2.2 1), .int p1] M0 (li_SZ (fun i => i = r ∨ i = r + 1 ∨ i = 1) M0) := by
  refine li_enter (by decide +kernel) (Nat.le_of_ble_eq_true rfl) ?_
  show li_T l Z YX6_readProduct d 0 [(0, .ref (Z.2.2 r)), (1, .ref (Z.2.2 1)), (2, .int p1)] [] M0 _
  have hf : li_fr (fun i => i = r ∨ i = r + 1 ∨ i = 1) M0 M0 := li_fr_refl
  have gp1 := tl_rg p1
  refine li_aload_n 0 dX6_readProduct_0 rfl ?_
  refine li_aload_n 1 dX6_readProduct_1 rfl ?_
  refine li_iload_n 2 dX6_readProduct_2 rfl ?_
  refine li_callV (n := 2) (As := [.ref (Z.2.2 1), .int p1]) dX6_readProduct_3 (k_X6_readFactor (d - 1) (by omega) hr p1 dE IH (by omega) M0) (by omega) (Nat.le_of_ble_eq_true rfl) w_580 w_582 w_4 w_110 w_583 (by decide +kernel) rfl (snR0 hr) (shR0 hr) rfl rfl (Nat.le_of_ble_eq_true rfl) (fun r M2 h3 => ?_)
  obtain ⟨⟨x1, rfl, bx1⟩, h3⟩ := h3
  have ux1 := tl_b bx1
  have hf := li_fr_trans hf h3 (fun i (h : i = r ∨ i = r + 1 ∨ i = 1) => (show i = r ∨ i = r + 1 ∨ i = 1 by omega))
  refine li_if_ne 11 dX6_readProduct_6 (by decide) (fun c4 => ?_) (fun c4 => ?_)
  · have tc4 : ¬ x1.toInt = 0 := tl_ne c4
    refine li_iconst 0 dX6_readProduct_11 (by decide) ?_
    refine li_istore_n [(3, .int 0), (0, .ref (Z.2.2 r)), (1, .ref (Z.2.2 1)), (2, .int p1)] dX6_readProduct_12 (by decide) rfl ?_
    have L13 : ∀ (n : Nat) (x5 : Int32) (M6 : li_M), (2147483647 - (x5 : Int32).toInt).toNat < n → li_fr (fun i => i = r ∨ i = r + 1 ∨ i = 1) M0 M6 → li_T l Z YX6_readProduct d 13 [(3, .int x5), (0, .ref (Z.2.2 r)), (1, .ref (Z.2.2 1)), (2, .int p1)] [] M6 (li_SZ (fun i => i = r ∨ i = r + 1 ∨ i = 1) M0) := by
      intro n
      induction n with
      | zero => intro x5 M6 hn; exact absurd hn (Nat.not_lt_zero _)
      | succ n ih13 =>
        intro x5 M6 hn hf
        have gx5 := tl_rg x5
        refine li_iload_n 0 dX6_readProduct_13 rfl ?_
        refine li_bipush 80 dX6_readProduct_14 (by decide) ?_
        refine li_icmp_ge 62 dX6_readProduct_16 (by decide) (fun c7 => ?_) (fun c7 => ?_)
        · have tc7 : 80 ≤ x5.toInt := tl_le c7
          refine li_iconst 1 dX6_readProduct_62 (by decide) ?_
          exact li_iret dX6_readProduct_63 rfl (li_nz (Or.inr rfl)) ⟨⟨_, rfl, Or.inr rfl⟩, hf⟩
        · have tc7 : x5.toInt < 80 := tl_nle c7
          refine li_aload_n 2 dX6_readProduct_19 rfl ?_
          refine li_ldcS 2 dX6_readProduct_20 (by decide) ⟨rfl, rfl⟩ ?_
          refine li_callV (n := 1) (As := [.ref (Z.2.2 (2100 + 2))]) dX6_readProduct_22 (k_X7_takeAnyOf (d - 1) (by omega) (by decide) M6) (by omega) (Nat.le_of_ble_eq_true rfl) w_596 w_597 w_598 w_105 w_599 (by decide +kernel) rfl (by decide) sh_1 rfl rfl (Nat.le_of_ble_eq_true rfl) (fun r M9 h10 => ?_)
          obtain ⟨⟨x8, rfl⟩, h10⟩ := h10
          have gx8 := tl_rg x8
          have hf := li_fr_trans hf h10 (fun i (h : i = 1) => (show i = r ∨ i = r + 1 ∨ i = 1 by omega))
          refine li_istore [(4, .int x8), (3, .int x5), (0, .ref (Z.2.2 r)), (1, .ref (Z.2.2 1)), (2, .int p1)] dX6_readProduct_25 (by decide) rfl ?_
          refine li_iload 0 dX6_readProduct_27 rfl ?_
          refine li_if_ge 34 dX6_readProduct_29 (by decide) (fun c11 => ?_) (fun c11 => ?_)
          · have tc11 : 0 ≤ x8.toInt := tl_le c11
            refine li_aload_n 2 dX6_readProduct_34 rfl ?_
            refine li_aload_n 3 dX6_readProduct_35 rfl ?_
            refine li_iload_n 4 dX6_readProduct_36 rfl ?_
            refine li_callV (n := 2) (As := [.ref (Z.2.2 1), .int p1]) dX6_readProduct_37 (k_X6_readFactor (d - 1) (by omega) hr p1 dE IH (by omega) M9) (by omega) (Nat.le_of_ble_eq_true rfl) w_580 w_582 w_4 w_110 w_583 (by decide +kernel) rfl (snR0 hr) (shR0 hr) rfl rfl (Nat.le_of_ble_eq_true rfl) (fun r M13 h14 => ?_)
            obtain ⟨⟨x12, rfl, bx12⟩, h14⟩ := h14
            have ux12 := tl_b bx12
            have hf := li_fr_trans hf h14 (fun i (h : i = r ∨ i = r + 1 ∨ i = 1) => (show i = r ∨ i = r + 1 ∨ i = 1 by omega))
            refine li_if_eq 54 dX6_readProduct_40 (by decide) (fun c15 => ?_) (fun c15 => ?_)
            · have tc15 : x12.toInt = 0 := tl_eq c15
              refine li_iconst 0 dX6_readProduct_54 (by decide) ?_
              exact li_iret dX6_readProduct_55 rfl (li_nz (Or.inl rfl)) ⟨⟨_, rfl, Or.inl rfl⟩, hf⟩
            · have tc15 : ¬ x12.toInt = 0 := tl_ne c15
              refine li_aload_n 2 dX6_readProduct_43 rfl ?_
              refine li_ldcS 2 dX6_readProduct_44 (by decide) ⟨rfl, rfl⟩ ?_
              refine li_iload 0 dX6_readProduct_46 rfl ?_
              refine li_callV (n := 2) (As := [.ref (Z.2.2 (2100 + 2)), .int x8]) dX6_readProduct_48 (k_X6_addSign (d - 1) (by omega) hr (by decide) x8 M13) (by omega) (Nat.le_of_ble_eq_true rfl) w_665 w_667 w_7 w_110 w_668 (by decide +kernel) rfl (snR0 hr) (shR0 hr) rfl rfl (Nat.le_of_ble_eq_true rfl) (fun r M17 h18 => ?_)
              obtain ⟨⟨x16, rfl, bx16⟩, h18⟩ := h18
              have ux16 := tl_b bx16
              have hf := li_fr_trans hf h18 (fun i (h : i = r ∨ i = r + 1) => (show i = r ∨ i = r + 1 ∨ i = 1 by omega))
              refine li_if_ne 56 dX6_readProduct_51 (by decide) (fun c19 => ?_) (fun c19 => ?_)
              · have tc19 : ¬ x16.toInt = 0 := tl_ne c19
                obtain ⟨x20, ex20⟩ : ∃ y : Int32, y = x5 + 1 := ⟨_, rfl⟩
                have tx20 : (-2147483648 ≤ x5.toInt + 1 ∧ x5.toInt + 1 ≤ 2147483647) → x20.toInt = x5.toInt + 1 := tl_add ex20
                refine li_iinc 1 [(3, .int x20), (4, .int x8), (0, .ref (Z.2.2 r)), (1, .ref (Z.2.2 1)), (2, .int p1)] x20 dX6_readProduct_56 rfl (by rw [ex20]; rfl) (by decide) rfl ?_
                refine li_goto 13 dX6_readProduct_59 (by decide) ?_
                refine li_pick [0, 2, 3, 4] [(3, .int x20), (0, .ref (Z.2.2 r)), (1, .ref (Z.2.2 1)), (2, .int p1)] rfl ?_
                exact ih13 x20 M17 (by have h9 := li_up (li_gt c7); rw [← ex20] at h9; omega) hf
              · have tc19 : x16.toInt = 0 := tl_eq c19
                refine li_iconst 0 dX6_readProduct_54 (by decide) ?_
                exact li_iret dX6_readProduct_55 rfl (li_nz (Or.inl rfl)) ⟨⟨_, rfl, Or.inl rfl⟩, hf⟩
          · have tc11 : x8.toInt < 0 := tl_nle c11
            refine li_iconst 1 dX6_readProduct_32 (by decide) ?_
            exact li_iret dX6_readProduct_33 rfl (li_nz (Or.inr rfl)) ⟨⟨_, rfl, Or.inr rfl⟩, hf⟩
    have z0 : (0 : Int32).toInt = 0 := rfl
    exact L13 _ 0 M2 (Nat.lt_succ_self _) hf
  · have tc4 : x1.toInt = 0 := tl_eq c4
    refine li_iconst 0 dX6_readProduct_9 (by decide) ?_
    exact li_iret dX6_readProduct_10 rfl (li_nz (Or.inl rfl)) ⟨⟨_, rfl, Or.inl rfl⟩, hf⟩
set_option maxRecDepth 100000 in
set_option maxHeartbeats 4000000 in
theorem k_X6_readSum {l : Launch} {Z : li_Z} (d : Nat) (hd : 9 ≤ d) {r : Nat} (hr : li_ru r) (p1 : Int32) (dE : Nat) (IH : p1.toInt < 4 → ∀ (q : Int32), q.toInt = p1.toInt + 1 → ∀ (M : li_M), li_Met l Z YX6_readExpression dE [.ref (Z.2.2 r), .ref (Z.2.2 1), .int q] M (li_SZ (fun i => i = r ∨ i = r + 1 ∨ i = 1) M)) (hE : dE + 4 ≤ d) (M0 : li_M) : li_Met l Z YX6_readSum d [.ref (Z.2.2 r), .ref (Z.2.2 1), .int p1] M0 (li_SZ (fun i => i = r ∨ i = r + 1 ∨ i = 1) M0) := by
  refine li_enter (by decide +kernel) (Nat.le_of_ble_eq_true rfl) ?_
  show li_T l Z YX6_readSum d 0 [(0, .ref (Z.2.2 r)), (1, .ref (Z.2.2 1)), (2, .int p1)] [] M0 _
  have hf : li_fr (fun i => i = r ∨ i = r + 1 ∨ i = 1) M0 M0 := li_fr_refl
  have gp1 := tl_rg p1
  refine li_aload_n 0 dX6_readSum_0 rfl ?_
  refine li_aload_n 1 dX6_readSum_1 rfl ?_
  refine li_iload_n 2 dX6_readSum_2 rfl ?_
  refine li_callV (n := 2) (As := [.ref (Z.2.2 1), .int p1]) dX6_readSum_3 (k_X6_readProduct (d - 1) (by omega) hr p1 dE IH (by omega) M0) (by omega) (Nat.le_of_ble_eq_true rfl) w_576 w_578 w_3 w_110 w_579 (by decide +kernel) rfl (snR0 hr) (shR0 hr) rfl rfl (Nat.le_of_ble_eq_true rfl) (fun r M2 h3 => ?_)
  obtain ⟨⟨x1, rfl, bx1⟩, h3⟩ := h3
  have ux1 := tl_b bx1
  have hf := li_fr_trans hf h3 (fun i (h : i = r ∨ i = r + 1 ∨ i = 1) => (show i = r ∨ i = r + 1 ∨ i = 1 by omega))
  refine li_if_ne 11 dX6_readSum_6 (by decide) (fun c4 => ?_) (fun c4 => ?_)
  · have tc4 : ¬ x1.toInt = 0 := tl_ne c4
    refine li_iconst 0 dX6_readSum_11 (by decide) ?_
    refine li_istore_n [(3, .int 0), (0, .ref (Z.2.2 r)), (1, .ref (Z.2.2 1)), (2, .int p1)] dX6_readSum_12 (by decide) rfl ?_
    have L13 : ∀ (n : Nat) (x5 : Int32) (M6 : li_M), (2147483647 - (x5 : Int32).toInt).toNat < n → li_fr (fun i => i = r ∨ i = r + 1 ∨ i = 1) M0 M6 → li_T l Z YX6_readSum d 13 [(3, .int x5), (0, .ref (Z.2.2 r)), (1, .ref (Z.2.2 1)), (2, .int p1)] [] M6 (li_SZ (fun i => i = r ∨ i = r + 1 ∨ i = 1) M0) := by
      intro n
      induction n with
      | zero => intro x5 M6 hn; exact absurd hn (Nat.not_lt_zero _)
      | succ n ih13 =>
        intro x5 M6 hn hf
        have gx5 := tl_rg x5
        refine li_iload_n 0 dX6_readSum_13 rfl ?_
        refine li_bipush 80 dX6_readSum_14 (by decide) ?_
        refine li_icmp_ge 62 dX6_readSum_16 (by decide) (fun c7 => ?_) (fun c7 => ?_)
        · have tc7 : 80 ≤ x5.toInt := tl_le c7
          refine li_iconst 1 dX6_readSum_62 (by decide) ?_
          exact li_iret dX6_readSum_63 rfl (li_nz (Or.inr rfl)) ⟨⟨_, rfl, Or.inr rfl⟩, hf⟩
        · have tc7 : x5.toInt < 80 := tl_nle c7
          refine li_aload_n 2 dX6_readSum_19 rfl ?_
          refine li_ldcS 1 dX6_readSum_20 (by decide) ⟨rfl, rfl⟩ ?_
          refine li_callV (n := 1) (As := [.ref (Z.2.2 (2100 + 1))]) dX6_readSum_22 (k_X7_takeAnyOf (d - 1) (by omega) (by decide) M6) (by omega) (Nat.le_of_ble_eq_true rfl) w_596 w_597 w_598 w_105 w_599 (by decide +kernel) rfl (by decide) sh_1 rfl rfl (Nat.le_of_ble_eq_true rfl) (fun r M9 h10 => ?_)
          obtain ⟨⟨x8, rfl⟩, h10⟩ := h10
          have gx8 := tl_rg x8
          have hf := li_fr_trans hf h10 (fun i (h : i = 1) => (show i = r ∨ i = r + 1 ∨ i = 1 by omega))
          refine li_istore [(4, .int x8), (3, .int x5), (0, .ref (Z.2.2 r)), (1, .ref (Z.2.2 1)), (2, .int p1)] dX6_readSum_25 (by decide) rfl ?_
          refine li_iload 0 dX6_readSum_27 rfl ?_
          refine li_if_ge 34 dX6_readSum_29 (by decide) (fun c11 => ?_) (fun c11 => ?_)
          · have tc11 : 0 ≤ x8.toInt := tl_le c11
            refine li_aload_n 2 dX6_readSum_34 rfl ?_
            refine li_aload_n 3 dX6_readSum_35 rfl ?_
            refine li_iload_n 4 dX6_readSum_36 rfl ?_
            refine li_callV (n := 2) (As := [.ref (Z.2.2 1), .int p1]) dX6_readSum_37 (k_X6_readProduct (d - 1) (by omega) hr p1 dE IH (by omega) M9) (by omega) (Nat.le_of_ble_eq_true rfl) w_576 w_578 w_3 w_110 w_579 (by decide +kernel) rfl (snR0 hr) (shR0 hr) rfl rfl (Nat.le_of_ble_eq_true rfl) (fun r M13 h14 => ?_)
            obtain ⟨⟨x12, rfl, bx12⟩, h14⟩ := h14
            have ux12 := tl_b bx12
            have hf := li_fr_trans hf h14 (fun i (h : i = r ∨ i = r + 1 ∨ i = 1) => (show i = r ∨ i = r + 1 ∨ i = 1 by omega))
            refine li_if_eq 54 dX6_readSum_40 (by decide) (fun c15 => ?_) (fun c15 => ?_)
            · have tc15 : x12.toInt = 0 := tl_eq c15
              refine li_iconst 0 dX6_readSum_54 (by decide) ?_
              exact li_iret dX6_readSum_55 rfl (li_nz (Or.inl rfl)) ⟨⟨_, rfl, Or.inl rfl⟩, hf⟩
            · have tc15 : ¬ x12.toInt = 0 := tl_ne c15
              refine li_aload_n 2 dX6_readSum_43 rfl ?_
              refine li_ldcS 1 dX6_readSum_44 (by decide) ⟨rfl, rfl⟩ ?_
              refine li_iload 0 dX6_readSum_46 rfl ?_
              refine li_callV (n := 2) (As := [.ref (Z.2.2 (2100 + 1)), .int x8]) dX6_readSum_48 (k_X6_addSign (d - 1) (by omega) hr (by decide) x8 M13) (by omega) (Nat.le_of_ble_eq_true rfl) w_665 w_667 w_7 w_110 w_668 (by decide +kernel) rfl (snR0 hr) (shR0 hr) rfl rfl (Nat.le_of_ble_eq_true rfl) (fun r M17 h18 => ?_)
              obtain ⟨⟨x16, rfl, bx16⟩, h18⟩ := h18
              have ux16 := tl_b bx16
              have hf := li_fr_trans hf h18 (fun i (h : i = r ∨ i = r + 1) => (show i = r ∨ i = r + 1 ∨ i = 1 by omega))
              refine li_if_ne 56 dX6_readSum_51 (by decide) (fun c19 => ?_) (fun c19 => ?_)
              · have tc19 : ¬ x16.toInt = 0 := tl_ne c19
                obtain ⟨x20, ex20⟩ : ∃ y : Int32, y = x5 + 1 := ⟨_, rfl⟩
                have tx20 : (-2147483648 ≤ x5.toInt + 1 ∧ x5.toInt + 1 ≤ 2147483647) → x20.toInt = x5.toInt + 1 := tl_add ex20
                refine li_iinc 1 [(3, .int x20), (4, .int x8), (0, .ref (Z.2.2 r)), (1, .ref (Z.2.2 1)), (2, .int p1)] x20 dX6_readSum_56 rfl (by rw [ex20]; rfl) (by decide) rfl ?_
                refine li_goto 13 dX6_readSum_59 (by decide) ?_
                refine li_pick [0, 2, 3, 4] [(3, .int x20), (0, .ref (Z.2.2 r)), (1, .ref (Z.2.2 1)), (2, .int p1)] rfl ?_
                exact ih13 x20 M17 (by have h9 := li_up (li_gt c7); rw [← ex20] at h9; omega) hf
              · have tc19 : x16.toInt = 0 := tl_eq c19
                refine li_iconst 0 dX6_readSum_54 (by decide) ?_
                exact li_iret dX6_readSum_55 rfl (li_nz (Or.inl rfl)) ⟨⟨_, rfl, Or.inl rfl⟩, hf⟩
          · have tc11 : x8.toInt < 0 := tl_nle c11
            refine li_iconst 1 dX6_readSum_32 (by decide) ?_
            exact li_iret dX6_readSum_33 rfl (li_nz (Or.inr rfl)) ⟨⟨_, rfl, Or.inr rfl⟩, hf⟩
    have z0 : (0 : Int32).toInt = 0 := rfl
    exact L13 _ 0 M2 (Nat.lt_succ_self _) hf
  · have tc4 : x1.toInt = 0 := tl_eq c4
    refine li_iconst 0 dX6_readSum_9 (by decide) ?_
    exact li_iret dX6_readSum_10 rfl (li_nz (Or.inl rfl)) ⟨⟨_, rfl, Or.inl rfl⟩, hf⟩
set_option maxRecDepth 100000 in
set_option maxHeartbeats 4000000 in
theorem k_X6_readExpression {l : Launch} {Z : li_Z} (d : Nat) (hd : 10 ≤ d) {r : Nat} (hr : li_ru r) (p1 : Int32) (dE : Nat) (IH : p1.toInt < 4 → ∀ (q : Int32), q.toInt = p1.toInt + 1 → ∀ (M : li_M), li_Met l Z YX6_readExpression dE [.ref (Z.2.2 r), .ref (Z.2.2 1), .int q] M (li_SZ (fun i => i = r ∨ i = r + 1 ∨ i = 1) M)) (hE : dE + 5 ≤ d) (M0 : li_M) : li_Met l Z YX6_readExpression d [.ref (Z.2.2 r), .ref (Z.2.2 1), .int p1] M0 (li_SZ (fun i => i = r ∨ i = r + 1 ∨ i = 1) M0) := by
  refine li_enter (by decide +kernel) (Nat.le_of_ble_eq_true rfl) ?_
  show li_T l Z YX6_readExpression d 0 [(0, .ref (Z.2.2 r)), (1, .ref (Z.2.2 1)), (2, .int p1)] [] M0 _
  have hf : li_fr (fun i => i = r ∨ i = r + 1 ∨ i = 1) M0 M0 := li_fr_refl
  have gp1 := tl_rg p1
  refine li_iload_n 2 dX6_readExpression_0 rfl ?_
  refine li_iconst 4 dX6_readExpression_1 (by decide) ?_
  refine li_icmp_gt 14 dX6_readExpression_2 (by decide) (fun c1 => ?_) (fun c1 => ?_)
  · have tc1 : 4 < p1.toInt := tl_lt c1
    refine li_iconst 0 dX6_readExpression_14 (by decide) ?_
    exact li_iret dX6_readExpression_15 rfl (li_nz (Or.inl rfl)) ⟨⟨_, rfl, Or.inl rfl⟩, hf⟩
  · have tc1 : p1.toInt ≤ 4 := tl_nlt c1
    refine li_aload_n 0 dX6_readExpression_5 rfl ?_
    refine li_aload_n 1 dX6_readExpression_6 rfl ?_
    refine li_iload_n 2 dX6_readExpression_7 rfl ?_
    refine li_callV (n := 2) (As := [.ref (Z.2.2 1), .int p1]) dX6_readExpression_8 (k_X6_readSum (d - 1) (by omega) hr p1 dE IH (by omega) M0) (by omega) (Nat.le_of_ble_eq_true rfl) w_572 w_574 w_2 w_110 w_575 (by decide +kernel) rfl (snR0 hr) (shR0 hr) rfl rfl (Nat.le_of_ble_eq_true rfl) (fun r M3 h4 => ?_)
    obtain ⟨⟨x2, rfl, bx2⟩, h4⟩ := h4
    have ux2 := tl_b bx2
    have hf := li_fr_trans hf h4 (fun i (h : i = r ∨ i = r + 1 ∨ i = 1) => (show i = r ∨ i = r + 1 ∨ i = 1 by omega))
    refine li_if_ne 16 dX6_readExpression_11 (by decide) (fun c5 => ?_) (fun c5 => ?_)
    · have tc5 : ¬ x2.toInt = 0 := tl_ne c5
      refine li_aload_n 1 dX6_readExpression_16 rfl ?_
      refine li_ldcS 0 dX6_readExpression_17 (by decide) ⟨rfl, rfl⟩ ?_
      refine li_callV (n := 1) (As := [.ref (Z.2.2 (2100 + 0))]) dX6_readExpression_19 (k_X7_takeAnyOf (d - 1) (by omega) (by decide) M3) (by omega) (Nat.le_of_ble_eq_true rfl) w_596 w_597 w_598 w_105 w_599 (by decide +kernel) rfl (by decide) sh_1 rfl rfl (Nat.le_of_ble_eq_true rfl) (fun r M7 h8 => ?_)
      obtain ⟨⟨x6, rfl⟩, h8⟩ := h8
      have gx6 := tl_rg x6
      have hf := li_fr_trans hf h8 (fun i (h : i = 1) => (show i = r ∨ i = r + 1 ∨ i = 1 by omega))
      refine li_istore_n [(3, .int x6), (0, .ref (Z.2.2 r)), (1, .ref (Z.2.2 1)), (2, .int p1)] dX6_readExpression_22 (by decide) rfl ?_
      refine li_iload_n 0 dX6_readExpression_23 rfl ?_
      refine li_if_lt 46 dX6_readExpression_24 (by decide) (fun c9 => ?_) (fun c9 => ?_)
      · have tc9 : x6.toInt < 0 := tl_lt c9
        refine li_iconst 1 dX6_readExpression_46 (by decide) ?_
        refine li_goto 51 dX6_readExpression_47 (by decide) ?_
        exact li_iret dX6_readExpression_51 rfl (li_nz (Or.inr rfl)) ⟨⟨_, rfl, Or.inr rfl⟩, hf⟩
      · have tc9 : 0 ≤ x6.toInt := tl_nlt c9
        refine li_aload_n 1 dX6_readExpression_27 rfl ?_
        refine li_aload_n 2 dX6_readExpression_28 rfl ?_
        refine li_iload_n 3 dX6_readExpression_29 rfl ?_
        refine li_callV (n := 2) (As := [.ref (Z.2.2 1), .int p1]) dX6_readExpression_30 (k_X6_readSum (d - 1) (by omega) hr p1 dE IH (by omega) M7) (by omega) (Nat.le_of_ble_eq_true rfl) w_572 w_574 w_2 w_110 w_575 (by decide +kernel) rfl (snR0 hr) (shR0 hr) rfl rfl (Nat.le_of_ble_eq_true rfl) (fun r M11 h12 => ?_)
        obtain ⟨⟨x10, rfl, bx10⟩, h12⟩ := h12
        have ux10 := tl_b bx10
        have hf := li_fr_trans hf h12 (fun i (h : i = r ∨ i = r + 1 ∨ i = 1) => (show i = r ∨ i = r + 1 ∨ i = 1 by omega))
        refine li_if_eq 50 dX6_readExpression_33 (by decide) (fun c13 => ?_) (fun c13 => ?_)
        · have tc13 : x10.toInt = 0 := tl_eq c13
          refine li_iconst 0 dX6_readExpression_50 (by decide) ?_
          exact li_iret dX6_readExpression_51 rfl (li_nz (Or.inl rfl)) ⟨⟨_, rfl, Or.inl rfl⟩, hf⟩
        · have tc13 : ¬ x10.toInt = 0 := tl_ne c13
          refine li_aload_n 1 dX6_readExpression_36 rfl ?_
          refine li_ldcS 0 dX6_readExpression_37 (by decide) ⟨rfl, rfl⟩ ?_
          refine li_iload_n 0 dX6_readExpression_39 rfl ?_
          refine li_callV (n := 2) (As := [.ref (Z.2.2 (2100 + 0)), .int x6]) dX6_readExpression_40 (k_X6_addSign (d - 1) (by omega) hr (by decide) x6 M11) (by omega) (Nat.le_of_ble_eq_true rfl) w_665 w_667 w_7 w_110 w_668 (by decide +kernel) rfl (snR0 hr) (shR0 hr) rfl rfl (Nat.le_of_ble_eq_true rfl) (fun r M15 h16 => ?_)
          obtain ⟨⟨x14, rfl, bx14⟩, h16⟩ := h16
          have ux14 := tl_b bx14
          have hf := li_fr_trans hf h16 (fun i (h : i = r ∨ i = r + 1) => (show i = r ∨ i = r + 1 ∨ i = 1 by omega))
          refine li_if_eq 50 dX6_readExpression_43 (by decide) (fun c17 => ?_) (fun c17 => ?_)
          · have tc17 : x14.toInt = 0 := tl_eq c17
            refine li_iconst 0 dX6_readExpression_50 (by decide) ?_
            exact li_iret dX6_readExpression_51 rfl (li_nz (Or.inl rfl)) ⟨⟨_, rfl, Or.inl rfl⟩, hf⟩
          · have tc17 : ¬ x14.toInt = 0 := tl_ne c17
            refine li_iconst 1 dX6_readExpression_46 (by decide) ?_
            refine li_goto 51 dX6_readExpression_47 (by decide) ?_
            exact li_iret dX6_readExpression_51 rfl (li_nz (Or.inr rfl)) ⟨⟨_, rfl, Or.inr rfl⟩, hf⟩
    · have tc5 : x2.toInt = 0 := tl_eq c5
      refine li_iconst 0 dX6_readExpression_14 (by decide) ?_
      exact li_iret dX6_readExpression_15 rfl (li_nz (Or.inl rfl)) ⟨⟨_, rfl, Or.inl rfl⟩, hf⟩
theorem kk_X6_readExpression {l : Launch} {Z : li_Z} {r : Nat} (hr : li_ru r) : ∀ (n d : Nat) (p1 : Int32) (M0 : li_M), (4 - p1.toInt).toNat ≤ n → 5 * n + 12 ≤ d → li_Met l Z YX6_readExpression d [.ref (Z.2.2 r), .ref (Z.2.2 1), .int p1] M0 (li_SZ (fun i => i = r ∨ i = r + 1 ∨ i = 1) M0) := by
  intro n
  induction n with
  | zero =>
    intro d p1 M0 h1 h2
    exact k_X6_readExpression d (by omega) hr p1 0 (fun h => absurd h (by omega)) (by omega) M0
  | succ n ih =>
    intro d p1 M0 h1 h2
    exact k_X6_readExpression d (by omega) hr p1 (5 * n + 12) (fun h q hq M => ih (5 * n + 12) q M (by omega) (by omega)) (by omega) M0
set_option maxRecDepth 100000 in
set_option maxHeartbeats 4000000 in
theorem k_X6_readAll {l : Launch} {Z : li_Z} (d : Nat) (hd : 34 ≤ d) {r : Nat} (hr : li_ru r) (M0 : li_M) : li_Met l Z YX6_readAll d [.ref (Z.2.2 r), .ref (Z.2.2 1)] M0 (li_SZ (fun i => i = r ∨ i = r + 1 ∨ i = 1) M0) := by
  refine li_enter (by decide +kernel) (Nat.le_of_ble_eq_true rfl) ?_
  show li_T l Z YX6_readAll d 0 [(0, .ref (Z.2.2 r)), (1, .ref (Z.2.2 1))] [] M0 _
  have hf : li_fr (fun i => i = r ∨ i = r + 1 ∨ i = 1) M0 M0 := li_fr_refl
  refine li_aload_n 0 dX6_readAll_0 rfl ?_
  refine li_iconst 0 dX6_readAll_1 (by decide) ?_
  refine li_puti (k := 3) (N := 4) (T := TX6) (C0 := RX6) dX6_readAll_2 (snR0 hr) (shR0 hr) rfl rfl (by decide) li_in6 tyX6_ok nmX6 rfl rfl rfl rfl w_322 ?_
  refine li_nm (fun M1 eM1 => ?_)
  have hf := li_fr_ui hf (show r = r ∨ r = r + 1 ∨ r = 1 by omega) eM1
  refine li_aload_n 1 dX6_readAll_5 rfl ?_
  refine li_callV (n := 0) (As := []) dX6_readAll_6 (k_X7_atEnd (d - 1) (by omega)  M1) (by omega) (Nat.le_of_ble_eq_true rfl) w_564 w_565 w_566 w_105 w_567 (by decide +kernel) rfl (by decide) sh_1 rfl rfl (Nat.le_of_ble_eq_true rfl) (fun r M3 h4 => ?_)
  obtain ⟨⟨x2, rfl, bx2⟩, h4⟩ := h4
  have hf := li_fr_trans hf h4 (fun i h => False.elim h)
  refine li_if_ne 28 dX6_readAll_9 (by decide) (fun c5 => ?_) (fun c5 => ?_)
  · refine li_iconst 1 dX6_readAll_28 (by decide) ?_
    refine li_goto 33 dX6_readAll_29 (by decide) ?_
    exact li_iret dX6_readAll_33 rfl (li_nz (Or.inr rfl)) ⟨⟨_, rfl, Or.inr rfl⟩, hf⟩
  · refine li_aload_n 0 dX6_readAll_12 rfl ?_
    refine li_aload_n 1 dX6_readAll_13 rfl ?_
    refine li_iconst 0 dX6_readAll_14 (by decide) ?_
    refine li_callV (n := 2) (As := [.ref (Z.2.2 1), .int 0]) dX6_readAll_15 (kk_X6_readExpression hr 4 (d - 1) 0 M3 (by decide) (by omega)) (by omega) (Nat.le_of_ble_eq_true rfl) w_568 w_570 w_1 w_110 w_571 (by decide +kernel) rfl (snR0 hr) (shR0 hr) rfl rfl (Nat.le_of_ble_eq_true rfl) (fun r M7 h8 => ?_)
    obtain ⟨⟨x6, rfl, bx6⟩, h8⟩ := h8
    have hf := li_fr_trans hf h8 (fun i (h : i = r ∨ i = r + 1 ∨ i = 1) => (show i = r ∨ i = r + 1 ∨ i = 1 by omega))
    refine li_if_eq 32 dX6_readAll_18 (by decide) (fun c9 => ?_) (fun c9 => ?_)
    · refine li_iconst 0 dX6_readAll_32 (by decide) ?_
      exact li_iret dX6_readAll_33 rfl (li_nz (Or.inl rfl)) ⟨⟨_, rfl, Or.inl rfl⟩, hf⟩
    · refine li_aload_n 1 dX6_readAll_21 rfl ?_
      refine li_callV (n := 0) (As := []) dX6_readAll_22 (k_X7_atEnd (d - 1) (by omega)  M7) (by omega) (Nat.le_of_ble_eq_true rfl) w_564 w_565 w_566 w_105 w_567 (by decide +kernel) rfl (by decide) sh_1 rfl rfl (Nat.le_of_ble_eq_true rfl) (fun r M11 h12 => ?_)
      obtain ⟨⟨x10, rfl, bx10⟩, h12⟩ := h12
      have hf := li_fr_trans hf h12 (fun i h => False.elim h)
      refine li_if_eq 32 dX6_readAll_25 (by decide) (fun c13 => ?_) (fun c13 => ?_)
      · refine li_iconst 0 dX6_readAll_32 (by decide) ?_
        exact li_iret dX6_readAll_33 rfl (li_nz (Or.inl rfl)) ⟨⟨_, rfl, Or.inl rfl⟩, hf⟩
      · refine li_iconst 1 dX6_readAll_28 (by decide) ?_
        refine li_goto 33 dX6_readAll_29 (by decide) ?_
        exact li_iret dX6_readAll_33 rfl (li_nz (Or.inr rfl)) ⟨⟨_, rfl, Or.inr rfl⟩, hf⟩
set_option maxRecDepth 100000 in
set_option maxHeartbeats 4000000 in
theorem k_X6_copyFrom {l : Launch} {Z : li_Z} (d : Nat) (hd : 1 ≤ d) (M0 : li_M) : li_Met l Z YX6_copyFrom d [.ref (Z.2.2 144), .ref (Z.2.2 151)] M0 (li_SV (fun i => i = 144 ∨ i = 145) M0) := by
  refine li_enter (by decide +kernel) (Nat.le_of_ble_eq_true rfl) ?_
  show li_T l Z YX6_copyFrom d 0 [(0, .ref (Z.2.2 144)), (1, .ref (Z.2.2 151))] [] M0 _
  have hf : li_fr (fun i => i = 144 ∨ i = 145) M0 M0 := li_fr_refl
  refine li_aload_n 0 dX6_copyFrom_0 rfl ?_
  refine li_aload_n 1 dX6_copyFrom_1 rfl ?_
  refine li_geti (k := 3) (N := 4) (T := TX6) (C0 := RX6) dX6_copyFrom_2 (by decide) sh_151 rfl rfl (by decide) li_in6 w_322 ?_
  refine li_top (fun x1 ex1 => ?_)
  refine li_puti (k := 3) (N := 4) (T := TX6) (C0 := RX6) dX6_copyFrom_5 (by decide) sh_144 rfl rfl (by decide) li_in6 tyX6_ok nmX6 rfl rfl rfl rfl w_322 ?_
  refine li_nm (fun M2 eM2 => ?_)
  have hf := li_fr_ui hf (show 144 = 144 ∨ 144 = 145 by omega) eM2
  refine li_aload_n 1 dX6_copyFrom_8 rfl ?_
  refine li_getr (k := 0) (N := 4) (T := TX6) (C0 := RX6) dX6_copyFrom_9 (by decide) sh_151 rfl rfl (by decide) (by decide) li_in6 w_318 ?_
  refine li_iconst 0 dX6_copyFrom_12 (by decide) ?_
  refine li_aload_n 0 dX6_copyFrom_13 rfl ?_
  refine li_getr (k := 0) (N := 4) (T := TX6) (C0 := RX6) dX6_copyFrom_14 (by decide) sh_144 rfl rfl (by decide) (by decide) li_in6 w_318 ?_
  refine li_iconst 0 dX6_copyFrom_17 (by decide) ?_
  refine li_bipush 80 dX6_copyFrom_18 (by decide) ?_
  refine li_copyI dX6_copyFrom_20 (by omega) w_771 w_773 w_772 w_122 (by decide) sh_152 (by decide) sh_145 (by decide) (by decide) (by decide) (Nat.le_of_ble_eq_true rfl) ?_
  refine li_nm (fun M3 eM3 => ?_)
  have hf := li_fr_uc hf (show 145 = 144 ∨ 145 = 145 by omega) eM3
  exact li_vret dX6_copyFrom_23 rfl ⟨rfl, hf⟩
set_option maxRecDepth 100000 in
set_option maxHeartbeats 4000000 in
theorem k_X6_evaluate {l : Launch} {Z : li_Z} (d : Nat) (hd : 2 ≤ d) {r : Nat} (hr : li_ru r) (M0 : li_M) : li_Met l Z YX6_evaluate d [.ref (Z.2.2 r)] M0 (li_SI (fun i => i = r + 2) M0) := by
  refine li_enter (by decide +kernel) (Nat.le_of_ble_eq_true rfl) ?_
  show li_T l Z YX6_evaluate d 0 [(0, .ref (Z.2.2 r))] [] M0 _
  have hf : li_fr (fun i => i = r + 2) M0 M0 := li_fr_refl
  refine li_aload_n 0 dX6_evaluate_0 rfl ?_
  refine li_geti (k := 3) (N := 4) (T := TX6) (C0 := RX6) dX6_evaluate_1 (snR0 hr) (shR0 hr) rfl rfl (by decide) li_in6 w_322 ?_
  refine li_top (fun x1 ex1 => ?_)
  refine li_if_ne 27 dX6_evaluate_4 (by decide) (fun c2 => ?_) (fun c2 => ?_)
  · refine li_iconst 0 dX6_evaluate_27 (by decide) ?_
    refine li_istore_n [(1, .int 0), (0, .ref (Z.2.2 r))] dX6_evaluate_28 (by decide) rfl ?_
    refine li_iconst 0 dX6_evaluate_29 (by decide) ?_
    refine li_istore_n [(2, .int 0), (1, .int 0), (0, .ref (Z.2.2 r))] dX6_evaluate_30 (by decide) rfl ?_
    have L31 : ∀ (n : Nat) (x3 : Int32) (x4 : Int32) (M5 : li_M), (2147483647 - (x3 : Int32).toInt).toNat < n → li_fr (fun i => i = r + 2) M0 M5 → li_T l Z YX6_evaluate d 31 [(2, .int x3), (1, .int x4), (0, .ref (Z.2.2 r))] [] M5 (li_SI (fun i => i = r + 2) M0) := by
      intro n
      induction n with
      | zero => intro x3 x4 M5 hn; exact absurd hn (Nat.not_lt_zero _)
      | succ n ih31 =>
        intro x3 x4 M5 hn hf
        refine li_iload_n 0 dX6_evaluate_31 rfl ?_
        refine li_aload_n 2 dX6_evaluate_32 rfl ?_
        refine li_geti (k := 3) (N := 4) (T := TX6) (C0 := RX6) dX6_evaluate_33 (snR0 hr) (shR0 hr) rfl rfl (by decide) li_in6 w_322 ?_
        refine li_top (fun x6 ex6 => ?_)
        refine li_icmp_ge 172 dX6_evaluate_36 (by decide) (fun c7 => ?_) (fun c7 => ?_)
        · refine li_aload_n 2 dX6_evaluate_172 rfl ?_
          refine li_getr (k := 1) (N := 4) (T := TX6) (C0 := RX6) dX6_evaluate_173 (snR0 hr) (shR0 hr) rfl rfl (lkR2 hr) (by decide) li_in6 w_319 ?_
          refine li_iconst 0 dX6_evaluate_176 (by decide) ?_
          refine li_callN (n := 2) (As := [.ref (Z.2.2 (r + 2)), .int 0]) dX6_evaluate_177 (k_X11_at (d - 1) (by omega) (snR2 hr) (shR2 hr) (by decide) 0 M5) (by omega) (Nat.le_of_ble_eq_true rfl) nw_19 w_589 w_104 w_590 (by decide +kernel) rfl rfl (Nat.le_of_ble_eq_true rfl) (fun r M9 h10 => ?_)
          obtain ⟨⟨x8, rfl⟩, h10⟩ := h10
          have hf := li_fr_trans hf h10 (fun i h => False.elim h)
          refine li_sipush 999 dX6_evaluate_180 (by decide) ?_
          refine li_callN (n := 2) (As := [.int x8, .int 999]) dX6_evaluate_183 (k_X11_clamp (d - 1) (by omega) x8 999 M9) (by omega) (Nat.le_of_ble_eq_true rfl) nw_20 w_792 w_104 w_793 (by decide +kernel) rfl rfl (Nat.le_of_ble_eq_true rfl) (fun r M12 h13 => ?_)
          obtain ⟨⟨x11, rfl⟩, h13⟩ := h13
          have hf := li_fr_trans hf h13 (fun i h => False.elim h)
          exact li_iret dX6_evaluate_186 rfl rfl ⟨⟨_, rfl⟩, hf⟩
        · refine li_aload_n 2 dX6_evaluate_39 rfl ?_
          refine li_getr (k := 0) (N := 4) (T := TX6) (C0 := RX6) dX6_evaluate_40 (snR0 hr) (shR0 hr) rfl rfl (lkR1 hr) (by decide) li_in6 w_318 ?_
          refine li_iload_n 0 dX6_evaluate_43 rfl ?_
          refine li_callN (n := 2) (As := [.ref (Z.2.2 (r + 1)), .int x3]) dX6_evaluate_44 (k_X11_at (d - 1) (by omega) (snR1 hr) (shR1 hr) (by decide) x3 M5) (by omega) (Nat.le_of_ble_eq_true rfl) nw_19 w_589 w_104 w_590 (by decide +kernel) rfl rfl (Nat.le_of_ble_eq_true rfl) (fun r M15 h16 => ?_)
          obtain ⟨⟨x14, rfl⟩, h16⟩ := h16
          have hf := li_fr_trans hf h16 (fun i h => False.elim h)
          refine li_istore_n [(3, .int x14), (2, .int x3), (1, .int x4), (0, .ref (Z.2.2 r))] dX6_evaluate_47 (by decide) rfl ?_
          refine li_iload_n 0 dX6_evaluate_48 rfl ?_
          refine li_sipush 1000 dX6_evaluate_49 (by decide) ?_
          have J166 : ∀ (x18 : Int32) (M19 : li_M), li_fr (fun i => i = r + 2) M0 M19 → li_T l Z YX6_evaluate d 166 [(3, .int x14), (2, .int x3), (1, .int x18), (0, .ref (Z.2.2 r))] [] M19 (li_SI (fun i => i = r + 2) M0) := by
            intro x18 M19 hf
            obtain ⟨x20, ex20⟩ : ∃ y : Int32, y = x3 + 1 := ⟨_, rfl⟩
            refine li_iinc 1 [(2, .int x20), (3, .int x14), (1, .int x18), (0, .ref (Z.2.2 r))] x20 dX6_evaluate_166 rfl (by rw [ex20]; rfl) (by decide) rfl ?_
            refine li_goto 31 dX6_evaluate_169 (by decide) ?_
            refine li_pick [0, 2, 3] [(2, .int x20), (1, .int x18), (0, .ref (Z.2.2 r))] rfl ?_
            exact ih31 x20 x18 M19 (by have h9 := li_up (li_gt c7); rw [← ex20] at h9; omega) hf
          refine li_icmp_lt 81 dX6_evaluate_52 (by decide) (fun c17 => ?_) (fun c17 => ?_)
          · refine li_iload_n 0 dX6_evaluate_81 rfl ?_
            refine li_if_lt 100 dX6_evaluate_82 (by decide) (fun c21 => ?_) (fun c21 => ?_)
            · refine li_iload_n 0 dX6_evaluate_100 rfl ?_
              refine li_bipush (-126) dX6_evaluate_101 (by decide) ?_
              refine li_icmp_ne 130 dX6_evaluate_103 (by decide) (fun c22 => ?_) (fun c22 => ?_)
              · obtain ⟨x23, ex23⟩ : ∃ y : Int32, y = x4 + (-1) := ⟨_, rfl⟩
                refine li_iinc 2 [(1, .int x23), (3, .int x14), (2, .int x3), (0, .ref (Z.2.2 r))] x23 dX6_evaluate_130 rfl (by rw [ex23]; rfl) (by decide) rfl ?_
                refine li_aload_n 3 dX6_evaluate_133 rfl ?_
                refine li_getr (k := 1) (N := 4) (T := TX6) (C0 := RX6) dX6_evaluate_134 (snR0 hr) (shR0 hr) rfl rfl (lkR2 hr) (by decide) li_in6 w_319 ?_
                refine li_iload_n 0 dX6_evaluate_137 rfl ?_
                refine li_iconst 1 dX6_evaluate_138 (by decide) ?_
                refine li_isub dX6_evaluate_139 ?_
                refine li_top (fun x24 ex24 => ?_)
                refine li_iload_n 1 dX6_evaluate_140 rfl ?_
                refine li_ineg dX6_evaluate_141 ?_
                refine li_top (fun x25 ex25 => ?_)
                refine li_aload_n 3 dX6_evaluate_142 rfl ?_
                refine li_getr (k := 1) (N := 4) (T := TX6) (C0 := RX6) dX6_evaluate_143 (snR0 hr) (shR0 hr) rfl rfl (lkR2 hr) (by decide) li_in6 w_319 ?_
                refine li_iload_n 0 dX6_evaluate_146 rfl ?_
                refine li_iconst 1 dX6_evaluate_147 (by decide) ?_
                refine li_isub dX6_evaluate_148 ?_
                refine li_top (fun x26 ex26 => ?_)
                refine li_callN (n := 2) (As := [.ref (Z.2.2 (r + 2)), .int x26]) dX6_evaluate_149 (k_X11_at (d - 1) (by omega) (snR2 hr) (shR2 hr) (by decide) x26 M15) (by omega) (Nat.le_of_ble_eq_true rfl) nw_19 w_589 w_104 w_590 (by decide +kernel) rfl rfl (Nat.le_of_ble_eq_true rfl) (fun r M28 h29 => ?_)
                obtain ⟨⟨x27, rfl⟩, h29⟩ := h29
                have hf := li_fr_trans hf h29 (fun i h => False.elim h)
                refine li_aload_n 3 dX6_evaluate_152 rfl ?_
                refine li_getr (k := 1) (N := 4) (T := TX6) (C0 := RX6) dX6_evaluate_153 (snR0 hr) (shR0 hr) rfl rfl (lkR2 hr) (by decide) li_in6 w_319 ?_
                refine li_iload_n 0 dX6_evaluate_156 rfl ?_
                refine li_callN (n := 2) (As := [.ref (Z.2.2 (r + 2)), .int x23]) dX6_evaluate_157 (k_X11_at (d - 1) (by omega) (snR2 hr) (shR2 hr) (by decide) x23 M28) (by omega) (Nat.le_of_ble_eq_true rfl) nw_19 w_589 w_104 w_590 (by decide +kernel) rfl rfl (Nat.le_of_ble_eq_true rfl) (fun r M31 h32 => ?_)
                obtain ⟨⟨x30, rfl⟩, h32⟩ := h32
                have hf := li_fr_trans hf h32 (fun i h => False.elim h)
                refine li_callS (n := 3) (As := [.int x25, .int x27, .int x30]) dX6_evaluate_160 (k_X6_reckon (d - 1) (by omega) x25 x27 x30 M31) (by omega) (Nat.le_of_ble_eq_true rfl) w_855 w_856 w_110 w_857 (by decide +kernel) rfl rfl (Nat.le_of_ble_eq_true rfl) (fun r M34 h35 => ?_)
                obtain ⟨⟨x33, rfl⟩, h35⟩ := h35
                have hf := li_fr_trans hf h35 (fun i h => False.elim h)
                refine li_callN (n := 3) (As := [.ref (Z.2.2 (r + 2)), .int x24, .int x33]) dX6_evaluate_163 (k_X11_put (d - 1) (by omega) (snR2 hr) (shR2 hr) (by decide) x24 x33 M34) (by omega) (Nat.le_of_ble_eq_true rfl) nw_10 w_542 w_104 w_543 (by decide +kernel) rfl rfl (Nat.le_of_ble_eq_true rfl) (fun r M37 h38 => ?_)
                obtain ⟨rfl, h38⟩ := h38
                have hf := li_fr_trans hf h38 (fun i (h : i = r + 2) => (show i = r + 2 by omega))
                refine li_pick [1, 2, 0, 3] [(3, .int x14), (2, .int x3), (1, .int x23), (0, .ref (Z.2.2 r))] rfl ?_
                exact J166 x23 M37 hf
              · refine li_aload_n 3 dX6_evaluate_106 rfl ?_
                refine li_getr (k := 1) (N := 4) (T := TX6) (C0 := RX6) dX6_evaluate_107 (snR0 hr) (shR0 hr) rfl rfl (lkR2 hr) (by decide) li_in6 w_319 ?_
                refine li_iload_n 2 dX6_evaluate_110 rfl ?_
                refine li_iconst 1 dX6_evaluate_111 (by decide) ?_
                refine li_isub dX6_evaluate_112 ?_
                refine li_top (fun x39 ex39 => ?_)
                refine li_aload_n 3 dX6_evaluate_113 rfl ?_
                refine li_getr (k := 1) (N := 4) (T := TX6) (C0 := RX6) dX6_evaluate_114 (snR0 hr) (shR0 hr) rfl rfl (lkR2 hr) (by decide) li_in6 w_319 ?_
                refine li_iload_n 2 dX6_evaluate_117 rfl ?_
                refine li_iconst 1 dX6_evaluate_118 (by decide) ?_
                refine li_isub dX6_evaluate_119 ?_
                refine li_top (fun x40 ex40 => ?_)
                refine li_callN (n := 2) (As := [.ref (Z.2.2 (r + 2)), .int x40]) dX6_evaluate_120 (k_X11_at (d - 1) (by omega) (snR2 hr) (shR2 hr) (by decide) x40 M15) (by omega) (Nat.le_of_ble_eq_true rfl) nw_19 w_589 w_104 w_590 (by decide +kernel) rfl rfl (Nat.le_of_ble_eq_true rfl) (fun r M42 h43 => ?_)
                obtain ⟨⟨x41, rfl⟩, h43⟩ := h43
                have hf := li_fr_trans hf h43 (fun i h => False.elim h)
                refine li_ineg dX6_evaluate_123 ?_
                refine li_top (fun x44 ex44 => ?_)
                refine li_callN (n := 3) (As := [.ref (Z.2.2 (r + 2)), .int x39, .int x44]) dX6_evaluate_124 (k_X11_put (d - 1) (by omega) (snR2 hr) (shR2 hr) (by decide) x39 x44 M42) (by omega) (Nat.le_of_ble_eq_true rfl) nw_10 w_542 w_104 w_543 (by decide +kernel) rfl rfl (Nat.le_of_ble_eq_true rfl) (fun r M46 h47 => ?_)
                obtain ⟨rfl, h47⟩ := h47
                have hf := li_fr_trans hf h47 (fun i (h : i = r + 2) => (show i = r + 2 by omega))
                refine li_goto 166 dX6_evaluate_127 (by decide) ?_
                refine li_pick [0, 1, 2, 3] [(3, .int x14), (2, .int x3), (1, .int x4), (0, .ref (Z.2.2 r))] rfl ?_
                exact J166 x4 M46 hf
            · refine li_aload_n 3 dX6_evaluate_85 rfl ?_
              refine li_getr (k := 1) (N := 4) (T := TX6) (C0 := RX6) dX6_evaluate_86 (snR0 hr) (shR0 hr) rfl rfl (lkR2 hr) (by decide) li_in6 w_319 ?_
              refine li_iload_n 2 dX6_evaluate_89 rfl ?_
              obtain ⟨x48, ex48⟩ : ∃ y : Int32, y = x4 + 1 := ⟨_, rfl⟩
              refine li_iinc 2 [(1, .int x48), (3, .int x14), (2, .int x3), (0, .ref (Z.2.2 r))] x48 dX6_evaluate_90 rfl (by rw [ex48]; rfl) (by decide) rfl ?_
              refine li_iload_n 1 dX6_evaluate_93 rfl ?_
              refine li_callN (n := 3) (As := [.ref (Z.2.2 (r + 2)), .int x4, .int x14]) dX6_evaluate_94 (k_X11_put (d - 1) (by omega) (snR2 hr) (shR2 hr) (by decide) x4 x14 M15) (by omega) (Nat.le_of_ble_eq_true rfl) nw_10 w_542 w_104 w_543 (by decide +kernel) rfl rfl (Nat.le_of_ble_eq_true rfl) (fun r M50 h51 => ?_)
              obtain ⟨rfl, h51⟩ := h51
              have hf := li_fr_trans hf h51 (fun i (h : i = r + 2) => (show i = r + 2 by omega))
              refine li_goto 166 dX6_evaluate_97 (by decide) ?_
              refine li_pick [1, 2, 0, 3] [(3, .int x14), (2, .int x3), (1, .int x48), (0, .ref (Z.2.2 r))] rfl ?_
              exact J166 x48 M50 hf
          · refine li_aload_n 3 dX6_evaluate_55 rfl ?_
            refine li_getr (k := 1) (N := 4) (T := TX6) (C0 := RX6) dX6_evaluate_56 (snR0 hr) (shR0 hr) rfl rfl (lkR2 hr) (by decide) li_in6 w_319 ?_
            refine li_iload_n 2 dX6_evaluate_59 rfl ?_
            obtain ⟨x52, ex52⟩ : ∃ y : Int32, y = x4 + 1 := ⟨_, rfl⟩
            refine li_iinc 2 [(1, .int x52), (3, .int x14), (2, .int x3), (0, .ref (Z.2.2 r))] x52 dX6_evaluate_60 rfl (by rw [ex52]; rfl) (by decide) rfl ?_
            refine li_aload_n 3 dX6_evaluate_63 rfl ?_
            refine li_getr (k := 2) (N := 4) (T := TX6) (C0 := RX6) dX6_evaluate_64 (snR0 hr) (shR0 hr) rfl rfl (lkR3 hr) (by decide) li_in6 w_320 ?_
            refine li_iload_n 1 dX6_evaluate_67 rfl ?_
            refine li_sipush 1000 dX6_evaluate_68 (by decide) ?_
            refine li_isub dX6_evaluate_71 ?_
            refine li_top (fun x53 ex53 => ?_)
            refine li_callN (n := 2) (As := [.ref (Z.2.2 (r + 3)), .int x53]) dX6_evaluate_72 (k_X11_at (d - 1) (by omega) (snR3 hr) (shR3 hr) (by decide) x53 M15) (by omega) (Nat.le_of_ble_eq_true rfl) nw_19 w_589 w_104 w_590 (by decide +kernel) rfl rfl (Nat.le_of_ble_eq_true rfl) (fun r M55 h56 => ?_)
            obtain ⟨⟨x54, rfl⟩, h56⟩ := h56
            have hf := li_fr_trans hf h56 (fun i h => False.elim h)
            refine li_callN (n := 3) (As := [.ref (Z.2.2 (r + 2)), .int x4, .int x54]) dX6_evaluate_75 (k_X11_put (d - 1) (by omega) (snR2 hr) (shR2 hr) (by decide) x4 x54 M55) (by omega) (Nat.le_of_ble_eq_true rfl) nw_10 w_542 w_104 w_543 (by decide +kernel) rfl rfl (Nat.le_of_ble_eq_true rfl) (fun r M58 h59 => ?_)
            obtain ⟨rfl, h59⟩ := h59
            have hf := li_fr_trans hf h59 (fun i (h : i = r + 2) => (show i = r + 2 by omega))
            refine li_goto 166 dX6_evaluate_78 (by decide) ?_
            refine li_pick [1, 2, 0, 3] [(3, .int x14), (2, .int x3), (1, .int x52), (0, .ref (Z.2.2 r))] rfl ?_
            exact J166 x52 M58 hf
    exact L31 _ 0 0 M0 (Nat.lt_succ_self _) hf
  · refine li_aload_n 0 dX6_evaluate_7 rfl ?_
    refine li_getr (k := 2) (N := 4) (T := TX6) (C0 := RX6) dX6_evaluate_8 (snR0 hr) (shR0 hr) rfl rfl (lkR3 hr) (by decide) li_in6 w_320 ?_
    refine li_iconst 0 dX6_evaluate_11 (by decide) ?_
    refine li_callN (n := 2) (As := [.ref (Z.2.2 (r + 3)), .int 0]) dX6_evaluate_12 (k_X11_at (d - 1) (by omega) (snR3 hr) (shR3 hr) (by decide) 0 M0) (by omega) (Nat.le_of_ble_eq_true rfl) nw_19 w_589 w_104 w_590 (by decide +kernel) rfl rfl (Nat.le_of_ble_eq_true rfl) (fun r M61 h62 => ?_)
    obtain ⟨⟨x60, rfl⟩, h62⟩ := h62
    have hf := li_fr_trans hf h62 (fun i h => False.elim h)
    refine li_aload_n 0 dX6_evaluate_15 rfl ?_
    refine li_getr (k := 2) (N := 4) (T := TX6) (C0 := RX6) dX6_evaluate_16 (snR0 hr) (shR0 hr) rfl rfl (lkR3 hr) (by decide) li_in6 w_320 ?_
    refine li_iconst 1 dX6_evaluate_19 (by decide) ?_
    refine li_callN (n := 2) (As := [.ref (Z.2.2 (r + 3)), .int 1]) dX6_evaluate_20 (k_X11_at (d - 1) (by omega) (snR3 hr) (shR3 hr) (by decide) 1 M61) (by omega) (Nat.le_of_ble_eq_true rfl) nw_19 w_589 w_104 w_590 (by decide +kernel) rfl rfl (Nat.le_of_ble_eq_true rfl) (fun r M64 h65 => ?_)
    obtain ⟨⟨x63, rfl⟩, h65⟩ := h65
    have hf := li_fr_trans hf h65 (fun i h => False.elim h)
    refine li_callS (n := 2) (As := [.int x60, .int x63]) dX6_evaluate_23 (k_X6_usual (d - 1) (by omega) x60 x63 M64) (by omega) (Nat.le_of_ble_eq_true rfl) w_852 w_853 w_110 w_854 (by decide +kernel) rfl rfl (Nat.le_of_ble_eq_true rfl) (fun r M67 h68 => ?_)
    obtain ⟨⟨x66, rfl⟩, h68⟩ := h68
    have hf := li_fr_trans hf h68 (fun i h => False.elim h)
    exact li_iret dX6_evaluate_26 rfl rfl ⟨⟨_, rfl⟩, hf⟩
end
section
theorem w_24 : (Jvm.Cond.selects "ClockForTalk$Costs" ({ cls := "ClockForTalk$Costs", name := "weigh", desc := "(II)V" } : Jvm.MethodName) ({ cls := "ClockForTalk$Costs", name := "weigh", desc := "(II)V" } : Jvm.MethodName)) ∈ li_ws := li_mem 24 (by decide +kernel) (by decide +kernel)
theorem w_113 : (Jvm.Cond.initialized "ClockForTalk$Costs") ∈ li_ws := li_mem 113 (by decide +kernel) (by decide +kernel)
theorem w_180 : (Jvm.Cond.fieldLink "ClockForTalk$Costs" (43 : Nat) "ClockForTalk$Town" "persons" "I") ∈ li_ws := li_mem 180 (by decide +kernel) (by decide +kernel)
theorem w_184 : (Jvm.Cond.fieldLink "ClockForTalk$Costs" (97 : Nat) "ClockForTalk$Town" "wishes" "I") ∈ li_ws := li_mem 184 (by decide +kernel) (by decide +kernel)
theorem w_192 : (Jvm.Cond.fieldLink "ClockForTalk$Costs" (80 : Nat) "ClockForTalk$Town" "who" "[I") ∈ li_ws := li_mem 192 (by decide +kernel) (by decide +kernel)
theorem w_195 : (Jvm.Cond.fieldLink "ClockForTalk$Costs" (90 : Nat) "ClockForTalk$Town" "whom" "[I") ∈ li_ws := li_mem 195 (by decide +kernel) (by decide +kernel)
theorem w_198 : (Jvm.Cond.fieldLink "ClockForTalk$Costs" (83 : Nat) "ClockForTalk$Town" "seconds" "[I") ∈ li_ws := li_mem 198 (by decide +kernel) (by decide +kernel)
theorem w_203 : (Jvm.Cond.fieldLink "ClockForTalk$Costs" (150 : Nat) "ClockForTalk$Town" "by" "[I") ∈ li_ws := li_mem 203 (by decide +kernel) (by decide +kernel)
theorem w_206 : (Jvm.Cond.fieldLink "ClockForTalk$Costs" (147 : Nat) "ClockForTalk$Town" "worth" "[I") ∈ li_ws := li_mem 206 (by decide +kernel) (by decide +kernel)
theorem w_233 : (Jvm.Cond.fieldLink "ClockForTalk$Costs" (65 : Nat) "ClockForTalk$Ledger" "day" "I") ∈ li_ws := li_mem 233 (by decide +kernel) (by decide +kernel)
theorem w_237 : (Jvm.Cond.fieldLink "ClockForTalk$Costs" (115 : Nat) "ClockForTalk$Ledger" "said" "I") ∈ li_ws := li_mem 237 (by decide +kernel) (by decide +kernel)
theorem w_245 : (Jvm.Cond.fieldLink "ClockForTalk$Costs" (60 : Nat) "ClockForTalk$Ledger" "clocks" "[I") ∈ li_ws := li_mem 245 (by decide +kernel) (by decide +kernel)
theorem w_321 : (Jvm.Cond.fieldLink "ClockForTalk$Costs" (51 : Nat) "ClockForTalk$Rule" "given" "[I") ∈ li_ws := li_mem 321 (by decide +kernel) (by decide +kernel)
theorem w_385 : (Jvm.Cond.fieldLink "ClockForTalk$Costs" (18 : Nat) "ClockForTalk$Costs" "town" "LClockForTalk$Town;") ∈ li_ws := li_mem 385 (by decide +kernel) (by decide +kernel)
theorem w_386 : (Jvm.Cond.fieldLink "ClockForTalk$Costs" (22 : Nat) "ClockForTalk$Costs" "ledger" "LClockForTalk$Ledger;") ∈ li_ws := li_mem 386 (by decide +kernel) (by decide +kernel)
theorem w_387 : (Jvm.Cond.fieldLink "ClockForTalk$Costs" (26 : Nat) "ClockForTalk$Costs" "law" "LClockForTalk$Rule;") ∈ li_ws := li_mem 387 (by decide +kernel) (by decide +kernel)
theorem w_388 : (Jvm.Cond.fieldLink "ClockForTalk$Costs" (9 : Nat) "ClockForTalk$Costs" "prices" "[I") ∈ li_ws := li_mem 388 (by decide +kernel) (by decide +kernel)
theorem w_390 : (Jvm.Cond.fieldLink "ClockForTalk$Costs" (15 : Nat) "ClockForTalk$Costs" "least" "[I") ∈ li_ws := li_mem 390 (by decide +kernel) (by decide +kernel)
theorem w_392 : (Jvm.Cond.fieldLink "ClockForTalk$Costs" (135 : Nat) "ClockForTalk$Costs" "chosen" "I") ∈ li_ws := li_mem 392 (by decide +kernel) (by decide +kernel)
theorem w_394 : (Jvm.Cond.fieldLink "ClockForTalk$Costs" (138 : Nat) "ClockForTalk$Costs" "chosenCost" "I") ∈ li_ws := li_mem 394 (by decide +kernel) (by decide +kernel)
theorem w_396 : (Jvm.Cond.fieldLink "ClockForTalk$Costs" (141 : Nat) "ClockForTalk$Costs" "chosenWorth" "I") ∈ li_ws := li_mem 396 (by decide +kernel) (by decide +kernel)
theorem w_809 : (Jvm.Cond.instanceMethod ({ cls := "ClockForTalk$Costs", name := "isHeard", desc := "(II)Z" } : Jvm.MethodName)) ∈ li_ws := li_mem 809 (by decide +kernel) (by decide +kernel)
theorem w_810 : (Jvm.Cond.selects "ClockForTalk$Costs" ({ cls := "ClockForTalk$Costs", name := "isHeard", desc := "(II)Z" } : Jvm.MethodName) ({ cls := "ClockForTalk$Costs", name := "isHeard", desc := "(II)Z" } : Jvm.MethodName)) ∈ li_ws := li_mem 810 (by decide +kernel) (by decide +kernel)
theorem w_811 : (Jvm.Cond.code ({ cls := "ClockForTalk$Costs", name := "isHeard", desc := "(II)Z" } : Jvm.MethodName) prog_2_method_2_code (3 : Nat) (Option.some Jvm.ClassFile.FieldType.boolean)) ∈ li_ws := li_mem 811 (by decide +kernel) (by decide +kernel)
theorem w_812 : (Jvm.Cond.methodLink "ClockForTalk$Costs" (30 : Nat) ({ cls := "ClockForTalk$Town", name := "apartFor", desc := "(I)I" } : Jvm.MethodName)) ∈ li_ws := li_mem 812 (by decide +kernel) (by decide +kernel)
theorem w_813 : (Jvm.Cond.instanceMethod ({ cls := "ClockForTalk$Town", name := "apartFor", desc := "(I)I" } : Jvm.MethodName)) ∈ li_ws := li_mem 813 (by decide +kernel) (by decide +kernel)
theorem w_814 : (Jvm.Cond.selects "ClockForTalk$Town" ({ cls := "ClockForTalk$Town", name := "apartFor", desc := "(I)I" } : Jvm.MethodName) ({ cls := "ClockForTalk$Town", name := "apartFor", desc := "(I)I" } : Jvm.MethodName)) ∈ li_ws := li_mem 814 (by decide +kernel) (by decide +kernel)
theorem w_815 : (Jvm.Cond.code ({ cls := "ClockForTalk$Town", name := "apartFor", desc := "(I)I" } : Jvm.MethodName) prog_10_method_6_code (2 : Nat) (Option.some Jvm.ClassFile.FieldType.int)) ∈ li_ws := li_mem 815 (by decide +kernel) (by decide +kernel)
theorem w_824 : (Jvm.Cond.fieldLink "ClockForTalk$Costs" (36 : Nat) "ClockForTalk$Costs" "REACH" "[I") ∈ li_ws := li_mem 824 (by decide +kernel) (by decide +kernel)
theorem w_828 : (Jvm.Cond.instanceMethod ({ cls := "ClockForTalk$Costs", name := "ofThing", desc := "(II)I" } : Jvm.MethodName)) ∈ li_ws := li_mem 828 (by decide +kernel) (by decide +kernel)
theorem w_829 : (Jvm.Cond.selects "ClockForTalk$Costs" ({ cls := "ClockForTalk$Costs", name := "ofThing", desc := "(II)I" } : Jvm.MethodName) ({ cls := "ClockForTalk$Costs", name := "ofThing", desc := "(II)I" } : Jvm.MethodName)) ∈ li_ws := li_mem 829 (by decide +kernel) (by decide +kernel)
theorem w_830 : (Jvm.Cond.code ({ cls := "ClockForTalk$Costs", name := "ofThing", desc := "(II)I" } : Jvm.MethodName) prog_2_method_5_code (3 : Nat) (Option.some Jvm.ClassFile.FieldType.int)) ∈ li_ws := li_mem 830 (by decide +kernel) (by decide +kernel)
theorem w_831 : (Jvm.Cond.methodLink "ClockForTalk$Costs" (86 : Nat) ({ cls := "ClockForTalk$Costs", name := "ofWord", desc := "(IIII)I" } : Jvm.MethodName)) ∈ li_ws := li_mem 831 (by decide +kernel) (by decide +kernel)
theorem w_832 : (Jvm.Cond.instanceMethod ({ cls := "ClockForTalk$Costs", name := "ofWord", desc := "(IIII)I" } : Jvm.MethodName)) ∈ li_ws := li_mem 832 (by decide +kernel) (by decide +kernel)
theorem w_833 : (Jvm.Cond.selects "ClockForTalk$Costs" ({ cls := "ClockForTalk$Costs", name := "ofWord", desc := "(IIII)I" } : Jvm.MethodName) ({ cls := "ClockForTalk$Costs", name := "ofWord", desc := "(IIII)I" } : Jvm.MethodName)) ∈ li_ws := li_mem 833 (by decide +kernel) (by decide +kernel)
theorem w_834 : (Jvm.Cond.code ({ cls := "ClockForTalk$Costs", name := "ofWord", desc := "(IIII)I" } : Jvm.MethodName) prog_2_method_4_code (5 : Nat) (Option.some Jvm.ClassFile.FieldType.int)) ∈ li_ws := li_mem 834 (by decide +kernel) (by decide +kernel)
theorem w_836 : (Jvm.Cond.methodLink "ClockForTalk$Costs" (68 : Nat) ({ cls := "ClockForTalk$Costs", name := "hearers", desc := "(II)I" } : Jvm.MethodName)) ∈ li_ws := li_mem 836 (by decide +kernel) (by decide +kernel)
theorem w_837 : (Jvm.Cond.instanceMethod ({ cls := "ClockForTalk$Costs", name := "hearers", desc := "(II)I" } : Jvm.MethodName)) ∈ li_ws := li_mem 837 (by decide +kernel) (by decide +kernel)
theorem w_838 : (Jvm.Cond.selects "ClockForTalk$Costs" ({ cls := "ClockForTalk$Costs", name := "hearers", desc := "(II)I" } : Jvm.MethodName) ({ cls := "ClockForTalk$Costs", name := "hearers", desc := "(II)I" } : Jvm.MethodName)) ∈ li_ws := li_mem 838 (by decide +kernel) (by decide +kernel)
theorem w_839 : (Jvm.Cond.code ({ cls := "ClockForTalk$Costs", name := "hearers", desc := "(II)I" } : Jvm.MethodName) prog_2_method_3_code (6 : Nat) (Option.some Jvm.ClassFile.FieldType.int)) ∈ li_ws := li_mem 839 (by decide +kernel) (by decide +kernel)
theorem w_840 : (Jvm.Cond.methodLink "ClockForTalk$Costs" (47 : Nat) ({ cls := "ClockForTalk$Town", name := "apart", desc := "(II)I" } : Jvm.MethodName)) ∈ li_ws := li_mem 840 (by decide +kernel) (by decide +kernel)
theorem w_841 : (Jvm.Cond.methodLink "ClockForTalk$Costs" (71 : Nat) ({ cls := "java/lang/Integer", name := "bitCount", desc := "(I)I" } : Jvm.MethodName)) ∈ li_ws := li_mem 841 (by decide +kernel) (by decide +kernel)
theorem w_847 : (Jvm.Cond.methodLink "ClockForTalk$Costs" (76 : Nat) ({ cls := "ClockForTalk$Rule", name := "evaluate", desc := "()I" } : Jvm.MethodName)) ∈ li_ws := li_mem 847 (by decide +kernel) (by decide +kernel)
theorem w_848 : (Jvm.Cond.instanceMethod ({ cls := "ClockForTalk$Rule", name := "evaluate", desc := "()I" } : Jvm.MethodName)) ∈ li_ws := li_mem 848 (by decide +kernel) (by decide +kernel)
theorem w_849 : (Jvm.Cond.selects "ClockForTalk$Rule" ({ cls := "ClockForTalk$Rule", name := "evaluate", desc := "()I" } : Jvm.MethodName) ({ cls := "ClockForTalk$Rule", name := "evaluate", desc := "()I" } : Jvm.MethodName)) ∈ li_ws := li_mem 849 (by decide +kernel) (by decide +kernel)
theorem w_850 : (Jvm.Cond.code ({ cls := "ClockForTalk$Rule", name := "evaluate", desc := "()I" } : Jvm.MethodName) prog_8_method_11_code (4 : Nat) (Option.some Jvm.ClassFile.FieldType.int)) ∈ li_ws := li_mem 850 (by decide +kernel) (by decide +kernel)
theorem w_880 : (Jvm.Cond.instanceMethod ({ cls := "ClockForTalk$Ledger", name := "isLate", desc := "(LClockForTalk$Town;I)Z" } : Jvm.MethodName)) ∈ li_ws := li_mem 880 (by decide +kernel) (by decide +kernel)
theorem w_881 : (Jvm.Cond.selects "ClockForTalk$Ledger" ({ cls := "ClockForTalk$Ledger", name := "isLate", desc := "(LClockForTalk$Town;I)Z" } : Jvm.MethodName) ({ cls := "ClockForTalk$Ledger", name := "isLate", desc := "(LClockForTalk$Town;I)Z" } : Jvm.MethodName)) ∈ li_ws := li_mem 881 (by decide +kernel) (by decide +kernel)
theorem w_882 : (Jvm.Cond.code ({ cls := "ClockForTalk$Ledger", name := "isLate", desc := "(LClockForTalk$Town;I)Z" } : Jvm.MethodName) prog_6_method_5_code (3 : Nat) (Option.some Jvm.ClassFile.FieldType.boolean)) ∈ li_ws := li_mem 882 (by decide +kernel) (by decide +kernel)
theorem w_988 : (Jvm.Cond.methodLink "ClockForTalk$Costs" (93 : Nat) ({ cls := "ClockForTalk$Costs", name := "cheapestWay", desc := "(III)I" } : Jvm.MethodName)) ∈ li_ws := li_mem 988 (by decide +kernel) (by decide +kernel)
theorem w_989 : (Jvm.Cond.instanceMethod ({ cls := "ClockForTalk$Costs", name := "cheapestWay", desc := "(III)I" } : Jvm.MethodName)) ∈ li_ws := li_mem 989 (by decide +kernel) (by decide +kernel)
theorem w_990 : (Jvm.Cond.selects "ClockForTalk$Costs" ({ cls := "ClockForTalk$Costs", name := "cheapestWay", desc := "(III)I" } : Jvm.MethodName) ({ cls := "ClockForTalk$Costs", name := "cheapestWay", desc := "(III)I" } : Jvm.MethodName)) ∈ li_ws := li_mem 990 (by decide +kernel) (by decide +kernel)
theorem w_991 : (Jvm.Cond.code ({ cls := "ClockForTalk$Costs", name := "cheapestWay", desc := "(III)I" } : Jvm.MethodName) prog_2_method_7_code (9 : Nat) (Option.some Jvm.ClassFile.FieldType.int)) ∈ li_ws := li_mem 991 (by decide +kernel) (by decide +kernel)
theorem w_1012 : (Jvm.Cond.methodLink "ClockForTalk$Costs" (100 : Nat) ({ cls := "ClockForTalk$Costs", name := "isHeard", desc := "(II)Z" } : Jvm.MethodName)) ∈ li_ws := li_mem 1012 (by decide +kernel) (by decide +kernel)
theorem w_1013 : (Jvm.Cond.methodLink "ClockForTalk$Costs" (104 : Nat) ({ cls := "ClockForTalk$Costs", name := "ofThing", desc := "(II)I" } : Jvm.MethodName)) ∈ li_ws := li_mem 1013 (by decide +kernel) (by decide +kernel)
theorem w_1014 : (Jvm.Cond.methodLink "ClockForTalk$Costs" (107 : Nat) ({ cls := "java/lang/Math", name := "min", desc := "(II)I" } : Jvm.MethodName)) ∈ li_ws := li_mem 1014 (by decide +kernel) (by decide +kernel)
theorem w_1019 : (Jvm.Cond.methodLink "ClockForTalk$Costs" (128 : Nat) ({ cls := "ClockForTalk$Costs", name := "openThingsOf", desc := "(I)I" } : Jvm.MethodName)) ∈ li_ws := li_mem 1019 (by decide +kernel) (by decide +kernel)
theorem w_1020 : (Jvm.Cond.instanceMethod ({ cls := "ClockForTalk$Costs", name := "openThingsOf", desc := "(I)I" } : Jvm.MethodName)) ∈ li_ws := li_mem 1020 (by decide +kernel) (by decide +kernel)
theorem w_1021 : (Jvm.Cond.selects "ClockForTalk$Costs" ({ cls := "ClockForTalk$Costs", name := "openThingsOf", desc := "(I)I" } : Jvm.MethodName) ({ cls := "ClockForTalk$Costs", name := "openThingsOf", desc := "(I)I" } : Jvm.MethodName)) ∈ li_ws := li_mem 1021 (by decide +kernel) (by decide +kernel)
theorem w_1022 : (Jvm.Cond.code ({ cls := "ClockForTalk$Costs", name := "openThingsOf", desc := "(I)I" } : Jvm.MethodName) prog_2_method_11_code (2 : Nat) (Option.some Jvm.ClassFile.FieldType.int)) ∈ li_ws := li_mem 1022 (by decide +kernel) (by decide +kernel)
theorem w_1023 : (Jvm.Cond.methodLink "ClockForTalk$Costs" (122 : Nat) ({ cls := "ClockForTalk$Costs", name := "openThings", desc := "()I" } : Jvm.MethodName)) ∈ li_ws := li_mem 1023 (by decide +kernel) (by decide +kernel)
theorem w_1024 : (Jvm.Cond.instanceMethod ({ cls := "ClockForTalk$Costs", name := "openThings", desc := "()I" } : Jvm.MethodName)) ∈ li_ws := li_mem 1024 (by decide +kernel) (by decide +kernel)
theorem w_1025 : (Jvm.Cond.selects "ClockForTalk$Costs" ({ cls := "ClockForTalk$Costs", name := "openThings", desc := "()I" } : Jvm.MethodName) ({ cls := "ClockForTalk$Costs", name := "openThings", desc := "()I" } : Jvm.MethodName)) ∈ li_ws := li_mem 1025 (by decide +kernel) (by decide +kernel)
theorem w_1026 : (Jvm.Cond.code ({ cls := "ClockForTalk$Costs", name := "openThings", desc := "()I" } : Jvm.MethodName) prog_2_method_10_code (3 : Nat) (Option.some Jvm.ClassFile.FieldType.int)) ∈ li_ws := li_mem 1026 (by decide +kernel) (by decide +kernel)
theorem w_1028 : (Jvm.Cond.methodLink "ClockForTalk$Costs" (118 : Nat) ({ cls := "ClockForTalk$Ledger", name := "isLate", desc := "(LClockForTalk$Town;I)Z" } : Jvm.MethodName)) ∈ li_ws := li_mem 1028 (by decide +kernel) (by decide +kernel)
theorem w_1029 : (Jvm.Cond.methodLink "ClockForTalk$Costs" (125 : Nat) ({ cls := "ClockForTalk$Town", name := "thingsOf", desc := "(I)I" } : Jvm.MethodName)) ∈ li_ws := li_mem 1029 (by decide +kernel) (by decide +kernel)
theorem w_1030 : (Jvm.Cond.instanceMethod ({ cls := "ClockForTalk$Town", name := "thingsOf", desc := "(I)I" } : Jvm.MethodName)) ∈ li_ws := li_mem 1030 (by decide +kernel) (by decide +kernel)
theorem w_1031 : (Jvm.Cond.selects "ClockForTalk$Town" ({ cls := "ClockForTalk$Town", name := "thingsOf", desc := "(I)I" } : Jvm.MethodName) ({ cls := "ClockForTalk$Town", name := "thingsOf", desc := "(I)I" } : Jvm.MethodName)) ∈ li_ws := li_mem 1031 (by decide +kernel) (by decide +kernel)
theorem w_1032 : (Jvm.Cond.code ({ cls := "ClockForTalk$Town", name := "thingsOf", desc := "(I)I" } : Jvm.MethodName) prog_10_method_7_code (4 : Nat) (Option.some Jvm.ClassFile.FieldType.int)) ∈ li_ws := li_mem 1032 (by decide +kernel) (by decide +kernel)
theorem w_1033 : (Jvm.Cond.methodLink "ClockForTalk$Costs" (131 : Nat) ({ cls := "ClockForTalk$Costs", name := "choose", desc := "(II)V" } : Jvm.MethodName)) ∈ li_ws := li_mem 1033 (by decide +kernel) (by decide +kernel)
theorem w_1034 : (Jvm.Cond.instanceMethod ({ cls := "ClockForTalk$Costs", name := "choose", desc := "(II)V" } : Jvm.MethodName)) ∈ li_ws := li_mem 1034 (by decide +kernel) (by decide +kernel)
theorem w_1035 : (Jvm.Cond.selects "ClockForTalk$Costs" ({ cls := "ClockForTalk$Costs", name := "choose", desc := "(II)V" } : Jvm.MethodName) ({ cls := "ClockForTalk$Costs", name := "choose", desc := "(II)V" } : Jvm.MethodName)) ∈ li_ws := li_mem 1035 (by decide +kernel) (by decide +kernel)
theorem w_1036 : (Jvm.Cond.code ({ cls := "ClockForTalk$Costs", name := "choose", desc := "(II)V" } : Jvm.MethodName) prog_2_method_13_code (4 : Nat) (Option.none : Option Jvm.ClassFile.FieldType)) ∈ li_ws := li_mem 1036 (by decide +kernel) (by decide +kernel)
theorem w_1037 : (Jvm.Cond.methodLink "ClockForTalk$Costs" (144 : Nat) ({ cls := "ClockForTalk$Costs", name := "weigh", desc := "(II)V" } : Jvm.MethodName)) ∈ li_ws := li_mem 1037 (by decide +kernel) (by decide +kernel)
theorem w_1039 : (Jvm.Cond.instanceMethod ({ cls := "ClockForTalk$Costs", name := "weigh", desc := "(II)V" } : Jvm.MethodName)) ∈ li_ws := li_mem 1039 (by decide +kernel) (by decide +kernel)
theorem w_1040 : (Jvm.Cond.code ({ cls := "ClockForTalk$Costs", name := "weigh", desc := "(II)V" } : Jvm.MethodName) prog_2_method_14_code (6 : Nat) (Option.none : Option Jvm.ClassFile.FieldType)) ∈ li_ws := li_mem 1040 (by decide +kernel) (by decide +kernel)
theorem dX0_isHeard_0 : decode cX0_isHeard 0 = .ok (.aload_n 0, 1) := by decide +kernel
theorem dX0_isHeard_1 : decode cX0_isHeard 1 = .ok (.getfield 18, 3) := by decide +kernel
theorem dX0_isHeard_4 : decode cX0_isHeard 4 = .ok (.iload_n 1, 1) := by decide +kernel
theorem dX0_isHeard_5 : decode cX0_isHeard 5 = .ok (.invokevirtual 30, 3) := by decide +kernel
theorem dX0_isHeard_8 : decode cX0_isHeard 8 = .ok (.getstatic 36, 3) := by decide +kernel
theorem dX0_isHeard_11 : decode cX0_isHeard 11 = .ok (.iload_n 2, 1) := by decide +kernel
theorem dX0_isHeard_12 : decode cX0_isHeard 12 = .ok (.invokestatic 39, 3) := by decide +kernel
theorem dX0_isHeard_15 : decode cX0_isHeard 15 = .ok (.if_icmp .gt 7, 3) := by decide +kernel
theorem dX0_isHeard_18 : decode cX0_isHeard 18 = .ok (.iconst 1, 1) := by decide +kernel
theorem dX0_isHeard_19 : decode cX0_isHeard 19 = .ok (.goto 4, 3) := by decide +kernel
theorem dX0_isHeard_22 : decode cX0_isHeard 22 = .ok (.iconst 0, 1) := by decide +kernel
theorem dX0_isHeard_23 : decode cX0_isHeard 23 = .ok (.ireturn, 1) := by decide +kernel
abbrev YX0_isHeard : li_Y := (yX0_isHeard, cX0_isHeard, 3, (some .boolean))
theorem dX0_hearers_0 : decode cX0_hearers 0 = .ok (.getstatic 36, 3) := by decide +kernel
theorem dX0_hearers_3 : decode cX0_hearers 3 = .ok (.iload_n 2, 1) := by decide +kernel
theorem dX0_hearers_4 : decode cX0_hearers 4 = .ok (.invokestatic 39, 3) := by decide +kernel
theorem dX0_hearers_7 : decode cX0_hearers 7 = .ok (.istore_n 3, 1) := by decide +kernel
theorem dX0_hearers_8 : decode cX0_hearers 8 = .ok (.iconst 0, 1) := by decide +kernel
theorem dX0_hearers_9 : decode cX0_hearers 9 = .ok (.istore 4, 2) := by decide +kernel
theorem dX0_hearers_11 : decode cX0_hearers 11 = .ok (.iconst 0, 1) := by decide +kernel
theorem dX0_hearers_12 : decode cX0_hearers 12 = .ok (.istore 5, 2) := by decide +kernel
theorem dX0_hearers_14 : decode cX0_hearers 14 = .ok (.iload 5, 2) := by decide +kernel
theorem dX0_hearers_16 : decode cX0_hearers 16 = .ok (.aload_n 0, 1) := by decide +kernel
theorem dX0_hearers_17 : decode cX0_hearers 17 = .ok (.getfield 18, 3) := by decide +kernel
theorem dX0_hearers_20 : decode cX0_hearers 20 = .ok (.getfield 43, 3) := by decide +kernel
theorem dX0_hearers_23 : decode cX0_hearers 23 = .ok (.if_icmp .ge 38, 3) := by decide +kernel
theorem dX0_hearers_26 : decode cX0_hearers 26 = .ok (.iload 5, 2) := by decide +kernel
theorem dX0_hearers_28 : decode cX0_hearers 28 = .ok (.iload_n 1, 1) := by decide +kernel
theorem dX0_hearers_29 : decode cX0_hearers 29 = .ok (.if_icmp .eq 26, 3) := by decide +kernel
theorem dX0_hearers_32 : decode cX0_hearers 32 = .ok (.aload_n 0, 1) := by decide +kernel
theorem dX0_hearers_33 : decode cX0_hearers 33 = .ok (.getfield 18, 3) := by decide +kernel
theorem dX0_hearers_36 : decode cX0_hearers 36 = .ok (.iload_n 1, 1) := by decide +kernel
theorem dX0_hearers_37 : decode cX0_hearers 37 = .ok (.iload 5, 2) := by decide +kernel
theorem dX0_hearers_39 : decode cX0_hearers 39 = .ok (.invokevirtual 47, 3) := by decide +kernel
theorem dX0_hearers_42 : decode cX0_hearers 42 = .ok (.iload_n 3, 1) := by decide +kernel
theorem dX0_hearers_43 : decode cX0_hearers 43 = .ok (.if_icmp .gt 12, 3) := by decide +kernel
theorem dX0_hearers_46 : decode cX0_hearers 46 = .ok (.iload 4, 2) := by decide +kernel
theorem dX0_hearers_48 : decode cX0_hearers 48 = .ok (.iconst 1, 1) := by decide +kernel
theorem dX0_hearers_49 : decode cX0_hearers 49 = .ok (.iload 5, 2) := by decide +kernel
theorem dX0_hearers_51 : decode cX0_hearers 51 = .ok (.ishl, 1) := by decide +kernel
theorem dX0_hearers_52 : decode cX0_hearers 52 = .ok (.ior, 1) := by decide +kernel
theorem dX0_hearers_53 : decode cX0_hearers 53 = .ok (.istore 4, 2) := by decide +kernel
theorem dX0_hearers_55 : decode cX0_hearers 55 = .ok (.iinc 5 1, 3) := by decide +kernel
theorem dX0_hearers_58 : decode cX0_hearers 58 = .ok (.goto (-44), 3) := by decide +kernel
theorem dX0_hearers_61 : decode cX0_hearers 61 = .ok (.iload 4, 2) := by decide +kernel
theorem dX0_hearers_63 : decode cX0_hearers 63 = .ok (.ireturn, 1) := by decide +kernel
abbrev YX0_hearers : li_Y := (yX0_hearers, cX0_hearers, 6, (some .int))
theorem dX0_ofWord_0 : decode cX0_ofWord 0 = .ok (.aload_n 0, 1) := by decide +kernel
theorem dX0_ofWord_1 : decode cX0_ofWord 1 = .ok (.getfield 26, 3) := by decide +kernel
theorem dX0_ofWord_4 : decode cX0_ofWord 4 = .ok (.getfield 51, 3) := by decide +kernel
theorem dX0_ofWord_7 : decode cX0_ofWord 7 = .ok (.iconst 0, 1) := by decide +kernel
theorem dX0_ofWord_8 : decode cX0_ofWord 8 = .ok (.iload_n 2, 1) := by decide +kernel
theorem dX0_ofWord_9 : decode cX0_ofWord 9 = .ok (.invokestatic 56, 3) := by decide +kernel
theorem dX0_ofWord_12 : decode cX0_ofWord 12 = .ok (.aload_n 0, 1) := by decide +kernel
theorem dX0_ofWord_13 : decode cX0_ofWord 13 = .ok (.getfield 26, 3) := by decide +kernel
theorem dX0_ofWord_16 : decode cX0_ofWord 16 = .ok (.getfield 51, 3) := by decide +kernel
theorem dX0_ofWord_19 : decode cX0_ofWord 19 = .ok (.iconst 1, 1) := by decide +kernel
theorem dX0_ofWord_20 : decode cX0_ofWord 20 = .ok (.iload_n 3, 1) := by decide +kernel
theorem dX0_ofWord_21 : decode cX0_ofWord 21 = .ok (.invokestatic 56, 3) := by decide +kernel
theorem dX0_ofWord_24 : decode cX0_ofWord 24 = .ok (.aload_n 0, 1) := by decide +kernel
theorem dX0_ofWord_25 : decode cX0_ofWord 25 = .ok (.getfield 26, 3) := by decide +kernel
theorem dX0_ofWord_28 : decode cX0_ofWord 28 = .ok (.getfield 51, 3) := by decide +kernel
theorem dX0_ofWord_31 : decode cX0_ofWord 31 = .ok (.iconst 2, 1) := by decide +kernel
theorem dX0_ofWord_32 : decode cX0_ofWord 32 = .ok (.iload 4, 2) := by decide +kernel
theorem dX0_ofWord_34 : decode cX0_ofWord 34 = .ok (.invokestatic 56, 3) := by decide +kernel
theorem dX0_ofWord_37 : decode cX0_ofWord 37 = .ok (.aload_n 0, 1) := by decide +kernel
theorem dX0_ofWord_38 : decode cX0_ofWord 38 = .ok (.getfield 26, 3) := by decide +kernel
theorem dX0_ofWord_41 : decode cX0_ofWord 41 = .ok (.getfield 51, 3) := by decide +kernel
theorem dX0_ofWord_44 : decode cX0_ofWord 44 = .ok (.iconst 3, 1) := by decide +kernel
theorem dX0_ofWord_45 : decode cX0_ofWord 45 = .ok (.aload_n 0, 1) := by decide +kernel
theorem dX0_ofWord_46 : decode cX0_ofWord 46 = .ok (.getfield 22, 3) := by decide +kernel
theorem dX0_ofWord_49 : decode cX0_ofWord 49 = .ok (.getfield 60, 3) := by decide +kernel
theorem dX0_ofWord_52 : decode cX0_ofWord 52 = .ok (.iload_n 1, 1) := by decide +kernel
theorem dX0_ofWord_53 : decode cX0_ofWord 53 = .ok (.invokestatic 39, 3) := by decide +kernel
theorem dX0_ofWord_56 : decode cX0_ofWord 56 = .ok (.invokestatic 56, 3) := by decide +kernel
theorem dX0_ofWord_59 : decode cX0_ofWord 59 = .ok (.aload_n 0, 1) := by decide +kernel
theorem dX0_ofWord_60 : decode cX0_ofWord 60 = .ok (.getfield 26, 3) := by decide +kernel
theorem dX0_ofWord_63 : decode cX0_ofWord 63 = .ok (.getfield 51, 3) := by decide +kernel
theorem dX0_ofWord_66 : decode cX0_ofWord 66 = .ok (.iconst 4, 1) := by decide +kernel
theorem dX0_ofWord_67 : decode cX0_ofWord 67 = .ok (.aload_n 0, 1) := by decide +kernel
theorem dX0_ofWord_68 : decode cX0_ofWord 68 = .ok (.getfield 22, 3) := by decide +kernel
theorem dX0_ofWord_71 : decode cX0_ofWord 71 = .ok (.getfield 65, 3) := by decide +kernel
theorem dX0_ofWord_74 : decode cX0_ofWord 74 = .ok (.bipush 100, 2) := by decide +kernel
theorem dX0_ofWord_76 : decode cX0_ofWord 76 = .ok (.irem, 1) := by decide +kernel
theorem dX0_ofWord_77 : decode cX0_ofWord 77 = .ok (.invokestatic 56, 3) := by decide +kernel
theorem dX0_ofWord_80 : decode cX0_ofWord 80 = .ok (.aload_n 0, 1) := by decide +kernel
theorem dX0_ofWord_81 : decode cX0_ofWord 81 = .ok (.getfield 26, 3) := by decide +kernel
theorem dX0_ofWord_84 : decode cX0_ofWord 84 = .ok (.getfield 51, 3) := by decide +kernel
theorem dX0_ofWord_87 : decode cX0_ofWord 87 = .ok (.iconst 5, 1) := by decide +kernel
theorem dX0_ofWord_88 : decode cX0_ofWord 88 = .ok (.aload_n 0, 1) := by decide +kernel
theorem dX0_ofWord_89 : decode cX0_ofWord 89 = .ok (.iload_n 1, 1) := by decide +kernel
theorem dX0_ofWord_90 : decode cX0_ofWord 90 = .ok (.iload_n 3, 1) := by decide +kernel
theorem dX0_ofWord_91 : decode cX0_ofWord 91 = .ok (.invokevirtual 68, 3) := by decide +kernel
theorem dX0_ofWord_94 : decode cX0_ofWord 94 = .ok (.invokestatic 71, 3) := by decide +kernel
theorem dX0_ofWord_97 : decode cX0_ofWord 97 = .ok (.invokestatic 56, 3) := by decide +kernel
theorem dX0_ofWord_100 : decode cX0_ofWord 100 = .ok (.aload_n 0, 1) := by decide +kernel
theorem dX0_ofWord_101 : decode cX0_ofWord 101 = .ok (.getfield 26, 3) := by decide +kernel
theorem dX0_ofWord_104 : decode cX0_ofWord 104 = .ok (.invokevirtual 76, 3) := by decide +kernel
theorem dX0_ofWord_107 : decode cX0_ofWord 107 = .ok (.ireturn, 1) := by decide +kernel
abbrev YX0_ofWord : li_Y := (yX0_ofWord, cX0_ofWord, 5, (some .int))
theorem dX0_ofThing_0 : decode cX0_ofThing 0 = .ok (.aload_n 0, 1) := by decide +kernel
theorem dX0_ofThing_1 : decode cX0_ofThing 1 = .ok (.aload_n 0, 1) := by decide +kernel
theorem dX0_ofThing_2 : decode cX0_ofThing 2 = .ok (.getfield 18, 3) := by decide +kernel
theorem dX0_ofThing_5 : decode cX0_ofThing 5 = .ok (.getfield 80, 3) := by decide +kernel
theorem dX0_ofThing_8 : decode cX0_ofThing 8 = .ok (.iload_n 1, 1) := by decide +kernel
theorem dX0_ofThing_9 : decode cX0_ofThing 9 = .ok (.invokestatic 39, 3) := by decide +kernel
theorem dX0_ofThing_12 : decode cX0_ofThing 12 = .ok (.aload_n 0, 1) := by decide +kernel
theorem dX0_ofThing_13 : decode cX0_ofThing 13 = .ok (.getfield 18, 3) := by decide +kernel
theorem dX0_ofThing_16 : decode cX0_ofThing 16 = .ok (.getfield 83, 3) := by decide +kernel
theorem dX0_ofThing_19 : decode cX0_ofThing 19 = .ok (.iload_n 1, 1) := by decide +kernel
theorem dX0_ofThing_20 : decode cX0_ofThing 20 = .ok (.invokestatic 39, 3) := by decide +kernel
theorem dX0_ofThing_23 : decode cX0_ofThing 23 = .ok (.iload_n 2, 1) := by decide +kernel
theorem dX0_ofThing_24 : decode cX0_ofThing 24 = .ok (.aload_n 0, 1) := by decide +kernel
theorem dX0_ofThing_25 : decode cX0_ofThing 25 = .ok (.getfield 18, 3) := by decide +kernel
theorem dX0_ofThing_28 : decode cX0_ofThing 28 = .ok (.iload_n 1, 1) := by decide +kernel
theorem dX0_ofThing_29 : decode cX0_ofThing 29 = .ok (.invokevirtual 30, 3) := by decide +kernel
theorem dX0_ofThing_32 : decode cX0_ofThing 32 = .ok (.invokevirtual 86, 3) := by decide +kernel
theorem dX0_ofThing_35 : decode cX0_ofThing 35 = .ok (.ireturn, 1) := by decide +kernel
abbrev YX0_ofThing : li_Y := (yX0_ofThing, cX0_ofThing, 3, (some .int))
theorem dX0_cheapestWay_0 : decode cX0_cheapestWay 0 = .ok (.aload_n 0, 1) := by decide +kernel
theorem dX0_cheapestWay_1 : decode cX0_cheapestWay 1 = .ok (.getfield 18, 3) := by decide +kernel
theorem dX0_cheapestWay_4 : decode cX0_cheapestWay 4 = .ok (.iload_n 1, 1) := by decide +kernel
theorem dX0_cheapestWay_5 : decode cX0_cheapestWay 5 = .ok (.iload_n 2, 1) := by decide +kernel
theorem dX0_cheapestWay_6 : decode cX0_cheapestWay 6 = .ok (.invokevirtual 47, 3) := by decide +kernel
theorem dX0_cheapestWay_9 : decode cX0_cheapestWay 9 = .ok (.istore 4, 2) := by decide +kernel
theorem dX0_cheapestWay_11 : decode cX0_cheapestWay 11 = .ok (.iconst 3, 1) := by decide +kernel
theorem dX0_cheapestWay_12 : decode cX0_cheapestWay 12 = .ok (.istore 5, 2) := by decide +kernel
theorem dX0_cheapestWay_14 : decode cX0_cheapestWay 14 = .ok (.sipush 1000, 3) := by decide +kernel
theorem dX0_cheapestWay_17 : decode cX0_cheapestWay 17 = .ok (.istore 6, 2) := by decide +kernel
theorem dX0_cheapestWay_19 : decode cX0_cheapestWay 19 = .ok (.iconst 0, 1) := by decide +kernel
theorem dX0_cheapestWay_20 : decode cX0_cheapestWay 20 = .ok (.istore 7, 2) := by decide +kernel
theorem dX0_cheapestWay_22 : decode cX0_cheapestWay 22 = .ok (.iload 7, 2) := by decide +kernel
theorem dX0_cheapestWay_24 : decode cX0_cheapestWay 24 = .ok (.iconst 4, 1) := by decide +kernel
theorem dX0_cheapestWay_25 : decode cX0_cheapestWay 25 = .ok (.if_icmp .ge 49, 3) := by decide +kernel
theorem dX0_cheapestWay_28 : decode cX0_cheapestWay 28 = .ok (.iload 4, 2) := by decide +kernel
theorem dX0_cheapestWay_30 : decode cX0_cheapestWay 30 = .ok (.getstatic 36, 3) := by decide +kernel
theorem dX0_cheapestWay_33 : decode cX0_cheapestWay 33 = .ok (.iload 7, 2) := by decide +kernel
theorem dX0_cheapestWay_35 : decode cX0_cheapestWay 35 = .ok (.invokestatic 39, 3) := by decide +kernel
theorem dX0_cheapestWay_38 : decode cX0_cheapestWay 38 = .ok (.if_icmp .gt 30, 3) := by decide +kernel
theorem dX0_cheapestWay_41 : decode cX0_cheapestWay 41 = .ok (.aload_n 0, 1) := by decide +kernel
theorem dX0_cheapestWay_42 : decode cX0_cheapestWay 42 = .ok (.iload_n 1, 1) := by decide +kernel
theorem dX0_cheapestWay_43 : decode cX0_cheapestWay 43 = .ok (.iload_n 3, 1) := by decide +kernel
theorem dX0_cheapestWay_44 : decode cX0_cheapestWay 44 = .ok (.iload 7, 2) := by decide +kernel
theorem dX0_cheapestWay_46 : decode cX0_cheapestWay 46 = .ok (.iload 4, 2) := by decide +kernel
theorem dX0_cheapestWay_48 : decode cX0_cheapestWay 48 = .ok (.invokevirtual 86, 3) := by decide +kernel
theorem dX0_cheapestWay_51 : decode cX0_cheapestWay 51 = .ok (.istore 8, 2) := by decide +kernel
theorem dX0_cheapestWay_53 : decode cX0_cheapestWay 53 = .ok (.iload 8, 2) := by decide +kernel
theorem dX0_cheapestWay_55 : decode cX0_cheapestWay 55 = .ok (.iload 6, 2) := by decide +kernel
theorem dX0_cheapestWay_57 : decode cX0_cheapestWay 57 = .ok (.if_icmp .ge 11, 3) := by decide +kernel
theorem dX0_cheapestWay_60 : decode cX0_cheapestWay 60 = .ok (.iload 8, 2) := by decide +kernel
theorem dX0_cheapestWay_62 : decode cX0_cheapestWay 62 = .ok (.istore 6, 2) := by decide +kernel
theorem dX0_cheapestWay_64 : decode cX0_cheapestWay 64 = .ok (.iload 7, 2) := by decide +kernel
theorem dX0_cheapestWay_66 : decode cX0_cheapestWay 66 = .ok (.istore 5, 2) := by decide +kernel
theorem dX0_cheapestWay_68 : decode cX0_cheapestWay 68 = .ok (.iinc 7 1, 3) := by decide +kernel
theorem dX0_cheapestWay_71 : decode cX0_cheapestWay 71 = .ok (.goto (-49), 3) := by decide +kernel
theorem dX0_cheapestWay_74 : decode cX0_cheapestWay 74 = .ok (.iload 5, 2) := by decide +kernel
theorem dX0_cheapestWay_76 : decode cX0_cheapestWay 76 = .ok (.ireturn, 1) := by decide +kernel
abbrev YX0_cheapestWay : li_Y := (yX0_cheapestWay, cX0_cheapestWay, 9, (some .int))
theorem dX0_leastWay_0 : decode cX0_leastWay 0 = .ok (.aload_n 0, 1) := by decide +kernel
theorem dX0_leastWay_1 : decode cX0_leastWay 1 = .ok (.aload_n 0, 1) := by decide +kernel
theorem dX0_leastWay_2 : decode cX0_leastWay 2 = .ok (.getfield 18, 3) := by decide +kernel
theorem dX0_leastWay_5 : decode cX0_leastWay 5 = .ok (.getfield 80, 3) := by decide +kernel
theorem dX0_leastWay_8 : decode cX0_leastWay 8 = .ok (.iload_n 1, 1) := by decide +kernel
theorem dX0_leastWay_9 : decode cX0_leastWay 9 = .ok (.invokestatic 39, 3) := by decide +kernel
theorem dX0_leastWay_12 : decode cX0_leastWay 12 = .ok (.aload_n 0, 1) := by decide +kernel
theorem dX0_leastWay_13 : decode cX0_leastWay 13 = .ok (.getfield 18, 3) := by decide +kernel
theorem dX0_leastWay_16 : decode cX0_leastWay 16 = .ok (.getfield 90, 3) := by decide +kernel
theorem dX0_leastWay_19 : decode cX0_leastWay 19 = .ok (.iload_n 1, 1) := by decide +kernel
theorem dX0_leastWay_20 : decode cX0_leastWay 20 = .ok (.invokestatic 39, 3) := by decide +kernel
theorem dX0_leastWay_23 : decode cX0_leastWay 23 = .ok (.aload_n 0, 1) := by decide +kernel
theorem dX0_leastWay_24 : decode cX0_leastWay 24 = .ok (.getfield 18, 3) := by decide +kernel
theorem dX0_leastWay_27 : decode cX0_leastWay 27 = .ok (.getfield 83, 3) := by decide +kernel
theorem dX0_leastWay_30 : decode cX0_leastWay 30 = .ok (.iload_n 1, 1) := by decide +kernel
theorem dX0_leastWay_31 : decode cX0_leastWay 31 = .ok (.invokestatic 39, 3) := by decide +kernel
theorem dX0_leastWay_34 : decode cX0_leastWay 34 = .ok (.invokevirtual 93, 3) := by decide +kernel
theorem dX0_leastWay_37 : decode cX0_leastWay 37 = .ok (.ireturn, 1) := by decide +kernel
abbrev YX0_leastWay : li_Y := (yX0_leastWay, cX0_leastWay, 2, (some .int))
theorem dX0_fill_0 : decode cX0_fill 0 = .ok (.iconst 0, 1) := by decide +kernel
theorem dX0_fill_1 : decode cX0_fill 1 = .ok (.istore_n 1, 1) := by decide +kernel
theorem dX0_fill_2 : decode cX0_fill 2 = .ok (.iload_n 1, 1) := by decide +kernel
theorem dX0_fill_3 : decode cX0_fill 3 = .ok (.aload_n 0, 1) := by decide +kernel
theorem dX0_fill_4 : decode cX0_fill 4 = .ok (.getfield 18, 3) := by decide +kernel
theorem dX0_fill_7 : decode cX0_fill 7 = .ok (.getfield 97, 3) := by decide +kernel
theorem dX0_fill_10 : decode cX0_fill 10 = .ok (.if_icmp .ge 86, 3) := by decide +kernel
theorem dX0_fill_13 : decode cX0_fill 13 = .ok (.sipush 999, 3) := by decide +kernel
theorem dX0_fill_16 : decode cX0_fill 16 = .ok (.istore_n 2, 1) := by decide +kernel
theorem dX0_fill_17 : decode cX0_fill 17 = .ok (.iconst 0, 1) := by decide +kernel
theorem dX0_fill_18 : decode cX0_fill 18 = .ok (.istore_n 3, 1) := by decide +kernel
theorem dX0_fill_19 : decode cX0_fill 19 = .ok (.iload_n 3, 1) := by decide +kernel
theorem dX0_fill_20 : decode cX0_fill 20 = .ok (.iconst 4, 1) := by decide +kernel
theorem dX0_fill_21 : decode cX0_fill 21 = .ok (.if_icmp .ge 60, 3) := by decide +kernel
theorem dX0_fill_24 : decode cX0_fill 24 = .ok (.aload_n 0, 1) := by decide +kernel
theorem dX0_fill_25 : decode cX0_fill 25 = .ok (.iload_n 1, 1) := by decide +kernel
theorem dX0_fill_26 : decode cX0_fill 26 = .ok (.iload_n 3, 1) := by decide +kernel
theorem dX0_fill_27 : decode cX0_fill 27 = .ok (.invokevirtual 100, 3) := by decide +kernel
theorem dX0_fill_30 : decode cX0_fill 30 = .ok (.ifCond .eq 12, 3) := by decide +kernel
theorem dX0_fill_33 : decode cX0_fill 33 = .ok (.aload_n 0, 1) := by decide +kernel
theorem dX0_fill_34 : decode cX0_fill 34 = .ok (.iload_n 1, 1) := by decide +kernel
theorem dX0_fill_35 : decode cX0_fill 35 = .ok (.iload_n 3, 1) := by decide +kernel
theorem dX0_fill_36 : decode cX0_fill 36 = .ok (.invokevirtual 104, 3) := by decide +kernel
theorem dX0_fill_39 : decode cX0_fill 39 = .ok (.goto 4, 3) := by decide +kernel
theorem dX0_fill_42 : decode cX0_fill 42 = .ok (.iconst (-1), 1) := by decide +kernel
theorem dX0_fill_43 : decode cX0_fill 43 = .ok (.istore 4, 2) := by decide +kernel
theorem dX0_fill_45 : decode cX0_fill 45 = .ok (.aload_n 0, 1) := by decide +kernel
theorem dX0_fill_46 : decode cX0_fill 46 = .ok (.getfield 9, 3) := by decide +kernel
theorem dX0_fill_49 : decode cX0_fill 49 = .ok (.iload_n 1, 1) := by decide +kernel
theorem dX0_fill_50 : decode cX0_fill 50 = .ok (.iconst 4, 1) := by decide +kernel
theorem dX0_fill_51 : decode cX0_fill 51 = .ok (.imul, 1) := by decide +kernel
theorem dX0_fill_52 : decode cX0_fill 52 = .ok (.iload_n 3, 1) := by decide +kernel
theorem dX0_fill_53 : decode cX0_fill 53 = .ok (.iadd, 1) := by decide +kernel
theorem dX0_fill_54 : decode cX0_fill 54 = .ok (.iload 4, 2) := by decide +kernel
theorem dX0_fill_56 : decode cX0_fill 56 = .ok (.invokestatic 56, 3) := by decide +kernel
theorem dX0_fill_59 : decode cX0_fill 59 = .ok (.iload 4, 2) := by decide +kernel
theorem dX0_fill_61 : decode cX0_fill 61 = .ok (.ifCond .lt 12, 3) := by decide +kernel
theorem dX0_fill_64 : decode cX0_fill 64 = .ok (.iload_n 2, 1) := by decide +kernel
theorem dX0_fill_65 : decode cX0_fill 65 = .ok (.iload 4, 2) := by decide +kernel
theorem dX0_fill_67 : decode cX0_fill 67 = .ok (.invokestatic 107, 3) := by decide +kernel
theorem dX0_fill_70 : decode cX0_fill 70 = .ok (.goto 4, 3) := by decide +kernel
theorem dX0_fill_73 : decode cX0_fill 73 = .ok (.iload_n 2, 1) := by decide +kernel
theorem dX0_fill_74 : decode cX0_fill 74 = .ok (.istore_n 2, 1) := by decide +kernel
theorem dX0_fill_75 : decode cX0_fill 75 = .ok (.iinc 3 1, 3) := by decide +kernel
theorem dX0_fill_78 : decode cX0_fill 78 = .ok (.goto (-59), 3) := by decide +kernel
theorem dX0_fill_81 : decode cX0_fill 81 = .ok (.aload_n 0, 1) := by decide +kernel
theorem dX0_fill_82 : decode cX0_fill 82 = .ok (.getfield 15, 3) := by decide +kernel
theorem dX0_fill_85 : decode cX0_fill 85 = .ok (.iload_n 1, 1) := by decide +kernel
theorem dX0_fill_86 : decode cX0_fill 86 = .ok (.iload_n 2, 1) := by decide +kernel
theorem dX0_fill_87 : decode cX0_fill 87 = .ok (.invokestatic 56, 3) := by decide +kernel
theorem dX0_fill_90 : decode cX0_fill 90 = .ok (.iinc 1 1, 3) := by decide +kernel
theorem dX0_fill_93 : decode cX0_fill 93 = .ok (.goto (-91), 3) := by decide +kernel
theorem dX0_fill_96 : decode cX0_fill 96 = .ok (.return_, 1) := by decide +kernel
abbrev YX0_fill : li_Y := (yX0_fill, cX0_fill, 5, none)
theorem dX0_leastOfAll_0 : decode cX0_leastOfAll 0 = .ok (.iconst 0, 1) := by decide +kernel
theorem dX0_leastOfAll_1 : decode cX0_leastOfAll 1 = .ok (.istore_n 2, 1) := by decide +kernel
theorem dX0_leastOfAll_2 : decode cX0_leastOfAll 2 = .ok (.iconst 0, 1) := by decide +kernel
theorem dX0_leastOfAll_3 : decode cX0_leastOfAll 3 = .ok (.istore_n 3, 1) := by decide +kernel
theorem dX0_leastOfAll_4 : decode cX0_leastOfAll 4 = .ok (.iload_n 3, 1) := by decide +kernel
theorem dX0_leastOfAll_5 : decode cX0_leastOfAll 5 = .ok (.aload_n 0, 1) := by decide +kernel
theorem dX0_leastOfAll_6 : decode cX0_leastOfAll 6 = .ok (.getfield 18, 3) := by decide +kernel
theorem dX0_leastOfAll_9 : decode cX0_leastOfAll 9 = .ok (.getfield 97, 3) := by decide +kernel
theorem dX0_leastOfAll_12 : decode cX0_leastOfAll 12 = .ok (.if_icmp .ge 28, 3) := by decide +kernel
theorem dX0_leastOfAll_15 : decode cX0_leastOfAll 15 = .ok (.iload_n 1, 1) := by decide +kernel
theorem dX0_leastOfAll_16 : decode cX0_leastOfAll 16 = .ok (.iload_n 3, 1) := by decide +kernel
theorem dX0_leastOfAll_17 : decode cX0_leastOfAll 17 = .ok (.invokestatic 112, 3) := by decide +kernel
theorem dX0_leastOfAll_20 : decode cX0_leastOfAll 20 = .ok (.ifCond .eq 14, 3) := by decide +kernel
theorem dX0_leastOfAll_23 : decode cX0_leastOfAll 23 = .ok (.iload_n 2, 1) := by decide +kernel
theorem dX0_leastOfAll_24 : decode cX0_leastOfAll 24 = .ok (.aload_n 0, 1) := by decide +kernel
theorem dX0_leastOfAll_25 : decode cX0_leastOfAll 25 = .ok (.getfield 15, 3) := by decide +kernel
theorem dX0_leastOfAll_28 : decode cX0_leastOfAll 28 = .ok (.iload_n 3, 1) := by decide +kernel
theorem dX0_leastOfAll_29 : decode cX0_leastOfAll 29 = .ok (.invokestatic 39, 3) := by decide +kernel
theorem dX0_leastOfAll_32 : decode cX0_leastOfAll 32 = .ok (.iadd, 1) := by decide +kernel
theorem dX0_leastOfAll_33 : decode cX0_leastOfAll 33 = .ok (.istore_n 2, 1) := by decide +kernel
theorem dX0_leastOfAll_34 : decode cX0_leastOfAll 34 = .ok (.iinc 3 1, 3) := by decide +kernel
theorem dX0_leastOfAll_37 : decode cX0_leastOfAll 37 = .ok (.goto (-33), 3) := by decide +kernel
theorem dX0_leastOfAll_40 : decode cX0_leastOfAll 40 = .ok (.iload_n 2, 1) := by decide +kernel
theorem dX0_leastOfAll_41 : decode cX0_leastOfAll 41 = .ok (.ireturn, 1) := by decide +kernel
abbrev YX0_leastOfAll : li_Y := (yX0_leastOfAll, cX0_leastOfAll, 4, (some .int))
theorem dX0_openThings_0 : decode cX0_openThings 0 = .ok (.iconst 0, 1) := by decide +kernel
theorem dX0_openThings_1 : decode cX0_openThings 1 = .ok (.istore_n 1, 1) := by decide +kernel
theorem dX0_openThings_2 : decode cX0_openThings 2 = .ok (.iconst 0, 1) := by decide +kernel
theorem dX0_openThings_3 : decode cX0_openThings 3 = .ok (.istore_n 2, 1) := by decide +kernel
theorem dX0_openThings_4 : decode cX0_openThings 4 = .ok (.iload_n 2, 1) := by decide +kernel
theorem dX0_openThings_5 : decode cX0_openThings 5 = .ok (.aload_n 0, 1) := by decide +kernel
theorem dX0_openThings_6 : decode cX0_openThings 6 = .ok (.getfield 18, 3) := by decide +kernel
theorem dX0_openThings_9 : decode cX0_openThings 9 = .ok (.getfield 97, 3) := by decide +kernel
theorem dX0_openThings_12 : decode cX0_openThings 12 = .ok (.if_icmp .ge 44, 3) := by decide +kernel
theorem dX0_openThings_15 : decode cX0_openThings 15 = .ok (.aload_n 0, 1) := by decide +kernel
theorem dX0_openThings_16 : decode cX0_openThings 16 = .ok (.getfield 22, 3) := by decide +kernel
theorem dX0_openThings_19 : decode cX0_openThings 19 = .ok (.getfield 115, 3) := by decide +kernel
theorem dX0_openThings_22 : decode cX0_openThings 22 = .ok (.iload_n 2, 1) := by decide +kernel
theorem dX0_openThings_23 : decode cX0_openThings 23 = .ok (.invokestatic 112, 3) := by decide +kernel
theorem dX0_openThings_26 : decode cX0_openThings 26 = .ok (.ifCond .ne 24, 3) := by decide +kernel
theorem dX0_openThings_29 : decode cX0_openThings 29 = .ok (.aload_n 0, 1) := by decide +kernel
theorem dX0_openThings_30 : decode cX0_openThings 30 = .ok (.getfield 22, 3) := by decide +kernel
theorem dX0_openThings_33 : decode cX0_openThings 33 = .ok (.aload_n 0, 1) := by decide +kernel
theorem dX0_openThings_34 : decode cX0_openThings 34 = .ok (.getfield 18, 3) := by decide +kernel
theorem dX0_openThings_37 : decode cX0_openThings 37 = .ok (.iload_n 2, 1) := by decide +kernel
theorem dX0_openThings_38 : decode cX0_openThings 38 = .ok (.invokevirtual 118, 3) := by decide +kernel
theorem dX0_openThings_41 : decode cX0_openThings 41 = .ok (.ifCond .ne 9, 3) := by decide +kernel
theorem dX0_openThings_44 : decode cX0_openThings 44 = .ok (.iload_n 1, 1) := by decide +kernel
theorem dX0_openThings_45 : decode cX0_openThings 45 = .ok (.iconst 1, 1) := by decide +kernel
theorem dX0_openThings_46 : decode cX0_openThings 46 = .ok (.iload_n 2, 1) := by decide +kernel
theorem dX0_openThings_47 : decode cX0_openThings 47 = .ok (.ishl, 1) := by decide +kernel
theorem dX0_openThings_48 : decode cX0_openThings 48 = .ok (.ior, 1) := by decide +kernel
theorem dX0_openThings_49 : decode cX0_openThings 49 = .ok (.istore_n 1, 1) := by decide +kernel
theorem dX0_openThings_50 : decode cX0_openThings 50 = .ok (.iinc 2 1, 3) := by decide +kernel
theorem dX0_openThings_53 : decode cX0_openThings 53 = .ok (.goto (-49), 3) := by decide +kernel
theorem dX0_openThings_56 : decode cX0_openThings 56 = .ok (.iload_n 1, 1) := by decide +kernel
theorem dX0_openThings_57 : decode cX0_openThings 57 = .ok (.ireturn, 1) := by decide +kernel
abbrev YX0_openThings : li_Y := (yX0_openThings, cX0_openThings, 3, (some .int))
theorem dX0_openThingsOf_0 : decode cX0_openThingsOf 0 = .ok (.aload_n 0, 1) := by decide +kernel
theorem dX0_openThingsOf_1 : decode cX0_openThingsOf 1 = .ok (.invokevirtual 122, 3) := by decide +kernel
theorem dX0_openThingsOf_4 : decode cX0_openThingsOf 4 = .ok (.aload_n 0, 1) := by decide +kernel
theorem dX0_openThingsOf_5 : decode cX0_openThingsOf 5 = .ok (.getfield 18, 3) := by decide +kernel
theorem dX0_openThingsOf_8 : decode cX0_openThingsOf 8 = .ok (.iload_n 1, 1) := by decide +kernel
theorem dX0_openThingsOf_9 : decode cX0_openThingsOf 9 = .ok (.invokevirtual 125, 3) := by decide +kernel
theorem dX0_openThingsOf_12 : decode cX0_openThingsOf 12 = .ok (.iand, 1) := by decide +kernel
theorem dX0_openThingsOf_13 : decode cX0_openThingsOf 13 = .ok (.ireturn, 1) := by decide +kernel
abbrev YX0_openThingsOf : li_Y := (yX0_openThingsOf, cX0_openThingsOf, 2, (some .int))
theorem dX0_weigh_0 : decode cX0_weigh 0 = .ok (.iconst 0, 1) := by decide +kernel
theorem dX0_weigh_1 : decode cX0_weigh 1 = .ok (.istore_n 3, 1) := by decide +kernel
theorem dX0_weigh_2 : decode cX0_weigh 2 = .ok (.iconst 0, 1) := by decide +kernel
theorem dX0_weigh_3 : decode cX0_weigh 3 = .ok (.istore 4, 2) := by decide +kernel
theorem dX0_weigh_5 : decode cX0_weigh 5 = .ok (.iconst 0, 1) := by decide +kernel
theorem dX0_weigh_6 : decode cX0_weigh 6 = .ok (.istore 5, 2) := by decide +kernel
theorem dX0_weigh_8 : decode cX0_weigh 8 = .ok (.iload 5, 2) := by decide +kernel
theorem dX0_weigh_10 : decode cX0_weigh 10 = .ok (.aload_n 0, 1) := by decide +kernel
theorem dX0_weigh_11 : decode cX0_weigh 11 = .ok (.getfield 18, 3) := by decide +kernel
theorem dX0_weigh_14 : decode cX0_weigh 14 = .ok (.getfield 97, 3) := by decide +kernel
theorem dX0_weigh_17 : decode cX0_weigh 17 = .ok (.if_icmp .ge 47, 3) := by decide +kernel
theorem dX0_weigh_20 : decode cX0_weigh 20 = .ok (.iload_n 1, 1) := by decide +kernel
theorem dX0_weigh_21 : decode cX0_weigh 21 = .ok (.iload 5, 2) := by decide +kernel
theorem dX0_weigh_23 : decode cX0_weigh 23 = .ok (.invokestatic 112, 3) := by decide +kernel
theorem dX0_weigh_26 : decode cX0_weigh 26 = .ok (.ifCond .eq 32, 3) := by decide +kernel
theorem dX0_weigh_29 : decode cX0_weigh 29 = .ok (.iload_n 3, 1) := by decide +kernel
theorem dX0_weigh_30 : decode cX0_weigh 30 = .ok (.aload_n 0, 1) := by decide +kernel
theorem dX0_weigh_31 : decode cX0_weigh 31 = .ok (.getfield 15, 3) := by decide +kernel
theorem dX0_weigh_34 : decode cX0_weigh 34 = .ok (.iload 5, 2) := by decide +kernel
theorem dX0_weigh_36 : decode cX0_weigh 36 = .ok (.invokestatic 39, 3) := by decide +kernel
theorem dX0_weigh_39 : decode cX0_weigh 39 = .ok (.iadd, 1) := by decide +kernel
theorem dX0_weigh_40 : decode cX0_weigh 40 = .ok (.istore_n 3, 1) := by decide +kernel
theorem dX0_weigh_41 : decode cX0_weigh 41 = .ok (.iload 4, 2) := by decide +kernel
theorem dX0_weigh_43 : decode cX0_weigh 43 = .ok (.aload_n 0, 1) := by decide +kernel
theorem dX0_weigh_44 : decode cX0_weigh 44 = .ok (.getfield 18, 3) := by decide +kernel
theorem dX0_weigh_47 : decode cX0_weigh 47 = .ok (.getfield 147, 3) := by decide +kernel
theorem dX0_weigh_50 : decode cX0_weigh 50 = .ok (.iload 5, 2) := by decide +kernel
theorem dX0_weigh_52 : decode cX0_weigh 52 = .ok (.invokestatic 39, 3) := by decide +kernel
theorem dX0_weigh_55 : decode cX0_weigh 55 = .ok (.iadd, 1) := by decide +kernel
theorem dX0_weigh_56 : decode cX0_weigh 56 = .ok (.istore 4, 2) := by decide +kernel
theorem dX0_weigh_58 : decode cX0_weigh 58 = .ok (.iinc 5 1, 3) := by decide +kernel
theorem dX0_weigh_61 : decode cX0_weigh 61 = .ok (.goto (-53), 3) := by decide +kernel
theorem dX0_weigh_64 : decode cX0_weigh 64 = .ok (.iload 4, 2) := by decide +kernel
theorem dX0_weigh_66 : decode cX0_weigh 66 = .ok (.aload_n 0, 1) := by decide +kernel
theorem dX0_weigh_67 : decode cX0_weigh 67 = .ok (.getfield 141, 3) := by decide +kernel
theorem dX0_weigh_70 : decode cX0_weigh 70 = .ok (.if_icmp .gt 20, 3) := by decide +kernel
theorem dX0_weigh_73 : decode cX0_weigh 73 = .ok (.iload 4, 2) := by decide +kernel
theorem dX0_weigh_75 : decode cX0_weigh 75 = .ok (.aload_n 0, 1) := by decide +kernel
theorem dX0_weigh_76 : decode cX0_weigh 76 = .ok (.getfield 141, 3) := by decide +kernel
theorem dX0_weigh_79 : decode cX0_weigh 79 = .ok (.if_icmp .ne 15, 3) := by decide +kernel
theorem dX0_weigh_82 : decode cX0_weigh 82 = .ok (.iload_n 3, 1) := by decide +kernel
theorem dX0_weigh_83 : decode cX0_weigh 83 = .ok (.aload_n 0, 1) := by decide +kernel
theorem dX0_weigh_84 : decode cX0_weigh 84 = .ok (.getfield 138, 3) := by decide +kernel
theorem dX0_weigh_87 : decode cX0_weigh 87 = .ok (.if_icmp .ge 7, 3) := by decide +kernel
theorem dX0_weigh_90 : decode cX0_weigh 90 = .ok (.iconst 1, 1) := by decide +kernel
theorem dX0_weigh_91 : decode cX0_weigh 91 = .ok (.goto 4, 3) := by decide +kernel
theorem dX0_weigh_94 : decode cX0_weigh 94 = .ok (.iconst 0, 1) := by decide +kernel
theorem dX0_weigh_95 : decode cX0_weigh 95 = .ok (.istore 5, 2) := by decide +kernel
theorem dX0_weigh_97 : decode cX0_weigh 97 = .ok (.iload_n 3, 1) := by decide +kernel
theorem dX0_weigh_98 : decode cX0_weigh 98 = .ok (.iload_n 2, 1) := by decide +kernel
theorem dX0_weigh_99 : decode cX0_weigh 99 = .ok (.if_icmp .gt 24, 3) := by decide +kernel
theorem dX0_weigh_102 : decode cX0_weigh 102 = .ok (.iload 5, 2) := by decide +kernel
theorem dX0_weigh_104 : decode cX0_weigh 104 = .ok (.ifCond .eq 19, 3) := by decide +kernel
theorem dX0_weigh_107 : decode cX0_weigh 107 = .ok (.aload_n 0, 1) := by decide +kernel
theorem dX0_weigh_108 : decode cX0_weigh 108 = .ok (.iload_n 1, 1) := by decide +kernel
theorem dX0_weigh_109 : decode cX0_weigh 109 = .ok (.putfield 135, 3) := by decide +kernel
theorem dX0_weigh_112 : decode cX0_weigh 112 = .ok (.aload_n 0, 1) := by decide +kernel
theorem dX0_weigh_113 : decode cX0_weigh 113 = .ok (.iload_n 3, 1) := by decide +kernel
theorem dX0_weigh_114 : decode cX0_weigh 114 = .ok (.putfield 138, 3) := by decide +kernel
theorem dX0_weigh_117 : decode cX0_weigh 117 = .ok (.aload_n 0, 1) := by decide +kernel
theorem dX0_weigh_118 : decode cX0_weigh 118 = .ok (.iload 4, 2) := by decide +kernel
theorem dX0_weigh_120 : decode cX0_weigh 120 = .ok (.putfield 141, 3) := by decide +kernel
theorem dX0_weigh_123 : decode cX0_weigh 123 = .ok (.return_, 1) := by decide +kernel
abbrev YX0_weigh : li_Y := (yX0_weigh, cX0_weigh, 6, none)
theorem dX0_choose_0 : decode cX0_choose 0 = .ok (.aload_n 0, 1) := by decide +kernel
theorem dX0_choose_1 : decode cX0_choose 1 = .ok (.iconst 0, 1) := by decide +kernel
theorem dX0_choose_2 : decode cX0_choose 2 = .ok (.putfield 135, 3) := by decide +kernel
theorem dX0_choose_5 : decode cX0_choose 5 = .ok (.aload_n 0, 1) := by decide +kernel
theorem dX0_choose_6 : decode cX0_choose 6 = .ok (.iconst 0, 1) := by decide +kernel
theorem dX0_choose_7 : decode cX0_choose 7 = .ok (.putfield 138, 3) := by decide +kernel
theorem dX0_choose_10 : decode cX0_choose 10 = .ok (.aload_n 0, 1) := by decide +kernel
theorem dX0_choose_11 : decode cX0_choose 11 = .ok (.iconst 0, 1) := by decide +kernel
theorem dX0_choose_12 : decode cX0_choose 12 = .ok (.putfield 141, 3) := by decide +kernel
theorem dX0_choose_15 : decode cX0_choose 15 = .ok (.iconst 1, 1) := by decide +kernel
theorem dX0_choose_16 : decode cX0_choose 16 = .ok (.istore_n 3, 1) := by decide +kernel
theorem dX0_choose_17 : decode cX0_choose 17 = .ok (.iload_n 3, 1) := by decide +kernel
theorem dX0_choose_18 : decode cX0_choose 18 = .ok (.sipush 256, 3) := by decide +kernel
theorem dX0_choose_21 : decode cX0_choose 21 = .ok (.if_icmp .ge 23, 3) := by decide +kernel
theorem dX0_choose_24 : decode cX0_choose 24 = .ok (.iload_n 3, 1) := by decide +kernel
theorem dX0_choose_25 : decode cX0_choose 25 = .ok (.iload_n 1, 1) := by decide +kernel
theorem dX0_choose_26 : decode cX0_choose 26 = .ok (.iconst (-1), 1) := by decide +kernel
theorem dX0_choose_27 : decode cX0_choose 27 = .ok (.ixor, 1) := by decide +kernel
theorem dX0_choose_28 : decode cX0_choose 28 = .ok (.iand, 1) := by decide +kernel
theorem dX0_choose_29 : decode cX0_choose 29 = .ok (.ifCond .ne 9, 3) := by decide +kernel
theorem dX0_choose_32 : decode cX0_choose 32 = .ok (.aload_n 0, 1) := by decide +kernel
theorem dX0_choose_33 : decode cX0_choose 33 = .ok (.iload_n 3, 1) := by decide +kernel
theorem dX0_choose_34 : decode cX0_choose 34 = .ok (.iload_n 2, 1) := by decide +kernel
theorem dX0_choose_35 : decode cX0_choose 35 = .ok (.invokevirtual 144, 3) := by decide +kernel
theorem dX0_choose_38 : decode cX0_choose 38 = .ok (.iinc 3 1, 3) := by decide +kernel
theorem dX0_choose_41 : decode cX0_choose 41 = .ok (.goto (-24), 3) := by decide +kernel
theorem dX0_choose_44 : decode cX0_choose 44 = .ok (.return_, 1) := by decide +kernel
abbrev YX0_choose : li_Y := (yX0_choose, cX0_choose, 4, none)
theorem dX0_chooseFor_0 : decode cX0_chooseFor 0 = .ok (.aload_n 0, 1) := by decide +kernel
theorem dX0_chooseFor_1 : decode cX0_chooseFor 1 = .ok (.aload_n 0, 1) := by decide +kernel
theorem dX0_chooseFor_2 : decode cX0_chooseFor 2 = .ok (.iload_n 1, 1) := by decide +kernel
theorem dX0_chooseFor_3 : decode cX0_chooseFor 3 = .ok (.invokevirtual 128, 3) := by decide +kernel
theorem dX0_chooseFor_6 : decode cX0_chooseFor 6 = .ok (.aload_n 0, 1) := by decide +kernel
theorem dX0_chooseFor_7 : decode cX0_chooseFor 7 = .ok (.getfield 22, 3) := by decide +kernel
theorem dX0_chooseFor_10 : decode cX0_chooseFor 10 = .ok (.getfield 60, 3) := by decide +kernel
theorem dX0_chooseFor_13 : decode cX0_chooseFor 13 = .ok (.iload_n 1, 1) := by decide +kernel
theorem dX0_chooseFor_14 : decode cX0_chooseFor 14 = .ok (.invokestatic 39, 3) := by decide +kernel
theorem dX0_chooseFor_17 : decode cX0_chooseFor 17 = .ok (.invokevirtual 131, 3) := by decide +kernel
theorem dX0_chooseFor_20 : decode cX0_chooseFor 20 = .ok (.return_, 1) := by decide +kernel
abbrev YX0_chooseFor : li_Y := (yX0_chooseFor, cX0_chooseFor, 2, none)
theorem dX0_firstUnpayable_0 : decode cX0_firstUnpayable 0 = .ok (.aload_n 0, 1) := by decide +kernel
theorem dX0_firstUnpayable_1 : decode cX0_firstUnpayable 1 = .ok (.invokevirtual 122, 3) := by decide +kernel
theorem dX0_firstUnpayable_4 : decode cX0_firstUnpayable 4 = .ok (.istore_n 1, 1) := by decide +kernel
theorem dX0_firstUnpayable_5 : decode cX0_firstUnpayable 5 = .ok (.iconst (-1), 1) := by decide +kernel
theorem dX0_firstUnpayable_6 : decode cX0_firstUnpayable 6 = .ok (.istore_n 2, 1) := by decide +kernel
theorem dX0_firstUnpayable_7 : decode cX0_firstUnpayable 7 = .ok (.iconst 0, 1) := by decide +kernel
theorem dX0_firstUnpayable_8 : decode cX0_firstUnpayable 8 = .ok (.istore_n 3, 1) := by decide +kernel
theorem dX0_firstUnpayable_9 : decode cX0_firstUnpayable 9 = .ok (.iload_n 3, 1) := by decide +kernel
theorem dX0_firstUnpayable_10 : decode cX0_firstUnpayable 10 = .ok (.aload_n 0, 1) := by decide +kernel
theorem dX0_firstUnpayable_11 : decode cX0_firstUnpayable 11 = .ok (.getfield 18, 3) := by decide +kernel
theorem dX0_firstUnpayable_14 : decode cX0_firstUnpayable 14 = .ok (.getfield 97, 3) := by decide +kernel
theorem dX0_firstUnpayable_17 : decode cX0_firstUnpayable 17 = .ok (.if_icmp .ge 92, 3) := by decide +kernel
theorem dX0_firstUnpayable_20 : decode cX0_firstUnpayable 20 = .ok (.iload_n 2, 1) := by decide +kernel
theorem dX0_firstUnpayable_21 : decode cX0_firstUnpayable 21 = .ok (.ifCond .lt 28, 3) := by decide +kernel
theorem dX0_firstUnpayable_24 : decode cX0_firstUnpayable 24 = .ok (.aload_n 0, 1) := by decide +kernel
theorem dX0_firstUnpayable_25 : decode cX0_firstUnpayable 25 = .ok (.getfield 18, 3) := by decide +kernel
theorem dX0_firstUnpayable_28 : decode cX0_firstUnpayable 28 = .ok (.getfield 150, 3) := by decide +kernel
theorem dX0_firstUnpayable_31 : decode cX0_firstUnpayable 31 = .ok (.iload_n 3, 1) := by decide +kernel
theorem dX0_firstUnpayable_32 : decode cX0_firstUnpayable 32 = .ok (.invokestatic 39, 3) := by decide +kernel
theorem dX0_firstUnpayable_35 : decode cX0_firstUnpayable 35 = .ok (.aload_n 0, 1) := by decide +kernel
theorem dX0_firstUnpayable_36 : decode cX0_firstUnpayable 36 = .ok (.getfield 18, 3) := by decide +kernel
theorem dX0_firstUnpayable_39 : decode cX0_firstUnpayable 39 = .ok (.getfield 150, 3) := by decide +kernel
theorem dX0_firstUnpayable_42 : decode cX0_firstUnpayable 42 = .ok (.iload_n 2, 1) := by decide +kernel
theorem dX0_firstUnpayable_43 : decode cX0_firstUnpayable 43 = .ok (.invokestatic 39, 3) := by decide +kernel
theorem dX0_firstUnpayable_46 : decode cX0_firstUnpayable 46 = .ok (.if_icmp .ge 7, 3) := by decide +kernel
theorem dX0_firstUnpayable_49 : decode cX0_firstUnpayable 49 = .ok (.iconst 1, 1) := by decide +kernel
theorem dX0_firstUnpayable_50 : decode cX0_firstUnpayable 50 = .ok (.goto 4, 3) := by decide +kernel
theorem dX0_firstUnpayable_53 : decode cX0_firstUnpayable 53 = .ok (.iconst 0, 1) := by decide +kernel
theorem dX0_firstUnpayable_54 : decode cX0_firstUnpayable 54 = .ok (.istore 4, 2) := by decide +kernel
theorem dX0_firstUnpayable_56 : decode cX0_firstUnpayable 56 = .ok (.iload 4, 2) := by decide +kernel
theorem dX0_firstUnpayable_58 : decode cX0_firstUnpayable 58 = .ok (.ifCond .eq 45, 3) := by decide +kernel
theorem dX0_firstUnpayable_61 : decode cX0_firstUnpayable 61 = .ok (.iload_n 1, 1) := by decide +kernel
theorem dX0_firstUnpayable_62 : decode cX0_firstUnpayable 62 = .ok (.iload_n 3, 1) := by decide +kernel
theorem dX0_firstUnpayable_63 : decode cX0_firstUnpayable 63 = .ok (.invokestatic 112, 3) := by decide +kernel
theorem dX0_firstUnpayable_66 : decode cX0_firstUnpayable 66 = .ok (.ifCond .eq 37, 3) := by decide +kernel
theorem dX0_firstUnpayable_69 : decode cX0_firstUnpayable 69 = .ok (.aload_n 0, 1) := by decide +kernel
theorem dX0_firstUnpayable_70 : decode cX0_firstUnpayable 70 = .ok (.getfield 15, 3) := by decide +kernel
theorem dX0_firstUnpayable_73 : decode cX0_firstUnpayable 73 = .ok (.iload_n 3, 1) := by decide +kernel
theorem dX0_firstUnpayable_74 : decode cX0_firstUnpayable 74 = .ok (.invokestatic 39, 3) := by decide +kernel
theorem dX0_firstUnpayable_77 : decode cX0_firstUnpayable 77 = .ok (.aload_n 0, 1) := by decide +kernel
theorem dX0_firstUnpayable_78 : decode cX0_firstUnpayable 78 = .ok (.getfield 22, 3) := by decide +kernel
theorem dX0_firstUnpayable_81 : decode cX0_firstUnpayable 81 = .ok (.getfield 60, 3) := by decide +kernel
theorem dX0_firstUnpayable_84 : decode cX0_firstUnpayable 84 = .ok (.aload_n 0, 1) := by decide +kernel
theorem dX0_firstUnpayable_85 : decode cX0_firstUnpayable 85 = .ok (.getfield 18, 3) := by decide +kernel
theorem dX0_firstUnpayable_88 : decode cX0_firstUnpayable 88 = .ok (.getfield 80, 3) := by decide +kernel
theorem dX0_firstUnpayable_91 : decode cX0_firstUnpayable 91 = .ok (.iload_n 3, 1) := by decide +kernel
theorem dX0_firstUnpayable_92 : decode cX0_firstUnpayable 92 = .ok (.invokestatic 39, 3) := by decide +kernel
theorem dX0_firstUnpayable_95 : decode cX0_firstUnpayable 95 = .ok (.invokestatic 39, 3) := by decide +kernel
theorem dX0_firstUnpayable_98 : decode cX0_firstUnpayable 98 = .ok (.if_icmp .le 5, 3) := by decide +kernel
theorem dX0_firstUnpayable_101 : decode cX0_firstUnpayable 101 = .ok (.iload_n 3, 1) := by decide +kernel
theorem dX0_firstUnpayable_102 : decode cX0_firstUnpayable 102 = .ok (.istore_n 2, 1) := by decide +kernel
theorem dX0_firstUnpayable_103 : decode cX0_firstUnpayable 103 = .ok (.iinc 3 1, 3) := by decide +kernel
theorem dX0_firstUnpayable_106 : decode cX0_firstUnpayable 106 = .ok (.goto (-97), 3) := by decide +kernel
theorem dX0_firstUnpayable_109 : decode cX0_firstUnpayable 109 = .ok (.iload_n 2, 1) := by decide +kernel
theorem dX0_firstUnpayable_110 : decode cX0_firstUnpayable 110 = .ok (.ireturn, 1) := by decide +kernel
abbrev YX0_firstUnpayable : li_Y := (yX0_firstUnpayable, cX0_firstUnpayable, 5, (some .int))
set_option maxRecDepth 100000 in
set_option maxHeartbeats 4000000 in
theorem k_X0_isHeard {l : Launch} {Z : li_Z} (d : Nat) (hd : 4 ≤ d) {c : Nat} (hc : li_co c) (p1 p2 : Int32) (M0 : li_M) : li_Met l Z YX0_isHeard d [.ref (Z.2.2 c), .int p1, .int p2] M0 (li_SZ (fun i => False) M0) := by
  refine li_enter (by decide +kernel) (Nat.le_of_ble_eq_true rfl) ?_
  show li_T l Z YX0_isHeard d 0 [(0, .ref (Z.2.2 c)), (1, .int p1), (2, .int p2)] [] M0 _
  have hf : li_fr (fun i => False) M0 M0 := li_fr_refl
  refine li_aload_n 0 dX0_isHeard_0 rfl ?_
  refine li_getr (k := 0) (N := 8) (T := TX0) (C0 := RX0) dX0_isHeard_1 (snC0 hc) (shC0 hc) rfl rfl (by decide) (by decide) li_in0 w_385 ?_
  refine li_iload_n 1 dX0_isHeard_4 rfl ?_
  refine li_callV (n := 1) (As := [.int p1]) dX0_isHeard_5 (k_X8_apartFor (d - 1) (by omega) p1 M0) (by omega) (Nat.le_of_ble_eq_true rfl) w_812 w_813 w_814 w_107 w_815 (by decide +kernel) rfl (by decide) sh_5 rfl rfl (Nat.le_of_ble_eq_true rfl) (fun r M2 h3 => ?_)
  obtain ⟨⟨x1, rfl⟩, h3⟩ := h3
  have hf := li_fr_trans hf h3 (fun i h => False.elim h)
  refine li_reach dX0_isHeard_8 w_824 ?_
  refine li_iload_n 2 dX0_isHeard_11 rfl ?_
  refine li_callN (n := 2) (As := [.ref (Z.2.2 2000), .int p2]) dX0_isHeard_12 (k_X11_atR (d - 1) (by omega) p2 M2) (by omega) (Nat.le_of_ble_eq_true rfl) nw_17 w_589 w_104 w_590 (by decide +kernel) rfl rfl (Nat.le_of_ble_eq_true rfl) (fun r M5 h6 => ?_)
  obtain ⟨⟨x4, rfl⟩, h6⟩ := h6
  have hf := li_fr_trans hf h6 (fun i h => False.elim h)
  refine li_icmp_gt 22 dX0_isHeard_15 (by decide) (fun c7 => ?_) (fun c7 => ?_)
  · refine li_iconst 0 dX0_isHeard_22 (by decide) ?_
    exact li_iret dX0_isHeard_23 rfl (li_nz (Or.inl rfl)) ⟨⟨_, rfl, Or.inl rfl⟩, hf⟩
  · refine li_iconst 1 dX0_isHeard_18 (by decide) ?_
    refine li_goto 23 dX0_isHeard_19 (by decide) ?_
    exact li_iret dX0_isHeard_23 rfl (li_nz (Or.inr rfl)) ⟨⟨_, rfl, Or.inr rfl⟩, hf⟩
set_option maxRecDepth 100000 in
set_option maxHeartbeats 4000000 in
theorem k_X0_hearers {l : Launch} {Z : li_Z} (d : Nat) (hd : 3 ≤ d) {c : Nat} (hc : li_co c) (p1 p2 : Int32) (M0 : li_M) : li_Met l Z YX0_hearers d [.ref (Z.2.2 c), .int p1, .int p2] M0 (li_SI (fun i => False) M0) := by
  refine li_enter (by decide +kernel) (Nat.le_of_ble_eq_true rfl) ?_
  show li_T l Z YX0_hearers d 0 [(0, .ref (Z.2.2 c)), (1, .int p1), (2, .int p2)] [] M0 _
  have hf : li_fr (fun i => False) M0 M0 := li_fr_refl
  refine li_reach dX0_hearers_0 w_824 ?_
  refine li_iload_n 2 dX0_hearers_3 rfl ?_
  refine li_callN (n := 2) (As := [.ref (Z.2.2 2000), .int p2]) dX0_hearers_4 (k_X11_atR (d - 1) (by omega) p2 M0) (by omega) (Nat.le_of_ble_eq_true rfl) nw_17 w_589 w_104 w_590 (by decide +kernel) rfl rfl (Nat.le_of_ble_eq_true rfl) (fun r M2 h3 => ?_)
  obtain ⟨⟨x1, rfl⟩, h3⟩ := h3
  have hf := li_fr_trans hf h3 (fun i h => False.elim h)
  refine li_istore_n [(3, .int x1), (0, .ref (Z.2.2 c)), (1, .int p1), (2, .int p2)] dX0_hearers_7 (by decide) rfl ?_
  refine li_iconst 0 dX0_hearers_8 (by decide) ?_
  refine li_istore [(4, .int 0), (3, .int x1), (0, .ref (Z.2.2 c)), (1, .int p1), (2, .int p2)] dX0_hearers_9 (by decide) rfl ?_
  refine li_iconst 0 dX0_hearers_11 (by decide) ?_
  refine li_istore [(5, .int 0), (4, .int 0), (3, .int x1), (0, .ref (Z.2.2 c)), (1, .int p1), (2, .int p2)] dX0_hearers_12 (by decide) rfl ?_
  have L14 : ∀ (n : Nat) (x4 : Int32) (x5 : Int32) (M6 : li_M), (2147483647 - (x4 : Int32).toInt).toNat < n → li_fr (fun i => False) M0 M6 → li_T l Z YX0_hearers d 14 [(5, .int x4), (4, .int x5), (3, .int x1), (0, .ref (Z.2.2 c)), (1, .int p1), (2, .int p2)] [] M6 (li_SI (fun i => False) M0) := by
    intro n
    induction n with
    | zero => intro x4 x5 M6 hn; exact absurd hn (Nat.not_lt_zero _)
    | succ n ih14 =>
      intro x4 x5 M6 hn hf
      refine li_iload 0 dX0_hearers_14 rfl ?_
      refine li_aload_n 3 dX0_hearers_16 rfl ?_
      refine li_getr (k := 0) (N := 8) (T := TX0) (C0 := RX0) dX0_hearers_17 (snC0 hc) (shC0 hc) rfl rfl (by decide) (by decide) li_in0 w_385 ?_
      refine li_geti (k := 0) (N := 9) (T := TX8) (C0 := RX8) dX0_hearers_20 (by decide) sh_5 rfl rfl (by decide) li_in8 w_180 ?_
      refine li_top (fun x7 ex7 => ?_)
      refine li_icmp_ge 61 dX0_hearers_23 (by decide) (fun c8 => ?_) (fun c8 => ?_)
      · refine li_iload 1 dX0_hearers_61 rfl ?_
        exact li_iret dX0_hearers_63 rfl rfl ⟨⟨_, rfl⟩, hf⟩
      · refine li_iload 0 dX0_hearers_26 rfl ?_
        refine li_iload_n 4 dX0_hearers_28 rfl ?_
        have J55 : ∀ (x10 : Int32) (M11 : li_M), li_fr (fun i => False) M0 M11 → li_T l Z YX0_hearers d 55 [(5, .int x4), (4, .int x10), (3, .int x1), (0, .ref (Z.2.2 c)), (1, .int p1), (2, .int p2)] [] M11 (li_SI (fun i => False) M0) := by
          intro x10 M11 hf
          obtain ⟨x12, ex12⟩ : ∃ y : Int32, y = x4 + 1 := ⟨_, rfl⟩
          refine li_iinc 0 [(5, .int x12), (4, .int x10), (3, .int x1), (0, .ref (Z.2.2 c)), (1, .int p1), (2, .int p2)] x12 dX0_hearers_55 rfl (by rw [ex12]; rfl) (by decide) rfl ?_
          refine li_goto 14 dX0_hearers_58 (by decide) ?_
          refine li_pick [0, 1, 2, 3, 4, 5] [(5, .int x12), (4, .int x10), (3, .int x1), (0, .ref (Z.2.2 c)), (1, .int p1), (2, .int p2)] rfl ?_
          exact ih14 x12 x10 M11 (by have h9 := li_up (li_gt c8); rw [← ex12] at h9; omega) hf
        refine li_icmp_eq 55 dX0_hearers_29 (by decide) (fun c9 => ?_) (fun c9 => ?_)
        · refine li_pick [0, 1, 2, 3, 4, 5] [(5, .int x4), (4, .int x5), (3, .int x1), (0, .ref (Z.2.2 c)), (1, .int p1), (2, .int p2)] rfl ?_
          exact J55 x5 M6 hf
        · refine li_aload_n 3 dX0_hearers_32 rfl ?_
          refine li_getr (k := 0) (N := 8) (T := TX0) (C0 := RX0) dX0_hearers_33 (snC0 hc) (shC0 hc) rfl rfl (by decide) (by decide) li_in0 w_385 ?_
          refine li_iload_n 4 dX0_hearers_36 rfl ?_
          refine li_iload 0 dX0_hearers_37 rfl ?_
          refine li_callV (n := 2) (As := [.int p1, .int x4]) dX0_hearers_39 (k_X8_apart (d - 1) (by omega) p1 x4 M6) (by omega) (Nat.le_of_ble_eq_true rfl) w_840 w_818 w_819 w_107 w_820 (by decide +kernel) rfl (by decide) sh_5 rfl rfl (Nat.le_of_ble_eq_true rfl) (fun r M14 h15 => ?_)
          obtain ⟨⟨x13, rfl⟩, h15⟩ := h15
          have hf := li_fr_trans hf h15 (fun i h => False.elim h)
          refine li_iload_n 2 dX0_hearers_42 rfl ?_
          refine li_icmp_gt 55 dX0_hearers_43 (by decide) (fun c16 => ?_) (fun c16 => ?_)
          · refine li_pick [0, 1, 2, 3, 4, 5] [(5, .int x4), (4, .int x5), (3, .int x1), (0, .ref (Z.2.2 c)), (1, .int p1), (2, .int p2)] rfl ?_
            exact J55 x5 M14 hf
          · refine li_iload 1 dX0_hearers_46 rfl ?_
            refine li_iconst 1 dX0_hearers_48 (by decide) ?_
            refine li_iload 0 dX0_hearers_49 rfl ?_
            refine li_ishl dX0_hearers_51 ?_
            refine li_top (fun x17 ex17 => ?_)
            refine li_ior dX0_hearers_52 ?_
            refine li_top (fun x18 ex18 => ?_)
            refine li_istore [(4, .int x18), (5, .int x4), (3, .int x1), (0, .ref (Z.2.2 c)), (1, .int p1), (2, .int p2)] dX0_hearers_53 (by decide) rfl ?_
            refine li_pick [1, 0, 2, 3, 4, 5] [(5, .int x4), (4, .int x18), (3, .int x1), (0, .ref (Z.2.2 c)), (1, .int p1), (2, .int p2)] rfl ?_
            exact J55 x18 M14 hf
  exact L14 _ 0 0 M2 (Nat.lt_succ_self _) hf
set_option maxRecDepth 100000 in
set_option maxHeartbeats 4000000 in
theorem k_X0_ofWord {l : Launch} {Z : li_Z} (d : Nat) (hd : 4 ≤ d) {c : Nat} (hc : li_co c) (p1 p2 p3 p4 : Int32) (M0 : li_M) : li_Met l Z YX0_ofWord d [.ref (Z.2.2 c), .int p1, .int p2, .int p3, .int p4] M0 (li_SI (fun i => i = (c - 4) + 2 ∨ i = (c - 4) + 3) M0) := by
  refine li_enter (by decide +kernel) (Nat.le_of_ble_eq_true rfl) ?_
  show li_T l Z YX0_ofWord d 0 [(0, .ref (Z.2.2 c)), (1, .int p1), (2, .int p2), (3, .int p3), (4, .int p4)] [] M0 _
  have hf : li_fr (fun i => i = (c - 4) + 2 ∨ i = (c - 4) + 3) M0 M0 := li_fr_refl
  refine li_aload_n 0 dX0_ofWord_0 rfl ?_
  refine li_getr (k := 2) (N := 8) (T := TX0) (C0 := RX0) dX0_ofWord_1 (snC0 hc) (shC0 hc) rfl rfl (lkR0 (li_co_ru hc)) (by decide) li_in0 w_387 ?_
  refine li_getr (k := 2) (N := 4) (T := TX6) (C0 := RX6) dX0_ofWord_4 (snR0 (li_co_ru hc)) (shR0 (li_co_ru hc)) rfl rfl (lkR3 (li_co_ru hc)) (by decide) li_in6 w_321 ?_
  refine li_iconst 0 dX0_ofWord_7 (by decide) ?_
  refine li_iload_n 2 dX0_ofWord_8 rfl ?_
  refine li_callN (n := 3) (As := [.ref (Z.2.2 ((c - 4) + 3)), .int 0, .int p2]) dX0_ofWord_9 (k_X11_put (d - 1) (by omega) (snR3 (li_co_ru hc)) (shR3 (li_co_ru hc)) (by decide) 0 p2 M0) (by omega) (Nat.le_of_ble_eq_true rfl) nw_18 w_542 w_104 w_543 (by decide +kernel) rfl rfl (Nat.le_of_ble_eq_true rfl) (fun r M2 h3 => ?_)
  obtain ⟨rfl, h3⟩ := h3
  have hf := li_fr_trans hf h3 (fun i (h : i = (c - 4) + 3) => (show i = (c - 4) + 2 ∨ i = (c - 4) + 3 by omega))
  refine li_aload_n 0 dX0_ofWord_12 rfl ?_
  refine li_getr (k := 2) (N := 8) (T := TX0) (C0 := RX0) dX0_ofWord_13 (snC0 hc) (shC0 hc) rfl rfl (lkR0 (li_co_ru hc)) (by decide) li_in0 w_387 ?_
  refine li_getr (k := 2) (N := 4) (T := TX6) (C0 := RX6) dX0_ofWord_16 (snR0 (li_co_ru hc)) (shR0 (li_co_ru hc)) rfl rfl (lkR3 (li_co_ru hc)) (by decide) li_in6 w_321 ?_
  refine li_iconst 1 dX0_ofWord_19 (by decide) ?_
  refine li_iload_n 3 dX0_ofWord_20 rfl ?_
  refine li_callN (n := 3) (As := [.ref (Z.2.2 ((c - 4) + 3)), .int 1, .int p3]) dX0_ofWord_21 (k_X11_put (d - 1) (by omega) (snR3 (li_co_ru hc)) (shR3 (li_co_ru hc)) (by decide) 1 p3 M2) (by omega) (Nat.le_of_ble_eq_true rfl) nw_18 w_542 w_104 w_543 (by decide +kernel) rfl rfl (Nat.le_of_ble_eq_true rfl) (fun r M5 h6 => ?_)
  obtain ⟨rfl, h6⟩ := h6
  have hf := li_fr_trans hf h6 (fun i (h : i = (c - 4) + 3) => (show i = (c - 4) + 2 ∨ i = (c - 4) + 3 by omega))
  refine li_aload_n 0 dX0_ofWord_24 rfl ?_
  refine li_getr (k := 2) (N := 8) (T := TX0) (C0 := RX0) dX0_ofWord_25 (snC0 hc) (shC0 hc) rfl rfl (lkR0 (li_co_ru hc)) (by decide) li_in0 w_387 ?_
  refine li_getr (k := 2) (N := 4) (T := TX6) (C0 := RX6) dX0_ofWord_28 (snR0 (li_co_ru hc)) (shR0 (li_co_ru hc)) rfl rfl (lkR3 (li_co_ru hc)) (by decide) li_in6 w_321 ?_
  refine li_iconst 2 dX0_ofWord_31 (by decide) ?_
  refine li_iload 4 dX0_ofWord_32 rfl ?_
  refine li_callN (n := 3) (As := [.ref (Z.2.2 ((c - 4) + 3)), .int 2, .int p4]) dX0_ofWord_34 (k_X11_put (d - 1) (by omega) (snR3 (li_co_ru hc)) (shR3 (li_co_ru hc)) (by decide) 2 p4 M5) (by omega) (Nat.le_of_ble_eq_true rfl) nw_18 w_542 w_104 w_543 (by decide +kernel) rfl rfl (Nat.le_of_ble_eq_true rfl) (fun r M8 h9 => ?_)
  obtain ⟨rfl, h9⟩ := h9
  have hf := li_fr_trans hf h9 (fun i (h : i = (c - 4) + 3) => (show i = (c - 4) + 2 ∨ i = (c - 4) + 3 by omega))
  refine li_aload_n 0 dX0_ofWord_37 rfl ?_
  refine li_getr (k := 2) (N := 8) (T := TX0) (C0 := RX0) dX0_ofWord_38 (snC0 hc) (shC0 hc) rfl rfl (lkR0 (li_co_ru hc)) (by decide) li_in0 w_387 ?_
  refine li_getr (k := 2) (N := 4) (T := TX6) (C0 := RX6) dX0_ofWord_41 (snR0 (li_co_ru hc)) (shR0 (li_co_ru hc)) rfl rfl (lkR3 (li_co_ru hc)) (by decide) li_in6 w_321 ?_
  refine li_iconst 3 dX0_ofWord_44 (by decide) ?_
  refine li_aload_n 0 dX0_ofWord_45 rfl ?_
  refine li_getr (k := 1) (N := 8) (T := TX0) (C0 := RX0) dX0_ofWord_46 (snC0 hc) (shC0 hc) rfl rfl (by decide) (by decide) li_in0 w_386 ?_
  refine li_getr (k := 4) (N := 11) (T := TX4) (C0 := RX4) dX0_ofWord_49 (by decide) sh_13 rfl rfl (by decide) (by decide) li_in4 w_245 ?_
  refine li_iload_n 1 dX0_ofWord_52 rfl ?_
  refine li_callN (n := 2) (As := [.ref (Z.2.2 14), .int p1]) dX0_ofWord_53 (k_X11_at (d - 1) (by omega) (by decide) sh_14 (by decide) p1 M8) (by omega) (Nat.le_of_ble_eq_true rfl) nw_17 w_589 w_104 w_590 (by decide +kernel) rfl rfl (Nat.le_of_ble_eq_true rfl) (fun r M11 h12 => ?_)
  obtain ⟨⟨x10, rfl⟩, h12⟩ := h12
  have hf := li_fr_trans hf h12 (fun i h => False.elim h)
  refine li_callN (n := 3) (As := [.ref (Z.2.2 ((c - 4) + 3)), .int 3, .int x10]) dX0_ofWord_56 (k_X11_put (d - 1) (by omega) (snR3 (li_co_ru hc)) (shR3 (li_co_ru hc)) (by decide) 3 x10 M11) (by omega) (Nat.le_of_ble_eq_true rfl) nw_18 w_542 w_104 w_543 (by decide +kernel) rfl rfl (Nat.le_of_ble_eq_true rfl) (fun r M14 h15 => ?_)
  obtain ⟨rfl, h15⟩ := h15
  have hf := li_fr_trans hf h15 (fun i (h : i = (c - 4) + 3) => (show i = (c - 4) + 2 ∨ i = (c - 4) + 3 by omega))
  refine li_aload_n 0 dX0_ofWord_59 rfl ?_
  refine li_getr (k := 2) (N := 8) (T := TX0) (C0 := RX0) dX0_ofWord_60 (snC0 hc) (shC0 hc) rfl rfl (lkR0 (li_co_ru hc)) (by decide) li_in0 w_387 ?_
  refine li_getr (k := 2) (N := 4) (T := TX6) (C0 := RX6) dX0_ofWord_63 (snR0 (li_co_ru hc)) (shR0 (li_co_ru hc)) rfl rfl (lkR3 (li_co_ru hc)) (by decide) li_in6 w_321 ?_
  refine li_iconst 4 dX0_ofWord_66 (by decide) ?_
  refine li_aload_n 0 dX0_ofWord_67 rfl ?_
  refine li_getr (k := 1) (N := 8) (T := TX0) (C0 := RX0) dX0_ofWord_68 (snC0 hc) (shC0 hc) rfl rfl (by decide) (by decide) li_in0 w_386 ?_
  refine li_geti (k := 0) (N := 11) (T := TX4) (C0 := RX4) dX0_ofWord_71 (by decide) sh_13 rfl rfl (by decide) li_in4 w_233 ?_
  refine li_top (fun x16 ex16 => ?_)
  refine li_bipush 100 dX0_ofWord_74 (by decide) ?_
  refine li_irem dX0_ofWord_76 (by decide) ?_
  refine li_top (fun x17 ex17 => ?_)
  refine li_callN (n := 3) (As := [.ref (Z.2.2 ((c - 4) + 3)), .int 4, .int x17]) dX0_ofWord_77 (k_X11_put (d - 1) (by omega) (snR3 (li_co_ru hc)) (shR3 (li_co_ru hc)) (by decide) 4 x17 M14) (by omega) (Nat.le_of_ble_eq_true rfl) nw_18 w_542 w_104 w_543 (by decide +kernel) rfl rfl (Nat.le_of_ble_eq_true rfl) (fun r M19 h20 => ?_)
  obtain ⟨rfl, h20⟩ := h20
  have hf := li_fr_trans hf h20 (fun i (h : i = (c - 4) + 3) => (show i = (c - 4) + 2 ∨ i = (c - 4) + 3 by omega))
  refine li_aload_n 0 dX0_ofWord_80 rfl ?_
  refine li_getr (k := 2) (N := 8) (T := TX0) (C0 := RX0) dX0_ofWord_81 (snC0 hc) (shC0 hc) rfl rfl (lkR0 (li_co_ru hc)) (by decide) li_in0 w_387 ?_
  refine li_getr (k := 2) (N := 4) (T := TX6) (C0 := RX6) dX0_ofWord_84 (snR0 (li_co_ru hc)) (shR0 (li_co_ru hc)) rfl rfl (lkR3 (li_co_ru hc)) (by decide) li_in6 w_321 ?_
  refine li_iconst 5 dX0_ofWord_87 (by decide) ?_
  refine li_aload_n 0 dX0_ofWord_88 rfl ?_
  refine li_iload_n 1 dX0_ofWord_89 rfl ?_
  refine li_iload_n 3 dX0_ofWord_90 rfl ?_
  refine li_callV (n := 2) (As := [.int p1, .int p3]) dX0_ofWord_91 (k_X0_hearers (d - 1) (by omega) hc p1 p3 M19) (by omega) (Nat.le_of_ble_eq_true rfl) w_836 w_837 w_838 w_113 w_839 (by decide +kernel) rfl (snC0 hc) (shC0 hc) rfl rfl (Nat.le_of_ble_eq_true rfl) (fun r M22 h23 => ?_)
  obtain ⟨⟨x21, rfl⟩, h23⟩ := h23
  have hf := li_fr_trans hf h23 (fun i h => False.elim h)
  refine li_callS (n := 1) (As := [.int x21]) dX0_ofWord_94 (k_J6_bitCount_0f7a4 (d - 1) (by omega) x21 M22) (by omega) (Nat.le_of_ble_eq_true rfl) w_841 w_842 w_127 w_843 (by decide +kernel) rfl rfl (Nat.le_of_ble_eq_true rfl) (fun r M25 h26 => ?_)
  obtain ⟨⟨x24, rfl⟩, h26⟩ := h26
  have hf := li_fr_trans hf h26 (fun i h => False.elim h)
  refine li_callN (n := 3) (As := [.ref (Z.2.2 ((c - 4) + 3)), .int 5, .int x24]) dX0_ofWord_97 (k_X11_put (d - 1) (by omega) (snR3 (li_co_ru hc)) (shR3 (li_co_ru hc)) (by decide) 5 x24 M25) (by omega) (Nat.le_of_ble_eq_true rfl) nw_18 w_542 w_104 w_543 (by decide +kernel) rfl rfl (Nat.le_of_ble_eq_true rfl) (fun r M28 h29 => ?_)
  obtain ⟨rfl, h29⟩ := h29
  have hf := li_fr_trans hf h29 (fun i (h : i = (c - 4) + 3) => (show i = (c - 4) + 2 ∨ i = (c - 4) + 3 by omega))
  refine li_aload_n 0 dX0_ofWord_100 rfl ?_
  refine li_getr (k := 2) (N := 8) (T := TX0) (C0 := RX0) dX0_ofWord_101 (snC0 hc) (shC0 hc) rfl rfl (lkR0 (li_co_ru hc)) (by decide) li_in0 w_387 ?_
  refine li_callV (n := 0) (As := []) dX0_ofWord_104 (k_X6_evaluate (d - 1) (by omega) (li_co_ru hc) M28) (by omega) (Nat.le_of_ble_eq_true rfl) w_847 w_848 w_849 w_110 w_850 (by decide +kernel) rfl (snR0 (li_co_ru hc)) (shR0 (li_co_ru hc)) rfl rfl (Nat.le_of_ble_eq_true rfl) (fun r M31 h32 => ?_)
  obtain ⟨⟨x30, rfl⟩, h32⟩ := h32
  have hf := li_fr_trans hf h32 (fun i (h : i = (c - 4) + 2) => (show i = (c - 4) + 2 ∨ i = (c - 4) + 3 by omega))
  exact li_iret dX0_ofWord_107 rfl rfl ⟨⟨_, rfl⟩, hf⟩
set_option maxRecDepth 100000 in
set_option maxHeartbeats 4000000 in
theorem k_X0_ofThing {l : Launch} {Z : li_Z} (d : Nat) (hd : 5 ≤ d) {c : Nat} (hc : li_co c) (p1 p2 : Int32) (M0 : li_M) : li_Met l Z YX0_ofThing d [.ref (Z.2.2 c), .int p1, .int p2] M0 (li_SI (fun i => i = (c - 4) + 2 ∨ i = (c - 4) + 3) M0) := by
  refine li_enter (by decide +kernel) (Nat.le_of_ble_eq_true rfl) ?_
  show li_T l Z YX0_ofThing d 0 [(0, .ref (Z.2.2 c)), (1, .int p1), (2, .int p2)] [] M0 _
  have hf : li_fr (fun i => i = (c - 4) + 2 ∨ i = (c - 4) + 3) M0 M0 := li_fr_refl
  refine li_aload_n 0 dX0_ofThing_0 rfl ?_
  refine li_aload_n 0 dX0_ofThing_1 rfl ?_
  refine li_getr (k := 0) (N := 8) (T := TX0) (C0 := RX0) dX0_ofThing_2 (snC0 hc) (shC0 hc) rfl rfl (by decide) (by decide) li_in0 w_385 ?_
  refine li_getr (k := 4) (N := 9) (T := TX8) (C0 := RX8) dX0_ofThing_5 (by decide) sh_5 rfl rfl (by decide) (by decide) li_in8 w_192 ?_
  refine li_iload_n 1 dX0_ofThing_8 rfl ?_
  refine li_callN (n := 2) (As := [.ref (Z.2.2 8), .int p1]) dX0_ofThing_9 (k_X11_at (d - 1) (by omega) (by decide) sh_8 (by decide) p1 M0) (by omega) (Nat.le_of_ble_eq_true rfl) nw_17 w_589 w_104 w_590 (by decide +kernel) rfl rfl (Nat.le_of_ble_eq_true rfl) (fun r M2 h3 => ?_)
  obtain ⟨⟨x1, rfl⟩, h3⟩ := h3
  have hf := li_fr_trans hf h3 (fun i h => False.elim h)
  refine li_aload_n 0 dX0_ofThing_12 rfl ?_
  refine li_getr (k := 0) (N := 8) (T := TX0) (C0 := RX0) dX0_ofThing_13 (snC0 hc) (shC0 hc) rfl rfl (by decide) (by decide) li_in0 w_385 ?_
  refine li_getr (k := 6) (N := 9) (T := TX8) (C0 := RX8) dX0_ofThing_16 (by decide) sh_5 rfl rfl (by decide) (by decide) li_in8 w_198 ?_
  refine li_iload_n 1 dX0_ofThing_19 rfl ?_
  refine li_callN (n := 2) (As := [.ref (Z.2.2 10), .int p1]) dX0_ofThing_20 (k_X11_at (d - 1) (by omega) (by decide) sh_10 (by decide) p1 M2) (by omega) (Nat.le_of_ble_eq_true rfl) nw_17 w_589 w_104 w_590 (by decide +kernel) rfl rfl (Nat.le_of_ble_eq_true rfl) (fun r M5 h6 => ?_)
  obtain ⟨⟨x4, rfl⟩, h6⟩ := h6
  have hf := li_fr_trans hf h6 (fun i h => False.elim h)
  refine li_iload_n 2 dX0_ofThing_23 rfl ?_
  refine li_aload_n 0 dX0_ofThing_24 rfl ?_
  refine li_getr (k := 0) (N := 8) (T := TX0) (C0 := RX0) dX0_ofThing_25 (snC0 hc) (shC0 hc) rfl rfl (by decide) (by decide) li_in0 w_385 ?_
  refine li_iload_n 1 dX0_ofThing_28 rfl ?_
  refine li_callV (n := 1) (As := [.int p1]) dX0_ofThing_29 (k_X8_apartFor (d - 1) (by omega) p1 M5) (by omega) (Nat.le_of_ble_eq_true rfl) w_812 w_813 w_814 w_107 w_815 (by decide +kernel) rfl (by decide) sh_5 rfl rfl (Nat.le_of_ble_eq_true rfl) (fun r M8 h9 => ?_)
  obtain ⟨⟨x7, rfl⟩, h9⟩ := h9
  have hf := li_fr_trans hf h9 (fun i h => False.elim h)
  refine li_callV (n := 4) (As := [.int x1, .int x4, .int p2, .int x7]) dX0_ofThing_32 (k_X0_ofWord (d - 1) (by omega) hc x1 x4 p2 x7 M8) (by omega) (Nat.le_of_ble_eq_true rfl) w_831 w_832 w_833 w_113 w_834 (by decide +kernel) rfl (snC0 hc) (shC0 hc) rfl rfl (Nat.le_of_ble_eq_true rfl) (fun r M11 h12 => ?_)
  obtain ⟨⟨x10, rfl⟩, h12⟩ := h12
  have hf := li_fr_trans hf h12 (fun i (h : i = (c - 4) + 2 ∨ i = (c - 4) + 3) => (show i = (c - 4) + 2 ∨ i = (c - 4) + 3 by omega))
  exact li_iret dX0_ofThing_35 rfl rfl ⟨⟨_, rfl⟩, hf⟩
set_option maxRecDepth 100000 in
set_option maxHeartbeats 4000000 in
theorem k_X0_cheapestWay {l : Launch} {Z : li_Z} (d : Nat) (hd : 5 ≤ d) {c : Nat} (hc : li_co c) (p1 p2 p3 : Int32) (M0 : li_M) : li_Met l Z YX0_cheapestWay d [.ref (Z.2.2 c), .int p1, .int p2, .int p3] M0 (li_SI (fun i => i = (c - 4) + 2 ∨ i = (c - 4) + 3) M0) := by
  refine li_enter (by decide +kernel) (Nat.le_of_ble_eq_true rfl) ?_
  show li_T l Z YX0_cheapestWay d 0 [(0, .ref (Z.2.2 c)), (1, .int p1), (2, .int p2), (3, .int p3)] [] M0 _
  have hf : li_fr (fun i => i = (c - 4) + 2 ∨ i = (c - 4) + 3) M0 M0 := li_fr_refl
  refine li_aload_n 0 dX0_cheapestWay_0 rfl ?_
  refine li_getr (k := 0) (N := 8) (T := TX0) (C0 := RX0) dX0_cheapestWay_1 (snC0 hc) (shC0 hc) rfl rfl (by decide) (by decide) li_in0 w_385 ?_
  refine li_iload_n 1 dX0_cheapestWay_4 rfl ?_
  refine li_iload_n 2 dX0_cheapestWay_5 rfl ?_
  refine li_callV (n := 2) (As := [.int p1, .int p2]) dX0_cheapestWay_6 (k_X8_apart (d - 1) (by omega) p1 p2 M0) (by omega) (Nat.le_of_ble_eq_true rfl) w_840 w_818 w_819 w_107 w_820 (by decide +kernel) rfl (by decide) sh_5 rfl rfl (Nat.le_of_ble_eq_true rfl) (fun r M2 h3 => ?_)
  obtain ⟨⟨x1, rfl⟩, h3⟩ := h3
  have hf := li_fr_trans hf h3 (fun i h => False.elim h)
  refine li_istore [(4, .int x1), (0, .ref (Z.2.2 c)), (1, .int p1), (2, .int p2), (3, .int p3)] dX0_cheapestWay_9 (by decide) rfl ?_
  refine li_iconst 3 dX0_cheapestWay_11 (by decide) ?_
  refine li_istore [(5, .int 3), (4, .int x1), (0, .ref (Z.2.2 c)), (1, .int p1), (2, .int p2), (3, .int p3)] dX0_cheapestWay_12 (by decide) rfl ?_
  refine li_sipush 1000 dX0_cheapestWay_14 (by decide) ?_
  refine li_istore [(6, .int 1000), (5, .int 3), (4, .int x1), (0, .ref (Z.2.2 c)), (1, .int p1), (2, .int p2), (3, .int p3)] dX0_cheapestWay_17 (by decide) rfl ?_
  refine li_iconst 0 dX0_cheapestWay_19 (by decide) ?_
  refine li_istore [(7, .int 0), (6, .int 1000), (5, .int 3), (4, .int x1), (0, .ref (Z.2.2 c)), (1, .int p1), (2, .int p2), (3, .int p3)] dX0_cheapestWay_20 (by decide) rfl ?_
  have L22 : ∀ (n : Nat) (x4 : Int32) (x5 : Int32) (x6 : Int32) (M7 : li_M), (2147483647 - (x4 : Int32).toInt).toNat < n → li_fr (fun i => i = (c - 4) + 2 ∨ i = (c - 4) + 3) M0 M7 → li_T l Z YX0_cheapestWay d 22 [(7, .int x4), (6, .int x5), (5, .int x6), (4, .int x1), (0, .ref (Z.2.2 c)), (1, .int p1), (2, .int p2), (3, .int p3)] [] M7 (li_SI (fun i => i = (c - 4) + 2 ∨ i = (c - 4) + 3) M0) := by
    intro n
    induction n with
    | zero => intro x4 x5 x6 M7 hn; exact absurd hn (Nat.not_lt_zero _)
    | succ n ih22 =>
      intro x4 x5 x6 M7 hn hf
      refine li_iload 0 dX0_cheapestWay_22 rfl ?_
      refine li_iconst 4 dX0_cheapestWay_24 (by decide) ?_
      refine li_icmp_ge 74 dX0_cheapestWay_25 (by decide) (fun c8 => ?_) (fun c8 => ?_)
      · refine li_iload 2 dX0_cheapestWay_74 rfl ?_
        exact li_iret dX0_cheapestWay_76 rfl rfl ⟨⟨_, rfl⟩, hf⟩
      · refine li_iload 3 dX0_cheapestWay_28 rfl ?_
        refine li_reach dX0_cheapestWay_30 w_824 ?_
        refine li_iload 0 dX0_cheapestWay_33 rfl ?_
        refine li_callN (n := 2) (As := [.ref (Z.2.2 2000), .int x4]) dX0_cheapestWay_35 (k_X11_atR (d - 1) (by omega) x4 M7) (by omega) (Nat.le_of_ble_eq_true rfl) nw_17 w_589 w_104 w_590 (by decide +kernel) rfl rfl (Nat.le_of_ble_eq_true rfl) (fun r M10 h11 => ?_)
        obtain ⟨⟨x9, rfl⟩, h11⟩ := h11
        have hf := li_fr_trans hf h11 (fun i h => False.elim h)
        have J68 : ∀ (x13 : Int32) (x14 : Int32) (M15 : li_M), li_fr (fun i => i = (c - 4) + 2 ∨ i = (c - 4) + 3) M0 M15 → li_T l Z YX0_cheapestWay d 68 [(7, .int x4), (6, .int x13), (5, .int x14), (4, .int x1), (0, .ref (Z.2.2 c)), (1, .int p1), (2, .int p2), (3, .int p3)] [] M15 (li_SI (fun i => i = (c - 4) + 2 ∨ i = (c - 4) + 3) M0) := by
          intro x13 x14 M15 hf
          obtain ⟨x16, ex16⟩ : ∃ y : Int32, y = x4 + 1 := ⟨_, rfl⟩
          refine li_iinc 0 [(7, .int x16), (6, .int x13), (5, .int x14), (4, .int x1), (0, .ref (Z.2.2 c)), (1, .int p1), (2, .int p2), (3, .int p3)] x16 dX0_cheapestWay_68 rfl (by rw [ex16]; rfl) (by decide) rfl ?_
          refine li_goto 22 dX0_cheapestWay_71 (by decide) ?_
          refine li_pick [0, 1, 2, 3, 4, 5, 6, 7] [(7, .int x16), (6, .int x13), (5, .int x14), (4, .int x1), (0, .ref (Z.2.2 c)), (1, .int p1), (2, .int p2), (3, .int p3)] rfl ?_
          exact ih22 x16 x13 x14 M15 (by have h9 := li_up (li_gt c8); rw [← ex16] at h9; omega) hf
        refine li_icmp_gt 68 dX0_cheapestWay_38 (by decide) (fun c12 => ?_) (fun c12 => ?_)
        · refine li_pick [0, 1, 2, 3, 4, 5, 6, 7] [(7, .int x4), (6, .int x5), (5, .int x6), (4, .int x1), (0, .ref (Z.2.2 c)), (1, .int p1), (2, .int p2), (3, .int p3)] rfl ?_
          exact J68 x5 x6 M10 hf
        · refine li_aload_n 4 dX0_cheapestWay_41 rfl ?_
          refine li_iload_n 5 dX0_cheapestWay_42 rfl ?_
          refine li_iload_n 7 dX0_cheapestWay_43 rfl ?_
          refine li_iload 0 dX0_cheapestWay_44 rfl ?_
          refine li_iload 3 dX0_cheapestWay_46 rfl ?_
          refine li_callV (n := 4) (As := [.int p1, .int p3, .int x4, .int x1]) dX0_cheapestWay_48 (k_X0_ofWord (d - 1) (by omega) hc p1 p3 x4 x1 M10) (by omega) (Nat.le_of_ble_eq_true rfl) w_831 w_832 w_833 w_113 w_834 (by decide +kernel) rfl (snC0 hc) (shC0 hc) rfl rfl (Nat.le_of_ble_eq_true rfl) (fun r M18 h19 => ?_)
          obtain ⟨⟨x17, rfl⟩, h19⟩ := h19
          have hf := li_fr_trans hf h19 (fun i (h : i = (c - 4) + 2 ∨ i = (c - 4) + 3) => (show i = (c - 4) + 2 ∨ i = (c - 4) + 3 by omega))
          refine li_istore [(8, .int x17), (7, .int x4), (6, .int x5), (5, .int x6), (4, .int x1), (0, .ref (Z.2.2 c)), (1, .int p1), (2, .int p2), (3, .int p3)] dX0_cheapestWay_51 (by decide) rfl ?_
          refine li_iload 0 dX0_cheapestWay_53 rfl ?_
          refine li_iload 2 dX0_cheapestWay_55 rfl ?_
          refine li_icmp_ge 68 dX0_cheapestWay_57 (by decide) (fun c20 => ?_) (fun c20 => ?_)
          · refine li_pick [1, 2, 3, 4, 5, 6, 7, 8] [(7, .int x4), (6, .int x5), (5, .int x6), (4, .int x1), (0, .ref (Z.2.2 c)), (1, .int p1), (2, .int p2), (3, .int p3)] rfl ?_
            exact J68 x5 x6 M18 hf
          · refine li_iload 0 dX0_cheapestWay_60 rfl ?_
            refine li_istore [(6, .int x17), (8, .int x17), (7, .int x4), (5, .int x6), (4, .int x1), (0, .ref (Z.2.2 c)), (1, .int p1), (2, .int p2), (3, .int p3)] dX0_cheapestWay_62 (by decide) rfl ?_
            refine li_iload 2 dX0_cheapestWay_64 rfl ?_
            refine li_istore [(5, .int x4), (6, .int x17), (8, .int x17), (7, .int x4), (4, .int x1), (0, .ref (Z.2.2 c)), (1, .int p1), (2, .int p2), (3, .int p3)] dX0_cheapestWay_66 (by decide) rfl ?_
            refine li_pick [3, 1, 0, 4, 5, 6, 7, 8] [(7, .int x4), (6, .int x17), (5, .int x4), (4, .int x1), (0, .ref (Z.2.2 c)), (1, .int p1), (2, .int p2), (3, .int p3)] rfl ?_
            exact J68 x17 x4 M18 hf
  exact L22 _ 0 1000 3 M2 (Nat.lt_succ_self _) hf
set_option maxRecDepth 100000 in
set_option maxHeartbeats 4000000 in
theorem k_X0_leastWay {l : Launch} {Z : li_Z} (d : Nat) (hd : 6 ≤ d) {c : Nat} (hc : li_co c) (p1 : Int32) (M0 : li_M) : li_Met l Z YX0_leastWay d [.ref (Z.2.2 c), .int p1] M0 (li_SI (fun i => i = (c - 4) + 2 ∨ i = (c - 4) + 3) M0) := by
  refine li_enter (by decide +kernel) (Nat.le_of_ble_eq_true rfl) ?_
  show li_T l Z YX0_leastWay d 0 [(0, .ref (Z.2.2 c)), (1, .int p1)] [] M0 _
  have hf : li_fr (fun i => i = (c - 4) + 2 ∨ i = (c - 4) + 3) M0 M0 := li_fr_refl
  refine li_aload_n 0 dX0_leastWay_0 rfl ?_
  refine li_aload_n 0 dX0_leastWay_1 rfl ?_
  refine li_getr (k := 0) (N := 8) (T := TX0) (C0 := RX0) dX0_leastWay_2 (snC0 hc) (shC0 hc) rfl rfl (by decide) (by decide) li_in0 w_385 ?_
  refine li_getr (k := 4) (N := 9) (T := TX8) (C0 := RX8) dX0_leastWay_5 (by decide) sh_5 rfl rfl (by decide) (by decide) li_in8 w_192 ?_
  refine li_iload_n 1 dX0_leastWay_8 rfl ?_
  refine li_callN (n := 2) (As := [.ref (Z.2.2 8), .int p1]) dX0_leastWay_9 (k_X11_at (d - 1) (by omega) (by decide) sh_8 (by decide) p1 M0) (by omega) (Nat.le_of_ble_eq_true rfl) nw_17 w_589 w_104 w_590 (by decide +kernel) rfl rfl (Nat.le_of_ble_eq_true rfl) (fun r M2 h3 => ?_)
  obtain ⟨⟨x1, rfl⟩, h3⟩ := h3
  have hf := li_fr_trans hf h3 (fun i h => False.elim h)
  refine li_aload_n 0 dX0_leastWay_12 rfl ?_
  refine li_getr (k := 0) (N := 8) (T := TX0) (C0 := RX0) dX0_leastWay_13 (snC0 hc) (shC0 hc) rfl rfl (by decide) (by decide) li_in0 w_385 ?_
  refine li_getr (k := 5) (N := 9) (T := TX8) (C0 := RX8) dX0_leastWay_16 (by decide) sh_5 rfl rfl (by decide) (by decide) li_in8 w_195 ?_
  refine li_iload_n 1 dX0_leastWay_19 rfl ?_
  refine li_callN (n := 2) (As := [.ref (Z.2.2 9), .int p1]) dX0_leastWay_20 (k_X11_at (d - 1) (by omega) (by decide) sh_9 (by decide) p1 M2) (by omega) (Nat.le_of_ble_eq_true rfl) nw_17 w_589 w_104 w_590 (by decide +kernel) rfl rfl (Nat.le_of_ble_eq_true rfl) (fun r M5 h6 => ?_)
  obtain ⟨⟨x4, rfl⟩, h6⟩ := h6
  have hf := li_fr_trans hf h6 (fun i h => False.elim h)
  refine li_aload_n 0 dX0_leastWay_23 rfl ?_
  refine li_getr (k := 0) (N := 8) (T := TX0) (C0 := RX0) dX0_leastWay_24 (snC0 hc) (shC0 hc) rfl rfl (by decide) (by decide) li_in0 w_385 ?_
  refine li_getr (k := 6) (N := 9) (T := TX8) (C0 := RX8) dX0_leastWay_27 (by decide) sh_5 rfl rfl (by decide) (by decide) li_in8 w_198 ?_
  refine li_iload_n 1 dX0_leastWay_30 rfl ?_
  refine li_callN (n := 2) (As := [.ref (Z.2.2 10), .int p1]) dX0_leastWay_31 (k_X11_at (d - 1) (by omega) (by decide) sh_10 (by decide) p1 M5) (by omega) (Nat.le_of_ble_eq_true rfl) nw_17 w_589 w_104 w_590 (by decide +kernel) rfl rfl (Nat.le_of_ble_eq_true rfl) (fun r M8 h9 => ?_)
  obtain ⟨⟨x7, rfl⟩, h9⟩ := h9
  have hf := li_fr_trans hf h9 (fun i h => False.elim h)
  refine li_callV (n := 3) (As := [.int x1, .int x4, .int x7]) dX0_leastWay_34 (k_X0_cheapestWay (d - 1) (by omega) hc x1 x4 x7 M8) (by omega) (Nat.le_of_ble_eq_true rfl) w_988 w_989 w_990 w_113 w_991 (by decide +kernel) rfl (snC0 hc) (shC0 hc) rfl rfl (Nat.le_of_ble_eq_true rfl) (fun r M11 h12 => ?_)
  obtain ⟨⟨x10, rfl⟩, h12⟩ := h12
  have hf := li_fr_trans hf h12 (fun i (h : i = (c - 4) + 2 ∨ i = (c - 4) + 3) => (show i = (c - 4) + 2 ∨ i = (c - 4) + 3 by omega))
  exact li_iret dX0_leastWay_37 rfl rfl ⟨⟨_, rfl⟩, hf⟩
set_option maxRecDepth 100000 in
set_option maxHeartbeats 4000000 in
theorem k_X0_fill {l : Launch} {Z : li_Z} (d : Nat) (hd : 6 ≤ d) {c : Nat} (hc : li_co c) (M0 : li_M) : li_Met l Z YX0_fill d [.ref (Z.2.2 c)] M0 (li_SV (fun i => i = c + 1 ∨ i = c + 2 ∨ i = (c - 4) + 2 ∨ i = (c - 4) + 3) M0) := by
  refine li_enter (by decide +kernel) (Nat.le_of_ble_eq_true rfl) ?_
  show li_T l Z YX0_fill d 0 [(0, .ref (Z.2.2 c))] [] M0 _
  have hf : li_fr (fun i => i = c + 1 ∨ i = c + 2 ∨ i = (c - 4) + 2 ∨ i = (c - 4) + 3) M0 M0 := li_fr_refl
  refine li_iconst 0 dX0_fill_0 (by decide) ?_
  refine li_istore_n [(1, .int 0), (0, .ref (Z.2.2 c))] dX0_fill_1 (by decide) rfl ?_
  have L2 : ∀ (n : Nat) (x1 : Int32) (M2 : li_M), (2147483647 - (x1 : Int32).toInt).toNat < n → li_fr (fun i => i = c + 1 ∨ i = c + 2 ∨ i = (c - 4) + 2 ∨ i = (c - 4) + 3) M0 M2 → li_T l Z YX0_fill d 2 [(1, .int x1), (0, .ref (Z.2.2 c))] [] M2 (li_SV (fun i => i = c + 1 ∨ i = c + 2 ∨ i = (c - 4) + 2 ∨ i = (c - 4) + 3) M0) := by
    intro n
    induction n with
    | zero => intro x1 M2 hn; exact absurd hn (Nat.not_lt_zero _)
    | succ n ih2 =>
      intro x1 M2 hn hf
      refine li_iload_n 0 dX0_fill_2 rfl ?_
      refine li_aload_n 1 dX0_fill_3 rfl ?_
      refine li_getr (k := 0) (N := 8) (T := TX0) (C0 := RX0) dX0_fill_4 (snC0 hc) (shC0 hc) rfl rfl (by decide) (by decide) li_in0 w_385 ?_
      refine li_geti (k := 1) (N := 9) (T := TX8) (C0 := RX8) dX0_fill_7 (by decide) sh_5 rfl rfl (by decide) li_in8 w_184 ?_
      refine li_top (fun x3 ex3 => ?_)
      refine li_icmp_ge 96 dX0_fill_10 (by decide) (fun c4 => ?_) (fun c4 => ?_)
      · exact li_vret dX0_fill_96 rfl ⟨rfl, hf⟩
      · refine li_sipush 999 dX0_fill_13 (by decide) ?_
        refine li_istore_n [(2, .int 999), (1, .int x1), (0, .ref (Z.2.2 c))] dX0_fill_16 (by decide) rfl ?_
        refine li_iconst 0 dX0_fill_17 (by decide) ?_
        refine li_istore_n [(3, .int 0), (2, .int 999), (1, .int x1), (0, .ref (Z.2.2 c))] dX0_fill_18 (by decide) rfl ?_
        have L19 : ∀ (n : Nat) (x5 : Int32) (x6 : Int32) (M7 : li_M), (2147483647 - (x5 : Int32).toInt).toNat < n → li_fr (fun i => i = c + 1 ∨ i = c + 2 ∨ i = (c - 4) + 2 ∨ i = (c - 4) + 3) M0 M7 → li_T l Z YX0_fill d 19 [(3, .int x5), (2, .int x6), (1, .int x1), (0, .ref (Z.2.2 c))] [] M7 (li_SV (fun i => i = c + 1 ∨ i = c + 2 ∨ i = (c - 4) + 2 ∨ i = (c - 4) + 3) M0) := by
          intro n
          induction n with
          | zero => intro x5 x6 M7 hn; exact absurd hn (Nat.not_lt_zero _)
          | succ n ih19 =>
            intro x5 x6 M7 hn hf
            refine li_iload_n 0 dX0_fill_19 rfl ?_
            refine li_iconst 4 dX0_fill_20 (by decide) ?_
            refine li_icmp_ge 81 dX0_fill_21 (by decide) (fun c8 => ?_) (fun c8 => ?_)
            · refine li_aload_n 3 dX0_fill_81 rfl ?_
              refine li_getr (k := 4) (N := 8) (T := TX0) (C0 := RX0) dX0_fill_82 (snC0 hc) (shC0 hc) rfl rfl (lkC2 hc) (by decide) li_in0 w_390 ?_
              refine li_iload_n 2 dX0_fill_85 rfl ?_
              refine li_iload_n 1 dX0_fill_86 rfl ?_
              refine li_callN (n := 3) (As := [.ref (Z.2.2 (c + 2)), .int x1, .int x6]) dX0_fill_87 (k_X11_put (d - 1) (by omega) (snC2 hc) (shC2 hc) (by decide) x1 x6 M7) (by omega) (Nat.le_of_ble_eq_true rfl) nw_18 w_542 w_104 w_543 (by decide +kernel) rfl rfl (Nat.le_of_ble_eq_true rfl) (fun r M10 h11 => ?_)
              obtain ⟨rfl, h11⟩ := h11
              have hf := li_fr_trans hf h11 (fun i (h : i = c + 2) => (show i = c + 1 ∨ i = c + 2 ∨ i = (c - 4) + 2 ∨ i = (c - 4) + 3 by omega))
              obtain ⟨x12, ex12⟩ : ∃ y : Int32, y = x1 + 1 := ⟨_, rfl⟩
              refine li_iinc 2 [(1, .int x12), (3, .int x5), (2, .int x6), (0, .ref (Z.2.2 c))] x12 dX0_fill_90 rfl (by rw [ex12]; rfl) (by decide) rfl ?_
              refine li_goto 2 dX0_fill_93 (by decide) ?_
              refine li_pick [0, 3] [(1, .int x12), (0, .ref (Z.2.2 c))] rfl ?_
              exact ih2 x12 M10 (by have h9 := li_up (li_gt c4); rw [← ex12] at h9; omega) hf
            · refine li_aload_n 3 dX0_fill_24 rfl ?_
              refine li_iload_n 2 dX0_fill_25 rfl ?_
              refine li_iload_n 0 dX0_fill_26 rfl ?_
              refine li_callV (n := 2) (As := [.int x1, .int x5]) dX0_fill_27 (k_X0_isHeard (d - 1) (by omega) hc x1 x5 M7) (by omega) (Nat.le_of_ble_eq_true rfl) w_1012 w_809 w_810 w_113 w_811 (by decide +kernel) rfl (snC0 hc) (shC0 hc) rfl rfl (Nat.le_of_ble_eq_true rfl) (fun r M14 h15 => ?_)
              obtain ⟨⟨x13, rfl, bx13⟩, h15⟩ := h15
              have hf := li_fr_trans hf h15 (fun i h => False.elim h)
              have J43 : ∀ (x17 : Int32) (M18 : li_M), li_fr (fun i => i = c + 1 ∨ i = c + 2 ∨ i = (c - 4) + 2 ∨ i = (c - 4) + 3) M0 M18 → li_T l Z YX0_fill d 43 [(3, .int x5), (2, .int x6), (1, .int x1), (0, .ref (Z.2.2 c))] [.int x17] M18 (li_SV (fun i => i = c + 1 ∨ i = c + 2 ∨ i = (c - 4) + 2 ∨ i = (c - 4) + 3) M0) := by
                intro x17 M18 hf
                refine li_istore [(4, .int x17), (3, .int x5), (2, .int x6), (1, .int x1), (0, .ref (Z.2.2 c))] dX0_fill_43 (by decide) rfl ?_
                refine li_aload_n 4 dX0_fill_45 rfl ?_
                refine li_getr (k := 3) (N := 8) (T := TX0) (C0 := RX0) dX0_fill_46 (snC0 hc) (shC0 hc) rfl rfl (lkC1 hc) (by decide) li_in0 w_388 ?_
                refine li_iload_n 3 dX0_fill_49 rfl ?_
                refine li_iconst 4 dX0_fill_50 (by decide) ?_
                refine li_imul dX0_fill_51 ?_
                refine li_top (fun x19 ex19 => ?_)
                refine li_iload_n 1 dX0_fill_52 rfl ?_
                refine li_iadd dX0_fill_53 ?_
                refine li_top (fun x20 ex20 => ?_)
                refine li_iload 0 dX0_fill_54 rfl ?_
                refine li_callN (n := 3) (As := [.ref (Z.2.2 (c + 1)), .int x20, .int x17]) dX0_fill_56 (k_X11_put (d - 1) (by omega) (snC1 hc) (shC1 hc) (by decide) x20 x17 M18) (by omega) (Nat.le_of_ble_eq_true rfl) nw_18 w_542 w_104 w_543 (by decide +kernel) rfl rfl (Nat.le_of_ble_eq_true rfl) (fun r M22 h23 => ?_)
                obtain ⟨rfl, h23⟩ := h23
                have hf := li_fr_trans hf h23 (fun i (h : i = c + 1) => (show i = c + 1 ∨ i = c + 2 ∨ i = (c - 4) + 2 ∨ i = (c - 4) + 3 by omega))
                refine li_iload 0 dX0_fill_59 rfl ?_
                have J74 : ∀ (x25 : Int32) (M26 : li_M), li_fr (fun i => i = c + 1 ∨ i = c + 2 ∨ i = (c - 4) + 2 ∨ i = (c - 4) + 3) M0 M26 → li_T l Z YX0_fill d 74 [(4, .int x17), (3, .int x5), (2, .int x6), (1, .int x1), (0, .ref (Z.2.2 c))] [.int x25] M26 (li_SV (fun i => i = c + 1 ∨ i = c + 2 ∨ i = (c - 4) + 2 ∨ i = (c - 4) + 3) M0) := by
                  intro x25 M26 hf
                  refine li_istore_n [(2, .int x25), (4, .int x17), (3, .int x5), (1, .int x1), (0, .ref (Z.2.2 c))] dX0_fill_74 (by decide) rfl ?_
                  obtain ⟨x27, ex27⟩ : ∃ y : Int32, y = x5 + 1 := ⟨_, rfl⟩
                  refine li_iinc 2 [(3, .int x27), (2, .int x25), (4, .int x17), (1, .int x1), (0, .ref (Z.2.2 c))] x27 dX0_fill_75 rfl (by rw [ex27]; rfl) (by decide) rfl ?_
                  refine li_goto 19 dX0_fill_78 (by decide) ?_
                  refine li_pick [0, 1, 3, 4] [(3, .int x27), (2, .int x25), (1, .int x1), (0, .ref (Z.2.2 c))] rfl ?_
                  exact ih19 x27 x25 M26 (by have h9 := li_up (li_gt c8); rw [← ex27] at h9; omega) hf
                refine li_if_lt 73 dX0_fill_61 (by decide) (fun c24 => ?_) (fun c24 => ?_)
                · refine li_iload_n 2 dX0_fill_73 rfl ?_
                  refine li_pick [0, 1, 2, 3, 4] [(4, .int x17), (3, .int x5), (2, .int x6), (1, .int x1), (0, .ref (Z.2.2 c))] rfl ?_
                  exact J74 x6 M22 hf
                · refine li_iload_n 2 dX0_fill_64 rfl ?_
                  refine li_iload 0 dX0_fill_65 rfl ?_
                  refine li_mmin dX0_fill_67 (by omega) w_1014 w_746 w_117 w_747 (Nat.le_of_ble_eq_true rfl) ?_
                  refine li_top (fun x28 ex28 => ?_)
                  refine li_goto 74 dX0_fill_70 (by decide) ?_
                  refine li_pick [0, 1, 2, 3, 4] [(4, .int x17), (3, .int x5), (2, .int x6), (1, .int x1), (0, .ref (Z.2.2 c))] rfl ?_
                  exact J74 x28 M22 hf
              refine li_if_eq 42 dX0_fill_30 (by decide) (fun c16 => ?_) (fun c16 => ?_)
              · refine li_iconst (-1) dX0_fill_42 (by decide) ?_
                refine li_pick [0, 1, 2, 3] [(3, .int x5), (2, .int x6), (1, .int x1), (0, .ref (Z.2.2 c))] rfl ?_
                exact J43 (-1) M14 hf
              · refine li_aload_n 3 dX0_fill_33 rfl ?_
                refine li_iload_n 2 dX0_fill_34 rfl ?_
                refine li_iload_n 0 dX0_fill_35 rfl ?_
                refine li_callV (n := 2) (As := [.int x1, .int x5]) dX0_fill_36 (k_X0_ofThing (d - 1) (by omega) hc x1 x5 M14) (by omega) (Nat.le_of_ble_eq_true rfl) w_1013 w_828 w_829 w_113 w_830 (by decide +kernel) rfl (snC0 hc) (shC0 hc) rfl rfl (Nat.le_of_ble_eq_true rfl) (fun r M30 h31 => ?_)
                obtain ⟨⟨x29, rfl⟩, h31⟩ := h31
                have hf := li_fr_trans hf h31 (fun i (h : i = (c - 4) + 2 ∨ i = (c - 4) + 3) => (show i = c + 1 ∨ i = c + 2 ∨ i = (c - 4) + 2 ∨ i = (c - 4) + 3 by omega))
                refine li_goto 43 dX0_fill_39 (by decide) ?_
                refine li_pick [0, 1, 2, 3] [(3, .int x5), (2, .int x6), (1, .int x1), (0, .ref (Z.2.2 c))] rfl ?_
                exact J43 x29 M30 hf
        exact L19 _ 0 999 M2 (Nat.lt_succ_self _) hf
  exact L2 _ 0 M0 (Nat.lt_succ_self _) hf
set_option maxRecDepth 100000 in
set_option maxHeartbeats 4000000 in
theorem k_X0_leastOfAll {l : Launch} {Z : li_Z} (d : Nat) (hd : 2 ≤ d) {c : Nat} (hc : li_co c) (p1 : Int32) (M0 : li_M) : li_Met l Z YX0_leastOfAll d [.ref (Z.2.2 c), .int p1] M0 (li_SI (fun i => False) M0) := by
  refine li_enter (by decide +kernel) (Nat.le_of_ble_eq_true rfl) ?_
  show li_T l Z YX0_leastOfAll d 0 [(0, .ref (Z.2.2 c)), (1, .int p1)] [] M0 _
  have hf : li_fr (fun i => False) M0 M0 := li_fr_refl
  refine li_iconst 0 dX0_leastOfAll_0 (by decide) ?_
  refine li_istore_n [(2, .int 0), (0, .ref (Z.2.2 c)), (1, .int p1)] dX0_leastOfAll_1 (by decide) rfl ?_
  refine li_iconst 0 dX0_leastOfAll_2 (by decide) ?_
  refine li_istore_n [(3, .int 0), (2, .int 0), (0, .ref (Z.2.2 c)), (1, .int p1)] dX0_leastOfAll_3 (by decide) rfl ?_
  have L4 : ∀ (n : Nat) (x1 : Int32) (x2 : Int32) (M3 : li_M), (2147483647 - (x1 : Int32).toInt).toNat < n → li_fr (fun i => False) M0 M3 → li_T l Z YX0_leastOfAll d 4 [(3, .int x1), (2, .int x2), (0, .ref (Z.2.2 c)), (1, .int p1)] [] M3 (li_SI (fun i => False) M0) := by
    intro n
    induction n with
    | zero => intro x1 x2 M3 hn; exact absurd hn (Nat.not_lt_zero _)
    | succ n ih4 =>
      intro x1 x2 M3 hn hf
      refine li_iload_n 0 dX0_leastOfAll_4 rfl ?_
      refine li_aload_n 2 dX0_leastOfAll_5 rfl ?_
      refine li_getr (k := 0) (N := 8) (T := TX0) (C0 := RX0) dX0_leastOfAll_6 (snC0 hc) (shC0 hc) rfl rfl (by decide) (by decide) li_in0 w_385 ?_
      refine li_geti (k := 1) (N := 9) (T := TX8) (C0 := RX8) dX0_leastOfAll_9 (by decide) sh_5 rfl rfl (by decide) li_in8 w_184 ?_
      refine li_top (fun x4 ex4 => ?_)
      refine li_icmp_ge 40 dX0_leastOfAll_12 (by decide) (fun c5 => ?_) (fun c5 => ?_)
      · refine li_iload_n 1 dX0_leastOfAll_40 rfl ?_
        exact li_iret dX0_leastOfAll_41 rfl rfl ⟨⟨_, rfl⟩, hf⟩
      · refine li_iload_n 3 dX0_leastOfAll_15 rfl ?_
        refine li_iload_n 0 dX0_leastOfAll_16 rfl ?_
        refine li_callN (n := 2) (As := [.int p1, .int x1]) dX0_leastOfAll_17 (k_X11_holds (d - 1) (by omega) p1 x1 M3) (by omega) (Nat.le_of_ble_eq_true rfl) nw_25 w_877 w_104 w_878 (by decide +kernel) rfl rfl (Nat.le_of_ble_eq_true rfl) (fun r M7 h8 => ?_)
        obtain ⟨⟨x6, rfl, bx6⟩, h8⟩ := h8
        have hf := li_fr_trans hf h8 (fun i h => False.elim h)
        have J34 : ∀ (x10 : Int32) (M11 : li_M), li_fr (fun i => False) M0 M11 → li_T l Z YX0_leastOfAll d 34 [(3, .int x1), (2, .int x10), (0, .ref (Z.2.2 c)), (1, .int p1)] [] M11 (li_SI (fun i => False) M0) := by
          intro x10 M11 hf
          obtain ⟨x12, ex12⟩ : ∃ y : Int32, y = x1 + 1 := ⟨_, rfl⟩
          refine li_iinc 0 [(3, .int x12), (2, .int x10), (0, .ref (Z.2.2 c)), (1, .int p1)] x12 dX0_leastOfAll_34 rfl (by rw [ex12]; rfl) (by decide) rfl ?_
          refine li_goto 4 dX0_leastOfAll_37 (by decide) ?_
          refine li_pick [0, 1, 2, 3] [(3, .int x12), (2, .int x10), (0, .ref (Z.2.2 c)), (1, .int p1)] rfl ?_
          exact ih4 x12 x10 M11 (by have h9 := li_up (li_gt c5); rw [← ex12] at h9; omega) hf
        refine li_if_eq 34 dX0_leastOfAll_20 (by decide) (fun c9 => ?_) (fun c9 => ?_)
        · refine li_pick [0, 1, 2, 3] [(3, .int x1), (2, .int x2), (0, .ref (Z.2.2 c)), (1, .int p1)] rfl ?_
          exact J34 x2 M7 hf
        · refine li_iload_n 1 dX0_leastOfAll_23 rfl ?_
          refine li_aload_n 2 dX0_leastOfAll_24 rfl ?_
          refine li_getr (k := 4) (N := 8) (T := TX0) (C0 := RX0) dX0_leastOfAll_25 (snC0 hc) (shC0 hc) rfl rfl (lkC2 hc) (by decide) li_in0 w_390 ?_
          refine li_iload_n 0 dX0_leastOfAll_28 rfl ?_
          refine li_callN (n := 2) (As := [.ref (Z.2.2 (c + 2)), .int x1]) dX0_leastOfAll_29 (k_X11_at (d - 1) (by omega) (snC2 hc) (shC2 hc) (by decide) x1 M7) (by omega) (Nat.le_of_ble_eq_true rfl) nw_17 w_589 w_104 w_590 (by decide +kernel) rfl rfl (Nat.le_of_ble_eq_true rfl) (fun r M14 h15 => ?_)
          obtain ⟨⟨x13, rfl⟩, h15⟩ := h15
          have hf := li_fr_trans hf h15 (fun i h => False.elim h)
          refine li_iadd dX0_leastOfAll_32 ?_
          refine li_top (fun x16 ex16 => ?_)
          refine li_istore_n [(2, .int x16), (3, .int x1), (0, .ref (Z.2.2 c)), (1, .int p1)] dX0_leastOfAll_33 (by decide) rfl ?_
          refine li_pick [1, 0, 2, 3] [(3, .int x1), (2, .int x16), (0, .ref (Z.2.2 c)), (1, .int p1)] rfl ?_
          exact J34 x16 M14 hf
  exact L4 _ 0 0 M0 (Nat.lt_succ_self _) hf
set_option maxRecDepth 100000 in
set_option maxHeartbeats 4000000 in
theorem k_X0_openThings {l : Launch} {Z : li_Z} (d : Nat) (hd : 3 ≤ d) {c : Nat} (hc : li_co c) (M0 : li_M) : li_Met l Z YX0_openThings d [.ref (Z.2.2 c)] M0 (li_SI (fun i => False) M0) := by
  refine li_enter (by decide +kernel) (Nat.le_of_ble_eq_true rfl) ?_
  show li_T l Z YX0_openThings d 0 [(0, .ref (Z.2.2 c))] [] M0 _
  have hf : li_fr (fun i => False) M0 M0 := li_fr_refl
  refine li_iconst 0 dX0_openThings_0 (by decide) ?_
  refine li_istore_n [(1, .int 0), (0, .ref (Z.2.2 c))] dX0_openThings_1 (by decide) rfl ?_
  refine li_iconst 0 dX0_openThings_2 (by decide) ?_
  refine li_istore_n [(2, .int 0), (1, .int 0), (0, .ref (Z.2.2 c))] dX0_openThings_3 (by decide) rfl ?_
  have L4 : ∀ (n : Nat) (x1 : Int32) (x2 : Int32) (M3 : li_M), (2147483647 - (x1 : Int32).toInt).toNat < n → li_fr (fun i => False) M0 M3 → li_T l Z YX0_openThings d 4 [(2, .int x1), (1, .int x2), (0, .ref (Z.2.2 c))] [] M3 (li_SI (fun i => False) M0) := by
    intro n
    induction n with
    | zero => intro x1 x2 M3 hn; exact absurd hn (Nat.not_lt_zero _)
    | succ n ih4 =>
      intro x1 x2 M3 hn hf
      refine li_iload_n 0 dX0_openThings_4 rfl ?_
      refine li_aload_n 2 dX0_openThings_5 rfl ?_
      refine li_getr (k := 0) (N := 8) (T := TX0) (C0 := RX0) dX0_openThings_6 (snC0 hc) (shC0 hc) rfl rfl (by decide) (by decide) li_in0 w_385 ?_
      refine li_geti (k := 1) (N := 9) (T := TX8) (C0 := RX8) dX0_openThings_9 (by decide) sh_5 rfl rfl (by decide) li_in8 w_184 ?_
      refine li_top (fun x4 ex4 => ?_)
      refine li_icmp_ge 56 dX0_openThings_12 (by decide) (fun c5 => ?_) (fun c5 => ?_)
      · refine li_iload_n 1 dX0_openThings_56 rfl ?_
        exact li_iret dX0_openThings_57 rfl rfl ⟨⟨_, rfl⟩, hf⟩
      · refine li_aload_n 2 dX0_openThings_15 rfl ?_
        refine li_getr (k := 1) (N := 8) (T := TX0) (C0 := RX0) dX0_openThings_16 (snC0 hc) (shC0 hc) rfl rfl (by decide) (by decide) li_in0 w_386 ?_
        refine li_geti (k := 1) (N := 11) (T := TX4) (C0 := RX4) dX0_openThings_19 (by decide) sh_13 rfl rfl (by decide) li_in4 w_237 ?_
        refine li_top (fun x6 ex6 => ?_)
        refine li_iload_n 0 dX0_openThings_22 rfl ?_
        refine li_callN (n := 2) (As := [.int x6, .int x1]) dX0_openThings_23 (k_X11_holds (d - 1) (by omega) x6 x1 M3) (by omega) (Nat.le_of_ble_eq_true rfl) nw_25 w_877 w_104 w_878 (by decide +kernel) rfl rfl (Nat.le_of_ble_eq_true rfl) (fun r M8 h9 => ?_)
        obtain ⟨⟨x7, rfl, bx7⟩, h9⟩ := h9
        have hf := li_fr_trans hf h9 (fun i h => False.elim h)
        have J50 : ∀ (x11 : Int32) (M12 : li_M), li_fr (fun i => False) M0 M12 → li_T l Z YX0_openThings d 50 [(2, .int x1), (1, .int x11), (0, .ref (Z.2.2 c))] [] M12 (li_SI (fun i => False) M0) := by
          intro x11 M12 hf
          obtain ⟨x13, ex13⟩ : ∃ y : Int32, y = x1 + 1 := ⟨_, rfl⟩
          refine li_iinc 0 [(2, .int x13), (1, .int x11), (0, .ref (Z.2.2 c))] x13 dX0_openThings_50 rfl (by rw [ex13]; rfl) (by decide) rfl ?_
          refine li_goto 4 dX0_openThings_53 (by decide) ?_
          refine li_pick [0, 1, 2] [(2, .int x13), (1, .int x11), (0, .ref (Z.2.2 c))] rfl ?_
          exact ih4 x13 x11 M12 (by have h9 := li_up (li_gt c5); rw [← ex13] at h9; omega) hf
        refine li_if_ne 50 dX0_openThings_26 (by decide) (fun c10 => ?_) (fun c10 => ?_)
        · refine li_pick [0, 1, 2] [(2, .int x1), (1, .int x2), (0, .ref (Z.2.2 c))] rfl ?_
          exact J50 x2 M8 hf
        · refine li_aload_n 2 dX0_openThings_29 rfl ?_
          refine li_getr (k := 1) (N := 8) (T := TX0) (C0 := RX0) dX0_openThings_30 (snC0 hc) (shC0 hc) rfl rfl (by decide) (by decide) li_in0 w_386 ?_
          refine li_aload_n 2 dX0_openThings_33 rfl ?_
          refine li_getr (k := 0) (N := 8) (T := TX0) (C0 := RX0) dX0_openThings_34 (snC0 hc) (shC0 hc) rfl rfl (by decide) (by decide) li_in0 w_385 ?_
          refine li_iload_n 0 dX0_openThings_37 rfl ?_
          refine li_callV (n := 2) (As := [.ref (Z.2.2 5), .int x1]) dX0_openThings_38 (k_X4_isLate (d - 1) (by omega) x1 M8) (by omega) (Nat.le_of_ble_eq_true rfl) w_1028 w_880 w_881 w_108 w_882 (by decide +kernel) rfl (by decide) sh_13 rfl rfl (Nat.le_of_ble_eq_true rfl) (fun r M15 h16 => ?_)
          obtain ⟨⟨x14, rfl, bx14⟩, h16⟩ := h16
          have hf := li_fr_trans hf h16 (fun i h => False.elim h)
          refine li_if_ne 50 dX0_openThings_41 (by decide) (fun c17 => ?_) (fun c17 => ?_)
          · refine li_pick [0, 1, 2] [(2, .int x1), (1, .int x2), (0, .ref (Z.2.2 c))] rfl ?_
            exact J50 x2 M15 hf
          · refine li_iload_n 1 dX0_openThings_44 rfl ?_
            refine li_iconst 1 dX0_openThings_45 (by decide) ?_
            refine li_iload_n 0 dX0_openThings_46 rfl ?_
            refine li_ishl dX0_openThings_47 ?_
            refine li_top (fun x18 ex18 => ?_)
            refine li_ior dX0_openThings_48 ?_
            refine li_top (fun x19 ex19 => ?_)
            refine li_istore_n [(1, .int x19), (2, .int x1), (0, .ref (Z.2.2 c))] dX0_openThings_49 (by decide) rfl ?_
            refine li_pick [1, 0, 2] [(2, .int x1), (1, .int x19), (0, .ref (Z.2.2 c))] rfl ?_
            exact J50 x19 M15 hf
  exact L4 _ 0 0 M0 (Nat.lt_succ_self _) hf
set_option maxRecDepth 100000 in
set_option maxHeartbeats 4000000 in
theorem k_X0_openThingsOf {l : Launch} {Z : li_Z} (d : Nat) (hd : 4 ≤ d) {c : Nat} (hc : li_co c) (p1 : Int32) (M0 : li_M) : li_Met l Z YX0_openThingsOf d [.ref (Z.2.2 c), .int p1] M0 (li_SI (fun i => False) M0) := by
  refine li_enter (by decide +kernel) (Nat.le_of_ble_eq_true rfl) ?_
  show li_T l Z YX0_openThingsOf d 0 [(0, .ref (Z.2.2 c)), (1, .int p1)] [] M0 _
  have hf : li_fr (fun i => False) M0 M0 := li_fr_refl
  refine li_aload_n 0 dX0_openThingsOf_0 rfl ?_
  refine li_callV (n := 0) (As := []) dX0_openThingsOf_1 (k_X0_openThings (d - 1) (by omega) hc M0) (by omega) (Nat.le_of_ble_eq_true rfl) w_1023 w_1024 w_1025 w_113 w_1026 (by decide +kernel) rfl (snC0 hc) (shC0 hc) rfl rfl (Nat.le_of_ble_eq_true rfl) (fun r M2 h3 => ?_)
  obtain ⟨⟨x1, rfl⟩, h3⟩ := h3
  have hf := li_fr_trans hf h3 (fun i h => False.elim h)
  refine li_aload_n 0 dX0_openThingsOf_4 rfl ?_
  refine li_getr (k := 0) (N := 8) (T := TX0) (C0 := RX0) dX0_openThingsOf_5 (snC0 hc) (shC0 hc) rfl rfl (by decide) (by decide) li_in0 w_385 ?_
  refine li_iload_n 1 dX0_openThingsOf_8 rfl ?_
  refine li_callV (n := 1) (As := [.int p1]) dX0_openThingsOf_9 (k_X8_thingsOf (d - 1) (by omega) p1 M2) (by omega) (Nat.le_of_ble_eq_true rfl) w_1029 w_1030 w_1031 w_107 w_1032 (by decide +kernel) rfl (by decide) sh_5 rfl rfl (Nat.le_of_ble_eq_true rfl) (fun r M5 h6 => ?_)
  obtain ⟨⟨x4, rfl⟩, h6⟩ := h6
  have hf := li_fr_trans hf h6 (fun i h => False.elim h)
  refine li_iand dX0_openThingsOf_12 ?_
  refine li_top (fun x7 ex7 => ?_)
  exact li_iret dX0_openThingsOf_13 rfl rfl ⟨⟨_, rfl⟩, hf⟩
set_option maxRecDepth 100000 in
set_option maxHeartbeats 4000000 in
theorem k_X0_weigh {l : Launch} {Z : li_Z} (d : Nat) (hd : 2 ≤ d) {c : Nat} (hc : li_co c) (p1 p2 : Int32) (M0 : li_M) : li_Met l Z YX0_weigh d [.ref (Z.2.2 c), .int p1, .int p2] M0 (li_SV (fun i => i = c) M0) := by
  refine li_enter (by decide +kernel) (Nat.le_of_ble_eq_true rfl) ?_
  show li_T l Z YX0_weigh d 0 [(0, .ref (Z.2.2 c)), (1, .int p1), (2, .int p2)] [] M0 _
  have hf : li_fr (fun i => i = c) M0 M0 := li_fr_refl
  refine li_iconst 0 dX0_weigh_0 (by decide) ?_
  refine li_istore_n [(3, .int 0), (0, .ref (Z.2.2 c)), (1, .int p1), (2, .int p2)] dX0_weigh_1 (by decide) rfl ?_
  refine li_iconst 0 dX0_weigh_2 (by decide) ?_
  refine li_istore [(4, .int 0), (3, .int 0), (0, .ref (Z.2.2 c)), (1, .int p1), (2, .int p2)] dX0_weigh_3 (by decide) rfl ?_
  refine li_iconst 0 dX0_weigh_5 (by decide) ?_
  refine li_istore [(5, .int 0), (4, .int 0), (3, .int 0), (0, .ref (Z.2.2 c)), (1, .int p1), (2, .int p2)] dX0_weigh_6 (by decide) rfl ?_
  have L8 : ∀ (n : Nat) (x1 : Int32) (x2 : Int32) (x3 : Int32) (M4 : li_M), (2147483647 - (x1 : Int32).toInt).toNat < n → li_fr (fun i => i = c) M0 M4 → li_T l Z YX0_weigh d 8 [(5, .int x1), (4, .int x2), (3, .int x3), (0, .ref (Z.2.2 c)), (1, .int p1), (2, .int p2)] [] M4 (li_SV (fun i => i = c) M0) := by
    intro n
    induction n with
    | zero => intro x1 x2 x3 M4 hn; exact absurd hn (Nat.not_lt_zero _)
    | succ n ih8 =>
      intro x1 x2 x3 M4 hn hf
      refine li_iload 0 dX0_weigh_8 rfl ?_
      refine li_aload_n 3 dX0_weigh_10 rfl ?_
      refine li_getr (k := 0) (N := 8) (T := TX0) (C0 := RX0) dX0_weigh_11 (snC0 hc) (shC0 hc) rfl rfl (by decide) (by decide) li_in0 w_385 ?_
      refine li_geti (k := 1) (N := 9) (T := TX8) (C0 := RX8) dX0_weigh_14 (by decide) sh_5 rfl rfl (by decide) li_in8 w_184 ?_
      refine li_top (fun x5 ex5 => ?_)
      refine li_icmp_ge 64 dX0_weigh_17 (by decide) (fun c6 => ?_) (fun c6 => ?_)
      · refine li_iload 1 dX0_weigh_64 rfl ?_
        refine li_aload_n 3 dX0_weigh_66 rfl ?_
        refine li_geti (k := 7) (N := 8) (T := TX0) (C0 := RX0) dX0_weigh_67 (snC0 hc) (shC0 hc) rfl rfl (by decide) li_in0 w_396 ?_
        refine li_top (fun x7 ex7 => ?_)
        have J95 : ∀ (x9 : Int32) (M10 : li_M), li_fr (fun i => i = c) M0 M10 → li_T l Z YX0_weigh d 95 [(5, .int x1), (4, .int x2), (3, .int x3), (0, .ref (Z.2.2 c)), (1, .int p1), (2, .int p2)] [.int x9] M10 (li_SV (fun i => i = c) M0) := by
          intro x9 M10 hf
          refine li_istore [(5, .int x9), (4, .int x2), (3, .int x3), (0, .ref (Z.2.2 c)), (1, .int p1), (2, .int p2)] dX0_weigh_95 (by decide) rfl ?_
          refine li_iload_n 2 dX0_weigh_97 rfl ?_
          refine li_iload_n 5 dX0_weigh_98 rfl ?_
          refine li_icmp_gt 123 dX0_weigh_99 (by decide) (fun c11 => ?_) (fun c11 => ?_)
          · exact li_vret dX0_weigh_123 rfl ⟨rfl, hf⟩
          · refine li_iload 0 dX0_weigh_102 rfl ?_
            refine li_if_eq 123 dX0_weigh_104 (by decide) (fun c12 => ?_) (fun c12 => ?_)
            · exact li_vret dX0_weigh_123 rfl ⟨rfl, hf⟩
            · refine li_aload_n 3 dX0_weigh_107 rfl ?_
              refine li_iload_n 4 dX0_weigh_108 rfl ?_
              refine li_puti (k := 5) (N := 8) (T := TX0) (C0 := RX0) dX0_weigh_109 (snC0 hc) (shC0 hc) rfl rfl (by decide) li_in0 tyX0_ok nmX0 rfl rfl rfl rfl w_392 ?_
              refine li_nm (fun M13 eM13 => ?_)
              have hf := li_fr_ui hf (show c = c by omega) eM13
              refine li_aload_n 3 dX0_weigh_112 rfl ?_
              refine li_iload_n 2 dX0_weigh_113 rfl ?_
              refine li_puti (k := 6) (N := 8) (T := TX0) (C0 := RX0) dX0_weigh_114 (snC0 hc) (shC0 hc) rfl rfl (by decide) li_in0 tyX0_ok nmX0 rfl rfl rfl rfl w_394 ?_
              refine li_nm (fun M14 eM14 => ?_)
              have hf := li_fr_ui hf (show c = c by omega) eM14
              refine li_aload_n 3 dX0_weigh_117 rfl ?_
              refine li_iload 1 dX0_weigh_118 rfl ?_
              refine li_puti (k := 7) (N := 8) (T := TX0) (C0 := RX0) dX0_weigh_120 (snC0 hc) (shC0 hc) rfl rfl (by decide) li_in0 tyX0_ok nmX0 rfl rfl rfl rfl w_396 ?_
              refine li_nm (fun M15 eM15 => ?_)
              have hf := li_fr_ui hf (show c = c by omega) eM15
              exact li_vret dX0_weigh_123 rfl ⟨rfl, hf⟩
        refine li_icmp_gt 90 dX0_weigh_70 (by decide) (fun c8 => ?_) (fun c8 => ?_)
        · refine li_iconst 1 dX0_weigh_90 (by decide) ?_
          refine li_goto 95 dX0_weigh_91 (by decide) ?_
          refine li_pick [0, 1, 2, 3, 4, 5] [(5, .int x1), (4, .int x2), (3, .int x3), (0, .ref (Z.2.2 c)), (1, .int p1), (2, .int p2)] rfl ?_
          exact J95 1 M4 hf
        · refine li_iload 1 dX0_weigh_73 rfl ?_
          refine li_aload_n 3 dX0_weigh_75 rfl ?_
          refine li_geti (k := 7) (N := 8) (T := TX0) (C0 := RX0) dX0_weigh_76 (snC0 hc) (shC0 hc) rfl rfl (by decide) li_in0 w_396 ?_
          refine li_top (fun x16 ex16 => ?_)
          refine li_icmp_ne 94 dX0_weigh_79 (by decide) (fun c17 => ?_) (fun c17 => ?_)
          · refine li_iconst 0 dX0_weigh_94 (by decide) ?_
            refine li_pick [0, 1, 2, 3, 4, 5] [(5, .int x1), (4, .int x2), (3, .int x3), (0, .ref (Z.2.2 c)), (1, .int p1), (2, .int p2)] rfl ?_
            exact J95 0 M4 hf
          · refine li_iload_n 2 dX0_weigh_82 rfl ?_
            refine li_aload_n 3 dX0_weigh_83 rfl ?_
            refine li_geti (k := 6) (N := 8) (T := TX0) (C0 := RX0) dX0_weigh_84 (snC0 hc) (shC0 hc) rfl rfl (by decide) li_in0 w_394 ?_
            refine li_top (fun x18 ex18 => ?_)
            refine li_icmp_ge 94 dX0_weigh_87 (by decide) (fun c19 => ?_) (fun c19 => ?_)
            · refine li_iconst 0 dX0_weigh_94 (by decide) ?_
              refine li_pick [0, 1, 2, 3, 4, 5] [(5, .int x1), (4, .int x2), (3, .int x3), (0, .ref (Z.2.2 c)), (1, .int p1), (2, .int p2)] rfl ?_
              exact J95 0 M4 hf
            · refine li_iconst 1 dX0_weigh_90 (by decide) ?_
              refine li_goto 95 dX0_weigh_91 (by decide) ?_
              refine li_pick [0, 1, 2, 3, 4, 5] [(5, .int x1), (4, .int x2), (3, .int x3), (0, .ref (Z.2.2 c)), (1, .int p1), (2, .int p2)] rfl ?_
              exact J95 1 M4 hf
      · refine li_iload_n 4 dX0_weigh_20 rfl ?_
        refine li_iload 0 dX0_weigh_21 rfl ?_
        refine li_callN (n := 2) (As := [.int p1, .int x1]) dX0_weigh_23 (k_X11_holds (d - 1) (by omega) p1 x1 M4) (by omega) (Nat.le_of_ble_eq_true rfl) nw_25 w_877 w_104 w_878 (by decide +kernel) rfl rfl (Nat.le_of_ble_eq_true rfl) (fun r M21 h22 => ?_)
        obtain ⟨⟨x20, rfl, bx20⟩, h22⟩ := h22
        have hf := li_fr_trans hf h22 (fun i h => False.elim h)
        have J58 : ∀ (x24 : Int32) (x25 : Int32) (M26 : li_M), li_fr (fun i => i = c) M0 M26 → li_T l Z YX0_weigh d 58 [(5, .int x1), (4, .int x24), (3, .int x25), (0, .ref (Z.2.2 c)), (1, .int p1), (2, .int p2)] [] M26 (li_SV (fun i => i = c) M0) := by
          intro x24 x25 M26 hf
          obtain ⟨x27, ex27⟩ : ∃ y : Int32, y = x1 + 1 := ⟨_, rfl⟩
          refine li_iinc 0 [(5, .int x27), (4, .int x24), (3, .int x25), (0, .ref (Z.2.2 c)), (1, .int p1), (2, .int p2)] x27 dX0_weigh_58 rfl (by rw [ex27]; rfl) (by decide) rfl ?_
          refine li_goto 8 dX0_weigh_61 (by decide) ?_
          refine li_pick [0, 1, 2, 3, 4, 5] [(5, .int x27), (4, .int x24), (3, .int x25), (0, .ref (Z.2.2 c)), (1, .int p1), (2, .int p2)] rfl ?_
          exact ih8 x27 x24 x25 M26 (by have h9 := li_up (li_gt c6); rw [← ex27] at h9; omega) hf
        refine li_if_eq 58 dX0_weigh_26 (by decide) (fun c23 => ?_) (fun c23 => ?_)
        · refine li_pick [0, 1, 2, 3, 4, 5] [(5, .int x1), (4, .int x2), (3, .int x3), (0, .ref (Z.2.2 c)), (1, .int p1), (2, .int p2)] rfl ?_
          exact J58 x2 x3 M21 hf
        · refine li_iload_n 2 dX0_weigh_29 rfl ?_
          refine li_aload_n 3 dX0_weigh_30 rfl ?_
          refine li_getr (k := 4) (N := 8) (T := TX0) (C0 := RX0) dX0_weigh_31 (snC0 hc) (shC0 hc) rfl rfl (lkC2 hc) (by decide) li_in0 w_390 ?_
          refine li_iload 0 dX0_weigh_34 rfl ?_
          refine li_callN (n := 2) (As := [.ref (Z.2.2 (c + 2)), .int x1]) dX0_weigh_36 (k_X11_at (d - 1) (by omega) (snC2 hc) (shC2 hc) (by decide) x1 M21) (by omega) (Nat.le_of_ble_eq_true rfl) nw_17 w_589 w_104 w_590 (by decide +kernel) rfl rfl (Nat.le_of_ble_eq_true rfl) (fun r M29 h30 => ?_)
          obtain ⟨⟨x28, rfl⟩, h30⟩ := h30
          have hf := li_fr_trans hf h30 (fun i h => False.elim h)
          refine li_iadd dX0_weigh_39 ?_
          refine li_top (fun x31 ex31 => ?_)
          refine li_istore_n [(3, .int x31), (5, .int x1), (4, .int x2), (0, .ref (Z.2.2 c)), (1, .int p1), (2, .int p2)] dX0_weigh_40 (by decide) rfl ?_
          refine li_iload 2 dX0_weigh_41 rfl ?_
          refine li_aload_n 3 dX0_weigh_43 rfl ?_
          refine li_getr (k := 0) (N := 8) (T := TX0) (C0 := RX0) dX0_weigh_44 (snC0 hc) (shC0 hc) rfl rfl (by decide) (by decide) li_in0 w_385 ?_
          refine li_getr (k := 8) (N := 9) (T := TX8) (C0 := RX8) dX0_weigh_47 (by decide) sh_5 rfl rfl (by decide) (by decide) li_in8 w_206 ?_
          refine li_iload 1 dX0_weigh_50 rfl ?_
          refine li_callN (n := 2) (As := [.ref (Z.2.2 12), .int x1]) dX0_weigh_52 (k_X11_at (d - 1) (by omega) (by decide) sh_12 (by decide) x1 M29) (by omega) (Nat.le_of_ble_eq_true rfl) nw_17 w_589 w_104 w_590 (by decide +kernel) rfl rfl (Nat.le_of_ble_eq_true rfl) (fun r M33 h34 => ?_)
          obtain ⟨⟨x32, rfl⟩, h34⟩ := h34
          have hf := li_fr_trans hf h34 (fun i h => False.elim h)
          refine li_iadd dX0_weigh_55 ?_
          refine li_top (fun x35 ex35 => ?_)
          refine li_istore [(4, .int x35), (3, .int x31), (5, .int x1), (0, .ref (Z.2.2 c)), (1, .int p1), (2, .int p2)] dX0_weigh_56 (by decide) rfl ?_
          refine li_pick [2, 0, 1, 3, 4, 5] [(5, .int x1), (4, .int x35), (3, .int x31), (0, .ref (Z.2.2 c)), (1, .int p1), (2, .int p2)] rfl ?_
          exact J58 x35 x31 M33 hf
  exact L8 _ 0 0 0 M0 (Nat.lt_succ_self _) hf
set_option maxRecDepth 100000 in
set_option maxHeartbeats 4000000 in
theorem k_X0_choose {l : Launch} {Z : li_Z} (d : Nat) (hd : 3 ≤ d) {c : Nat} (hc : li_co c) (p1 p2 : Int32) (M0 : li_M) : li_Met l Z YX0_choose d [.ref (Z.2.2 c), .int p1, .int p2] M0 (li_SV (fun i => i = c) M0) := by
  refine li_enter (by decide +kernel) (Nat.le_of_ble_eq_true rfl) ?_
  show li_T l Z YX0_choose d 0 [(0, .ref (Z.2.2 c)), (1, .int p1), (2, .int p2)] [] M0 _
  have hf : li_fr (fun i => i = c) M0 M0 := li_fr_refl
  refine li_aload_n 0 dX0_choose_0 rfl ?_
  refine li_iconst 0 dX0_choose_1 (by decide) ?_
  refine li_puti (k := 5) (N := 8) (T := TX0) (C0 := RX0) dX0_choose_2 (snC0 hc) (shC0 hc) rfl rfl (by decide) li_in0 tyX0_ok nmX0 rfl rfl rfl rfl w_392 ?_
  refine li_nm (fun M1 eM1 => ?_)
  have hf := li_fr_ui hf (show c = c by omega) eM1
  refine li_aload_n 0 dX0_choose_5 rfl ?_
  refine li_iconst 0 dX0_choose_6 (by decide) ?_
  refine li_puti (k := 6) (N := 8) (T := TX0) (C0 := RX0) dX0_choose_7 (snC0 hc) (shC0 hc) rfl rfl (by decide) li_in0 tyX0_ok nmX0 rfl rfl rfl rfl w_394 ?_
  refine li_nm (fun M2 eM2 => ?_)
  have hf := li_fr_ui hf (show c = c by omega) eM2
  refine li_aload_n 0 dX0_choose_10 rfl ?_
  refine li_iconst 0 dX0_choose_11 (by decide) ?_
  refine li_puti (k := 7) (N := 8) (T := TX0) (C0 := RX0) dX0_choose_12 (snC0 hc) (shC0 hc) rfl rfl (by decide) li_in0 tyX0_ok nmX0 rfl rfl rfl rfl w_396 ?_
  refine li_nm (fun M3 eM3 => ?_)
  have hf := li_fr_ui hf (show c = c by omega) eM3
  refine li_iconst 1 dX0_choose_15 (by decide) ?_
  refine li_istore_n [(3, .int 1), (0, .ref (Z.2.2 c)), (1, .int p1), (2, .int p2)] dX0_choose_16 (by decide) rfl ?_
  have L17 : ∀ (n : Nat) (x4 : Int32) (M5 : li_M), (2147483647 - (x4 : Int32).toInt).toNat < n → li_fr (fun i => i = c) M0 M5 → li_T l Z YX0_choose d 17 [(3, .int x4), (0, .ref (Z.2.2 c)), (1, .int p1), (2, .int p2)] [] M5 (li_SV (fun i => i = c) M0) := by
    intro n
    induction n with
    | zero => intro x4 M5 hn; exact absurd hn (Nat.not_lt_zero _)
    | succ n ih17 =>
      intro x4 M5 hn hf
      refine li_iload_n 0 dX0_choose_17 rfl ?_
      refine li_sipush 256 dX0_choose_18 (by decide) ?_
      refine li_icmp_ge 44 dX0_choose_21 (by decide) (fun c6 => ?_) (fun c6 => ?_)
      · exact li_vret dX0_choose_44 rfl ⟨rfl, hf⟩
      · refine li_iload_n 0 dX0_choose_24 rfl ?_
        refine li_iload_n 2 dX0_choose_25 rfl ?_
        refine li_iconst (-1) dX0_choose_26 (by decide) ?_
        refine li_ixor dX0_choose_27 ?_
        refine li_top (fun x7 ex7 => ?_)
        refine li_iand dX0_choose_28 ?_
        refine li_top (fun x8 ex8 => ?_)
        have J38 : ∀  (M10 : li_M), li_fr (fun i => i = c) M0 M10 → li_T l Z YX0_choose d 38 [(3, .int x4), (0, .ref (Z.2.2 c)), (1, .int p1), (2, .int p2)] [] M10 (li_SV (fun i => i = c) M0) := by
          intro  M10 hf
          obtain ⟨x11, ex11⟩ : ∃ y : Int32, y = x4 + 1 := ⟨_, rfl⟩
          refine li_iinc 0 [(3, .int x11), (0, .ref (Z.2.2 c)), (1, .int p1), (2, .int p2)] x11 dX0_choose_38 rfl (by rw [ex11]; rfl) (by decide) rfl ?_
          refine li_goto 17 dX0_choose_41 (by decide) ?_
          refine li_pick [0, 1, 2, 3] [(3, .int x11), (0, .ref (Z.2.2 c)), (1, .int p1), (2, .int p2)] rfl ?_
          exact ih17 x11 M10 (by have h9 := li_up (li_gt c6); rw [← ex11] at h9; omega) hf
        refine li_if_ne 38 dX0_choose_29 (by decide) (fun c9 => ?_) (fun c9 => ?_)
        · refine li_pick [0, 1, 2, 3] [(3, .int x4), (0, .ref (Z.2.2 c)), (1, .int p1), (2, .int p2)] rfl ?_
          exact J38  M5 hf
        · refine li_aload_n 1 dX0_choose_32 rfl ?_
          refine li_iload_n 0 dX0_choose_33 rfl ?_
          refine li_iload_n 3 dX0_choose_34 rfl ?_
          refine li_callV (n := 2) (As := [.int x4, .int p2]) dX0_choose_35 (k_X0_weigh (d - 1) (by omega) hc x4 p2 M5) (by omega) (Nat.le_of_ble_eq_true rfl) w_1037 w_1039 w_24 w_113 w_1040 (by decide +kernel) rfl (snC0 hc) (shC0 hc) rfl rfl (Nat.le_of_ble_eq_true rfl) (fun r M13 h14 => ?_)
          obtain ⟨rfl, h14⟩ := h14
          have hf := li_fr_trans hf h14 (fun i (h : i = c) => (show i = c by omega))
          refine li_pick [0, 1, 2, 3] [(3, .int x4), (0, .ref (Z.2.2 c)), (1, .int p1), (2, .int p2)] rfl ?_
          exact J38  M13 hf
  exact L17 _ 1 M3 (Nat.lt_succ_self _) hf
set_option maxRecDepth 100000 in
set_option maxHeartbeats 4000000 in
theorem k_X0_chooseFor {l : Launch} {Z : li_Z} (d : Nat) (hd : 5 ≤ d) {c : Nat} (hc : li_co c) (p1 : Int32) (M0 : li_M) : li_Met l Z YX0_chooseFor d [.ref (Z.2.2 c), .int p1] M0 (li_SV (fun i => i = c) M0) := by
  refine li_enter (by decide +kernel) (Nat.le_of_ble_eq_true rfl) ?_
  show li_T l Z YX0_chooseFor d 0 [(0, .ref (Z.2.2 c)), (1, .int p1)] [] M0 _
  have hf : li_fr (fun i => i = c) M0 M0 := li_fr_refl
  refine li_aload_n 0 dX0_chooseFor_0 rfl ?_
  refine li_aload_n 0 dX0_chooseFor_1 rfl ?_
  refine li_iload_n 1 dX0_chooseFor_2 rfl ?_
  refine li_callV (n := 1) (As := [.int p1]) dX0_chooseFor_3 (k_X0_openThingsOf (d - 1) (by omega) hc p1 M0) (by omega) (Nat.le_of_ble_eq_true rfl) w_1019 w_1020 w_1021 w_113 w_1022 (by decide +kernel) rfl (snC0 hc) (shC0 hc) rfl rfl (Nat.le_of_ble_eq_true rfl) (fun r M2 h3 => ?_)
  obtain ⟨⟨x1, rfl⟩, h3⟩ := h3
  have hf := li_fr_trans hf h3 (fun i h => False.elim h)
  refine li_aload_n 0 dX0_chooseFor_6 rfl ?_
  refine li_getr (k := 1) (N := 8) (T := TX0) (C0 := RX0) dX0_chooseFor_7 (snC0 hc) (shC0 hc) rfl rfl (by decide) (by decide) li_in0 w_386 ?_
  refine li_getr (k := 4) (N := 11) (T := TX4) (C0 := RX4) dX0_chooseFor_10 (by decide) sh_13 rfl rfl (by decide) (by decide) li_in4 w_245 ?_
  refine li_iload_n 1 dX0_chooseFor_13 rfl ?_
  refine li_callN (n := 2) (As := [.ref (Z.2.2 14), .int p1]) dX0_chooseFor_14 (k_X11_at (d - 1) (by omega) (by decide) sh_14 (by decide) p1 M2) (by omega) (Nat.le_of_ble_eq_true rfl) nw_17 w_589 w_104 w_590 (by decide +kernel) rfl rfl (Nat.le_of_ble_eq_true rfl) (fun r M5 h6 => ?_)
  obtain ⟨⟨x4, rfl⟩, h6⟩ := h6
  have hf := li_fr_trans hf h6 (fun i h => False.elim h)
  refine li_callV (n := 2) (As := [.int x1, .int x4]) dX0_chooseFor_17 (k_X0_choose (d - 1) (by omega) hc x1 x4 M5) (by omega) (Nat.le_of_ble_eq_true rfl) w_1033 w_1034 w_1035 w_113 w_1036 (by decide +kernel) rfl (snC0 hc) (shC0 hc) rfl rfl (Nat.le_of_ble_eq_true rfl) (fun r M8 h9 => ?_)
  obtain ⟨rfl, h9⟩ := h9
  have hf := li_fr_trans hf h9 (fun i (h : i = c) => (show i = c by omega))
  exact li_vret dX0_chooseFor_20 rfl ⟨rfl, hf⟩
set_option maxRecDepth 100000 in
set_option maxHeartbeats 4000000 in
theorem k_X0_firstUnpayable {l : Launch} {Z : li_Z} (d : Nat) (hd : 4 ≤ d) {c : Nat} (hc : li_co c) (M0 : li_M) : li_Met l Z YX0_firstUnpayable d [.ref (Z.2.2 c)] M0 (li_SI (fun i => False) M0) := by
  refine li_enter (by decide +kernel) (Nat.le_of_ble_eq_true rfl) ?_
  show li_T l Z YX0_firstUnpayable d 0 [(0, .ref (Z.2.2 c))] [] M0 _
  have hf : li_fr (fun i => False) M0 M0 := li_fr_refl
  refine li_aload_n 0 dX0_firstUnpayable_0 rfl ?_
  refine li_callV (n := 0) (As := []) dX0_firstUnpayable_1 (k_X0_openThings (d - 1) (by omega) hc M0) (by omega) (Nat.le_of_ble_eq_true rfl) w_1023 w_1024 w_1025 w_113 w_1026 (by decide +kernel) rfl (snC0 hc) (shC0 hc) rfl rfl (Nat.le_of_ble_eq_true rfl) (fun r M2 h3 => ?_)
  obtain ⟨⟨x1, rfl⟩, h3⟩ := h3
  have hf := li_fr_trans hf h3 (fun i h => False.elim h)
  refine li_istore_n [(1, .int x1), (0, .ref (Z.2.2 c))] dX0_firstUnpayable_4 (by decide) rfl ?_
  refine li_iconst (-1) dX0_firstUnpayable_5 (by decide) ?_
  refine li_istore_n [(2, .int (-1)), (1, .int x1), (0, .ref (Z.2.2 c))] dX0_firstUnpayable_6 (by decide) rfl ?_
  refine li_iconst 0 dX0_firstUnpayable_7 (by decide) ?_
  refine li_istore_n [(3, .int 0), (2, .int (-1)), (1, .int x1), (0, .ref (Z.2.2 c))] dX0_firstUnpayable_8 (by decide) rfl ?_
  have L9 : ∀ (n : Nat) (x4 : Int32) (x5 : Int32) (M6 : li_M), (2147483647 - (x4 : Int32).toInt).toNat < n → li_fr (fun i => False) M0 M6 → li_T l Z YX0_firstUnpayable d 9 [(3, .int x4), (2, .int x5), (1, .int x1), (0, .ref (Z.2.2 c))] [] M6 (li_SI (fun i => False) M0) := by
    intro n
    induction n with
    | zero => intro x4 x5 M6 hn; exact absurd hn (Nat.not_lt_zero _)
    | succ n ih9 =>
      intro x4 x5 M6 hn hf
      refine li_iload_n 0 dX0_firstUnpayable_9 rfl ?_
      refine li_aload_n 3 dX0_firstUnpayable_10 rfl ?_
      refine li_getr (k := 0) (N := 8) (T := TX0) (C0 := RX0) dX0_firstUnpayable_11 (snC0 hc) (shC0 hc) rfl rfl (by decide) (by decide) li_in0 w_385 ?_
      refine li_geti (k := 1) (N := 9) (T := TX8) (C0 := RX8) dX0_firstUnpayable_14 (by decide) sh_5 rfl rfl (by decide) li_in8 w_184 ?_
      refine li_top (fun x7 ex7 => ?_)
      refine li_icmp_ge 109 dX0_firstUnpayable_17 (by decide) (fun c8 => ?_) (fun c8 => ?_)
      · refine li_iload_n 1 dX0_firstUnpayable_109 rfl ?_
        exact li_iret dX0_firstUnpayable_110 rfl rfl ⟨⟨_, rfl⟩, hf⟩
      · refine li_iload_n 1 dX0_firstUnpayable_20 rfl ?_
        have J54 : ∀ (x10 : Int32) (M11 : li_M), li_fr (fun i => False) M0 M11 → li_T l Z YX0_firstUnpayable d 54 [(3, .int x4), (2, .int x5), (1, .int x1), (0, .ref (Z.2.2 c))] [.int x10] M11 (li_SI (fun i => False) M0) := by
          intro x10 M11 hf
          refine li_istore [(4, .int x10), (3, .int x4), (2, .int x5), (1, .int x1), (0, .ref (Z.2.2 c))] dX0_firstUnpayable_54 (by decide) rfl ?_
          refine li_iload 0 dX0_firstUnpayable_56 rfl ?_
          have J103 : ∀ (x13 : Int32) (M14 : li_M), li_fr (fun i => False) M0 M14 → li_T l Z YX0_firstUnpayable d 103 [(4, .int x10), (3, .int x4), (2, .int x13), (1, .int x1), (0, .ref (Z.2.2 c))] [] M14 (li_SI (fun i => False) M0) := by
            intro x13 M14 hf
            obtain ⟨x15, ex15⟩ : ∃ y : Int32, y = x4 + 1 := ⟨_, rfl⟩
            refine li_iinc 1 [(3, .int x15), (4, .int x10), (2, .int x13), (1, .int x1), (0, .ref (Z.2.2 c))] x15 dX0_firstUnpayable_103 rfl (by rw [ex15]; rfl) (by decide) rfl ?_
            refine li_goto 9 dX0_firstUnpayable_106 (by decide) ?_
            refine li_pick [0, 2, 3, 4] [(3, .int x15), (2, .int x13), (1, .int x1), (0, .ref (Z.2.2 c))] rfl ?_
            exact ih9 x15 x13 M14 (by have h9 := li_up (li_gt c8); rw [← ex15] at h9; omega) hf
          refine li_if_eq 103 dX0_firstUnpayable_58 (by decide) (fun c12 => ?_) (fun c12 => ?_)
          · refine li_pick [0, 1, 2, 3, 4] [(4, .int x10), (3, .int x4), (2, .int x5), (1, .int x1), (0, .ref (Z.2.2 c))] rfl ?_
            exact J103 x5 M11 hf
          · refine li_iload_n 3 dX0_firstUnpayable_61 rfl ?_
            refine li_iload_n 1 dX0_firstUnpayable_62 rfl ?_
            refine li_callN (n := 2) (As := [.int x1, .int x4]) dX0_firstUnpayable_63 (k_X11_holds (d - 1) (by omega) x1 x4 M11) (by omega) (Nat.le_of_ble_eq_true rfl) nw_25 w_877 w_104 w_878 (by decide +kernel) rfl rfl (Nat.le_of_ble_eq_true rfl) (fun r M17 h18 => ?_)
            obtain ⟨⟨x16, rfl, bx16⟩, h18⟩ := h18
            have hf := li_fr_trans hf h18 (fun i h => False.elim h)
            refine li_if_eq 103 dX0_firstUnpayable_66 (by decide) (fun c19 => ?_) (fun c19 => ?_)
            · refine li_pick [0, 1, 2, 3, 4] [(4, .int x10), (3, .int x4), (2, .int x5), (1, .int x1), (0, .ref (Z.2.2 c))] rfl ?_
              exact J103 x5 M17 hf
            · refine li_aload_n 4 dX0_firstUnpayable_69 rfl ?_
              refine li_getr (k := 4) (N := 8) (T := TX0) (C0 := RX0) dX0_firstUnpayable_70 (snC0 hc) (shC0 hc) rfl rfl (lkC2 hc) (by decide) li_in0 w_390 ?_
              refine li_iload_n 1 dX0_firstUnpayable_73 rfl ?_
              refine li_callN (n := 2) (As := [.ref (Z.2.2 (c + 2)), .int x4]) dX0_firstUnpayable_74 (k_X11_at (d - 1) (by omega) (snC2 hc) (shC2 hc) (by decide) x4 M17) (by omega) (Nat.le_of_ble_eq_true rfl) nw_17 w_589 w_104 w_590 (by decide +kernel) rfl rfl (Nat.le_of_ble_eq_true rfl) (fun r M21 h22 => ?_)
              obtain ⟨⟨x20, rfl⟩, h22⟩ := h22
              have hf := li_fr_trans hf h22 (fun i h => False.elim h)
              refine li_aload_n 4 dX0_firstUnpayable_77 rfl ?_
              refine li_getr (k := 1) (N := 8) (T := TX0) (C0 := RX0) dX0_firstUnpayable_78 (snC0 hc) (shC0 hc) rfl rfl (by decide) (by decide) li_in0 w_386 ?_
              refine li_getr (k := 4) (N := 11) (T := TX4) (C0 := RX4) dX0_firstUnpayable_81 (by decide) sh_13 rfl rfl (by decide) (by decide) li_in4 w_245 ?_
              refine li_aload_n 4 dX0_firstUnpayable_84 rfl ?_
              refine li_getr (k := 0) (N := 8) (T := TX0) (C0 := RX0) dX0_firstUnpayable_85 (snC0 hc) (shC0 hc) rfl rfl (by decide) (by decide) li_in0 w_385 ?_
              refine li_getr (k := 4) (N := 9) (T := TX8) (C0 := RX8) dX0_firstUnpayable_88 (by decide) sh_5 rfl rfl (by decide) (by decide) li_in8 w_192 ?_
              refine li_iload_n 1 dX0_firstUnpayable_91 rfl ?_
              refine li_callN (n := 2) (As := [.ref (Z.2.2 8), .int x4]) dX0_firstUnpayable_92 (k_X11_at (d - 1) (by omega) (by decide) sh_8 (by decide) x4 M21) (by omega) (Nat.le_of_ble_eq_true rfl) nw_17 w_589 w_104 w_590 (by decide +kernel) rfl rfl (Nat.le_of_ble_eq_true rfl) (fun r M24 h25 => ?_)
              obtain ⟨⟨x23, rfl⟩, h25⟩ := h25
              have hf := li_fr_trans hf h25 (fun i h => False.elim h)
              refine li_callN (n := 2) (As := [.ref (Z.2.2 14), .int x23]) dX0_firstUnpayable_95 (k_X11_at (d - 1) (by omega) (by decide) sh_14 (by decide) x23 M24) (by omega) (Nat.le_of_ble_eq_true rfl) nw_17 w_589 w_104 w_590 (by decide +kernel) rfl rfl (Nat.le_of_ble_eq_true rfl) (fun r M27 h28 => ?_)
              obtain ⟨⟨x26, rfl⟩, h28⟩ := h28
              have hf := li_fr_trans hf h28 (fun i h => False.elim h)
              refine li_icmp_le 103 dX0_firstUnpayable_98 (by decide) (fun c29 => ?_) (fun c29 => ?_)
              · refine li_pick [0, 1, 2, 3, 4] [(4, .int x10), (3, .int x4), (2, .int x5), (1, .int x1), (0, .ref (Z.2.2 c))] rfl ?_
                exact J103 x5 M27 hf
              · refine li_iload_n 1 dX0_firstUnpayable_101 rfl ?_
                refine li_istore_n [(2, .int x4), (4, .int x10), (3, .int x4), (1, .int x1), (0, .ref (Z.2.2 c))] dX0_firstUnpayable_102 (by decide) rfl ?_
                refine li_pick [1, 2, 0, 3, 4] [(4, .int x10), (3, .int x4), (2, .int x4), (1, .int x1), (0, .ref (Z.2.2 c))] rfl ?_
                exact J103 x4 M27 hf
        refine li_if_lt 49 dX0_firstUnpayable_21 (by decide) (fun c9 => ?_) (fun c9 => ?_)
        · refine li_iconst 1 dX0_firstUnpayable_49 (by decide) ?_
          refine li_goto 54 dX0_firstUnpayable_50 (by decide) ?_
          refine li_pick [0, 1, 2, 3] [(3, .int x4), (2, .int x5), (1, .int x1), (0, .ref (Z.2.2 c))] rfl ?_
          exact J54 1 M6 hf
        · refine li_aload_n 3 dX0_firstUnpayable_24 rfl ?_
          refine li_getr (k := 0) (N := 8) (T := TX0) (C0 := RX0) dX0_firstUnpayable_25 (snC0 hc) (shC0 hc) rfl rfl (by decide) (by decide) li_in0 w_385 ?_
          refine li_getr (k := 7) (N := 9) (T := TX8) (C0 := RX8) dX0_firstUnpayable_28 (by decide) sh_5 rfl rfl (by decide) (by decide) li_in8 w_203 ?_
          refine li_iload_n 0 dX0_firstUnpayable_31 rfl ?_
          refine li_callN (n := 2) (As := [.ref (Z.2.2 11), .int x4]) dX0_firstUnpayable_32 (k_X11_at (d - 1) (by omega) (by decide) sh_11 (by decide) x4 M6) (by omega) (Nat.le_of_ble_eq_true rfl) nw_17 w_589 w_104 w_590 (by decide +kernel) rfl rfl (Nat.le_of_ble_eq_true rfl) (fun r M31 h32 => ?_)
          obtain ⟨⟨x30, rfl⟩, h32⟩ := h32
          have hf := li_fr_trans hf h32 (fun i h => False.elim h)
          refine li_aload_n 3 dX0_firstUnpayable_35 rfl ?_
          refine li_getr (k := 0) (N := 8) (T := TX0) (C0 := RX0) dX0_firstUnpayable_36 (snC0 hc) (shC0 hc) rfl rfl (by decide) (by decide) li_in0 w_385 ?_
          refine li_getr (k := 7) (N := 9) (T := TX8) (C0 := RX8) dX0_firstUnpayable_39 (by decide) sh_5 rfl rfl (by decide) (by decide) li_in8 w_203 ?_
          refine li_iload_n 1 dX0_firstUnpayable_42 rfl ?_
          refine li_callN (n := 2) (As := [.ref (Z.2.2 11), .int x5]) dX0_firstUnpayable_43 (k_X11_at (d - 1) (by omega) (by decide) sh_11 (by decide) x5 M31) (by omega) (Nat.le_of_ble_eq_true rfl) nw_17 w_589 w_104 w_590 (by decide +kernel) rfl rfl (Nat.le_of_ble_eq_true rfl) (fun r M34 h35 => ?_)
          obtain ⟨⟨x33, rfl⟩, h35⟩ := h35
          have hf := li_fr_trans hf h35 (fun i h => False.elim h)
          refine li_icmp_ge 53 dX0_firstUnpayable_46 (by decide) (fun c36 => ?_) (fun c36 => ?_)
          · refine li_iconst 0 dX0_firstUnpayable_53 (by decide) ?_
            refine li_pick [0, 1, 2, 3] [(3, .int x4), (2, .int x5), (1, .int x1), (0, .ref (Z.2.2 c))] rfl ?_
            exact J54 0 M34 hf
          · refine li_iconst 1 dX0_firstUnpayable_49 (by decide) ?_
            refine li_goto 54 dX0_firstUnpayable_50 (by decide) ?_
            refine li_pick [0, 1, 2, 3] [(3, .int x4), (2, .int x5), (1, .int x1), (0, .ref (Z.2.2 c))] rfl ?_
            exact J54 1 M34 hf
  exact L9 _ 0 (-1) M2 (Nat.lt_succ_self _) hf
end
