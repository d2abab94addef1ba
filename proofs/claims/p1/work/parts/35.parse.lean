theorem w_1424 : (Jvm.Cond.fieldLink "ClockForTalkModel" (198 : Nat) "ClockForTalkModel" "isAsked" "Z") ∈ li_ws := li_mem 1424 (by decide +kernel) (by decide +kernel)
theorem w_1425 : (Jvm.Cond.fieldLink "ClockForTalkModel" (38 : Nat) "ClockForTalkModel" "asked" "[I") ∈ li_ws := li_mem 1425 (by decide +kernel) (by decide +kernel)
