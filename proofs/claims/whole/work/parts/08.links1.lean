/-! links -/
theorem xv_t1 {i : Nat} {w : Cond} (h : tables_1_1[i]? = some w) : w ∈ lw_tbl := List.mem_append_right _ (List.mem_append_left _ (List.mem_of_getElem? h))
theorem xv_t2 {i : Nat} {w : Cond} (h : tables_1_2[i]? = some w) : w ∈ lw_tbl := List.mem_append_right _ (List.mem_append_right _ (List.mem_append_left _ (List.mem_of_getElem? h)))
theorem xv_t3 {i : Nat} {w : Cond} (h : tables_1_3[i]? = some w) : w ∈ lw_tbl := List.mem_append_right _ (List.mem_append_right _ (List.mem_append_right _ (List.mem_append_left _ (List.mem_of_getElem? h))))
theorem xv_t4 {i : Nat} {w : Cond} (h : tables_1_4[i]? = some w) : w ∈ lw_tbl := List.mem_append_right _ (List.mem_append_right _ (List.mem_append_right _ (List.mem_append_right _ (List.mem_append_left _ (List.mem_of_getElem? h)))))
theorem xv_t5 {i : Nat} {w : Cond} (h : tables_1_5[i]? = some w) : w ∈ lw_tbl := List.mem_append_right _ (List.mem_append_right _ (List.mem_append_right _ (List.mem_append_right _ (List.mem_append_right _ (List.mem_append_left _ (List.mem_of_getElem? h))))))
theorem xv_t6 {i : Nat} {w : Cond} (h : tables_1_6[i]? = some w) : w ∈ lw_tbl := List.mem_append_right _ (List.mem_append_right _ (List.mem_append_right _ (List.mem_append_right _ (List.mem_append_right _ (List.mem_append_right _ (List.mem_of_getElem? h))))))
theorem xv_p1 {i : Nat} {q : MethodName × Nat} (h : lw_privs_1[i]? = some q) : Cond.selects q.1.cls q.1 q.1 ∈ lw_tbl := List.mem_append_left _ (List.mem_map.mpr ⟨q, (List.mem_append_left _ (List.mem_of_getElem? h) : q ∈ lw_privs), rfl⟩)
theorem xv_p2 {i : Nat} {q : MethodName × Nat} (h : lw_privs_2[i]? = some q) : Cond.selects q.1.cls q.1 q.1 ∈ lw_tbl := List.mem_append_left _ (List.mem_map.mpr ⟨q, (List.mem_append_right _ (List.mem_append_left _ (List.mem_of_getElem? h)) : q ∈ lw_privs), rfl⟩)
theorem xv_p3 {i : Nat} {q : MethodName × Nat} (h : lw_privs_3[i]? = some q) : Cond.selects q.1.cls q.1 q.1 ∈ lw_tbl := List.mem_append_left _ (List.mem_map.mpr ⟨q, (List.mem_append_right _ (List.mem_append_right _ (List.mem_append_left _ (List.mem_of_getElem? h))) : q ∈ lw_privs), rfl⟩)
theorem xv_p4 {i : Nat} {q : MethodName × Nat} (h : lw_privs_4[i]? = some q) : Cond.selects q.1.cls q.1 q.1 ∈ lw_tbl := List.mem_append_left _ (List.mem_map.mpr ⟨q, (List.mem_append_right _ (List.mem_append_right _ (List.mem_append_right _ (List.mem_of_getElem? h))) : q ∈ lw_privs), rfl⟩)
theorem cb_X0_init : xv_CB mX0_init := ⟨by decide +kernel, by decide, xv_tbi (xv_t1 (i := 220) rfl) rfl, xv_tbi (xv_t1 (i := 7) rfl) rfl, by decide +kernel, by decide +kernel⟩
theorem cb_X0_loanOf : xv_CB mX0_loanOf := ⟨by decide +kernel, by decide, xv_tbi (xv_t3 (i := 222) rfl) rfl, xv_tbi (xv_t1 (i := 7) rfl) rfl, by decide +kernel, by decide +kernel⟩
theorem cb_X0_termOf : xv_CB mX0_termOf := ⟨by decide +kernel, by decide, xv_tbi (xv_t4 (i := 73) rfl) rfl, xv_tbi (xv_t1 (i := 7) rfl) rfl, by decide +kernel, by decide +kernel⟩
theorem cb_X0_lend : xv_CB mX0_lend := ⟨by decide +kernel, by decide, xv_tbi (xv_t3 (i := 186) rfl) rfl, xv_tbi (xv_t1 (i := 7) rfl) rfl, by decide +kernel, by decide +kernel⟩
theorem cb_X0_agree : xv_CB mX0_agree := ⟨by decide +kernel, by decide, xv_tbi (xv_t4 (i := 36) rfl) rfl, xv_tbi (xv_t1 (i := 7) rfl) rfl, by decide +kernel, by decide +kernel⟩
theorem cb_X0_nextMonth : xv_CB mX0_nextMonth := ⟨by decide +kernel, by decide, xv_tbi (xv_t3 (i := 156) rfl) rfl, xv_tbi (xv_t1 (i := 7) rfl) rfl, by decide +kernel, by decide +kernel⟩
theorem cb_X0_openLoans : xv_CB mX0_openLoans := ⟨by decide +kernel, by decide, xv_tbi (xv_t4 (i := 207) rfl) rfl, xv_tbi (xv_t1 (i := 7) rfl) rfl, by decide +kernel, by decide +kernel⟩
theorem cb_X0_termIn : xv_CB mX0_termIn := ⟨by decide +kernel, by decide, xv_tbi (xv_t4 (i := 117) rfl) rfl, xv_tbi (xv_t1 (i := 7) rfl) rfl, by decide +kernel, by decide +kernel⟩
theorem cb_X0_allowsNow : xv_CB mX0_allowsNow := ⟨by decide +kernel, by decide, xv_tbi (xv_t4 (i := 126) rfl) rfl, xv_tbi (xv_t1 (i := 7) rfl) rfl, by decide +kernel, by decide +kernel⟩
theorem cb_X0_monthsUntilAllowed : xv_CB mX0_monthsUntilAllowed := ⟨by decide +kernel, by decide, xv_tbi (xv_t4 (i := 193) rfl) rfl, xv_tbi (xv_t1 (i := 7) rfl) rfl, by decide +kernel, by decide +kernel⟩
theorem cb_X0_allows : xv_CB mX0_allows := ⟨by decide +kernel, by decide, xv_tbi (xv_t4 (i := 130) rfl) rfl, xv_tbi (xv_t1 (i := 7) rfl) rfl, by decide +kernel, by decide +kernel⟩
theorem cb_X1_init : xv_CB mX1_init := ⟨by decide +kernel, by decide, xv_tbi (xv_t1 (i := 145) rfl) rfl, xv_tbi (xv_t1 (i := 5) rfl) rfl, by decide +kernel, by decide +kernel⟩
theorem cb_X1_seekBest : xv_CB mX1_seekBest := ⟨by decide +kernel, by decide, xv_tbi (xv_t3 (i := 64) rfl) rfl, xv_tbi (xv_t1 (i := 5) rfl) rfl, by decide +kernel, by decide +kernel⟩
theorem cb_X1_turnedBy : xv_CB mX1_turnedBy := ⟨by decide +kernel, by decide, xv_tbi (xv_t3 (i := 85) rfl) rfl, xv_tbi (xv_t1 (i := 5) rfl) rfl, by decide +kernel, by decide +kernel⟩
theorem cb_X1_placeFrom : xv_CB mX1_placeFrom := ⟨by decide +kernel, by decide, xv_tbi (xv_t3 (i := 68) rfl) rfl, xv_tbi (xv_t1 (i := 5) rfl) rfl, by decide +kernel, by decide +kernel⟩
theorem cb_X1_turnedFor : xv_CB mX1_turnedFor := ⟨by decide +kernel, by decide, xv_tbi (xv_t3 (i := 72) rfl) rfl, xv_tbi (xv_t1 (i := 5) rfl) rfl, by decide +kernel, by decide +kernel⟩
theorem cb_X2_init : xv_CB mX2_init := ⟨by decide +kernel, by decide, xv_tbi (xv_t1 (i := 91) rfl) rfl, xv_tbi (xv_t1 (i := 4) rfl) rfl, by decide +kernel, by decide +kernel⟩
theorem cb_X2_seekBest : xv_CB mX2_seekBest := ⟨by decide +kernel, by decide, xv_tbi (xv_t2 (i := 235) rfl) rfl, xv_tbi (xv_t1 (i := 4) rfl) rfl, by decide +kernel, by decide +kernel⟩
theorem cb_X2_shortestRest : xv_CB mX2_shortestRest := ⟨by decide +kernel, by decide, xv_tbi (xv_t3 (i := 47) rfl) rfl, xv_tbi (xv_t1 (i := 4) rfl) rfl, by decide +kernel, by decide +kernel⟩
theorem cb_X2_cheapestSort : xv_CB mX2_cheapestSort := ⟨by decide +kernel, by decide, xv_tbi (xv_t2 (i := 239) rfl) rfl, xv_tbi (xv_t1 (i := 4) rfl) rfl, by decide +kernel, by decide +kernel⟩
theorem cb_X2_weighBoards : xv_CB mX2_weighBoards := ⟨by decide +kernel, by decide, xv_tbi (xv_t3 (i := 3) rfl) rfl, xv_tbi (xv_t1 (i := 4) rfl) rfl, by decide +kernel, by decide +kernel⟩
theorem cb_X2_bestNumber : xv_CB mX2_bestNumber := ⟨by decide +kernel, by decide, xv_tbi (xv_t3 (i := 7) rfl) rfl, xv_tbi (xv_t1 (i := 4) rfl) rfl, by decide +kernel, by decide +kernel⟩
theorem cb_X2_leastNumber : xv_CB mX2_leastNumber := ⟨by decide +kernel, by decide, xv_tbi (xv_t3 (i := 11) rfl) rfl, xv_tbi (xv_t1 (i := 4) rfl) rfl, by decide +kernel, by decide +kernel⟩
theorem cb_X2_oneForEach : xv_CB mX2_oneForEach := ⟨by decide +kernel, by decide, xv_tbi (xv_t3 (i := 15) rfl) rfl, xv_tbi (xv_t1 (i := 4) rfl) rfl, by decide +kernel, by decide +kernel⟩
theorem cb_X2_readDigits : xv_CB mX2_readDigits := ⟨by decide +kernel, by decide, xv_tbi (xv_t3 (i := 20) rfl) rfl, xv_tbi (xv_t1 (i := 4) rfl) rfl, by decide +kernel, by decide +kernel⟩
theorem cb_X2_describeBoards : xv_CB mX2_describeBoards := ⟨by decide +kernel, by decide, xv_tbi (xv_t3 (i := 24) rfl) rfl, xv_tbi (xv_t1 (i := 4) rfl) rfl, by decide +kernel, by decide +kernel⟩
theorem cb_X3_init : xv_CB mX3_init := ⟨by decide +kernel, by decide, xv_tbi (xv_t1 (i := 77) rfl) rfl, xv_tbi (xv_t1 (i := 3) rfl) rfl, by decide +kernel, by decide +kernel⟩
theorem cb_X3_put : xv_CB mX3_put := ⟨by decide +kernel, by decide, xv_tbi (xv_t2 (i := 192) rfl) rfl, xv_tbi (xv_t1 (i := 3) rfl) rfl, by decide +kernel, by decide +kernel⟩
theorem cb_X3_rests : xv_CB mX3_rests := ⟨by decide +kernel, by decide, xv_tbi (xv_t2 (i := 184) rfl) rfl, xv_tbi (xv_t1 (i := 3) rfl) rfl, by decide +kernel, by decide +kernel⟩
theorem cb_X3_allBelow : xv_CB mX3_allBelow := ⟨by decide +kernel, by decide, xv_tbi (xv_t2 (i := 188) rfl) rfl, xv_tbi (xv_t1 (i := 3) rfl) rfl, by decide +kernel, by decide +kernel⟩
theorem cb_X3_lineUp : xv_CB mX3_lineUp := ⟨by decide +kernel, by decide, xv_tbi (xv_t2 (i := 200) rfl) rfl, xv_tbi (xv_t1 (i := 3) rfl) rfl, by decide +kernel, by decide +kernel⟩
theorem cb_X3_firstReady : xv_CB mX3_firstReady := ⟨by decide +kernel, by decide, xv_tbi (xv_t2 (i := 204) rfl) rfl, xv_tbi (xv_t1 (i := 3) rfl) rfl, by decide +kernel, by decide +kernel⟩
theorem cb_X4_init : xv_CB mX4_init := ⟨by decide +kernel, by decide, xv_tbi (xv_t3 (i := 189) rfl) rfl, xv_tbi (xv_t1 (i := 14) rfl) rfl, by decide +kernel, by decide +kernel⟩
theorem cb_X4_isOpen : xv_CB mX4_isOpen := ⟨by decide +kernel, by decide, xv_tbi (xv_t3 (i := 160) rfl) rfl, xv_tbi (xv_t1 (i := 14) rfl) rfl, by decide +kernel, by decide +kernel⟩
theorem cb_X4_grow : xv_CB mX4_grow := ⟨by decide +kernel, by decide, xv_tbi (xv_t3 (i := 164) rfl) rfl, xv_tbi (xv_t1 (i := 14) rfl) rfl, by decide +kernel, by decide +kernel⟩
theorem cb_X4_payIn : xv_CB mX4_payIn := ⟨by decide +kernel, by decide, xv_tbi (xv_t3 (i := 227) rfl) rfl, xv_tbi (xv_t1 (i := 14) rfl) rfl, by decide +kernel, by decide +kernel⟩
theorem cb_X4_close : xv_CB mX4_close := ⟨by decide +kernel, by decide, xv_tbi (xv_t3 (i := 235) rfl) rfl, xv_tbi (xv_t1 (i := 14) rfl) rfl, by decide +kernel, by decide +kernel⟩
theorem cb_X4_owedIn : xv_CB mX4_owedIn := ⟨by decide +kernel, by decide, xv_tbi (xv_t4 (i := 9) rfl) rfl, xv_tbi (xv_t1 (i := 14) rfl) rfl, by decide +kernel, by decide +kernel⟩
theorem cb_X4_dueIn : xv_CB mX4_dueIn := ⟨by decide +kernel, by decide, xv_tbi (xv_t4 (i := 16) rfl) rfl, xv_tbi (xv_t1 (i := 14) rfl) rfl, by decide +kernel, by decide +kernel⟩
theorem cb_X4_howIn : xv_CB mX4_howIn := ⟨by decide +kernel, by decide, xv_tbi (xv_t4 (i := 20) rfl) rfl, xv_tbi (xv_t1 (i := 14) rfl) rfl, by decide +kernel, by decide +kernel⟩
theorem cb_X4_writeDown : xv_CB mX4_writeDown := ⟨by decide +kernel, by decide, xv_tbi (xv_t3 (i := 177) rfl) rfl, xv_tbi (xv_t1 (i := 14) rfl) rfl, by decide +kernel, by decide +kernel⟩
theorem cb_X5_init : xv_CB mX5_init := ⟨by decide +kernel, by decide, xv_tbi (xv_t1 (i := 28) rfl) rfl, xv_tbi (xv_t1 (i := 2) rfl) rfl, by decide +kernel, by decide +kernel⟩
theorem cb_X5_has : xv_CB mX5_has := ⟨by decide +kernel, by decide, xv_tbi (xv_t2 (i := 105) rfl) rfl, xv_tbi (xv_t1 (i := 2) rfl) rfl, by decide +kernel, by decide +kernel⟩
theorem cb_X5_addPiece : xv_CB mX5_addPiece := ⟨by decide +kernel, by decide, xv_tbi (xv_t2 (i := 97) rfl) rfl, xv_tbi (xv_t1 (i := 2) rfl) rfl, by decide +kernel, by decide +kernel⟩
theorem cb_X5_addMeeting : xv_CB mX5_addMeeting := ⟨by decide +kernel, by decide, xv_tbi (xv_t2 (i := 115) rfl) rfl, xv_tbi (xv_t1 (i := 2) rfl) rfl, by decide +kernel, by decide +kernel⟩
theorem cb_X5_holds : xv_CB mX5_holds := ⟨by decide +kernel, by decide, xv_tbi (xv_t2 (i := 123) rfl) rfl, xv_tbi (xv_t1 (i := 2) rfl) rfl, by decide +kernel, by decide +kernel⟩
theorem cb_X5_canTurnRound : xv_CB mX5_canTurnRound := ⟨by decide +kernel, by decide, xv_tbi (xv_t2 (i := 136) rfl) rfl, xv_tbi (xv_t1 (i := 2) rfl) rfl, by decide +kernel, by decide +kernel⟩
theorem cb_X5_turnRound : xv_CB mX5_turnRound := ⟨by decide +kernel, by decide, xv_tbi (xv_t2 (i := 140) rfl) rfl, xv_tbi (xv_t1 (i := 2) rfl) rfl, by decide +kernel, by decide +kernel⟩
theorem cb_X5_hindrance : xv_CB mX5_hindrance := ⟨by decide +kernel, by decide, xv_tbi (xv_t2 (i := 151) rfl) rfl, xv_tbi (xv_t1 (i := 2) rfl) rfl, by decide +kernel, by decide +kernel⟩
theorem cb_X5_pullApart : xv_CB mX5_pullApart := ⟨by decide +kernel, by decide, xv_tbi (xv_t2 (i := 172) rfl) rfl, xv_tbi (xv_t1 (i := 2) rfl) rfl, by decide +kernel, by decide +kernel⟩
theorem cb_X5_endOf : xv_CB mX5_endOf := ⟨by decide +kernel, by decide, xv_tbi (xv_t2 (i := 127) rfl) rfl, xv_tbi (xv_t1 (i := 2) rfl) rfl, by decide +kernel, by decide +kernel⟩
theorem cb_X5_isAcross : xv_CB mX5_isAcross := ⟨by decide +kernel, by decide, xv_tbi (xv_t2 (i := 155) rfl) rfl, xv_tbi (xv_t1 (i := 2) rfl) rfl, by decide +kernel, by decide +kernel⟩
theorem cb_X5_wouldHold : xv_CB mX5_wouldHold := ⟨by decide +kernel, by decide, xv_tbi (xv_t2 (i := 160) rfl) rfl, xv_tbi (xv_t1 (i := 2) rfl) rfl, by decide +kernel, by decide +kernel⟩
theorem cb_X5_endAfter : xv_CB mX5_endAfter := ⟨by decide +kernel, by decide, xv_tbi (xv_t2 (i := 164) rfl) rfl, xv_tbi (xv_t1 (i := 2) rfl) rfl, by decide +kernel, by decide +kernel⟩
theorem cb_X5_wouldBeTooMuch : xv_CB mX5_wouldBeTooMuch := ⟨by decide +kernel, by decide, xv_tbi (xv_t2 (i := 168) rfl) rfl, xv_tbi (xv_t1 (i := 2) rfl) rfl, by decide +kernel, by decide +kernel⟩
theorem cb_X6_init : xv_CB mX6_init := ⟨by decide +kernel, by decide, xv_tbi (xv_t1 (i := 181) rfl) rfl, xv_tbi (xv_t1 (i := 6) rfl) rfl, by decide +kernel, by decide +kernel⟩
theorem cb_X6_addReport : xv_CB mX6_addReport := ⟨by decide +kernel, by decide, xv_tbi (xv_t3 (i := 93) rfl) rfl, xv_tbi (xv_t1 (i := 6) rfl) rfl, by decide +kernel, by decide +kernel⟩
theorem cb_X6_allWith : xv_CB mX6_allWith := ⟨by decide +kernel, by decide, xv_tbi (xv_t3 (i := 115) rfl) rfl, xv_tbi (xv_t1 (i := 6) rfl) rfl, by decide +kernel, by decide +kernel⟩
theorem cb_X6_badWith : xv_CB mX6_badWith := ⟨by decide +kernel, by decide, xv_tbi (xv_t3 (i := 105) rfl) rfl, xv_tbi (xv_t1 (i := 6) rfl) rfl, by decide +kernel, by decide +kernel⟩
theorem cb_X6_suspects : xv_CB mX6_suspects := ⟨by decide +kernel, by decide, xv_tbi (xv_t3 (i := 123) rfl) rfl, xv_tbi (xv_t1 (i := 6) rfl) rfl, by decide +kernel, by decide +kernel⟩
theorem cb_X6_seekIfStale : xv_CB mX6_seekIfStale := ⟨by decide +kernel, by decide, xv_tbi (xv_t3 (i := 133) rfl) rfl, xv_tbi (xv_t1 (i := 6) rfl) rfl, by decide +kernel, by decide +kernel⟩
theorem cb_X6_seekFewest : xv_CB mX6_seekFewest := ⟨by decide +kernel, by decide, xv_tbi (xv_t3 (i := 137) rfl) rfl, xv_tbi (xv_t1 (i := 6) rfl) rfl, by decide +kernel, by decide +kernel⟩
theorem cb_X6_isCoveredFrom : xv_CB mX6_isCoveredFrom := ⟨by decide +kernel, by decide, xv_tbi (xv_t3 (i := 143) rfl) rfl, xv_tbi (xv_t1 (i := 6) rfl) rfl, by decide +kernel, by decide +kernel⟩
theorem cb_X7_init : xv_CB mX7_init := ⟨by decide +kernel, by decide, xv_tbi (xv_t1 (i := 230) rfl) rfl, xv_tbi (xv_t1 (i := 8) rfl) rfl, by decide +kernel, by decide +kernel⟩
theorem cb_X7_copyFrom : xv_CB mX7_copyFrom := ⟨by decide +kernel, by decide, xv_tbi (xv_t4 (i := 197) rfl) rfl, xv_tbi (xv_t1 (i := 8) rfl) rfl, by decide +kernel, by decide +kernel⟩
theorem cb_X7_growByMonth : xv_CB mX7_growByMonth := ⟨by decide +kernel, by decide, xv_tbi (xv_t3 (i := 168) rfl) rfl, xv_tbi (xv_t1 (i := 8) rfl) rfl, by decide +kernel, by decide +kernel⟩
theorem cb_X7_partsDue : xv_CB mX7_partsDue := ⟨by decide +kernel, by decide, xv_tbi (xv_t4 (i := 28) rfl) rfl, xv_tbi (xv_t1 (i := 8) rfl) rfl, by decide +kernel, by decide +kernel⟩
theorem cb_X7_valueOf : xv_CB mX7_valueOf := ⟨by decide +kernel, by decide, xv_tbi (xv_t4 (i := 173) rfl) rfl, xv_tbi (xv_t1 (i := 8) rfl) rfl, by decide +kernel, by decide +kernel⟩
theorem cb_X8_init : xv_CB mX8_init := ⟨by decide +kernel, by decide, xv_tbi (xv_t4 (i := 40) rfl) rfl, xv_tbi (xv_t1 (i := 15) rfl) rfl, by decide +kernel, by decide +kernel⟩
theorem cb_X8_takeBytes : xv_CB mX8_takeBytes := ⟨by decide +kernel, by decide, xv_tbi (xv_t4 (i := 77) rfl) rfl, xv_tbi (xv_t1 (i := 15) rfl) rfl, by decide +kernel, by decide +kernel⟩
theorem cb_X8_saysOf : xv_CB mX8_saysOf := ⟨by decide +kernel, by decide, xv_tbi (xv_t4 (i := 136) rfl) rfl, xv_tbi (xv_t1 (i := 15) rfl) rfl, by decide +kernel, by decide +kernel⟩
theorem cb_X8_findWrong : xv_CB mX8_findWrong := ⟨by decide +kernel, by decide, xv_tbi (xv_t4 (i := 82) rfl) rfl, xv_tbi (xv_t1 (i := 15) rfl) rfl, by decide +kernel, by decide +kernel⟩
theorem cb_X8_wantsAfter : xv_CB mX8_wantsAfter := ⟨by decide +kernel, by decide, xv_tbi (xv_t4 (i := 86) rfl) rfl, xv_tbi (xv_t1 (i := 15) rfl) rfl, by decide +kernel, by decide +kernel⟩
theorem cb_X8_afterStart : xv_CB mX8_afterStart := ⟨by decide +kernel, by decide, xv_tbi (xv_t4 (i := 90) rfl) rfl, xv_tbi (xv_t1 (i := 15) rfl) rfl, by decide +kernel, by decide +kernel⟩
theorem cb_X8_afterDigit : xv_CB mX8_afterDigit := ⟨by decide +kernel, by decide, xv_tbi (xv_t4 (i := 100) rfl) rfl, xv_tbi (xv_t1 (i := 15) rfl) rfl, by decide +kernel, by decide +kernel⟩
theorem cb_X8_afterOne : xv_CB mX8_afterOne := ⟨by decide +kernel, by decide, xv_tbi (xv_t4 (i := 104) rfl) rfl, xv_tbi (xv_t1 (i := 15) rfl) rfl, by decide +kernel, by decide +kernel⟩
theorem cb_X8_compares : xv_CB mX8_compares := ⟨by decide +kernel, by decide, xv_tbi (xv_t4 (i := 169) rfl) rfl, xv_tbi (xv_t1 (i := 15) rfl) rfl, by decide +kernel, by decide +kernel⟩
theorem cb_X8_isEndOfOne : xv_CB mX8_isEndOfOne := ⟨by decide +kernel, by decide, xv_tbi (xv_t4 (i := 177) rfl) rfl, xv_tbi (xv_t1 (i := 15) rfl) rfl, by decide +kernel, by decide +kernel⟩
theorem cb_X8_isDigit : xv_CB mX8_isDigit := ⟨by decide +kernel, by decide, xv_tbi (xv_t4 (i := 96) rfl) rfl, xv_tbi (xv_t1 (i := 15) rfl) rfl, by decide +kernel, by decide +kernel⟩
theorem cb_X8_isLetter : xv_CB mX8_isLetter := ⟨by decide +kernel, by decide, xv_tbi (xv_t4 (i := 93) rfl) rfl, xv_tbi (xv_t1 (i := 15) rfl) rfl, by decide +kernel, by decide +kernel⟩
theorem cb_X9_init : xv_CB mX9_init := ⟨by decide +kernel, by decide, xv_tbi (xv_t2 (i := 18) rfl) rfl, xv_tbi (xv_t1 (i := 9) rfl) rfl, by decide +kernel, by decide +kernel⟩
theorem cb_X9_begin : xv_CB mX9_begin := ⟨by decide +kernel, by decide, xv_tbi (xv_t4 (i := 140) rfl) rfl, xv_tbi (xv_t1 (i := 9) rfl) rfl, by decide +kernel, by decide +kernel⟩
theorem cb_X9_negate : xv_CB mX9_negate := ⟨by decide +kernel, by decide, xv_tbi (xv_t4 (i := 144) rfl) rfl, xv_tbi (xv_t1 (i := 9) rfl) rfl, by decide +kernel, by decide +kernel⟩
theorem cb_X9_beginAll : xv_CB mX9_beginAll := ⟨by decide +kernel, by decide, xv_tbi (xv_t4 (i := 148) rfl) rfl, xv_tbi (xv_t1 (i := 9) rfl) rfl, by decide +kernel, by decide +kernel⟩
theorem cb_X9_enter : xv_CB mX9_enter := ⟨by decide +kernel, by decide, xv_tbi (xv_t4 (i := 152) rfl) rfl, xv_tbi (xv_t1 (i := 9) rfl) rfl, by decide +kernel, by decide +kernel⟩
theorem cb_X9_leave : xv_CB mX9_leave := ⟨by decide +kernel, by decide, xv_tbi (xv_t4 (i := 157) rfl) rfl, xv_tbi (xv_t1 (i := 9) rfl) rfl, by decide +kernel, by decide +kernel⟩
theorem cb_X9_take : xv_CB mX9_take := ⟨by decide +kernel, by decide, xv_tbi (xv_t4 (i := 165) rfl) rfl, xv_tbi (xv_t1 (i := 9) rfl) rfl, by decide +kernel, by decide +kernel⟩
theorem cb_X9_isTrue : xv_CB mX9_isTrue := ⟨by decide +kernel, by decide, xv_tbi (xv_t4 (i := 161) rfl) rfl, xv_tbi (xv_t1 (i := 9) rfl) rfl, by decide +kernel, by decide +kernel⟩
theorem cb_X10_init : xv_CB mX10_init := ⟨by decide +kernel, by decide, xv_tbi (xv_t1 (i := 20) rfl) rfl, xv_tbi (xv_t1 (i := 1) rfl) rfl, by decide +kernel, by decide +kernel⟩
theorem cb_X10_width : xv_CB mX10_width := ⟨by decide +kernel, by decide, xv_tbi (xv_t2 (i := 80) rfl) rfl, xv_tbi (xv_t1 (i := 1) rfl) rfl, by decide +kernel, by decide +kernel⟩
theorem cb_X10_piece : xv_CB mX10_piece := ⟨by decide +kernel, by decide, xv_tbi (xv_t2 (i := 88) rfl) rfl, xv_tbi (xv_t1 (i := 1) rfl) rfl, by decide +kernel, by decide +kernel⟩
theorem cb_X10_about : xv_CB mX10_about := ⟨by decide +kernel, by decide, xv_tbi (xv_t2 (i := 101) rfl) rfl, xv_tbi (xv_t1 (i := 1) rfl) rfl, by decide +kernel, by decide +kernel⟩
theorem cb_X10_meet : xv_CB mX10_meet := ⟨by decide +kernel, by decide, xv_tbi (xv_t2 (i := 110) rfl) rfl, xv_tbi (xv_t1 (i := 1) rfl) rfl, by decide +kernel, by decide +kernel⟩
theorem cb_X10_apart : xv_CB mX10_apart := ⟨by decide +kernel, by decide, xv_tbi (xv_t2 (i := 119) rfl) rfl, xv_tbi (xv_t1 (i := 1) rfl) rfl, by decide +kernel, by decide +kernel⟩
theorem cb_X10_mirror : xv_CB mX10_mirror := ⟨by decide +kernel, by decide, xv_tbi (xv_t2 (i := 132) rfl) rfl, xv_tbi (xv_t1 (i := 1) rfl) rfl, by decide +kernel, by decide +kernel⟩
theorem cb_X10_stretch : xv_CB mX10_stretch := ⟨by decide +kernel, by decide, xv_tbi (xv_t2 (i := 144) rfl) rfl, xv_tbi (xv_t1 (i := 1) rfl) rfl, by decide +kernel, by decide +kernel⟩
theorem cb_X10_why : xv_CB mX10_why := ⟨by decide +kernel, by decide, xv_tbi (xv_t2 (i := 176) rfl) rfl, xv_tbi (xv_t1 (i := 1) rfl) rfl, by decide +kernel, by decide +kernel⟩
theorem cb_X10_lean : xv_CB mX10_lean := ⟨by decide +kernel, by decide, xv_tbi (xv_t2 (i := 180) rfl) rfl, xv_tbi (xv_t1 (i := 1) rfl) rfl, by decide +kernel, by decide +kernel⟩
theorem cb_X10_order : xv_CB mX10_order := ⟨by decide +kernel, by decide, xv_tbi (xv_t2 (i := 196) rfl) rfl, xv_tbi (xv_t1 (i := 1) rfl) rfl, by decide +kernel, by decide +kernel⟩
theorem cb_X10_below : xv_CB mX10_below := ⟨by decide +kernel, by decide, xv_tbi (xv_t2 (i := 208) rfl) rfl, xv_tbi (xv_t1 (i := 1) rfl) rfl, by decide +kernel, by decide +kernel⟩
theorem cb_X10_sort : xv_CB mX10_sort := ⟨by decide +kernel, by decide, xv_tbi (xv_t2 (i := 219) rfl) rfl, xv_tbi (xv_t1 (i := 1) rfl) rfl, by decide +kernel, by decide +kernel⟩
theorem cb_X10_saw : xv_CB mX10_saw := ⟨by decide +kernel, by decide, xv_tbi (xv_t2 (i := 223) rfl) rfl, xv_tbi (xv_t1 (i := 1) rfl) rfl, by decide +kernel, by decide +kernel⟩
theorem cb_X10_price : xv_CB mX10_price := ⟨by decide +kernel, by decide, xv_tbi (xv_t2 (i := 227) rfl) rfl, xv_tbi (xv_t1 (i := 1) rfl) rfl, by decide +kernel, by decide +kernel⟩
theorem cb_X10_boards : xv_CB mX10_boards := ⟨by decide +kernel, by decide, xv_tbi (xv_t3 (i := 31) rfl) rfl, xv_tbi (xv_t1 (i := 1) rfl) rfl, by decide +kernel, by decide +kernel⟩
theorem cb_X10_board : xv_CB mX10_board := ⟨by decide +kernel, by decide, xv_tbi (xv_t3 (i := 35) rfl) rfl, xv_tbi (xv_t1 (i := 1) rfl) rfl, by decide +kernel, by decide +kernel⟩
theorem cb_X10_ofBoard : xv_CB mX10_ofBoard := ⟨by decide +kernel, by decide, xv_tbi (xv_t3 (i := 39) rfl) rfl, xv_tbi (xv_t1 (i := 1) rfl) rfl, by decide +kernel, by decide +kernel⟩
theorem cb_X10_other : xv_CB mX10_other := ⟨by decide +kernel, by decide, xv_tbi (xv_t3 (i := 43) rfl) rfl, xv_tbi (xv_t1 (i := 1) rfl) rfl, by decide +kernel, by decide +kernel⟩
theorem cb_X10_car : xv_CB mX10_car := ⟨by decide +kernel, by decide, xv_tbi (xv_t3 (i := 52) rfl) rfl, xv_tbi (xv_t1 (i := 1) rfl) rfl, by decide +kernel, by decide +kernel⟩
theorem cb_X10_packing : xv_CB mX10_packing := ⟨by decide +kernel, by decide, xv_tbi (xv_t3 (i := 56) rfl) rfl, xv_tbi (xv_t1 (i := 1) rfl) rfl, by decide +kernel, by decide +kernel⟩
theorem cb_X10_carOf : xv_CB mX10_carOf := ⟨by decide +kernel, by decide, xv_tbi (xv_t3 (i := 77) rfl) rfl, xv_tbi (xv_t1 (i := 1) rfl) rfl, by decide +kernel, by decide +kernel⟩
theorem cb_X10_turned : xv_CB mX10_turned := ⟨by decide +kernel, by decide, xv_tbi (xv_t3 (i := 81) rfl) rfl, xv_tbi (xv_t1 (i := 1) rfl) rfl, by decide +kernel, by decide +kernel⟩
theorem cb_X10_report : xv_CB mX10_report := ⟨by decide +kernel, by decide, xv_tbi (xv_t3 (i := 89) rfl) rfl, xv_tbi (xv_t1 (i := 1) rfl) rfl, by decide +kernel, by decide +kernel⟩
theorem cb_X10_sure : xv_CB mX10_sure := ⟨by decide +kernel, by decide, xv_tbi (xv_t3 (i := 97) rfl) rfl, xv_tbi (xv_t1 (i := 1) rfl) rfl, by decide +kernel, by decide +kernel⟩
theorem cb_X10_explains : xv_CB mX10_explains := ⟨by decide +kernel, by decide, xv_tbi (xv_t3 (i := 101) rfl) rfl, xv_tbi (xv_t1 (i := 1) rfl) rfl, by decide +kernel, by decide +kernel⟩
theorem cb_X10_likely : xv_CB mX10_likely := ⟨by decide +kernel, by decide, xv_tbi (xv_t3 (i := 119) rfl) rfl, xv_tbi (xv_t1 (i := 1) rfl) rfl, by decide +kernel, by decide +kernel⟩
theorem cb_X10_causes : xv_CB mX10_causes := ⟨by decide +kernel, by decide, xv_tbi (xv_t3 (i := 129) rfl) rfl, xv_tbi (xv_t1 (i := 1) rfl) rfl, by decide +kernel, by decide +kernel⟩
theorem cb_X10_cause : xv_CB mX10_cause := ⟨by decide +kernel, by decide, xv_tbi (xv_t3 (i := 148) rfl) rfl, xv_tbi (xv_t1 (i := 1) rfl) rfl, by decide +kernel, by decide +kernel⟩
theorem cb_X10_pass : xv_CB mX10_pass := ⟨by decide +kernel, by decide, xv_tbi (xv_t3 (i := 152) rfl) rfl, xv_tbi (xv_t1 (i := 1) rfl) rfl, by decide +kernel, by decide +kernel⟩
theorem cb_X10_loan : xv_CB mX10_loan := ⟨by decide +kernel, by decide, xv_tbi (xv_t3 (i := 181) rfl) rfl, xv_tbi (xv_t1 (i := 1) rfl) rfl, by decide +kernel, by decide +kernel⟩
theorem cb_X10_pay : xv_CB mX10_pay := ⟨by decide +kernel, by decide, xv_tbi (xv_t3 (i := 218) rfl) rfl, xv_tbi (xv_t1 (i := 1) rfl) rfl, by decide +kernel, by decide +kernel⟩
theorem cb_X10_work : xv_CB mX10_work := ⟨by decide +kernel, by decide, xv_tbi (xv_t3 (i := 239) rfl) rfl, xv_tbi (xv_t1 (i := 1) rfl) rfl, by decide +kernel, by decide +kernel⟩
theorem cb_X10_as : xv_CB mX10_as := ⟨by decide +kernel, by decide, xv_tbi (xv_t4 (i := 3) rfl) rfl, xv_tbi (xv_t1 (i := 1) rfl) rfl, by decide +kernel, by decide +kernel⟩
theorem cb_X10_arrears : xv_CB mX10_arrears := ⟨by decide +kernel, by decide, xv_tbi (xv_t4 (i := 24) rfl) rfl, xv_tbi (xv_t1 (i := 1) rfl) rfl, by decide +kernel, by decide +kernel⟩
theorem cb_X10_term : xv_CB mX10_term := ⟨by decide +kernel, by decide, xv_tbi (xv_t4 (i := 32) rfl) rfl, xv_tbi (xv_t1 (i := 1) rfl) rfl, by decide +kernel, by decide +kernel⟩
theorem cb_X10_feed : xv_CB mX10_feed := ⟨by decide +kernel, by decide, xv_tbi (xv_t4 (i := 69) rfl) rfl, xv_tbi (xv_t1 (i := 1) rfl) rfl, by decide +kernel, by decide +kernel⟩
theorem cb_X10_fault : xv_CB mX10_fault := ⟨by decide +kernel, by decide, xv_tbi (xv_t4 (i := 109) rfl) rfl, xv_tbi (xv_t1 (i := 1) rfl) rfl, by decide +kernel, by decide +kernel⟩
theorem cb_X10_force : xv_CB mX10_force := ⟨by decide +kernel, by decide, xv_tbi (xv_t4 (i := 113) rfl) rfl, xv_tbi (xv_t1 (i := 1) rfl) rfl, by decide +kernel, by decide +kernel⟩
theorem cb_X10_may : xv_CB mX10_may := ⟨by decide +kernel, by decide, xv_tbi (xv_t4 (i := 122) rfl) rfl, xv_tbi (xv_t1 (i := 1) rfl) rfl, by decide +kernel, by decide +kernel⟩
theorem cb_X10_takeBack : xv_CB mX10_takeBack := ⟨by decide +kernel, by decide, xv_tbi (xv_t4 (i := 183) rfl) rfl, xv_tbi (xv_t1 (i := 1) rfl) rfl, by decide +kernel, by decide +kernel⟩
theorem cb_X10_soon : xv_CB mX10_soon := ⟨by decide +kernel, by decide, xv_tbi (xv_t4 (i := 189) rfl) rfl, xv_tbi (xv_t1 (i := 1) rfl) rfl, by decide +kernel, by decide +kernel⟩
theorem cb_X10_count : xv_CB mX10_count := ⟨by decide +kernel, by decide, xv_tbi (xv_t4 (i := 203) rfl) rfl, xv_tbi (xv_t1 (i := 1) rfl) rfl, by decide +kernel, by decide +kernel⟩
theorem cb_X10_isOutside : xv_CB mX10_isOutside := ⟨by decide +kernel, by decide, xv_tbi (xv_t2 (i := 83) rfl) rfl, xv_tbi (xv_t1 (i := 1) rfl) rfl, by decide +kernel, by decide +kernel⟩
theorem cb_X10_isNoStretch : xv_CB mX10_isNoStretch := ⟨by decide +kernel, by decide, xv_tbi (xv_t2 (i := 147) rfl) rfl, xv_tbi (xv_t1 (i := 1) rfl) rfl, by decide +kernel, by decide +kernel⟩
theorem cb_X10_forgetLengths : xv_CB mX10_forgetLengths := ⟨by decide +kernel, by decide, xv_tbi (xv_t2 (i := 93) rfl) rfl, xv_tbi (xv_t1 (i := 1) rfl) rfl, by decide +kernel, by decide +kernel⟩
theorem cb_X10_isCut : xv_CB mX10_isCut := ⟨by decide +kernel, by decide, xv_tbi (xv_t2 (i := 231) rfl) rfl, xv_tbi (xv_t1 (i := 1) rfl) rfl, by decide +kernel, by decide +kernel⟩
theorem cb_X10_packIfStale : xv_CB mX10_packIfStale := ⟨by decide +kernel, by decide, xv_tbi (xv_t3 (i := 60) rfl) rfl, xv_tbi (xv_t1 (i := 1) rfl) rfl, by decide +kernel, by decide +kernel⟩
theorem cb_X11_init : xv_CB mX11_init := ⟨by decide +kernel, by decide, xv_tbi (xv_t4 (i := 212) rfl) rfl, xv_tbi (xv_t1 (i := 10) rfl) rfl, by decide +kernel, by decide +kernel⟩
theorem cb_X11_in : xv_CB mX11_in := ⟨by decide +kernel, by decide, xv_tbi (xv_t5 (i := 129) rfl) rfl, xv_tbi (xv_t1 (i := 10) rfl) rfl, by decide +kernel, by decide +kernel⟩
theorem cb_X11_width : xv_CB mX11_width := ⟨by decide +kernel, by decide, xv_tbi (xv_t5 (i := 125) rfl) rfl, xv_tbi (xv_t1 (i := 10) rfl) rfl, by decide +kernel, by decide +kernel⟩
theorem cb_X11_piece : xv_CB mX11_piece := ⟨by decide +kernel, by decide, xv_tbi (xv_t5 (i := 134) rfl) rfl, xv_tbi (xv_t1 (i := 10) rfl) rfl, by decide +kernel, by decide +kernel⟩
theorem cb_X11_isPiece : xv_CB mX11_isPiece := ⟨by decide +kernel, by decide, xv_tbi (xv_t5 (i := 145) rfl) rfl, xv_tbi (xv_t1 (i := 10) rfl) rfl, by decide +kernel, by decide +kernel⟩
theorem cb_X11_about : xv_CB mX11_about := ⟨by decide +kernel, by decide, xv_tbi (xv_t5 (i := 141) rfl) rfl, xv_tbi (xv_t1 (i := 10) rfl) rfl, by decide +kernel, by decide +kernel⟩
theorem cb_X11_meet : xv_CB mX11_meet := ⟨by decide +kernel, by decide, xv_tbi (xv_t5 (i := 150) rfl) rfl, xv_tbi (xv_t1 (i := 10) rfl) rfl, by decide +kernel, by decide +kernel⟩
theorem cb_X11_endOf : xv_CB mX11_endOf := ⟨by decide +kernel, by decide, xv_tbi (xv_t5 (i := 159) rfl) rfl, xv_tbi (xv_t1 (i := 10) rfl) rfl, by decide +kernel, by decide +kernel⟩
theorem cb_X11_apart : xv_CB mX11_apart := ⟨by decide +kernel, by decide, xv_tbi (xv_t5 (i := 155) rfl) rfl, xv_tbi (xv_t1 (i := 10) rfl) rfl, by decide +kernel, by decide +kernel⟩
theorem cb_X11_mirror : xv_CB mX11_mirror := ⟨by decide +kernel, by decide, xv_tbi (xv_t5 (i := 164) rfl) rfl, xv_tbi (xv_t1 (i := 10) rfl) rfl, by decide +kernel, by decide +kernel⟩
theorem cb_X11_isAcross : xv_CB mX11_isAcross := ⟨by decide +kernel, by decide, xv_tbi (xv_t5 (i := 180) rfl) rfl, xv_tbi (xv_t1 (i := 10) rfl) rfl, by decide +kernel, by decide +kernel⟩
theorem cb_X11_then : xv_CB mX11_then := ⟨by decide +kernel, by decide, xv_tbi (xv_t5 (i := 184) rfl) rfl, xv_tbi (xv_t1 (i := 10) rfl) rfl, by decide +kernel, by decide +kernel⟩
theorem cb_X11_whyNot : xv_CB mX11_whyNot := ⟨by decide +kernel, by decide, xv_tbi (xv_t5 (i := 176) rfl) rfl, xv_tbi (xv_t1 (i := 10) rfl) rfl, by decide +kernel, by decide +kernel⟩
theorem cb_X11_mayStretch : xv_CB mX11_mayStretch := ⟨by decide +kernel, by decide, xv_tbi (xv_t5 (i := 171) rfl) rfl, xv_tbi (xv_t1 (i := 10) rfl) rfl, by decide +kernel, by decide +kernel⟩
theorem cb_X11_why : xv_CB mX11_why := ⟨by decide +kernel, by decide, xv_tbi (xv_t5 (i := 168) rfl) rfl, xv_tbi (xv_t1 (i := 10) rfl) rfl, by decide +kernel, by decide +kernel⟩
theorem cb_X11_stretch : xv_CB mX11_stretch := ⟨by decide +kernel, by decide, xv_tbi (xv_t5 (i := 188) rfl) rfl, xv_tbi (xv_t1 (i := 10) rfl) rfl, by decide +kernel, by decide +kernel⟩
theorem cb_X11_under : xv_CB mX11_under := ⟨by decide +kernel, by decide, xv_tbi (xv_t5 (i := 196) rfl) rfl, xv_tbi (xv_t1 (i := 10) rfl) rfl, by decide +kernel, by decide +kernel⟩
theorem cb_X11_lean : xv_CB mX11_lean := ⟨by decide +kernel, by decide, xv_tbi (xv_t5 (i := 192) rfl) rfl, xv_tbi (xv_t1 (i := 10) rfl) rfl, by decide +kernel, by decide +kernel⟩
theorem cb_X11_layOrder : xv_CB mX11_layOrder := ⟨by decide +kernel, by decide, xv_tbi (xv_t5 (i := 204) rfl) rfl, xv_tbi (xv_t1 (i := 10) rfl) rfl, by decide +kernel, by decide +kernel⟩
theorem cb_X11_order : xv_CB mX11_order := ⟨by decide +kernel, by decide, xv_tbi (xv_t5 (i := 200) rfl) rfl, xv_tbi (xv_t1 (i := 10) rfl) rfl, by decide +kernel, by decide +kernel⟩
theorem cb_X11_ones : xv_CB mX11_ones := ⟨by decide +kernel, by decide, xv_tbi (xv_t5 (i := 211) rfl) rfl, xv_tbi (xv_t1 (i := 10) rfl) rfl, by decide +kernel, by decide +kernel⟩
theorem cb_X11_below : xv_CB mX11_below := ⟨by decide +kernel, by decide, xv_tbi (xv_t5 (i := 208) rfl) rfl, xv_tbi (xv_t1 (i := 10) rfl) rfl, by decide +kernel, by decide +kernel⟩
theorem cb_X11_sort : xv_CB mX11_sort := ⟨by decide +kernel, by decide, xv_tbi (xv_t5 (i := 215) rfl) rfl, xv_tbi (xv_t1 (i := 10) rfl) rfl, by decide +kernel, by decide +kernel⟩
theorem cb_X11_saw : xv_CB mX11_saw := ⟨by decide +kernel, by decide, xv_tbi (xv_t5 (i := 221) rfl) rfl, xv_tbi (xv_t1 (i := 10) rfl) rfl, by decide +kernel, by decide +kernel⟩
theorem cb_X11_needOf : xv_CB mX11_needOf := ⟨by decide +kernel, by decide, xv_tbi (xv_t5 (i := 237) rfl) rfl, xv_tbi (xv_t1 (i := 10) rfl) rfl, by decide +kernel, by decide +kernel⟩
theorem cb_X11_sortFor : xv_CB mX11_sortFor := ⟨by decide +kernel, by decide, xv_tbi (xv_t5 (i := 233) rfl) rfl, xv_tbi (xv_t1 (i := 10) rfl) rfl, by decide +kernel, by decide +kernel⟩
theorem cb_X11_layCosts : xv_CB mX11_layCosts := ⟨by decide +kernel, by decide, xv_tbi (xv_t5 (i := 229) rfl) rfl, xv_tbi (xv_t1 (i := 10) rfl) rfl, by decide +kernel, by decide +kernel⟩
theorem cb_X11_completion : xv_CB mX11_completion := ⟨by decide +kernel, by decide, xv_tbi (xv_t6 (i := 14) rfl) rfl, xv_tbi (xv_t1 (i := 10) rfl) rfl, by decide +kernel, by decide +kernel⟩
theorem cb_X11_layCut : xv_CB mX11_layCut := ⟨by decide +kernel, by decide, xv_tbi (xv_t6 (i := 10) rfl) rfl, xv_tbi (xv_t1 (i := 10) rfl) rfl, by decide +kernel, by decide +kernel⟩
theorem cb_X11_price : xv_CB mX11_price := ⟨by decide +kernel, by decide, xv_tbi (xv_t5 (i := 225) rfl) rfl, xv_tbi (xv_t1 (i := 10) rfl) rfl, by decide +kernel, by decide +kernel⟩
theorem cb_X11_boards : xv_CB mX11_boards := ⟨by decide +kernel, by decide, xv_tbi (xv_t6 (i := 2) rfl) rfl, xv_tbi (xv_t1 (i := 10) rfl) rfl, by decide +kernel, by decide +kernel⟩
theorem cb_X11_board : xv_CB mX11_board := ⟨by decide +kernel, by decide, xv_tbi (xv_t6 (i := 6) rfl) rfl, xv_tbi (xv_t1 (i := 10) rfl) rfl, by decide +kernel, by decide +kernel⟩
theorem cb_X11_leftOf : xv_CB mX11_leftOf := ⟨by decide +kernel, by decide, xv_tbi (xv_t6 (i := 22) rfl) rfl, xv_tbi (xv_t1 (i := 10) rfl) rfl, by decide +kernel, by decide +kernel⟩
theorem cb_X11_ofBoard : xv_CB mX11_ofBoard := ⟨by decide +kernel, by decide, xv_tbi (xv_t6 (i := 18) rfl) rfl, xv_tbi (xv_t1 (i := 10) rfl) rfl, by decide +kernel, by decide +kernel⟩
theorem cb_X11_other : xv_CB mX11_other := ⟨by decide +kernel, by decide, xv_tbi (xv_t6 (i := 26) rfl) rfl, xv_tbi (xv_t1 (i := 10) rfl) rfl, by decide +kernel, by decide +kernel⟩
theorem cb_X11_car : xv_CB mX11_car := ⟨by decide +kernel, by decide, xv_tbi (xv_t6 (i := 30) rfl) rfl, xv_tbi (xv_t1 (i := 10) rfl) rfl, by decide +kernel, by decide +kernel⟩
theorem cb_X11_turnedBy : xv_CB mX11_turnedBy := ⟨by decide +kernel, by decide, xv_tbi (xv_t6 (i := 43) rfl) rfl, xv_tbi (xv_t1 (i := 10) rfl) rfl, by decide +kernel, by decide +kernel⟩
theorem cb_X11_isLesser : xv_CB mX11_isLesser := ⟨by decide +kernel, by decide, xv_tbi (xv_t6 (i := 46) rfl) rfl, xv_tbi (xv_t1 (i := 10) rfl) rfl, by decide +kernel, by decide +kernel⟩
theorem cb_X11_bestCars : xv_CB mX11_bestCars := ⟨by decide +kernel, by decide, xv_tbi (xv_t6 (i := 39) rfl) rfl, xv_tbi (xv_t1 (i := 10) rfl) rfl, by decide +kernel, by decide +kernel⟩
theorem cb_X11_packing : xv_CB mX11_packing := ⟨by decide +kernel, by decide, xv_tbi (xv_t6 (i := 35) rfl) rfl, xv_tbi (xv_t1 (i := 10) rfl) rfl, by decide +kernel, by decide +kernel⟩
theorem cb_X11_carOf : xv_CB mX11_carOf := ⟨by decide +kernel, by decide, xv_tbi (xv_t6 (i := 50) rfl) rfl, xv_tbi (xv_t1 (i := 10) rfl) rfl, by decide +kernel, by decide +kernel⟩
theorem cb_X11_turned : xv_CB mX11_turned := ⟨by decide +kernel, by decide, xv_tbi (xv_t6 (i := 54) rfl) rfl, xv_tbi (xv_t1 (i := 10) rfl) rfl, by decide +kernel, by decide +kernel⟩
theorem cb_X11_report : xv_CB mX11_report := ⟨by decide +kernel, by decide, xv_tbi (xv_t6 (i := 58) rfl) rfl, xv_tbi (xv_t1 (i := 10) rfl) rfl, by decide +kernel, by decide +kernel⟩
theorem cb_X11_sure : xv_CB mX11_sure := ⟨by decide +kernel, by decide, xv_tbi (xv_t6 (i := 62) rfl) rfl, xv_tbi (xv_t1 (i := 10) rfl) rfl, by decide +kernel, by decide +kernel⟩
theorem cb_X11_explainsOf : xv_CB mX11_explainsOf := ⟨by decide +kernel, by decide, xv_tbi (xv_t6 (i := 71) rfl) rfl, xv_tbi (xv_t1 (i := 10) rfl) rfl, by decide +kernel, by decide +kernel⟩
theorem cb_X11_explains : xv_CB mX11_explains := ⟨by decide +kernel, by decide, xv_tbi (xv_t6 (i := 66) rfl) rfl, xv_tbi (xv_t1 (i := 10) rfl) rfl, by decide +kernel, by decide +kernel⟩
theorem cb_X11_isLikely : xv_CB mX11_isLikely := ⟨by decide +kernel, by decide, xv_tbi (xv_t6 (i := 79) rfl) rfl, xv_tbi (xv_t1 (i := 10) rfl) rfl, by decide +kernel, by decide +kernel⟩
theorem cb_X11_likely : xv_CB mX11_likely := ⟨by decide +kernel, by decide, xv_tbi (xv_t6 (i := 75) rfl) rfl, xv_tbi (xv_t1 (i := 10) rfl) rfl, by decide +kernel, by decide +kernel⟩
theorem cb_X11_explainsAll : xv_CB mX11_explainsAll := ⟨by decide +kernel, by decide, xv_tbi (xv_t6 (i := 92) rfl) rfl, xv_tbi (xv_t1 (i := 10) rfl) rfl, by decide +kernel, by decide +kernel⟩
theorem cb_X11_bestCauses : xv_CB mX11_bestCauses := ⟨by decide +kernel, by decide, xv_tbi (xv_t6 (i := 87) rfl) rfl, xv_tbi (xv_t1 (i := 10) rfl) rfl, by decide +kernel, by decide +kernel⟩
theorem cb_X11_causes : xv_CB mX11_causes := ⟨by decide +kernel, by decide, xv_tbi (xv_t6 (i := 83) rfl) rfl, xv_tbi (xv_t1 (i := 10) rfl) rfl, by decide +kernel, by decide +kernel⟩
theorem cb_X11_cause : xv_CB mX11_cause := ⟨by decide +kernel, by decide, xv_tbi (xv_t6 (i := 96) rfl) rfl, xv_tbi (xv_t1 (i := 10) rfl) rfl, by decide +kernel, by decide +kernel⟩
theorem cb_X11_isLoan : xv_CB mX11_isLoan := ⟨by decide +kernel, by decide, xv_tbi (xv_t6 (i := 125) rfl) rfl, xv_tbi (xv_t1 (i := 10) rfl) rfl, by decide +kernel, by decide +kernel⟩
theorem cb_X11_nowOf : xv_CB mX11_nowOf := ⟨by decide +kernel, by decide, xv_tbi (xv_t6 (i := 107) rfl) rfl, xv_tbi (xv_t1 (i := 10) rfl) rfl, by decide +kernel, by decide +kernel⟩
theorem cb_X11_loan : xv_CB mX11_loan := ⟨by decide +kernel, by decide, xv_tbi (xv_t6 (i := 100) rfl) rfl, xv_tbi (xv_t1 (i := 10) rfl) rfl, by decide +kernel, by decide +kernel⟩
theorem cb_X11_goMonth : xv_CB mX11_goMonth := ⟨by decide +kernel, by decide, xv_tbi (xv_t6 (i := 116) rfl) rfl, xv_tbi (xv_t1 (i := 10) rfl) rfl, by decide +kernel, by decide +kernel⟩
theorem cb_X11_pass : xv_CB mX11_pass := ⟨by decide +kernel, by decide, xv_tbi (xv_t6 (i := 111) rfl) rfl, xv_tbi (xv_t1 (i := 10) rfl) rfl, by decide +kernel, by decide +kernel⟩
theorem cb_X11_pay : xv_CB mX11_pay := ⟨by decide +kernel, by decide, xv_tbi (xv_t6 (i := 121) rfl) rfl, xv_tbi (xv_t1 (i := 10) rfl) rfl, by decide +kernel, by decide +kernel⟩
theorem cb_X11_work : xv_CB mX11_work := ⟨by decide +kernel, by decide, xv_tbi (xv_t6 (i := 129) rfl) rfl, xv_tbi (xv_t1 (i := 10) rfl) rfl, by decide +kernel, by decide +kernel⟩
theorem cb_X11_as : xv_CB mX11_as := ⟨by decide +kernel, by decide, xv_tbi (xv_t6 (i := 133) rfl) rfl, xv_tbi (xv_t1 (i := 10) rfl) rfl, by decide +kernel, by decide +kernel⟩
theorem cb_X11_arrears : xv_CB mX11_arrears := ⟨by decide +kernel, by decide, xv_tbi (xv_t6 (i := 140) rfl) rfl, xv_tbi (xv_t1 (i := 10) rfl) rfl, by decide +kernel, by decide +kernel⟩
theorem cb_X11_isTerm : xv_CB mX11_isTerm := ⟨by decide +kernel, by decide, xv_tbi (xv_t6 (i := 153) rfl) rfl, xv_tbi (xv_t1 (i := 10) rfl) rfl, by decide +kernel, by decide +kernel⟩
theorem cb_X11_term : xv_CB mX11_term := ⟨by decide +kernel, by decide, xv_tbi (xv_t6 (i := 144) rfl) rfl, xv_tbi (xv_t1 (i := 10) rfl) rfl, by decide +kernel, by decide +kernel⟩
theorem cb_X11_feed : xv_CB mX11_feed := ⟨by decide +kernel, by decide, xv_tbi (xv_t6 (i := 149) rfl) rfl, xv_tbi (xv_t1 (i := 10) rfl) rfl, by decide +kernel, by decide +kernel⟩
theorem cb_X11_peek : xv_CB mX11_peek := ⟨by decide +kernel, by decide, xv_tbi (xv_t6 (i := 166) rfl) rfl, xv_tbi (xv_t1 (i := 10) rfl) rfl, by decide +kernel, by decide +kernel⟩
theorem cb_X11_letterValue : xv_CB mX11_letterValue := ⟨by decide +kernel, by decide, xv_tbi (xv_t6 (i := 177) rfl) rfl, xv_tbi (xv_t1 (i := 10) rfl) rfl, by decide +kernel, by decide +kernel⟩
theorem cb_X11_takeAsking : xv_CB mX11_takeAsking := ⟨by decide +kernel, by decide, xv_tbi (xv_t6 (i := 174) rfl) rfl, xv_tbi (xv_t1 (i := 10) rfl) rfl, by decide +kernel, by decide +kernel⟩
theorem cb_X11_binds : xv_CB mX11_binds := ⟨by decide +kernel, by decide, xv_tbi (xv_t6 (i := 187) rfl) rfl, xv_tbi (xv_t1 (i := 10) rfl) rfl, by decide +kernel, by decide +kernel⟩
theorem cb_X11_closeTo : xv_CB mX11_closeTo := ⟨by decide +kernel, by decide, xv_tbi (xv_t6 (i := 184) rfl) rfl, xv_tbi (xv_t1 (i := 10) rfl) rfl, by decide +kernel, by decide +kernel⟩
theorem cb_X11_push : xv_CB mX11_push := ⟨by decide +kernel, by decide, xv_tbi (xv_t6 (i := 170) rfl) rfl, xv_tbi (xv_t1 (i := 10) rfl) rfl, by decide +kernel, by decide +kernel⟩
theorem cb_X11_readTerm : xv_CB mX11_readTerm := ⟨by decide +kernel, by decide, xv_tbi (xv_t6 (i := 162) rfl) rfl, xv_tbi (xv_t1 (i := 10) rfl) rfl, by decide +kernel, by decide +kernel⟩
theorem cb_X11_fault : xv_CB mX11_fault := ⟨by decide +kernel, by decide, xv_tbi (xv_t6 (i := 158) rfl) rfl, xv_tbi (xv_t1 (i := 10) rfl) rfl, by decide +kernel, by decide +kernel⟩
theorem cb_X11_forceIn : xv_CB mX11_forceIn := ⟨by decide +kernel, by decide, xv_tbi (xv_t6 (i := 195) rfl) rfl, xv_tbi (xv_t1 (i := 10) rfl) rfl, by decide +kernel, by decide +kernel⟩
theorem cb_X11_force : xv_CB mX11_force := ⟨by decide +kernel, by decide, xv_tbi (xv_t6 (i := 191) rfl) rfl, xv_tbi (xv_t1 (i := 10) rfl) rfl, by decide +kernel, by decide +kernel⟩
theorem cb_X11_says : xv_CB mX11_says := ⟨by decide +kernel, by decide, xv_tbi (xv_t6 (i := 207) rfl) rfl, xv_tbi (xv_t1 (i := 10) rfl) rfl, by decide +kernel, by decide +kernel⟩
theorem cb_X11_mayTake : xv_CB mX11_mayTake := ⟨by decide +kernel, by decide, xv_tbi (xv_t6 (i := 203) rfl) rfl, xv_tbi (xv_t1 (i := 10) rfl) rfl, by decide +kernel, by decide +kernel⟩
theorem cb_X11_may : xv_CB mX11_may := ⟨by decide +kernel, by decide, xv_tbi (xv_t6 (i := 199) rfl) rfl, xv_tbi (xv_t1 (i := 10) rfl) rfl, by decide +kernel, by decide +kernel⟩
theorem cb_X11_takeBack : xv_CB mX11_takeBack := ⟨by decide +kernel, by decide, xv_tbi (xv_t6 (i := 211) rfl) rfl, xv_tbi (xv_t1 (i := 10) rfl) rfl, by decide +kernel, by decide +kernel⟩
theorem cb_X11_soon : xv_CB mX11_soon := ⟨by decide +kernel, by decide, xv_tbi (xv_t6 (i := 216) rfl) rfl, xv_tbi (xv_t1 (i := 10) rfl) rfl, by decide +kernel, by decide +kernel⟩
theorem cb_X11_count : xv_CB mX11_count := ⟨by decide +kernel, by decide, xv_tbi (xv_t6 (i := 220) rfl) rfl, xv_tbi (xv_t1 (i := 10) rfl) rfl, by decide +kernel, by decide +kernel⟩
theorem cb_J6_bitCount_0f7a4 : xv_CB mJ6_bitCount_0f7a4 := ⟨by decide +kernel, by decide, xv_tbi (xv_t2 (i := 212) rfl) rfl, xv_tbi (xv_t1 (i := 11) rfl) rfl, by decide +kernel, by decide +kernel⟩
theorem cb_J13_bitCount_95d88 : xv_CB mJ13_bitCount_95d88 := ⟨by decide +kernel, by decide, xv_tbi (xv_t3 (i := 108) rfl) rfl, xv_tbi (xv_t1 (i := 13) rfl) rfl, by decide +kernel, by decide +kernel⟩
theorem fl_X7_7 : xv_FL RX7 7 7 0 false := ⟨xv_ci7, by decide, xv_tbi (xv_t1 (i := 232) rfl) rfl, rfl⟩
theorem fl_X7_13 : xv_FL RX7 13 7 1 false := ⟨xv_ci7, by decide, xv_tbi (xv_t1 (i := 235) rfl) rfl, rfl⟩
theorem fl_X7_16 : xv_FL RX7 16 7 2 false := ⟨xv_ci7, by decide, xv_tbi (xv_t1 (i := 237) rfl) rfl, rfl⟩
theorem fl_X7_20 : xv_FL RX7 20 7 3 false := ⟨xv_ci7, by decide, xv_tbi (xv_t1 (i := 239) rfl) rfl, rfl⟩
theorem fl_X7_23 : xv_FL RX7 23 7 4 false := ⟨xv_ci7, by decide, xv_tbi (xv_t2 (i := 1) rfl) rfl, rfl⟩
theorem fl_X9_7 : xv_FL RX9 7 9 0 false := ⟨xv_ci9, by decide, xv_tbi (xv_t2 (i := 20) rfl) rfl, rfl⟩
theorem fl_X9_13 : xv_FL RX9 13 9 1 false := ⟨xv_ci9, by decide, xv_tbi (xv_t2 (i := 21) rfl) rfl, rfl⟩
theorem fl_X9_16 : xv_FL RX9 16 9 2 false := ⟨xv_ci9, by decide, xv_tbi (xv_t2 (i := 22) rfl) rfl, rfl⟩
theorem fl_X9_19 : xv_FL RX9 19 9 3 false := ⟨xv_ci9, by decide, xv_tbi (xv_t2 (i := 23) rfl) rfl, rfl⟩
theorem fl_X0_9 : xv_FL RX0 9 0 0 false := ⟨xv_ci0, by decide, xv_tbi (xv_t2 (i := 33) rfl) rfl, rfl⟩
theorem fl_X0_15 : xv_FL RX0 15 0 1 false := ⟨xv_ci0, by decide, xv_tbi (xv_t2 (i := 35) rfl) rfl, rfl⟩
theorem fl_X0_18 : xv_FL RX0 18 0 2 false := ⟨xv_ci0, by decide, xv_tbi (xv_t2 (i := 37) rfl) rfl, rfl⟩
theorem fl_X0_23 : xv_FL RX0 23 0 3 true := ⟨xv_ci0, by decide, xv_tbi (xv_t2 (i := 39) rfl) rfl, rfl⟩
theorem fl_X0_29 : xv_FL RX0 29 0 4 true := ⟨xv_ci0, by decide, xv_tbi (xv_t2 (i := 40) rfl) rfl, rfl⟩
theorem fl_X0_36 : xv_FL RX0 36 0 5 true := ⟨xv_ci0, by decide, xv_tbi (xv_t2 (i := 41) rfl) rfl, rfl⟩
theorem fl_X0_43 : xv_FL RX0 43 0 6 true := ⟨xv_ci0, by decide, xv_tbi (xv_t2 (i := 42) rfl) rfl, rfl⟩
theorem fl_X4_12 : xv_FL RX4 12 4 1 true := ⟨xv_ci4, by decide, xv_tbi (xv_t3 (i := 195) rfl) rfl, rfl⟩
