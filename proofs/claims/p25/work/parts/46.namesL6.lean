set_option maxRecDepth 20000 in
theorem ggL_isSo_L_areCells_p0 : GoodIn wsL_isSo [Cond.code yL_areCells cL_areCells 18 (some .boolean)] := goodIn_sub (List.forall_mem_cons.mpr ⟨List.mem_of_getElem? (i := 6) rfl, (fun _ h => absurd h List.not_mem_nil)⟩) (by decide +kernel)
set_option maxRecDepth 20000 in
theorem ggL_isSo_L_areCells_p1 : GoodIn wsL_isSo wsL_areCells_r1 := goodIn_sub (List.forall_mem_cons.mpr ⟨List.mem_of_getElem? (i := 1) rfl, (List.forall_mem_cons.mpr ⟨List.mem_of_getElem? (i := 7) rfl, (List.forall_mem_cons.mpr ⟨List.mem_of_getElem? (i := 2) rfl, (List.forall_mem_cons.mpr ⟨List.mem_of_getElem? (i := 8) rfl, (List.forall_mem_cons.mpr ⟨List.mem_of_getElem? (i := 9) rfl, (List.forall_mem_cons.mpr ⟨List.mem_of_getElem? (i := 5) rfl, (List.forall_mem_cons.mpr ⟨List.mem_of_getElem? (i := 10) rfl, (List.forall_mem_cons.mpr ⟨List.mem_of_getElem? (i := 11) rfl, (List.forall_mem_cons.mpr ⟨List.mem_of_getElem? (i := 12) rfl, (List.forall_mem_cons.mpr ⟨List.mem_of_getElem? (i := 13) rfl, (List.forall_mem_cons.mpr ⟨List.mem_of_getElem? (i := 14) rfl, (List.forall_mem_cons.mpr ⟨List.mem_of_getElem? (i := 15) rfl, (List.forall_mem_cons.mpr ⟨List.mem_of_getElem? (i := 16) rfl, (List.forall_mem_cons.mpr ⟨List.mem_of_getElem? (i := 17) rfl, (List.forall_mem_cons.mpr ⟨List.mem_of_getElem? (i := 18) rfl, (List.forall_mem_cons.mpr ⟨List.mem_of_getElem? (i := 19) rfl, (List.forall_mem_cons.mpr ⟨List.mem_of_getElem? (i := 20) rfl, (List.forall_mem_cons.mpr ⟨List.mem_of_getElem? (i := 21) rfl, (List.forall_mem_cons.mpr ⟨List.mem_of_getElem? (i := 22) rfl, (List.forall_mem_cons.mpr ⟨List.mem_of_getElem? (i := 23) rfl, (List.forall_mem_cons.mpr ⟨List.mem_of_getElem? (i := 24) rfl, (List.forall_mem_cons.mpr ⟨List.mem_of_getElem? (i := 25) rfl, (List.forall_mem_cons.mpr ⟨List.mem_of_getElem? (i := 26) rfl, (List.forall_mem_cons.mpr ⟨List.mem_of_getElem? (i := 27) rfl, (fun _ h => absurd h List.not_mem_nil)⟩)⟩)⟩)⟩)⟩)⟩)⟩)⟩)⟩)⟩)⟩)⟩)⟩)⟩)⟩)⟩)⟩)⟩)⟩)⟩)⟩)⟩)⟩)⟩) (by decide +kernel)
set_option maxRecDepth 20000 in
theorem ggL_isSo_L_areCells_p2 : GoodIn wsL_isSo wsL_areCells_r2 := goodIn_sub (List.forall_mem_cons.mpr ⟨List.mem_of_getElem? (i := 28) rfl, (List.forall_mem_cons.mpr ⟨List.mem_of_getElem? (i := 29) rfl, (List.forall_mem_cons.mpr ⟨List.mem_of_getElem? (i := 30) rfl, (List.forall_mem_cons.mpr ⟨List.mem_of_getElem? (i := 31) rfl, (List.forall_mem_cons.mpr ⟨List.mem_of_getElem? (i := 32) rfl, (List.forall_mem_cons.mpr ⟨List.mem_of_getElem? (i := 33) rfl, (List.forall_mem_cons.mpr ⟨List.mem_of_getElem? (i := 34) rfl, (List.forall_mem_cons.mpr ⟨List.mem_of_getElem? (i := 35) rfl, (List.forall_mem_cons.mpr ⟨List.mem_of_getElem? (i := 36) rfl, (List.forall_mem_cons.mpr ⟨List.mem_of_getElem? (i := 37) rfl, (List.forall_mem_cons.mpr ⟨List.mem_of_getElem? (i := 38) rfl, (List.forall_mem_cons.mpr ⟨List.mem_of_getElem? (i := 39) rfl, (List.forall_mem_cons.mpr ⟨List.mem_of_getElem? (i := 40) rfl, (List.forall_mem_cons.mpr ⟨List.mem_of_getElem? (i := 41) rfl, (List.forall_mem_cons.mpr ⟨List.mem_of_getElem? (i := 42) rfl, (List.forall_mem_cons.mpr ⟨List.mem_of_getElem? (i := 43) rfl, (List.forall_mem_cons.mpr ⟨List.mem_of_getElem? (i := 44) rfl, (List.forall_mem_cons.mpr ⟨List.mem_of_getElem? (i := 45) rfl, (List.forall_mem_cons.mpr ⟨List.mem_of_getElem? (i := 46) rfl, (List.forall_mem_cons.mpr ⟨List.mem_of_getElem? (i := 47) rfl, (List.forall_mem_cons.mpr ⟨List.mem_of_getElem? (i := 48) rfl, (List.forall_mem_cons.mpr ⟨List.mem_of_getElem? (i := 49) rfl, (List.forall_mem_cons.mpr ⟨List.mem_of_getElem? (i := 50) rfl, (List.forall_mem_cons.mpr ⟨List.mem_of_getElem? (i := 51) rfl, (fun _ h => absurd h List.not_mem_nil)⟩)⟩)⟩)⟩)⟩)⟩)⟩)⟩)⟩)⟩)⟩)⟩)⟩)⟩)⟩)⟩)⟩)⟩)⟩)⟩)⟩)⟩)⟩)⟩) (by decide +kernel)
set_option maxRecDepth 20000 in
theorem ggL_isSo_L_areCells_p3 : GoodIn wsL_isSo wsL_areCells_r3 := goodIn_sub (List.forall_mem_cons.mpr ⟨List.mem_of_getElem? (i := 52) rfl, (List.forall_mem_cons.mpr ⟨List.mem_of_getElem? (i := 53) rfl, (List.forall_mem_cons.mpr ⟨List.mem_of_getElem? (i := 54) rfl, (List.forall_mem_cons.mpr ⟨List.mem_of_getElem? (i := 55) rfl, (List.forall_mem_cons.mpr ⟨List.mem_of_getElem? (i := 56) rfl, (List.forall_mem_cons.mpr ⟨List.mem_of_getElem? (i := 57) rfl, (List.forall_mem_cons.mpr ⟨List.mem_of_getElem? (i := 58) rfl, (List.forall_mem_cons.mpr ⟨List.mem_of_getElem? (i := 59) rfl, (List.forall_mem_cons.mpr ⟨List.mem_of_getElem? (i := 60) rfl, (List.forall_mem_cons.mpr ⟨List.mem_of_getElem? (i := 61) rfl, (List.forall_mem_cons.mpr ⟨List.mem_of_getElem? (i := 62) rfl, (List.forall_mem_cons.mpr ⟨List.mem_of_getElem? (i := 63) rfl, (List.forall_mem_cons.mpr ⟨List.mem_of_getElem? (i := 64) rfl, (List.forall_mem_cons.mpr ⟨List.mem_of_getElem? (i := 65) rfl, (List.forall_mem_cons.mpr ⟨List.mem_of_getElem? (i := 66) rfl, (List.forall_mem_cons.mpr ⟨List.mem_of_getElem? (i := 67) rfl, (List.forall_mem_cons.mpr ⟨List.mem_of_getElem? (i := 68) rfl, (List.forall_mem_cons.mpr ⟨List.mem_of_getElem? (i := 69) rfl, (List.forall_mem_cons.mpr ⟨List.mem_of_getElem? (i := 70) rfl, (List.forall_mem_cons.mpr ⟨List.mem_of_getElem? (i := 71) rfl, (List.forall_mem_cons.mpr ⟨List.mem_of_getElem? (i := 72) rfl, (List.forall_mem_cons.mpr ⟨List.mem_of_getElem? (i := 73) rfl, (List.forall_mem_cons.mpr ⟨List.mem_of_getElem? (i := 74) rfl, (List.forall_mem_cons.mpr ⟨List.mem_of_getElem? (i := 75) rfl, (fun _ h => absurd h List.not_mem_nil)⟩)⟩)⟩)⟩)⟩)⟩)⟩)⟩)⟩)⟩)⟩)⟩)⟩)⟩)⟩)⟩)⟩)⟩)⟩)⟩)⟩)⟩)⟩)⟩) (by decide +kernel)
set_option maxRecDepth 20000 in
theorem ggL_isSo_L_areCells_p4 : GoodIn wsL_isSo wsL_areCells_r4 := goodIn_sub (List.forall_mem_cons.mpr ⟨List.mem_of_getElem? (i := 76) rfl, (List.forall_mem_cons.mpr ⟨List.mem_of_getElem? (i := 77) rfl, (List.forall_mem_cons.mpr ⟨List.mem_of_getElem? (i := 78) rfl, (List.forall_mem_cons.mpr ⟨List.mem_of_getElem? (i := 79) rfl, (List.forall_mem_cons.mpr ⟨List.mem_of_getElem? (i := 80) rfl, (List.forall_mem_cons.mpr ⟨List.mem_of_getElem? (i := 81) rfl, (List.forall_mem_cons.mpr ⟨List.mem_of_getElem? (i := 82) rfl, (List.forall_mem_cons.mpr ⟨List.mem_of_getElem? (i := 83) rfl, (List.forall_mem_cons.mpr ⟨List.mem_of_getElem? (i := 84) rfl, (List.forall_mem_cons.mpr ⟨List.mem_of_getElem? (i := 85) rfl, (List.forall_mem_cons.mpr ⟨List.mem_of_getElem? (i := 86) rfl, (List.forall_mem_cons.mpr ⟨List.mem_of_getElem? (i := 87) rfl, (fun _ h => absurd h List.not_mem_nil)⟩)⟩)⟩)⟩)⟩)⟩)⟩)⟩)⟩)⟩)⟩)⟩) (by decide +kernel)
set_option maxRecDepth 20000 in
theorem ggL_isSo_L_areCells_p5 : GoodIn wsL_isSo wsX60 := goodIn_r _ [187, 188, 189, 190] (by decide +kernel) (by decide +kernel)
set_option maxRecDepth 20000 in
theorem ggL_isSo_L_areCells_p6 : GoodIn wsL_isSo wsX30 := goodIn_r _ [191, 192, 193, 194, 195] (by decide +kernel) (by decide +kernel)
set_option maxRecDepth 20000 in
theorem ggL_isSo_L_areCells_p7 : GoodIn wsL_isSo wsX20 := goodIn_r _ [196, 197, 198] (by decide +kernel) (by decide +kernel)
set_option maxRecDepth 20000 in
theorem ggL_isSo_L_areCells_p8 : GoodIn wsL_isSo wsX50 := goodIn_r _ [199, 200, 201, 202, 203, 204, 205, 206, 207, 208, 209] (by decide +kernel) (by decide +kernel)
set_option maxRecDepth 20000 in
theorem ggL_isSo_L_areCells : GoodIn wsL_isSo wsL_areCells := by
  show GoodIn wsL_isSo ([Cond.code yL_areCells cL_areCells 18 (some .boolean)] ++ ((wsL_areCells_r1 ++ (wsL_areCells_r2 ++ (wsL_areCells_r3 ++ wsL_areCells_r4))) ++ wsX60 ++ wsX30 ++ wsX20 ++ wsX50))
  exact goodIn_app ggL_isSo_L_areCells_p0 (goodIn_app (goodIn_app (goodIn_app (goodIn_app (goodIn_app ggL_isSo_L_areCells_p1 (goodIn_app ggL_isSo_L_areCells_p2 (goodIn_app ggL_isSo_L_areCells_p3 ggL_isSo_L_areCells_p4))) ggL_isSo_L_areCells_p5) ggL_isSo_L_areCells_p6) ggL_isSo_L_areCells_p7) ggL_isSo_L_areCells_p8)
set_option maxRecDepth 20000 in
theorem gL_isSo_L_areCells : GoodIn wsL_isSo (va_wsS RL 119 yL_areCells wsL_areCells) := goodIn_app (goodIn_of _ (by decide +kernel)) ggL_isSo_L_areCells
set_option maxRecDepth 20000 in
theorem ggL_isSo_L_due : GoodIn wsL_isSo wsL_due := goodIn_r _ [90] (by decide +kernel) (by decide +kernel)
set_option maxRecDepth 20000 in
theorem gL_isSo_L_due : GoodIn wsL_isSo (va_wsS RL 123 yL_due wsL_due) := goodIn_app (goodIn_of _ (by decide +kernel)) ggL_isSo_L_due
set_option maxRecDepth 20000 in
theorem ggL_isSo_X6_entry_p0 : GoodIn wsL_isSo [Cond.code yX6_entry cX6_entry 5 (some .int)] := goodIn_sub (List.forall_mem_cons.mpr ⟨List.mem_of_getElem? (i := 94) rfl, (fun _ h => absurd h List.not_mem_nil)⟩) (by decide +kernel)
set_option maxRecDepth 20000 in
theorem ggL_isSo_X6_entry_p1 : GoodIn wsL_isSo [.constant RX6 33 (-1000001), .fieldLink RX6 10 "SkewedSquare" "now" "LSkewedSquare$State;", .fieldLink RX6 69 "SkewedSquare$State" "leftMatrix" "LSkewedSquare$Matrix;", .fieldLink RX6 78 "SkewedSquare$State" "rightMatrix" "LSkewedSquare$Matrix;", .methodLink RX6 129 yX1_has, .instanceMethod yX1_has, .selects RX1 yX1_has yX1_has, .initialized RX1, .code yX1_has cX1_has 3 (some .boolean), .fieldLink RX1 9 "SkewedSquare$Matrix" "rows" "I", .fieldLink RX1 15 "SkewedSquare$Matrix" "columns" "I", .methodLink RX6 130 yX1_at, .instanceMethod yX1_at, .selects RX1 yX1_at yX1_at, .code yX1_at cX1_at 3 (some .int), .fieldLink RX1 18 "SkewedSquare$Matrix" "entries" "[I"] := goodIn_sub (List.forall_mem_cons.mpr ⟨List.mem_of_getElem? (i := 19) rfl, (List.forall_mem_cons.mpr ⟨List.mem_of_getElem? (i := 16) rfl, (List.forall_mem_cons.mpr ⟨List.mem_of_getElem? (i := 95) rfl, (List.forall_mem_cons.mpr ⟨List.mem_of_getElem? (i := 96) rfl, (List.forall_mem_cons.mpr ⟨List.mem_of_getElem? (i := 97) rfl, (List.forall_mem_cons.mpr ⟨List.mem_of_getElem? (i := 98) rfl, (List.forall_mem_cons.mpr ⟨List.mem_of_getElem? (i := 99) rfl, (List.forall_mem_cons.mpr ⟨List.mem_of_getElem? (i := 100) rfl, (List.forall_mem_cons.mpr ⟨List.mem_of_getElem? (i := 101) rfl, (List.forall_mem_cons.mpr ⟨List.mem_of_getElem? (i := 102) rfl, (List.forall_mem_cons.mpr ⟨List.mem_of_getElem? (i := 103) rfl, (List.forall_mem_cons.mpr ⟨List.mem_of_getElem? (i := 104) rfl, (List.forall_mem_cons.mpr ⟨List.mem_of_getElem? (i := 105) rfl, (List.forall_mem_cons.mpr ⟨List.mem_of_getElem? (i := 106) rfl, (List.forall_mem_cons.mpr ⟨List.mem_of_getElem? (i := 107) rfl, (List.forall_mem_cons.mpr ⟨List.mem_of_getElem? (i := 108) rfl, (fun _ h => absurd h List.not_mem_nil)⟩)⟩)⟩)⟩)⟩)⟩)⟩)⟩)⟩)⟩)⟩)⟩)⟩)⟩)⟩)⟩) (by decide +kernel)
set_option maxRecDepth 20000 in
theorem ggL_isSo_X6_entry_p2 : GoodIn wsL_isSo wsX60 := goodIn_r _ [187, 188, 189, 190] (by decide +kernel) (by decide +kernel)
set_option maxRecDepth 20000 in
theorem ggL_isSo_X6_entry_p3 : GoodIn wsL_isSo wsX30 := goodIn_r _ [191, 192, 193, 194, 195] (by decide +kernel) (by decide +kernel)
set_option maxRecDepth 20000 in
theorem ggL_isSo_X6_entry_p4 : GoodIn wsL_isSo wsX10 := goodIn_r _ [210, 211, 212] (by decide +kernel) (by decide +kernel)
set_option maxRecDepth 20000 in
theorem ggL_isSo_X6_entry : GoodIn wsL_isSo wsX6_entry := by
  show GoodIn wsL_isSo ([Cond.code yX6_entry cX6_entry 5 (some .int)] ++ ([.constant RX6 33 (-1000001), .fieldLink RX6 10 "SkewedSquare" "now" "LSkewedSquare$State;", .fieldLink RX6 69 "SkewedSquare$State" "leftMatrix" "LSkewedSquare$Matrix;", .fieldLink RX6 78 "SkewedSquare$State" "rightMatrix" "LSkewedSquare$Matrix;", .methodLink RX6 129 yX1_has, .instanceMethod yX1_has, .selects RX1 yX1_has yX1_has, .initialized RX1, .code yX1_has cX1_has 3 (some .boolean), .fieldLink RX1 9 "SkewedSquare$Matrix" "rows" "I", .fieldLink RX1 15 "SkewedSquare$Matrix" "columns" "I", .methodLink RX6 130 yX1_at, .instanceMethod yX1_at, .selects RX1 yX1_at yX1_at, .code yX1_at cX1_at 3 (some .int), .fieldLink RX1 18 "SkewedSquare$Matrix" "entries" "[I"] ++ wsX60 ++ wsX30 ++ wsX10))
  exact goodIn_app ggL_isSo_X6_entry_p0 (goodIn_app (goodIn_app (goodIn_app ggL_isSo_X6_entry_p1 ggL_isSo_X6_entry_p2) ggL_isSo_X6_entry_p3) ggL_isSo_X6_entry_p4)
set_option maxRecDepth 20000 in
theorem gL_isSo_X6_entry : GoodIn wsL_isSo (wsV RL 127 RX6 yX6_entry wsX6_entry) := goodIn_app (goodIn_of _ (by decide +kernel)) ggL_isSo_X6_entry
set_option maxRecDepth 20000 in
theorem ggL_isSo_X6_result_p0 : GoodIn wsL_isSo [Cond.code yX6_result cX6_result 4 (some .int)] := goodIn_sub (List.forall_mem_cons.mpr ⟨List.mem_of_getElem? (i := 112) rfl, (fun _ h => absurd h List.not_mem_nil)⟩) (by decide +kernel)
set_option maxRecDepth 20000 in
theorem ggL_isSo_X6_result_p1 : GoodIn wsL_isSo wsX6_result_r1 := goodIn_sub (List.forall_mem_cons.mpr ⟨List.mem_of_getElem? (i := 16) rfl, (List.forall_mem_cons.mpr ⟨List.mem_of_getElem? (i := 113) rfl, (List.forall_mem_cons.mpr ⟨List.mem_of_getElem? (i := 19) rfl, (List.forall_mem_cons.mpr ⟨List.mem_of_getElem? (i := 97) rfl, (List.forall_mem_cons.mpr ⟨List.mem_of_getElem? (i := 98) rfl, (List.forall_mem_cons.mpr ⟨List.mem_of_getElem? (i := 99) rfl, (List.forall_mem_cons.mpr ⟨List.mem_of_getElem? (i := 100) rfl, (List.forall_mem_cons.mpr ⟨List.mem_of_getElem? (i := 101) rfl, (List.forall_mem_cons.mpr ⟨List.mem_of_getElem? (i := 102) rfl, (List.forall_mem_cons.mpr ⟨List.mem_of_getElem? (i := 103) rfl, (List.forall_mem_cons.mpr ⟨List.mem_of_getElem? (i := 114) rfl, (List.forall_mem_cons.mpr ⟨List.mem_of_getElem? (i := 115) rfl, (List.forall_mem_cons.mpr ⟨List.mem_of_getElem? (i := 116) rfl, (List.forall_mem_cons.mpr ⟨List.mem_of_getElem? (i := 117) rfl, (List.forall_mem_cons.mpr ⟨List.mem_of_getElem? (i := 118) rfl, (List.forall_mem_cons.mpr ⟨List.mem_of_getElem? (i := 119) rfl, (List.forall_mem_cons.mpr ⟨List.mem_of_getElem? (i := 120) rfl, (List.forall_mem_cons.mpr ⟨List.mem_of_getElem? (i := 121) rfl, (List.forall_mem_cons.mpr ⟨List.mem_of_getElem? (i := 122) rfl, (List.forall_mem_cons.mpr ⟨List.mem_of_getElem? (i := 105) rfl, (List.forall_mem_cons.mpr ⟨List.mem_of_getElem? (i := 106) rfl, (List.forall_mem_cons.mpr ⟨List.mem_of_getElem? (i := 107) rfl, (List.forall_mem_cons.mpr ⟨List.mem_of_getElem? (i := 108) rfl, (List.forall_mem_cons.mpr ⟨List.mem_of_getElem? (i := 104) rfl, (fun _ h => absurd h List.not_mem_nil)⟩)⟩)⟩)⟩)⟩)⟩)⟩)⟩)⟩)⟩)⟩)⟩)⟩)⟩)⟩)⟩)⟩)⟩)⟩)⟩)⟩)⟩)⟩)⟩) (by decide +kernel)
set_option maxRecDepth 20000 in
theorem ggL_isSo_X6_result_p2 : GoodIn wsL_isSo wsX6_result_r2 := goodIn_sub (List.forall_mem_cons.mpr ⟨List.mem_of_getElem? (i := 61) rfl, (List.forall_mem_cons.mpr ⟨List.mem_of_getElem? (i := 62) rfl, (List.forall_mem_cons.mpr ⟨List.mem_of_getElem? (i := 14) rfl, (List.forall_mem_cons.mpr ⟨List.mem_of_getElem? (i := 63) rfl, (List.forall_mem_cons.mpr ⟨List.mem_of_getElem? (i := 64) rfl, (List.forall_mem_cons.mpr ⟨List.mem_of_getElem? (i := 65) rfl, (fun _ h => absurd h List.not_mem_nil)⟩)⟩)⟩)⟩)⟩)⟩) (by decide +kernel)
set_option maxRecDepth 20000 in
theorem ggL_isSo_X6_result_p3 : GoodIn wsL_isSo wsX60 := goodIn_r _ [187, 188, 189, 190] (by decide +kernel) (by decide +kernel)
set_option maxRecDepth 20000 in
theorem ggL_isSo_X6_result_p4 : GoodIn wsL_isSo wsX30 := goodIn_r _ [191, 192, 193, 194, 195] (by decide +kernel) (by decide +kernel)
set_option maxRecDepth 20000 in
theorem ggL_isSo_X6_result_p5 : GoodIn wsL_isSo wsX10 := goodIn_r _ [210, 211, 212] (by decide +kernel) (by decide +kernel)
set_option maxRecDepth 20000 in
theorem ggL_isSo_X6_result : GoodIn wsL_isSo wsX6_result := by
  show GoodIn wsL_isSo ([Cond.code yX6_result cX6_result 4 (some .int)] ++ ((wsX6_result_r1 ++ wsX6_result_r2) ++ wsX60 ++ wsX30 ++ wsX10))
  exact goodIn_app ggL_isSo_X6_result_p0 (goodIn_app (goodIn_app (goodIn_app (goodIn_app ggL_isSo_X6_result_p1 ggL_isSo_X6_result_p2) ggL_isSo_X6_result_p3) ggL_isSo_X6_result_p4) ggL_isSo_X6_result_p5)
set_option maxRecDepth 20000 in
theorem gL_isSo_X6_result : GoodIn wsL_isSo (wsV RL 130 RX6 yX6_result wsX6_result) := goodIn_app (goodIn_of _ (by decide +kernel)) ggL_isSo_X6_result
set_option maxRecDepth 20000 in
theorem ggL_isSo_X6_count_p0 : GoodIn wsL_isSo [Cond.code yX6_count cX6_count 2 (some .int)] := goodIn_sub (List.forall_mem_cons.mpr ⟨List.mem_of_getElem? (i := 126) rfl, (fun _ h => absurd h List.not_mem_nil)⟩) (by decide +kernel)
set_option maxRecDepth 20000 in
theorem ggL_isSo_X6_count_p1 : GoodIn wsL_isSo wsX6_count_r1 := goodIn_sub (List.forall_mem_cons.mpr ⟨List.mem_of_getElem? (i := 16) rfl, (List.forall_mem_cons.mpr ⟨List.mem_of_getElem? (i := 17) rfl, (List.forall_mem_cons.mpr ⟨List.mem_of_getElem? (i := 18) rfl, (List.forall_mem_cons.mpr ⟨List.mem_of_getElem? (i := 95) rfl, (List.forall_mem_cons.mpr ⟨List.mem_of_getElem? (i := 127) rfl, (List.forall_mem_cons.mpr ⟨List.mem_of_getElem? (i := 128) rfl, (List.forall_mem_cons.mpr ⟨List.mem_of_getElem? (i := 96) rfl, (List.forall_mem_cons.mpr ⟨List.mem_of_getElem? (i := 129) rfl, (List.forall_mem_cons.mpr ⟨List.mem_of_getElem? (i := 20) rfl, (List.forall_mem_cons.mpr ⟨List.mem_of_getElem? (i := 21) rfl, (List.forall_mem_cons.mpr ⟨List.mem_of_getElem? (i := 130) rfl, (List.forall_mem_cons.mpr ⟨List.mem_of_getElem? (i := 65) rfl, (List.forall_mem_cons.mpr ⟨List.mem_of_getElem? (i := 131) rfl, (List.forall_mem_cons.mpr ⟨List.mem_of_getElem? (i := 132) rfl, (List.forall_mem_cons.mpr ⟨List.mem_of_getElem? (i := 133) rfl, (List.forall_mem_cons.mpr ⟨List.mem_of_getElem? (i := 134) rfl, (List.forall_mem_cons.mpr ⟨List.mem_of_getElem? (i := 135) rfl, (List.forall_mem_cons.mpr ⟨List.mem_of_getElem? (i := 136) rfl, (List.forall_mem_cons.mpr ⟨List.mem_of_getElem? (i := 19) rfl, (List.forall_mem_cons.mpr ⟨List.mem_of_getElem? (i := 137) rfl, (List.forall_mem_cons.mpr ⟨List.mem_of_getElem? (i := 138) rfl, (List.forall_mem_cons.mpr ⟨List.mem_of_getElem? (i := 139) rfl, (List.forall_mem_cons.mpr ⟨List.mem_of_getElem? (i := 117) rfl, (List.forall_mem_cons.mpr ⟨List.mem_of_getElem? (i := 140) rfl, (fun _ h => absurd h List.not_mem_nil)⟩)⟩)⟩)⟩)⟩)⟩)⟩)⟩)⟩)⟩)⟩)⟩)⟩)⟩)⟩)⟩)⟩)⟩)⟩)⟩)⟩)⟩)⟩)⟩) (by decide +kernel)
set_option maxRecDepth 20000 in
theorem ggL_isSo_X6_count_p2 : GoodIn wsL_isSo wsX6_count_r2 := goodIn_sub (List.forall_mem_cons.mpr ⟨List.mem_of_getElem? (i := 141) rfl, (List.forall_mem_cons.mpr ⟨List.mem_of_getElem? (i := 142) rfl, (List.forall_mem_cons.mpr ⟨List.mem_of_getElem? (i := 143) rfl, (List.forall_mem_cons.mpr ⟨List.mem_of_getElem? (i := 144) rfl, (List.forall_mem_cons.mpr ⟨List.mem_of_getElem? (i := 119) rfl, (List.forall_mem_cons.mpr ⟨List.mem_of_getElem? (i := 145) rfl, (List.forall_mem_cons.mpr ⟨List.mem_of_getElem? (i := 146) rfl, (List.forall_mem_cons.mpr ⟨List.mem_of_getElem? (i := 147) rfl, (List.forall_mem_cons.mpr ⟨List.mem_of_getElem? (i := 148) rfl, (List.forall_mem_cons.mpr ⟨List.mem_of_getElem? (i := 149) rfl, (List.forall_mem_cons.mpr ⟨List.mem_of_getElem? (i := 150) rfl, (List.forall_mem_cons.mpr ⟨List.mem_of_getElem? (i := 151) rfl, (List.forall_mem_cons.mpr ⟨List.mem_of_getElem? (i := 152) rfl, (List.forall_mem_cons.mpr ⟨List.mem_of_getElem? (i := 153) rfl, (List.forall_mem_cons.mpr ⟨List.mem_of_getElem? (i := 154) rfl, (List.forall_mem_cons.mpr ⟨List.mem_of_getElem? (i := 155) rfl, (List.forall_mem_cons.mpr ⟨List.mem_of_getElem? (i := 121) rfl, (List.forall_mem_cons.mpr ⟨List.mem_of_getElem? (i := 120) rfl, (List.forall_mem_cons.mpr ⟨List.mem_of_getElem? (i := 156) rfl, (List.forall_mem_cons.mpr ⟨List.mem_of_getElem? (i := 157) rfl, (List.forall_mem_cons.mpr ⟨List.mem_of_getElem? (i := 158) rfl, (List.forall_mem_cons.mpr ⟨List.mem_of_getElem? (i := 41) rfl, (List.forall_mem_cons.mpr ⟨List.mem_of_getElem? (i := 159) rfl, (List.forall_mem_cons.mpr ⟨List.mem_of_getElem? (i := 160) rfl, (fun _ h => absurd h List.not_mem_nil)⟩)⟩)⟩)⟩)⟩)⟩)⟩)⟩)⟩)⟩)⟩)⟩)⟩)⟩)⟩)⟩)⟩)⟩)⟩)⟩)⟩)⟩)⟩)⟩) (by decide +kernel)
set_option maxRecDepth 20000 in
theorem ggL_isSo_X6_count_p3 : GoodIn wsL_isSo wsX6_count_r3 := goodIn_sub (List.forall_mem_cons.mpr ⟨List.mem_of_getElem? (i := 161) rfl, (List.forall_mem_cons.mpr ⟨List.mem_of_getElem? (i := 162) rfl, (List.forall_mem_cons.mpr ⟨List.mem_of_getElem? (i := 163) rfl, (List.forall_mem_cons.mpr ⟨List.mem_of_getElem? (i := 164) rfl, (List.forall_mem_cons.mpr ⟨List.mem_of_getElem? (i := 165) rfl, (List.forall_mem_cons.mpr ⟨List.mem_of_getElem? (i := 166) rfl, (List.forall_mem_cons.mpr ⟨List.mem_of_getElem? (i := 167) rfl, (List.forall_mem_cons.mpr ⟨List.mem_of_getElem? (i := 122) rfl, (List.forall_mem_cons.mpr ⟨List.mem_of_getElem? (i := 105) rfl, (List.forall_mem_cons.mpr ⟨List.mem_of_getElem? (i := 106) rfl, (List.forall_mem_cons.mpr ⟨List.mem_of_getElem? (i := 100) rfl, (List.forall_mem_cons.mpr ⟨List.mem_of_getElem? (i := 107) rfl, (List.forall_mem_cons.mpr ⟨List.mem_of_getElem? (i := 102) rfl, (List.forall_mem_cons.mpr ⟨List.mem_of_getElem? (i := 103) rfl, (List.forall_mem_cons.mpr ⟨List.mem_of_getElem? (i := 108) rfl, (List.forall_mem_cons.mpr ⟨List.mem_of_getElem? (i := 168) rfl, (List.forall_mem_cons.mpr ⟨List.mem_of_getElem? (i := 169) rfl, (List.forall_mem_cons.mpr ⟨List.mem_of_getElem? (i := 170) rfl, (List.forall_mem_cons.mpr ⟨List.mem_of_getElem? (i := 171) rfl, (List.forall_mem_cons.mpr ⟨List.mem_of_getElem? (i := 172) rfl, (List.forall_mem_cons.mpr ⟨List.mem_of_getElem? (i := 115) rfl, (List.forall_mem_cons.mpr ⟨List.mem_of_getElem? (i := 116) rfl, (List.forall_mem_cons.mpr ⟨List.mem_of_getElem? (i := 118) rfl, (List.forall_mem_cons.mpr ⟨List.mem_of_getElem? (i := 173) rfl, (fun _ h => absurd h List.not_mem_nil)⟩)⟩)⟩)⟩)⟩)⟩)⟩)⟩)⟩)⟩)⟩)⟩)⟩)⟩)⟩)⟩)⟩)⟩)⟩)⟩)⟩)⟩)⟩)⟩) (by decide +kernel)
set_option maxRecDepth 20000 in
theorem ggL_isSo_X6_count_p4 : GoodIn wsL_isSo wsX6_count_r4 := goodIn_sub (List.forall_mem_cons.mpr ⟨List.mem_of_getElem? (i := 174) rfl, (List.forall_mem_cons.mpr ⟨List.mem_of_getElem? (i := 175) rfl, (List.forall_mem_cons.mpr ⟨List.mem_of_getElem? (i := 26) rfl, (List.forall_mem_cons.mpr ⟨List.mem_of_getElem? (i := 176) rfl, (List.forall_mem_cons.mpr ⟨List.mem_of_getElem? (i := 38) rfl, (List.forall_mem_cons.mpr ⟨List.mem_of_getElem? (i := 177) rfl, (List.forall_mem_cons.mpr ⟨List.mem_of_getElem? (i := 30) rfl, (List.forall_mem_cons.mpr ⟨List.mem_of_getElem? (i := 31) rfl, (List.forall_mem_cons.mpr ⟨List.mem_of_getElem? (i := 32) rfl, (List.forall_mem_cons.mpr ⟨List.mem_of_getElem? (i := 33) rfl, (List.forall_mem_cons.mpr ⟨List.mem_of_getElem? (i := 34) rfl, (List.forall_mem_cons.mpr ⟨List.mem_of_getElem? (i := 35) rfl, (List.forall_mem_cons.mpr ⟨List.mem_of_getElem? (i := 36) rfl, (List.forall_mem_cons.mpr ⟨List.mem_of_getElem? (i := 37) rfl, (fun _ h => absurd h List.not_mem_nil)⟩)⟩)⟩)⟩)⟩)⟩)⟩)⟩)⟩)⟩)⟩)⟩)⟩)⟩) (by decide +kernel)
set_option maxRecDepth 20000 in
theorem ggL_isSo_X6_count_p5 : GoodIn wsL_isSo wsX60 := goodIn_r _ [187, 188, 189, 190] (by decide +kernel) (by decide +kernel)
set_option maxRecDepth 20000 in
theorem ggL_isSo_X6_count_p6 : GoodIn wsL_isSo wsX30 := goodIn_r _ [191, 192, 193, 194, 195] (by decide +kernel) (by decide +kernel)
set_option maxRecDepth 20000 in
theorem ggL_isSo_X6_count_p7 : GoodIn wsL_isSo wsX20 := goodIn_r _ [196, 197, 198] (by decide +kernel) (by decide +kernel)
set_option maxRecDepth 20000 in
theorem ggL_isSo_X6_count_p8 : GoodIn wsL_isSo wsX10 := goodIn_r _ [210, 211, 212] (by decide +kernel) (by decide +kernel)
set_option maxRecDepth 20000 in
theorem ggL_isSo_X6_count_p9 : GoodIn wsL_isSo wsX50 := goodIn_r _ [199, 200, 201, 202, 203, 204, 205, 206, 207, 208, 209] (by decide +kernel) (by decide +kernel)
set_option maxRecDepth 20000 in
theorem ggL_isSo_X6_count_p10 : GoodIn wsL_isSo wsX00 := goodIn_r _ [213, 214] (by decide +kernel) (by decide +kernel)
set_option maxRecDepth 20000 in
theorem ggL_isSo_X6_count_p11 : GoodIn wsL_isSo wsX40 := goodIn_r _ [215, 216, 217, 218, 219, 220, 221, 222, 223, 224, 225] (by decide +kernel) (by decide +kernel)
set_option maxRecDepth 20000 in
theorem ggL_isSo_X6_count : GoodIn wsL_isSo wsX6_count := by
  show GoodIn wsL_isSo ([Cond.code yX6_count cX6_count 2 (some .int)] ++ ((wsX6_count_r1 ++ (wsX6_count_r2 ++ (wsX6_count_r3 ++ wsX6_count_r4))) ++ wsX60 ++ wsX30 ++ wsX20 ++ wsX10 ++ wsX50 ++ wsX00 ++ wsX40))
  exact goodIn_app ggL_isSo_X6_count_p0 (goodIn_app (goodIn_app (goodIn_app (goodIn_app (goodIn_app (goodIn_app (goodIn_app (goodIn_app ggL_isSo_X6_count_p1 (goodIn_app ggL_isSo_X6_count_p2 (goodIn_app ggL_isSo_X6_count_p3 ggL_isSo_X6_count_p4))) ggL_isSo_X6_count_p5) ggL_isSo_X6_count_p6) ggL_isSo_X6_count_p7) ggL_isSo_X6_count_p8) ggL_isSo_X6_count_p9) ggL_isSo_X6_count_p10) ggL_isSo_X6_count_p11)
set_option maxRecDepth 20000 in
theorem gL_isSo_X6_count : GoodIn wsL_isSo (wsV RL 133 RX6 yX6_count wsX6_count) := goodIn_app (goodIn_of _ (by decide +kernel)) ggL_isSo_X6_count
set_option maxRecDepth 20000 in
theorem ggL_isSo_L_along : GoodIn wsL_isSo wsL_along := goodIn_r _ [180] (by decide +kernel) (by decide +kernel)
set_option maxRecDepth 20000 in
theorem gL_isSo_L_along : GoodIn wsL_isSo (va_wsS RL 56 yL_along wsL_along) := goodIn_app (goodIn_of _ (by decide +kernel)) ggL_isSo_L_along
set_option maxRecDepth 20000 in
theorem ggL_isSo_L_need : GoodIn wsL_isSo wsL_need := goodIn_r _ [183, 76, 77, 5, 78] (by decide +kernel) (by decide +kernel)
set_option maxRecDepth 20000 in
theorem gL_isSo_L_need : GoodIn wsL_isSo (va_wsS RL 64 yL_need wsL_need) := goodIn_app (goodIn_of _ (by decide +kernel)) ggL_isSo_L_need
set_option maxRecDepth 20000 in
theorem ggL_isSo_L_ones : GoodIn wsL_isSo wsL_ones := goodIn_r _ [186] (by decide +kernel) (by decide +kernel)
set_option maxRecDepth 20000 in
theorem gL_isSo_L_ones : GoodIn wsL_isSo (va_wsS RL 77 yL_ones wsL_ones) := goodIn_app (goodIn_of _ (by decide +kernel)) ggL_isSo_L_ones
theorem dL_isSo_0 : decode cL_isSo 0 = .ok (.iconst 0, 1) := by decide +kernel
theorem dL_isSo_1 : decode cL_isSo 1 = .ok (.istore 7, 2) := by decide +kernel
theorem dL_isSo_3 : decode cL_isSo 3 = .ok (.iconst 0, 1) := by decide +kernel
theorem dL_isSo_4 : decode cL_isSo 4 = .ok (.istore 8, 2) := by decide +kernel
theorem dL_isSo_6 : decode cL_isSo 6 = .ok (.aload_n 0, 1) := by decide +kernel
theorem dL_isSo_7 : decode cL_isSo 7 = .ok (.aload_n 1, 1) := by decide +kernel
theorem dL_isSo_8 : decode cL_isSo 8 = .ok (.aload_n 2, 1) := by decide +kernel
theorem dL_isSo_9 : decode cL_isSo 9 = .ok (.aload_n 3, 1) := by decide +kernel
theorem dL_isSo_10 : decode cL_isSo 10 = .ok (.aload 4, 2) := by decide +kernel
theorem dL_isSo_12 : decode cL_isSo 12 = .ok (.invokestatic 119, 3) := by decide +kernel
theorem dL_isSo_15 : decode cL_isSo 15 = .ok (.istore 9, 2) := by decide +kernel
theorem dL_isSo_17 : decode cL_isSo 17 = .ok (.iconst 0, 1) := by decide +kernel
theorem dL_isSo_18 : decode cL_isSo 18 = .ok (.istore 10, 2) := by decide +kernel
theorem dL_isSo_20 : decode cL_isSo 20 = .ok (.iload 10, 2) := by decide +kernel
theorem dL_isSo_22 : decode cL_isSo 22 = .ok (.bipush 36, 2) := by decide +kernel
theorem dL_isSo_24 : decode cL_isSo 24 = .ok (.if_icmp .ge 267, 3) := by decide +kernel
theorem dL_isSo_27 : decode cL_isSo 27 = .ok (.iload 9, 2) := by decide +kernel
theorem dL_isSo_29 : decode cL_isSo 29 = .ok (.ifCond .eq 262, 3) := by decide +kernel
theorem dL_isSo_32 : decode cL_isSo 32 = .ok (.iload 10, 2) := by decide +kernel
theorem dL_isSo_34 : decode cL_isSo 34 = .ok (.bipush 6, 2) := by decide +kernel
theorem dL_isSo_36 : decode cL_isSo 36 = .ok (.idiv, 1) := by decide +kernel
theorem dL_isSo_37 : decode cL_isSo 37 = .ok (.istore 11, 2) := by decide +kernel
theorem dL_isSo_39 : decode cL_isSo 39 = .ok (.iload 10, 2) := by decide +kernel
theorem dL_isSo_41 : decode cL_isSo 41 = .ok (.bipush 6, 2) := by decide +kernel
theorem dL_isSo_43 : decode cL_isSo 43 = .ok (.irem, 1) := by decide +kernel
theorem dL_isSo_44 : decode cL_isSo 44 = .ok (.istore 12, 2) := by decide +kernel
theorem dL_isSo_46 : decode cL_isSo 46 = .ok (.aload 6, 2) := by decide +kernel
theorem dL_isSo_48 : decode cL_isSo 48 = .ok (.iconst 0, 1) := by decide +kernel
theorem dL_isSo_49 : decode cL_isSo 49 = .ok (.laload, 1) := by decide +kernel
theorem dL_isSo_50 : decode cL_isSo 50 = .ok (.iload 10, 2) := by decide +kernel
theorem dL_isSo_52 : decode cL_isSo 52 = .ok (.lshr, 1) := by decide +kernel
theorem dL_isSo_53 : decode cL_isSo 53 = .ok (.lconst 1, 1) := by decide +kernel
theorem dL_isSo_54 : decode cL_isSo 54 = .ok (.land, 1) := by decide +kernel
theorem dL_isSo_55 : decode cL_isSo 55 = .ok (.lconst 1, 1) := by decide +kernel
theorem dL_isSo_56 : decode cL_isSo 56 = .ok (.lcmp, 1) := by decide +kernel
theorem dL_isSo_57 : decode cL_isSo 57 = .ok (.ifCond .ne 7, 3) := by decide +kernel
theorem dL_isSo_60 : decode cL_isSo 60 = .ok (.iconst 1, 1) := by decide +kernel
theorem dL_isSo_61 : decode cL_isSo 61 = .ok (.goto 4, 3) := by decide +kernel
theorem dL_isSo_64 : decode cL_isSo 64 = .ok (.iconst 0, 1) := by decide +kernel
theorem dL_isSo_65 : decode cL_isSo 65 = .ok (.istore 13, 2) := by decide +kernel
theorem dL_isSo_67 : decode cL_isSo 67 = .ok (.iload 11, 2) := by decide +kernel
theorem dL_isSo_69 : decode cL_isSo 69 = .ok (.aload_n 1, 1) := by decide +kernel
theorem dL_isSo_70 : decode cL_isSo 70 = .ok (.iconst 1, 1) := by decide +kernel
theorem dL_isSo_71 : decode cL_isSo 71 = .ok (.iaload, 1) := by decide +kernel
theorem dL_isSo_72 : decode cL_isSo 72 = .ok (.if_icmp .ge 15, 3) := by decide +kernel
theorem dL_isSo_75 : decode cL_isSo 75 = .ok (.iload 12, 2) := by decide +kernel
theorem dL_isSo_77 : decode cL_isSo 77 = .ok (.aload_n 1, 1) := by decide +kernel
theorem dL_isSo_78 : decode cL_isSo 78 = .ok (.iconst 3, 1) := by decide +kernel
theorem dL_isSo_79 : decode cL_isSo 79 = .ok (.iaload, 1) := by decide +kernel
theorem dL_isSo_80 : decode cL_isSo 80 = .ok (.if_icmp .ge 7, 3) := by decide +kernel
theorem dL_isSo_83 : decode cL_isSo 83 = .ok (.iconst 1, 1) := by decide +kernel
theorem dL_isSo_84 : decode cL_isSo 84 = .ok (.goto 4, 3) := by decide +kernel
theorem dL_isSo_87 : decode cL_isSo 87 = .ok (.iconst 0, 1) := by decide +kernel
theorem dL_isSo_88 : decode cL_isSo 88 = .ok (.istore 14, 2) := by decide +kernel
theorem dL_isSo_90 : decode cL_isSo 90 = .ok (.iload 7, 2) := by decide +kernel
theorem dL_isSo_92 : decode cL_isSo 92 = .ok (.iload 13, 2) := by decide +kernel
theorem dL_isSo_94 : decode cL_isSo 94 = .ok (.ifCond .eq 25, 3) := by decide +kernel
theorem dL_isSo_97 : decode cL_isSo 97 = .ok (.aload 5, 2) := by decide +kernel
theorem dL_isSo_99 : decode cL_isSo 99 = .ok (.iload 10, 2) := by decide +kernel
theorem dL_isSo_101 : decode cL_isSo 101 = .ok (.iaload, 1) := by decide +kernel
theorem dL_isSo_102 : decode cL_isSo 102 = .ok (.aload_n 1, 1) := by decide +kernel
theorem dL_isSo_103 : decode cL_isSo 103 = .ok (.aload_n 2, 1) := by decide +kernel
theorem dL_isSo_104 : decode cL_isSo 104 = .ok (.aload_n 3, 1) := by decide +kernel
theorem dL_isSo_105 : decode cL_isSo 105 = .ok (.iload 11, 2) := by decide +kernel
theorem dL_isSo_107 : decode cL_isSo 107 = .ok (.iload 12, 2) := by decide +kernel
theorem dL_isSo_109 : decode cL_isSo 109 = .ok (.invokestatic 123, 3) := by decide +kernel
theorem dL_isSo_112 : decode cL_isSo 112 = .ok (.if_icmp .eq 7, 3) := by decide +kernel
theorem dL_isSo_115 : decode cL_isSo 115 = .ok (.iconst 1, 1) := by decide +kernel
theorem dL_isSo_116 : decode cL_isSo 116 = .ok (.goto 4, 3) := by decide +kernel
theorem dL_isSo_119 : decode cL_isSo 119 = .ok (.iconst 0, 1) := by decide +kernel
theorem dL_isSo_120 : decode cL_isSo 120 = .ok (.iadd, 1) := by decide +kernel
theorem dL_isSo_121 : decode cL_isSo 121 = .ok (.istore 7, 2) := by decide +kernel
theorem dL_isSo_123 : decode cL_isSo 123 = .ok (.aload_n 0, 1) := by decide +kernel
theorem dL_isSo_124 : decode cL_isSo 124 = .ok (.iconst 0, 1) := by decide +kernel
theorem dL_isSo_125 : decode cL_isSo 125 = .ok (.iload 11, 2) := by decide +kernel
theorem dL_isSo_127 : decode cL_isSo 127 = .ok (.iload 12, 2) := by decide +kernel
theorem dL_isSo_129 : decode cL_isSo 129 = .ok (.invokevirtual 127, 3) := by decide +kernel
theorem dL_isSo_132 : decode cL_isSo 132 = .ok (.iload 11, 2) := by decide +kernel
theorem dL_isSo_134 : decode cL_isSo 134 = .ok (.aload_n 1, 1) := by decide +kernel
theorem dL_isSo_135 : decode cL_isSo 135 = .ok (.iconst 1, 1) := by decide +kernel
theorem dL_isSo_136 : decode cL_isSo 136 = .ok (.iaload, 1) := by decide +kernel
theorem dL_isSo_137 : decode cL_isSo 137 = .ok (.if_icmp .ge 18, 3) := by decide +kernel
theorem dL_isSo_140 : decode cL_isSo 140 = .ok (.iload 12, 2) := by decide +kernel
theorem dL_isSo_142 : decode cL_isSo 142 = .ok (.aload_n 1, 1) := by decide +kernel
theorem dL_isSo_143 : decode cL_isSo 143 = .ok (.iconst 2, 1) := by decide +kernel
theorem dL_isSo_144 : decode cL_isSo 144 = .ok (.iaload, 1) := by decide +kernel
theorem dL_isSo_145 : decode cL_isSo 145 = .ok (.if_icmp .ge 10, 3) := by decide +kernel
theorem dL_isSo_148 : decode cL_isSo 148 = .ok (.aload_n 2, 1) := by decide +kernel
theorem dL_isSo_149 : decode cL_isSo 149 = .ok (.iload 10, 2) := by decide +kernel
theorem dL_isSo_151 : decode cL_isSo 151 = .ok (.iaload, 1) := by decide +kernel
theorem dL_isSo_152 : decode cL_isSo 152 = .ok (.goto 5, 3) := by decide +kernel
theorem dL_isSo_155 : decode cL_isSo 155 = .ok (.ldc 115, 2) := by decide +kernel
theorem dL_isSo_157 : decode cL_isSo 157 = .ok (.if_icmp .ne 44, 3) := by decide +kernel
theorem dL_isSo_160 : decode cL_isSo 160 = .ok (.aload_n 0, 1) := by decide +kernel
theorem dL_isSo_161 : decode cL_isSo 161 = .ok (.iconst 1, 1) := by decide +kernel
theorem dL_isSo_162 : decode cL_isSo 162 = .ok (.iload 11, 2) := by decide +kernel
theorem dL_isSo_164 : decode cL_isSo 164 = .ok (.iload 12, 2) := by decide +kernel
theorem dL_isSo_166 : decode cL_isSo 166 = .ok (.invokevirtual 127, 3) := by decide +kernel
theorem dL_isSo_169 : decode cL_isSo 169 = .ok (.iload 11, 2) := by decide +kernel
theorem dL_isSo_171 : decode cL_isSo 171 = .ok (.aload_n 1, 1) := by decide +kernel
theorem dL_isSo_172 : decode cL_isSo 172 = .ok (.iconst 2, 1) := by decide +kernel
theorem dL_isSo_173 : decode cL_isSo 173 = .ok (.iaload, 1) := by decide +kernel
theorem dL_isSo_174 : decode cL_isSo 174 = .ok (.if_icmp .ge 18, 3) := by decide +kernel
theorem dL_isSo_177 : decode cL_isSo 177 = .ok (.iload 12, 2) := by decide +kernel
theorem dL_isSo_179 : decode cL_isSo 179 = .ok (.aload_n 1, 1) := by decide +kernel
theorem dL_isSo_180 : decode cL_isSo 180 = .ok (.iconst 3, 1) := by decide +kernel
theorem dL_isSo_181 : decode cL_isSo 181 = .ok (.iaload, 1) := by decide +kernel
theorem dL_isSo_182 : decode cL_isSo 182 = .ok (.if_icmp .ge 10, 3) := by decide +kernel
theorem dL_isSo_185 : decode cL_isSo 185 = .ok (.aload_n 3, 1) := by decide +kernel
theorem dL_isSo_186 : decode cL_isSo 186 = .ok (.iload 10, 2) := by decide +kernel
theorem dL_isSo_188 : decode cL_isSo 188 = .ok (.iaload, 1) := by decide +kernel
theorem dL_isSo_189 : decode cL_isSo 189 = .ok (.goto 5, 3) := by decide +kernel
theorem dL_isSo_192 : decode cL_isSo 192 = .ok (.ldc 115, 2) := by decide +kernel
theorem dL_isSo_194 : decode cL_isSo 194 = .ok (.if_icmp .ne 7, 3) := by decide +kernel
theorem dL_isSo_197 : decode cL_isSo 197 = .ok (.iconst 1, 1) := by decide +kernel
theorem dL_isSo_198 : decode cL_isSo 198 = .ok (.goto 4, 3) := by decide +kernel
theorem dL_isSo_201 : decode cL_isSo 201 = .ok (.iconst 0, 1) := by decide +kernel
theorem dL_isSo_202 : decode cL_isSo 202 = .ok (.istore 9, 2) := by decide +kernel
theorem dL_isSo_204 : decode cL_isSo 204 = .ok (.iload 9, 2) := by decide +kernel
theorem dL_isSo_206 : decode cL_isSo 206 = .ok (.ifCond .eq 76, 3) := by decide +kernel
theorem dL_isSo_209 : decode cL_isSo 209 = .ok (.aload_n 0, 1) := by decide +kernel
theorem dL_isSo_210 : decode cL_isSo 210 = .ok (.iload 11, 2) := by decide +kernel
theorem dL_isSo_212 : decode cL_isSo 212 = .ok (.iload 12, 2) := by decide +kernel
theorem dL_isSo_214 : decode cL_isSo 214 = .ok (.iconst 0, 1) := by decide +kernel
theorem dL_isSo_215 : decode cL_isSo 215 = .ok (.invokevirtual 130, 3) := by decide +kernel
theorem dL_isSo_218 : decode cL_isSo 218 = .ok (.iload 14, 2) := by decide +kernel
theorem dL_isSo_220 : decode cL_isSo 220 = .ok (.ifCond .ne 8, 3) := by decide +kernel
theorem dL_isSo_223 : decode cL_isSo 223 = .ok (.ldc 115, 2) := by decide +kernel
theorem dL_isSo_225 : decode cL_isSo 225 = .ok (.goto 18, 3) := by decide +kernel
theorem dL_isSo_228 : decode cL_isSo 228 = .ok (.iload 13, 2) := by decide +kernel
theorem dL_isSo_230 : decode cL_isSo 230 = .ok (.ifCond .eq 11, 3) := by decide +kernel
theorem dL_isSo_233 : decode cL_isSo 233 = .ok (.aload 5, 2) := by decide +kernel
theorem dL_isSo_235 : decode cL_isSo 235 = .ok (.iload 10, 2) := by decide +kernel
theorem dL_isSo_237 : decode cL_isSo 237 = .ok (.iaload, 1) := by decide +kernel
theorem dL_isSo_238 : decode cL_isSo 238 = .ok (.goto 5, 3) := by decide +kernel
theorem dL_isSo_241 : decode cL_isSo 241 = .ok (.ldc 44, 2) := by decide +kernel
theorem dL_isSo_243 : decode cL_isSo 243 = .ok (.if_icmp .ne 39, 3) := by decide +kernel
theorem dL_isSo_246 : decode cL_isSo 246 = .ok (.aload_n 0, 1) := by decide +kernel
theorem dL_isSo_247 : decode cL_isSo 247 = .ok (.iload 11, 2) := by decide +kernel
theorem dL_isSo_249 : decode cL_isSo 249 = .ok (.iload 12, 2) := by decide +kernel
theorem dL_isSo_251 : decode cL_isSo 251 = .ok (.iconst 1, 1) := by decide +kernel
theorem dL_isSo_252 : decode cL_isSo 252 = .ok (.invokevirtual 130, 3) := by decide +kernel
theorem dL_isSo_255 : decode cL_isSo 255 = .ok (.iload 14, 2) := by decide +kernel
theorem dL_isSo_257 : decode cL_isSo 257 = .ok (.ifCond .eq 16, 3) := by decide +kernel
theorem dL_isSo_260 : decode cL_isSo 260 = .ok (.aload_n 1, 1) := by decide +kernel
theorem dL_isSo_261 : decode cL_isSo 261 = .ok (.aload_n 2, 1) := by decide +kernel
theorem dL_isSo_262 : decode cL_isSo 262 = .ok (.aload_n 3, 1) := by decide +kernel
theorem dL_isSo_263 : decode cL_isSo 263 = .ok (.iload 11, 2) := by decide +kernel
theorem dL_isSo_265 : decode cL_isSo 265 = .ok (.iload 12, 2) := by decide +kernel
theorem dL_isSo_267 : decode cL_isSo 267 = .ok (.invokestatic 123, 3) := by decide +kernel
theorem dL_isSo_270 : decode cL_isSo 270 = .ok (.goto 5, 3) := by decide +kernel
theorem dL_isSo_273 : decode cL_isSo 273 = .ok (.ldc 115, 2) := by decide +kernel
theorem dL_isSo_275 : decode cL_isSo 275 = .ok (.if_icmp .ne 7, 3) := by decide +kernel
theorem dL_isSo_278 : decode cL_isSo 278 = .ok (.iconst 1, 1) := by decide +kernel
theorem dL_isSo_279 : decode cL_isSo 279 = .ok (.goto 4, 3) := by decide +kernel
theorem dL_isSo_282 : decode cL_isSo 282 = .ok (.iconst 0, 1) := by decide +kernel
theorem dL_isSo_283 : decode cL_isSo 283 = .ok (.istore 9, 2) := by decide +kernel
theorem dL_isSo_285 : decode cL_isSo 285 = .ok (.iinc 10 1, 3) := by decide +kernel
theorem dL_isSo_288 : decode cL_isSo 288 = .ok (.goto (-268), 3) := by decide +kernel
theorem dL_isSo_291 : decode cL_isSo 291 = .ok (.iconst 0, 1) := by decide +kernel
theorem dL_isSo_292 : decode cL_isSo 292 = .ok (.istore 10, 2) := by decide +kernel
theorem dL_isSo_294 : decode cL_isSo 294 = .ok (.iload 10, 2) := by decide +kernel
theorem dL_isSo_296 : decode cL_isSo 296 = .ok (.bipush 20, 2) := by decide +kernel
theorem dL_isSo_298 : decode cL_isSo 298 = .ok (.if_icmp .ge 27, 3) := by decide +kernel
theorem dL_isSo_301 : decode cL_isSo 301 = .ok (.iload 8, 2) := by decide +kernel
theorem dL_isSo_303 : decode cL_isSo 303 = .ok (.aload 4, 2) := by decide +kernel
theorem dL_isSo_305 : decode cL_isSo 305 = .ok (.iload 10, 2) := by decide +kernel
theorem dL_isSo_307 : decode cL_isSo 307 = .ok (.iaload, 1) := by decide +kernel
theorem dL_isSo_308 : decode cL_isSo 308 = .ok (.ifCond .le 7, 3) := by decide +kernel
theorem dL_isSo_311 : decode cL_isSo 311 = .ok (.iconst 1, 1) := by decide +kernel
theorem dL_isSo_312 : decode cL_isSo 312 = .ok (.goto 4, 3) := by decide +kernel
theorem dL_isSo_315 : decode cL_isSo 315 = .ok (.iconst 0, 1) := by decide +kernel
theorem dL_isSo_316 : decode cL_isSo 316 = .ok (.iadd, 1) := by decide +kernel
theorem dL_isSo_317 : decode cL_isSo 317 = .ok (.istore 8, 2) := by decide +kernel
theorem dL_isSo_319 : decode cL_isSo 319 = .ok (.iinc 10 1, 3) := by decide +kernel
theorem dL_isSo_322 : decode cL_isSo 322 = .ok (.goto (-28), 3) := by decide +kernel
theorem dL_isSo_325 : decode cL_isSo 325 = .ok (.iconst 0, 1) := by decide +kernel
theorem dL_isSo_326 : decode cL_isSo 326 = .ok (.istore 10, 2) := by decide +kernel
theorem dL_isSo_328 : decode cL_isSo 328 = .ok (.iload 10, 2) := by decide +kernel
theorem dL_isSo_330 : decode cL_isSo 330 = .ok (.iconst 4, 1) := by decide +kernel
theorem dL_isSo_331 : decode cL_isSo 331 = .ok (.if_icmp .ge 34, 3) := by decide +kernel
theorem dL_isSo_334 : decode cL_isSo 334 = .ok (.iload 9, 2) := by decide +kernel
theorem dL_isSo_336 : decode cL_isSo 336 = .ok (.ifCond .eq 29, 3) := by decide +kernel
theorem dL_isSo_339 : decode cL_isSo 339 = .ok (.aload_n 0, 1) := by decide +kernel
theorem dL_isSo_340 : decode cL_isSo 340 = .ok (.iload 10, 2) := by decide +kernel
theorem dL_isSo_342 : decode cL_isSo 342 = .ok (.invokevirtual 133, 3) := by decide +kernel
theorem dL_isSo_345 : decode cL_isSo 345 = .ok (.aload_n 1, 1) := by decide +kernel
theorem dL_isSo_346 : decode cL_isSo 346 = .ok (.iload 10, 2) := by decide +kernel
theorem dL_isSo_348 : decode cL_isSo 348 = .ok (.iaload, 1) := by decide +kernel
theorem dL_isSo_349 : decode cL_isSo 349 = .ok (.if_icmp .ne 7, 3) := by decide +kernel
theorem dL_isSo_352 : decode cL_isSo 352 = .ok (.iconst 1, 1) := by decide +kernel
theorem dL_isSo_353 : decode cL_isSo 353 = .ok (.goto 4, 3) := by decide +kernel
theorem dL_isSo_356 : decode cL_isSo 356 = .ok (.iconst 0, 1) := by decide +kernel
theorem dL_isSo_357 : decode cL_isSo 357 = .ok (.istore 9, 2) := by decide +kernel
theorem dL_isSo_359 : decode cL_isSo 359 = .ok (.iinc 10 1, 3) := by decide +kernel
theorem dL_isSo_362 : decode cL_isSo 362 = .ok (.goto (-34), 3) := by decide +kernel
theorem dL_isSo_365 : decode cL_isSo 365 = .ok (.iload 9, 2) := by decide +kernel
theorem dL_isSo_367 : decode cL_isSo 367 = .ok (.ifCond .eq 173, 3) := by decide +kernel
theorem dL_isSo_370 : decode cL_isSo 370 = .ok (.iload 8, 2) := by decide +kernel
theorem dL_isSo_372 : decode cL_isSo 372 = .ok (.ifCond .gt 17, 3) := by decide +kernel
theorem dL_isSo_375 : decode cL_isSo 375 = .ok (.iload 7, 2) := by decide +kernel
theorem dL_isSo_377 : decode cL_isSo 377 = .ok (.ifCond .eq 12, 3) := by decide +kernel
theorem dL_isSo_380 : decode cL_isSo 380 = .ok (.aload 6, 2) := by decide +kernel
theorem dL_isSo_382 : decode cL_isSo 382 = .ok (.iconst 0, 1) := by decide +kernel
theorem dL_isSo_383 : decode cL_isSo 383 = .ok (.laload, 1) := by decide +kernel
theorem dL_isSo_384 : decode cL_isSo 384 = .ok (.lconst 0, 1) := by decide +kernel
theorem dL_isSo_385 : decode cL_isSo 385 = .ok (.lcmp, 1) := by decide +kernel
theorem dL_isSo_386 : decode cL_isSo 386 = .ok (.ifCond .eq 154, 3) := by decide +kernel
theorem dL_isSo_389 : decode cL_isSo 389 = .ok (.aload_n 0, 1) := by decide +kernel
theorem dL_isSo_390 : decode cL_isSo 390 = .ok (.iconst 4, 1) := by decide +kernel
theorem dL_isSo_391 : decode cL_isSo 391 = .ok (.invokevirtual 133, 3) := by decide +kernel
theorem dL_isSo_394 : decode cL_isSo 394 = .ok (.aload_n 1, 1) := by decide +kernel
theorem dL_isSo_395 : decode cL_isSo 395 = .ok (.aload_n 1, 1) := by decide +kernel
theorem dL_isSo_396 : decode cL_isSo 396 = .ok (.iconst 1, 1) := by decide +kernel
theorem dL_isSo_397 : decode cL_isSo 397 = .ok (.iaload, 1) := by decide +kernel
theorem dL_isSo_398 : decode cL_isSo 398 = .ok (.invokestatic 56, 3) := by decide +kernel
theorem dL_isSo_401 : decode cL_isSo 401 = .ok (.aload_n 1, 1) := by decide +kernel
theorem dL_isSo_402 : decode cL_isSo 402 = .ok (.aload_n 1, 1) := by decide +kernel
theorem dL_isSo_403 : decode cL_isSo 403 = .ok (.iconst 3, 1) := by decide +kernel
theorem dL_isSo_404 : decode cL_isSo 404 = .ok (.iaload, 1) := by decide +kernel
theorem dL_isSo_405 : decode cL_isSo 405 = .ok (.invokestatic 56, 3) := by decide +kernel
theorem dL_isSo_408 : decode cL_isSo 408 = .ok (.imul, 1) := by decide +kernel
theorem dL_isSo_409 : decode cL_isSo 409 = .ok (.if_icmp .ne 131, 3) := by decide +kernel
theorem dL_isSo_412 : decode cL_isSo 412 = .ok (.aload_n 0, 1) := by decide +kernel
theorem dL_isSo_413 : decode cL_isSo 413 = .ok (.iconst 5, 1) := by decide +kernel
theorem dL_isSo_414 : decode cL_isSo 414 = .ok (.invokevirtual 133, 3) := by decide +kernel
theorem dL_isSo_417 : decode cL_isSo 417 = .ok (.aload_n 1, 1) := by decide +kernel
theorem dL_isSo_418 : decode cL_isSo 418 = .ok (.iconst 4, 1) := by decide +kernel
theorem dL_isSo_419 : decode cL_isSo 419 = .ok (.iaload, 1) := by decide +kernel
theorem dL_isSo_420 : decode cL_isSo 420 = .ok (.if_icmp .ne 120, 3) := by decide +kernel
theorem dL_isSo_423 : decode cL_isSo 423 = .ok (.aload_n 0, 1) := by decide +kernel
theorem dL_isSo_424 : decode cL_isSo 424 = .ok (.bipush 6, 2) := by decide +kernel
theorem dL_isSo_426 : decode cL_isSo 426 = .ok (.invokevirtual 133, 3) := by decide +kernel
theorem dL_isSo_429 : decode cL_isSo 429 = .ok (.aload_n 1, 1) := by decide +kernel
theorem dL_isSo_430 : decode cL_isSo 430 = .ok (.iconst 5, 1) := by decide +kernel
theorem dL_isSo_431 : decode cL_isSo 431 = .ok (.iaload, 1) := by decide +kernel
theorem dL_isSo_432 : decode cL_isSo 432 = .ok (.if_icmp .ne 108, 3) := by decide +kernel
theorem dL_isSo_435 : decode cL_isSo 435 = .ok (.aload_n 0, 1) := by decide +kernel
theorem dL_isSo_436 : decode cL_isSo 436 = .ok (.bipush 7, 2) := by decide +kernel
theorem dL_isSo_438 : decode cL_isSo 438 = .ok (.invokevirtual 133, 3) := by decide +kernel
theorem dL_isSo_441 : decode cL_isSo 441 = .ok (.aload_n 1, 1) := by decide +kernel
theorem dL_isSo_442 : decode cL_isSo 442 = .ok (.iconst 5, 1) := by decide +kernel
theorem dL_isSo_443 : decode cL_isSo 443 = .ok (.iaload, 1) := by decide +kernel
theorem dL_isSo_444 : decode cL_isSo 444 = .ok (.ifCond .ne 8, 3) := by decide +kernel
theorem dL_isSo_447 : decode cL_isSo 447 = .ok (.ldc 44, 2) := by decide +kernel
theorem dL_isSo_449 : decode cL_isSo 449 = .ok (.goto 7, 3) := by decide +kernel
theorem dL_isSo_452 : decode cL_isSo 452 = .ok (.aload_n 1, 1) := by decide +kernel
theorem dL_isSo_453 : decode cL_isSo 453 = .ok (.bipush 6, 2) := by decide +kernel
theorem dL_isSo_455 : decode cL_isSo 455 = .ok (.iaload, 1) := by decide +kernel
theorem dL_isSo_456 : decode cL_isSo 456 = .ok (.if_icmp .ne 84, 3) := by decide +kernel
theorem dL_isSo_459 : decode cL_isSo 459 = .ok (.aload_n 0, 1) := by decide +kernel
theorem dL_isSo_460 : decode cL_isSo 460 = .ok (.bipush 8, 2) := by decide +kernel
theorem dL_isSo_462 : decode cL_isSo 462 = .ok (.invokevirtual 133, 3) := by decide +kernel
theorem dL_isSo_465 : decode cL_isSo 465 = .ok (.aload_n 1, 1) := by decide +kernel
theorem dL_isSo_466 : decode cL_isSo 466 = .ok (.iconst 5, 1) := by decide +kernel
theorem dL_isSo_467 : decode cL_isSo 467 = .ok (.iaload, 1) := by decide +kernel
theorem dL_isSo_468 : decode cL_isSo 468 = .ok (.ifCond .ne 8, 3) := by decide +kernel
theorem dL_isSo_471 : decode cL_isSo 471 = .ok (.ldc 44, 2) := by decide +kernel
theorem dL_isSo_473 : decode cL_isSo 473 = .ok (.goto 7, 3) := by decide +kernel
theorem dL_isSo_476 : decode cL_isSo 476 = .ok (.aload_n 1, 1) := by decide +kernel
theorem dL_isSo_477 : decode cL_isSo 477 = .ok (.bipush 7, 2) := by decide +kernel
theorem dL_isSo_479 : decode cL_isSo 479 = .ok (.iaload, 1) := by decide +kernel
theorem dL_isSo_480 : decode cL_isSo 480 = .ok (.if_icmp .ne 60, 3) := by decide +kernel
theorem dL_isSo_483 : decode cL_isSo 483 = .ok (.aload_n 0, 1) := by decide +kernel
theorem dL_isSo_484 : decode cL_isSo 484 = .ok (.bipush 9, 2) := by decide +kernel
theorem dL_isSo_486 : decode cL_isSo 486 = .ok (.invokevirtual 133, 3) := by decide +kernel
theorem dL_isSo_489 : decode cL_isSo 489 = .ok (.aload_n 1, 1) := by decide +kernel
theorem dL_isSo_490 : decode cL_isSo 490 = .ok (.iconst 5, 1) := by decide +kernel
theorem dL_isSo_491 : decode cL_isSo 491 = .ok (.iaload, 1) := by decide +kernel
theorem dL_isSo_492 : decode cL_isSo 492 = .ok (.ifCond .ne 8, 3) := by decide +kernel
theorem dL_isSo_495 : decode cL_isSo 495 = .ok (.ldc 44, 2) := by decide +kernel
theorem dL_isSo_497 : decode cL_isSo 497 = .ok (.goto 7, 3) := by decide +kernel
theorem dL_isSo_500 : decode cL_isSo 500 = .ok (.aload_n 1, 1) := by decide +kernel
theorem dL_isSo_501 : decode cL_isSo 501 = .ok (.bipush 8, 2) := by decide +kernel
theorem dL_isSo_503 : decode cL_isSo 503 = .ok (.iaload, 1) := by decide +kernel
theorem dL_isSo_504 : decode cL_isSo 504 = .ok (.if_icmp .ne 36, 3) := by decide +kernel
theorem dL_isSo_507 : decode cL_isSo 507 = .ok (.aload_n 0, 1) := by decide +kernel
theorem dL_isSo_508 : decode cL_isSo 508 = .ok (.bipush 10, 2) := by decide +kernel
theorem dL_isSo_510 : decode cL_isSo 510 = .ok (.invokevirtual 133, 3) := by decide +kernel
theorem dL_isSo_513 : decode cL_isSo 513 = .ok (.aload_n 1, 1) := by decide +kernel
theorem dL_isSo_514 : decode cL_isSo 514 = .ok (.iconst 5, 1) := by decide +kernel
theorem dL_isSo_515 : decode cL_isSo 515 = .ok (.iaload, 1) := by decide +kernel
theorem dL_isSo_516 : decode cL_isSo 516 = .ok (.ifCond .ne 8, 3) := by decide +kernel
theorem dL_isSo_519 : decode cL_isSo 519 = .ok (.ldc 44, 2) := by decide +kernel
theorem dL_isSo_521 : decode cL_isSo 521 = .ok (.goto 12, 3) := by decide +kernel
theorem dL_isSo_524 : decode cL_isSo 524 = .ok (.aload_n 1, 1) := by decide +kernel
theorem dL_isSo_525 : decode cL_isSo 525 = .ok (.invokestatic 64, 3) := by decide +kernel
theorem dL_isSo_528 : decode cL_isSo 528 = .ok (.aload_n 1, 1) := by decide +kernel
theorem dL_isSo_529 : decode cL_isSo 529 = .ok (.bipush 8, 2) := by decide +kernel
theorem dL_isSo_531 : decode cL_isSo 531 = .ok (.iaload, 1) := by decide +kernel
theorem dL_isSo_532 : decode cL_isSo 532 = .ok (.isub, 1) := by decide +kernel
theorem dL_isSo_533 : decode cL_isSo 533 = .ok (.if_icmp .ne 7, 3) := by decide +kernel
theorem dL_isSo_536 : decode cL_isSo 536 = .ok (.iconst 1, 1) := by decide +kernel
theorem dL_isSo_537 : decode cL_isSo 537 = .ok (.goto 4, 3) := by decide +kernel
theorem dL_isSo_540 : decode cL_isSo 540 = .ok (.iconst 0, 1) := by decide +kernel
theorem dL_isSo_541 : decode cL_isSo 541 = .ok (.istore 9, 2) := by decide +kernel
theorem dL_isSo_543 : decode cL_isSo 543 = .ok (.iload 9, 2) := by decide +kernel
theorem dL_isSo_545 : decode cL_isSo 545 = .ok (.ifCond .eq 54, 3) := by decide +kernel
theorem dL_isSo_548 : decode cL_isSo 548 = .ok (.aload_n 0, 1) := by decide +kernel
theorem dL_isSo_549 : decode cL_isSo 549 = .ok (.bipush 11, 2) := by decide +kernel
theorem dL_isSo_551 : decode cL_isSo 551 = .ok (.invokevirtual 133, 3) := by decide +kernel
theorem dL_isSo_554 : decode cL_isSo 554 = .ok (.aload 6, 2) := by decide +kernel
theorem dL_isSo_556 : decode cL_isSo 556 = .ok (.iconst 0, 1) := by decide +kernel
theorem dL_isSo_557 : decode cL_isSo 557 = .ok (.laload, 1) := by decide +kernel
theorem dL_isSo_558 : decode cL_isSo 558 = .ok (.invokestatic 77, 3) := by decide +kernel
theorem dL_isSo_561 : decode cL_isSo 561 = .ok (.if_icmp .ne 38, 3) := by decide +kernel
theorem dL_isSo_564 : decode cL_isSo 564 = .ok (.aload_n 0, 1) := by decide +kernel
theorem dL_isSo_565 : decode cL_isSo 565 = .ok (.bipush 12, 2) := by decide +kernel
theorem dL_isSo_567 : decode cL_isSo 567 = .ok (.invokevirtual 133, 3) := by decide +kernel
theorem dL_isSo_570 : decode cL_isSo 570 = .ok (.iload 7, 2) := by decide +kernel
theorem dL_isSo_572 : decode cL_isSo 572 = .ok (.if_icmp .ne 27, 3) := by decide +kernel
theorem dL_isSo_575 : decode cL_isSo 575 = .ok (.aload_n 0, 1) := by decide +kernel
theorem dL_isSo_576 : decode cL_isSo 576 = .ok (.bipush 13, 2) := by decide +kernel
theorem dL_isSo_578 : decode cL_isSo 578 = .ok (.invokevirtual 133, 3) := by decide +kernel
theorem dL_isSo_581 : decode cL_isSo 581 = .ok (.iload 8, 2) := by decide +kernel
theorem dL_isSo_583 : decode cL_isSo 583 = .ok (.if_icmp .ne 16, 3) := by decide +kernel
theorem dL_isSo_586 : decode cL_isSo 586 = .ok (.aload_n 0, 1) := by decide +kernel
theorem dL_isSo_587 : decode cL_isSo 587 = .ok (.bipush 15, 2) := by decide +kernel
theorem dL_isSo_589 : decode cL_isSo 589 = .ok (.invokevirtual 133, 3) := by decide +kernel
theorem dL_isSo_592 : decode cL_isSo 592 = .ok (.ifCond .ne 7, 3) := by decide +kernel
theorem dL_isSo_595 : decode cL_isSo 595 = .ok (.iconst 1, 1) := by decide +kernel
theorem dL_isSo_596 : decode cL_isSo 596 = .ok (.goto 4, 3) := by decide +kernel
theorem dL_isSo_599 : decode cL_isSo 599 = .ok (.iconst 0, 1) := by decide +kernel
theorem dL_isSo_600 : decode cL_isSo 600 = .ok (.ireturn, 1) := by decide +kernel
