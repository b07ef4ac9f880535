set_option maxRecDepth 20000 in
theorem ggL_reads_X6_clearText : GoodIn wsL_reads wsX6_clearText := goodIn_r _ [7, 8, 9, 194, 195, 196, 197, 198, 199, 200, 201, 202, 203, 204, 205, 206, 207, 208] (by decide +kernel) (by decide +kernel)
set_option maxRecDepth 20000 in
theorem gL_reads_X6_clearText : GoodIn wsL_reads (wsV RL 33 RX6 yX6_clearText wsX6_clearText) := goodIn_app (goodIn_of _ (by decide +kernel)) ggL_reads_X6_clearText
set_option maxRecDepth 20000 in
theorem ggL_reads_X6_type_p0 : GoodIn wsL_reads [Cond.code yX6_type cX6_type 2 (some .int)] := goodIn_sub (List.forall_mem_cons.mpr ⟨List.mem_of_getElem? (i := 13) rfl, (fun _ h => absurd h List.not_mem_nil)⟩) (by decide +kernel)
set_option maxRecDepth 20000 in
theorem ggL_reads_X6_type_p1 : GoodIn wsL_reads [.constant RX6 33 (-1000001), .fieldLink RX6 29 "SkewedSquare" "text" "LSkewedSquare$Text;", .fieldLink RX6 177 "SkewedSquare$Text" "length" "I", .constant RX6 192 (-1000003), .methodLink RX6 193 yX4_append, .instanceMethod yX4_append, .selects RX4 yX4_append yX4_append, .initialized RX4, .code yX4_append cX4_append 2 none, .fieldLink RX4 22 "SkewedSquare$Text" "length" "I", .fieldLink RX4 9 "SkewedSquare$Text" "signs" "[C"] := goodIn_sub (List.forall_mem_cons.mpr ⟨List.mem_of_getElem? (i := 14) rfl, (List.forall_mem_cons.mpr ⟨List.mem_of_getElem? (i := 8) rfl, (List.forall_mem_cons.mpr ⟨List.mem_of_getElem? (i := 9) rfl, (List.forall_mem_cons.mpr ⟨List.mem_of_getElem? (i := 15) rfl, (List.forall_mem_cons.mpr ⟨List.mem_of_getElem? (i := 16) rfl, (List.forall_mem_cons.mpr ⟨List.mem_of_getElem? (i := 17) rfl, (List.forall_mem_cons.mpr ⟨List.mem_of_getElem? (i := 18) rfl, (List.forall_mem_cons.mpr ⟨List.mem_of_getElem? (i := 19) rfl, (List.forall_mem_cons.mpr ⟨List.mem_of_getElem? (i := 20) rfl, (List.forall_mem_cons.mpr ⟨List.mem_of_getElem? (i := 21) rfl, (List.forall_mem_cons.mpr ⟨List.mem_of_getElem? (i := 22) rfl, (fun _ h => absurd h List.not_mem_nil)⟩)⟩)⟩)⟩)⟩)⟩)⟩)⟩)⟩)⟩)⟩) (by decide +kernel)
set_option maxRecDepth 20000 in
theorem ggL_reads_X6_type_p2 : GoodIn wsL_reads wsX60 := goodIn_r _ [194, 195, 196, 197] (by decide +kernel) (by decide +kernel)
set_option maxRecDepth 20000 in
theorem ggL_reads_X6_type_p3 : GoodIn wsL_reads wsX40 := goodIn_r _ [198, 199, 200, 201, 202, 203, 204, 205, 206, 207, 208] (by decide +kernel) (by decide +kernel)
set_option maxRecDepth 20000 in
theorem ggL_reads_X6_type : GoodIn wsL_reads wsX6_type := by
  show GoodIn wsL_reads ([Cond.code yX6_type cX6_type 2 (some .int)] ++ ([.constant RX6 33 (-1000001), .fieldLink RX6 29 "SkewedSquare" "text" "LSkewedSquare$Text;", .fieldLink RX6 177 "SkewedSquare$Text" "length" "I", .constant RX6 192 (-1000003), .methodLink RX6 193 yX4_append, .instanceMethod yX4_append, .selects RX4 yX4_append yX4_append, .initialized RX4, .code yX4_append cX4_append 2 none, .fieldLink RX4 22 "SkewedSquare$Text" "length" "I", .fieldLink RX4 9 "SkewedSquare$Text" "signs" "[C"] ++ wsX60 ++ wsX40))
  exact goodIn_app ggL_reads_X6_type_p0 (goodIn_app (goodIn_app ggL_reads_X6_type_p1 ggL_reads_X6_type_p2) ggL_reads_X6_type_p3)
set_option maxRecDepth 20000 in
theorem gL_reads_X6_type : GoodIn wsL_reads (wsV RL 27 RX6 yX6_type wsX6_type) := goodIn_app (goodIn_of _ (by decide +kernel)) ggL_reads_X6_type
set_option maxRecDepth 20000 in
theorem ggL_reads_L_types_p0 : GoodIn wsL_reads [Cond.code yL_types cL_types 4 (some .boolean)] := goodIn_sub (List.forall_mem_cons.mpr ⟨List.mem_of_getElem? (i := 26) rfl, (fun _ h => absurd h List.not_mem_nil)⟩) (by decide +kernel)
set_option maxRecDepth 20000 in
theorem ggL_reads_L_types_p1 : GoodIn wsL_reads [.methodLink RL 27 yX6_type, .instanceMethod yX6_type, .selects RX6 yX6_type yX6_type, .initialized RX6, .code yX6_type cX6_type 2 (some .int), .constant RX6 33 (-1000001), .fieldLink RX6 29 "SkewedSquare" "text" "LSkewedSquare$Text;", .fieldLink RX6 177 "SkewedSquare$Text" "length" "I", .constant RX6 192 (-1000003), .methodLink RX6 193 yX4_append, .instanceMethod yX4_append, .selects RX4 yX4_append yX4_append, .initialized RX4, .code yX4_append cX4_append 2 none, .fieldLink RX4 22 "SkewedSquare$Text" "length" "I", .fieldLink RX4 9 "SkewedSquare$Text" "signs" "[C"] := goodIn_sub (List.forall_mem_cons.mpr ⟨List.mem_of_getElem? (i := 10) rfl, (List.forall_mem_cons.mpr ⟨List.mem_of_getElem? (i := 11) rfl, (List.forall_mem_cons.mpr ⟨List.mem_of_getElem? (i := 12) rfl, (List.forall_mem_cons.mpr ⟨List.mem_of_getElem? (i := 6) rfl, (List.forall_mem_cons.mpr ⟨List.mem_of_getElem? (i := 13) rfl, (List.forall_mem_cons.mpr ⟨List.mem_of_getElem? (i := 14) rfl, (List.forall_mem_cons.mpr ⟨List.mem_of_getElem? (i := 8) rfl, (List.forall_mem_cons.mpr ⟨List.mem_of_getElem? (i := 9) rfl, (List.forall_mem_cons.mpr ⟨List.mem_of_getElem? (i := 15) rfl, (List.forall_mem_cons.mpr ⟨List.mem_of_getElem? (i := 16) rfl, (List.forall_mem_cons.mpr ⟨List.mem_of_getElem? (i := 17) rfl, (List.forall_mem_cons.mpr ⟨List.mem_of_getElem? (i := 18) rfl, (List.forall_mem_cons.mpr ⟨List.mem_of_getElem? (i := 19) rfl, (List.forall_mem_cons.mpr ⟨List.mem_of_getElem? (i := 20) rfl, (List.forall_mem_cons.mpr ⟨List.mem_of_getElem? (i := 21) rfl, (List.forall_mem_cons.mpr ⟨List.mem_of_getElem? (i := 22) rfl, (fun _ h => absurd h List.not_mem_nil)⟩)⟩)⟩)⟩)⟩)⟩)⟩)⟩)⟩)⟩)⟩)⟩)⟩)⟩)⟩)⟩) (by decide +kernel)
set_option maxRecDepth 20000 in
theorem ggL_reads_L_types_p2 : GoodIn wsL_reads wsX60 := goodIn_r _ [194, 195, 196, 197] (by decide +kernel) (by decide +kernel)
set_option maxRecDepth 20000 in
theorem ggL_reads_L_types_p3 : GoodIn wsL_reads wsX40 := goodIn_r _ [198, 199, 200, 201, 202, 203, 204, 205, 206, 207, 208] (by decide +kernel) (by decide +kernel)
set_option maxRecDepth 20000 in
theorem ggL_reads_L_types : GoodIn wsL_reads wsL_types := by
  show GoodIn wsL_reads ([Cond.code yL_types cL_types 4 (some .boolean)] ++ ([.methodLink RL 27 yX6_type, .instanceMethod yX6_type, .selects RX6 yX6_type yX6_type, .initialized RX6, .code yX6_type cX6_type 2 (some .int), .constant RX6 33 (-1000001), .fieldLink RX6 29 "SkewedSquare" "text" "LSkewedSquare$Text;", .fieldLink RX6 177 "SkewedSquare$Text" "length" "I", .constant RX6 192 (-1000003), .methodLink RX6 193 yX4_append, .instanceMethod yX4_append, .selects RX4 yX4_append yX4_append, .initialized RX4, .code yX4_append cX4_append 2 none, .fieldLink RX4 22 "SkewedSquare$Text" "length" "I", .fieldLink RX4 9 "SkewedSquare$Text" "signs" "[C"] ++ wsX60 ++ wsX40))
  exact goodIn_app ggL_reads_L_types_p0 (goodIn_app (goodIn_app ggL_reads_L_types_p1 ggL_reads_L_types_p2) ggL_reads_L_types_p3)
set_option maxRecDepth 20000 in
theorem gL_reads_L_types : GoodIn wsL_reads (va_wsS RL 37 yL_types wsL_types) := goodIn_app (goodIn_of _ (by decide +kernel)) ggL_reads_L_types
set_option maxRecDepth 20000 in
theorem ggL_reads_X6_textFault_p0 : GoodIn wsL_reads [Cond.code yX6_textFault cX6_textFault 2 (some .int)] := goodIn_sub (List.forall_mem_cons.mpr ⟨List.mem_of_getElem? (i := 30) rfl, (fun _ h => absurd h List.not_mem_nil)⟩) (by decide +kernel)
set_option maxRecDepth 20000 in
theorem ggL_reads_X6_textFault_p1 : GoodIn wsL_reads wsX6_textFault_r1 := goodIn_sub (List.forall_mem_cons.mpr ⟨List.mem_of_getElem? (i := 14) rfl, (List.forall_mem_cons.mpr ⟨List.mem_of_getElem? (i := 8) rfl, (List.forall_mem_cons.mpr ⟨List.mem_of_getElem? (i := 31) rfl, (List.forall_mem_cons.mpr ⟨List.mem_of_getElem? (i := 32) rfl, (List.forall_mem_cons.mpr ⟨List.mem_of_getElem? (i := 33) rfl, (List.forall_mem_cons.mpr ⟨List.mem_of_getElem? (i := 34) rfl, (List.forall_mem_cons.mpr ⟨List.mem_of_getElem? (i := 35) rfl, (List.forall_mem_cons.mpr ⟨List.mem_of_getElem? (i := 36) rfl, (List.forall_mem_cons.mpr ⟨List.mem_of_getElem? (i := 19) rfl, (List.forall_mem_cons.mpr ⟨List.mem_of_getElem? (i := 37) rfl, (List.forall_mem_cons.mpr ⟨List.mem_of_getElem? (i := 21) rfl, (List.forall_mem_cons.mpr ⟨List.mem_of_getElem? (i := 22) rfl, (List.forall_mem_cons.mpr ⟨List.mem_of_getElem? (i := 38) rfl, (List.forall_mem_cons.mpr ⟨List.mem_of_getElem? (i := 39) rfl, (List.forall_mem_cons.mpr ⟨List.mem_of_getElem? (i := 40) rfl, (List.forall_mem_cons.mpr ⟨List.mem_of_getElem? (i := 41) rfl, (List.forall_mem_cons.mpr ⟨List.mem_of_getElem? (i := 42) rfl, (List.forall_mem_cons.mpr ⟨List.mem_of_getElem? (i := 43) rfl, (List.forall_mem_cons.mpr ⟨List.mem_of_getElem? (i := 44) rfl, (List.forall_mem_cons.mpr ⟨List.mem_of_getElem? (i := 45) rfl, (List.forall_mem_cons.mpr ⟨List.mem_of_getElem? (i := 46) rfl, (List.forall_mem_cons.mpr ⟨List.mem_of_getElem? (i := 47) rfl, (List.forall_mem_cons.mpr ⟨List.mem_of_getElem? (i := 48) rfl, (List.forall_mem_cons.mpr ⟨List.mem_of_getElem? (i := 49) rfl, (fun _ h => absurd h List.not_mem_nil)⟩)⟩)⟩)⟩)⟩)⟩)⟩)⟩)⟩)⟩)⟩)⟩)⟩)⟩)⟩)⟩)⟩)⟩)⟩)⟩)⟩)⟩)⟩)⟩) (by decide +kernel)
set_option maxRecDepth 20000 in
theorem ggL_reads_X6_textFault_p2 : GoodIn wsL_reads wsX6_textFault_r2 := goodIn_sub (List.forall_mem_cons.mpr ⟨List.mem_of_getElem? (i := 50) rfl, (List.forall_mem_cons.mpr ⟨List.mem_of_getElem? (i := 51) rfl, (List.forall_mem_cons.mpr ⟨List.mem_of_getElem? (i := 52) rfl, (List.forall_mem_cons.mpr ⟨List.mem_of_getElem? (i := 53) rfl, (List.forall_mem_cons.mpr ⟨List.mem_of_getElem? (i := 54) rfl, (List.forall_mem_cons.mpr ⟨List.mem_of_getElem? (i := 55) rfl, (List.forall_mem_cons.mpr ⟨List.mem_of_getElem? (i := 6) rfl, (List.forall_mem_cons.mpr ⟨List.mem_of_getElem? (i := 56) rfl, (List.forall_mem_cons.mpr ⟨List.mem_of_getElem? (i := 57) rfl, (List.forall_mem_cons.mpr ⟨List.mem_of_getElem? (i := 58) rfl, (List.forall_mem_cons.mpr ⟨List.mem_of_getElem? (i := 59) rfl, (List.forall_mem_cons.mpr ⟨List.mem_of_getElem? (i := 60) rfl, (List.forall_mem_cons.mpr ⟨List.mem_of_getElem? (i := 61) rfl, (List.forall_mem_cons.mpr ⟨List.mem_of_getElem? (i := 62) rfl, (List.forall_mem_cons.mpr ⟨List.mem_of_getElem? (i := 63) rfl, (List.forall_mem_cons.mpr ⟨List.mem_of_getElem? (i := 64) rfl, (List.forall_mem_cons.mpr ⟨List.mem_of_getElem? (i := 65) rfl, (List.forall_mem_cons.mpr ⟨List.mem_of_getElem? (i := 66) rfl, (List.forall_mem_cons.mpr ⟨List.mem_of_getElem? (i := 67) rfl, (List.forall_mem_cons.mpr ⟨List.mem_of_getElem? (i := 68) rfl, (List.forall_mem_cons.mpr ⟨List.mem_of_getElem? (i := 69) rfl, (List.forall_mem_cons.mpr ⟨List.mem_of_getElem? (i := 70) rfl, (List.forall_mem_cons.mpr ⟨List.mem_of_getElem? (i := 71) rfl, (List.forall_mem_cons.mpr ⟨List.mem_of_getElem? (i := 72) rfl, (fun _ h => absurd h List.not_mem_nil)⟩)⟩)⟩)⟩)⟩)⟩)⟩)⟩)⟩)⟩)⟩)⟩)⟩)⟩)⟩)⟩)⟩)⟩)⟩)⟩)⟩)⟩)⟩)⟩) (by decide +kernel)
set_option maxRecDepth 20000 in
theorem ggL_reads_X6_textFault_p3 : GoodIn wsL_reads wsX6_textFault_r3 := goodIn_sub (List.forall_mem_cons.mpr ⟨List.mem_of_getElem? (i := 73) rfl, (List.forall_mem_cons.mpr ⟨List.mem_of_getElem? (i := 74) rfl, (List.forall_mem_cons.mpr ⟨List.mem_of_getElem? (i := 75) rfl, (List.forall_mem_cons.mpr ⟨List.mem_of_getElem? (i := 76) rfl, (List.forall_mem_cons.mpr ⟨List.mem_of_getElem? (i := 77) rfl, (List.forall_mem_cons.mpr ⟨List.mem_of_getElem? (i := 78) rfl, (List.forall_mem_cons.mpr ⟨List.mem_of_getElem? (i := 79) rfl, (List.forall_mem_cons.mpr ⟨List.mem_of_getElem? (i := 80) rfl, (List.forall_mem_cons.mpr ⟨List.mem_of_getElem? (i := 81) rfl, (List.forall_mem_cons.mpr ⟨List.mem_of_getElem? (i := 82) rfl, (List.forall_mem_cons.mpr ⟨List.mem_of_getElem? (i := 83) rfl, (List.forall_mem_cons.mpr ⟨List.mem_of_getElem? (i := 84) rfl, (List.forall_mem_cons.mpr ⟨List.mem_of_getElem? (i := 85) rfl, (List.forall_mem_cons.mpr ⟨List.mem_of_getElem? (i := 86) rfl, (List.forall_mem_cons.mpr ⟨List.mem_of_getElem? (i := 87) rfl, (List.forall_mem_cons.mpr ⟨List.mem_of_getElem? (i := 88) rfl, (List.forall_mem_cons.mpr ⟨List.mem_of_getElem? (i := 89) rfl, (List.forall_mem_cons.mpr ⟨List.mem_of_getElem? (i := 90) rfl, (List.forall_mem_cons.mpr ⟨List.mem_of_getElem? (i := 91) rfl, (List.forall_mem_cons.mpr ⟨List.mem_of_getElem? (i := 92) rfl, (List.forall_mem_cons.mpr ⟨List.mem_of_getElem? (i := 93) rfl, (List.forall_mem_cons.mpr ⟨List.mem_of_getElem? (i := 94) rfl, (List.forall_mem_cons.mpr ⟨List.mem_of_getElem? (i := 95) rfl, (List.forall_mem_cons.mpr ⟨List.mem_of_getElem? (i := 96) rfl, (fun _ h => absurd h List.not_mem_nil)⟩)⟩)⟩)⟩)⟩)⟩)⟩)⟩)⟩)⟩)⟩)⟩)⟩)⟩)⟩)⟩)⟩)⟩)⟩)⟩)⟩)⟩)⟩)⟩) (by decide +kernel)
set_option maxRecDepth 20000 in
theorem ggL_reads_X6_textFault_p4 : GoodIn wsL_reads wsX6_textFault_r4 := goodIn_sub (List.forall_mem_cons.mpr ⟨List.mem_of_getElem? (i := 97) rfl, (List.forall_mem_cons.mpr ⟨List.mem_of_getElem? (i := 98) rfl, (List.forall_mem_cons.mpr ⟨List.mem_of_getElem? (i := 99) rfl, (List.forall_mem_cons.mpr ⟨List.mem_of_getElem? (i := 100) rfl, (List.forall_mem_cons.mpr ⟨List.mem_of_getElem? (i := 101) rfl, (List.forall_mem_cons.mpr ⟨List.mem_of_getElem? (i := 102) rfl, (List.forall_mem_cons.mpr ⟨List.mem_of_getElem? (i := 103) rfl, (List.forall_mem_cons.mpr ⟨List.mem_of_getElem? (i := 104) rfl, (List.forall_mem_cons.mpr ⟨List.mem_of_getElem? (i := 105) rfl, (List.forall_mem_cons.mpr ⟨List.mem_of_getElem? (i := 106) rfl, (List.forall_mem_cons.mpr ⟨List.mem_of_getElem? (i := 107) rfl, (List.forall_mem_cons.mpr ⟨List.mem_of_getElem? (i := 108) rfl, (List.forall_mem_cons.mpr ⟨List.mem_of_getElem? (i := 109) rfl, (List.forall_mem_cons.mpr ⟨List.mem_of_getElem? (i := 110) rfl, (fun _ h => absurd h List.not_mem_nil)⟩)⟩)⟩)⟩)⟩)⟩)⟩)⟩)⟩)⟩)⟩)⟩)⟩)⟩) (by decide +kernel)
set_option maxRecDepth 20000 in
theorem ggL_reads_X6_textFault_p5 : GoodIn wsL_reads wsX60 := goodIn_r _ [194, 195, 196, 197] (by decide +kernel) (by decide +kernel)
set_option maxRecDepth 20000 in
theorem ggL_reads_X6_textFault_p6 : GoodIn wsL_reads wsX40 := goodIn_r _ [198, 199, 200, 201, 202, 203, 204, 205, 206, 207, 208] (by decide +kernel) (by decide +kernel)
set_option maxRecDepth 20000 in
theorem ggL_reads_X6_textFault_p7 : GoodIn wsL_reads wsX10 := goodIn_r _ [209, 210, 211] (by decide +kernel) (by decide +kernel)
set_option maxRecDepth 20000 in
theorem ggL_reads_X6_textFault : GoodIn wsL_reads wsX6_textFault := by
  show GoodIn wsL_reads ([Cond.code yX6_textFault cX6_textFault 2 (some .int)] ++ ((wsX6_textFault_r1 ++ (wsX6_textFault_r2 ++ (wsX6_textFault_r3 ++ wsX6_textFault_r4))) ++ wsX60 ++ wsX40 ++ wsX10))
  exact goodIn_app ggL_reads_X6_textFault_p0 (goodIn_app (goodIn_app (goodIn_app (goodIn_app ggL_reads_X6_textFault_p1 (goodIn_app ggL_reads_X6_textFault_p2 (goodIn_app ggL_reads_X6_textFault_p3 ggL_reads_X6_textFault_p4))) ggL_reads_X6_textFault_p5) ggL_reads_X6_textFault_p6) ggL_reads_X6_textFault_p7)
set_option maxRecDepth 20000 in
theorem gL_reads_X6_textFault : GoodIn wsL_reads (wsV RL 41 RX6 yX6_textFault wsX6_textFault) := goodIn_app (goodIn_of _ (by decide +kernel)) ggL_reads_X6_textFault
set_option maxRecDepth 20000 in
theorem ggL_reads_X6_read_p0 : GoodIn wsL_reads [Cond.code yX6_read cX6_read 2 (some .int)] := goodIn_sub (List.forall_mem_cons.mpr ⟨List.mem_of_getElem? (i := 114) rfl, (fun _ h => absurd h List.not_mem_nil)⟩) (by decide +kernel)
set_option maxRecDepth 20000 in
theorem ggL_reads_X6_read_p1 : GoodIn wsL_reads wsX6_read_r1 := goodIn_sub (List.forall_mem_cons.mpr ⟨List.mem_of_getElem? (i := 14) rfl, (List.forall_mem_cons.mpr ⟨List.mem_of_getElem? (i := 115) rfl, (List.forall_mem_cons.mpr ⟨List.mem_of_getElem? (i := 116) rfl, (List.forall_mem_cons.mpr ⟨List.mem_of_getElem? (i := 117) rfl, (List.forall_mem_cons.mpr ⟨List.mem_of_getElem? (i := 118) rfl, (List.forall_mem_cons.mpr ⟨List.mem_of_getElem? (i := 8) rfl, (List.forall_mem_cons.mpr ⟨List.mem_of_getElem? (i := 31) rfl, (List.forall_mem_cons.mpr ⟨List.mem_of_getElem? (i := 119) rfl, (List.forall_mem_cons.mpr ⟨List.mem_of_getElem? (i := 120) rfl, (List.forall_mem_cons.mpr ⟨List.mem_of_getElem? (i := 121) rfl, (List.forall_mem_cons.mpr ⟨List.mem_of_getElem? (i := 122) rfl, (List.forall_mem_cons.mpr ⟨List.mem_of_getElem? (i := 34) rfl, (List.forall_mem_cons.mpr ⟨List.mem_of_getElem? (i := 35) rfl, (List.forall_mem_cons.mpr ⟨List.mem_of_getElem? (i := 36) rfl, (List.forall_mem_cons.mpr ⟨List.mem_of_getElem? (i := 19) rfl, (List.forall_mem_cons.mpr ⟨List.mem_of_getElem? (i := 37) rfl, (List.forall_mem_cons.mpr ⟨List.mem_of_getElem? (i := 21) rfl, (List.forall_mem_cons.mpr ⟨List.mem_of_getElem? (i := 22) rfl, (List.forall_mem_cons.mpr ⟨List.mem_of_getElem? (i := 38) rfl, (List.forall_mem_cons.mpr ⟨List.mem_of_getElem? (i := 39) rfl, (List.forall_mem_cons.mpr ⟨List.mem_of_getElem? (i := 40) rfl, (List.forall_mem_cons.mpr ⟨List.mem_of_getElem? (i := 41) rfl, (List.forall_mem_cons.mpr ⟨List.mem_of_getElem? (i := 42) rfl, (List.forall_mem_cons.mpr ⟨List.mem_of_getElem? (i := 43) rfl, (fun _ h => absurd h List.not_mem_nil)⟩)⟩)⟩)⟩)⟩)⟩)⟩)⟩)⟩)⟩)⟩)⟩)⟩)⟩)⟩)⟩)⟩)⟩)⟩)⟩)⟩)⟩)⟩)⟩) (by decide +kernel)
set_option maxRecDepth 20000 in
theorem ggL_reads_X6_read_p2 : GoodIn wsL_reads wsX6_read_r2 := goodIn_sub (List.forall_mem_cons.mpr ⟨List.mem_of_getElem? (i := 44) rfl, (List.forall_mem_cons.mpr ⟨List.mem_of_getElem? (i := 45) rfl, (List.forall_mem_cons.mpr ⟨List.mem_of_getElem? (i := 46) rfl, (List.forall_mem_cons.mpr ⟨List.mem_of_getElem? (i := 47) rfl, (List.forall_mem_cons.mpr ⟨List.mem_of_getElem? (i := 48) rfl, (List.forall_mem_cons.mpr ⟨List.mem_of_getElem? (i := 49) rfl, (List.forall_mem_cons.mpr ⟨List.mem_of_getElem? (i := 50) rfl, (List.forall_mem_cons.mpr ⟨List.mem_of_getElem? (i := 51) rfl, (List.forall_mem_cons.mpr ⟨List.mem_of_getElem? (i := 52) rfl, (List.forall_mem_cons.mpr ⟨List.mem_of_getElem? (i := 53) rfl, (List.forall_mem_cons.mpr ⟨List.mem_of_getElem? (i := 54) rfl, (List.forall_mem_cons.mpr ⟨List.mem_of_getElem? (i := 55) rfl, (List.forall_mem_cons.mpr ⟨List.mem_of_getElem? (i := 6) rfl, (List.forall_mem_cons.mpr ⟨List.mem_of_getElem? (i := 56) rfl, (List.forall_mem_cons.mpr ⟨List.mem_of_getElem? (i := 57) rfl, (List.forall_mem_cons.mpr ⟨List.mem_of_getElem? (i := 58) rfl, (List.forall_mem_cons.mpr ⟨List.mem_of_getElem? (i := 59) rfl, (List.forall_mem_cons.mpr ⟨List.mem_of_getElem? (i := 60) rfl, (List.forall_mem_cons.mpr ⟨List.mem_of_getElem? (i := 61) rfl, (List.forall_mem_cons.mpr ⟨List.mem_of_getElem? (i := 62) rfl, (List.forall_mem_cons.mpr ⟨List.mem_of_getElem? (i := 63) rfl, (List.forall_mem_cons.mpr ⟨List.mem_of_getElem? (i := 64) rfl, (List.forall_mem_cons.mpr ⟨List.mem_of_getElem? (i := 65) rfl, (List.forall_mem_cons.mpr ⟨List.mem_of_getElem? (i := 66) rfl, (fun _ h => absurd h List.not_mem_nil)⟩)⟩)⟩)⟩)⟩)⟩)⟩)⟩)⟩)⟩)⟩)⟩)⟩)⟩)⟩)⟩)⟩)⟩)⟩)⟩)⟩)⟩)⟩)⟩) (by decide +kernel)
set_option maxRecDepth 20000 in
theorem ggL_reads_X6_read_p3 : GoodIn wsL_reads wsX6_read_r3 := goodIn_sub (List.forall_mem_cons.mpr ⟨List.mem_of_getElem? (i := 67) rfl, (List.forall_mem_cons.mpr ⟨List.mem_of_getElem? (i := 68) rfl, (List.forall_mem_cons.mpr ⟨List.mem_of_getElem? (i := 69) rfl, (List.forall_mem_cons.mpr ⟨List.mem_of_getElem? (i := 70) rfl, (List.forall_mem_cons.mpr ⟨List.mem_of_getElem? (i := 71) rfl, (List.forall_mem_cons.mpr ⟨List.mem_of_getElem? (i := 72) rfl, (List.forall_mem_cons.mpr ⟨List.mem_of_getElem? (i := 73) rfl, (List.forall_mem_cons.mpr ⟨List.mem_of_getElem? (i := 74) rfl, (List.forall_mem_cons.mpr ⟨List.mem_of_getElem? (i := 75) rfl, (List.forall_mem_cons.mpr ⟨List.mem_of_getElem? (i := 76) rfl, (List.forall_mem_cons.mpr ⟨List.mem_of_getElem? (i := 77) rfl, (List.forall_mem_cons.mpr ⟨List.mem_of_getElem? (i := 78) rfl, (List.forall_mem_cons.mpr ⟨List.mem_of_getElem? (i := 79) rfl, (List.forall_mem_cons.mpr ⟨List.mem_of_getElem? (i := 80) rfl, (List.forall_mem_cons.mpr ⟨List.mem_of_getElem? (i := 81) rfl, (List.forall_mem_cons.mpr ⟨List.mem_of_getElem? (i := 82) rfl, (List.forall_mem_cons.mpr ⟨List.mem_of_getElem? (i := 83) rfl, (List.forall_mem_cons.mpr ⟨List.mem_of_getElem? (i := 84) rfl, (List.forall_mem_cons.mpr ⟨List.mem_of_getElem? (i := 85) rfl, (List.forall_mem_cons.mpr ⟨List.mem_of_getElem? (i := 86) rfl, (List.forall_mem_cons.mpr ⟨List.mem_of_getElem? (i := 87) rfl, (List.forall_mem_cons.mpr ⟨List.mem_of_getElem? (i := 88) rfl, (List.forall_mem_cons.mpr ⟨List.mem_of_getElem? (i := 89) rfl, (List.forall_mem_cons.mpr ⟨List.mem_of_getElem? (i := 90) rfl, (fun _ h => absurd h List.not_mem_nil)⟩)⟩)⟩)⟩)⟩)⟩)⟩)⟩)⟩)⟩)⟩)⟩)⟩)⟩)⟩)⟩)⟩)⟩)⟩)⟩)⟩)⟩)⟩)⟩) (by decide +kernel)
set_option maxRecDepth 20000 in
theorem ggL_reads_X6_read_p4 : GoodIn wsL_reads wsX6_read_r4 := goodIn_sub (List.forall_mem_cons.mpr ⟨List.mem_of_getElem? (i := 91) rfl, (List.forall_mem_cons.mpr ⟨List.mem_of_getElem? (i := 92) rfl, (List.forall_mem_cons.mpr ⟨List.mem_of_getElem? (i := 93) rfl, (List.forall_mem_cons.mpr ⟨List.mem_of_getElem? (i := 94) rfl, (List.forall_mem_cons.mpr ⟨List.mem_of_getElem? (i := 95) rfl, (List.forall_mem_cons.mpr ⟨List.mem_of_getElem? (i := 96) rfl, (List.forall_mem_cons.mpr ⟨List.mem_of_getElem? (i := 97) rfl, (List.forall_mem_cons.mpr ⟨List.mem_of_getElem? (i := 98) rfl, (List.forall_mem_cons.mpr ⟨List.mem_of_getElem? (i := 99) rfl, (List.forall_mem_cons.mpr ⟨List.mem_of_getElem? (i := 100) rfl, (List.forall_mem_cons.mpr ⟨List.mem_of_getElem? (i := 101) rfl, (List.forall_mem_cons.mpr ⟨List.mem_of_getElem? (i := 102) rfl, (List.forall_mem_cons.mpr ⟨List.mem_of_getElem? (i := 103) rfl, (List.forall_mem_cons.mpr ⟨List.mem_of_getElem? (i := 104) rfl, (List.forall_mem_cons.mpr ⟨List.mem_of_getElem? (i := 105) rfl, (List.forall_mem_cons.mpr ⟨List.mem_of_getElem? (i := 106) rfl, (List.forall_mem_cons.mpr ⟨List.mem_of_getElem? (i := 107) rfl, (List.forall_mem_cons.mpr ⟨List.mem_of_getElem? (i := 108) rfl, (List.forall_mem_cons.mpr ⟨List.mem_of_getElem? (i := 109) rfl, (List.forall_mem_cons.mpr ⟨List.mem_of_getElem? (i := 110) rfl, (List.forall_mem_cons.mpr ⟨List.mem_of_getElem? (i := 123) rfl, (List.forall_mem_cons.mpr ⟨List.mem_of_getElem? (i := 124) rfl, (List.forall_mem_cons.mpr ⟨List.mem_of_getElem? (i := 125) rfl, (List.forall_mem_cons.mpr ⟨List.mem_of_getElem? (i := 126) rfl, (fun _ h => absurd h List.not_mem_nil)⟩)⟩)⟩)⟩)⟩)⟩)⟩)⟩)⟩)⟩)⟩)⟩)⟩)⟩)⟩)⟩)⟩)⟩)⟩)⟩)⟩)⟩)⟩)⟩) (by decide +kernel)
set_option maxRecDepth 20000 in
theorem ggL_reads_X6_read_p5 : GoodIn wsL_reads wsX6_read_r5 := goodIn_sub (List.forall_mem_cons.mpr ⟨List.mem_of_getElem? (i := 127) rfl, (List.forall_mem_cons.mpr ⟨List.mem_of_getElem? (i := 128) rfl, (List.forall_mem_cons.mpr ⟨List.mem_of_getElem? (i := 129) rfl, (List.forall_mem_cons.mpr ⟨List.mem_of_getElem? (i := 130) rfl, (List.forall_mem_cons.mpr ⟨List.mem_of_getElem? (i := 131) rfl, (List.forall_mem_cons.mpr ⟨List.mem_of_getElem? (i := 132) rfl, (List.forall_mem_cons.mpr ⟨List.mem_of_getElem? (i := 133) rfl, (List.forall_mem_cons.mpr ⟨List.mem_of_getElem? (i := 134) rfl, (List.forall_mem_cons.mpr ⟨List.mem_of_getElem? (i := 135) rfl, (List.forall_mem_cons.mpr ⟨List.mem_of_getElem? (i := 136) rfl, (List.forall_mem_cons.mpr ⟨List.mem_of_getElem? (i := 137) rfl, (List.forall_mem_cons.mpr ⟨List.mem_of_getElem? (i := 138) rfl, (List.forall_mem_cons.mpr ⟨List.mem_of_getElem? (i := 139) rfl, (List.forall_mem_cons.mpr ⟨List.mem_of_getElem? (i := 140) rfl, (List.forall_mem_cons.mpr ⟨List.mem_of_getElem? (i := 141) rfl, (List.forall_mem_cons.mpr ⟨List.mem_of_getElem? (i := 142) rfl, (List.forall_mem_cons.mpr ⟨List.mem_of_getElem? (i := 143) rfl, (List.forall_mem_cons.mpr ⟨List.mem_of_getElem? (i := 144) rfl, (List.forall_mem_cons.mpr ⟨List.mem_of_getElem? (i := 145) rfl, (List.forall_mem_cons.mpr ⟨List.mem_of_getElem? (i := 146) rfl, (List.forall_mem_cons.mpr ⟨List.mem_of_getElem? (i := 147) rfl, (List.forall_mem_cons.mpr ⟨List.mem_of_getElem? (i := 148) rfl, (List.forall_mem_cons.mpr ⟨List.mem_of_getElem? (i := 149) rfl, (List.forall_mem_cons.mpr ⟨List.mem_of_getElem? (i := 150) rfl, (fun _ h => absurd h List.not_mem_nil)⟩)⟩)⟩)⟩)⟩)⟩)⟩)⟩)⟩)⟩)⟩)⟩)⟩)⟩)⟩)⟩)⟩)⟩)⟩)⟩)⟩)⟩)⟩)⟩) (by decide +kernel)
set_option maxRecDepth 20000 in
theorem ggL_reads_X6_read_p6 : GoodIn wsL_reads wsX6_read_r6 := goodIn_sub (List.forall_mem_cons.mpr ⟨List.mem_of_getElem? (i := 151) rfl, (List.forall_mem_cons.mpr ⟨List.mem_of_getElem? (i := 152) rfl, (List.forall_mem_cons.mpr ⟨List.mem_of_getElem? (i := 153) rfl, (List.forall_mem_cons.mpr ⟨List.mem_of_getElem? (i := 154) rfl, (List.forall_mem_cons.mpr ⟨List.mem_of_getElem? (i := 155) rfl, (List.forall_mem_cons.mpr ⟨List.mem_of_getElem? (i := 156) rfl, (List.forall_mem_cons.mpr ⟨List.mem_of_getElem? (i := 157) rfl, (List.forall_mem_cons.mpr ⟨List.mem_of_getElem? (i := 158) rfl, (List.forall_mem_cons.mpr ⟨List.mem_of_getElem? (i := 159) rfl, (List.forall_mem_cons.mpr ⟨List.mem_of_getElem? (i := 160) rfl, (List.forall_mem_cons.mpr ⟨List.mem_of_getElem? (i := 161) rfl, (List.forall_mem_cons.mpr ⟨List.mem_of_getElem? (i := 162) rfl, (List.forall_mem_cons.mpr ⟨List.mem_of_getElem? (i := 163) rfl, (List.forall_mem_cons.mpr ⟨List.mem_of_getElem? (i := 164) rfl, (List.forall_mem_cons.mpr ⟨List.mem_of_getElem? (i := 165) rfl, (List.forall_mem_cons.mpr ⟨List.mem_of_getElem? (i := 166) rfl, (List.forall_mem_cons.mpr ⟨List.mem_of_getElem? (i := 167) rfl, (List.forall_mem_cons.mpr ⟨List.mem_of_getElem? (i := 168) rfl, (List.forall_mem_cons.mpr ⟨List.mem_of_getElem? (i := 169) rfl, (List.forall_mem_cons.mpr ⟨List.mem_of_getElem? (i := 170) rfl, (List.forall_mem_cons.mpr ⟨List.mem_of_getElem? (i := 171) rfl, (List.forall_mem_cons.mpr ⟨List.mem_of_getElem? (i := 172) rfl, (List.forall_mem_cons.mpr ⟨List.mem_of_getElem? (i := 173) rfl, (List.forall_mem_cons.mpr ⟨List.mem_of_getElem? (i := 174) rfl, (fun _ h => absurd h List.not_mem_nil)⟩)⟩)⟩)⟩)⟩)⟩)⟩)⟩)⟩)⟩)⟩)⟩)⟩)⟩)⟩)⟩)⟩)⟩)⟩)⟩)⟩)⟩)⟩)⟩) (by decide +kernel)
set_option maxRecDepth 20000 in
theorem ggL_reads_X6_read_p7 : GoodIn wsL_reads wsX6_read_r7 := goodIn_sub (List.forall_mem_cons.mpr ⟨List.mem_of_getElem? (i := 175) rfl, (List.forall_mem_cons.mpr ⟨List.mem_of_getElem? (i := 176) rfl, (List.forall_mem_cons.mpr ⟨List.mem_of_getElem? (i := 177) rfl, (List.forall_mem_cons.mpr ⟨List.mem_of_getElem? (i := 178) rfl, (List.forall_mem_cons.mpr ⟨List.mem_of_getElem? (i := 179) rfl, (List.forall_mem_cons.mpr ⟨List.mem_of_getElem? (i := 180) rfl, (List.forall_mem_cons.mpr ⟨List.mem_of_getElem? (i := 181) rfl, (List.forall_mem_cons.mpr ⟨List.mem_of_getElem? (i := 182) rfl, (List.forall_mem_cons.mpr ⟨List.mem_of_getElem? (i := 183) rfl, (List.forall_mem_cons.mpr ⟨List.mem_of_getElem? (i := 184) rfl, (List.forall_mem_cons.mpr ⟨List.mem_of_getElem? (i := 185) rfl, (List.forall_mem_cons.mpr ⟨List.mem_of_getElem? (i := 186) rfl, (List.forall_mem_cons.mpr ⟨List.mem_of_getElem? (i := 187) rfl, (List.forall_mem_cons.mpr ⟨List.mem_of_getElem? (i := 188) rfl, (List.forall_mem_cons.mpr ⟨List.mem_of_getElem? (i := 189) rfl, (List.forall_mem_cons.mpr ⟨List.mem_of_getElem? (i := 190) rfl, (List.forall_mem_cons.mpr ⟨List.mem_of_getElem? (i := 191) rfl, (List.forall_mem_cons.mpr ⟨List.mem_of_getElem? (i := 192) rfl, (List.forall_mem_cons.mpr ⟨List.mem_of_getElem? (i := 193) rfl, (fun _ h => absurd h List.not_mem_nil)⟩)⟩)⟩)⟩)⟩)⟩)⟩)⟩)⟩)⟩)⟩)⟩)⟩)⟩)⟩)⟩)⟩)⟩)⟩) (by decide +kernel)
set_option maxRecDepth 20000 in
theorem ggL_reads_X6_read_p8 : GoodIn wsL_reads wsX60 := goodIn_r _ [194, 195, 196, 197] (by decide +kernel) (by decide +kernel)
set_option maxRecDepth 20000 in
theorem ggL_reads_X6_read_p9 : GoodIn wsL_reads wsX30 := goodIn_r _ [212, 213, 214, 215, 216] (by decide +kernel) (by decide +kernel)
set_option maxRecDepth 20000 in
theorem ggL_reads_X6_read_p10 : GoodIn wsL_reads wsX50 := goodIn_r _ [217, 218, 219, 220, 221, 222, 223, 224, 225, 226, 227] (by decide +kernel) (by decide +kernel)
set_option maxRecDepth 20000 in
theorem ggL_reads_X6_read_p11 : GoodIn wsL_reads wsX40 := goodIn_r _ [198, 199, 200, 201, 202, 203, 204, 205, 206, 207, 208] (by decide +kernel) (by decide +kernel)
set_option maxRecDepth 20000 in
theorem ggL_reads_X6_read_p12 : GoodIn wsL_reads wsX10 := goodIn_r _ [209, 210, 211] (by decide +kernel) (by decide +kernel)
set_option maxRecDepth 20000 in
theorem ggL_reads_X6_read_p13 : GoodIn wsL_reads wsX00 := goodIn_r _ [228, 229] (by decide +kernel) (by decide +kernel)
set_option maxRecDepth 20000 in
theorem ggL_reads_X6_read_p14 : GoodIn wsL_reads wsX20 := goodIn_r _ [230, 231, 232] (by decide +kernel) (by decide +kernel)
set_option maxRecDepth 20000 in
theorem ggL_reads_X6_read : GoodIn wsL_reads wsX6_read := by
  show GoodIn wsL_reads ([Cond.code yX6_read cX6_read 2 (some .int)] ++ ((wsX6_read_r1 ++ (wsX6_read_r2 ++ (wsX6_read_r3 ++ (wsX6_read_r4 ++ (wsX6_read_r5 ++ (wsX6_read_r6 ++ wsX6_read_r7)))))) ++ wsX60 ++ wsX30 ++ wsX50 ++ wsX40 ++ wsX10 ++ wsX00 ++ wsX20))
  exact goodIn_app ggL_reads_X6_read_p0 (goodIn_app (goodIn_app (goodIn_app (goodIn_app (goodIn_app (goodIn_app (goodIn_app (goodIn_app ggL_reads_X6_read_p1 (goodIn_app ggL_reads_X6_read_p2 (goodIn_app ggL_reads_X6_read_p3 (goodIn_app ggL_reads_X6_read_p4 (goodIn_app ggL_reads_X6_read_p5 (goodIn_app ggL_reads_X6_read_p6 ggL_reads_X6_read_p7)))))) ggL_reads_X6_read_p8) ggL_reads_X6_read_p9) ggL_reads_X6_read_p10) ggL_reads_X6_read_p11) ggL_reads_X6_read_p12) ggL_reads_X6_read_p13) ggL_reads_X6_read_p14)
set_option maxRecDepth 20000 in
theorem gL_reads_X6_read : GoodIn wsL_reads (wsV RL 45 RX6 yX6_read wsX6_read) := goodIn_app (goodIn_of _ (by decide +kernel)) ggL_reads_X6_read
theorem dL_reads_0 : decode cL_reads 0 = .ok (.iload 5, 2) := by decide +kernel
theorem dL_reads_2 : decode cL_reads 2 = .ok (.iconst 2, 1) := by decide +kernel
theorem dL_reads_3 : decode cL_reads 3 = .ok (.irem, 1) := by decide +kernel
theorem dL_reads_4 : decode cL_reads 4 = .ok (.istore 6, 2) := by decide +kernel
theorem dL_reads_6 : decode cL_reads 6 = .ok (.iconst 1, 1) := by decide +kernel
theorem dL_reads_7 : decode cL_reads 7 = .ok (.iload 5, 2) := by decide +kernel
theorem dL_reads_9 : decode cL_reads 9 = .ok (.iconst 2, 1) := by decide +kernel
theorem dL_reads_10 : decode cL_reads 10 = .ok (.idiv, 1) := by decide +kernel
theorem dL_reads_11 : decode cL_reads 11 = .ok (.iconst 4, 1) := by decide +kernel
theorem dL_reads_12 : decode cL_reads 12 = .ok (.irem, 1) := by decide +kernel
theorem dL_reads_13 : decode cL_reads 13 = .ok (.iadd, 1) := by decide +kernel
theorem dL_reads_14 : decode cL_reads 14 = .ok (.istore 7, 2) := by decide +kernel
theorem dL_reads_16 : decode cL_reads 16 = .ok (.iconst 1, 1) := by decide +kernel
theorem dL_reads_17 : decode cL_reads 17 = .ok (.iload 5, 2) := by decide +kernel
theorem dL_reads_19 : decode cL_reads 19 = .ok (.bipush 8, 2) := by decide +kernel
theorem dL_reads_21 : decode cL_reads 21 = .ok (.idiv, 1) := by decide +kernel
theorem dL_reads_22 : decode cL_reads 22 = .ok (.iconst 4, 1) := by decide +kernel
theorem dL_reads_23 : decode cL_reads 23 = .ok (.irem, 1) := by decide +kernel
theorem dL_reads_24 : decode cL_reads 24 = .ok (.iadd, 1) := by decide +kernel
theorem dL_reads_25 : decode cL_reads 25 = .ok (.istore 8, 2) := by decide +kernel
theorem dL_reads_27 : decode cL_reads 27 = .ok (.aload_n 0, 1) := by decide +kernel
theorem dL_reads_28 : decode cL_reads 28 = .ok (.invokevirtual 33, 3) := by decide +kernel
theorem dL_reads_31 : decode cL_reads 31 = .ok (.ifCond .lt 7, 3) := by decide +kernel
theorem dL_reads_34 : decode cL_reads 34 = .ok (.iconst 1, 1) := by decide +kernel
theorem dL_reads_35 : decode cL_reads 35 = .ok (.goto 4, 3) := by decide +kernel
theorem dL_reads_38 : decode cL_reads 38 = .ok (.iconst 0, 1) := by decide +kernel
theorem dL_reads_39 : decode cL_reads 39 = .ok (.istore 9, 2) := by decide +kernel
theorem dL_reads_41 : decode cL_reads 41 = .ok (.iload 6, 2) := by decide +kernel
theorem dL_reads_43 : decode cL_reads 43 = .ok (.ifCond .ne 7, 3) := by decide +kernel
theorem dL_reads_46 : decode cL_reads 46 = .ok (.aload_n 2, 1) := by decide +kernel
theorem dL_reads_47 : decode cL_reads 47 = .ok (.goto 4, 3) := by decide +kernel
theorem dL_reads_50 : decode cL_reads 50 = .ok (.aload_n 3, 1) := by decide +kernel
theorem dL_reads_51 : decode cL_reads 51 = .ok (.astore 10, 2) := by decide +kernel
theorem dL_reads_53 : decode cL_reads 53 = .ok (.iload 6, 2) := by decide +kernel
theorem dL_reads_55 : decode cL_reads 55 = .ok (.ifCond .ne 7, 3) := by decide +kernel
theorem dL_reads_58 : decode cL_reads 58 = .ok (.aload_n 3, 1) := by decide +kernel
theorem dL_reads_59 : decode cL_reads 59 = .ok (.goto 4, 3) := by decide +kernel
theorem dL_reads_62 : decode cL_reads 62 = .ok (.aload_n 2, 1) := by decide +kernel
theorem dL_reads_63 : decode cL_reads 63 = .ok (.astore 11, 2) := by decide +kernel
theorem dL_reads_65 : decode cL_reads 65 = .ok (.aload_n 1, 1) := by decide +kernel
theorem dL_reads_66 : decode cL_reads 66 = .ok (.iconst 5, 1) := by decide +kernel
theorem dL_reads_67 : decode cL_reads 67 = .ok (.iaload, 1) := by decide +kernel
theorem dL_reads_68 : decode cL_reads 68 = .ok (.ifCond .ne 7, 3) := by decide +kernel
theorem dL_reads_71 : decode cL_reads 71 = .ok (.iconst 1, 1) := by decide +kernel
theorem dL_reads_72 : decode cL_reads 72 = .ok (.goto 4, 3) := by decide +kernel
theorem dL_reads_75 : decode cL_reads 75 = .ok (.iconst 0, 1) := by decide +kernel
theorem dL_reads_76 : decode cL_reads 76 = .ok (.istore 12, 2) := by decide +kernel
theorem dL_reads_78 : decode cL_reads 78 = .ok (.iload 6, 2) := by decide +kernel
theorem dL_reads_80 : decode cL_reads 80 = .ok (.ifCond .ne 8, 3) := by decide +kernel
theorem dL_reads_83 : decode cL_reads 83 = .ok (.iload 8, 2) := by decide +kernel
theorem dL_reads_85 : decode cL_reads 85 = .ok (.goto 5, 3) := by decide +kernel
theorem dL_reads_88 : decode cL_reads 88 = .ok (.iload 7, 2) := by decide +kernel
theorem dL_reads_90 : decode cL_reads 90 = .ok (.istore 13, 2) := by decide +kernel
theorem dL_reads_92 : decode cL_reads 92 = .ok (.iconst 0, 1) := by decide +kernel
theorem dL_reads_93 : decode cL_reads 93 = .ok (.istore 14, 2) := by decide +kernel
theorem dL_reads_95 : decode cL_reads 95 = .ok (.iload 14, 2) := by decide +kernel
theorem dL_reads_97 : decode cL_reads 97 = .ok (.bipush 36, 2) := by decide +kernel
theorem dL_reads_99 : decode cL_reads 99 = .ok (.if_icmp .ge 42, 3) := by decide +kernel
theorem dL_reads_102 : decode cL_reads 102 = .ok (.iload 12, 2) := by decide +kernel
theorem dL_reads_104 : decode cL_reads 104 = .ok (.ifCond .eq 37, 3) := by decide +kernel
theorem dL_reads_107 : decode cL_reads 107 = .ok (.aload 10, 2) := by decide +kernel
theorem dL_reads_109 : decode cL_reads 109 = .ok (.iload 14, 2) := by decide +kernel
theorem dL_reads_111 : decode cL_reads 111 = .ok (.iconst 0, 1) := by decide +kernel
theorem dL_reads_112 : decode cL_reads 112 = .ok (.iastore, 1) := by decide +kernel
theorem dL_reads_113 : decode cL_reads 113 = .ok (.aload 11, 2) := by decide +kernel
theorem dL_reads_115 : decode cL_reads 115 = .ok (.iload 14, 2) := by decide +kernel
theorem dL_reads_117 : decode cL_reads 117 = .ok (.iload 13, 2) := by decide +kernel
theorem dL_reads_119 : decode cL_reads 119 = .ok (.aload_n 1, 1) := by decide +kernel
theorem dL_reads_120 : decode cL_reads 120 = .ok (.iconst 2, 1) := by decide +kernel
theorem dL_reads_121 : decode cL_reads 121 = .ok (.iaload, 1) := by decide +kernel
theorem dL_reads_122 : decode cL_reads 122 = .ok (.if_icmp .ne 11, 3) := by decide +kernel
theorem dL_reads_125 : decode cL_reads 125 = .ok (.aload 11, 2) := by decide +kernel
theorem dL_reads_127 : decode cL_reads 127 = .ok (.iload 14, 2) := by decide +kernel
theorem dL_reads_129 : decode cL_reads 129 = .ok (.iaload, 1) := by decide +kernel
theorem dL_reads_130 : decode cL_reads 130 = .ok (.goto 4, 3) := by decide +kernel
theorem dL_reads_133 : decode cL_reads 133 = .ok (.iconst 0, 1) := by decide +kernel
theorem dL_reads_134 : decode cL_reads 134 = .ok (.iastore, 1) := by decide +kernel
theorem dL_reads_135 : decode cL_reads 135 = .ok (.iinc 14 1, 3) := by decide +kernel
theorem dL_reads_138 : decode cL_reads 138 = .ok (.goto (-43), 3) := by decide +kernel
theorem dL_reads_141 : decode cL_reads 141 = .ok (.iconst 0, 1) := by decide +kernel
theorem dL_reads_142 : decode cL_reads 142 = .ok (.istore 14, 2) := by decide +kernel
theorem dL_reads_144 : decode cL_reads 144 = .ok (.iload 14, 2) := by decide +kernel
theorem dL_reads_146 : decode cL_reads 146 = .ok (.iload 7, 2) := by decide +kernel
theorem dL_reads_148 : decode cL_reads 148 = .ok (.iload 8, 2) := by decide +kernel
theorem dL_reads_150 : decode cL_reads 150 = .ok (.imul, 1) := by decide +kernel
theorem dL_reads_151 : decode cL_reads 151 = .ok (.if_icmp .ge 124, 3) := by decide +kernel
theorem dL_reads_154 : decode cL_reads 154 = .ok (.iload 5, 2) := by decide +kernel
theorem dL_reads_156 : decode cL_reads 156 = .ok (.iconst 1, 1) := by decide +kernel
theorem dL_reads_157 : decode cL_reads 157 = .ok (.iconst 3, 1) := by decide +kernel
theorem dL_reads_158 : decode cL_reads 158 = .ok (.iload 14, 2) := by decide +kernel
theorem dL_reads_160 : decode cL_reads 160 = .ok (.imul, 1) := by decide +kernel
theorem dL_reads_161 : decode cL_reads 161 = .ok (.iadd, 1) := by decide +kernel
theorem dL_reads_162 : decode cL_reads 162 = .ok (.idiv, 1) := by decide +kernel
theorem dL_reads_163 : decode cL_reads 163 = .ok (.bipush 17, 2) := by decide +kernel
theorem dL_reads_165 : decode cL_reads 165 = .ok (.iload 14, 2) := by decide +kernel
theorem dL_reads_167 : decode cL_reads 167 = .ok (.imul, 1) := by decide +kernel
theorem dL_reads_168 : decode cL_reads 168 = .ok (.iadd, 1) := by decide +kernel
theorem dL_reads_169 : decode cL_reads 169 = .ok (.sipush 199, 3) := by decide +kernel
theorem dL_reads_172 : decode cL_reads 172 = .ok (.irem, 1) := by decide +kernel
theorem dL_reads_173 : decode cL_reads 173 = .ok (.bipush 99, 2) := by decide +kernel
theorem dL_reads_175 : decode cL_reads 175 = .ok (.isub, 1) := by decide +kernel
theorem dL_reads_176 : decode cL_reads 176 = .ok (.istore 15, 2) := by decide +kernel
theorem dL_reads_178 : decode cL_reads 178 = .ok (.iload 5, 2) := by decide +kernel
theorem dL_reads_180 : decode cL_reads 180 = .ok (.iconst 3, 1) := by decide +kernel
theorem dL_reads_181 : decode cL_reads 181 = .ok (.irem, 1) := by decide +kernel
theorem dL_reads_182 : decode cL_reads 182 = .ok (.ifCond .le 11, 3) := by decide +kernel
theorem dL_reads_185 : decode cL_reads 185 = .ok (.iload 15, 2) := by decide +kernel
theorem dL_reads_187 : decode cL_reads 187 = .ok (.bipush 9, 2) := by decide +kernel
theorem dL_reads_189 : decode cL_reads 189 = .ok (.idiv, 1) := by decide +kernel
theorem dL_reads_190 : decode cL_reads 190 = .ok (.goto 5, 3) := by decide +kernel
theorem dL_reads_193 : decode cL_reads 193 = .ok (.iload 15, 2) := by decide +kernel
theorem dL_reads_195 : decode cL_reads 195 = .ok (.istore 15, 2) := by decide +kernel
theorem dL_reads_197 : decode cL_reads 197 = .ok (.iload 9, 2) := by decide +kernel
theorem dL_reads_199 : decode cL_reads 199 = .ok (.ifCond .eq 43, 3) := by decide +kernel
theorem dL_reads_202 : decode cL_reads 202 = .ok (.iload 14, 2) := by decide +kernel
theorem dL_reads_204 : decode cL_reads 204 = .ok (.ifCond .eq 25, 3) := by decide +kernel
theorem dL_reads_207 : decode cL_reads 207 = .ok (.aload_n 0, 1) := by decide +kernel
theorem dL_reads_208 : decode cL_reads 208 = .ok (.iload 14, 2) := by decide +kernel
theorem dL_reads_210 : decode cL_reads 210 = .ok (.iload 8, 2) := by decide +kernel
theorem dL_reads_212 : decode cL_reads 212 = .ok (.irem, 1) := by decide +kernel
theorem dL_reads_213 : decode cL_reads 213 = .ok (.ifCond .ne 8, 3) := by decide +kernel
theorem dL_reads_216 : decode cL_reads 216 = .ok (.bipush 59, 2) := by decide +kernel
theorem dL_reads_218 : decode cL_reads 218 = .ok (.goto 5, 3) := by decide +kernel
theorem dL_reads_221 : decode cL_reads 221 = .ok (.bipush 44, 2) := by decide +kernel
theorem dL_reads_223 : decode cL_reads 223 = .ok (.invokevirtual 27, 3) := by decide +kernel
theorem dL_reads_226 : decode cL_reads 226 = .ok (.ifCond .le 16, 3) := by decide +kernel
theorem dL_reads_229 : decode cL_reads 229 = .ok (.aload_n 0, 1) := by decide +kernel
theorem dL_reads_230 : decode cL_reads 230 = .ok (.iload 15, 2) := by decide +kernel
theorem dL_reads_232 : decode cL_reads 232 = .ok (.invokestatic 37, 3) := by decide +kernel
theorem dL_reads_235 : decode cL_reads 235 = .ok (.ifCond .eq 7, 3) := by decide +kernel
theorem dL_reads_238 : decode cL_reads 238 = .ok (.iconst 1, 1) := by decide +kernel
theorem dL_reads_239 : decode cL_reads 239 = .ok (.goto 4, 3) := by decide +kernel
theorem dL_reads_242 : decode cL_reads 242 = .ok (.iconst 0, 1) := by decide +kernel
theorem dL_reads_243 : decode cL_reads 243 = .ok (.istore 9, 2) := by decide +kernel
theorem dL_reads_245 : decode cL_reads 245 = .ok (.iload 12, 2) := by decide +kernel
theorem dL_reads_247 : decode cL_reads 247 = .ok (.ifCond .eq 22, 3) := by decide +kernel
theorem dL_reads_250 : decode cL_reads 250 = .ok (.aload 10, 2) := by decide +kernel
theorem dL_reads_252 : decode cL_reads 252 = .ok (.bipush 6, 2) := by decide +kernel
theorem dL_reads_254 : decode cL_reads 254 = .ok (.iload 14, 2) := by decide +kernel
theorem dL_reads_256 : decode cL_reads 256 = .ok (.iload 8, 2) := by decide +kernel
theorem dL_reads_258 : decode cL_reads 258 = .ok (.idiv, 1) := by decide +kernel
theorem dL_reads_259 : decode cL_reads 259 = .ok (.imul, 1) := by decide +kernel
theorem dL_reads_260 : decode cL_reads 260 = .ok (.iload 14, 2) := by decide +kernel
theorem dL_reads_262 : decode cL_reads 262 = .ok (.iload 8, 2) := by decide +kernel
theorem dL_reads_264 : decode cL_reads 264 = .ok (.irem, 1) := by decide +kernel
theorem dL_reads_265 : decode cL_reads 265 = .ok (.iadd, 1) := by decide +kernel
theorem dL_reads_266 : decode cL_reads 266 = .ok (.iload 15, 2) := by decide +kernel
theorem dL_reads_268 : decode cL_reads 268 = .ok (.iastore, 1) := by decide +kernel
theorem dL_reads_269 : decode cL_reads 269 = .ok (.iinc 14 1, 3) := by decide +kernel
theorem dL_reads_272 : decode cL_reads 272 = .ok (.goto (-128), 3) := by decide +kernel
theorem dL_reads_275 : decode cL_reads 275 = .ok (.iload 9, 2) := by decide +kernel
theorem dL_reads_277 : decode cL_reads 277 = .ok (.ifCond .eq 48, 3) := by decide +kernel
theorem dL_reads_280 : decode cL_reads 280 = .ok (.aload_n 0, 1) := by decide +kernel
theorem dL_reads_281 : decode cL_reads 281 = .ok (.iconst 0, 1) := by decide +kernel
theorem dL_reads_282 : decode cL_reads 282 = .ok (.invokevirtual 41, 3) := by decide +kernel
theorem dL_reads_285 : decode cL_reads 285 = .ok (.ldc 44, 2) := by decide +kernel
theorem dL_reads_287 : decode cL_reads 287 = .ok (.if_icmp .ne 38, 3) := by decide +kernel
theorem dL_reads_290 : decode cL_reads 290 = .ok (.aload_n 0, 1) := by decide +kernel
theorem dL_reads_291 : decode cL_reads 291 = .ok (.iload 6, 2) := by decide +kernel
theorem dL_reads_293 : decode cL_reads 293 = .ok (.invokevirtual 45, 3) := by decide +kernel
theorem dL_reads_296 : decode cL_reads 296 = .ok (.iload 12, 2) := by decide +kernel
theorem dL_reads_298 : decode cL_reads 298 = .ok (.ifCond .eq 11, 3) := by decide +kernel
theorem dL_reads_301 : decode cL_reads 301 = .ok (.iload 7, 2) := by decide +kernel
theorem dL_reads_303 : decode cL_reads 303 = .ok (.iload 8, 2) := by decide +kernel
theorem dL_reads_305 : decode cL_reads 305 = .ok (.imul, 1) := by decide +kernel
theorem dL_reads_306 : decode cL_reads 306 = .ok (.goto 5, 3) := by decide +kernel
theorem dL_reads_309 : decode cL_reads 309 = .ok (.ldc 48, 2) := by decide +kernel
theorem dL_reads_311 : decode cL_reads 311 = .ok (.if_icmp .ne 14, 3) := by decide +kernel
theorem dL_reads_314 : decode cL_reads 314 = .ok (.aload_n 0, 1) := by decide +kernel
theorem dL_reads_315 : decode cL_reads 315 = .ok (.invokevirtual 33, 3) := by decide +kernel
theorem dL_reads_318 : decode cL_reads 318 = .ok (.ifCond .le 7, 3) := by decide +kernel
theorem dL_reads_321 : decode cL_reads 321 = .ok (.iconst 1, 1) := by decide +kernel
theorem dL_reads_322 : decode cL_reads 322 = .ok (.goto 4, 3) := by decide +kernel
theorem dL_reads_325 : decode cL_reads 325 = .ok (.iconst 0, 1) := by decide +kernel
theorem dL_reads_326 : decode cL_reads 326 = .ok (.istore 9, 2) := by decide +kernel
theorem dL_reads_328 : decode cL_reads 328 = .ok (.iload 12, 2) := by decide +kernel
theorem dL_reads_330 : decode cL_reads 330 = .ok (.ifCond .eq 37, 3) := by decide +kernel
theorem dL_reads_333 : decode cL_reads 333 = .ok (.aload_n 1, 1) := by decide +kernel
theorem dL_reads_334 : decode cL_reads 334 = .ok (.iconst 2, 1) := by decide +kernel
theorem dL_reads_335 : decode cL_reads 335 = .ok (.iload 13, 2) := by decide +kernel
theorem dL_reads_337 : decode cL_reads 337 = .ok (.iastore, 1) := by decide +kernel
theorem dL_reads_338 : decode cL_reads 338 = .ok (.aload_n 1, 1) := by decide +kernel
theorem dL_reads_339 : decode cL_reads 339 = .ok (.iload 6, 2) := by decide +kernel
theorem dL_reads_341 : decode cL_reads 341 = .ok (.ifCond .ne 7, 3) := by decide +kernel
theorem dL_reads_344 : decode cL_reads 344 = .ok (.iconst 1, 1) := by decide +kernel
theorem dL_reads_345 : decode cL_reads 345 = .ok (.goto 4, 3) := by decide +kernel
theorem dL_reads_348 : decode cL_reads 348 = .ok (.iconst 3, 1) := by decide +kernel
theorem dL_reads_349 : decode cL_reads 349 = .ok (.iload 6, 2) := by decide +kernel
theorem dL_reads_351 : decode cL_reads 351 = .ok (.ifCond .ne 8, 3) := by decide +kernel
theorem dL_reads_354 : decode cL_reads 354 = .ok (.iload 7, 2) := by decide +kernel
theorem dL_reads_356 : decode cL_reads 356 = .ok (.goto 5, 3) := by decide +kernel
theorem dL_reads_359 : decode cL_reads 359 = .ok (.iload 8, 2) := by decide +kernel
theorem dL_reads_361 : decode cL_reads 361 = .ok (.iastore, 1) := by decide +kernel
theorem dL_reads_362 : decode cL_reads 362 = .ok (.aload 4, 2) := by decide +kernel
theorem dL_reads_364 : decode cL_reads 364 = .ok (.iconst 0, 1) := by decide +kernel
theorem dL_reads_365 : decode cL_reads 365 = .ok (.lconst 0, 1) := by decide +kernel
theorem dL_reads_366 : decode cL_reads 366 = .ok (.lastore, 1) := by decide +kernel
theorem dL_reads_367 : decode cL_reads 367 = .ok (.iload 9, 2) := by decide +kernel
theorem dL_reads_369 : decode cL_reads 369 = .ok (.ireturn, 1) := by decide +kernel
