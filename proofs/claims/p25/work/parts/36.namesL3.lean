set_option maxRecDepth 20000 in
theorem ggL_shapes_X6_side_p0 : GoodIn wsL_shapes [Cond.code yX6_side cX6_side 3 (some .int)] := goodIn_sub (List.forall_mem_cons.mpr ⟨List.mem_of_getElem? (i := 5) rfl, (fun _ h => absurd h List.not_mem_nil)⟩) (by decide +kernel)
set_option maxRecDepth 20000 in
theorem ggL_shapes_X6_side_p1 : GoodIn wsL_shapes wsX6_side_r1 := goodIn_sub (List.forall_mem_cons.mpr ⟨List.mem_of_getElem? (i := 6) rfl, (List.forall_mem_cons.mpr ⟨List.mem_of_getElem? (i := 7) rfl, (List.forall_mem_cons.mpr ⟨List.mem_of_getElem? (i := 8) rfl, (List.forall_mem_cons.mpr ⟨List.mem_of_getElem? (i := 9) rfl, (List.forall_mem_cons.mpr ⟨List.mem_of_getElem? (i := 10) rfl, (List.forall_mem_cons.mpr ⟨List.mem_of_getElem? (i := 11) rfl, (List.forall_mem_cons.mpr ⟨List.mem_of_getElem? (i := 12) rfl, (List.forall_mem_cons.mpr ⟨List.mem_of_getElem? (i := 13) rfl, (List.forall_mem_cons.mpr ⟨List.mem_of_getElem? (i := 14) rfl, (List.forall_mem_cons.mpr ⟨List.mem_of_getElem? (i := 15) rfl, (List.forall_mem_cons.mpr ⟨List.mem_of_getElem? (i := 16) rfl, (List.forall_mem_cons.mpr ⟨List.mem_of_getElem? (i := 17) rfl, (List.forall_mem_cons.mpr ⟨List.mem_of_getElem? (i := 18) rfl, (List.forall_mem_cons.mpr ⟨List.mem_of_getElem? (i := 19) rfl, (List.forall_mem_cons.mpr ⟨List.mem_of_getElem? (i := 20) rfl, (List.forall_mem_cons.mpr ⟨List.mem_of_getElem? (i := 21) rfl, (List.forall_mem_cons.mpr ⟨List.mem_of_getElem? (i := 22) rfl, (List.forall_mem_cons.mpr ⟨List.mem_of_getElem? (i := 23) rfl, (List.forall_mem_cons.mpr ⟨List.mem_of_getElem? (i := 24) rfl, (List.forall_mem_cons.mpr ⟨List.mem_of_getElem? (i := 25) rfl, (List.forall_mem_cons.mpr ⟨List.mem_of_getElem? (i := 26) rfl, (List.forall_mem_cons.mpr ⟨List.mem_of_getElem? (i := 27) rfl, (List.forall_mem_cons.mpr ⟨List.mem_of_getElem? (i := 28) rfl, (List.forall_mem_cons.mpr ⟨List.mem_of_getElem? (i := 29) rfl, (fun _ h => absurd h List.not_mem_nil)⟩)⟩)⟩)⟩)⟩)⟩)⟩)⟩)⟩)⟩)⟩)⟩)⟩)⟩)⟩)⟩)⟩)⟩)⟩)⟩)⟩)⟩)⟩)⟩) (by decide +kernel)
set_option maxRecDepth 20000 in
theorem ggL_shapes_X6_side_p2 : GoodIn wsL_shapes wsX6_side_r2 := goodIn_sub (List.forall_mem_cons.mpr ⟨List.mem_of_getElem? (i := 30) rfl, (List.forall_mem_cons.mpr ⟨List.mem_of_getElem? (i := 31) rfl, (List.forall_mem_cons.mpr ⟨List.mem_of_getElem? (i := 32) rfl, (List.forall_mem_cons.mpr ⟨List.mem_of_getElem? (i := 33) rfl, (List.forall_mem_cons.mpr ⟨List.mem_of_getElem? (i := 34) rfl, (List.forall_mem_cons.mpr ⟨List.mem_of_getElem? (i := 35) rfl, (List.forall_mem_cons.mpr ⟨List.mem_of_getElem? (i := 36) rfl, (List.forall_mem_cons.mpr ⟨List.mem_of_getElem? (i := 37) rfl, (List.forall_mem_cons.mpr ⟨List.mem_of_getElem? (i := 38) rfl, (List.forall_mem_cons.mpr ⟨List.mem_of_getElem? (i := 39) rfl, (List.forall_mem_cons.mpr ⟨List.mem_of_getElem? (i := 40) rfl, (List.forall_mem_cons.mpr ⟨List.mem_of_getElem? (i := 41) rfl, (List.forall_mem_cons.mpr ⟨List.mem_of_getElem? (i := 42) rfl, (List.forall_mem_cons.mpr ⟨List.mem_of_getElem? (i := 43) rfl, (List.forall_mem_cons.mpr ⟨List.mem_of_getElem? (i := 44) rfl, (List.forall_mem_cons.mpr ⟨List.mem_of_getElem? (i := 45) rfl, (List.forall_mem_cons.mpr ⟨List.mem_of_getElem? (i := 46) rfl, (List.forall_mem_cons.mpr ⟨List.mem_of_getElem? (i := 47) rfl, (List.forall_mem_cons.mpr ⟨List.mem_of_getElem? (i := 48) rfl, (List.forall_mem_cons.mpr ⟨List.mem_of_getElem? (i := 49) rfl, (List.forall_mem_cons.mpr ⟨List.mem_of_getElem? (i := 50) rfl, (List.forall_mem_cons.mpr ⟨List.mem_of_getElem? (i := 51) rfl, (List.forall_mem_cons.mpr ⟨List.mem_of_getElem? (i := 52) rfl, (List.forall_mem_cons.mpr ⟨List.mem_of_getElem? (i := 53) rfl, (fun _ h => absurd h List.not_mem_nil)⟩)⟩)⟩)⟩)⟩)⟩)⟩)⟩)⟩)⟩)⟩)⟩)⟩)⟩)⟩)⟩)⟩)⟩)⟩)⟩)⟩)⟩)⟩)⟩) (by decide +kernel)
set_option maxRecDepth 20000 in
theorem ggL_shapes_X6_side_p3 : GoodIn wsL_shapes wsX6_side_r3 := goodIn_sub (List.forall_mem_cons.mpr ⟨List.mem_of_getElem? (i := 54) rfl, (List.forall_mem_cons.mpr ⟨List.mem_of_getElem? (i := 55) rfl, (List.forall_mem_cons.mpr ⟨List.mem_of_getElem? (i := 56) rfl, (List.forall_mem_cons.mpr ⟨List.mem_of_getElem? (i := 57) rfl, (List.forall_mem_cons.mpr ⟨List.mem_of_getElem? (i := 58) rfl, (List.forall_mem_cons.mpr ⟨List.mem_of_getElem? (i := 59) rfl, (List.forall_mem_cons.mpr ⟨List.mem_of_getElem? (i := 60) rfl, (List.forall_mem_cons.mpr ⟨List.mem_of_getElem? (i := 61) rfl, (List.forall_mem_cons.mpr ⟨List.mem_of_getElem? (i := 62) rfl, (List.forall_mem_cons.mpr ⟨List.mem_of_getElem? (i := 63) rfl, (List.forall_mem_cons.mpr ⟨List.mem_of_getElem? (i := 64) rfl, (List.forall_mem_cons.mpr ⟨List.mem_of_getElem? (i := 65) rfl, (List.forall_mem_cons.mpr ⟨List.mem_of_getElem? (i := 66) rfl, (List.forall_mem_cons.mpr ⟨List.mem_of_getElem? (i := 67) rfl, (List.forall_mem_cons.mpr ⟨List.mem_of_getElem? (i := 68) rfl, (List.forall_mem_cons.mpr ⟨List.mem_of_getElem? (i := 69) rfl, (List.forall_mem_cons.mpr ⟨List.mem_of_getElem? (i := 70) rfl, (List.forall_mem_cons.mpr ⟨List.mem_of_getElem? (i := 71) rfl, (List.forall_mem_cons.mpr ⟨List.mem_of_getElem? (i := 72) rfl, (List.forall_mem_cons.mpr ⟨List.mem_of_getElem? (i := 73) rfl, (List.forall_mem_cons.mpr ⟨List.mem_of_getElem? (i := 74) rfl, (List.forall_mem_cons.mpr ⟨List.mem_of_getElem? (i := 75) rfl, (List.forall_mem_cons.mpr ⟨List.mem_of_getElem? (i := 76) rfl, (List.forall_mem_cons.mpr ⟨List.mem_of_getElem? (i := 77) rfl, (fun _ h => absurd h List.not_mem_nil)⟩)⟩)⟩)⟩)⟩)⟩)⟩)⟩)⟩)⟩)⟩)⟩)⟩)⟩)⟩)⟩)⟩)⟩)⟩)⟩)⟩)⟩)⟩)⟩) (by decide +kernel)
set_option maxRecDepth 20000 in
theorem ggL_shapes_X6_side_p4 : GoodIn wsL_shapes wsX6_side_r4 := goodIn_sub (List.forall_mem_cons.mpr ⟨List.mem_of_getElem? (i := 78) rfl, (List.forall_mem_cons.mpr ⟨List.mem_of_getElem? (i := 79) rfl, (List.forall_mem_cons.mpr ⟨List.mem_of_getElem? (i := 80) rfl, (List.forall_mem_cons.mpr ⟨List.mem_of_getElem? (i := 81) rfl, (List.forall_mem_cons.mpr ⟨List.mem_of_getElem? (i := 82) rfl, (List.forall_mem_cons.mpr ⟨List.mem_of_getElem? (i := 83) rfl, (List.forall_mem_cons.mpr ⟨List.mem_of_getElem? (i := 84) rfl, (List.forall_mem_cons.mpr ⟨List.mem_of_getElem? (i := 85) rfl, (List.forall_mem_cons.mpr ⟨List.mem_of_getElem? (i := 86) rfl, (List.forall_mem_cons.mpr ⟨List.mem_of_getElem? (i := 87) rfl, (List.forall_mem_cons.mpr ⟨List.mem_of_getElem? (i := 88) rfl, (List.forall_mem_cons.mpr ⟨List.mem_of_getElem? (i := 89) rfl, (List.forall_mem_cons.mpr ⟨List.mem_of_getElem? (i := 90) rfl, (List.forall_mem_cons.mpr ⟨List.mem_of_getElem? (i := 91) rfl, (List.forall_mem_cons.mpr ⟨List.mem_of_getElem? (i := 4) rfl, (List.forall_mem_cons.mpr ⟨List.mem_of_getElem? (i := 92) rfl, (List.forall_mem_cons.mpr ⟨List.mem_of_getElem? (i := 93) rfl, (fun _ h => absurd h List.not_mem_nil)⟩)⟩)⟩)⟩)⟩)⟩)⟩)⟩)⟩)⟩)⟩)⟩)⟩)⟩)⟩)⟩)⟩) (by decide +kernel)
set_option maxRecDepth 20000 in
theorem ggL_shapes_X6_side_p5 : GoodIn wsL_shapes wsX60 := goodIn_r _ [123, 124, 125, 126] (by decide +kernel) (by decide +kernel)
set_option maxRecDepth 20000 in
theorem ggL_shapes_X6_side_p6 : GoodIn wsL_shapes wsX30 := goodIn_r _ [127, 128, 129, 130, 131] (by decide +kernel) (by decide +kernel)
set_option maxRecDepth 20000 in
theorem ggL_shapes_X6_side_p7 : GoodIn wsL_shapes wsX20 := goodIn_r _ [132, 133, 134] (by decide +kernel) (by decide +kernel)
set_option maxRecDepth 20000 in
theorem ggL_shapes_X6_side_p8 : GoodIn wsL_shapes wsX50 := goodIn_r _ [135, 136, 137, 138, 139, 140, 141, 142, 143, 144, 145] (by decide +kernel) (by decide +kernel)
set_option maxRecDepth 20000 in
theorem ggL_shapes_X6_side_p9 : GoodIn wsL_shapes wsX00 := goodIn_r _ [146, 147] (by decide +kernel) (by decide +kernel)
set_option maxRecDepth 20000 in
theorem ggL_shapes_X6_side_p10 : GoodIn wsL_shapes wsX10 := goodIn_r _ [148, 149, 150] (by decide +kernel) (by decide +kernel)
set_option maxRecDepth 20000 in
theorem ggL_shapes_X6_side : GoodIn wsL_shapes wsX6_side := by
  show GoodIn wsL_shapes ([Cond.code yX6_side cX6_side 3 (some .int)] ++ ((wsX6_side_r1 ++ (wsX6_side_r2 ++ (wsX6_side_r3 ++ wsX6_side_r4))) ++ wsX60 ++ wsX30 ++ wsX20 ++ wsX50 ++ wsX00 ++ wsX10))
  exact goodIn_app ggL_shapes_X6_side_p0 (goodIn_app (goodIn_app (goodIn_app (goodIn_app (goodIn_app (goodIn_app (goodIn_app ggL_shapes_X6_side_p1 (goodIn_app ggL_shapes_X6_side_p2 (goodIn_app ggL_shapes_X6_side_p3 ggL_shapes_X6_side_p4))) ggL_shapes_X6_side_p5) ggL_shapes_X6_side_p6) ggL_shapes_X6_side_p7) ggL_shapes_X6_side_p8) ggL_shapes_X6_side_p9) ggL_shapes_X6_side_p10)
set_option maxRecDepth 20000 in
theorem gL_shapes_X6_side : GoodIn wsL_shapes (wsV RL 49 RX6 yX6_side wsX6_side) := goodIn_app (goodIn_of _ (by decide +kernel)) ggL_shapes_X6_side
set_option maxRecDepth 20000 in
theorem ggL_shapes_X6_shape_p0 : GoodIn wsL_shapes [Cond.code yX6_shape cX6_shape 4 (some .int)] := goodIn_sub (List.forall_mem_cons.mpr ⟨List.mem_of_getElem? (i := 97) rfl, (fun _ h => absurd h List.not_mem_nil)⟩) (by decide +kernel)
set_option maxRecDepth 20000 in
theorem ggL_shapes_X6_shape_p1 : GoodIn wsL_shapes wsX6_shape_r1 := goodIn_sub (List.forall_mem_cons.mpr ⟨List.mem_of_getElem? (i := 6) rfl, (List.forall_mem_cons.mpr ⟨List.mem_of_getElem? (i := 7) rfl, (List.forall_mem_cons.mpr ⟨List.mem_of_getElem? (i := 8) rfl, (List.forall_mem_cons.mpr ⟨List.mem_of_getElem? (i := 98) rfl, (List.forall_mem_cons.mpr ⟨List.mem_of_getElem? (i := 99) rfl, (List.forall_mem_cons.mpr ⟨List.mem_of_getElem? (i := 11) rfl, (List.forall_mem_cons.mpr ⟨List.mem_of_getElem? (i := 12) rfl, (List.forall_mem_cons.mpr ⟨List.mem_of_getElem? (i := 100) rfl, (List.forall_mem_cons.mpr ⟨List.mem_of_getElem? (i := 91) rfl, (List.forall_mem_cons.mpr ⟨List.mem_of_getElem? (i := 4) rfl, (List.forall_mem_cons.mpr ⟨List.mem_of_getElem? (i := 92) rfl, (List.forall_mem_cons.mpr ⟨List.mem_of_getElem? (i := 13) rfl, (List.forall_mem_cons.mpr ⟨List.mem_of_getElem? (i := 14) rfl, (List.forall_mem_cons.mpr ⟨List.mem_of_getElem? (i := 15) rfl, (List.forall_mem_cons.mpr ⟨List.mem_of_getElem? (i := 16) rfl, (List.forall_mem_cons.mpr ⟨List.mem_of_getElem? (i := 17) rfl, (List.forall_mem_cons.mpr ⟨List.mem_of_getElem? (i := 18) rfl, (List.forall_mem_cons.mpr ⟨List.mem_of_getElem? (i := 19) rfl, (List.forall_mem_cons.mpr ⟨List.mem_of_getElem? (i := 20) rfl, (List.forall_mem_cons.mpr ⟨List.mem_of_getElem? (i := 21) rfl, (List.forall_mem_cons.mpr ⟨List.mem_of_getElem? (i := 22) rfl, (List.forall_mem_cons.mpr ⟨List.mem_of_getElem? (i := 23) rfl, (List.forall_mem_cons.mpr ⟨List.mem_of_getElem? (i := 24) rfl, (List.forall_mem_cons.mpr ⟨List.mem_of_getElem? (i := 25) rfl, (fun _ h => absurd h List.not_mem_nil)⟩)⟩)⟩)⟩)⟩)⟩)⟩)⟩)⟩)⟩)⟩)⟩)⟩)⟩)⟩)⟩)⟩)⟩)⟩)⟩)⟩)⟩)⟩)⟩) (by decide +kernel)
set_option maxRecDepth 20000 in
theorem ggL_shapes_X6_shape_p2 : GoodIn wsL_shapes wsX6_shape_r2 := goodIn_sub (List.forall_mem_cons.mpr ⟨List.mem_of_getElem? (i := 26) rfl, (List.forall_mem_cons.mpr ⟨List.mem_of_getElem? (i := 27) rfl, (List.forall_mem_cons.mpr ⟨List.mem_of_getElem? (i := 28) rfl, (List.forall_mem_cons.mpr ⟨List.mem_of_getElem? (i := 29) rfl, (List.forall_mem_cons.mpr ⟨List.mem_of_getElem? (i := 30) rfl, (List.forall_mem_cons.mpr ⟨List.mem_of_getElem? (i := 31) rfl, (List.forall_mem_cons.mpr ⟨List.mem_of_getElem? (i := 32) rfl, (List.forall_mem_cons.mpr ⟨List.mem_of_getElem? (i := 33) rfl, (List.forall_mem_cons.mpr ⟨List.mem_of_getElem? (i := 34) rfl, (List.forall_mem_cons.mpr ⟨List.mem_of_getElem? (i := 35) rfl, (List.forall_mem_cons.mpr ⟨List.mem_of_getElem? (i := 36) rfl, (List.forall_mem_cons.mpr ⟨List.mem_of_getElem? (i := 37) rfl, (List.forall_mem_cons.mpr ⟨List.mem_of_getElem? (i := 38) rfl, (List.forall_mem_cons.mpr ⟨List.mem_of_getElem? (i := 39) rfl, (List.forall_mem_cons.mpr ⟨List.mem_of_getElem? (i := 40) rfl, (List.forall_mem_cons.mpr ⟨List.mem_of_getElem? (i := 41) rfl, (List.forall_mem_cons.mpr ⟨List.mem_of_getElem? (i := 42) rfl, (List.forall_mem_cons.mpr ⟨List.mem_of_getElem? (i := 43) rfl, (List.forall_mem_cons.mpr ⟨List.mem_of_getElem? (i := 44) rfl, (List.forall_mem_cons.mpr ⟨List.mem_of_getElem? (i := 45) rfl, (List.forall_mem_cons.mpr ⟨List.mem_of_getElem? (i := 46) rfl, (List.forall_mem_cons.mpr ⟨List.mem_of_getElem? (i := 47) rfl, (List.forall_mem_cons.mpr ⟨List.mem_of_getElem? (i := 48) rfl, (List.forall_mem_cons.mpr ⟨List.mem_of_getElem? (i := 49) rfl, (fun _ h => absurd h List.not_mem_nil)⟩)⟩)⟩)⟩)⟩)⟩)⟩)⟩)⟩)⟩)⟩)⟩)⟩)⟩)⟩)⟩)⟩)⟩)⟩)⟩)⟩)⟩)⟩)⟩) (by decide +kernel)
set_option maxRecDepth 20000 in
theorem ggL_shapes_X6_shape_p3 : GoodIn wsL_shapes wsX6_shape_r3 := goodIn_sub (List.forall_mem_cons.mpr ⟨List.mem_of_getElem? (i := 50) rfl, (List.forall_mem_cons.mpr ⟨List.mem_of_getElem? (i := 51) rfl, (List.forall_mem_cons.mpr ⟨List.mem_of_getElem? (i := 52) rfl, (List.forall_mem_cons.mpr ⟨List.mem_of_getElem? (i := 53) rfl, (List.forall_mem_cons.mpr ⟨List.mem_of_getElem? (i := 54) rfl, (List.forall_mem_cons.mpr ⟨List.mem_of_getElem? (i := 55) rfl, (List.forall_mem_cons.mpr ⟨List.mem_of_getElem? (i := 56) rfl, (List.forall_mem_cons.mpr ⟨List.mem_of_getElem? (i := 57) rfl, (List.forall_mem_cons.mpr ⟨List.mem_of_getElem? (i := 58) rfl, (List.forall_mem_cons.mpr ⟨List.mem_of_getElem? (i := 59) rfl, (List.forall_mem_cons.mpr ⟨List.mem_of_getElem? (i := 60) rfl, (List.forall_mem_cons.mpr ⟨List.mem_of_getElem? (i := 61) rfl, (List.forall_mem_cons.mpr ⟨List.mem_of_getElem? (i := 62) rfl, (List.forall_mem_cons.mpr ⟨List.mem_of_getElem? (i := 63) rfl, (List.forall_mem_cons.mpr ⟨List.mem_of_getElem? (i := 64) rfl, (List.forall_mem_cons.mpr ⟨List.mem_of_getElem? (i := 65) rfl, (List.forall_mem_cons.mpr ⟨List.mem_of_getElem? (i := 66) rfl, (List.forall_mem_cons.mpr ⟨List.mem_of_getElem? (i := 67) rfl, (List.forall_mem_cons.mpr ⟨List.mem_of_getElem? (i := 68) rfl, (List.forall_mem_cons.mpr ⟨List.mem_of_getElem? (i := 69) rfl, (List.forall_mem_cons.mpr ⟨List.mem_of_getElem? (i := 70) rfl, (List.forall_mem_cons.mpr ⟨List.mem_of_getElem? (i := 71) rfl, (List.forall_mem_cons.mpr ⟨List.mem_of_getElem? (i := 101) rfl, (List.forall_mem_cons.mpr ⟨List.mem_of_getElem? (i := 88) rfl, (fun _ h => absurd h List.not_mem_nil)⟩)⟩)⟩)⟩)⟩)⟩)⟩)⟩)⟩)⟩)⟩)⟩)⟩)⟩)⟩)⟩)⟩)⟩)⟩)⟩)⟩)⟩)⟩)⟩) (by decide +kernel)
set_option maxRecDepth 20000 in
theorem ggL_shapes_X6_shape_p4 : GoodIn wsL_shapes wsX6_shape_r4 := goodIn_sub (List.forall_mem_cons.mpr ⟨List.mem_of_getElem? (i := 89) rfl, (List.forall_mem_cons.mpr ⟨List.mem_of_getElem? (i := 90) rfl, (List.forall_mem_cons.mpr ⟨List.mem_of_getElem? (i := 93) rfl, (List.forall_mem_cons.mpr ⟨List.mem_of_getElem? (i := 77) rfl, (List.forall_mem_cons.mpr ⟨List.mem_of_getElem? (i := 78) rfl, (List.forall_mem_cons.mpr ⟨List.mem_of_getElem? (i := 79) rfl, (List.forall_mem_cons.mpr ⟨List.mem_of_getElem? (i := 80) rfl, (List.forall_mem_cons.mpr ⟨List.mem_of_getElem? (i := 81) rfl, (List.forall_mem_cons.mpr ⟨List.mem_of_getElem? (i := 82) rfl, (List.forall_mem_cons.mpr ⟨List.mem_of_getElem? (i := 83) rfl, (List.forall_mem_cons.mpr ⟨List.mem_of_getElem? (i := 84) rfl, (List.forall_mem_cons.mpr ⟨List.mem_of_getElem? (i := 85) rfl, (List.forall_mem_cons.mpr ⟨List.mem_of_getElem? (i := 86) rfl, (List.forall_mem_cons.mpr ⟨List.mem_of_getElem? (i := 87) rfl, (List.forall_mem_cons.mpr ⟨List.mem_of_getElem? (i := 102) rfl, (List.forall_mem_cons.mpr ⟨List.mem_of_getElem? (i := 103) rfl, (List.forall_mem_cons.mpr ⟨List.mem_of_getElem? (i := 104) rfl, (List.forall_mem_cons.mpr ⟨List.mem_of_getElem? (i := 105) rfl, (List.forall_mem_cons.mpr ⟨List.mem_of_getElem? (i := 106) rfl, (List.forall_mem_cons.mpr ⟨List.mem_of_getElem? (i := 107) rfl, (List.forall_mem_cons.mpr ⟨List.mem_of_getElem? (i := 108) rfl, (List.forall_mem_cons.mpr ⟨List.mem_of_getElem? (i := 109) rfl, (List.forall_mem_cons.mpr ⟨List.mem_of_getElem? (i := 110) rfl, (List.forall_mem_cons.mpr ⟨List.mem_of_getElem? (i := 111) rfl, (fun _ h => absurd h List.not_mem_nil)⟩)⟩)⟩)⟩)⟩)⟩)⟩)⟩)⟩)⟩)⟩)⟩)⟩)⟩)⟩)⟩)⟩)⟩)⟩)⟩)⟩)⟩)⟩)⟩) (by decide +kernel)
set_option maxRecDepth 20000 in
theorem ggL_shapes_X6_shape_p5 : GoodIn wsL_shapes wsX6_shape_r5 := goodIn_sub (List.forall_mem_cons.mpr ⟨List.mem_of_getElem? (i := 112) rfl, (List.forall_mem_cons.mpr ⟨List.mem_of_getElem? (i := 113) rfl, (List.forall_mem_cons.mpr ⟨List.mem_of_getElem? (i := 114) rfl, (List.forall_mem_cons.mpr ⟨List.mem_of_getElem? (i := 115) rfl, (List.forall_mem_cons.mpr ⟨List.mem_of_getElem? (i := 116) rfl, (List.forall_mem_cons.mpr ⟨List.mem_of_getElem? (i := 117) rfl, (List.forall_mem_cons.mpr ⟨List.mem_of_getElem? (i := 118) rfl, (fun _ h => absurd h List.not_mem_nil)⟩)⟩)⟩)⟩)⟩)⟩)⟩) (by decide +kernel)
set_option maxRecDepth 20000 in
theorem ggL_shapes_X6_shape_p6 : GoodIn wsL_shapes wsX60 := goodIn_r _ [123, 124, 125, 126] (by decide +kernel) (by decide +kernel)
set_option maxRecDepth 20000 in
theorem ggL_shapes_X6_shape_p7 : GoodIn wsL_shapes wsX30 := goodIn_r _ [127, 128, 129, 130, 131] (by decide +kernel) (by decide +kernel)
set_option maxRecDepth 20000 in
theorem ggL_shapes_X6_shape_p8 : GoodIn wsL_shapes wsX50 := goodIn_r _ [135, 136, 137, 138, 139, 140, 141, 142, 143, 144, 145] (by decide +kernel) (by decide +kernel)
set_option maxRecDepth 20000 in
theorem ggL_shapes_X6_shape_p9 : GoodIn wsL_shapes wsX00 := goodIn_r _ [146, 147] (by decide +kernel) (by decide +kernel)
set_option maxRecDepth 20000 in
theorem ggL_shapes_X6_shape_p10 : GoodIn wsL_shapes wsX20 := goodIn_r _ [132, 133, 134] (by decide +kernel) (by decide +kernel)
set_option maxRecDepth 20000 in
theorem ggL_shapes_X6_shape_p11 : GoodIn wsL_shapes wsX10 := goodIn_r _ [148, 149, 150] (by decide +kernel) (by decide +kernel)
set_option maxRecDepth 20000 in
theorem ggL_shapes_X6_shape : GoodIn wsL_shapes wsX6_shape := by
  show GoodIn wsL_shapes ([Cond.code yX6_shape cX6_shape 4 (some .int)] ++ ((wsX6_shape_r1 ++ (wsX6_shape_r2 ++ (wsX6_shape_r3 ++ (wsX6_shape_r4 ++ wsX6_shape_r5)))) ++ wsX60 ++ wsX30 ++ wsX50 ++ wsX00 ++ wsX20 ++ wsX10))
  exact goodIn_app ggL_shapes_X6_shape_p0 (goodIn_app (goodIn_app (goodIn_app (goodIn_app (goodIn_app (goodIn_app (goodIn_app ggL_shapes_X6_shape_p1 (goodIn_app ggL_shapes_X6_shape_p2 (goodIn_app ggL_shapes_X6_shape_p3 (goodIn_app ggL_shapes_X6_shape_p4 ggL_shapes_X6_shape_p5)))) ggL_shapes_X6_shape_p6) ggL_shapes_X6_shape_p7) ggL_shapes_X6_shape_p8) ggL_shapes_X6_shape_p9) ggL_shapes_X6_shape_p10) ggL_shapes_X6_shape_p11)
set_option maxRecDepth 20000 in
theorem gL_shapes_X6_shape : GoodIn wsL_shapes (wsV RL 52 RX6 yX6_shape wsX6_shape) := goodIn_app (goodIn_of _ (by decide +kernel)) ggL_shapes_X6_shape
set_option maxRecDepth 20000 in
theorem ggL_shapes_L_along : GoodIn wsL_shapes wsL_along := goodIn_r _ [122] (by decide +kernel) (by decide +kernel)
set_option maxRecDepth 20000 in
theorem gL_shapes_L_along : GoodIn wsL_shapes (va_wsS RL 56 yL_along wsL_along) := goodIn_app (goodIn_of _ (by decide +kernel)) ggL_shapes_L_along
theorem dL_shapes_0 : decode cL_shapes 0 = .ok (.iload 6, 2) := by decide +kernel
theorem dL_shapes_2 : decode cL_shapes 2 = .ok (.iconst 3, 1) := by decide +kernel
theorem dL_shapes_3 : decode cL_shapes 3 = .ok (.irem, 1) := by decide +kernel
theorem dL_shapes_4 : decode cL_shapes 4 = .ok (.ifCond .ne 74, 3) := by decide +kernel
theorem dL_shapes_7 : decode cL_shapes 7 = .ok (.aload_n 1, 1) := by decide +kernel
theorem dL_shapes_8 : decode cL_shapes 8 = .ok (.iconst 0, 1) := by decide +kernel
theorem dL_shapes_9 : decode cL_shapes 9 = .ok (.iaload, 1) := by decide +kernel
theorem dL_shapes_10 : decode cL_shapes 10 = .ok (.istore 7, 2) := by decide +kernel
theorem dL_shapes_12 : decode cL_shapes 12 = .ok (.aload_n 1, 1) := by decide +kernel
theorem dL_shapes_13 : decode cL_shapes 13 = .ok (.iconst 0, 1) := by decide +kernel
theorem dL_shapes_14 : decode cL_shapes 14 = .ok (.iconst 1, 1) := by decide +kernel
theorem dL_shapes_15 : decode cL_shapes 15 = .ok (.iload 6, 2) := by decide +kernel
theorem dL_shapes_17 : decode cL_shapes 17 = .ok (.iconst 3, 1) := by decide +kernel
theorem dL_shapes_18 : decode cL_shapes 18 = .ok (.idiv, 1) := by decide +kernel
theorem dL_shapes_19 : decode cL_shapes 19 = .ok (.iconst 4, 1) := by decide +kernel
theorem dL_shapes_20 : decode cL_shapes 20 = .ok (.irem, 1) := by decide +kernel
theorem dL_shapes_21 : decode cL_shapes 21 = .ok (.iadd, 1) := by decide +kernel
theorem dL_shapes_22 : decode cL_shapes 22 = .ok (.iastore, 1) := by decide +kernel
theorem dL_shapes_23 : decode cL_shapes 23 = .ok (.aload_n 1, 1) := by decide +kernel
theorem dL_shapes_24 : decode cL_shapes 24 = .ok (.iconst 4, 1) := by decide +kernel
theorem dL_shapes_25 : decode cL_shapes 25 = .ok (.aload_n 1, 1) := by decide +kernel
theorem dL_shapes_26 : decode cL_shapes 26 = .ok (.iconst 0, 1) := by decide +kernel
theorem dL_shapes_27 : decode cL_shapes 27 = .ok (.iaload, 1) := by decide +kernel
theorem dL_shapes_28 : decode cL_shapes 28 = .ok (.iastore, 1) := by decide +kernel
theorem dL_shapes_29 : decode cL_shapes 29 = .ok (.aload_n 1, 1) := by decide +kernel
theorem dL_shapes_30 : decode cL_shapes 30 = .ok (.iconst 5, 1) := by decide +kernel
theorem dL_shapes_31 : decode cL_shapes 31 = .ok (.iconst 0, 1) := by decide +kernel
theorem dL_shapes_32 : decode cL_shapes 32 = .ok (.iastore, 1) := by decide +kernel
theorem dL_shapes_33 : decode cL_shapes 33 = .ok (.aload 5, 2) := by decide +kernel
theorem dL_shapes_35 : decode cL_shapes 35 = .ok (.iconst 0, 1) := by decide +kernel
theorem dL_shapes_36 : decode cL_shapes 36 = .ok (.lconst 0, 1) := by decide +kernel
theorem dL_shapes_37 : decode cL_shapes 37 = .ok (.lastore, 1) := by decide +kernel
theorem dL_shapes_38 : decode cL_shapes 38 = .ok (.iconst 0, 1) := by decide +kernel
theorem dL_shapes_39 : decode cL_shapes 39 = .ok (.istore 8, 2) := by decide +kernel
theorem dL_shapes_41 : decode cL_shapes 41 = .ok (.iload 8, 2) := by decide +kernel
theorem dL_shapes_43 : decode cL_shapes 43 = .ok (.bipush 20, 2) := by decide +kernel
theorem dL_shapes_45 : decode cL_shapes 45 = .ok (.if_icmp .ge 15, 3) := by decide +kernel
theorem dL_shapes_48 : decode cL_shapes 48 = .ok (.aload 4, 2) := by decide +kernel
theorem dL_shapes_50 : decode cL_shapes 50 = .ok (.iload 8, 2) := by decide +kernel
theorem dL_shapes_52 : decode cL_shapes 52 = .ok (.iconst 0, 1) := by decide +kernel
theorem dL_shapes_53 : decode cL_shapes 53 = .ok (.iastore, 1) := by decide +kernel
theorem dL_shapes_54 : decode cL_shapes 54 = .ok (.iinc 8 1, 3) := by decide +kernel
theorem dL_shapes_57 : decode cL_shapes 57 = .ok (.goto (-16), 3) := by decide +kernel
theorem dL_shapes_60 : decode cL_shapes 60 = .ok (.aload_n 0, 1) := by decide +kernel
theorem dL_shapes_61 : decode cL_shapes 61 = .ok (.aload_n 1, 1) := by decide +kernel
theorem dL_shapes_62 : decode cL_shapes 62 = .ok (.iconst 0, 1) := by decide +kernel
theorem dL_shapes_63 : decode cL_shapes 63 = .ok (.iaload, 1) := by decide +kernel
theorem dL_shapes_64 : decode cL_shapes 64 = .ok (.invokevirtual 49, 3) := by decide +kernel
theorem dL_shapes_67 : decode cL_shapes 67 = .ok (.iload 7, 2) := by decide +kernel
theorem dL_shapes_69 : decode cL_shapes 69 = .ok (.if_icmp .ne 7, 3) := by decide +kernel
theorem dL_shapes_72 : decode cL_shapes 72 = .ok (.iconst 1, 1) := by decide +kernel
theorem dL_shapes_73 : decode cL_shapes 73 = .ok (.goto 4, 3) := by decide +kernel
theorem dL_shapes_76 : decode cL_shapes 76 = .ok (.iconst 0, 1) := by decide +kernel
theorem dL_shapes_77 : decode cL_shapes 77 = .ok (.ireturn, 1) := by decide +kernel
theorem dL_shapes_78 : decode cL_shapes 78 = .ok (.aload_n 1, 1) := by decide +kernel
theorem dL_shapes_79 : decode cL_shapes 79 = .ok (.iconst 1, 1) := by decide +kernel
theorem dL_shapes_80 : decode cL_shapes 80 = .ok (.iconst 1, 1) := by decide +kernel
theorem dL_shapes_81 : decode cL_shapes 81 = .ok (.iload 6, 2) := by decide +kernel
theorem dL_shapes_83 : decode cL_shapes 83 = .ok (.iconst 3, 1) := by decide +kernel
theorem dL_shapes_84 : decode cL_shapes 84 = .ok (.idiv, 1) := by decide +kernel
theorem dL_shapes_85 : decode cL_shapes 85 = .ok (.bipush 6, 2) := by decide +kernel
theorem dL_shapes_87 : decode cL_shapes 87 = .ok (.irem, 1) := by decide +kernel
theorem dL_shapes_88 : decode cL_shapes 88 = .ok (.iadd, 1) := by decide +kernel
theorem dL_shapes_89 : decode cL_shapes 89 = .ok (.iastore, 1) := by decide +kernel
theorem dL_shapes_90 : decode cL_shapes 90 = .ok (.aload_n 1, 1) := by decide +kernel
theorem dL_shapes_91 : decode cL_shapes 91 = .ok (.iconst 2, 1) := by decide +kernel
theorem dL_shapes_92 : decode cL_shapes 92 = .ok (.iconst 1, 1) := by decide +kernel
theorem dL_shapes_93 : decode cL_shapes 93 = .ok (.iload 6, 2) := by decide +kernel
theorem dL_shapes_95 : decode cL_shapes 95 = .ok (.bipush 18, 2) := by decide +kernel
theorem dL_shapes_97 : decode cL_shapes 97 = .ok (.idiv, 1) := by decide +kernel
theorem dL_shapes_98 : decode cL_shapes 98 = .ok (.bipush 6, 2) := by decide +kernel
theorem dL_shapes_100 : decode cL_shapes 100 = .ok (.irem, 1) := by decide +kernel
theorem dL_shapes_101 : decode cL_shapes 101 = .ok (.iadd, 1) := by decide +kernel
theorem dL_shapes_102 : decode cL_shapes 102 = .ok (.iastore, 1) := by decide +kernel
theorem dL_shapes_103 : decode cL_shapes 103 = .ok (.aload_n 1, 1) := by decide +kernel
theorem dL_shapes_104 : decode cL_shapes 104 = .ok (.iconst 3, 1) := by decide +kernel
theorem dL_shapes_105 : decode cL_shapes 105 = .ok (.iconst 1, 1) := by decide +kernel
theorem dL_shapes_106 : decode cL_shapes 106 = .ok (.iload 6, 2) := by decide +kernel
theorem dL_shapes_108 : decode cL_shapes 108 = .ok (.bipush 108, 2) := by decide +kernel
theorem dL_shapes_110 : decode cL_shapes 110 = .ok (.idiv, 1) := by decide +kernel
theorem dL_shapes_111 : decode cL_shapes 111 = .ok (.bipush 6, 2) := by decide +kernel
theorem dL_shapes_113 : decode cL_shapes 113 = .ok (.irem, 1) := by decide +kernel
theorem dL_shapes_114 : decode cL_shapes 114 = .ok (.iadd, 1) := by decide +kernel
theorem dL_shapes_115 : decode cL_shapes 115 = .ok (.iastore, 1) := by decide +kernel
theorem dL_shapes_116 : decode cL_shapes 116 = .ok (.aload_n 1, 1) := by decide +kernel
theorem dL_shapes_117 : decode cL_shapes 117 = .ok (.iconst 5, 1) := by decide +kernel
theorem dL_shapes_118 : decode cL_shapes 118 = .ok (.iconst 0, 1) := by decide +kernel
theorem dL_shapes_119 : decode cL_shapes 119 = .ok (.iastore, 1) := by decide +kernel
theorem dL_shapes_120 : decode cL_shapes 120 = .ok (.aload 5, 2) := by decide +kernel
theorem dL_shapes_122 : decode cL_shapes 122 = .ok (.iconst 0, 1) := by decide +kernel
theorem dL_shapes_123 : decode cL_shapes 123 = .ok (.lconst 0, 1) := by decide +kernel
theorem dL_shapes_124 : decode cL_shapes 124 = .ok (.lastore, 1) := by decide +kernel
theorem dL_shapes_125 : decode cL_shapes 125 = .ok (.iconst 0, 1) := by decide +kernel
theorem dL_shapes_126 : decode cL_shapes 126 = .ok (.istore 7, 2) := by decide +kernel
theorem dL_shapes_128 : decode cL_shapes 128 = .ok (.iload 7, 2) := by decide +kernel
theorem dL_shapes_130 : decode cL_shapes 130 = .ok (.bipush 36, 2) := by decide +kernel
theorem dL_shapes_132 : decode cL_shapes 132 = .ok (.if_icmp .ge 19, 3) := by decide +kernel
theorem dL_shapes_135 : decode cL_shapes 135 = .ok (.aload_n 2, 1) := by decide +kernel
theorem dL_shapes_136 : decode cL_shapes 136 = .ok (.iload 7, 2) := by decide +kernel
theorem dL_shapes_138 : decode cL_shapes 138 = .ok (.iconst 0, 1) := by decide +kernel
theorem dL_shapes_139 : decode cL_shapes 139 = .ok (.iastore, 1) := by decide +kernel
theorem dL_shapes_140 : decode cL_shapes 140 = .ok (.aload_n 3, 1) := by decide +kernel
theorem dL_shapes_141 : decode cL_shapes 141 = .ok (.iload 7, 2) := by decide +kernel
theorem dL_shapes_143 : decode cL_shapes 143 = .ok (.iconst 0, 1) := by decide +kernel
theorem dL_shapes_144 : decode cL_shapes 144 = .ok (.iastore, 1) := by decide +kernel
theorem dL_shapes_145 : decode cL_shapes 145 = .ok (.iinc 7 1, 3) := by decide +kernel
theorem dL_shapes_148 : decode cL_shapes 148 = .ok (.goto (-20), 3) := by decide +kernel
theorem dL_shapes_151 : decode cL_shapes 151 = .ok (.aload_n 0, 1) := by decide +kernel
theorem dL_shapes_152 : decode cL_shapes 152 = .ok (.aload_n 1, 1) := by decide +kernel
theorem dL_shapes_153 : decode cL_shapes 153 = .ok (.iconst 1, 1) := by decide +kernel
theorem dL_shapes_154 : decode cL_shapes 154 = .ok (.iaload, 1) := by decide +kernel
theorem dL_shapes_155 : decode cL_shapes 155 = .ok (.aload_n 1, 1) := by decide +kernel
theorem dL_shapes_156 : decode cL_shapes 156 = .ok (.iconst 2, 1) := by decide +kernel
theorem dL_shapes_157 : decode cL_shapes 157 = .ok (.iaload, 1) := by decide +kernel
theorem dL_shapes_158 : decode cL_shapes 158 = .ok (.aload_n 1, 1) := by decide +kernel
theorem dL_shapes_159 : decode cL_shapes 159 = .ok (.iconst 3, 1) := by decide +kernel
theorem dL_shapes_160 : decode cL_shapes 160 = .ok (.iaload, 1) := by decide +kernel
theorem dL_shapes_161 : decode cL_shapes 161 = .ok (.invokevirtual 52, 3) := by decide +kernel
theorem dL_shapes_164 : decode cL_shapes 164 = .ok (.aload_n 1, 1) := by decide +kernel
theorem dL_shapes_165 : decode cL_shapes 165 = .ok (.aload_n 1, 1) := by decide +kernel
theorem dL_shapes_166 : decode cL_shapes 166 = .ok (.iconst 1, 1) := by decide +kernel
theorem dL_shapes_167 : decode cL_shapes 167 = .ok (.iaload, 1) := by decide +kernel
theorem dL_shapes_168 : decode cL_shapes 168 = .ok (.invokestatic 56, 3) := by decide +kernel
theorem dL_shapes_171 : decode cL_shapes 171 = .ok (.aload_n 1, 1) := by decide +kernel
theorem dL_shapes_172 : decode cL_shapes 172 = .ok (.aload_n 1, 1) := by decide +kernel
theorem dL_shapes_173 : decode cL_shapes 173 = .ok (.iconst 3, 1) := by decide +kernel
theorem dL_shapes_174 : decode cL_shapes 174 = .ok (.iaload, 1) := by decide +kernel
theorem dL_shapes_175 : decode cL_shapes 175 = .ok (.invokestatic 56, 3) := by decide +kernel
theorem dL_shapes_178 : decode cL_shapes 178 = .ok (.imul, 1) := by decide +kernel
theorem dL_shapes_179 : decode cL_shapes 179 = .ok (.if_icmp .ne 7, 3) := by decide +kernel
theorem dL_shapes_182 : decode cL_shapes 182 = .ok (.iconst 1, 1) := by decide +kernel
theorem dL_shapes_183 : decode cL_shapes 183 = .ok (.goto 4, 3) := by decide +kernel
theorem dL_shapes_186 : decode cL_shapes 186 = .ok (.iconst 0, 1) := by decide +kernel
theorem dL_shapes_187 : decode cL_shapes 187 = .ok (.ireturn, 1) := by decide +kernel
set_option maxRecDepth 20000 in
theorem ggL_runs_L_along : GoodIn wsL_runs wsL_along := goodIn_r _ [5] (by decide +kernel) (by decide +kernel)
set_option maxRecDepth 20000 in
theorem gL_runs_L_along : GoodIn wsL_runs (va_wsS RL 56 yL_along wsL_along) := goodIn_app (goodIn_of _ (by decide +kernel)) ggL_runs_L_along
set_option maxRecDepth 20000 in
theorem ggL_runs_X6_begin_p0 : GoodIn wsL_runs [Cond.code yX6_begin cX6_begin 3 (some .int)] := goodIn_sub (List.forall_mem_cons.mpr ⟨List.mem_of_getElem? (i := 10) rfl, (fun _ h => absurd h List.not_mem_nil)⟩) (by decide +kernel)
set_option maxRecDepth 20000 in
theorem ggL_runs_X6_begin_p1 : GoodIn wsL_runs wsX6_begin_r1 := goodIn_sub (List.forall_mem_cons.mpr ⟨List.mem_of_getElem? (i := 11) rfl, (List.forall_mem_cons.mpr ⟨List.mem_of_getElem? (i := 12) rfl, (List.forall_mem_cons.mpr ⟨List.mem_of_getElem? (i := 13) rfl, (List.forall_mem_cons.mpr ⟨List.mem_of_getElem? (i := 14) rfl, (List.forall_mem_cons.mpr ⟨List.mem_of_getElem? (i := 15) rfl, (List.forall_mem_cons.mpr ⟨List.mem_of_getElem? (i := 16) rfl, (List.forall_mem_cons.mpr ⟨List.mem_of_getElem? (i := 17) rfl, (List.forall_mem_cons.mpr ⟨List.mem_of_getElem? (i := 18) rfl, (List.forall_mem_cons.mpr ⟨List.mem_of_getElem? (i := 19) rfl, (List.forall_mem_cons.mpr ⟨List.mem_of_getElem? (i := 20) rfl, (List.forall_mem_cons.mpr ⟨List.mem_of_getElem? (i := 21) rfl, (List.forall_mem_cons.mpr ⟨List.mem_of_getElem? (i := 22) rfl, (List.forall_mem_cons.mpr ⟨List.mem_of_getElem? (i := 23) rfl, (List.forall_mem_cons.mpr ⟨List.mem_of_getElem? (i := 24) rfl, (List.forall_mem_cons.mpr ⟨List.mem_of_getElem? (i := 25) rfl, (List.forall_mem_cons.mpr ⟨List.mem_of_getElem? (i := 26) rfl, (List.forall_mem_cons.mpr ⟨List.mem_of_getElem? (i := 27) rfl, (List.forall_mem_cons.mpr ⟨List.mem_of_getElem? (i := 28) rfl, (List.forall_mem_cons.mpr ⟨List.mem_of_getElem? (i := 29) rfl, (List.forall_mem_cons.mpr ⟨List.mem_of_getElem? (i := 30) rfl, (List.forall_mem_cons.mpr ⟨List.mem_of_getElem? (i := 31) rfl, (List.forall_mem_cons.mpr ⟨List.mem_of_getElem? (i := 32) rfl, (List.forall_mem_cons.mpr ⟨List.mem_of_getElem? (i := 33) rfl, (List.forall_mem_cons.mpr ⟨List.mem_of_getElem? (i := 34) rfl, (fun _ h => absurd h List.not_mem_nil)⟩)⟩)⟩)⟩)⟩)⟩)⟩)⟩)⟩)⟩)⟩)⟩)⟩)⟩)⟩)⟩)⟩)⟩)⟩)⟩)⟩)⟩)⟩)⟩) (by decide +kernel)
set_option maxRecDepth 20000 in
theorem ggL_runs_X6_begin_p2 : GoodIn wsL_runs wsX6_begin_r2 := goodIn_sub (List.forall_mem_cons.mpr ⟨List.mem_of_getElem? (i := 35) rfl, (List.forall_mem_cons.mpr ⟨List.mem_of_getElem? (i := 36) rfl, (List.forall_mem_cons.mpr ⟨List.mem_of_getElem? (i := 37) rfl, (List.forall_mem_cons.mpr ⟨List.mem_of_getElem? (i := 38) rfl, (List.forall_mem_cons.mpr ⟨List.mem_of_getElem? (i := 39) rfl, (List.forall_mem_cons.mpr ⟨List.mem_of_getElem? (i := 40) rfl, (List.forall_mem_cons.mpr ⟨List.mem_of_getElem? (i := 41) rfl, (List.forall_mem_cons.mpr ⟨List.mem_of_getElem? (i := 42) rfl, (List.forall_mem_cons.mpr ⟨List.mem_of_getElem? (i := 43) rfl, (List.forall_mem_cons.mpr ⟨List.mem_of_getElem? (i := 44) rfl, (List.forall_mem_cons.mpr ⟨List.mem_of_getElem? (i := 45) rfl, (List.forall_mem_cons.mpr ⟨List.mem_of_getElem? (i := 46) rfl, (List.forall_mem_cons.mpr ⟨List.mem_of_getElem? (i := 47) rfl, (List.forall_mem_cons.mpr ⟨List.mem_of_getElem? (i := 48) rfl, (List.forall_mem_cons.mpr ⟨List.mem_of_getElem? (i := 49) rfl, (List.forall_mem_cons.mpr ⟨List.mem_of_getElem? (i := 50) rfl, (List.forall_mem_cons.mpr ⟨List.mem_of_getElem? (i := 51) rfl, (List.forall_mem_cons.mpr ⟨List.mem_of_getElem? (i := 52) rfl, (List.forall_mem_cons.mpr ⟨List.mem_of_getElem? (i := 53) rfl, (List.forall_mem_cons.mpr ⟨List.mem_of_getElem? (i := 54) rfl, (List.forall_mem_cons.mpr ⟨List.mem_of_getElem? (i := 55) rfl, (List.forall_mem_cons.mpr ⟨List.mem_of_getElem? (i := 56) rfl, (List.forall_mem_cons.mpr ⟨List.mem_of_getElem? (i := 57) rfl, (List.forall_mem_cons.mpr ⟨List.mem_of_getElem? (i := 58) rfl, (fun _ h => absurd h List.not_mem_nil)⟩)⟩)⟩)⟩)⟩)⟩)⟩)⟩)⟩)⟩)⟩)⟩)⟩)⟩)⟩)⟩)⟩)⟩)⟩)⟩)⟩)⟩)⟩)⟩) (by decide +kernel)
set_option maxRecDepth 20000 in
theorem ggL_runs_X6_begin_p3 : GoodIn wsL_runs wsX6_begin_r3 := goodIn_sub (List.forall_mem_cons.mpr ⟨List.mem_of_getElem? (i := 59) rfl, (List.forall_mem_cons.mpr ⟨List.mem_of_getElem? (i := 60) rfl, (List.forall_mem_cons.mpr ⟨List.mem_of_getElem? (i := 61) rfl, (List.forall_mem_cons.mpr ⟨List.mem_of_getElem? (i := 62) rfl, (List.forall_mem_cons.mpr ⟨List.mem_of_getElem? (i := 63) rfl, (List.forall_mem_cons.mpr ⟨List.mem_of_getElem? (i := 64) rfl, (List.forall_mem_cons.mpr ⟨List.mem_of_getElem? (i := 65) rfl, (List.forall_mem_cons.mpr ⟨List.mem_of_getElem? (i := 66) rfl, (List.forall_mem_cons.mpr ⟨List.mem_of_getElem? (i := 67) rfl, (List.forall_mem_cons.mpr ⟨List.mem_of_getElem? (i := 68) rfl, (List.forall_mem_cons.mpr ⟨List.mem_of_getElem? (i := 69) rfl, (List.forall_mem_cons.mpr ⟨List.mem_of_getElem? (i := 70) rfl, (List.forall_mem_cons.mpr ⟨List.mem_of_getElem? (i := 71) rfl, (List.forall_mem_cons.mpr ⟨List.mem_of_getElem? (i := 72) rfl, (List.forall_mem_cons.mpr ⟨List.mem_of_getElem? (i := 73) rfl, (List.forall_mem_cons.mpr ⟨List.mem_of_getElem? (i := 74) rfl, (List.forall_mem_cons.mpr ⟨List.mem_of_getElem? (i := 75) rfl, (List.forall_mem_cons.mpr ⟨List.mem_of_getElem? (i := 76) rfl, (List.forall_mem_cons.mpr ⟨List.mem_of_getElem? (i := 77) rfl, (List.forall_mem_cons.mpr ⟨List.mem_of_getElem? (i := 78) rfl, (List.forall_mem_cons.mpr ⟨List.mem_of_getElem? (i := 79) rfl, (List.forall_mem_cons.mpr ⟨List.mem_of_getElem? (i := 80) rfl, (List.forall_mem_cons.mpr ⟨List.mem_of_getElem? (i := 81) rfl, (List.forall_mem_cons.mpr ⟨List.mem_of_getElem? (i := 82) rfl, (fun _ h => absurd h List.not_mem_nil)⟩)⟩)⟩)⟩)⟩)⟩)⟩)⟩)⟩)⟩)⟩)⟩)⟩)⟩)⟩)⟩)⟩)⟩)⟩)⟩)⟩)⟩)⟩)⟩) (by decide +kernel)
set_option maxRecDepth 20000 in
theorem ggL_runs_X6_begin_p4 : GoodIn wsL_runs wsX6_begin_r4 := goodIn_sub (List.forall_mem_cons.mpr ⟨List.mem_of_getElem? (i := 83) rfl, (List.forall_mem_cons.mpr ⟨List.mem_of_getElem? (i := 84) rfl, (List.forall_mem_cons.mpr ⟨List.mem_of_getElem? (i := 85) rfl, (List.forall_mem_cons.mpr ⟨List.mem_of_getElem? (i := 86) rfl, (List.forall_mem_cons.mpr ⟨List.mem_of_getElem? (i := 87) rfl, (List.forall_mem_cons.mpr ⟨List.mem_of_getElem? (i := 88) rfl, (List.forall_mem_cons.mpr ⟨List.mem_of_getElem? (i := 89) rfl, (List.forall_mem_cons.mpr ⟨List.mem_of_getElem? (i := 90) rfl, (List.forall_mem_cons.mpr ⟨List.mem_of_getElem? (i := 91) rfl, (List.forall_mem_cons.mpr ⟨List.mem_of_getElem? (i := 92) rfl, (List.forall_mem_cons.mpr ⟨List.mem_of_getElem? (i := 93) rfl, (List.forall_mem_cons.mpr ⟨List.mem_of_getElem? (i := 94) rfl, (List.forall_mem_cons.mpr ⟨List.mem_of_getElem? (i := 95) rfl, (List.forall_mem_cons.mpr ⟨List.mem_of_getElem? (i := 96) rfl, (List.forall_mem_cons.mpr ⟨List.mem_of_getElem? (i := 97) rfl, (List.forall_mem_cons.mpr ⟨List.mem_of_getElem? (i := 98) rfl, (List.forall_mem_cons.mpr ⟨List.mem_of_getElem? (i := 99) rfl, (List.forall_mem_cons.mpr ⟨List.mem_of_getElem? (i := 100) rfl, (List.forall_mem_cons.mpr ⟨List.mem_of_getElem? (i := 101) rfl, (List.forall_mem_cons.mpr ⟨List.mem_of_getElem? (i := 102) rfl, (List.forall_mem_cons.mpr ⟨List.mem_of_getElem? (i := 103) rfl, (List.forall_mem_cons.mpr ⟨List.mem_of_getElem? (i := 104) rfl, (List.forall_mem_cons.mpr ⟨List.mem_of_getElem? (i := 105) rfl, (List.forall_mem_cons.mpr ⟨List.mem_of_getElem? (i := 106) rfl, (fun _ h => absurd h List.not_mem_nil)⟩)⟩)⟩)⟩)⟩)⟩)⟩)⟩)⟩)⟩)⟩)⟩)⟩)⟩)⟩)⟩)⟩)⟩)⟩)⟩)⟩)⟩)⟩)⟩) (by decide +kernel)
set_option maxRecDepth 20000 in
theorem ggL_runs_X6_begin_p5 : GoodIn wsL_runs wsX6_begin_r5 := goodIn_sub (List.forall_mem_cons.mpr ⟨List.mem_of_getElem? (i := 107) rfl, (List.forall_mem_cons.mpr ⟨List.mem_of_getElem? (i := 108) rfl, (List.forall_mem_cons.mpr ⟨List.mem_of_getElem? (i := 109) rfl, (List.forall_mem_cons.mpr ⟨List.mem_of_getElem? (i := 110) rfl, (List.forall_mem_cons.mpr ⟨List.mem_of_getElem? (i := 111) rfl, (List.forall_mem_cons.mpr ⟨List.mem_of_getElem? (i := 112) rfl, (List.forall_mem_cons.mpr ⟨List.mem_of_getElem? (i := 113) rfl, (List.forall_mem_cons.mpr ⟨List.mem_of_getElem? (i := 114) rfl, (List.forall_mem_cons.mpr ⟨List.mem_of_getElem? (i := 115) rfl, (List.forall_mem_cons.mpr ⟨List.mem_of_getElem? (i := 116) rfl, (List.forall_mem_cons.mpr ⟨List.mem_of_getElem? (i := 117) rfl, (fun _ h => absurd h List.not_mem_nil)⟩)⟩)⟩)⟩)⟩)⟩)⟩)⟩)⟩)⟩)⟩) (by decide +kernel)
set_option maxRecDepth 20000 in
theorem ggL_runs_X6_begin_p6 : GoodIn wsL_runs wsX60 := goodIn_r _ [240, 241, 242, 243] (by decide +kernel) (by decide +kernel)
set_option maxRecDepth 20000 in
theorem ggL_runs_X6_begin_p7 : GoodIn wsL_runs wsX30 := goodIn_r _ [244, 245, 246, 247, 248] (by decide +kernel) (by decide +kernel)
set_option maxRecDepth 20000 in
theorem ggL_runs_X6_begin_p8 : GoodIn wsL_runs wsX50 := goodIn_r _ [249, 250, 251, 252, 253, 254, 255, 256, 257, 258, 259] (by decide +kernel) (by decide +kernel)
set_option maxRecDepth 20000 in
theorem ggL_runs_X6_begin_p9 : GoodIn wsL_runs wsX10 := goodIn_r _ [260, 261, 262] (by decide +kernel) (by decide +kernel)
set_option maxRecDepth 20000 in
theorem ggL_runs_X6_begin_p10 : GoodIn wsL_runs wsX20 := goodIn_r _ [263, 264, 265] (by decide +kernel) (by decide +kernel)
set_option maxRecDepth 20000 in
theorem ggL_runs_X6_begin_p11 : GoodIn wsL_runs wsX00 := goodIn_r _ [266, 267] (by decide +kernel) (by decide +kernel)
set_option maxRecDepth 20000 in
theorem ggL_runs_X6_begin : GoodIn wsL_runs wsX6_begin := by
  show GoodIn wsL_runs ([Cond.code yX6_begin cX6_begin 3 (some .int)] ++ ((wsX6_begin_r1 ++ (wsX6_begin_r2 ++ (wsX6_begin_r3 ++ (wsX6_begin_r4 ++ wsX6_begin_r5)))) ++ wsX60 ++ wsX30 ++ wsX50 ++ wsX10 ++ wsX20 ++ wsX00))
  exact goodIn_app ggL_runs_X6_begin_p0 (goodIn_app (goodIn_app (goodIn_app (goodIn_app (goodIn_app (goodIn_app (goodIn_app ggL_runs_X6_begin_p1 (goodIn_app ggL_runs_X6_begin_p2 (goodIn_app ggL_runs_X6_begin_p3 (goodIn_app ggL_runs_X6_begin_p4 ggL_runs_X6_begin_p5)))) ggL_runs_X6_begin_p6) ggL_runs_X6_begin_p7) ggL_runs_X6_begin_p8) ggL_runs_X6_begin_p9) ggL_runs_X6_begin_p10) ggL_runs_X6_begin_p11)
set_option maxRecDepth 20000 in
theorem gL_runs_X6_begin : GoodIn wsL_runs (wsV RL 60 RX6 yX6_begin wsX6_begin) := goodIn_app (goodIn_of _ (by decide +kernel)) ggL_runs_X6_begin
set_option maxRecDepth 20000 in
theorem ggL_runs_L_need : GoodIn wsL_runs wsL_need := goodIn_r _ [120, 121, 122, 4, 123] (by decide +kernel) (by decide +kernel)
set_option maxRecDepth 20000 in
theorem gL_runs_L_need : GoodIn wsL_runs (va_wsS RL 64 yL_need wsL_need) := goodIn_app (goodIn_of _ (by decide +kernel)) ggL_runs_L_need
set_option maxRecDepth 20000 in
theorem ggL_runs_X6_tick_p0 : GoodIn wsL_runs [Cond.code yX6_tick cX6_tick 2 (some .int)] := goodIn_sub (List.forall_mem_cons.mpr ⟨List.mem_of_getElem? (i := 127) rfl, (fun _ h => absurd h List.not_mem_nil)⟩) (by decide +kernel)
set_option maxRecDepth 20000 in
theorem ggL_runs_X6_tick_p1 : GoodIn wsL_runs wsX6_tick_r1 := goodIn_sub (List.forall_mem_cons.mpr ⟨List.mem_of_getElem? (i := 12) rfl, (List.forall_mem_cons.mpr ⟨List.mem_of_getElem? (i := 11) rfl, (List.forall_mem_cons.mpr ⟨List.mem_of_getElem? (i := 13) rfl, (List.forall_mem_cons.mpr ⟨List.mem_of_getElem? (i := 14) rfl, (List.forall_mem_cons.mpr ⟨List.mem_of_getElem? (i := 15) rfl, (List.forall_mem_cons.mpr ⟨List.mem_of_getElem? (i := 16) rfl, (List.forall_mem_cons.mpr ⟨List.mem_of_getElem? (i := 114) rfl, (List.forall_mem_cons.mpr ⟨List.mem_of_getElem? (i := 115) rfl, (List.forall_mem_cons.mpr ⟨List.mem_of_getElem? (i := 116) rfl, (List.forall_mem_cons.mpr ⟨List.mem_of_getElem? (i := 77) rfl, (List.forall_mem_cons.mpr ⟨List.mem_of_getElem? (i := 117) rfl, (List.forall_mem_cons.mpr ⟨List.mem_of_getElem? (i := 85) rfl, (List.forall_mem_cons.mpr ⟨List.mem_of_getElem? (i := 84) rfl, (List.forall_mem_cons.mpr ⟨List.mem_of_getElem? (i := 36) rfl, (List.forall_mem_cons.mpr ⟨List.mem_of_getElem? (i := 37) rfl, (List.forall_mem_cons.mpr ⟨List.mem_of_getElem? (i := 38) rfl, (List.forall_mem_cons.mpr ⟨List.mem_of_getElem? (i := 39) rfl, (List.forall_mem_cons.mpr ⟨List.mem_of_getElem? (i := 40) rfl, (List.forall_mem_cons.mpr ⟨List.mem_of_getElem? (i := 41) rfl, (List.forall_mem_cons.mpr ⟨List.mem_of_getElem? (i := 42) rfl, (List.forall_mem_cons.mpr ⟨List.mem_of_getElem? (i := 43) rfl, (List.forall_mem_cons.mpr ⟨List.mem_of_getElem? (i := 44) rfl, (List.forall_mem_cons.mpr ⟨List.mem_of_getElem? (i := 45) rfl, (List.forall_mem_cons.mpr ⟨List.mem_of_getElem? (i := 46) rfl, (fun _ h => absurd h List.not_mem_nil)⟩)⟩)⟩)⟩)⟩)⟩)⟩)⟩)⟩)⟩)⟩)⟩)⟩)⟩)⟩)⟩)⟩)⟩)⟩)⟩)⟩)⟩)⟩)⟩) (by decide +kernel)
set_option maxRecDepth 20000 in
theorem ggL_runs_X6_tick_p2 : GoodIn wsL_runs wsX6_tick_r2 := goodIn_sub (List.forall_mem_cons.mpr ⟨List.mem_of_getElem? (i := 47) rfl, (List.forall_mem_cons.mpr ⟨List.mem_of_getElem? (i := 48) rfl, (List.forall_mem_cons.mpr ⟨List.mem_of_getElem? (i := 49) rfl, (List.forall_mem_cons.mpr ⟨List.mem_of_getElem? (i := 20) rfl, (List.forall_mem_cons.mpr ⟨List.mem_of_getElem? (i := 50) rfl, (List.forall_mem_cons.mpr ⟨List.mem_of_getElem? (i := 28) rfl, (List.forall_mem_cons.mpr ⟨List.mem_of_getElem? (i := 22) rfl, (List.forall_mem_cons.mpr ⟨List.mem_of_getElem? (i := 34) rfl, (List.forall_mem_cons.mpr ⟨List.mem_of_getElem? (i := 51) rfl, (List.forall_mem_cons.mpr ⟨List.mem_of_getElem? (i := 52) rfl, (List.forall_mem_cons.mpr ⟨List.mem_of_getElem? (i := 53) rfl, (List.forall_mem_cons.mpr ⟨List.mem_of_getElem? (i := 54) rfl, (List.forall_mem_cons.mpr ⟨List.mem_of_getElem? (i := 55) rfl, (List.forall_mem_cons.mpr ⟨List.mem_of_getElem? (i := 56) rfl, (List.forall_mem_cons.mpr ⟨List.mem_of_getElem? (i := 57) rfl, (List.forall_mem_cons.mpr ⟨List.mem_of_getElem? (i := 58) rfl, (List.forall_mem_cons.mpr ⟨List.mem_of_getElem? (i := 59) rfl, (List.forall_mem_cons.mpr ⟨List.mem_of_getElem? (i := 60) rfl, (List.forall_mem_cons.mpr ⟨List.mem_of_getElem? (i := 61) rfl, (List.forall_mem_cons.mpr ⟨List.mem_of_getElem? (i := 62) rfl, (List.forall_mem_cons.mpr ⟨List.mem_of_getElem? (i := 63) rfl, (List.forall_mem_cons.mpr ⟨List.mem_of_getElem? (i := 64) rfl, (List.forall_mem_cons.mpr ⟨List.mem_of_getElem? (i := 65) rfl, (List.forall_mem_cons.mpr ⟨List.mem_of_getElem? (i := 66) rfl, (fun _ h => absurd h List.not_mem_nil)⟩)⟩)⟩)⟩)⟩)⟩)⟩)⟩)⟩)⟩)⟩)⟩)⟩)⟩)⟩)⟩)⟩)⟩)⟩)⟩)⟩)⟩)⟩)⟩) (by decide +kernel)
set_option maxRecDepth 20000 in
theorem ggL_runs_X6_tick_p3 : GoodIn wsL_runs wsX6_tick_r3 := goodIn_sub (List.forall_mem_cons.mpr ⟨List.mem_of_getElem? (i := 67) rfl, (List.forall_mem_cons.mpr ⟨List.mem_of_getElem? (i := 68) rfl, (List.forall_mem_cons.mpr ⟨List.mem_of_getElem? (i := 69) rfl, (List.forall_mem_cons.mpr ⟨List.mem_of_getElem? (i := 70) rfl, (List.forall_mem_cons.mpr ⟨List.mem_of_getElem? (i := 71) rfl, (List.forall_mem_cons.mpr ⟨List.mem_of_getElem? (i := 72) rfl, (List.forall_mem_cons.mpr ⟨List.mem_of_getElem? (i := 73) rfl, (List.forall_mem_cons.mpr ⟨List.mem_of_getElem? (i := 74) rfl, (List.forall_mem_cons.mpr ⟨List.mem_of_getElem? (i := 75) rfl, (List.forall_mem_cons.mpr ⟨List.mem_of_getElem? (i := 76) rfl, (List.forall_mem_cons.mpr ⟨List.mem_of_getElem? (i := 78) rfl, (List.forall_mem_cons.mpr ⟨List.mem_of_getElem? (i := 79) rfl, (List.forall_mem_cons.mpr ⟨List.mem_of_getElem? (i := 80) rfl, (List.forall_mem_cons.mpr ⟨List.mem_of_getElem? (i := 81) rfl, (List.forall_mem_cons.mpr ⟨List.mem_of_getElem? (i := 82) rfl, (List.forall_mem_cons.mpr ⟨List.mem_of_getElem? (i := 83) rfl, (List.forall_mem_cons.mpr ⟨List.mem_of_getElem? (i := 86) rfl, (List.forall_mem_cons.mpr ⟨List.mem_of_getElem? (i := 87) rfl, (List.forall_mem_cons.mpr ⟨List.mem_of_getElem? (i := 88) rfl, (List.forall_mem_cons.mpr ⟨List.mem_of_getElem? (i := 89) rfl, (List.forall_mem_cons.mpr ⟨List.mem_of_getElem? (i := 90) rfl, (List.forall_mem_cons.mpr ⟨List.mem_of_getElem? (i := 128) rfl, (List.forall_mem_cons.mpr ⟨List.mem_of_getElem? (i := 129) rfl, (List.forall_mem_cons.mpr ⟨List.mem_of_getElem? (i := 130) rfl, (fun _ h => absurd h List.not_mem_nil)⟩)⟩)⟩)⟩)⟩)⟩)⟩)⟩)⟩)⟩)⟩)⟩)⟩)⟩)⟩)⟩)⟩)⟩)⟩)⟩)⟩)⟩)⟩)⟩) (by decide +kernel)
set_option maxRecDepth 20000 in
theorem ggL_runs_X6_tick_p4 : GoodIn wsL_runs wsX6_tick_r4 := goodIn_sub (List.forall_mem_cons.mpr ⟨List.mem_of_getElem? (i := 131) rfl, (List.forall_mem_cons.mpr ⟨List.mem_of_getElem? (i := 98) rfl, (List.forall_mem_cons.mpr ⟨List.mem_of_getElem? (i := 99) rfl, (List.forall_mem_cons.mpr ⟨List.mem_of_getElem? (i := 100) rfl, (List.forall_mem_cons.mpr ⟨List.mem_of_getElem? (i := 101) rfl, (List.forall_mem_cons.mpr ⟨List.mem_of_getElem? (i := 132) rfl, (List.forall_mem_cons.mpr ⟨List.mem_of_getElem? (i := 133) rfl, (List.forall_mem_cons.mpr ⟨List.mem_of_getElem? (i := 134) rfl, (List.forall_mem_cons.mpr ⟨List.mem_of_getElem? (i := 135) rfl, (List.forall_mem_cons.mpr ⟨List.mem_of_getElem? (i := 136) rfl, (List.forall_mem_cons.mpr ⟨List.mem_of_getElem? (i := 102) rfl, (List.forall_mem_cons.mpr ⟨List.mem_of_getElem? (i := 103) rfl, (List.forall_mem_cons.mpr ⟨List.mem_of_getElem? (i := 137) rfl, (List.forall_mem_cons.mpr ⟨List.mem_of_getElem? (i := 138) rfl, (List.forall_mem_cons.mpr ⟨List.mem_of_getElem? (i := 139) rfl, (List.forall_mem_cons.mpr ⟨List.mem_of_getElem? (i := 140) rfl, (List.forall_mem_cons.mpr ⟨List.mem_of_getElem? (i := 141) rfl, (List.forall_mem_cons.mpr ⟨List.mem_of_getElem? (i := 142) rfl, (List.forall_mem_cons.mpr ⟨List.mem_of_getElem? (i := 143) rfl, (List.forall_mem_cons.mpr ⟨List.mem_of_getElem? (i := 144) rfl, (List.forall_mem_cons.mpr ⟨List.mem_of_getElem? (i := 145) rfl, (List.forall_mem_cons.mpr ⟨List.mem_of_getElem? (i := 146) rfl, (List.forall_mem_cons.mpr ⟨List.mem_of_getElem? (i := 147) rfl, (List.forall_mem_cons.mpr ⟨List.mem_of_getElem? (i := 148) rfl, (fun _ h => absurd h List.not_mem_nil)⟩)⟩)⟩)⟩)⟩)⟩)⟩)⟩)⟩)⟩)⟩)⟩)⟩)⟩)⟩)⟩)⟩)⟩)⟩)⟩)⟩)⟩)⟩)⟩) (by decide +kernel)
set_option maxRecDepth 20000 in
theorem ggL_runs_X6_tick_p5 : GoodIn wsL_runs wsX6_tick_r5 := goodIn_sub (List.forall_mem_cons.mpr ⟨List.mem_of_getElem? (i := 149) rfl, (List.forall_mem_cons.mpr ⟨List.mem_of_getElem? (i := 150) rfl, (List.forall_mem_cons.mpr ⟨List.mem_of_getElem? (i := 151) rfl, (List.forall_mem_cons.mpr ⟨List.mem_of_getElem? (i := 152) rfl, (List.forall_mem_cons.mpr ⟨List.mem_of_getElem? (i := 153) rfl, (List.forall_mem_cons.mpr ⟨List.mem_of_getElem? (i := 154) rfl, (List.forall_mem_cons.mpr ⟨List.mem_of_getElem? (i := 155) rfl, (List.forall_mem_cons.mpr ⟨List.mem_of_getElem? (i := 156) rfl, (List.forall_mem_cons.mpr ⟨List.mem_of_getElem? (i := 96) rfl, (List.forall_mem_cons.mpr ⟨List.mem_of_getElem? (i := 29) rfl, (List.forall_mem_cons.mpr ⟨List.mem_of_getElem? (i := 157) rfl, (List.forall_mem_cons.mpr ⟨List.mem_of_getElem? (i := 158) rfl, (List.forall_mem_cons.mpr ⟨List.mem_of_getElem? (i := 159) rfl, (List.forall_mem_cons.mpr ⟨List.mem_of_getElem? (i := 160) rfl, (List.forall_mem_cons.mpr ⟨List.mem_of_getElem? (i := 161) rfl, (List.forall_mem_cons.mpr ⟨List.mem_of_getElem? (i := 109) rfl, (List.forall_mem_cons.mpr ⟨List.mem_of_getElem? (i := 162) rfl, (List.forall_mem_cons.mpr ⟨List.mem_of_getElem? (i := 163) rfl, (List.forall_mem_cons.mpr ⟨List.mem_of_getElem? (i := 164) rfl, (List.forall_mem_cons.mpr ⟨List.mem_of_getElem? (i := 165) rfl, (List.forall_mem_cons.mpr ⟨List.mem_of_getElem? (i := 166) rfl, (List.forall_mem_cons.mpr ⟨List.mem_of_getElem? (i := 167) rfl, (List.forall_mem_cons.mpr ⟨List.mem_of_getElem? (i := 168) rfl, (List.forall_mem_cons.mpr ⟨List.mem_of_getElem? (i := 169) rfl, (fun _ h => absurd h List.not_mem_nil)⟩)⟩)⟩)⟩)⟩)⟩)⟩)⟩)⟩)⟩)⟩)⟩)⟩)⟩)⟩)⟩)⟩)⟩)⟩)⟩)⟩)⟩)⟩)⟩) (by decide +kernel)
set_option maxRecDepth 20000 in
theorem ggL_runs_X6_tick_p6 : GoodIn wsL_runs wsX6_tick_r6 := goodIn_sub (List.forall_mem_cons.mpr ⟨List.mem_of_getElem? (i := 170) rfl, (List.forall_mem_cons.mpr ⟨List.mem_of_getElem? (i := 171) rfl, (List.forall_mem_cons.mpr ⟨List.mem_of_getElem? (i := 172) rfl, (List.forall_mem_cons.mpr ⟨List.mem_of_getElem? (i := 173) rfl, (List.forall_mem_cons.mpr ⟨List.mem_of_getElem? (i := 174) rfl, (List.forall_mem_cons.mpr ⟨List.mem_of_getElem? (i := 175) rfl, (List.forall_mem_cons.mpr ⟨List.mem_of_getElem? (i := 176) rfl, (List.forall_mem_cons.mpr ⟨List.mem_of_getElem? (i := 97) rfl, (List.forall_mem_cons.mpr ⟨List.mem_of_getElem? (i := 177) rfl, (List.forall_mem_cons.mpr ⟨List.mem_of_getElem? (i := 178) rfl, (List.forall_mem_cons.mpr ⟨List.mem_of_getElem? (i := 179) rfl, (List.forall_mem_cons.mpr ⟨List.mem_of_getElem? (i := 180) rfl, (List.forall_mem_cons.mpr ⟨List.mem_of_getElem? (i := 181) rfl, (List.forall_mem_cons.mpr ⟨List.mem_of_getElem? (i := 182) rfl, (List.forall_mem_cons.mpr ⟨List.mem_of_getElem? (i := 183) rfl, (List.forall_mem_cons.mpr ⟨List.mem_of_getElem? (i := 184) rfl, (List.forall_mem_cons.mpr ⟨List.mem_of_getElem? (i := 185) rfl, (List.forall_mem_cons.mpr ⟨List.mem_of_getElem? (i := 186) rfl, (List.forall_mem_cons.mpr ⟨List.mem_of_getElem? (i := 187) rfl, (List.forall_mem_cons.mpr ⟨List.mem_of_getElem? (i := 188) rfl, (List.forall_mem_cons.mpr ⟨List.mem_of_getElem? (i := 189) rfl, (List.forall_mem_cons.mpr ⟨List.mem_of_getElem? (i := 190) rfl, (fun _ h => absurd h List.not_mem_nil)⟩)⟩)⟩)⟩)⟩)⟩)⟩)⟩)⟩)⟩)⟩)⟩)⟩)⟩)⟩)⟩)⟩)⟩)⟩)⟩)⟩)⟩) (by decide +kernel)
set_option maxRecDepth 20000 in
theorem ggL_runs_X6_tick_p7 : GoodIn wsL_runs wsX60 := goodIn_r _ [240, 241, 242, 243] (by decide +kernel) (by decide +kernel)
set_option maxRecDepth 20000 in
theorem ggL_runs_X6_tick_p8 : GoodIn wsL_runs wsX30 := goodIn_r _ [244, 245, 246, 247, 248] (by decide +kernel) (by decide +kernel)
set_option maxRecDepth 20000 in
theorem ggL_runs_X6_tick_p9 : GoodIn wsL_runs wsX50 := goodIn_r _ [249, 250, 251, 252, 253, 254, 255, 256, 257, 258, 259] (by decide +kernel) (by decide +kernel)
set_option maxRecDepth 20000 in
theorem ggL_runs_X6_tick_p10 : GoodIn wsL_runs wsX00 := goodIn_r _ [266, 267] (by decide +kernel) (by decide +kernel)
set_option maxRecDepth 20000 in
theorem ggL_runs_X6_tick_p11 : GoodIn wsL_runs wsX20 := goodIn_r _ [263, 264, 265] (by decide +kernel) (by decide +kernel)
set_option maxRecDepth 20000 in
theorem ggL_runs_X6_tick_p12 : GoodIn wsL_runs wsX10 := goodIn_r _ [260, 261, 262] (by decide +kernel) (by decide +kernel)
set_option maxRecDepth 20000 in
theorem ggL_runs_X6_tick : GoodIn wsL_runs wsX6_tick := by
  show GoodIn wsL_runs ([Cond.code yX6_tick cX6_tick 2 (some .int)] ++ ((wsX6_tick_r1 ++ (wsX6_tick_r2 ++ (wsX6_tick_r3 ++ (wsX6_tick_r4 ++ (wsX6_tick_r5 ++ wsX6_tick_r6))))) ++ wsX60 ++ wsX30 ++ wsX50 ++ wsX00 ++ wsX20 ++ wsX10))
  exact goodIn_app ggL_runs_X6_tick_p0 (goodIn_app (goodIn_app (goodIn_app (goodIn_app (goodIn_app (goodIn_app (goodIn_app ggL_runs_X6_tick_p1 (goodIn_app ggL_runs_X6_tick_p2 (goodIn_app ggL_runs_X6_tick_p3 (goodIn_app ggL_runs_X6_tick_p4 (goodIn_app ggL_runs_X6_tick_p5 ggL_runs_X6_tick_p6))))) ggL_runs_X6_tick_p7) ggL_runs_X6_tick_p8) ggL_runs_X6_tick_p9) ggL_runs_X6_tick_p10) ggL_runs_X6_tick_p11) ggL_runs_X6_tick_p12)
set_option maxRecDepth 20000 in
theorem gL_runs_X6_tick : GoodIn wsL_runs (wsV RL 68 RX6 yX6_tick wsX6_tick) := goodIn_app (goodIn_of _ (by decide +kernel)) ggL_runs_X6_tick
set_option maxRecDepth 20000 in
theorem ggL_runs_X6_drain_p0 : GoodIn wsL_runs [Cond.code yX6_drain cX6_drain 1 (some .int)] := goodIn_sub (List.forall_mem_cons.mpr ⟨List.mem_of_getElem? (i := 194) rfl, (fun _ h => absurd h List.not_mem_nil)⟩) (by decide +kernel)
set_option maxRecDepth 20000 in
theorem ggL_runs_X6_drain_p1 : GoodIn wsL_runs wsX6_drain_r1 := goodIn_sub (List.forall_mem_cons.mpr ⟨List.mem_of_getElem? (i := 11) rfl, (List.forall_mem_cons.mpr ⟨List.mem_of_getElem? (i := 13) rfl, (List.forall_mem_cons.mpr ⟨List.mem_of_getElem? (i := 14) rfl, (List.forall_mem_cons.mpr ⟨List.mem_of_getElem? (i := 15) rfl, (List.forall_mem_cons.mpr ⟨List.mem_of_getElem? (i := 16) rfl, (List.forall_mem_cons.mpr ⟨List.mem_of_getElem? (i := 114) rfl, (List.forall_mem_cons.mpr ⟨List.mem_of_getElem? (i := 115) rfl, (List.forall_mem_cons.mpr ⟨List.mem_of_getElem? (i := 116) rfl, (List.forall_mem_cons.mpr ⟨List.mem_of_getElem? (i := 77) rfl, (List.forall_mem_cons.mpr ⟨List.mem_of_getElem? (i := 117) rfl, (List.forall_mem_cons.mpr ⟨List.mem_of_getElem? (i := 85) rfl, (List.forall_mem_cons.mpr ⟨List.mem_of_getElem? (i := 84) rfl, (List.forall_mem_cons.mpr ⟨List.mem_of_getElem? (i := 36) rfl, (List.forall_mem_cons.mpr ⟨List.mem_of_getElem? (i := 37) rfl, (List.forall_mem_cons.mpr ⟨List.mem_of_getElem? (i := 38) rfl, (List.forall_mem_cons.mpr ⟨List.mem_of_getElem? (i := 39) rfl, (List.forall_mem_cons.mpr ⟨List.mem_of_getElem? (i := 40) rfl, (List.forall_mem_cons.mpr ⟨List.mem_of_getElem? (i := 41) rfl, (List.forall_mem_cons.mpr ⟨List.mem_of_getElem? (i := 42) rfl, (List.forall_mem_cons.mpr ⟨List.mem_of_getElem? (i := 43) rfl, (List.forall_mem_cons.mpr ⟨List.mem_of_getElem? (i := 44) rfl, (List.forall_mem_cons.mpr ⟨List.mem_of_getElem? (i := 45) rfl, (List.forall_mem_cons.mpr ⟨List.mem_of_getElem? (i := 46) rfl, (List.forall_mem_cons.mpr ⟨List.mem_of_getElem? (i := 47) rfl, (fun _ h => absurd h List.not_mem_nil)⟩)⟩)⟩)⟩)⟩)⟩)⟩)⟩)⟩)⟩)⟩)⟩)⟩)⟩)⟩)⟩)⟩)⟩)⟩)⟩)⟩)⟩)⟩)⟩) (by decide +kernel)
set_option maxRecDepth 20000 in
theorem ggL_runs_X6_drain_p2 : GoodIn wsL_runs wsX6_drain_r2 := goodIn_sub (List.forall_mem_cons.mpr ⟨List.mem_of_getElem? (i := 48) rfl, (List.forall_mem_cons.mpr ⟨List.mem_of_getElem? (i := 49) rfl, (List.forall_mem_cons.mpr ⟨List.mem_of_getElem? (i := 20) rfl, (List.forall_mem_cons.mpr ⟨List.mem_of_getElem? (i := 50) rfl, (List.forall_mem_cons.mpr ⟨List.mem_of_getElem? (i := 28) rfl, (List.forall_mem_cons.mpr ⟨List.mem_of_getElem? (i := 22) rfl, (List.forall_mem_cons.mpr ⟨List.mem_of_getElem? (i := 34) rfl, (List.forall_mem_cons.mpr ⟨List.mem_of_getElem? (i := 51) rfl, (List.forall_mem_cons.mpr ⟨List.mem_of_getElem? (i := 52) rfl, (List.forall_mem_cons.mpr ⟨List.mem_of_getElem? (i := 53) rfl, (List.forall_mem_cons.mpr ⟨List.mem_of_getElem? (i := 54) rfl, (List.forall_mem_cons.mpr ⟨List.mem_of_getElem? (i := 55) rfl, (List.forall_mem_cons.mpr ⟨List.mem_of_getElem? (i := 56) rfl, (List.forall_mem_cons.mpr ⟨List.mem_of_getElem? (i := 57) rfl, (List.forall_mem_cons.mpr ⟨List.mem_of_getElem? (i := 58) rfl, (List.forall_mem_cons.mpr ⟨List.mem_of_getElem? (i := 59) rfl, (List.forall_mem_cons.mpr ⟨List.mem_of_getElem? (i := 60) rfl, (List.forall_mem_cons.mpr ⟨List.mem_of_getElem? (i := 61) rfl, (List.forall_mem_cons.mpr ⟨List.mem_of_getElem? (i := 62) rfl, (List.forall_mem_cons.mpr ⟨List.mem_of_getElem? (i := 63) rfl, (List.forall_mem_cons.mpr ⟨List.mem_of_getElem? (i := 64) rfl, (List.forall_mem_cons.mpr ⟨List.mem_of_getElem? (i := 65) rfl, (List.forall_mem_cons.mpr ⟨List.mem_of_getElem? (i := 66) rfl, (List.forall_mem_cons.mpr ⟨List.mem_of_getElem? (i := 67) rfl, (fun _ h => absurd h List.not_mem_nil)⟩)⟩)⟩)⟩)⟩)⟩)⟩)⟩)⟩)⟩)⟩)⟩)⟩)⟩)⟩)⟩)⟩)⟩)⟩)⟩)⟩)⟩)⟩)⟩) (by decide +kernel)
set_option maxRecDepth 20000 in
theorem ggL_runs_X6_drain_p3 : GoodIn wsL_runs wsX6_drain_r3 := goodIn_sub (List.forall_mem_cons.mpr ⟨List.mem_of_getElem? (i := 68) rfl, (List.forall_mem_cons.mpr ⟨List.mem_of_getElem? (i := 69) rfl, (List.forall_mem_cons.mpr ⟨List.mem_of_getElem? (i := 70) rfl, (List.forall_mem_cons.mpr ⟨List.mem_of_getElem? (i := 71) rfl, (List.forall_mem_cons.mpr ⟨List.mem_of_getElem? (i := 72) rfl, (List.forall_mem_cons.mpr ⟨List.mem_of_getElem? (i := 73) rfl, (List.forall_mem_cons.mpr ⟨List.mem_of_getElem? (i := 74) rfl, (List.forall_mem_cons.mpr ⟨List.mem_of_getElem? (i := 75) rfl, (List.forall_mem_cons.mpr ⟨List.mem_of_getElem? (i := 76) rfl, (List.forall_mem_cons.mpr ⟨List.mem_of_getElem? (i := 78) rfl, (List.forall_mem_cons.mpr ⟨List.mem_of_getElem? (i := 79) rfl, (List.forall_mem_cons.mpr ⟨List.mem_of_getElem? (i := 80) rfl, (List.forall_mem_cons.mpr ⟨List.mem_of_getElem? (i := 81) rfl, (List.forall_mem_cons.mpr ⟨List.mem_of_getElem? (i := 82) rfl, (List.forall_mem_cons.mpr ⟨List.mem_of_getElem? (i := 83) rfl, (List.forall_mem_cons.mpr ⟨List.mem_of_getElem? (i := 86) rfl, (List.forall_mem_cons.mpr ⟨List.mem_of_getElem? (i := 87) rfl, (List.forall_mem_cons.mpr ⟨List.mem_of_getElem? (i := 88) rfl, (List.forall_mem_cons.mpr ⟨List.mem_of_getElem? (i := 89) rfl, (List.forall_mem_cons.mpr ⟨List.mem_of_getElem? (i := 90) rfl, (List.forall_mem_cons.mpr ⟨List.mem_of_getElem? (i := 195) rfl, (List.forall_mem_cons.mpr ⟨List.mem_of_getElem? (i := 196) rfl, (List.forall_mem_cons.mpr ⟨List.mem_of_getElem? (i := 197) rfl, (List.forall_mem_cons.mpr ⟨List.mem_of_getElem? (i := 198) rfl, (fun _ h => absurd h List.not_mem_nil)⟩)⟩)⟩)⟩)⟩)⟩)⟩)⟩)⟩)⟩)⟩)⟩)⟩)⟩)⟩)⟩)⟩)⟩)⟩)⟩)⟩)⟩)⟩)⟩) (by decide +kernel)
set_option maxRecDepth 20000 in
theorem ggL_runs_X6_drain_p4 : GoodIn wsL_runs wsX6_drain_r4 := goodIn_sub (List.forall_mem_cons.mpr ⟨List.mem_of_getElem? (i := 96) rfl, (List.forall_mem_cons.mpr ⟨List.mem_of_getElem? (i := 29) rfl, (List.forall_mem_cons.mpr ⟨List.mem_of_getElem? (i := 97) rfl, (List.forall_mem_cons.mpr ⟨List.mem_of_getElem? (i := 102) rfl, (List.forall_mem_cons.mpr ⟨List.mem_of_getElem? (i := 103) rfl, (List.forall_mem_cons.mpr ⟨List.mem_of_getElem? (i := 95) rfl, (List.forall_mem_cons.mpr ⟨List.mem_of_getElem? (i := 150) rfl, (List.forall_mem_cons.mpr ⟨List.mem_of_getElem? (i := 151) rfl, (List.forall_mem_cons.mpr ⟨List.mem_of_getElem? (i := 152) rfl, (List.forall_mem_cons.mpr ⟨List.mem_of_getElem? (i := 199) rfl, (List.forall_mem_cons.mpr ⟨List.mem_of_getElem? (i := 200) rfl, (List.forall_mem_cons.mpr ⟨List.mem_of_getElem? (i := 201) rfl, (List.forall_mem_cons.mpr ⟨List.mem_of_getElem? (i := 202) rfl, (List.forall_mem_cons.mpr ⟨List.mem_of_getElem? (i := 162) rfl, (List.forall_mem_cons.mpr ⟨List.mem_of_getElem? (i := 163) rfl, (List.forall_mem_cons.mpr ⟨List.mem_of_getElem? (i := 164) rfl, (List.forall_mem_cons.mpr ⟨List.mem_of_getElem? (i := 203) rfl, (List.forall_mem_cons.mpr ⟨List.mem_of_getElem? (i := 204) rfl, (List.forall_mem_cons.mpr ⟨List.mem_of_getElem? (i := 205) rfl, (List.forall_mem_cons.mpr ⟨List.mem_of_getElem? (i := 206) rfl, (List.forall_mem_cons.mpr ⟨List.mem_of_getElem? (i := 207) rfl, (List.forall_mem_cons.mpr ⟨List.mem_of_getElem? (i := 166) rfl, (List.forall_mem_cons.mpr ⟨List.mem_of_getElem? (i := 167) rfl, (List.forall_mem_cons.mpr ⟨List.mem_of_getElem? (i := 168) rfl, (fun _ h => absurd h List.not_mem_nil)⟩)⟩)⟩)⟩)⟩)⟩)⟩)⟩)⟩)⟩)⟩)⟩)⟩)⟩)⟩)⟩)⟩)⟩)⟩)⟩)⟩)⟩)⟩)⟩) (by decide +kernel)
set_option maxRecDepth 20000 in
theorem ggL_runs_X6_drain_p5 : GoodIn wsL_runs wsX6_drain_r5 := goodIn_sub (List.forall_mem_cons.mpr ⟨List.mem_of_getElem? (i := 208) rfl, (List.forall_mem_cons.mpr ⟨List.mem_of_getElem? (i := 209) rfl, (List.forall_mem_cons.mpr ⟨List.mem_of_getElem? (i := 210) rfl, (List.forall_mem_cons.mpr ⟨List.mem_of_getElem? (i := 211) rfl, (List.forall_mem_cons.mpr ⟨List.mem_of_getElem? (i := 23) rfl, (List.forall_mem_cons.mpr ⟨List.mem_of_getElem? (i := 35) rfl, (List.forall_mem_cons.mpr ⟨List.mem_of_getElem? (i := 157) rfl, (List.forall_mem_cons.mpr ⟨List.mem_of_getElem? (i := 169) rfl, (List.forall_mem_cons.mpr ⟨List.mem_of_getElem? (i := 170) rfl, (List.forall_mem_cons.mpr ⟨List.mem_of_getElem? (i := 171) rfl, (List.forall_mem_cons.mpr ⟨List.mem_of_getElem? (i := 172) rfl, (fun _ h => absurd h List.not_mem_nil)⟩)⟩)⟩)⟩)⟩)⟩)⟩)⟩)⟩)⟩)⟩) (by decide +kernel)
set_option maxRecDepth 20000 in
theorem ggL_runs_X6_drain_p6 : GoodIn wsL_runs wsX60 := goodIn_r _ [240, 241, 242, 243] (by decide +kernel) (by decide +kernel)
set_option maxRecDepth 20000 in
theorem ggL_runs_X6_drain_p7 : GoodIn wsL_runs wsX30 := goodIn_r _ [244, 245, 246, 247, 248] (by decide +kernel) (by decide +kernel)
set_option maxRecDepth 20000 in
theorem ggL_runs_X6_drain_p8 : GoodIn wsL_runs wsX50 := goodIn_r _ [249, 250, 251, 252, 253, 254, 255, 256, 257, 258, 259] (by decide +kernel) (by decide +kernel)
set_option maxRecDepth 20000 in
theorem ggL_runs_X6_drain_p9 : GoodIn wsL_runs wsX00 := goodIn_r _ [266, 267] (by decide +kernel) (by decide +kernel)
set_option maxRecDepth 20000 in
theorem ggL_runs_X6_drain_p10 : GoodIn wsL_runs wsX20 := goodIn_r _ [263, 264, 265] (by decide +kernel) (by decide +kernel)
set_option maxRecDepth 20000 in
theorem ggL_runs_X6_drain_p11 : GoodIn wsL_runs wsX10 := goodIn_r _ [260, 261, 262] (by decide +kernel) (by decide +kernel)
set_option maxRecDepth 20000 in
theorem ggL_runs_X6_drain : GoodIn wsL_runs wsX6_drain := by
  show GoodIn wsL_runs ([Cond.code yX6_drain cX6_drain 1 (some .int)] ++ ((wsX6_drain_r1 ++ (wsX6_drain_r2 ++ (wsX6_drain_r3 ++ (wsX6_drain_r4 ++ wsX6_drain_r5)))) ++ wsX60 ++ wsX30 ++ wsX50 ++ wsX00 ++ wsX20 ++ wsX10))
  exact goodIn_app ggL_runs_X6_drain_p0 (goodIn_app (goodIn_app (goodIn_app (goodIn_app (goodIn_app (goodIn_app (goodIn_app ggL_runs_X6_drain_p1 (goodIn_app ggL_runs_X6_drain_p2 (goodIn_app ggL_runs_X6_drain_p3 (goodIn_app ggL_runs_X6_drain_p4 ggL_runs_X6_drain_p5)))) ggL_runs_X6_drain_p6) ggL_runs_X6_drain_p7) ggL_runs_X6_drain_p8) ggL_runs_X6_drain_p9) ggL_runs_X6_drain_p10) ggL_runs_X6_drain_p11)
set_option maxRecDepth 20000 in
theorem gL_runs_X6_drain : GoodIn wsL_runs (wsV RL 71 RX6 yX6_drain wsX6_drain) := goodIn_app (goodIn_of _ (by decide +kernel)) ggL_runs_X6_drain
set_option maxRecDepth 20000 in
theorem ggL_runs_L_drain : GoodIn wsL_runs wsL_drain := goodIn_r _ [214, 121, 122, 4, 123, 215, 216, 217, 218, 219, 220, 221, 222, 223] (by decide +kernel) (by decide +kernel)
set_option maxRecDepth 20000 in
theorem gL_runs_L_drain : GoodIn wsL_runs (va_wsS RL 74 yL_drain wsL_drain) := goodIn_app (goodIn_of _ (by decide +kernel)) ggL_runs_L_drain
set_option maxRecDepth 20000 in
theorem ggL_runs_L_ones : GoodIn wsL_runs wsL_ones := goodIn_r _ [226] (by decide +kernel) (by decide +kernel)
set_option maxRecDepth 20000 in
theorem gL_runs_L_ones : GoodIn wsL_runs (va_wsS RL 77 yL_ones wsL_ones) := goodIn_app (goodIn_of _ (by decide +kernel)) ggL_runs_L_ones
set_option maxRecDepth 20000 in
theorem ggL_runs_X6_all_p0 : GoodIn wsL_runs [Cond.code yX6_all cX6_all 1 (some .int)] := goodIn_sub (List.forall_mem_cons.mpr ⟨List.mem_of_getElem? (i := 230) rfl, (fun _ h => absurd h List.not_mem_nil)⟩) (by decide +kernel)
set_option maxRecDepth 20000 in
theorem ggL_runs_X6_all_p1 : GoodIn wsL_runs wsX6_all_r1 := goodIn_sub (List.forall_mem_cons.mpr ⟨List.mem_of_getElem? (i := 11) rfl, (List.forall_mem_cons.mpr ⟨List.mem_of_getElem? (i := 13) rfl, (List.forall_mem_cons.mpr ⟨List.mem_of_getElem? (i := 14) rfl, (List.forall_mem_cons.mpr ⟨List.mem_of_getElem? (i := 15) rfl, (List.forall_mem_cons.mpr ⟨List.mem_of_getElem? (i := 16) rfl, (List.forall_mem_cons.mpr ⟨List.mem_of_getElem? (i := 36) rfl, (List.forall_mem_cons.mpr ⟨List.mem_of_getElem? (i := 37) rfl, (List.forall_mem_cons.mpr ⟨List.mem_of_getElem? (i := 38) rfl, (List.forall_mem_cons.mpr ⟨List.mem_of_getElem? (i := 39) rfl, (List.forall_mem_cons.mpr ⟨List.mem_of_getElem? (i := 40) rfl, (List.forall_mem_cons.mpr ⟨List.mem_of_getElem? (i := 41) rfl, (List.forall_mem_cons.mpr ⟨List.mem_of_getElem? (i := 42) rfl, (List.forall_mem_cons.mpr ⟨List.mem_of_getElem? (i := 43) rfl, (List.forall_mem_cons.mpr ⟨List.mem_of_getElem? (i := 44) rfl, (List.forall_mem_cons.mpr ⟨List.mem_of_getElem? (i := 45) rfl, (List.forall_mem_cons.mpr ⟨List.mem_of_getElem? (i := 46) rfl, (List.forall_mem_cons.mpr ⟨List.mem_of_getElem? (i := 47) rfl, (List.forall_mem_cons.mpr ⟨List.mem_of_getElem? (i := 48) rfl, (List.forall_mem_cons.mpr ⟨List.mem_of_getElem? (i := 49) rfl, (List.forall_mem_cons.mpr ⟨List.mem_of_getElem? (i := 20) rfl, (List.forall_mem_cons.mpr ⟨List.mem_of_getElem? (i := 50) rfl, (List.forall_mem_cons.mpr ⟨List.mem_of_getElem? (i := 28) rfl, (List.forall_mem_cons.mpr ⟨List.mem_of_getElem? (i := 22) rfl, (List.forall_mem_cons.mpr ⟨List.mem_of_getElem? (i := 34) rfl, (fun _ h => absurd h List.not_mem_nil)⟩)⟩)⟩)⟩)⟩)⟩)⟩)⟩)⟩)⟩)⟩)⟩)⟩)⟩)⟩)⟩)⟩)⟩)⟩)⟩)⟩)⟩)⟩)⟩) (by decide +kernel)
set_option maxRecDepth 20000 in
theorem ggL_runs_X6_all_p2 : GoodIn wsL_runs wsX6_all_r2 := goodIn_sub (List.forall_mem_cons.mpr ⟨List.mem_of_getElem? (i := 51) rfl, (List.forall_mem_cons.mpr ⟨List.mem_of_getElem? (i := 52) rfl, (List.forall_mem_cons.mpr ⟨List.mem_of_getElem? (i := 53) rfl, (List.forall_mem_cons.mpr ⟨List.mem_of_getElem? (i := 54) rfl, (List.forall_mem_cons.mpr ⟨List.mem_of_getElem? (i := 55) rfl, (List.forall_mem_cons.mpr ⟨List.mem_of_getElem? (i := 56) rfl, (List.forall_mem_cons.mpr ⟨List.mem_of_getElem? (i := 57) rfl, (List.forall_mem_cons.mpr ⟨List.mem_of_getElem? (i := 58) rfl, (List.forall_mem_cons.mpr ⟨List.mem_of_getElem? (i := 59) rfl, (List.forall_mem_cons.mpr ⟨List.mem_of_getElem? (i := 60) rfl, (List.forall_mem_cons.mpr ⟨List.mem_of_getElem? (i := 61) rfl, (List.forall_mem_cons.mpr ⟨List.mem_of_getElem? (i := 62) rfl, (List.forall_mem_cons.mpr ⟨List.mem_of_getElem? (i := 63) rfl, (List.forall_mem_cons.mpr ⟨List.mem_of_getElem? (i := 64) rfl, (List.forall_mem_cons.mpr ⟨List.mem_of_getElem? (i := 65) rfl, (List.forall_mem_cons.mpr ⟨List.mem_of_getElem? (i := 66) rfl, (List.forall_mem_cons.mpr ⟨List.mem_of_getElem? (i := 67) rfl, (List.forall_mem_cons.mpr ⟨List.mem_of_getElem? (i := 68) rfl, (List.forall_mem_cons.mpr ⟨List.mem_of_getElem? (i := 69) rfl, (List.forall_mem_cons.mpr ⟨List.mem_of_getElem? (i := 70) rfl, (List.forall_mem_cons.mpr ⟨List.mem_of_getElem? (i := 71) rfl, (List.forall_mem_cons.mpr ⟨List.mem_of_getElem? (i := 72) rfl, (List.forall_mem_cons.mpr ⟨List.mem_of_getElem? (i := 73) rfl, (List.forall_mem_cons.mpr ⟨List.mem_of_getElem? (i := 74) rfl, (fun _ h => absurd h List.not_mem_nil)⟩)⟩)⟩)⟩)⟩)⟩)⟩)⟩)⟩)⟩)⟩)⟩)⟩)⟩)⟩)⟩)⟩)⟩)⟩)⟩)⟩)⟩)⟩)⟩) (by decide +kernel)
set_option maxRecDepth 20000 in
theorem ggL_runs_X6_all_p3 : GoodIn wsL_runs wsX6_all_r3 := goodIn_sub (List.forall_mem_cons.mpr ⟨List.mem_of_getElem? (i := 75) rfl, (List.forall_mem_cons.mpr ⟨List.mem_of_getElem? (i := 76) rfl, (List.forall_mem_cons.mpr ⟨List.mem_of_getElem? (i := 77) rfl, (List.forall_mem_cons.mpr ⟨List.mem_of_getElem? (i := 78) rfl, (List.forall_mem_cons.mpr ⟨List.mem_of_getElem? (i := 79) rfl, (List.forall_mem_cons.mpr ⟨List.mem_of_getElem? (i := 80) rfl, (List.forall_mem_cons.mpr ⟨List.mem_of_getElem? (i := 81) rfl, (List.forall_mem_cons.mpr ⟨List.mem_of_getElem? (i := 82) rfl, (List.forall_mem_cons.mpr ⟨List.mem_of_getElem? (i := 83) rfl, (List.forall_mem_cons.mpr ⟨List.mem_of_getElem? (i := 84) rfl, (List.forall_mem_cons.mpr ⟨List.mem_of_getElem? (i := 85) rfl, (List.forall_mem_cons.mpr ⟨List.mem_of_getElem? (i := 86) rfl, (List.forall_mem_cons.mpr ⟨List.mem_of_getElem? (i := 87) rfl, (List.forall_mem_cons.mpr ⟨List.mem_of_getElem? (i := 88) rfl, (List.forall_mem_cons.mpr ⟨List.mem_of_getElem? (i := 89) rfl, (List.forall_mem_cons.mpr ⟨List.mem_of_getElem? (i := 90) rfl, (List.forall_mem_cons.mpr ⟨List.mem_of_getElem? (i := 231) rfl, (List.forall_mem_cons.mpr ⟨List.mem_of_getElem? (i := 232) rfl, (List.forall_mem_cons.mpr ⟨List.mem_of_getElem? (i := 233) rfl, (List.forall_mem_cons.mpr ⟨List.mem_of_getElem? (i := 234) rfl, (List.forall_mem_cons.mpr ⟨List.mem_of_getElem? (i := 235) rfl, (List.forall_mem_cons.mpr ⟨List.mem_of_getElem? (i := 18) rfl, (List.forall_mem_cons.mpr ⟨List.mem_of_getElem? (i := 19) rfl, (List.forall_mem_cons.mpr ⟨List.mem_of_getElem? (i := 21) rfl, (fun _ h => absurd h List.not_mem_nil)⟩)⟩)⟩)⟩)⟩)⟩)⟩)⟩)⟩)⟩)⟩)⟩)⟩)⟩)⟩)⟩)⟩)⟩)⟩)⟩)⟩)⟩)⟩)⟩) (by decide +kernel)
set_option maxRecDepth 20000 in
theorem ggL_runs_X6_all_p4 : GoodIn wsL_runs wsX6_all_r4 := goodIn_sub (List.forall_mem_cons.mpr ⟨List.mem_of_getElem? (i := 23) rfl, (List.forall_mem_cons.mpr ⟨List.mem_of_getElem? (i := 24) rfl, (List.forall_mem_cons.mpr ⟨List.mem_of_getElem? (i := 25) rfl, (List.forall_mem_cons.mpr ⟨List.mem_of_getElem? (i := 26) rfl, (List.forall_mem_cons.mpr ⟨List.mem_of_getElem? (i := 27) rfl, (List.forall_mem_cons.mpr ⟨List.mem_of_getElem? (i := 29) rfl, (List.forall_mem_cons.mpr ⟨List.mem_of_getElem? (i := 236) rfl, (List.forall_mem_cons.mpr ⟨List.mem_of_getElem? (i := 31) rfl, (List.forall_mem_cons.mpr ⟨List.mem_of_getElem? (i := 32) rfl, (List.forall_mem_cons.mpr ⟨List.mem_of_getElem? (i := 33) rfl, (List.forall_mem_cons.mpr ⟨List.mem_of_getElem? (i := 35) rfl, (List.forall_mem_cons.mpr ⟨List.mem_of_getElem? (i := 237) rfl, (List.forall_mem_cons.mpr ⟨List.mem_of_getElem? (i := 92) rfl, (List.forall_mem_cons.mpr ⟨List.mem_of_getElem? (i := 93) rfl, (List.forall_mem_cons.mpr ⟨List.mem_of_getElem? (i := 94) rfl, (List.forall_mem_cons.mpr ⟨List.mem_of_getElem? (i := 95) rfl, (List.forall_mem_cons.mpr ⟨List.mem_of_getElem? (i := 96) rfl, (List.forall_mem_cons.mpr ⟨List.mem_of_getElem? (i := 97) rfl, (List.forall_mem_cons.mpr ⟨List.mem_of_getElem? (i := 98) rfl, (List.forall_mem_cons.mpr ⟨List.mem_of_getElem? (i := 99) rfl, (List.forall_mem_cons.mpr ⟨List.mem_of_getElem? (i := 100) rfl, (List.forall_mem_cons.mpr ⟨List.mem_of_getElem? (i := 101) rfl, (List.forall_mem_cons.mpr ⟨List.mem_of_getElem? (i := 102) rfl, (List.forall_mem_cons.mpr ⟨List.mem_of_getElem? (i := 103) rfl, (fun _ h => absurd h List.not_mem_nil)⟩)⟩)⟩)⟩)⟩)⟩)⟩)⟩)⟩)⟩)⟩)⟩)⟩)⟩)⟩)⟩)⟩)⟩)⟩)⟩)⟩)⟩)⟩)⟩) (by decide +kernel)
set_option maxRecDepth 20000 in
theorem ggL_runs_X6_all_p5 : GoodIn wsL_runs wsX6_all_r5 := goodIn_sub (List.forall_mem_cons.mpr ⟨List.mem_of_getElem? (i := 104) rfl, (List.forall_mem_cons.mpr ⟨List.mem_of_getElem? (i := 105) rfl, (List.forall_mem_cons.mpr ⟨List.mem_of_getElem? (i := 106) rfl, (List.forall_mem_cons.mpr ⟨List.mem_of_getElem? (i := 107) rfl, (List.forall_mem_cons.mpr ⟨List.mem_of_getElem? (i := 108) rfl, (List.forall_mem_cons.mpr ⟨List.mem_of_getElem? (i := 109) rfl, (List.forall_mem_cons.mpr ⟨List.mem_of_getElem? (i := 110) rfl, (List.forall_mem_cons.mpr ⟨List.mem_of_getElem? (i := 111) rfl, (List.forall_mem_cons.mpr ⟨List.mem_of_getElem? (i := 112) rfl, (List.forall_mem_cons.mpr ⟨List.mem_of_getElem? (i := 113) rfl, (List.forall_mem_cons.mpr ⟨List.mem_of_getElem? (i := 132) rfl, (List.forall_mem_cons.mpr ⟨List.mem_of_getElem? (i := 115) rfl, (List.forall_mem_cons.mpr ⟨List.mem_of_getElem? (i := 116) rfl, (List.forall_mem_cons.mpr ⟨List.mem_of_getElem? (i := 117) rfl, (List.forall_mem_cons.mpr ⟨List.mem_of_getElem? (i := 238) rfl, (List.forall_mem_cons.mpr ⟨List.mem_of_getElem? (i := 129) rfl, (List.forall_mem_cons.mpr ⟨List.mem_of_getElem? (i := 130) rfl, (List.forall_mem_cons.mpr ⟨List.mem_of_getElem? (i := 131) rfl, (List.forall_mem_cons.mpr ⟨List.mem_of_getElem? (i := 133) rfl, (List.forall_mem_cons.mpr ⟨List.mem_of_getElem? (i := 134) rfl, (List.forall_mem_cons.mpr ⟨List.mem_of_getElem? (i := 135) rfl, (List.forall_mem_cons.mpr ⟨List.mem_of_getElem? (i := 136) rfl, (List.forall_mem_cons.mpr ⟨List.mem_of_getElem? (i := 137) rfl, (List.forall_mem_cons.mpr ⟨List.mem_of_getElem? (i := 138) rfl, (fun _ h => absurd h List.not_mem_nil)⟩)⟩)⟩)⟩)⟩)⟩)⟩)⟩)⟩)⟩)⟩)⟩)⟩)⟩)⟩)⟩)⟩)⟩)⟩)⟩)⟩)⟩)⟩)⟩) (by decide +kernel)
set_option maxRecDepth 20000 in
theorem ggL_runs_X6_all_p6 : GoodIn wsL_runs wsX6_all_r6 := goodIn_sub (List.forall_mem_cons.mpr ⟨List.mem_of_getElem? (i := 139) rfl, (List.forall_mem_cons.mpr ⟨List.mem_of_getElem? (i := 140) rfl, (List.forall_mem_cons.mpr ⟨List.mem_of_getElem? (i := 141) rfl, (List.forall_mem_cons.mpr ⟨List.mem_of_getElem? (i := 142) rfl, (List.forall_mem_cons.mpr ⟨List.mem_of_getElem? (i := 143) rfl, (List.forall_mem_cons.mpr ⟨List.mem_of_getElem? (i := 144) rfl, (List.forall_mem_cons.mpr ⟨List.mem_of_getElem? (i := 145) rfl, (List.forall_mem_cons.mpr ⟨List.mem_of_getElem? (i := 146) rfl, (List.forall_mem_cons.mpr ⟨List.mem_of_getElem? (i := 147) rfl, (List.forall_mem_cons.mpr ⟨List.mem_of_getElem? (i := 148) rfl, (List.forall_mem_cons.mpr ⟨List.mem_of_getElem? (i := 149) rfl, (List.forall_mem_cons.mpr ⟨List.mem_of_getElem? (i := 150) rfl, (List.forall_mem_cons.mpr ⟨List.mem_of_getElem? (i := 151) rfl, (List.forall_mem_cons.mpr ⟨List.mem_of_getElem? (i := 152) rfl, (List.forall_mem_cons.mpr ⟨List.mem_of_getElem? (i := 153) rfl, (List.forall_mem_cons.mpr ⟨List.mem_of_getElem? (i := 154) rfl, (List.forall_mem_cons.mpr ⟨List.mem_of_getElem? (i := 155) rfl, (List.forall_mem_cons.mpr ⟨List.mem_of_getElem? (i := 156) rfl, (List.forall_mem_cons.mpr ⟨List.mem_of_getElem? (i := 157) rfl, (List.forall_mem_cons.mpr ⟨List.mem_of_getElem? (i := 158) rfl, (List.forall_mem_cons.mpr ⟨List.mem_of_getElem? (i := 159) rfl, (List.forall_mem_cons.mpr ⟨List.mem_of_getElem? (i := 160) rfl, (List.forall_mem_cons.mpr ⟨List.mem_of_getElem? (i := 161) rfl, (List.forall_mem_cons.mpr ⟨List.mem_of_getElem? (i := 162) rfl, (fun _ h => absurd h List.not_mem_nil)⟩)⟩)⟩)⟩)⟩)⟩)⟩)⟩)⟩)⟩)⟩)⟩)⟩)⟩)⟩)⟩)⟩)⟩)⟩)⟩)⟩)⟩)⟩)⟩) (by decide +kernel)
set_option maxRecDepth 20000 in
theorem ggL_runs_X6_all_p7 : GoodIn wsL_runs wsX6_all_r7 := goodIn_sub (List.forall_mem_cons.mpr ⟨List.mem_of_getElem? (i := 163) rfl, (List.forall_mem_cons.mpr ⟨List.mem_of_getElem? (i := 164) rfl, (List.forall_mem_cons.mpr ⟨List.mem_of_getElem? (i := 165) rfl, (List.forall_mem_cons.mpr ⟨List.mem_of_getElem? (i := 166) rfl, (List.forall_mem_cons.mpr ⟨List.mem_of_getElem? (i := 167) rfl, (List.forall_mem_cons.mpr ⟨List.mem_of_getElem? (i := 168) rfl, (List.forall_mem_cons.mpr ⟨List.mem_of_getElem? (i := 169) rfl, (List.forall_mem_cons.mpr ⟨List.mem_of_getElem? (i := 170) rfl, (List.forall_mem_cons.mpr ⟨List.mem_of_getElem? (i := 171) rfl, (List.forall_mem_cons.mpr ⟨List.mem_of_getElem? (i := 172) rfl, (List.forall_mem_cons.mpr ⟨List.mem_of_getElem? (i := 173) rfl, (List.forall_mem_cons.mpr ⟨List.mem_of_getElem? (i := 174) rfl, (List.forall_mem_cons.mpr ⟨List.mem_of_getElem? (i := 175) rfl, (List.forall_mem_cons.mpr ⟨List.mem_of_getElem? (i := 176) rfl, (List.forall_mem_cons.mpr ⟨List.mem_of_getElem? (i := 177) rfl, (List.forall_mem_cons.mpr ⟨List.mem_of_getElem? (i := 178) rfl, (List.forall_mem_cons.mpr ⟨List.mem_of_getElem? (i := 179) rfl, (List.forall_mem_cons.mpr ⟨List.mem_of_getElem? (i := 180) rfl, (List.forall_mem_cons.mpr ⟨List.mem_of_getElem? (i := 181) rfl, (List.forall_mem_cons.mpr ⟨List.mem_of_getElem? (i := 182) rfl, (List.forall_mem_cons.mpr ⟨List.mem_of_getElem? (i := 183) rfl, (List.forall_mem_cons.mpr ⟨List.mem_of_getElem? (i := 184) rfl, (List.forall_mem_cons.mpr ⟨List.mem_of_getElem? (i := 185) rfl, (List.forall_mem_cons.mpr ⟨List.mem_of_getElem? (i := 186) rfl, (fun _ h => absurd h List.not_mem_nil)⟩)⟩)⟩)⟩)⟩)⟩)⟩)⟩)⟩)⟩)⟩)⟩)⟩)⟩)⟩)⟩)⟩)⟩)⟩)⟩)⟩)⟩)⟩)⟩) (by decide +kernel)
set_option maxRecDepth 20000 in
theorem ggL_runs_X6_all_p8 : GoodIn wsL_runs wsX6_all_r8 := goodIn_sub (List.forall_mem_cons.mpr ⟨List.mem_of_getElem? (i := 187) rfl, (List.forall_mem_cons.mpr ⟨List.mem_of_getElem? (i := 188) rfl, (List.forall_mem_cons.mpr ⟨List.mem_of_getElem? (i := 189) rfl, (List.forall_mem_cons.mpr ⟨List.mem_of_getElem? (i := 190) rfl, (List.forall_mem_cons.mpr ⟨List.mem_of_getElem? (i := 239) rfl, (List.forall_mem_cons.mpr ⟨List.mem_of_getElem? (i := 196) rfl, (List.forall_mem_cons.mpr ⟨List.mem_of_getElem? (i := 197) rfl, (List.forall_mem_cons.mpr ⟨List.mem_of_getElem? (i := 198) rfl, (List.forall_mem_cons.mpr ⟨List.mem_of_getElem? (i := 199) rfl, (List.forall_mem_cons.mpr ⟨List.mem_of_getElem? (i := 200) rfl, (List.forall_mem_cons.mpr ⟨List.mem_of_getElem? (i := 201) rfl, (List.forall_mem_cons.mpr ⟨List.mem_of_getElem? (i := 202) rfl, (List.forall_mem_cons.mpr ⟨List.mem_of_getElem? (i := 203) rfl, (List.forall_mem_cons.mpr ⟨List.mem_of_getElem? (i := 204) rfl, (List.forall_mem_cons.mpr ⟨List.mem_of_getElem? (i := 205) rfl, (List.forall_mem_cons.mpr ⟨List.mem_of_getElem? (i := 206) rfl, (List.forall_mem_cons.mpr ⟨List.mem_of_getElem? (i := 207) rfl, (fun _ h => absurd h List.not_mem_nil)⟩)⟩)⟩)⟩)⟩)⟩)⟩)⟩)⟩)⟩)⟩)⟩)⟩)⟩)⟩)⟩)⟩) (by decide +kernel)
set_option maxRecDepth 20000 in
theorem ggL_runs_X6_all_p9 : GoodIn wsL_runs wsX60 := goodIn_r _ [240, 241, 242, 243] (by decide +kernel) (by decide +kernel)
set_option maxRecDepth 20000 in
theorem ggL_runs_X6_all_p10 : GoodIn wsL_runs wsX30 := goodIn_r _ [244, 245, 246, 247, 248] (by decide +kernel) (by decide +kernel)
set_option maxRecDepth 20000 in
theorem ggL_runs_X6_all_p11 : GoodIn wsL_runs wsX50 := goodIn_r _ [249, 250, 251, 252, 253, 254, 255, 256, 257, 258, 259] (by decide +kernel) (by decide +kernel)
set_option maxRecDepth 20000 in
theorem ggL_runs_X6_all_p12 : GoodIn wsL_runs wsX00 := goodIn_r _ [266, 267] (by decide +kernel) (by decide +kernel)
set_option maxRecDepth 20000 in
theorem ggL_runs_X6_all_p13 : GoodIn wsL_runs wsX20 := goodIn_r _ [263, 264, 265] (by decide +kernel) (by decide +kernel)
set_option maxRecDepth 20000 in
theorem ggL_runs_X6_all_p14 : GoodIn wsL_runs wsX10 := goodIn_r _ [260, 261, 262] (by decide +kernel) (by decide +kernel)
set_option maxRecDepth 20000 in
theorem ggL_runs_X6_all : GoodIn wsL_runs wsX6_all := by
  show GoodIn wsL_runs ([Cond.code yX6_all cX6_all 1 (some .int)] ++ ((wsX6_all_r1 ++ (wsX6_all_r2 ++ (wsX6_all_r3 ++ (wsX6_all_r4 ++ (wsX6_all_r5 ++ (wsX6_all_r6 ++ (wsX6_all_r7 ++ wsX6_all_r8))))))) ++ wsX60 ++ wsX30 ++ wsX50 ++ wsX00 ++ wsX20 ++ wsX10))
  exact goodIn_app ggL_runs_X6_all_p0 (goodIn_app (goodIn_app (goodIn_app (goodIn_app (goodIn_app (goodIn_app (goodIn_app ggL_runs_X6_all_p1 (goodIn_app ggL_runs_X6_all_p2 (goodIn_app ggL_runs_X6_all_p3 (goodIn_app ggL_runs_X6_all_p4 (goodIn_app ggL_runs_X6_all_p5 (goodIn_app ggL_runs_X6_all_p6 (goodIn_app ggL_runs_X6_all_p7 ggL_runs_X6_all_p8))))))) ggL_runs_X6_all_p9) ggL_runs_X6_all_p10) ggL_runs_X6_all_p11) ggL_runs_X6_all_p12) ggL_runs_X6_all_p13) ggL_runs_X6_all_p14)
set_option maxRecDepth 20000 in
theorem gL_runs_X6_all : GoodIn wsL_runs (wsV RL 81 RX6 yX6_all wsX6_all) := goodIn_app (goodIn_of _ (by decide +kernel)) ggL_runs_X6_all
set_option maxRecDepth 20000 in
theorem ggL_runs_L_part : GoodIn wsL_runs wsL_part := goodIn_r _ [123] (by decide +kernel) (by decide +kernel)
set_option maxRecDepth 20000 in
theorem gL_runs_L_part : GoodIn wsL_runs (va_wsS RL 19 yL_part wsL_part) := goodIn_app (goodIn_of _ (by decide +kernel)) ggL_runs_L_part
theorem dL_runs_0 : decode cL_runs 0 = .ok (.iload 7, 2) := by decide +kernel
theorem dL_runs_2 : decode cL_runs 2 = .ok (.ifCond .ne 98, 3) := by decide +kernel
theorem dL_runs_5 : decode cL_runs 5 = .ok (.iload 8, 2) := by decide +kernel
theorem dL_runs_7 : decode cL_runs 7 = .ok (.aload_n 1, 1) := by decide +kernel
theorem dL_runs_8 : decode cL_runs 8 = .ok (.aload_n 1, 1) := by decide +kernel
theorem dL_runs_9 : decode cL_runs 9 = .ok (.iconst 1, 1) := by decide +kernel
theorem dL_runs_10 : decode cL_runs 10 = .ok (.iaload, 1) := by decide +kernel
theorem dL_runs_11 : decode cL_runs 11 = .ok (.invokestatic 56, 3) := by decide +kernel
theorem dL_runs_14 : decode cL_runs 14 = .ok (.irem, 1) := by decide +kernel
theorem dL_runs_15 : decode cL_runs 15 = .ok (.istore 9, 2) := by decide +kernel
theorem dL_runs_17 : decode cL_runs 17 = .ok (.iload 8, 2) := by decide +kernel
theorem dL_runs_19 : decode cL_runs 19 = .ok (.bipush 6, 2) := by decide +kernel
theorem dL_runs_21 : decode cL_runs 21 = .ok (.idiv, 1) := by decide +kernel
theorem dL_runs_22 : decode cL_runs 22 = .ok (.aload_n 1, 1) := by decide +kernel
theorem dL_runs_23 : decode cL_runs 23 = .ok (.aload_n 1, 1) := by decide +kernel
theorem dL_runs_24 : decode cL_runs 24 = .ok (.iconst 3, 1) := by decide +kernel
theorem dL_runs_25 : decode cL_runs 25 = .ok (.iaload, 1) := by decide +kernel
theorem dL_runs_26 : decode cL_runs 26 = .ok (.invokestatic 56, 3) := by decide +kernel
theorem dL_runs_29 : decode cL_runs 29 = .ok (.irem, 1) := by decide +kernel
theorem dL_runs_30 : decode cL_runs 30 = .ok (.istore 10, 2) := by decide +kernel
theorem dL_runs_32 : decode cL_runs 32 = .ok (.aload_n 1, 1) := by decide +kernel
theorem dL_runs_33 : decode cL_runs 33 = .ok (.iconst 5, 1) := by decide +kernel
theorem dL_runs_34 : decode cL_runs 34 = .ok (.iaload, 1) := by decide +kernel
theorem dL_runs_35 : decode cL_runs 35 = .ok (.iconst 1, 1) := by decide +kernel
theorem dL_runs_36 : decode cL_runs 36 = .ok (.if_icmp .ne 22, 3) := by decide +kernel
theorem dL_runs_39 : decode cL_runs 39 = .ok (.aload_n 0, 1) := by decide +kernel
theorem dL_runs_40 : decode cL_runs 40 = .ok (.iload 9, 2) := by decide +kernel
theorem dL_runs_42 : decode cL_runs 42 = .ok (.iload 10, 2) := by decide +kernel
theorem dL_runs_44 : decode cL_runs 44 = .ok (.invokevirtual 60, 3) := by decide +kernel
theorem dL_runs_47 : decode cL_runs 47 = .ok (.ldc 48, 2) := by decide +kernel
theorem dL_runs_49 : decode cL_runs 49 = .ok (.if_icmp .ne 7, 3) := by decide +kernel
theorem dL_runs_52 : decode cL_runs 52 = .ok (.iconst 1, 1) := by decide +kernel
theorem dL_runs_53 : decode cL_runs 53 = .ok (.goto 4, 3) := by decide +kernel
theorem dL_runs_56 : decode cL_runs 56 = .ok (.iconst 0, 1) := by decide +kernel
theorem dL_runs_57 : decode cL_runs 57 = .ok (.ireturn, 1) := by decide +kernel
theorem dL_runs_58 : decode cL_runs 58 = .ok (.aload_n 1, 1) := by decide +kernel
theorem dL_runs_59 : decode cL_runs 59 = .ok (.iconst 5, 1) := by decide +kernel
theorem dL_runs_60 : decode cL_runs 60 = .ok (.iconst 1, 1) := by decide +kernel
theorem dL_runs_61 : decode cL_runs 61 = .ok (.iastore, 1) := by decide +kernel
theorem dL_runs_62 : decode cL_runs 62 = .ok (.aload_n 1, 1) := by decide +kernel
theorem dL_runs_63 : decode cL_runs 63 = .ok (.bipush 6, 2) := by decide +kernel
theorem dL_runs_65 : decode cL_runs 65 = .ok (.iload 9, 2) := by decide +kernel
theorem dL_runs_67 : decode cL_runs 67 = .ok (.iastore, 1) := by decide +kernel
theorem dL_runs_68 : decode cL_runs 68 = .ok (.aload_n 1, 1) := by decide +kernel
theorem dL_runs_69 : decode cL_runs 69 = .ok (.bipush 7, 2) := by decide +kernel
theorem dL_runs_71 : decode cL_runs 71 = .ok (.iload 10, 2) := by decide +kernel
theorem dL_runs_73 : decode cL_runs 73 = .ok (.iastore, 1) := by decide +kernel
theorem dL_runs_74 : decode cL_runs 74 = .ok (.aload_n 1, 1) := by decide +kernel
theorem dL_runs_75 : decode cL_runs 75 = .ok (.bipush 8, 2) := by decide +kernel
theorem dL_runs_77 : decode cL_runs 77 = .ok (.iconst 0, 1) := by decide +kernel
theorem dL_runs_78 : decode cL_runs 78 = .ok (.iastore, 1) := by decide +kernel
theorem dL_runs_79 : decode cL_runs 79 = .ok (.aload_n 0, 1) := by decide +kernel
theorem dL_runs_80 : decode cL_runs 80 = .ok (.iload 9, 2) := by decide +kernel
theorem dL_runs_82 : decode cL_runs 82 = .ok (.iload 10, 2) := by decide +kernel
theorem dL_runs_84 : decode cL_runs 84 = .ok (.invokevirtual 60, 3) := by decide +kernel
theorem dL_runs_87 : decode cL_runs 87 = .ok (.aload_n 1, 1) := by decide +kernel
theorem dL_runs_88 : decode cL_runs 88 = .ok (.invokestatic 64, 3) := by decide +kernel
theorem dL_runs_91 : decode cL_runs 91 = .ok (.if_icmp .ne 7, 3) := by decide +kernel
theorem dL_runs_94 : decode cL_runs 94 = .ok (.iconst 1, 1) := by decide +kernel
theorem dL_runs_95 : decode cL_runs 95 = .ok (.goto 4, 3) := by decide +kernel
theorem dL_runs_98 : decode cL_runs 98 = .ok (.iconst 0, 1) := by decide +kernel
theorem dL_runs_99 : decode cL_runs 99 = .ok (.ireturn, 1) := by decide +kernel
theorem dL_runs_100 : decode cL_runs 100 = .ok (.iload 7, 2) := by decide +kernel
theorem dL_runs_102 : decode cL_runs 102 = .ok (.iconst 1, 1) := by decide +kernel
theorem dL_runs_103 : decode cL_runs 103 = .ok (.if_icmp .ne 113, 3) := by decide +kernel
theorem dL_runs_106 : decode cL_runs 106 = .ok (.iconst 1, 1) := by decide +kernel
theorem dL_runs_107 : decode cL_runs 107 = .ok (.iload 8, 2) := by decide +kernel
theorem dL_runs_109 : decode cL_runs 109 = .ok (.iload 8, 2) := by decide +kernel
theorem dL_runs_111 : decode cL_runs 111 = .ok (.iconst 3, 1) := by decide +kernel
theorem dL_runs_112 : decode cL_runs 112 = .ok (.irem, 1) := by decide +kernel
theorem dL_runs_113 : decode cL_runs 113 = .ok (.ifCond .ne 8, 3) := by decide +kernel
theorem dL_runs_116 : decode cL_runs 116 = .ok (.bipush 20, 2) := by decide +kernel
theorem dL_runs_118 : decode cL_runs 118 = .ok (.goto 4, 3) := by decide +kernel
theorem dL_runs_121 : decode cL_runs 121 = .ok (.iconst 4, 1) := by decide +kernel
theorem dL_runs_122 : decode cL_runs 122 = .ok (.irem, 1) := by decide +kernel
theorem dL_runs_123 : decode cL_runs 123 = .ok (.iadd, 1) := by decide +kernel
theorem dL_runs_124 : decode cL_runs 124 = .ok (.istore 9, 2) := by decide +kernel
theorem dL_runs_126 : decode cL_runs 126 = .ok (.aload_n 1, 1) := by decide +kernel
theorem dL_runs_127 : decode cL_runs 127 = .ok (.iconst 5, 1) := by decide +kernel
theorem dL_runs_128 : decode cL_runs 128 = .ok (.iaload, 1) := by decide +kernel
theorem dL_runs_129 : decode cL_runs 129 = .ok (.ifCond .eq 14, 3) := by decide +kernel
theorem dL_runs_132 : decode cL_runs 132 = .ok (.aload_n 1, 1) := by decide +kernel
theorem dL_runs_133 : decode cL_runs 133 = .ok (.bipush 8, 2) := by decide +kernel
theorem dL_runs_135 : decode cL_runs 135 = .ok (.iaload, 1) := by decide +kernel
theorem dL_runs_136 : decode cL_runs 136 = .ok (.aload_n 1, 1) := by decide +kernel
theorem dL_runs_137 : decode cL_runs 137 = .ok (.invokestatic 64, 3) := by decide +kernel
theorem dL_runs_140 : decode cL_runs 140 = .ok (.if_icmp .ne 20, 3) := by decide +kernel
theorem dL_runs_143 : decode cL_runs 143 = .ok (.aload_n 0, 1) := by decide +kernel
theorem dL_runs_144 : decode cL_runs 144 = .ok (.iload 9, 2) := by decide +kernel
theorem dL_runs_146 : decode cL_runs 146 = .ok (.invokevirtual 68, 3) := by decide +kernel
theorem dL_runs_149 : decode cL_runs 149 = .ok (.ldc 48, 2) := by decide +kernel
theorem dL_runs_151 : decode cL_runs 151 = .ok (.if_icmp .ne 7, 3) := by decide +kernel
theorem dL_runs_154 : decode cL_runs 154 = .ok (.iconst 1, 1) := by decide +kernel
theorem dL_runs_155 : decode cL_runs 155 = .ok (.goto 4, 3) := by decide +kernel
theorem dL_runs_158 : decode cL_runs 158 = .ok (.iconst 0, 1) := by decide +kernel
theorem dL_runs_159 : decode cL_runs 159 = .ok (.ireturn, 1) := by decide +kernel
theorem dL_runs_160 : decode cL_runs 160 = .ok (.aload_n 1, 1) := by decide +kernel
theorem dL_runs_161 : decode cL_runs 161 = .ok (.bipush 8, 2) := by decide +kernel
theorem dL_runs_163 : decode cL_runs 163 = .ok (.aload_n 1, 1) := by decide +kernel
theorem dL_runs_164 : decode cL_runs 164 = .ok (.bipush 8, 2) := by decide +kernel
theorem dL_runs_166 : decode cL_runs 166 = .ok (.iaload, 1) := by decide +kernel
theorem dL_runs_167 : decode cL_runs 167 = .ok (.iload 9, 2) := by decide +kernel
theorem dL_runs_169 : decode cL_runs 169 = .ok (.iadd, 1) := by decide +kernel
theorem dL_runs_170 : decode cL_runs 170 = .ok (.aload_n 1, 1) := by decide +kernel
theorem dL_runs_171 : decode cL_runs 171 = .ok (.invokestatic 64, 3) := by decide +kernel
theorem dL_runs_174 : decode cL_runs 174 = .ok (.if_icmp .ge 13, 3) := by decide +kernel
theorem dL_runs_177 : decode cL_runs 177 = .ok (.aload_n 1, 1) := by decide +kernel
theorem dL_runs_178 : decode cL_runs 178 = .ok (.bipush 8, 2) := by decide +kernel
theorem dL_runs_180 : decode cL_runs 180 = .ok (.iaload, 1) := by decide +kernel
theorem dL_runs_181 : decode cL_runs 181 = .ok (.iload 9, 2) := by decide +kernel
theorem dL_runs_183 : decode cL_runs 183 = .ok (.iadd, 1) := by decide +kernel
theorem dL_runs_184 : decode cL_runs 184 = .ok (.goto 7, 3) := by decide +kernel
theorem dL_runs_187 : decode cL_runs 187 = .ok (.aload_n 1, 1) := by decide +kernel
theorem dL_runs_188 : decode cL_runs 188 = .ok (.invokestatic 64, 3) := by decide +kernel
theorem dL_runs_191 : decode cL_runs 191 = .ok (.iastore, 1) := by decide +kernel
theorem dL_runs_192 : decode cL_runs 192 = .ok (.aload_n 0, 1) := by decide +kernel
theorem dL_runs_193 : decode cL_runs 193 = .ok (.iload 9, 2) := by decide +kernel
theorem dL_runs_195 : decode cL_runs 195 = .ok (.invokevirtual 68, 3) := by decide +kernel
theorem dL_runs_198 : decode cL_runs 198 = .ok (.aload_n 1, 1) := by decide +kernel
theorem dL_runs_199 : decode cL_runs 199 = .ok (.invokestatic 64, 3) := by decide +kernel
theorem dL_runs_202 : decode cL_runs 202 = .ok (.aload_n 1, 1) := by decide +kernel
theorem dL_runs_203 : decode cL_runs 203 = .ok (.bipush 8, 2) := by decide +kernel
theorem dL_runs_205 : decode cL_runs 205 = .ok (.iaload, 1) := by decide +kernel
theorem dL_runs_206 : decode cL_runs 206 = .ok (.isub, 1) := by decide +kernel
theorem dL_runs_207 : decode cL_runs 207 = .ok (.if_icmp .ne 7, 3) := by decide +kernel
theorem dL_runs_210 : decode cL_runs 210 = .ok (.iconst 1, 1) := by decide +kernel
theorem dL_runs_211 : decode cL_runs 211 = .ok (.goto 4, 3) := by decide +kernel
theorem dL_runs_214 : decode cL_runs 214 = .ok (.iconst 0, 1) := by decide +kernel
theorem dL_runs_215 : decode cL_runs 215 = .ok (.ireturn, 1) := by decide +kernel
theorem dL_runs_216 : decode cL_runs 216 = .ok (.iload 7, 2) := by decide +kernel
theorem dL_runs_218 : decode cL_runs 218 = .ok (.iconst 2, 1) := by decide +kernel
theorem dL_runs_219 : decode cL_runs 219 = .ok (.if_icmp .ne 79, 3) := by decide +kernel
theorem dL_runs_222 : decode cL_runs 222 = .ok (.aload_n 1, 1) := by decide +kernel
theorem dL_runs_223 : decode cL_runs 223 = .ok (.iconst 5, 1) := by decide +kernel
theorem dL_runs_224 : decode cL_runs 224 = .ok (.iaload, 1) := by decide +kernel
theorem dL_runs_225 : decode cL_runs 225 = .ok (.ifCond .eq 14, 3) := by decide +kernel
theorem dL_runs_228 : decode cL_runs 228 = .ok (.aload_n 1, 1) := by decide +kernel
theorem dL_runs_229 : decode cL_runs 229 = .ok (.bipush 8, 2) := by decide +kernel
theorem dL_runs_231 : decode cL_runs 231 = .ok (.iaload, 1) := by decide +kernel
theorem dL_runs_232 : decode cL_runs 232 = .ok (.aload_n 1, 1) := by decide +kernel
theorem dL_runs_233 : decode cL_runs 233 = .ok (.invokestatic 64, 3) := by decide +kernel
theorem dL_runs_236 : decode cL_runs 236 = .ok (.if_icmp .ge 18, 3) := by decide +kernel
theorem dL_runs_239 : decode cL_runs 239 = .ok (.aload_n 0, 1) := by decide +kernel
theorem dL_runs_240 : decode cL_runs 240 = .ok (.invokevirtual 71, 3) := by decide +kernel
theorem dL_runs_243 : decode cL_runs 243 = .ok (.ldc 48, 2) := by decide +kernel
theorem dL_runs_245 : decode cL_runs 245 = .ok (.if_icmp .ne 7, 3) := by decide +kernel
theorem dL_runs_248 : decode cL_runs 248 = .ok (.iconst 1, 1) := by decide +kernel
theorem dL_runs_249 : decode cL_runs 249 = .ok (.goto 4, 3) := by decide +kernel
theorem dL_runs_252 : decode cL_runs 252 = .ok (.iconst 0, 1) := by decide +kernel
theorem dL_runs_253 : decode cL_runs 253 = .ok (.ireturn, 1) := by decide +kernel
theorem dL_runs_254 : decode cL_runs 254 = .ok (.aload_n 1, 1) := by decide +kernel
theorem dL_runs_255 : decode cL_runs 255 = .ok (.aload_n 2, 1) := by decide +kernel
theorem dL_runs_256 : decode cL_runs 256 = .ok (.aload_n 3, 1) := by decide +kernel
theorem dL_runs_257 : decode cL_runs 257 = .ok (.aload 4, 2) := by decide +kernel
theorem dL_runs_259 : decode cL_runs 259 = .ok (.aload 5, 2) := by decide +kernel
theorem dL_runs_261 : decode cL_runs 261 = .ok (.aload 6, 2) := by decide +kernel
theorem dL_runs_263 : decode cL_runs 263 = .ok (.aload_n 1, 1) := by decide +kernel
theorem dL_runs_264 : decode cL_runs 264 = .ok (.bipush 6, 2) := by decide +kernel
theorem dL_runs_266 : decode cL_runs 266 = .ok (.iaload, 1) := by decide +kernel
theorem dL_runs_267 : decode cL_runs 267 = .ok (.aload_n 1, 1) := by decide +kernel
theorem dL_runs_268 : decode cL_runs 268 = .ok (.bipush 7, 2) := by decide +kernel
theorem dL_runs_270 : decode cL_runs 270 = .ok (.iaload, 1) := by decide +kernel
theorem dL_runs_271 : decode cL_runs 271 = .ok (.invokestatic 74, 3) := by decide +kernel
theorem dL_runs_274 : decode cL_runs 274 = .ok (.aload_n 1, 1) := by decide +kernel
theorem dL_runs_275 : decode cL_runs 275 = .ok (.iconst 5, 1) := by decide +kernel
theorem dL_runs_276 : decode cL_runs 276 = .ok (.iconst 0, 1) := by decide +kernel
theorem dL_runs_277 : decode cL_runs 277 = .ok (.iastore, 1) := by decide +kernel
theorem dL_runs_278 : decode cL_runs 278 = .ok (.aload_n 0, 1) := by decide +kernel
theorem dL_runs_279 : decode cL_runs 279 = .ok (.invokevirtual 71, 3) := by decide +kernel
theorem dL_runs_282 : decode cL_runs 282 = .ok (.aload 6, 2) := by decide +kernel
theorem dL_runs_284 : decode cL_runs 284 = .ok (.iconst 0, 1) := by decide +kernel
theorem dL_runs_285 : decode cL_runs 285 = .ok (.laload, 1) := by decide +kernel
theorem dL_runs_286 : decode cL_runs 286 = .ok (.invokestatic 77, 3) := by decide +kernel
theorem dL_runs_289 : decode cL_runs 289 = .ok (.if_icmp .ne 7, 3) := by decide +kernel
theorem dL_runs_292 : decode cL_runs 292 = .ok (.iconst 1, 1) := by decide +kernel
theorem dL_runs_293 : decode cL_runs 293 = .ok (.goto 4, 3) := by decide +kernel
theorem dL_runs_296 : decode cL_runs 296 = .ok (.iconst 0, 1) := by decide +kernel
theorem dL_runs_297 : decode cL_runs 297 = .ok (.ireturn, 1) := by decide +kernel
theorem dL_runs_298 : decode cL_runs 298 = .ok (.aload_n 1, 1) := by decide +kernel
theorem dL_runs_299 : decode cL_runs 299 = .ok (.iconst 5, 1) := by decide +kernel
theorem dL_runs_300 : decode cL_runs 300 = .ok (.iaload, 1) := by decide +kernel
theorem dL_runs_301 : decode cL_runs 301 = .ok (.iconst 1, 1) := by decide +kernel
theorem dL_runs_302 : decode cL_runs 302 = .ok (.if_icmp .ne 18, 3) := by decide +kernel
theorem dL_runs_305 : decode cL_runs 305 = .ok (.aload_n 0, 1) := by decide +kernel
theorem dL_runs_306 : decode cL_runs 306 = .ok (.invokevirtual 81, 3) := by decide +kernel
theorem dL_runs_309 : decode cL_runs 309 = .ok (.ldc 48, 2) := by decide +kernel
theorem dL_runs_311 : decode cL_runs 311 = .ok (.if_icmp .ne 7, 3) := by decide +kernel
theorem dL_runs_314 : decode cL_runs 314 = .ok (.iconst 1, 1) := by decide +kernel
theorem dL_runs_315 : decode cL_runs 315 = .ok (.goto 4, 3) := by decide +kernel
theorem dL_runs_318 : decode cL_runs 318 = .ok (.iconst 0, 1) := by decide +kernel
theorem dL_runs_319 : decode cL_runs 319 = .ok (.ireturn, 1) := by decide +kernel
theorem dL_runs_320 : decode cL_runs 320 = .ok (.iconst 0, 1) := by decide +kernel
theorem dL_runs_321 : decode cL_runs 321 = .ok (.istore 9, 2) := by decide +kernel
theorem dL_runs_323 : decode cL_runs 323 = .ok (.iconst 0, 1) := by decide +kernel
theorem dL_runs_324 : decode cL_runs 324 = .ok (.istore 10, 2) := by decide +kernel
theorem dL_runs_326 : decode cL_runs 326 = .ok (.iload 10, 2) := by decide +kernel
theorem dL_runs_328 : decode cL_runs 328 = .ok (.aload_n 1, 1) := by decide +kernel
theorem dL_runs_329 : decode cL_runs 329 = .ok (.aload_n 1, 1) := by decide +kernel
theorem dL_runs_330 : decode cL_runs 330 = .ok (.iconst 1, 1) := by decide +kernel
theorem dL_runs_331 : decode cL_runs 331 = .ok (.iaload, 1) := by decide +kernel
theorem dL_runs_332 : decode cL_runs 332 = .ok (.invokestatic 56, 3) := by decide +kernel
theorem dL_runs_335 : decode cL_runs 335 = .ok (.if_icmp .ge 76, 3) := by decide +kernel
theorem dL_runs_338 : decode cL_runs 338 = .ok (.iconst 0, 1) := by decide +kernel
theorem dL_runs_339 : decode cL_runs 339 = .ok (.istore 11, 2) := by decide +kernel
theorem dL_runs_341 : decode cL_runs 341 = .ok (.iload 11, 2) := by decide +kernel
theorem dL_runs_343 : decode cL_runs 343 = .ok (.aload_n 1, 1) := by decide +kernel
theorem dL_runs_344 : decode cL_runs 344 = .ok (.aload_n 1, 1) := by decide +kernel
theorem dL_runs_345 : decode cL_runs 345 = .ok (.iconst 3, 1) := by decide +kernel
theorem dL_runs_346 : decode cL_runs 346 = .ok (.iaload, 1) := by decide +kernel
theorem dL_runs_347 : decode cL_runs 347 = .ok (.invokestatic 56, 3) := by decide +kernel
theorem dL_runs_350 : decode cL_runs 350 = .ok (.if_icmp .ge 55, 3) := by decide +kernel
theorem dL_runs_353 : decode cL_runs 353 = .ok (.aload_n 1, 1) := by decide +kernel
theorem dL_runs_354 : decode cL_runs 354 = .ok (.aload_n 2, 1) := by decide +kernel
theorem dL_runs_355 : decode cL_runs 355 = .ok (.aload_n 3, 1) := by decide +kernel
theorem dL_runs_356 : decode cL_runs 356 = .ok (.aload 4, 2) := by decide +kernel
theorem dL_runs_358 : decode cL_runs 358 = .ok (.aload 5, 2) := by decide +kernel
theorem dL_runs_360 : decode cL_runs 360 = .ok (.aload 6, 2) := by decide +kernel
theorem dL_runs_362 : decode cL_runs 362 = .ok (.iload 10, 2) := by decide +kernel
theorem dL_runs_364 : decode cL_runs 364 = .ok (.iload 11, 2) := by decide +kernel
theorem dL_runs_366 : decode cL_runs 366 = .ok (.invokestatic 74, 3) := by decide +kernel
theorem dL_runs_369 : decode cL_runs 369 = .ok (.iload 9, 2) := by decide +kernel
theorem dL_runs_371 : decode cL_runs 371 = .ok (.aload_n 1, 1) := by decide +kernel
theorem dL_runs_372 : decode cL_runs 372 = .ok (.aload_n 1, 1) := by decide +kernel
theorem dL_runs_373 : decode cL_runs 373 = .ok (.iconst 1, 1) := by decide +kernel
theorem dL_runs_374 : decode cL_runs 374 = .ok (.iaload, 1) := by decide +kernel
theorem dL_runs_375 : decode cL_runs 375 = .ok (.iload 10, 2) := by decide +kernel
theorem dL_runs_377 : decode cL_runs 377 = .ok (.invokestatic 19, 3) := by decide +kernel
theorem dL_runs_380 : decode cL_runs 380 = .ok (.aload_n 1, 1) := by decide +kernel
theorem dL_runs_381 : decode cL_runs 381 = .ok (.aload_n 1, 1) := by decide +kernel
theorem dL_runs_382 : decode cL_runs 382 = .ok (.iconst 3, 1) := by decide +kernel
theorem dL_runs_383 : decode cL_runs 383 = .ok (.iaload, 1) := by decide +kernel
theorem dL_runs_384 : decode cL_runs 384 = .ok (.iload 11, 2) := by decide +kernel
theorem dL_runs_386 : decode cL_runs 386 = .ok (.invokestatic 19, 3) := by decide +kernel
theorem dL_runs_389 : decode cL_runs 389 = .ok (.iadd, 1) := by decide +kernel
theorem dL_runs_390 : decode cL_runs 390 = .ok (.aload_n 1, 1) := by decide +kernel
theorem dL_runs_391 : decode cL_runs 391 = .ok (.iconst 2, 1) := by decide +kernel
theorem dL_runs_392 : decode cL_runs 392 = .ok (.iaload, 1) := by decide +kernel
theorem dL_runs_393 : decode cL_runs 393 = .ok (.iadd, 1) := by decide +kernel
theorem dL_runs_394 : decode cL_runs 394 = .ok (.iconst 2, 1) := by decide +kernel
theorem dL_runs_395 : decode cL_runs 395 = .ok (.isub, 1) := by decide +kernel
theorem dL_runs_396 : decode cL_runs 396 = .ok (.iadd, 1) := by decide +kernel
theorem dL_runs_397 : decode cL_runs 397 = .ok (.istore 9, 2) := by decide +kernel
theorem dL_runs_399 : decode cL_runs 399 = .ok (.iinc 11 1, 3) := by decide +kernel
theorem dL_runs_402 : decode cL_runs 402 = .ok (.goto (-61), 3) := by decide +kernel
theorem dL_runs_405 : decode cL_runs 405 = .ok (.iinc 10 1, 3) := by decide +kernel
theorem dL_runs_408 : decode cL_runs 408 = .ok (.goto (-82), 3) := by decide +kernel
theorem dL_runs_411 : decode cL_runs 411 = .ok (.aload_n 0, 1) := by decide +kernel
theorem dL_runs_412 : decode cL_runs 412 = .ok (.invokevirtual 81, 3) := by decide +kernel
theorem dL_runs_415 : decode cL_runs 415 = .ok (.iload 9, 2) := by decide +kernel
theorem dL_runs_417 : decode cL_runs 417 = .ok (.if_icmp .ne 7, 3) := by decide +kernel
theorem dL_runs_420 : decode cL_runs 420 = .ok (.iconst 1, 1) := by decide +kernel
theorem dL_runs_421 : decode cL_runs 421 = .ok (.goto 4, 3) := by decide +kernel
theorem dL_runs_424 : decode cL_runs 424 = .ok (.iconst 0, 1) := by decide +kernel
theorem dL_runs_425 : decode cL_runs 425 = .ok (.ireturn, 1) := by decide +kernel
