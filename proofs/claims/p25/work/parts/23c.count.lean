theorem kX6_count_c161 : Cond.constant RX6 161 (-1000004) ∈ wsX6_count := by decide +kernel
theorem kX6_count_c33 : Cond.constant RX6 33 (-1000001) ∈ wsX6_count := by decide +kernel
theorem kX6_count_f10 : Cond.fieldLink RX6 10 "SkewedSquare" "now" "LSkewedSquare$State;" ∈ wsX6_count := by decide +kernel
theorem kX6_count_f101 : Cond.fieldLink RX6 101 "SkewedSquare$Square" "leftOut" "I" ∈ wsX6_count := by decide +kernel
theorem kX6_count_f152 : Cond.fieldLink RX6 152 "SkewedSquare$Matrix" "rows" "I" ∈ wsX6_count := by decide +kernel
theorem kX6_count_f155 : Cond.fieldLink RX6 155 "SkewedSquare$Matrix" "columns" "I" ∈ wsX6_count := by decide +kernel
theorem kX6_count_f158 : Cond.fieldLink RX6 158 "SkewedSquare$Tile" "row" "I" ∈ wsX6_count := by decide +kernel
theorem kX6_count_f162 : Cond.fieldLink RX6 162 "SkewedSquare$Tile" "column" "I" ∈ wsX6_count := by decide +kernel
theorem kX6_count_f165 : Cond.fieldLink RX6 165 "SkewedSquare$Tile" "ticks" "I" ∈ wsX6_count := by decide +kernel
theorem kX6_count_f174 : Cond.fieldLink RX6 174 "SkewedSquare$History" "size" "I" ∈ wsX6_count := by decide +kernel
theorem kX6_count_f177 : Cond.fieldLink RX6 177 "SkewedSquare$Text" "length" "I" ∈ wsX6_count := by decide +kernel
theorem kX6_count_f22 : Cond.fieldLink RX6 22 "SkewedSquare" "history" "LSkewedSquare$History;" ∈ wsX6_count := by decide +kernel
theorem kX6_count_f29 : Cond.fieldLink RX6 29 "SkewedSquare" "text" "LSkewedSquare$Text;" ∈ wsX6_count := by decide +kernel
theorem kX6_count_f38 : Cond.fieldLink RX6 38 "SkewedSquare$State" "square" "LSkewedSquare$Square;" ∈ wsX6_count := by decide +kernel
theorem kX6_count_f42 : Cond.fieldLink RX6 42 "SkewedSquare$Square" "side" "I" ∈ wsX6_count := by decide +kernel
theorem kX6_count_f52 : Cond.fieldLink RX6 52 "SkewedSquare$State" "tile" "LSkewedSquare$Tile;" ∈ wsX6_count := by decide +kernel
theorem kX6_count_f56 : Cond.fieldLink RX6 56 "SkewedSquare$Tile" "begun" "Z" ∈ wsX6_count := by decide +kernel
theorem kX6_count_f69 : Cond.fieldLink RX6 69 "SkewedSquare$State" "leftMatrix" "LSkewedSquare$Matrix;" ∈ wsX6_count := by decide +kernel
theorem kX6_count_f78 : Cond.fieldLink RX6 78 "SkewedSquare$State" "rightMatrix" "LSkewedSquare$Matrix;" ∈ wsX6_count := by decide +kernel
theorem khX6_count_X0 : ∀ w ∈ u_ws RX0 TX0 2, w ∈ wsX6_count := by decide +kernel
theorem khX6_count_X1 : ∀ w ∈ u_ws RX1 TX1 3, w ∈ wsX6_count := by decide +kernel
theorem khX6_count_X2 : ∀ w ∈ u_ws RX2 TX2 3, w ∈ wsX6_count := by decide +kernel
theorem khX6_count_X3 : ∀ w ∈ u_ws RX3 TX3 5, w ∈ wsX6_count := by decide +kernel
theorem khX6_count_X4 : ∀ w ∈ u_ws RX4 TX4 11, w ∈ wsX6_count := by decide +kernel
theorem khX6_count_X5 : ∀ w ∈ u_ws RX5 TX5 11, w ∈ wsX6_count := by decide +kernel
theorem khX6_count_X6 : ∀ w ∈ u_ws RX6 TX6 4, w ∈ wsX6_count := by decide +kernel
set_option maxHeartbeats 4000000 in
set_option maxRecDepth 100000 in
/-- kX6_count -/
theorem kX6_count (l : Launch) (G : wG) (x0 : Nat) (na tra : SA) (h : HA) (k : XA) (n o : Nat) (kf : wF) (lr lc : Nat) (L : wF) (rr rc : Nat) (R : wF) (sr sc : Nat) (Z : wF) (b ta tb th tw tt tn : Nat) (sm0 mt rw dn : wF) (v : SD) (hn : Nat) (u0 u1 u2 u3 : SD) (w : XD) (s : wF) (pst : PF) (v1 : Int32) (hR : RelS ((n, o, kf), (lr, lc, L), (rr, rc, R), (sr, sc, Z), (b, ta, tb, th, tw, tt, tn, sm0, mt, rw, dn)) s) (hh : hn ≤ 4) (hH : HRel hn u0 u1 u2 u3 pst) : CR l yX6_count wsX6_count (rm 3 70) G [.ref x0, .int v1] (List.flatten [[((x0, na.1, tra.1, h.1, k.1).1, .inr (6, [.ref ((x0, na.1, tra.1, h.1, k.1).2.1), .ref ((x0, na.1, tra.1, h.1, k.1).2.2.1), .ref ((x0, na.1, tra.1, h.1, k.1).2.2.2.1), .ref ((x0, na.1, tra.1, h.1, k.1).2.2.2.2)]))], wS G na ((n, o, kf), (lr, lc, L), (rr, rc, R), (sr, sc, Z), (b, ta, tb, th, tw, tt, tn, sm0, mt, rw, dn)), wS G tra v, wHf G h (hn, u0, u1, u2, u3), wX G k w]) (fun x => x = coA n o lr lc rc b ta tb tt hn w.1 v1 s) := by
  refine CR.of (own := RX6) rfl (by decide) rfl (Nat.le_of_ble_eq_true rfl) ?_
  intro p9 e9 s9 m9 b9 t9 c9 xE xB xM xO xT xK xP Q xQ ls hl
  have xL : lv_has ls 2 [(0, .ref x0), (1, .int v1)] := hl
  obtain ⟨hn1, hn2, hn3⟩ := hR.1.2.2.1
  obtain ⟨hm1, hm2, hm3, hm4, hm5, hm6⟩ := hR.2.2.1.2.2.2.1
  obtain ⟨hd1, hd2, hd3⟩ := hR.2.2.2.1
  have hb1 := hR.2.2.2.2.2.1.1
  refine lv_iload_n xE xB dX6_count_0 rfl (lv_at xL 1 rfl) ?_
  by_cases e_0 : v1 = nI 0
  · skip
    subst e_0
    refine lv_tableIn (off := 79) (tgt := 80) xE xB dX6_count_1 (by decide) (by decide) (by decide) (by decide) ?_
    refine lv_aload_n xE xB dX6_count_80 rfl (lv_at xL 0 rfl) ?_
    refine va_get (D := G.1) (ci := 6) (v := .ref na.1) (C := RX6) (T := TX6) (N := 4) xE xB xT khX6_count_X6 xO xK.1 xP 0 rfl rfl 0 (by decide) (xT _ kX6_count_f10) (fun _ h9 => h9) rfl dX6_count_81 ?_
    refine va_get (D := G.1) (ci := 3) (v := .ref na.2.1.1) (C := RX3) (T := TX3) (N := 5) xE xB xT khX6_count_X3 xO xK.1 xP 1 rfl rfl 0 (by decide) (xT _ kX6_count_f38) (fun _ h9 => h9) rfl dX6_count_84 ?_
    refine va_get (D := G.1) (ci := 2) (v := .int (nI n)) (C := RX2) (T := TX2) (N := 3) xE xB xT khX6_count_X2 xO xK.1 xP 2 rfl rfl 0 (by decide) (xT _ kX6_count_f42) (fun _ h9 => h9) rfl dX6_count_87 ?_
    exact xQ _ _ _ (by unfold coA; rw [if_pos rfl]) dX6_count_90
  by_cases e_1 : v1 = nI 1
  · skip
    subst e_1
    refine lv_tableIn (off := 90) (tgt := 91) xE xB dX6_count_1 (by decide) (by decide) (by decide) (by decide) ?_
    refine lv_aload_n xE xB dX6_count_91 rfl (lv_at xL 0 rfl) ?_
    refine va_get (D := G.1) (ci := 6) (v := .ref na.1) (C := RX6) (T := TX6) (N := 4) xE xB xT khX6_count_X6 xO xK.1 xP 0 rfl rfl 0 (by decide) (xT _ kX6_count_f10) (fun _ h9 => h9) rfl dX6_count_92 ?_
    refine va_get (D := G.1) (ci := 3) (v := .ref na.2.2.1.1) (C := RX3) (T := TX3) (N := 5) xE xB xT khX6_count_X3 xO xK.1 xP 1 rfl rfl 1 (by decide) (xT _ kX6_count_f69) (fun _ h9 => h9) rfl dX6_count_95 ?_
    refine va_get (D := G.1) (ci := 1) (v := .int (nI lr)) (C := RX1) (T := TX1) (N := 3) xE xB xT khX6_count_X1 xO xK.1 xP 4 rfl rfl 0 (by decide) (xT _ kX6_count_f152) (fun _ h9 => h9) rfl dX6_count_98 ?_
    exact xQ _ _ _ (by unfold coA; rw [if_neg (by decide), if_pos rfl]) dX6_count_101
  by_cases e_2 : v1 = nI 2
  · skip
    subst e_2
    refine lv_tableIn (off := 101) (tgt := 102) xE xB dX6_count_1 (by decide) (by decide) (by decide) (by decide) ?_
    refine lv_aload_n xE xB dX6_count_102 rfl (lv_at xL 0 rfl) ?_
    refine va_get (D := G.1) (ci := 6) (v := .ref na.1) (C := RX6) (T := TX6) (N := 4) xE xB xT khX6_count_X6 xO xK.1 xP 0 rfl rfl 0 (by decide) (xT _ kX6_count_f10) (fun _ h9 => h9) rfl dX6_count_103 ?_
    refine va_get (D := G.1) (ci := 3) (v := .ref na.2.2.1.1) (C := RX3) (T := TX3) (N := 5) xE xB xT khX6_count_X3 xO xK.1 xP 1 rfl rfl 1 (by decide) (xT _ kX6_count_f69) (fun _ h9 => h9) rfl dX6_count_106 ?_
    refine va_get (D := G.1) (ci := 1) (v := .int (nI lc)) (C := RX1) (T := TX1) (N := 3) xE xB xT khX6_count_X1 xO xK.1 xP 4 rfl rfl 1 (by decide) (xT _ kX6_count_f155) (fun _ h9 => h9) rfl dX6_count_109 ?_
    exact xQ _ _ _ (by unfold coA; rw [if_neg (by decide), if_neg (by decide), if_pos rfl]) dX6_count_112
  by_cases e_3 : v1 = nI 3
  · skip
    subst e_3
    refine lv_tableIn (off := 112) (tgt := 113) xE xB dX6_count_1 (by decide) (by decide) (by decide) (by decide) ?_
    refine lv_aload_n xE xB dX6_count_113 rfl (lv_at xL 0 rfl) ?_
    refine va_get (D := G.1) (ci := 6) (v := .ref na.1) (C := RX6) (T := TX6) (N := 4) xE xB xT khX6_count_X6 xO xK.1 xP 0 rfl rfl 0 (by decide) (xT _ kX6_count_f10) (fun _ h9 => h9) rfl dX6_count_114 ?_
    refine va_get (D := G.1) (ci := 3) (v := .ref na.2.2.2.1.1) (C := RX3) (T := TX3) (N := 5) xE xB xT khX6_count_X3 xO xK.1 xP 1 rfl rfl 2 (by decide) (xT _ kX6_count_f78) (fun _ h9 => h9) rfl dX6_count_117 ?_
    refine va_get (D := G.1) (ci := 1) (v := .int (nI rc)) (C := RX1) (T := TX1) (N := 3) xE xB xT khX6_count_X1 xO xK.1 xP 6 rfl rfl 1 (by decide) (xT _ kX6_count_f155) (fun _ h9 => h9) rfl dX6_count_120 ?_
    exact xQ _ _ _ (by unfold coA; rw [if_neg (by decide), if_neg (by decide), if_neg (by decide), if_pos rfl]) dX6_count_123
  by_cases e_4 : v1 = nI 4
  · skip
    subst e_4
    refine lv_tableIn (off := 123) (tgt := 124) xE xB dX6_count_1 (by decide) (by decide) (by decide) (by decide) ?_
    refine lv_aload_n xE xB dX6_count_124 rfl (lv_at xL 0 rfl) ?_
    refine va_get (D := G.1) (ci := 6) (v := .ref na.1) (C := RX6) (T := TX6) (N := 4) xE xB xT khX6_count_X6 xO xK.1 xP 0 rfl rfl 0 (by decide) (xT _ kX6_count_f10) (fun _ h9 => h9) rfl dX6_count_125 ?_
    refine q_VRL (As := []) (rest := []) ⟨xE, xB, xM, xO, xT⟩ (kX3_tiles l G na n o kf lr lc L rr rc R sr sc Z b ta tb th tw tt tn sm0 mt rw dn (by omega) (by omega) (by omega) (by omega)) (cwV 0 xT gX6_count_X3_tiles rfl rfl rfl (by decide +kernel) ⟨Nat.le_of_ble_eq_true rfl, Nat.le_of_ble_eq_true rfl⟩) xK xP [1] [0, 2, 3, 4] 5 rfl (by decide) (Lc := [wS G na ((n, o, kf), (lr, lc, L), (rr, rc, R), (sr, sc, Z), (b, ta, tb, th, tw, tt, tn, sm0, mt, rw, dn))]) rfl (by simp only [List.flatten_cons, List.flatten_nil, List.append_nil, List.append_assoc]) 0 rfl rfl rfl rfl xL.1 rfl (Nat.le_of_ble_eq_true rfl) dX6_count_128 ⟨Nat.le_refl _, Nat.le_refl _⟩ (fun r_128 h_128 => ?_)
    obtain rfl : r_128 = nI (tls lr n * tls rc n) := h_128
    exact xQ _ _ _ (by unfold coA; rw [if_neg (by decide), if_neg (by decide), if_neg (by decide), if_neg (by decide), if_pos rfl]) dX6_count_131
  by_cases e_5 : v1 = nI 5
  · skip
    subst e_5
    refine lv_tableIn (off := 131) (tgt := 132) xE xB dX6_count_1 (by decide) (by decide) (by decide) (by decide) ?_
    refine lv_aload_n xE xB dX6_count_132 rfl (lv_at xL 0 rfl) ?_
    refine va_get (D := G.1) (ci := 6) (v := .ref na.1) (C := RX6) (T := TX6) (N := 4) xE xB xT khX6_count_X6 xO xK.1 xP 0 rfl rfl 0 (by decide) (xT _ kX6_count_f10) (fun _ h9 => h9) rfl dX6_count_133 ?_
    refine va_get (D := G.1) (ci := 3) (v := .ref na.2.1.1) (C := RX3) (T := TX3) (N := 5) xE xB xT khX6_count_X3 xO xK.1 xP 1 rfl rfl 0 (by decide) (xT _ kX6_count_f38) (fun _ h9 => h9) rfl dX6_count_136 ?_
    refine va_get (D := G.1) (ci := 2) (v := .int (nI o)) (C := RX2) (T := TX2) (N := 3) xE xB xT khX6_count_X2 xO xK.1 xP 2 rfl rfl 1 (by decide) (xT _ kX6_count_f101) (fun _ h9 => h9) rfl dX6_count_139 ?_
    exact xQ _ _ _ (by unfold coA; rw [if_neg (by decide), if_neg (by decide), if_neg (by decide), if_neg (by decide), if_neg (by decide), if_pos rfl]) dX6_count_142
  by_cases e_6 : v1 = nI 6
  · skip
    subst e_6
    refine lv_tableIn (off := 142) (tgt := 143) xE xB dX6_count_1 (by decide) (by decide) (by decide) (by decide) ?_
    refine lv_aload_n xE xB dX6_count_143 rfl (lv_at xL 0 rfl) ?_
    refine va_get (D := G.1) (ci := 6) (v := .ref na.1) (C := RX6) (T := TX6) (N := 4) xE xB xT khX6_count_X6 xO xK.1 xP 0 rfl rfl 0 (by decide) (xT _ kX6_count_f10) (fun _ h9 => h9) rfl dX6_count_144 ?_
    refine va_get (D := G.1) (ci := 3) (v := .ref na.2.2.2.2.2.1) (C := RX3) (T := TX3) (N := 5) xE xB xT khX6_count_X3 xO xK.1 xP 1 rfl rfl 4 (by decide) (xT _ kX6_count_f52) (fun _ h9 => h9) rfl dX6_count_147 ?_
    refine va_get (D := G.1) (ci := 5) (v := .int (nI b)) (C := RX5) (T := TX5) (N := 11) xE xB xT khX6_count_X5 xO xK.1 xP 10 rfl rfl 0 (by decide) (xT _ kX6_count_f56) (fun _ h9 => h9) rfl dX6_count_150 ?_
    refine q_if_eq (tgt := 160) xE xB dX6_count_153 (by decide) (by omega) (fun c_153 => ?_) (fun c_153 => ?_)
    · skip
      refine lv_iconst (v := nI 0) xE xB dX6_count_160 (by decide) ?_
      exact xQ _ _ _ (by unfold coA; rw [if_neg (by decide), if_neg (by decide), if_neg (by decide), if_neg (by decide), if_neg (by decide), if_neg (by decide), if_pos rfl]; exact congrArg nI (by omega)) dX6_count_161
    · skip
      refine lv_iconst (v := nI 1) xE xB dX6_count_156 (by decide) ?_
      refine lv_goto (tgt := 161) xE xB dX6_count_157 (by decide) ?_
      exact xQ _ _ _ (by unfold coA; rw [if_neg (by decide), if_neg (by decide), if_neg (by decide), if_neg (by decide), if_neg (by decide), if_neg (by decide), if_pos rfl]; exact congrArg nI (by omega)) dX6_count_161
  by_cases e_7 : v1 = nI 7
  · skip
    subst e_7
    refine lv_tableIn (off := 161) (tgt := 162) xE xB dX6_count_1 (by decide) (by decide) (by decide) (by decide) ?_
    refine lv_aload_n xE xB dX6_count_162 rfl (lv_at xL 0 rfl) ?_
    refine va_get (D := G.1) (ci := 6) (v := .ref na.1) (C := RX6) (T := TX6) (N := 4) xE xB xT khX6_count_X6 xO xK.1 xP 0 rfl rfl 0 (by decide) (xT _ kX6_count_f10) (fun _ h9 => h9) rfl dX6_count_163 ?_
    refine va_get (D := G.1) (ci := 3) (v := .ref na.2.2.2.2.2.1) (C := RX3) (T := TX3) (N := 5) xE xB xT khX6_count_X3 xO xK.1 xP 1 rfl rfl 4 (by decide) (xT _ kX6_count_f52) (fun _ h9 => h9) rfl dX6_count_166 ?_
    refine va_get (D := G.1) (ci := 5) (v := .int (nI b)) (C := RX5) (T := TX5) (N := 11) xE xB xT khX6_count_X5 xO xK.1 xP 10 rfl rfl 0 (by decide) (xT _ kX6_count_f56) (fun _ h9 => h9) rfl dX6_count_169 ?_
    refine q_if_eq (tgt := 188) xE xB dX6_count_172 (by decide) (by omega) (fun c_172 => ?_) (fun c_172 => ?_)
    · skip
      refine lv_ldc (v := (-1000004)) xE xB xO (xT _ kX6_count_c161) dX6_count_188 ?_
      exact xQ _ _ _ (by unfold coA; rw [if_neg (by decide), if_neg (by decide), if_neg (by decide), if_neg (by decide), if_neg (by decide), if_neg (by decide), if_neg (by decide), if_pos rfl]; first | (rw [if_pos (by omega)]) | (rw [if_neg (by omega)])) dX6_count_190
    · skip
      refine lv_aload_n xE xB dX6_count_175 rfl (lv_at xL 0 rfl) ?_
      refine va_get (D := G.1) (ci := 6) (v := .ref na.1) (C := RX6) (T := TX6) (N := 4) xE xB xT khX6_count_X6 xO xK.1 xP 0 rfl rfl 0 (by decide) (xT _ kX6_count_f10) (fun _ h9 => h9) rfl dX6_count_176 ?_
      refine va_get (D := G.1) (ci := 3) (v := .ref na.2.2.2.2.2.1) (C := RX3) (T := TX3) (N := 5) xE xB xT khX6_count_X3 xO xK.1 xP 1 rfl rfl 4 (by decide) (xT _ kX6_count_f52) (fun _ h9 => h9) rfl dX6_count_179 ?_
      refine va_get (D := G.1) (ci := 5) (v := .int (nI ta)) (C := RX5) (T := TX5) (N := 11) xE xB xT khX6_count_X5 xO xK.1 xP 10 rfl rfl 1 (by decide) (xT _ kX6_count_f158) (fun _ h9 => h9) rfl dX6_count_182 ?_
      refine lv_goto (tgt := 190) xE xB dX6_count_185 (by decide) ?_
      exact xQ _ _ _ (by unfold coA; rw [if_neg (by decide), if_neg (by decide), if_neg (by decide), if_neg (by decide), if_neg (by decide), if_neg (by decide), if_neg (by decide), if_pos rfl]; first | (rw [if_pos (by omega)]) | (rw [if_neg (by omega)])) dX6_count_190
  by_cases e_8 : v1 = nI 8
  · skip
    subst e_8
    refine lv_tableIn (off := 190) (tgt := 191) xE xB dX6_count_1 (by decide) (by decide) (by decide) (by decide) ?_
    refine lv_aload_n xE xB dX6_count_191 rfl (lv_at xL 0 rfl) ?_
    refine va_get (D := G.1) (ci := 6) (v := .ref na.1) (C := RX6) (T := TX6) (N := 4) xE xB xT khX6_count_X6 xO xK.1 xP 0 rfl rfl 0 (by decide) (xT _ kX6_count_f10) (fun _ h9 => h9) rfl dX6_count_192 ?_
    refine va_get (D := G.1) (ci := 3) (v := .ref na.2.2.2.2.2.1) (C := RX3) (T := TX3) (N := 5) xE xB xT khX6_count_X3 xO xK.1 xP 1 rfl rfl 4 (by decide) (xT _ kX6_count_f52) (fun _ h9 => h9) rfl dX6_count_195 ?_
    refine va_get (D := G.1) (ci := 5) (v := .int (nI b)) (C := RX5) (T := TX5) (N := 11) xE xB xT khX6_count_X5 xO xK.1 xP 10 rfl rfl 0 (by decide) (xT _ kX6_count_f56) (fun _ h9 => h9) rfl dX6_count_198 ?_
    refine q_if_eq (tgt := 217) xE xB dX6_count_201 (by decide) (by omega) (fun c_201 => ?_) (fun c_201 => ?_)
    · skip
      refine lv_ldc (v := (-1000004)) xE xB xO (xT _ kX6_count_c161) dX6_count_217 ?_
      exact xQ _ _ _ (by unfold coA; rw [if_neg (by decide), if_neg (by decide), if_neg (by decide), if_neg (by decide), if_neg (by decide), if_neg (by decide), if_neg (by decide), if_neg (by decide), if_pos rfl]; first | (rw [if_pos (by omega)]) | (rw [if_neg (by omega)])) dX6_count_219
    · skip
      refine lv_aload_n xE xB dX6_count_204 rfl (lv_at xL 0 rfl) ?_
      refine va_get (D := G.1) (ci := 6) (v := .ref na.1) (C := RX6) (T := TX6) (N := 4) xE xB xT khX6_count_X6 xO xK.1 xP 0 rfl rfl 0 (by decide) (xT _ kX6_count_f10) (fun _ h9 => h9) rfl dX6_count_205 ?_
      refine va_get (D := G.1) (ci := 3) (v := .ref na.2.2.2.2.2.1) (C := RX3) (T := TX3) (N := 5) xE xB xT khX6_count_X3 xO xK.1 xP 1 rfl rfl 4 (by decide) (xT _ kX6_count_f52) (fun _ h9 => h9) rfl dX6_count_208 ?_
      refine va_get (D := G.1) (ci := 5) (v := .int (nI tb)) (C := RX5) (T := TX5) (N := 11) xE xB xT khX6_count_X5 xO xK.1 xP 10 rfl rfl 2 (by decide) (xT _ kX6_count_f162) (fun _ h9 => h9) rfl dX6_count_211 ?_
      refine lv_goto (tgt := 219) xE xB dX6_count_214 (by decide) ?_
      exact xQ _ _ _ (by unfold coA; rw [if_neg (by decide), if_neg (by decide), if_neg (by decide), if_neg (by decide), if_neg (by decide), if_neg (by decide), if_neg (by decide), if_neg (by decide), if_pos rfl]; first | (rw [if_pos (by omega)]) | (rw [if_neg (by omega)])) dX6_count_219
  by_cases e_9 : v1 = nI 9
  · skip
    subst e_9
    refine lv_tableIn (off := 219) (tgt := 220) xE xB dX6_count_1 (by decide) (by decide) (by decide) (by decide) ?_
    refine lv_aload_n xE xB dX6_count_220 rfl (lv_at xL 0 rfl) ?_
    refine va_get (D := G.1) (ci := 6) (v := .ref na.1) (C := RX6) (T := TX6) (N := 4) xE xB xT khX6_count_X6 xO xK.1 xP 0 rfl rfl 0 (by decide) (xT _ kX6_count_f10) (fun _ h9 => h9) rfl dX6_count_221 ?_
    refine va_get (D := G.1) (ci := 3) (v := .ref na.2.2.2.2.2.1) (C := RX3) (T := TX3) (N := 5) xE xB xT khX6_count_X3 xO xK.1 xP 1 rfl rfl 4 (by decide) (xT _ kX6_count_f52) (fun _ h9 => h9) rfl dX6_count_224 ?_
    refine va_get (D := G.1) (ci := 5) (v := .int (nI b)) (C := RX5) (T := TX5) (N := 11) xE xB xT khX6_count_X5 xO xK.1 xP 10 rfl rfl 0 (by decide) (xT _ kX6_count_f56) (fun _ h9 => h9) rfl dX6_count_227 ?_
    refine q_if_eq (tgt := 246) xE xB dX6_count_230 (by decide) (by omega) (fun c_230 => ?_) (fun c_230 => ?_)
    · skip
      refine lv_ldc (v := (-1000004)) xE xB xO (xT _ kX6_count_c161) dX6_count_246 ?_
      exact xQ _ _ _ (by unfold coA; rw [if_neg (by decide), if_neg (by decide), if_neg (by decide), if_neg (by decide), if_neg (by decide), if_neg (by decide), if_neg (by decide), if_neg (by decide), if_neg (by decide), if_pos rfl]; first | (rw [if_pos (by omega)]) | (rw [if_neg (by omega)])) dX6_count_248
    · skip
      refine lv_aload_n xE xB dX6_count_233 rfl (lv_at xL 0 rfl) ?_
      refine va_get (D := G.1) (ci := 6) (v := .ref na.1) (C := RX6) (T := TX6) (N := 4) xE xB xT khX6_count_X6 xO xK.1 xP 0 rfl rfl 0 (by decide) (xT _ kX6_count_f10) (fun _ h9 => h9) rfl dX6_count_234 ?_
      refine va_get (D := G.1) (ci := 3) (v := .ref na.2.2.2.2.2.1) (C := RX3) (T := TX3) (N := 5) xE xB xT khX6_count_X3 xO xK.1 xP 1 rfl rfl 4 (by decide) (xT _ kX6_count_f52) (fun _ h9 => h9) rfl dX6_count_237 ?_
      refine va_get (D := G.1) (ci := 5) (v := .int (nI tt)) (C := RX5) (T := TX5) (N := 11) xE xB xT khX6_count_X5 xO xK.1 xP 10 rfl rfl 5 (by decide) (xT _ kX6_count_f165) (fun _ h9 => h9) rfl dX6_count_240 ?_
      refine lv_goto (tgt := 248) xE xB dX6_count_243 (by decide) ?_
      exact xQ _ _ _ (by unfold coA; rw [if_neg (by decide), if_neg (by decide), if_neg (by decide), if_neg (by decide), if_neg (by decide), if_neg (by decide), if_neg (by decide), if_neg (by decide), if_neg (by decide), if_pos rfl]; first | (rw [if_pos (by omega)]) | (rw [if_neg (by omega)])) dX6_count_248
  by_cases e_10 : v1 = nI 10
  · skip
    subst e_10
    refine lv_tableIn (off := 248) (tgt := 249) xE xB dX6_count_1 (by decide) (by decide) (by decide) (by decide) ?_
    refine lv_aload_n xE xB dX6_count_249 rfl (lv_at xL 0 rfl) ?_
    refine va_get (D := G.1) (ci := 6) (v := .ref na.1) (C := RX6) (T := TX6) (N := 4) xE xB xT khX6_count_X6 xO xK.1 xP 0 rfl rfl 0 (by decide) (xT _ kX6_count_f10) (fun _ h9 => h9) rfl dX6_count_250 ?_
    refine va_get (D := G.1) (ci := 3) (v := .ref na.2.2.2.2.2.1) (C := RX3) (T := TX3) (N := 5) xE xB xT khX6_count_X3 xO xK.1 xP 1 rfl rfl 4 (by decide) (xT _ kX6_count_f52) (fun _ h9 => h9) rfl dX6_count_253 ?_
    refine va_get (D := G.1) (ci := 5) (v := .int (nI b)) (C := RX5) (T := TX5) (N := 11) xE xB xT khX6_count_X5 xO xK.1 xP 10 rfl rfl 0 (by decide) (xT _ kX6_count_f56) (fun _ h9 => h9) rfl dX6_count_256 ?_
    refine q_if_eq (tgt := 275) xE xB dX6_count_259 (by decide) (by omega) (fun c_259 => ?_) (fun c_259 => ?_)
    · skip
      refine lv_ldc (v := (-1000004)) xE xB xO (xT _ kX6_count_c161) dX6_count_275 ?_
      exact xQ _ _ _ (by unfold coA; rw [if_neg (by decide), if_neg (by decide), if_neg (by decide), if_neg (by decide), if_neg (by decide), if_neg (by decide), if_neg (by decide), if_neg (by decide), if_neg (by decide), if_neg (by decide), if_pos rfl]; first | (rw [if_pos (by omega)]) | (rw [if_neg (by omega), ← htn])) dX6_count_277
    · skip
      have hb1' : b = 1 := by omega
      have hT0 := (hR.2.2.2.2.2.2 hb1').1
      have htn : tn = need lc n lr rc ta tb := hT0.2.2.2.2.2.2.2.1
      have htt : tt ≤ tn := hT0.2.2.2.2.2.2.2.2
      refine lv_aload_n xE xB dX6_count_262 rfl (lv_at xL 0 rfl) ?_
      refine va_get (D := G.1) (ci := 6) (v := .ref na.1) (C := RX6) (T := TX6) (N := 4) xE xB xT khX6_count_X6 xO xK.1 xP 0 rfl rfl 0 (by decide) (xT _ kX6_count_f10) (fun _ h9 => h9) rfl dX6_count_263 ?_
      refine va_get (D := G.1) (ci := 3) (v := .ref na.2.2.2.2.2.1) (C := RX3) (T := TX3) (N := 5) xE xB xT khX6_count_X3 xO xK.1 xP 1 rfl rfl 4 (by decide) (xT _ kX6_count_f52) (fun _ h9 => h9) rfl dX6_count_266 ?_
      refine q_VR (As := []) (rest := []) ⟨xE, xB, xM, xO, xT⟩ (kX5_ticksLeft l G na.2.2.2.2.2 b ta tb th tw tt tn sm0 mt rw dn (by omega)) (cwV 0 xT gX6_count_X5_ticksLeft rfl rfl rfl (by decide +kernel) ⟨Nat.le_of_ble_eq_true rfl, Nat.le_of_ble_eq_true rfl⟩) xK xP [10, 11, 12, 13, 14] rfl 0 rfl rfl rfl rfl xL.1 rfl (Nat.le_of_ble_eq_true rfl) dX6_count_269 ⟨Nat.le_refl _, Nat.le_refl _⟩ (fun r_269 h_269 => ?_)
      obtain rfl : r_269 = nI (tn - tt) := h_269
      refine lv_goto (tgt := 277) xE xB dX6_count_272 (by decide) ?_
      exact xQ _ _ _ (by unfold coA; rw [if_neg (by decide), if_neg (by decide), if_neg (by decide), if_neg (by decide), if_neg (by decide), if_neg (by decide), if_neg (by decide), if_neg (by decide), if_neg (by decide), if_neg (by decide), if_pos rfl]; first | (rw [if_pos (by omega)]) | (rw [if_neg (by omega), ← htn])) dX6_count_277
  by_cases e_11 : v1 = nI 11
  · skip
    subst e_11
    refine lv_tableIn (off := 277) (tgt := 278) xE xB dX6_count_1 (by decide) (by decide) (by decide) (by decide) ?_
    refine lv_aload_n xE xB dX6_count_278 rfl (lv_at xL 0 rfl) ?_
    refine va_get (D := G.1) (ci := 6) (v := .ref na.1) (C := RX6) (T := TX6) (N := 4) xE xB xT khX6_count_X6 xO xK.1 xP 0 rfl rfl 0 (by decide) (xT _ kX6_count_f10) (fun _ h9 => h9) rfl dX6_count_279 ?_
    refine q_VRL (As := []) (rest := []) ⟨xE, xB, xM, xO, xT⟩ (kX3_knownEntries l G na n o kf lr lc L rr rc R sr sc Z b ta tb th tw tt tn sm0 mt rw dn (by omega) (by omega)) (cwV 0 xT gX6_count_X3_knownEntries rfl rfl rfl (by decide +kernel) ⟨Nat.le_of_ble_eq_true rfl, Nat.le_of_ble_eq_true rfl⟩) xK xP [1] [0, 2, 3, 4] 5 rfl (by decide) (Lc := [wS G na ((n, o, kf), (lr, lc, L), (rr, rc, R), (sr, sc, Z), (b, ta, tb, th, tw, tt, tn, sm0, mt, rw, dn))]) rfl (by simp only [List.flatten_cons, List.flatten_nil, List.append_nil, List.append_assoc]) 0 rfl rfl rfl rfl xL.1 rfl (Nat.le_of_ble_eq_true rfl) dX6_count_282 ⟨Nat.le_refl _, Nat.le_refl _⟩ (fun r_282 h_282 => ?_)
    obtain rfl : r_282 = nI (ns (fun i => ns (fun j => if Z (6 * i + j) = NO then 0 else 1) sc) sr) := h_282
    exact xQ _ _ _ (by unfold coA; rw [if_neg (by decide), if_neg (by decide), if_neg (by decide), if_neg (by decide), if_neg (by decide), if_neg (by decide), if_neg (by decide), if_neg (by decide), if_neg (by decide), if_neg (by decide), if_neg (by decide), if_pos rfl]; rw [hd2, hd3]; exact congrArg nI (knL hR.2.2.2.2.1 hm2 hm6)) dX6_count_285
  by_cases e_12 : v1 = nI 12
  · skip
    subst e_12
    refine lv_tableIn (off := 285) (tgt := 286) xE xB dX6_count_1 (by decide) (by decide) (by decide) (by decide) ?_
    refine lv_aload_n xE xB dX6_count_286 rfl (lv_at xL 0 rfl) ?_
    refine va_get (D := G.1) (ci := 6) (v := .ref na.1) (C := RX6) (T := TX6) (N := 4) xE xB xT khX6_count_X6 xO xK.1 xP 0 rfl rfl 0 (by decide) (xT _ kX6_count_f10) (fun _ h9 => h9) rfl dX6_count_287 ?_
    refine q_VRL (As := []) (rest := []) ⟨xE, xB, xM, xO, xT⟩ (kX3_wrongEntries l G na n o kf lr lc L rr rc R sr sc Z b ta tb th tw tt tn sm0 mt rw dn (by omega) (by omega) (by omega) (by omega) (by omega) (by omega)) (cwV 0 xT gX6_count_X3_wrongEntries rfl rfl rfl (by decide +kernel) ⟨Nat.le_of_ble_eq_true rfl, Nat.le_of_ble_eq_true rfl⟩) xK xP [1] [0, 2, 3, 4] 5 rfl (by decide) (Lc := [wS G na ((n, o, kf), (lr, lc, L), (rr, rc, R), (sr, sc, Z), (b, ta, tb, th, tw, tt, tn, sm0, mt, rw, dn))]) rfl (by simp only [List.flatten_cons, List.flatten_nil, List.append_nil, List.append_assoc]) 0 rfl rfl rfl rfl xL.1 rfl (Nat.le_of_ble_eq_true rfl) dX6_count_290 ⟨Nat.le_refl _, Nat.le_refl _⟩ (fun r_290 h_290 => ?_)
    obtain rfl : r_290 = nI (ns (fun i => ns (fun j => if Z (6 * i + j) ≠ NO ∧ Z (6 * i + j) ≠ sm (fun q => L (6 * i + q) * R (6 * q + j)) lc then 1 else 0) sc) sr) := h_290
    exact xQ _ _ _ (by unfold coA; rw [if_neg (by decide), if_neg (by decide), if_neg (by decide), if_neg (by decide), if_neg (by decide), if_neg (by decide), if_neg (by decide), if_neg (by decide), if_neg (by decide), if_neg (by decide), if_neg (by decide), if_neg (by decide), if_pos rfl]; rw [hd2, hd3]; exact congrArg nI (wrL hR.2.2.1 hR.2.2.2.2.1)) dX6_count_293
  by_cases e_13 : v1 = nI 13
  · skip
    subst e_13
    refine lv_tableIn (off := 293) (tgt := 294) xE xB dX6_count_1 (by decide) (by decide) (by decide) (by decide) ?_
    refine lv_aload_n xE xB dX6_count_294 rfl (lv_at xL 0 rfl) ?_
    refine va_get (D := G.1) (ci := 6) (v := .ref na.1) (C := RX6) (T := TX6) (N := 4) xE xB xT khX6_count_X6 xO xK.1 xP 0 rfl rfl 0 (by decide) (xT _ kX6_count_f10) (fun _ h9 => h9) rfl dX6_count_295 ?_
    refine va_get (D := G.1) (ci := 3) (v := .ref na.2.1.1) (C := RX3) (T := TX3) (N := 5) xE xB xT khX6_count_X3 xO xK.1 xP 1 rfl rfl 0 (by decide) (xT _ kX6_count_f38) (fun _ h9 => h9) rfl dX6_count_298 ?_
    refine q_VR (As := []) (rest := []) ⟨xE, xB, xM, xO, xT⟩ (kX2_faultyCells l G na.2.1 n o kf (by omega)) (cwV 0 xT gX6_count_X2_faultyCells rfl rfl rfl (by decide +kernel) ⟨Nat.le_of_ble_eq_true rfl, Nat.le_of_ble_eq_true rfl⟩) xK xP [2, 3] rfl 0 rfl rfl rfl rfl xL.1 rfl (Nat.le_of_ble_eq_true rfl) dX6_count_301 ⟨Nat.le_refl _, Nat.le_refl _⟩ (fun r_301 h_301 => ?_)
    obtain rfl : r_301 = nI (ns (fun a => ns (fun b => if kf (5 * a + b) = 0 then 0 else 1) (n + 1)) n) := h_301
    exact xQ _ _ _ (by unfold coA; rw [if_neg (by decide), if_neg (by decide), if_neg (by decide), if_neg (by decide), if_neg (by decide), if_neg (by decide), if_neg (by decide), if_neg (by decide), if_neg (by decide), if_neg (by decide), if_neg (by decide), if_neg (by decide), if_neg (by decide), if_pos rfl]; exact congrArg nI (faL hR.1 hR.2.1)) dX6_count_304
  by_cases e_14 : v1 = nI 14
  · skip
    subst e_14
    refine lv_tableIn (off := 304) (tgt := 305) xE xB dX6_count_1 (by decide) (by decide) (by decide) (by decide) ?_
    refine lv_aload_n xE xB dX6_count_305 rfl (lv_at xL 0 rfl) ?_
    refine va_get (D := G.1) (ci := 6) (v := .ref h.1) (C := RX6) (T := TX6) (N := 4) xE xB xT khX6_count_X6 xO xK.1 xP 0 rfl rfl 2 (by decide) (xT _ kX6_count_f22) (fun _ h9 => h9) rfl dX6_count_306 ?_
    refine va_get (D := G.1) (ci := 0) (v := .int (nI hn)) (C := RX0) (T := TX0) (N := 2) xE xB xT khX6_count_X0 xO xK.1 xP 29 rfl rfl 1 (by decide) (xT _ kX6_count_f174) (fun _ h9 => h9) rfl dX6_count_309 ?_
    exact xQ _ _ _ (by unfold coA; rw [if_neg (by decide), if_neg (by decide), if_neg (by decide), if_neg (by decide), if_neg (by decide), if_neg (by decide), if_neg (by decide), if_neg (by decide), if_neg (by decide), if_neg (by decide), if_neg (by decide), if_neg (by decide), if_neg (by decide), if_neg (by decide), if_pos rfl]) dX6_count_312
  by_cases e_15 : v1 = nI 15
  · skip
    subst e_15
    refine lv_tableIn (off := 312) (tgt := 313) xE xB dX6_count_1 (by decide) (by decide) (by decide) (by decide) ?_
    refine lv_aload_n xE xB dX6_count_313 rfl (lv_at xL 0 rfl) ?_
    refine va_get (D := G.1) (ci := 6) (v := .ref k.1) (C := RX6) (T := TX6) (N := 4) xE xB xT khX6_count_X6 xO xK.1 xP 0 rfl rfl 3 (by decide) (xT _ kX6_count_f29) (fun _ h9 => h9) rfl dX6_count_314 ?_
    refine va_get (D := G.1) (ci := 4) (v := .int (nI w.1)) (C := RX4) (T := TX4) (N := 11) xE xB xT khX6_count_X4 xO xK.1 xP 87 rfl rfl 1 (by decide) (xT _ kX6_count_f177) (fun _ h9 => h9) rfl dX6_count_317 ?_
    exact xQ _ _ _ (by unfold coA; rw [if_neg (by decide), if_neg (by decide), if_neg (by decide), if_neg (by decide), if_neg (by decide), if_neg (by decide), if_neg (by decide), if_neg (by decide), if_neg (by decide), if_neg (by decide), if_neg (by decide), if_neg (by decide), if_neg (by decide), if_neg (by decide), if_neg (by decide), if_pos rfl]) dX6_count_320
  refine lv_tableOut (tgt := 321) xE xB dX6_count_1 (q_tab15 e_0 e_1 e_2 e_3 e_4 e_5 e_6 e_7 e_8 e_9 e_10 e_11 e_12 e_13 e_14 e_15) (by decide) ?_
  refine lv_ldc (v := (-1000001)) xE xB xO (xT _ kX6_count_c33) dX6_count_321 ?_
  exact xQ _ _ _ (by unfold coA; rw [if_neg e_0, if_neg e_1, if_neg e_2, if_neg e_3, if_neg e_4, if_neg e_5, if_neg e_6, if_neg e_7, if_neg e_8, if_neg e_9, if_neg e_10, if_neg e_11, if_neg e_12, if_neg e_13, if_neg e_14, if_neg e_15]) dX6_count_323
