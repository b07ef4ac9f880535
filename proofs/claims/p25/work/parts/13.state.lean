theorem kX3_forgetResults_c58 : Cond.constant RX3 58 (-999999999) ∈ wsX3_forgetResults := by decide +kernel
theorem kX3_forgetResults_f21 : Cond.fieldLink RX3 21 "SkewedSquare$State" "leftMatrix" "LSkewedSquare$Matrix;" ∈ wsX3_forgetResults := by decide +kernel
theorem kX3_forgetResults_f25 : Cond.fieldLink RX3 25 "SkewedSquare$State" "rightMatrix" "LSkewedSquare$Matrix;" ∈ wsX3_forgetResults := by decide +kernel
theorem kX3_forgetResults_f28 : Cond.fieldLink RX3 28 "SkewedSquare$State" "results" "LSkewedSquare$Matrix;" ∈ wsX3_forgetResults := by decide +kernel
theorem kX3_forgetResults_f51 : Cond.fieldLink RX3 51 "SkewedSquare$Matrix" "rows" "I" ∈ wsX3_forgetResults := by decide +kernel
theorem kX3_forgetResults_f55 : Cond.fieldLink RX3 55 "SkewedSquare$Matrix" "columns" "I" ∈ wsX3_forgetResults := by decide +kernel
theorem khX3_forgetResults_X1 : ∀ w ∈ u_ws RX1 TX1 3, w ∈ wsX3_forgetResults := by decide +kernel
theorem khX3_forgetResults_X3 : ∀ w ∈ u_ws RX3 TX3 5, w ∈ wsX3_forgetResults := by decide +kernel
set_option maxHeartbeats 4000000 in
set_option maxRecDepth 100000 in
/-- kX3_forgetResults -/
theorem kX3_forgetResults (l : Launch) (G : wG) (a : SA) (n o : Nat) (kf : wF) (lr lc : Nat) (L : wF) (rr rc : Nat) (R : wF) (sr sc : Nat) (Z : wF) (b ta tb th tw tt tn : Nat) (sm0 mt rw dn : wF) (hr : 1 ≤ lr ∧ lr ≤ 6) (hk : 1 ≤ lc ∧ lc ≤ 6) (hc : 1 ≤ rc ∧ rc ≤ 6) : CV (S := Unit) l yX3_forgetResults wsX3_forgetResults (rm 2 46) G [.ref a.1] (wS G a ((n, o, kf), (lr, lc, L), (rr, rc, R), (sr, sc, Z), (b, ta, tb, th, tw, tt, tn, sm0, mt, rw, dn))) (fun u9 => True) (fun u9 => wS G a ((n, o, kf), (lr, lc, L), (rr, rc, R), (lr, rc, fillF 36 NO Z), (b, ta, tb, th, tw, tt, tn, sm0, mt, rw, dn))) := by
  refine CV.of (own := RX3) rfl (by decide) rfl (Nat.le_of_ble_eq_true rfl) ?_
  intro p9 e9 s9 m9 b9 t9 c9 A xE xB xM xO xT xK xP xD Q xQ xS ls hl
  have xL : lv_has ls 1 [(0, .ref a.1)] := hl
  refine lv_aload_n xE xB dX3_forgetResults_0 rfl (lv_at xL 0 rfl) ?_
  refine va_get (D := G.1) (ci := 3) (v := .ref a.2.2.2.2.1.1) (C := RX3) (T := TX3) (N := 5) xE xB xT khX3_forgetResults_X3 xO xK.1 xP 0 rfl rfl 3 (by decide) (xT _ kX3_forgetResults_f28) (fun _ h9 => h9) rfl dX3_forgetResults_1 ?_
  refine lv_aload_n xE xB dX3_forgetResults_4 rfl (lv_at xL 0 rfl) ?_
  refine va_get (D := G.1) (ci := 3) (v := .ref a.2.2.1.1) (C := RX3) (T := TX3) (N := 5) xE xB xT khX3_forgetResults_X3 xO xK.1 xP 0 rfl rfl 1 (by decide) (xT _ kX3_forgetResults_f21) (fun _ h9 => h9) rfl dX3_forgetResults_5 ?_
  refine va_get (D := G.1) (ci := 1) (v := .int (nI lr)) (C := RX1) (T := TX1) (N := 3) xE xB xT khX3_forgetResults_X1 xO xK.1 xP 3 rfl rfl 0 (by decide) (xT _ kX3_forgetResults_f51) (fun _ h9 => h9) rfl dX3_forgetResults_8 ?_
  refine lv_aload_n xE xB dX3_forgetResults_11 rfl (lv_at xL 0 rfl) ?_
  refine va_get (D := G.1) (ci := 3) (v := .ref a.2.2.2.1.1) (C := RX3) (T := TX3) (N := 5) xE xB xT khX3_forgetResults_X3 xO xK.1 xP 0 rfl rfl 2 (by decide) (xT _ kX3_forgetResults_f25) (fun _ h9 => h9) rfl dX3_forgetResults_12 ?_
  refine va_get (D := G.1) (ci := 1) (v := .int (nI rc)) (C := RX1) (T := TX1) (N := 3) xE xB xT khX3_forgetResults_X1 xO xK.1 xP 5 rfl rfl 1 (by decide) (xT _ kX3_forgetResults_f55) (fun _ h9 => h9) rfl dX3_forgetResults_15 ?_
  refine lv_ldc (v := (-999999999)) xE xB xO (xT _ kX3_forgetResults_c58) dX3_forgetResults_18 ?_
  refine q_VV (As := [.int (nI lr), .int (nI rc), .int (-999999999)]) (rest := []) ⟨xE, xB, xM, xO, xT⟩ (kX1_renew l G a.2.2.2.2.1 sr sc Z lr rc (-999999999) (by omega) (by omega) (by omega) (by omega)) (cwV 3 xT gX3_forgetResults_X1_renew rfl rfl rfl (by decide +kernel) ⟨Nat.le_of_ble_eq_true rfl, Nat.le_of_ble_eq_true rfl⟩) xK xP xD xS [7, 8] rfl (by decide +kernel) (fun _ => rfl) 0 rfl rfl rfl rfl xL.1 rfl (Nat.le_of_ble_eq_true rfl) dX3_forgetResults_20 ⟨Nat.le_refl _, Nat.le_refl _⟩ (fun u_20 H locs h_20 xP xD xS => ?_)
  have xP : va_P G.1 vwCl (wS G a ((n, o, kf), (lr, lc, L), (rr, rc, R), (lr, rc, fillF 36 (-999999999) Z), (b, ta, tb, th, tw, tt, tn, sm0, mt, rw, dn))) H := xP
  have xD : va_D A (wS G a ((n, o, kf), (lr, lc, L), (rr, rc, R), (lr, rc, fillF 36 (-999999999) Z), (b, ta, tb, th, tw, tt, tn, sm0, mt, rw, dn))) := xD
  exact xQ _ _ _ _ () trivial xP xD xS dX3_forgetResults_23
theorem kX3_copyFrom_f12 : Cond.fieldLink RX3 12 "SkewedSquare$State" "square" "LSkewedSquare$Square;" ∈ wsX3_copyFrom := by decide +kernel
theorem kX3_copyFrom_f21 : Cond.fieldLink RX3 21 "SkewedSquare$State" "leftMatrix" "LSkewedSquare$Matrix;" ∈ wsX3_copyFrom := by decide +kernel
theorem kX3_copyFrom_f25 : Cond.fieldLink RX3 25 "SkewedSquare$State" "rightMatrix" "LSkewedSquare$Matrix;" ∈ wsX3_copyFrom := by decide +kernel
theorem kX3_copyFrom_f28 : Cond.fieldLink RX3 28 "SkewedSquare$State" "results" "LSkewedSquare$Matrix;" ∈ wsX3_copyFrom := by decide +kernel
theorem kX3_copyFrom_f34 : Cond.fieldLink RX3 34 "SkewedSquare$State" "tile" "LSkewedSquare$Tile;" ∈ wsX3_copyFrom := by decide +kernel
theorem khX3_copyFrom_X3 : ∀ w ∈ u_ws RX3 TX3 5, w ∈ wsX3_copyFrom := by decide +kernel
set_option maxHeartbeats 4000000 in
set_option maxRecDepth 100000 in
/-- kX3_copyFrom -/
theorem kX3_copyFrom (l : Launch) (G : wG) (a : SA) (n o : Nat) (kf : wF) (lr lc : Nat) (L : wF) (rr rc : Nat) (R : wF) (sr sc : Nat) (Z : wF) (b ta tb th tw tt tn : Nat) (sm0 mt rw dn : wF) (a2 : SA) (n2 o2 : Nat) (kf2 : wF) (lr2 lc2 : Nat) (L2 : wF) (rr2 rc2 : Nat) (R2 : wF) (sr2 sc2 : Nat) (Z2 : wF) (b2 ta2 tb2 th2 tw2 tt2 tn2 : Nat) (sm2 mt2 rw2 dn2 : wF) (hb2 : b2 = 0 ∨ b2 = 1) : CV (S := Unit) l yX3_copyFrom wsX3_copyFrom (rm 2 39) G [.ref a.1, .ref a2.1] ((wS G a ((n, o, kf), (lr, lc, L), (rr, rc, R), (sr, sc, Z), (b, ta, tb, th, tw, tt, tn, sm0, mt, rw, dn))) ++ (wS G a2 ((n2, o2, kf2), (lr2, lc2, L2), (rr2, rc2, R2), (sr2, sc2, Z2), (b2, ta2, tb2, th2, tw2, tt2, tn2, sm2, mt2, rw2, dn2)))) (fun u9 => True) (fun u9 => (wS G a ((n2, o2, va_cpy kf2 kf 0 0 20), (lr2, lc2, va_cpy L2 L 0 0 36), (rr2, rc2, va_cpy R2 R 0 0 36), (sr2, sc2, va_cpy Z2 Z 0 0 36), (b2, ta2, tb2, th2, tw2, tt2, tn2, va_cpy sm2 sm0 0 0 16, va_cpy mt2 mt 0 0 16, va_cpy rw2 rw 0 0 16, va_cpy dn2 dn 0 0 16))) ++ (wS G a2 ((n2, o2, kf2), (lr2, lc2, L2), (rr2, rc2, R2), (sr2, sc2, Z2), (b2, ta2, tb2, th2, tw2, tt2, tn2, sm2, mt2, rw2, dn2)))) := by
  refine CV.of (own := RX3) rfl (by decide) rfl (Nat.le_of_ble_eq_true rfl) ?_
  intro p9 e9 s9 m9 b9 t9 c9 A xE xB xM xO xT xK xP xD Q xQ xS ls hl
  have xL : lv_has ls 2 [(0, .ref a.1), (1, .ref a2.1)] := hl
  refine lv_aload_n xE xB dX3_copyFrom_0 rfl (lv_at xL 0 rfl) ?_
  refine va_get (D := G.1) (ci := 3) (v := .ref a.2.1.1) (C := RX3) (T := TX3) (N := 5) xE xB xT khX3_copyFrom_X3 xO xK.1 xP 0 rfl rfl 0 (by decide) (xT _ kX3_copyFrom_f12) (fun _ h9 => h9) rfl dX3_copyFrom_1 ?_
  refine lv_aload_n xE xB dX3_copyFrom_4 rfl (lv_at xL 1 rfl) ?_
  refine va_get (D := G.1) (ci := 3) (v := .ref a2.2.1.1) (C := RX3) (T := TX3) (N := 5) xE xB xT khX3_copyFrom_X3 xO xK.1 xP 14 rfl rfl 0 (by decide) (xT _ kX3_copyFrom_f12) (fun _ h9 => h9) rfl dX3_copyFrom_5 ?_
  refine q_VV (As := [.ref a2.2.1.1]) (rest := []) ⟨xE, xB, xM, xO, xT⟩ (kX2_copyFrom l G a.2.1 a2.2.1 n o n2 o2 kf kf2) (cwV 1 xT gX3_copyFrom_X2_copyFrom rfl rfl rfl (by decide +kernel) ⟨Nat.le_of_ble_eq_true rfl, Nat.le_of_ble_eq_true rfl⟩) xK xP xD xS [1, 2, 15, 16] rfl (by decide +kernel) (fun _ => rfl) 0 rfl rfl rfl rfl xL.1 rfl (Nat.le_of_ble_eq_true rfl) dX3_copyFrom_8 ⟨Nat.le_refl _, Nat.le_refl _⟩ (fun u_8 H locs h_8 xP xD xS => ?_)
  have xP : va_P G.1 vwCl ((wS G a ((n2, o2, va_cpy kf2 kf 0 0 20), (lr, lc, L), (rr, rc, R), (sr, sc, Z), (b, ta, tb, th, tw, tt, tn, sm0, mt, rw, dn))) ++ (wS G a2 ((n2, o2, kf2), (lr2, lc2, L2), (rr2, rc2, R2), (sr2, sc2, Z2), (b2, ta2, tb2, th2, tw2, tt2, tn2, sm2, mt2, rw2, dn2)))) H := xP
  have xD : va_D A ((wS G a ((n2, o2, va_cpy kf2 kf 0 0 20), (lr, lc, L), (rr, rc, R), (sr, sc, Z), (b, ta, tb, th, tw, tt, tn, sm0, mt, rw, dn))) ++ (wS G a2 ((n2, o2, kf2), (lr2, lc2, L2), (rr2, rc2, R2), (sr2, sc2, Z2), (b2, ta2, tb2, th2, tw2, tt2, tn2, sm2, mt2, rw2, dn2)))) := xD
  refine lv_aload_n xE xB dX3_copyFrom_11 rfl (lv_at xL 0 rfl) ?_
  refine va_get (D := G.1) (ci := 3) (v := .ref a.2.2.1.1) (C := RX3) (T := TX3) (N := 5) xE xB xT khX3_copyFrom_X3 xO xK.1 xP 0 rfl rfl 1 (by decide) (xT _ kX3_copyFrom_f21) (fun _ h9 => h9) rfl dX3_copyFrom_12 ?_
  refine lv_aload_n xE xB dX3_copyFrom_15 rfl (lv_at xL 1 rfl) ?_
  refine va_get (D := G.1) (ci := 3) (v := .ref a2.2.2.1.1) (C := RX3) (T := TX3) (N := 5) xE xB xT khX3_copyFrom_X3 xO xK.1 xP 14 rfl rfl 1 (by decide) (xT _ kX3_copyFrom_f21) (fun _ h9 => h9) rfl dX3_copyFrom_16 ?_
  refine q_VV (As := [.ref a2.2.2.1.1]) (rest := []) ⟨xE, xB, xM, xO, xT⟩ (kX1_copyFrom l G a.2.2.1 a2.2.2.1 lr lc lr2 lc2 L L2) (cwV 1 xT gX3_copyFrom_X1_copyFrom rfl rfl rfl (by decide +kernel) ⟨Nat.le_of_ble_eq_true rfl, Nat.le_of_ble_eq_true rfl⟩) xK xP xD xS [3, 4, 17, 18] rfl (by decide +kernel) (fun _ => rfl) 0 rfl rfl rfl rfl xL.1 rfl (Nat.le_of_ble_eq_true rfl) dX3_copyFrom_19 ⟨Nat.le_refl _, Nat.le_refl _⟩ (fun u_19 H locs h_19 xP xD xS => ?_)
  have xP : va_P G.1 vwCl ((wS G a ((n2, o2, va_cpy kf2 kf 0 0 20), (lr2, lc2, va_cpy L2 L 0 0 36), (rr, rc, R), (sr, sc, Z), (b, ta, tb, th, tw, tt, tn, sm0, mt, rw, dn))) ++ (wS G a2 ((n2, o2, kf2), (lr2, lc2, L2), (rr2, rc2, R2), (sr2, sc2, Z2), (b2, ta2, tb2, th2, tw2, tt2, tn2, sm2, mt2, rw2, dn2)))) H := xP
  have xD : va_D A ((wS G a ((n2, o2, va_cpy kf2 kf 0 0 20), (lr2, lc2, va_cpy L2 L 0 0 36), (rr, rc, R), (sr, sc, Z), (b, ta, tb, th, tw, tt, tn, sm0, mt, rw, dn))) ++ (wS G a2 ((n2, o2, kf2), (lr2, lc2, L2), (rr2, rc2, R2), (sr2, sc2, Z2), (b2, ta2, tb2, th2, tw2, tt2, tn2, sm2, mt2, rw2, dn2)))) := xD
  refine lv_aload_n xE xB dX3_copyFrom_22 rfl (lv_at xL 0 rfl) ?_
  refine va_get (D := G.1) (ci := 3) (v := .ref a.2.2.2.1.1) (C := RX3) (T := TX3) (N := 5) xE xB xT khX3_copyFrom_X3 xO xK.1 xP 0 rfl rfl 2 (by decide) (xT _ kX3_copyFrom_f25) (fun _ h9 => h9) rfl dX3_copyFrom_23 ?_
  refine lv_aload_n xE xB dX3_copyFrom_26 rfl (lv_at xL 1 rfl) ?_
  refine va_get (D := G.1) (ci := 3) (v := .ref a2.2.2.2.1.1) (C := RX3) (T := TX3) (N := 5) xE xB xT khX3_copyFrom_X3 xO xK.1 xP 14 rfl rfl 2 (by decide) (xT _ kX3_copyFrom_f25) (fun _ h9 => h9) rfl dX3_copyFrom_27 ?_
  refine q_VV (As := [.ref a2.2.2.2.1.1]) (rest := []) ⟨xE, xB, xM, xO, xT⟩ (kX1_copyFrom l G a.2.2.2.1 a2.2.2.2.1 rr rc rr2 rc2 R R2) (cwV 1 xT gX3_copyFrom_X1_copyFrom rfl rfl rfl (by decide +kernel) ⟨Nat.le_of_ble_eq_true rfl, Nat.le_of_ble_eq_true rfl⟩) xK xP xD xS [5, 6, 19, 20] rfl (by decide +kernel) (fun _ => rfl) 0 rfl rfl rfl rfl xL.1 rfl (Nat.le_of_ble_eq_true rfl) dX3_copyFrom_30 ⟨Nat.le_refl _, Nat.le_refl _⟩ (fun u_30 H locs h_30 xP xD xS => ?_)
  have xP : va_P G.1 vwCl ((wS G a ((n2, o2, va_cpy kf2 kf 0 0 20), (lr2, lc2, va_cpy L2 L 0 0 36), (rr2, rc2, va_cpy R2 R 0 0 36), (sr, sc, Z), (b, ta, tb, th, tw, tt, tn, sm0, mt, rw, dn))) ++ (wS G a2 ((n2, o2, kf2), (lr2, lc2, L2), (rr2, rc2, R2), (sr2, sc2, Z2), (b2, ta2, tb2, th2, tw2, tt2, tn2, sm2, mt2, rw2, dn2)))) H := xP
  have xD : va_D A ((wS G a ((n2, o2, va_cpy kf2 kf 0 0 20), (lr2, lc2, va_cpy L2 L 0 0 36), (rr2, rc2, va_cpy R2 R 0 0 36), (sr, sc, Z), (b, ta, tb, th, tw, tt, tn, sm0, mt, rw, dn))) ++ (wS G a2 ((n2, o2, kf2), (lr2, lc2, L2), (rr2, rc2, R2), (sr2, sc2, Z2), (b2, ta2, tb2, th2, tw2, tt2, tn2, sm2, mt2, rw2, dn2)))) := xD
  refine lv_aload_n xE xB dX3_copyFrom_33 rfl (lv_at xL 0 rfl) ?_
  refine va_get (D := G.1) (ci := 3) (v := .ref a.2.2.2.2.1.1) (C := RX3) (T := TX3) (N := 5) xE xB xT khX3_copyFrom_X3 xO xK.1 xP 0 rfl rfl 3 (by decide) (xT _ kX3_copyFrom_f28) (fun _ h9 => h9) rfl dX3_copyFrom_34 ?_
  refine lv_aload_n xE xB dX3_copyFrom_37 rfl (lv_at xL 1 rfl) ?_
  refine va_get (D := G.1) (ci := 3) (v := .ref a2.2.2.2.2.1.1) (C := RX3) (T := TX3) (N := 5) xE xB xT khX3_copyFrom_X3 xO xK.1 xP 14 rfl rfl 3 (by decide) (xT _ kX3_copyFrom_f28) (fun _ h9 => h9) rfl dX3_copyFrom_38 ?_
  refine q_VV (As := [.ref a2.2.2.2.2.1.1]) (rest := []) ⟨xE, xB, xM, xO, xT⟩ (kX1_copyFrom l G a.2.2.2.2.1 a2.2.2.2.2.1 sr sc sr2 sc2 Z Z2) (cwV 1 xT gX3_copyFrom_X1_copyFrom rfl rfl rfl (by decide +kernel) ⟨Nat.le_of_ble_eq_true rfl, Nat.le_of_ble_eq_true rfl⟩) xK xP xD xS [7, 8, 21, 22] rfl (by decide +kernel) (fun _ => rfl) 0 rfl rfl rfl rfl xL.1 rfl (Nat.le_of_ble_eq_true rfl) dX3_copyFrom_41 ⟨Nat.le_refl _, Nat.le_refl _⟩ (fun u_41 H locs h_41 xP xD xS => ?_)
  have xP : va_P G.1 vwCl ((wS G a ((n2, o2, va_cpy kf2 kf 0 0 20), (lr2, lc2, va_cpy L2 L 0 0 36), (rr2, rc2, va_cpy R2 R 0 0 36), (sr2, sc2, va_cpy Z2 Z 0 0 36), (b, ta, tb, th, tw, tt, tn, sm0, mt, rw, dn))) ++ (wS G a2 ((n2, o2, kf2), (lr2, lc2, L2), (rr2, rc2, R2), (sr2, sc2, Z2), (b2, ta2, tb2, th2, tw2, tt2, tn2, sm2, mt2, rw2, dn2)))) H := xP
  have xD : va_D A ((wS G a ((n2, o2, va_cpy kf2 kf 0 0 20), (lr2, lc2, va_cpy L2 L 0 0 36), (rr2, rc2, va_cpy R2 R 0 0 36), (sr2, sc2, va_cpy Z2 Z 0 0 36), (b, ta, tb, th, tw, tt, tn, sm0, mt, rw, dn))) ++ (wS G a2 ((n2, o2, kf2), (lr2, lc2, L2), (rr2, rc2, R2), (sr2, sc2, Z2), (b2, ta2, tb2, th2, tw2, tt2, tn2, sm2, mt2, rw2, dn2)))) := xD
  refine lv_aload_n xE xB dX3_copyFrom_44 rfl (lv_at xL 0 rfl) ?_
  refine va_get (D := G.1) (ci := 3) (v := .ref a.2.2.2.2.2.1) (C := RX3) (T := TX3) (N := 5) xE xB xT khX3_copyFrom_X3 xO xK.1 xP 0 rfl rfl 4 (by decide) (xT _ kX3_copyFrom_f34) (fun _ h9 => h9) rfl dX3_copyFrom_45 ?_
  refine lv_aload_n xE xB dX3_copyFrom_48 rfl (lv_at xL 1 rfl) ?_
  refine va_get (D := G.1) (ci := 3) (v := .ref a2.2.2.2.2.2.1) (C := RX3) (T := TX3) (N := 5) xE xB xT khX3_copyFrom_X3 xO xK.1 xP 14 rfl rfl 4 (by decide) (xT _ kX3_copyFrom_f34) (fun _ h9 => h9) rfl dX3_copyFrom_49 ?_
  refine q_VV (As := [.ref a2.2.2.2.2.2.1]) (rest := []) ⟨xE, xB, xM, xO, xT⟩ (kX5_copyFrom l G a.2.2.2.2.2 a2.2.2.2.2.2 b ta tb th tw tt tn sm0 mt rw dn b2 ta2 tb2 th2 tw2 tt2 tn2 sm2 mt2 rw2 dn2 (by exact hb2)) (cwV 1 xT gX3_copyFrom_X5_copyFrom rfl rfl rfl (by decide +kernel) ⟨Nat.le_of_ble_eq_true rfl, Nat.le_of_ble_eq_true rfl⟩) xK xP xD xS [9, 10, 11, 12, 13, 23, 24, 25, 26, 27] rfl (by decide +kernel) (fun _ => rfl) 0 rfl rfl rfl rfl xL.1 rfl (Nat.le_of_ble_eq_true rfl) dX3_copyFrom_52 ⟨Nat.le_refl _, Nat.le_refl _⟩ (fun u_52 H locs h_52 xP xD xS => ?_)
  have xP : va_P G.1 vwCl ((wS G a ((n2, o2, va_cpy kf2 kf 0 0 20), (lr2, lc2, va_cpy L2 L 0 0 36), (rr2, rc2, va_cpy R2 R 0 0 36), (sr2, sc2, va_cpy Z2 Z 0 0 36), (b2, ta2, tb2, th2, tw2, tt2, tn2, va_cpy sm2 sm0 0 0 16, va_cpy mt2 mt 0 0 16, va_cpy rw2 rw 0 0 16, va_cpy dn2 dn 0 0 16))) ++ (wS G a2 ((n2, o2, kf2), (lr2, lc2, L2), (rr2, rc2, R2), (sr2, sc2, Z2), (b2, ta2, tb2, th2, tw2, tt2, tn2, sm2, mt2, rw2, dn2)))) H := xP
  have xD : va_D A ((wS G a ((n2, o2, va_cpy kf2 kf 0 0 20), (lr2, lc2, va_cpy L2 L 0 0 36), (rr2, rc2, va_cpy R2 R 0 0 36), (sr2, sc2, va_cpy Z2 Z 0 0 36), (b2, ta2, tb2, th2, tw2, tt2, tn2, va_cpy sm2 sm0 0 0 16, va_cpy mt2 mt 0 0 16, va_cpy rw2 rw 0 0 16, va_cpy dn2 dn 0 0 16))) ++ (wS G a2 ((n2, o2, kf2), (lr2, lc2, L2), (rr2, rc2, R2), (sr2, sc2, Z2), (b2, ta2, tb2, th2, tw2, tt2, tn2, sm2, mt2, rw2, dn2)))) := xD
  exact xQ _ _ _ _ () trivial xP xD xS dX3_copyFrom_55
theorem kX3_takeLeft_f21 : Cond.fieldLink RX3 21 "SkewedSquare$State" "leftMatrix" "LSkewedSquare$Matrix;" ∈ wsX3_takeLeft := by decide +kernel
theorem kX3_takeLeft_f25 : Cond.fieldLink RX3 25 "SkewedSquare$State" "rightMatrix" "LSkewedSquare$Matrix;" ∈ wsX3_takeLeft := by decide +kernel
theorem kX3_takeLeft_f51 : Cond.fieldLink RX3 51 "SkewedSquare$Matrix" "rows" "I" ∈ wsX3_takeLeft := by decide +kernel
theorem kX3_takeLeft_f55 : Cond.fieldLink RX3 55 "SkewedSquare$Matrix" "columns" "I" ∈ wsX3_takeLeft := by decide +kernel
theorem khX3_takeLeft_X1 : ∀ w ∈ u_ws RX1 TX1 3, w ∈ wsX3_takeLeft := by decide +kernel
theorem khX3_takeLeft_X3 : ∀ w ∈ u_ws RX3 TX3 5, w ∈ wsX3_takeLeft := by decide +kernel
set_option maxHeartbeats 4000000 in
set_option maxRecDepth 100000 in
/-- kX3_takeLeft -/
theorem kX3_takeLeft (l : Launch) (G : wG) (a : SA) (n o : Nat) (kf : wF) (lr lc : Nat) (L : wF) (rr rc : Nat) (R : wF) (sr sc : Nat) (Z : wF) (b ta tb th tw tt tn : Nat) (sm0 mt rw dn : wF) (m : MA) (mr mc : Nat) (f : wF) (hr : 1 ≤ lr ∧ lr ≤ 6) (hk : 1 ≤ lc ∧ lc ≤ 6) (hc : 1 ≤ rc ∧ rc ≤ 6) (h1 : 1 ≤ mr ∧ mr ≤ 6) (h2 : 1 ≤ mc ∧ mc ≤ 6) (h3 : rr ≤ 6) : CV (S := Unit) l yX3_takeLeft wsX3_takeLeft (rm 3 66) G [.ref a.1, .ref m.1] ((wS G a ((n, o, kf), (lr, lc, L), (rr, rc, R), (sr, sc, Z), (b, ta, tb, th, tw, tt, tn, sm0, mt, rw, dn))) ++ (wM G m (mr, mc, f))) (fun u9 => True) (fun u9 => (wS G a ((n, o, kf), (mr, mc, va_cpy f L 0 0 36), (mc, rc, if rr = mc then R else fillF 36 (nI 0) R), (mr, rc, fillF 36 NO Z), (b, ta, tb, th, tw, tt, tn, sm0, mt, rw, dn))) ++ (wM G m (mr, mc, f))) := by
  refine CV.of (own := RX3) rfl (by decide) rfl (Nat.le_of_ble_eq_true rfl) ?_
  intro p9 e9 s9 m9 b9 t9 c9 A xE xB xM xO xT xK xP xD Q xQ xS ls hl
  have xL : lv_has ls 2 [(0, .ref a.1), (1, .ref m.1)] := hl
  refine lv_aload_n xE xB dX3_takeLeft_0 rfl (lv_at xL 0 rfl) ?_
  refine va_get (D := G.1) (ci := 3) (v := .ref a.2.2.1.1) (C := RX3) (T := TX3) (N := 5) xE xB xT khX3_takeLeft_X3 xO xK.1 xP 0 rfl rfl 1 (by decide) (xT _ kX3_takeLeft_f21) (fun _ h9 => h9) rfl dX3_takeLeft_1 ?_
  refine lv_aload_n xE xB dX3_takeLeft_4 rfl (lv_at xL 1 rfl) ?_
  refine q_VV (As := [.ref m.1]) (rest := []) ⟨xE, xB, xM, xO, xT⟩ (kX1_copyFrom l G a.2.2.1 m lr lc mr mc L f) (cwV 1 xT gX3_takeLeft_X1_copyFrom rfl rfl rfl (by decide +kernel) ⟨Nat.le_of_ble_eq_true rfl, Nat.le_of_ble_eq_true rfl⟩) xK xP xD xS [3, 4, 14, 15] rfl (by decide +kernel) (fun _ => rfl) 0 rfl rfl rfl rfl xL.1 rfl (Nat.le_of_ble_eq_true rfl) dX3_takeLeft_5 ⟨Nat.le_refl _, Nat.le_refl _⟩ (fun u_5 H locs h_5 xP xD xS => ?_)
  have xP : va_P G.1 vwCl ((wS G a ((n, o, kf), (mr, mc, va_cpy f L 0 0 36), (rr, rc, R), (sr, sc, Z), (b, ta, tb, th, tw, tt, tn, sm0, mt, rw, dn))) ++ (wM G m (mr, mc, f))) H := xP
  have xD : va_D A ((wS G a ((n, o, kf), (mr, mc, va_cpy f L 0 0 36), (rr, rc, R), (sr, sc, Z), (b, ta, tb, th, tw, tt, tn, sm0, mt, rw, dn))) ++ (wM G m (mr, mc, f))) := xD
  have J_41 : ∀ (g : wF), (g = if rr = mc then R else fillF 36 (nI 0) R) → ∀ (H : Heap) (locs : List Loc), va_P G.1 vwCl ((wS G a ((n, o, kf), (mr, mc, va_cpy f L 0 0 36), (mc, rc, g), (sr, sc, Z), (b, ta, tb, th, tw, tt, tn, sm0, mt, rw, dn))) ++ (wM G m (mr, mc, f))) H → va_D A ((wS G a ((n, o, kf), (mr, mc, va_cpy f L 0 0 36), (mc, rc, g), (sr, sc, Z), (b, ta, tb, th, tw, tt, tn, sm0, mt, rw, dn))) ++ (wM G m (mr, mc, f))) → va_S A s9.heap H locs → ∀ (ls : Array Slot), lv_has ls 2 [(0, .ref a.1), (1, .ref m.1)] → W p9 l e9 (rm 3 66) s9 m9 ([.ref a.1, .ref m.1] : List Value).toArray b9 t9 c9 H locs 0 0 Q (F0 m9 41 ls []) := by
    intro g hg H locs xP xD xS ls xL
    refine lv_aload_n xE xB dX3_takeLeft_41 rfl (lv_at xL 0 rfl) ?_
    refine q_VV (As := []) (rest := []) ⟨xE, xB, xM, xO, xT⟩ (kX3_forgetResults l G a n o kf mr mc (va_cpy f L 0 0 36) mc rc g sr sc Z b ta tb th tw tt tn sm0 mt rw dn (by omega) (by omega) (by omega)) (cwV 0 xT gX3_takeLeft_X3_forgetResults rfl rfl rfl (by decide +kernel) ⟨Nat.le_of_ble_eq_true rfl, Nat.le_of_ble_eq_true rfl⟩) xK xP xD xS [0, 1, 2, 3, 4, 5, 6, 7, 8, 9, 10, 11, 12, 13] rfl (by decide +kernel) (fun _ => rfl) 0 rfl rfl rfl rfl xL.1 rfl (Nat.le_of_ble_eq_true rfl) dX3_takeLeft_42 ⟨Nat.le_refl _, Nat.le_refl _⟩ (fun u_42 H locs h_42 xP xD xS => ?_)
    have xP : va_P G.1 vwCl ((wS G a ((n, o, kf), (mr, mc, va_cpy f L 0 0 36), (mc, rc, g), (mr, rc, fillF 36 NO Z), (b, ta, tb, th, tw, tt, tn, sm0, mt, rw, dn))) ++ (wM G m (mr, mc, f))) H := xP
    have xD : va_D A ((wS G a ((n, o, kf), (mr, mc, va_cpy f L 0 0 36), (mc, rc, g), (mr, rc, fillF 36 NO Z), (b, ta, tb, th, tw, tt, tn, sm0, mt, rw, dn))) ++ (wM G m (mr, mc, f))) := xD
    subst hg
    exact xQ _ _ _ _ () trivial xP xD xS dX3_takeLeft_45
  refine lv_aload_n xE xB dX3_takeLeft_8 rfl (lv_at xL 0 rfl) ?_
  refine va_get (D := G.1) (ci := 3) (v := .ref a.2.2.2.1.1) (C := RX3) (T := TX3) (N := 5) xE xB xT khX3_takeLeft_X3 xO xK.1 xP 0 rfl rfl 2 (by decide) (xT _ kX3_takeLeft_f25) (fun _ h9 => h9) rfl dX3_takeLeft_9 ?_
  refine va_get (D := G.1) (ci := 1) (v := .int (nI rr)) (C := RX1) (T := TX1) (N := 3) xE xB xT khX3_takeLeft_X1 xO xK.1 xP 5 rfl rfl 0 (by decide) (xT _ kX3_takeLeft_f51) (fun _ h9 => h9) rfl dX3_takeLeft_12 ?_
  refine lv_aload_n xE xB dX3_takeLeft_15 rfl (lv_at xL 1 rfl) ?_
  refine va_get (D := G.1) (ci := 1) (v := .int (nI mc)) (C := RX1) (T := TX1) (N := 3) xE xB xT khX3_takeLeft_X1 xO xK.1 xP 14 rfl rfl 1 (by decide) (xT _ kX3_takeLeft_f55) (fun _ h9 => h9) rfl dX3_takeLeft_16 ?_
  refine q_icmp_eq (tgt := 41) xE xB dX3_takeLeft_19 (by decide) (by omega) (by omega) (fun c_19 => ?_) (fun c_19 => ?_)
  · skip
    try subst c_19
    exact J_41 R (by first | exact (if_pos rfl).symm | exact (if_neg c_19).symm) _ _ xP xD xS _ (lv_sub xL [0, 1] rfl)
  · skip
    refine lv_aload_n xE xB dX3_takeLeft_22 rfl (lv_at xL 0 rfl) ?_
    refine va_get (D := G.1) (ci := 3) (v := .ref a.2.2.2.1.1) (C := RX3) (T := TX3) (N := 5) xE xB xT khX3_takeLeft_X3 xO xK.1 xP 0 rfl rfl 2 (by decide) (xT _ kX3_takeLeft_f25) (fun _ h9 => h9) rfl dX3_takeLeft_23 ?_
    refine lv_aload_n xE xB dX3_takeLeft_26 rfl (lv_at xL 1 rfl) ?_
    refine va_get (D := G.1) (ci := 1) (v := .int (nI mc)) (C := RX1) (T := TX1) (N := 3) xE xB xT khX3_takeLeft_X1 xO xK.1 xP 14 rfl rfl 1 (by decide) (xT _ kX3_takeLeft_f55) (fun _ h9 => h9) rfl dX3_takeLeft_27 ?_
    refine lv_aload_n xE xB dX3_takeLeft_30 rfl (lv_at xL 0 rfl) ?_
    refine va_get (D := G.1) (ci := 3) (v := .ref a.2.2.2.1.1) (C := RX3) (T := TX3) (N := 5) xE xB xT khX3_takeLeft_X3 xO xK.1 xP 0 rfl rfl 2 (by decide) (xT _ kX3_takeLeft_f25) (fun _ h9 => h9) rfl dX3_takeLeft_31 ?_
    refine va_get (D := G.1) (ci := 1) (v := .int (nI rc)) (C := RX1) (T := TX1) (N := 3) xE xB xT khX3_takeLeft_X1 xO xK.1 xP 5 rfl rfl 1 (by decide) (xT _ kX3_takeLeft_f55) (fun _ h9 => h9) rfl dX3_takeLeft_34 ?_
    refine lv_iconst (v := nI 0) xE xB dX3_takeLeft_37 (by decide) ?_
    refine q_VV (As := [.int (nI mc), .int (nI rc), .int (nI 0)]) (rest := []) ⟨xE, xB, xM, xO, xT⟩ (kX1_renew l G a.2.2.2.1 rr rc R mc rc (nI 0) (by omega) (by omega) (by omega) (by omega)) (cwV 3 xT gX3_takeLeft_X1_renew rfl rfl rfl (by decide +kernel) ⟨Nat.le_of_ble_eq_true rfl, Nat.le_of_ble_eq_true rfl⟩) xK xP xD xS [5, 6] rfl (by decide +kernel) (fun _ => rfl) 0 rfl rfl rfl rfl xL.1 rfl (Nat.le_of_ble_eq_true rfl) dX3_takeLeft_38 ⟨Nat.le_refl _, Nat.le_refl _⟩ (fun u_38 H locs h_38 xP xD xS => ?_)
    have xP : va_P G.1 vwCl ((wS G a ((n, o, kf), (mr, mc, va_cpy f L 0 0 36), (mc, rc, fillF 36 (nI 0) R), (sr, sc, Z), (b, ta, tb, th, tw, tt, tn, sm0, mt, rw, dn))) ++ (wM G m (mr, mc, f))) H := xP
    have xD : va_D A ((wS G a ((n, o, kf), (mr, mc, va_cpy f L 0 0 36), (mc, rc, fillF 36 (nI 0) R), (sr, sc, Z), (b, ta, tb, th, tw, tt, tn, sm0, mt, rw, dn))) ++ (wM G m (mr, mc, f))) := xD
    try subst c_19
    exact J_41 (fillF 36 (nI 0) R) (by first | exact (if_pos rfl).symm | exact (if_neg c_19).symm) _ _ xP xD xS _ (lv_sub xL [0, 1] rfl)
theorem kX3_takeRight_f21 : Cond.fieldLink RX3 21 "SkewedSquare$State" "leftMatrix" "LSkewedSquare$Matrix;" ∈ wsX3_takeRight := by decide +kernel
theorem kX3_takeRight_f25 : Cond.fieldLink RX3 25 "SkewedSquare$State" "rightMatrix" "LSkewedSquare$Matrix;" ∈ wsX3_takeRight := by decide +kernel
theorem kX3_takeRight_f51 : Cond.fieldLink RX3 51 "SkewedSquare$Matrix" "rows" "I" ∈ wsX3_takeRight := by decide +kernel
theorem kX3_takeRight_f55 : Cond.fieldLink RX3 55 "SkewedSquare$Matrix" "columns" "I" ∈ wsX3_takeRight := by decide +kernel
theorem khX3_takeRight_X1 : ∀ w ∈ u_ws RX1 TX1 3, w ∈ wsX3_takeRight := by decide +kernel
theorem khX3_takeRight_X3 : ∀ w ∈ u_ws RX3 TX3 5, w ∈ wsX3_takeRight := by decide +kernel
set_option maxHeartbeats 4000000 in
set_option maxRecDepth 100000 in
/-- kX3_takeRight -/
theorem kX3_takeRight (l : Launch) (G : wG) (a : SA) (n o : Nat) (kf : wF) (lr lc : Nat) (L : wF) (rr rc : Nat) (R : wF) (sr sc : Nat) (Z : wF) (b ta tb th tw tt tn : Nat) (sm0 mt rw dn : wF) (m : MA) (mr mc : Nat) (f : wF) (hr : 1 ≤ lr ∧ lr ≤ 6) (hk : 1 ≤ lc ∧ lc ≤ 6) (hc : 1 ≤ rc ∧ rc ≤ 6) (h1 : 1 ≤ mr ∧ mr ≤ 6) (h2 : 1 ≤ mc ∧ mc ≤ 6) (h3 : rr ≤ 6) : CV (S := Unit) l yX3_takeRight wsX3_takeRight (rm 3 66) G [.ref a.1, .ref m.1] ((wS G a ((n, o, kf), (lr, lc, L), (rr, rc, R), (sr, sc, Z), (b, ta, tb, th, tw, tt, tn, sm0, mt, rw, dn))) ++ (wM G m (mr, mc, f))) (fun u9 => True) (fun u9 => (wS G a ((n, o, kf), (lr, mr, if lc = mr then L else fillF 36 (nI 0) L), (mr, mc, va_cpy f R 0 0 36), (lr, mc, fillF 36 NO Z), (b, ta, tb, th, tw, tt, tn, sm0, mt, rw, dn))) ++ (wM G m (mr, mc, f))) := by
  refine CV.of (own := RX3) rfl (by decide) rfl (Nat.le_of_ble_eq_true rfl) ?_
  intro p9 e9 s9 m9 b9 t9 c9 A xE xB xM xO xT xK xP xD Q xQ xS ls hl
  have xL : lv_has ls 2 [(0, .ref a.1), (1, .ref m.1)] := hl
  refine lv_aload_n xE xB dX3_takeRight_0 rfl (lv_at xL 0 rfl) ?_
  refine va_get (D := G.1) (ci := 3) (v := .ref a.2.2.2.1.1) (C := RX3) (T := TX3) (N := 5) xE xB xT khX3_takeRight_X3 xO xK.1 xP 0 rfl rfl 2 (by decide) (xT _ kX3_takeRight_f25) (fun _ h9 => h9) rfl dX3_takeRight_1 ?_
  refine lv_aload_n xE xB dX3_takeRight_4 rfl (lv_at xL 1 rfl) ?_
  refine q_VV (As := [.ref m.1]) (rest := []) ⟨xE, xB, xM, xO, xT⟩ (kX1_copyFrom l G a.2.2.2.1 m rr rc mr mc R f) (cwV 1 xT gX3_takeRight_X1_copyFrom rfl rfl rfl (by decide +kernel) ⟨Nat.le_of_ble_eq_true rfl, Nat.le_of_ble_eq_true rfl⟩) xK xP xD xS [5, 6, 14, 15] rfl (by decide +kernel) (fun _ => rfl) 0 rfl rfl rfl rfl xL.1 rfl (Nat.le_of_ble_eq_true rfl) dX3_takeRight_5 ⟨Nat.le_refl _, Nat.le_refl _⟩ (fun u_5 H locs h_5 xP xD xS => ?_)
  have xP : va_P G.1 vwCl ((wS G a ((n, o, kf), (lr, lc, L), (mr, mc, va_cpy f R 0 0 36), (sr, sc, Z), (b, ta, tb, th, tw, tt, tn, sm0, mt, rw, dn))) ++ (wM G m (mr, mc, f))) H := xP
  have xD : va_D A ((wS G a ((n, o, kf), (lr, lc, L), (mr, mc, va_cpy f R 0 0 36), (sr, sc, Z), (b, ta, tb, th, tw, tt, tn, sm0, mt, rw, dn))) ++ (wM G m (mr, mc, f))) := xD
  have J_41 : ∀ (g : wF), (g = if lc = mr then L else fillF 36 (nI 0) L) → ∀ (H : Heap) (locs : List Loc), va_P G.1 vwCl ((wS G a ((n, o, kf), (lr, mr, g), (mr, mc, va_cpy f R 0 0 36), (sr, sc, Z), (b, ta, tb, th, tw, tt, tn, sm0, mt, rw, dn))) ++ (wM G m (mr, mc, f))) H → va_D A ((wS G a ((n, o, kf), (lr, mr, g), (mr, mc, va_cpy f R 0 0 36), (sr, sc, Z), (b, ta, tb, th, tw, tt, tn, sm0, mt, rw, dn))) ++ (wM G m (mr, mc, f))) → va_S A s9.heap H locs → ∀ (ls : Array Slot), lv_has ls 2 [(0, .ref a.1), (1, .ref m.1)] → W p9 l e9 (rm 3 66) s9 m9 ([.ref a.1, .ref m.1] : List Value).toArray b9 t9 c9 H locs 0 0 Q (F0 m9 41 ls []) := by
    intro g hg H locs xP xD xS ls xL
    refine lv_aload_n xE xB dX3_takeRight_41 rfl (lv_at xL 0 rfl) ?_
    refine q_VV (As := []) (rest := []) ⟨xE, xB, xM, xO, xT⟩ (kX3_forgetResults l G a n o kf lr mr g mr mc (va_cpy f R 0 0 36) sr sc Z b ta tb th tw tt tn sm0 mt rw dn (by omega) (by omega) (by omega)) (cwV 0 xT gX3_takeRight_X3_forgetResults rfl rfl rfl (by decide +kernel) ⟨Nat.le_of_ble_eq_true rfl, Nat.le_of_ble_eq_true rfl⟩) xK xP xD xS [0, 1, 2, 3, 4, 5, 6, 7, 8, 9, 10, 11, 12, 13] rfl (by decide +kernel) (fun _ => rfl) 0 rfl rfl rfl rfl xL.1 rfl (Nat.le_of_ble_eq_true rfl) dX3_takeRight_42 ⟨Nat.le_refl _, Nat.le_refl _⟩ (fun u_42 H locs h_42 xP xD xS => ?_)
    have xP : va_P G.1 vwCl ((wS G a ((n, o, kf), (lr, mr, g), (mr, mc, va_cpy f R 0 0 36), (lr, mc, fillF 36 NO Z), (b, ta, tb, th, tw, tt, tn, sm0, mt, rw, dn))) ++ (wM G m (mr, mc, f))) H := xP
    have xD : va_D A ((wS G a ((n, o, kf), (lr, mr, g), (mr, mc, va_cpy f R 0 0 36), (lr, mc, fillF 36 NO Z), (b, ta, tb, th, tw, tt, tn, sm0, mt, rw, dn))) ++ (wM G m (mr, mc, f))) := xD
    subst hg
    exact xQ _ _ _ _ () trivial xP xD xS dX3_takeRight_45
  refine lv_aload_n xE xB dX3_takeRight_8 rfl (lv_at xL 0 rfl) ?_
  refine va_get (D := G.1) (ci := 3) (v := .ref a.2.2.1.1) (C := RX3) (T := TX3) (N := 5) xE xB xT khX3_takeRight_X3 xO xK.1 xP 0 rfl rfl 1 (by decide) (xT _ kX3_takeRight_f21) (fun _ h9 => h9) rfl dX3_takeRight_9 ?_
  refine va_get (D := G.1) (ci := 1) (v := .int (nI lc)) (C := RX1) (T := TX1) (N := 3) xE xB xT khX3_takeRight_X1 xO xK.1 xP 3 rfl rfl 1 (by decide) (xT _ kX3_takeRight_f55) (fun _ h9 => h9) rfl dX3_takeRight_12 ?_
  refine lv_aload_n xE xB dX3_takeRight_15 rfl (lv_at xL 1 rfl) ?_
  refine va_get (D := G.1) (ci := 1) (v := .int (nI mr)) (C := RX1) (T := TX1) (N := 3) xE xB xT khX3_takeRight_X1 xO xK.1 xP 14 rfl rfl 0 (by decide) (xT _ kX3_takeRight_f51) (fun _ h9 => h9) rfl dX3_takeRight_16 ?_
  refine q_icmp_eq (tgt := 41) xE xB dX3_takeRight_19 (by decide) (by omega) (by omega) (fun c_19 => ?_) (fun c_19 => ?_)
  · skip
    try subst c_19
    exact J_41 L (by first | exact (if_pos rfl).symm | exact (if_neg c_19).symm) _ _ xP xD xS _ (lv_sub xL [0, 1] rfl)
  · skip
    refine lv_aload_n xE xB dX3_takeRight_22 rfl (lv_at xL 0 rfl) ?_
    refine va_get (D := G.1) (ci := 3) (v := .ref a.2.2.1.1) (C := RX3) (T := TX3) (N := 5) xE xB xT khX3_takeRight_X3 xO xK.1 xP 0 rfl rfl 1 (by decide) (xT _ kX3_takeRight_f21) (fun _ h9 => h9) rfl dX3_takeRight_23 ?_
    refine lv_aload_n xE xB dX3_takeRight_26 rfl (lv_at xL 0 rfl) ?_
    refine va_get (D := G.1) (ci := 3) (v := .ref a.2.2.1.1) (C := RX3) (T := TX3) (N := 5) xE xB xT khX3_takeRight_X3 xO xK.1 xP 0 rfl rfl 1 (by decide) (xT _ kX3_takeRight_f21) (fun _ h9 => h9) rfl dX3_takeRight_27 ?_
    refine va_get (D := G.1) (ci := 1) (v := .int (nI lr)) (C := RX1) (T := TX1) (N := 3) xE xB xT khX3_takeRight_X1 xO xK.1 xP 3 rfl rfl 0 (by decide) (xT _ kX3_takeRight_f51) (fun _ h9 => h9) rfl dX3_takeRight_30 ?_
    refine lv_aload_n xE xB dX3_takeRight_33 rfl (lv_at xL 1 rfl) ?_
    refine va_get (D := G.1) (ci := 1) (v := .int (nI mr)) (C := RX1) (T := TX1) (N := 3) xE xB xT khX3_takeRight_X1 xO xK.1 xP 14 rfl rfl 0 (by decide) (xT _ kX3_takeRight_f51) (fun _ h9 => h9) rfl dX3_takeRight_34 ?_
    refine lv_iconst (v := nI 0) xE xB dX3_takeRight_37 (by decide) ?_
    refine q_VV (As := [.int (nI lr), .int (nI mr), .int (nI 0)]) (rest := []) ⟨xE, xB, xM, xO, xT⟩ (kX1_renew l G a.2.2.1 lr lc L lr mr (nI 0) (by omega) (by omega) (by omega) (by omega)) (cwV 3 xT gX3_takeRight_X1_renew rfl rfl rfl (by decide +kernel) ⟨Nat.le_of_ble_eq_true rfl, Nat.le_of_ble_eq_true rfl⟩) xK xP xD xS [3, 4] rfl (by decide +kernel) (fun _ => rfl) 0 rfl rfl rfl rfl xL.1 rfl (Nat.le_of_ble_eq_true rfl) dX3_takeRight_38 ⟨Nat.le_refl _, Nat.le_refl _⟩ (fun u_38 H locs h_38 xP xD xS => ?_)
    have xP : va_P G.1 vwCl ((wS G a ((n, o, kf), (lr, mr, fillF 36 (nI 0) L), (mr, mc, va_cpy f R 0 0 36), (sr, sc, Z), (b, ta, tb, th, tw, tt, tn, sm0, mt, rw, dn))) ++ (wM G m (mr, mc, f))) H := xP
    have xD : va_D A ((wS G a ((n, o, kf), (lr, mr, fillF 36 (nI 0) L), (mr, mc, va_cpy f R 0 0 36), (sr, sc, Z), (b, ta, tb, th, tw, tt, tn, sm0, mt, rw, dn))) ++ (wM G m (mr, mc, f))) := xD
    try subst c_19
    exact J_41 (fillF 36 (nI 0) L) (by first | exact (if_pos rfl).symm | exact (if_neg c_19).symm) _ _ xP xD xS _ (lv_sub xL [0, 1] rfl)
theorem kX3_tilesAlong_f12 : Cond.fieldLink RX3 12 "SkewedSquare$State" "square" "LSkewedSquare$Square;" ∈ wsX3_tilesAlong := by decide +kernel
theorem kX3_tilesAlong_f74 : Cond.fieldLink RX3 74 "SkewedSquare$Square" "side" "I" ∈ wsX3_tilesAlong := by decide +kernel
theorem khX3_tilesAlong_X2 : ∀ w ∈ u_ws RX2 TX2 3, w ∈ wsX3_tilesAlong := by decide +kernel
theorem khX3_tilesAlong_X3 : ∀ w ∈ u_ws RX3 TX3 5, w ∈ wsX3_tilesAlong := by decide +kernel
set_option maxHeartbeats 4000000 in
set_option maxRecDepth 100000 in
/-- kX3_tilesAlong -/
theorem kX3_tilesAlong (l : Launch) (G : wG) (a : SA) (n o : Nat) (kf : wF) (lr lc : Nat) (L : wF) (rr rc : Nat) (R : wF) (sr sc : Nat) (Z : wF) (b ta tb th tw tt tn : Nat) (sm0 mt rw dn : wF) (len : Nat) (hn : 1 ≤ n ∧ n ≤ 4) (hl2 : 1 ≤ len ∧ len ≤ 6) : CR l yX3_tilesAlong wsX3_tilesAlong (rm 0 0) G [.ref a.1, .int (nI len)] (wS G a ((n, o, kf), (lr, lc, L), (rr, rc, R), (sr, sc, Z), (b, ta, tb, th, tw, tt, tn, sm0, mt, rw, dn))) (fun x => x = nI (tls len n)) := by
  refine CR.of (own := RX3) rfl (by decide) rfl (Nat.le_of_ble_eq_true rfl) ?_
  intro p9 e9 s9 m9 b9 t9 c9 xE xB xM xO xT xK xP Q xQ ls hl
  have xL : lv_has ls 2 [(0, .ref a.1), (1, .int (nI len))] := hl
  refine lv_aload_n xE xB dX3_tilesAlong_0 rfl (lv_at xL 0 rfl) ?_
  refine va_get (D := G.1) (ci := 3) (v := .ref a.2.1.1) (C := RX3) (T := TX3) (N := 5) xE xB xT khX3_tilesAlong_X3 xO xK.1 xP 0 rfl rfl 0 (by decide) (xT _ kX3_tilesAlong_f12) (fun _ h9 => h9) rfl dX3_tilesAlong_1 ?_
  refine va_get (D := G.1) (ci := 2) (v := .int (nI n)) (C := RX2) (T := TX2) (N := 3) xE xB xT khX3_tilesAlong_X2 xO xK.1 xP 1 rfl rfl 0 (by decide) (xT _ kX3_tilesAlong_f74) (fun _ h9 => h9) rfl dX3_tilesAlong_4 ?_
  refine q_if_le (tgt := 32) xE xB dX3_tilesAlong_7 (by decide) (by omega) (fun c_7 => absurd c_7 (by omega)) (fun c_7 => ?_)
  refine lv_iload_n xE xB dX3_tilesAlong_10 rfl (lv_at xL 1 rfl) ?_
  refine lv_aload_n xE xB dX3_tilesAlong_11 rfl (lv_at xL 0 rfl) ?_
  refine va_get (D := G.1) (ci := 3) (v := .ref a.2.1.1) (C := RX3) (T := TX3) (N := 5) xE xB xT khX3_tilesAlong_X3 xO xK.1 xP 0 rfl rfl 0 (by decide) (xT _ kX3_tilesAlong_f12) (fun _ h9 => h9) rfl dX3_tilesAlong_12 ?_
  refine va_get (D := G.1) (ci := 2) (v := .int (nI n)) (C := RX2) (T := TX2) (N := 3) xE xB xT khX3_tilesAlong_X2 xO xK.1 xP 1 rfl rfl 0 (by decide) (xT _ kX3_tilesAlong_f74) (fun _ h9 => h9) rfl dX3_tilesAlong_15 ?_
  refine q_iadd xE xB dX3_tilesAlong_18 ?_
  refine lv_iconst (v := nI 1) xE xB dX3_tilesAlong_19 (by decide) ?_
  refine q_isub xE xB dX3_tilesAlong_20 (by omega) ?_
  refine lv_aload_n xE xB dX3_tilesAlong_21 rfl (lv_at xL 0 rfl) ?_
  refine va_get (D := G.1) (ci := 3) (v := .ref a.2.1.1) (C := RX3) (T := TX3) (N := 5) xE xB xT khX3_tilesAlong_X3 xO xK.1 xP 0 rfl rfl 0 (by decide) (xT _ kX3_tilesAlong_f12) (fun _ h9 => h9) rfl dX3_tilesAlong_22 ?_
  refine va_get (D := G.1) (ci := 2) (v := .int (nI n)) (C := RX2) (T := TX2) (N := 3) xE xB xT khX3_tilesAlong_X2 xO xK.1 xP 1 rfl rfl 0 (by decide) (xT _ kX3_tilesAlong_f74) (fun _ h9 => h9) rfl dX3_tilesAlong_25 ?_
  refine q_idiv xE xB dX3_tilesAlong_28 (by omega) (by omega) (by omega) ?_
  refine lv_goto (tgt := 33) xE xB dX3_tilesAlong_29 (by decide) ?_
  exact xQ _ _ _ (congrArg nI (by first | rfl | omega)) dX3_tilesAlong_33
theorem kX3_tilesDown_f21 : Cond.fieldLink RX3 21 "SkewedSquare$State" "leftMatrix" "LSkewedSquare$Matrix;" ∈ wsX3_tilesDown := by decide +kernel
theorem kX3_tilesDown_f51 : Cond.fieldLink RX3 51 "SkewedSquare$Matrix" "rows" "I" ∈ wsX3_tilesDown := by decide +kernel
theorem khX3_tilesDown_X1 : ∀ w ∈ u_ws RX1 TX1 3, w ∈ wsX3_tilesDown := by decide +kernel
theorem khX3_tilesDown_X3 : ∀ w ∈ u_ws RX3 TX3 5, w ∈ wsX3_tilesDown := by decide +kernel
set_option maxHeartbeats 4000000 in
set_option maxRecDepth 100000 in
/-- kX3_tilesDown -/
theorem kX3_tilesDown (l : Launch) (G : wG) (a : SA) (n o : Nat) (kf : wF) (lr lc : Nat) (L : wF) (rr rc : Nat) (R : wF) (sr sc : Nat) (Z : wF) (b ta tb th tw tt tn : Nat) (sm0 mt rw dn : wF) (hn : 1 ≤ n ∧ n ≤ 4) (hr : 1 ≤ lr ∧ lr ≤ 6) (hk : 1 ≤ lc ∧ lc ≤ 6) (hc : 1 ≤ rc ∧ rc ≤ 6) : CR l yX3_tilesDown wsX3_tilesDown (rm 1 21) G [.ref a.1] (wS G a ((n, o, kf), (lr, lc, L), (rr, rc, R), (sr, sc, Z), (b, ta, tb, th, tw, tt, tn, sm0, mt, rw, dn))) (fun x => x = nI (tls lr n)) := by
  refine CR.of (own := RX3) rfl (by decide) rfl (Nat.le_of_ble_eq_true rfl) ?_
  intro p9 e9 s9 m9 b9 t9 c9 xE xB xM xO xT xK xP Q xQ ls hl
  have xL : lv_has ls 1 [(0, .ref a.1)] := hl
  refine lv_aload_n xE xB dX3_tilesDown_0 rfl (lv_at xL 0 rfl) ?_
  refine lv_aload_n xE xB dX3_tilesDown_1 rfl (lv_at xL 0 rfl) ?_
  refine va_get (D := G.1) (ci := 3) (v := .ref a.2.2.1.1) (C := RX3) (T := TX3) (N := 5) xE xB xT khX3_tilesDown_X3 xO xK.1 xP 0 rfl rfl 1 (by decide) (xT _ kX3_tilesDown_f21) (fun _ h9 => h9) rfl dX3_tilesDown_2 ?_
  refine va_get (D := G.1) (ci := 1) (v := .int (nI lr)) (C := RX1) (T := TX1) (N := 3) xE xB xT khX3_tilesDown_X1 xO xK.1 xP 3 rfl rfl 0 (by decide) (xT _ kX3_tilesDown_f51) (fun _ h9 => h9) rfl dX3_tilesDown_5 ?_
  refine q_VR (As := [.int (nI lr)]) (rest := []) ⟨xE, xB, xM, xO, xT⟩ (kX3_tilesAlong l G a n o kf lr lc L rr rc R sr sc Z b ta tb th tw tt tn sm0 mt rw dn lr (by omega) (by omega)) (cwV 1 xT gX3_tilesDown_X3_tilesAlong rfl rfl rfl (by decide +kernel) ⟨Nat.le_of_ble_eq_true rfl, Nat.le_of_ble_eq_true rfl⟩) xK xP [0, 1, 2, 3, 4, 5, 6, 7, 8, 9, 10, 11, 12, 13] rfl 0 rfl rfl rfl rfl xL.1 rfl (Nat.le_of_ble_eq_true rfl) dX3_tilesDown_8 ⟨Nat.le_refl _, Nat.le_refl _⟩ (fun r_8 h_8 => ?_)
  obtain rfl : r_8 = nI (tls lr n) := h_8
  exact xQ _ _ _ (congrArg nI (by first | rfl | omega)) dX3_tilesDown_11
theorem kX3_tilesAcross_f25 : Cond.fieldLink RX3 25 "SkewedSquare$State" "rightMatrix" "LSkewedSquare$Matrix;" ∈ wsX3_tilesAcross := by decide +kernel
theorem kX3_tilesAcross_f55 : Cond.fieldLink RX3 55 "SkewedSquare$Matrix" "columns" "I" ∈ wsX3_tilesAcross := by decide +kernel
theorem khX3_tilesAcross_X1 : ∀ w ∈ u_ws RX1 TX1 3, w ∈ wsX3_tilesAcross := by decide +kernel
theorem khX3_tilesAcross_X3 : ∀ w ∈ u_ws RX3 TX3 5, w ∈ wsX3_tilesAcross := by decide +kernel
set_option maxHeartbeats 4000000 in
set_option maxRecDepth 100000 in
/-- kX3_tilesAcross -/
theorem kX3_tilesAcross (l : Launch) (G : wG) (a : SA) (n o : Nat) (kf : wF) (lr lc : Nat) (L : wF) (rr rc : Nat) (R : wF) (sr sc : Nat) (Z : wF) (b ta tb th tw tt tn : Nat) (sm0 mt rw dn : wF) (hn : 1 ≤ n ∧ n ≤ 4) (hr : 1 ≤ lr ∧ lr ≤ 6) (hk : 1 ≤ lc ∧ lc ≤ 6) (hc : 1 ≤ rc ∧ rc ≤ 6) : CR l yX3_tilesAcross wsX3_tilesAcross (rm 1 21) G [.ref a.1] (wS G a ((n, o, kf), (lr, lc, L), (rr, rc, R), (sr, sc, Z), (b, ta, tb, th, tw, tt, tn, sm0, mt, rw, dn))) (fun x => x = nI (tls rc n)) := by
  refine CR.of (own := RX3) rfl (by decide) rfl (Nat.le_of_ble_eq_true rfl) ?_
  intro p9 e9 s9 m9 b9 t9 c9 xE xB xM xO xT xK xP Q xQ ls hl
  have xL : lv_has ls 1 [(0, .ref a.1)] := hl
  refine lv_aload_n xE xB dX3_tilesAcross_0 rfl (lv_at xL 0 rfl) ?_
  refine lv_aload_n xE xB dX3_tilesAcross_1 rfl (lv_at xL 0 rfl) ?_
  refine va_get (D := G.1) (ci := 3) (v := .ref a.2.2.2.1.1) (C := RX3) (T := TX3) (N := 5) xE xB xT khX3_tilesAcross_X3 xO xK.1 xP 0 rfl rfl 2 (by decide) (xT _ kX3_tilesAcross_f25) (fun _ h9 => h9) rfl dX3_tilesAcross_2 ?_
  refine va_get (D := G.1) (ci := 1) (v := .int (nI rc)) (C := RX1) (T := TX1) (N := 3) xE xB xT khX3_tilesAcross_X1 xO xK.1 xP 5 rfl rfl 1 (by decide) (xT _ kX3_tilesAcross_f55) (fun _ h9 => h9) rfl dX3_tilesAcross_5 ?_
  refine q_VR (As := [.int (nI rc)]) (rest := []) ⟨xE, xB, xM, xO, xT⟩ (kX3_tilesAlong l G a n o kf lr lc L rr rc R sr sc Z b ta tb th tw tt tn sm0 mt rw dn rc (by omega) (by omega)) (cwV 1 xT gX3_tilesAcross_X3_tilesAlong rfl rfl rfl (by decide +kernel) ⟨Nat.le_of_ble_eq_true rfl, Nat.le_of_ble_eq_true rfl⟩) xK xP [0, 1, 2, 3, 4, 5, 6, 7, 8, 9, 10, 11, 12, 13] rfl 0 rfl rfl rfl rfl xL.1 rfl (Nat.le_of_ble_eq_true rfl) dX3_tilesAcross_8 ⟨Nat.le_refl _, Nat.le_refl _⟩ (fun r_8 h_8 => ?_)
  obtain rfl : r_8 = nI (tls rc n) := h_8
  exact xQ _ _ _ (congrArg nI (by first | rfl | omega)) dX3_tilesAcross_11
set_option maxHeartbeats 4000000 in
set_option maxRecDepth 100000 in
/-- kX3_tiles -/
theorem kX3_tiles (l : Launch) (G : wG) (a : SA) (n o : Nat) (kf : wF) (lr lc : Nat) (L : wF) (rr rc : Nat) (R : wF) (sr sc : Nat) (Z : wF) (b ta tb th tw tt tn : Nat) (sm0 mt rw dn : wF) (hn : 1 ≤ n ∧ n ≤ 4) (hr : 1 ≤ lr ∧ lr ≤ 6) (hk : 1 ≤ lc ∧ lc ≤ 6) (hc : 1 ≤ rc ∧ rc ≤ 6) : CR l yX3_tiles wsX3_tiles (rm 2 41) G [.ref a.1] (wS G a ((n, o, kf), (lr, lc, L), (rr, rc, R), (sr, sc, Z), (b, ta, tb, th, tw, tt, tn, sm0, mt, rw, dn))) (fun x => x = nI (tls lr n * tls rc n)) := by
  refine CR.of (own := RX3) rfl (by decide) rfl (Nat.le_of_ble_eq_true rfl) ?_
  intro p9 e9 s9 m9 b9 t9 c9 xE xB xM xO xT xK xP Q xQ ls hl
  have xL : lv_has ls 1 [(0, .ref a.1)] := hl
  refine lv_aload_n xE xB dX3_tiles_0 rfl (lv_at xL 0 rfl) ?_
  refine q_VR (As := []) (rest := []) ⟨xE, xB, xM, xO, xT⟩ (kX3_tilesDown l G a n o kf lr lc L rr rc R sr sc Z b ta tb th tw tt tn sm0 mt rw dn (by omega) (by omega) (by omega) (by omega)) (cwV 0 xT gX3_tiles_X3_tilesDown rfl rfl rfl (by decide +kernel) ⟨Nat.le_of_ble_eq_true rfl, Nat.le_of_ble_eq_true rfl⟩) xK xP [0, 1, 2, 3, 4, 5, 6, 7, 8, 9, 10, 11, 12, 13] rfl 0 rfl rfl rfl rfl xL.1 rfl (Nat.le_of_ble_eq_true rfl) dX3_tiles_1 ⟨Nat.le_refl _, Nat.le_refl _⟩ (fun r_1 h_1 => ?_)
  obtain rfl : r_1 = nI (tls lr n) := h_1
  refine lv_aload_n xE xB dX3_tiles_4 rfl (lv_at xL 0 rfl) ?_
  refine q_VR (As := []) (rest := [.int (nI (tls lr n))]) ⟨xE, xB, xM, xO, xT⟩ (kX3_tilesAcross l G a n o kf lr lc L rr rc R sr sc Z b ta tb th tw tt tn sm0 mt rw dn (by omega) (by omega) (by omega) (by omega)) (cwV 0 xT gX3_tiles_X3_tilesAcross rfl rfl rfl (by decide +kernel) ⟨Nat.le_of_ble_eq_true rfl, Nat.le_of_ble_eq_true rfl⟩) xK xP [0, 1, 2, 3, 4, 5, 6, 7, 8, 9, 10, 11, 12, 13] rfl 0 rfl rfl rfl rfl xL.1 rfl (Nat.le_of_ble_eq_true rfl) dX3_tiles_5 ⟨Nat.le_refl _, Nat.le_refl _⟩ (fun r_5 h_5 => ?_)
  obtain rfl : r_5 = nI (tls rc n) := h_5
  refine q_imul xE xB dX3_tiles_8 ?_
  exact xQ _ _ _ (congrArg nI (by first | rfl | omega)) dX3_tiles_9
theorem kX3_beginTile_f102 : Cond.fieldLink RX3 102 "SkewedSquare$Tile" "ticksNeeded" "I" ∈ wsX3_beginTile := by decide +kernel
theorem kX3_beginTile_f12 : Cond.fieldLink RX3 12 "SkewedSquare$State" "square" "LSkewedSquare$Square;" ∈ wsX3_beginTile := by decide +kernel
theorem kX3_beginTile_f21 : Cond.fieldLink RX3 21 "SkewedSquare$State" "leftMatrix" "LSkewedSquare$Matrix;" ∈ wsX3_beginTile := by decide +kernel
theorem kX3_beginTile_f25 : Cond.fieldLink RX3 25 "SkewedSquare$State" "rightMatrix" "LSkewedSquare$Matrix;" ∈ wsX3_beginTile := by decide +kernel
theorem kX3_beginTile_f34 : Cond.fieldLink RX3 34 "SkewedSquare$State" "tile" "LSkewedSquare$Tile;" ∈ wsX3_beginTile := by decide +kernel
theorem kX3_beginTile_f51 : Cond.fieldLink RX3 51 "SkewedSquare$Matrix" "rows" "I" ∈ wsX3_beginTile := by decide +kernel
theorem kX3_beginTile_f55 : Cond.fieldLink RX3 55 "SkewedSquare$Matrix" "columns" "I" ∈ wsX3_beginTile := by decide +kernel
theorem kX3_beginTile_f74 : Cond.fieldLink RX3 74 "SkewedSquare$Square" "side" "I" ∈ wsX3_beginTile := by decide +kernel
theorem kX3_beginTile_f80 : Cond.fieldLink RX3 80 "SkewedSquare$Tile" "begun" "Z" ∈ wsX3_beginTile := by decide +kernel
theorem kX3_beginTile_f84 : Cond.fieldLink RX3 84 "SkewedSquare$Tile" "row" "I" ∈ wsX3_beginTile := by decide +kernel
theorem kX3_beginTile_f87 : Cond.fieldLink RX3 87 "SkewedSquare$Tile" "column" "I" ∈ wsX3_beginTile := by decide +kernel
theorem kX3_beginTile_f96 : Cond.fieldLink RX3 96 "SkewedSquare$Tile" "height" "I" ∈ wsX3_beginTile := by decide +kernel
theorem kX3_beginTile_f99 : Cond.fieldLink RX3 99 "SkewedSquare$Tile" "width" "I" ∈ wsX3_beginTile := by decide +kernel
theorem kX3_beginTile_mm90 : Cond.methodLink RX3 90 Lib.Math.min.name ∈ wsX3_beginTile := by decide +kernel
theorem kX3_beginTile_mmc : Cond.code Lib.Math.min.name Lib.Math.min.code 2 (some .int) ∈ wsX3_beginTile := by decide +kernel
theorem kX3_beginTile_mmi : Cond.initialized "java/lang/Math" ∈ wsX3_beginTile := by decide +kernel
theorem kX3_beginTile_mms : Cond.static Lib.Math.min.name ∈ wsX3_beginTile := by decide +kernel
theorem khX3_beginTile_X1 : ∀ w ∈ u_ws RX1 TX1 3, w ∈ wsX3_beginTile := by decide +kernel
theorem khX3_beginTile_X2 : ∀ w ∈ u_ws RX2 TX2 3, w ∈ wsX3_beginTile := by decide +kernel
theorem khX3_beginTile_X3 : ∀ w ∈ u_ws RX3 TX3 5, w ∈ wsX3_beginTile := by decide +kernel
theorem khX3_beginTile_X5 : ∀ w ∈ u_ws RX5 TX5 11, w ∈ wsX3_beginTile := by decide +kernel
set_option maxHeartbeats 4000000 in
set_option maxRecDepth 100000 in
/-- kX3_beginTile -/
theorem kX3_beginTile (l : Launch) (G : wG) (a : SA) (n o : Nat) (kf : wF) (lr lc : Nat) (L : wF) (rr rc : Nat) (R : wF) (sr sc : Nat) (Z : wF) (b ta tb th tw tt tn : Nat) (sm0 mt rw dn : wF) (i j : Nat) (hn : 1 ≤ n ∧ n ≤ 4) (hr : 1 ≤ lr ∧ lr ≤ 6) (hk : 1 ≤ lc ∧ lc ≤ 6) (hc : 1 ≤ rc ∧ rc ≤ 6) (hi : n * i < lr) (hj : n * j < rc) (hb : b ≤ 1) : CV (S := Unit) l yX3_beginTile wsX3_beginTile (rm 2 43) G [.ref a.1, .int (nI i), .int (nI j)] (wS G a ((n, o, kf), (lr, lc, L), (rr, rc, R), (sr, sc, Z), (b, ta, tb, th, tw, tt, tn, sm0, mt, rw, dn))) (fun u9 => True) (fun u9 => wS G a ((n, o, kf), (lr, lc, L), (rr, rc, R), (sr, sc, Z), (1, i, j, min n (lr - n * i), min n (rc - n * j), 0, need lc n lr rc i j, fillF 16 (nI 0) sm0, fillF 16 (nI 0) mt, fillF 16 NO rw, fillF 16 NO dn))) := by
  refine CV.of (own := RX3) rfl (by decide) rfl (Nat.le_of_ble_eq_true rfl) ?_
  intro p9 e9 s9 m9 b9 t9 c9 A xE xB xM xO xT xK xP xD Q xQ xS ls hl
  have xL : lv_has ls 3 [(0, .ref a.1), (1, .int (nI i)), (2, .int (nI j))] := hl
  refine lv_aload_n xE xB dX3_beginTile_0 rfl (lv_at xL 0 rfl) ?_
  refine va_get (D := G.1) (ci := 3) (v := .ref a.2.2.2.2.2.1) (C := RX3) (T := TX3) (N := 5) xE xB xT khX3_beginTile_X3 xO xK.1 xP 0 rfl rfl 4 (by decide) (xT _ kX3_beginTile_f34) (fun _ h9 => h9) rfl dX3_beginTile_1 ?_
  refine q_VV (As := []) (rest := []) ⟨xE, xB, xM, xO, xT⟩ (kX5_empty l G a.2.2.2.2.2 b ta tb th tw tt tn sm0 mt rw dn) (cwV 0 xT gX3_beginTile_X5_empty rfl rfl rfl (by decide +kernel) ⟨Nat.le_of_ble_eq_true rfl, Nat.le_of_ble_eq_true rfl⟩) xK xP xD xS [9, 10, 11, 12, 13] rfl (by decide +kernel) (fun _ => rfl) 0 rfl rfl rfl rfl xL.1 rfl (Nat.le_of_ble_eq_true rfl) dX3_beginTile_4 ⟨Nat.le_refl _, Nat.le_refl _⟩ (fun u_4 H locs h_4 xP xD xS => ?_)
  have xP : va_P G.1 vwCl (wS G a ((n, o, kf), (lr, lc, L), (rr, rc, R), (sr, sc, Z), (b, ta, tb, th, tw, 0, tn, fillF 16 (nI 0) sm0, fillF 16 (nI 0) mt, fillF 16 NO rw, fillF 16 NO dn))) H := xP
  have xD : va_D A (wS G a ((n, o, kf), (lr, lc, L), (rr, rc, R), (sr, sc, Z), (b, ta, tb, th, tw, 0, tn, fillF 16 (nI 0) sm0, fillF 16 (nI 0) mt, fillF 16 NO rw, fillF 16 NO dn))) := xD
  refine lv_aload_n xE xB dX3_beginTile_7 rfl (lv_at xL 0 rfl) ?_
  refine va_get (D := G.1) (ci := 3) (v := .ref a.2.2.2.2.2.1) (C := RX3) (T := TX3) (N := 5) xE xB xT khX3_beginTile_X3 xO xK.1 xP 0 rfl rfl 4 (by decide) (xT _ kX3_beginTile_f34) (fun _ h9 => h9) rfl dX3_beginTile_8 ?_
  refine lv_iconst (v := nI 1) xE xB dX3_beginTile_11 (by decide) ?_
  refine va_put (D := G.1) (ci := 5) (v := .int (nI 1)) (ty := .boolean) (C := RX5) (T := TX5) (N := 11) xE xB xT khX3_beginTile_X5 tyX5 tyX5_ok nmX5 xO xK.1 xP xD xS 9 rfl rfl 0 (by decide) (xT _ kX3_beginTile_f80) (fun _ h9 => h9) rfl (by decide +kernel) (by decide) (by decide) (Nat.le_of_ble_eq_true rfl) dX3_beginTile_12 (fun H locs xP xD xS => ?_)
  have xP : va_P G.1 vwCl (wS G a ((n, o, kf), (lr, lc, L), (rr, rc, R), (sr, sc, Z), (1, ta, tb, th, tw, 0, tn, fillF 16 (nI 0) sm0, fillF 16 (nI 0) mt, fillF 16 NO rw, fillF 16 NO dn))) H := xP
  have xD : va_D A (wS G a ((n, o, kf), (lr, lc, L), (rr, rc, R), (sr, sc, Z), (1, ta, tb, th, tw, 0, tn, fillF 16 (nI 0) sm0, fillF 16 (nI 0) mt, fillF 16 NO rw, fillF 16 NO dn))) := xD
  refine lv_aload_n xE xB dX3_beginTile_15 rfl (lv_at xL 0 rfl) ?_
  refine va_get (D := G.1) (ci := 3) (v := .ref a.2.2.2.2.2.1) (C := RX3) (T := TX3) (N := 5) xE xB xT khX3_beginTile_X3 xO xK.1 xP 0 rfl rfl 4 (by decide) (xT _ kX3_beginTile_f34) (fun _ h9 => h9) rfl dX3_beginTile_16 ?_
  refine lv_iload_n xE xB dX3_beginTile_19 rfl (lv_at xL 1 rfl) ?_
  refine va_put (D := G.1) (ci := 5) (v := .int (nI i)) (ty := .int) (C := RX5) (T := TX5) (N := 11) xE xB xT khX3_beginTile_X5 tyX5 tyX5_ok nmX5 xO xK.1 xP xD xS 9 rfl rfl 1 (by decide) (xT _ kX3_beginTile_f84) (fun _ h9 => h9) rfl (by decide +kernel) rfl rfl (Nat.le_of_ble_eq_true rfl) dX3_beginTile_20 (fun H locs xP xD xS => ?_)
  have xP : va_P G.1 vwCl (wS G a ((n, o, kf), (lr, lc, L), (rr, rc, R), (sr, sc, Z), (1, i, tb, th, tw, 0, tn, fillF 16 (nI 0) sm0, fillF 16 (nI 0) mt, fillF 16 NO rw, fillF 16 NO dn))) H := xP
  have xD : va_D A (wS G a ((n, o, kf), (lr, lc, L), (rr, rc, R), (sr, sc, Z), (1, i, tb, th, tw, 0, tn, fillF 16 (nI 0) sm0, fillF 16 (nI 0) mt, fillF 16 NO rw, fillF 16 NO dn))) := xD
  refine lv_aload_n xE xB dX3_beginTile_23 rfl (lv_at xL 0 rfl) ?_
  refine va_get (D := G.1) (ci := 3) (v := .ref a.2.2.2.2.2.1) (C := RX3) (T := TX3) (N := 5) xE xB xT khX3_beginTile_X3 xO xK.1 xP 0 rfl rfl 4 (by decide) (xT _ kX3_beginTile_f34) (fun _ h9 => h9) rfl dX3_beginTile_24 ?_
  refine lv_iload_n xE xB dX3_beginTile_27 rfl (lv_at xL 2 rfl) ?_
  refine va_put (D := G.1) (ci := 5) (v := .int (nI j)) (ty := .int) (C := RX5) (T := TX5) (N := 11) xE xB xT khX3_beginTile_X5 tyX5 tyX5_ok nmX5 xO xK.1 xP xD xS 9 rfl rfl 2 (by decide) (xT _ kX3_beginTile_f87) (fun _ h9 => h9) rfl (by decide +kernel) rfl rfl (Nat.le_of_ble_eq_true rfl) dX3_beginTile_28 (fun H locs xP xD xS => ?_)
  have xP : va_P G.1 vwCl (wS G a ((n, o, kf), (lr, lc, L), (rr, rc, R), (sr, sc, Z), (1, i, j, th, tw, 0, tn, fillF 16 (nI 0) sm0, fillF 16 (nI 0) mt, fillF 16 NO rw, fillF 16 NO dn))) H := xP
  have xD : va_D A (wS G a ((n, o, kf), (lr, lc, L), (rr, rc, R), (sr, sc, Z), (1, i, j, th, tw, 0, tn, fillF 16 (nI 0) sm0, fillF 16 (nI 0) mt, fillF 16 NO rw, fillF 16 NO dn))) := xD
  refine lv_aload_n xE xB dX3_beginTile_31 rfl (lv_at xL 0 rfl) ?_
  refine va_get (D := G.1) (ci := 3) (v := .ref a.2.2.2.2.2.1) (C := RX3) (T := TX3) (N := 5) xE xB xT khX3_beginTile_X3 xO xK.1 xP 0 rfl rfl 4 (by decide) (xT _ kX3_beginTile_f34) (fun _ h9 => h9) rfl dX3_beginTile_32 ?_
  refine lv_aload_n xE xB dX3_beginTile_35 rfl (lv_at xL 0 rfl) ?_
  refine va_get (D := G.1) (ci := 3) (v := .ref a.2.1.1) (C := RX3) (T := TX3) (N := 5) xE xB xT khX3_beginTile_X3 xO xK.1 xP 0 rfl rfl 0 (by decide) (xT _ kX3_beginTile_f12) (fun _ h9 => h9) rfl dX3_beginTile_36 ?_
  refine va_get (D := G.1) (ci := 2) (v := .int (nI n)) (C := RX2) (T := TX2) (N := 3) xE xB xT khX3_beginTile_X2 xO xK.1 xP 1 rfl rfl 0 (by decide) (xT _ kX3_beginTile_f74) (fun _ h9 => h9) rfl dX3_beginTile_39 ?_
  refine lv_aload_n xE xB dX3_beginTile_42 rfl (lv_at xL 0 rfl) ?_
  refine va_get (D := G.1) (ci := 3) (v := .ref a.2.2.1.1) (C := RX3) (T := TX3) (N := 5) xE xB xT khX3_beginTile_X3 xO xK.1 xP 0 rfl rfl 1 (by decide) (xT _ kX3_beginTile_f21) (fun _ h9 => h9) rfl dX3_beginTile_43 ?_
  refine va_get (D := G.1) (ci := 1) (v := .int (nI lr)) (C := RX1) (T := TX1) (N := 3) xE xB xT khX3_beginTile_X1 xO xK.1 xP 3 rfl rfl 0 (by decide) (xT _ kX3_beginTile_f51) (fun _ h9 => h9) rfl dX3_beginTile_46 ?_
  refine lv_iload_n xE xB dX3_beginTile_49 rfl (lv_at xL 1 rfl) ?_
  refine lv_aload_n xE xB dX3_beginTile_50 rfl (lv_at xL 0 rfl) ?_
  refine va_get (D := G.1) (ci := 3) (v := .ref a.2.1.1) (C := RX3) (T := TX3) (N := 5) xE xB xT khX3_beginTile_X3 xO xK.1 xP 0 rfl rfl 0 (by decide) (xT _ kX3_beginTile_f12) (fun _ h9 => h9) rfl dX3_beginTile_51 ?_
  refine va_get (D := G.1) (ci := 2) (v := .int (nI n)) (C := RX2) (T := TX2) (N := 3) xE xB xT khX3_beginTile_X2 xO xK.1 xP 1 rfl rfl 0 (by decide) (xT _ kX3_beginTile_f74) (fun _ h9 => h9) rfl dX3_beginTile_54 ?_
  refine q_imul xE xB dX3_beginTile_57 ?_
  refine q_eq (y := nI (n * i)) (congrArg nI (Nat.mul_comm _ _)) ?_
  refine q_isub xE xB dX3_beginTile_58 (by omega) ?_
  refine q_mmin xE xB (xM.trans xL.1.symm) xO (xT _ kX3_beginTile_mm90) (xT _ kX3_beginTile_mms) (xT _ kX3_beginTile_mmi) (xT _ kX3_beginTile_mmc) (Nat.le_of_ble_eq_true rfl) (Nat.le_of_ble_eq_true rfl) (Nat.le_refl _) (Nat.le_refl _) (by omega) (by omega) dX3_beginTile_59 ?_
  refine va_put (D := G.1) (ci := 5) (v := .int (nI (min n (lr - (n * i))))) (ty := .int) (C := RX5) (T := TX5) (N := 11) xE xB xT khX3_beginTile_X5 tyX5 tyX5_ok nmX5 xO xK.1 xP xD xS 9 rfl rfl 3 (by decide) (xT _ kX3_beginTile_f96) (fun _ h9 => h9) rfl (by decide +kernel) rfl rfl (Nat.le_of_ble_eq_true rfl) dX3_beginTile_62 (fun H locs xP xD xS => ?_)
  have xP : va_P G.1 vwCl (wS G a ((n, o, kf), (lr, lc, L), (rr, rc, R), (sr, sc, Z), (1, i, j, min n (lr - (n * i)), tw, 0, tn, fillF 16 (nI 0) sm0, fillF 16 (nI 0) mt, fillF 16 NO rw, fillF 16 NO dn))) H := xP
  have xD : va_D A (wS G a ((n, o, kf), (lr, lc, L), (rr, rc, R), (sr, sc, Z), (1, i, j, min n (lr - (n * i)), tw, 0, tn, fillF 16 (nI 0) sm0, fillF 16 (nI 0) mt, fillF 16 NO rw, fillF 16 NO dn))) := xD
  refine lv_aload_n xE xB dX3_beginTile_65 rfl (lv_at xL 0 rfl) ?_
  refine va_get (D := G.1) (ci := 3) (v := .ref a.2.2.2.2.2.1) (C := RX3) (T := TX3) (N := 5) xE xB xT khX3_beginTile_X3 xO xK.1 xP 0 rfl rfl 4 (by decide) (xT _ kX3_beginTile_f34) (fun _ h9 => h9) rfl dX3_beginTile_66 ?_
  refine lv_aload_n xE xB dX3_beginTile_69 rfl (lv_at xL 0 rfl) ?_
  refine va_get (D := G.1) (ci := 3) (v := .ref a.2.1.1) (C := RX3) (T := TX3) (N := 5) xE xB xT khX3_beginTile_X3 xO xK.1 xP 0 rfl rfl 0 (by decide) (xT _ kX3_beginTile_f12) (fun _ h9 => h9) rfl dX3_beginTile_70 ?_
  refine va_get (D := G.1) (ci := 2) (v := .int (nI n)) (C := RX2) (T := TX2) (N := 3) xE xB xT khX3_beginTile_X2 xO xK.1 xP 1 rfl rfl 0 (by decide) (xT _ kX3_beginTile_f74) (fun _ h9 => h9) rfl dX3_beginTile_73 ?_
  refine lv_aload_n xE xB dX3_beginTile_76 rfl (lv_at xL 0 rfl) ?_
  refine va_get (D := G.1) (ci := 3) (v := .ref a.2.2.2.1.1) (C := RX3) (T := TX3) (N := 5) xE xB xT khX3_beginTile_X3 xO xK.1 xP 0 rfl rfl 2 (by decide) (xT _ kX3_beginTile_f25) (fun _ h9 => h9) rfl dX3_beginTile_77 ?_
  refine va_get (D := G.1) (ci := 1) (v := .int (nI rc)) (C := RX1) (T := TX1) (N := 3) xE xB xT khX3_beginTile_X1 xO xK.1 xP 5 rfl rfl 1 (by decide) (xT _ kX3_beginTile_f55) (fun _ h9 => h9) rfl dX3_beginTile_80 ?_
  refine lv_iload_n xE xB dX3_beginTile_83 rfl (lv_at xL 2 rfl) ?_
  refine lv_aload_n xE xB dX3_beginTile_84 rfl (lv_at xL 0 rfl) ?_
  refine va_get (D := G.1) (ci := 3) (v := .ref a.2.1.1) (C := RX3) (T := TX3) (N := 5) xE xB xT khX3_beginTile_X3 xO xK.1 xP 0 rfl rfl 0 (by decide) (xT _ kX3_beginTile_f12) (fun _ h9 => h9) rfl dX3_beginTile_85 ?_
  refine va_get (D := G.1) (ci := 2) (v := .int (nI n)) (C := RX2) (T := TX2) (N := 3) xE xB xT khX3_beginTile_X2 xO xK.1 xP 1 rfl rfl 0 (by decide) (xT _ kX3_beginTile_f74) (fun _ h9 => h9) rfl dX3_beginTile_88 ?_
  refine q_imul xE xB dX3_beginTile_91 ?_
  refine q_eq (y := nI (n * j)) (congrArg nI (Nat.mul_comm _ _)) ?_
  refine q_isub xE xB dX3_beginTile_92 (by omega) ?_
  refine q_mmin xE xB (xM.trans xL.1.symm) xO (xT _ kX3_beginTile_mm90) (xT _ kX3_beginTile_mms) (xT _ kX3_beginTile_mmi) (xT _ kX3_beginTile_mmc) (Nat.le_of_ble_eq_true rfl) (Nat.le_of_ble_eq_true rfl) (Nat.le_refl _) (Nat.le_refl _) (by omega) (by omega) dX3_beginTile_93 ?_
  refine va_put (D := G.1) (ci := 5) (v := .int (nI (min n (rc - (n * j))))) (ty := .int) (C := RX5) (T := TX5) (N := 11) xE xB xT khX3_beginTile_X5 tyX5 tyX5_ok nmX5 xO xK.1 xP xD xS 9 rfl rfl 4 (by decide) (xT _ kX3_beginTile_f99) (fun _ h9 => h9) rfl (by decide +kernel) rfl rfl (Nat.le_of_ble_eq_true rfl) dX3_beginTile_96 (fun H locs xP xD xS => ?_)
  have xP : va_P G.1 vwCl (wS G a ((n, o, kf), (lr, lc, L), (rr, rc, R), (sr, sc, Z), (1, i, j, min n (lr - (n * i)), min n (rc - (n * j)), 0, tn, fillF 16 (nI 0) sm0, fillF 16 (nI 0) mt, fillF 16 NO rw, fillF 16 NO dn))) H := xP
  have xD : va_D A (wS G a ((n, o, kf), (lr, lc, L), (rr, rc, R), (sr, sc, Z), (1, i, j, min n (lr - (n * i)), min n (rc - (n * j)), 0, tn, fillF 16 (nI 0) sm0, fillF 16 (nI 0) mt, fillF 16 NO rw, fillF 16 NO dn))) := xD
  refine lv_aload_n xE xB dX3_beginTile_99 rfl (lv_at xL 0 rfl) ?_
  refine va_get (D := G.1) (ci := 3) (v := .ref a.2.2.2.2.2.1) (C := RX3) (T := TX3) (N := 5) xE xB xT khX3_beginTile_X3 xO xK.1 xP 0 rfl rfl 4 (by decide) (xT _ kX3_beginTile_f34) (fun _ h9 => h9) rfl dX3_beginTile_100 ?_
  refine lv_aload_n xE xB dX3_beginTile_103 rfl (lv_at xL 0 rfl) ?_
  refine va_get (D := G.1) (ci := 3) (v := .ref a.2.2.2.2.2.1) (C := RX3) (T := TX3) (N := 5) xE xB xT khX3_beginTile_X3 xO xK.1 xP 0 rfl rfl 4 (by decide) (xT _ kX3_beginTile_f34) (fun _ h9 => h9) rfl dX3_beginTile_104 ?_
  refine va_get (D := G.1) (ci := 5) (v := .int (nI (min n (lr - (n * i))))) (C := RX5) (T := TX5) (N := 11) xE xB xT khX3_beginTile_X5 xO xK.1 xP 9 rfl rfl 3 (by decide) (xT _ kX3_beginTile_f96) (fun _ h9 => h9) rfl dX3_beginTile_107 ?_
  refine lv_aload_n xE xB dX3_beginTile_110 rfl (lv_at xL 0 rfl) ?_
  refine va_get (D := G.1) (ci := 3) (v := .ref a.2.2.2.2.2.1) (C := RX3) (T := TX3) (N := 5) xE xB xT khX3_beginTile_X3 xO xK.1 xP 0 rfl rfl 4 (by decide) (xT _ kX3_beginTile_f34) (fun _ h9 => h9) rfl dX3_beginTile_111 ?_
  refine va_get (D := G.1) (ci := 5) (v := .int (nI (min n (rc - (n * j))))) (C := RX5) (T := TX5) (N := 11) xE xB xT khX3_beginTile_X5 xO xK.1 xP 9 rfl rfl 4 (by decide) (xT _ kX3_beginTile_f99) (fun _ h9 => h9) rfl dX3_beginTile_114 ?_
  refine q_iadd xE xB dX3_beginTile_117 ?_
  refine lv_aload_n xE xB dX3_beginTile_118 rfl (lv_at xL 0 rfl) ?_
  refine va_get (D := G.1) (ci := 3) (v := .ref a.2.2.1.1) (C := RX3) (T := TX3) (N := 5) xE xB xT khX3_beginTile_X3 xO xK.1 xP 0 rfl rfl 1 (by decide) (xT _ kX3_beginTile_f21) (fun _ h9 => h9) rfl dX3_beginTile_119 ?_
  refine va_get (D := G.1) (ci := 1) (v := .int (nI lc)) (C := RX1) (T := TX1) (N := 3) xE xB xT khX3_beginTile_X1 xO xK.1 xP 3 rfl rfl 1 (by decide) (xT _ kX3_beginTile_f55) (fun _ h9 => h9) rfl dX3_beginTile_122 ?_
  refine q_iadd xE xB dX3_beginTile_125 ?_
  refine lv_iconst (v := nI 2) xE xB dX3_beginTile_126 (by decide) ?_
  refine q_isub xE xB dX3_beginTile_127 (by omega) ?_
  refine q_eq (y := nI (need lc n lr rc i j)) (rfl) ?_
  refine va_put (D := G.1) (ci := 5) (v := .int (nI (need lc n lr rc i j))) (ty := .int) (C := RX5) (T := TX5) (N := 11) xE xB xT khX3_beginTile_X5 tyX5 tyX5_ok nmX5 xO xK.1 xP xD xS 9 rfl rfl 6 (by decide) (xT _ kX3_beginTile_f102) (fun _ h9 => h9) rfl (by decide +kernel) rfl rfl (Nat.le_of_ble_eq_true rfl) dX3_beginTile_128 (fun H locs xP xD xS => ?_)
  have xP : va_P G.1 vwCl (wS G a ((n, o, kf), (lr, lc, L), (rr, rc, R), (sr, sc, Z), (1, i, j, min n (lr - (n * i)), min n (rc - (n * j)), 0, need lc n lr rc i j, fillF 16 (nI 0) sm0, fillF 16 (nI 0) mt, fillF 16 NO rw, fillF 16 NO dn))) H := xP
  have xD : va_D A (wS G a ((n, o, kf), (lr, lc, L), (rr, rc, R), (sr, sc, Z), (1, i, j, min n (lr - (n * i)), min n (rc - (n * j)), 0, need lc n lr rc i j, fillF 16 (nI 0) sm0, fillF 16 (nI 0) mt, fillF 16 NO rw, fillF 16 NO dn))) := xD
  exact xQ _ _ _ _ () trivial xP xD xS dX3_beginTile_131
theorem kX3_fromLeft_c58 : Cond.constant RX3 58 (-999999999) ∈ wsX3_fromLeft := by decide +kernel
theorem kX3_fromLeft_f12 : Cond.fieldLink RX3 12 "SkewedSquare$State" "square" "LSkewedSquare$Square;" ∈ wsX3_fromLeft := by decide +kernel
theorem kX3_fromLeft_f130 : Cond.fieldLink RX3 130 "SkewedSquare$Tile" "ticks" "I" ∈ wsX3_fromLeft := by decide +kernel
theorem kX3_fromLeft_f21 : Cond.fieldLink RX3 21 "SkewedSquare$State" "leftMatrix" "LSkewedSquare$Matrix;" ∈ wsX3_fromLeft := by decide +kernel
theorem kX3_fromLeft_f34 : Cond.fieldLink RX3 34 "SkewedSquare$State" "tile" "LSkewedSquare$Tile;" ∈ wsX3_fromLeft := by decide +kernel
theorem kX3_fromLeft_f74 : Cond.fieldLink RX3 74 "SkewedSquare$Square" "side" "I" ∈ wsX3_fromLeft := by decide +kernel
theorem kX3_fromLeft_f84 : Cond.fieldLink RX3 84 "SkewedSquare$Tile" "row" "I" ∈ wsX3_fromLeft := by decide +kernel
theorem khX3_fromLeft_X2 : ∀ w ∈ u_ws RX2 TX2 3, w ∈ wsX3_fromLeft := by decide +kernel
theorem khX3_fromLeft_X3 : ∀ w ∈ u_ws RX3 TX3 5, w ∈ wsX3_fromLeft := by decide +kernel
theorem khX3_fromLeft_X5 : ∀ w ∈ u_ws RX5 TX5 11, w ∈ wsX3_fromLeft := by decide +kernel
set_option maxHeartbeats 4000000 in
set_option maxRecDepth 100000 in
/-- kX3_fromLeft -/
theorem kX3_fromLeft (l : Launch) (G : wG) (a : SA) (n o : Nat) (kf : wF) (lr lc : Nat) (L : wF) (rr rc : Nat) (R : wF) (sr sc : Nat) (Z : wF) (b ta tb th tw tt tn : Nat) (sm0 mt rw dn : wF) (s : wF) (i j : Nat) (hM : RelM lr lc rc L R s) (hC : CellR sm0 mt rw dn s) (hn : n ≤ 4) (hrr : rr = lc) (hi : i < 4) (hj : j < 4) (htt : tt ≤ 20) (hr : n * ta + i < lr) : CR l yX3_fromLeft wsX3_fromLeft (rm 2 41) G [.ref a.1, .int (nI i), .int (nI j)] (wS G a ((n, o, kf), (lr, lc, L), (rr, rc, R), (sr, sc, Z), (b, ta, tb, th, tw, tt, tn, sm0, mt, rw, dn))) (fun x => x = (gL lc n ta tt i j s).getD NO) := by
  refine CR.of (own := RX3) rfl (by decide) rfl (Nat.le_of_ble_eq_true rfl) ?_
  intro p9 e9 s9 m9 b9 t9 c9 xE xB xM xO xT xK xP Q xQ ls hl
  have xL : lv_has ls 5 [(0, .ref a.1), (1, .int (nI i)), (2, .int (nI j))] := hl
  obtain ⟨hb1, hb2, hb3, hb4, hb5, hb6⟩ := hM.2.2.2.1
  refine lv_iload_n xE xB dX3_fromLeft_0 rfl (lv_at xL 2 rfl) ?_
  refine q_if_le (tgt := 19) xE xB dX3_fromLeft_1 (by decide) (by omega) (fun c_1 => ?_) (fun c_1 => ?_)
  · skip
    refine lv_aload_n xE xB dX3_fromLeft_19 rfl (lv_at xL 0 rfl) ?_
    refine va_get (D := G.1) (ci := 3) (v := .ref a.2.2.2.2.2.1) (C := RX3) (T := TX3) (N := 5) xE xB xT khX3_fromLeft_X3 xO xK.1 xP 0 rfl rfl 4 (by decide) (xT _ kX3_fromLeft_f34) (fun _ h9 => h9) rfl dX3_fromLeft_20 ?_
    refine va_get (D := G.1) (ci := 5) (v := .int (nI ta)) (C := RX5) (T := TX5) (N := 11) xE xB xT khX3_fromLeft_X5 xO xK.1 xP 9 rfl rfl 1 (by decide) (xT _ kX3_fromLeft_f84) (fun _ h9 => h9) rfl dX3_fromLeft_23 ?_
    refine lv_aload_n xE xB dX3_fromLeft_26 rfl (lv_at xL 0 rfl) ?_
    refine va_get (D := G.1) (ci := 3) (v := .ref a.2.1.1) (C := RX3) (T := TX3) (N := 5) xE xB xT khX3_fromLeft_X3 xO xK.1 xP 0 rfl rfl 0 (by decide) (xT _ kX3_fromLeft_f12) (fun _ h9 => h9) rfl dX3_fromLeft_27 ?_
    refine va_get (D := G.1) (ci := 2) (v := .int (nI n)) (C := RX2) (T := TX2) (N := 3) xE xB xT khX3_fromLeft_X2 xO xK.1 xP 1 rfl rfl 0 (by decide) (xT _ kX3_fromLeft_f74) (fun _ h9 => h9) rfl dX3_fromLeft_30 ?_
    refine q_imul xE xB dX3_fromLeft_33 ?_
    refine q_eq (y := nI (n * ta)) (congrArg nI (Nat.mul_comm _ _)) ?_
    refine lv_iload_n xE xB dX3_fromLeft_34 rfl (lv_at xL 1 rfl) ?_
    refine q_iadd xE xB dX3_fromLeft_35 ?_
    refine lv_istore_n (lv' := [(3, .int (nI ((n * ta) + i))), (0, .ref a.1), (1, .int (nI i)), (2, .int (nI j))]) xE xB dX3_fromLeft_36 rfl xL (by decide) rfl (fun ls xL => ?_)
    refine lv_aload_n xE xB dX3_fromLeft_37 rfl (lv_at xL 1 rfl) ?_
    refine va_get (D := G.1) (ci := 3) (v := .ref a.2.2.2.2.2.1) (C := RX3) (T := TX3) (N := 5) xE xB xT khX3_fromLeft_X3 xO xK.1 xP 0 rfl rfl 4 (by decide) (xT _ kX3_fromLeft_f34) (fun _ h9 => h9) rfl dX3_fromLeft_38 ?_
    refine va_get (D := G.1) (ci := 5) (v := .int (nI tt)) (C := RX5) (T := TX5) (N := 11) xE xB xT khX3_fromLeft_X5 xO xK.1 xP 9 rfl rfl 5 (by decide) (xT _ kX3_fromLeft_f130) (fun _ h9 => h9) rfl dX3_fromLeft_41 ?_
    refine lv_iload_n xE xB dX3_fromLeft_44 rfl (lv_at xL 2 rfl) ?_
    refine lv_isub xE xB dX3_fromLeft_45 ?_
    refine lv_istore (lv' := [(4, .int ((nI tt) - (nI i))), (3, .int (nI ((n * ta) + i))), (0, .ref a.1), (1, .int (nI i)), (2, .int (nI j))]) xE xB dX3_fromLeft_46 xL (by decide) rfl (fun ls xL => ?_)
    refine lv_aload_n xE xB dX3_fromLeft_48 rfl (lv_at xL 2 rfl) ?_
    refine va_get (D := G.1) (ci := 3) (v := .ref a.2.2.1.1) (C := RX3) (T := TX3) (N := 5) xE xB xT khX3_fromLeft_X3 xO xK.1 xP 0 rfl rfl 1 (by decide) (xT _ kX3_fromLeft_f21) (fun _ h9 => h9) rfl dX3_fromLeft_49 ?_
    refine lv_iload_n xE xB dX3_fromLeft_52 rfl (lv_at xL 1 rfl) ?_
    refine lv_iload xE xB dX3_fromLeft_53 (lv_at xL 0 rfl) ?_
    refine q_VR (As := [.int (nI ((n * ta) + i)), .int ((nI tt) - (nI i))]) (rest := []) ⟨xE, xB, xM, xO, xT⟩ (kX1_has l G a.2.2.1 lr lc L (nI ((n * ta) + i)) ((nI tt) - (nI i)) (by omega) (by omega)) (cwV 2 xT gX3_fromLeft_X1_has rfl rfl rfl (by decide +kernel) ⟨Nat.le_of_ble_eq_true rfl, Nat.le_of_ble_eq_true rfl⟩) xK xP [3, 4] rfl 0 rfl rfl rfl rfl xL.1 rfl (Nat.le_of_ble_eq_true rfl) dX3_fromLeft_55 ⟨Nat.le_refl _, Nat.le_refl _⟩ (fun r_55 h_55 => ?_)
    rcases h_55 with ⟨h_55, c_55⟩ | ⟨h_55, c_55⟩
    · skip
      subst h_55
      have c_55 : vp_in (nI ((n * ta) + i)) lr ∧ vp_in ((nI tt) - (nI i)) lc := c_55
      refine lv_if_eq (tgt := 74) xE xB dX3_fromLeft_58 (by decide) (fun h9 => absurd h9 (by decide)) (fun _ => ?_)
      have g_0 := fL_4 c_55.2
      obtain ⟨g_1, g_2⟩ := g_0
      have e4 : nI tt - nI i = nI (tt - i) := pk_sub g_1
      rw [e4] at xL
      have xL : lv_has ls 5 [(4, .int (nI (tt - i))), (3, .int (nI ((n * ta) + i))), (0, .ref a.1), (1, .int (nI i)), (2, .int (nI j))] := xL
      refine lv_aload_n xE xB dX3_fromLeft_61 rfl (lv_at xL 2 rfl) ?_
      refine va_get (D := G.1) (ci := 3) (v := .ref a.2.2.1.1) (C := RX3) (T := TX3) (N := 5) xE xB xT khX3_fromLeft_X3 xO xK.1 xP 0 rfl rfl 1 (by decide) (xT _ kX3_fromLeft_f21) (fun _ h9 => h9) rfl dX3_fromLeft_62 ?_
      refine lv_iload_n xE xB dX3_fromLeft_65 rfl (lv_at xL 1 rfl) ?_
      refine lv_iload xE xB dX3_fromLeft_66 (lv_at xL 0 rfl) ?_
      refine q_VR (As := [.int (nI ((n * ta) + i)), .int (nI (tt - i))]) (rest := []) ⟨xE, xB, xM, xO, xT⟩ (kX1_at l G a.2.2.1 lr lc L ((n * ta) + i) (tt - i) (by omega) (by omega) (by omega) (by omega)) (cwV 2 xT gX3_fromLeft_X1_at rfl rfl rfl (by decide +kernel) ⟨Nat.le_of_ble_eq_true rfl, Nat.le_of_ble_eq_true rfl⟩) xK xP [3, 4] rfl 0 rfl rfl rfl rfl xL.1 rfl (Nat.le_of_ble_eq_true rfl) dX3_fromLeft_68 ⟨Nat.le_refl _, Nat.le_refl _⟩ (fun r_68 h_68 => ?_)
      obtain rfl : r_68 = L (6 * ((n * ta) + i) + (tt - i)) := h_68
      refine lv_goto (tgt := 76) xE xB dX3_fromLeft_71 (by decide) ?_
      exact xQ _ _ _ (by first | exact fL_2 hM c_1 g_1 g_2 (by omega) | exact fL_3 c_1 c_55) dX3_fromLeft_76
    · skip
      subst h_55
      have c_55 : ¬ (vp_in (nI ((n * ta) + i)) lr ∧ vp_in ((nI tt) - (nI i)) lc) := c_55
      refine lv_if_eq (tgt := 74) xE xB dX3_fromLeft_58 (by decide) (fun _ => ?_) (fun h9 => absurd (by decide) h9)
      refine lv_ldc (v := (-999999999)) xE xB xO (xT _ kX3_fromLeft_c58) dX3_fromLeft_74 ?_
      exact xQ _ _ _ (by first | exact fL_2 hM c_1 g_1 g_2 (by omega) | exact fL_3 c_1 c_55) dX3_fromLeft_76
  · skip
    refine lv_aload_n xE xB dX3_fromLeft_4 rfl (lv_at xL 0 rfl) ?_
    refine va_get (D := G.1) (ci := 3) (v := .ref a.2.2.2.2.2.1) (C := RX3) (T := TX3) (N := 5) xE xB xT khX3_fromLeft_X3 xO xK.1 xP 0 rfl rfl 4 (by decide) (xT _ kX3_fromLeft_f34) (fun _ h9 => h9) rfl dX3_fromLeft_5 ?_
    refine lv_iload_n xE xB dX3_fromLeft_8 rfl (lv_at xL 1 rfl) ?_
    refine lv_iload_n xE xB dX3_fromLeft_9 rfl (lv_at xL 2 rfl) ?_
    refine lv_iconst (v := nI 1) xE xB dX3_fromLeft_10 (by decide) ?_
    refine q_isub xE xB dX3_fromLeft_11 (by omega) ?_
    refine q_SR (As := [.int (nI i), .int (nI (j - 1))]) (rest := [.ref a.2.2.2.2.2.1]) ⟨xE, xB, xM, xO, xT⟩ (kX5_cell l G i (j - 1)) (va_cwS 2 xT gX3_fromLeft_X5_cell rfl rfl rfl (by decide +kernel) ⟨Nat.le_of_ble_eq_true rfl, Nat.le_of_ble_eq_true rfl⟩) xK xP [] rfl rfl xL.1 rfl (Nat.le_of_ble_eq_true rfl) dX3_fromLeft_12 ⟨Nat.le_refl _, Nat.le_refl _⟩ (fun r_12 h_12 => ?_)
    obtain rfl : r_12 = nI (4 * i + (j - 1)) := h_12
    refine q_VR (As := [.int (nI (4 * i + (j - 1)))]) (rest := []) ⟨xE, xB, xM, xO, xT⟩ (kX5_rightwardOf l G a.2.2.2.2.2 b ta tb th tw tt tn sm0 mt rw dn (4 * i + (j - 1)) (by omega)) (cwV 1 xT gX3_fromLeft_X5_rightwardOf rfl rfl rfl (by decide +kernel) ⟨Nat.le_of_ble_eq_true rfl, Nat.le_of_ble_eq_true rfl⟩) xK xP [9, 10, 11, 12, 13] rfl 0 rfl rfl rfl rfl xL.1 rfl (Nat.le_of_ble_eq_true rfl) dX3_fromLeft_15 ⟨Nat.le_refl _, Nat.le_refl _⟩ (fun r_15 h_15 => ?_)
    obtain rfl : r_15 = rw (4 * i + (j - 1)) := h_15
    exact xQ _ _ _ (by exact fL_1 (hC i (j - 1) hi (by omega)).2.2.1 c_1) dX3_fromLeft_18
theorem kX3_fromAbove_c58 : Cond.constant RX3 58 (-999999999) ∈ wsX3_fromAbove := by decide +kernel
theorem kX3_fromAbove_f12 : Cond.fieldLink RX3 12 "SkewedSquare$State" "square" "LSkewedSquare$Square;" ∈ wsX3_fromAbove := by decide +kernel
theorem kX3_fromAbove_f130 : Cond.fieldLink RX3 130 "SkewedSquare$Tile" "ticks" "I" ∈ wsX3_fromAbove := by decide +kernel
theorem kX3_fromAbove_f25 : Cond.fieldLink RX3 25 "SkewedSquare$State" "rightMatrix" "LSkewedSquare$Matrix;" ∈ wsX3_fromAbove := by decide +kernel
theorem kX3_fromAbove_f34 : Cond.fieldLink RX3 34 "SkewedSquare$State" "tile" "LSkewedSquare$Tile;" ∈ wsX3_fromAbove := by decide +kernel
theorem kX3_fromAbove_f74 : Cond.fieldLink RX3 74 "SkewedSquare$Square" "side" "I" ∈ wsX3_fromAbove := by decide +kernel
theorem kX3_fromAbove_f87 : Cond.fieldLink RX3 87 "SkewedSquare$Tile" "column" "I" ∈ wsX3_fromAbove := by decide +kernel
theorem khX3_fromAbove_X2 : ∀ w ∈ u_ws RX2 TX2 3, w ∈ wsX3_fromAbove := by decide +kernel
theorem khX3_fromAbove_X3 : ∀ w ∈ u_ws RX3 TX3 5, w ∈ wsX3_fromAbove := by decide +kernel
theorem khX3_fromAbove_X5 : ∀ w ∈ u_ws RX5 TX5 11, w ∈ wsX3_fromAbove := by decide +kernel
set_option maxHeartbeats 4000000 in
set_option maxRecDepth 100000 in
/-- kX3_fromAbove -/
theorem kX3_fromAbove (l : Launch) (G : wG) (a : SA) (n o : Nat) (kf : wF) (lr lc : Nat) (L : wF) (rr rc : Nat) (R : wF) (sr sc : Nat) (Z : wF) (b ta tb th tw tt tn : Nat) (sm0 mt rw dn : wF) (s : wF) (i j : Nat) (hM : RelM lr lc rc L R s) (hC : CellR sm0 mt rw dn s) (hn : n ≤ 4) (hrr : rr = lc) (hi : i < 4) (hj : j < 4) (htt : tt ≤ 20) (hr : n * tb + j < rc) : CR l yX3_fromAbove wsX3_fromAbove (rm 2 41) G [.ref a.1, .int (nI i), .int (nI j)] (wS G a ((n, o, kf), (lr, lc, L), (rr, rc, R), (sr, sc, Z), (b, ta, tb, th, tw, tt, tn, sm0, mt, rw, dn))) (fun x => x = (gA lc n tb tt i j s).getD NO) := by
  refine CR.of (own := RX3) rfl (by decide) rfl (Nat.le_of_ble_eq_true rfl) ?_
  intro p9 e9 s9 m9 b9 t9 c9 xE xB xM xO xT xK xP Q xQ ls hl
  have xL : lv_has ls 5 [(0, .ref a.1), (1, .int (nI i)), (2, .int (nI j))] := hl
  obtain ⟨hb1, hb2, hb3, hb4, hb5, hb6⟩ := hM.2.2.2.1
  refine lv_iload_n xE xB dX3_fromAbove_0 rfl (lv_at xL 1 rfl) ?_
  refine q_if_le (tgt := 19) xE xB dX3_fromAbove_1 (by decide) (by omega) (fun c_1 => ?_) (fun c_1 => ?_)
  · skip
    refine lv_aload_n xE xB dX3_fromAbove_19 rfl (lv_at xL 0 rfl) ?_
    refine va_get (D := G.1) (ci := 3) (v := .ref a.2.2.2.2.2.1) (C := RX3) (T := TX3) (N := 5) xE xB xT khX3_fromAbove_X3 xO xK.1 xP 0 rfl rfl 4 (by decide) (xT _ kX3_fromAbove_f34) (fun _ h9 => h9) rfl dX3_fromAbove_20 ?_
    refine va_get (D := G.1) (ci := 5) (v := .int (nI tb)) (C := RX5) (T := TX5) (N := 11) xE xB xT khX3_fromAbove_X5 xO xK.1 xP 9 rfl rfl 2 (by decide) (xT _ kX3_fromAbove_f87) (fun _ h9 => h9) rfl dX3_fromAbove_23 ?_
    refine lv_aload_n xE xB dX3_fromAbove_26 rfl (lv_at xL 0 rfl) ?_
    refine va_get (D := G.1) (ci := 3) (v := .ref a.2.1.1) (C := RX3) (T := TX3) (N := 5) xE xB xT khX3_fromAbove_X3 xO xK.1 xP 0 rfl rfl 0 (by decide) (xT _ kX3_fromAbove_f12) (fun _ h9 => h9) rfl dX3_fromAbove_27 ?_
    refine va_get (D := G.1) (ci := 2) (v := .int (nI n)) (C := RX2) (T := TX2) (N := 3) xE xB xT khX3_fromAbove_X2 xO xK.1 xP 1 rfl rfl 0 (by decide) (xT _ kX3_fromAbove_f74) (fun _ h9 => h9) rfl dX3_fromAbove_30 ?_
    refine q_imul xE xB dX3_fromAbove_33 ?_
    refine q_eq (y := nI (n * tb)) (congrArg nI (Nat.mul_comm _ _)) ?_
    refine lv_iload_n xE xB dX3_fromAbove_34 rfl (lv_at xL 2 rfl) ?_
    refine q_iadd xE xB dX3_fromAbove_35 ?_
    refine lv_istore_n (lv' := [(3, .int (nI ((n * tb) + j))), (0, .ref a.1), (1, .int (nI i)), (2, .int (nI j))]) xE xB dX3_fromAbove_36 rfl xL (by decide) rfl (fun ls xL => ?_)
    refine lv_aload_n xE xB dX3_fromAbove_37 rfl (lv_at xL 1 rfl) ?_
    refine va_get (D := G.1) (ci := 3) (v := .ref a.2.2.2.2.2.1) (C := RX3) (T := TX3) (N := 5) xE xB xT khX3_fromAbove_X3 xO xK.1 xP 0 rfl rfl 4 (by decide) (xT _ kX3_fromAbove_f34) (fun _ h9 => h9) rfl dX3_fromAbove_38 ?_
    refine va_get (D := G.1) (ci := 5) (v := .int (nI tt)) (C := RX5) (T := TX5) (N := 11) xE xB xT khX3_fromAbove_X5 xO xK.1 xP 9 rfl rfl 5 (by decide) (xT _ kX3_fromAbove_f130) (fun _ h9 => h9) rfl dX3_fromAbove_41 ?_
    refine lv_iload_n xE xB dX3_fromAbove_44 rfl (lv_at xL 3 rfl) ?_
    refine lv_isub xE xB dX3_fromAbove_45 ?_
    refine lv_istore (lv' := [(4, .int ((nI tt) - (nI j))), (3, .int (nI ((n * tb) + j))), (0, .ref a.1), (1, .int (nI i)), (2, .int (nI j))]) xE xB dX3_fromAbove_46 xL (by decide) rfl (fun ls xL => ?_)
    refine lv_aload_n xE xB dX3_fromAbove_48 rfl (lv_at xL 2 rfl) ?_
    refine va_get (D := G.1) (ci := 3) (v := .ref a.2.2.2.1.1) (C := RX3) (T := TX3) (N := 5) xE xB xT khX3_fromAbove_X3 xO xK.1 xP 0 rfl rfl 2 (by decide) (xT _ kX3_fromAbove_f25) (fun _ h9 => h9) rfl dX3_fromAbove_49 ?_
    refine lv_iload xE xB dX3_fromAbove_52 (lv_at xL 0 rfl) ?_
    refine lv_iload_n xE xB dX3_fromAbove_54 rfl (lv_at xL 1 rfl) ?_
    refine q_VR (As := [.int ((nI tt) - (nI j)), .int (nI ((n * tb) + j))]) (rest := []) ⟨xE, xB, xM, xO, xT⟩ (kX1_has l G a.2.2.2.1 rr rc R ((nI tt) - (nI j)) (nI ((n * tb) + j)) (by omega) (by omega)) (cwV 2 xT gX3_fromAbove_X1_has rfl rfl rfl (by decide +kernel) ⟨Nat.le_of_ble_eq_true rfl, Nat.le_of_ble_eq_true rfl⟩) xK xP [5, 6] rfl 0 rfl rfl rfl rfl xL.1 rfl (Nat.le_of_ble_eq_true rfl) dX3_fromAbove_55 ⟨Nat.le_refl _, Nat.le_refl _⟩ (fun r_55 h_55 => ?_)
    rcases h_55 with ⟨h_55, c_55⟩ | ⟨h_55, c_55⟩
    · skip
      subst h_55
      have c_55 : vp_in ((nI tt) - (nI j)) rr ∧ vp_in (nI ((n * tb) + j)) rc := c_55
      refine lv_if_eq (tgt := 74) xE xB dX3_fromAbove_58 (by decide) (fun h9 => absurd h9 (by decide)) (fun _ => ?_)
      have g_0 := fL_4 c_55.1
      rw [hrr] at g_0
      obtain ⟨g_1, g_2⟩ := g_0
      have e4 : nI tt - nI j = nI (tt - j) := pk_sub g_1
      rw [e4] at xL
      have xL : lv_has ls 5 [(4, .int (nI (tt - j))), (3, .int (nI ((n * tb) + j))), (0, .ref a.1), (1, .int (nI i)), (2, .int (nI j))] := xL
      refine lv_aload_n xE xB dX3_fromAbove_61 rfl (lv_at xL 2 rfl) ?_
      refine va_get (D := G.1) (ci := 3) (v := .ref a.2.2.2.1.1) (C := RX3) (T := TX3) (N := 5) xE xB xT khX3_fromAbove_X3 xO xK.1 xP 0 rfl rfl 2 (by decide) (xT _ kX3_fromAbove_f25) (fun _ h9 => h9) rfl dX3_fromAbove_62 ?_
      refine lv_iload xE xB dX3_fromAbove_65 (lv_at xL 0 rfl) ?_
      refine lv_iload_n xE xB dX3_fromAbove_67 rfl (lv_at xL 1 rfl) ?_
      refine q_VR (As := [.int (nI (tt - j)), .int (nI ((n * tb) + j))]) (rest := []) ⟨xE, xB, xM, xO, xT⟩ (kX1_at l G a.2.2.2.1 rr rc R (tt - j) ((n * tb) + j) (by omega) (by omega) (by omega) (by omega)) (cwV 2 xT gX3_fromAbove_X1_at rfl rfl rfl (by decide +kernel) ⟨Nat.le_of_ble_eq_true rfl, Nat.le_of_ble_eq_true rfl⟩) xK xP [5, 6] rfl 0 rfl rfl rfl rfl xL.1 rfl (Nat.le_of_ble_eq_true rfl) dX3_fromAbove_68 ⟨Nat.le_refl _, Nat.le_refl _⟩ (fun r_68 h_68 => ?_)
      obtain rfl : r_68 = R (6 * (tt - j) + ((n * tb) + j)) := h_68
      refine lv_goto (tgt := 76) xE xB dX3_fromAbove_71 (by decide) ?_
      exact xQ _ _ _ (by first | exact fA_2 hM c_1 g_1 g_2 (by omega) | exact fA_3 c_1 c_55) dX3_fromAbove_76
    · skip
      subst h_55
      have c_55 : ¬ (vp_in ((nI tt) - (nI j)) rr ∧ vp_in (nI ((n * tb) + j)) rc) := c_55
      refine lv_if_eq (tgt := 74) xE xB dX3_fromAbove_58 (by decide) (fun _ => ?_) (fun h9 => absurd (by decide) h9)
      refine lv_ldc (v := (-999999999)) xE xB xO (xT _ kX3_fromAbove_c58) dX3_fromAbove_74 ?_
      exact xQ _ _ _ (by first | exact fA_2 hM c_1 g_1 g_2 (by omega) | exact fA_3 c_1 c_55) dX3_fromAbove_76
  · skip
    refine lv_aload_n xE xB dX3_fromAbove_4 rfl (lv_at xL 0 rfl) ?_
    refine va_get (D := G.1) (ci := 3) (v := .ref a.2.2.2.2.2.1) (C := RX3) (T := TX3) (N := 5) xE xB xT khX3_fromAbove_X3 xO xK.1 xP 0 rfl rfl 4 (by decide) (xT _ kX3_fromAbove_f34) (fun _ h9 => h9) rfl dX3_fromAbove_5 ?_
    refine lv_iload_n xE xB dX3_fromAbove_8 rfl (lv_at xL 1 rfl) ?_
    refine lv_iconst (v := nI 1) xE xB dX3_fromAbove_9 (by decide) ?_
    refine q_isub xE xB dX3_fromAbove_10 (by omega) ?_
    refine lv_iload_n xE xB dX3_fromAbove_11 rfl (lv_at xL 2 rfl) ?_
    refine q_SR (As := [.int (nI (i - 1)), .int (nI j)]) (rest := [.ref a.2.2.2.2.2.1]) ⟨xE, xB, xM, xO, xT⟩ (kX5_cell l G (i - 1) j) (va_cwS 2 xT gX3_fromAbove_X5_cell rfl rfl rfl (by decide +kernel) ⟨Nat.le_of_ble_eq_true rfl, Nat.le_of_ble_eq_true rfl⟩) xK xP [] rfl rfl xL.1 rfl (Nat.le_of_ble_eq_true rfl) dX3_fromAbove_12 ⟨Nat.le_refl _, Nat.le_refl _⟩ (fun r_12 h_12 => ?_)
    obtain rfl : r_12 = nI (4 * (i - 1) + j) := h_12
    refine q_VR (As := [.int (nI (4 * (i - 1) + j))]) (rest := []) ⟨xE, xB, xM, xO, xT⟩ (kX5_downwardOf l G a.2.2.2.2.2 b ta tb th tw tt tn sm0 mt rw dn (4 * (i - 1) + j) (by omega)) (cwV 1 xT gX3_fromAbove_X5_downwardOf rfl rfl rfl (by decide +kernel) ⟨Nat.le_of_ble_eq_true rfl, Nat.le_of_ble_eq_true rfl⟩) xK xP [9, 10, 11, 12, 13] rfl 0 rfl rfl rfl rfl xL.1 rfl (Nat.le_of_ble_eq_true rfl) dX3_fromAbove_15 ⟨Nat.le_refl _, Nat.le_refl _⟩ (fun r_15 h_15 => ?_)
    obtain rfl : r_15 = dn (4 * (i - 1) + j) := h_15
    exact xQ _ _ _ (by exact fA_1 (hC (i - 1) j (by omega) hj).2.2.2 c_1) dX3_fromAbove_18
theorem kX3_goOnce_f12 : Cond.fieldLink RX3 12 "SkewedSquare$State" "square" "LSkewedSquare$Square;" ∈ wsX3_goOnce := by decide +kernel
theorem kX3_goOnce_f130 : Cond.fieldLink RX3 130 "SkewedSquare$Tile" "ticks" "I" ∈ wsX3_goOnce := by decide +kernel
theorem kX3_goOnce_f34 : Cond.fieldLink RX3 34 "SkewedSquare$State" "tile" "LSkewedSquare$Tile;" ∈ wsX3_goOnce := by decide +kernel
theorem kX3_goOnce_f96 : Cond.fieldLink RX3 96 "SkewedSquare$Tile" "height" "I" ∈ wsX3_goOnce := by decide +kernel
theorem kX3_goOnce_f99 : Cond.fieldLink RX3 99 "SkewedSquare$Tile" "width" "I" ∈ wsX3_goOnce := by decide +kernel
theorem khX3_goOnce_X3 : ∀ w ∈ u_ws RX3 TX3 5, w ∈ wsX3_goOnce := by decide +kernel
theorem khX3_goOnce_X5 : ∀ w ∈ u_ws RX5 TX5 11, w ∈ wsX3_goOnce := by decide +kernel
set_option maxHeartbeats 4000000 in
set_option maxRecDepth 100000 in
/-- kX3_goOnce -/
theorem kX3_goOnce (l : Launch) (G : wG) (a : SA) (n o : Nat) (kf : wF) (lr lc : Nat) (L : wF) (rr rc : Nat) (R : wF) (sr sc : Nat) (Z : wF) (b ta tb th tw tt tn : Nat) (sm0 mt rw dn : wF) (s : wF) (hQ0 : RelQ n o kf s) (hM : RelM lr lc rc L R s) (hrr : rr = lc) (hT : RelT n lr lc rc ta tb th tw tt tn s) (hC : CellR sm0 mt rw dn s) (hV : CellV s) (htt : tt < tn) : CV (S := wF × wF × wF × wF) l yX3_goOnce wsX3_goOnce (rm 3 65) G [.ref a.1] (wS G a ((n, o, kf), (lr, lc, L), (rr, rc, R), (sr, sc, Z), (b, ta, tb, th, tw, tt, tn, sm0, mt, rw, dn))) (fun u9 => CellR u9.1 u9.2.1 u9.2.2.1 u9.2.2.2 (goF lc n o lr rc ta tb tt s)) (fun u9 => wS G a ((n, o, kf), (lr, lc, L), (rr, rc, R), (sr, sc, Z), (b, ta, tb, th, tw, tt + 1, tn, u9.1, u9.2.1, u9.2.2.1, u9.2.2.2))) := by
  refine CV.of (own := RX3) rfl (by decide) rfl (Nat.le_of_ble_eq_true rfl) ?_
  intro p9 e9 s9 m9 b9 t9 c9 A xE xB xM xO xT xK xP xD Q xQ xS ls hl
  have xL : lv_has ls 4 [(0, .ref a.1)] := hl
  obtain ⟨hq1, hq2, hq3, hq4⟩ := id hQ0
  obtain ⟨hb1, hb2, hb3, hb4, hb5, hb6⟩ := id hM.2.2.2.1
  obtain ⟨ht1, ht2, ht3, ht4, ht5, ht6, ht7, ht8, ht9⟩ := id hT
  have hu1 := RelT.h4 hT hq3
  have hu2 := RelT.w4 hT hq3
  have hu3 := RelT.t20 hT hM hq3
  refine lv_aload_n xE xB dX3_goOnce_0 rfl (lv_at xL 0 rfl) ?_
  refine va_get (D := G.1) (ci := 3) (v := .ref a.2.2.2.2.2.1) (C := RX3) (T := TX3) (N := 5) xE xB xT khX3_goOnce_X3 xO xK.1 xP 0 rfl rfl 4 (by decide) (xT _ kX3_goOnce_f34) (fun _ h9 => h9) rfl dX3_goOnce_1 ?_
  refine va_get (D := G.1) (ci := 5) (v := .int (nI th)) (C := RX5) (T := TX5) (N := 11) xE xB xT khX3_goOnce_X5 xO xK.1 xP 9 rfl rfl 3 (by decide) (xT _ kX3_goOnce_f96) (fun _ h9 => h9) rfl dX3_goOnce_4 ?_
  refine lv_iconst (v := nI 1) xE xB dX3_goOnce_7 (by decide) ?_
  refine q_isub xE xB dX3_goOnce_8 (by omega) ?_
  refine q_eq (y := pI th) (q_pI (by omega)) ?_
  refine lv_istore_n (lv' := [(1, .int (pI th)), (0, .ref a.1)]) xE xB dX3_goOnce_9 rfl xL (by decide) rfl (fun ls xL => ?_)
  have L_10 : ∀ (k : Nat) (z g1 g2 g3 g4 : wF), (k ≤ th) → (dnF (fun i => dnF (cellF lc n o ta tb tt i) tw) k z = dnF (fun i => dnF (cellF lc n o ta tb tt i) tw) th s) → (∀ p, p < 173 → z p = s p) → (CellR g1 g2 g3 g4 z) → (CellV z) → ∀ (H : Heap) (locs : List Loc), va_P G.1 vwCl (wS G a ((n, o, kf), (lr, lc, L), (rr, rc, R), (sr, sc, Z), (b, ta, tb, th, tw, tt, tn, g1, g2, g3, g4))) H → va_D A (wS G a ((n, o, kf), (lr, lc, L), (rr, rc, R), (sr, sc, Z), (b, ta, tb, th, tw, tt, tn, g1, g2, g3, g4))) → va_S A s9.heap H locs → ∀ (ls : Array Slot), lv_has ls 4 [(0, .ref a.1), (1, .int (pI k))] → W p9 l e9 (rm 3 65) s9 m9 ([.ref a.1] : List Value).toArray b9 t9 c9 H locs 0 0 Q (F0 m9 10 ls []) := by
    intro k
    induction k with
    | zero =>
      intro z g1 g2 g3 g4 hk hz hlo hCz hVz H locs xP xD xS ls xL
      have xL : lv_has ls 4 [(0, .ref a.1), (1, .int (-1))] := xL
      refine lv_iload_n xE xB dX3_goOnce_10 rfl (lv_at xL 1 rfl) ?_
      refine lv_if_lt (tgt := 82) xE xB dX3_goOnce_11 (by decide) (fun _ => ?_) (fun h9 => absurd (by decide) h9)
      refine lv_aload_n xE xB dX3_goOnce_82 rfl (lv_at xL 0 rfl) ?_
      refine va_get (D := G.1) (ci := 3) (v := .ref a.2.2.2.2.2.1) (C := RX3) (T := TX3) (N := 5) xE xB xT khX3_goOnce_X3 xO xK.1 xP 0 rfl rfl 4 (by decide) (xT _ kX3_goOnce_f34) (fun _ h9 => h9) rfl dX3_goOnce_83 ?_
      refine lv_dup xE xB dX3_goOnce_86 rfl ?_
      refine va_get (D := G.1) (ci := 5) (v := .int (nI tt)) (C := RX5) (T := TX5) (N := 11) xE xB xT khX3_goOnce_X5 xO xK.1 xP 9 rfl rfl 5 (by decide) (xT _ kX3_goOnce_f130) (fun _ h9 => h9) rfl dX3_goOnce_87 ?_
      refine lv_iconst (v := nI 1) xE xB dX3_goOnce_90 (by decide) ?_
      refine q_iadd xE xB dX3_goOnce_91 ?_
      refine va_put (D := G.1) (ci := 5) (v := .int (nI (tt + 1))) (ty := .int) (C := RX5) (T := TX5) (N := 11) xE xB xT khX3_goOnce_X5 tyX5 tyX5_ok nmX5 xO xK.1 xP xD xS 9 rfl rfl 5 (by decide) (xT _ kX3_goOnce_f130) (fun _ h9 => h9) rfl (by decide +kernel) rfl rfl (Nat.le_of_ble_eq_true rfl) dX3_goOnce_92 (fun H locs xP xD xS => ?_)
      have xP : va_P G.1 vwCl (wS G a ((n, o, kf), (lr, lc, L), (rr, rc, R), (sr, sc, Z), (b, ta, tb, th, tw, tt + 1, tn, g1, g2, g3, g4))) H := xP
      have xD : va_D A (wS G a ((n, o, kf), (lr, lc, L), (rr, rc, R), (sr, sc, Z), (b, ta, tb, th, tw, tt + 1, tn, g1, g2, g3, g4))) := xD
      exact xQ _ _ _ _ (g1, g2, g3, g4) (by exact goF_end hT hz hCz) xP xD xS dX3_goOnce_95
    | succ k ih_10 =>
      intro z g1 g2 g3 g4 hk hz hlo hCz hVz H locs xP xD xS ls xL
      have xL : lv_has ls 4 [(0, .ref a.1), (1, .int (nI k))] := xL
      refine lv_iload_n xE xB dX3_goOnce_10 rfl (lv_at xL 1 rfl) ?_
      refine q_if_lt (tgt := 82) xE xB dX3_goOnce_11 (by decide) (by omega) ?_
      refine lv_aload_n xE xB dX3_goOnce_14 rfl (lv_at xL 0 rfl) ?_
      refine va_get (D := G.1) (ci := 3) (v := .ref a.2.2.2.2.2.1) (C := RX3) (T := TX3) (N := 5) xE xB xT khX3_goOnce_X3 xO xK.1 xP 0 rfl rfl 4 (by decide) (xT _ kX3_goOnce_f34) (fun _ h9 => h9) rfl dX3_goOnce_15 ?_
      refine va_get (D := G.1) (ci := 5) (v := .int (nI tw)) (C := RX5) (T := TX5) (N := 11) xE xB xT khX3_goOnce_X5 xO xK.1 xP 9 rfl rfl 4 (by decide) (xT _ kX3_goOnce_f99) (fun _ h9 => h9) rfl dX3_goOnce_18 ?_
      refine lv_iconst (v := nI 1) xE xB dX3_goOnce_21 (by decide) ?_
      refine q_isub xE xB dX3_goOnce_22 (by omega) ?_
      refine q_eq (y := pI tw) (q_pI (by omega)) ?_
      refine lv_istore_n (lv' := [(2, .int (pI tw)), (0, .ref a.1), (1, .int (nI k))]) xE xB dX3_goOnce_23 rfl xL (by decide) rfl (fun ls xL => ?_)
      have L_24 : ∀ (q : Nat) (y e1 e2 e3 e4 : wF), (q ≤ tw) → (dnF (cellF lc n o ta tb tt k) q y = dnF (cellF lc n o ta tb tt k) tw z) → (∀ p, p < 173 → y p = s p) → (CellR e1 e2 e3 e4 y) → (CellV y) → ∀ (H : Heap) (locs : List Loc), va_P G.1 vwCl (wS G a ((n, o, kf), (lr, lc, L), (rr, rc, R), (sr, sc, Z), (b, ta, tb, th, tw, tt, tn, e1, e2, e3, e4))) H → va_D A (wS G a ((n, o, kf), (lr, lc, L), (rr, rc, R), (sr, sc, Z), (b, ta, tb, th, tw, tt, tn, e1, e2, e3, e4))) → va_S A s9.heap H locs → ∀ (ls : Array Slot), lv_has ls 4 [(0, .ref a.1), (1, .int (nI k)), (2, .int (pI q))] → W p9 l e9 (rm 3 65) s9 m9 ([.ref a.1] : List Value).toArray b9 t9 c9 H locs 0 0 Q (F0 m9 24 ls []) := by
        intro q
        induction q with
        | zero =>
          intro y e1 e2 e3 e4 hq hy hlo2 hCy hVy H locs xP xD xS ls xL
          have xL : lv_has ls 4 [(0, .ref a.1), (1, .int (nI k)), (2, .int (-1))] := xL
          refine lv_iload_n xE xB dX3_goOnce_24 rfl (lv_at xL 2 rfl) ?_
          refine lv_if_lt (tgt := 76) xE xB dX3_goOnce_25 (by decide) (fun _ => ?_) (fun h9 => absurd (by decide) h9)
          refine lv_iinc (v := pI k) (lv' := [(1, .int (pI k)), (0, .ref a.1), (2, .int (-1))]) xE xB dX3_goOnce_76 xL (k := 1) rfl (q_decP _) (by decide) rfl (fun ls xL => ?_)
          refine lv_goto (tgt := 10) xE xB dX3_goOnce_79 (by decide) ?_
          exact ih_10 y e1 e2 e3 e4 (by omega) (by exact (congrArg (dnF (fun i => dnF (cellF lc n o ta tb tt i) tw) k) (show y = dnF (cellF lc n o ta tb tt k) tw z from hy)).trans hz) (by exact hlo2) (by exact hCy) (by exact hVy) _ _ xP xD xS _ (lv_sub xL [1, 0] rfl)
        | succ q ih_24 =>
          intro y e1 e2 e3 e4 hq hy hlo2 hCy hVy H locs xP xD xS ls xL
          have xL : lv_has ls 4 [(0, .ref a.1), (1, .int (nI k)), (2, .int (nI q))] := xL
          have hk4 : k < 4 := by omega
          have hj4 : q < 4 := by omega
          have hMy : RelM lr lc rc L R y := hM.lo (fun p hp _ => hlo2 p hp)
          have hmr : n * ta + k < lr := by omega
          have hmc : n * tb + q < rc := by omega
          have hgl : gV (gL lc n ta tt k q y) := gL_V hMy hVy hk4 hj4 hmr
          have hga : gV (gA lc n tb tt k q y) := gA_V hMy hVy hk4 hj4 hmc
          have hpl : (if q < o then q else q + 1) ≤ n := by split <;> omega
          refine lv_iload_n xE xB dX3_goOnce_24 rfl (lv_at xL 2 rfl) ?_
          refine q_if_lt (tgt := 76) xE xB dX3_goOnce_25 (by decide) (by omega) ?_
          refine lv_aload_n xE xB dX3_goOnce_28 rfl (lv_at xL 0 rfl) ?_
          refine va_get (D := G.1) (ci := 3) (v := .ref a.2.1.1) (C := RX3) (T := TX3) (N := 5) xE xB xT khX3_goOnce_X3 xO xK.1 xP 0 rfl rfl 0 (by decide) (xT _ kX3_goOnce_f12) (fun _ h9 => h9) rfl dX3_goOnce_29 ?_
          refine lv_iload_n xE xB dX3_goOnce_32 rfl (lv_at xL 1 rfl) ?_
          refine lv_aload_n xE xB dX3_goOnce_33 rfl (lv_at xL 0 rfl) ?_
          refine va_get (D := G.1) (ci := 3) (v := .ref a.2.1.1) (C := RX3) (T := TX3) (N := 5) xE xB xT khX3_goOnce_X3 xO xK.1 xP 0 rfl rfl 0 (by decide) (xT _ kX3_goOnce_f12) (fun _ h9 => h9) rfl dX3_goOnce_34 ?_
          refine lv_iload_n xE xB dX3_goOnce_37 rfl (lv_at xL 2 rfl) ?_
          refine q_VR (As := [.int (nI q)]) (rest := [.int (nI k), .ref a.2.1.1]) ⟨xE, xB, xM, xO, xT⟩ (kX2_placeOf l G a.2.1 n o kf q (by omega) (by omega)) (cwV 1 xT gX3_goOnce_X2_placeOf rfl rfl rfl (by decide +kernel) ⟨Nat.le_of_ble_eq_true rfl, Nat.le_of_ble_eq_true rfl⟩) xK xP [1, 2] rfl 0 rfl rfl rfl rfl xL.1 rfl (Nat.le_of_ble_eq_true rfl) dX3_goOnce_38 ⟨Nat.le_refl _, Nat.le_refl _⟩ (fun r_38 h_38 => ?_)
          obtain rfl : r_38 = nI (if q < o then q else q + 1) := h_38
          refine q_VR (As := [.int (nI k), .int (nI (if q < o then q else q + 1))]) (rest := []) ⟨xE, xB, xM, xO, xT⟩ (kX2_kindAt l G a.2.1 n o kf k (if q < o then q else q + 1) (by omega) (by omega) (by omega)) (cwV 2 xT gX3_goOnce_X2_kindAt rfl rfl rfl (by decide +kernel) ⟨Nat.le_of_ble_eq_true rfl, Nat.le_of_ble_eq_true rfl⟩) xK xP [1, 2] rfl 0 rfl rfl rfl rfl xL.1 rfl (Nat.le_of_ble_eq_true rfl) dX3_goOnce_41 ⟨Nat.le_refl _, Nat.le_refl _⟩ (fun r_41 h_41 => ?_)
          obtain rfl : r_41 = kf (5 * k + (if q < o then q else q + 1)) := h_41
          refine q_eq (y := kdF o k q y) (kdF_eq hQ0 hlo2 hpl (by omega)) ?_
          refine lv_istore_n (lv' := [(3, .int (kdF o k q y)), (0, .ref a.1), (1, .int (nI k)), (2, .int (nI q))]) xE xB dX3_goOnce_44 rfl xL (by decide) rfl (fun ls xL => ?_)
          refine lv_aload_n xE xB dX3_goOnce_45 rfl (lv_at xL 1 rfl) ?_
          refine va_get (D := G.1) (ci := 3) (v := .ref a.2.2.2.2.2.1) (C := RX3) (T := TX3) (N := 5) xE xB xT khX3_goOnce_X3 xO xK.1 xP 0 rfl rfl 4 (by decide) (xT _ kX3_goOnce_f34) (fun _ h9 => h9) rfl dX3_goOnce_46 ?_
          refine lv_iload_n xE xB dX3_goOnce_49 rfl (lv_at xL 2 rfl) ?_
          refine lv_iload_n xE xB dX3_goOnce_50 rfl (lv_at xL 3 rfl) ?_
          refine q_SR (As := [.int (nI k), .int (nI q)]) (rest := [.ref a.2.2.2.2.2.1]) ⟨xE, xB, xM, xO, xT⟩ (kX5_cell l G k q) (va_cwS 2 xT gX3_goOnce_X5_cell rfl rfl rfl (by decide +kernel) ⟨Nat.le_of_ble_eq_true rfl, Nat.le_of_ble_eq_true rfl⟩) xK xP [] rfl rfl xL.1 rfl (Nat.le_of_ble_eq_true rfl) dX3_goOnce_51 ⟨Nat.le_refl _, Nat.le_refl _⟩ (fun r_51 h_51 => ?_)
          obtain rfl : r_51 = nI (4 * k + q) := h_51
          refine lv_aload_n xE xB dX3_goOnce_54 rfl (lv_at xL 1 rfl) ?_
          refine lv_iload_n xE xB dX3_goOnce_55 rfl (lv_at xL 2 rfl) ?_
          refine lv_iload_n xE xB dX3_goOnce_56 rfl (lv_at xL 3 rfl) ?_
          refine q_VR (As := [.int (nI k), .int (nI q)]) (rest := [.int (nI (4 * k + q)), .ref a.2.2.2.2.2.1]) ⟨xE, xB, xM, xO, xT⟩ (kX3_fromLeft l G a n o kf lr lc L rr rc R sr sc Z b ta tb th tw tt tn e1 e2 e3 e4 y k q (by exact hMy) (by exact hCy) (by omega) (by omega) (by omega) (by omega) (by omega) (by omega)) (cwV 2 xT gX3_goOnce_X3_fromLeft rfl rfl rfl (by decide +kernel) ⟨Nat.le_of_ble_eq_true rfl, Nat.le_of_ble_eq_true rfl⟩) xK xP [0, 1, 2, 3, 4, 5, 6, 7, 8, 9, 10, 11, 12, 13] rfl 0 rfl rfl rfl rfl xL.1 rfl (Nat.le_of_ble_eq_true rfl) dX3_goOnce_57 ⟨Nat.le_refl _, Nat.le_refl _⟩ (fun r_57 h_57 => ?_)
          obtain rfl : r_57 = (gL lc n ta tt k q y).getD NO := h_57
          refine lv_aload_n xE xB dX3_goOnce_60 rfl (lv_at xL 1 rfl) ?_
          refine lv_iload_n xE xB dX3_goOnce_61 rfl (lv_at xL 2 rfl) ?_
          refine lv_iload_n xE xB dX3_goOnce_62 rfl (lv_at xL 3 rfl) ?_
          refine q_VR (As := [.int (nI k), .int (nI q)]) (rest := [.int ((gL lc n ta tt k q y).getD NO), .int (nI (4 * k + q)), .ref a.2.2.2.2.2.1]) ⟨xE, xB, xM, xO, xT⟩ (kX3_fromAbove l G a n o kf lr lc L rr rc R sr sc Z b ta tb th tw tt tn e1 e2 e3 e4 y k q (by exact hMy) (by exact hCy) (by omega) (by omega) (by omega) (by omega) (by omega) (by omega)) (cwV 2 xT gX3_goOnce_X3_fromAbove rfl rfl rfl (by decide +kernel) ⟨Nat.le_of_ble_eq_true rfl, Nat.le_of_ble_eq_true rfl⟩) xK xP [0, 1, 2, 3, 4, 5, 6, 7, 8, 9, 10, 11, 12, 13] rfl 0 rfl rfl rfl rfl xL.1 rfl (Nat.le_of_ble_eq_true rfl) dX3_goOnce_63 ⟨Nat.le_refl _, Nat.le_refl _⟩ (fun r_63 h_63 => ?_)
          obtain rfl : r_63 = (gA lc n tb tt k q y).getD NO := h_63
          refine lv_iload_n xE xB dX3_goOnce_66 rfl (lv_at xL 0 rfl) ?_
          refine q_VV (As := [.int (nI (4 * k + q)), .int ((gL lc n ta tt k q y).getD NO), .int ((gA lc n tb tt k q y).getD NO), .int (kdF o k q y)]) (rest := []) ⟨xE, xB, xM, xO, xT⟩ (kX5_pass l G a.2.2.2.2.2 b ta tb th tw tt tn e1 e2 e3 e4 (4 * k + q) ((gL lc n ta tt k q y).getD NO) ((gA lc n tb tt k q y).getD NO) (kdF o k q y) (by omega)) (cwV 4 xT gX3_goOnce_X5_pass rfl rfl rfl (by decide +kernel) ⟨Nat.le_of_ble_eq_true rfl, Nat.le_of_ble_eq_true rfl⟩) xK xP xD xS [9, 10, 11, 12, 13] rfl (by decide +kernel) (fun _ => rfl) 0 rfl rfl rfl rfl xL.1 rfl (Nat.le_of_ble_eq_true rfl) dX3_goOnce_67 ⟨Nat.le_refl _, Nat.le_refl _⟩ (fun u_67 H locs h_67 xP xD xS => ?_)
          have xP : va_P G.1 vwCl (wS G a ((n, o, kf), (lr, lc, L), (rr, rc, R), (sr, sc, Z), (b, ta, tb, th, tw, tt, tn, upd e1 (4 * k + q) (paS ((gL lc n ta tt k q y).getD NO) ((gA lc n tb tt k q y).getD NO) (kdF o k q y) (e1 (4 * k + q))), upd e2 (4 * k + q) (paM ((gL lc n ta tt k q y).getD NO) ((gA lc n tb tt k q y).getD NO) (e2 (4 * k + q))), upd e3 (4 * k + q) (paO (nI 3) ((gL lc n ta tt k q y).getD NO) (kdF o k q y)), upd e4 (4 * k + q) (paO (nI 4) ((gA lc n tb tt k q y).getD NO) (kdF o k q y))))) H := xP
          have xD : va_D A (wS G a ((n, o, kf), (lr, lc, L), (rr, rc, R), (sr, sc, Z), (b, ta, tb, th, tw, tt, tn, upd e1 (4 * k + q) (paS ((gL lc n ta tt k q y).getD NO) ((gA lc n tb tt k q y).getD NO) (kdF o k q y) (e1 (4 * k + q))), upd e2 (4 * k + q) (paM ((gL lc n ta tt k q y).getD NO) ((gA lc n tb tt k q y).getD NO) (e2 (4 * k + q))), upd e3 (4 * k + q) (paO (nI 3) ((gL lc n ta tt k q y).getD NO) (kdF o k q y)), upd e4 (4 * k + q) (paO (nI 4) ((gA lc n tb tt k q y).getD NO) (kdF o k q y))))) := xD
          refine lv_iinc (v := pI q) (lv' := [(2, .int (pI q)), (3, .int (kdF o k q y)), (0, .ref a.1), (1, .int (nI k))]) xE xB dX3_goOnce_70 xL (k := 3) rfl (q_decP _) (by decide) rfl (fun ls xL => ?_)
          refine lv_goto (tgt := 24) xE xB dX3_goOnce_73 (by decide) ?_
          exact ih_24 (cellF lc n o ta tb tt k q y) (upd e1 (4 * k + q) (paS ((gL lc n ta tt k q y).getD NO) ((gA lc n tb tt k q y).getD NO) (kdF o k q y) (e1 (4 * k + q)))) (upd e2 (4 * k + q) (paM ((gL lc n ta tt k q y).getD NO) ((gA lc n tb tt k q y).getD NO) (e2 (4 * k + q)))) (upd e3 (4 * k + q) (paO (nI 3) ((gL lc n ta tt k q y).getD NO) (kdF o k q y))) (upd e4 (4 * k + q) (paO (nI 4) ((gA lc n tb tt k q y).getD NO) (kdF o k q y))) (by omega) (by exact hy) (by exact fun p hp => (cellF_lo p hp).trans (hlo2 p hp)) (by exact CellR_step hCy hk4 hj4 hgl hga) (by exact CellV_step hVy hgl hga) _ _ xP xD xS _ (lv_sub xL [2, 3, 0] rfl)
      exact L_24 tw z g1 g2 g3 g4 (by exact Nat.le_refl _) (by rfl) (by exact hlo) (by exact hCz) (by exact hVz) _ _ xP xD xS _ (lv_sub xL [1, 2, 0] rfl)
  exact L_10 th s sm0 mt rw dn (by exact Nat.le_refl _) (by rfl) (by exact fun _ _ => rfl) (by exact hC) (by exact hV) _ _ xP xD xS _ (lv_sub xL [1, 0] rfl)
theorem kX3_goOn_f34 : Cond.fieldLink RX3 34 "SkewedSquare$State" "tile" "LSkewedSquare$Tile;" ∈ wsX3_goOn := by decide +kernel
theorem kX3_goOn_mm90 : Cond.methodLink RX3 90 Lib.Math.min.name ∈ wsX3_goOn := by decide +kernel
theorem kX3_goOn_mmc : Cond.code Lib.Math.min.name Lib.Math.min.code 2 (some .int) ∈ wsX3_goOn := by decide +kernel
theorem kX3_goOn_mmi : Cond.initialized "java/lang/Math" ∈ wsX3_goOn := by decide +kernel
theorem kX3_goOn_mms : Cond.static Lib.Math.min.name ∈ wsX3_goOn := by decide +kernel
theorem khX3_goOn_X3 : ∀ w ∈ u_ws RX3 TX3 5, w ∈ wsX3_goOn := by decide +kernel
set_option maxHeartbeats 4000000 in
set_option maxRecDepth 100000 in
/-- kX3_goOn -/
theorem kX3_goOn (l : Launch) (G : wG) (a : SA) (n o : Nat) (kf : wF) (lr lc : Nat) (L : wF) (rr rc : Nat) (R : wF) (sr sc : Nat) (Z : wF) (b ta tb th tw tt tn : Nat) (sm0 mt rw dn : wF) (s : wF) (m : Nat) (hQ0 : RelQ n o kf s) (hM : RelM lr lc rc L R s) (hrr : rr = lc) (hT : RelT n lr lc rc ta tb th tw tt tn s) (hC : CellR sm0 mt rw dn s) (hV : CellV s) (hm : m ≤ 100) : CV (S := wF × wF × wF × wF) l yX3_goOn wsX3_goOn (rm 4 88) G [.ref a.1, .int (nI m)] (wS G a ((n, o, kf), (lr, lc, L), (rr, rc, R), (sr, sc, Z), (b, ta, tb, th, tw, tt, tn, sm0, mt, rw, dn))) (fun u9 => CellR u9.1 u9.2.1 u9.2.2.1 u9.2.2.2 (goN lc n o lr rc ta tb (min m (tn - tt)) tt s)) (fun u9 => wS G a ((n, o, kf), (lr, lc, L), (rr, rc, R), (sr, sc, Z), (b, ta, tb, th, tw, tt + min m (tn - tt), tn, u9.1, u9.2.1, u9.2.2.1, u9.2.2.2))) := by
  refine CV.of (own := RX3) rfl (by decide) rfl (Nat.le_of_ble_eq_true rfl) ?_
  intro p9 e9 s9 m9 b9 t9 c9 A xE xB xM xO xT xK xP xD Q xQ xS ls hl
  have xL : lv_has ls 4 [(0, .ref a.1), (1, .int (nI m))] := hl
  obtain ⟨hq1, hq2, hq3, hq4⟩ := id hQ0
  obtain ⟨hb1, hb2, hb3, hb4, hb5, hb6⟩ := id hM.2.2.2.1
  obtain ⟨ht1, ht2, ht3, ht4, ht5, ht6, ht7, ht8, ht9⟩ := id hT
  have hu1 := RelT.h4 hT hq3
  have hu2 := RelT.w4 hT hq3
  have hu3 := RelT.t20 hT hM hq3
  refine lv_iload_n xE xB dX3_goOn_0 rfl (lv_at xL 1 rfl) ?_
  refine lv_aload_n xE xB dX3_goOn_1 rfl (lv_at xL 0 rfl) ?_
  refine va_get (D := G.1) (ci := 3) (v := .ref a.2.2.2.2.2.1) (C := RX3) (T := TX3) (N := 5) xE xB xT khX3_goOn_X3 xO xK.1 xP 0 rfl rfl 4 (by decide) (xT _ kX3_goOn_f34) (fun _ h9 => h9) rfl dX3_goOn_2 ?_
  refine q_VR (As := []) (rest := [.int (nI m)]) ⟨xE, xB, xM, xO, xT⟩ (kX5_ticksLeft l G a.2.2.2.2.2 b ta tb th tw tt tn sm0 mt rw dn (by omega)) (cwV 0 xT gX3_goOn_X5_ticksLeft rfl rfl rfl (by decide +kernel) ⟨Nat.le_of_ble_eq_true rfl, Nat.le_of_ble_eq_true rfl⟩) xK xP [9, 10, 11, 12, 13] rfl 0 rfl rfl rfl rfl xL.1 rfl (Nat.le_of_ble_eq_true rfl) dX3_goOn_5 ⟨Nat.le_refl _, Nat.le_refl _⟩ (fun r_5 h_5 => ?_)
  obtain rfl : r_5 = nI (tn - tt) := h_5
  refine q_mmin xE xB (xM.trans xL.1.symm) xO (xT _ kX3_goOn_mm90) (xT _ kX3_goOn_mms) (xT _ kX3_goOn_mmi) (xT _ kX3_goOn_mmc) (Nat.le_of_ble_eq_true rfl) (Nat.le_of_ble_eq_true rfl) (Nat.le_refl _) (Nat.le_refl _) (by omega) (by omega) dX3_goOn_8 ?_
  refine lv_istore_n (lv' := [(2, .int (nI (min m (tn - tt)))), (0, .ref a.1), (1, .int (nI m))]) xE xB dX3_goOn_11 rfl xL (by decide) rfl (fun ls xL => ?_)
  refine lv_iconst (v := nI 0) xE xB dX3_goOn_12 (by decide) ?_
  refine lv_istore_n (lv' := [(3, .int (nI 0)), (2, .int (nI (min m (tn - tt)))), (0, .ref a.1), (1, .int (nI m))]) xE xB dX3_goOn_13 rfl xL (by decide) rfl (fun ls xL => ?_)
  have L_14 : ∀ (n_14 : Nat) (i : Nat) (z g1 g2 g3 g4 : wF), (i ≤ min m (tn - tt)) → (goN lc n o lr rc ta tb (min m (tn - tt) - i) (tt + i) z = goN lc n o lr rc ta tb (min m (tn - tt)) tt s) → (Lo z s) → (z 8 = nI (tt + i)) → (CellR g1 g2 g3 g4 z) → (CellV z) → min m (tn - tt) - i < n_14 → ∀ (H : Heap) (locs : List Loc), va_P G.1 vwCl (wS G a ((n, o, kf), (lr, lc, L), (rr, rc, R), (sr, sc, Z), (b, ta, tb, th, tw, tt + i, tn, g1, g2, g3, g4))) H → va_D A (wS G a ((n, o, kf), (lr, lc, L), (rr, rc, R), (sr, sc, Z), (b, ta, tb, th, tw, tt + i, tn, g1, g2, g3, g4))) → va_S A s9.heap H locs → ∀ (ls : Array Slot), lv_has ls 4 [(0, .ref a.1), (1, .int (nI m)), (2, .int (nI (min m (tn - tt)))), (3, .int (nI i))] → W p9 l e9 (rm 4 88) s9 m9 ([.ref a.1, .int (nI m)] : List Value).toArray b9 t9 c9 H locs 0 0 Q (F0 m9 14 ls []) := by
    intro n_14
    induction n_14 with
    | zero => intro i z g1 g2 g3 g4 hi hz hlo h8 hCz hVz hm_14 H locs xP xD xS ls xL; exact absurd hm_14 (Nat.not_lt_zero _)
    | succ n_14 ih_14 =>
      intro i z g1 g2 g3 g4 hi hz hlo h8 hCz hVz hm_14 H locs xP xD xS ls xL
      refine lv_iload_n xE xB dX3_goOn_14 rfl (lv_at xL 3 rfl) ?_
      refine lv_iload_n xE xB dX3_goOn_15 rfl (lv_at xL 2 rfl) ?_
      refine q_icmp_ge (tgt := 29) xE xB dX3_goOn_16 (by decide) (by omega) (by omega) (fun c_16 => ?_) (fun c_16 => ?_)
      · skip
        obtain rfl : i = min m (tn - tt) := by omega
        exact xQ _ _ _ _ (g1, g2, g3, g4) (by rw [← hz, Nat.sub_self]; exact hCz) xP xD xS dX3_goOn_29
      · skip
        have hTz : RelT n lr lc rc ta tb th tw (tt + i) tn z := hT.tick hlo h8 (by omega)
        have hMz : RelM lr lc rc L R z := hM.lo hlo
        refine lv_aload_n xE xB dX3_goOn_19 rfl (lv_at xL 0 rfl) ?_
        refine q_VV (As := []) (rest := []) ⟨xE, xB, xM, xO, xT⟩ (kX3_goOnce l G a n o kf lr lc L rr rc R sr sc Z b ta tb th tw (tt + i) tn g1 g2 g3 g4 z (by exact hQ0.lo hlo) (by exact hMz) (by exact hrr) (by exact hTz) (by exact hCz) (by exact hVz) (by omega)) (cwV 0 xT gX3_goOn_X3_goOnce rfl rfl rfl (by decide +kernel) ⟨Nat.le_of_ble_eq_true rfl, Nat.le_of_ble_eq_true rfl⟩) xK xP xD xS [0, 1, 2, 3, 4, 5, 6, 7, 8, 9, 10, 11, 12, 13] rfl (by decide +kernel) (fun _ => rfl) 0 rfl rfl rfl rfl xL.1 rfl (Nat.le_of_ble_eq_true rfl) dX3_goOn_20 ⟨Nat.le_refl _, Nat.le_refl _⟩ (fun u_20 H locs h_20 xP xD xS => ?_)
        have xP : va_P G.1 vwCl (wS G a ((n, o, kf), (lr, lc, L), (rr, rc, R), (sr, sc, Z), (b, ta, tb, th, tw, (tt + i) + 1, tn, u_20.1, u_20.2.1, u_20.2.2.1, u_20.2.2.2))) H := xP
        have xD : va_D A (wS G a ((n, o, kf), (lr, lc, L), (rr, rc, R), (sr, sc, Z), (b, ta, tb, th, tw, (tt + i) + 1, tn, u_20.1, u_20.2.1, u_20.2.2.1, u_20.2.2.2))) := xD
        have h_20 : CellR u_20.1 u_20.2.1 u_20.2.2.1 u_20.2.2.2 (goF lc n o lr rc ta tb (tt + i) z) := h_20
        refine lv_iinc (v := nI (i + 1)) (lv' := [(3, .int (nI (i + 1))), (0, .ref a.1), (1, .int (nI m)), (2, .int (nI (min m (tn - tt))))]) xE xB dX3_goOn_23 xL (k := 3) rfl (q_inc _ _) (by decide) rfl (fun ls xL => ?_)
        refine lv_goto (tgt := 14) xE xB dX3_goOn_26 (by decide) ?_
        exact ih_14 (i + 1) (goF lc n o lr rc ta tb (tt + i) z) u_20.1 u_20.2.1 u_20.2.2.1 u_20.2.2.2 (by omega) (by rw [← hz]; exact goN_s c_16) (by exact goF_Lo.trans hlo) (by exact upd_s) (by exact h_20) (by exact goF_V hMz hTz hq3 hVz) (by omega) _ _ xP xD xS _ (lv_sub xL [1, 2, 3, 0] rfl)
  exact L_14 (min m (tn - tt) - 0 + 1) 0 s sm0 mt rw dn (by omega) (by rfl) (by exact fun _ _ _ => rfl) (by exact ht3) (by exact hC) (by exact hV) (Nat.lt_succ_self _) _ _ xP xD xS _ (lv_sub xL [2, 3, 1, 0] rfl)
theorem kX3_drainTile_f12 : Cond.fieldLink RX3 12 "SkewedSquare$State" "square" "LSkewedSquare$Square;" ∈ wsX3_drainTile := by decide +kernel
theorem kX3_drainTile_f28 : Cond.fieldLink RX3 28 "SkewedSquare$State" "results" "LSkewedSquare$Matrix;" ∈ wsX3_drainTile := by decide +kernel
theorem kX3_drainTile_f34 : Cond.fieldLink RX3 34 "SkewedSquare$State" "tile" "LSkewedSquare$Tile;" ∈ wsX3_drainTile := by decide +kernel
theorem kX3_drainTile_f74 : Cond.fieldLink RX3 74 "SkewedSquare$Square" "side" "I" ∈ wsX3_drainTile := by decide +kernel
theorem kX3_drainTile_f80 : Cond.fieldLink RX3 80 "SkewedSquare$Tile" "begun" "Z" ∈ wsX3_drainTile := by decide +kernel
theorem kX3_drainTile_f84 : Cond.fieldLink RX3 84 "SkewedSquare$Tile" "row" "I" ∈ wsX3_drainTile := by decide +kernel
theorem kX3_drainTile_f87 : Cond.fieldLink RX3 87 "SkewedSquare$Tile" "column" "I" ∈ wsX3_drainTile := by decide +kernel
theorem kX3_drainTile_f96 : Cond.fieldLink RX3 96 "SkewedSquare$Tile" "height" "I" ∈ wsX3_drainTile := by decide +kernel
theorem kX3_drainTile_f99 : Cond.fieldLink RX3 99 "SkewedSquare$Tile" "width" "I" ∈ wsX3_drainTile := by decide +kernel
theorem khX3_drainTile_X2 : ∀ w ∈ u_ws RX2 TX2 3, w ∈ wsX3_drainTile := by decide +kernel
theorem khX3_drainTile_X3 : ∀ w ∈ u_ws RX3 TX3 5, w ∈ wsX3_drainTile := by decide +kernel
theorem khX3_drainTile_X5 : ∀ w ∈ u_ws RX5 TX5 11, w ∈ wsX3_drainTile := by decide +kernel
set_option maxHeartbeats 4000000 in
set_option maxRecDepth 100000 in
/-- kX3_drainTile -/
theorem kX3_drainTile (l : Launch) (G : wG) (a : SA) (n o : Nat) (kf : wF) (lr lc : Nat) (L : wF) (rr rc : Nat) (R : wF) (sr sc : Nat) (Z : wF) (b ta tb th tw tt tn : Nat) (sm0 mt rw dn : wF) (s : wF) (hq3 : 1 ≤ n ∧ n ≤ 4 ∧ o ≤ n) (hM : RelM lr lc rc L R s) (hsr : sr = lr ∧ sc = rc) (hZ : RelZ lr rc Z s) (hT : RelT n lr lc rc ta tb th tw tt tn s) (hC : CellR sm0 mt rw dn s) (hS0 : CellS s tt) (hb : b ≤ 1) : CV (S := wF) l yX3_drainTile wsX3_drainTile (rm 2 45) G [.ref a.1] (wS G a ((n, o, kf), (lr, lc, L), (rr, rc, R), (sr, sc, Z), (b, ta, tb, th, tw, tt, tn, sm0, mt, rw, dn))) (fun u9 => RelZ lr rc u9 (drF n lr rc ta tb s)) (fun u9 => wS G a ((n, o, kf), (lr, lc, L), (rr, rc, R), (sr, sc, u9), (0, ta, tb, th, tw, tt, tn, sm0, mt, rw, dn))) := by
  refine CV.of (own := RX3) rfl (by decide) rfl (Nat.le_of_ble_eq_true rfl) ?_
  intro p9 e9 s9 m9 b9 t9 c9 A xE xB xM xO xT xK xP xD Q xQ xS ls hl
  have xL : lv_has ls 5 [(0, .ref a.1)] := hl
  obtain ⟨hb1, hb2, hb3, hb4, hb5, hb6⟩ := id hM.2.2.2.1
  obtain ⟨ht1, ht2, ht3, ht4, ht5, ht6, ht7, ht8, ht9⟩ := id hT
  have hu1 := RelT.h4 hT hq3
  have hu2 := RelT.w4 hT hq3
  have hu3 := RelT.t20 hT hM hq3
  refine lv_aload_n xE xB dX3_drainTile_0 rfl (lv_at xL 0 rfl) ?_
  refine va_get (D := G.1) (ci := 3) (v := .ref a.2.2.2.2.2.1) (C := RX3) (T := TX3) (N := 5) xE xB xT khX3_drainTile_X3 xO xK.1 xP 0 rfl rfl 4 (by decide) (xT _ kX3_drainTile_f34) (fun _ h9 => h9) rfl dX3_drainTile_1 ?_
  refine va_get (D := G.1) (ci := 5) (v := .int (nI ta)) (C := RX5) (T := TX5) (N := 11) xE xB xT khX3_drainTile_X5 xO xK.1 xP 9 rfl rfl 1 (by decide) (xT _ kX3_drainTile_f84) (fun _ h9 => h9) rfl dX3_drainTile_4 ?_
  refine lv_aload_n xE xB dX3_drainTile_7 rfl (lv_at xL 0 rfl) ?_
  refine va_get (D := G.1) (ci := 3) (v := .ref a.2.1.1) (C := RX3) (T := TX3) (N := 5) xE xB xT khX3_drainTile_X3 xO xK.1 xP 0 rfl rfl 0 (by decide) (xT _ kX3_drainTile_f12) (fun _ h9 => h9) rfl dX3_drainTile_8 ?_
  refine va_get (D := G.1) (ci := 2) (v := .int (nI n)) (C := RX2) (T := TX2) (N := 3) xE xB xT khX3_drainTile_X2 xO xK.1 xP 1 rfl rfl 0 (by decide) (xT _ kX3_drainTile_f74) (fun _ h9 => h9) rfl dX3_drainTile_11 ?_
  refine q_imul xE xB dX3_drainTile_14 ?_
  refine q_eq (y := nI (n * ta)) (congrArg nI (Nat.mul_comm _ _)) ?_
  refine lv_istore_n (lv' := [(1, .int (nI (n * ta))), (0, .ref a.1)]) xE xB dX3_drainTile_15 rfl xL (by decide) rfl (fun ls xL => ?_)
  refine lv_aload_n xE xB dX3_drainTile_16 rfl (lv_at xL 1 rfl) ?_
  refine va_get (D := G.1) (ci := 3) (v := .ref a.2.2.2.2.2.1) (C := RX3) (T := TX3) (N := 5) xE xB xT khX3_drainTile_X3 xO xK.1 xP 0 rfl rfl 4 (by decide) (xT _ kX3_drainTile_f34) (fun _ h9 => h9) rfl dX3_drainTile_17 ?_
  refine va_get (D := G.1) (ci := 5) (v := .int (nI tb)) (C := RX5) (T := TX5) (N := 11) xE xB xT khX3_drainTile_X5 xO xK.1 xP 9 rfl rfl 2 (by decide) (xT _ kX3_drainTile_f87) (fun _ h9 => h9) rfl dX3_drainTile_20 ?_
  refine lv_aload_n xE xB dX3_drainTile_23 rfl (lv_at xL 1 rfl) ?_
  refine va_get (D := G.1) (ci := 3) (v := .ref a.2.1.1) (C := RX3) (T := TX3) (N := 5) xE xB xT khX3_drainTile_X3 xO xK.1 xP 0 rfl rfl 0 (by decide) (xT _ kX3_drainTile_f12) (fun _ h9 => h9) rfl dX3_drainTile_24 ?_
  refine va_get (D := G.1) (ci := 2) (v := .int (nI n)) (C := RX2) (T := TX2) (N := 3) xE xB xT khX3_drainTile_X2 xO xK.1 xP 1 rfl rfl 0 (by decide) (xT _ kX3_drainTile_f74) (fun _ h9 => h9) rfl dX3_drainTile_27 ?_
  refine q_imul xE xB dX3_drainTile_30 ?_
  refine q_eq (y := nI (n * tb)) (congrArg nI (Nat.mul_comm _ _)) ?_
  refine lv_istore_n (lv' := [(2, .int (nI (n * tb))), (1, .int (nI (n * ta))), (0, .ref a.1)]) xE xB dX3_drainTile_31 rfl xL (by decide) rfl (fun ls xL => ?_)
  refine lv_iconst (v := nI 0) xE xB dX3_drainTile_32 (by decide) ?_
  refine lv_istore_n (lv' := [(3, .int (nI 0)), (2, .int (nI (n * tb))), (1, .int (nI (n * ta))), (0, .ref a.1)]) xE xB dX3_drainTile_33 rfl xL (by decide) rfl (fun ls xL => ?_)
  have L_34 : ∀ (n_34 : Nat) (i : Nat) (z Y : wF), (i ≤ th) → (z = upF (fun i => upF (drC n ta tb i) tw) i s) → (∀ p, 153 ≤ p → z p = s p) → (RelZ lr rc Y z) → th - i < n_34 → ∀ (H : Heap) (locs : List Loc), va_P G.1 vwCl (wS G a ((n, o, kf), (lr, lc, L), (rr, rc, R), (sr, sc, Y), (b, ta, tb, th, tw, tt, tn, sm0, mt, rw, dn))) H → va_D A (wS G a ((n, o, kf), (lr, lc, L), (rr, rc, R), (sr, sc, Y), (b, ta, tb, th, tw, tt, tn, sm0, mt, rw, dn))) → va_S A s9.heap H locs → ∀ (ls : Array Slot), lv_has ls 5 [(0, .ref a.1), (1, .int (nI (n * ta))), (2, .int (nI (n * tb))), (3, .int (nI i))] → W p9 l e9 (rm 2 45) s9 m9 ([.ref a.1] : List Value).toArray b9 t9 c9 H locs 0 0 Q (F0 m9 34 ls []) := by
    intro n_34
    induction n_34 with
    | zero => intro i z Y hi hz hhi hZz hm_34 H locs xP xD xS ls xL; exact absurd hm_34 (Nat.not_lt_zero _)
    | succ n_34 ih_34 =>
      intro i z Y hi hz hhi hZz hm_34 H locs xP xD xS ls xL
      refine lv_iload_n xE xB dX3_drainTile_34 rfl (lv_at xL 3 rfl) ?_
      refine lv_aload_n xE xB dX3_drainTile_35 rfl (lv_at xL 0 rfl) ?_
      refine va_get (D := G.1) (ci := 3) (v := .ref a.2.2.2.2.2.1) (C := RX3) (T := TX3) (N := 5) xE xB xT khX3_drainTile_X3 xO xK.1 xP 0 rfl rfl 4 (by decide) (xT _ kX3_drainTile_f34) (fun _ h9 => h9) rfl dX3_drainTile_36 ?_
      refine va_get (D := G.1) (ci := 5) (v := .int (nI th)) (C := RX5) (T := TX5) (N := 11) xE xB xT khX3_drainTile_X5 xO xK.1 xP 9 rfl rfl 3 (by decide) (xT _ kX3_drainTile_f96) (fun _ h9 => h9) rfl dX3_drainTile_39 ?_
      refine q_icmp_ge (tgt := 99) xE xB dX3_drainTile_42 (by decide) (by omega) (by omega) (fun c_42 => ?_) (fun c_42 => ?_)
      · skip
        obtain rfl : th = i := by omega
        refine lv_aload_n xE xB dX3_drainTile_99 rfl (lv_at xL 0 rfl) ?_
        refine va_get (D := G.1) (ci := 3) (v := .ref a.2.2.2.2.2.1) (C := RX3) (T := TX3) (N := 5) xE xB xT khX3_drainTile_X3 xO xK.1 xP 0 rfl rfl 4 (by decide) (xT _ kX3_drainTile_f34) (fun _ h9 => h9) rfl dX3_drainTile_100 ?_
        refine lv_iconst (v := nI 0) xE xB dX3_drainTile_103 (by decide) ?_
        refine va_put (D := G.1) (ci := 5) (v := .int (nI 0)) (ty := .boolean) (C := RX5) (T := TX5) (N := 11) xE xB xT khX3_drainTile_X5 tyX5 tyX5_ok nmX5 xO xK.1 xP xD xS 9 rfl rfl 0 (by decide) (xT _ kX3_drainTile_f80) (fun _ h9 => h9) rfl (by decide +kernel) (by decide) (by decide) (Nat.le_of_ble_eq_true rfl) dX3_drainTile_104 (fun H locs xP xD xS => ?_)
        have xP : va_P G.1 vwCl (wS G a ((n, o, kf), (lr, lc, L), (rr, rc, R), (sr, sc, Y), (0, ta, tb, th, tw, tt, tn, sm0, mt, rw, dn))) H := xP
        have xD : va_D A (wS G a ((n, o, kf), (lr, lc, L), (rr, rc, R), (sr, sc, Y), (0, ta, tb, th, tw, tt, tn, sm0, mt, rw, dn))) := xD
        exact xQ _ _ _ _ Y (by exact drF_end hT hz hZz) xP xD xS dX3_drainTile_107
      · skip
        refine lv_iconst (v := nI 0) xE xB dX3_drainTile_45 (by decide) ?_
        refine lv_istore (lv' := [(4, .int (nI 0)), (0, .ref a.1), (1, .int (nI (n * ta))), (2, .int (nI (n * tb))), (3, .int (nI i))]) xE xB dX3_drainTile_46 xL (by decide) rfl (fun ls xL => ?_)
        have L_48 : ∀ (n_48 : Nat) (j : Nat) (y X : wF), (j ≤ tw) → (y = upF (drC n ta tb i) j z) → (∀ p, 153 ≤ p → y p = s p) → (RelZ lr rc X y) → tw - j < n_48 → ∀ (H : Heap) (locs : List Loc), va_P G.1 vwCl (wS G a ((n, o, kf), (lr, lc, L), (rr, rc, R), (sr, sc, X), (b, ta, tb, th, tw, tt, tn, sm0, mt, rw, dn))) H → va_D A (wS G a ((n, o, kf), (lr, lc, L), (rr, rc, R), (sr, sc, X), (b, ta, tb, th, tw, tt, tn, sm0, mt, rw, dn))) → va_S A s9.heap H locs → ∀ (ls : Array Slot), lv_has ls 5 [(0, .ref a.1), (1, .int (nI (n * ta))), (2, .int (nI (n * tb))), (3, .int (nI i)), (4, .int (nI j))] → W p9 l e9 (rm 2 45) s9 m9 ([.ref a.1] : List Value).toArray b9 t9 c9 H locs 0 0 Q (F0 m9 48 ls []) := by
          intro n_48
          induction n_48 with
          | zero => intro j y X hj hy hhi2 hZy hm_48 H locs xP xD xS ls xL; exact absurd hm_48 (Nat.not_lt_zero _)
          | succ n_48 ih_48 =>
            intro j y X hj hy hhi2 hZy hm_48 H locs xP xD xS ls xL
            refine lv_iload xE xB dX3_drainTile_48 (lv_at xL 4 rfl) ?_
            refine lv_aload_n xE xB dX3_drainTile_50 rfl (lv_at xL 0 rfl) ?_
            refine va_get (D := G.1) (ci := 3) (v := .ref a.2.2.2.2.2.1) (C := RX3) (T := TX3) (N := 5) xE xB xT khX3_drainTile_X3 xO xK.1 xP 0 rfl rfl 4 (by decide) (xT _ kX3_drainTile_f34) (fun _ h9 => h9) rfl dX3_drainTile_51 ?_
            refine va_get (D := G.1) (ci := 5) (v := .int (nI tw)) (C := RX5) (T := TX5) (N := 11) xE xB xT khX3_drainTile_X5 xO xK.1 xP 9 rfl rfl 4 (by decide) (xT _ kX3_drainTile_f99) (fun _ h9 => h9) rfl dX3_drainTile_54 ?_
            refine q_icmp_ge (tgt := 93) xE xB dX3_drainTile_57 (by decide) (by omega) (by omega) (fun c_57 => ?_) (fun c_57 => ?_)
            · skip
              refine lv_iinc (v := nI (i + 1)) (lv' := [(3, .int (nI (i + 1))), (0, .ref a.1), (1, .int (nI (n * ta))), (2, .int (nI (n * tb))), (4, .int (nI j))]) xE xB dX3_drainTile_93 xL (k := 3) rfl (q_inc _ _) (by decide) rfl (fun ls xL => ?_)
              refine lv_goto (tgt := 34) xE xB dX3_drainTile_96 (by decide) ?_
              exact ih_34 (i + 1) y X (by omega) (by rw [hy]; obtain rfl : tw = j := (by omega); rw [hz]; rfl) (by exact hhi2) (by exact hZy) (by omega) _ _ xP xD xS _ (lv_sub xL [1, 2, 3, 0] rfl)
            · skip
              have hg1 : n * ta + i < lr := by omega
              have hg2 : n * tb + j < rc := by omega
              refine lv_aload_n xE xB dX3_drainTile_60 rfl (lv_at xL 0 rfl) ?_
              refine va_get (D := G.1) (ci := 3) (v := .ref a.2.2.2.2.1.1) (C := RX3) (T := TX3) (N := 5) xE xB xT khX3_drainTile_X3 xO xK.1 xP 0 rfl rfl 3 (by decide) (xT _ kX3_drainTile_f28) (fun _ h9 => h9) rfl dX3_drainTile_61 ?_
              refine lv_iload_n xE xB dX3_drainTile_64 rfl (lv_at xL 1 rfl) ?_
              refine lv_iload_n xE xB dX3_drainTile_65 rfl (lv_at xL 3 rfl) ?_
              refine q_iadd xE xB dX3_drainTile_66 ?_
              refine lv_iload_n xE xB dX3_drainTile_67 rfl (lv_at xL 2 rfl) ?_
              refine lv_iload xE xB dX3_drainTile_68 (lv_at xL 4 rfl) ?_
              refine q_iadd xE xB dX3_drainTile_70 ?_
              refine lv_aload_n xE xB dX3_drainTile_71 rfl (lv_at xL 0 rfl) ?_
              refine va_get (D := G.1) (ci := 3) (v := .ref a.2.2.2.2.2.1) (C := RX3) (T := TX3) (N := 5) xE xB xT khX3_drainTile_X3 xO xK.1 xP 0 rfl rfl 4 (by decide) (xT _ kX3_drainTile_f34) (fun _ h9 => h9) rfl dX3_drainTile_72 ?_
              refine lv_iload_n xE xB dX3_drainTile_75 rfl (lv_at xL 3 rfl) ?_
              refine lv_iload xE xB dX3_drainTile_76 (lv_at xL 4 rfl) ?_
              refine q_SR (As := [.int (nI i), .int (nI j)]) (rest := [.ref a.2.2.2.2.2.1, .int (nI ((n * tb) + j)), .int (nI ((n * ta) + i)), .ref a.2.2.2.2.1.1]) ⟨xE, xB, xM, xO, xT⟩ (kX5_cell l G i j) (va_cwS 2 xT gX3_drainTile_X5_cell rfl rfl rfl (by decide +kernel) ⟨Nat.le_of_ble_eq_true rfl, Nat.le_of_ble_eq_true rfl⟩) xK xP [] rfl rfl xL.1 rfl (Nat.le_of_ble_eq_true rfl) dX3_drainTile_78 ⟨Nat.le_refl _, Nat.le_refl _⟩ (fun r_78 h_78 => ?_)
              obtain rfl : r_78 = nI (4 * i + j) := h_78
              refine q_VR (As := [.int (nI (4 * i + j))]) (rest := [.int (nI ((n * tb) + j)), .int (nI ((n * ta) + i)), .ref a.2.2.2.2.1.1]) ⟨xE, xB, xM, xO, xT⟩ (kX5_sumOf l G a.2.2.2.2.2 b ta tb th tw tt tn sm0 mt rw dn (4 * i + j) (by omega)) (cwV 1 xT gX3_drainTile_X5_sumOf rfl rfl rfl (by decide +kernel) ⟨Nat.le_of_ble_eq_true rfl, Nat.le_of_ble_eq_true rfl⟩) xK xP [9, 10, 11, 12, 13] rfl 0 rfl rfl rfl rfl xL.1 rfl (Nat.le_of_ble_eq_true rfl) dX3_drainTile_81 ⟨Nat.le_refl _, Nat.le_refl _⟩ (fun r_81 h_81 => ?_)
              obtain rfl : r_81 = sm0 (4 * i + j) := h_81
              refine q_VV (As := [.int (nI ((n * ta) + i)), .int (nI ((n * tb) + j)), .int (sm0 (4 * i + j))]) (rest := []) ⟨xE, xB, xM, xO, xT⟩ (kX1_put l G a.2.2.2.2.1 sr sc X ((n * ta) + i) ((n * tb) + j) (sm0 (4 * i + j)) (by omega) (by omega) (by omega) (by omega)) (cwV 3 xT gX3_drainTile_X1_put rfl rfl rfl (by decide +kernel) ⟨Nat.le_of_ble_eq_true rfl, Nat.le_of_ble_eq_true rfl⟩) xK xP xD xS [7, 8] rfl (by decide +kernel) (fun _ => rfl) 0 rfl rfl rfl rfl xL.1 rfl (Nat.le_of_ble_eq_true rfl) dX3_drainTile_84 ⟨Nat.le_refl _, Nat.le_refl _⟩ (fun u_84 H locs h_84 xP xD xS => ?_)
              have xP : va_P G.1 vwCl (wS G a ((n, o, kf), (lr, lc, L), (rr, rc, R), (sr, sc, upd X (6 * ((n * ta) + i) + ((n * tb) + j)) (sm0 (4 * i + j))), (b, ta, tb, th, tw, tt, tn, sm0, mt, rw, dn))) H := xP
              have xD : va_D A (wS G a ((n, o, kf), (lr, lc, L), (rr, rc, R), (sr, sc, upd X (6 * ((n * ta) + i) + ((n * tb) + j)) (sm0 (4 * i + j))), (b, ta, tb, th, tw, tt, tn, sm0, mt, rw, dn))) := xD
              refine lv_iinc (v := nI (j + 1)) (lv' := [(4, .int (nI (j + 1))), (0, .ref a.1), (1, .int (nI (n * ta))), (2, .int (nI (n * tb))), (3, .int (nI i))]) xE xB dX3_drainTile_87 xL (k := 4) rfl (q_inc _ _) (by decide) rfl (fun ls xL => ?_)
              refine lv_goto (tgt := 48) xE xB dX3_drainTile_90 (by decide) ?_
              exact ih_48 (j + 1) (drC n ta tb i j y) (upd X (6 * ((n * ta) + i) + ((n * tb) + j)) (sm0 (4 * i + j))) (by omega) (by rw [hy]; rfl) (by exact fun p hp => (drC_hi (by omega) p hp).trans (hhi2 p hp)) (by exact RelZ_step hZy (by omega) (by omega) hg1 hg2 (by rw [(hC i j (by omega) (by omega)).1, hhi2 _ (by omega)]) (by rw [hhi2 _ (by omega)]; exact bS_ne (hS0 i j (by omega) (by omega)) (by omega))) (by omega) _ _ xP xD xS _ (lv_sub xL [1, 2, 3, 4, 0] rfl)
        exact L_48 (tw - 0 + 1) 0 z Y (by omega) (by rfl) (by exact hhi) (by exact hZz) (Nat.lt_succ_self _) _ _ xP xD xS _ (lv_sub xL [1, 2, 3, 4, 0] rfl)
  exact L_34 (th - 0 + 1) 0 s Z (by omega) (by rfl) (by exact fun _ _ => rfl) (by exact hZ) (Nat.lt_succ_self _) _ _ xP xD xS _ (lv_sub xL [3, 2, 1, 0] rfl)
theorem kX3_dueAt_f21 : Cond.fieldLink RX3 21 "SkewedSquare$State" "leftMatrix" "LSkewedSquare$Matrix;" ∈ wsX3_dueAt := by decide +kernel
theorem kX3_dueAt_f25 : Cond.fieldLink RX3 25 "SkewedSquare$State" "rightMatrix" "LSkewedSquare$Matrix;" ∈ wsX3_dueAt := by decide +kernel
theorem kX3_dueAt_f55 : Cond.fieldLink RX3 55 "SkewedSquare$Matrix" "columns" "I" ∈ wsX3_dueAt := by decide +kernel
theorem khX3_dueAt_X1 : ∀ w ∈ u_ws RX1 TX1 3, w ∈ wsX3_dueAt := by decide +kernel
theorem khX3_dueAt_X3 : ∀ w ∈ u_ws RX3 TX3 5, w ∈ wsX3_dueAt := by decide +kernel
set_option maxHeartbeats 4000000 in
set_option maxRecDepth 100000 in
/-- kX3_dueAt -/
theorem kX3_dueAt (l : Launch) (G : wG) (a : SA) (n o : Nat) (kf : wF) (lr lc : Nat) (L : wF) (rr rc : Nat) (R : wF) (sr sc : Nat) (Z : wF) (b ta tb th tw tt tn : Nat) (sm0 mt rw dn : wF) (i j : Nat) (hlr : lr ≤ 6) (hlc : lc ≤ 6) (hrc : rc ≤ 6) (hrr : rr = lc) (hi : i < lr) (hj : j < rc) : CR l yX3_dueAt wsX3_dueAt (rm 1 22) G [.ref a.1, .int (nI i), .int (nI j)] (wS G a ((n, o, kf), (lr, lc, L), (rr, rc, R), (sr, sc, Z), (b, ta, tb, th, tw, tt, tn, sm0, mt, rw, dn))) (fun x => x = sm (fun q => L (6 * i + q) * R (6 * q + j)) lc) := by
  refine CR.of (own := RX3) rfl (by decide) rfl (Nat.le_of_ble_eq_true rfl) ?_
  intro p9 e9 s9 m9 b9 t9 c9 xE xB xM xO xT xK xP Q xQ ls hl
  have xL : lv_has ls 5 [(0, .ref a.1), (1, .int (nI i)), (2, .int (nI j))] := hl
  refine lv_iconst (v := nI 0) xE xB dX3_dueAt_0 (by decide) ?_
  refine lv_istore_n (lv' := [(3, .int (nI 0)), (0, .ref a.1), (1, .int (nI i)), (2, .int (nI j))]) xE xB dX3_dueAt_1 rfl xL (by decide) rfl (fun ls xL => ?_)
  refine lv_iconst (v := nI 0) xE xB dX3_dueAt_2 (by decide) ?_
  refine lv_istore (lv' := [(4, .int (nI 0)), (3, .int (nI 0)), (0, .ref a.1), (1, .int (nI i)), (2, .int (nI j))]) xE xB dX3_dueAt_3 xL (by decide) rfl (fun ls xL => ?_)
  have L_5 : ∀ (n_5 : Nat) (k : Nat) (x : Int32), (k ≤ lc) → (x = sm (fun q => L (6 * i + q) * R (6 * q + j)) k) → lc - k < n_5 → ∀ (ls : Array Slot), lv_has ls 5 [(0, .ref a.1), (1, .int (nI i)), (2, .int (nI j)), (3, .int x), (4, .int (nI k))] → W p9 l e9 (rm 1 22) s9 m9 ([.ref a.1, .int (nI i), .int (nI j)] : List Value).toArray b9 t9 c9 s9.heap [] 0 0 Q (F0 m9 5 ls []) := by
    intro n_5
    induction n_5 with
    | zero => intro k x hk hx hm_5 ls xL; exact absurd hm_5 (Nat.not_lt_zero _)
    | succ n_5 ih_5 =>
      intro k x hk hx hm_5 ls xL
      refine lv_iload xE xB dX3_dueAt_5 (lv_at xL 4 rfl) ?_
      refine lv_aload_n xE xB dX3_dueAt_7 rfl (lv_at xL 0 rfl) ?_
      refine va_get (D := G.1) (ci := 3) (v := .ref a.2.2.1.1) (C := RX3) (T := TX3) (N := 5) xE xB xT khX3_dueAt_X3 xO xK.1 xP 0 rfl rfl 1 (by decide) (xT _ kX3_dueAt_f21) (fun _ h9 => h9) rfl dX3_dueAt_8 ?_
      refine va_get (D := G.1) (ci := 1) (v := .int (nI lc)) (C := RX1) (T := TX1) (N := 3) xE xB xT khX3_dueAt_X1 xO xK.1 xP 3 rfl rfl 1 (by decide) (xT _ kX3_dueAt_f55) (fun _ h9 => h9) rfl dX3_dueAt_11 ?_
      refine q_icmp_ge (tgt := 47) xE xB dX3_dueAt_14 (by decide) (by omega) (by omega) (fun c_14 => ?_) (fun c_14 => ?_)
      · skip
        obtain rfl : lc = k := by omega
        refine lv_iload_n xE xB dX3_dueAt_47 rfl (lv_at xL 3 rfl) ?_
        exact xQ _ _ _ (by exact hx) dX3_dueAt_48
      · skip
        refine lv_iload_n xE xB dX3_dueAt_17 rfl (lv_at xL 3 rfl) ?_
        refine lv_aload_n xE xB dX3_dueAt_18 rfl (lv_at xL 0 rfl) ?_
        refine va_get (D := G.1) (ci := 3) (v := .ref a.2.2.1.1) (C := RX3) (T := TX3) (N := 5) xE xB xT khX3_dueAt_X3 xO xK.1 xP 0 rfl rfl 1 (by decide) (xT _ kX3_dueAt_f21) (fun _ h9 => h9) rfl dX3_dueAt_19 ?_
        refine lv_iload_n xE xB dX3_dueAt_22 rfl (lv_at xL 1 rfl) ?_
        refine lv_iload xE xB dX3_dueAt_23 (lv_at xL 4 rfl) ?_
        refine q_VR (As := [.int (nI i), .int (nI k)]) (rest := [.int x]) ⟨xE, xB, xM, xO, xT⟩ (kX1_at l G a.2.2.1 lr lc L i k (by omega) (by omega) (by omega) (by omega)) (cwV 2 xT gX3_dueAt_X1_at rfl rfl rfl (by decide +kernel) ⟨Nat.le_of_ble_eq_true rfl, Nat.le_of_ble_eq_true rfl⟩) xK xP [3, 4] rfl 0 rfl rfl rfl rfl xL.1 rfl (Nat.le_of_ble_eq_true rfl) dX3_dueAt_25 ⟨Nat.le_refl _, Nat.le_refl _⟩ (fun r_25 h_25 => ?_)
        obtain rfl : r_25 = L (6 * i + k) := h_25
        refine lv_aload_n xE xB dX3_dueAt_28 rfl (lv_at xL 0 rfl) ?_
        refine va_get (D := G.1) (ci := 3) (v := .ref a.2.2.2.1.1) (C := RX3) (T := TX3) (N := 5) xE xB xT khX3_dueAt_X3 xO xK.1 xP 0 rfl rfl 2 (by decide) (xT _ kX3_dueAt_f25) (fun _ h9 => h9) rfl dX3_dueAt_29 ?_
        refine lv_iload xE xB dX3_dueAt_32 (lv_at xL 4 rfl) ?_
        refine lv_iload_n xE xB dX3_dueAt_34 rfl (lv_at xL 2 rfl) ?_
        refine q_VR (As := [.int (nI k), .int (nI j)]) (rest := [.int (L (6 * i + k)), .int x]) ⟨xE, xB, xM, xO, xT⟩ (kX1_at l G a.2.2.2.1 rr rc R k j (by omega) (by omega) (by omega) (by omega)) (cwV 2 xT gX3_dueAt_X1_at rfl rfl rfl (by decide +kernel) ⟨Nat.le_of_ble_eq_true rfl, Nat.le_of_ble_eq_true rfl⟩) xK xP [5, 6] rfl 0 rfl rfl rfl rfl xL.1 rfl (Nat.le_of_ble_eq_true rfl) dX3_dueAt_35 ⟨Nat.le_refl _, Nat.le_refl _⟩ (fun r_35 h_35 => ?_)
        obtain rfl : r_35 = R (6 * k + j) := h_35
        refine lv_imul xE xB dX3_dueAt_38 ?_
        refine lv_iadd xE xB dX3_dueAt_39 ?_
        refine lv_istore_n (lv' := [(3, .int (x + ((L (6 * i + k)) * (R (6 * k + j))))), (0, .ref a.1), (1, .int (nI i)), (2, .int (nI j)), (4, .int (nI k))]) xE xB dX3_dueAt_40 rfl xL (by decide) rfl (fun ls xL => ?_)
        refine lv_iinc (v := nI (k + 1)) (lv' := [(4, .int (nI (k + 1))), (3, .int (x + ((L (6 * i + k)) * (R (6 * k + j))))), (0, .ref a.1), (1, .int (nI i)), (2, .int (nI j))]) xE xB dX3_dueAt_41 xL (k := 4) rfl (q_inc _ _) (by decide) rfl (fun ls xL => ?_)
        refine lv_goto (tgt := 5) xE xB dX3_dueAt_44 (by decide) ?_
        exact ih_5 (k + 1) (x + ((L (6 * i + k)) * (R (6 * k + j)))) (by omega) (by rw [hx]; rfl) (by omega) _ (lv_sub xL [2, 3, 4, 1, 0] rfl)
  exact L_5 (lc - 0 + 1) 0 (nI 0) (by omega) (by rfl) (Nat.lt_succ_self _) _ (lv_sub xL [2, 3, 4, 1, 0] rfl)
theorem kX3_knownEntries_c58 : Cond.constant RX3 58 (-999999999) ∈ wsX3_knownEntries := by decide +kernel
theorem kX3_knownEntries_f28 : Cond.fieldLink RX3 28 "SkewedSquare$State" "results" "LSkewedSquare$Matrix;" ∈ wsX3_knownEntries := by decide +kernel
theorem kX3_knownEntries_f51 : Cond.fieldLink RX3 51 "SkewedSquare$Matrix" "rows" "I" ∈ wsX3_knownEntries := by decide +kernel
theorem kX3_knownEntries_f55 : Cond.fieldLink RX3 55 "SkewedSquare$Matrix" "columns" "I" ∈ wsX3_knownEntries := by decide +kernel
theorem khX3_knownEntries_X1 : ∀ w ∈ u_ws RX1 TX1 3, w ∈ wsX3_knownEntries := by decide +kernel
theorem khX3_knownEntries_X3 : ∀ w ∈ u_ws RX3 TX3 5, w ∈ wsX3_knownEntries := by decide +kernel
set_option maxHeartbeats 4000000 in
set_option maxRecDepth 100000 in
/-- kX3_knownEntries -/
theorem kX3_knownEntries (l : Launch) (G : wG) (a : SA) (n o : Nat) (kf : wF) (lr lc : Nat) (L : wF) (rr rc : Nat) (R : wF) (sr sc : Nat) (Z : wF) (b ta tb th tw tt tn : Nat) (sm0 mt rw dn : wF) (hsr : sr ≤ 6) (hsc : sc ≤ 6) : CR l yX3_knownEntries wsX3_knownEntries (rm 1 22) G [.ref a.1] (wS G a ((n, o, kf), (lr, lc, L), (rr, rc, R), (sr, sc, Z), (b, ta, tb, th, tw, tt, tn, sm0, mt, rw, dn))) (fun x => x = nI (ns (fun i => ns (fun j => if Z (6 * i + j) = NO then 0 else 1) sc) sr)) := by
  refine CR.of (own := RX3) rfl (by decide) rfl (Nat.le_of_ble_eq_true rfl) ?_
  intro p9 e9 s9 m9 b9 t9 c9 xE xB xM xO xT xK xP Q xQ ls hl
  have xL : lv_has ls 4 [(0, .ref a.1)] := hl
  refine lv_iconst (v := nI 0) xE xB dX3_knownEntries_0 (by decide) ?_
  refine lv_istore_n (lv' := [(1, .int (nI 0)), (0, .ref a.1)]) xE xB dX3_knownEntries_1 rfl xL (by decide) rfl (fun ls xL => ?_)
  refine lv_iconst (v := nI 0) xE xB dX3_knownEntries_2 (by decide) ?_
  refine lv_istore_n (lv' := [(2, .int (nI 0)), (1, .int (nI 0)), (0, .ref a.1)]) xE xB dX3_knownEntries_3 rfl xL (by decide) rfl (fun ls xL => ?_)
  have L_4 : ∀ (n_4 : Nat) (i x : Nat), (i ≤ sr) → (x = ns (fun i => ns (fun j => if Z (6 * i + j) = NO then 0 else 1) sc) i) → sr - i < n_4 → ∀ (ls : Array Slot), lv_has ls 4 [(0, .ref a.1), (1, .int (nI x)), (2, .int (nI i))] → W p9 l e9 (rm 1 22) s9 m9 ([.ref a.1] : List Value).toArray b9 t9 c9 s9.heap [] 0 0 Q (F0 m9 4 ls []) := by
    intro n_4
    induction n_4 with
    | zero => intro i x hi hx hm_4 ls xL; exact absurd hm_4 (Nat.not_lt_zero _)
    | succ n_4 ih_4 =>
      intro i x hi hx hm_4 ls xL
      refine lv_iload_n xE xB dX3_knownEntries_4 rfl (lv_at xL 2 rfl) ?_
      refine lv_aload_n xE xB dX3_knownEntries_5 rfl (lv_at xL 0 rfl) ?_
      refine va_get (D := G.1) (ci := 3) (v := .ref a.2.2.2.2.1.1) (C := RX3) (T := TX3) (N := 5) xE xB xT khX3_knownEntries_X3 xO xK.1 xP 0 rfl rfl 3 (by decide) (xT _ kX3_knownEntries_f28) (fun _ h9 => h9) rfl dX3_knownEntries_6 ?_
      refine va_get (D := G.1) (ci := 1) (v := .int (nI sr)) (C := RX1) (T := TX1) (N := 3) xE xB xT khX3_knownEntries_X1 xO xK.1 xP 7 rfl rfl 0 (by decide) (xT _ kX3_knownEntries_f51) (fun _ h9 => h9) rfl dX3_knownEntries_9 ?_
      refine q_icmp_ge (tgt := 57) xE xB dX3_knownEntries_12 (by decide) (by omega) (by omega) (fun c_12 => ?_) (fun c_12 => ?_)
      · skip
        refine lv_iload_n xE xB dX3_knownEntries_57 rfl (lv_at xL 1 rfl) ?_
        exact xQ _ _ _ (by obtain rfl : sr = i := (by omega); exact congrArg nI hx) dX3_knownEntries_58
      · skip
        refine lv_iconst (v := nI 0) xE xB dX3_knownEntries_15 (by decide) ?_
        refine lv_istore_n (lv' := [(3, .int (nI 0)), (0, .ref a.1), (1, .int (nI x)), (2, .int (nI i))]) xE xB dX3_knownEntries_16 rfl xL (by decide) rfl (fun ls xL => ?_)
        have L_17 : ∀ (n_17 : Nat) (j y : Nat), (j ≤ sc) → (y = x + ns (fun j => if Z (6 * i + j) = NO then 0 else 1) j) → sc - j < n_17 → ∀ (ls : Array Slot), lv_has ls 4 [(0, .ref a.1), (1, .int (nI y)), (2, .int (nI i)), (3, .int (nI j))] → W p9 l e9 (rm 1 22) s9 m9 ([.ref a.1] : List Value).toArray b9 t9 c9 s9.heap [] 0 0 Q (F0 m9 17 ls []) := by
          intro n_17
          induction n_17 with
          | zero => intro j y hj hy hm_17 ls xL; exact absurd hm_17 (Nat.not_lt_zero _)
          | succ n_17 ih_17 =>
            intro j y hj hy hm_17 ls xL
            refine lv_iload_n xE xB dX3_knownEntries_17 rfl (lv_at xL 3 rfl) ?_
            refine lv_aload_n xE xB dX3_knownEntries_18 rfl (lv_at xL 0 rfl) ?_
            refine va_get (D := G.1) (ci := 3) (v := .ref a.2.2.2.2.1.1) (C := RX3) (T := TX3) (N := 5) xE xB xT khX3_knownEntries_X3 xO xK.1 xP 0 rfl rfl 3 (by decide) (xT _ kX3_knownEntries_f28) (fun _ h9 => h9) rfl dX3_knownEntries_19 ?_
            refine va_get (D := G.1) (ci := 1) (v := .int (nI sc)) (C := RX1) (T := TX1) (N := 3) xE xB xT khX3_knownEntries_X1 xO xK.1 xP 7 rfl rfl 1 (by decide) (xT _ kX3_knownEntries_f55) (fun _ h9 => h9) rfl dX3_knownEntries_22 ?_
            refine q_icmp_ge (tgt := 51) xE xB dX3_knownEntries_25 (by decide) (by omega) (by omega) (fun c_25 => ?_) (fun c_25 => ?_)
            · skip
              refine lv_iinc (v := nI (i + 1)) (lv' := [(2, .int (nI (i + 1))), (0, .ref a.1), (1, .int (nI y)), (3, .int (nI j))]) xE xB dX3_knownEntries_51 xL (k := 2) rfl (q_inc _ _) (by decide) rfl (fun ls xL => ?_)
              refine lv_goto (tgt := 4) xE xB dX3_knownEntries_54 (by decide) ?_
              exact ih_4 (i + 1) y (by omega) (by rw [hy, hx]; obtain rfl : sc = j := (by omega); rfl) (by omega) _ (lv_sub xL [1, 2, 0] rfl)
            · skip
              refine lv_aload_n xE xB dX3_knownEntries_28 rfl (lv_at xL 0 rfl) ?_
              refine va_get (D := G.1) (ci := 3) (v := .ref a.2.2.2.2.1.1) (C := RX3) (T := TX3) (N := 5) xE xB xT khX3_knownEntries_X3 xO xK.1 xP 0 rfl rfl 3 (by decide) (xT _ kX3_knownEntries_f28) (fun _ h9 => h9) rfl dX3_knownEntries_29 ?_
              refine lv_iload_n xE xB dX3_knownEntries_32 rfl (lv_at xL 2 rfl) ?_
              refine lv_iload_n xE xB dX3_knownEntries_33 rfl (lv_at xL 3 rfl) ?_
              refine q_VR (As := [.int (nI i), .int (nI j)]) (rest := []) ⟨xE, xB, xM, xO, xT⟩ (kX1_at l G a.2.2.2.2.1 sr sc Z i j (by omega) (by omega) (by omega) (by omega)) (cwV 2 xT gX3_knownEntries_X1_at rfl rfl rfl (by decide +kernel) ⟨Nat.le_of_ble_eq_true rfl, Nat.le_of_ble_eq_true rfl⟩) xK xP [7, 8] rfl 0 rfl rfl rfl rfl xL.1 rfl (Nat.le_of_ble_eq_true rfl) dX3_knownEntries_34 ⟨Nat.le_refl _, Nat.le_refl _⟩ (fun r_34 h_34 => ?_)
              obtain rfl : r_34 = Z (6 * i + j) := h_34
              refine lv_ldc (v := (-999999999)) xE xB xO (xT _ kX3_knownEntries_c58) dX3_knownEntries_37 ?_
              refine lv_icmp_eq (tgt := 45) xE xB dX3_knownEntries_39 (by decide) (fun c_39 => ?_) (fun c_39 => ?_)
              · skip
                refine lv_iinc (v := nI (j + 1)) (lv' := [(3, .int (nI (j + 1))), (0, .ref a.1), (1, .int (nI y)), (2, .int (nI i))]) xE xB dX3_knownEntries_45 xL (k := 3) rfl (q_inc _ _) (by decide) rfl (fun ls xL => ?_)
                refine lv_goto (tgt := 17) xE xB dX3_knownEntries_48 (by decide) ?_
                exact ih_17 (j + 1) y (by omega) (by first | (rw [hy]; show x + ns _ j + 1 = x + (ns _ j + (if _ then 0 else 1)); rw [if_neg c_39]; omega) | (rw [hy]; show x + ns _ j = x + (ns _ j + (if _ then 0 else 1)); rw [if_pos c_39]; omega)) (by omega) _ (lv_sub xL [1, 2, 3, 0] rfl)
              · skip
                refine lv_iinc (v := nI (y + 1)) (lv' := [(1, .int (nI (y + 1))), (0, .ref a.1), (2, .int (nI i)), (3, .int (nI j))]) xE xB dX3_knownEntries_42 xL (k := 1) rfl (q_inc _ _) (by decide) rfl (fun ls xL => ?_)
                refine lv_iinc (v := nI (j + 1)) (lv' := [(3, .int (nI (j + 1))), (1, .int (nI (y + 1))), (0, .ref a.1), (2, .int (nI i))]) xE xB dX3_knownEntries_45 xL (k := 3) rfl (q_inc _ _) (by decide) rfl (fun ls xL => ?_)
                refine lv_goto (tgt := 17) xE xB dX3_knownEntries_48 (by decide) ?_
                exact ih_17 (j + 1) (y + 1) (by omega) (by first | (rw [hy]; show x + ns _ j + 1 = x + (ns _ j + (if _ then 0 else 1)); rw [if_neg c_39]; omega) | (rw [hy]; show x + ns _ j = x + (ns _ j + (if _ then 0 else 1)); rw [if_pos c_39]; omega)) (by omega) _ (lv_sub xL [2, 1, 3, 0] rfl)
        exact L_17 (sc - 0 + 1) 0 x (by omega) (by rfl) (Nat.lt_succ_self _) _ (lv_sub xL [1, 2, 3, 0] rfl)
  exact L_4 (sr - 0 + 1) 0 0 (by omega) (by rfl) (Nat.lt_succ_self _) _ (lv_sub xL [2, 1, 0] rfl)
theorem kX3_wrongEntries_c58 : Cond.constant RX3 58 (-999999999) ∈ wsX3_wrongEntries := by decide +kernel
theorem kX3_wrongEntries_f28 : Cond.fieldLink RX3 28 "SkewedSquare$State" "results" "LSkewedSquare$Matrix;" ∈ wsX3_wrongEntries := by decide +kernel
theorem kX3_wrongEntries_f51 : Cond.fieldLink RX3 51 "SkewedSquare$Matrix" "rows" "I" ∈ wsX3_wrongEntries := by decide +kernel
theorem kX3_wrongEntries_f55 : Cond.fieldLink RX3 55 "SkewedSquare$Matrix" "columns" "I" ∈ wsX3_wrongEntries := by decide +kernel
theorem khX3_wrongEntries_X1 : ∀ w ∈ u_ws RX1 TX1 3, w ∈ wsX3_wrongEntries := by decide +kernel
theorem khX3_wrongEntries_X3 : ∀ w ∈ u_ws RX3 TX3 5, w ∈ wsX3_wrongEntries := by decide +kernel
set_option maxHeartbeats 4000000 in
set_option maxRecDepth 100000 in
/-- kX3_wrongEntries -/
theorem kX3_wrongEntries (l : Launch) (G : wG) (a : SA) (n o : Nat) (kf : wF) (lr lc : Nat) (L : wF) (rr rc : Nat) (R : wF) (sr sc : Nat) (Z : wF) (b ta tb th tw tt tn : Nat) (sm0 mt rw dn : wF) (hlr : lr ≤ 6) (hlc : lc ≤ 6) (hrc : rc ≤ 6) (hrr : rr = lc) (hsr : sr = lr) (hsc : sc = rc) : CR l yX3_wrongEntries wsX3_wrongEntries (rm 2 46) G [.ref a.1] (wS G a ((n, o, kf), (lr, lc, L), (rr, rc, R), (sr, sc, Z), (b, ta, tb, th, tw, tt, tn, sm0, mt, rw, dn))) (fun x => x = nI (ns (fun i => ns (fun j => if Z (6 * i + j) ≠ NO ∧ Z (6 * i + j) ≠ sm (fun q => L (6 * i + q) * R (6 * q + j)) lc then 1 else 0) sc) sr)) := by
  refine CR.of (own := RX3) rfl (by decide) rfl (Nat.le_of_ble_eq_true rfl) ?_
  intro p9 e9 s9 m9 b9 t9 c9 xE xB xM xO xT xK xP Q xQ ls hl
  have xL : lv_has ls 5 [(0, .ref a.1)] := hl
  refine lv_iconst (v := nI 0) xE xB dX3_wrongEntries_0 (by decide) ?_
  refine lv_istore_n (lv' := [(1, .int (nI 0)), (0, .ref a.1)]) xE xB dX3_wrongEntries_1 rfl xL (by decide) rfl (fun ls xL => ?_)
  refine lv_iconst (v := nI 0) xE xB dX3_wrongEntries_2 (by decide) ?_
  refine lv_istore_n (lv' := [(2, .int (nI 0)), (1, .int (nI 0)), (0, .ref a.1)]) xE xB dX3_wrongEntries_3 rfl xL (by decide) rfl (fun ls xL => ?_)
  have L_4 : ∀ (n_4 : Nat) (i x : Nat), (i ≤ sr) → (x = ns (fun i => ns (fun j => if Z (6 * i + j) ≠ NO ∧ Z (6 * i + j) ≠ sm (fun q => L (6 * i + q) * R (6 * q + j)) lc then 1 else 0) sc) i) → sr - i < n_4 → ∀ (ls : Array Slot), lv_has ls 5 [(0, .ref a.1), (1, .int (nI x)), (2, .int (nI i))] → W p9 l e9 (rm 2 46) s9 m9 ([.ref a.1] : List Value).toArray b9 t9 c9 s9.heap [] 0 0 Q (F0 m9 4 ls []) := by
    intro n_4
    induction n_4 with
    | zero => intro i x hi hx hm_4 ls xL; exact absurd hm_4 (Nat.not_lt_zero _)
    | succ n_4 ih_4 =>
      intro i x hi hx hm_4 ls xL
      refine lv_iload_n xE xB dX3_wrongEntries_4 rfl (lv_at xL 2 rfl) ?_
      refine lv_aload_n xE xB dX3_wrongEntries_5 rfl (lv_at xL 0 rfl) ?_
      refine va_get (D := G.1) (ci := 3) (v := .ref a.2.2.2.2.1.1) (C := RX3) (T := TX3) (N := 5) xE xB xT khX3_wrongEntries_X3 xO xK.1 xP 0 rfl rfl 3 (by decide) (xT _ kX3_wrongEntries_f28) (fun _ h9 => h9) rfl dX3_wrongEntries_6 ?_
      refine va_get (D := G.1) (ci := 1) (v := .int (nI sr)) (C := RX1) (T := TX1) (N := 3) xE xB xT khX3_wrongEntries_X1 xO xK.1 xP 7 rfl rfl 0 (by decide) (xT _ kX3_wrongEntries_f51) (fun _ h9 => h9) rfl dX3_wrongEntries_9 ?_
      refine q_icmp_ge (tgt := 72) xE xB dX3_wrongEntries_12 (by decide) (by omega) (by omega) (fun c_12 => ?_) (fun c_12 => ?_)
      · skip
        refine lv_iload_n xE xB dX3_wrongEntries_72 rfl (lv_at xL 1 rfl) ?_
        exact xQ _ _ _ (by obtain rfl : sr = i := (by omega); exact congrArg nI hx) dX3_wrongEntries_73
      · skip
        refine lv_iconst (v := nI 0) xE xB dX3_wrongEntries_15 (by decide) ?_
        refine lv_istore_n (lv' := [(3, .int (nI 0)), (0, .ref a.1), (1, .int (nI x)), (2, .int (nI i))]) xE xB dX3_wrongEntries_16 rfl xL (by decide) rfl (fun ls xL => ?_)
        have L_17 : ∀ (n_17 : Nat) (j y : Nat), (j ≤ sc) → (y = x + ns (fun j => if Z (6 * i + j) ≠ NO ∧ Z (6 * i + j) ≠ sm (fun q => L (6 * i + q) * R (6 * q + j)) lc then 1 else 0) j) → sc - j < n_17 → ∀ (ls : Array Slot), lv_has ls 5 [(0, .ref a.1), (1, .int (nI y)), (2, .int (nI i)), (3, .int (nI j))] → W p9 l e9 (rm 2 46) s9 m9 ([.ref a.1] : List Value).toArray b9 t9 c9 s9.heap [] 0 0 Q (F0 m9 17 ls []) := by
          intro n_17
          induction n_17 with
          | zero => intro j y hj hy hm_17 ls xL; exact absurd hm_17 (Nat.not_lt_zero _)
          | succ n_17 ih_17 =>
            intro j y hj hy hm_17 ls xL
            refine lv_iload_n xE xB dX3_wrongEntries_17 rfl (lv_at xL 3 rfl) ?_
            refine lv_aload_n xE xB dX3_wrongEntries_18 rfl (lv_at xL 0 rfl) ?_
            refine va_get (D := G.1) (ci := 3) (v := .ref a.2.2.2.2.1.1) (C := RX3) (T := TX3) (N := 5) xE xB xT khX3_wrongEntries_X3 xO xK.1 xP 0 rfl rfl 3 (by decide) (xT _ kX3_wrongEntries_f28) (fun _ h9 => h9) rfl dX3_wrongEntries_19 ?_
            refine va_get (D := G.1) (ci := 1) (v := .int (nI sc)) (C := RX1) (T := TX1) (N := 3) xE xB xT khX3_wrongEntries_X1 xO xK.1 xP 7 rfl rfl 1 (by decide) (xT _ kX3_wrongEntries_f55) (fun _ h9 => h9) rfl dX3_wrongEntries_22 ?_
            refine q_icmp_ge (tgt := 66) xE xB dX3_wrongEntries_25 (by decide) (by omega) (by omega) (fun c_25 => ?_) (fun c_25 => ?_)
            · skip
              refine lv_iinc (v := nI (i + 1)) (lv' := [(2, .int (nI (i + 1))), (0, .ref a.1), (1, .int (nI y)), (3, .int (nI j))]) xE xB dX3_wrongEntries_66 xL (k := 2) rfl (q_inc _ _) (by decide) rfl (fun ls xL => ?_)
              refine lv_goto (tgt := 4) xE xB dX3_wrongEntries_69 (by decide) ?_
              exact ih_4 (i + 1) y (by omega) (by rw [hy, hx]; obtain rfl : sc = j := (by omega); rfl) (by omega) _ (lv_sub xL [1, 2, 0] rfl)
            · skip
              refine lv_aload_n xE xB dX3_wrongEntries_28 rfl (lv_at xL 0 rfl) ?_
              refine va_get (D := G.1) (ci := 3) (v := .ref a.2.2.2.2.1.1) (C := RX3) (T := TX3) (N := 5) xE xB xT khX3_wrongEntries_X3 xO xK.1 xP 0 rfl rfl 3 (by decide) (xT _ kX3_wrongEntries_f28) (fun _ h9 => h9) rfl dX3_wrongEntries_29 ?_
              refine lv_iload_n xE xB dX3_wrongEntries_32 rfl (lv_at xL 2 rfl) ?_
              refine lv_iload_n xE xB dX3_wrongEntries_33 rfl (lv_at xL 3 rfl) ?_
              refine q_VR (As := [.int (nI i), .int (nI j)]) (rest := []) ⟨xE, xB, xM, xO, xT⟩ (kX1_at l G a.2.2.2.2.1 sr sc Z i j (by omega) (by omega) (by omega) (by omega)) (cwV 2 xT gX3_wrongEntries_X1_at rfl rfl rfl (by decide +kernel) ⟨Nat.le_of_ble_eq_true rfl, Nat.le_of_ble_eq_true rfl⟩) xK xP [7, 8] rfl 0 rfl rfl rfl rfl xL.1 rfl (Nat.le_of_ble_eq_true rfl) dX3_wrongEntries_34 ⟨Nat.le_refl _, Nat.le_refl _⟩ (fun r_34 h_34 => ?_)
              obtain rfl : r_34 = Z (6 * i + j) := h_34
              refine lv_istore (lv' := [(4, .int (Z (6 * i + j))), (0, .ref a.1), (1, .int (nI y)), (2, .int (nI i)), (3, .int (nI j))]) xE xB dX3_wrongEntries_37 xL (by decide) rfl (fun ls xL => ?_)
              refine lv_iload xE xB dX3_wrongEntries_39 (lv_at xL 0 rfl) ?_
              refine lv_ldc (v := (-999999999)) xE xB xO (xT _ kX3_wrongEntries_c58) dX3_wrongEntries_41 ?_
              refine lv_icmp_eq (tgt := 60) xE xB dX3_wrongEntries_43 (by decide) (fun c_43 => ?_) (fun c_43 => ?_)
              · skip
                refine lv_iinc (v := nI (j + 1)) (lv' := [(3, .int (nI (j + 1))), (4, .int (Z (6 * i + j))), (0, .ref a.1), (1, .int (nI y)), (2, .int (nI i))]) xE xB dX3_wrongEntries_60 xL (k := 4) rfl (q_inc _ _) (by decide) rfl (fun ls xL => ?_)
                refine lv_goto (tgt := 17) xE xB dX3_wrongEntries_63 (by decide) ?_
                exact ih_17 (j + 1) y (by omega) (by first | (rw [hy]; show x + ns _ j + 1 = x + (ns _ j + (if _ then 1 else 0)); rw [if_pos ⟨c_43, c_54⟩]; omega) | (rw [hy]; show x + ns _ j = x + (ns _ j + (if _ then 1 else 0)); rw [if_neg (by rintro ⟨h1, h2⟩; first | exact h1 c_43 | exact h2 c_54)]; omega)) (by omega) _ (lv_sub xL [2, 3, 4, 0] rfl)
              · skip
                refine lv_iload xE xB dX3_wrongEntries_46 (lv_at xL 0 rfl) ?_
                refine lv_aload_n xE xB dX3_wrongEntries_48 rfl (lv_at xL 1 rfl) ?_
                refine lv_iload_n xE xB dX3_wrongEntries_49 rfl (lv_at xL 3 rfl) ?_
                refine lv_iload_n xE xB dX3_wrongEntries_50 rfl (lv_at xL 4 rfl) ?_
                refine q_VR (As := [.int (nI i), .int (nI j)]) (rest := [.int (Z (6 * i + j))]) ⟨xE, xB, xM, xO, xT⟩ (kX3_dueAt l G a n o kf lr lc L rr rc R sr sc Z b ta tb th tw tt tn sm0 mt rw dn i j (by omega) (by omega) (by omega) (by omega) (by omega) (by omega)) (cwV 2 xT gX3_wrongEntries_X3_dueAt rfl rfl rfl (by decide +kernel) ⟨Nat.le_of_ble_eq_true rfl, Nat.le_of_ble_eq_true rfl⟩) xK xP [0, 1, 2, 3, 4, 5, 6, 7, 8, 9, 10, 11, 12, 13] rfl 0 rfl rfl rfl rfl xL.1 rfl (Nat.le_of_ble_eq_true rfl) dX3_wrongEntries_51 ⟨Nat.le_refl _, Nat.le_refl _⟩ (fun r_51 h_51 => ?_)
                obtain rfl : r_51 = sm (fun q => L (6 * i + q) * R (6 * q + j)) lc := h_51
                refine lv_icmp_eq (tgt := 60) xE xB dX3_wrongEntries_54 (by decide) (fun c_54 => ?_) (fun c_54 => ?_)
                · skip
                  refine lv_iinc (v := nI (j + 1)) (lv' := [(3, .int (nI (j + 1))), (4, .int (Z (6 * i + j))), (0, .ref a.1), (1, .int (nI y)), (2, .int (nI i))]) xE xB dX3_wrongEntries_60 xL (k := 4) rfl (q_inc _ _) (by decide) rfl (fun ls xL => ?_)
                  refine lv_goto (tgt := 17) xE xB dX3_wrongEntries_63 (by decide) ?_
                  exact ih_17 (j + 1) y (by omega) (by first | (rw [hy]; show x + ns _ j + 1 = x + (ns _ j + (if _ then 1 else 0)); rw [if_pos ⟨c_43, c_54⟩]; omega) | (rw [hy]; show x + ns _ j = x + (ns _ j + (if _ then 1 else 0)); rw [if_neg (by rintro ⟨h1, h2⟩; first | exact h1 c_43 | exact h2 c_54)]; omega)) (by omega) _ (lv_sub xL [2, 3, 4, 0] rfl)
                · skip
                  refine lv_iinc (v := nI (y + 1)) (lv' := [(1, .int (nI (y + 1))), (4, .int (Z (6 * i + j))), (0, .ref a.1), (2, .int (nI i)), (3, .int (nI j))]) xE xB dX3_wrongEntries_57 xL (k := 2) rfl (q_inc _ _) (by decide) rfl (fun ls xL => ?_)
                  refine lv_iinc (v := nI (j + 1)) (lv' := [(3, .int (nI (j + 1))), (1, .int (nI (y + 1))), (4, .int (Z (6 * i + j))), (0, .ref a.1), (2, .int (nI i))]) xE xB dX3_wrongEntries_60 xL (k := 4) rfl (q_inc _ _) (by decide) rfl (fun ls xL => ?_)
                  refine lv_goto (tgt := 17) xE xB dX3_wrongEntries_63 (by decide) ?_
                  exact ih_17 (j + 1) (y + 1) (by omega) (by first | (rw [hy]; show x + ns _ j + 1 = x + (ns _ j + (if _ then 1 else 0)); rw [if_pos ⟨c_43, c_54⟩]; omega) | (rw [hy]; show x + ns _ j = x + (ns _ j + (if _ then 1 else 0)); rw [if_neg (by rintro ⟨h1, h2⟩; first | exact h1 c_43 | exact h2 c_54)]; omega)) (by omega) _ (lv_sub xL [3, 1, 4, 0] rfl)
        exact L_17 (sc - 0 + 1) 0 x (by omega) (by rfl) (Nat.lt_succ_self _) _ (lv_sub xL [1, 2, 3, 0] rfl)
  exact L_4 (sr - 0 + 1) 0 0 (by omega) (by rfl) (Nat.lt_succ_self _) _ (lv_sub xL [2, 1, 0] rfl)
noncomputable def cb (p : Prop) : Bool := @decide p (Classical.propDecidable p)
theorem cb_t {p : Prop} (h : p) : cb p = true := by unfold cb; simp [h]
theorem cb_f {p : Prop} (h : ¬ p) : cb p = false := by unfold cb; simp [h]
theorem cb_e {p q : Prop} (h : p ↔ q) : cb p = cb q := by rw [propext h]
def so (p : Nat → Bool) : Nat → Int32
  | 0 => nI 0
  | k + 1 => if p k = true then so p k ||| (nI 1 <<< (nI k &&& 31)) else so p k
theorem so_t {p : Nat → Bool} {k : Nat} (h : p k = true) : so p (k + 1) = so p k ||| (nI 1 <<< (nI k &&& 31)) := if_pos h
theorem so_f {p : Nat → Bool} {k : Nat} (h : p k = false) : so p (k + 1) = so p k := if_neg (by rw [h]; decide)
