theorem kX6_wrongWithout_f10 : Cond.fieldLink RX6 10 "SkewedSquare" "now" "LSkewedSquare$State;" ∈ wsX6_wrongWithout := by decide +kernel
theorem kX6_wrongWithout_f101 : Cond.fieldLink RX6 101 "SkewedSquare$Square" "leftOut" "I" ∈ wsX6_wrongWithout := by decide +kernel
theorem kX6_wrongWithout_f16 : Cond.fieldLink RX6 16 "SkewedSquare" "trial" "LSkewedSquare$State;" ∈ wsX6_wrongWithout := by decide +kernel
theorem kX6_wrongWithout_f38 : Cond.fieldLink RX6 38 "SkewedSquare$State" "square" "LSkewedSquare$Square;" ∈ wsX6_wrongWithout := by decide +kernel
theorem khX6_wrongWithout_X2 : ∀ w ∈ u_ws RX2 TX2 3, w ∈ wsX6_wrongWithout := by decide +kernel
theorem khX6_wrongWithout_X3 : ∀ w ∈ u_ws RX3 TX3 5, w ∈ wsX6_wrongWithout := by decide +kernel
theorem khX6_wrongWithout_X6 : ∀ w ∈ u_ws RX6 TX6 4, w ∈ wsX6_wrongWithout := by decide +kernel
set_option maxHeartbeats 4000000 in
set_option maxRecDepth 100000 in
/-- kX6_wrongWithout -/
theorem kX6_wrongWithout (l : Launch) (G : wG) (x0 : Nat) (na tra : SA) (h : HA) (k : XA) (n o : Nat) (kf : wF) (lr lc : Nat) (L : wF) (rr rc : Nat) (R : wF) (sr sc : Nat) (Z : wF) (b ta tb th tw tt tn : Nat) (sm0 mt rw dn : wF) (v : SD) (hn : Nat) (u0 u1 u2 u3 : SD) (w : XD) (s : wF) (pst : PF) (j : Nat) (hR : RelS ((n, o, kf), (lr, lc, L), (rr, rc, R), (sr, sc, Z), (b, ta, tb, th, tw, tt, tn, sm0, mt, rw, dn)) s) (hj : j ≤ n) : CI (S := SD) l yX6_wrongWithout wsX6_wrongWithout (rm 6 136) G [.ref x0, .int (nI j)] (List.flatten [[((x0, na.1, tra.1, h.1, k.1).1, .inr (6, [.ref ((x0, na.1, tra.1, h.1, k.1).2.1), .ref ((x0, na.1, tra.1, h.1, k.1).2.2.1), .ref ((x0, na.1, tra.1, h.1, k.1).2.2.2.1), .ref ((x0, na.1, tra.1, h.1, k.1).2.2.2.2)]))], wS G na ((n, o, kf), (lr, lc, L), (rr, rc, R), (sr, sc, Z), (b, ta, tb, th, tw, tt, tn, sm0, mt, rw, dn)), wS G tra v, wHf G h (hn, u0, u1, u2, u3), wX G k w]) (fun x u9 => x = nI (wwN lc n lr rc s j)) (fun u9 => List.flatten [[((x0, na.1, tra.1, h.1, k.1).1, .inr (6, [.ref ((x0, na.1, tra.1, h.1, k.1).2.1), .ref ((x0, na.1, tra.1, h.1, k.1).2.2.1), .ref ((x0, na.1, tra.1, h.1, k.1).2.2.2.1), .ref ((x0, na.1, tra.1, h.1, k.1).2.2.2.2)]))], wS G na ((n, o, kf), (lr, lc, L), (rr, rc, R), (sr, sc, Z), (b, ta, tb, th, tw, tt, tn, sm0, mt, rw, dn)), wS G tra u9, wHf G h (hn, u0, u1, u2, u3), wX G k w]) := by
  refine CI.of (own := RX6) rfl (by decide) rfl (Nat.le_of_ble_eq_true rfl) ?_
  intro p9 e9 s9 m9 b9 t9 c9 A xE xB xM xO xT xK xP xD Q xQ xS ls hl
  have xL : lv_has ls 2 [(0, .ref x0), (1, .int (nI j))] := hl
  obtain ⟨hn1, hn2, hn3⟩ := hR.1.2.2.1
  obtain ⟨hm1, hm2, hm3, hm4, hm5, hm6⟩ := hR.2.2.1.2.2.2.1
  obtain ⟨hd1, hd2, hd3⟩ := hR.2.2.2.1
  have hb1 := hR.2.2.2.2.2.1.1
  refine lv_aload_n xE xB dX6_wrongWithout_0 rfl (lv_at xL 0 rfl) ?_
  refine va_get (D := G.1) (ci := 6) (v := .ref tra.1) (C := RX6) (T := TX6) (N := 4) xE xB xT khX6_wrongWithout_X6 xO xK.1 xP 0 rfl rfl 1 (by decide) (xT _ kX6_wrongWithout_f16) (fun _ h9 => h9) rfl dX6_wrongWithout_1 ?_
  refine lv_aload_n xE xB dX6_wrongWithout_4 rfl (lv_at xL 0 rfl) ?_
  refine va_get (D := G.1) (ci := 6) (v := .ref na.1) (C := RX6) (T := TX6) (N := 4) xE xB xT khX6_wrongWithout_X6 xO xK.1 xP 0 rfl rfl 0 (by decide) (xT _ kX6_wrongWithout_f10) (fun _ h9 => h9) rfl dX6_wrongWithout_5 ?_
  refine q_VVL (As := [.ref na.1]) (rest := []) ⟨xE, xB, xM, xO, xT⟩ (kX3_copyFrom l G tra v.1.1 v.1.2.1 v.1.2.2 v.2.1.1 v.2.1.2.1 v.2.1.2.2 v.2.2.1.1 v.2.2.1.2.1 v.2.2.1.2.2 v.2.2.2.1.1 v.2.2.2.1.2.1 v.2.2.2.1.2.2 v.2.2.2.2.1 v.2.2.2.2.2.1 v.2.2.2.2.2.2.1 v.2.2.2.2.2.2.2.1 v.2.2.2.2.2.2.2.2.1 v.2.2.2.2.2.2.2.2.2.1 v.2.2.2.2.2.2.2.2.2.2.1 v.2.2.2.2.2.2.2.2.2.2.2.1 v.2.2.2.2.2.2.2.2.2.2.2.2.1 v.2.2.2.2.2.2.2.2.2.2.2.2.2.1 v.2.2.2.2.2.2.2.2.2.2.2.2.2.2 na n o kf lr lc L rr rc R sr sc Z b ta tb th tw tt tn sm0 mt rw dn (by omega)) (cwV 1 xT gX6_wrongWithout_X3_copyFrom rfl rfl rfl (by decide +kernel) ⟨Nat.le_of_ble_eq_true rfl, Nat.le_of_ble_eq_true rfl⟩) xK xP xD xS [2, 1] [0, 3, 4] 5 rfl (by decide) (Lc := [wS G tra v, wS G na ((n, o, kf), (lr, lc, L), (rr, rc, R), (sr, sc, Z), (b, ta, tb, th, tw, tt, tn, sm0, mt, rw, dn))]) rfl (by simp only [List.flatten_cons, List.flatten_nil, List.append_nil, List.append_assoc]) (fun _ => [[(x0, .inr (6, [.ref na.1, .ref tra.1, .ref h.1, .ref k.1]))], wS G na ((n, o, kf), (lr, lc, L), (rr, rc, R), (sr, sc, Z), (b, ta, tb, th, tw, tt, tn, sm0, mt, rw, dn)), wS G tra ((n, o, va_cpy kf v.1.2.2 0 0 20), (lr, lc, va_cpy L v.2.1.2.2 0 0 36), (rr, rc, va_cpy R v.2.2.1.2.2 0 0 36), (sr, sc, va_cpy Z v.2.2.2.1.2.2 0 0 36), (b, ta, tb, th, tw, tt, tn, va_cpy sm0 v.2.2.2.2.2.2.2.2.2.2.2.1 0 0 16, va_cpy mt v.2.2.2.2.2.2.2.2.2.2.2.2.1 0 0 16, va_cpy rw v.2.2.2.2.2.2.2.2.2.2.2.2.2.1 0 0 16, va_cpy dn v.2.2.2.2.2.2.2.2.2.2.2.2.2.2 0 0 16)), wHf G h (hn, u0, u1, u2, u3), wX G k w]) (fun _ => [wS G tra ((n, o, va_cpy kf v.1.2.2 0 0 20), (lr, lc, va_cpy L v.2.1.2.2 0 0 36), (rr, rc, va_cpy R v.2.2.1.2.2 0 0 36), (sr, sc, va_cpy Z v.2.2.2.1.2.2 0 0 36), (b, ta, tb, th, tw, tt, tn, va_cpy sm0 v.2.2.2.2.2.2.2.2.2.2.2.1 0 0 16, va_cpy mt v.2.2.2.2.2.2.2.2.2.2.2.2.1 0 0 16, va_cpy rw v.2.2.2.2.2.2.2.2.2.2.2.2.2.1 0 0 16, va_cpy dn v.2.2.2.2.2.2.2.2.2.2.2.2.2.2 0 0 16)), wS G na ((n, o, kf), (lr, lc, L), (rr, rc, R), (sr, sc, Z), (b, ta, tb, th, tw, tt, tn, sm0, mt, rw, dn))]) (fun _ => rfl) (fun _ => rfl) (fun _ => by simp only [List.flatten_cons, List.flatten_nil, List.append_nil, List.append_assoc]) (fun _ => rfl) 0 rfl rfl rfl rfl xL.1 rfl (Nat.le_of_ble_eq_true rfl) dX6_wrongWithout_8 ⟨Nat.le_refl _, Nat.le_refl _⟩ (fun u_8 H locs h_8 xP xD xS => ?_)
  refine lv_aload_n xE xB dX6_wrongWithout_11 rfl (lv_at xL 0 rfl) ?_
  refine va_get (D := G.1) (ci := 6) (v := .ref tra.1) (C := RX6) (T := TX6) (N := 4) xE xB xT khX6_wrongWithout_X6 xO xK.1 xP 0 rfl rfl 1 (by decide) (xT _ kX6_wrongWithout_f16) (fun _ h9 => h9) rfl dX6_wrongWithout_12 ?_
  refine va_get (D := G.1) (ci := 3) (v := .ref tra.2.1.1) (C := RX3) (T := TX3) (N := 5) xE xB xT khX6_wrongWithout_X3 xO xK.1 xP 15 rfl rfl 0 (by decide) (xT _ kX6_wrongWithout_f38) (fun _ h9 => h9) rfl dX6_wrongWithout_15 ?_
  refine lv_iload_n xE xB dX6_wrongWithout_18 rfl (lv_at xL 1 rfl) ?_
  refine va_put (D := G.1) (ci := 2) (v := .int (nI j)) (ty := .int) (C := RX2) (T := TX2) (N := 3) xE xB xT khX6_wrongWithout_X2 tyX2 tyX2_ok nmX2 xO xK.1 xP xD xS 16 rfl rfl 1 (by decide) (xT _ kX6_wrongWithout_f101) (fun _ h9 => h9) rfl (by decide +kernel) rfl rfl (Nat.le_of_ble_eq_true rfl) dX6_wrongWithout_19 (fun H locs xP xD xS => ?_)
  have xP : va_P G.1 vwCl (List.flatten [[(x0, .inr (6, [.ref na.1, .ref tra.1, .ref h.1, .ref k.1]))], wS G na ((n, o, kf), (lr, lc, L), (rr, rc, R), (sr, sc, Z), (b, ta, tb, th, tw, tt, tn, sm0, mt, rw, dn)), wS G tra ((n, j, va_cpy kf v.1.2.2 0 0 20), (lr, lc, va_cpy L v.2.1.2.2 0 0 36), (rr, rc, va_cpy R v.2.2.1.2.2 0 0 36), (sr, sc, va_cpy Z v.2.2.2.1.2.2 0 0 36), (b, ta, tb, th, tw, tt, tn, va_cpy sm0 v.2.2.2.2.2.2.2.2.2.2.2.1 0 0 16, va_cpy mt v.2.2.2.2.2.2.2.2.2.2.2.2.1 0 0 16, va_cpy rw v.2.2.2.2.2.2.2.2.2.2.2.2.2.1 0 0 16, va_cpy dn v.2.2.2.2.2.2.2.2.2.2.2.2.2.2 0 0 16)), wHf G h (hn, u0, u1, u2, u3), wX G k w]) H := xP
  have xD : va_D A (List.flatten [[(x0, .inr (6, [.ref na.1, .ref tra.1, .ref h.1, .ref k.1]))], wS G na ((n, o, kf), (lr, lc, L), (rr, rc, R), (sr, sc, Z), (b, ta, tb, th, tw, tt, tn, sm0, mt, rw, dn)), wS G tra ((n, j, va_cpy kf v.1.2.2 0 0 20), (lr, lc, va_cpy L v.2.1.2.2 0 0 36), (rr, rc, va_cpy R v.2.2.1.2.2 0 0 36), (sr, sc, va_cpy Z v.2.2.2.1.2.2 0 0 36), (b, ta, tb, th, tw, tt, tn, va_cpy sm0 v.2.2.2.2.2.2.2.2.2.2.2.1 0 0 16, va_cpy mt v.2.2.2.2.2.2.2.2.2.2.2.2.1 0 0 16, va_cpy rw v.2.2.2.2.2.2.2.2.2.2.2.2.2.1 0 0 16, va_cpy dn v.2.2.2.2.2.2.2.2.2.2.2.2.2.2 0 0 16)), wHf G h (hn, u0, u1, u2, u3), wX G k w]) := xD
  refine lv_aload_n xE xB dX6_wrongWithout_22 rfl (lv_at xL 0 rfl) ?_
  refine va_get (D := G.1) (ci := 6) (v := .ref tra.1) (C := RX6) (T := TX6) (N := 4) xE xB xT khX6_wrongWithout_X6 xO xK.1 xP 0 rfl rfl 1 (by decide) (xT _ kX6_wrongWithout_f16) (fun _ h9 => h9) rfl dX6_wrongWithout_23 ?_
  refine q_VIL (As := []) (rest := []) ⟨xE, xB, xM, xO, xT⟩ (kX3_doAllTiles l G tra n j (va_cpy kf v.1.2.2 0 0 20) lr lc (va_cpy L v.2.1.2.2 0 0 36) rr rc (va_cpy R v.2.2.1.2.2 0 0 36) sr sc (va_cpy Z v.2.2.2.1.2.2 0 0 36) b ta tb th tw tt tn (va_cpy sm0 v.2.2.2.2.2.2.2.2.2.2.2.1 0 0 16) (va_cpy mt v.2.2.2.2.2.2.2.2.2.2.2.2.1 0 0 16) (va_cpy rw v.2.2.2.2.2.2.2.2.2.2.2.2.2.1 0 0 16) (va_cpy dn v.2.2.2.2.2.2.2.2.2.2.2.2.2.2 0 0 16) (upd s 4 (nI j)) (by exact rel_try (u := cpS ((n, o, kf), (lr, lc, L), (rr, rc, R), (sr, sc, Z), (b, ta, tb, th, tw, tt, tn, sm0, mt, rw, dn)) v) (RelS_copy hR) hj)) (cwV 0 xT gX6_wrongWithout_X3_doAllTiles rfl rfl rfl (by decide +kernel) ⟨Nat.le_of_ble_eq_true rfl, Nat.le_of_ble_eq_true rfl⟩) xK xP xD xS [2] [0, 1, 3, 4] 5 rfl (by decide) (Lc := [wS G tra ((n, j, va_cpy kf v.1.2.2 0 0 20), (lr, lc, va_cpy L v.2.1.2.2 0 0 36), (rr, rc, va_cpy R v.2.2.1.2.2 0 0 36), (sr, sc, va_cpy Z v.2.2.2.1.2.2 0 0 36), (b, ta, tb, th, tw, tt, tn, va_cpy sm0 v.2.2.2.2.2.2.2.2.2.2.2.1 0 0 16, va_cpy mt v.2.2.2.2.2.2.2.2.2.2.2.2.1 0 0 16, va_cpy rw v.2.2.2.2.2.2.2.2.2.2.2.2.2.1 0 0 16, va_cpy dn v.2.2.2.2.2.2.2.2.2.2.2.2.2.2 0 0 16))]) rfl (by simp only [List.flatten_cons, List.flatten_nil, List.append_nil, List.append_assoc]) (fun u_26 => [[(x0, .inr (6, [.ref na.1, .ref tra.1, .ref h.1, .ref k.1]))], wS G na ((n, o, kf), (lr, lc, L), (rr, rc, R), (sr, sc, Z), (b, ta, tb, th, tw, tt, tn, sm0, mt, rw, dn)), wS G tra ((n, j, va_cpy kf v.1.2.2 0 0 20), (lr, lc, va_cpy L v.2.1.2.2 0 0 36), (rr, rc, va_cpy R v.2.2.1.2.2 0 0 36), (sr, sc, u_26.1), u_26.2), wHf G h (hn, u0, u1, u2, u3), wX G k w]) (fun u_26 => [wS G tra ((n, j, va_cpy kf v.1.2.2 0 0 20), (lr, lc, va_cpy L v.2.1.2.2 0 0 36), (rr, rc, va_cpy R v.2.2.1.2.2 0 0 36), (sr, sc, u_26.1), u_26.2)]) (fun _ => rfl) (fun _ => rfl) (fun _ => by simp only [List.flatten_cons, List.flatten_nil, List.append_nil, List.append_assoc]) (fun _ => rfl) 0 rfl rfl rfl rfl xL.1 rfl (Nat.le_of_ble_eq_true rfl) dX6_wrongWithout_26 ⟨Nat.le_refl _, Nat.le_refl _⟩ (fun r_26 u_26 H locs h_26 xP xD xS => ?_)
  have h_26 : r_26 = nI (tkN lc n lr rc) ∧ RelS ((n, j, (va_cpy kf v.1.2.2 0 0 20)), (lr, lc, (va_cpy L v.2.1.2.2 0 0 36)), (rr, rc, (va_cpy R v.2.2.1.2.2 0 0 36)), (sr, sc, u_26.1), u_26.2) (alF lc n j lr rc (upd s 4 (nI j))) := h_26
  obtain ⟨q_26, h_26⟩ := h_26
  subst q_26
  refine lv_pop xE xB dX6_wrongWithout_29 rfl ?_
  refine lv_aload_n xE xB dX6_wrongWithout_30 rfl (lv_at xL 0 rfl) ?_
  refine va_get (D := G.1) (ci := 6) (v := .ref tra.1) (C := RX6) (T := TX6) (N := 4) xE xB xT khX6_wrongWithout_X6 xO xK.1 xP 0 rfl rfl 1 (by decide) (xT _ kX6_wrongWithout_f16) (fun _ h9 => h9) rfl dX6_wrongWithout_31 ?_
  refine q_VRL (As := []) (rest := []) ⟨xE, xB, xM, xO, xT⟩ (kX3_wrongEntries l G tra n j (va_cpy kf v.1.2.2 0 0 20) lr lc (va_cpy L v.2.1.2.2 0 0 36) rr rc (va_cpy R v.2.2.1.2.2 0 0 36) sr sc u_26.1 u_26.2.1 u_26.2.2.1 u_26.2.2.2.1 u_26.2.2.2.2.1 u_26.2.2.2.2.2.1 u_26.2.2.2.2.2.2.1 u_26.2.2.2.2.2.2.2.1 u_26.2.2.2.2.2.2.2.2.1 u_26.2.2.2.2.2.2.2.2.2.1 u_26.2.2.2.2.2.2.2.2.2.2.1 u_26.2.2.2.2.2.2.2.2.2.2.2 (by omega) (by omega) (by omega) (by omega) (by omega) (by omega)) (cwV 0 xT gX6_wrongWithout_X3_wrongEntries rfl rfl rfl (by decide +kernel) ⟨Nat.le_of_ble_eq_true rfl, Nat.le_of_ble_eq_true rfl⟩) xK xP [2] [0, 1, 3, 4] 5 rfl (by decide) (Lc := [wS G tra ((n, j, va_cpy kf v.1.2.2 0 0 20), (lr, lc, va_cpy L v.2.1.2.2 0 0 36), (rr, rc, va_cpy R v.2.2.1.2.2 0 0 36), (sr, sc, u_26.1), u_26.2)]) rfl (by simp only [List.flatten_cons, List.flatten_nil, List.append_nil, List.append_assoc]) 0 rfl rfl rfl rfl xL.1 rfl (Nat.le_of_ble_eq_true rfl) dX6_wrongWithout_34 ⟨Nat.le_refl _, Nat.le_refl _⟩ (fun r_34 h_34 => ?_)
  obtain rfl : r_34 = nI (ns (fun i => ns (fun j => if u_26.1 (6 * i + j) ≠ NO ∧ u_26.1 (6 * i + j) ≠ sm (fun q => (va_cpy L v.2.1.2.2 0 0 36) (6 * i + q) * (va_cpy R v.2.2.1.2.2 0 0 36) (6 * q + j)) lc then 1 else 0) sc) sr) := h_34
  exact xQ _ _ _ _ _ ((n, j, va_cpy kf v.1.2.2 0 0 20), (lr, lc, va_cpy L v.2.1.2.2 0 0 36), (rr, rc, va_cpy R v.2.2.1.2.2 0 0 36), (sr, sc, u_26.1), u_26.2) (by rw [hd2, hd3]; exact congrArg nI (wrL h_26.2.2.2.1 h_26.2.2.2.2.2.1)) xP xD xS dX6_wrongWithout_37
theorem kX6_wouldBeWrong_c33 : Cond.constant RX6 33 (-1000001) ∈ wsX6_wouldBeWrong := by decide +kernel
theorem kX6_wouldBeWrong_f10 : Cond.fieldLink RX6 10 "SkewedSquare" "now" "LSkewedSquare$State;" ∈ wsX6_wouldBeWrong := by decide +kernel
theorem kX6_wouldBeWrong_f38 : Cond.fieldLink RX6 38 "SkewedSquare$State" "square" "LSkewedSquare$Square;" ∈ wsX6_wouldBeWrong := by decide +kernel
theorem kX6_wouldBeWrong_f42 : Cond.fieldLink RX6 42 "SkewedSquare$Square" "side" "I" ∈ wsX6_wouldBeWrong := by decide +kernel
theorem khX6_wouldBeWrong_X2 : ∀ w ∈ u_ws RX2 TX2 3, w ∈ wsX6_wouldBeWrong := by decide +kernel
theorem khX6_wouldBeWrong_X3 : ∀ w ∈ u_ws RX3 TX3 5, w ∈ wsX6_wouldBeWrong := by decide +kernel
theorem khX6_wouldBeWrong_X6 : ∀ w ∈ u_ws RX6 TX6 4, w ∈ wsX6_wouldBeWrong := by decide +kernel
set_option maxHeartbeats 4000000 in
set_option maxRecDepth 100000 in
/-- kX6_wouldBeWrong -/
theorem kX6_wouldBeWrong (l : Launch) (G : wG) (x0 : Nat) (na tra : SA) (h : HA) (k : XA) (n o : Nat) (kf : wF) (lr lc : Nat) (L : wF) (rr rc : Nat) (R : wF) (sr sc : Nat) (Z : wF) (b ta tb th tw tt tn : Nat) (sm0 mt rw dn : wF) (v : SD) (hn : Nat) (u0 u1 u2 u3 : SD) (w : XD) (s : wF) (pst : PF) (v1 : Int32) (hR : RelS ((n, o, kf), (lr, lc, L), (rr, rc, R), (sr, sc, Z), (b, ta, tb, th, tw, tt, tn, sm0, mt, rw, dn)) s) : CI (S := SD) l yX6_wouldBeWrong wsX6_wouldBeWrong (rm 7 157) G [.ref x0, .int v1] (List.flatten [[((x0, na.1, tra.1, h.1, k.1).1, .inr (6, [.ref ((x0, na.1, tra.1, h.1, k.1).2.1), .ref ((x0, na.1, tra.1, h.1, k.1).2.2.1), .ref ((x0, na.1, tra.1, h.1, k.1).2.2.2.1), .ref ((x0, na.1, tra.1, h.1, k.1).2.2.2.2)]))], wS G na ((n, o, kf), (lr, lc, L), (rr, rc, R), (sr, sc, Z), (b, ta, tb, th, tw, tt, tn, sm0, mt, rw, dn)), wS G tra v, wHf G h (hn, u0, u1, u2, u3), wX G k w]) (fun x u9 => x = wbA lc n lr rc v1 s) (fun u9 => List.flatten [[((x0, na.1, tra.1, h.1, k.1).1, .inr (6, [.ref ((x0, na.1, tra.1, h.1, k.1).2.1), .ref ((x0, na.1, tra.1, h.1, k.1).2.2.1), .ref ((x0, na.1, tra.1, h.1, k.1).2.2.2.1), .ref ((x0, na.1, tra.1, h.1, k.1).2.2.2.2)]))], wS G na ((n, o, kf), (lr, lc, L), (rr, rc, R), (sr, sc, Z), (b, ta, tb, th, tw, tt, tn, sm0, mt, rw, dn)), wS G tra u9, wHf G h (hn, u0, u1, u2, u3), wX G k w]) := by
  refine CI.of (own := RX6) rfl (by decide) rfl (Nat.le_of_ble_eq_true rfl) ?_
  intro p9 e9 s9 m9 b9 t9 c9 A xE xB xM xO xT xK xP xD Q xQ xS ls hl
  have xL : lv_has ls 2 [(0, .ref x0), (1, .int v1)] := hl
  obtain ⟨hn1, hn2, hn3⟩ := hR.1.2.2.1
  obtain ⟨hm1, hm2, hm3, hm4, hm5, hm6⟩ := hR.2.2.1.2.2.2.1
  obtain ⟨hd1, hd2, hd3⟩ := hR.2.2.2.1
  have hb1 := hR.2.2.2.2.2.1.1
  refine lv_iload_n xE xB dX6_wouldBeWrong_0 rfl (lv_at xL 1 rfl) ?_
  refine lv_if_lt (tgt := 18) xE xB dX6_wouldBeWrong_1 (by decide) (fun c_1 => ?_) (fun c_1 => ?_)
  · skip
    refine lv_ldc (v := (-1000001)) xE xB xO (xT _ kX6_wouldBeWrong_c33) dX6_wouldBeWrong_18 ?_
    exact xQ _ _ _ _ _ v (by (try (first | replace c_1 := ti_neg c_1 | replace c_1 := ti_nneg c_1 | replace c_1 := ti_lt c_1 | replace c_1 := ti_nlt c_1 | replace c_1 := ti_gt c_1 | replace c_1 := ti_ngt c_1 | replace c_1 := ti_le c_1 | replace c_1 := ti_nle c_1 | replace c_1 := ti_ge c_1 | replace c_1 := ti_nge c_1 | replace c_1 := ti_z c_1 | replace c_1 := ti_nz c_1 | replace c_1 := ti_eq c_1 | replace c_1 := ti_ne c_1)); (try (first | replace c_15 := ti_neg c_15 | replace c_15 := ti_nneg c_15 | replace c_15 := ti_lt c_15 | replace c_15 := ti_nlt c_15 | replace c_15 := ti_gt c_15 | replace c_15 := ti_ngt c_15 | replace c_15 := ti_le c_15 | replace c_15 := ti_nle c_15 | replace c_15 := ti_ge c_15 | replace c_15 := ti_nge c_15 | replace c_15 := ti_z c_15 | replace c_15 := ti_nz c_15 | replace c_15 := ti_eq c_15 | replace c_15 := ti_ne c_15)); exact (if_neg (by omega)).symm) xP xD xS dX6_wouldBeWrong_20
  · skip
    refine lv_iload_n xE xB dX6_wouldBeWrong_4 rfl (lv_at xL 1 rfl) ?_
    refine lv_aload_n xE xB dX6_wouldBeWrong_5 rfl (lv_at xL 0 rfl) ?_
    refine va_get (D := G.1) (ci := 6) (v := .ref na.1) (C := RX6) (T := TX6) (N := 4) xE xB xT khX6_wouldBeWrong_X6 xO xK.1 xP 0 rfl rfl 0 (by decide) (xT _ kX6_wouldBeWrong_f10) (fun _ h9 => h9) rfl dX6_wouldBeWrong_6 ?_
    refine va_get (D := G.1) (ci := 3) (v := .ref na.2.1.1) (C := RX3) (T := TX3) (N := 5) xE xB xT khX6_wouldBeWrong_X3 xO xK.1 xP 1 rfl rfl 0 (by decide) (xT _ kX6_wouldBeWrong_f38) (fun _ h9 => h9) rfl dX6_wouldBeWrong_9 ?_
    refine va_get (D := G.1) (ci := 2) (v := .int (nI n)) (C := RX2) (T := TX2) (N := 3) xE xB xT khX6_wouldBeWrong_X2 xO xK.1 xP 2 rfl rfl 0 (by decide) (xT _ kX6_wouldBeWrong_f42) (fun _ h9 => h9) rfl dX6_wouldBeWrong_12 ?_
    refine lv_icmp_le (tgt := 21) xE xB dX6_wouldBeWrong_15 (by decide) (fun c_15 => ?_) (fun c_15 => ?_)
    · skip
      (try (first | replace c_1 := ti_neg c_1 | replace c_1 := ti_nneg c_1 | replace c_1 := ti_lt c_1 | replace c_1 := ti_nlt c_1 | replace c_1 := ti_gt c_1 | replace c_1 := ti_ngt c_1 | replace c_1 := ti_le c_1 | replace c_1 := ti_nle c_1 | replace c_1 := ti_ge c_1 | replace c_1 := ti_nge c_1 | replace c_1 := ti_z c_1 | replace c_1 := ti_nz c_1 | replace c_1 := ti_eq c_1 | replace c_1 := ti_ne c_1)); (try (first | replace c_15 := ti_neg c_15 | replace c_15 := ti_nneg c_15 | replace c_15 := ti_lt c_15 | replace c_15 := ti_nlt c_15 | replace c_15 := ti_gt c_15 | replace c_15 := ti_ngt c_15 | replace c_15 := ti_le c_15 | replace c_15 := ti_nle c_15 | replace c_15 := ti_ge c_15 | replace c_15 := ti_nge c_15 | replace c_15 := ti_z c_15 | replace c_15 := ti_nz c_15 | replace c_15 := ti_eq c_15 | replace c_15 := ti_ne c_15))
      have e_v1 : v1 = nI (tN v1) := tN_eq (by omega)
      have b_v1 : (tN v1 : Int) = v1.toInt := tN_z (by omega)
      rw [e_v1] at xL
      have xL : lv_has ls 2 [(0, .ref x0), (1, .int (nI (tN v1)))] := xL
      refine lv_aload_n xE xB dX6_wouldBeWrong_21 rfl (lv_at xL 0 rfl) ?_
      refine lv_iload_n xE xB dX6_wouldBeWrong_22 rfl (lv_at xL 1 rfl) ?_
      refine q_VIL (As := [.int (nI (tN v1))]) (rest := []) ⟨xE, xB, xM, xO, xT⟩ (kX6_wrongWithout l G x0 na tra h k n o kf lr lc L rr rc R sr sc Z b ta tb th tw tt tn sm0 mt rw dn v hn u0 u1 u2 u3 w s pst (tN v1) (by exact hR) (by omega)) (cwV 1 xT gX6_wouldBeWrong_X6_wrongWithout rfl rfl rfl (by decide +kernel) ⟨Nat.le_of_ble_eq_true rfl, Nat.le_of_ble_eq_true rfl⟩) xK xP xD xS [0, 1, 2, 3, 4] [] 5 rfl (by decide) (Lc := [[(x0, .inr (6, [.ref na.1, .ref tra.1, .ref h.1, .ref k.1]))], wS G na ((n, o, kf), (lr, lc, L), (rr, rc, R), (sr, sc, Z), (b, ta, tb, th, tw, tt, tn, sm0, mt, rw, dn)), wS G tra v, wHf G h (hn, u0, u1, u2, u3), wX G k w]) rfl (by simp only [List.flatten_cons, List.flatten_nil, List.append_nil, List.append_assoc]) (fun u_23 => [[(x0, .inr (6, [.ref na.1, .ref tra.1, .ref h.1, .ref k.1]))], wS G na ((n, o, kf), (lr, lc, L), (rr, rc, R), (sr, sc, Z), (b, ta, tb, th, tw, tt, tn, sm0, mt, rw, dn)), wS G tra u_23, wHf G h (hn, u0, u1, u2, u3), wX G k w]) (fun u_23 => [[(x0, .inr (6, [.ref na.1, .ref tra.1, .ref h.1, .ref k.1]))], wS G na ((n, o, kf), (lr, lc, L), (rr, rc, R), (sr, sc, Z), (b, ta, tb, th, tw, tt, tn, sm0, mt, rw, dn)), wS G tra u_23, wHf G h (hn, u0, u1, u2, u3), wX G k w]) (fun _ => rfl) (fun _ => rfl) (fun _ => by simp only [List.flatten_cons, List.flatten_nil, List.append_nil, List.append_assoc]) (fun _ => rfl) 0 rfl rfl rfl rfl xL.1 rfl (Nat.le_of_ble_eq_true rfl) dX6_wouldBeWrong_23 ⟨Nat.le_refl _, Nat.le_refl _⟩ (fun r_23 u_23 H locs h_23 xP xD xS => ?_)
      have h_23 : r_23 = nI (wwN lc n lr rc s (tN v1)) := h_23
      exact xQ _ _ _ _ _ u_23 (by exact h_23.trans (if_pos (by omega)).symm) xP xD xS dX6_wouldBeWrong_26
    · skip
      refine lv_ldc (v := (-1000001)) xE xB xO (xT _ kX6_wouldBeWrong_c33) dX6_wouldBeWrong_18 ?_
      exact xQ _ _ _ _ _ v (by (try (first | replace c_1 := ti_neg c_1 | replace c_1 := ti_nneg c_1 | replace c_1 := ti_lt c_1 | replace c_1 := ti_nlt c_1 | replace c_1 := ti_gt c_1 | replace c_1 := ti_ngt c_1 | replace c_1 := ti_le c_1 | replace c_1 := ti_nle c_1 | replace c_1 := ti_ge c_1 | replace c_1 := ti_nge c_1 | replace c_1 := ti_z c_1 | replace c_1 := ti_nz c_1 | replace c_1 := ti_eq c_1 | replace c_1 := ti_ne c_1)); (try (first | replace c_15 := ti_neg c_15 | replace c_15 := ti_nneg c_15 | replace c_15 := ti_lt c_15 | replace c_15 := ti_nlt c_15 | replace c_15 := ti_gt c_15 | replace c_15 := ti_ngt c_15 | replace c_15 := ti_le c_15 | replace c_15 := ti_nle c_15 | replace c_15 := ti_ge c_15 | replace c_15 := ti_nge c_15 | replace c_15 := ti_z c_15 | replace c_15 := ti_nz c_15 | replace c_15 := ti_eq c_15 | replace c_15 := ti_ne c_15)); exact (if_neg (by omega)).symm) xP xD xS dX6_wouldBeWrong_20
theorem kX6_best_f10 : Cond.fieldLink RX6 10 "SkewedSquare" "now" "LSkewedSquare$State;" ∈ wsX6_best := by decide +kernel
theorem kX6_best_f38 : Cond.fieldLink RX6 38 "SkewedSquare$State" "square" "LSkewedSquare$Square;" ∈ wsX6_best := by decide +kernel
theorem kX6_best_f42 : Cond.fieldLink RX6 42 "SkewedSquare$Square" "side" "I" ∈ wsX6_best := by decide +kernel
theorem khX6_best_X2 : ∀ w ∈ u_ws RX2 TX2 3, w ∈ wsX6_best := by decide +kernel
theorem khX6_best_X3 : ∀ w ∈ u_ws RX3 TX3 5, w ∈ wsX6_best := by decide +kernel
theorem khX6_best_X6 : ∀ w ∈ u_ws RX6 TX6 4, w ∈ wsX6_best := by decide +kernel
set_option maxHeartbeats 4000000 in
set_option maxRecDepth 100000 in
/-- kX6_best -/
theorem kX6_best (l : Launch) (G : wG) (x0 : Nat) (na tra : SA) (h : HA) (k : XA) (n o : Nat) (kf : wF) (lr lc : Nat) (L : wF) (rr rc : Nat) (R : wF) (sr sc : Nat) (Z : wF) (b ta tb th tw tt tn : Nat) (sm0 mt rw dn : wF) (v : SD) (hn : Nat) (u0 u1 u2 u3 : SD) (w : XD) (s : wF) (pst : PF) (hR : RelS ((n, o, kf), (lr, lc, L), (rr, rc, R), (sr, sc, Z), (b, ta, tb, th, tw, tt, tn, sm0, mt, rw, dn)) s) : CI (S := SD) l yX6_best wsX6_best (rm 7 157) G [.ref x0] (List.flatten [[((x0, na.1, tra.1, h.1, k.1).1, .inr (6, [.ref ((x0, na.1, tra.1, h.1, k.1).2.1), .ref ((x0, na.1, tra.1, h.1, k.1).2.2.1), .ref ((x0, na.1, tra.1, h.1, k.1).2.2.2.1), .ref ((x0, na.1, tra.1, h.1, k.1).2.2.2.2)]))], wS G na ((n, o, kf), (lr, lc, L), (rr, rc, R), (sr, sc, Z), (b, ta, tb, th, tw, tt, tn, sm0, mt, rw, dn)), wS G tra v, wHf G h (hn, u0, u1, u2, u3), wX G k w]) (fun x u9 => x = beA lc n lr rc s) (fun u9 => List.flatten [[((x0, na.1, tra.1, h.1, k.1).1, .inr (6, [.ref ((x0, na.1, tra.1, h.1, k.1).2.1), .ref ((x0, na.1, tra.1, h.1, k.1).2.2.1), .ref ((x0, na.1, tra.1, h.1, k.1).2.2.2.1), .ref ((x0, na.1, tra.1, h.1, k.1).2.2.2.2)]))], wS G na ((n, o, kf), (lr, lc, L), (rr, rc, R), (sr, sc, Z), (b, ta, tb, th, tw, tt, tn, sm0, mt, rw, dn)), wS G tra u9, wHf G h (hn, u0, u1, u2, u3), wX G k w]) := by
  refine CI.of (own := RX6) rfl (by decide) rfl (Nat.le_of_ble_eq_true rfl) ?_
  intro p9 e9 s9 m9 b9 t9 c9 A xE xB xM xO xT xK xP xD Q xQ xS ls hl
  have xL : lv_has ls 5 [(0, .ref x0)] := hl
  obtain ⟨hn1, hn2, hn3⟩ := hR.1.2.2.1
  obtain ⟨hm1, hm2, hm3, hm4, hm5, hm6⟩ := hR.2.2.1.2.2.2.1
  obtain ⟨hd1, hd2, hd3⟩ := hR.2.2.2.1
  have hb1 := hR.2.2.2.2.2.1.1
  refine lv_iconst (v := nI 0) xE xB dX6_best_0 (by decide) ?_
  refine lv_istore_n (lv' := [(1, .int (nI 0)), (0, .ref x0)]) xE xB dX6_best_1 rfl xL (by decide) rfl (fun ls xL => ?_)
  refine lv_aload_n xE xB dX6_best_2 rfl (lv_at xL 1 rfl) ?_
  refine lv_iconst (v := nI 0) xE xB dX6_best_3 (by decide) ?_
  refine q_VIL (As := [.int (nI 0)]) (rest := []) ⟨xE, xB, xM, xO, xT⟩ (kX6_wrongWithout l G x0 na tra h k n o kf lr lc L rr rc R sr sc Z b ta tb th tw tt tn sm0 mt rw dn v hn u0 u1 u2 u3 w s pst 0 (by exact hR) (by omega)) (cwV 1 xT gX6_best_X6_wrongWithout rfl rfl rfl (by decide +kernel) ⟨Nat.le_of_ble_eq_true rfl, Nat.le_of_ble_eq_true rfl⟩) xK xP xD xS [0, 1, 2, 3, 4] [] 5 rfl (by decide) (Lc := [[(x0, .inr (6, [.ref na.1, .ref tra.1, .ref h.1, .ref k.1]))], wS G na ((n, o, kf), (lr, lc, L), (rr, rc, R), (sr, sc, Z), (b, ta, tb, th, tw, tt, tn, sm0, mt, rw, dn)), wS G tra v, wHf G h (hn, u0, u1, u2, u3), wX G k w]) rfl (by simp only [List.flatten_cons, List.flatten_nil, List.append_nil, List.append_assoc]) (fun u_4 => [[(x0, .inr (6, [.ref na.1, .ref tra.1, .ref h.1, .ref k.1]))], wS G na ((n, o, kf), (lr, lc, L), (rr, rc, R), (sr, sc, Z), (b, ta, tb, th, tw, tt, tn, sm0, mt, rw, dn)), wS G tra u_4, wHf G h (hn, u0, u1, u2, u3), wX G k w]) (fun u_4 => [[(x0, .inr (6, [.ref na.1, .ref tra.1, .ref h.1, .ref k.1]))], wS G na ((n, o, kf), (lr, lc, L), (rr, rc, R), (sr, sc, Z), (b, ta, tb, th, tw, tt, tn, sm0, mt, rw, dn)), wS G tra u_4, wHf G h (hn, u0, u1, u2, u3), wX G k w]) (fun _ => rfl) (fun _ => rfl) (fun _ => by simp only [List.flatten_cons, List.flatten_nil, List.append_nil, List.append_assoc]) (fun _ => rfl) 0 rfl rfl rfl rfl xL.1 rfl (Nat.le_of_ble_eq_true rfl) dX6_best_4 ⟨Nat.le_refl _, Nat.le_refl _⟩ (fun r_4 u_4 H locs h_4 xP xD xS => ?_)
  have h_4 : r_4 = nI (wwN lc n lr rc s 0) := h_4
  subst h_4
  refine lv_istore_n (lv' := [(2, .int (nI (wwN lc n lr rc s 0))), (1, .int (nI 0)), (0, .ref x0)]) xE xB dX6_best_7 rfl xL (by decide) rfl (fun ls xL => ?_)
  refine lv_iconst (v := nI 1) xE xB dX6_best_8 (by decide) ?_
  refine lv_istore_n (lv' := [(3, .int (nI 1)), (2, .int (nI (wwN lc n lr rc s 0))), (1, .int (nI 0)), (0, .ref x0)]) xE xB dX6_best_9 rfl xL (by decide) rfl (fun ls xL => ?_)
  have L_10 : ∀ (n_10 : Nat) (i p q : Nat) (z : SD), (1 ≤ i) → (i ≤ n + 1) → (beL (wwN lc n lr rc s) (i - 1) = (p, q)) → (q ≤ 36) → n + 1 - i < n_10 → ∀ (H : Heap) (locs : List Loc), va_P G.1 vwCl (List.flatten [[(x0, .inr (6, [.ref na.1, .ref tra.1, .ref h.1, .ref k.1]))], wS G na ((n, o, kf), (lr, lc, L), (rr, rc, R), (sr, sc, Z), (b, ta, tb, th, tw, tt, tn, sm0, mt, rw, dn)), wS G tra z, wHf G h (hn, u0, u1, u2, u3), wX G k w]) H → va_D A (List.flatten [[(x0, .inr (6, [.ref na.1, .ref tra.1, .ref h.1, .ref k.1]))], wS G na ((n, o, kf), (lr, lc, L), (rr, rc, R), (sr, sc, Z), (b, ta, tb, th, tw, tt, tn, sm0, mt, rw, dn)), wS G tra z, wHf G h (hn, u0, u1, u2, u3), wX G k w]) → va_S A s9.heap H locs → ∀ (ls : Array Slot), lv_has ls 5 [(0, .ref x0), (1, .int (nI p)), (2, .int (nI q)), (3, .int (nI i))] → W p9 l e9 (rm 7 157) s9 m9 ([.ref x0] : List Value).toArray b9 t9 c9 H locs 0 0 Q (F0 m9 10 ls []) := by
    intro n_10
    induction n_10 with
    | zero => intro i p q z h1 h2 h3 h4 hm_10 H locs xP xD xS ls xL; exact absurd hm_10 (Nat.not_lt_zero _)
    | succ n_10 ih_10 =>
      intro i p q z h1 h2 h3 h4 hm_10 H locs xP xD xS ls xL
      refine lv_iload_n xE xB dX6_best_10 rfl (lv_at xL 3 rfl) ?_
      refine lv_aload_n xE xB dX6_best_11 rfl (lv_at xL 0 rfl) ?_
      refine va_get (D := G.1) (ci := 6) (v := .ref na.1) (C := RX6) (T := TX6) (N := 4) xE xB xT khX6_best_X6 xO xK.1 xP 0 rfl rfl 0 (by decide) (xT _ kX6_best_f10) (fun _ h9 => h9) rfl dX6_best_12 ?_
      refine va_get (D := G.1) (ci := 3) (v := .ref na.2.1.1) (C := RX3) (T := TX3) (N := 5) xE xB xT khX6_best_X3 xO xK.1 xP 1 rfl rfl 0 (by decide) (xT _ kX6_best_f38) (fun _ h9 => h9) rfl dX6_best_15 ?_
      refine va_get (D := G.1) (ci := 2) (v := .int (nI n)) (C := RX2) (T := TX2) (N := 3) xE xB xT khX6_best_X2 xO xK.1 xP 2 rfl rfl 0 (by decide) (xT _ kX6_best_f42) (fun _ h9 => h9) rfl dX6_best_18 ?_
      refine q_icmp_gt (tgt := 48) xE xB dX6_best_21 (by decide) (by omega) (by omega) (fun c_21 => ?_) (fun c_21 => ?_)
      · skip
        refine lv_iload_n xE xB dX6_best_48 rfl (lv_at xL 1 rfl) ?_
        exact xQ _ _ _ _ _ z (by obtain rfl : i = n + 1 := (by omega); exact congrArg nI (by have h6 : beL (wwN lc n lr rc s) n = (p, q) := h3; rw [h6])) xP xD xS dX6_best_49
      · skip
        refine lv_aload_n xE xB dX6_best_24 rfl (lv_at xL 0 rfl) ?_
        refine lv_iload_n xE xB dX6_best_25 rfl (lv_at xL 3 rfl) ?_
        refine q_VIL (As := [.int (nI i)]) (rest := []) ⟨xE, xB, xM, xO, xT⟩ (kX6_wrongWithout l G x0 na tra h k n o kf lr lc L rr rc R sr sc Z b ta tb th tw tt tn sm0 mt rw dn z hn u0 u1 u2 u3 w s pst i (by exact hR) (by omega)) (cwV 1 xT gX6_best_X6_wrongWithout rfl rfl rfl (by decide +kernel) ⟨Nat.le_of_ble_eq_true rfl, Nat.le_of_ble_eq_true rfl⟩) xK xP xD xS [0, 1, 2, 3, 4] [] 5 rfl (by decide) (Lc := [[(x0, .inr (6, [.ref na.1, .ref tra.1, .ref h.1, .ref k.1]))], wS G na ((n, o, kf), (lr, lc, L), (rr, rc, R), (sr, sc, Z), (b, ta, tb, th, tw, tt, tn, sm0, mt, rw, dn)), wS G tra z, wHf G h (hn, u0, u1, u2, u3), wX G k w]) rfl (by simp only [List.flatten_cons, List.flatten_nil, List.append_nil, List.append_assoc]) (fun u_26 => [[(x0, .inr (6, [.ref na.1, .ref tra.1, .ref h.1, .ref k.1]))], wS G na ((n, o, kf), (lr, lc, L), (rr, rc, R), (sr, sc, Z), (b, ta, tb, th, tw, tt, tn, sm0, mt, rw, dn)), wS G tra u_26, wHf G h (hn, u0, u1, u2, u3), wX G k w]) (fun u_26 => [[(x0, .inr (6, [.ref na.1, .ref tra.1, .ref h.1, .ref k.1]))], wS G na ((n, o, kf), (lr, lc, L), (rr, rc, R), (sr, sc, Z), (b, ta, tb, th, tw, tt, tn, sm0, mt, rw, dn)), wS G tra u_26, wHf G h (hn, u0, u1, u2, u3), wX G k w]) (fun _ => rfl) (fun _ => rfl) (fun _ => by simp only [List.flatten_cons, List.flatten_nil, List.append_nil, List.append_assoc]) (fun _ => rfl) 0 rfl rfl rfl rfl xL.1 rfl (Nat.le_of_ble_eq_true rfl) dX6_best_26 ⟨Nat.le_refl _, Nat.le_refl _⟩ (fun r_26 u_26 H locs h_26 xP xD xS => ?_)
        have h_26 : r_26 = nI (wwN lc n lr rc s i) := h_26
        subst h_26
        have h5 : wwN lc n lr rc s i ≤ 36 := wrN_36 hm2 hm6
        refine lv_istore (lv' := [(4, .int (nI (wwN lc n lr rc s i))), (0, .ref x0), (1, .int (nI p)), (2, .int (nI q)), (3, .int (nI i))]) xE xB dX6_best_29 xL (by decide) rfl (fun ls xL => ?_)
        refine lv_iload xE xB dX6_best_31 (lv_at xL 0 rfl) ?_
        refine lv_iload_n xE xB dX6_best_33 rfl (lv_at xL 3 rfl) ?_
        refine q_icmp_gt (tgt := 42) xE xB dX6_best_34 (by decide) (by omega) (by omega) (fun c_34 => ?_) (fun c_34 => ?_)
        · skip
          refine lv_iinc (v := nI (i + 1)) (lv' := [(3, .int (nI (i + 1))), (4, .int (nI (wwN lc n lr rc s i))), (0, .ref x0), (1, .int (nI p)), (2, .int (nI q))]) xE xB dX6_best_42 xL (k := 4) rfl (q_inc _ _) (by decide) rfl (fun ls xL => ?_)
          refine lv_goto (tgt := 10) xE xB dX6_best_45 (by decide) ?_
          exact ih_10 (i + 1) p q u_26 (by omega) (by omega) (by first | exact beL_t h1 h3 (by omega) | exact beL_f h1 h3 (by omega)) (by first | exact h4 | exact wrN_36 hm2 hm6) (by omega) _ _ xP xD xS _ (lv_sub xL [2, 3, 4, 0] rfl)
        · skip
          refine lv_iload_n xE xB dX6_best_37 rfl (lv_at xL 4 rfl) ?_
          refine lv_istore_n (lv' := [(1, .int (nI i)), (4, .int (nI (wwN lc n lr rc s i))), (0, .ref x0), (2, .int (nI q)), (3, .int (nI i))]) xE xB dX6_best_38 rfl xL (by decide) rfl (fun ls xL => ?_)
          refine lv_iload xE xB dX6_best_39 (lv_at xL 1 rfl) ?_
          refine lv_istore_n (lv' := [(2, .int (nI (wwN lc n lr rc s i))), (1, .int (nI i)), (4, .int (nI (wwN lc n lr rc s i))), (0, .ref x0), (3, .int (nI i))]) xE xB dX6_best_41 rfl xL (by decide) rfl (fun ls xL => ?_)
          refine lv_iinc (v := nI (i + 1)) (lv' := [(3, .int (nI (i + 1))), (2, .int (nI (wwN lc n lr rc s i))), (1, .int (nI i)), (4, .int (nI (wwN lc n lr rc s i))), (0, .ref x0)]) xE xB dX6_best_42 xL (k := 4) rfl (q_inc _ _) (by decide) rfl (fun ls xL => ?_)
          refine lv_goto (tgt := 10) xE xB dX6_best_45 (by decide) ?_
          exact ih_10 (i + 1) i (wwN lc n lr rc s i) u_26 (by omega) (by omega) (by first | exact beL_t h1 h3 (by omega) | exact beL_f h1 h3 (by omega)) (by first | exact h4 | exact wrN_36 hm2 hm6) (by omega) _ _ xP xD xS _ (lv_sub xL [4, 2, 1, 0] rfl)
  exact L_10 (n + 1 - 1 + 1) 1 0 (wwN lc n lr rc s 0) u_4 (by omega) (by omega) (by exact rfl) (by exact wrN_36 hm2 hm6) (Nat.lt_succ_self _) _ _ xP xD xS _ (lv_sub xL [3, 2, 1, 0] rfl)
def RelX (u : XD) (T : Nat → Nat) (tl : Nat) : Prop := u.1 = tl ∧ tl ≤ 80 ∧ ∀ j, j < tl → u.2.2.2.2.2.2.2.2.2.1 j = nI (T j) ∧ 32 ≤ T j ∧ T j ≤ 126
def tyA (tl : Nat) (v : Int32) : Int32 := if 32 ≤ v.toInt ∧ v.toInt ≤ 126 then (if tl < 80 then nI (tl + 1) else kLR) else kINV
def tyN (tl : Nat) (v : Int32) : Nat := if (32 ≤ v.toInt ∧ v.toInt ≤ 126) ∧ tl < 80 then tl + 1 else tl
def tyT (tl : Nat) (v : Int32) (T : Nat → Nat) : Nat → Nat := if (32 ≤ v.toInt ∧ v.toInt ≤ 126) ∧ tl < 80 then (fun j => if j = tl then tN v else T j) else T
theorem RelX_ty {len fp re row col wid ng dg vl mr mc : Nat} {g f : wF} {T : Nat → Nat} {v : Int32} (h1 : 32 ≤ v.toInt ∧ v.toInt ≤ 126) (h2 : len < 80) (hg : ∀ j, j < len → g j = nI (T j) ∧ 32 ≤ T j ∧ T j ≤ 126) : RelX (len + 1, fp, re, row, col, wid, ng, dg, vl, upd g len (nI (tN v)), (mr, mc, f)) (tyT len v T) (tyN len v) := by
  have z := tN_z (v := v) (by omega)
  unfold tyT tyN
  rw [if_pos ⟨h1, h2⟩, if_pos ⟨h1, h2⟩]
  refine ⟨rfl, by omega, fun j hj => ?_⟩
  show upd g len (nI (tN v)) j = nI (if j = len then tN v else T j) ∧ 32 ≤ (if j = len then tN v else T j) ∧ (if j = len then tN v else T j) ≤ 126
  by_cases e : j = len
  · rw [if_pos e, e, upd_s]; exact ⟨rfl, by omega, by omega⟩
  · rw [if_neg e, upd_n e]; exact hg j (by omega)
theorem RelX_no {u : XD} {T : Nat → Nat} {v : Int32} {len : Nat} (h : RelX u T len) (hn : ¬ ((32 ≤ v.toInt ∧ v.toInt ≤ 126) ∧ len < 80)) : RelX u (tyT len v T) (tyN len v) := by
  unfold tyT tyN
  rw [if_neg hn, if_neg hn]
  exact h

theorem kX6_type_c192 : Cond.constant RX6 192 (-1000003) ∈ wsX6_type := by decide +kernel
theorem kX6_type_c33 : Cond.constant RX6 33 (-1000001) ∈ wsX6_type := by decide +kernel
theorem kX6_type_f177 : Cond.fieldLink RX6 177 "SkewedSquare$Text" "length" "I" ∈ wsX6_type := by decide +kernel
theorem kX6_type_f29 : Cond.fieldLink RX6 29 "SkewedSquare" "text" "LSkewedSquare$Text;" ∈ wsX6_type := by decide +kernel
theorem khX6_type_X4 : ∀ w ∈ u_ws RX4 TX4 11, w ∈ wsX6_type := by decide +kernel
theorem khX6_type_X6 : ∀ w ∈ u_ws RX6 TX6 4, w ∈ wsX6_type := by decide +kernel
set_option maxHeartbeats 4000000 in
set_option maxRecDepth 100000 in
/-- kX6_type -/
theorem kX6_type (l : Launch) (G : wG) (x0 : Nat) (na tra : SA) (h : HA) (k : XA) (n o : Nat) (kf : wF) (lr lc : Nat) (L : wF) (rr rc : Nat) (R : wF) (sr sc : Nat) (Z : wF) (b ta tb th tw tt tn : Nat) (sm0 mt rw dn : wF) (v : SD) (hn : Nat) (u0 u1 u2 u3 : SD) (len fp re row col wid ng dg vl : Nat) (g : wF) (mr mc : Nat) (f : wF) (T : Nat → Nat) (s : wF) (pst : PF) (v1 : Int32) (hln : len ≤ 80) (hg : ∀ j, j < len → g j = nI (T j) ∧ 32 ≤ T j ∧ T j ≤ 126) : CI (S := XD) l yX6_type wsX6_type (rm 1 21) G [.ref x0, .int v1] (List.flatten [[((x0, na.1, tra.1, h.1, k.1).1, .inr (6, [.ref ((x0, na.1, tra.1, h.1, k.1).2.1), .ref ((x0, na.1, tra.1, h.1, k.1).2.2.1), .ref ((x0, na.1, tra.1, h.1, k.1).2.2.2.1), .ref ((x0, na.1, tra.1, h.1, k.1).2.2.2.2)]))], wS G na ((n, o, kf), (lr, lc, L), (rr, rc, R), (sr, sc, Z), (b, ta, tb, th, tw, tt, tn, sm0, mt, rw, dn)), wS G tra v, wHf G h (hn, u0, u1, u2, u3), wX G k (len, fp, re, row, col, wid, ng, dg, vl, g, (mr, mc, f))]) (fun x u9 => x = tyA len v1 ∧ RelX u9 (tyT len v1 T) (tyN len v1)) (fun u9 => List.flatten [[((x0, na.1, tra.1, h.1, k.1).1, .inr (6, [.ref ((x0, na.1, tra.1, h.1, k.1).2.1), .ref ((x0, na.1, tra.1, h.1, k.1).2.2.1), .ref ((x0, na.1, tra.1, h.1, k.1).2.2.2.1), .ref ((x0, na.1, tra.1, h.1, k.1).2.2.2.2)]))], wS G na ((n, o, kf), (lr, lc, L), (rr, rc, R), (sr, sc, Z), (b, ta, tb, th, tw, tt, tn, sm0, mt, rw, dn)), wS G tra v, wHf G h (hn, u0, u1, u2, u3), wX G k u9]) := by
  refine CI.of (own := RX6) rfl (by decide) rfl (Nat.le_of_ble_eq_true rfl) ?_
  intro p9 e9 s9 m9 b9 t9 c9 A xE xB xM xO xT xK xP xD Q xQ xS ls hl
  have xL : lv_has ls 2 [(0, .ref x0), (1, .int v1)] := hl
  refine lv_iload_n xE xB dX6_type_0 rfl (lv_at xL 1 rfl) ?_
  refine lv_bipush (v := nI 32) xE xB dX6_type_1 (by decide) ?_
  refine lv_icmp_lt (tgt := 12) xE xB dX6_type_3 (by decide) (fun c_3 => ?_) (fun c_3 => ?_)
  · skip
    refine lv_ldc (v := (-1000001)) xE xB xO (xT _ kX6_type_c33) dX6_type_12 ?_
    exact xQ _ _ _ _ _ (len, fp, re, row, col, wid, ng, dg, vl, g, (mr, mc, f)) (by (try (first | replace c_3 := ti_neg c_3 | replace c_3 := ti_nneg c_3 | replace c_3 := ti_lt c_3 | replace c_3 := ti_nlt c_3 | replace c_3 := ti_gt c_3 | replace c_3 := ti_ngt c_3 | replace c_3 := ti_le c_3 | replace c_3 := ti_nle c_3 | replace c_3 := ti_ge c_3 | replace c_3 := ti_nge c_3 | replace c_3 := ti_z c_3 | replace c_3 := ti_nz c_3 | replace c_3 := ti_eq c_3 | replace c_3 := ti_ne c_3)); (try (first | replace c_9 := ti_neg c_9 | replace c_9 := ti_nneg c_9 | replace c_9 := ti_lt c_9 | replace c_9 := ti_nlt c_9 | replace c_9 := ti_gt c_9 | replace c_9 := ti_ngt c_9 | replace c_9 := ti_le c_9 | replace c_9 := ti_nle c_9 | replace c_9 := ti_ge c_9 | replace c_9 := ti_nge c_9 | replace c_9 := ti_z c_9 | replace c_9 := ti_nz c_9 | replace c_9 := ti_eq c_9 | replace c_9 := ti_ne c_9)); exact ⟨(if_neg (by omega)).symm, RelX_no ⟨rfl, hln, hg⟩ (by omega)⟩) xP xD xS dX6_type_14
  · skip
    refine lv_iload_n xE xB dX6_type_6 rfl (lv_at xL 1 rfl) ?_
    refine lv_bipush (v := nI 126) xE xB dX6_type_7 (by decide) ?_
    refine lv_icmp_le (tgt := 15) xE xB dX6_type_9 (by decide) (fun c_9 => ?_) (fun c_9 => ?_)
    · skip
      (try (first | replace c_3 := ti_neg c_3 | replace c_3 := ti_nneg c_3 | replace c_3 := ti_lt c_3 | replace c_3 := ti_nlt c_3 | replace c_3 := ti_gt c_3 | replace c_3 := ti_ngt c_3 | replace c_3 := ti_le c_3 | replace c_3 := ti_nle c_3 | replace c_3 := ti_ge c_3 | replace c_3 := ti_nge c_3 | replace c_3 := ti_z c_3 | replace c_3 := ti_nz c_3 | replace c_3 := ti_eq c_3 | replace c_3 := ti_ne c_3)); (try (first | replace c_9 := ti_neg c_9 | replace c_9 := ti_nneg c_9 | replace c_9 := ti_lt c_9 | replace c_9 := ti_nlt c_9 | replace c_9 := ti_gt c_9 | replace c_9 := ti_ngt c_9 | replace c_9 := ti_le c_9 | replace c_9 := ti_nle c_9 | replace c_9 := ti_ge c_9 | replace c_9 := ti_nge c_9 | replace c_9 := ti_z c_9 | replace c_9 := ti_nz c_9 | replace c_9 := ti_eq c_9 | replace c_9 := ti_ne c_9))
      refine lv_aload_n xE xB dX6_type_15 rfl (lv_at xL 0 rfl) ?_
      refine va_get (D := G.1) (ci := 6) (v := .ref k.1) (C := RX6) (T := TX6) (N := 4) xE xB xT khX6_type_X6 xO xK.1 xP 0 rfl rfl 3 (by decide) (xT _ kX6_type_f29) (fun _ h9 => h9) rfl dX6_type_16 ?_
      refine va_get (D := G.1) (ci := 4) (v := .int (nI len)) (C := RX4) (T := TX4) (N := 11) xE xB xT khX6_type_X4 xO xK.1 xP 87 rfl rfl 1 (by decide) (xT _ kX6_type_f177) (fun _ h9 => h9) rfl dX6_type_19 ?_
      refine lv_bipush (v := nI 80) xE xB dX6_type_22 (by decide) ?_
      refine q_icmp_lt (tgt := 30) xE xB dX6_type_24 (by decide) (by omega) (by omega) (fun c_24 => ?_) (fun c_24 => ?_)
      · skip
        have e_v1 : v1 = nI (tN v1) := tN_eq (by omega)
        have b_v1 : (tN v1 : Int) = v1.toInt := tN_z (by omega)
        rw [e_v1] at xL
        have xL : lv_has ls 2 [(0, .ref x0), (1, .int (nI (tN v1)))] := xL
        refine lv_aload_n xE xB dX6_type_30 rfl (lv_at xL 0 rfl) ?_
        refine va_get (D := G.1) (ci := 6) (v := .ref k.1) (C := RX6) (T := TX6) (N := 4) xE xB xT khX6_type_X6 xO xK.1 xP 0 rfl rfl 3 (by decide) (xT _ kX6_type_f29) (fun _ h9 => h9) rfl dX6_type_31 ?_
        refine lv_iload_n xE xB dX6_type_34 rfl (lv_at xL 1 rfl) ?_
        refine lv_i2c (v := nI (tN v1)) xE xB dX6_type_35 (q_i2c (by omega)) ?_
        refine q_VVL (As := [.int (nI (tN v1))]) (rest := []) ⟨xE, xB, xM, xO, xT⟩ (kX4_append l G k len fp re row col wid ng dg vl g mr mc f (tN v1) (by omega) (by omega)) (cwV 1 xT gX6_type_X4_append rfl rfl rfl (by decide +kernel) ⟨Nat.le_of_ble_eq_true rfl, Nat.le_of_ble_eq_true rfl⟩) xK xP xD xS [4] [0, 1, 2, 3] 5 rfl (by decide) (Lc := [wX G k (len, fp, re, row, col, wid, ng, dg, vl, g, (mr, mc, f))]) rfl (by simp only [List.flatten_cons, List.flatten_nil, List.append_nil, List.append_assoc]) (fun _ => [[(x0, .inr (6, [.ref na.1, .ref tra.1, .ref h.1, .ref k.1]))], wS G na ((n, o, kf), (lr, lc, L), (rr, rc, R), (sr, sc, Z), (b, ta, tb, th, tw, tt, tn, sm0, mt, rw, dn)), wS G tra v, wHf G h (hn, u0, u1, u2, u3), wX G k (len + 1, fp, re, row, col, wid, ng, dg, vl, upd g len (nI (tN v1)), (mr, mc, f))]) (fun _ => [wX G k (len + 1, fp, re, row, col, wid, ng, dg, vl, upd g len (nI (tN v1)), (mr, mc, f))]) (fun _ => rfl) (fun _ => rfl) (fun _ => by simp only [List.flatten_cons, List.flatten_nil, List.append_nil, List.append_assoc]) (fun _ => rfl) 0 rfl rfl rfl rfl xL.1 rfl (Nat.le_of_ble_eq_true rfl) dX6_type_36 ⟨Nat.le_refl _, Nat.le_refl _⟩ (fun u_36 H locs h_36 xP xD xS => ?_)
        refine lv_aload_n xE xB dX6_type_39 rfl (lv_at xL 0 rfl) ?_
        refine va_get (D := G.1) (ci := 6) (v := .ref k.1) (C := RX6) (T := TX6) (N := 4) xE xB xT khX6_type_X6 xO xK.1 xP 0 rfl rfl 3 (by decide) (xT _ kX6_type_f29) (fun _ h9 => h9) rfl dX6_type_40 ?_
        refine va_get (D := G.1) (ci := 4) (v := .int (nI (len + 1))) (C := RX4) (T := TX4) (N := 11) xE xB xT khX6_type_X4 xO xK.1 xP 87 rfl rfl 1 (by decide) (xT _ kX6_type_f177) (fun _ h9 => h9) rfl dX6_type_43 ?_
        exact xQ _ _ _ _ _ (len + 1, fp, re, row, col, wid, ng, dg, vl, upd g len (nI (tN v1)), (mr, mc, f)) (by exact ⟨((if_pos (by omega)).trans (if_pos (by omega))).symm, RelX_ty (by omega) (by omega) hg⟩) xP xD xS dX6_type_46
      · skip
        refine lv_ldc (v := (-1000003)) xE xB xO (xT _ kX6_type_c192) dX6_type_27 ?_
        exact xQ _ _ _ _ _ (len, fp, re, row, col, wid, ng, dg, vl, g, (mr, mc, f)) (by exact ⟨((if_pos (by omega)).trans (if_neg (by omega))).symm, RelX_no ⟨rfl, hln, hg⟩ (by omega)⟩) xP xD xS dX6_type_29
    · skip
      refine lv_ldc (v := (-1000001)) xE xB xO (xT _ kX6_type_c33) dX6_type_12 ?_
      exact xQ _ _ _ _ _ (len, fp, re, row, col, wid, ng, dg, vl, g, (mr, mc, f)) (by (try (first | replace c_3 := ti_neg c_3 | replace c_3 := ti_nneg c_3 | replace c_3 := ti_lt c_3 | replace c_3 := ti_nlt c_3 | replace c_3 := ti_gt c_3 | replace c_3 := ti_ngt c_3 | replace c_3 := ti_le c_3 | replace c_3 := ti_nle c_3 | replace c_3 := ti_ge c_3 | replace c_3 := ti_nge c_3 | replace c_3 := ti_z c_3 | replace c_3 := ti_nz c_3 | replace c_3 := ti_eq c_3 | replace c_3 := ti_ne c_3)); (try (first | replace c_9 := ti_neg c_9 | replace c_9 := ti_nneg c_9 | replace c_9 := ti_lt c_9 | replace c_9 := ti_nlt c_9 | replace c_9 := ti_gt c_9 | replace c_9 := ti_ngt c_9 | replace c_9 := ti_le c_9 | replace c_9 := ti_nle c_9 | replace c_9 := ti_ge c_9 | replace c_9 := ti_nge c_9 | replace c_9 := ti_z c_9 | replace c_9 := ti_nz c_9 | replace c_9 := ti_eq c_9 | replace c_9 := ti_ne c_9)); exact ⟨(if_neg (by omega)).symm, RelX_no ⟨rfl, hln, hg⟩ (by omega)⟩) xP xD xS dX6_type_14
theorem kX6_clearText_f177 : Cond.fieldLink RX6 177 "SkewedSquare$Text" "length" "I" ∈ wsX6_clearText := by decide +kernel
theorem kX6_clearText_f29 : Cond.fieldLink RX6 29 "SkewedSquare" "text" "LSkewedSquare$Text;" ∈ wsX6_clearText := by decide +kernel
theorem khX6_clearText_X4 : ∀ w ∈ u_ws RX4 TX4 11, w ∈ wsX6_clearText := by decide +kernel
theorem khX6_clearText_X6 : ∀ w ∈ u_ws RX6 TX6 4, w ∈ wsX6_clearText := by decide +kernel
set_option maxHeartbeats 4000000 in
set_option maxRecDepth 100000 in
/-- kX6_clearText -/
theorem kX6_clearText (l : Launch) (G : wG) (x0 : Nat) (na tra : SA) (h : HA) (k : XA) (n o : Nat) (kf : wF) (lr lc : Nat) (L : wF) (rr rc : Nat) (R : wF) (sr sc : Nat) (Z : wF) (b ta tb th tw tt tn : Nat) (sm0 mt rw dn : wF) (v : SD) (hn : Nat) (u0 u1 u2 u3 : SD) (len fp re row col wid ng dg vl : Nat) (g : wF) (mr mc : Nat) (f : wF) (T : Nat → Nat) (s : wF) (pst : PF) (hln : len ≤ 80) : CI (S := XD) l yX6_clearText wsX6_clearText (rm 0 0) G [.ref x0] (List.flatten [[((x0, na.1, tra.1, h.1, k.1).1, .inr (6, [.ref ((x0, na.1, tra.1, h.1, k.1).2.1), .ref ((x0, na.1, tra.1, h.1, k.1).2.2.1), .ref ((x0, na.1, tra.1, h.1, k.1).2.2.2.1), .ref ((x0, na.1, tra.1, h.1, k.1).2.2.2.2)]))], wS G na ((n, o, kf), (lr, lc, L), (rr, rc, R), (sr, sc, Z), (b, ta, tb, th, tw, tt, tn, sm0, mt, rw, dn)), wS G tra v, wHf G h (hn, u0, u1, u2, u3), wX G k (len, fp, re, row, col, wid, ng, dg, vl, g, (mr, mc, f))]) (fun x u9 => x = nI len ∧ RelX u9 T 0) (fun u9 => List.flatten [[((x0, na.1, tra.1, h.1, k.1).1, .inr (6, [.ref ((x0, na.1, tra.1, h.1, k.1).2.1), .ref ((x0, na.1, tra.1, h.1, k.1).2.2.1), .ref ((x0, na.1, tra.1, h.1, k.1).2.2.2.1), .ref ((x0, na.1, tra.1, h.1, k.1).2.2.2.2)]))], wS G na ((n, o, kf), (lr, lc, L), (rr, rc, R), (sr, sc, Z), (b, ta, tb, th, tw, tt, tn, sm0, mt, rw, dn)), wS G tra v, wHf G h (hn, u0, u1, u2, u3), wX G k u9]) := by
  refine CI.of (own := RX6) rfl (by decide) rfl (Nat.le_of_ble_eq_true rfl) ?_
  intro p9 e9 s9 m9 b9 t9 c9 A xE xB xM xO xT xK xP xD Q xQ xS ls hl
  have xL : lv_has ls 2 [(0, .ref x0)] := hl
  refine lv_aload_n xE xB dX6_clearText_0 rfl (lv_at xL 0 rfl) ?_
  refine va_get (D := G.1) (ci := 6) (v := .ref k.1) (C := RX6) (T := TX6) (N := 4) xE xB xT khX6_clearText_X6 xO xK.1 xP 0 rfl rfl 3 (by decide) (xT _ kX6_clearText_f29) (fun _ h9 => h9) rfl dX6_clearText_1 ?_
  refine va_get (D := G.1) (ci := 4) (v := .int (nI len)) (C := RX4) (T := TX4) (N := 11) xE xB xT khX6_clearText_X4 xO xK.1 xP 87 rfl rfl 1 (by decide) (xT _ kX6_clearText_f177) (fun _ h9 => h9) rfl dX6_clearText_4 ?_
  refine lv_istore_n (lv' := [(1, .int (nI len)), (0, .ref x0)]) xE xB dX6_clearText_7 rfl xL (by decide) rfl (fun ls xL => ?_)
  refine lv_aload_n xE xB dX6_clearText_8 rfl (lv_at xL 1 rfl) ?_
  refine va_get (D := G.1) (ci := 6) (v := .ref k.1) (C := RX6) (T := TX6) (N := 4) xE xB xT khX6_clearText_X6 xO xK.1 xP 0 rfl rfl 3 (by decide) (xT _ kX6_clearText_f29) (fun _ h9 => h9) rfl dX6_clearText_9 ?_
  refine lv_iconst (v := nI 0) xE xB dX6_clearText_12 (by decide) ?_
  refine va_put (D := G.1) (ci := 4) (v := .int (nI 0)) (ty := .int) (C := RX4) (T := TX4) (N := 11) xE xB xT khX6_clearText_X4 tyX4 tyX4_ok nmX4 xO xK.1 xP xD xS 87 rfl rfl 1 (by decide) (xT _ kX6_clearText_f177) (fun _ h9 => h9) rfl (by decide +kernel) rfl rfl (Nat.le_of_ble_eq_true rfl) dX6_clearText_13 (fun H locs xP xD xS => ?_)
  have xP : va_P G.1 vwCl (List.flatten [[(x0, .inr (6, [.ref na.1, .ref tra.1, .ref h.1, .ref k.1]))], wS G na ((n, o, kf), (lr, lc, L), (rr, rc, R), (sr, sc, Z), (b, ta, tb, th, tw, tt, tn, sm0, mt, rw, dn)), wS G tra v, wHf G h (hn, u0, u1, u2, u3), wX G k (0, fp, re, row, col, wid, ng, dg, vl, g, (mr, mc, f))]) H := xP
  have xD : va_D A (List.flatten [[(x0, .inr (6, [.ref na.1, .ref tra.1, .ref h.1, .ref k.1]))], wS G na ((n, o, kf), (lr, lc, L), (rr, rc, R), (sr, sc, Z), (b, ta, tb, th, tw, tt, tn, sm0, mt, rw, dn)), wS G tra v, wHf G h (hn, u0, u1, u2, u3), wX G k (0, fp, re, row, col, wid, ng, dg, vl, g, (mr, mc, f))]) := xD
  refine lv_iload_n xE xB dX6_clearText_16 rfl (lv_at xL 0 rfl) ?_
  exact xQ _ _ _ _ _ (0, fp, re, row, col, wid, ng, dg, vl, g, (mr, mc, f)) (by exact ⟨rfl, rfl, by decide, fun j hj => absurd hj (Nat.not_lt_zero _)⟩) xP xD xS dX6_clearText_17
