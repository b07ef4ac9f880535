/-! top: the class's own methods -/
theorem ti_neg {x : Int32} (h : x < 0) : x.toInt < 0 := by have := Int32.lt_iff_toInt_lt.mp h; rwa [Int32.toInt_zero] at this
theorem ti_nneg {x : Int32} (h : ¬ x < 0) : 0 ≤ x.toInt := by
  rcases (show x.toInt < 0 ∨ 0 ≤ x.toInt by omega) with q | q
  · exact absurd (Int32.lt_iff_toInt_lt.mpr (by rw [Int32.toInt_zero]; exact q)) h
  · exact q
theorem ti_lt {x : Int32} {n : Nat} (h : x < nI n) (hn : n < 2147483648 := by omega) : x.toInt < n := by have := Int32.lt_iff_toInt_lt.mp h; rwa [nI_toInt hn] at this
theorem ti_nlt {x : Int32} {n : Nat} (h : ¬ x < nI n) (hn : n < 2147483648 := by omega) : n ≤ x.toInt := by
  rcases (show x.toInt < n ∨ n ≤ x.toInt by omega) with q | q
  · exact absurd (Int32.lt_iff_toInt_lt.mpr (by rw [nI_toInt hn]; exact q)) h
  · exact q
theorem ti_gt {x : Int32} {n : Nat} (h : nI n < x) (hn : n < 2147483648 := by omega) : n < x.toInt := by have := Int32.lt_iff_toInt_lt.mp h; rwa [nI_toInt hn] at this
theorem ti_ngt {x : Int32} {n : Nat} (h : ¬ nI n < x) (hn : n < 2147483648 := by omega) : x.toInt ≤ n := by
  rcases (show n < x.toInt ∨ x.toInt ≤ n by omega) with q | q
  · exact absurd (Int32.lt_iff_toInt_lt.mpr (by rw [nI_toInt hn]; exact q)) h
  · exact q
theorem ti_le {x : Int32} {n : Nat} (h : x ≤ nI n) (hn : n < 2147483648 := by omega) : x.toInt ≤ n := by have := Int32.le_iff_toInt_le.mp h; rwa [nI_toInt hn] at this
theorem ti_nle {x : Int32} {n : Nat} (h : ¬ x ≤ nI n) (hn : n < 2147483648 := by omega) : n < x.toInt := by
  rcases (show n < x.toInt ∨ x.toInt ≤ n by omega) with q | q
  · exact q
  · exact absurd (Int32.le_iff_toInt_le.mpr (by rw [nI_toInt hn]; exact q)) h
theorem ti_ge {x : Int32} {n : Nat} (h : nI n ≤ x) (hn : n < 2147483648 := by omega) : n ≤ x.toInt := by have := Int32.le_iff_toInt_le.mp h; rwa [nI_toInt hn] at this
theorem ti_nge {x : Int32} {n : Nat} (h : ¬ nI n ≤ x) (hn : n < 2147483648 := by omega) : x.toInt < n := by
  rcases (show x.toInt < n ∨ n ≤ x.toInt by omega) with q | q
  · exact q
  · exact absurd (Int32.le_iff_toInt_le.mpr (by rw [nI_toInt hn]; exact q)) h
theorem ti_z {x : Int32} (h : x = 0) : x.toInt = 0 := by rw [h]; decide
theorem ti_nz {x : Int32} (h : ¬ x = 0) : x.toInt ≠ 0 := fun q => h (Int32.toInt_inj.mp (by rw [q]; decide))
theorem ti_eq {x : Int32} {n : Nat} (h : x = nI n) (hn : n < 2147483648 := by omega) : x.toInt = n := by rw [h]; exact nI_toInt hn
theorem ti_ne {x : Int32} {n : Nat} (h : ¬ x = nI n) (hn : n < 2147483648 := by omega) : x.toInt ≠ n := fun q => h (Int32.toInt_inj.mp (by rw [q, nI_toInt hn]))
theorem ti_l99 {x : Int32} (h : x < (-99)) : x.toInt < -99 := Int32.lt_iff_toInt_lt.mp h
theorem ti_n99 {x : Int32} (h : ¬ x < (-99)) : -99 ≤ x.toInt := by
  rcases (show x.toInt < (-99) ∨ (-99) ≤ x.toInt by omega) with q | q
  · exact absurd (Int32.lt_iff_toInt_lt.mpr q) h
  · exact q
theorem isL {x : Int32} : (∃ j, 1 ≤ j ∧ j ≤ 6 ∧ x = nI j) ↔ 1 ≤ x.toInt ∧ x.toInt ≤ 6 := by
  constructor
  · rintro ⟨j, h1, h2, rfl⟩
    rw [nI_toInt (by omega)]
    omega
  · intro h
    have := tN_z (v := x) (by omega)
    exact ⟨tN x, by omega, by omega, tN_eq (by omega)⟩
def HRelD (u : HD) (pst : PF) (h : Nat) : Prop := u.1 = h ∧ h ≤ 4 ∧ HRel h u.2.1 u.2.2.1 u.2.2.2.1 u.2.2.2.2 pst
abbrev CS : Type := SD × SA × SA × SA × SA × HD
def PO (x : Int32) (u : CS) (r : OR) : Prop := x = r.1 ∧ RelS u.1 r.2.1 ∧ HRelD u.2.2.2.2.2 r.2.2.1 r.2.2.2
theorem chgN_4 {n : Nat} (h : n ≤ 4) : chgN n ≤ 4 := by unfold chgN; split <;> omega

theorem kX4_append_f22 : Cond.fieldLink RX4 22 "SkewedSquare$Text" "length" "I" ∈ wsX4_append := by decide +kernel
theorem kX4_append_f9 : Cond.fieldLink RX4 9 "SkewedSquare$Text" "signs" "[C" ∈ wsX4_append := by decide +kernel
theorem khX4_append_X4 : ∀ w ∈ u_ws RX4 TX4 11, w ∈ wsX4_append := by decide +kernel
set_option maxHeartbeats 4000000 in
set_option maxRecDepth 100000 in
/-- kX4_append -/
theorem kX4_append (l : Launch) (G : wG) (k : XA) (len fp re row col wid ng dg vl : Nat) (g : wF) (mr mc : Nat) (f : wF) (ch : Nat) (hl : len < 80) (hc : ch < 65536) : CV (S := Unit) l yX4_append wsX4_append (rm 0 0) G [.ref k.1, .int (nI ch)] (wX G k (len, fp, re, row, col, wid, ng, dg, vl, g, (mr, mc, f))) (fun u9 => True) (fun u9 => wX G k (len + 1, fp, re, row, col, wid, ng, dg, vl, upd g len (nI ch), (mr, mc, f))) := by
  refine CV.of (own := RX4) rfl (by decide) rfl (Nat.le_of_ble_eq_true rfl) ?_
  intro p9 e9 s9 m9 b9 t9 c9 A xE xB xM xO xT xK xP xD Q xQ xS ls hl
  have xL : lv_has ls 2 [(0, .ref k.1), (1, .int (nI ch))] := hl
  refine lv_aload_n xE xB dX4_append_0 rfl (lv_at xL 0 rfl) ?_
  refine va_get (D := G.1) (ci := 4) (v := .int (nI len)) (C := RX4) (T := TX4) (N := 11) xE xB xT khX4_append_X4 xO xK.1 xP 0 rfl rfl 1 (by decide) (xT _ kX4_append_f22) (fun _ h9 => h9) rfl dX4_append_1 ?_
  refine q_if_lt (tgt := 39) xE xB dX4_append_4 (by decide) (by omega) ?_
  refine lv_aload_n xE xB dX4_append_7 rfl (lv_at xL 0 rfl) ?_
  refine va_get (D := G.1) (ci := 4) (v := .int (nI len)) (C := RX4) (T := TX4) (N := 11) xE xB xT khX4_append_X4 xO xK.1 xP 0 rfl rfl 1 (by decide) (xT _ kX4_append_f22) (fun _ h9 => h9) rfl dX4_append_8 ?_
  refine lv_aload_n xE xB dX4_append_11 rfl (lv_at xL 0 rfl) ?_
  refine va_get (D := G.1) (ci := 4) (v := .ref k.2.1) (C := RX4) (T := TX4) (N := 11) xE xB xT khX4_append_X4 xO xK.1 xP 0 rfl rfl 0 (by decide) (xT _ kX4_append_f9) (fun _ h9 => h9) rfl dX4_append_12 ?_
  refine va_alen (v := nI 80) xE xB xK.1 xP 1 0 rfl rfl rfl dX4_append_15 ?_
  refine q_icmp_ge (tgt := 39) xE xB dX4_append_16 (by decide) (by omega) (by omega) (fun c_16 => absurd c_16 (by omega)) (fun c_16 => ?_)
  refine lv_aload_n xE xB dX4_append_19 rfl (lv_at xL 0 rfl) ?_
  refine va_get (D := G.1) (ci := 4) (v := .ref k.2.1) (C := RX4) (T := TX4) (N := 11) xE xB xT khX4_append_X4 xO xK.1 xP 0 rfl rfl 0 (by decide) (xT _ kX4_append_f9) (fun _ h9 => h9) rfl dX4_append_20 ?_
  refine lv_aload_n xE xB dX4_append_23 rfl (lv_at xL 0 rfl) ?_
  refine va_get (D := G.1) (ci := 4) (v := .int (nI len)) (C := RX4) (T := TX4) (N := 11) xE xB xT khX4_append_X4 xO xK.1 xP 0 rfl rfl 1 (by decide) (xT _ kX4_append_f22) (fun _ h9 => h9) rfl dX4_append_24 ?_
  refine lv_iload_n xE xB dX4_append_27 rfl (lv_at xL 1 rfl) ?_
  refine q_cast (q_char (by omega)) xE xB xK xP xD xS 1 rfl (by omega) (by decide) dX4_append_28 (fun H locs xP xD xS => ?_)
  have xP : va_P G.1 vwCl (wX G k (len, fp, re, row, col, wid, ng, dg, vl, upd g len (nI ch), (mr, mc, f))) H := xP
  have xD : va_D A (wX G k (len, fp, re, row, col, wid, ng, dg, vl, upd g len (nI ch), (mr, mc, f))) := xD
  refine lv_aload_n xE xB dX4_append_29 rfl (lv_at xL 0 rfl) ?_
  refine lv_dup xE xB dX4_append_30 rfl ?_
  refine va_get (D := G.1) (ci := 4) (v := .int (nI len)) (C := RX4) (T := TX4) (N := 11) xE xB xT khX4_append_X4 xO xK.1 xP 0 rfl rfl 1 (by decide) (xT _ kX4_append_f22) (fun _ h9 => h9) rfl dX4_append_31 ?_
  refine lv_iconst (v := nI 1) xE xB dX4_append_34 (by decide) ?_
  refine q_iadd xE xB dX4_append_35 ?_
  refine va_put (D := G.1) (ci := 4) (v := .int (nI (len + 1))) (ty := .int) (C := RX4) (T := TX4) (N := 11) xE xB xT khX4_append_X4 tyX4 tyX4_ok nmX4 xO xK.1 xP xD xS 0 rfl rfl 1 (by decide) (xT _ kX4_append_f22) (fun _ h9 => h9) rfl (by decide +kernel) rfl rfl (Nat.le_of_ble_eq_true rfl) dX4_append_36 (fun H locs xP xD xS => ?_)
  have xP : va_P G.1 vwCl (wX G k (len + 1, fp, re, row, col, wid, ng, dg, vl, upd g len (nI ch), (mr, mc, f))) H := xP
  have xD : va_D A (wX G k (len + 1, fp, re, row, col, wid, ng, dg, vl, upd g len (nI ch), (mr, mc, f))) := xD
  exact xQ _ _ _ _ () trivial xP xD xS dX4_append_39
theorem kX6_side_c33 : Cond.constant RX6 33 (-1000001) ∈ wsX6_side := by decide +kernel
theorem kX6_side_f10 : Cond.fieldLink RX6 10 "SkewedSquare" "now" "LSkewedSquare$State;" ∈ wsX6_side := by decide +kernel
theorem kX6_side_f22 : Cond.fieldLink RX6 22 "SkewedSquare" "history" "LSkewedSquare$History;" ∈ wsX6_side := by decide +kernel
theorem kX6_side_f38 : Cond.fieldLink RX6 38 "SkewedSquare$State" "square" "LSkewedSquare$Square;" ∈ wsX6_side := by decide +kernel
theorem kX6_side_f42 : Cond.fieldLink RX6 42 "SkewedSquare$Square" "side" "I" ∈ wsX6_side := by decide +kernel
theorem kX6_side_f52 : Cond.fieldLink RX6 52 "SkewedSquare$State" "tile" "LSkewedSquare$Tile;" ∈ wsX6_side := by decide +kernel
theorem kX6_side_f56 : Cond.fieldLink RX6 56 "SkewedSquare$Tile" "begun" "Z" ∈ wsX6_side := by decide +kernel
theorem khX6_side_X2 : ∀ w ∈ u_ws RX2 TX2 3, w ∈ wsX6_side := by decide +kernel
theorem khX6_side_X3 : ∀ w ∈ u_ws RX3 TX3 5, w ∈ wsX6_side := by decide +kernel
theorem khX6_side_X5 : ∀ w ∈ u_ws RX5 TX5 11, w ∈ wsX6_side := by decide +kernel
theorem khX6_side_X6 : ∀ w ∈ u_ws RX6 TX6 4, w ∈ wsX6_side := by decide +kernel
set_option maxHeartbeats 4000000 in
set_option maxRecDepth 100000 in
/-- kX6_side -/
theorem kX6_side (l : Launch) (G : wG) (x0 : Nat) (na tra : SA) (h : HA) (k : XA) (n o : Nat) (kf : wF) (lr lc : Nat) (L : wF) (rr rc : Nat) (R : wF) (sr sc : Nat) (Z : wF) (b ta tb th tw tt tn : Nat) (sm0 mt rw dn : wF) (v : SD) (hn : Nat) (u0 u1 u2 u3 : SD) (w : XD) (s : wF) (pst : PF) (v1 : Int32) (hR : RelS ((n, o, kf), (lr, lc, L), (rr, rc, R), (sr, sc, Z), (b, ta, tb, th, tw, tt, tn, sm0, mt, rw, dn)) s) (hh : hn ≤ 4) (hH : HRel hn u0 u1 u2 u3 pst) : CI (S := CS) l yX6_side wsX6_side (rm 4 81) G [.ref x0, .int v1] (List.flatten [[((x0, na.1, tra.1, h.1, k.1).1, .inr (6, [.ref ((x0, na.1, tra.1, h.1, k.1).2.1), .ref ((x0, na.1, tra.1, h.1, k.1).2.2.1), .ref ((x0, na.1, tra.1, h.1, k.1).2.2.2.1), .ref ((x0, na.1, tra.1, h.1, k.1).2.2.2.2)]))], wS G na ((n, o, kf), (lr, lc, L), (rr, rc, R), (sr, sc, Z), (b, ta, tb, th, tw, tt, tn, sm0, mt, rw, dn)), wS G tra v, wHf G h (hn, u0, u1, u2, u3), wX G k w]) (fun x u9 => PO x u9 (opSide n v1 s pst hn)) (fun u9 => List.flatten [[((x0, na.1, tra.1, h.1, k.1).1, .inr (6, [.ref ((x0, na.1, tra.1, h.1, k.1).2.1), .ref ((x0, na.1, tra.1, h.1, k.1).2.2.1), .ref ((x0, na.1, tra.1, h.1, k.1).2.2.2.1), .ref ((x0, na.1, tra.1, h.1, k.1).2.2.2.2)]))], wS G na u9.1, wS G tra v, wHf G (h.1, h.2.1, u9.2.1, u9.2.2.1, u9.2.2.2.1, u9.2.2.2.2.1) u9.2.2.2.2.2, wX G k w]) := by
  refine CI.of (own := RX6) rfl (by decide) rfl (Nat.le_of_ble_eq_true rfl) ?_
  intro p9 e9 s9 m9 b9 t9 c9 A xE xB xM xO xT xK xP xD Q xQ xS ls hl
  have xL : lv_has ls 3 [(0, .ref x0), (1, .int v1)] := hl
  obtain ⟨hn1, hn2, hn3⟩ := hR.1.2.2.1
  obtain ⟨hm1, hm2, hm3, hm4, hm5, hm6⟩ := hR.2.2.1.2.2.2.1
  obtain ⟨hd1, hd2, hd3⟩ := hR.2.2.2.1
  have hb1 := hR.2.2.2.2.2.1.1
  refine lv_iload_n xE xB dX6_side_0 rfl (lv_at xL 1 rfl) ?_
  refine lv_iconst (v := nI 1) xE xB dX6_side_1 (by decide) ?_
  refine lv_icmp_lt (tgt := 10) xE xB dX6_side_2 (by decide) (fun c_2 => ?_) (fun c_2 => ?_)
  · skip
    refine lv_ldc (v := (-1000001)) xE xB xO (xT _ kX6_side_c33) dX6_side_10 ?_
    exact xQ _ _ _ _ _ (((n, o, kf), (lr, lc, L), (rr, rc, R), (sr, sc, Z), (b, ta, tb, th, tw, tt, tn, sm0, mt, rw, dn)), h.2.2.1, h.2.2.2.1, h.2.2.2.2.1, h.2.2.2.2.2, (hn, u0, u1, u2, u3)) (by (try (first | replace c_2 := ti_neg c_2 | replace c_2 := ti_nneg c_2 | replace c_2 := ti_lt c_2 | replace c_2 := ti_nlt c_2 | replace c_2 := ti_gt c_2 | replace c_2 := ti_ngt c_2 | replace c_2 := ti_le c_2 | replace c_2 := ti_nle c_2 | replace c_2 := ti_ge c_2 | replace c_2 := ti_nge c_2 | replace c_2 := ti_z c_2 | replace c_2 := ti_nz c_2 | replace c_2 := ti_eq c_2 | replace c_2 := ti_ne c_2)); (try (first | replace c_7 := ti_neg c_7 | replace c_7 := ti_nneg c_7 | replace c_7 := ti_lt c_7 | replace c_7 := ti_nlt c_7 | replace c_7 := ti_gt c_7 | replace c_7 := ti_ngt c_7 | replace c_7 := ti_le c_7 | replace c_7 := ti_nle c_7 | replace c_7 := ti_ge c_7 | replace c_7 := ti_nge c_7 | replace c_7 := ti_z c_7 | replace c_7 := ti_nz c_7 | replace c_7 := ti_eq c_7 | replace c_7 := ti_ne c_7)); rw [show opSide n v1 s pst hn = (kINV, s, pst, hn) from if_neg (by omega)]; exact ⟨rfl, hR, rfl, hh, hH⟩) xP xD xS dX6_side_12
  · skip
    refine lv_iload_n xE xB dX6_side_5 rfl (lv_at xL 1 rfl) ?_
    refine lv_iconst (v := nI 4) xE xB dX6_side_6 (by decide) ?_
    refine lv_icmp_le (tgt := 13) xE xB dX6_side_7 (by decide) (fun c_7 => ?_) (fun c_7 => ?_)
    · skip
      (try (first | replace c_2 := ti_neg c_2 | replace c_2 := ti_nneg c_2 | replace c_2 := ti_lt c_2 | replace c_2 := ti_nlt c_2 | replace c_2 := ti_gt c_2 | replace c_2 := ti_ngt c_2 | replace c_2 := ti_le c_2 | replace c_2 := ti_nle c_2 | replace c_2 := ti_ge c_2 | replace c_2 := ti_nge c_2 | replace c_2 := ti_z c_2 | replace c_2 := ti_nz c_2 | replace c_2 := ti_eq c_2 | replace c_2 := ti_ne c_2)); (try (first | replace c_7 := ti_neg c_7 | replace c_7 := ti_nneg c_7 | replace c_7 := ti_lt c_7 | replace c_7 := ti_nlt c_7 | replace c_7 := ti_gt c_7 | replace c_7 := ti_ngt c_7 | replace c_7 := ti_le c_7 | replace c_7 := ti_nle c_7 | replace c_7 := ti_ge c_7 | replace c_7 := ti_nge c_7 | replace c_7 := ti_z c_7 | replace c_7 := ti_nz c_7 | replace c_7 := ti_eq c_7 | replace c_7 := ti_ne c_7))
      have e_v1 : v1 = nI (tN v1) := tN_eq (by omega)
      have b_v1 : (tN v1 : Int) = v1.toInt := tN_z (by omega)
      rw [e_v1] at xL
      have xL : lv_has ls 3 [(0, .ref x0), (1, .int (nI (tN v1)))] := xL
      refine lv_aload_n xE xB dX6_side_13 rfl (lv_at xL 0 rfl) ?_
      refine va_get (D := G.1) (ci := 6) (v := .ref h.1) (C := RX6) (T := TX6) (N := 4) xE xB xT khX6_side_X6 xO xK.1 xP 0 rfl rfl 2 (by decide) (xT _ kX6_side_f22) (fun _ h9 => h9) rfl dX6_side_14 ?_
      refine lv_aload_n xE xB dX6_side_17 rfl (lv_at xL 0 rfl) ?_
      refine va_get (D := G.1) (ci := 6) (v := .ref na.1) (C := RX6) (T := TX6) (N := 4) xE xB xT khX6_side_X6 xO xK.1 xP 0 rfl rfl 0 (by decide) (xT _ kX6_side_f10) (fun _ h9 => h9) rfl dX6_side_18 ?_
      refine q_VVL (As := [.ref na.1]) (rest := []) ⟨xE, xB, xM, xO, xT⟩ (kX0_remember l G h hn u0 u1 u2 u3 na ((n, o, kf), (lr, lc, L), (rr, rc, R), (sr, sc, Z), (b, ta, tb, th, tw, tt, tn, sm0, mt, rw, dn)) pst s (by exact hh) (by exact hH) (by exact hR)) (cwV 1 xT gX6_side_X0_remember rfl rfl rfl (by decide +kernel) ⟨Nat.le_of_ble_eq_true rfl, Nat.le_of_ble_eq_true rfl⟩) xK xP xD xS [3, 1] [0, 2, 4] 5 rfl (by decide) (Lc := [wHf G h (hn, u0, u1, u2, u3), wS G na ((n, o, kf), (lr, lc, L), (rr, rc, R), (sr, sc, Z), (b, ta, tb, th, tw, tt, tn, sm0, mt, rw, dn))]) rfl (by simp only [List.flatten_cons, List.flatten_nil, List.append_nil, List.append_assoc]) (fun u_21 => [[(x0, .inr (6, [.ref na.1, .ref tra.1, .ref h.1, .ref k.1]))], wS G na ((n, o, kf), (lr, lc, L), (rr, rc, R), (sr, sc, Z), (b, ta, tb, th, tw, tt, tn, sm0, mt, rw, dn)), wS G tra v, wHf G (h.1, h.2.1, u_21.1, u_21.2.1, u_21.2.2.1, u_21.2.2.2.1) (chgN hn, u_21.2.2.2.2.1, u_21.2.2.2.2.2.1, u_21.2.2.2.2.2.2.1, u_21.2.2.2.2.2.2.2), wX G k w]) (fun u_21 => [wHf G (h.1, h.2.1, u_21.1, u_21.2.1, u_21.2.2.1, u_21.2.2.2.1) (chgN hn, u_21.2.2.2.2.1, u_21.2.2.2.2.2.1, u_21.2.2.2.2.2.2.1, u_21.2.2.2.2.2.2.2), wS G na ((n, o, kf), (lr, lc, L), (rr, rc, R), (sr, sc, Z), (b, ta, tb, th, tw, tt, tn, sm0, mt, rw, dn))]) (fun _ => rfl) (fun _ => rfl) (fun _ => by simp only [List.flatten_cons, List.flatten_nil, List.append_nil, List.append_assoc]) (fun _ => rfl) 0 rfl rfl rfl rfl xL.1 rfl (Nat.le_of_ble_eq_true rfl) dX6_side_21 ⟨Nat.le_refl _, Nat.le_refl _⟩ (fun u_21 H locs h_21 xP xD xS => ?_)
      have h_21 : HRel (chgN hn) u_21.2.2.2.2.1 u_21.2.2.2.2.2.1 u_21.2.2.2.2.2.2.1 u_21.2.2.2.2.2.2.2 (chgP s pst hn) := h_21
      refine lv_aload_n xE xB dX6_side_24 rfl (lv_at xL 0 rfl) ?_
      refine va_get (D := G.1) (ci := 6) (v := .ref na.1) (C := RX6) (T := TX6) (N := 4) xE xB xT khX6_side_X6 xO xK.1 xP 0 rfl rfl 0 (by decide) (xT _ kX6_side_f10) (fun _ h9 => h9) rfl dX6_side_25 ?_
      refine va_get (D := G.1) (ci := 3) (v := .ref na.2.1.1) (C := RX3) (T := TX3) (N := 5) xE xB xT khX6_side_X3 xO xK.1 xP 1 rfl rfl 0 (by decide) (xT _ kX6_side_f38) (fun _ h9 => h9) rfl dX6_side_28 ?_
      refine va_get (D := G.1) (ci := 2) (v := .int (nI n)) (C := RX2) (T := TX2) (N := 3) xE xB xT khX6_side_X2 xO xK.1 xP 2 rfl rfl 0 (by decide) (xT _ kX6_side_f42) (fun _ h9 => h9) rfl dX6_side_31 ?_
      refine lv_istore_n (lv' := [(2, .int (nI n)), (0, .ref x0), (1, .int (nI (tN v1)))]) xE xB dX6_side_34 rfl xL (by decide) rfl (fun ls xL => ?_)
      refine lv_aload_n xE xB dX6_side_35 rfl (lv_at xL 1 rfl) ?_
      refine va_get (D := G.1) (ci := 6) (v := .ref na.1) (C := RX6) (T := TX6) (N := 4) xE xB xT khX6_side_X6 xO xK.1 xP 0 rfl rfl 0 (by decide) (xT _ kX6_side_f10) (fun _ h9 => h9) rfl dX6_side_36 ?_
      refine va_get (D := G.1) (ci := 3) (v := .ref na.2.1.1) (C := RX3) (T := TX3) (N := 5) xE xB xT khX6_side_X3 xO xK.1 xP 1 rfl rfl 0 (by decide) (xT _ kX6_side_f38) (fun _ h9 => h9) rfl dX6_side_39 ?_
      refine lv_iload_n xE xB dX6_side_42 rfl (lv_at xL 2 rfl) ?_
      refine q_VV (As := [.int (nI (tN v1))]) (rest := []) ⟨xE, xB, xM, xO, xT⟩ (kX2_renew l G na.2.1 n o kf (tN v1) (by omega) (by omega)) (cwV 1 xT gX6_side_X2_renew rfl rfl rfl (by decide +kernel) ⟨Nat.le_of_ble_eq_true rfl, Nat.le_of_ble_eq_true rfl⟩) xK xP xD xS [2, 3] rfl (by decide +kernel) (fun _ => rfl) 0 rfl rfl rfl rfl xL.1 rfl (Nat.le_of_ble_eq_true rfl) dX6_side_43 ⟨Nat.le_refl _, Nat.le_refl _⟩ (fun u_43 H locs h_43 xP xD xS => ?_)
      have xP : va_P G.1 vwCl (List.flatten [[(x0, .inr (6, [.ref na.1, .ref tra.1, .ref h.1, .ref k.1]))], wS G na ((tN v1, tN v1, fillF 20 (nI 0) kf), (lr, lc, L), (rr, rc, R), (sr, sc, Z), (b, ta, tb, th, tw, tt, tn, sm0, mt, rw, dn)), wS G tra v, wHf G (h.1, h.2.1, u_21.1, u_21.2.1, u_21.2.2.1, u_21.2.2.2.1) (chgN hn, u_21.2.2.2.2.1, u_21.2.2.2.2.2.1, u_21.2.2.2.2.2.2.1, u_21.2.2.2.2.2.2.2), wX G k w]) H := xP
      have xD : va_D A (List.flatten [[(x0, .inr (6, [.ref na.1, .ref tra.1, .ref h.1, .ref k.1]))], wS G na ((tN v1, tN v1, fillF 20 (nI 0) kf), (lr, lc, L), (rr, rc, R), (sr, sc, Z), (b, ta, tb, th, tw, tt, tn, sm0, mt, rw, dn)), wS G tra v, wHf G (h.1, h.2.1, u_21.1, u_21.2.1, u_21.2.2.1, u_21.2.2.2.1) (chgN hn, u_21.2.2.2.2.1, u_21.2.2.2.2.2.1, u_21.2.2.2.2.2.2.1, u_21.2.2.2.2.2.2.2), wX G k w]) := xD
      refine lv_aload_n xE xB dX6_side_46 rfl (lv_at xL 1 rfl) ?_
      refine va_get (D := G.1) (ci := 6) (v := .ref na.1) (C := RX6) (T := TX6) (N := 4) xE xB xT khX6_side_X6 xO xK.1 xP 0 rfl rfl 0 (by decide) (xT _ kX6_side_f10) (fun _ h9 => h9) rfl dX6_side_47 ?_
      refine va_get (D := G.1) (ci := 3) (v := .ref na.2.2.2.2.2.1) (C := RX3) (T := TX3) (N := 5) xE xB xT khX6_side_X3 xO xK.1 xP 1 rfl rfl 4 (by decide) (xT _ kX6_side_f52) (fun _ h9 => h9) rfl dX6_side_50 ?_
      refine lv_iconst (v := nI 0) xE xB dX6_side_53 (by decide) ?_
      refine va_put (D := G.1) (ci := 5) (v := .int (nI 0)) (ty := .boolean) (C := RX5) (T := TX5) (N := 11) xE xB xT khX6_side_X5 tyX5 tyX5_ok nmX5 xO xK.1 xP xD xS 10 rfl rfl 0 (by decide) (xT _ kX6_side_f56) (fun _ h9 => h9) rfl (by decide +kernel) (by decide) (by decide) (Nat.le_of_ble_eq_true rfl) dX6_side_54 (fun H locs xP xD xS => ?_)
      have xP : va_P G.1 vwCl (List.flatten [[(x0, .inr (6, [.ref na.1, .ref tra.1, .ref h.1, .ref k.1]))], wS G na ((tN v1, tN v1, fillF 20 (nI 0) kf), (lr, lc, L), (rr, rc, R), (sr, sc, Z), (0, ta, tb, th, tw, tt, tn, sm0, mt, rw, dn)), wS G tra v, wHf G (h.1, h.2.1, u_21.1, u_21.2.1, u_21.2.2.1, u_21.2.2.2.1) (chgN hn, u_21.2.2.2.2.1, u_21.2.2.2.2.2.1, u_21.2.2.2.2.2.2.1, u_21.2.2.2.2.2.2.2), wX G k w]) H := xP
      have xD : va_D A (List.flatten [[(x0, .inr (6, [.ref na.1, .ref tra.1, .ref h.1, .ref k.1]))], wS G na ((tN v1, tN v1, fillF 20 (nI 0) kf), (lr, lc, L), (rr, rc, R), (sr, sc, Z), (0, ta, tb, th, tw, tt, tn, sm0, mt, rw, dn)), wS G tra v, wHf G (h.1, h.2.1, u_21.1, u_21.2.1, u_21.2.2.1, u_21.2.2.2.1) (chgN hn, u_21.2.2.2.2.1, u_21.2.2.2.2.2.1, u_21.2.2.2.2.2.2.1, u_21.2.2.2.2.2.2.2), wX G k w]) := xD
      refine lv_aload_n xE xB dX6_side_57 rfl (lv_at xL 1 rfl) ?_
      refine va_get (D := G.1) (ci := 6) (v := .ref na.1) (C := RX6) (T := TX6) (N := 4) xE xB xT khX6_side_X6 xO xK.1 xP 0 rfl rfl 0 (by decide) (xT _ kX6_side_f10) (fun _ h9 => h9) rfl dX6_side_58 ?_
      refine q_VVL (As := []) (rest := []) ⟨xE, xB, xM, xO, xT⟩ (kX3_forgetResults l G na (tN v1) (tN v1) (fillF 20 (nI 0) kf) lr lc L rr rc R sr sc Z 0 ta tb th tw tt tn sm0 mt rw dn (by omega) (by omega) (by omega)) (cwV 0 xT gX6_side_X3_forgetResults rfl rfl rfl (by decide +kernel) ⟨Nat.le_of_ble_eq_true rfl, Nat.le_of_ble_eq_true rfl⟩) xK xP xD xS [1] [0, 2, 3, 4] 5 rfl (by decide) (Lc := [wS G na ((tN v1, tN v1, fillF 20 (nI 0) kf), (lr, lc, L), (rr, rc, R), (sr, sc, Z), (0, ta, tb, th, tw, tt, tn, sm0, mt, rw, dn))]) rfl (by simp only [List.flatten_cons, List.flatten_nil, List.append_nil, List.append_assoc]) (fun _ => [[(x0, .inr (6, [.ref na.1, .ref tra.1, .ref h.1, .ref k.1]))], wS G na ((tN v1, tN v1, fillF 20 (nI 0) kf), (lr, lc, L), (rr, rc, R), (lr, rc, fillF 36 NO Z), (0, ta, tb, th, tw, tt, tn, sm0, mt, rw, dn)), wS G tra v, wHf G (h.1, h.2.1, u_21.1, u_21.2.1, u_21.2.2.1, u_21.2.2.2.1) (chgN hn, u_21.2.2.2.2.1, u_21.2.2.2.2.2.1, u_21.2.2.2.2.2.2.1, u_21.2.2.2.2.2.2.2), wX G k w]) (fun _ => [wS G na ((tN v1, tN v1, fillF 20 (nI 0) kf), (lr, lc, L), (rr, rc, R), (lr, rc, fillF 36 NO Z), (0, ta, tb, th, tw, tt, tn, sm0, mt, rw, dn))]) (fun _ => rfl) (fun _ => rfl) (fun _ => by simp only [List.flatten_cons, List.flatten_nil, List.append_nil, List.append_assoc]) (fun _ => rfl) 0 rfl rfl rfl rfl xL.1 rfl (Nat.le_of_ble_eq_true rfl) dX6_side_61 ⟨Nat.le_refl _, Nat.le_refl _⟩ (fun u_61 H locs h_61 xP xD xS => ?_)
      refine lv_iload_n xE xB dX6_side_64 rfl (lv_at xL 0 rfl) ?_
      exact xQ _ _ _ _ _ (((tN v1, tN v1, fillF 20 (nI 0) kf), (lr, lc, L), (rr, rc, R), (lr, rc, fillF 36 NO Z), (0, ta, tb, th, tw, tt, tn, sm0, mt, rw, dn)), u_21.1, u_21.2.1, u_21.2.2.1, u_21.2.2.2.1, (chgN hn, u_21.2.2.2.2.1, u_21.2.2.2.2.2.1, u_21.2.2.2.2.2.2.1, u_21.2.2.2.2.2.2.2)) (by rw [show opSide n v1 s pst hn = (nI n, sideF (tN v1) s, chgP s pst hn, chgN hn) from if_pos (by omega)]; exact ⟨rfl, rel_side hR (by omega) (by omega), rfl, chgN_4 hh, h_21⟩) xP xD xS dX6_side_65
    · skip
      refine lv_ldc (v := (-1000001)) xE xB xO (xT _ kX6_side_c33) dX6_side_10 ?_
      exact xQ _ _ _ _ _ (((n, o, kf), (lr, lc, L), (rr, rc, R), (sr, sc, Z), (b, ta, tb, th, tw, tt, tn, sm0, mt, rw, dn)), h.2.2.1, h.2.2.2.1, h.2.2.2.2.1, h.2.2.2.2.2, (hn, u0, u1, u2, u3)) (by (try (first | replace c_2 := ti_neg c_2 | replace c_2 := ti_nneg c_2 | replace c_2 := ti_lt c_2 | replace c_2 := ti_nlt c_2 | replace c_2 := ti_gt c_2 | replace c_2 := ti_ngt c_2 | replace c_2 := ti_le c_2 | replace c_2 := ti_nle c_2 | replace c_2 := ti_ge c_2 | replace c_2 := ti_nge c_2 | replace c_2 := ti_z c_2 | replace c_2 := ti_nz c_2 | replace c_2 := ti_eq c_2 | replace c_2 := ti_ne c_2)); (try (first | replace c_7 := ti_neg c_7 | replace c_7 := ti_nneg c_7 | replace c_7 := ti_lt c_7 | replace c_7 := ti_nlt c_7 | replace c_7 := ti_gt c_7 | replace c_7 := ti_ngt c_7 | replace c_7 := ti_le c_7 | replace c_7 := ti_nle c_7 | replace c_7 := ti_ge c_7 | replace c_7 := ti_nge c_7 | replace c_7 := ti_z c_7 | replace c_7 := ti_nz c_7 | replace c_7 := ti_eq c_7 | replace c_7 := ti_ne c_7)); rw [show opSide n v1 s pst hn = (kINV, s, pst, hn) from if_neg (by omega)]; exact ⟨rfl, hR, rfl, hh, hH⟩) xP xD xS dX6_side_12
theorem kX6_shape_c33 : Cond.constant RX6 33 (-1000001) ∈ wsX6_shape := by decide +kernel
theorem kX6_shape_f10 : Cond.fieldLink RX6 10 "SkewedSquare" "now" "LSkewedSquare$State;" ∈ wsX6_shape := by decide +kernel
theorem kX6_shape_f22 : Cond.fieldLink RX6 22 "SkewedSquare" "history" "LSkewedSquare$History;" ∈ wsX6_shape := by decide +kernel
theorem kX6_shape_f52 : Cond.fieldLink RX6 52 "SkewedSquare$State" "tile" "LSkewedSquare$Tile;" ∈ wsX6_shape := by decide +kernel
theorem kX6_shape_f56 : Cond.fieldLink RX6 56 "SkewedSquare$Tile" "begun" "Z" ∈ wsX6_shape := by decide +kernel
theorem kX6_shape_f69 : Cond.fieldLink RX6 69 "SkewedSquare$State" "leftMatrix" "LSkewedSquare$Matrix;" ∈ wsX6_shape := by decide +kernel
theorem kX6_shape_f78 : Cond.fieldLink RX6 78 "SkewedSquare$State" "rightMatrix" "LSkewedSquare$Matrix;" ∈ wsX6_shape := by decide +kernel
theorem khX6_shape_X3 : ∀ w ∈ u_ws RX3 TX3 5, w ∈ wsX6_shape := by decide +kernel
theorem khX6_shape_X5 : ∀ w ∈ u_ws RX5 TX5 11, w ∈ wsX6_shape := by decide +kernel
theorem khX6_shape_X6 : ∀ w ∈ u_ws RX6 TX6 4, w ∈ wsX6_shape := by decide +kernel
set_option maxHeartbeats 4000000 in
set_option maxRecDepth 100000 in
/-- kX6_shape -/
theorem kX6_shape (l : Launch) (G : wG) (x0 : Nat) (na tra : SA) (h : HA) (k : XA) (n o : Nat) (kf : wF) (lr lc : Nat) (L : wF) (rr rc : Nat) (R : wF) (sr sc : Nat) (Z : wF) (b ta tb th tw tt tn : Nat) (sm0 mt rw dn : wF) (v : SD) (hn : Nat) (u0 u1 u2 u3 : SD) (w : XD) (s : wF) (pst : PF) (v1 v2 v3 : Int32) (hR : RelS ((n, o, kf), (lr, lc, L), (rr, rc, R), (sr, sc, Z), (b, ta, tb, th, tw, tt, tn, sm0, mt, rw, dn)) s) (hh : hn ≤ 4) (hH : HRel hn u0 u1 u2 u3 pst) : CI (S := CS) l yX6_shape wsX6_shape (rm 4 81) G [.ref x0, .int v1, .int v2, .int v3] (List.flatten [[((x0, na.1, tra.1, h.1, k.1).1, .inr (6, [.ref ((x0, na.1, tra.1, h.1, k.1).2.1), .ref ((x0, na.1, tra.1, h.1, k.1).2.2.1), .ref ((x0, na.1, tra.1, h.1, k.1).2.2.2.1), .ref ((x0, na.1, tra.1, h.1, k.1).2.2.2.2)]))], wS G na ((n, o, kf), (lr, lc, L), (rr, rc, R), (sr, sc, Z), (b, ta, tb, th, tw, tt, tn, sm0, mt, rw, dn)), wS G tra v, wHf G h (hn, u0, u1, u2, u3), wX G k w]) (fun x u9 => PO x u9 (opShape n v1 v2 v3 s pst hn)) (fun u9 => List.flatten [[((x0, na.1, tra.1, h.1, k.1).1, .inr (6, [.ref ((x0, na.1, tra.1, h.1, k.1).2.1), .ref ((x0, na.1, tra.1, h.1, k.1).2.2.1), .ref ((x0, na.1, tra.1, h.1, k.1).2.2.2.1), .ref ((x0, na.1, tra.1, h.1, k.1).2.2.2.2)]))], wS G na u9.1, wS G tra v, wHf G (h.1, h.2.1, u9.2.1, u9.2.2.1, u9.2.2.2.1, u9.2.2.2.2.1) u9.2.2.2.2.2, wX G k w]) := by
  refine CI.of (own := RX6) rfl (by decide) rfl (Nat.le_of_ble_eq_true rfl) ?_
  intro p9 e9 s9 m9 b9 t9 c9 A xE xB xM xO xT xK xP xD Q xQ xS ls hl
  have xL : lv_has ls 4 [(0, .ref x0), (1, .int v1), (2, .int v2), (3, .int v3)] := hl
  obtain ⟨hn1, hn2, hn3⟩ := hR.1.2.2.1
  obtain ⟨hm1, hm2, hm3, hm4, hm5, hm6⟩ := hR.2.2.1.2.2.2.1
  obtain ⟨hd1, hd2, hd3⟩ := hR.2.2.2.1
  have hb1 := hR.2.2.2.2.2.1.1
  refine lv_iload_n xE xB dX6_shape_0 rfl (lv_at xL 1 rfl) ?_
  refine q_SR (As := [.int v1]) (rest := []) ⟨xE, xB, xM, xO, xT⟩ (kX6_isLength l G v1) (va_cwS 1 xT gX6_shape_X6_isLength rfl rfl rfl (by decide +kernel) ⟨Nat.le_of_ble_eq_true rfl, Nat.le_of_ble_eq_true rfl⟩) xK xP [] rfl rfl xL.1 rfl (Nat.le_of_ble_eq_true rfl) dX6_shape_1 ⟨Nat.le_refl _, Nat.le_refl _⟩ (fun r_1 h_1 => ?_)
  rcases h_1 with ⟨h_1, c_1⟩ | ⟨h_1, c_1⟩
  · skip
    subst h_1
    have c_1 : ∃ j, 1 ≤ j ∧ j ≤ 6 ∧ v1 = nI j := c_1
    refine lv_if_eq (tgt := 21) xE xB dX6_shape_4 (by decide) (fun h9 => absurd h9 (by decide)) (fun _ => ?_)
    refine lv_iload_n xE xB dX6_shape_7 rfl (lv_at xL 2 rfl) ?_
    refine q_SR (As := [.int v2]) (rest := []) ⟨xE, xB, xM, xO, xT⟩ (kX6_isLength l G v2) (va_cwS 1 xT gX6_shape_X6_isLength rfl rfl rfl (by decide +kernel) ⟨Nat.le_of_ble_eq_true rfl, Nat.le_of_ble_eq_true rfl⟩) xK xP [] rfl rfl xL.1 rfl (Nat.le_of_ble_eq_true rfl) dX6_shape_8 ⟨Nat.le_refl _, Nat.le_refl _⟩ (fun r_8 h_8 => ?_)
    rcases h_8 with ⟨h_8, c_8⟩ | ⟨h_8, c_8⟩
    · skip
      subst h_8
      have c_8 : ∃ j, 1 ≤ j ∧ j ≤ 6 ∧ v2 = nI j := c_8
      refine lv_if_eq (tgt := 21) xE xB dX6_shape_11 (by decide) (fun h9 => absurd h9 (by decide)) (fun _ => ?_)
      refine lv_iload_n xE xB dX6_shape_14 rfl (lv_at xL 3 rfl) ?_
      refine q_SR (As := [.int v3]) (rest := []) ⟨xE, xB, xM, xO, xT⟩ (kX6_isLength l G v3) (va_cwS 1 xT gX6_shape_X6_isLength rfl rfl rfl (by decide +kernel) ⟨Nat.le_of_ble_eq_true rfl, Nat.le_of_ble_eq_true rfl⟩) xK xP [] rfl rfl xL.1 rfl (Nat.le_of_ble_eq_true rfl) dX6_shape_15 ⟨Nat.le_refl _, Nat.le_refl _⟩ (fun r_15 h_15 => ?_)
      rcases h_15 with ⟨h_15, c_15⟩ | ⟨h_15, c_15⟩
      · skip
        subst h_15
        have c_15 : ∃ j, 1 ≤ j ∧ j ≤ 6 ∧ v3 = nI j := c_15
        refine lv_if_ne (tgt := 24) xE xB dX6_shape_18 (by decide) (fun _ => ?_) (fun h9 => absurd h9 (by decide))
        (try rw [isL] at c_1); (try rw [isL] at c_8); (try rw [isL] at c_15)
        have e_v1 : v1 = nI (tN v1) := tN_eq (by omega)
        have b_v1 : (tN v1 : Int) = v1.toInt := tN_z (by omega)
        rw [e_v1] at xL
        have xL : lv_has ls 4 [(0, .ref x0), (1, .int (nI (tN v1))), (2, .int v2), (3, .int v3)] := xL
        have e_v2 : v2 = nI (tN v2) := tN_eq (by omega)
        have b_v2 : (tN v2 : Int) = v2.toInt := tN_z (by omega)
        rw [e_v2] at xL
        have xL : lv_has ls 4 [(0, .ref x0), (1, .int (nI (tN v1))), (2, .int (nI (tN v2))), (3, .int v3)] := xL
        have e_v3 : v3 = nI (tN v3) := tN_eq (by omega)
        have b_v3 : (tN v3 : Int) = v3.toInt := tN_z (by omega)
        rw [e_v3] at xL
        have xL : lv_has ls 4 [(0, .ref x0), (1, .int (nI (tN v1))), (2, .int (nI (tN v2))), (3, .int (nI (tN v3)))] := xL
        refine lv_aload_n xE xB dX6_shape_24 rfl (lv_at xL 0 rfl) ?_
        refine va_get (D := G.1) (ci := 6) (v := .ref h.1) (C := RX6) (T := TX6) (N := 4) xE xB xT khX6_shape_X6 xO xK.1 xP 0 rfl rfl 2 (by decide) (xT _ kX6_shape_f22) (fun _ h9 => h9) rfl dX6_shape_25 ?_
        refine lv_aload_n xE xB dX6_shape_28 rfl (lv_at xL 0 rfl) ?_
        refine va_get (D := G.1) (ci := 6) (v := .ref na.1) (C := RX6) (T := TX6) (N := 4) xE xB xT khX6_shape_X6 xO xK.1 xP 0 rfl rfl 0 (by decide) (xT _ kX6_shape_f10) (fun _ h9 => h9) rfl dX6_shape_29 ?_
        refine q_VVL (As := [.ref na.1]) (rest := []) ⟨xE, xB, xM, xO, xT⟩ (kX0_remember l G h hn u0 u1 u2 u3 na ((n, o, kf), (lr, lc, L), (rr, rc, R), (sr, sc, Z), (b, ta, tb, th, tw, tt, tn, sm0, mt, rw, dn)) pst s (by exact hh) (by exact hH) (by exact hR)) (cwV 1 xT gX6_shape_X0_remember rfl rfl rfl (by decide +kernel) ⟨Nat.le_of_ble_eq_true rfl, Nat.le_of_ble_eq_true rfl⟩) xK xP xD xS [3, 1] [0, 2, 4] 5 rfl (by decide) (Lc := [wHf G h (hn, u0, u1, u2, u3), wS G na ((n, o, kf), (lr, lc, L), (rr, rc, R), (sr, sc, Z), (b, ta, tb, th, tw, tt, tn, sm0, mt, rw, dn))]) rfl (by simp only [List.flatten_cons, List.flatten_nil, List.append_nil, List.append_assoc]) (fun u_32 => [[(x0, .inr (6, [.ref na.1, .ref tra.1, .ref h.1, .ref k.1]))], wS G na ((n, o, kf), (lr, lc, L), (rr, rc, R), (sr, sc, Z), (b, ta, tb, th, tw, tt, tn, sm0, mt, rw, dn)), wS G tra v, wHf G (h.1, h.2.1, u_32.1, u_32.2.1, u_32.2.2.1, u_32.2.2.2.1) (chgN hn, u_32.2.2.2.2.1, u_32.2.2.2.2.2.1, u_32.2.2.2.2.2.2.1, u_32.2.2.2.2.2.2.2), wX G k w]) (fun u_32 => [wHf G (h.1, h.2.1, u_32.1, u_32.2.1, u_32.2.2.1, u_32.2.2.2.1) (chgN hn, u_32.2.2.2.2.1, u_32.2.2.2.2.2.1, u_32.2.2.2.2.2.2.1, u_32.2.2.2.2.2.2.2), wS G na ((n, o, kf), (lr, lc, L), (rr, rc, R), (sr, sc, Z), (b, ta, tb, th, tw, tt, tn, sm0, mt, rw, dn))]) (fun _ => rfl) (fun _ => rfl) (fun _ => by simp only [List.flatten_cons, List.flatten_nil, List.append_nil, List.append_assoc]) (fun _ => rfl) 0 rfl rfl rfl rfl xL.1 rfl (Nat.le_of_ble_eq_true rfl) dX6_shape_32 ⟨Nat.le_refl _, Nat.le_refl _⟩ (fun u_32 H locs h_32 xP xD xS => ?_)
        have h_32 : HRel (chgN hn) u_32.2.2.2.2.1 u_32.2.2.2.2.2.1 u_32.2.2.2.2.2.2.1 u_32.2.2.2.2.2.2.2 (chgP s pst hn) := h_32
        refine lv_aload_n xE xB dX6_shape_35 rfl (lv_at xL 0 rfl) ?_
        refine va_get (D := G.1) (ci := 6) (v := .ref na.1) (C := RX6) (T := TX6) (N := 4) xE xB xT khX6_shape_X6 xO xK.1 xP 0 rfl rfl 0 (by decide) (xT _ kX6_shape_f10) (fun _ h9 => h9) rfl dX6_shape_36 ?_
        refine va_get (D := G.1) (ci := 3) (v := .ref na.2.2.1.1) (C := RX3) (T := TX3) (N := 5) xE xB xT khX6_shape_X3 xO xK.1 xP 1 rfl rfl 1 (by decide) (xT _ kX6_shape_f69) (fun _ h9 => h9) rfl dX6_shape_39 ?_
        refine lv_iload_n xE xB dX6_shape_42 rfl (lv_at xL 1 rfl) ?_
        refine lv_iload_n xE xB dX6_shape_43 rfl (lv_at xL 2 rfl) ?_
        refine lv_iconst (v := nI 0) xE xB dX6_shape_44 (by decide) ?_
        refine q_VV (As := [.int (nI (tN v1)), .int (nI (tN v2)), .int (nI 0)]) (rest := []) ⟨xE, xB, xM, xO, xT⟩ (kX1_renew l G na.2.2.1 lr lc L (tN v1) (tN v2) (nI 0) (by omega) (by omega) (by omega) (by omega)) (cwV 3 xT gX6_shape_X1_renew rfl rfl rfl (by decide +kernel) ⟨Nat.le_of_ble_eq_true rfl, Nat.le_of_ble_eq_true rfl⟩) xK xP xD xS [4, 5] rfl (by decide +kernel) (fun _ => rfl) 0 rfl rfl rfl rfl xL.1 rfl (Nat.le_of_ble_eq_true rfl) dX6_shape_45 ⟨Nat.le_refl _, Nat.le_refl _⟩ (fun u_45 H locs h_45 xP xD xS => ?_)
        have xP : va_P G.1 vwCl (List.flatten [[(x0, .inr (6, [.ref na.1, .ref tra.1, .ref h.1, .ref k.1]))], wS G na ((n, o, kf), (tN v1, tN v2, fillF 36 (nI 0) L), (rr, rc, R), (sr, sc, Z), (b, ta, tb, th, tw, tt, tn, sm0, mt, rw, dn)), wS G tra v, wHf G (h.1, h.2.1, u_32.1, u_32.2.1, u_32.2.2.1, u_32.2.2.2.1) (chgN hn, u_32.2.2.2.2.1, u_32.2.2.2.2.2.1, u_32.2.2.2.2.2.2.1, u_32.2.2.2.2.2.2.2), wX G k w]) H := xP
        have xD : va_D A (List.flatten [[(x0, .inr (6, [.ref na.1, .ref tra.1, .ref h.1, .ref k.1]))], wS G na ((n, o, kf), (tN v1, tN v2, fillF 36 (nI 0) L), (rr, rc, R), (sr, sc, Z), (b, ta, tb, th, tw, tt, tn, sm0, mt, rw, dn)), wS G tra v, wHf G (h.1, h.2.1, u_32.1, u_32.2.1, u_32.2.2.1, u_32.2.2.2.1) (chgN hn, u_32.2.2.2.2.1, u_32.2.2.2.2.2.1, u_32.2.2.2.2.2.2.1, u_32.2.2.2.2.2.2.2), wX G k w]) := xD
        refine lv_aload_n xE xB dX6_shape_48 rfl (lv_at xL 0 rfl) ?_
        refine va_get (D := G.1) (ci := 6) (v := .ref na.1) (C := RX6) (T := TX6) (N := 4) xE xB xT khX6_shape_X6 xO xK.1 xP 0 rfl rfl 0 (by decide) (xT _ kX6_shape_f10) (fun _ h9 => h9) rfl dX6_shape_49 ?_
        refine va_get (D := G.1) (ci := 3) (v := .ref na.2.2.2.1.1) (C := RX3) (T := TX3) (N := 5) xE xB xT khX6_shape_X3 xO xK.1 xP 1 rfl rfl 2 (by decide) (xT _ kX6_shape_f78) (fun _ h9 => h9) rfl dX6_shape_52 ?_
        refine lv_iload_n xE xB dX6_shape_55 rfl (lv_at xL 2 rfl) ?_
        refine lv_iload_n xE xB dX6_shape_56 rfl (lv_at xL 3 rfl) ?_
        refine lv_iconst (v := nI 0) xE xB dX6_shape_57 (by decide) ?_
        refine q_VV (As := [.int (nI (tN v2)), .int (nI (tN v3)), .int (nI 0)]) (rest := []) ⟨xE, xB, xM, xO, xT⟩ (kX1_renew l G na.2.2.2.1 rr rc R (tN v2) (tN v3) (nI 0) (by omega) (by omega) (by omega) (by omega)) (cwV 3 xT gX6_shape_X1_renew rfl rfl rfl (by decide +kernel) ⟨Nat.le_of_ble_eq_true rfl, Nat.le_of_ble_eq_true rfl⟩) xK xP xD xS [6, 7] rfl (by decide +kernel) (fun _ => rfl) 0 rfl rfl rfl rfl xL.1 rfl (Nat.le_of_ble_eq_true rfl) dX6_shape_58 ⟨Nat.le_refl _, Nat.le_refl _⟩ (fun u_58 H locs h_58 xP xD xS => ?_)
        have xP : va_P G.1 vwCl (List.flatten [[(x0, .inr (6, [.ref na.1, .ref tra.1, .ref h.1, .ref k.1]))], wS G na ((n, o, kf), (tN v1, tN v2, fillF 36 (nI 0) L), (tN v2, tN v3, fillF 36 (nI 0) R), (sr, sc, Z), (b, ta, tb, th, tw, tt, tn, sm0, mt, rw, dn)), wS G tra v, wHf G (h.1, h.2.1, u_32.1, u_32.2.1, u_32.2.2.1, u_32.2.2.2.1) (chgN hn, u_32.2.2.2.2.1, u_32.2.2.2.2.2.1, u_32.2.2.2.2.2.2.1, u_32.2.2.2.2.2.2.2), wX G k w]) H := xP
        have xD : va_D A (List.flatten [[(x0, .inr (6, [.ref na.1, .ref tra.1, .ref h.1, .ref k.1]))], wS G na ((n, o, kf), (tN v1, tN v2, fillF 36 (nI 0) L), (tN v2, tN v3, fillF 36 (nI 0) R), (sr, sc, Z), (b, ta, tb, th, tw, tt, tn, sm0, mt, rw, dn)), wS G tra v, wHf G (h.1, h.2.1, u_32.1, u_32.2.1, u_32.2.2.1, u_32.2.2.2.1) (chgN hn, u_32.2.2.2.2.1, u_32.2.2.2.2.2.1, u_32.2.2.2.2.2.2.1, u_32.2.2.2.2.2.2.2), wX G k w]) := xD
        refine lv_aload_n xE xB dX6_shape_61 rfl (lv_at xL 0 rfl) ?_
        refine va_get (D := G.1) (ci := 6) (v := .ref na.1) (C := RX6) (T := TX6) (N := 4) xE xB xT khX6_shape_X6 xO xK.1 xP 0 rfl rfl 0 (by decide) (xT _ kX6_shape_f10) (fun _ h9 => h9) rfl dX6_shape_62 ?_
        refine va_get (D := G.1) (ci := 3) (v := .ref na.2.2.2.2.2.1) (C := RX3) (T := TX3) (N := 5) xE xB xT khX6_shape_X3 xO xK.1 xP 1 rfl rfl 4 (by decide) (xT _ kX6_shape_f52) (fun _ h9 => h9) rfl dX6_shape_65 ?_
        refine lv_iconst (v := nI 0) xE xB dX6_shape_68 (by decide) ?_
        refine va_put (D := G.1) (ci := 5) (v := .int (nI 0)) (ty := .boolean) (C := RX5) (T := TX5) (N := 11) xE xB xT khX6_shape_X5 tyX5 tyX5_ok nmX5 xO xK.1 xP xD xS 10 rfl rfl 0 (by decide) (xT _ kX6_shape_f56) (fun _ h9 => h9) rfl (by decide +kernel) (by decide) (by decide) (Nat.le_of_ble_eq_true rfl) dX6_shape_69 (fun H locs xP xD xS => ?_)
        have xP : va_P G.1 vwCl (List.flatten [[(x0, .inr (6, [.ref na.1, .ref tra.1, .ref h.1, .ref k.1]))], wS G na ((n, o, kf), (tN v1, tN v2, fillF 36 (nI 0) L), (tN v2, tN v3, fillF 36 (nI 0) R), (sr, sc, Z), (0, ta, tb, th, tw, tt, tn, sm0, mt, rw, dn)), wS G tra v, wHf G (h.1, h.2.1, u_32.1, u_32.2.1, u_32.2.2.1, u_32.2.2.2.1) (chgN hn, u_32.2.2.2.2.1, u_32.2.2.2.2.2.1, u_32.2.2.2.2.2.2.1, u_32.2.2.2.2.2.2.2), wX G k w]) H := xP
        have xD : va_D A (List.flatten [[(x0, .inr (6, [.ref na.1, .ref tra.1, .ref h.1, .ref k.1]))], wS G na ((n, o, kf), (tN v1, tN v2, fillF 36 (nI 0) L), (tN v2, tN v3, fillF 36 (nI 0) R), (sr, sc, Z), (0, ta, tb, th, tw, tt, tn, sm0, mt, rw, dn)), wS G tra v, wHf G (h.1, h.2.1, u_32.1, u_32.2.1, u_32.2.2.1, u_32.2.2.2.1) (chgN hn, u_32.2.2.2.2.1, u_32.2.2.2.2.2.1, u_32.2.2.2.2.2.2.1, u_32.2.2.2.2.2.2.2), wX G k w]) := xD
        refine lv_aload_n xE xB dX6_shape_72 rfl (lv_at xL 0 rfl) ?_
        refine va_get (D := G.1) (ci := 6) (v := .ref na.1) (C := RX6) (T := TX6) (N := 4) xE xB xT khX6_shape_X6 xO xK.1 xP 0 rfl rfl 0 (by decide) (xT _ kX6_shape_f10) (fun _ h9 => h9) rfl dX6_shape_73 ?_
        refine q_VVL (As := []) (rest := []) ⟨xE, xB, xM, xO, xT⟩ (kX3_forgetResults l G na n o kf (tN v1) (tN v2) (fillF 36 (nI 0) L) (tN v2) (tN v3) (fillF 36 (nI 0) R) sr sc Z 0 ta tb th tw tt tn sm0 mt rw dn (by omega) (by omega) (by omega)) (cwV 0 xT gX6_shape_X3_forgetResults rfl rfl rfl (by decide +kernel) ⟨Nat.le_of_ble_eq_true rfl, Nat.le_of_ble_eq_true rfl⟩) xK xP xD xS [1] [0, 2, 3, 4] 5 rfl (by decide) (Lc := [wS G na ((n, o, kf), (tN v1, tN v2, fillF 36 (nI 0) L), (tN v2, tN v3, fillF 36 (nI 0) R), (sr, sc, Z), (0, ta, tb, th, tw, tt, tn, sm0, mt, rw, dn))]) rfl (by simp only [List.flatten_cons, List.flatten_nil, List.append_nil, List.append_assoc]) (fun _ => [[(x0, .inr (6, [.ref na.1, .ref tra.1, .ref h.1, .ref k.1]))], wS G na ((n, o, kf), (tN v1, tN v2, fillF 36 (nI 0) L), (tN v2, tN v3, fillF 36 (nI 0) R), (tN v1, tN v3, fillF 36 NO Z), (0, ta, tb, th, tw, tt, tn, sm0, mt, rw, dn)), wS G tra v, wHf G (h.1, h.2.1, u_32.1, u_32.2.1, u_32.2.2.1, u_32.2.2.2.1) (chgN hn, u_32.2.2.2.2.1, u_32.2.2.2.2.2.1, u_32.2.2.2.2.2.2.1, u_32.2.2.2.2.2.2.2), wX G k w]) (fun _ => [wS G na ((n, o, kf), (tN v1, tN v2, fillF 36 (nI 0) L), (tN v2, tN v3, fillF 36 (nI 0) R), (tN v1, tN v3, fillF 36 NO Z), (0, ta, tb, th, tw, tt, tn, sm0, mt, rw, dn))]) (fun _ => rfl) (fun _ => rfl) (fun _ => by simp only [List.flatten_cons, List.flatten_nil, List.append_nil, List.append_assoc]) (fun _ => rfl) 0 rfl rfl rfl rfl xL.1 rfl (Nat.le_of_ble_eq_true rfl) dX6_shape_76 ⟨Nat.le_refl _, Nat.le_refl _⟩ (fun u_76 H locs h_76 xP xD xS => ?_)
        refine lv_aload_n xE xB dX6_shape_79 rfl (lv_at xL 0 rfl) ?_
        refine va_get (D := G.1) (ci := 6) (v := .ref na.1) (C := RX6) (T := TX6) (N := 4) xE xB xT khX6_shape_X6 xO xK.1 xP 0 rfl rfl 0 (by decide) (xT _ kX6_shape_f10) (fun _ h9 => h9) rfl dX6_shape_80 ?_
        refine q_VRL (As := []) (rest := []) ⟨xE, xB, xM, xO, xT⟩ (kX3_tiles l G na n o kf (tN v1) (tN v2) (fillF 36 (nI 0) L) (tN v2) (tN v3) (fillF 36 (nI 0) R) (tN v1) (tN v3) (fillF 36 NO Z) 0 ta tb th tw tt tn sm0 mt rw dn (by omega) (by omega) (by omega) (by omega)) (cwV 0 xT gX6_shape_X3_tiles rfl rfl rfl (by decide +kernel) ⟨Nat.le_of_ble_eq_true rfl, Nat.le_of_ble_eq_true rfl⟩) xK xP [1] [0, 2, 3, 4] 5 rfl (by decide) (Lc := [wS G na ((n, o, kf), (tN v1, tN v2, fillF 36 (nI 0) L), (tN v2, tN v3, fillF 36 (nI 0) R), (tN v1, tN v3, fillF 36 NO Z), (0, ta, tb, th, tw, tt, tn, sm0, mt, rw, dn))]) rfl (by simp only [List.flatten_cons, List.flatten_nil, List.append_nil, List.append_assoc]) 0 rfl rfl rfl rfl xL.1 rfl (Nat.le_of_ble_eq_true rfl) dX6_shape_83 ⟨Nat.le_refl _, Nat.le_refl _⟩ (fun r_83 h_83 => ?_)
        obtain rfl : r_83 = nI (tls (tN v1) n * tls (tN v3) n) := h_83
        exact xQ _ _ _ _ _ (((n, o, kf), (tN v1, tN v2, fillF 36 (nI 0) L), (tN v2, tN v3, fillF 36 (nI 0) R), (tN v1, tN v3, fillF 36 NO Z), (0, ta, tb, th, tw, tt, tn, sm0, mt, rw, dn)), u_32.1, u_32.2.1, u_32.2.2.1, u_32.2.2.2.1, (chgN hn, u_32.2.2.2.2.1, u_32.2.2.2.2.2.1, u_32.2.2.2.2.2.2.1, u_32.2.2.2.2.2.2.2)) (by rw [show opShape n v1 v2 v3 s pst hn = (nI (tls (tN v1) n * tls (tN v3) n), shapeF (tN v1) (tN v2) (tN v3) s, chgP s pst hn, chgN hn) from if_pos (by omega)]; exact ⟨rfl, rel_shape hR (by omega) (by omega) (by omega), rfl, chgN_4 hh, h_32⟩) xP xD xS dX6_shape_86
      · skip
        subst h_15
        have c_15 : ¬ (∃ j, 1 ≤ j ∧ j ≤ 6 ∧ v3 = nI j) := c_15
        refine lv_if_ne (tgt := 24) xE xB dX6_shape_18 (by decide) (fun h9 => absurd (by decide) h9) (fun _ => ?_)
        refine lv_ldc (v := (-1000001)) xE xB xO (xT _ kX6_shape_c33) dX6_shape_21 ?_
        exact xQ _ _ _ _ _ (((n, o, kf), (lr, lc, L), (rr, rc, R), (sr, sc, Z), (b, ta, tb, th, tw, tt, tn, sm0, mt, rw, dn)), h.2.2.1, h.2.2.2.1, h.2.2.2.2.1, h.2.2.2.2.2, (hn, u0, u1, u2, u3)) (by (try rw [isL] at c_1); (try rw [isL] at c_8); (try rw [isL] at c_15); rw [show opShape n v1 v2 v3 s pst hn = (kINV, s, pst, hn) from if_neg (by omega)]; exact ⟨rfl, hR, rfl, hh, hH⟩) xP xD xS dX6_shape_23
    · skip
      subst h_8
      have c_8 : ¬ (∃ j, 1 ≤ j ∧ j ≤ 6 ∧ v2 = nI j) := c_8
      refine lv_if_eq (tgt := 21) xE xB dX6_shape_11 (by decide) (fun _ => ?_) (fun h9 => absurd (by decide) h9)
      refine lv_ldc (v := (-1000001)) xE xB xO (xT _ kX6_shape_c33) dX6_shape_21 ?_
      exact xQ _ _ _ _ _ (((n, o, kf), (lr, lc, L), (rr, rc, R), (sr, sc, Z), (b, ta, tb, th, tw, tt, tn, sm0, mt, rw, dn)), h.2.2.1, h.2.2.2.1, h.2.2.2.2.1, h.2.2.2.2.2, (hn, u0, u1, u2, u3)) (by (try rw [isL] at c_1); (try rw [isL] at c_8); (try rw [isL] at c_15); rw [show opShape n v1 v2 v3 s pst hn = (kINV, s, pst, hn) from if_neg (by omega)]; exact ⟨rfl, hR, rfl, hh, hH⟩) xP xD xS dX6_shape_23
  · skip
    subst h_1
    have c_1 : ¬ (∃ j, 1 ≤ j ∧ j ≤ 6 ∧ v1 = nI j) := c_1
    refine lv_if_eq (tgt := 21) xE xB dX6_shape_4 (by decide) (fun _ => ?_) (fun h9 => absurd (by decide) h9)
    refine lv_ldc (v := (-1000001)) xE xB xO (xT _ kX6_shape_c33) dX6_shape_21 ?_
    exact xQ _ _ _ _ _ (((n, o, kf), (lr, lc, L), (rr, rc, R), (sr, sc, Z), (b, ta, tb, th, tw, tt, tn, sm0, mt, rw, dn)), h.2.2.1, h.2.2.2.1, h.2.2.2.2.1, h.2.2.2.2.2, (hn, u0, u1, u2, u3)) (by (try rw [isL] at c_1); (try rw [isL] at c_8); (try rw [isL] at c_15); rw [show opShape n v1 v2 v3 s pst hn = (kINV, s, pst, hn) from if_neg (by omega)]; exact ⟨rfl, hR, rfl, hh, hH⟩) xP xD xS dX6_shape_23
theorem kX6_setEntry_c33 : Cond.constant RX6 33 (-1000001) ∈ wsX6_setEntry := by decide +kernel
theorem kX6_setEntry_c93 : Cond.constant RX6 93 (-1000002) ∈ wsX6_setEntry := by decide +kernel
theorem kX6_setEntry_f10 : Cond.fieldLink RX6 10 "SkewedSquare" "now" "LSkewedSquare$State;" ∈ wsX6_setEntry := by decide +kernel
theorem kX6_setEntry_f22 : Cond.fieldLink RX6 22 "SkewedSquare" "history" "LSkewedSquare$History;" ∈ wsX6_setEntry := by decide +kernel
theorem kX6_setEntry_f52 : Cond.fieldLink RX6 52 "SkewedSquare$State" "tile" "LSkewedSquare$Tile;" ∈ wsX6_setEntry := by decide +kernel
theorem kX6_setEntry_f56 : Cond.fieldLink RX6 56 "SkewedSquare$Tile" "begun" "Z" ∈ wsX6_setEntry := by decide +kernel
theorem khX6_setEntry_X3 : ∀ w ∈ u_ws RX3 TX3 5, w ∈ wsX6_setEntry := by decide +kernel
theorem khX6_setEntry_X5 : ∀ w ∈ u_ws RX5 TX5 11, w ∈ wsX6_setEntry := by decide +kernel
theorem khX6_setEntry_X6 : ∀ w ∈ u_ws RX6 TX6 4, w ∈ wsX6_setEntry := by decide +kernel
set_option maxHeartbeats 4000000 in
set_option maxRecDepth 100000 in
/-- kX6_setEntryL -/
theorem kX6_setEntryL (l : Launch) (G : wG) (x0 : Nat) (na tra : SA) (h : HA) (k : XA) (n o : Nat) (kf : wF) (lr lc : Nat) (L : wF) (rr rc : Nat) (R : wF) (sr sc : Nat) (Z : wF) (b ta tb th tw tt tn : Nat) (sm0 mt rw dn : wF) (v : SD) (hn : Nat) (u0 u1 u2 u3 : SD) (w : XD) (s : wF) (pst : PF) (v1 v2 v3 : Int32) (hR : RelS ((n, o, kf), (lr, lc, L), (rr, rc, R), (sr, sc, Z), (b, ta, tb, th, tw, tt, tn, sm0, mt, rw, dn)) s) (hh : hn ≤ 4) (hH : HRel hn u0 u1 u2 u3 pst) : CI (S := CS) l yX6_setEntry wsX6_setEntry (rm 4 81) G [.ref x0, .ref na.2.2.1.1, .int v1, .int v2, .int v3] (List.flatten [[((x0, na.1, tra.1, h.1, k.1).1, .inr (6, [.ref ((x0, na.1, tra.1, h.1, k.1).2.1), .ref ((x0, na.1, tra.1, h.1, k.1).2.2.1), .ref ((x0, na.1, tra.1, h.1, k.1).2.2.2.1), .ref ((x0, na.1, tra.1, h.1, k.1).2.2.2.2)]))], wS G na ((n, o, kf), (lr, lc, L), (rr, rc, R), (sr, sc, Z), (b, ta, tb, th, tw, tt, tn, sm0, mt, rw, dn)), wS G tra v, wHf G h (hn, u0, u1, u2, u3), wX G k w]) (fun x u9 => PO x u9 (opSet 0 lr lc b v1 v2 v3 s pst hn)) (fun u9 => List.flatten [[((x0, na.1, tra.1, h.1, k.1).1, .inr (6, [.ref ((x0, na.1, tra.1, h.1, k.1).2.1), .ref ((x0, na.1, tra.1, h.1, k.1).2.2.1), .ref ((x0, na.1, tra.1, h.1, k.1).2.2.2.1), .ref ((x0, na.1, tra.1, h.1, k.1).2.2.2.2)]))], wS G na u9.1, wS G tra v, wHf G (h.1, h.2.1, u9.2.1, u9.2.2.1, u9.2.2.2.1, u9.2.2.2.2.1) u9.2.2.2.2.2, wX G k w]) := by
  refine CI.of (own := RX6) rfl (by decide) rfl (Nat.le_of_ble_eq_true rfl) ?_
  intro p9 e9 s9 m9 b9 t9 c9 A xE xB xM xO xT xK xP xD Q xQ xS ls hl
  have xL : lv_has ls 6 [(0, .ref x0), (1, .ref na.2.2.1.1), (2, .int v1), (3, .int v2), (4, .int v3)] := hl
  obtain ⟨hn1, hn2, hn3⟩ := hR.1.2.2.1
  obtain ⟨hm1, hm2, hm3, hm4, hm5, hm6⟩ := hR.2.2.1.2.2.2.1
  obtain ⟨hd1, hd2, hd3⟩ := hR.2.2.2.1
  have hb1 := hR.2.2.2.2.2.1.1
  refine lv_aload_n xE xB dX6_setEntry_0 rfl (lv_at xL 1 rfl) ?_
  refine lv_iload_n xE xB dX6_setEntry_1 rfl (lv_at xL 2 rfl) ?_
  refine lv_iload_n xE xB dX6_setEntry_2 rfl (lv_at xL 3 rfl) ?_
  refine q_VR (As := [.int v1, .int v2]) (rest := []) ⟨xE, xB, xM, xO, xT⟩ (kX1_has l G na.2.2.1 lr lc L v1 v2 (by omega) (by omega)) (cwV 2 xT gX6_setEntry_X1_has rfl rfl rfl (by decide +kernel) ⟨Nat.le_of_ble_eq_true rfl, Nat.le_of_ble_eq_true rfl⟩) xK xP [4, 5] rfl 0 rfl rfl rfl rfl xL.1 rfl (Nat.le_of_ble_eq_true rfl) dX6_setEntry_3 ⟨Nat.le_refl _, Nat.le_refl _⟩ (fun r_3 h_3 => ?_)
  rcases h_3 with ⟨h_3, c_3⟩ | ⟨h_3, c_3⟩
  · skip
    subst h_3
    have c_3 : vp_in v1 lr ∧ vp_in v2 lc := c_3
    refine lv_if_eq (tgt := 23) xE xB dX6_setEntry_6 (by decide) (fun h9 => absurd h9 (by decide)) (fun _ => ?_)
    refine lv_iload xE xB dX6_setEntry_9 (lv_at xL 4 rfl) ?_
    refine lv_bipush (v := (-99)) xE xB dX6_setEntry_11 (by decide) ?_
    refine lv_icmp_lt (tgt := 23) xE xB dX6_setEntry_13 (by decide) (fun c_13 => ?_) (fun c_13 => ?_)
    · skip
      refine lv_ldc (v := (-1000001)) xE xB xO (xT _ kX6_setEntry_c33) dX6_setEntry_23 ?_
      exact xQ _ _ _ _ _ (((n, o, kf), (lr, lc, L), (rr, rc, R), (sr, sc, Z), (b, ta, tb, th, tw, tt, tn, sm0, mt, rw, dn)), h.2.2.1, h.2.2.2.1, h.2.2.2.2.1, h.2.2.2.2.2, (hn, u0, u1, u2, u3)) (by (try rw [vp_in_iff, vp_in_iff] at c_3); (try (first | replace c_13 := ti_l99 c_13 | replace c_13 := ti_n99 c_13)); (try (first | replace c_20 := ti_neg c_20 | replace c_20 := ti_nneg c_20 | replace c_20 := ti_lt c_20 | replace c_20 := ti_nlt c_20 | replace c_20 := ti_gt c_20 | replace c_20 := ti_ngt c_20 | replace c_20 := ti_le c_20 | replace c_20 := ti_nle c_20 | replace c_20 := ti_ge c_20 | replace c_20 := ti_nge c_20 | replace c_20 := ti_z c_20 | replace c_20 := ti_nz c_20 | replace c_20 := ti_eq c_20 | replace c_20 := ti_ne c_20)); rw [show opSet 0 lr lc b v1 v2 v3 s pst hn = (kINV, s, pst, hn) from if_neg (by omega)]; exact ⟨rfl, hR, rfl, hh, hH⟩) xP xD xS dX6_setEntry_25
    · skip
      refine lv_iload xE xB dX6_setEntry_16 (lv_at xL 4 rfl) ?_
      refine lv_bipush (v := nI 99) xE xB dX6_setEntry_18 (by decide) ?_
      refine lv_icmp_le (tgt := 26) xE xB dX6_setEntry_20 (by decide) (fun c_20 => ?_) (fun c_20 => ?_)
      · skip
        (try rw [vp_in_iff, vp_in_iff] at c_3)
        (try (first | replace c_13 := ti_l99 c_13 | replace c_13 := ti_n99 c_13))
        (try (first | replace c_20 := ti_neg c_20 | replace c_20 := ti_nneg c_20 | replace c_20 := ti_lt c_20 | replace c_20 := ti_nlt c_20 | replace c_20 := ti_gt c_20 | replace c_20 := ti_ngt c_20 | replace c_20 := ti_le c_20 | replace c_20 := ti_nle c_20 | replace c_20 := ti_ge c_20 | replace c_20 := ti_nge c_20 | replace c_20 := ti_z c_20 | replace c_20 := ti_nz c_20 | replace c_20 := ti_eq c_20 | replace c_20 := ti_ne c_20))
        refine lv_aload_n xE xB dX6_setEntry_26 rfl (lv_at xL 0 rfl) ?_
        refine va_get (D := G.1) (ci := 6) (v := .ref na.1) (C := RX6) (T := TX6) (N := 4) xE xB xT khX6_setEntry_X6 xO xK.1 xP 0 rfl rfl 0 (by decide) (xT _ kX6_setEntry_f10) (fun _ h9 => h9) rfl dX6_setEntry_27 ?_
        refine va_get (D := G.1) (ci := 3) (v := .ref na.2.2.2.2.2.1) (C := RX3) (T := TX3) (N := 5) xE xB xT khX6_setEntry_X3 xO xK.1 xP 1 rfl rfl 4 (by decide) (xT _ kX6_setEntry_f52) (fun _ h9 => h9) rfl dX6_setEntry_30 ?_
        refine va_get (D := G.1) (ci := 5) (v := .int (nI b)) (C := RX5) (T := TX5) (N := 11) xE xB xT khX6_setEntry_X5 xO xK.1 xP 10 rfl rfl 0 (by decide) (xT _ kX6_setEntry_f56) (fun _ h9 => h9) rfl dX6_setEntry_33 ?_
        refine q_if_eq (tgt := 42) xE xB dX6_setEntry_36 (by decide) (by omega) (fun c_36 => ?_) (fun c_36 => ?_)
        · skip
          have e_v1 : v1 = nI (tN v1) := tN_eq (by omega)
          have b_v1 : (tN v1 : Int) = v1.toInt := tN_z (by omega)
          rw [e_v1] at xL
          have xL : lv_has ls 6 [(0, .ref x0), (1, .ref na.2.2.1.1), (2, .int (nI (tN v1))), (3, .int v2), (4, .int v3)] := xL
          have e_v2 : v2 = nI (tN v2) := tN_eq (by omega)
          have b_v2 : (tN v2 : Int) = v2.toInt := tN_z (by omega)
          rw [e_v2] at xL
          have xL : lv_has ls 6 [(0, .ref x0), (1, .ref na.2.2.1.1), (2, .int (nI (tN v1))), (3, .int (nI (tN v2))), (4, .int v3)] := xL
          refine lv_aload_n xE xB dX6_setEntry_42 rfl (lv_at xL 0 rfl) ?_
          refine va_get (D := G.1) (ci := 6) (v := .ref h.1) (C := RX6) (T := TX6) (N := 4) xE xB xT khX6_setEntry_X6 xO xK.1 xP 0 rfl rfl 2 (by decide) (xT _ kX6_setEntry_f22) (fun _ h9 => h9) rfl dX6_setEntry_43 ?_
          refine lv_aload_n xE xB dX6_setEntry_46 rfl (lv_at xL 0 rfl) ?_
          refine va_get (D := G.1) (ci := 6) (v := .ref na.1) (C := RX6) (T := TX6) (N := 4) xE xB xT khX6_setEntry_X6 xO xK.1 xP 0 rfl rfl 0 (by decide) (xT _ kX6_setEntry_f10) (fun _ h9 => h9) rfl dX6_setEntry_47 ?_
          refine q_VVL (As := [.ref na.1]) (rest := []) ⟨xE, xB, xM, xO, xT⟩ (kX0_remember l G h hn u0 u1 u2 u3 na ((n, o, kf), (lr, lc, L), (rr, rc, R), (sr, sc, Z), (b, ta, tb, th, tw, tt, tn, sm0, mt, rw, dn)) pst s (by exact hh) (by exact hH) (by exact hR)) (cwV 1 xT gX6_setEntry_X0_remember rfl rfl rfl (by decide +kernel) ⟨Nat.le_of_ble_eq_true rfl, Nat.le_of_ble_eq_true rfl⟩) xK xP xD xS [3, 1] [0, 2, 4] 5 rfl (by decide) (Lc := [wHf G h (hn, u0, u1, u2, u3), wS G na ((n, o, kf), (lr, lc, L), (rr, rc, R), (sr, sc, Z), (b, ta, tb, th, tw, tt, tn, sm0, mt, rw, dn))]) rfl (by simp only [List.flatten_cons, List.flatten_nil, List.append_nil, List.append_assoc]) (fun u_50 => [[(x0, .inr (6, [.ref na.1, .ref tra.1, .ref h.1, .ref k.1]))], wS G na ((n, o, kf), (lr, lc, L), (rr, rc, R), (sr, sc, Z), (b, ta, tb, th, tw, tt, tn, sm0, mt, rw, dn)), wS G tra v, wHf G (h.1, h.2.1, u_50.1, u_50.2.1, u_50.2.2.1, u_50.2.2.2.1) (chgN hn, u_50.2.2.2.2.1, u_50.2.2.2.2.2.1, u_50.2.2.2.2.2.2.1, u_50.2.2.2.2.2.2.2), wX G k w]) (fun u_50 => [wHf G (h.1, h.2.1, u_50.1, u_50.2.1, u_50.2.2.1, u_50.2.2.2.1) (chgN hn, u_50.2.2.2.2.1, u_50.2.2.2.2.2.1, u_50.2.2.2.2.2.2.1, u_50.2.2.2.2.2.2.2), wS G na ((n, o, kf), (lr, lc, L), (rr, rc, R), (sr, sc, Z), (b, ta, tb, th, tw, tt, tn, sm0, mt, rw, dn))]) (fun _ => rfl) (fun _ => rfl) (fun _ => by simp only [List.flatten_cons, List.flatten_nil, List.append_nil, List.append_assoc]) (fun _ => rfl) 0 rfl rfl rfl rfl xL.1 rfl (Nat.le_of_ble_eq_true rfl) dX6_setEntry_50 ⟨Nat.le_refl _, Nat.le_refl _⟩ (fun u_50 H locs h_50 xP xD xS => ?_)
          have h_50 : HRel (chgN hn) u_50.2.2.2.2.1 u_50.2.2.2.2.2.1 u_50.2.2.2.2.2.2.1 u_50.2.2.2.2.2.2.2 (chgP s pst hn) := h_50
          refine lv_aload_n xE xB dX6_setEntry_53 rfl (lv_at xL 1 rfl) ?_
          refine lv_iload_n xE xB dX6_setEntry_54 rfl (lv_at xL 2 rfl) ?_
          refine lv_iload_n xE xB dX6_setEntry_55 rfl (lv_at xL 3 rfl) ?_
          refine q_VR (As := [.int (nI (tN v1)), .int (nI (tN v2))]) (rest := []) ⟨xE, xB, xM, xO, xT⟩ (kX1_at l G na.2.2.1 lr lc L (tN v1) (tN v2) (by omega) (by omega) (by omega) (by omega)) (cwV 2 xT gX6_setEntry_X1_at rfl rfl rfl (by decide +kernel) ⟨Nat.le_of_ble_eq_true rfl, Nat.le_of_ble_eq_true rfl⟩) xK xP [4, 5] rfl 0 rfl rfl rfl rfl xL.1 rfl (Nat.le_of_ble_eq_true rfl) dX6_setEntry_56 ⟨Nat.le_refl _, Nat.le_refl _⟩ (fun r_56 h_56 => ?_)
          obtain rfl : r_56 = L (6 * (tN v1) + (tN v2)) := h_56
          refine lv_istore (lv' := [(5, .int (L (6 * (tN v1) + (tN v2)))), (0, .ref x0), (1, .ref na.2.2.1.1), (2, .int (nI (tN v1))), (3, .int (nI (tN v2))), (4, .int v3)]) xE xB dX6_setEntry_59 xL (by decide) rfl (fun ls xL => ?_)
          refine lv_aload_n xE xB dX6_setEntry_61 rfl (lv_at xL 2 rfl) ?_
          refine lv_iload_n xE xB dX6_setEntry_62 rfl (lv_at xL 3 rfl) ?_
          refine lv_iload_n xE xB dX6_setEntry_63 rfl (lv_at xL 4 rfl) ?_
          refine lv_iload xE xB dX6_setEntry_64 (lv_at xL 5 rfl) ?_
          refine q_VV (As := [.int (nI (tN v1)), .int (nI (tN v2)), .int v3]) (rest := []) ⟨xE, xB, xM, xO, xT⟩ (kX1_put l G na.2.2.1 lr lc L (tN v1) (tN v2) v3 (by omega) (by omega) (by omega) (by omega)) (cwV 3 xT gX6_setEntry_X1_put rfl rfl rfl (by decide +kernel) ⟨Nat.le_of_ble_eq_true rfl, Nat.le_of_ble_eq_true rfl⟩) xK xP xD xS [4, 5] rfl (by decide +kernel) (fun _ => rfl) 0 rfl rfl rfl rfl xL.1 rfl (Nat.le_of_ble_eq_true rfl) dX6_setEntry_66 ⟨Nat.le_refl _, Nat.le_refl _⟩ (fun u_66 H locs h_66 xP xD xS => ?_)
          have xP : va_P G.1 vwCl (List.flatten [[(x0, .inr (6, [.ref na.1, .ref tra.1, .ref h.1, .ref k.1]))], wS G na ((n, o, kf), (lr, lc, upd L (6 * (tN v1) + (tN v2)) v3), (rr, rc, R), (sr, sc, Z), (b, ta, tb, th, tw, tt, tn, sm0, mt, rw, dn)), wS G tra v, wHf G (h.1, h.2.1, u_50.1, u_50.2.1, u_50.2.2.1, u_50.2.2.2.1) (chgN hn, u_50.2.2.2.2.1, u_50.2.2.2.2.2.1, u_50.2.2.2.2.2.2.1, u_50.2.2.2.2.2.2.2), wX G k w]) H := xP
          have xD : va_D A (List.flatten [[(x0, .inr (6, [.ref na.1, .ref tra.1, .ref h.1, .ref k.1]))], wS G na ((n, o, kf), (lr, lc, upd L (6 * (tN v1) + (tN v2)) v3), (rr, rc, R), (sr, sc, Z), (b, ta, tb, th, tw, tt, tn, sm0, mt, rw, dn)), wS G tra v, wHf G (h.1, h.2.1, u_50.1, u_50.2.1, u_50.2.2.1, u_50.2.2.2.1) (chgN hn, u_50.2.2.2.2.1, u_50.2.2.2.2.2.1, u_50.2.2.2.2.2.2.1, u_50.2.2.2.2.2.2.2), wX G k w]) := xD
          refine lv_aload_n xE xB dX6_setEntry_69 rfl (lv_at xL 1 rfl) ?_
          refine va_get (D := G.1) (ci := 6) (v := .ref na.1) (C := RX6) (T := TX6) (N := 4) xE xB xT khX6_setEntry_X6 xO xK.1 xP 0 rfl rfl 0 (by decide) (xT _ kX6_setEntry_f10) (fun _ h9 => h9) rfl dX6_setEntry_70 ?_
          refine q_VVL (As := []) (rest := []) ⟨xE, xB, xM, xO, xT⟩ (kX3_forgetResults l G na n o kf lr lc (upd L (6 * (tN v1) + (tN v2)) v3) rr rc R sr sc Z b ta tb th tw tt tn sm0 mt rw dn (by omega) (by omega) (by omega)) (cwV 0 xT gX6_setEntry_X3_forgetResults rfl rfl rfl (by decide +kernel) ⟨Nat.le_of_ble_eq_true rfl, Nat.le_of_ble_eq_true rfl⟩) xK xP xD xS [1] [0, 2, 3, 4] 5 rfl (by decide) (Lc := [wS G na ((n, o, kf), (lr, lc, upd L (6 * (tN v1) + (tN v2)) v3), (rr, rc, R), (sr, sc, Z), (b, ta, tb, th, tw, tt, tn, sm0, mt, rw, dn))]) rfl (by simp only [List.flatten_cons, List.flatten_nil, List.append_nil, List.append_assoc]) (fun _ => [[(x0, .inr (6, [.ref na.1, .ref tra.1, .ref h.1, .ref k.1]))], wS G na ((n, o, kf), (lr, lc, upd L (6 * (tN v1) + (tN v2)) v3), (rr, rc, R), (lr, rc, fillF 36 NO Z), (b, ta, tb, th, tw, tt, tn, sm0, mt, rw, dn)), wS G tra v, wHf G (h.1, h.2.1, u_50.1, u_50.2.1, u_50.2.2.1, u_50.2.2.2.1) (chgN hn, u_50.2.2.2.2.1, u_50.2.2.2.2.2.1, u_50.2.2.2.2.2.2.1, u_50.2.2.2.2.2.2.2), wX G k w]) (fun _ => [wS G na ((n, o, kf), (lr, lc, upd L (6 * (tN v1) + (tN v2)) v3), (rr, rc, R), (lr, rc, fillF 36 NO Z), (b, ta, tb, th, tw, tt, tn, sm0, mt, rw, dn))]) (fun _ => rfl) (fun _ => rfl) (fun _ => by simp only [List.flatten_cons, List.flatten_nil, List.append_nil, List.append_assoc]) (fun _ => rfl) 0 rfl rfl rfl rfl xL.1 rfl (Nat.le_of_ble_eq_true rfl) dX6_setEntry_73 ⟨Nat.le_refl _, Nat.le_refl _⟩ (fun u_73 H locs h_73 xP xD xS => ?_)
          refine lv_iload xE xB dX6_setEntry_76 (lv_at xL 0 rfl) ?_
          exact xQ _ _ _ _ _ (((n, o, kf), (lr, lc, upd L (6 * (tN v1) + (tN v2)) v3), (rr, rc, R), (lr, rc, fillF 36 NO Z), (b, ta, tb, th, tw, tt, tn, sm0, mt, rw, dn)), u_50.1, u_50.2.1, u_50.2.2.1, u_50.2.2.2.1, (chgN hn, u_50.2.2.2.2.1, u_50.2.2.2.2.2.1, u_50.2.2.2.2.2.2.1, u_50.2.2.2.2.2.2.2)) (by rw [show opSet 0 lr lc b v1 v2 v3 s pst hn = (s (9 + 36 * 0 + 6 * tN v1 + tN v2), clr 117 36 (upd s (9 + 36 * 0 + 6 * tN v1 + tN v2) v3), chgP s pst hn, chgN hn) from (if_pos (by omega)).trans (if_neg (by omega))]; exact ⟨get_L hR (by omega), rel_setL hR (by omega) (by omega) (by omega) (by unfold bV; omega), rfl, chgN_4 hh, h_50⟩) xP xD xS dX6_setEntry_78
        · skip
          refine lv_ldc (v := (-1000002)) xE xB xO (xT _ kX6_setEntry_c93) dX6_setEntry_39 ?_
          exact xQ _ _ _ _ _ (((n, o, kf), (lr, lc, L), (rr, rc, R), (sr, sc, Z), (b, ta, tb, th, tw, tt, tn, sm0, mt, rw, dn)), h.2.2.1, h.2.2.2.1, h.2.2.2.2.1, h.2.2.2.2.2, (hn, u0, u1, u2, u3)) (by rw [show opSet 0 lr lc b v1 v2 v3 s pst hn = (kNP, s, pst, hn) from (if_pos (by omega)).trans (if_pos (by omega))]; exact ⟨rfl, hR, rfl, hh, hH⟩) xP xD xS dX6_setEntry_41
      · skip
        refine lv_ldc (v := (-1000001)) xE xB xO (xT _ kX6_setEntry_c33) dX6_setEntry_23 ?_
        exact xQ _ _ _ _ _ (((n, o, kf), (lr, lc, L), (rr, rc, R), (sr, sc, Z), (b, ta, tb, th, tw, tt, tn, sm0, mt, rw, dn)), h.2.2.1, h.2.2.2.1, h.2.2.2.2.1, h.2.2.2.2.2, (hn, u0, u1, u2, u3)) (by (try rw [vp_in_iff, vp_in_iff] at c_3); (try (first | replace c_13 := ti_l99 c_13 | replace c_13 := ti_n99 c_13)); (try (first | replace c_20 := ti_neg c_20 | replace c_20 := ti_nneg c_20 | replace c_20 := ti_lt c_20 | replace c_20 := ti_nlt c_20 | replace c_20 := ti_gt c_20 | replace c_20 := ti_ngt c_20 | replace c_20 := ti_le c_20 | replace c_20 := ti_nle c_20 | replace c_20 := ti_ge c_20 | replace c_20 := ti_nge c_20 | replace c_20 := ti_z c_20 | replace c_20 := ti_nz c_20 | replace c_20 := ti_eq c_20 | replace c_20 := ti_ne c_20)); rw [show opSet 0 lr lc b v1 v2 v3 s pst hn = (kINV, s, pst, hn) from if_neg (by omega)]; exact ⟨rfl, hR, rfl, hh, hH⟩) xP xD xS dX6_setEntry_25
  · skip
    subst h_3
    have c_3 : ¬ (vp_in v1 lr ∧ vp_in v2 lc) := c_3
    refine lv_if_eq (tgt := 23) xE xB dX6_setEntry_6 (by decide) (fun _ => ?_) (fun h9 => absurd (by decide) h9)
    refine lv_ldc (v := (-1000001)) xE xB xO (xT _ kX6_setEntry_c33) dX6_setEntry_23 ?_
    exact xQ _ _ _ _ _ (((n, o, kf), (lr, lc, L), (rr, rc, R), (sr, sc, Z), (b, ta, tb, th, tw, tt, tn, sm0, mt, rw, dn)), h.2.2.1, h.2.2.2.1, h.2.2.2.2.1, h.2.2.2.2.2, (hn, u0, u1, u2, u3)) (by (try rw [vp_in_iff, vp_in_iff] at c_3); (try (first | replace c_13 := ti_l99 c_13 | replace c_13 := ti_n99 c_13)); (try (first | replace c_20 := ti_neg c_20 | replace c_20 := ti_nneg c_20 | replace c_20 := ti_lt c_20 | replace c_20 := ti_nlt c_20 | replace c_20 := ti_gt c_20 | replace c_20 := ti_ngt c_20 | replace c_20 := ti_le c_20 | replace c_20 := ti_nle c_20 | replace c_20 := ti_ge c_20 | replace c_20 := ti_nge c_20 | replace c_20 := ti_z c_20 | replace c_20 := ti_nz c_20 | replace c_20 := ti_eq c_20 | replace c_20 := ti_ne c_20)); rw [show opSet 0 lr lc b v1 v2 v3 s pst hn = (kINV, s, pst, hn) from if_neg (by omega)]; exact ⟨rfl, hR, rfl, hh, hH⟩) xP xD xS dX6_setEntry_25
theorem kX6_left_f10 : Cond.fieldLink RX6 10 "SkewedSquare" "now" "LSkewedSquare$State;" ∈ wsX6_left := by decide +kernel
theorem kX6_left_f69 : Cond.fieldLink RX6 69 "SkewedSquare$State" "leftMatrix" "LSkewedSquare$Matrix;" ∈ wsX6_left := by decide +kernel
theorem khX6_left_X3 : ∀ w ∈ u_ws RX3 TX3 5, w ∈ wsX6_left := by decide +kernel
theorem khX6_left_X6 : ∀ w ∈ u_ws RX6 TX6 4, w ∈ wsX6_left := by decide +kernel
set_option maxHeartbeats 4000000 in
set_option maxRecDepth 100000 in
/-- kX6_left -/
theorem kX6_left (l : Launch) (G : wG) (x0 : Nat) (na tra : SA) (h : HA) (k : XA) (n o : Nat) (kf : wF) (lr lc : Nat) (L : wF) (rr rc : Nat) (R : wF) (sr sc : Nat) (Z : wF) (b ta tb th tw tt tn : Nat) (sm0 mt rw dn : wF) (v : SD) (hn : Nat) (u0 u1 u2 u3 : SD) (w : XD) (s : wF) (pst : PF) (v1 v2 v3 : Int32) (hR : RelS ((n, o, kf), (lr, lc, L), (rr, rc, R), (sr, sc, Z), (b, ta, tb, th, tw, tt, tn, sm0, mt, rw, dn)) s) (hh : hn ≤ 4) (hH : HRel hn u0 u1 u2 u3 pst) : CI (S := CS) l yX6_left wsX6_left (rm 5 106) G [.ref x0, .int v1, .int v2, .int v3] (List.flatten [[((x0, na.1, tra.1, h.1, k.1).1, .inr (6, [.ref ((x0, na.1, tra.1, h.1, k.1).2.1), .ref ((x0, na.1, tra.1, h.1, k.1).2.2.1), .ref ((x0, na.1, tra.1, h.1, k.1).2.2.2.1), .ref ((x0, na.1, tra.1, h.1, k.1).2.2.2.2)]))], wS G na ((n, o, kf), (lr, lc, L), (rr, rc, R), (sr, sc, Z), (b, ta, tb, th, tw, tt, tn, sm0, mt, rw, dn)), wS G tra v, wHf G h (hn, u0, u1, u2, u3), wX G k w]) (fun x u9 => PO x u9 (opSet 0 lr lc b v1 v2 v3 s pst hn)) (fun u9 => List.flatten [[((x0, na.1, tra.1, h.1, k.1).1, .inr (6, [.ref ((x0, na.1, tra.1, h.1, k.1).2.1), .ref ((x0, na.1, tra.1, h.1, k.1).2.2.1), .ref ((x0, na.1, tra.1, h.1, k.1).2.2.2.1), .ref ((x0, na.1, tra.1, h.1, k.1).2.2.2.2)]))], wS G na u9.1, wS G tra v, wHf G (h.1, h.2.1, u9.2.1, u9.2.2.1, u9.2.2.2.1, u9.2.2.2.2.1) u9.2.2.2.2.2, wX G k w]) := by
  refine CI.of (own := RX6) rfl (by decide) rfl (Nat.le_of_ble_eq_true rfl) ?_
  intro p9 e9 s9 m9 b9 t9 c9 A xE xB xM xO xT xK xP xD Q xQ xS ls hl
  have xL : lv_has ls 4 [(0, .ref x0), (1, .int v1), (2, .int v2), (3, .int v3)] := hl
  obtain ⟨hn1, hn2, hn3⟩ := hR.1.2.2.1
  obtain ⟨hm1, hm2, hm3, hm4, hm5, hm6⟩ := hR.2.2.1.2.2.2.1
  obtain ⟨hd1, hd2, hd3⟩ := hR.2.2.2.1
  have hb1 := hR.2.2.2.2.2.1.1
  refine lv_aload_n xE xB dX6_left_0 rfl (lv_at xL 0 rfl) ?_
  refine lv_aload_n xE xB dX6_left_1 rfl (lv_at xL 0 rfl) ?_
  refine va_get (D := G.1) (ci := 6) (v := .ref na.1) (C := RX6) (T := TX6) (N := 4) xE xB xT khX6_left_X6 xO xK.1 xP 0 rfl rfl 0 (by decide) (xT _ kX6_left_f10) (fun _ h9 => h9) rfl dX6_left_2 ?_
  refine va_get (D := G.1) (ci := 3) (v := .ref na.2.2.1.1) (C := RX3) (T := TX3) (N := 5) xE xB xT khX6_left_X3 xO xK.1 xP 1 rfl rfl 1 (by decide) (xT _ kX6_left_f69) (fun _ h9 => h9) rfl dX6_left_5 ?_
  refine lv_iload_n xE xB dX6_left_8 rfl (lv_at xL 1 rfl) ?_
  refine lv_iload_n xE xB dX6_left_9 rfl (lv_at xL 2 rfl) ?_
  refine lv_iload_n xE xB dX6_left_10 rfl (lv_at xL 3 rfl) ?_
  refine q_VIL (As := [.ref na.2.2.1.1, .int v1, .int v2, .int v3]) (rest := []) ⟨xE, xB, xM, xO, xT⟩ (kX6_setEntryL l G x0 na tra h k n o kf lr lc L rr rc R sr sc Z b ta tb th tw tt tn sm0 mt rw dn v hn u0 u1 u2 u3 w s pst v1 v2 v3 (by exact hR) (by exact hh) (by exact hH)) (cwV 4 xT gX6_left_X6_setEntry rfl rfl rfl (by decide +kernel) ⟨Nat.le_of_ble_eq_true rfl, Nat.le_of_ble_eq_true rfl⟩) xK xP xD xS [0, 1, 2, 3, 4] [] 5 rfl (by decide) (Lc := [[(x0, .inr (6, [.ref na.1, .ref tra.1, .ref h.1, .ref k.1]))], wS G na ((n, o, kf), (lr, lc, L), (rr, rc, R), (sr, sc, Z), (b, ta, tb, th, tw, tt, tn, sm0, mt, rw, dn)), wS G tra v, wHf G h (hn, u0, u1, u2, u3), wX G k w]) rfl (by simp only [List.flatten_cons, List.flatten_nil, List.append_nil, List.append_assoc]) (fun u_11 => [[(x0, .inr (6, [.ref na.1, .ref tra.1, .ref h.1, .ref k.1]))], wS G na u_11.1, wS G tra v, wHf G (h.1, h.2.1, u_11.2.1, u_11.2.2.1, u_11.2.2.2.1, u_11.2.2.2.2.1) u_11.2.2.2.2.2, wX G k w]) (fun u_11 => [[(x0, .inr (6, [.ref na.1, .ref tra.1, .ref h.1, .ref k.1]))], wS G na u_11.1, wS G tra v, wHf G (h.1, h.2.1, u_11.2.1, u_11.2.2.1, u_11.2.2.2.1, u_11.2.2.2.2.1) u_11.2.2.2.2.2, wX G k w]) (fun _ => rfl) (fun _ => rfl) (fun _ => by simp only [List.flatten_cons, List.flatten_nil, List.append_nil, List.append_assoc]) (fun _ => rfl) 0 rfl rfl rfl rfl xL.1 rfl (Nat.le_of_ble_eq_true rfl) dX6_left_11 ⟨Nat.le_refl _, Nat.le_refl _⟩ (fun r_11 u_11 H locs h_11 xP xD xS => ?_)
  have h_11 : PO r_11 u_11 (opSet 0 lr lc b v1 v2 v3 s pst hn) := h_11
  exact xQ _ _ _ _ _ u_11 (by exact h_11) xP xD xS dX6_left_14
set_option maxHeartbeats 4000000 in
set_option maxRecDepth 100000 in
/-- kX6_setEntryR -/
theorem kX6_setEntryR (l : Launch) (G : wG) (x0 : Nat) (na tra : SA) (h : HA) (k : XA) (n o : Nat) (kf : wF) (lr lc : Nat) (L : wF) (rr rc : Nat) (R : wF) (sr sc : Nat) (Z : wF) (b ta tb th tw tt tn : Nat) (sm0 mt rw dn : wF) (v : SD) (hn : Nat) (u0 u1 u2 u3 : SD) (w : XD) (s : wF) (pst : PF) (v1 v2 v3 : Int32) (hR : RelS ((n, o, kf), (lr, lc, L), (rr, rc, R), (sr, sc, Z), (b, ta, tb, th, tw, tt, tn, sm0, mt, rw, dn)) s) (hh : hn ≤ 4) (hH : HRel hn u0 u1 u2 u3 pst) : CI (S := CS) l yX6_setEntry wsX6_setEntry (rm 4 81) G [.ref x0, .ref na.2.2.2.1.1, .int v1, .int v2, .int v3] (List.flatten [[((x0, na.1, tra.1, h.1, k.1).1, .inr (6, [.ref ((x0, na.1, tra.1, h.1, k.1).2.1), .ref ((x0, na.1, tra.1, h.1, k.1).2.2.1), .ref ((x0, na.1, tra.1, h.1, k.1).2.2.2.1), .ref ((x0, na.1, tra.1, h.1, k.1).2.2.2.2)]))], wS G na ((n, o, kf), (lr, lc, L), (rr, rc, R), (sr, sc, Z), (b, ta, tb, th, tw, tt, tn, sm0, mt, rw, dn)), wS G tra v, wHf G h (hn, u0, u1, u2, u3), wX G k w]) (fun x u9 => PO x u9 (opSet 1 rr rc b v1 v2 v3 s pst hn)) (fun u9 => List.flatten [[((x0, na.1, tra.1, h.1, k.1).1, .inr (6, [.ref ((x0, na.1, tra.1, h.1, k.1).2.1), .ref ((x0, na.1, tra.1, h.1, k.1).2.2.1), .ref ((x0, na.1, tra.1, h.1, k.1).2.2.2.1), .ref ((x0, na.1, tra.1, h.1, k.1).2.2.2.2)]))], wS G na u9.1, wS G tra v, wHf G (h.1, h.2.1, u9.2.1, u9.2.2.1, u9.2.2.2.1, u9.2.2.2.2.1) u9.2.2.2.2.2, wX G k w]) := by
  refine CI.of (own := RX6) rfl (by decide) rfl (Nat.le_of_ble_eq_true rfl) ?_
  intro p9 e9 s9 m9 b9 t9 c9 A xE xB xM xO xT xK xP xD Q xQ xS ls hl
  have xL : lv_has ls 6 [(0, .ref x0), (1, .ref na.2.2.2.1.1), (2, .int v1), (3, .int v2), (4, .int v3)] := hl
  obtain ⟨hn1, hn2, hn3⟩ := hR.1.2.2.1
  obtain ⟨hm1, hm2, hm3, hm4, hm5, hm6⟩ := hR.2.2.1.2.2.2.1
  obtain ⟨hd1, hd2, hd3⟩ := hR.2.2.2.1
  have hb1 := hR.2.2.2.2.2.1.1
  refine lv_aload_n xE xB dX6_setEntry_0 rfl (lv_at xL 1 rfl) ?_
  refine lv_iload_n xE xB dX6_setEntry_1 rfl (lv_at xL 2 rfl) ?_
  refine lv_iload_n xE xB dX6_setEntry_2 rfl (lv_at xL 3 rfl) ?_
  refine q_VR (As := [.int v1, .int v2]) (rest := []) ⟨xE, xB, xM, xO, xT⟩ (kX1_has l G na.2.2.2.1 rr rc R v1 v2 (by omega) (by omega)) (cwV 2 xT gX6_setEntry_X1_has rfl rfl rfl (by decide +kernel) ⟨Nat.le_of_ble_eq_true rfl, Nat.le_of_ble_eq_true rfl⟩) xK xP [6, 7] rfl 0 rfl rfl rfl rfl xL.1 rfl (Nat.le_of_ble_eq_true rfl) dX6_setEntry_3 ⟨Nat.le_refl _, Nat.le_refl _⟩ (fun r_3 h_3 => ?_)
  rcases h_3 with ⟨h_3, c_3⟩ | ⟨h_3, c_3⟩
  · skip
    subst h_3
    have c_3 : vp_in v1 rr ∧ vp_in v2 rc := c_3
    refine lv_if_eq (tgt := 23) xE xB dX6_setEntry_6 (by decide) (fun h9 => absurd h9 (by decide)) (fun _ => ?_)
    refine lv_iload xE xB dX6_setEntry_9 (lv_at xL 4 rfl) ?_
    refine lv_bipush (v := (-99)) xE xB dX6_setEntry_11 (by decide) ?_
    refine lv_icmp_lt (tgt := 23) xE xB dX6_setEntry_13 (by decide) (fun c_13 => ?_) (fun c_13 => ?_)
    · skip
      refine lv_ldc (v := (-1000001)) xE xB xO (xT _ kX6_setEntry_c33) dX6_setEntry_23 ?_
      exact xQ _ _ _ _ _ (((n, o, kf), (lr, lc, L), (rr, rc, R), (sr, sc, Z), (b, ta, tb, th, tw, tt, tn, sm0, mt, rw, dn)), h.2.2.1, h.2.2.2.1, h.2.2.2.2.1, h.2.2.2.2.2, (hn, u0, u1, u2, u3)) (by (try rw [vp_in_iff, vp_in_iff] at c_3); (try (first | replace c_13 := ti_l99 c_13 | replace c_13 := ti_n99 c_13)); (try (first | replace c_20 := ti_neg c_20 | replace c_20 := ti_nneg c_20 | replace c_20 := ti_lt c_20 | replace c_20 := ti_nlt c_20 | replace c_20 := ti_gt c_20 | replace c_20 := ti_ngt c_20 | replace c_20 := ti_le c_20 | replace c_20 := ti_nle c_20 | replace c_20 := ti_ge c_20 | replace c_20 := ti_nge c_20 | replace c_20 := ti_z c_20 | replace c_20 := ti_nz c_20 | replace c_20 := ti_eq c_20 | replace c_20 := ti_ne c_20)); rw [show opSet 1 rr rc b v1 v2 v3 s pst hn = (kINV, s, pst, hn) from if_neg (by omega)]; exact ⟨rfl, hR, rfl, hh, hH⟩) xP xD xS dX6_setEntry_25
    · skip
      refine lv_iload xE xB dX6_setEntry_16 (lv_at xL 4 rfl) ?_
      refine lv_bipush (v := nI 99) xE xB dX6_setEntry_18 (by decide) ?_
      refine lv_icmp_le (tgt := 26) xE xB dX6_setEntry_20 (by decide) (fun c_20 => ?_) (fun c_20 => ?_)
      · skip
        (try rw [vp_in_iff, vp_in_iff] at c_3)
        (try (first | replace c_13 := ti_l99 c_13 | replace c_13 := ti_n99 c_13))
        (try (first | replace c_20 := ti_neg c_20 | replace c_20 := ti_nneg c_20 | replace c_20 := ti_lt c_20 | replace c_20 := ti_nlt c_20 | replace c_20 := ti_gt c_20 | replace c_20 := ti_ngt c_20 | replace c_20 := ti_le c_20 | replace c_20 := ti_nle c_20 | replace c_20 := ti_ge c_20 | replace c_20 := ti_nge c_20 | replace c_20 := ti_z c_20 | replace c_20 := ti_nz c_20 | replace c_20 := ti_eq c_20 | replace c_20 := ti_ne c_20))
        refine lv_aload_n xE xB dX6_setEntry_26 rfl (lv_at xL 0 rfl) ?_
        refine va_get (D := G.1) (ci := 6) (v := .ref na.1) (C := RX6) (T := TX6) (N := 4) xE xB xT khX6_setEntry_X6 xO xK.1 xP 0 rfl rfl 0 (by decide) (xT _ kX6_setEntry_f10) (fun _ h9 => h9) rfl dX6_setEntry_27 ?_
        refine va_get (D := G.1) (ci := 3) (v := .ref na.2.2.2.2.2.1) (C := RX3) (T := TX3) (N := 5) xE xB xT khX6_setEntry_X3 xO xK.1 xP 1 rfl rfl 4 (by decide) (xT _ kX6_setEntry_f52) (fun _ h9 => h9) rfl dX6_setEntry_30 ?_
        refine va_get (D := G.1) (ci := 5) (v := .int (nI b)) (C := RX5) (T := TX5) (N := 11) xE xB xT khX6_setEntry_X5 xO xK.1 xP 10 rfl rfl 0 (by decide) (xT _ kX6_setEntry_f56) (fun _ h9 => h9) rfl dX6_setEntry_33 ?_
        refine q_if_eq (tgt := 42) xE xB dX6_setEntry_36 (by decide) (by omega) (fun c_36 => ?_) (fun c_36 => ?_)
        · skip
          have e_v1 : v1 = nI (tN v1) := tN_eq (by omega)
          have b_v1 : (tN v1 : Int) = v1.toInt := tN_z (by omega)
          rw [e_v1] at xL
          have xL : lv_has ls 6 [(0, .ref x0), (1, .ref na.2.2.2.1.1), (2, .int (nI (tN v1))), (3, .int v2), (4, .int v3)] := xL
          have e_v2 : v2 = nI (tN v2) := tN_eq (by omega)
          have b_v2 : (tN v2 : Int) = v2.toInt := tN_z (by omega)
          rw [e_v2] at xL
          have xL : lv_has ls 6 [(0, .ref x0), (1, .ref na.2.2.2.1.1), (2, .int (nI (tN v1))), (3, .int (nI (tN v2))), (4, .int v3)] := xL
          refine lv_aload_n xE xB dX6_setEntry_42 rfl (lv_at xL 0 rfl) ?_
          refine va_get (D := G.1) (ci := 6) (v := .ref h.1) (C := RX6) (T := TX6) (N := 4) xE xB xT khX6_setEntry_X6 xO xK.1 xP 0 rfl rfl 2 (by decide) (xT _ kX6_setEntry_f22) (fun _ h9 => h9) rfl dX6_setEntry_43 ?_
          refine lv_aload_n xE xB dX6_setEntry_46 rfl (lv_at xL 0 rfl) ?_
          refine va_get (D := G.1) (ci := 6) (v := .ref na.1) (C := RX6) (T := TX6) (N := 4) xE xB xT khX6_setEntry_X6 xO xK.1 xP 0 rfl rfl 0 (by decide) (xT _ kX6_setEntry_f10) (fun _ h9 => h9) rfl dX6_setEntry_47 ?_
          refine q_VVL (As := [.ref na.1]) (rest := []) ⟨xE, xB, xM, xO, xT⟩ (kX0_remember l G h hn u0 u1 u2 u3 na ((n, o, kf), (lr, lc, L), (rr, rc, R), (sr, sc, Z), (b, ta, tb, th, tw, tt, tn, sm0, mt, rw, dn)) pst s (by exact hh) (by exact hH) (by exact hR)) (cwV 1 xT gX6_setEntry_X0_remember rfl rfl rfl (by decide +kernel) ⟨Nat.le_of_ble_eq_true rfl, Nat.le_of_ble_eq_true rfl⟩) xK xP xD xS [3, 1] [0, 2, 4] 5 rfl (by decide) (Lc := [wHf G h (hn, u0, u1, u2, u3), wS G na ((n, o, kf), (lr, lc, L), (rr, rc, R), (sr, sc, Z), (b, ta, tb, th, tw, tt, tn, sm0, mt, rw, dn))]) rfl (by simp only [List.flatten_cons, List.flatten_nil, List.append_nil, List.append_assoc]) (fun u_50 => [[(x0, .inr (6, [.ref na.1, .ref tra.1, .ref h.1, .ref k.1]))], wS G na ((n, o, kf), (lr, lc, L), (rr, rc, R), (sr, sc, Z), (b, ta, tb, th, tw, tt, tn, sm0, mt, rw, dn)), wS G tra v, wHf G (h.1, h.2.1, u_50.1, u_50.2.1, u_50.2.2.1, u_50.2.2.2.1) (chgN hn, u_50.2.2.2.2.1, u_50.2.2.2.2.2.1, u_50.2.2.2.2.2.2.1, u_50.2.2.2.2.2.2.2), wX G k w]) (fun u_50 => [wHf G (h.1, h.2.1, u_50.1, u_50.2.1, u_50.2.2.1, u_50.2.2.2.1) (chgN hn, u_50.2.2.2.2.1, u_50.2.2.2.2.2.1, u_50.2.2.2.2.2.2.1, u_50.2.2.2.2.2.2.2), wS G na ((n, o, kf), (lr, lc, L), (rr, rc, R), (sr, sc, Z), (b, ta, tb, th, tw, tt, tn, sm0, mt, rw, dn))]) (fun _ => rfl) (fun _ => rfl) (fun _ => by simp only [List.flatten_cons, List.flatten_nil, List.append_nil, List.append_assoc]) (fun _ => rfl) 0 rfl rfl rfl rfl xL.1 rfl (Nat.le_of_ble_eq_true rfl) dX6_setEntry_50 ⟨Nat.le_refl _, Nat.le_refl _⟩ (fun u_50 H locs h_50 xP xD xS => ?_)
          have h_50 : HRel (chgN hn) u_50.2.2.2.2.1 u_50.2.2.2.2.2.1 u_50.2.2.2.2.2.2.1 u_50.2.2.2.2.2.2.2 (chgP s pst hn) := h_50
          refine lv_aload_n xE xB dX6_setEntry_53 rfl (lv_at xL 1 rfl) ?_
          refine lv_iload_n xE xB dX6_setEntry_54 rfl (lv_at xL 2 rfl) ?_
          refine lv_iload_n xE xB dX6_setEntry_55 rfl (lv_at xL 3 rfl) ?_
          refine q_VR (As := [.int (nI (tN v1)), .int (nI (tN v2))]) (rest := []) ⟨xE, xB, xM, xO, xT⟩ (kX1_at l G na.2.2.2.1 rr rc R (tN v1) (tN v2) (by omega) (by omega) (by omega) (by omega)) (cwV 2 xT gX6_setEntry_X1_at rfl rfl rfl (by decide +kernel) ⟨Nat.le_of_ble_eq_true rfl, Nat.le_of_ble_eq_true rfl⟩) xK xP [6, 7] rfl 0 rfl rfl rfl rfl xL.1 rfl (Nat.le_of_ble_eq_true rfl) dX6_setEntry_56 ⟨Nat.le_refl _, Nat.le_refl _⟩ (fun r_56 h_56 => ?_)
          obtain rfl : r_56 = R (6 * (tN v1) + (tN v2)) := h_56
          refine lv_istore (lv' := [(5, .int (R (6 * (tN v1) + (tN v2)))), (0, .ref x0), (1, .ref na.2.2.2.1.1), (2, .int (nI (tN v1))), (3, .int (nI (tN v2))), (4, .int v3)]) xE xB dX6_setEntry_59 xL (by decide) rfl (fun ls xL => ?_)
          refine lv_aload_n xE xB dX6_setEntry_61 rfl (lv_at xL 2 rfl) ?_
          refine lv_iload_n xE xB dX6_setEntry_62 rfl (lv_at xL 3 rfl) ?_
          refine lv_iload_n xE xB dX6_setEntry_63 rfl (lv_at xL 4 rfl) ?_
          refine lv_iload xE xB dX6_setEntry_64 (lv_at xL 5 rfl) ?_
          refine q_VV (As := [.int (nI (tN v1)), .int (nI (tN v2)), .int v3]) (rest := []) ⟨xE, xB, xM, xO, xT⟩ (kX1_put l G na.2.2.2.1 rr rc R (tN v1) (tN v2) v3 (by omega) (by omega) (by omega) (by omega)) (cwV 3 xT gX6_setEntry_X1_put rfl rfl rfl (by decide +kernel) ⟨Nat.le_of_ble_eq_true rfl, Nat.le_of_ble_eq_true rfl⟩) xK xP xD xS [6, 7] rfl (by decide +kernel) (fun _ => rfl) 0 rfl rfl rfl rfl xL.1 rfl (Nat.le_of_ble_eq_true rfl) dX6_setEntry_66 ⟨Nat.le_refl _, Nat.le_refl _⟩ (fun u_66 H locs h_66 xP xD xS => ?_)
          have xP : va_P G.1 vwCl (List.flatten [[(x0, .inr (6, [.ref na.1, .ref tra.1, .ref h.1, .ref k.1]))], wS G na ((n, o, kf), (lr, lc, L), (rr, rc, upd R (6 * (tN v1) + (tN v2)) v3), (sr, sc, Z), (b, ta, tb, th, tw, tt, tn, sm0, mt, rw, dn)), wS G tra v, wHf G (h.1, h.2.1, u_50.1, u_50.2.1, u_50.2.2.1, u_50.2.2.2.1) (chgN hn, u_50.2.2.2.2.1, u_50.2.2.2.2.2.1, u_50.2.2.2.2.2.2.1, u_50.2.2.2.2.2.2.2), wX G k w]) H := xP
          have xD : va_D A (List.flatten [[(x0, .inr (6, [.ref na.1, .ref tra.1, .ref h.1, .ref k.1]))], wS G na ((n, o, kf), (lr, lc, L), (rr, rc, upd R (6 * (tN v1) + (tN v2)) v3), (sr, sc, Z), (b, ta, tb, th, tw, tt, tn, sm0, mt, rw, dn)), wS G tra v, wHf G (h.1, h.2.1, u_50.1, u_50.2.1, u_50.2.2.1, u_50.2.2.2.1) (chgN hn, u_50.2.2.2.2.1, u_50.2.2.2.2.2.1, u_50.2.2.2.2.2.2.1, u_50.2.2.2.2.2.2.2), wX G k w]) := xD
          refine lv_aload_n xE xB dX6_setEntry_69 rfl (lv_at xL 1 rfl) ?_
          refine va_get (D := G.1) (ci := 6) (v := .ref na.1) (C := RX6) (T := TX6) (N := 4) xE xB xT khX6_setEntry_X6 xO xK.1 xP 0 rfl rfl 0 (by decide) (xT _ kX6_setEntry_f10) (fun _ h9 => h9) rfl dX6_setEntry_70 ?_
          refine q_VVL (As := []) (rest := []) ⟨xE, xB, xM, xO, xT⟩ (kX3_forgetResults l G na n o kf lr lc L rr rc (upd R (6 * (tN v1) + (tN v2)) v3) sr sc Z b ta tb th tw tt tn sm0 mt rw dn (by omega) (by omega) (by omega)) (cwV 0 xT gX6_setEntry_X3_forgetResults rfl rfl rfl (by decide +kernel) ⟨Nat.le_of_ble_eq_true rfl, Nat.le_of_ble_eq_true rfl⟩) xK xP xD xS [1] [0, 2, 3, 4] 5 rfl (by decide) (Lc := [wS G na ((n, o, kf), (lr, lc, L), (rr, rc, upd R (6 * (tN v1) + (tN v2)) v3), (sr, sc, Z), (b, ta, tb, th, tw, tt, tn, sm0, mt, rw, dn))]) rfl (by simp only [List.flatten_cons, List.flatten_nil, List.append_nil, List.append_assoc]) (fun _ => [[(x0, .inr (6, [.ref na.1, .ref tra.1, .ref h.1, .ref k.1]))], wS G na ((n, o, kf), (lr, lc, L), (rr, rc, upd R (6 * (tN v1) + (tN v2)) v3), (lr, rc, fillF 36 NO Z), (b, ta, tb, th, tw, tt, tn, sm0, mt, rw, dn)), wS G tra v, wHf G (h.1, h.2.1, u_50.1, u_50.2.1, u_50.2.2.1, u_50.2.2.2.1) (chgN hn, u_50.2.2.2.2.1, u_50.2.2.2.2.2.1, u_50.2.2.2.2.2.2.1, u_50.2.2.2.2.2.2.2), wX G k w]) (fun _ => [wS G na ((n, o, kf), (lr, lc, L), (rr, rc, upd R (6 * (tN v1) + (tN v2)) v3), (lr, rc, fillF 36 NO Z), (b, ta, tb, th, tw, tt, tn, sm0, mt, rw, dn))]) (fun _ => rfl) (fun _ => rfl) (fun _ => by simp only [List.flatten_cons, List.flatten_nil, List.append_nil, List.append_assoc]) (fun _ => rfl) 0 rfl rfl rfl rfl xL.1 rfl (Nat.le_of_ble_eq_true rfl) dX6_setEntry_73 ⟨Nat.le_refl _, Nat.le_refl _⟩ (fun u_73 H locs h_73 xP xD xS => ?_)
          refine lv_iload xE xB dX6_setEntry_76 (lv_at xL 0 rfl) ?_
          exact xQ _ _ _ _ _ (((n, o, kf), (lr, lc, L), (rr, rc, upd R (6 * (tN v1) + (tN v2)) v3), (lr, rc, fillF 36 NO Z), (b, ta, tb, th, tw, tt, tn, sm0, mt, rw, dn)), u_50.1, u_50.2.1, u_50.2.2.1, u_50.2.2.2.1, (chgN hn, u_50.2.2.2.2.1, u_50.2.2.2.2.2.1, u_50.2.2.2.2.2.2.1, u_50.2.2.2.2.2.2.2)) (by rw [show opSet 1 rr rc b v1 v2 v3 s pst hn = (s (9 + 36 * 1 + 6 * tN v1 + tN v2), clr 117 36 (upd s (9 + 36 * 1 + 6 * tN v1 + tN v2) v3), chgP s pst hn, chgN hn) from (if_pos (by omega)).trans (if_neg (by omega))]; exact ⟨get_R hR (by omega), rel_setR hR (by omega) (by omega) (by omega) (by unfold bV; omega), rfl, chgN_4 hh, h_50⟩) xP xD xS dX6_setEntry_78
        · skip
          refine lv_ldc (v := (-1000002)) xE xB xO (xT _ kX6_setEntry_c93) dX6_setEntry_39 ?_
          exact xQ _ _ _ _ _ (((n, o, kf), (lr, lc, L), (rr, rc, R), (sr, sc, Z), (b, ta, tb, th, tw, tt, tn, sm0, mt, rw, dn)), h.2.2.1, h.2.2.2.1, h.2.2.2.2.1, h.2.2.2.2.2, (hn, u0, u1, u2, u3)) (by rw [show opSet 1 rr rc b v1 v2 v3 s pst hn = (kNP, s, pst, hn) from (if_pos (by omega)).trans (if_pos (by omega))]; exact ⟨rfl, hR, rfl, hh, hH⟩) xP xD xS dX6_setEntry_41
      · skip
        refine lv_ldc (v := (-1000001)) xE xB xO (xT _ kX6_setEntry_c33) dX6_setEntry_23 ?_
        exact xQ _ _ _ _ _ (((n, o, kf), (lr, lc, L), (rr, rc, R), (sr, sc, Z), (b, ta, tb, th, tw, tt, tn, sm0, mt, rw, dn)), h.2.2.1, h.2.2.2.1, h.2.2.2.2.1, h.2.2.2.2.2, (hn, u0, u1, u2, u3)) (by (try rw [vp_in_iff, vp_in_iff] at c_3); (try (first | replace c_13 := ti_l99 c_13 | replace c_13 := ti_n99 c_13)); (try (first | replace c_20 := ti_neg c_20 | replace c_20 := ti_nneg c_20 | replace c_20 := ti_lt c_20 | replace c_20 := ti_nlt c_20 | replace c_20 := ti_gt c_20 | replace c_20 := ti_ngt c_20 | replace c_20 := ti_le c_20 | replace c_20 := ti_nle c_20 | replace c_20 := ti_ge c_20 | replace c_20 := ti_nge c_20 | replace c_20 := ti_z c_20 | replace c_20 := ti_nz c_20 | replace c_20 := ti_eq c_20 | replace c_20 := ti_ne c_20)); rw [show opSet 1 rr rc b v1 v2 v3 s pst hn = (kINV, s, pst, hn) from if_neg (by omega)]; exact ⟨rfl, hR, rfl, hh, hH⟩) xP xD xS dX6_setEntry_25
  · skip
    subst h_3
    have c_3 : ¬ (vp_in v1 rr ∧ vp_in v2 rc) := c_3
    refine lv_if_eq (tgt := 23) xE xB dX6_setEntry_6 (by decide) (fun _ => ?_) (fun h9 => absurd (by decide) h9)
    refine lv_ldc (v := (-1000001)) xE xB xO (xT _ kX6_setEntry_c33) dX6_setEntry_23 ?_
    exact xQ _ _ _ _ _ (((n, o, kf), (lr, lc, L), (rr, rc, R), (sr, sc, Z), (b, ta, tb, th, tw, tt, tn, sm0, mt, rw, dn)), h.2.2.1, h.2.2.2.1, h.2.2.2.2.1, h.2.2.2.2.2, (hn, u0, u1, u2, u3)) (by (try rw [vp_in_iff, vp_in_iff] at c_3); (try (first | replace c_13 := ti_l99 c_13 | replace c_13 := ti_n99 c_13)); (try (first | replace c_20 := ti_neg c_20 | replace c_20 := ti_nneg c_20 | replace c_20 := ti_lt c_20 | replace c_20 := ti_nlt c_20 | replace c_20 := ti_gt c_20 | replace c_20 := ti_ngt c_20 | replace c_20 := ti_le c_20 | replace c_20 := ti_nle c_20 | replace c_20 := ti_ge c_20 | replace c_20 := ti_nge c_20 | replace c_20 := ti_z c_20 | replace c_20 := ti_nz c_20 | replace c_20 := ti_eq c_20 | replace c_20 := ti_ne c_20)); rw [show opSet 1 rr rc b v1 v2 v3 s pst hn = (kINV, s, pst, hn) from if_neg (by omega)]; exact ⟨rfl, hR, rfl, hh, hH⟩) xP xD xS dX6_setEntry_25
theorem kX6_right_f10 : Cond.fieldLink RX6 10 "SkewedSquare" "now" "LSkewedSquare$State;" ∈ wsX6_right := by decide +kernel
theorem kX6_right_f78 : Cond.fieldLink RX6 78 "SkewedSquare$State" "rightMatrix" "LSkewedSquare$Matrix;" ∈ wsX6_right := by decide +kernel
theorem khX6_right_X3 : ∀ w ∈ u_ws RX3 TX3 5, w ∈ wsX6_right := by decide +kernel
theorem khX6_right_X6 : ∀ w ∈ u_ws RX6 TX6 4, w ∈ wsX6_right := by decide +kernel
set_option maxHeartbeats 4000000 in
set_option maxRecDepth 100000 in
/-- kX6_right -/
theorem kX6_right (l : Launch) (G : wG) (x0 : Nat) (na tra : SA) (h : HA) (k : XA) (n o : Nat) (kf : wF) (lr lc : Nat) (L : wF) (rr rc : Nat) (R : wF) (sr sc : Nat) (Z : wF) (b ta tb th tw tt tn : Nat) (sm0 mt rw dn : wF) (v : SD) (hn : Nat) (u0 u1 u2 u3 : SD) (w : XD) (s : wF) (pst : PF) (v1 v2 v3 : Int32) (hR : RelS ((n, o, kf), (lr, lc, L), (rr, rc, R), (sr, sc, Z), (b, ta, tb, th, tw, tt, tn, sm0, mt, rw, dn)) s) (hh : hn ≤ 4) (hH : HRel hn u0 u1 u2 u3 pst) : CI (S := CS) l yX6_right wsX6_right (rm 5 106) G [.ref x0, .int v1, .int v2, .int v3] (List.flatten [[((x0, na.1, tra.1, h.1, k.1).1, .inr (6, [.ref ((x0, na.1, tra.1, h.1, k.1).2.1), .ref ((x0, na.1, tra.1, h.1, k.1).2.2.1), .ref ((x0, na.1, tra.1, h.1, k.1).2.2.2.1), .ref ((x0, na.1, tra.1, h.1, k.1).2.2.2.2)]))], wS G na ((n, o, kf), (lr, lc, L), (rr, rc, R), (sr, sc, Z), (b, ta, tb, th, tw, tt, tn, sm0, mt, rw, dn)), wS G tra v, wHf G h (hn, u0, u1, u2, u3), wX G k w]) (fun x u9 => PO x u9 (opSet 1 rr rc b v1 v2 v3 s pst hn)) (fun u9 => List.flatten [[((x0, na.1, tra.1, h.1, k.1).1, .inr (6, [.ref ((x0, na.1, tra.1, h.1, k.1).2.1), .ref ((x0, na.1, tra.1, h.1, k.1).2.2.1), .ref ((x0, na.1, tra.1, h.1, k.1).2.2.2.1), .ref ((x0, na.1, tra.1, h.1, k.1).2.2.2.2)]))], wS G na u9.1, wS G tra v, wHf G (h.1, h.2.1, u9.2.1, u9.2.2.1, u9.2.2.2.1, u9.2.2.2.2.1) u9.2.2.2.2.2, wX G k w]) := by
  refine CI.of (own := RX6) rfl (by decide) rfl (Nat.le_of_ble_eq_true rfl) ?_
  intro p9 e9 s9 m9 b9 t9 c9 A xE xB xM xO xT xK xP xD Q xQ xS ls hl
  have xL : lv_has ls 4 [(0, .ref x0), (1, .int v1), (2, .int v2), (3, .int v3)] := hl
  obtain ⟨hn1, hn2, hn3⟩ := hR.1.2.2.1
  obtain ⟨hm1, hm2, hm3, hm4, hm5, hm6⟩ := hR.2.2.1.2.2.2.1
  obtain ⟨hd1, hd2, hd3⟩ := hR.2.2.2.1
  have hb1 := hR.2.2.2.2.2.1.1
  refine lv_aload_n xE xB dX6_right_0 rfl (lv_at xL 0 rfl) ?_
  refine lv_aload_n xE xB dX6_right_1 rfl (lv_at xL 0 rfl) ?_
  refine va_get (D := G.1) (ci := 6) (v := .ref na.1) (C := RX6) (T := TX6) (N := 4) xE xB xT khX6_right_X6 xO xK.1 xP 0 rfl rfl 0 (by decide) (xT _ kX6_right_f10) (fun _ h9 => h9) rfl dX6_right_2 ?_
  refine va_get (D := G.1) (ci := 3) (v := .ref na.2.2.2.1.1) (C := RX3) (T := TX3) (N := 5) xE xB xT khX6_right_X3 xO xK.1 xP 1 rfl rfl 2 (by decide) (xT _ kX6_right_f78) (fun _ h9 => h9) rfl dX6_right_5 ?_
  refine lv_iload_n xE xB dX6_right_8 rfl (lv_at xL 1 rfl) ?_
  refine lv_iload_n xE xB dX6_right_9 rfl (lv_at xL 2 rfl) ?_
  refine lv_iload_n xE xB dX6_right_10 rfl (lv_at xL 3 rfl) ?_
  refine q_VIL (As := [.ref na.2.2.2.1.1, .int v1, .int v2, .int v3]) (rest := []) ⟨xE, xB, xM, xO, xT⟩ (kX6_setEntryR l G x0 na tra h k n o kf lr lc L rr rc R sr sc Z b ta tb th tw tt tn sm0 mt rw dn v hn u0 u1 u2 u3 w s pst v1 v2 v3 (by exact hR) (by exact hh) (by exact hH)) (cwV 4 xT gX6_right_X6_setEntry rfl rfl rfl (by decide +kernel) ⟨Nat.le_of_ble_eq_true rfl, Nat.le_of_ble_eq_true rfl⟩) xK xP xD xS [0, 1, 2, 3, 4] [] 5 rfl (by decide) (Lc := [[(x0, .inr (6, [.ref na.1, .ref tra.1, .ref h.1, .ref k.1]))], wS G na ((n, o, kf), (lr, lc, L), (rr, rc, R), (sr, sc, Z), (b, ta, tb, th, tw, tt, tn, sm0, mt, rw, dn)), wS G tra v, wHf G h (hn, u0, u1, u2, u3), wX G k w]) rfl (by simp only [List.flatten_cons, List.flatten_nil, List.append_nil, List.append_assoc]) (fun u_11 => [[(x0, .inr (6, [.ref na.1, .ref tra.1, .ref h.1, .ref k.1]))], wS G na u_11.1, wS G tra v, wHf G (h.1, h.2.1, u_11.2.1, u_11.2.2.1, u_11.2.2.2.1, u_11.2.2.2.2.1) u_11.2.2.2.2.2, wX G k w]) (fun u_11 => [[(x0, .inr (6, [.ref na.1, .ref tra.1, .ref h.1, .ref k.1]))], wS G na u_11.1, wS G tra v, wHf G (h.1, h.2.1, u_11.2.1, u_11.2.2.1, u_11.2.2.2.1, u_11.2.2.2.2.1) u_11.2.2.2.2.2, wX G k w]) (fun _ => rfl) (fun _ => rfl) (fun _ => by simp only [List.flatten_cons, List.flatten_nil, List.append_nil, List.append_assoc]) (fun _ => rfl) 0 rfl rfl rfl rfl xL.1 rfl (Nat.le_of_ble_eq_true rfl) dX6_right_11 ⟨Nat.le_refl _, Nat.le_refl _⟩ (fun r_11 u_11 H locs h_11 xP xD xS => ?_)
  have h_11 : PO r_11 u_11 (opSet 1 rr rc b v1 v2 v3 s pst hn) := h_11
  exact xQ _ _ _ _ _ u_11 (by exact h_11) xP xD xS dX6_right_14
theorem kX6_fault_c33 : Cond.constant RX6 33 (-1000001) ∈ wsX6_fault := by decide +kernel
theorem kX6_fault_c93 : Cond.constant RX6 93 (-1000002) ∈ wsX6_fault := by decide +kernel
theorem kX6_fault_f10 : Cond.fieldLink RX6 10 "SkewedSquare" "now" "LSkewedSquare$State;" ∈ wsX6_fault := by decide +kernel
theorem kX6_fault_f22 : Cond.fieldLink RX6 22 "SkewedSquare" "history" "LSkewedSquare$History;" ∈ wsX6_fault := by decide +kernel
theorem kX6_fault_f38 : Cond.fieldLink RX6 38 "SkewedSquare$State" "square" "LSkewedSquare$Square;" ∈ wsX6_fault := by decide +kernel
theorem kX6_fault_f52 : Cond.fieldLink RX6 52 "SkewedSquare$State" "tile" "LSkewedSquare$Tile;" ∈ wsX6_fault := by decide +kernel
theorem kX6_fault_f56 : Cond.fieldLink RX6 56 "SkewedSquare$Tile" "begun" "Z" ∈ wsX6_fault := by decide +kernel
theorem khX6_fault_X3 : ∀ w ∈ u_ws RX3 TX3 5, w ∈ wsX6_fault := by decide +kernel
theorem khX6_fault_X5 : ∀ w ∈ u_ws RX5 TX5 11, w ∈ wsX6_fault := by decide +kernel
theorem khX6_fault_X6 : ∀ w ∈ u_ws RX6 TX6 4, w ∈ wsX6_fault := by decide +kernel
set_option maxHeartbeats 4000000 in
set_option maxRecDepth 100000 in
/-- kX6_fault -/
theorem kX6_fault (l : Launch) (G : wG) (x0 : Nat) (na tra : SA) (h : HA) (k : XA) (n o : Nat) (kf : wF) (lr lc : Nat) (L : wF) (rr rc : Nat) (R : wF) (sr sc : Nat) (Z : wF) (b ta tb th tw tt tn : Nat) (sm0 mt rw dn : wF) (v : SD) (hn : Nat) (u0 u1 u2 u3 : SD) (w : XD) (s : wF) (pst : PF) (v1 v2 v3 : Int32) (hR : RelS ((n, o, kf), (lr, lc, L), (rr, rc, R), (sr, sc, Z), (b, ta, tb, th, tw, tt, tn, sm0, mt, rw, dn)) s) (hh : hn ≤ 4) (hH : HRel hn u0 u1 u2 u3 pst) : CI (S := CS) l yX6_fault wsX6_fault (rm 4 81) G [.ref x0, .int v1, .int v2, .int v3] (List.flatten [[((x0, na.1, tra.1, h.1, k.1).1, .inr (6, [.ref ((x0, na.1, tra.1, h.1, k.1).2.1), .ref ((x0, na.1, tra.1, h.1, k.1).2.2.1), .ref ((x0, na.1, tra.1, h.1, k.1).2.2.2.1), .ref ((x0, na.1, tra.1, h.1, k.1).2.2.2.2)]))], wS G na ((n, o, kf), (lr, lc, L), (rr, rc, R), (sr, sc, Z), (b, ta, tb, th, tw, tt, tn, sm0, mt, rw, dn)), wS G tra v, wHf G h (hn, u0, u1, u2, u3), wX G k w]) (fun x u9 => PO x u9 (opFault n b v1 v2 v3 s pst hn)) (fun u9 => List.flatten [[((x0, na.1, tra.1, h.1, k.1).1, .inr (6, [.ref ((x0, na.1, tra.1, h.1, k.1).2.1), .ref ((x0, na.1, tra.1, h.1, k.1).2.2.1), .ref ((x0, na.1, tra.1, h.1, k.1).2.2.2.1), .ref ((x0, na.1, tra.1, h.1, k.1).2.2.2.2)]))], wS G na u9.1, wS G tra v, wHf G (h.1, h.2.1, u9.2.1, u9.2.2.1, u9.2.2.2.1, u9.2.2.2.2.1) u9.2.2.2.2.2, wX G k w]) := by
  refine CI.of (own := RX6) rfl (by decide) rfl (Nat.le_of_ble_eq_true rfl) ?_
  intro p9 e9 s9 m9 b9 t9 c9 A xE xB xM xO xT xK xP xD Q xQ xS ls hl
  have xL : lv_has ls 5 [(0, .ref x0), (1, .int v1), (2, .int v2), (3, .int v3)] := hl
  obtain ⟨hn1, hn2, hn3⟩ := hR.1.2.2.1
  obtain ⟨hm1, hm2, hm3, hm4, hm5, hm6⟩ := hR.2.2.1.2.2.2.1
  obtain ⟨hd1, hd2, hd3⟩ := hR.2.2.2.1
  have hb1 := hR.2.2.2.2.2.1.1
  refine lv_aload_n xE xB dX6_fault_0 rfl (lv_at xL 0 rfl) ?_
  refine va_get (D := G.1) (ci := 6) (v := .ref na.1) (C := RX6) (T := TX6) (N := 4) xE xB xT khX6_fault_X6 xO xK.1 xP 0 rfl rfl 0 (by decide) (xT _ kX6_fault_f10) (fun _ h9 => h9) rfl dX6_fault_1 ?_
  refine va_get (D := G.1) (ci := 3) (v := .ref na.2.1.1) (C := RX3) (T := TX3) (N := 5) xE xB xT khX6_fault_X3 xO xK.1 xP 1 rfl rfl 0 (by decide) (xT _ kX6_fault_f38) (fun _ h9 => h9) rfl dX6_fault_4 ?_
  refine lv_iload_n xE xB dX6_fault_7 rfl (lv_at xL 1 rfl) ?_
  refine lv_iload_n xE xB dX6_fault_8 rfl (lv_at xL 2 rfl) ?_
  refine q_VR (As := [.int v1, .int v2]) (rest := []) ⟨xE, xB, xM, xO, xT⟩ (kX2_has l G na.2.1 n o kf v1 v2 (by omega)) (cwV 2 xT gX6_fault_X2_has rfl rfl rfl (by decide +kernel) ⟨Nat.le_of_ble_eq_true rfl, Nat.le_of_ble_eq_true rfl⟩) xK xP [2, 3] rfl 0 rfl rfl rfl rfl xL.1 rfl (Nat.le_of_ble_eq_true rfl) dX6_fault_9 ⟨Nat.le_refl _, Nat.le_refl _⟩ (fun r_9 h_9 => ?_)
  rcases h_9 with ⟨h_9, c_9⟩ | ⟨h_9, c_9⟩
  · skip
    subst h_9
    have c_9 : vp_in v1 n ∧ vp_in v2 (n + 1) := c_9
    refine lv_if_eq (tgt := 24) xE xB dX6_fault_12 (by decide) (fun h9 => absurd h9 (by decide)) (fun _ => ?_)
    refine lv_iload_n xE xB dX6_fault_15 rfl (lv_at xL 3 rfl) ?_
    refine lv_if_lt (tgt := 24) xE xB dX6_fault_16 (by decide) (fun c_16 => ?_) (fun c_16 => ?_)
    · skip
      refine lv_ldc (v := (-1000001)) xE xB xO (xT _ kX6_fault_c33) dX6_fault_24 ?_
      exact xQ _ _ _ _ _ (((n, o, kf), (lr, lc, L), (rr, rc, R), (sr, sc, Z), (b, ta, tb, th, tw, tt, tn, sm0, mt, rw, dn)), h.2.2.1, h.2.2.2.1, h.2.2.2.2.1, h.2.2.2.2.2, (hn, u0, u1, u2, u3)) (by (try rw [vp_in_iff, vp_in_iff] at c_9); (try (first | replace c_16 := ti_neg c_16 | replace c_16 := ti_nneg c_16 | replace c_16 := ti_lt c_16 | replace c_16 := ti_nlt c_16 | replace c_16 := ti_gt c_16 | replace c_16 := ti_ngt c_16 | replace c_16 := ti_le c_16 | replace c_16 := ti_nle c_16 | replace c_16 := ti_ge c_16 | replace c_16 := ti_nge c_16 | replace c_16 := ti_z c_16 | replace c_16 := ti_nz c_16 | replace c_16 := ti_eq c_16 | replace c_16 := ti_ne c_16)); (try (first | replace c_21 := ti_neg c_21 | replace c_21 := ti_nneg c_21 | replace c_21 := ti_lt c_21 | replace c_21 := ti_nlt c_21 | replace c_21 := ti_gt c_21 | replace c_21 := ti_ngt c_21 | replace c_21 := ti_le c_21 | replace c_21 := ti_nle c_21 | replace c_21 := ti_ge c_21 | replace c_21 := ti_nge c_21 | replace c_21 := ti_z c_21 | replace c_21 := ti_nz c_21 | replace c_21 := ti_eq c_21 | replace c_21 := ti_ne c_21)); rw [show opFault n b v1 v2 v3 s pst hn = (kINV, s, pst, hn) from if_neg (by omega)]; exact ⟨rfl, hR, rfl, hh, hH⟩) xP xD xS dX6_fault_26
    · skip
      refine lv_iload_n xE xB dX6_fault_19 rfl (lv_at xL 3 rfl) ?_
      refine lv_iconst (v := nI 4) xE xB dX6_fault_20 (by decide) ?_
      refine lv_icmp_le (tgt := 27) xE xB dX6_fault_21 (by decide) (fun c_21 => ?_) (fun c_21 => ?_)
      · skip
        (try rw [vp_in_iff, vp_in_iff] at c_9)
        (try (first | replace c_16 := ti_neg c_16 | replace c_16 := ti_nneg c_16 | replace c_16 := ti_lt c_16 | replace c_16 := ti_nlt c_16 | replace c_16 := ti_gt c_16 | replace c_16 := ti_ngt c_16 | replace c_16 := ti_le c_16 | replace c_16 := ti_nle c_16 | replace c_16 := ti_ge c_16 | replace c_16 := ti_nge c_16 | replace c_16 := ti_z c_16 | replace c_16 := ti_nz c_16 | replace c_16 := ti_eq c_16 | replace c_16 := ti_ne c_16)); (try (first | replace c_21 := ti_neg c_21 | replace c_21 := ti_nneg c_21 | replace c_21 := ti_lt c_21 | replace c_21 := ti_nlt c_21 | replace c_21 := ti_gt c_21 | replace c_21 := ti_ngt c_21 | replace c_21 := ti_le c_21 | replace c_21 := ti_nle c_21 | replace c_21 := ti_ge c_21 | replace c_21 := ti_nge c_21 | replace c_21 := ti_z c_21 | replace c_21 := ti_nz c_21 | replace c_21 := ti_eq c_21 | replace c_21 := ti_ne c_21))
        refine lv_aload_n xE xB dX6_fault_27 rfl (lv_at xL 0 rfl) ?_
        refine va_get (D := G.1) (ci := 6) (v := .ref na.1) (C := RX6) (T := TX6) (N := 4) xE xB xT khX6_fault_X6 xO xK.1 xP 0 rfl rfl 0 (by decide) (xT _ kX6_fault_f10) (fun _ h9 => h9) rfl dX6_fault_28 ?_
        refine va_get (D := G.1) (ci := 3) (v := .ref na.2.2.2.2.2.1) (C := RX3) (T := TX3) (N := 5) xE xB xT khX6_fault_X3 xO xK.1 xP 1 rfl rfl 4 (by decide) (xT _ kX6_fault_f52) (fun _ h9 => h9) rfl dX6_fault_31 ?_
        refine va_get (D := G.1) (ci := 5) (v := .int (nI b)) (C := RX5) (T := TX5) (N := 11) xE xB xT khX6_fault_X5 xO xK.1 xP 10 rfl rfl 0 (by decide) (xT _ kX6_fault_f56) (fun _ h9 => h9) rfl dX6_fault_34 ?_
        refine q_if_eq (tgt := 43) xE xB dX6_fault_37 (by decide) (by omega) (fun c_37 => ?_) (fun c_37 => ?_)
        · skip
          have e_v1 : v1 = nI (tN v1) := tN_eq (by omega)
          have b_v1 : (tN v1 : Int) = v1.toInt := tN_z (by omega)
          rw [e_v1] at xL
          have xL : lv_has ls 5 [(0, .ref x0), (1, .int (nI (tN v1))), (2, .int v2), (3, .int v3)] := xL
          have e_v2 : v2 = nI (tN v2) := tN_eq (by omega)
          have b_v2 : (tN v2 : Int) = v2.toInt := tN_z (by omega)
          rw [e_v2] at xL
          have xL : lv_has ls 5 [(0, .ref x0), (1, .int (nI (tN v1))), (2, .int (nI (tN v2))), (3, .int v3)] := xL
          refine lv_aload_n xE xB dX6_fault_43 rfl (lv_at xL 0 rfl) ?_
          refine va_get (D := G.1) (ci := 6) (v := .ref h.1) (C := RX6) (T := TX6) (N := 4) xE xB xT khX6_fault_X6 xO xK.1 xP 0 rfl rfl 2 (by decide) (xT _ kX6_fault_f22) (fun _ h9 => h9) rfl dX6_fault_44 ?_
          refine lv_aload_n xE xB dX6_fault_47 rfl (lv_at xL 0 rfl) ?_
          refine va_get (D := G.1) (ci := 6) (v := .ref na.1) (C := RX6) (T := TX6) (N := 4) xE xB xT khX6_fault_X6 xO xK.1 xP 0 rfl rfl 0 (by decide) (xT _ kX6_fault_f10) (fun _ h9 => h9) rfl dX6_fault_48 ?_
          refine q_VVL (As := [.ref na.1]) (rest := []) ⟨xE, xB, xM, xO, xT⟩ (kX0_remember l G h hn u0 u1 u2 u3 na ((n, o, kf), (lr, lc, L), (rr, rc, R), (sr, sc, Z), (b, ta, tb, th, tw, tt, tn, sm0, mt, rw, dn)) pst s (by exact hh) (by exact hH) (by exact hR)) (cwV 1 xT gX6_fault_X0_remember rfl rfl rfl (by decide +kernel) ⟨Nat.le_of_ble_eq_true rfl, Nat.le_of_ble_eq_true rfl⟩) xK xP xD xS [3, 1] [0, 2, 4] 5 rfl (by decide) (Lc := [wHf G h (hn, u0, u1, u2, u3), wS G na ((n, o, kf), (lr, lc, L), (rr, rc, R), (sr, sc, Z), (b, ta, tb, th, tw, tt, tn, sm0, mt, rw, dn))]) rfl (by simp only [List.flatten_cons, List.flatten_nil, List.append_nil, List.append_assoc]) (fun u_51 => [[(x0, .inr (6, [.ref na.1, .ref tra.1, .ref h.1, .ref k.1]))], wS G na ((n, o, kf), (lr, lc, L), (rr, rc, R), (sr, sc, Z), (b, ta, tb, th, tw, tt, tn, sm0, mt, rw, dn)), wS G tra v, wHf G (h.1, h.2.1, u_51.1, u_51.2.1, u_51.2.2.1, u_51.2.2.2.1) (chgN hn, u_51.2.2.2.2.1, u_51.2.2.2.2.2.1, u_51.2.2.2.2.2.2.1, u_51.2.2.2.2.2.2.2), wX G k w]) (fun u_51 => [wHf G (h.1, h.2.1, u_51.1, u_51.2.1, u_51.2.2.1, u_51.2.2.2.1) (chgN hn, u_51.2.2.2.2.1, u_51.2.2.2.2.2.1, u_51.2.2.2.2.2.2.1, u_51.2.2.2.2.2.2.2), wS G na ((n, o, kf), (lr, lc, L), (rr, rc, R), (sr, sc, Z), (b, ta, tb, th, tw, tt, tn, sm0, mt, rw, dn))]) (fun _ => rfl) (fun _ => rfl) (fun _ => by simp only [List.flatten_cons, List.flatten_nil, List.append_nil, List.append_assoc]) (fun _ => rfl) 0 rfl rfl rfl rfl xL.1 rfl (Nat.le_of_ble_eq_true rfl) dX6_fault_51 ⟨Nat.le_refl _, Nat.le_refl _⟩ (fun u_51 H locs h_51 xP xD xS => ?_)
          have h_51 : HRel (chgN hn) u_51.2.2.2.2.1 u_51.2.2.2.2.2.1 u_51.2.2.2.2.2.2.1 u_51.2.2.2.2.2.2.2 (chgP s pst hn) := h_51
          refine lv_aload_n xE xB dX6_fault_54 rfl (lv_at xL 0 rfl) ?_
          refine va_get (D := G.1) (ci := 6) (v := .ref na.1) (C := RX6) (T := TX6) (N := 4) xE xB xT khX6_fault_X6 xO xK.1 xP 0 rfl rfl 0 (by decide) (xT _ kX6_fault_f10) (fun _ h9 => h9) rfl dX6_fault_55 ?_
          refine va_get (D := G.1) (ci := 3) (v := .ref na.2.1.1) (C := RX3) (T := TX3) (N := 5) xE xB xT khX6_fault_X3 xO xK.1 xP 1 rfl rfl 0 (by decide) (xT _ kX6_fault_f38) (fun _ h9 => h9) rfl dX6_fault_58 ?_
          refine lv_iload_n xE xB dX6_fault_61 rfl (lv_at xL 1 rfl) ?_
          refine lv_iload_n xE xB dX6_fault_62 rfl (lv_at xL 2 rfl) ?_
          refine q_VR (As := [.int (nI (tN v1)), .int (nI (tN v2))]) (rest := []) ⟨xE, xB, xM, xO, xT⟩ (kX2_kindAt l G na.2.1 n o kf (tN v1) (tN v2) (by omega) (by omega) (by omega)) (cwV 2 xT gX6_fault_X2_kindAt rfl rfl rfl (by decide +kernel) ⟨Nat.le_of_ble_eq_true rfl, Nat.le_of_ble_eq_true rfl⟩) xK xP [2, 3] rfl 0 rfl rfl rfl rfl xL.1 rfl (Nat.le_of_ble_eq_true rfl) dX6_fault_63 ⟨Nat.le_refl _, Nat.le_refl _⟩ (fun r_63 h_63 => ?_)
          obtain rfl : r_63 = kf (5 * (tN v1) + (tN v2)) := h_63
          refine lv_istore (lv' := [(4, .int (kf (5 * (tN v1) + (tN v2)))), (0, .ref x0), (1, .int (nI (tN v1))), (2, .int (nI (tN v2))), (3, .int v3)]) xE xB dX6_fault_66 xL (by decide) rfl (fun ls xL => ?_)
          refine lv_aload_n xE xB dX6_fault_68 rfl (lv_at xL 1 rfl) ?_
          refine va_get (D := G.1) (ci := 6) (v := .ref na.1) (C := RX6) (T := TX6) (N := 4) xE xB xT khX6_fault_X6 xO xK.1 xP 0 rfl rfl 0 (by decide) (xT _ kX6_fault_f10) (fun _ h9 => h9) rfl dX6_fault_69 ?_
          refine va_get (D := G.1) (ci := 3) (v := .ref na.2.1.1) (C := RX3) (T := TX3) (N := 5) xE xB xT khX6_fault_X3 xO xK.1 xP 1 rfl rfl 0 (by decide) (xT _ kX6_fault_f38) (fun _ h9 => h9) rfl dX6_fault_72 ?_
          refine lv_iload_n xE xB dX6_fault_75 rfl (lv_at xL 2 rfl) ?_
          refine lv_iload_n xE xB dX6_fault_76 rfl (lv_at xL 3 rfl) ?_
          refine lv_iload_n xE xB dX6_fault_77 rfl (lv_at xL 4 rfl) ?_
          refine q_VV (As := [.int (nI (tN v1)), .int (nI (tN v2)), .int v3]) (rest := []) ⟨xE, xB, xM, xO, xT⟩ (kX2_setKind l G na.2.1 n o kf (tN v1) (tN v2) v3 (by omega) (by omega) (by omega)) (cwV 3 xT gX6_fault_X2_setKind rfl rfl rfl (by decide +kernel) ⟨Nat.le_of_ble_eq_true rfl, Nat.le_of_ble_eq_true rfl⟩) xK xP xD xS [2, 3] rfl (by decide +kernel) (fun _ => rfl) 0 rfl rfl rfl rfl xL.1 rfl (Nat.le_of_ble_eq_true rfl) dX6_fault_78 ⟨Nat.le_refl _, Nat.le_refl _⟩ (fun u_78 H locs h_78 xP xD xS => ?_)
          have xP : va_P G.1 vwCl (List.flatten [[(x0, .inr (6, [.ref na.1, .ref tra.1, .ref h.1, .ref k.1]))], wS G na ((n, o, upd kf (5 * (tN v1) + (tN v2)) v3), (lr, lc, L), (rr, rc, R), (sr, sc, Z), (b, ta, tb, th, tw, tt, tn, sm0, mt, rw, dn)), wS G tra v, wHf G (h.1, h.2.1, u_51.1, u_51.2.1, u_51.2.2.1, u_51.2.2.2.1) (chgN hn, u_51.2.2.2.2.1, u_51.2.2.2.2.2.1, u_51.2.2.2.2.2.2.1, u_51.2.2.2.2.2.2.2), wX G k w]) H := xP
          have xD : va_D A (List.flatten [[(x0, .inr (6, [.ref na.1, .ref tra.1, .ref h.1, .ref k.1]))], wS G na ((n, o, upd kf (5 * (tN v1) + (tN v2)) v3), (lr, lc, L), (rr, rc, R), (sr, sc, Z), (b, ta, tb, th, tw, tt, tn, sm0, mt, rw, dn)), wS G tra v, wHf G (h.1, h.2.1, u_51.1, u_51.2.1, u_51.2.2.1, u_51.2.2.2.1) (chgN hn, u_51.2.2.2.2.1, u_51.2.2.2.2.2.1, u_51.2.2.2.2.2.2.1, u_51.2.2.2.2.2.2.2), wX G k w]) := xD
          refine lv_iload xE xB dX6_fault_81 (lv_at xL 0 rfl) ?_
          exact xQ _ _ _ _ _ (((n, o, upd kf (5 * (tN v1) + (tN v2)) v3), (lr, lc, L), (rr, rc, R), (sr, sc, Z), (b, ta, tb, th, tw, tt, tn, sm0, mt, rw, dn)), u_51.1, u_51.2.1, u_51.2.2.1, u_51.2.2.2.1, (chgN hn, u_51.2.2.2.2.1, u_51.2.2.2.2.2.1, u_51.2.2.2.2.2.2.1, u_51.2.2.2.2.2.2.2)) (by rw [show opFault n b v1 v2 v3 s pst hn = (s (153 + 5 * tN v1 + tN v2), upd s (153 + 5 * tN v1 + tN v2) v3, chgP s pst hn, chgN hn) from (if_pos (by omega)).trans (if_neg (by omega))]; exact ⟨get_K hR (by omega), rel_fault hR (by omega) (by omega) (by omega) (by omega), rfl, chgN_4 hh, h_51⟩) xP xD xS dX6_fault_83
        · skip
          refine lv_ldc (v := (-1000002)) xE xB xO (xT _ kX6_fault_c93) dX6_fault_40 ?_
          exact xQ _ _ _ _ _ (((n, o, kf), (lr, lc, L), (rr, rc, R), (sr, sc, Z), (b, ta, tb, th, tw, tt, tn, sm0, mt, rw, dn)), h.2.2.1, h.2.2.2.1, h.2.2.2.2.1, h.2.2.2.2.2, (hn, u0, u1, u2, u3)) (by rw [show opFault n b v1 v2 v3 s pst hn = (kNP, s, pst, hn) from (if_pos (by omega)).trans (if_pos (by omega))]; exact ⟨rfl, hR, rfl, hh, hH⟩) xP xD xS dX6_fault_42
      · skip
        refine lv_ldc (v := (-1000001)) xE xB xO (xT _ kX6_fault_c33) dX6_fault_24 ?_
        exact xQ _ _ _ _ _ (((n, o, kf), (lr, lc, L), (rr, rc, R), (sr, sc, Z), (b, ta, tb, th, tw, tt, tn, sm0, mt, rw, dn)), h.2.2.1, h.2.2.2.1, h.2.2.2.2.1, h.2.2.2.2.2, (hn, u0, u1, u2, u3)) (by (try rw [vp_in_iff, vp_in_iff] at c_9); (try (first | replace c_16 := ti_neg c_16 | replace c_16 := ti_nneg c_16 | replace c_16 := ti_lt c_16 | replace c_16 := ti_nlt c_16 | replace c_16 := ti_gt c_16 | replace c_16 := ti_ngt c_16 | replace c_16 := ti_le c_16 | replace c_16 := ti_nle c_16 | replace c_16 := ti_ge c_16 | replace c_16 := ti_nge c_16 | replace c_16 := ti_z c_16 | replace c_16 := ti_nz c_16 | replace c_16 := ti_eq c_16 | replace c_16 := ti_ne c_16)); (try (first | replace c_21 := ti_neg c_21 | replace c_21 := ti_nneg c_21 | replace c_21 := ti_lt c_21 | replace c_21 := ti_nlt c_21 | replace c_21 := ti_gt c_21 | replace c_21 := ti_ngt c_21 | replace c_21 := ti_le c_21 | replace c_21 := ti_nle c_21 | replace c_21 := ti_ge c_21 | replace c_21 := ti_nge c_21 | replace c_21 := ti_z c_21 | replace c_21 := ti_nz c_21 | replace c_21 := ti_eq c_21 | replace c_21 := ti_ne c_21)); rw [show opFault n b v1 v2 v3 s pst hn = (kINV, s, pst, hn) from if_neg (by omega)]; exact ⟨rfl, hR, rfl, hh, hH⟩) xP xD xS dX6_fault_26
  · skip
    subst h_9
    have c_9 : ¬ (vp_in v1 n ∧ vp_in v2 (n + 1)) := c_9
    refine lv_if_eq (tgt := 24) xE xB dX6_fault_12 (by decide) (fun _ => ?_) (fun h9 => absurd (by decide) h9)
    refine lv_ldc (v := (-1000001)) xE xB xO (xT _ kX6_fault_c33) dX6_fault_24 ?_
    exact xQ _ _ _ _ _ (((n, o, kf), (lr, lc, L), (rr, rc, R), (sr, sc, Z), (b, ta, tb, th, tw, tt, tn, sm0, mt, rw, dn)), h.2.2.1, h.2.2.2.1, h.2.2.2.2.1, h.2.2.2.2.2, (hn, u0, u1, u2, u3)) (by (try rw [vp_in_iff, vp_in_iff] at c_9); (try (first | replace c_16 := ti_neg c_16 | replace c_16 := ti_nneg c_16 | replace c_16 := ti_lt c_16 | replace c_16 := ti_nlt c_16 | replace c_16 := ti_gt c_16 | replace c_16 := ti_ngt c_16 | replace c_16 := ti_le c_16 | replace c_16 := ti_nle c_16 | replace c_16 := ti_ge c_16 | replace c_16 := ti_nge c_16 | replace c_16 := ti_z c_16 | replace c_16 := ti_nz c_16 | replace c_16 := ti_eq c_16 | replace c_16 := ti_ne c_16)); (try (first | replace c_21 := ti_neg c_21 | replace c_21 := ti_nneg c_21 | replace c_21 := ti_lt c_21 | replace c_21 := ti_nlt c_21 | replace c_21 := ti_gt c_21 | replace c_21 := ti_ngt c_21 | replace c_21 := ti_le c_21 | replace c_21 := ti_nle c_21 | replace c_21 := ti_ge c_21 | replace c_21 := ti_nge c_21 | replace c_21 := ti_z c_21 | replace c_21 := ti_nz c_21 | replace c_21 := ti_eq c_21 | replace c_21 := ti_ne c_21)); rw [show opFault n b v1 v2 v3 s pst hn = (kINV, s, pst, hn) from if_neg (by omega)]; exact ⟨rfl, hR, rfl, hh, hH⟩) xP xD xS dX6_fault_26
theorem kX6_leave_c33 : Cond.constant RX6 33 (-1000001) ∈ wsX6_leave := by decide +kernel
theorem kX6_leave_c93 : Cond.constant RX6 93 (-1000002) ∈ wsX6_leave := by decide +kernel
theorem kX6_leave_f10 : Cond.fieldLink RX6 10 "SkewedSquare" "now" "LSkewedSquare$State;" ∈ wsX6_leave := by decide +kernel
theorem kX6_leave_f101 : Cond.fieldLink RX6 101 "SkewedSquare$Square" "leftOut" "I" ∈ wsX6_leave := by decide +kernel
theorem kX6_leave_f22 : Cond.fieldLink RX6 22 "SkewedSquare" "history" "LSkewedSquare$History;" ∈ wsX6_leave := by decide +kernel
theorem kX6_leave_f38 : Cond.fieldLink RX6 38 "SkewedSquare$State" "square" "LSkewedSquare$Square;" ∈ wsX6_leave := by decide +kernel
theorem kX6_leave_f42 : Cond.fieldLink RX6 42 "SkewedSquare$Square" "side" "I" ∈ wsX6_leave := by decide +kernel
theorem kX6_leave_f52 : Cond.fieldLink RX6 52 "SkewedSquare$State" "tile" "LSkewedSquare$Tile;" ∈ wsX6_leave := by decide +kernel
theorem kX6_leave_f56 : Cond.fieldLink RX6 56 "SkewedSquare$Tile" "begun" "Z" ∈ wsX6_leave := by decide +kernel
theorem khX6_leave_X2 : ∀ w ∈ u_ws RX2 TX2 3, w ∈ wsX6_leave := by decide +kernel
theorem khX6_leave_X3 : ∀ w ∈ u_ws RX3 TX3 5, w ∈ wsX6_leave := by decide +kernel
theorem khX6_leave_X5 : ∀ w ∈ u_ws RX5 TX5 11, w ∈ wsX6_leave := by decide +kernel
theorem khX6_leave_X6 : ∀ w ∈ u_ws RX6 TX6 4, w ∈ wsX6_leave := by decide +kernel
set_option maxHeartbeats 4000000 in
set_option maxRecDepth 100000 in
/-- kX6_leave -/
theorem kX6_leave (l : Launch) (G : wG) (x0 : Nat) (na tra : SA) (h : HA) (k : XA) (n o : Nat) (kf : wF) (lr lc : Nat) (L : wF) (rr rc : Nat) (R : wF) (sr sc : Nat) (Z : wF) (b ta tb th tw tt tn : Nat) (sm0 mt rw dn : wF) (v : SD) (hn : Nat) (u0 u1 u2 u3 : SD) (w : XD) (s : wF) (pst : PF) (v1 : Int32) (hR : RelS ((n, o, kf), (lr, lc, L), (rr, rc, R), (sr, sc, Z), (b, ta, tb, th, tw, tt, tn, sm0, mt, rw, dn)) s) (hh : hn ≤ 4) (hH : HRel hn u0 u1 u2 u3 pst) : CI (S := CS) l yX6_leave wsX6_leave (rm 4 81) G [.ref x0, .int v1] (List.flatten [[((x0, na.1, tra.1, h.1, k.1).1, .inr (6, [.ref ((x0, na.1, tra.1, h.1, k.1).2.1), .ref ((x0, na.1, tra.1, h.1, k.1).2.2.1), .ref ((x0, na.1, tra.1, h.1, k.1).2.2.2.1), .ref ((x0, na.1, tra.1, h.1, k.1).2.2.2.2)]))], wS G na ((n, o, kf), (lr, lc, L), (rr, rc, R), (sr, sc, Z), (b, ta, tb, th, tw, tt, tn, sm0, mt, rw, dn)), wS G tra v, wHf G h (hn, u0, u1, u2, u3), wX G k w]) (fun x u9 => PO x u9 (opLeave n o b v1 s pst hn)) (fun u9 => List.flatten [[((x0, na.1, tra.1, h.1, k.1).1, .inr (6, [.ref ((x0, na.1, tra.1, h.1, k.1).2.1), .ref ((x0, na.1, tra.1, h.1, k.1).2.2.1), .ref ((x0, na.1, tra.1, h.1, k.1).2.2.2.1), .ref ((x0, na.1, tra.1, h.1, k.1).2.2.2.2)]))], wS G na u9.1, wS G tra v, wHf G (h.1, h.2.1, u9.2.1, u9.2.2.1, u9.2.2.2.1, u9.2.2.2.2.1) u9.2.2.2.2.2, wX G k w]) := by
  refine CI.of (own := RX6) rfl (by decide) rfl (Nat.le_of_ble_eq_true rfl) ?_
  intro p9 e9 s9 m9 b9 t9 c9 A xE xB xM xO xT xK xP xD Q xQ xS ls hl
  have xL : lv_has ls 3 [(0, .ref x0), (1, .int v1)] := hl
  obtain ⟨hn1, hn2, hn3⟩ := hR.1.2.2.1
  obtain ⟨hm1, hm2, hm3, hm4, hm5, hm6⟩ := hR.2.2.1.2.2.2.1
  obtain ⟨hd1, hd2, hd3⟩ := hR.2.2.2.1
  have hb1 := hR.2.2.2.2.2.1.1
  refine lv_iload_n xE xB dX6_leave_0 rfl (lv_at xL 1 rfl) ?_
  refine lv_if_lt (tgt := 18) xE xB dX6_leave_1 (by decide) (fun c_1 => ?_) (fun c_1 => ?_)
  · skip
    refine lv_ldc (v := (-1000001)) xE xB xO (xT _ kX6_leave_c33) dX6_leave_18 ?_
    exact xQ _ _ _ _ _ (((n, o, kf), (lr, lc, L), (rr, rc, R), (sr, sc, Z), (b, ta, tb, th, tw, tt, tn, sm0, mt, rw, dn)), h.2.2.1, h.2.2.2.1, h.2.2.2.2.1, h.2.2.2.2.2, (hn, u0, u1, u2, u3)) (by (try (first | replace c_1 := ti_neg c_1 | replace c_1 := ti_nneg c_1 | replace c_1 := ti_lt c_1 | replace c_1 := ti_nlt c_1 | replace c_1 := ti_gt c_1 | replace c_1 := ti_ngt c_1 | replace c_1 := ti_le c_1 | replace c_1 := ti_nle c_1 | replace c_1 := ti_ge c_1 | replace c_1 := ti_nge c_1 | replace c_1 := ti_z c_1 | replace c_1 := ti_nz c_1 | replace c_1 := ti_eq c_1 | replace c_1 := ti_ne c_1)); (try (first | replace c_15 := ti_neg c_15 | replace c_15 := ti_nneg c_15 | replace c_15 := ti_lt c_15 | replace c_15 := ti_nlt c_15 | replace c_15 := ti_gt c_15 | replace c_15 := ti_ngt c_15 | replace c_15 := ti_le c_15 | replace c_15 := ti_nle c_15 | replace c_15 := ti_ge c_15 | replace c_15 := ti_nge c_15 | replace c_15 := ti_z c_15 | replace c_15 := ti_nz c_15 | replace c_15 := ti_eq c_15 | replace c_15 := ti_ne c_15)); rw [show opLeave n o b v1 s pst hn = (kINV, s, pst, hn) from if_neg (by omega)]; exact ⟨rfl, hR, rfl, hh, hH⟩) xP xD xS dX6_leave_20
  · skip
    refine lv_iload_n xE xB dX6_leave_4 rfl (lv_at xL 1 rfl) ?_
    refine lv_aload_n xE xB dX6_leave_5 rfl (lv_at xL 0 rfl) ?_
    refine va_get (D := G.1) (ci := 6) (v := .ref na.1) (C := RX6) (T := TX6) (N := 4) xE xB xT khX6_leave_X6 xO xK.1 xP 0 rfl rfl 0 (by decide) (xT _ kX6_leave_f10) (fun _ h9 => h9) rfl dX6_leave_6 ?_
    refine va_get (D := G.1) (ci := 3) (v := .ref na.2.1.1) (C := RX3) (T := TX3) (N := 5) xE xB xT khX6_leave_X3 xO xK.1 xP 1 rfl rfl 0 (by decide) (xT _ kX6_leave_f38) (fun _ h9 => h9) rfl dX6_leave_9 ?_
    refine va_get (D := G.1) (ci := 2) (v := .int (nI n)) (C := RX2) (T := TX2) (N := 3) xE xB xT khX6_leave_X2 xO xK.1 xP 2 rfl rfl 0 (by decide) (xT _ kX6_leave_f42) (fun _ h9 => h9) rfl dX6_leave_12 ?_
    refine lv_icmp_le (tgt := 21) xE xB dX6_leave_15 (by decide) (fun c_15 => ?_) (fun c_15 => ?_)
    · skip
      (try (first | replace c_1 := ti_neg c_1 | replace c_1 := ti_nneg c_1 | replace c_1 := ti_lt c_1 | replace c_1 := ti_nlt c_1 | replace c_1 := ti_gt c_1 | replace c_1 := ti_ngt c_1 | replace c_1 := ti_le c_1 | replace c_1 := ti_nle c_1 | replace c_1 := ti_ge c_1 | replace c_1 := ti_nge c_1 | replace c_1 := ti_z c_1 | replace c_1 := ti_nz c_1 | replace c_1 := ti_eq c_1 | replace c_1 := ti_ne c_1)); (try (first | replace c_15 := ti_neg c_15 | replace c_15 := ti_nneg c_15 | replace c_15 := ti_lt c_15 | replace c_15 := ti_nlt c_15 | replace c_15 := ti_gt c_15 | replace c_15 := ti_ngt c_15 | replace c_15 := ti_le c_15 | replace c_15 := ti_nle c_15 | replace c_15 := ti_ge c_15 | replace c_15 := ti_nge c_15 | replace c_15 := ti_z c_15 | replace c_15 := ti_nz c_15 | replace c_15 := ti_eq c_15 | replace c_15 := ti_ne c_15))
      refine lv_aload_n xE xB dX6_leave_21 rfl (lv_at xL 0 rfl) ?_
      refine va_get (D := G.1) (ci := 6) (v := .ref na.1) (C := RX6) (T := TX6) (N := 4) xE xB xT khX6_leave_X6 xO xK.1 xP 0 rfl rfl 0 (by decide) (xT _ kX6_leave_f10) (fun _ h9 => h9) rfl dX6_leave_22 ?_
      refine va_get (D := G.1) (ci := 3) (v := .ref na.2.2.2.2.2.1) (C := RX3) (T := TX3) (N := 5) xE xB xT khX6_leave_X3 xO xK.1 xP 1 rfl rfl 4 (by decide) (xT _ kX6_leave_f52) (fun _ h9 => h9) rfl dX6_leave_25 ?_
      refine va_get (D := G.1) (ci := 5) (v := .int (nI b)) (C := RX5) (T := TX5) (N := 11) xE xB xT khX6_leave_X5 xO xK.1 xP 10 rfl rfl 0 (by decide) (xT _ kX6_leave_f56) (fun _ h9 => h9) rfl dX6_leave_28 ?_
      refine q_if_eq (tgt := 37) xE xB dX6_leave_31 (by decide) (by omega) (fun c_31 => ?_) (fun c_31 => ?_)
      · skip
        have e_v1 : v1 = nI (tN v1) := tN_eq (by omega)
        have b_v1 : (tN v1 : Int) = v1.toInt := tN_z (by omega)
        rw [e_v1] at xL
        have xL : lv_has ls 3 [(0, .ref x0), (1, .int (nI (tN v1)))] := xL
        refine lv_aload_n xE xB dX6_leave_37 rfl (lv_at xL 0 rfl) ?_
        refine va_get (D := G.1) (ci := 6) (v := .ref h.1) (C := RX6) (T := TX6) (N := 4) xE xB xT khX6_leave_X6 xO xK.1 xP 0 rfl rfl 2 (by decide) (xT _ kX6_leave_f22) (fun _ h9 => h9) rfl dX6_leave_38 ?_
        refine lv_aload_n xE xB dX6_leave_41 rfl (lv_at xL 0 rfl) ?_
        refine va_get (D := G.1) (ci := 6) (v := .ref na.1) (C := RX6) (T := TX6) (N := 4) xE xB xT khX6_leave_X6 xO xK.1 xP 0 rfl rfl 0 (by decide) (xT _ kX6_leave_f10) (fun _ h9 => h9) rfl dX6_leave_42 ?_
        refine q_VVL (As := [.ref na.1]) (rest := []) ⟨xE, xB, xM, xO, xT⟩ (kX0_remember l G h hn u0 u1 u2 u3 na ((n, o, kf), (lr, lc, L), (rr, rc, R), (sr, sc, Z), (b, ta, tb, th, tw, tt, tn, sm0, mt, rw, dn)) pst s (by exact hh) (by exact hH) (by exact hR)) (cwV 1 xT gX6_leave_X0_remember rfl rfl rfl (by decide +kernel) ⟨Nat.le_of_ble_eq_true rfl, Nat.le_of_ble_eq_true rfl⟩) xK xP xD xS [3, 1] [0, 2, 4] 5 rfl (by decide) (Lc := [wHf G h (hn, u0, u1, u2, u3), wS G na ((n, o, kf), (lr, lc, L), (rr, rc, R), (sr, sc, Z), (b, ta, tb, th, tw, tt, tn, sm0, mt, rw, dn))]) rfl (by simp only [List.flatten_cons, List.flatten_nil, List.append_nil, List.append_assoc]) (fun u_45 => [[(x0, .inr (6, [.ref na.1, .ref tra.1, .ref h.1, .ref k.1]))], wS G na ((n, o, kf), (lr, lc, L), (rr, rc, R), (sr, sc, Z), (b, ta, tb, th, tw, tt, tn, sm0, mt, rw, dn)), wS G tra v, wHf G (h.1, h.2.1, u_45.1, u_45.2.1, u_45.2.2.1, u_45.2.2.2.1) (chgN hn, u_45.2.2.2.2.1, u_45.2.2.2.2.2.1, u_45.2.2.2.2.2.2.1, u_45.2.2.2.2.2.2.2), wX G k w]) (fun u_45 => [wHf G (h.1, h.2.1, u_45.1, u_45.2.1, u_45.2.2.1, u_45.2.2.2.1) (chgN hn, u_45.2.2.2.2.1, u_45.2.2.2.2.2.1, u_45.2.2.2.2.2.2.1, u_45.2.2.2.2.2.2.2), wS G na ((n, o, kf), (lr, lc, L), (rr, rc, R), (sr, sc, Z), (b, ta, tb, th, tw, tt, tn, sm0, mt, rw, dn))]) (fun _ => rfl) (fun _ => rfl) (fun _ => by simp only [List.flatten_cons, List.flatten_nil, List.append_nil, List.append_assoc]) (fun _ => rfl) 0 rfl rfl rfl rfl xL.1 rfl (Nat.le_of_ble_eq_true rfl) dX6_leave_45 ⟨Nat.le_refl _, Nat.le_refl _⟩ (fun u_45 H locs h_45 xP xD xS => ?_)
        have h_45 : HRel (chgN hn) u_45.2.2.2.2.1 u_45.2.2.2.2.2.1 u_45.2.2.2.2.2.2.1 u_45.2.2.2.2.2.2.2 (chgP s pst hn) := h_45
        refine lv_aload_n xE xB dX6_leave_48 rfl (lv_at xL 0 rfl) ?_
        refine va_get (D := G.1) (ci := 6) (v := .ref na.1) (C := RX6) (T := TX6) (N := 4) xE xB xT khX6_leave_X6 xO xK.1 xP 0 rfl rfl 0 (by decide) (xT _ kX6_leave_f10) (fun _ h9 => h9) rfl dX6_leave_49 ?_
        refine va_get (D := G.1) (ci := 3) (v := .ref na.2.1.1) (C := RX3) (T := TX3) (N := 5) xE xB xT khX6_leave_X3 xO xK.1 xP 1 rfl rfl 0 (by decide) (xT _ kX6_leave_f38) (fun _ h9 => h9) rfl dX6_leave_52 ?_
        refine va_get (D := G.1) (ci := 2) (v := .int (nI o)) (C := RX2) (T := TX2) (N := 3) xE xB xT khX6_leave_X2 xO xK.1 xP 2 rfl rfl 1 (by decide) (xT _ kX6_leave_f101) (fun _ h9 => h9) rfl dX6_leave_55 ?_
        refine lv_istore_n (lv' := [(2, .int (nI o)), (0, .ref x0), (1, .int (nI (tN v1)))]) xE xB dX6_leave_58 rfl xL (by decide) rfl (fun ls xL => ?_)
        refine lv_aload_n xE xB dX6_leave_59 rfl (lv_at xL 1 rfl) ?_
        refine va_get (D := G.1) (ci := 6) (v := .ref na.1) (C := RX6) (T := TX6) (N := 4) xE xB xT khX6_leave_X6 xO xK.1 xP 0 rfl rfl 0 (by decide) (xT _ kX6_leave_f10) (fun _ h9 => h9) rfl dX6_leave_60 ?_
        refine va_get (D := G.1) (ci := 3) (v := .ref na.2.1.1) (C := RX3) (T := TX3) (N := 5) xE xB xT khX6_leave_X3 xO xK.1 xP 1 rfl rfl 0 (by decide) (xT _ kX6_leave_f38) (fun _ h9 => h9) rfl dX6_leave_63 ?_
        refine lv_iload_n xE xB dX6_leave_66 rfl (lv_at xL 2 rfl) ?_
        refine va_put (D := G.1) (ci := 2) (v := .int (nI (tN v1))) (ty := .int) (C := RX2) (T := TX2) (N := 3) xE xB xT khX6_leave_X2 tyX2 tyX2_ok nmX2 xO xK.1 xP xD xS 2 rfl rfl 1 (by decide) (xT _ kX6_leave_f101) (fun _ h9 => h9) rfl (by decide +kernel) rfl rfl (Nat.le_of_ble_eq_true rfl) dX6_leave_67 (fun H locs xP xD xS => ?_)
        have xP : va_P G.1 vwCl (List.flatten [[(x0, .inr (6, [.ref na.1, .ref tra.1, .ref h.1, .ref k.1]))], wS G na ((n, tN v1, kf), (lr, lc, L), (rr, rc, R), (sr, sc, Z), (b, ta, tb, th, tw, tt, tn, sm0, mt, rw, dn)), wS G tra v, wHf G (h.1, h.2.1, u_45.1, u_45.2.1, u_45.2.2.1, u_45.2.2.2.1) (chgN hn, u_45.2.2.2.2.1, u_45.2.2.2.2.2.1, u_45.2.2.2.2.2.2.1, u_45.2.2.2.2.2.2.2), wX G k w]) H := xP
        have xD : va_D A (List.flatten [[(x0, .inr (6, [.ref na.1, .ref tra.1, .ref h.1, .ref k.1]))], wS G na ((n, tN v1, kf), (lr, lc, L), (rr, rc, R), (sr, sc, Z), (b, ta, tb, th, tw, tt, tn, sm0, mt, rw, dn)), wS G tra v, wHf G (h.1, h.2.1, u_45.1, u_45.2.1, u_45.2.2.1, u_45.2.2.2.1) (chgN hn, u_45.2.2.2.2.1, u_45.2.2.2.2.2.1, u_45.2.2.2.2.2.2.1, u_45.2.2.2.2.2.2.2), wX G k w]) := xD
        refine lv_iload_n xE xB dX6_leave_70 rfl (lv_at xL 0 rfl) ?_
        exact xQ _ _ _ _ _ (((n, tN v1, kf), (lr, lc, L), (rr, rc, R), (sr, sc, Z), (b, ta, tb, th, tw, tt, tn, sm0, mt, rw, dn)), u_45.1, u_45.2.1, u_45.2.2.1, u_45.2.2.2.1, (chgN hn, u_45.2.2.2.2.1, u_45.2.2.2.2.2.1, u_45.2.2.2.2.2.2.1, u_45.2.2.2.2.2.2.2)) (by rw [show opLeave n o b v1 s pst hn = (nI o, upd s 4 v1, chgP s pst hn, chgN hn) from (if_pos (by omega)).trans (if_neg (by omega))]; exact ⟨rfl, rel_leave hR (by omega) (by omega) e_v1, rfl, chgN_4 hh, h_45⟩) xP xD xS dX6_leave_71
      · skip
        refine lv_ldc (v := (-1000002)) xE xB xO (xT _ kX6_leave_c93) dX6_leave_34 ?_
        exact xQ _ _ _ _ _ (((n, o, kf), (lr, lc, L), (rr, rc, R), (sr, sc, Z), (b, ta, tb, th, tw, tt, tn, sm0, mt, rw, dn)), h.2.2.1, h.2.2.2.1, h.2.2.2.2.1, h.2.2.2.2.2, (hn, u0, u1, u2, u3)) (by rw [show opLeave n o b v1 s pst hn = (kNP, s, pst, hn) from (if_pos (by omega)).trans (if_pos (by omega))]; exact ⟨rfl, hR, rfl, hh, hH⟩) xP xD xS dX6_leave_36
    · skip
      refine lv_ldc (v := (-1000001)) xE xB xO (xT _ kX6_leave_c33) dX6_leave_18 ?_
      exact xQ _ _ _ _ _ (((n, o, kf), (lr, lc, L), (rr, rc, R), (sr, sc, Z), (b, ta, tb, th, tw, tt, tn, sm0, mt, rw, dn)), h.2.2.1, h.2.2.2.1, h.2.2.2.2.1, h.2.2.2.2.2, (hn, u0, u1, u2, u3)) (by (try (first | replace c_1 := ti_neg c_1 | replace c_1 := ti_nneg c_1 | replace c_1 := ti_lt c_1 | replace c_1 := ti_nlt c_1 | replace c_1 := ti_gt c_1 | replace c_1 := ti_ngt c_1 | replace c_1 := ti_le c_1 | replace c_1 := ti_nle c_1 | replace c_1 := ti_ge c_1 | replace c_1 := ti_nge c_1 | replace c_1 := ti_z c_1 | replace c_1 := ti_nz c_1 | replace c_1 := ti_eq c_1 | replace c_1 := ti_ne c_1)); (try (first | replace c_15 := ti_neg c_15 | replace c_15 := ti_nneg c_15 | replace c_15 := ti_lt c_15 | replace c_15 := ti_nlt c_15 | replace c_15 := ti_gt c_15 | replace c_15 := ti_ngt c_15 | replace c_15 := ti_le c_15 | replace c_15 := ti_nle c_15 | replace c_15 := ti_ge c_15 | replace c_15 := ti_nge c_15 | replace c_15 := ti_z c_15 | replace c_15 := ti_nz c_15 | replace c_15 := ti_eq c_15 | replace c_15 := ti_ne c_15)); rw [show opLeave n o b v1 s pst hn = (kINV, s, pst, hn) from if_neg (by omega)]; exact ⟨rfl, hR, rfl, hh, hH⟩) xP xD xS dX6_leave_20
theorem kX6_begin_c33 : Cond.constant RX6 33 (-1000001) ∈ wsX6_begin := by decide +kernel
theorem kX6_begin_c93 : Cond.constant RX6 93 (-1000002) ∈ wsX6_begin := by decide +kernel
theorem kX6_begin_f10 : Cond.fieldLink RX6 10 "SkewedSquare" "now" "LSkewedSquare$State;" ∈ wsX6_begin := by decide +kernel
theorem kX6_begin_f22 : Cond.fieldLink RX6 22 "SkewedSquare" "history" "LSkewedSquare$History;" ∈ wsX6_begin := by decide +kernel
theorem kX6_begin_f52 : Cond.fieldLink RX6 52 "SkewedSquare$State" "tile" "LSkewedSquare$Tile;" ∈ wsX6_begin := by decide +kernel
theorem kX6_begin_f56 : Cond.fieldLink RX6 56 "SkewedSquare$Tile" "begun" "Z" ∈ wsX6_begin := by decide +kernel
theorem khX6_begin_X3 : ∀ w ∈ u_ws RX3 TX3 5, w ∈ wsX6_begin := by decide +kernel
theorem khX6_begin_X5 : ∀ w ∈ u_ws RX5 TX5 11, w ∈ wsX6_begin := by decide +kernel
theorem khX6_begin_X6 : ∀ w ∈ u_ws RX6 TX6 4, w ∈ wsX6_begin := by decide +kernel
set_option maxHeartbeats 4000000 in
set_option maxRecDepth 100000 in
/-- kX6_begin -/
theorem kX6_begin (l : Launch) (G : wG) (x0 : Nat) (na tra : SA) (h : HA) (k : XA) (n o : Nat) (kf : wF) (lr lc : Nat) (L : wF) (rr rc : Nat) (R : wF) (sr sc : Nat) (Z : wF) (b ta tb th tw tt tn : Nat) (sm0 mt rw dn : wF) (v : SD) (hn : Nat) (u0 u1 u2 u3 : SD) (w : XD) (s : wF) (pst : PF) (v1 v2 : Int32) (hR : RelS ((n, o, kf), (lr, lc, L), (rr, rc, R), (sr, sc, Z), (b, ta, tb, th, tw, tt, tn, sm0, mt, rw, dn)) s) (hh : hn ≤ 4) (hH : HRel hn u0 u1 u2 u3 pst) : CI (S := CS) l yX6_begin wsX6_begin (rm 4 81) G [.ref x0, .int v1, .int v2] (List.flatten [[((x0, na.1, tra.1, h.1, k.1).1, .inr (6, [.ref ((x0, na.1, tra.1, h.1, k.1).2.1), .ref ((x0, na.1, tra.1, h.1, k.1).2.2.1), .ref ((x0, na.1, tra.1, h.1, k.1).2.2.2.1), .ref ((x0, na.1, tra.1, h.1, k.1).2.2.2.2)]))], wS G na ((n, o, kf), (lr, lc, L), (rr, rc, R), (sr, sc, Z), (b, ta, tb, th, tw, tt, tn, sm0, mt, rw, dn)), wS G tra v, wHf G h (hn, u0, u1, u2, u3), wX G k w]) (fun x u9 => PO x u9 (opBegin lc n lr rc b v1 v2 s pst hn)) (fun u9 => List.flatten [[((x0, na.1, tra.1, h.1, k.1).1, .inr (6, [.ref ((x0, na.1, tra.1, h.1, k.1).2.1), .ref ((x0, na.1, tra.1, h.1, k.1).2.2.1), .ref ((x0, na.1, tra.1, h.1, k.1).2.2.2.1), .ref ((x0, na.1, tra.1, h.1, k.1).2.2.2.2)]))], wS G na u9.1, wS G tra v, wHf G (h.1, h.2.1, u9.2.1, u9.2.2.1, u9.2.2.2.1, u9.2.2.2.2.1) u9.2.2.2.2.2, wX G k w]) := by
  refine CI.of (own := RX6) rfl (by decide) rfl (Nat.le_of_ble_eq_true rfl) ?_
  intro p9 e9 s9 m9 b9 t9 c9 A xE xB xM xO xT xK xP xD Q xQ xS ls hl
  have xL : lv_has ls 3 [(0, .ref x0), (1, .int v1), (2, .int v2)] := hl
  obtain ⟨hn1, hn2, hn3⟩ := hR.1.2.2.1
  obtain ⟨hm1, hm2, hm3, hm4, hm5, hm6⟩ := hR.2.2.1.2.2.2.1
  obtain ⟨hd1, hd2, hd3⟩ := hR.2.2.2.1
  have hb1 := hR.2.2.2.2.2.1.1
  have h61 : tls lr n ≤ 6 := tls_6 hm2 hn1
  have h62 : tls rc n ≤ 6 := tls_6 hm6 hn1
  refine lv_iload_n xE xB dX6_begin_0 rfl (lv_at xL 1 rfl) ?_
  refine lv_if_lt (tgt := 30) xE xB dX6_begin_1 (by decide) (fun c_1 => ?_) (fun c_1 => ?_)
  · skip
    refine lv_ldc (v := (-1000001)) xE xB xO (xT _ kX6_begin_c33) dX6_begin_30 ?_
    exact xQ _ _ _ _ _ (((n, o, kf), (lr, lc, L), (rr, rc, R), (sr, sc, Z), (b, ta, tb, th, tw, tt, tn, sm0, mt, rw, dn)), h.2.2.1, h.2.2.2.1, h.2.2.2.2.1, h.2.2.2.2.2, (hn, u0, u1, u2, u3)) (by (try (first | replace c_1 := ti_neg c_1 | replace c_1 := ti_nneg c_1 | replace c_1 := ti_lt c_1 | replace c_1 := ti_nlt c_1 | replace c_1 := ti_gt c_1 | replace c_1 := ti_ngt c_1 | replace c_1 := ti_le c_1 | replace c_1 := ti_nle c_1 | replace c_1 := ti_ge c_1 | replace c_1 := ti_nge c_1 | replace c_1 := ti_z c_1 | replace c_1 := ti_nz c_1 | replace c_1 := ti_eq c_1 | replace c_1 := ti_ne c_1)); (try (first | replace c_12 := ti_neg c_12 | replace c_12 := ti_nneg c_12 | replace c_12 := ti_lt c_12 | replace c_12 := ti_nlt c_12 | replace c_12 := ti_gt c_12 | replace c_12 := ti_ngt c_12 | replace c_12 := ti_le c_12 | replace c_12 := ti_nle c_12 | replace c_12 := ti_ge c_12 | replace c_12 := ti_nge c_12 | replace c_12 := ti_z c_12 | replace c_12 := ti_nz c_12 | replace c_12 := ti_eq c_12 | replace c_12 := ti_ne c_12)); (try (first | replace c_16 := ti_neg c_16 | replace c_16 := ti_nneg c_16 | replace c_16 := ti_lt c_16 | replace c_16 := ti_nlt c_16 | replace c_16 := ti_gt c_16 | replace c_16 := ti_ngt c_16 | replace c_16 := ti_le c_16 | replace c_16 := ti_nle c_16 | replace c_16 := ti_ge c_16 | replace c_16 := ti_nge c_16 | replace c_16 := ti_z c_16 | replace c_16 := ti_nz c_16 | replace c_16 := ti_eq c_16 | replace c_16 := ti_ne c_16)); (try (first | replace c_27 := ti_neg c_27 | replace c_27 := ti_nneg c_27 | replace c_27 := ti_lt c_27 | replace c_27 := ti_nlt c_27 | replace c_27 := ti_gt c_27 | replace c_27 := ti_ngt c_27 | replace c_27 := ti_le c_27 | replace c_27 := ti_nle c_27 | replace c_27 := ti_ge c_27 | replace c_27 := ti_nge c_27 | replace c_27 := ti_z c_27 | replace c_27 := ti_nz c_27 | replace c_27 := ti_eq c_27 | replace c_27 := ti_ne c_27)); rw [show opBegin lc n lr rc b v1 v2 s pst hn = (kINV, s, pst, hn) from if_neg (by omega)]; exact ⟨rfl, hR, rfl, hh, hH⟩) xP xD xS dX6_begin_32
  · skip
    refine lv_iload_n xE xB dX6_begin_4 rfl (lv_at xL 1 rfl) ?_
    refine lv_aload_n xE xB dX6_begin_5 rfl (lv_at xL 0 rfl) ?_
    refine va_get (D := G.1) (ci := 6) (v := .ref na.1) (C := RX6) (T := TX6) (N := 4) xE xB xT khX6_begin_X6 xO xK.1 xP 0 rfl rfl 0 (by decide) (xT _ kX6_begin_f10) (fun _ h9 => h9) rfl dX6_begin_6 ?_
    refine q_VRL (As := []) (rest := [.int v1]) ⟨xE, xB, xM, xO, xT⟩ (kX3_tilesDown l G na n o kf lr lc L rr rc R sr sc Z b ta tb th tw tt tn sm0 mt rw dn (by omega) (by omega) (by omega) (by omega)) (cwV 0 xT gX6_begin_X3_tilesDown rfl rfl rfl (by decide +kernel) ⟨Nat.le_of_ble_eq_true rfl, Nat.le_of_ble_eq_true rfl⟩) xK xP [1] [0, 2, 3, 4] 5 rfl (by decide) (Lc := [wS G na ((n, o, kf), (lr, lc, L), (rr, rc, R), (sr, sc, Z), (b, ta, tb, th, tw, tt, tn, sm0, mt, rw, dn))]) rfl (by simp only [List.flatten_cons, List.flatten_nil, List.append_nil, List.append_assoc]) 0 rfl rfl rfl rfl xL.1 rfl (Nat.le_of_ble_eq_true rfl) dX6_begin_9 ⟨Nat.le_refl _, Nat.le_refl _⟩ (fun r_9 h_9 => ?_)
    obtain rfl : r_9 = nI (tls lr n) := h_9
    refine lv_icmp_ge (tgt := 30) xE xB dX6_begin_12 (by decide) (fun c_12 => ?_) (fun c_12 => ?_)
    · skip
      refine lv_ldc (v := (-1000001)) xE xB xO (xT _ kX6_begin_c33) dX6_begin_30 ?_
      exact xQ _ _ _ _ _ (((n, o, kf), (lr, lc, L), (rr, rc, R), (sr, sc, Z), (b, ta, tb, th, tw, tt, tn, sm0, mt, rw, dn)), h.2.2.1, h.2.2.2.1, h.2.2.2.2.1, h.2.2.2.2.2, (hn, u0, u1, u2, u3)) (by (try (first | replace c_1 := ti_neg c_1 | replace c_1 := ti_nneg c_1 | replace c_1 := ti_lt c_1 | replace c_1 := ti_nlt c_1 | replace c_1 := ti_gt c_1 | replace c_1 := ti_ngt c_1 | replace c_1 := ti_le c_1 | replace c_1 := ti_nle c_1 | replace c_1 := ti_ge c_1 | replace c_1 := ti_nge c_1 | replace c_1 := ti_z c_1 | replace c_1 := ti_nz c_1 | replace c_1 := ti_eq c_1 | replace c_1 := ti_ne c_1)); (try (first | replace c_12 := ti_neg c_12 | replace c_12 := ti_nneg c_12 | replace c_12 := ti_lt c_12 | replace c_12 := ti_nlt c_12 | replace c_12 := ti_gt c_12 | replace c_12 := ti_ngt c_12 | replace c_12 := ti_le c_12 | replace c_12 := ti_nle c_12 | replace c_12 := ti_ge c_12 | replace c_12 := ti_nge c_12 | replace c_12 := ti_z c_12 | replace c_12 := ti_nz c_12 | replace c_12 := ti_eq c_12 | replace c_12 := ti_ne c_12)); (try (first | replace c_16 := ti_neg c_16 | replace c_16 := ti_nneg c_16 | replace c_16 := ti_lt c_16 | replace c_16 := ti_nlt c_16 | replace c_16 := ti_gt c_16 | replace c_16 := ti_ngt c_16 | replace c_16 := ti_le c_16 | replace c_16 := ti_nle c_16 | replace c_16 := ti_ge c_16 | replace c_16 := ti_nge c_16 | replace c_16 := ti_z c_16 | replace c_16 := ti_nz c_16 | replace c_16 := ti_eq c_16 | replace c_16 := ti_ne c_16)); (try (first | replace c_27 := ti_neg c_27 | replace c_27 := ti_nneg c_27 | replace c_27 := ti_lt c_27 | replace c_27 := ti_nlt c_27 | replace c_27 := ti_gt c_27 | replace c_27 := ti_ngt c_27 | replace c_27 := ti_le c_27 | replace c_27 := ti_nle c_27 | replace c_27 := ti_ge c_27 | replace c_27 := ti_nge c_27 | replace c_27 := ti_z c_27 | replace c_27 := ti_nz c_27 | replace c_27 := ti_eq c_27 | replace c_27 := ti_ne c_27)); rw [show opBegin lc n lr rc b v1 v2 s pst hn = (kINV, s, pst, hn) from if_neg (by omega)]; exact ⟨rfl, hR, rfl, hh, hH⟩) xP xD xS dX6_begin_32
    · skip
      refine lv_iload_n xE xB dX6_begin_15 rfl (lv_at xL 2 rfl) ?_
      refine lv_if_lt (tgt := 30) xE xB dX6_begin_16 (by decide) (fun c_16 => ?_) (fun c_16 => ?_)
      · skip
        refine lv_ldc (v := (-1000001)) xE xB xO (xT _ kX6_begin_c33) dX6_begin_30 ?_
        exact xQ _ _ _ _ _ (((n, o, kf), (lr, lc, L), (rr, rc, R), (sr, sc, Z), (b, ta, tb, th, tw, tt, tn, sm0, mt, rw, dn)), h.2.2.1, h.2.2.2.1, h.2.2.2.2.1, h.2.2.2.2.2, (hn, u0, u1, u2, u3)) (by (try (first | replace c_1 := ti_neg c_1 | replace c_1 := ti_nneg c_1 | replace c_1 := ti_lt c_1 | replace c_1 := ti_nlt c_1 | replace c_1 := ti_gt c_1 | replace c_1 := ti_ngt c_1 | replace c_1 := ti_le c_1 | replace c_1 := ti_nle c_1 | replace c_1 := ti_ge c_1 | replace c_1 := ti_nge c_1 | replace c_1 := ti_z c_1 | replace c_1 := ti_nz c_1 | replace c_1 := ti_eq c_1 | replace c_1 := ti_ne c_1)); (try (first | replace c_12 := ti_neg c_12 | replace c_12 := ti_nneg c_12 | replace c_12 := ti_lt c_12 | replace c_12 := ti_nlt c_12 | replace c_12 := ti_gt c_12 | replace c_12 := ti_ngt c_12 | replace c_12 := ti_le c_12 | replace c_12 := ti_nle c_12 | replace c_12 := ti_ge c_12 | replace c_12 := ti_nge c_12 | replace c_12 := ti_z c_12 | replace c_12 := ti_nz c_12 | replace c_12 := ti_eq c_12 | replace c_12 := ti_ne c_12)); (try (first | replace c_16 := ti_neg c_16 | replace c_16 := ti_nneg c_16 | replace c_16 := ti_lt c_16 | replace c_16 := ti_nlt c_16 | replace c_16 := ti_gt c_16 | replace c_16 := ti_ngt c_16 | replace c_16 := ti_le c_16 | replace c_16 := ti_nle c_16 | replace c_16 := ti_ge c_16 | replace c_16 := ti_nge c_16 | replace c_16 := ti_z c_16 | replace c_16 := ti_nz c_16 | replace c_16 := ti_eq c_16 | replace c_16 := ti_ne c_16)); (try (first | replace c_27 := ti_neg c_27 | replace c_27 := ti_nneg c_27 | replace c_27 := ti_lt c_27 | replace c_27 := ti_nlt c_27 | replace c_27 := ti_gt c_27 | replace c_27 := ti_ngt c_27 | replace c_27 := ti_le c_27 | replace c_27 := ti_nle c_27 | replace c_27 := ti_ge c_27 | replace c_27 := ti_nge c_27 | replace c_27 := ti_z c_27 | replace c_27 := ti_nz c_27 | replace c_27 := ti_eq c_27 | replace c_27 := ti_ne c_27)); rw [show opBegin lc n lr rc b v1 v2 s pst hn = (kINV, s, pst, hn) from if_neg (by omega)]; exact ⟨rfl, hR, rfl, hh, hH⟩) xP xD xS dX6_begin_32
      · skip
        refine lv_iload_n xE xB dX6_begin_19 rfl (lv_at xL 2 rfl) ?_
        refine lv_aload_n xE xB dX6_begin_20 rfl (lv_at xL 0 rfl) ?_
        refine va_get (D := G.1) (ci := 6) (v := .ref na.1) (C := RX6) (T := TX6) (N := 4) xE xB xT khX6_begin_X6 xO xK.1 xP 0 rfl rfl 0 (by decide) (xT _ kX6_begin_f10) (fun _ h9 => h9) rfl dX6_begin_21 ?_
        refine q_VRL (As := []) (rest := [.int v2]) ⟨xE, xB, xM, xO, xT⟩ (kX3_tilesAcross l G na n o kf lr lc L rr rc R sr sc Z b ta tb th tw tt tn sm0 mt rw dn (by omega) (by omega) (by omega) (by omega)) (cwV 0 xT gX6_begin_X3_tilesAcross rfl rfl rfl (by decide +kernel) ⟨Nat.le_of_ble_eq_true rfl, Nat.le_of_ble_eq_true rfl⟩) xK xP [1] [0, 2, 3, 4] 5 rfl (by decide) (Lc := [wS G na ((n, o, kf), (lr, lc, L), (rr, rc, R), (sr, sc, Z), (b, ta, tb, th, tw, tt, tn, sm0, mt, rw, dn))]) rfl (by simp only [List.flatten_cons, List.flatten_nil, List.append_nil, List.append_assoc]) 0 rfl rfl rfl rfl xL.1 rfl (Nat.le_of_ble_eq_true rfl) dX6_begin_24 ⟨Nat.le_refl _, Nat.le_refl _⟩ (fun r_24 h_24 => ?_)
        obtain rfl : r_24 = nI (tls rc n) := h_24
        refine lv_icmp_lt (tgt := 33) xE xB dX6_begin_27 (by decide) (fun c_27 => ?_) (fun c_27 => ?_)
        · skip
          (try (first | replace c_1 := ti_neg c_1 | replace c_1 := ti_nneg c_1 | replace c_1 := ti_lt c_1 | replace c_1 := ti_nlt c_1 | replace c_1 := ti_gt c_1 | replace c_1 := ti_ngt c_1 | replace c_1 := ti_le c_1 | replace c_1 := ti_nle c_1 | replace c_1 := ti_ge c_1 | replace c_1 := ti_nge c_1 | replace c_1 := ti_z c_1 | replace c_1 := ti_nz c_1 | replace c_1 := ti_eq c_1 | replace c_1 := ti_ne c_1)); (try (first | replace c_12 := ti_neg c_12 | replace c_12 := ti_nneg c_12 | replace c_12 := ti_lt c_12 | replace c_12 := ti_nlt c_12 | replace c_12 := ti_gt c_12 | replace c_12 := ti_ngt c_12 | replace c_12 := ti_le c_12 | replace c_12 := ti_nle c_12 | replace c_12 := ti_ge c_12 | replace c_12 := ti_nge c_12 | replace c_12 := ti_z c_12 | replace c_12 := ti_nz c_12 | replace c_12 := ti_eq c_12 | replace c_12 := ti_ne c_12)); (try (first | replace c_16 := ti_neg c_16 | replace c_16 := ti_nneg c_16 | replace c_16 := ti_lt c_16 | replace c_16 := ti_nlt c_16 | replace c_16 := ti_gt c_16 | replace c_16 := ti_ngt c_16 | replace c_16 := ti_le c_16 | replace c_16 := ti_nle c_16 | replace c_16 := ti_ge c_16 | replace c_16 := ti_nge c_16 | replace c_16 := ti_z c_16 | replace c_16 := ti_nz c_16 | replace c_16 := ti_eq c_16 | replace c_16 := ti_ne c_16)); (try (first | replace c_27 := ti_neg c_27 | replace c_27 := ti_nneg c_27 | replace c_27 := ti_lt c_27 | replace c_27 := ti_nlt c_27 | replace c_27 := ti_gt c_27 | replace c_27 := ti_ngt c_27 | replace c_27 := ti_le c_27 | replace c_27 := ti_nle c_27 | replace c_27 := ti_ge c_27 | replace c_27 := ti_nge c_27 | replace c_27 := ti_z c_27 | replace c_27 := ti_nz c_27 | replace c_27 := ti_eq c_27 | replace c_27 := ti_ne c_27))
          refine lv_aload_n xE xB dX6_begin_33 rfl (lv_at xL 0 rfl) ?_
          refine va_get (D := G.1) (ci := 6) (v := .ref na.1) (C := RX6) (T := TX6) (N := 4) xE xB xT khX6_begin_X6 xO xK.1 xP 0 rfl rfl 0 (by decide) (xT _ kX6_begin_f10) (fun _ h9 => h9) rfl dX6_begin_34 ?_
          refine va_get (D := G.1) (ci := 3) (v := .ref na.2.2.2.2.2.1) (C := RX3) (T := TX3) (N := 5) xE xB xT khX6_begin_X3 xO xK.1 xP 1 rfl rfl 4 (by decide) (xT _ kX6_begin_f52) (fun _ h9 => h9) rfl dX6_begin_37 ?_
          refine va_get (D := G.1) (ci := 5) (v := .int (nI b)) (C := RX5) (T := TX5) (N := 11) xE xB xT khX6_begin_X5 xO xK.1 xP 10 rfl rfl 0 (by decide) (xT _ kX6_begin_f56) (fun _ h9 => h9) rfl dX6_begin_40 ?_
          refine q_if_eq (tgt := 49) xE xB dX6_begin_43 (by decide) (by omega) (fun c_43 => ?_) (fun c_43 => ?_)
          · skip
            have e_v1 : v1 = nI (tN v1) := tN_eq (by omega)
            have b_v1 : (tN v1 : Int) = v1.toInt := tN_z (by omega)
            rw [e_v1] at xL
            have xL : lv_has ls 3 [(0, .ref x0), (1, .int (nI (tN v1))), (2, .int v2)] := xL
            have e_v2 : v2 = nI (tN v2) := tN_eq (by omega)
            have b_v2 : (tN v2 : Int) = v2.toInt := tN_z (by omega)
            rw [e_v2] at xL
            have xL : lv_has ls 3 [(0, .ref x0), (1, .int (nI (tN v1))), (2, .int (nI (tN v2)))] := xL
            have g1 : n * tN v1 < lr := tls_lt (by omega) hn1
            have g2 : n * tN v2 < rc := tls_lt (by omega) hn1
            refine lv_aload_n xE xB dX6_begin_49 rfl (lv_at xL 0 rfl) ?_
            refine va_get (D := G.1) (ci := 6) (v := .ref h.1) (C := RX6) (T := TX6) (N := 4) xE xB xT khX6_begin_X6 xO xK.1 xP 0 rfl rfl 2 (by decide) (xT _ kX6_begin_f22) (fun _ h9 => h9) rfl dX6_begin_50 ?_
            refine lv_aload_n xE xB dX6_begin_53 rfl (lv_at xL 0 rfl) ?_
            refine va_get (D := G.1) (ci := 6) (v := .ref na.1) (C := RX6) (T := TX6) (N := 4) xE xB xT khX6_begin_X6 xO xK.1 xP 0 rfl rfl 0 (by decide) (xT _ kX6_begin_f10) (fun _ h9 => h9) rfl dX6_begin_54 ?_
            refine q_VVL (As := [.ref na.1]) (rest := []) ⟨xE, xB, xM, xO, xT⟩ (kX0_remember l G h hn u0 u1 u2 u3 na ((n, o, kf), (lr, lc, L), (rr, rc, R), (sr, sc, Z), (b, ta, tb, th, tw, tt, tn, sm0, mt, rw, dn)) pst s (by exact hh) (by exact hH) (by exact hR)) (cwV 1 xT gX6_begin_X0_remember rfl rfl rfl (by decide +kernel) ⟨Nat.le_of_ble_eq_true rfl, Nat.le_of_ble_eq_true rfl⟩) xK xP xD xS [3, 1] [0, 2, 4] 5 rfl (by decide) (Lc := [wHf G h (hn, u0, u1, u2, u3), wS G na ((n, o, kf), (lr, lc, L), (rr, rc, R), (sr, sc, Z), (b, ta, tb, th, tw, tt, tn, sm0, mt, rw, dn))]) rfl (by simp only [List.flatten_cons, List.flatten_nil, List.append_nil, List.append_assoc]) (fun u_57 => [[(x0, .inr (6, [.ref na.1, .ref tra.1, .ref h.1, .ref k.1]))], wS G na ((n, o, kf), (lr, lc, L), (rr, rc, R), (sr, sc, Z), (b, ta, tb, th, tw, tt, tn, sm0, mt, rw, dn)), wS G tra v, wHf G (h.1, h.2.1, u_57.1, u_57.2.1, u_57.2.2.1, u_57.2.2.2.1) (chgN hn, u_57.2.2.2.2.1, u_57.2.2.2.2.2.1, u_57.2.2.2.2.2.2.1, u_57.2.2.2.2.2.2.2), wX G k w]) (fun u_57 => [wHf G (h.1, h.2.1, u_57.1, u_57.2.1, u_57.2.2.1, u_57.2.2.2.1) (chgN hn, u_57.2.2.2.2.1, u_57.2.2.2.2.2.1, u_57.2.2.2.2.2.2.1, u_57.2.2.2.2.2.2.2), wS G na ((n, o, kf), (lr, lc, L), (rr, rc, R), (sr, sc, Z), (b, ta, tb, th, tw, tt, tn, sm0, mt, rw, dn))]) (fun _ => rfl) (fun _ => rfl) (fun _ => by simp only [List.flatten_cons, List.flatten_nil, List.append_nil, List.append_assoc]) (fun _ => rfl) 0 rfl rfl rfl rfl xL.1 rfl (Nat.le_of_ble_eq_true rfl) dX6_begin_57 ⟨Nat.le_refl _, Nat.le_refl _⟩ (fun u_57 H locs h_57 xP xD xS => ?_)
            have h_57 : HRel (chgN hn) u_57.2.2.2.2.1 u_57.2.2.2.2.2.1 u_57.2.2.2.2.2.2.1 u_57.2.2.2.2.2.2.2 (chgP s pst hn) := h_57
            refine lv_aload_n xE xB dX6_begin_60 rfl (lv_at xL 0 rfl) ?_
            refine va_get (D := G.1) (ci := 6) (v := .ref na.1) (C := RX6) (T := TX6) (N := 4) xE xB xT khX6_begin_X6 xO xK.1 xP 0 rfl rfl 0 (by decide) (xT _ kX6_begin_f10) (fun _ h9 => h9) rfl dX6_begin_61 ?_
            refine lv_iload_n xE xB dX6_begin_64 rfl (lv_at xL 1 rfl) ?_
            refine lv_iload_n xE xB dX6_begin_65 rfl (lv_at xL 2 rfl) ?_
            refine q_VVL (As := [.int (nI (tN v1)), .int (nI (tN v2))]) (rest := []) ⟨xE, xB, xM, xO, xT⟩ (kX3_beginTile l G na n o kf lr lc L rr rc R sr sc Z b ta tb th tw tt tn sm0 mt rw dn (tN v1) (tN v2) (by omega) (by omega) (by omega) (by omega) (by exact g1) (by exact g2) (by omega)) (cwV 2 xT gX6_begin_X3_beginTile rfl rfl rfl (by decide +kernel) ⟨Nat.le_of_ble_eq_true rfl, Nat.le_of_ble_eq_true rfl⟩) xK xP xD xS [1] [0, 2, 3, 4] 5 rfl (by decide) (Lc := [wS G na ((n, o, kf), (lr, lc, L), (rr, rc, R), (sr, sc, Z), (b, ta, tb, th, tw, tt, tn, sm0, mt, rw, dn))]) rfl (by simp only [List.flatten_cons, List.flatten_nil, List.append_nil, List.append_assoc]) (fun _ => [[(x0, .inr (6, [.ref na.1, .ref tra.1, .ref h.1, .ref k.1]))], wS G na ((n, o, kf), (lr, lc, L), (rr, rc, R), (sr, sc, Z), (1, tN v1, tN v2, min n (lr - n * (tN v1)), min n (rc - n * (tN v2)), 0, need lc n lr rc (tN v1) (tN v2), fillF 16 (nI 0) sm0, fillF 16 (nI 0) mt, fillF 16 NO rw, fillF 16 NO dn)), wS G tra v, wHf G (h.1, h.2.1, u_57.1, u_57.2.1, u_57.2.2.1, u_57.2.2.2.1) (chgN hn, u_57.2.2.2.2.1, u_57.2.2.2.2.2.1, u_57.2.2.2.2.2.2.1, u_57.2.2.2.2.2.2.2), wX G k w]) (fun _ => [wS G na ((n, o, kf), (lr, lc, L), (rr, rc, R), (sr, sc, Z), (1, tN v1, tN v2, min n (lr - n * (tN v1)), min n (rc - n * (tN v2)), 0, need lc n lr rc (tN v1) (tN v2), fillF 16 (nI 0) sm0, fillF 16 (nI 0) mt, fillF 16 NO rw, fillF 16 NO dn))]) (fun _ => rfl) (fun _ => rfl) (fun _ => by simp only [List.flatten_cons, List.flatten_nil, List.append_nil, List.append_assoc]) (fun _ => rfl) 0 rfl rfl rfl rfl xL.1 rfl (Nat.le_of_ble_eq_true rfl) dX6_begin_66 ⟨Nat.le_refl _, Nat.le_refl _⟩ (fun u_66 H locs h_66 xP xD xS => ?_)
            refine lv_aload_n xE xB dX6_begin_69 rfl (lv_at xL 0 rfl) ?_
            refine va_get (D := G.1) (ci := 6) (v := .ref na.1) (C := RX6) (T := TX6) (N := 4) xE xB xT khX6_begin_X6 xO xK.1 xP 0 rfl rfl 0 (by decide) (xT _ kX6_begin_f10) (fun _ h9 => h9) rfl dX6_begin_70 ?_
            refine va_get (D := G.1) (ci := 3) (v := .ref na.2.2.2.2.2.1) (C := RX3) (T := TX3) (N := 5) xE xB xT khX6_begin_X3 xO xK.1 xP 1 rfl rfl 4 (by decide) (xT _ kX6_begin_f52) (fun _ h9 => h9) rfl dX6_begin_73 ?_
            refine q_VR (As := []) (rest := []) ⟨xE, xB, xM, xO, xT⟩ (kX5_ticksLeft l G na.2.2.2.2.2 1 (tN v1) (tN v2) (min n (lr - n * (tN v1))) (min n (rc - n * (tN v2))) 0 (need lc n lr rc (tN v1) (tN v2)) (fillF 16 (nI 0) sm0) (fillF 16 (nI 0) mt) (fillF 16 NO rw) (fillF 16 NO dn) (by exact Nat.zero_le _)) (cwV 0 xT gX6_begin_X5_ticksLeft rfl rfl rfl (by decide +kernel) ⟨Nat.le_of_ble_eq_true rfl, Nat.le_of_ble_eq_true rfl⟩) xK xP [10, 11, 12, 13, 14] rfl 0 rfl rfl rfl rfl xL.1 rfl (Nat.le_of_ble_eq_true rfl) dX6_begin_76 ⟨Nat.le_refl _, Nat.le_refl _⟩ (fun r_76 h_76 => ?_)
            obtain rfl : r_76 = nI ((need lc n lr rc (tN v1) (tN v2)) - 0) := h_76
            exact xQ _ _ _ _ _ (((n, o, kf), (lr, lc, L), (rr, rc, R), (sr, sc, Z), (1, tN v1, tN v2, min n (lr - n * (tN v1)), min n (rc - n * (tN v2)), 0, need lc n lr rc (tN v1) (tN v2), fillF 16 (nI 0) sm0, fillF 16 (nI 0) mt, fillF 16 NO rw, fillF 16 NO dn)), u_57.1, u_57.2.1, u_57.2.2.1, u_57.2.2.2.1, (chgN hn, u_57.2.2.2.2.1, u_57.2.2.2.2.2.1, u_57.2.2.2.2.2.2.1, u_57.2.2.2.2.2.2.2)) (by rw [show opBegin lc n lr rc b v1 v2 s pst hn = (nI (need lc n lr rc (tN v1) (tN v2)), bgF (tN v1) (tN v2) s, chgP s pst hn, chgN hn) from (if_pos (by omega)).trans (if_neg (by omega))]; exact ⟨rfl, rel_bg hR g1 g2, rfl, chgN_4 hh, h_57⟩) xP xD xS dX6_begin_79
          · skip
            refine lv_ldc (v := (-1000002)) xE xB xO (xT _ kX6_begin_c93) dX6_begin_46 ?_
            exact xQ _ _ _ _ _ (((n, o, kf), (lr, lc, L), (rr, rc, R), (sr, sc, Z), (b, ta, tb, th, tw, tt, tn, sm0, mt, rw, dn)), h.2.2.1, h.2.2.2.1, h.2.2.2.2.1, h.2.2.2.2.2, (hn, u0, u1, u2, u3)) (by rw [show opBegin lc n lr rc b v1 v2 s pst hn = (kNP, s, pst, hn) from (if_pos (by omega)).trans (if_pos (by omega))]; exact ⟨rfl, hR, rfl, hh, hH⟩) xP xD xS dX6_begin_48
        · skip
          refine lv_ldc (v := (-1000001)) xE xB xO (xT _ kX6_begin_c33) dX6_begin_30 ?_
          exact xQ _ _ _ _ _ (((n, o, kf), (lr, lc, L), (rr, rc, R), (sr, sc, Z), (b, ta, tb, th, tw, tt, tn, sm0, mt, rw, dn)), h.2.2.1, h.2.2.2.1, h.2.2.2.2.1, h.2.2.2.2.2, (hn, u0, u1, u2, u3)) (by (try (first | replace c_1 := ti_neg c_1 | replace c_1 := ti_nneg c_1 | replace c_1 := ti_lt c_1 | replace c_1 := ti_nlt c_1 | replace c_1 := ti_gt c_1 | replace c_1 := ti_ngt c_1 | replace c_1 := ti_le c_1 | replace c_1 := ti_nle c_1 | replace c_1 := ti_ge c_1 | replace c_1 := ti_nge c_1 | replace c_1 := ti_z c_1 | replace c_1 := ti_nz c_1 | replace c_1 := ti_eq c_1 | replace c_1 := ti_ne c_1)); (try (first | replace c_12 := ti_neg c_12 | replace c_12 := ti_nneg c_12 | replace c_12 := ti_lt c_12 | replace c_12 := ti_nlt c_12 | replace c_12 := ti_gt c_12 | replace c_12 := ti_ngt c_12 | replace c_12 := ti_le c_12 | replace c_12 := ti_nle c_12 | replace c_12 := ti_ge c_12 | replace c_12 := ti_nge c_12 | replace c_12 := ti_z c_12 | replace c_12 := ti_nz c_12 | replace c_12 := ti_eq c_12 | replace c_12 := ti_ne c_12)); (try (first | replace c_16 := ti_neg c_16 | replace c_16 := ti_nneg c_16 | replace c_16 := ti_lt c_16 | replace c_16 := ti_nlt c_16 | replace c_16 := ti_gt c_16 | replace c_16 := ti_ngt c_16 | replace c_16 := ti_le c_16 | replace c_16 := ti_nle c_16 | replace c_16 := ti_ge c_16 | replace c_16 := ti_nge c_16 | replace c_16 := ti_z c_16 | replace c_16 := ti_nz c_16 | replace c_16 := ti_eq c_16 | replace c_16 := ti_ne c_16)); (try (first | replace c_27 := ti_neg c_27 | replace c_27 := ti_nneg c_27 | replace c_27 := ti_lt c_27 | replace c_27 := ti_nlt c_27 | replace c_27 := ti_gt c_27 | replace c_27 := ti_ngt c_27 | replace c_27 := ti_le c_27 | replace c_27 := ti_nle c_27 | replace c_27 := ti_ge c_27 | replace c_27 := ti_nge c_27 | replace c_27 := ti_z c_27 | replace c_27 := ti_nz c_27 | replace c_27 := ti_eq c_27 | replace c_27 := ti_ne c_27)); rw [show opBegin lc n lr rc b v1 v2 s pst hn = (kINV, s, pst, hn) from if_neg (by omega)]; exact ⟨rfl, hR, rfl, hh, hH⟩) xP xD xS dX6_begin_32
