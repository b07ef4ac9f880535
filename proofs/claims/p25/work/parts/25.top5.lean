def RelX (u : XD) (T : Nat → Nat) (tl : Nat) : Prop := u.1 = tl ∧ tl ≤ 80 ∧ ∀ j, j < tl → u.2.2.2.2.2.2.2.2.2.1 j = nI (T j) ∧ 32 ≤ T j ∧ T j ≤ 126
def tyA (tl : Nat) (v : Int32) : Int32 := if 32 ≤ v.toInt ∧ v.toInt ≤ 126 then (if tl < 80 then nI (tl + 1) else kLR) else kINV
def tyN (tl : Nat) (v : Int32) : Nat := if (32 ≤ v.toInt ∧ v.toInt ≤ 126) ∧ tl < 80 then tl + 1 else tl
def tyT (tl : Nat) (v : Int32) (T : Nat → Nat) : Nat → Nat := if (32 ≤ v.toInt ∧ v.toInt ≤ 126) ∧ tl < 80 then (fun j => if j = tl then tN v else T j) else T
theorem RelX_ty {len fp re row col wid ng dg vl mr mc : Nat} {g f : wF} {T : Nat → Nat} {v : Int32} (h1 : 32 ≤ v.toInt ∧ v.toInt ≤ 126) (h2 : len < 80) (hg : ∀ j, j < len → g j = nI (T j) ∧ 32 ≤ T j ∧ T j ≤ 126) : RelX (len + 1, fp, re, row, col, wid, ng, dg, vl, upd g len (nI (tN v)), (mr, mc, f)) (tyT len v T) (tyN len v) := by
  have z := tN_z (v := v) (by omega)
  unfold tyT tyN
  rw [if_pos ⟨h1, h2⟩, if_pos ⟨h1, h2⟩]
  refine ⟨rfl, by omega, fun j hj => ?_⟩
  show upd g len (nI (tN v)) j = nI (if j = len then tN v else T j) ∧ 32 ≤ (if j = len then tN v else T j) ∧ (if j = len then tN v else T j) ≤ 126
  by_cases e : j = len
  · rw [if_pos e, e, upd_s]; exact ⟨rfl, by omega, by omega⟩
  · rw [if_neg e, upd_n e]; exact hg j (by omega)
theorem RelX_no {u : XD} {T : Nat → Nat} {v : Int32} {len : Nat} (h : RelX u T len) (hn : ¬ ((32 ≤ v.toInt ∧ v.toInt ≤ 126) ∧ len < 80)) : RelX u (tyT len v T) (tyN len v) := by
  unfold tyT tyN
  rw [if_neg hn, if_neg hn]
  exact h

theorem kX6_type_c192 : Cond.constant RX6 192 (-1000003) ∈ wsX6_type := by decide +kernel
theorem kX6_type_c33 : Cond.constant RX6 33 (-1000001) ∈ wsX6_type := by decide +kernel
theorem kX6_type_f177 : Cond.fieldLink RX6 177 "SkewedSquare$Text" "length" "I" ∈ wsX6_type := by decide +kernel
theorem kX6_type_f29 : Cond.fieldLink RX6 29 "SkewedSquare" "text" "LSkewedSquare$Text;" ∈ wsX6_type := by decide +kernel
theorem khX6_type_X4 : ∀ w ∈ u_ws RX4 TX4 11, w ∈ wsX6_type := by decide +kernel
theorem khX6_type_X6 : ∀ w ∈ u_ws RX6 TX6 4, w ∈ wsX6_type := by decide +kernel
set_option maxHeartbeats 4000000 in
set_option maxRecDepth 100000 in
/-- kX6_type -/
theorem kX6_type (l : Launch) (G : wG) (x0 : Nat) (na tra : SA) (h : HA) (k : XA) (n o : Nat) (kf : wF) (lr lc : Nat) (L : wF) (rr rc : Nat) (R : wF) (sr sc : Nat) (Z : wF) (b ta tb th tw tt tn : Nat) (sm0 mt rw dn : wF) (v : SD) (hn : Nat) (u0 u1 u2 u3 : SD) (len fp re row col wid ng dg vl : Nat) (g : wF) (mr mc : Nat) (f : wF) (T : Nat → Nat) (s : wF) (pst : PF) (v1 : Int32) (hln : len ≤ 80) (hg : ∀ j, j < len → g j = nI (T j) ∧ 32 ≤ T j ∧ T j ≤ 126) : CI (S := XD) l yX6_type wsX6_type (rm 1 21) G [.ref x0, .int v1] (List.flatten [[((x0, na.1, tra.1, h.1, k.1).1, .inr (6, [.ref ((x0, na.1, tra.1, h.1, k.1).2.1), .ref ((x0, na.1, tra.1, h.1, k.1).2.2.1), .ref ((x0, na.1, tra.1, h.1, k.1).2.2.2.1), .ref ((x0, na.1, tra.1, h.1, k.1).2.2.2.2)]))], wS G na ((n, o, kf), (lr, lc, L), (rr, rc, R), (sr, sc, Z), (b, ta, tb, th, tw, tt, tn, sm0, mt, rw, dn)), wS G tra v, wHf G h (hn, u0, u1, u2, u3), wX G k (len, fp, re, row, col, wid, ng, dg, vl, g, (mr, mc, f))]) (fun x u9 => x = tyA len v1 ∧ RelX u9 (tyT len v1 T) (tyN len v1)) (fun u9 => List.flatten [[((x0, na.1, tra.1, h.1, k.1).1, .inr (6, [.ref ((x0, na.1, tra.1, h.1, k.1).2.1), .ref ((x0, na.1, tra.1, h.1, k.1).2.2.1), .ref ((x0, na.1, tra.1, h.1, k.1).2.2.2.1), .ref ((x0, na.1, tra.1, h.1, k.1).2.2.2.2)]))], wS G na ((n, o, kf), (lr, lc, L), (rr, rc, R), (sr, sc, Z), (b, ta, tb, th, tw, tt, tn, sm0, mt, rw, dn)), wS G tra v, wHf G h (hn, u0, u1, u2, u3), wX G k u9]) := by
  refine CI.of (own := RX6) rfl (by decide) rfl (Nat.le_of_ble_eq_true rfl) ?_
  intro p9 e9 s9 m9 b9 t9 c9 A xE xB xM xO xT xK xP xD Q xQ xS ls hl
  have xL : lv_has ls 2 [(0, .ref x0), (1, .int v1)] := hl
  refine lv_iload_n xE xB dX6_type_0 rfl (lv_at xL 1 rfl) ?_
  refine lv_bipush (v := nI 32) xE xB dX6_type_1 (by decide) ?_
  refine lv_icmp_lt (tgt := 12) xE xB dX6_type_3 (by decide) (fun c_3 => ?_) (fun c_3 => ?_)
  · skip
    refine lv_ldc (v := (-1000001)) xE xB xO (xT _ kX6_type_c33) dX6_type_12 ?_
    exact xQ _ _ _ _ _ (len, fp, re, row, col, wid, ng, dg, vl, g, (mr, mc, f)) (by (try (first | replace c_3 := ti_neg c_3 | replace c_3 := ti_nneg c_3 | replace c_3 := ti_lt c_3 | replace c_3 := ti_nlt c_3 | replace c_3 := ti_gt c_3 | replace c_3 := ti_ngt c_3 | replace c_3 := ti_le c_3 | replace c_3 := ti_nle c_3 | replace c_3 := ti_ge c_3 | replace c_3 := ti_nge c_3 | replace c_3 := ti_z c_3 | replace c_3 := ti_nz c_3 | replace c_3 := ti_eq c_3 | replace c_3 := ti_ne c_3)); (try (first | replace c_9 := ti_neg c_9 | replace c_9 := ti_nneg c_9 | replace c_9 := ti_lt c_9 | replace c_9 := ti_nlt c_9 | replace c_9 := ti_gt c_9 | replace c_9 := ti_ngt c_9 | replace c_9 := ti_le c_9 | replace c_9 := ti_nle c_9 | replace c_9 := ti_ge c_9 | replace c_9 := ti_nge c_9 | replace c_9 := ti_z c_9 | replace c_9 := ti_nz c_9 | replace c_9 := ti_eq c_9 | replace c_9 := ti_ne c_9)); exact ⟨(if_neg (by omega)).symm, RelX_no ⟨rfl, hln, hg⟩ (by omega)⟩) xP xD xS dX6_type_14
  · skip
    refine lv_iload_n xE xB dX6_type_6 rfl (lv_at xL 1 rfl) ?_
    refine lv_bipush (v := nI 126) xE xB dX6_type_7 (by decide) ?_
    refine lv_icmp_le (tgt := 15) xE xB dX6_type_9 (by decide) (fun c_9 => ?_) (fun c_9 => ?_)
    · skip
      (try (first | replace c_3 := ti_neg c_3 | replace c_3 := ti_nneg c_3 | replace c_3 := ti_lt c_3 | replace c_3 := ti_nlt c_3 | replace c_3 := ti_gt c_3 | replace c_3 := ti_ngt c_3 | replace c_3 := ti_le c_3 | replace c_3 := ti_nle c_3 | replace c_3 := ti_ge c_3 | replace c_3 := ti_nge c_3 | replace c_3 := ti_z c_3 | replace c_3 := ti_nz c_3 | replace c_3 := ti_eq c_3 | replace c_3 := ti_ne c_3)); (try (first | replace c_9 := ti_neg c_9 | replace c_9 := ti_nneg c_9 | replace c_9 := ti_lt c_9 | replace c_9 := ti_nlt c_9 | replace c_9 := ti_gt c_9 | replace c_9 := ti_ngt c_9 | replace c_9 := ti_le c_9 | replace c_9 := ti_nle c_9 | replace c_9 := ti_ge c_9 | replace c_9 := ti_nge c_9 | replace c_9 := ti_z c_9 | replace c_9 := ti_nz c_9 | replace c_9 := ti_eq c_9 | replace c_9 := ti_ne c_9))
      refine lv_aload_n xE xB dX6_type_15 rfl (lv_at xL 0 rfl) ?_
      refine va_get (D := G.1) (ci := 6) (v := .ref k.1) (C := RX6) (T := TX6) (N := 4) xE xB xT khX6_type_X6 xO xK.1 xP 0 rfl rfl 3 (by decide) (xT _ kX6_type_f29) (fun _ h9 => h9) rfl dX6_type_16 ?_
      refine va_get (D := G.1) (ci := 4) (v := .int (nI len)) (C := RX4) (T := TX4) (N := 11) xE xB xT khX6_type_X4 xO xK.1 xP 87 rfl rfl 1 (by decide) (xT _ kX6_type_f177) (fun _ h9 => h9) rfl dX6_type_19 ?_
      refine lv_bipush (v := nI 80) xE xB dX6_type_22 (by decide) ?_
      refine q_icmp_lt (tgt := 30) xE xB dX6_type_24 (by decide) (by omega) (by omega) (fun c_24 => ?_) (fun c_24 => ?_)
      · skip
        have e_v1 : v1 = nI (tN v1) := tN_eq (by omega)
        have b_v1 : (tN v1 : Int) = v1.toInt := tN_z (by omega)
        rw [e_v1] at xL
        have xL : lv_has ls 2 [(0, .ref x0), (1, .int (nI (tN v1)))] := xL
        refine lv_aload_n xE xB dX6_type_30 rfl (lv_at xL 0 rfl) ?_
        refine va_get (D := G.1) (ci := 6) (v := .ref k.1) (C := RX6) (T := TX6) (N := 4) xE xB xT khX6_type_X6 xO xK.1 xP 0 rfl rfl 3 (by decide) (xT _ kX6_type_f29) (fun _ h9 => h9) rfl dX6_type_31 ?_
        refine lv_iload_n xE xB dX6_type_34 rfl (lv_at xL 1 rfl) ?_
        refine lv_i2c (v := nI (tN v1)) xE xB dX6_type_35 (q_i2c (by omega)) ?_
        refine q_VVL (As := [.int (nI (tN v1))]) (rest := []) ⟨xE, xB, xM, xO, xT⟩ (kX4_append l G k len fp re row col wid ng dg vl g mr mc f (tN v1) (by omega) (by omega)) (cwV 1 xT gX6_type_X4_append rfl rfl rfl (by decide +kernel) ⟨Nat.le_of_ble_eq_true rfl, Nat.le_of_ble_eq_true rfl⟩) xK xP xD xS [4] [0, 1, 2, 3] 5 rfl (by decide) (Lc := [wX G k (len, fp, re, row, col, wid, ng, dg, vl, g, (mr, mc, f))]) rfl (by simp only [List.flatten_cons, List.flatten_nil, List.append_nil, List.append_assoc]) (fun _ => [[(x0, .inr (6, [.ref na.1, .ref tra.1, .ref h.1, .ref k.1]))], wS G na ((n, o, kf), (lr, lc, L), (rr, rc, R), (sr, sc, Z), (b, ta, tb, th, tw, tt, tn, sm0, mt, rw, dn)), wS G tra v, wHf G h (hn, u0, u1, u2, u3), wX G k (len + 1, fp, re, row, col, wid, ng, dg, vl, upd g len (nI (tN v1)), (mr, mc, f))]) (fun _ => [wX G k (len + 1, fp, re, row, col, wid, ng, dg, vl, upd g len (nI (tN v1)), (mr, mc, f))]) (fun _ => rfl) (fun _ => rfl) (fun _ => by simp only [List.flatten_cons, List.flatten_nil, List.append_nil, List.append_assoc]) (fun _ => rfl) 0 rfl rfl rfl rfl xL.1 rfl (Nat.le_of_ble_eq_true rfl) dX6_type_36 ⟨Nat.le_refl _, Nat.le_refl _⟩ (fun u_36 H locs h_36 xP xD xS => ?_)
        refine lv_aload_n xE xB dX6_type_39 rfl (lv_at xL 0 rfl) ?_
        refine va_get (D := G.1) (ci := 6) (v := .ref k.1) (C := RX6) (T := TX6) (N := 4) xE xB xT khX6_type_X6 xO xK.1 xP 0 rfl rfl 3 (by decide) (xT _ kX6_type_f29) (fun _ h9 => h9) rfl dX6_type_40 ?_
        refine va_get (D := G.1) (ci := 4) (v := .int (nI (len + 1))) (C := RX4) (T := TX4) (N := 11) xE xB xT khX6_type_X4 xO xK.1 xP 87 rfl rfl 1 (by decide) (xT _ kX6_type_f177) (fun _ h9 => h9) rfl dX6_type_43 ?_
        exact xQ _ _ _ _ _ (len + 1, fp, re, row, col, wid, ng, dg, vl, upd g len (nI (tN v1)), (mr, mc, f)) (by exact ⟨((if_pos (by omega)).trans (if_pos (by omega))).symm, RelX_ty (by omega) (by omega) hg⟩) xP xD xS dX6_type_46
      · skip
        refine lv_ldc (v := (-1000003)) xE xB xO (xT _ kX6_type_c192) dX6_type_27 ?_
        exact xQ _ _ _ _ _ (len, fp, re, row, col, wid, ng, dg, vl, g, (mr, mc, f)) (by exact ⟨((if_pos (by omega)).trans (if_neg (by omega))).symm, RelX_no ⟨rfl, hln, hg⟩ (by omega)⟩) xP xD xS dX6_type_29
    · skip
      refine lv_ldc (v := (-1000001)) xE xB xO (xT _ kX6_type_c33) dX6_type_12 ?_
      exact xQ _ _ _ _ _ (len, fp, re, row, col, wid, ng, dg, vl, g, (mr, mc, f)) (by (try (first | replace c_3 := ti_neg c_3 | replace c_3 := ti_nneg c_3 | replace c_3 := ti_lt c_3 | replace c_3 := ti_nlt c_3 | replace c_3 := ti_gt c_3 | replace c_3 := ti_ngt c_3 | replace c_3 := ti_le c_3 | replace c_3 := ti_nle c_3 | replace c_3 := ti_ge c_3 | replace c_3 := ti_nge c_3 | replace c_3 := ti_z c_3 | replace c_3 := ti_nz c_3 | replace c_3 := ti_eq c_3 | replace c_3 := ti_ne c_3)); (try (first | replace c_9 := ti_neg c_9 | replace c_9 := ti_nneg c_9 | replace c_9 := ti_lt c_9 | replace c_9 := ti_nlt c_9 | replace c_9 := ti_gt c_9 | replace c_9 := ti_ngt c_9 | replace c_9 := ti_le c_9 | replace c_9 := ti_nle c_9 | replace c_9 := ti_ge c_9 | replace c_9 := ti_nge c_9 | replace c_9 := ti_z c_9 | replace c_9 := ti_nz c_9 | replace c_9 := ti_eq c_9 | replace c_9 := ti_ne c_9)); exact ⟨(if_neg (by omega)).symm, RelX_no ⟨rfl, hln, hg⟩ (by omega)⟩) xP xD xS dX6_type_14
theorem kX6_clearText_f177 : Cond.fieldLink RX6 177 "SkewedSquare$Text" "length" "I" ∈ wsX6_clearText := by decide +kernel
theorem kX6_clearText_f29 : Cond.fieldLink RX6 29 "SkewedSquare" "text" "LSkewedSquare$Text;" ∈ wsX6_clearText := by decide +kernel
theorem khX6_clearText_X4 : ∀ w ∈ u_ws RX4 TX4 11, w ∈ wsX6_clearText := by decide +kernel
theorem khX6_clearText_X6 : ∀ w ∈ u_ws RX6 TX6 4, w ∈ wsX6_clearText := by decide +kernel
set_option maxHeartbeats 4000000 in
set_option maxRecDepth 100000 in
/-- kX6_clearText -/
theorem kX6_clearText (l : Launch) (G : wG) (x0 : Nat) (na tra : SA) (h : HA) (k : XA) (n o : Nat) (kf : wF) (lr lc : Nat) (L : wF) (rr rc : Nat) (R : wF) (sr sc : Nat) (Z : wF) (b ta tb th tw tt tn : Nat) (sm0 mt rw dn : wF) (v : SD) (hn : Nat) (u0 u1 u2 u3 : SD) (len fp re row col wid ng dg vl : Nat) (g : wF) (mr mc : Nat) (f : wF) (T : Nat → Nat) (s : wF) (pst : PF) (hln : len ≤ 80) : CI (S := XD) l yX6_clearText wsX6_clearText (rm 0 0) G [.ref x0] (List.flatten [[((x0, na.1, tra.1, h.1, k.1).1, .inr (6, [.ref ((x0, na.1, tra.1, h.1, k.1).2.1), .ref ((x0, na.1, tra.1, h.1, k.1).2.2.1), .ref ((x0, na.1, tra.1, h.1, k.1).2.2.2.1), .ref ((x0, na.1, tra.1, h.1, k.1).2.2.2.2)]))], wS G na ((n, o, kf), (lr, lc, L), (rr, rc, R), (sr, sc, Z), (b, ta, tb, th, tw, tt, tn, sm0, mt, rw, dn)), wS G tra v, wHf G h (hn, u0, u1, u2, u3), wX G k (len, fp, re, row, col, wid, ng, dg, vl, g, (mr, mc, f))]) (fun x u9 => x = nI len ∧ RelX u9 T 0) (fun u9 => List.flatten [[((x0, na.1, tra.1, h.1, k.1).1, .inr (6, [.ref ((x0, na.1, tra.1, h.1, k.1).2.1), .ref ((x0, na.1, tra.1, h.1, k.1).2.2.1), .ref ((x0, na.1, tra.1, h.1, k.1).2.2.2.1), .ref ((x0, na.1, tra.1, h.1, k.1).2.2.2.2)]))], wS G na ((n, o, kf), (lr, lc, L), (rr, rc, R), (sr, sc, Z), (b, ta, tb, th, tw, tt, tn, sm0, mt, rw, dn)), wS G tra v, wHf G h (hn, u0, u1, u2, u3), wX G k u9]) := by
  refine CI.of (own := RX6) rfl (by decide) rfl (Nat.le_of_ble_eq_true rfl) ?_
  intro p9 e9 s9 m9 b9 t9 c9 A xE xB xM xO xT xK xP xD Q xQ xS ls hl
  have xL : lv_has ls 2 [(0, .ref x0)] := hl
  refine lv_aload_n xE xB dX6_clearText_0 rfl (lv_at xL 0 rfl) ?_
  refine va_get (D := G.1) (ci := 6) (v := .ref k.1) (C := RX6) (T := TX6) (N := 4) xE xB xT khX6_clearText_X6 xO xK.1 xP 0 rfl rfl 3 (by decide) (xT _ kX6_clearText_f29) (fun _ h9 => h9) rfl dX6_clearText_1 ?_
  refine va_get (D := G.1) (ci := 4) (v := .int (nI len)) (C := RX4) (T := TX4) (N := 11) xE xB xT khX6_clearText_X4 xO xK.1 xP 87 rfl rfl 1 (by decide) (xT _ kX6_clearText_f177) (fun _ h9 => h9) rfl dX6_clearText_4 ?_
  refine lv_istore_n (lv' := [(1, .int (nI len)), (0, .ref x0)]) xE xB dX6_clearText_7 rfl xL (by decide) rfl (fun ls xL => ?_)
  refine lv_aload_n xE xB dX6_clearText_8 rfl (lv_at xL 1 rfl) ?_
  refine va_get (D := G.1) (ci := 6) (v := .ref k.1) (C := RX6) (T := TX6) (N := 4) xE xB xT khX6_clearText_X6 xO xK.1 xP 0 rfl rfl 3 (by decide) (xT _ kX6_clearText_f29) (fun _ h9 => h9) rfl dX6_clearText_9 ?_
  refine lv_iconst (v := nI 0) xE xB dX6_clearText_12 (by decide) ?_
  refine va_put (D := G.1) (ci := 4) (v := .int (nI 0)) (ty := .int) (C := RX4) (T := TX4) (N := 11) xE xB xT khX6_clearText_X4 tyX4 tyX4_ok nmX4 xO xK.1 xP xD xS 87 rfl rfl 1 (by decide) (xT _ kX6_clearText_f177) (fun _ h9 => h9) rfl (by decide +kernel) rfl rfl (Nat.le_of_ble_eq_true rfl) dX6_clearText_13 (fun H locs xP xD xS => ?_)
  have xP : va_P G.1 vwCl (List.flatten [[(x0, .inr (6, [.ref na.1, .ref tra.1, .ref h.1, .ref k.1]))], wS G na ((n, o, kf), (lr, lc, L), (rr, rc, R), (sr, sc, Z), (b, ta, tb, th, tw, tt, tn, sm0, mt, rw, dn)), wS G tra v, wHf G h (hn, u0, u1, u2, u3), wX G k (0, fp, re, row, col, wid, ng, dg, vl, g, (mr, mc, f))]) H := xP
  have xD : va_D A (List.flatten [[(x0, .inr (6, [.ref na.1, .ref tra.1, .ref h.1, .ref k.1]))], wS G na ((n, o, kf), (lr, lc, L), (rr, rc, R), (sr, sc, Z), (b, ta, tb, th, tw, tt, tn, sm0, mt, rw, dn)), wS G tra v, wHf G h (hn, u0, u1, u2, u3), wX G k (0, fp, re, row, col, wid, ng, dg, vl, g, (mr, mc, f))]) := xD
  refine lv_iload_n xE xB dX6_clearText_16 rfl (lv_at xL 0 rfl) ?_
  exact xQ _ _ _ _ _ (0, fp, re, row, col, wid, ng, dg, vl, g, (mr, mc, f)) (by exact ⟨rfl, rfl, by decide, fun j hj => absurd hj (Nat.not_lt_zero _)⟩) xP xD xS dX6_clearText_17
