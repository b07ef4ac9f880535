theorem kX6_tick_c33 : Cond.constant RX6 33 (-1000001) ∈ wsX6_tick := by decide +kernel
theorem kX6_tick_c93 : Cond.constant RX6 93 (-1000002) ∈ wsX6_tick := by decide +kernel
theorem kX6_tick_f10 : Cond.fieldLink RX6 10 "SkewedSquare" "now" "LSkewedSquare$State;" ∈ wsX6_tick := by decide +kernel
theorem kX6_tick_f22 : Cond.fieldLink RX6 22 "SkewedSquare" "history" "LSkewedSquare$History;" ∈ wsX6_tick := by decide +kernel
theorem kX6_tick_f52 : Cond.fieldLink RX6 52 "SkewedSquare$State" "tile" "LSkewedSquare$Tile;" ∈ wsX6_tick := by decide +kernel
theorem kX6_tick_f56 : Cond.fieldLink RX6 56 "SkewedSquare$Tile" "begun" "Z" ∈ wsX6_tick := by decide +kernel
theorem khX6_tick_X3 : ∀ w ∈ u_ws RX3 TX3 5, w ∈ wsX6_tick := by decide +kernel
theorem khX6_tick_X5 : ∀ w ∈ u_ws RX5 TX5 11, w ∈ wsX6_tick := by decide +kernel
theorem khX6_tick_X6 : ∀ w ∈ u_ws RX6 TX6 4, w ∈ wsX6_tick := by decide +kernel
set_option maxHeartbeats 4000000 in
set_option maxRecDepth 100000 in
/-- kX6_tick -/
theorem kX6_tick (l : Launch) (G : wG) (x0 : Nat) (na tra : SA) (h : HA) (k : XA) (n o : Nat) (kf : wF) (lr lc : Nat) (L : wF) (rr rc : Nat) (R : wF) (sr sc : Nat) (Z : wF) (b ta tb th tw tt tn : Nat) (sm0 mt rw dn : wF) (v : SD) (hn : Nat) (u0 u1 u2 u3 : SD) (w : XD) (s : wF) (pst : PF) (v1 : Int32) (hR : RelS ((n, o, kf), (lr, lc, L), (rr, rc, R), (sr, sc, Z), (b, ta, tb, th, tw, tt, tn, sm0, mt, rw, dn)) s) (hh : hn ≤ 4) (hH : HRel hn u0 u1 u2 u3 pst) : CI (S := CS) l yX6_tick wsX6_tick (rm 5 111) G [.ref x0, .int v1] (List.flatten [[((x0, na.1, tra.1, h.1, k.1).1, .inr (6, [.ref ((x0, na.1, tra.1, h.1, k.1).2.1), .ref ((x0, na.1, tra.1, h.1, k.1).2.2.1), .ref ((x0, na.1, tra.1, h.1, k.1).2.2.2.1), .ref ((x0, na.1, tra.1, h.1, k.1).2.2.2.2)]))], wS G na ((n, o, kf), (lr, lc, L), (rr, rc, R), (sr, sc, Z), (b, ta, tb, th, tw, tt, tn, sm0, mt, rw, dn)), wS G tra v, wHf G h (hn, u0, u1, u2, u3), wX G k w]) (fun x u9 => PO x u9 (opTick lc n o lr rc b ta tb tt v1 s pst hn)) (fun u9 => List.flatten [[((x0, na.1, tra.1, h.1, k.1).1, .inr (6, [.ref ((x0, na.1, tra.1, h.1, k.1).2.1), .ref ((x0, na.1, tra.1, h.1, k.1).2.2.1), .ref ((x0, na.1, tra.1, h.1, k.1).2.2.2.1), .ref ((x0, na.1, tra.1, h.1, k.1).2.2.2.2)]))], wS G na u9.1, wS G tra v, wHf G (h.1, h.2.1, u9.2.1, u9.2.2.1, u9.2.2.2.1, u9.2.2.2.2.1) u9.2.2.2.2.2, wX G k w]) := by
  refine CI.of (own := RX6) rfl (by decide) rfl (Nat.le_of_ble_eq_true rfl) ?_
  intro p9 e9 s9 m9 b9 t9 c9 A xE xB xM xO xT xK xP xD Q xQ xS ls hl
  have xL : lv_has ls 2 [(0, .ref x0), (1, .int v1)] := hl
  obtain ⟨hn1, hn2, hn3⟩ := hR.1.2.2.1
  obtain ⟨hm1, hm2, hm3, hm4, hm5, hm6⟩ := hR.2.2.1.2.2.2.1
  obtain ⟨hd1, hd2, hd3⟩ := hR.2.2.2.1
  have hb1 := hR.2.2.2.2.2.1.1
  refine lv_iload_n xE xB dX6_tick_0 rfl (lv_at xL 1 rfl) ?_
  refine lv_iconst (v := nI 1) xE xB dX6_tick_1 (by decide) ?_
  refine lv_icmp_lt (tgt := 11) xE xB dX6_tick_2 (by decide) (fun c_2 => ?_) (fun c_2 => ?_)
  · skip
    refine lv_ldc (v := (-1000001)) xE xB xO (xT _ kX6_tick_c33) dX6_tick_11 ?_
    exact xQ _ _ _ _ _ (((n, o, kf), (lr, lc, L), (rr, rc, R), (sr, sc, Z), (b, ta, tb, th, tw, tt, tn, sm0, mt, rw, dn)), h.2.2.1, h.2.2.2.1, h.2.2.2.2.1, h.2.2.2.2.2, (hn, u0, u1, u2, u3)) (by (try (first | replace c_2 := ti_neg c_2 | replace c_2 := ti_nneg c_2 | replace c_2 := ti_lt c_2 | replace c_2 := ti_nlt c_2 | replace c_2 := ti_gt c_2 | replace c_2 := ti_ngt c_2 | replace c_2 := ti_le c_2 | replace c_2 := ti_nle c_2 | replace c_2 := ti_ge c_2 | replace c_2 := ti_nge c_2 | replace c_2 := ti_z c_2 | replace c_2 := ti_nz c_2 | replace c_2 := ti_eq c_2 | replace c_2 := ti_ne c_2)); (try (first | replace c_8 := ti_neg c_8 | replace c_8 := ti_nneg c_8 | replace c_8 := ti_lt c_8 | replace c_8 := ti_nlt c_8 | replace c_8 := ti_gt c_8 | replace c_8 := ti_ngt c_8 | replace c_8 := ti_le c_8 | replace c_8 := ti_nle c_8 | replace c_8 := ti_ge c_8 | replace c_8 := ti_nge c_8 | replace c_8 := ti_z c_8 | replace c_8 := ti_nz c_8 | replace c_8 := ti_eq c_8 | replace c_8 := ti_ne c_8)); rw [show opTick lc n o lr rc b ta tb tt v1 s pst hn = (kINV, s, pst, hn) from if_neg (by omega)]; exact ⟨rfl, hR, rfl, hh, hH⟩) xP xD xS dX6_tick_13
  · skip
    refine lv_iload_n xE xB dX6_tick_5 rfl (lv_at xL 1 rfl) ?_
    refine lv_bipush (v := nI 20) xE xB dX6_tick_6 (by decide) ?_
    refine lv_icmp_le (tgt := 14) xE xB dX6_tick_8 (by decide) (fun c_8 => ?_) (fun c_8 => ?_)
    · skip
      (try (first | replace c_2 := ti_neg c_2 | replace c_2 := ti_nneg c_2 | replace c_2 := ti_lt c_2 | replace c_2 := ti_nlt c_2 | replace c_2 := ti_gt c_2 | replace c_2 := ti_ngt c_2 | replace c_2 := ti_le c_2 | replace c_2 := ti_nle c_2 | replace c_2 := ti_ge c_2 | replace c_2 := ti_nge c_2 | replace c_2 := ti_z c_2 | replace c_2 := ti_nz c_2 | replace c_2 := ti_eq c_2 | replace c_2 := ti_ne c_2)); (try (first | replace c_8 := ti_neg c_8 | replace c_8 := ti_nneg c_8 | replace c_8 := ti_lt c_8 | replace c_8 := ti_nlt c_8 | replace c_8 := ti_gt c_8 | replace c_8 := ti_ngt c_8 | replace c_8 := ti_le c_8 | replace c_8 := ti_nle c_8 | replace c_8 := ti_ge c_8 | replace c_8 := ti_nge c_8 | replace c_8 := ti_z c_8 | replace c_8 := ti_nz c_8 | replace c_8 := ti_eq c_8 | replace c_8 := ti_ne c_8))
      refine lv_aload_n xE xB dX6_tick_14 rfl (lv_at xL 0 rfl) ?_
      refine va_get (D := G.1) (ci := 6) (v := .ref na.1) (C := RX6) (T := TX6) (N := 4) xE xB xT khX6_tick_X6 xO xK.1 xP 0 rfl rfl 0 (by decide) (xT _ kX6_tick_f10) (fun _ h9 => h9) rfl dX6_tick_15 ?_
      refine va_get (D := G.1) (ci := 3) (v := .ref na.2.2.2.2.2.1) (C := RX3) (T := TX3) (N := 5) xE xB xT khX6_tick_X3 xO xK.1 xP 1 rfl rfl 4 (by decide) (xT _ kX6_tick_f52) (fun _ h9 => h9) rfl dX6_tick_18 ?_
      refine va_get (D := G.1) (ci := 5) (v := .int (nI b)) (C := RX5) (T := TX5) (N := 11) xE xB xT khX6_tick_X5 xO xK.1 xP 10 rfl rfl 0 (by decide) (xT _ kX6_tick_f56) (fun _ h9 => h9) rfl dX6_tick_21 ?_
      refine q_if_eq (tgt := 40) xE xB dX6_tick_24 (by decide) (by omega) (fun c_24 => ?_) (fun c_24 => ?_)
      · skip
        refine lv_ldc (v := (-1000002)) xE xB xO (xT _ kX6_tick_c93) dX6_tick_40 ?_
        exact xQ _ _ _ _ _ (((n, o, kf), (lr, lc, L), (rr, rc, R), (sr, sc, Z), (b, ta, tb, th, tw, tt, tn, sm0, mt, rw, dn)), h.2.2.1, h.2.2.2.1, h.2.2.2.2.1, h.2.2.2.2.2, (hn, u0, u1, u2, u3)) (by first | (rw [show opTick lc n o lr rc b ta tb tt v1 s pst hn = (kNP, s, pst, hn) from (if_pos (by omega)).trans (if_pos (Or.inl (by omega)))]; exact ⟨rfl, hR, rfl, hh, hH⟩) | (rw [show opTick lc n o lr rc b ta tb tt v1 s pst hn = (kNP, s, pst, hn) from (if_pos (by omega)).trans (if_pos (Or.inr (by omega)))]; exact ⟨rfl, hR, rfl, hh, hH⟩)) xP xD xS dX6_tick_42
      · skip
        have hb1' : b = 1 := by omega
        have hT0 := (hR.2.2.2.2.2.2 hb1').1
        have htn : tn = need lc n lr rc ta tb := hT0.2.2.2.2.2.2.2.1
        have htt : tt ≤ tn := hT0.2.2.2.2.2.2.2.2
        have h20 := (RelT.t20 hT0 hR.2.2.1 hR.1.2.2.1).2
        refine lv_aload_n xE xB dX6_tick_27 rfl (lv_at xL 0 rfl) ?_
        refine va_get (D := G.1) (ci := 6) (v := .ref na.1) (C := RX6) (T := TX6) (N := 4) xE xB xT khX6_tick_X6 xO xK.1 xP 0 rfl rfl 0 (by decide) (xT _ kX6_tick_f10) (fun _ h9 => h9) rfl dX6_tick_28 ?_
        refine va_get (D := G.1) (ci := 3) (v := .ref na.2.2.2.2.2.1) (C := RX3) (T := TX3) (N := 5) xE xB xT khX6_tick_X3 xO xK.1 xP 1 rfl rfl 4 (by decide) (xT _ kX6_tick_f52) (fun _ h9 => h9) rfl dX6_tick_31 ?_
        refine q_VR (As := []) (rest := []) ⟨xE, xB, xM, xO, xT⟩ (kX5_ticksLeft l G na.2.2.2.2.2 b ta tb th tw tt tn sm0 mt rw dn (by omega)) (cwV 0 xT gX6_tick_X5_ticksLeft rfl rfl rfl (by decide +kernel) ⟨Nat.le_of_ble_eq_true rfl, Nat.le_of_ble_eq_true rfl⟩) xK xP [10, 11, 12, 13, 14] rfl 0 rfl rfl rfl rfl xL.1 rfl (Nat.le_of_ble_eq_true rfl) dX6_tick_34 ⟨Nat.le_refl _, Nat.le_refl _⟩ (fun r_34 h_34 => ?_)
        obtain rfl : r_34 = nI (tn - tt) := h_34
        refine q_if_ne (tgt := 43) xE xB dX6_tick_37 (by decide) (by omega) (fun c_37 => ?_) (fun c_37 => ?_)
        · skip
          have e_v1 : v1 = nI (tN v1) := tN_eq (by omega)
          have b_v1 : (tN v1 : Int) = v1.toInt := tN_z (by omega)
          rw [e_v1] at xL
          have xL : lv_has ls 2 [(0, .ref x0), (1, .int (nI (tN v1)))] := xL
          refine lv_aload_n xE xB dX6_tick_43 rfl (lv_at xL 0 rfl) ?_
          refine va_get (D := G.1) (ci := 6) (v := .ref h.1) (C := RX6) (T := TX6) (N := 4) xE xB xT khX6_tick_X6 xO xK.1 xP 0 rfl rfl 2 (by decide) (xT _ kX6_tick_f22) (fun _ h9 => h9) rfl dX6_tick_44 ?_
          refine lv_aload_n xE xB dX6_tick_47 rfl (lv_at xL 0 rfl) ?_
          refine va_get (D := G.1) (ci := 6) (v := .ref na.1) (C := RX6) (T := TX6) (N := 4) xE xB xT khX6_tick_X6 xO xK.1 xP 0 rfl rfl 0 (by decide) (xT _ kX6_tick_f10) (fun _ h9 => h9) rfl dX6_tick_48 ?_
          refine q_VVL (As := [.ref na.1]) (rest := []) ⟨xE, xB, xM, xO, xT⟩ (kX0_remember l G h hn u0 u1 u2 u3 na ((n, o, kf), (lr, lc, L), (rr, rc, R), (sr, sc, Z), (b, ta, tb, th, tw, tt, tn, sm0, mt, rw, dn)) pst s (by exact hh) (by exact hH) (by exact hR)) (cwV 1 xT gX6_tick_X0_remember rfl rfl rfl (by decide +kernel) ⟨Nat.le_of_ble_eq_true rfl, Nat.le_of_ble_eq_true rfl⟩) xK xP xD xS [3, 1] [0, 2, 4] 5 rfl (by decide) (Lc := [wHf G h (hn, u0, u1, u2, u3), wS G na ((n, o, kf), (lr, lc, L), (rr, rc, R), (sr, sc, Z), (b, ta, tb, th, tw, tt, tn, sm0, mt, rw, dn))]) rfl (by simp only [List.flatten_cons, List.flatten_nil, List.append_nil, List.append_assoc]) (fun u_51 => [[(x0, .inr (6, [.ref na.1, .ref tra.1, .ref h.1, .ref k.1]))], wS G na ((n, o, kf), (lr, lc, L), (rr, rc, R), (sr, sc, Z), (b, ta, tb, th, tw, tt, tn, sm0, mt, rw, dn)), wS G tra v, wHf G (h.1, h.2.1, u_51.1, u_51.2.1, u_51.2.2.1, u_51.2.2.2.1) (chgN hn, u_51.2.2.2.2.1, u_51.2.2.2.2.2.1, u_51.2.2.2.2.2.2.1, u_51.2.2.2.2.2.2.2), wX G k w]) (fun u_51 => [wHf G (h.1, h.2.1, u_51.1, u_51.2.1, u_51.2.2.1, u_51.2.2.2.1) (chgN hn, u_51.2.2.2.2.1, u_51.2.2.2.2.2.1, u_51.2.2.2.2.2.2.1, u_51.2.2.2.2.2.2.2), wS G na ((n, o, kf), (lr, lc, L), (rr, rc, R), (sr, sc, Z), (b, ta, tb, th, tw, tt, tn, sm0, mt, rw, dn))]) (fun _ => rfl) (fun _ => rfl) (fun _ => by simp only [List.flatten_cons, List.flatten_nil, List.append_nil, List.append_assoc]) (fun _ => rfl) 0 rfl rfl rfl rfl xL.1 rfl (Nat.le_of_ble_eq_true rfl) dX6_tick_51 ⟨Nat.le_refl _, Nat.le_refl _⟩ (fun u_51 H locs h_51 xP xD xS => ?_)
          have h_51 : HRel (chgN hn) u_51.2.2.2.2.1 u_51.2.2.2.2.2.1 u_51.2.2.2.2.2.2.1 u_51.2.2.2.2.2.2.2 (chgP s pst hn) := h_51
          refine lv_aload_n xE xB dX6_tick_54 rfl (lv_at xL 0 rfl) ?_
          refine va_get (D := G.1) (ci := 6) (v := .ref na.1) (C := RX6) (T := TX6) (N := 4) xE xB xT khX6_tick_X6 xO xK.1 xP 0 rfl rfl 0 (by decide) (xT _ kX6_tick_f10) (fun _ h9 => h9) rfl dX6_tick_55 ?_
          refine lv_iload_n xE xB dX6_tick_58 rfl (lv_at xL 1 rfl) ?_
          refine q_VVL (As := [.int (nI (tN v1))]) (rest := []) ⟨xE, xB, xM, xO, xT⟩ (kX3_goOn l G na n o kf lr lc L rr rc R sr sc Z b ta tb th tw tt tn sm0 mt rw dn s (tN v1) (by exact hR.1) (by exact hR.2.2.1) (by exact hR.2.2.2.1.1) (by exact hT0) (by exact (hR.2.2.2.2.2.2 hb1').2.1) (by exact (hR.2.2.2.2.2.2 hb1').2.2.1) (by omega)) (cwV 1 xT gX6_tick_X3_goOn rfl rfl rfl (by decide +kernel) ⟨Nat.le_of_ble_eq_true rfl, Nat.le_of_ble_eq_true rfl⟩) xK xP xD xS [1] [0, 2, 3, 4] 5 rfl (by decide) (Lc := [wS G na ((n, o, kf), (lr, lc, L), (rr, rc, R), (sr, sc, Z), (b, ta, tb, th, tw, tt, tn, sm0, mt, rw, dn))]) rfl (by simp only [List.flatten_cons, List.flatten_nil, List.append_nil, List.append_assoc]) (fun u_59 => [[(x0, .inr (6, [.ref na.1, .ref tra.1, .ref h.1, .ref k.1]))], wS G na ((n, o, kf), (lr, lc, L), (rr, rc, R), (sr, sc, Z), (b, ta, tb, th, tw, tt + min (tN v1) (tn - tt), tn, u_59.1, u_59.2.1, u_59.2.2.1, u_59.2.2.2)), wS G tra v, wHf G (h.1, h.2.1, u_51.1, u_51.2.1, u_51.2.2.1, u_51.2.2.2.1) (chgN hn, u_51.2.2.2.2.1, u_51.2.2.2.2.2.1, u_51.2.2.2.2.2.2.1, u_51.2.2.2.2.2.2.2), wX G k w]) (fun u_59 => [wS G na ((n, o, kf), (lr, lc, L), (rr, rc, R), (sr, sc, Z), (b, ta, tb, th, tw, tt + min (tN v1) (tn - tt), tn, u_59.1, u_59.2.1, u_59.2.2.1, u_59.2.2.2))]) (fun _ => rfl) (fun _ => rfl) (fun _ => by simp only [List.flatten_cons, List.flatten_nil, List.append_nil, List.append_assoc]) (fun _ => rfl) 0 rfl rfl rfl rfl xL.1 rfl (Nat.le_of_ble_eq_true rfl) dX6_tick_59 ⟨Nat.le_refl _, Nat.le_refl _⟩ (fun u_59 H locs h_59 xP xD xS => ?_)
          have h_59 : CellR u_59.1 u_59.2.1 u_59.2.2.1 u_59.2.2.2 (goN lc n o lr rc ta tb (min (tN v1) (tn - tt)) tt s) := h_59
          refine lv_aload_n xE xB dX6_tick_62 rfl (lv_at xL 0 rfl) ?_
          refine va_get (D := G.1) (ci := 6) (v := .ref na.1) (C := RX6) (T := TX6) (N := 4) xE xB xT khX6_tick_X6 xO xK.1 xP 0 rfl rfl 0 (by decide) (xT _ kX6_tick_f10) (fun _ h9 => h9) rfl dX6_tick_63 ?_
          refine va_get (D := G.1) (ci := 3) (v := .ref na.2.2.2.2.2.1) (C := RX3) (T := TX3) (N := 5) xE xB xT khX6_tick_X3 xO xK.1 xP 1 rfl rfl 4 (by decide) (xT _ kX6_tick_f52) (fun _ h9 => h9) rfl dX6_tick_66 ?_
          refine q_VR (As := []) (rest := []) ⟨xE, xB, xM, xO, xT⟩ (kX5_ticksLeft l G na.2.2.2.2.2 b ta tb th tw (tt + min (tN v1) (tn - tt)) tn u_59.1 u_59.2.1 u_59.2.2.1 u_59.2.2.2 (by omega)) (cwV 0 xT gX6_tick_X5_ticksLeft rfl rfl rfl (by decide +kernel) ⟨Nat.le_of_ble_eq_true rfl, Nat.le_of_ble_eq_true rfl⟩) xK xP [10, 11, 12, 13, 14] rfl 0 rfl rfl rfl rfl xL.1 rfl (Nat.le_of_ble_eq_true rfl) dX6_tick_69 ⟨Nat.le_refl _, Nat.le_refl _⟩ (fun r_69 h_69 => ?_)
          obtain rfl : r_69 = nI (tn - (tt + min (tN v1) (tn - tt))) := h_69
          exact xQ _ _ _ _ _ (((n, o, kf), (lr, lc, L), (rr, rc, R), (sr, sc, Z), (b, ta, tb, th, tw, tt + min (tN v1) (tn - tt), tn, u_59.1, u_59.2.1, u_59.2.2.1, u_59.2.2.2)), u_51.1, u_51.2.1, u_51.2.2.1, u_51.2.2.2.1, (chgN hn, u_51.2.2.2.2.1, u_51.2.2.2.2.2.1, u_51.2.2.2.2.2.2.1, u_51.2.2.2.2.2.2.2)) (by rw [show opTick lc n o lr rc b ta tb tt v1 s pst hn = (nI (tn - (tt + min (tN v1) (tn - tt))), goN lc n o lr rc ta tb (min (tN v1) (tn - tt)) tt s, chgP s pst hn, chgN hn) from (by unfold opTick; rw [← htn, if_pos (by omega), if_neg (by omega)])]; exact ⟨rfl, rel_go1 hR hb1' (by omega) h_59, rfl, chgN_4 hh, h_51⟩) xP xD xS dX6_tick_72
        · skip
          refine lv_ldc (v := (-1000002)) xE xB xO (xT _ kX6_tick_c93) dX6_tick_40 ?_
          exact xQ _ _ _ _ _ (((n, o, kf), (lr, lc, L), (rr, rc, R), (sr, sc, Z), (b, ta, tb, th, tw, tt, tn, sm0, mt, rw, dn)), h.2.2.1, h.2.2.2.1, h.2.2.2.2.1, h.2.2.2.2.2, (hn, u0, u1, u2, u3)) (by first | (rw [show opTick lc n o lr rc b ta tb tt v1 s pst hn = (kNP, s, pst, hn) from (if_pos (by omega)).trans (if_pos (Or.inl (by omega)))]; exact ⟨rfl, hR, rfl, hh, hH⟩) | (rw [show opTick lc n o lr rc b ta tb tt v1 s pst hn = (kNP, s, pst, hn) from (if_pos (by omega)).trans (if_pos (Or.inr (by omega)))]; exact ⟨rfl, hR, rfl, hh, hH⟩)) xP xD xS dX6_tick_42
    · skip
      refine lv_ldc (v := (-1000001)) xE xB xO (xT _ kX6_tick_c33) dX6_tick_11 ?_
      exact xQ _ _ _ _ _ (((n, o, kf), (lr, lc, L), (rr, rc, R), (sr, sc, Z), (b, ta, tb, th, tw, tt, tn, sm0, mt, rw, dn)), h.2.2.1, h.2.2.2.1, h.2.2.2.2.1, h.2.2.2.2.2, (hn, u0, u1, u2, u3)) (by (try (first | replace c_2 := ti_neg c_2 | replace c_2 := ti_nneg c_2 | replace c_2 := ti_lt c_2 | replace c_2 := ti_nlt c_2 | replace c_2 := ti_gt c_2 | replace c_2 := ti_ngt c_2 | replace c_2 := ti_le c_2 | replace c_2 := ti_nle c_2 | replace c_2 := ti_ge c_2 | replace c_2 := ti_nge c_2 | replace c_2 := ti_z c_2 | replace c_2 := ti_nz c_2 | replace c_2 := ti_eq c_2 | replace c_2 := ti_ne c_2)); (try (first | replace c_8 := ti_neg c_8 | replace c_8 := ti_nneg c_8 | replace c_8 := ti_lt c_8 | replace c_8 := ti_nlt c_8 | replace c_8 := ti_gt c_8 | replace c_8 := ti_ngt c_8 | replace c_8 := ti_le c_8 | replace c_8 := ti_nle c_8 | replace c_8 := ti_ge c_8 | replace c_8 := ti_nge c_8 | replace c_8 := ti_z c_8 | replace c_8 := ti_nz c_8 | replace c_8 := ti_eq c_8 | replace c_8 := ti_ne c_8)); rw [show opTick lc n o lr rc b ta tb tt v1 s pst hn = (kINV, s, pst, hn) from if_neg (by omega)]; exact ⟨rfl, hR, rfl, hh, hH⟩) xP xD xS dX6_tick_13
theorem kX6_drain_c93 : Cond.constant RX6 93 (-1000002) ∈ wsX6_drain := by decide +kernel
theorem kX6_drain_f10 : Cond.fieldLink RX6 10 "SkewedSquare" "now" "LSkewedSquare$State;" ∈ wsX6_drain := by decide +kernel
theorem kX6_drain_f22 : Cond.fieldLink RX6 22 "SkewedSquare" "history" "LSkewedSquare$History;" ∈ wsX6_drain := by decide +kernel
theorem kX6_drain_f52 : Cond.fieldLink RX6 52 "SkewedSquare$State" "tile" "LSkewedSquare$Tile;" ∈ wsX6_drain := by decide +kernel
theorem kX6_drain_f56 : Cond.fieldLink RX6 56 "SkewedSquare$Tile" "begun" "Z" ∈ wsX6_drain := by decide +kernel
theorem khX6_drain_X3 : ∀ w ∈ u_ws RX3 TX3 5, w ∈ wsX6_drain := by decide +kernel
theorem khX6_drain_X5 : ∀ w ∈ u_ws RX5 TX5 11, w ∈ wsX6_drain := by decide +kernel
theorem khX6_drain_X6 : ∀ w ∈ u_ws RX6 TX6 4, w ∈ wsX6_drain := by decide +kernel
set_option maxHeartbeats 4000000 in
set_option maxRecDepth 100000 in
/-- kX6_drain -/
theorem kX6_drain (l : Launch) (G : wG) (x0 : Nat) (na tra : SA) (h : HA) (k : XA) (n o : Nat) (kf : wF) (lr lc : Nat) (L : wF) (rr rc : Nat) (R : wF) (sr sc : Nat) (Z : wF) (b ta tb th tw tt tn : Nat) (sm0 mt rw dn : wF) (v : SD) (hn : Nat) (u0 u1 u2 u3 : SD) (w : XD) (s : wF) (pst : PF) (hR : RelS ((n, o, kf), (lr, lc, L), (rr, rc, R), (sr, sc, Z), (b, ta, tb, th, tw, tt, tn, sm0, mt, rw, dn)) s) (hh : hn ≤ 4) (hH : HRel hn u0 u1 u2 u3 pst) : CI (S := CS) l yX6_drain wsX6_drain (rm 4 81) G [.ref x0] (List.flatten [[((x0, na.1, tra.1, h.1, k.1).1, .inr (6, [.ref ((x0, na.1, tra.1, h.1, k.1).2.1), .ref ((x0, na.1, tra.1, h.1, k.1).2.2.1), .ref ((x0, na.1, tra.1, h.1, k.1).2.2.2.1), .ref ((x0, na.1, tra.1, h.1, k.1).2.2.2.2)]))], wS G na ((n, o, kf), (lr, lc, L), (rr, rc, R), (sr, sc, Z), (b, ta, tb, th, tw, tt, tn, sm0, mt, rw, dn)), wS G tra v, wHf G h (hn, u0, u1, u2, u3), wX G k w]) (fun x u9 => PO x u9 (opDrain lc n lr rc b ta tb tt s pst hn)) (fun u9 => List.flatten [[((x0, na.1, tra.1, h.1, k.1).1, .inr (6, [.ref ((x0, na.1, tra.1, h.1, k.1).2.1), .ref ((x0, na.1, tra.1, h.1, k.1).2.2.1), .ref ((x0, na.1, tra.1, h.1, k.1).2.2.2.1), .ref ((x0, na.1, tra.1, h.1, k.1).2.2.2.2)]))], wS G na u9.1, wS G tra v, wHf G (h.1, h.2.1, u9.2.1, u9.2.2.1, u9.2.2.2.1, u9.2.2.2.2.1) u9.2.2.2.2.2, wX G k w]) := by
  refine CI.of (own := RX6) rfl (by decide) rfl (Nat.le_of_ble_eq_true rfl) ?_
  intro p9 e9 s9 m9 b9 t9 c9 A xE xB xM xO xT xK xP xD Q xQ xS ls hl
  have xL : lv_has ls 1 [(0, .ref x0)] := hl
  obtain ⟨hn1, hn2, hn3⟩ := hR.1.2.2.1
  obtain ⟨hm1, hm2, hm3, hm4, hm5, hm6⟩ := hR.2.2.1.2.2.2.1
  obtain ⟨hd1, hd2, hd3⟩ := hR.2.2.2.1
  have hb1 := hR.2.2.2.2.2.1.1
  refine lv_aload_n xE xB dX6_drain_0 rfl (lv_at xL 0 rfl) ?_
  refine va_get (D := G.1) (ci := 6) (v := .ref na.1) (C := RX6) (T := TX6) (N := 4) xE xB xT khX6_drain_X6 xO xK.1 xP 0 rfl rfl 0 (by decide) (xT _ kX6_drain_f10) (fun _ h9 => h9) rfl dX6_drain_1 ?_
  refine va_get (D := G.1) (ci := 3) (v := .ref na.2.2.2.2.2.1) (C := RX3) (T := TX3) (N := 5) xE xB xT khX6_drain_X3 xO xK.1 xP 1 rfl rfl 4 (by decide) (xT _ kX6_drain_f52) (fun _ h9 => h9) rfl dX6_drain_4 ?_
  refine va_get (D := G.1) (ci := 5) (v := .int (nI b)) (C := RX5) (T := TX5) (N := 11) xE xB xT khX6_drain_X5 xO xK.1 xP 10 rfl rfl 0 (by decide) (xT _ kX6_drain_f56) (fun _ h9 => h9) rfl dX6_drain_7 ?_
  refine q_if_eq (tgt := 26) xE xB dX6_drain_10 (by decide) (by omega) (fun c_10 => ?_) (fun c_10 => ?_)
  · skip
    refine lv_ldc (v := (-1000002)) xE xB xO (xT _ kX6_drain_c93) dX6_drain_26 ?_
    exact xQ _ _ _ _ _ (((n, o, kf), (lr, lc, L), (rr, rc, R), (sr, sc, Z), (b, ta, tb, th, tw, tt, tn, sm0, mt, rw, dn)), h.2.2.1, h.2.2.2.1, h.2.2.2.2.1, h.2.2.2.2.2, (hn, u0, u1, u2, u3)) (by first | (rw [show opDrain lc n lr rc b ta tb tt s pst hn = (kNP, s, pst, hn) from if_pos (Or.inl (by omega))]; exact ⟨rfl, hR, rfl, hh, hH⟩) | (rw [show opDrain lc n lr rc b ta tb tt s pst hn = (kNP, s, pst, hn) from if_pos (Or.inr (by omega))]; exact ⟨rfl, hR, rfl, hh, hH⟩)) xP xD xS dX6_drain_28
  · skip
    have hb1' : b = 1 := by omega
    have hT0 := (hR.2.2.2.2.2.2 hb1').1
    have htn : tn = need lc n lr rc ta tb := hT0.2.2.2.2.2.2.2.1
    have htt : tt ≤ tn := hT0.2.2.2.2.2.2.2.2
    have h20 := (RelT.t20 hT0 hR.2.2.1 hR.1.2.2.1).2
    refine lv_aload_n xE xB dX6_drain_13 rfl (lv_at xL 0 rfl) ?_
    refine va_get (D := G.1) (ci := 6) (v := .ref na.1) (C := RX6) (T := TX6) (N := 4) xE xB xT khX6_drain_X6 xO xK.1 xP 0 rfl rfl 0 (by decide) (xT _ kX6_drain_f10) (fun _ h9 => h9) rfl dX6_drain_14 ?_
    refine va_get (D := G.1) (ci := 3) (v := .ref na.2.2.2.2.2.1) (C := RX3) (T := TX3) (N := 5) xE xB xT khX6_drain_X3 xO xK.1 xP 1 rfl rfl 4 (by decide) (xT _ kX6_drain_f52) (fun _ h9 => h9) rfl dX6_drain_17 ?_
    refine q_VR (As := []) (rest := []) ⟨xE, xB, xM, xO, xT⟩ (kX5_ticksLeft l G na.2.2.2.2.2 b ta tb th tw tt tn sm0 mt rw dn (by omega)) (cwV 0 xT gX6_drain_X5_ticksLeft rfl rfl rfl (by decide +kernel) ⟨Nat.le_of_ble_eq_true rfl, Nat.le_of_ble_eq_true rfl⟩) xK xP [10, 11, 12, 13, 14] rfl 0 rfl rfl rfl rfl xL.1 rfl (Nat.le_of_ble_eq_true rfl) dX6_drain_20 ⟨Nat.le_refl _, Nat.le_refl _⟩ (fun r_20 h_20 => ?_)
    obtain rfl : r_20 = nI (tn - tt) := h_20
    refine q_if_le (tgt := 29) xE xB dX6_drain_23 (by decide) (by omega) (fun c_23 => ?_) (fun c_23 => ?_)
    · skip
      refine lv_aload_n xE xB dX6_drain_29 rfl (lv_at xL 0 rfl) ?_
      refine va_get (D := G.1) (ci := 6) (v := .ref h.1) (C := RX6) (T := TX6) (N := 4) xE xB xT khX6_drain_X6 xO xK.1 xP 0 rfl rfl 2 (by decide) (xT _ kX6_drain_f22) (fun _ h9 => h9) rfl dX6_drain_30 ?_
      refine lv_aload_n xE xB dX6_drain_33 rfl (lv_at xL 0 rfl) ?_
      refine va_get (D := G.1) (ci := 6) (v := .ref na.1) (C := RX6) (T := TX6) (N := 4) xE xB xT khX6_drain_X6 xO xK.1 xP 0 rfl rfl 0 (by decide) (xT _ kX6_drain_f10) (fun _ h9 => h9) rfl dX6_drain_34 ?_
      refine q_VVL (As := [.ref na.1]) (rest := []) ⟨xE, xB, xM, xO, xT⟩ (kX0_remember l G h hn u0 u1 u2 u3 na ((n, o, kf), (lr, lc, L), (rr, rc, R), (sr, sc, Z), (b, ta, tb, th, tw, tt, tn, sm0, mt, rw, dn)) pst s (by exact hh) (by exact hH) (by exact hR)) (cwV 1 xT gX6_drain_X0_remember rfl rfl rfl (by decide +kernel) ⟨Nat.le_of_ble_eq_true rfl, Nat.le_of_ble_eq_true rfl⟩) xK xP xD xS [3, 1] [0, 2, 4] 5 rfl (by decide) (Lc := [wHf G h (hn, u0, u1, u2, u3), wS G na ((n, o, kf), (lr, lc, L), (rr, rc, R), (sr, sc, Z), (b, ta, tb, th, tw, tt, tn, sm0, mt, rw, dn))]) rfl (by simp only [List.flatten_cons, List.flatten_nil, List.append_nil, List.append_assoc]) (fun u_37 => [[(x0, .inr (6, [.ref na.1, .ref tra.1, .ref h.1, .ref k.1]))], wS G na ((n, o, kf), (lr, lc, L), (rr, rc, R), (sr, sc, Z), (b, ta, tb, th, tw, tt, tn, sm0, mt, rw, dn)), wS G tra v, wHf G (h.1, h.2.1, u_37.1, u_37.2.1, u_37.2.2.1, u_37.2.2.2.1) (chgN hn, u_37.2.2.2.2.1, u_37.2.2.2.2.2.1, u_37.2.2.2.2.2.2.1, u_37.2.2.2.2.2.2.2), wX G k w]) (fun u_37 => [wHf G (h.1, h.2.1, u_37.1, u_37.2.1, u_37.2.2.1, u_37.2.2.2.1) (chgN hn, u_37.2.2.2.2.1, u_37.2.2.2.2.2.1, u_37.2.2.2.2.2.2.1, u_37.2.2.2.2.2.2.2), wS G na ((n, o, kf), (lr, lc, L), (rr, rc, R), (sr, sc, Z), (b, ta, tb, th, tw, tt, tn, sm0, mt, rw, dn))]) (fun _ => rfl) (fun _ => rfl) (fun _ => by simp only [List.flatten_cons, List.flatten_nil, List.append_nil, List.append_assoc]) (fun _ => rfl) 0 rfl rfl rfl rfl xL.1 rfl (Nat.le_of_ble_eq_true rfl) dX6_drain_37 ⟨Nat.le_refl _, Nat.le_refl _⟩ (fun u_37 H locs h_37 xP xD xS => ?_)
      have h_37 : HRel (chgN hn) u_37.2.2.2.2.1 u_37.2.2.2.2.2.1 u_37.2.2.2.2.2.2.1 u_37.2.2.2.2.2.2.2 (chgP s pst hn) := h_37
      refine lv_aload_n xE xB dX6_drain_40 rfl (lv_at xL 0 rfl) ?_
      refine va_get (D := G.1) (ci := 6) (v := .ref na.1) (C := RX6) (T := TX6) (N := 4) xE xB xT khX6_drain_X6 xO xK.1 xP 0 rfl rfl 0 (by decide) (xT _ kX6_drain_f10) (fun _ h9 => h9) rfl dX6_drain_41 ?_
      refine q_VVL (As := []) (rest := []) ⟨xE, xB, xM, xO, xT⟩ (kX3_drainTile l G na n o kf lr lc L rr rc R sr sc Z b ta tb th tw tt tn sm0 mt rw dn s (by exact hR.1.2.2.1) (by exact hR.2.2.1) (by exact hR.2.2.2.1.2) (by exact hR.2.2.2.2.1) (by exact hT0) (by exact (hR.2.2.2.2.2.2 hb1').2.1) (by exact (hR.2.2.2.2.2.2 hb1').2.2.2) (by exact hb1)) (cwV 0 xT gX6_drain_X3_drainTile rfl rfl rfl (by decide +kernel) ⟨Nat.le_of_ble_eq_true rfl, Nat.le_of_ble_eq_true rfl⟩) xK xP xD xS [1] [0, 2, 3, 4] 5 rfl (by decide) (Lc := [wS G na ((n, o, kf), (lr, lc, L), (rr, rc, R), (sr, sc, Z), (b, ta, tb, th, tw, tt, tn, sm0, mt, rw, dn))]) rfl (by simp only [List.flatten_cons, List.flatten_nil, List.append_nil, List.append_assoc]) (fun u_44 => [[(x0, .inr (6, [.ref na.1, .ref tra.1, .ref h.1, .ref k.1]))], wS G na ((n, o, kf), (lr, lc, L), (rr, rc, R), (sr, sc, u_44), (0, ta, tb, th, tw, tt, tn, sm0, mt, rw, dn)), wS G tra v, wHf G (h.1, h.2.1, u_37.1, u_37.2.1, u_37.2.2.1, u_37.2.2.2.1) (chgN hn, u_37.2.2.2.2.1, u_37.2.2.2.2.2.1, u_37.2.2.2.2.2.2.1, u_37.2.2.2.2.2.2.2), wX G k w]) (fun u_44 => [wS G na ((n, o, kf), (lr, lc, L), (rr, rc, R), (sr, sc, u_44), (0, ta, tb, th, tw, tt, tn, sm0, mt, rw, dn))]) (fun _ => rfl) (fun _ => rfl) (fun _ => by simp only [List.flatten_cons, List.flatten_nil, List.append_nil, List.append_assoc]) (fun _ => rfl) 0 rfl rfl rfl rfl xL.1 rfl (Nat.le_of_ble_eq_true rfl) dX6_drain_44 ⟨Nat.le_refl _, Nat.le_refl _⟩ (fun u_44 H locs h_44 xP xD xS => ?_)
      have h_44 : RelZ lr rc u_44 (drF n lr rc ta tb s) := h_44
      refine lv_aload_n xE xB dX6_drain_47 rfl (lv_at xL 0 rfl) ?_
      refine va_get (D := G.1) (ci := 6) (v := .ref na.1) (C := RX6) (T := TX6) (N := 4) xE xB xT khX6_drain_X6 xO xK.1 xP 0 rfl rfl 0 (by decide) (xT _ kX6_drain_f10) (fun _ h9 => h9) rfl dX6_drain_48 ?_
      refine q_VRL (As := []) (rest := []) ⟨xE, xB, xM, xO, xT⟩ (kX3_knownEntries l G na n o kf lr lc L rr rc R sr sc u_44 0 ta tb th tw tt tn sm0 mt rw dn (by omega) (by omega)) (cwV 0 xT gX6_drain_X3_knownEntries rfl rfl rfl (by decide +kernel) ⟨Nat.le_of_ble_eq_true rfl, Nat.le_of_ble_eq_true rfl⟩) xK xP [1] [0, 2, 3, 4] 5 rfl (by decide) (Lc := [wS G na ((n, o, kf), (lr, lc, L), (rr, rc, R), (sr, sc, u_44), (0, ta, tb, th, tw, tt, tn, sm0, mt, rw, dn))]) rfl (by simp only [List.flatten_cons, List.flatten_nil, List.append_nil, List.append_assoc]) 0 rfl rfl rfl rfl xL.1 rfl (Nat.le_of_ble_eq_true rfl) dX6_drain_51 ⟨Nat.le_refl _, Nat.le_refl _⟩ (fun r_51 h_51 => ?_)
      obtain rfl : r_51 = nI (ns (fun i => ns (fun j => if u_44 (6 * i + j) = NO then 0 else 1) sc) sr) := h_51
      exact xQ _ _ _ _ _ (((n, o, kf), (lr, lc, L), (rr, rc, R), (sr, sc, u_44), (0, ta, tb, th, tw, tt, tn, sm0, mt, rw, dn)), u_37.1, u_37.2.1, u_37.2.2.1, u_37.2.2.2.1, (chgN hn, u_37.2.2.2.2.1, u_37.2.2.2.2.2.1, u_37.2.2.2.2.2.2.1, u_37.2.2.2.2.2.2.2)) (by have hk9 : ns (fun i => ns (fun j => if u_44 (6 * i + j) = NO then 0 else 1) sc) sr = knN (drF n lr rc ta tb s) := (by rw [hd2, hd3]; exact knL h_44 hm2 hm6); rw [show opDrain lc n lr rc b ta tb tt s pst hn = (nI (knN (drF n lr rc ta tb s)), drF n lr rc ta tb s, chgP s pst hn, chgN hn) from if_neg (by omega)]; exact ⟨congrArg nI hk9, rel_dr1 hR hb1' h_44, rfl, chgN_4 hh, h_37⟩) xP xD xS dX6_drain_54
    · skip
      refine lv_ldc (v := (-1000002)) xE xB xO (xT _ kX6_drain_c93) dX6_drain_26 ?_
      exact xQ _ _ _ _ _ (((n, o, kf), (lr, lc, L), (rr, rc, R), (sr, sc, Z), (b, ta, tb, th, tw, tt, tn, sm0, mt, rw, dn)), h.2.2.1, h.2.2.2.1, h.2.2.2.2.1, h.2.2.2.2.2, (hn, u0, u1, u2, u3)) (by first | (rw [show opDrain lc n lr rc b ta tb tt s pst hn = (kNP, s, pst, hn) from if_pos (Or.inl (by omega))]; exact ⟨rfl, hR, rfl, hh, hH⟩) | (rw [show opDrain lc n lr rc b ta tb tt s pst hn = (kNP, s, pst, hn) from if_pos (Or.inr (by omega))]; exact ⟨rfl, hR, rfl, hh, hH⟩)) xP xD xS dX6_drain_28
theorem kX6_all_c93 : Cond.constant RX6 93 (-1000002) ∈ wsX6_all := by decide +kernel
theorem kX6_all_f10 : Cond.fieldLink RX6 10 "SkewedSquare" "now" "LSkewedSquare$State;" ∈ wsX6_all := by decide +kernel
theorem kX6_all_f22 : Cond.fieldLink RX6 22 "SkewedSquare" "history" "LSkewedSquare$History;" ∈ wsX6_all := by decide +kernel
theorem kX6_all_f52 : Cond.fieldLink RX6 52 "SkewedSquare$State" "tile" "LSkewedSquare$Tile;" ∈ wsX6_all := by decide +kernel
theorem kX6_all_f56 : Cond.fieldLink RX6 56 "SkewedSquare$Tile" "begun" "Z" ∈ wsX6_all := by decide +kernel
theorem khX6_all_X3 : ∀ w ∈ u_ws RX3 TX3 5, w ∈ wsX6_all := by decide +kernel
theorem khX6_all_X5 : ∀ w ∈ u_ws RX5 TX5 11, w ∈ wsX6_all := by decide +kernel
theorem khX6_all_X6 : ∀ w ∈ u_ws RX6 TX6 4, w ∈ wsX6_all := by decide +kernel
set_option maxHeartbeats 4000000 in
set_option maxRecDepth 100000 in
/-- kX6_all -/
theorem kX6_all (l : Launch) (G : wG) (x0 : Nat) (na tra : SA) (h : HA) (k : XA) (n o : Nat) (kf : wF) (lr lc : Nat) (L : wF) (rr rc : Nat) (R : wF) (sr sc : Nat) (Z : wF) (b ta tb th tw tt tn : Nat) (sm0 mt rw dn : wF) (v : SD) (hn : Nat) (u0 u1 u2 u3 : SD) (w : XD) (s : wF) (pst : PF) (hR : RelS ((n, o, kf), (lr, lc, L), (rr, rc, R), (sr, sc, Z), (b, ta, tb, th, tw, tt, tn, sm0, mt, rw, dn)) s) (hh : hn ≤ 4) (hH : HRel hn u0 u1 u2 u3 pst) : CI (S := CS) l yX6_all wsX6_all (rm 6 136) G [.ref x0] (List.flatten [[((x0, na.1, tra.1, h.1, k.1).1, .inr (6, [.ref ((x0, na.1, tra.1, h.1, k.1).2.1), .ref ((x0, na.1, tra.1, h.1, k.1).2.2.1), .ref ((x0, na.1, tra.1, h.1, k.1).2.2.2.1), .ref ((x0, na.1, tra.1, h.1, k.1).2.2.2.2)]))], wS G na ((n, o, kf), (lr, lc, L), (rr, rc, R), (sr, sc, Z), (b, ta, tb, th, tw, tt, tn, sm0, mt, rw, dn)), wS G tra v, wHf G h (hn, u0, u1, u2, u3), wX G k w]) (fun x u9 => PO x u9 (opAll lc n o lr rc b s pst hn)) (fun u9 => List.flatten [[((x0, na.1, tra.1, h.1, k.1).1, .inr (6, [.ref ((x0, na.1, tra.1, h.1, k.1).2.1), .ref ((x0, na.1, tra.1, h.1, k.1).2.2.1), .ref ((x0, na.1, tra.1, h.1, k.1).2.2.2.1), .ref ((x0, na.1, tra.1, h.1, k.1).2.2.2.2)]))], wS G na u9.1, wS G tra v, wHf G (h.1, h.2.1, u9.2.1, u9.2.2.1, u9.2.2.2.1, u9.2.2.2.2.1) u9.2.2.2.2.2, wX G k w]) := by
  refine CI.of (own := RX6) rfl (by decide) rfl (Nat.le_of_ble_eq_true rfl) ?_
  intro p9 e9 s9 m9 b9 t9 c9 A xE xB xM xO xT xK xP xD Q xQ xS ls hl
  have xL : lv_has ls 1 [(0, .ref x0)] := hl
  obtain ⟨hn1, hn2, hn3⟩ := hR.1.2.2.1
  obtain ⟨hm1, hm2, hm3, hm4, hm5, hm6⟩ := hR.2.2.1.2.2.2.1
  obtain ⟨hd1, hd2, hd3⟩ := hR.2.2.2.1
  have hb1 := hR.2.2.2.2.2.1.1
  refine lv_aload_n xE xB dX6_all_0 rfl (lv_at xL 0 rfl) ?_
  refine va_get (D := G.1) (ci := 6) (v := .ref na.1) (C := RX6) (T := TX6) (N := 4) xE xB xT khX6_all_X6 xO xK.1 xP 0 rfl rfl 0 (by decide) (xT _ kX6_all_f10) (fun _ h9 => h9) rfl dX6_all_1 ?_
  refine va_get (D := G.1) (ci := 3) (v := .ref na.2.2.2.2.2.1) (C := RX3) (T := TX3) (N := 5) xE xB xT khX6_all_X3 xO xK.1 xP 1 rfl rfl 4 (by decide) (xT _ kX6_all_f52) (fun _ h9 => h9) rfl dX6_all_4 ?_
  refine va_get (D := G.1) (ci := 5) (v := .int (nI b)) (C := RX5) (T := TX5) (N := 11) xE xB xT khX6_all_X5 xO xK.1 xP 10 rfl rfl 0 (by decide) (xT _ kX6_all_f56) (fun _ h9 => h9) rfl dX6_all_7 ?_
  refine q_if_eq (tgt := 16) xE xB dX6_all_10 (by decide) (by omega) (fun c_10 => ?_) (fun c_10 => ?_)
  · skip
    refine lv_aload_n xE xB dX6_all_16 rfl (lv_at xL 0 rfl) ?_
    refine va_get (D := G.1) (ci := 6) (v := .ref h.1) (C := RX6) (T := TX6) (N := 4) xE xB xT khX6_all_X6 xO xK.1 xP 0 rfl rfl 2 (by decide) (xT _ kX6_all_f22) (fun _ h9 => h9) rfl dX6_all_17 ?_
    refine lv_aload_n xE xB dX6_all_20 rfl (lv_at xL 0 rfl) ?_
    refine va_get (D := G.1) (ci := 6) (v := .ref na.1) (C := RX6) (T := TX6) (N := 4) xE xB xT khX6_all_X6 xO xK.1 xP 0 rfl rfl 0 (by decide) (xT _ kX6_all_f10) (fun _ h9 => h9) rfl dX6_all_21 ?_
    refine q_VVL (As := [.ref na.1]) (rest := []) ⟨xE, xB, xM, xO, xT⟩ (kX0_remember l G h hn u0 u1 u2 u3 na ((n, o, kf), (lr, lc, L), (rr, rc, R), (sr, sc, Z), (b, ta, tb, th, tw, tt, tn, sm0, mt, rw, dn)) pst s (by exact hh) (by exact hH) (by exact hR)) (cwV 1 xT gX6_all_X0_remember rfl rfl rfl (by decide +kernel) ⟨Nat.le_of_ble_eq_true rfl, Nat.le_of_ble_eq_true rfl⟩) xK xP xD xS [3, 1] [0, 2, 4] 5 rfl (by decide) (Lc := [wHf G h (hn, u0, u1, u2, u3), wS G na ((n, o, kf), (lr, lc, L), (rr, rc, R), (sr, sc, Z), (b, ta, tb, th, tw, tt, tn, sm0, mt, rw, dn))]) rfl (by simp only [List.flatten_cons, List.flatten_nil, List.append_nil, List.append_assoc]) (fun u_24 => [[(x0, .inr (6, [.ref na.1, .ref tra.1, .ref h.1, .ref k.1]))], wS G na ((n, o, kf), (lr, lc, L), (rr, rc, R), (sr, sc, Z), (b, ta, tb, th, tw, tt, tn, sm0, mt, rw, dn)), wS G tra v, wHf G (h.1, h.2.1, u_24.1, u_24.2.1, u_24.2.2.1, u_24.2.2.2.1) (chgN hn, u_24.2.2.2.2.1, u_24.2.2.2.2.2.1, u_24.2.2.2.2.2.2.1, u_24.2.2.2.2.2.2.2), wX G k w]) (fun u_24 => [wHf G (h.1, h.2.1, u_24.1, u_24.2.1, u_24.2.2.1, u_24.2.2.2.1) (chgN hn, u_24.2.2.2.2.1, u_24.2.2.2.2.2.1, u_24.2.2.2.2.2.2.1, u_24.2.2.2.2.2.2.2), wS G na ((n, o, kf), (lr, lc, L), (rr, rc, R), (sr, sc, Z), (b, ta, tb, th, tw, tt, tn, sm0, mt, rw, dn))]) (fun _ => rfl) (fun _ => rfl) (fun _ => by simp only [List.flatten_cons, List.flatten_nil, List.append_nil, List.append_assoc]) (fun _ => rfl) 0 rfl rfl rfl rfl xL.1 rfl (Nat.le_of_ble_eq_true rfl) dX6_all_24 ⟨Nat.le_refl _, Nat.le_refl _⟩ (fun u_24 H locs h_24 xP xD xS => ?_)
    have h_24 : HRel (chgN hn) u_24.2.2.2.2.1 u_24.2.2.2.2.2.1 u_24.2.2.2.2.2.2.1 u_24.2.2.2.2.2.2.2 (chgP s pst hn) := h_24
    refine lv_aload_n xE xB dX6_all_27 rfl (lv_at xL 0 rfl) ?_
    refine va_get (D := G.1) (ci := 6) (v := .ref na.1) (C := RX6) (T := TX6) (N := 4) xE xB xT khX6_all_X6 xO xK.1 xP 0 rfl rfl 0 (by decide) (xT _ kX6_all_f10) (fun _ h9 => h9) rfl dX6_all_28 ?_
    refine q_VIL (As := []) (rest := []) ⟨xE, xB, xM, xO, xT⟩ (kX3_doAllTiles l G na n o kf lr lc L rr rc R sr sc Z b ta tb th tw tt tn sm0 mt rw dn s (by exact hR)) (cwV 0 xT gX6_all_X3_doAllTiles rfl rfl rfl (by decide +kernel) ⟨Nat.le_of_ble_eq_true rfl, Nat.le_of_ble_eq_true rfl⟩) xK xP xD xS [1] [0, 2, 3, 4] 5 rfl (by decide) (Lc := [wS G na ((n, o, kf), (lr, lc, L), (rr, rc, R), (sr, sc, Z), (b, ta, tb, th, tw, tt, tn, sm0, mt, rw, dn))]) rfl (by simp only [List.flatten_cons, List.flatten_nil, List.append_nil, List.append_assoc]) (fun u_31 => [[(x0, .inr (6, [.ref na.1, .ref tra.1, .ref h.1, .ref k.1]))], wS G na ((n, o, kf), (lr, lc, L), (rr, rc, R), (sr, sc, u_31.1), u_31.2), wS G tra v, wHf G (h.1, h.2.1, u_24.1, u_24.2.1, u_24.2.2.1, u_24.2.2.2.1) (chgN hn, u_24.2.2.2.2.1, u_24.2.2.2.2.2.1, u_24.2.2.2.2.2.2.1, u_24.2.2.2.2.2.2.2), wX G k w]) (fun u_31 => [wS G na ((n, o, kf), (lr, lc, L), (rr, rc, R), (sr, sc, u_31.1), u_31.2)]) (fun _ => rfl) (fun _ => rfl) (fun _ => by simp only [List.flatten_cons, List.flatten_nil, List.append_nil, List.append_assoc]) (fun _ => rfl) 0 rfl rfl rfl rfl xL.1 rfl (Nat.le_of_ble_eq_true rfl) dX6_all_31 ⟨Nat.le_refl _, Nat.le_refl _⟩ (fun r_31 u_31 H locs h_31 xP xD xS => ?_)
    have h_31 : r_31 = nI (tkN lc n lr rc) ∧ RelS ((n, o, kf), (lr, lc, L), (rr, rc, R), (sr, sc, u_31.1), u_31.2) (alF lc n o lr rc s) := h_31
    obtain ⟨q_31, h_31⟩ := h_31
    subst q_31
    exact xQ _ _ _ _ _ (((n, o, kf), (lr, lc, L), (rr, rc, R), (sr, sc, u_31.1), u_31.2), u_24.1, u_24.2.1, u_24.2.2.1, u_24.2.2.2.1, (chgN hn, u_24.2.2.2.2.1, u_24.2.2.2.2.2.1, u_24.2.2.2.2.2.2.1, u_24.2.2.2.2.2.2.2)) (by rw [show opAll lc n o lr rc b s pst hn = (nI (tkN lc n lr rc), alF lc n o lr rc s, chgP s pst hn, chgN hn) from if_neg (by omega)]; exact ⟨rfl, h_31.2, rfl, chgN_4 hh, h_24⟩) xP xD xS dX6_all_34
  · skip
    refine lv_ldc (v := (-1000002)) xE xB xO (xT _ kX6_all_c93) dX6_all_13 ?_
    exact xQ _ _ _ _ _ (((n, o, kf), (lr, lc, L), (rr, rc, R), (sr, sc, Z), (b, ta, tb, th, tw, tt, tn, sm0, mt, rw, dn)), h.2.2.1, h.2.2.2.1, h.2.2.2.2.1, h.2.2.2.2.2, (hn, u0, u1, u2, u3)) (by rw [show opAll lc n o lr rc b s pst hn = (kNP, s, pst, hn) from if_pos (by omega)]; exact ⟨rfl, hR, rfl, hh, hH⟩) xP xD xS dX6_all_15
theorem kX6_undo_c93 : Cond.constant RX6 93 (-1000002) ∈ wsX6_undo := by decide +kernel
theorem kX6_undo_f10 : Cond.fieldLink RX6 10 "SkewedSquare" "now" "LSkewedSquare$State;" ∈ wsX6_undo := by decide +kernel
theorem kX6_undo_f174 : Cond.fieldLink RX6 174 "SkewedSquare$History" "size" "I" ∈ wsX6_undo := by decide +kernel
theorem kX6_undo_f22 : Cond.fieldLink RX6 22 "SkewedSquare" "history" "LSkewedSquare$History;" ∈ wsX6_undo := by decide +kernel
theorem khX6_undo_X0 : ∀ w ∈ u_ws RX0 TX0 2, w ∈ wsX6_undo := by decide +kernel
theorem khX6_undo_X6 : ∀ w ∈ u_ws RX6 TX6 4, w ∈ wsX6_undo := by decide +kernel
set_option maxHeartbeats 4000000 in
set_option maxRecDepth 100000 in
/-- kX6_undo -/
theorem kX6_undo (l : Launch) (G : wG) (x0 : Nat) (na tra : SA) (h : HA) (k : XA) (n o : Nat) (kf : wF) (lr lc : Nat) (L : wF) (rr rc : Nat) (R : wF) (sr sc : Nat) (Z : wF) (b ta tb th tw tt tn : Nat) (sm0 mt rw dn : wF) (v : SD) (hn : Nat) (u0 u1 u2 u3 : SD) (w : XD) (s : wF) (pst : PF) (hR : RelS ((n, o, kf), (lr, lc, L), (rr, rc, R), (sr, sc, Z), (b, ta, tb, th, tw, tt, tn, sm0, mt, rw, dn)) s) (hh : hn ≤ 4) (hH : HRel hn u0 u1 u2 u3 pst) : CI (S := CS) l yX6_undo wsX6_undo (rm 4 81) G [.ref x0] (List.flatten [[((x0, na.1, tra.1, h.1, k.1).1, .inr (6, [.ref ((x0, na.1, tra.1, h.1, k.1).2.1), .ref ((x0, na.1, tra.1, h.1, k.1).2.2.1), .ref ((x0, na.1, tra.1, h.1, k.1).2.2.2.1), .ref ((x0, na.1, tra.1, h.1, k.1).2.2.2.2)]))], wS G na ((n, o, kf), (lr, lc, L), (rr, rc, R), (sr, sc, Z), (b, ta, tb, th, tw, tt, tn, sm0, mt, rw, dn)), wS G tra v, wHf G h (hn, u0, u1, u2, u3), wX G k w]) (fun x u9 => PO x u9 (opUndo s pst hn)) (fun u9 => List.flatten [[((x0, na.1, tra.1, h.1, k.1).1, .inr (6, [.ref ((x0, na.1, tra.1, h.1, k.1).2.1), .ref ((x0, na.1, tra.1, h.1, k.1).2.2.1), .ref ((x0, na.1, tra.1, h.1, k.1).2.2.2.1), .ref ((x0, na.1, tra.1, h.1, k.1).2.2.2.2)]))], wS G na u9.1, wS G tra v, wHf G (h.1, h.2.1, u9.2.1, u9.2.2.1, u9.2.2.2.1, u9.2.2.2.2.1) u9.2.2.2.2.2, wX G k w]) := by
  refine CI.of (own := RX6) rfl (by decide) rfl (Nat.le_of_ble_eq_true rfl) ?_
  intro p9 e9 s9 m9 b9 t9 c9 A xE xB xM xO xT xK xP xD Q xQ xS ls hl
  have xL : lv_has ls 1 [(0, .ref x0)] := hl
  obtain ⟨hn1, hn2, hn3⟩ := hR.1.2.2.1
  obtain ⟨hm1, hm2, hm3, hm4, hm5, hm6⟩ := hR.2.2.1.2.2.2.1
  obtain ⟨hd1, hd2, hd3⟩ := hR.2.2.2.1
  have hb1 := hR.2.2.2.2.2.1.1
  refine lv_aload_n xE xB dX6_undo_0 rfl (lv_at xL 0 rfl) ?_
  refine va_get (D := G.1) (ci := 6) (v := .ref h.1) (C := RX6) (T := TX6) (N := 4) xE xB xT khX6_undo_X6 xO xK.1 xP 0 rfl rfl 2 (by decide) (xT _ kX6_undo_f22) (fun _ h9 => h9) rfl dX6_undo_1 ?_
  refine va_get (D := G.1) (ci := 0) (v := .int (nI hn)) (C := RX0) (T := TX0) (N := 2) xE xB xT khX6_undo_X0 xO xK.1 xP 29 rfl rfl 1 (by decide) (xT _ kX6_undo_f174) (fun _ h9 => h9) rfl dX6_undo_4 ?_
  refine q_if_ne (tgt := 13) xE xB dX6_undo_7 (by decide) (by omega) (fun c_7 => ?_) (fun c_7 => ?_)
  · skip
    refine lv_aload_n xE xB dX6_undo_13 rfl (lv_at xL 0 rfl) ?_
    refine va_get (D := G.1) (ci := 6) (v := .ref h.1) (C := RX6) (T := TX6) (N := 4) xE xB xT khX6_undo_X6 xO xK.1 xP 0 rfl rfl 2 (by decide) (xT _ kX6_undo_f22) (fun _ h9 => h9) rfl dX6_undo_14 ?_
    refine lv_aload_n xE xB dX6_undo_17 rfl (lv_at xL 0 rfl) ?_
    refine va_get (D := G.1) (ci := 6) (v := .ref na.1) (C := RX6) (T := TX6) (N := 4) xE xB xT khX6_undo_X6 xO xK.1 xP 0 rfl rfl 0 (by decide) (xT _ kX6_undo_f10) (fun _ h9 => h9) rfl dX6_undo_18 ?_
    refine q_VVL (As := [.ref na.1]) (rest := []) ⟨xE, xB, xM, xO, xT⟩ (kX0_restore l G h hn u0 u1 u2 u3 na ((n, o, kf), (lr, lc, L), (rr, rc, R), (sr, sc, Z), (b, ta, tb, th, tw, tt, tn, sm0, mt, rw, dn)) pst (by omega) (by exact hH)) (cwV 1 xT gX6_undo_X0_restore rfl rfl rfl (by decide +kernel) ⟨Nat.le_of_ble_eq_true rfl, Nat.le_of_ble_eq_true rfl⟩) xK xP xD xS [3, 1] [0, 2, 4] 5 rfl (by decide) (Lc := [wHf G h (hn, u0, u1, u2, u3), wS G na ((n, o, kf), (lr, lc, L), (rr, rc, R), (sr, sc, Z), (b, ta, tb, th, tw, tt, tn, sm0, mt, rw, dn))]) rfl (by simp only [List.flatten_cons, List.flatten_nil, List.append_nil, List.append_assoc]) (fun u_21 => [[(x0, .inr (6, [.ref na.1, .ref tra.1, .ref h.1, .ref k.1]))], wS G na u_21, wS G tra v, wHf G h (hn - 1, u0, u1, u2, u3), wX G k w]) (fun u_21 => [wHf G h (hn - 1, u0, u1, u2, u3), wS G na u_21]) (fun _ => rfl) (fun _ => rfl) (fun _ => by simp only [List.flatten_cons, List.flatten_nil, List.append_nil, List.append_assoc]) (fun _ => rfl) 0 rfl rfl rfl rfl xL.1 rfl (Nat.le_of_ble_eq_true rfl) dX6_undo_21 ⟨Nat.le_refl _, Nat.le_refl _⟩ (fun u_21 H locs h_21 xP xD xS => ?_)
    have h_21 : RelS u_21 (pst (hn - 1)) := h_21
    refine lv_aload_n xE xB dX6_undo_24 rfl (lv_at xL 0 rfl) ?_
    refine va_get (D := G.1) (ci := 6) (v := .ref h.1) (C := RX6) (T := TX6) (N := 4) xE xB xT khX6_undo_X6 xO xK.1 xP 0 rfl rfl 2 (by decide) (xT _ kX6_undo_f22) (fun _ h9 => h9) rfl dX6_undo_25 ?_
    refine va_get (D := G.1) (ci := 0) (v := .int (nI (hn - 1))) (C := RX0) (T := TX0) (N := 2) xE xB xT khX6_undo_X0 xO xK.1 xP 29 rfl rfl 1 (by decide) (xT _ kX6_undo_f174) (fun _ h9 => h9) rfl dX6_undo_28 ?_
    exact xQ _ _ _ _ _ (u_21, h.2.2.1, h.2.2.2.1, h.2.2.2.2.1, h.2.2.2.2.2, (hn - 1, u0, u1, u2, u3)) (by rw [show opUndo s pst hn = (nI (hn - 1), pst (hn - 1), pst, hn - 1) from if_neg (by omega)]; exact ⟨rfl, h_21, rfl, (show hn - 1 ≤ 4 by omega), HRel_pred hH⟩) xP xD xS dX6_undo_31
  · skip
    refine lv_ldc (v := (-1000002)) xE xB xO (xT _ kX6_undo_c93) dX6_undo_10 ?_
    exact xQ _ _ _ _ _ (((n, o, kf), (lr, lc, L), (rr, rc, R), (sr, sc, Z), (b, ta, tb, th, tw, tt, tn, sm0, mt, rw, dn)), h.2.2.1, h.2.2.2.1, h.2.2.2.2.1, h.2.2.2.2.2, (hn, u0, u1, u2, u3)) (by rw [show opUndo s pst hn = (kNP, s, pst, hn) from if_pos (by omega)]; exact ⟨rfl, hR, rfl, hh, hH⟩) xP xD xS dX6_undo_12
