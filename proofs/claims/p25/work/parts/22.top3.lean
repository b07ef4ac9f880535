/-! top3: what only reads, and what only tries -/
theorem flg_l {x h v : Int32} (hf : flg x h v) (hv : bV v) : (if x = NO then (-1000004) else x) = if h = nI 1 then v else kNF := by
  rcases hf with ⟨h1, h2⟩ | ⟨h1, h2⟩
  · rw [if_pos h1, h2, if_neg (bV_ne hv)]
  · rw [if_pos h2, if_neg (by rw [h1]; decide)]
theorem resL {r c i j : Nat} {Z s : wF} (hZ : RelZ r c Z s) (hi : i < 6) (hj : j < 6) : (if Z (6 * i + j) = NO then (-1000004) else Z (6 * i + j)) = if s (117 + (6 * i + j)) = nI 1 then s (81 + (6 * i + j)) else kNF := by
  rcases hZ i j hi hj with ⟨h1, -, -, h4, h5⟩ | ⟨h1, h2⟩
  · rw [if_neg h5, if_pos h1, h4]
  · rw [if_pos h2, if_neg (by rw [h1]; decide)]
theorem ns_le {f : Nat → Nat} {m : Nat} : ∀ (n : Nat), (∀ i, i < n → f i ≤ m) → ns f n ≤ n * m
  | 0, _ => by show 0 ≤ 0 * m; omega
  | n + 1, h => by
    show ns f n + f n ≤ (n + 1) * m
    have h1 := ns_le n (fun i hi => h i (Nat.lt_succ_of_lt hi))
    have h2 := h n (Nat.lt_succ_self n)
    rw [Nat.succ_mul]
    omega
theorem wrN_36 {r k c : Nat} {s : wF} (hr : r ≤ 6) (hc : c ≤ 6) : wrN r k c s ≤ 36 := by
  have h := ns_le (f := fun i => ns (fun j => if s (117 + (6 * i + j)) = nI 1 ∧ s (81 + (6 * i + j)) ≠ dueF k s i j then 1 else 0) c) (m := 6) r (fun i _ => by
    have h2 := ns_le (f := fun j => if s (117 + (6 * i + j)) = nI 1 ∧ s (81 + (6 * i + j)) ≠ dueF k s i j then 1 else 0) (m := 1) c (fun j _ => by show (if _ then 1 else 0) ≤ 1; split <;> omega)
    exact Nat.le_trans h2 (by omega))
  exact Nat.le_trans h (by omega)
theorem beL_t {f : Nat → Nat} {i p q : Nat} (h1 : 1 ≤ i) (h3 : beL f (i - 1) = (p, q)) (h : f i ≤ q) : beL f (i + 1 - 1) = (i, f i) := by
  obtain ⟨d, rfl⟩ : ∃ d, i = d + 1 := ⟨i - 1, by omega⟩
  have h4 : beL f d = (p, q) := h3
  show (if f (d + 1) ≤ (beL f d).2 then (d + 1, f (d + 1)) else beL f d) = _
  rw [h4, if_pos h]
theorem beL_f {f : Nat → Nat} {i p q : Nat} (h1 : 1 ≤ i) (h3 : beL f (i - 1) = (p, q)) (h : ¬ f i ≤ q) : beL f (i + 1 - 1) = (p, q) := by
  obtain ⟨d, rfl⟩ : ∃ d, i = d + 1 := ⟨i - 1, by omega⟩
  have h4 : beL f d = (p, q) := h3
  show (if f (d + 1) ≤ (beL f d).2 then (d + 1, f (d + 1)) else beL f d) = _
  rw [h4, if_neg h]

theorem kX6_entry_c33 : Cond.constant RX6 33 (-1000001) ∈ wsX6_entry := by decide +kernel
theorem kX6_entry_f10 : Cond.fieldLink RX6 10 "SkewedSquare" "now" "LSkewedSquare$State;" ∈ wsX6_entry := by decide +kernel
theorem kX6_entry_f69 : Cond.fieldLink RX6 69 "SkewedSquare$State" "leftMatrix" "LSkewedSquare$Matrix;" ∈ wsX6_entry := by decide +kernel
theorem kX6_entry_f78 : Cond.fieldLink RX6 78 "SkewedSquare$State" "rightMatrix" "LSkewedSquare$Matrix;" ∈ wsX6_entry := by decide +kernel
theorem khX6_entry_X3 : ∀ w ∈ u_ws RX3 TX3 5, w ∈ wsX6_entry := by decide +kernel
theorem khX6_entry_X6 : ∀ w ∈ u_ws RX6 TX6 4, w ∈ wsX6_entry := by decide +kernel
set_option maxHeartbeats 4000000 in
set_option maxRecDepth 100000 in
/-- kX6_entry -/
theorem kX6_entry (l : Launch) (G : wG) (x0 : Nat) (na tra : SA) (h : HA) (k : XA) (n o : Nat) (kf : wF) (lr lc : Nat) (L : wF) (rr rc : Nat) (R : wF) (sr sc : Nat) (Z : wF) (b ta tb th tw tt tn : Nat) (sm0 mt rw dn : wF) (v : SD) (hn : Nat) (u0 u1 u2 u3 : SD) (w : XD) (s : wF) (pst : PF) (v1 v2 v3 : Int32) (hR : RelS ((n, o, kf), (lr, lc, L), (rr, rc, R), (sr, sc, Z), (b, ta, tb, th, tw, tt, tn, sm0, mt, rw, dn)) s) (hh : hn ≤ 4) (hH : HRel hn u0 u1 u2 u3 pst) : CR l yX6_entry wsX6_entry (rm 1 22) G [.ref x0, .int v1, .int v2, .int v3] (List.flatten [[((x0, na.1, tra.1, h.1, k.1).1, .inr (6, [.ref ((x0, na.1, tra.1, h.1, k.1).2.1), .ref ((x0, na.1, tra.1, h.1, k.1).2.2.1), .ref ((x0, na.1, tra.1, h.1, k.1).2.2.2.1), .ref ((x0, na.1, tra.1, h.1, k.1).2.2.2.2)]))], wS G na ((n, o, kf), (lr, lc, L), (rr, rc, R), (sr, sc, Z), (b, ta, tb, th, tw, tt, tn, sm0, mt, rw, dn)), wS G tra v, wHf G h (hn, u0, u1, u2, u3), wX G k w]) (fun x => x = enA lr lc rc v1 v2 v3 s) := by
  refine CR.of (own := RX6) rfl (by decide) rfl (Nat.le_of_ble_eq_true rfl) ?_
  intro p9 e9 s9 m9 b9 t9 c9 xE xB xM xO xT xK xP Q xQ ls hl
  have xL : lv_has ls 5 [(0, .ref x0), (1, .int v1), (2, .int v2), (3, .int v3)] := hl
  obtain ⟨hn1, hn2, hn3⟩ := hR.1.2.2.1
  obtain ⟨hm1, hm2, hm3, hm4, hm5, hm6⟩ := hR.2.2.1.2.2.2.1
  obtain ⟨hd1, hd2, hd3⟩ := hR.2.2.2.1
  have hb1 := hR.2.2.2.2.2.1.1
  refine lv_iload_n xE xB dX6_entry_0 rfl (lv_at xL 1 rfl) ?_
  refine lv_if_lt (tgt := 9) xE xB dX6_entry_1 (by decide) (fun c_1 => ?_) (fun c_1 => ?_)
  · skip
    refine lv_ldc (v := (-1000001)) xE xB xO (xT _ kX6_entry_c33) dX6_entry_9 ?_
    exact xQ _ _ _ (by (try (first | replace c_1 := ti_neg c_1 | replace c_1 := ti_nneg c_1 | replace c_1 := ti_lt c_1 | replace c_1 := ti_nlt c_1 | replace c_1 := ti_gt c_1 | replace c_1 := ti_ngt c_1 | replace c_1 := ti_le c_1 | replace c_1 := ti_nle c_1 | replace c_1 := ti_ge c_1 | replace c_1 := ti_nge c_1 | replace c_1 := ti_z c_1 | replace c_1 := ti_nz c_1 | replace c_1 := ti_eq c_1 | replace c_1 := ti_ne c_1)); (try (first | replace c_6 := ti_neg c_6 | replace c_6 := ti_nneg c_6 | replace c_6 := ti_lt c_6 | replace c_6 := ti_nlt c_6 | replace c_6 := ti_gt c_6 | replace c_6 := ti_ngt c_6 | replace c_6 := ti_le c_6 | replace c_6 := ti_nle c_6 | replace c_6 := ti_ge c_6 | replace c_6 := ti_nge c_6 | replace c_6 := ti_z c_6 | replace c_6 := ti_nz c_6 | replace c_6 := ti_eq c_6 | replace c_6 := ti_ne c_6)); (try (first | replace c_13 := ti_neg c_13 | replace c_13 := ti_nneg c_13 | replace c_13 := ti_lt c_13 | replace c_13 := ti_nlt c_13 | replace c_13 := ti_gt c_13 | replace c_13 := ti_ngt c_13 | replace c_13 := ti_le c_13 | replace c_13 := ti_nle c_13 | replace c_13 := ti_ge c_13 | replace c_13 := ti_nge c_13 | replace c_13 := ti_z c_13 | replace c_13 := ti_nz c_13 | replace c_13 := ti_eq c_13 | replace c_13 := ti_ne c_13)); (try rw [vp_in_iff, vp_in_iff] at c_39); unfold enA; rw [if_neg (by omega), if_neg (by omega)]) dX6_entry_11
  · skip
    refine lv_iload_n xE xB dX6_entry_4 rfl (lv_at xL 1 rfl) ?_
    refine lv_iconst (v := nI 1) xE xB dX6_entry_5 (by decide) ?_
    refine lv_icmp_le (tgt := 12) xE xB dX6_entry_6 (by decide) (fun c_6 => ?_) (fun c_6 => ?_)
    · skip
      refine lv_iload_n xE xB dX6_entry_12 rfl (lv_at xL 1 rfl) ?_
      refine lv_if_ne (tgt := 26) xE xB dX6_entry_13 (by decide) (fun c_13 => ?_) (fun c_13 => ?_)
      · skip
        refine lv_aload_n xE xB dX6_entry_26 rfl (lv_at xL 0 rfl) ?_
        refine va_get (D := G.1) (ci := 6) (v := .ref na.1) (C := RX6) (T := TX6) (N := 4) xE xB xT khX6_entry_X6 xO xK.1 xP 0 rfl rfl 0 (by decide) (xT _ kX6_entry_f10) (fun _ h9 => h9) rfl dX6_entry_27 ?_
        refine va_get (D := G.1) (ci := 3) (v := .ref na.2.2.2.1.1) (C := RX3) (T := TX3) (N := 5) xE xB xT khX6_entry_X3 xO xK.1 xP 1 rfl rfl 2 (by decide) (xT _ kX6_entry_f78) (fun _ h9 => h9) rfl dX6_entry_30 ?_
        refine lv_astore (lv' := [(4, .ref na.2.2.2.1.1), (0, .ref x0), (1, .int v1), (2, .int v2), (3, .int v3)]) xE xB dX6_entry_33 xL (by decide) rfl (fun ls xL => ?_)
        refine lv_aload xE xB dX6_entry_35 (lv_at xL 0 rfl) ?_
        refine lv_iload_n xE xB dX6_entry_37 rfl (lv_at xL 3 rfl) ?_
        refine lv_iload_n xE xB dX6_entry_38 rfl (lv_at xL 4 rfl) ?_
        refine q_VR (As := [.int v2, .int v3]) (rest := []) ⟨xE, xB, xM, xO, xT⟩ (kX1_has l G na.2.2.2.1 rr rc R v2 v3 (by omega) (by omega)) (cwV 2 xT gX6_entry_X1_has rfl rfl rfl (by decide +kernel) ⟨Nat.le_of_ble_eq_true rfl, Nat.le_of_ble_eq_true rfl⟩) xK xP [6, 7] rfl 0 rfl rfl rfl rfl xL.1 rfl (Nat.le_of_ble_eq_true rfl) dX6_entry_39 ⟨Nat.le_refl _, Nat.le_refl _⟩ (fun r_39 h_39 => ?_)
        rcases h_39 with ⟨h_39, c_39⟩ | ⟨h_39, c_39⟩
        · skip
          subst h_39
          have c_39 : vp_in v2 rr ∧ vp_in v3 rc := c_39
          refine lv_if_eq (tgt := 55) xE xB dX6_entry_42 (by decide) (fun h9 => absurd h9 (by decide)) (fun _ => ?_)
          (try (first | replace c_1 := ti_neg c_1 | replace c_1 := ti_nneg c_1 | replace c_1 := ti_lt c_1 | replace c_1 := ti_nlt c_1 | replace c_1 := ti_gt c_1 | replace c_1 := ti_ngt c_1 | replace c_1 := ti_le c_1 | replace c_1 := ti_nle c_1 | replace c_1 := ti_ge c_1 | replace c_1 := ti_nge c_1 | replace c_1 := ti_z c_1 | replace c_1 := ti_nz c_1 | replace c_1 := ti_eq c_1 | replace c_1 := ti_ne c_1)); (try (first | replace c_6 := ti_neg c_6 | replace c_6 := ti_nneg c_6 | replace c_6 := ti_lt c_6 | replace c_6 := ti_nlt c_6 | replace c_6 := ti_gt c_6 | replace c_6 := ti_ngt c_6 | replace c_6 := ti_le c_6 | replace c_6 := ti_nle c_6 | replace c_6 := ti_ge c_6 | replace c_6 := ti_nge c_6 | replace c_6 := ti_z c_6 | replace c_6 := ti_nz c_6 | replace c_6 := ti_eq c_6 | replace c_6 := ti_ne c_6)); (try (first | replace c_13 := ti_neg c_13 | replace c_13 := ti_nneg c_13 | replace c_13 := ti_lt c_13 | replace c_13 := ti_nlt c_13 | replace c_13 := ti_gt c_13 | replace c_13 := ti_ngt c_13 | replace c_13 := ti_le c_13 | replace c_13 := ti_nle c_13 | replace c_13 := ti_ge c_13 | replace c_13 := ti_nge c_13 | replace c_13 := ti_z c_13 | replace c_13 := ti_nz c_13 | replace c_13 := ti_eq c_13 | replace c_13 := ti_ne c_13))
          (try rw [vp_in_iff, vp_in_iff] at c_39)
          have e_v2 : v2 = nI (tN v2) := tN_eq (by omega)
          have b_v2 : (tN v2 : Int) = v2.toInt := tN_z (by omega)
          rw [e_v2] at xL
          have xL : lv_has ls 5 [(4, .ref na.2.2.2.1.1), (0, .ref x0), (1, .int v1), (2, .int (nI (tN v2))), (3, .int v3)] := xL
          have e_v3 : v3 = nI (tN v3) := tN_eq (by omega)
          have b_v3 : (tN v3 : Int) = v3.toInt := tN_z (by omega)
          rw [e_v3] at xL
          have xL : lv_has ls 5 [(4, .ref na.2.2.2.1.1), (0, .ref x0), (1, .int v1), (2, .int (nI (tN v2))), (3, .int (nI (tN v3)))] := xL
          refine lv_aload xE xB dX6_entry_45 (lv_at xL 0 rfl) ?_
          refine lv_iload_n xE xB dX6_entry_47 rfl (lv_at xL 3 rfl) ?_
          refine lv_iload_n xE xB dX6_entry_48 rfl (lv_at xL 4 rfl) ?_
          refine q_VR (As := [.int (nI (tN v2)), .int (nI (tN v3))]) (rest := []) ⟨xE, xB, xM, xO, xT⟩ (kX1_at l G na.2.2.2.1 rr rc R (tN v2) (tN v3) (by omega) (by omega) (by omega) (by omega)) (cwV 2 xT gX6_entry_X1_at rfl rfl rfl (by decide +kernel) ⟨Nat.le_of_ble_eq_true rfl, Nat.le_of_ble_eq_true rfl⟩) xK xP [6, 7] rfl 0 rfl rfl rfl rfl xL.1 rfl (Nat.le_of_ble_eq_true rfl) dX6_entry_49 ⟨Nat.le_refl _, Nat.le_refl _⟩ (fun r_49 h_49 => ?_)
          obtain rfl : r_49 = R (6 * (tN v2) + (tN v3)) := h_49
          refine lv_goto (tgt := 57) xE xB dX6_entry_52 (by decide) ?_
          exact xQ _ _ _ (by (try (first | replace c_1 := ti_neg c_1 | replace c_1 := ti_nneg c_1 | replace c_1 := ti_lt c_1 | replace c_1 := ti_nlt c_1 | replace c_1 := ti_gt c_1 | replace c_1 := ti_ngt c_1 | replace c_1 := ti_le c_1 | replace c_1 := ti_nle c_1 | replace c_1 := ti_ge c_1 | replace c_1 := ti_nge c_1 | replace c_1 := ti_z c_1 | replace c_1 := ti_nz c_1 | replace c_1 := ti_eq c_1 | replace c_1 := ti_ne c_1)); (try (first | replace c_6 := ti_neg c_6 | replace c_6 := ti_nneg c_6 | replace c_6 := ti_lt c_6 | replace c_6 := ti_nlt c_6 | replace c_6 := ti_gt c_6 | replace c_6 := ti_ngt c_6 | replace c_6 := ti_le c_6 | replace c_6 := ti_nle c_6 | replace c_6 := ti_ge c_6 | replace c_6 := ti_nge c_6 | replace c_6 := ti_z c_6 | replace c_6 := ti_nz c_6 | replace c_6 := ti_eq c_6 | replace c_6 := ti_ne c_6)); (try (first | replace c_13 := ti_neg c_13 | replace c_13 := ti_nneg c_13 | replace c_13 := ti_lt c_13 | replace c_13 := ti_nlt c_13 | replace c_13 := ti_gt c_13 | replace c_13 := ti_ngt c_13 | replace c_13 := ti_le c_13 | replace c_13 := ti_nle c_13 | replace c_13 := ti_ge c_13 | replace c_13 := ti_nge c_13 | replace c_13 := ti_z c_13 | replace c_13 := ti_nz c_13 | replace c_13 := ti_eq c_13 | replace c_13 := ti_ne c_13)); (try rw [vp_in_iff, vp_in_iff] at c_39); first | (unfold enA; rw [if_pos (by omega)]; exact hR.2.2.1.2.2.2.2.1 _ (by omega)) | (unfold enA; rw [if_neg (by omega), if_pos (by omega)]; exact hR.2.2.1.2.2.2.2.2.1 _ (by omega)) | (unfold enA; rw [if_neg (by omega), if_neg (by omega)])) dX6_entry_57
        · skip
          subst h_39
          have c_39 : ¬ (vp_in v2 rr ∧ vp_in v3 rc) := c_39
          refine lv_if_eq (tgt := 55) xE xB dX6_entry_42 (by decide) (fun _ => ?_) (fun h9 => absurd (by decide) h9)
          refine lv_ldc (v := (-1000001)) xE xB xO (xT _ kX6_entry_c33) dX6_entry_55 ?_
          exact xQ _ _ _ (by (try (first | replace c_1 := ti_neg c_1 | replace c_1 := ti_nneg c_1 | replace c_1 := ti_lt c_1 | replace c_1 := ti_nlt c_1 | replace c_1 := ti_gt c_1 | replace c_1 := ti_ngt c_1 | replace c_1 := ti_le c_1 | replace c_1 := ti_nle c_1 | replace c_1 := ti_ge c_1 | replace c_1 := ti_nge c_1 | replace c_1 := ti_z c_1 | replace c_1 := ti_nz c_1 | replace c_1 := ti_eq c_1 | replace c_1 := ti_ne c_1)); (try (first | replace c_6 := ti_neg c_6 | replace c_6 := ti_nneg c_6 | replace c_6 := ti_lt c_6 | replace c_6 := ti_nlt c_6 | replace c_6 := ti_gt c_6 | replace c_6 := ti_ngt c_6 | replace c_6 := ti_le c_6 | replace c_6 := ti_nle c_6 | replace c_6 := ti_ge c_6 | replace c_6 := ti_nge c_6 | replace c_6 := ti_z c_6 | replace c_6 := ti_nz c_6 | replace c_6 := ti_eq c_6 | replace c_6 := ti_ne c_6)); (try (first | replace c_13 := ti_neg c_13 | replace c_13 := ti_nneg c_13 | replace c_13 := ti_lt c_13 | replace c_13 := ti_nlt c_13 | replace c_13 := ti_gt c_13 | replace c_13 := ti_ngt c_13 | replace c_13 := ti_le c_13 | replace c_13 := ti_nle c_13 | replace c_13 := ti_ge c_13 | replace c_13 := ti_nge c_13 | replace c_13 := ti_z c_13 | replace c_13 := ti_nz c_13 | replace c_13 := ti_eq c_13 | replace c_13 := ti_ne c_13)); (try rw [vp_in_iff, vp_in_iff] at c_39); first | (unfold enA; rw [if_pos (by omega)]; exact hR.2.2.1.2.2.2.2.1 _ (by omega)) | (unfold enA; rw [if_neg (by omega), if_pos (by omega)]; exact hR.2.2.1.2.2.2.2.2.1 _ (by omega)) | (unfold enA; rw [if_neg (by omega), if_neg (by omega)])) dX6_entry_57
      · skip
        refine lv_aload_n xE xB dX6_entry_16 rfl (lv_at xL 0 rfl) ?_
        refine va_get (D := G.1) (ci := 6) (v := .ref na.1) (C := RX6) (T := TX6) (N := 4) xE xB xT khX6_entry_X6 xO xK.1 xP 0 rfl rfl 0 (by decide) (xT _ kX6_entry_f10) (fun _ h9 => h9) rfl dX6_entry_17 ?_
        refine va_get (D := G.1) (ci := 3) (v := .ref na.2.2.1.1) (C := RX3) (T := TX3) (N := 5) xE xB xT khX6_entry_X3 xO xK.1 xP 1 rfl rfl 1 (by decide) (xT _ kX6_entry_f69) (fun _ h9 => h9) rfl dX6_entry_20 ?_
        refine lv_goto (tgt := 33) xE xB dX6_entry_23 (by decide) ?_
        refine lv_astore (lv' := [(4, .ref na.2.2.1.1), (0, .ref x0), (1, .int v1), (2, .int v2), (3, .int v3)]) xE xB dX6_entry_33 xL (by decide) rfl (fun ls xL => ?_)
        refine lv_aload xE xB dX6_entry_35 (lv_at xL 0 rfl) ?_
        refine lv_iload_n xE xB dX6_entry_37 rfl (lv_at xL 3 rfl) ?_
        refine lv_iload_n xE xB dX6_entry_38 rfl (lv_at xL 4 rfl) ?_
        refine q_VR (As := [.int v2, .int v3]) (rest := []) ⟨xE, xB, xM, xO, xT⟩ (kX1_has l G na.2.2.1 lr lc L v2 v3 (by omega) (by omega)) (cwV 2 xT gX6_entry_X1_has rfl rfl rfl (by decide +kernel) ⟨Nat.le_of_ble_eq_true rfl, Nat.le_of_ble_eq_true rfl⟩) xK xP [4, 5] rfl 0 rfl rfl rfl rfl xL.1 rfl (Nat.le_of_ble_eq_true rfl) dX6_entry_39 ⟨Nat.le_refl _, Nat.le_refl _⟩ (fun r_39 h_39 => ?_)
        rcases h_39 with ⟨h_39, c_39⟩ | ⟨h_39, c_39⟩
        · skip
          subst h_39
          have c_39 : vp_in v2 lr ∧ vp_in v3 lc := c_39
          refine lv_if_eq (tgt := 55) xE xB dX6_entry_42 (by decide) (fun h9 => absurd h9 (by decide)) (fun _ => ?_)
          (try (first | replace c_1 := ti_neg c_1 | replace c_1 := ti_nneg c_1 | replace c_1 := ti_lt c_1 | replace c_1 := ti_nlt c_1 | replace c_1 := ti_gt c_1 | replace c_1 := ti_ngt c_1 | replace c_1 := ti_le c_1 | replace c_1 := ti_nle c_1 | replace c_1 := ti_ge c_1 | replace c_1 := ti_nge c_1 | replace c_1 := ti_z c_1 | replace c_1 := ti_nz c_1 | replace c_1 := ti_eq c_1 | replace c_1 := ti_ne c_1)); (try (first | replace c_6 := ti_neg c_6 | replace c_6 := ti_nneg c_6 | replace c_6 := ti_lt c_6 | replace c_6 := ti_nlt c_6 | replace c_6 := ti_gt c_6 | replace c_6 := ti_ngt c_6 | replace c_6 := ti_le c_6 | replace c_6 := ti_nle c_6 | replace c_6 := ti_ge c_6 | replace c_6 := ti_nge c_6 | replace c_6 := ti_z c_6 | replace c_6 := ti_nz c_6 | replace c_6 := ti_eq c_6 | replace c_6 := ti_ne c_6)); (try (first | replace c_13 := ti_neg c_13 | replace c_13 := ti_nneg c_13 | replace c_13 := ti_lt c_13 | replace c_13 := ti_nlt c_13 | replace c_13 := ti_gt c_13 | replace c_13 := ti_ngt c_13 | replace c_13 := ti_le c_13 | replace c_13 := ti_nle c_13 | replace c_13 := ti_ge c_13 | replace c_13 := ti_nge c_13 | replace c_13 := ti_z c_13 | replace c_13 := ti_nz c_13 | replace c_13 := ti_eq c_13 | replace c_13 := ti_ne c_13))
          (try rw [vp_in_iff, vp_in_iff] at c_39)
          have e_v2 : v2 = nI (tN v2) := tN_eq (by omega)
          have b_v2 : (tN v2 : Int) = v2.toInt := tN_z (by omega)
          rw [e_v2] at xL
          have xL : lv_has ls 5 [(4, .ref na.2.2.1.1), (0, .ref x0), (1, .int v1), (2, .int (nI (tN v2))), (3, .int v3)] := xL
          have e_v3 : v3 = nI (tN v3) := tN_eq (by omega)
          have b_v3 : (tN v3 : Int) = v3.toInt := tN_z (by omega)
          rw [e_v3] at xL
          have xL : lv_has ls 5 [(4, .ref na.2.2.1.1), (0, .ref x0), (1, .int v1), (2, .int (nI (tN v2))), (3, .int (nI (tN v3)))] := xL
          refine lv_aload xE xB dX6_entry_45 (lv_at xL 0 rfl) ?_
          refine lv_iload_n xE xB dX6_entry_47 rfl (lv_at xL 3 rfl) ?_
          refine lv_iload_n xE xB dX6_entry_48 rfl (lv_at xL 4 rfl) ?_
          refine q_VR (As := [.int (nI (tN v2)), .int (nI (tN v3))]) (rest := []) ⟨xE, xB, xM, xO, xT⟩ (kX1_at l G na.2.2.1 lr lc L (tN v2) (tN v3) (by omega) (by omega) (by omega) (by omega)) (cwV 2 xT gX6_entry_X1_at rfl rfl rfl (by decide +kernel) ⟨Nat.le_of_ble_eq_true rfl, Nat.le_of_ble_eq_true rfl⟩) xK xP [4, 5] rfl 0 rfl rfl rfl rfl xL.1 rfl (Nat.le_of_ble_eq_true rfl) dX6_entry_49 ⟨Nat.le_refl _, Nat.le_refl _⟩ (fun r_49 h_49 => ?_)
          obtain rfl : r_49 = L (6 * (tN v2) + (tN v3)) := h_49
          refine lv_goto (tgt := 57) xE xB dX6_entry_52 (by decide) ?_
          exact xQ _ _ _ (by (try (first | replace c_1 := ti_neg c_1 | replace c_1 := ti_nneg c_1 | replace c_1 := ti_lt c_1 | replace c_1 := ti_nlt c_1 | replace c_1 := ti_gt c_1 | replace c_1 := ti_ngt c_1 | replace c_1 := ti_le c_1 | replace c_1 := ti_nle c_1 | replace c_1 := ti_ge c_1 | replace c_1 := ti_nge c_1 | replace c_1 := ti_z c_1 | replace c_1 := ti_nz c_1 | replace c_1 := ti_eq c_1 | replace c_1 := ti_ne c_1)); (try (first | replace c_6 := ti_neg c_6 | replace c_6 := ti_nneg c_6 | replace c_6 := ti_lt c_6 | replace c_6 := ti_nlt c_6 | replace c_6 := ti_gt c_6 | replace c_6 := ti_ngt c_6 | replace c_6 := ti_le c_6 | replace c_6 := ti_nle c_6 | replace c_6 := ti_ge c_6 | replace c_6 := ti_nge c_6 | replace c_6 := ti_z c_6 | replace c_6 := ti_nz c_6 | replace c_6 := ti_eq c_6 | replace c_6 := ti_ne c_6)); (try (first | replace c_13 := ti_neg c_13 | replace c_13 := ti_nneg c_13 | replace c_13 := ti_lt c_13 | replace c_13 := ti_nlt c_13 | replace c_13 := ti_gt c_13 | replace c_13 := ti_ngt c_13 | replace c_13 := ti_le c_13 | replace c_13 := ti_nle c_13 | replace c_13 := ti_ge c_13 | replace c_13 := ti_nge c_13 | replace c_13 := ti_z c_13 | replace c_13 := ti_nz c_13 | replace c_13 := ti_eq c_13 | replace c_13 := ti_ne c_13)); (try rw [vp_in_iff, vp_in_iff] at c_39); first | (unfold enA; rw [if_pos (by omega)]; exact hR.2.2.1.2.2.2.2.1 _ (by omega)) | (unfold enA; rw [if_neg (by omega), if_pos (by omega)]; exact hR.2.2.1.2.2.2.2.2.1 _ (by omega)) | (unfold enA; rw [if_neg (by omega), if_neg (by omega)])) dX6_entry_57
        · skip
          subst h_39
          have c_39 : ¬ (vp_in v2 lr ∧ vp_in v3 lc) := c_39
          refine lv_if_eq (tgt := 55) xE xB dX6_entry_42 (by decide) (fun _ => ?_) (fun h9 => absurd (by decide) h9)
          refine lv_ldc (v := (-1000001)) xE xB xO (xT _ kX6_entry_c33) dX6_entry_55 ?_
          exact xQ _ _ _ (by (try (first | replace c_1 := ti_neg c_1 | replace c_1 := ti_nneg c_1 | replace c_1 := ti_lt c_1 | replace c_1 := ti_nlt c_1 | replace c_1 := ti_gt c_1 | replace c_1 := ti_ngt c_1 | replace c_1 := ti_le c_1 | replace c_1 := ti_nle c_1 | replace c_1 := ti_ge c_1 | replace c_1 := ti_nge c_1 | replace c_1 := ti_z c_1 | replace c_1 := ti_nz c_1 | replace c_1 := ti_eq c_1 | replace c_1 := ti_ne c_1)); (try (first | replace c_6 := ti_neg c_6 | replace c_6 := ti_nneg c_6 | replace c_6 := ti_lt c_6 | replace c_6 := ti_nlt c_6 | replace c_6 := ti_gt c_6 | replace c_6 := ti_ngt c_6 | replace c_6 := ti_le c_6 | replace c_6 := ti_nle c_6 | replace c_6 := ti_ge c_6 | replace c_6 := ti_nge c_6 | replace c_6 := ti_z c_6 | replace c_6 := ti_nz c_6 | replace c_6 := ti_eq c_6 | replace c_6 := ti_ne c_6)); (try (first | replace c_13 := ti_neg c_13 | replace c_13 := ti_nneg c_13 | replace c_13 := ti_lt c_13 | replace c_13 := ti_nlt c_13 | replace c_13 := ti_gt c_13 | replace c_13 := ti_ngt c_13 | replace c_13 := ti_le c_13 | replace c_13 := ti_nle c_13 | replace c_13 := ti_ge c_13 | replace c_13 := ti_nge c_13 | replace c_13 := ti_z c_13 | replace c_13 := ti_nz c_13 | replace c_13 := ti_eq c_13 | replace c_13 := ti_ne c_13)); (try rw [vp_in_iff, vp_in_iff] at c_39); first | (unfold enA; rw [if_pos (by omega)]; exact hR.2.2.1.2.2.2.2.1 _ (by omega)) | (unfold enA; rw [if_neg (by omega), if_pos (by omega)]; exact hR.2.2.1.2.2.2.2.2.1 _ (by omega)) | (unfold enA; rw [if_neg (by omega), if_neg (by omega)])) dX6_entry_57
    · skip
      refine lv_ldc (v := (-1000001)) xE xB xO (xT _ kX6_entry_c33) dX6_entry_9 ?_
      exact xQ _ _ _ (by (try (first | replace c_1 := ti_neg c_1 | replace c_1 := ti_nneg c_1 | replace c_1 := ti_lt c_1 | replace c_1 := ti_nlt c_1 | replace c_1 := ti_gt c_1 | replace c_1 := ti_ngt c_1 | replace c_1 := ti_le c_1 | replace c_1 := ti_nle c_1 | replace c_1 := ti_ge c_1 | replace c_1 := ti_nge c_1 | replace c_1 := ti_z c_1 | replace c_1 := ti_nz c_1 | replace c_1 := ti_eq c_1 | replace c_1 := ti_ne c_1)); (try (first | replace c_6 := ti_neg c_6 | replace c_6 := ti_nneg c_6 | replace c_6 := ti_lt c_6 | replace c_6 := ti_nlt c_6 | replace c_6 := ti_gt c_6 | replace c_6 := ti_ngt c_6 | replace c_6 := ti_le c_6 | replace c_6 := ti_nle c_6 | replace c_6 := ti_ge c_6 | replace c_6 := ti_nge c_6 | replace c_6 := ti_z c_6 | replace c_6 := ti_nz c_6 | replace c_6 := ti_eq c_6 | replace c_6 := ti_ne c_6)); (try (first | replace c_13 := ti_neg c_13 | replace c_13 := ti_nneg c_13 | replace c_13 := ti_lt c_13 | replace c_13 := ti_nlt c_13 | replace c_13 := ti_gt c_13 | replace c_13 := ti_ngt c_13 | replace c_13 := ti_le c_13 | replace c_13 := ti_nle c_13 | replace c_13 := ti_ge c_13 | replace c_13 := ti_nge c_13 | replace c_13 := ti_z c_13 | replace c_13 := ti_nz c_13 | replace c_13 := ti_eq c_13 | replace c_13 := ti_ne c_13)); (try rw [vp_in_iff, vp_in_iff] at c_39); unfold enA; rw [if_neg (by omega), if_neg (by omega)]) dX6_entry_11
theorem kX6_result_c33 : Cond.constant RX6 33 (-1000001) ∈ wsX6_result := by decide +kernel
theorem kX6_result_f10 : Cond.fieldLink RX6 10 "SkewedSquare" "now" "LSkewedSquare$State;" ∈ wsX6_result := by decide +kernel
theorem kX6_result_f143 : Cond.fieldLink RX6 143 "SkewedSquare$State" "results" "LSkewedSquare$Matrix;" ∈ wsX6_result := by decide +kernel
theorem khX6_result_X3 : ∀ w ∈ u_ws RX3 TX3 5, w ∈ wsX6_result := by decide +kernel
theorem khX6_result_X6 : ∀ w ∈ u_ws RX6 TX6 4, w ∈ wsX6_result := by decide +kernel
set_option maxHeartbeats 4000000 in
set_option maxRecDepth 100000 in
/-- kX6_result -/
theorem kX6_result (l : Launch) (G : wG) (x0 : Nat) (na tra : SA) (h : HA) (k : XA) (n o : Nat) (kf : wF) (lr lc : Nat) (L : wF) (rr rc : Nat) (R : wF) (sr sc : Nat) (Z : wF) (b ta tb th tw tt tn : Nat) (sm0 mt rw dn : wF) (v : SD) (hn : Nat) (u0 u1 u2 u3 : SD) (w : XD) (s : wF) (pst : PF) (v1 v2 v3 : Int32) (hR : RelS ((n, o, kf), (lr, lc, L), (rr, rc, R), (sr, sc, Z), (b, ta, tb, th, tw, tt, tn, sm0, mt, rw, dn)) s) (hh : hn ≤ 4) (hH : HRel hn u0 u1 u2 u3 pst) : CR l yX6_result wsX6_result (rm 2 46) G [.ref x0, .int v1, .int v2, .int v3] (List.flatten [[((x0, na.1, tra.1, h.1, k.1).1, .inr (6, [.ref ((x0, na.1, tra.1, h.1, k.1).2.1), .ref ((x0, na.1, tra.1, h.1, k.1).2.2.1), .ref ((x0, na.1, tra.1, h.1, k.1).2.2.2.1), .ref ((x0, na.1, tra.1, h.1, k.1).2.2.2.2)]))], wS G na ((n, o, kf), (lr, lc, L), (rr, rc, R), (sr, sc, Z), (b, ta, tb, th, tw, tt, tn, sm0, mt, rw, dn)), wS G tra v, wHf G h (hn, u0, u1, u2, u3), wX G k w]) (fun x => x = reA lr lc rc v1 v2 v3 s) := by
  refine CR.of (own := RX6) rfl (by decide) rfl (Nat.le_of_ble_eq_true rfl) ?_
  intro p9 e9 s9 m9 b9 t9 c9 xE xB xM xO xT xK xP Q xQ ls hl
  have xL : lv_has ls 4 [(0, .ref x0), (1, .int v1), (2, .int v2), (3, .int v3)] := hl
  obtain ⟨hn1, hn2, hn3⟩ := hR.1.2.2.1
  obtain ⟨hm1, hm2, hm3, hm4, hm5, hm6⟩ := hR.2.2.1.2.2.2.1
  obtain ⟨hd1, hd2, hd3⟩ := hR.2.2.2.1
  have hb1 := hR.2.2.2.2.2.1.1
  refine lv_iload_n xE xB dX6_result_0 rfl (lv_at xL 3 rfl) ?_
  refine lv_if_lt (tgt := 24) xE xB dX6_result_1 (by decide) (fun c_1 => ?_) (fun c_1 => ?_)
  · skip
    refine lv_ldc (v := (-1000001)) xE xB xO (xT _ kX6_result_c33) dX6_result_24 ?_
    exact xQ _ _ _ (by (try (first | replace c_1 := ti_neg c_1 | replace c_1 := ti_nneg c_1 | replace c_1 := ti_lt c_1 | replace c_1 := ti_nlt c_1 | replace c_1 := ti_gt c_1 | replace c_1 := ti_ngt c_1 | replace c_1 := ti_le c_1 | replace c_1 := ti_nle c_1 | replace c_1 := ti_ge c_1 | replace c_1 := ti_nge c_1 | replace c_1 := ti_z c_1 | replace c_1 := ti_nz c_1 | replace c_1 := ti_eq c_1 | replace c_1 := ti_ne c_1)); (try (first | replace c_6 := ti_neg c_6 | replace c_6 := ti_nneg c_6 | replace c_6 := ti_lt c_6 | replace c_6 := ti_nlt c_6 | replace c_6 := ti_gt c_6 | replace c_6 := ti_ngt c_6 | replace c_6 := ti_le c_6 | replace c_6 := ti_nle c_6 | replace c_6 := ti_ge c_6 | replace c_6 := ti_nge c_6 | replace c_6 := ti_z c_6 | replace c_6 := ti_nz c_6 | replace c_6 := ti_eq c_6 | replace c_6 := ti_ne c_6)); (try (first | replace c_29 := ti_neg c_29 | replace c_29 := ti_nneg c_29 | replace c_29 := ti_lt c_29 | replace c_29 := ti_nlt c_29 | replace c_29 := ti_gt c_29 | replace c_29 := ti_ngt c_29 | replace c_29 := ti_le c_29 | replace c_29 := ti_nle c_29 | replace c_29 := ti_ge c_29 | replace c_29 := ti_nge c_29 | replace c_29 := ti_z c_29 | replace c_29 := ti_nz c_29 | replace c_29 := ti_eq c_29 | replace c_29 := ti_ne c_29)); (try rw [vp_in_iff, vp_in_iff] at c_18); unfold reA; rw [if_neg (by omega)]) dX6_result_26
  · skip
    refine lv_iload_n xE xB dX6_result_4 rfl (lv_at xL 3 rfl) ?_
    refine lv_iconst (v := nI 1) xE xB dX6_result_5 (by decide) ?_
    refine lv_icmp_gt (tgt := 24) xE xB dX6_result_6 (by decide) (fun c_6 => ?_) (fun c_6 => ?_)
    · skip
      refine lv_ldc (v := (-1000001)) xE xB xO (xT _ kX6_result_c33) dX6_result_24 ?_
      exact xQ _ _ _ (by (try (first | replace c_1 := ti_neg c_1 | replace c_1 := ti_nneg c_1 | replace c_1 := ti_lt c_1 | replace c_1 := ti_nlt c_1 | replace c_1 := ti_gt c_1 | replace c_1 := ti_ngt c_1 | replace c_1 := ti_le c_1 | replace c_1 := ti_nle c_1 | replace c_1 := ti_ge c_1 | replace c_1 := ti_nge c_1 | replace c_1 := ti_z c_1 | replace c_1 := ti_nz c_1 | replace c_1 := ti_eq c_1 | replace c_1 := ti_ne c_1)); (try (first | replace c_6 := ti_neg c_6 | replace c_6 := ti_nneg c_6 | replace c_6 := ti_lt c_6 | replace c_6 := ti_nlt c_6 | replace c_6 := ti_gt c_6 | replace c_6 := ti_ngt c_6 | replace c_6 := ti_le c_6 | replace c_6 := ti_nle c_6 | replace c_6 := ti_ge c_6 | replace c_6 := ti_nge c_6 | replace c_6 := ti_z c_6 | replace c_6 := ti_nz c_6 | replace c_6 := ti_eq c_6 | replace c_6 := ti_ne c_6)); (try (first | replace c_29 := ti_neg c_29 | replace c_29 := ti_nneg c_29 | replace c_29 := ti_lt c_29 | replace c_29 := ti_nlt c_29 | replace c_29 := ti_gt c_29 | replace c_29 := ti_ngt c_29 | replace c_29 := ti_le c_29 | replace c_29 := ti_nle c_29 | replace c_29 := ti_ge c_29 | replace c_29 := ti_nge c_29 | replace c_29 := ti_z c_29 | replace c_29 := ti_nz c_29 | replace c_29 := ti_eq c_29 | replace c_29 := ti_ne c_29)); (try rw [vp_in_iff, vp_in_iff] at c_18); unfold reA; rw [if_neg (by omega)]) dX6_result_26
    · skip
      refine lv_aload_n xE xB dX6_result_9 rfl (lv_at xL 0 rfl) ?_
      refine va_get (D := G.1) (ci := 6) (v := .ref na.1) (C := RX6) (T := TX6) (N := 4) xE xB xT khX6_result_X6 xO xK.1 xP 0 rfl rfl 0 (by decide) (xT _ kX6_result_f10) (fun _ h9 => h9) rfl dX6_result_10 ?_
      refine va_get (D := G.1) (ci := 3) (v := .ref na.2.2.2.2.1.1) (C := RX3) (T := TX3) (N := 5) xE xB xT khX6_result_X3 xO xK.1 xP 1 rfl rfl 3 (by decide) (xT _ kX6_result_f143) (fun _ h9 => h9) rfl dX6_result_13 ?_
      refine lv_iload_n xE xB dX6_result_16 rfl (lv_at xL 1 rfl) ?_
      refine lv_iload_n xE xB dX6_result_17 rfl (lv_at xL 2 rfl) ?_
      refine q_VR (As := [.int v1, .int v2]) (rest := []) ⟨xE, xB, xM, xO, xT⟩ (kX1_has l G na.2.2.2.2.1 sr sc Z v1 v2 (by omega) (by omega)) (cwV 2 xT gX6_result_X1_has rfl rfl rfl (by decide +kernel) ⟨Nat.le_of_ble_eq_true rfl, Nat.le_of_ble_eq_true rfl⟩) xK xP [8, 9] rfl 0 rfl rfl rfl rfl xL.1 rfl (Nat.le_of_ble_eq_true rfl) dX6_result_18 ⟨Nat.le_refl _, Nat.le_refl _⟩ (fun r_18 h_18 => ?_)
      rcases h_18 with ⟨h_18, c_18⟩ | ⟨h_18, c_18⟩
      · skip
        subst h_18
        have c_18 : vp_in v1 sr ∧ vp_in v2 sc := c_18
        refine lv_if_ne (tgt := 27) xE xB dX6_result_21 (by decide) (fun _ => ?_) (fun h9 => absurd h9 (by decide))
        (try (first | replace c_1 := ti_neg c_1 | replace c_1 := ti_nneg c_1 | replace c_1 := ti_lt c_1 | replace c_1 := ti_nlt c_1 | replace c_1 := ti_gt c_1 | replace c_1 := ti_ngt c_1 | replace c_1 := ti_le c_1 | replace c_1 := ti_nle c_1 | replace c_1 := ti_ge c_1 | replace c_1 := ti_nge c_1 | replace c_1 := ti_z c_1 | replace c_1 := ti_nz c_1 | replace c_1 := ti_eq c_1 | replace c_1 := ti_ne c_1)); (try (first | replace c_6 := ti_neg c_6 | replace c_6 := ti_nneg c_6 | replace c_6 := ti_lt c_6 | replace c_6 := ti_nlt c_6 | replace c_6 := ti_gt c_6 | replace c_6 := ti_ngt c_6 | replace c_6 := ti_le c_6 | replace c_6 := ti_nle c_6 | replace c_6 := ti_ge c_6 | replace c_6 := ti_nge c_6 | replace c_6 := ti_z c_6 | replace c_6 := ti_nz c_6 | replace c_6 := ti_eq c_6 | replace c_6 := ti_ne c_6))
        (try rw [vp_in_iff, vp_in_iff] at c_18)
        have e_v1 : v1 = nI (tN v1) := tN_eq (by omega)
        have b_v1 : (tN v1 : Int) = v1.toInt := tN_z (by omega)
        rw [e_v1] at xL
        have xL : lv_has ls 4 [(0, .ref x0), (1, .int (nI (tN v1))), (2, .int v2), (3, .int v3)] := xL
        have e_v2 : v2 = nI (tN v2) := tN_eq (by omega)
        have b_v2 : (tN v2 : Int) = v2.toInt := tN_z (by omega)
        rw [e_v2] at xL
        have xL : lv_has ls 4 [(0, .ref x0), (1, .int (nI (tN v1))), (2, .int (nI (tN v2))), (3, .int v3)] := xL
        refine lv_iload_n xE xB dX6_result_27 rfl (lv_at xL 3 rfl) ?_
        refine lv_iconst (v := nI 1) xE xB dX6_result_28 (by decide) ?_
        refine lv_icmp_ne (tgt := 42) xE xB dX6_result_29 (by decide) (fun c_29 => ?_) (fun c_29 => ?_)
        · skip
          refine lv_aload_n xE xB dX6_result_42 rfl (lv_at xL 0 rfl) ?_
          refine va_get (D := G.1) (ci := 6) (v := .ref na.1) (C := RX6) (T := TX6) (N := 4) xE xB xT khX6_result_X6 xO xK.1 xP 0 rfl rfl 0 (by decide) (xT _ kX6_result_f10) (fun _ h9 => h9) rfl dX6_result_43 ?_
          refine va_get (D := G.1) (ci := 3) (v := .ref na.2.2.2.2.1.1) (C := RX3) (T := TX3) (N := 5) xE xB xT khX6_result_X3 xO xK.1 xP 1 rfl rfl 3 (by decide) (xT _ kX6_result_f143) (fun _ h9 => h9) rfl dX6_result_46 ?_
          refine lv_iload_n xE xB dX6_result_49 rfl (lv_at xL 1 rfl) ?_
          refine lv_iload_n xE xB dX6_result_50 rfl (lv_at xL 2 rfl) ?_
          refine q_VR (As := [.int (nI (tN v1)), .int (nI (tN v2))]) (rest := []) ⟨xE, xB, xM, xO, xT⟩ (kX1_at l G na.2.2.2.2.1 sr sc Z (tN v1) (tN v2) (by omega) (by omega) (by omega) (by omega)) (cwV 2 xT gX6_result_X1_at rfl rfl rfl (by decide +kernel) ⟨Nat.le_of_ble_eq_true rfl, Nat.le_of_ble_eq_true rfl⟩) xK xP [8, 9] rfl 0 rfl rfl rfl rfl xL.1 rfl (Nat.le_of_ble_eq_true rfl) dX6_result_51 ⟨Nat.le_refl _, Nat.le_refl _⟩ (fun r_51 h_51 => ?_)
          obtain rfl : r_51 = Z (6 * (tN v1) + (tN v2)) := h_51
          refine q_SR (As := [.int (Z (6 * (tN v1) + (tN v2)))]) (rest := []) ⟨xE, xB, xM, xO, xT⟩ (kX6_orNotFound l G (Z (6 * (tN v1) + (tN v2)))) (va_cwS 1 xT gX6_result_X6_orNotFound rfl rfl rfl (by decide +kernel) ⟨Nat.le_of_ble_eq_true rfl, Nat.le_of_ble_eq_true rfl⟩) xK xP [] rfl rfl xL.1 rfl (Nat.le_of_ble_eq_true rfl) dX6_result_54 ⟨Nat.le_refl _, Nat.le_refl _⟩ (fun r_54 h_54 => ?_)
          obtain rfl : r_54 = if (Z (6 * (tN v1) + (tN v2))) = NO then (-1000004) else (Z (6 * (tN v1) + (tN v2))) := h_54
          exact xQ _ _ _ (by (try (first | replace c_1 := ti_neg c_1 | replace c_1 := ti_nneg c_1 | replace c_1 := ti_lt c_1 | replace c_1 := ti_nlt c_1 | replace c_1 := ti_gt c_1 | replace c_1 := ti_ngt c_1 | replace c_1 := ti_le c_1 | replace c_1 := ti_nle c_1 | replace c_1 := ti_ge c_1 | replace c_1 := ti_nge c_1 | replace c_1 := ti_z c_1 | replace c_1 := ti_nz c_1 | replace c_1 := ti_eq c_1 | replace c_1 := ti_ne c_1)); (try (first | replace c_6 := ti_neg c_6 | replace c_6 := ti_nneg c_6 | replace c_6 := ti_lt c_6 | replace c_6 := ti_nlt c_6 | replace c_6 := ti_gt c_6 | replace c_6 := ti_ngt c_6 | replace c_6 := ti_le c_6 | replace c_6 := ti_nle c_6 | replace c_6 := ti_ge c_6 | replace c_6 := ti_nge c_6 | replace c_6 := ti_z c_6 | replace c_6 := ti_nz c_6 | replace c_6 := ti_eq c_6 | replace c_6 := ti_ne c_6)); (try (first | replace c_29 := ti_neg c_29 | replace c_29 := ti_nneg c_29 | replace c_29 := ti_lt c_29 | replace c_29 := ti_nlt c_29 | replace c_29 := ti_gt c_29 | replace c_29 := ti_ngt c_29 | replace c_29 := ti_le c_29 | replace c_29 := ti_nle c_29 | replace c_29 := ti_ge c_29 | replace c_29 := ti_nge c_29 | replace c_29 := ti_z c_29 | replace c_29 := ti_nz c_29 | replace c_29 := ti_eq c_29 | replace c_29 := ti_ne c_29)); (try rw [vp_in_iff, vp_in_iff] at c_18); exact (resL hR.2.2.2.2.1 (by omega) (by omega)).trans ((if_pos (by omega)).trans (if_neg (by omega))).symm) dX6_result_57
        · skip
          refine lv_aload_n xE xB dX6_result_32 rfl (lv_at xL 0 rfl) ?_
          refine va_get (D := G.1) (ci := 6) (v := .ref na.1) (C := RX6) (T := TX6) (N := 4) xE xB xT khX6_result_X6 xO xK.1 xP 0 rfl rfl 0 (by decide) (xT _ kX6_result_f10) (fun _ h9 => h9) rfl dX6_result_33 ?_
          refine lv_iload_n xE xB dX6_result_36 rfl (lv_at xL 1 rfl) ?_
          refine lv_iload_n xE xB dX6_result_37 rfl (lv_at xL 2 rfl) ?_
          refine q_VRL (As := [.int (nI (tN v1)), .int (nI (tN v2))]) (rest := []) ⟨xE, xB, xM, xO, xT⟩ (kX3_dueAt l G na n o kf lr lc L rr rc R sr sc Z b ta tb th tw tt tn sm0 mt rw dn (tN v1) (tN v2) (by omega) (by omega) (by omega) (by omega) (by omega) (by omega)) (cwV 2 xT gX6_result_X3_dueAt rfl rfl rfl (by decide +kernel) ⟨Nat.le_of_ble_eq_true rfl, Nat.le_of_ble_eq_true rfl⟩) xK xP [1] [0, 2, 3, 4] 5 rfl (by decide) (Lc := [wS G na ((n, o, kf), (lr, lc, L), (rr, rc, R), (sr, sc, Z), (b, ta, tb, th, tw, tt, tn, sm0, mt, rw, dn))]) rfl (by simp only [List.flatten_cons, List.flatten_nil, List.append_nil, List.append_assoc]) 0 rfl rfl rfl rfl xL.1 rfl (Nat.le_of_ble_eq_true rfl) dX6_result_38 ⟨Nat.le_refl _, Nat.le_refl _⟩ (fun r_38 h_38 => ?_)
          obtain rfl : r_38 = sm (fun q => L (6 * (tN v1) + q) * R (6 * q + (tN v2))) lc := h_38
          exact xQ _ _ _ (by (try (first | replace c_1 := ti_neg c_1 | replace c_1 := ti_nneg c_1 | replace c_1 := ti_lt c_1 | replace c_1 := ti_nlt c_1 | replace c_1 := ti_gt c_1 | replace c_1 := ti_ngt c_1 | replace c_1 := ti_le c_1 | replace c_1 := ti_nle c_1 | replace c_1 := ti_ge c_1 | replace c_1 := ti_nge c_1 | replace c_1 := ti_z c_1 | replace c_1 := ti_nz c_1 | replace c_1 := ti_eq c_1 | replace c_1 := ti_ne c_1)); (try (first | replace c_6 := ti_neg c_6 | replace c_6 := ti_nneg c_6 | replace c_6 := ti_lt c_6 | replace c_6 := ti_nlt c_6 | replace c_6 := ti_gt c_6 | replace c_6 := ti_ngt c_6 | replace c_6 := ti_le c_6 | replace c_6 := ti_nle c_6 | replace c_6 := ti_ge c_6 | replace c_6 := ti_nge c_6 | replace c_6 := ti_z c_6 | replace c_6 := ti_nz c_6 | replace c_6 := ti_eq c_6 | replace c_6 := ti_ne c_6)); (try (first | replace c_29 := ti_neg c_29 | replace c_29 := ti_nneg c_29 | replace c_29 := ti_lt c_29 | replace c_29 := ti_nlt c_29 | replace c_29 := ti_gt c_29 | replace c_29 := ti_ngt c_29 | replace c_29 := ti_le c_29 | replace c_29 := ti_nle c_29 | replace c_29 := ti_ge c_29 | replace c_29 := ti_nge c_29 | replace c_29 := ti_z c_29 | replace c_29 := ti_nz c_29 | replace c_29 := ti_eq c_29 | replace c_29 := ti_ne c_29)); (try rw [vp_in_iff, vp_in_iff] at c_18); unfold reA; rw [if_pos (by omega), if_pos (by omega)]; exact dueL hR.2.2.1 (by omega) (by omega)) dX6_result_41
      · skip
        subst h_18
        have c_18 : ¬ (vp_in v1 sr ∧ vp_in v2 sc) := c_18
        refine lv_if_ne (tgt := 27) xE xB dX6_result_21 (by decide) (fun h9 => absurd (by decide) h9) (fun _ => ?_)
        refine lv_ldc (v := (-1000001)) xE xB xO (xT _ kX6_result_c33) dX6_result_24 ?_
        exact xQ _ _ _ (by (try (first | replace c_1 := ti_neg c_1 | replace c_1 := ti_nneg c_1 | replace c_1 := ti_lt c_1 | replace c_1 := ti_nlt c_1 | replace c_1 := ti_gt c_1 | replace c_1 := ti_ngt c_1 | replace c_1 := ti_le c_1 | replace c_1 := ti_nle c_1 | replace c_1 := ti_ge c_1 | replace c_1 := ti_nge c_1 | replace c_1 := ti_z c_1 | replace c_1 := ti_nz c_1 | replace c_1 := ti_eq c_1 | replace c_1 := ti_ne c_1)); (try (first | replace c_6 := ti_neg c_6 | replace c_6 := ti_nneg c_6 | replace c_6 := ti_lt c_6 | replace c_6 := ti_nlt c_6 | replace c_6 := ti_gt c_6 | replace c_6 := ti_ngt c_6 | replace c_6 := ti_le c_6 | replace c_6 := ti_nle c_6 | replace c_6 := ti_ge c_6 | replace c_6 := ti_nge c_6 | replace c_6 := ti_z c_6 | replace c_6 := ti_nz c_6 | replace c_6 := ti_eq c_6 | replace c_6 := ti_ne c_6)); (try (first | replace c_29 := ti_neg c_29 | replace c_29 := ti_nneg c_29 | replace c_29 := ti_lt c_29 | replace c_29 := ti_nlt c_29 | replace c_29 := ti_gt c_29 | replace c_29 := ti_ngt c_29 | replace c_29 := ti_le c_29 | replace c_29 := ti_nle c_29 | replace c_29 := ti_ge c_29 | replace c_29 := ti_nge c_29 | replace c_29 := ti_z c_29 | replace c_29 := ti_nz c_29 | replace c_29 := ti_eq c_29 | replace c_29 := ti_ne c_29)); (try rw [vp_in_iff, vp_in_iff] at c_18); unfold reA; rw [if_neg (by omega)]) dX6_result_26
theorem kX6_ofCellAtWork_f10 : Cond.fieldLink RX6 10 "SkewedSquare" "now" "LSkewedSquare$State;" ∈ wsX6_ofCellAtWork := by decide +kernel
theorem kX6_ofCellAtWork_f52 : Cond.fieldLink RX6 52 "SkewedSquare$State" "tile" "LSkewedSquare$Tile;" ∈ wsX6_ofCellAtWork := by decide +kernel
theorem khX6_ofCellAtWork_X3 : ∀ w ∈ u_ws RX3 TX3 5, w ∈ wsX6_ofCellAtWork := by decide +kernel
theorem khX6_ofCellAtWork_X6 : ∀ w ∈ u_ws RX6 TX6 4, w ∈ wsX6_ofCellAtWork := by decide +kernel
set_option maxHeartbeats 4000000 in
set_option maxRecDepth 100000 in
/-- kX6_ofCellAtWork -/
theorem kX6_ofCellAtWork (l : Launch) (G : wG) (x0 : Nat) (na tra : SA) (h : HA) (k : XA) (n o : Nat) (kf : wF) (lr lc : Nat) (L : wF) (rr rc : Nat) (R : wF) (sr sc : Nat) (Z : wF) (b ta tb th tw tt tn : Nat) (sm0 mt rw dn : wF) (v : SD) (hn : Nat) (u0 u1 u2 u3 : SD) (w : XD) (s : wF) (pst : PF) (q : Nat) (v3 : Int32) (hq : q < 16) : CR l yX6_ofCellAtWork wsX6_ofCellAtWork (rm 2 41) G [.ref x0, .int (nI q), .int v3] (List.flatten [[((x0, na.1, tra.1, h.1, k.1).1, .inr (6, [.ref ((x0, na.1, tra.1, h.1, k.1).2.1), .ref ((x0, na.1, tra.1, h.1, k.1).2.2.1), .ref ((x0, na.1, tra.1, h.1, k.1).2.2.2.1), .ref ((x0, na.1, tra.1, h.1, k.1).2.2.2.2)]))], wS G na ((n, o, kf), (lr, lc, L), (rr, rc, R), (sr, sc, Z), (b, ta, tb, th, tw, tt, tn, sm0, mt, rw, dn)), wS G tra v, wHf G h (hn, u0, u1, u2, u3), wX G k w]) (fun x => x = if v3 = nI 0 then sm0 q else if v3 = nI 1 then (if rw q = NO then (-1000004) else rw q) else if v3 = nI 2 then (if dn q = NO then (-1000004) else dn q) else mt q) := by
  refine CR.of (own := RX6) rfl (by decide) rfl (Nat.le_of_ble_eq_true rfl) ?_
  intro p9 e9 s9 m9 b9 t9 c9 xE xB xM xO xT xK xP Q xQ ls hl
  have xL : lv_has ls 3 [(0, .ref x0), (1, .int (nI q)), (2, .int v3)] := hl
  refine lv_iload_n xE xB dX6_ofCellAtWork_0 rfl (lv_at xL 2 rfl) ?_
  by_cases e_0 : v3 = nI 0
  · skip
    subst e_0
    refine lv_tableIn (off := 27) (tgt := 28) xE xB dX6_ofCellAtWork_1 (by decide) (by decide) (by decide) (by decide) ?_
    refine lv_aload_n xE xB dX6_ofCellAtWork_28 rfl (lv_at xL 0 rfl) ?_
    refine va_get (D := G.1) (ci := 6) (v := .ref na.1) (C := RX6) (T := TX6) (N := 4) xE xB xT khX6_ofCellAtWork_X6 xO xK.1 xP 0 rfl rfl 0 (by decide) (xT _ kX6_ofCellAtWork_f10) (fun _ h9 => h9) rfl dX6_ofCellAtWork_29 ?_
    refine va_get (D := G.1) (ci := 3) (v := .ref na.2.2.2.2.2.1) (C := RX3) (T := TX3) (N := 5) xE xB xT khX6_ofCellAtWork_X3 xO xK.1 xP 1 rfl rfl 4 (by decide) (xT _ kX6_ofCellAtWork_f52) (fun _ h9 => h9) rfl dX6_ofCellAtWork_32 ?_
    refine lv_iload_n xE xB dX6_ofCellAtWork_35 rfl (lv_at xL 1 rfl) ?_
    refine q_VR (As := [.int (nI q)]) (rest := []) ⟨xE, xB, xM, xO, xT⟩ (kX5_sumOf l G na.2.2.2.2.2 b ta tb th tw tt tn sm0 mt rw dn q (by omega)) (cwV 1 xT gX6_ofCellAtWork_X5_sumOf rfl rfl rfl (by decide +kernel) ⟨Nat.le_of_ble_eq_true rfl, Nat.le_of_ble_eq_true rfl⟩) xK xP [10, 11, 12, 13, 14] rfl 0 rfl rfl rfl rfl xL.1 rfl (Nat.le_of_ble_eq_true rfl) dX6_ofCellAtWork_36 ⟨Nat.le_refl _, Nat.le_refl _⟩ (fun r_36 h_36 => ?_)
    obtain rfl : r_36 = sm0 q := h_36
    exact xQ _ _ _ (by exact (if_pos rfl).symm) dX6_ofCellAtWork_39
  by_cases e_1 : v3 = nI 1
  · skip
    subst e_1
    refine lv_tableIn (off := 39) (tgt := 40) xE xB dX6_ofCellAtWork_1 (by decide) (by decide) (by decide) (by decide) ?_
    refine lv_aload_n xE xB dX6_ofCellAtWork_40 rfl (lv_at xL 0 rfl) ?_
    refine va_get (D := G.1) (ci := 6) (v := .ref na.1) (C := RX6) (T := TX6) (N := 4) xE xB xT khX6_ofCellAtWork_X6 xO xK.1 xP 0 rfl rfl 0 (by decide) (xT _ kX6_ofCellAtWork_f10) (fun _ h9 => h9) rfl dX6_ofCellAtWork_41 ?_
    refine va_get (D := G.1) (ci := 3) (v := .ref na.2.2.2.2.2.1) (C := RX3) (T := TX3) (N := 5) xE xB xT khX6_ofCellAtWork_X3 xO xK.1 xP 1 rfl rfl 4 (by decide) (xT _ kX6_ofCellAtWork_f52) (fun _ h9 => h9) rfl dX6_ofCellAtWork_44 ?_
    refine lv_iload_n xE xB dX6_ofCellAtWork_47 rfl (lv_at xL 1 rfl) ?_
    refine q_VR (As := [.int (nI q)]) (rest := []) ⟨xE, xB, xM, xO, xT⟩ (kX5_rightwardOf l G na.2.2.2.2.2 b ta tb th tw tt tn sm0 mt rw dn q (by omega)) (cwV 1 xT gX6_ofCellAtWork_X5_rightwardOf rfl rfl rfl (by decide +kernel) ⟨Nat.le_of_ble_eq_true rfl, Nat.le_of_ble_eq_true rfl⟩) xK xP [10, 11, 12, 13, 14] rfl 0 rfl rfl rfl rfl xL.1 rfl (Nat.le_of_ble_eq_true rfl) dX6_ofCellAtWork_48 ⟨Nat.le_refl _, Nat.le_refl _⟩ (fun r_48 h_48 => ?_)
    obtain rfl : r_48 = rw q := h_48
    refine q_SR (As := [.int (rw q)]) (rest := []) ⟨xE, xB, xM, xO, xT⟩ (kX6_orNotFound l G (rw q)) (va_cwS 1 xT gX6_ofCellAtWork_X6_orNotFound rfl rfl rfl (by decide +kernel) ⟨Nat.le_of_ble_eq_true rfl, Nat.le_of_ble_eq_true rfl⟩) xK xP [] rfl rfl xL.1 rfl (Nat.le_of_ble_eq_true rfl) dX6_ofCellAtWork_51 ⟨Nat.le_refl _, Nat.le_refl _⟩ (fun r_51 h_51 => ?_)
    obtain rfl : r_51 = if (rw q) = NO then (-1000004) else (rw q) := h_51
    exact xQ _ _ _ (by exact ((if_neg (by decide)).trans (if_pos rfl)).symm) dX6_ofCellAtWork_54
  by_cases e_2 : v3 = nI 2
  · skip
    subst e_2
    refine lv_tableIn (off := 54) (tgt := 55) xE xB dX6_ofCellAtWork_1 (by decide) (by decide) (by decide) (by decide) ?_
    refine lv_aload_n xE xB dX6_ofCellAtWork_55 rfl (lv_at xL 0 rfl) ?_
    refine va_get (D := G.1) (ci := 6) (v := .ref na.1) (C := RX6) (T := TX6) (N := 4) xE xB xT khX6_ofCellAtWork_X6 xO xK.1 xP 0 rfl rfl 0 (by decide) (xT _ kX6_ofCellAtWork_f10) (fun _ h9 => h9) rfl dX6_ofCellAtWork_56 ?_
    refine va_get (D := G.1) (ci := 3) (v := .ref na.2.2.2.2.2.1) (C := RX3) (T := TX3) (N := 5) xE xB xT khX6_ofCellAtWork_X3 xO xK.1 xP 1 rfl rfl 4 (by decide) (xT _ kX6_ofCellAtWork_f52) (fun _ h9 => h9) rfl dX6_ofCellAtWork_59 ?_
    refine lv_iload_n xE xB dX6_ofCellAtWork_62 rfl (lv_at xL 1 rfl) ?_
    refine q_VR (As := [.int (nI q)]) (rest := []) ⟨xE, xB, xM, xO, xT⟩ (kX5_downwardOf l G na.2.2.2.2.2 b ta tb th tw tt tn sm0 mt rw dn q (by omega)) (cwV 1 xT gX6_ofCellAtWork_X5_downwardOf rfl rfl rfl (by decide +kernel) ⟨Nat.le_of_ble_eq_true rfl, Nat.le_of_ble_eq_true rfl⟩) xK xP [10, 11, 12, 13, 14] rfl 0 rfl rfl rfl rfl xL.1 rfl (Nat.le_of_ble_eq_true rfl) dX6_ofCellAtWork_63 ⟨Nat.le_refl _, Nat.le_refl _⟩ (fun r_63 h_63 => ?_)
    obtain rfl : r_63 = dn q := h_63
    refine q_SR (As := [.int (dn q)]) (rest := []) ⟨xE, xB, xM, xO, xT⟩ (kX6_orNotFound l G (dn q)) (va_cwS 1 xT gX6_ofCellAtWork_X6_orNotFound rfl rfl rfl (by decide +kernel) ⟨Nat.le_of_ble_eq_true rfl, Nat.le_of_ble_eq_true rfl⟩) xK xP [] rfl rfl xL.1 rfl (Nat.le_of_ble_eq_true rfl) dX6_ofCellAtWork_66 ⟨Nat.le_refl _, Nat.le_refl _⟩ (fun r_66 h_66 => ?_)
    obtain rfl : r_66 = if (dn q) = NO then (-1000004) else (dn q) := h_66
    exact xQ _ _ _ (by exact ((if_neg (by decide)).trans ((if_neg (by decide)).trans (if_pos rfl))).symm) dX6_ofCellAtWork_69
  refine lv_tableOut (tgt := 70) xE xB dX6_ofCellAtWork_1 (q_tab2 e_0 e_1 e_2) (by decide) ?_
  refine lv_aload_n xE xB dX6_ofCellAtWork_70 rfl (lv_at xL 0 rfl) ?_
  refine va_get (D := G.1) (ci := 6) (v := .ref na.1) (C := RX6) (T := TX6) (N := 4) xE xB xT khX6_ofCellAtWork_X6 xO xK.1 xP 0 rfl rfl 0 (by decide) (xT _ kX6_ofCellAtWork_f10) (fun _ h9 => h9) rfl dX6_ofCellAtWork_71 ?_
  refine va_get (D := G.1) (ci := 3) (v := .ref na.2.2.2.2.2.1) (C := RX3) (T := TX3) (N := 5) xE xB xT khX6_ofCellAtWork_X3 xO xK.1 xP 1 rfl rfl 4 (by decide) (xT _ kX6_ofCellAtWork_f52) (fun _ h9 => h9) rfl dX6_ofCellAtWork_74 ?_
  refine lv_iload_n xE xB dX6_ofCellAtWork_77 rfl (lv_at xL 1 rfl) ?_
  refine q_VR (As := [.int (nI q)]) (rest := []) ⟨xE, xB, xM, xO, xT⟩ (kX5_meetingsOf l G na.2.2.2.2.2 b ta tb th tw tt tn sm0 mt rw dn q (by omega)) (cwV 1 xT gX6_ofCellAtWork_X5_meetingsOf rfl rfl rfl (by decide +kernel) ⟨Nat.le_of_ble_eq_true rfl, Nat.le_of_ble_eq_true rfl⟩) xK xP [10, 11, 12, 13, 14] rfl 0 rfl rfl rfl rfl xL.1 rfl (Nat.le_of_ble_eq_true rfl) dX6_ofCellAtWork_78 ⟨Nat.le_refl _, Nat.le_refl _⟩ (fun r_78 h_78 => ?_)
  obtain rfl : r_78 = mt q := h_78
  exact xQ _ _ _ (by exact ((if_neg e_0).trans ((if_neg e_1).trans (if_neg e_2))).symm) dX6_ofCellAtWork_81
