/-! ref7: calls that change: square, matrices -/
theorem in_R {x : Int32} {a b : Nat} (ha : a < 2147483648) (hb : b < 2147483648) : ((nI a).toInt ≤ x.toInt ∧ x.toInt ≤ (nI b).toInt) ↔ (a : Int) ≤ x.toInt ∧ x.toInt ≤ (b : Int) := by
  rw [nI_toInt ha, nI_toInt hb]
theorem in_99 {x : Int32} : ((-99 : Int32).toInt ≤ x.toInt ∧ x.toInt ≤ (nI 99).toInt) ↔ -99 ≤ x.toInt ∧ x.toInt ≤ 99 := by
  rw [show (-99 : Int32).toInt = -99 by decide, show (nI 99).toInt = 99 by decide]
def PQ (pst : PF) (P : wF) (p : Nat) : Prop := ∀ i k, i < p → k < 269 → pst i k = P (269 * i + k)
def QO (x : Int32) (u : wF × wF × Nat) (r : OR) : Prop := x = r.1 ∧ u.1 = r.2.1 ∧ u.2.2 = r.2.2.2 ∧ r.2.2.2 ≤ 4 ∧ PQ r.2.2.1 u.2.1 r.2.2.2
theorem PQ_chg {s P : wF} {pst : PF} {p : Nat} (hp : p ≤ 4) (h : PQ pst P p) : PQ (chgP s pst p) (chgQ s P p) (chgN p) := by
  intro i k hi hk
  unfold chgN at hi
  unfold chgP chgQ
  by_cases e : p = 4
  · rw [if_pos e] at hi
    rw [if_pos e, if_pos e]
    by_cases g : i < 3
    · rw [if_pos g]
      have h1 : ¬ (269 * 3 ≤ 269 * i + k ∧ 269 * i + k < 269 * 3 + 269) := by omega
      have h2 : 269 * i + k < 807 := by omega
      show _ = if 269 * 3 ≤ 269 * i + k ∧ 269 * i + k < 269 * 3 + 269 then s (269 * i + k - 269 * 3) else shN 807 P (269 * i + k)
      rw [if_neg h1]
      show _ = if 269 * i + k < 807 then P (269 * i + k + 269) else P (269 * i + k)
      rw [if_pos h2, h (i + 1) k (by omega) hk]
      exact congrArg P (by omega)
    · rw [if_neg g]
      have h1 : 269 * 3 ≤ 269 * i + k ∧ 269 * i + k < 269 * 3 + 269 := by omega
      show _ = if 269 * 3 ≤ 269 * i + k ∧ 269 * i + k < 269 * 3 + 269 then s (269 * i + k - 269 * 3) else shN 807 P (269 * i + k)
      rw [if_pos h1]
      exact congrArg s (by omega)
  · rw [if_neg e] at hi
    rw [if_neg e, if_neg e]
    show _ = if 269 * p ≤ 269 * i + k ∧ 269 * i + k < 269 * p + 269 then s (269 * i + k - 269 * p) else P (269 * i + k)
    by_cases g : i = p
    · have h1 : 269 * p ≤ 269 * i + k ∧ 269 * i + k < 269 * p + 269 := by omega
      rw [if_pos g, if_pos h1]
      exact congrArg s (by omega)
    · have h1 : ¬ (269 * p ≤ 269 * i + k ∧ 269 * i + k < 269 * p + 269) := by omega
      rw [if_neg g, if_neg h1]
      exact h i k (by omega) hk
theorem RelD.e {n o lr lc rc : Nat} {s s' : wF} (h : RelD n o lr lc rc s) (e : ∀ j, j ≤ 4 → s' j = s j) : RelD n o lr lc rc s' := by
  obtain ⟨h0, h1, h2, h3, h4, h5⟩ := h
  exact ⟨by rw [e _ (by omega)]; exact h0, by rw [e _ (by omega)]; exact h1, by rw [e _ (by omega)]; exact h2, by rw [e _ (by omega)]; exact h3, by rw [e _ (by omega)]; exact h4, h5⟩
theorem RelE.e {n lr rc ta tb : Nat} {s s' : wF} (h : RelE n lr rc ta tb s) (e : ∀ j, j = 6 ∨ j = 7 → s' j = s j) : RelE n lr rc ta tb s' := by
  obtain ⟨h0, h1, h2⟩ := h
  exact ⟨by rw [e _ (by omega)]; exact h0, by rw [e _ (by omega)]; exact h1, h2⟩
theorem RelD_shape {n o lr lc rc a b c : Nat} {s : wF} (h : RelD n o lr lc rc s) (ha : 1 ≤ a ∧ a ≤ 6) (hb : 1 ≤ b ∧ b ≤ 6) (hc : 1 ≤ c ∧ c ≤ 6) : RelD n o a b c (shapeF a b c s) := by
  obtain ⟨h0, h1, h2, h3, h4, h5, -⟩ := h
  unfold shapeF
  refine ⟨?_, ?_, ?_, ?_, ?_, h5, ha.1, ha.2, hb.1, hb.2, hc.1, hc.2⟩
  · rw [clr_out (by omega), clr_out (by omega), upd_n (by decide), upd_n (by decide), upd_n (by decide), upd_n (by decide)]; exact h0
  · rw [clr_out (by omega), clr_out (by omega), upd_n (by decide), upd_n (by decide), upd_n (by decide), upd_s]
  · rw [clr_out (by omega), clr_out (by omega), upd_n (by decide), upd_n (by decide), upd_s]
  · rw [clr_out (by omega), clr_out (by omega), upd_n (by decide), upd_s]
  · rw [clr_out (by omega), clr_out (by omega), upd_n (by decide), upd_n (by decide), upd_n (by decide), upd_n (by decide)]; exact h4
theorem bgF_lo {ta tb : Nat} {s : wF} : ∀ j, j ≤ 4 → bgF ta tb s j = s j := fun j hj => bgF_e j (by omega) (Or.inl (by omega))
theorem bgF_E {n lr rc ta tb : Nat} {s : wF} (h1 : n * ta < lr) (h2 : n * tb < rc) : RelE n lr rc ta tb (bgF ta tb s) := ⟨bgF_6, bgF_7, h1, h2⟩
theorem tls_1 {len n : Nat} (hl : 1 ≤ len) (hn : 1 ≤ n) : 1 ≤ tls len n := by
  unfold tls
  exact (Nat.le_div_iff_mul_le (by omega)).mpr (by omega)

theorem kX7_side_c37 : Cond.constant RX7 37 (-1000001) ∈ wsX7_side := by decide +kernel
theorem kX7_side_f7 : Cond.fieldLink RX7 7 "SkewedSquareModel" "s" "[I" ∈ wsX7_side := by decide +kernel
theorem khX7_side_X7 : ∀ w ∈ u_ws RX7 TX7 16, w ∈ wsX7_side := by decide +kernel
set_option maxHeartbeats 4000000 in
set_option maxRecDepth 100000 in
/-- kX7_side -/
theorem kX7_side (l : Launch) (G : wG) (r : RA) (s P U : wF) (p : Nat) (X : wF) (y q0 : Nat) (q1 : Int32) (q2 : Nat) (q3 : Int32) (sp re : Nat) (B : wF) (wd hg ow : Nat) (n o lr lc rc : Nat) (b : Nat) (pst : PF) (v1 : Int32) (hD : RelD n o lr lc rc s) (hb : b ≤ 1 ∧ s 5 = nI b) (hp : p ≤ 4) (hQ : PQ pst P p) : CI (S := wF × wF × Nat) l yX7_side wsX7_side (rm 1 23) G [.ref r.1, .int v1] (wU G r (s, P, U, p, X, y, q0, q1, q2, q3, sp, re, B, wd, hg, ow)) (fun x u9 => QO x u9 (opSide n v1 s pst p)) (fun u9 => wU G r (u9.1, u9.2.1, U, u9.2.2, X, y, q0, q1, q2, q3, sp, re, B, wd, hg, ow)) := by
  refine CI.of (own := RX7) rfl (by decide) rfl (Nat.le_of_ble_eq_true rfl) ?_
  intro p9 e9 s9 m9 b9 t9 c9 A xE xB xM xO xT xK xP xD Q xQ xS ls hl
  have xL : lv_has ls 3 [(0, .ref r.1), (1, .int v1)] := hl
  obtain ⟨g0, g1, g2, g3, g4, ⟨hn1, hn2, hn3⟩, hm1, hm2, hm3, hm4, hm5, hm6⟩ := id hD
  have hb1 := hb.1
  refine lv_iload_n xE xB dX7_side_0 rfl (lv_at xL 1 rfl) ?_
  refine lv_iconst (v := nI 1) xE xB dX7_side_1 (by decide) ?_
  refine lv_iconst (v := nI 4) xE xB dX7_side_2 (by decide) ?_
  refine q_SR (As := [.int v1, .int (nI 1), .int (nI 4)]) (rest := []) ⟨xE, xB, xM, xO, xT⟩ (kX7_in l G v1 (nI 1) (nI 4)) (va_cwS 3 xT gX7_side_X7_in rfl rfl rfl (by decide +kernel) ⟨Nat.le_of_ble_eq_true rfl, Nat.le_of_ble_eq_true rfl⟩) xK xP [] rfl rfl xL.1 rfl (Nat.le_of_ble_eq_true rfl) dX7_side_3 ⟨Nat.le_refl _, Nat.le_refl _⟩ (fun r_3 h_3 => ?_)
  rcases h_3 with ⟨h_3, c_3⟩ | ⟨h_3, c_3⟩
  · skip
    subst h_3
    have c_3 : ((nI 1) : Int32).toInt ≤ v1.toInt ∧ v1.toInt ≤ ((nI 4) : Int32).toInt := c_3
    refine lv_if_ne (tgt := 12) xE xB dX7_side_6 (by decide) (fun _ => ?_) (fun h9 => absurd h9 (by decide))
    (try (first | replace c_3 := (in_R (by omega) (by omega)).mp c_3 | replace c_3 := mt (in_R (by omega) (by omega)).mpr c_3))
    have e_v1 : v1 = nI (tN v1) := tN_eq (by omega)
    have b_v1 : (tN v1 : Int) = v1.toInt := tN_z (by omega)
    rw [e_v1] at xL
    have xL : lv_has ls 3 [(0, .ref r.1), (1, .int (nI (tN v1)))] := xL
    refine lv_aload_n xE xB dX7_side_12 rfl (lv_at xL 0 rfl) ?_
    refine q_VV (As := []) (rest := []) ⟨xE, xB, xM, xO, xT⟩ (kX7_changes l G r s P U p X y q0 q1 q2 q3 sp re B wd hg ow (by omega)) (cwV 0 xT gX7_side_X7_changes rfl rfl rfl (by decide +kernel) ⟨Nat.le_of_ble_eq_true rfl, Nat.le_of_ble_eq_true rfl⟩) xK xP xD xS [0, 1, 2, 3, 4, 5] rfl (by decide +kernel) (fun _ => rfl) 0 rfl rfl rfl rfl xL.1 rfl (Nat.le_of_ble_eq_true rfl) dX7_side_13 ⟨Nat.le_refl _, Nat.le_refl _⟩ (fun u_13 H locs h_13 xP xD xS => ?_)
    have xP : va_P G.1 vwCl (wU G r (s, chgQ s P p, U, chgN p, X, y, q0, q1, q2, q3, sp, re, B, wd, hg, ow)) H := xP
    have xD : va_D A (wU G r (s, chgQ s P p, U, chgN p, X, y, q0, q1, q2, q3, sp, re, B, wd, hg, ow)) := xD
    refine lv_aload_n xE xB dX7_side_16 rfl (lv_at xL 0 rfl) ?_
    refine va_get (D := G.1) (ci := 7) (v := .ref r.2.1) (C := RX7) (T := TX7) (N := 16) xE xB xT khX7_side_X7 xO xK.1 xP 0 rfl rfl 0 (by decide) (xT _ kX7_side_f7) (fun _ h9 => h9) rfl dX7_side_17 ?_
    refine lv_iconst (v := nI 0) xE xB dX7_side_20 (by decide) ?_
    refine q_ald xE xB xK xP 1 rfl (by omega) (by decide) dX7_side_21 ?_
    refine q_eq (y := nI n) (congrArg (fun z => z) (g0)) ?_
    refine lv_istore_n (lv' := [(2, .int (nI n)), (0, .ref r.1), (1, .int (nI (tN v1)))]) xE xB dX7_side_22 rfl xL (by decide) rfl (fun ls xL => ?_)
    refine lv_aload_n xE xB dX7_side_23 rfl (lv_at xL 1 rfl) ?_
    refine va_get (D := G.1) (ci := 7) (v := .ref r.2.1) (C := RX7) (T := TX7) (N := 16) xE xB xT khX7_side_X7 xO xK.1 xP 0 rfl rfl 0 (by decide) (xT _ kX7_side_f7) (fun _ h9 => h9) rfl dX7_side_24 ?_
    refine lv_iconst (v := nI 0) xE xB dX7_side_27 (by decide) ?_
    refine lv_iload_n xE xB dX7_side_28 rfl (lv_at xL 2 rfl) ?_
    refine q_ast xE xB xK xP xD xS 1 rfl (by omega) (by decide) dX7_side_29 (fun H locs xP xD xS => ?_)
    have xP : va_P G.1 vwCl (wU G r (upd s 0 (nI (tN v1)), chgQ s P p, U, chgN p, X, y, q0, q1, q2, q3, sp, re, B, wd, hg, ow)) H := xP
    have xD : va_D A (wU G r (upd s 0 (nI (tN v1)), chgQ s P p, U, chgN p, X, y, q0, q1, q2, q3, sp, re, B, wd, hg, ow)) := xD
    refine lv_aload_n xE xB dX7_side_30 rfl (lv_at xL 1 rfl) ?_
    refine va_get (D := G.1) (ci := 7) (v := .ref r.2.1) (C := RX7) (T := TX7) (N := 16) xE xB xT khX7_side_X7 xO xK.1 xP 0 rfl rfl 0 (by decide) (xT _ kX7_side_f7) (fun _ h9 => h9) rfl dX7_side_31 ?_
    refine lv_iconst (v := nI 4) xE xB dX7_side_34 (by decide) ?_
    refine lv_iload_n xE xB dX7_side_35 rfl (lv_at xL 2 rfl) ?_
    refine q_ast xE xB xK xP xD xS 1 rfl (by omega) (by decide) dX7_side_36 (fun H locs xP xD xS => ?_)
    have xP : va_P G.1 vwCl (wU G r (upd (upd s 0 (nI (tN v1))) 4 (nI (tN v1)), chgQ s P p, U, chgN p, X, y, q0, q1, q2, q3, sp, re, B, wd, hg, ow)) H := xP
    have xD : va_D A (wU G r (upd (upd s 0 (nI (tN v1))) 4 (nI (tN v1)), chgQ s P p, U, chgN p, X, y, q0, q1, q2, q3, sp, re, B, wd, hg, ow)) := xD
    refine lv_aload_n xE xB dX7_side_37 rfl (lv_at xL 1 rfl) ?_
    refine va_get (D := G.1) (ci := 7) (v := .ref r.2.1) (C := RX7) (T := TX7) (N := 16) xE xB xT khX7_side_X7 xO xK.1 xP 0 rfl rfl 0 (by decide) (xT _ kX7_side_f7) (fun _ h9 => h9) rfl dX7_side_38 ?_
    refine lv_iconst (v := nI 5) xE xB dX7_side_41 (by decide) ?_
    refine lv_iconst (v := nI 0) xE xB dX7_side_42 (by decide) ?_
    refine q_ast xE xB xK xP xD xS 1 rfl (by omega) (by decide) dX7_side_43 (fun H locs xP xD xS => ?_)
    have xP : va_P G.1 vwCl (wU G r (upd (upd (upd s 0 (nI (tN v1))) 4 (nI (tN v1))) 5 (nI 0), chgQ s P p, U, chgN p, X, y, q0, q1, q2, q3, sp, re, B, wd, hg, ow)) H := xP
    have xD : va_D A (wU G r (upd (upd (upd s 0 (nI (tN v1))) 4 (nI (tN v1))) 5 (nI 0), chgQ s P p, U, chgN p, X, y, q0, q1, q2, q3, sp, re, B, wd, hg, ow)) := xD
    refine lv_aload_n xE xB dX7_side_44 rfl (lv_at xL 1 rfl) ?_
    refine lv_sipush (v := nI 153) xE xB dX7_side_45 (by decide) ?_
    refine lv_bipush (v := nI 20) xE xB dX7_side_48 (by decide) ?_
    refine q_VV (As := [.int (nI 153), .int (nI 20)]) (rest := []) ⟨xE, xB, xM, xO, xT⟩ (kX7_clears l G r (upd (upd (upd s 0 (nI (tN v1))) 4 (nI (tN v1))) 5 (nI 0)) (chgQ s P p) U (chgN p) X y q0 q1 q2 q3 sp re B wd hg ow 153 20 (by omega)) (cwV 2 xT gX7_side_X7_clears rfl rfl rfl (by decide +kernel) ⟨Nat.le_of_ble_eq_true rfl, Nat.le_of_ble_eq_true rfl⟩) xK xP xD xS [0, 1, 2, 3, 4, 5] rfl (by decide +kernel) (fun _ => rfl) 0 rfl rfl rfl rfl xL.1 rfl (Nat.le_of_ble_eq_true rfl) dX7_side_50 ⟨Nat.le_refl _, Nat.le_refl _⟩ (fun u_50 H locs h_50 xP xD xS => ?_)
    have xP : va_P G.1 vwCl (wU G r (clr 153 20 (upd (upd (upd s 0 (nI (tN v1))) 4 (nI (tN v1))) 5 (nI 0)), chgQ s P p, U, chgN p, X, y, q0, q1, q2, q3, sp, re, B, wd, hg, ow)) H := xP
    have xD : va_D A (wU G r (clr 153 20 (upd (upd (upd s 0 (nI (tN v1))) 4 (nI (tN v1))) 5 (nI 0)), chgQ s P p, U, chgN p, X, y, q0, q1, q2, q3, sp, re, B, wd, hg, ow)) := xD
    refine lv_aload_n xE xB dX7_side_53 rfl (lv_at xL 1 rfl) ?_
    refine lv_bipush (v := nI 117) xE xB dX7_side_54 (by decide) ?_
    refine lv_bipush (v := nI 36) xE xB dX7_side_56 (by decide) ?_
    refine q_VV (As := [.int (nI 117), .int (nI 36)]) (rest := []) ⟨xE, xB, xM, xO, xT⟩ (kX7_clears l G r (clr 153 20 (upd (upd (upd s 0 (nI (tN v1))) 4 (nI (tN v1))) 5 (nI 0))) (chgQ s P p) U (chgN p) X y q0 q1 q2 q3 sp re B wd hg ow 117 36 (by omega)) (cwV 2 xT gX7_side_X7_clears rfl rfl rfl (by decide +kernel) ⟨Nat.le_of_ble_eq_true rfl, Nat.le_of_ble_eq_true rfl⟩) xK xP xD xS [0, 1, 2, 3, 4, 5] rfl (by decide +kernel) (fun _ => rfl) 0 rfl rfl rfl rfl xL.1 rfl (Nat.le_of_ble_eq_true rfl) dX7_side_58 ⟨Nat.le_refl _, Nat.le_refl _⟩ (fun u_58 H locs h_58 xP xD xS => ?_)
    have xP : va_P G.1 vwCl (wU G r (clr 117 36 (clr 153 20 (upd (upd (upd s 0 (nI (tN v1))) 4 (nI (tN v1))) 5 (nI 0))), chgQ s P p, U, chgN p, X, y, q0, q1, q2, q3, sp, re, B, wd, hg, ow)) H := xP
    have xD : va_D A (wU G r (clr 117 36 (clr 153 20 (upd (upd (upd s 0 (nI (tN v1))) 4 (nI (tN v1))) 5 (nI 0))), chgQ s P p, U, chgN p, X, y, q0, q1, q2, q3, sp, re, B, wd, hg, ow)) := xD
    refine lv_iload_n xE xB dX7_side_61 rfl (lv_at xL 0 rfl) ?_
    exact xQ _ _ _ _ _ (clr 117 36 (clr 153 20 (upd (upd (upd s 0 (nI (tN v1))) 4 (nI (tN v1))) 5 (nI 0))), chgQ s P p, chgN p) (by rw [show opSide n v1 s pst p = (nI n, sideF (tN v1) s, chgP s pst p, chgN p) from if_pos (by omega)]; exact ⟨rfl, rfl, rfl, chgN_4 hp, PQ_chg hp hQ⟩) xP xD xS dX7_side_62
  · skip
    subst h_3
    have c_3 : ¬ (((nI 1) : Int32).toInt ≤ v1.toInt ∧ v1.toInt ≤ ((nI 4) : Int32).toInt) := c_3
    refine lv_if_ne (tgt := 12) xE xB dX7_side_6 (by decide) (fun h9 => absurd (by decide) h9) (fun _ => ?_)
    refine lv_ldc (v := (-1000001)) xE xB xO (xT _ kX7_side_c37) dX7_side_9 ?_
    exact xQ _ _ _ _ _ (s, P, p) (by (try (first | replace c_3 := (in_R (by omega) (by omega)).mp c_3 | replace c_3 := mt (in_R (by omega) (by omega)).mpr c_3)); rw [show opSide n v1 s pst p = (kINV, s, pst, p) from if_neg (by omega)]; exact ⟨rfl, rfl, rfl, hp, hQ⟩) xP xD xS dX7_side_11
theorem kX7_shape_c37 : Cond.constant RX7 37 (-1000001) ∈ wsX7_shape := by decide +kernel
theorem kX7_shape_f7 : Cond.fieldLink RX7 7 "SkewedSquareModel" "s" "[I" ∈ wsX7_shape := by decide +kernel
theorem khX7_shape_X7 : ∀ w ∈ u_ws RX7 TX7 16, w ∈ wsX7_shape := by decide +kernel
set_option maxHeartbeats 4000000 in
set_option maxRecDepth 100000 in
/-- kX7_shape -/
theorem kX7_shape (l : Launch) (G : wG) (r : RA) (s P U : wF) (p : Nat) (X : wF) (y q0 : Nat) (q1 : Int32) (q2 : Nat) (q3 : Int32) (sp re : Nat) (B : wF) (wd hg ow : Nat) (n o lr lc rc : Nat) (b : Nat) (pst : PF) (v1 v2 v3 : Int32) (hD : RelD n o lr lc rc s) (hb : b ≤ 1 ∧ s 5 = nI b) (hp : p ≤ 4) (hQ : PQ pst P p) : CI (S := wF × wF × Nat) l yX7_shape wsX7_shape (rm 2 41) G [.ref r.1, .int v1, .int v2, .int v3] (wU G r (s, P, U, p, X, y, q0, q1, q2, q3, sp, re, B, wd, hg, ow)) (fun x u9 => QO x u9 (opShape n v1 v2 v3 s pst p)) (fun u9 => wU G r (u9.1, u9.2.1, U, u9.2.2, X, y, q0, q1, q2, q3, sp, re, B, wd, hg, ow)) := by
  refine CI.of (own := RX7) rfl (by decide) rfl (Nat.le_of_ble_eq_true rfl) ?_
  intro p9 e9 s9 m9 b9 t9 c9 A xE xB xM xO xT xK xP xD Q xQ xS ls hl
  have xL : lv_has ls 4 [(0, .ref r.1), (1, .int v1), (2, .int v2), (3, .int v3)] := hl
  obtain ⟨g0, g1, g2, g3, g4, ⟨hn1, hn2, hn3⟩, hm1, hm2, hm3, hm4, hm5, hm6⟩ := id hD
  have hb1 := hb.1
  refine lv_iload_n xE xB dX7_shape_0 rfl (lv_at xL 1 rfl) ?_
  refine lv_iconst (v := nI 1) xE xB dX7_shape_1 (by decide) ?_
  refine lv_bipush (v := nI 6) xE xB dX7_shape_2 (by decide) ?_
  refine q_SR (As := [.int v1, .int (nI 1), .int (nI 6)]) (rest := []) ⟨xE, xB, xM, xO, xT⟩ (kX7_in l G v1 (nI 1) (nI 6)) (va_cwS 3 xT gX7_shape_X7_in rfl rfl rfl (by decide +kernel) ⟨Nat.le_of_ble_eq_true rfl, Nat.le_of_ble_eq_true rfl⟩) xK xP [] rfl rfl xL.1 rfl (Nat.le_of_ble_eq_true rfl) dX7_shape_4 ⟨Nat.le_refl _, Nat.le_refl _⟩ (fun r_4 h_4 => ?_)
  rcases h_4 with ⟨h_4, c_4⟩ | ⟨h_4, c_4⟩
  · skip
    subst h_4
    have c_4 : ((nI 1) : Int32).toInt ≤ v1.toInt ∧ v1.toInt ≤ ((nI 6) : Int32).toInt := c_4
    refine lv_if_eq (tgt := 30) xE xB dX7_shape_7 (by decide) (fun h9 => absurd h9 (by decide)) (fun _ => ?_)
    refine lv_iload_n xE xB dX7_shape_10 rfl (lv_at xL 2 rfl) ?_
    refine lv_iconst (v := nI 1) xE xB dX7_shape_11 (by decide) ?_
    refine lv_bipush (v := nI 6) xE xB dX7_shape_12 (by decide) ?_
    refine q_SR (As := [.int v2, .int (nI 1), .int (nI 6)]) (rest := []) ⟨xE, xB, xM, xO, xT⟩ (kX7_in l G v2 (nI 1) (nI 6)) (va_cwS 3 xT gX7_shape_X7_in rfl rfl rfl (by decide +kernel) ⟨Nat.le_of_ble_eq_true rfl, Nat.le_of_ble_eq_true rfl⟩) xK xP [] rfl rfl xL.1 rfl (Nat.le_of_ble_eq_true rfl) dX7_shape_14 ⟨Nat.le_refl _, Nat.le_refl _⟩ (fun r_14 h_14 => ?_)
    rcases h_14 with ⟨h_14, c_14⟩ | ⟨h_14, c_14⟩
    · skip
      subst h_14
      have c_14 : ((nI 1) : Int32).toInt ≤ v2.toInt ∧ v2.toInt ≤ ((nI 6) : Int32).toInt := c_14
      refine lv_if_eq (tgt := 30) xE xB dX7_shape_17 (by decide) (fun h9 => absurd h9 (by decide)) (fun _ => ?_)
      refine lv_iload_n xE xB dX7_shape_20 rfl (lv_at xL 3 rfl) ?_
      refine lv_iconst (v := nI 1) xE xB dX7_shape_21 (by decide) ?_
      refine lv_bipush (v := nI 6) xE xB dX7_shape_22 (by decide) ?_
      refine q_SR (As := [.int v3, .int (nI 1), .int (nI 6)]) (rest := []) ⟨xE, xB, xM, xO, xT⟩ (kX7_in l G v3 (nI 1) (nI 6)) (va_cwS 3 xT gX7_shape_X7_in rfl rfl rfl (by decide +kernel) ⟨Nat.le_of_ble_eq_true rfl, Nat.le_of_ble_eq_true rfl⟩) xK xP [] rfl rfl xL.1 rfl (Nat.le_of_ble_eq_true rfl) dX7_shape_24 ⟨Nat.le_refl _, Nat.le_refl _⟩ (fun r_24 h_24 => ?_)
      rcases h_24 with ⟨h_24, c_24⟩ | ⟨h_24, c_24⟩
      · skip
        subst h_24
        have c_24 : ((nI 1) : Int32).toInt ≤ v3.toInt ∧ v3.toInt ≤ ((nI 6) : Int32).toInt := c_24
        refine lv_if_ne (tgt := 33) xE xB dX7_shape_27 (by decide) (fun _ => ?_) (fun h9 => absurd h9 (by decide))
        (try (first | replace c_4 := (in_R (by omega) (by omega)).mp c_4 | replace c_4 := mt (in_R (by omega) (by omega)).mpr c_4)); (try (first | replace c_14 := (in_R (by omega) (by omega)).mp c_14 | replace c_14 := mt (in_R (by omega) (by omega)).mpr c_14)); (try (first | replace c_24 := (in_R (by omega) (by omega)).mp c_24 | replace c_24 := mt (in_R (by omega) (by omega)).mpr c_24))
        have e_v1 : v1 = nI (tN v1) := tN_eq (by omega)
        have b_v1 : (tN v1 : Int) = v1.toInt := tN_z (by omega)
        rw [e_v1] at xL
        have xL : lv_has ls 4 [(0, .ref r.1), (1, .int (nI (tN v1))), (2, .int v2), (3, .int v3)] := xL
        have e_v2 : v2 = nI (tN v2) := tN_eq (by omega)
        have b_v2 : (tN v2 : Int) = v2.toInt := tN_z (by omega)
        rw [e_v2] at xL
        have xL : lv_has ls 4 [(0, .ref r.1), (1, .int (nI (tN v1))), (2, .int (nI (tN v2))), (3, .int v3)] := xL
        have e_v3 : v3 = nI (tN v3) := tN_eq (by omega)
        have b_v3 : (tN v3 : Int) = v3.toInt := tN_z (by omega)
        rw [e_v3] at xL
        have xL : lv_has ls 4 [(0, .ref r.1), (1, .int (nI (tN v1))), (2, .int (nI (tN v2))), (3, .int (nI (tN v3)))] := xL
        have hD2 : RelD n o (tN v1) (tN v2) (tN v3) (shapeF (tN v1) (tN v2) (tN v3) s) := RelD_shape hD (by omega) (by omega) (by omega)
        refine lv_aload_n xE xB dX7_shape_33 rfl (lv_at xL 0 rfl) ?_
        refine q_VV (As := []) (rest := []) ⟨xE, xB, xM, xO, xT⟩ (kX7_changes l G r s P U p X y q0 q1 q2 q3 sp re B wd hg ow (by omega)) (cwV 0 xT gX7_shape_X7_changes rfl rfl rfl (by decide +kernel) ⟨Nat.le_of_ble_eq_true rfl, Nat.le_of_ble_eq_true rfl⟩) xK xP xD xS [0, 1, 2, 3, 4, 5] rfl (by decide +kernel) (fun _ => rfl) 0 rfl rfl rfl rfl xL.1 rfl (Nat.le_of_ble_eq_true rfl) dX7_shape_34 ⟨Nat.le_refl _, Nat.le_refl _⟩ (fun u_34 H locs h_34 xP xD xS => ?_)
        have xP : va_P G.1 vwCl (wU G r (s, chgQ s P p, U, chgN p, X, y, q0, q1, q2, q3, sp, re, B, wd, hg, ow)) H := xP
        have xD : va_D A (wU G r (s, chgQ s P p, U, chgN p, X, y, q0, q1, q2, q3, sp, re, B, wd, hg, ow)) := xD
        refine lv_aload_n xE xB dX7_shape_37 rfl (lv_at xL 0 rfl) ?_
        refine va_get (D := G.1) (ci := 7) (v := .ref r.2.1) (C := RX7) (T := TX7) (N := 16) xE xB xT khX7_shape_X7 xO xK.1 xP 0 rfl rfl 0 (by decide) (xT _ kX7_shape_f7) (fun _ h9 => h9) rfl dX7_shape_38 ?_
        refine lv_iconst (v := nI 1) xE xB dX7_shape_41 (by decide) ?_
        refine lv_iload_n xE xB dX7_shape_42 rfl (lv_at xL 1 rfl) ?_
        refine q_ast xE xB xK xP xD xS 1 rfl (by omega) (by decide) dX7_shape_43 (fun H locs xP xD xS => ?_)
        have xP : va_P G.1 vwCl (wU G r (upd s 1 (nI (tN v1)), chgQ s P p, U, chgN p, X, y, q0, q1, q2, q3, sp, re, B, wd, hg, ow)) H := xP
        have xD : va_D A (wU G r (upd s 1 (nI (tN v1)), chgQ s P p, U, chgN p, X, y, q0, q1, q2, q3, sp, re, B, wd, hg, ow)) := xD
        obtain ⟨z1, ez1⟩ : ∃ z : wF, z = upd s 1 (nI (tN v1)) := ⟨_, rfl⟩
        rw [← ez1] at xP xD
        have xP : va_P G.1 vwCl (wU G r (z1, chgQ s P p, U, chgN p, X, y, q0, q1, q2, q3, sp, re, B, wd, hg, ow)) H := xP
        have xD : va_D A (wU G r (z1, chgQ s P p, U, chgN p, X, y, q0, q1, q2, q3, sp, re, B, wd, hg, ow)) := xD
        refine lv_aload_n xE xB dX7_shape_44 rfl (lv_at xL 0 rfl) ?_
        refine va_get (D := G.1) (ci := 7) (v := .ref r.2.1) (C := RX7) (T := TX7) (N := 16) xE xB xT khX7_shape_X7 xO xK.1 xP 0 rfl rfl 0 (by decide) (xT _ kX7_shape_f7) (fun _ h9 => h9) rfl dX7_shape_45 ?_
        refine lv_iconst (v := nI 2) xE xB dX7_shape_48 (by decide) ?_
        refine lv_iload_n xE xB dX7_shape_49 rfl (lv_at xL 2 rfl) ?_
        refine q_ast xE xB xK xP xD xS 1 rfl (by omega) (by decide) dX7_shape_50 (fun H locs xP xD xS => ?_)
        have xP : va_P G.1 vwCl (wU G r (upd z1 2 (nI (tN v2)), chgQ s P p, U, chgN p, X, y, q0, q1, q2, q3, sp, re, B, wd, hg, ow)) H := xP
        have xD : va_D A (wU G r (upd z1 2 (nI (tN v2)), chgQ s P p, U, chgN p, X, y, q0, q1, q2, q3, sp, re, B, wd, hg, ow)) := xD
        obtain ⟨z2, ez2⟩ : ∃ z : wF, z = upd z1 2 (nI (tN v2)) := ⟨_, rfl⟩
        rw [← ez2] at xP xD
        have xP : va_P G.1 vwCl (wU G r (z2, chgQ s P p, U, chgN p, X, y, q0, q1, q2, q3, sp, re, B, wd, hg, ow)) H := xP
        have xD : va_D A (wU G r (z2, chgQ s P p, U, chgN p, X, y, q0, q1, q2, q3, sp, re, B, wd, hg, ow)) := xD
        refine lv_aload_n xE xB dX7_shape_51 rfl (lv_at xL 0 rfl) ?_
        refine va_get (D := G.1) (ci := 7) (v := .ref r.2.1) (C := RX7) (T := TX7) (N := 16) xE xB xT khX7_shape_X7 xO xK.1 xP 0 rfl rfl 0 (by decide) (xT _ kX7_shape_f7) (fun _ h9 => h9) rfl dX7_shape_52 ?_
        refine lv_iconst (v := nI 3) xE xB dX7_shape_55 (by decide) ?_
        refine lv_iload_n xE xB dX7_shape_56 rfl (lv_at xL 3 rfl) ?_
        refine q_ast xE xB xK xP xD xS 1 rfl (by omega) (by decide) dX7_shape_57 (fun H locs xP xD xS => ?_)
        have xP : va_P G.1 vwCl (wU G r (upd z2 3 (nI (tN v3)), chgQ s P p, U, chgN p, X, y, q0, q1, q2, q3, sp, re, B, wd, hg, ow)) H := xP
        have xD : va_D A (wU G r (upd z2 3 (nI (tN v3)), chgQ s P p, U, chgN p, X, y, q0, q1, q2, q3, sp, re, B, wd, hg, ow)) := xD
        obtain ⟨z3, ez3⟩ : ∃ z : wF, z = upd z2 3 (nI (tN v3)) := ⟨_, rfl⟩
        rw [← ez3] at xP xD
        have xP : va_P G.1 vwCl (wU G r (z3, chgQ s P p, U, chgN p, X, y, q0, q1, q2, q3, sp, re, B, wd, hg, ow)) H := xP
        have xD : va_D A (wU G r (z3, chgQ s P p, U, chgN p, X, y, q0, q1, q2, q3, sp, re, B, wd, hg, ow)) := xD
        refine lv_aload_n xE xB dX7_shape_58 rfl (lv_at xL 0 rfl) ?_
        refine va_get (D := G.1) (ci := 7) (v := .ref r.2.1) (C := RX7) (T := TX7) (N := 16) xE xB xT khX7_shape_X7 xO xK.1 xP 0 rfl rfl 0 (by decide) (xT _ kX7_shape_f7) (fun _ h9 => h9) rfl dX7_shape_59 ?_
        refine lv_iconst (v := nI 5) xE xB dX7_shape_62 (by decide) ?_
        refine lv_iconst (v := nI 0) xE xB dX7_shape_63 (by decide) ?_
        refine q_ast xE xB xK xP xD xS 1 rfl (by omega) (by decide) dX7_shape_64 (fun H locs xP xD xS => ?_)
        have xP : va_P G.1 vwCl (wU G r (upd z3 5 (nI 0), chgQ s P p, U, chgN p, X, y, q0, q1, q2, q3, sp, re, B, wd, hg, ow)) H := xP
        have xD : va_D A (wU G r (upd z3 5 (nI 0), chgQ s P p, U, chgN p, X, y, q0, q1, q2, q3, sp, re, B, wd, hg, ow)) := xD
        obtain ⟨z4, ez4⟩ : ∃ z : wF, z = upd z3 5 (nI 0) := ⟨_, rfl⟩
        rw [← ez4] at xP xD
        have xP : va_P G.1 vwCl (wU G r (z4, chgQ s P p, U, chgN p, X, y, q0, q1, q2, q3, sp, re, B, wd, hg, ow)) H := xP
        have xD : va_D A (wU G r (z4, chgQ s P p, U, chgN p, X, y, q0, q1, q2, q3, sp, re, B, wd, hg, ow)) := xD
        refine lv_aload_n xE xB dX7_shape_65 rfl (lv_at xL 0 rfl) ?_
        refine lv_bipush (v := nI 9) xE xB dX7_shape_66 (by decide) ?_
        refine lv_bipush (v := nI 72) xE xB dX7_shape_68 (by decide) ?_
        refine q_VV (As := [.int (nI 9), .int (nI 72)]) (rest := []) ⟨xE, xB, xM, xO, xT⟩ (kX7_clears l G r z4 (chgQ s P p) U (chgN p) X y q0 q1 q2 q3 sp re B wd hg ow 9 72 (by omega)) (cwV 2 xT gX7_shape_X7_clears rfl rfl rfl (by decide +kernel) ⟨Nat.le_of_ble_eq_true rfl, Nat.le_of_ble_eq_true rfl⟩) xK xP xD xS [0, 1, 2, 3, 4, 5] rfl (by decide +kernel) (fun _ => rfl) 0 rfl rfl rfl rfl xL.1 rfl (Nat.le_of_ble_eq_true rfl) dX7_shape_70 ⟨Nat.le_refl _, Nat.le_refl _⟩ (fun u_70 H locs h_70 xP xD xS => ?_)
        have xP : va_P G.1 vwCl (wU G r (clr 9 72 z4, chgQ s P p, U, chgN p, X, y, q0, q1, q2, q3, sp, re, B, wd, hg, ow)) H := xP
        have xD : va_D A (wU G r (clr 9 72 z4, chgQ s P p, U, chgN p, X, y, q0, q1, q2, q3, sp, re, B, wd, hg, ow)) := xD
        obtain ⟨z5, ez5⟩ : ∃ z : wF, z = clr 9 72 z4 := ⟨_, rfl⟩
        rw [← ez5] at xP xD
        have xP : va_P G.1 vwCl (wU G r (z5, chgQ s P p, U, chgN p, X, y, q0, q1, q2, q3, sp, re, B, wd, hg, ow)) H := xP
        have xD : va_D A (wU G r (z5, chgQ s P p, U, chgN p, X, y, q0, q1, q2, q3, sp, re, B, wd, hg, ow)) := xD
        refine lv_aload_n xE xB dX7_shape_73 rfl (lv_at xL 0 rfl) ?_
        refine lv_bipush (v := nI 117) xE xB dX7_shape_74 (by decide) ?_
        refine lv_bipush (v := nI 36) xE xB dX7_shape_76 (by decide) ?_
        refine q_VV (As := [.int (nI 117), .int (nI 36)]) (rest := []) ⟨xE, xB, xM, xO, xT⟩ (kX7_clears l G r z5 (chgQ s P p) U (chgN p) X y q0 q1 q2 q3 sp re B wd hg ow 117 36 (by omega)) (cwV 2 xT gX7_shape_X7_clears rfl rfl rfl (by decide +kernel) ⟨Nat.le_of_ble_eq_true rfl, Nat.le_of_ble_eq_true rfl⟩) xK xP xD xS [0, 1, 2, 3, 4, 5] rfl (by decide +kernel) (fun _ => rfl) 0 rfl rfl rfl rfl xL.1 rfl (Nat.le_of_ble_eq_true rfl) dX7_shape_78 ⟨Nat.le_refl _, Nat.le_refl _⟩ (fun u_78 H locs h_78 xP xD xS => ?_)
        have xP : va_P G.1 vwCl (wU G r (clr 117 36 z5, chgQ s P p, U, chgN p, X, y, q0, q1, q2, q3, sp, re, B, wd, hg, ow)) H := xP
        have xD : va_D A (wU G r (clr 117 36 z5, chgQ s P p, U, chgN p, X, y, q0, q1, q2, q3, sp, re, B, wd, hg, ow)) := xD
        obtain ⟨z6, ez6⟩ : ∃ z : wF, z = clr 117 36 z5 := ⟨_, rfl⟩
        rw [← ez6] at xP xD
        have xP : va_P G.1 vwCl (wU G r (z6, chgQ s P p, U, chgN p, X, y, q0, q1, q2, q3, sp, re, B, wd, hg, ow)) H := xP
        have xD : va_D A (wU G r (z6, chgQ s P p, U, chgN p, X, y, q0, q1, q2, q3, sp, re, B, wd, hg, ow)) := xD
        have ez7 : z6 = shapeF (tN v1) (tN v2) (tN v3) s := (by rw [ez6, ez5, ez4, ez3, ez2, ez1]; rfl)
        rw [ez7] at xP xD
        have xP : va_P G.1 vwCl (wU G r (shapeF (tN v1) (tN v2) (tN v3) s, chgQ s P p, U, chgN p, X, y, q0, q1, q2, q3, sp, re, B, wd, hg, ow)) H := xP
        have xD : va_D A (wU G r (shapeF (tN v1) (tN v2) (tN v3) s, chgQ s P p, U, chgN p, X, y, q0, q1, q2, q3, sp, re, B, wd, hg, ow)) := xD
        refine lv_aload_n xE xB dX7_shape_81 rfl (lv_at xL 0 rfl) ?_
        refine q_VR (As := []) (rest := []) ⟨xE, xB, xM, xO, xT⟩ (kX7_tiles l G r (shapeF (tN v1) (tN v2) (tN v3) s) (chgQ s P p) U (chgN p) X y q0 q1 q2 q3 sp re B wd hg ow n o (tN v1) (tN v2) (tN v3) (by exact hD2)) (cwV 0 xT gX7_shape_X7_tiles rfl rfl rfl (by decide +kernel) ⟨Nat.le_of_ble_eq_true rfl, Nat.le_of_ble_eq_true rfl⟩) xK xP [0, 1, 2, 3, 4, 5] rfl 0 rfl rfl rfl rfl xL.1 rfl (Nat.le_of_ble_eq_true rfl) dX7_shape_82 ⟨Nat.le_refl _, Nat.le_refl _⟩ (fun r_82 h_82 => ?_)
        obtain rfl : r_82 = nI (tls (tN v1) n * tls (tN v3) n) := h_82
        exact xQ _ _ _ _ _ (shapeF (tN v1) (tN v2) (tN v3) s, chgQ s P p, chgN p) (by rw [show opShape n v1 v2 v3 s pst p = (nI (tls (tN v1) n * tls (tN v3) n), shapeF (tN v1) (tN v2) (tN v3) s, chgP s pst p, chgN p) from if_pos (by omega)]; exact ⟨rfl, rfl, rfl, chgN_4 hp, PQ_chg hp hQ⟩) xP xD xS dX7_shape_85
      · skip
        subst h_24
        have c_24 : ¬ (((nI 1) : Int32).toInt ≤ v3.toInt ∧ v3.toInt ≤ ((nI 6) : Int32).toInt) := c_24
        refine lv_if_ne (tgt := 33) xE xB dX7_shape_27 (by decide) (fun h9 => absurd (by decide) h9) (fun _ => ?_)
        refine lv_ldc (v := (-1000001)) xE xB xO (xT _ kX7_shape_c37) dX7_shape_30 ?_
        exact xQ _ _ _ _ _ (s, P, p) (by (try (first | replace c_4 := (in_R (by omega) (by omega)).mp c_4 | replace c_4 := mt (in_R (by omega) (by omega)).mpr c_4)); (try (first | replace c_14 := (in_R (by omega) (by omega)).mp c_14 | replace c_14 := mt (in_R (by omega) (by omega)).mpr c_14)); (try (first | replace c_24 := (in_R (by omega) (by omega)).mp c_24 | replace c_24 := mt (in_R (by omega) (by omega)).mpr c_24)); rw [show opShape n v1 v2 v3 s pst p = (kINV, s, pst, p) from if_neg (by omega)]; exact ⟨rfl, rfl, rfl, hp, hQ⟩) xP xD xS dX7_shape_32
    · skip
      subst h_14
      have c_14 : ¬ (((nI 1) : Int32).toInt ≤ v2.toInt ∧ v2.toInt ≤ ((nI 6) : Int32).toInt) := c_14
      refine lv_if_eq (tgt := 30) xE xB dX7_shape_17 (by decide) (fun _ => ?_) (fun h9 => absurd (by decide) h9)
      refine lv_ldc (v := (-1000001)) xE xB xO (xT _ kX7_shape_c37) dX7_shape_30 ?_
      exact xQ _ _ _ _ _ (s, P, p) (by (try (first | replace c_4 := (in_R (by omega) (by omega)).mp c_4 | replace c_4 := mt (in_R (by omega) (by omega)).mpr c_4)); (try (first | replace c_14 := (in_R (by omega) (by omega)).mp c_14 | replace c_14 := mt (in_R (by omega) (by omega)).mpr c_14)); (try (first | replace c_24 := (in_R (by omega) (by omega)).mp c_24 | replace c_24 := mt (in_R (by omega) (by omega)).mpr c_24)); rw [show opShape n v1 v2 v3 s pst p = (kINV, s, pst, p) from if_neg (by omega)]; exact ⟨rfl, rfl, rfl, hp, hQ⟩) xP xD xS dX7_shape_32
  · skip
    subst h_4
    have c_4 : ¬ (((nI 1) : Int32).toInt ≤ v1.toInt ∧ v1.toInt ≤ ((nI 6) : Int32).toInt) := c_4
    refine lv_if_eq (tgt := 30) xE xB dX7_shape_7 (by decide) (fun _ => ?_) (fun h9 => absurd (by decide) h9)
    refine lv_ldc (v := (-1000001)) xE xB xO (xT _ kX7_shape_c37) dX7_shape_30 ?_
    exact xQ _ _ _ _ _ (s, P, p) (by (try (first | replace c_4 := (in_R (by omega) (by omega)).mp c_4 | replace c_4 := mt (in_R (by omega) (by omega)).mpr c_4)); (try (first | replace c_14 := (in_R (by omega) (by omega)).mp c_14 | replace c_14 := mt (in_R (by omega) (by omega)).mpr c_14)); (try (first | replace c_24 := (in_R (by omega) (by omega)).mp c_24 | replace c_24 := mt (in_R (by omega) (by omega)).mpr c_24)); rw [show opShape n v1 v2 v3 s pst p = (kINV, s, pst, p) from if_neg (by omega)]; exact ⟨rfl, rfl, rfl, hp, hQ⟩) xP xD xS dX7_shape_32
set_option maxHeartbeats 4000000 in
set_option maxRecDepth 100000 in
/-- kX7_isEntry -/
theorem kX7_isEntry (l : Launch) (G : wG) (r : RA) (s P U : wF) (p : Nat) (X : wF) (y q0 : Nat) (q1 : Int32) (q2 : Nat) (q3 : Int32) (sp re : Nat) (B : wF) (wd hg ow : Nat) (n o lr lc rc : Nat) (v0 v1 v2 : Int32) (hD : RelD n o lr lc rc s) : CR l yX7_isEntry wsX7_isEntry (rm 1 22) G [.ref r.1, .int v0, .int v1, .int v2] (wU G r (s, P, U, p, X, y, q0, q1, q2, q3, sp, re, B, wd, hg, ow)) (fun x => (x = nI 1 ∧ ((v0.toInt = 0 ∧ (0 ≤ v1.toInt ∧ v1.toInt < lr) ∧ 0 ≤ v2.toInt ∧ v2.toInt < lc) ∨ (v0.toInt = 1 ∧ (0 ≤ v1.toInt ∧ v1.toInt < lc) ∧ 0 ≤ v2.toInt ∧ v2.toInt < rc))) ∨ (x = nI 0 ∧ ¬ ((v0.toInt = 0 ∧ (0 ≤ v1.toInt ∧ v1.toInt < lr) ∧ 0 ≤ v2.toInt ∧ v2.toInt < lc) ∨ (v0.toInt = 1 ∧ (0 ≤ v1.toInt ∧ v1.toInt < lc) ∧ 0 ≤ v2.toInt ∧ v2.toInt < rc)))) := by
  refine CR.ofZ (own := RX7) rfl (by decide) rfl (Nat.le_of_ble_eq_true rfl) ?_
  intro p9 e9 s9 m9 b9 t9 c9 xE xB xM xO xT xK xP Q xQ ls hl
  have xL : lv_has ls 4 [(0, .ref r.1), (1, .int v0), (2, .int v1), (3, .int v2)] := hl
  obtain ⟨g0, g1, g2, g3, g4, ⟨hn1, hn2, hn3⟩, hm1, hm2, hm3, hm4, hm5, hm6⟩ := id hD
  refine lv_iload_n xE xB dX7_isEntry_0 rfl (lv_at xL 1 rfl) ?_
  refine lv_iconst (v := nI 0) xE xB dX7_isEntry_1 (by decide) ?_
  refine lv_iconst (v := nI 1) xE xB dX7_isEntry_2 (by decide) ?_
  refine q_SR (As := [.int v0, .int (nI 0), .int (nI 1)]) (rest := []) ⟨xE, xB, xM, xO, xT⟩ (kX7_in l G v0 (nI 0) (nI 1)) (va_cwS 3 xT gX7_isEntry_X7_in rfl rfl rfl (by decide +kernel) ⟨Nat.le_of_ble_eq_true rfl, Nat.le_of_ble_eq_true rfl⟩) xK xP [] rfl rfl xL.1 rfl (Nat.le_of_ble_eq_true rfl) dX7_isEntry_3 ⟨Nat.le_refl _, Nat.le_refl _⟩ (fun r_3 h_3 => ?_)
  rcases h_3 with ⟨h_3, c_3⟩ | ⟨h_3, c_3⟩
  · skip
    subst h_3
    have c_3 : ((nI 0) : Int32).toInt ≤ v0.toInt ∧ v0.toInt ≤ ((nI 1) : Int32).toInt := c_3
    refine lv_if_eq (tgt := 43) xE xB dX7_isEntry_6 (by decide) (fun h9 => absurd h9 (by decide)) (fun _ => ?_)
    (try (first | replace c_3 := (in_R (by omega) (by omega)).mp c_3 | replace c_3 := mt (in_R (by omega) (by omega)).mpr c_3))
    have e_v0 : v0 = nI (tN v0) := tN_eq (by omega)
    have b_v0 : (tN v0 : Int) = v0.toInt := tN_z (by omega)
    rw [e_v0] at xL
    have xL : lv_has ls 4 [(0, .ref r.1), (1, .int (nI (tN v0))), (2, .int v1), (3, .int v2)] := xL
    have hif : (tN v0 = 0 ∧ (if tN v0 = 0 then lr else lc) = lr ∧ (if tN v0 = 0 then lc else rc) = lc) ∨ (tN v0 = 1 ∧ (if tN v0 = 0 then lr else lc) = lc ∧ (if tN v0 = 0 then lc else rc) = rc) := (by rcases (show tN v0 = 0 ∨ tN v0 = 1 by omega) with z | z <;> simp [z])
    refine lv_iload_n xE xB dX7_isEntry_9 rfl (lv_at xL 2 rfl) ?_
    refine lv_iconst (v := nI 0) xE xB dX7_isEntry_10 (by decide) ?_
    refine lv_aload_n xE xB dX7_isEntry_11 rfl (lv_at xL 0 rfl) ?_
    refine lv_iload_n xE xB dX7_isEntry_12 rfl (lv_at xL 1 rfl) ?_
    refine q_VR (As := [.int (nI (tN v0))]) (rest := [.int (nI 0), .int v1]) ⟨xE, xB, xM, xO, xT⟩ (kX7_rowsOf l G r s P U p X y q0 q1 q2 q3 sp re B wd hg ow n o lr lc rc (tN v0) (by exact hD) (by omega)) (cwV 1 xT gX7_isEntry_X7_rowsOf rfl rfl rfl (by decide +kernel) ⟨Nat.le_of_ble_eq_true rfl, Nat.le_of_ble_eq_true rfl⟩) xK xP [0, 1, 2, 3, 4, 5] rfl 0 rfl rfl rfl rfl xL.1 rfl (Nat.le_of_ble_eq_true rfl) dX7_isEntry_13 ⟨Nat.le_refl _, Nat.le_refl _⟩ (fun r_13 h_13 => ?_)
    obtain rfl : r_13 = nI (if (tN v0) = 0 then lr else lc) := h_13
    refine lv_iconst (v := nI 1) xE xB dX7_isEntry_16 (by decide) ?_
    refine q_isub xE xB dX7_isEntry_17 (by omega) ?_
    refine q_SR (As := [.int v1, .int (nI 0), .int (nI ((if (tN v0) = 0 then lr else lc) - 1))]) (rest := []) ⟨xE, xB, xM, xO, xT⟩ (kX7_in l G v1 (nI 0) (nI ((if (tN v0) = 0 then lr else lc) - 1))) (va_cwS 3 xT gX7_isEntry_X7_in rfl rfl rfl (by decide +kernel) ⟨Nat.le_of_ble_eq_true rfl, Nat.le_of_ble_eq_true rfl⟩) xK xP [] rfl rfl xL.1 rfl (Nat.le_of_ble_eq_true rfl) dX7_isEntry_18 ⟨Nat.le_refl _, Nat.le_refl _⟩ (fun r_18 h_18 => ?_)
    rcases h_18 with ⟨h_18, c_18⟩ | ⟨h_18, c_18⟩
    · skip
      subst h_18
      have c_18 : ((nI 0) : Int32).toInt ≤ v1.toInt ∧ v1.toInt ≤ ((nI ((if (tN v0) = 0 then lr else lc) - 1)) : Int32).toInt := c_18
      refine lv_if_eq (tgt := 43) xE xB dX7_isEntry_21 (by decide) (fun h9 => absurd h9 (by decide)) (fun _ => ?_)
      refine lv_iload_n xE xB dX7_isEntry_24 rfl (lv_at xL 3 rfl) ?_
      refine lv_iconst (v := nI 0) xE xB dX7_isEntry_25 (by decide) ?_
      refine lv_aload_n xE xB dX7_isEntry_26 rfl (lv_at xL 0 rfl) ?_
      refine lv_iload_n xE xB dX7_isEntry_27 rfl (lv_at xL 1 rfl) ?_
      refine q_VR (As := [.int (nI (tN v0))]) (rest := [.int (nI 0), .int v2]) ⟨xE, xB, xM, xO, xT⟩ (kX7_columnsOf l G r s P U p X y q0 q1 q2 q3 sp re B wd hg ow n o lr lc rc (tN v0) (by exact hD) (by omega)) (cwV 1 xT gX7_isEntry_X7_columnsOf rfl rfl rfl (by decide +kernel) ⟨Nat.le_of_ble_eq_true rfl, Nat.le_of_ble_eq_true rfl⟩) xK xP [0, 1, 2, 3, 4, 5] rfl 0 rfl rfl rfl rfl xL.1 rfl (Nat.le_of_ble_eq_true rfl) dX7_isEntry_28 ⟨Nat.le_refl _, Nat.le_refl _⟩ (fun r_28 h_28 => ?_)
      obtain rfl : r_28 = nI (if (tN v0) = 0 then lc else rc) := h_28
      refine lv_iconst (v := nI 1) xE xB dX7_isEntry_31 (by decide) ?_
      refine q_isub xE xB dX7_isEntry_32 (by omega) ?_
      refine q_SR (As := [.int v2, .int (nI 0), .int (nI ((if (tN v0) = 0 then lc else rc) - 1))]) (rest := []) ⟨xE, xB, xM, xO, xT⟩ (kX7_in l G v2 (nI 0) (nI ((if (tN v0) = 0 then lc else rc) - 1))) (va_cwS 3 xT gX7_isEntry_X7_in rfl rfl rfl (by decide +kernel) ⟨Nat.le_of_ble_eq_true rfl, Nat.le_of_ble_eq_true rfl⟩) xK xP [] rfl rfl xL.1 rfl (Nat.le_of_ble_eq_true rfl) dX7_isEntry_33 ⟨Nat.le_refl _, Nat.le_refl _⟩ (fun r_33 h_33 => ?_)
      rcases h_33 with ⟨h_33, c_33⟩ | ⟨h_33, c_33⟩
      · skip
        subst h_33
        have c_33 : ((nI 0) : Int32).toInt ≤ v2.toInt ∧ v2.toInt ≤ ((nI ((if (tN v0) = 0 then lc else rc) - 1)) : Int32).toInt := c_33
        refine lv_if_eq (tgt := 43) xE xB dX7_isEntry_36 (by decide) (fun h9 => absurd h9 (by decide)) (fun _ => ?_)
        refine lv_iconst (v := nI 1) xE xB dX7_isEntry_39 (by decide) ?_
        refine lv_goto (tgt := 44) xE xB dX7_isEntry_40 (by decide) ?_
        exact xQ _ _ _ (Or.inl ⟨rfl, by (try (first | replace c_3 := (in_R (by omega) (by omega)).mp c_3 | replace c_3 := mt (in_R (by omega) (by omega)).mpr c_3)); (try (first | replace c_18 := (in_R (by omega) (by omega)).mp c_18 | replace c_18 := mt (in_R (by omega) (by omega)).mpr c_18)); (try (first | replace c_33 := (in_R (by omega) (by omega)).mp c_33 | replace c_33 := mt (in_R (by omega) (by omega)).mpr c_33)); omega⟩) (by decide) dX7_isEntry_44
      · skip
        subst h_33
        have c_33 : ¬ (((nI 0) : Int32).toInt ≤ v2.toInt ∧ v2.toInt ≤ ((nI ((if (tN v0) = 0 then lc else rc) - 1)) : Int32).toInt) := c_33
        refine lv_if_eq (tgt := 43) xE xB dX7_isEntry_36 (by decide) (fun _ => ?_) (fun h9 => absurd (by decide) h9)
        refine lv_iconst (v := nI 0) xE xB dX7_isEntry_43 (by decide) ?_
        exact xQ _ _ _ (Or.inr ⟨rfl, by (try (first | replace c_3 := (in_R (by omega) (by omega)).mp c_3 | replace c_3 := mt (in_R (by omega) (by omega)).mpr c_3)); (try (first | replace c_18 := (in_R (by omega) (by omega)).mp c_18 | replace c_18 := mt (in_R (by omega) (by omega)).mpr c_18)); (try (first | replace c_33 := (in_R (by omega) (by omega)).mp c_33 | replace c_33 := mt (in_R (by omega) (by omega)).mpr c_33)); omega⟩) (by decide) dX7_isEntry_44
    · skip
      subst h_18
      have c_18 : ¬ (((nI 0) : Int32).toInt ≤ v1.toInt ∧ v1.toInt ≤ ((nI ((if (tN v0) = 0 then lr else lc) - 1)) : Int32).toInt) := c_18
      refine lv_if_eq (tgt := 43) xE xB dX7_isEntry_21 (by decide) (fun _ => ?_) (fun h9 => absurd (by decide) h9)
      refine lv_iconst (v := nI 0) xE xB dX7_isEntry_43 (by decide) ?_
      exact xQ _ _ _ (Or.inr ⟨rfl, by (try (first | replace c_3 := (in_R (by omega) (by omega)).mp c_3 | replace c_3 := mt (in_R (by omega) (by omega)).mpr c_3)); (try (first | replace c_18 := (in_R (by omega) (by omega)).mp c_18 | replace c_18 := mt (in_R (by omega) (by omega)).mpr c_18)); (try (first | replace c_33 := (in_R (by omega) (by omega)).mp c_33 | replace c_33 := mt (in_R (by omega) (by omega)).mpr c_33)); omega⟩) (by decide) dX7_isEntry_44
  · skip
    subst h_3
    have c_3 : ¬ (((nI 0) : Int32).toInt ≤ v0.toInt ∧ v0.toInt ≤ ((nI 1) : Int32).toInt) := c_3
    refine lv_if_eq (tgt := 43) xE xB dX7_isEntry_6 (by decide) (fun _ => ?_) (fun h9 => absurd (by decide) h9)
    refine lv_iconst (v := nI 0) xE xB dX7_isEntry_43 (by decide) ?_
    exact xQ _ _ _ (Or.inr ⟨rfl, by (try (first | replace c_3 := (in_R (by omega) (by omega)).mp c_3 | replace c_3 := mt (in_R (by omega) (by omega)).mpr c_3)); (try (first | replace c_18 := (in_R (by omega) (by omega)).mp c_18 | replace c_18 := mt (in_R (by omega) (by omega)).mpr c_18)); (try (first | replace c_33 := (in_R (by omega) (by omega)).mp c_33 | replace c_33 := mt (in_R (by omega) (by omega)).mpr c_33)); omega⟩) (by decide) dX7_isEntry_44
theorem kX7_sets_c37 : Cond.constant RX7 37 (-1000001) ∈ wsX7_sets := by decide +kernel
theorem kX7_sets_c58 : Cond.constant RX7 58 (-1000002) ∈ wsX7_sets := by decide +kernel
theorem kX7_sets_f7 : Cond.fieldLink RX7 7 "SkewedSquareModel" "s" "[I" ∈ wsX7_sets := by decide +kernel
theorem khX7_sets_X7 : ∀ w ∈ u_ws RX7 TX7 16, w ∈ wsX7_sets := by decide +kernel
set_option maxHeartbeats 4000000 in
set_option maxRecDepth 100000 in
/-- kX7_sets -/
theorem kX7_sets (l : Launch) (G : wG) (r : RA) (s P U : wF) (p : Nat) (X : wF) (y q0 : Nat) (q1 : Int32) (q2 : Nat) (q3 : Int32) (sp re : Nat) (B : wF) (wd hg ow : Nat) (n o lr lc rc : Nat) (b : Nat) (pst : PF) (w : Nat) (v1 v2 v3 : Int32) (hD : RelD n o lr lc rc s) (hb : b ≤ 1 ∧ s 5 = nI b) (hp : p ≤ 4) (hQ : PQ pst P p) (hw : w ≤ 1) : CI (S := wF × wF × Nat) l yX7_sets wsX7_sets (rm 2 45) G [.ref r.1, .int (nI w), .int v1, .int v2, .int v3] (wU G r (s, P, U, p, X, y, q0, q1, q2, q3, sp, re, B, wd, hg, ow)) (fun x u9 => QO x u9 (opSet w (if w = 0 then lr else lc) (if w = 0 then lc else rc) b v1 v2 v3 s pst p)) (fun u9 => wU G r (u9.1, u9.2.1, U, u9.2.2, X, y, q0, q1, q2, q3, sp, re, B, wd, hg, ow)) := by
  refine CI.of (own := RX7) rfl (by decide) rfl (Nat.le_of_ble_eq_true rfl) ?_
  intro p9 e9 s9 m9 b9 t9 c9 A xE xB xM xO xT xK xP xD Q xQ xS ls hl
  have xL : lv_has ls 7 [(0, .ref r.1), (1, .int (nI w)), (2, .int v1), (3, .int v2), (4, .int v3)] := hl
  obtain ⟨g0, g1, g2, g3, g4, ⟨hn1, hn2, hn3⟩, hm1, hm2, hm3, hm4, hm5, hm6⟩ := id hD
  have hb1 := hb.1
  have hw9 : (nI w).toInt = w := nI_toInt (by omega)
  have hif : (w = 0 ∧ (if w = 0 then lr else lc) = lr ∧ (if w = 0 then lc else rc) = lc) ∨ (w = 1 ∧ (if w = 0 then lr else lc) = lc ∧ (if w = 0 then lc else rc) = rc) := (by rcases (show w = 0 ∨ w = 1 by omega) with z | z <;> simp [z])
  refine lv_aload_n xE xB dX7_sets_0 rfl (lv_at xL 0 rfl) ?_
  refine lv_iload_n xE xB dX7_sets_1 rfl (lv_at xL 1 rfl) ?_
  refine lv_iload_n xE xB dX7_sets_2 rfl (lv_at xL 2 rfl) ?_
  refine lv_iload_n xE xB dX7_sets_3 rfl (lv_at xL 3 rfl) ?_
  refine q_VR (As := [.int (nI w), .int v1, .int v2]) (rest := []) ⟨xE, xB, xM, xO, xT⟩ (kX7_isEntry l G r s P U p X y q0 q1 q2 q3 sp re B wd hg ow n o lr lc rc (nI w) v1 v2 (by exact hD)) (cwV 3 xT gX7_sets_X7_isEntry rfl rfl rfl (by decide +kernel) ⟨Nat.le_of_ble_eq_true rfl, Nat.le_of_ble_eq_true rfl⟩) xK xP [0, 1, 2, 3, 4, 5] rfl 0 rfl rfl rfl rfl xL.1 rfl (Nat.le_of_ble_eq_true rfl) dX7_sets_4 ⟨Nat.le_refl _, Nat.le_refl _⟩ (fun r_4 h_4 => ?_)
  rcases h_4 with ⟨h_4, c_4⟩ | ⟨h_4, c_4⟩
  · skip
    subst h_4
    have c_4 : ((nI w).toInt = 0 ∧ (0 ≤ v1.toInt ∧ v1.toInt < lr) ∧ 0 ≤ v2.toInt ∧ v2.toInt < lc) ∨ ((nI w).toInt = 1 ∧ (0 ≤ v1.toInt ∧ v1.toInt < lc) ∧ 0 ≤ v2.toInt ∧ v2.toInt < rc) := c_4
    refine lv_if_eq (tgt := 22) xE xB dX7_sets_7 (by decide) (fun h9 => absurd h9 (by decide)) (fun _ => ?_)
    refine lv_iload xE xB dX7_sets_10 (lv_at xL 4 rfl) ?_
    refine lv_bipush (v := (-99)) xE xB dX7_sets_12 (by decide) ?_
    refine lv_bipush (v := nI 99) xE xB dX7_sets_14 (by decide) ?_
    refine q_SR (As := [.int v3, .int (-99), .int (nI 99)]) (rest := []) ⟨xE, xB, xM, xO, xT⟩ (kX7_in l G v3 (-99) (nI 99)) (va_cwS 3 xT gX7_sets_X7_in rfl rfl rfl (by decide +kernel) ⟨Nat.le_of_ble_eq_true rfl, Nat.le_of_ble_eq_true rfl⟩) xK xP [] rfl rfl xL.1 rfl (Nat.le_of_ble_eq_true rfl) dX7_sets_16 ⟨Nat.le_refl _, Nat.le_refl _⟩ (fun r_16 h_16 => ?_)
    rcases h_16 with ⟨h_16, c_16⟩ | ⟨h_16, c_16⟩
    · skip
      subst h_16
      have c_16 : ((-99) : Int32).toInt ≤ v3.toInt ∧ v3.toInt ≤ ((nI 99) : Int32).toInt := c_16
      refine lv_if_ne (tgt := 25) xE xB dX7_sets_19 (by decide) (fun _ => ?_) (fun h9 => absurd h9 (by decide))
      (try (first | replace c_16 := in_99.mp c_16 | replace c_16 := mt in_99.mpr c_16))
      refine lv_aload_n xE xB dX7_sets_25 rfl (lv_at xL 0 rfl) ?_
      refine va_get (D := G.1) (ci := 7) (v := .ref r.2.1) (C := RX7) (T := TX7) (N := 16) xE xB xT khX7_sets_X7 xO xK.1 xP 0 rfl rfl 0 (by decide) (xT _ kX7_sets_f7) (fun _ h9 => h9) rfl dX7_sets_26 ?_
      refine lv_iconst (v := nI 5) xE xB dX7_sets_29 (by decide) ?_
      refine q_ald xE xB xK xP 1 rfl (by omega) (by decide) dX7_sets_30 ?_
      refine q_eq (y := nI b) (congrArg (fun z => z) (hb.2)) ?_
      refine lv_iconst (v := nI 1) xE xB dX7_sets_31 (by decide) ?_
      refine q_icmp_ne (tgt := 38) xE xB dX7_sets_32 (by decide) (by omega) (by omega) (fun c_32 => ?_) (fun c_32 => ?_)
      · skip
        have e_v1 : v1 = nI (tN v1) := tN_eq (by omega)
        have b_v1 : (tN v1 : Int) = v1.toInt := tN_z (by omega)
        rw [e_v1] at xL
        have xL : lv_has ls 7 [(0, .ref r.1), (1, .int (nI w)), (2, .int (nI (tN v1))), (3, .int v2), (4, .int v3)] := xL
        have e_v2 : v2 = nI (tN v2) := tN_eq (by omega)
        have b_v2 : (tN v2 : Int) = v2.toInt := tN_z (by omega)
        rw [e_v2] at xL
        have xL : lv_has ls 7 [(0, .ref r.1), (1, .int (nI w)), (2, .int (nI (tN v1))), (3, .int (nI (tN v2))), (4, .int v3)] := xL
        refine lv_aload_n xE xB dX7_sets_38 rfl (lv_at xL 0 rfl) ?_
        refine q_VV (As := []) (rest := []) ⟨xE, xB, xM, xO, xT⟩ (kX7_changes l G r s P U p X y q0 q1 q2 q3 sp re B wd hg ow (by omega)) (cwV 0 xT gX7_sets_X7_changes rfl rfl rfl (by decide +kernel) ⟨Nat.le_of_ble_eq_true rfl, Nat.le_of_ble_eq_true rfl⟩) xK xP xD xS [0, 1, 2, 3, 4, 5] rfl (by decide +kernel) (fun _ => rfl) 0 rfl rfl rfl rfl xL.1 rfl (Nat.le_of_ble_eq_true rfl) dX7_sets_39 ⟨Nat.le_refl _, Nat.le_refl _⟩ (fun u_39 H locs h_39 xP xD xS => ?_)
        have xP : va_P G.1 vwCl (wU G r (s, chgQ s P p, U, chgN p, X, y, q0, q1, q2, q3, sp, re, B, wd, hg, ow)) H := xP
        have xD : va_D A (wU G r (s, chgQ s P p, U, chgN p, X, y, q0, q1, q2, q3, sp, re, B, wd, hg, ow)) := xD
        refine lv_bipush (v := nI 9) xE xB dX7_sets_42 (by decide) ?_
        refine lv_bipush (v := nI 36) xE xB dX7_sets_44 (by decide) ?_
        refine lv_iload_n xE xB dX7_sets_46 rfl (lv_at xL 1 rfl) ?_
        refine q_imul xE xB dX7_sets_47 ?_
        refine q_iadd xE xB dX7_sets_48 ?_
        refine lv_bipush (v := nI 6) xE xB dX7_sets_49 (by decide) ?_
        refine lv_iload_n xE xB dX7_sets_51 rfl (lv_at xL 2 rfl) ?_
        refine q_imul xE xB dX7_sets_52 ?_
        refine q_iadd xE xB dX7_sets_53 ?_
        refine lv_iload_n xE xB dX7_sets_54 rfl (lv_at xL 3 rfl) ?_
        refine q_iadd xE xB dX7_sets_55 ?_
        refine lv_istore (lv' := [(5, .int (nI (((9 + (36 * w)) + (6 * (tN v1))) + (tN v2)))), (0, .ref r.1), (1, .int (nI w)), (2, .int (nI (tN v1))), (3, .int (nI (tN v2))), (4, .int v3)]) xE xB dX7_sets_56 xL (by decide) rfl (fun ls xL => ?_)
        refine lv_aload_n xE xB dX7_sets_58 rfl (lv_at xL 1 rfl) ?_
        refine va_get (D := G.1) (ci := 7) (v := .ref r.2.1) (C := RX7) (T := TX7) (N := 16) xE xB xT khX7_sets_X7 xO xK.1 xP 0 rfl rfl 0 (by decide) (xT _ kX7_sets_f7) (fun _ h9 => h9) rfl dX7_sets_59 ?_
        refine lv_iload xE xB dX7_sets_62 (lv_at xL 0 rfl) ?_
        refine q_ald xE xB xK xP 1 rfl (by omega) (by decide) dX7_sets_64 ?_
        refine lv_istore (lv' := [(6, .int (s (((9 + (36 * w)) + (6 * (tN v1))) + (tN v2)))), (5, .int (nI (((9 + (36 * w)) + (6 * (tN v1))) + (tN v2)))), (0, .ref r.1), (1, .int (nI w)), (2, .int (nI (tN v1))), (3, .int (nI (tN v2))), (4, .int v3)]) xE xB dX7_sets_65 xL (by decide) rfl (fun ls xL => ?_)
        refine lv_aload_n xE xB dX7_sets_67 rfl (lv_at xL 2 rfl) ?_
        refine va_get (D := G.1) (ci := 7) (v := .ref r.2.1) (C := RX7) (T := TX7) (N := 16) xE xB xT khX7_sets_X7 xO xK.1 xP 0 rfl rfl 0 (by decide) (xT _ kX7_sets_f7) (fun _ h9 => h9) rfl dX7_sets_68 ?_
        refine lv_iload xE xB dX7_sets_71 (lv_at xL 1 rfl) ?_
        refine lv_iload xE xB dX7_sets_73 (lv_at xL 6 rfl) ?_
        refine q_ast xE xB xK xP xD xS 1 rfl (by omega) (by decide) dX7_sets_75 (fun H locs xP xD xS => ?_)
        have xP : va_P G.1 vwCl (wU G r (upd s (((9 + (36 * w)) + (6 * (tN v1))) + (tN v2)) v3, chgQ s P p, U, chgN p, X, y, q0, q1, q2, q3, sp, re, B, wd, hg, ow)) H := xP
        have xD : va_D A (wU G r (upd s (((9 + (36 * w)) + (6 * (tN v1))) + (tN v2)) v3, chgQ s P p, U, chgN p, X, y, q0, q1, q2, q3, sp, re, B, wd, hg, ow)) := xD
        refine lv_aload_n xE xB dX7_sets_76 rfl (lv_at xL 2 rfl) ?_
        refine lv_bipush (v := nI 117) xE xB dX7_sets_77 (by decide) ?_
        refine lv_bipush (v := nI 36) xE xB dX7_sets_79 (by decide) ?_
        refine q_VV (As := [.int (nI 117), .int (nI 36)]) (rest := []) ⟨xE, xB, xM, xO, xT⟩ (kX7_clears l G r (upd s (((9 + (36 * w)) + (6 * (tN v1))) + (tN v2)) v3) (chgQ s P p) U (chgN p) X y q0 q1 q2 q3 sp re B wd hg ow 117 36 (by omega)) (cwV 2 xT gX7_sets_X7_clears rfl rfl rfl (by decide +kernel) ⟨Nat.le_of_ble_eq_true rfl, Nat.le_of_ble_eq_true rfl⟩) xK xP xD xS [0, 1, 2, 3, 4, 5] rfl (by decide +kernel) (fun _ => rfl) 0 rfl rfl rfl rfl xL.1 rfl (Nat.le_of_ble_eq_true rfl) dX7_sets_81 ⟨Nat.le_refl _, Nat.le_refl _⟩ (fun u_81 H locs h_81 xP xD xS => ?_)
        have xP : va_P G.1 vwCl (wU G r (clr 117 36 (upd s (((9 + (36 * w)) + (6 * (tN v1))) + (tN v2)) v3), chgQ s P p, U, chgN p, X, y, q0, q1, q2, q3, sp, re, B, wd, hg, ow)) H := xP
        have xD : va_D A (wU G r (clr 117 36 (upd s (((9 + (36 * w)) + (6 * (tN v1))) + (tN v2)) v3), chgQ s P p, U, chgN p, X, y, q0, q1, q2, q3, sp, re, B, wd, hg, ow)) := xD
        refine lv_iload xE xB dX7_sets_84 (lv_at xL 0 rfl) ?_
        exact xQ _ _ _ _ _ (clr 117 36 (upd s (((9 + (36 * w)) + (6 * (tN v1))) + (tN v2)) v3), chgQ s P p, chgN p) (by rw [show opSet w (if w = 0 then lr else lc) (if w = 0 then lc else rc) b v1 v2 v3 s pst p = (s (9 + 36 * w + 6 * tN v1 + tN v2), clr 117 36 (upd s (9 + 36 * w + 6 * tN v1 + tN v2) v3), chgP s pst p, chgN p) from (if_pos (by omega)).trans (if_neg (by omega))]; exact ⟨rfl, rfl, rfl, chgN_4 hp, PQ_chg hp hQ⟩) xP xD xS dX7_sets_86
      · skip
        refine lv_ldc (v := (-1000002)) xE xB xO (xT _ kX7_sets_c58) dX7_sets_35 ?_
        exact xQ _ _ _ _ _ (s, P, p) (by rw [show opSet w (if w = 0 then lr else lc) (if w = 0 then lc else rc) b v1 v2 v3 s pst p = (kNP, s, pst, p) from (if_pos (by omega)).trans (if_pos (by omega))]; exact ⟨rfl, rfl, rfl, hp, hQ⟩) xP xD xS dX7_sets_37
    · skip
      subst h_16
      have c_16 : ¬ (((-99) : Int32).toInt ≤ v3.toInt ∧ v3.toInt ≤ ((nI 99) : Int32).toInt) := c_16
      refine lv_if_ne (tgt := 25) xE xB dX7_sets_19 (by decide) (fun h9 => absurd (by decide) h9) (fun _ => ?_)
      refine lv_ldc (v := (-1000001)) xE xB xO (xT _ kX7_sets_c37) dX7_sets_22 ?_
      exact xQ _ _ _ _ _ (s, P, p) (by (try (first | replace c_16 := in_99.mp c_16 | replace c_16 := mt in_99.mpr c_16)); rw [show opSet w (if w = 0 then lr else lc) (if w = 0 then lc else rc) b v1 v2 v3 s pst p = (kINV, s, pst, p) from if_neg (by omega)]; exact ⟨rfl, rfl, rfl, hp, hQ⟩) xP xD xS dX7_sets_24
  · skip
    subst h_4
    have c_4 : ¬ (((nI w).toInt = 0 ∧ (0 ≤ v1.toInt ∧ v1.toInt < lr) ∧ 0 ≤ v2.toInt ∧ v2.toInt < lc) ∨ ((nI w).toInt = 1 ∧ (0 ≤ v1.toInt ∧ v1.toInt < lc) ∧ 0 ≤ v2.toInt ∧ v2.toInt < rc)) := c_4
    refine lv_if_eq (tgt := 22) xE xB dX7_sets_7 (by decide) (fun _ => ?_) (fun h9 => absurd (by decide) h9)
    refine lv_ldc (v := (-1000001)) xE xB xO (xT _ kX7_sets_c37) dX7_sets_22 ?_
    exact xQ _ _ _ _ _ (s, P, p) (by (try (first | replace c_16 := in_99.mp c_16 | replace c_16 := mt in_99.mpr c_16)); rw [show opSet w (if w = 0 then lr else lc) (if w = 0 then lc else rc) b v1 v2 v3 s pst p = (kINV, s, pst, p) from if_neg (by omega)]; exact ⟨rfl, rfl, rfl, hp, hQ⟩) xP xD xS dX7_sets_24
set_option maxHeartbeats 4000000 in
set_option maxRecDepth 100000 in
/-- kX7_left -/
theorem kX7_left (l : Launch) (G : wG) (r : RA) (s P U : wF) (p : Nat) (X : wF) (y q0 : Nat) (q1 : Int32) (q2 : Nat) (q3 : Int32) (sp re : Nat) (B : wF) (wd hg ow : Nat) (n o lr lc rc : Nat) (b : Nat) (pst : PF) (v1 v2 v3 : Int32) (hD : RelD n o lr lc rc s) (hb : b ≤ 1 ∧ s 5 = nI b) (hp : p ≤ 4) (hQ : PQ pst P p) : CI (S := wF × wF × Nat) l yX7_left wsX7_left (rm 3 71) G [.ref r.1, .int v1, .int v2, .int v3] (wU G r (s, P, U, p, X, y, q0, q1, q2, q3, sp, re, B, wd, hg, ow)) (fun x u9 => QO x u9 (opSet 0 lr lc b v1 v2 v3 s pst p)) (fun u9 => wU G r (u9.1, u9.2.1, U, u9.2.2, X, y, q0, q1, q2, q3, sp, re, B, wd, hg, ow)) := by
  refine CI.of (own := RX7) rfl (by decide) rfl (Nat.le_of_ble_eq_true rfl) ?_
  intro p9 e9 s9 m9 b9 t9 c9 A xE xB xM xO xT xK xP xD Q xQ xS ls hl
  have xL : lv_has ls 4 [(0, .ref r.1), (1, .int v1), (2, .int v2), (3, .int v3)] := hl
  obtain ⟨g0, g1, g2, g3, g4, ⟨hn1, hn2, hn3⟩, hm1, hm2, hm3, hm4, hm5, hm6⟩ := id hD
  have hb1 := hb.1
  refine lv_aload_n xE xB dX7_left_0 rfl (lv_at xL 0 rfl) ?_
  refine lv_iconst (v := nI 0) xE xB dX7_left_1 (by decide) ?_
  refine lv_iload_n xE xB dX7_left_2 rfl (lv_at xL 1 rfl) ?_
  refine lv_iload_n xE xB dX7_left_3 rfl (lv_at xL 2 rfl) ?_
  refine lv_iload_n xE xB dX7_left_4 rfl (lv_at xL 3 rfl) ?_
  refine q_VI (As := [.int (nI 0), .int v1, .int v2, .int v3]) (rest := []) ⟨xE, xB, xM, xO, xT⟩ (kX7_sets l G r s P U p X y q0 q1 q2 q3 sp re B wd hg ow n o lr lc rc b pst 0 v1 v2 v3 (by exact hD) (by exact hb) (by exact hp) (by exact hQ) (by omega)) (cwV 4 xT gX7_left_X7_sets rfl rfl rfl (by decide +kernel) ⟨Nat.le_of_ble_eq_true rfl, Nat.le_of_ble_eq_true rfl⟩) xK xP xD xS [0, 1, 2, 3, 4, 5] rfl (by decide +kernel) (fun _ => rfl) 0 rfl rfl rfl rfl xL.1 rfl (Nat.le_of_ble_eq_true rfl) dX7_left_5 ⟨Nat.le_refl _, Nat.le_refl _⟩ (fun r_5 u_5 H locs h_5 xP xD xS => ?_)
  have xP : va_P G.1 vwCl (wU G r (u_5.1, u_5.2.1, U, u_5.2.2, X, y, q0, q1, q2, q3, sp, re, B, wd, hg, ow)) H := xP
  have xD : va_D A (wU G r (u_5.1, u_5.2.1, U, u_5.2.2, X, y, q0, q1, q2, q3, sp, re, B, wd, hg, ow)) := xD
  have h_5 : QO r_5 u_5 (opSet 0 (if 0 = 0 then lr else lc) (if 0 = 0 then lc else rc) b v1 v2 v3 s pst p) := h_5
  exact xQ _ _ _ _ _ u_5 (by exact h_5) xP xD xS dX7_left_8
set_option maxHeartbeats 4000000 in
set_option maxRecDepth 100000 in
/-- kX7_right -/
theorem kX7_right (l : Launch) (G : wG) (r : RA) (s P U : wF) (p : Nat) (X : wF) (y q0 : Nat) (q1 : Int32) (q2 : Nat) (q3 : Int32) (sp re : Nat) (B : wF) (wd hg ow : Nat) (n o lr lc rc : Nat) (b : Nat) (pst : PF) (v1 v2 v3 : Int32) (hD : RelD n o lr lc rc s) (hb : b ≤ 1 ∧ s 5 = nI b) (hp : p ≤ 4) (hQ : PQ pst P p) : CI (S := wF × wF × Nat) l yX7_right wsX7_right (rm 3 71) G [.ref r.1, .int v1, .int v2, .int v3] (wU G r (s, P, U, p, X, y, q0, q1, q2, q3, sp, re, B, wd, hg, ow)) (fun x u9 => QO x u9 (opSet 1 lc rc b v1 v2 v3 s pst p)) (fun u9 => wU G r (u9.1, u9.2.1, U, u9.2.2, X, y, q0, q1, q2, q3, sp, re, B, wd, hg, ow)) := by
  refine CI.of (own := RX7) rfl (by decide) rfl (Nat.le_of_ble_eq_true rfl) ?_
  intro p9 e9 s9 m9 b9 t9 c9 A xE xB xM xO xT xK xP xD Q xQ xS ls hl
  have xL : lv_has ls 4 [(0, .ref r.1), (1, .int v1), (2, .int v2), (3, .int v3)] := hl
  obtain ⟨g0, g1, g2, g3, g4, ⟨hn1, hn2, hn3⟩, hm1, hm2, hm3, hm4, hm5, hm6⟩ := id hD
  have hb1 := hb.1
  refine lv_aload_n xE xB dX7_right_0 rfl (lv_at xL 0 rfl) ?_
  refine lv_iconst (v := nI 1) xE xB dX7_right_1 (by decide) ?_
  refine lv_iload_n xE xB dX7_right_2 rfl (lv_at xL 1 rfl) ?_
  refine lv_iload_n xE xB dX7_right_3 rfl (lv_at xL 2 rfl) ?_
  refine lv_iload_n xE xB dX7_right_4 rfl (lv_at xL 3 rfl) ?_
  refine q_VI (As := [.int (nI 1), .int v1, .int v2, .int v3]) (rest := []) ⟨xE, xB, xM, xO, xT⟩ (kX7_sets l G r s P U p X y q0 q1 q2 q3 sp re B wd hg ow n o lr lc rc b pst 1 v1 v2 v3 (by exact hD) (by exact hb) (by exact hp) (by exact hQ) (by omega)) (cwV 4 xT gX7_right_X7_sets rfl rfl rfl (by decide +kernel) ⟨Nat.le_of_ble_eq_true rfl, Nat.le_of_ble_eq_true rfl⟩) xK xP xD xS [0, 1, 2, 3, 4, 5] rfl (by decide +kernel) (fun _ => rfl) 0 rfl rfl rfl rfl xL.1 rfl (Nat.le_of_ble_eq_true rfl) dX7_right_5 ⟨Nat.le_refl _, Nat.le_refl _⟩ (fun r_5 u_5 H locs h_5 xP xD xS => ?_)
  have xP : va_P G.1 vwCl (wU G r (u_5.1, u_5.2.1, U, u_5.2.2, X, y, q0, q1, q2, q3, sp, re, B, wd, hg, ow)) H := xP
  have xD : va_D A (wU G r (u_5.1, u_5.2.1, U, u_5.2.2, X, y, q0, q1, q2, q3, sp, re, B, wd, hg, ow)) := xD
  have h_5 : QO r_5 u_5 (opSet 1 (if 1 = 0 then lr else lc) (if 1 = 0 then lc else rc) b v1 v2 v3 s pst p) := h_5
  exact xQ _ _ _ _ _ u_5 (by exact h_5) xP xD xS dX7_right_8
theorem kX7_fault_c37 : Cond.constant RX7 37 (-1000001) ∈ wsX7_fault := by decide +kernel
theorem kX7_fault_c58 : Cond.constant RX7 58 (-1000002) ∈ wsX7_fault := by decide +kernel
theorem kX7_fault_f7 : Cond.fieldLink RX7 7 "SkewedSquareModel" "s" "[I" ∈ wsX7_fault := by decide +kernel
theorem khX7_fault_X7 : ∀ w ∈ u_ws RX7 TX7 16, w ∈ wsX7_fault := by decide +kernel
set_option maxHeartbeats 4000000 in
set_option maxRecDepth 100000 in
/-- kX7_fault -/
theorem kX7_fault (l : Launch) (G : wG) (r : RA) (s P U : wF) (p : Nat) (X : wF) (y q0 : Nat) (q1 : Int32) (q2 : Nat) (q3 : Int32) (sp re : Nat) (B : wF) (wd hg ow : Nat) (n o lr lc rc : Nat) (b : Nat) (pst : PF) (v1 v2 v3 : Int32) (hD : RelD n o lr lc rc s) (hb : b ≤ 1 ∧ s 5 = nI b) (hp : p ≤ 4) (hQ : PQ pst P p) : CI (S := wF × wF × Nat) l yX7_fault wsX7_fault (rm 1 22) G [.ref r.1, .int v1, .int v2, .int v3] (wU G r (s, P, U, p, X, y, q0, q1, q2, q3, sp, re, B, wd, hg, ow)) (fun x u9 => QO x u9 (opFault n b v1 v2 v3 s pst p)) (fun u9 => wU G r (u9.1, u9.2.1, U, u9.2.2, X, y, q0, q1, q2, q3, sp, re, B, wd, hg, ow)) := by
  refine CI.of (own := RX7) rfl (by decide) rfl (Nat.le_of_ble_eq_true rfl) ?_
  intro p9 e9 s9 m9 b9 t9 c9 A xE xB xM xO xT xK xP xD Q xQ xS ls hl
  have xL : lv_has ls 5 [(0, .ref r.1), (1, .int v1), (2, .int v2), (3, .int v3)] := hl
  obtain ⟨g0, g1, g2, g3, g4, ⟨hn1, hn2, hn3⟩, hm1, hm2, hm3, hm4, hm5, hm6⟩ := id hD
  have hb1 := hb.1
  refine lv_iload_n xE xB dX7_fault_0 rfl (lv_at xL 1 rfl) ?_
  refine lv_iconst (v := nI 0) xE xB dX7_fault_1 (by decide) ?_
  refine lv_aload_n xE xB dX7_fault_2 rfl (lv_at xL 0 rfl) ?_
  refine va_get (D := G.1) (ci := 7) (v := .ref r.2.1) (C := RX7) (T := TX7) (N := 16) xE xB xT khX7_fault_X7 xO xK.1 xP 0 rfl rfl 0 (by decide) (xT _ kX7_fault_f7) (fun _ h9 => h9) rfl dX7_fault_3 ?_
  refine lv_iconst (v := nI 0) xE xB dX7_fault_6 (by decide) ?_
  refine q_ald xE xB xK xP 1 rfl (by omega) (by decide) dX7_fault_7 ?_
  refine q_eq (y := nI n) (congrArg (fun z => z) (g0)) ?_
  refine lv_iconst (v := nI 1) xE xB dX7_fault_8 (by decide) ?_
  refine q_isub xE xB dX7_fault_9 (by omega) ?_
  refine q_SR (As := [.int v1, .int (nI 0), .int (nI (n - 1))]) (rest := []) ⟨xE, xB, xM, xO, xT⟩ (kX7_in l G v1 (nI 0) (nI (n - 1))) (va_cwS 3 xT gX7_fault_X7_in rfl rfl rfl (by decide +kernel) ⟨Nat.le_of_ble_eq_true rfl, Nat.le_of_ble_eq_true rfl⟩) xK xP [] rfl rfl xL.1 rfl (Nat.le_of_ble_eq_true rfl) dX7_fault_10 ⟨Nat.le_refl _, Nat.le_refl _⟩ (fun r_10 h_10 => ?_)
  rcases h_10 with ⟨h_10, c_10⟩ | ⟨h_10, c_10⟩
  · skip
    subst h_10
    have c_10 : ((nI 0) : Int32).toInt ≤ v1.toInt ∧ v1.toInt ≤ ((nI (n - 1)) : Int32).toInt := c_10
    refine lv_if_eq (tgt := 39) xE xB dX7_fault_13 (by decide) (fun h9 => absurd h9 (by decide)) (fun _ => ?_)
    refine lv_iload_n xE xB dX7_fault_16 rfl (lv_at xL 2 rfl) ?_
    refine lv_iconst (v := nI 0) xE xB dX7_fault_17 (by decide) ?_
    refine lv_aload_n xE xB dX7_fault_18 rfl (lv_at xL 0 rfl) ?_
    refine va_get (D := G.1) (ci := 7) (v := .ref r.2.1) (C := RX7) (T := TX7) (N := 16) xE xB xT khX7_fault_X7 xO xK.1 xP 0 rfl rfl 0 (by decide) (xT _ kX7_fault_f7) (fun _ h9 => h9) rfl dX7_fault_19 ?_
    refine lv_iconst (v := nI 0) xE xB dX7_fault_22 (by decide) ?_
    refine q_ald xE xB xK xP 1 rfl (by omega) (by decide) dX7_fault_23 ?_
    refine q_eq (y := nI n) (congrArg (fun z => z) (g0)) ?_
    refine q_SR (As := [.int v2, .int (nI 0), .int (nI n)]) (rest := []) ⟨xE, xB, xM, xO, xT⟩ (kX7_in l G v2 (nI 0) (nI n)) (va_cwS 3 xT gX7_fault_X7_in rfl rfl rfl (by decide +kernel) ⟨Nat.le_of_ble_eq_true rfl, Nat.le_of_ble_eq_true rfl⟩) xK xP [] rfl rfl xL.1 rfl (Nat.le_of_ble_eq_true rfl) dX7_fault_24 ⟨Nat.le_refl _, Nat.le_refl _⟩ (fun r_24 h_24 => ?_)
    rcases h_24 with ⟨h_24, c_24⟩ | ⟨h_24, c_24⟩
    · skip
      subst h_24
      have c_24 : ((nI 0) : Int32).toInt ≤ v2.toInt ∧ v2.toInt ≤ ((nI n) : Int32).toInt := c_24
      refine lv_if_eq (tgt := 39) xE xB dX7_fault_27 (by decide) (fun h9 => absurd h9 (by decide)) (fun _ => ?_)
      refine lv_iload_n xE xB dX7_fault_30 rfl (lv_at xL 3 rfl) ?_
      refine lv_iconst (v := nI 0) xE xB dX7_fault_31 (by decide) ?_
      refine lv_iconst (v := nI 4) xE xB dX7_fault_32 (by decide) ?_
      refine q_SR (As := [.int v3, .int (nI 0), .int (nI 4)]) (rest := []) ⟨xE, xB, xM, xO, xT⟩ (kX7_in l G v3 (nI 0) (nI 4)) (va_cwS 3 xT gX7_fault_X7_in rfl rfl rfl (by decide +kernel) ⟨Nat.le_of_ble_eq_true rfl, Nat.le_of_ble_eq_true rfl⟩) xK xP [] rfl rfl xL.1 rfl (Nat.le_of_ble_eq_true rfl) dX7_fault_33 ⟨Nat.le_refl _, Nat.le_refl _⟩ (fun r_33 h_33 => ?_)
      rcases h_33 with ⟨h_33, c_33⟩ | ⟨h_33, c_33⟩
      · skip
        subst h_33
        have c_33 : ((nI 0) : Int32).toInt ≤ v3.toInt ∧ v3.toInt ≤ ((nI 4) : Int32).toInt := c_33
        refine lv_if_ne (tgt := 42) xE xB dX7_fault_36 (by decide) (fun _ => ?_) (fun h9 => absurd h9 (by decide))
        (try (first | replace c_10 := (in_R (by omega) (by omega)).mp c_10 | replace c_10 := mt (in_R (by omega) (by omega)).mpr c_10)); (try (first | replace c_24 := (in_R (by omega) (by omega)).mp c_24 | replace c_24 := mt (in_R (by omega) (by omega)).mpr c_24)); (try (first | replace c_33 := (in_R (by omega) (by omega)).mp c_33 | replace c_33 := mt (in_R (by omega) (by omega)).mpr c_33))
        refine lv_aload_n xE xB dX7_fault_42 rfl (lv_at xL 0 rfl) ?_
        refine va_get (D := G.1) (ci := 7) (v := .ref r.2.1) (C := RX7) (T := TX7) (N := 16) xE xB xT khX7_fault_X7 xO xK.1 xP 0 rfl rfl 0 (by decide) (xT _ kX7_fault_f7) (fun _ h9 => h9) rfl dX7_fault_43 ?_
        refine lv_iconst (v := nI 5) xE xB dX7_fault_46 (by decide) ?_
        refine q_ald xE xB xK xP 1 rfl (by omega) (by decide) dX7_fault_47 ?_
        refine q_eq (y := nI b) (congrArg (fun z => z) (hb.2)) ?_
        refine lv_iconst (v := nI 1) xE xB dX7_fault_48 (by decide) ?_
        refine q_icmp_ne (tgt := 55) xE xB dX7_fault_49 (by decide) (by omega) (by omega) (fun c_49 => ?_) (fun c_49 => ?_)
        · skip
          have e_v1 : v1 = nI (tN v1) := tN_eq (by omega)
          have b_v1 : (tN v1 : Int) = v1.toInt := tN_z (by omega)
          rw [e_v1] at xL
          have xL : lv_has ls 5 [(0, .ref r.1), (1, .int (nI (tN v1))), (2, .int v2), (3, .int v3)] := xL
          have e_v2 : v2 = nI (tN v2) := tN_eq (by omega)
          have b_v2 : (tN v2 : Int) = v2.toInt := tN_z (by omega)
          rw [e_v2] at xL
          have xL : lv_has ls 5 [(0, .ref r.1), (1, .int (nI (tN v1))), (2, .int (nI (tN v2))), (3, .int v3)] := xL
          refine lv_aload_n xE xB dX7_fault_55 rfl (lv_at xL 0 rfl) ?_
          refine q_VV (As := []) (rest := []) ⟨xE, xB, xM, xO, xT⟩ (kX7_changes l G r s P U p X y q0 q1 q2 q3 sp re B wd hg ow (by omega)) (cwV 0 xT gX7_fault_X7_changes rfl rfl rfl (by decide +kernel) ⟨Nat.le_of_ble_eq_true rfl, Nat.le_of_ble_eq_true rfl⟩) xK xP xD xS [0, 1, 2, 3, 4, 5] rfl (by decide +kernel) (fun _ => rfl) 0 rfl rfl rfl rfl xL.1 rfl (Nat.le_of_ble_eq_true rfl) dX7_fault_56 ⟨Nat.le_refl _, Nat.le_refl _⟩ (fun u_56 H locs h_56 xP xD xS => ?_)
          have xP : va_P G.1 vwCl (wU G r (s, chgQ s P p, U, chgN p, X, y, q0, q1, q2, q3, sp, re, B, wd, hg, ow)) H := xP
          have xD : va_D A (wU G r (s, chgQ s P p, U, chgN p, X, y, q0, q1, q2, q3, sp, re, B, wd, hg, ow)) := xD
          refine lv_aload_n xE xB dX7_fault_59 rfl (lv_at xL 0 rfl) ?_
          refine va_get (D := G.1) (ci := 7) (v := .ref r.2.1) (C := RX7) (T := TX7) (N := 16) xE xB xT khX7_fault_X7 xO xK.1 xP 0 rfl rfl 0 (by decide) (xT _ kX7_fault_f7) (fun _ h9 => h9) rfl dX7_fault_60 ?_
          refine lv_sipush (v := nI 153) xE xB dX7_fault_63 (by decide) ?_
          refine lv_iconst (v := nI 5) xE xB dX7_fault_66 (by decide) ?_
          refine lv_iload_n xE xB dX7_fault_67 rfl (lv_at xL 1 rfl) ?_
          refine q_imul xE xB dX7_fault_68 ?_
          refine q_iadd xE xB dX7_fault_69 ?_
          refine lv_iload_n xE xB dX7_fault_70 rfl (lv_at xL 2 rfl) ?_
          refine q_iadd xE xB dX7_fault_71 ?_
          refine q_ald xE xB xK xP 1 rfl (by omega) (by decide) dX7_fault_72 ?_
          refine lv_istore (lv' := [(4, .int (s ((153 + (5 * (tN v1))) + (tN v2)))), (0, .ref r.1), (1, .int (nI (tN v1))), (2, .int (nI (tN v2))), (3, .int v3)]) xE xB dX7_fault_73 xL (by decide) rfl (fun ls xL => ?_)
          refine lv_aload_n xE xB dX7_fault_75 rfl (lv_at xL 1 rfl) ?_
          refine va_get (D := G.1) (ci := 7) (v := .ref r.2.1) (C := RX7) (T := TX7) (N := 16) xE xB xT khX7_fault_X7 xO xK.1 xP 0 rfl rfl 0 (by decide) (xT _ kX7_fault_f7) (fun _ h9 => h9) rfl dX7_fault_76 ?_
          refine lv_sipush (v := nI 153) xE xB dX7_fault_79 (by decide) ?_
          refine lv_iconst (v := nI 5) xE xB dX7_fault_82 (by decide) ?_
          refine lv_iload_n xE xB dX7_fault_83 rfl (lv_at xL 2 rfl) ?_
          refine q_imul xE xB dX7_fault_84 ?_
          refine q_iadd xE xB dX7_fault_85 ?_
          refine lv_iload_n xE xB dX7_fault_86 rfl (lv_at xL 3 rfl) ?_
          refine q_iadd xE xB dX7_fault_87 ?_
          refine lv_iload_n xE xB dX7_fault_88 rfl (lv_at xL 4 rfl) ?_
          refine q_ast xE xB xK xP xD xS 1 rfl (by omega) (by decide) dX7_fault_89 (fun H locs xP xD xS => ?_)
          have xP : va_P G.1 vwCl (wU G r (upd s ((153 + (5 * (tN v1))) + (tN v2)) v3, chgQ s P p, U, chgN p, X, y, q0, q1, q2, q3, sp, re, B, wd, hg, ow)) H := xP
          have xD : va_D A (wU G r (upd s ((153 + (5 * (tN v1))) + (tN v2)) v3, chgQ s P p, U, chgN p, X, y, q0, q1, q2, q3, sp, re, B, wd, hg, ow)) := xD
          refine lv_iload xE xB dX7_fault_90 (lv_at xL 0 rfl) ?_
          exact xQ _ _ _ _ _ (upd s ((153 + (5 * (tN v1))) + (tN v2)) v3, chgQ s P p, chgN p) (by rw [show opFault n b v1 v2 v3 s pst p = (s (153 + 5 * tN v1 + tN v2), upd s (153 + 5 * tN v1 + tN v2) v3, chgP s pst p, chgN p) from (if_pos (by omega)).trans (if_neg (by omega))]; exact ⟨rfl, rfl, rfl, chgN_4 hp, PQ_chg hp hQ⟩) xP xD xS dX7_fault_92
        · skip
          refine lv_ldc (v := (-1000002)) xE xB xO (xT _ kX7_fault_c58) dX7_fault_52 ?_
          exact xQ _ _ _ _ _ (s, P, p) (by rw [show opFault n b v1 v2 v3 s pst p = (kNP, s, pst, p) from (if_pos (by omega)).trans (if_pos (by omega))]; exact ⟨rfl, rfl, rfl, hp, hQ⟩) xP xD xS dX7_fault_54
      · skip
        subst h_33
        have c_33 : ¬ (((nI 0) : Int32).toInt ≤ v3.toInt ∧ v3.toInt ≤ ((nI 4) : Int32).toInt) := c_33
        refine lv_if_ne (tgt := 42) xE xB dX7_fault_36 (by decide) (fun h9 => absurd (by decide) h9) (fun _ => ?_)
        refine lv_ldc (v := (-1000001)) xE xB xO (xT _ kX7_fault_c37) dX7_fault_39 ?_
        exact xQ _ _ _ _ _ (s, P, p) (by (try (first | replace c_10 := (in_R (by omega) (by omega)).mp c_10 | replace c_10 := mt (in_R (by omega) (by omega)).mpr c_10)); (try (first | replace c_24 := (in_R (by omega) (by omega)).mp c_24 | replace c_24 := mt (in_R (by omega) (by omega)).mpr c_24)); (try (first | replace c_33 := (in_R (by omega) (by omega)).mp c_33 | replace c_33 := mt (in_R (by omega) (by omega)).mpr c_33)); rw [show opFault n b v1 v2 v3 s pst p = (kINV, s, pst, p) from if_neg (by omega)]; exact ⟨rfl, rfl, rfl, hp, hQ⟩) xP xD xS dX7_fault_41
    · skip
      subst h_24
      have c_24 : ¬ (((nI 0) : Int32).toInt ≤ v2.toInt ∧ v2.toInt ≤ ((nI n) : Int32).toInt) := c_24
      refine lv_if_eq (tgt := 39) xE xB dX7_fault_27 (by decide) (fun _ => ?_) (fun h9 => absurd (by decide) h9)
      refine lv_ldc (v := (-1000001)) xE xB xO (xT _ kX7_fault_c37) dX7_fault_39 ?_
      exact xQ _ _ _ _ _ (s, P, p) (by (try (first | replace c_10 := (in_R (by omega) (by omega)).mp c_10 | replace c_10 := mt (in_R (by omega) (by omega)).mpr c_10)); (try (first | replace c_24 := (in_R (by omega) (by omega)).mp c_24 | replace c_24 := mt (in_R (by omega) (by omega)).mpr c_24)); (try (first | replace c_33 := (in_R (by omega) (by omega)).mp c_33 | replace c_33 := mt (in_R (by omega) (by omega)).mpr c_33)); rw [show opFault n b v1 v2 v3 s pst p = (kINV, s, pst, p) from if_neg (by omega)]; exact ⟨rfl, rfl, rfl, hp, hQ⟩) xP xD xS dX7_fault_41
  · skip
    subst h_10
    have c_10 : ¬ (((nI 0) : Int32).toInt ≤ v1.toInt ∧ v1.toInt ≤ ((nI (n - 1)) : Int32).toInt) := c_10
    refine lv_if_eq (tgt := 39) xE xB dX7_fault_13 (by decide) (fun _ => ?_) (fun h9 => absurd (by decide) h9)
    refine lv_ldc (v := (-1000001)) xE xB xO (xT _ kX7_fault_c37) dX7_fault_39 ?_
    exact xQ _ _ _ _ _ (s, P, p) (by (try (first | replace c_10 := (in_R (by omega) (by omega)).mp c_10 | replace c_10 := mt (in_R (by omega) (by omega)).mpr c_10)); (try (first | replace c_24 := (in_R (by omega) (by omega)).mp c_24 | replace c_24 := mt (in_R (by omega) (by omega)).mpr c_24)); (try (first | replace c_33 := (in_R (by omega) (by omega)).mp c_33 | replace c_33 := mt (in_R (by omega) (by omega)).mpr c_33)); rw [show opFault n b v1 v2 v3 s pst p = (kINV, s, pst, p) from if_neg (by omega)]; exact ⟨rfl, rfl, rfl, hp, hQ⟩) xP xD xS dX7_fault_41
theorem kX7_leave_c37 : Cond.constant RX7 37 (-1000001) ∈ wsX7_leave := by decide +kernel
theorem kX7_leave_c58 : Cond.constant RX7 58 (-1000002) ∈ wsX7_leave := by decide +kernel
theorem kX7_leave_f7 : Cond.fieldLink RX7 7 "SkewedSquareModel" "s" "[I" ∈ wsX7_leave := by decide +kernel
theorem khX7_leave_X7 : ∀ w ∈ u_ws RX7 TX7 16, w ∈ wsX7_leave := by decide +kernel
set_option maxHeartbeats 4000000 in
set_option maxRecDepth 100000 in
/-- kX7_leave -/
theorem kX7_leave (l : Launch) (G : wG) (r : RA) (s P U : wF) (p : Nat) (X : wF) (y q0 : Nat) (q1 : Int32) (q2 : Nat) (q3 : Int32) (sp re : Nat) (B : wF) (wd hg ow : Nat) (n o lr lc rc : Nat) (b : Nat) (pst : PF) (v1 : Int32) (hD : RelD n o lr lc rc s) (hb : b ≤ 1 ∧ s 5 = nI b) (hp : p ≤ 4) (hQ : PQ pst P p) : CI (S := wF × wF × Nat) l yX7_leave wsX7_leave (rm 1 22) G [.ref r.1, .int v1] (wU G r (s, P, U, p, X, y, q0, q1, q2, q3, sp, re, B, wd, hg, ow)) (fun x u9 => QO x u9 (opLeave n o b v1 s pst p)) (fun u9 => wU G r (u9.1, u9.2.1, U, u9.2.2, X, y, q0, q1, q2, q3, sp, re, B, wd, hg, ow)) := by
  refine CI.of (own := RX7) rfl (by decide) rfl (Nat.le_of_ble_eq_true rfl) ?_
  intro p9 e9 s9 m9 b9 t9 c9 A xE xB xM xO xT xK xP xD Q xQ xS ls hl
  have xL : lv_has ls 3 [(0, .ref r.1), (1, .int v1)] := hl
  obtain ⟨g0, g1, g2, g3, g4, ⟨hn1, hn2, hn3⟩, hm1, hm2, hm3, hm4, hm5, hm6⟩ := id hD
  have hb1 := hb.1
  refine lv_iload_n xE xB dX7_leave_0 rfl (lv_at xL 1 rfl) ?_
  refine lv_iconst (v := nI 0) xE xB dX7_leave_1 (by decide) ?_
  refine lv_aload_n xE xB dX7_leave_2 rfl (lv_at xL 0 rfl) ?_
  refine va_get (D := G.1) (ci := 7) (v := .ref r.2.1) (C := RX7) (T := TX7) (N := 16) xE xB xT khX7_leave_X7 xO xK.1 xP 0 rfl rfl 0 (by decide) (xT _ kX7_leave_f7) (fun _ h9 => h9) rfl dX7_leave_3 ?_
  refine lv_iconst (v := nI 0) xE xB dX7_leave_6 (by decide) ?_
  refine q_ald xE xB xK xP 1 rfl (by omega) (by decide) dX7_leave_7 ?_
  refine q_eq (y := nI n) (congrArg (fun z => z) (g0)) ?_
  refine q_SR (As := [.int v1, .int (nI 0), .int (nI n)]) (rest := []) ⟨xE, xB, xM, xO, xT⟩ (kX7_in l G v1 (nI 0) (nI n)) (va_cwS 3 xT gX7_leave_X7_in rfl rfl rfl (by decide +kernel) ⟨Nat.le_of_ble_eq_true rfl, Nat.le_of_ble_eq_true rfl⟩) xK xP [] rfl rfl xL.1 rfl (Nat.le_of_ble_eq_true rfl) dX7_leave_8 ⟨Nat.le_refl _, Nat.le_refl _⟩ (fun r_8 h_8 => ?_)
  rcases h_8 with ⟨h_8, c_8⟩ | ⟨h_8, c_8⟩
  · skip
    subst h_8
    have c_8 : ((nI 0) : Int32).toInt ≤ v1.toInt ∧ v1.toInt ≤ ((nI n) : Int32).toInt := c_8
    refine lv_if_ne (tgt := 17) xE xB dX7_leave_11 (by decide) (fun _ => ?_) (fun h9 => absurd h9 (by decide))
    (try (first | replace c_8 := (in_R (by omega) (by omega)).mp c_8 | replace c_8 := mt (in_R (by omega) (by omega)).mpr c_8))
    refine lv_aload_n xE xB dX7_leave_17 rfl (lv_at xL 0 rfl) ?_
    refine va_get (D := G.1) (ci := 7) (v := .ref r.2.1) (C := RX7) (T := TX7) (N := 16) xE xB xT khX7_leave_X7 xO xK.1 xP 0 rfl rfl 0 (by decide) (xT _ kX7_leave_f7) (fun _ h9 => h9) rfl dX7_leave_18 ?_
    refine lv_iconst (v := nI 5) xE xB dX7_leave_21 (by decide) ?_
    refine q_ald xE xB xK xP 1 rfl (by omega) (by decide) dX7_leave_22 ?_
    refine q_eq (y := nI b) (congrArg (fun z => z) (hb.2)) ?_
    refine lv_iconst (v := nI 1) xE xB dX7_leave_23 (by decide) ?_
    refine q_icmp_ne (tgt := 30) xE xB dX7_leave_24 (by decide) (by omega) (by omega) (fun c_24 => ?_) (fun c_24 => ?_)
    · skip
      refine lv_aload_n xE xB dX7_leave_30 rfl (lv_at xL 0 rfl) ?_
      refine q_VV (As := []) (rest := []) ⟨xE, xB, xM, xO, xT⟩ (kX7_changes l G r s P U p X y q0 q1 q2 q3 sp re B wd hg ow (by omega)) (cwV 0 xT gX7_leave_X7_changes rfl rfl rfl (by decide +kernel) ⟨Nat.le_of_ble_eq_true rfl, Nat.le_of_ble_eq_true rfl⟩) xK xP xD xS [0, 1, 2, 3, 4, 5] rfl (by decide +kernel) (fun _ => rfl) 0 rfl rfl rfl rfl xL.1 rfl (Nat.le_of_ble_eq_true rfl) dX7_leave_31 ⟨Nat.le_refl _, Nat.le_refl _⟩ (fun u_31 H locs h_31 xP xD xS => ?_)
      have xP : va_P G.1 vwCl (wU G r (s, chgQ s P p, U, chgN p, X, y, q0, q1, q2, q3, sp, re, B, wd, hg, ow)) H := xP
      have xD : va_D A (wU G r (s, chgQ s P p, U, chgN p, X, y, q0, q1, q2, q3, sp, re, B, wd, hg, ow)) := xD
      refine lv_aload_n xE xB dX7_leave_34 rfl (lv_at xL 0 rfl) ?_
      refine va_get (D := G.1) (ci := 7) (v := .ref r.2.1) (C := RX7) (T := TX7) (N := 16) xE xB xT khX7_leave_X7 xO xK.1 xP 0 rfl rfl 0 (by decide) (xT _ kX7_leave_f7) (fun _ h9 => h9) rfl dX7_leave_35 ?_
      refine lv_iconst (v := nI 4) xE xB dX7_leave_38 (by decide) ?_
      refine q_ald xE xB xK xP 1 rfl (by omega) (by decide) dX7_leave_39 ?_
      refine q_eq (y := nI o) (congrArg (fun z => z) (g4)) ?_
      refine lv_istore_n (lv' := [(2, .int (nI o)), (0, .ref r.1), (1, .int v1)]) xE xB dX7_leave_40 rfl xL (by decide) rfl (fun ls xL => ?_)
      refine lv_aload_n xE xB dX7_leave_41 rfl (lv_at xL 1 rfl) ?_
      refine va_get (D := G.1) (ci := 7) (v := .ref r.2.1) (C := RX7) (T := TX7) (N := 16) xE xB xT khX7_leave_X7 xO xK.1 xP 0 rfl rfl 0 (by decide) (xT _ kX7_leave_f7) (fun _ h9 => h9) rfl dX7_leave_42 ?_
      refine lv_iconst (v := nI 4) xE xB dX7_leave_45 (by decide) ?_
      refine lv_iload_n xE xB dX7_leave_46 rfl (lv_at xL 2 rfl) ?_
      refine q_ast xE xB xK xP xD xS 1 rfl (by omega) (by decide) dX7_leave_47 (fun H locs xP xD xS => ?_)
      have xP : va_P G.1 vwCl (wU G r (upd s 4 v1, chgQ s P p, U, chgN p, X, y, q0, q1, q2, q3, sp, re, B, wd, hg, ow)) H := xP
      have xD : va_D A (wU G r (upd s 4 v1, chgQ s P p, U, chgN p, X, y, q0, q1, q2, q3, sp, re, B, wd, hg, ow)) := xD
      refine lv_iload_n xE xB dX7_leave_48 rfl (lv_at xL 0 rfl) ?_
      exact xQ _ _ _ _ _ (upd s 4 v1, chgQ s P p, chgN p) (by rw [show opLeave n o b v1 s pst p = (nI o, upd s 4 v1, chgP s pst p, chgN p) from (if_pos (by omega)).trans (if_neg (by omega))]; exact ⟨rfl, rfl, rfl, chgN_4 hp, PQ_chg hp hQ⟩) xP xD xS dX7_leave_49
    · skip
      refine lv_ldc (v := (-1000002)) xE xB xO (xT _ kX7_leave_c58) dX7_leave_27 ?_
      exact xQ _ _ _ _ _ (s, P, p) (by rw [show opLeave n o b v1 s pst p = (kNP, s, pst, p) from (if_pos (by omega)).trans (if_pos (by omega))]; exact ⟨rfl, rfl, rfl, hp, hQ⟩) xP xD xS dX7_leave_29
  · skip
    subst h_8
    have c_8 : ¬ (((nI 0) : Int32).toInt ≤ v1.toInt ∧ v1.toInt ≤ ((nI n) : Int32).toInt) := c_8
    refine lv_if_ne (tgt := 17) xE xB dX7_leave_11 (by decide) (fun h9 => absurd (by decide) h9) (fun _ => ?_)
    refine lv_ldc (v := (-1000001)) xE xB xO (xT _ kX7_leave_c37) dX7_leave_14 ?_
    exact xQ _ _ _ _ _ (s, P, p) (by (try (first | replace c_8 := (in_R (by omega) (by omega)).mp c_8 | replace c_8 := mt (in_R (by omega) (by omega)).mpr c_8)); rw [show opLeave n o b v1 s pst p = (kINV, s, pst, p) from if_neg (by omega)]; exact ⟨rfl, rfl, rfl, hp, hQ⟩) xP xD xS dX7_leave_16
theorem kX7_begin_c37 : Cond.constant RX7 37 (-1000001) ∈ wsX7_begin := by decide +kernel
theorem kX7_begin_c58 : Cond.constant RX7 58 (-1000002) ∈ wsX7_begin := by decide +kernel
theorem kX7_begin_f7 : Cond.fieldLink RX7 7 "SkewedSquareModel" "s" "[I" ∈ wsX7_begin := by decide +kernel
theorem khX7_begin_X7 : ∀ w ∈ u_ws RX7 TX7 16, w ∈ wsX7_begin := by decide +kernel
set_option maxHeartbeats 4000000 in
set_option maxRecDepth 100000 in
/-- kX7_begin -/
theorem kX7_begin (l : Launch) (G : wG) (r : RA) (s P U : wF) (p : Nat) (X : wF) (y q0 : Nat) (q1 : Int32) (q2 : Nat) (q3 : Int32) (sp re : Nat) (B : wF) (wd hg ow : Nat) (n o lr lc rc : Nat) (b : Nat) (pst : PF) (v1 v2 : Int32) (hD : RelD n o lr lc rc s) (hb : b ≤ 1 ∧ s 5 = nI b) (hp : p ≤ 4) (hQ : PQ pst P p) : CI (S := wF × wF × Nat) l yX7_begin wsX7_begin (rm 2 45) G [.ref r.1, .int v1, .int v2] (wU G r (s, P, U, p, X, y, q0, q1, q2, q3, sp, re, B, wd, hg, ow)) (fun x u9 => QO x u9 (opBegin lc n lr rc b v1 v2 s pst p)) (fun u9 => wU G r (u9.1, u9.2.1, U, u9.2.2, X, y, q0, q1, q2, q3, sp, re, B, wd, hg, ow)) := by
  refine CI.of (own := RX7) rfl (by decide) rfl (Nat.le_of_ble_eq_true rfl) ?_
  intro p9 e9 s9 m9 b9 t9 c9 A xE xB xM xO xT xK xP xD Q xQ xS ls hl
  have xL : lv_has ls 3 [(0, .ref r.1), (1, .int v1), (2, .int v2)] := hl
  obtain ⟨g0, g1, g2, g3, g4, ⟨hn1, hn2, hn3⟩, hm1, hm2, hm3, hm4, hm5, hm6⟩ := id hD
  have hb1 := hb.1
  have h61 : tls lr n ≤ 6 := tls_6 hm2 hn1
  have h62 : tls rc n ≤ 6 := tls_6 hm6 hn1
  have h63 : 1 ≤ tls lr n := tls_1 hm1 hn1
  have h64 : 1 ≤ tls rc n := tls_1 hm5 hn1
  refine lv_iload_n xE xB dX7_begin_0 rfl (lv_at xL 1 rfl) ?_
  refine lv_iconst (v := nI 0) xE xB dX7_begin_1 (by decide) ?_
  refine lv_aload_n xE xB dX7_begin_2 rfl (lv_at xL 0 rfl) ?_
  refine lv_aload_n xE xB dX7_begin_3 rfl (lv_at xL 0 rfl) ?_
  refine va_get (D := G.1) (ci := 7) (v := .ref r.2.1) (C := RX7) (T := TX7) (N := 16) xE xB xT khX7_begin_X7 xO xK.1 xP 0 rfl rfl 0 (by decide) (xT _ kX7_begin_f7) (fun _ h9 => h9) rfl dX7_begin_4 ?_
  refine lv_iconst (v := nI 1) xE xB dX7_begin_7 (by decide) ?_
  refine q_ald xE xB xK xP 1 rfl (by omega) (by decide) dX7_begin_8 ?_
  refine q_eq (y := nI lr) (congrArg (fun z => z) (g1)) ?_
  refine q_VR (As := [.int (nI lr)]) (rest := [.int (nI 0), .int v1]) ⟨xE, xB, xM, xO, xT⟩ (kX7_along l G r s P U p X y q0 q1 q2 q3 sp re B wd hg ow lr n (by exact g0) (by omega) (by omega)) (cwV 1 xT gX7_begin_X7_along rfl rfl rfl (by decide +kernel) ⟨Nat.le_of_ble_eq_true rfl, Nat.le_of_ble_eq_true rfl⟩) xK xP [0, 1, 2, 3, 4, 5] rfl 0 rfl rfl rfl rfl xL.1 rfl (Nat.le_of_ble_eq_true rfl) dX7_begin_9 ⟨Nat.le_refl _, Nat.le_refl _⟩ (fun r_9 h_9 => ?_)
  obtain rfl : r_9 = nI (tls lr n) := h_9
  refine lv_iconst (v := nI 1) xE xB dX7_begin_12 (by decide) ?_
  refine q_isub xE xB dX7_begin_13 (by omega) ?_
  refine q_SR (As := [.int v1, .int (nI 0), .int (nI ((tls lr n) - 1))]) (rest := []) ⟨xE, xB, xM, xO, xT⟩ (kX7_in l G v1 (nI 0) (nI ((tls lr n) - 1))) (va_cwS 3 xT gX7_begin_X7_in rfl rfl rfl (by decide +kernel) ⟨Nat.le_of_ble_eq_true rfl, Nat.le_of_ble_eq_true rfl⟩) xK xP [] rfl rfl xL.1 rfl (Nat.le_of_ble_eq_true rfl) dX7_begin_14 ⟨Nat.le_refl _, Nat.le_refl _⟩ (fun r_14 h_14 => ?_)
  rcases h_14 with ⟨h_14, c_14⟩ | ⟨h_14, c_14⟩
  · skip
    subst h_14
    have c_14 : ((nI 0) : Int32).toInt ≤ v1.toInt ∧ v1.toInt ≤ ((nI ((tls lr n) - 1)) : Int32).toInt := c_14
    refine lv_if_eq (tgt := 40) xE xB dX7_begin_17 (by decide) (fun h9 => absurd h9 (by decide)) (fun _ => ?_)
    refine lv_iload_n xE xB dX7_begin_20 rfl (lv_at xL 2 rfl) ?_
    refine lv_iconst (v := nI 0) xE xB dX7_begin_21 (by decide) ?_
    refine lv_aload_n xE xB dX7_begin_22 rfl (lv_at xL 0 rfl) ?_
    refine lv_aload_n xE xB dX7_begin_23 rfl (lv_at xL 0 rfl) ?_
    refine va_get (D := G.1) (ci := 7) (v := .ref r.2.1) (C := RX7) (T := TX7) (N := 16) xE xB xT khX7_begin_X7 xO xK.1 xP 0 rfl rfl 0 (by decide) (xT _ kX7_begin_f7) (fun _ h9 => h9) rfl dX7_begin_24 ?_
    refine lv_iconst (v := nI 3) xE xB dX7_begin_27 (by decide) ?_
    refine q_ald xE xB xK xP 1 rfl (by omega) (by decide) dX7_begin_28 ?_
    refine q_eq (y := nI rc) (congrArg (fun z => z) (g3)) ?_
    refine q_VR (As := [.int (nI rc)]) (rest := [.int (nI 0), .int v2]) ⟨xE, xB, xM, xO, xT⟩ (kX7_along l G r s P U p X y q0 q1 q2 q3 sp re B wd hg ow rc n (by exact g0) (by omega) (by omega)) (cwV 1 xT gX7_begin_X7_along rfl rfl rfl (by decide +kernel) ⟨Nat.le_of_ble_eq_true rfl, Nat.le_of_ble_eq_true rfl⟩) xK xP [0, 1, 2, 3, 4, 5] rfl 0 rfl rfl rfl rfl xL.1 rfl (Nat.le_of_ble_eq_true rfl) dX7_begin_29 ⟨Nat.le_refl _, Nat.le_refl _⟩ (fun r_29 h_29 => ?_)
    obtain rfl : r_29 = nI (tls rc n) := h_29
    refine lv_iconst (v := nI 1) xE xB dX7_begin_32 (by decide) ?_
    refine q_isub xE xB dX7_begin_33 (by omega) ?_
    refine q_SR (As := [.int v2, .int (nI 0), .int (nI ((tls rc n) - 1))]) (rest := []) ⟨xE, xB, xM, xO, xT⟩ (kX7_in l G v2 (nI 0) (nI ((tls rc n) - 1))) (va_cwS 3 xT gX7_begin_X7_in rfl rfl rfl (by decide +kernel) ⟨Nat.le_of_ble_eq_true rfl, Nat.le_of_ble_eq_true rfl⟩) xK xP [] rfl rfl xL.1 rfl (Nat.le_of_ble_eq_true rfl) dX7_begin_34 ⟨Nat.le_refl _, Nat.le_refl _⟩ (fun r_34 h_34 => ?_)
    rcases h_34 with ⟨h_34, c_34⟩ | ⟨h_34, c_34⟩
    · skip
      subst h_34
      have c_34 : ((nI 0) : Int32).toInt ≤ v2.toInt ∧ v2.toInt ≤ ((nI ((tls rc n) - 1)) : Int32).toInt := c_34
      refine lv_if_ne (tgt := 43) xE xB dX7_begin_37 (by decide) (fun _ => ?_) (fun h9 => absurd h9 (by decide))
      (try (first | replace c_14 := (in_R (by omega) (by omega)).mp c_14 | replace c_14 := mt (in_R (by omega) (by omega)).mpr c_14)); (try (first | replace c_34 := (in_R (by omega) (by omega)).mp c_34 | replace c_34 := mt (in_R (by omega) (by omega)).mpr c_34))
      refine lv_aload_n xE xB dX7_begin_43 rfl (lv_at xL 0 rfl) ?_
      refine va_get (D := G.1) (ci := 7) (v := .ref r.2.1) (C := RX7) (T := TX7) (N := 16) xE xB xT khX7_begin_X7 xO xK.1 xP 0 rfl rfl 0 (by decide) (xT _ kX7_begin_f7) (fun _ h9 => h9) rfl dX7_begin_44 ?_
      refine lv_iconst (v := nI 5) xE xB dX7_begin_47 (by decide) ?_
      refine q_ald xE xB xK xP 1 rfl (by omega) (by decide) dX7_begin_48 ?_
      refine q_eq (y := nI b) (congrArg (fun z => z) (hb.2)) ?_
      refine lv_iconst (v := nI 1) xE xB dX7_begin_49 (by decide) ?_
      refine q_icmp_ne (tgt := 56) xE xB dX7_begin_50 (by decide) (by omega) (by omega) (fun c_50 => ?_) (fun c_50 => ?_)
      · skip
        have e_v1 : v1 = nI (tN v1) := tN_eq (by omega)
        have b_v1 : (tN v1 : Int) = v1.toInt := tN_z (by omega)
        rw [e_v1] at xL
        have xL : lv_has ls 3 [(0, .ref r.1), (1, .int (nI (tN v1))), (2, .int v2)] := xL
        have e_v2 : v2 = nI (tN v2) := tN_eq (by omega)
        have b_v2 : (tN v2 : Int) = v2.toInt := tN_z (by omega)
        rw [e_v2] at xL
        have xL : lv_has ls 3 [(0, .ref r.1), (1, .int (nI (tN v1))), (2, .int (nI (tN v2)))] := xL
        have gh1 : n * tN v1 < lr := tls_lt (by omega) hn1
        have gh2 : n * tN v2 < rc := tls_lt (by omega) hn1
        refine lv_aload_n xE xB dX7_begin_56 rfl (lv_at xL 0 rfl) ?_
        refine q_VV (As := []) (rest := []) ⟨xE, xB, xM, xO, xT⟩ (kX7_changes l G r s P U p X y q0 q1 q2 q3 sp re B wd hg ow (by omega)) (cwV 0 xT gX7_begin_X7_changes rfl rfl rfl (by decide +kernel) ⟨Nat.le_of_ble_eq_true rfl, Nat.le_of_ble_eq_true rfl⟩) xK xP xD xS [0, 1, 2, 3, 4, 5] rfl (by decide +kernel) (fun _ => rfl) 0 rfl rfl rfl rfl xL.1 rfl (Nat.le_of_ble_eq_true rfl) dX7_begin_57 ⟨Nat.le_refl _, Nat.le_refl _⟩ (fun u_57 H locs h_57 xP xD xS => ?_)
        have xP : va_P G.1 vwCl (wU G r (s, chgQ s P p, U, chgN p, X, y, q0, q1, q2, q3, sp, re, B, wd, hg, ow)) H := xP
        have xD : va_D A (wU G r (s, chgQ s P p, U, chgN p, X, y, q0, q1, q2, q3, sp, re, B, wd, hg, ow)) := xD
        refine lv_aload_n xE xB dX7_begin_60 rfl (lv_at xL 0 rfl) ?_
        refine lv_iload_n xE xB dX7_begin_61 rfl (lv_at xL 1 rfl) ?_
        refine lv_iload_n xE xB dX7_begin_62 rfl (lv_at xL 2 rfl) ?_
        refine q_VV (As := [.int (nI (tN v1)), .int (nI (tN v2))]) (rest := []) ⟨xE, xB, xM, xO, xT⟩ (kX7_begins l G r s (chgQ s P p) U (chgN p) X y q0 q1 q2 q3 sp re B wd hg ow (tN v1) (tN v2) (by exact chgN_4 hp)) (cwV 2 xT gX7_begin_X7_begins rfl rfl rfl (by decide +kernel) ⟨Nat.le_of_ble_eq_true rfl, Nat.le_of_ble_eq_true rfl⟩) xK xP xD xS [0, 1, 2, 3, 4, 5] rfl (by decide +kernel) (fun _ => rfl) 0 rfl rfl rfl rfl xL.1 rfl (Nat.le_of_ble_eq_true rfl) dX7_begin_63 ⟨Nat.le_refl _, Nat.le_refl _⟩ (fun u_63 H locs h_63 xP xD xS => ?_)
        have xP : va_P G.1 vwCl (wU G r (bgF (tN v1) (tN v2) s, chgQ s P p, U, chgN p, X, y, q0, q1, q2, q3, sp, re, B, wd, hg, ow)) H := xP
        have xD : va_D A (wU G r (bgF (tN v1) (tN v2) s, chgQ s P p, U, chgN p, X, y, q0, q1, q2, q3, sp, re, B, wd, hg, ow)) := xD
        refine lv_aload_n xE xB dX7_begin_66 rfl (lv_at xL 0 rfl) ?_
        refine q_VR (As := []) (rest := []) ⟨xE, xB, xM, xO, xT⟩ (kX7_ticks l G r (bgF (tN v1) (tN v2) s) (chgQ s P p) U (chgN p) X y q0 q1 q2 q3 sp re B wd hg ow n o lr lc rc (tN v1) (tN v2) (by exact hD.e bgF_lo) (by exact bgF_E gh1 gh2)) (cwV 0 xT gX7_begin_X7_ticks rfl rfl rfl (by decide +kernel) ⟨Nat.le_of_ble_eq_true rfl, Nat.le_of_ble_eq_true rfl⟩) xK xP [0, 1, 2, 3, 4, 5] rfl 0 rfl rfl rfl rfl xL.1 rfl (Nat.le_of_ble_eq_true rfl) dX7_begin_67 ⟨Nat.le_refl _, Nat.le_refl _⟩ (fun r_67 h_67 => ?_)
        obtain rfl : r_67 = nI (need lc n lr rc (tN v1) (tN v2)) := h_67
        exact xQ _ _ _ _ _ (bgF (tN v1) (tN v2) s, chgQ s P p, chgN p) (by rw [show opBegin lc n lr rc b v1 v2 s pst p = (nI (need lc n lr rc (tN v1) (tN v2)), bgF (tN v1) (tN v2) s, chgP s pst p, chgN p) from (if_pos (by omega)).trans (if_neg (by omega))]; exact ⟨rfl, rfl, rfl, chgN_4 hp, PQ_chg hp hQ⟩) xP xD xS dX7_begin_70
      · skip
        refine lv_ldc (v := (-1000002)) xE xB xO (xT _ kX7_begin_c58) dX7_begin_53 ?_
        exact xQ _ _ _ _ _ (s, P, p) (by rw [show opBegin lc n lr rc b v1 v2 s pst p = (kNP, s, pst, p) from (if_pos (by omega)).trans (if_pos (by omega))]; exact ⟨rfl, rfl, rfl, hp, hQ⟩) xP xD xS dX7_begin_55
    · skip
      subst h_34
      have c_34 : ¬ (((nI 0) : Int32).toInt ≤ v2.toInt ∧ v2.toInt ≤ ((nI ((tls rc n) - 1)) : Int32).toInt) := c_34
      refine lv_if_ne (tgt := 43) xE xB dX7_begin_37 (by decide) (fun h9 => absurd (by decide) h9) (fun _ => ?_)
      refine lv_ldc (v := (-1000001)) xE xB xO (xT _ kX7_begin_c37) dX7_begin_40 ?_
      exact xQ _ _ _ _ _ (s, P, p) (by (try (first | replace c_14 := (in_R (by omega) (by omega)).mp c_14 | replace c_14 := mt (in_R (by omega) (by omega)).mpr c_14)); (try (first | replace c_34 := (in_R (by omega) (by omega)).mp c_34 | replace c_34 := mt (in_R (by omega) (by omega)).mpr c_34)); rw [show opBegin lc n lr rc b v1 v2 s pst p = (kINV, s, pst, p) from if_neg (by omega)]; exact ⟨rfl, rfl, rfl, hp, hQ⟩) xP xD xS dX7_begin_42
  · skip
    subst h_14
    have c_14 : ¬ (((nI 0) : Int32).toInt ≤ v1.toInt ∧ v1.toInt ≤ ((nI ((tls lr n) - 1)) : Int32).toInt) := c_14
    refine lv_if_eq (tgt := 40) xE xB dX7_begin_17 (by decide) (fun _ => ?_) (fun h9 => absurd (by decide) h9)
    refine lv_ldc (v := (-1000001)) xE xB xO (xT _ kX7_begin_c37) dX7_begin_40 ?_
    exact xQ _ _ _ _ _ (s, P, p) (by (try (first | replace c_14 := (in_R (by omega) (by omega)).mp c_14 | replace c_14 := mt (in_R (by omega) (by omega)).mpr c_14)); (try (first | replace c_34 := (in_R (by omega) (by omega)).mp c_34 | replace c_34 := mt (in_R (by omega) (by omega)).mpr c_34)); rw [show opBegin lc n lr rc b v1 v2 s pst p = (kINV, s, pst, p) from if_neg (by omega)]; exact ⟨rfl, rfl, rfl, hp, hQ⟩) xP xD xS dX7_begin_42
