/-! ref3: faultOf, isKnown, due -/
theorem kX7_faultOf_f7 : Cond.fieldLink RX7 7 "SkewedSquareModel" "s" "[I" ∈ wsX7_faultOf := by decide +kernel
theorem khX7_faultOf_X7 : ∀ w ∈ u_ws RX7 TX7 16, w ∈ wsX7_faultOf := by decide +kernel
set_option maxHeartbeats 4000000 in
set_option maxRecDepth 100000 in
/-- kX7_faultOf -/
theorem kX7_faultOf (l : Launch) (G : wG) (r : RA) (s P U : wF) (p : Nat) (X : wF) (y q0 : Nat) (q1 : Int32) (q2 : Nat) (q3 : Int32) (sp re : Nat) (B : wF) (wd hg ow : Nat) (n o lr lc rc : Nat) (i j : Nat) (hD : RelD n o lr lc rc s) (hi : i < 4) (hj : j < 4) : CR l yX7_faultOf wsX7_faultOf (rm 1 21) G [.ref r.1, .int (nI i), .int (nI j)] (wU G r (s, P, U, p, X, y, q0, q1, q2, q3, sp, re, B, wd, hg, ow)) (fun x => x = kdF o i j s) := by
  refine CR.of (own := RX7) rfl (by decide) rfl (Nat.le_of_ble_eq_true rfl) ?_
  intro p9 e9 s9 m9 b9 t9 c9 xE xB xM xO xT xK xP Q xQ ls hl
  have xL : lv_has ls 3 [(0, .ref r.1), (1, .int (nI i)), (2, .int (nI j))] := hl
  obtain ⟨g0, g1, g2, g3, g4, ⟨hn1, hn2, hn3⟩, hm1, hm2, hm3, hm4, hm5, hm6⟩ := id hD
  have hpl : (if j < o then j else j + 1) ≤ 4 := by split <;> omega
  refine lv_aload_n xE xB dX7_faultOf_0 rfl (lv_at xL 0 rfl) ?_
  refine va_get (D := G.1) (ci := 7) (v := .ref r.2.1) (C := RX7) (T := TX7) (N := 16) xE xB xT khX7_faultOf_X7 xO xK.1 xP 0 rfl rfl 0 (by decide) (xT _ kX7_faultOf_f7) (fun _ h9 => h9) rfl dX7_faultOf_1 ?_
  refine lv_sipush (v := nI 153) xE xB dX7_faultOf_4 (by decide) ?_
  refine lv_iconst (v := nI 5) xE xB dX7_faultOf_7 (by decide) ?_
  refine lv_iload_n xE xB dX7_faultOf_8 rfl (lv_at xL 1 rfl) ?_
  refine q_imul xE xB dX7_faultOf_9 ?_
  refine q_iadd xE xB dX7_faultOf_10 ?_
  refine lv_aload_n xE xB dX7_faultOf_11 rfl (lv_at xL 0 rfl) ?_
  refine lv_iload_n xE xB dX7_faultOf_12 rfl (lv_at xL 2 rfl) ?_
  refine q_VR (As := [.int (nI j)]) (rest := [.int (nI (153 + (5 * i))), .ref r.2.1]) ⟨xE, xB, xM, xO, xT⟩ (kX7_placeOf l G r s P U p X y q0 q1 q2 q3 sp re B wd hg ow n o lr lc rc j (by exact hD) (by omega)) (cwV 1 xT gX7_faultOf_X7_placeOf rfl rfl rfl (by decide +kernel) ⟨Nat.le_of_ble_eq_true rfl, Nat.le_of_ble_eq_true rfl⟩) xK xP [0, 1, 2, 3, 4, 5] rfl 0 rfl rfl rfl rfl xL.1 rfl (Nat.le_of_ble_eq_true rfl) dX7_faultOf_13 ⟨Nat.le_refl _, Nat.le_refl _⟩ (fun r_13 h_13 => ?_)
  obtain rfl : r_13 = nI (if j < o then j else j + 1) := h_13
  refine q_iadd xE xB dX7_faultOf_16 ?_
  refine q_ald xE xB xK xP 1 rfl (by omega) (by decide) dX7_faultOf_17 ?_
  exact xQ _ _ _ (by exact rfl) dX7_faultOf_18
theorem kX7_isKnown_f7 : Cond.fieldLink RX7 7 "SkewedSquareModel" "s" "[I" ∈ wsX7_isKnown := by decide +kernel
theorem khX7_isKnown_X7 : ∀ w ∈ u_ws RX7 TX7 16, w ∈ wsX7_isKnown := by decide +kernel
set_option maxHeartbeats 4000000 in
set_option maxRecDepth 100000 in
/-- kX7_isKnown -/
theorem kX7_isKnown (l : Launch) (G : wG) (r : RA) (s P U : wF) (p : Nat) (X : wF) (y q0 : Nat) (q1 : Int32) (q2 : Nat) (q3 : Int32) (sp re : Nat) (B : wF) (wd hg ow : Nat) (n o lr lc rc : Nat) (i j : Nat) (hD : RelD n o lr lc rc s) (hi : i < 6) (hj : j < 6) : CR l yX7_isKnown wsX7_isKnown (rm 0 0) G [.ref r.1, .int (nI i), .int (nI j)] (wU G r (s, P, U, p, X, y, q0, q1, q2, q3, sp, re, B, wd, hg, ow)) (fun x => (x = nI 1 ∧ (s (117 + (6 * i + j)) = nI 1)) ∨ (x = nI 0 ∧ ¬ (s (117 + (6 * i + j)) = nI 1))) := by
  refine CR.ofZ (own := RX7) rfl (by decide) rfl (Nat.le_of_ble_eq_true rfl) ?_
  intro p9 e9 s9 m9 b9 t9 c9 xE xB xM xO xT xK xP Q xQ ls hl
  have xL : lv_has ls 3 [(0, .ref r.1), (1, .int (nI i)), (2, .int (nI j))] := hl
  obtain ⟨g0, g1, g2, g3, g4, ⟨hn1, hn2, hn3⟩, hm1, hm2, hm3, hm4, hm5, hm6⟩ := id hD
  refine lv_aload_n xE xB dX7_isKnown_0 rfl (lv_at xL 0 rfl) ?_
  refine va_get (D := G.1) (ci := 7) (v := .ref r.2.1) (C := RX7) (T := TX7) (N := 16) xE xB xT khX7_isKnown_X7 xO xK.1 xP 0 rfl rfl 0 (by decide) (xT _ kX7_isKnown_f7) (fun _ h9 => h9) rfl dX7_isKnown_1 ?_
  refine lv_bipush (v := nI 117) xE xB dX7_isKnown_4 (by decide) ?_
  refine lv_bipush (v := nI 6) xE xB dX7_isKnown_6 (by decide) ?_
  refine lv_iload_n xE xB dX7_isKnown_8 rfl (lv_at xL 1 rfl) ?_
  refine q_imul xE xB dX7_isKnown_9 ?_
  refine q_iadd xE xB dX7_isKnown_10 ?_
  refine lv_iload_n xE xB dX7_isKnown_11 rfl (lv_at xL 2 rfl) ?_
  refine q_iadd xE xB dX7_isKnown_12 ?_
  refine q_ald xE xB xK xP 1 rfl (by omega) (by decide) dX7_isKnown_13 ?_
  refine lv_iconst (v := nI 1) xE xB dX7_isKnown_14 (by decide) ?_
  refine lv_icmp_ne (tgt := 22) xE xB dX7_isKnown_15 (by decide) (fun c_15 => ?_) (fun c_15 => ?_)
  · skip
    refine lv_iconst (v := nI 0) xE xB dX7_isKnown_22 (by decide) ?_
    exact xQ _ _ _ (Or.inr ⟨rfl, by rw [Nat.add_assoc] at c_15; exact c_15⟩) (by decide) dX7_isKnown_23
  · skip
    refine lv_iconst (v := nI 1) xE xB dX7_isKnown_18 (by decide) ?_
    refine lv_goto (tgt := 23) xE xB dX7_isKnown_19 (by decide) ?_
    exact xQ _ _ _ (Or.inl ⟨rfl, by rw [Nat.add_assoc] at c_15; exact c_15⟩) (by decide) dX7_isKnown_23
theorem kX7_due_f7 : Cond.fieldLink RX7 7 "SkewedSquareModel" "s" "[I" ∈ wsX7_due := by decide +kernel
theorem khX7_due_X7 : ∀ w ∈ u_ws RX7 TX7 16, w ∈ wsX7_due := by decide +kernel
set_option maxHeartbeats 4000000 in
set_option maxRecDepth 100000 in
/-- kX7_due -/
theorem kX7_due (l : Launch) (G : wG) (r : RA) (s P U : wF) (p : Nat) (X : wF) (y q0 : Nat) (q1 : Int32) (q2 : Nat) (q3 : Int32) (sp re : Nat) (B : wF) (wd hg ow : Nat) (n o lr lc rc : Nat) (i j : Nat) (hD : RelD n o lr lc rc s) (hi : i < 6) (hj : j < 6) : CR l yX7_due wsX7_due (rm 0 0) G [.ref r.1, .int (nI i), .int (nI j)] (wU G r (s, P, U, p, X, y, q0, q1, q2, q3, sp, re, B, wd, hg, ow)) (fun x => x = dueF lc s i j) := by
  refine CR.of (own := RX7) rfl (by decide) rfl (Nat.le_of_ble_eq_true rfl) ?_
  intro p9 e9 s9 m9 b9 t9 c9 xE xB xM xO xT xK xP Q xQ ls hl
  have xL : lv_has ls 5 [(0, .ref r.1), (1, .int (nI i)), (2, .int (nI j))] := hl
  obtain ⟨g0, g1, g2, g3, g4, ⟨hn1, hn2, hn3⟩, hm1, hm2, hm3, hm4, hm5, hm6⟩ := id hD
  refine lv_iconst (v := nI 0) xE xB dX7_due_0 (by decide) ?_
  refine lv_istore_n (lv' := [(3, .int (nI 0)), (0, .ref r.1), (1, .int (nI i)), (2, .int (nI j))]) xE xB dX7_due_1 rfl xL (by decide) rfl (fun ls xL => ?_)
  refine lv_iconst (v := nI 0) xE xB dX7_due_2 (by decide) ?_
  refine lv_istore (lv' := [(4, .int (nI 0)), (3, .int (nI 0)), (0, .ref r.1), (1, .int (nI i)), (2, .int (nI j))]) xE xB dX7_due_3 xL (by decide) rfl (fun ls xL => ?_)
  have L_5 : ∀ (n_5 : Nat) (k : Nat) (x : Int32), (k ≤ lc) → (x = sm (fun q => s (9 + (6 * i + q)) * s (45 + (6 * q + j))) k) → lc - k < n_5 → ∀ (ls : Array Slot), lv_has ls 5 [(0, .ref r.1), (1, .int (nI i)), (2, .int (nI j)), (3, .int x), (4, .int (nI k))] → W p9 l e9 (rm 0 0) s9 m9 ([.ref r.1, .int (nI i), .int (nI j)] : List Value).toArray b9 t9 c9 s9.heap [] 0 0 Q (F0 m9 5 ls []) := by
    intro n_5
    induction n_5 with
    | zero => intro k x hk hx hm_5 ls xL; exact absurd hm_5 (Nat.not_lt_zero _)
    | succ n_5 ih_5 =>
      intro k x hk hx hm_5 ls xL
      refine lv_iload xE xB dX7_due_5 (lv_at xL 4 rfl) ?_
      refine lv_aload_n xE xB dX7_due_7 rfl (lv_at xL 0 rfl) ?_
      refine va_get (D := G.1) (ci := 7) (v := .ref r.2.1) (C := RX7) (T := TX7) (N := 16) xE xB xT khX7_due_X7 xO xK.1 xP 0 rfl rfl 0 (by decide) (xT _ kX7_due_f7) (fun _ h9 => h9) rfl dX7_due_8 ?_
      refine lv_iconst (v := nI 2) xE xB dX7_due_11 (by decide) ?_
      refine q_ald xE xB xK xP 1 rfl (by omega) (by decide) dX7_due_12 ?_
      refine q_eq (y := nI lc) (congrArg (fun z => z) (g2)) ?_
      refine q_icmp_ge (tgt := 56) xE xB dX7_due_13 (by decide) (by omega) (by omega) (fun c_13 => ?_) (fun c_13 => ?_)
      · skip
        obtain rfl : lc = k := by omega
        refine lv_iload_n xE xB dX7_due_56 rfl (lv_at xL 3 rfl) ?_
        exact xQ _ _ _ (by exact hx) dX7_due_57
      · skip
        refine lv_iload_n xE xB dX7_due_16 rfl (lv_at xL 3 rfl) ?_
        refine lv_aload_n xE xB dX7_due_17 rfl (lv_at xL 0 rfl) ?_
        refine va_get (D := G.1) (ci := 7) (v := .ref r.2.1) (C := RX7) (T := TX7) (N := 16) xE xB xT khX7_due_X7 xO xK.1 xP 0 rfl rfl 0 (by decide) (xT _ kX7_due_f7) (fun _ h9 => h9) rfl dX7_due_18 ?_
        refine lv_bipush (v := nI 9) xE xB dX7_due_21 (by decide) ?_
        refine lv_bipush (v := nI 6) xE xB dX7_due_23 (by decide) ?_
        refine lv_iload_n xE xB dX7_due_25 rfl (lv_at xL 1 rfl) ?_
        refine q_imul xE xB dX7_due_26 ?_
        refine q_iadd xE xB dX7_due_27 ?_
        refine lv_iload xE xB dX7_due_28 (lv_at xL 4 rfl) ?_
        refine q_iadd xE xB dX7_due_30 ?_
        refine q_ald xE xB xK xP 1 rfl (by omega) (by decide) dX7_due_31 ?_
        refine lv_aload_n xE xB dX7_due_32 rfl (lv_at xL 0 rfl) ?_
        refine va_get (D := G.1) (ci := 7) (v := .ref r.2.1) (C := RX7) (T := TX7) (N := 16) xE xB xT khX7_due_X7 xO xK.1 xP 0 rfl rfl 0 (by decide) (xT _ kX7_due_f7) (fun _ h9 => h9) rfl dX7_due_33 ?_
        refine lv_bipush (v := nI 45) xE xB dX7_due_36 (by decide) ?_
        refine lv_bipush (v := nI 6) xE xB dX7_due_38 (by decide) ?_
        refine lv_iload xE xB dX7_due_40 (lv_at xL 4 rfl) ?_
        refine q_imul xE xB dX7_due_42 ?_
        refine q_iadd xE xB dX7_due_43 ?_
        refine lv_iload_n xE xB dX7_due_44 rfl (lv_at xL 2 rfl) ?_
        refine q_iadd xE xB dX7_due_45 ?_
        refine q_ald xE xB xK xP 1 rfl (by omega) (by decide) dX7_due_46 ?_
        refine lv_imul xE xB dX7_due_47 ?_
        refine lv_iadd xE xB dX7_due_48 ?_
        refine lv_istore_n (lv' := [(3, .int (x + ((s ((9 + (6 * i)) + k)) * (s ((45 + (6 * k)) + j))))), (0, .ref r.1), (1, .int (nI i)), (2, .int (nI j)), (4, .int (nI k))]) xE xB dX7_due_49 rfl xL (by decide) rfl (fun ls xL => ?_)
        refine lv_iinc (v := nI (k + 1)) (lv' := [(4, .int (nI (k + 1))), (3, .int (x + ((s ((9 + (6 * i)) + k)) * (s ((45 + (6 * k)) + j))))), (0, .ref r.1), (1, .int (nI i)), (2, .int (nI j))]) xE xB dX7_due_50 xL (k := 4) rfl (q_inc _ _) (by decide) rfl (fun ls xL => ?_)
        refine lv_goto (tgt := 5) xE xB dX7_due_53 (by decide) ?_
        exact ih_5 (k + 1) (x + ((s ((9 + (6 * i)) + k)) * (s ((45 + (6 * k)) + j)))) (by omega) (by rw [hx, Nat.add_assoc 9, Nat.add_assoc 45]; rfl) (by omega) _ (lv_sub xL [2, 3, 4, 1, 0] rfl)
  exact L_5 (lc - 0 + 1) 0 (nI 0) (by omega) (by rfl) (Nat.lt_succ_self _) _ (lv_sub xL [2, 3, 4, 1, 0] rfl)
