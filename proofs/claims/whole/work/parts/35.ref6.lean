/-! ref6: known, wrong -/
theorem kX7_known_f7 : Cond.fieldLink RX7 7 "SkewedSquareModel" "s" "[I" ∈ wsX7_known := by decide +kernel
theorem khX7_known_X7 : ∀ w ∈ u_ws RX7 TX7 16, w ∈ wsX7_known := by decide +kernel
set_option maxHeartbeats 4000000 in
set_option maxRecDepth 100000 in
/-- kX7_known -/
theorem kX7_known (l : Launch) (G : wG) (r : RA) (s P U : wF) (p : Nat) (X : wF) (y q0 : Nat) (q1 : Int32) (q2 : Nat) (q3 : Int32) (sp re : Nat) (B : wF) (wd hg ow : Nat) (n o lr lc rc : Nat) (hD : RelD n o lr lc rc s) : CR l yX7_known wsX7_known (rm 0 0) G [.ref r.1] (wU G r (s, P, U, p, X, y, q0, q1, q2, q3, sp, re, B, wd, hg, ow)) (fun x => x = sm (fun q => s (117 + q)) 36) := by
  refine CR.of (own := RX7) rfl (by decide) rfl (Nat.le_of_ble_eq_true rfl) ?_
  intro p9 e9 s9 m9 b9 t9 c9 xE xB xM xO xT xK xP Q xQ ls hl
  have xL : lv_has ls 3 [(0, .ref r.1)] := hl
  refine lv_iconst (v := nI 0) xE xB dX7_known_0 (by decide) ?_
  refine lv_istore_n (lv' := [(1, .int (nI 0)), (0, .ref r.1)]) xE xB dX7_known_1 rfl xL (by decide) rfl (fun ls xL => ?_)
  refine lv_iconst (v := nI 0) xE xB dX7_known_2 (by decide) ?_
  refine lv_istore_n (lv' := [(2, .int (nI 0)), (1, .int (nI 0)), (0, .ref r.1)]) xE xB dX7_known_3 rfl xL (by decide) rfl (fun ls xL => ?_)
  have L_4 : ∀ (n_4 : Nat) (i : Nat) (x : Int32), (i ≤ 36) → (x = sm (fun q => s (117 + q)) i) → 36 - i < n_4 → ∀ (ls : Array Slot), lv_has ls 3 [(0, .ref r.1), (1, .int x), (2, .int (nI i))] → W p9 l e9 (rm 0 0) s9 m9 ([.ref r.1] : List Value).toArray b9 t9 c9 s9.heap [] 0 0 Q (F0 m9 4 ls []) := by
    intro n_4
    induction n_4 with
    | zero => intro i x hi hx hm_4 ls xL; exact absurd hm_4 (Nat.not_lt_zero _)
    | succ n_4 ih_4 =>
      intro i x hi hx hm_4 ls xL
      refine lv_iload_n xE xB dX7_known_4 rfl (lv_at xL 2 rfl) ?_
      refine lv_bipush (v := nI 36) xE xB dX7_known_5 (by decide) ?_
      refine q_icmp_ge (tgt := 28) xE xB dX7_known_7 (by decide) (by omega) (by omega) (fun c_7 => ?_) (fun c_7 => ?_)
      · skip
        obtain rfl : i = 36 := by omega
        refine lv_iload_n xE xB dX7_known_28 rfl (lv_at xL 1 rfl) ?_
        exact xQ _ _ _ (by exact hx) dX7_known_29
      · skip
        refine lv_iload_n xE xB dX7_known_10 rfl (lv_at xL 1 rfl) ?_
        refine lv_aload_n xE xB dX7_known_11 rfl (lv_at xL 0 rfl) ?_
        refine va_get (D := G.1) (ci := 7) (v := .ref r.2.1) (C := RX7) (T := TX7) (N := 16) xE xB xT khX7_known_X7 xO xK.1 xP 0 rfl rfl 0 (by decide) (xT _ kX7_known_f7) (fun _ h9 => h9) rfl dX7_known_12 ?_
        refine lv_bipush (v := nI 117) xE xB dX7_known_15 (by decide) ?_
        refine lv_iload_n xE xB dX7_known_17 rfl (lv_at xL 2 rfl) ?_
        refine q_iadd xE xB dX7_known_18 ?_
        refine q_ald xE xB xK xP 1 rfl (by omega) (by decide) dX7_known_19 ?_
        refine lv_iadd xE xB dX7_known_20 ?_
        refine lv_istore_n (lv' := [(1, .int (x + (s (117 + i)))), (0, .ref r.1), (2, .int (nI i))]) xE xB dX7_known_21 rfl xL (by decide) rfl (fun ls xL => ?_)
        refine lv_iinc (v := nI (i + 1)) (lv' := [(2, .int (nI (i + 1))), (1, .int (x + (s (117 + i)))), (0, .ref r.1)]) xE xB dX7_known_22 xL (k := 2) rfl (q_inc _ _) (by decide) rfl (fun ls xL => ?_)
        refine lv_goto (tgt := 4) xE xB dX7_known_25 (by decide) ?_
        exact ih_4 (i + 1) (x + (s (117 + i))) (by omega) (by rw [hx]; rfl) (by omega) _ (lv_sub xL [2, 1, 0] rfl)
  exact L_4 (36 - 0 + 1) 0 (nI 0) (by omega) (by rfl) (Nat.lt_succ_self _) _ (lv_sub xL [2, 1, 0] rfl)
theorem kX7_wrong_f7 : Cond.fieldLink RX7 7 "SkewedSquareModel" "s" "[I" ∈ wsX7_wrong := by decide +kernel
theorem khX7_wrong_X7 : ∀ w ∈ u_ws RX7 TX7 16, w ∈ wsX7_wrong := by decide +kernel
set_option maxHeartbeats 4000000 in
set_option maxRecDepth 100000 in
/-- kX7_wrong -/
theorem kX7_wrong (l : Launch) (G : wG) (r : RA) (s P U : wF) (p : Nat) (X : wF) (y q0 : Nat) (q1 : Int32) (q2 : Nat) (q3 : Int32) (sp re : Nat) (B : wF) (wd hg ow : Nat) (n o lr lc rc : Nat) (hD : RelD n o lr lc rc s) : CR l yX7_wrong wsX7_wrong (rm 1 24) G [.ref r.1] (wU G r (s, P, U, p, X, y, q0, q1, q2, q3, sp, re, B, wd, hg, ow)) (fun x => x = nI (wrN lr lc rc s)) := by
  refine CR.of (own := RX7) rfl (by decide) rfl (Nat.le_of_ble_eq_true rfl) ?_
  intro p9 e9 s9 m9 b9 t9 c9 xE xB xM xO xT xK xP Q xQ ls hl
  have xL : lv_has ls 4 [(0, .ref r.1)] := hl
  obtain ⟨g0, g1, g2, g3, g4, ⟨hn1, hn2, hn3⟩, hm1, hm2, hm3, hm4, hm5, hm6⟩ := id hD
  refine lv_iconst (v := nI 0) xE xB dX7_wrong_0 (by decide) ?_
  refine lv_istore_n (lv' := [(1, .int (nI 0)), (0, .ref r.1)]) xE xB dX7_wrong_1 rfl xL (by decide) rfl (fun ls xL => ?_)
  refine lv_iconst (v := nI 0) xE xB dX7_wrong_2 (by decide) ?_
  refine lv_istore_n (lv' := [(2, .int (nI 0)), (1, .int (nI 0)), (0, .ref r.1)]) xE xB dX7_wrong_3 rfl xL (by decide) rfl (fun ls xL => ?_)
  have L_4 : ∀ (n_4 : Nat) (i x : Nat), (i ≤ lr) → (x = ns (fun i => ns (fun j => if s (117 + (6 * i + j)) = nI 1 ∧ s (81 + (6 * i + j)) ≠ dueF lc s i j then 1 else 0) rc) i) → lr - i < n_4 → ∀ (ls : Array Slot), lv_has ls 4 [(0, .ref r.1), (1, .int (nI x)), (2, .int (nI i))] → W p9 l e9 (rm 1 24) s9 m9 ([.ref r.1] : List Value).toArray b9 t9 c9 s9.heap [] 0 0 Q (F0 m9 4 ls []) := by
    intro n_4
    induction n_4 with
    | zero => intro i x hi hx hm_4 ls xL; exact absurd hm_4 (Nat.not_lt_zero _)
    | succ n_4 ih_4 =>
      intro i x hi hx hm_4 ls xL
      refine lv_iload_n xE xB dX7_wrong_4 rfl (lv_at xL 2 rfl) ?_
      refine lv_aload_n xE xB dX7_wrong_5 rfl (lv_at xL 0 rfl) ?_
      refine va_get (D := G.1) (ci := 7) (v := .ref r.2.1) (C := RX7) (T := TX7) (N := 16) xE xB xT khX7_wrong_X7 xO xK.1 xP 0 rfl rfl 0 (by decide) (xT _ kX7_wrong_f7) (fun _ h9 => h9) rfl dX7_wrong_6 ?_
      refine lv_iconst (v := nI 1) xE xB dX7_wrong_9 (by decide) ?_
      refine q_ald xE xB xK xP 1 rfl (by omega) (by decide) dX7_wrong_10 ?_
      refine q_eq (y := nI lr) (congrArg (fun z => z) (g1)) ?_
      refine q_icmp_ge (tgt := 78) xE xB dX7_wrong_11 (by decide) (by omega) (by omega) (fun c_11 => ?_) (fun c_11 => ?_)
      · skip
        refine lv_iload_n xE xB dX7_wrong_78 rfl (lv_at xL 1 rfl) ?_
        exact xQ _ _ _ (by obtain rfl : lr = i := (by omega); exact congrArg nI hx) dX7_wrong_79
      · skip
        refine lv_iconst (v := nI 0) xE xB dX7_wrong_14 (by decide) ?_
        refine lv_istore_n (lv' := [(3, .int (nI 0)), (0, .ref r.1), (1, .int (nI x)), (2, .int (nI i))]) xE xB dX7_wrong_15 rfl xL (by decide) rfl (fun ls xL => ?_)
        have L_16 : ∀ (n_16 : Nat) (j yy : Nat), (j ≤ rc) → (yy = x + ns (fun j => if s (117 + (6 * i + j)) = nI 1 ∧ s (81 + (6 * i + j)) ≠ dueF lc s i j then 1 else 0) j) → rc - j < n_16 → ∀ (ls : Array Slot), lv_has ls 4 [(0, .ref r.1), (1, .int (nI yy)), (2, .int (nI i)), (3, .int (nI j))] → W p9 l e9 (rm 1 24) s9 m9 ([.ref r.1] : List Value).toArray b9 t9 c9 s9.heap [] 0 0 Q (F0 m9 16 ls []) := by
          intro n_16
          induction n_16 with
          | zero => intro j yy hj hy hm_16 ls xL; exact absurd hm_16 (Nat.not_lt_zero _)
          | succ n_16 ih_16 =>
            intro j yy hj hy hm_16 ls xL
            refine lv_iload_n xE xB dX7_wrong_16 rfl (lv_at xL 3 rfl) ?_
            refine lv_aload_n xE xB dX7_wrong_17 rfl (lv_at xL 0 rfl) ?_
            refine va_get (D := G.1) (ci := 7) (v := .ref r.2.1) (C := RX7) (T := TX7) (N := 16) xE xB xT khX7_wrong_X7 xO xK.1 xP 0 rfl rfl 0 (by decide) (xT _ kX7_wrong_f7) (fun _ h9 => h9) rfl dX7_wrong_18 ?_
            refine lv_iconst (v := nI 3) xE xB dX7_wrong_21 (by decide) ?_
            refine q_ald xE xB xK xP 1 rfl (by omega) (by decide) dX7_wrong_22 ?_
            refine q_eq (y := nI rc) (congrArg (fun z => z) (g3)) ?_
            refine q_icmp_ge (tgt := 72) xE xB dX7_wrong_23 (by decide) (by omega) (by omega) (fun c_23 => ?_) (fun c_23 => ?_)
            · skip
              refine lv_iinc (v := nI (i + 1)) (lv' := [(2, .int (nI (i + 1))), (0, .ref r.1), (1, .int (nI yy)), (3, .int (nI j))]) xE xB dX7_wrong_72 xL (k := 2) rfl (q_inc _ _) (by decide) rfl (fun ls xL => ?_)
              refine lv_goto (tgt := 4) xE xB dX7_wrong_75 (by decide) ?_
              exact ih_4 (i + 1) yy (by omega) (by rw [hy, hx]; obtain rfl : rc = j := (by omega); rfl) (by omega) _ (lv_sub xL [1, 2, 0] rfl)
            · skip
              refine lv_iload_n xE xB dX7_wrong_26 rfl (lv_at xL 1 rfl) ?_
              refine lv_aload_n xE xB dX7_wrong_27 rfl (lv_at xL 0 rfl) ?_
              refine lv_iload_n xE xB dX7_wrong_28 rfl (lv_at xL 2 rfl) ?_
              refine lv_iload_n xE xB dX7_wrong_29 rfl (lv_at xL 3 rfl) ?_
              refine q_VR (As := [.int (nI i), .int (nI j)]) (rest := [.int (nI yy)]) ⟨xE, xB, xM, xO, xT⟩ (kX7_isKnown l G r s P U p X y q0 q1 q2 q3 sp re B wd hg ow n o lr lc rc i j (by exact hD) (by omega) (by omega)) (cwV 2 xT gX7_wrong_X7_isKnown rfl rfl rfl (by decide +kernel) ⟨Nat.le_of_ble_eq_true rfl, Nat.le_of_ble_eq_true rfl⟩) xK xP [0, 1, 2, 3, 4, 5] rfl 0 rfl rfl rfl rfl xL.1 rfl (Nat.le_of_ble_eq_true rfl) dX7_wrong_30 ⟨Nat.le_refl _, Nat.le_refl _⟩ (fun r_30 h_30 => ?_)
              rcases h_30 with ⟨h_30, c_30⟩ | ⟨h_30, c_30⟩
              · skip
                subst h_30
                have c_30 : s (117 + (6 * i + j)) = nI 1 := c_30
                refine lv_if_eq (tgt := 63) xE xB dX7_wrong_33 (by decide) (fun h9 => absurd h9 (by decide)) (fun _ => ?_)
                refine lv_aload_n xE xB dX7_wrong_36 rfl (lv_at xL 0 rfl) ?_
                refine va_get (D := G.1) (ci := 7) (v := .ref r.2.1) (C := RX7) (T := TX7) (N := 16) xE xB xT khX7_wrong_X7 xO xK.1 xP 0 rfl rfl 0 (by decide) (xT _ kX7_wrong_f7) (fun _ h9 => h9) rfl dX7_wrong_37 ?_
                refine lv_bipush (v := nI 81) xE xB dX7_wrong_40 (by decide) ?_
                refine lv_bipush (v := nI 6) xE xB dX7_wrong_42 (by decide) ?_
                refine lv_iload_n xE xB dX7_wrong_44 rfl (lv_at xL 2 rfl) ?_
                refine q_imul xE xB dX7_wrong_45 ?_
                refine q_iadd xE xB dX7_wrong_46 ?_
                refine lv_iload_n xE xB dX7_wrong_47 rfl (lv_at xL 3 rfl) ?_
                refine q_iadd xE xB dX7_wrong_48 ?_
                refine q_ald xE xB xK xP 1 rfl (by omega) (by decide) dX7_wrong_49 ?_
                refine lv_aload_n xE xB dX7_wrong_50 rfl (lv_at xL 0 rfl) ?_
                refine lv_iload_n xE xB dX7_wrong_51 rfl (lv_at xL 2 rfl) ?_
                refine lv_iload_n xE xB dX7_wrong_52 rfl (lv_at xL 3 rfl) ?_
                refine q_VR (As := [.int (nI i), .int (nI j)]) (rest := [.int (s ((81 + (6 * i)) + j)), .int (nI yy)]) ⟨xE, xB, xM, xO, xT⟩ (kX7_due l G r s P U p X y q0 q1 q2 q3 sp re B wd hg ow n o lr lc rc i j (by exact hD) (by omega) (by omega)) (cwV 2 xT gX7_wrong_X7_due rfl rfl rfl (by decide +kernel) ⟨Nat.le_of_ble_eq_true rfl, Nat.le_of_ble_eq_true rfl⟩) xK xP [0, 1, 2, 3, 4, 5] rfl 0 rfl rfl rfl rfl xL.1 rfl (Nat.le_of_ble_eq_true rfl) dX7_wrong_53 ⟨Nat.le_refl _, Nat.le_refl _⟩ (fun r_53 h_53 => ?_)
                obtain rfl : r_53 = dueF lc s i j := h_53
                refine lv_icmp_eq (tgt := 63) xE xB dX7_wrong_56 (by decide) (fun c_56 => ?_) (fun c_56 => ?_)
                · skip
                  refine lv_iconst (v := nI 0) xE xB dX7_wrong_63 (by decide) ?_
                  refine q_iadd xE xB dX7_wrong_64 ?_
                  refine lv_istore_n (lv' := [(1, .int (nI (yy + 0))), (0, .ref r.1), (2, .int (nI i)), (3, .int (nI j))]) xE xB dX7_wrong_65 rfl xL (by decide) rfl (fun ls xL => ?_)
                  refine lv_iinc (v := nI (j + 1)) (lv' := [(3, .int (nI (j + 1))), (1, .int (nI (yy + 0))), (0, .ref r.1), (2, .int (nI i))]) xE xB dX7_wrong_66 xL (k := 3) rfl (q_inc _ _) (by decide) rfl (fun ls xL => ?_)
                  refine lv_goto (tgt := 16) xE xB dX7_wrong_69 (by decide) ?_
                  exact ih_16 (j + 1) (yy + 0) (by omega) (by first | (rw [hy]; show x + ns _ j + 1 = x + (ns _ j + (if _ then 1 else 0)); rw [if_pos ⟨c_30, by rw [← Nat.add_assoc]; exact c_56⟩]; omega) | (rw [hy]; show x + ns _ j = x + (ns _ j + (if _ then 1 else 0)); rw [if_neg (by rintro ⟨h1, h2⟩; first | exact c_30 h1 | exact h2 (by rw [← Nat.add_assoc]; exact c_56))]; omega)) (by omega) _ (lv_sub xL [2, 1, 3, 0] rfl)
                · skip
                  refine lv_iconst (v := nI 1) xE xB dX7_wrong_59 (by decide) ?_
                  refine lv_goto (tgt := 64) xE xB dX7_wrong_60 (by decide) ?_
                  refine q_iadd xE xB dX7_wrong_64 ?_
                  refine lv_istore_n (lv' := [(1, .int (nI (yy + 1))), (0, .ref r.1), (2, .int (nI i)), (3, .int (nI j))]) xE xB dX7_wrong_65 rfl xL (by decide) rfl (fun ls xL => ?_)
                  refine lv_iinc (v := nI (j + 1)) (lv' := [(3, .int (nI (j + 1))), (1, .int (nI (yy + 1))), (0, .ref r.1), (2, .int (nI i))]) xE xB dX7_wrong_66 xL (k := 3) rfl (q_inc _ _) (by decide) rfl (fun ls xL => ?_)
                  refine lv_goto (tgt := 16) xE xB dX7_wrong_69 (by decide) ?_
                  exact ih_16 (j + 1) (yy + 1) (by omega) (by first | (rw [hy]; show x + ns _ j + 1 = x + (ns _ j + (if _ then 1 else 0)); rw [if_pos ⟨c_30, by rw [← Nat.add_assoc]; exact c_56⟩]; omega) | (rw [hy]; show x + ns _ j = x + (ns _ j + (if _ then 1 else 0)); rw [if_neg (by rintro ⟨h1, h2⟩; first | exact c_30 h1 | exact h2 (by rw [← Nat.add_assoc]; exact c_56))]; omega)) (by omega) _ (lv_sub xL [2, 1, 3, 0] rfl)
              · skip
                subst h_30
                have c_30 : ¬ (s (117 + (6 * i + j)) = nI 1) := c_30
                refine lv_if_eq (tgt := 63) xE xB dX7_wrong_33 (by decide) (fun _ => ?_) (fun h9 => absurd (by decide) h9)
                refine lv_iconst (v := nI 0) xE xB dX7_wrong_63 (by decide) ?_
                refine q_iadd xE xB dX7_wrong_64 ?_
                refine lv_istore_n (lv' := [(1, .int (nI (yy + 0))), (0, .ref r.1), (2, .int (nI i)), (3, .int (nI j))]) xE xB dX7_wrong_65 rfl xL (by decide) rfl (fun ls xL => ?_)
                refine lv_iinc (v := nI (j + 1)) (lv' := [(3, .int (nI (j + 1))), (1, .int (nI (yy + 0))), (0, .ref r.1), (2, .int (nI i))]) xE xB dX7_wrong_66 xL (k := 3) rfl (q_inc _ _) (by decide) rfl (fun ls xL => ?_)
                refine lv_goto (tgt := 16) xE xB dX7_wrong_69 (by decide) ?_
                exact ih_16 (j + 1) (yy + 0) (by omega) (by first | (rw [hy]; show x + ns _ j + 1 = x + (ns _ j + (if _ then 1 else 0)); rw [if_pos ⟨c_30, by rw [← Nat.add_assoc]; exact c_56⟩]; omega) | (rw [hy]; show x + ns _ j = x + (ns _ j + (if _ then 1 else 0)); rw [if_neg (by rintro ⟨h1, h2⟩; first | exact c_30 h1 | exact h2 (by rw [← Nat.add_assoc]; exact c_56))]; omega)) (by omega) _ (lv_sub xL [2, 1, 3, 0] rfl)
        exact L_16 (rc - 0 + 1) 0 x (by omega) (by rfl) (Nat.lt_succ_self _) _ (lv_sub xL [1, 2, 3, 0] rfl)
  exact L_4 (lr - 0 + 1) 0 0 (by omega) (by rfl) (Nat.lt_succ_self _) _ (lv_sub xL [2, 1, 0] rfl)
