theorem kX7_isRight_f131 : Cond.fieldLink RX7 131 "SkewedSquareModel" "typed" "I" ∈ wsX7_isRight := by decide +kernel
theorem kX7_isRight_f141 : Cond.fieldLink RX7 141 "SkewedSquareModel" "spot" "I" ∈ wsX7_isRight := by decide +kernel
theorem kX7_isRight_f147 : Cond.fieldLink RX7 147 "SkewedSquareModel" "high" "I" ∈ wsX7_isRight := by decide +kernel
theorem kX7_isRight_f150 : Cond.fieldLink RX7 150 "SkewedSquareModel" "own" "I" ∈ wsX7_isRight := by decide +kernel
theorem kX7_isRight_f156 : Cond.fieldLink RX7 156 "SkewedSquareModel" "wide" "I" ∈ wsX7_isRight := by decide +kernel
theorem kX7_isRight_f19 : Cond.fieldLink RX7 19 "SkewedSquareModel" "text" "[I" ∈ wsX7_isRight := by decide +kernel
theorem khX7_isRight_X7 : ∀ w ∈ u_ws RX7 TX7 16, w ∈ wsX7_isRight := by decide +kernel
set_option maxHeartbeats 4000000 in
set_option maxRecDepth 100000 in
/-- kX7_isRight -/
theorem kX7_isRight (l : Launch) (G : wG) (r : RA) (s P U : wF) (p : Nat) (X : wF) (y q0 : Nat) (q1 : Int32) (q2 : Nat) (q3 : Int32) (sp re : Nat) (B : wF) (wd hg ow : Nat) (T : Nat → Nat) (hX : RefX X T y) : CI (S := Nat × Nat × wF × Nat × Nat × Nat) l yX7_isRight wsX7_isRight (rm 3 64) G [.ref r.1] (wU G r (s, P, U, p, X, y, q0, q1, q2, q3, sp, re, B, wd, hg, ow)) (fun x u9 => (x = nI 1 ∧ (scR T y = 0 ∧ u9.2.2.2.2.1 = scM T y ∧ u9.2.2.2.1 = scC T y ∧ ∀ a b, a < scM T y → b < scC T y → u9.2.2.1 (6 * a + b) = scF T y (6 * a + b))) ∨ (x = nI 0 ∧ (scR T y ≠ 0 ∧ u9.1 = scP T y ∧ u9.2.1 = scR T y))) (fun u9 => wU G r (s, P, U, p, X, y, q0, q1, q2, q3, u9.1, u9.2.1, u9.2.2.1, u9.2.2.2.1, u9.2.2.2.2.1, u9.2.2.2.2.2)) := by
  refine CI.ofZ (own := RX7) rfl (by decide) rfl (Nat.le_of_ble_eq_true rfl) ?_
  intro p9 e9 s9 m9 b9 t9 c9 A xE xB xM xO xT xK xP xD Q xQ xS ls hl
  have xL : lv_has ls 2 [(0, .ref r.1)] := hl
  have hy8 := hX.1
  refine lv_aload_n xE xB dX7_isRight_0 rfl (lv_at xL 0 rfl) ?_
  refine lv_iconst (v := nI 0) xE xB dX7_isRight_1 (by decide) ?_
  refine va_put (D := G.1) (ci := 7) (v := .int (nI 0)) (ty := .int) (C := RX7) (T := TX7) (N := 16) xE xB xT khX7_isRight_X7 tyX7 tyX7_ok nmX7 xO xK.1 xP xD xS 0 rfl rfl 10 (by decide) (xT _ kX7_isRight_f141) (fun _ h9 => h9) rfl (by decide +kernel) rfl rfl (Nat.le_of_ble_eq_true rfl) dX7_isRight_2 (fun H locs xP xD xS => ?_)
  have xP : va_P G.1 vwCl (wU G r (s, P, U, p, X, y, q0, q1, q2, q3, 0, re, B, wd, hg, ow)) H := xP
  have xD : va_D A (wU G r (s, P, U, p, X, y, q0, q1, q2, q3, 0, re, B, wd, hg, ow)) := xD
  refine lv_aload_n xE xB dX7_isRight_5 rfl (lv_at xL 0 rfl) ?_
  refine lv_iconst (v := nI 0) xE xB dX7_isRight_6 (by decide) ?_
  refine va_put (D := G.1) (ci := 7) (v := .int (nI 0)) (ty := .int) (C := RX7) (T := TX7) (N := 16) xE xB xT khX7_isRight_X7 tyX7 tyX7_ok nmX7 xO xK.1 xP xD xS 0 rfl rfl 14 (by decide) (xT _ kX7_isRight_f147) (fun _ h9 => h9) rfl (by decide +kernel) rfl rfl (Nat.le_of_ble_eq_true rfl) dX7_isRight_7 (fun H locs xP xD xS => ?_)
  have xP : va_P G.1 vwCl (wU G r (s, P, U, p, X, y, q0, q1, q2, q3, 0, re, B, wd, 0, ow)) H := xP
  have xD : va_D A (wU G r (s, P, U, p, X, y, q0, q1, q2, q3, 0, re, B, wd, 0, ow)) := xD
  refine lv_aload_n xE xB dX7_isRight_10 rfl (lv_at xL 0 rfl) ?_
  refine lv_bipush (v := nI 6) xE xB dX7_isRight_11 (by decide) ?_
  refine va_put (D := G.1) (ci := 7) (v := .int (nI 6)) (ty := .int) (C := RX7) (T := TX7) (N := 16) xE xB xT khX7_isRight_X7 tyX7 tyX7_ok nmX7 xO xK.1 xP xD xS 0 rfl rfl 13 (by decide) (xT _ kX7_isRight_f156) (fun _ h9 => h9) rfl (by decide +kernel) rfl rfl (Nat.le_of_ble_eq_true rfl) dX7_isRight_13 (fun H locs xP xD xS => ?_)
  have xP : va_P G.1 vwCl (wU G r (s, P, U, p, X, y, q0, q1, q2, q3, 0, re, B, 6, 0, ow)) H := xP
  have xD : va_D A (wU G r (s, P, U, p, X, y, q0, q1, q2, q3, 0, re, B, 6, 0, ow)) := xD
  refine lv_aload_n xE xB dX7_isRight_16 rfl (lv_at xL 0 rfl) ?_
  refine lv_iconst (v := nI 0) xE xB dX7_isRight_17 (by decide) ?_
  refine va_put (D := G.1) (ci := 7) (v := .int (nI 0)) (ty := .int) (C := RX7) (T := TX7) (N := 16) xE xB xT khX7_isRight_X7 tyX7 tyX7_ok nmX7 xO xK.1 xP xD xS 0 rfl rfl 15 (by decide) (xT _ kX7_isRight_f150) (fun _ h9 => h9) rfl (by decide +kernel) rfl rfl (Nat.le_of_ble_eq_true rfl) dX7_isRight_18 (fun H locs xP xD xS => ?_)
  have xP : va_P G.1 vwCl (wU G r (s, P, U, p, X, y, q0, q1, q2, q3, 0, re, B, 6, 0, 0)) H := xP
  have xD : va_D A (wU G r (s, P, U, p, X, y, q0, q1, q2, q3, 0, re, B, 6, 0, 0)) := xD
  have L_21 : ∀ (n_21 : Nat) (i r1 wv hv ov : Nat) (Bv : wF) (fp : Nat) (f : wF), (i ≤ y) → (hv < 6) → (ov < wv) → (wv ≤ 6) → (stk T zA i = (fp, 0, hv, ov, wv, 0, 0, 0, f)) → (AG Bv f hv ov wv) → y + 1 - i < n_21 → ∀ (H : Heap) (locs : List Loc), va_P G.1 vwCl (wU G r (s, P, U, p, X, y, q0, q1, q2, q3, i, r1, Bv, wv, hv, ov)) H → va_D A (wU G r (s, P, U, p, X, y, q0, q1, q2, q3, i, r1, Bv, wv, hv, ov)) → va_S A s9.heap H locs → ∀ (ls : Array Slot), lv_has ls 2 [(0, .ref r.1)] → W p9 l e9 (rm 3 64) s9 m9 ([.ref r.1] : List Value).toArray b9 t9 c9 H locs 0 0 Q (F0 m9 21 ls []) := by
    intro n_21
    induction n_21 with
    | zero => intro i r1 wv hv ov Bv fp f hi h1 h2 h3 hst hag hm_21 H locs xP xD xS ls xL; exact absurd hm_21 (Nat.not_lt_zero _)
    | succ n_21 ih_21 =>
      intro i r1 wv hv ov Bv fp f hi h1 h2 h3 hst hag hm_21 H locs xP xD xS ls xL
      refine lv_aload_n xE xB dX7_isRight_21 rfl (lv_at xL 0 rfl) ?_
      refine q_VI (As := []) (rest := []) ⟨xE, xB, xM, xO, xT⟩ (kX7_number l G r s P U p X y q0 q1 q2 q3 i r1 Bv wv hv ov T fp f (by exact hX) (by exact hst) (by omega) (by omega) (by omega)) (cwV 0 xT gX7_isRight_X7_number rfl rfl rfl (by decide +kernel) ⟨Nat.le_of_ble_eq_true rfl, Nat.le_of_ble_eq_true rfl⟩) xK xP xD xS [0, 1, 2, 3, 4, 5] rfl (by decide +kernel) (fun _ => rfl) 0 rfl rfl rfl rfl xL.1 rfl (Nat.le_of_ble_eq_true rfl) dX7_isRight_22 ⟨Nat.le_refl _, Nat.le_refl _⟩ (fun r_22 u_22 H locs h_22 xP xD xS => ?_)
      have xP : va_P G.1 vwCl (wU G r (s, P, U, p, X, y, q0, q1, q2, q3, u_22.1, r1, u_22.2.2.2.2.1, wv, hv, u_22.2.2.2.2.2)) H := xP
      have xD : va_D A (wU G r (s, P, U, p, X, y, q0, q1, q2, q3, u_22.1, r1, u_22.2.2.2.2.1, wv, hv, u_22.2.2.2.2.2)) := xD
      rcases h_22 with ⟨h_22, c_22⟩ | ⟨h_22, c_22⟩
      · skip
        subst h_22
        have c_22 : u_22.1 ≤ y ∧ i < u_22.1 ∧ stk T zA u_22.1 = (fp, 0, hv, ov, wv, u_22.2.1, u_22.2.2.1, u_22.2.2.2.1, f) ∧ 0 < u_22.2.2.1 ∧ (u_22.2.2.1 = 2 ∨ u_22.1 = y ∨ ¬ (48 ≤ T u_22.1 ∧ T u_22.1 ≤ 57)) ∧ u_22.2.2.2.2.1 = upd Bv (6 * hv + ov) (sgnV u_22.2.1 u_22.2.2.2.1) ∧ u_22.2.2.2.2.2 = ov + 1 := c_22
        refine lv_if_eq (tgt := 138) xE xB dX7_isRight_25 (by decide) (fun h9 => absurd h9 (by decide)) (fun _ => ?_)
        obtain ⟨n1, n2, n3, n4, n5, n6, n7⟩ := c_22
        have hT9 : u_22.1 < y → 32 ≤ T u_22.1 ∧ T u_22.1 ≤ 126 := fun h9 => (hX.2 _ h9).2
        rw [n6, n7] at xP xD
        have xP : va_P G.1 vwCl (wU G r (s, P, U, p, X, y, q0, q1, q2, q3, u_22.1, r1, upd Bv (6 * hv + ov) (sgnV u_22.2.1 u_22.2.2.2.1), wv, hv, ov + 1)) H := xP
        have xD : va_D A (wU G r (s, P, U, p, X, y, q0, q1, q2, q3, u_22.1, r1, upd Bv (6 * hv + ov) (sgnV u_22.2.1 u_22.2.2.2.1), wv, hv, ov + 1)) := xD
        refine lv_aload_n xE xB dX7_isRight_28 rfl (lv_at xL 0 rfl) ?_
        refine va_get (D := G.1) (ci := 7) (v := .int (nI u_22.1)) (C := RX7) (T := TX7) (N := 16) xE xB xT khX7_isRight_X7 xO xK.1 xP 0 rfl rfl 10 (by decide) (xT _ kX7_isRight_f141) (fun _ h9 => h9) rfl dX7_isRight_29 ?_
        refine lv_aload_n xE xB dX7_isRight_32 rfl (lv_at xL 0 rfl) ?_
        refine va_get (D := G.1) (ci := 7) (v := .int (nI y)) (C := RX7) (T := TX7) (N := 16) xE xB xT khX7_isRight_X7 xO xK.1 xP 0 rfl rfl 5 (by decide) (xT _ kX7_isRight_f131) (fun _ h9 => h9) rfl dX7_isRight_33 ?_
        refine q_icmp_ne (tgt := 45) xE xB dX7_isRight_36 (by decide) (by omega) (by omega) (fun c_36 => ?_) (fun c_36 => ?_)
        · skip
          have hT8 := hT9 (by omega)
          refine lv_aload_n xE xB dX7_isRight_45 rfl (lv_at xL 0 rfl) ?_
          refine va_get (D := G.1) (ci := 7) (v := .ref r.2.2.2.2.1) (C := RX7) (T := TX7) (N := 16) xE xB xT khX7_isRight_X7 xO xK.1 xP 0 rfl rfl 4 (by decide) (xT _ kX7_isRight_f19) (fun _ h9 => h9) rfl dX7_isRight_46 ?_
          refine lv_aload_n xE xB dX7_isRight_49 rfl (lv_at xL 0 rfl) ?_
          refine va_get (D := G.1) (ci := 7) (v := .int (nI u_22.1)) (C := RX7) (T := TX7) (N := 16) xE xB xT khX7_isRight_X7 xO xK.1 xP 0 rfl rfl 10 (by decide) (xT _ kX7_isRight_f141) (fun _ h9 => h9) rfl dX7_isRight_50 ?_
          refine q_ald xE xB xK xP 4 rfl (by omega) (by decide) dX7_isRight_53 ?_
          refine q_eq (y := nI (T u_22.1)) (congrArg (fun z => z) ((hX.2 _ (by omega)).1)) ?_
          refine lv_bipush (v := nI 44) xE xB dX7_isRight_54 (by decide) ?_
          refine q_icmp_ne (tgt := 63) xE xB dX7_isRight_56 (by decide) (by omega) (by omega) (fun c_56 => ?_) (fun c_56 => ?_)
          · skip
            refine lv_iconst (v := nI 0) xE xB dX7_isRight_63 (by decide) ?_
            refine lv_istore_n (lv' := [(1, .int (nI 0)), (0, .ref r.1)]) xE xB dX7_isRight_64 rfl xL (by decide) rfl (fun ls xL => ?_)
            refine lv_iload_n xE xB dX7_isRight_65 rfl (lv_at xL 0 rfl) ?_
            refine lv_if_ne (tgt := 89) xE xB dX7_isRight_66 (by decide) (fun h9 => absurd (by decide) h9) (fun _ => ?_)
            refine lv_aload_n xE xB dX7_isRight_69 rfl (lv_at xL 1 rfl) ?_
            refine va_get (D := G.1) (ci := 7) (v := .ref r.2.2.2.2.1) (C := RX7) (T := TX7) (N := 16) xE xB xT khX7_isRight_X7 xO xK.1 xP 0 rfl rfl 4 (by decide) (xT _ kX7_isRight_f19) (fun _ h9 => h9) rfl dX7_isRight_70 ?_
            refine lv_aload_n xE xB dX7_isRight_73 rfl (lv_at xL 1 rfl) ?_
            refine va_get (D := G.1) (ci := 7) (v := .int (nI u_22.1)) (C := RX7) (T := TX7) (N := 16) xE xB xT khX7_isRight_X7 xO xK.1 xP 0 rfl rfl 10 (by decide) (xT _ kX7_isRight_f141) (fun _ h9 => h9) rfl dX7_isRight_74 ?_
            refine q_ald xE xB xK xP 4 rfl (by omega) (by decide) dX7_isRight_77 ?_
            refine q_eq (y := nI (T u_22.1)) (congrArg (fun z => z) ((hX.2 _ (by omega)).1)) ?_
            refine lv_bipush (v := nI 59) xE xB dX7_isRight_78 (by decide) ?_
            refine q_icmp_eq (tgt := 89) xE xB dX7_isRight_80 (by decide) (by omega) (by omega) (fun c_80 => ?_) (fun c_80 => ?_)
            · skip
              refine lv_iload_n xE xB dX7_isRight_89 rfl (lv_at xL 0 rfl) ?_
              refine lv_if_eq (tgt := 115) xE xB dX7_isRight_90 (by decide) (fun _ => ?_) (fun h9 => absurd (by decide) h9)
              refine lv_aload_n xE xB dX7_isRight_115 rfl (lv_at xL 1 rfl) ?_
              refine lv_iconst (v := nI 0) xE xB dX7_isRight_116 (by decide) ?_
              refine q_VI (As := [.int (nI 0)]) (rest := []) ⟨xE, xB, xM, xO, xT⟩ (kX7_rowEnds0 l G r s P U p X y q0 q1 q2 q3 u_22.1 r1 (upd Bv (6 * hv + ov) (sgnV u_22.2.1 u_22.2.2.2.1)) wv hv (ov + 1) (by omega) (by omega) (by omega)) (cwV 1 xT gX7_isRight_X7_rowEnds rfl rfl rfl (by decide +kernel) ⟨Nat.le_of_ble_eq_true rfl, Nat.le_of_ble_eq_true rfl⟩) xK xP xD xS [0, 1, 2, 3, 4, 5] rfl (by decide +kernel) (fun _ => rfl) 0 rfl rfl rfl rfl xL.1 rfl (Nat.le_of_ble_eq_true rfl) dX7_isRight_117 ⟨Nat.le_refl _, Nat.le_refl _⟩ (fun r_117 u_117 H locs h_117 xP xD xS => ?_)
              have xP : va_P G.1 vwCl (wU G r (s, P, U, p, X, y, q0, q1, q2, q3, u_22.1, u_117.1, upd Bv (6 * hv + ov) (sgnV u_22.2.1 u_22.2.2.2.1), u_117.2.1, u_117.2.2.1, u_117.2.2.2)) H := xP
              have xD : va_D A (wU G r (s, P, U, p, X, y, q0, q1, q2, q3, u_22.1, u_117.1, upd Bv (6 * hv + ov) (sgnV u_22.2.1 u_22.2.2.2.1), u_117.2.1, u_117.2.2.1, u_117.2.2.2)) := xD
              rcases h_117 with ⟨h_117, c_117⟩ | ⟨h_117, c_117⟩
              · skip
                subst h_117
                have c_117 : (¬ (hv = 5 ∨ (0 < hv ∧ (ov + 1) < wv))) ∧ u_117 = (r1, (ov + 1), hv + 1, 0) := c_117
                refine lv_if_ne (tgt := 125) xE xB dX7_isRight_120 (by decide) (fun _ => ?_) (fun h9 => absurd h9 (by decide))
                obtain ⟨w1_9, w2_9⟩ := c_117
                subst w2_9
                have xP : va_P G.1 vwCl (wU G r (s, P, U, p, X, y, q0, q1, q2, q3, u_22.1, r1, upd Bv (6 * hv + ov) (sgnV u_22.2.1 u_22.2.2.2.1), ov + 1, hv + 1, 0)) H := xP
                have xD : va_D A (wU G r (s, P, U, p, X, y, q0, q1, q2, q3, u_22.1, r1, upd Bv (6 * hv + ov) (sgnV u_22.2.1 u_22.2.2.2.1), ov + 1, hv + 1, 0)) := xD
                refine lv_aload_n xE xB dX7_isRight_125 rfl (lv_at xL 1 rfl) ?_
                refine lv_dup xE xB dX7_isRight_126 rfl ?_
                refine va_get (D := G.1) (ci := 7) (v := .int (nI u_22.1)) (C := RX7) (T := TX7) (N := 16) xE xB xT khX7_isRight_X7 xO xK.1 xP 0 rfl rfl 10 (by decide) (xT _ kX7_isRight_f141) (fun _ h9 => h9) rfl dX7_isRight_127 ?_
                refine lv_iconst (v := nI 1) xE xB dX7_isRight_130 (by decide) ?_
                refine q_iadd xE xB dX7_isRight_131 ?_
                refine va_put (D := G.1) (ci := 7) (v := .int (nI (u_22.1 + 1))) (ty := .int) (C := RX7) (T := TX7) (N := 16) xE xB xT khX7_isRight_X7 tyX7 tyX7_ok nmX7 xO xK.1 xP xD xS 0 rfl rfl 10 (by decide) (xT _ kX7_isRight_f141) (fun _ h9 => h9) rfl (by decide +kernel) rfl rfl (Nat.le_of_ble_eq_true rfl) dX7_isRight_132 (fun H locs xP xD xS => ?_)
                have xP : va_P G.1 vwCl (wU G r (s, P, U, p, X, y, q0, q1, q2, q3, u_22.1 + 1, r1, upd Bv (6 * hv + ov) (sgnV u_22.2.1 u_22.2.2.2.1), ov + 1, hv + 1, 0)) H := xP
                have xD : va_D A (wU G r (s, P, U, p, X, y, q0, q1, q2, q3, u_22.1 + 1, r1, upd Bv (6 * hv + ov) (sgnV u_22.2.1 u_22.2.2.2.1), ov + 1, hv + 1, 0)) := xD
                refine lv_goto (tgt := 21) xE xB dX7_isRight_135 (by decide) ?_
                exact ih_21 (u_22.1 + 1) r1 (ov + 1) (hv + 1) 0 (upd Bv (6 * hv + ov) (sgnV u_22.2.1 u_22.2.2.2.1)) fp (upd f (6 * hv + ov) (sgnV u_22.2.1 u_22.2.2.2.1)) (by omega) (by omega) (by omega) (by omega) (by first | exact rg_comma n3 n4 c_56 (by omega) | exact rg_semi n3 n4 c_80 (by omega) h2) (by first | exact ag_comma hag | exact ag_semi hag (by omega) h2) (by omega) _ _ xP xD xS _ (lv_sub xL [1] rfl)
              · skip
                subst h_117
                have c_117 : (hv = 5 ∨ (0 < hv ∧ (ov + 1) < wv)) ∧ u_117 = (2, wv, hv, (ov + 1)) := c_117
                refine lv_if_ne (tgt := 125) xE xB dX7_isRight_120 (by decide) (fun h9 => absurd (by decide) h9) (fun _ => ?_)
                obtain ⟨w1_9, w2_9⟩ := c_117
                subst w2_9
                have xP : va_P G.1 vwCl (wU G r (s, P, U, p, X, y, q0, q1, q2, q3, u_22.1, 2, upd Bv (6 * hv + ov) (sgnV u_22.2.1 u_22.2.2.2.1), wv, hv, ov + 1)) H := xP
                have xD : va_D A (wU G r (s, P, U, p, X, y, q0, q1, q2, q3, u_22.1, 2, upd Bv (6 * hv + ov) (sgnV u_22.2.1 u_22.2.2.2.1), wv, hv, ov + 1)) := xD
                refine lv_iconst (v := nI 0) xE xB dX7_isRight_123 (by decide) ?_
                exact xQ _ _ _ _ _ (u_22.1, 2, upd Bv (6 * hv + ov) (sgnV u_22.2.1 u_22.2.2.2.1), wv, hv, ov + 1) (Or.inr ⟨rfl, by first | exact fz (rg_comma2 (by omega) n3 n4 c_56 (by omega)) (show 2 ≠ 0 by decide) | exact fz (rg_semi2 (by omega) n3 n4 c_80 (by omega)) (show 2 ≠ 0 by decide)⟩) (by decide) xP xD xS dX7_isRight_124
            · skip
              refine lv_aload_n xE xB dX7_isRight_83 rfl (lv_at xL 1 rfl) ?_
              refine lv_iconst (v := nI 1) xE xB dX7_isRight_84 (by decide) ?_
              refine q_VI (As := [.int (nI 1)]) (rest := []) ⟨xE, xB, xM, xO, xT⟩ (kX7_fails l G r s P U p X y q0 q1 q2 q3 u_22.1 r1 (upd Bv (6 * hv + ov) (sgnV u_22.2.1 u_22.2.2.2.1)) wv hv (ov + 1) 1) (cwV 1 xT gX7_isRight_X7_fails rfl rfl rfl (by decide +kernel) ⟨Nat.le_of_ble_eq_true rfl, Nat.le_of_ble_eq_true rfl⟩) xK xP xD xS [0, 1, 2, 3, 4, 5] rfl (by decide +kernel) (fun _ => rfl) 0 rfl rfl rfl rfl xL.1 rfl (Nat.le_of_ble_eq_true rfl) dX7_isRight_85 ⟨Nat.le_refl _, Nat.le_refl _⟩ (fun r_85 u_85 H locs h_85 xP xD xS => ?_)
              have xP : va_P G.1 vwCl (wU G r (s, P, U, p, X, y, q0, q1, q2, q3, u_22.1, 1, upd Bv (6 * hv + ov) (sgnV u_22.2.1 u_22.2.2.2.1), wv, hv, ov + 1)) H := xP
              have xD : va_D A (wU G r (s, P, U, p, X, y, q0, q1, q2, q3, u_22.1, 1, upd Bv (6 * hv + ov) (sgnV u_22.2.1 u_22.2.2.2.1), wv, hv, ov + 1)) := xD
              obtain rfl : r_85 = nI 0 := h_85
              exact xQ _ _ _ _ _ (u_22.1, 1, upd Bv (6 * hv + ov) (sgnV u_22.2.1 u_22.2.2.2.1), wv, hv, ov + 1) (Or.inr ⟨rfl, by exact fz (rg_bad1 (by omega) n3 n4 n5 (by omega) (by omega)) (show 1 ≠ 0 by decide)⟩) (by decide) xP xD xS dX7_isRight_88
          · skip
            refine lv_iconst (v := nI 1) xE xB dX7_isRight_59 (by decide) ?_
            refine lv_goto (tgt := 64) xE xB dX7_isRight_60 (by decide) ?_
            refine lv_istore_n (lv' := [(1, .int (nI 1)), (0, .ref r.1)]) xE xB dX7_isRight_64 rfl xL (by decide) rfl (fun ls xL => ?_)
            refine lv_iload_n xE xB dX7_isRight_65 rfl (lv_at xL 0 rfl) ?_
            refine lv_if_ne (tgt := 89) xE xB dX7_isRight_66 (by decide) (fun _ => ?_) (fun h9 => absurd h9 (by decide))
            refine lv_iload_n xE xB dX7_isRight_89 rfl (lv_at xL 0 rfl) ?_
            refine lv_if_eq (tgt := 115) xE xB dX7_isRight_90 (by decide) (fun h9 => absurd h9 (by decide)) (fun _ => ?_)
            refine lv_aload_n xE xB dX7_isRight_93 rfl (lv_at xL 1 rfl) ?_
            refine va_get (D := G.1) (ci := 7) (v := .int (nI (ov + 1))) (C := RX7) (T := TX7) (N := 16) xE xB xT khX7_isRight_X7 xO xK.1 xP 0 rfl rfl 15 (by decide) (xT _ kX7_isRight_f150) (fun _ h9 => h9) rfl dX7_isRight_94 ?_
            refine lv_aload_n xE xB dX7_isRight_97 rfl (lv_at xL 1 rfl) ?_
            refine va_get (D := G.1) (ci := 7) (v := .int (nI wv)) (C := RX7) (T := TX7) (N := 16) xE xB xT khX7_isRight_X7 xO xK.1 xP 0 rfl rfl 13 (by decide) (xT _ kX7_isRight_f156) (fun _ h9 => h9) rfl dX7_isRight_98 ?_
            refine q_icmp_ne (tgt := 125) xE xB dX7_isRight_101 (by decide) (by omega) (by omega) (fun c_101 => ?_) (fun c_101 => ?_)
            · skip
              refine lv_aload_n xE xB dX7_isRight_125 rfl (lv_at xL 1 rfl) ?_
              refine lv_dup xE xB dX7_isRight_126 rfl ?_
              refine va_get (D := G.1) (ci := 7) (v := .int (nI u_22.1)) (C := RX7) (T := TX7) (N := 16) xE xB xT khX7_isRight_X7 xO xK.1 xP 0 rfl rfl 10 (by decide) (xT _ kX7_isRight_f141) (fun _ h9 => h9) rfl dX7_isRight_127 ?_
              refine lv_iconst (v := nI 1) xE xB dX7_isRight_130 (by decide) ?_
              refine q_iadd xE xB dX7_isRight_131 ?_
              refine va_put (D := G.1) (ci := 7) (v := .int (nI (u_22.1 + 1))) (ty := .int) (C := RX7) (T := TX7) (N := 16) xE xB xT khX7_isRight_X7 tyX7 tyX7_ok nmX7 xO xK.1 xP xD xS 0 rfl rfl 10 (by decide) (xT _ kX7_isRight_f141) (fun _ h9 => h9) rfl (by decide +kernel) rfl rfl (Nat.le_of_ble_eq_true rfl) dX7_isRight_132 (fun H locs xP xD xS => ?_)
              have xP : va_P G.1 vwCl (wU G r (s, P, U, p, X, y, q0, q1, q2, q3, u_22.1 + 1, r1, upd Bv (6 * hv + ov) (sgnV u_22.2.1 u_22.2.2.2.1), wv, hv, ov + 1)) H := xP
              have xD : va_D A (wU G r (s, P, U, p, X, y, q0, q1, q2, q3, u_22.1 + 1, r1, upd Bv (6 * hv + ov) (sgnV u_22.2.1 u_22.2.2.2.1), wv, hv, ov + 1)) := xD
              refine lv_goto (tgt := 21) xE xB dX7_isRight_135 (by decide) ?_
              exact ih_21 (u_22.1 + 1) r1 wv hv (ov + 1) (upd Bv (6 * hv + ov) (sgnV u_22.2.1 u_22.2.2.2.1)) fp (upd f (6 * hv + ov) (sgnV u_22.2.1 u_22.2.2.2.1)) (by omega) (by omega) (by omega) (by omega) (by first | exact rg_comma n3 n4 c_56 (by omega) | exact rg_semi n3 n4 c_80 (by omega) h2) (by first | exact ag_comma hag | exact ag_semi hag (by omega) h2) (by omega) _ _ xP xD xS _ (lv_sub xL [1] rfl)
            · skip
              refine lv_aload_n xE xB dX7_isRight_104 rfl (lv_at xL 1 rfl) ?_
              refine lv_iconst (v := nI 2) xE xB dX7_isRight_105 (by decide) ?_
              refine q_VI (As := [.int (nI 2)]) (rest := []) ⟨xE, xB, xM, xO, xT⟩ (kX7_fails l G r s P U p X y q0 q1 q2 q3 u_22.1 r1 (upd Bv (6 * hv + ov) (sgnV u_22.2.1 u_22.2.2.2.1)) wv hv (ov + 1) 2) (cwV 1 xT gX7_isRight_X7_fails rfl rfl rfl (by decide +kernel) ⟨Nat.le_of_ble_eq_true rfl, Nat.le_of_ble_eq_true rfl⟩) xK xP xD xS [0, 1, 2, 3, 4, 5] rfl (by decide +kernel) (fun _ => rfl) 0 rfl rfl rfl rfl xL.1 rfl (Nat.le_of_ble_eq_true rfl) dX7_isRight_106 ⟨Nat.le_refl _, Nat.le_refl _⟩ (fun r_106 u_106 H locs h_106 xP xD xS => ?_)
              have xP : va_P G.1 vwCl (wU G r (s, P, U, p, X, y, q0, q1, q2, q3, u_22.1, 2, upd Bv (6 * hv + ov) (sgnV u_22.2.1 u_22.2.2.2.1), wv, hv, ov + 1)) H := xP
              have xD : va_D A (wU G r (s, P, U, p, X, y, q0, q1, q2, q3, u_22.1, 2, upd Bv (6 * hv + ov) (sgnV u_22.2.1 u_22.2.2.2.1), wv, hv, ov + 1)) := xD
              obtain rfl : r_106 = nI 0 := h_106
              refine lv_if_ne (tgt := 125) xE xB dX7_isRight_109 (by decide) (fun h9 => absurd (by decide) h9) (fun _ => ?_)
              refine lv_goto (tgt := 123) xE xB dX7_isRight_112 (by decide) ?_
              refine lv_iconst (v := nI 0) xE xB dX7_isRight_123 (by decide) ?_
              exact xQ _ _ _ _ _ (u_22.1, 2, upd Bv (6 * hv + ov) (sgnV u_22.2.1 u_22.2.2.2.1), wv, hv, ov + 1) (Or.inr ⟨rfl, by first | exact fz (rg_comma2 (by omega) n3 n4 c_56 (by omega)) (show 2 ≠ 0 by decide) | exact fz (rg_semi2 (by omega) n3 n4 c_80 (by omega)) (show 2 ≠ 0 by decide)⟩) (by decide) xP xD xS dX7_isRight_124
        · skip
          refine lv_aload_n xE xB dX7_isRight_39 rfl (lv_at xL 0 rfl) ?_
          refine lv_iconst (v := nI 1) xE xB dX7_isRight_40 (by decide) ?_
          refine q_VI (As := [.int (nI 1)]) (rest := []) ⟨xE, xB, xM, xO, xT⟩ (kX7_rowEnds1 l G r s P U p X y q0 q1 q2 q3 u_22.1 r1 (upd Bv (6 * hv + ov) (sgnV u_22.2.1 u_22.2.2.2.1)) wv hv (ov + 1) (by omega) (by omega) (by omega)) (cwV 1 xT gX7_isRight_X7_rowEnds rfl rfl rfl (by decide +kernel) ⟨Nat.le_of_ble_eq_true rfl, Nat.le_of_ble_eq_true rfl⟩) xK xP xD xS [0, 1, 2, 3, 4, 5] rfl (by decide +kernel) (fun _ => rfl) 0 rfl rfl rfl rfl xL.1 rfl (Nat.le_of_ble_eq_true rfl) dX7_isRight_41 ⟨Nat.le_refl _, Nat.le_refl _⟩ (fun r_41 u_41 H locs h_41 xP xD xS => ?_)
          have xP : va_P G.1 vwCl (wU G r (s, P, U, p, X, y, q0, q1, q2, q3, u_22.1, u_41.1, upd Bv (6 * hv + ov) (sgnV u_22.2.1 u_22.2.2.2.1), u_41.2.1, u_41.2.2.1, u_41.2.2.2)) H := xP
          have xD : va_D A (wU G r (s, P, U, p, X, y, q0, q1, q2, q3, u_22.1, u_41.1, upd Bv (6 * hv + ov) (sgnV u_22.2.1 u_22.2.2.2.1), u_41.2.1, u_41.2.2.1, u_41.2.2.2)) := xD
          rcases h_41 with ⟨h_41, c_41⟩ | ⟨h_41, c_41⟩
          · skip
            subst h_41
            have c_41 : (¬ (0 < hv ∧ (ov + 1) < wv)) ∧ u_41 = (r1, (ov + 1), hv + 1, 0) := c_41
            obtain ⟨w1_9, w2_9⟩ := c_41
            subst w2_9
            have xP : va_P G.1 vwCl (wU G r (s, P, U, p, X, y, q0, q1, q2, q3, u_22.1, r1, upd Bv (6 * hv + ov) (sgnV u_22.2.1 u_22.2.2.2.1), ov + 1, hv + 1, 0)) H := xP
            have xD : va_D A (wU G r (s, P, U, p, X, y, q0, q1, q2, q3, u_22.1, r1, upd Bv (6 * hv + ov) (sgnV u_22.2.1 u_22.2.2.2.1), ov + 1, hv + 1, 0)) := xD
            exact xQ _ _ _ _ _ (u_22.1, r1, upd Bv (6 * hv + ov) (sgnV u_22.2.1 u_22.2.2.2.1), ov + 1, hv + 1, 0) (Or.inl ⟨rfl, by first | exact rg_end n3 c_36 n4 w1_9 h2 h1 h3 hag | exact fz (rg_end2 n3 c_36 n4 w1_9) (show 2 ≠ 0 by decide)⟩) (by decide) xP xD xS dX7_isRight_44
          · skip
            subst h_41
            have c_41 : (0 < hv ∧ (ov + 1) < wv) ∧ u_41 = (2, wv, hv, (ov + 1)) := c_41
            obtain ⟨w1_9, w2_9⟩ := c_41
            subst w2_9
            have xP : va_P G.1 vwCl (wU G r (s, P, U, p, X, y, q0, q1, q2, q3, u_22.1, 2, upd Bv (6 * hv + ov) (sgnV u_22.2.1 u_22.2.2.2.1), wv, hv, ov + 1)) H := xP
            have xD : va_D A (wU G r (s, P, U, p, X, y, q0, q1, q2, q3, u_22.1, 2, upd Bv (6 * hv + ov) (sgnV u_22.2.1 u_22.2.2.2.1), wv, hv, ov + 1)) := xD
            exact xQ _ _ _ _ _ (u_22.1, 2, upd Bv (6 * hv + ov) (sgnV u_22.2.1 u_22.2.2.2.1), wv, hv, ov + 1) (Or.inr ⟨rfl, by first | exact rg_end n3 c_36 n4 w1_9 h2 h1 h3 hag | exact fz (rg_end2 n3 c_36 n4 w1_9) (show 2 ≠ 0 by decide)⟩) (by decide) xP xD xS dX7_isRight_44
      · skip
        subst h_22
        have c_22 : u_22.1 ≤ y ∧ i ≤ u_22.1 ∧ stk T zA u_22.1 = (fp, 0, hv, ov, wv, u_22.2.1, 0, 0, f) ∧ (u_22.1 = y ∨ (¬ (48 ≤ T u_22.1 ∧ T u_22.1 ≤ 57) ∧ (T u_22.1 = 45 → u_22.2.1 = 1))) ∧ u_22.2.2.2.2.1 = Bv ∧ u_22.2.2.2.2.2 = ov := c_22
        refine lv_if_eq (tgt := 138) xE xB dX7_isRight_25 (by decide) (fun _ => ?_) (fun h9 => absurd (by decide) h9)
        obtain ⟨n1, n2, n3, n4, n6, n7⟩ := c_22
        refine lv_aload_n xE xB dX7_isRight_138 rfl (lv_at xL 0 rfl) ?_
        refine lv_iconst (v := nI 1) xE xB dX7_isRight_139 (by decide) ?_
        refine q_VI (As := [.int (nI 1)]) (rest := []) ⟨xE, xB, xM, xO, xT⟩ (kX7_fails l G r s P U p X y q0 q1 q2 q3 u_22.1 r1 u_22.2.2.2.2.1 wv hv u_22.2.2.2.2.2 1) (cwV 1 xT gX7_isRight_X7_fails rfl rfl rfl (by decide +kernel) ⟨Nat.le_of_ble_eq_true rfl, Nat.le_of_ble_eq_true rfl⟩) xK xP xD xS [0, 1, 2, 3, 4, 5] rfl (by decide +kernel) (fun _ => rfl) 0 rfl rfl rfl rfl xL.1 rfl (Nat.le_of_ble_eq_true rfl) dX7_isRight_140 ⟨Nat.le_refl _, Nat.le_refl _⟩ (fun r_140 u_140 H locs h_140 xP xD xS => ?_)
        have xP : va_P G.1 vwCl (wU G r (s, P, U, p, X, y, q0, q1, q2, q3, u_22.1, 1, u_22.2.2.2.2.1, wv, hv, u_22.2.2.2.2.2)) H := xP
        have xD : va_D A (wU G r (s, P, U, p, X, y, q0, q1, q2, q3, u_22.1, 1, u_22.2.2.2.2.1, wv, hv, u_22.2.2.2.2.2)) := xD
        obtain rfl : r_140 = nI 0 := h_140
        exact xQ _ _ _ _ _ (u_22.1, 1, u_22.2.2.2.2.1, wv, hv, u_22.2.2.2.2.2) (Or.inr ⟨rfl, by exact fz (rg_no n1 n3 n4) (show 1 ≠ 0 by decide)⟩) (by decide) xP xD xS dX7_isRight_143
  exact L_21 (y + 1 - 0 + 1) 0 re 6 0 0 B 0 (fun _ => nI 0) (by omega) (by omega) (by omega) (by omega) (by rfl) (by intro a b _ _ h9; omega) (Nat.lt_succ_self _) _ _ xP xD xS _ (lv_sub xL [0] rfl)
theorem kX7_textFault_c117 : Cond.constant RX7 117 (-1000004) ∈ wsX7_textFault := by decide +kernel
theorem kX7_textFault_c37 : Cond.constant RX7 37 (-1000001) ∈ wsX7_textFault := by decide +kernel
theorem kX7_textFault_f141 : Cond.fieldLink RX7 141 "SkewedSquareModel" "spot" "I" ∈ wsX7_textFault := by decide +kernel
theorem kX7_textFault_f153 : Cond.fieldLink RX7 153 "SkewedSquareModel" "reason" "I" ∈ wsX7_textFault := by decide +kernel
theorem khX7_textFault_X7 : ∀ w ∈ u_ws RX7 TX7 16, w ∈ wsX7_textFault := by decide +kernel
set_option maxHeartbeats 4000000 in
set_option maxRecDepth 100000 in
/-- kX7_textFault -/
theorem kX7_textFault (l : Launch) (G : wG) (r : RA) (s P U : wF) (p : Nat) (X : wF) (y q0 : Nat) (q1 : Int32) (q2 : Nat) (q3 : Int32) (sp re : Nat) (B : wF) (wd hg ow : Nat) (T : Nat → Nat) (v1 : Int32) (hX : RefX X T y) : CI (S := Nat × Nat × wF × Nat × Nat × Nat) l yX7_textFault wsX7_textFault (rm 4 85) G [.ref r.1, .int v1] (wU G r (s, P, U, p, X, y, q0, q1, q2, q3, sp, re, B, wd, hg, ow)) (fun x u9 => x = tfA y v1 T) (fun u9 => wU G r (s, P, U, p, X, y, q0, q1, q2, q3, u9.1, u9.2.1, u9.2.2.1, u9.2.2.2.1, u9.2.2.2.2.1, u9.2.2.2.2.2)) := by
  refine CI.of (own := RX7) rfl (by decide) rfl (Nat.le_of_ble_eq_true rfl) ?_
  intro p9 e9 s9 m9 b9 t9 c9 A xE xB xM xO xT xK xP xD Q xQ xS ls hl
  have xL : lv_has ls 2 [(0, .ref r.1), (1, .int v1)] := hl
  refine lv_iload_n xE xB dX7_textFault_0 rfl (lv_at xL 1 rfl) ?_
  refine lv_iconst (v := nI 0) xE xB dX7_textFault_1 (by decide) ?_
  refine lv_iconst (v := nI 1) xE xB dX7_textFault_2 (by decide) ?_
  refine q_SR (As := [.int v1, .int (nI 0), .int (nI 1)]) (rest := []) ⟨xE, xB, xM, xO, xT⟩ (kX7_in l G v1 (nI 0) (nI 1)) (va_cwS 3 xT gX7_textFault_X7_in rfl rfl rfl (by decide +kernel) ⟨Nat.le_of_ble_eq_true rfl, Nat.le_of_ble_eq_true rfl⟩) xK xP [] rfl rfl xL.1 rfl (Nat.le_of_ble_eq_true rfl) dX7_textFault_3 ⟨Nat.le_refl _, Nat.le_refl _⟩ (fun r_3 h_3 => ?_)
  rcases h_3 with ⟨h_3, c_3⟩ | ⟨h_3, c_3⟩
  · skip
    subst h_3
    have c_3 : ((nI 0) : Int32).toInt ≤ v1.toInt ∧ v1.toInt ≤ ((nI 1) : Int32).toInt := c_3
    refine lv_if_ne (tgt := 12) xE xB dX7_textFault_6 (by decide) (fun _ => ?_) (fun h9 => absurd h9 (by decide))
    (try (first | replace c_3 := (in_R (by omega) (by omega)).mp c_3 | replace c_3 := mt (in_R (by omega) (by omega)).mpr c_3))
    have e_v1 : v1 = nI (tN v1) := tN_eq (by omega)
    have b_v1 : (tN v1 : Int) = v1.toInt := tN_z (by omega)
    rw [e_v1] at xL
    have xL : lv_has ls 2 [(0, .ref r.1), (1, .int (nI (tN v1)))] := xL
    refine lv_aload_n xE xB dX7_textFault_12 rfl (lv_at xL 0 rfl) ?_
    refine q_VI (As := []) (rest := []) ⟨xE, xB, xM, xO, xT⟩ (kX7_isRight l G r s P U p X y q0 q1 q2 q3 sp re B wd hg ow T (by exact hX)) (cwV 0 xT gX7_textFault_X7_isRight rfl rfl rfl (by decide +kernel) ⟨Nat.le_of_ble_eq_true rfl, Nat.le_of_ble_eq_true rfl⟩) xK xP xD xS [0, 1, 2, 3, 4, 5] rfl (by decide +kernel) (fun _ => rfl) 0 rfl rfl rfl rfl xL.1 rfl (Nat.le_of_ble_eq_true rfl) dX7_textFault_13 ⟨Nat.le_refl _, Nat.le_refl _⟩ (fun r_13 u_13 H locs h_13 xP xD xS => ?_)
    have xP : va_P G.1 vwCl (wU G r (s, P, U, p, X, y, q0, q1, q2, q3, u_13.1, u_13.2.1, u_13.2.2.1, u_13.2.2.2.1, u_13.2.2.2.2.1, u_13.2.2.2.2.2)) H := xP
    have xD : va_D A (wU G r (s, P, U, p, X, y, q0, q1, q2, q3, u_13.1, u_13.2.1, u_13.2.2.1, u_13.2.2.2.1, u_13.2.2.2.2.1, u_13.2.2.2.2.2)) := xD
    rcases h_13 with ⟨h_13, c_13⟩ | ⟨h_13, c_13⟩
    · skip
      subst h_13
      have c_13 : scR T y = 0 ∧ u_13.2.2.2.2.1 = scM T y ∧ u_13.2.2.2.1 = scC T y ∧ ∀ a b, a < scM T y → b < scC T y → u_13.2.2.1 (6 * a + b) = scF T y (6 * a + b) := c_13
      refine lv_if_eq (tgt := 24) xE xB dX7_textFault_16 (by decide) (fun h9 => absurd h9 (by decide)) (fun _ => ?_)
      refine lv_ldc (v := (-1000004)) xE xB xO (xT _ kX7_textFault_c117) dX7_textFault_19 ?_
      refine lv_goto (tgt := 39) xE xB dX7_textFault_21 (by decide) ?_
      exact xQ _ _ _ _ _ (u_13.1, u_13.2.1, u_13.2.2.1, u_13.2.2.2.1, u_13.2.2.2.2.1, u_13.2.2.2.2.2) (by first | exact ((if_pos (by omega)).trans (if_pos c_13.1)).symm | (rw [c_13.2.1]; exact ((if_pos (by omega)).trans ((if_neg c_13.1).trans (if_pos (by omega)))).symm) | (rw [c_13.2.2]; exact ((if_pos (by omega)).trans ((if_neg c_13.1).trans (if_neg (by omega)))).symm)) xP xD xS dX7_textFault_39
    · skip
      subst h_13
      have c_13 : scR T y ≠ 0 ∧ u_13.1 = scP T y ∧ u_13.2.1 = scR T y := c_13
      refine lv_if_eq (tgt := 24) xE xB dX7_textFault_16 (by decide) (fun _ => ?_) (fun h9 => absurd (by decide) h9)
      refine lv_iload_n xE xB dX7_textFault_24 rfl (lv_at xL 1 rfl) ?_
      refine q_if_ne (tgt := 35) xE xB dX7_textFault_25 (by decide) (by omega) (fun c_25 => ?_) (fun c_25 => ?_)
      · skip
        refine lv_aload_n xE xB dX7_textFault_35 rfl (lv_at xL 0 rfl) ?_
        refine va_get (D := G.1) (ci := 7) (v := .int (nI u_13.2.1)) (C := RX7) (T := TX7) (N := 16) xE xB xT khX7_textFault_X7 xO xK.1 xP 0 rfl rfl 11 (by decide) (xT _ kX7_textFault_f153) (fun _ h9 => h9) rfl dX7_textFault_36 ?_
        exact xQ _ _ _ _ _ (u_13.1, u_13.2.1, u_13.2.2.1, u_13.2.2.2.1, u_13.2.2.2.2.1, u_13.2.2.2.2.2) (by first | exact ((if_pos (by omega)).trans (if_pos c_13.1)).symm | (rw [c_13.2.1]; exact ((if_pos (by omega)).trans ((if_neg c_13.1).trans (if_pos (by omega)))).symm) | (rw [c_13.2.2]; exact ((if_pos (by omega)).trans ((if_neg c_13.1).trans (if_neg (by omega)))).symm)) xP xD xS dX7_textFault_39
      · skip
        refine lv_aload_n xE xB dX7_textFault_28 rfl (lv_at xL 0 rfl) ?_
        refine va_get (D := G.1) (ci := 7) (v := .int (nI u_13.1)) (C := RX7) (T := TX7) (N := 16) xE xB xT khX7_textFault_X7 xO xK.1 xP 0 rfl rfl 10 (by decide) (xT _ kX7_textFault_f141) (fun _ h9 => h9) rfl dX7_textFault_29 ?_
        refine lv_goto (tgt := 39) xE xB dX7_textFault_32 (by decide) ?_
        exact xQ _ _ _ _ _ (u_13.1, u_13.2.1, u_13.2.2.1, u_13.2.2.2.1, u_13.2.2.2.2.1, u_13.2.2.2.2.2) (by first | exact ((if_pos (by omega)).trans (if_pos c_13.1)).symm | (rw [c_13.2.1]; exact ((if_pos (by omega)).trans ((if_neg c_13.1).trans (if_pos (by omega)))).symm) | (rw [c_13.2.2]; exact ((if_pos (by omega)).trans ((if_neg c_13.1).trans (if_neg (by omega)))).symm)) xP xD xS dX7_textFault_39
  · skip
    subst h_3
    have c_3 : ¬ (((nI 0) : Int32).toInt ≤ v1.toInt ∧ v1.toInt ≤ ((nI 1) : Int32).toInt) := c_3
    refine lv_if_ne (tgt := 12) xE xB dX7_textFault_6 (by decide) (fun h9 => absurd (by decide) h9) (fun _ => ?_)
    refine lv_ldc (v := (-1000001)) xE xB xO (xT _ kX7_textFault_c37) dX7_textFault_9 ?_
    exact xQ _ _ _ _ _ (sp, re, B, wd, hg, ow) (by (try (first | replace c_3 := (in_R (by omega) (by omega)).mp c_3 | replace c_3 := mt (in_R (by omega) (by omega)).mpr c_3)); exact (if_neg (by omega)).symm) xP xD xS dX7_textFault_11
/-! the reading of a matrix, in the reference's steps -/
section RDE
variable {z base f g : wF} {a0 mr mc i j : Nat}
theorem rd_end (ho : ∀ p, (p < a0 ∨ a0 + 36 ≤ p) → z p = base p) (hin : ∀ a b, a < 6 → b < 6 → (a < mr ∧ b < mc) ∨ (a = mr ∧ b < 0) → z (a0 + (6 * a + b)) = f (6 * a + b)) (hout : ∀ a b, a < 6 → b < 6 → ¬ (a < mr ∧ b < mc) → z (a0 + (6 * a + b)) = nI 0)
    (hf : ∀ a b, a < 6 → b < 6 → (a < mr ∧ b < mc) ∨ f (6 * a + b) = nI 0) : z = putM a0 f base := by
  funext p
  by_cases h : a0 ≤ p ∧ p < a0 + 36
  · obtain ⟨q, rfl⟩ : ∃ q, p = a0 + q := ⟨p - a0, by omega⟩
    rw [putM_in (by omega)]
    have e : 6 * (q / 6) + q % 6 = q := by omega
    have h6 : q / 6 < 6 := by omega
    have h7 : q % 6 < 6 := by omega
    by_cases c : q / 6 < mr ∧ q % 6 < mc
    · have := hin _ _ h6 h7 (Or.inl c)
      rwa [e] at this
    · have g1 := hout _ _ h6 h7 c
      rcases hf _ _ h6 h7 with g2 | g2
      · exact absurd g2 c
      · rw [e] at g1 g2
        rw [g1, g2]
  · rw [putM_out (by omega)]
    exact ho p (by omega)
theorem rd_o {x : Int32} (ho : ∀ p, (p < a0 ∨ a0 + 36 ≤ p) → z p = base p) (h : 6 * i + j < 36) : ∀ p, (p < a0 ∨ a0 + 36 ≤ p) → upd z (a0 + (6 * i + j)) x p = base p := fun p hp => by rw [upd_n (by omega)]; exact ho p hp
theorem rd_in {x : Int32} (hin : ∀ a b, a < 6 → b < 6 → (a < i ∧ b < mc) ∨ (a = i ∧ b < j) → z (a0 + (6 * a + b)) = f (6 * a + b)) (hx : x = f (6 * i + j)) : ∀ a b, a < 6 → b < 6 → (a < i ∧ b < mc) ∨ (a = i ∧ b < j + 1) → upd z (a0 + (6 * i + j)) x (a0 + (6 * a + b)) = f (6 * a + b) := by
  intro a b ha hb hc
  by_cases e : 6 * a + b = 6 * i + j
  · rw [e, upd_s]; exact hx
  · rw [upd_n (by omega)]
    exact hin a b ha hb (by omega)
theorem rd_out {x : Int32} (hout : ∀ a b, a < 6 → b < 6 → ¬ (a < mr ∧ b < mc) → z (a0 + (6 * a + b)) = nI 0) (h1 : i < mr) (h2 : j < mc) (h3 : j < 6) : ∀ a b, a < 6 → b < 6 → ¬ (a < mr ∧ b < mc) → upd z (a0 + (6 * i + j)) x (a0 + (6 * a + b)) = nI 0 := by
  intro a b ha hb hc
  have e : 6 * a + b ≠ 6 * i + j := by
    intro q
    have h5 : a = i := by omega
    have h6 : b = j := by omega
    exact hc ⟨by omega, by omega⟩
  rw [upd_n (by omega)]
  exact hout a b ha hb hc
end RDE

theorem kX7_read_c37 : Cond.constant RX7 37 (-1000001) ∈ wsX7_read := by decide +kernel
theorem kX7_read_c58 : Cond.constant RX7 58 (-1000002) ∈ wsX7_read := by decide +kernel
theorem kX7_read_f147 : Cond.fieldLink RX7 147 "SkewedSquareModel" "high" "I" ∈ wsX7_read := by decide +kernel
theorem kX7_read_f156 : Cond.fieldLink RX7 156 "SkewedSquareModel" "wide" "I" ∈ wsX7_read := by decide +kernel
theorem kX7_read_f22 : Cond.fieldLink RX7 22 "SkewedSquareModel" "told" "[I" ∈ wsX7_read := by decide +kernel
theorem kX7_read_f7 : Cond.fieldLink RX7 7 "SkewedSquareModel" "s" "[I" ∈ wsX7_read := by decide +kernel
theorem khX7_read_X7 : ∀ w ∈ u_ws RX7 TX7 16, w ∈ wsX7_read := by decide +kernel
set_option maxHeartbeats 4000000 in
set_option maxRecDepth 100000 in
/-- kX7_read -/
theorem kX7_read (l : Launch) (G : wG) (r : RA) (s P U : wF) (p : Nat) (X : wF) (y q0 : Nat) (q1 : Int32) (q2 : Nat) (q3 : Int32) (sp re : Nat) (B : wF) (wd hg ow : Nat) (n o lr lc rc : Nat) (T : Nat → Nat) (b : Nat) (pst : PF) (v1 : Int32) (hD : RelD n o lr lc rc s) (hX : RefX X T y) (hb : b ≤ 1 ∧ s 5 = nI b) (hp : p ≤ 4) (hQ : PQ pst P p) : CI (S := wF × wF × Nat × Nat × Nat × wF × Nat × Nat × Nat) l yX7_read wsX7_read (rm 4 85) G [.ref r.1, .int v1] (wU G r (s, P, U, p, X, y, q0, q1, q2, q3, sp, re, B, wd, hg, ow)) (fun x u9 => QO x (u9.1, u9.2.1, u9.2.2.1) (opRead b y v1 T s pst p)) (fun u9 => wU G r (u9.1, u9.2.1, U, u9.2.2.1, X, y, q0, q1, q2, q3, u9.2.2.2.1, u9.2.2.2.2.1, u9.2.2.2.2.2.1, u9.2.2.2.2.2.2.1, u9.2.2.2.2.2.2.2.1, u9.2.2.2.2.2.2.2.2)) := by
  refine CI.of (own := RX7) rfl (by decide) rfl (Nat.le_of_ble_eq_true rfl) ?_
  intro p9 e9 s9 m9 b9 t9 c9 A xE xB xM xO xT xK xP xD Q xQ xS ls hl
  have xL : lv_has ls 5 [(0, .ref r.1), (1, .int v1)] := hl
  obtain ⟨g0, g1, g2, g3, g4, ⟨hn1, hn2, hn3⟩, hm1, hm2, hm3, hm4, hm5, hm6⟩ := id hD
  have hb1 := hb.1
  refine lv_iload_n xE xB dX7_read_0 rfl (lv_at xL 1 rfl) ?_
  refine lv_iconst (v := nI 0) xE xB dX7_read_1 (by decide) ?_
  refine lv_iconst (v := nI 1) xE xB dX7_read_2 (by decide) ?_
  refine q_SR (As := [.int v1, .int (nI 0), .int (nI 1)]) (rest := []) ⟨xE, xB, xM, xO, xT⟩ (kX7_in l G v1 (nI 0) (nI 1)) (va_cwS 3 xT gX7_read_X7_in rfl rfl rfl (by decide +kernel) ⟨Nat.le_of_ble_eq_true rfl, Nat.le_of_ble_eq_true rfl⟩) xK xP [] rfl rfl xL.1 rfl (Nat.le_of_ble_eq_true rfl) dX7_read_3 ⟨Nat.le_refl _, Nat.le_refl _⟩ (fun r_3 h_3 => ?_)
  rcases h_3 with ⟨h_3, c_3⟩ | ⟨h_3, c_3⟩
  · skip
    subst h_3
    have c_3 : ((nI 0) : Int32).toInt ≤ v1.toInt ∧ v1.toInt ≤ ((nI 1) : Int32).toInt := c_3
    refine lv_if_ne (tgt := 12) xE xB dX7_read_6 (by decide) (fun _ => ?_) (fun h9 => absurd h9 (by decide))
    (try (first | replace c_3 := (in_R (by omega) (by omega)).mp c_3 | replace c_3 := mt (in_R (by omega) (by omega)).mpr c_3))
    rcases (show v1 = nI 0 ∨ v1 = nI 1 by rcases (show v1.toInt = 0 ∨ v1.toInt = 1 by omega) with q | q; exact Or.inl (Int32.toInt_inj.mp (by rw [q]; decide)); exact Or.inr (Int32.toInt_inj.mp (by rw [q]; decide))) with h9 | h9
    · skip
      subst h9
      have z9 : (nI 0).toInt = 0 := (by decide)
      refine lv_aload_n xE xB dX7_read_12 rfl (lv_at xL 0 rfl) ?_
      refine va_get (D := G.1) (ci := 7) (v := .ref r.2.1) (C := RX7) (T := TX7) (N := 16) xE xB xT khX7_read_X7 xO xK.1 xP 0 rfl rfl 0 (by decide) (xT _ kX7_read_f7) (fun _ h9 => h9) rfl dX7_read_13 ?_
      refine lv_iconst (v := nI 5) xE xB dX7_read_16 (by decide) ?_
      refine q_ald xE xB xK xP 1 rfl (by omega) (by decide) dX7_read_17 ?_
      refine q_eq (y := nI b) (congrArg (fun z => z) (hb.2)) ?_
      refine lv_iconst (v := nI 1) xE xB dX7_read_18 (by decide) ?_
      refine q_icmp_eq (tgt := 29) xE xB dX7_read_19 (by decide) (by omega) (by omega) (fun c_19 => ?_) (fun c_19 => ?_)
      · skip
        refine lv_ldc (v := (-1000002)) xE xB xO (xT _ kX7_read_c58) dX7_read_29 ?_
        exact xQ _ _ _ _ _ (s, P, p, sp, re, B, wd, hg, ow) (by first | (rw [show opRead b y (nI 0) T s pst p = (kNP, s, pst, p) from (if_pos (by omega)).trans (if_pos (Or.inl (by omega)))]; exact ⟨rfl, rfl, rfl, hp, hQ⟩) | (rw [show opRead b y (nI 0) T s pst p = (kNP, s, pst, p) from (if_pos (by omega)).trans (if_pos (Or.inr c_23.1))]; exact ⟨rfl, rfl, rfl, hp, hQ⟩) | (rw [show opRead b y (nI 1) T s pst p = (kNP, s, pst, p) from (if_pos (by omega)).trans (if_pos (Or.inl (by omega)))]; exact ⟨rfl, rfl, rfl, hp, hQ⟩) | (rw [show opRead b y (nI 1) T s pst p = (kNP, s, pst, p) from (if_pos (by omega)).trans (if_pos (Or.inr c_23.1))]; exact ⟨rfl, rfl, rfl, hp, hQ⟩)) xP xD xS dX7_read_31
      · skip
        refine lv_aload_n xE xB dX7_read_22 rfl (lv_at xL 0 rfl) ?_
        refine q_VI (As := []) (rest := []) ⟨xE, xB, xM, xO, xT⟩ (kX7_isRight l G r s P U p X y q0 q1 q2 q3 sp re B wd hg ow T (by exact hX)) (cwV 0 xT gX7_read_X7_isRight rfl rfl rfl (by decide +kernel) ⟨Nat.le_of_ble_eq_true rfl, Nat.le_of_ble_eq_true rfl⟩) xK xP xD xS [0, 1, 2, 3, 4, 5] rfl (by decide +kernel) (fun _ => rfl) 0 rfl rfl rfl rfl xL.1 rfl (Nat.le_of_ble_eq_true rfl) dX7_read_23 ⟨Nat.le_refl _, Nat.le_refl _⟩ (fun r_23 u_23 H locs h_23 xP xD xS => ?_)
        have xP : va_P G.1 vwCl (wU G r (s, P, U, p, X, y, q0, q1, q2, q3, u_23.1, u_23.2.1, u_23.2.2.1, u_23.2.2.2.1, u_23.2.2.2.2.1, u_23.2.2.2.2.2)) H := xP
        have xD : va_D A (wU G r (s, P, U, p, X, y, q0, q1, q2, q3, u_23.1, u_23.2.1, u_23.2.2.1, u_23.2.2.2.1, u_23.2.2.2.2.1, u_23.2.2.2.2.2)) := xD
        rcases h_23 with ⟨h_23, c_23⟩ | ⟨h_23, c_23⟩
        · skip
          subst h_23
          have c_23 : scR T y = 0 ∧ u_23.2.2.2.2.1 = scM T y ∧ u_23.2.2.2.1 = scC T y ∧ ∀ a b, a < scM T y → b < scC T y → u_23.2.2.1 (6 * a + b) = scF T y (6 * a + b) := c_23
          refine lv_if_ne (tgt := 32) xE xB dX7_read_26 (by decide) (fun _ => ?_) (fun h9 => absurd h9 (by decide))
          obtain ⟨n1, n2, n3, n4⟩ := c_23
          have hok := scan_okZ n1
          obtain ⟨⟨o1, o2⟩, ⟨o3, o4⟩, -, o5⟩ := hok
          rw [n2, n3] at xP xD
          have xP : va_P G.1 vwCl (wU G r (s, P, U, p, X, y, q0, q1, q2, q3, u_23.1, u_23.2.1, u_23.2.2.1, scC T y, scM T y, u_23.2.2.2.2.2)) H := xP
          have xD : va_D A (wU G r (s, P, U, p, X, y, q0, q1, q2, q3, u_23.1, u_23.2.1, u_23.2.2.1, scC T y, scM T y, u_23.2.2.2.2.2)) := xD
          refine lv_aload_n xE xB dX7_read_32 rfl (lv_at xL 0 rfl) ?_
          refine q_VV (As := []) (rest := []) ⟨xE, xB, xM, xO, xT⟩ (kX7_changes l G r s P U p X y q0 q1 q2 q3 u_23.1 u_23.2.1 u_23.2.2.1 (scC T y) (scM T y) u_23.2.2.2.2.2 (by omega)) (cwV 0 xT gX7_read_X7_changes rfl rfl rfl (by decide +kernel) ⟨Nat.le_of_ble_eq_true rfl, Nat.le_of_ble_eq_true rfl⟩) xK xP xD xS [0, 1, 2, 3, 4, 5] rfl (by decide +kernel) (fun _ => rfl) 0 rfl rfl rfl rfl xL.1 rfl (Nat.le_of_ble_eq_true rfl) dX7_read_33 ⟨Nat.le_refl _, Nat.le_refl _⟩ (fun u_33 H locs h_33 xP xD xS => ?_)
          have xP : va_P G.1 vwCl (wU G r (s, chgQ s P p, U, chgN p, X, y, q0, q1, q2, q3, u_23.1, u_23.2.1, u_23.2.2.1, scC T y, scM T y, u_23.2.2.2.2.2)) H := xP
          have xD : va_D A (wU G r (s, chgQ s P p, U, chgN p, X, y, q0, q1, q2, q3, u_23.1, u_23.2.1, u_23.2.2.1, scC T y, scM T y, u_23.2.2.2.2.2)) := xD
          refine lv_iload_n xE xB dX7_read_36 rfl (lv_at xL 1 rfl) ?_
          refine lv_if_ne (tgt := 47) xE xB dX7_read_37 (by decide) (fun h9 => absurd (by decide) h9) (fun _ => ?_)
          refine lv_aload_n xE xB dX7_read_40 rfl (lv_at xL 0 rfl) ?_
          refine va_get (D := G.1) (ci := 7) (v := .int (nI (scC T y))) (C := RX7) (T := TX7) (N := 16) xE xB xT khX7_read_X7 xO xK.1 xP 0 rfl rfl 13 (by decide) (xT _ kX7_read_f156) (fun _ h9 => h9) rfl dX7_read_41 ?_
          refine lv_goto (tgt := 51) xE xB dX7_read_44 (by decide) ?_
          refine lv_istore_n (lv' := [(2, .int (nI (scC T y))), (0, .ref r.1), (1, .int (nI 0))]) xE xB dX7_read_51 rfl xL (by decide) rfl (fun ls xL => ?_)
          have J_75 : ∀ (v : wF), (v = if s 2 = nI (scC T y) then s else clr 45 36 s) → ∀ (H : Heap) (locs : List Loc), va_P G.1 vwCl (wU G r (v, chgQ s P p, U, chgN p, X, y, q0, q1, q2, q3, u_23.1, u_23.2.1, u_23.2.2.1, scC T y, scM T y, u_23.2.2.2.2.2)) H → va_D A (wU G r (v, chgQ s P p, U, chgN p, X, y, q0, q1, q2, q3, u_23.1, u_23.2.1, u_23.2.2.1, scC T y, scM T y, u_23.2.2.2.2.2)) → va_S A s9.heap H locs → ∀ (ls : Array Slot), lv_has ls 5 [(0, .ref r.1), (1, .int (nI 0)), (2, .int (nI (scC T y)))] → W p9 l e9 (rm 4 85) s9 m9 ([.ref r.1, .int (nI 0)] : List Value).toArray b9 t9 c9 H locs 0 0 Q (F0 m9 75 ls []) := by
            intro v hv H locs xP xD xS ls xL
            refine lv_aload_n xE xB dX7_read_75 rfl (lv_at xL 0 rfl) ?_
            refine va_get (D := G.1) (ci := 7) (v := .ref r.2.1) (C := RX7) (T := TX7) (N := 16) xE xB xT khX7_read_X7 xO xK.1 xP 0 rfl rfl 0 (by decide) (xT _ kX7_read_f7) (fun _ h9 => h9) rfl dX7_read_76 ?_
            refine lv_iconst (v := nI 2) xE xB dX7_read_79 (by decide) ?_
            refine lv_iload_n xE xB dX7_read_80 rfl (lv_at xL 2 rfl) ?_
            refine q_ast xE xB xK xP xD xS 1 rfl (by omega) (by decide) dX7_read_81 (fun H locs xP xD xS => ?_)
            have xP : va_P G.1 vwCl (wU G r (upd v 2 (nI (scC T y)), chgQ s P p, U, chgN p, X, y, q0, q1, q2, q3, u_23.1, u_23.2.1, u_23.2.2.1, scC T y, scM T y, u_23.2.2.2.2.2)) H := xP
            have xD : va_D A (wU G r (upd v 2 (nI (scC T y)), chgQ s P p, U, chgN p, X, y, q0, q1, q2, q3, u_23.1, u_23.2.1, u_23.2.2.1, scC T y, scM T y, u_23.2.2.2.2.2)) := xD
            refine lv_aload_n xE xB dX7_read_82 rfl (lv_at xL 0 rfl) ?_
            refine va_get (D := G.1) (ci := 7) (v := .ref r.2.1) (C := RX7) (T := TX7) (N := 16) xE xB xT khX7_read_X7 xO xK.1 xP 0 rfl rfl 0 (by decide) (xT _ kX7_read_f7) (fun _ h9 => h9) rfl dX7_read_83 ?_
            refine lv_iload_n xE xB dX7_read_86 rfl (lv_at xL 1 rfl) ?_
            refine lv_if_ne (tgt := 94) xE xB dX7_read_87 (by decide) (fun h9 => absurd (by decide) h9) (fun _ => ?_)
            refine lv_iconst (v := nI 1) xE xB dX7_read_90 (by decide) ?_
            refine lv_goto (tgt := 95) xE xB dX7_read_91 (by decide) ?_
            refine lv_iload_n xE xB dX7_read_95 rfl (lv_at xL 1 rfl) ?_
            refine lv_if_ne (tgt := 106) xE xB dX7_read_96 (by decide) (fun h9 => absurd (by decide) h9) (fun _ => ?_)
            refine lv_aload_n xE xB dX7_read_99 rfl (lv_at xL 0 rfl) ?_
            refine va_get (D := G.1) (ci := 7) (v := .int (nI (scM T y))) (C := RX7) (T := TX7) (N := 16) xE xB xT khX7_read_X7 xO xK.1 xP 0 rfl rfl 14 (by decide) (xT _ kX7_read_f147) (fun _ h9 => h9) rfl dX7_read_100 ?_
            refine lv_goto (tgt := 110) xE xB dX7_read_103 (by decide) ?_
            refine q_ast xE xB xK xP xD xS 1 rfl (by omega) (by decide) dX7_read_110 (fun H locs xP xD xS => ?_)
            have xP : va_P G.1 vwCl (wU G r (upd (upd v 2 (nI (scC T y))) 1 (nI (scM T y)), chgQ s P p, U, chgN p, X, y, q0, q1, q2, q3, u_23.1, u_23.2.1, u_23.2.2.1, scC T y, scM T y, u_23.2.2.2.2.2)) H := xP
            have xD : va_D A (wU G r (upd (upd v 2 (nI (scC T y))) 1 (nI (scM T y)), chgQ s P p, U, chgN p, X, y, q0, q1, q2, q3, u_23.1, u_23.2.1, u_23.2.2.1, scC T y, scM T y, u_23.2.2.2.2.2)) := xD
            refine lv_aload_n xE xB dX7_read_111 rfl (lv_at xL 0 rfl) ?_
            refine lv_bipush (v := nI 9) xE xB dX7_read_112 (by decide) ?_
            refine lv_bipush (v := nI 36) xE xB dX7_read_114 (by decide) ?_
            refine lv_iload_n xE xB dX7_read_116 rfl (lv_at xL 1 rfl) ?_
            refine q_imul xE xB dX7_read_117 ?_
            refine q_eq (y := nI 0) rfl ?_
            refine q_iadd xE xB dX7_read_118 ?_
            refine q_eq (y := nI 9) rfl ?_
            refine lv_bipush (v := nI 36) xE xB dX7_read_119 (by decide) ?_
            refine q_VV (As := [.int (nI 9), .int (nI 36)]) (rest := []) ⟨xE, xB, xM, xO, xT⟩ (kX7_clears l G r (upd (upd v 2 (nI (scC T y))) 1 (nI (scM T y))) (chgQ s P p) U (chgN p) X y q0 q1 q2 q3 u_23.1 u_23.2.1 u_23.2.2.1 (scC T y) (scM T y) u_23.2.2.2.2.2 9 36 (by omega)) (cwV 2 xT gX7_read_X7_clears rfl rfl rfl (by decide +kernel) ⟨Nat.le_of_ble_eq_true rfl, Nat.le_of_ble_eq_true rfl⟩) xK xP xD xS [0, 1, 2, 3, 4, 5] rfl (by decide +kernel) (fun _ => rfl) 0 rfl rfl rfl rfl xL.1 rfl (Nat.le_of_ble_eq_true rfl) dX7_read_121 ⟨Nat.le_refl _, Nat.le_refl _⟩ (fun u_121 H locs h_121 xP xD xS => ?_)
            have xP : va_P G.1 vwCl (wU G r (clr 9 36 (upd (upd v 2 (nI (scC T y))) 1 (nI (scM T y))), chgQ s P p, U, chgN p, X, y, q0, q1, q2, q3, u_23.1, u_23.2.1, u_23.2.2.1, scC T y, scM T y, u_23.2.2.2.2.2)) H := xP
            have xD : va_D A (wU G r (clr 9 36 (upd (upd v 2 (nI (scC T y))) 1 (nI (scM T y))), chgQ s P p, U, chgN p, X, y, q0, q1, q2, q3, u_23.1, u_23.2.1, u_23.2.2.1, scC T y, scM T y, u_23.2.2.2.2.2)) := xD
            subst hv
            have xP : va_P G.1 vwCl (wU G r (clr 9 36 (upd (upd (if s 2 = nI (scC T y) then s else clr 45 36 s) 2 (nI (scC T y))) 1 (nI (scM T y))), chgQ s P p, U, chgN p, X, y, q0, q1, q2, q3, u_23.1, u_23.2.1, u_23.2.2.1, scC T y, scM T y, u_23.2.2.2.2.2)) H := xP
            have xD : va_D A (wU G r (clr 9 36 (upd (upd (if s 2 = nI (scC T y) then s else clr 45 36 s) 2 (nI (scC T y))) 1 (nI (scM T y))), chgQ s P p, U, chgN p, X, y, q0, q1, q2, q3, u_23.1, u_23.2.1, u_23.2.2.1, scC T y, scM T y, u_23.2.2.2.2.2)) := xD
            refine lv_iconst (v := nI 0) xE xB dX7_read_124 (by decide) ?_
            refine lv_istore_n (lv' := [(3, .int (nI 0)), (0, .ref r.1), (1, .int (nI 0)), (2, .int (nI (scC T y)))]) xE xB dX7_read_125 rfl xL (by decide) rfl (fun ls xL => ?_)
            have L_126 : ∀ (n_126 : Nat) (i : Nat) (z : wF), (i ≤ scM T y) → (∀ q, (q < 9 ∨ 9 + 36 ≤ q) → z q = (upd (upd (if s 2 = nI (scC T y) then s else clr 45 36 s) 2 (nI (scC T y))) 1 (nI (scM T y))) q) → (∀ a d, a < 6 → d < 6 → (a < i ∧ d < scC T y) ∨ (a = i ∧ d < 0) → z (9 + (6 * a + d)) = (scF T y) (6 * a + d)) → (∀ a d, a < 6 → d < 6 → ¬ (a < scM T y ∧ d < scC T y) → z (9 + (6 * a + d)) = nI 0) → scM T y - i < n_126 → ∀ (H : Heap) (locs : List Loc), va_P G.1 vwCl (wU G r (z, chgQ s P p, U, chgN p, X, y, q0, q1, q2, q3, u_23.1, u_23.2.1, u_23.2.2.1, scC T y, scM T y, u_23.2.2.2.2.2)) H → va_D A (wU G r (z, chgQ s P p, U, chgN p, X, y, q0, q1, q2, q3, u_23.1, u_23.2.1, u_23.2.2.1, scC T y, scM T y, u_23.2.2.2.2.2)) → va_S A s9.heap H locs → ∀ (ls : Array Slot), lv_has ls 5 [(0, .ref r.1), (1, .int (nI 0)), (3, .int (nI i))] → W p9 l e9 (rm 4 85) s9 m9 ([.ref r.1, .int (nI 0)] : List Value).toArray b9 t9 c9 H locs 0 0 Q (F0 m9 126 ls []) := by
              intro n_126
              induction n_126 with
              | zero => intro i z hi ho hin hou hm_126 H locs xP xD xS ls xL; exact absurd hm_126 (Nat.not_lt_zero _)
              | succ n_126 ih_126 =>
                intro i z hi ho hin hou hm_126 H locs xP xD xS ls xL
                refine lv_iload_n xE xB dX7_read_126 rfl (lv_at xL 2 rfl) ?_
                refine lv_aload_n xE xB dX7_read_127 rfl (lv_at xL 0 rfl) ?_
                refine va_get (D := G.1) (ci := 7) (v := .int (nI (scM T y))) (C := RX7) (T := TX7) (N := 16) xE xB xT khX7_read_X7 xO xK.1 xP 0 rfl rfl 14 (by decide) (xT _ kX7_read_f147) (fun _ h9 => h9) rfl dX7_read_128 ?_
                refine q_icmp_ge (tgt := 190) xE xB dX7_read_131 (by decide) (by omega) (by omega) (fun c_131 => ?_) (fun c_131 => ?_)
                · skip
                  obtain hi9 : i = scM T y := by omega
                  rw [hi9] at hin
                  have hz9 : z = putM 9 (scF T y) (upd (upd (if s 2 = nI (scC T y) then s else clr 45 36 s) 2 (nI (scC T y))) 1 (nI (scM T y))) := rd_end ho hin hou o5
                  rw [hz9] at xP xD
                  have xP : va_P G.1 vwCl (wU G r (putM 9 (scF T y) (upd (upd (if s 2 = nI (scC T y) then s else clr 45 36 s) 2 (nI (scC T y))) 1 (nI (scM T y))), chgQ s P p, U, chgN p, X, y, q0, q1, q2, q3, u_23.1, u_23.2.1, u_23.2.2.1, scC T y, scM T y, u_23.2.2.2.2.2)) H := xP
                  have xD : va_D A (wU G r (putM 9 (scF T y) (upd (upd (if s 2 = nI (scC T y) then s else clr 45 36 s) 2 (nI (scC T y))) 1 (nI (scM T y))), chgQ s P p, U, chgN p, X, y, q0, q1, q2, q3, u_23.1, u_23.2.1, u_23.2.2.1, scC T y, scM T y, u_23.2.2.2.2.2)) := xD
                  refine lv_aload_n xE xB dX7_read_190 rfl (lv_at xL 0 rfl) ?_
                  refine lv_bipush (v := nI 117) xE xB dX7_read_191 (by decide) ?_
                  refine lv_bipush (v := nI 36) xE xB dX7_read_193 (by decide) ?_
                  refine q_VV (As := [.int (nI 117), .int (nI 36)]) (rest := []) ⟨xE, xB, xM, xO, xT⟩ (kX7_clears l G r (putM 9 (scF T y) (upd (upd (if s 2 = nI (scC T y) then s else clr 45 36 s) 2 (nI (scC T y))) 1 (nI (scM T y)))) (chgQ s P p) U (chgN p) X y q0 q1 q2 q3 u_23.1 u_23.2.1 u_23.2.2.1 (scC T y) (scM T y) u_23.2.2.2.2.2 117 36 (by omega)) (cwV 2 xT gX7_read_X7_clears rfl rfl rfl (by decide +kernel) ⟨Nat.le_of_ble_eq_true rfl, Nat.le_of_ble_eq_true rfl⟩) xK xP xD xS [0, 1, 2, 3, 4, 5] rfl (by decide +kernel) (fun _ => rfl) 0 rfl rfl rfl rfl xL.1 rfl (Nat.le_of_ble_eq_true rfl) dX7_read_195 ⟨Nat.le_refl _, Nat.le_refl _⟩ (fun u_195 H locs h_195 xP xD xS => ?_)
                  have xP : va_P G.1 vwCl (wU G r (clr 117 36 (putM 9 (scF T y) (upd (upd (if s 2 = nI (scC T y) then s else clr 45 36 s) 2 (nI (scC T y))) 1 (nI (scM T y)))), chgQ s P p, U, chgN p, X, y, q0, q1, q2, q3, u_23.1, u_23.2.1, u_23.2.2.1, scC T y, scM T y, u_23.2.2.2.2.2)) H := xP
                  have xD : va_D A (wU G r (clr 117 36 (putM 9 (scF T y) (upd (upd (if s 2 = nI (scC T y) then s else clr 45 36 s) 2 (nI (scC T y))) 1 (nI (scM T y)))), chgQ s P p, U, chgN p, X, y, q0, q1, q2, q3, u_23.1, u_23.2.1, u_23.2.2.1, scC T y, scM T y, u_23.2.2.2.2.2)) := xD
                  refine lv_aload_n xE xB dX7_read_198 rfl (lv_at xL 0 rfl) ?_
                  refine va_get (D := G.1) (ci := 7) (v := .int (nI (scM T y))) (C := RX7) (T := TX7) (N := 16) xE xB xT khX7_read_X7 xO xK.1 xP 0 rfl rfl 14 (by decide) (xT _ kX7_read_f147) (fun _ h9 => h9) rfl dX7_read_199 ?_
                  refine lv_aload_n xE xB dX7_read_202 rfl (lv_at xL 0 rfl) ?_
                  refine va_get (D := G.1) (ci := 7) (v := .int (nI (scC T y))) (C := RX7) (T := TX7) (N := 16) xE xB xT khX7_read_X7 xO xK.1 xP 0 rfl rfl 13 (by decide) (xT _ kX7_read_f156) (fun _ h9 => h9) rfl dX7_read_203 ?_
                  refine q_imul xE xB dX7_read_206 ?_
                  exact xQ _ _ _ _ _ (clr 117 36 (putM 9 (scF T y) (upd (upd (if s 2 = nI (scC T y) then s else clr 45 36 s) 2 (nI (scC T y))) 1 (nI (scM T y)))), chgQ s P p, chgN p, u_23.1, u_23.2.1, u_23.2.2.1, scC T y, scM T y, u_23.2.2.2.2.2) (by first | (rw [show opRead b y (nI 0) T s pst p = (nI (scM T y * scC T y), rdL (scM T y) (scC T y) (scF T y) s, chgP s pst p, chgN p) from (if_pos (by omega)).trans ((if_neg (by omega)).trans (by rw [if_pos z9]))]; exact ⟨rfl, rfl, rfl, chgN_4 hp, PQ_chg hp hQ⟩) | (rw [show opRead b y (nI 1) T s pst p = (nI (scM T y * scC T y), rdR (scM T y) (scC T y) (scF T y) s, chgP s pst p, chgN p) from (if_pos (by omega)).trans ((if_neg (by omega)).trans (by rw [if_neg (by omega)]))]; exact ⟨rfl, rfl, rfl, chgN_4 hp, PQ_chg hp hQ⟩)) xP xD xS dX7_read_207
                · skip
                  refine lv_iconst (v := nI 0) xE xB dX7_read_134 (by decide) ?_
                  refine lv_istore (lv' := [(4, .int (nI 0)), (0, .ref r.1), (1, .int (nI 0)), (3, .int (nI i))]) xE xB dX7_read_135 xL (by decide) rfl (fun ls xL => ?_)
                  have L_137 : ∀ (n_137 : Nat) (j : Nat) (yy : wF), (j ≤ scC T y) → (∀ q, (q < 9 ∨ 9 + 36 ≤ q) → yy q = (upd (upd (if s 2 = nI (scC T y) then s else clr 45 36 s) 2 (nI (scC T y))) 1 (nI (scM T y))) q) → (∀ a d, a < 6 → d < 6 → (a < i ∧ d < scC T y) ∨ (a = i ∧ d < j) → yy (9 + (6 * a + d)) = (scF T y) (6 * a + d)) → (∀ a d, a < 6 → d < 6 → ¬ (a < scM T y ∧ d < scC T y) → yy (9 + (6 * a + d)) = nI 0) → scC T y - j < n_137 → ∀ (H : Heap) (locs : List Loc), va_P G.1 vwCl (wU G r (yy, chgQ s P p, U, chgN p, X, y, q0, q1, q2, q3, u_23.1, u_23.2.1, u_23.2.2.1, scC T y, scM T y, u_23.2.2.2.2.2)) H → va_D A (wU G r (yy, chgQ s P p, U, chgN p, X, y, q0, q1, q2, q3, u_23.1, u_23.2.1, u_23.2.2.1, scC T y, scM T y, u_23.2.2.2.2.2)) → va_S A s9.heap H locs → ∀ (ls : Array Slot), lv_has ls 5 [(0, .ref r.1), (1, .int (nI 0)), (3, .int (nI i)), (4, .int (nI j))] → W p9 l e9 (rm 4 85) s9 m9 ([.ref r.1, .int (nI 0)] : List Value).toArray b9 t9 c9 H locs 0 0 Q (F0 m9 137 ls []) := by
                    intro n_137
                    induction n_137 with
                    | zero => intro j yy hj ho2 hin2 hou2 hm_137 H locs xP xD xS ls xL; exact absurd hm_137 (Nat.not_lt_zero _)
                    | succ n_137 ih_137 =>
                      intro j yy hj ho2 hin2 hou2 hm_137 H locs xP xD xS ls xL
                      refine lv_iload xE xB dX7_read_137 (lv_at xL 3 rfl) ?_
                      refine lv_aload_n xE xB dX7_read_139 rfl (lv_at xL 0 rfl) ?_
                      refine va_get (D := G.1) (ci := 7) (v := .int (nI (scC T y))) (C := RX7) (T := TX7) (N := 16) xE xB xT khX7_read_X7 xO xK.1 xP 0 rfl rfl 13 (by decide) (xT _ kX7_read_f156) (fun _ h9 => h9) rfl dX7_read_140 ?_
                      refine q_icmp_ge (tgt := 184) xE xB dX7_read_143 (by decide) (by omega) (by omega) (fun c_143 => ?_) (fun c_143 => ?_)
                      · skip
                        refine lv_iinc (v := nI (i + 1)) (lv' := [(3, .int (nI (i + 1))), (0, .ref r.1), (1, .int (nI 0)), (4, .int (nI j))]) xE xB dX7_read_184 xL (k := 2) rfl (q_inc _ _) (by decide) rfl (fun ls xL => ?_)
                        refine lv_goto (tgt := 126) xE xB dX7_read_187 (by decide) ?_
                        exact ih_126 (i + 1) yy (by omega) (by exact ho2) (by exact fun a d h6 h7 h9 => hin2 a d h6 h7 (by omega)) (by exact hou2) (by omega) _ _ xP xD xS _ (lv_sub xL [1, 2, 0] rfl)
                      · skip
                        refine lv_aload_n xE xB dX7_read_146 rfl (lv_at xL 0 rfl) ?_
                        refine va_get (D := G.1) (ci := 7) (v := .ref r.2.1) (C := RX7) (T := TX7) (N := 16) xE xB xT khX7_read_X7 xO xK.1 xP 0 rfl rfl 0 (by decide) (xT _ kX7_read_f7) (fun _ h9 => h9) rfl dX7_read_147 ?_
                        refine lv_bipush (v := nI 9) xE xB dX7_read_150 (by decide) ?_
                        refine lv_bipush (v := nI 36) xE xB dX7_read_152 (by decide) ?_
                        refine lv_iload_n xE xB dX7_read_154 rfl (lv_at xL 1 rfl) ?_
                        refine q_imul xE xB dX7_read_155 ?_
                        refine q_eq (y := nI 0) rfl ?_
                        refine q_iadd xE xB dX7_read_156 ?_
                        refine q_eq (y := nI 9) rfl ?_
                        refine lv_bipush (v := nI 6) xE xB dX7_read_157 (by decide) ?_
                        refine lv_iload_n xE xB dX7_read_159 rfl (lv_at xL 2 rfl) ?_
                        refine q_imul xE xB dX7_read_160 ?_
                        refine q_iadd xE xB dX7_read_161 ?_
                        refine lv_iload xE xB dX7_read_162 (lv_at xL 3 rfl) ?_
                        refine q_iadd xE xB dX7_read_164 ?_
                        refine q_eq (y := nI (9 + (6 * i + j))) (congrArg nI (Nat.add_assoc _ _ _)) ?_
                        refine lv_aload_n xE xB dX7_read_165 rfl (lv_at xL 0 rfl) ?_
                        refine va_get (D := G.1) (ci := 7) (v := .ref r.2.2.2.2.2) (C := RX7) (T := TX7) (N := 16) xE xB xT khX7_read_X7 xO xK.1 xP 0 rfl rfl 12 (by decide) (xT _ kX7_read_f22) (fun _ h9 => h9) rfl dX7_read_166 ?_
                        refine lv_bipush (v := nI 6) xE xB dX7_read_169 (by decide) ?_
                        refine lv_iload_n xE xB dX7_read_171 rfl (lv_at xL 2 rfl) ?_
                        refine q_imul xE xB dX7_read_172 ?_
                        refine lv_iload xE xB dX7_read_173 (lv_at xL 3 rfl) ?_
                        refine q_iadd xE xB dX7_read_175 ?_
                        refine q_ald xE xB xK xP 5 rfl (by omega) (by decide) dX7_read_176 ?_
                        refine q_ast xE xB xK xP xD xS 1 rfl (by omega) (by decide) dX7_read_177 (fun H locs xP xD xS => ?_)
                        have xP : va_P G.1 vwCl (wU G r (upd yy (9 + (6 * i + j)) (u_23.2.2.1 ((6 * i) + j)), chgQ s P p, U, chgN p, X, y, q0, q1, q2, q3, u_23.1, u_23.2.1, u_23.2.2.1, scC T y, scM T y, u_23.2.2.2.2.2)) H := xP
                        have xD : va_D A (wU G r (upd yy (9 + (6 * i + j)) (u_23.2.2.1 ((6 * i) + j)), chgQ s P p, U, chgN p, X, y, q0, q1, q2, q3, u_23.1, u_23.2.1, u_23.2.2.1, scC T y, scM T y, u_23.2.2.2.2.2)) := xD
                        refine lv_iinc (v := nI (j + 1)) (lv' := [(4, .int (nI (j + 1))), (0, .ref r.1), (1, .int (nI 0)), (3, .int (nI i))]) xE xB dX7_read_178 xL (k := 3) rfl (q_inc _ _) (by decide) rfl (fun ls xL => ?_)
                        refine lv_goto (tgt := 137) xE xB dX7_read_181 (by decide) ?_
                        exact ih_137 (j + 1) (upd yy (9 + (6 * i + j)) (u_23.2.2.1 (6 * i + j))) (by omega) (by exact rd_o ho2 (by omega)) (by exact rd_in hin2 (n4 i j (by omega) (by omega))) (by exact rd_out hou2 (by omega) (by omega) (by omega)) (by omega) _ _ xP xD xS _ (lv_sub xL [1, 2, 3, 0] rfl)
                  exact L_137 (scC T y - 0 + 1) 0 z (by omega) (by exact ho) (by exact hin) (by exact hou) (Nat.lt_succ_self _) _ _ xP xD xS _ (lv_sub xL [1, 2, 3, 0] rfl)
            exact L_126 (scM T y - 0 + 1) 0 (clr 9 36 (upd (upd (if s 2 = nI (scC T y) then s else clr 45 36 s) 2 (nI (scC T y))) 1 (nI (scM T y)))) (by omega) (by exact fun q hq => clr_out hq) (by intro a d h6 h7 h9; omega) (by exact fun a d h6 h7 _ => clr_in (by omega) (by omega)) (Nat.lt_succ_self _) _ _ xP xD xS _ (lv_sub xL [1, 2, 0] rfl)
          refine lv_iload_n xE xB dX7_read_52 rfl (lv_at xL 0 rfl) ?_
          refine lv_aload_n xE xB dX7_read_53 rfl (lv_at xL 1 rfl) ?_
          refine va_get (D := G.1) (ci := 7) (v := .ref r.2.1) (C := RX7) (T := TX7) (N := 16) xE xB xT khX7_read_X7 xO xK.1 xP 0 rfl rfl 0 (by decide) (xT _ kX7_read_f7) (fun _ h9 => h9) rfl dX7_read_54 ?_
          refine lv_iconst (v := nI 2) xE xB dX7_read_57 (by decide) ?_
          refine q_ald xE xB xK xP 1 rfl (by omega) (by decide) dX7_read_58 ?_
          refine q_eq (y := nI lc) (congrArg (fun z => z) (g2)) ?_
          refine q_icmp_eq (tgt := 75) xE xB dX7_read_59 (by decide) (by omega) (by omega) (fun c_59 => ?_) (fun c_59 => ?_)
          · skip
            exact J_75 s (by first | exact (if_pos (by rw [g2, ← c_59])).symm | exact (if_neg (by rw [g2]; exact fun q => c_59 (nI_inj (by omega) (by omega) q).symm)).symm) _ _ xP xD xS _ (lv_sub xL [1, 2, 0] rfl)
          · skip
            refine lv_aload_n xE xB dX7_read_62 rfl (lv_at xL 1 rfl) ?_
            refine lv_bipush (v := nI 45) xE xB dX7_read_63 (by decide) ?_
            refine lv_bipush (v := nI 36) xE xB dX7_read_65 (by decide) ?_
            refine lv_iload_n xE xB dX7_read_67 rfl (lv_at xL 2 rfl) ?_
            refine q_imul xE xB dX7_read_68 ?_
            refine q_eq (y := nI 0) rfl ?_
            refine q_isub xE xB dX7_read_69 (by omega) ?_
            refine q_eq (y := nI 45) rfl ?_
            refine lv_bipush (v := nI 36) xE xB dX7_read_70 (by decide) ?_
            refine q_VV (As := [.int (nI 45), .int (nI 36)]) (rest := []) ⟨xE, xB, xM, xO, xT⟩ (kX7_clears l G r s (chgQ s P p) U (chgN p) X y q0 q1 q2 q3 u_23.1 u_23.2.1 u_23.2.2.1 (scC T y) (scM T y) u_23.2.2.2.2.2 45 36 (by omega)) (cwV 2 xT gX7_read_X7_clears rfl rfl rfl (by decide +kernel) ⟨Nat.le_of_ble_eq_true rfl, Nat.le_of_ble_eq_true rfl⟩) xK xP xD xS [0, 1, 2, 3, 4, 5] rfl (by decide +kernel) (fun _ => rfl) 0 rfl rfl rfl rfl xL.1 rfl (Nat.le_of_ble_eq_true rfl) dX7_read_72 ⟨Nat.le_refl _, Nat.le_refl _⟩ (fun u_72 H locs h_72 xP xD xS => ?_)
            have xP : va_P G.1 vwCl (wU G r (clr 45 36 s, chgQ s P p, U, chgN p, X, y, q0, q1, q2, q3, u_23.1, u_23.2.1, u_23.2.2.1, scC T y, scM T y, u_23.2.2.2.2.2)) H := xP
            have xD : va_D A (wU G r (clr 45 36 s, chgQ s P p, U, chgN p, X, y, q0, q1, q2, q3, u_23.1, u_23.2.1, u_23.2.2.1, scC T y, scM T y, u_23.2.2.2.2.2)) := xD
            exact J_75 (clr 45 36 s) (by first | exact (if_pos (by rw [g2, ← c_59])).symm | exact (if_neg (by rw [g2]; exact fun q => c_59 (nI_inj (by omega) (by omega) q).symm)).symm) _ _ xP xD xS _ (lv_sub xL [1, 2, 0] rfl)
        · skip
          subst h_23
          have c_23 : scR T y ≠ 0 ∧ u_23.1 = scP T y ∧ u_23.2.1 = scR T y := c_23
          refine lv_if_ne (tgt := 32) xE xB dX7_read_26 (by decide) (fun h9 => absurd (by decide) h9) (fun _ => ?_)
          refine lv_ldc (v := (-1000002)) xE xB xO (xT _ kX7_read_c58) dX7_read_29 ?_
          exact xQ _ _ _ _ _ (s, P, p, u_23.1, u_23.2.1, u_23.2.2.1, u_23.2.2.2.1, u_23.2.2.2.2.1, u_23.2.2.2.2.2) (by first | (rw [show opRead b y (nI 0) T s pst p = (kNP, s, pst, p) from (if_pos (by omega)).trans (if_pos (Or.inl (by omega)))]; exact ⟨rfl, rfl, rfl, hp, hQ⟩) | (rw [show opRead b y (nI 0) T s pst p = (kNP, s, pst, p) from (if_pos (by omega)).trans (if_pos (Or.inr c_23.1))]; exact ⟨rfl, rfl, rfl, hp, hQ⟩) | (rw [show opRead b y (nI 1) T s pst p = (kNP, s, pst, p) from (if_pos (by omega)).trans (if_pos (Or.inl (by omega)))]; exact ⟨rfl, rfl, rfl, hp, hQ⟩) | (rw [show opRead b y (nI 1) T s pst p = (kNP, s, pst, p) from (if_pos (by omega)).trans (if_pos (Or.inr c_23.1))]; exact ⟨rfl, rfl, rfl, hp, hQ⟩)) xP xD xS dX7_read_31
    · skip
      subst h9
      have z9 : (nI 1).toInt = 1 := (by decide)
      refine lv_aload_n xE xB dX7_read_12 rfl (lv_at xL 0 rfl) ?_
      refine va_get (D := G.1) (ci := 7) (v := .ref r.2.1) (C := RX7) (T := TX7) (N := 16) xE xB xT khX7_read_X7 xO xK.1 xP 0 rfl rfl 0 (by decide) (xT _ kX7_read_f7) (fun _ h9 => h9) rfl dX7_read_13 ?_
      refine lv_iconst (v := nI 5) xE xB dX7_read_16 (by decide) ?_
      refine q_ald xE xB xK xP 1 rfl (by omega) (by decide) dX7_read_17 ?_
      refine q_eq (y := nI b) (congrArg (fun z => z) (hb.2)) ?_
      refine lv_iconst (v := nI 1) xE xB dX7_read_18 (by decide) ?_
      refine q_icmp_eq (tgt := 29) xE xB dX7_read_19 (by decide) (by omega) (by omega) (fun c_19 => ?_) (fun c_19 => ?_)
      · skip
        refine lv_ldc (v := (-1000002)) xE xB xO (xT _ kX7_read_c58) dX7_read_29 ?_
        exact xQ _ _ _ _ _ (s, P, p, sp, re, B, wd, hg, ow) (by first | (rw [show opRead b y (nI 0) T s pst p = (kNP, s, pst, p) from (if_pos (by omega)).trans (if_pos (Or.inl (by omega)))]; exact ⟨rfl, rfl, rfl, hp, hQ⟩) | (rw [show opRead b y (nI 0) T s pst p = (kNP, s, pst, p) from (if_pos (by omega)).trans (if_pos (Or.inr c_23.1))]; exact ⟨rfl, rfl, rfl, hp, hQ⟩) | (rw [show opRead b y (nI 1) T s pst p = (kNP, s, pst, p) from (if_pos (by omega)).trans (if_pos (Or.inl (by omega)))]; exact ⟨rfl, rfl, rfl, hp, hQ⟩) | (rw [show opRead b y (nI 1) T s pst p = (kNP, s, pst, p) from (if_pos (by omega)).trans (if_pos (Or.inr c_23.1))]; exact ⟨rfl, rfl, rfl, hp, hQ⟩)) xP xD xS dX7_read_31
      · skip
        refine lv_aload_n xE xB dX7_read_22 rfl (lv_at xL 0 rfl) ?_
        refine q_VI (As := []) (rest := []) ⟨xE, xB, xM, xO, xT⟩ (kX7_isRight l G r s P U p X y q0 q1 q2 q3 sp re B wd hg ow T (by exact hX)) (cwV 0 xT gX7_read_X7_isRight rfl rfl rfl (by decide +kernel) ⟨Nat.le_of_ble_eq_true rfl, Nat.le_of_ble_eq_true rfl⟩) xK xP xD xS [0, 1, 2, 3, 4, 5] rfl (by decide +kernel) (fun _ => rfl) 0 rfl rfl rfl rfl xL.1 rfl (Nat.le_of_ble_eq_true rfl) dX7_read_23 ⟨Nat.le_refl _, Nat.le_refl _⟩ (fun r_23 u_23 H locs h_23 xP xD xS => ?_)
        have xP : va_P G.1 vwCl (wU G r (s, P, U, p, X, y, q0, q1, q2, q3, u_23.1, u_23.2.1, u_23.2.2.1, u_23.2.2.2.1, u_23.2.2.2.2.1, u_23.2.2.2.2.2)) H := xP
        have xD : va_D A (wU G r (s, P, U, p, X, y, q0, q1, q2, q3, u_23.1, u_23.2.1, u_23.2.2.1, u_23.2.2.2.1, u_23.2.2.2.2.1, u_23.2.2.2.2.2)) := xD
        rcases h_23 with ⟨h_23, c_23⟩ | ⟨h_23, c_23⟩
        · skip
          subst h_23
          have c_23 : scR T y = 0 ∧ u_23.2.2.2.2.1 = scM T y ∧ u_23.2.2.2.1 = scC T y ∧ ∀ a b, a < scM T y → b < scC T y → u_23.2.2.1 (6 * a + b) = scF T y (6 * a + b) := c_23
          refine lv_if_ne (tgt := 32) xE xB dX7_read_26 (by decide) (fun _ => ?_) (fun h9 => absurd h9 (by decide))
          obtain ⟨n1, n2, n3, n4⟩ := c_23
          have hok := scan_okZ n1
          obtain ⟨⟨o1, o2⟩, ⟨o3, o4⟩, -, o5⟩ := hok
          rw [n2, n3] at xP xD
          have xP : va_P G.1 vwCl (wU G r (s, P, U, p, X, y, q0, q1, q2, q3, u_23.1, u_23.2.1, u_23.2.2.1, scC T y, scM T y, u_23.2.2.2.2.2)) H := xP
          have xD : va_D A (wU G r (s, P, U, p, X, y, q0, q1, q2, q3, u_23.1, u_23.2.1, u_23.2.2.1, scC T y, scM T y, u_23.2.2.2.2.2)) := xD
          refine lv_aload_n xE xB dX7_read_32 rfl (lv_at xL 0 rfl) ?_
          refine q_VV (As := []) (rest := []) ⟨xE, xB, xM, xO, xT⟩ (kX7_changes l G r s P U p X y q0 q1 q2 q3 u_23.1 u_23.2.1 u_23.2.2.1 (scC T y) (scM T y) u_23.2.2.2.2.2 (by omega)) (cwV 0 xT gX7_read_X7_changes rfl rfl rfl (by decide +kernel) ⟨Nat.le_of_ble_eq_true rfl, Nat.le_of_ble_eq_true rfl⟩) xK xP xD xS [0, 1, 2, 3, 4, 5] rfl (by decide +kernel) (fun _ => rfl) 0 rfl rfl rfl rfl xL.1 rfl (Nat.le_of_ble_eq_true rfl) dX7_read_33 ⟨Nat.le_refl _, Nat.le_refl _⟩ (fun u_33 H locs h_33 xP xD xS => ?_)
          have xP : va_P G.1 vwCl (wU G r (s, chgQ s P p, U, chgN p, X, y, q0, q1, q2, q3, u_23.1, u_23.2.1, u_23.2.2.1, scC T y, scM T y, u_23.2.2.2.2.2)) H := xP
          have xD : va_D A (wU G r (s, chgQ s P p, U, chgN p, X, y, q0, q1, q2, q3, u_23.1, u_23.2.1, u_23.2.2.1, scC T y, scM T y, u_23.2.2.2.2.2)) := xD
          refine lv_iload_n xE xB dX7_read_36 rfl (lv_at xL 1 rfl) ?_
          refine lv_if_ne (tgt := 47) xE xB dX7_read_37 (by decide) (fun _ => ?_) (fun h9 => absurd h9 (by decide))
          refine lv_aload_n xE xB dX7_read_47 rfl (lv_at xL 0 rfl) ?_
          refine va_get (D := G.1) (ci := 7) (v := .int (nI (scM T y))) (C := RX7) (T := TX7) (N := 16) xE xB xT khX7_read_X7 xO xK.1 xP 0 rfl rfl 14 (by decide) (xT _ kX7_read_f147) (fun _ h9 => h9) rfl dX7_read_48 ?_
          refine lv_istore_n (lv' := [(2, .int (nI (scM T y))), (0, .ref r.1), (1, .int (nI 1))]) xE xB dX7_read_51 rfl xL (by decide) rfl (fun ls xL => ?_)
          have J_75 : ∀ (v : wF), (v = if s 2 = nI (scM T y) then s else clr 9 36 s) → ∀ (H : Heap) (locs : List Loc), va_P G.1 vwCl (wU G r (v, chgQ s P p, U, chgN p, X, y, q0, q1, q2, q3, u_23.1, u_23.2.1, u_23.2.2.1, scC T y, scM T y, u_23.2.2.2.2.2)) H → va_D A (wU G r (v, chgQ s P p, U, chgN p, X, y, q0, q1, q2, q3, u_23.1, u_23.2.1, u_23.2.2.1, scC T y, scM T y, u_23.2.2.2.2.2)) → va_S A s9.heap H locs → ∀ (ls : Array Slot), lv_has ls 5 [(0, .ref r.1), (1, .int (nI 1)), (2, .int (nI (scM T y)))] → W p9 l e9 (rm 4 85) s9 m9 ([.ref r.1, .int (nI 1)] : List Value).toArray b9 t9 c9 H locs 0 0 Q (F0 m9 75 ls []) := by
            intro v hv H locs xP xD xS ls xL
            refine lv_aload_n xE xB dX7_read_75 rfl (lv_at xL 0 rfl) ?_
            refine va_get (D := G.1) (ci := 7) (v := .ref r.2.1) (C := RX7) (T := TX7) (N := 16) xE xB xT khX7_read_X7 xO xK.1 xP 0 rfl rfl 0 (by decide) (xT _ kX7_read_f7) (fun _ h9 => h9) rfl dX7_read_76 ?_
            refine lv_iconst (v := nI 2) xE xB dX7_read_79 (by decide) ?_
            refine lv_iload_n xE xB dX7_read_80 rfl (lv_at xL 2 rfl) ?_
            refine q_ast xE xB xK xP xD xS 1 rfl (by omega) (by decide) dX7_read_81 (fun H locs xP xD xS => ?_)
            have xP : va_P G.1 vwCl (wU G r (upd v 2 (nI (scM T y)), chgQ s P p, U, chgN p, X, y, q0, q1, q2, q3, u_23.1, u_23.2.1, u_23.2.2.1, scC T y, scM T y, u_23.2.2.2.2.2)) H := xP
            have xD : va_D A (wU G r (upd v 2 (nI (scM T y)), chgQ s P p, U, chgN p, X, y, q0, q1, q2, q3, u_23.1, u_23.2.1, u_23.2.2.1, scC T y, scM T y, u_23.2.2.2.2.2)) := xD
            refine lv_aload_n xE xB dX7_read_82 rfl (lv_at xL 0 rfl) ?_
            refine va_get (D := G.1) (ci := 7) (v := .ref r.2.1) (C := RX7) (T := TX7) (N := 16) xE xB xT khX7_read_X7 xO xK.1 xP 0 rfl rfl 0 (by decide) (xT _ kX7_read_f7) (fun _ h9 => h9) rfl dX7_read_83 ?_
            refine lv_iload_n xE xB dX7_read_86 rfl (lv_at xL 1 rfl) ?_
            refine lv_if_ne (tgt := 94) xE xB dX7_read_87 (by decide) (fun _ => ?_) (fun h9 => absurd h9 (by decide))
            refine lv_iconst (v := nI 3) xE xB dX7_read_94 (by decide) ?_
            refine lv_iload_n xE xB dX7_read_95 rfl (lv_at xL 1 rfl) ?_
            refine lv_if_ne (tgt := 106) xE xB dX7_read_96 (by decide) (fun _ => ?_) (fun h9 => absurd h9 (by decide))
            refine lv_aload_n xE xB dX7_read_106 rfl (lv_at xL 0 rfl) ?_
            refine va_get (D := G.1) (ci := 7) (v := .int (nI (scC T y))) (C := RX7) (T := TX7) (N := 16) xE xB xT khX7_read_X7 xO xK.1 xP 0 rfl rfl 13 (by decide) (xT _ kX7_read_f156) (fun _ h9 => h9) rfl dX7_read_107 ?_
            refine q_ast xE xB xK xP xD xS 1 rfl (by omega) (by decide) dX7_read_110 (fun H locs xP xD xS => ?_)
            have xP : va_P G.1 vwCl (wU G r (upd (upd v 2 (nI (scM T y))) 3 (nI (scC T y)), chgQ s P p, U, chgN p, X, y, q0, q1, q2, q3, u_23.1, u_23.2.1, u_23.2.2.1, scC T y, scM T y, u_23.2.2.2.2.2)) H := xP
            have xD : va_D A (wU G r (upd (upd v 2 (nI (scM T y))) 3 (nI (scC T y)), chgQ s P p, U, chgN p, X, y, q0, q1, q2, q3, u_23.1, u_23.2.1, u_23.2.2.1, scC T y, scM T y, u_23.2.2.2.2.2)) := xD
            refine lv_aload_n xE xB dX7_read_111 rfl (lv_at xL 0 rfl) ?_
            refine lv_bipush (v := nI 9) xE xB dX7_read_112 (by decide) ?_
            refine lv_bipush (v := nI 36) xE xB dX7_read_114 (by decide) ?_
            refine lv_iload_n xE xB dX7_read_116 rfl (lv_at xL 1 rfl) ?_
            refine q_imul xE xB dX7_read_117 ?_
            refine q_eq (y := nI 36) rfl ?_
            refine q_iadd xE xB dX7_read_118 ?_
            refine q_eq (y := nI 45) rfl ?_
            refine lv_bipush (v := nI 36) xE xB dX7_read_119 (by decide) ?_
            refine q_VV (As := [.int (nI 45), .int (nI 36)]) (rest := []) ⟨xE, xB, xM, xO, xT⟩ (kX7_clears l G r (upd (upd v 2 (nI (scM T y))) 3 (nI (scC T y))) (chgQ s P p) U (chgN p) X y q0 q1 q2 q3 u_23.1 u_23.2.1 u_23.2.2.1 (scC T y) (scM T y) u_23.2.2.2.2.2 45 36 (by omega)) (cwV 2 xT gX7_read_X7_clears rfl rfl rfl (by decide +kernel) ⟨Nat.le_of_ble_eq_true rfl, Nat.le_of_ble_eq_true rfl⟩) xK xP xD xS [0, 1, 2, 3, 4, 5] rfl (by decide +kernel) (fun _ => rfl) 0 rfl rfl rfl rfl xL.1 rfl (Nat.le_of_ble_eq_true rfl) dX7_read_121 ⟨Nat.le_refl _, Nat.le_refl _⟩ (fun u_121 H locs h_121 xP xD xS => ?_)
            have xP : va_P G.1 vwCl (wU G r (clr 45 36 (upd (upd v 2 (nI (scM T y))) 3 (nI (scC T y))), chgQ s P p, U, chgN p, X, y, q0, q1, q2, q3, u_23.1, u_23.2.1, u_23.2.2.1, scC T y, scM T y, u_23.2.2.2.2.2)) H := xP
            have xD : va_D A (wU G r (clr 45 36 (upd (upd v 2 (nI (scM T y))) 3 (nI (scC T y))), chgQ s P p, U, chgN p, X, y, q0, q1, q2, q3, u_23.1, u_23.2.1, u_23.2.2.1, scC T y, scM T y, u_23.2.2.2.2.2)) := xD
            subst hv
            have xP : va_P G.1 vwCl (wU G r (clr 45 36 (upd (upd (if s 2 = nI (scM T y) then s else clr 9 36 s) 2 (nI (scM T y))) 3 (nI (scC T y))), chgQ s P p, U, chgN p, X, y, q0, q1, q2, q3, u_23.1, u_23.2.1, u_23.2.2.1, scC T y, scM T y, u_23.2.2.2.2.2)) H := xP
            have xD : va_D A (wU G r (clr 45 36 (upd (upd (if s 2 = nI (scM T y) then s else clr 9 36 s) 2 (nI (scM T y))) 3 (nI (scC T y))), chgQ s P p, U, chgN p, X, y, q0, q1, q2, q3, u_23.1, u_23.2.1, u_23.2.2.1, scC T y, scM T y, u_23.2.2.2.2.2)) := xD
            refine lv_iconst (v := nI 0) xE xB dX7_read_124 (by decide) ?_
            refine lv_istore_n (lv' := [(3, .int (nI 0)), (0, .ref r.1), (1, .int (nI 1)), (2, .int (nI (scM T y)))]) xE xB dX7_read_125 rfl xL (by decide) rfl (fun ls xL => ?_)
            have L_126 : ∀ (n_126 : Nat) (i : Nat) (z : wF), (i ≤ scM T y) → (∀ q, (q < 45 ∨ 45 + 36 ≤ q) → z q = (upd (upd (if s 2 = nI (scM T y) then s else clr 9 36 s) 2 (nI (scM T y))) 3 (nI (scC T y))) q) → (∀ a d, a < 6 → d < 6 → (a < i ∧ d < scC T y) ∨ (a = i ∧ d < 0) → z (45 + (6 * a + d)) = (scF T y) (6 * a + d)) → (∀ a d, a < 6 → d < 6 → ¬ (a < scM T y ∧ d < scC T y) → z (45 + (6 * a + d)) = nI 0) → scM T y - i < n_126 → ∀ (H : Heap) (locs : List Loc), va_P G.1 vwCl (wU G r (z, chgQ s P p, U, chgN p, X, y, q0, q1, q2, q3, u_23.1, u_23.2.1, u_23.2.2.1, scC T y, scM T y, u_23.2.2.2.2.2)) H → va_D A (wU G r (z, chgQ s P p, U, chgN p, X, y, q0, q1, q2, q3, u_23.1, u_23.2.1, u_23.2.2.1, scC T y, scM T y, u_23.2.2.2.2.2)) → va_S A s9.heap H locs → ∀ (ls : Array Slot), lv_has ls 5 [(0, .ref r.1), (1, .int (nI 1)), (3, .int (nI i))] → W p9 l e9 (rm 4 85) s9 m9 ([.ref r.1, .int (nI 1)] : List Value).toArray b9 t9 c9 H locs 0 0 Q (F0 m9 126 ls []) := by
              intro n_126
              induction n_126 with
              | zero => intro i z hi ho hin hou hm_126 H locs xP xD xS ls xL; exact absurd hm_126 (Nat.not_lt_zero _)
              | succ n_126 ih_126 =>
                intro i z hi ho hin hou hm_126 H locs xP xD xS ls xL
                refine lv_iload_n xE xB dX7_read_126 rfl (lv_at xL 2 rfl) ?_
                refine lv_aload_n xE xB dX7_read_127 rfl (lv_at xL 0 rfl) ?_
                refine va_get (D := G.1) (ci := 7) (v := .int (nI (scM T y))) (C := RX7) (T := TX7) (N := 16) xE xB xT khX7_read_X7 xO xK.1 xP 0 rfl rfl 14 (by decide) (xT _ kX7_read_f147) (fun _ h9 => h9) rfl dX7_read_128 ?_
                refine q_icmp_ge (tgt := 190) xE xB dX7_read_131 (by decide) (by omega) (by omega) (fun c_131 => ?_) (fun c_131 => ?_)
                · skip
                  obtain hi9 : i = scM T y := by omega
                  rw [hi9] at hin
                  have hz9 : z = putM 45 (scF T y) (upd (upd (if s 2 = nI (scM T y) then s else clr 9 36 s) 2 (nI (scM T y))) 3 (nI (scC T y))) := rd_end ho hin hou o5
                  rw [hz9] at xP xD
                  have xP : va_P G.1 vwCl (wU G r (putM 45 (scF T y) (upd (upd (if s 2 = nI (scM T y) then s else clr 9 36 s) 2 (nI (scM T y))) 3 (nI (scC T y))), chgQ s P p, U, chgN p, X, y, q0, q1, q2, q3, u_23.1, u_23.2.1, u_23.2.2.1, scC T y, scM T y, u_23.2.2.2.2.2)) H := xP
                  have xD : va_D A (wU G r (putM 45 (scF T y) (upd (upd (if s 2 = nI (scM T y) then s else clr 9 36 s) 2 (nI (scM T y))) 3 (nI (scC T y))), chgQ s P p, U, chgN p, X, y, q0, q1, q2, q3, u_23.1, u_23.2.1, u_23.2.2.1, scC T y, scM T y, u_23.2.2.2.2.2)) := xD
                  refine lv_aload_n xE xB dX7_read_190 rfl (lv_at xL 0 rfl) ?_
                  refine lv_bipush (v := nI 117) xE xB dX7_read_191 (by decide) ?_
                  refine lv_bipush (v := nI 36) xE xB dX7_read_193 (by decide) ?_
                  refine q_VV (As := [.int (nI 117), .int (nI 36)]) (rest := []) ⟨xE, xB, xM, xO, xT⟩ (kX7_clears l G r (putM 45 (scF T y) (upd (upd (if s 2 = nI (scM T y) then s else clr 9 36 s) 2 (nI (scM T y))) 3 (nI (scC T y)))) (chgQ s P p) U (chgN p) X y q0 q1 q2 q3 u_23.1 u_23.2.1 u_23.2.2.1 (scC T y) (scM T y) u_23.2.2.2.2.2 117 36 (by omega)) (cwV 2 xT gX7_read_X7_clears rfl rfl rfl (by decide +kernel) ⟨Nat.le_of_ble_eq_true rfl, Nat.le_of_ble_eq_true rfl⟩) xK xP xD xS [0, 1, 2, 3, 4, 5] rfl (by decide +kernel) (fun _ => rfl) 0 rfl rfl rfl rfl xL.1 rfl (Nat.le_of_ble_eq_true rfl) dX7_read_195 ⟨Nat.le_refl _, Nat.le_refl _⟩ (fun u_195 H locs h_195 xP xD xS => ?_)
                  have xP : va_P G.1 vwCl (wU G r (clr 117 36 (putM 45 (scF T y) (upd (upd (if s 2 = nI (scM T y) then s else clr 9 36 s) 2 (nI (scM T y))) 3 (nI (scC T y)))), chgQ s P p, U, chgN p, X, y, q0, q1, q2, q3, u_23.1, u_23.2.1, u_23.2.2.1, scC T y, scM T y, u_23.2.2.2.2.2)) H := xP
                  have xD : va_D A (wU G r (clr 117 36 (putM 45 (scF T y) (upd (upd (if s 2 = nI (scM T y) then s else clr 9 36 s) 2 (nI (scM T y))) 3 (nI (scC T y)))), chgQ s P p, U, chgN p, X, y, q0, q1, q2, q3, u_23.1, u_23.2.1, u_23.2.2.1, scC T y, scM T y, u_23.2.2.2.2.2)) := xD
                  refine lv_aload_n xE xB dX7_read_198 rfl (lv_at xL 0 rfl) ?_
                  refine va_get (D := G.1) (ci := 7) (v := .int (nI (scM T y))) (C := RX7) (T := TX7) (N := 16) xE xB xT khX7_read_X7 xO xK.1 xP 0 rfl rfl 14 (by decide) (xT _ kX7_read_f147) (fun _ h9 => h9) rfl dX7_read_199 ?_
                  refine lv_aload_n xE xB dX7_read_202 rfl (lv_at xL 0 rfl) ?_
                  refine va_get (D := G.1) (ci := 7) (v := .int (nI (scC T y))) (C := RX7) (T := TX7) (N := 16) xE xB xT khX7_read_X7 xO xK.1 xP 0 rfl rfl 13 (by decide) (xT _ kX7_read_f156) (fun _ h9 => h9) rfl dX7_read_203 ?_
                  refine q_imul xE xB dX7_read_206 ?_
                  exact xQ _ _ _ _ _ (clr 117 36 (putM 45 (scF T y) (upd (upd (if s 2 = nI (scM T y) then s else clr 9 36 s) 2 (nI (scM T y))) 3 (nI (scC T y)))), chgQ s P p, chgN p, u_23.1, u_23.2.1, u_23.2.2.1, scC T y, scM T y, u_23.2.2.2.2.2) (by first | (rw [show opRead b y (nI 0) T s pst p = (nI (scM T y * scC T y), rdL (scM T y) (scC T y) (scF T y) s, chgP s pst p, chgN p) from (if_pos (by omega)).trans ((if_neg (by omega)).trans (by rw [if_pos z9]))]; exact ⟨rfl, rfl, rfl, chgN_4 hp, PQ_chg hp hQ⟩) | (rw [show opRead b y (nI 1) T s pst p = (nI (scM T y * scC T y), rdR (scM T y) (scC T y) (scF T y) s, chgP s pst p, chgN p) from (if_pos (by omega)).trans ((if_neg (by omega)).trans (by rw [if_neg (by omega)]))]; exact ⟨rfl, rfl, rfl, chgN_4 hp, PQ_chg hp hQ⟩)) xP xD xS dX7_read_207
                · skip
                  refine lv_iconst (v := nI 0) xE xB dX7_read_134 (by decide) ?_
                  refine lv_istore (lv' := [(4, .int (nI 0)), (0, .ref r.1), (1, .int (nI 1)), (3, .int (nI i))]) xE xB dX7_read_135 xL (by decide) rfl (fun ls xL => ?_)
                  have L_137 : ∀ (n_137 : Nat) (j : Nat) (yy : wF), (j ≤ scC T y) → (∀ q, (q < 45 ∨ 45 + 36 ≤ q) → yy q = (upd (upd (if s 2 = nI (scM T y) then s else clr 9 36 s) 2 (nI (scM T y))) 3 (nI (scC T y))) q) → (∀ a d, a < 6 → d < 6 → (a < i ∧ d < scC T y) ∨ (a = i ∧ d < j) → yy (45 + (6 * a + d)) = (scF T y) (6 * a + d)) → (∀ a d, a < 6 → d < 6 → ¬ (a < scM T y ∧ d < scC T y) → yy (45 + (6 * a + d)) = nI 0) → scC T y - j < n_137 → ∀ (H : Heap) (locs : List Loc), va_P G.1 vwCl (wU G r (yy, chgQ s P p, U, chgN p, X, y, q0, q1, q2, q3, u_23.1, u_23.2.1, u_23.2.2.1, scC T y, scM T y, u_23.2.2.2.2.2)) H → va_D A (wU G r (yy, chgQ s P p, U, chgN p, X, y, q0, q1, q2, q3, u_23.1, u_23.2.1, u_23.2.2.1, scC T y, scM T y, u_23.2.2.2.2.2)) → va_S A s9.heap H locs → ∀ (ls : Array Slot), lv_has ls 5 [(0, .ref r.1), (1, .int (nI 1)), (3, .int (nI i)), (4, .int (nI j))] → W p9 l e9 (rm 4 85) s9 m9 ([.ref r.1, .int (nI 1)] : List Value).toArray b9 t9 c9 H locs 0 0 Q (F0 m9 137 ls []) := by
                    intro n_137
                    induction n_137 with
                    | zero => intro j yy hj ho2 hin2 hou2 hm_137 H locs xP xD xS ls xL; exact absurd hm_137 (Nat.not_lt_zero _)
                    | succ n_137 ih_137 =>
                      intro j yy hj ho2 hin2 hou2 hm_137 H locs xP xD xS ls xL
                      refine lv_iload xE xB dX7_read_137 (lv_at xL 3 rfl) ?_
                      refine lv_aload_n xE xB dX7_read_139 rfl (lv_at xL 0 rfl) ?_
                      refine va_get (D := G.1) (ci := 7) (v := .int (nI (scC T y))) (C := RX7) (T := TX7) (N := 16) xE xB xT khX7_read_X7 xO xK.1 xP 0 rfl rfl 13 (by decide) (xT _ kX7_read_f156) (fun _ h9 => h9) rfl dX7_read_140 ?_
                      refine q_icmp_ge (tgt := 184) xE xB dX7_read_143 (by decide) (by omega) (by omega) (fun c_143 => ?_) (fun c_143 => ?_)
                      · skip
                        refine lv_iinc (v := nI (i + 1)) (lv' := [(3, .int (nI (i + 1))), (0, .ref r.1), (1, .int (nI 1)), (4, .int (nI j))]) xE xB dX7_read_184 xL (k := 2) rfl (q_inc _ _) (by decide) rfl (fun ls xL => ?_)
                        refine lv_goto (tgt := 126) xE xB dX7_read_187 (by decide) ?_
                        exact ih_126 (i + 1) yy (by omega) (by exact ho2) (by exact fun a d h6 h7 h9 => hin2 a d h6 h7 (by omega)) (by exact hou2) (by omega) _ _ xP xD xS _ (lv_sub xL [1, 2, 0] rfl)
                      · skip
                        refine lv_aload_n xE xB dX7_read_146 rfl (lv_at xL 0 rfl) ?_
                        refine va_get (D := G.1) (ci := 7) (v := .ref r.2.1) (C := RX7) (T := TX7) (N := 16) xE xB xT khX7_read_X7 xO xK.1 xP 0 rfl rfl 0 (by decide) (xT _ kX7_read_f7) (fun _ h9 => h9) rfl dX7_read_147 ?_
                        refine lv_bipush (v := nI 9) xE xB dX7_read_150 (by decide) ?_
                        refine lv_bipush (v := nI 36) xE xB dX7_read_152 (by decide) ?_
                        refine lv_iload_n xE xB dX7_read_154 rfl (lv_at xL 1 rfl) ?_
                        refine q_imul xE xB dX7_read_155 ?_
                        refine q_eq (y := nI 36) rfl ?_
                        refine q_iadd xE xB dX7_read_156 ?_
                        refine q_eq (y := nI 45) rfl ?_
                        refine lv_bipush (v := nI 6) xE xB dX7_read_157 (by decide) ?_
                        refine lv_iload_n xE xB dX7_read_159 rfl (lv_at xL 2 rfl) ?_
                        refine q_imul xE xB dX7_read_160 ?_
                        refine q_iadd xE xB dX7_read_161 ?_
                        refine lv_iload xE xB dX7_read_162 (lv_at xL 3 rfl) ?_
                        refine q_iadd xE xB dX7_read_164 ?_
                        refine q_eq (y := nI (45 + (6 * i + j))) (congrArg nI (Nat.add_assoc _ _ _)) ?_
                        refine lv_aload_n xE xB dX7_read_165 rfl (lv_at xL 0 rfl) ?_
                        refine va_get (D := G.1) (ci := 7) (v := .ref r.2.2.2.2.2) (C := RX7) (T := TX7) (N := 16) xE xB xT khX7_read_X7 xO xK.1 xP 0 rfl rfl 12 (by decide) (xT _ kX7_read_f22) (fun _ h9 => h9) rfl dX7_read_166 ?_
                        refine lv_bipush (v := nI 6) xE xB dX7_read_169 (by decide) ?_
                        refine lv_iload_n xE xB dX7_read_171 rfl (lv_at xL 2 rfl) ?_
                        refine q_imul xE xB dX7_read_172 ?_
                        refine lv_iload xE xB dX7_read_173 (lv_at xL 3 rfl) ?_
                        refine q_iadd xE xB dX7_read_175 ?_
                        refine q_ald xE xB xK xP 5 rfl (by omega) (by decide) dX7_read_176 ?_
                        refine q_ast xE xB xK xP xD xS 1 rfl (by omega) (by decide) dX7_read_177 (fun H locs xP xD xS => ?_)
                        have xP : va_P G.1 vwCl (wU G r (upd yy (45 + (6 * i + j)) (u_23.2.2.1 ((6 * i) + j)), chgQ s P p, U, chgN p, X, y, q0, q1, q2, q3, u_23.1, u_23.2.1, u_23.2.2.1, scC T y, scM T y, u_23.2.2.2.2.2)) H := xP
                        have xD : va_D A (wU G r (upd yy (45 + (6 * i + j)) (u_23.2.2.1 ((6 * i) + j)), chgQ s P p, U, chgN p, X, y, q0, q1, q2, q3, u_23.1, u_23.2.1, u_23.2.2.1, scC T y, scM T y, u_23.2.2.2.2.2)) := xD
                        refine lv_iinc (v := nI (j + 1)) (lv' := [(4, .int (nI (j + 1))), (0, .ref r.1), (1, .int (nI 1)), (3, .int (nI i))]) xE xB dX7_read_178 xL (k := 3) rfl (q_inc _ _) (by decide) rfl (fun ls xL => ?_)
                        refine lv_goto (tgt := 137) xE xB dX7_read_181 (by decide) ?_
                        exact ih_137 (j + 1) (upd yy (45 + (6 * i + j)) (u_23.2.2.1 (6 * i + j))) (by omega) (by exact rd_o ho2 (by omega)) (by exact rd_in hin2 (n4 i j (by omega) (by omega))) (by exact rd_out hou2 (by omega) (by omega) (by omega)) (by omega) _ _ xP xD xS _ (lv_sub xL [1, 2, 3, 0] rfl)
                  exact L_137 (scC T y - 0 + 1) 0 z (by omega) (by exact ho) (by exact hin) (by exact hou) (Nat.lt_succ_self _) _ _ xP xD xS _ (lv_sub xL [1, 2, 3, 0] rfl)
            exact L_126 (scM T y - 0 + 1) 0 (clr 45 36 (upd (upd (if s 2 = nI (scM T y) then s else clr 9 36 s) 2 (nI (scM T y))) 3 (nI (scC T y)))) (by omega) (by exact fun q hq => clr_out hq) (by intro a d h6 h7 h9; omega) (by exact fun a d h6 h7 _ => clr_in (by omega) (by omega)) (Nat.lt_succ_self _) _ _ xP xD xS _ (lv_sub xL [1, 2, 0] rfl)
          refine lv_iload_n xE xB dX7_read_52 rfl (lv_at xL 0 rfl) ?_
          refine lv_aload_n xE xB dX7_read_53 rfl (lv_at xL 1 rfl) ?_
          refine va_get (D := G.1) (ci := 7) (v := .ref r.2.1) (C := RX7) (T := TX7) (N := 16) xE xB xT khX7_read_X7 xO xK.1 xP 0 rfl rfl 0 (by decide) (xT _ kX7_read_f7) (fun _ h9 => h9) rfl dX7_read_54 ?_
          refine lv_iconst (v := nI 2) xE xB dX7_read_57 (by decide) ?_
          refine q_ald xE xB xK xP 1 rfl (by omega) (by decide) dX7_read_58 ?_
          refine q_eq (y := nI lc) (congrArg (fun z => z) (g2)) ?_
          refine q_icmp_eq (tgt := 75) xE xB dX7_read_59 (by decide) (by omega) (by omega) (fun c_59 => ?_) (fun c_59 => ?_)
          · skip
            exact J_75 s (by first | exact (if_pos (by rw [g2, ← c_59])).symm | exact (if_neg (by rw [g2]; exact fun q => c_59 (nI_inj (by omega) (by omega) q).symm)).symm) _ _ xP xD xS _ (lv_sub xL [1, 2, 0] rfl)
          · skip
            refine lv_aload_n xE xB dX7_read_62 rfl (lv_at xL 1 rfl) ?_
            refine lv_bipush (v := nI 45) xE xB dX7_read_63 (by decide) ?_
            refine lv_bipush (v := nI 36) xE xB dX7_read_65 (by decide) ?_
            refine lv_iload_n xE xB dX7_read_67 rfl (lv_at xL 2 rfl) ?_
            refine q_imul xE xB dX7_read_68 ?_
            refine q_eq (y := nI 36) rfl ?_
            refine q_isub xE xB dX7_read_69 (by omega) ?_
            refine q_eq (y := nI 9) rfl ?_
            refine lv_bipush (v := nI 36) xE xB dX7_read_70 (by decide) ?_
            refine q_VV (As := [.int (nI 9), .int (nI 36)]) (rest := []) ⟨xE, xB, xM, xO, xT⟩ (kX7_clears l G r s (chgQ s P p) U (chgN p) X y q0 q1 q2 q3 u_23.1 u_23.2.1 u_23.2.2.1 (scC T y) (scM T y) u_23.2.2.2.2.2 9 36 (by omega)) (cwV 2 xT gX7_read_X7_clears rfl rfl rfl (by decide +kernel) ⟨Nat.le_of_ble_eq_true rfl, Nat.le_of_ble_eq_true rfl⟩) xK xP xD xS [0, 1, 2, 3, 4, 5] rfl (by decide +kernel) (fun _ => rfl) 0 rfl rfl rfl rfl xL.1 rfl (Nat.le_of_ble_eq_true rfl) dX7_read_72 ⟨Nat.le_refl _, Nat.le_refl _⟩ (fun u_72 H locs h_72 xP xD xS => ?_)
            have xP : va_P G.1 vwCl (wU G r (clr 9 36 s, chgQ s P p, U, chgN p, X, y, q0, q1, q2, q3, u_23.1, u_23.2.1, u_23.2.2.1, scC T y, scM T y, u_23.2.2.2.2.2)) H := xP
            have xD : va_D A (wU G r (clr 9 36 s, chgQ s P p, U, chgN p, X, y, q0, q1, q2, q3, u_23.1, u_23.2.1, u_23.2.2.1, scC T y, scM T y, u_23.2.2.2.2.2)) := xD
            exact J_75 (clr 9 36 s) (by first | exact (if_pos (by rw [g2, ← c_59])).symm | exact (if_neg (by rw [g2]; exact fun q => c_59 (nI_inj (by omega) (by omega) q).symm)).symm) _ _ xP xD xS _ (lv_sub xL [1, 2, 0] rfl)
        · skip
          subst h_23
          have c_23 : scR T y ≠ 0 ∧ u_23.1 = scP T y ∧ u_23.2.1 = scR T y := c_23
          refine lv_if_ne (tgt := 32) xE xB dX7_read_26 (by decide) (fun h9 => absurd (by decide) h9) (fun _ => ?_)
          refine lv_ldc (v := (-1000002)) xE xB xO (xT _ kX7_read_c58) dX7_read_29 ?_
          exact xQ _ _ _ _ _ (s, P, p, u_23.1, u_23.2.1, u_23.2.2.1, u_23.2.2.2.1, u_23.2.2.2.2.1, u_23.2.2.2.2.2) (by first | (rw [show opRead b y (nI 0) T s pst p = (kNP, s, pst, p) from (if_pos (by omega)).trans (if_pos (Or.inl (by omega)))]; exact ⟨rfl, rfl, rfl, hp, hQ⟩) | (rw [show opRead b y (nI 0) T s pst p = (kNP, s, pst, p) from (if_pos (by omega)).trans (if_pos (Or.inr c_23.1))]; exact ⟨rfl, rfl, rfl, hp, hQ⟩) | (rw [show opRead b y (nI 1) T s pst p = (kNP, s, pst, p) from (if_pos (by omega)).trans (if_pos (Or.inl (by omega)))]; exact ⟨rfl, rfl, rfl, hp, hQ⟩) | (rw [show opRead b y (nI 1) T s pst p = (kNP, s, pst, p) from (if_pos (by omega)).trans (if_pos (Or.inr c_23.1))]; exact ⟨rfl, rfl, rfl, hp, hQ⟩)) xP xD xS dX7_read_31
  · skip
    subst h_3
    have c_3 : ¬ (((nI 0) : Int32).toInt ≤ v1.toInt ∧ v1.toInt ≤ ((nI 1) : Int32).toInt) := c_3
    refine lv_if_ne (tgt := 12) xE xB dX7_read_6 (by decide) (fun h9 => absurd (by decide) h9) (fun _ => ?_)
    refine lv_ldc (v := (-1000001)) xE xB xO (xT _ kX7_read_c37) dX7_read_9 ?_
    exact xQ _ _ _ _ _ (s, P, p, sp, re, B, wd, hg, ow) (by (try (first | replace c_3 := (in_R (by omega) (by omega)).mp c_3 | replace c_3 := mt (in_R (by omega) (by omega)).mpr c_3)); rw [show opRead b y v1 T s pst p = (kINV, s, pst, p) from if_neg (by omega)]; exact ⟨rfl, rfl, rfl, hp, hQ⟩) xP xD xS dX7_read_11
