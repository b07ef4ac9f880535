/-! ref2: what the reference reads of its places -/
def RelD (n o lr lc rc : Nat) (s : wF) : Prop := s 0 = nI n ∧ s 1 = nI lr ∧ s 2 = nI lc ∧ s 3 = nI rc ∧ s 4 = nI o ∧ (1 ≤ n ∧ n ≤ 4 ∧ o ≤ n) ∧ 1 ≤ lr ∧ lr ≤ 6 ∧ 1 ≤ lc ∧ lc ≤ 6 ∧ 1 ≤ rc ∧ rc ≤ 6
def RelE (n lr rc ta tb : Nat) (s : wF) : Prop := s 6 = nI ta ∧ s 7 = nI tb ∧ n * ta < lr ∧ n * tb < rc
theorem RelS.D {n o lr lc rr rc sr sc : Nat} {kf L R Z s : wF} {t : TD} (h : RelS ((n, o, kf), (lr, lc, L), (rr, rc, R), (sr, sc, Z), t) s) : RelD n o lr lc rc s := by
  obtain ⟨b, ta, tb, th, tw, tt, tn, sm0, mt, rw_, dn⟩ := t
  obtain ⟨⟨q1, q2, q3, -⟩, -, ⟨m1, m2, m3, m4, -⟩, -⟩ := h
  exact ⟨q1, m1, m2, m3, q2, q3, m4⟩

theorem kX7_tiles_f7 : Cond.fieldLink RX7 7 "SkewedSquareModel" "s" "[I" ∈ wsX7_tiles := by decide +kernel
theorem khX7_tiles_X7 : ∀ w ∈ u_ws RX7 TX7 16, w ∈ wsX7_tiles := by decide +kernel
set_option maxHeartbeats 4000000 in
set_option maxRecDepth 100000 in
/-- kX7_tiles -/
theorem kX7_tiles (l : Launch) (G : wG) (r : RA) (s P U : wF) (p : Nat) (X : wF) (y q0 : Nat) (q1 : Int32) (q2 : Nat) (q3 : Int32) (sp re : Nat) (B : wF) (wd hg ow : Nat) (n o lr lc rc : Nat) (hD : RelD n o lr lc rc s) : CR l yX7_tiles wsX7_tiles (rm 1 21) G [.ref r.1] (wU G r (s, P, U, p, X, y, q0, q1, q2, q3, sp, re, B, wd, hg, ow)) (fun x => x = nI (tls lr n * tls rc n)) := by
  refine CR.of (own := RX7) rfl (by decide) rfl (Nat.le_of_ble_eq_true rfl) ?_
  intro p9 e9 s9 m9 b9 t9 c9 xE xB xM xO xT xK xP Q xQ ls hl
  have xL : lv_has ls 1 [(0, .ref r.1)] := hl
  obtain ⟨g0, g1, g2, g3, g4, ⟨hn1, hn2, hn3⟩, hm1, hm2, hm3, hm4, hm5, hm6⟩ := id hD
  refine lv_aload_n xE xB dX7_tiles_0 rfl (lv_at xL 0 rfl) ?_
  refine lv_aload_n xE xB dX7_tiles_1 rfl (lv_at xL 0 rfl) ?_
  refine va_get (D := G.1) (ci := 7) (v := .ref r.2.1) (C := RX7) (T := TX7) (N := 16) xE xB xT khX7_tiles_X7 xO xK.1 xP 0 rfl rfl 0 (by decide) (xT _ kX7_tiles_f7) (fun _ h9 => h9) rfl dX7_tiles_2 ?_
  refine lv_iconst (v := nI 1) xE xB dX7_tiles_5 (by decide) ?_
  refine q_ald xE xB xK xP 1 rfl (by omega) (by decide) dX7_tiles_6 ?_
  refine q_eq (y := nI lr) (congrArg (fun z => z) (g1)) ?_
  refine q_VR (As := [.int (nI lr)]) (rest := []) ⟨xE, xB, xM, xO, xT⟩ (kX7_along l G r s P U p X y q0 q1 q2 q3 sp re B wd hg ow lr n (by exact g0) (by omega) (by omega)) (cwV 1 xT gX7_tiles_X7_along rfl rfl rfl (by decide +kernel) ⟨Nat.le_of_ble_eq_true rfl, Nat.le_of_ble_eq_true rfl⟩) xK xP [0, 1, 2, 3, 4, 5] rfl 0 rfl rfl rfl rfl xL.1 rfl (Nat.le_of_ble_eq_true rfl) dX7_tiles_7 ⟨Nat.le_refl _, Nat.le_refl _⟩ (fun r_7 h_7 => ?_)
  obtain rfl : r_7 = nI (tls lr n) := h_7
  refine lv_aload_n xE xB dX7_tiles_10 rfl (lv_at xL 0 rfl) ?_
  refine lv_aload_n xE xB dX7_tiles_11 rfl (lv_at xL 0 rfl) ?_
  refine va_get (D := G.1) (ci := 7) (v := .ref r.2.1) (C := RX7) (T := TX7) (N := 16) xE xB xT khX7_tiles_X7 xO xK.1 xP 0 rfl rfl 0 (by decide) (xT _ kX7_tiles_f7) (fun _ h9 => h9) rfl dX7_tiles_12 ?_
  refine lv_iconst (v := nI 3) xE xB dX7_tiles_15 (by decide) ?_
  refine q_ald xE xB xK xP 1 rfl (by omega) (by decide) dX7_tiles_16 ?_
  refine q_eq (y := nI rc) (congrArg (fun z => z) (g3)) ?_
  refine q_VR (As := [.int (nI rc)]) (rest := [.int (nI (tls lr n))]) ⟨xE, xB, xM, xO, xT⟩ (kX7_along l G r s P U p X y q0 q1 q2 q3 sp re B wd hg ow rc n (by exact g0) (by omega) (by omega)) (cwV 1 xT gX7_tiles_X7_along rfl rfl rfl (by decide +kernel) ⟨Nat.le_of_ble_eq_true rfl, Nat.le_of_ble_eq_true rfl⟩) xK xP [0, 1, 2, 3, 4, 5] rfl 0 rfl rfl rfl rfl xL.1 rfl (Nat.le_of_ble_eq_true rfl) dX7_tiles_17 ⟨Nat.le_refl _, Nat.le_refl _⟩ (fun r_17 h_17 => ?_)
  obtain rfl : r_17 = nI (tls rc n) := h_17
  refine q_imul xE xB dX7_tiles_20 ?_
  exact xQ _ _ _ (congrArg nI (by first | rfl | omega)) dX7_tiles_21
theorem kX7_tileRows_f7 : Cond.fieldLink RX7 7 "SkewedSquareModel" "s" "[I" ∈ wsX7_tileRows := by decide +kernel
theorem khX7_tileRows_X7 : ∀ w ∈ u_ws RX7 TX7 16, w ∈ wsX7_tileRows := by decide +kernel
set_option maxHeartbeats 4000000 in
set_option maxRecDepth 100000 in
/-- kX7_tileRows -/
theorem kX7_tileRows (l : Launch) (G : wG) (r : RA) (s P U : wF) (p : Nat) (X : wF) (y q0 : Nat) (q1 : Int32) (q2 : Nat) (q3 : Int32) (sp re : Nat) (B : wF) (wd hg ow : Nat) (n o lr lc rc : Nat) (ta tb : Nat) (hD : RelD n o lr lc rc s) (hE : RelE n lr rc ta tb s) : CR l yX7_tileRows wsX7_tileRows (rm 0 0) G [.ref r.1] (wU G r (s, P, U, p, X, y, q0, q1, q2, q3, sp, re, B, wd, hg, ow)) (fun x => x = nI (min n (lr - n * ta))) := by
  refine CR.of (own := RX7) rfl (by decide) rfl (Nat.le_of_ble_eq_true rfl) ?_
  intro p9 e9 s9 m9 b9 t9 c9 xE xB xM xO xT xK xP Q xQ ls hl
  have xL : lv_has ls 2 [(0, .ref r.1)] := hl
  obtain ⟨g0, g1, g2, g3, g4, ⟨hn1, hn2, hn3⟩, hm1, hm2, hm3, hm4, hm5, hm6⟩ := id hD
  obtain ⟨g6, g7, ht1, ht2⟩ := id hE
  refine lv_aload_n xE xB dX7_tileRows_0 rfl (lv_at xL 0 rfl) ?_
  refine va_get (D := G.1) (ci := 7) (v := .ref r.2.1) (C := RX7) (T := TX7) (N := 16) xE xB xT khX7_tileRows_X7 xO xK.1 xP 0 rfl rfl 0 (by decide) (xT _ kX7_tileRows_f7) (fun _ h9 => h9) rfl dX7_tileRows_1 ?_
  refine lv_iconst (v := nI 1) xE xB dX7_tileRows_4 (by decide) ?_
  refine q_ald xE xB xK xP 1 rfl (by omega) (by decide) dX7_tileRows_5 ?_
  refine q_eq (y := nI lr) (congrArg (fun z => z) (g1)) ?_
  refine lv_aload_n xE xB dX7_tileRows_6 rfl (lv_at xL 0 rfl) ?_
  refine va_get (D := G.1) (ci := 7) (v := .ref r.2.1) (C := RX7) (T := TX7) (N := 16) xE xB xT khX7_tileRows_X7 xO xK.1 xP 0 rfl rfl 0 (by decide) (xT _ kX7_tileRows_f7) (fun _ h9 => h9) rfl dX7_tileRows_7 ?_
  refine lv_iconst (v := nI 0) xE xB dX7_tileRows_10 (by decide) ?_
  refine q_ald xE xB xK xP 1 rfl (by omega) (by decide) dX7_tileRows_11 ?_
  refine q_eq (y := nI n) (congrArg (fun z => z) (g0)) ?_
  refine lv_aload_n xE xB dX7_tileRows_12 rfl (lv_at xL 0 rfl) ?_
  refine va_get (D := G.1) (ci := 7) (v := .ref r.2.1) (C := RX7) (T := TX7) (N := 16) xE xB xT khX7_tileRows_X7 xO xK.1 xP 0 rfl rfl 0 (by decide) (xT _ kX7_tileRows_f7) (fun _ h9 => h9) rfl dX7_tileRows_13 ?_
  refine lv_bipush (v := nI 6) xE xB dX7_tileRows_16 (by decide) ?_
  refine q_ald xE xB xK xP 1 rfl (by omega) (by decide) dX7_tileRows_18 ?_
  refine q_eq (y := nI ta) (congrArg (fun z => z) (g6)) ?_
  refine q_imul xE xB dX7_tileRows_19 ?_
  refine q_isub xE xB dX7_tileRows_20 (by omega) ?_
  refine lv_istore_n (lv' := [(1, .int (nI (lr - (n * ta)))), (0, .ref r.1)]) xE xB dX7_tileRows_21 rfl xL (by decide) rfl (fun ls xL => ?_)
  refine lv_iload_n xE xB dX7_tileRows_22 rfl (lv_at xL 0 rfl) ?_
  refine lv_aload_n xE xB dX7_tileRows_23 rfl (lv_at xL 1 rfl) ?_
  refine va_get (D := G.1) (ci := 7) (v := .ref r.2.1) (C := RX7) (T := TX7) (N := 16) xE xB xT khX7_tileRows_X7 xO xK.1 xP 0 rfl rfl 0 (by decide) (xT _ kX7_tileRows_f7) (fun _ h9 => h9) rfl dX7_tileRows_24 ?_
  refine lv_iconst (v := nI 0) xE xB dX7_tileRows_27 (by decide) ?_
  refine q_ald xE xB xK xP 1 rfl (by omega) (by decide) dX7_tileRows_28 ?_
  refine q_eq (y := nI n) (congrArg (fun z => z) (g0)) ?_
  refine q_icmp_ge (tgt := 36) xE xB dX7_tileRows_29 (by decide) (by omega) (by omega) (fun c_29 => ?_) (fun c_29 => ?_)
  · skip
    refine lv_aload_n xE xB dX7_tileRows_36 rfl (lv_at xL 1 rfl) ?_
    refine va_get (D := G.1) (ci := 7) (v := .ref r.2.1) (C := RX7) (T := TX7) (N := 16) xE xB xT khX7_tileRows_X7 xO xK.1 xP 0 rfl rfl 0 (by decide) (xT _ kX7_tileRows_f7) (fun _ h9 => h9) rfl dX7_tileRows_37 ?_
    refine lv_iconst (v := nI 0) xE xB dX7_tileRows_40 (by decide) ?_
    refine q_ald xE xB xK xP 1 rfl (by omega) (by decide) dX7_tileRows_41 ?_
    refine q_eq (y := nI n) (congrArg (fun z => z) (g0)) ?_
    exact xQ _ _ _ (congrArg nI (by first | rfl | omega)) dX7_tileRows_42
  · skip
    refine lv_iload_n xE xB dX7_tileRows_32 rfl (lv_at xL 0 rfl) ?_
    refine lv_goto (tgt := 42) xE xB dX7_tileRows_33 (by decide) ?_
    exact xQ _ _ _ (congrArg nI (by first | rfl | omega)) dX7_tileRows_42
theorem kX7_tileColumns_f7 : Cond.fieldLink RX7 7 "SkewedSquareModel" "s" "[I" ∈ wsX7_tileColumns := by decide +kernel
theorem khX7_tileColumns_X7 : ∀ w ∈ u_ws RX7 TX7 16, w ∈ wsX7_tileColumns := by decide +kernel
set_option maxHeartbeats 4000000 in
set_option maxRecDepth 100000 in
/-- kX7_tileColumns -/
theorem kX7_tileColumns (l : Launch) (G : wG) (r : RA) (s P U : wF) (p : Nat) (X : wF) (y q0 : Nat) (q1 : Int32) (q2 : Nat) (q3 : Int32) (sp re : Nat) (B : wF) (wd hg ow : Nat) (n o lr lc rc : Nat) (ta tb : Nat) (hD : RelD n o lr lc rc s) (hE : RelE n lr rc ta tb s) : CR l yX7_tileColumns wsX7_tileColumns (rm 0 0) G [.ref r.1] (wU G r (s, P, U, p, X, y, q0, q1, q2, q3, sp, re, B, wd, hg, ow)) (fun x => x = nI (min n (rc - n * tb))) := by
  refine CR.of (own := RX7) rfl (by decide) rfl (Nat.le_of_ble_eq_true rfl) ?_
  intro p9 e9 s9 m9 b9 t9 c9 xE xB xM xO xT xK xP Q xQ ls hl
  have xL : lv_has ls 2 [(0, .ref r.1)] := hl
  obtain ⟨g0, g1, g2, g3, g4, ⟨hn1, hn2, hn3⟩, hm1, hm2, hm3, hm4, hm5, hm6⟩ := id hD
  obtain ⟨g6, g7, ht1, ht2⟩ := id hE
  refine lv_aload_n xE xB dX7_tileColumns_0 rfl (lv_at xL 0 rfl) ?_
  refine va_get (D := G.1) (ci := 7) (v := .ref r.2.1) (C := RX7) (T := TX7) (N := 16) xE xB xT khX7_tileColumns_X7 xO xK.1 xP 0 rfl rfl 0 (by decide) (xT _ kX7_tileColumns_f7) (fun _ h9 => h9) rfl dX7_tileColumns_1 ?_
  refine lv_iconst (v := nI 3) xE xB dX7_tileColumns_4 (by decide) ?_
  refine q_ald xE xB xK xP 1 rfl (by omega) (by decide) dX7_tileColumns_5 ?_
  refine q_eq (y := nI rc) (congrArg (fun z => z) (g3)) ?_
  refine lv_aload_n xE xB dX7_tileColumns_6 rfl (lv_at xL 0 rfl) ?_
  refine va_get (D := G.1) (ci := 7) (v := .ref r.2.1) (C := RX7) (T := TX7) (N := 16) xE xB xT khX7_tileColumns_X7 xO xK.1 xP 0 rfl rfl 0 (by decide) (xT _ kX7_tileColumns_f7) (fun _ h9 => h9) rfl dX7_tileColumns_7 ?_
  refine lv_iconst (v := nI 0) xE xB dX7_tileColumns_10 (by decide) ?_
  refine q_ald xE xB xK xP 1 rfl (by omega) (by decide) dX7_tileColumns_11 ?_
  refine q_eq (y := nI n) (congrArg (fun z => z) (g0)) ?_
  refine lv_aload_n xE xB dX7_tileColumns_12 rfl (lv_at xL 0 rfl) ?_
  refine va_get (D := G.1) (ci := 7) (v := .ref r.2.1) (C := RX7) (T := TX7) (N := 16) xE xB xT khX7_tileColumns_X7 xO xK.1 xP 0 rfl rfl 0 (by decide) (xT _ kX7_tileColumns_f7) (fun _ h9 => h9) rfl dX7_tileColumns_13 ?_
  refine lv_bipush (v := nI 7) xE xB dX7_tileColumns_16 (by decide) ?_
  refine q_ald xE xB xK xP 1 rfl (by omega) (by decide) dX7_tileColumns_18 ?_
  refine q_eq (y := nI tb) (congrArg (fun z => z) (g7)) ?_
  refine q_imul xE xB dX7_tileColumns_19 ?_
  refine q_isub xE xB dX7_tileColumns_20 (by omega) ?_
  refine lv_istore_n (lv' := [(1, .int (nI (rc - (n * tb)))), (0, .ref r.1)]) xE xB dX7_tileColumns_21 rfl xL (by decide) rfl (fun ls xL => ?_)
  refine lv_iload_n xE xB dX7_tileColumns_22 rfl (lv_at xL 0 rfl) ?_
  refine lv_aload_n xE xB dX7_tileColumns_23 rfl (lv_at xL 1 rfl) ?_
  refine va_get (D := G.1) (ci := 7) (v := .ref r.2.1) (C := RX7) (T := TX7) (N := 16) xE xB xT khX7_tileColumns_X7 xO xK.1 xP 0 rfl rfl 0 (by decide) (xT _ kX7_tileColumns_f7) (fun _ h9 => h9) rfl dX7_tileColumns_24 ?_
  refine lv_iconst (v := nI 0) xE xB dX7_tileColumns_27 (by decide) ?_
  refine q_ald xE xB xK xP 1 rfl (by omega) (by decide) dX7_tileColumns_28 ?_
  refine q_eq (y := nI n) (congrArg (fun z => z) (g0)) ?_
  refine q_icmp_ge (tgt := 36) xE xB dX7_tileColumns_29 (by decide) (by omega) (by omega) (fun c_29 => ?_) (fun c_29 => ?_)
  · skip
    refine lv_aload_n xE xB dX7_tileColumns_36 rfl (lv_at xL 1 rfl) ?_
    refine va_get (D := G.1) (ci := 7) (v := .ref r.2.1) (C := RX7) (T := TX7) (N := 16) xE xB xT khX7_tileColumns_X7 xO xK.1 xP 0 rfl rfl 0 (by decide) (xT _ kX7_tileColumns_f7) (fun _ h9 => h9) rfl dX7_tileColumns_37 ?_
    refine lv_iconst (v := nI 0) xE xB dX7_tileColumns_40 (by decide) ?_
    refine q_ald xE xB xK xP 1 rfl (by omega) (by decide) dX7_tileColumns_41 ?_
    refine q_eq (y := nI n) (congrArg (fun z => z) (g0)) ?_
    exact xQ _ _ _ (congrArg nI (by first | rfl | omega)) dX7_tileColumns_42
  · skip
    refine lv_iload_n xE xB dX7_tileColumns_32 rfl (lv_at xL 0 rfl) ?_
    refine lv_goto (tgt := 42) xE xB dX7_tileColumns_33 (by decide) ?_
    exact xQ _ _ _ (congrArg nI (by first | rfl | omega)) dX7_tileColumns_42
theorem kX7_ticks_f7 : Cond.fieldLink RX7 7 "SkewedSquareModel" "s" "[I" ∈ wsX7_ticks := by decide +kernel
theorem khX7_ticks_X7 : ∀ w ∈ u_ws RX7 TX7 16, w ∈ wsX7_ticks := by decide +kernel
set_option maxHeartbeats 4000000 in
set_option maxRecDepth 100000 in
/-- kX7_ticks -/
theorem kX7_ticks (l : Launch) (G : wG) (r : RA) (s P U : wF) (p : Nat) (X : wF) (y q0 : Nat) (q1 : Int32) (q2 : Nat) (q3 : Int32) (sp re : Nat) (B : wF) (wd hg ow : Nat) (n o lr lc rc : Nat) (ta tb : Nat) (hD : RelD n o lr lc rc s) (hE : RelE n lr rc ta tb s) : CR l yX7_ticks wsX7_ticks (rm 1 21) G [.ref r.1] (wU G r (s, P, U, p, X, y, q0, q1, q2, q3, sp, re, B, wd, hg, ow)) (fun x => x = nI (need lc n lr rc ta tb)) := by
  refine CR.of (own := RX7) rfl (by decide) rfl (Nat.le_of_ble_eq_true rfl) ?_
  intro p9 e9 s9 m9 b9 t9 c9 xE xB xM xO xT xK xP Q xQ ls hl
  have xL : lv_has ls 1 [(0, .ref r.1)] := hl
  obtain ⟨g0, g1, g2, g3, g4, ⟨hn1, hn2, hn3⟩, hm1, hm2, hm3, hm4, hm5, hm6⟩ := id hD
  obtain ⟨g6, g7, ht1, ht2⟩ := id hE
  refine lv_aload_n xE xB dX7_ticks_0 rfl (lv_at xL 0 rfl) ?_
  refine q_VR (As := []) (rest := []) ⟨xE, xB, xM, xO, xT⟩ (kX7_tileRows l G r s P U p X y q0 q1 q2 q3 sp re B wd hg ow n o lr lc rc ta tb (by exact hD) (by exact hE)) (cwV 0 xT gX7_ticks_X7_tileRows rfl rfl rfl (by decide +kernel) ⟨Nat.le_of_ble_eq_true rfl, Nat.le_of_ble_eq_true rfl⟩) xK xP [0, 1, 2, 3, 4, 5] rfl 0 rfl rfl rfl rfl xL.1 rfl (Nat.le_of_ble_eq_true rfl) dX7_ticks_1 ⟨Nat.le_refl _, Nat.le_refl _⟩ (fun r_1 h_1 => ?_)
  obtain rfl : r_1 = nI (min n (lr - n * ta)) := h_1
  refine lv_aload_n xE xB dX7_ticks_4 rfl (lv_at xL 0 rfl) ?_
  refine q_VR (As := []) (rest := [.int (nI (min n (lr - n * ta)))]) ⟨xE, xB, xM, xO, xT⟩ (kX7_tileColumns l G r s P U p X y q0 q1 q2 q3 sp re B wd hg ow n o lr lc rc ta tb (by exact hD) (by exact hE)) (cwV 0 xT gX7_ticks_X7_tileColumns rfl rfl rfl (by decide +kernel) ⟨Nat.le_of_ble_eq_true rfl, Nat.le_of_ble_eq_true rfl⟩) xK xP [0, 1, 2, 3, 4, 5] rfl 0 rfl rfl rfl rfl xL.1 rfl (Nat.le_of_ble_eq_true rfl) dX7_ticks_5 ⟨Nat.le_refl _, Nat.le_refl _⟩ (fun r_5 h_5 => ?_)
  obtain rfl : r_5 = nI (min n (rc - n * tb)) := h_5
  refine q_iadd xE xB dX7_ticks_8 ?_
  refine lv_aload_n xE xB dX7_ticks_9 rfl (lv_at xL 0 rfl) ?_
  refine va_get (D := G.1) (ci := 7) (v := .ref r.2.1) (C := RX7) (T := TX7) (N := 16) xE xB xT khX7_ticks_X7 xO xK.1 xP 0 rfl rfl 0 (by decide) (xT _ kX7_ticks_f7) (fun _ h9 => h9) rfl dX7_ticks_10 ?_
  refine lv_iconst (v := nI 2) xE xB dX7_ticks_13 (by decide) ?_
  refine q_ald xE xB xK xP 1 rfl (by omega) (by decide) dX7_ticks_14 ?_
  refine q_eq (y := nI lc) (congrArg (fun z => z) (g2)) ?_
  refine q_iadd xE xB dX7_ticks_15 ?_
  refine lv_iconst (v := nI 2) xE xB dX7_ticks_16 (by decide) ?_
  refine q_isub xE xB dX7_ticks_17 (by omega) ?_
  exact xQ _ _ _ (congrArg nI (by first | rfl | omega)) dX7_ticks_18
theorem kX7_isDone_f7 : Cond.fieldLink RX7 7 "SkewedSquareModel" "s" "[I" ∈ wsX7_isDone := by decide +kernel
theorem khX7_isDone_X7 : ∀ w ∈ u_ws RX7 TX7 16, w ∈ wsX7_isDone := by decide +kernel
set_option maxHeartbeats 4000000 in
set_option maxRecDepth 100000 in
/-- kX7_isDone -/
theorem kX7_isDone (l : Launch) (G : wG) (r : RA) (s P U : wF) (p : Nat) (X : wF) (y q0 : Nat) (q1 : Int32) (q2 : Nat) (q3 : Int32) (sp re : Nat) (B : wF) (wd hg ow : Nat) (n o lr lc rc : Nat) (ta tb : Nat) (tt : Nat) (hD : RelD n o lr lc rc s) (hE : RelE n lr rc ta tb s) (g8 : s 8 = nI tt) (h8 : tt ≤ 100) : CR l yX7_isDone wsX7_isDone (rm 2 41) G [.ref r.1] (wU G r (s, P, U, p, X, y, q0, q1, q2, q3, sp, re, B, wd, hg, ow)) (fun x => (x = nI 1 ∧ (tt = need lc n lr rc ta tb)) ∨ (x = nI 0 ∧ ¬ (tt = need lc n lr rc ta tb))) := by
  refine CR.ofZ (own := RX7) rfl (by decide) rfl (Nat.le_of_ble_eq_true rfl) ?_
  intro p9 e9 s9 m9 b9 t9 c9 xE xB xM xO xT xK xP Q xQ ls hl
  have xL : lv_has ls 1 [(0, .ref r.1)] := hl
  obtain ⟨g0, g1, g2, g3, g4, ⟨hn1, hn2, hn3⟩, hm1, hm2, hm3, hm4, hm5, hm6⟩ := id hD
  obtain ⟨g6, g7, ht1, ht2⟩ := id hE
  have hnd : need lc n lr rc ta tb ≤ 20 := by unfold need; omega
  refine lv_aload_n xE xB dX7_isDone_0 rfl (lv_at xL 0 rfl) ?_
  refine va_get (D := G.1) (ci := 7) (v := .ref r.2.1) (C := RX7) (T := TX7) (N := 16) xE xB xT khX7_isDone_X7 xO xK.1 xP 0 rfl rfl 0 (by decide) (xT _ kX7_isDone_f7) (fun _ h9 => h9) rfl dX7_isDone_1 ?_
  refine lv_bipush (v := nI 8) xE xB dX7_isDone_4 (by decide) ?_
  refine q_ald xE xB xK xP 1 rfl (by omega) (by decide) dX7_isDone_6 ?_
  refine q_eq (y := nI tt) (congrArg (fun z => z) (g8)) ?_
  refine lv_aload_n xE xB dX7_isDone_7 rfl (lv_at xL 0 rfl) ?_
  refine q_VR (As := []) (rest := [.int (nI tt)]) ⟨xE, xB, xM, xO, xT⟩ (kX7_ticks l G r s P U p X y q0 q1 q2 q3 sp re B wd hg ow n o lr lc rc ta tb (by exact hD) (by exact hE)) (cwV 0 xT gX7_isDone_X7_ticks rfl rfl rfl (by decide +kernel) ⟨Nat.le_of_ble_eq_true rfl, Nat.le_of_ble_eq_true rfl⟩) xK xP [0, 1, 2, 3, 4, 5] rfl 0 rfl rfl rfl rfl xL.1 rfl (Nat.le_of_ble_eq_true rfl) dX7_isDone_8 ⟨Nat.le_refl _, Nat.le_refl _⟩ (fun r_8 h_8 => ?_)
  obtain rfl : r_8 = nI (need lc n lr rc ta tb) := h_8
  refine q_icmp_ne (tgt := 18) xE xB dX7_isDone_11 (by decide) (by omega) (by omega) (fun c_11 => ?_) (fun c_11 => ?_)
  · skip
    refine lv_iconst (v := nI 0) xE xB dX7_isDone_18 (by decide) ?_
    exact xQ _ _ _ (Or.inr ⟨rfl, by omega⟩) (by decide) dX7_isDone_19
  · skip
    refine lv_iconst (v := nI 1) xE xB dX7_isDone_14 (by decide) ?_
    refine lv_goto (tgt := 19) xE xB dX7_isDone_15 (by decide) ?_
    exact xQ _ _ _ (Or.inl ⟨rfl, by omega⟩) (by decide) dX7_isDone_19
theorem kX7_rowsOf_f7 : Cond.fieldLink RX7 7 "SkewedSquareModel" "s" "[I" ∈ wsX7_rowsOf := by decide +kernel
theorem khX7_rowsOf_X7 : ∀ w ∈ u_ws RX7 TX7 16, w ∈ wsX7_rowsOf := by decide +kernel
set_option maxHeartbeats 4000000 in
set_option maxRecDepth 100000 in
/-- kX7_rowsOf -/
theorem kX7_rowsOf (l : Launch) (G : wG) (r : RA) (s P U : wF) (p : Nat) (X : wF) (y q0 : Nat) (q1 : Int32) (q2 : Nat) (q3 : Int32) (sp re : Nat) (B : wF) (wd hg ow : Nat) (n o lr lc rc : Nat) (k : Nat) (hD : RelD n o lr lc rc s) (hk : k ≤ 1) : CR l yX7_rowsOf wsX7_rowsOf (rm 0 0) G [.ref r.1, .int (nI k)] (wU G r (s, P, U, p, X, y, q0, q1, q2, q3, sp, re, B, wd, hg, ow)) (fun x => x = nI (if k = 0 then lr else lc)) := by
  refine CR.of (own := RX7) rfl (by decide) rfl (Nat.le_of_ble_eq_true rfl) ?_
  intro p9 e9 s9 m9 b9 t9 c9 xE xB xM xO xT xK xP Q xQ ls hl
  have xL : lv_has ls 2 [(0, .ref r.1), (1, .int (nI k))] := hl
  obtain ⟨g0, g1, g2, g3, g4, ⟨hn1, hn2, hn3⟩, hm1, hm2, hm3, hm4, hm5, hm6⟩ := id hD
  refine lv_iload_n xE xB dX7_rowsOf_0 rfl (lv_at xL 1 rfl) ?_
  refine q_if_ne (tgt := 13) xE xB dX7_rowsOf_1 (by decide) (by omega) (fun c_1 => ?_) (fun c_1 => ?_)
  · skip
    refine lv_aload_n xE xB dX7_rowsOf_13 rfl (lv_at xL 0 rfl) ?_
    refine va_get (D := G.1) (ci := 7) (v := .ref r.2.1) (C := RX7) (T := TX7) (N := 16) xE xB xT khX7_rowsOf_X7 xO xK.1 xP 0 rfl rfl 0 (by decide) (xT _ kX7_rowsOf_f7) (fun _ h9 => h9) rfl dX7_rowsOf_14 ?_
    refine lv_iconst (v := nI 2) xE xB dX7_rowsOf_17 (by decide) ?_
    refine q_ald xE xB xK xP 1 rfl (by omega) (by decide) dX7_rowsOf_18 ?_
    refine q_eq (y := nI lc) (congrArg (fun z => z) (g2)) ?_
    exact xQ _ _ _ (by first | exact congrArg nI (if_pos (by omega)).symm | exact congrArg nI (if_neg (by omega)).symm) dX7_rowsOf_19
  · skip
    refine lv_aload_n xE xB dX7_rowsOf_4 rfl (lv_at xL 0 rfl) ?_
    refine va_get (D := G.1) (ci := 7) (v := .ref r.2.1) (C := RX7) (T := TX7) (N := 16) xE xB xT khX7_rowsOf_X7 xO xK.1 xP 0 rfl rfl 0 (by decide) (xT _ kX7_rowsOf_f7) (fun _ h9 => h9) rfl dX7_rowsOf_5 ?_
    refine lv_iconst (v := nI 1) xE xB dX7_rowsOf_8 (by decide) ?_
    refine q_ald xE xB xK xP 1 rfl (by omega) (by decide) dX7_rowsOf_9 ?_
    refine q_eq (y := nI lr) (congrArg (fun z => z) (g1)) ?_
    refine lv_goto (tgt := 19) xE xB dX7_rowsOf_10 (by decide) ?_
    exact xQ _ _ _ (by first | exact congrArg nI (if_pos (by omega)).symm | exact congrArg nI (if_neg (by omega)).symm) dX7_rowsOf_19
theorem kX7_columnsOf_f7 : Cond.fieldLink RX7 7 "SkewedSquareModel" "s" "[I" ∈ wsX7_columnsOf := by decide +kernel
theorem khX7_columnsOf_X7 : ∀ w ∈ u_ws RX7 TX7 16, w ∈ wsX7_columnsOf := by decide +kernel
set_option maxHeartbeats 4000000 in
set_option maxRecDepth 100000 in
/-- kX7_columnsOf -/
theorem kX7_columnsOf (l : Launch) (G : wG) (r : RA) (s P U : wF) (p : Nat) (X : wF) (y q0 : Nat) (q1 : Int32) (q2 : Nat) (q3 : Int32) (sp re : Nat) (B : wF) (wd hg ow : Nat) (n o lr lc rc : Nat) (k : Nat) (hD : RelD n o lr lc rc s) (hk : k ≤ 1) : CR l yX7_columnsOf wsX7_columnsOf (rm 0 0) G [.ref r.1, .int (nI k)] (wU G r (s, P, U, p, X, y, q0, q1, q2, q3, sp, re, B, wd, hg, ow)) (fun x => x = nI (if k = 0 then lc else rc)) := by
  refine CR.of (own := RX7) rfl (by decide) rfl (Nat.le_of_ble_eq_true rfl) ?_
  intro p9 e9 s9 m9 b9 t9 c9 xE xB xM xO xT xK xP Q xQ ls hl
  have xL : lv_has ls 2 [(0, .ref r.1), (1, .int (nI k))] := hl
  obtain ⟨g0, g1, g2, g3, g4, ⟨hn1, hn2, hn3⟩, hm1, hm2, hm3, hm4, hm5, hm6⟩ := id hD
  refine lv_iload_n xE xB dX7_columnsOf_0 rfl (lv_at xL 1 rfl) ?_
  refine q_if_ne (tgt := 13) xE xB dX7_columnsOf_1 (by decide) (by omega) (fun c_1 => ?_) (fun c_1 => ?_)
  · skip
    refine lv_aload_n xE xB dX7_columnsOf_13 rfl (lv_at xL 0 rfl) ?_
    refine va_get (D := G.1) (ci := 7) (v := .ref r.2.1) (C := RX7) (T := TX7) (N := 16) xE xB xT khX7_columnsOf_X7 xO xK.1 xP 0 rfl rfl 0 (by decide) (xT _ kX7_columnsOf_f7) (fun _ h9 => h9) rfl dX7_columnsOf_14 ?_
    refine lv_iconst (v := nI 3) xE xB dX7_columnsOf_17 (by decide) ?_
    refine q_ald xE xB xK xP 1 rfl (by omega) (by decide) dX7_columnsOf_18 ?_
    refine q_eq (y := nI rc) (congrArg (fun z => z) (g3)) ?_
    exact xQ _ _ _ (by first | exact congrArg nI (if_pos (by omega)).symm | exact congrArg nI (if_neg (by omega)).symm) dX7_columnsOf_19
  · skip
    refine lv_aload_n xE xB dX7_columnsOf_4 rfl (lv_at xL 0 rfl) ?_
    refine va_get (D := G.1) (ci := 7) (v := .ref r.2.1) (C := RX7) (T := TX7) (N := 16) xE xB xT khX7_columnsOf_X7 xO xK.1 xP 0 rfl rfl 0 (by decide) (xT _ kX7_columnsOf_f7) (fun _ h9 => h9) rfl dX7_columnsOf_5 ?_
    refine lv_iconst (v := nI 2) xE xB dX7_columnsOf_8 (by decide) ?_
    refine q_ald xE xB xK xP 1 rfl (by omega) (by decide) dX7_columnsOf_9 ?_
    refine q_eq (y := nI lc) (congrArg (fun z => z) (g2)) ?_
    refine lv_goto (tgt := 19) xE xB dX7_columnsOf_10 (by decide) ?_
    exact xQ _ _ _ (by first | exact congrArg nI (if_pos (by omega)).symm | exact congrArg nI (if_neg (by omega)).symm) dX7_columnsOf_19
theorem kX7_placeOf_f7 : Cond.fieldLink RX7 7 "SkewedSquareModel" "s" "[I" ∈ wsX7_placeOf := by decide +kernel
theorem khX7_placeOf_X7 : ∀ w ∈ u_ws RX7 TX7 16, w ∈ wsX7_placeOf := by decide +kernel
set_option maxHeartbeats 4000000 in
set_option maxRecDepth 100000 in
/-- kX7_placeOf -/
theorem kX7_placeOf (l : Launch) (G : wG) (r : RA) (s P U : wF) (p : Nat) (X : wF) (y q0 : Nat) (q1 : Int32) (q2 : Nat) (q3 : Int32) (sp re : Nat) (B : wF) (wd hg ow : Nat) (n o lr lc rc : Nat) (j : Nat) (hD : RelD n o lr lc rc s) (hj : j < 4) : CR l yX7_placeOf wsX7_placeOf (rm 0 0) G [.ref r.1, .int (nI j)] (wU G r (s, P, U, p, X, y, q0, q1, q2, q3, sp, re, B, wd, hg, ow)) (fun x => x = nI (if j < o then j else j + 1)) := by
  refine CR.of (own := RX7) rfl (by decide) rfl (Nat.le_of_ble_eq_true rfl) ?_
  intro p9 e9 s9 m9 b9 t9 c9 xE xB xM xO xT xK xP Q xQ ls hl
  have xL : lv_has ls 2 [(0, .ref r.1), (1, .int (nI j))] := hl
  obtain ⟨g0, g1, g2, g3, g4, ⟨hn1, hn2, hn3⟩, hm1, hm2, hm3, hm4, hm5, hm6⟩ := id hD
  refine lv_iload_n xE xB dX7_placeOf_0 rfl (lv_at xL 1 rfl) ?_
  refine lv_aload_n xE xB dX7_placeOf_1 rfl (lv_at xL 0 rfl) ?_
  refine va_get (D := G.1) (ci := 7) (v := .ref r.2.1) (C := RX7) (T := TX7) (N := 16) xE xB xT khX7_placeOf_X7 xO xK.1 xP 0 rfl rfl 0 (by decide) (xT _ kX7_placeOf_f7) (fun _ h9 => h9) rfl dX7_placeOf_2 ?_
  refine lv_iconst (v := nI 4) xE xB dX7_placeOf_5 (by decide) ?_
  refine q_ald xE xB xK xP 1 rfl (by omega) (by decide) dX7_placeOf_6 ?_
  refine q_eq (y := nI o) (congrArg (fun z => z) (g4)) ?_
  refine q_icmp_ge (tgt := 14) xE xB dX7_placeOf_7 (by decide) (by omega) (by omega) (fun c_7 => ?_) (fun c_7 => ?_)
  · skip
    refine lv_iload_n xE xB dX7_placeOf_14 rfl (lv_at xL 1 rfl) ?_
    refine lv_iconst (v := nI 1) xE xB dX7_placeOf_15 (by decide) ?_
    refine q_iadd xE xB dX7_placeOf_16 ?_
    exact xQ _ _ _ (by first | exact congrArg nI (if_pos (by omega)).symm | exact congrArg nI (if_neg (by omega)).symm) dX7_placeOf_17
  · skip
    refine lv_iload_n xE xB dX7_placeOf_10 rfl (lv_at xL 1 rfl) ?_
    refine lv_goto (tgt := 17) xE xB dX7_placeOf_11 (by decide) ?_
    exact xQ _ _ _ (by first | exact congrArg nI (if_pos (by omega)).symm | exact congrArg nI (if_neg (by omega)).symm) dX7_placeOf_17
