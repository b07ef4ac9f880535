/-! text: the scan of the class, as steps of an automaton -/
abbrev AS : Type := Nat × Nat × Nat × Nat × Nat × Nat × Nat × Nat × wF
def sgnV (ng vl : Nat) : Int32 := if ng = 0 then nI vl else -(nI vl)
def commaA (p : Nat) : AS → AS
  | (fp, re, row, col, wid, ng, dg, vl, f) => if wid ≤ col + 1 then (p, 2, row, col, wid, ng, dg, vl, f) else (fp, re, row, col + 1, wid, 0, 0, 0, upd f (6 * row + col) (sgnV ng vl))
def semiA (p : Nat) : AS → AS
  | (fp, re, row, col, wid, ng, dg, vl, f) => if 6 ≤ row + 1 ∨ (0 < row ∧ col + 1 < wid) then (p, 2, row, col, wid, ng, dg, vl, f) else (fp, re, row + 1, 0, (if row = 0 then col + 1 else wid), 0, 0, 0, upd f (6 * row + col) (sgnV ng vl))
def stepA (p ch : Nat) : AS → AS
  | (fp, re, row, col, wid, ng, dg, vl, f) =>
    if 48 ≤ ch ∧ ch ≤ 57 ∧ dg < 2 then (fp, re, row, col, wid, ng, dg + 1, vl * 10 + (ch - 48), f)
    else if ch = 45 ∧ dg = 0 ∧ ng = 0 then (fp, re, row, col, wid, 1, dg, vl, f)
    else if ch = 44 ∧ 0 < dg then commaA p (fp, re, row, col, wid, ng, dg, vl, f)
    else if ch = 59 ∧ 0 < dg then semiA p (fp, re, row, col, wid, ng, dg, vl, f)
    else (p, 1, row, col, wid, ng, dg, vl, f)
def finA (len : Nat) : AS → AS × Nat × Nat
  | (fp, re, row, col, wid, ng, dg, vl, f) => if dg = 0 then ((len, 1, row, col, wid, ng, dg, vl, f), 6, 6) else if 0 < row ∧ col + 1 < wid then ((len, 2, row, col, wid, ng, dg, vl, f), 6, 6) else ((fp, re, row, col, (if row = 0 then col + 1 else wid), 0, 0, 0, upd f (6 * row + col) (sgnV ng vl)), row + 1, (if row = 0 then col + 1 else wid))
def stk (T : Nat → Nat) (z : AS) : Nat → AS
  | 0 => z
  | i + 1 => if (stk T z i).2.1 = 0 then stepA i (T i) (stk T z i) else stk T z i
def scanA (T : Nat → Nat) (len : Nat) (z : AS) : AS × Nat × Nat := if (stk T z len).2.1 = 0 then finA len (stk T z len) else (stk T z len, 6, 6)
def InvA (z : AS) : Prop := z.2.2.1 < 6 ∧ z.2.2.2.1 < z.2.2.2.2.1 ∧ z.2.2.2.2.1 ≤ 6 ∧ z.2.2.2.2.2.1 ≤ 1
theorem InvA_step {p ch : Nat} {z : AS} (h : InvA z) : InvA (stepA p ch z) := by
  obtain ⟨fp, re, row, col, wid, ng, dg, vl, f⟩ := z
  obtain ⟨h1, h2, h3, h4⟩ := h
  dsimp only at h1 h2 h3 h4
  unfold stepA InvA
  dsimp only
  split
  · exact ⟨h1, h2, h3, h4⟩
  · split
    · exact ⟨h1, h2, h3, Nat.le_refl _⟩
    · split
      · unfold commaA
        dsimp only
        split
        · exact ⟨h1, h2, h3, h4⟩
        · exact ⟨h1, by dsimp only; omega, h3, by dsimp only; decide⟩
      · split
        · unfold semiA
          dsimp only
          split
          · exact ⟨h1, h2, h3, h4⟩
          · refine ⟨by dsimp only; omega, ?_, ?_, by dsimp only; decide⟩
            · dsimp only; split <;> omega
            · dsimp only; split <;> omega
        · exact ⟨h1, h2, h3, h4⟩
theorem stk_stop {T : Nat → Nat} {z : AS} {i : Nat} (h : (stk T z i).2.1 ≠ 0) : ∀ m, i ≤ m → stk T z m = stk T z i := by
  intro m hm
  induction m with
  | zero =>
    obtain rfl : i = 0 := by omega
    rfl
  | succ m ih =>
    rcases Nat.lt_or_ge i (m + 1) with q | q
    · have e := ih (by omega)
      show (if (stk T z m).2.1 = 0 then stepA m (T m) (stk T z m) else stk T z m) = _
      rw [e, if_neg h]
    · obtain rfl : i = m + 1 := by omega
      rfl
theorem stkA_1 {T : Nat → Nat} {z z0 : AS} {i len : Nat} (hz : z = stk T z0 i) (hi : i ≤ len) (h : len ≤ i) : z = stk T z0 len := by
  obtain rfl : i = len := Nat.le_antisymm hi h
  exact hz
theorem stkA_2 {T : Nat → Nat} {z z0 : AS} {i len : Nat} (hz : z = stk T z0 i) (hi : i ≤ len) (h : 0 < z.2.1) : z = stk T z0 len := by
  rw [stk_stop (by rw [← hz]; exact Nat.ne_of_gt h) len hi]
  exact hz
theorem stk_s {T : Nat → Nat} {z : AS} {i : Nat} (h : (stk T z i).2.1 = 0) : stk T z (i + 1) = stepA i (T i) (stk T z i) := if_pos h

theorem kX4_startEntry_f55 : Cond.fieldLink RX4 55 "SkewedSquare$Text" "negative" "Z" ∈ wsX4_startEntry := by decide +kernel
theorem kX4_startEntry_f59 : Cond.fieldLink RX4 59 "SkewedSquare$Text" "digits" "I" ∈ wsX4_startEntry := by decide +kernel
theorem kX4_startEntry_f62 : Cond.fieldLink RX4 62 "SkewedSquare$Text" "value" "I" ∈ wsX4_startEntry := by decide +kernel
theorem khX4_startEntry_X4 : ∀ w ∈ u_ws RX4 TX4 11, w ∈ wsX4_startEntry := by decide +kernel
set_option maxHeartbeats 4000000 in
set_option maxRecDepth 100000 in
/-- kX4_startEntry -/
theorem kX4_startEntry (l : Launch) (G : wG) (x : XA) (len fp re row col wid ng dg vl : Nat) (g : wF) (mr mc : Nat) (f : wF) : CV (S := Unit) l yX4_startEntry wsX4_startEntry (rm 0 0) G [.ref x.1] (wX G x (len, fp, re, row, col, wid, ng, dg, vl, g, (mr, mc, f))) (fun u9 => True) (fun u9 => wX G x (len, fp, re, row, col, wid, 0, 0, 0, g, (mr, mc, f))) := by
  refine CV.of (own := RX4) rfl (by decide) rfl (Nat.le_of_ble_eq_true rfl) ?_
  intro p9 e9 s9 m9 b9 t9 c9 A xE xB xM xO xT xK xP xD Q xQ xS ls hl
  have xL : lv_has ls 1 [(0, .ref x.1)] := hl
  refine lv_aload_n xE xB dX4_startEntry_0 rfl (lv_at xL 0 rfl) ?_
  refine lv_iconst (v := nI 0) xE xB dX4_startEntry_1 (by decide) ?_
  refine va_put (D := G.1) (ci := 4) (v := .int (nI 0)) (ty := .boolean) (C := RX4) (T := TX4) (N := 11) xE xB xT khX4_startEntry_X4 tyX4 tyX4_ok nmX4 xO xK.1 xP xD xS 0 rfl rfl 8 (by decide) (xT _ kX4_startEntry_f55) (fun _ h9 => h9) rfl (by decide +kernel) (by decide) (by decide) (Nat.le_of_ble_eq_true rfl) dX4_startEntry_2 (fun H locs xP xD xS => ?_)
  have xP : va_P G.1 vwCl (wX G x (len, fp, re, row, col, wid, 0, dg, vl, g, (mr, mc, f))) H := xP
  have xD : va_D A (wX G x (len, fp, re, row, col, wid, 0, dg, vl, g, (mr, mc, f))) := xD
  refine lv_aload_n xE xB dX4_startEntry_5 rfl (lv_at xL 0 rfl) ?_
  refine lv_iconst (v := nI 0) xE xB dX4_startEntry_6 (by decide) ?_
  refine va_put (D := G.1) (ci := 4) (v := .int (nI 0)) (ty := .int) (C := RX4) (T := TX4) (N := 11) xE xB xT khX4_startEntry_X4 tyX4 tyX4_ok nmX4 xO xK.1 xP xD xS 0 rfl rfl 9 (by decide) (xT _ kX4_startEntry_f59) (fun _ h9 => h9) rfl (by decide +kernel) rfl rfl (Nat.le_of_ble_eq_true rfl) dX4_startEntry_7 (fun H locs xP xD xS => ?_)
  have xP : va_P G.1 vwCl (wX G x (len, fp, re, row, col, wid, 0, 0, vl, g, (mr, mc, f))) H := xP
  have xD : va_D A (wX G x (len, fp, re, row, col, wid, 0, 0, vl, g, (mr, mc, f))) := xD
  refine lv_aload_n xE xB dX4_startEntry_10 rfl (lv_at xL 0 rfl) ?_
  refine lv_iconst (v := nI 0) xE xB dX4_startEntry_11 (by decide) ?_
  refine va_put (D := G.1) (ci := 4) (v := .int (nI 0)) (ty := .int) (C := RX4) (T := TX4) (N := 11) xE xB xT khX4_startEntry_X4 tyX4 tyX4_ok nmX4 xO xK.1 xP xD xS 0 rfl rfl 10 (by decide) (xT _ kX4_startEntry_f62) (fun _ h9 => h9) rfl (by decide +kernel) rfl rfl (Nat.le_of_ble_eq_true rfl) dX4_startEntry_12 (fun H locs xP xD xS => ?_)
  have xP : va_P G.1 vwCl (wX G x (len, fp, re, row, col, wid, 0, 0, 0, g, (mr, mc, f))) H := xP
  have xD : va_D A (wX G x (len, fp, re, row, col, wid, 0, 0, 0, g, (mr, mc, f))) := xD
  exact xQ _ _ _ _ () trivial xP xD xS dX4_startEntry_15
theorem kX4_setFault_f29 : Cond.fieldLink RX4 29 "SkewedSquare$Text" "reason" "I" ∈ wsX4_setFault := by decide +kernel
theorem kX4_setFault_f95 : Cond.fieldLink RX4 95 "SkewedSquare$Text" "faultPlace" "I" ∈ wsX4_setFault := by decide +kernel
theorem khX4_setFault_X4 : ∀ w ∈ u_ws RX4 TX4 11, w ∈ wsX4_setFault := by decide +kernel
set_option maxHeartbeats 4000000 in
set_option maxRecDepth 100000 in
/-- kX4_setFault -/
theorem kX4_setFault (l : Launch) (G : wG) (x : XA) (len fp re row col wid ng dg vl : Nat) (g : wF) (mr mc : Nat) (f : wF) (p q : Nat) : CV (S := Unit) l yX4_setFault wsX4_setFault (rm 0 0) G [.ref x.1, .int (nI p), .int (nI q)] (wX G x (len, fp, re, row, col, wid, ng, dg, vl, g, (mr, mc, f))) (fun u9 => True) (fun u9 => wX G x (len, p, q, row, col, wid, ng, dg, vl, g, (mr, mc, f))) := by
  refine CV.of (own := RX4) rfl (by decide) rfl (Nat.le_of_ble_eq_true rfl) ?_
  intro p9 e9 s9 m9 b9 t9 c9 A xE xB xM xO xT xK xP xD Q xQ xS ls hl
  have xL : lv_has ls 3 [(0, .ref x.1), (1, .int (nI p)), (2, .int (nI q))] := hl
  refine lv_aload_n xE xB dX4_setFault_0 rfl (lv_at xL 0 rfl) ?_
  refine lv_iload_n xE xB dX4_setFault_1 rfl (lv_at xL 1 rfl) ?_
  refine va_put (D := G.1) (ci := 4) (v := .int (nI p)) (ty := .int) (C := RX4) (T := TX4) (N := 11) xE xB xT khX4_setFault_X4 tyX4 tyX4_ok nmX4 xO xK.1 xP xD xS 0 rfl rfl 3 (by decide) (xT _ kX4_setFault_f95) (fun _ h9 => h9) rfl (by decide +kernel) rfl rfl (Nat.le_of_ble_eq_true rfl) dX4_setFault_2 (fun H locs xP xD xS => ?_)
  have xP : va_P G.1 vwCl (wX G x (len, p, re, row, col, wid, ng, dg, vl, g, (mr, mc, f))) H := xP
  have xD : va_D A (wX G x (len, p, re, row, col, wid, ng, dg, vl, g, (mr, mc, f))) := xD
  refine lv_aload_n xE xB dX4_setFault_5 rfl (lv_at xL 0 rfl) ?_
  refine lv_iload_n xE xB dX4_setFault_6 rfl (lv_at xL 2 rfl) ?_
  refine va_put (D := G.1) (ci := 4) (v := .int (nI q)) (ty := .int) (C := RX4) (T := TX4) (N := 11) xE xB xT khX4_setFault_X4 tyX4 tyX4_ok nmX4 xO xK.1 xP xD xS 0 rfl rfl 4 (by decide) (xT _ kX4_setFault_f29) (fun _ h9 => h9) rfl (by decide +kernel) rfl rfl (Nat.le_of_ble_eq_true rfl) dX4_setFault_7 (fun H locs xP xD xS => ?_)
  have xP : va_P G.1 vwCl (wX G x (len, p, q, row, col, wid, ng, dg, vl, g, (mr, mc, f))) H := xP
  have xD : va_D A (wX G x (len, p, q, row, col, wid, ng, dg, vl, g, (mr, mc, f))) := xD
  exact xQ _ _ _ _ () trivial xP xD xS dX4_setFault_10
theorem kX4_rowIsShort_f43 : Cond.fieldLink RX4 43 "SkewedSquare$Text" "row" "I" ∈ wsX4_rowIsShort := by decide +kernel
theorem kX4_rowIsShort_f46 : Cond.fieldLink RX4 46 "SkewedSquare$Text" "column" "I" ∈ wsX4_rowIsShort := by decide +kernel
theorem kX4_rowIsShort_f49 : Cond.fieldLink RX4 49 "SkewedSquare$Text" "width" "I" ∈ wsX4_rowIsShort := by decide +kernel
theorem khX4_rowIsShort_X4 : ∀ w ∈ u_ws RX4 TX4 11, w ∈ wsX4_rowIsShort := by decide +kernel
set_option maxHeartbeats 4000000 in
set_option maxRecDepth 100000 in
/-- kX4_rowIsShort -/
theorem kX4_rowIsShort (l : Launch) (G : wG) (x : XA) (len fp re row col wid ng dg vl : Nat) (g : wF) (mr mc : Nat) (f : wF) (h1 : row < 6) (h2 : col < 6) (h3 : wid ≤ 6) : CR l yX4_rowIsShort wsX4_rowIsShort (rm 0 0) G [.ref x.1] (wX G x (len, fp, re, row, col, wid, ng, dg, vl, g, (mr, mc, f))) (fun x => (x = nI 1 ∧ (0 < row ∧ col + 1 < wid)) ∨ (x = nI 0 ∧ ¬ (0 < row ∧ col + 1 < wid))) := by
  refine CR.ofZ (own := RX4) rfl (by decide) rfl (Nat.le_of_ble_eq_true rfl) ?_
  intro p9 e9 s9 m9 b9 t9 c9 xE xB xM xO xT xK xP Q xQ ls hl
  have xL : lv_has ls 1 [(0, .ref x.1)] := hl
  refine lv_aload_n xE xB dX4_rowIsShort_0 rfl (lv_at xL 0 rfl) ?_
  refine va_get (D := G.1) (ci := 4) (v := .int (nI row)) (C := RX4) (T := TX4) (N := 11) xE xB xT khX4_rowIsShort_X4 xO xK.1 xP 0 rfl rfl 5 (by decide) (xT _ kX4_rowIsShort_f43) (fun _ h9 => h9) rfl dX4_rowIsShort_1 ?_
  refine q_if_le (tgt := 24) xE xB dX4_rowIsShort_4 (by decide) (by omega) (fun c_4 => ?_) (fun c_4 => ?_)
  · skip
    refine lv_iconst (v := nI 0) xE xB dX4_rowIsShort_24 (by decide) ?_
    exact xQ _ _ _ (Or.inr ⟨rfl, by omega⟩) (by decide) dX4_rowIsShort_25
  · skip
    refine lv_aload_n xE xB dX4_rowIsShort_7 rfl (lv_at xL 0 rfl) ?_
    refine va_get (D := G.1) (ci := 4) (v := .int (nI col)) (C := RX4) (T := TX4) (N := 11) xE xB xT khX4_rowIsShort_X4 xO xK.1 xP 0 rfl rfl 6 (by decide) (xT _ kX4_rowIsShort_f46) (fun _ h9 => h9) rfl dX4_rowIsShort_8 ?_
    refine lv_iconst (v := nI 1) xE xB dX4_rowIsShort_11 (by decide) ?_
    refine q_iadd xE xB dX4_rowIsShort_12 ?_
    refine lv_aload_n xE xB dX4_rowIsShort_13 rfl (lv_at xL 0 rfl) ?_
    refine va_get (D := G.1) (ci := 4) (v := .int (nI wid)) (C := RX4) (T := TX4) (N := 11) xE xB xT khX4_rowIsShort_X4 xO xK.1 xP 0 rfl rfl 7 (by decide) (xT _ kX4_rowIsShort_f49) (fun _ h9 => h9) rfl dX4_rowIsShort_14 ?_
    refine q_icmp_ge (tgt := 24) xE xB dX4_rowIsShort_17 (by decide) (by omega) (by omega) (fun c_17 => ?_) (fun c_17 => ?_)
    · skip
      refine lv_iconst (v := nI 0) xE xB dX4_rowIsShort_24 (by decide) ?_
      exact xQ _ _ _ (Or.inr ⟨rfl, by omega⟩) (by decide) dX4_rowIsShort_25
    · skip
      refine lv_iconst (v := nI 1) xE xB dX4_rowIsShort_20 (by decide) ?_
      refine lv_goto (tgt := 25) xE xB dX4_rowIsShort_21 (by decide) ?_
      exact xQ _ _ _ (Or.inl ⟨rfl, by omega⟩) (by decide) dX4_rowIsShort_25
theorem kX4_endRow_f43 : Cond.fieldLink RX4 43 "SkewedSquare$Text" "row" "I" ∈ wsX4_endRow := by decide +kernel
theorem kX4_endRow_f46 : Cond.fieldLink RX4 46 "SkewedSquare$Text" "column" "I" ∈ wsX4_endRow := by decide +kernel
theorem kX4_endRow_f49 : Cond.fieldLink RX4 49 "SkewedSquare$Text" "width" "I" ∈ wsX4_endRow := by decide +kernel
theorem khX4_endRow_X4 : ∀ w ∈ u_ws RX4 TX4 11, w ∈ wsX4_endRow := by decide +kernel
set_option maxHeartbeats 4000000 in
set_option maxRecDepth 100000 in
/-- kX4_endRow -/
theorem kX4_endRow (l : Launch) (G : wG) (x : XA) (len fp re row col wid ng dg vl : Nat) (g : wF) (mr mc : Nat) (f : wF) (h1 : row < 6) : CV (S := Unit) l yX4_endRow wsX4_endRow (rm 0 0) G [.ref x.1] (wX G x (len, fp, re, row, col, wid, ng, dg, vl, g, (mr, mc, f))) (fun u9 => True) (fun u9 => wX G x (len, fp, re, row, col, if row = 0 then col + 1 else wid, ng, dg, vl, g, (mr, mc, f))) := by
  refine CV.of (own := RX4) rfl (by decide) rfl (Nat.le_of_ble_eq_true rfl) ?_
  intro p9 e9 s9 m9 b9 t9 c9 A xE xB xM xO xT xK xP xD Q xQ xS ls hl
  have xL : lv_has ls 1 [(0, .ref x.1)] := hl
  have J_17 : ∀ (y : Nat), (y = if row = 0 then col + 1 else wid) → ∀ (H : Heap) (locs : List Loc), va_P G.1 vwCl (wX G x (len, fp, re, row, col, y, ng, dg, vl, g, (mr, mc, f))) H → va_D A (wX G x (len, fp, re, row, col, y, ng, dg, vl, g, (mr, mc, f))) → va_S A s9.heap H locs → ∀ (ls : Array Slot), lv_has ls 1 [(0, .ref x.1)] → W p9 l e9 (rm 0 0) s9 m9 ([.ref x.1] : List Value).toArray b9 t9 c9 H locs 0 0 Q (F0 m9 17 ls []) := by
    intro y hy H locs xP xD xS ls xL
    subst hy
    exact xQ _ _ _ _ () trivial xP xD xS dX4_endRow_17
  refine lv_aload_n xE xB dX4_endRow_0 rfl (lv_at xL 0 rfl) ?_
  refine va_get (D := G.1) (ci := 4) (v := .int (nI row)) (C := RX4) (T := TX4) (N := 11) xE xB xT khX4_endRow_X4 xO xK.1 xP 0 rfl rfl 5 (by decide) (xT _ kX4_endRow_f43) (fun _ h9 => h9) rfl dX4_endRow_1 ?_
  refine q_if_ne (tgt := 17) xE xB dX4_endRow_4 (by decide) (by omega) (fun c_4 => ?_) (fun c_4 => ?_)
  · skip
    exact J_17 wid (by first | exact (if_pos c_4).symm | exact (if_neg (Nat.ne_of_gt c_4)).symm) _ _ xP xD xS _ (lv_sub xL [0] rfl)
  · skip
    refine lv_aload_n xE xB dX4_endRow_7 rfl (lv_at xL 0 rfl) ?_
    refine lv_aload_n xE xB dX4_endRow_8 rfl (lv_at xL 0 rfl) ?_
    refine va_get (D := G.1) (ci := 4) (v := .int (nI col)) (C := RX4) (T := TX4) (N := 11) xE xB xT khX4_endRow_X4 xO xK.1 xP 0 rfl rfl 6 (by decide) (xT _ kX4_endRow_f46) (fun _ h9 => h9) rfl dX4_endRow_9 ?_
    refine lv_iconst (v := nI 1) xE xB dX4_endRow_12 (by decide) ?_
    refine q_iadd xE xB dX4_endRow_13 ?_
    refine va_put (D := G.1) (ci := 4) (v := .int (nI (col + 1))) (ty := .int) (C := RX4) (T := TX4) (N := 11) xE xB xT khX4_endRow_X4 tyX4 tyX4_ok nmX4 xO xK.1 xP xD xS 0 rfl rfl 7 (by decide) (xT _ kX4_endRow_f49) (fun _ h9 => h9) rfl (by decide +kernel) rfl rfl (Nat.le_of_ble_eq_true rfl) dX4_endRow_14 (fun H locs xP xD xS => ?_)
    have xP : va_P G.1 vwCl (wX G x (len, fp, re, row, col, col + 1, ng, dg, vl, g, (mr, mc, f))) H := xP
    have xD : va_D A (wX G x (len, fp, re, row, col, col + 1, ng, dg, vl, g, (mr, mc, f))) := xD
    exact J_17 (col + 1) (by first | exact (if_pos c_4).symm | exact (if_neg (Nat.ne_of_gt c_4)).symm) _ _ xP xD xS _ (lv_sub xL [0] rfl)
theorem kX4_endEntry_f18 : Cond.fieldLink RX4 18 "SkewedSquare$Text" "matrix" "LSkewedSquare$Matrix;" ∈ wsX4_endEntry := by decide +kernel
theorem kX4_endEntry_f43 : Cond.fieldLink RX4 43 "SkewedSquare$Text" "row" "I" ∈ wsX4_endEntry := by decide +kernel
theorem kX4_endEntry_f46 : Cond.fieldLink RX4 46 "SkewedSquare$Text" "column" "I" ∈ wsX4_endEntry := by decide +kernel
theorem kX4_endEntry_f55 : Cond.fieldLink RX4 55 "SkewedSquare$Text" "negative" "Z" ∈ wsX4_endEntry := by decide +kernel
theorem kX4_endEntry_f62 : Cond.fieldLink RX4 62 "SkewedSquare$Text" "value" "I" ∈ wsX4_endEntry := by decide +kernel
theorem khX4_endEntry_X4 : ∀ w ∈ u_ws RX4 TX4 11, w ∈ wsX4_endEntry := by decide +kernel
set_option maxHeartbeats 4000000 in
set_option maxRecDepth 100000 in
/-- kX4_endEntry -/
theorem kX4_endEntry (l : Launch) (G : wG) (x : XA) (len fp re row col wid ng dg vl : Nat) (g f : wF) (h1 : row < 6) (h2 : col < 6) (h3 : ng ≤ 1) : CV (S := Unit) l yX4_endEntry wsX4_endEntry (rm 2 45) G [.ref x.1] (wX G x (len, fp, re, row, col, wid, ng, dg, vl, g, (6, 6, f))) (fun u9 => True) (fun u9 => wX G x (len, fp, re, row, col, wid, 0, 0, 0, g, (6, 6, upd f (6 * row + col) (sgnV ng vl)))) := by
  refine CV.of (own := RX4) rfl (by decide) rfl (Nat.le_of_ble_eq_true rfl) ?_
  intro p9 e9 s9 m9 b9 t9 c9 A xE xB xM xO xT xK xP xD Q xQ xS ls hl
  have xL : lv_has ls 1 [(0, .ref x.1)] := hl
  refine lv_aload_n xE xB dX4_endEntry_0 rfl (lv_at xL 0 rfl) ?_
  refine va_get (D := G.1) (ci := 4) (v := .ref x.2.2.1) (C := RX4) (T := TX4) (N := 11) xE xB xT khX4_endEntry_X4 xO xK.1 xP 0 rfl rfl 2 (by decide) (xT _ kX4_endEntry_f18) (fun _ h9 => h9) rfl dX4_endEntry_1 ?_
  refine lv_aload_n xE xB dX4_endEntry_4 rfl (lv_at xL 0 rfl) ?_
  refine va_get (D := G.1) (ci := 4) (v := .int (nI row)) (C := RX4) (T := TX4) (N := 11) xE xB xT khX4_endEntry_X4 xO xK.1 xP 0 rfl rfl 5 (by decide) (xT _ kX4_endEntry_f43) (fun _ h9 => h9) rfl dX4_endEntry_5 ?_
  have J_31 : ∀ (y : Int32), (y = sgnV ng vl) → ∀ (H : Heap) (locs : List Loc), va_P G.1 vwCl (wX G x (len, fp, re, row, col, wid, ng, dg, vl, g, (6, 6, f))) H → va_D A (wX G x (len, fp, re, row, col, wid, ng, dg, vl, g, (6, 6, f))) → va_S A s9.heap H locs → ∀ (ls : Array Slot), lv_has ls 1 [(0, .ref x.1)] → W p9 l e9 (rm 2 45) s9 m9 ([.ref x.1] : List Value).toArray b9 t9 c9 H locs 0 0 Q (F0 m9 31 ls [.int y, .int (nI col), .int (nI row), .ref x.2.2.1]) := by
    intro y hy H locs xP xD xS ls xL
    refine q_VV (As := [.int (nI row), .int (nI col), .int y]) (rest := []) ⟨xE, xB, xM, xO, xT⟩ (kX1_put l G x.2.2 6 6 f row col y (by omega) (by omega) (by omega) (by omega)) (cwV 3 xT gX4_endEntry_X1_put rfl rfl rfl (by decide +kernel) ⟨Nat.le_of_ble_eq_true rfl, Nat.le_of_ble_eq_true rfl⟩) xK xP xD xS [2, 3] rfl (by decide +kernel) (fun _ => rfl) 0 rfl rfl rfl rfl xL.1 rfl (Nat.le_of_ble_eq_true rfl) dX4_endEntry_31 ⟨Nat.le_refl _, Nat.le_refl _⟩ (fun u_31 H locs h_31 xP xD xS => ?_)
    have xP : va_P G.1 vwCl (wX G x (len, fp, re, row, col, wid, ng, dg, vl, g, (6, 6, upd f (6 * row + col) y))) H := xP
    have xD : va_D A (wX G x (len, fp, re, row, col, wid, ng, dg, vl, g, (6, 6, upd f (6 * row + col) y))) := xD
    refine lv_aload_n xE xB dX4_endEntry_34 rfl (lv_at xL 0 rfl) ?_
    refine q_VV (As := []) (rest := []) ⟨xE, xB, xM, xO, xT⟩ (kX4_startEntry l G x len fp re row col wid ng dg vl g 6 6 (upd f (6 * row + col) y)) (cwV 0 xT gX4_endEntry_X4_startEntry rfl rfl rfl (by decide +kernel) ⟨Nat.le_of_ble_eq_true rfl, Nat.le_of_ble_eq_true rfl⟩) xK xP xD xS [0, 1, 2, 3] rfl (by decide +kernel) (fun _ => rfl) 0 rfl rfl rfl rfl xL.1 rfl (Nat.le_of_ble_eq_true rfl) dX4_endEntry_35 ⟨Nat.le_refl _, Nat.le_refl _⟩ (fun u_35 H locs h_35 xP xD xS => ?_)
    have xP : va_P G.1 vwCl (wX G x (len, fp, re, row, col, wid, 0, 0, 0, g, (6, 6, upd f (6 * row + col) y))) H := xP
    have xD : va_D A (wX G x (len, fp, re, row, col, wid, 0, 0, 0, g, (6, 6, upd f (6 * row + col) y))) := xD
    subst hy
    exact xQ _ _ _ _ () trivial xP xD xS dX4_endEntry_38
  refine lv_aload_n xE xB dX4_endEntry_8 rfl (lv_at xL 0 rfl) ?_
  refine va_get (D := G.1) (ci := 4) (v := .int (nI col)) (C := RX4) (T := TX4) (N := 11) xE xB xT khX4_endEntry_X4 xO xK.1 xP 0 rfl rfl 6 (by decide) (xT _ kX4_endEntry_f46) (fun _ h9 => h9) rfl dX4_endEntry_9 ?_
  refine lv_aload_n xE xB dX4_endEntry_12 rfl (lv_at xL 0 rfl) ?_
  refine va_get (D := G.1) (ci := 4) (v := .int (nI ng)) (C := RX4) (T := TX4) (N := 11) xE xB xT khX4_endEntry_X4 xO xK.1 xP 0 rfl rfl 8 (by decide) (xT _ kX4_endEntry_f55) (fun _ h9 => h9) rfl dX4_endEntry_13 ?_
  refine q_if_eq (tgt := 27) xE xB dX4_endEntry_16 (by decide) (by omega) (fun c_16 => ?_) (fun c_16 => ?_)
  · skip
    refine lv_aload_n xE xB dX4_endEntry_27 rfl (lv_at xL 0 rfl) ?_
    refine va_get (D := G.1) (ci := 4) (v := .int (nI vl)) (C := RX4) (T := TX4) (N := 11) xE xB xT khX4_endEntry_X4 xO xK.1 xP 0 rfl rfl 10 (by decide) (xT _ kX4_endEntry_f62) (fun _ h9 => h9) rfl dX4_endEntry_28 ?_
    exact J_31 (nI vl) (by first | exact (if_pos c_16).symm | exact (if_neg (Nat.ne_of_gt c_16)).symm) _ _ xP xD xS _ (lv_sub xL [0] rfl)
  · skip
    refine lv_aload_n xE xB dX4_endEntry_19 rfl (lv_at xL 0 rfl) ?_
    refine va_get (D := G.1) (ci := 4) (v := .int (nI vl)) (C := RX4) (T := TX4) (N := 11) xE xB xT khX4_endEntry_X4 xO xK.1 xP 0 rfl rfl 10 (by decide) (xT _ kX4_endEntry_f62) (fun _ h9 => h9) rfl dX4_endEntry_20 ?_
    refine lv_ineg xE xB dX4_endEntry_23 ?_
    refine lv_goto (tgt := 31) xE xB dX4_endEntry_24 (by decide) ?_
    exact J_31 (-(nI vl)) (by first | exact (if_pos c_16).symm | exact (if_neg (Nat.ne_of_gt c_16)).symm) _ _ xP xD xS _ (lv_sub xL [0] rfl)
theorem kX4_scanComma_f46 : Cond.fieldLink RX4 46 "SkewedSquare$Text" "column" "I" ∈ wsX4_scanComma := by decide +kernel
theorem kX4_scanComma_f49 : Cond.fieldLink RX4 49 "SkewedSquare$Text" "width" "I" ∈ wsX4_scanComma := by decide +kernel
theorem khX4_scanComma_X4 : ∀ w ∈ u_ws RX4 TX4 11, w ∈ wsX4_scanComma := by decide +kernel
set_option maxHeartbeats 4000000 in
set_option maxRecDepth 100000 in
/-- kX4_scanComma -/
theorem kX4_scanComma (l : Launch) (G : wG) (x : XA) (len fp re row col wid ng dg vl : Nat) (g f : wF) (p : Nat) (h1 : row < 6) (h2 : col < wid) (h3 : wid ≤ 6) (h4 : ng ≤ 1) : CV (S := AS) l yX4_scanComma wsX4_scanComma (rm 3 65) G [.ref x.1, .int (nI p)] (wX G x (len, fp, re, row, col, wid, ng, dg, vl, g, (6, 6, f))) (fun u9 => u9 = commaA p (fp, re, row, col, wid, ng, dg, vl, f)) (fun u9 => wX G x (len, u9.1, u9.2.1, u9.2.2.1, u9.2.2.2.1, u9.2.2.2.2.1, u9.2.2.2.2.2.1, u9.2.2.2.2.2.2.1, u9.2.2.2.2.2.2.2.1, g, (6, 6, u9.2.2.2.2.2.2.2.2))) := by
  refine CV.of (own := RX4) rfl (by decide) rfl (Nat.le_of_ble_eq_true rfl) ?_
  intro p9 e9 s9 m9 b9 t9 c9 A xE xB xM xO xT xK xP xD Q xQ xS ls hl
  have xL : lv_has ls 2 [(0, .ref x.1), (1, .int (nI p))] := hl
  refine lv_aload_n xE xB dX4_scanComma_0 rfl (lv_at xL 0 rfl) ?_
  refine va_get (D := G.1) (ci := 4) (v := .int (nI col)) (C := RX4) (T := TX4) (N := 11) xE xB xT khX4_scanComma_X4 xO xK.1 xP 0 rfl rfl 6 (by decide) (xT _ kX4_scanComma_f46) (fun _ h9 => h9) rfl dX4_scanComma_1 ?_
  refine lv_iconst (v := nI 1) xE xB dX4_scanComma_4 (by decide) ?_
  refine q_iadd xE xB dX4_scanComma_5 ?_
  refine lv_aload_n xE xB dX4_scanComma_6 rfl (lv_at xL 0 rfl) ?_
  refine va_get (D := G.1) (ci := 4) (v := .int (nI wid)) (C := RX4) (T := TX4) (N := 11) xE xB xT khX4_scanComma_X4 xO xK.1 xP 0 rfl rfl 7 (by decide) (xT _ kX4_scanComma_f49) (fun _ h9 => h9) rfl dX4_scanComma_7 ?_
  refine q_icmp_lt (tgt := 20) xE xB dX4_scanComma_10 (by decide) (by omega) (by omega) (fun c_10 => ?_) (fun c_10 => ?_)
  · skip
    refine lv_aload_n xE xB dX4_scanComma_20 rfl (lv_at xL 0 rfl) ?_
    refine q_VV (As := []) (rest := []) ⟨xE, xB, xM, xO, xT⟩ (kX4_endEntry l G x len fp re row col wid ng dg vl g f (by omega) (by omega) (by omega)) (cwV 0 xT gX4_scanComma_X4_endEntry rfl rfl rfl (by decide +kernel) ⟨Nat.le_of_ble_eq_true rfl, Nat.le_of_ble_eq_true rfl⟩) xK xP xD xS [0, 1, 2, 3] rfl (by decide +kernel) (fun _ => rfl) 0 rfl rfl rfl rfl xL.1 rfl (Nat.le_of_ble_eq_true rfl) dX4_scanComma_21 ⟨Nat.le_refl _, Nat.le_refl _⟩ (fun u_21 H locs h_21 xP xD xS => ?_)
    have xP : va_P G.1 vwCl (wX G x (len, fp, re, row, col, wid, 0, 0, 0, g, (6, 6, upd f (6 * row + col) (sgnV ng vl)))) H := xP
    have xD : va_D A (wX G x (len, fp, re, row, col, wid, 0, 0, 0, g, (6, 6, upd f (6 * row + col) (sgnV ng vl)))) := xD
    refine lv_aload_n xE xB dX4_scanComma_24 rfl (lv_at xL 0 rfl) ?_
    refine lv_dup xE xB dX4_scanComma_25 rfl ?_
    refine va_get (D := G.1) (ci := 4) (v := .int (nI col)) (C := RX4) (T := TX4) (N := 11) xE xB xT khX4_scanComma_X4 xO xK.1 xP 0 rfl rfl 6 (by decide) (xT _ kX4_scanComma_f46) (fun _ h9 => h9) rfl dX4_scanComma_26 ?_
    refine lv_iconst (v := nI 1) xE xB dX4_scanComma_29 (by decide) ?_
    refine q_iadd xE xB dX4_scanComma_30 ?_
    refine va_put (D := G.1) (ci := 4) (v := .int (nI (col + 1))) (ty := .int) (C := RX4) (T := TX4) (N := 11) xE xB xT khX4_scanComma_X4 tyX4 tyX4_ok nmX4 xO xK.1 xP xD xS 0 rfl rfl 6 (by decide) (xT _ kX4_scanComma_f46) (fun _ h9 => h9) rfl (by decide +kernel) rfl rfl (Nat.le_of_ble_eq_true rfl) dX4_scanComma_31 (fun H locs xP xD xS => ?_)
    have xP : va_P G.1 vwCl (wX G x (len, fp, re, row, col + 1, wid, 0, 0, 0, g, (6, 6, upd f (6 * row + col) (sgnV ng vl)))) H := xP
    have xD : va_D A (wX G x (len, fp, re, row, col + 1, wid, 0, 0, 0, g, (6, 6, upd f (6 * row + col) (sgnV ng vl)))) := xD
    exact xQ _ _ _ _ (fp, re, row, col + 1, wid, 0, 0, 0, upd f (6 * row + col) (sgnV ng vl)) (if_neg (Nat.not_le.mpr c_10)).symm xP xD xS dX4_scanComma_34
  · skip
    refine lv_aload_n xE xB dX4_scanComma_13 rfl (lv_at xL 0 rfl) ?_
    refine lv_iload_n xE xB dX4_scanComma_14 rfl (lv_at xL 1 rfl) ?_
    refine lv_iconst (v := nI 2) xE xB dX4_scanComma_15 (by decide) ?_
    refine q_VV (As := [.int (nI p), .int (nI 2)]) (rest := []) ⟨xE, xB, xM, xO, xT⟩ (kX4_setFault l G x len fp re row col wid ng dg vl g 6 6 f p 2) (cwV 2 xT gX4_scanComma_X4_setFault rfl rfl rfl (by decide +kernel) ⟨Nat.le_of_ble_eq_true rfl, Nat.le_of_ble_eq_true rfl⟩) xK xP xD xS [0, 1, 2, 3] rfl (by decide +kernel) (fun _ => rfl) 0 rfl rfl rfl rfl xL.1 rfl (Nat.le_of_ble_eq_true rfl) dX4_scanComma_16 ⟨Nat.le_refl _, Nat.le_refl _⟩ (fun u_16 H locs h_16 xP xD xS => ?_)
    have xP : va_P G.1 vwCl (wX G x (len, p, 2, row, col, wid, ng, dg, vl, g, (6, 6, f))) H := xP
    have xD : va_D A (wX G x (len, p, 2, row, col, wid, ng, dg, vl, g, (6, 6, f))) := xD
    exact xQ _ _ _ _ (p, 2, row, col, wid, ng, dg, vl, f) (if_pos c_10).symm xP xD xS dX4_scanComma_19
theorem kX4_scanSemicolon_f43 : Cond.fieldLink RX4 43 "SkewedSquare$Text" "row" "I" ∈ wsX4_scanSemicolon := by decide +kernel
theorem kX4_scanSemicolon_f46 : Cond.fieldLink RX4 46 "SkewedSquare$Text" "column" "I" ∈ wsX4_scanSemicolon := by decide +kernel
theorem khX4_scanSemicolon_X4 : ∀ w ∈ u_ws RX4 TX4 11, w ∈ wsX4_scanSemicolon := by decide +kernel
set_option maxHeartbeats 4000000 in
set_option maxRecDepth 100000 in
/-- kX4_scanSemicolon -/
theorem kX4_scanSemicolon (l : Launch) (G : wG) (x : XA) (len fp re row col wid ng dg vl : Nat) (g f : wF) (p : Nat) (h1 : row < 6) (h2 : col < wid) (h3 : wid ≤ 6) (h4 : ng ≤ 1) : CV (S := AS) l yX4_scanSemicolon wsX4_scanSemicolon (rm 3 65) G [.ref x.1, .int (nI p)] (wX G x (len, fp, re, row, col, wid, ng, dg, vl, g, (6, 6, f))) (fun u9 => u9 = semiA p (fp, re, row, col, wid, ng, dg, vl, f)) (fun u9 => wX G x (len, u9.1, u9.2.1, u9.2.2.1, u9.2.2.2.1, u9.2.2.2.2.1, u9.2.2.2.2.2.1, u9.2.2.2.2.2.2.1, u9.2.2.2.2.2.2.2.1, g, (6, 6, u9.2.2.2.2.2.2.2.2))) := by
  refine CV.of (own := RX4) rfl (by decide) rfl (Nat.le_of_ble_eq_true rfl) ?_
  intro p9 e9 s9 m9 b9 t9 c9 A xE xB xM xO xT xK xP xD Q xQ xS ls hl
  have xL : lv_has ls 2 [(0, .ref x.1), (1, .int (nI p))] := hl
  refine lv_aload_n xE xB dX4_scanSemicolon_0 rfl (lv_at xL 0 rfl) ?_
  refine va_get (D := G.1) (ci := 4) (v := .int (nI row)) (C := RX4) (T := TX4) (N := 11) xE xB xT khX4_scanSemicolon_X4 xO xK.1 xP 0 rfl rfl 5 (by decide) (xT _ kX4_scanSemicolon_f43) (fun _ h9 => h9) rfl dX4_scanSemicolon_1 ?_
  refine lv_iconst (v := nI 1) xE xB dX4_scanSemicolon_4 (by decide) ?_
  refine q_iadd xE xB dX4_scanSemicolon_5 ?_
  refine lv_bipush (v := nI 6) xE xB dX4_scanSemicolon_6 (by decide) ?_
  refine q_icmp_ge (tgt := 18) xE xB dX4_scanSemicolon_8 (by decide) (by omega) (by omega) (fun c_8 => ?_) (fun c_8 => ?_)
  · skip
    refine lv_aload_n xE xB dX4_scanSemicolon_18 rfl (lv_at xL 0 rfl) ?_
    refine lv_iload_n xE xB dX4_scanSemicolon_19 rfl (lv_at xL 1 rfl) ?_
    refine lv_iconst (v := nI 2) xE xB dX4_scanSemicolon_20 (by decide) ?_
    refine q_VV (As := [.int (nI p), .int (nI 2)]) (rest := []) ⟨xE, xB, xM, xO, xT⟩ (kX4_setFault l G x len fp re row col wid ng dg vl g 6 6 f p 2) (cwV 2 xT gX4_scanSemicolon_X4_setFault rfl rfl rfl (by decide +kernel) ⟨Nat.le_of_ble_eq_true rfl, Nat.le_of_ble_eq_true rfl⟩) xK xP xD xS [0, 1, 2, 3] rfl (by decide +kernel) (fun _ => rfl) 0 rfl rfl rfl rfl xL.1 rfl (Nat.le_of_ble_eq_true rfl) dX4_scanSemicolon_21 ⟨Nat.le_refl _, Nat.le_refl _⟩ (fun u_21 H locs h_21 xP xD xS => ?_)
    have xP : va_P G.1 vwCl (wX G x (len, p, 2, row, col, wid, ng, dg, vl, g, (6, 6, f))) H := xP
    have xD : va_D A (wX G x (len, p, 2, row, col, wid, ng, dg, vl, g, (6, 6, f))) := xD
    exact xQ _ _ _ _ (p, 2, row, col, wid, ng, dg, vl, f) (by first | exact (if_pos (Or.inl c_8)).symm | exact (if_pos (Or.inr c_12)).symm) xP xD xS dX4_scanSemicolon_24
  · skip
    refine lv_aload_n xE xB dX4_scanSemicolon_11 rfl (lv_at xL 0 rfl) ?_
    refine q_VR (As := []) (rest := []) ⟨xE, xB, xM, xO, xT⟩ (kX4_rowIsShort l G x len fp re row col wid ng dg vl g 6 6 f (by omega) (by omega) (by omega)) (cwV 0 xT gX4_scanSemicolon_X4_rowIsShort rfl rfl rfl (by decide +kernel) ⟨Nat.le_of_ble_eq_true rfl, Nat.le_of_ble_eq_true rfl⟩) xK xP [0, 1, 2, 3] rfl 0 rfl rfl rfl rfl xL.1 rfl (Nat.le_of_ble_eq_true rfl) dX4_scanSemicolon_12 ⟨Nat.le_refl _, Nat.le_refl _⟩ (fun r_12 h_12 => ?_)
    rcases h_12 with ⟨h_12, c_12⟩ | ⟨h_12, c_12⟩
    · skip
      subst h_12
      have c_12 : 0 < row ∧ col + 1 < wid := c_12
      refine lv_if_eq (tgt := 25) xE xB dX4_scanSemicolon_15 (by decide) (fun h9 => absurd h9 (by decide)) (fun _ => ?_)
      refine lv_aload_n xE xB dX4_scanSemicolon_18 rfl (lv_at xL 0 rfl) ?_
      refine lv_iload_n xE xB dX4_scanSemicolon_19 rfl (lv_at xL 1 rfl) ?_
      refine lv_iconst (v := nI 2) xE xB dX4_scanSemicolon_20 (by decide) ?_
      refine q_VV (As := [.int (nI p), .int (nI 2)]) (rest := []) ⟨xE, xB, xM, xO, xT⟩ (kX4_setFault l G x len fp re row col wid ng dg vl g 6 6 f p 2) (cwV 2 xT gX4_scanSemicolon_X4_setFault rfl rfl rfl (by decide +kernel) ⟨Nat.le_of_ble_eq_true rfl, Nat.le_of_ble_eq_true rfl⟩) xK xP xD xS [0, 1, 2, 3] rfl (by decide +kernel) (fun _ => rfl) 0 rfl rfl rfl rfl xL.1 rfl (Nat.le_of_ble_eq_true rfl) dX4_scanSemicolon_21 ⟨Nat.le_refl _, Nat.le_refl _⟩ (fun u_21 H locs h_21 xP xD xS => ?_)
      have xP : va_P G.1 vwCl (wX G x (len, p, 2, row, col, wid, ng, dg, vl, g, (6, 6, f))) H := xP
      have xD : va_D A (wX G x (len, p, 2, row, col, wid, ng, dg, vl, g, (6, 6, f))) := xD
      exact xQ _ _ _ _ (p, 2, row, col, wid, ng, dg, vl, f) (by first | exact (if_pos (Or.inl c_8)).symm | exact (if_pos (Or.inr c_12)).symm) xP xD xS dX4_scanSemicolon_24
    · skip
      subst h_12
      have c_12 : ¬ (0 < row ∧ col + 1 < wid) := c_12
      refine lv_if_eq (tgt := 25) xE xB dX4_scanSemicolon_15 (by decide) (fun _ => ?_) (fun h9 => absurd (by decide) h9)
      refine lv_aload_n xE xB dX4_scanSemicolon_25 rfl (lv_at xL 0 rfl) ?_
      refine q_VV (As := []) (rest := []) ⟨xE, xB, xM, xO, xT⟩ (kX4_endEntry l G x len fp re row col wid ng dg vl g f (by omega) (by omega) (by omega)) (cwV 0 xT gX4_scanSemicolon_X4_endEntry rfl rfl rfl (by decide +kernel) ⟨Nat.le_of_ble_eq_true rfl, Nat.le_of_ble_eq_true rfl⟩) xK xP xD xS [0, 1, 2, 3] rfl (by decide +kernel) (fun _ => rfl) 0 rfl rfl rfl rfl xL.1 rfl (Nat.le_of_ble_eq_true rfl) dX4_scanSemicolon_26 ⟨Nat.le_refl _, Nat.le_refl _⟩ (fun u_26 H locs h_26 xP xD xS => ?_)
      have xP : va_P G.1 vwCl (wX G x (len, fp, re, row, col, wid, 0, 0, 0, g, (6, 6, upd f (6 * row + col) (sgnV ng vl)))) H := xP
      have xD : va_D A (wX G x (len, fp, re, row, col, wid, 0, 0, 0, g, (6, 6, upd f (6 * row + col) (sgnV ng vl)))) := xD
      refine lv_aload_n xE xB dX4_scanSemicolon_29 rfl (lv_at xL 0 rfl) ?_
      refine q_VV (As := []) (rest := []) ⟨xE, xB, xM, xO, xT⟩ (kX4_endRow l G x len fp re row col wid 0 0 0 g 6 6 (upd f (6 * row + col) (sgnV ng vl)) (by omega)) (cwV 0 xT gX4_scanSemicolon_X4_endRow rfl rfl rfl (by decide +kernel) ⟨Nat.le_of_ble_eq_true rfl, Nat.le_of_ble_eq_true rfl⟩) xK xP xD xS [0, 1, 2, 3] rfl (by decide +kernel) (fun _ => rfl) 0 rfl rfl rfl rfl xL.1 rfl (Nat.le_of_ble_eq_true rfl) dX4_scanSemicolon_30 ⟨Nat.le_refl _, Nat.le_refl _⟩ (fun u_30 H locs h_30 xP xD xS => ?_)
      have xP : va_P G.1 vwCl (wX G x (len, fp, re, row, col, if row = 0 then col + 1 else wid, 0, 0, 0, g, (6, 6, upd f (6 * row + col) (sgnV ng vl)))) H := xP
      have xD : va_D A (wX G x (len, fp, re, row, col, if row = 0 then col + 1 else wid, 0, 0, 0, g, (6, 6, upd f (6 * row + col) (sgnV ng vl)))) := xD
      refine lv_aload_n xE xB dX4_scanSemicolon_33 rfl (lv_at xL 0 rfl) ?_
      refine lv_dup xE xB dX4_scanSemicolon_34 rfl ?_
      refine va_get (D := G.1) (ci := 4) (v := .int (nI row)) (C := RX4) (T := TX4) (N := 11) xE xB xT khX4_scanSemicolon_X4 xO xK.1 xP 0 rfl rfl 5 (by decide) (xT _ kX4_scanSemicolon_f43) (fun _ h9 => h9) rfl dX4_scanSemicolon_35 ?_
      refine lv_iconst (v := nI 1) xE xB dX4_scanSemicolon_38 (by decide) ?_
      refine q_iadd xE xB dX4_scanSemicolon_39 ?_
      refine va_put (D := G.1) (ci := 4) (v := .int (nI (row + 1))) (ty := .int) (C := RX4) (T := TX4) (N := 11) xE xB xT khX4_scanSemicolon_X4 tyX4 tyX4_ok nmX4 xO xK.1 xP xD xS 0 rfl rfl 5 (by decide) (xT _ kX4_scanSemicolon_f43) (fun _ h9 => h9) rfl (by decide +kernel) rfl rfl (Nat.le_of_ble_eq_true rfl) dX4_scanSemicolon_40 (fun H locs xP xD xS => ?_)
      have xP : va_P G.1 vwCl (wX G x (len, fp, re, row + 1, col, if row = 0 then col + 1 else wid, 0, 0, 0, g, (6, 6, upd f (6 * row + col) (sgnV ng vl)))) H := xP
      have xD : va_D A (wX G x (len, fp, re, row + 1, col, if row = 0 then col + 1 else wid, 0, 0, 0, g, (6, 6, upd f (6 * row + col) (sgnV ng vl)))) := xD
      refine lv_aload_n xE xB dX4_scanSemicolon_43 rfl (lv_at xL 0 rfl) ?_
      refine lv_iconst (v := nI 0) xE xB dX4_scanSemicolon_44 (by decide) ?_
      refine va_put (D := G.1) (ci := 4) (v := .int (nI 0)) (ty := .int) (C := RX4) (T := TX4) (N := 11) xE xB xT khX4_scanSemicolon_X4 tyX4 tyX4_ok nmX4 xO xK.1 xP xD xS 0 rfl rfl 6 (by decide) (xT _ kX4_scanSemicolon_f46) (fun _ h9 => h9) rfl (by decide +kernel) rfl rfl (Nat.le_of_ble_eq_true rfl) dX4_scanSemicolon_45 (fun H locs xP xD xS => ?_)
      have xP : va_P G.1 vwCl (wX G x (len, fp, re, row + 1, 0, if row = 0 then col + 1 else wid, 0, 0, 0, g, (6, 6, upd f (6 * row + col) (sgnV ng vl)))) H := xP
      have xD : va_D A (wX G x (len, fp, re, row + 1, 0, if row = 0 then col + 1 else wid, 0, 0, 0, g, (6, 6, upd f (6 * row + col) (sgnV ng vl)))) := xD
      exact xQ _ _ _ _ (fp, re, row + 1, 0, (if row = 0 then col + 1 else wid), 0, 0, 0, upd f (6 * row + col) (sgnV ng vl)) (by exact (if_neg (by rintro (h | h) <;> first | omega | exact c_12 h)).symm) xP xD xS dX4_scanSemicolon_48
section STA
variable {p ch fp re row col wid ng dg vl : Nat} {f : wF}
theorem stA_1 (h : 48 ≤ ch ∧ ch ≤ 57 ∧ dg < 2) : stepA p ch (fp, re, row, col, wid, ng, dg, vl, f) = (fp, re, row, col, wid, ng, dg + 1, vl * 10 + (ch - 48), f) := if_pos h
theorem stA_2 (h1 : ¬ (48 ≤ ch ∧ ch ≤ 57 ∧ dg < 2)) (h : ch = 45 ∧ dg = 0 ∧ ng = 0) : stepA p ch (fp, re, row, col, wid, ng, dg, vl, f) = (fp, re, row, col, wid, 1, dg, vl, f) := (if_neg h1).trans (if_pos h)
theorem stA_3 (h1 : ¬ (48 ≤ ch ∧ ch ≤ 57 ∧ dg < 2)) (h2 : ¬ (ch = 45 ∧ dg = 0 ∧ ng = 0)) (h : ch = 44 ∧ 0 < dg) : stepA p ch (fp, re, row, col, wid, ng, dg, vl, f) = commaA p (fp, re, row, col, wid, ng, dg, vl, f) := (if_neg h1).trans ((if_neg h2).trans (if_pos h))
theorem stA_4 (h1 : ¬ (48 ≤ ch ∧ ch ≤ 57 ∧ dg < 2)) (h2 : ¬ (ch = 45 ∧ dg = 0 ∧ ng = 0)) (h3 : ¬ (ch = 44 ∧ 0 < dg)) (h : ch = 59 ∧ 0 < dg) : stepA p ch (fp, re, row, col, wid, ng, dg, vl, f) = semiA p (fp, re, row, col, wid, ng, dg, vl, f) := (if_neg h1).trans ((if_neg h2).trans ((if_neg h3).trans (if_pos h)))
theorem stA_5 (h1 : ¬ (48 ≤ ch ∧ ch ≤ 57 ∧ dg < 2)) (h2 : ¬ (ch = 45 ∧ dg = 0 ∧ ng = 0)) (h3 : ¬ (ch = 44 ∧ 0 < dg)) (h4 : ¬ (ch = 59 ∧ 0 < dg)) : stepA p ch (fp, re, row, col, wid, ng, dg, vl, f) = (p, 1, row, col, wid, ng, dg, vl, f) := (if_neg h1).trans ((if_neg h2).trans ((if_neg h3).trans (if_neg h4)))
end STA

theorem kX4_scanSign_f55 : Cond.fieldLink RX4 55 "SkewedSquare$Text" "negative" "Z" ∈ wsX4_scanSign := by decide +kernel
theorem kX4_scanSign_f59 : Cond.fieldLink RX4 59 "SkewedSquare$Text" "digits" "I" ∈ wsX4_scanSign := by decide +kernel
theorem kX4_scanSign_f62 : Cond.fieldLink RX4 62 "SkewedSquare$Text" "value" "I" ∈ wsX4_scanSign := by decide +kernel
theorem khX4_scanSign_X4 : ∀ w ∈ u_ws RX4 TX4 11, w ∈ wsX4_scanSign := by decide +kernel
set_option maxHeartbeats 4000000 in
set_option maxRecDepth 100000 in
/-- kX4_scanSign -/
theorem kX4_scanSign (l : Launch) (G : wG) (x : XA) (len fp re row col wid ng dg vl : Nat) (g f : wF) (p ch : Nat) (h1 : row < 6) (h2 : col < wid) (h3 : wid ≤ 6) (h4 : ng ≤ 1) (hch : ch < 65536) (hdg : dg ≤ 2) : CV (S := AS) l yX4_scanSign wsX4_scanSign (rm 4 86) G [.ref x.1, .int (nI p), .int (nI ch)] (wX G x (len, fp, re, row, col, wid, ng, dg, vl, g, (6, 6, f))) (fun u9 => u9 = stepA p ch (fp, re, row, col, wid, ng, dg, vl, f)) (fun u9 => wX G x (len, u9.1, u9.2.1, u9.2.2.1, u9.2.2.2.1, u9.2.2.2.2.1, u9.2.2.2.2.2.1, u9.2.2.2.2.2.2.1, u9.2.2.2.2.2.2.2.1, g, (6, 6, u9.2.2.2.2.2.2.2.2))) := by
  refine CV.of (own := RX4) rfl (by decide) rfl (Nat.le_of_ble_eq_true rfl) ?_
  intro p9 e9 s9 m9 b9 t9 c9 A xE xB xM xO xT xK xP xD Q xQ xS ls hl
  have xL : lv_has ls 3 [(0, .ref x.1), (1, .int (nI p)), (2, .int (nI ch))] := hl
  have J_49 : (¬ (48 ≤ ch ∧ ch ≤ 57 ∧ dg < 2)) → ∀ (H : Heap) (locs : List Loc), va_P G.1 vwCl (wX G x (len, fp, re, row, col, wid, ng, dg, vl, g, (6, 6, f))) H → va_D A (wX G x (len, fp, re, row, col, wid, ng, dg, vl, g, (6, 6, f))) → va_S A s9.heap H locs → ∀ (ls : Array Slot), lv_has ls 3 [(0, .ref x.1), (1, .int (nI p)), (2, .int (nI ch))] → W p9 l e9 (rm 4 86) s9 m9 ([.ref x.1, .int (nI p), .int (nI ch)] : List Value).toArray b9 t9 c9 H locs 0 0 Q (F0 m9 49 ls []) := by
    intro h49 H locs xP xD xS ls xL
    have J_77 : (¬ (ch = 45 ∧ dg = 0 ∧ ng = 0)) → ∀ (H : Heap) (locs : List Loc), va_P G.1 vwCl (wX G x (len, fp, re, row, col, wid, ng, dg, vl, g, (6, 6, f))) H → va_D A (wX G x (len, fp, re, row, col, wid, ng, dg, vl, g, (6, 6, f))) → va_S A s9.heap H locs → ∀ (ls : Array Slot), lv_has ls 3 [(0, .ref x.1), (1, .int (nI p)), (2, .int (nI ch))] → W p9 l e9 (rm 4 86) s9 m9 ([.ref x.1, .int (nI p), .int (nI ch)] : List Value).toArray b9 t9 c9 H locs 0 0 Q (F0 m9 77 ls []) := by
      intro h77 H locs xP xD xS ls xL
      have J_98 : (¬ (ch = 44 ∧ 0 < dg)) → ∀ (H : Heap) (locs : List Loc), va_P G.1 vwCl (wX G x (len, fp, re, row, col, wid, ng, dg, vl, g, (6, 6, f))) H → va_D A (wX G x (len, fp, re, row, col, wid, ng, dg, vl, g, (6, 6, f))) → va_S A s9.heap H locs → ∀ (ls : Array Slot), lv_has ls 3 [(0, .ref x.1), (1, .int (nI p)), (2, .int (nI ch))] → W p9 l e9 (rm 4 86) s9 m9 ([.ref x.1, .int (nI p), .int (nI ch)] : List Value).toArray b9 t9 c9 H locs 0 0 Q (F0 m9 98 ls []) := by
        intro h98 H locs xP xD xS ls xL
        have J_119 : (¬ (ch = 59 ∧ 0 < dg)) → ∀ (H : Heap) (locs : List Loc), va_P G.1 vwCl (wX G x (len, fp, re, row, col, wid, ng, dg, vl, g, (6, 6, f))) H → va_D A (wX G x (len, fp, re, row, col, wid, ng, dg, vl, g, (6, 6, f))) → va_S A s9.heap H locs → ∀ (ls : Array Slot), lv_has ls 3 [(0, .ref x.1), (1, .int (nI p)), (2, .int (nI ch))] → W p9 l e9 (rm 4 86) s9 m9 ([.ref x.1, .int (nI p), .int (nI ch)] : List Value).toArray b9 t9 c9 H locs 0 0 Q (F0 m9 119 ls []) := by
          intro h119 H locs xP xD xS ls xL
          refine lv_aload_n xE xB dX4_scanSign_119 rfl (lv_at xL 0 rfl) ?_
          refine lv_iload_n xE xB dX4_scanSign_120 rfl (lv_at xL 1 rfl) ?_
          refine lv_iconst (v := nI 1) xE xB dX4_scanSign_121 (by decide) ?_
          refine q_VV (As := [.int (nI p), .int (nI 1)]) (rest := []) ⟨xE, xB, xM, xO, xT⟩ (kX4_setFault l G x len fp re row col wid ng dg vl g 6 6 f p 1) (cwV 2 xT gX4_scanSign_X4_setFault rfl rfl rfl (by decide +kernel) ⟨Nat.le_of_ble_eq_true rfl, Nat.le_of_ble_eq_true rfl⟩) xK xP xD xS [0, 1, 2, 3] rfl (by decide +kernel) (fun _ => rfl) 0 rfl rfl rfl rfl xL.1 rfl (Nat.le_of_ble_eq_true rfl) dX4_scanSign_122 ⟨Nat.le_refl _, Nat.le_refl _⟩ (fun u_122 H locs h_122 xP xD xS => ?_)
          have xP : va_P G.1 vwCl (wX G x (len, p, 1, row, col, wid, ng, dg, vl, g, (6, 6, f))) H := xP
          have xD : va_D A (wX G x (len, p, 1, row, col, wid, ng, dg, vl, g, (6, 6, f))) := xD
          exact xQ _ _ _ _ (p, 1, row, col, wid, ng, dg, vl, f) (by exact (stA_5 h49 h77 h98 h119).symm) xP xD xS dX4_scanSign_125
        refine lv_iload_n xE xB dX4_scanSign_98 rfl (lv_at xL 2 rfl) ?_
        refine lv_bipush (v := nI 59) xE xB dX4_scanSign_99 (by decide) ?_
        refine q_icmp_ne (tgt := 119) xE xB dX4_scanSign_101 (by decide) (by omega) (by omega) (fun c_101 => ?_) (fun c_101 => ?_)
        · skip
          exact J_119 (by omega) _ _ xP xD xS _ (lv_sub xL [0, 1, 2] rfl)
        · skip
          refine lv_aload_n xE xB dX4_scanSign_104 rfl (lv_at xL 0 rfl) ?_
          refine va_get (D := G.1) (ci := 4) (v := .int (nI dg)) (C := RX4) (T := TX4) (N := 11) xE xB xT khX4_scanSign_X4 xO xK.1 xP 0 rfl rfl 9 (by decide) (xT _ kX4_scanSign_f59) (fun _ h9 => h9) rfl dX4_scanSign_105 ?_
          refine q_if_le (tgt := 119) xE xB dX4_scanSign_108 (by decide) (by omega) (fun c_108 => ?_) (fun c_108 => ?_)
          · skip
            exact J_119 (by omega) _ _ xP xD xS _ (lv_sub xL [0, 1, 2] rfl)
          · skip
            refine lv_aload_n xE xB dX4_scanSign_111 rfl (lv_at xL 0 rfl) ?_
            refine lv_iload_n xE xB dX4_scanSign_112 rfl (lv_at xL 1 rfl) ?_
            refine q_VV (As := [.int (nI p)]) (rest := []) ⟨xE, xB, xM, xO, xT⟩ (kX4_scanSemicolon l G x len fp re row col wid ng dg vl g f p (by omega) (by omega) (by omega) (by omega)) (cwV 1 xT gX4_scanSign_X4_scanSemicolon rfl rfl rfl (by decide +kernel) ⟨Nat.le_of_ble_eq_true rfl, Nat.le_of_ble_eq_true rfl⟩) xK xP xD xS [0, 1, 2, 3] rfl (by decide +kernel) (fun _ => rfl) 0 rfl rfl rfl rfl xL.1 rfl (Nat.le_of_ble_eq_true rfl) dX4_scanSign_113 ⟨Nat.le_refl _, Nat.le_refl _⟩ (fun u_113 H locs h_113 xP xD xS => ?_)
            have xP : va_P G.1 vwCl (wX G x (len, u_113.1, u_113.2.1, u_113.2.2.1, u_113.2.2.2.1, u_113.2.2.2.2.1, u_113.2.2.2.2.2.1, u_113.2.2.2.2.2.2.1, u_113.2.2.2.2.2.2.2.1, g, (6, 6, u_113.2.2.2.2.2.2.2.2))) H := xP
            have xD : va_D A (wX G x (len, u_113.1, u_113.2.1, u_113.2.2.1, u_113.2.2.2.1, u_113.2.2.2.2.1, u_113.2.2.2.2.2.1, u_113.2.2.2.2.2.2.1, u_113.2.2.2.2.2.2.2.1, g, (6, 6, u_113.2.2.2.2.2.2.2.2))) := xD
            have h_113 : u_113 = semiA p (fp, re, row, col, wid, ng, dg, vl, f) := h_113
            refine lv_goto (tgt := 125) xE xB dX4_scanSign_116 (by decide) ?_
            exact xQ _ _ _ _ u_113 (by exact h_113.trans (stA_4 h49 h77 h98 (by omega)).symm) xP xD xS dX4_scanSign_125
      refine lv_iload_n xE xB dX4_scanSign_77 rfl (lv_at xL 2 rfl) ?_
      refine lv_bipush (v := nI 44) xE xB dX4_scanSign_78 (by decide) ?_
      refine q_icmp_ne (tgt := 98) xE xB dX4_scanSign_80 (by decide) (by omega) (by omega) (fun c_80 => ?_) (fun c_80 => ?_)
      · skip
        exact J_98 (by omega) _ _ xP xD xS _ (lv_sub xL [0, 1, 2] rfl)
      · skip
        refine lv_aload_n xE xB dX4_scanSign_83 rfl (lv_at xL 0 rfl) ?_
        refine va_get (D := G.1) (ci := 4) (v := .int (nI dg)) (C := RX4) (T := TX4) (N := 11) xE xB xT khX4_scanSign_X4 xO xK.1 xP 0 rfl rfl 9 (by decide) (xT _ kX4_scanSign_f59) (fun _ h9 => h9) rfl dX4_scanSign_84 ?_
        refine q_if_le (tgt := 98) xE xB dX4_scanSign_87 (by decide) (by omega) (fun c_87 => ?_) (fun c_87 => ?_)
        · skip
          exact J_98 (by omega) _ _ xP xD xS _ (lv_sub xL [0, 1, 2] rfl)
        · skip
          refine lv_aload_n xE xB dX4_scanSign_90 rfl (lv_at xL 0 rfl) ?_
          refine lv_iload_n xE xB dX4_scanSign_91 rfl (lv_at xL 1 rfl) ?_
          refine q_VV (As := [.int (nI p)]) (rest := []) ⟨xE, xB, xM, xO, xT⟩ (kX4_scanComma l G x len fp re row col wid ng dg vl g f p (by omega) (by omega) (by omega) (by omega)) (cwV 1 xT gX4_scanSign_X4_scanComma rfl rfl rfl (by decide +kernel) ⟨Nat.le_of_ble_eq_true rfl, Nat.le_of_ble_eq_true rfl⟩) xK xP xD xS [0, 1, 2, 3] rfl (by decide +kernel) (fun _ => rfl) 0 rfl rfl rfl rfl xL.1 rfl (Nat.le_of_ble_eq_true rfl) dX4_scanSign_92 ⟨Nat.le_refl _, Nat.le_refl _⟩ (fun u_92 H locs h_92 xP xD xS => ?_)
          have xP : va_P G.1 vwCl (wX G x (len, u_92.1, u_92.2.1, u_92.2.2.1, u_92.2.2.2.1, u_92.2.2.2.2.1, u_92.2.2.2.2.2.1, u_92.2.2.2.2.2.2.1, u_92.2.2.2.2.2.2.2.1, g, (6, 6, u_92.2.2.2.2.2.2.2.2))) H := xP
          have xD : va_D A (wX G x (len, u_92.1, u_92.2.1, u_92.2.2.1, u_92.2.2.2.1, u_92.2.2.2.2.1, u_92.2.2.2.2.2.1, u_92.2.2.2.2.2.2.1, u_92.2.2.2.2.2.2.2.1, g, (6, 6, u_92.2.2.2.2.2.2.2.2))) := xD
          have h_92 : u_92 = commaA p (fp, re, row, col, wid, ng, dg, vl, f) := h_92
          refine lv_goto (tgt := 125) xE xB dX4_scanSign_95 (by decide) ?_
          exact xQ _ _ _ _ u_92 (by exact h_92.trans (stA_3 h49 h77 (by omega)).symm) xP xD xS dX4_scanSign_125
    refine lv_iload_n xE xB dX4_scanSign_49 rfl (lv_at xL 2 rfl) ?_
    refine lv_bipush (v := nI 45) xE xB dX4_scanSign_50 (by decide) ?_
    refine q_icmp_ne (tgt := 77) xE xB dX4_scanSign_52 (by decide) (by omega) (by omega) (fun c_52 => ?_) (fun c_52 => ?_)
    · skip
      exact J_77 (by omega) _ _ xP xD xS _ (lv_sub xL [0, 1, 2] rfl)
    · skip
      refine lv_aload_n xE xB dX4_scanSign_55 rfl (lv_at xL 0 rfl) ?_
      refine va_get (D := G.1) (ci := 4) (v := .int (nI dg)) (C := RX4) (T := TX4) (N := 11) xE xB xT khX4_scanSign_X4 xO xK.1 xP 0 rfl rfl 9 (by decide) (xT _ kX4_scanSign_f59) (fun _ h9 => h9) rfl dX4_scanSign_56 ?_
      refine q_if_ne (tgt := 77) xE xB dX4_scanSign_59 (by decide) (by omega) (fun c_59 => ?_) (fun c_59 => ?_)
      · skip
        exact J_77 (by omega) _ _ xP xD xS _ (lv_sub xL [0, 1, 2] rfl)
      · skip
        refine lv_aload_n xE xB dX4_scanSign_62 rfl (lv_at xL 0 rfl) ?_
        refine va_get (D := G.1) (ci := 4) (v := .int (nI ng)) (C := RX4) (T := TX4) (N := 11) xE xB xT khX4_scanSign_X4 xO xK.1 xP 0 rfl rfl 8 (by decide) (xT _ kX4_scanSign_f55) (fun _ h9 => h9) rfl dX4_scanSign_63 ?_
        refine q_if_ne (tgt := 77) xE xB dX4_scanSign_66 (by decide) (by omega) (fun c_66 => ?_) (fun c_66 => ?_)
        · skip
          exact J_77 (by omega) _ _ xP xD xS _ (lv_sub xL [0, 1, 2] rfl)
        · skip
          refine lv_aload_n xE xB dX4_scanSign_69 rfl (lv_at xL 0 rfl) ?_
          refine lv_iconst (v := nI 1) xE xB dX4_scanSign_70 (by decide) ?_
          refine va_put (D := G.1) (ci := 4) (v := .int (nI 1)) (ty := .boolean) (C := RX4) (T := TX4) (N := 11) xE xB xT khX4_scanSign_X4 tyX4 tyX4_ok nmX4 xO xK.1 xP xD xS 0 rfl rfl 8 (by decide) (xT _ kX4_scanSign_f55) (fun _ h9 => h9) rfl (by decide +kernel) (by decide) (by decide) (Nat.le_of_ble_eq_true rfl) dX4_scanSign_71 (fun H locs xP xD xS => ?_)
          have xP : va_P G.1 vwCl (wX G x (len, fp, re, row, col, wid, 1, dg, vl, g, (6, 6, f))) H := xP
          have xD : va_D A (wX G x (len, fp, re, row, col, wid, 1, dg, vl, g, (6, 6, f))) := xD
          refine lv_goto (tgt := 125) xE xB dX4_scanSign_74 (by decide) ?_
          exact xQ _ _ _ _ (fp, re, row, col, wid, 1, dg, vl, f) (by exact (stA_2 h49 (by omega)).symm) xP xD xS dX4_scanSign_125
  refine lv_iload_n xE xB dX4_scanSign_0 rfl (lv_at xL 2 rfl) ?_
  refine lv_bipush (v := nI 48) xE xB dX4_scanSign_1 (by decide) ?_
  refine q_icmp_lt (tgt := 49) xE xB dX4_scanSign_3 (by decide) (by omega) (by omega) (fun c_3 => ?_) (fun c_3 => ?_)
  · skip
    exact J_49 (by omega) _ _ xP xD xS _ (lv_sub xL [0, 1, 2] rfl)
  · skip
    refine lv_iload_n xE xB dX4_scanSign_6 rfl (lv_at xL 2 rfl) ?_
    refine lv_bipush (v := nI 57) xE xB dX4_scanSign_7 (by decide) ?_
    refine q_icmp_gt (tgt := 49) xE xB dX4_scanSign_9 (by decide) (by omega) (by omega) (fun c_9 => ?_) (fun c_9 => ?_)
    · skip
      exact J_49 (by omega) _ _ xP xD xS _ (lv_sub xL [0, 1, 2] rfl)
    · skip
      refine lv_aload_n xE xB dX4_scanSign_12 rfl (lv_at xL 0 rfl) ?_
      refine va_get (D := G.1) (ci := 4) (v := .int (nI dg)) (C := RX4) (T := TX4) (N := 11) xE xB xT khX4_scanSign_X4 xO xK.1 xP 0 rfl rfl 9 (by decide) (xT _ kX4_scanSign_f59) (fun _ h9 => h9) rfl dX4_scanSign_13 ?_
      refine lv_iconst (v := nI 2) xE xB dX4_scanSign_16 (by decide) ?_
      refine q_icmp_ge (tgt := 49) xE xB dX4_scanSign_17 (by decide) (by omega) (by omega) (fun c_17 => ?_) (fun c_17 => ?_)
      · skip
        exact J_49 (by omega) _ _ xP xD xS _ (lv_sub xL [0, 1, 2] rfl)
      · skip
        refine lv_aload_n xE xB dX4_scanSign_20 rfl (lv_at xL 0 rfl) ?_
        refine lv_aload_n xE xB dX4_scanSign_21 rfl (lv_at xL 0 rfl) ?_
        refine va_get (D := G.1) (ci := 4) (v := .int (nI vl)) (C := RX4) (T := TX4) (N := 11) xE xB xT khX4_scanSign_X4 xO xK.1 xP 0 rfl rfl 10 (by decide) (xT _ kX4_scanSign_f62) (fun _ h9 => h9) rfl dX4_scanSign_22 ?_
        refine lv_bipush (v := nI 10) xE xB dX4_scanSign_25 (by decide) ?_
        refine q_imul xE xB dX4_scanSign_27 ?_
        refine lv_iload_n xE xB dX4_scanSign_28 rfl (lv_at xL 2 rfl) ?_
        refine lv_bipush (v := nI 48) xE xB dX4_scanSign_29 (by decide) ?_
        refine q_isub xE xB dX4_scanSign_31 (by omega) ?_
        refine q_iadd xE xB dX4_scanSign_32 ?_
        refine va_put (D := G.1) (ci := 4) (v := .int (nI ((vl * 10) + (ch - 48)))) (ty := .int) (C := RX4) (T := TX4) (N := 11) xE xB xT khX4_scanSign_X4 tyX4 tyX4_ok nmX4 xO xK.1 xP xD xS 0 rfl rfl 10 (by decide) (xT _ kX4_scanSign_f62) (fun _ h9 => h9) rfl (by decide +kernel) rfl rfl (Nat.le_of_ble_eq_true rfl) dX4_scanSign_33 (fun H locs xP xD xS => ?_)
        have xP : va_P G.1 vwCl (wX G x (len, fp, re, row, col, wid, ng, dg, (vl * 10) + (ch - 48), g, (6, 6, f))) H := xP
        have xD : va_D A (wX G x (len, fp, re, row, col, wid, ng, dg, (vl * 10) + (ch - 48), g, (6, 6, f))) := xD
        refine lv_aload_n xE xB dX4_scanSign_36 rfl (lv_at xL 0 rfl) ?_
        refine lv_dup xE xB dX4_scanSign_37 rfl ?_
        refine va_get (D := G.1) (ci := 4) (v := .int (nI dg)) (C := RX4) (T := TX4) (N := 11) xE xB xT khX4_scanSign_X4 xO xK.1 xP 0 rfl rfl 9 (by decide) (xT _ kX4_scanSign_f59) (fun _ h9 => h9) rfl dX4_scanSign_38 ?_
        refine lv_iconst (v := nI 1) xE xB dX4_scanSign_41 (by decide) ?_
        refine q_iadd xE xB dX4_scanSign_42 ?_
        refine va_put (D := G.1) (ci := 4) (v := .int (nI (dg + 1))) (ty := .int) (C := RX4) (T := TX4) (N := 11) xE xB xT khX4_scanSign_X4 tyX4 tyX4_ok nmX4 xO xK.1 xP xD xS 0 rfl rfl 9 (by decide) (xT _ kX4_scanSign_f59) (fun _ h9 => h9) rfl (by decide +kernel) rfl rfl (Nat.le_of_ble_eq_true rfl) dX4_scanSign_43 (fun H locs xP xD xS => ?_)
        have xP : va_P G.1 vwCl (wX G x (len, fp, re, row, col, wid, ng, dg + 1, (vl * 10) + (ch - 48), g, (6, 6, f))) H := xP
        have xD : va_D A (wX G x (len, fp, re, row, col, wid, ng, dg + 1, (vl * 10) + (ch - 48), g, (6, 6, f))) := xD
        refine lv_goto (tgt := 125) xE xB dX4_scanSign_46 (by decide) ?_
        exact xQ _ _ _ _ (fp, re, row, col, wid, ng, dg + 1, (vl * 10) + (ch - 48), f) (by exact (stA_1 (by omega)).symm) xP xD xS dX4_scanSign_125
theorem kX4_finishScan_f18 : Cond.fieldLink RX4 18 "SkewedSquare$Text" "matrix" "LSkewedSquare$Matrix;" ∈ wsX4_finishScan := by decide +kernel
theorem kX4_finishScan_f22 : Cond.fieldLink RX4 22 "SkewedSquare$Text" "length" "I" ∈ wsX4_finishScan := by decide +kernel
theorem kX4_finishScan_f43 : Cond.fieldLink RX4 43 "SkewedSquare$Text" "row" "I" ∈ wsX4_finishScan := by decide +kernel
theorem kX4_finishScan_f49 : Cond.fieldLink RX4 49 "SkewedSquare$Text" "width" "I" ∈ wsX4_finishScan := by decide +kernel
theorem kX4_finishScan_f59 : Cond.fieldLink RX4 59 "SkewedSquare$Text" "digits" "I" ∈ wsX4_finishScan := by decide +kernel
theorem kX4_finishScan_f86 : Cond.fieldLink RX4 86 "SkewedSquare$Matrix" "rows" "I" ∈ wsX4_finishScan := by decide +kernel
theorem kX4_finishScan_f89 : Cond.fieldLink RX4 89 "SkewedSquare$Matrix" "columns" "I" ∈ wsX4_finishScan := by decide +kernel
theorem khX4_finishScan_X1 : ∀ w ∈ u_ws RX1 TX1 3, w ∈ wsX4_finishScan := by decide +kernel
theorem khX4_finishScan_X4 : ∀ w ∈ u_ws RX4 TX4 11, w ∈ wsX4_finishScan := by decide +kernel
set_option maxHeartbeats 4000000 in
set_option maxRecDepth 100000 in
/-- kX4_finishScan -/
theorem kX4_finishScan (l : Launch) (G : wG) (x : XA) (len fp re row col wid ng dg vl : Nat) (g f : wF) (h1 : row < 6) (h2 : col < wid) (h3 : wid ≤ 6) (h4 : ng ≤ 1) (hdg : dg ≤ 2) : CV (S := AS × Nat × Nat) l yX4_finishScan wsX4_finishScan (rm 3 65) G [.ref x.1] (wX G x (len, fp, re, row, col, wid, ng, dg, vl, g, (6, 6, f))) (fun u9 => u9 = finA len (fp, re, row, col, wid, ng, dg, vl, f)) (fun u9 => wX G x (len, u9.1.1, u9.1.2.1, u9.1.2.2.1, u9.1.2.2.2.1, u9.1.2.2.2.2.1, u9.1.2.2.2.2.2.1, u9.1.2.2.2.2.2.2.1, u9.1.2.2.2.2.2.2.2.1, g, (u9.2.1, u9.2.2, u9.1.2.2.2.2.2.2.2.2))) := by
  refine CV.of (own := RX4) rfl (by decide) rfl (Nat.le_of_ble_eq_true rfl) ?_
  intro p9 e9 s9 m9 b9 t9 c9 A xE xB xM xO xT xK xP xD Q xQ xS ls hl
  have xL : lv_has ls 1 [(0, .ref x.1)] := hl
  refine lv_aload_n xE xB dX4_finishScan_0 rfl (lv_at xL 0 rfl) ?_
  refine va_get (D := G.1) (ci := 4) (v := .int (nI dg)) (C := RX4) (T := TX4) (N := 11) xE xB xT khX4_finishScan_X4 xO xK.1 xP 0 rfl rfl 9 (by decide) (xT _ kX4_finishScan_f59) (fun _ h9 => h9) rfl dX4_finishScan_1 ?_
  refine q_if_ne (tgt := 19) xE xB dX4_finishScan_4 (by decide) (by omega) (fun c_4 => ?_) (fun c_4 => ?_)
  · skip
    refine lv_aload_n xE xB dX4_finishScan_19 rfl (lv_at xL 0 rfl) ?_
    refine q_VR (As := []) (rest := []) ⟨xE, xB, xM, xO, xT⟩ (kX4_rowIsShort l G x len fp re row col wid ng dg vl g 6 6 f (by omega) (by omega) (by omega)) (cwV 0 xT gX4_finishScan_X4_rowIsShort rfl rfl rfl (by decide +kernel) ⟨Nat.le_of_ble_eq_true rfl, Nat.le_of_ble_eq_true rfl⟩) xK xP [0, 1, 2, 3] rfl 0 rfl rfl rfl rfl xL.1 rfl (Nat.le_of_ble_eq_true rfl) dX4_finishScan_20 ⟨Nat.le_refl _, Nat.le_refl _⟩ (fun r_20 h_20 => ?_)
    rcases h_20 with ⟨h_20, c_20⟩ | ⟨h_20, c_20⟩
    · skip
      subst h_20
      have c_20 : 0 < row ∧ col + 1 < wid := c_20
      refine lv_if_eq (tgt := 38) xE xB dX4_finishScan_23 (by decide) (fun h9 => absurd h9 (by decide)) (fun _ => ?_)
      refine lv_aload_n xE xB dX4_finishScan_26 rfl (lv_at xL 0 rfl) ?_
      refine lv_aload_n xE xB dX4_finishScan_27 rfl (lv_at xL 0 rfl) ?_
      refine va_get (D := G.1) (ci := 4) (v := .int (nI len)) (C := RX4) (T := TX4) (N := 11) xE xB xT khX4_finishScan_X4 xO xK.1 xP 0 rfl rfl 1 (by decide) (xT _ kX4_finishScan_f22) (fun _ h9 => h9) rfl dX4_finishScan_28 ?_
      refine lv_iconst (v := nI 2) xE xB dX4_finishScan_31 (by decide) ?_
      refine q_VV (As := [.int (nI len), .int (nI 2)]) (rest := []) ⟨xE, xB, xM, xO, xT⟩ (kX4_setFault l G x len fp re row col wid ng dg vl g 6 6 f len 2) (cwV 2 xT gX4_finishScan_X4_setFault rfl rfl rfl (by decide +kernel) ⟨Nat.le_of_ble_eq_true rfl, Nat.le_of_ble_eq_true rfl⟩) xK xP xD xS [0, 1, 2, 3] rfl (by decide +kernel) (fun _ => rfl) 0 rfl rfl rfl rfl xL.1 rfl (Nat.le_of_ble_eq_true rfl) dX4_finishScan_32 ⟨Nat.le_refl _, Nat.le_refl _⟩ (fun u_32 H locs h_32 xP xD xS => ?_)
      have xP : va_P G.1 vwCl (wX G x (len, len, 2, row, col, wid, ng, dg, vl, g, (6, 6, f))) H := xP
      have xD : va_D A (wX G x (len, len, 2, row, col, wid, ng, dg, vl, g, (6, 6, f))) := xD
      refine lv_goto (tgt := 70) xE xB dX4_finishScan_35 (by decide) ?_
      exact xQ _ _ _ _ ((len, 2, row, col, wid, ng, dg, vl, f), 6, 6) (by exact ((if_neg (Nat.ne_of_gt c_4)).trans (if_pos c_20)).symm) xP xD xS dX4_finishScan_70
    · skip
      subst h_20
      have c_20 : ¬ (0 < row ∧ col + 1 < wid) := c_20
      refine lv_if_eq (tgt := 38) xE xB dX4_finishScan_23 (by decide) (fun _ => ?_) (fun h9 => absurd (by decide) h9)
      refine lv_aload_n xE xB dX4_finishScan_38 rfl (lv_at xL 0 rfl) ?_
      refine q_VV (As := []) (rest := []) ⟨xE, xB, xM, xO, xT⟩ (kX4_endEntry l G x len fp re row col wid ng dg vl g f (by omega) (by omega) (by omega)) (cwV 0 xT gX4_finishScan_X4_endEntry rfl rfl rfl (by decide +kernel) ⟨Nat.le_of_ble_eq_true rfl, Nat.le_of_ble_eq_true rfl⟩) xK xP xD xS [0, 1, 2, 3] rfl (by decide +kernel) (fun _ => rfl) 0 rfl rfl rfl rfl xL.1 rfl (Nat.le_of_ble_eq_true rfl) dX4_finishScan_39 ⟨Nat.le_refl _, Nat.le_refl _⟩ (fun u_39 H locs h_39 xP xD xS => ?_)
      have xP : va_P G.1 vwCl (wX G x (len, fp, re, row, col, wid, 0, 0, 0, g, (6, 6, upd f (6 * row + col) (sgnV ng vl)))) H := xP
      have xD : va_D A (wX G x (len, fp, re, row, col, wid, 0, 0, 0, g, (6, 6, upd f (6 * row + col) (sgnV ng vl)))) := xD
      refine lv_aload_n xE xB dX4_finishScan_42 rfl (lv_at xL 0 rfl) ?_
      refine q_VV (As := []) (rest := []) ⟨xE, xB, xM, xO, xT⟩ (kX4_endRow l G x len fp re row col wid 0 0 0 g 6 6 (upd f (6 * row + col) (sgnV ng vl)) (by omega)) (cwV 0 xT gX4_finishScan_X4_endRow rfl rfl rfl (by decide +kernel) ⟨Nat.le_of_ble_eq_true rfl, Nat.le_of_ble_eq_true rfl⟩) xK xP xD xS [0, 1, 2, 3] rfl (by decide +kernel) (fun _ => rfl) 0 rfl rfl rfl rfl xL.1 rfl (Nat.le_of_ble_eq_true rfl) dX4_finishScan_43 ⟨Nat.le_refl _, Nat.le_refl _⟩ (fun u_43 H locs h_43 xP xD xS => ?_)
      have xP : va_P G.1 vwCl (wX G x (len, fp, re, row, col, if row = 0 then col + 1 else wid, 0, 0, 0, g, (6, 6, upd f (6 * row + col) (sgnV ng vl)))) H := xP
      have xD : va_D A (wX G x (len, fp, re, row, col, if row = 0 then col + 1 else wid, 0, 0, 0, g, (6, 6, upd f (6 * row + col) (sgnV ng vl)))) := xD
      refine lv_aload_n xE xB dX4_finishScan_46 rfl (lv_at xL 0 rfl) ?_
      refine va_get (D := G.1) (ci := 4) (v := .ref x.2.2.1) (C := RX4) (T := TX4) (N := 11) xE xB xT khX4_finishScan_X4 xO xK.1 xP 0 rfl rfl 2 (by decide) (xT _ kX4_finishScan_f18) (fun _ h9 => h9) rfl dX4_finishScan_47 ?_
      refine lv_aload_n xE xB dX4_finishScan_50 rfl (lv_at xL 0 rfl) ?_
      refine va_get (D := G.1) (ci := 4) (v := .int (nI row)) (C := RX4) (T := TX4) (N := 11) xE xB xT khX4_finishScan_X4 xO xK.1 xP 0 rfl rfl 5 (by decide) (xT _ kX4_finishScan_f43) (fun _ h9 => h9) rfl dX4_finishScan_51 ?_
      refine lv_iconst (v := nI 1) xE xB dX4_finishScan_54 (by decide) ?_
      refine q_iadd xE xB dX4_finishScan_55 ?_
      refine va_put (D := G.1) (ci := 1) (v := .int (nI (row + 1))) (ty := .int) (C := RX1) (T := TX1) (N := 3) xE xB xT khX4_finishScan_X1 tyX1 tyX1_ok nmX1 xO xK.1 xP xD xS 2 rfl rfl 0 (by decide) (xT _ kX4_finishScan_f86) (fun _ h9 => h9) rfl (by decide +kernel) rfl rfl (Nat.le_of_ble_eq_true rfl) dX4_finishScan_56 (fun H locs xP xD xS => ?_)
      have xP : va_P G.1 vwCl (wX G x (len, fp, re, row, col, if row = 0 then col + 1 else wid, 0, 0, 0, g, (row + 1, 6, upd f (6 * row + col) (sgnV ng vl)))) H := xP
      have xD : va_D A (wX G x (len, fp, re, row, col, if row = 0 then col + 1 else wid, 0, 0, 0, g, (row + 1, 6, upd f (6 * row + col) (sgnV ng vl)))) := xD
      refine lv_aload_n xE xB dX4_finishScan_59 rfl (lv_at xL 0 rfl) ?_
      refine va_get (D := G.1) (ci := 4) (v := .ref x.2.2.1) (C := RX4) (T := TX4) (N := 11) xE xB xT khX4_finishScan_X4 xO xK.1 xP 0 rfl rfl 2 (by decide) (xT _ kX4_finishScan_f18) (fun _ h9 => h9) rfl dX4_finishScan_60 ?_
      refine lv_aload_n xE xB dX4_finishScan_63 rfl (lv_at xL 0 rfl) ?_
      refine va_get (D := G.1) (ci := 4) (v := .int (nI (if row = 0 then col + 1 else wid))) (C := RX4) (T := TX4) (N := 11) xE xB xT khX4_finishScan_X4 xO xK.1 xP 0 rfl rfl 7 (by decide) (xT _ kX4_finishScan_f49) (fun _ h9 => h9) rfl dX4_finishScan_64 ?_
      refine va_put (D := G.1) (ci := 1) (v := .int (nI (if row = 0 then col + 1 else wid))) (ty := .int) (C := RX1) (T := TX1) (N := 3) xE xB xT khX4_finishScan_X1 tyX1 tyX1_ok nmX1 xO xK.1 xP xD xS 2 rfl rfl 1 (by decide) (xT _ kX4_finishScan_f89) (fun _ h9 => h9) rfl (by decide +kernel) rfl rfl (Nat.le_of_ble_eq_true rfl) dX4_finishScan_67 (fun H locs xP xD xS => ?_)
      have xP : va_P G.1 vwCl (wX G x (len, fp, re, row, col, if row = 0 then col + 1 else wid, 0, 0, 0, g, (row + 1, if row = 0 then col + 1 else wid, upd f (6 * row + col) (sgnV ng vl)))) H := xP
      have xD : va_D A (wX G x (len, fp, re, row, col, if row = 0 then col + 1 else wid, 0, 0, 0, g, (row + 1, if row = 0 then col + 1 else wid, upd f (6 * row + col) (sgnV ng vl)))) := xD
      exact xQ _ _ _ _ ((fp, re, row, col, if row = 0 then col + 1 else wid, 0, 0, 0, upd f (6 * row + col) (sgnV ng vl)), row + 1, if row = 0 then col + 1 else wid) (by exact ((if_neg (Nat.ne_of_gt c_4)).trans (if_neg c_20)).symm) xP xD xS dX4_finishScan_70
  · skip
    refine lv_aload_n xE xB dX4_finishScan_7 rfl (lv_at xL 0 rfl) ?_
    refine lv_aload_n xE xB dX4_finishScan_8 rfl (lv_at xL 0 rfl) ?_
    refine va_get (D := G.1) (ci := 4) (v := .int (nI len)) (C := RX4) (T := TX4) (N := 11) xE xB xT khX4_finishScan_X4 xO xK.1 xP 0 rfl rfl 1 (by decide) (xT _ kX4_finishScan_f22) (fun _ h9 => h9) rfl dX4_finishScan_9 ?_
    refine lv_iconst (v := nI 1) xE xB dX4_finishScan_12 (by decide) ?_
    refine q_VV (As := [.int (nI len), .int (nI 1)]) (rest := []) ⟨xE, xB, xM, xO, xT⟩ (kX4_setFault l G x len fp re row col wid ng dg vl g 6 6 f len 1) (cwV 2 xT gX4_finishScan_X4_setFault rfl rfl rfl (by decide +kernel) ⟨Nat.le_of_ble_eq_true rfl, Nat.le_of_ble_eq_true rfl⟩) xK xP xD xS [0, 1, 2, 3] rfl (by decide +kernel) (fun _ => rfl) 0 rfl rfl rfl rfl xL.1 rfl (Nat.le_of_ble_eq_true rfl) dX4_finishScan_13 ⟨Nat.le_refl _, Nat.le_refl _⟩ (fun u_13 H locs h_13 xP xD xS => ?_)
    have xP : va_P G.1 vwCl (wX G x (len, len, 1, row, col, wid, ng, dg, vl, g, (6, 6, f))) H := xP
    have xD : va_D A (wX G x (len, len, 1, row, col, wid, ng, dg, vl, g, (6, 6, f))) := xD
    refine lv_goto (tgt := 70) xE xB dX4_finishScan_16 (by decide) ?_
    exact xQ _ _ _ _ ((len, 1, row, col, wid, ng, dg, vl, f), 6, 6) (by exact (if_pos c_4).symm) xP xD xS dX4_finishScan_70
theorem kX4_startScan_f18 : Cond.fieldLink RX4 18 "SkewedSquare$Text" "matrix" "LSkewedSquare$Matrix;" ∈ wsX4_startScan := by decide +kernel
theorem kX4_startScan_f29 : Cond.fieldLink RX4 29 "SkewedSquare$Text" "reason" "I" ∈ wsX4_startScan := by decide +kernel
theorem kX4_startScan_f43 : Cond.fieldLink RX4 43 "SkewedSquare$Text" "row" "I" ∈ wsX4_startScan := by decide +kernel
theorem kX4_startScan_f46 : Cond.fieldLink RX4 46 "SkewedSquare$Text" "column" "I" ∈ wsX4_startScan := by decide +kernel
theorem kX4_startScan_f49 : Cond.fieldLink RX4 49 "SkewedSquare$Text" "width" "I" ∈ wsX4_startScan := by decide +kernel
theorem khX4_startScan_X4 : ∀ w ∈ u_ws RX4 TX4 11, w ∈ wsX4_startScan := by decide +kernel
set_option maxHeartbeats 4000000 in
set_option maxRecDepth 100000 in
/-- kX4_startScan -/
theorem kX4_startScan (l : Launch) (G : wG) (x : XA) (len fp re row col wid ng dg vl : Nat) (g : wF) (mr mc : Nat) (f : wF) : CV (S := Unit) l yX4_startScan wsX4_startScan (rm 2 46) G [.ref x.1] (wX G x (len, fp, re, row, col, wid, ng, dg, vl, g, (mr, mc, f))) (fun u9 => True) (fun u9 => wX G x (len, fp, 0, 0, 0, 6, 0, 0, 0, g, (6, 6, fillF 36 (nI 0) f))) := by
  refine CV.of (own := RX4) rfl (by decide) rfl (Nat.le_of_ble_eq_true rfl) ?_
  intro p9 e9 s9 m9 b9 t9 c9 A xE xB xM xO xT xK xP xD Q xQ xS ls hl
  have xL : lv_has ls 1 [(0, .ref x.1)] := hl
  refine lv_aload_n xE xB dX4_startScan_0 rfl (lv_at xL 0 rfl) ?_
  refine va_get (D := G.1) (ci := 4) (v := .ref x.2.2.1) (C := RX4) (T := TX4) (N := 11) xE xB xT khX4_startScan_X4 xO xK.1 xP 0 rfl rfl 2 (by decide) (xT _ kX4_startScan_f18) (fun _ h9 => h9) rfl dX4_startScan_1 ?_
  refine lv_bipush (v := nI 6) xE xB dX4_startScan_4 (by decide) ?_
  refine lv_bipush (v := nI 6) xE xB dX4_startScan_6 (by decide) ?_
  refine lv_iconst (v := nI 0) xE xB dX4_startScan_8 (by decide) ?_
  refine q_VV (As := [.int (nI 6), .int (nI 6), .int (nI 0)]) (rest := []) ⟨xE, xB, xM, xO, xT⟩ (kX1_renew l G x.2.2 mr mc f 6 6 (nI 0) (by omega) (by omega) (by omega) (by omega)) (cwV 3 xT gX4_startScan_X1_renew rfl rfl rfl (by decide +kernel) ⟨Nat.le_of_ble_eq_true rfl, Nat.le_of_ble_eq_true rfl⟩) xK xP xD xS [2, 3] rfl (by decide +kernel) (fun _ => rfl) 0 rfl rfl rfl rfl xL.1 rfl (Nat.le_of_ble_eq_true rfl) dX4_startScan_9 ⟨Nat.le_refl _, Nat.le_refl _⟩ (fun u_9 H locs h_9 xP xD xS => ?_)
  have xP : va_P G.1 vwCl (wX G x (len, fp, re, row, col, wid, ng, dg, vl, g, (6, 6, fillF 36 (nI 0) f))) H := xP
  have xD : va_D A (wX G x (len, fp, re, row, col, wid, ng, dg, vl, g, (6, 6, fillF 36 (nI 0) f))) := xD
  refine lv_aload_n xE xB dX4_startScan_12 rfl (lv_at xL 0 rfl) ?_
  refine lv_iconst (v := nI 0) xE xB dX4_startScan_13 (by decide) ?_
  refine va_put (D := G.1) (ci := 4) (v := .int (nI 0)) (ty := .int) (C := RX4) (T := TX4) (N := 11) xE xB xT khX4_startScan_X4 tyX4 tyX4_ok nmX4 xO xK.1 xP xD xS 0 rfl rfl 4 (by decide) (xT _ kX4_startScan_f29) (fun _ h9 => h9) rfl (by decide +kernel) rfl rfl (Nat.le_of_ble_eq_true rfl) dX4_startScan_14 (fun H locs xP xD xS => ?_)
  have xP : va_P G.1 vwCl (wX G x (len, fp, 0, row, col, wid, ng, dg, vl, g, (6, 6, fillF 36 (nI 0) f))) H := xP
  have xD : va_D A (wX G x (len, fp, 0, row, col, wid, ng, dg, vl, g, (6, 6, fillF 36 (nI 0) f))) := xD
  refine lv_aload_n xE xB dX4_startScan_17 rfl (lv_at xL 0 rfl) ?_
  refine lv_iconst (v := nI 0) xE xB dX4_startScan_18 (by decide) ?_
  refine va_put (D := G.1) (ci := 4) (v := .int (nI 0)) (ty := .int) (C := RX4) (T := TX4) (N := 11) xE xB xT khX4_startScan_X4 tyX4 tyX4_ok nmX4 xO xK.1 xP xD xS 0 rfl rfl 5 (by decide) (xT _ kX4_startScan_f43) (fun _ h9 => h9) rfl (by decide +kernel) rfl rfl (Nat.le_of_ble_eq_true rfl) dX4_startScan_19 (fun H locs xP xD xS => ?_)
  have xP : va_P G.1 vwCl (wX G x (len, fp, 0, 0, col, wid, ng, dg, vl, g, (6, 6, fillF 36 (nI 0) f))) H := xP
  have xD : va_D A (wX G x (len, fp, 0, 0, col, wid, ng, dg, vl, g, (6, 6, fillF 36 (nI 0) f))) := xD
  refine lv_aload_n xE xB dX4_startScan_22 rfl (lv_at xL 0 rfl) ?_
  refine lv_iconst (v := nI 0) xE xB dX4_startScan_23 (by decide) ?_
  refine va_put (D := G.1) (ci := 4) (v := .int (nI 0)) (ty := .int) (C := RX4) (T := TX4) (N := 11) xE xB xT khX4_startScan_X4 tyX4 tyX4_ok nmX4 xO xK.1 xP xD xS 0 rfl rfl 6 (by decide) (xT _ kX4_startScan_f46) (fun _ h9 => h9) rfl (by decide +kernel) rfl rfl (Nat.le_of_ble_eq_true rfl) dX4_startScan_24 (fun H locs xP xD xS => ?_)
  have xP : va_P G.1 vwCl (wX G x (len, fp, 0, 0, 0, wid, ng, dg, vl, g, (6, 6, fillF 36 (nI 0) f))) H := xP
  have xD : va_D A (wX G x (len, fp, 0, 0, 0, wid, ng, dg, vl, g, (6, 6, fillF 36 (nI 0) f))) := xD
  refine lv_aload_n xE xB dX4_startScan_27 rfl (lv_at xL 0 rfl) ?_
  refine lv_bipush (v := nI 6) xE xB dX4_startScan_28 (by decide) ?_
  refine va_put (D := G.1) (ci := 4) (v := .int (nI 6)) (ty := .int) (C := RX4) (T := TX4) (N := 11) xE xB xT khX4_startScan_X4 tyX4 tyX4_ok nmX4 xO xK.1 xP xD xS 0 rfl rfl 7 (by decide) (xT _ kX4_startScan_f49) (fun _ h9 => h9) rfl (by decide +kernel) rfl rfl (Nat.le_of_ble_eq_true rfl) dX4_startScan_30 (fun H locs xP xD xS => ?_)
  have xP : va_P G.1 vwCl (wX G x (len, fp, 0, 0, 0, 6, ng, dg, vl, g, (6, 6, fillF 36 (nI 0) f))) H := xP
  have xD : va_D A (wX G x (len, fp, 0, 0, 0, 6, ng, dg, vl, g, (6, 6, fillF 36 (nI 0) f))) := xD
  refine lv_aload_n xE xB dX4_startScan_33 rfl (lv_at xL 0 rfl) ?_
  refine q_VV (As := []) (rest := []) ⟨xE, xB, xM, xO, xT⟩ (kX4_startEntry l G x len fp 0 0 0 6 ng dg vl g 6 6 (fillF 36 (nI 0) f)) (cwV 0 xT gX4_startScan_X4_startEntry rfl rfl rfl (by decide +kernel) ⟨Nat.le_of_ble_eq_true rfl, Nat.le_of_ble_eq_true rfl⟩) xK xP xD xS [0, 1, 2, 3] rfl (by decide +kernel) (fun _ => rfl) 0 rfl rfl rfl rfl xL.1 rfl (Nat.le_of_ble_eq_true rfl) dX4_startScan_34 ⟨Nat.le_refl _, Nat.le_refl _⟩ (fun u_34 H locs h_34 xP xD xS => ?_)
  have xP : va_P G.1 vwCl (wX G x (len, fp, 0, 0, 0, 6, 0, 0, 0, g, (6, 6, fillF 36 (nI 0) f))) H := xP
  have xD : va_D A (wX G x (len, fp, 0, 0, 0, 6, 0, 0, 0, g, (6, 6, fillF 36 (nI 0) f))) := xD
  exact xQ _ _ _ _ () trivial xP xD xS dX4_startScan_37
theorem reA_step {p ch : Nat} {z : AS} (h : z.2.1 ≤ 2) : (stepA p ch z).2.1 ≤ 2 := by
  obtain ⟨fp, re, row, col, wid, ng, dg, vl, f⟩ := z
  dsimp only at h
  unfold stepA
  dsimp only
  split
  · exact h
  · split
    · exact h
    · split
      · unfold commaA
        dsimp only
        split
        · exact Nat.le_refl _
        · exact h
      · split
        · unfold semiA
          dsimp only
          split
          · exact Nat.le_refl _
          · exact h
        · exact Nat.le_succ _
theorem reA_stk {T : Nat → Nat} {z : AS} (h : z.2.1 ≤ 2) : ∀ i, (stk T z i).2.1 ≤ 2
  | 0 => h
  | i + 1 => by
    show (if (stk T z i).2.1 = 0 then stepA i (T i) (stk T z i) else stk T z i).2.1 ≤ 2
    split
    · exact reA_step (reA_stk h i)
    · exact reA_stk h i
theorem reA_z {T : Nat → Nat} {z : AS} {i fp : Nat} {f : wF} (h : z = stk T (fp, 0, 0, 0, 6, 0, 0, 0, f) i) : z.2.1 ≤ 2 := by
  rw [h]
  exact reA_stk (by dsimp only; decide) i
theorem dgA_step {p ch : Nat} {z : AS} (h : z.2.2.2.2.2.2.1 ≤ 2) : (stepA p ch z).2.2.2.2.2.2.1 ≤ 2 := by
  obtain ⟨fp, re, row, col, wid, ng, dg, vl, f⟩ := z
  dsimp only at h
  unfold stepA
  dsimp only
  split
  · dsimp only; omega
  · split
    · exact h
    · split
      · unfold commaA
        dsimp only
        split
        · exact h
        · exact Nat.zero_le _
      · split
        · unfold semiA
          dsimp only
          split
          · exact h
          · exact Nat.zero_le _
        · exact h

theorem kX4_scan_f22 : Cond.fieldLink RX4 22 "SkewedSquare$Text" "length" "I" ∈ wsX4_scan := by decide +kernel
theorem kX4_scan_f29 : Cond.fieldLink RX4 29 "SkewedSquare$Text" "reason" "I" ∈ wsX4_scan := by decide +kernel
theorem kX4_scan_f9 : Cond.fieldLink RX4 9 "SkewedSquare$Text" "signs" "[C" ∈ wsX4_scan := by decide +kernel
theorem khX4_scan_X4 : ∀ w ∈ u_ws RX4 TX4 11, w ∈ wsX4_scan := by decide +kernel
set_option maxHeartbeats 4000000 in
set_option maxRecDepth 100000 in
/-- kX4_scan -/
theorem kX4_scan (l : Launch) (G : wG) (x : XA) (len fp re row col wid ng dg vl : Nat) (g : wF) (mr mc : Nat) (f : wF) (T : Nat → Nat) (hlen : len ≤ 80) (hT : ∀ j, j < len → g j = nI (T j) ∧ T j < 65536) : CV (S := AS × Nat × Nat) l yX4_scan wsX4_scan (rm 5 108) G [.ref x.1] (wX G x (len, fp, re, row, col, wid, ng, dg, vl, g, (mr, mc, f))) (fun u9 => u9 = scanA T len (fp, 0, 0, 0, 6, 0, 0, 0, fillF 36 (nI 0) f)) (fun u9 => wX G x (len, u9.1.1, u9.1.2.1, u9.1.2.2.1, u9.1.2.2.2.1, u9.1.2.2.2.2.1, u9.1.2.2.2.2.2.1, u9.1.2.2.2.2.2.2.1, u9.1.2.2.2.2.2.2.2.1, g, (u9.2.1, u9.2.2, u9.1.2.2.2.2.2.2.2.2))) := by
  refine CV.of (own := RX4) rfl (by decide) rfl (Nat.le_of_ble_eq_true rfl) ?_
  intro p9 e9 s9 m9 b9 t9 c9 A xE xB xM xO xT xK xP xD Q xQ xS ls hl
  have xL : lv_has ls 2 [(0, .ref x.1)] := hl
  refine lv_aload_n xE xB dX4_scan_0 rfl (lv_at xL 0 rfl) ?_
  refine q_VV (As := []) (rest := []) ⟨xE, xB, xM, xO, xT⟩ (kX4_startScan l G x len fp re row col wid ng dg vl g mr mc f) (cwV 0 xT gX4_scan_X4_startScan rfl rfl rfl (by decide +kernel) ⟨Nat.le_of_ble_eq_true rfl, Nat.le_of_ble_eq_true rfl⟩) xK xP xD xS [0, 1, 2, 3] rfl (by decide +kernel) (fun _ => rfl) 0 rfl rfl rfl rfl xL.1 rfl (Nat.le_of_ble_eq_true rfl) dX4_scan_1 ⟨Nat.le_refl _, Nat.le_refl _⟩ (fun u_1 H locs h_1 xP xD xS => ?_)
  have xP : va_P G.1 vwCl (wX G x (len, fp, 0, 0, 0, 6, 0, 0, 0, g, (6, 6, fillF 36 (nI 0) f))) H := xP
  have xD : va_D A (wX G x (len, fp, 0, 0, 0, 6, 0, 0, 0, g, (6, 6, fillF 36 (nI 0) f))) := xD
  refine lv_iconst (v := nI 0) xE xB dX4_scan_4 (by decide) ?_
  refine lv_istore_n (lv' := [(1, .int (nI 0)), (0, .ref x.1)]) xE xB dX4_scan_5 rfl xL (by decide) rfl (fun ls xL => ?_)
  have L_6 : ∀ (n_6 : Nat) (i : Nat) (z : AS), (i ≤ len) → (z = stk T (fp, 0, 0, 0, 6, 0, 0, 0, fillF 36 (nI 0) f) i) → (InvA z) → (z.2.2.2.2.2.2.1 ≤ 2) → len - i < n_6 → ∀ (H : Heap) (locs : List Loc), va_P G.1 vwCl (wX G x (len, z.1, z.2.1, z.2.2.1, z.2.2.2.1, z.2.2.2.2.1, z.2.2.2.2.2.1, z.2.2.2.2.2.2.1, z.2.2.2.2.2.2.2.1, g, (6, 6, z.2.2.2.2.2.2.2.2))) H → va_D A (wX G x (len, z.1, z.2.1, z.2.2.1, z.2.2.2.1, z.2.2.2.2.1, z.2.2.2.2.2.1, z.2.2.2.2.2.2.1, z.2.2.2.2.2.2.2.1, g, (6, 6, z.2.2.2.2.2.2.2.2))) → va_S A s9.heap H locs → ∀ (ls : Array Slot), lv_has ls 2 [(0, .ref x.1), (1, .int (nI i))] → W p9 l e9 (rm 5 108) s9 m9 ([.ref x.1] : List Value).toArray b9 t9 c9 H locs 0 0 Q (F0 m9 6 ls []) := by
    intro n_6
    induction n_6 with
    | zero => intro i z hi hz hI hdz hm_6 H locs xP xD xS ls xL; exact absurd hm_6 (Nat.not_lt_zero _)
    | succ n_6 ih_6 =>
      intro i z hi hz hI hdz hm_6 H locs xP xD xS ls xL
      have J_47 : ∀ (z : AS), (z = stk T (fp, 0, 0, 0, 6, 0, 0, 0, fillF 36 (nI 0) f) len) → (InvA z) → (z.2.2.2.2.2.2.1 ≤ 2) → (z.2.1 < 2147483648) → ∀ (H : Heap) (locs : List Loc), va_P G.1 vwCl (wX G x (len, z.1, z.2.1, z.2.2.1, z.2.2.2.1, z.2.2.2.2.1, z.2.2.2.2.2.1, z.2.2.2.2.2.2.1, z.2.2.2.2.2.2.2.1, g, (6, 6, z.2.2.2.2.2.2.2.2))) H → va_D A (wX G x (len, z.1, z.2.1, z.2.2.1, z.2.2.2.1, z.2.2.2.2.1, z.2.2.2.2.2.1, z.2.2.2.2.2.2.1, z.2.2.2.2.2.2.2.1, g, (6, 6, z.2.2.2.2.2.2.2.2))) → va_S A s9.heap H locs → ∀ (ls : Array Slot), lv_has ls 2 [(0, .ref x.1)] → W p9 l e9 (rm 5 108) s9 m9 ([.ref x.1] : List Value).toArray b9 t9 c9 H locs 0 0 Q (F0 m9 47 ls []) := by
        intro z hzl hI hdz hre H locs xP xD xS ls xL
        refine lv_aload_n xE xB dX4_scan_47 rfl (lv_at xL 0 rfl) ?_
        refine va_get (D := G.1) (ci := 4) (v := .int (nI z.2.1)) (C := RX4) (T := TX4) (N := 11) xE xB xT khX4_scan_X4 xO xK.1 xP 0 rfl rfl 4 (by decide) (xT _ kX4_scan_f29) (fun _ h9 => h9) rfl dX4_scan_48 ?_
        refine q_if_ne (tgt := 58) xE xB dX4_scan_51 (by decide) (by exact hre) (fun c_51 => ?_) (fun c_51 => ?_)
        · skip
          exact xQ _ _ _ _ (z, 6, 6) (by unfold scanA; rw [← hzl, if_neg (Nat.ne_of_gt c_51)]) xP xD xS dX4_scan_58
        · skip
          refine lv_aload_n xE xB dX4_scan_54 rfl (lv_at xL 0 rfl) ?_
          refine q_VV (As := []) (rest := []) ⟨xE, xB, xM, xO, xT⟩ (kX4_finishScan l G x len z.1 z.2.1 z.2.2.1 z.2.2.2.1 z.2.2.2.2.1 z.2.2.2.2.2.1 z.2.2.2.2.2.2.1 z.2.2.2.2.2.2.2.1 g z.2.2.2.2.2.2.2.2 (by exact hI.1) (by exact hI.2.1) (by exact hI.2.2.1) (by exact hI.2.2.2) (by exact hdz)) (cwV 0 xT gX4_scan_X4_finishScan rfl rfl rfl (by decide +kernel) ⟨Nat.le_of_ble_eq_true rfl, Nat.le_of_ble_eq_true rfl⟩) xK xP xD xS [0, 1, 2, 3] rfl (by decide +kernel) (fun _ => rfl) 0 rfl rfl rfl rfl xL.1 rfl (Nat.le_of_ble_eq_true rfl) dX4_scan_55 ⟨Nat.le_refl _, Nat.le_refl _⟩ (fun u_55 H locs h_55 xP xD xS => ?_)
          have xP : va_P G.1 vwCl (wX G x (len, u_55.1.1, u_55.1.2.1, u_55.1.2.2.1, u_55.1.2.2.2.1, u_55.1.2.2.2.2.1, u_55.1.2.2.2.2.2.1, u_55.1.2.2.2.2.2.2.1, u_55.1.2.2.2.2.2.2.2.1, g, (u_55.2.1, u_55.2.2, u_55.1.2.2.2.2.2.2.2.2))) H := xP
          have xD : va_D A (wX G x (len, u_55.1.1, u_55.1.2.1, u_55.1.2.2.1, u_55.1.2.2.2.1, u_55.1.2.2.2.2.1, u_55.1.2.2.2.2.2.1, u_55.1.2.2.2.2.2.2.1, u_55.1.2.2.2.2.2.2.2.1, g, (u_55.2.1, u_55.2.2, u_55.1.2.2.2.2.2.2.2.2))) := xD
          have h_55 : u_55 = finA len (z.1, z.2.1, z.2.2.1, z.2.2.2.1, z.2.2.2.2.1, z.2.2.2.2.2.1, z.2.2.2.2.2.2.1, z.2.2.2.2.2.2.2.1, z.2.2.2.2.2.2.2.2) := h_55
          exact xQ _ _ _ _ u_55 (by rw [h_55]; unfold scanA; rw [← hzl, if_pos c_51]) xP xD xS dX4_scan_58
      refine lv_iload_n xE xB dX4_scan_6 rfl (lv_at xL 1 rfl) ?_
      refine lv_aload_n xE xB dX4_scan_7 rfl (lv_at xL 0 rfl) ?_
      refine va_get (D := G.1) (ci := 4) (v := .int (nI len)) (C := RX4) (T := TX4) (N := 11) xE xB xT khX4_scan_X4 xO xK.1 xP 0 rfl rfl 1 (by decide) (xT _ kX4_scan_f22) (fun _ h9 => h9) rfl dX4_scan_8 ?_
      refine q_icmp_ge (tgt := 47) xE xB dX4_scan_11 (by decide) (by omega) (by omega) (fun c_11 => ?_) (fun c_11 => ?_)
      · skip
        exact J_47 z (by first | exact stkA_1 hz hi c_11 | exact absurd c_20 (Nat.not_le.mpr (Nat.lt_of_lt_of_le c_11 hlen)) | exact stkA_2 hz hi c_27) (by exact hI) (by exact hdz) (by exact Nat.lt_of_le_of_lt (reA_z hz) (by decide)) _ _ xP xD xS _ (lv_sub xL [0] rfl)
      · skip
        refine lv_iload_n xE xB dX4_scan_14 rfl (lv_at xL 1 rfl) ?_
        refine lv_aload_n xE xB dX4_scan_15 rfl (lv_at xL 0 rfl) ?_
        refine va_get (D := G.1) (ci := 4) (v := .ref x.2.1) (C := RX4) (T := TX4) (N := 11) xE xB xT khX4_scan_X4 xO xK.1 xP 0 rfl rfl 0 (by decide) (xT _ kX4_scan_f9) (fun _ h9 => h9) rfl dX4_scan_16 ?_
        refine va_alen (v := nI 80) xE xB xK.1 xP 1 0 rfl rfl rfl dX4_scan_19 ?_
        refine q_icmp_ge (tgt := 47) xE xB dX4_scan_20 (by decide) (by omega) (by omega) (fun c_20 => ?_) (fun c_20 => ?_)
        · skip
          exact J_47 z (by first | exact stkA_1 hz hi c_11 | exact absurd c_20 (Nat.not_le.mpr (Nat.lt_of_lt_of_le c_11 hlen)) | exact stkA_2 hz hi c_27) (by exact hI) (by exact hdz) (by exact Nat.lt_of_le_of_lt (reA_z hz) (by decide)) _ _ xP xD xS _ (lv_sub xL [0] rfl)
        · skip
          refine lv_aload_n xE xB dX4_scan_23 rfl (lv_at xL 0 rfl) ?_
          refine va_get (D := G.1) (ci := 4) (v := .int (nI z.2.1)) (C := RX4) (T := TX4) (N := 11) xE xB xT khX4_scan_X4 xO xK.1 xP 0 rfl rfl 4 (by decide) (xT _ kX4_scan_f29) (fun _ h9 => h9) rfl dX4_scan_24 ?_
          refine q_if_ne (tgt := 47) xE xB dX4_scan_27 (by decide) (by exact Nat.lt_of_le_of_lt (reA_z hz) (by decide)) (fun c_27 => ?_) (fun c_27 => ?_)
          · skip
            exact J_47 z (by first | exact stkA_1 hz hi c_11 | exact absurd c_20 (Nat.not_le.mpr (Nat.lt_of_lt_of_le c_11 hlen)) | exact stkA_2 hz hi c_27) (by exact hI) (by exact hdz) (by exact Nat.lt_of_le_of_lt (reA_z hz) (by decide)) _ _ xP xD xS _ (lv_sub xL [0] rfl)
          · skip
            refine lv_aload_n xE xB dX4_scan_30 rfl (lv_at xL 0 rfl) ?_
            refine lv_iload_n xE xB dX4_scan_31 rfl (lv_at xL 1 rfl) ?_
            refine lv_aload_n xE xB dX4_scan_32 rfl (lv_at xL 0 rfl) ?_
            refine va_get (D := G.1) (ci := 4) (v := .ref x.2.1) (C := RX4) (T := TX4) (N := 11) xE xB xT khX4_scan_X4 xO xK.1 xP 0 rfl rfl 0 (by decide) (xT _ kX4_scan_f9) (fun _ h9 => h9) rfl dX4_scan_33 ?_
            refine lv_iload_n xE xB dX4_scan_36 rfl (lv_at xL 1 rfl) ?_
            refine q_cald xE xB xK xP 1 rfl (by omega) (by decide) dX4_scan_37 ?_
            refine q_eq (y := nI (T i)) ((hT i c_11).1) ?_
            refine q_VV (As := [.int (nI i), .int (nI (T i))]) (rest := []) ⟨xE, xB, xM, xO, xT⟩ (kX4_scanSign l G x len z.1 z.2.1 z.2.2.1 z.2.2.2.1 z.2.2.2.2.1 z.2.2.2.2.2.1 z.2.2.2.2.2.2.1 z.2.2.2.2.2.2.2.1 g z.2.2.2.2.2.2.2.2 i (T i) (by exact hI.1) (by exact hI.2.1) (by exact hI.2.2.1) (by exact hI.2.2.2) (by exact (hT i c_11).2) (by exact hdz)) (cwV 2 xT gX4_scan_X4_scanSign rfl rfl rfl (by decide +kernel) ⟨Nat.le_of_ble_eq_true rfl, Nat.le_of_ble_eq_true rfl⟩) xK xP xD xS [0, 1, 2, 3] rfl (by decide +kernel) (fun _ => rfl) 0 rfl rfl rfl rfl xL.1 rfl (Nat.le_of_ble_eq_true rfl) dX4_scan_38 ⟨Nat.le_refl _, Nat.le_refl _⟩ (fun u_38 H locs h_38 xP xD xS => ?_)
            have xP : va_P G.1 vwCl (wX G x (len, u_38.1, u_38.2.1, u_38.2.2.1, u_38.2.2.2.1, u_38.2.2.2.2.1, u_38.2.2.2.2.2.1, u_38.2.2.2.2.2.2.1, u_38.2.2.2.2.2.2.2.1, g, (6, 6, u_38.2.2.2.2.2.2.2.2))) H := xP
            have xD : va_D A (wX G x (len, u_38.1, u_38.2.1, u_38.2.2.1, u_38.2.2.2.1, u_38.2.2.2.2.1, u_38.2.2.2.2.2.1, u_38.2.2.2.2.2.2.1, u_38.2.2.2.2.2.2.2.1, g, (6, 6, u_38.2.2.2.2.2.2.2.2))) := xD
            have h_38 : u_38 = stepA i (T i) (z.1, z.2.1, z.2.2.1, z.2.2.2.1, z.2.2.2.2.1, z.2.2.2.2.2.1, z.2.2.2.2.2.2.1, z.2.2.2.2.2.2.2.1, z.2.2.2.2.2.2.2.2) := h_38
            refine lv_iinc (v := nI (i + 1)) (lv' := [(1, .int (nI (i + 1))), (0, .ref x.1)]) xE xB dX4_scan_41 xL (k := 1) rfl (q_inc _ _) (by decide) rfl (fun ls xL => ?_)
            refine lv_goto (tgt := 6) xE xB dX4_scan_44 (by decide) ?_
            exact ih_6 (i + 1) u_38 (by omega) (by rw [h_38, hz]; exact (stk_s (by rw [← hz]; exact c_27)).symm) (by rw [h_38]; exact InvA_step hI) (by rw [h_38]; exact dgA_step hdz) (by omega) _ _ xP xD xS _ (lv_sub xL [1, 0] rfl)
  exact L_6 (len - 0 + 1) 0 (fp, 0, 0, 0, 6, 0, 0, 0, fillF 36 (nI 0) f) (by omega) (by rfl) (by unfold InvA; dsimp only; decide) (by dsimp only; decide) (Nat.lt_succ_self _) _ _ xP xD xS _ (lv_sub xL [1, 0] rfl)
