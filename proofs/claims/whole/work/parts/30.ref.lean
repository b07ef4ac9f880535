/-! ref: the reference's small methods -/
theorem in_y {a x b : Int32} (h1 : ¬ x < a) (h2 : ¬ b < x) : a.toInt ≤ x.toInt ∧ x.toInt ≤ b.toInt := by
  rw [Int32.lt_iff_toInt_lt] at h1 h2
  omega
theorem in_1 {a x b : Int32} (h1 : x < a) (h : a.toInt ≤ x.toInt ∧ x.toInt ≤ b.toInt) : False := by
  rw [Int32.lt_iff_toInt_lt] at h1
  omega
theorem in_2 {a x b : Int32} (h1 : b < x) (h : a.toInt ≤ x.toInt ∧ x.toInt ≤ b.toInt) : False := by
  rw [Int32.lt_iff_toInt_lt] at h1
  omega

set_option maxHeartbeats 4000000 in
set_option maxRecDepth 100000 in
/-- kX7_in -/
theorem kX7_in (l : Launch) (G : wG) (x1 lo hi : Int32) : CR l yX7_in wsX7_in (rm 0 0) G [.int x1, .int lo, .int hi] (([] : va_W)) (fun x => (x = nI 1 ∧ (lo.toInt ≤ x1.toInt ∧ x1.toInt ≤ hi.toInt)) ∨ (x = nI 0 ∧ ¬ (lo.toInt ≤ x1.toInt ∧ x1.toInt ≤ hi.toInt))) := by
  refine CR.ofZ (own := RX7) rfl (by decide) rfl (Nat.le_of_ble_eq_true rfl) ?_
  intro p9 e9 s9 m9 b9 t9 c9 xE xB xM xO xT xK xP Q xQ ls hl
  have xL : lv_has ls 3 [(0, .int x1), (1, .int lo), (2, .int hi)] := hl
  refine lv_iload_n xE xB dX7_in_0 rfl (lv_at xL 0 rfl) ?_
  refine lv_iload_n xE xB dX7_in_1 rfl (lv_at xL 1 rfl) ?_
  refine lv_icmp_lt (tgt := 14) xE xB dX7_in_2 (by decide) (fun c_2 => ?_) (fun c_2 => ?_)
  · skip
    refine lv_iconst (v := nI 0) xE xB dX7_in_14 (by decide) ?_
    exact xQ _ _ _ (Or.inr ⟨rfl, by first | exact in_y c_2 c_7 | exact fun q => in_1 c_2 q | exact fun q => in_2 c_7 q⟩) (by decide) dX7_in_15
  · skip
    refine lv_iload_n xE xB dX7_in_5 rfl (lv_at xL 0 rfl) ?_
    refine lv_iload_n xE xB dX7_in_6 rfl (lv_at xL 2 rfl) ?_
    refine lv_icmp_gt (tgt := 14) xE xB dX7_in_7 (by decide) (fun c_7 => ?_) (fun c_7 => ?_)
    · skip
      refine lv_iconst (v := nI 0) xE xB dX7_in_14 (by decide) ?_
      exact xQ _ _ _ (Or.inr ⟨rfl, by first | exact in_y c_2 c_7 | exact fun q => in_1 c_2 q | exact fun q => in_2 c_7 q⟩) (by decide) dX7_in_15
    · skip
      refine lv_iconst (v := nI 1) xE xB dX7_in_10 (by decide) ?_
      refine lv_goto (tgt := 15) xE xB dX7_in_11 (by decide) ?_
      exact xQ _ _ _ (Or.inl ⟨rfl, by first | exact in_y c_2 c_7 | exact fun q => in_1 c_2 q | exact fun q => in_2 c_7 q⟩) (by decide) dX7_in_15
set_option maxHeartbeats 4000000 in
set_option maxRecDepth 100000 in
/-- kX7_cell -/
theorem kX7_cell (l : Launch) (G : wG) (i j : Nat) : CR l yX7_cell wsX7_cell (rm 0 0) G [.int (nI i), .int (nI j)] (([] : va_W)) (fun x => x = nI (173 + 24 * i + 6 * j)) := by
  refine CR.of (own := RX7) rfl (by decide) rfl (Nat.le_of_ble_eq_true rfl) ?_
  intro p9 e9 s9 m9 b9 t9 c9 xE xB xM xO xT xK xP Q xQ ls hl
  have xL : lv_has ls 2 [(0, .int (nI i)), (1, .int (nI j))] := hl
  refine lv_sipush (v := nI 173) xE xB dX7_cell_0 (by decide) ?_
  refine lv_bipush (v := nI 24) xE xB dX7_cell_3 (by decide) ?_
  refine lv_iload_n xE xB dX7_cell_5 rfl (lv_at xL 0 rfl) ?_
  refine q_imul xE xB dX7_cell_6 ?_
  refine q_iadd xE xB dX7_cell_7 ?_
  refine lv_bipush (v := nI 6) xE xB dX7_cell_8 (by decide) ?_
  refine lv_iload_n xE xB dX7_cell_10 rfl (lv_at xL 1 rfl) ?_
  refine q_imul xE xB dX7_cell_11 ?_
  refine q_iadd xE xB dX7_cell_12 ?_
  exact xQ _ _ _ (by exact congrArg nI (by omega)) dX7_cell_13
theorem kX7_clears_f7 : Cond.fieldLink RX7 7 "SkewedSquareModel" "s" "[I" ∈ wsX7_clears := by decide +kernel
theorem khX7_clears_X7 : ∀ w ∈ u_ws RX7 TX7 16, w ∈ wsX7_clears := by decide +kernel
set_option maxHeartbeats 4000000 in
set_option maxRecDepth 100000 in
/-- kX7_clears -/
theorem kX7_clears (l : Launch) (G : wG) (r : RA) (s P U : wF) (p : Nat) (X : wF) (y q0 : Nat) (q1 : Int32) (q2 : Nat) (q3 : Int32) (sp re : Nat) (B : wF) (wd hg ow : Nat) (a m : Nat) (hm : a + m ≤ 269) : CV (S := Unit) l yX7_clears wsX7_clears (rm 0 0) G [.ref r.1, .int (nI a), .int (nI m)] (wU G r (s, P, U, p, X, y, q0, q1, q2, q3, sp, re, B, wd, hg, ow)) (fun u9 => True) (fun u9 => wU G r (clr a m s, P, U, p, X, y, q0, q1, q2, q3, sp, re, B, wd, hg, ow)) := by
  refine CV.of (own := RX7) rfl (by decide) rfl (Nat.le_of_ble_eq_true rfl) ?_
  intro p9 e9 s9 m9 b9 t9 c9 A xE xB xM xO xT xK xP xD Q xQ xS ls hl
  have xL : lv_has ls 4 [(0, .ref r.1), (1, .int (nI a)), (2, .int (nI m))] := hl
  refine lv_iconst (v := nI 0) xE xB dX7_clears_0 (by decide) ?_
  refine lv_istore_n (lv' := [(3, .int (nI 0)), (0, .ref r.1), (1, .int (nI a)), (2, .int (nI m))]) xE xB dX7_clears_1 rfl xL (by decide) rfl (fun ls xL => ?_)
  have L_2 : ∀ (n_2 : Nat) (i : Nat) (z : wF), (i ≤ m) → (z = clr a i s) → m - i < n_2 → ∀ (H : Heap) (locs : List Loc), va_P G.1 vwCl (wU G r (z, P, U, p, X, y, q0, q1, q2, q3, sp, re, B, wd, hg, ow)) H → va_D A (wU G r (z, P, U, p, X, y, q0, q1, q2, q3, sp, re, B, wd, hg, ow)) → va_S A s9.heap H locs → ∀ (ls : Array Slot), lv_has ls 4 [(0, .ref r.1), (1, .int (nI a)), (2, .int (nI m)), (3, .int (nI i))] → W p9 l e9 (rm 0 0) s9 m9 ([.ref r.1, .int (nI a), .int (nI m)] : List Value).toArray b9 t9 c9 H locs 0 0 Q (F0 m9 2 ls []) := by
    intro n_2
    induction n_2 with
    | zero => intro i z hi hz hm_2 H locs xP xD xS ls xL; exact absurd hm_2 (Nat.not_lt_zero _)
    | succ n_2 ih_2 =>
      intro i z hi hz hm_2 H locs xP xD xS ls xL
      refine lv_iload_n xE xB dX7_clears_2 rfl (lv_at xL 3 rfl) ?_
      refine lv_iload_n xE xB dX7_clears_3 rfl (lv_at xL 2 rfl) ?_
      refine q_icmp_ge (tgt := 22) xE xB dX7_clears_4 (by decide) (by omega) (by omega) (fun c_4 => ?_) (fun c_4 => ?_)
      · skip
        obtain rfl : m = i := by omega
        subst hz
        exact xQ _ _ _ _ () trivial xP xD xS dX7_clears_22
      · skip
        refine lv_aload_n xE xB dX7_clears_7 rfl (lv_at xL 0 rfl) ?_
        refine va_get (D := G.1) (ci := 7) (v := .ref r.2.1) (C := RX7) (T := TX7) (N := 16) xE xB xT khX7_clears_X7 xO xK.1 xP 0 rfl rfl 0 (by decide) (xT _ kX7_clears_f7) (fun _ h9 => h9) rfl dX7_clears_8 ?_
        refine lv_iload_n xE xB dX7_clears_11 rfl (lv_at xL 1 rfl) ?_
        refine lv_iload_n xE xB dX7_clears_12 rfl (lv_at xL 3 rfl) ?_
        refine q_iadd xE xB dX7_clears_13 ?_
        refine lv_iconst (v := nI 0) xE xB dX7_clears_14 (by decide) ?_
        refine q_ast xE xB xK xP xD xS 1 rfl (by omega) (by decide) dX7_clears_15 (fun H locs xP xD xS => ?_)
        have xP : va_P G.1 vwCl (wU G r (upd z (a + i) (nI 0), P, U, p, X, y, q0, q1, q2, q3, sp, re, B, wd, hg, ow)) H := xP
        have xD : va_D A (wU G r (upd z (a + i) (nI 0), P, U, p, X, y, q0, q1, q2, q3, sp, re, B, wd, hg, ow)) := xD
        refine lv_iinc (v := nI (i + 1)) (lv' := [(3, .int (nI (i + 1))), (0, .ref r.1), (1, .int (nI a)), (2, .int (nI m))]) xE xB dX7_clears_16 xL (k := 3) rfl (q_inc _ _) (by decide) rfl (fun ls xL => ?_)
        refine lv_goto (tgt := 2) xE xB dX7_clears_19 (by decide) ?_
        exact ih_2 (i + 1) (upd z (a + i) (nI 0)) (by omega) (by rw [hz]; exact clr_s _ _ _) (by omega) _ _ xP xD xS _ (lv_sub xL [1, 2, 3, 0] rfl)
  exact L_2 (m - 0 + 1) 0 s (by omega) (by exact (clr_0 a s).symm) (Nat.lt_succ_self _) _ _ xP xD xS _ (lv_sub xL [1, 2, 3, 0] rfl)
theorem kX7_along_f7 : Cond.fieldLink RX7 7 "SkewedSquareModel" "s" "[I" ∈ wsX7_along := by decide +kernel
theorem khX7_along_X7 : ∀ w ∈ u_ws RX7 TX7 16, w ∈ wsX7_along := by decide +kernel
set_option maxHeartbeats 4000000 in
set_option maxRecDepth 100000 in
/-- kX7_along -/
theorem kX7_along (l : Launch) (G : wG) (r : RA) (s P U : wF) (p : Nat) (X : wF) (y q0 : Nat) (q1 : Int32) (q2 : Nat) (q3 : Int32) (sp re : Nat) (B : wF) (wd hg ow : Nat) (len n : Nat) (g0 : s 0 = nI n) (hn : 1 ≤ n ∧ n ≤ 4) (hl2 : 1 ≤ len ∧ len ≤ 6) : CR l yX7_along wsX7_along (rm 0 0) G [.ref r.1, .int (nI len)] (wU G r (s, P, U, p, X, y, q0, q1, q2, q3, sp, re, B, wd, hg, ow)) (fun x => x = nI (tls len n)) := by
  refine CR.of (own := RX7) rfl (by decide) rfl (Nat.le_of_ble_eq_true rfl) ?_
  intro p9 e9 s9 m9 b9 t9 c9 xE xB xM xO xT xK xP Q xQ ls hl
  have xL : lv_has ls 2 [(0, .ref r.1), (1, .int (nI len))] := hl
  refine lv_iload_n xE xB dX7_along_0 rfl (lv_at xL 1 rfl) ?_
  refine lv_aload_n xE xB dX7_along_1 rfl (lv_at xL 0 rfl) ?_
  refine va_get (D := G.1) (ci := 7) (v := .ref r.2.1) (C := RX7) (T := TX7) (N := 16) xE xB xT khX7_along_X7 xO xK.1 xP 0 rfl rfl 0 (by decide) (xT _ kX7_along_f7) (fun _ h9 => h9) rfl dX7_along_2 ?_
  refine lv_iconst (v := nI 0) xE xB dX7_along_5 (by decide) ?_
  refine q_ald xE xB xK xP 1 rfl (by omega) (by decide) dX7_along_6 ?_
  refine q_eq (y := nI n) (congrArg (fun z => z) (g0)) ?_
  refine q_iadd xE xB dX7_along_7 ?_
  refine lv_iconst (v := nI 1) xE xB dX7_along_8 (by decide) ?_
  refine q_isub xE xB dX7_along_9 (by omega) ?_
  refine lv_aload_n xE xB dX7_along_10 rfl (lv_at xL 0 rfl) ?_
  refine va_get (D := G.1) (ci := 7) (v := .ref r.2.1) (C := RX7) (T := TX7) (N := 16) xE xB xT khX7_along_X7 xO xK.1 xP 0 rfl rfl 0 (by decide) (xT _ kX7_along_f7) (fun _ h9 => h9) rfl dX7_along_11 ?_
  refine lv_iconst (v := nI 0) xE xB dX7_along_14 (by decide) ?_
  refine q_ald xE xB xK xP 1 rfl (by omega) (by decide) dX7_along_15 ?_
  refine q_eq (y := nI n) (congrArg (fun z => z) (g0)) ?_
  refine q_idiv xE xB dX7_along_16 (by omega) (by omega) (by omega) ?_
  exact xQ _ _ _ (congrArg nI (by first | rfl | omega)) dX7_along_17
