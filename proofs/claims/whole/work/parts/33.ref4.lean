/-! ref4: what is kept of the past -/
def shN (i : Nat) (P : wF) : wF := fun j => if j < i then P (j + 269) else P j
theorem shN_0 (P : wF) : shN 0 P = P := by funext j; simp [shN]
theorem shN_s (i : Nat) (P : wF) : upd (shN i P) i (shN i P (i + 269)) = shN (i + 1) P := by
  funext j
  have h0 : ¬ i + 269 < i := by omega
  by_cases h : j = i
  · subst h
    rw [upd_s]
    show (if j + 269 < j then P (j + 269 + 269) else P (j + 269)) = if j < j + 1 then P (j + 269) else P j
    rw [if_neg h0, if_pos (Nat.lt_succ_self j)]
  · rw [upd_n h]
    show (if j < i then P (j + 269) else P j) = if j < i + 1 then P (j + 269) else P j
    have e : j < i + 1 ↔ j < i := by omega
    simp only [e]
def cpN (a i : Nat) (s P : wF) : wF := fun j => if a ≤ j ∧ j < a + i then s (j - a) else P j
theorem cpN_0 (a : Nat) (s P : wF) : cpN a 0 s P = P := by
  funext j
  have h : ¬ (a ≤ j ∧ j < a + 0) := by omega
  exact if_neg h
theorem cpN_s (a i : Nat) (s P : wF) : upd (cpN a i s P) (a + i) (s i) = cpN a (i + 1) s P := by
  funext j
  by_cases h : j = a + i
  · subst h
    have h2 : a ≤ a + i ∧ a + i < a + (i + 1) := by omega
    rw [upd_s]
    show s i = if a ≤ a + i ∧ a + i < a + (i + 1) then s (a + i - a) else P (a + i)
    rw [if_pos h2, Nat.add_sub_cancel_left]
  · rw [upd_n h]
    show (if a ≤ j ∧ j < a + i then s (j - a) else P j) = if a ≤ j ∧ j < a + (i + 1) then s (j - a) else P j
    have e : (a ≤ j ∧ j < a + (i + 1)) ↔ (a ≤ j ∧ j < a + i) := by omega
    simp only [e]
def chgQ (s P : wF) (p : Nat) : wF := if p = 4 then cpN (269 * 3) 269 s (shN 807 P) else cpN (269 * p) 269 s P

theorem kX7_changes_f13 : Cond.fieldLink RX7 13 "SkewedSquareModel" "past" "[I" ∈ wsX7_changes := by decide +kernel
theorem kX7_changes_f25 : Cond.fieldLink RX7 25 "SkewedSquareModel" "pasts" "I" ∈ wsX7_changes := by decide +kernel
theorem kX7_changes_f7 : Cond.fieldLink RX7 7 "SkewedSquareModel" "s" "[I" ∈ wsX7_changes := by decide +kernel
theorem khX7_changes_X7 : ∀ w ∈ u_ws RX7 TX7 16, w ∈ wsX7_changes := by decide +kernel
set_option maxHeartbeats 4000000 in
set_option maxRecDepth 100000 in
/-- kX7_changes -/
theorem kX7_changes (l : Launch) (G : wG) (r : RA) (s P U : wF) (p : Nat) (X : wF) (y q0 : Nat) (q1 : Int32) (q2 : Nat) (q3 : Int32) (sp re : Nat) (B : wF) (wd hg ow : Nat) (hp : p ≤ 4) : CV (S := Unit) l yX7_changes wsX7_changes (rm 0 0) G [.ref r.1] (wU G r (s, P, U, p, X, y, q0, q1, q2, q3, sp, re, B, wd, hg, ow)) (fun u9 => True) (fun u9 => wU G r (s, chgQ s P p, U, chgN p, X, y, q0, q1, q2, q3, sp, re, B, wd, hg, ow)) := by
  refine CV.of (own := RX7) rfl (by decide) rfl (Nat.le_of_ble_eq_true rfl) ?_
  intro p9 e9 s9 m9 b9 t9 c9 A xE xB xM xO xT xK xP xD Q xQ xS ls hl
  have xL : lv_has ls 2 [(0, .ref r.1)] := hl
  refine lv_aload_n xE xB dX7_changes_0 rfl (lv_at xL 0 rfl) ?_
  refine va_get (D := G.1) (ci := 7) (v := .int (nI p)) (C := RX7) (T := TX7) (N := 16) xE xB xT khX7_changes_X7 xO xK.1 xP 0 rfl rfl 3 (by decide) (xT _ kX7_changes_f25) (fun _ h9 => h9) rfl dX7_changes_1 ?_
  refine lv_iconst (v := nI 4) xE xB dX7_changes_4 (by decide) ?_
  refine q_icmp_ne (tgt := 49) xE xB dX7_changes_5 (by decide) (by omega) (by omega) (fun c_5 => ?_) (fun c_5 => ?_)
  · skip
    refine lv_iconst (v := nI 0) xE xB dX7_changes_49 (by decide) ?_
    refine lv_istore_n (lv' := [(1, .int (nI 0)), (0, .ref r.1)]) xE xB dX7_changes_50 rfl xL (by decide) rfl (fun ls xL => ?_)
    have L_51 : ∀ (n_51 : Nat) (i : Nat) (z : wF), (i ≤ 269) → (z = cpN (269 * p) i s P) → 269 - i < n_51 → ∀ (H : Heap) (locs : List Loc), va_P G.1 vwCl (wU G r (s, z, U, p, X, y, q0, q1, q2, q3, sp, re, B, wd, hg, ow)) H → va_D A (wU G r (s, z, U, p, X, y, q0, q1, q2, q3, sp, re, B, wd, hg, ow)) → va_S A s9.heap H locs → ∀ (ls : Array Slot), lv_has ls 2 [(0, .ref r.1), (1, .int (nI i))] → W p9 l e9 (rm 0 0) s9 m9 ([.ref r.1] : List Value).toArray b9 t9 c9 H locs 0 0 Q (F0 m9 51 ls []) := by
      intro n_51
      induction n_51 with
      | zero => intro i z hi hz hm_51 H locs xP xD xS ls xL; exact absurd hm_51 (Nat.not_lt_zero _)
      | succ n_51 ih_51 =>
        intro i z hi hz hm_51 H locs xP xD xS ls xL
        refine lv_iload_n xE xB dX7_changes_51 rfl (lv_at xL 1 rfl) ?_
        refine lv_sipush (v := nI 269) xE xB dX7_changes_52 (by decide) ?_
        refine q_icmp_ge (tgt := 85) xE xB dX7_changes_55 (by decide) (by omega) (by omega) (fun c_55 => ?_) (fun c_55 => ?_)
        · skip
          refine lv_aload_n xE xB dX7_changes_85 rfl (lv_at xL 0 rfl) ?_
          refine lv_dup xE xB dX7_changes_86 rfl ?_
          refine va_get (D := G.1) (ci := 7) (v := .int (nI p)) (C := RX7) (T := TX7) (N := 16) xE xB xT khX7_changes_X7 xO xK.1 xP 0 rfl rfl 3 (by decide) (xT _ kX7_changes_f25) (fun _ h9 => h9) rfl dX7_changes_87 ?_
          refine lv_iconst (v := nI 1) xE xB dX7_changes_90 (by decide) ?_
          refine q_iadd xE xB dX7_changes_91 ?_
          refine va_put (D := G.1) (ci := 7) (v := .int (nI (p + 1))) (ty := .int) (C := RX7) (T := TX7) (N := 16) xE xB xT khX7_changes_X7 tyX7 tyX7_ok nmX7 xO xK.1 xP xD xS 0 rfl rfl 3 (by decide) (xT _ kX7_changes_f25) (fun _ h9 => h9) rfl (by decide +kernel) rfl rfl (Nat.le_of_ble_eq_true rfl) dX7_changes_92 (fun H locs xP xD xS => ?_)
          have xP : va_P G.1 vwCl (wU G r (s, z, U, p + 1, X, y, q0, q1, q2, q3, sp, re, B, wd, hg, ow)) H := xP
          have xD : va_D A (wU G r (s, z, U, p + 1, X, y, q0, q1, q2, q3, sp, re, B, wd, hg, ow)) := xD
          obtain rfl : i = 269 := by omega
          subst hz
          have eq1 : chgQ s P p = cpN (269 * p) 269 s P := if_neg c_5
          have eq2 : chgN p = p + 1 := if_neg c_5
          exact xQ _ _ _ _ () trivial (by rw [eq1, eq2]; exact xP) (by rw [eq1, eq2]; exact xD) xS dX7_changes_95
        · skip
          refine lv_aload_n xE xB dX7_changes_58 rfl (lv_at xL 0 rfl) ?_
          refine va_get (D := G.1) (ci := 7) (v := .ref r.2.2.1) (C := RX7) (T := TX7) (N := 16) xE xB xT khX7_changes_X7 xO xK.1 xP 0 rfl rfl 1 (by decide) (xT _ kX7_changes_f13) (fun _ h9 => h9) rfl dX7_changes_59 ?_
          refine lv_sipush (v := nI 269) xE xB dX7_changes_62 (by decide) ?_
          refine lv_aload_n xE xB dX7_changes_65 rfl (lv_at xL 0 rfl) ?_
          refine va_get (D := G.1) (ci := 7) (v := .int (nI p)) (C := RX7) (T := TX7) (N := 16) xE xB xT khX7_changes_X7 xO xK.1 xP 0 rfl rfl 3 (by decide) (xT _ kX7_changes_f25) (fun _ h9 => h9) rfl dX7_changes_66 ?_
          refine q_imul xE xB dX7_changes_69 ?_
          refine lv_iload_n xE xB dX7_changes_70 rfl (lv_at xL 1 rfl) ?_
          refine q_iadd xE xB dX7_changes_71 ?_
          refine lv_aload_n xE xB dX7_changes_72 rfl (lv_at xL 0 rfl) ?_
          refine va_get (D := G.1) (ci := 7) (v := .ref r.2.1) (C := RX7) (T := TX7) (N := 16) xE xB xT khX7_changes_X7 xO xK.1 xP 0 rfl rfl 0 (by decide) (xT _ kX7_changes_f7) (fun _ h9 => h9) rfl dX7_changes_73 ?_
          refine lv_iload_n xE xB dX7_changes_76 rfl (lv_at xL 1 rfl) ?_
          refine q_ald xE xB xK xP 1 rfl (by omega) (by decide) dX7_changes_77 ?_
          refine q_ast xE xB xK xP xD xS 2 rfl (by omega) (by decide) dX7_changes_78 (fun H locs xP xD xS => ?_)
          have xP : va_P G.1 vwCl (wU G r (s, upd z ((269 * p) + i) (s i), U, p, X, y, q0, q1, q2, q3, sp, re, B, wd, hg, ow)) H := xP
          have xD : va_D A (wU G r (s, upd z ((269 * p) + i) (s i), U, p, X, y, q0, q1, q2, q3, sp, re, B, wd, hg, ow)) := xD
          refine lv_iinc (v := nI (i + 1)) (lv' := [(1, .int (nI (i + 1))), (0, .ref r.1)]) xE xB dX7_changes_79 xL (k := 1) rfl (q_inc _ _) (by decide) rfl (fun ls xL => ?_)
          refine lv_goto (tgt := 51) xE xB dX7_changes_82 (by decide) ?_
          exact ih_51 (i + 1) (upd z (269 * p + i) (s i)) (by omega) (by rw [hz]; exact cpN_s _ _ _ _) (by omega) _ _ xP xD xS _ (lv_sub xL [1, 0] rfl)
    exact L_51 (269 - 0 + 1) 0 P (by omega) (by exact (cpN_0 _ _ _).symm) (Nat.lt_succ_self _) _ _ xP xD xS _ (lv_sub xL [1, 0] rfl)
  · skip
    subst c_5
    refine lv_iconst (v := nI 0) xE xB dX7_changes_8 (by decide) ?_
    refine lv_istore_n (lv' := [(1, .int (nI 0)), (0, .ref r.1)]) xE xB dX7_changes_9 rfl xL (by decide) rfl (fun ls xL => ?_)
    have L_10 : ∀ (n_10 : Nat) (i : Nat) (z : wF), (i ≤ 807) → (z = shN i P) → 807 - i < n_10 → ∀ (H : Heap) (locs : List Loc), va_P G.1 vwCl (wU G r (s, z, U, 4, X, y, q0, q1, q2, q3, sp, re, B, wd, hg, ow)) H → va_D A (wU G r (s, z, U, 4, X, y, q0, q1, q2, q3, sp, re, B, wd, hg, ow)) → va_S A s9.heap H locs → ∀ (ls : Array Slot), lv_has ls 2 [(0, .ref r.1), (1, .int (nI i))] → W p9 l e9 (rm 0 0) s9 m9 ([.ref r.1] : List Value).toArray b9 t9 c9 H locs 0 0 Q (F0 m9 10 ls []) := by
      intro n_10
      induction n_10 with
      | zero => intro i z hi hz hm_10 H locs xP xD xS ls xL; exact absurd hm_10 (Nat.not_lt_zero _)
      | succ n_10 ih_10 =>
        intro i z hi hz hm_10 H locs xP xD xS ls xL
        refine lv_iload_n xE xB dX7_changes_10 rfl (lv_at xL 1 rfl) ?_
        refine lv_sipush (v := nI 807) xE xB dX7_changes_11 (by decide) ?_
        refine q_icmp_ge (tgt := 39) xE xB dX7_changes_14 (by decide) (by omega) (by omega) (fun c_14 => ?_) (fun c_14 => ?_)
        · skip
          obtain rfl : i = 807 := by omega
          subst hz
          refine lv_aload_n xE xB dX7_changes_39 rfl (lv_at xL 0 rfl) ?_
          refine lv_dup xE xB dX7_changes_40 rfl ?_
          refine va_get (D := G.1) (ci := 7) (v := .int (nI 4)) (C := RX7) (T := TX7) (N := 16) xE xB xT khX7_changes_X7 xO xK.1 xP 0 rfl rfl 3 (by decide) (xT _ kX7_changes_f25) (fun _ h9 => h9) rfl dX7_changes_41 ?_
          refine lv_iconst (v := nI 1) xE xB dX7_changes_44 (by decide) ?_
          refine q_isub xE xB dX7_changes_45 (by omega) ?_
          refine q_eq (y := nI 3) rfl ?_
          refine va_put (D := G.1) (ci := 7) (v := .int (nI 3)) (ty := .int) (C := RX7) (T := TX7) (N := 16) xE xB xT khX7_changes_X7 tyX7 tyX7_ok nmX7 xO xK.1 xP xD xS 0 rfl rfl 3 (by decide) (xT _ kX7_changes_f25) (fun _ h9 => h9) rfl (by decide +kernel) rfl rfl (Nat.le_of_ble_eq_true rfl) dX7_changes_46 (fun H locs xP xD xS => ?_)
          have xP : va_P G.1 vwCl (wU G r (s, shN 807 P, U, 3, X, y, q0, q1, q2, q3, sp, re, B, wd, hg, ow)) H := xP
          have xD : va_D A (wU G r (s, shN 807 P, U, 3, X, y, q0, q1, q2, q3, sp, re, B, wd, hg, ow)) := xD
          have xP : va_P G.1 vwCl (wU G r (s, shN 807 P, U, 3, X, y, q0, q1, q2, q3, sp, re, B, wd, hg, ow)) H := xP
          have xD : va_D A (wU G r (s, shN 807 P, U, 3, X, y, q0, q1, q2, q3, sp, re, B, wd, hg, ow)) := xD
          refine lv_iconst (v := nI 0) xE xB dX7_changes_49 (by decide) ?_
          refine lv_istore_n (lv' := [(1, .int (nI 0)), (0, .ref r.1)]) xE xB dX7_changes_50 rfl xL (by decide) rfl (fun ls xL => ?_)
          have L_51 : ∀ (n_51 : Nat) (i : Nat) (z : wF), (i ≤ 269) → (z = cpN (269 * 3) i s (shN 807 P)) → 269 - i < n_51 → ∀ (H : Heap) (locs : List Loc), va_P G.1 vwCl (wU G r (s, z, U, 3, X, y, q0, q1, q2, q3, sp, re, B, wd, hg, ow)) H → va_D A (wU G r (s, z, U, 3, X, y, q0, q1, q2, q3, sp, re, B, wd, hg, ow)) → va_S A s9.heap H locs → ∀ (ls : Array Slot), lv_has ls 2 [(0, .ref r.1), (1, .int (nI i))] → W p9 l e9 (rm 0 0) s9 m9 ([.ref r.1] : List Value).toArray b9 t9 c9 H locs 0 0 Q (F0 m9 51 ls []) := by
            intro n_51
            induction n_51 with
            | zero => intro i z hi hz hm_51 H locs xP xD xS ls xL; exact absurd hm_51 (Nat.not_lt_zero _)
            | succ n_51 ih_51 =>
              intro i z hi hz hm_51 H locs xP xD xS ls xL
              refine lv_iload_n xE xB dX7_changes_51 rfl (lv_at xL 1 rfl) ?_
              refine lv_sipush (v := nI 269) xE xB dX7_changes_52 (by decide) ?_
              refine q_icmp_ge (tgt := 85) xE xB dX7_changes_55 (by decide) (by omega) (by omega) (fun c_55 => ?_) (fun c_55 => ?_)
              · skip
                refine lv_aload_n xE xB dX7_changes_85 rfl (lv_at xL 0 rfl) ?_
                refine lv_dup xE xB dX7_changes_86 rfl ?_
                refine va_get (D := G.1) (ci := 7) (v := .int (nI 3)) (C := RX7) (T := TX7) (N := 16) xE xB xT khX7_changes_X7 xO xK.1 xP 0 rfl rfl 3 (by decide) (xT _ kX7_changes_f25) (fun _ h9 => h9) rfl dX7_changes_87 ?_
                refine lv_iconst (v := nI 1) xE xB dX7_changes_90 (by decide) ?_
                refine q_iadd xE xB dX7_changes_91 ?_
                refine q_eq (y := nI 4) rfl ?_
                refine va_put (D := G.1) (ci := 7) (v := .int (nI 4)) (ty := .int) (C := RX7) (T := TX7) (N := 16) xE xB xT khX7_changes_X7 tyX7 tyX7_ok nmX7 xO xK.1 xP xD xS 0 rfl rfl 3 (by decide) (xT _ kX7_changes_f25) (fun _ h9 => h9) rfl (by decide +kernel) rfl rfl (Nat.le_of_ble_eq_true rfl) dX7_changes_92 (fun H locs xP xD xS => ?_)
                have xP : va_P G.1 vwCl (wU G r (s, z, U, 4, X, y, q0, q1, q2, q3, sp, re, B, wd, hg, ow)) H := xP
                have xD : va_D A (wU G r (s, z, U, 4, X, y, q0, q1, q2, q3, sp, re, B, wd, hg, ow)) := xD
                obtain rfl : i = 269 := by omega
                subst hz
                exact xQ _ _ _ _ () trivial xP xD xS dX7_changes_95
              · skip
                refine lv_aload_n xE xB dX7_changes_58 rfl (lv_at xL 0 rfl) ?_
                refine va_get (D := G.1) (ci := 7) (v := .ref r.2.2.1) (C := RX7) (T := TX7) (N := 16) xE xB xT khX7_changes_X7 xO xK.1 xP 0 rfl rfl 1 (by decide) (xT _ kX7_changes_f13) (fun _ h9 => h9) rfl dX7_changes_59 ?_
                refine lv_sipush (v := nI 269) xE xB dX7_changes_62 (by decide) ?_
                refine lv_aload_n xE xB dX7_changes_65 rfl (lv_at xL 0 rfl) ?_
                refine va_get (D := G.1) (ci := 7) (v := .int (nI 3)) (C := RX7) (T := TX7) (N := 16) xE xB xT khX7_changes_X7 xO xK.1 xP 0 rfl rfl 3 (by decide) (xT _ kX7_changes_f25) (fun _ h9 => h9) rfl dX7_changes_66 ?_
                refine q_imul xE xB dX7_changes_69 ?_
                refine q_eq (y := nI 807) rfl ?_
                refine lv_iload_n xE xB dX7_changes_70 rfl (lv_at xL 1 rfl) ?_
                refine q_iadd xE xB dX7_changes_71 ?_
                refine lv_aload_n xE xB dX7_changes_72 rfl (lv_at xL 0 rfl) ?_
                refine va_get (D := G.1) (ci := 7) (v := .ref r.2.1) (C := RX7) (T := TX7) (N := 16) xE xB xT khX7_changes_X7 xO xK.1 xP 0 rfl rfl 0 (by decide) (xT _ kX7_changes_f7) (fun _ h9 => h9) rfl dX7_changes_73 ?_
                refine lv_iload_n xE xB dX7_changes_76 rfl (lv_at xL 1 rfl) ?_
                refine q_ald xE xB xK xP 1 rfl (by omega) (by decide) dX7_changes_77 ?_
                refine q_ast xE xB xK xP xD xS 2 rfl (by omega) (by decide) dX7_changes_78 (fun H locs xP xD xS => ?_)
                have xP : va_P G.1 vwCl (wU G r (s, upd z (807 + i) (s i), U, 3, X, y, q0, q1, q2, q3, sp, re, B, wd, hg, ow)) H := xP
                have xD : va_D A (wU G r (s, upd z (807 + i) (s i), U, 3, X, y, q0, q1, q2, q3, sp, re, B, wd, hg, ow)) := xD
                refine lv_iinc (v := nI (i + 1)) (lv' := [(1, .int (nI (i + 1))), (0, .ref r.1)]) xE xB dX7_changes_79 xL (k := 1) rfl (q_inc _ _) (by decide) rfl (fun ls xL => ?_)
                refine lv_goto (tgt := 51) xE xB dX7_changes_82 (by decide) ?_
                exact ih_51 (i + 1) (upd z (269 * 3 + i) (s i)) (by omega) (by rw [hz]; exact cpN_s _ _ _ _) (by omega) _ _ xP xD xS _ (lv_sub xL [1, 0] rfl)
          exact L_51 (269 - 0 + 1) 0 (shN 807 P) (by omega) (by exact (cpN_0 _ _ _).symm) (Nat.lt_succ_self _) _ _ xP xD xS _ (lv_sub xL [1, 0] rfl)
        · skip
          refine lv_aload_n xE xB dX7_changes_17 rfl (lv_at xL 0 rfl) ?_
          refine va_get (D := G.1) (ci := 7) (v := .ref r.2.2.1) (C := RX7) (T := TX7) (N := 16) xE xB xT khX7_changes_X7 xO xK.1 xP 0 rfl rfl 1 (by decide) (xT _ kX7_changes_f13) (fun _ h9 => h9) rfl dX7_changes_18 ?_
          refine lv_iload_n xE xB dX7_changes_21 rfl (lv_at xL 1 rfl) ?_
          refine lv_aload_n xE xB dX7_changes_22 rfl (lv_at xL 0 rfl) ?_
          refine va_get (D := G.1) (ci := 7) (v := .ref r.2.2.1) (C := RX7) (T := TX7) (N := 16) xE xB xT khX7_changes_X7 xO xK.1 xP 0 rfl rfl 1 (by decide) (xT _ kX7_changes_f13) (fun _ h9 => h9) rfl dX7_changes_23 ?_
          refine lv_iload_n xE xB dX7_changes_26 rfl (lv_at xL 1 rfl) ?_
          refine lv_sipush (v := nI 269) xE xB dX7_changes_27 (by decide) ?_
          refine q_iadd xE xB dX7_changes_30 ?_
          refine q_ald xE xB xK xP 2 rfl (by omega) (by decide) dX7_changes_31 ?_
          refine q_ast xE xB xK xP xD xS 2 rfl (by omega) (by decide) dX7_changes_32 (fun H locs xP xD xS => ?_)
          have xP : va_P G.1 vwCl (wU G r (s, upd z i (z (i + 269)), U, 4, X, y, q0, q1, q2, q3, sp, re, B, wd, hg, ow)) H := xP
          have xD : va_D A (wU G r (s, upd z i (z (i + 269)), U, 4, X, y, q0, q1, q2, q3, sp, re, B, wd, hg, ow)) := xD
          refine lv_iinc (v := nI (i + 1)) (lv' := [(1, .int (nI (i + 1))), (0, .ref r.1)]) xE xB dX7_changes_33 xL (k := 1) rfl (q_inc _ _) (by decide) rfl (fun ls xL => ?_)
          refine lv_goto (tgt := 10) xE xB dX7_changes_36 (by decide) ?_
          exact ih_10 (i + 1) (upd z i (z (i + 269))) (by omega) (by rw [hz]; exact shN_s _ _) (by omega) _ _ xP xD xS _ (lv_sub xL [1, 0] rfl)
    exact L_10 (807 - 0 + 1) 0 P (by omega) (by exact (shN_0 P).symm) (Nat.lt_succ_self _) _ _ xP xD xS _ (lv_sub xL [1, 0] rfl)
