/-! ref12: the reference's text beside the scan -/
section SCN
variable {T : Nat → Nat} {i tl fp row col wid ng dg vl : Nat} {f B : wF}
theorem stk_1 {z v : AS} (h : stk T z i = v) (h0 : v.2.1 = 0) : stk T z (i + 1) = stepA i (T i) v := by
  show (if (stk T z i).2.1 = 0 then stepA i (T i) (stk T z i) else stk T z i) = _
  rw [h, if_pos h0]
theorem st_dig (h : stk T zA i = (fp, 0, row, col, wid, ng, dg, vl, f)) (h1 : 48 ≤ T i ∧ T i ≤ 57) (h2 : dg < 2) : stk T zA (i + 1) = (fp, 0, row, col, wid, ng, dg + 1, vl * 10 + (T i - 48), f) := by
  rw [stk_1 h rfl]
  exact if_pos ⟨h1.1, h1.2, h2⟩
theorem st_min (h : stk T zA i = (fp, 0, row, col, wid, 0, 0, 0, f)) (h1 : T i = 45) : stk T zA (i + 1) = (fp, 0, row, col, wid, 1, 0, 0, f) := by
  rw [stk_1 h rfl]
  exact (if_neg (by omega)).trans (if_pos ⟨h1, rfl, rfl⟩)
theorem st_comma (h : stk T zA i = (fp, 0, row, col, wid, ng, dg, vl, f)) (h1 : T i = 44) (h2 : 0 < dg) : stk T zA (i + 1) = commaA i (fp, 0, row, col, wid, ng, dg, vl, f) := by
  rw [stk_1 h rfl]
  exact (if_neg (by omega)).trans ((if_neg (by omega)).trans (if_pos ⟨h1, h2⟩))
theorem st_semi (h : stk T zA i = (fp, 0, row, col, wid, ng, dg, vl, f)) (h1 : T i = 59) (h2 : 0 < dg) : stk T zA (i + 1) = semiA i (fp, 0, row, col, wid, ng, dg, vl, f) := by
  rw [stk_1 h rfl]
  exact (if_neg (by omega)).trans ((if_neg (by omega)).trans ((if_neg (by omega)).trans (if_pos ⟨h1, h2⟩)))
theorem st_bad (h : stk T zA i = (fp, 0, row, col, wid, ng, dg, vl, f)) (h1 : ¬ (48 ≤ T i ∧ T i ≤ 57 ∧ dg < 2)) (h2 : ¬ (T i = 45 ∧ dg = 0 ∧ ng = 0)) (h3 : ¬ (T i = 44 ∧ 0 < dg)) (h4 : ¬ (T i = 59 ∧ 0 < dg)) : stk T zA (i + 1) = (i, 1, row, col, wid, ng, dg, vl, f) := by
  rw [stk_1 h rfl]
  exact (if_neg h1).trans ((if_neg h2).trans ((if_neg h3).trans (if_neg h4)))
theorem sc_bad {v : AS} {k : Nat} (h : stk T zA k = v) (hre : v.2.1 ≠ 0) (hk : k ≤ tl) : scR T tl = v.2.1 ∧ scP T tl = v.1 := by
  have e := stk_stop (T := T) (z := zA) (i := k) (by rw [h]; exact hre) tl hk
  unfold scR scP scanA
  rw [e, h, if_neg hre]
  exact ⟨rfl, rfl⟩
theorem sc_end (h : stk T zA tl = (fp, 0, row, col, wid, ng, dg, vl, f)) : scanA T tl zA = finA tl (fp, 0, row, col, wid, ng, dg, vl, f) := by
  unfold scanA
  rw [h]
  exact if_pos rfl
theorem rg_no (hk : i ≤ tl) (h : stk T zA i = (fp, 0, row, col, wid, ng, 0, 0, f)) (hc : i = tl ∨ (¬ (48 ≤ T i ∧ T i ≤ 57) ∧ (T i = 45 → ng = 1))) : scR T tl = 1 ∧ scP T tl = i := by
  by_cases e : i = tl
  · subst e
    unfold scR scP
    rw [sc_end h]
    exact ⟨rfl, rfl⟩
  · have hc2 : ¬ (48 ≤ T i ∧ T i ≤ 57) ∧ (T i = 45 → ng = 1) := by
      rcases hc with q | q
      · exact absurd q e
      · exact q
    have g := st_bad h (fun q => hc2.1 ⟨q.1, q.2.1⟩) (fun q => by have := hc2.2 q.1; omega) (fun q => absurd q.2 (Nat.lt_irrefl 0)) (fun q => absurd q.2 (Nat.lt_irrefl 0))
    exact sc_bad g (Nat.one_ne_zero) (by omega)
theorem rg_bad1 (hk : i < tl) (h : stk T zA i = (fp, 0, row, col, wid, ng, dg, vl, f)) (hd : 0 < dg) (hc : dg = 2 ∨ i = tl ∨ ¬ (48 ≤ T i ∧ T i ≤ 57)) (h44 : T i ≠ 44) (h59 : T i ≠ 59) : scR T tl = 1 ∧ scP T tl = i := by
  have g := st_bad h (by omega) (by omega) (by omega) (by omega)
  exact sc_bad g (Nat.one_ne_zero) (by omega)
theorem rg_comma2 (hk : i < tl) (h : stk T zA i = (fp, 0, row, col, wid, ng, dg, vl, f)) (hd : 0 < dg) (h44 : T i = 44) (hw : wid ≤ col + 1) : scR T tl = 2 ∧ scP T tl = i := by
  have g := st_comma h h44 hd
  have e : commaA i (fp, 0, row, col, wid, ng, dg, vl, f) = (i, 2, row, col, wid, ng, dg, vl, f) := if_pos hw
  rw [e] at g
  exact sc_bad g (show (2 : Nat) ≠ 0 by decide) (by omega)
theorem rg_comma (h : stk T zA i = (fp, 0, row, col, wid, ng, dg, vl, f)) (hd : 0 < dg) (h44 : T i = 44) (hw : ¬ wid ≤ col + 1) : stk T zA (i + 1) = (fp, 0, row, col + 1, wid, 0, 0, 0, upd f (6 * row + col) (sgnV ng vl)) := (st_comma h h44 hd).trans (if_neg hw)
theorem rg_semi2 (hk : i < tl) (h : stk T zA i = (fp, 0, row, col, wid, ng, dg, vl, f)) (hd : 0 < dg) (h59 : T i = 59) (hw : 6 ≤ row + 1 ∨ (0 < row ∧ col + 1 < wid)) : scR T tl = 2 ∧ scP T tl = i := by
  have g := st_semi h h59 hd
  have e : semiA i (fp, 0, row, col, wid, ng, dg, vl, f) = (i, 2, row, col, wid, ng, dg, vl, f) := if_pos hw
  rw [e] at g
  exact sc_bad g (show (2 : Nat) ≠ 0 by decide) (by omega)
theorem rg_semi (h : stk T zA i = (fp, 0, row, col, wid, ng, dg, vl, f)) (hd : 0 < dg) (h59 : T i = 59) (hw : ¬ (6 ≤ row + 1 ∨ (0 < row ∧ col + 1 < wid))) (hcw : col < wid) : stk T zA (i + 1) = (fp, 0, row + 1, 0, col + 1, 0, 0, 0, upd f (6 * row + col) (sgnV ng vl)) := by
  have e : (if row = 0 then col + 1 else wid) = col + 1 := by split <;> omega
  rw [← e]
  exact (st_semi h h59 hd).trans ((if_neg hw).trans (by rw [e]))
def AG (B f : wF) (row col wid : Nat) : Prop := ∀ a b, a < 6 → b < 6 → (a < row ∧ b < wid) ∨ (a = row ∧ b < col) → B (6 * a + b) = f (6 * a + b)
theorem ag_comma {v : Int32} (h : AG B f row col wid) : AG (upd B (6 * row + col) v) (upd f (6 * row + col) v) row (col + 1) wid := by
  intro a b ha hb hc
  by_cases e : 6 * a + b = 6 * row + col
  · rw [e, upd_s, upd_s]
  · rw [upd_n e, upd_n e]
    exact h a b ha hb (by omega)
theorem ag_semi {v : Int32} (h : AG B f row col wid) (hw : ¬ (0 < row ∧ col + 1 < wid)) (hcw : col < wid) : AG (upd B (6 * row + col) v) (upd f (6 * row + col) v) (row + 1) 0 (col + 1) := by
  intro a b ha hb hc
  by_cases e : 6 * a + b = 6 * row + col
  · rw [e, upd_s, upd_s]
  · rw [upd_n e, upd_n e]
    exact h a b ha hb (by omega)
theorem rg_end2 (h : stk T zA i = (fp, 0, row, col, wid, ng, dg, vl, f)) (e : i = tl) (hd : 0 < dg) (hs : 0 < row ∧ col + 1 < wid) : scR T tl = 2 ∧ scP T tl = i := by
  subst e
  have g : finA i (fp, 0, row, col, wid, ng, dg, vl, f) = ((i, 2, row, col, wid, ng, dg, vl, f), 6, 6) := (if_neg (by omega)).trans (if_pos hs)
  unfold scR scP
  rw [sc_end h, g]
  exact ⟨rfl, rfl⟩
theorem rg_end (h : stk T zA i = (fp, 0, row, col, wid, ng, dg, vl, f)) (e : i = tl) (hd : 0 < dg) (hs : ¬ (0 < row ∧ col + 1 < wid)) (hcw : col < wid) (hr : row < 6) (hw : wid ≤ 6) (hag : AG B f row col wid) :
    scR T tl = 0 ∧ row + 1 = scM T tl ∧ col + 1 = scC T tl ∧ ∀ a b, a < scM T tl → b < scC T tl → upd B (6 * row + col) (sgnV ng vl) (6 * a + b) = scF T tl (6 * a + b) := by
  subst e
  have e2 : (if row = 0 then col + 1 else wid) = col + 1 := by split <;> omega
  have g : finA i (fp, 0, row, col, wid, ng, dg, vl, f) = ((fp, 0, row, col, col + 1, 0, 0, 0, upd f (6 * row + col) (sgnV ng vl)), row + 1, col + 1) := by
    rw [← e2]
    refine (if_neg (by omega)).trans ((if_neg hs).trans ?_)
    rw [e2]
  unfold scR scM scC scF
  rw [sc_end h, g]
  exact ⟨rfl, rfl, rfl, fun a b ha hb => ag_semi hag hs hcw a b (Nat.lt_of_lt_of_le (show a < row + 1 from ha) (by omega)) (Nat.lt_of_lt_of_le (show b < col + 1 from hb) (by omega)) (Or.inl ⟨ha, hb⟩)⟩
theorem fz {m k : Nat} (h : scR T tl = m ∧ scP T tl = k) (hm : m ≠ 0) : scR T tl ≠ 0 ∧ k = scP T tl ∧ m = scR T tl := ⟨by rw [h.1]; exact hm, h.2.symm, h.1.symm⟩
end SCN

theorem kX7_isDigit_f131 : Cond.fieldLink RX7 131 "SkewedSquareModel" "typed" "I" ∈ wsX7_isDigit := by decide +kernel
theorem kX7_isDigit_f141 : Cond.fieldLink RX7 141 "SkewedSquareModel" "spot" "I" ∈ wsX7_isDigit := by decide +kernel
theorem kX7_isDigit_f19 : Cond.fieldLink RX7 19 "SkewedSquareModel" "text" "[I" ∈ wsX7_isDigit := by decide +kernel
theorem khX7_isDigit_X7 : ∀ w ∈ u_ws RX7 TX7 16, w ∈ wsX7_isDigit := by decide +kernel
set_option maxHeartbeats 4000000 in
set_option maxRecDepth 100000 in
/-- kX7_isDigit -/
theorem kX7_isDigit (l : Launch) (G : wG) (r : RA) (s P U : wF) (p : Nat) (X : wF) (y q0 : Nat) (q1 : Int32) (q2 : Nat) (q3 : Int32) (sp re : Nat) (B : wF) (wd hg ow : Nat) (T : Nat → Nat) (hX : RefX X T y) (hsp : sp ≤ 200) : CR l yX7_isDigit wsX7_isDigit (rm 1 22) G [.ref r.1] (wU G r (s, P, U, p, X, y, q0, q1, q2, q3, sp, re, B, wd, hg, ow)) (fun x => (x = nI 1 ∧ (sp < y ∧ 48 ≤ T sp ∧ T sp ≤ 57)) ∨ (x = nI 0 ∧ ¬ (sp < y ∧ 48 ≤ T sp ∧ T sp ≤ 57))) := by
  refine CR.ofZ (own := RX7) rfl (by decide) rfl (Nat.le_of_ble_eq_true rfl) ?_
  intro p9 e9 s9 m9 b9 t9 c9 xE xB xM xO xT xK xP Q xQ ls hl
  have xL : lv_has ls 1 [(0, .ref r.1)] := hl
  have hy8 := hX.1
  refine lv_aload_n xE xB dX7_isDigit_0 rfl (lv_at xL 0 rfl) ?_
  refine va_get (D := G.1) (ci := 7) (v := .int (nI sp)) (C := RX7) (T := TX7) (N := 16) xE xB xT khX7_isDigit_X7 xO xK.1 xP 0 rfl rfl 10 (by decide) (xT _ kX7_isDigit_f141) (fun _ h9 => h9) rfl dX7_isDigit_1 ?_
  refine lv_aload_n xE xB dX7_isDigit_4 rfl (lv_at xL 0 rfl) ?_
  refine va_get (D := G.1) (ci := 7) (v := .int (nI y)) (C := RX7) (T := TX7) (N := 16) xE xB xT khX7_isDigit_X7 xO xK.1 xP 0 rfl rfl 5 (by decide) (xT _ kX7_isDigit_f131) (fun _ h9 => h9) rfl dX7_isDigit_5 ?_
  refine q_icmp_ge (tgt := 34) xE xB dX7_isDigit_8 (by decide) (by omega) (by omega) (fun c_8 => ?_) (fun c_8 => ?_)
  · skip
    refine lv_iconst (v := nI 0) xE xB dX7_isDigit_34 (by decide) ?_
    exact xQ _ _ _ (Or.inr ⟨rfl, by (try replace c_24 := (in_R (by omega) (by omega)).mp c_24); (try replace c_24 := mt (in_R (by omega) (by omega)).mpr c_24); (try rw [nI_toInt (by omega)] at c_24); omega⟩) (by decide) dX7_isDigit_35
  · skip
    refine lv_aload_n xE xB dX7_isDigit_11 rfl (lv_at xL 0 rfl) ?_
    refine va_get (D := G.1) (ci := 7) (v := .ref r.2.2.2.2.1) (C := RX7) (T := TX7) (N := 16) xE xB xT khX7_isDigit_X7 xO xK.1 xP 0 rfl rfl 4 (by decide) (xT _ kX7_isDigit_f19) (fun _ h9 => h9) rfl dX7_isDigit_12 ?_
    refine lv_aload_n xE xB dX7_isDigit_15 rfl (lv_at xL 0 rfl) ?_
    refine va_get (D := G.1) (ci := 7) (v := .int (nI sp)) (C := RX7) (T := TX7) (N := 16) xE xB xT khX7_isDigit_X7 xO xK.1 xP 0 rfl rfl 10 (by decide) (xT _ kX7_isDigit_f141) (fun _ h9 => h9) rfl dX7_isDigit_16 ?_
    refine q_ald xE xB xK xP 4 rfl (by omega) (by decide) dX7_isDigit_19 ?_
    refine q_eq (y := nI (T sp)) (congrArg (fun z => z) ((hX.2 sp (by omega)).1)) ?_
    have hT9 := (hX.2 sp (by omega)).2
    refine lv_bipush (v := nI 48) xE xB dX7_isDigit_20 (by decide) ?_
    refine lv_bipush (v := nI 57) xE xB dX7_isDigit_22 (by decide) ?_
    refine q_SR (As := [.int (nI (T sp)), .int (nI 48), .int (nI 57)]) (rest := []) ⟨xE, xB, xM, xO, xT⟩ (kX7_in l G (nI (T sp)) (nI 48) (nI 57)) (va_cwS 3 xT gX7_isDigit_X7_in rfl rfl rfl (by decide +kernel) ⟨Nat.le_of_ble_eq_true rfl, Nat.le_of_ble_eq_true rfl⟩) xK xP [] rfl rfl xL.1 rfl (Nat.le_of_ble_eq_true rfl) dX7_isDigit_24 ⟨Nat.le_refl _, Nat.le_refl _⟩ (fun r_24 h_24 => ?_)
    rcases h_24 with ⟨h_24, c_24⟩ | ⟨h_24, c_24⟩
    · skip
      subst h_24
      have c_24 : ((nI 48) : Int32).toInt ≤ (nI (T sp)).toInt ∧ (nI (T sp)).toInt ≤ ((nI 57) : Int32).toInt := c_24
      refine lv_if_eq (tgt := 34) xE xB dX7_isDigit_27 (by decide) (fun h9 => absurd h9 (by decide)) (fun _ => ?_)
      refine lv_iconst (v := nI 1) xE xB dX7_isDigit_30 (by decide) ?_
      refine lv_goto (tgt := 35) xE xB dX7_isDigit_31 (by decide) ?_
      exact xQ _ _ _ (Or.inl ⟨rfl, by (try replace c_24 := (in_R (by omega) (by omega)).mp c_24); (try replace c_24 := mt (in_R (by omega) (by omega)).mpr c_24); (try rw [nI_toInt (by omega)] at c_24); omega⟩) (by decide) dX7_isDigit_35
    · skip
      subst h_24
      have c_24 : ¬ (((nI 48) : Int32).toInt ≤ (nI (T sp)).toInt ∧ (nI (T sp)).toInt ≤ ((nI 57) : Int32).toInt) := c_24
      refine lv_if_eq (tgt := 34) xE xB dX7_isDigit_27 (by decide) (fun _ => ?_) (fun h9 => absurd (by decide) h9)
      refine lv_iconst (v := nI 0) xE xB dX7_isDigit_34 (by decide) ?_
      exact xQ _ _ _ (Or.inr ⟨rfl, by (try replace c_24 := (in_R (by omega) (by omega)).mp c_24); (try replace c_24 := mt (in_R (by omega) (by omega)).mpr c_24); (try rw [nI_toInt (by omega)] at c_24); omega⟩) (by decide) dX7_isDigit_35
theorem kX7_fails_f153 : Cond.fieldLink RX7 153 "SkewedSquareModel" "reason" "I" ∈ wsX7_fails := by decide +kernel
theorem khX7_fails_X7 : ∀ w ∈ u_ws RX7 TX7 16, w ∈ wsX7_fails := by decide +kernel
set_option maxHeartbeats 4000000 in
set_option maxRecDepth 100000 in
/-- kX7_fails -/
theorem kX7_fails (l : Launch) (G : wG) (r : RA) (s P U : wF) (p : Nat) (X : wF) (y q0 : Nat) (q1 : Int32) (q2 : Nat) (q3 : Int32) (sp re : Nat) (B : wF) (wd hg ow : Nat) (k : Nat) : CI (S := Unit) l yX7_fails wsX7_fails (rm 0 0) G [.ref r.1, .int (nI k)] (wU G r (s, P, U, p, X, y, q0, q1, q2, q3, sp, re, B, wd, hg, ow)) (fun x u9 => x = nI 0) (fun u9 => wU G r (s, P, U, p, X, y, q0, q1, q2, q3, sp, k, B, wd, hg, ow)) := by
  refine CI.ofZ (own := RX7) rfl (by decide) rfl (Nat.le_of_ble_eq_true rfl) ?_
  intro p9 e9 s9 m9 b9 t9 c9 A xE xB xM xO xT xK xP xD Q xQ xS ls hl
  have xL : lv_has ls 2 [(0, .ref r.1), (1, .int (nI k))] := hl
  refine lv_aload_n xE xB dX7_fails_0 rfl (lv_at xL 0 rfl) ?_
  refine lv_iload_n xE xB dX7_fails_1 rfl (lv_at xL 1 rfl) ?_
  refine va_put (D := G.1) (ci := 7) (v := .int (nI k)) (ty := .int) (C := RX7) (T := TX7) (N := 16) xE xB xT khX7_fails_X7 tyX7 tyX7_ok nmX7 xO xK.1 xP xD xS 0 rfl rfl 11 (by decide) (xT _ kX7_fails_f153) (fun _ h9 => h9) rfl (by decide +kernel) rfl rfl (Nat.le_of_ble_eq_true rfl) dX7_fails_2 (fun H locs xP xD xS => ?_)
  have xP : va_P G.1 vwCl (wU G r (s, P, U, p, X, y, q0, q1, q2, q3, sp, k, B, wd, hg, ow)) H := xP
  have xD : va_D A (wU G r (s, P, U, p, X, y, q0, q1, q2, q3, sp, k, B, wd, hg, ow)) := xD
  refine lv_iconst (v := nI 0) xE xB dX7_fails_5 (by decide) ?_
  exact xQ _ _ _ _ _ () (congrArg nI (by first | rfl | omega)) (by decide) xP xD xS dX7_fails_6
theorem kX7_rowEnds_f147 : Cond.fieldLink RX7 147 "SkewedSquareModel" "high" "I" ∈ wsX7_rowEnds := by decide +kernel
theorem kX7_rowEnds_f150 : Cond.fieldLink RX7 150 "SkewedSquareModel" "own" "I" ∈ wsX7_rowEnds := by decide +kernel
theorem kX7_rowEnds_f156 : Cond.fieldLink RX7 156 "SkewedSquareModel" "wide" "I" ∈ wsX7_rowEnds := by decide +kernel
theorem khX7_rowEnds_X7 : ∀ w ∈ u_ws RX7 TX7 16, w ∈ wsX7_rowEnds := by decide +kernel
set_option maxHeartbeats 4000000 in
set_option maxRecDepth 100000 in
/-- kX7_rowEnds1 -/
theorem kX7_rowEnds1 (l : Launch) (G : wG) (r : RA) (s P U : wF) (p : Nat) (X : wF) (y q0 : Nat) (q1 : Int32) (q2 : Nat) (q3 : Int32) (sp re : Nat) (B : wF) (wd hg ow : Nat) (hhg : hg ≤ 5) (how : ow ≤ 6) (hwd : wd ≤ 6) : CI (S := Nat × Nat × Nat × Nat) l yX7_rowEnds wsX7_rowEnds (rm 1 21) G [.ref r.1, .int (nI 1)] (wU G r (s, P, U, p, X, y, q0, q1, q2, q3, sp, re, B, wd, hg, ow)) (fun x u9 => (x = nI 1 ∧ ((¬ (0 < hg ∧ ow < wd)) ∧ u9 = (re, ow, hg + 1, 0))) ∨ (x = nI 0 ∧ ((0 < hg ∧ ow < wd) ∧ u9 = (2, wd, hg, ow)))) (fun u9 => wU G r (s, P, U, p, X, y, q0, q1, q2, q3, sp, u9.1, B, u9.2.1, u9.2.2.1, u9.2.2.2)) := by
  refine CI.ofZ (own := RX7) rfl (by decide) rfl (Nat.le_of_ble_eq_true rfl) ?_
  intro p9 e9 s9 m9 b9 t9 c9 A xE xB xM xO xT xK xP xD Q xQ xS ls hl
  have xL : lv_has ls 2 [(0, .ref r.1), (1, .int (nI 1))] := hl
  refine lv_aload_n xE xB dX7_rowEnds_0 rfl (lv_at xL 0 rfl) ?_
  refine va_get (D := G.1) (ci := 7) (v := .int (nI hg)) (C := RX7) (T := TX7) (N := 16) xE xB xT khX7_rowEnds_X7 xO xK.1 xP 0 rfl rfl 14 (by decide) (xT _ kX7_rowEnds_f147) (fun _ h9 => h9) rfl dX7_rowEnds_1 ?_
  refine q_if_le (tgt := 18) xE xB dX7_rowEnds_4 (by decide) (by omega) (fun c_4 => ?_) (fun c_4 => ?_)
  · skip
    refine lv_aload_n xE xB dX7_rowEnds_18 rfl (lv_at xL 0 rfl) ?_
    refine va_get (D := G.1) (ci := 7) (v := .int (nI hg)) (C := RX7) (T := TX7) (N := 16) xE xB xT khX7_rowEnds_X7 xO xK.1 xP 0 rfl rfl 14 (by decide) (xT _ kX7_rowEnds_f147) (fun _ h9 => h9) rfl dX7_rowEnds_19 ?_
    refine lv_iconst (v := nI 5) xE xB dX7_rowEnds_22 (by decide) ?_
    refine q_icmp_ne (tgt := 36) xE xB dX7_rowEnds_23 (by decide) (by omega) (by omega) (fun c_23 => ?_) (fun c_23 => ?_)
    · skip
      refine lv_aload_n xE xB dX7_rowEnds_36 rfl (lv_at xL 0 rfl) ?_
      refine lv_aload_n xE xB dX7_rowEnds_37 rfl (lv_at xL 0 rfl) ?_
      refine va_get (D := G.1) (ci := 7) (v := .int (nI ow)) (C := RX7) (T := TX7) (N := 16) xE xB xT khX7_rowEnds_X7 xO xK.1 xP 0 rfl rfl 15 (by decide) (xT _ kX7_rowEnds_f150) (fun _ h9 => h9) rfl dX7_rowEnds_38 ?_
      refine va_put (D := G.1) (ci := 7) (v := .int (nI ow)) (ty := .int) (C := RX7) (T := TX7) (N := 16) xE xB xT khX7_rowEnds_X7 tyX7 tyX7_ok nmX7 xO xK.1 xP xD xS 0 rfl rfl 13 (by decide) (xT _ kX7_rowEnds_f156) (fun _ h9 => h9) rfl (by decide +kernel) rfl rfl (Nat.le_of_ble_eq_true rfl) dX7_rowEnds_41 (fun H locs xP xD xS => ?_)
      have xP : va_P G.1 vwCl (wU G r (s, P, U, p, X, y, q0, q1, q2, q3, sp, re, B, ow, hg, ow)) H := xP
      have xD : va_D A (wU G r (s, P, U, p, X, y, q0, q1, q2, q3, sp, re, B, ow, hg, ow)) := xD
      refine lv_aload_n xE xB dX7_rowEnds_44 rfl (lv_at xL 0 rfl) ?_
      refine lv_dup xE xB dX7_rowEnds_45 rfl ?_
      refine va_get (D := G.1) (ci := 7) (v := .int (nI hg)) (C := RX7) (T := TX7) (N := 16) xE xB xT khX7_rowEnds_X7 xO xK.1 xP 0 rfl rfl 14 (by decide) (xT _ kX7_rowEnds_f147) (fun _ h9 => h9) rfl dX7_rowEnds_46 ?_
      refine lv_iconst (v := nI 1) xE xB dX7_rowEnds_49 (by decide) ?_
      refine q_iadd xE xB dX7_rowEnds_50 ?_
      refine va_put (D := G.1) (ci := 7) (v := .int (nI (hg + 1))) (ty := .int) (C := RX7) (T := TX7) (N := 16) xE xB xT khX7_rowEnds_X7 tyX7 tyX7_ok nmX7 xO xK.1 xP xD xS 0 rfl rfl 14 (by decide) (xT _ kX7_rowEnds_f147) (fun _ h9 => h9) rfl (by decide +kernel) rfl rfl (Nat.le_of_ble_eq_true rfl) dX7_rowEnds_51 (fun H locs xP xD xS => ?_)
      have xP : va_P G.1 vwCl (wU G r (s, P, U, p, X, y, q0, q1, q2, q3, sp, re, B, ow, hg + 1, ow)) H := xP
      have xD : va_D A (wU G r (s, P, U, p, X, y, q0, q1, q2, q3, sp, re, B, ow, hg + 1, ow)) := xD
      refine lv_aload_n xE xB dX7_rowEnds_54 rfl (lv_at xL 0 rfl) ?_
      refine lv_iconst (v := nI 0) xE xB dX7_rowEnds_55 (by decide) ?_
      refine va_put (D := G.1) (ci := 7) (v := .int (nI 0)) (ty := .int) (C := RX7) (T := TX7) (N := 16) xE xB xT khX7_rowEnds_X7 tyX7 tyX7_ok nmX7 xO xK.1 xP xD xS 0 rfl rfl 15 (by decide) (xT _ kX7_rowEnds_f150) (fun _ h9 => h9) rfl (by decide +kernel) rfl rfl (Nat.le_of_ble_eq_true rfl) dX7_rowEnds_56 (fun H locs xP xD xS => ?_)
      have xP : va_P G.1 vwCl (wU G r (s, P, U, p, X, y, q0, q1, q2, q3, sp, re, B, ow, hg + 1, 0)) H := xP
      have xD : va_D A (wU G r (s, P, U, p, X, y, q0, q1, q2, q3, sp, re, B, ow, hg + 1, 0)) := xD
      refine lv_iconst (v := nI 1) xE xB dX7_rowEnds_59 (by decide) ?_
      exact xQ _ _ _ _ _ (re, ow, hg + 1, 0) (Or.inl ⟨rfl, by exact ⟨by omega, rfl⟩⟩) (by decide) xP xD xS dX7_rowEnds_60
    · skip
      refine lv_iload_n xE xB dX7_rowEnds_26 rfl (lv_at xL 1 rfl) ?_
      refine lv_if_ne (tgt := 36) xE xB dX7_rowEnds_27 (by decide) (fun _ => ?_) (fun h9 => absurd h9 (by decide))
      refine lv_aload_n xE xB dX7_rowEnds_36 rfl (lv_at xL 0 rfl) ?_
      refine lv_aload_n xE xB dX7_rowEnds_37 rfl (lv_at xL 0 rfl) ?_
      refine va_get (D := G.1) (ci := 7) (v := .int (nI ow)) (C := RX7) (T := TX7) (N := 16) xE xB xT khX7_rowEnds_X7 xO xK.1 xP 0 rfl rfl 15 (by decide) (xT _ kX7_rowEnds_f150) (fun _ h9 => h9) rfl dX7_rowEnds_38 ?_
      refine va_put (D := G.1) (ci := 7) (v := .int (nI ow)) (ty := .int) (C := RX7) (T := TX7) (N := 16) xE xB xT khX7_rowEnds_X7 tyX7 tyX7_ok nmX7 xO xK.1 xP xD xS 0 rfl rfl 13 (by decide) (xT _ kX7_rowEnds_f156) (fun _ h9 => h9) rfl (by decide +kernel) rfl rfl (Nat.le_of_ble_eq_true rfl) dX7_rowEnds_41 (fun H locs xP xD xS => ?_)
      have xP : va_P G.1 vwCl (wU G r (s, P, U, p, X, y, q0, q1, q2, q3, sp, re, B, ow, hg, ow)) H := xP
      have xD : va_D A (wU G r (s, P, U, p, X, y, q0, q1, q2, q3, sp, re, B, ow, hg, ow)) := xD
      refine lv_aload_n xE xB dX7_rowEnds_44 rfl (lv_at xL 0 rfl) ?_
      refine lv_dup xE xB dX7_rowEnds_45 rfl ?_
      refine va_get (D := G.1) (ci := 7) (v := .int (nI hg)) (C := RX7) (T := TX7) (N := 16) xE xB xT khX7_rowEnds_X7 xO xK.1 xP 0 rfl rfl 14 (by decide) (xT _ kX7_rowEnds_f147) (fun _ h9 => h9) rfl dX7_rowEnds_46 ?_
      refine lv_iconst (v := nI 1) xE xB dX7_rowEnds_49 (by decide) ?_
      refine q_iadd xE xB dX7_rowEnds_50 ?_
      refine va_put (D := G.1) (ci := 7) (v := .int (nI (hg + 1))) (ty := .int) (C := RX7) (T := TX7) (N := 16) xE xB xT khX7_rowEnds_X7 tyX7 tyX7_ok nmX7 xO xK.1 xP xD xS 0 rfl rfl 14 (by decide) (xT _ kX7_rowEnds_f147) (fun _ h9 => h9) rfl (by decide +kernel) rfl rfl (Nat.le_of_ble_eq_true rfl) dX7_rowEnds_51 (fun H locs xP xD xS => ?_)
      have xP : va_P G.1 vwCl (wU G r (s, P, U, p, X, y, q0, q1, q2, q3, sp, re, B, ow, hg + 1, ow)) H := xP
      have xD : va_D A (wU G r (s, P, U, p, X, y, q0, q1, q2, q3, sp, re, B, ow, hg + 1, ow)) := xD
      refine lv_aload_n xE xB dX7_rowEnds_54 rfl (lv_at xL 0 rfl) ?_
      refine lv_iconst (v := nI 0) xE xB dX7_rowEnds_55 (by decide) ?_
      refine va_put (D := G.1) (ci := 7) (v := .int (nI 0)) (ty := .int) (C := RX7) (T := TX7) (N := 16) xE xB xT khX7_rowEnds_X7 tyX7 tyX7_ok nmX7 xO xK.1 xP xD xS 0 rfl rfl 15 (by decide) (xT _ kX7_rowEnds_f150) (fun _ h9 => h9) rfl (by decide +kernel) rfl rfl (Nat.le_of_ble_eq_true rfl) dX7_rowEnds_56 (fun H locs xP xD xS => ?_)
      have xP : va_P G.1 vwCl (wU G r (s, P, U, p, X, y, q0, q1, q2, q3, sp, re, B, ow, hg + 1, 0)) H := xP
      have xD : va_D A (wU G r (s, P, U, p, X, y, q0, q1, q2, q3, sp, re, B, ow, hg + 1, 0)) := xD
      refine lv_iconst (v := nI 1) xE xB dX7_rowEnds_59 (by decide) ?_
      exact xQ _ _ _ _ _ (re, ow, hg + 1, 0) (Or.inl ⟨rfl, by exact ⟨by omega, rfl⟩⟩) (by decide) xP xD xS dX7_rowEnds_60
  · skip
    refine lv_aload_n xE xB dX7_rowEnds_7 rfl (lv_at xL 0 rfl) ?_
    refine va_get (D := G.1) (ci := 7) (v := .int (nI ow)) (C := RX7) (T := TX7) (N := 16) xE xB xT khX7_rowEnds_X7 xO xK.1 xP 0 rfl rfl 15 (by decide) (xT _ kX7_rowEnds_f150) (fun _ h9 => h9) rfl dX7_rowEnds_8 ?_
    refine lv_aload_n xE xB dX7_rowEnds_11 rfl (lv_at xL 0 rfl) ?_
    refine va_get (D := G.1) (ci := 7) (v := .int (nI wd)) (C := RX7) (T := TX7) (N := 16) xE xB xT khX7_rowEnds_X7 xO xK.1 xP 0 rfl rfl 13 (by decide) (xT _ kX7_rowEnds_f156) (fun _ h9 => h9) rfl dX7_rowEnds_12 ?_
    refine q_icmp_lt (tgt := 30) xE xB dX7_rowEnds_15 (by decide) (by omega) (by omega) (fun c_15 => ?_) (fun c_15 => ?_)
    · skip
      refine lv_aload_n xE xB dX7_rowEnds_30 rfl (lv_at xL 0 rfl) ?_
      refine lv_iconst (v := nI 2) xE xB dX7_rowEnds_31 (by decide) ?_
      refine q_VI (As := [.int (nI 2)]) (rest := []) ⟨xE, xB, xM, xO, xT⟩ (kX7_fails l G r s P U p X y q0 q1 q2 q3 sp re B wd hg ow 2) (cwV 1 xT gX7_rowEnds_X7_fails rfl rfl rfl (by decide +kernel) ⟨Nat.le_of_ble_eq_true rfl, Nat.le_of_ble_eq_true rfl⟩) xK xP xD xS [0, 1, 2, 3, 4, 5] rfl (by decide +kernel) (fun _ => rfl) 0 rfl rfl rfl rfl xL.1 rfl (Nat.le_of_ble_eq_true rfl) dX7_rowEnds_32 ⟨Nat.le_refl _, Nat.le_refl _⟩ (fun r_32 u_32 H locs h_32 xP xD xS => ?_)
      have xP : va_P G.1 vwCl (wU G r (s, P, U, p, X, y, q0, q1, q2, q3, sp, 2, B, wd, hg, ow)) H := xP
      have xD : va_D A (wU G r (s, P, U, p, X, y, q0, q1, q2, q3, sp, 2, B, wd, hg, ow)) := xD
      obtain rfl : r_32 = nI 0 := h_32
      exact xQ _ _ _ _ _ (2, wd, hg, ow) (Or.inr ⟨rfl, by exact ⟨by omega, rfl⟩⟩) (by decide) xP xD xS dX7_rowEnds_35
    · skip
      refine lv_aload_n xE xB dX7_rowEnds_18 rfl (lv_at xL 0 rfl) ?_
      refine va_get (D := G.1) (ci := 7) (v := .int (nI hg)) (C := RX7) (T := TX7) (N := 16) xE xB xT khX7_rowEnds_X7 xO xK.1 xP 0 rfl rfl 14 (by decide) (xT _ kX7_rowEnds_f147) (fun _ h9 => h9) rfl dX7_rowEnds_19 ?_
      refine lv_iconst (v := nI 5) xE xB dX7_rowEnds_22 (by decide) ?_
      refine q_icmp_ne (tgt := 36) xE xB dX7_rowEnds_23 (by decide) (by omega) (by omega) (fun c_23 => ?_) (fun c_23 => ?_)
      · skip
        refine lv_aload_n xE xB dX7_rowEnds_36 rfl (lv_at xL 0 rfl) ?_
        refine lv_aload_n xE xB dX7_rowEnds_37 rfl (lv_at xL 0 rfl) ?_
        refine va_get (D := G.1) (ci := 7) (v := .int (nI ow)) (C := RX7) (T := TX7) (N := 16) xE xB xT khX7_rowEnds_X7 xO xK.1 xP 0 rfl rfl 15 (by decide) (xT _ kX7_rowEnds_f150) (fun _ h9 => h9) rfl dX7_rowEnds_38 ?_
        refine va_put (D := G.1) (ci := 7) (v := .int (nI ow)) (ty := .int) (C := RX7) (T := TX7) (N := 16) xE xB xT khX7_rowEnds_X7 tyX7 tyX7_ok nmX7 xO xK.1 xP xD xS 0 rfl rfl 13 (by decide) (xT _ kX7_rowEnds_f156) (fun _ h9 => h9) rfl (by decide +kernel) rfl rfl (Nat.le_of_ble_eq_true rfl) dX7_rowEnds_41 (fun H locs xP xD xS => ?_)
        have xP : va_P G.1 vwCl (wU G r (s, P, U, p, X, y, q0, q1, q2, q3, sp, re, B, ow, hg, ow)) H := xP
        have xD : va_D A (wU G r (s, P, U, p, X, y, q0, q1, q2, q3, sp, re, B, ow, hg, ow)) := xD
        refine lv_aload_n xE xB dX7_rowEnds_44 rfl (lv_at xL 0 rfl) ?_
        refine lv_dup xE xB dX7_rowEnds_45 rfl ?_
        refine va_get (D := G.1) (ci := 7) (v := .int (nI hg)) (C := RX7) (T := TX7) (N := 16) xE xB xT khX7_rowEnds_X7 xO xK.1 xP 0 rfl rfl 14 (by decide) (xT _ kX7_rowEnds_f147) (fun _ h9 => h9) rfl dX7_rowEnds_46 ?_
        refine lv_iconst (v := nI 1) xE xB dX7_rowEnds_49 (by decide) ?_
        refine q_iadd xE xB dX7_rowEnds_50 ?_
        refine va_put (D := G.1) (ci := 7) (v := .int (nI (hg + 1))) (ty := .int) (C := RX7) (T := TX7) (N := 16) xE xB xT khX7_rowEnds_X7 tyX7 tyX7_ok nmX7 xO xK.1 xP xD xS 0 rfl rfl 14 (by decide) (xT _ kX7_rowEnds_f147) (fun _ h9 => h9) rfl (by decide +kernel) rfl rfl (Nat.le_of_ble_eq_true rfl) dX7_rowEnds_51 (fun H locs xP xD xS => ?_)
        have xP : va_P G.1 vwCl (wU G r (s, P, U, p, X, y, q0, q1, q2, q3, sp, re, B, ow, hg + 1, ow)) H := xP
        have xD : va_D A (wU G r (s, P, U, p, X, y, q0, q1, q2, q3, sp, re, B, ow, hg + 1, ow)) := xD
        refine lv_aload_n xE xB dX7_rowEnds_54 rfl (lv_at xL 0 rfl) ?_
        refine lv_iconst (v := nI 0) xE xB dX7_rowEnds_55 (by decide) ?_
        refine va_put (D := G.1) (ci := 7) (v := .int (nI 0)) (ty := .int) (C := RX7) (T := TX7) (N := 16) xE xB xT khX7_rowEnds_X7 tyX7 tyX7_ok nmX7 xO xK.1 xP xD xS 0 rfl rfl 15 (by decide) (xT _ kX7_rowEnds_f150) (fun _ h9 => h9) rfl (by decide +kernel) rfl rfl (Nat.le_of_ble_eq_true rfl) dX7_rowEnds_56 (fun H locs xP xD xS => ?_)
        have xP : va_P G.1 vwCl (wU G r (s, P, U, p, X, y, q0, q1, q2, q3, sp, re, B, ow, hg + 1, 0)) H := xP
        have xD : va_D A (wU G r (s, P, U, p, X, y, q0, q1, q2, q3, sp, re, B, ow, hg + 1, 0)) := xD
        refine lv_iconst (v := nI 1) xE xB dX7_rowEnds_59 (by decide) ?_
        exact xQ _ _ _ _ _ (re, ow, hg + 1, 0) (Or.inl ⟨rfl, by exact ⟨by omega, rfl⟩⟩) (by decide) xP xD xS dX7_rowEnds_60
      · skip
        refine lv_iload_n xE xB dX7_rowEnds_26 rfl (lv_at xL 1 rfl) ?_
        refine lv_if_ne (tgt := 36) xE xB dX7_rowEnds_27 (by decide) (fun _ => ?_) (fun h9 => absurd h9 (by decide))
        refine lv_aload_n xE xB dX7_rowEnds_36 rfl (lv_at xL 0 rfl) ?_
        refine lv_aload_n xE xB dX7_rowEnds_37 rfl (lv_at xL 0 rfl) ?_
        refine va_get (D := G.1) (ci := 7) (v := .int (nI ow)) (C := RX7) (T := TX7) (N := 16) xE xB xT khX7_rowEnds_X7 xO xK.1 xP 0 rfl rfl 15 (by decide) (xT _ kX7_rowEnds_f150) (fun _ h9 => h9) rfl dX7_rowEnds_38 ?_
        refine va_put (D := G.1) (ci := 7) (v := .int (nI ow)) (ty := .int) (C := RX7) (T := TX7) (N := 16) xE xB xT khX7_rowEnds_X7 tyX7 tyX7_ok nmX7 xO xK.1 xP xD xS 0 rfl rfl 13 (by decide) (xT _ kX7_rowEnds_f156) (fun _ h9 => h9) rfl (by decide +kernel) rfl rfl (Nat.le_of_ble_eq_true rfl) dX7_rowEnds_41 (fun H locs xP xD xS => ?_)
        have xP : va_P G.1 vwCl (wU G r (s, P, U, p, X, y, q0, q1, q2, q3, sp, re, B, ow, hg, ow)) H := xP
        have xD : va_D A (wU G r (s, P, U, p, X, y, q0, q1, q2, q3, sp, re, B, ow, hg, ow)) := xD
        refine lv_aload_n xE xB dX7_rowEnds_44 rfl (lv_at xL 0 rfl) ?_
        refine lv_dup xE xB dX7_rowEnds_45 rfl ?_
        refine va_get (D := G.1) (ci := 7) (v := .int (nI hg)) (C := RX7) (T := TX7) (N := 16) xE xB xT khX7_rowEnds_X7 xO xK.1 xP 0 rfl rfl 14 (by decide) (xT _ kX7_rowEnds_f147) (fun _ h9 => h9) rfl dX7_rowEnds_46 ?_
        refine lv_iconst (v := nI 1) xE xB dX7_rowEnds_49 (by decide) ?_
        refine q_iadd xE xB dX7_rowEnds_50 ?_
        refine va_put (D := G.1) (ci := 7) (v := .int (nI (hg + 1))) (ty := .int) (C := RX7) (T := TX7) (N := 16) xE xB xT khX7_rowEnds_X7 tyX7 tyX7_ok nmX7 xO xK.1 xP xD xS 0 rfl rfl 14 (by decide) (xT _ kX7_rowEnds_f147) (fun _ h9 => h9) rfl (by decide +kernel) rfl rfl (Nat.le_of_ble_eq_true rfl) dX7_rowEnds_51 (fun H locs xP xD xS => ?_)
        have xP : va_P G.1 vwCl (wU G r (s, P, U, p, X, y, q0, q1, q2, q3, sp, re, B, ow, hg + 1, ow)) H := xP
        have xD : va_D A (wU G r (s, P, U, p, X, y, q0, q1, q2, q3, sp, re, B, ow, hg + 1, ow)) := xD
        refine lv_aload_n xE xB dX7_rowEnds_54 rfl (lv_at xL 0 rfl) ?_
        refine lv_iconst (v := nI 0) xE xB dX7_rowEnds_55 (by decide) ?_
        refine va_put (D := G.1) (ci := 7) (v := .int (nI 0)) (ty := .int) (C := RX7) (T := TX7) (N := 16) xE xB xT khX7_rowEnds_X7 tyX7 tyX7_ok nmX7 xO xK.1 xP xD xS 0 rfl rfl 15 (by decide) (xT _ kX7_rowEnds_f150) (fun _ h9 => h9) rfl (by decide +kernel) rfl rfl (Nat.le_of_ble_eq_true rfl) dX7_rowEnds_56 (fun H locs xP xD xS => ?_)
        have xP : va_P G.1 vwCl (wU G r (s, P, U, p, X, y, q0, q1, q2, q3, sp, re, B, ow, hg + 1, 0)) H := xP
        have xD : va_D A (wU G r (s, P, U, p, X, y, q0, q1, q2, q3, sp, re, B, ow, hg + 1, 0)) := xD
        refine lv_iconst (v := nI 1) xE xB dX7_rowEnds_59 (by decide) ?_
        exact xQ _ _ _ _ _ (re, ow, hg + 1, 0) (Or.inl ⟨rfl, by exact ⟨by omega, rfl⟩⟩) (by decide) xP xD xS dX7_rowEnds_60
set_option maxHeartbeats 4000000 in
set_option maxRecDepth 100000 in
/-- kX7_rowEnds0 -/
theorem kX7_rowEnds0 (l : Launch) (G : wG) (r : RA) (s P U : wF) (p : Nat) (X : wF) (y q0 : Nat) (q1 : Int32) (q2 : Nat) (q3 : Int32) (sp re : Nat) (B : wF) (wd hg ow : Nat) (hhg : hg ≤ 5) (how : ow ≤ 6) (hwd : wd ≤ 6) : CI (S := Nat × Nat × Nat × Nat) l yX7_rowEnds wsX7_rowEnds (rm 1 21) G [.ref r.1, .int (nI 0)] (wU G r (s, P, U, p, X, y, q0, q1, q2, q3, sp, re, B, wd, hg, ow)) (fun x u9 => (x = nI 1 ∧ ((¬ (hg = 5 ∨ (0 < hg ∧ ow < wd))) ∧ u9 = (re, ow, hg + 1, 0))) ∨ (x = nI 0 ∧ ((hg = 5 ∨ (0 < hg ∧ ow < wd)) ∧ u9 = (2, wd, hg, ow)))) (fun u9 => wU G r (s, P, U, p, X, y, q0, q1, q2, q3, sp, u9.1, B, u9.2.1, u9.2.2.1, u9.2.2.2)) := by
  refine CI.ofZ (own := RX7) rfl (by decide) rfl (Nat.le_of_ble_eq_true rfl) ?_
  intro p9 e9 s9 m9 b9 t9 c9 A xE xB xM xO xT xK xP xD Q xQ xS ls hl
  have xL : lv_has ls 2 [(0, .ref r.1), (1, .int (nI 0))] := hl
  refine lv_aload_n xE xB dX7_rowEnds_0 rfl (lv_at xL 0 rfl) ?_
  refine va_get (D := G.1) (ci := 7) (v := .int (nI hg)) (C := RX7) (T := TX7) (N := 16) xE xB xT khX7_rowEnds_X7 xO xK.1 xP 0 rfl rfl 14 (by decide) (xT _ kX7_rowEnds_f147) (fun _ h9 => h9) rfl dX7_rowEnds_1 ?_
  refine q_if_le (tgt := 18) xE xB dX7_rowEnds_4 (by decide) (by omega) (fun c_4 => ?_) (fun c_4 => ?_)
  · skip
    refine lv_aload_n xE xB dX7_rowEnds_18 rfl (lv_at xL 0 rfl) ?_
    refine va_get (D := G.1) (ci := 7) (v := .int (nI hg)) (C := RX7) (T := TX7) (N := 16) xE xB xT khX7_rowEnds_X7 xO xK.1 xP 0 rfl rfl 14 (by decide) (xT _ kX7_rowEnds_f147) (fun _ h9 => h9) rfl dX7_rowEnds_19 ?_
    refine lv_iconst (v := nI 5) xE xB dX7_rowEnds_22 (by decide) ?_
    refine q_icmp_ne (tgt := 36) xE xB dX7_rowEnds_23 (by decide) (by omega) (by omega) (fun c_23 => ?_) (fun c_23 => ?_)
    · skip
      refine lv_aload_n xE xB dX7_rowEnds_36 rfl (lv_at xL 0 rfl) ?_
      refine lv_aload_n xE xB dX7_rowEnds_37 rfl (lv_at xL 0 rfl) ?_
      refine va_get (D := G.1) (ci := 7) (v := .int (nI ow)) (C := RX7) (T := TX7) (N := 16) xE xB xT khX7_rowEnds_X7 xO xK.1 xP 0 rfl rfl 15 (by decide) (xT _ kX7_rowEnds_f150) (fun _ h9 => h9) rfl dX7_rowEnds_38 ?_
      refine va_put (D := G.1) (ci := 7) (v := .int (nI ow)) (ty := .int) (C := RX7) (T := TX7) (N := 16) xE xB xT khX7_rowEnds_X7 tyX7 tyX7_ok nmX7 xO xK.1 xP xD xS 0 rfl rfl 13 (by decide) (xT _ kX7_rowEnds_f156) (fun _ h9 => h9) rfl (by decide +kernel) rfl rfl (Nat.le_of_ble_eq_true rfl) dX7_rowEnds_41 (fun H locs xP xD xS => ?_)
      have xP : va_P G.1 vwCl (wU G r (s, P, U, p, X, y, q0, q1, q2, q3, sp, re, B, ow, hg, ow)) H := xP
      have xD : va_D A (wU G r (s, P, U, p, X, y, q0, q1, q2, q3, sp, re, B, ow, hg, ow)) := xD
      refine lv_aload_n xE xB dX7_rowEnds_44 rfl (lv_at xL 0 rfl) ?_
      refine lv_dup xE xB dX7_rowEnds_45 rfl ?_
      refine va_get (D := G.1) (ci := 7) (v := .int (nI hg)) (C := RX7) (T := TX7) (N := 16) xE xB xT khX7_rowEnds_X7 xO xK.1 xP 0 rfl rfl 14 (by decide) (xT _ kX7_rowEnds_f147) (fun _ h9 => h9) rfl dX7_rowEnds_46 ?_
      refine lv_iconst (v := nI 1) xE xB dX7_rowEnds_49 (by decide) ?_
      refine q_iadd xE xB dX7_rowEnds_50 ?_
      refine va_put (D := G.1) (ci := 7) (v := .int (nI (hg + 1))) (ty := .int) (C := RX7) (T := TX7) (N := 16) xE xB xT khX7_rowEnds_X7 tyX7 tyX7_ok nmX7 xO xK.1 xP xD xS 0 rfl rfl 14 (by decide) (xT _ kX7_rowEnds_f147) (fun _ h9 => h9) rfl (by decide +kernel) rfl rfl (Nat.le_of_ble_eq_true rfl) dX7_rowEnds_51 (fun H locs xP xD xS => ?_)
      have xP : va_P G.1 vwCl (wU G r (s, P, U, p, X, y, q0, q1, q2, q3, sp, re, B, ow, hg + 1, ow)) H := xP
      have xD : va_D A (wU G r (s, P, U, p, X, y, q0, q1, q2, q3, sp, re, B, ow, hg + 1, ow)) := xD
      refine lv_aload_n xE xB dX7_rowEnds_54 rfl (lv_at xL 0 rfl) ?_
      refine lv_iconst (v := nI 0) xE xB dX7_rowEnds_55 (by decide) ?_
      refine va_put (D := G.1) (ci := 7) (v := .int (nI 0)) (ty := .int) (C := RX7) (T := TX7) (N := 16) xE xB xT khX7_rowEnds_X7 tyX7 tyX7_ok nmX7 xO xK.1 xP xD xS 0 rfl rfl 15 (by decide) (xT _ kX7_rowEnds_f150) (fun _ h9 => h9) rfl (by decide +kernel) rfl rfl (Nat.le_of_ble_eq_true rfl) dX7_rowEnds_56 (fun H locs xP xD xS => ?_)
      have xP : va_P G.1 vwCl (wU G r (s, P, U, p, X, y, q0, q1, q2, q3, sp, re, B, ow, hg + 1, 0)) H := xP
      have xD : va_D A (wU G r (s, P, U, p, X, y, q0, q1, q2, q3, sp, re, B, ow, hg + 1, 0)) := xD
      refine lv_iconst (v := nI 1) xE xB dX7_rowEnds_59 (by decide) ?_
      exact xQ _ _ _ _ _ (re, ow, hg + 1, 0) (Or.inl ⟨rfl, by exact ⟨by omega, rfl⟩⟩) (by decide) xP xD xS dX7_rowEnds_60
    · skip
      refine lv_iload_n xE xB dX7_rowEnds_26 rfl (lv_at xL 1 rfl) ?_
      refine lv_if_ne (tgt := 36) xE xB dX7_rowEnds_27 (by decide) (fun h9 => absurd (by decide) h9) (fun _ => ?_)
      refine lv_aload_n xE xB dX7_rowEnds_30 rfl (lv_at xL 0 rfl) ?_
      refine lv_iconst (v := nI 2) xE xB dX7_rowEnds_31 (by decide) ?_
      refine q_VI (As := [.int (nI 2)]) (rest := []) ⟨xE, xB, xM, xO, xT⟩ (kX7_fails l G r s P U p X y q0 q1 q2 q3 sp re B wd hg ow 2) (cwV 1 xT gX7_rowEnds_X7_fails rfl rfl rfl (by decide +kernel) ⟨Nat.le_of_ble_eq_true rfl, Nat.le_of_ble_eq_true rfl⟩) xK xP xD xS [0, 1, 2, 3, 4, 5] rfl (by decide +kernel) (fun _ => rfl) 0 rfl rfl rfl rfl xL.1 rfl (Nat.le_of_ble_eq_true rfl) dX7_rowEnds_32 ⟨Nat.le_refl _, Nat.le_refl _⟩ (fun r_32 u_32 H locs h_32 xP xD xS => ?_)
      have xP : va_P G.1 vwCl (wU G r (s, P, U, p, X, y, q0, q1, q2, q3, sp, 2, B, wd, hg, ow)) H := xP
      have xD : va_D A (wU G r (s, P, U, p, X, y, q0, q1, q2, q3, sp, 2, B, wd, hg, ow)) := xD
      obtain rfl : r_32 = nI 0 := h_32
      exact xQ _ _ _ _ _ (2, wd, hg, ow) (Or.inr ⟨rfl, by exact ⟨by omega, rfl⟩⟩) (by decide) xP xD xS dX7_rowEnds_35
  · skip
    refine lv_aload_n xE xB dX7_rowEnds_7 rfl (lv_at xL 0 rfl) ?_
    refine va_get (D := G.1) (ci := 7) (v := .int (nI ow)) (C := RX7) (T := TX7) (N := 16) xE xB xT khX7_rowEnds_X7 xO xK.1 xP 0 rfl rfl 15 (by decide) (xT _ kX7_rowEnds_f150) (fun _ h9 => h9) rfl dX7_rowEnds_8 ?_
    refine lv_aload_n xE xB dX7_rowEnds_11 rfl (lv_at xL 0 rfl) ?_
    refine va_get (D := G.1) (ci := 7) (v := .int (nI wd)) (C := RX7) (T := TX7) (N := 16) xE xB xT khX7_rowEnds_X7 xO xK.1 xP 0 rfl rfl 13 (by decide) (xT _ kX7_rowEnds_f156) (fun _ h9 => h9) rfl dX7_rowEnds_12 ?_
    refine q_icmp_lt (tgt := 30) xE xB dX7_rowEnds_15 (by decide) (by omega) (by omega) (fun c_15 => ?_) (fun c_15 => ?_)
    · skip
      refine lv_aload_n xE xB dX7_rowEnds_30 rfl (lv_at xL 0 rfl) ?_
      refine lv_iconst (v := nI 2) xE xB dX7_rowEnds_31 (by decide) ?_
      refine q_VI (As := [.int (nI 2)]) (rest := []) ⟨xE, xB, xM, xO, xT⟩ (kX7_fails l G r s P U p X y q0 q1 q2 q3 sp re B wd hg ow 2) (cwV 1 xT gX7_rowEnds_X7_fails rfl rfl rfl (by decide +kernel) ⟨Nat.le_of_ble_eq_true rfl, Nat.le_of_ble_eq_true rfl⟩) xK xP xD xS [0, 1, 2, 3, 4, 5] rfl (by decide +kernel) (fun _ => rfl) 0 rfl rfl rfl rfl xL.1 rfl (Nat.le_of_ble_eq_true rfl) dX7_rowEnds_32 ⟨Nat.le_refl _, Nat.le_refl _⟩ (fun r_32 u_32 H locs h_32 xP xD xS => ?_)
      have xP : va_P G.1 vwCl (wU G r (s, P, U, p, X, y, q0, q1, q2, q3, sp, 2, B, wd, hg, ow)) H := xP
      have xD : va_D A (wU G r (s, P, U, p, X, y, q0, q1, q2, q3, sp, 2, B, wd, hg, ow)) := xD
      obtain rfl : r_32 = nI 0 := h_32
      exact xQ _ _ _ _ _ (2, wd, hg, ow) (Or.inr ⟨rfl, by exact ⟨by omega, rfl⟩⟩) (by decide) xP xD xS dX7_rowEnds_35
    · skip
      refine lv_aload_n xE xB dX7_rowEnds_18 rfl (lv_at xL 0 rfl) ?_
      refine va_get (D := G.1) (ci := 7) (v := .int (nI hg)) (C := RX7) (T := TX7) (N := 16) xE xB xT khX7_rowEnds_X7 xO xK.1 xP 0 rfl rfl 14 (by decide) (xT _ kX7_rowEnds_f147) (fun _ h9 => h9) rfl dX7_rowEnds_19 ?_
      refine lv_iconst (v := nI 5) xE xB dX7_rowEnds_22 (by decide) ?_
      refine q_icmp_ne (tgt := 36) xE xB dX7_rowEnds_23 (by decide) (by omega) (by omega) (fun c_23 => ?_) (fun c_23 => ?_)
      · skip
        refine lv_aload_n xE xB dX7_rowEnds_36 rfl (lv_at xL 0 rfl) ?_
        refine lv_aload_n xE xB dX7_rowEnds_37 rfl (lv_at xL 0 rfl) ?_
        refine va_get (D := G.1) (ci := 7) (v := .int (nI ow)) (C := RX7) (T := TX7) (N := 16) xE xB xT khX7_rowEnds_X7 xO xK.1 xP 0 rfl rfl 15 (by decide) (xT _ kX7_rowEnds_f150) (fun _ h9 => h9) rfl dX7_rowEnds_38 ?_
        refine va_put (D := G.1) (ci := 7) (v := .int (nI ow)) (ty := .int) (C := RX7) (T := TX7) (N := 16) xE xB xT khX7_rowEnds_X7 tyX7 tyX7_ok nmX7 xO xK.1 xP xD xS 0 rfl rfl 13 (by decide) (xT _ kX7_rowEnds_f156) (fun _ h9 => h9) rfl (by decide +kernel) rfl rfl (Nat.le_of_ble_eq_true rfl) dX7_rowEnds_41 (fun H locs xP xD xS => ?_)
        have xP : va_P G.1 vwCl (wU G r (s, P, U, p, X, y, q0, q1, q2, q3, sp, re, B, ow, hg, ow)) H := xP
        have xD : va_D A (wU G r (s, P, U, p, X, y, q0, q1, q2, q3, sp, re, B, ow, hg, ow)) := xD
        refine lv_aload_n xE xB dX7_rowEnds_44 rfl (lv_at xL 0 rfl) ?_
        refine lv_dup xE xB dX7_rowEnds_45 rfl ?_
        refine va_get (D := G.1) (ci := 7) (v := .int (nI hg)) (C := RX7) (T := TX7) (N := 16) xE xB xT khX7_rowEnds_X7 xO xK.1 xP 0 rfl rfl 14 (by decide) (xT _ kX7_rowEnds_f147) (fun _ h9 => h9) rfl dX7_rowEnds_46 ?_
        refine lv_iconst (v := nI 1) xE xB dX7_rowEnds_49 (by decide) ?_
        refine q_iadd xE xB dX7_rowEnds_50 ?_
        refine va_put (D := G.1) (ci := 7) (v := .int (nI (hg + 1))) (ty := .int) (C := RX7) (T := TX7) (N := 16) xE xB xT khX7_rowEnds_X7 tyX7 tyX7_ok nmX7 xO xK.1 xP xD xS 0 rfl rfl 14 (by decide) (xT _ kX7_rowEnds_f147) (fun _ h9 => h9) rfl (by decide +kernel) rfl rfl (Nat.le_of_ble_eq_true rfl) dX7_rowEnds_51 (fun H locs xP xD xS => ?_)
        have xP : va_P G.1 vwCl (wU G r (s, P, U, p, X, y, q0, q1, q2, q3, sp, re, B, ow, hg + 1, ow)) H := xP
        have xD : va_D A (wU G r (s, P, U, p, X, y, q0, q1, q2, q3, sp, re, B, ow, hg + 1, ow)) := xD
        refine lv_aload_n xE xB dX7_rowEnds_54 rfl (lv_at xL 0 rfl) ?_
        refine lv_iconst (v := nI 0) xE xB dX7_rowEnds_55 (by decide) ?_
        refine va_put (D := G.1) (ci := 7) (v := .int (nI 0)) (ty := .int) (C := RX7) (T := TX7) (N := 16) xE xB xT khX7_rowEnds_X7 tyX7 tyX7_ok nmX7 xO xK.1 xP xD xS 0 rfl rfl 15 (by decide) (xT _ kX7_rowEnds_f150) (fun _ h9 => h9) rfl (by decide +kernel) rfl rfl (Nat.le_of_ble_eq_true rfl) dX7_rowEnds_56 (fun H locs xP xD xS => ?_)
        have xP : va_P G.1 vwCl (wU G r (s, P, U, p, X, y, q0, q1, q2, q3, sp, re, B, ow, hg + 1, 0)) H := xP
        have xD : va_D A (wU G r (s, P, U, p, X, y, q0, q1, q2, q3, sp, re, B, ow, hg + 1, 0)) := xD
        refine lv_iconst (v := nI 1) xE xB dX7_rowEnds_59 (by decide) ?_
        exact xQ _ _ _ _ _ (re, ow, hg + 1, 0) (Or.inl ⟨rfl, by exact ⟨by omega, rfl⟩⟩) (by decide) xP xD xS dX7_rowEnds_60
      · skip
        refine lv_iload_n xE xB dX7_rowEnds_26 rfl (lv_at xL 1 rfl) ?_
        refine lv_if_ne (tgt := 36) xE xB dX7_rowEnds_27 (by decide) (fun h9 => absurd (by decide) h9) (fun _ => ?_)
        refine lv_aload_n xE xB dX7_rowEnds_30 rfl (lv_at xL 0 rfl) ?_
        refine lv_iconst (v := nI 2) xE xB dX7_rowEnds_31 (by decide) ?_
        refine q_VI (As := [.int (nI 2)]) (rest := []) ⟨xE, xB, xM, xO, xT⟩ (kX7_fails l G r s P U p X y q0 q1 q2 q3 sp re B wd hg ow 2) (cwV 1 xT gX7_rowEnds_X7_fails rfl rfl rfl (by decide +kernel) ⟨Nat.le_of_ble_eq_true rfl, Nat.le_of_ble_eq_true rfl⟩) xK xP xD xS [0, 1, 2, 3, 4, 5] rfl (by decide +kernel) (fun _ => rfl) 0 rfl rfl rfl rfl xL.1 rfl (Nat.le_of_ble_eq_true rfl) dX7_rowEnds_32 ⟨Nat.le_refl _, Nat.le_refl _⟩ (fun r_32 u_32 H locs h_32 xP xD xS => ?_)
        have xP : va_P G.1 vwCl (wU G r (s, P, U, p, X, y, q0, q1, q2, q3, sp, 2, B, wd, hg, ow)) H := xP
        have xD : va_D A (wU G r (s, P, U, p, X, y, q0, q1, q2, q3, sp, 2, B, wd, hg, ow)) := xD
        obtain rfl : r_32 = nI 0 := h_32
        exact xQ _ _ _ _ _ (2, wd, hg, ow) (Or.inr ⟨rfl, by exact ⟨by omega, rfl⟩⟩) (by decide) xP xD xS dX7_rowEnds_35
theorem kX7_number_f131 : Cond.fieldLink RX7 131 "SkewedSquareModel" "typed" "I" ∈ wsX7_number := by decide +kernel
theorem kX7_number_f141 : Cond.fieldLink RX7 141 "SkewedSquareModel" "spot" "I" ∈ wsX7_number := by decide +kernel
theorem kX7_number_f147 : Cond.fieldLink RX7 147 "SkewedSquareModel" "high" "I" ∈ wsX7_number := by decide +kernel
theorem kX7_number_f150 : Cond.fieldLink RX7 150 "SkewedSquareModel" "own" "I" ∈ wsX7_number := by decide +kernel
theorem kX7_number_f19 : Cond.fieldLink RX7 19 "SkewedSquareModel" "text" "[I" ∈ wsX7_number := by decide +kernel
theorem kX7_number_f22 : Cond.fieldLink RX7 22 "SkewedSquareModel" "told" "[I" ∈ wsX7_number := by decide +kernel
theorem khX7_number_X7 : ∀ w ∈ u_ws RX7 TX7 16, w ∈ wsX7_number := by decide +kernel
set_option maxHeartbeats 4000000 in
set_option maxRecDepth 100000 in
/-- kX7_number -/
theorem kX7_number (l : Launch) (G : wG) (r : RA) (s P U : wF) (p : Nat) (X : wF) (y q0 : Nat) (q1 : Int32) (q2 : Nat) (q3 : Int32) (sp re : Nat) (B : wF) (wd hg ow : Nat) (T : Nat → Nat) (fp : Nat) (f : wF) (hX : RefX X T y) (hz : stk T zA sp = (fp, 0, hg, ow, wd, 0, 0, 0, f)) (hi : sp ≤ y) (hhg : hg < 6) (how : ow < 6) : CI (S := Nat × Nat × Nat × Nat × wF × Nat) l yX7_number wsX7_number (rm 2 42) G [.ref r.1] (wU G r (s, P, U, p, X, y, q0, q1, q2, q3, sp, re, B, wd, hg, ow)) (fun x u9 => (x = nI 1 ∧ (u9.1 ≤ y ∧ sp < u9.1 ∧ stk T zA u9.1 = (fp, 0, hg, ow, wd, u9.2.1, u9.2.2.1, u9.2.2.2.1, f) ∧ 0 < u9.2.2.1 ∧ (u9.2.2.1 = 2 ∨ u9.1 = y ∨ ¬ (48 ≤ T u9.1 ∧ T u9.1 ≤ 57)) ∧ u9.2.2.2.2.1 = upd B (6 * hg + ow) (sgnV u9.2.1 u9.2.2.2.1) ∧ u9.2.2.2.2.2 = ow + 1)) ∨ (x = nI 0 ∧ (u9.1 ≤ y ∧ sp ≤ u9.1 ∧ stk T zA u9.1 = (fp, 0, hg, ow, wd, u9.2.1, 0, 0, f) ∧ (u9.1 = y ∨ (¬ (48 ≤ T u9.1 ∧ T u9.1 ≤ 57) ∧ (T u9.1 = 45 → u9.2.1 = 1))) ∧ u9.2.2.2.2.1 = B ∧ u9.2.2.2.2.2 = ow))) (fun u9 => wU G r (s, P, U, p, X, y, q0, q1, q2, q3, u9.1, re, u9.2.2.2.2.1, wd, hg, u9.2.2.2.2.2)) := by
  refine CI.ofZ (own := RX7) rfl (by decide) rfl (Nat.le_of_ble_eq_true rfl) ?_
  intro p9 e9 s9 m9 b9 t9 c9 A xE xB xM xO xT xK xP xD Q xQ xS ls hl
  have xL : lv_has ls 3 [(0, .ref r.1)] := hl
  have hy8 := hX.1
  have J_30 : ∀ (mi : Nat), (mi ≤ 1) → (sp + mi ≤ y) → (stk T zA (sp + mi) = (fp, 0, hg, ow, wd, mi, 0, 0, f)) → (mi = 0 → sp < y → T sp ≠ 45) → ∀ (H : Heap) (locs : List Loc), va_P G.1 vwCl (wU G r (s, P, U, p, X, y, q0, q1, q2, q3, sp, re, B, wd, hg, ow)) H → va_D A (wU G r (s, P, U, p, X, y, q0, q1, q2, q3, sp, re, B, wd, hg, ow)) → va_S A s9.heap H locs → ∀ (ls : Array Slot), lv_has ls 3 [(0, .ref r.1)] → W p9 l e9 (rm 2 42) s9 m9 ([.ref r.1] : List Value).toArray b9 t9 c9 H locs 0 0 Q (F0 m9 30 ls [.int (nI mi)]) := by
    intro mi m1 m2 m3 m4 H locs xP xD xS ls xL
    refine lv_istore_n (lv' := [(1, .int (nI mi)), (0, .ref r.1)]) xE xB dX7_number_30 rfl xL (by decide) rfl (fun ls xL => ?_)
    have J_45 : ∀ (mk : Nat), (mk = mi) → ∀ (H : Heap) (locs : List Loc), va_P G.1 vwCl (wU G r (s, P, U, p, X, y, q0, q1, q2, q3, sp, re, B, wd, hg, ow)) H → va_D A (wU G r (s, P, U, p, X, y, q0, q1, q2, q3, sp, re, B, wd, hg, ow)) → va_S A s9.heap H locs → ∀ (ls : Array Slot), lv_has ls 3 [(0, .ref r.1), (1, .int (nI mi))] → W p9 l e9 (rm 2 42) s9 m9 ([.ref r.1] : List Value).toArray b9 t9 c9 H locs 0 0 Q (F0 m9 45 ls [.int (nI mk), .int (nI sp), .ref r.1]) := by
      intro mk hmk H locs xP xD xS ls xL
      refine q_iadd xE xB dX7_number_45 ?_
      refine q_eq (y := nI (sp + mi)) (congrArg nI (by omega)) ?_
      refine va_put (D := G.1) (ci := 7) (v := .int (nI (sp + mi))) (ty := .int) (C := RX7) (T := TX7) (N := 16) xE xB xT khX7_number_X7 tyX7 tyX7_ok nmX7 xO xK.1 xP xD xS 0 rfl rfl 10 (by decide) (xT _ kX7_number_f141) (fun _ h9 => h9) rfl (by decide +kernel) rfl rfl (Nat.le_of_ble_eq_true rfl) dX7_number_46 (fun H locs xP xD xS => ?_)
      have xP : va_P G.1 vwCl (wU G r (s, P, U, p, X, y, q0, q1, q2, q3, sp + mi, re, B, wd, hg, ow)) H := xP
      have xD : va_D A (wU G r (s, P, U, p, X, y, q0, q1, q2, q3, sp + mi, re, B, wd, hg, ow)) := xD
      refine lv_aload_n xE xB dX7_number_49 rfl (lv_at xL 0 rfl) ?_
      refine q_VR (As := []) (rest := []) ⟨xE, xB, xM, xO, xT⟩ (kX7_isDigit l G r s P U p X y q0 q1 q2 q3 (sp + mi) re B wd hg ow T (by exact hX) (by omega)) (cwV 0 xT gX7_number_X7_isDigit rfl rfl rfl (by decide +kernel) ⟨Nat.le_of_ble_eq_true rfl, Nat.le_of_ble_eq_true rfl⟩) xK xP [0, 1, 2, 3, 4, 5] rfl 0 rfl rfl rfl rfl xL.1 rfl (Nat.le_of_ble_eq_true rfl) dX7_number_50 ⟨Nat.le_refl _, Nat.le_refl _⟩ (fun r_50 h_50 => ?_)
      rcases h_50 with ⟨h_50, c_50⟩ | ⟨h_50, c_50⟩
      · skip
        subst h_50
        have c_50 : (sp + mi) < y ∧ 48 ≤ T (sp + mi) ∧ T (sp + mi) ≤ 57 := c_50
        refine lv_if_ne (tgt := 58) xE xB dX7_number_53 (by decide) (fun _ => ?_) (fun h9 => absurd h9 (by decide))
        obtain ⟨d1, d2, d3⟩ := c_50
        refine lv_aload_n xE xB dX7_number_58 rfl (lv_at xL 0 rfl) ?_
        refine va_get (D := G.1) (ci := 7) (v := .ref r.2.2.2.2.1) (C := RX7) (T := TX7) (N := 16) xE xB xT khX7_number_X7 xO xK.1 xP 0 rfl rfl 4 (by decide) (xT _ kX7_number_f19) (fun _ h9 => h9) rfl dX7_number_59 ?_
        refine lv_aload_n xE xB dX7_number_62 rfl (lv_at xL 0 rfl) ?_
        refine va_get (D := G.1) (ci := 7) (v := .int (nI (sp + mi))) (C := RX7) (T := TX7) (N := 16) xE xB xT khX7_number_X7 xO xK.1 xP 0 rfl rfl 10 (by decide) (xT _ kX7_number_f141) (fun _ h9 => h9) rfl dX7_number_63 ?_
        refine q_ald xE xB xK xP 4 rfl (by omega) (by decide) dX7_number_66 ?_
        refine q_eq (y := nI (T (sp + mi))) (congrArg (fun z => z) ((hX.2 _ (by omega)).1)) ?_
        refine lv_bipush (v := nI 48) xE xB dX7_number_67 (by decide) ?_
        refine q_isub xE xB dX7_number_69 (by omega) ?_
        refine lv_istore_n (lv' := [(2, .int (nI ((T (sp + mi)) - 48))), (0, .ref r.1), (1, .int (nI mi))]) xE xB dX7_number_70 rfl xL (by decide) rfl (fun ls xL => ?_)
        refine lv_aload_n xE xB dX7_number_71 rfl (lv_at xL 1 rfl) ?_
        refine lv_dup xE xB dX7_number_72 rfl ?_
        refine va_get (D := G.1) (ci := 7) (v := .int (nI (sp + mi))) (C := RX7) (T := TX7) (N := 16) xE xB xT khX7_number_X7 xO xK.1 xP 0 rfl rfl 10 (by decide) (xT _ kX7_number_f141) (fun _ h9 => h9) rfl dX7_number_73 ?_
        refine lv_iconst (v := nI 1) xE xB dX7_number_76 (by decide) ?_
        refine q_iadd xE xB dX7_number_77 ?_
        refine va_put (D := G.1) (ci := 7) (v := .int (nI ((sp + mi) + 1))) (ty := .int) (C := RX7) (T := TX7) (N := 16) xE xB xT khX7_number_X7 tyX7 tyX7_ok nmX7 xO xK.1 xP xD xS 0 rfl rfl 10 (by decide) (xT _ kX7_number_f141) (fun _ h9 => h9) rfl (by decide +kernel) rfl rfl (Nat.le_of_ble_eq_true rfl) dX7_number_78 (fun H locs xP xD xS => ?_)
        have xP : va_P G.1 vwCl (wU G r (s, P, U, p, X, y, q0, q1, q2, q3, (sp + mi) + 1, re, B, wd, hg, ow)) H := xP
        have xD : va_D A (wU G r (s, P, U, p, X, y, q0, q1, q2, q3, (sp + mi) + 1, re, B, wd, hg, ow)) := xD
        have J_116 : ∀ (k9 dg vl : Nat), (k9 ≤ y) → (sp < k9) → (stk T zA k9 = (fp, 0, hg, ow, wd, mi, dg, vl, f)) → (0 < dg) → (dg = 2 ∨ k9 = y ∨ ¬ (48 ≤ T k9 ∧ T k9 ≤ 57)) → (vl ≤ 99) → ∀ (H : Heap) (locs : List Loc), va_P G.1 vwCl (wU G r (s, P, U, p, X, y, q0, q1, q2, q3, k9, re, B, wd, hg, ow)) H → va_D A (wU G r (s, P, U, p, X, y, q0, q1, q2, q3, k9, re, B, wd, hg, ow)) → va_S A s9.heap H locs → ∀ (ls : Array Slot), lv_has ls 3 [(0, .ref r.1), (1, .int (nI mi)), (2, .int (nI vl))] → W p9 l e9 (rm 2 42) s9 m9 ([.ref r.1] : List Value).toArray b9 t9 c9 H locs 0 0 Q (F0 m9 116 ls []) := by
          intro k9 dg vl k1 k2 k3 k4 k5 k6 H locs xP xD xS ls xL
          refine lv_aload_n xE xB dX7_number_116 rfl (lv_at xL 0 rfl) ?_
          refine va_get (D := G.1) (ci := 7) (v := .ref r.2.2.2.2.2) (C := RX7) (T := TX7) (N := 16) xE xB xT khX7_number_X7 xO xK.1 xP 0 rfl rfl 12 (by decide) (xT _ kX7_number_f22) (fun _ h9 => h9) rfl dX7_number_117 ?_
          refine lv_bipush (v := nI 6) xE xB dX7_number_120 (by decide) ?_
          refine lv_aload_n xE xB dX7_number_122 rfl (lv_at xL 0 rfl) ?_
          refine va_get (D := G.1) (ci := 7) (v := .int (nI hg)) (C := RX7) (T := TX7) (N := 16) xE xB xT khX7_number_X7 xO xK.1 xP 0 rfl rfl 14 (by decide) (xT _ kX7_number_f147) (fun _ h9 => h9) rfl dX7_number_123 ?_
          refine q_imul xE xB dX7_number_126 ?_
          refine lv_aload_n xE xB dX7_number_127 rfl (lv_at xL 0 rfl) ?_
          refine va_get (D := G.1) (ci := 7) (v := .int (nI ow)) (C := RX7) (T := TX7) (N := 16) xE xB xT khX7_number_X7 xO xK.1 xP 0 rfl rfl 15 (by decide) (xT _ kX7_number_f150) (fun _ h9 => h9) rfl dX7_number_128 ?_
          refine q_iadd xE xB dX7_number_131 ?_
          have J_142 : ∀ (vv : Int32), (vv = sgnV mi vl) → ∀ (H : Heap) (locs : List Loc), va_P G.1 vwCl (wU G r (s, P, U, p, X, y, q0, q1, q2, q3, k9, re, B, wd, hg, ow)) H → va_D A (wU G r (s, P, U, p, X, y, q0, q1, q2, q3, k9, re, B, wd, hg, ow)) → va_S A s9.heap H locs → ∀ (ls : Array Slot), lv_has ls 3 [(0, .ref r.1)] → W p9 l e9 (rm 2 42) s9 m9 ([.ref r.1] : List Value).toArray b9 t9 c9 H locs 0 0 Q (F0 m9 142 ls [.int vv, .int (nI (6 * hg + ow)), .ref r.2.2.2.2.2]) := by
            intro vv hvv H locs xP xD xS ls xL
            refine q_ast xE xB xK xP xD xS 5 rfl (by omega) (by decide) dX7_number_142 (fun H locs xP xD xS => ?_)
            have xP : va_P G.1 vwCl (wU G r (s, P, U, p, X, y, q0, q1, q2, q3, k9, re, upd B (6 * hg + ow) vv, wd, hg, ow)) H := xP
            have xD : va_D A (wU G r (s, P, U, p, X, y, q0, q1, q2, q3, k9, re, upd B (6 * hg + ow) vv, wd, hg, ow)) := xD
            refine lv_aload_n xE xB dX7_number_143 rfl (lv_at xL 0 rfl) ?_
            refine lv_dup xE xB dX7_number_144 rfl ?_
            refine va_get (D := G.1) (ci := 7) (v := .int (nI ow)) (C := RX7) (T := TX7) (N := 16) xE xB xT khX7_number_X7 xO xK.1 xP 0 rfl rfl 15 (by decide) (xT _ kX7_number_f150) (fun _ h9 => h9) rfl dX7_number_145 ?_
            refine lv_iconst (v := nI 1) xE xB dX7_number_148 (by decide) ?_
            refine q_iadd xE xB dX7_number_149 ?_
            refine va_put (D := G.1) (ci := 7) (v := .int (nI (ow + 1))) (ty := .int) (C := RX7) (T := TX7) (N := 16) xE xB xT khX7_number_X7 tyX7 tyX7_ok nmX7 xO xK.1 xP xD xS 0 rfl rfl 15 (by decide) (xT _ kX7_number_f150) (fun _ h9 => h9) rfl (by decide +kernel) rfl rfl (Nat.le_of_ble_eq_true rfl) dX7_number_150 (fun H locs xP xD xS => ?_)
            have xP : va_P G.1 vwCl (wU G r (s, P, U, p, X, y, q0, q1, q2, q3, k9, re, upd B (6 * hg + ow) vv, wd, hg, ow + 1)) H := xP
            have xD : va_D A (wU G r (s, P, U, p, X, y, q0, q1, q2, q3, k9, re, upd B (6 * hg + ow) vv, wd, hg, ow + 1)) := xD
            refine lv_iconst (v := nI 1) xE xB dX7_number_153 (by decide) ?_
            exact xQ _ _ _ _ _ (k9, mi, dg, vl, upd B (6 * hg + ow) vv, ow + 1) (Or.inl ⟨rfl, by exact ⟨k1, k2, k3, k4, k5, by rw [hvv], rfl⟩⟩) (by decide) xP xD xS dX7_number_154
          refine lv_iload_n xE xB dX7_number_132 rfl (lv_at xL 1 rfl) ?_
          refine q_if_eq (tgt := 141) xE xB dX7_number_133 (by decide) (by omega) (fun c_133 => ?_) (fun c_133 => ?_)
          · skip
            refine lv_iload_n xE xB dX7_number_141 rfl (lv_at xL 2 rfl) ?_
            exact J_142 (nI vl) (by unfold sgnV; first | rw [if_pos c_133] | rw [if_neg (by omega)]) _ _ xP xD xS _ (lv_sub xL [0] rfl)
          · skip
            refine lv_iload_n xE xB dX7_number_136 rfl (lv_at xL 2 rfl) ?_
            refine lv_ineg xE xB dX7_number_137 ?_
            refine lv_goto (tgt := 142) xE xB dX7_number_138 (by decide) ?_
            exact J_142 (-(nI vl)) (by unfold sgnV; first | rw [if_pos c_133] | rw [if_neg (by omega)]) _ _ xP xD xS _ (lv_sub xL [0] rfl)
        have p1_9 := st_dig m3 ⟨d2, d3⟩ (by decide)
        have e1_9 : 0 * 10 + (T (sp + mi) - 48) = T (sp + mi) - 48 := (by omega)
        rw [e1_9] at p1_9
        have q1_9 : stk T zA (sp + mi + 1) = (fp, 0, hg, ow, wd, mi, 1, (T (sp + mi) - 48), f) := p1_9
        refine lv_aload_n xE xB dX7_number_81 rfl (lv_at xL 1 rfl) ?_
        refine q_VR (As := []) (rest := []) ⟨xE, xB, xM, xO, xT⟩ (kX7_isDigit l G r s P U p X y q0 q1 q2 q3 ((sp + mi) + 1) re B wd hg ow T (by exact hX) (by omega)) (cwV 0 xT gX7_number_X7_isDigit rfl rfl rfl (by decide +kernel) ⟨Nat.le_of_ble_eq_true rfl, Nat.le_of_ble_eq_true rfl⟩) xK xP [0, 1, 2, 3, 4, 5] rfl 0 rfl rfl rfl rfl xL.1 rfl (Nat.le_of_ble_eq_true rfl) dX7_number_82 ⟨Nat.le_refl _, Nat.le_refl _⟩ (fun r_82 h_82 => ?_)
        rcases h_82 with ⟨h_82, c_82⟩ | ⟨h_82, c_82⟩
        · skip
          subst h_82
          have c_82 : ((sp + mi) + 1) < y ∧ 48 ≤ T ((sp + mi) + 1) ∧ T ((sp + mi) + 1) ≤ 57 := c_82
          refine lv_if_eq (tgt := 116) xE xB dX7_number_85 (by decide) (fun h9 => absurd h9 (by decide)) (fun _ => ?_)
          obtain ⟨d4, d5, d6⟩ := c_82
          have p2_9 := st_dig q1_9 ⟨d5, d6⟩ (by decide)
          have e2_9 : (T (sp + mi) - 48) * 10 + (T (sp + mi + 1) - 48) = 10 * (T (sp + mi) - 48) + T (sp + mi + 1) - 48 := (by omega)
          rw [e2_9] at p2_9
          have q2_9 : stk T zA (sp + mi + 1 + 1) = (fp, 0, hg, ow, wd, mi, 2, (10 * (T (sp + mi) - 48) + T (sp + mi + 1) - 48), f) := p2_9
          refine lv_bipush (v := nI 10) xE xB dX7_number_88 (by decide) ?_
          refine lv_iload_n xE xB dX7_number_90 rfl (lv_at xL 0 rfl) ?_
          refine q_imul xE xB dX7_number_91 ?_
          refine lv_aload_n xE xB dX7_number_92 rfl (lv_at xL 1 rfl) ?_
          refine va_get (D := G.1) (ci := 7) (v := .ref r.2.2.2.2.1) (C := RX7) (T := TX7) (N := 16) xE xB xT khX7_number_X7 xO xK.1 xP 0 rfl rfl 4 (by decide) (xT _ kX7_number_f19) (fun _ h9 => h9) rfl dX7_number_93 ?_
          refine lv_aload_n xE xB dX7_number_96 rfl (lv_at xL 1 rfl) ?_
          refine va_get (D := G.1) (ci := 7) (v := .int (nI ((sp + mi) + 1))) (C := RX7) (T := TX7) (N := 16) xE xB xT khX7_number_X7 xO xK.1 xP 0 rfl rfl 10 (by decide) (xT _ kX7_number_f141) (fun _ h9 => h9) rfl dX7_number_97 ?_
          refine q_ald xE xB xK xP 4 rfl (by omega) (by decide) dX7_number_100 ?_
          refine q_eq (y := nI (T (sp + mi + 1))) (congrArg (fun z => z) ((hX.2 _ (by omega)).1)) ?_
          refine q_iadd xE xB dX7_number_101 ?_
          refine lv_bipush (v := nI 48) xE xB dX7_number_102 (by decide) ?_
          refine q_isub xE xB dX7_number_104 (by omega) ?_
          refine lv_istore_n (lv' := [(2, .int (nI (((10 * ((T (sp + mi)) - 48)) + (T (sp + mi + 1))) - 48))), (0, .ref r.1), (1, .int (nI mi))]) xE xB dX7_number_105 rfl xL (by decide) rfl (fun ls xL => ?_)
          refine lv_aload_n xE xB dX7_number_106 rfl (lv_at xL 1 rfl) ?_
          refine lv_dup xE xB dX7_number_107 rfl ?_
          refine va_get (D := G.1) (ci := 7) (v := .int (nI ((sp + mi) + 1))) (C := RX7) (T := TX7) (N := 16) xE xB xT khX7_number_X7 xO xK.1 xP 0 rfl rfl 10 (by decide) (xT _ kX7_number_f141) (fun _ h9 => h9) rfl dX7_number_108 ?_
          refine lv_iconst (v := nI 1) xE xB dX7_number_111 (by decide) ?_
          refine q_iadd xE xB dX7_number_112 ?_
          refine va_put (D := G.1) (ci := 7) (v := .int (nI (((sp + mi) + 1) + 1))) (ty := .int) (C := RX7) (T := TX7) (N := 16) xE xB xT khX7_number_X7 tyX7 tyX7_ok nmX7 xO xK.1 xP xD xS 0 rfl rfl 10 (by decide) (xT _ kX7_number_f141) (fun _ h9 => h9) rfl (by decide +kernel) rfl rfl (Nat.le_of_ble_eq_true rfl) dX7_number_113 (fun H locs xP xD xS => ?_)
          have xP : va_P G.1 vwCl (wU G r (s, P, U, p, X, y, q0, q1, q2, q3, ((sp + mi) + 1) + 1, re, B, wd, hg, ow)) H := xP
          have xD : va_D A (wU G r (s, P, U, p, X, y, q0, q1, q2, q3, ((sp + mi) + 1) + 1, re, B, wd, hg, ow)) := xD
          exact J_116 (((sp + mi) + 1) + 1) 2 (((10 * ((T (sp + mi)) - 48)) + (T (sp + mi + 1))) - 48) (by omega) (by omega) (by first | exact q1_9 | exact q2_9) (by omega) (by omega) (by omega) _ _ xP xD xS _ (lv_sub xL [1, 2, 0] rfl)
        · skip
          subst h_82
          have c_82 : ¬ (((sp + mi) + 1) < y ∧ 48 ≤ T ((sp + mi) + 1) ∧ T ((sp + mi) + 1) ≤ 57) := c_82
          refine lv_if_eq (tgt := 116) xE xB dX7_number_85 (by decide) (fun _ => ?_) (fun h9 => absurd (by decide) h9)
          exact J_116 ((sp + mi) + 1) 1 ((T (sp + mi)) - 48) (by omega) (by omega) (by first | exact q1_9 | exact q2_9) (by omega) (by omega) (by omega) _ _ xP xD xS _ (lv_sub xL [1, 2, 0] rfl)
      · skip
        subst h_50
        have c_50 : ¬ ((sp + mi) < y ∧ 48 ≤ T (sp + mi) ∧ T (sp + mi) ≤ 57) := c_50
        refine lv_if_ne (tgt := 58) xE xB dX7_number_53 (by decide) (fun h9 => absurd (by decide) h9) (fun _ => ?_)
        refine lv_iconst (v := nI 0) xE xB dX7_number_56 (by decide) ?_
        exact xQ _ _ _ _ _ (sp + mi, mi, 0, 0, B, ow) (Or.inr ⟨rfl, by exact ⟨m2, by omega, m3, (by have e4 : mi = 0 → sp < y → T (sp + mi) ≠ 45 := (fun h9 h8 => by rw [h9]; exact m4 h9 h8); show sp + mi = y ∨ (¬ (48 ≤ T (sp + mi) ∧ T (sp + mi) ≤ 57) ∧ (T (sp + mi) = 45 → mi = 1)); omega), rfl, rfl⟩⟩) (by decide) xP xD xS dX7_number_57
    refine lv_aload_n xE xB dX7_number_31 rfl (lv_at xL 1 rfl) ?_
    refine lv_dup xE xB dX7_number_32 rfl ?_
    refine va_get (D := G.1) (ci := 7) (v := .int (nI sp)) (C := RX7) (T := TX7) (N := 16) xE xB xT khX7_number_X7 xO xK.1 xP 0 rfl rfl 10 (by decide) (xT _ kX7_number_f141) (fun _ h9 => h9) rfl dX7_number_33 ?_
    refine lv_iload_n xE xB dX7_number_36 rfl (lv_at xL 0 rfl) ?_
    refine q_if_eq (tgt := 44) xE xB dX7_number_37 (by decide) (by omega) (fun c_37 => ?_) (fun c_37 => ?_)
    · skip
      refine lv_iconst (v := nI 0) xE xB dX7_number_44 (by decide) ?_
      exact J_45 0 (by omega) _ _ xP xD xS _ (lv_sub xL [1, 0] rfl)
    · skip
      refine lv_iconst (v := nI 1) xE xB dX7_number_40 (by decide) ?_
      refine lv_goto (tgt := 45) xE xB dX7_number_41 (by decide) ?_
      exact J_45 1 (by omega) _ _ xP xD xS _ (lv_sub xL [1, 0] rfl)
  refine lv_aload_n xE xB dX7_number_0 rfl (lv_at xL 0 rfl) ?_
  refine va_get (D := G.1) (ci := 7) (v := .int (nI sp)) (C := RX7) (T := TX7) (N := 16) xE xB xT khX7_number_X7 xO xK.1 xP 0 rfl rfl 10 (by decide) (xT _ kX7_number_f141) (fun _ h9 => h9) rfl dX7_number_1 ?_
  refine lv_aload_n xE xB dX7_number_4 rfl (lv_at xL 0 rfl) ?_
  refine va_get (D := G.1) (ci := 7) (v := .int (nI y)) (C := RX7) (T := TX7) (N := 16) xE xB xT khX7_number_X7 xO xK.1 xP 0 rfl rfl 5 (by decide) (xT _ kX7_number_f131) (fun _ h9 => h9) rfl dX7_number_5 ?_
  refine q_icmp_ge (tgt := 29) xE xB dX7_number_8 (by decide) (by omega) (by omega) (fun c_8 => ?_) (fun c_8 => ?_)
  · skip
    refine lv_iconst (v := nI 0) xE xB dX7_number_29 (by decide) ?_
    exact J_30 0 (by omega) (by omega) (by first | exact hz | exact st_min hz c_22) (by omega) _ _ xP xD xS _ (lv_sub xL [0] rfl)
  · skip
    refine lv_aload_n xE xB dX7_number_11 rfl (lv_at xL 0 rfl) ?_
    refine va_get (D := G.1) (ci := 7) (v := .ref r.2.2.2.2.1) (C := RX7) (T := TX7) (N := 16) xE xB xT khX7_number_X7 xO xK.1 xP 0 rfl rfl 4 (by decide) (xT _ kX7_number_f19) (fun _ h9 => h9) rfl dX7_number_12 ?_
    refine lv_aload_n xE xB dX7_number_15 rfl (lv_at xL 0 rfl) ?_
    refine va_get (D := G.1) (ci := 7) (v := .int (nI sp)) (C := RX7) (T := TX7) (N := 16) xE xB xT khX7_number_X7 xO xK.1 xP 0 rfl rfl 10 (by decide) (xT _ kX7_number_f141) (fun _ h9 => h9) rfl dX7_number_16 ?_
    refine q_ald xE xB xK xP 4 rfl (by omega) (by decide) dX7_number_19 ?_
    refine q_eq (y := nI (T sp)) (congrArg (fun z => z) ((hX.2 sp (by omega)).1)) ?_
    refine lv_bipush (v := nI 45) xE xB dX7_number_20 (by decide) ?_
    refine q_icmp_ne (tgt := 29) xE xB dX7_number_22 (by decide) (by have h9 := hX.2 sp (by omega); omega) (by have h9 := hX.2 sp (by omega); omega) (fun c_22 => ?_) (fun c_22 => ?_)
    · skip
      refine lv_iconst (v := nI 0) xE xB dX7_number_29 (by decide) ?_
      exact J_30 0 (by omega) (by omega) (by first | exact hz | exact st_min hz c_22) (by omega) _ _ xP xD xS _ (lv_sub xL [0] rfl)
    · skip
      refine lv_iconst (v := nI 1) xE xB dX7_number_25 (by decide) ?_
      refine lv_goto (tgt := 30) xE xB dX7_number_26 (by decide) ?_
      exact J_30 1 (by omega) (by omega) (by first | exact hz | exact st_min hz c_22) (by omega) _ _ xP xD xS _ (lv_sub xL [0] rfl)
