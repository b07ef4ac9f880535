/-! ref5: begins -/
theorem kX7_begins_f7 : Cond.fieldLink RX7 7 "SkewedSquareModel" "s" "[I" ∈ wsX7_begins := by decide +kernel
theorem khX7_begins_X7 : ∀ w ∈ u_ws RX7 TX7 16, w ∈ wsX7_begins := by decide +kernel
set_option maxHeartbeats 4000000 in
set_option maxRecDepth 100000 in
/-- kX7_begins -/
theorem kX7_begins (l : Launch) (G : wG) (r : RA) (s P U : wF) (p : Nat) (X : wF) (y q0 : Nat) (q1 : Int32) (q2 : Nat) (q3 : Int32) (sp re : Nat) (B : wF) (wd hg ow : Nat) (i j : Nat) (hp : p ≤ 4) : CV (S := Unit) l yX7_begins wsX7_begins (rm 1 23) G [.ref r.1, .int (nI i), .int (nI j)] (wU G r (s, P, U, p, X, y, q0, q1, q2, q3, sp, re, B, wd, hg, ow)) (fun u9 => True) (fun u9 => wU G r (bgF i j s, P, U, p, X, y, q0, q1, q2, q3, sp, re, B, wd, hg, ow)) := by
  refine CV.of (own := RX7) rfl (by decide) rfl (Nat.le_of_ble_eq_true rfl) ?_
  intro p9 e9 s9 m9 b9 t9 c9 A xE xB xM xO xT xK xP xD Q xQ xS ls hl
  have xL : lv_has ls 3 [(0, .ref r.1), (1, .int (nI i)), (2, .int (nI j))] := hl
  refine lv_aload_n xE xB dX7_begins_0 rfl (lv_at xL 0 rfl) ?_
  refine va_get (D := G.1) (ci := 7) (v := .ref r.2.1) (C := RX7) (T := TX7) (N := 16) xE xB xT khX7_begins_X7 xO xK.1 xP 0 rfl rfl 0 (by decide) (xT _ kX7_begins_f7) (fun _ h9 => h9) rfl dX7_begins_1 ?_
  refine lv_iconst (v := nI 5) xE xB dX7_begins_4 (by decide) ?_
  refine lv_iconst (v := nI 1) xE xB dX7_begins_5 (by decide) ?_
  refine q_ast xE xB xK xP xD xS 1 rfl (by omega) (by decide) dX7_begins_6 (fun H locs xP xD xS => ?_)
  have xP : va_P G.1 vwCl (wU G r (upd s 5 (nI 1), P, U, p, X, y, q0, q1, q2, q3, sp, re, B, wd, hg, ow)) H := xP
  have xD : va_D A (wU G r (upd s 5 (nI 1), P, U, p, X, y, q0, q1, q2, q3, sp, re, B, wd, hg, ow)) := xD
  refine lv_aload_n xE xB dX7_begins_7 rfl (lv_at xL 0 rfl) ?_
  refine va_get (D := G.1) (ci := 7) (v := .ref r.2.1) (C := RX7) (T := TX7) (N := 16) xE xB xT khX7_begins_X7 xO xK.1 xP 0 rfl rfl 0 (by decide) (xT _ kX7_begins_f7) (fun _ h9 => h9) rfl dX7_begins_8 ?_
  refine lv_bipush (v := nI 6) xE xB dX7_begins_11 (by decide) ?_
  refine lv_iload_n xE xB dX7_begins_13 rfl (lv_at xL 1 rfl) ?_
  refine q_ast xE xB xK xP xD xS 1 rfl (by omega) (by decide) dX7_begins_14 (fun H locs xP xD xS => ?_)
  have xP : va_P G.1 vwCl (wU G r (upd (upd s 5 (nI 1)) 6 (nI i), P, U, p, X, y, q0, q1, q2, q3, sp, re, B, wd, hg, ow)) H := xP
  have xD : va_D A (wU G r (upd (upd s 5 (nI 1)) 6 (nI i), P, U, p, X, y, q0, q1, q2, q3, sp, re, B, wd, hg, ow)) := xD
  refine lv_aload_n xE xB dX7_begins_15 rfl (lv_at xL 0 rfl) ?_
  refine va_get (D := G.1) (ci := 7) (v := .ref r.2.1) (C := RX7) (T := TX7) (N := 16) xE xB xT khX7_begins_X7 xO xK.1 xP 0 rfl rfl 0 (by decide) (xT _ kX7_begins_f7) (fun _ h9 => h9) rfl dX7_begins_16 ?_
  refine lv_bipush (v := nI 7) xE xB dX7_begins_19 (by decide) ?_
  refine lv_iload_n xE xB dX7_begins_21 rfl (lv_at xL 2 rfl) ?_
  refine q_ast xE xB xK xP xD xS 1 rfl (by omega) (by decide) dX7_begins_22 (fun H locs xP xD xS => ?_)
  have xP : va_P G.1 vwCl (wU G r (upd (upd (upd s 5 (nI 1)) 6 (nI i)) 7 (nI j), P, U, p, X, y, q0, q1, q2, q3, sp, re, B, wd, hg, ow)) H := xP
  have xD : va_D A (wU G r (upd (upd (upd s 5 (nI 1)) 6 (nI i)) 7 (nI j), P, U, p, X, y, q0, q1, q2, q3, sp, re, B, wd, hg, ow)) := xD
  refine lv_aload_n xE xB dX7_begins_23 rfl (lv_at xL 0 rfl) ?_
  refine va_get (D := G.1) (ci := 7) (v := .ref r.2.1) (C := RX7) (T := TX7) (N := 16) xE xB xT khX7_begins_X7 xO xK.1 xP 0 rfl rfl 0 (by decide) (xT _ kX7_begins_f7) (fun _ h9 => h9) rfl dX7_begins_24 ?_
  refine lv_bipush (v := nI 8) xE xB dX7_begins_27 (by decide) ?_
  refine lv_iconst (v := nI 0) xE xB dX7_begins_29 (by decide) ?_
  refine q_ast xE xB xK xP xD xS 1 rfl (by omega) (by decide) dX7_begins_30 (fun H locs xP xD xS => ?_)
  have xP : va_P G.1 vwCl (wU G r (upd (upd (upd (upd s 5 (nI 1)) 6 (nI i)) 7 (nI j)) 8 (nI 0), P, U, p, X, y, q0, q1, q2, q3, sp, re, B, wd, hg, ow)) H := xP
  have xD : va_D A (wU G r (upd (upd (upd (upd s 5 (nI 1)) 6 (nI i)) 7 (nI j)) 8 (nI 0), P, U, p, X, y, q0, q1, q2, q3, sp, re, B, wd, hg, ow)) := xD
  refine lv_aload_n xE xB dX7_begins_31 rfl (lv_at xL 0 rfl) ?_
  refine lv_sipush (v := nI 173) xE xB dX7_begins_32 (by decide) ?_
  refine lv_bipush (v := nI 96) xE xB dX7_begins_35 (by decide) ?_
  refine q_VV (As := [.int (nI 173), .int (nI 96)]) (rest := []) ⟨xE, xB, xM, xO, xT⟩ (kX7_clears l G r (upd (upd (upd (upd s 5 (nI 1)) 6 (nI i)) 7 (nI j)) 8 (nI 0)) P U p X y q0 q1 q2 q3 sp re B wd hg ow 173 96 (by omega)) (cwV 2 xT gX7_begins_X7_clears rfl rfl rfl (by decide +kernel) ⟨Nat.le_of_ble_eq_true rfl, Nat.le_of_ble_eq_true rfl⟩) xK xP xD xS [0, 1, 2, 3, 4, 5] rfl (by decide +kernel) (fun _ => rfl) 0 rfl rfl rfl rfl xL.1 rfl (Nat.le_of_ble_eq_true rfl) dX7_begins_37 ⟨Nat.le_refl _, Nat.le_refl _⟩ (fun u_37 H locs h_37 xP xD xS => ?_)
  have xP : va_P G.1 vwCl (wU G r (clr 173 96 (upd (upd (upd (upd s 5 (nI 1)) 6 (nI i)) 7 (nI j)) 8 (nI 0)), P, U, p, X, y, q0, q1, q2, q3, sp, re, B, wd, hg, ow)) H := xP
  have xD : va_D A (wU G r (clr 173 96 (upd (upd (upd (upd s 5 (nI 1)) 6 (nI i)) 7 (nI j)) 8 (nI 0)), P, U, p, X, y, q0, q1, q2, q3, sp, re, B, wd, hg, ow)) := xD
  exact xQ _ _ _ _ () trivial xP xD xS dX7_begins_40
