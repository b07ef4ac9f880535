set_option maxHeartbeats 4000000 in
set_option maxRecDepth 100000 in
/-- case 17: undo -/
theorem law_17 {p9 : Program} {l : Launch} {e9 : Env} {s9 : State} {m9 : MethodId} {b9 : List Frame} {t9 : Method} {c9 : Code} {bb LL : Nat} {xs : Nat → Int32} {G : wG} (hL : LL ≤ 2048) (C0 : lw_At p9 s9 m9 t9 c9 bb LL xs) (xK : KK G s9) (i : Nat) (hi : i + 4 ≤ LL) (hn9 : LAt p9 l e9 s9 m9 b9 t9 c9 bb G i 742) : LAt p9 l e9 s9 m9 b9 t9 c9 bb G i 647 := by
  obtain ⟨xE, xB, -, xM, xO0, hts, hX, hbl, -, -⟩ := C0
  have xO : s9.vm.findClass RL = some m9.cls := xO0
  have xT : ∀ w ∈ wsL_law, w.before #[Value.ref bb] s9 = true := fun w hw => hts w (wsL_law_in w hw)
  rintro ⟨x0, na, tra, h, k⟩ r ⟨⟨n, o, kf⟩, ⟨lr, lc, L⟩, ⟨rr, rc, R⟩, ⟨sr, sc, Z⟩, ⟨b, ta, tb, th, tw, tt, tn, sm0, mt, rw, dn⟩⟩ v ⟨hn, u0, u1, u2, u3⟩ ⟨xl, xf, xr, xo, xc, xw, xn, xg, xv, gg, ⟨xm, xk, ff⟩⟩ ⟨s, P, U, p, X, y, q0, q1, q2, q3, sp, re, B, wd, hg, ow⟩ ⟨pst, T, hR, hHD, hQ, hXc, hXr⟩ H locs xP xD xS ls xL
  have hR : RelS ((n, o, kf), (lr, lc, L), (rr, rc, R), (sr, sc, Z), (b, ta, tb, th, tw, tt, tn, sm0, mt, rw, dn)) s := hR
  obtain ⟨hd1, hd2, hd3⟩ := hR.2.2.2.1
  obtain ⟨hp9, hh, hH⟩ := id hHD
  obtain ⟨hy9, hy8, hgg⟩ := id hXc
  obtain rfl : lc = rr := Eq.symm hd1
  obtain rfl : lr = sr := Eq.symm hd2
  obtain rfl : rc = sc := Eq.symm hd3
  obtain rfl : p = hn := Eq.symm hp9
  obtain rfl : y = xl := Eq.symm hy9
  have hg9 : ∀ j, j < y → gg j = nI (T j) ∧ 32 ≤ T j ∧ T j ≤ 126 := hgg
  have hy8 : y ≤ 80 := hy8
  have hh : p ≤ 4 := hh
  have hH : HRel p u0 u1 u2 u3 pst := hH
  have hQ : PQ pst P p := hQ
  have hXr : RefX X T y := hXr
  obtain ⟨A, hAe⟩ : ∃ A : Nat → Prop, A = (fun q : Nat => s9.heap.size ≤ q) := ⟨_, rfl⟩
  have hbA : ¬ A bb := by rw [hAe]; exact Nat.not_le.mpr hbl
  rw [← hAe] at xD xS
  have xP : va_P G.1 vwCl (List.flatten [[(x0, .inr (6, [.ref na.1, .ref tra.1, .ref h.1, .ref k.1]))], wS G na ((n, o, kf), (lr, lc, L), (lc, rc, R), (lr, rc, Z), (b, ta, tb, th, tw, tt, tn, sm0, mt, rw, dn)), wS G tra v, wHf G h (p, u0, u1, u2, u3), wX G k (y, xf, xr, xo, xc, xw, xn, xg, xv, gg, (xm, xk, ff)), wU G r (s, P, U, p, X, y, q0, q1, q2, q3, sp, re, B, wd, hg, ow)]) H := xP
  have xD : va_D A (List.flatten [[(x0, .inr (6, [.ref na.1, .ref tra.1, .ref h.1, .ref k.1]))], wS G na ((n, o, kf), (lr, lc, L), (lc, rc, R), (lr, rc, Z), (b, ta, tb, th, tw, tt, tn, sm0, mt, rw, dn)), wS G tra v, wHf G h (p, u0, u1, u2, u3), wX G k (y, xf, xr, xo, xc, xw, xn, xg, xv, gg, (xm, xk, ff)), wU G r (s, P, U, p, X, y, q0, q1, q2, q3, sp, re, B, wd, hg, ow)]) := xD
  have xL : lv_has ls 4 [(0, .ref bb), (1, .ref x0), (2, .ref r.1), (3, .int (nI i))] := xL
  refine lv_aload_n xE xB dL_law_647 rfl (lv_at xL 1 rfl) ?_
  refine q_VIL (As := []) (rest := []) ⟨xE, xB, xM, xO, xT⟩ (kX6_undo l G x0 na tra h k n o kf lr lc L lc rc R lr rc Z b ta tb th tw tt tn sm0 mt rw dn v p u0 u1 u2 u3 (y, xf, xr, xo, xc, xw, xn, xg, xv, gg, (xm, xk, ff)) s pst (by exact hR) (by exact hh) (by exact hH)) (cwV 0 xT gL_law_X6_undo rfl rfl rfl (by decide +kernel) ⟨Nat.le_of_ble_eq_true rfl, Nat.le_of_ble_eq_true rfl⟩) xK xP xD xS [0, 1, 2, 3, 4] [5] 6 rfl (by decide) (Lc := [[(x0, .inr (6, [.ref na.1, .ref tra.1, .ref h.1, .ref k.1]))], wS G na ((n, o, kf), (lr, lc, L), (lc, rc, R), (lr, rc, Z), (b, ta, tb, th, tw, tt, tn, sm0, mt, rw, dn)), wS G tra v, wHf G h (p, u0, u1, u2, u3), wX G k (y, xf, xr, xo, xc, xw, xn, xg, xv, gg, (xm, xk, ff))]) rfl (by simp only [List.flatten_cons, List.flatten_nil, List.append_nil, List.append_assoc]) (fun u_648 => [[(x0, .inr (6, [.ref na.1, .ref tra.1, .ref h.1, .ref k.1]))], wS G na u_648.1, wS G tra v, wHf G (h.1, h.2.1, u_648.2.1, u_648.2.2.1, u_648.2.2.2.1, u_648.2.2.2.2.1) u_648.2.2.2.2.2, wX G k (y, xf, xr, xo, xc, xw, xn, xg, xv, gg, (xm, xk, ff)), wU G r (s, P, U, p, X, y, q0, q1, q2, q3, sp, re, B, wd, hg, ow)]) (fun u_648 => [[(x0, .inr (6, [.ref na.1, .ref tra.1, .ref h.1, .ref k.1]))], wS G na u_648.1, wS G tra v, wHf G (h.1, h.2.1, u_648.2.1, u_648.2.2.1, u_648.2.2.2.1, u_648.2.2.2.2.1) u_648.2.2.2.2.2, wX G k (y, xf, xr, xo, xc, xw, xn, xg, xv, gg, (xm, xk, ff))]) (fun _ => rfl) (fun _ => rfl) (fun _ => by simp only [List.flatten_cons, List.flatten_nil, List.append_nil, List.append_assoc]) (fun _ => rfl) 0 rfl rfl rfl rfl xL.1 rfl (Nat.le_of_ble_eq_true rfl) dL_law_648 ⟨Nat.le_of_ble_eq_true rfl, Nat.le_of_ble_eq_true rfl⟩ (fun r_648 u_648 H locs h_648 xP xD xS => ?_)
  have h_648 : PO r_648 u_648 (opUndo s pst p) := h_648
  refine lv_aload_n xE xB dL_law_651 rfl (lv_at xL 2 rfl) ?_
  refine q_VIL (As := []) (rest := [.int r_648]) ⟨xE, xB, xM, xO, xT⟩ (kX7_undo l G r s P U p X y q0 q1 q2 q3 sp re B wd hg ow pst (by exact hh) (by exact hQ)) (cwV 0 xT gL_law_X7_undo rfl rfl rfl (by decide +kernel) ⟨Nat.le_of_ble_eq_true rfl, Nat.le_of_ble_eq_true rfl⟩) xK xP xD xS [5] [0, 1, 2, 3, 4] 6 rfl (by decide) (Lc := [wU G r (s, P, U, p, X, y, q0, q1, q2, q3, sp, re, B, wd, hg, ow)]) rfl (by simp only [List.flatten_cons, List.flatten_nil, List.append_nil, List.append_assoc]) (fun u_652 => [[(x0, .inr (6, [.ref na.1, .ref tra.1, .ref h.1, .ref k.1]))], wS G na u_648.1, wS G tra v, wHf G (h.1, h.2.1, u_648.2.1, u_648.2.2.1, u_648.2.2.2.1, u_648.2.2.2.2.1) u_648.2.2.2.2.2, wX G k (y, xf, xr, xo, xc, xw, xn, xg, xv, gg, (xm, xk, ff)), wU G r (u_652.1, u_652.2.1, U, u_652.2.2, X, y, q0, q1, q2, q3, sp, re, B, wd, hg, ow)]) (fun u_652 => [wU G r (u_652.1, u_652.2.1, U, u_652.2.2, X, y, q0, q1, q2, q3, sp, re, B, wd, hg, ow)]) (fun _ => rfl) (fun _ => rfl) (fun _ => by simp only [List.flatten_cons, List.flatten_nil, List.append_nil, List.append_assoc]) (fun _ => rfl) 0 rfl rfl rfl rfl xL.1 rfl (Nat.le_of_ble_eq_true rfl) dL_law_652 ⟨Nat.le_of_ble_eq_true rfl, Nat.le_of_ble_eq_true rfl⟩ (fun r_652 u_652 H locs h_652 xP xD xS => ?_)
  have h_652 : QO r_652 u_652 (opUndo s pst p) := h_652
  refine lv_icmp_eq (tgt := 742) xE xB dL_law_655 (by decide) (fun c_655 => ?_) (fun c_655 => by exact absurd (op_eq h_648 h_652) c_655)
  subst hAe
  exact hn9 (x0, na, tra, (h.1, h.2.1, u_648.2.1, u_648.2.2.1, u_648.2.2.2.1, u_648.2.2.2.2.1), k) r u_648.1 v u_648.2.2.2.2.2 (y, xf, xr, xo, xc, xw, xn, xg, xv, gg, (xm, xk, ff)) (u_652.1, u_652.2.1, U, u_652.2.2, X, y, q0, q1, q2, q3, sp, re, B, wd, hg, ow) (INV_op h_648 h_652 rfl rfl rfl hXc hXr) H locs xP xD xS ls (lv_sub xL [0, 1, 2, 3] rfl)
set_option maxHeartbeats 4000000 in
set_option maxRecDepth 100000 in
/-- case 18: type -/
theorem law_18 {p9 : Program} {l : Launch} {e9 : Env} {s9 : State} {m9 : MethodId} {b9 : List Frame} {t9 : Method} {c9 : Code} {bb LL : Nat} {xs : Nat → Int32} {G : wG} (hL : LL ≤ 2048) (C0 : lw_At p9 s9 m9 t9 c9 bb LL xs) (xK : KK G s9) (i : Nat) (hi : i + 4 ≤ LL) (hn9 : LAt p9 l e9 s9 m9 b9 t9 c9 bb G i 742) : LAt p9 l e9 s9 m9 b9 t9 c9 bb G i 660 := by
  obtain ⟨xE, xB, -, xM, xO0, hts, hX, hbl, -, -⟩ := C0
  have xO : s9.vm.findClass RL = some m9.cls := xO0
  have xT : ∀ w ∈ wsL_law, w.before #[Value.ref bb] s9 = true := fun w hw => hts w (wsL_law_in w hw)
  rintro ⟨x0, na, tra, h, k⟩ r ⟨⟨n, o, kf⟩, ⟨lr, lc, L⟩, ⟨rr, rc, R⟩, ⟨sr, sc, Z⟩, ⟨b, ta, tb, th, tw, tt, tn, sm0, mt, rw, dn⟩⟩ v ⟨hn, u0, u1, u2, u3⟩ ⟨xl, xf, xr, xo, xc, xw, xn, xg, xv, gg, ⟨xm, xk, ff⟩⟩ ⟨s, P, U, p, X, y, q0, q1, q2, q3, sp, re, B, wd, hg, ow⟩ ⟨pst, T, hR, hHD, hQ, hXc, hXr⟩ H locs xP xD xS ls xL
  have hR : RelS ((n, o, kf), (lr, lc, L), (rr, rc, R), (sr, sc, Z), (b, ta, tb, th, tw, tt, tn, sm0, mt, rw, dn)) s := hR
  obtain ⟨hd1, hd2, hd3⟩ := hR.2.2.2.1
  obtain ⟨hp9, hh, hH⟩ := id hHD
  obtain ⟨hy9, hy8, hgg⟩ := id hXc
  obtain rfl : lc = rr := Eq.symm hd1
  obtain rfl : lr = sr := Eq.symm hd2
  obtain rfl : rc = sc := Eq.symm hd3
  obtain rfl : p = hn := Eq.symm hp9
  obtain rfl : y = xl := Eq.symm hy9
  have hg9 : ∀ j, j < y → gg j = nI (T j) ∧ 32 ≤ T j ∧ T j ≤ 126 := hgg
  have hy8 : y ≤ 80 := hy8
  have hh : p ≤ 4 := hh
  have hH : HRel p u0 u1 u2 u3 pst := hH
  have hQ : PQ pst P p := hQ
  have hXr : RefX X T y := hXr
  obtain ⟨A, hAe⟩ : ∃ A : Nat → Prop, A = (fun q : Nat => s9.heap.size ≤ q) := ⟨_, rfl⟩
  have hbA : ¬ A bb := by rw [hAe]; exact Nat.not_le.mpr hbl
  rw [← hAe] at xD xS
  have xP : va_P G.1 vwCl (List.flatten [[(x0, .inr (6, [.ref na.1, .ref tra.1, .ref h.1, .ref k.1]))], wS G na ((n, o, kf), (lr, lc, L), (lc, rc, R), (lr, rc, Z), (b, ta, tb, th, tw, tt, tn, sm0, mt, rw, dn)), wS G tra v, wHf G h (p, u0, u1, u2, u3), wX G k (y, xf, xr, xo, xc, xw, xn, xg, xv, gg, (xm, xk, ff)), wU G r (s, P, U, p, X, y, q0, q1, q2, q3, sp, re, B, wd, hg, ow)]) H := xP
  have xD : va_D A (List.flatten [[(x0, .inr (6, [.ref na.1, .ref tra.1, .ref h.1, .ref k.1]))], wS G na ((n, o, kf), (lr, lc, L), (lc, rc, R), (lr, rc, Z), (b, ta, tb, th, tw, tt, tn, sm0, mt, rw, dn)), wS G tra v, wHf G h (p, u0, u1, u2, u3), wX G k (y, xf, xr, xo, xc, xw, xn, xg, xv, gg, (xm, xk, ff)), wU G r (s, P, U, p, X, y, q0, q1, q2, q3, sp, re, B, wd, hg, ow)]) := xD
  have xL : lv_has ls 4 [(0, .ref bb), (1, .ref x0), (2, .ref r.1), (3, .int (nI i))] := xL
  refine lv_aload_n xE xB dL_law_660 rfl (lv_at xL 1 rfl) ?_
  refine lv_aload_n xE xB dL_law_661 rfl (lv_at xL 0 rfl) ?_
  refine lv_iload_n xE xB dL_law_662 rfl (lv_at xL 3 rfl) ?_
  refine lv_iconst (v := nI 1) xE xB dL_law_663 (by decide) ?_
  refine q_iadd xE xB dL_law_664 ?_
  refine q_sld xE xB hX hbl hbA xS (by omega) (by omega) dL_law_665 ?_
  refine q_VIL (As := [.int (xs (i + 1))]) (rest := []) ⟨xE, xB, xM, xO, xT⟩ (kX6_type l G x0 na tra h k n o kf lr lc L lc rc R lr rc Z b ta tb th tw tt tn sm0 mt rw dn v p u0 u1 u2 u3 y xf xr xo xc xw xn xg xv gg xm xk ff T s pst (xs (i + 1)) (by exact hy8) (by exact hg9)) (cwV 1 xT gL_law_X6_type rfl rfl rfl (by decide +kernel) ⟨Nat.le_of_ble_eq_true rfl, Nat.le_of_ble_eq_true rfl⟩) xK xP xD xS [0, 1, 2, 3, 4] [5] 6 rfl (by decide) (Lc := [[(x0, .inr (6, [.ref na.1, .ref tra.1, .ref h.1, .ref k.1]))], wS G na ((n, o, kf), (lr, lc, L), (lc, rc, R), (lr, rc, Z), (b, ta, tb, th, tw, tt, tn, sm0, mt, rw, dn)), wS G tra v, wHf G h (p, u0, u1, u2, u3), wX G k (y, xf, xr, xo, xc, xw, xn, xg, xv, gg, (xm, xk, ff))]) rfl (by simp only [List.flatten_cons, List.flatten_nil, List.append_nil, List.append_assoc]) (fun u_666 => [[(x0, .inr (6, [.ref na.1, .ref tra.1, .ref h.1, .ref k.1]))], wS G na ((n, o, kf), (lr, lc, L), (lc, rc, R), (lr, rc, Z), (b, ta, tb, th, tw, tt, tn, sm0, mt, rw, dn)), wS G tra v, wHf G h (p, u0, u1, u2, u3), wX G k u_666, wU G r (s, P, U, p, X, y, q0, q1, q2, q3, sp, re, B, wd, hg, ow)]) (fun u_666 => [[(x0, .inr (6, [.ref na.1, .ref tra.1, .ref h.1, .ref k.1]))], wS G na ((n, o, kf), (lr, lc, L), (lc, rc, R), (lr, rc, Z), (b, ta, tb, th, tw, tt, tn, sm0, mt, rw, dn)), wS G tra v, wHf G h (p, u0, u1, u2, u3), wX G k u_666]) (fun _ => rfl) (fun _ => rfl) (fun _ => by simp only [List.flatten_cons, List.flatten_nil, List.append_nil, List.append_assoc]) (fun _ => rfl) 0 rfl rfl rfl rfl xL.1 rfl (Nat.le_of_ble_eq_true rfl) dL_law_666 ⟨Nat.le_of_ble_eq_true rfl, Nat.le_of_ble_eq_true rfl⟩ (fun r_666 u_666 H locs h_666 xP xD xS => ?_)
  have h_666 : r_666 = tyA y (xs (i + 1)) ∧ RelX u_666 (tyT y (xs (i + 1)) T) (tyN y (xs (i + 1))) := h_666
  refine lv_aload_n xE xB dL_law_669 rfl (lv_at xL 2 rfl) ?_
  refine lv_aload_n xE xB dL_law_670 rfl (lv_at xL 0 rfl) ?_
  refine lv_iload_n xE xB dL_law_671 rfl (lv_at xL 3 rfl) ?_
  refine lv_iconst (v := nI 1) xE xB dL_law_672 (by decide) ?_
  refine q_iadd xE xB dL_law_673 ?_
  refine q_sld xE xB hX hbl hbA xS (by omega) (by omega) dL_law_674 ?_
  refine q_VIL (As := [.int (xs (i + 1))]) (rest := [.int r_666]) ⟨xE, xB, xM, xO, xT⟩ (kX7_type l G r s P U p X y q0 q1 q2 q3 sp re B wd hg ow T (xs (i + 1)) (by exact hXr)) (cwV 1 xT gL_law_X7_type rfl rfl rfl (by decide +kernel) ⟨Nat.le_of_ble_eq_true rfl, Nat.le_of_ble_eq_true rfl⟩) xK xP xD xS [5] [0, 1, 2, 3, 4] 6 rfl (by decide) (Lc := [wU G r (s, P, U, p, X, y, q0, q1, q2, q3, sp, re, B, wd, hg, ow)]) rfl (by simp only [List.flatten_cons, List.flatten_nil, List.append_nil, List.append_assoc]) (fun u_675 => [[(x0, .inr (6, [.ref na.1, .ref tra.1, .ref h.1, .ref k.1]))], wS G na ((n, o, kf), (lr, lc, L), (lc, rc, R), (lr, rc, Z), (b, ta, tb, th, tw, tt, tn, sm0, mt, rw, dn)), wS G tra v, wHf G h (p, u0, u1, u2, u3), wX G k u_666, wU G r (s, P, U, p, u_675.1, u_675.2, q0, q1, q2, q3, sp, re, B, wd, hg, ow)]) (fun u_675 => [wU G r (s, P, U, p, u_675.1, u_675.2, q0, q1, q2, q3, sp, re, B, wd, hg, ow)]) (fun _ => rfl) (fun _ => rfl) (fun _ => by simp only [List.flatten_cons, List.flatten_nil, List.append_nil, List.append_assoc]) (fun _ => rfl) 0 rfl rfl rfl rfl xL.1 rfl (Nat.le_of_ble_eq_true rfl) dL_law_675 ⟨Nat.le_of_ble_eq_true rfl, Nat.le_of_ble_eq_true rfl⟩ (fun r_675 u_675 H locs h_675 xP xD xS => ?_)
  have h_675 : r_675 = tyA y (xs (i + 1)) ∧ RefX u_675.1 (tyT y (xs (i + 1)) T) (tyN y (xs (i + 1))) ∧ u_675.2 = tyN y (xs (i + 1)) := h_675
  refine lv_icmp_eq (tgt := 742) xE xB dL_law_678 (by decide) (fun c_678 => ?_) (fun c_678 => by exact absurd (h_666.1.trans h_675.1.symm) c_678)
  subst hAe
  exact hn9 (x0, na, tra, h, k) r ((n, o, kf), (lr, lc, L), (lc, rc, R), (lr, rc, Z), (b, ta, tb, th, tw, tt, tn, sm0, mt, rw, dn)) v (p, u0, u1, u2, u3) u_666 (s, P, U, p, u_675.1, u_675.2, q0, q1, q2, q3, sp, re, B, wd, hg, ow) (⟨pst, tyT y (xs (i + 1)) T, hR, hHD, hQ, by show RelX u_666 _ u_675.2; rw [h_675.2.2]; exact h_666.2, by show RefX u_675.1 _ u_675.2; rw [h_675.2.2]; exact h_675.2.1⟩) H locs xP xD xS ls (lv_sub xL [0, 1, 2, 3] rfl)
set_option maxHeartbeats 4000000 in
set_option maxRecDepth 100000 in
/-- case 19: clearText -/
theorem law_19 {p9 : Program} {l : Launch} {e9 : Env} {s9 : State} {m9 : MethodId} {b9 : List Frame} {t9 : Method} {c9 : Code} {bb LL : Nat} {xs : Nat → Int32} {G : wG} (hL : LL ≤ 2048) (C0 : lw_At p9 s9 m9 t9 c9 bb LL xs) (xK : KK G s9) (i : Nat) (hi : i + 4 ≤ LL) (hn9 : LAt p9 l e9 s9 m9 b9 t9 c9 bb G i 742) : LAt p9 l e9 s9 m9 b9 t9 c9 bb G i 683 := by
  obtain ⟨xE, xB, -, xM, xO0, hts, hX, hbl, -, -⟩ := C0
  have xO : s9.vm.findClass RL = some m9.cls := xO0
  have xT : ∀ w ∈ wsL_law, w.before #[Value.ref bb] s9 = true := fun w hw => hts w (wsL_law_in w hw)
  rintro ⟨x0, na, tra, h, k⟩ r ⟨⟨n, o, kf⟩, ⟨lr, lc, L⟩, ⟨rr, rc, R⟩, ⟨sr, sc, Z⟩, ⟨b, ta, tb, th, tw, tt, tn, sm0, mt, rw, dn⟩⟩ v ⟨hn, u0, u1, u2, u3⟩ ⟨xl, xf, xr, xo, xc, xw, xn, xg, xv, gg, ⟨xm, xk, ff⟩⟩ ⟨s, P, U, p, X, y, q0, q1, q2, q3, sp, re, B, wd, hg, ow⟩ ⟨pst, T, hR, hHD, hQ, hXc, hXr⟩ H locs xP xD xS ls xL
  have hR : RelS ((n, o, kf), (lr, lc, L), (rr, rc, R), (sr, sc, Z), (b, ta, tb, th, tw, tt, tn, sm0, mt, rw, dn)) s := hR
  obtain ⟨hd1, hd2, hd3⟩ := hR.2.2.2.1
  obtain ⟨hp9, hh, hH⟩ := id hHD
  obtain ⟨hy9, hy8, hgg⟩ := id hXc
  obtain rfl : lc = rr := Eq.symm hd1
  obtain rfl : lr = sr := Eq.symm hd2
  obtain rfl : rc = sc := Eq.symm hd3
  obtain rfl : p = hn := Eq.symm hp9
  obtain rfl : y = xl := Eq.symm hy9
  have hg9 : ∀ j, j < y → gg j = nI (T j) ∧ 32 ≤ T j ∧ T j ≤ 126 := hgg
  have hy8 : y ≤ 80 := hy8
  have hh : p ≤ 4 := hh
  have hH : HRel p u0 u1 u2 u3 pst := hH
  have hQ : PQ pst P p := hQ
  have hXr : RefX X T y := hXr
  obtain ⟨A, hAe⟩ : ∃ A : Nat → Prop, A = (fun q : Nat => s9.heap.size ≤ q) := ⟨_, rfl⟩
  have hbA : ¬ A bb := by rw [hAe]; exact Nat.not_le.mpr hbl
  rw [← hAe] at xD xS
  have xP : va_P G.1 vwCl (List.flatten [[(x0, .inr (6, [.ref na.1, .ref tra.1, .ref h.1, .ref k.1]))], wS G na ((n, o, kf), (lr, lc, L), (lc, rc, R), (lr, rc, Z), (b, ta, tb, th, tw, tt, tn, sm0, mt, rw, dn)), wS G tra v, wHf G h (p, u0, u1, u2, u3), wX G k (y, xf, xr, xo, xc, xw, xn, xg, xv, gg, (xm, xk, ff)), wU G r (s, P, U, p, X, y, q0, q1, q2, q3, sp, re, B, wd, hg, ow)]) H := xP
  have xD : va_D A (List.flatten [[(x0, .inr (6, [.ref na.1, .ref tra.1, .ref h.1, .ref k.1]))], wS G na ((n, o, kf), (lr, lc, L), (lc, rc, R), (lr, rc, Z), (b, ta, tb, th, tw, tt, tn, sm0, mt, rw, dn)), wS G tra v, wHf G h (p, u0, u1, u2, u3), wX G k (y, xf, xr, xo, xc, xw, xn, xg, xv, gg, (xm, xk, ff)), wU G r (s, P, U, p, X, y, q0, q1, q2, q3, sp, re, B, wd, hg, ow)]) := xD
  have xL : lv_has ls 4 [(0, .ref bb), (1, .ref x0), (2, .ref r.1), (3, .int (nI i))] := xL
  refine lv_aload_n xE xB dL_law_683 rfl (lv_at xL 1 rfl) ?_
  refine q_VIL (As := []) (rest := []) ⟨xE, xB, xM, xO, xT⟩ (kX6_clearText l G x0 na tra h k n o kf lr lc L lc rc R lr rc Z b ta tb th tw tt tn sm0 mt rw dn v p u0 u1 u2 u3 y xf xr xo xc xw xn xg xv gg xm xk ff T s pst (by exact hy8)) (cwV 0 xT gL_law_X6_clearText rfl rfl rfl (by decide +kernel) ⟨Nat.le_of_ble_eq_true rfl, Nat.le_of_ble_eq_true rfl⟩) xK xP xD xS [0, 1, 2, 3, 4] [5] 6 rfl (by decide) (Lc := [[(x0, .inr (6, [.ref na.1, .ref tra.1, .ref h.1, .ref k.1]))], wS G na ((n, o, kf), (lr, lc, L), (lc, rc, R), (lr, rc, Z), (b, ta, tb, th, tw, tt, tn, sm0, mt, rw, dn)), wS G tra v, wHf G h (p, u0, u1, u2, u3), wX G k (y, xf, xr, xo, xc, xw, xn, xg, xv, gg, (xm, xk, ff))]) rfl (by simp only [List.flatten_cons, List.flatten_nil, List.append_nil, List.append_assoc]) (fun u_684 => [[(x0, .inr (6, [.ref na.1, .ref tra.1, .ref h.1, .ref k.1]))], wS G na ((n, o, kf), (lr, lc, L), (lc, rc, R), (lr, rc, Z), (b, ta, tb, th, tw, tt, tn, sm0, mt, rw, dn)), wS G tra v, wHf G h (p, u0, u1, u2, u3), wX G k u_684, wU G r (s, P, U, p, X, y, q0, q1, q2, q3, sp, re, B, wd, hg, ow)]) (fun u_684 => [[(x0, .inr (6, [.ref na.1, .ref tra.1, .ref h.1, .ref k.1]))], wS G na ((n, o, kf), (lr, lc, L), (lc, rc, R), (lr, rc, Z), (b, ta, tb, th, tw, tt, tn, sm0, mt, rw, dn)), wS G tra v, wHf G h (p, u0, u1, u2, u3), wX G k u_684]) (fun _ => rfl) (fun _ => rfl) (fun _ => by simp only [List.flatten_cons, List.flatten_nil, List.append_nil, List.append_assoc]) (fun _ => rfl) 0 rfl rfl rfl rfl xL.1 rfl (Nat.le_of_ble_eq_true rfl) dL_law_684 ⟨Nat.le_of_ble_eq_true rfl, Nat.le_of_ble_eq_true rfl⟩ (fun r_684 u_684 H locs h_684 xP xD xS => ?_)
  have h_684 : r_684 = nI y ∧ RelX u_684 T 0 := h_684
  refine lv_aload_n xE xB dL_law_687 rfl (lv_at xL 2 rfl) ?_
  refine q_VIL (As := []) (rest := [.int r_684]) ⟨xE, xB, xM, xO, xT⟩ (kX7_clearText l G r s P U p X y q0 q1 q2 q3 sp re B wd hg ow) (cwV 0 xT gL_law_X7_clearText rfl rfl rfl (by decide +kernel) ⟨Nat.le_of_ble_eq_true rfl, Nat.le_of_ble_eq_true rfl⟩) xK xP xD xS [5] [0, 1, 2, 3, 4] 6 rfl (by decide) (Lc := [wU G r (s, P, U, p, X, y, q0, q1, q2, q3, sp, re, B, wd, hg, ow)]) rfl (by simp only [List.flatten_cons, List.flatten_nil, List.append_nil, List.append_assoc]) (fun u_688 => [[(x0, .inr (6, [.ref na.1, .ref tra.1, .ref h.1, .ref k.1]))], wS G na ((n, o, kf), (lr, lc, L), (lc, rc, R), (lr, rc, Z), (b, ta, tb, th, tw, tt, tn, sm0, mt, rw, dn)), wS G tra v, wHf G h (p, u0, u1, u2, u3), wX G k u_684, wU G r (s, P, U, p, u_688.1, u_688.2, q0, q1, q2, q3, sp, re, B, wd, hg, ow)]) (fun u_688 => [wU G r (s, P, U, p, u_688.1, u_688.2, q0, q1, q2, q3, sp, re, B, wd, hg, ow)]) (fun _ => rfl) (fun _ => rfl) (fun _ => by simp only [List.flatten_cons, List.flatten_nil, List.append_nil, List.append_assoc]) (fun _ => rfl) 0 rfl rfl rfl rfl xL.1 rfl (Nat.le_of_ble_eq_true rfl) dL_law_688 ⟨Nat.le_of_ble_eq_true rfl, Nat.le_of_ble_eq_true rfl⟩ (fun r_688 u_688 H locs h_688 xP xD xS => ?_)
  have h_688 : r_688 = nI y ∧ u_688.2 = 0 := h_688
  refine lv_icmp_eq (tgt := 742) xE xB dL_law_691 (by decide) (fun c_691 => ?_) (fun c_691 => by exact absurd (h_684.1.trans h_688.1.symm) c_691)
  subst hAe
  exact hn9 (x0, na, tra, h, k) r ((n, o, kf), (lr, lc, L), (lc, rc, R), (lr, rc, Z), (b, ta, tb, th, tw, tt, tn, sm0, mt, rw, dn)) v (p, u0, u1, u2, u3) u_684 (s, P, U, p, u_688.1, u_688.2, q0, q1, q2, q3, sp, re, B, wd, hg, ow) (⟨pst, T, hR, hHD, hQ, by show RelX u_684 _ u_688.2; rw [h_688.2]; exact h_684.2, by show RefX u_688.1 _ u_688.2; rw [h_688.2]; exact ⟨by decide, fun j hj => absurd hj (Nat.not_lt_zero _)⟩⟩) H locs xP xD xS ls (lv_sub xL [0, 1, 2, 3] rfl)
set_option maxHeartbeats 4000000 in
set_option maxRecDepth 100000 in
/-- case 20: textFault -/
theorem law_20 {p9 : Program} {l : Launch} {e9 : Env} {s9 : State} {m9 : MethodId} {b9 : List Frame} {t9 : Method} {c9 : Code} {bb LL : Nat} {xs : Nat → Int32} {G : wG} (hL : LL ≤ 2048) (C0 : lw_At p9 s9 m9 t9 c9 bb LL xs) (xK : KK G s9) (i : Nat) (hi : i + 4 ≤ LL) (hn9 : LAt p9 l e9 s9 m9 b9 t9 c9 bb G i 742) : LAt p9 l e9 s9 m9 b9 t9 c9 bb G i 696 := by
  obtain ⟨xE, xB, -, xM, xO0, hts, hX, hbl, -, -⟩ := C0
  have xO : s9.vm.findClass RL = some m9.cls := xO0
  have xT : ∀ w ∈ wsL_law, w.before #[Value.ref bb] s9 = true := fun w hw => hts w (wsL_law_in w hw)
  rintro ⟨x0, na, tra, h, k⟩ r ⟨⟨n, o, kf⟩, ⟨lr, lc, L⟩, ⟨rr, rc, R⟩, ⟨sr, sc, Z⟩, ⟨b, ta, tb, th, tw, tt, tn, sm0, mt, rw, dn⟩⟩ v ⟨hn, u0, u1, u2, u3⟩ ⟨xl, xf, xr, xo, xc, xw, xn, xg, xv, gg, ⟨xm, xk, ff⟩⟩ ⟨s, P, U, p, X, y, q0, q1, q2, q3, sp, re, B, wd, hg, ow⟩ ⟨pst, T, hR, hHD, hQ, hXc, hXr⟩ H locs xP xD xS ls xL
  have hR : RelS ((n, o, kf), (lr, lc, L), (rr, rc, R), (sr, sc, Z), (b, ta, tb, th, tw, tt, tn, sm0, mt, rw, dn)) s := hR
  obtain ⟨hd1, hd2, hd3⟩ := hR.2.2.2.1
  obtain ⟨hp9, hh, hH⟩ := id hHD
  obtain ⟨hy9, hy8, hgg⟩ := id hXc
  obtain rfl : lc = rr := Eq.symm hd1
  obtain rfl : lr = sr := Eq.symm hd2
  obtain rfl : rc = sc := Eq.symm hd3
  obtain rfl : p = hn := Eq.symm hp9
  obtain rfl : y = xl := Eq.symm hy9
  have hg9 : ∀ j, j < y → gg j = nI (T j) ∧ 32 ≤ T j ∧ T j ≤ 126 := hgg
  have hy8 : y ≤ 80 := hy8
  have hh : p ≤ 4 := hh
  have hH : HRel p u0 u1 u2 u3 pst := hH
  have hQ : PQ pst P p := hQ
  have hXr : RefX X T y := hXr
  obtain ⟨A, hAe⟩ : ∃ A : Nat → Prop, A = (fun q : Nat => s9.heap.size ≤ q) := ⟨_, rfl⟩
  have hbA : ¬ A bb := by rw [hAe]; exact Nat.not_le.mpr hbl
  rw [← hAe] at xD xS
  have xP : va_P G.1 vwCl (List.flatten [[(x0, .inr (6, [.ref na.1, .ref tra.1, .ref h.1, .ref k.1]))], wS G na ((n, o, kf), (lr, lc, L), (lc, rc, R), (lr, rc, Z), (b, ta, tb, th, tw, tt, tn, sm0, mt, rw, dn)), wS G tra v, wHf G h (p, u0, u1, u2, u3), wX G k (y, xf, xr, xo, xc, xw, xn, xg, xv, gg, (xm, xk, ff)), wU G r (s, P, U, p, X, y, q0, q1, q2, q3, sp, re, B, wd, hg, ow)]) H := xP
  have xD : va_D A (List.flatten [[(x0, .inr (6, [.ref na.1, .ref tra.1, .ref h.1, .ref k.1]))], wS G na ((n, o, kf), (lr, lc, L), (lc, rc, R), (lr, rc, Z), (b, ta, tb, th, tw, tt, tn, sm0, mt, rw, dn)), wS G tra v, wHf G h (p, u0, u1, u2, u3), wX G k (y, xf, xr, xo, xc, xw, xn, xg, xv, gg, (xm, xk, ff)), wU G r (s, P, U, p, X, y, q0, q1, q2, q3, sp, re, B, wd, hg, ow)]) := xD
  have xL : lv_has ls 4 [(0, .ref bb), (1, .ref x0), (2, .ref r.1), (3, .int (nI i))] := xL
  refine lv_aload_n xE xB dL_law_696 rfl (lv_at xL 1 rfl) ?_
  refine lv_aload_n xE xB dL_law_697 rfl (lv_at xL 0 rfl) ?_
  refine lv_iload_n xE xB dL_law_698 rfl (lv_at xL 3 rfl) ?_
  refine lv_iconst (v := nI 1) xE xB dL_law_699 (by decide) ?_
  refine q_iadd xE xB dL_law_700 ?_
  refine q_sld xE xB hX hbl hbA xS (by omega) (by omega) dL_law_701 ?_
  refine q_VIL (As := [.int (xs (i + 1))]) (rest := []) ⟨xE, xB, xM, xO, xT⟩ (kX6_textFault l G x0 na tra h k n o kf lr lc L lc rc R lr rc Z b ta tb th tw tt tn sm0 mt rw dn v p u0 u1 u2 u3 y xf xr xo xc xw xn xg xv gg xm xk ff T s pst (xs (i + 1)) (by exact hy8) (by exact hg9)) (cwV 1 xT gL_law_X6_textFault rfl rfl rfl (by decide +kernel) ⟨Nat.le_of_ble_eq_true rfl, Nat.le_of_ble_eq_true rfl⟩) xK xP xD xS [0, 1, 2, 3, 4] [5] 6 rfl (by decide) (Lc := [[(x0, .inr (6, [.ref na.1, .ref tra.1, .ref h.1, .ref k.1]))], wS G na ((n, o, kf), (lr, lc, L), (lc, rc, R), (lr, rc, Z), (b, ta, tb, th, tw, tt, tn, sm0, mt, rw, dn)), wS G tra v, wHf G h (p, u0, u1, u2, u3), wX G k (y, xf, xr, xo, xc, xw, xn, xg, xv, gg, (xm, xk, ff))]) rfl (by simp only [List.flatten_cons, List.flatten_nil, List.append_nil, List.append_assoc]) (fun u_702 => [[(x0, .inr (6, [.ref na.1, .ref tra.1, .ref h.1, .ref k.1]))], wS G na ((n, o, kf), (lr, lc, L), (lc, rc, R), (lr, rc, Z), (b, ta, tb, th, tw, tt, tn, sm0, mt, rw, dn)), wS G tra v, wHf G h (p, u0, u1, u2, u3), wX G k u_702, wU G r (s, P, U, p, X, y, q0, q1, q2, q3, sp, re, B, wd, hg, ow)]) (fun u_702 => [[(x0, .inr (6, [.ref na.1, .ref tra.1, .ref h.1, .ref k.1]))], wS G na ((n, o, kf), (lr, lc, L), (lc, rc, R), (lr, rc, Z), (b, ta, tb, th, tw, tt, tn, sm0, mt, rw, dn)), wS G tra v, wHf G h (p, u0, u1, u2, u3), wX G k u_702]) (fun _ => rfl) (fun _ => rfl) (fun _ => by simp only [List.flatten_cons, List.flatten_nil, List.append_nil, List.append_assoc]) (fun _ => rfl) 0 rfl rfl rfl rfl xL.1 rfl (Nat.le_of_ble_eq_true rfl) dL_law_702 ⟨Nat.le_of_ble_eq_true rfl, Nat.le_of_ble_eq_true rfl⟩ (fun r_702 u_702 H locs h_702 xP xD xS => ?_)
  have h_702 : r_702 = tfA y (xs (i + 1)) T ∧ RelX u_702 T y := h_702
  refine lv_aload_n xE xB dL_law_705 rfl (lv_at xL 2 rfl) ?_
  refine lv_aload_n xE xB dL_law_706 rfl (lv_at xL 0 rfl) ?_
  refine lv_iload_n xE xB dL_law_707 rfl (lv_at xL 3 rfl) ?_
  refine lv_iconst (v := nI 1) xE xB dL_law_708 (by decide) ?_
  refine q_iadd xE xB dL_law_709 ?_
  refine q_sld xE xB hX hbl hbA xS (by omega) (by omega) dL_law_710 ?_
  refine q_VIL (As := [.int (xs (i + 1))]) (rest := [.int r_702]) ⟨xE, xB, xM, xO, xT⟩ (kX7_textFault l G r s P U p X y q0 q1 q2 q3 sp re B wd hg ow T (xs (i + 1)) (by exact hXr)) (cwV 1 xT gL_law_X7_textFault rfl rfl rfl (by decide +kernel) ⟨Nat.le_of_ble_eq_true rfl, Nat.le_of_ble_eq_true rfl⟩) xK xP xD xS [5] [0, 1, 2, 3, 4] 6 rfl (by decide) (Lc := [wU G r (s, P, U, p, X, y, q0, q1, q2, q3, sp, re, B, wd, hg, ow)]) rfl (by simp only [List.flatten_cons, List.flatten_nil, List.append_nil, List.append_assoc]) (fun u_711 => [[(x0, .inr (6, [.ref na.1, .ref tra.1, .ref h.1, .ref k.1]))], wS G na ((n, o, kf), (lr, lc, L), (lc, rc, R), (lr, rc, Z), (b, ta, tb, th, tw, tt, tn, sm0, mt, rw, dn)), wS G tra v, wHf G h (p, u0, u1, u2, u3), wX G k u_702, wU G r (s, P, U, p, X, y, q0, q1, q2, q3, u_711.1, u_711.2.1, u_711.2.2.1, u_711.2.2.2.1, u_711.2.2.2.2.1, u_711.2.2.2.2.2)]) (fun u_711 => [wU G r (s, P, U, p, X, y, q0, q1, q2, q3, u_711.1, u_711.2.1, u_711.2.2.1, u_711.2.2.2.1, u_711.2.2.2.2.1, u_711.2.2.2.2.2)]) (fun _ => rfl) (fun _ => rfl) (fun _ => by simp only [List.flatten_cons, List.flatten_nil, List.append_nil, List.append_assoc]) (fun _ => rfl) 0 rfl rfl rfl rfl xL.1 rfl (Nat.le_of_ble_eq_true rfl) dL_law_711 ⟨Nat.le_of_ble_eq_true rfl, Nat.le_of_ble_eq_true rfl⟩ (fun r_711 u_711 H locs h_711 xP xD xS => ?_)
  have h_711 : r_711 = tfA y (xs (i + 1)) T := h_711
  refine lv_icmp_eq (tgt := 742) xE xB dL_law_714 (by decide) (fun c_714 => ?_) (fun c_714 => by exact absurd (h_702.1.trans h_711.symm) c_714)
  subst hAe
  exact hn9 (x0, na, tra, h, k) r ((n, o, kf), (lr, lc, L), (lc, rc, R), (lr, rc, Z), (b, ta, tb, th, tw, tt, tn, sm0, mt, rw, dn)) v (p, u0, u1, u2, u3) u_702 (s, P, U, p, X, y, q0, q1, q2, q3, u_711.1, u_711.2.1, u_711.2.2.1, u_711.2.2.2.1, u_711.2.2.2.2.1, u_711.2.2.2.2.2) (⟨pst, T, hR, hHD, hQ, h_702.2, hXr⟩) H locs xP xD xS ls (lv_sub xL [0, 1, 2, 3] rfl)
set_option maxHeartbeats 4000000 in
set_option maxRecDepth 100000 in
/-- case 21: read -/
theorem law_21 {p9 : Program} {l : Launch} {e9 : Env} {s9 : State} {m9 : MethodId} {b9 : List Frame} {t9 : Method} {c9 : Code} {bb LL : Nat} {xs : Nat → Int32} {G : wG} (hL : LL ≤ 2048) (C0 : lw_At p9 s9 m9 t9 c9 bb LL xs) (xK : KK G s9) (i : Nat) (hi : i + 4 ≤ LL) (hn9 : LAt p9 l e9 s9 m9 b9 t9 c9 bb G i 742) : LAt p9 l e9 s9 m9 b9 t9 c9 bb G i 719 := by
  obtain ⟨xE, xB, -, xM, xO0, hts, hX, hbl, -, -⟩ := C0
  have xO : s9.vm.findClass RL = some m9.cls := xO0
  have xT : ∀ w ∈ wsL_law, w.before #[Value.ref bb] s9 = true := fun w hw => hts w (wsL_law_in w hw)
  rintro ⟨x0, na, tra, h, k⟩ r ⟨⟨n, o, kf⟩, ⟨lr, lc, L⟩, ⟨rr, rc, R⟩, ⟨sr, sc, Z⟩, ⟨b, ta, tb, th, tw, tt, tn, sm0, mt, rw, dn⟩⟩ v ⟨hn, u0, u1, u2, u3⟩ ⟨xl, xf, xr, xo, xc, xw, xn, xg, xv, gg, ⟨xm, xk, ff⟩⟩ ⟨s, P, U, p, X, y, q0, q1, q2, q3, sp, re, B, wd, hg, ow⟩ ⟨pst, T, hR, hHD, hQ, hXc, hXr⟩ H locs xP xD xS ls xL
  have hR : RelS ((n, o, kf), (lr, lc, L), (rr, rc, R), (sr, sc, Z), (b, ta, tb, th, tw, tt, tn, sm0, mt, rw, dn)) s := hR
  obtain ⟨hd1, hd2, hd3⟩ := hR.2.2.2.1
  obtain ⟨hp9, hh, hH⟩ := id hHD
  obtain ⟨hy9, hy8, hgg⟩ := id hXc
  obtain rfl : lc = rr := Eq.symm hd1
  obtain rfl : lr = sr := Eq.symm hd2
  obtain rfl : rc = sc := Eq.symm hd3
  obtain rfl : p = hn := Eq.symm hp9
  obtain rfl : y = xl := Eq.symm hy9
  have hg9 : ∀ j, j < y → gg j = nI (T j) ∧ 32 ≤ T j ∧ T j ≤ 126 := hgg
  have hy8 : y ≤ 80 := hy8
  have hh : p ≤ 4 := hh
  have hH : HRel p u0 u1 u2 u3 pst := hH
  have hQ : PQ pst P p := hQ
  have hXr : RefX X T y := hXr
  obtain ⟨A, hAe⟩ : ∃ A : Nat → Prop, A = (fun q : Nat => s9.heap.size ≤ q) := ⟨_, rfl⟩
  have hbA : ¬ A bb := by rw [hAe]; exact Nat.not_le.mpr hbl
  rw [← hAe] at xD xS
  have xP : va_P G.1 vwCl (List.flatten [[(x0, .inr (6, [.ref na.1, .ref tra.1, .ref h.1, .ref k.1]))], wS G na ((n, o, kf), (lr, lc, L), (lc, rc, R), (lr, rc, Z), (b, ta, tb, th, tw, tt, tn, sm0, mt, rw, dn)), wS G tra v, wHf G h (p, u0, u1, u2, u3), wX G k (y, xf, xr, xo, xc, xw, xn, xg, xv, gg, (xm, xk, ff)), wU G r (s, P, U, p, X, y, q0, q1, q2, q3, sp, re, B, wd, hg, ow)]) H := xP
  have xD : va_D A (List.flatten [[(x0, .inr (6, [.ref na.1, .ref tra.1, .ref h.1, .ref k.1]))], wS G na ((n, o, kf), (lr, lc, L), (lc, rc, R), (lr, rc, Z), (b, ta, tb, th, tw, tt, tn, sm0, mt, rw, dn)), wS G tra v, wHf G h (p, u0, u1, u2, u3), wX G k (y, xf, xr, xo, xc, xw, xn, xg, xv, gg, (xm, xk, ff)), wU G r (s, P, U, p, X, y, q0, q1, q2, q3, sp, re, B, wd, hg, ow)]) := xD
  have xL : lv_has ls 4 [(0, .ref bb), (1, .ref x0), (2, .ref r.1), (3, .int (nI i))] := xL
  refine lv_aload_n xE xB dL_law_719 rfl (lv_at xL 1 rfl) ?_
  refine lv_aload_n xE xB dL_law_720 rfl (lv_at xL 0 rfl) ?_
  refine lv_iload_n xE xB dL_law_721 rfl (lv_at xL 3 rfl) ?_
  refine lv_iconst (v := nI 1) xE xB dL_law_722 (by decide) ?_
  refine q_iadd xE xB dL_law_723 ?_
  refine q_sld xE xB hX hbl hbA xS (by omega) (by omega) dL_law_724 ?_
  refine q_VIL (As := [.int (xs (i + 1))]) (rest := []) ⟨xE, xB, xM, xO, xT⟩ (kX6_read l G x0 na tra h k n o kf lr lc L lc rc R lr rc Z b ta tb th tw tt tn sm0 mt rw dn v p u0 u1 u2 u3 y xf xr xo xc xw xn xg xv gg xm xk ff T s pst (xs (i + 1)) (by exact hR) (by exact hh) (by exact hH) (by exact hy8) (by exact hg9)) (cwV 1 xT gL_law_X6_read rfl rfl rfl (by decide +kernel) ⟨Nat.le_of_ble_eq_true rfl, Nat.le_of_ble_eq_true rfl⟩) xK xP xD xS [0, 1, 2, 3, 4] [5] 6 rfl (by decide) (Lc := [[(x0, .inr (6, [.ref na.1, .ref tra.1, .ref h.1, .ref k.1]))], wS G na ((n, o, kf), (lr, lc, L), (lc, rc, R), (lr, rc, Z), (b, ta, tb, th, tw, tt, tn, sm0, mt, rw, dn)), wS G tra v, wHf G h (p, u0, u1, u2, u3), wX G k (y, xf, xr, xo, xc, xw, xn, xg, xv, gg, (xm, xk, ff))]) rfl (by simp only [List.flatten_cons, List.flatten_nil, List.append_nil, List.append_assoc]) (fun u_725 => [[(x0, .inr (6, [.ref na.1, .ref tra.1, .ref h.1, .ref k.1]))], wS G na u_725.1, wS G tra v, wHf G (h.1, h.2.1, u_725.2.1.1, u_725.2.1.2.1, u_725.2.1.2.2.1, u_725.2.1.2.2.2.1) u_725.2.1.2.2.2.2, wX G k u_725.2.2, wU G r (s, P, U, p, X, y, q0, q1, q2, q3, sp, re, B, wd, hg, ow)]) (fun u_725 => [[(x0, .inr (6, [.ref na.1, .ref tra.1, .ref h.1, .ref k.1]))], wS G na u_725.1, wS G tra v, wHf G (h.1, h.2.1, u_725.2.1.1, u_725.2.1.2.1, u_725.2.1.2.2.1, u_725.2.1.2.2.2.1) u_725.2.1.2.2.2.2, wX G k u_725.2.2]) (fun _ => rfl) (fun _ => rfl) (fun _ => by simp only [List.flatten_cons, List.flatten_nil, List.append_nil, List.append_assoc]) (fun _ => rfl) 0 rfl rfl rfl rfl xL.1 rfl (Nat.le_of_ble_eq_true rfl) dL_law_725 ⟨Nat.le_of_ble_eq_true rfl, Nat.le_of_ble_eq_true rfl⟩ (fun r_725 u_725 H locs h_725 xP xD xS => ?_)
  have h_725 : PO r_725 (u_725.1, u_725.2.1) (opRead b y (xs (i + 1)) T s pst p) ∧ RelX u_725.2.2 T y := h_725
  refine lv_aload_n xE xB dL_law_728 rfl (lv_at xL 2 rfl) ?_
  refine lv_aload_n xE xB dL_law_729 rfl (lv_at xL 0 rfl) ?_
  refine lv_iload_n xE xB dL_law_730 rfl (lv_at xL 3 rfl) ?_
  refine lv_iconst (v := nI 1) xE xB dL_law_731 (by decide) ?_
  refine q_iadd xE xB dL_law_732 ?_
  refine q_sld xE xB hX hbl hbA xS (by omega) (by omega) dL_law_733 ?_
  refine q_VIL (As := [.int (xs (i + 1))]) (rest := [.int r_725]) ⟨xE, xB, xM, xO, xT⟩ (kX7_read l G r s P U p X y q0 q1 q2 q3 sp re B wd hg ow n o lr lc rc T b pst (xs (i + 1)) (by exact hR.D) (by exact hXr) (by exact hR.2.2.2.2.2.1) (by exact hh) (by exact hQ)) (cwV 1 xT gL_law_X7_read rfl rfl rfl (by decide +kernel) ⟨Nat.le_of_ble_eq_true rfl, Nat.le_of_ble_eq_true rfl⟩) xK xP xD xS [5] [0, 1, 2, 3, 4] 6 rfl (by decide) (Lc := [wU G r (s, P, U, p, X, y, q0, q1, q2, q3, sp, re, B, wd, hg, ow)]) rfl (by simp only [List.flatten_cons, List.flatten_nil, List.append_nil, List.append_assoc]) (fun u_734 => [[(x0, .inr (6, [.ref na.1, .ref tra.1, .ref h.1, .ref k.1]))], wS G na u_725.1, wS G tra v, wHf G (h.1, h.2.1, u_725.2.1.1, u_725.2.1.2.1, u_725.2.1.2.2.1, u_725.2.1.2.2.2.1) u_725.2.1.2.2.2.2, wX G k u_725.2.2, wU G r (u_734.1, u_734.2.1, U, u_734.2.2.1, X, y, q0, q1, q2, q3, u_734.2.2.2.1, u_734.2.2.2.2.1, u_734.2.2.2.2.2.1, u_734.2.2.2.2.2.2.1, u_734.2.2.2.2.2.2.2.1, u_734.2.2.2.2.2.2.2.2)]) (fun u_734 => [wU G r (u_734.1, u_734.2.1, U, u_734.2.2.1, X, y, q0, q1, q2, q3, u_734.2.2.2.1, u_734.2.2.2.2.1, u_734.2.2.2.2.2.1, u_734.2.2.2.2.2.2.1, u_734.2.2.2.2.2.2.2.1, u_734.2.2.2.2.2.2.2.2)]) (fun _ => rfl) (fun _ => rfl) (fun _ => by simp only [List.flatten_cons, List.flatten_nil, List.append_nil, List.append_assoc]) (fun _ => rfl) 0 rfl rfl rfl rfl xL.1 rfl (Nat.le_of_ble_eq_true rfl) dL_law_734 ⟨Nat.le_of_ble_eq_true rfl, Nat.le_of_ble_eq_true rfl⟩ (fun r_734 u_734 H locs h_734 xP xD xS => ?_)
  have h_734 : QO r_734 (u_734.1, u_734.2.1, u_734.2.2.1) (opRead b y (xs (i + 1)) T s pst p) := h_734
  refine lv_icmp_eq (tgt := 742) xE xB dL_law_737 (by decide) (fun c_737 => ?_) (fun c_737 => by exact absurd (op_eq h_725.1 h_734) c_737)
  subst hAe
  exact hn9 (x0, na, tra, (h.1, h.2.1, u_725.2.1.1, u_725.2.1.2.1, u_725.2.1.2.2.1, u_725.2.1.2.2.2.1), k) r u_725.1 v u_725.2.1.2.2.2.2 u_725.2.2 (u_734.1, u_734.2.1, U, u_734.2.2.1, X, y, q0, q1, q2, q3, u_734.2.2.2.1, u_734.2.2.2.2.1, u_734.2.2.2.2.2.1, u_734.2.2.2.2.2.2.1, u_734.2.2.2.2.2.2.2.1, u_734.2.2.2.2.2.2.2.2) (INV_op h_725.1 h_734 rfl rfl rfl h_725.2 hXr) H locs xP xD xS ls (lv_sub xL [0, 1, 2, 3] rfl)
