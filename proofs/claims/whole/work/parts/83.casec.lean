set_option maxHeartbeats 4000000 in
set_option maxRecDepth 100000 in
/-- case 12: result -/
theorem law_12 {p9 : Program} {l : Launch} {e9 : Env} {s9 : State} {m9 : MethodId} {b9 : List Frame} {t9 : Method} {c9 : Code} {bb LL : Nat} {xs : Nat → Int32} {G : wG} (hL : LL ≤ 2048) (C0 : lw_At p9 s9 m9 t9 c9 bb LL xs) (xK : KK G s9) (i : Nat) (hi : i + 4 ≤ LL) (hn9 : LAt p9 l e9 s9 m9 b9 t9 c9 bb G i 742) : LAt p9 l e9 s9 m9 b9 t9 c9 bb G i 522 := by
  obtain ⟨xE, xB, -, xM, xO0, hts, hX, hbl, -, -⟩ := C0
  have xO : s9.vm.findClass RL = some m9.cls := xO0
  have xT : ∀ w ∈ wsL_law, w.before #[Value.ref bb] s9 = true := fun w hw => hts w (wsL_law_in w hw)
  rintro ⟨x0, na, tra, h, k⟩ r ⟨⟨n, o, kf⟩, ⟨lr, lc, L⟩, ⟨rr, rc, R⟩, ⟨sr, sc, Z⟩, ⟨b, ta, tb, th, tw, tt, tn, sm0, mt, rw, dn⟩⟩ v ⟨hn, u0, u1, u2, u3⟩ ⟨xl, xf, xr, xo, xc, xw, xn, xg, xv, gg, ⟨xm, xk, ff⟩⟩ ⟨s, P, U, p, X, y, q0, q1, q2, q3, sp, re, B, wd, hg, ow⟩ ⟨pst, T, hR, hHD, hQ, hXc, hXr⟩ H locs xP xD xS ls xL
  have hR : RelS ((n, o, kf), (lr, lc, L), (rr, rc, R), (sr, sc, Z), (b, ta, tb, th, tw, tt, tn, sm0, mt, rw, dn)) s := hR
  obtain ⟨hd1, hd2, hd3⟩ := hR.2.2.2.1
  obtain ⟨hp9, hh, hH⟩ := id hHD
  obtain ⟨hy9, hy8, hgg⟩ := id hXc
  obtain rfl : lc = rr := Eq.symm hd1
  obtain rfl : lr = sr := Eq.symm hd2
  obtain rfl : rc = sc := Eq.symm hd3
  obtain rfl : p = hn := Eq.symm hp9
  obtain rfl : y = xl := Eq.symm hy9
  have hg9 : ∀ j, j < y → gg j = nI (T j) ∧ 32 ≤ T j ∧ T j ≤ 126 := hgg
  have hy8 : y ≤ 80 := hy8
  have hh : p ≤ 4 := hh
  have hH : HRel p u0 u1 u2 u3 pst := hH
  have hQ : PQ pst P p := hQ
  have hXr : RefX X T y := hXr
  obtain ⟨A, hAe⟩ : ∃ A : Nat → Prop, A = (fun q : Nat => s9.heap.size ≤ q) := ⟨_, rfl⟩
  have hbA : ¬ A bb := by rw [hAe]; exact Nat.not_le.mpr hbl
  rw [← hAe] at xD xS
  have xP : va_P G.1 vwCl (List.flatten [[(x0, .inr (6, [.ref na.1, .ref tra.1, .ref h.1, .ref k.1]))], wS G na ((n, o, kf), (lr, lc, L), (lc, rc, R), (lr, rc, Z), (b, ta, tb, th, tw, tt, tn, sm0, mt, rw, dn)), wS G tra v, wHf G h (p, u0, u1, u2, u3), wX G k (y, xf, xr, xo, xc, xw, xn, xg, xv, gg, (xm, xk, ff)), wU G r (s, P, U, p, X, y, q0, q1, q2, q3, sp, re, B, wd, hg, ow)]) H := xP
  have xD : va_D A (List.flatten [[(x0, .inr (6, [.ref na.1, .ref tra.1, .ref h.1, .ref k.1]))], wS G na ((n, o, kf), (lr, lc, L), (lc, rc, R), (lr, rc, Z), (b, ta, tb, th, tw, tt, tn, sm0, mt, rw, dn)), wS G tra v, wHf G h (p, u0, u1, u2, u3), wX G k (y, xf, xr, xo, xc, xw, xn, xg, xv, gg, (xm, xk, ff)), wU G r (s, P, U, p, X, y, q0, q1, q2, q3, sp, re, B, wd, hg, ow)]) := xD
  have xL : lv_has ls 4 [(0, .ref bb), (1, .ref x0), (2, .ref r.1), (3, .int (nI i))] := xL
  refine lv_aload_n xE xB dL_law_522 rfl (lv_at xL 1 rfl) ?_
  refine lv_aload_n xE xB dL_law_523 rfl (lv_at xL 0 rfl) ?_
  refine lv_iload_n xE xB dL_law_524 rfl (lv_at xL 3 rfl) ?_
  refine lv_iconst (v := nI 1) xE xB dL_law_525 (by decide) ?_
  refine q_iadd xE xB dL_law_526 ?_
  refine q_sld xE xB hX hbl hbA xS (by omega) (by omega) dL_law_527 ?_
  refine lv_aload_n xE xB dL_law_528 rfl (lv_at xL 0 rfl) ?_
  refine lv_iload_n xE xB dL_law_529 rfl (lv_at xL 3 rfl) ?_
  refine lv_iconst (v := nI 2) xE xB dL_law_530 (by decide) ?_
  refine q_iadd xE xB dL_law_531 ?_
  refine q_sld xE xB hX hbl hbA xS (by omega) (by omega) dL_law_532 ?_
  refine lv_aload_n xE xB dL_law_533 rfl (lv_at xL 0 rfl) ?_
  refine lv_iload_n xE xB dL_law_534 rfl (lv_at xL 3 rfl) ?_
  refine lv_iconst (v := nI 3) xE xB dL_law_535 (by decide) ?_
  refine q_iadd xE xB dL_law_536 ?_
  refine q_sld xE xB hX hbl hbA xS (by omega) (by omega) dL_law_537 ?_
  refine q_VRL (As := [.int (xs (i + 1)), .int (xs (i + 2)), .int (xs (i + 3))]) (rest := []) ⟨xE, xB, xM, xO, xT⟩ (kX6_result l G x0 na tra h k n o kf lr lc L lc rc R lr rc Z b ta tb th tw tt tn sm0 mt rw dn v p u0 u1 u2 u3 (y, xf, xr, xo, xc, xw, xn, xg, xv, gg, (xm, xk, ff)) s pst (xs (i + 1)) (xs (i + 2)) (xs (i + 3)) (by exact hR) (by exact hh) (by exact hH)) (cwV 3 xT gL_law_X6_result rfl rfl rfl (by decide +kernel) ⟨Nat.le_of_ble_eq_true rfl, Nat.le_of_ble_eq_true rfl⟩) xK xP [0, 1, 2, 3, 4] [5] 6 rfl (by decide) (Lc := [[(x0, .inr (6, [.ref na.1, .ref tra.1, .ref h.1, .ref k.1]))], wS G na ((n, o, kf), (lr, lc, L), (lc, rc, R), (lr, rc, Z), (b, ta, tb, th, tw, tt, tn, sm0, mt, rw, dn)), wS G tra v, wHf G h (p, u0, u1, u2, u3), wX G k (y, xf, xr, xo, xc, xw, xn, xg, xv, gg, (xm, xk, ff))]) rfl (by simp only [List.flatten_cons, List.flatten_nil, List.append_nil, List.append_assoc]) 0 rfl rfl rfl rfl xL.1 rfl (Nat.le_of_ble_eq_true rfl) dL_law_538 ⟨Nat.le_of_ble_eq_true rfl, Nat.le_of_ble_eq_true rfl⟩ (fun r_538 h_538 => ?_)
  have h_538 : r_538 = reA lr lc rc (xs (i + 1)) (xs (i + 2)) (xs (i + 3)) s := h_538
  refine lv_aload_n xE xB dL_law_541 rfl (lv_at xL 2 rfl) ?_
  refine lv_aload_n xE xB dL_law_542 rfl (lv_at xL 0 rfl) ?_
  refine lv_iload_n xE xB dL_law_543 rfl (lv_at xL 3 rfl) ?_
  refine lv_iconst (v := nI 1) xE xB dL_law_544 (by decide) ?_
  refine q_iadd xE xB dL_law_545 ?_
  refine q_sld xE xB hX hbl hbA xS (by omega) (by omega) dL_law_546 ?_
  refine lv_aload_n xE xB dL_law_547 rfl (lv_at xL 0 rfl) ?_
  refine lv_iload_n xE xB dL_law_548 rfl (lv_at xL 3 rfl) ?_
  refine lv_iconst (v := nI 2) xE xB dL_law_549 (by decide) ?_
  refine q_iadd xE xB dL_law_550 ?_
  refine q_sld xE xB hX hbl hbA xS (by omega) (by omega) dL_law_551 ?_
  refine lv_aload_n xE xB dL_law_552 rfl (lv_at xL 0 rfl) ?_
  refine lv_iload_n xE xB dL_law_553 rfl (lv_at xL 3 rfl) ?_
  refine lv_iconst (v := nI 3) xE xB dL_law_554 (by decide) ?_
  refine q_iadd xE xB dL_law_555 ?_
  refine q_sld xE xB hX hbl hbA xS (by omega) (by omega) dL_law_556 ?_
  refine q_VRL (As := [.int (xs (i + 1)), .int (xs (i + 2)), .int (xs (i + 3))]) (rest := [.int r_538]) ⟨xE, xB, xM, xO, xT⟩ (kX7_result l G r s P U p X y q0 q1 q2 q3 sp re B wd hg ow n o lr lc rc (xs (i + 1)) (xs (i + 2)) (xs (i + 3)) (by exact hR.D)) (cwV 3 xT gL_law_X7_result rfl rfl rfl (by decide +kernel) ⟨Nat.le_of_ble_eq_true rfl, Nat.le_of_ble_eq_true rfl⟩) xK xP [5] [0, 1, 2, 3, 4] 6 rfl (by decide) (Lc := [wU G r (s, P, U, p, X, y, q0, q1, q2, q3, sp, re, B, wd, hg, ow)]) rfl (by simp only [List.flatten_cons, List.flatten_nil, List.append_nil, List.append_assoc]) 0 rfl rfl rfl rfl xL.1 rfl (Nat.le_of_ble_eq_true rfl) dL_law_557 ⟨Nat.le_of_ble_eq_true rfl, Nat.le_of_ble_eq_true rfl⟩ (fun r_557 h_557 => ?_)
  obtain rfl : r_557 = reA lr lc rc (xs (i + 1)) (xs (i + 2)) (xs (i + 3)) s := h_557
  refine lv_icmp_eq (tgt := 742) xE xB dL_law_560 (by decide) (fun c_560 => ?_) (fun c_560 => by exact absurd (h_538) c_560)
  subst hAe
  exact hn9 (x0, na, tra, h, k) r ((n, o, kf), (lr, lc, L), (lc, rc, R), (lr, rc, Z), (b, ta, tb, th, tw, tt, tn, sm0, mt, rw, dn)) v (p, u0, u1, u2, u3) (y, xf, xr, xo, xc, xw, xn, xg, xv, gg, (xm, xk, ff)) (s, P, U, p, X, y, q0, q1, q2, q3, sp, re, B, wd, hg, ow) (⟨pst, T, hR, hHD, hQ, hXc, hXr⟩) H locs xP xD xS ls (lv_sub xL [0, 1, 2, 3] rfl)
set_option maxHeartbeats 4000000 in
set_option maxRecDepth 100000 in
/-- case 13: count -/
theorem law_13 {p9 : Program} {l : Launch} {e9 : Env} {s9 : State} {m9 : MethodId} {b9 : List Frame} {t9 : Method} {c9 : Code} {bb LL : Nat} {xs : Nat → Int32} {G : wG} (hL : LL ≤ 2048) (C0 : lw_At p9 s9 m9 t9 c9 bb LL xs) (xK : KK G s9) (i : Nat) (hi : i + 4 ≤ LL) (hn9 : LAt p9 l e9 s9 m9 b9 t9 c9 bb G i 742) : LAt p9 l e9 s9 m9 b9 t9 c9 bb G i 565 := by
  obtain ⟨xE, xB, -, xM, xO0, hts, hX, hbl, -, -⟩ := C0
  have xO : s9.vm.findClass RL = some m9.cls := xO0
  have xT : ∀ w ∈ wsL_law, w.before #[Value.ref bb] s9 = true := fun w hw => hts w (wsL_law_in w hw)
  rintro ⟨x0, na, tra, h, k⟩ r ⟨⟨n, o, kf⟩, ⟨lr, lc, L⟩, ⟨rr, rc, R⟩, ⟨sr, sc, Z⟩, ⟨b, ta, tb, th, tw, tt, tn, sm0, mt, rw, dn⟩⟩ v ⟨hn, u0, u1, u2, u3⟩ ⟨xl, xf, xr, xo, xc, xw, xn, xg, xv, gg, ⟨xm, xk, ff⟩⟩ ⟨s, P, U, p, X, y, q0, q1, q2, q3, sp, re, B, wd, hg, ow⟩ ⟨pst, T, hR, hHD, hQ, hXc, hXr⟩ H locs xP xD xS ls xL
  have hR : RelS ((n, o, kf), (lr, lc, L), (rr, rc, R), (sr, sc, Z), (b, ta, tb, th, tw, tt, tn, sm0, mt, rw, dn)) s := hR
  obtain ⟨hd1, hd2, hd3⟩ := hR.2.2.2.1
  obtain ⟨hp9, hh, hH⟩ := id hHD
  obtain ⟨hy9, hy8, hgg⟩ := id hXc
  obtain rfl : lc = rr := Eq.symm hd1
  obtain rfl : lr = sr := Eq.symm hd2
  obtain rfl : rc = sc := Eq.symm hd3
  obtain rfl : p = hn := Eq.symm hp9
  obtain rfl : y = xl := Eq.symm hy9
  have hg9 : ∀ j, j < y → gg j = nI (T j) ∧ 32 ≤ T j ∧ T j ≤ 126 := hgg
  have hy8 : y ≤ 80 := hy8
  have hh : p ≤ 4 := hh
  have hH : HRel p u0 u1 u2 u3 pst := hH
  have hQ : PQ pst P p := hQ
  have hXr : RefX X T y := hXr
  obtain ⟨A, hAe⟩ : ∃ A : Nat → Prop, A = (fun q : Nat => s9.heap.size ≤ q) := ⟨_, rfl⟩
  have hbA : ¬ A bb := by rw [hAe]; exact Nat.not_le.mpr hbl
  rw [← hAe] at xD xS
  have xP : va_P G.1 vwCl (List.flatten [[(x0, .inr (6, [.ref na.1, .ref tra.1, .ref h.1, .ref k.1]))], wS G na ((n, o, kf), (lr, lc, L), (lc, rc, R), (lr, rc, Z), (b, ta, tb, th, tw, tt, tn, sm0, mt, rw, dn)), wS G tra v, wHf G h (p, u0, u1, u2, u3), wX G k (y, xf, xr, xo, xc, xw, xn, xg, xv, gg, (xm, xk, ff)), wU G r (s, P, U, p, X, y, q0, q1, q2, q3, sp, re, B, wd, hg, ow)]) H := xP
  have xD : va_D A (List.flatten [[(x0, .inr (6, [.ref na.1, .ref tra.1, .ref h.1, .ref k.1]))], wS G na ((n, o, kf), (lr, lc, L), (lc, rc, R), (lr, rc, Z), (b, ta, tb, th, tw, tt, tn, sm0, mt, rw, dn)), wS G tra v, wHf G h (p, u0, u1, u2, u3), wX G k (y, xf, xr, xo, xc, xw, xn, xg, xv, gg, (xm, xk, ff)), wU G r (s, P, U, p, X, y, q0, q1, q2, q3, sp, re, B, wd, hg, ow)]) := xD
  have xL : lv_has ls 4 [(0, .ref bb), (1, .ref x0), (2, .ref r.1), (3, .int (nI i))] := xL
  refine lv_aload_n xE xB dL_law_565 rfl (lv_at xL 1 rfl) ?_
  refine lv_aload_n xE xB dL_law_566 rfl (lv_at xL 0 rfl) ?_
  refine lv_iload_n xE xB dL_law_567 rfl (lv_at xL 3 rfl) ?_
  refine lv_iconst (v := nI 1) xE xB dL_law_568 (by decide) ?_
  refine q_iadd xE xB dL_law_569 ?_
  refine q_sld xE xB hX hbl hbA xS (by omega) (by omega) dL_law_570 ?_
  refine q_VRL (As := [.int (xs (i + 1))]) (rest := []) ⟨xE, xB, xM, xO, xT⟩ (kX6_count l G x0 na tra h k n o kf lr lc L lc rc R lr rc Z b ta tb th tw tt tn sm0 mt rw dn v p u0 u1 u2 u3 (y, xf, xr, xo, xc, xw, xn, xg, xv, gg, (xm, xk, ff)) s pst (xs (i + 1)) (by exact hR) (by exact hh) (by exact hH)) (cwV 1 xT gL_law_X6_count rfl rfl rfl (by decide +kernel) ⟨Nat.le_of_ble_eq_true rfl, Nat.le_of_ble_eq_true rfl⟩) xK xP [0, 1, 2, 3, 4] [5] 6 rfl (by decide) (Lc := [[(x0, .inr (6, [.ref na.1, .ref tra.1, .ref h.1, .ref k.1]))], wS G na ((n, o, kf), (lr, lc, L), (lc, rc, R), (lr, rc, Z), (b, ta, tb, th, tw, tt, tn, sm0, mt, rw, dn)), wS G tra v, wHf G h (p, u0, u1, u2, u3), wX G k (y, xf, xr, xo, xc, xw, xn, xg, xv, gg, (xm, xk, ff))]) rfl (by simp only [List.flatten_cons, List.flatten_nil, List.append_nil, List.append_assoc]) 0 rfl rfl rfl rfl xL.1 rfl (Nat.le_of_ble_eq_true rfl) dL_law_571 ⟨Nat.le_of_ble_eq_true rfl, Nat.le_of_ble_eq_true rfl⟩ (fun r_571 h_571 => ?_)
  have h_571 : r_571 = coA n o lr lc rc b ta tb tt p (y, xf, xr, xo, xc, xw, xn, xg, xv, gg, (xm, xk, ff)).1 (xs (i + 1)) s := h_571
  refine lv_aload_n xE xB dL_law_574 rfl (lv_at xL 2 rfl) ?_
  refine lv_aload_n xE xB dL_law_575 rfl (lv_at xL 0 rfl) ?_
  refine lv_iload_n xE xB dL_law_576 rfl (lv_at xL 3 rfl) ?_
  refine lv_iconst (v := nI 1) xE xB dL_law_577 (by decide) ?_
  refine q_iadd xE xB dL_law_578 ?_
  refine q_sld xE xB hX hbl hbA xS (by omega) (by omega) dL_law_579 ?_
  refine q_VRL (As := [.int (xs (i + 1))]) (rest := [.int r_571]) ⟨xE, xB, xM, xO, xT⟩ (kX7_count l G r s P U p X y q0 q1 q2 q3 sp re B wd hg ow n o lr lc rc ta tb tt b (xs (i + 1)) (by exact hR.D) (by exact hR.2.2.2.2.2.1) (by exact hR.T) (by exact K01_Z hR.2.2.2.2.1) (by exact F04_Q hR.2.1)) (cwV 1 xT gL_law_X7_count rfl rfl rfl (by decide +kernel) ⟨Nat.le_of_ble_eq_true rfl, Nat.le_of_ble_eq_true rfl⟩) xK xP [5] [0, 1, 2, 3, 4] 6 rfl (by decide) (Lc := [wU G r (s, P, U, p, X, y, q0, q1, q2, q3, sp, re, B, wd, hg, ow)]) rfl (by simp only [List.flatten_cons, List.flatten_nil, List.append_nil, List.append_assoc]) 0 rfl rfl rfl rfl xL.1 rfl (Nat.le_of_ble_eq_true rfl) dL_law_580 ⟨Nat.le_of_ble_eq_true rfl, Nat.le_of_ble_eq_true rfl⟩ (fun r_580 h_580 => ?_)
  obtain rfl : r_580 = coA n o lr lc rc b ta tb tt p y (xs (i + 1)) s := h_580
  refine lv_icmp_eq (tgt := 742) xE xB dL_law_583 (by decide) (fun c_583 => ?_) (fun c_583 => by exact absurd (h_571) c_583)
  subst hAe
  exact hn9 (x0, na, tra, h, k) r ((n, o, kf), (lr, lc, L), (lc, rc, R), (lr, rc, Z), (b, ta, tb, th, tw, tt, tn, sm0, mt, rw, dn)) v (p, u0, u1, u2, u3) (y, xf, xr, xo, xc, xw, xn, xg, xv, gg, (xm, xk, ff)) (s, P, U, p, X, y, q0, q1, q2, q3, sp, re, B, wd, hg, ow) (⟨pst, T, hR, hHD, hQ, hXc, hXr⟩) H locs xP xD xS ls (lv_sub xL [0, 1, 2, 3] rfl)
set_option maxHeartbeats 4000000 in
set_option maxRecDepth 100000 in
/-- case 14: suspects -/
theorem law_14 {p9 : Program} {l : Launch} {e9 : Env} {s9 : State} {m9 : MethodId} {b9 : List Frame} {t9 : Method} {c9 : Code} {bb LL : Nat} {xs : Nat → Int32} {G : wG} (hL : LL ≤ 2048) (C0 : lw_At p9 s9 m9 t9 c9 bb LL xs) (xK : KK G s9) (i : Nat) (hi : i + 4 ≤ LL) (hn9 : LAt p9 l e9 s9 m9 b9 t9 c9 bb G i 742) : LAt p9 l e9 s9 m9 b9 t9 c9 bb G i 588 := by
  obtain ⟨xE, xB, -, xM, xO0, hts, hX, hbl, -, -⟩ := C0
  have xO : s9.vm.findClass RL = some m9.cls := xO0
  have xT : ∀ w ∈ wsL_law, w.before #[Value.ref bb] s9 = true := fun w hw => hts w (wsL_law_in w hw)
  rintro ⟨x0, na, tra, h, k⟩ r ⟨⟨n, o, kf⟩, ⟨lr, lc, L⟩, ⟨rr, rc, R⟩, ⟨sr, sc, Z⟩, ⟨b, ta, tb, th, tw, tt, tn, sm0, mt, rw, dn⟩⟩ v ⟨hn, u0, u1, u2, u3⟩ ⟨xl, xf, xr, xo, xc, xw, xn, xg, xv, gg, ⟨xm, xk, ff⟩⟩ ⟨s, P, U, p, X, y, q0, q1, q2, q3, sp, re, B, wd, hg, ow⟩ ⟨pst, T, hR, hHD, hQ, hXc, hXr⟩ H locs xP xD xS ls xL
  have hR : RelS ((n, o, kf), (lr, lc, L), (rr, rc, R), (sr, sc, Z), (b, ta, tb, th, tw, tt, tn, sm0, mt, rw, dn)) s := hR
  obtain ⟨hd1, hd2, hd3⟩ := hR.2.2.2.1
  obtain ⟨hp9, hh, hH⟩ := id hHD
  obtain ⟨hy9, hy8, hgg⟩ := id hXc
  obtain rfl : lc = rr := Eq.symm hd1
  obtain rfl : lr = sr := Eq.symm hd2
  obtain rfl : rc = sc := Eq.symm hd3
  obtain rfl : p = hn := Eq.symm hp9
  obtain rfl : y = xl := Eq.symm hy9
  have hg9 : ∀ j, j < y → gg j = nI (T j) ∧ 32 ≤ T j ∧ T j ≤ 126 := hgg
  have hy8 : y ≤ 80 := hy8
  have hh : p ≤ 4 := hh
  have hH : HRel p u0 u1 u2 u3 pst := hH
  have hQ : PQ pst P p := hQ
  have hXr : RefX X T y := hXr
  obtain ⟨A, hAe⟩ : ∃ A : Nat → Prop, A = (fun q : Nat => s9.heap.size ≤ q) := ⟨_, rfl⟩
  have hbA : ¬ A bb := by rw [hAe]; exact Nat.not_le.mpr hbl
  rw [← hAe] at xD xS
  have xP : va_P G.1 vwCl (List.flatten [[(x0, .inr (6, [.ref na.1, .ref tra.1, .ref h.1, .ref k.1]))], wS G na ((n, o, kf), (lr, lc, L), (lc, rc, R), (lr, rc, Z), (b, ta, tb, th, tw, tt, tn, sm0, mt, rw, dn)), wS G tra v, wHf G h (p, u0, u1, u2, u3), wX G k (y, xf, xr, xo, xc, xw, xn, xg, xv, gg, (xm, xk, ff)), wU G r (s, P, U, p, X, y, q0, q1, q2, q3, sp, re, B, wd, hg, ow)]) H := xP
  have xD : va_D A (List.flatten [[(x0, .inr (6, [.ref na.1, .ref tra.1, .ref h.1, .ref k.1]))], wS G na ((n, o, kf), (lr, lc, L), (lc, rc, R), (lr, rc, Z), (b, ta, tb, th, tw, tt, tn, sm0, mt, rw, dn)), wS G tra v, wHf G h (p, u0, u1, u2, u3), wX G k (y, xf, xr, xo, xc, xw, xn, xg, xv, gg, (xm, xk, ff)), wU G r (s, P, U, p, X, y, q0, q1, q2, q3, sp, re, B, wd, hg, ow)]) := xD
  have xL : lv_has ls 4 [(0, .ref bb), (1, .ref x0), (2, .ref r.1), (3, .int (nI i))] := xL
  refine lv_aload_n xE xB dL_law_588 rfl (lv_at xL 1 rfl) ?_
  refine lv_aload_n xE xB dL_law_589 rfl (lv_at xL 0 rfl) ?_
  refine lv_iload_n xE xB dL_law_590 rfl (lv_at xL 3 rfl) ?_
  refine lv_iconst (v := nI 1) xE xB dL_law_591 (by decide) ?_
  refine q_iadd xE xB dL_law_592 ?_
  refine q_sld xE xB hX hbl hbA xS (by omega) (by omega) dL_law_593 ?_
  refine q_VRL (As := [.int (xs (i + 1))]) (rest := []) ⟨xE, xB, xM, xO, xT⟩ (kX6_suspects l G x0 na tra h k n o kf lr lc L lc rc R lr rc Z b ta tb th tw tt tn sm0 mt rw dn v p u0 u1 u2 u3 (y, xf, xr, xo, xc, xw, xn, xg, xv, gg, (xm, xk, ff)) s pst (xs (i + 1)) (by exact hR) (by exact hh) (by exact hH)) (cwV 1 xT gL_law_X6_suspects rfl rfl rfl (by decide +kernel) ⟨Nat.le_of_ble_eq_true rfl, Nat.le_of_ble_eq_true rfl⟩) xK xP [0, 1, 2, 3, 4] [5] 6 rfl (by decide) (Lc := [[(x0, .inr (6, [.ref na.1, .ref tra.1, .ref h.1, .ref k.1]))], wS G na ((n, o, kf), (lr, lc, L), (lc, rc, R), (lr, rc, Z), (b, ta, tb, th, tw, tt, tn, sm0, mt, rw, dn)), wS G tra v, wHf G h (p, u0, u1, u2, u3), wX G k (y, xf, xr, xo, xc, xw, xn, xg, xv, gg, (xm, xk, ff))]) rfl (by simp only [List.flatten_cons, List.flatten_nil, List.append_nil, List.append_assoc]) 0 rfl rfl rfl rfl xL.1 rfl (Nat.le_of_ble_eq_true rfl) dL_law_594 ⟨Nat.le_of_ble_eq_true rfl, Nat.le_of_ble_eq_true rfl⟩ (fun r_594 h_594 => ?_)
  have h_594 : r_594 = suA lr lc rc (xs (i + 1)) s := h_594
  refine lv_aload_n xE xB dL_law_597 rfl (lv_at xL 2 rfl) ?_
  refine lv_aload_n xE xB dL_law_598 rfl (lv_at xL 0 rfl) ?_
  refine lv_iload_n xE xB dL_law_599 rfl (lv_at xL 3 rfl) ?_
  refine lv_iconst (v := nI 1) xE xB dL_law_600 (by decide) ?_
  refine q_iadd xE xB dL_law_601 ?_
  refine q_sld xE xB hX hbl hbA xS (by omega) (by omega) dL_law_602 ?_
  refine q_VRL (As := [.int (xs (i + 1))]) (rest := [.int r_594]) ⟨xE, xB, xM, xO, xT⟩ (kX7_suspects l G r s P U p X y q0 q1 q2 q3 sp re B wd hg ow n o lr lc rc (xs (i + 1)) (by exact hR.D)) (cwV 1 xT gL_law_X7_suspects rfl rfl rfl (by decide +kernel) ⟨Nat.le_of_ble_eq_true rfl, Nat.le_of_ble_eq_true rfl⟩) xK xP [5] [0, 1, 2, 3, 4] 6 rfl (by decide) (Lc := [wU G r (s, P, U, p, X, y, q0, q1, q2, q3, sp, re, B, wd, hg, ow)]) rfl (by simp only [List.flatten_cons, List.flatten_nil, List.append_nil, List.append_assoc]) 0 rfl rfl rfl rfl xL.1 rfl (Nat.le_of_ble_eq_true rfl) dL_law_603 ⟨Nat.le_of_ble_eq_true rfl, Nat.le_of_ble_eq_true rfl⟩ (fun r_603 h_603 => ?_)
  obtain rfl : r_603 = suA lr lc rc (xs (i + 1)) s := h_603
  refine lv_icmp_eq (tgt := 742) xE xB dL_law_606 (by decide) (fun c_606 => ?_) (fun c_606 => by exact absurd (h_594) c_606)
  subst hAe
  exact hn9 (x0, na, tra, h, k) r ((n, o, kf), (lr, lc, L), (lc, rc, R), (lr, rc, Z), (b, ta, tb, th, tw, tt, tn, sm0, mt, rw, dn)) v (p, u0, u1, u2, u3) (y, xf, xr, xo, xc, xw, xn, xg, xv, gg, (xm, xk, ff)) (s, P, U, p, X, y, q0, q1, q2, q3, sp, re, B, wd, hg, ow) (⟨pst, T, hR, hHD, hQ, hXc, hXr⟩) H locs xP xD xS ls (lv_sub xL [0, 1, 2, 3] rfl)
set_option maxHeartbeats 4000000 in
set_option maxRecDepth 100000 in
/-- case 15: wouldBeWrong -/
theorem law_15 {p9 : Program} {l : Launch} {e9 : Env} {s9 : State} {m9 : MethodId} {b9 : List Frame} {t9 : Method} {c9 : Code} {bb LL : Nat} {xs : Nat → Int32} {G : wG} (hL : LL ≤ 2048) (C0 : lw_At p9 s9 m9 t9 c9 bb LL xs) (xK : KK G s9) (i : Nat) (hi : i + 4 ≤ LL) (hn9 : LAt p9 l e9 s9 m9 b9 t9 c9 bb G i 742) : LAt p9 l e9 s9 m9 b9 t9 c9 bb G i 611 := by
  obtain ⟨xE, xB, -, xM, xO0, hts, hX, hbl, -, -⟩ := C0
  have xO : s9.vm.findClass RL = some m9.cls := xO0
  have xT : ∀ w ∈ wsL_law, w.before #[Value.ref bb] s9 = true := fun w hw => hts w (wsL_law_in w hw)
  rintro ⟨x0, na, tra, h, k⟩ r ⟨⟨n, o, kf⟩, ⟨lr, lc, L⟩, ⟨rr, rc, R⟩, ⟨sr, sc, Z⟩, ⟨b, ta, tb, th, tw, tt, tn, sm0, mt, rw, dn⟩⟩ v ⟨hn, u0, u1, u2, u3⟩ ⟨xl, xf, xr, xo, xc, xw, xn, xg, xv, gg, ⟨xm, xk, ff⟩⟩ ⟨s, P, U, p, X, y, q0, q1, q2, q3, sp, re, B, wd, hg, ow⟩ ⟨pst, T, hR, hHD, hQ, hXc, hXr⟩ H locs xP xD xS ls xL
  have hR : RelS ((n, o, kf), (lr, lc, L), (rr, rc, R), (sr, sc, Z), (b, ta, tb, th, tw, tt, tn, sm0, mt, rw, dn)) s := hR
  obtain ⟨hd1, hd2, hd3⟩ := hR.2.2.2.1
  obtain ⟨hp9, hh, hH⟩ := id hHD
  obtain ⟨hy9, hy8, hgg⟩ := id hXc
  obtain rfl : lc = rr := Eq.symm hd1
  obtain rfl : lr = sr := Eq.symm hd2
  obtain rfl : rc = sc := Eq.symm hd3
  obtain rfl : p = hn := Eq.symm hp9
  obtain rfl : y = xl := Eq.symm hy9
  have hg9 : ∀ j, j < y → gg j = nI (T j) ∧ 32 ≤ T j ∧ T j ≤ 126 := hgg
  have hy8 : y ≤ 80 := hy8
  have hh : p ≤ 4 := hh
  have hH : HRel p u0 u1 u2 u3 pst := hH
  have hQ : PQ pst P p := hQ
  have hXr : RefX X T y := hXr
  obtain ⟨A, hAe⟩ : ∃ A : Nat → Prop, A = (fun q : Nat => s9.heap.size ≤ q) := ⟨_, rfl⟩
  have hbA : ¬ A bb := by rw [hAe]; exact Nat.not_le.mpr hbl
  rw [← hAe] at xD xS
  have xP : va_P G.1 vwCl (List.flatten [[(x0, .inr (6, [.ref na.1, .ref tra.1, .ref h.1, .ref k.1]))], wS G na ((n, o, kf), (lr, lc, L), (lc, rc, R), (lr, rc, Z), (b, ta, tb, th, tw, tt, tn, sm0, mt, rw, dn)), wS G tra v, wHf G h (p, u0, u1, u2, u3), wX G k (y, xf, xr, xo, xc, xw, xn, xg, xv, gg, (xm, xk, ff)), wU G r (s, P, U, p, X, y, q0, q1, q2, q3, sp, re, B, wd, hg, ow)]) H := xP
  have xD : va_D A (List.flatten [[(x0, .inr (6, [.ref na.1, .ref tra.1, .ref h.1, .ref k.1]))], wS G na ((n, o, kf), (lr, lc, L), (lc, rc, R), (lr, rc, Z), (b, ta, tb, th, tw, tt, tn, sm0, mt, rw, dn)), wS G tra v, wHf G h (p, u0, u1, u2, u3), wX G k (y, xf, xr, xo, xc, xw, xn, xg, xv, gg, (xm, xk, ff)), wU G r (s, P, U, p, X, y, q0, q1, q2, q3, sp, re, B, wd, hg, ow)]) := xD
  have xL : lv_has ls 4 [(0, .ref bb), (1, .ref x0), (2, .ref r.1), (3, .int (nI i))] := xL
  refine lv_aload_n xE xB dL_law_611 rfl (lv_at xL 1 rfl) ?_
  refine lv_aload_n xE xB dL_law_612 rfl (lv_at xL 0 rfl) ?_
  refine lv_iload_n xE xB dL_law_613 rfl (lv_at xL 3 rfl) ?_
  refine lv_iconst (v := nI 1) xE xB dL_law_614 (by decide) ?_
  refine q_iadd xE xB dL_law_615 ?_
  refine q_sld xE xB hX hbl hbA xS (by omega) (by omega) dL_law_616 ?_
  refine q_VIL (As := [.int (xs (i + 1))]) (rest := []) ⟨xE, xB, xM, xO, xT⟩ (kX6_wouldBeWrong l G x0 na tra h k n o kf lr lc L lc rc R lr rc Z b ta tb th tw tt tn sm0 mt rw dn v p u0 u1 u2 u3 (y, xf, xr, xo, xc, xw, xn, xg, xv, gg, (xm, xk, ff)) s pst (xs (i + 1)) (by exact hR)) (cwV 1 xT gL_law_X6_wouldBeWrong rfl rfl rfl (by decide +kernel) ⟨Nat.le_of_ble_eq_true rfl, Nat.le_of_ble_eq_true rfl⟩) xK xP xD xS [0, 1, 2, 3, 4] [5] 6 rfl (by decide) (Lc := [[(x0, .inr (6, [.ref na.1, .ref tra.1, .ref h.1, .ref k.1]))], wS G na ((n, o, kf), (lr, lc, L), (lc, rc, R), (lr, rc, Z), (b, ta, tb, th, tw, tt, tn, sm0, mt, rw, dn)), wS G tra v, wHf G h (p, u0, u1, u2, u3), wX G k (y, xf, xr, xo, xc, xw, xn, xg, xv, gg, (xm, xk, ff))]) rfl (by simp only [List.flatten_cons, List.flatten_nil, List.append_nil, List.append_assoc]) (fun u_617 => [[(x0, .inr (6, [.ref na.1, .ref tra.1, .ref h.1, .ref k.1]))], wS G na ((n, o, kf), (lr, lc, L), (lc, rc, R), (lr, rc, Z), (b, ta, tb, th, tw, tt, tn, sm0, mt, rw, dn)), wS G tra u_617, wHf G h (p, u0, u1, u2, u3), wX G k (y, xf, xr, xo, xc, xw, xn, xg, xv, gg, (xm, xk, ff)), wU G r (s, P, U, p, X, y, q0, q1, q2, q3, sp, re, B, wd, hg, ow)]) (fun u_617 => [[(x0, .inr (6, [.ref na.1, .ref tra.1, .ref h.1, .ref k.1]))], wS G na ((n, o, kf), (lr, lc, L), (lc, rc, R), (lr, rc, Z), (b, ta, tb, th, tw, tt, tn, sm0, mt, rw, dn)), wS G tra u_617, wHf G h (p, u0, u1, u2, u3), wX G k (y, xf, xr, xo, xc, xw, xn, xg, xv, gg, (xm, xk, ff))]) (fun _ => rfl) (fun _ => rfl) (fun _ => by simp only [List.flatten_cons, List.flatten_nil, List.append_nil, List.append_assoc]) (fun _ => rfl) 0 rfl rfl rfl rfl xL.1 rfl (Nat.le_of_ble_eq_true rfl) dL_law_617 ⟨Nat.le_of_ble_eq_true rfl, Nat.le_of_ble_eq_true rfl⟩ (fun r_617 u_617 H locs h_617 xP xD xS => ?_)
  have h_617 : r_617 = wbA lc n lr rc (xs (i + 1)) s := h_617
  refine lv_aload_n xE xB dL_law_620 rfl (lv_at xL 2 rfl) ?_
  refine lv_aload_n xE xB dL_law_621 rfl (lv_at xL 0 rfl) ?_
  refine lv_iload_n xE xB dL_law_622 rfl (lv_at xL 3 rfl) ?_
  refine lv_iconst (v := nI 1) xE xB dL_law_623 (by decide) ?_
  refine q_iadd xE xB dL_law_624 ?_
  refine q_sld xE xB hX hbl hbA xS (by omega) (by omega) dL_law_625 ?_
  refine q_VIL (As := [.int (xs (i + 1))]) (rest := [.int r_617]) ⟨xE, xB, xM, xO, xT⟩ (kX7_wouldBeWrong l G r s P U p X y q0 q1 q2 q3 sp re B wd hg ow n o lr lc rc (xs (i + 1)) (by exact hR.D) (by exact hh)) (cwV 1 xT gL_law_X7_wouldBeWrong rfl rfl rfl (by decide +kernel) ⟨Nat.le_of_ble_eq_true rfl, Nat.le_of_ble_eq_true rfl⟩) xK xP xD xS [5] [0, 1, 2, 3, 4] 6 rfl (by decide) (Lc := [wU G r (s, P, U, p, X, y, q0, q1, q2, q3, sp, re, B, wd, hg, ow)]) rfl (by simp only [List.flatten_cons, List.flatten_nil, List.append_nil, List.append_assoc]) (fun u_626 => [[(x0, .inr (6, [.ref na.1, .ref tra.1, .ref h.1, .ref k.1]))], wS G na ((n, o, kf), (lr, lc, L), (lc, rc, R), (lr, rc, Z), (b, ta, tb, th, tw, tt, tn, sm0, mt, rw, dn)), wS G tra u_617, wHf G h (p, u0, u1, u2, u3), wX G k (y, xf, xr, xo, xc, xw, xn, xg, xv, gg, (xm, xk, ff)), wU G r (s, P, u_626.1, p, X, y, u_626.2.1, u_626.2.2.1, u_626.2.2.2.1, u_626.2.2.2.2, sp, re, B, wd, hg, ow)]) (fun u_626 => [wU G r (s, P, u_626.1, p, X, y, u_626.2.1, u_626.2.2.1, u_626.2.2.2.1, u_626.2.2.2.2, sp, re, B, wd, hg, ow)]) (fun _ => rfl) (fun _ => rfl) (fun _ => by simp only [List.flatten_cons, List.flatten_nil, List.append_nil, List.append_assoc]) (fun _ => rfl) 0 rfl rfl rfl rfl xL.1 rfl (Nat.le_of_ble_eq_true rfl) dL_law_626 ⟨Nat.le_of_ble_eq_true rfl, Nat.le_of_ble_eq_true rfl⟩ (fun r_626 u_626 H locs h_626 xP xD xS => ?_)
  have h_626 : r_626 = wbA lc n lr rc (xs (i + 1)) s := h_626
  refine lv_icmp_eq (tgt := 742) xE xB dL_law_629 (by decide) (fun c_629 => ?_) (fun c_629 => by exact absurd (h_617.trans h_626.symm) c_629)
  subst hAe
  exact hn9 (x0, na, tra, h, k) r ((n, o, kf), (lr, lc, L), (lc, rc, R), (lr, rc, Z), (b, ta, tb, th, tw, tt, tn, sm0, mt, rw, dn)) u_617 (p, u0, u1, u2, u3) (y, xf, xr, xo, xc, xw, xn, xg, xv, gg, (xm, xk, ff)) (s, P, u_626.1, p, X, y, u_626.2.1, u_626.2.2.1, u_626.2.2.2.1, u_626.2.2.2.2, sp, re, B, wd, hg, ow) (⟨pst, T, hR, hHD, hQ, hXc, hXr⟩) H locs xP xD xS ls (lv_sub xL [0, 1, 2, 3] rfl)
set_option maxHeartbeats 4000000 in
set_option maxRecDepth 100000 in
/-- case 16: best -/
theorem law_16 {p9 : Program} {l : Launch} {e9 : Env} {s9 : State} {m9 : MethodId} {b9 : List Frame} {t9 : Method} {c9 : Code} {bb LL : Nat} {xs : Nat → Int32} {G : wG} (hL : LL ≤ 2048) (C0 : lw_At p9 s9 m9 t9 c9 bb LL xs) (xK : KK G s9) (i : Nat) (hi : i + 4 ≤ LL) (hn9 : LAt p9 l e9 s9 m9 b9 t9 c9 bb G i 742) : LAt p9 l e9 s9 m9 b9 t9 c9 bb G i 634 := by
  obtain ⟨xE, xB, -, xM, xO0, hts, hX, hbl, -, -⟩ := C0
  have xO : s9.vm.findClass RL = some m9.cls := xO0
  have xT : ∀ w ∈ wsL_law, w.before #[Value.ref bb] s9 = true := fun w hw => hts w (wsL_law_in w hw)
  rintro ⟨x0, na, tra, h, k⟩ r ⟨⟨n, o, kf⟩, ⟨lr, lc, L⟩, ⟨rr, rc, R⟩, ⟨sr, sc, Z⟩, ⟨b, ta, tb, th, tw, tt, tn, sm0, mt, rw, dn⟩⟩ v ⟨hn, u0, u1, u2, u3⟩ ⟨xl, xf, xr, xo, xc, xw, xn, xg, xv, gg, ⟨xm, xk, ff⟩⟩ ⟨s, P, U, p, X, y, q0, q1, q2, q3, sp, re, B, wd, hg, ow⟩ ⟨pst, T, hR, hHD, hQ, hXc, hXr⟩ H locs xP xD xS ls xL
  have hR : RelS ((n, o, kf), (lr, lc, L), (rr, rc, R), (sr, sc, Z), (b, ta, tb, th, tw, tt, tn, sm0, mt, rw, dn)) s := hR
  obtain ⟨hd1, hd2, hd3⟩ := hR.2.2.2.1
  obtain ⟨hp9, hh, hH⟩ := id hHD
  obtain ⟨hy9, hy8, hgg⟩ := id hXc
  obtain rfl : lc = rr := Eq.symm hd1
  obtain rfl : lr = sr := Eq.symm hd2
  obtain rfl : rc = sc := Eq.symm hd3
  obtain rfl : p = hn := Eq.symm hp9
  obtain rfl : y = xl := Eq.symm hy9
  have hg9 : ∀ j, j < y → gg j = nI (T j) ∧ 32 ≤ T j ∧ T j ≤ 126 := hgg
  have hy8 : y ≤ 80 := hy8
  have hh : p ≤ 4 := hh
  have hH : HRel p u0 u1 u2 u3 pst := hH
  have hQ : PQ pst P p := hQ
  have hXr : RefX X T y := hXr
  obtain ⟨A, hAe⟩ : ∃ A : Nat → Prop, A = (fun q : Nat => s9.heap.size ≤ q) := ⟨_, rfl⟩
  have hbA : ¬ A bb := by rw [hAe]; exact Nat.not_le.mpr hbl
  rw [← hAe] at xD xS
  have xP : va_P G.1 vwCl (List.flatten [[(x0, .inr (6, [.ref na.1, .ref tra.1, .ref h.1, .ref k.1]))], wS G na ((n, o, kf), (lr, lc, L), (lc, rc, R), (lr, rc, Z), (b, ta, tb, th, tw, tt, tn, sm0, mt, rw, dn)), wS G tra v, wHf G h (p, u0, u1, u2, u3), wX G k (y, xf, xr, xo, xc, xw, xn, xg, xv, gg, (xm, xk, ff)), wU G r (s, P, U, p, X, y, q0, q1, q2, q3, sp, re, B, wd, hg, ow)]) H := xP
  have xD : va_D A (List.flatten [[(x0, .inr (6, [.ref na.1, .ref tra.1, .ref h.1, .ref k.1]))], wS G na ((n, o, kf), (lr, lc, L), (lc, rc, R), (lr, rc, Z), (b, ta, tb, th, tw, tt, tn, sm0, mt, rw, dn)), wS G tra v, wHf G h (p, u0, u1, u2, u3), wX G k (y, xf, xr, xo, xc, xw, xn, xg, xv, gg, (xm, xk, ff)), wU G r (s, P, U, p, X, y, q0, q1, q2, q3, sp, re, B, wd, hg, ow)]) := xD
  have xL : lv_has ls 4 [(0, .ref bb), (1, .ref x0), (2, .ref r.1), (3, .int (nI i))] := xL
  refine lv_aload_n xE xB dL_law_634 rfl (lv_at xL 1 rfl) ?_
  refine q_VIL (As := []) (rest := []) ⟨xE, xB, xM, xO, xT⟩ (kX6_best l G x0 na tra h k n o kf lr lc L lc rc R lr rc Z b ta tb th tw tt tn sm0 mt rw dn v p u0 u1 u2 u3 (y, xf, xr, xo, xc, xw, xn, xg, xv, gg, (xm, xk, ff)) s pst (by exact hR)) (cwV 0 xT gL_law_X6_best rfl rfl rfl (by decide +kernel) ⟨Nat.le_of_ble_eq_true rfl, Nat.le_of_ble_eq_true rfl⟩) xK xP xD xS [0, 1, 2, 3, 4] [5] 6 rfl (by decide) (Lc := [[(x0, .inr (6, [.ref na.1, .ref tra.1, .ref h.1, .ref k.1]))], wS G na ((n, o, kf), (lr, lc, L), (lc, rc, R), (lr, rc, Z), (b, ta, tb, th, tw, tt, tn, sm0, mt, rw, dn)), wS G tra v, wHf G h (p, u0, u1, u2, u3), wX G k (y, xf, xr, xo, xc, xw, xn, xg, xv, gg, (xm, xk, ff))]) rfl (by simp only [List.flatten_cons, List.flatten_nil, List.append_nil, List.append_assoc]) (fun u_635 => [[(x0, .inr (6, [.ref na.1, .ref tra.1, .ref h.1, .ref k.1]))], wS G na ((n, o, kf), (lr, lc, L), (lc, rc, R), (lr, rc, Z), (b, ta, tb, th, tw, tt, tn, sm0, mt, rw, dn)), wS G tra u_635, wHf G h (p, u0, u1, u2, u3), wX G k (y, xf, xr, xo, xc, xw, xn, xg, xv, gg, (xm, xk, ff)), wU G r (s, P, U, p, X, y, q0, q1, q2, q3, sp, re, B, wd, hg, ow)]) (fun u_635 => [[(x0, .inr (6, [.ref na.1, .ref tra.1, .ref h.1, .ref k.1]))], wS G na ((n, o, kf), (lr, lc, L), (lc, rc, R), (lr, rc, Z), (b, ta, tb, th, tw, tt, tn, sm0, mt, rw, dn)), wS G tra u_635, wHf G h (p, u0, u1, u2, u3), wX G k (y, xf, xr, xo, xc, xw, xn, xg, xv, gg, (xm, xk, ff))]) (fun _ => rfl) (fun _ => rfl) (fun _ => by simp only [List.flatten_cons, List.flatten_nil, List.append_nil, List.append_assoc]) (fun _ => rfl) 0 rfl rfl rfl rfl xL.1 rfl (Nat.le_of_ble_eq_true rfl) dL_law_635 ⟨Nat.le_of_ble_eq_true rfl, Nat.le_of_ble_eq_true rfl⟩ (fun r_635 u_635 H locs h_635 xP xD xS => ?_)
  have h_635 : r_635 = beA lc n lr rc s := h_635
  refine lv_aload_n xE xB dL_law_638 rfl (lv_at xL 2 rfl) ?_
  refine q_VIL (As := []) (rest := [.int r_635]) ⟨xE, xB, xM, xO, xT⟩ (kX7_best l G r s P U p X y q0 q1 q2 q3 sp re B wd hg ow n o lr lc rc (by exact hR.D) (by exact hh)) (cwV 0 xT gL_law_X7_best rfl rfl rfl (by decide +kernel) ⟨Nat.le_of_ble_eq_true rfl, Nat.le_of_ble_eq_true rfl⟩) xK xP xD xS [5] [0, 1, 2, 3, 4] 6 rfl (by decide) (Lc := [wU G r (s, P, U, p, X, y, q0, q1, q2, q3, sp, re, B, wd, hg, ow)]) rfl (by simp only [List.flatten_cons, List.flatten_nil, List.append_nil, List.append_assoc]) (fun u_639 => [[(x0, .inr (6, [.ref na.1, .ref tra.1, .ref h.1, .ref k.1]))], wS G na ((n, o, kf), (lr, lc, L), (lc, rc, R), (lr, rc, Z), (b, ta, tb, th, tw, tt, tn, sm0, mt, rw, dn)), wS G tra u_635, wHf G h (p, u0, u1, u2, u3), wX G k (y, xf, xr, xo, xc, xw, xn, xg, xv, gg, (xm, xk, ff)), wU G r (s, P, u_639.1, p, X, y, u_639.2.1, u_639.2.2.1, u_639.2.2.2.1, u_639.2.2.2.2, sp, re, B, wd, hg, ow)]) (fun u_639 => [wU G r (s, P, u_639.1, p, X, y, u_639.2.1, u_639.2.2.1, u_639.2.2.2.1, u_639.2.2.2.2, sp, re, B, wd, hg, ow)]) (fun _ => rfl) (fun _ => rfl) (fun _ => by simp only [List.flatten_cons, List.flatten_nil, List.append_nil, List.append_assoc]) (fun _ => rfl) 0 rfl rfl rfl rfl xL.1 rfl (Nat.le_of_ble_eq_true rfl) dL_law_639 ⟨Nat.le_of_ble_eq_true rfl, Nat.le_of_ble_eq_true rfl⟩ (fun r_639 u_639 H locs h_639 xP xD xS => ?_)
  have h_639 : r_639 = beA lc n lr rc s := h_639
  refine lv_icmp_eq (tgt := 742) xE xB dL_law_642 (by decide) (fun c_642 => ?_) (fun c_642 => by exact absurd (h_635.trans h_639.symm) c_642)
  subst hAe
  exact hn9 (x0, na, tra, h, k) r ((n, o, kf), (lr, lc, L), (lc, rc, R), (lr, rc, Z), (b, ta, tb, th, tw, tt, tn, sm0, mt, rw, dn)) u_635 (p, u0, u1, u2, u3) (y, xf, xr, xo, xc, xw, xn, xg, xv, gg, (xm, xk, ff)) (s, P, u_639.1, p, X, y, u_639.2.1, u_639.2.2.1, u_639.2.2.2.1, u_639.2.2.2.2, sp, re, B, wd, hg, ow) (⟨pst, T, hR, hHD, hQ, hXc, hXr⟩) H locs xP xD xS ls (lv_sub xL [0, 1, 2, 3] rfl)
