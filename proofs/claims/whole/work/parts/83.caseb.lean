set_option maxHeartbeats 4000000 in
set_option maxRecDepth 100000 in
/-- case 6: begin -/
theorem law_6 {p9 : Program} {l : Launch} {e9 : Env} {s9 : State} {m9 : MethodId} {b9 : List Frame} {t9 : Method} {c9 : Code} {bb LL : Nat} {xs : Nat → Int32} {G : wG} (hL : LL ≤ 2048) (C0 : lw_At p9 s9 m9 t9 c9 bb LL xs) (xK : KK G s9) (i : Nat) (hi : i + 4 ≤ LL) (hn9 : LAt p9 l e9 s9 m9 b9 t9 c9 bb G i 742) : LAt p9 l e9 s9 m9 b9 t9 c9 bb G i 354 := by
  obtain ⟨xE, xB, -, xM, xO0, hts, hX, hbl, -, -⟩ := C0
  have xO : s9.vm.findClass RL = some m9.cls := xO0
  have xT : ∀ w ∈ wsL_law, w.before #[Value.ref bb] s9 = true := fun w hw => hts w (wsL_law_in w hw)
  rintro ⟨x0, na, tra, h, k⟩ r ⟨⟨n, o, kf⟩, ⟨lr, lc, L⟩, ⟨rr, rc, R⟩, ⟨sr, sc, Z⟩, ⟨b, ta, tb, th, tw, tt, tn, sm0, mt, rw, dn⟩⟩ v ⟨hn, u0, u1, u2, u3⟩ ⟨xl, xf, xr, xo, xc, xw, xn, xg, xv, gg, ⟨xm, xk, ff⟩⟩ ⟨s, P, U, p, X, y, q0, q1, q2, q3, sp, re, B, wd, hg, ow⟩ ⟨pst, T, hR, hHD, hQ, hXc, hXr⟩ H locs xP xD xS ls xL
  have hR : RelS ((n, o, kf), (lr, lc, L), (rr, rc, R), (sr, sc, Z), (b, ta, tb, th, tw, tt, tn, sm0, mt, rw, dn)) s := hR
  obtain ⟨hd1, hd2, hd3⟩ := hR.2.2.2.1
  obtain ⟨hp9, hh, hH⟩ := id hHD
  obtain ⟨hy9, hy8, hgg⟩ := id hXc
  obtain rfl : lc = rr := Eq.symm hd1
  obtain rfl : lr = sr := Eq.symm hd2
  obtain rfl : rc = sc := Eq.symm hd3
  obtain rfl : p = hn := Eq.symm hp9
  obtain rfl : y = xl := Eq.symm hy9
  have hg9 : ∀ j, j < y → gg j = nI (T j) ∧ 32 ≤ T j ∧ T j ≤ 126 := hgg
  have hy8 : y ≤ 80 := hy8
  have hh : p ≤ 4 := hh
  have hH : HRel p u0 u1 u2 u3 pst := hH
  have hQ : PQ pst P p := hQ
  have hXr : RefX X T y := hXr
  obtain ⟨A, hAe⟩ : ∃ A : Nat → Prop, A = (fun q : Nat => s9.heap.size ≤ q) := ⟨_, rfl⟩
  have hbA : ¬ A bb := by rw [hAe]; exact Nat.not_le.mpr hbl
  rw [← hAe] at xD xS
  have xP : va_P G.1 vwCl (List.flatten [[(x0, .inr (6, [.ref na.1, .ref tra.1, .ref h.1, .ref k.1]))], wS G na ((n, o, kf), (lr, lc, L), (lc, rc, R), (lr, rc, Z), (b, ta, tb, th, tw, tt, tn, sm0, mt, rw, dn)), wS G tra v, wHf G h (p, u0, u1, u2, u3), wX G k (y, xf, xr, xo, xc, xw, xn, xg, xv, gg, (xm, xk, ff)), wU G r (s, P, U, p, X, y, q0, q1, q2, q3, sp, re, B, wd, hg, ow)]) H := xP
  have xD : va_D A (List.flatten [[(x0, .inr (6, [.ref na.1, .ref tra.1, .ref h.1, .ref k.1]))], wS G na ((n, o, kf), (lr, lc, L), (lc, rc, R), (lr, rc, Z), (b, ta, tb, th, tw, tt, tn, sm0, mt, rw, dn)), wS G tra v, wHf G h (p, u0, u1, u2, u3), wX G k (y, xf, xr, xo, xc, xw, xn, xg, xv, gg, (xm, xk, ff)), wU G r (s, P, U, p, X, y, q0, q1, q2, q3, sp, re, B, wd, hg, ow)]) := xD
  have xL : lv_has ls 4 [(0, .ref bb), (1, .ref x0), (2, .ref r.1), (3, .int (nI i))] := xL
  refine lv_aload_n xE xB dL_law_354 rfl (lv_at xL 1 rfl) ?_
  refine lv_aload_n xE xB dL_law_355 rfl (lv_at xL 0 rfl) ?_
  refine lv_iload_n xE xB dL_law_356 rfl (lv_at xL 3 rfl) ?_
  refine lv_iconst (v := nI 1) xE xB dL_law_357 (by decide) ?_
  refine q_iadd xE xB dL_law_358 ?_
  refine q_sld xE xB hX hbl hbA xS (by omega) (by omega) dL_law_359 ?_
  refine lv_aload_n xE xB dL_law_360 rfl (lv_at xL 0 rfl) ?_
  refine lv_iload_n xE xB dL_law_361 rfl (lv_at xL 3 rfl) ?_
  refine lv_iconst (v := nI 2) xE xB dL_law_362 (by decide) ?_
  refine q_iadd xE xB dL_law_363 ?_
  refine q_sld xE xB hX hbl hbA xS (by omega) (by omega) dL_law_364 ?_
  refine q_VIL (As := [.int (xs (i + 1)), .int (xs (i + 2))]) (rest := []) ⟨xE, xB, xM, xO, xT⟩ (kX6_begin l G x0 na tra h k n o kf lr lc L lc rc R lr rc Z b ta tb th tw tt tn sm0 mt rw dn v p u0 u1 u2 u3 (y, xf, xr, xo, xc, xw, xn, xg, xv, gg, (xm, xk, ff)) s pst (xs (i + 1)) (xs (i + 2)) (by exact hR) (by exact hh) (by exact hH)) (cwV 2 xT gL_law_X6_begin rfl rfl rfl (by decide +kernel) ⟨Nat.le_of_ble_eq_true rfl, Nat.le_of_ble_eq_true rfl⟩) xK xP xD xS [0, 1, 2, 3, 4] [5] 6 rfl (by decide) (Lc := [[(x0, .inr (6, [.ref na.1, .ref tra.1, .ref h.1, .ref k.1]))], wS G na ((n, o, kf), (lr, lc, L), (lc, rc, R), (lr, rc, Z), (b, ta, tb, th, tw, tt, tn, sm0, mt, rw, dn)), wS G tra v, wHf G h (p, u0, u1, u2, u3), wX G k (y, xf, xr, xo, xc, xw, xn, xg, xv, gg, (xm, xk, ff))]) rfl (by simp only [List.flatten_cons, List.flatten_nil, List.append_nil, List.append_assoc]) (fun u_365 => [[(x0, .inr (6, [.ref na.1, .ref tra.1, .ref h.1, .ref k.1]))], wS G na u_365.1, wS G tra v, wHf G (h.1, h.2.1, u_365.2.1, u_365.2.2.1, u_365.2.2.2.1, u_365.2.2.2.2.1) u_365.2.2.2.2.2, wX G k (y, xf, xr, xo, xc, xw, xn, xg, xv, gg, (xm, xk, ff)), wU G r (s, P, U, p, X, y, q0, q1, q2, q3, sp, re, B, wd, hg, ow)]) (fun u_365 => [[(x0, .inr (6, [.ref na.1, .ref tra.1, .ref h.1, .ref k.1]))], wS G na u_365.1, wS G tra v, wHf G (h.1, h.2.1, u_365.2.1, u_365.2.2.1, u_365.2.2.2.1, u_365.2.2.2.2.1) u_365.2.2.2.2.2, wX G k (y, xf, xr, xo, xc, xw, xn, xg, xv, gg, (xm, xk, ff))]) (fun _ => rfl) (fun _ => rfl) (fun _ => by simp only [List.flatten_cons, List.flatten_nil, List.append_nil, List.append_assoc]) (fun _ => rfl) 0 rfl rfl rfl rfl xL.1 rfl (Nat.le_of_ble_eq_true rfl) dL_law_365 ⟨Nat.le_of_ble_eq_true rfl, Nat.le_of_ble_eq_true rfl⟩ (fun r_365 u_365 H locs h_365 xP xD xS => ?_)
  have h_365 : PO r_365 u_365 (opBegin lc n lr rc b (xs (i + 1)) (xs (i + 2)) s pst p) := h_365
  refine lv_aload_n xE xB dL_law_368 rfl (lv_at xL 2 rfl) ?_
  refine lv_aload_n xE xB dL_law_369 rfl (lv_at xL 0 rfl) ?_
  refine lv_iload_n xE xB dL_law_370 rfl (lv_at xL 3 rfl) ?_
  refine lv_iconst (v := nI 1) xE xB dL_law_371 (by decide) ?_
  refine q_iadd xE xB dL_law_372 ?_
  refine q_sld xE xB hX hbl hbA xS (by omega) (by omega) dL_law_373 ?_
  refine lv_aload_n xE xB dL_law_374 rfl (lv_at xL 0 rfl) ?_
  refine lv_iload_n xE xB dL_law_375 rfl (lv_at xL 3 rfl) ?_
  refine lv_iconst (v := nI 2) xE xB dL_law_376 (by decide) ?_
  refine q_iadd xE xB dL_law_377 ?_
  refine q_sld xE xB hX hbl hbA xS (by omega) (by omega) dL_law_378 ?_
  refine q_VIL (As := [.int (xs (i + 1)), .int (xs (i + 2))]) (rest := [.int r_365]) ⟨xE, xB, xM, xO, xT⟩ (kX7_begin l G r s P U p X y q0 q1 q2 q3 sp re B wd hg ow n o lr lc rc b pst (xs (i + 1)) (xs (i + 2)) (by exact hR.D) (by exact hR.2.2.2.2.2.1) (by exact hh) (by exact hQ)) (cwV 2 xT gL_law_X7_begin rfl rfl rfl (by decide +kernel) ⟨Nat.le_of_ble_eq_true rfl, Nat.le_of_ble_eq_true rfl⟩) xK xP xD xS [5] [0, 1, 2, 3, 4] 6 rfl (by decide) (Lc := [wU G r (s, P, U, p, X, y, q0, q1, q2, q3, sp, re, B, wd, hg, ow)]) rfl (by simp only [List.flatten_cons, List.flatten_nil, List.append_nil, List.append_assoc]) (fun u_379 => [[(x0, .inr (6, [.ref na.1, .ref tra.1, .ref h.1, .ref k.1]))], wS G na u_365.1, wS G tra v, wHf G (h.1, h.2.1, u_365.2.1, u_365.2.2.1, u_365.2.2.2.1, u_365.2.2.2.2.1) u_365.2.2.2.2.2, wX G k (y, xf, xr, xo, xc, xw, xn, xg, xv, gg, (xm, xk, ff)), wU G r (u_379.1, u_379.2.1, U, u_379.2.2, X, y, q0, q1, q2, q3, sp, re, B, wd, hg, ow)]) (fun u_379 => [wU G r (u_379.1, u_379.2.1, U, u_379.2.2, X, y, q0, q1, q2, q3, sp, re, B, wd, hg, ow)]) (fun _ => rfl) (fun _ => rfl) (fun _ => by simp only [List.flatten_cons, List.flatten_nil, List.append_nil, List.append_assoc]) (fun _ => rfl) 0 rfl rfl rfl rfl xL.1 rfl (Nat.le_of_ble_eq_true rfl) dL_law_379 ⟨Nat.le_of_ble_eq_true rfl, Nat.le_of_ble_eq_true rfl⟩ (fun r_379 u_379 H locs h_379 xP xD xS => ?_)
  have h_379 : QO r_379 u_379 (opBegin lc n lr rc b (xs (i + 1)) (xs (i + 2)) s pst p) := h_379
  refine lv_icmp_eq (tgt := 742) xE xB dL_law_382 (by decide) (fun c_382 => ?_) (fun c_382 => by exact absurd (op_eq h_365 h_379) c_382)
  subst hAe
  exact hn9 (x0, na, tra, (h.1, h.2.1, u_365.2.1, u_365.2.2.1, u_365.2.2.2.1, u_365.2.2.2.2.1), k) r u_365.1 v u_365.2.2.2.2.2 (y, xf, xr, xo, xc, xw, xn, xg, xv, gg, (xm, xk, ff)) (u_379.1, u_379.2.1, U, u_379.2.2, X, y, q0, q1, q2, q3, sp, re, B, wd, hg, ow) (INV_op h_365 h_379 rfl rfl rfl hXc hXr) H locs xP xD xS ls (lv_sub xL [0, 1, 2, 3] rfl)
set_option maxHeartbeats 4000000 in
set_option maxRecDepth 100000 in
/-- case 7: tick -/
theorem law_7 {p9 : Program} {l : Launch} {e9 : Env} {s9 : State} {m9 : MethodId} {b9 : List Frame} {t9 : Method} {c9 : Code} {bb LL : Nat} {xs : Nat → Int32} {G : wG} (hL : LL ≤ 2048) (C0 : lw_At p9 s9 m9 t9 c9 bb LL xs) (xK : KK G s9) (i : Nat) (hi : i + 4 ≤ LL) (hn9 : LAt p9 l e9 s9 m9 b9 t9 c9 bb G i 742) : LAt p9 l e9 s9 m9 b9 t9 c9 bb G i 387 := by
  obtain ⟨xE, xB, -, xM, xO0, hts, hX, hbl, -, -⟩ := C0
  have xO : s9.vm.findClass RL = some m9.cls := xO0
  have xT : ∀ w ∈ wsL_law, w.before #[Value.ref bb] s9 = true := fun w hw => hts w (wsL_law_in w hw)
  rintro ⟨x0, na, tra, h, k⟩ r ⟨⟨n, o, kf⟩, ⟨lr, lc, L⟩, ⟨rr, rc, R⟩, ⟨sr, sc, Z⟩, ⟨b, ta, tb, th, tw, tt, tn, sm0, mt, rw, dn⟩⟩ v ⟨hn, u0, u1, u2, u3⟩ ⟨xl, xf, xr, xo, xc, xw, xn, xg, xv, gg, ⟨xm, xk, ff⟩⟩ ⟨s, P, U, p, X, y, q0, q1, q2, q3, sp, re, B, wd, hg, ow⟩ ⟨pst, T, hR, hHD, hQ, hXc, hXr⟩ H locs xP xD xS ls xL
  have hR : RelS ((n, o, kf), (lr, lc, L), (rr, rc, R), (sr, sc, Z), (b, ta, tb, th, tw, tt, tn, sm0, mt, rw, dn)) s := hR
  obtain ⟨hd1, hd2, hd3⟩ := hR.2.2.2.1
  obtain ⟨hp9, hh, hH⟩ := id hHD
  obtain ⟨hy9, hy8, hgg⟩ := id hXc
  obtain rfl : lc = rr := Eq.symm hd1
  obtain rfl : lr = sr := Eq.symm hd2
  obtain rfl : rc = sc := Eq.symm hd3
  obtain rfl : p = hn := Eq.symm hp9
  obtain rfl : y = xl := Eq.symm hy9
  have hg9 : ∀ j, j < y → gg j = nI (T j) ∧ 32 ≤ T j ∧ T j ≤ 126 := hgg
  have hy8 : y ≤ 80 := hy8
  have hh : p ≤ 4 := hh
  have hH : HRel p u0 u1 u2 u3 pst := hH
  have hQ : PQ pst P p := hQ
  have hXr : RefX X T y := hXr
  obtain ⟨A, hAe⟩ : ∃ A : Nat → Prop, A = (fun q : Nat => s9.heap.size ≤ q) := ⟨_, rfl⟩
  have hbA : ¬ A bb := by rw [hAe]; exact Nat.not_le.mpr hbl
  rw [← hAe] at xD xS
  have xP : va_P G.1 vwCl (List.flatten [[(x0, .inr (6, [.ref na.1, .ref tra.1, .ref h.1, .ref k.1]))], wS G na ((n, o, kf), (lr, lc, L), (lc, rc, R), (lr, rc, Z), (b, ta, tb, th, tw, tt, tn, sm0, mt, rw, dn)), wS G tra v, wHf G h (p, u0, u1, u2, u3), wX G k (y, xf, xr, xo, xc, xw, xn, xg, xv, gg, (xm, xk, ff)), wU G r (s, P, U, p, X, y, q0, q1, q2, q3, sp, re, B, wd, hg, ow)]) H := xP
  have xD : va_D A (List.flatten [[(x0, .inr (6, [.ref na.1, .ref tra.1, .ref h.1, .ref k.1]))], wS G na ((n, o, kf), (lr, lc, L), (lc, rc, R), (lr, rc, Z), (b, ta, tb, th, tw, tt, tn, sm0, mt, rw, dn)), wS G tra v, wHf G h (p, u0, u1, u2, u3), wX G k (y, xf, xr, xo, xc, xw, xn, xg, xv, gg, (xm, xk, ff)), wU G r (s, P, U, p, X, y, q0, q1, q2, q3, sp, re, B, wd, hg, ow)]) := xD
  have xL : lv_has ls 4 [(0, .ref bb), (1, .ref x0), (2, .ref r.1), (3, .int (nI i))] := xL
  refine lv_aload_n xE xB dL_law_387 rfl (lv_at xL 1 rfl) ?_
  refine lv_aload_n xE xB dL_law_388 rfl (lv_at xL 0 rfl) ?_
  refine lv_iload_n xE xB dL_law_389 rfl (lv_at xL 3 rfl) ?_
  refine lv_iconst (v := nI 1) xE xB dL_law_390 (by decide) ?_
  refine q_iadd xE xB dL_law_391 ?_
  refine q_sld xE xB hX hbl hbA xS (by omega) (by omega) dL_law_392 ?_
  refine q_VIL (As := [.int (xs (i + 1))]) (rest := []) ⟨xE, xB, xM, xO, xT⟩ (kX6_tick l G x0 na tra h k n o kf lr lc L lc rc R lr rc Z b ta tb th tw tt tn sm0 mt rw dn v p u0 u1 u2 u3 (y, xf, xr, xo, xc, xw, xn, xg, xv, gg, (xm, xk, ff)) s pst (xs (i + 1)) (by exact hR) (by exact hh) (by exact hH)) (cwV 1 xT gL_law_X6_tick rfl rfl rfl (by decide +kernel) ⟨Nat.le_of_ble_eq_true rfl, Nat.le_of_ble_eq_true rfl⟩) xK xP xD xS [0, 1, 2, 3, 4] [5] 6 rfl (by decide) (Lc := [[(x0, .inr (6, [.ref na.1, .ref tra.1, .ref h.1, .ref k.1]))], wS G na ((n, o, kf), (lr, lc, L), (lc, rc, R), (lr, rc, Z), (b, ta, tb, th, tw, tt, tn, sm0, mt, rw, dn)), wS G tra v, wHf G h (p, u0, u1, u2, u3), wX G k (y, xf, xr, xo, xc, xw, xn, xg, xv, gg, (xm, xk, ff))]) rfl (by simp only [List.flatten_cons, List.flatten_nil, List.append_nil, List.append_assoc]) (fun u_393 => [[(x0, .inr (6, [.ref na.1, .ref tra.1, .ref h.1, .ref k.1]))], wS G na u_393.1, wS G tra v, wHf G (h.1, h.2.1, u_393.2.1, u_393.2.2.1, u_393.2.2.2.1, u_393.2.2.2.2.1) u_393.2.2.2.2.2, wX G k (y, xf, xr, xo, xc, xw, xn, xg, xv, gg, (xm, xk, ff)), wU G r (s, P, U, p, X, y, q0, q1, q2, q3, sp, re, B, wd, hg, ow)]) (fun u_393 => [[(x0, .inr (6, [.ref na.1, .ref tra.1, .ref h.1, .ref k.1]))], wS G na u_393.1, wS G tra v, wHf G (h.1, h.2.1, u_393.2.1, u_393.2.2.1, u_393.2.2.2.1, u_393.2.2.2.2.1) u_393.2.2.2.2.2, wX G k (y, xf, xr, xo, xc, xw, xn, xg, xv, gg, (xm, xk, ff))]) (fun _ => rfl) (fun _ => rfl) (fun _ => by simp only [List.flatten_cons, List.flatten_nil, List.append_nil, List.append_assoc]) (fun _ => rfl) 0 rfl rfl rfl rfl xL.1 rfl (Nat.le_of_ble_eq_true rfl) dL_law_393 ⟨Nat.le_of_ble_eq_true rfl, Nat.le_of_ble_eq_true rfl⟩ (fun r_393 u_393 H locs h_393 xP xD xS => ?_)
  have h_393 : PO r_393 u_393 (opTick lc n o lr rc b ta tb tt (xs (i + 1)) s pst p) := h_393
  refine lv_aload_n xE xB dL_law_396 rfl (lv_at xL 2 rfl) ?_
  refine lv_aload_n xE xB dL_law_397 rfl (lv_at xL 0 rfl) ?_
  refine lv_iload_n xE xB dL_law_398 rfl (lv_at xL 3 rfl) ?_
  refine lv_iconst (v := nI 1) xE xB dL_law_399 (by decide) ?_
  refine q_iadd xE xB dL_law_400 ?_
  refine q_sld xE xB hX hbl hbA xS (by omega) (by omega) dL_law_401 ?_
  refine q_VIL (As := [.int (xs (i + 1))]) (rest := [.int r_393]) ⟨xE, xB, xM, xO, xT⟩ (kX7_tick l G r s P U p X y q0 q1 q2 q3 sp re B wd hg ow n o lr lc rc ta tb tt b pst (xs (i + 1)) (by exact hR.D) (by exact hR.2.2.2.2.2.1) (by exact hh) (by exact hQ) (by exact hR.T)) (cwV 1 xT gL_law_X7_tick rfl rfl rfl (by decide +kernel) ⟨Nat.le_of_ble_eq_true rfl, Nat.le_of_ble_eq_true rfl⟩) xK xP xD xS [5] [0, 1, 2, 3, 4] 6 rfl (by decide) (Lc := [wU G r (s, P, U, p, X, y, q0, q1, q2, q3, sp, re, B, wd, hg, ow)]) rfl (by simp only [List.flatten_cons, List.flatten_nil, List.append_nil, List.append_assoc]) (fun u_402 => [[(x0, .inr (6, [.ref na.1, .ref tra.1, .ref h.1, .ref k.1]))], wS G na u_393.1, wS G tra v, wHf G (h.1, h.2.1, u_393.2.1, u_393.2.2.1, u_393.2.2.2.1, u_393.2.2.2.2.1) u_393.2.2.2.2.2, wX G k (y, xf, xr, xo, xc, xw, xn, xg, xv, gg, (xm, xk, ff)), wU G r (u_402.1, u_402.2.1, U, u_402.2.2.1, X, y, u_402.2.2.2.1, u_402.2.2.2.2.1, u_402.2.2.2.2.2.1, u_402.2.2.2.2.2.2, sp, re, B, wd, hg, ow)]) (fun u_402 => [wU G r (u_402.1, u_402.2.1, U, u_402.2.2.1, X, y, u_402.2.2.2.1, u_402.2.2.2.2.1, u_402.2.2.2.2.2.1, u_402.2.2.2.2.2.2, sp, re, B, wd, hg, ow)]) (fun _ => rfl) (fun _ => rfl) (fun _ => by simp only [List.flatten_cons, List.flatten_nil, List.append_nil, List.append_assoc]) (fun _ => rfl) 0 rfl rfl rfl rfl xL.1 rfl (Nat.le_of_ble_eq_true rfl) dL_law_402 ⟨Nat.le_of_ble_eq_true rfl, Nat.le_of_ble_eq_true rfl⟩ (fun r_402 u_402 H locs h_402 xP xD xS => ?_)
  have h_402 : QO r_402 (u_402.1, u_402.2.1, u_402.2.2.1) (opTick lc n o lr rc b ta tb tt (xs (i + 1)) s pst p) := h_402
  refine lv_icmp_eq (tgt := 742) xE xB dL_law_405 (by decide) (fun c_405 => ?_) (fun c_405 => by exact absurd (op_eq h_393 h_402) c_405)
  subst hAe
  exact hn9 (x0, na, tra, (h.1, h.2.1, u_393.2.1, u_393.2.2.1, u_393.2.2.2.1, u_393.2.2.2.2.1), k) r u_393.1 v u_393.2.2.2.2.2 (y, xf, xr, xo, xc, xw, xn, xg, xv, gg, (xm, xk, ff)) (u_402.1, u_402.2.1, U, u_402.2.2.1, X, y, u_402.2.2.2.1, u_402.2.2.2.2.1, u_402.2.2.2.2.2.1, u_402.2.2.2.2.2.2, sp, re, B, wd, hg, ow) (INV_op h_393 h_402 rfl rfl rfl hXc hXr) H locs xP xD xS ls (lv_sub xL [0, 1, 2, 3] rfl)
set_option maxHeartbeats 4000000 in
set_option maxRecDepth 100000 in
/-- case 8: drain -/
theorem law_8 {p9 : Program} {l : Launch} {e9 : Env} {s9 : State} {m9 : MethodId} {b9 : List Frame} {t9 : Method} {c9 : Code} {bb LL : Nat} {xs : Nat → Int32} {G : wG} (hL : LL ≤ 2048) (C0 : lw_At p9 s9 m9 t9 c9 bb LL xs) (xK : KK G s9) (i : Nat) (hi : i + 4 ≤ LL) (hn9 : LAt p9 l e9 s9 m9 b9 t9 c9 bb G i 742) : LAt p9 l e9 s9 m9 b9 t9 c9 bb G i 410 := by
  obtain ⟨xE, xB, -, xM, xO0, hts, hX, hbl, -, -⟩ := C0
  have xO : s9.vm.findClass RL = some m9.cls := xO0
  have xT : ∀ w ∈ wsL_law, w.before #[Value.ref bb] s9 = true := fun w hw => hts w (wsL_law_in w hw)
  rintro ⟨x0, na, tra, h, k⟩ r ⟨⟨n, o, kf⟩, ⟨lr, lc, L⟩, ⟨rr, rc, R⟩, ⟨sr, sc, Z⟩, ⟨b, ta, tb, th, tw, tt, tn, sm0, mt, rw, dn⟩⟩ v ⟨hn, u0, u1, u2, u3⟩ ⟨xl, xf, xr, xo, xc, xw, xn, xg, xv, gg, ⟨xm, xk, ff⟩⟩ ⟨s, P, U, p, X, y, q0, q1, q2, q3, sp, re, B, wd, hg, ow⟩ ⟨pst, T, hR, hHD, hQ, hXc, hXr⟩ H locs xP xD xS ls xL
  have hR : RelS ((n, o, kf), (lr, lc, L), (rr, rc, R), (sr, sc, Z), (b, ta, tb, th, tw, tt, tn, sm0, mt, rw, dn)) s := hR
  obtain ⟨hd1, hd2, hd3⟩ := hR.2.2.2.1
  obtain ⟨hp9, hh, hH⟩ := id hHD
  obtain ⟨hy9, hy8, hgg⟩ := id hXc
  obtain rfl : lc = rr := Eq.symm hd1
  obtain rfl : lr = sr := Eq.symm hd2
  obtain rfl : rc = sc := Eq.symm hd3
  obtain rfl : p = hn := Eq.symm hp9
  obtain rfl : y = xl := Eq.symm hy9
  have hg9 : ∀ j, j < y → gg j = nI (T j) ∧ 32 ≤ T j ∧ T j ≤ 126 := hgg
  have hy8 : y ≤ 80 := hy8
  have hh : p ≤ 4 := hh
  have hH : HRel p u0 u1 u2 u3 pst := hH
  have hQ : PQ pst P p := hQ
  have hXr : RefX X T y := hXr
  obtain ⟨A, hAe⟩ : ∃ A : Nat → Prop, A = (fun q : Nat => s9.heap.size ≤ q) := ⟨_, rfl⟩
  have hbA : ¬ A bb := by rw [hAe]; exact Nat.not_le.mpr hbl
  rw [← hAe] at xD xS
  have xP : va_P G.1 vwCl (List.flatten [[(x0, .inr (6, [.ref na.1, .ref tra.1, .ref h.1, .ref k.1]))], wS G na ((n, o, kf), (lr, lc, L), (lc, rc, R), (lr, rc, Z), (b, ta, tb, th, tw, tt, tn, sm0, mt, rw, dn)), wS G tra v, wHf G h (p, u0, u1, u2, u3), wX G k (y, xf, xr, xo, xc, xw, xn, xg, xv, gg, (xm, xk, ff)), wU G r (s, P, U, p, X, y, q0, q1, q2, q3, sp, re, B, wd, hg, ow)]) H := xP
  have xD : va_D A (List.flatten [[(x0, .inr (6, [.ref na.1, .ref tra.1, .ref h.1, .ref k.1]))], wS G na ((n, o, kf), (lr, lc, L), (lc, rc, R), (lr, rc, Z), (b, ta, tb, th, tw, tt, tn, sm0, mt, rw, dn)), wS G tra v, wHf G h (p, u0, u1, u2, u3), wX G k (y, xf, xr, xo, xc, xw, xn, xg, xv, gg, (xm, xk, ff)), wU G r (s, P, U, p, X, y, q0, q1, q2, q3, sp, re, B, wd, hg, ow)]) := xD
  have xL : lv_has ls 4 [(0, .ref bb), (1, .ref x0), (2, .ref r.1), (3, .int (nI i))] := xL
  refine lv_aload_n xE xB dL_law_410 rfl (lv_at xL 1 rfl) ?_
  refine q_VIL (As := []) (rest := []) ⟨xE, xB, xM, xO, xT⟩ (kX6_drain l G x0 na tra h k n o kf lr lc L lc rc R lr rc Z b ta tb th tw tt tn sm0 mt rw dn v p u0 u1 u2 u3 (y, xf, xr, xo, xc, xw, xn, xg, xv, gg, (xm, xk, ff)) s pst (by exact hR) (by exact hh) (by exact hH)) (cwV 0 xT gL_law_X6_drain rfl rfl rfl (by decide +kernel) ⟨Nat.le_of_ble_eq_true rfl, Nat.le_of_ble_eq_true rfl⟩) xK xP xD xS [0, 1, 2, 3, 4] [5] 6 rfl (by decide) (Lc := [[(x0, .inr (6, [.ref na.1, .ref tra.1, .ref h.1, .ref k.1]))], wS G na ((n, o, kf), (lr, lc, L), (lc, rc, R), (lr, rc, Z), (b, ta, tb, th, tw, tt, tn, sm0, mt, rw, dn)), wS G tra v, wHf G h (p, u0, u1, u2, u3), wX G k (y, xf, xr, xo, xc, xw, xn, xg, xv, gg, (xm, xk, ff))]) rfl (by simp only [List.flatten_cons, List.flatten_nil, List.append_nil, List.append_assoc]) (fun u_411 => [[(x0, .inr (6, [.ref na.1, .ref tra.1, .ref h.1, .ref k.1]))], wS G na u_411.1, wS G tra v, wHf G (h.1, h.2.1, u_411.2.1, u_411.2.2.1, u_411.2.2.2.1, u_411.2.2.2.2.1) u_411.2.2.2.2.2, wX G k (y, xf, xr, xo, xc, xw, xn, xg, xv, gg, (xm, xk, ff)), wU G r (s, P, U, p, X, y, q0, q1, q2, q3, sp, re, B, wd, hg, ow)]) (fun u_411 => [[(x0, .inr (6, [.ref na.1, .ref tra.1, .ref h.1, .ref k.1]))], wS G na u_411.1, wS G tra v, wHf G (h.1, h.2.1, u_411.2.1, u_411.2.2.1, u_411.2.2.2.1, u_411.2.2.2.2.1) u_411.2.2.2.2.2, wX G k (y, xf, xr, xo, xc, xw, xn, xg, xv, gg, (xm, xk, ff))]) (fun _ => rfl) (fun _ => rfl) (fun _ => by simp only [List.flatten_cons, List.flatten_nil, List.append_nil, List.append_assoc]) (fun _ => rfl) 0 rfl rfl rfl rfl xL.1 rfl (Nat.le_of_ble_eq_true rfl) dL_law_411 ⟨Nat.le_of_ble_eq_true rfl, Nat.le_of_ble_eq_true rfl⟩ (fun r_411 u_411 H locs h_411 xP xD xS => ?_)
  have h_411 : PO r_411 u_411 (opDrain lc n lr rc b ta tb tt s pst p) := h_411
  refine lv_aload_n xE xB dL_law_414 rfl (lv_at xL 2 rfl) ?_
  refine q_VIL (As := []) (rest := [.int r_411]) ⟨xE, xB, xM, xO, xT⟩ (kX7_drain l G r s P U p X y q0 q1 q2 q3 sp re B wd hg ow n o lr lc rc ta tb tt b pst (by exact hR.D) (by exact hR.2.2.2.2.2.1) (by exact hh) (by exact hQ) (by exact hR.T) (by exact K01_Z hR.2.2.2.2.1)) (cwV 0 xT gL_law_X7_drain rfl rfl rfl (by decide +kernel) ⟨Nat.le_of_ble_eq_true rfl, Nat.le_of_ble_eq_true rfl⟩) xK xP xD xS [5] [0, 1, 2, 3, 4] 6 rfl (by decide) (Lc := [wU G r (s, P, U, p, X, y, q0, q1, q2, q3, sp, re, B, wd, hg, ow)]) rfl (by simp only [List.flatten_cons, List.flatten_nil, List.append_nil, List.append_assoc]) (fun u_415 => [[(x0, .inr (6, [.ref na.1, .ref tra.1, .ref h.1, .ref k.1]))], wS G na u_411.1, wS G tra v, wHf G (h.1, h.2.1, u_411.2.1, u_411.2.2.1, u_411.2.2.2.1, u_411.2.2.2.2.1) u_411.2.2.2.2.2, wX G k (y, xf, xr, xo, xc, xw, xn, xg, xv, gg, (xm, xk, ff)), wU G r (u_415.1, u_415.2.1, U, u_415.2.2, X, y, q0, q1, q2, q3, sp, re, B, wd, hg, ow)]) (fun u_415 => [wU G r (u_415.1, u_415.2.1, U, u_415.2.2, X, y, q0, q1, q2, q3, sp, re, B, wd, hg, ow)]) (fun _ => rfl) (fun _ => rfl) (fun _ => by simp only [List.flatten_cons, List.flatten_nil, List.append_nil, List.append_assoc]) (fun _ => rfl) 0 rfl rfl rfl rfl xL.1 rfl (Nat.le_of_ble_eq_true rfl) dL_law_415 ⟨Nat.le_of_ble_eq_true rfl, Nat.le_of_ble_eq_true rfl⟩ (fun r_415 u_415 H locs h_415 xP xD xS => ?_)
  have h_415 : QO r_415 u_415 (opDrain lc n lr rc b ta tb tt s pst p) := h_415
  refine lv_icmp_eq (tgt := 742) xE xB dL_law_418 (by decide) (fun c_418 => ?_) (fun c_418 => by exact absurd (op_eq h_411 h_415) c_418)
  subst hAe
  exact hn9 (x0, na, tra, (h.1, h.2.1, u_411.2.1, u_411.2.2.1, u_411.2.2.2.1, u_411.2.2.2.2.1), k) r u_411.1 v u_411.2.2.2.2.2 (y, xf, xr, xo, xc, xw, xn, xg, xv, gg, (xm, xk, ff)) (u_415.1, u_415.2.1, U, u_415.2.2, X, y, q0, q1, q2, q3, sp, re, B, wd, hg, ow) (INV_op h_411 h_415 rfl rfl rfl hXc hXr) H locs xP xD xS ls (lv_sub xL [0, 1, 2, 3] rfl)
set_option maxHeartbeats 4000000 in
set_option maxRecDepth 100000 in
/-- case 9: all -/
theorem law_9 {p9 : Program} {l : Launch} {e9 : Env} {s9 : State} {m9 : MethodId} {b9 : List Frame} {t9 : Method} {c9 : Code} {bb LL : Nat} {xs : Nat → Int32} {G : wG} (hL : LL ≤ 2048) (C0 : lw_At p9 s9 m9 t9 c9 bb LL xs) (xK : KK G s9) (i : Nat) (hi : i + 4 ≤ LL) (hn9 : LAt p9 l e9 s9 m9 b9 t9 c9 bb G i 742) : LAt p9 l e9 s9 m9 b9 t9 c9 bb G i 423 := by
  obtain ⟨xE, xB, -, xM, xO0, hts, hX, hbl, -, -⟩ := C0
  have xO : s9.vm.findClass RL = some m9.cls := xO0
  have xT : ∀ w ∈ wsL_law, w.before #[Value.ref bb] s9 = true := fun w hw => hts w (wsL_law_in w hw)
  rintro ⟨x0, na, tra, h, k⟩ r ⟨⟨n, o, kf⟩, ⟨lr, lc, L⟩, ⟨rr, rc, R⟩, ⟨sr, sc, Z⟩, ⟨b, ta, tb, th, tw, tt, tn, sm0, mt, rw, dn⟩⟩ v ⟨hn, u0, u1, u2, u3⟩ ⟨xl, xf, xr, xo, xc, xw, xn, xg, xv, gg, ⟨xm, xk, ff⟩⟩ ⟨s, P, U, p, X, y, q0, q1, q2, q3, sp, re, B, wd, hg, ow⟩ ⟨pst, T, hR, hHD, hQ, hXc, hXr⟩ H locs xP xD xS ls xL
  have hR : RelS ((n, o, kf), (lr, lc, L), (rr, rc, R), (sr, sc, Z), (b, ta, tb, th, tw, tt, tn, sm0, mt, rw, dn)) s := hR
  obtain ⟨hd1, hd2, hd3⟩ := hR.2.2.2.1
  obtain ⟨hp9, hh, hH⟩ := id hHD
  obtain ⟨hy9, hy8, hgg⟩ := id hXc
  obtain rfl : lc = rr := Eq.symm hd1
  obtain rfl : lr = sr := Eq.symm hd2
  obtain rfl : rc = sc := Eq.symm hd3
  obtain rfl : p = hn := Eq.symm hp9
  obtain rfl : y = xl := Eq.symm hy9
  have hg9 : ∀ j, j < y → gg j = nI (T j) ∧ 32 ≤ T j ∧ T j ≤ 126 := hgg
  have hy8 : y ≤ 80 := hy8
  have hh : p ≤ 4 := hh
  have hH : HRel p u0 u1 u2 u3 pst := hH
  have hQ : PQ pst P p := hQ
  have hXr : RefX X T y := hXr
  obtain ⟨A, hAe⟩ : ∃ A : Nat → Prop, A = (fun q : Nat => s9.heap.size ≤ q) := ⟨_, rfl⟩
  have hbA : ¬ A bb := by rw [hAe]; exact Nat.not_le.mpr hbl
  rw [← hAe] at xD xS
  have xP : va_P G.1 vwCl (List.flatten [[(x0, .inr (6, [.ref na.1, .ref tra.1, .ref h.1, .ref k.1]))], wS G na ((n, o, kf), (lr, lc, L), (lc, rc, R), (lr, rc, Z), (b, ta, tb, th, tw, tt, tn, sm0, mt, rw, dn)), wS G tra v, wHf G h (p, u0, u1, u2, u3), wX G k (y, xf, xr, xo, xc, xw, xn, xg, xv, gg, (xm, xk, ff)), wU G r (s, P, U, p, X, y, q0, q1, q2, q3, sp, re, B, wd, hg, ow)]) H := xP
  have xD : va_D A (List.flatten [[(x0, .inr (6, [.ref na.1, .ref tra.1, .ref h.1, .ref k.1]))], wS G na ((n, o, kf), (lr, lc, L), (lc, rc, R), (lr, rc, Z), (b, ta, tb, th, tw, tt, tn, sm0, mt, rw, dn)), wS G tra v, wHf G h (p, u0, u1, u2, u3), wX G k (y, xf, xr, xo, xc, xw, xn, xg, xv, gg, (xm, xk, ff)), wU G r (s, P, U, p, X, y, q0, q1, q2, q3, sp, re, B, wd, hg, ow)]) := xD
  have xL : lv_has ls 4 [(0, .ref bb), (1, .ref x0), (2, .ref r.1), (3, .int (nI i))] := xL
  refine lv_aload_n xE xB dL_law_423 rfl (lv_at xL 1 rfl) ?_
  refine q_VIL (As := []) (rest := []) ⟨xE, xB, xM, xO, xT⟩ (kX6_all l G x0 na tra h k n o kf lr lc L lc rc R lr rc Z b ta tb th tw tt tn sm0 mt rw dn v p u0 u1 u2 u3 (y, xf, xr, xo, xc, xw, xn, xg, xv, gg, (xm, xk, ff)) s pst (by exact hR) (by exact hh) (by exact hH)) (cwV 0 xT gL_law_X6_all rfl rfl rfl (by decide +kernel) ⟨Nat.le_of_ble_eq_true rfl, Nat.le_of_ble_eq_true rfl⟩) xK xP xD xS [0, 1, 2, 3, 4] [5] 6 rfl (by decide) (Lc := [[(x0, .inr (6, [.ref na.1, .ref tra.1, .ref h.1, .ref k.1]))], wS G na ((n, o, kf), (lr, lc, L), (lc, rc, R), (lr, rc, Z), (b, ta, tb, th, tw, tt, tn, sm0, mt, rw, dn)), wS G tra v, wHf G h (p, u0, u1, u2, u3), wX G k (y, xf, xr, xo, xc, xw, xn, xg, xv, gg, (xm, xk, ff))]) rfl (by simp only [List.flatten_cons, List.flatten_nil, List.append_nil, List.append_assoc]) (fun u_424 => [[(x0, .inr (6, [.ref na.1, .ref tra.1, .ref h.1, .ref k.1]))], wS G na u_424.1, wS G tra v, wHf G (h.1, h.2.1, u_424.2.1, u_424.2.2.1, u_424.2.2.2.1, u_424.2.2.2.2.1) u_424.2.2.2.2.2, wX G k (y, xf, xr, xo, xc, xw, xn, xg, xv, gg, (xm, xk, ff)), wU G r (s, P, U, p, X, y, q0, q1, q2, q3, sp, re, B, wd, hg, ow)]) (fun u_424 => [[(x0, .inr (6, [.ref na.1, .ref tra.1, .ref h.1, .ref k.1]))], wS G na u_424.1, wS G tra v, wHf G (h.1, h.2.1, u_424.2.1, u_424.2.2.1, u_424.2.2.2.1, u_424.2.2.2.2.1) u_424.2.2.2.2.2, wX G k (y, xf, xr, xo, xc, xw, xn, xg, xv, gg, (xm, xk, ff))]) (fun _ => rfl) (fun _ => rfl) (fun _ => by simp only [List.flatten_cons, List.flatten_nil, List.append_nil, List.append_assoc]) (fun _ => rfl) 0 rfl rfl rfl rfl xL.1 rfl (Nat.le_of_ble_eq_true rfl) dL_law_424 ⟨Nat.le_of_ble_eq_true rfl, Nat.le_of_ble_eq_true rfl⟩ (fun r_424 u_424 H locs h_424 xP xD xS => ?_)
  have h_424 : PO r_424 u_424 (opAll lc n o lr rc b s pst p) := h_424
  refine lv_aload_n xE xB dL_law_427 rfl (lv_at xL 2 rfl) ?_
  refine q_VIL (As := []) (rest := [.int r_424]) ⟨xE, xB, xM, xO, xT⟩ (kX7_all l G r s P U p X y q0 q1 q2 q3 sp re B wd hg ow n o lr lc rc b pst (by exact hR.D) (by exact hR.2.2.2.2.2.1) (by exact hh) (by exact hQ)) (cwV 0 xT gL_law_X7_all rfl rfl rfl (by decide +kernel) ⟨Nat.le_of_ble_eq_true rfl, Nat.le_of_ble_eq_true rfl⟩) xK xP xD xS [5] [0, 1, 2, 3, 4] 6 rfl (by decide) (Lc := [wU G r (s, P, U, p, X, y, q0, q1, q2, q3, sp, re, B, wd, hg, ow)]) rfl (by simp only [List.flatten_cons, List.flatten_nil, List.append_nil, List.append_assoc]) (fun u_428 => [[(x0, .inr (6, [.ref na.1, .ref tra.1, .ref h.1, .ref k.1]))], wS G na u_424.1, wS G tra v, wHf G (h.1, h.2.1, u_424.2.1, u_424.2.2.1, u_424.2.2.2.1, u_424.2.2.2.2.1) u_424.2.2.2.2.2, wX G k (y, xf, xr, xo, xc, xw, xn, xg, xv, gg, (xm, xk, ff)), wU G r (u_428.1, u_428.2.1, U, u_428.2.2.1, X, y, u_428.2.2.2.1, u_428.2.2.2.2.1, u_428.2.2.2.2.2.1, u_428.2.2.2.2.2.2, sp, re, B, wd, hg, ow)]) (fun u_428 => [wU G r (u_428.1, u_428.2.1, U, u_428.2.2.1, X, y, u_428.2.2.2.1, u_428.2.2.2.2.1, u_428.2.2.2.2.2.1, u_428.2.2.2.2.2.2, sp, re, B, wd, hg, ow)]) (fun _ => rfl) (fun _ => rfl) (fun _ => by simp only [List.flatten_cons, List.flatten_nil, List.append_nil, List.append_assoc]) (fun _ => rfl) 0 rfl rfl rfl rfl xL.1 rfl (Nat.le_of_ble_eq_true rfl) dL_law_428 ⟨Nat.le_of_ble_eq_true rfl, Nat.le_of_ble_eq_true rfl⟩ (fun r_428 u_428 H locs h_428 xP xD xS => ?_)
  have h_428 : QO r_428 (u_428.1, u_428.2.1, u_428.2.2.1) (opAll lc n o lr rc b s pst p) := h_428
  refine lv_icmp_eq (tgt := 742) xE xB dL_law_431 (by decide) (fun c_431 => ?_) (fun c_431 => by exact absurd (op_eq h_424 h_428) c_431)
  subst hAe
  exact hn9 (x0, na, tra, (h.1, h.2.1, u_424.2.1, u_424.2.2.1, u_424.2.2.2.1, u_424.2.2.2.2.1), k) r u_424.1 v u_424.2.2.2.2.2 (y, xf, xr, xo, xc, xw, xn, xg, xv, gg, (xm, xk, ff)) (u_428.1, u_428.2.1, U, u_428.2.2.1, X, y, u_428.2.2.2.1, u_428.2.2.2.2.1, u_428.2.2.2.2.2.1, u_428.2.2.2.2.2.2, sp, re, B, wd, hg, ow) (INV_op h_424 h_428 rfl rfl rfl hXc hXr) H locs xP xD xS ls (lv_sub xL [0, 1, 2, 3] rfl)
set_option maxHeartbeats 4000000 in
set_option maxRecDepth 100000 in
/-- case 10: entry -/
theorem law_10 {p9 : Program} {l : Launch} {e9 : Env} {s9 : State} {m9 : MethodId} {b9 : List Frame} {t9 : Method} {c9 : Code} {bb LL : Nat} {xs : Nat → Int32} {G : wG} (hL : LL ≤ 2048) (C0 : lw_At p9 s9 m9 t9 c9 bb LL xs) (xK : KK G s9) (i : Nat) (hi : i + 4 ≤ LL) (hn9 : LAt p9 l e9 s9 m9 b9 t9 c9 bb G i 742) : LAt p9 l e9 s9 m9 b9 t9 c9 bb G i 436 := by
  obtain ⟨xE, xB, -, xM, xO0, hts, hX, hbl, -, -⟩ := C0
  have xO : s9.vm.findClass RL = some m9.cls := xO0
  have xT : ∀ w ∈ wsL_law, w.before #[Value.ref bb] s9 = true := fun w hw => hts w (wsL_law_in w hw)
  rintro ⟨x0, na, tra, h, k⟩ r ⟨⟨n, o, kf⟩, ⟨lr, lc, L⟩, ⟨rr, rc, R⟩, ⟨sr, sc, Z⟩, ⟨b, ta, tb, th, tw, tt, tn, sm0, mt, rw, dn⟩⟩ v ⟨hn, u0, u1, u2, u3⟩ ⟨xl, xf, xr, xo, xc, xw, xn, xg, xv, gg, ⟨xm, xk, ff⟩⟩ ⟨s, P, U, p, X, y, q0, q1, q2, q3, sp, re, B, wd, hg, ow⟩ ⟨pst, T, hR, hHD, hQ, hXc, hXr⟩ H locs xP xD xS ls xL
  have hR : RelS ((n, o, kf), (lr, lc, L), (rr, rc, R), (sr, sc, Z), (b, ta, tb, th, tw, tt, tn, sm0, mt, rw, dn)) s := hR
  obtain ⟨hd1, hd2, hd3⟩ := hR.2.2.2.1
  obtain ⟨hp9, hh, hH⟩ := id hHD
  obtain ⟨hy9, hy8, hgg⟩ := id hXc
  obtain rfl : lc = rr := Eq.symm hd1
  obtain rfl : lr = sr := Eq.symm hd2
  obtain rfl : rc = sc := Eq.symm hd3
  obtain rfl : p = hn := Eq.symm hp9
  obtain rfl : y = xl := Eq.symm hy9
  have hg9 : ∀ j, j < y → gg j = nI (T j) ∧ 32 ≤ T j ∧ T j ≤ 126 := hgg
  have hy8 : y ≤ 80 := hy8
  have hh : p ≤ 4 := hh
  have hH : HRel p u0 u1 u2 u3 pst := hH
  have hQ : PQ pst P p := hQ
  have hXr : RefX X T y := hXr
  obtain ⟨A, hAe⟩ : ∃ A : Nat → Prop, A = (fun q : Nat => s9.heap.size ≤ q) := ⟨_, rfl⟩
  have hbA : ¬ A bb := by rw [hAe]; exact Nat.not_le.mpr hbl
  rw [← hAe] at xD xS
  have xP : va_P G.1 vwCl (List.flatten [[(x0, .inr (6, [.ref na.1, .ref tra.1, .ref h.1, .ref k.1]))], wS G na ((n, o, kf), (lr, lc, L), (lc, rc, R), (lr, rc, Z), (b, ta, tb, th, tw, tt, tn, sm0, mt, rw, dn)), wS G tra v, wHf G h (p, u0, u1, u2, u3), wX G k (y, xf, xr, xo, xc, xw, xn, xg, xv, gg, (xm, xk, ff)), wU G r (s, P, U, p, X, y, q0, q1, q2, q3, sp, re, B, wd, hg, ow)]) H := xP
  have xD : va_D A (List.flatten [[(x0, .inr (6, [.ref na.1, .ref tra.1, .ref h.1, .ref k.1]))], wS G na ((n, o, kf), (lr, lc, L), (lc, rc, R), (lr, rc, Z), (b, ta, tb, th, tw, tt, tn, sm0, mt, rw, dn)), wS G tra v, wHf G h (p, u0, u1, u2, u3), wX G k (y, xf, xr, xo, xc, xw, xn, xg, xv, gg, (xm, xk, ff)), wU G r (s, P, U, p, X, y, q0, q1, q2, q3, sp, re, B, wd, hg, ow)]) := xD
  have xL : lv_has ls 4 [(0, .ref bb), (1, .ref x0), (2, .ref r.1), (3, .int (nI i))] := xL
  refine lv_aload_n xE xB dL_law_436 rfl (lv_at xL 1 rfl) ?_
  refine lv_aload_n xE xB dL_law_437 rfl (lv_at xL 0 rfl) ?_
  refine lv_iload_n xE xB dL_law_438 rfl (lv_at xL 3 rfl) ?_
  refine lv_iconst (v := nI 1) xE xB dL_law_439 (by decide) ?_
  refine q_iadd xE xB dL_law_440 ?_
  refine q_sld xE xB hX hbl hbA xS (by omega) (by omega) dL_law_441 ?_
  refine lv_aload_n xE xB dL_law_442 rfl (lv_at xL 0 rfl) ?_
  refine lv_iload_n xE xB dL_law_443 rfl (lv_at xL 3 rfl) ?_
  refine lv_iconst (v := nI 2) xE xB dL_law_444 (by decide) ?_
  refine q_iadd xE xB dL_law_445 ?_
  refine q_sld xE xB hX hbl hbA xS (by omega) (by omega) dL_law_446 ?_
  refine lv_aload_n xE xB dL_law_447 rfl (lv_at xL 0 rfl) ?_
  refine lv_iload_n xE xB dL_law_448 rfl (lv_at xL 3 rfl) ?_
  refine lv_iconst (v := nI 3) xE xB dL_law_449 (by decide) ?_
  refine q_iadd xE xB dL_law_450 ?_
  refine q_sld xE xB hX hbl hbA xS (by omega) (by omega) dL_law_451 ?_
  refine q_VRL (As := [.int (xs (i + 1)), .int (xs (i + 2)), .int (xs (i + 3))]) (rest := []) ⟨xE, xB, xM, xO, xT⟩ (kX6_entry l G x0 na tra h k n o kf lr lc L lc rc R lr rc Z b ta tb th tw tt tn sm0 mt rw dn v p u0 u1 u2 u3 (y, xf, xr, xo, xc, xw, xn, xg, xv, gg, (xm, xk, ff)) s pst (xs (i + 1)) (xs (i + 2)) (xs (i + 3)) (by exact hR) (by exact hh) (by exact hH)) (cwV 3 xT gL_law_X6_entry rfl rfl rfl (by decide +kernel) ⟨Nat.le_of_ble_eq_true rfl, Nat.le_of_ble_eq_true rfl⟩) xK xP [0, 1, 2, 3, 4] [5] 6 rfl (by decide) (Lc := [[(x0, .inr (6, [.ref na.1, .ref tra.1, .ref h.1, .ref k.1]))], wS G na ((n, o, kf), (lr, lc, L), (lc, rc, R), (lr, rc, Z), (b, ta, tb, th, tw, tt, tn, sm0, mt, rw, dn)), wS G tra v, wHf G h (p, u0, u1, u2, u3), wX G k (y, xf, xr, xo, xc, xw, xn, xg, xv, gg, (xm, xk, ff))]) rfl (by simp only [List.flatten_cons, List.flatten_nil, List.append_nil, List.append_assoc]) 0 rfl rfl rfl rfl xL.1 rfl (Nat.le_of_ble_eq_true rfl) dL_law_452 ⟨Nat.le_of_ble_eq_true rfl, Nat.le_of_ble_eq_true rfl⟩ (fun r_452 h_452 => ?_)
  have h_452 : r_452 = enA lr lc rc (xs (i + 1)) (xs (i + 2)) (xs (i + 3)) s := h_452
  refine lv_aload_n xE xB dL_law_455 rfl (lv_at xL 2 rfl) ?_
  refine lv_aload_n xE xB dL_law_456 rfl (lv_at xL 0 rfl) ?_
  refine lv_iload_n xE xB dL_law_457 rfl (lv_at xL 3 rfl) ?_
  refine lv_iconst (v := nI 1) xE xB dL_law_458 (by decide) ?_
  refine q_iadd xE xB dL_law_459 ?_
  refine q_sld xE xB hX hbl hbA xS (by omega) (by omega) dL_law_460 ?_
  refine lv_aload_n xE xB dL_law_461 rfl (lv_at xL 0 rfl) ?_
  refine lv_iload_n xE xB dL_law_462 rfl (lv_at xL 3 rfl) ?_
  refine lv_iconst (v := nI 2) xE xB dL_law_463 (by decide) ?_
  refine q_iadd xE xB dL_law_464 ?_
  refine q_sld xE xB hX hbl hbA xS (by omega) (by omega) dL_law_465 ?_
  refine lv_aload_n xE xB dL_law_466 rfl (lv_at xL 0 rfl) ?_
  refine lv_iload_n xE xB dL_law_467 rfl (lv_at xL 3 rfl) ?_
  refine lv_iconst (v := nI 3) xE xB dL_law_468 (by decide) ?_
  refine q_iadd xE xB dL_law_469 ?_
  refine q_sld xE xB hX hbl hbA xS (by omega) (by omega) dL_law_470 ?_
  refine q_VRL (As := [.int (xs (i + 1)), .int (xs (i + 2)), .int (xs (i + 3))]) (rest := [.int r_452]) ⟨xE, xB, xM, xO, xT⟩ (kX7_entry l G r s P U p X y q0 q1 q2 q3 sp re B wd hg ow n o lr lc rc (xs (i + 1)) (xs (i + 2)) (xs (i + 3)) (by exact hR.D)) (cwV 3 xT gL_law_X7_entry rfl rfl rfl (by decide +kernel) ⟨Nat.le_of_ble_eq_true rfl, Nat.le_of_ble_eq_true rfl⟩) xK xP [5] [0, 1, 2, 3, 4] 6 rfl (by decide) (Lc := [wU G r (s, P, U, p, X, y, q0, q1, q2, q3, sp, re, B, wd, hg, ow)]) rfl (by simp only [List.flatten_cons, List.flatten_nil, List.append_nil, List.append_assoc]) 0 rfl rfl rfl rfl xL.1 rfl (Nat.le_of_ble_eq_true rfl) dL_law_471 ⟨Nat.le_of_ble_eq_true rfl, Nat.le_of_ble_eq_true rfl⟩ (fun r_471 h_471 => ?_)
  obtain rfl : r_471 = enA lr lc rc (xs (i + 1)) (xs (i + 2)) (xs (i + 3)) s := h_471
  refine lv_icmp_eq (tgt := 742) xE xB dL_law_474 (by decide) (fun c_474 => ?_) (fun c_474 => by exact absurd (h_452) c_474)
  subst hAe
  exact hn9 (x0, na, tra, h, k) r ((n, o, kf), (lr, lc, L), (lc, rc, R), (lr, rc, Z), (b, ta, tb, th, tw, tt, tn, sm0, mt, rw, dn)) v (p, u0, u1, u2, u3) (y, xf, xr, xo, xc, xw, xn, xg, xv, gg, (xm, xk, ff)) (s, P, U, p, X, y, q0, q1, q2, q3, sp, re, B, wd, hg, ow) (⟨pst, T, hR, hHD, hQ, hXc, hXr⟩) H locs xP xD xS ls (lv_sub xL [0, 1, 2, 3] rfl)
set_option maxHeartbeats 4000000 in
set_option maxRecDepth 100000 in
/-- case 11: cellOf -/
theorem law_11 {p9 : Program} {l : Launch} {e9 : Env} {s9 : State} {m9 : MethodId} {b9 : List Frame} {t9 : Method} {c9 : Code} {bb LL : Nat} {xs : Nat → Int32} {G : wG} (hL : LL ≤ 2048) (C0 : lw_At p9 s9 m9 t9 c9 bb LL xs) (xK : KK G s9) (i : Nat) (hi : i + 4 ≤ LL) (hn9 : LAt p9 l e9 s9 m9 b9 t9 c9 bb G i 742) : LAt p9 l e9 s9 m9 b9 t9 c9 bb G i 479 := by
  obtain ⟨xE, xB, -, xM, xO0, hts, hX, hbl, -, -⟩ := C0
  have xO : s9.vm.findClass RL = some m9.cls := xO0
  have xT : ∀ w ∈ wsL_law, w.before #[Value.ref bb] s9 = true := fun w hw => hts w (wsL_law_in w hw)
  rintro ⟨x0, na, tra, h, k⟩ r ⟨⟨n, o, kf⟩, ⟨lr, lc, L⟩, ⟨rr, rc, R⟩, ⟨sr, sc, Z⟩, ⟨b, ta, tb, th, tw, tt, tn, sm0, mt, rw, dn⟩⟩ v ⟨hn, u0, u1, u2, u3⟩ ⟨xl, xf, xr, xo, xc, xw, xn, xg, xv, gg, ⟨xm, xk, ff⟩⟩ ⟨s, P, U, p, X, y, q0, q1, q2, q3, sp, re, B, wd, hg, ow⟩ ⟨pst, T, hR, hHD, hQ, hXc, hXr⟩ H locs xP xD xS ls xL
  have hR : RelS ((n, o, kf), (lr, lc, L), (rr, rc, R), (sr, sc, Z), (b, ta, tb, th, tw, tt, tn, sm0, mt, rw, dn)) s := hR
  obtain ⟨hd1, hd2, hd3⟩ := hR.2.2.2.1
  obtain ⟨hp9, hh, hH⟩ := id hHD
  obtain ⟨hy9, hy8, hgg⟩ := id hXc
  obtain rfl : lc = rr := Eq.symm hd1
  obtain rfl : lr = sr := Eq.symm hd2
  obtain rfl : rc = sc := Eq.symm hd3
  obtain rfl : p = hn := Eq.symm hp9
  obtain rfl : y = xl := Eq.symm hy9
  have hg9 : ∀ j, j < y → gg j = nI (T j) ∧ 32 ≤ T j ∧ T j ≤ 126 := hgg
  have hy8 : y ≤ 80 := hy8
  have hh : p ≤ 4 := hh
  have hH : HRel p u0 u1 u2 u3 pst := hH
  have hQ : PQ pst P p := hQ
  have hXr : RefX X T y := hXr
  obtain ⟨A, hAe⟩ : ∃ A : Nat → Prop, A = (fun q : Nat => s9.heap.size ≤ q) := ⟨_, rfl⟩
  have hbA : ¬ A bb := by rw [hAe]; exact Nat.not_le.mpr hbl
  rw [← hAe] at xD xS
  have xP : va_P G.1 vwCl (List.flatten [[(x0, .inr (6, [.ref na.1, .ref tra.1, .ref h.1, .ref k.1]))], wS G na ((n, o, kf), (lr, lc, L), (lc, rc, R), (lr, rc, Z), (b, ta, tb, th, tw, tt, tn, sm0, mt, rw, dn)), wS G tra v, wHf G h (p, u0, u1, u2, u3), wX G k (y, xf, xr, xo, xc, xw, xn, xg, xv, gg, (xm, xk, ff)), wU G r (s, P, U, p, X, y, q0, q1, q2, q3, sp, re, B, wd, hg, ow)]) H := xP
  have xD : va_D A (List.flatten [[(x0, .inr (6, [.ref na.1, .ref tra.1, .ref h.1, .ref k.1]))], wS G na ((n, o, kf), (lr, lc, L), (lc, rc, R), (lr, rc, Z), (b, ta, tb, th, tw, tt, tn, sm0, mt, rw, dn)), wS G tra v, wHf G h (p, u0, u1, u2, u3), wX G k (y, xf, xr, xo, xc, xw, xn, xg, xv, gg, (xm, xk, ff)), wU G r (s, P, U, p, X, y, q0, q1, q2, q3, sp, re, B, wd, hg, ow)]) := xD
  have xL : lv_has ls 4 [(0, .ref bb), (1, .ref x0), (2, .ref r.1), (3, .int (nI i))] := xL
  refine lv_aload_n xE xB dL_law_479 rfl (lv_at xL 1 rfl) ?_
  refine lv_aload_n xE xB dL_law_480 rfl (lv_at xL 0 rfl) ?_
  refine lv_iload_n xE xB dL_law_481 rfl (lv_at xL 3 rfl) ?_
  refine lv_iconst (v := nI 1) xE xB dL_law_482 (by decide) ?_
  refine q_iadd xE xB dL_law_483 ?_
  refine q_sld xE xB hX hbl hbA xS (by omega) (by omega) dL_law_484 ?_
  refine lv_aload_n xE xB dL_law_485 rfl (lv_at xL 0 rfl) ?_
  refine lv_iload_n xE xB dL_law_486 rfl (lv_at xL 3 rfl) ?_
  refine lv_iconst (v := nI 2) xE xB dL_law_487 (by decide) ?_
  refine q_iadd xE xB dL_law_488 ?_
  refine q_sld xE xB hX hbl hbA xS (by omega) (by omega) dL_law_489 ?_
  refine lv_aload_n xE xB dL_law_490 rfl (lv_at xL 0 rfl) ?_
  refine lv_iload_n xE xB dL_law_491 rfl (lv_at xL 3 rfl) ?_
  refine lv_iconst (v := nI 3) xE xB dL_law_492 (by decide) ?_
  refine q_iadd xE xB dL_law_493 ?_
  refine q_sld xE xB hX hbl hbA xS (by omega) (by omega) dL_law_494 ?_
  refine q_VRL (As := [.int (xs (i + 1)), .int (xs (i + 2)), .int (xs (i + 3))]) (rest := []) ⟨xE, xB, xM, xO, xT⟩ (kX6_cellOf l G x0 na tra h k n o kf lr lc L lc rc R lr rc Z b ta tb th tw tt tn sm0 mt rw dn v p u0 u1 u2 u3 (y, xf, xr, xo, xc, xw, xn, xg, xv, gg, (xm, xk, ff)) s pst (xs (i + 1)) (xs (i + 2)) (xs (i + 3)) (by exact hR) (by exact hh) (by exact hH)) (cwV 3 xT gL_law_X6_cellOf rfl rfl rfl (by decide +kernel) ⟨Nat.le_of_ble_eq_true rfl, Nat.le_of_ble_eq_true rfl⟩) xK xP [0, 1, 2, 3, 4] [5] 6 rfl (by decide) (Lc := [[(x0, .inr (6, [.ref na.1, .ref tra.1, .ref h.1, .ref k.1]))], wS G na ((n, o, kf), (lr, lc, L), (lc, rc, R), (lr, rc, Z), (b, ta, tb, th, tw, tt, tn, sm0, mt, rw, dn)), wS G tra v, wHf G h (p, u0, u1, u2, u3), wX G k (y, xf, xr, xo, xc, xw, xn, xg, xv, gg, (xm, xk, ff))]) rfl (by simp only [List.flatten_cons, List.flatten_nil, List.append_nil, List.append_assoc]) 0 rfl rfl rfl rfl xL.1 rfl (Nat.le_of_ble_eq_true rfl) dL_law_495 ⟨Nat.le_of_ble_eq_true rfl, Nat.le_of_ble_eq_true rfl⟩ (fun r_495 h_495 => ?_)
  have h_495 : r_495 = ceA n o b (xs (i + 1)) (xs (i + 2)) (xs (i + 3)) s := h_495
  refine lv_aload_n xE xB dL_law_498 rfl (lv_at xL 2 rfl) ?_
  refine lv_aload_n xE xB dL_law_499 rfl (lv_at xL 0 rfl) ?_
  refine lv_iload_n xE xB dL_law_500 rfl (lv_at xL 3 rfl) ?_
  refine lv_iconst (v := nI 1) xE xB dL_law_501 (by decide) ?_
  refine q_iadd xE xB dL_law_502 ?_
  refine q_sld xE xB hX hbl hbA xS (by omega) (by omega) dL_law_503 ?_
  refine lv_aload_n xE xB dL_law_504 rfl (lv_at xL 0 rfl) ?_
  refine lv_iload_n xE xB dL_law_505 rfl (lv_at xL 3 rfl) ?_
  refine lv_iconst (v := nI 2) xE xB dL_law_506 (by decide) ?_
  refine q_iadd xE xB dL_law_507 ?_
  refine q_sld xE xB hX hbl hbA xS (by omega) (by omega) dL_law_508 ?_
  refine lv_aload_n xE xB dL_law_509 rfl (lv_at xL 0 rfl) ?_
  refine lv_iload_n xE xB dL_law_510 rfl (lv_at xL 3 rfl) ?_
  refine lv_iconst (v := nI 3) xE xB dL_law_511 (by decide) ?_
  refine q_iadd xE xB dL_law_512 ?_
  refine q_sld xE xB hX hbl hbA xS (by omega) (by omega) dL_law_513 ?_
  refine q_VRL (As := [.int (xs (i + 1)), .int (xs (i + 2)), .int (xs (i + 3))]) (rest := [.int r_495]) ⟨xE, xB, xM, xO, xT⟩ (kX7_cellOf l G r s P U p X y q0 q1 q2 q3 sp re B wd hg ow n o lr lc rc b (xs (i + 1)) (xs (i + 2)) (xs (i + 3)) (by exact hR.D) (by exact hR.2.2.2.2.2.1)) (cwV 3 xT gL_law_X7_cellOf rfl rfl rfl (by decide +kernel) ⟨Nat.le_of_ble_eq_true rfl, Nat.le_of_ble_eq_true rfl⟩) xK xP [5] [0, 1, 2, 3, 4] 6 rfl (by decide) (Lc := [wU G r (s, P, U, p, X, y, q0, q1, q2, q3, sp, re, B, wd, hg, ow)]) rfl (by simp only [List.flatten_cons, List.flatten_nil, List.append_nil, List.append_assoc]) 0 rfl rfl rfl rfl xL.1 rfl (Nat.le_of_ble_eq_true rfl) dL_law_514 ⟨Nat.le_of_ble_eq_true rfl, Nat.le_of_ble_eq_true rfl⟩ (fun r_514 h_514 => ?_)
  obtain rfl : r_514 = ceA n o b (xs (i + 1)) (xs (i + 2)) (xs (i + 3)) s := h_514
  refine lv_icmp_eq (tgt := 742) xE xB dL_law_517 (by decide) (fun c_517 => ?_) (fun c_517 => by exact absurd (h_495) c_517)
  subst hAe
  exact hn9 (x0, na, tra, h, k) r ((n, o, kf), (lr, lc, L), (lc, rc, R), (lr, rc, Z), (b, ta, tb, th, tw, tt, tn, sm0, mt, rw, dn)) v (p, u0, u1, u2, u3) (y, xf, xr, xo, xc, xw, xn, xg, xv, gg, (xm, xk, ff)) (s, P, U, p, X, y, q0, q1, q2, q3, sp, re, B, wd, hg, ow) (⟨pst, T, hR, hHD, hQ, hXc, hXr⟩) H locs xP xD xS ls (lv_sub xL [0, 1, 2, 3] rfl)
