set_option maxHeartbeats 4000000 in
set_option maxRecDepth 100000 in
/-- case 0: side -/
theorem law_0 {p9 : Program} {l : Launch} {e9 : Env} {s9 : State} {m9 : MethodId} {b9 : List Frame} {t9 : Method} {c9 : Code} {bb LL : Nat} {xs : Nat → Int32} {G : wG} (hL : LL ≤ 2048) (C0 : lw_At p9 s9 m9 t9 c9 bb LL xs) (xK : KK G s9) (i : Nat) (hi : i + 4 ≤ LL) (hn9 : LAt p9 l e9 s9 m9 b9 t9 c9 bb G i 742) : LAt p9 l e9 s9 m9 b9 t9 c9 bb G i 136 := by
  obtain ⟨xE, xB, -, xM, xO0, hts, hX, hbl, -, -⟩ := C0
  have xO : s9.vm.findClass RL = some m9.cls := xO0
  have xT : ∀ w ∈ wsL_law, w.before #[Value.ref bb] s9 = true := fun w hw => hts w (wsL_law_in w hw)
  rintro ⟨x0, na, tra, h, k⟩ r ⟨⟨n, o, kf⟩, ⟨lr, lc, L⟩, ⟨rr, rc, R⟩, ⟨sr, sc, Z⟩, ⟨b, ta, tb, th, tw, tt, tn, sm0, mt, rw, dn⟩⟩ v ⟨hn, u0, u1, u2, u3⟩ ⟨xl, xf, xr, xo, xc, xw, xn, xg, xv, gg, ⟨xm, xk, ff⟩⟩ ⟨s, P, U, p, X, y, q0, q1, q2, q3, sp, re, B, wd, hg, ow⟩ ⟨pst, T, hR, hHD, hQ, hXc, hXr⟩ H locs xP xD xS ls xL
  have hR : RelS ((n, o, kf), (lr, lc, L), (rr, rc, R), (sr, sc, Z), (b, ta, tb, th, tw, tt, tn, sm0, mt, rw, dn)) s := hR
  obtain ⟨hd1, hd2, hd3⟩ := hR.2.2.2.1
  obtain ⟨hp9, hh, hH⟩ := id hHD
  obtain ⟨hy9, hy8, hgg⟩ := id hXc
  obtain rfl : lc = rr := Eq.symm hd1
  obtain rfl : lr = sr := Eq.symm hd2
  obtain rfl : rc = sc := Eq.symm hd3
  obtain rfl : p = hn := Eq.symm hp9
  obtain rfl : y = xl := Eq.symm hy9
  have hg9 : ∀ j, j < y → gg j = nI (T j) ∧ 32 ≤ T j ∧ T j ≤ 126 := hgg
  have hy8 : y ≤ 80 := hy8
  have hh : p ≤ 4 := hh
  have hH : HRel p u0 u1 u2 u3 pst := hH
  have hQ : PQ pst P p := hQ
  have hXr : RefX X T y := hXr
  obtain ⟨A, hAe⟩ : ∃ A : Nat → Prop, A = (fun q : Nat => s9.heap.size ≤ q) := ⟨_, rfl⟩
  have hbA : ¬ A bb := by rw [hAe]; exact Nat.not_le.mpr hbl
  rw [← hAe] at xD xS
  have xP : va_P G.1 vwCl (List.flatten [[(x0, .inr (6, [.ref na.1, .ref tra.1, .ref h.1, .ref k.1]))], wS G na ((n, o, kf), (lr, lc, L), (lc, rc, R), (lr, rc, Z), (b, ta, tb, th, tw, tt, tn, sm0, mt, rw, dn)), wS G tra v, wHf G h (p, u0, u1, u2, u3), wX G k (y, xf, xr, xo, xc, xw, xn, xg, xv, gg, (xm, xk, ff)), wU G r (s, P, U, p, X, y, q0, q1, q2, q3, sp, re, B, wd, hg, ow)]) H := xP
  have xD : va_D A (List.flatten [[(x0, .inr (6, [.ref na.1, .ref tra.1, .ref h.1, .ref k.1]))], wS G na ((n, o, kf), (lr, lc, L), (lc, rc, R), (lr, rc, Z), (b, ta, tb, th, tw, tt, tn, sm0, mt, rw, dn)), wS G tra v, wHf G h (p, u0, u1, u2, u3), wX G k (y, xf, xr, xo, xc, xw, xn, xg, xv, gg, (xm, xk, ff)), wU G r (s, P, U, p, X, y, q0, q1, q2, q3, sp, re, B, wd, hg, ow)]) := xD
  have xL : lv_has ls 4 [(0, .ref bb), (1, .ref x0), (2, .ref r.1), (3, .int (nI i))] := xL
  refine lv_aload_n xE xB dL_law_136 rfl (lv_at xL 1 rfl) ?_
  refine lv_aload_n xE xB dL_law_137 rfl (lv_at xL 0 rfl) ?_
  refine lv_iload_n xE xB dL_law_138 rfl (lv_at xL 3 rfl) ?_
  refine lv_iconst (v := nI 1) xE xB dL_law_139 (by decide) ?_
  refine q_iadd xE xB dL_law_140 ?_
  refine q_sld xE xB hX hbl hbA xS (by omega) (by omega) dL_law_141 ?_
  refine q_VIL (As := [.int (xs (i + 1))]) (rest := []) ⟨xE, xB, xM, xO, xT⟩ (kX6_side l G x0 na tra h k n o kf lr lc L lc rc R lr rc Z b ta tb th tw tt tn sm0 mt rw dn v p u0 u1 u2 u3 (y, xf, xr, xo, xc, xw, xn, xg, xv, gg, (xm, xk, ff)) s pst (xs (i + 1)) (by exact hR) (by exact hh) (by exact hH)) (cwV 1 xT gL_law_X6_side rfl rfl rfl (by decide +kernel) ⟨Nat.le_of_ble_eq_true rfl, Nat.le_of_ble_eq_true rfl⟩) xK xP xD xS [0, 1, 2, 3, 4] [5] 6 rfl (by decide) (Lc := [[(x0, .inr (6, [.ref na.1, .ref tra.1, .ref h.1, .ref k.1]))], wS G na ((n, o, kf), (lr, lc, L), (lc, rc, R), (lr, rc, Z), (b, ta, tb, th, tw, tt, tn, sm0, mt, rw, dn)), wS G tra v, wHf G h (p, u0, u1, u2, u3), wX G k (y, xf, xr, xo, xc, xw, xn, xg, xv, gg, (xm, xk, ff))]) rfl (by simp only [List.flatten_cons, List.flatten_nil, List.append_nil, List.append_assoc]) (fun u_142 => [[(x0, .inr (6, [.ref na.1, .ref tra.1, .ref h.1, .ref k.1]))], wS G na u_142.1, wS G tra v, wHf G (h.1, h.2.1, u_142.2.1, u_142.2.2.1, u_142.2.2.2.1, u_142.2.2.2.2.1) u_142.2.2.2.2.2, wX G k (y, xf, xr, xo, xc, xw, xn, xg, xv, gg, (xm, xk, ff)), wU G r (s, P, U, p, X, y, q0, q1, q2, q3, sp, re, B, wd, hg, ow)]) (fun u_142 => [[(x0, .inr (6, [.ref na.1, .ref tra.1, .ref h.1, .ref k.1]))], wS G na u_142.1, wS G tra v, wHf G (h.1, h.2.1, u_142.2.1, u_142.2.2.1, u_142.2.2.2.1, u_142.2.2.2.2.1) u_142.2.2.2.2.2, wX G k (y, xf, xr, xo, xc, xw, xn, xg, xv, gg, (xm, xk, ff))]) (fun _ => rfl) (fun _ => rfl) (fun _ => by simp only [List.flatten_cons, List.flatten_nil, List.append_nil, List.append_assoc]) (fun _ => rfl) 0 rfl rfl rfl rfl xL.1 rfl (Nat.le_of_ble_eq_true rfl) dL_law_142 ⟨Nat.le_of_ble_eq_true rfl, Nat.le_of_ble_eq_true rfl⟩ (fun r_142 u_142 H locs h_142 xP xD xS => ?_)
  have h_142 : PO r_142 u_142 (opSide n (xs (i + 1)) s pst p) := h_142
  refine lv_aload_n xE xB dL_law_145 rfl (lv_at xL 2 rfl) ?_
  refine lv_aload_n xE xB dL_law_146 rfl (lv_at xL 0 rfl) ?_
  refine lv_iload_n xE xB dL_law_147 rfl (lv_at xL 3 rfl) ?_
  refine lv_iconst (v := nI 1) xE xB dL_law_148 (by decide) ?_
  refine q_iadd xE xB dL_law_149 ?_
  refine q_sld xE xB hX hbl hbA xS (by omega) (by omega) dL_law_150 ?_
  refine q_VIL (As := [.int (xs (i + 1))]) (rest := [.int r_142]) ⟨xE, xB, xM, xO, xT⟩ (kX7_side l G r s P U p X y q0 q1 q2 q3 sp re B wd hg ow n o lr lc rc b pst (xs (i + 1)) (by exact hR.D) (by exact hR.2.2.2.2.2.1) (by exact hh) (by exact hQ)) (cwV 1 xT gL_law_X7_side rfl rfl rfl (by decide +kernel) ⟨Nat.le_of_ble_eq_true rfl, Nat.le_of_ble_eq_true rfl⟩) xK xP xD xS [5] [0, 1, 2, 3, 4] 6 rfl (by decide) (Lc := [wU G r (s, P, U, p, X, y, q0, q1, q2, q3, sp, re, B, wd, hg, ow)]) rfl (by simp only [List.flatten_cons, List.flatten_nil, List.append_nil, List.append_assoc]) (fun u_151 => [[(x0, .inr (6, [.ref na.1, .ref tra.1, .ref h.1, .ref k.1]))], wS G na u_142.1, wS G tra v, wHf G (h.1, h.2.1, u_142.2.1, u_142.2.2.1, u_142.2.2.2.1, u_142.2.2.2.2.1) u_142.2.2.2.2.2, wX G k (y, xf, xr, xo, xc, xw, xn, xg, xv, gg, (xm, xk, ff)), wU G r (u_151.1, u_151.2.1, U, u_151.2.2, X, y, q0, q1, q2, q3, sp, re, B, wd, hg, ow)]) (fun u_151 => [wU G r (u_151.1, u_151.2.1, U, u_151.2.2, X, y, q0, q1, q2, q3, sp, re, B, wd, hg, ow)]) (fun _ => rfl) (fun _ => rfl) (fun _ => by simp only [List.flatten_cons, List.flatten_nil, List.append_nil, List.append_assoc]) (fun _ => rfl) 0 rfl rfl rfl rfl xL.1 rfl (Nat.le_of_ble_eq_true rfl) dL_law_151 ⟨Nat.le_of_ble_eq_true rfl, Nat.le_of_ble_eq_true rfl⟩ (fun r_151 u_151 H locs h_151 xP xD xS => ?_)
  have h_151 : QO r_151 u_151 (opSide n (xs (i + 1)) s pst p) := h_151
  refine lv_icmp_eq (tgt := 742) xE xB dL_law_154 (by decide) (fun c_154 => ?_) (fun c_154 => by exact absurd (op_eq h_142 h_151) c_154)
  subst hAe
  exact hn9 (x0, na, tra, (h.1, h.2.1, u_142.2.1, u_142.2.2.1, u_142.2.2.2.1, u_142.2.2.2.2.1), k) r u_142.1 v u_142.2.2.2.2.2 (y, xf, xr, xo, xc, xw, xn, xg, xv, gg, (xm, xk, ff)) (u_151.1, u_151.2.1, U, u_151.2.2, X, y, q0, q1, q2, q3, sp, re, B, wd, hg, ow) (INV_op h_142 h_151 rfl rfl rfl hXc hXr) H locs xP xD xS ls (lv_sub xL [0, 1, 2, 3] rfl)
set_option maxHeartbeats 4000000 in
set_option maxRecDepth 100000 in
/-- case 1: shape -/
theorem law_1 {p9 : Program} {l : Launch} {e9 : Env} {s9 : State} {m9 : MethodId} {b9 : List Frame} {t9 : Method} {c9 : Code} {bb LL : Nat} {xs : Nat → Int32} {G : wG} (hL : LL ≤ 2048) (C0 : lw_At p9 s9 m9 t9 c9 bb LL xs) (xK : KK G s9) (i : Nat) (hi : i + 4 ≤ LL) (hn9 : LAt p9 l e9 s9 m9 b9 t9 c9 bb G i 742) : LAt p9 l e9 s9 m9 b9 t9 c9 bb G i 159 := by
  obtain ⟨xE, xB, -, xM, xO0, hts, hX, hbl, -, -⟩ := C0
  have xO : s9.vm.findClass RL = some m9.cls := xO0
  have xT : ∀ w ∈ wsL_law, w.before #[Value.ref bb] s9 = true := fun w hw => hts w (wsL_law_in w hw)
  rintro ⟨x0, na, tra, h, k⟩ r ⟨⟨n, o, kf⟩, ⟨lr, lc, L⟩, ⟨rr, rc, R⟩, ⟨sr, sc, Z⟩, ⟨b, ta, tb, th, tw, tt, tn, sm0, mt, rw, dn⟩⟩ v ⟨hn, u0, u1, u2, u3⟩ ⟨xl, xf, xr, xo, xc, xw, xn, xg, xv, gg, ⟨xm, xk, ff⟩⟩ ⟨s, P, U, p, X, y, q0, q1, q2, q3, sp, re, B, wd, hg, ow⟩ ⟨pst, T, hR, hHD, hQ, hXc, hXr⟩ H locs xP xD xS ls xL
  have hR : RelS ((n, o, kf), (lr, lc, L), (rr, rc, R), (sr, sc, Z), (b, ta, tb, th, tw, tt, tn, sm0, mt, rw, dn)) s := hR
  obtain ⟨hd1, hd2, hd3⟩ := hR.2.2.2.1
  obtain ⟨hp9, hh, hH⟩ := id hHD
  obtain ⟨hy9, hy8, hgg⟩ := id hXc
  obtain rfl : lc = rr := Eq.symm hd1
  obtain rfl : lr = sr := Eq.symm hd2
  obtain rfl : rc = sc := Eq.symm hd3
  obtain rfl : p = hn := Eq.symm hp9
  obtain rfl : y = xl := Eq.symm hy9
  have hg9 : ∀ j, j < y → gg j = nI (T j) ∧ 32 ≤ T j ∧ T j ≤ 126 := hgg
  have hy8 : y ≤ 80 := hy8
  have hh : p ≤ 4 := hh
  have hH : HRel p u0 u1 u2 u3 pst := hH
  have hQ : PQ pst P p := hQ
  have hXr : RefX X T y := hXr
  obtain ⟨A, hAe⟩ : ∃ A : Nat → Prop, A = (fun q : Nat => s9.heap.size ≤ q) := ⟨_, rfl⟩
  have hbA : ¬ A bb := by rw [hAe]; exact Nat.not_le.mpr hbl
  rw [← hAe] at xD xS
  have xP : va_P G.1 vwCl (List.flatten [[(x0, .inr (6, [.ref na.1, .ref tra.1, .ref h.1, .ref k.1]))], wS G na ((n, o, kf), (lr, lc, L), (lc, rc, R), (lr, rc, Z), (b, ta, tb, th, tw, tt, tn, sm0, mt, rw, dn)), wS G tra v, wHf G h (p, u0, u1, u2, u3), wX G k (y, xf, xr, xo, xc, xw, xn, xg, xv, gg, (xm, xk, ff)), wU G r (s, P, U, p, X, y, q0, q1, q2, q3, sp, re, B, wd, hg, ow)]) H := xP
  have xD : va_D A (List.flatten [[(x0, .inr (6, [.ref na.1, .ref tra.1, .ref h.1, .ref k.1]))], wS G na ((n, o, kf), (lr, lc, L), (lc, rc, R), (lr, rc, Z), (b, ta, tb, th, tw, tt, tn, sm0, mt, rw, dn)), wS G tra v, wHf G h (p, u0, u1, u2, u3), wX G k (y, xf, xr, xo, xc, xw, xn, xg, xv, gg, (xm, xk, ff)), wU G r (s, P, U, p, X, y, q0, q1, q2, q3, sp, re, B, wd, hg, ow)]) := xD
  have xL : lv_has ls 4 [(0, .ref bb), (1, .ref x0), (2, .ref r.1), (3, .int (nI i))] := xL
  refine lv_aload_n xE xB dL_law_159 rfl (lv_at xL 1 rfl) ?_
  refine lv_aload_n xE xB dL_law_160 rfl (lv_at xL 0 rfl) ?_
  refine lv_iload_n xE xB dL_law_161 rfl (lv_at xL 3 rfl) ?_
  refine lv_iconst (v := nI 1) xE xB dL_law_162 (by decide) ?_
  refine q_iadd xE xB dL_law_163 ?_
  refine q_sld xE xB hX hbl hbA xS (by omega) (by omega) dL_law_164 ?_
  refine lv_aload_n xE xB dL_law_165 rfl (lv_at xL 0 rfl) ?_
  refine lv_iload_n xE xB dL_law_166 rfl (lv_at xL 3 rfl) ?_
  refine lv_iconst (v := nI 2) xE xB dL_law_167 (by decide) ?_
  refine q_iadd xE xB dL_law_168 ?_
  refine q_sld xE xB hX hbl hbA xS (by omega) (by omega) dL_law_169 ?_
  refine lv_aload_n xE xB dL_law_170 rfl (lv_at xL 0 rfl) ?_
  refine lv_iload_n xE xB dL_law_171 rfl (lv_at xL 3 rfl) ?_
  refine lv_iconst (v := nI 3) xE xB dL_law_172 (by decide) ?_
  refine q_iadd xE xB dL_law_173 ?_
  refine q_sld xE xB hX hbl hbA xS (by omega) (by omega) dL_law_174 ?_
  refine q_VIL (As := [.int (xs (i + 1)), .int (xs (i + 2)), .int (xs (i + 3))]) (rest := []) ⟨xE, xB, xM, xO, xT⟩ (kX6_shape l G x0 na tra h k n o kf lr lc L lc rc R lr rc Z b ta tb th tw tt tn sm0 mt rw dn v p u0 u1 u2 u3 (y, xf, xr, xo, xc, xw, xn, xg, xv, gg, (xm, xk, ff)) s pst (xs (i + 1)) (xs (i + 2)) (xs (i + 3)) (by exact hR) (by exact hh) (by exact hH)) (cwV 3 xT gL_law_X6_shape rfl rfl rfl (by decide +kernel) ⟨Nat.le_of_ble_eq_true rfl, Nat.le_of_ble_eq_true rfl⟩) xK xP xD xS [0, 1, 2, 3, 4] [5] 6 rfl (by decide) (Lc := [[(x0, .inr (6, [.ref na.1, .ref tra.1, .ref h.1, .ref k.1]))], wS G na ((n, o, kf), (lr, lc, L), (lc, rc, R), (lr, rc, Z), (b, ta, tb, th, tw, tt, tn, sm0, mt, rw, dn)), wS G tra v, wHf G h (p, u0, u1, u2, u3), wX G k (y, xf, xr, xo, xc, xw, xn, xg, xv, gg, (xm, xk, ff))]) rfl (by simp only [List.flatten_cons, List.flatten_nil, List.append_nil, List.append_assoc]) (fun u_175 => [[(x0, .inr (6, [.ref na.1, .ref tra.1, .ref h.1, .ref k.1]))], wS G na u_175.1, wS G tra v, wHf G (h.1, h.2.1, u_175.2.1, u_175.2.2.1, u_175.2.2.2.1, u_175.2.2.2.2.1) u_175.2.2.2.2.2, wX G k (y, xf, xr, xo, xc, xw, xn, xg, xv, gg, (xm, xk, ff)), wU G r (s, P, U, p, X, y, q0, q1, q2, q3, sp, re, B, wd, hg, ow)]) (fun u_175 => [[(x0, .inr (6, [.ref na.1, .ref tra.1, .ref h.1, .ref k.1]))], wS G na u_175.1, wS G tra v, wHf G (h.1, h.2.1, u_175.2.1, u_175.2.2.1, u_175.2.2.2.1, u_175.2.2.2.2.1) u_175.2.2.2.2.2, wX G k (y, xf, xr, xo, xc, xw, xn, xg, xv, gg, (xm, xk, ff))]) (fun _ => rfl) (fun _ => rfl) (fun _ => by simp only [List.flatten_cons, List.flatten_nil, List.append_nil, List.append_assoc]) (fun _ => rfl) 0 rfl rfl rfl rfl xL.1 rfl (Nat.le_of_ble_eq_true rfl) dL_law_175 ⟨Nat.le_of_ble_eq_true rfl, Nat.le_of_ble_eq_true rfl⟩ (fun r_175 u_175 H locs h_175 xP xD xS => ?_)
  have h_175 : PO r_175 u_175 (opShape n (xs (i + 1)) (xs (i + 2)) (xs (i + 3)) s pst p) := h_175
  refine lv_aload_n xE xB dL_law_178 rfl (lv_at xL 2 rfl) ?_
  refine lv_aload_n xE xB dL_law_179 rfl (lv_at xL 0 rfl) ?_
  refine lv_iload_n xE xB dL_law_180 rfl (lv_at xL 3 rfl) ?_
  refine lv_iconst (v := nI 1) xE xB dL_law_181 (by decide) ?_
  refine q_iadd xE xB dL_law_182 ?_
  refine q_sld xE xB hX hbl hbA xS (by omega) (by omega) dL_law_183 ?_
  refine lv_aload_n xE xB dL_law_184 rfl (lv_at xL 0 rfl) ?_
  refine lv_iload_n xE xB dL_law_185 rfl (lv_at xL 3 rfl) ?_
  refine lv_iconst (v := nI 2) xE xB dL_law_186 (by decide) ?_
  refine q_iadd xE xB dL_law_187 ?_
  refine q_sld xE xB hX hbl hbA xS (by omega) (by omega) dL_law_188 ?_
  refine lv_aload_n xE xB dL_law_189 rfl (lv_at xL 0 rfl) ?_
  refine lv_iload_n xE xB dL_law_190 rfl (lv_at xL 3 rfl) ?_
  refine lv_iconst (v := nI 3) xE xB dL_law_191 (by decide) ?_
  refine q_iadd xE xB dL_law_192 ?_
  refine q_sld xE xB hX hbl hbA xS (by omega) (by omega) dL_law_193 ?_
  refine q_VIL (As := [.int (xs (i + 1)), .int (xs (i + 2)), .int (xs (i + 3))]) (rest := [.int r_175]) ⟨xE, xB, xM, xO, xT⟩ (kX7_shape l G r s P U p X y q0 q1 q2 q3 sp re B wd hg ow n o lr lc rc b pst (xs (i + 1)) (xs (i + 2)) (xs (i + 3)) (by exact hR.D) (by exact hR.2.2.2.2.2.1) (by exact hh) (by exact hQ)) (cwV 3 xT gL_law_X7_shape rfl rfl rfl (by decide +kernel) ⟨Nat.le_of_ble_eq_true rfl, Nat.le_of_ble_eq_true rfl⟩) xK xP xD xS [5] [0, 1, 2, 3, 4] 6 rfl (by decide) (Lc := [wU G r (s, P, U, p, X, y, q0, q1, q2, q3, sp, re, B, wd, hg, ow)]) rfl (by simp only [List.flatten_cons, List.flatten_nil, List.append_nil, List.append_assoc]) (fun u_194 => [[(x0, .inr (6, [.ref na.1, .ref tra.1, .ref h.1, .ref k.1]))], wS G na u_175.1, wS G tra v, wHf G (h.1, h.2.1, u_175.2.1, u_175.2.2.1, u_175.2.2.2.1, u_175.2.2.2.2.1) u_175.2.2.2.2.2, wX G k (y, xf, xr, xo, xc, xw, xn, xg, xv, gg, (xm, xk, ff)), wU G r (u_194.1, u_194.2.1, U, u_194.2.2, X, y, q0, q1, q2, q3, sp, re, B, wd, hg, ow)]) (fun u_194 => [wU G r (u_194.1, u_194.2.1, U, u_194.2.2, X, y, q0, q1, q2, q3, sp, re, B, wd, hg, ow)]) (fun _ => rfl) (fun _ => rfl) (fun _ => by simp only [List.flatten_cons, List.flatten_nil, List.append_nil, List.append_assoc]) (fun _ => rfl) 0 rfl rfl rfl rfl xL.1 rfl (Nat.le_of_ble_eq_true rfl) dL_law_194 ⟨Nat.le_of_ble_eq_true rfl, Nat.le_of_ble_eq_true rfl⟩ (fun r_194 u_194 H locs h_194 xP xD xS => ?_)
  have h_194 : QO r_194 u_194 (opShape n (xs (i + 1)) (xs (i + 2)) (xs (i + 3)) s pst p) := h_194
  refine lv_icmp_eq (tgt := 742) xE xB dL_law_197 (by decide) (fun c_197 => ?_) (fun c_197 => by exact absurd (op_eq h_175 h_194) c_197)
  subst hAe
  exact hn9 (x0, na, tra, (h.1, h.2.1, u_175.2.1, u_175.2.2.1, u_175.2.2.2.1, u_175.2.2.2.2.1), k) r u_175.1 v u_175.2.2.2.2.2 (y, xf, xr, xo, xc, xw, xn, xg, xv, gg, (xm, xk, ff)) (u_194.1, u_194.2.1, U, u_194.2.2, X, y, q0, q1, q2, q3, sp, re, B, wd, hg, ow) (INV_op h_175 h_194 rfl rfl rfl hXc hXr) H locs xP xD xS ls (lv_sub xL [0, 1, 2, 3] rfl)
set_option maxHeartbeats 4000000 in
set_option maxRecDepth 100000 in
/-- case 2: left -/
theorem law_2 {p9 : Program} {l : Launch} {e9 : Env} {s9 : State} {m9 : MethodId} {b9 : List Frame} {t9 : Method} {c9 : Code} {bb LL : Nat} {xs : Nat → Int32} {G : wG} (hL : LL ≤ 2048) (C0 : lw_At p9 s9 m9 t9 c9 bb LL xs) (xK : KK G s9) (i : Nat) (hi : i + 4 ≤ LL) (hn9 : LAt p9 l e9 s9 m9 b9 t9 c9 bb G i 742) : LAt p9 l e9 s9 m9 b9 t9 c9 bb G i 202 := by
  obtain ⟨xE, xB, -, xM, xO0, hts, hX, hbl, -, -⟩ := C0
  have xO : s9.vm.findClass RL = some m9.cls := xO0
  have xT : ∀ w ∈ wsL_law, w.before #[Value.ref bb] s9 = true := fun w hw => hts w (wsL_law_in w hw)
  rintro ⟨x0, na, tra, h, k⟩ r ⟨⟨n, o, kf⟩, ⟨lr, lc, L⟩, ⟨rr, rc, R⟩, ⟨sr, sc, Z⟩, ⟨b, ta, tb, th, tw, tt, tn, sm0, mt, rw, dn⟩⟩ v ⟨hn, u0, u1, u2, u3⟩ ⟨xl, xf, xr, xo, xc, xw, xn, xg, xv, gg, ⟨xm, xk, ff⟩⟩ ⟨s, P, U, p, X, y, q0, q1, q2, q3, sp, re, B, wd, hg, ow⟩ ⟨pst, T, hR, hHD, hQ, hXc, hXr⟩ H locs xP xD xS ls xL
  have hR : RelS ((n, o, kf), (lr, lc, L), (rr, rc, R), (sr, sc, Z), (b, ta, tb, th, tw, tt, tn, sm0, mt, rw, dn)) s := hR
  obtain ⟨hd1, hd2, hd3⟩ := hR.2.2.2.1
  obtain ⟨hp9, hh, hH⟩ := id hHD
  obtain ⟨hy9, hy8, hgg⟩ := id hXc
  obtain rfl : lc = rr := Eq.symm hd1
  obtain rfl : lr = sr := Eq.symm hd2
  obtain rfl : rc = sc := Eq.symm hd3
  obtain rfl : p = hn := Eq.symm hp9
  obtain rfl : y = xl := Eq.symm hy9
  have hg9 : ∀ j, j < y → gg j = nI (T j) ∧ 32 ≤ T j ∧ T j ≤ 126 := hgg
  have hy8 : y ≤ 80 := hy8
  have hh : p ≤ 4 := hh
  have hH : HRel p u0 u1 u2 u3 pst := hH
  have hQ : PQ pst P p := hQ
  have hXr : RefX X T y := hXr
  obtain ⟨A, hAe⟩ : ∃ A : Nat → Prop, A = (fun q : Nat => s9.heap.size ≤ q) := ⟨_, rfl⟩
  have hbA : ¬ A bb := by rw [hAe]; exact Nat.not_le.mpr hbl
  rw [← hAe] at xD xS
  have xP : va_P G.1 vwCl (List.flatten [[(x0, .inr (6, [.ref na.1, .ref tra.1, .ref h.1, .ref k.1]))], wS G na ((n, o, kf), (lr, lc, L), (lc, rc, R), (lr, rc, Z), (b, ta, tb, th, tw, tt, tn, sm0, mt, rw, dn)), wS G tra v, wHf G h (p, u0, u1, u2, u3), wX G k (y, xf, xr, xo, xc, xw, xn, xg, xv, gg, (xm, xk, ff)), wU G r (s, P, U, p, X, y, q0, q1, q2, q3, sp, re, B, wd, hg, ow)]) H := xP
  have xD : va_D A (List.flatten [[(x0, .inr (6, [.ref na.1, .ref tra.1, .ref h.1, .ref k.1]))], wS G na ((n, o, kf), (lr, lc, L), (lc, rc, R), (lr, rc, Z), (b, ta, tb, th, tw, tt, tn, sm0, mt, rw, dn)), wS G tra v, wHf G h (p, u0, u1, u2, u3), wX G k (y, xf, xr, xo, xc, xw, xn, xg, xv, gg, (xm, xk, ff)), wU G r (s, P, U, p, X, y, q0, q1, q2, q3, sp, re, B, wd, hg, ow)]) := xD
  have xL : lv_has ls 4 [(0, .ref bb), (1, .ref x0), (2, .ref r.1), (3, .int (nI i))] := xL
  refine lv_aload_n xE xB dL_law_202 rfl (lv_at xL 1 rfl) ?_
  refine lv_aload_n xE xB dL_law_203 rfl (lv_at xL 0 rfl) ?_
  refine lv_iload_n xE xB dL_law_204 rfl (lv_at xL 3 rfl) ?_
  refine lv_iconst (v := nI 1) xE xB dL_law_205 (by decide) ?_
  refine q_iadd xE xB dL_law_206 ?_
  refine q_sld xE xB hX hbl hbA xS (by omega) (by omega) dL_law_207 ?_
  refine lv_aload_n xE xB dL_law_208 rfl (lv_at xL 0 rfl) ?_
  refine lv_iload_n xE xB dL_law_209 rfl (lv_at xL 3 rfl) ?_
  refine lv_iconst (v := nI 2) xE xB dL_law_210 (by decide) ?_
  refine q_iadd xE xB dL_law_211 ?_
  refine q_sld xE xB hX hbl hbA xS (by omega) (by omega) dL_law_212 ?_
  refine lv_aload_n xE xB dL_law_213 rfl (lv_at xL 0 rfl) ?_
  refine lv_iload_n xE xB dL_law_214 rfl (lv_at xL 3 rfl) ?_
  refine lv_iconst (v := nI 3) xE xB dL_law_215 (by decide) ?_
  refine q_iadd xE xB dL_law_216 ?_
  refine q_sld xE xB hX hbl hbA xS (by omega) (by omega) dL_law_217 ?_
  refine q_VIL (As := [.int (xs (i + 1)), .int (xs (i + 2)), .int (xs (i + 3))]) (rest := []) ⟨xE, xB, xM, xO, xT⟩ (kX6_left l G x0 na tra h k n o kf lr lc L lc rc R lr rc Z b ta tb th tw tt tn sm0 mt rw dn v p u0 u1 u2 u3 (y, xf, xr, xo, xc, xw, xn, xg, xv, gg, (xm, xk, ff)) s pst (xs (i + 1)) (xs (i + 2)) (xs (i + 3)) (by exact hR) (by exact hh) (by exact hH)) (cwV 3 xT gL_law_X6_left rfl rfl rfl (by decide +kernel) ⟨Nat.le_of_ble_eq_true rfl, Nat.le_of_ble_eq_true rfl⟩) xK xP xD xS [0, 1, 2, 3, 4] [5] 6 rfl (by decide) (Lc := [[(x0, .inr (6, [.ref na.1, .ref tra.1, .ref h.1, .ref k.1]))], wS G na ((n, o, kf), (lr, lc, L), (lc, rc, R), (lr, rc, Z), (b, ta, tb, th, tw, tt, tn, sm0, mt, rw, dn)), wS G tra v, wHf G h (p, u0, u1, u2, u3), wX G k (y, xf, xr, xo, xc, xw, xn, xg, xv, gg, (xm, xk, ff))]) rfl (by simp only [List.flatten_cons, List.flatten_nil, List.append_nil, List.append_assoc]) (fun u_218 => [[(x0, .inr (6, [.ref na.1, .ref tra.1, .ref h.1, .ref k.1]))], wS G na u_218.1, wS G tra v, wHf G (h.1, h.2.1, u_218.2.1, u_218.2.2.1, u_218.2.2.2.1, u_218.2.2.2.2.1) u_218.2.2.2.2.2, wX G k (y, xf, xr, xo, xc, xw, xn, xg, xv, gg, (xm, xk, ff)), wU G r (s, P, U, p, X, y, q0, q1, q2, q3, sp, re, B, wd, hg, ow)]) (fun u_218 => [[(x0, .inr (6, [.ref na.1, .ref tra.1, .ref h.1, .ref k.1]))], wS G na u_218.1, wS G tra v, wHf G (h.1, h.2.1, u_218.2.1, u_218.2.2.1, u_218.2.2.2.1, u_218.2.2.2.2.1) u_218.2.2.2.2.2, wX G k (y, xf, xr, xo, xc, xw, xn, xg, xv, gg, (xm, xk, ff))]) (fun _ => rfl) (fun _ => rfl) (fun _ => by simp only [List.flatten_cons, List.flatten_nil, List.append_nil, List.append_assoc]) (fun _ => rfl) 0 rfl rfl rfl rfl xL.1 rfl (Nat.le_of_ble_eq_true rfl) dL_law_218 ⟨Nat.le_of_ble_eq_true rfl, Nat.le_of_ble_eq_true rfl⟩ (fun r_218 u_218 H locs h_218 xP xD xS => ?_)
  have h_218 : PO r_218 u_218 (opSet 0 lr lc b (xs (i + 1)) (xs (i + 2)) (xs (i + 3)) s pst p) := h_218
  refine lv_aload_n xE xB dL_law_221 rfl (lv_at xL 2 rfl) ?_
  refine lv_aload_n xE xB dL_law_222 rfl (lv_at xL 0 rfl) ?_
  refine lv_iload_n xE xB dL_law_223 rfl (lv_at xL 3 rfl) ?_
  refine lv_iconst (v := nI 1) xE xB dL_law_224 (by decide) ?_
  refine q_iadd xE xB dL_law_225 ?_
  refine q_sld xE xB hX hbl hbA xS (by omega) (by omega) dL_law_226 ?_
  refine lv_aload_n xE xB dL_law_227 rfl (lv_at xL 0 rfl) ?_
  refine lv_iload_n xE xB dL_law_228 rfl (lv_at xL 3 rfl) ?_
  refine lv_iconst (v := nI 2) xE xB dL_law_229 (by decide) ?_
  refine q_iadd xE xB dL_law_230 ?_
  refine q_sld xE xB hX hbl hbA xS (by omega) (by omega) dL_law_231 ?_
  refine lv_aload_n xE xB dL_law_232 rfl (lv_at xL 0 rfl) ?_
  refine lv_iload_n xE xB dL_law_233 rfl (lv_at xL 3 rfl) ?_
  refine lv_iconst (v := nI 3) xE xB dL_law_234 (by decide) ?_
  refine q_iadd xE xB dL_law_235 ?_
  refine q_sld xE xB hX hbl hbA xS (by omega) (by omega) dL_law_236 ?_
  refine q_VIL (As := [.int (xs (i + 1)), .int (xs (i + 2)), .int (xs (i + 3))]) (rest := [.int r_218]) ⟨xE, xB, xM, xO, xT⟩ (kX7_left l G r s P U p X y q0 q1 q2 q3 sp re B wd hg ow n o lr lc rc b pst (xs (i + 1)) (xs (i + 2)) (xs (i + 3)) (by exact hR.D) (by exact hR.2.2.2.2.2.1) (by exact hh) (by exact hQ)) (cwV 3 xT gL_law_X7_left rfl rfl rfl (by decide +kernel) ⟨Nat.le_of_ble_eq_true rfl, Nat.le_of_ble_eq_true rfl⟩) xK xP xD xS [5] [0, 1, 2, 3, 4] 6 rfl (by decide) (Lc := [wU G r (s, P, U, p, X, y, q0, q1, q2, q3, sp, re, B, wd, hg, ow)]) rfl (by simp only [List.flatten_cons, List.flatten_nil, List.append_nil, List.append_assoc]) (fun u_237 => [[(x0, .inr (6, [.ref na.1, .ref tra.1, .ref h.1, .ref k.1]))], wS G na u_218.1, wS G tra v, wHf G (h.1, h.2.1, u_218.2.1, u_218.2.2.1, u_218.2.2.2.1, u_218.2.2.2.2.1) u_218.2.2.2.2.2, wX G k (y, xf, xr, xo, xc, xw, xn, xg, xv, gg, (xm, xk, ff)), wU G r (u_237.1, u_237.2.1, U, u_237.2.2, X, y, q0, q1, q2, q3, sp, re, B, wd, hg, ow)]) (fun u_237 => [wU G r (u_237.1, u_237.2.1, U, u_237.2.2, X, y, q0, q1, q2, q3, sp, re, B, wd, hg, ow)]) (fun _ => rfl) (fun _ => rfl) (fun _ => by simp only [List.flatten_cons, List.flatten_nil, List.append_nil, List.append_assoc]) (fun _ => rfl) 0 rfl rfl rfl rfl xL.1 rfl (Nat.le_of_ble_eq_true rfl) dL_law_237 ⟨Nat.le_of_ble_eq_true rfl, Nat.le_of_ble_eq_true rfl⟩ (fun r_237 u_237 H locs h_237 xP xD xS => ?_)
  have h_237 : QO r_237 u_237 (opSet 0 lr lc b (xs (i + 1)) (xs (i + 2)) (xs (i + 3)) s pst p) := h_237
  refine lv_icmp_eq (tgt := 742) xE xB dL_law_240 (by decide) (fun c_240 => ?_) (fun c_240 => by exact absurd (op_eq h_218 h_237) c_240)
  subst hAe
  exact hn9 (x0, na, tra, (h.1, h.2.1, u_218.2.1, u_218.2.2.1, u_218.2.2.2.1, u_218.2.2.2.2.1), k) r u_218.1 v u_218.2.2.2.2.2 (y, xf, xr, xo, xc, xw, xn, xg, xv, gg, (xm, xk, ff)) (u_237.1, u_237.2.1, U, u_237.2.2, X, y, q0, q1, q2, q3, sp, re, B, wd, hg, ow) (INV_op h_218 h_237 rfl rfl rfl hXc hXr) H locs xP xD xS ls (lv_sub xL [0, 1, 2, 3] rfl)
set_option maxHeartbeats 4000000 in
set_option maxRecDepth 100000 in
/-- case 3: right -/
theorem law_3 {p9 : Program} {l : Launch} {e9 : Env} {s9 : State} {m9 : MethodId} {b9 : List Frame} {t9 : Method} {c9 : Code} {bb LL : Nat} {xs : Nat → Int32} {G : wG} (hL : LL ≤ 2048) (C0 : lw_At p9 s9 m9 t9 c9 bb LL xs) (xK : KK G s9) (i : Nat) (hi : i + 4 ≤ LL) (hn9 : LAt p9 l e9 s9 m9 b9 t9 c9 bb G i 742) : LAt p9 l e9 s9 m9 b9 t9 c9 bb G i 245 := by
  obtain ⟨xE, xB, -, xM, xO0, hts, hX, hbl, -, -⟩ := C0
  have xO : s9.vm.findClass RL = some m9.cls := xO0
  have xT : ∀ w ∈ wsL_law, w.before #[Value.ref bb] s9 = true := fun w hw => hts w (wsL_law_in w hw)
  rintro ⟨x0, na, tra, h, k⟩ r ⟨⟨n, o, kf⟩, ⟨lr, lc, L⟩, ⟨rr, rc, R⟩, ⟨sr, sc, Z⟩, ⟨b, ta, tb, th, tw, tt, tn, sm0, mt, rw, dn⟩⟩ v ⟨hn, u0, u1, u2, u3⟩ ⟨xl, xf, xr, xo, xc, xw, xn, xg, xv, gg, ⟨xm, xk, ff⟩⟩ ⟨s, P, U, p, X, y, q0, q1, q2, q3, sp, re, B, wd, hg, ow⟩ ⟨pst, T, hR, hHD, hQ, hXc, hXr⟩ H locs xP xD xS ls xL
  have hR : RelS ((n, o, kf), (lr, lc, L), (rr, rc, R), (sr, sc, Z), (b, ta, tb, th, tw, tt, tn, sm0, mt, rw, dn)) s := hR
  obtain ⟨hd1, hd2, hd3⟩ := hR.2.2.2.1
  obtain ⟨hp9, hh, hH⟩ := id hHD
  obtain ⟨hy9, hy8, hgg⟩ := id hXc
  obtain rfl : lc = rr := Eq.symm hd1
  obtain rfl : lr = sr := Eq.symm hd2
  obtain rfl : rc = sc := Eq.symm hd3
  obtain rfl : p = hn := Eq.symm hp9
  obtain rfl : y = xl := Eq.symm hy9
  have hg9 : ∀ j, j < y → gg j = nI (T j) ∧ 32 ≤ T j ∧ T j ≤ 126 := hgg
  have hy8 : y ≤ 80 := hy8
  have hh : p ≤ 4 := hh
  have hH : HRel p u0 u1 u2 u3 pst := hH
  have hQ : PQ pst P p := hQ
  have hXr : RefX X T y := hXr
  obtain ⟨A, hAe⟩ : ∃ A : Nat → Prop, A = (fun q : Nat => s9.heap.size ≤ q) := ⟨_, rfl⟩
  have hbA : ¬ A bb := by rw [hAe]; exact Nat.not_le.mpr hbl
  rw [← hAe] at xD xS
  have xP : va_P G.1 vwCl (List.flatten [[(x0, .inr (6, [.ref na.1, .ref tra.1, .ref h.1, .ref k.1]))], wS G na ((n, o, kf), (lr, lc, L), (lc, rc, R), (lr, rc, Z), (b, ta, tb, th, tw, tt, tn, sm0, mt, rw, dn)), wS G tra v, wHf G h (p, u0, u1, u2, u3), wX G k (y, xf, xr, xo, xc, xw, xn, xg, xv, gg, (xm, xk, ff)), wU G r (s, P, U, p, X, y, q0, q1, q2, q3, sp, re, B, wd, hg, ow)]) H := xP
  have xD : va_D A (List.flatten [[(x0, .inr (6, [.ref na.1, .ref tra.1, .ref h.1, .ref k.1]))], wS G na ((n, o, kf), (lr, lc, L), (lc, rc, R), (lr, rc, Z), (b, ta, tb, th, tw, tt, tn, sm0, mt, rw, dn)), wS G tra v, wHf G h (p, u0, u1, u2, u3), wX G k (y, xf, xr, xo, xc, xw, xn, xg, xv, gg, (xm, xk, ff)), wU G r (s, P, U, p, X, y, q0, q1, q2, q3, sp, re, B, wd, hg, ow)]) := xD
  have xL : lv_has ls 4 [(0, .ref bb), (1, .ref x0), (2, .ref r.1), (3, .int (nI i))] := xL
  refine lv_aload_n xE xB dL_law_245 rfl (lv_at xL 1 rfl) ?_
  refine lv_aload_n xE xB dL_law_246 rfl (lv_at xL 0 rfl) ?_
  refine lv_iload_n xE xB dL_law_247 rfl (lv_at xL 3 rfl) ?_
  refine lv_iconst (v := nI 1) xE xB dL_law_248 (by decide) ?_
  refine q_iadd xE xB dL_law_249 ?_
  refine q_sld xE xB hX hbl hbA xS (by omega) (by omega) dL_law_250 ?_
  refine lv_aload_n xE xB dL_law_251 rfl (lv_at xL 0 rfl) ?_
  refine lv_iload_n xE xB dL_law_252 rfl (lv_at xL 3 rfl) ?_
  refine lv_iconst (v := nI 2) xE xB dL_law_253 (by decide) ?_
  refine q_iadd xE xB dL_law_254 ?_
  refine q_sld xE xB hX hbl hbA xS (by omega) (by omega) dL_law_255 ?_
  refine lv_aload_n xE xB dL_law_256 rfl (lv_at xL 0 rfl) ?_
  refine lv_iload_n xE xB dL_law_257 rfl (lv_at xL 3 rfl) ?_
  refine lv_iconst (v := nI 3) xE xB dL_law_258 (by decide) ?_
  refine q_iadd xE xB dL_law_259 ?_
  refine q_sld xE xB hX hbl hbA xS (by omega) (by omega) dL_law_260 ?_
  refine q_VIL (As := [.int (xs (i + 1)), .int (xs (i + 2)), .int (xs (i + 3))]) (rest := []) ⟨xE, xB, xM, xO, xT⟩ (kX6_right l G x0 na tra h k n o kf lr lc L lc rc R lr rc Z b ta tb th tw tt tn sm0 mt rw dn v p u0 u1 u2 u3 (y, xf, xr, xo, xc, xw, xn, xg, xv, gg, (xm, xk, ff)) s pst (xs (i + 1)) (xs (i + 2)) (xs (i + 3)) (by exact hR) (by exact hh) (by exact hH)) (cwV 3 xT gL_law_X6_right rfl rfl rfl (by decide +kernel) ⟨Nat.le_of_ble_eq_true rfl, Nat.le_of_ble_eq_true rfl⟩) xK xP xD xS [0, 1, 2, 3, 4] [5] 6 rfl (by decide) (Lc := [[(x0, .inr (6, [.ref na.1, .ref tra.1, .ref h.1, .ref k.1]))], wS G na ((n, o, kf), (lr, lc, L), (lc, rc, R), (lr, rc, Z), (b, ta, tb, th, tw, tt, tn, sm0, mt, rw, dn)), wS G tra v, wHf G h (p, u0, u1, u2, u3), wX G k (y, xf, xr, xo, xc, xw, xn, xg, xv, gg, (xm, xk, ff))]) rfl (by simp only [List.flatten_cons, List.flatten_nil, List.append_nil, List.append_assoc]) (fun u_261 => [[(x0, .inr (6, [.ref na.1, .ref tra.1, .ref h.1, .ref k.1]))], wS G na u_261.1, wS G tra v, wHf G (h.1, h.2.1, u_261.2.1, u_261.2.2.1, u_261.2.2.2.1, u_261.2.2.2.2.1) u_261.2.2.2.2.2, wX G k (y, xf, xr, xo, xc, xw, xn, xg, xv, gg, (xm, xk, ff)), wU G r (s, P, U, p, X, y, q0, q1, q2, q3, sp, re, B, wd, hg, ow)]) (fun u_261 => [[(x0, .inr (6, [.ref na.1, .ref tra.1, .ref h.1, .ref k.1]))], wS G na u_261.1, wS G tra v, wHf G (h.1, h.2.1, u_261.2.1, u_261.2.2.1, u_261.2.2.2.1, u_261.2.2.2.2.1) u_261.2.2.2.2.2, wX G k (y, xf, xr, xo, xc, xw, xn, xg, xv, gg, (xm, xk, ff))]) (fun _ => rfl) (fun _ => rfl) (fun _ => by simp only [List.flatten_cons, List.flatten_nil, List.append_nil, List.append_assoc]) (fun _ => rfl) 0 rfl rfl rfl rfl xL.1 rfl (Nat.le_of_ble_eq_true rfl) dL_law_261 ⟨Nat.le_of_ble_eq_true rfl, Nat.le_of_ble_eq_true rfl⟩ (fun r_261 u_261 H locs h_261 xP xD xS => ?_)
  have h_261 : PO r_261 u_261 (opSet 1 lc rc b (xs (i + 1)) (xs (i + 2)) (xs (i + 3)) s pst p) := h_261
  refine lv_aload_n xE xB dL_law_264 rfl (lv_at xL 2 rfl) ?_
  refine lv_aload_n xE xB dL_law_265 rfl (lv_at xL 0 rfl) ?_
  refine lv_iload_n xE xB dL_law_266 rfl (lv_at xL 3 rfl) ?_
  refine lv_iconst (v := nI 1) xE xB dL_law_267 (by decide) ?_
  refine q_iadd xE xB dL_law_268 ?_
  refine q_sld xE xB hX hbl hbA xS (by omega) (by omega) dL_law_269 ?_
  refine lv_aload_n xE xB dL_law_270 rfl (lv_at xL 0 rfl) ?_
  refine lv_iload_n xE xB dL_law_271 rfl (lv_at xL 3 rfl) ?_
  refine lv_iconst (v := nI 2) xE xB dL_law_272 (by decide) ?_
  refine q_iadd xE xB dL_law_273 ?_
  refine q_sld xE xB hX hbl hbA xS (by omega) (by omega) dL_law_274 ?_
  refine lv_aload_n xE xB dL_law_275 rfl (lv_at xL 0 rfl) ?_
  refine lv_iload_n xE xB dL_law_276 rfl (lv_at xL 3 rfl) ?_
  refine lv_iconst (v := nI 3) xE xB dL_law_277 (by decide) ?_
  refine q_iadd xE xB dL_law_278 ?_
  refine q_sld xE xB hX hbl hbA xS (by omega) (by omega) dL_law_279 ?_
  refine q_VIL (As := [.int (xs (i + 1)), .int (xs (i + 2)), .int (xs (i + 3))]) (rest := [.int r_261]) ⟨xE, xB, xM, xO, xT⟩ (kX7_right l G r s P U p X y q0 q1 q2 q3 sp re B wd hg ow n o lr lc rc b pst (xs (i + 1)) (xs (i + 2)) (xs (i + 3)) (by exact hR.D) (by exact hR.2.2.2.2.2.1) (by exact hh) (by exact hQ)) (cwV 3 xT gL_law_X7_right rfl rfl rfl (by decide +kernel) ⟨Nat.le_of_ble_eq_true rfl, Nat.le_of_ble_eq_true rfl⟩) xK xP xD xS [5] [0, 1, 2, 3, 4] 6 rfl (by decide) (Lc := [wU G r (s, P, U, p, X, y, q0, q1, q2, q3, sp, re, B, wd, hg, ow)]) rfl (by simp only [List.flatten_cons, List.flatten_nil, List.append_nil, List.append_assoc]) (fun u_280 => [[(x0, .inr (6, [.ref na.1, .ref tra.1, .ref h.1, .ref k.1]))], wS G na u_261.1, wS G tra v, wHf G (h.1, h.2.1, u_261.2.1, u_261.2.2.1, u_261.2.2.2.1, u_261.2.2.2.2.1) u_261.2.2.2.2.2, wX G k (y, xf, xr, xo, xc, xw, xn, xg, xv, gg, (xm, xk, ff)), wU G r (u_280.1, u_280.2.1, U, u_280.2.2, X, y, q0, q1, q2, q3, sp, re, B, wd, hg, ow)]) (fun u_280 => [wU G r (u_280.1, u_280.2.1, U, u_280.2.2, X, y, q0, q1, q2, q3, sp, re, B, wd, hg, ow)]) (fun _ => rfl) (fun _ => rfl) (fun _ => by simp only [List.flatten_cons, List.flatten_nil, List.append_nil, List.append_assoc]) (fun _ => rfl) 0 rfl rfl rfl rfl xL.1 rfl (Nat.le_of_ble_eq_true rfl) dL_law_280 ⟨Nat.le_of_ble_eq_true rfl, Nat.le_of_ble_eq_true rfl⟩ (fun r_280 u_280 H locs h_280 xP xD xS => ?_)
  have h_280 : QO r_280 u_280 (opSet 1 lc rc b (xs (i + 1)) (xs (i + 2)) (xs (i + 3)) s pst p) := h_280
  refine lv_icmp_eq (tgt := 742) xE xB dL_law_283 (by decide) (fun c_283 => ?_) (fun c_283 => by exact absurd (op_eq h_261 h_280) c_283)
  subst hAe
  exact hn9 (x0, na, tra, (h.1, h.2.1, u_261.2.1, u_261.2.2.1, u_261.2.2.2.1, u_261.2.2.2.2.1), k) r u_261.1 v u_261.2.2.2.2.2 (y, xf, xr, xo, xc, xw, xn, xg, xv, gg, (xm, xk, ff)) (u_280.1, u_280.2.1, U, u_280.2.2, X, y, q0, q1, q2, q3, sp, re, B, wd, hg, ow) (INV_op h_261 h_280 rfl rfl rfl hXc hXr) H locs xP xD xS ls (lv_sub xL [0, 1, 2, 3] rfl)
set_option maxHeartbeats 4000000 in
set_option maxRecDepth 100000 in
/-- case 4: fault -/
theorem law_4 {p9 : Program} {l : Launch} {e9 : Env} {s9 : State} {m9 : MethodId} {b9 : List Frame} {t9 : Method} {c9 : Code} {bb LL : Nat} {xs : Nat → Int32} {G : wG} (hL : LL ≤ 2048) (C0 : lw_At p9 s9 m9 t9 c9 bb LL xs) (xK : KK G s9) (i : Nat) (hi : i + 4 ≤ LL) (hn9 : LAt p9 l e9 s9 m9 b9 t9 c9 bb G i 742) : LAt p9 l e9 s9 m9 b9 t9 c9 bb G i 288 := by
  obtain ⟨xE, xB, -, xM, xO0, hts, hX, hbl, -, -⟩ := C0
  have xO : s9.vm.findClass RL = some m9.cls := xO0
  have xT : ∀ w ∈ wsL_law, w.before #[Value.ref bb] s9 = true := fun w hw => hts w (wsL_law_in w hw)
  rintro ⟨x0, na, tra, h, k⟩ r ⟨⟨n, o, kf⟩, ⟨lr, lc, L⟩, ⟨rr, rc, R⟩, ⟨sr, sc, Z⟩, ⟨b, ta, tb, th, tw, tt, tn, sm0, mt, rw, dn⟩⟩ v ⟨hn, u0, u1, u2, u3⟩ ⟨xl, xf, xr, xo, xc, xw, xn, xg, xv, gg, ⟨xm, xk, ff⟩⟩ ⟨s, P, U, p, X, y, q0, q1, q2, q3, sp, re, B, wd, hg, ow⟩ ⟨pst, T, hR, hHD, hQ, hXc, hXr⟩ H locs xP xD xS ls xL
  have hR : RelS ((n, o, kf), (lr, lc, L), (rr, rc, R), (sr, sc, Z), (b, ta, tb, th, tw, tt, tn, sm0, mt, rw, dn)) s := hR
  obtain ⟨hd1, hd2, hd3⟩ := hR.2.2.2.1
  obtain ⟨hp9, hh, hH⟩ := id hHD
  obtain ⟨hy9, hy8, hgg⟩ := id hXc
  obtain rfl : lc = rr := Eq.symm hd1
  obtain rfl : lr = sr := Eq.symm hd2
  obtain rfl : rc = sc := Eq.symm hd3
  obtain rfl : p = hn := Eq.symm hp9
  obtain rfl : y = xl := Eq.symm hy9
  have hg9 : ∀ j, j < y → gg j = nI (T j) ∧ 32 ≤ T j ∧ T j ≤ 126 := hgg
  have hy8 : y ≤ 80 := hy8
  have hh : p ≤ 4 := hh
  have hH : HRel p u0 u1 u2 u3 pst := hH
  have hQ : PQ pst P p := hQ
  have hXr : RefX X T y := hXr
  obtain ⟨A, hAe⟩ : ∃ A : Nat → Prop, A = (fun q : Nat => s9.heap.size ≤ q) := ⟨_, rfl⟩
  have hbA : ¬ A bb := by rw [hAe]; exact Nat.not_le.mpr hbl
  rw [← hAe] at xD xS
  have xP : va_P G.1 vwCl (List.flatten [[(x0, .inr (6, [.ref na.1, .ref tra.1, .ref h.1, .ref k.1]))], wS G na ((n, o, kf), (lr, lc, L), (lc, rc, R), (lr, rc, Z), (b, ta, tb, th, tw, tt, tn, sm0, mt, rw, dn)), wS G tra v, wHf G h (p, u0, u1, u2, u3), wX G k (y, xf, xr, xo, xc, xw, xn, xg, xv, gg, (xm, xk, ff)), wU G r (s, P, U, p, X, y, q0, q1, q2, q3, sp, re, B, wd, hg, ow)]) H := xP
  have xD : va_D A (List.flatten [[(x0, .inr (6, [.ref na.1, .ref tra.1, .ref h.1, .ref k.1]))], wS G na ((n, o, kf), (lr, lc, L), (lc, rc, R), (lr, rc, Z), (b, ta, tb, th, tw, tt, tn, sm0, mt, rw, dn)), wS G tra v, wHf G h (p, u0, u1, u2, u3), wX G k (y, xf, xr, xo, xc, xw, xn, xg, xv, gg, (xm, xk, ff)), wU G r (s, P, U, p, X, y, q0, q1, q2, q3, sp, re, B, wd, hg, ow)]) := xD
  have xL : lv_has ls 4 [(0, .ref bb), (1, .ref x0), (2, .ref r.1), (3, .int (nI i))] := xL
  refine lv_aload_n xE xB dL_law_288 rfl (lv_at xL 1 rfl) ?_
  refine lv_aload_n xE xB dL_law_289 rfl (lv_at xL 0 rfl) ?_
  refine lv_iload_n xE xB dL_law_290 rfl (lv_at xL 3 rfl) ?_
  refine lv_iconst (v := nI 1) xE xB dL_law_291 (by decide) ?_
  refine q_iadd xE xB dL_law_292 ?_
  refine q_sld xE xB hX hbl hbA xS (by omega) (by omega) dL_law_293 ?_
  refine lv_aload_n xE xB dL_law_294 rfl (lv_at xL 0 rfl) ?_
  refine lv_iload_n xE xB dL_law_295 rfl (lv_at xL 3 rfl) ?_
  refine lv_iconst (v := nI 2) xE xB dL_law_296 (by decide) ?_
  refine q_iadd xE xB dL_law_297 ?_
  refine q_sld xE xB hX hbl hbA xS (by omega) (by omega) dL_law_298 ?_
  refine lv_aload_n xE xB dL_law_299 rfl (lv_at xL 0 rfl) ?_
  refine lv_iload_n xE xB dL_law_300 rfl (lv_at xL 3 rfl) ?_
  refine lv_iconst (v := nI 3) xE xB dL_law_301 (by decide) ?_
  refine q_iadd xE xB dL_law_302 ?_
  refine q_sld xE xB hX hbl hbA xS (by omega) (by omega) dL_law_303 ?_
  refine q_VIL (As := [.int (xs (i + 1)), .int (xs (i + 2)), .int (xs (i + 3))]) (rest := []) ⟨xE, xB, xM, xO, xT⟩ (kX6_fault l G x0 na tra h k n o kf lr lc L lc rc R lr rc Z b ta tb th tw tt tn sm0 mt rw dn v p u0 u1 u2 u3 (y, xf, xr, xo, xc, xw, xn, xg, xv, gg, (xm, xk, ff)) s pst (xs (i + 1)) (xs (i + 2)) (xs (i + 3)) (by exact hR) (by exact hh) (by exact hH)) (cwV 3 xT gL_law_X6_fault rfl rfl rfl (by decide +kernel) ⟨Nat.le_of_ble_eq_true rfl, Nat.le_of_ble_eq_true rfl⟩) xK xP xD xS [0, 1, 2, 3, 4] [5] 6 rfl (by decide) (Lc := [[(x0, .inr (6, [.ref na.1, .ref tra.1, .ref h.1, .ref k.1]))], wS G na ((n, o, kf), (lr, lc, L), (lc, rc, R), (lr, rc, Z), (b, ta, tb, th, tw, tt, tn, sm0, mt, rw, dn)), wS G tra v, wHf G h (p, u0, u1, u2, u3), wX G k (y, xf, xr, xo, xc, xw, xn, xg, xv, gg, (xm, xk, ff))]) rfl (by simp only [List.flatten_cons, List.flatten_nil, List.append_nil, List.append_assoc]) (fun u_304 => [[(x0, .inr (6, [.ref na.1, .ref tra.1, .ref h.1, .ref k.1]))], wS G na u_304.1, wS G tra v, wHf G (h.1, h.2.1, u_304.2.1, u_304.2.2.1, u_304.2.2.2.1, u_304.2.2.2.2.1) u_304.2.2.2.2.2, wX G k (y, xf, xr, xo, xc, xw, xn, xg, xv, gg, (xm, xk, ff)), wU G r (s, P, U, p, X, y, q0, q1, q2, q3, sp, re, B, wd, hg, ow)]) (fun u_304 => [[(x0, .inr (6, [.ref na.1, .ref tra.1, .ref h.1, .ref k.1]))], wS G na u_304.1, wS G tra v, wHf G (h.1, h.2.1, u_304.2.1, u_304.2.2.1, u_304.2.2.2.1, u_304.2.2.2.2.1) u_304.2.2.2.2.2, wX G k (y, xf, xr, xo, xc, xw, xn, xg, xv, gg, (xm, xk, ff))]) (fun _ => rfl) (fun _ => rfl) (fun _ => by simp only [List.flatten_cons, List.flatten_nil, List.append_nil, List.append_assoc]) (fun _ => rfl) 0 rfl rfl rfl rfl xL.1 rfl (Nat.le_of_ble_eq_true rfl) dL_law_304 ⟨Nat.le_of_ble_eq_true rfl, Nat.le_of_ble_eq_true rfl⟩ (fun r_304 u_304 H locs h_304 xP xD xS => ?_)
  have h_304 : PO r_304 u_304 (opFault n b (xs (i + 1)) (xs (i + 2)) (xs (i + 3)) s pst p) := h_304
  refine lv_aload_n xE xB dL_law_307 rfl (lv_at xL 2 rfl) ?_
  refine lv_aload_n xE xB dL_law_308 rfl (lv_at xL 0 rfl) ?_
  refine lv_iload_n xE xB dL_law_309 rfl (lv_at xL 3 rfl) ?_
  refine lv_iconst (v := nI 1) xE xB dL_law_310 (by decide) ?_
  refine q_iadd xE xB dL_law_311 ?_
  refine q_sld xE xB hX hbl hbA xS (by omega) (by omega) dL_law_312 ?_
  refine lv_aload_n xE xB dL_law_313 rfl (lv_at xL 0 rfl) ?_
  refine lv_iload_n xE xB dL_law_314 rfl (lv_at xL 3 rfl) ?_
  refine lv_iconst (v := nI 2) xE xB dL_law_315 (by decide) ?_
  refine q_iadd xE xB dL_law_316 ?_
  refine q_sld xE xB hX hbl hbA xS (by omega) (by omega) dL_law_317 ?_
  refine lv_aload_n xE xB dL_law_318 rfl (lv_at xL 0 rfl) ?_
  refine lv_iload_n xE xB dL_law_319 rfl (lv_at xL 3 rfl) ?_
  refine lv_iconst (v := nI 3) xE xB dL_law_320 (by decide) ?_
  refine q_iadd xE xB dL_law_321 ?_
  refine q_sld xE xB hX hbl hbA xS (by omega) (by omega) dL_law_322 ?_
  refine q_VIL (As := [.int (xs (i + 1)), .int (xs (i + 2)), .int (xs (i + 3))]) (rest := [.int r_304]) ⟨xE, xB, xM, xO, xT⟩ (kX7_fault l G r s P U p X y q0 q1 q2 q3 sp re B wd hg ow n o lr lc rc b pst (xs (i + 1)) (xs (i + 2)) (xs (i + 3)) (by exact hR.D) (by exact hR.2.2.2.2.2.1) (by exact hh) (by exact hQ)) (cwV 3 xT gL_law_X7_fault rfl rfl rfl (by decide +kernel) ⟨Nat.le_of_ble_eq_true rfl, Nat.le_of_ble_eq_true rfl⟩) xK xP xD xS [5] [0, 1, 2, 3, 4] 6 rfl (by decide) (Lc := [wU G r (s, P, U, p, X, y, q0, q1, q2, q3, sp, re, B, wd, hg, ow)]) rfl (by simp only [List.flatten_cons, List.flatten_nil, List.append_nil, List.append_assoc]) (fun u_323 => [[(x0, .inr (6, [.ref na.1, .ref tra.1, .ref h.1, .ref k.1]))], wS G na u_304.1, wS G tra v, wHf G (h.1, h.2.1, u_304.2.1, u_304.2.2.1, u_304.2.2.2.1, u_304.2.2.2.2.1) u_304.2.2.2.2.2, wX G k (y, xf, xr, xo, xc, xw, xn, xg, xv, gg, (xm, xk, ff)), wU G r (u_323.1, u_323.2.1, U, u_323.2.2, X, y, q0, q1, q2, q3, sp, re, B, wd, hg, ow)]) (fun u_323 => [wU G r (u_323.1, u_323.2.1, U, u_323.2.2, X, y, q0, q1, q2, q3, sp, re, B, wd, hg, ow)]) (fun _ => rfl) (fun _ => rfl) (fun _ => by simp only [List.flatten_cons, List.flatten_nil, List.append_nil, List.append_assoc]) (fun _ => rfl) 0 rfl rfl rfl rfl xL.1 rfl (Nat.le_of_ble_eq_true rfl) dL_law_323 ⟨Nat.le_of_ble_eq_true rfl, Nat.le_of_ble_eq_true rfl⟩ (fun r_323 u_323 H locs h_323 xP xD xS => ?_)
  have h_323 : QO r_323 u_323 (opFault n b (xs (i + 1)) (xs (i + 2)) (xs (i + 3)) s pst p) := h_323
  refine lv_icmp_eq (tgt := 742) xE xB dL_law_326 (by decide) (fun c_326 => ?_) (fun c_326 => by exact absurd (op_eq h_304 h_323) c_326)
  subst hAe
  exact hn9 (x0, na, tra, (h.1, h.2.1, u_304.2.1, u_304.2.2.1, u_304.2.2.2.1, u_304.2.2.2.2.1), k) r u_304.1 v u_304.2.2.2.2.2 (y, xf, xr, xo, xc, xw, xn, xg, xv, gg, (xm, xk, ff)) (u_323.1, u_323.2.1, U, u_323.2.2, X, y, q0, q1, q2, q3, sp, re, B, wd, hg, ow) (INV_op h_304 h_323 rfl rfl rfl hXc hXr) H locs xP xD xS ls (lv_sub xL [0, 1, 2, 3] rfl)
set_option maxHeartbeats 4000000 in
set_option maxRecDepth 100000 in
/-- case 5: leave -/
theorem law_5 {p9 : Program} {l : Launch} {e9 : Env} {s9 : State} {m9 : MethodId} {b9 : List Frame} {t9 : Method} {c9 : Code} {bb LL : Nat} {xs : Nat → Int32} {G : wG} (hL : LL ≤ 2048) (C0 : lw_At p9 s9 m9 t9 c9 bb LL xs) (xK : KK G s9) (i : Nat) (hi : i + 4 ≤ LL) (hn9 : LAt p9 l e9 s9 m9 b9 t9 c9 bb G i 742) : LAt p9 l e9 s9 m9 b9 t9 c9 bb G i 331 := by
  obtain ⟨xE, xB, -, xM, xO0, hts, hX, hbl, -, -⟩ := C0
  have xO : s9.vm.findClass RL = some m9.cls := xO0
  have xT : ∀ w ∈ wsL_law, w.before #[Value.ref bb] s9 = true := fun w hw => hts w (wsL_law_in w hw)
  rintro ⟨x0, na, tra, h, k⟩ r ⟨⟨n, o, kf⟩, ⟨lr, lc, L⟩, ⟨rr, rc, R⟩, ⟨sr, sc, Z⟩, ⟨b, ta, tb, th, tw, tt, tn, sm0, mt, rw, dn⟩⟩ v ⟨hn, u0, u1, u2, u3⟩ ⟨xl, xf, xr, xo, xc, xw, xn, xg, xv, gg, ⟨xm, xk, ff⟩⟩ ⟨s, P, U, p, X, y, q0, q1, q2, q3, sp, re, B, wd, hg, ow⟩ ⟨pst, T, hR, hHD, hQ, hXc, hXr⟩ H locs xP xD xS ls xL
  have hR : RelS ((n, o, kf), (lr, lc, L), (rr, rc, R), (sr, sc, Z), (b, ta, tb, th, tw, tt, tn, sm0, mt, rw, dn)) s := hR
  obtain ⟨hd1, hd2, hd3⟩ := hR.2.2.2.1
  obtain ⟨hp9, hh, hH⟩ := id hHD
  obtain ⟨hy9, hy8, hgg⟩ := id hXc
  obtain rfl : lc = rr := Eq.symm hd1
  obtain rfl : lr = sr := Eq.symm hd2
  obtain rfl : rc = sc := Eq.symm hd3
  obtain rfl : p = hn := Eq.symm hp9
  obtain rfl : y = xl := Eq.symm hy9
  have hg9 : ∀ j, j < y → gg j = nI (T j) ∧ 32 ≤ T j ∧ T j ≤ 126 := hgg
  have hy8 : y ≤ 80 := hy8
  have hh : p ≤ 4 := hh
  have hH : HRel p u0 u1 u2 u3 pst := hH
  have hQ : PQ pst P p := hQ
  have hXr : RefX X T y := hXr
  obtain ⟨A, hAe⟩ : ∃ A : Nat → Prop, A = (fun q : Nat => s9.heap.size ≤ q) := ⟨_, rfl⟩
  have hbA : ¬ A bb := by rw [hAe]; exact Nat.not_le.mpr hbl
  rw [← hAe] at xD xS
  have xP : va_P G.1 vwCl (List.flatten [[(x0, .inr (6, [.ref na.1, .ref tra.1, .ref h.1, .ref k.1]))], wS G na ((n, o, kf), (lr, lc, L), (lc, rc, R), (lr, rc, Z), (b, ta, tb, th, tw, tt, tn, sm0, mt, rw, dn)), wS G tra v, wHf G h (p, u0, u1, u2, u3), wX G k (y, xf, xr, xo, xc, xw, xn, xg, xv, gg, (xm, xk, ff)), wU G r (s, P, U, p, X, y, q0, q1, q2, q3, sp, re, B, wd, hg, ow)]) H := xP
  have xD : va_D A (List.flatten [[(x0, .inr (6, [.ref na.1, .ref tra.1, .ref h.1, .ref k.1]))], wS G na ((n, o, kf), (lr, lc, L), (lc, rc, R), (lr, rc, Z), (b, ta, tb, th, tw, tt, tn, sm0, mt, rw, dn)), wS G tra v, wHf G h (p, u0, u1, u2, u3), wX G k (y, xf, xr, xo, xc, xw, xn, xg, xv, gg, (xm, xk, ff)), wU G r (s, P, U, p, X, y, q0, q1, q2, q3, sp, re, B, wd, hg, ow)]) := xD
  have xL : lv_has ls 4 [(0, .ref bb), (1, .ref x0), (2, .ref r.1), (3, .int (nI i))] := xL
  refine lv_aload_n xE xB dL_law_331 rfl (lv_at xL 1 rfl) ?_
  refine lv_aload_n xE xB dL_law_332 rfl (lv_at xL 0 rfl) ?_
  refine lv_iload_n xE xB dL_law_333 rfl (lv_at xL 3 rfl) ?_
  refine lv_iconst (v := nI 1) xE xB dL_law_334 (by decide) ?_
  refine q_iadd xE xB dL_law_335 ?_
  refine q_sld xE xB hX hbl hbA xS (by omega) (by omega) dL_law_336 ?_
  refine q_VIL (As := [.int (xs (i + 1))]) (rest := []) ⟨xE, xB, xM, xO, xT⟩ (kX6_leave l G x0 na tra h k n o kf lr lc L lc rc R lr rc Z b ta tb th tw tt tn sm0 mt rw dn v p u0 u1 u2 u3 (y, xf, xr, xo, xc, xw, xn, xg, xv, gg, (xm, xk, ff)) s pst (xs (i + 1)) (by exact hR) (by exact hh) (by exact hH)) (cwV 1 xT gL_law_X6_leave rfl rfl rfl (by decide +kernel) ⟨Nat.le_of_ble_eq_true rfl, Nat.le_of_ble_eq_true rfl⟩) xK xP xD xS [0, 1, 2, 3, 4] [5] 6 rfl (by decide) (Lc := [[(x0, .inr (6, [.ref na.1, .ref tra.1, .ref h.1, .ref k.1]))], wS G na ((n, o, kf), (lr, lc, L), (lc, rc, R), (lr, rc, Z), (b, ta, tb, th, tw, tt, tn, sm0, mt, rw, dn)), wS G tra v, wHf G h (p, u0, u1, u2, u3), wX G k (y, xf, xr, xo, xc, xw, xn, xg, xv, gg, (xm, xk, ff))]) rfl (by simp only [List.flatten_cons, List.flatten_nil, List.append_nil, List.append_assoc]) (fun u_337 => [[(x0, .inr (6, [.ref na.1, .ref tra.1, .ref h.1, .ref k.1]))], wS G na u_337.1, wS G tra v, wHf G (h.1, h.2.1, u_337.2.1, u_337.2.2.1, u_337.2.2.2.1, u_337.2.2.2.2.1) u_337.2.2.2.2.2, wX G k (y, xf, xr, xo, xc, xw, xn, xg, xv, gg, (xm, xk, ff)), wU G r (s, P, U, p, X, y, q0, q1, q2, q3, sp, re, B, wd, hg, ow)]) (fun u_337 => [[(x0, .inr (6, [.ref na.1, .ref tra.1, .ref h.1, .ref k.1]))], wS G na u_337.1, wS G tra v, wHf G (h.1, h.2.1, u_337.2.1, u_337.2.2.1, u_337.2.2.2.1, u_337.2.2.2.2.1) u_337.2.2.2.2.2, wX G k (y, xf, xr, xo, xc, xw, xn, xg, xv, gg, (xm, xk, ff))]) (fun _ => rfl) (fun _ => rfl) (fun _ => by simp only [List.flatten_cons, List.flatten_nil, List.append_nil, List.append_assoc]) (fun _ => rfl) 0 rfl rfl rfl rfl xL.1 rfl (Nat.le_of_ble_eq_true rfl) dL_law_337 ⟨Nat.le_of_ble_eq_true rfl, Nat.le_of_ble_eq_true rfl⟩ (fun r_337 u_337 H locs h_337 xP xD xS => ?_)
  have h_337 : PO r_337 u_337 (opLeave n o b (xs (i + 1)) s pst p) := h_337
  refine lv_aload_n xE xB dL_law_340 rfl (lv_at xL 2 rfl) ?_
  refine lv_aload_n xE xB dL_law_341 rfl (lv_at xL 0 rfl) ?_
  refine lv_iload_n xE xB dL_law_342 rfl (lv_at xL 3 rfl) ?_
  refine lv_iconst (v := nI 1) xE xB dL_law_343 (by decide) ?_
  refine q_iadd xE xB dL_law_344 ?_
  refine q_sld xE xB hX hbl hbA xS (by omega) (by omega) dL_law_345 ?_
  refine q_VIL (As := [.int (xs (i + 1))]) (rest := [.int r_337]) ⟨xE, xB, xM, xO, xT⟩ (kX7_leave l G r s P U p X y q0 q1 q2 q3 sp re B wd hg ow n o lr lc rc b pst (xs (i + 1)) (by exact hR.D) (by exact hR.2.2.2.2.2.1) (by exact hh) (by exact hQ)) (cwV 1 xT gL_law_X7_leave rfl rfl rfl (by decide +kernel) ⟨Nat.le_of_ble_eq_true rfl, Nat.le_of_ble_eq_true rfl⟩) xK xP xD xS [5] [0, 1, 2, 3, 4] 6 rfl (by decide) (Lc := [wU G r (s, P, U, p, X, y, q0, q1, q2, q3, sp, re, B, wd, hg, ow)]) rfl (by simp only [List.flatten_cons, List.flatten_nil, List.append_nil, List.append_assoc]) (fun u_346 => [[(x0, .inr (6, [.ref na.1, .ref tra.1, .ref h.1, .ref k.1]))], wS G na u_337.1, wS G tra v, wHf G (h.1, h.2.1, u_337.2.1, u_337.2.2.1, u_337.2.2.2.1, u_337.2.2.2.2.1) u_337.2.2.2.2.2, wX G k (y, xf, xr, xo, xc, xw, xn, xg, xv, gg, (xm, xk, ff)), wU G r (u_346.1, u_346.2.1, U, u_346.2.2, X, y, q0, q1, q2, q3, sp, re, B, wd, hg, ow)]) (fun u_346 => [wU G r (u_346.1, u_346.2.1, U, u_346.2.2, X, y, q0, q1, q2, q3, sp, re, B, wd, hg, ow)]) (fun _ => rfl) (fun _ => rfl) (fun _ => by simp only [List.flatten_cons, List.flatten_nil, List.append_nil, List.append_assoc]) (fun _ => rfl) 0 rfl rfl rfl rfl xL.1 rfl (Nat.le_of_ble_eq_true rfl) dL_law_346 ⟨Nat.le_of_ble_eq_true rfl, Nat.le_of_ble_eq_true rfl⟩ (fun r_346 u_346 H locs h_346 xP xD xS => ?_)
  have h_346 : QO r_346 u_346 (opLeave n o b (xs (i + 1)) s pst p) := h_346
  refine lv_icmp_eq (tgt := 742) xE xB dL_law_349 (by decide) (fun c_349 => ?_) (fun c_349 => by exact absurd (op_eq h_337 h_346) c_349)
  subst hAe
  exact hn9 (x0, na, tra, (h.1, h.2.1, u_337.2.1, u_337.2.2.1, u_337.2.2.2.1, u_337.2.2.2.2.1), k) r u_337.1 v u_337.2.2.2.2.2 (y, xf, xr, xo, xc, xw, xn, xg, xv, gg, (xm, xk, ff)) (u_346.1, u_346.2.1, U, u_346.2.2, X, y, q0, q1, q2, q3, sp, re, B, wd, hg, ow) (INV_op h_337 h_346 rfl rfl rfl hXc hXr) H locs xP xD xS ls (lv_sub xL [0, 1, 2, 3] rfl)
