/-! obj: the class's object in one chunk; what holds of it (OI), in numbers; the class's contracts over it -/
abbrev OD : Type := SA × SA × HA × XA × SD × SD × HD × XD
def wO (G : wG) (oa : Nat) (u : OD) : va_W := List.flatten [[(oa, .inr (6, [.ref u.1.1, .ref u.2.1.1, .ref u.2.2.1.1, .ref u.2.2.2.1.1]))], wS G u.1 u.2.2.2.2.1, wS G u.2.1 u.2.2.2.2.2.1, wHf G u.2.2.1 u.2.2.2.2.2.2.1, wX G u.2.2.2.1 u.2.2.2.2.2.2.2]
theorem wO_e (G : wG) (oa : Nat) (u : OD) : List.flatten [wO G oa u] = wO G oa u := by simp only [List.flatten_cons, List.flatten_nil, List.append_nil]
def aZ (s : wF) : wF := fun j => s (9 + j)
def bZ (s : wF) : wF := fun j => s (45 + j)
def fZ (s : wF) : wF := fun j => s (153 + j)
theorem CF_ab {a b f a' b' f' : wF} {r c k n o ta tb th tw t : Nat} {s : wF} (h : CF a b f k n o ta tb th tw t s) (ea : ∀ p, p < 36 → a' p = a p) (eb : ∀ p, p < 36 → b' p = b p) (ef : ∀ p, p < 20 → f' p = f p) (hr : n * ta + th ≤ r) (hc : n * tb + tw ≤ c) (hk : r ≤ 6 ∧ k ≤ 6 ∧ c ≤ 6) : CF a' b' f' k n o ta tb th tw t s := by
  intro i j hi hj
  refine ⟨fun g => ?_, (h i j hi hj).2⟩
  obtain ⟨h1, h2, h3, h4, h5, h6⟩ := (h i j hi hj).1 g
  refine ⟨?_, h2, h3, fun q => ?_, h5, fun q => ?_⟩
  · rw [h1]
    exact (sumV_e ea eb ef hi hj (by omega) (by omega) (by unfold metN; omega)).symm
  · rw [h4 q]
    exact (rgtV_e ea ef hi hj (by omega) (by unfold onW at q; omega)).symm
  · rw [h6 q]
    exact (dwnV_e eb ef hi hj (by omega) (by unfold onW at q; omega)).symm
/-- what holds of the object: its state in numbers -/
def OI (n r k c o b ta tb tt : Nat) (u : OD) (s : wF) (T : Nat → Nat) (tl : Nat) : Prop := ∃ (na tra : SA) (h : HA) (ka : XA) (kf L R Z : wF) (th tw tn a1 a2 a3 : Nat) (sm0 mt rw_ dn : wF) (v : SD) (hn : Nat) (u0 u1 u2 u3 : SD) (pst : PF) (xd : XD), u = (na, tra, h, ka, ((n, o, kf), (r, k, L), (k, c, R), (r, c, Z), (b, a1, a2, th, tw, a3, tn, sm0, mt, rw_, dn)), v, (hn, u0, u1, u2, u3), xd) ∧ RelS ((n, o, kf), (r, k, L), (k, c, R), (r, c, Z), (b, a1, a2, th, tw, a3, tn, sm0, mt, rw_, dn)) s ∧ hn ≤ 4 ∧ HRel hn u0 u1 u2 u3 pst ∧ RelX xd T tl ∧ (b = 1 → (a1 = ta ∧ a2 = tb ∧ a3 = tt) ∧ CF (aZ s) (bZ s) (fZ s) k n o ta tb (min n (r - n * ta)) (min n (c - n * tb)) tt s)
def ON (n r k c o b ta tb tt : Nat) (s : wF) : Prop := (s 0 = nI n ∧ s 1 = nI r ∧ s 2 = nI k ∧ s 3 = nI c ∧ s 4 = nI o ∧ s 5 = nI b) ∧ (1 ≤ n ∧ n ≤ 4 ∧ o ≤ n) ∧ (1 ≤ r ∧ r ≤ 6 ∧ 1 ≤ k ∧ k ≤ 6 ∧ 1 ≤ c ∧ c ≤ 6) ∧ b ≤ 1 ∧ (b = 1 → (s 6 = nI ta ∧ s 7 = nI tb ∧ s 8 = nI tt) ∧ n * ta < r ∧ n * tb < c ∧ tt ≤ need k n r c ta tb ∧ CF (aZ s) (bZ s) (fZ s) k n o ta tb (min n (r - n * ta)) (min n (c - n * tb)) tt s) ∧ (∀ j, j < 72 → bV (s (9 + j))) ∧ OkQ n s ∧ (∀ i j, i < 6 → j < 6 → (s (117 + (6 * i + j)) = nI 1 ∧ i < r ∧ j < c) ∨ s (117 + (6 * i + j)) = nI 0)
theorem OI.num {n r k c o b ta tb tt tl : Nat} {u : OD} {s : wF} {T : Nat → Nat} (h : OI n r k c o b ta tb tt u s T tl) : ON n r k c o b ta tb tt s := by
  obtain ⟨na, tra, h, ka, kf, L, R, Z, th, tw, tn, a1, a2, a3, sm0, mt, rw_, dn, v, hn, u0, u1, u2, u3, pst, xd, rfl, hR, hh, hH, hX, hC⟩ := h
  obtain ⟨⟨q1, q2, q3, q4⟩, hO, ⟨m1, m2, m3, m4, m5, m6, m7⟩, hd, hZ, hb, hT⟩ := hR
  refine ⟨⟨q1, m1, m2, m3, q2, hb.2⟩, q3, m4, hb.1, fun e => ?_, m7, hO, fun i j hi hj => ?_⟩
  · obtain ⟨⟨rfl, rfl, rfl⟩, c2⟩ := hC e
    obtain ⟨⟨t1, t2, t3, t4, t5, t6, t7, t8, t9⟩, -⟩ := hT e
    exact ⟨⟨t1, t2, t3⟩, t4, t5, by rw [← t8]; exact t9, c2⟩
  · rcases hZ i j hi hj with ⟨z1, z2, z3, -⟩ | ⟨z1, -⟩
    · exact Or.inl ⟨z1, z2, z3⟩
    · exact Or.inr z1
theorem OI.tl {n r k c o b ta tb tt tl : Nat} {u : OD} {s : wF} {T : Nat → Nat} (h : OI n r k c o b ta tb tt u s T tl) : tl ≤ 80 := by
  obtain ⟨na, tra, h, ka, kf, L, R, Z, th, tw, tn, a1, a2, a3, sm0, mt, rw_, dn, v, hn, u0, u1, u2, u3, pst, xd, rfl, hR, hh, hH, hX, hC⟩ := h
  exact hX.2.1
theorem OI.of {n r k c o b ta tb tt tl hn : Nat} {na tra : SA} {h : HA} {ka : XA} {N v : SD} {hd : HD} {xd : XD} {s : wF} {T : Nat → Nat} {pst : PF} (hR : RelS N s) (hH : HRelD hd pst hn) (hX : RelX xd T tl) (e0 : s 0 = nI n) (e1 : s 1 = nI r) (e2 : s 2 = nI k) (e3 : s 3 = nI c) (e4 : s 4 = nI o) (e5 : s 5 = nI b) (hz : n < 100 ∧ r < 100 ∧ k < 100 ∧ c < 100 ∧ o < 100 ∧ b < 100)
    (ht : b = 1 → (s 6 = nI ta ∧ s 7 = nI tb ∧ s 8 = nI tt ∧ ta < 100 ∧ tb < 100 ∧ tt < 100) ∧ CF (aZ s) (bZ s) (fZ s) k n o ta tb (min n (r - n * ta)) (min n (c - n * tb)) tt s) : OI n r k c o b ta tb tt (na, tra, h, ka, N, v, hd, xd) s T tl := by
  obtain ⟨⟨n', o', kf⟩, ⟨lr, lc, L⟩, ⟨rr, rc, R⟩, ⟨sr, sc, Z⟩, b', a1, a2, th, tw, a3, tn, sm0, mt, rw_, dn⟩ := N
  obtain ⟨hn', u0, u1, u2, u3⟩ := hd
  obtain ⟨z1, z2, z3, z4, z5, z6⟩ := hz
  obtain ⟨hh1, hh2, hh3⟩ := hH
  have hR0 := hR
  obtain ⟨⟨q1, q2, q3, q4⟩, hO, ⟨m1, m2, m3, m4, m5, m6, m7⟩, ⟨d1, d2, d3⟩, hZ, hb, hT⟩ := hR
  have i0 : n' = n := nI_inj (by omega) (by omega) (q1.symm.trans e0)
  have i1 : lr = r := nI_inj (by omega) (by omega) (m1.symm.trans e1)
  have i2 : lc = k := nI_inj (by omega) (by omega) (m2.symm.trans e2)
  have i3 : rc = c := nI_inj (by omega) (by omega) (m3.symm.trans e3)
  have i4 : o' = o := nI_inj (by omega) (by omega) (q2.symm.trans e4)
  have i5 : b' = b := nI_inj (by omega) (by omega) (hb.2.symm.trans e5)
  dsimp only at hh1
  subst i0 i1 i2 i3 i4 i5 hh1 d1 d2 d3
  refine ⟨na, tra, h, ka, kf, L, R, Z, th, tw, tn, a1, a2, a3, sm0, mt, rw_, dn, v, hn', u0, u1, u2, u3, pst, xd, rfl, hR0, hh2, hh3, hX, fun e => ?_⟩
  obtain ⟨⟨g6, g7, g8, g9, g10, g11⟩, hCF⟩ := ht e
  obtain ⟨hT1, -⟩ := hT e
  have h20 := hT1.t20 (L := L) (R := R) (o := o') ⟨m1, m2, m3, m4, m5, m6, m7⟩ q3
  obtain ⟨t1, t2, t3, t4, t5, t6, t7, t8, t9⟩ := hT1
  have b1 : a1 ≤ n' * a1 := Nat.le_mul_of_pos_left a1 (by omega)
  have b2 : a2 ≤ n' * a2 := Nat.le_mul_of_pos_left a2 (by omega)
  exact ⟨⟨nI_inj (by omega) (by omega) (t1.symm.trans g6), nI_inj (by omega) (by omega) (t2.symm.trans g7), nI_inj (by omega) (by omega) (t3.symm.trans g8)⟩, hCF⟩
theorem tN_b {m : Nat} (h : m < 2147483648 := by omega) : (nI m).toInt = m := nI_toInt h

theorem th_b {n r ta : Nat} (h : n * ta < r) (hn : 1 ≤ n) : ta < r := Nat.lt_of_le_of_lt (Nat.le_mul_of_pos_left ta (by omega)) h
theorem need_b {k n r c ta tb : Nat} (hn : n ≤ 4) (hk : k ≤ 6) : need k n r c ta tb < 100 := by unfold need; omega
theorem ht_same {n r k c o b ta tb tt : Nat} {s : wF} (hN : ON n r k c o b ta tb tt s) : b = 1 → (s 6 = nI ta ∧ s 7 = nI tb ∧ s 8 = nI tt ∧ ta < 100 ∧ tb < 100 ∧ tt < 100) ∧ CF (aZ s) (bZ s) (fZ s) k n o ta tb (min n (r - n * ta)) (min n (c - n * tb)) tt s := fun e => by
  obtain ⟨⟨h1, h2, h3⟩, h4, h5, h6, h7⟩ := hN.2.2.2.2.1 e
  have b1 := th_b h4 hN.2.1.1
  have b2 := th_b h5 hN.2.1.1
  have b3 := need_b (k := k) (n := n) (r := r) (c := c) (ta := ta) (tb := tb) hN.2.1.2.1 hN.2.2.1.2.2.2.1
  have b4 := hN.2.2.1
  exact ⟨⟨h1, h2, h3, by omega, by omega, by omega⟩, h7⟩
theorem kO_side (l : Launch) (G : wG) (oa n r k c o b ta tb tt tl : Nat) (u : OD) (s : wF) (T : Nat → Nat) (m : Nat) (hI : OI n r k c o b ta tb tt u s T tl) (h1 : 1 ≤ m) (h2 : m ≤ 4) : CI (S := OD) l yX6_side wsX6_side (rm 4 81) G [.ref oa, .int (nI m)] (List.flatten [wO G oa u]) (fun x u9 => x = nI n ∧ OI m r k c m 0 ta tb tt u9 (sideF m s) T tl) (fun u9 => List.flatten [wO G oa u9]) := by
  have hN := hI.num
  obtain ⟨na, tra, h, ka, kf, L, R, Z, th, tw, tn, a1, a2, a3, sm0, mt, rw_, dn, v, hn, u0, u1, u2, u3, pst, xd, rfl, hR, hh, hH, hX, hC⟩ := hI
  refine CI.imp (kX6_side l G oa na tra h ka n o kf r k L k c R r c Z b a1 a2 th tw a3 tn sm0 mt rw_ dn v hn u0 u1 u2 u3 xd s pst (nI m) hR hh hH) (wO_e G oa _) (fun x u9 hp => ?_)
  have e : opSide n (nI m) s pst hn = (nI n, (sideF m s), chgP s pst hn, chgN hn) := by unfold opSide; rw [tN_nI (by omega), tN_b, if_pos (by omega)]
  rw [e] at hp
  obtain ⟨hx, hR2, hH2⟩ := hp
  refine ⟨(na, tra, (h.1, h.2.1, u9.2.1, u9.2.2.1, u9.2.2.2.1, u9.2.2.2.2.1), ka, u9.1, v, u9.2.2.2.2.2, xd), ⟨hx, OI.of hR2 hH2 hX (rel_side hR h1 h2).1.1 (rel_side hR h1 h2).2.2.1.1 (rel_side hR h1 h2).2.2.1.2.1 (rel_side hR h1 h2).2.2.1.2.2.1 (rel_side hR h1 h2).1.2.1 (rel_side hR h1 h2).2.2.2.2.2.1.2 ⟨by omega, by have := hN.2.2.1; omega, by have := hN.2.2.1; omega, by have := hN.2.2.1; omega, by omega, by omega⟩ (fun q => absurd q (by decide))⟩, wO_e G oa _⟩
theorem kO_shape (l : Launch) (G : wG) (oa n r k c o b ta tb tt tl : Nat) (u : OD) (s : wF) (T : Nat → Nat) (r2 k2 c2 : Nat) (hI : OI n r k c o b ta tb tt u s T tl) (h1 : 1 ≤ r2 ∧ r2 ≤ 6) (h2 : 1 ≤ k2 ∧ k2 ≤ 6) (h3 : 1 ≤ c2 ∧ c2 ≤ 6) : CI (S := OD) l yX6_shape wsX6_shape (rm 4 81) G [.ref oa, .int (nI r2), .int (nI k2), .int (nI c2)] (List.flatten [wO G oa u]) (fun x u9 => x = nI (tls r2 n * tls c2 n) ∧ OI n r2 k2 c2 o 0 ta tb tt u9 (shapeF r2 k2 c2 s) T tl) (fun u9 => List.flatten [wO G oa u9]) := by
  have hN := hI.num
  obtain ⟨na, tra, h, ka, kf, L, R, Z, th, tw, tn, a1, a2, a3, sm0, mt, rw_, dn, v, hn, u0, u1, u2, u3, pst, xd, rfl, hR, hh, hH, hX, hC⟩ := hI
  refine CI.imp (kX6_shape l G oa na tra h ka n o kf r k L k c R r c Z b a1 a2 th tw a3 tn sm0 mt rw_ dn v hn u0 u1 u2 u3 xd s pst (nI r2) (nI k2) (nI c2) hR hh hH) (wO_e G oa _) (fun x u9 hp => ?_)
  have e : opShape n (nI r2) (nI k2) (nI c2) s pst hn = (nI (tls r2 n * tls c2 n), (shapeF r2 k2 c2 s), chgP s pst hn, chgN hn) := by unfold opShape; rw [tN_nI (by omega), tN_nI (by omega), tN_nI (by omega), tN_b, tN_b, tN_b, if_pos (by omega)]
  rw [e] at hp
  obtain ⟨hx, hR2, hH2⟩ := hp
  refine ⟨(na, tra, (h.1, h.2.1, u9.2.1, u9.2.2.1, u9.2.2.2.1, u9.2.2.2.2.1), ka, u9.1, v, u9.2.2.2.2.2, xd), ⟨hx, OI.of hR2 hH2 hX (rel_shape hR h1 h2 h3).1.1 (rel_shape hR h1 h2 h3).2.2.1.1 (rel_shape hR h1 h2 h3).2.2.1.2.1 (rel_shape hR h1 h2 h3).2.2.1.2.2.1 (rel_shape hR h1 h2 h3).1.2.1 (rel_shape hR h1 h2 h3).2.2.2.2.2.1.2 ⟨by have := hN.2.1; omega, by omega, by omega, by omega, by have := hN.2.1; omega, by omega⟩ (fun q => absurd q (by decide))⟩, wO_e G oa _⟩
theorem kO_leftB (l : Launch) (G : wG) (oa n r k c o b ta tb tt tl : Nat) (u : OD) (s : wF) (T : Nat → Nat) (i j : Nat) (x3 : Int32) (hI : OI n r k c o b ta tb tt u s T tl) (h1 : i < r) (h2 : j < k) (h3 : bV x3) (hb : b = 1) : CI (S := OD) l yX6_left wsX6_left (rm 5 106) G [.ref oa, .int (nI i), .int (nI j), .int x3] (List.flatten [wO G oa u]) (fun x u9 => x = kNP ∧ OI n r k c o b ta tb tt u9 s T tl) (fun u9 => List.flatten [wO G oa u9]) := by
  have hN := hI.num
  obtain ⟨na, tra, h, ka, kf, L, R, Z, th, tw, tn, a1, a2, a3, sm0, mt, rw_, dn, v, hn, u0, u1, u2, u3, pst, xd, rfl, hR, hh, hH, hX, hC⟩ := hI
  refine CI.imp (kX6_left l G oa na tra h ka n o kf r k L k c R r c Z b a1 a2 th tw a3 tn sm0 mt rw_ dn v hn u0 u1 u2 u3 xd s pst (nI i) (nI j) x3 hR hh hH) (wO_e G oa _) (fun x u9 hp => ?_)
  have e : opSet 0 r k b (nI i) (nI j) x3 s pst hn = (kNP, s, pst, hn) := by have h8 := hN.2.2.1; have h7 : -99 ≤ x3.toInt ∧ x3.toInt ≤ 99 := h3; unfold opSet; rw [tN_b, tN_b, if_pos (by omega), if_pos hb]
  rw [e] at hp
  obtain ⟨hx, hR2, hH2⟩ := hp
  refine ⟨(na, tra, (h.1, h.2.1, u9.2.1, u9.2.2.1, u9.2.2.2.1, u9.2.2.2.2.1), ka, u9.1, v, u9.2.2.2.2.2, xd), ⟨hx, OI.of hR2 hH2 hX hN.1.1 hN.1.2.1 hN.1.2.2.1 hN.1.2.2.2.1 hN.1.2.2.2.2.1 hN.1.2.2.2.2.2 ⟨by have := hN.2.1; omega, by have := hN.2.2.1; omega, by have := hN.2.2.1; omega, by have := hN.2.2.1; omega, by have := hN.2.1; omega, by have := hN.2.2.2.1; omega⟩ (ht_same hN)⟩, wO_e G oa _⟩
theorem kO_left (l : Launch) (G : wG) (oa n r k c o b ta tb tt tl : Nat) (u : OD) (s : wF) (T : Nat → Nat) (i j : Nat) (x3 : Int32) (hI : OI n r k c o b ta tb tt u s T tl) (h1 : i < r) (h2 : j < k) (h3 : bV x3) (hb : b = 0) : CI (S := OD) l yX6_left wsX6_left (rm 5 106) G [.ref oa, .int (nI i), .int (nI j), .int x3] (List.flatten [wO G oa u]) (fun x u9 => x = s (9 + 36 * 0 + 6 * i + j) ∧ OI n r k c o b ta tb tt u9 (clr 117 36 (upd s (9 + 36 * 0 + 6 * i + j) x3)) T tl) (fun u9 => List.flatten [wO G oa u9]) := by
  have hN := hI.num
  obtain ⟨na, tra, h, ka, kf, L, R, Z, th, tw, tn, a1, a2, a3, sm0, mt, rw_, dn, v, hn, u0, u1, u2, u3, pst, xd, rfl, hR, hh, hH, hX, hC⟩ := hI
  refine CI.imp (kX6_left l G oa na tra h ka n o kf r k L k c R r c Z b a1 a2 th tw a3 tn sm0 mt rw_ dn v hn u0 u1 u2 u3 xd s pst (nI i) (nI j) x3 hR hh hH) (wO_e G oa _) (fun x u9 hp => ?_)
  have e : opSet 0 r k b (nI i) (nI j) x3 s pst hn = (s (9 + 36 * 0 + 6 * i + j), (clr 117 36 (upd s (9 + 36 * 0 + 6 * i + j) x3)), chgP s pst hn, chgN hn) := by have h8 := hN.2.2.1; have h7 : -99 ≤ x3.toInt ∧ x3.toInt ≤ 99 := h3; unfold opSet; rw [tN_nI (by omega), tN_nI (by omega), tN_b, tN_b, if_pos (by omega), if_neg (by omega)]
  rw [e] at hp
  obtain ⟨hx, hR2, hH2⟩ := hp
  refine ⟨(na, tra, (h.1, h.2.1, u9.2.1, u9.2.2.1, u9.2.2.2.1, u9.2.2.2.2.1), ka, u9.1, v, u9.2.2.2.2.2, xd), ⟨hx, OI.of hR2 hH2 hX (rel_setL hR hb h1 h2 h3).1.1 (rel_setL hR hb h1 h2 h3).2.2.1.1 (rel_setL hR hb h1 h2 h3).2.2.1.2.1 (rel_setL hR hb h1 h2 h3).2.2.1.2.2.1 (rel_setL hR hb h1 h2 h3).1.2.1 (rel_setL hR hb h1 h2 h3).2.2.2.2.2.1.2 ⟨by have := hN.2.1; omega, by have := hN.2.2.1; omega, by have := hN.2.2.1; omega, by have := hN.2.2.1; omega, by have := hN.2.1; omega, by omega⟩ (fun q => absurd q (by omega))⟩, wO_e G oa _⟩
theorem kO_rightB (l : Launch) (G : wG) (oa n r k c o b ta tb tt tl : Nat) (u : OD) (s : wF) (T : Nat → Nat) (i j : Nat) (x3 : Int32) (hI : OI n r k c o b ta tb tt u s T tl) (h1 : i < k) (h2 : j < c) (h3 : bV x3) (hb : b = 1) : CI (S := OD) l yX6_right wsX6_right (rm 5 106) G [.ref oa, .int (nI i), .int (nI j), .int x3] (List.flatten [wO G oa u]) (fun x u9 => x = kNP ∧ OI n r k c o b ta tb tt u9 s T tl) (fun u9 => List.flatten [wO G oa u9]) := by
  have hN := hI.num
  obtain ⟨na, tra, h, ka, kf, L, R, Z, th, tw, tn, a1, a2, a3, sm0, mt, rw_, dn, v, hn, u0, u1, u2, u3, pst, xd, rfl, hR, hh, hH, hX, hC⟩ := hI
  refine CI.imp (kX6_right l G oa na tra h ka n o kf r k L k c R r c Z b a1 a2 th tw a3 tn sm0 mt rw_ dn v hn u0 u1 u2 u3 xd s pst (nI i) (nI j) x3 hR hh hH) (wO_e G oa _) (fun x u9 hp => ?_)
  have e : opSet 1 k c b (nI i) (nI j) x3 s pst hn = (kNP, s, pst, hn) := by have h8 := hN.2.2.1; have h7 : -99 ≤ x3.toInt ∧ x3.toInt ≤ 99 := h3; unfold opSet; rw [tN_b, tN_b, if_pos (by omega), if_pos hb]
  rw [e] at hp
  obtain ⟨hx, hR2, hH2⟩ := hp
  refine ⟨(na, tra, (h.1, h.2.1, u9.2.1, u9.2.2.1, u9.2.2.2.1, u9.2.2.2.2.1), ka, u9.1, v, u9.2.2.2.2.2, xd), ⟨hx, OI.of hR2 hH2 hX hN.1.1 hN.1.2.1 hN.1.2.2.1 hN.1.2.2.2.1 hN.1.2.2.2.2.1 hN.1.2.2.2.2.2 ⟨by have := hN.2.1; omega, by have := hN.2.2.1; omega, by have := hN.2.2.1; omega, by have := hN.2.2.1; omega, by have := hN.2.1; omega, by have := hN.2.2.2.1; omega⟩ (ht_same hN)⟩, wO_e G oa _⟩
theorem kO_right (l : Launch) (G : wG) (oa n r k c o b ta tb tt tl : Nat) (u : OD) (s : wF) (T : Nat → Nat) (i j : Nat) (x3 : Int32) (hI : OI n r k c o b ta tb tt u s T tl) (h1 : i < k) (h2 : j < c) (h3 : bV x3) (hb : b = 0) : CI (S := OD) l yX6_right wsX6_right (rm 5 106) G [.ref oa, .int (nI i), .int (nI j), .int x3] (List.flatten [wO G oa u]) (fun x u9 => x = s (9 + 36 * 1 + 6 * i + j) ∧ OI n r k c o b ta tb tt u9 (clr 117 36 (upd s (9 + 36 * 1 + 6 * i + j) x3)) T tl) (fun u9 => List.flatten [wO G oa u9]) := by
  have hN := hI.num
  obtain ⟨na, tra, h, ka, kf, L, R, Z, th, tw, tn, a1, a2, a3, sm0, mt, rw_, dn, v, hn, u0, u1, u2, u3, pst, xd, rfl, hR, hh, hH, hX, hC⟩ := hI
  refine CI.imp (kX6_right l G oa na tra h ka n o kf r k L k c R r c Z b a1 a2 th tw a3 tn sm0 mt rw_ dn v hn u0 u1 u2 u3 xd s pst (nI i) (nI j) x3 hR hh hH) (wO_e G oa _) (fun x u9 hp => ?_)
  have e : opSet 1 k c b (nI i) (nI j) x3 s pst hn = (s (9 + 36 * 1 + 6 * i + j), (clr 117 36 (upd s (9 + 36 * 1 + 6 * i + j) x3)), chgP s pst hn, chgN hn) := by have h8 := hN.2.2.1; have h7 : -99 ≤ x3.toInt ∧ x3.toInt ≤ 99 := h3; unfold opSet; rw [tN_nI (by omega), tN_nI (by omega), tN_b, tN_b, if_pos (by omega), if_neg (by omega)]
  rw [e] at hp
  obtain ⟨hx, hR2, hH2⟩ := hp
  refine ⟨(na, tra, (h.1, h.2.1, u9.2.1, u9.2.2.1, u9.2.2.2.1, u9.2.2.2.2.1), ka, u9.1, v, u9.2.2.2.2.2, xd), ⟨hx, OI.of hR2 hH2 hX (rel_setR hR hb h1 h2 h3).1.1 (rel_setR hR hb h1 h2 h3).2.2.1.1 (rel_setR hR hb h1 h2 h3).2.2.1.2.1 (rel_setR hR hb h1 h2 h3).2.2.1.2.2.1 (rel_setR hR hb h1 h2 h3).1.2.1 (rel_setR hR hb h1 h2 h3).2.2.2.2.2.1.2 ⟨by have := hN.2.1; omega, by have := hN.2.2.1; omega, by have := hN.2.2.1; omega, by have := hN.2.2.1; omega, by have := hN.2.1; omega, by omega⟩ (fun q => absurd q (by omega))⟩, wO_e G oa _⟩
theorem kO_faultB (l : Launch) (G : wG) (oa n r k c o b ta tb tt tl : Nat) (u : OD) (s : wF) (T : Nat → Nat) (i j q : Nat) (hI : OI n r k c o b ta tb tt u s T tl) (h1 : i < n) (h2 : j ≤ n) (h3 : q ≤ 4) (hb : b = 1) : CI (S := OD) l yX6_fault wsX6_fault (rm 4 81) G [.ref oa, .int (nI i), .int (nI j), .int (nI q)] (List.flatten [wO G oa u]) (fun x u9 => x = kNP ∧ OI n r k c o b ta tb tt u9 s T tl) (fun u9 => List.flatten [wO G oa u9]) := by
  have hN := hI.num
  obtain ⟨na, tra, h, ka, kf, L, R, Z, th, tw, tn, a1, a2, a3, sm0, mt, rw_, dn, v, hn, u0, u1, u2, u3, pst, xd, rfl, hR, hh, hH, hX, hC⟩ := hI
  refine CI.imp (kX6_fault l G oa na tra h ka n o kf r k L k c R r c Z b a1 a2 th tw a3 tn sm0 mt rw_ dn v hn u0 u1 u2 u3 xd s pst (nI i) (nI j) (nI q) hR hh hH) (wO_e G oa _) (fun x u9 hp => ?_)
  have e : opFault n b (nI i) (nI j) (nI q) s pst hn = (kNP, s, pst, hn) := by have h9 := hN.2.1; unfold opFault; rw [tN_b, tN_b, tN_b, if_pos (by omega), if_pos hb]
  rw [e] at hp
  obtain ⟨hx, hR2, hH2⟩ := hp
  refine ⟨(na, tra, (h.1, h.2.1, u9.2.1, u9.2.2.1, u9.2.2.2.1, u9.2.2.2.2.1), ka, u9.1, v, u9.2.2.2.2.2, xd), ⟨hx, OI.of hR2 hH2 hX hN.1.1 hN.1.2.1 hN.1.2.2.1 hN.1.2.2.2.1 hN.1.2.2.2.2.1 hN.1.2.2.2.2.2 ⟨by have := hN.2.1; omega, by have := hN.2.2.1; omega, by have := hN.2.2.1; omega, by have := hN.2.2.1; omega, by have := hN.2.1; omega, by have := hN.2.2.2.1; omega⟩ (ht_same hN)⟩, wO_e G oa _⟩
theorem kO_fault (l : Launch) (G : wG) (oa n r k c o b ta tb tt tl : Nat) (u : OD) (s : wF) (T : Nat → Nat) (i j q : Nat) (hI : OI n r k c o b ta tb tt u s T tl) (h1 : i < n) (h2 : j ≤ n) (h3 : q ≤ 4) (hb : b = 0) : CI (S := OD) l yX6_fault wsX6_fault (rm 4 81) G [.ref oa, .int (nI i), .int (nI j), .int (nI q)] (List.flatten [wO G oa u]) (fun x u9 => x = s (153 + 5 * i + j) ∧ OI n r k c o b ta tb tt u9 (upd s (153 + 5 * i + j) (nI q)) T tl) (fun u9 => List.flatten [wO G oa u9]) := by
  have hN := hI.num
  obtain ⟨na, tra, h, ka, kf, L, R, Z, th, tw, tn, a1, a2, a3, sm0, mt, rw_, dn, v, hn, u0, u1, u2, u3, pst, xd, rfl, hR, hh, hH, hX, hC⟩ := hI
  refine CI.imp (kX6_fault l G oa na tra h ka n o kf r k L k c R r c Z b a1 a2 th tw a3 tn sm0 mt rw_ dn v hn u0 u1 u2 u3 xd s pst (nI i) (nI j) (nI q) hR hh hH) (wO_e G oa _) (fun x u9 hp => ?_)
  have e : opFault n b (nI i) (nI j) (nI q) s pst hn = (s (153 + 5 * i + j), (upd s (153 + 5 * i + j) (nI q)), chgP s pst hn, chgN hn) := by have h9 := hN.2.1; unfold opFault; rw [tN_nI (by omega), tN_nI (by omega), tN_b, tN_b, tN_b, if_pos (by omega), if_neg (by omega)]
  rw [e] at hp
  obtain ⟨hx, hR2, hH2⟩ := hp
  refine ⟨(na, tra, (h.1, h.2.1, u9.2.1, u9.2.2.1, u9.2.2.2.1, u9.2.2.2.2.1), ka, u9.1, v, u9.2.2.2.2.2, xd), ⟨hx, OI.of hR2 hH2 hX (rel_fault (v := nI q) hR hb h1 h2 (by rw [tN_b]; omega)).1.1 (rel_fault (v := nI q) hR hb h1 h2 (by rw [tN_b]; omega)).2.2.1.1 (rel_fault (v := nI q) hR hb h1 h2 (by rw [tN_b]; omega)).2.2.1.2.1 (rel_fault (v := nI q) hR hb h1 h2 (by rw [tN_b]; omega)).2.2.1.2.2.1 (rel_fault (v := nI q) hR hb h1 h2 (by rw [tN_b]; omega)).1.2.1 (rel_fault (v := nI q) hR hb h1 h2 (by rw [tN_b]; omega)).2.2.2.2.2.1.2 ⟨by have := hN.2.1; omega, by have := hN.2.2.1; omega, by have := hN.2.2.1; omega, by have := hN.2.2.1; omega, by have := hN.2.1; omega, by omega⟩ (fun q => absurd q (by omega))⟩, wO_e G oa _⟩
theorem kO_leaveB (l : Launch) (G : wG) (oa n r k c o b ta tb tt tl : Nat) (u : OD) (s : wF) (T : Nat → Nat) (i : Nat) (hI : OI n r k c o b ta tb tt u s T tl) (h1 : i ≤ n) (hb : b = 1) : CI (S := OD) l yX6_leave wsX6_leave (rm 4 81) G [.ref oa, .int (nI i)] (List.flatten [wO G oa u]) (fun x u9 => x = kNP ∧ OI n r k c o b ta tb tt u9 s T tl) (fun u9 => List.flatten [wO G oa u9]) := by
  have hN := hI.num
  obtain ⟨na, tra, h, ka, kf, L, R, Z, th, tw, tn, a1, a2, a3, sm0, mt, rw_, dn, v, hn, u0, u1, u2, u3, pst, xd, rfl, hR, hh, hH, hX, hC⟩ := hI
  refine CI.imp (kX6_leave l G oa na tra h ka n o kf r k L k c R r c Z b a1 a2 th tw a3 tn sm0 mt rw_ dn v hn u0 u1 u2 u3 xd s pst (nI i) hR hh hH) (wO_e G oa _) (fun x u9 hp => ?_)
  have e : opLeave n o b (nI i) s pst hn = (kNP, s, pst, hn) := by have h9 := hN.2.1; unfold opLeave; rw [tN_b, if_pos (by omega), if_pos hb]
  rw [e] at hp
  obtain ⟨hx, hR2, hH2⟩ := hp
  refine ⟨(na, tra, (h.1, h.2.1, u9.2.1, u9.2.2.1, u9.2.2.2.1, u9.2.2.2.2.1), ka, u9.1, v, u9.2.2.2.2.2, xd), ⟨hx, OI.of hR2 hH2 hX hN.1.1 hN.1.2.1 hN.1.2.2.1 hN.1.2.2.2.1 hN.1.2.2.2.2.1 hN.1.2.2.2.2.2 ⟨by have := hN.2.1; omega, by have := hN.2.2.1; omega, by have := hN.2.2.1; omega, by have := hN.2.2.1; omega, by have := hN.2.1; omega, by have := hN.2.2.2.1; omega⟩ (ht_same hN)⟩, wO_e G oa _⟩
theorem kO_leave (l : Launch) (G : wG) (oa n r k c o b ta tb tt tl : Nat) (u : OD) (s : wF) (T : Nat → Nat) (i : Nat) (hI : OI n r k c o b ta tb tt u s T tl) (h1 : i ≤ n) (hb : b = 0) : CI (S := OD) l yX6_leave wsX6_leave (rm 4 81) G [.ref oa, .int (nI i)] (List.flatten [wO G oa u]) (fun x u9 => x = nI o ∧ OI n r k c i b ta tb tt u9 (upd s 4 (nI i)) T tl) (fun u9 => List.flatten [wO G oa u9]) := by
  have hN := hI.num
  obtain ⟨na, tra, h, ka, kf, L, R, Z, th, tw, tn, a1, a2, a3, sm0, mt, rw_, dn, v, hn, u0, u1, u2, u3, pst, xd, rfl, hR, hh, hH, hX, hC⟩ := hI
  refine CI.imp (kX6_leave l G oa na tra h ka n o kf r k L k c R r c Z b a1 a2 th tw a3 tn sm0 mt rw_ dn v hn u0 u1 u2 u3 xd s pst (nI i) hR hh hH) (wO_e G oa _) (fun x u9 hp => ?_)
  have e : opLeave n o b (nI i) s pst hn = (nI o, (upd s 4 (nI i)), chgP s pst hn, chgN hn) := by have h9 := hN.2.1; unfold opLeave; rw [tN_b, if_pos (by omega), if_neg (by omega)]
  rw [e] at hp
  obtain ⟨hx, hR2, hH2⟩ := hp
  refine ⟨(na, tra, (h.1, h.2.1, u9.2.1, u9.2.2.1, u9.2.2.2.1, u9.2.2.2.2.1), ka, u9.1, v, u9.2.2.2.2.2, xd), ⟨hx, OI.of hR2 hH2 hX (rel_leave hR hb h1 rfl).1.1 (rel_leave hR hb h1 rfl).2.2.1.1 (rel_leave hR hb h1 rfl).2.2.1.2.1 (rel_leave hR hb h1 rfl).2.2.1.2.2.1 (rel_leave hR hb h1 rfl).1.2.1 (rel_leave hR hb h1 rfl).2.2.2.2.2.1.2 ⟨by have := hN.2.1; omega, by have := hN.2.2.1; omega, by have := hN.2.2.1; omega, by have := hN.2.2.1; omega, by have := hN.2.1; omega, by omega⟩ (fun q => absurd q (by omega))⟩, wO_e G oa _⟩
theorem kO_beginB (l : Launch) (G : wG) (oa n r k c o b ta tb tt tl : Nat) (u : OD) (s : wF) (T : Nat → Nat) (i j : Nat) (hI : OI n r k c o b ta tb tt u s T tl) (h1 : i < tls r n) (h2 : j < tls c n) (hb : b = 1) : CI (S := OD) l yX6_begin wsX6_begin (rm 4 81) G [.ref oa, .int (nI i), .int (nI j)] (List.flatten [wO G oa u]) (fun x u9 => x = kNP ∧ OI n r k c o b ta tb tt u9 s T tl) (fun u9 => List.flatten [wO G oa u9]) := by
  have hN := hI.num
  obtain ⟨na, tra, h, ka, kf, L, R, Z, th, tw, tn, a1, a2, a3, sm0, mt, rw_, dn, v, hn, u0, u1, u2, u3, pst, xd, rfl, hR, hh, hH, hX, hC⟩ := hI
  refine CI.imp (kX6_begin l G oa na tra h ka n o kf r k L k c R r c Z b a1 a2 th tw a3 tn sm0 mt rw_ dn v hn u0 u1 u2 u3 xd s pst (nI i) (nI j) hR hh hH) (wO_e G oa _) (fun x u9 hp => ?_)
  have e : opBegin k n r c b (nI i) (nI j) s pst hn = (kNP, s, pst, hn) := by have h9 := hN.2.1; have h8 := hN.2.2.1; have h61 : tls r n ≤ 6 := tls_6 (by omega) (by omega); have h62 : tls c n ≤ 6 := tls_6 (by omega) (by omega); unfold opBegin; rw [tN_b, tN_b, if_pos (by omega), if_pos hb]
  rw [e] at hp
  obtain ⟨hx, hR2, hH2⟩ := hp
  refine ⟨(na, tra, (h.1, h.2.1, u9.2.1, u9.2.2.1, u9.2.2.2.1, u9.2.2.2.2.1), ka, u9.1, v, u9.2.2.2.2.2, xd), ⟨hx, OI.of hR2 hH2 hX hN.1.1 hN.1.2.1 hN.1.2.2.1 hN.1.2.2.2.1 hN.1.2.2.2.2.1 hN.1.2.2.2.2.2 ⟨by have := hN.2.1; omega, by have := hN.2.2.1; omega, by have := hN.2.2.1; omega, by have := hN.2.2.1; omega, by have := hN.2.1; omega, by have := hN.2.2.2.1; omega⟩ (ht_same hN)⟩, wO_e G oa _⟩
theorem kO_begin (l : Launch) (G : wG) (oa n r k c o b ta tb tt tl : Nat) (u : OD) (s : wF) (T : Nat → Nat) (i j : Nat) (hI : OI n r k c o b ta tb tt u s T tl) (h1 : i < tls r n) (h2 : j < tls c n) (hb : b = 0) : CI (S := OD) l yX6_begin wsX6_begin (rm 4 81) G [.ref oa, .int (nI i), .int (nI j)] (List.flatten [wO G oa u]) (fun x u9 => x = nI (need k n r c i j) ∧ OI n r k c o 1 i j 0 u9 (bgF i j s) T tl) (fun u9 => List.flatten [wO G oa u9]) := by
  have hN := hI.num
  obtain ⟨na, tra, h, ka, kf, L, R, Z, th, tw, tn, a1, a2, a3, sm0, mt, rw_, dn, v, hn, u0, u1, u2, u3, pst, xd, rfl, hR, hh, hH, hX, hC⟩ := hI
  refine CI.imp (kX6_begin l G oa na tra h ka n o kf r k L k c R r c Z b a1 a2 th tw a3 tn sm0 mt rw_ dn v hn u0 u1 u2 u3 xd s pst (nI i) (nI j) hR hh hH) (wO_e G oa _) (fun x u9 hp => ?_)
  have e : opBegin k n r c b (nI i) (nI j) s pst hn = (nI (need k n r c i j), (bgF i j s), chgP s pst hn, chgN hn) := by have h9 := hN.2.1; have h8 := hN.2.2.1; have h61 : tls r n ≤ 6 := tls_6 (by omega) (by omega); have h62 : tls c n ≤ 6 := tls_6 (by omega) (by omega); unfold opBegin; rw [tN_nI (by omega), tN_nI (by omega), tN_b, tN_b, if_pos (by omega), if_neg (by omega)]
  rw [e] at hp
  obtain ⟨hx, hR2, hH2⟩ := hp
  refine ⟨(na, tra, (h.1, h.2.1, u9.2.1, u9.2.2.1, u9.2.2.2.1, u9.2.2.2.2.1), ka, u9.1, v, u9.2.2.2.2.2, xd), ⟨hx, OI.of hR2 hH2 hX (rel_bg hR (tls_lt h1 hN.2.1.1) (tls_lt h2 hN.2.1.1)).1.1 (rel_bg hR (tls_lt h1 hN.2.1.1) (tls_lt h2 hN.2.1.1)).2.2.1.1 (rel_bg hR (tls_lt h1 hN.2.1.1) (tls_lt h2 hN.2.1.1)).2.2.1.2.1 (rel_bg hR (tls_lt h1 hN.2.1.1) (tls_lt h2 hN.2.1.1)).2.2.1.2.2.1 (rel_bg hR (tls_lt h1 hN.2.1.1) (tls_lt h2 hN.2.1.1)).1.2.1 (rel_bg hR (tls_lt h1 hN.2.1.1) (tls_lt h2 hN.2.1.1)).2.2.2.2.2.1.2 ⟨by have := hN.2.1; omega, by have := hN.2.2.1; omega, by have := hN.2.2.1; omega, by have := hN.2.2.1; omega, by have := hN.2.1; omega, by omega⟩ (fun _ => ⟨⟨bgF_6, bgF_7, bgF_8, by have := tls_6 hN.2.2.1.2.1 hN.2.1.1; omega, by have := tls_6 hN.2.2.1.2.2.2.2.2 hN.2.1.1; omega, by omega⟩, CF_bg⟩)⟩, wO_e G oa _⟩
theorem tk_1 {k n r c b ta tb tt a1 a2 a3 : Nat} (h : b = 0 ∨ tt = need k n r c ta tb) (hb : b ≤ 1) (g : b = 1 → a1 = ta ∧ a2 = tb ∧ a3 = tt) : b = 0 ∨ a3 = need k n r c a1 a2 := by
  rcases Nat.lt_or_ge b 1 with q | q
  · exact Or.inl (by omega)
  · obtain ⟨rfl, rfl, rfl⟩ := g (by omega)
    exact h
theorem kO_tickN (l : Launch) (G : wG) (oa n r k c o b ta tb tt tl : Nat) (u : OD) (s : wF) (T : Nat → Nat) (i : Nat) (hI : OI n r k c o b ta tb tt u s T tl) (h1 : 1 ≤ i) (h2 : i ≤ 20) (hb : b = 0 ∨ tt = need k n r c ta tb) : CI (S := OD) l yX6_tick wsX6_tick (rm 5 111) G [.ref oa, .int (nI i)] (List.flatten [wO G oa u]) (fun x u9 => x = kNP ∧ OI n r k c o b ta tb tt u9 s T tl) (fun u9 => List.flatten [wO G oa u9]) := by
  have hN := hI.num
  obtain ⟨na, tra, h, ka, kf, L, R, Z, th, tw, tn, a1, a2, a3, sm0, mt, rw_, dn, v, hn, u0, u1, u2, u3, pst, xd, rfl, hR, hh, hH, hX, hC⟩ := hI
  refine CI.imp (kX6_tick l G oa na tra h ka n o kf r k L k c R r c Z b a1 a2 th tw a3 tn sm0 mt rw_ dn v hn u0 u1 u2 u3 xd s pst (nI i) hR hh hH) (wO_e G oa _) (fun x u9 hp => ?_)
  have e : opTick k n o r c b a1 a2 a3 (nI i) s pst hn = (kNP, s, pst, hn) := by unfold opTick; rw [tN_b, if_pos (by omega), if_pos (tk_1 hb hN.2.2.2.1 (fun e => (hC e).1))]
  rw [e] at hp
  obtain ⟨hx, hR2, hH2⟩ := hp
  refine ⟨(na, tra, (h.1, h.2.1, u9.2.1, u9.2.2.1, u9.2.2.2.1, u9.2.2.2.2.1), ka, u9.1, v, u9.2.2.2.2.2, xd), ⟨hx, OI.of hR2 hH2 hX hN.1.1 hN.1.2.1 hN.1.2.2.1 hN.1.2.2.2.1 hN.1.2.2.2.2.1 hN.1.2.2.2.2.2 ⟨by have := hN.2.1; omega, by have := hN.2.2.1; omega, by have := hN.2.2.1; omega, by have := hN.2.2.1; omega, by have := hN.2.1; omega, by have := hN.2.2.2.1; omega⟩ (ht_same hN)⟩, wO_e G oa _⟩
theorem kO_tick (l : Launch) (G : wG) (oa n r k c o b ta tb tt tl : Nat) (u : OD) (s : wF) (T : Nat → Nat) (i m : Nat) (hI : OI n r k c o b ta tb tt u s T tl) (h1 : 1 ≤ i) (h2 : i ≤ 20) (hb : b = 1) (ht : tt < need k n r c ta tb) (hm : m = min i (need k n r c ta tb - tt)) : CI (S := OD) l yX6_tick wsX6_tick (rm 5 111) G [.ref oa, .int (nI i)] (List.flatten [wO G oa u]) (fun x u9 => x = nI (need k n r c ta tb - (tt + m)) ∧ OI n r k c o b ta tb (tt + m) u9 (goN k n o r c ta tb m tt s) T tl) (fun u9 => List.flatten [wO G oa u9]) := by
  have hN := hI.num
  obtain ⟨na, tra, h, ka, kf, L, R, Z, th, tw, tn, a1, a2, a3, sm0, mt, rw_, dn, v, hn, u0, u1, u2, u3, pst, xd, rfl, hR, hh, hH, hX, hC⟩ := hI
  obtain ⟨⟨rfl, rfl, rfl⟩, hCF⟩ := hC hb
  have hR0 := hR
  obtain ⟨hQ, hO, hM, hd, hZ, hb5, hT⟩ := hR
  obtain ⟨hT, hC4, hV, hS⟩ := hT hb
  have e8 : tn = need k n r c a1 a2 := hT.2.2.2.2.2.2.2.1
  have hmt : m ≤ tn - a3 := by rw [hm, e8]; exact Nat.min_le_right _ _
  have h4 := hT.h4 hQ.2.2.1
  have h5 := hT.w4 hQ.2.2.1
  have e6 : th = min n (r - n * a1) := hT.2.2.2.2.2.1
  have e7 : tw = min n (c - n * a2) := hT.2.2.2.2.2.2.1
  obtain ⟨g1, g2, g3, g4⟩ := goN_ok (o := o) hQ.2.2.1 m a3 s hM hT hV hS hmt
  refine CI.imp (kX6_tick l G oa na tra h ka n o kf r k L k c R r c Z b a1 a2 th tw a3 tn sm0 mt rw_ dn v hn u0 u1 u2 u3 xd s pst (nI i) hR0 hh hH) (wO_e G oa _) (fun x u9 hp => ?_)
  have e : opTick k n o r c b a1 a2 a3 (nI i) s pst hn = (nI (need k n r c a1 a2 - (a3 + m)), goN k n o r c a1 a2 m a3 s, chgP s pst hn, chgN hn) := by
    unfold opTick
    rw [tN_nI (by omega), tN_b, if_pos (by omega), if_neg (by omega), hm]
  rw [e] at hp
  obtain ⟨hx, hR2, hH2⟩ := hp
  have hCF2 := CF_goN (o := o) (a := aZ s) (b := bZ s) (f := fZ s) hQ.2.2.1 m a3 s hM hT hmt (fun _ _ => rfl) (fun _ _ => rfl) (fun _ _ => rfl) (by rw [e6, e7]; exact hCF)
  have h9 := hN.2.1
  have h8 := hN.2.2.1
  have h20 := hT.t20 hM hQ.2.2.1
  have b1 := th_b hT.2.2.2.1 h9.1
  have b2 := th_b hT.2.2.2.2.1 h9.1
  refine ⟨(na, tra, (h.1, h.2.1, u9.2.1, u9.2.2.1, u9.2.2.2.1, u9.2.2.2.2.1), ka, u9.1, v, u9.2.2.2.2.2, xd), ⟨hx, OI.of hR2 hH2 hX ((g1 0 (by omega) (by omega)).trans hN.1.1) ((g1 1 (by omega) (by omega)).trans hN.1.2.1) ((g1 2 (by omega) (by omega)).trans hN.1.2.2.1) ((g1 3 (by omega) (by omega)).trans hN.1.2.2.2.1) ((g1 4 (by omega) (by omega)).trans hN.1.2.2.2.2.1) ((g1 5 (by omega) (by omega)).trans hN.1.2.2.2.2.2) ⟨by omega, by omega, by omega, by omega, by omega, by omega⟩ (fun _ => ⟨⟨(g1 6 (by omega) (by omega)).trans hT.1, (g1 7 (by omega) (by omega)).trans hT.2.1, g2, by omega, by omega, by omega⟩, ?_⟩)⟩, wO_e G oa _⟩
  rw [← e6, ← e7]
  exact CF_ab (r := r) (c := c) hCF2 (fun p hp => g1 (9 + p) (by omega) (by omega)) (fun p hp => g1 (45 + p) (by omega) (by omega)) (fun p hp => g1 (153 + p) (by omega) (by omega)) (by omega) (by omega) ⟨by omega, by omega, by omega⟩
theorem dr_1 {k n r c b ta tb tt a1 a2 a3 : Nat} (h : b = 0 ∨ tt < need k n r c ta tb) (hb : b ≤ 1) (g : b = 1 → a1 = ta ∧ a2 = tb ∧ a3 = tt) : b = 0 ∨ a3 ≠ need k n r c a1 a2 := by
  rcases Nat.lt_or_ge b 1 with q | q
  · exact Or.inl (by omega)
  · obtain ⟨rfl, rfl, rfl⟩ := g (by omega)
    rcases h with h | h
    · exact Or.inl h
    · exact Or.inr (Nat.ne_of_lt h)
theorem dr_2 {k n r c b ta tb tt a1 a2 a3 : Nat} {s : wF} {pst : PF} {hn : Nat} (hb : b = 1) (ht : tt = need k n r c ta tb) (g : b = 1 → a1 = ta ∧ a2 = tb ∧ a3 = tt) : opDrain k n r c b a1 a2 a3 s pst hn = (nI (knN (drF n r c ta tb s)), drF n r c ta tb s, chgP s pst hn, chgN hn) := by
  obtain ⟨rfl, rfl, rfl⟩ := g hb
  unfold opDrain
  rw [if_neg (by omega)]
theorem kO_drainN (l : Launch) (G : wG) (oa n r k c o b ta tb tt tl : Nat) (u : OD) (s : wF) (T : Nat → Nat) (hI : OI n r k c o b ta tb tt u s T tl) (hb : b = 0 ∨ tt < need k n r c ta tb) : CI (S := OD) l yX6_drain wsX6_drain (rm 4 81) G [.ref oa] (List.flatten [wO G oa u]) (fun x u9 => x = kNP ∧ OI n r k c o b ta tb tt u9 s T tl) (fun u9 => List.flatten [wO G oa u9]) := by
  have hN := hI.num
  obtain ⟨na, tra, h, ka, kf, L, R, Z, th, tw, tn, a1, a2, a3, sm0, mt, rw_, dn, v, hn, u0, u1, u2, u3, pst, xd, rfl, hR, hh, hH, hX, hC⟩ := hI
  refine CI.imp (kX6_drain l G oa na tra h ka n o kf r k L k c R r c Z b a1 a2 th tw a3 tn sm0 mt rw_ dn v hn u0 u1 u2 u3 xd s pst hR hh hH) (wO_e G oa _) (fun x u9 hp => ?_)
  have e : opDrain k n r c b a1 a2 a3 s pst hn = (kNP, s, pst, hn) := by unfold opDrain; rw [if_pos (dr_1 hb hN.2.2.2.1 (fun e => (hC e).1))]
  rw [e] at hp
  obtain ⟨hx, hR2, hH2⟩ := hp
  refine ⟨(na, tra, (h.1, h.2.1, u9.2.1, u9.2.2.1, u9.2.2.2.1, u9.2.2.2.2.1), ka, u9.1, v, u9.2.2.2.2.2, xd), ⟨hx, OI.of hR2 hH2 hX hN.1.1 hN.1.2.1 hN.1.2.2.1 hN.1.2.2.2.1 hN.1.2.2.2.2.1 hN.1.2.2.2.2.2 ⟨by have := hN.2.1; omega, by have := hN.2.2.1; omega, by have := hN.2.2.1; omega, by have := hN.2.2.1; omega, by have := hN.2.1; omega, by have := hN.2.2.2.1; omega⟩ (ht_same hN)⟩, wO_e G oa _⟩
theorem kO_drain (l : Launch) (G : wG) (oa n r k c o b ta tb tt tl : Nat) (u : OD) (s : wF) (T : Nat → Nat) (hI : OI n r k c o b ta tb tt u s T tl) (hb : b = 1) (ht : tt = need k n r c ta tb) : CI (S := OD) l yX6_drain wsX6_drain (rm 4 81) G [.ref oa] (List.flatten [wO G oa u]) (fun x u9 => x = nI (knN (drF n r c ta tb s)) ∧ OI n r k c o 0 ta tb tt u9 (drF n r c ta tb s) T tl) (fun u9 => List.flatten [wO G oa u9]) := by
  have hN := hI.num
  obtain ⟨na, tra, h, ka, kf, L, R, Z, th, tw, tn, a1, a2, a3, sm0, mt, rw_, dn, v, hn, u0, u1, u2, u3, pst, xd, rfl, hR, hh, hH, hX, hC⟩ := hI
  refine CI.imp (kX6_drain l G oa na tra h ka n o kf r k L k c R r c Z b a1 a2 th tw a3 tn sm0 mt rw_ dn v hn u0 u1 u2 u3 xd s pst hR hh hH) (wO_e G oa _) (fun x u9 hp => ?_)
  have e : opDrain k n r c b a1 a2 a3 s pst hn = (nI (knN (drF n r c ta tb s)), (drF n r c ta tb s), chgP s pst hn, chgN hn) := dr_2 hb ht (fun e => (hC e).1)
  rw [e] at hp
  obtain ⟨hx, hR2, hH2⟩ := hp
  refine ⟨(na, tra, (h.1, h.2.1, u9.2.1, u9.2.2.1, u9.2.2.2.1, u9.2.2.2.2.1), ka, u9.1, v, u9.2.2.2.2.2, xd), ⟨hx, OI.of hR2 hH2 hX ((upF_Lo5 0 (by omega) (by omega)).trans hN.1.1) ((upF_Lo5 1 (by omega) (by omega)).trans hN.1.2.1) ((upF_Lo5 2 (by omega) (by omega)).trans hN.1.2.2.1) ((upF_Lo5 3 (by omega) (by omega)).trans hN.1.2.2.2.1) ((upF_Lo5 4 (by omega) (by omega)).trans hN.1.2.2.2.2.1) drF_5 ⟨by have := hN.2.1; omega, by have := hN.2.2.1; omega, by have := hN.2.2.1; omega, by have := hN.2.2.1; omega, by have := hN.2.1; omega, by omega⟩ (fun q => absurd q (by decide))⟩, wO_e G oa _⟩
theorem goN_lo {k n o r c ta tb : Nat} : ∀ (m tt : Nat) (s : wF), Lo (goN k n o r c ta tb m tt s) s
  | 0, _, _ => fun _ _ _ => rfl
  | m + 1, tt, s => (goN_lo m (tt + 1) (goF k n o r c ta tb tt s)).trans goF_Lo
theorem tlF_lo {k n o r c ta tb : Nat} {s : wF} : ∀ p, p < 81 → (p < 5 ∨ 8 < p) → tlF k n o r c ta tb s p = s p := fun p hp h => by
  unfold tlF
  rw [upF_Lo5 p hp (by omega), goN_lo _ _ _ p (by omega) (by omega), bgF_e p (by omega) (by omega)]
theorem alF_lo {k n o r c : Nat} {s : wF} : ∀ p, p < 81 → (p < 5 ∨ 8 < p) → alF k n o r c s p = s p := by
  unfold alF
  exact upF_inv (P := fun x => ∀ p, p < 81 → (p < 5 ∨ 8 < p) → x p = s p) _ _ (fun i x _ hx => upF_inv (P := fun x => ∀ p, p < 81 → (p < 5 ∨ 8 < p) → x p = s p) _ _ (fun j y _ hy p hp h => (tlF_lo p hp h).trans (hy p hp h)) hx) (fun _ _ _ => rfl)
theorem tls_pos {len n : Nat} (h : 1 ≤ len) (hn : 1 ≤ n) : 1 ≤ tls len n := by
  unfold tls
  rw [Nat.le_div_iff_mul_le (by omega)]
  omega
theorem upF_last {P : wF → Prop} {step : Nat → wF → wF} {m : Nat} {s : wF} (hm : 1 ≤ m) (h : ∀ i x, P (step i x)) : P (upF step m s) := by
  cases m with
  | zero => exact absurd hm (by decide)
  | succ m => exact h m _
theorem alF_5 {k n o r c : Nat} {s : wF} (hr : 1 ≤ r) (hc : 1 ≤ c) (hn : 1 ≤ n) : alF k n o r c s 5 = nI 0 := by
  unfold alF
  exact upF_last (P := fun x => x 5 = nI 0) (tls_pos hr hn) fun i x => upF_last (P := fun x => x 5 = nI 0) (tls_pos hc hn) fun j y => drF_5
theorem kO_allB (l : Launch) (G : wG) (oa n r k c o b ta tb tt tl : Nat) (u : OD) (s : wF) (T : Nat → Nat) (hI : OI n r k c o b ta tb tt u s T tl) (hb : b = 1) : CI (S := OD) l yX6_all wsX6_all (rm 6 136) G [.ref oa] (List.flatten [wO G oa u]) (fun x u9 => x = kNP ∧ OI n r k c o b ta tb tt u9 s T tl) (fun u9 => List.flatten [wO G oa u9]) := by
  have hN := hI.num
  obtain ⟨na, tra, h, ka, kf, L, R, Z, th, tw, tn, a1, a2, a3, sm0, mt, rw_, dn, v, hn, u0, u1, u2, u3, pst, xd, rfl, hR, hh, hH, hX, hC⟩ := hI
  refine CI.imp (kX6_all l G oa na tra h ka n o kf r k L k c R r c Z b a1 a2 th tw a3 tn sm0 mt rw_ dn v hn u0 u1 u2 u3 xd s pst hR hh hH) (wO_e G oa _) (fun x u9 hp => ?_)
  have e : opAll k n o r c b s pst hn = (kNP, s, pst, hn) := if_pos hb
  rw [e] at hp
  obtain ⟨hx, hR2, hH2⟩ := hp
  refine ⟨(na, tra, (h.1, h.2.1, u9.2.1, u9.2.2.1, u9.2.2.2.1, u9.2.2.2.2.1), ka, u9.1, v, u9.2.2.2.2.2, xd), ⟨hx, OI.of hR2 hH2 hX hN.1.1 hN.1.2.1 hN.1.2.2.1 hN.1.2.2.2.1 hN.1.2.2.2.2.1 hN.1.2.2.2.2.2 ⟨by have := hN.2.1; omega, by have := hN.2.2.1; omega, by have := hN.2.2.1; omega, by have := hN.2.2.1; omega, by have := hN.2.1; omega, by have := hN.2.2.2.1; omega⟩ (ht_same hN)⟩, wO_e G oa _⟩
theorem kO_all (l : Launch) (G : wG) (oa n r k c o b ta tb tt tl : Nat) (u : OD) (s : wF) (T : Nat → Nat) (hI : OI n r k c o b ta tb tt u s T tl) (hb : b = 0) : CI (S := OD) l yX6_all wsX6_all (rm 6 136) G [.ref oa] (List.flatten [wO G oa u]) (fun x u9 => x = nI (tkN k n r c) ∧ OI n r k c o 0 ta tb tt u9 (alF k n o r c s) T tl) (fun u9 => List.flatten [wO G oa u9]) := by
  have hN := hI.num
  obtain ⟨na, tra, h, ka, kf, L, R, Z, th, tw, tn, a1, a2, a3, sm0, mt, rw_, dn, v, hn, u0, u1, u2, u3, pst, xd, rfl, hR, hh, hH, hX, hC⟩ := hI
  refine CI.imp (kX6_all l G oa na tra h ka n o kf r k L k c R r c Z b a1 a2 th tw a3 tn sm0 mt rw_ dn v hn u0 u1 u2 u3 xd s pst hR hh hH) (wO_e G oa _) (fun x u9 hp => ?_)
  have e : opAll k n o r c b s pst hn = (nI (tkN k n r c), (alF k n o r c s), chgP s pst hn, chgN hn) := if_neg (by omega)
  rw [e] at hp
  obtain ⟨hx, hR2, hH2⟩ := hp
  refine ⟨(na, tra, (h.1, h.2.1, u9.2.1, u9.2.2.1, u9.2.2.2.1, u9.2.2.2.2.1), ka, u9.1, v, u9.2.2.2.2.2, xd), ⟨hx, OI.of hR2 hH2 hX ((alF_lo 0 (by omega) (by omega)).trans hN.1.1) ((alF_lo 1 (by omega) (by omega)).trans hN.1.2.1) ((alF_lo 2 (by omega) (by omega)).trans hN.1.2.2.1) ((alF_lo 3 (by omega) (by omega)).trans hN.1.2.2.2.1) ((alF_lo 4 (by omega) (by omega)).trans hN.1.2.2.2.2.1) (alF_5 hN.2.2.1.1 hN.2.2.1.2.2.2.2.1 hN.2.1.1) ⟨by have := hN.2.1; omega, by have := hN.2.2.1; omega, by have := hN.2.2.1; omega, by have := hN.2.2.1; omega, by have := hN.2.1; omega, by omega⟩ (fun q => absurd q (by decide))⟩, wO_e G oa _⟩
theorem kO_entry (l : Launch) (G : wG) (oa n r k c o b ta tb tt tl : Nat) (u : OD) (s : wF) (T : Nat → Nat) (v1 v2 v3 : Int32) (hI : OI n r k c o b ta tb tt u s T tl) : CR l yX6_entry wsX6_entry (rm 1 22) G [.ref oa, .int v1, .int v2, .int v3] (List.flatten [wO G oa u]) (fun x => x = enA r k c v1 v2 v3 s) := by
  have hN := hI.num
  obtain ⟨na, tra, h, ka, kf, L, R, Z, th, tw, tn, a1, a2, a3, sm0, mt, rw_, dn, v, hn, u0, u1, u2, u3, pst, xd, rfl, hR, hh, hH, hX, hC⟩ := hI
  refine CR.imp (kX6_entry l G oa na tra h ka n o kf r k L k c R r c Z b a1 a2 th tw a3 tn sm0 mt rw_ dn v hn u0 u1 u2 u3 xd s pst v1 v2 v3 hR hh hH) (wO_e G oa _) (fun x hp => ?_)
  exact hp
theorem kO_cellOf (l : Launch) (G : wG) (oa n r k c o b ta tb tt tl : Nat) (u : OD) (s : wF) (T : Nat → Nat) (v1 v2 v3 : Int32) (hI : OI n r k c o b ta tb tt u s T tl) : CR l yX6_cellOf wsX6_cellOf (rm 3 63) G [.ref oa, .int v1, .int v2, .int v3] (List.flatten [wO G oa u]) (fun x => x = ceA n o b v1 v2 v3 s) := by
  have hN := hI.num
  obtain ⟨na, tra, h, ka, kf, L, R, Z, th, tw, tn, a1, a2, a3, sm0, mt, rw_, dn, v, hn, u0, u1, u2, u3, pst, xd, rfl, hR, hh, hH, hX, hC⟩ := hI
  refine CR.imp (kX6_cellOf l G oa na tra h ka n o kf r k L k c R r c Z b a1 a2 th tw a3 tn sm0 mt rw_ dn v hn u0 u1 u2 u3 xd s pst v1 v2 v3 hR hh hH) (wO_e G oa _) (fun x hp => ?_)
  exact hp
theorem kO_result (l : Launch) (G : wG) (oa n r k c o b ta tb tt tl : Nat) (u : OD) (s : wF) (T : Nat → Nat) (v1 v2 v3 : Int32) (hI : OI n r k c o b ta tb tt u s T tl) : CR l yX6_result wsX6_result (rm 2 46) G [.ref oa, .int v1, .int v2, .int v3] (List.flatten [wO G oa u]) (fun x => x = reA r k c v1 v2 v3 s) := by
  have hN := hI.num
  obtain ⟨na, tra, h, ka, kf, L, R, Z, th, tw, tn, a1, a2, a3, sm0, mt, rw_, dn, v, hn, u0, u1, u2, u3, pst, xd, rfl, hR, hh, hH, hX, hC⟩ := hI
  refine CR.imp (kX6_result l G oa na tra h ka n o kf r k L k c R r c Z b a1 a2 th tw a3 tn sm0 mt rw_ dn v hn u0 u1 u2 u3 xd s pst v1 v2 v3 hR hh hH) (wO_e G oa _) (fun x hp => ?_)
  exact hp
theorem kO_count (l : Launch) (G : wG) (oa n r k c o b ta tb tt tl : Nat) (u : OD) (s : wF) (T : Nat → Nat) (v1 : Int32) (hI : OI n r k c o b ta tb tt u s T tl) : CR l yX6_count wsX6_count (rm 3 70) G [.ref oa, .int v1] (List.flatten [wO G oa u]) (fun x => ∃ h, x = coA n o r k c b ta tb tt h tl v1 s) := by
  have hN := hI.num
  obtain ⟨na, tra, h, ka, kf, L, R, Z, th, tw, tn, a1, a2, a3, sm0, mt, rw_, dn, v, hn, u0, u1, u2, u3, pst, xd, rfl, hR, hh, hH, hX, hC⟩ := hI
  refine CR.imp (kX6_count l G oa na tra h ka n o kf r k L k c R r c Z b a1 a2 th tw a3 tn sm0 mt rw_ dn v hn u0 u1 u2 u3 xd s pst v1 hR hh hH) (wO_e G oa _) (fun x hp => ?_)
  refine ⟨hn, ?_⟩
  rw [hp, hX.1]
  rcases Nat.lt_or_ge b 1 with q | q
  · obtain rfl : b = 0 := by omega
    unfold coA
    simp only [if_pos]
  · obtain ⟨⟨rfl, rfl, rfl⟩, -⟩ := hC (by have := hN.2.2.2.1; omega)
    rfl
theorem ty_1 {ch tl : Nat} (h1 : 32 ≤ ch) (h2 : ch ≤ 126) (h3 : tl < 80) : tyA tl (nI ch) = nI (tl + 1) := by
  unfold tyA
  rw [tN_b, if_pos (by omega), if_pos h3]
theorem ty_2 {ch tl : Nat} {T : Nat → Nat} (h1 : 32 ≤ ch) (h2 : ch ≤ 126) (h3 : tl < 80) : tyT tl (nI ch) T = fun j => if j = tl then ch else T j := by
  unfold tyT
  rw [tN_b, if_pos (by omega), tN_nI (by omega)]
theorem ty_3 {ch tl : Nat} (h1 : 32 ≤ ch) (h2 : ch ≤ 126) (h3 : tl < 80) : tyN tl (nI ch) = tl + 1 := by
  unfold tyN
  rw [tN_b, if_pos (by omega)]
theorem kO_type (l : Launch) (G : wG) (oa n r k c o b ta tb tt tl : Nat) (u : OD) (s : wF) (T : Nat → Nat) (ch : Nat) (hI : OI n r k c o b ta tb tt u s T tl) (h1 : 32 ≤ ch) (h2 : ch ≤ 126) (h3 : tl < 80) : CI (S := OD) l yX6_type wsX6_type (rm 1 21) G [.ref oa, .int (nI ch)] (List.flatten [wO G oa u]) (fun x u9 => x = nI (tl + 1) ∧ OI n r k c o b ta tb tt u9 s (fun j => if j = tl then ch else T j) (tl + 1)) (fun u9 => List.flatten [wO G oa u9]) := by
  have hN := hI.num
  obtain ⟨na, tra, h, ka, kf, L, R, Z, th, tw, tn, a1, a2, a3, sm0, mt, rw_, dn, v, hn, u0, u1, u2, u3, pst, xd, rfl, hR, hh, hH, hX, hC⟩ := hI
  obtain ⟨len, fp, re, row, col, wid, ng, dg, vl, g, mr, mc, f⟩ := xd
  obtain ⟨hx1, hx2, hx3⟩ := hX
  dsimp only at hx1 hx3
  subst hx1
  refine CI.imp (kX6_type l G oa na tra h ka n o kf r k L k c R r c Z b a1 a2 th tw a3 tn sm0 mt rw_ dn v hn u0 u1 u2 u3 len fp re row col wid ng dg vl g mr mc f T s pst (nI ch) hx2 hx3) (wO_e G oa _) (fun x u9 hp => ?_)
  rw [ty_1 h1 h2 h3, ty_2 h1 h2 h3, ty_3 h1 h2 h3] at hp
  exact ⟨(na, tra, h, ka, _, v, (hn, u0, u1, u2, u3), u9), ⟨hp.1, na, tra, h, ka, kf, L, R, Z, th, tw, tn, a1, a2, a3, sm0, mt, rw_, dn, v, hn, u0, u1, u2, u3, pst, u9, rfl, hR, hh, hH, hp.2, hC⟩, wO_e G oa _⟩
theorem kO_clearText (l : Launch) (G : wG) (oa n r k c o b ta tb tt tl : Nat) (u : OD) (s : wF) (T : Nat → Nat) (hI : OI n r k c o b ta tb tt u s T tl) : CI (S := OD) l yX6_clearText wsX6_clearText (rm 0 0) G [.ref oa] (List.flatten [wO G oa u]) (fun x u9 => x = nI tl ∧ OI n r k c o b ta tb tt u9 s T 0) (fun u9 => List.flatten [wO G oa u9]) := by
  obtain ⟨na, tra, h, ka, kf, L, R, Z, th, tw, tn, a1, a2, a3, sm0, mt, rw_, dn, v, hn, u0, u1, u2, u3, pst, xd, rfl, hR, hh, hH, hX, hC⟩ := hI
  obtain ⟨len, fp, re, row, col, wid, ng, dg, vl, g, mr, mc, f⟩ := xd
  obtain ⟨hx1, hx2, hx3⟩ := hX
  dsimp only at hx1 hx3
  subst hx1
  refine CI.imp (kX6_clearText l G oa na tra h ka n o kf r k L k c R r c Z b a1 a2 th tw a3 tn sm0 mt rw_ dn v hn u0 u1 u2 u3 len fp re row col wid ng dg vl g mr mc f T s pst hx2) (wO_e G oa _) (fun x u9 hp => ?_)
  exact ⟨(na, tra, h, ka, _, v, (hn, u0, u1, u2, u3), u9), ⟨hp.1, na, tra, h, ka, kf, L, R, Z, th, tw, tn, a1, a2, a3, sm0, mt, rw_, dn, v, hn, u0, u1, u2, u3, pst, u9, rfl, hR, hh, hH, hp.2, hC⟩, wO_e G oa _⟩
theorem kO_textFault (l : Launch) (G : wG) (oa n r k c o b ta tb tt tl : Nat) (u : OD) (s : wF) (T : Nat → Nat) (hI : OI n r k c o b ta tb tt u s T tl) (h0 : scR T tl = 0) : CI (S := OD) l yX6_textFault wsX6_textFault (rm 6 129) G [.ref oa, .int (nI 0)] (List.flatten [wO G oa u]) (fun x u9 => x = kNF ∧ OI n r k c o b ta tb tt u9 s T tl) (fun u9 => List.flatten [wO G oa u9]) := by
  obtain ⟨na, tra, h, ka, kf, L, R, Z, th, tw, tn, a1, a2, a3, sm0, mt, rw_, dn, v, hn, u0, u1, u2, u3, pst, xd, rfl, hR, hh, hH, hX, hC⟩ := hI
  obtain ⟨len, fp, re, row, col, wid, ng, dg, vl, g, mr, mc, f⟩ := xd
  obtain ⟨hx1, hx2, hx3⟩ := hX
  dsimp only at hx1 hx3
  subst hx1
  refine CI.imp (kX6_textFault l G oa na tra h ka n o kf r k L k c R r c Z b a1 a2 th tw a3 tn sm0 mt rw_ dn v hn u0 u1 u2 u3 len fp re row col wid ng dg vl g mr mc f T s pst (nI 0) hx2 hx3) (wO_e G oa _) (fun x u9 hp => ?_)
  have e : tfA len (nI 0) T = kNF := by unfold tfA; rw [if_pos (Or.inl (by decide)), if_pos h0]
  rw [e] at hp
  exact ⟨(na, tra, h, ka, _, v, (hn, u0, u1, u2, u3), u9), ⟨hp.1, na, tra, h, ka, kf, L, R, Z, th, tw, tn, a1, a2, a3, sm0, mt, rw_, dn, v, hn, u0, u1, u2, u3, pst, u9, rfl, hR, hh, hH, hp.2, hC⟩, wO_e G oa _⟩
theorem kO_readB (l : Launch) (G : wG) (oa n r k c o b ta tb tt tl : Nat) (u : OD) (s : wF) (T : Nat → Nat) (q : Nat) (hI : OI n r k c o b ta tb tt u s T tl) (hq : q ≤ 1) (hb : b = 1) : CI (S := OD) l yX6_read wsX6_read (rm 6 129) G [.ref oa, .int (nI q)] (List.flatten [wO G oa u]) (fun x u9 => x = kNP ∧ OI n r k c o b ta tb tt u9 s T tl) (fun u9 => List.flatten [wO G oa u9]) := by
  have hN := hI.num
  obtain ⟨na, tra, h, ka, kf, L, R, Z, th, tw, tn, a1, a2, a3, sm0, mt, rw_, dn, v, hn, u0, u1, u2, u3, pst, xd, rfl, hR, hh, hH, hX, hC⟩ := hI
  obtain ⟨len, fp, re, row, col, wid, ng, dg, vl, g, mr, mc, f⟩ := xd
  obtain ⟨hx1, hx2, hx3⟩ := hX
  dsimp only at hx1 hx3
  subst hx1
  refine CI.imp (kX6_read l G oa na tra h ka n o kf r k L k c R r c Z b a1 a2 th tw a3 tn sm0 mt rw_ dn v hn u0 u1 u2 u3 len fp re row col wid ng dg vl g mr mc f T s pst (nI q) hR hh hH hx2 hx3) (wO_e G oa _) (fun x u9 hp => ?_)
  have e : opRead b len (nI q) T s pst hn = (kNP, s, pst, hn) := by unfold opRead; rw [tN_b, if_pos (by omega), if_pos (Or.inl hb)]
  rw [e] at hp
  obtain ⟨⟨hx, hR2, hH2⟩, hX2⟩ := hp
  exact ⟨(na, tra, (h.1, h.2.1, u9.2.1.1, u9.2.1.2.1, u9.2.1.2.2.1, u9.2.1.2.2.2.1), ka, u9.1, v, u9.2.1.2.2.2.2, u9.2.2), ⟨hx, OI.of hR2 hH2 hX2 hN.1.1 hN.1.2.1 hN.1.2.2.1 hN.1.2.2.2.1 hN.1.2.2.2.2.1 hN.1.2.2.2.2.2 ⟨by have := hN.2.1; omega, by have := hN.2.2.1; omega, by have := hN.2.2.1; omega, by have := hN.2.2.1; omega, by have := hN.2.1; omega, by have := hN.2.2.2.1; omega⟩ (ht_same hN)⟩, wO_e G oa _⟩
theorem kO_readL (l : Launch) (G : wG) (oa n r k c o b ta tb tt tl : Nat) (u : OD) (s : wF) (T : Nat → Nat) (hI : OI n r k c o b ta tb tt u s T tl) (hb : b = 0) (h0 : scR T tl = 0) : CI (S := OD) l yX6_read wsX6_read (rm 6 129) G [.ref oa, .int (nI 0)] (List.flatten [wO G oa u]) (fun x u9 => x = nI (scM T tl * scC T tl) ∧ OI n (scM T tl) (scC T tl) c o 0 ta tb tt u9 (rdL (scM T tl) (scC T tl) (scF T tl) s) T tl) (fun u9 => List.flatten [wO G oa u9]) := by
  have hN := hI.num
  obtain ⟨na, tra, h, ka, kf, L, R, Z, th, tw, tn, a1, a2, a3, sm0, mt, rw_, dn, v, hn, u0, u1, u2, u3, pst, xd, rfl, hR, hh, hH, hX, hC⟩ := hI
  obtain ⟨len, fp, re, row, col, wid, ng, dg, vl, g, mr, mc, f⟩ := xd
  obtain ⟨hx1, hx2, hx3⟩ := hX
  dsimp only at hx1 hx3
  subst hx1
  refine CI.imp (kX6_read l G oa na tra h ka n o kf r k L k c R r c Z b a1 a2 th tw a3 tn sm0 mt rw_ dn v hn u0 u1 u2 u3 len fp re row col wid ng dg vl g mr mc f T s pst (nI 0) hR hh hH hx2 hx3) (wO_e G oa _) (fun x u9 hp => ?_)
  have e : opRead b len (nI 0) T s pst hn = (nI (scM T len * scC T len), rdL (scM T len) (scC T len) (scF T len) s, chgP s pst hn, chgN hn) := by unfold opRead; rw [if_pos (Or.inl (by decide)), if_neg (by omega), if_pos (by decide)]
  rw [e] at hp
  obtain ⟨⟨hx, hR2, hH2⟩, hX2⟩ := hp
  obtain ⟨k1, k2, k3, -⟩ := scan_okZ h0
  have hrel := rel_readL (e := scF T len) hR hb k1 k2 (fun _ _ => rfl) k3
  exact ⟨(na, tra, (h.1, h.2.1, u9.2.1.1, u9.2.1.2.1, u9.2.1.2.2.1, u9.2.1.2.2.2.1), ka, u9.1, v, u9.2.1.2.2.2.2, u9.2.2), ⟨hx, OI.of hR2 hH2 hX2 hrel.1.1 hrel.2.2.1.1 hrel.2.2.1.2.1 hrel.2.2.1.2.2.1 hrel.1.2.1 (hrel.2.2.2.2.2.1.2.trans (congrArg nI hb)) ⟨by have := hN.2.1; omega, by omega, by omega, by have := hN.2.2.1; omega, by have := hN.2.1; omega, by omega⟩ (fun q => absurd q (by decide))⟩, wO_e G oa _⟩
theorem kO_readR (l : Launch) (G : wG) (oa n r k c o b ta tb tt tl : Nat) (u : OD) (s : wF) (T : Nat → Nat) (hI : OI n r k c o b ta tb tt u s T tl) (hb : b = 0) (h0 : scR T tl = 0) : CI (S := OD) l yX6_read wsX6_read (rm 6 129) G [.ref oa, .int (nI 1)] (List.flatten [wO G oa u]) (fun x u9 => x = nI (scM T tl * scC T tl) ∧ OI n r (scM T tl) (scC T tl) o 0 ta tb tt u9 (rdR (scM T tl) (scC T tl) (scF T tl) s) T tl) (fun u9 => List.flatten [wO G oa u9]) := by
  have hN := hI.num
  obtain ⟨na, tra, h, ka, kf, L, R, Z, th, tw, tn, a1, a2, a3, sm0, mt, rw_, dn, v, hn, u0, u1, u2, u3, pst, xd, rfl, hR, hh, hH, hX, hC⟩ := hI
  obtain ⟨len, fp, re, row, col, wid, ng, dg, vl, g, mr, mc, f⟩ := xd
  obtain ⟨hx1, hx2, hx3⟩ := hX
  dsimp only at hx1 hx3
  subst hx1
  refine CI.imp (kX6_read l G oa na tra h ka n o kf r k L k c R r c Z b a1 a2 th tw a3 tn sm0 mt rw_ dn v hn u0 u1 u2 u3 len fp re row col wid ng dg vl g mr mc f T s pst (nI 1) hR hh hH hx2 hx3) (wO_e G oa _) (fun x u9 hp => ?_)
  have e : opRead b len (nI 1) T s pst hn = (nI (scM T len * scC T len), rdR (scM T len) (scC T len) (scF T len) s, chgP s pst hn, chgN hn) := by unfold opRead; rw [if_pos (Or.inr (by decide)), if_neg (by omega), if_neg (by decide)]
  rw [e] at hp
  obtain ⟨⟨hx, hR2, hH2⟩, hX2⟩ := hp
  obtain ⟨k1, k2, k3, -⟩ := scan_okZ h0
  have hrel := rel_readR (e := scF T len) hR hb k1 k2 (fun _ _ => rfl) k3
  exact ⟨(na, tra, (h.1, h.2.1, u9.2.1.1, u9.2.1.2.1, u9.2.1.2.2.1, u9.2.1.2.2.2.1), ka, u9.1, v, u9.2.1.2.2.2.2, u9.2.2), ⟨hx, OI.of hR2 hH2 hX2 hrel.1.1 hrel.2.2.1.1 hrel.2.2.1.2.1 hrel.2.2.1.2.2.1 hrel.1.2.1 (hrel.2.2.2.2.2.1.2.trans (congrArg nI hb)) ⟨by have := hN.2.1; omega, by have := hN.2.2.1; omega, by omega, by omega, by have := hN.2.1; omega, by omega⟩ (fun q => absurd q (by decide))⟩, wO_e G oa _⟩
