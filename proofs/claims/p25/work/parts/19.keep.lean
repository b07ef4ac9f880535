/-! keep: what each operation makes of the class's numbers goes with what it makes of the 269 places -/
theorem clrR {a m : Nat} {s : wF} {v : Int32} (h : v = nI 0) : ∀ j, a ≤ j → j < a + m → clr a m s j = v := fun j h1 h2 => by rw [clr_in h1 h2, h]
theorem RelZ_clr {r c : Nat} {Z s : wF} (h : ∀ j, 117 ≤ j → j < 153 → s j = nI 0) : RelZ r c (fillF 36 NO Z) s := fun i j hi hj => Or.inr ⟨h _ (by omega) (by omega), fillF_lt (by omega)⟩
theorem RelM_e {r k c : Nat} {L R s s' : wF} (h : RelM r k c L R s) (e : ∀ j, (1 ≤ j ∧ j ≤ 3) ∨ (9 ≤ j ∧ j < 81) → s' j = s j) : RelM r k c L R s' := by
  obtain ⟨h1, h2, h3, h4, h5, h6, h7⟩ := h
  exact ⟨by rw [e _ (by omega)]; exact h1, by rw [e _ (by omega)]; exact h2, by rw [e _ (by omega)]; exact h3, h4, fun j hj => by rw [e _ (by omega)]; exact h5 j hj, fun j hj => by rw [e _ (by omega)]; exact h6 j hj, fun j hj => by rw [e _ (by omega)]; exact h7 j hj⟩
theorem RelQ_e {n o : Nat} {kf s s' : wF} (h : RelQ n o kf s) (e : ∀ j, j = 0 ∨ j = 4 ∨ (153 ≤ j ∧ j < 173) → s' j = s j) : RelQ n o kf s' := by
  obtain ⟨h1, h2, h3, h4⟩ := h
  exact ⟨by rw [e _ (by omega)]; exact h1, by rw [e _ (by omega)]; exact h2, h3, fun j hj => by rw [e _ (by omega)]; exact h4 j hj⟩
theorem OkQ_e {n : Nat} {s s' : wF} (h : OkQ n s) (e : ∀ j, 153 ≤ j ∧ j < 173 → s' j = s j) : OkQ n s' := by
  intro i j hi hj
  obtain ⟨q, h1, h2, h3⟩ := h i j hi hj
  exact ⟨q, h1, by rw [e _ (by omega)]; exact h2, h3⟩
theorem tN_z {v : Int32} (h : 0 ≤ v.toInt) : (tN v : Int) = v.toInt := Int.toNat_of_nonneg h
section KEEP
variable {n o lr lc rr rc sr sc b ta tb th tw tt tn : Nat} {kf L R Z sm0 mt rw_ dn s : wF}
theorem rel_side {v : Nat} (h : RelS ((n, o, kf), (lr, lc, L), (rr, rc, R), (sr, sc, Z), (b, ta, tb, th, tw, tt, tn, sm0, mt, rw_, dn)) s) (h1 : 1 ≤ v) (h2 : v ≤ 4) :
    RelS ((v, v, fillF 20 (nI 0) kf), (lr, lc, L), (rr, rc, R), (lr, rc, fillF 36 NO Z), (0, ta, tb, th, tw, tt, tn, sm0, mt, rw_, dn)) (sideF v s) := by
  obtain ⟨hQ, hO, hM, hd, hZ, hb, hT⟩ := h
  unfold sideF
  refine ⟨⟨?_, ?_, ⟨h1, h2, Nat.le_refl _⟩, fun j hj => ?_⟩, fun i j hi hj => ⟨0, Nat.zero_le _, ?_, Or.inl rfl⟩, RelM_e hM fun j hj => ?_, ⟨hd.1, rfl, rfl⟩, RelZ_clr fun j h3 h4 => clr_in h3 h4, ⟨Nat.zero_le _, ?_⟩, fun e => absurd e (by decide)⟩
  · rw [clr_out (by omega), clr_out (by omega), upd_n (by decide), upd_n (by decide), upd_s]
  · rw [clr_out (by omega), clr_out (by omega), upd_n (by decide), upd_s]
  · rw [clr_out (by omega), clr_in (by omega) (by omega)]; exact fillF_lt hj
  · rw [clr_out (by omega), clr_in (by omega) (by omega)]
  · rw [clr_out (by omega), clr_out (by omega), upd_n (by omega), upd_n (by omega), upd_n (by omega)]
  · rw [clr_out (by omega), clr_out (by omega), upd_s]
theorem rel_shape {r k c : Nat} (h : RelS ((n, o, kf), (lr, lc, L), (rr, rc, R), (sr, sc, Z), (b, ta, tb, th, tw, tt, tn, sm0, mt, rw_, dn)) s) (h1 : 1 ≤ r ∧ r ≤ 6) (h2 : 1 ≤ k ∧ k ≤ 6) (h3 : 1 ≤ c ∧ c ≤ 6) :
    RelS ((n, o, kf), (r, k, fillF 36 (nI 0) L), (k, c, fillF 36 (nI 0) R), (r, c, fillF 36 NO Z), (0, ta, tb, th, tw, tt, tn, sm0, mt, rw_, dn)) (shapeF r k c s) := by
  obtain ⟨hQ, hO, hM, hd, hZ, hb, hT⟩ := h
  unfold shapeF
  refine ⟨RelQ_e hQ fun j hj => ?_, OkQ_e hO fun j hj => ?_, ⟨?_, ?_, ?_, ⟨h1.1, h1.2, h2.1, h2.2, h3.1, h3.2⟩, fun j hj => ?_, fun j hj => ?_, fun j hj => ?_⟩, ⟨rfl, rfl, rfl⟩, RelZ_clr fun j h3 h4 => clr_in h3 h4, ⟨Nat.zero_le _, ?_⟩, fun e => absurd e (by decide)⟩
  · rw [clr_out (by omega), clr_out (by omega), upd_n (by omega), upd_n (by omega), upd_n (by omega), upd_n (by omega)]
  · rw [clr_out (by omega), clr_out (by omega), upd_n (by omega), upd_n (by omega), upd_n (by omega), upd_n (by omega)]
  · rw [clr_out (by omega), clr_out (by omega), upd_n (by decide), upd_n (by decide), upd_n (by decide), upd_s]
  · rw [clr_out (by omega), clr_out (by omega), upd_n (by decide), upd_n (by decide), upd_s]
  · rw [clr_out (by omega), clr_out (by omega), upd_n (by decide), upd_s]
  · rw [clr_out (by omega), clr_in (by omega) (by omega)]; exact fillF_lt hj
  · rw [clr_out (by omega), clr_in (by omega) (by omega)]; exact fillF_lt hj
  · rw [clr_out (by omega), clr_in (by omega) (by omega)]; exact bV_0
  · rw [clr_out (by omega), clr_out (by omega), upd_s]
theorem rel_setL {i j : Nat} {v : Int32} (h : RelS ((n, o, kf), (lr, lc, L), (rr, rc, R), (sr, sc, Z), (b, ta, tb, th, tw, tt, tn, sm0, mt, rw_, dn)) s) (hb0 : b = 0) (hi : i < lr) (hj : j < lc) (hv : bV v) :
    RelS ((n, o, kf), (lr, lc, upd L (6 * i + j) v), (rr, rc, R), (lr, rc, fillF 36 NO Z), (b, ta, tb, th, tw, tt, tn, sm0, mt, rw_, dn)) (clr 117 36 (upd s (9 + 36 * 0 + 6 * i + j) v)) := by
  obtain ⟨hQ, hO, ⟨m1, m2, m3, m4, m5, m6, m7⟩, hd, hZ, hb, hT⟩ := h
  have e0 : 9 + 36 * 0 + 6 * i + j = 9 + (6 * i + j) := by omega
  rw [e0]
  refine ⟨RelQ_e hQ fun p hp => ?_, OkQ_e hO fun p hp => ?_, ⟨?_, ?_, ?_, m4, fun p hp => ?_, fun p hp => ?_, fun p hp => ?_⟩, ⟨hd.1, rfl, rfl⟩, RelZ_clr fun j h3 h4 => clr_in h3 h4, ⟨hb.1, ?_⟩, fun e => absurd e (by omega)⟩
  · rw [clr_out (by omega), upd_n (by omega)]
  · rw [clr_out (by omega), upd_n (by omega)]
  · rw [clr_out (by omega), upd_n (by omega)]; exact m1
  · rw [clr_out (by omega), upd_n (by omega)]; exact m2
  · rw [clr_out (by omega), upd_n (by omega)]; exact m3
  · rw [clr_out (by omega)]
    by_cases e : p = 6 * i + j
    · rw [e, upd_s, upd_s]
    · rw [upd_n e, upd_n (by omega)]; exact m5 p hp
  · rw [clr_out (by omega), upd_n (by omega)]; exact m6 p hp
  · rw [clr_out (by omega)]
    by_cases e : 9 + p = 9 + (6 * i + j)
    · rw [e, upd_s]; exact hv
    · rw [upd_n e]; exact m7 p hp
  · rw [clr_out (by omega), upd_n (by omega)]; exact hb.2
theorem rel_setR {i j : Nat} {v : Int32} (h : RelS ((n, o, kf), (lr, lc, L), (rr, rc, R), (sr, sc, Z), (b, ta, tb, th, tw, tt, tn, sm0, mt, rw_, dn)) s) (hb0 : b = 0) (hi : i < rr) (hj : j < rc) (hv : bV v) :
    RelS ((n, o, kf), (lr, lc, L), (rr, rc, upd R (6 * i + j) v), (lr, rc, fillF 36 NO Z), (b, ta, tb, th, tw, tt, tn, sm0, mt, rw_, dn)) (clr 117 36 (upd s (9 + 36 * 1 + 6 * i + j) v)) := by
  obtain ⟨hQ, hO, ⟨m1, m2, m3, m4, m5, m6, m7⟩, hd, hZ, hb, hT⟩ := h
  have e0 : 9 + 36 * 1 + 6 * i + j = 45 + (6 * i + j) := by omega
  obtain ⟨d1, d2, d3⟩ := hd
  rw [e0]
  refine ⟨RelQ_e hQ fun p hp => ?_, OkQ_e hO fun p hp => ?_, ⟨?_, ?_, ?_, m4, fun p hp => ?_, fun p hp => ?_, fun p hp => ?_⟩, ⟨d1, rfl, rfl⟩, RelZ_clr fun j h3 h4 => clr_in h3 h4, ⟨hb.1, ?_⟩, fun e => absurd e (by omega)⟩
  · rw [clr_out (by omega), upd_n (by omega)]
  · rw [clr_out (by omega), upd_n (by omega)]
  · rw [clr_out (by omega), upd_n (by omega)]; exact m1
  · rw [clr_out (by omega), upd_n (by omega)]; exact m2
  · rw [clr_out (by omega), upd_n (by omega)]; exact m3
  · rw [clr_out (by omega), upd_n (by omega)]; exact m5 p hp
  · rw [clr_out (by omega)]
    by_cases e : p = 6 * i + j
    · rw [e, upd_s, upd_s]
    · rw [upd_n e, upd_n (by omega)]; exact m6 p hp
  · rw [clr_out (by omega)]
    by_cases e : 9 + p = 45 + (6 * i + j)
    · rw [e, upd_s]; exact hv
    · rw [upd_n e]; exact m7 p hp
  · rw [clr_out (by omega), upd_n (by omega)]; exact hb.2
theorem rel_fault {i j : Nat} {v : Int32} (h : RelS ((n, o, kf), (lr, lc, L), (rr, rc, R), (sr, sc, Z), (b, ta, tb, th, tw, tt, tn, sm0, mt, rw_, dn)) s) (hb0 : b = 0) (hi : i < n) (hj : j ≤ n) (hq : 0 ≤ v.toInt ∧ v.toInt ≤ 4) :
    RelS ((n, o, upd kf (5 * i + j) v), (lr, lc, L), (rr, rc, R), (sr, sc, Z), (b, ta, tb, th, tw, tt, tn, sm0, mt, rw_, dn)) (upd s (153 + 5 * i + j) v) := by
  obtain ⟨⟨q1, q2, q3, q4⟩, hO, hM, hd, hZ, hb, hT⟩ := h
  have e0 : 153 + 5 * i + j = 153 + (5 * i + j) := by omega
  rw [e0]
  refine ⟨⟨?_, ?_, q3, fun p hp => ?_⟩, fun a c ha hc => ?_, RelM_e hM fun p hp => upd_n (by omega), hd, hZ.lo fun p h1 h2 => upd_n (by omega), ⟨hb.1, ?_⟩, fun e => absurd e (by omega)⟩
  · rw [upd_n (by omega)]; exact q1
  · rw [upd_n (by omega)]; exact q2
  · by_cases e : p = 5 * i + j
    · rw [e, upd_s, upd_s]
    · rw [upd_n e, upd_n (by omega)]; exact q4 p hp
  · by_cases e : 5 * a + c = 5 * i + j
    · have ea : a = i := by omega
      have ec : c = j := by omega
      subst ea
      subst ec
      have z := tN_z hq.1
      refine ⟨tN v, by omega, ?_, Or.inr ⟨hi, hj⟩⟩
      rw [Nat.add_assoc, upd_s]
      exact tN_eq hq.1
    · rw [upd_n (by omega)]; exact hO a c ha hc
  · rw [upd_n (by omega)]; exact hb.2
theorem rel_leave {v : Nat} {x : Int32} (h : RelS ((n, o, kf), (lr, lc, L), (rr, rc, R), (sr, sc, Z), (b, ta, tb, th, tw, tt, tn, sm0, mt, rw_, dn)) s) (hb0 : b = 0) (hv : v ≤ n) (hx : x = nI v) :
    RelS ((n, v, kf), (lr, lc, L), (rr, rc, R), (sr, sc, Z), (b, ta, tb, th, tw, tt, tn, sm0, mt, rw_, dn)) (upd s 4 x) := by
  subst hx
  obtain ⟨⟨q1, q2, q3, q4⟩, hO, hM, hd, hZ, hb, hT⟩ := h
  refine ⟨⟨?_, upd_s, ⟨q3.1, q3.2.1, hv⟩, fun p hp => ?_⟩, OkQ_e hO fun p hp => upd_n (by omega), RelM_e hM fun p hp => upd_n (by omega), hd, hZ.lo fun p h1 h2 => upd_n (by omega), ⟨hb.1, ?_⟩, fun e => absurd e (by omega)⟩
  · rw [upd_n (by omega)]; exact q1
  · rw [upd_n (by omega)]; exact q4 p hp
  · rw [upd_n (by omega)]; exact hb.2
theorem get_L {i j : Nat} (h : RelS ((n, o, kf), (lr, lc, L), (rr, rc, R), (sr, sc, Z), (b, ta, tb, th, tw, tt, tn, sm0, mt, rw_, dn)) s) (hj : 6 * i + j < 36) : L (6 * i + j) = s (9 + 36 * 0 + 6 * i + j) := by
  rw [show 9 + 36 * 0 + 6 * i + j = 9 + (6 * i + j) by omega]
  exact h.2.2.1.2.2.2.2.1 _ hj
theorem get_R {i j : Nat} (h : RelS ((n, o, kf), (lr, lc, L), (rr, rc, R), (sr, sc, Z), (b, ta, tb, th, tw, tt, tn, sm0, mt, rw_, dn)) s) (hj : 6 * i + j < 36) : R (6 * i + j) = s (9 + 36 * 1 + 6 * i + j) := by
  rw [show 9 + 36 * 1 + 6 * i + j = 45 + (6 * i + j) by omega]
  exact h.2.2.1.2.2.2.2.2.1 _ hj
theorem get_K {i j : Nat} (h : RelS ((n, o, kf), (lr, lc, L), (rr, rc, R), (sr, sc, Z), (b, ta, tb, th, tw, tt, tn, sm0, mt, rw_, dn)) s) (hj : 5 * i + j < 20) : kf (5 * i + j) = s (153 + 5 * i + j) := by
  rw [Nat.add_assoc]
  exact h.1.2.2.2 _ hj
theorem rel_go1 {m : Nat} {g1 g2 g3 g4 : wF} (h : RelS ((n, o, kf), (lr, lc, L), (rr, rc, R), (sr, sc, Z), (b, ta, tb, th, tw, tt, tn, sm0, mt, rw_, dn)) s) (hb1 : b = 1) (hm : m ≤ tn - tt) (hC : CellR g1 g2 g3 g4 (goN lc n o lr rc ta tb m tt s)) :
    RelS ((n, o, kf), (lr, lc, L), (rr, rc, R), (sr, sc, Z), (b, ta, tb, th, tw, tt + m, tn, g1, g2, g3, g4)) (goN lc n o lr rc ta tb m tt s) := by
  subst hb1
  exact rel_go h hm hC
theorem rel_dr1 {Z2 : wF} (h : RelS ((n, o, kf), (lr, lc, L), (rr, rc, R), (sr, sc, Z), (b, ta, tb, th, tw, tt, tn, sm0, mt, rw_, dn)) s) (hb1 : b = 1) (hZ2 : RelZ lr rc Z2 (drF n lr rc ta tb s)) :
    RelS ((n, o, kf), (lr, lc, L), (rr, rc, R), (sr, sc, Z2), (0, ta, tb, th, tw, tt, tn, sm0, mt, rw_, dn)) (drF n lr rc ta tb s) := by
  subst hb1
  exact rel_dr h hZ2
end KEEP
-- the trial: the cell left out may be another also while a tile is at work
theorem rel_try {u : SD} {s : wF} {v : Nat} (h : RelS u s) (hv : v ≤ u.1.1) : RelS ((u.1.1, v, u.1.2.2), u.2) (upd s 4 (nI v)) := by
  obtain ⟨⟨n, o, kf⟩, ⟨lr, lc, L⟩, ⟨rr, rc, R⟩, ⟨sr, sc, Z⟩, b, ta, tb, th, tw, tt, tn, sm0, mt, rw_, dn⟩ := u
  obtain ⟨⟨q1, q2, q3, q4⟩, hO, hM, hd, hZ, hb, hT⟩ := h
  refine ⟨⟨?_, upd_s, ⟨q3.1, q3.2.1, hv⟩, fun p hp => ?_⟩, OkQ_e hO fun p hp => upd_n (by omega), RelM_e hM fun p hp => upd_n (by omega), hd, hZ.lo fun p h1 h2 => upd_n (by omega), ⟨hb.1, ?_⟩, fun e => ?_⟩
  · rw [upd_n (by omega)]; exact q1
  · rw [upd_n (by omega)]; exact q4 p hp
  · rw [upd_n (by omega)]; exact hb.2
  · obtain ⟨⟨t1, t2, t3, t4⟩, t5, t6, t7⟩ := hT e
    exact ⟨⟨by rw [upd_n (by omega)]; exact t1, by rw [upd_n (by omega)]; exact t2, by rw [upd_n (by omega)]; exact t3, t4⟩, CellR_hi t5 (upd_hi (by decide)), CellV_hi t6 (upd_hi (by decide)), CellS_hi t7 (upd_hi (by decide))⟩
theorem HRel_pred {n : Nat} {u0 u1 u2 u3 : SD} {pst : Nat → wF} (h : HRel n u0 u1 u2 u3 pst) : HRel (n - 1) u0 u1 u2 u3 pst := ⟨fun q => h.1 (by omega), fun q => h.2.1 (by omega), fun q => h.2.2.1 (by omega), fun q => h.2.2.2 (by omega)⟩
