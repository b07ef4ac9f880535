/-! rel: the law's rows beside the class's state, and what each action makes of both -/
def LR (n r k c o b ta tb tt : Nat) (g ad bd fd rd : wF) (wd : Nat → Int64) (s : wF) : Prop := (g 0 = nI n ∧ g 1 = nI r ∧ g 2 = nI k ∧ g 3 = nI c ∧ g 4 = nI o ∧ g 5 = nI b) ∧ (b = 1 → g 6 = nI ta ∧ g 7 = nI tb ∧ g 8 = nI tt) ∧ (∀ p, p < 36 → ad p = s (9 + p)) ∧ (∀ p, p < 36 → bd p = s (45 + p)) ∧ (∀ p, p < 20 → fd p = s (153 + p)) ∧ ∃ z, wd 0 = lN z ∧ z < 2 ^ 36 ∧ ∀ x y, x < 6 → y < 6 → (z.testBit (6 * x + y) = true ↔ s (117 + (6 * x + y)) = nI 1) ∧ (s (117 + (6 * x + y)) = nI 1 → rd (6 * x + y) = s (81 + (6 * x + y)))
/-- what holds before and behind each action of the law -/
def LI (u : OD) (g ad bd fd rd : wF) (wd : Nat → Int64) : Prop := ∃ (n r k c o b ta tb tt : Nat) (s : wF) (T : Nat → Nat), OI n r k c o b ta tb tt u s T 0 ∧ LR n r k c o b ta tb tt g ad bd fd rd wd s
theorem kn_eq {s : wF} {z : Nat} (h : ∀ x y, x < 6 → y < 6 → (z.testBit (6 * x + y) = true ↔ s (117 + (6 * x + y)) = nI 1)) : pcN 36 z = knN s := by
  rw [pcN_ns]
  show ns (fun i => if z.testBit i = true then 1 else 0) (6 * 6) = _
  rw [ns_6 6]
  unfold knN
  refine ns_ext 6 fun i hi => ns_ext 6 fun j hj => ?_
  by_cases e : s (117 + (6 * i + j)) = nI 1
  · rw [if_pos ((h i j hi hj).mpr e), if_pos e]
  · rw [if_neg (fun q => e ((h i j hi hj).mp q)), if_neg e]
theorem bits_0 {s : wF} {rd : wF} (h : ∀ p, 117 ≤ p → p < 153 → s p = nI 0) : ∃ z, (vp_updL (fun _ => lN 0) 0 (lN 0)) 0 = lN z ∧ z < 2 ^ 36 ∧ ∀ x y, x < 6 → y < 6 → (z.testBit (6 * x + y) = true ↔ s (117 + (6 * x + y)) = nI 1) ∧ (s (117 + (6 * x + y)) = nI 1 → rd (6 * x + y) = s (81 + (6 * x + y))) := by
  have hne : ¬ nI 0 = nI 1 := by decide
  refine ⟨0, pk_uLs, by decide, fun x y hx hy => ?_⟩
  rw [h _ (by omega) (by omega)]
  exact ⟨⟨fun q => absurd q (by simp), fun q => absurd q hne⟩, fun q => absurd q hne⟩
section LRS
variable {n r k c o b ta tb tt : Nat} {g ad bd fd rd : wF} {wd : Nat → Int64} {s : wF}
theorem LR_side {m : Nat} {f2 : wF} (h : LR n r k c o b ta tb tt g ad bd fd rd wd s) (hf : ∀ p, p < 20 → f2 p = nI 0) : LR m r k c m 0 ta tb tt (upd (upd (upd g 0 (nI m)) 4 (nI m)) 5 (nI 0)) ad bd f2 rd (vp_updL wd 0 (lN 0)) (sideF m s) := by
  obtain ⟨⟨g0, g1, g2, g3, g4, g5⟩, g6, hA, hB, hF, z, hz, hz2, hZ⟩ := h
  have e : ∀ p, 9 ≤ p → p < 81 → sideF m s p = s p := fun p h1 h2 => by
    unfold sideF
    rw [clr_out (by omega), clr_out (by omega), upd_n (by omega), upd_n (by omega), upd_n (by omega)]
  obtain ⟨z2, -, k2, k3⟩ := bits_0 (s := sideF m s) (rd := rd) (fun p h1 h2 => by unfold sideF; exact clr_in h1 (by omega))
  have hne : ¬ nI 0 = nI 1 := by decide
  refine ⟨⟨(upd_n (by decide)).trans ((upd_n (by decide)).trans upd_s), (upd_n (by decide)).trans ((upd_n (by decide)).trans ((upd_n (by decide)).trans g1)), (upd_n (by decide)).trans ((upd_n (by decide)).trans ((upd_n (by decide)).trans g2)), (upd_n (by decide)).trans ((upd_n (by decide)).trans ((upd_n (by decide)).trans g3)), (upd_n (by decide)).trans upd_s, upd_s⟩, fun q => absurd q (by decide), fun p hp => (hA p hp).trans (e _ (by omega) (by omega)).symm, fun p hp => (hB p hp).trans (e _ (by omega) (by omega)).symm, fun p hp => ?_, 0, pk_uLs, by decide, fun x y hx hy => ?_⟩
  · rw [hf p hp]
    unfold sideF
    rw [clr_out (by omega), clr_in (by omega) (by omega)]
  · have e0 : sideF m s (117 + (6 * x + y)) = nI 0 := by unfold sideF; exact clr_in (by omega) (by omega)
    rw [e0]
    exact ⟨⟨fun q => absurd q (by simp), fun q => absurd q hne⟩, fun q => absurd q hne⟩
theorem LR_shape {r2 k2 c2 : Nat} {a2 b2 : wF} (h : LR n r k c o b ta tb tt g ad bd fd rd wd s) (ha : ∀ p, p < 36 → a2 p = nI 0) (hb : ∀ p, p < 36 → b2 p = nI 0) : LR n r2 k2 c2 o 0 ta tb tt (upd (upd (upd (upd g 1 (nI r2)) 2 (nI k2)) 3 (nI c2)) 5 (nI 0)) a2 b2 fd rd (vp_updL wd 0 (lN 0)) (shapeF r2 k2 c2 s) := by
  obtain ⟨⟨g0, g1, g2, g3, g4, g5⟩, g6, hA, hB, hF, z, hz, hz2, hZ⟩ := h
  have hne : ¬ nI 0 = nI 1 := by decide
  refine ⟨⟨(upd_n (by decide)).trans ((upd_n (by decide)).trans ((upd_n (by decide)).trans ((upd_n (by decide)).trans g0))), (upd_n (by decide)).trans ((upd_n (by decide)).trans ((upd_n (by decide)).trans upd_s)), (upd_n (by decide)).trans ((upd_n (by decide)).trans upd_s), (upd_n (by decide)).trans upd_s, (upd_n (by decide)).trans ((upd_n (by decide)).trans ((upd_n (by decide)).trans ((upd_n (by decide)).trans g4))), upd_s⟩, fun q => absurd q (by decide), fun p hp => ?_, fun p hp => ?_, fun p hp => ?_, 0, pk_uLs, by decide, fun x y hx hy => ?_⟩
  · rw [ha p hp]
    unfold shapeF
    rw [clr_out (by omega), clr_in (by omega) (by omega)]
  · rw [hb p hp]
    unfold shapeF
    rw [clr_out (by omega), clr_in (by omega) (by omega)]
  · rw [hF p hp]
    unfold shapeF
    rw [clr_out (by omega), clr_out (by omega), upd_n (by omega), upd_n (by omega), upd_n (by omega), upd_n (by omega)]
  · have e0 : shapeF r2 k2 c2 s (117 + (6 * x + y)) = nI 0 := by unfold shapeF; exact clr_in (by omega) (by omega)
    rw [e0]
    exact ⟨⟨fun q => absurd q (by simp), fun q => absurd q hne⟩, fun q => absurd q hne⟩
theorem LR_begin {i j : Nat} (h : LR n r k c o b ta tb tt g ad bd fd rd wd s) : LR n r k c o 1 i j 0 (upd (upd (upd (upd g 5 (nI 1)) 6 (nI i)) 7 (nI j)) 8 (nI 0)) ad bd fd rd wd (bgF i j s) := by
  obtain ⟨⟨g0, g1, g2, g3, g4, g5⟩, g6, hA, hB, hF, z, hz, hz2, hZ⟩ := h
  have u4 : ∀ p, p < 5 → (upd (upd (upd (upd g 5 (nI 1)) 6 (nI i)) 7 (nI j)) 8 (nI 0)) p = g p := fun p hp => (upd_n (by omega)).trans ((upd_n (by omega)).trans ((upd_n (by omega)).trans (upd_n (by omega))))
  refine ⟨⟨(u4 0 (by decide)).trans g0, (u4 1 (by decide)).trans g1, (u4 2 (by decide)).trans g2, (u4 3 (by decide)).trans g3, (u4 4 (by decide)).trans g4, (upd_n (by decide)).trans ((upd_n (by decide)).trans ((upd_n (by decide)).trans upd_s))⟩, fun _ => ⟨(upd_n (by decide)).trans ((upd_n (by decide)).trans upd_s), (upd_n (by decide)).trans upd_s, upd_s⟩, fun p hp => (hA p hp).trans (bgF_e _ (by omega) (by omega)).symm, fun p hp => (hB p hp).trans (bgF_e _ (by omega) (by omega)).symm, fun p hp => (hF p hp).trans (bgF_e _ (by omega) (by omega)).symm, z, hz, hz2, fun x y hx hy => ?_⟩
  rw [bgF_e _ (by omega) (by omega), bgF_e _ (by omega) (by omega)]
  exact hZ x y hx hy
theorem LR_tick {m v : Nat} (h : LR n r k c o b ta tb tt g ad bd fd rd wd s) (hb : b = 1) (hv : v = tt + m) : LR n r k c o b ta tb (tt + m) (upd g 8 (nI v)) ad bd fd rd wd (goN k n o r c ta tb m tt s) := by
  obtain ⟨⟨g0, g1, g2, g3, g4, g5⟩, g6, hA, hB, hF, z, hz, hz2, hZ⟩ := h
  obtain ⟨g6, g7, g8⟩ := g6 hb
  have e : ∀ p, p < 173 → p ≠ 8 → goN k n o r c ta tb m tt s p = s p := goN_lo _ _ _
  refine ⟨⟨(upd_n (by decide)).trans g0, (upd_n (by decide)).trans g1, (upd_n (by decide)).trans g2, (upd_n (by decide)).trans g3, (upd_n (by decide)).trans g4, (upd_n (by decide)).trans g5⟩, fun _ => ⟨(upd_n (by decide)).trans g6, (upd_n (by decide)).trans g7, upd_s.trans (congrArg nI hv)⟩, fun p hp => (hA p hp).trans (e _ (by omega) (by omega)).symm, fun p hp => (hB p hp).trans (e _ (by omega) (by omega)).symm, fun p hp => (hF p hp).trans (e _ (by omega) (by omega)).symm, z, hz, hz2, fun x y hx hy => ?_⟩
  rw [e _ (by omega) (by omega), e _ (by omega) (by omega)]
  exact hZ x y hx hy
theorem RV_law {x y : Nat} (hN : ON n r k c o b ta tb tt s) (hA : ∀ p, p < 36 → ad p = s (9 + p)) (hB : ∀ p, p < 36 → bd p = s (45 + p)) (hF : ∀ p, p < 20 → fd p = s (153 + p)) (hx : x < 6) (hy : y < 6) : sumV ad bd fd o (x % n) (y % n) x y k = RV n o k s x y := by
  have h9 := hN.2.1
  exact sumV_e hA hB hF (mod_lt4 ⟨h9.1, h9.2.1⟩) (mod_lt4 ⟨h9.1, h9.2.1⟩) hx hy hN.2.2.1.2.2.2.1
theorem LR_drain {z z' : Nat} {rd' : wF} {wd' : Nat → Int64} (h : LR n r k c o b ta tb tt g ad bd fd rd wd s) (hN : ON n r k c o b ta tb tt s) (hb : b = 1) (ht : tt = need k n r c ta tb) (hz : wd 0 = lN z) (hz2 : z < 2 ^ 36) (hw : wd' 0 = lN z') (hD : DW n o k ad bd fd (inT n r c ta tb) rd z rd' z') :
    LR n r k c o 0 ta tb tt (upd g 5 (nI 0)) ad bd fd rd' wd' (drF n r c ta tb s) ∧ knN (drF n r c ta tb s) = pcN 36 z' := by
  obtain ⟨⟨g0, g1, g2, g3, g4, g5⟩, g6, hA, hB, hF, z0, hz0, hz02, hZ⟩ := h
  obtain rfl : z0 = z := (pk_lEQ (by omega) (by omega)).mp (hz0.symm.trans hz)
  obtain ⟨-, t1, t2, t3, hC⟩ := hN.2.2.2.2.1 hb
  have h9 := hN.2.1
  have h8 := hN.2.2.1
  obtain ⟨d1, d2⟩ := drF_DR (n := n) (r := r) (c := c) (ta := ta) (tb := tb) (s := s) (by omega) (by omega)
  have e : ∀ p, 9 ≤ p → p < 173 → (p < 81 ∨ 153 ≤ p) → drF n r c ta tb s p = s p := fun p h1 h2 h3 => by
    rcases Nat.lt_or_ge p 81 with q | q
    · exact upF_Lo5 p q (by omega)
    · exact d1 p (by omega)
  have key : ∀ x y, x < 6 → y < 6 → (z'.testBit (6 * x + y) = true ↔ drF n r c ta tb s (117 + (6 * x + y)) = nI 1) ∧ (drF n r c ta tb s (117 + (6 * x + y)) = nI 1 → rd' (6 * x + y) = drF n r c ta tb s (81 + (6 * x + y))) := by
    intro x y hx hy
    by_cases q : inT n r c ta tb x y
    · obtain ⟨f1, f2⟩ := (d2 x y hx hy).1 q
      obtain ⟨w1, w2⟩ := (hD.2 x y hx hy).1 q
      rw [f1, f2, w1, w2, dr_val ⟨h9.1, h9.2.1⟩ hC ht q h8.2.2.1]
      exact ⟨⟨fun _ => rfl, fun _ => rfl⟩, fun _ => RV_law hN hA hB hF hx hy⟩
    · obtain ⟨f1, f2⟩ := (d2 x y hx hy).2 q
      obtain ⟨w1, w2⟩ := (hD.2 x y hx hy).2 q
      rw [f1, f2, w1, w2]
      exact hZ x y hx hy
  exact ⟨⟨⟨(upd_n (by decide)).trans g0, (upd_n (by decide)).trans g1, (upd_n (by decide)).trans g2, (upd_n (by decide)).trans g3, (upd_n (by decide)).trans g4, upd_s⟩, fun q => absurd q (by decide), fun p hp => (hA p hp).trans (e _ (by omega) (by omega) (by omega)).symm, fun p hp => (hB p hp).trans (e _ (by omega) (by omega) (by omega)).symm, fun p hp => (hF p hp).trans (e _ (by omega) (by omega) (by omega)).symm, z', hw, hD.1, key⟩, (kn_eq fun x y hx hy => (key x y hx hy).1).symm⟩
theorem LR_all {z z' : Nat} {rd' : wF} {wd' : Nat → Int64} (h : LR n r k c o b ta tb tt g ad bd fd rd wd s) (hN : ON n r k c o b ta tb tt s) (hb : b = 0) (hz : wd 0 = lN z) (hz2 : z < 2 ^ 36) (hw : wd' 0 = lN z') (hD : DW n o k ad bd fd (fun x y => x < r ∧ y < c) rd z rd' z') :
    LR n r k c o 0 ta tb tt g ad bd fd rd' wd' (alF k n o r c s) := by
  obtain ⟨⟨g0, g1, g2, g3, g4, g5⟩, g6, hA, hB, hF, z0, hz0, hz02, hZ⟩ := h
  obtain rfl : z0 = z := (pk_lEQ (by omega) (by omega)).mp (hz0.symm.trans hz)
  subst hb
  obtain ⟨d1, d2⟩ := al_val hN.2.1 hN.2.2.1 hN.2.2.2.2.2.1 hN.1.2.1 hN.1.2.2.1 hN.1.2.2.2.1
  refine ⟨⟨g0, g1, g2, g3, g4, g5⟩, g6, fun p hp => (hA p hp).trans (d1 _ (by omega) (by omega)).symm, fun p hp => (hB p hp).trans (d1 _ (by omega) (by omega)).symm, fun p hp => (hF p hp).trans (d1 _ (by omega) (by omega)).symm, z', hw, hD.1, fun x y hx hy => ?_⟩
  by_cases q : x < r ∧ y < c
  · obtain ⟨f1, f2⟩ := (d2 x y hx hy).1 q
    obtain ⟨w1, w2⟩ := (hD.2 x y hx hy).1 q
    rw [f1, f2, w1, w2]
    exact ⟨⟨fun _ => rfl, fun _ => rfl⟩, fun _ => RV_law hN hA hB hF hx hy⟩
  · obtain ⟨f1, f2⟩ := (d2 x y hx hy).2 q
    obtain ⟨w1, w2⟩ := (hD.2 x y hx hy).2 q
    rw [f1, f2, w1, w2]
    exact hZ x y hx hy
theorem LR_set {q i j v : Nat} {x : Int32} {a2 b2 : wF} (h : LR n r k c o b ta tb tt g ad bd fd rd wd s) (hb : b = 0) (hq : q ≤ 1) (hi : i < 6) (hj : j < 6) (ha : a2 = if q = 0 then upd ad (6 * i + j) x else ad) (hb2 : b2 = if q = 0 then bd else upd bd (6 * i + j) x) : LR n r k c o b ta tb tt g a2 b2 fd rd (vp_updL wd 0 (lN 0)) (clr 117 36 (upd s (9 + 36 * q + 6 * i + j) x)) := by
  obtain ⟨⟨g0, g1, g2, g3, g4, g5⟩, g6, hA, hB, hF, z, hz, hz2, hZ⟩ := h
  have hne : ¬ nI 0 = nI 1 := by decide
  refine ⟨⟨g0, g1, g2, g3, g4, g5⟩, g6, fun p hp => ?_, fun p hp => ?_, fun p hp => ?_, 0, pk_uLs, by decide, fun x' y hx hy => ?_⟩
  · rw [clr_out (by omega), ha]
    by_cases e : q = 0
    · rw [if_pos e]
      by_cases e2 : p = 6 * i + j
      · rw [e2, upd_s, show 9 + (6 * i + j) = 9 + 36 * q + 6 * i + j by omega, upd_s]
      · rw [upd_n e2, upd_n (by omega)]; exact hA p hp
    · rw [if_neg e, upd_n (by omega)]; exact hA p hp
  · rw [clr_out (by omega), hb2]
    by_cases e : q = 0
    · rw [if_pos e, upd_n (by omega)]; exact hB p hp
    · rw [if_neg e]
      by_cases e2 : p = 6 * i + j
      · rw [e2, upd_s, show 45 + (6 * i + j) = 9 + 36 * q + 6 * i + j by omega, upd_s]
      · rw [upd_n e2, upd_n (by omega)]; exact hB p hp
  · rw [clr_out (by omega), upd_n (by omega)]; exact hF p hp
  · have e0 : clr 117 36 (upd s (9 + 36 * q + 6 * i + j) x) (117 + (6 * x' + y)) = nI 0 := clr_in (by omega) (by omega)
    rw [e0]
    exact ⟨⟨fun q => absurd q (by simp), fun q => absurd q hne⟩, fun q => absurd q hne⟩
theorem LR_fault {i j : Nat} {x : Int32} (h : LR n r k c o b ta tb tt g ad bd fd rd wd s) (hi : i < 4) (hj : j < 5) : LR n r k c o b ta tb tt g ad bd (upd fd (5 * i + j) x) rd wd (upd s (153 + 5 * i + j) x) := by
  obtain ⟨⟨g0, g1, g2, g3, g4, g5⟩, g6, hA, hB, hF, z, hz, hz2, hZ⟩ := h
  refine ⟨⟨g0, g1, g2, g3, g4, g5⟩, g6, fun p hp => (hA p hp).trans (upd_n (by omega)).symm, fun p hp => (hB p hp).trans (upd_n (by omega)).symm, fun p hp => ?_, z, hz, hz2, fun x' y hx hy => ?_⟩
  · by_cases e : p = 5 * i + j
    · rw [e, upd_s, ← Nat.add_assoc, upd_s]
    · rw [upd_n e, upd_n (by omega)]; exact hF p hp
  · rw [upd_n (by omega), upd_n (by omega)]; exact hZ x' y hx hy
theorem LR_leave {i : Nat} (h : LR n r k c o b ta tb tt g ad bd fd rd wd s) : LR n r k c i b ta tb tt (upd g 4 (nI i)) ad bd fd rd wd (upd s 4 (nI i)) := by
  obtain ⟨⟨g0, g1, g2, g3, g4, g5⟩, g6, hA, hB, hF, z, hz, hz2, hZ⟩ := h
  refine ⟨⟨(upd_n (by decide)).trans g0, (upd_n (by decide)).trans g1, (upd_n (by decide)).trans g2, (upd_n (by decide)).trans g3, upd_s, (upd_n (by decide)).trans g5⟩, fun q => ⟨(upd_n (by decide)).trans (g6 q).1, (upd_n (by decide)).trans (g6 q).2.1, (upd_n (by decide)).trans (g6 q).2.2⟩, fun p hp => (hA p hp).trans (upd_n (by omega)).symm, fun p hp => (hB p hp).trans (upd_n (by omega)).symm, fun p hp => (hF p hp).trans (upd_n (by omega)).symm, z, hz, hz2, fun x' y hx hy => ?_⟩
  rw [upd_n (by omega), upd_n (by omega)]; exact hZ x' y hx hy
end LRS
