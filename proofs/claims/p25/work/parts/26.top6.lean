/-! top6: the text's fault, and the reading of a matrix -/
def zA : AS := (0, 0, 0, 0, 6, 0, 0, 0, fun _ => nI 0)
theorem SimZ {fp : Nat} {f : wF} : SimA zA (fp, 0, 0, 0, 6, 0, 0, 0, fillF 36 (nI 0) f) := ⟨rfl, rfl, rfl, rfl, rfl, rfl, rfl, fun q => absurd rfl q, fun _ hj => fillF_lt hj⟩
/-- the scan's place of fault, its kind, rows, columns, entries -/
def scP (T : Nat → Nat) (tl : Nat) : Nat := (scanA T tl zA).1.1
def scR (T : Nat → Nat) (tl : Nat) : Nat := (scanA T tl zA).1.2.1
def scF (T : Nat → Nat) (tl : Nat) : wF := (scanA T tl zA).1.2.2.2.2.2.2.2.2
def scM (T : Nat → Nat) (tl : Nat) : Nat := (scanA T tl zA).2.1
def scC (T : Nat → Nat) (tl : Nat) : Nat := (scanA T tl zA).2.2
theorem SimA_get {z y : AS} (h : SimA z y) : y.2.1 = z.2.1 ∧ (z.2.1 ≠ 0 → y.1 = z.1) ∧ ∀ j, j < 36 → y.2.2.2.2.2.2.2.2 j = z.2.2.2.2.2.2.2.2 j := by
  obtain ⟨fp, re, row, col, wid, ng, dg, vl, f⟩ := z
  obtain ⟨fp', re', row', col', wid', ng', dg', vl', f'⟩ := y
  exact ⟨h.1, h.2.2.2.2.2.2.2.1, h.2.2.2.2.2.2.2.2⟩
theorem scan_eq {T : Nat → Nat} {len fp : Nat} {f : wF} {u : AS × Nat × Nat} (h : u = scanA T len (fp, 0, 0, 0, 6, 0, 0, 0, fillF 36 (nI 0) f)) : u.1.2.1 = scR T len ∧ (scR T len ≠ 0 → u.1.1 = scP T len) ∧ (∀ j, j < 36 → u.1.2.2.2.2.2.2.2.2 j = scF T len j) ∧ u.2.1 = scM T len ∧ u.2.2 = scC T len := by
  subst h
  obtain ⟨h1, h2⟩ := SimA_scan (T := T) (len := len) (SimZ (fp := fp) (f := f))
  obtain ⟨g1, g2, g3⟩ := SimA_get h1
  exact ⟨g1, g2, g3, congrArg (·.1) h2, congrArg (·.2) h2⟩
theorem scR_2 (T : Nat → Nat) (len : Nat) : scR T len ≤ 2 := re_2 (by decide)
theorem InvA_z : InvA zA := ⟨by decide, by decide, by decide, by decide⟩
theorem InvB_z : InvB zA := ⟨by decide, fun _ => rfl, fun _ => by decide, by decide, fun _ _ => bV_0, fun _ _ _ _ => Or.inr (Or.inr rfl)⟩
theorem scan_okZ {T : Nat → Nat} {len : Nat} (h : scR T len = 0) : (1 ≤ scM T len ∧ scM T len ≤ 6) ∧ (1 ≤ scC T len ∧ scC T len ≤ 6) ∧ (∀ j, j < 36 → bV (scF T len j)) ∧ ∀ i j, i < 6 → j < 6 → (i < scM T len ∧ j < scC T len) ∨ scF T len (6 * i + j) = nI 0 := scan_ok InvA_z InvB_z h
def tfA (tl : Nat) (v : Int32) (T : Nat → Nat) : Int32 := if v.toInt = 0 ∨ v.toInt = 1 then (if scR T tl = 0 then kNF else if v.toInt = 0 then nI (scP T tl) else nI (scR T tl)) else kINV
def putM (a : Nat) (f : wF) (s : wF) : wF := fun p => if a ≤ p ∧ p < a + 36 then f (p - a) else s p
theorem putM_in {a j : Nat} {f s : wF} (h : j < 36) : putM a f s (a + j) = f j := by
  have h2 : a ≤ a + j ∧ a + j < a + 36 := by omega
  show (if a ≤ a + j ∧ a + j < a + 36 then f (a + j - a) else s (a + j)) = f j
  rw [if_pos h2, Nat.add_sub_cancel_left]
theorem putM_out {a p : Nat} {f s : wF} (h : p < a ∨ a + 36 ≤ p) : putM a f s p = s p := by
  have h2 : ¬ (a ≤ p ∧ p < a + 36) := by omega
  exact if_neg h2
/-- the left matrix, the right one, is the text's -/
def rdL (mr mc : Nat) (f : wF) (s : wF) : wF := clr 117 36 (putM 9 f (upd (upd (if s 2 = nI mc then s else clr 45 36 s) 2 (nI mc)) 1 (nI mr)))
def rdR (mr mc : Nat) (f : wF) (s : wF) : wF := clr 117 36 (putM 45 f (upd (upd (if s 2 = nI mr then s else clr 9 36 s) 2 (nI mr)) 3 (nI mc)))
def opRead (b tl : Nat) (v : Int32) (T : Nat → Nat) (s : wF) (pst : PF) (h : Nat) : OR := if v.toInt = 0 ∨ v.toInt = 1 then (if b = 1 ∨ scR T tl ≠ 0 then (kNP, s, pst, h) else (nI (scM T tl * scC T tl), (if v.toInt = 0 then rdL (scM T tl) (scC T tl) (scF T tl) s else rdR (scM T tl) (scC T tl) (scF T tl) s), chgP s pst h, chgN h)) else (kINV, s, pst, h)
theorem nI_inj {a b : Nat} (ha : a < 2147483648) (hb : b < 2147483648) (h : nI a = nI b) : a = b := by
  have h2 := congrArg Int32.toInt h
  rw [nI_toInt ha, nI_toInt hb] at h2
  omega
section READ
variable {n o lr lc rr rc sr sc b ta tb th tw tt tn mr mc : Nat} {kf L R Z sm0 mt rw_ dn s f e : wF}
theorem rel_readL (h : RelS ((n, o, kf), (lr, lc, L), (rr, rc, R), (sr, sc, Z), (b, ta, tb, th, tw, tt, tn, sm0, mt, rw_, dn)) s) (hb0 : b = 0) (h1 : 1 ≤ mr ∧ mr ≤ 6) (h2 : 1 ≤ mc ∧ mc ≤ 6) (he : ∀ j, j < 36 → e j = f j) (hf : ∀ j, j < 36 → bV (f j)) :
    RelS ((n, o, kf), (mr, mc, va_cpy e L 0 0 36), (mc, rc, if rr = mc then R else fillF 36 (nI 0) R), (mr, rc, fillF 36 NO Z), (b, ta, tb, th, tw, tt, tn, sm0, mt, rw_, dn)) (rdL mr mc f s) := by
  obtain ⟨hQ, hO, ⟨m1, m2, m3, m4, m5, m6, m7⟩, ⟨d1, d2, d3⟩, hZ, hb, hT⟩ := h
  have e2 : (s 2 = nI mc) ↔ rr = mc := by
    rw [m2, d1]
    exact ⟨fun q => nI_inj (by omega) (by omega) q, fun q => by rw [q]⟩
  have ho : ∀ p, p < 81 ∨ 153 ≤ p → rdL mr mc f s p = putM 9 f (upd (upd (if s 2 = nI mc then s else clr 45 36 s) 2 (nI mc)) 1 (nI mr)) p := fun p hp => clr_out (by omega)
  have hp : ∀ p, (p < 9 ∨ 45 ≤ p) → (p < 81 ∨ 153 ≤ p) → p ≠ 1 → p ≠ 2 → rdL mr mc f s p = (if s 2 = nI mc then s else clr 45 36 s) p := fun p q1 q2 q3 q4 => by rw [ho p q2, putM_out (by omega), upd_n q3, upd_n q4]
  have hs : ∀ p, (p < 9 ∨ 81 ≤ p) → (p < 81 ∨ 153 ≤ p) → p ≠ 1 → p ≠ 2 → rdL mr mc f s p = s p := fun p q1 q2 q3 q4 => by
    rw [hp p (by omega) q2 q3 q4]
    split
    · rfl
    · exact clr_out (by omega)
  have hR : ∀ j, j < 36 → (if rr = mc then R else fillF 36 (nI 0) R) j = rdL mr mc f s (45 + j) := fun j hj => by
    rw [hp (45 + j) (by omega) (by omega) (by omega) (by omega)]
    by_cases q : rr = mc
    · rw [if_pos q, if_pos (e2.mpr q)]; exact m6 j hj
    · rw [if_neg q, if_neg (fun z => q (e2.mp z)), clr_in (by omega) (by omega)]; exact fillF_lt hj
  have hL : ∀ j, j < 36 → rdL mr mc f s (9 + j) = f j := fun j hj => by rw [ho _ (by omega), putM_in hj]
  refine ⟨RelQ_e hQ fun p q => hs p (by omega) (by omega) (by omega) (by omega), OkQ_e hO fun p q => hs p (by omega) (by omega) (by omega) (by omega), ⟨?_, ?_, ?_, ⟨h1.1, h1.2, h2.1, h2.2, m4.2.2.2.2.1, m4.2.2.2.2.2⟩, fun j hj => ?_, hR, fun j hj => ?_⟩, ⟨rfl, rfl, rfl⟩, RelZ_clr fun j h3 h4 => clr_in h3 h4, ⟨hb.1, ?_⟩, fun q => absurd q (by omega)⟩
  · rw [ho 1 (by omega), putM_out (by omega), upd_s]
  · rw [ho 2 (by omega), putM_out (by omega), upd_n (by decide), upd_s]
  · rw [hs 3 (by omega) (by omega) (by omega) (by omega)]; exact m3
  · rw [cpy0 hj, hL j hj]; exact he j hj
  · rcases Nat.lt_or_ge j 36 with q | q
    · rw [hL j q]; exact hf j q
    · obtain ⟨i, rfl⟩ : ∃ i, j = 36 + i := ⟨j - 36, by omega⟩
      have g := hR i (by omega)
      rw [show 9 + (36 + i) = 45 + i by omega, ← g]
      split
      · rw [m6 i (by omega), show 45 + i = 9 + (36 + i) by omega]; exact m7 _ hj
      · rw [fillF_lt (by omega)]; exact bV_0
  · rw [hs 5 (by omega) (by omega) (by omega) (by omega)]; exact hb.2
theorem rel_readR (h : RelS ((n, o, kf), (lr, lc, L), (rr, rc, R), (sr, sc, Z), (b, ta, tb, th, tw, tt, tn, sm0, mt, rw_, dn)) s) (hb0 : b = 0) (h1 : 1 ≤ mr ∧ mr ≤ 6) (h2 : 1 ≤ mc ∧ mc ≤ 6) (he : ∀ j, j < 36 → e j = f j) (hf : ∀ j, j < 36 → bV (f j)) :
    RelS ((n, o, kf), (lr, mr, if lc = mr then L else fillF 36 (nI 0) L), (mr, mc, va_cpy e R 0 0 36), (lr, mc, fillF 36 NO Z), (b, ta, tb, th, tw, tt, tn, sm0, mt, rw_, dn)) (rdR mr mc f s) := by
  obtain ⟨hQ, hO, ⟨m1, m2, m3, m4, m5, m6, m7⟩, ⟨d1, d2, d3⟩, hZ, hb, hT⟩ := h
  have e2 : (s 2 = nI mr) ↔ lc = mr := by
    rw [m2]
    exact ⟨fun q => nI_inj (by omega) (by omega) q, fun q => by rw [q]⟩
  have ho : ∀ p, p < 81 ∨ 153 ≤ p → rdR mr mc f s p = putM 45 f (upd (upd (if s 2 = nI mr then s else clr 9 36 s) 2 (nI mr)) 3 (nI mc)) p := fun p hp => clr_out (by omega)
  have hp : ∀ p, (p < 45 ∨ 81 ≤ p) → (p < 81 ∨ 153 ≤ p) → p ≠ 3 → p ≠ 2 → rdR mr mc f s p = (if s 2 = nI mr then s else clr 9 36 s) p := fun p q1 q2 q3 q4 => by rw [ho p q2, putM_out (by omega), upd_n q3, upd_n q4]
  have hs : ∀ p, (p < 9 ∨ 81 ≤ p) → (p < 81 ∨ 153 ≤ p) → p ≠ 3 → p ≠ 2 → rdR mr mc f s p = s p := fun p q1 q2 q3 q4 => by
    rw [hp p (by omega) q2 q3 q4]
    split
    · rfl
    · exact clr_out (by omega)
  have hL : ∀ j, j < 36 → (if lc = mr then L else fillF 36 (nI 0) L) j = rdR mr mc f s (9 + j) := fun j hj => by
    rw [hp (9 + j) (by omega) (by omega) (by omega) (by omega)]
    by_cases q : lc = mr
    · rw [if_pos q, if_pos (e2.mpr q)]; exact m5 j hj
    · rw [if_neg q, if_neg (fun z => q (e2.mp z)), clr_in (by omega) (by omega)]; exact fillF_lt hj
  have hR : ∀ j, j < 36 → rdR mr mc f s (45 + j) = f j := fun j hj => by rw [ho _ (by omega), putM_in hj]
  refine ⟨RelQ_e hQ fun p q => hs p (by omega) (by omega) (by omega) (by omega), OkQ_e hO fun p q => hs p (by omega) (by omega) (by omega) (by omega), ⟨?_, ?_, ?_, ⟨m4.1, m4.2.1, h1.1, h1.2, h2.1, h2.2⟩, hL, fun j hj => ?_, fun j hj => ?_⟩, ⟨rfl, rfl, rfl⟩, RelZ_clr fun j h3 h4 => clr_in h3 h4, ⟨hb.1, ?_⟩, fun q => absurd q (by omega)⟩
  · rw [hs 1 (by omega) (by omega) (by omega) (by omega)]; exact m1
  · rw [ho 2 (by omega), putM_out (by omega), upd_n (by decide), upd_s]
  · rw [ho 3 (by omega), putM_out (by omega), upd_s]
  · rw [cpy0 hj, hR j hj]; exact he j hj
  · rcases Nat.lt_or_ge j 36 with q | q
    · rw [← hL j q]
      split
      · rw [m5 j q]; exact m7 _ hj
      · rw [fillF_lt q]; exact bV_0
    · obtain ⟨i, rfl⟩ : ∃ i, j = 36 + i := ⟨j - 36, by omega⟩
      rw [show 9 + (36 + i) = 45 + i by omega, hR i (by omega)]; exact hf i (by omega)
  · rw [hs 5 (by omega) (by omega) (by omega) (by omega)]; exact hb.2
end READ

