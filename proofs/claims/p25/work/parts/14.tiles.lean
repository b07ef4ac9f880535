/-! tiles: what begin, ticks and drain make of the relation between a State and the 269 places; sums stay small -/
theorem tI_bm {z : Int} (h1 : -2147483648 ≤ z) (h2 : z < 2147483648) : z.bmod (2 ^ 32) = z := Int.bmod_eq_of_le (by omega) (by omega)
theorem tI_add {a b : Int32} (h1 : -2147483648 ≤ a.toInt + b.toInt) (h2 : a.toInt + b.toInt < 2147483648) : (a + b).toInt = a.toInt + b.toInt := by rw [Int32.toInt_add, tI_bm h1 h2]
theorem tI_mul {a b : Int32} (h1 : -2147483648 ≤ a.toInt * b.toInt) (h2 : a.toInt * b.toInt < 2147483648) : (a * b).toInt = a.toInt * b.toInt := by rw [Int32.toInt_mul, tI_bm h1 h2]
theorem tI_vv {v w : Int32} (hv : bV v) (hw : bV w) : (v * w).toInt = v.toInt * w.toInt ∧ -9801 ≤ (v * w).toInt ∧ (v * w).toInt ≤ 9801 := by
  have h1 : v.toInt.natAbs ≤ 99 := by have := hv.1; have := hv.2; omega
  have h2 : w.toInt.natAbs ≤ 99 := by have := hw.1; have := hw.2; omega
  have h3 : (v.toInt * w.toInt).natAbs ≤ 99 * 99 := by rw [Int.natAbs_mul]; exact Nat.mul_le_mul h1 h2
  have h4 : (v * w).toInt = v.toInt * w.toInt := tI_mul (by omega) (by omega)
  refine ⟨h4, ?_, ?_⟩ <;> rw [h4] <;> omega
theorem tI_tm {v w d : Int32} (hv : bV v) (hw : bV w) : -19602 ≤ (v * w * tmA d).toInt ∧ (v * w * tmA d).toInt ≤ 19602 := by
  obtain ⟨-, h1, h2⟩ := tI_vv hv hw
  have e0 : (nI 0).toInt = 0 := by decide
  have e1 : (nI 1).toInt = 1 := by decide
  have e2 : (nI 2).toInt = 2 := by decide
  unfold tmA
  split
  · rw [tI_mul (by rw [e0]; omega) (by rw [e0]; omega), e0]; omega
  · split
    · rw [tI_mul (by rw [e2]; omega) (by rw [e2]; omega), e2]; omega
    · rw [tI_mul (by rw [e1]; omega) (by rw [e1]; omega), e1]; omega
theorem bS_add {x v w d : Int32} {t : Nat} (h : bS x t) (ht : t ≤ 100) (hv : bV v) (hw : bV w) : bS (x + v * w * tmA d) (t + 1) := by
  obtain ⟨h1, h2⟩ := tI_tm (d := d) hv hw
  obtain ⟨h3, h4⟩ := h
  unfold bS
  rw [tI_add (by omega) (by omega)]
  omega
theorem bS_up {x : Int32} {t : Nat} (h : bS x t) : bS x (t + 1) := by
  unfold bS at h ⊢
  omega
theorem dnF_ind {P : Nat → wF → Prop} {step : Nat → wF → wF} : ∀ (m : Nat) (s : wF), (∀ i s, i < m → P (i + 1) s → P i (step i s)) → P m s → P 0 (dnF step m s)
  | 0, _, _, h => h
  | m + 1, s, hs, h => dnF_ind m (step m s) (fun i s hi => hs i s (Nat.lt_succ_of_lt hi)) (hs m s (Nat.lt_succ_self m) h)
def CellB (s : wF) (t : Nat) (P : Nat → Nat → Prop) : Prop := ∀ a b, a < 4 → b < 4 → bS (s (173 + 24 * a + 6 * b)) (t + 1) ∧ (P a b → bS (s (173 + 24 * a + 6 * b)) t)
theorem CellB_step {s : wF} {t i j : Nat} {P Q : Nat → Nat → Prop} {x y : Option Int32} {d : Int32} (h : CellB s t P) (ht : t ≤ 100) (hi : i < 4) (hj : j < 4) (hx : gV x) (hy : gV y) (h1 : P i j) (h2 : ∀ a b, Q a b → P a b ∧ ¬ (a = i ∧ b = j)) : CellB (cellU (173 + 24 * i + 6 * j) x y d s) t Q := by
  intro a b ha hb
  by_cases e : a = i ∧ b = j
  · obtain ⟨rfl, rfl⟩ := e
    refine ⟨?_, fun q => absurd ⟨rfl, rfl⟩ (h2 a b q).2⟩
    rw [cellU_0]
    have h3 := (h a b ha hb).2 h1
    split
    · exact bS_add h3 ht (gV_D hx) (gV_D hy)
    · exact bS_up h3
  · have n2 : cellU (173 + 24 * i + 6 * j) x y d s (173 + 24 * a + 6 * b) = s (173 + 24 * a + 6 * b) := cellU_ne (by omega)
    rw [n2]
    exact ⟨(h a b ha hb).1, fun q => (h a b ha hb).2 (h2 a b q).1⟩
theorem goF_S {n lr lc rc ta tb th tw tt tn o : Nat} {L R s : wF} (hM : RelM lr lc rc L R s) (hT : RelT n lr lc rc ta tb th tw tt tn s) (hq : 1 ≤ n ∧ n ≤ 4 ∧ o ≤ n) (hV : CellV s) (hS : CellS s tt) : CellS (goF lc n o lr rc ta tb tt s) (tt + 1) := by
  have h1 := hT.h4 hq
  have h2 := hT.w4 hq
  have h3 := hT.t20 hM hq
  have h4 : tt ≤ tn := hT.2.2.2.2.2.2.2.2
  rw [goF_eq hT]
  refine CellS_hi ?_ (upd_hi (by decide))
  have key := dnF_ind (P := fun m x => ((∀ p, p < 173 → x p = s p) ∧ CellV x) ∧ CellB x tt (fun a _ => a < m)) (step := fun i => dnF (cellF lc n o ta tb tt i) tw) th s (fun i x hi hx => ?_) ⟨⟨fun _ _ => rfl, hV⟩, fun a b ha hb => ⟨bS_up (hS a b ha hb), fun _ => hS a b ha hb⟩⟩
  · exact fun a b ha hb => (key.2 a b ha hb).1
  · have k2 := dnF_ind (P := fun m y => ((∀ p, p < 173 → y p = s p) ∧ CellV y) ∧ CellB y tt (fun a b => a < i ∨ (a = i ∧ b < m))) (step := cellF lc n o ta tb tt i) tw x (fun j y hj hy => ?_) ⟨hx.1, fun a b ha hb => ⟨(hx.2 a b ha hb).1, fun q => (hx.2 a b ha hb).2 (by rcases q with q | q <;> omega)⟩⟩
    · exact ⟨k2.1, fun a b ha hb => ⟨(k2.2 a b ha hb).1, fun q => (k2.2 a b ha hb).2 (Or.inl q)⟩⟩
    · obtain ⟨⟨hlo, hVy⟩, hBy⟩ := hy
      have hMy : RelM lr lc rc L R y := hM.lo (fun p hp _ => hlo p hp)
      have gl := gL_V (i := i) (j := j) (ta := ta) (n := n) (tt := tt) hMy hVy (by omega) (by omega) (by omega)
      have ga := gA_V (i := i) (j := j) (tb := tb) (n := n) (tt := tt) hMy hVy (by omega) (by omega) (by omega)
      exact ⟨⟨fun p hp => (cellF_lo p hp).trans (hlo p hp), CellV_step hVy gl ga⟩, CellB_step hBy (by omega) (by omega) (by omega) gl ga (Or.inr ⟨rfl, Nat.lt_succ_self j⟩) (fun a b q => ⟨by omega, by omega⟩)⟩
theorem goN_ok {n lr lc rc ta tb th tw tn o : Nat} {L R : wF} (hq : 1 ≤ n ∧ n ≤ 4 ∧ o ≤ n) : ∀ (m tt : Nat) (s : wF), RelM lr lc rc L R s → RelT n lr lc rc ta tb th tw tt tn s → CellV s → CellS s tt → m ≤ tn - tt →
    Lo (goN lc n o lr rc ta tb m tt s) s ∧ goN lc n o lr rc ta tb m tt s 8 = nI (tt + m) ∧ CellV (goN lc n o lr rc ta tb m tt s) ∧ CellS (goN lc n o lr rc ta tb m tt s) (tt + m)
  | 0, tt, s, hM, hT, hV, hS, _ => ⟨fun _ _ _ => rfl, hT.2.2.1, hV, hS⟩
  | m + 1, tt, s, hM, hT, hV, hS, hm => by
    have e1 : Lo (goF lc n o lr rc ta tb tt s) s := goF_Lo
    have e2 := hT.tick (tt2 := tt + 1) e1 upd_s (by omega)
    obtain ⟨h1, h2, h3, h4⟩ := goN_ok hq m (tt + 1) (goF lc n o lr rc ta tb tt s) (hM.lo e1) e2 (goF_V hM hT hq hV) (goF_S hM hT hq hV hS) (by omega)
    have e3 : tt + 1 + m = tt + (m + 1) := by omega
    rw [e3] at h2 h4
    exact ⟨h1.trans e1, h2, h3, h4⟩
/-- what reads neither the tile's numbers nor the results -/
def Lo5 (s' s : wF) : Prop := ∀ j, j < 173 → (j < 5 ∨ (8 < j ∧ j < 81) ∨ 153 ≤ j) → s' j = s j
theorem RelQ.lo5 {n o : Nat} {kf s s' : wF} (h : RelQ n o kf s) (e : Lo5 s' s) : RelQ n o kf s' := by
  obtain ⟨h1, h2, h3, h4⟩ := h
  exact ⟨by rw [e _ (by omega) (by omega)]; exact h1, by rw [e _ (by omega) (by omega)]; exact h2, h3, fun j hj => by rw [e _ (by omega) (by omega)]; exact h4 j hj⟩
theorem OkQ.lo5 {n : Nat} {s s' : wF} (h : OkQ n s) (e : Lo5 s' s) : OkQ n s' := by
  intro i j hi hj
  obtain ⟨q, h1, h2, h3⟩ := h i j hi hj
  exact ⟨q, h1, by rw [e _ (by omega) (by omega)]; exact h2, h3⟩
theorem RelM.lo5 {r k c : Nat} {L R s s' : wF} (h : RelM r k c L R s) (e : Lo5 s' s) : RelM r k c L R s' := by
  obtain ⟨h1, h2, h3, h4, h5, h6, h7⟩ := h
  exact ⟨by rw [e _ (by omega) (by omega)]; exact h1, by rw [e _ (by omega) (by omega)]; exact h2, by rw [e _ (by omega) (by omega)]; exact h3, h4, fun j hj => by rw [e _ (by omega) (by omega)]; exact h5 j hj, fun j hj => by rw [e _ (by omega) (by omega)]; exact h6 j hj, fun j hj => by rw [e _ (by omega) (by omega)]; exact h7 j hj⟩
theorem Lo.five {s' s : wF} (h : Lo s' s) : Lo5 s' s := fun j hj h5 => h j hj (by omega)
theorem bgF_5 {i j : Nat} {s : wF} : bgF i j s 5 = nI 1 := by
  unfold bgF
  rw [clr_out (by omega), upd_n (by omega), upd_n (by omega), upd_n (by omega), upd_s]
theorem bgF_6 {i j : Nat} {s : wF} : bgF i j s 6 = nI i := by
  unfold bgF
  rw [clr_out (by omega), upd_n (by omega), upd_n (by omega), upd_s]
theorem bgF_7 {i j : Nat} {s : wF} : bgF i j s 7 = nI j := by
  unfold bgF
  rw [clr_out (by omega), upd_n (by omega), upd_s]
theorem bgF_8 {i j : Nat} {s : wF} : bgF i j s 8 = nI 0 := by
  unfold bgF
  rw [clr_out (by omega), upd_s]
theorem bgF_e {i j : Nat} {s : wF} : ∀ p, p < 173 → (p < 5 ∨ 8 < p) → bgF i j s p = s p := fun p hp h => by
  unfold bgF
  rw [clr_out (by omega), upd_n (by omega), upd_n (by omega), upd_n (by omega), upd_n (by omega)]
theorem bgF_c {i j : Nat} {s : wF} : ∀ p, 173 ≤ p → p < 269 → bgF i j s p = nI 0 := fun p h1 h2 => by
  unfold bgF
  rw [clr_in h1 h2]
theorem rel_bg {n o lr lc rr rc sr sc b ta tb th tw tt tn i j : Nat} {kf L R Z sm0 mt rw_ dn s : wF} (h : RelS ((n, o, kf), (lr, lc, L), (rr, rc, R), (sr, sc, Z), (b, ta, tb, th, tw, tt, tn, sm0, mt, rw_, dn)) s) (hi : n * i < lr) (hj : n * j < rc) :
    RelS ((n, o, kf), (lr, lc, L), (rr, rc, R), (sr, sc, Z), (1, i, j, min n (lr - n * i), min n (rc - n * j), 0, need lc n lr rc i j, fillF 16 (nI 0) sm0, fillF 16 (nI 0) mt, fillF 16 NO rw_, fillF 16 NO dn)) (bgF i j s) := by
  obtain ⟨hQ, hO, hM, hd, hZ, hb, -⟩ := h
  have e5 : Lo5 (bgF i j s) s := fun p hp h5 => bgF_e p hp (by omega)
  refine ⟨hQ.lo5 e5, hO.lo5 e5, hM.lo5 e5, hd, hZ.lo (fun p h1 h2 => bgF_e p (by omega) (by omega)), ⟨by omega, bgF_5⟩, fun _ => ⟨⟨bgF_6, bgF_7, bgF_8, hi, hj, rfl, rfl, rfl, Nat.zero_le _⟩, ?_, ?_, ?_⟩⟩
  · intro a c ha hc
    rw [fillF_lt (by omega), fillF_lt (by omega), fillF_lt (by omega), fillF_lt (by omega), bgF_c _ (by omega) (by omega), bgF_c _ (by omega) (by omega), bgF_c _ (by omega) (by omega), bgF_c _ (by omega) (by omega), bgF_c _ (by omega) (by omega), bgF_c _ (by omega) (by omega)]
    exact ⟨rfl, rfl, Or.inr ⟨rfl, rfl⟩, Or.inr ⟨rfl, rfl⟩⟩
  · intro a c ha hc
    rw [bgF_c _ (by omega) (by omega), bgF_c _ (by omega) (by omega)]
    exact ⟨bV_0, bV_0⟩
  · intro a c ha hc
    rw [bgF_c _ (by omega) (by omega)]
    exact bS_0 _
theorem rel_go {n o lr lc rr rc sr sc ta tb th tw tt tn m : Nat} {kf L R Z sm0 mt rw_ dn g1 g2 g3 g4 s : wF} (h : RelS ((n, o, kf), (lr, lc, L), (rr, rc, R), (sr, sc, Z), (1, ta, tb, th, tw, tt, tn, sm0, mt, rw_, dn)) s) (hm : m ≤ tn - tt) (hC : CellR g1 g2 g3 g4 (goN lc n o lr rc ta tb m tt s)) :
    RelS ((n, o, kf), (lr, lc, L), (rr, rc, R), (sr, sc, Z), (1, ta, tb, th, tw, tt + m, tn, g1, g2, g3, g4)) (goN lc n o lr rc ta tb m tt s) := by
  obtain ⟨hQ, hO, hM, hd, hZ, hb, hT⟩ := h
  obtain ⟨hT, -, hV, hS⟩ := hT rfl
  obtain ⟨h1, h2, h3, h4⟩ := goN_ok (o := o) hQ.2.2.1 m tt s hM hT hV hS hm
  have h9 : tt ≤ tn := hT.2.2.2.2.2.2.2.2
  exact ⟨hQ.lo h1, hO.lo h1, hM.lo h1, hd, hZ.lo (fun p h5 h6 => h1 p (by omega) (by omega)), ⟨hb.1, by rw [h1 5 (by omega) (by omega)]; exact hb.2⟩, fun _ => ⟨hT.tick h1 h2 (by omega), hC, h3, h4⟩⟩
theorem upF_Lo5 {n r c ta tb : Nat} {s : wF} : ∀ p, p < 81 → p ≠ 5 → drF n r c ta tb s p = s p := fun p hp h5 => by
  unfold drF
  rw [upd_n h5]
  exact upF_inv (P := fun x => ∀ p, p < 81 → x p = s p) _ _ (fun i x _ hx => upF_inv (P := fun x => ∀ p, p < 81 → x p = s p) _ _ (fun j y _ hy p hp => (drC_lo p hp).trans (hy p hp)) hx) (fun _ _ => rfl) p hp
theorem drF_hi {n r c ta tb : Nat} {s : wF} (h1 : n * ta + min n (r - n * ta) ≤ 6) (h2 : n * tb + min n (c - n * tb) ≤ 6) : ∀ p, 153 ≤ p → drF n r c ta tb s p = s p := fun p hp => by
  unfold drF
  rw [upd_n (by omega)]
  exact upF_inv (P := fun x => ∀ p, 153 ≤ p → x p = s p) _ _ (fun i x hi hx => upF_inv (P := fun x => ∀ p, 153 ≤ p → x p = s p) _ _ (fun j y hj hy p hp => (drC_hi (by omega) p hp).trans (hy p hp)) hx) (fun _ _ => rfl) p hp
theorem drF_5 {n r c ta tb : Nat} {s : wF} : drF n r c ta tb s 5 = nI 0 := upd_s
theorem rel_dr {n o lr lc rr rc sr sc ta tb th tw tt tn : Nat} {kf L R Z Z2 sm0 mt rw_ dn s : wF} (h : RelS ((n, o, kf), (lr, lc, L), (rr, rc, R), (sr, sc, Z), (1, ta, tb, th, tw, tt, tn, sm0, mt, rw_, dn)) s) (hZ2 : RelZ lr rc Z2 (drF n lr rc ta tb s)) :
    RelS ((n, o, kf), (lr, lc, L), (rr, rc, R), (sr, sc, Z2), (0, ta, tb, th, tw, tt, tn, sm0, mt, rw_, dn)) (drF n lr rc ta tb s) := by
  obtain ⟨hQ, hO, hM, hd, hZ, hb, hT⟩ := h
  obtain ⟨hT, -, hV, hS⟩ := hT rfl
  have h1 := hT.h4 hQ.2.2.1
  have h2 := hT.w4 hQ.2.2.1
  have h3 := hM.2.2.2.1
  have e5 : Lo5 (drF n lr rc ta tb s) s := fun p hp h5 => by
    rcases Nat.lt_or_ge p 81 with q | q
    · exact upF_Lo5 p q (by omega)
    · exact drF_hi (by have := hT.2.2.2.2.2.1; omega) (by have := hT.2.2.2.2.2.2.1; omega) p (by omega)
  exact ⟨hQ.lo5 e5, hO.lo5 e5, hM.lo5 e5, hd, hZ2, ⟨by omega, drF_5⟩, fun q => absurd q (by decide)⟩
theorem tls_lt {i len n : Nat} (h : i < tls len n) (hn : 1 ≤ n) : n * i < len := by
  unfold tls at h
  have h2 : i + 1 ≤ (len + n - 1) / n := h
  rw [Nat.le_div_iff_mul_le hn] at h2
  have h3 : (i + 1) * n = n * i + n := by rw [Nat.add_mul, Nat.one_mul, Nat.mul_comm]
  omega
theorem tls_6 {len n : Nat} (hl : len ≤ 6) (hn : 1 ≤ n) : tls len n ≤ 6 := by
  unfold tls
  have : (len + n - 1) / n < 7 := by
    rw [Nat.div_lt_iff_lt_mul hn]
    have : 7 * n = 6 * n + n := by omega
    have h6 : 6 ≤ 6 * n := by omega
    omega
  omega
