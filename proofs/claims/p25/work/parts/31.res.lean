/-! res: results of drained tiles by the formula; sets of bits and their sizes; what is counted over them -/
def inT (n r c ta tb x y : Nat) : Prop := (n * ta ≤ x ∧ x < n * ta + min n (r - n * ta)) ∧ (n * tb ≤ y ∧ y < n * tb + min n (c - n * tb))
theorem dv4 {n x t : Nat} (hn : 1 ≤ n ∧ n ≤ 4) : x / n = t ↔ (n * t ≤ x ∧ x < n * t + n) := by
  rcases (show n = 1 ∨ n = 2 ∨ n = 3 ∨ n = 4 by omega) with rfl | rfl | rfl | rfl <;> omega
theorem md4 {n x t : Nat} (hn : 1 ≤ n ∧ n ≤ 4) (h : n * t ≤ x) (h2 : x < n * t + n) : x % n = x - n * t := by
  rcases (show n = 1 ∨ n = 2 ∨ n = 3 ∨ n = 4 by omega) with rfl | rfl | rfl | rfl <;> omega
theorem inT_iff {n r c ta tb x y : Nat} (hn : 1 ≤ n ∧ n ≤ 4) : inT n r c ta tb x y ↔ ((x < r ∧ y < c) ∧ x / n = ta ∧ y / n = tb) := by
  unfold inT
  rw [dv4 hn, dv4 hn]
  constructor
  · rintro ⟨⟨h1, h2⟩, h3, h4⟩
    exact ⟨⟨by omega, by omega⟩, ⟨by omega, by omega⟩, by omega, by omega⟩
  · rintro ⟨⟨h1, h2⟩, ⟨h3, h4⟩, h5, h6⟩
    exact ⟨⟨by omega, by omega⟩, by omega, by omega⟩
theorem tl_in {n r x : Nat} (hn : 1 ≤ n ∧ n ≤ 4) (h : x < r) : x / n < tls r n := by
  unfold tls
  rcases (show n = 1 ∨ n = 2 ∨ n = 3 ∨ n = 4 by omega) with rfl | rfl | rfl | rfl <;> omega
theorem upF_ind {P : Nat → wF → Prop} {step : Nat → wF → wF} : ∀ (m : Nat) (s : wF), P 0 s → (∀ i x, i < m → P i x → P (i + 1) (step i x)) → P m (upF step m s)
  | 0, _, h, _ => h
  | m + 1, s, h, hs => hs m _ (Nat.lt_succ_self m) (upF_ind m s h fun i x hi => hs i x (Nat.lt_succ_of_lt hi))
/-- some entries of the result are drained -/
def DR (n ta tb : Nat) (P : Nat → Nat → Prop) (s s' : wF) : Prop := (∀ p, 153 ≤ p → s' p = s p) ∧ ∀ x y, x < 6 → y < 6 → (P x y → s' (117 + (6 * x + y)) = nI 1 ∧ s' (81 + (6 * x + y)) = s (173 + 24 * (x - n * ta) + 6 * (y - n * tb))) ∧ (¬ P x y → s' (117 + (6 * x + y)) = s (117 + (6 * x + y)) ∧ s' (81 + (6 * x + y)) = s (81 + (6 * x + y)))
theorem DR_step {n ta tb i j : Nat} {P Q : Nat → Nat → Prop} {s x : wF} (h : DR n ta tb P s x) (hi : n * ta + i < 6) (hj : n * tb + j < 6) (hq : ∀ a b, Q a b ↔ (P a b ∨ (a = n * ta + i ∧ b = n * tb + j))) : DR n ta tb Q s (drC n ta tb i j x) := by
  refine ⟨fun p hp => (drC_hi (by omega) p hp).trans (h.1 p hp), fun a b ha hb => ?_⟩
  have h2 := h.2 a b ha hb
  unfold drC
  by_cases e : a = n * ta + i ∧ b = n * tb + j
  · obtain ⟨rfl, rfl⟩ := e
    refine ⟨fun _ => ?_, fun q => absurd ((hq _ _).mpr (Or.inr ⟨rfl, rfl⟩)) q⟩
    rw [upd_s, upd_n (by omega), upd_s, h.1 _ (by omega), Nat.add_sub_cancel_left, Nat.add_sub_cancel_left]
    exact ⟨rfl, rfl⟩
  · have e1 : 6 * a + b ≠ 6 * (n * ta + i) + (n * tb + j) := by omega
    rw [upd_n (by omega), upd_n (by omega), upd_n (by omega), upd_n (by omega)]
    refine ⟨fun q => h2.1 ?_, fun q => h2.2 (fun z => q ((hq a b).mpr (Or.inl z)))⟩
    rcases (hq a b).mp q with z | z
    · exact z
    · exact absurd z e
theorem drF_DR {n r c ta tb : Nat} {s : wF} (h1 : n * ta + min n (r - n * ta) ≤ 6) (h2 : n * tb + min n (c - n * tb) ≤ 6) : DR n ta tb (inT n r c ta tb) s (drF n r c ta tb s) := by
  have key : DR n ta tb (fun a b => (n * ta ≤ a ∧ a < n * ta + min n (r - n * ta)) ∧ (n * tb ≤ b ∧ b < n * tb + min n (c - n * tb))) s (upF (fun i => upF (drC n ta tb i) (min n (c - n * tb))) (min n (r - n * ta)) s) := by
    refine upF_ind (P := fun m x => DR n ta tb (fun a b => (n * ta ≤ a ∧ a < n * ta + m) ∧ (n * tb ≤ b ∧ b < n * tb + min n (c - n * tb))) s x) _ _ ⟨fun _ _ => rfl, fun a b _ _ => ⟨fun q => absurd q.1 (by omega), fun _ => ⟨rfl, rfl⟩⟩⟩ (fun i x hi hx => ?_)
    have k2 := upF_ind (P := fun m y => DR n ta tb (fun a b => ((n * ta ≤ a ∧ a < n * ta + i) ∧ (n * tb ≤ b ∧ b < n * tb + min n (c - n * tb))) ∨ (a = n * ta + i ∧ (n * tb ≤ b ∧ b < n * tb + m))) s y) (step := drC n ta tb i) (min n (c - n * tb)) x ?_ (fun j y hj hy => DR_step hy (by omega) (by omega) (fun a b => by omega))
    · refine ⟨k2.1, fun a b ha hb => ⟨fun q => (k2.2 a b ha hb).1 (by omega), fun q => (k2.2 a b ha hb).2 (by omega)⟩⟩
    · exact ⟨hx.1, fun a b ha hb => ⟨fun q => (hx.2 a b ha hb).1 (by omega), fun q => (hx.2 a b ha hb).2 (by omega)⟩⟩
  unfold drF
  exact ⟨fun p hp => (upd_n (by omega)).trans (key.1 p hp), fun a b ha hb => by rw [upd_n (by omega), upd_n (by omega)]; exact key.2 a b ha hb⟩
/-- what an entry of the result becomes -/
def RV (n o k : Nat) (s : wF) (x y : Nat) : Int32 := sumV (aZ s) (bZ s) (fZ s) o (x % n) (y % n) x y k
theorem dr_val {n r k c o ta tb t x y : Nat} {s : wF} (hn : 1 ≤ n ∧ n ≤ 4) (hC : CF (aZ s) (bZ s) (fZ s) k n o ta tb (min n (r - n * ta)) (min n (c - n * tb)) t s) (ht : t = need k n r c ta tb) (h : inT n r c ta tb x y) (hk : 1 ≤ k) : s (173 + 24 * (x - n * ta) + 6 * (y - n * tb)) = RV n o k s x y := by
  obtain ⟨⟨a1, a2⟩, b1, b2⟩ := h
  obtain ⟨h1, -⟩ := (hC (x - n * ta) (y - n * tb) (by omega) (by omega)).1 ⟨by omega, by omega⟩
  have e1 : n * ta + (x - n * ta) = x := by omega
  have e2 : n * tb + (y - n * tb) = y := by omega
  have e3 : metN k (x - n * ta) (y - n * tb) t = k := by unfold metN; unfold need at ht; omega
  rw [h1, e1, e2, e3]
  unfold RV
  rw [md4 hn a1 (by omega), md4 hn b1 (by omega)]
/-- some entries are those of tiles done one after the other -/
def TL (n o k : Nat) (P : Nat → Nat → Prop) (s s' : wF) : Prop := (∀ p, p < 173 → (p < 5 ∨ (8 < p ∧ p < 81) ∨ 153 ≤ p) → s' p = s p) ∧ ∀ x y, x < 6 → y < 6 → (P x y → s' (117 + (6 * x + y)) = nI 1 ∧ s' (81 + (6 * x + y)) = RV n o k s x y) ∧ (¬ P x y → s' (117 + (6 * x + y)) = s (117 + (6 * x + y)) ∧ s' (81 + (6 * x + y)) = s (81 + (6 * x + y)))
theorem RV_e {n o k x y : Nat} {s s' : wF} (h : ∀ p, 9 ≤ p → p < 173 → (p < 81 ∨ 153 ≤ p) → s' p = s p) (hn : 1 ≤ n ∧ n ≤ 4) (hx : x < 6) (hy : y < 6) (hk : k ≤ 6) : RV n o k s' x y = RV n o k s x y := by
  have m1 : x % n < 4 := Nat.lt_of_lt_of_le (Nat.mod_lt x (by omega)) hn.2
  have m2 : y % n < 4 := Nat.lt_of_lt_of_le (Nat.mod_lt y (by omega)) hn.2
  exact sumV_e (fun p hp => h (9 + p) (by omega) (by omega) (by omega)) (fun p hp => h (45 + p) (by omega) (by omega) (by omega)) (fun p hp => h (153 + p) (by omega) (by omega) (by omega)) m1 m2 hx hy hk
theorem TL_step {n r k c o i j : Nat} {P Q : Nat → Nat → Prop} {s x : wF} (hn : 1 ≤ n ∧ n ≤ 4 ∧ o ≤ n) (hb : 1 ≤ r ∧ r ≤ 6 ∧ 1 ≤ k ∧ k ≤ 6 ∧ 1 ≤ c ∧ c ≤ 6) (hv : ∀ j, j < 72 → bV (s (9 + j))) (e1 : s 1 = nI r) (e2 : s 2 = nI k) (e3 : s 3 = nI c) (h : TL n o k P s x) (hi : n * i < r) (hj : n * j < c) (hq : ∀ a b, Q a b ↔ (P a b ∨ inT n r c i j a b)) : TL n o k Q s (tlF k n o r c i j x) := by
  obtain ⟨x1, x2⟩ := h
  have hM0 : RelM r k c (aZ x) (bZ x) x := ⟨(x1 1 (by omega) (by omega)).trans e1, (x1 2 (by omega) (by omega)).trans e2, (x1 3 (by omega) (by omega)).trans e3, hb, fun _ _ => rfl, fun _ _ => rfl, fun p hp => by rw [x1 _ (by omega) (by omega)]; exact hv p hp⟩
  have b5 : Lo5 (bgF i j x) x := fun p hp h5 => bgF_e p hp (by omega)
  have hT : RelT n r k c i j (min n (r - n * i)) (min n (c - n * j)) 0 (need k n r c i j) (bgF i j x) := ⟨bgF_6, bgF_7, bgF_8, hi, hj, rfl, rfl, rfl, Nat.zero_le _⟩
  have hC := CF_goN (o := o) (a := aZ x) (b := bZ x) (f := fZ x) hn (need k n r c i j) 0 (bgF i j x) (hM0.lo5 b5) hT (Nat.le_refl _) (fun p hp => (b5 (9 + p) (by omega) (by omega)).symm) (fun p hp => (b5 (45 + p) (by omega) (by omega)).symm) (fun p hp => (b5 (153 + p) (by omega) (by omega)).symm) CF_bg
  rw [Nat.zero_add] at hC
  have g1 : Lo (goN k n o r c i j (need k n r c i j) 0 (bgF i j x)) (bgF i j x) := goN_lo _ _ _
  have t1 : ∀ p, p < 173 → (p < 5 ∨ 8 < p) → goN k n o r c i j (need k n r c i j) 0 (bgF i j x) p = x p := fun p hp h5 => (g1 p hp (by omega)).trans (bgF_e p hp h5)
  have t2 : ∀ p, 9 ≤ p → p < 173 → (p < 81 ∨ 153 ≤ p) → goN k n o r c i j (need k n r c i j) 0 (bgF i j x) p = s p := fun p h9 hp h5 => (t1 p hp (by omega)).trans (x1 p hp (by omega))
  have hC2 := CF_ab (r := r) (c := c) hC (fun p hp => t1 (9 + p) (by omega) (by omega)) (fun p hp => t1 (45 + p) (by omega) (by omega)) (fun p hp => t1 (153 + p) (by omega) (by omega)) (by omega) (by omega) ⟨by omega, by omega, by omega⟩
  revert hC2 g1 t1 t2
  unfold tlF
  generalize goN k n o r c i j (need k n r c i j) 0 (bgF i j x) = z
  intro g1 t1 t2 hC2
  obtain ⟨d1, d2⟩ := drF_DR (n := n) (r := r) (c := c) (ta := i) (tb := j) (s := z) (by omega) (by omega)
  refine ⟨fun p hp h5 => ?_, fun a b ha hb6 => ?_⟩
  · rcases Nat.lt_or_ge p 81 with q | q
    · rw [upF_Lo5 p q (by omega), t1 p hp (by omega)]
      exact x1 p hp h5
    · rw [d1 p (by omega), t1 p hp (by omega)]
      exact x1 p hp h5
  · by_cases e : inT n r c i j a b
    · refine ⟨fun _ => ?_, fun q => absurd ((hq a b).mpr (Or.inr e)) q⟩
      obtain ⟨f1, f2⟩ := (d2 a b ha hb6).1 e
      refine ⟨f1, ?_⟩
      rw [f2, dr_val ⟨hn.1, hn.2.1⟩ hC2 rfl e hb.2.2.1]
      exact RV_e t2 ⟨hn.1, hn.2.1⟩ ha hb6 hb.2.2.2.1
    · obtain ⟨f1, f2⟩ := (d2 a b ha hb6).2 e
      rw [f1, f2, t1 _ (by omega) (by omega), t1 _ (by omega) (by omega)]
      refine ⟨fun q => (x2 a b ha hb6).1 ?_, fun q => (x2 a b ha hb6).2 (fun w => q ((hq a b).mpr (Or.inl w)))⟩
      rcases (hq a b).mp q with w | w
      · exact w
      · exact absurd w e
theorem al_val {n r k c o : Nat} {s : wF} (hn : 1 ≤ n ∧ n ≤ 4 ∧ o ≤ n) (hb : 1 ≤ r ∧ r ≤ 6 ∧ 1 ≤ k ∧ k ≤ 6 ∧ 1 ≤ c ∧ c ≤ 6) (hv : ∀ j, j < 72 → bV (s (9 + j))) (e1 : s 1 = nI r) (e2 : s 2 = nI k) (e3 : s 3 = nI c) : TL n o k (fun x y => x < r ∧ y < c) s (alF k n o r c s) := by
  have hn2 : 1 ≤ n ∧ n ≤ 4 := ⟨hn.1, hn.2.1⟩
  have key : TL n o k (fun x y => (x < r ∧ y < c) ∧ x / n < tls r n) s (alF k n o r c s) := by
    unfold alF
    refine upF_ind (P := fun m x => TL n o k (fun a b => (a < r ∧ b < c) ∧ a / n < m) s x) _ _ ⟨fun _ _ _ => rfl, fun a b _ _ => ⟨fun q => absurd q.2 (Nat.not_lt_zero _), fun _ => ⟨rfl, rfl⟩⟩⟩ (fun i x hi hx => ?_)
    have k2 := upF_ind (P := fun m y => TL n o k (fun a b => (a < r ∧ b < c) ∧ (a / n < i ∨ (a / n = i ∧ b / n < m))) s y) (step := fun b => tlF k n o r c i b) (tls c n) x ?_ (fun j y hj hy => TL_step hn hb hv e1 e2 e3 hy (tls_lt hi hn.1) (tls_lt hj hn.1) (fun a b => by rw [inT_iff hn2]; omega))
    · refine ⟨k2.1, fun a b ha hb6 => ⟨fun q => (k2.2 a b ha hb6).1 ⟨q.1, ?_⟩, fun q => (k2.2 a b ha hb6).2 (fun w => q ⟨w.1, by omega⟩)⟩⟩
      rcases Nat.lt_or_ge (a / n) i with w | w
      · exact Or.inl w
      · exact Or.inr ⟨by omega, tl_in hn2 q.1.2⟩
    · exact ⟨hx.1, fun a b ha hb6 => ⟨fun q => (hx.2 a b ha hb6).1 ⟨q.1, q.2.elim id (fun z => absurd z.2 (Nat.not_lt_zero _))⟩, fun q => (hx.2 a b ha hb6).2 (fun w => q ⟨w.1, Or.inl w.2⟩)⟩⟩
  exact ⟨key.1, fun a b ha hb6 => ⟨fun q => (key.2 a b ha hb6).1 ⟨q, tl_in hn2 q.1⟩, fun q => (key.2 a b ha hb6).2 (fun w => q w.1)⟩⟩
-- sets of bits
def pcN : Nat → Nat → Nat
  | 0, _ => 0
  | n + 1, w => w % 2 + pcN n (w / 2)
theorem pcN_0 : ∀ n, pcN n 0 = 0
  | 0 => rfl
  | n + 1 => by
    show 0 % 2 + pcN n (0 / 2) = 0
    rw [show 0 / 2 = 0 from rfl, pcN_0 n]
theorem pcN_step : ∀ (n w : Nat), 0 < w → w < 2 ^ n → pcN n (w &&& (w - 1)) + 1 = pcN n w
  | 0, w, h0, h => absurd h (by rw [Nat.pow_zero]; omega)
  | n + 1, w, h0, h => by
    show (w &&& (w - 1)) % 2 + pcN n ((w &&& (w - 1)) / 2) + 1 = w % 2 + pcN n (w / 2)
    rw [Nat.and_div_two]
    have hm := Nat.and_mod_two_eq_one (a := w) (b := w - 1)
    rw [Nat.pow_succ] at h
    by_cases e : w % 2 = 1
    · have e1 : (w - 1) / 2 = w / 2 := by omega
      have e2 : ¬ (w &&& (w - 1)) % 2 = 1 := fun q => by have := (hm.mp q).2; omega
      rw [e1, Nat.and_self]
      omega
    · have e1 : (w - 1) / 2 = w / 2 - 1 := by omega
      have e2 : ¬ (w &&& (w - 1)) % 2 = 1 := fun q => e (hm.mp q).1
      have ih := pcN_step n (w / 2) (by omega) (by omega)
      rw [e1]
      omega
theorem and_pred_lt {w : Nat} (h : 0 < w) : (w &&& (w - 1)) < w := by
  have := Nat.and_le_right (n := w) (m := w - 1)
  omega
theorem ns_shift {f : Nat → Nat} : ∀ n, ns f (n + 1) = f 0 + ns (fun i => f (i + 1)) n
  | 0 => by show 0 + f 0 = f 0 + 0; omega
  | n + 1 => by
    show ns f (n + 1) + f (n + 1) = f 0 + (ns (fun i => f (i + 1)) n + f (n + 1))
    rw [ns_shift n]
    omega
theorem pcN_ns : ∀ (n w : Nat), pcN n w = ns (fun i => if w.testBit i = true then 1 else 0) n
  | 0, _ => rfl
  | n + 1, w => by
    rw [ns_shift]
    show w % 2 + pcN n (w / 2) = _
    rw [pcN_ns n (w / 2)]
    have e : ns (fun i => if (w / 2).testBit i = true then 1 else 0) n = ns (fun i => if w.testBit (i + 1) = true then 1 else 0) n := ns_ext n fun i _ => by rw [Nat.testBit_succ]
    rw [e, Nat.testBit_zero]
    have e2 : (if decide (w % 2 = 1) = true then 1 else 0) = w % 2 := by
      by_cases q : w % 2 = 1
      · rw [if_pos (decide_eq_true q)]; exact q.symm
      · rw [if_neg (by simp [q])]; omega
    rw [e2]
theorem ns_6 {f : Nat → Nat} : ∀ m, ns f (6 * m) = ns (fun i => ns (fun j => f (6 * i + j)) 6) m
  | 0 => rfl
  | m + 1 => by
    show ns f (6 * m + 6) = ns (fun i => ns (fun j => f (6 * i + j)) 6) m + ns (fun j => f (6 * m + j)) 6
    rw [← ns_6 m]
    simp only [ns, Nat.add_zero, Nat.zero_add]
    omega
theorem ns_5 {f : Nat → Nat} : ∀ m, ns f (5 * m) = ns (fun i => ns (fun j => f (5 * i + j)) 5) m
  | 0 => rfl
  | m + 1 => by
    show ns f (5 * m + 5) = ns (fun i => ns (fun j => f (5 * i + j)) 5) m + ns (fun j => f (5 * m + j)) 5
    rw [← ns_5 m]
    simp only [ns, Nat.add_zero, Nat.zero_add]
    omega
-- longs
theorem lw_or (a b : Nat) : lN a ||| lN b = lN (a ||| b) := by
  apply Int64.toBitVec_inj.1
  show BitVec.ofNat 64 a ||| BitVec.ofNat 64 b = BitVec.ofNat 64 (a ||| b)
  apply BitVec.eq_of_getLsbD_eq
  intro i hi
  simp [hi]
theorem lw_and (a b : Nat) : lN a &&& lN b = lN (a &&& b) := by
  apply Int64.toBitVec_inj.1
  show BitVec.ofNat 64 a &&& BitVec.ofNat 64 b = BitVec.ofNat 64 (a &&& b)
  apply BitVec.eq_of_getLsbD_eq
  intro i hi
  simp [hi]
theorem lw_shl : ∀ p, p < 36 → lN 1 <<< ((nI p).toInt64 &&& 63) = lN (2 ^ p) := by decide +kernel
theorem lw_am : ∀ p, p < 36 → (((nI p).toInt64 &&& 63).toBitVec.smod 64).toNat = p := by decide +kernel
theorem lw_shr {w p : Nat} (hw : w < 2 ^ 36) (hp : p < 36) : lN w >>> ((nI p).toInt64 &&& 63) = lN (w / 2 ^ p) := by
  have hd : w / 2 ^ p ≤ w := Nat.div_le_self _ _
  apply Int64.toInt_inj.mp
  have e : (lN w >>> ((nI p).toInt64 &&& 63)).toInt = (lN w).toInt >>> p := by
    conv => rhs; rw [← lw_am p hp]
    exact BitVec.toInt_sshiftRight ..
  rw [e, Int.shiftRight_eq_div_pow, pk_lT (by omega), pk_lT (by omega)]
  rfl
theorem lw_sub {w : Nat} (h : 0 < w) : lN w - lN 1 = lN (w - 1) := lN_sub h
theorem bit_set (n j i : Nat) : (n ||| 2 ^ j).testBit i = (n.testBit i || decide (i = j)) := by
  rw [Nat.testBit_or]
  by_cases h : j = i
  · subst h; simp
  · have h2 : ¬ i = j := fun e => h e.symm
    first | (simp [Nat.testBit_two_pow, h, h2]; done) | (simp [Nat.testBit_two_pow_of_ne h, h2]; done)
theorem or_lt36 {w p : Nat} (hw : w < 2 ^ 36) (hp : p < 36) : (w ||| 2 ^ p) < 2 ^ 36 := Nat.or_lt_two_pow hw (Nat.pow_lt_pow_right (by decide) hp)
theorem bit_div {w p : Nat} : (w / 2 ^ p &&& 1 = 1) ↔ w.testBit p = true := by
  rw [Nat.and_one_is_mod, Nat.testBit_eq_decide_div_mod_eq, decide_eq_true_iff]
