/-! spec: the reference's state is a function of 269 places; what each step makes of it; how a State of the class goes with it -/
def clr (a m : Nat) (s : wF) : wF := fun j => if a ≤ j ∧ j < a + m then nI 0 else s j
theorem clr_0 (a : Nat) (s : wF) : clr a 0 s = s := by
  funext j
  have h : ¬ (a ≤ j ∧ j < a + 0) := by omega
  exact if_neg h
theorem clr_s (a i : Nat) (s : wF) : upd (clr a i s) (a + i) (nI 0) = clr a (i + 1) s := by
  funext j
  by_cases h : j = a + i
  · subst h
    have h2 : a ≤ a + i ∧ a + i < a + (i + 1) := by omega
    simp [upd, clr, h2]
  · have h2 : (a ≤ j ∧ j < a + (i + 1)) ↔ (a ≤ j ∧ j < a + i) := by omega
    simp only [upd, clr, if_neg h, h2]
theorem clr_in {a m j : Nat} {s : wF} (h : a ≤ j) (h2 : j < a + m) : clr a m s j = nI 0 := by simp [clr, h, h2]
theorem clr_out {a m j : Nat} {s : wF} (h : j < a ∨ a + m ≤ j) : clr a m s j = s j := by
  have h2 : ¬ (a ≤ j ∧ j < a + m) := by omega
  simp only [clr, if_neg h2]
theorem upd_s {f : wF} {k : Nat} {x : Int32} : upd f k x k = x := pk_us
theorem upd_n {f : wF} {k j : Nat} {x : Int32} (h : j ≠ k) : upd f k x j = f j := pk_un h
def bV (x : Int32) : Prop := -99 ≤ x.toInt ∧ x.toInt ≤ 99
def bS (x : Int32) (t : Nat) : Prop := -(19602 * (t : Int)) ≤ x.toInt ∧ x.toInt ≤ 19602 * (t : Int)
theorem bV_ne {x : Int32} (h : bV x) : x ≠ NO := by
  rintro rfl
  exact absurd h.1 (by decide)
theorem bS_ne {x : Int32} {t : Nat} (h : bS x t) (ht : t ≤ 20) : x ≠ NO := by
  rintro rfl
  have h1 : (NO : Int32).toInt = -999999999 := by decide
  have h2 := h.1
  rw [h1] at h2
  omega
theorem bV_0 : bV (nI 0) := by unfold bV; decide
theorem bS_0 (t : Nat) : bS (nI 0) t := by
  have h1 : (nI 0).toInt = 0 := by decide
  unfold bS
  rw [h1]
  omega
def upF (step : Nat → wF → wF) : Nat → wF → wF
  | 0, s => s
  | m + 1, s => step m (upF step m s)
def dnF (step : Nat → wF → wF) : Nat → wF → wF
  | 0, s => s
  | m + 1, s => dnF step m (step m s)
/-- what comes to a cell from the left, from above; the kind of its fault -/
def gL (k n ta tt i j : Nat) (s : wF) : Option Int32 := if j = 0 then (if i ≤ tt ∧ tt - i < k then some (s (9 + 6 * (n * ta + i) + (tt - i))) else none) else if s (173 + 24 * i + 6 * (j - 1) + 1) = nI 1 then some (s (173 + 24 * i + 6 * (j - 1) + 2)) else none
def gA (k n tb tt i j : Nat) (s : wF) : Option Int32 := if i = 0 then (if j ≤ tt ∧ tt - j < k then some (s (45 + 6 * (tt - j) + (n * tb + j))) else none) else if s (173 + 24 * (i - 1) + 6 * j + 3) = nI 1 then some (s (173 + 24 * (i - 1) + 6 * j + 4)) else none
def kdF (o i j : Nat) (s : wF) : Int32 := s (153 + 5 * i + (if j < o then j else j + 1))
def cellU (q : Nat) (x y : Option Int32) (d : Int32) (s : wF) : wF :=
  upd (upd (upd (upd (if x.isSome = true ∧ y.isSome = true then upd (upd s q (s q + x.getD (nI 0) * y.getD (nI 0) * tmA d)) (q + 5) (s (q + 5) + nI 1) else s) (q + 1) (if x.isSome = true then nI 1 else nI 0)) (q + 2) (if d = nI 3 then nI 0 else x.getD (nI 0))) (q + 3) (if y.isSome = true then nI 1 else nI 0)) (q + 4) (if d = nI 4 then nI 0 else y.getD (nI 0))
def cellF (k n o ta tb tt i j : Nat) (s : wF) : wF := cellU (173 + 24 * i + 6 * j) (gL k n ta tt i j s) (gA k n tb tt i j s) (kdF o i j s) s
def need (k n r c ta tb : Nat) : Nat := min n (r - n * ta) + min n (c - n * tb) + k - 2
def goF (k n o r c ta tb tt : Nat) (s : wF) : wF := upd (dnF (fun i => dnF (cellF k n o ta tb tt i) (min n (c - n * tb))) (min n (r - n * ta)) s) 8 (nI (tt + 1))
def goN (k n o r c ta tb : Nat) : Nat → Nat → wF → wF
  | 0, _, s => s
  | m + 1, tt, s => goN k n o r c ta tb m (tt + 1) (goF k n o r c ta tb tt s)
def bgF (ta tb : Nat) (s : wF) : wF := clr 173 96 (upd (upd (upd (upd s 5 (nI 1)) 6 (nI ta)) 7 (nI tb)) 8 (nI 0))
def drC (n ta tb i j : Nat) (s : wF) : wF := upd (upd s (81 + (6 * (n * ta + i) + (n * tb + j))) (s (173 + 24 * i + 6 * j))) (117 + (6 * (n * ta + i) + (n * tb + j))) (nI 1)
def drF (n r c ta tb : Nat) (s : wF) : wF := upd (upF (fun i => upF (drC n ta tb i) (min n (c - n * tb))) (min n (r - n * ta)) s) 5 (nI 0)
def tlF (k n o r c ta tb : Nat) (s : wF) : wF := drF n r c ta tb (goN k n o r c ta tb (need k n r c ta tb) 0 (bgF ta tb s))
def tls (len n : Nat) : Nat := (len + n - 1) / n
def alF (k n o r c : Nat) (s : wF) : wF := upF (fun a => upF (fun b => tlF k n o r c a b) (tls c n)) (tls r n) s
def tkN (k n r c : Nat) : Nat := ns (fun a => ns (fun b => need k n r c a b) (tls c n)) (tls r n)
/-- a flag and a number, as one number of the class -/
def flg (x h v : Int32) : Prop := (h = nI 1 ∧ x = v) ∨ (h = nI 0 ∧ x = NO)
def CellR (sm0 mt rw dn s : wF) : Prop := ∀ i j, i < 4 → j < 4 → sm0 (4 * i + j) = s (173 + 24 * i + 6 * j) ∧ mt (4 * i + j) = s (173 + 24 * i + 6 * j + 5) ∧ flg (rw (4 * i + j)) (s (173 + 24 * i + 6 * j + 1)) (s (173 + 24 * i + 6 * j + 2)) ∧ flg (dn (4 * i + j)) (s (173 + 24 * i + 6 * j + 3)) (s (173 + 24 * i + 6 * j + 4))
def CellV (s : wF) : Prop := ∀ i j, i < 4 → j < 4 → bV (s (173 + 24 * i + 6 * j + 2)) ∧ bV (s (173 + 24 * i + 6 * j + 4))
def CellS (s : wF) (t : Nat) : Prop := ∀ i j, i < 4 → j < 4 → bS (s (173 + 24 * i + 6 * j)) t
def RelQ (n o : Nat) (kf s : wF) : Prop := s 0 = nI n ∧ s 4 = nI o ∧ (1 ≤ n ∧ n ≤ 4 ∧ o ≤ n) ∧ ∀ j, j < 20 → kf j = s (153 + j)
def OkQ (n : Nat) (s : wF) : Prop := ∀ i j, i < 4 → j < 5 → ∃ q, q ≤ 4 ∧ s (153 + 5 * i + j) = nI q ∧ (q = 0 ∨ (i < n ∧ j ≤ n))
def RelM (r k c : Nat) (L R s : wF) : Prop := s 1 = nI r ∧ s 2 = nI k ∧ s 3 = nI c ∧ (1 ≤ r ∧ r ≤ 6 ∧ 1 ≤ k ∧ k ≤ 6 ∧ 1 ≤ c ∧ c ≤ 6) ∧ (∀ j, j < 36 → L j = s (9 + j)) ∧ (∀ j, j < 36 → R j = s (45 + j)) ∧ ∀ j, j < 72 → bV (s (9 + j))
def RelZ (r c : Nat) (Z s : wF) : Prop := ∀ i j, i < 6 → j < 6 → (s (117 + (6 * i + j)) = nI 1 ∧ i < r ∧ j < c ∧ Z (6 * i + j) = s (81 + (6 * i + j)) ∧ Z (6 * i + j) ≠ NO) ∨ (s (117 + (6 * i + j)) = nI 0 ∧ Z (6 * i + j) = NO)
def RelT (n r k c ta tb th tw tt tn : Nat) (s : wF) : Prop := s 6 = nI ta ∧ s 7 = nI tb ∧ s 8 = nI tt ∧ n * ta < r ∧ n * tb < c ∧ th = min n (r - n * ta) ∧ tw = min n (c - n * tb) ∧ tn = need k n r c ta tb ∧ tt ≤ tn
def RelS : SD → wF → Prop
  | ((n, o, kf), (lr, lc, L), (rr, rc, R), (sr, sc, Z), (b, ta, tb, th, tw, tt, tn, sm0, mt, rw, dn)), s => RelQ n o kf s ∧ OkQ n s ∧ RelM lr lc rc L R s ∧ (rr = lc ∧ sr = lr ∧ sc = rc) ∧ RelZ lr rc Z s ∧ (b ≤ 1 ∧ s 5 = nI b) ∧ (b = 1 → RelT n lr lc rc ta tb th tw tt tn s ∧ CellR sm0 mt rw dn s ∧ CellV s ∧ CellS s tt)
-- what reads only the first 173 places, and not the tick
def Lo (s' s : wF) : Prop := ∀ j, j < 173 → j ≠ 8 → s' j = s j
theorem Lo.trans {a b c : wF} (h : Lo a b) (g : Lo b c) : Lo a c := fun j hj h8 => (h j hj h8).trans (g j hj h8)
theorem RelQ.lo {n o : Nat} {kf s s' : wF} (h : RelQ n o kf s) (e : Lo s' s) : RelQ n o kf s' := by
  obtain ⟨h1, h2, h3, h4⟩ := h
  exact ⟨by rw [e _ (by omega) (by omega)]; exact h1, by rw [e _ (by omega) (by omega)]; exact h2, h3, fun j hj => by rw [e _ (by omega) (by omega)]; exact h4 j hj⟩
theorem OkQ.lo {n : Nat} {s s' : wF} (h : OkQ n s) (e : Lo s' s) : OkQ n s' := by
  intro i j hi hj
  obtain ⟨q, h1, h2, h3⟩ := h i j hi hj
  exact ⟨q, h1, by rw [e _ (by omega) (by omega)]; exact h2, h3⟩
theorem RelM.lo {r k c : Nat} {L R s s' : wF} (h : RelM r k c L R s) (e : Lo s' s) : RelM r k c L R s' := by
  obtain ⟨h1, h2, h3, h4, h5, h6, h7⟩ := h
  exact ⟨by rw [e _ (by omega) (by omega)]; exact h1, by rw [e _ (by omega) (by omega)]; exact h2, by rw [e _ (by omega) (by omega)]; exact h3, h4, fun j hj => by rw [e _ (by omega) (by omega)]; exact h5 j hj, fun j hj => by rw [e _ (by omega) (by omega)]; exact h6 j hj, fun j hj => by rw [e _ (by omega) (by omega)]; exact h7 j hj⟩
theorem RelZ.lo {r c : Nat} {Z s s' : wF} (h : RelZ r c Z s) (e : ∀ j, 81 ≤ j → j < 153 → s' j = s j) : RelZ r c Z s' := by
  intro i j hi hj
  rw [e (117 + (6 * i + j)) (by omega) (by omega), e (81 + (6 * i + j)) (by omega) (by omega)]
  exact h i j hi hj
-- a cell's step
theorem cellU_ne {q p : Nat} {x y : Option Int32} {d : Int32} {s : wF} (h : p < q ∨ q + 6 ≤ p) : cellU q x y d s p = s p := by
  unfold cellU
  rw [upd_n (by omega), upd_n (by omega), upd_n (by omega), upd_n (by omega)]
  split
  · rw [upd_n (by omega), upd_n (by omega)]
  · rfl
theorem cellU_1 {q : Nat} {x y : Option Int32} {d : Int32} {s : wF} : cellU q x y d s (q + 1) = if x.isSome = true then nI 1 else nI 0 := by
  unfold cellU
  rw [upd_n (by omega), upd_n (by omega), upd_n (by omega), upd_s]
theorem cellU_2 {q : Nat} {x y : Option Int32} {d : Int32} {s : wF} : cellU q x y d s (q + 2) = if d = nI 3 then nI 0 else x.getD (nI 0) := by
  unfold cellU
  rw [upd_n (by omega), upd_n (by omega), upd_s]
theorem cellU_3 {q : Nat} {x y : Option Int32} {d : Int32} {s : wF} : cellU q x y d s (q + 3) = if y.isSome = true then nI 1 else nI 0 := by
  unfold cellU
  rw [upd_n (by omega), upd_s]
theorem cellU_4 {q : Nat} {x y : Option Int32} {d : Int32} {s : wF} : cellU q x y d s (q + 4) = if d = nI 4 then nI 0 else y.getD (nI 0) := by
  unfold cellU
  rw [upd_s]
theorem cellU_0 {q : Nat} {x y : Option Int32} {d : Int32} {s : wF} : cellU q x y d s q = if x.isSome = true ∧ y.isSome = true then s q + x.getD (nI 0) * y.getD (nI 0) * tmA d else s q := by
  unfold cellU
  rw [upd_n (by omega), upd_n (by omega), upd_n (by omega), upd_n (by omega)]
  by_cases h : x.isSome = true ∧ y.isSome = true
  · rw [if_pos h, if_pos h, upd_n (by omega), upd_s]
  · rw [if_neg h, if_neg h]
theorem cellU_5 {q : Nat} {x y : Option Int32} {d : Int32} {s : wF} : cellU q x y d s (q + 5) = if x.isSome = true ∧ y.isSome = true then s (q + 5) + nI 1 else s (q + 5) := by
  unfold cellU
  rw [upd_n (by omega), upd_n (by omega), upd_n (by omega), upd_n (by omega)]
  by_cases h : x.isSome = true ∧ y.isSome = true
  · rw [if_pos h, if_pos h, upd_s]
  · rw [if_neg h, if_neg h]
theorem cellF_lo {k n o ta tb tt i j : Nat} {s : wF} : ∀ p, p < 173 → cellF k n o ta tb tt i j s p = s p := fun p hp => cellU_ne (by omega)
/-- an entry that comes -/
def gV (x : Option Int32) : Prop := ∀ v, x = some v → bV v
theorem gV_D {x : Option Int32} (h : gV x) : bV (x.getD (nI 0)) := by
  cases x with
  | none => exact bV_0
  | some v => exact h v rfl
theorem gL_V {r k c n ta tt i j : Nat} {L R s : wF} (hM : RelM r k c L R s) (hC : CellV s) (hi : i < 4) (hj : j < 4) (hr : n * ta + i < r) : gV (gL k n ta tt i j s) := by
  obtain ⟨-, -, -, hb, -, -, hv⟩ := hM
  intro v hx
  unfold gL at hx
  split at hx
  · split at hx
    · cases hx
      have := hv (6 * (n * ta + i) + (tt - i)) (by omega)
      rwa [← Nat.add_assoc] at this
    · cases hx
  · split at hx
    · cases hx
      exact (hC i (j - 1) hi (by omega)).1
    · cases hx
theorem gA_V {r k c n tb tt i j : Nat} {L R s : wF} (hM : RelM r k c L R s) (hC : CellV s) (hi : i < 4) (hj : j < 4) (hc : n * tb + j < c) : gV (gA k n tb tt i j s) := by
  obtain ⟨-, -, -, hb, -, -, hv⟩ := hM
  intro v hx
  unfold gA at hx
  split at hx
  · split at hx
    · cases hx
      have := hv (36 + (6 * (tt - j) + (n * tb + j))) (by omega)
      have e : 9 + (36 + (6 * (tt - j) + (n * tb + j))) = 45 + 6 * (tt - j) + (n * tb + j) := by omega
      rwa [e] at this
    · cases hx
  · split at hx
    · cases hx
      exact (hC (i - 1) j (by omega) hj).2
    · cases hx
theorem ix4 {i j a b : Nat} (hj : j < 4) (hb : b < 4) (h : ¬ (a = i ∧ b = j)) : 4 * a + b ≠ 4 * i + j := by omega
theorem flg_U {x : Option Int32} {d k0 : Int32} (hx : gV x) : flg (paO k0 (x.getD NO) d) (if x.isSome = true then nI 1 else nI 0) (if d = k0 then nI 0 else x.getD (nI 0)) := by
  cases x with
  | none =>
    right
    refine ⟨rfl, ?_⟩
    show (if d = k0 then (if NO = NO then NO else nI 0) else NO) = NO
    split <;> simp
  | some v =>
    left
    refine ⟨rfl, ?_⟩
    have hv : v ≠ NO := bV_ne (hx v rfl)
    show (if d = k0 then (if v = NO then NO else nI 0) else v) = if d = k0 then nI 0 else v
    rw [if_neg hv]
theorem getD_NO {x : Option Int32} (hx : gV x) : x.getD NO ≠ NO ↔ x.isSome = true := by
  cases x with
  | none => simp
  | some v => simp [bV_ne (hx v rfl)]
theorem getD_so {x : Option Int32} (hx : x.isSome = true) : x.getD NO = x.getD (nI 0) := by
  cases x with
  | none => cases hx
  | some v => rfl
theorem CellR_step {sm0 mt rw dn s : wF} {i j : Nat} {x y : Option Int32} {d : Int32} (h : CellR sm0 mt rw dn s) (hi : i < 4) (hj : j < 4) (hx : gV x) (hy : gV y) :
    CellR (upd sm0 (4 * i + j) (paS (x.getD NO) (y.getD NO) d (sm0 (4 * i + j)))) (upd mt (4 * i + j) (paM (x.getD NO) (y.getD NO) (mt (4 * i + j)))) (upd rw (4 * i + j) (paO (nI 3) (x.getD NO) d)) (upd dn (4 * i + j) (paO (nI 4) (y.getD NO) d)) (cellU (173 + 24 * i + 6 * j) x y d s) := by
  intro a b ha hb
  by_cases e : a = i ∧ b = j
  · obtain ⟨rfl, rfl⟩ := e
    obtain ⟨h1, h2, h3, h4⟩ := h a b ha hb
    rw [upd_s, upd_s, upd_s, upd_s, cellU_0, cellU_1, cellU_2, cellU_3, cellU_4, cellU_5]
    refine ⟨?_, ?_, flg_U hx, flg_U hy⟩
    · unfold paS
      by_cases g : x.isSome = true ∧ y.isSome = true
      · rw [if_pos g, if_pos ⟨(getD_NO hx).mpr g.1, (getD_NO hy).mpr g.2⟩, h1, getD_so g.1, getD_so g.2, Int32.mul_assoc, Int32.mul_comm (tmA d)]
      · rw [if_neg g, if_neg (fun q => g ⟨(getD_NO hx).mp q.1, (getD_NO hy).mp q.2⟩), h1]
    · unfold paM
      by_cases g : x.isSome = true ∧ y.isSome = true
      · rw [if_pos g, if_pos ⟨(getD_NO hx).mpr g.1, (getD_NO hy).mpr g.2⟩, h2]
      · rw [if_neg g, if_neg (fun q => g ⟨(getD_NO hx).mp q.1, (getD_NO hy).mp q.2⟩), h2]
  · have n1 := ix4 hj hb e
    have n2 : ∀ z, z < 6 → cellU (173 + 24 * i + 6 * j) x y d s (173 + 24 * a + 6 * b + z) = s (173 + 24 * a + 6 * b + z) := fun z hz => cellU_ne (by omega)
    have n3 := n2 0 (by omega)
    rw [Nat.add_zero] at n3
    rw [upd_n n1, upd_n n1, upd_n n1, upd_n n1, n3, n2 1 (by omega), n2 2 (by omega), n2 3 (by omega), n2 4 (by omega), n2 5 (by omega)]
    exact h a b ha hb
theorem bV_if {c : Prop} [Decidable c] {x : Int32} (h : bV x) : bV (if c then nI 0 else x) := by
  split
  · exact bV_0
  · exact h
theorem CellV_step {s : wF} {i j : Nat} {x y : Option Int32} {d : Int32} (h : CellV s) (hx : gV x) (hy : gV y) : CellV (cellU (173 + 24 * i + 6 * j) x y d s) := by
  intro a b ha hb
  by_cases e : 173 + 24 * a + 6 * b = 173 + 24 * i + 6 * j
  · rw [e, cellU_2, cellU_4]
    exact ⟨bV_if (gV_D hx), bV_if (gV_D hy)⟩
  · by_cases e2 : 173 + 24 * a + 6 * b + 2 < 173 + 24 * i + 6 * j ∨ 173 + 24 * i + 6 * j + 6 ≤ 173 + 24 * a + 6 * b
    · rw [cellU_ne (by omega), cellU_ne (by omega)]
      exact h a b ha hb
    · exfalso
      omega
theorem fL_4 {tt i k : Nat} (h : vp_in (nI tt - nI i) k) (htt : tt ≤ 20 := by omega) (hi : i < 4 := by omega) : i ≤ tt ∧ tt - i < k := by
  rcases Nat.lt_or_ge tt i with g | g
  · exact absurd (pk_sneg (Nat.lt_of_lt_of_le hi (by decide)) g) (fun q => h (Or.inl q))
  · refine ⟨g, ?_⟩
    rw [pk_sub g] at h
    have h2 := (vp_in_iff.mp h).2
    rw [nI_toInt (by omega)] at h2
    omega
theorem fL_1 {k n ta tt i j : Nat} {s : wF} {x : Int32} (h : flg x (s (173 + 24 * i + 6 * (j - 1) + 1)) (s (173 + 24 * i + 6 * (j - 1) + 2))) (hj : 0 < j) : x = (gL k n ta tt i j s).getD NO := by
  unfold gL
  rw [if_neg (Nat.ne_of_gt hj)]
  rcases h with ⟨h1, h2⟩ | ⟨h1, h2⟩
  · rw [if_pos h1]; exact h2
  · rw [if_neg (by rw [h1]; decide)]; exact h2
theorem fA_1 {k n tb tt i j : Nat} {s : wF} {x : Int32} (h : flg x (s (173 + 24 * (i - 1) + 6 * j + 3)) (s (173 + 24 * (i - 1) + 6 * j + 4))) (hi : 0 < i) : x = (gA k n tb tt i j s).getD NO := by
  unfold gA
  rw [if_neg (Nat.ne_of_gt hi)]
  rcases h with ⟨h1, h2⟩ | ⟨h1, h2⟩
  · rw [if_pos h1]; exact h2
  · rw [if_neg (by rw [h1]; decide)]; exact h2
theorem fL_2 {r k c n ta tt i j : Nat} {L R s : wF} (hM : RelM r k c L R s) (hj : j = 0) (g1 : i ≤ tt) (g2 : tt - i < k) (hr : n * ta + i < r) : L (6 * (n * ta + i) + (tt - i)) = (gL k n ta tt i j s).getD NO := by
  obtain ⟨-, -, -, hb, hL, -, -⟩ := hM
  unfold gL
  rw [if_pos hj, if_pos ⟨g1, g2⟩]
  show _ = s (9 + 6 * (n * ta + i) + (tt - i))
  rw [hL _ (by omega), Nat.add_assoc]
theorem fA_2 {r k c n tb tt i j : Nat} {L R s : wF} (hM : RelM r k c L R s) (hi : i = 0) (g1 : j ≤ tt) (g2 : tt - j < k) (hr : n * tb + j < c) : R (6 * (tt - j) + (n * tb + j)) = (gA k n tb tt i j s).getD NO := by
  obtain ⟨-, -, -, hb, -, hR, -⟩ := hM
  unfold gA
  rw [if_pos hi, if_pos ⟨g1, g2⟩]
  show _ = s (45 + 6 * (tt - j) + (n * tb + j))
  rw [hR _ (by omega), Nat.add_assoc]
theorem fL_3 {k n ta tt i j r : Nat} {s : wF} (hj : j = 0) (h : ¬ (vp_in (nI (n * ta + i)) r ∧ vp_in (nI tt - nI i) k)) (hr : n * ta + i < r := by omega) (hr2 : r < 2147483648 := by omega) (hk : k < 2147483648 := by omega) : NO = (gL k n ta tt i j s).getD NO := by
  unfold gL
  rw [if_pos hj, if_neg]
  · rfl
  · rintro ⟨g1, g2⟩
    exact h ⟨vp_in_nI hr hr2, by rw [pk_sub g1]; exact vp_in_nI g2 hk⟩
theorem fA_3 {k n tb tt i j c k2 : Nat} {s : wF} (hi : i = 0) (h : ¬ (vp_in (nI tt - nI j) k2 ∧ vp_in (nI (n * tb + j)) c)) (e : k2 = k := by omega) (hr : n * tb + j < c := by omega) (hr2 : c < 2147483648 := by omega) (hk : k < 2147483648 := by omega) : NO = (gA k n tb tt i j s).getD NO := by
  subst e
  unfold gA
  rw [if_pos hi, if_neg]
  · rfl
  · rintro ⟨g1, g2⟩
    exact h ⟨by rw [pk_sub g1]; exact vp_in_nI g2 hk, vp_in_nI hr hr2⟩
theorem q_pI {a : Nat} (h : 1 ≤ a) : nI (a - 1) = pI a := by
  cases a with
  | zero => exact absurd h (by decide)
  | succ k => rfl
theorem RelT.h4 {n r k c ta tb th tw tt tn o : Nat} {s : wF} (h : RelT n r k c ta tb th tw tt tn s) (hq : 1 ≤ n ∧ n ≤ 4 ∧ o ≤ n) : 1 ≤ th ∧ th ≤ 4 ∧ n * ta + th ≤ r := by
  obtain ⟨-, -, -, h4, -, h6, -⟩ := h
  rw [h6]
  omega
theorem RelT.w4 {n r k c ta tb th tw tt tn o : Nat} {s : wF} (h : RelT n r k c ta tb th tw tt tn s) (hq : 1 ≤ n ∧ n ≤ 4 ∧ o ≤ n) : 1 ≤ tw ∧ tw ≤ 4 ∧ n * tb + tw ≤ c := by
  obtain ⟨-, -, -, -, h5, -, h7, -⟩ := h
  rw [h7]
  omega
theorem RelT.n20 {n r k c ta tb th tw tt tn : Nat} {s : wF} (h : RelT n r k c ta tb th tw tt tn s) : tn = th + tw + k - 2 := by
  obtain ⟨-, -, -, -, -, h6, h7, h8, -⟩ := h
  rw [h8, h6, h7]
  rfl
theorem RelT.t20 {n r k c ta tb th tw tt tn o : Nat} {L R s : wF} (h : RelT n r k c ta tb th tw tt tn s) (hM : RelM r k c L R s) (hq : 1 ≤ n ∧ n ≤ 4 ∧ o ≤ n := by assumption) : tn = th + tw + k - 2 ∧ tn ≤ 20 := by
  have h1 := h.n20
  have h2 := h.h4 hq
  have h3 := h.w4 hq
  obtain ⟨-, -, -, hb, -⟩ := hM
  omega
theorem RelT.tick {n r k c ta tb th tw tt tt2 tn : Nat} {s z : wF} (h : RelT n r k c ta tb th tw tt tn s) (hlo : Lo z s) (h8 : z 8 = nI tt2) (h9 : tt2 ≤ tn) : RelT n r k c ta tb th tw tt2 tn z := by
  obtain ⟨h1, h2, -, h4, h5, h6, h7, h8', -⟩ := h
  exact ⟨by rw [hlo _ (by omega) (by omega)]; exact h1, by rw [hlo _ (by omega) (by omega)]; exact h2, h8, h4, h5, h6, h7, h8', h9⟩
theorem kdF_eq {n o k q : Nat} {kf s y : wF} (h : RelQ n o kf s) (hlo : ∀ p, p < 173 → y p = s p) (hpl : (if q < o then q else q + 1) ≤ n) (hk : k < 4) : kf (5 * k + (if q < o then q else q + 1)) = kdF o k q y := by
  obtain ⟨-, -, h3, h4⟩ := h
  unfold kdF
  rw [h4 _ (by omega), hlo _ (by omega), Nat.add_assoc]
theorem CellR_hi {a b c d s s' : wF} (h : CellR a b c d s) (e : ∀ p, 153 ≤ p → s' p = s p) : CellR a b c d s' := by
  intro i j hi hj
  rw [e _ (by omega), e _ (by omega), e _ (by omega), e _ (by omega), e _ (by omega), e _ (by omega)]
  exact h i j hi hj
theorem CellV_hi {s s' : wF} (h : CellV s) (e : ∀ p, 153 ≤ p → s' p = s p) : CellV s' := by
  intro i j hi hj
  rw [e _ (by omega), e _ (by omega)]
  exact h i j hi hj
theorem CellS_hi {s s' : wF} {t : Nat} (h : CellS s t) (e : ∀ p, 153 ≤ p → s' p = s p) : CellS s' t := by
  intro i j hi hj
  rw [e _ (by omega)]
  exact h i j hi hj
theorem upd_hi {z : wF} {k : Nat} {x : Int32} (hk : k < 153) : ∀ p, 153 ≤ p → upd z k x p = z p := fun p hp => upd_n (by omega)
theorem goF_eq {n lr lc rc ta tb th tw tt tn o : Nat} {s : wF} (hT : RelT n lr lc rc ta tb th tw tt tn s) : goF lc n o lr rc ta tb tt s = upd (dnF (fun i => dnF (cellF lc n o ta tb tt i) tw) th s) 8 (nI (tt + 1)) := by
  obtain ⟨-, -, -, -, -, h6, h7, -⟩ := hT
  unfold goF
  rw [h6, h7]
theorem goF_end {n lr lc rc ta tb th tw tt tn o : Nat} {s z g1 g2 g3 g4 : wF} (hT : RelT n lr lc rc ta tb th tw tt tn s) (hz : dnF (fun i => dnF (cellF lc n o ta tb tt i) tw) 0 z = dnF (fun i => dnF (cellF lc n o ta tb tt i) tw) th s) (hC : CellR g1 g2 g3 g4 z) : CellR g1 g2 g3 g4 (goF lc n o lr rc ta tb tt s) := by
  rw [goF_eq hT, ← hz]
  exact CellR_hi hC (upd_hi (by decide))
theorem dnF_inv {P : wF → Prop} {step : Nat → wF → wF} : ∀ (m : Nat) (s : wF), (∀ i s, i < m → P s → P (step i s)) → P s → P (dnF step m s)
  | 0, _, _, h => h
  | m + 1, s, hs, h => dnF_inv m (step m s) (fun i s hi => hs i s (Nat.lt_succ_of_lt hi)) (hs m s (Nat.lt_succ_self m) h)
theorem upF_inv {P : wF → Prop} {step : Nat → wF → wF} : ∀ (m : Nat) (s : wF), (∀ i s, i < m → P s → P (step i s)) → P s → P (upF step m s)
  | 0, _, _, h => h
  | m + 1, s, hs, h => hs m _ (Nat.lt_succ_self m) (upF_inv m s (fun i s hi => hs i s (Nat.lt_succ_of_lt hi)) h)
theorem goF_Lo {k n o r c ta tb tt : Nat} {s : wF} : Lo (goF k n o r c ta tb tt s) s := by
  intro j hj h8
  unfold goF
  rw [upd_n h8]
  exact dnF_inv (P := fun x => ∀ p, p < 173 → x p = s p) _ _ (fun i x _ hx => dnF_inv (P := fun x => ∀ p, p < 173 → x p = s p) _ _ (fun i2 x2 _ hx2 p hp => (cellF_lo p hp).trans (hx2 p hp)) hx) (fun _ _ => rfl) j hj
theorem goF_V {n lr lc rc ta tb th tw tt tn o : Nat} {L R s : wF} (hM : RelM lr lc rc L R s) (hT : RelT n lr lc rc ta tb th tw tt tn s) (hq : 1 ≤ n ∧ n ≤ 4 ∧ o ≤ n) (hV : CellV s) : CellV (goF lc n o lr rc ta tb tt s) := by
  have h1 := hT.h4 hq
  have h2 := hT.w4 hq
  rw [goF_eq hT]
  refine CellV_hi ?_ (upd_hi (by decide))
  refine (dnF_inv (P := fun x => (∀ p, p < 173 → x p = s p) ∧ CellV x) _ _ (fun i x hi hx => dnF_inv (P := fun x => (∀ p, p < 173 → x p = s p) ∧ CellV x) _ _ (fun j y hj hy => ?_) hx) ⟨fun _ _ => rfl, hV⟩).2
  have hMy : RelM lr lc rc L R y := hM.lo (fun p hp _ => hy.1 p hp)
  exact ⟨fun p hp => (cellF_lo p hp).trans (hy.1 p hp), CellV_step hy.2 (gL_V hMy hy.2 (by omega) (by omega) (by omega)) (gA_V hMy hy.2 (by omega) (by omega) (by omega))⟩
theorem goN_s {k n o r c ta tb tt i m : Nat} {z : wF} (h : i < m) : goN k n o r c ta tb (m - (i + 1)) (tt + (i + 1)) (goF k n o r c ta tb (tt + i) z) = goN k n o r c ta tb (m - i) (tt + i) z := by
  obtain ⟨d, rfl⟩ : ∃ d, m = i + 1 + d := ⟨m - (i + 1), by omega⟩
  have e1 : i + 1 + d - (i + 1) = d := by omega
  have e2 : i + 1 + d - i = d + 1 := by omega
  rw [e1, e2]
  rfl
theorem drC_hi {n ta tb i j : Nat} {s : wF} (h : 6 * (n * ta + i) + (n * tb + j) < 36) : ∀ p, 153 ≤ p → drC n ta tb i j s p = s p := fun p hp => by
  unfold drC
  rw [upd_n (by omega), upd_n (by omega)]
theorem drC_lo {n ta tb i j : Nat} {s : wF} : ∀ p, p < 81 → drC n ta tb i j s p = s p := fun p hp => by
  unfold drC
  rw [upd_n (by omega), upd_n (by omega)]
theorem RelZ_step {r c n ta tb i j : Nat} {X y : wF} {x : Int32} (hZ : RelZ r c X y) (h1 : n * ta + i < 6) (h2 : n * tb + j < 6) (g1 : n * ta + i < r) (g2 : n * tb + j < c) (hv : x = y (173 + 24 * i + 6 * j)) (hx : y (173 + 24 * i + 6 * j) ≠ NO) : RelZ r c (upd X (6 * (n * ta + i) + (n * tb + j)) x) (drC n ta tb i j y) := by
  intro a b ha hb
  unfold drC
  by_cases e : 6 * a + b = 6 * (n * ta + i) + (n * tb + j)
  · left
    rw [e, upd_s, upd_s, upd_n (by omega), upd_s]
    have e1 : a = n * ta + i := by omega
    have e2 : b = n * tb + j := by omega
    exact ⟨rfl, by omega, by omega, hv, by rw [hv]; exact hx⟩
  · rw [upd_n (by omega), upd_n (by omega), upd_n (by omega), upd_n (by omega), upd_n (by omega)]
    exact hZ a b ha hb
theorem drF_end {n lr lc rc ta tb th tw tt tn : Nat} {s z Y : wF} (hT : RelT n lr lc rc ta tb th tw tt tn s) (hz : z = upF (fun i => upF (drC n ta tb i) tw) th s) (hZ : RelZ lr rc Y z) : RelZ lr rc Y (drF n lr rc ta tb s) := by
  obtain ⟨-, -, -, -, -, h6, h7, -⟩ := hT
  unfold drF
  rw [← h6, ← h7, ← hz]
  exact hZ.lo (fun j h1 _ => upd_n (by omega))
