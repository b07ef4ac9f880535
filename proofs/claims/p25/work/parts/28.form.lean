/-! form: what a cell holds behind some ticks, by a formula of the matrices and the faults alone -/
def useF (f : wF) (o i j : Nat) : Int32 := f (5 * i + (if j < o then j else j + 1))
def noneB (q : Nat → Int32) (kd : Int32) : Nat → Bool
  | 0 => false
  | m + 1 => noneB q kd m || decide (q m = kd)
/-- what comes has become 0 on its way, from the left, from above -/
def NLf (f : wF) (o i j : Nat) : Bool := noneB (fun q => useF f o i q) (nI 3) j
def NAf (f : wF) (o i j : Nat) : Bool := noneB (fun q => useF f o q j) (nI 4) i
def dotV (a b : wF) (row col m : Nat) : Int32 := sm (fun q => a (6 * row + q) * b (6 * q + col)) m
def sumV (a b f : wF) (o i j row col m : Nat) : Int32 := if useF f o i j = nI 1 ∨ NLf f o i j = true ∨ NAf f o i j = true then nI 0 else if useF f o i j = nI 2 then nI 2 * dotV a b row col m else dotV a b row col m
def metN (k i j t : Nat) : Nat := min (t - (i + j)) k
/-- there is something on its way out of a cell -/
abbrev onW (k i j t : Nat) : Prop := i + j + 1 ≤ t ∧ t - (i + j + 1) < k
def rgtV (a f : wF) (o i j row q : Nat) : Int32 := if useF f o i j = nI 3 ∨ NLf f o i j = true then nI 0 else a (6 * row + q)
def dwnV (b f : wF) (o i j col q : Nat) : Int32 := if useF f o i j = nI 4 ∨ NAf f o i j = true then nI 0 else b (6 * q + col)
/-- a cell of the tile -/
def CFin (a b f : wF) (k n o ta tb t i j : Nat) (s : wF) : Prop := s (173 + 24 * i + 6 * j) = sumV a b f o i j (n * ta + i) (n * tb + j) (metN k i j t) ∧ s (173 + 24 * i + 6 * j + 5) = nI (metN k i j t) ∧ s (173 + 24 * i + 6 * j + 1) = (if onW k i j t then nI 1 else nI 0) ∧ (onW k i j t → s (173 + 24 * i + 6 * j + 2) = rgtV a f o i j (n * ta + i) (t - (i + j + 1))) ∧ s (173 + 24 * i + 6 * j + 3) = (if onW k i j t then nI 1 else nI 0) ∧ (onW k i j t → s (173 + 24 * i + 6 * j + 4) = dwnV b f o i j (n * tb + j) (t - (i + j + 1)))
/-- a cell beside it -/
def CFout (i j : Nat) (s : wF) : Prop := s (173 + 24 * i + 6 * j) = nI 0 ∧ s (173 + 24 * i + 6 * j + 5) = nI 0 ∧ s (173 + 24 * i + 6 * j + 1) = nI 0 ∧ s (173 + 24 * i + 6 * j + 3) = nI 0
def CF (a b f : wF) (k n o ta tb th tw t : Nat) (s : wF) : Prop := ∀ i j, i < 4 → j < 4 → (i < th ∧ j < tw → CFin a b f k n o ta tb t i j s) ∧ (¬ (i < th ∧ j < tw) → CFout i j s)
theorem CFin_e {a b f : wF} {k n o ta tb t i j : Nat} {s s' : wF} (h : CFin a b f k n o ta tb t i j s) (e : ∀ z, z < 6 → s' (173 + 24 * i + 6 * j + z) = s (173 + 24 * i + 6 * j + z)) : CFin a b f k n o ta tb t i j s' := by
  have e0 := e 0 (by decide)
  rw [Nat.add_zero] at e0
  unfold CFin
  rw [e0, e 1 (by decide), e 2 (by decide), e 3 (by decide), e 4 (by decide), e 5 (by decide)]
  exact h
theorem CFout_e {i j : Nat} {s s' : wF} (h : CFout i j s) (e : ∀ z, z < 6 → s' (173 + 24 * i + 6 * j + z) = s (173 + 24 * i + 6 * j + z)) : CFout i j s' := by
  have e0 := e 0 (by decide)
  rw [Nat.add_zero] at e0
  unfold CFout
  rw [e0, e 1 (by decide), e 3 (by decide), e 5 (by decide)]
  exact h
theorem CF_hi {a b f : wF} {k n o ta tb th tw t : Nat} {s s' : wF} (h : CF a b f k n o ta tb th tw t s) (e : ∀ p, 173 ≤ p → s' p = s p) : CF a b f k n o ta tb th tw t s' := fun i j hi hj => ⟨fun q => CFin_e ((h i j hi hj).1 q) fun z _ => e _ (by omega), fun q => CFout_e ((h i j hi hj).2 q) fun z _ => e _ (by omega)⟩
-- what the formula reads of matrices and faults
theorem useF_e {f f' : wF} {o i j : Nat} (e : ∀ p, p < 20 → f' p = f p) (hi : i < 4) (hj : j < 4) : useF f' o i j = useF f o i j := e _ (by split <;> omega)
theorem noneB_e {q q' : Nat → Int32} {kd : Int32} : ∀ m, (∀ i, i < m → q' i = q i) → noneB q' kd m = noneB q kd m
  | 0, _ => rfl
  | m + 1, h => by
    show (noneB q' kd m || decide (q' m = kd)) = (noneB q kd m || decide (q m = kd))
    rw [noneB_e m (fun i hi => h i (Nat.lt_succ_of_lt hi)), h m (Nat.lt_succ_self m)]
theorem NLf_e {f f' : wF} {o i j : Nat} (e : ∀ p, p < 20 → f' p = f p) (hi : i < 4) (hj : j < 4) : NLf f' o i j = NLf f o i j := noneB_e j fun q hq => useF_e e hi (by omega)
theorem NAf_e {f f' : wF} {o i j : Nat} (e : ∀ p, p < 20 → f' p = f p) (hi : i < 4) (hj : j < 4) : NAf f' o i j = NAf f o i j := noneB_e i fun q hq => useF_e e (by omega) hj
theorem dotV_e {a a' b b' : wF} {row col m : Nat} (ea : ∀ p, p < 36 → a' p = a p) (eb : ∀ p, p < 36 → b' p = b p) (hr : row < 6) (hc : col < 6) (hm : m ≤ 6) : dotV a' b' row col m = dotV a b row col m := by
  unfold dotV
  exact sm_ext m fun q hq => by rw [ea _ (by omega), eb _ (by omega)]
theorem sumV_e {a a' b b' f f' : wF} {o i j row col m : Nat} (ea : ∀ p, p < 36 → a' p = a p) (eb : ∀ p, p < 36 → b' p = b p) (ef : ∀ p, p < 20 → f' p = f p) (hi : i < 4) (hj : j < 4) (hr : row < 6) (hc : col < 6) (hm : m ≤ 6) : sumV a' b' f' o i j row col m = sumV a b f o i j row col m := by
  unfold sumV
  rw [useF_e ef hi hj, NLf_e ef hi hj, NAf_e ef hi hj, dotV_e ea eb hr hc hm]
theorem rgtV_e {a a' f f' : wF} {o i j row q : Nat} (ea : ∀ p, p < 36 → a' p = a p) (ef : ∀ p, p < 20 → f' p = f p) (hi : i < 4) (hj : j < 4) (hr : row < 6) (hq : q < 6) : rgtV a' f' o i j row q = rgtV a f o i j row q := by
  unfold rgtV
  rw [useF_e ef hi hj, NLf_e ef hi hj, ea _ (by omega)]
theorem dwnV_e {b b' f f' : wF} {o i j col q : Nat} (eb : ∀ p, p < 36 → b' p = b p) (ef : ∀ p, p < 20 → f' p = f p) (hi : i < 4) (hj : j < 4) (hc : col < 6) (hq : q < 6) : dwnV b' f' o i j col q = dwnV b f o i j col q := by
  unfold dwnV
  rw [useF_e ef hi hj, NAf_e ef hi hj, eb _ (by omega)]
-- a tick of a cell
def inO (k i j t : Nat) (v : Int32) : Option Int32 := if i + j ≤ t ∧ t - (i + j) < k then some v else none
theorem inO_some {k i j t : Nat} {v : Int32} : (inO k i j t v).isSome = true ↔ i + j ≤ t ∧ t - (i + j) < k := by
  unfold inO
  split
  · exact ⟨fun _ => ‹_›, fun _ => rfl⟩
  · exact ⟨fun q => absurd q (by decide), fun q => absurd q ‹_›⟩
theorem inO_D {k i j t : Nat} {v : Int32} (h : i + j ≤ t ∧ t - (i + j) < k) : (inO k i j t v).getD (nI 0) = v := by
  unfold inO
  rw [if_pos h]
  rfl
theorem gL_form {a b f : wF} {r k c n o ta tb t i j th tw : Nat} {y : wF} (ha : ∀ p, p < 36 → a p = y (9 + p)) (hr : n * ta + th ≤ r) (hb : r ≤ 6 ∧ k ≤ 6) (hi : i < th) (hj : j < tw) (hw : th ≤ 4 ∧ tw ≤ 4) (hC : ∀ q, q < j → CFin a b f k n o ta tb t i q y) : gL k n ta t i j y = inO k i j t (if NLf f o i j = true then nI 0 else a (6 * (n * ta + i) + (t - (i + j)))) := by
  unfold gL inO
  cases j with
  | zero =>
    rw [if_pos rfl, Nat.add_zero]
    by_cases q : i ≤ t ∧ t - i < k
    · rw [if_pos q, if_pos q, if_neg (show ¬ (NLf f o i 0 = true) by intro h; cases h), ha _ (by omega), Nat.add_assoc]
    · rw [if_neg q, if_neg q]
  | succ j =>
    obtain ⟨-, -, h1, h2, -, -⟩ := hC j (Nat.lt_succ_self j)
    rw [if_neg (Nat.succ_ne_zero j), Nat.add_sub_cancel, h1]
    have e1 : i + (j + 1) = i + j + 1 := (Nat.add_assoc i j 1).symm
    rw [e1]
    by_cases q : onW k i j t
    · rw [if_pos q, if_pos rfl, h2 q, if_pos q]
      have e2 : (NLf f o i (j + 1) = true) ↔ (useF f o i j = nI 3 ∨ NLf f o i j = true) := by
        show ((NLf f o i j || decide (useF f o i j = nI 3)) = true) ↔ _
        rw [Bool.or_eq_true, decide_eq_true_iff]
        exact Or.comm
      unfold rgtV
      by_cases e3 : NLf f o i (j + 1) = true
      · rw [if_pos (e2.mp e3), if_pos e3]
      · rw [if_neg (fun z => e3 (e2.mpr z)), if_neg e3]
    · rw [if_neg q, if_neg (by decide), if_neg q]
theorem gA_form {a b f : wF} {r k c n o ta tb t i j th tw : Nat} {y : wF} (ha : ∀ p, p < 36 → b p = y (45 + p)) (hr : n * tb + tw ≤ c) (hb : c ≤ 6 ∧ k ≤ 6) (hi : i < th) (hj : j < tw) (hw : th ≤ 4 ∧ tw ≤ 4) (hC : ∀ q, q < i → CFin a b f k n o ta tb t q j y) : gA k n tb t i j y = inO k i j t (if NAf f o i j = true then nI 0 else b (6 * (t - (i + j)) + (n * tb + j))) := by
  unfold gA inO
  cases i with
  | zero =>
    rw [if_pos rfl, Nat.zero_add]
    by_cases q : j ≤ t ∧ t - j < k
    · rw [if_pos q, if_pos q, if_neg (show ¬ (NAf f o 0 j = true) by intro h; cases h), ha _ (by omega), Nat.add_assoc]
    · rw [if_neg q, if_neg q]
  | succ i =>
    obtain ⟨-, -, -, -, h1, h2⟩ := hC i (Nat.lt_succ_self i)
    rw [if_neg (Nat.succ_ne_zero i), Nat.add_sub_cancel, h1]
    have e1 : i + 1 + j = i + j + 1 := by omega
    rw [e1]
    by_cases q : onW k i j t
    · rw [if_pos q, if_pos rfl, h2 q, if_pos q]
      have e2 : (NAf f o (i + 1) j = true) ↔ (useF f o i j = nI 4 ∨ NAf f o i j = true) := by
        show ((NAf f o i j || decide (useF f o i j = nI 4)) = true) ↔ _
        rw [Bool.or_eq_true, decide_eq_true_iff]
        exact Or.comm
      unfold dwnV
      by_cases e3 : NAf f o (i + 1) j = true
      · rw [if_pos (e2.mp e3), if_pos e3]
      · rw [if_neg (fun z => e3 (e2.mpr z)), if_neg e3]
    · rw [if_neg q, if_neg (by decide), if_neg q]
theorem Int32_zm (x : Int32) : nI 0 * x = nI 0 := Int32.zero_mul
theorem Int32_mz (x : Int32) : x * nI 0 = nI 0 := Int32.mul_zero
theorem Int32_az (x : Int32) : x + nI 0 = x := Int32.add_zero x
theorem Int32_m1 (x : Int32) : x * nI 1 = x := Int32.mul_one x
theorem sumV_s {a b f : wF} {o i j row col m : Nat} {d : Int32} (hd : d = useF f o i j) : sumV a b f o i j row col m + (if NLf f o i j = true then nI 0 else a (6 * row + m)) * (if NAf f o i j = true then nI 0 else b (6 * m + col)) * tmA d = sumV a b f o i j row col (m + 1) := by
  subst hd
  have e : dotV a b row col (m + 1) = dotV a b row col m + a (6 * row + m) * b (6 * m + col) := rfl
  unfold sumV tmA
  by_cases h1 : useF f o i j = nI 1
  · rw [if_pos (Or.inl h1), if_pos (Or.inl h1), if_pos h1, Int32_mz, Int32_az]
  · by_cases h2 : NLf f o i j = true
    · rw [if_pos (Or.inr (Or.inl h2)), if_pos (Or.inr (Or.inl h2)), if_pos h2, Int32_zm, Int32_zm, Int32_az]
    · by_cases h3 : NAf f o i j = true
      · rw [if_pos (Or.inr (Or.inr h3)), if_pos (Or.inr (Or.inr h3)), if_pos h3, Int32_mz, Int32_zm, Int32_az]
      · have hn : ¬ (useF f o i j = nI 1 ∨ NLf f o i j = true ∨ NAf f o i j = true) := by
          rintro (q | q | q)
          · exact h1 q
          · exact h2 q
          · exact h3 q
        rw [if_neg hn, if_neg hn, if_neg h2, if_neg h3, if_neg h1]
        by_cases h4 : useF f o i j = nI 2
        · rw [if_pos h4, if_pos h4, if_pos h4, e, Int32.mul_add, Int32.mul_comm _ (nI 2)]
        · rw [if_neg h4, if_neg h4, if_neg h4, e, Int32_m1]
/-- a cell's step keeps the formula -/
theorem CFin_step {a b f : wF} {k n o ta tb t i j : Nat} {x y d : Int32} {s : wF} (h : CFin a b f k n o ta tb t i j s) (hd : d = useF f o i j) (hx : x = if NLf f o i j = true then nI 0 else a (6 * (n * ta + i) + (t - (i + j)))) (hy : y = if NAf f o i j = true then nI 0 else b (6 * (t - (i + j)) + (n * tb + j))) : CFin a b f k n o ta tb (t + 1) i j (cellU (173 + 24 * i + 6 * j) (inO k i j t x) (inO k i j t y) d s) := by
  obtain ⟨h1, h2, -, -, -, -⟩ := h
  unfold CFin
  rw [cellU_0, cellU_1, cellU_2, cellU_3, cellU_4, cellU_5]
  have ew : onW k i j (t + 1) ↔ (i + j ≤ t ∧ t - (i + j) < k) := by unfold onW; omega
  have eq1 : t + 1 - (i + j + 1) = t - (i + j) := by omega
  by_cases c : i + j ≤ t ∧ t - (i + j) < k
  · have em : metN k i j t = t - (i + j) := by unfold metN; omega
    have em1 : metN k i j (t + 1) = t - (i + j) + 1 := by unfold metN; omega
    rw [if_pos ⟨inO_some.mpr c, inO_some.mpr c⟩, if_pos ⟨inO_some.mpr c, inO_some.mpr c⟩, if_pos (inO_some.mpr c), if_pos (inO_some.mpr c), if_pos (ew.mpr c), inO_D c, inO_D c, h1, h2, em, em1, hx, hy]
    refine ⟨sumV_s hd, nI_add _ _, rfl, fun _ => ?_, rfl, fun _ => ?_⟩
    · rw [eq1]
      unfold rgtV
      rw [hd]
      by_cases g1 : useF f o i j = nI 3
      · rw [if_pos g1, if_pos (Or.inl g1)]
      · rw [if_neg g1]
        by_cases g2 : NLf f o i j = true
        · rw [if_pos g2, if_pos (Or.inr g2)]
        · rw [if_neg g2, if_neg (by rintro (q | q) <;> contradiction)]
    · rw [eq1]
      unfold dwnV
      rw [hd]
      by_cases g1 : useF f o i j = nI 4
      · rw [if_pos g1, if_pos (Or.inl g1)]
      · rw [if_neg g1]
        by_cases g2 : NAf f o i j = true
        · rw [if_pos g2, if_pos (Or.inr g2)]
        · rw [if_neg g2, if_neg (by rintro (q | q) <;> contradiction)]
  · have em : metN k i j (t + 1) = metN k i j t := by unfold metN; omega
    have n1 : ¬ ((inO k i j t x).isSome = true) := fun q => c (inO_some.mp q)
    have n2 : ¬ ((inO k i j t y).isSome = true) := fun q => c (inO_some.mp q)
    rw [if_neg (fun q => n1 q.1), if_neg (fun q => n1 q.1), if_neg n1, if_neg n2, if_neg (fun q => c (ew.mp q)), em]
    exact ⟨h1, h2, rfl, fun q => absurd (ew.mp q) c, rfl, fun q => absurd (ew.mp q) c⟩
/-- some cells are a tick further -/
def CFp (a b f : wF) (k n o ta tb th tw t : Nat) (P : Nat → Nat → Prop) (s : wF) : Prop := ∀ i j, i < 4 → j < 4 → (i < th ∧ j < tw → (P i j → CFin a b f k n o ta tb t i j s) ∧ (¬ P i j → CFin a b f k n o ta tb (t + 1) i j s)) ∧ (¬ (i < th ∧ j < tw) → CFout i j s)
theorem CFp_step {a b f : wF} {r k c n o ta tb th tw t i j : Nat} {P Q : Nat → Nat → Prop} {y : wF} (h : CFp a b f k n o ta tb th tw t P y) (ha : ∀ p, p < 36 → a p = y (9 + p)) (hb : ∀ p, p < 36 → b p = y (45 + p)) (hf : ∀ p, p < 20 → f p = y (153 + p)) (hr : n * ta + th ≤ r) (hc : n * tb + tw ≤ c) (hk : r ≤ 6 ∧ k ≤ 6 ∧ c ≤ 6) (hw : th ≤ 4 ∧ tw ≤ 4) (hi : i < th) (hj : j < tw) (h0 : ∀ p q, p ≤ i → q ≤ j → P p q) (h1 : ∀ p q, Q p q ↔ (P p q ∧ ¬ (p = i ∧ q = j))) :
    CFp a b f k n o ta tb th tw t Q (cellF k n o ta tb t i j y) := by
  have eL := gL_form (b := b) (tb := tb) (f := f) (o := o) (c := c) (t := t) ha hr ⟨hk.1, hk.2.1⟩ hi hj hw (fun q hq => ((h i q (by omega) (by omega)).1 ⟨hi, by omega⟩).1 (h0 i q (Nat.le_refl i) (by omega)))
  have eA := gA_form (a := a) (ta := ta) (f := f) (o := o) (r := r) (t := t) hb hc ⟨hk.2.2, hk.2.1⟩ hi hj hw (fun q hq => ((h q j (by omega) (by omega)).1 ⟨by omega, hj⟩).1 (h0 q j (by omega) (Nat.le_refl j)))
  have ed : kdF o i j y = useF f o i j := by
    unfold kdF useF
    rw [hf _ (by split <;> omega), Nat.add_assoc]
  intro p q hp hq
  unfold cellF
  rw [eL, eA, ed]
  by_cases e : p = i ∧ q = j
  · obtain ⟨rfl, rfl⟩ := e
    refine ⟨fun g => ⟨fun z => absurd ⟨rfl, rfl⟩ ((h1 p q).mp z).2, fun _ => CFin_step (((h p q hp hq).1 g).1 (h0 p q (Nat.le_refl p) (Nat.le_refl q))) rfl rfl rfl⟩, fun g => absurd ⟨hi, hj⟩ g⟩
  · have n2 : ∀ z, z < 6 → ∀ X Y d, cellU (173 + 24 * i + 6 * j) X Y d y (173 + 24 * p + 6 * q + z) = y (173 + 24 * p + 6 * q + z) := fun z hz X Y d => cellU_ne (by omega)
    refine ⟨fun g => ⟨fun z => CFin_e (((h p q hp hq).1 g).1 ((h1 p q).mp z).1) fun z hz => n2 z hz _ _ _, fun z => CFin_e (((h p q hp hq).1 g).2 (fun w => z ((h1 p q).mpr ⟨w, e⟩))) fun z hz => n2 z hz _ _ _⟩, fun g => CFout_e ((h p q hp hq).2 g) fun z hz => n2 z hz _ _ _⟩
/-- a tick keeps the formula -/
theorem CF_go {n lr lc rc ta tb th tw tt tn o : Nat} {a b f s : wF} (hb6 : lr ≤ 6 ∧ lc ≤ 6 ∧ rc ≤ 6) (hT : RelT n lr lc rc ta tb th tw tt tn s) (hq : 1 ≤ n ∧ n ≤ 4 ∧ o ≤ n) (ha : ∀ p, p < 36 → a p = s (9 + p)) (hb : ∀ p, p < 36 → b p = s (45 + p)) (hf : ∀ p, p < 20 → f p = s (153 + p)) (h : CF a b f lc n o ta tb th tw tt s) : CF a b f lc n o ta tb th tw (tt + 1) (goF lc n o lr rc ta tb tt s) := by
  have h1 := hT.h4 hq
  have h2 := hT.w4 hq
  rw [goF_eq hT]
  refine CF_hi ?_ (fun p hp => upd_n (by omega))
  have key := dnF_ind (P := fun m x => (∀ p, p < 173 → x p = s p) ∧ CFp a b f lc n o ta tb th tw tt (fun p _ => p < m) x) (step := fun i => dnF (cellF lc n o ta tb tt i) tw) th s (fun i x hi hx => ?_) ⟨fun _ _ => rfl, fun p q hp hq => ⟨fun g => ⟨fun _ => (h p q hp hq).1 g, fun z => absurd g.1 z⟩, fun g => (h p q hp hq).2 g⟩⟩
  · exact fun p q hp hq => ⟨fun g => ((key.2 p q hp hq).1 g).2 (Nat.not_lt_zero p), fun g => (key.2 p q hp hq).2 g⟩
  · have k2 := dnF_ind (P := fun m y => (∀ p, p < 173 → y p = s p) ∧ CFp a b f lc n o ta tb th tw tt (fun p q => p < i ∨ (p = i ∧ q < m)) y) (step := cellF lc n o ta tb tt i) tw x (fun j y hj hy => ?_) ⟨hx.1, fun p q hp hq => ⟨fun g => ⟨fun z => ((hx.2 p q hp hq).1 g).1 (by rcases z with z | z <;> omega), fun z => ((hx.2 p q hp hq).1 g).2 (fun w => z ((Nat.lt_or_ge p i).elim Or.inl (fun w2 => Or.inr ⟨by have w3 : p < i + 1 := w; omega, g.2⟩)))⟩, fun g => (hx.2 p q hp hq).2 g⟩⟩
    · exact ⟨k2.1, fun p q hp hq => ⟨fun g => ⟨fun z => ((k2.2 p q hp hq).1 g).1 (Or.inl z), fun z => ((k2.2 p q hp hq).1 g).2 (fun w => z (w.elim id (fun w => absurd w.2 (Nat.not_lt_zero q))))⟩, fun g => (k2.2 p q hp hq).2 g⟩⟩
    · obtain ⟨hlo, hy⟩ := hy
      refine ⟨fun p hp => (cellF_lo p hp).trans (hlo p hp), CFp_step (r := lr) (c := rc) hy (fun p hp => by rw [hlo _ (by omega)]; exact ha p hp) (fun p hp => by rw [hlo _ (by omega)]; exact hb p hp) (fun p hp => by rw [hlo _ (by omega)]; exact hf p hp) (by omega) (by omega) ⟨hb6.1, hb6.2.1, hb6.2.2⟩ ⟨by omega, by omega⟩ hi hj (fun p q h3 h4 => by omega) (fun p q => ⟨fun w => ⟨by omega, by omega⟩, fun w => by omega⟩)⟩
/-- a tile that begins -/
theorem CF_bg {a b f : wF} {k n o ta tb th tw : Nat} {s : wF} : CF a b f k n o ta tb th tw 0 (bgF ta tb s) := by
  intro i j hi hj
  have z : ∀ q, q < 6 → bgF ta tb s (173 + 24 * i + 6 * j + q) = nI 0 := fun q hq => bgF_c _ (by omega) (by omega)
  have z0 := z 0 (by decide)
  rw [Nat.add_zero] at z0
  have nw : ¬ onW k i j 0 := by unfold onW; omega
  have em : metN k i j 0 = 0 := by unfold metN; omega
  refine ⟨fun _ => ?_, fun _ => ⟨z0, z 5 (by decide), z 1 (by decide), z 3 (by decide)⟩⟩
  unfold CFin
  rw [z0, z 1 (by decide), z 3 (by decide), z 5 (by decide), em, if_neg nw]
  refine ⟨?_, rfl, rfl, fun q => absurd q nw, rfl, fun q => absurd q nw⟩
  unfold sumV
  have e : dotV a b (n * ta + i) (n * tb + j) 0 = nI 0 := rfl
  rw [e, Int32_mz]
  split
  · rfl
  · split <;> rfl
theorem CF_goN {n lr lc rc ta tb th tw tn o : Nat} {a b f L R : wF} (hq : 1 ≤ n ∧ n ≤ 4 ∧ o ≤ n) : ∀ (m tt : Nat) (s : wF), RelM lr lc rc L R s → RelT n lr lc rc ta tb th tw tt tn s → m ≤ tn - tt → (∀ p, p < 36 → a p = s (9 + p)) → (∀ p, p < 36 → b p = s (45 + p)) → (∀ p, p < 20 → f p = s (153 + p)) → CF a b f lc n o ta tb th tw tt s → CF a b f lc n o ta tb th tw (tt + m) (goN lc n o lr rc ta tb m tt s)
  | 0, tt, s, _, _, _, _, _, _, h => h
  | m + 1, tt, s, hM, hT, hm, ha, hb, hf, h => by
    have e1 : Lo (goF lc n o lr rc ta tb tt s) s := goF_Lo
    have e2 := hT.tick (tt2 := tt + 1) e1 upd_s (by omega)
    have hb6 : lr ≤ 6 ∧ lc ≤ 6 ∧ rc ≤ 6 := by have := hM.2.2.2.1; omega
    have ih := CF_goN hq m (tt + 1) (goF lc n o lr rc ta tb tt s) (hM.lo e1) e2 (by omega) (fun p hp => by rw [e1 _ (by omega) (by omega)]; exact ha p hp) (fun p hp => by rw [e1 _ (by omega) (by omega)]; exact hb p hp) (fun p hp => by rw [e1 _ (by omega) (by omega)]; exact hf p hp) (CF_go hb6 hT hq ha hb hf h)
    have e3 : tt + 1 + m = tt + (m + 1) := by omega
    rw [e3] at ih
    exact ih
