/-! cells: what the class's readers answer, in the law's words -/
section CEL
variable {n r k c o b ta tb tt i j : Nat} {ad bd fd rd s : wF} {g : wF} {wd : Nat → Int64}
theorem ce_w {w : Nat} (hi : i < n) (hj : j < n) (hn : n ≤ 4) (hw : w ≤ 5) : ceA n o b (nI i) (nI j) (nI w) s = if w = 3 then nI (if j < o then j else j + 1) else if w = 4 then kdF o i j s else if b = 0 then kNP else if w = 0 then s (173 + 24 * i + 6 * j) else if w = 1 then (if s (173 + 24 * i + 6 * j + 1) = nI 1 then s (173 + 24 * i + 6 * j + 2) else kNF) else if w = 2 then (if s (173 + 24 * i + 6 * j + 3) = nI 1 then s (173 + 24 * i + 6 * j + 4) else kNF) else s (173 + 24 * i + 6 * j + 5) := by
  unfold ceA
  rw [tN_nI (by omega), tN_nI (by omega), tN_b (m := i), tN_b (m := j), tN_b (m := w), if_pos (by omega)]
  rcases (show w = 0 ∨ w = 1 ∨ w = 2 ∨ w = 3 ∨ w = 4 ∨ w = 5 by omega) with rfl | rfl | rfl | rfl | rfl | rfl <;> rfl
theorem ce_3 (hi : i < n) (hj : j < n) (hn : n ≤ 4) : ceA n o b (nI i) (nI j) (nI 3) s = nI (if j < o then j else j + 1) := (ce_w hi hj hn (by decide)).trans (if_pos rfl)
theorem ce_4 (hi : i < n) (hj : j < n) (hn : n ≤ 4) (hF : ∀ p, p < 20 → fd p = s (153 + p)) : ceA n o b (nI i) (nI j) (nI 4) s = useF fd o i j := by
  rw [ce_w hi hj hn (by decide), if_neg (by decide), if_pos rfl]
  unfold kdF useF
  rw [hF _ (by split <;> omega), Nat.add_assoc]
theorem ce_6 : ceA n o b (nI i) (nI j) (nI 6) s = (-1000001) := by
  unfold ceA
  exact if_neg (fun q => absurd q.2.2.2 (by decide))
theorem ce_n0 (hn : n ≤ 4) : ceA n o b (nI n) (nI 0) (nI 0) s = (-1000001) := by
  unfold ceA
  rw [tN_b (m := n)]
  exact if_neg (fun q => absurd q.1.2 (by omega))
theorem ce_0n (hn : n ≤ 4) : ceA n o b (nI 0) (nI n) (nI 3) s = (-1000001) := by
  unfold ceA
  rw [tN_b (m := n)]
  exact if_neg (fun q => absurd q.2.1.2 (by omega))
theorem ce_b {w : Nat} (hi : i < n) (hj : j < n) (hn : n ≤ 4) (hb : b = 0) (hw : w ≤ 5) (h3 : w ≠ 3) (h4 : w ≠ 4) : ceA n o b (nI i) (nI j) (nI w) s = (-1000002) := by
  rw [ce_w hi hj hn hw, if_neg h3, if_neg h4, if_pos hb]
theorem mdA (hj : j < n) {t : Nat} : (n * t + j) % n = j := by rw [Nat.mul_add_mod, Nat.mod_eq_of_lt hj]
theorem cel_0 (hN : ON n r k c o b ta tb tt s) (hb : b = 1) (hA : ∀ p, p < 36 → ad p = s (9 + p)) (hB : ∀ p, p < 36 → bd p = s (45 + p)) (hF : ∀ p, p < 20 → fd p = s (153 + p)) (hi : i < n) (hj : j < n) (hw : i < min n (r - n * ta) ∧ j < min n (c - n * tb)) : ceA n o b (nI i) (nI j) (nI 0) s = sumV ad bd fd o ((n * ta + i) % n) ((n * tb + j) % n) (n * ta + i) (n * tb + j) (metN k i j tt) := by
  have h9 := hN.2.1
  have h8 := hN.2.2.1
  obtain ⟨-, -, -, -, hC⟩ := hN.2.2.2.2.1 hb
  obtain ⟨h1, -⟩ := (hC i j (by omega) (by omega)).1 hw
  rw [ce_w hi hj h9.2.1 (by decide), if_neg (by decide), if_neg (by decide), if_neg (by omega), if_pos rfl, h1, mdA hi, mdA hj]
  exact (sumV_e hA hB hF (by omega) (by omega) (by omega) (by omega) (by unfold metN; omega)).symm
theorem cel_1 (hN : ON n r k c o b ta tb tt s) (hb : b = 1) (hA : ∀ p, p < 36 → ad p = s (9 + p)) (hF : ∀ p, p < 20 → fd p = s (153 + p)) (hi : i < n) (hj : j < n) (hw : i < min n (r - n * ta) ∧ j < min n (c - n * tb)) (ho : onW k i j tt) : ceA n o b (nI i) (nI j) (nI 1) s = rgtV ad fd o i j (n * ta + i) (tt - (i + j + 1)) := by
  have h9 := hN.2.1
  have h8 := hN.2.2.1
  obtain ⟨-, -, -, -, hC⟩ := hN.2.2.2.2.1 hb
  obtain ⟨-, -, h3, h4, -⟩ := (hC i j (by omega) (by omega)).1 hw
  rw [ce_w hi hj h9.2.1 (by decide), if_neg (by decide), if_neg (by decide), if_neg (by omega), if_neg (by decide), if_pos rfl, h3, if_pos ho, if_pos rfl, h4 ho]
  exact (rgtV_e hA hF (by omega) (by omega) (by omega) (by have := ho.2; omega)).symm
theorem cel_2 (hN : ON n r k c o b ta tb tt s) (hb : b = 1) (hB : ∀ p, p < 36 → bd p = s (45 + p)) (hF : ∀ p, p < 20 → fd p = s (153 + p)) (hi : i < n) (hj : j < n) (hw : i < min n (r - n * ta) ∧ j < min n (c - n * tb)) (ho : onW k i j tt) : ceA n o b (nI i) (nI j) (nI 2) s = dwnV bd fd o i j (n * tb + j) (tt - (i + j + 1)) := by
  have h9 := hN.2.1
  have h8 := hN.2.2.1
  obtain ⟨-, -, -, -, hC⟩ := hN.2.2.2.2.1 hb
  obtain ⟨-, -, -, -, h5, h6⟩ := (hC i j (by omega) (by omega)).1 hw
  rw [ce_w hi hj h9.2.1 (by decide), if_neg (by decide), if_neg (by decide), if_neg (by omega), if_neg (by decide), if_neg (by decide), if_pos rfl, h5, if_pos ho, if_pos rfl, h6 ho]
  exact (dwnV_e hB hF (by omega) (by omega) (by omega) (by have := ho.2; omega)).symm
theorem cel_1n (hN : ON n r k c o b ta tb tt s) (hb : b = 1) (hi : i < n) (hj : j < n) (hw : ¬ ((i < min n (r - n * ta) ∧ j < min n (c - n * tb)) ∧ onW k i j tt)) : ceA n o b (nI i) (nI j) (nI 1) s = (-1000004) := by
  have h9 := hN.2.1
  obtain ⟨-, -, -, -, hC⟩ := hN.2.2.2.2.1 hb
  have hne : ¬ nI 0 = nI 1 := by decide
  rw [ce_w hi hj h9.2.1 (by decide), if_neg (by decide), if_neg (by decide), if_neg (by omega), if_neg (by decide), if_pos rfl]
  by_cases e : i < min n (r - n * ta) ∧ j < min n (c - n * tb)
  · obtain ⟨-, -, h3, -⟩ := (hC i j (by omega) (by omega)).1 e
    rw [h3, if_neg (fun q => hw ⟨e, q⟩), if_neg hne]
  · obtain ⟨-, -, h3, -⟩ := (hC i j (by omega) (by omega)).2 e
    rw [h3, if_neg hne]
theorem cel_2n (hN : ON n r k c o b ta tb tt s) (hb : b = 1) (hi : i < n) (hj : j < n) (hw : ¬ ((i < min n (r - n * ta) ∧ j < min n (c - n * tb)) ∧ onW k i j tt)) : ceA n o b (nI i) (nI j) (nI 2) s = (-1000004) := by
  have h9 := hN.2.1
  obtain ⟨-, -, -, -, hC⟩ := hN.2.2.2.2.1 hb
  have hne : ¬ nI 0 = nI 1 := by decide
  rw [ce_w hi hj h9.2.1 (by decide), if_neg (by decide), if_neg (by decide), if_neg (by omega), if_neg (by decide), if_neg (by decide), if_pos rfl]
  by_cases e : i < min n (r - n * ta) ∧ j < min n (c - n * tb)
  · obtain ⟨-, -, -, -, h3, -⟩ := (hC i j (by omega) (by omega)).1 e
    rw [h3, if_neg (fun q => hw ⟨e, q⟩), if_neg hne]
  · obtain ⟨-, -, -, h3⟩ := (hC i j (by omega) (by omega)).2 e
    rw [h3, if_neg hne]
theorem cel_5 (hN : ON n r k c o b ta tb tt s) (hb : b = 1) (hi : i < n) (hj : j < n) (hw : i < min n (r - n * ta) ∧ j < min n (c - n * tb)) : ceA n o b (nI i) (nI j) (nI 5) s = nI (metN k i j tt) := by
  have h9 := hN.2.1
  obtain ⟨-, -, -, -, hC⟩ := hN.2.2.2.2.1 hb
  obtain ⟨-, h2, -⟩ := (hC i j (by omega) (by omega)).1 hw
  rw [ce_w hi hj h9.2.1 (by decide), if_neg (by decide), if_neg (by decide), if_neg (by omega), if_neg (by decide), if_neg (by decide), if_neg (by decide), h2]
theorem cel_0n (hN : ON n r k c o b ta tb tt s) (hb : b = 1) (hi : i < n) (hj : j < n) (hw : ¬ (i < min n (r - n * ta) ∧ j < min n (c - n * tb))) : ceA n o b (nI i) (nI j) (nI 0) s = nI 0 ∧ ceA n o b (nI i) (nI j) (nI 5) s = nI 0 := by
  have h9 := hN.2.1
  obtain ⟨-, -, -, -, hC⟩ := hN.2.2.2.2.1 hb
  obtain ⟨h1, h2, -⟩ := (hC i j (by omega) (by omega)).2 hw
  rw [ce_w hi hj h9.2.1 (by decide), ce_w hi hj h9.2.1 (by decide), if_neg (by decide), if_neg (by decide), if_neg (by omega), if_pos rfl, if_neg (by decide), if_neg (by decide), if_neg (by omega), if_neg (by decide), if_neg (by decide), if_neg (by decide)]
  exact ⟨h1, h2⟩
theorem en_l (hA : ∀ p, p < 36 → ad p = s (9 + p)) (hi : i < 6) (hj : j < 6) (hb : r ≤ 6 ∧ k ≤ 6) : enA r k c (nI 0) (nI i) (nI j) s = if i < r ∧ j < k then ad (6 * i + j) else (-1000001) := by
  unfold enA
  rw [tN_nI (by omega), tN_nI (by omega), tN_b (m := i), tN_b (m := j)]
  by_cases q : i < r ∧ j < k
  · rw [if_pos ⟨by decide, by omega, by omega⟩, if_pos q, hA _ (by omega)]
  · rw [if_neg (fun w => q ⟨by omega, by omega⟩), if_neg q, if_neg (fun w => absurd w.1 (by decide))]
theorem en_r (hB : ∀ p, p < 36 → bd p = s (45 + p)) (hi : i < 6) (hj : j < 6) (hb : k ≤ 6 ∧ c ≤ 6) : enA r k c (nI 1) (nI i) (nI j) s = if i < k ∧ j < c then bd (6 * i + j) else (-1000001) := by
  unfold enA
  rw [tN_nI (by omega), tN_nI (by omega), tN_b (m := i), tN_b (m := j), if_neg (fun w => absurd w.1 (by decide))]
  by_cases q : i < k ∧ j < c
  · rw [if_pos ⟨by decide, by omega, by omega⟩, if_pos q, hB _ (by omega)]
  · rw [if_neg (fun w => q ⟨by omega, by omega⟩), if_neg q]
theorem en_2 : enA r k c (nI 2) (nI 0) (nI 0) s = (-1000001) := by
  unfold enA
  rw [if_neg (fun w => absurd w.1 (by decide)), if_neg (fun w => absurd w.1 (by decide))]
theorem due_l (hA : ∀ p, p < 36 → ad p = s (9 + p)) (hB : ∀ p, p < 36 → bd p = s (45 + p)) (hi : i < 6) (hj : j < 6) (hk : k ≤ 6) : dueF k s i j = dotV ad bd i j k := by
  unfold dueF dotV
  exact sm_ext k fun q hq => by rw [hA _ (by omega), hB _ (by omega)]
theorem re_0 {z : Nat} (hZ : ∀ x y, x < 6 → y < 6 → (z.testBit (6 * x + y) = true ↔ s (117 + (6 * x + y)) = nI 1) ∧ (s (117 + (6 * x + y)) = nI 1 → rd (6 * x + y) = s (81 + (6 * x + y)))) (hi : i < 6) (hj : j < 6) (hb : r ≤ 6 ∧ c ≤ 6) : reA r k c (nI i) (nI j) (nI 0) s = if i < r ∧ j < c then (if z.testBit (6 * i + j) = true then rd (6 * i + j) else (-1000004)) else (-1000001) := by
  unfold reA
  rw [tN_nI (by omega), tN_nI (by omega), tN_b (m := i), tN_b (m := j)]
  by_cases q : i < r ∧ j < c
  · rw [if_pos ⟨by omega, by omega, by decide⟩, if_pos q, if_neg (by decide)]
    obtain ⟨h1, h2⟩ := hZ i j hi hj
    by_cases w : s (117 + (6 * i + j)) = nI 1
    · rw [if_pos w, if_pos (h1.mpr w), h2 w]
    · rw [if_neg w, if_neg (fun v => w (h1.mp v))]
  · rw [if_neg (fun w => q ⟨by omega, by omega⟩), if_neg q]
theorem re_1 (hA : ∀ p, p < 36 → ad p = s (9 + p)) (hB : ∀ p, p < 36 → bd p = s (45 + p)) (hi : i < 6) (hj : j < 6) (hb : r ≤ 6 ∧ k ≤ 6 ∧ c ≤ 6) : reA r k c (nI i) (nI j) (nI 1) s = if i < r ∧ j < c then dotV ad bd i j k else (-1000001) := by
  unfold reA
  rw [tN_nI (by omega), tN_nI (by omega), tN_b (m := i), tN_b (m := j)]
  by_cases q : i < r ∧ j < c
  · rw [if_pos ⟨by omega, by omega, by decide⟩, if_pos q, if_pos (by decide), due_l hA hB hi hj hb.2.1]
  · rw [if_neg (fun w => q ⟨by omega, by omega⟩), if_neg q]
theorem re_2x : reA r k c (nI 0) (nI 0) (nI 2) s = (-1000001) := by
  unfold reA
  exact if_neg (fun w => absurd w.2.2.2 (by decide))
theorem co_g {q h tl : Nat} (hg : g 0 = nI n ∧ g 1 = nI r ∧ g 2 = nI k ∧ g 3 = nI c) (hq : q < 4) : coA n o r k c b ta tb tt h tl (nI q) s = g q := by
  rcases (show q = 0 ∨ q = 1 ∨ q = 2 ∨ q = 3 by omega) with rfl | rfl | rfl | rfl
  · exact hg.1.symm
  · exact hg.2.1.symm
  · exact hg.2.2.1.symm
  · exact hg.2.2.2.symm
theorem wr_eq {z : Nat} (hN : ON n r k c o b ta tb tt s) (hA : ∀ p, p < 36 → ad p = s (9 + p)) (hB : ∀ p, p < 36 → bd p = s (45 + p)) (hZ : ∀ x y, x < 6 → y < 6 → (z.testBit (6 * x + y) = true ↔ s (117 + (6 * x + y)) = nI 1) ∧ (s (117 + (6 * x + y)) = nI 1 → rd (6 * x + y) = s (81 + (6 * x + y)))) : ns (fun q => if z.testBit q = true ∧ rd q ≠ dotV ad bd (q / 6) (q % 6) k then 1 else 0) 36 = wrN r k c s := by
  have h8 := hN.2.2.1
  have hfl := hN.2.2.2.2.2.2.2
  have hne : ¬ nI 0 = nI 1 := by decide
  show ns (fun q => if z.testBit q = true ∧ rd q ≠ dotV ad bd (q / 6) (q % 6) k then 1 else 0) (6 * 6) = _
  rw [ns_6 6]
  have e : ∀ x y, x < 6 → y < 6 → (if z.testBit (6 * x + y) = true ∧ rd (6 * x + y) ≠ dotV ad bd ((6 * x + y) / 6) ((6 * x + y) % 6) k then 1 else 0) = (if s (117 + (6 * x + y)) = nI 1 ∧ s (81 + (6 * x + y)) ≠ dueF k s x y then 1 else 0) := fun x y hx hy => by
    have d1 : (6 * x + y) / 6 = x := by omega
    have d2 : (6 * x + y) % 6 = y := by omega
    rw [d1, d2, due_l hA hB hx hy h8.2.2.2.1]
    obtain ⟨h1, h2⟩ := hZ x y hx hy
    by_cases w : s (117 + (6 * x + y)) = nI 1
    · rw [← h2 w]
      by_cases v : rd (6 * x + y) ≠ dotV ad bd x y k
      · rw [if_pos ⟨h1.mpr w, v⟩, if_pos ⟨w, v⟩]
      · rw [if_neg (fun u => v u.2), if_neg (fun u => v u.2)]
    · rw [if_neg (fun u => w (h1.mp u.1)), if_neg (fun u => w u.1)]
  unfold wrN
  rw [ns_tail (r := r) 6 h8.2.1 (fun i h1 h2 => ns_0 fun j hj => ?_)]
  · refine ns_ext r fun i hi => ?_
    rw [ns_tail (r := c) 6 h8.2.2.2.2.2 (fun j h1 h2 => ?_)]
    · exact ns_ext c fun j hj => e i j (by omega) (by omega)
    · rw [e i j (by omega) h2]
      rcases hfl i j (by omega) h2 with ⟨-, -, q⟩ | q
      · omega
      · rw [if_neg (fun u => hne (q.symm.trans u.1))]
  · rw [e i j h2 hj]
    rcases hfl i j h2 hj with ⟨-, q, -⟩ | q
    · omega
    · rw [if_neg (fun u => hne (q.symm.trans u.1))]
theorem fa_eq (hN : ON n r k c o b ta tb tt s) (hF : ∀ p, p < 20 → fd p = s (153 + p)) : ns (fun q => if fd q ≤ 0 then 0 else 1) 20 = faN s := by
  have hO := hN.2.2.2.2.2.2.1
  show ns (fun q => if fd q ≤ 0 then 0 else 1) (5 * 4) = _
  rw [ns_5 4]
  unfold faN
  refine ns_ext 4 fun i hi => ns_ext 5 fun j hj => ?_
  rw [hF _ (by omega)]
  obtain ⟨q, h1, h2, -⟩ := hO i j hi hj
  rw [← Nat.add_assoc, h2]
  rcases Nat.eq_zero_or_pos q with w | w
  · subst w
    rw [if_pos (by decide), if_pos rfl]
  · rw [if_neg (nI_nle w (by omega)), if_neg (fun u => absurd (nI_inj (by omega) (by decide) u) (by omega))]
theorem z_pos {z wv : Nat} (h : wv = ns (fun q => if z.testBit q = true ∧ rd q ≠ dotV ad bd (q / 6) (q % 6) k then 1 else 0) 36) (h0 : 0 < wv) : 0 < z := by
  rcases Nat.eq_zero_or_pos z with w | w
  · subst w
    rw [ns_0 (fun q _ => if_neg (fun u => absurd u.1 (by simp)))] at h
    omega
  · exact w
end CEL
