/-! scan: what the scan answers does not speak of what the text's object held before; its entries are small, and zero outside the matrix -/
def SimA : AS → AS → Prop
  | (fp, re, row, col, wid, ng, dg, vl, f), (fp', re', row', col', wid', ng', dg', vl', f') => re' = re ∧ row' = row ∧ col' = col ∧ wid' = wid ∧ ng' = ng ∧ dg' = dg ∧ vl' = vl ∧ (re ≠ 0 → fp' = fp) ∧ ∀ j, j < 36 → f' j = f j
theorem updE {f g : wF} {k : Nat} {x : Int32} (h : ∀ j, j < 36 → g j = f j) : ∀ j, j < 36 → upd g k x j = upd f k x j := fun j hj => by
  by_cases e : j = k
  · rw [e, upd_s, upd_s]
  · rw [upd_n e, upd_n e]; exact h j hj
theorem SimA_step {p ch : Nat} {z y : AS} (h : SimA z y) (h0 : z.2.1 = 0) : SimA (stepA p ch z) (stepA p ch y) := by
  obtain ⟨fp, re, row, col, wid, ng, dg, vl, f⟩ := z
  obtain ⟨fp', re', row', col', wid', ng', dg', vl', f'⟩ := y
  obtain ⟨rfl, rfl, rfl, rfl, rfl, rfl, rfl, hfp, hf⟩ := h
  unfold stepA
  dsimp only
  by_cases c1 : 48 ≤ ch ∧ ch ≤ 57 ∧ dg' < 2
  · rw [if_pos c1, if_pos c1]; exact ⟨rfl, rfl, rfl, rfl, rfl, rfl, rfl, hfp, hf⟩
  · rw [if_neg c1, if_neg c1]
    by_cases c2 : ch = 45 ∧ dg' = 0 ∧ ng' = 0
    · rw [if_pos c2, if_pos c2]; exact ⟨rfl, rfl, rfl, rfl, rfl, rfl, rfl, hfp, hf⟩
    · rw [if_neg c2, if_neg c2]
      by_cases c3 : ch = 44 ∧ 0 < dg'
      · rw [if_pos c3, if_pos c3]
        unfold commaA
        dsimp only
        by_cases c4 : wid' ≤ col' + 1
        · rw [if_pos c4, if_pos c4]; exact ⟨rfl, rfl, rfl, rfl, rfl, rfl, rfl, fun _ => rfl, hf⟩
        · rw [if_neg c4, if_neg c4]; exact ⟨rfl, rfl, rfl, rfl, rfl, rfl, rfl, hfp, updE hf⟩
      · rw [if_neg c3, if_neg c3]
        by_cases c5 : ch = 59 ∧ 0 < dg'
        · rw [if_pos c5, if_pos c5]
          unfold semiA
          dsimp only
          by_cases c6 : 6 ≤ row' + 1 ∨ (0 < row' ∧ col' + 1 < wid')
          · rw [if_pos c6, if_pos c6]; exact ⟨rfl, rfl, rfl, rfl, rfl, rfl, rfl, fun _ => rfl, hf⟩
          · rw [if_neg c6, if_neg c6]; exact ⟨rfl, rfl, rfl, rfl, rfl, rfl, rfl, hfp, updE hf⟩
        · rw [if_neg c5, if_neg c5]; exact ⟨rfl, rfl, rfl, rfl, rfl, rfl, rfl, fun _ => rfl, hf⟩
theorem SimA_re {z y : AS} (h : SimA z y) : y.2.1 = z.2.1 := by
  obtain ⟨fp, re, row, col, wid, ng, dg, vl, f⟩ := z
  obtain ⟨fp', re', row', col', wid', ng', dg', vl', f'⟩ := y
  exact h.1
theorem SimA_stk {T : Nat → Nat} {z y : AS} (h : SimA z y) : ∀ n, SimA (stk T z n) (stk T y n)
  | 0 => h
  | n + 1 => by
    have ih := SimA_stk (T := T) h n
    have e := SimA_re ih
    show SimA (if (stk T z n).2.1 = 0 then stepA n (T n) (stk T z n) else stk T z n) (if (stk T y n).2.1 = 0 then stepA n (T n) (stk T y n) else stk T y n)
    by_cases c : (stk T z n).2.1 = 0
    · rw [if_pos c, if_pos (by rw [e]; exact c)]; exact SimA_step ih c
    · rw [if_neg c, if_neg (by rw [e]; exact c)]; exact ih
theorem SimA_fin {len : Nat} {z y : AS} (h : SimA z y) : SimA (finA len z).1 (finA len y).1 ∧ (finA len y).2 = (finA len z).2 := by
  obtain ⟨fp, re, row, col, wid, ng, dg, vl, f⟩ := z
  obtain ⟨fp', re', row', col', wid', ng', dg', vl', f'⟩ := y
  obtain ⟨rfl, rfl, rfl, rfl, rfl, rfl, rfl, hfp, hf⟩ := h
  unfold finA
  dsimp only
  by_cases c1 : dg' = 0
  · rw [if_pos c1, if_pos c1]; exact ⟨⟨rfl, rfl, rfl, rfl, rfl, rfl, rfl, fun _ => rfl, hf⟩, rfl⟩
  · rw [if_neg c1, if_neg c1]
    by_cases c2 : 0 < row' ∧ col' + 1 < wid'
    · rw [if_pos c2, if_pos c2]; exact ⟨⟨rfl, rfl, rfl, rfl, rfl, rfl, rfl, fun _ => rfl, hf⟩, rfl⟩
    · rw [if_neg c2, if_neg c2]; exact ⟨⟨rfl, rfl, rfl, rfl, rfl, rfl, rfl, hfp, updE hf⟩, rfl⟩
theorem SimA_scan {T : Nat → Nat} {len : Nat} {z y : AS} (h : SimA z y) : SimA (scanA T len z).1 (scanA T len y).1 ∧ (scanA T len y).2 = (scanA T len z).2 := by
  have h1 := SimA_stk (T := T) h len
  have e := SimA_re h1
  unfold scanA
  by_cases c : (stk T z len).2.1 = 0
  · rw [if_pos c, if_pos (by rw [e]; exact c)]; exact SimA_fin h1
  · rw [if_neg c, if_neg (by rw [e]; exact c)]; exact ⟨h1, rfl⟩
theorem stk_T {T T' : Nat → Nat} {z : AS} : ∀ n, (∀ j, j < n → T' j = T j) → stk T' z n = stk T z n
  | 0, _ => rfl
  | n + 1, h => by
    show (if (stk T' z n).2.1 = 0 then stepA n (T' n) (stk T' z n) else stk T' z n) = (if (stk T z n).2.1 = 0 then stepA n (T n) (stk T z n) else stk T z n)
    rw [stk_T n (fun j hj => h j (Nat.lt_succ_of_lt hj)), h n (Nat.lt_succ_self n)]
/-- what a scan holds -/
def InvB : AS → Prop
  | (_, _, row, col, wid, _, dg, vl, f) => dg ≤ 2 ∧ (dg = 0 → vl = 0) ∧ (dg = 1 → vl ≤ 9) ∧ vl ≤ 99 ∧ (∀ j, j < 36 → bV (f j)) ∧ ∀ i j, i < 6 → j < 6 → (i < row ∧ j < wid) ∨ (i = row ∧ j < col) ∨ f (6 * i + j) = nI 0
theorem sgnV_b {ng vl : Nat} (h : vl ≤ 99) : bV (sgnV ng vl) := by
  have e : (nI vl).toInt = vl := nI_toInt (by omega)
  unfold sgnV bV
  split
  · rw [e]; omega
  · rw [Int32.toInt_neg, e, tI_bm (by omega) (by omega)]; omega
theorem bV_upd {f : wF} {k : Nat} {x : Int32} (h : ∀ j, j < 36 → bV (f j)) (hx : bV x) : ∀ j, j < 36 → bV (upd f k x j) := fun j hj => by
  by_cases e : j = k
  · rw [e, upd_s]; exact hx
  · rw [upd_n e]; exact h j hj
theorem InvB_step {p ch : Nat} {z : AS} (hA : InvA z) (h : InvB z) : InvB (stepA p ch z) := by
  obtain ⟨fp, re, row, col, wid, ng, dg, vl, f⟩ := z
  obtain ⟨a1, a2, a3, a4⟩ := hA
  dsimp only at a1 a2 a3 a4
  obtain ⟨h1, h2, h3, h4, h5, h6⟩ := h
  unfold stepA
  dsimp only
  by_cases c1 : 48 ≤ ch ∧ ch ≤ 57 ∧ dg < 2
  · rw [if_pos c1]
    exact ⟨by omega, by omega, by omega, by omega, h5, h6⟩
  · rw [if_neg c1]
    by_cases c2 : ch = 45 ∧ dg = 0 ∧ ng = 0
    · rw [if_pos c2]; exact ⟨h1, h2, h3, h4, h5, h6⟩
    · rw [if_neg c2]
      by_cases c3 : ch = 44 ∧ 0 < dg
      · rw [if_pos c3]
        unfold commaA
        dsimp only
        by_cases c4 : wid ≤ col + 1
        · rw [if_pos c4]; exact ⟨h1, h2, h3, h4, h5, h6⟩
        · rw [if_neg c4]
          refine ⟨by decide, fun _ => rfl, fun _ => by decide, by decide, bV_upd h5 (sgnV_b h4), fun i j hi hj => ?_⟩
          rcases h6 i j hi hj with q | q | q
          · exact Or.inl q
          · exact Or.inr (Or.inl (by omega))
          · by_cases e : 6 * i + j = 6 * row + col
            · exact Or.inr (Or.inl (by omega))
            · exact Or.inr (Or.inr (by rw [upd_n e]; exact q))
      · rw [if_neg c3]
        by_cases c5 : ch = 59 ∧ 0 < dg
        · rw [if_pos c5]
          unfold semiA
          dsimp only
          by_cases c6 : 6 ≤ row + 1 ∨ (0 < row ∧ col + 1 < wid)
          · rw [if_pos c6]; exact ⟨h1, h2, h3, h4, h5, h6⟩
          · rw [if_neg c6]
            refine ⟨by decide, fun _ => rfl, fun _ => by decide, by decide, bV_upd h5 (sgnV_b h4), fun i j hi hj => ?_⟩
            rcases h6 i j hi hj with q | q | q
            · refine Or.inl ⟨by omega, ?_⟩
              rw [if_neg (by omega)]; exact q.2
            · refine Or.inl ⟨by omega, ?_⟩
              split <;> omega
            · by_cases e : 6 * i + j = 6 * row + col
              · refine Or.inl ⟨by omega, ?_⟩
                split <;> omega
              · exact Or.inr (Or.inr (by rw [upd_n e]; exact q))
        · rw [if_neg c5]; exact ⟨h1, h2, h3, h4, h5, h6⟩
theorem InvAB_stk {T : Nat → Nat} {z : AS} (hA : InvA z) (hB : InvB z) : ∀ n, InvA (stk T z n) ∧ InvB (stk T z n)
  | 0 => ⟨hA, hB⟩
  | n + 1 => by
    have ih := InvAB_stk (T := T) hA hB n
    show InvA (if (stk T z n).2.1 = 0 then stepA n (T n) (stk T z n) else stk T z n) ∧ InvB (if (stk T z n).2.1 = 0 then stepA n (T n) (stk T z n) else stk T z n)
    split
    · exact ⟨InvA_step ih.1, InvB_step ih.1 ih.2⟩
    · exact ih
/-- what a scan without fault ends with: the numbers of rows and columns, and the entries -/
theorem scan_ok {T : Nat → Nat} {len : Nat} {z : AS} (hA : InvA z) (hB : InvB z) (h : (scanA T len z).1.2.1 = 0) : (1 ≤ (scanA T len z).2.1 ∧ (scanA T len z).2.1 ≤ 6) ∧ (1 ≤ (scanA T len z).2.2 ∧ (scanA T len z).2.2 ≤ 6) ∧ (∀ j, j < 36 → bV ((scanA T len z).1.2.2.2.2.2.2.2.2 j)) ∧ ∀ i j, i < 6 → j < 6 → (i < (scanA T len z).2.1 ∧ j < (scanA T len z).2.2) ∨ (scanA T len z).1.2.2.2.2.2.2.2.2 (6 * i + j) = nI 0 := by
  obtain ⟨sA, sB⟩ := InvAB_stk (T := T) hA hB len
  unfold scanA at h ⊢
  by_cases c : (stk T z len).2.1 = 0
  · rw [if_pos c] at h ⊢
    revert h sA sB
    generalize stk T z len = y
    obtain ⟨fp, re, row, col, wid, ng, dg, vl, f⟩ := y
    rintro h ⟨a1, a2, a3, a4⟩ ⟨h1, h2, h3, h4, h5, h6⟩
    dsimp only at a1 a2 a3 a4
    unfold finA at h ⊢
    dsimp only at h ⊢
    by_cases c1 : dg = 0
    · rw [if_pos c1] at h; exact absurd (show 1 = 0 from h) (by decide)
    · rw [if_neg c1] at h ⊢
      by_cases c2 : 0 < row ∧ col + 1 < wid
      · rw [if_pos c2] at h; exact absurd (show 2 = 0 from h) (by decide)
      · rw [if_neg c2] at h ⊢
        dsimp only
        refine ⟨by omega, by split <;> omega, bV_upd h5 (sgnV_b h4), fun i j hi hj => ?_⟩
        rcases h6 i j hi hj with q | q | q
        · refine Or.inl ⟨by omega, ?_⟩
          rw [if_neg (by omega)]; exact q.2
        · refine Or.inl ⟨by omega, ?_⟩
          split <;> omega
        · by_cases e : 6 * i + j = 6 * row + col
          · refine Or.inl ⟨by omega, ?_⟩
            split <;> omega
          · exact Or.inr (by rw [upd_n e]; exact q)
  · rw [if_neg c] at h; exact absurd h c
theorem re_2 {T : Nat → Nat} {len : Nat} {z : AS} (hz : z.2.1 ≤ 2) : (scanA T len z).1.2.1 ≤ 2 := by
  have step : ∀ (p ch : Nat) (y : AS), y.2.1 ≤ 2 → (stepA p ch y).2.1 ≤ 2 := by
    rintro p ch ⟨fp, re, row, col, wid, ng, dg, vl, f⟩ hy
    unfold stepA
    dsimp only
    split
    · exact hy
    · split
      · exact hy
      · split
        · unfold commaA; dsimp only; split <;> first | exact hy | exact Nat.le_refl 2
        · split
          · unfold semiA; dsimp only; split <;> first | exact hy | exact Nat.le_refl 2
          · show 1 ≤ 2; decide
  have s : ∀ n, (stk T z n).2.1 ≤ 2 := by
    intro n
    induction n with
    | zero => exact hz
    | succ n ih =>
      show (if (stk T z n).2.1 = 0 then stepA n (T n) (stk T z n) else stk T z n).2.1 ≤ 2
      split
      · exact step _ _ _ ih
      · exact ih
  unfold scanA
  split
  · have := s len
    revert this
    generalize stk T z len = y
    obtain ⟨fp, re, row, col, wid, ng, dg, vl, f⟩ := y
    intro hy
    unfold finA
    dsimp only
    split
    · show 1 ≤ 2; decide
    · split
      · show 2 ≤ 2; decide
      · exact hy
  · exact s len
