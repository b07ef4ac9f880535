/-! ref8: a tick -/
theorem ai_ext {c : ClassId} {n : Nat} {f f2 : wF} (h : ∀ j, j < n → f j = f2 j) : vp_cell c (n, .inl f) = vp_cell c (n, .inl f2) := by
  rw [vp_cell_i, vp_cell_i]
  unfold arrV
  have e : (fun j : Fin n => Value.int (f j.val)) = fun j : Fin n => Value.int (f2 j.val) := by
    funext j
    rw [h j.val j.isLt]
  rw [e]
theorem q_ext {D : va_G} {cl : List vw_C} {ws : va_W} {H : Heap} {A : Nat → Prop} {c : ClassId} {n a : Nat} {f : wF} (f2 : wF) (hP : va_P D cl ws H) (hD : va_D A ws) (q0 : Nat) (ha : ws[q0]? = some (a, .inl (c, n, .inl f))) (h : ∀ j, j < n → f j = f2 j) : va_P D cl (ws.set q0 (a, .inl (c, n, .inl f2))) H ∧ va_D A (ws.set q0 (a, .inl (c, n, .inl f2))) := by
  have hl : q0 < ws.length := (List.getElem?_eq_some_iff.mp ha).1
  have g : ∀ (k : Nat) (q : Nat × va_E), (ws.set q0 (a, .inl (c, n, .inl f2)))[k]? = some q → (k = q0 ∧ q = (a, .inl (c, n, .inl f2))) ∨ ws[k]? = some q := by
    intro k q hk
    by_cases e : k = q0
    · subst e
      rw [List.getElem?_set_self hl] at hk
      exact Or.inl ⟨rfl, (Option.some.inj hk).symm⟩
    · rw [List.getElem?_set_ne (fun z => e z.symm)] at hk
      exact Or.inr hk
  refine ⟨fun k q hk => ?_, wD_map hD fun k q hk => ?_⟩
  · rcases g k q hk with ⟨rfl, rfl⟩ | h2
    · have h3 : va_at D cl (a, .inl (c, n, .inl f)) H := hP k _ ha
      show H[a]? = some (vp_cell c (n, .inl f2))
      rw [← ai_ext h]
      exact h3
    · exact hP k q h2
  · rcases g k q hk with ⟨rfl, rfl⟩ | h2
    · exact ⟨_, ha, rfl⟩
    · exact ⟨q, h2, rfl⟩
theorem som_iff {p : Prop} [Decidable p] {v : Int32} : (if p then some v else none).isSome = true ↔ p := by
  by_cases h : p
  · rw [if_pos h]; exact ⟨fun _ => h, fun _ => rfl⟩
  · rw [if_neg h]; exact ⟨fun q => (by cases q), fun q => absurd q h⟩
theorem som_v {p : Prop} [Decidable p] {v : Int32} (h : (if p then some v else none).isSome = true) : (if p then some v else none).getD (nI 0) = v := by
  rw [if_pos (som_iff.mp h)]; rfl
theorem som_n {x : Option Int32} (h : ¬ x.isSome = true) : x.getD (nI 0) = nI 0 := by
  cases x with
  | none => rfl
  | some v => exact absurd rfl h
theorem in_S {tt i k : Nat} (ht : tt ≤ 100) (hi : i < 4) (hk : 1 ≤ k ∧ k ≤ 6) : ((nI 0).toInt ≤ (nI tt - nI i).toInt ∧ (nI tt - nI i).toInt ≤ (nI (k - 1)).toInt) ↔ i ≤ tt ∧ tt - i < k := by
  rw [pk_sub_toInt (by omega) (by omega), nI_toInt (by omega), nI_toInt (by omega)]
  omega
section GETS
variable {k n ta tb tt i j : Nat} {s : wF}
theorem gL_in (hj : j = 0) (ht : tt ≤ 100) (hi : i < 4) (hk : 1 ≤ k ∧ k ≤ 6) : ((nI 0).toInt ≤ (nI tt - nI i).toInt ∧ (nI tt - nI i).toInt ≤ (nI (k - 1)).toInt) ↔ (gL k n ta tt i j s).isSome = true := by
  unfold gL
  rw [if_pos hj, som_iff]
  exact in_S ht hi hk
theorem gA_in (hi : i = 0) (ht : tt ≤ 100) (hj : j < 4) (hk : 1 ≤ k ∧ k ≤ 6) : ((nI 0).toInt ≤ (nI tt - nI j).toInt ∧ (nI tt - nI j).toInt ≤ (nI (k - 1)).toInt) ↔ (gA k n tb tt i j s).isSome = true := by
  unfold gA
  rw [if_pos hi, som_iff]
  exact in_S ht hj hk
theorem gL_pp (hj : 0 < j) : s (173 + 24 * i + 6 * (j - 1) + 1) = nI 1 ↔ (gL k n ta tt i j s).isSome = true := by
  unfold gL
  rw [if_neg (by omega), som_iff]
theorem gA_pp (hi : 0 < i) : s (173 + 24 * (i - 1) + 6 * j + 3) = nI 1 ↔ (gA k n tb tt i j s).isSome = true := by
  unfold gA
  rw [if_neg (by omega), som_iff]
theorem gL_c0 (hj : j = 0) (h : (gL k n ta tt i j s).isSome = true) : i ≤ tt ∧ tt - i < k := by
  unfold gL at h
  rw [if_pos hj, som_iff] at h
  exact h
theorem gA_c0 (hi : i = 0) (h : (gA k n tb tt i j s).isSome = true) : j ≤ tt ∧ tt - j < k := by
  unfold gA at h
  rw [if_pos hi, som_iff] at h
  exact h
theorem gL_v0 (hj : j = 0) (h : (gL k n ta tt i j s).isSome = true) : (gL k n ta tt i j s).getD (nI 0) = s (9 + 6 * (n * ta + i) + (tt - i)) := by
  unfold gL at h ⊢
  rw [if_pos hj] at h ⊢
  exact som_v h
theorem gA_v0 (hi : i = 0) (h : (gA k n tb tt i j s).isSome = true) : (gA k n tb tt i j s).getD (nI 0) = s (45 + 6 * (tt - j) + n * tb + j) := by
  unfold gA at h ⊢
  rw [if_pos hi] at h ⊢
  rw [Nat.add_assoc (45 + 6 * (tt - j))]
  exact som_v h
theorem gL_vp (hj : 0 < j) (h : (gL k n ta tt i j s).isSome = true) : (gL k n ta tt i j s).getD (nI 0) = s (173 + 24 * i + 6 * (j - 1) + 2) := by
  unfold gL at h ⊢
  rw [if_neg (by omega)] at h ⊢
  exact som_v h
theorem gA_vp (hi : 0 < i) (h : (gA k n tb tt i j s).isSome = true) : (gA k n tb tt i j s).getD (nI 0) = s (173 + 24 * (i - 1) + 6 * j + 4) := by
  unfold gA at h ⊢
  rw [if_neg (by omega)] at h ⊢
  exact som_v h
end GETS

theorem kX7_gets_f7 : Cond.fieldLink RX7 7 "SkewedSquareModel" "s" "[I" ∈ wsX7_gets := by decide +kernel
theorem kX7_gets_f82 : Cond.fieldLink RX7 82 "SkewedSquareModel" "hasLeft" "Z" ∈ wsX7_gets := by decide +kernel
theorem kX7_gets_f86 : Cond.fieldLink RX7 86 "SkewedSquareModel" "hasAbove" "Z" ∈ wsX7_gets := by decide +kernel
theorem kX7_gets_f89 : Cond.fieldLink RX7 89 "SkewedSquareModel" "fromLeft" "I" ∈ wsX7_gets := by decide +kernel
theorem kX7_gets_f92 : Cond.fieldLink RX7 92 "SkewedSquareModel" "fromAbove" "I" ∈ wsX7_gets := by decide +kernel
theorem khX7_gets_X7 : ∀ w ∈ u_ws RX7 TX7 16, w ∈ wsX7_gets := by decide +kernel
set_option maxHeartbeats 4000000 in
set_option maxRecDepth 100000 in
/-- kX7_gets -/
theorem kX7_gets (l : Launch) (G : wG) (r : RA) (s P U : wF) (p : Nat) (X : wF) (y q0 : Nat) (q1 : Int32) (q2 : Nat) (q3 : Int32) (sp re : Nat) (B : wF) (wd hg ow : Nat) (n o lr lc rc : Nat) (ta tb : Nat) (tt : Nat) (i j : Nat) (hD : RelD n o lr lc rc s) (hE : RelE n lr rc ta tb s) (g8 : s 8 = nI tt) (h8 : tt ≤ 100) (hi : i < 4) (hj : j < 4) (hri : n * ta + i < lr) (hcj : n * tb + j < rc) : CV (S := Nat × Int32 × Nat × Int32) l yX7_gets wsX7_gets (rm 1 22) G [.ref r.1, .int (nI i), .int (nI j)] (wU G r (s, P, U, p, X, y, q0, q1, q2, q3, sp, re, B, wd, hg, ow)) (fun u9 => ((u9.1 = 1 ∧ (gL lc n ta tt i j s).isSome = true) ∨ (u9.1 = 0 ∧ ¬ (gL lc n ta tt i j s).isSome = true)) ∧ ((u9.2.2.1 = 1 ∧ (gA lc n tb tt i j s).isSome = true) ∨ (u9.2.2.1 = 0 ∧ ¬ (gA lc n tb tt i j s).isSome = true)) ∧ u9.2.1 = (gL lc n ta tt i j s).getD (nI 0) ∧ u9.2.2.2 = (gA lc n tb tt i j s).getD (nI 0)) (fun u9 => wU G r (s, P, U, p, X, y, u9.1, u9.2.1, u9.2.2.1, u9.2.2.2, sp, re, B, wd, hg, ow)) := by
  refine CV.of (own := RX7) rfl (by decide) rfl (Nat.le_of_ble_eq_true rfl) ?_
  intro p9 e9 s9 m9 b9 t9 c9 A xE xB xM xO xT xK xP xD Q xQ xS ls hl
  have xL : lv_has ls 5 [(0, .ref r.1), (1, .int (nI i)), (2, .int (nI j))] := hl
  obtain ⟨g0, g1, g2, g3, g4, ⟨hn1, hn2, hn3⟩, hm1, hm2, hm3, hm4, hm5, hm6⟩ := id hD
  obtain ⟨g6, g7, ht1, ht2⟩ := id hE
  refine lv_aload_n xE xB dX7_gets_0 rfl (lv_at xL 0 rfl) ?_
  refine va_get (D := G.1) (ci := 7) (v := .ref r.2.1) (C := RX7) (T := TX7) (N := 16) xE xB xT khX7_gets_X7 xO xK.1 xP 0 rfl rfl 0 (by decide) (xT _ kX7_gets_f7) (fun _ h9 => h9) rfl dX7_gets_1 ?_
  refine lv_bipush (v := nI 8) xE xB dX7_gets_4 (by decide) ?_
  refine q_ald xE xB xK xP 1 rfl (by omega) (by decide) dX7_gets_6 ?_
  refine q_eq (y := nI tt) (congrArg (fun z => z) (g8)) ?_
  refine lv_iload_n xE xB dX7_gets_7 rfl (lv_at xL 1 rfl) ?_
  refine lv_isub xE xB dX7_gets_8 ?_
  refine lv_istore_n (lv' := [(3, .int ((nI tt) - (nI i))), (0, .ref r.1), (1, .int (nI i)), (2, .int (nI j))]) xE xB dX7_gets_9 rfl xL (by decide) rfl (fun ls xL => ?_)
  refine lv_aload_n xE xB dX7_gets_10 rfl (lv_at xL 1 rfl) ?_
  refine va_get (D := G.1) (ci := 7) (v := .ref r.2.1) (C := RX7) (T := TX7) (N := 16) xE xB xT khX7_gets_X7 xO xK.1 xP 0 rfl rfl 0 (by decide) (xT _ kX7_gets_f7) (fun _ h9 => h9) rfl dX7_gets_11 ?_
  refine lv_bipush (v := nI 8) xE xB dX7_gets_14 (by decide) ?_
  refine q_ald xE xB xK xP 1 rfl (by omega) (by decide) dX7_gets_16 ?_
  refine q_eq (y := nI tt) (congrArg (fun z => z) (g8)) ?_
  refine lv_iload_n xE xB dX7_gets_17 rfl (lv_at xL 3 rfl) ?_
  refine lv_isub xE xB dX7_gets_18 ?_
  refine lv_istore (lv' := [(4, .int ((nI tt) - (nI j))), (3, .int ((nI tt) - (nI i))), (0, .ref r.1), (1, .int (nI i)), (2, .int (nI j))]) xE xB dX7_gets_19 xL (by decide) rfl (fun ls xL => ?_)
  have J_65 : ∀ (lf : Nat), ((lf = 1 ∧ (gL lc n ta tt i j s).isSome = true) ∨ (lf = 0 ∧ ¬ (gL lc n ta tt i j s).isSome = true)) → ∀ (H : Heap) (locs : List Loc), va_P G.1 vwCl (wU G r (s, P, U, p, X, y, q0, q1, q2, q3, sp, re, B, wd, hg, ow)) H → va_D A (wU G r (s, P, U, p, X, y, q0, q1, q2, q3, sp, re, B, wd, hg, ow)) → va_S A s9.heap H locs → ∀ (ls : Array Slot), lv_has ls 5 [(0, .ref r.1), (1, .int (nI i)), (2, .int (nI j)), (3, .int (nI tt - nI i)), (4, .int (nI tt - nI j))] → W p9 l e9 (rm 1 22) s9 m9 ([.ref r.1, .int (nI i), .int (nI j)] : List Value).toArray b9 t9 c9 H locs 0 0 Q (F0 m9 65 ls [.int (nI lf), .ref r.1]) := by
    intro lf h65 H locs xP xD xS ls xL
    refine va_put (D := G.1) (ci := 7) (v := .int (nI lf)) (ty := .boolean) (C := RX7) (T := TX7) (N := 16) xE xB xT khX7_gets_X7 tyX7 tyX7_ok nmX7 xO xK.1 xP xD xS 0 rfl rfl 6 (by decide) (xT _ kX7_gets_f82) (fun _ h9 => h9) rfl (by decide +kernel) (by rcases h65 with ⟨rfl, -⟩ | ⟨rfl, -⟩ <;> decide) (by rcases h65 with ⟨rfl, -⟩ | ⟨rfl, -⟩ <;> decide) (Nat.le_of_ble_eq_true rfl) dX7_gets_65 (fun H locs xP xD xS => ?_)
    have xP : va_P G.1 vwCl (wU G r (s, P, U, p, X, y, lf, q1, q2, q3, sp, re, B, wd, hg, ow)) H := xP
    have xD : va_D A (wU G r (s, P, U, p, X, y, lf, q1, q2, q3, sp, re, B, wd, hg, ow)) := xD
    have J_113 : ∀ (af : Nat), ((af = 1 ∧ (gA lc n tb tt i j s).isSome = true) ∨ (af = 0 ∧ ¬ (gA lc n tb tt i j s).isSome = true)) → ∀ (H : Heap) (locs : List Loc), va_P G.1 vwCl (wU G r (s, P, U, p, X, y, lf, q1, q2, q3, sp, re, B, wd, hg, ow)) H → va_D A (wU G r (s, P, U, p, X, y, lf, q1, q2, q3, sp, re, B, wd, hg, ow)) → va_S A s9.heap H locs → ∀ (ls : Array Slot), lv_has ls 5 [(0, .ref r.1), (1, .int (nI i)), (2, .int (nI j)), (3, .int (nI tt - nI i)), (4, .int (nI tt - nI j))] → W p9 l e9 (rm 1 22) s9 m9 ([.ref r.1, .int (nI i), .int (nI j)] : List Value).toArray b9 t9 c9 H locs 0 0 Q (F0 m9 113 ls [.int (nI af), .ref r.1]) := by
      intro af h113 H locs xP xD xS ls xL
      refine va_put (D := G.1) (ci := 7) (v := .int (nI af)) (ty := .boolean) (C := RX7) (T := TX7) (N := 16) xE xB xT khX7_gets_X7 tyX7 tyX7_ok nmX7 xO xK.1 xP xD xS 0 rfl rfl 8 (by decide) (xT _ kX7_gets_f86) (fun _ h9 => h9) rfl (by decide +kernel) (by rcases h113 with ⟨rfl, -⟩ | ⟨rfl, -⟩ <;> decide) (by rcases h113 with ⟨rfl, -⟩ | ⟨rfl, -⟩ <;> decide) (Nat.le_of_ble_eq_true rfl) dX7_gets_113 (fun H locs xP xD xS => ?_)
      have xP : va_P G.1 vwCl (wU G r (s, P, U, p, X, y, lf, q1, af, q3, sp, re, B, wd, hg, ow)) H := xP
      have xD : va_D A (wU G r (s, P, U, p, X, y, lf, q1, af, q3, sp, re, B, wd, hg, ow)) := xD
      refine lv_aload_n xE xB dX7_gets_116 rfl (lv_at xL 0 rfl) ?_
      refine lv_iconst (v := nI 0) xE xB dX7_gets_117 (by decide) ?_
      refine va_put (D := G.1) (ci := 7) (v := .int (nI 0)) (ty := .int) (C := RX7) (T := TX7) (N := 16) xE xB xT khX7_gets_X7 tyX7 tyX7_ok nmX7 xO xK.1 xP xD xS 0 rfl rfl 7 (by decide) (xT _ kX7_gets_f89) (fun _ h9 => h9) rfl (by decide +kernel) rfl rfl (Nat.le_of_ble_eq_true rfl) dX7_gets_118 (fun H locs xP xD xS => ?_)
      have xP : va_P G.1 vwCl (wU G r (s, P, U, p, X, y, lf, nI 0, af, q3, sp, re, B, wd, hg, ow)) H := xP
      have xD : va_D A (wU G r (s, P, U, p, X, y, lf, nI 0, af, q3, sp, re, B, wd, hg, ow)) := xD
      refine lv_aload_n xE xB dX7_gets_121 rfl (lv_at xL 0 rfl) ?_
      refine lv_iconst (v := nI 0) xE xB dX7_gets_122 (by decide) ?_
      refine va_put (D := G.1) (ci := 7) (v := .int (nI 0)) (ty := .int) (C := RX7) (T := TX7) (N := 16) xE xB xT khX7_gets_X7 tyX7 tyX7_ok nmX7 xO xK.1 xP xD xS 0 rfl rfl 9 (by decide) (xT _ kX7_gets_f92) (fun _ h9 => h9) rfl (by decide +kernel) rfl rfl (Nat.le_of_ble_eq_true rfl) dX7_gets_123 (fun H locs xP xD xS => ?_)
      have xP : va_P G.1 vwCl (wU G r (s, P, U, p, X, y, lf, nI 0, af, nI 0, sp, re, B, wd, hg, ow)) H := xP
      have xD : va_D A (wU G r (s, P, U, p, X, y, lf, nI 0, af, nI 0, sp, re, B, wd, hg, ow)) := xD
      have J_187 : ∀ (x : Int32), (x = (gL lc n ta tt i j s).getD (nI 0)) → ∀ (H : Heap) (locs : List Loc), va_P G.1 vwCl (wU G r (s, P, U, p, X, y, lf, x, af, nI 0, sp, re, B, wd, hg, ow)) H → va_D A (wU G r (s, P, U, p, X, y, lf, x, af, nI 0, sp, re, B, wd, hg, ow)) → va_S A s9.heap H locs → ∀ (ls : Array Slot), lv_has ls 5 [(0, .ref r.1), (1, .int (nI i)), (2, .int (nI j)), (4, .int (nI tt - nI j))] → W p9 l e9 (rm 1 22) s9 m9 ([.ref r.1, .int (nI i), .int (nI j)] : List Value).toArray b9 t9 c9 H locs 0 0 Q (F0 m9 187 ls []) := by
        intro x hx H locs xP xD xS ls xL
        have J_249 : ∀ (yy : Int32), (yy = (gA lc n tb tt i j s).getD (nI 0)) → ∀ (H : Heap) (locs : List Loc), va_P G.1 vwCl (wU G r (s, P, U, p, X, y, lf, x, af, yy, sp, re, B, wd, hg, ow)) H → va_D A (wU G r (s, P, U, p, X, y, lf, x, af, yy, sp, re, B, wd, hg, ow)) → va_S A s9.heap H locs → ∀ (ls : Array Slot), lv_has ls 5 [(0, .ref r.1)] → W p9 l e9 (rm 1 22) s9 m9 ([.ref r.1, .int (nI i), .int (nI j)] : List Value).toArray b9 t9 c9 H locs 0 0 Q (F0 m9 249 ls []) := by
          intro yy hyy H locs xP xD xS ls xL
          exact xQ _ _ _ _ (lf, x, af, yy) (by exact ⟨h65, h113, hx, hyy⟩) xP xD xS dX7_gets_249
        refine lv_aload_n xE xB dX7_gets_187 rfl (lv_at xL 0 rfl) ?_
        refine va_get (D := G.1) (ci := 7) (v := .int (nI af)) (C := RX7) (T := TX7) (N := 16) xE xB xT khX7_gets_X7 xO xK.1 xP 0 rfl rfl 8 (by decide) (xT _ kX7_gets_f86) (fun _ h9 => h9) rfl dX7_gets_188 ?_
        refine q_if_eq (tgt := 249) xE xB dX7_gets_191 (by decide) (by rcases h113 with ⟨q, -⟩ | ⟨q, -⟩ <;> omega) (fun c_191 => ?_) (fun c_191 => ?_)
        · skip
          exact J_249 (nI 0) (by first | exact (som_n (by rcases h113 with ⟨q, -⟩ | ⟨-, q⟩ <;> first | exact q | omega)).symm | exact (gA_v0 c_196 hs8).symm | exact (gA_vp c_196 hs8).symm) _ _ xP xD xS _ (lv_sub xL [0] rfl)
        · skip
          have hs8 : (gA lc n tb tt i j s).isSome = true := (by rcases h113 with ⟨-, q⟩ | ⟨q, -⟩ <;> first | exact q | omega)
          refine lv_aload_n xE xB dX7_gets_194 rfl (lv_at xL 0 rfl) ?_
          refine lv_iload_n xE xB dX7_gets_195 rfl (lv_at xL 1 rfl) ?_
          refine q_if_ne (tgt := 232) xE xB dX7_gets_196 (by decide) (by omega) (fun c_196 => ?_) (fun c_196 => ?_)
          · skip
            refine lv_aload_n xE xB dX7_gets_232 rfl (lv_at xL 0 rfl) ?_
            refine va_get (D := G.1) (ci := 7) (v := .ref r.2.1) (C := RX7) (T := TX7) (N := 16) xE xB xT khX7_gets_X7 xO xK.1 xP 0 rfl rfl 0 (by decide) (xT _ kX7_gets_f7) (fun _ h9 => h9) rfl dX7_gets_233 ?_
            refine lv_iload_n xE xB dX7_gets_236 rfl (lv_at xL 1 rfl) ?_
            refine lv_iconst (v := nI 1) xE xB dX7_gets_237 (by decide) ?_
            refine q_isub xE xB dX7_gets_238 (by omega) ?_
            refine lv_iload_n xE xB dX7_gets_239 rfl (lv_at xL 2 rfl) ?_
            refine q_SR (As := [.int (nI (i - 1)), .int (nI j)]) (rest := [.ref r.2.1, .ref r.1]) ⟨xE, xB, xM, xO, xT⟩ (kX7_cell l G (i - 1) j) (va_cwS 2 xT gX7_gets_X7_cell rfl rfl rfl (by decide +kernel) ⟨Nat.le_of_ble_eq_true rfl, Nat.le_of_ble_eq_true rfl⟩) xK xP [] rfl rfl xL.1 rfl (Nat.le_of_ble_eq_true rfl) dX7_gets_240 ⟨Nat.le_refl _, Nat.le_refl _⟩ (fun r_240 h_240 => ?_)
            obtain rfl : r_240 = nI (173 + 24 * (i - 1) + 6 * j) := h_240
            refine lv_iconst (v := nI 4) xE xB dX7_gets_243 (by decide) ?_
            refine q_iadd xE xB dX7_gets_244 ?_
            refine q_ald xE xB xK xP 1 rfl (by omega) (by decide) dX7_gets_245 ?_
            refine va_put (D := G.1) (ci := 7) (v := .int (s ((173 + 24 * (i - 1) + 6 * j) + 4))) (ty := .int) (C := RX7) (T := TX7) (N := 16) xE xB xT khX7_gets_X7 tyX7 tyX7_ok nmX7 xO xK.1 xP xD xS 0 rfl rfl 9 (by decide) (xT _ kX7_gets_f92) (fun _ h9 => h9) rfl (by decide +kernel) rfl rfl (Nat.le_of_ble_eq_true rfl) dX7_gets_246 (fun H locs xP xD xS => ?_)
            have xP : va_P G.1 vwCl (wU G r (s, P, U, p, X, y, lf, x, af, s ((173 + 24 * (i - 1) + 6 * j) + 4), sp, re, B, wd, hg, ow)) H := xP
            have xD : va_D A (wU G r (s, P, U, p, X, y, lf, x, af, s ((173 + 24 * (i - 1) + 6 * j) + 4), sp, re, B, wd, hg, ow)) := xD
            exact J_249 (s ((173 + 24 * (i - 1) + 6 * j) + 4)) (by first | exact (som_n (by rcases h113 with ⟨q, -⟩ | ⟨-, q⟩ <;> first | exact q | omega)).symm | exact (gA_v0 c_196 hs8).symm | exact (gA_vp c_196 hs8).symm) _ _ xP xD xS _ (lv_sub xL [0] rfl)
          · skip
            have hc8 := gA_c0 c_196 hs8
            have e8 : nI tt - nI j = nI (tt - j) := pk_sub hc8.1
            rw [e8] at xL
            have xL : lv_has ls 5 [(0, .ref r.1), (1, .int (nI i)), (2, .int (nI j)), (4, .int (nI (tt - j)))] := xL
            refine lv_aload_n xE xB dX7_gets_199 rfl (lv_at xL 0 rfl) ?_
            refine va_get (D := G.1) (ci := 7) (v := .ref r.2.1) (C := RX7) (T := TX7) (N := 16) xE xB xT khX7_gets_X7 xO xK.1 xP 0 rfl rfl 0 (by decide) (xT _ kX7_gets_f7) (fun _ h9 => h9) rfl dX7_gets_200 ?_
            refine lv_bipush (v := nI 45) xE xB dX7_gets_203 (by decide) ?_
            refine lv_bipush (v := nI 6) xE xB dX7_gets_205 (by decide) ?_
            refine lv_iload xE xB dX7_gets_207 (lv_at xL 3 rfl) ?_
            refine q_imul xE xB dX7_gets_209 ?_
            refine q_iadd xE xB dX7_gets_210 ?_
            refine lv_aload_n xE xB dX7_gets_211 rfl (lv_at xL 0 rfl) ?_
            refine va_get (D := G.1) (ci := 7) (v := .ref r.2.1) (C := RX7) (T := TX7) (N := 16) xE xB xT khX7_gets_X7 xO xK.1 xP 0 rfl rfl 0 (by decide) (xT _ kX7_gets_f7) (fun _ h9 => h9) rfl dX7_gets_212 ?_
            refine lv_iconst (v := nI 0) xE xB dX7_gets_215 (by decide) ?_
            refine q_ald xE xB xK xP 1 rfl (by omega) (by decide) dX7_gets_216 ?_
            refine q_eq (y := nI n) (congrArg (fun z => z) (g0)) ?_
            refine lv_aload_n xE xB dX7_gets_217 rfl (lv_at xL 0 rfl) ?_
            refine va_get (D := G.1) (ci := 7) (v := .ref r.2.1) (C := RX7) (T := TX7) (N := 16) xE xB xT khX7_gets_X7 xO xK.1 xP 0 rfl rfl 0 (by decide) (xT _ kX7_gets_f7) (fun _ h9 => h9) rfl dX7_gets_218 ?_
            refine lv_bipush (v := nI 7) xE xB dX7_gets_221 (by decide) ?_
            refine q_ald xE xB xK xP 1 rfl (by omega) (by decide) dX7_gets_223 ?_
            refine q_eq (y := nI tb) (congrArg (fun z => z) (g7)) ?_
            refine q_imul xE xB dX7_gets_224 ?_
            refine q_iadd xE xB dX7_gets_225 ?_
            refine lv_iload_n xE xB dX7_gets_226 rfl (lv_at xL 2 rfl) ?_
            refine q_iadd xE xB dX7_gets_227 ?_
            refine q_ald xE xB xK xP 1 rfl (by omega) (by decide) dX7_gets_228 ?_
            refine lv_goto (tgt := 246) xE xB dX7_gets_229 (by decide) ?_
            refine va_put (D := G.1) (ci := 7) (v := .int (s (((45 + (6 * (tt - j))) + (n * tb)) + j))) (ty := .int) (C := RX7) (T := TX7) (N := 16) xE xB xT khX7_gets_X7 tyX7 tyX7_ok nmX7 xO xK.1 xP xD xS 0 rfl rfl 9 (by decide) (xT _ kX7_gets_f92) (fun _ h9 => h9) rfl (by decide +kernel) rfl rfl (Nat.le_of_ble_eq_true rfl) dX7_gets_246 (fun H locs xP xD xS => ?_)
            have xP : va_P G.1 vwCl (wU G r (s, P, U, p, X, y, lf, x, af, s (((45 + (6 * (tt - j))) + (n * tb)) + j), sp, re, B, wd, hg, ow)) H := xP
            have xD : va_D A (wU G r (s, P, U, p, X, y, lf, x, af, s (((45 + (6 * (tt - j))) + (n * tb)) + j), sp, re, B, wd, hg, ow)) := xD
            exact J_249 (s (((45 + (6 * (tt - j))) + (n * tb)) + j)) (by first | exact (som_n (by rcases h113 with ⟨q, -⟩ | ⟨-, q⟩ <;> first | exact q | omega)).symm | exact (gA_v0 c_196 hs8).symm | exact (gA_vp c_196 hs8).symm) _ _ xP xD xS _ (lv_sub xL [0] rfl)
      refine lv_aload_n xE xB dX7_gets_126 rfl (lv_at xL 0 rfl) ?_
      refine va_get (D := G.1) (ci := 7) (v := .int (nI lf)) (C := RX7) (T := TX7) (N := 16) xE xB xT khX7_gets_X7 xO xK.1 xP 0 rfl rfl 6 (by decide) (xT _ kX7_gets_f82) (fun _ h9 => h9) rfl dX7_gets_127 ?_
      refine q_if_eq (tgt := 187) xE xB dX7_gets_130 (by decide) (by rcases h65 with ⟨q, -⟩ | ⟨q, -⟩ <;> omega) (fun c_130 => ?_) (fun c_130 => ?_)
      · skip
        exact J_187 (nI 0) (by first | exact (som_n (by rcases h65 with ⟨q, -⟩ | ⟨-, q⟩ <;> first | exact q | omega)).symm | exact (gL_v0 c_135 hs9).symm | exact (gL_vp c_135 hs9).symm) _ _ xP xD xS _ (lv_sub xL [0, 1, 2, 4] rfl)
      · skip
        have hs9 : (gL lc n ta tt i j s).isSome = true := (by rcases h65 with ⟨-, q⟩ | ⟨q, -⟩ <;> first | exact q | omega)
        refine lv_aload_n xE xB dX7_gets_133 rfl (lv_at xL 0 rfl) ?_
        refine lv_iload_n xE xB dX7_gets_134 rfl (lv_at xL 2 rfl) ?_
        refine q_if_ne (tgt := 170) xE xB dX7_gets_135 (by decide) (by omega) (fun c_135 => ?_) (fun c_135 => ?_)
        · skip
          refine lv_aload_n xE xB dX7_gets_170 rfl (lv_at xL 0 rfl) ?_
          refine va_get (D := G.1) (ci := 7) (v := .ref r.2.1) (C := RX7) (T := TX7) (N := 16) xE xB xT khX7_gets_X7 xO xK.1 xP 0 rfl rfl 0 (by decide) (xT _ kX7_gets_f7) (fun _ h9 => h9) rfl dX7_gets_171 ?_
          refine lv_iload_n xE xB dX7_gets_174 rfl (lv_at xL 1 rfl) ?_
          refine lv_iload_n xE xB dX7_gets_175 rfl (lv_at xL 2 rfl) ?_
          refine lv_iconst (v := nI 1) xE xB dX7_gets_176 (by decide) ?_
          refine q_isub xE xB dX7_gets_177 (by omega) ?_
          refine q_SR (As := [.int (nI i), .int (nI (j - 1))]) (rest := [.ref r.2.1, .ref r.1]) ⟨xE, xB, xM, xO, xT⟩ (kX7_cell l G i (j - 1)) (va_cwS 2 xT gX7_gets_X7_cell rfl rfl rfl (by decide +kernel) ⟨Nat.le_of_ble_eq_true rfl, Nat.le_of_ble_eq_true rfl⟩) xK xP [] rfl rfl xL.1 rfl (Nat.le_of_ble_eq_true rfl) dX7_gets_178 ⟨Nat.le_refl _, Nat.le_refl _⟩ (fun r_178 h_178 => ?_)
          obtain rfl : r_178 = nI (173 + 24 * i + 6 * (j - 1)) := h_178
          refine lv_iconst (v := nI 2) xE xB dX7_gets_181 (by decide) ?_
          refine q_iadd xE xB dX7_gets_182 ?_
          refine q_ald xE xB xK xP 1 rfl (by omega) (by decide) dX7_gets_183 ?_
          refine va_put (D := G.1) (ci := 7) (v := .int (s ((173 + 24 * i + 6 * (j - 1)) + 2))) (ty := .int) (C := RX7) (T := TX7) (N := 16) xE xB xT khX7_gets_X7 tyX7 tyX7_ok nmX7 xO xK.1 xP xD xS 0 rfl rfl 7 (by decide) (xT _ kX7_gets_f89) (fun _ h9 => h9) rfl (by decide +kernel) rfl rfl (Nat.le_of_ble_eq_true rfl) dX7_gets_184 (fun H locs xP xD xS => ?_)
          have xP : va_P G.1 vwCl (wU G r (s, P, U, p, X, y, lf, s ((173 + 24 * i + 6 * (j - 1)) + 2), af, nI 0, sp, re, B, wd, hg, ow)) H := xP
          have xD : va_D A (wU G r (s, P, U, p, X, y, lf, s ((173 + 24 * i + 6 * (j - 1)) + 2), af, nI 0, sp, re, B, wd, hg, ow)) := xD
          exact J_187 (s ((173 + 24 * i + 6 * (j - 1)) + 2)) (by first | exact (som_n (by rcases h65 with ⟨q, -⟩ | ⟨-, q⟩ <;> first | exact q | omega)).symm | exact (gL_v0 c_135 hs9).symm | exact (gL_vp c_135 hs9).symm) _ _ xP xD xS _ (lv_sub xL [0, 1, 2, 4] rfl)
        · skip
          have hc9 := gL_c0 c_135 hs9
          have e9 : nI tt - nI i = nI (tt - i) := pk_sub hc9.1
          rw [e9] at xL
          have xL : lv_has ls 5 [(0, .ref r.1), (1, .int (nI i)), (2, .int (nI j)), (3, .int (nI (tt - i))), (4, .int (nI tt - nI j))] := xL
          refine lv_aload_n xE xB dX7_gets_138 rfl (lv_at xL 0 rfl) ?_
          refine va_get (D := G.1) (ci := 7) (v := .ref r.2.1) (C := RX7) (T := TX7) (N := 16) xE xB xT khX7_gets_X7 xO xK.1 xP 0 rfl rfl 0 (by decide) (xT _ kX7_gets_f7) (fun _ h9 => h9) rfl dX7_gets_139 ?_
          refine lv_bipush (v := nI 9) xE xB dX7_gets_142 (by decide) ?_
          refine lv_bipush (v := nI 6) xE xB dX7_gets_144 (by decide) ?_
          refine lv_aload_n xE xB dX7_gets_146 rfl (lv_at xL 0 rfl) ?_
          refine va_get (D := G.1) (ci := 7) (v := .ref r.2.1) (C := RX7) (T := TX7) (N := 16) xE xB xT khX7_gets_X7 xO xK.1 xP 0 rfl rfl 0 (by decide) (xT _ kX7_gets_f7) (fun _ h9 => h9) rfl dX7_gets_147 ?_
          refine lv_iconst (v := nI 0) xE xB dX7_gets_150 (by decide) ?_
          refine q_ald xE xB xK xP 1 rfl (by omega) (by decide) dX7_gets_151 ?_
          refine q_eq (y := nI n) (congrArg (fun z => z) (g0)) ?_
          refine lv_aload_n xE xB dX7_gets_152 rfl (lv_at xL 0 rfl) ?_
          refine va_get (D := G.1) (ci := 7) (v := .ref r.2.1) (C := RX7) (T := TX7) (N := 16) xE xB xT khX7_gets_X7 xO xK.1 xP 0 rfl rfl 0 (by decide) (xT _ kX7_gets_f7) (fun _ h9 => h9) rfl dX7_gets_153 ?_
          refine lv_bipush (v := nI 6) xE xB dX7_gets_156 (by decide) ?_
          refine q_ald xE xB xK xP 1 rfl (by omega) (by decide) dX7_gets_158 ?_
          refine q_eq (y := nI ta) (congrArg (fun z => z) (g6)) ?_
          refine q_imul xE xB dX7_gets_159 ?_
          refine lv_iload_n xE xB dX7_gets_160 rfl (lv_at xL 1 rfl) ?_
          refine q_iadd xE xB dX7_gets_161 ?_
          refine q_imul xE xB dX7_gets_162 ?_
          refine q_iadd xE xB dX7_gets_163 ?_
          refine lv_iload_n xE xB dX7_gets_164 rfl (lv_at xL 3 rfl) ?_
          refine q_iadd xE xB dX7_gets_165 ?_
          refine q_ald xE xB xK xP 1 rfl (by omega) (by decide) dX7_gets_166 ?_
          refine lv_goto (tgt := 184) xE xB dX7_gets_167 (by decide) ?_
          refine va_put (D := G.1) (ci := 7) (v := .int (s ((9 + (6 * ((n * ta) + i))) + (tt - i)))) (ty := .int) (C := RX7) (T := TX7) (N := 16) xE xB xT khX7_gets_X7 tyX7 tyX7_ok nmX7 xO xK.1 xP xD xS 0 rfl rfl 7 (by decide) (xT _ kX7_gets_f89) (fun _ h9 => h9) rfl (by decide +kernel) rfl rfl (Nat.le_of_ble_eq_true rfl) dX7_gets_184 (fun H locs xP xD xS => ?_)
          have xP : va_P G.1 vwCl (wU G r (s, P, U, p, X, y, lf, s ((9 + (6 * ((n * ta) + i))) + (tt - i)), af, nI 0, sp, re, B, wd, hg, ow)) H := xP
          have xD : va_D A (wU G r (s, P, U, p, X, y, lf, s ((9 + (6 * ((n * ta) + i))) + (tt - i)), af, nI 0, sp, re, B, wd, hg, ow)) := xD
          exact J_187 (s ((9 + (6 * ((n * ta) + i))) + (tt - i))) (by first | exact (som_n (by rcases h65 with ⟨q, -⟩ | ⟨-, q⟩ <;> first | exact q | omega)).symm | exact (gL_v0 c_135 hs9).symm | exact (gL_vp c_135 hs9).symm) _ _ xP xD xS _ (lv_sub xL [0, 1, 2, 4] rfl)
    refine lv_aload_n xE xB dX7_gets_68 rfl (lv_at xL 0 rfl) ?_
    refine lv_iload_n xE xB dX7_gets_69 rfl (lv_at xL 1 rfl) ?_
    refine q_if_ne (tgt := 90) xE xB dX7_gets_70 (by decide) (by omega) (fun c_70 => ?_) (fun c_70 => ?_)
    · skip
      refine lv_aload_n xE xB dX7_gets_90 rfl (lv_at xL 0 rfl) ?_
      refine va_get (D := G.1) (ci := 7) (v := .ref r.2.1) (C := RX7) (T := TX7) (N := 16) xE xB xT khX7_gets_X7 xO xK.1 xP 0 rfl rfl 0 (by decide) (xT _ kX7_gets_f7) (fun _ h9 => h9) rfl dX7_gets_91 ?_
      refine lv_iload_n xE xB dX7_gets_94 rfl (lv_at xL 1 rfl) ?_
      refine lv_iconst (v := nI 1) xE xB dX7_gets_95 (by decide) ?_
      refine q_isub xE xB dX7_gets_96 (by omega) ?_
      refine lv_iload_n xE xB dX7_gets_97 rfl (lv_at xL 2 rfl) ?_
      refine q_SR (As := [.int (nI (i - 1)), .int (nI j)]) (rest := [.ref r.2.1, .ref r.1]) ⟨xE, xB, xM, xO, xT⟩ (kX7_cell l G (i - 1) j) (va_cwS 2 xT gX7_gets_X7_cell rfl rfl rfl (by decide +kernel) ⟨Nat.le_of_ble_eq_true rfl, Nat.le_of_ble_eq_true rfl⟩) xK xP [] rfl rfl xL.1 rfl (Nat.le_of_ble_eq_true rfl) dX7_gets_98 ⟨Nat.le_refl _, Nat.le_refl _⟩ (fun r_98 h_98 => ?_)
      obtain rfl : r_98 = nI (173 + 24 * (i - 1) + 6 * j) := h_98
      refine lv_iconst (v := nI 3) xE xB dX7_gets_101 (by decide) ?_
      refine q_iadd xE xB dX7_gets_102 ?_
      refine q_ald xE xB xK xP 1 rfl (by omega) (by decide) dX7_gets_103 ?_
      refine lv_iconst (v := nI 1) xE xB dX7_gets_104 (by decide) ?_
      refine lv_icmp_ne (tgt := 112) xE xB dX7_gets_105 (by decide) (fun c_105 => ?_) (fun c_105 => ?_)
      · skip
        refine lv_iconst (v := nI 0) xE xB dX7_gets_112 (by decide) ?_
        exact J_113 0 (by first | exact Or.inl ⟨rfl, (gA_in c_70 (by omega) (by omega) (by omega)).mp c_84⟩ | exact Or.inr ⟨rfl, fun q => c_84 ((gA_in c_70 (by omega) (by omega) (by omega)).mpr q)⟩ | exact Or.inl ⟨rfl, (gA_pp c_70).mp c_105⟩ | exact Or.inr ⟨rfl, fun q => c_105 ((gA_pp c_70).mpr q)⟩) _ _ xP xD xS _ (lv_sub xL [0, 1, 2, 3, 4] rfl)
      · skip
        refine lv_iconst (v := nI 1) xE xB dX7_gets_108 (by decide) ?_
        refine lv_goto (tgt := 113) xE xB dX7_gets_109 (by decide) ?_
        exact J_113 1 (by first | exact Or.inl ⟨rfl, (gA_in c_70 (by omega) (by omega) (by omega)).mp c_84⟩ | exact Or.inr ⟨rfl, fun q => c_84 ((gA_in c_70 (by omega) (by omega) (by omega)).mpr q)⟩ | exact Or.inl ⟨rfl, (gA_pp c_70).mp c_105⟩ | exact Or.inr ⟨rfl, fun q => c_105 ((gA_pp c_70).mpr q)⟩) _ _ xP xD xS _ (lv_sub xL [0, 1, 2, 3, 4] rfl)
    · skip
      refine lv_iload xE xB dX7_gets_73 (lv_at xL 4 rfl) ?_
      refine lv_iconst (v := nI 0) xE xB dX7_gets_75 (by decide) ?_
      refine lv_aload_n xE xB dX7_gets_76 rfl (lv_at xL 0 rfl) ?_
      refine va_get (D := G.1) (ci := 7) (v := .ref r.2.1) (C := RX7) (T := TX7) (N := 16) xE xB xT khX7_gets_X7 xO xK.1 xP 0 rfl rfl 0 (by decide) (xT _ kX7_gets_f7) (fun _ h9 => h9) rfl dX7_gets_77 ?_
      refine lv_iconst (v := nI 2) xE xB dX7_gets_80 (by decide) ?_
      refine q_ald xE xB xK xP 1 rfl (by omega) (by decide) dX7_gets_81 ?_
      refine q_eq (y := nI lc) (congrArg (fun z => z) (g2)) ?_
      refine lv_iconst (v := nI 1) xE xB dX7_gets_82 (by decide) ?_
      refine q_isub xE xB dX7_gets_83 (by omega) ?_
      refine q_SR (As := [.int (nI tt - nI j), .int (nI 0), .int (nI (lc - 1))]) (rest := [.ref r.1]) ⟨xE, xB, xM, xO, xT⟩ (kX7_in l G (nI tt - nI j) (nI 0) (nI (lc - 1))) (va_cwS 3 xT gX7_gets_X7_in rfl rfl rfl (by decide +kernel) ⟨Nat.le_of_ble_eq_true rfl, Nat.le_of_ble_eq_true rfl⟩) xK xP [] rfl rfl xL.1 rfl (Nat.le_of_ble_eq_true rfl) dX7_gets_84 ⟨Nat.le_refl _, Nat.le_refl _⟩ (fun r_84 h_84 => ?_)
      rcases h_84 with ⟨h_84, c_84⟩ | ⟨h_84, c_84⟩
      · skip
        subst h_84
        have c_84 : ((nI 0) : Int32).toInt ≤ (nI tt - nI j).toInt ∧ (nI tt - nI j).toInt ≤ ((nI (lc - 1)) : Int32).toInt := c_84
        refine lv_goto (tgt := 113) xE xB dX7_gets_87 (by decide) ?_
        exact J_113 1 (by first | exact Or.inl ⟨rfl, (gA_in c_70 (by omega) (by omega) (by omega)).mp c_84⟩ | exact Or.inr ⟨rfl, fun q => c_84 ((gA_in c_70 (by omega) (by omega) (by omega)).mpr q)⟩ | exact Or.inl ⟨rfl, (gA_pp c_70).mp c_105⟩ | exact Or.inr ⟨rfl, fun q => c_105 ((gA_pp c_70).mpr q)⟩) _ _ xP xD xS _ (lv_sub xL [0, 1, 2, 3, 4] rfl)
      · skip
        subst h_84
        have c_84 : ¬ (((nI 0) : Int32).toInt ≤ (nI tt - nI j).toInt ∧ (nI tt - nI j).toInt ≤ ((nI (lc - 1)) : Int32).toInt) := c_84
        refine lv_goto (tgt := 113) xE xB dX7_gets_87 (by decide) ?_
        exact J_113 0 (by first | exact Or.inl ⟨rfl, (gA_in c_70 (by omega) (by omega) (by omega)).mp c_84⟩ | exact Or.inr ⟨rfl, fun q => c_84 ((gA_in c_70 (by omega) (by omega) (by omega)).mpr q)⟩ | exact Or.inl ⟨rfl, (gA_pp c_70).mp c_105⟩ | exact Or.inr ⟨rfl, fun q => c_105 ((gA_pp c_70).mpr q)⟩) _ _ xP xD xS _ (lv_sub xL [0, 1, 2, 3, 4] rfl)
  refine lv_aload_n xE xB dX7_gets_21 rfl (lv_at xL 2 rfl) ?_
  refine lv_iload_n xE xB dX7_gets_22 rfl (lv_at xL 4 rfl) ?_
  refine q_if_ne (tgt := 42) xE xB dX7_gets_23 (by decide) (by omega) (fun c_23 => ?_) (fun c_23 => ?_)
  · skip
    refine lv_aload_n xE xB dX7_gets_42 rfl (lv_at xL 2 rfl) ?_
    refine va_get (D := G.1) (ci := 7) (v := .ref r.2.1) (C := RX7) (T := TX7) (N := 16) xE xB xT khX7_gets_X7 xO xK.1 xP 0 rfl rfl 0 (by decide) (xT _ kX7_gets_f7) (fun _ h9 => h9) rfl dX7_gets_43 ?_
    refine lv_iload_n xE xB dX7_gets_46 rfl (lv_at xL 3 rfl) ?_
    refine lv_iload_n xE xB dX7_gets_47 rfl (lv_at xL 4 rfl) ?_
    refine lv_iconst (v := nI 1) xE xB dX7_gets_48 (by decide) ?_
    refine q_isub xE xB dX7_gets_49 (by omega) ?_
    refine q_SR (As := [.int (nI i), .int (nI (j - 1))]) (rest := [.ref r.2.1, .ref r.1]) ⟨xE, xB, xM, xO, xT⟩ (kX7_cell l G i (j - 1)) (va_cwS 2 xT gX7_gets_X7_cell rfl rfl rfl (by decide +kernel) ⟨Nat.le_of_ble_eq_true rfl, Nat.le_of_ble_eq_true rfl⟩) xK xP [] rfl rfl xL.1 rfl (Nat.le_of_ble_eq_true rfl) dX7_gets_50 ⟨Nat.le_refl _, Nat.le_refl _⟩ (fun r_50 h_50 => ?_)
    obtain rfl : r_50 = nI (173 + 24 * i + 6 * (j - 1)) := h_50
    refine lv_iconst (v := nI 1) xE xB dX7_gets_53 (by decide) ?_
    refine q_iadd xE xB dX7_gets_54 ?_
    refine q_ald xE xB xK xP 1 rfl (by omega) (by decide) dX7_gets_55 ?_
    refine lv_iconst (v := nI 1) xE xB dX7_gets_56 (by decide) ?_
    refine lv_icmp_ne (tgt := 64) xE xB dX7_gets_57 (by decide) (fun c_57 => ?_) (fun c_57 => ?_)
    · skip
      refine lv_iconst (v := nI 0) xE xB dX7_gets_64 (by decide) ?_
      exact J_65 0 (by first | exact Or.inl ⟨rfl, (gL_in c_23 (by omega) (by omega) (by omega)).mp c_36⟩ | exact Or.inr ⟨rfl, fun q => c_36 ((gL_in c_23 (by omega) (by omega) (by omega)).mpr q)⟩ | exact Or.inl ⟨rfl, (gL_pp c_23).mp c_57⟩ | exact Or.inr ⟨rfl, fun q => c_57 ((gL_pp c_23).mpr q)⟩) _ _ xP xD xS _ (lv_sub xL [2, 3, 4, 1, 0] rfl)
    · skip
      refine lv_iconst (v := nI 1) xE xB dX7_gets_60 (by decide) ?_
      refine lv_goto (tgt := 65) xE xB dX7_gets_61 (by decide) ?_
      exact J_65 1 (by first | exact Or.inl ⟨rfl, (gL_in c_23 (by omega) (by omega) (by omega)).mp c_36⟩ | exact Or.inr ⟨rfl, fun q => c_36 ((gL_in c_23 (by omega) (by omega) (by omega)).mpr q)⟩ | exact Or.inl ⟨rfl, (gL_pp c_23).mp c_57⟩ | exact Or.inr ⟨rfl, fun q => c_57 ((gL_pp c_23).mpr q)⟩) _ _ xP xD xS _ (lv_sub xL [2, 3, 4, 1, 0] rfl)
  · skip
    refine lv_iload_n xE xB dX7_gets_26 rfl (lv_at xL 1 rfl) ?_
    refine lv_iconst (v := nI 0) xE xB dX7_gets_27 (by decide) ?_
    refine lv_aload_n xE xB dX7_gets_28 rfl (lv_at xL 2 rfl) ?_
    refine va_get (D := G.1) (ci := 7) (v := .ref r.2.1) (C := RX7) (T := TX7) (N := 16) xE xB xT khX7_gets_X7 xO xK.1 xP 0 rfl rfl 0 (by decide) (xT _ kX7_gets_f7) (fun _ h9 => h9) rfl dX7_gets_29 ?_
    refine lv_iconst (v := nI 2) xE xB dX7_gets_32 (by decide) ?_
    refine q_ald xE xB xK xP 1 rfl (by omega) (by decide) dX7_gets_33 ?_
    refine q_eq (y := nI lc) (congrArg (fun z => z) (g2)) ?_
    refine lv_iconst (v := nI 1) xE xB dX7_gets_34 (by decide) ?_
    refine q_isub xE xB dX7_gets_35 (by omega) ?_
    refine q_SR (As := [.int ((nI tt) - (nI i)), .int (nI 0), .int (nI (lc - 1))]) (rest := [.ref r.1]) ⟨xE, xB, xM, xO, xT⟩ (kX7_in l G ((nI tt) - (nI i)) (nI 0) (nI (lc - 1))) (va_cwS 3 xT gX7_gets_X7_in rfl rfl rfl (by decide +kernel) ⟨Nat.le_of_ble_eq_true rfl, Nat.le_of_ble_eq_true rfl⟩) xK xP [] rfl rfl xL.1 rfl (Nat.le_of_ble_eq_true rfl) dX7_gets_36 ⟨Nat.le_refl _, Nat.le_refl _⟩ (fun r_36 h_36 => ?_)
    rcases h_36 with ⟨h_36, c_36⟩ | ⟨h_36, c_36⟩
    · skip
      subst h_36
      have c_36 : ((nI 0) : Int32).toInt ≤ ((nI tt) - (nI i)).toInt ∧ ((nI tt) - (nI i)).toInt ≤ ((nI (lc - 1)) : Int32).toInt := c_36
      refine lv_goto (tgt := 65) xE xB dX7_gets_39 (by decide) ?_
      exact J_65 1 (by first | exact Or.inl ⟨rfl, (gL_in c_23 (by omega) (by omega) (by omega)).mp c_36⟩ | exact Or.inr ⟨rfl, fun q => c_36 ((gL_in c_23 (by omega) (by omega) (by omega)).mpr q)⟩ | exact Or.inl ⟨rfl, (gL_pp c_23).mp c_57⟩ | exact Or.inr ⟨rfl, fun q => c_57 ((gL_pp c_23).mpr q)⟩) _ _ xP xD xS _ (lv_sub xL [2, 3, 4, 1, 0] rfl)
    · skip
      subst h_36
      have c_36 : ¬ (((nI 0) : Int32).toInt ≤ ((nI tt) - (nI i)).toInt ∧ ((nI tt) - (nI i)).toInt ≤ ((nI (lc - 1)) : Int32).toInt) := c_36
      refine lv_goto (tgt := 65) xE xB dX7_gets_39 (by decide) ?_
      exact J_65 0 (by first | exact Or.inl ⟨rfl, (gL_in c_23 (by omega) (by omega) (by omega)).mp c_36⟩ | exact Or.inr ⟨rfl, fun q => c_36 ((gL_in c_23 (by omega) (by omega) (by omega)).mpr q)⟩ | exact Or.inl ⟨rfl, (gL_pp c_23).mp c_57⟩ | exact Or.inr ⟨rfl, fun q => c_57 ((gL_pp c_23).mpr q)⟩) _ _ xP xD xS _ (lv_sub xL [2, 3, 4, 1, 0] rfl)
theorem kX7_goes_f7 : Cond.fieldLink RX7 7 "SkewedSquareModel" "s" "[I" ∈ wsX7_goes := by decide +kernel
theorem kX7_goes_f82 : Cond.fieldLink RX7 82 "SkewedSquareModel" "hasLeft" "Z" ∈ wsX7_goes := by decide +kernel
theorem kX7_goes_f86 : Cond.fieldLink RX7 86 "SkewedSquareModel" "hasAbove" "Z" ∈ wsX7_goes := by decide +kernel
theorem kX7_goes_f89 : Cond.fieldLink RX7 89 "SkewedSquareModel" "fromLeft" "I" ∈ wsX7_goes := by decide +kernel
theorem kX7_goes_f92 : Cond.fieldLink RX7 92 "SkewedSquareModel" "fromAbove" "I" ∈ wsX7_goes := by decide +kernel
theorem khX7_goes_X7 : ∀ w ∈ u_ws RX7 TX7 16, w ∈ wsX7_goes := by decide +kernel
set_option maxHeartbeats 4000000 in
set_option maxRecDepth 100000 in
/-- kX7_goes -/
theorem kX7_goes (l : Launch) (G : wG) (r : RA) (s P U : wF) (p : Nat) (X : wF) (y q0 : Nat) (q1 : Int32) (q2 : Nat) (q3 : Int32) (sp re : Nat) (B : wF) (wd hg ow : Nat) (n o lr lc rc : Nat) (ta tb : Nat) (tt : Nat) (hD : RelD n o lr lc rc s) (hE : RelE n lr rc ta tb s) (g8 : s 8 = nI tt) (h8 : tt ≤ 100) : CV (S := Nat × Int32 × Nat × Int32) l yX7_goes wsX7_goes (rm 2 46) G [.ref r.1] (wU G r (s, P, U, p, X, y, q0, q1, q2, q3, sp, re, B, wd, hg, ow)) (fun u9 => True) (fun u9 => wU G r (goF lc n o lr rc ta tb tt s, P, U, p, X, y, u9.1, u9.2.1, u9.2.2.1, u9.2.2.2, sp, re, B, wd, hg, ow)) := by
  refine CV.of (own := RX7) rfl (by decide) rfl (Nat.le_of_ble_eq_true rfl) ?_
  intro p9 e9 s9 m9 b9 t9 c9 A xE xB xM xO xT xK xP xD Q xQ xS ls hl
  have xL : lv_has ls 5 [(0, .ref r.1)] := hl
  obtain ⟨g0, g1, g2, g3, g4, ⟨hn1, hn2, hn3⟩, hm1, hm2, hm3, hm4, hm5, hm6⟩ := id hD
  obtain ⟨g6, g7, ht1, ht2⟩ := id hE
  refine lv_aload_n xE xB dX7_goes_0 rfl (lv_at xL 0 rfl) ?_
  refine q_VR (As := []) (rest := []) ⟨xE, xB, xM, xO, xT⟩ (kX7_tileRows l G r s P U p X y q0 q1 q2 q3 sp re B wd hg ow n o lr lc rc ta tb (by exact hD) (by exact hE)) (cwV 0 xT gX7_goes_X7_tileRows rfl rfl rfl (by decide +kernel) ⟨Nat.le_of_ble_eq_true rfl, Nat.le_of_ble_eq_true rfl⟩) xK xP [0, 1, 2, 3, 4, 5] rfl 0 rfl rfl rfl rfl xL.1 rfl (Nat.le_of_ble_eq_true rfl) dX7_goes_1 ⟨Nat.le_refl _, Nat.le_refl _⟩ (fun r_1 h_1 => ?_)
  obtain rfl : r_1 = nI (min n (lr - n * ta)) := h_1
  refine lv_iconst (v := nI 1) xE xB dX7_goes_4 (by decide) ?_
  refine q_isub xE xB dX7_goes_5 (by omega) ?_
  refine q_eq (y := pI (min n (lr - n * ta))) (q_pI (by omega)) ?_
  refine lv_istore_n (lv' := [(1, .int (pI (min n (lr - n * ta)))), (0, .ref r.1)]) xE xB dX7_goes_6 rfl xL (by decide) rfl (fun ls xL => ?_)
  have L_7 : ∀ (k : Nat) (z : wF) (a0 : Nat) (a1 : Int32) (a2 : Nat) (a3 : Int32), (k ≤ (min n (lr - n * ta))) → (dnF (fun i => dnF (cellF lc n o ta tb tt i) (min n (rc - n * tb))) k z = dnF (fun i => dnF (cellF lc n o ta tb tt i) (min n (rc - n * tb))) (min n (lr - n * ta)) s) → (∀ p, p < 173 → z p = s p) → ∀ (H : Heap) (locs : List Loc), va_P G.1 vwCl (wU G r (z, P, U, p, X, y, a0, a1, a2, a3, sp, re, B, wd, hg, ow)) H → va_D A (wU G r (z, P, U, p, X, y, a0, a1, a2, a3, sp, re, B, wd, hg, ow)) → va_S A s9.heap H locs → ∀ (ls : Array Slot), lv_has ls 5 [(0, .ref r.1), (1, .int (pI k))] → W p9 l e9 (rm 2 46) s9 m9 ([.ref r.1] : List Value).toArray b9 t9 c9 H locs 0 0 Q (F0 m9 7 ls []) := by
    intro k
    induction k with
    | zero =>
      intro z a0 a1 a2 a3 hk hz hlo H locs xP xD xS ls xL
      have xL : lv_has ls 5 [(0, .ref r.1), (1, .int (-1))] := xL
      refine lv_iload_n xE xB dX7_goes_7 rfl (lv_at xL 1 rfl) ?_
      refine lv_if_lt (tgt := 206) xE xB dX7_goes_8 (by decide) (fun _ => ?_) (fun h9 => absurd (by decide) h9)
      refine lv_aload_n xE xB dX7_goes_206 rfl (lv_at xL 0 rfl) ?_
      refine va_get (D := G.1) (ci := 7) (v := .ref r.2.1) (C := RX7) (T := TX7) (N := 16) xE xB xT khX7_goes_X7 xO xK.1 xP 0 rfl rfl 0 (by decide) (xT _ kX7_goes_f7) (fun _ h9 => h9) rfl dX7_goes_207 ?_
      refine lv_bipush (v := nI 8) xE xB dX7_goes_210 (by decide) ?_
      refine lv_dup2_11 xE xB dX7_goes_212 rfl rfl ?_
      refine q_ald xE xB xK xP 1 rfl (by omega) (by decide) dX7_goes_213 ?_
      refine q_eq (y := nI tt) (congrArg (fun z => z) ((hlo 8 (by decide)).trans g8)) ?_
      refine lv_iconst (v := nI 1) xE xB dX7_goes_214 (by decide) ?_
      refine q_iadd xE xB dX7_goes_215 ?_
      refine q_ast xE xB xK xP xD xS 1 rfl (by omega) (by decide) dX7_goes_216 (fun H locs xP xD xS => ?_)
      have xP : va_P G.1 vwCl (wU G r (upd z 8 (nI (tt + 1)), P, U, p, X, y, a0, a1, a2, a3, sp, re, B, wd, hg, ow)) H := xP
      have xD : va_D A (wU G r (upd z 8 (nI (tt + 1)), P, U, p, X, y, a0, a1, a2, a3, sp, re, B, wd, hg, ow)) := xD
      have hz0 : z = dnF (fun i => dnF (cellF lc n o ta tb tt i) (min n (rc - n * tb))) (min n (lr - n * ta)) s := hz
      subst hz0
      have xP : va_P G.1 vwCl (wU G r (goF lc n o lr rc ta tb tt s, P, U, p, X, y, a0, a1, a2, a3, sp, re, B, wd, hg, ow)) H := xP
      have xD : va_D A (wU G r (goF lc n o lr rc ta tb tt s, P, U, p, X, y, a0, a1, a2, a3, sp, re, B, wd, hg, ow)) := xD
      exact xQ _ _ _ _ (a0, a1, a2, a3) trivial xP xD xS dX7_goes_217
    | succ k ih_7 =>
      intro z a0 a1 a2 a3 hk hz hlo H locs xP xD xS ls xL
      have xL : lv_has ls 5 [(0, .ref r.1), (1, .int (nI k))] := xL
      refine lv_iload_n xE xB dX7_goes_7 rfl (lv_at xL 1 rfl) ?_
      refine q_if_lt (tgt := 206) xE xB dX7_goes_8 (by decide) (by omega) ?_
      refine lv_aload_n xE xB dX7_goes_11 rfl (lv_at xL 0 rfl) ?_
      refine q_VR (As := []) (rest := []) ⟨xE, xB, xM, xO, xT⟩ (kX7_tileColumns l G r z P U p X y a0 a1 a2 a3 sp re B wd hg ow n o lr lc rc ta tb (by exact hD.e (fun p hp => hlo p (by omega))) (by exact hE.e (fun p hp => hlo p (by omega)))) (cwV 0 xT gX7_goes_X7_tileColumns rfl rfl rfl (by decide +kernel) ⟨Nat.le_of_ble_eq_true rfl, Nat.le_of_ble_eq_true rfl⟩) xK xP [0, 1, 2, 3, 4, 5] rfl 0 rfl rfl rfl rfl xL.1 rfl (Nat.le_of_ble_eq_true rfl) dX7_goes_12 ⟨Nat.le_refl _, Nat.le_refl _⟩ (fun r_12 h_12 => ?_)
      obtain rfl : r_12 = nI (min n (rc - n * tb)) := h_12
      refine lv_iconst (v := nI 1) xE xB dX7_goes_15 (by decide) ?_
      refine q_isub xE xB dX7_goes_16 (by omega) ?_
      refine q_eq (y := pI (min n (rc - n * tb))) (q_pI (by omega)) ?_
      refine lv_istore_n (lv' := [(2, .int (pI (min n (rc - n * tb)))), (0, .ref r.1), (1, .int (nI k))]) xE xB dX7_goes_17 rfl xL (by decide) rfl (fun ls xL => ?_)
      have L_18 : ∀ (q : Nat) (yy : wF) (e0 : Nat) (e1 : Int32) (e2 : Nat) (e3 : Int32), (q ≤ (min n (rc - n * tb))) → (dnF (cellF lc n o ta tb tt k) q yy = dnF (cellF lc n o ta tb tt k) (min n (rc - n * tb)) z) → (∀ p, p < 173 → yy p = s p) → ∀ (H : Heap) (locs : List Loc), va_P G.1 vwCl (wU G r (yy, P, U, p, X, y, e0, e1, e2, e3, sp, re, B, wd, hg, ow)) H → va_D A (wU G r (yy, P, U, p, X, y, e0, e1, e2, e3, sp, re, B, wd, hg, ow)) → va_S A s9.heap H locs → ∀ (ls : Array Slot), lv_has ls 5 [(0, .ref r.1), (1, .int (nI k)), (2, .int (pI q))] → W p9 l e9 (rm 2 46) s9 m9 ([.ref r.1] : List Value).toArray b9 t9 c9 H locs 0 0 Q (F0 m9 18 ls []) := by
        intro q
        induction q with
        | zero =>
          intro yy e0 e1 e2 e3 hq hy hlo2 H locs xP xD xS ls xL
          have xL : lv_has ls 5 [(0, .ref r.1), (1, .int (nI k)), (2, .int (-1))] := xL
          refine lv_iload_n xE xB dX7_goes_18 rfl (lv_at xL 2 rfl) ?_
          refine lv_if_lt (tgt := 200) xE xB dX7_goes_19 (by decide) (fun _ => ?_) (fun h9 => absurd (by decide) h9)
          refine lv_iinc (v := pI k) (lv' := [(1, .int (pI k)), (0, .ref r.1), (2, .int (-1))]) xE xB dX7_goes_200 xL (k := 1) rfl (q_decP _) (by decide) rfl (fun ls xL => ?_)
          refine lv_goto (tgt := 7) xE xB dX7_goes_203 (by decide) ?_
          exact ih_7 yy e0 e1 e2 e3 (by omega) (by exact (congrArg (dnF (fun i => dnF (cellF lc n o ta tb tt i) (min n (rc - n * tb))) k) (show yy = dnF (cellF lc n o ta tb tt k) (min n (rc - n * tb)) z from hy)).trans hz) (by exact hlo2) _ _ xP xD xS _ (lv_sub xL [1, 0] rfl)
        | succ q ih_18 =>
          intro yy e0 e1 e2 e3 hq hy hlo2 H locs xP xD xS ls xL
          have xL : lv_has ls 5 [(0, .ref r.1), (1, .int (nI k)), (2, .int (nI q))] := xL
          have hk4 : k < 4 := by omega
          have hj4 : q < 4 := by omega
          have hmr : n * ta + k < lr := by omega
          have hmc : n * tb + q < rc := by omega
          have hDy : RelD n o lr lc rc yy := hD.e (fun p hp => hlo2 p (by omega))
          have hEy : RelE n lr rc ta tb yy := hE.e (fun p hp => hlo2 p (by omega))
          have h8y : yy 8 = nI tt := (hlo2 8 (by decide)).trans g8
          refine lv_iload_n xE xB dX7_goes_18 rfl (lv_at xL 2 rfl) ?_
          refine q_if_lt (tgt := 200) xE xB dX7_goes_19 (by decide) (by omega) ?_
          refine lv_aload_n xE xB dX7_goes_22 rfl (lv_at xL 0 rfl) ?_
          refine lv_iload_n xE xB dX7_goes_23 rfl (lv_at xL 1 rfl) ?_
          refine lv_iload_n xE xB dX7_goes_24 rfl (lv_at xL 2 rfl) ?_
          refine q_VV (As := [.int (nI k), .int (nI q)]) (rest := []) ⟨xE, xB, xM, xO, xT⟩ (kX7_gets l G r yy P U p X y e0 e1 e2 e3 sp re B wd hg ow n o lr lc rc ta tb tt k q (by exact hDy) (by exact hEy) (by exact h8y) (by omega) (by omega) (by omega) (by omega) (by omega)) (cwV 2 xT gX7_goes_X7_gets rfl rfl rfl (by decide +kernel) ⟨Nat.le_of_ble_eq_true rfl, Nat.le_of_ble_eq_true rfl⟩) xK xP xD xS [0, 1, 2, 3, 4, 5] rfl (by decide +kernel) (fun _ => rfl) 0 rfl rfl rfl rfl xL.1 rfl (Nat.le_of_ble_eq_true rfl) dX7_goes_25 ⟨Nat.le_refl _, Nat.le_refl _⟩ (fun u_25 H locs h_25 xP xD xS => ?_)
          have xP : va_P G.1 vwCl (wU G r (yy, P, U, p, X, y, u_25.1, u_25.2.1, u_25.2.2.1, u_25.2.2.2, sp, re, B, wd, hg, ow)) H := xP
          have xD : va_D A (wU G r (yy, P, U, p, X, y, u_25.1, u_25.2.1, u_25.2.2.1, u_25.2.2.2, sp, re, B, wd, hg, ow)) := xD
          have h_25 : ((u_25.1 = 1 ∧ (gL lc n ta tt k q yy).isSome = true) ∨ (u_25.1 = 0 ∧ ¬ (gL lc n ta tt k q yy).isSome = true)) ∧ ((u_25.2.2.1 = 1 ∧ (gA lc n tb tt k q yy).isSome = true) ∨ (u_25.2.2.1 = 0 ∧ ¬ (gA lc n tb tt k q yy).isSome = true)) ∧ u_25.2.1 = (gL lc n ta tt k q yy).getD (nI 0) ∧ u_25.2.2.2 = (gA lc n tb tt k q yy).getD (nI 0) := h_25
          obtain ⟨hl5, ha5, hx5, hy5⟩ := h_25
          have hl7 : u_25.1 = 0 → ¬ (gL lc n ta tt k q yy).isSome = true := (by rcases hl5 with ⟨q9, z9⟩ | ⟨q9, z9⟩ <;> intro h9 <;> first | exact z9 | omega)
          have hl8 : 0 < u_25.1 → (gL lc n ta tt k q yy).isSome = true := (by rcases hl5 with ⟨q9, z9⟩ | ⟨q9, z9⟩ <;> intro h9 <;> first | exact z9 | omega)
          have ha7 : u_25.2.2.1 = 0 → ¬ (gA lc n tb tt k q yy).isSome = true := (by rcases ha5 with ⟨q9, z9⟩ | ⟨q9, z9⟩ <;> intro h9 <;> first | exact z9 | omega)
          have ha8 : 0 < u_25.2.2.1 → (gA lc n tb tt k q yy).isSome = true := (by rcases ha5 with ⟨q9, z9⟩ | ⟨q9, z9⟩ <;> intro h9 <;> first | exact z9 | omega)
          have hl9 : u_25.1 ≤ 1 := (by rcases hl5 with ⟨q9, -⟩ | ⟨q9, -⟩ <;> omega)
          have ha9 : u_25.2.2.1 ≤ 1 := (by rcases ha5 with ⟨q9, -⟩ | ⟨q9, -⟩ <;> omega)
          refine lv_iload_n xE xB dX7_goes_28 rfl (lv_at xL 1 rfl) ?_
          refine lv_iload_n xE xB dX7_goes_29 rfl (lv_at xL 2 rfl) ?_
          refine q_SR (As := [.int (nI k), .int (nI q)]) (rest := []) ⟨xE, xB, xM, xO, xT⟩ (kX7_cell l G k q) (va_cwS 2 xT gX7_goes_X7_cell rfl rfl rfl (by decide +kernel) ⟨Nat.le_of_ble_eq_true rfl, Nat.le_of_ble_eq_true rfl⟩) xK xP [] rfl rfl xL.1 rfl (Nat.le_of_ble_eq_true rfl) dX7_goes_30 ⟨Nat.le_refl _, Nat.le_refl _⟩ (fun r_30 h_30 => ?_)
          obtain rfl : r_30 = nI (173 + 24 * k + 6 * q) := h_30
          refine lv_istore_n (lv' := [(3, .int (nI (173 + 24 * k + 6 * q))), (0, .ref r.1), (1, .int (nI k)), (2, .int (nI q))]) xE xB dX7_goes_33 rfl xL (by decide) rfl (fun ls xL => ?_)
          refine lv_aload_n xE xB dX7_goes_34 rfl (lv_at xL 1 rfl) ?_
          refine lv_iload_n xE xB dX7_goes_35 rfl (lv_at xL 2 rfl) ?_
          refine lv_iload_n xE xB dX7_goes_36 rfl (lv_at xL 3 rfl) ?_
          refine q_VR (As := [.int (nI k), .int (nI q)]) (rest := []) ⟨xE, xB, xM, xO, xT⟩ (kX7_faultOf l G r yy P U p X y u_25.1 u_25.2.1 u_25.2.2.1 u_25.2.2.2 sp re B wd hg ow n o lr lc rc k q (by exact hDy) (by omega) (by omega)) (cwV 2 xT gX7_goes_X7_faultOf rfl rfl rfl (by decide +kernel) ⟨Nat.le_of_ble_eq_true rfl, Nat.le_of_ble_eq_true rfl⟩) xK xP [0, 1, 2, 3, 4, 5] rfl 0 rfl rfl rfl rfl xL.1 rfl (Nat.le_of_ble_eq_true rfl) dX7_goes_37 ⟨Nat.le_refl _, Nat.le_refl _⟩ (fun r_37 h_37 => ?_)
          obtain rfl : r_37 = kdF o k q yy := h_37
          refine lv_istore (lv' := [(4, .int (kdF o k q yy)), (3, .int (nI (173 + 24 * k + 6 * q))), (0, .ref r.1), (1, .int (nI k)), (2, .int (nI q))]) xE xB dX7_goes_40 xL (by decide) rfl (fun ls xL => ?_)
          have J_110 : ∀ (v : wF), (v = if (gL lc n ta tt k q yy).isSome = true ∧ (gA lc n tb tt k q yy).isSome = true then upd (upd yy (173 + 24 * k + 6 * q) (yy (173 + 24 * k + 6 * q) + (gL lc n ta tt k q yy).getD (nI 0) * (gA lc n tb tt k q yy).getD (nI 0) * tmA (kdF o k q yy))) (173 + 24 * k + 6 * q + 5) (yy (173 + 24 * k + 6 * q + 5) + nI 1) else yy) → ∀ (H : Heap) (locs : List Loc), va_P G.1 vwCl (wU G r (v, P, U, p, X, y, u_25.1, u_25.2.1, u_25.2.2.1, u_25.2.2.2, sp, re, B, wd, hg, ow)) H → va_D A (wU G r (v, P, U, p, X, y, u_25.1, u_25.2.1, u_25.2.2.1, u_25.2.2.2, sp, re, B, wd, hg, ow)) → va_S A s9.heap H locs → ∀ (ls : Array Slot), lv_has ls 5 [(0, .ref r.1), (1, .int (nI k)), (2, .int (nI q)), (3, .int (nI (173 + 24 * k + 6 * q))), (4, .int (kdF o k q yy))] → W p9 l e9 (rm 2 46) s9 m9 ([.ref r.1] : List Value).toArray b9 t9 c9 H locs 0 0 Q (F0 m9 110 ls []) := by
            intro v hv H locs xP xD xS ls xL
            have J_129 : ∀ (f1 : Int32), (f1 = if (gL lc n ta tt k q yy).isSome = true then nI 1 else nI 0) → ∀ (H : Heap) (locs : List Loc), va_P G.1 vwCl (wU G r (v, P, U, p, X, y, u_25.1, u_25.2.1, u_25.2.2.1, u_25.2.2.2, sp, re, B, wd, hg, ow)) H → va_D A (wU G r (v, P, U, p, X, y, u_25.1, u_25.2.1, u_25.2.2.1, u_25.2.2.2, sp, re, B, wd, hg, ow)) → va_S A s9.heap H locs → ∀ (ls : Array Slot), lv_has ls 5 [(0, .ref r.1), (1, .int (nI k)), (2, .int (nI q)), (3, .int (nI (173 + 24 * k + 6 * q))), (4, .int (kdF o k q yy))] → W p9 l e9 (rm 2 46) s9 m9 ([.ref r.1] : List Value).toArray b9 t9 c9 H locs 0 0 Q (F0 m9 129 ls [.int f1, .int (nI (173 + 24 * k + 6 * q + 1)), .ref r.2.1]) := by
              intro f1 hf1 H locs xP xD xS ls xL
              refine q_ast xE xB xK xP xD xS 1 rfl (by omega) (by decide) dX7_goes_129 (fun H locs xP xD xS => ?_)
              have xP : va_P G.1 vwCl (wU G r (upd v (173 + 24 * k + 6 * q + 1) f1, P, U, p, X, y, u_25.1, u_25.2.1, u_25.2.2.1, u_25.2.2.2, sp, re, B, wd, hg, ow)) H := xP
              have xD : va_D A (wU G r (upd v (173 + 24 * k + 6 * q + 1) f1, P, U, p, X, y, u_25.1, u_25.2.1, u_25.2.2.1, u_25.2.2.2, sp, re, B, wd, hg, ow)) := xD
              have J_151 : ∀ (f2 : Int32), (f2 = if kdF o k q yy = nI 3 then nI 0 else (gL lc n ta tt k q yy).getD (nI 0)) → ∀ (H : Heap) (locs : List Loc), va_P G.1 vwCl (wU G r (upd v (173 + 24 * k + 6 * q + 1) f1, P, U, p, X, y, u_25.1, u_25.2.1, u_25.2.2.1, u_25.2.2.2, sp, re, B, wd, hg, ow)) H → va_D A (wU G r (upd v (173 + 24 * k + 6 * q + 1) f1, P, U, p, X, y, u_25.1, u_25.2.1, u_25.2.2.1, u_25.2.2.2, sp, re, B, wd, hg, ow)) → va_S A s9.heap H locs → ∀ (ls : Array Slot), lv_has ls 5 [(0, .ref r.1), (1, .int (nI k)), (2, .int (nI q)), (3, .int (nI (173 + 24 * k + 6 * q))), (4, .int (kdF o k q yy))] → W p9 l e9 (rm 2 46) s9 m9 ([.ref r.1] : List Value).toArray b9 t9 c9 H locs 0 0 Q (F0 m9 151 ls [.int f2, .int (nI (173 + 24 * k + 6 * q + 2)), .ref r.2.1]) := by
                intro f2 hf2 H locs xP xD xS ls xL
                refine q_ast xE xB xK xP xD xS 1 rfl (by omega) (by decide) dX7_goes_151 (fun H locs xP xD xS => ?_)
                have xP : va_P G.1 vwCl (wU G r (upd (upd v (173 + 24 * k + 6 * q + 1) f1) (173 + 24 * k + 6 * q + 2) f2, P, U, p, X, y, u_25.1, u_25.2.1, u_25.2.2.1, u_25.2.2.2, sp, re, B, wd, hg, ow)) H := xP
                have xD : va_D A (wU G r (upd (upd v (173 + 24 * k + 6 * q + 1) f1) (173 + 24 * k + 6 * q + 2) f2, P, U, p, X, y, u_25.1, u_25.2.1, u_25.2.2.1, u_25.2.2.2, sp, re, B, wd, hg, ow)) := xD
                have J_171 : ∀ (f3 : Int32), (f3 = if (gA lc n tb tt k q yy).isSome = true then nI 1 else nI 0) → ∀ (H : Heap) (locs : List Loc), va_P G.1 vwCl (wU G r (upd (upd v (173 + 24 * k + 6 * q + 1) f1) (173 + 24 * k + 6 * q + 2) f2, P, U, p, X, y, u_25.1, u_25.2.1, u_25.2.2.1, u_25.2.2.2, sp, re, B, wd, hg, ow)) H → va_D A (wU G r (upd (upd v (173 + 24 * k + 6 * q + 1) f1) (173 + 24 * k + 6 * q + 2) f2, P, U, p, X, y, u_25.1, u_25.2.1, u_25.2.2.1, u_25.2.2.2, sp, re, B, wd, hg, ow)) → va_S A s9.heap H locs → ∀ (ls : Array Slot), lv_has ls 5 [(0, .ref r.1), (1, .int (nI k)), (2, .int (nI q)), (3, .int (nI (173 + 24 * k + 6 * q))), (4, .int (kdF o k q yy))] → W p9 l e9 (rm 2 46) s9 m9 ([.ref r.1] : List Value).toArray b9 t9 c9 H locs 0 0 Q (F0 m9 171 ls [.int f3, .int (nI (173 + 24 * k + 6 * q + 3)), .ref r.2.1]) := by
                  intro f3 hf3 H locs xP xD xS ls xL
                  refine q_ast xE xB xK xP xD xS 1 rfl (by omega) (by decide) dX7_goes_171 (fun H locs xP xD xS => ?_)
                  have xP : va_P G.1 vwCl (wU G r (upd (upd (upd v (173 + 24 * k + 6 * q + 1) f1) (173 + 24 * k + 6 * q + 2) f2) (173 + 24 * k + 6 * q + 3) f3, P, U, p, X, y, u_25.1, u_25.2.1, u_25.2.2.1, u_25.2.2.2, sp, re, B, wd, hg, ow)) H := xP
                  have xD : va_D A (wU G r (upd (upd (upd v (173 + 24 * k + 6 * q + 1) f1) (173 + 24 * k + 6 * q + 2) f2) (173 + 24 * k + 6 * q + 3) f3, P, U, p, X, y, u_25.1, u_25.2.1, u_25.2.2.1, u_25.2.2.2, sp, re, B, wd, hg, ow)) := xD
                  have J_193 : ∀ (f4 : Int32), (f4 = if kdF o k q yy = nI 4 then nI 0 else (gA lc n tb tt k q yy).getD (nI 0)) → ∀ (H : Heap) (locs : List Loc), va_P G.1 vwCl (wU G r (upd (upd (upd v (173 + 24 * k + 6 * q + 1) f1) (173 + 24 * k + 6 * q + 2) f2) (173 + 24 * k + 6 * q + 3) f3, P, U, p, X, y, u_25.1, u_25.2.1, u_25.2.2.1, u_25.2.2.2, sp, re, B, wd, hg, ow)) H → va_D A (wU G r (upd (upd (upd v (173 + 24 * k + 6 * q + 1) f1) (173 + 24 * k + 6 * q + 2) f2) (173 + 24 * k + 6 * q + 3) f3, P, U, p, X, y, u_25.1, u_25.2.1, u_25.2.2.1, u_25.2.2.2, sp, re, B, wd, hg, ow)) → va_S A s9.heap H locs → ∀ (ls : Array Slot), lv_has ls 5 [(0, .ref r.1), (1, .int (nI k)), (2, .int (nI q)), (3, .int (nI (173 + 24 * k + 6 * q))), (4, .int (kdF o k q yy))] → W p9 l e9 (rm 2 46) s9 m9 ([.ref r.1] : List Value).toArray b9 t9 c9 H locs 0 0 Q (F0 m9 193 ls [.int f4, .int (nI (173 + 24 * k + 6 * q + 4)), .ref r.2.1]) := by
                    intro f4 hf4 H locs xP xD xS ls xL
                    refine q_ast xE xB xK xP xD xS 1 rfl (by omega) (by decide) dX7_goes_193 (fun H locs xP xD xS => ?_)
                    have xP : va_P G.1 vwCl (wU G r (upd (upd (upd (upd v (173 + 24 * k + 6 * q + 1) f1) (173 + 24 * k + 6 * q + 2) f2) (173 + 24 * k + 6 * q + 3) f3) (173 + 24 * k + 6 * q + 4) f4, P, U, p, X, y, u_25.1, u_25.2.1, u_25.2.2.1, u_25.2.2.2, sp, re, B, wd, hg, ow)) H := xP
                    have xD : va_D A (wU G r (upd (upd (upd (upd v (173 + 24 * k + 6 * q + 1) f1) (173 + 24 * k + 6 * q + 2) f2) (173 + 24 * k + 6 * q + 3) f3) (173 + 24 * k + 6 * q + 4) f4, P, U, p, X, y, u_25.1, u_25.2.1, u_25.2.2.1, u_25.2.2.2, sp, re, B, wd, hg, ow)) := xD
                    subst hf4
                    subst hf3
                    subst hf2
                    subst hf1
                    subst hv
                    have xP : va_P G.1 vwCl (wU G r (cellF lc n o ta tb tt k q yy, P, U, p, X, y, u_25.1, u_25.2.1, u_25.2.2.1, u_25.2.2.2, sp, re, B, wd, hg, ow)) H := xP
                    have xD : va_D A (wU G r (cellF lc n o ta tb tt k q yy, P, U, p, X, y, u_25.1, u_25.2.1, u_25.2.2.1, u_25.2.2.2, sp, re, B, wd, hg, ow)) := xD
                    refine lv_iinc (v := pI q) (lv' := [(2, .int (pI q)), (0, .ref r.1), (1, .int (nI k)), (3, .int (nI (173 + 24 * k + 6 * q))), (4, .int (kdF o k q yy))]) xE xB dX7_goes_194 xL (k := 2) rfl (q_decP _) (by decide) rfl (fun ls xL => ?_)
                    refine lv_goto (tgt := 18) xE xB dX7_goes_197 (by decide) ?_
                    exact ih_18 (cellF lc n o ta tb tt k q yy) u_25.1 u_25.2.1 u_25.2.2.1 u_25.2.2.2 (by omega) (by exact hy) (by exact fun p hp => (cellF_lo p hp).trans (hlo2 p hp)) _ _ xP xD xS _ (lv_sub xL [1, 2, 0] rfl)
                  refine lv_aload_n xE xB dX7_goes_172 rfl (lv_at xL 0 rfl) ?_
                  refine va_get (D := G.1) (ci := 7) (v := .ref r.2.1) (C := RX7) (T := TX7) (N := 16) xE xB xT khX7_goes_X7 xO xK.1 xP 0 rfl rfl 0 (by decide) (xT _ kX7_goes_f7) (fun _ h9 => h9) rfl dX7_goes_173 ?_
                  refine lv_iload_n xE xB dX7_goes_176 rfl (lv_at xL 3 rfl) ?_
                  refine lv_iconst (v := nI 4) xE xB dX7_goes_177 (by decide) ?_
                  refine q_iadd xE xB dX7_goes_178 ?_
                  refine lv_iload xE xB dX7_goes_179 (lv_at xL 4 rfl) ?_
                  refine lv_iconst (v := nI 4) xE xB dX7_goes_181 (by decide) ?_
                  refine lv_icmp_ne (tgt := 189) xE xB dX7_goes_182 (by decide) (fun c_182 => ?_) (fun c_182 => ?_)
                  · skip
                    refine lv_aload_n xE xB dX7_goes_189 rfl (lv_at xL 0 rfl) ?_
                    refine va_get (D := G.1) (ci := 7) (v := .int u_25.2.2.2) (C := RX7) (T := TX7) (N := 16) xE xB xT khX7_goes_X7 xO xK.1 xP 0 rfl rfl 9 (by decide) (xT _ kX7_goes_f92) (fun _ h9 => h9) rfl dX7_goes_190 ?_
                    exact J_193 u_25.2.2.2 (by first | exact (if_pos c_182).symm | exact hy5.trans (if_neg c_182).symm) _ _ xP xD xS _ (lv_sub xL [0, 1, 2, 3, 4] rfl)
                  · skip
                    refine lv_iconst (v := nI 0) xE xB dX7_goes_185 (by decide) ?_
                    refine lv_goto (tgt := 193) xE xB dX7_goes_186 (by decide) ?_
                    exact J_193 (nI 0) (by first | exact (if_pos c_182).symm | exact hy5.trans (if_neg c_182).symm) _ _ xP xD xS _ (lv_sub xL [0, 1, 2, 3, 4] rfl)
                refine lv_aload_n xE xB dX7_goes_152 rfl (lv_at xL 0 rfl) ?_
                refine va_get (D := G.1) (ci := 7) (v := .ref r.2.1) (C := RX7) (T := TX7) (N := 16) xE xB xT khX7_goes_X7 xO xK.1 xP 0 rfl rfl 0 (by decide) (xT _ kX7_goes_f7) (fun _ h9 => h9) rfl dX7_goes_153 ?_
                refine lv_iload_n xE xB dX7_goes_156 rfl (lv_at xL 3 rfl) ?_
                refine lv_iconst (v := nI 3) xE xB dX7_goes_157 (by decide) ?_
                refine q_iadd xE xB dX7_goes_158 ?_
                refine lv_aload_n xE xB dX7_goes_159 rfl (lv_at xL 0 rfl) ?_
                refine va_get (D := G.1) (ci := 7) (v := .int (nI u_25.2.2.1)) (C := RX7) (T := TX7) (N := 16) xE xB xT khX7_goes_X7 xO xK.1 xP 0 rfl rfl 8 (by decide) (xT _ kX7_goes_f86) (fun _ h9 => h9) rfl dX7_goes_160 ?_
                refine q_if_eq (tgt := 170) xE xB dX7_goes_163 (by decide) (by omega) (fun c_163 => ?_) (fun c_163 => ?_)
                · skip
                  refine lv_iconst (v := nI 0) xE xB dX7_goes_170 (by decide) ?_
                  exact J_171 (nI 0) (by first | exact (if_pos (ha8 c_163)).symm | exact (if_neg (ha7 c_163)).symm) _ _ xP xD xS _ (lv_sub xL [0, 1, 2, 3, 4] rfl)
                · skip
                  refine lv_iconst (v := nI 1) xE xB dX7_goes_166 (by decide) ?_
                  refine lv_goto (tgt := 171) xE xB dX7_goes_167 (by decide) ?_
                  exact J_171 (nI 1) (by first | exact (if_pos (ha8 c_163)).symm | exact (if_neg (ha7 c_163)).symm) _ _ xP xD xS _ (lv_sub xL [0, 1, 2, 3, 4] rfl)
              refine lv_aload_n xE xB dX7_goes_130 rfl (lv_at xL 0 rfl) ?_
              refine va_get (D := G.1) (ci := 7) (v := .ref r.2.1) (C := RX7) (T := TX7) (N := 16) xE xB xT khX7_goes_X7 xO xK.1 xP 0 rfl rfl 0 (by decide) (xT _ kX7_goes_f7) (fun _ h9 => h9) rfl dX7_goes_131 ?_
              refine lv_iload_n xE xB dX7_goes_134 rfl (lv_at xL 3 rfl) ?_
              refine lv_iconst (v := nI 2) xE xB dX7_goes_135 (by decide) ?_
              refine q_iadd xE xB dX7_goes_136 ?_
              refine lv_iload xE xB dX7_goes_137 (lv_at xL 4 rfl) ?_
              refine lv_iconst (v := nI 3) xE xB dX7_goes_139 (by decide) ?_
              refine lv_icmp_ne (tgt := 147) xE xB dX7_goes_140 (by decide) (fun c_140 => ?_) (fun c_140 => ?_)
              · skip
                refine lv_aload_n xE xB dX7_goes_147 rfl (lv_at xL 0 rfl) ?_
                refine va_get (D := G.1) (ci := 7) (v := .int u_25.2.1) (C := RX7) (T := TX7) (N := 16) xE xB xT khX7_goes_X7 xO xK.1 xP 0 rfl rfl 7 (by decide) (xT _ kX7_goes_f89) (fun _ h9 => h9) rfl dX7_goes_148 ?_
                exact J_151 u_25.2.1 (by first | exact (if_pos c_140).symm | exact hx5.trans (if_neg c_140).symm) _ _ xP xD xS _ (lv_sub xL [0, 1, 2, 3, 4] rfl)
              · skip
                refine lv_iconst (v := nI 0) xE xB dX7_goes_143 (by decide) ?_
                refine lv_goto (tgt := 151) xE xB dX7_goes_144 (by decide) ?_
                exact J_151 (nI 0) (by first | exact (if_pos c_140).symm | exact hx5.trans (if_neg c_140).symm) _ _ xP xD xS _ (lv_sub xL [0, 1, 2, 3, 4] rfl)
            refine lv_aload_n xE xB dX7_goes_110 rfl (lv_at xL 0 rfl) ?_
            refine va_get (D := G.1) (ci := 7) (v := .ref r.2.1) (C := RX7) (T := TX7) (N := 16) xE xB xT khX7_goes_X7 xO xK.1 xP 0 rfl rfl 0 (by decide) (xT _ kX7_goes_f7) (fun _ h9 => h9) rfl dX7_goes_111 ?_
            refine lv_iload_n xE xB dX7_goes_114 rfl (lv_at xL 3 rfl) ?_
            refine lv_iconst (v := nI 1) xE xB dX7_goes_115 (by decide) ?_
            refine q_iadd xE xB dX7_goes_116 ?_
            refine lv_aload_n xE xB dX7_goes_117 rfl (lv_at xL 0 rfl) ?_
            refine va_get (D := G.1) (ci := 7) (v := .int (nI u_25.1)) (C := RX7) (T := TX7) (N := 16) xE xB xT khX7_goes_X7 xO xK.1 xP 0 rfl rfl 6 (by decide) (xT _ kX7_goes_f82) (fun _ h9 => h9) rfl dX7_goes_118 ?_
            refine q_if_eq (tgt := 128) xE xB dX7_goes_121 (by decide) (by omega) (fun c_121 => ?_) (fun c_121 => ?_)
            · skip
              refine lv_iconst (v := nI 0) xE xB dX7_goes_128 (by decide) ?_
              exact J_129 (nI 0) (by first | exact (if_pos (hl8 c_121)).symm | exact (if_neg (hl7 c_121)).symm) _ _ xP xD xS _ (lv_sub xL [0, 1, 2, 3, 4] rfl)
            · skip
              refine lv_iconst (v := nI 1) xE xB dX7_goes_124 (by decide) ?_
              refine lv_goto (tgt := 129) xE xB dX7_goes_125 (by decide) ?_
              exact J_129 (nI 1) (by first | exact (if_pos (hl8 c_121)).symm | exact (if_neg (hl7 c_121)).symm) _ _ xP xD xS _ (lv_sub xL [0, 1, 2, 3, 4] rfl)
          refine lv_aload_n xE xB dX7_goes_42 rfl (lv_at xL 2 rfl) ?_
          refine va_get (D := G.1) (ci := 7) (v := .int (nI u_25.1)) (C := RX7) (T := TX7) (N := 16) xE xB xT khX7_goes_X7 xO xK.1 xP 0 rfl rfl 6 (by decide) (xT _ kX7_goes_f82) (fun _ h9 => h9) rfl dX7_goes_43 ?_
          refine q_if_eq (tgt := 110) xE xB dX7_goes_46 (by decide) (by omega) (fun c_46 => ?_) (fun c_46 => ?_)
          · skip
            exact J_110 yy (by first | rw [if_neg (fun q9 => hl7 c_46 q9.1)] | rw [if_neg (fun q9 => ha7 c_53 q9.2)] | rw [if_pos ⟨hl8 c_46, ha8 c_53⟩, ← hx5, ← hy5, ← htm]) _ _ xP xD xS _ (lv_sub xL [2, 3, 4, 1, 0] rfl)
          · skip
            refine lv_aload_n xE xB dX7_goes_49 rfl (lv_at xL 2 rfl) ?_
            refine va_get (D := G.1) (ci := 7) (v := .int (nI u_25.2.2.1)) (C := RX7) (T := TX7) (N := 16) xE xB xT khX7_goes_X7 xO xK.1 xP 0 rfl rfl 8 (by decide) (xT _ kX7_goes_f86) (fun _ h9 => h9) rfl dX7_goes_50 ?_
            refine q_if_eq (tgt := 110) xE xB dX7_goes_53 (by decide) (by omega) (fun c_53 => ?_) (fun c_53 => ?_)
            · skip
              exact J_110 yy (by first | rw [if_neg (fun q9 => hl7 c_46 q9.1)] | rw [if_neg (fun q9 => ha7 c_53 q9.2)] | rw [if_pos ⟨hl8 c_46, ha8 c_53⟩, ← hx5, ← hy5, ← htm]) _ _ xP xD xS _ (lv_sub xL [2, 3, 4, 1, 0] rfl)
            · skip
              have J_95 : ∀ (tm : Int32), (tm = tmA (kdF o k q yy)) → ∀ (H : Heap) (locs : List Loc), va_P G.1 vwCl (wU G r (yy, P, U, p, X, y, u_25.1, u_25.2.1, u_25.2.2.1, u_25.2.2.2, sp, re, B, wd, hg, ow)) H → va_D A (wU G r (yy, P, U, p, X, y, u_25.1, u_25.2.1, u_25.2.2.1, u_25.2.2.2, sp, re, B, wd, hg, ow)) → va_S A s9.heap H locs → ∀ (ls : Array Slot), lv_has ls 5 [(0, .ref r.1), (1, .int (nI k)), (2, .int (nI q)), (3, .int (nI (173 + 24 * k + 6 * q))), (4, .int (kdF o k q yy))] → W p9 l e9 (rm 2 46) s9 m9 ([.ref r.1] : List Value).toArray b9 t9 c9 H locs 0 0 Q (F0 m9 95 ls [.int tm, .int (u_25.2.1 * u_25.2.2.2), .int (yy (173 + 24 * k + 6 * q)), .int (nI (173 + 24 * k + 6 * q)), .ref r.2.1]) := by
                intro tm htm H locs xP xD xS ls xL
                refine lv_imul xE xB dX7_goes_95 ?_
                refine lv_iadd xE xB dX7_goes_96 ?_
                refine q_ast xE xB xK xP xD xS 1 rfl (by omega) (by decide) dX7_goes_97 (fun H locs xP xD xS => ?_)
                have xP : va_P G.1 vwCl (wU G r (upd yy (173 + 24 * k + 6 * q) ((yy (173 + 24 * k + 6 * q)) + ((u_25.2.1 * u_25.2.2.2) * tm)), P, U, p, X, y, u_25.1, u_25.2.1, u_25.2.2.1, u_25.2.2.2, sp, re, B, wd, hg, ow)) H := xP
                have xD : va_D A (wU G r (upd yy (173 + 24 * k + 6 * q) ((yy (173 + 24 * k + 6 * q)) + ((u_25.2.1 * u_25.2.2.2) * tm)), P, U, p, X, y, u_25.1, u_25.2.1, u_25.2.2.1, u_25.2.2.2, sp, re, B, wd, hg, ow)) := xD
                refine lv_aload_n xE xB dX7_goes_98 rfl (lv_at xL 0 rfl) ?_
                refine va_get (D := G.1) (ci := 7) (v := .ref r.2.1) (C := RX7) (T := TX7) (N := 16) xE xB xT khX7_goes_X7 xO xK.1 xP 0 rfl rfl 0 (by decide) (xT _ kX7_goes_f7) (fun _ h9 => h9) rfl dX7_goes_99 ?_
                refine lv_iload_n xE xB dX7_goes_102 rfl (lv_at xL 3 rfl) ?_
                refine lv_iconst (v := nI 5) xE xB dX7_goes_103 (by decide) ?_
                refine q_iadd xE xB dX7_goes_104 ?_
                refine lv_dup2_11 xE xB dX7_goes_105 rfl rfl ?_
                refine q_ald xE xB xK xP 1 rfl (by omega) (by decide) dX7_goes_106 ?_
                refine q_eq (y := yy (173 + 24 * k + 6 * q + 5)) (upd_n (by omega)) ?_
                refine lv_iconst (v := nI 1) xE xB dX7_goes_107 (by decide) ?_
                refine lv_iadd xE xB dX7_goes_108 ?_
                refine q_ast xE xB xK xP xD xS 1 rfl (by omega) (by decide) dX7_goes_109 (fun H locs xP xD xS => ?_)
                have xP : va_P G.1 vwCl (wU G r (upd (upd yy (173 + 24 * k + 6 * q) ((yy (173 + 24 * k + 6 * q)) + ((u_25.2.1 * u_25.2.2.2) * tm))) ((173 + 24 * k + 6 * q) + 5) ((yy (173 + 24 * k + 6 * q + 5)) + (nI 1)), P, U, p, X, y, u_25.1, u_25.2.1, u_25.2.2.1, u_25.2.2.2, sp, re, B, wd, hg, ow)) H := xP
                have xD : va_D A (wU G r (upd (upd yy (173 + 24 * k + 6 * q) ((yy (173 + 24 * k + 6 * q)) + ((u_25.2.1 * u_25.2.2.2) * tm))) ((173 + 24 * k + 6 * q) + 5) ((yy (173 + 24 * k + 6 * q + 5)) + (nI 1)), P, U, p, X, y, u_25.1, u_25.2.1, u_25.2.2.1, u_25.2.2.2, sp, re, B, wd, hg, ow)) := xD
                exact J_110 (upd (upd yy (173 + 24 * k + 6 * q) ((yy (173 + 24 * k + 6 * q)) + ((u_25.2.1 * u_25.2.2.2) * tm))) ((173 + 24 * k + 6 * q) + 5) ((yy (173 + 24 * k + 6 * q + 5)) + (nI 1))) (by first | rw [if_neg (fun q9 => hl7 c_46 q9.1)] | rw [if_neg (fun q9 => ha7 c_53 q9.2)] | rw [if_pos ⟨hl8 c_46, ha8 c_53⟩, ← hx5, ← hy5, ← htm]) _ _ xP xD xS _ (lv_sub xL [0, 1, 2, 3, 4] rfl)
              refine lv_aload_n xE xB dX7_goes_56 rfl (lv_at xL 2 rfl) ?_
              refine va_get (D := G.1) (ci := 7) (v := .ref r.2.1) (C := RX7) (T := TX7) (N := 16) xE xB xT khX7_goes_X7 xO xK.1 xP 0 rfl rfl 0 (by decide) (xT _ kX7_goes_f7) (fun _ h9 => h9) rfl dX7_goes_57 ?_
              refine lv_iload_n xE xB dX7_goes_60 rfl (lv_at xL 1 rfl) ?_
              refine lv_iconst (v := nI 0) xE xB dX7_goes_61 (by decide) ?_
              refine q_iadd xE xB dX7_goes_62 ?_
              refine q_eq (y := nI (173 + 24 * k + 6 * q)) (rfl) ?_
              refine lv_dup2_11 xE xB dX7_goes_63 rfl rfl ?_
              refine q_ald xE xB xK xP 1 rfl (by omega) (by decide) dX7_goes_64 ?_
              refine lv_aload_n xE xB dX7_goes_65 rfl (lv_at xL 2 rfl) ?_
              refine va_get (D := G.1) (ci := 7) (v := .int u_25.2.1) (C := RX7) (T := TX7) (N := 16) xE xB xT khX7_goes_X7 xO xK.1 xP 0 rfl rfl 7 (by decide) (xT _ kX7_goes_f89) (fun _ h9 => h9) rfl dX7_goes_66 ?_
              refine lv_aload_n xE xB dX7_goes_69 rfl (lv_at xL 2 rfl) ?_
              refine va_get (D := G.1) (ci := 7) (v := .int u_25.2.2.2) (C := RX7) (T := TX7) (N := 16) xE xB xT khX7_goes_X7 xO xK.1 xP 0 rfl rfl 9 (by decide) (xT _ kX7_goes_f92) (fun _ h9 => h9) rfl dX7_goes_70 ?_
              refine lv_imul xE xB dX7_goes_73 ?_
              refine lv_iload xE xB dX7_goes_74 (lv_at xL 0 rfl) ?_
              refine lv_iconst (v := nI 1) xE xB dX7_goes_76 (by decide) ?_
              refine lv_icmp_ne (tgt := 84) xE xB dX7_goes_77 (by decide) (fun c_77 => ?_) (fun c_77 => ?_)
              · skip
                refine lv_iload xE xB dX7_goes_84 (lv_at xL 0 rfl) ?_
                refine lv_iconst (v := nI 2) xE xB dX7_goes_86 (by decide) ?_
                refine lv_icmp_ne (tgt := 94) xE xB dX7_goes_87 (by decide) (fun c_87 => ?_) (fun c_87 => ?_)
                · skip
                  refine lv_iconst (v := nI 1) xE xB dX7_goes_94 (by decide) ?_
                  exact J_95 (nI 1) (by unfold tmA; first | rw [if_pos c_77] | rw [if_neg c_77, if_pos c_87] | rw [if_neg c_77, if_neg c_87]) _ _ xP xD xS _ (lv_sub xL [2, 3, 4, 1, 0] rfl)
                · skip
                  refine lv_iconst (v := nI 2) xE xB dX7_goes_90 (by decide) ?_
                  refine lv_goto (tgt := 95) xE xB dX7_goes_91 (by decide) ?_
                  exact J_95 (nI 2) (by unfold tmA; first | rw [if_pos c_77] | rw [if_neg c_77, if_pos c_87] | rw [if_neg c_77, if_neg c_87]) _ _ xP xD xS _ (lv_sub xL [2, 3, 4, 1, 0] rfl)
              · skip
                refine lv_iconst (v := nI 0) xE xB dX7_goes_80 (by decide) ?_
                refine lv_goto (tgt := 95) xE xB dX7_goes_81 (by decide) ?_
                exact J_95 (nI 0) (by unfold tmA; first | rw [if_pos c_77] | rw [if_neg c_77, if_pos c_87] | rw [if_neg c_77, if_neg c_87]) _ _ xP xD xS _ (lv_sub xL [2, 3, 4, 1, 0] rfl)
      exact L_18 (min n (rc - n * tb)) z a0 a1 a2 a3 (by exact Nat.le_refl _) (by rfl) (by exact hlo) _ _ xP xD xS _ (lv_sub xL [1, 2, 0] rfl)
  exact L_7 (min n (lr - n * ta)) s q0 q1 q2 q3 (by exact Nat.le_refl _) (by rfl) (by exact fun _ _ => rfl) _ _ xP xD xS _ (lv_sub xL [1, 0] rfl)
