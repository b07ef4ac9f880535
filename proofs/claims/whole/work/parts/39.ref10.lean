/-! ref10: what only reads -/
theorem fc_z {x : Int32} (h : ∃ q, q ≤ 4 ∧ x = nI q) (c : x ≤ 0) : x = nI 0 := by
  obtain ⟨q, hq, rfl⟩ := h
  rcases Nat.eq_zero_or_pos q with e | e
  · rw [e]
  · exact absurd c (nI_nle e (by omega))
theorem fc_p {x : Int32} (c : ¬ x ≤ 0) : ¬ x = nI 0 := by
  intro e
  apply c
  rw [e]
  decide
theorem faS (s : wF) : ns (fun q => if s (153 + q) = nI 0 then 0 else 1) 20 = faN s := (ns_blk (f := fun q => if s (153 + q) = nI 0 then 0 else 1) (w := 5) 4).symm
def F04 (s : wF) : Prop := ∀ j, j < 20 → ∃ q, q ≤ 4 ∧ s (153 + j) = nI q
theorem F04_Q {n : Nat} {s : wF} (h : OkQ n s) : F04 s := fun j hj => by
  obtain ⟨q, h1, h2, -⟩ := h (j / 5) (j % 5) (by omega) (by omega)
  have e : 153 + 5 * (j / 5) + j % 5 = 153 + j := by omega
  rw [e] at h2
  exact ⟨q, h1, h2⟩
theorem al_t {P : Nat → Prop} {al i : Nat} (h : (al = 1 ∧ ∀ j, j < i → P j) ∨ (al = 0 ∧ ¬ ∀ j, j < i → P j)) (c : 0 < al) (q : P i) : (1 = 1 ∧ ∀ j, j < i + 1 → P j) ∨ (1 = 0 ∧ ¬ ∀ j, j < i + 1 → P j) := by
  rcases h with ⟨-, h⟩ | ⟨h, -⟩
  · refine Or.inl ⟨rfl, fun j hj => ?_⟩
    by_cases e : j = i
    · rw [e]; exact q
    · exact h j (by omega)
  · omega
theorem al_f {P : Nat → Prop} {al i : Nat} (h : (al = 1 ∧ ∀ j, j < i → P j) ∨ (al = 0 ∧ ¬ ∀ j, j < i → P j)) (c : al = 0) : (0 = 1 ∧ ∀ j, j < i + 1 → P j) ∨ (0 = 0 ∧ ¬ ∀ j, j < i + 1 → P j) := by
  rcases h with ⟨h, -⟩ | ⟨-, h⟩
  · omega
  · exact Or.inr ⟨rfl, fun g => h fun j hj => g j (by omega)⟩
theorem al_n {P : Nat → Prop} {i : Nat} (q : ¬ P i) : (0 = 1 ∧ ∀ j, j < i + 1 → P j) ∨ (0 = 0 ∧ ¬ ∀ j, j < i + 1 → P j) := Or.inr ⟨rfl, fun g => q (g i (by omega))⟩
theorem su_t {A : Prop} {al : Nat} {x z : Int32} (h : (al = 1 ∧ A) ∨ (al = 0 ∧ ¬ A)) (hx : x = z) (c1 : 0 < al) (c2 : ¬ x = 0) : A ∧ z ≠ nI 0 := by
  rcases h with ⟨-, h⟩ | ⟨h, -⟩
  · exact ⟨h, fun e => c2 (by rw [hx, e]; exact nI_0)⟩
  · omega
theorem su_f1 {A B : Prop} {al : Nat} (h : (al = 1 ∧ A) ∨ (al = 0 ∧ ¬ A)) (c1 : al = 0) : ¬ (A ∧ B) := by
  rcases h with ⟨h, -⟩ | ⟨-, h⟩
  · omega
  · exact fun q => h q.1
theorem su_f2 {A : Prop} {x z : Int32} (hx : x = z) (c2 : x = 0) : ¬ (A ∧ z ≠ nI 0) := fun q => q.2 (by rw [← hx, c2]; exact nI_0.symm)
theorem RelD_o {n o lr lc rc j : Nat} {s : wF} (h : RelD n o lr lc rc s) (hj : j ≤ n) : RelD n j lr lc rc (upd s 4 (nI j)) := by
  obtain ⟨h0, h1, h2, h3, h4, h5, h6⟩ := h
  exact ⟨by rw [upd_n (by decide)]; exact h0, by rw [upd_n (by decide)]; exact h1, by rw [upd_n (by decide)]; exact h2, by rw [upd_n (by decide)]; exact h3, upd_s, ⟨h5.1, h5.2.1, hj⟩, h6⟩
theorem ns_pos {f : Nat → Nat} (h : 0 < f 0) : ∀ (m : Nat), 0 < m → 0 < ns f m
  | 0, q => absurd q (Nat.lt_irrefl 0)
  | 1, _ => by show 0 < 0 + f 0; omega
  | m + 2, _ => by
    show 0 < ns f (m + 1) + f (m + 1)
    have := ns_pos h (m + 1) (by omega)
    omega
theorem need_20 {k n r c a b : Nat} (hk : k ≤ 6) (hn : n ≤ 4) : need k n r c a b ≤ 20 := by unfold need; omega
theorem tkN_b {n o lr lc rc : Nat} {s : wF} (h : RelD n o lr lc rc s) : 0 < tkN lc n lr rc ∧ tkN lc n lr rc ≤ 720 := by
  obtain ⟨-, -, -, -, -, h5, m1, m2, m3, m4, m5, m6⟩ := h
  have t1 := tls_1 m1 h5.1
  have t2 := tls_1 m5 h5.1
  have t3 := tls_6 m2 h5.1
  have t4 := tls_6 m6 h5.1
  constructor
  · unfold tkN
    refine ns_pos (f := fun a => ns (fun b => need lc n lr rc a b) (tls rc n)) (ns_pos (f := fun b => need lc n lr rc 0 b) ?_ _ t2) _ t1
    unfold need
    have e : n * 0 = 0 := Nat.mul_zero n
    rw [e]
    omega
  · unfold tkN
    have g : ∀ a, ns (fun b => need lc n lr rc a b) (tls rc n) ≤ 120 := fun a => by
      have := ns_le (f := fun b => need lc n lr rc a b) (m := 20) (tls rc n) (fun b _ => need_20 m4 h5.2.1)
      omega
    have := ns_le (f := fun a => ns (fun b => need lc n lr rc a b) (tls rc n)) (m := 120) (tls lr n) (fun a _ => g a)
    omega
theorem cpN_in {i k : Nat} {s P : wF} (h : k < i) : cpN 0 i s P k = s k := by
  show (if 0 ≤ k ∧ k < 0 + i then s (k - 0) else P k) = s k
  rw [if_pos ⟨by omega, by omega⟩]
  rfl
theorem cpN_z (i : Nat) (s P : wF) : upd (cpN 0 i s P) i (s i) = cpN 0 (i + 1) s P := by
  have h := cpN_s 0 i s P
  rw [Nat.zero_add] at h
  exact h

theorem kX7_entry_c37 : Cond.constant RX7 37 (-1000001) ∈ wsX7_entry := by decide +kernel
theorem kX7_entry_f7 : Cond.fieldLink RX7 7 "SkewedSquareModel" "s" "[I" ∈ wsX7_entry := by decide +kernel
theorem khX7_entry_X7 : ∀ w ∈ u_ws RX7 TX7 16, w ∈ wsX7_entry := by decide +kernel
set_option maxHeartbeats 4000000 in
set_option maxRecDepth 100000 in
/-- kX7_entry -/
theorem kX7_entry (l : Launch) (G : wG) (r : RA) (s P U : wF) (p : Nat) (X : wF) (y q0 : Nat) (q1 : Int32) (q2 : Nat) (q3 : Int32) (sp re : Nat) (B : wF) (wd hg ow : Nat) (n o lr lc rc : Nat) (v1 v2 v3 : Int32) (hD : RelD n o lr lc rc s) : CR l yX7_entry wsX7_entry (rm 2 45) G [.ref r.1, .int v1, .int v2, .int v3] (wU G r (s, P, U, p, X, y, q0, q1, q2, q3, sp, re, B, wd, hg, ow)) (fun x => x = enA lr lc rc v1 v2 v3 s) := by
  refine CR.of (own := RX7) rfl (by decide) rfl (Nat.le_of_ble_eq_true rfl) ?_
  intro p9 e9 s9 m9 b9 t9 c9 xE xB xM xO xT xK xP Q xQ ls hl
  have xL : lv_has ls 4 [(0, .ref r.1), (1, .int v1), (2, .int v2), (3, .int v3)] := hl
  obtain ⟨g0, g1, g2, g3, g4, ⟨hn1, hn2, hn3⟩, hm1, hm2, hm3, hm4, hm5, hm6⟩ := id hD
  refine lv_aload_n xE xB dX7_entry_0 rfl (lv_at xL 0 rfl) ?_
  refine lv_iload_n xE xB dX7_entry_1 rfl (lv_at xL 1 rfl) ?_
  refine lv_iload_n xE xB dX7_entry_2 rfl (lv_at xL 2 rfl) ?_
  refine lv_iload_n xE xB dX7_entry_3 rfl (lv_at xL 3 rfl) ?_
  refine q_VR (As := [.int v1, .int v2, .int v3]) (rest := []) ⟨xE, xB, xM, xO, xT⟩ (kX7_isEntry l G r s P U p X y q0 q1 q2 q3 sp re B wd hg ow n o lr lc rc v1 v2 v3 (by exact hD)) (cwV 3 xT gX7_entry_X7_isEntry rfl rfl rfl (by decide +kernel) ⟨Nat.le_of_ble_eq_true rfl, Nat.le_of_ble_eq_true rfl⟩) xK xP [0, 1, 2, 3, 4, 5] rfl 0 rfl rfl rfl rfl xL.1 rfl (Nat.le_of_ble_eq_true rfl) dX7_entry_4 ⟨Nat.le_refl _, Nat.le_refl _⟩ (fun r_4 h_4 => ?_)
  rcases h_4 with ⟨h_4, c_4⟩ | ⟨h_4, c_4⟩
  · skip
    subst h_4
    have c_4 : (v1.toInt = 0 ∧ (0 ≤ v2.toInt ∧ v2.toInt < lr) ∧ 0 ≤ v3.toInt ∧ v3.toInt < lc) ∨ (v1.toInt = 1 ∧ (0 ≤ v2.toInt ∧ v2.toInt < lc) ∧ 0 ≤ v3.toInt ∧ v3.toInt < rc) := c_4
    refine lv_if_eq (tgt := 32) xE xB dX7_entry_7 (by decide) (fun h9 => absurd h9 (by decide)) (fun _ => ?_)
    have e_v1 : v1 = nI (tN v1) := tN_eq (by omega)
    have b_v1 : (tN v1 : Int) = v1.toInt := tN_z (by omega)
    rw [e_v1] at xL
    have xL : lv_has ls 4 [(0, .ref r.1), (1, .int (nI (tN v1))), (2, .int v2), (3, .int v3)] := xL
    have e_v2 : v2 = nI (tN v2) := tN_eq (by omega)
    have b_v2 : (tN v2 : Int) = v2.toInt := tN_z (by omega)
    rw [e_v2] at xL
    have xL : lv_has ls 4 [(0, .ref r.1), (1, .int (nI (tN v1))), (2, .int (nI (tN v2))), (3, .int v3)] := xL
    have e_v3 : v3 = nI (tN v3) := tN_eq (by omega)
    have b_v3 : (tN v3 : Int) = v3.toInt := tN_z (by omega)
    rw [e_v3] at xL
    have xL : lv_has ls 4 [(0, .ref r.1), (1, .int (nI (tN v1))), (2, .int (nI (tN v2))), (3, .int (nI (tN v3)))] := xL
    refine lv_aload_n xE xB dX7_entry_10 rfl (lv_at xL 0 rfl) ?_
    refine va_get (D := G.1) (ci := 7) (v := .ref r.2.1) (C := RX7) (T := TX7) (N := 16) xE xB xT khX7_entry_X7 xO xK.1 xP 0 rfl rfl 0 (by decide) (xT _ kX7_entry_f7) (fun _ h9 => h9) rfl dX7_entry_11 ?_
    refine lv_bipush (v := nI 9) xE xB dX7_entry_14 (by decide) ?_
    refine lv_bipush (v := nI 36) xE xB dX7_entry_16 (by decide) ?_
    refine lv_iload_n xE xB dX7_entry_18 rfl (lv_at xL 1 rfl) ?_
    refine q_imul xE xB dX7_entry_19 ?_
    refine q_iadd xE xB dX7_entry_20 ?_
    refine lv_bipush (v := nI 6) xE xB dX7_entry_21 (by decide) ?_
    refine lv_iload_n xE xB dX7_entry_23 rfl (lv_at xL 2 rfl) ?_
    refine q_imul xE xB dX7_entry_24 ?_
    refine q_iadd xE xB dX7_entry_25 ?_
    refine lv_iload_n xE xB dX7_entry_26 rfl (lv_at xL 3 rfl) ?_
    refine q_iadd xE xB dX7_entry_27 ?_
    refine q_ald xE xB xK xP 1 rfl (by omega) (by decide) dX7_entry_28 ?_
    refine lv_goto (tgt := 34) xE xB dX7_entry_29 (by decide) ?_
    exact xQ _ _ _ (by first | (unfold enA; rw [if_neg (by omega), if_neg (by omega)]) | (rcases c_4 with h9 | h9 <;> unfold enA <;> first | (rw [if_pos (by omega)]; exact congrArg s (by omega)) | (rw [if_neg (by omega), if_pos (by omega)]; exact congrArg s (by omega)))) dX7_entry_34
  · skip
    subst h_4
    have c_4 : ¬ ((v1.toInt = 0 ∧ (0 ≤ v2.toInt ∧ v2.toInt < lr) ∧ 0 ≤ v3.toInt ∧ v3.toInt < lc) ∨ (v1.toInt = 1 ∧ (0 ≤ v2.toInt ∧ v2.toInt < lc) ∧ 0 ≤ v3.toInt ∧ v3.toInt < rc)) := c_4
    refine lv_if_eq (tgt := 32) xE xB dX7_entry_7 (by decide) (fun _ => ?_) (fun h9 => absurd (by decide) h9)
    refine lv_ldc (v := (-1000001)) xE xB xO (xT _ kX7_entry_c37) dX7_entry_32 ?_
    exact xQ _ _ _ (by first | (unfold enA; rw [if_neg (by omega), if_neg (by omega)]) | (rcases c_4 with h9 | h9 <;> unfold enA <;> first | (rw [if_pos (by omega)]; exact congrArg s (by omega)) | (rw [if_neg (by omega), if_pos (by omega)]; exact congrArg s (by omega)))) dX7_entry_34
theorem kX7_cellOf_c117 : Cond.constant RX7 117 (-1000004) ∈ wsX7_cellOf := by decide +kernel
theorem kX7_cellOf_c37 : Cond.constant RX7 37 (-1000001) ∈ wsX7_cellOf := by decide +kernel
theorem kX7_cellOf_c58 : Cond.constant RX7 58 (-1000002) ∈ wsX7_cellOf := by decide +kernel
theorem kX7_cellOf_f7 : Cond.fieldLink RX7 7 "SkewedSquareModel" "s" "[I" ∈ wsX7_cellOf := by decide +kernel
theorem khX7_cellOf_X7 : ∀ w ∈ u_ws RX7 TX7 16, w ∈ wsX7_cellOf := by decide +kernel
set_option maxHeartbeats 4000000 in
set_option maxRecDepth 100000 in
/-- kX7_cellOf -/
theorem kX7_cellOf (l : Launch) (G : wG) (r : RA) (s P U : wF) (p : Nat) (X : wF) (y q0 : Nat) (q1 : Int32) (q2 : Nat) (q3 : Int32) (sp re : Nat) (B : wF) (wd hg ow : Nat) (n o lr lc rc : Nat) (b : Nat) (v1 v2 v3 : Int32) (hD : RelD n o lr lc rc s) (hb : b ≤ 1 ∧ s 5 = nI b) : CR l yX7_cellOf wsX7_cellOf (rm 2 43) G [.ref r.1, .int v1, .int v2, .int v3] (wU G r (s, P, U, p, X, y, q0, q1, q2, q3, sp, re, B, wd, hg, ow)) (fun x => x = ceA n o b v1 v2 v3 s) := by
  refine CR.of (own := RX7) rfl (by decide) rfl (Nat.le_of_ble_eq_true rfl) ?_
  intro p9 e9 s9 m9 b9 t9 c9 xE xB xM xO xT xK xP Q xQ ls hl
  have xL : lv_has ls 5 [(0, .ref r.1), (1, .int v1), (2, .int v2), (3, .int v3)] := hl
  obtain ⟨g0, g1, g2, g3, g4, ⟨hn1, hn2, hn3⟩, hm1, hm2, hm3, hm4, hm5, hm6⟩ := id hD
  have hb1 := hb.1
  refine lv_iload_n xE xB dX7_cellOf_0 rfl (lv_at xL 1 rfl) ?_
  refine lv_iconst (v := nI 0) xE xB dX7_cellOf_1 (by decide) ?_
  refine lv_aload_n xE xB dX7_cellOf_2 rfl (lv_at xL 0 rfl) ?_
  refine va_get (D := G.1) (ci := 7) (v := .ref r.2.1) (C := RX7) (T := TX7) (N := 16) xE xB xT khX7_cellOf_X7 xO xK.1 xP 0 rfl rfl 0 (by decide) (xT _ kX7_cellOf_f7) (fun _ h9 => h9) rfl dX7_cellOf_3 ?_
  refine lv_iconst (v := nI 0) xE xB dX7_cellOf_6 (by decide) ?_
  refine q_ald xE xB xK xP 1 rfl (by omega) (by decide) dX7_cellOf_7 ?_
  refine q_eq (y := nI n) (congrArg (fun z => z) (g0)) ?_
  refine lv_iconst (v := nI 1) xE xB dX7_cellOf_8 (by decide) ?_
  refine q_isub xE xB dX7_cellOf_9 (by omega) ?_
  refine q_SR (As := [.int v1, .int (nI 0), .int (nI (n - 1))]) (rest := []) ⟨xE, xB, xM, xO, xT⟩ (kX7_in l G v1 (nI 0) (nI (n - 1))) (va_cwS 3 xT gX7_cellOf_X7_in rfl rfl rfl (by decide +kernel) ⟨Nat.le_of_ble_eq_true rfl, Nat.le_of_ble_eq_true rfl⟩) xK xP [] rfl rfl xL.1 rfl (Nat.le_of_ble_eq_true rfl) dX7_cellOf_10 ⟨Nat.le_refl _, Nat.le_refl _⟩ (fun r_10 h_10 => ?_)
  rcases h_10 with ⟨h_10, c_10⟩ | ⟨h_10, c_10⟩
  · skip
    subst h_10
    have c_10 : ((nI 0) : Int32).toInt ≤ v1.toInt ∧ v1.toInt ≤ ((nI (n - 1)) : Int32).toInt := c_10
    refine lv_if_eq (tgt := 41) xE xB dX7_cellOf_13 (by decide) (fun h9 => absurd h9 (by decide)) (fun _ => ?_)
    refine lv_iload_n xE xB dX7_cellOf_16 rfl (lv_at xL 2 rfl) ?_
    refine lv_iconst (v := nI 0) xE xB dX7_cellOf_17 (by decide) ?_
    refine lv_aload_n xE xB dX7_cellOf_18 rfl (lv_at xL 0 rfl) ?_
    refine va_get (D := G.1) (ci := 7) (v := .ref r.2.1) (C := RX7) (T := TX7) (N := 16) xE xB xT khX7_cellOf_X7 xO xK.1 xP 0 rfl rfl 0 (by decide) (xT _ kX7_cellOf_f7) (fun _ h9 => h9) rfl dX7_cellOf_19 ?_
    refine lv_iconst (v := nI 0) xE xB dX7_cellOf_22 (by decide) ?_
    refine q_ald xE xB xK xP 1 rfl (by omega) (by decide) dX7_cellOf_23 ?_
    refine q_eq (y := nI n) (congrArg (fun z => z) (g0)) ?_
    refine lv_iconst (v := nI 1) xE xB dX7_cellOf_24 (by decide) ?_
    refine q_isub xE xB dX7_cellOf_25 (by omega) ?_
    refine q_SR (As := [.int v2, .int (nI 0), .int (nI (n - 1))]) (rest := []) ⟨xE, xB, xM, xO, xT⟩ (kX7_in l G v2 (nI 0) (nI (n - 1))) (va_cwS 3 xT gX7_cellOf_X7_in rfl rfl rfl (by decide +kernel) ⟨Nat.le_of_ble_eq_true rfl, Nat.le_of_ble_eq_true rfl⟩) xK xP [] rfl rfl xL.1 rfl (Nat.le_of_ble_eq_true rfl) dX7_cellOf_26 ⟨Nat.le_refl _, Nat.le_refl _⟩ (fun r_26 h_26 => ?_)
    rcases h_26 with ⟨h_26, c_26⟩ | ⟨h_26, c_26⟩
    · skip
      subst h_26
      have c_26 : ((nI 0) : Int32).toInt ≤ v2.toInt ∧ v2.toInt ≤ ((nI (n - 1)) : Int32).toInt := c_26
      refine lv_if_eq (tgt := 41) xE xB dX7_cellOf_29 (by decide) (fun h9 => absurd h9 (by decide)) (fun _ => ?_)
      refine lv_iload_n xE xB dX7_cellOf_32 rfl (lv_at xL 3 rfl) ?_
      refine lv_iconst (v := nI 0) xE xB dX7_cellOf_33 (by decide) ?_
      refine lv_iconst (v := nI 5) xE xB dX7_cellOf_34 (by decide) ?_
      refine q_SR (As := [.int v3, .int (nI 0), .int (nI 5)]) (rest := []) ⟨xE, xB, xM, xO, xT⟩ (kX7_in l G v3 (nI 0) (nI 5)) (va_cwS 3 xT gX7_cellOf_X7_in rfl rfl rfl (by decide +kernel) ⟨Nat.le_of_ble_eq_true rfl, Nat.le_of_ble_eq_true rfl⟩) xK xP [] rfl rfl xL.1 rfl (Nat.le_of_ble_eq_true rfl) dX7_cellOf_35 ⟨Nat.le_refl _, Nat.le_refl _⟩ (fun r_35 h_35 => ?_)
      rcases h_35 with ⟨h_35, c_35⟩ | ⟨h_35, c_35⟩
      · skip
        subst h_35
        have c_35 : ((nI 0) : Int32).toInt ≤ v3.toInt ∧ v3.toInt ≤ ((nI 5) : Int32).toInt := c_35
        refine lv_if_ne (tgt := 44) xE xB dX7_cellOf_38 (by decide) (fun _ => ?_) (fun h9 => absurd h9 (by decide))
        (try (first | replace c_10 := (in_R (by omega) (by omega)).mp c_10 | replace c_10 := mt (in_R (by omega) (by omega)).mpr c_10)); (try (first | replace c_26 := (in_R (by omega) (by omega)).mp c_26 | replace c_26 := mt (in_R (by omega) (by omega)).mpr c_26)); (try (first | replace c_35 := (in_R (by omega) (by omega)).mp c_35 | replace c_35 := mt (in_R (by omega) (by omega)).mpr c_35))
        have e_v1 : v1 = nI (tN v1) := tN_eq (by omega)
        have b_v1 : (tN v1 : Int) = v1.toInt := tN_z (by omega)
        rw [e_v1] at xL
        have xL : lv_has ls 5 [(0, .ref r.1), (1, .int (nI (tN v1))), (2, .int v2), (3, .int v3)] := xL
        have e_v2 : v2 = nI (tN v2) := tN_eq (by omega)
        have b_v2 : (tN v2 : Int) = v2.toInt := tN_z (by omega)
        rw [e_v2] at xL
        have xL : lv_has ls 5 [(0, .ref r.1), (1, .int (nI (tN v1))), (2, .int (nI (tN v2))), (3, .int v3)] := xL
        refine lv_iload_n xE xB dX7_cellOf_44 rfl (lv_at xL 3 rfl) ?_
        refine lv_iconst (v := nI 3) xE xB dX7_cellOf_45 (by decide) ?_
        refine lv_icmp_eq (tgt := 54) xE xB dX7_cellOf_46 (by decide) (fun c_46 => ?_) (fun c_46 => ?_)
        · skip
          refine lv_iload_n xE xB dX7_cellOf_54 rfl (lv_at xL 3 rfl) ?_
          refine lv_iconst (v := nI 3) xE xB dX7_cellOf_55 (by decide) ?_
          refine lv_icmp_ne (tgt := 67) xE xB dX7_cellOf_56 (by decide) (fun c_56 => ?_) (fun c_56 => ?_)
          · skip
            refine lv_aload_n xE xB dX7_cellOf_67 rfl (lv_at xL 0 rfl) ?_
            refine lv_iload_n xE xB dX7_cellOf_68 rfl (lv_at xL 1 rfl) ?_
            refine lv_iload_n xE xB dX7_cellOf_69 rfl (lv_at xL 2 rfl) ?_
            refine q_VR (As := [.int (nI (tN v1)), .int (nI (tN v2))]) (rest := []) ⟨xE, xB, xM, xO, xT⟩ (kX7_faultOf l G r s P U p X y q0 q1 q2 q3 sp re B wd hg ow n o lr lc rc (tN v1) (tN v2) (by exact hD) (by omega) (by omega)) (cwV 2 xT gX7_cellOf_X7_faultOf rfl rfl rfl (by decide +kernel) ⟨Nat.le_of_ble_eq_true rfl, Nat.le_of_ble_eq_true rfl⟩) xK xP [0, 1, 2, 3, 4, 5] rfl 0 rfl rfl rfl rfl xL.1 rfl (Nat.le_of_ble_eq_true rfl) dX7_cellOf_70 ⟨Nat.le_refl _, Nat.le_refl _⟩ (fun r_70 h_70 => ?_)
            obtain rfl : r_70 = kdF o (tN v1) (tN v2) s := h_70
            exact xQ _ _ _ (by (try (first | replace c_46 := ti_neg c_46 | replace c_46 := ti_nneg c_46 | replace c_46 := ti_lt c_46 | replace c_46 := ti_nlt c_46 | replace c_46 := ti_gt c_46 | replace c_46 := ti_ngt c_46 | replace c_46 := ti_le c_46 | replace c_46 := ti_nle c_46 | replace c_46 := ti_ge c_46 | replace c_46 := ti_nge c_46 | replace c_46 := ti_z c_46 | replace c_46 := ti_nz c_46 | replace c_46 := ti_eq c_46 | replace c_46 := ti_ne c_46)); (try (first | replace c_51 := ti_neg c_51 | replace c_51 := ti_nneg c_51 | replace c_51 := ti_lt c_51 | replace c_51 := ti_nlt c_51 | replace c_51 := ti_gt c_51 | replace c_51 := ti_ngt c_51 | replace c_51 := ti_le c_51 | replace c_51 := ti_nle c_51 | replace c_51 := ti_ge c_51 | replace c_51 := ti_nge c_51 | replace c_51 := ti_z c_51 | replace c_51 := ti_nz c_51 | replace c_51 := ti_eq c_51 | replace c_51 := ti_ne c_51)); (try (first | replace c_56 := ti_neg c_56 | replace c_56 := ti_nneg c_56 | replace c_56 := ti_lt c_56 | replace c_56 := ti_nlt c_56 | replace c_56 := ti_gt c_56 | replace c_56 := ti_ngt c_56 | replace c_56 := ti_le c_56 | replace c_56 := ti_nle c_56 | replace c_56 := ti_ge c_56 | replace c_56 := ti_nge c_56 | replace c_56 := ti_z c_56 | replace c_56 := ti_nz c_56 | replace c_56 := ti_eq c_56 | replace c_56 := ti_ne c_56)); first | (exfalso; omega) | exact ((if_pos (by omega)).trans (if_pos (by omega))).symm | exact ((if_pos (by omega)).trans ((if_neg (by omega)).trans (if_pos (by omega)))).symm) dX7_cellOf_73
          · skip
            refine lv_aload_n xE xB dX7_cellOf_59 rfl (lv_at xL 0 rfl) ?_
            refine lv_iload_n xE xB dX7_cellOf_60 rfl (lv_at xL 2 rfl) ?_
            refine q_VR (As := [.int (nI (tN v2))]) (rest := []) ⟨xE, xB, xM, xO, xT⟩ (kX7_placeOf l G r s P U p X y q0 q1 q2 q3 sp re B wd hg ow n o lr lc rc (tN v2) (by exact hD) (by omega)) (cwV 1 xT gX7_cellOf_X7_placeOf rfl rfl rfl (by decide +kernel) ⟨Nat.le_of_ble_eq_true rfl, Nat.le_of_ble_eq_true rfl⟩) xK xP [0, 1, 2, 3, 4, 5] rfl 0 rfl rfl rfl rfl xL.1 rfl (Nat.le_of_ble_eq_true rfl) dX7_cellOf_61 ⟨Nat.le_refl _, Nat.le_refl _⟩ (fun r_61 h_61 => ?_)
            obtain rfl : r_61 = nI (if (tN v2) < o then (tN v2) else (tN v2) + 1) := h_61
            refine lv_goto (tgt := 73) xE xB dX7_cellOf_64 (by decide) ?_
            exact xQ _ _ _ (by (try (first | replace c_46 := ti_neg c_46 | replace c_46 := ti_nneg c_46 | replace c_46 := ti_lt c_46 | replace c_46 := ti_nlt c_46 | replace c_46 := ti_gt c_46 | replace c_46 := ti_ngt c_46 | replace c_46 := ti_le c_46 | replace c_46 := ti_nle c_46 | replace c_46 := ti_ge c_46 | replace c_46 := ti_nge c_46 | replace c_46 := ti_z c_46 | replace c_46 := ti_nz c_46 | replace c_46 := ti_eq c_46 | replace c_46 := ti_ne c_46)); (try (first | replace c_51 := ti_neg c_51 | replace c_51 := ti_nneg c_51 | replace c_51 := ti_lt c_51 | replace c_51 := ti_nlt c_51 | replace c_51 := ti_gt c_51 | replace c_51 := ti_ngt c_51 | replace c_51 := ti_le c_51 | replace c_51 := ti_nle c_51 | replace c_51 := ti_ge c_51 | replace c_51 := ti_nge c_51 | replace c_51 := ti_z c_51 | replace c_51 := ti_nz c_51 | replace c_51 := ti_eq c_51 | replace c_51 := ti_ne c_51)); (try (first | replace c_56 := ti_neg c_56 | replace c_56 := ti_nneg c_56 | replace c_56 := ti_lt c_56 | replace c_56 := ti_nlt c_56 | replace c_56 := ti_gt c_56 | replace c_56 := ti_ngt c_56 | replace c_56 := ti_le c_56 | replace c_56 := ti_nle c_56 | replace c_56 := ti_ge c_56 | replace c_56 := ti_nge c_56 | replace c_56 := ti_z c_56 | replace c_56 := ti_nz c_56 | replace c_56 := ti_eq c_56 | replace c_56 := ti_ne c_56)); first | (exfalso; omega) | exact ((if_pos (by omega)).trans (if_pos (by omega))).symm | exact ((if_pos (by omega)).trans ((if_neg (by omega)).trans (if_pos (by omega)))).symm) dX7_cellOf_73
        · skip
          refine lv_iload_n xE xB dX7_cellOf_49 rfl (lv_at xL 3 rfl) ?_
          refine lv_iconst (v := nI 4) xE xB dX7_cellOf_50 (by decide) ?_
          refine lv_icmp_ne (tgt := 74) xE xB dX7_cellOf_51 (by decide) (fun c_51 => ?_) (fun c_51 => ?_)
          · skip
            refine lv_aload_n xE xB dX7_cellOf_74 rfl (lv_at xL 0 rfl) ?_
            refine va_get (D := G.1) (ci := 7) (v := .ref r.2.1) (C := RX7) (T := TX7) (N := 16) xE xB xT khX7_cellOf_X7 xO xK.1 xP 0 rfl rfl 0 (by decide) (xT _ kX7_cellOf_f7) (fun _ h9 => h9) rfl dX7_cellOf_75 ?_
            refine lv_iconst (v := nI 5) xE xB dX7_cellOf_78 (by decide) ?_
            refine q_ald xE xB xK xP 1 rfl (by omega) (by decide) dX7_cellOf_79 ?_
            refine q_eq (y := nI b) (congrArg (fun z => z) (hb.2)) ?_
            refine q_if_ne (tgt := 86) xE xB dX7_cellOf_80 (by decide) (by omega) (fun c_80 => ?_) (fun c_80 => ?_)
            · skip
              refine lv_iload_n xE xB dX7_cellOf_86 rfl (lv_at xL 1 rfl) ?_
              refine lv_iload_n xE xB dX7_cellOf_87 rfl (lv_at xL 2 rfl) ?_
              refine q_SR (As := [.int (nI (tN v1)), .int (nI (tN v2))]) (rest := []) ⟨xE, xB, xM, xO, xT⟩ (kX7_cell l G (tN v1) (tN v2)) (va_cwS 2 xT gX7_cellOf_X7_cell rfl rfl rfl (by decide +kernel) ⟨Nat.le_of_ble_eq_true rfl, Nat.le_of_ble_eq_true rfl⟩) xK xP [] rfl rfl xL.1 rfl (Nat.le_of_ble_eq_true rfl) dX7_cellOf_88 ⟨Nat.le_refl _, Nat.le_refl _⟩ (fun r_88 h_88 => ?_)
              obtain rfl : r_88 = nI (173 + 24 * (tN v1) + 6 * (tN v2)) := h_88
              refine lv_istore (lv' := [(4, .int (nI (173 + 24 * (tN v1) + 6 * (tN v2)))), (0, .ref r.1), (1, .int (nI (tN v1))), (2, .int (nI (tN v2))), (3, .int v3)]) xE xB dX7_cellOf_91 xL (by decide) rfl (fun ls xL => ?_)
              refine lv_iload_n xE xB dX7_cellOf_93 rfl (lv_at xL 4 rfl) ?_
              by_cases e_0 : v3 = nI 0
              · skip
                subst e_0
                refine lv_tableIn (off := 26) (tgt := 120) xE xB dX7_cellOf_94 (by decide) (by decide) (by decide) (by decide) ?_
                refine lv_aload_n xE xB dX7_cellOf_120 rfl (lv_at xL 1 rfl) ?_
                refine va_get (D := G.1) (ci := 7) (v := .ref r.2.1) (C := RX7) (T := TX7) (N := 16) xE xB xT khX7_cellOf_X7 xO xK.1 xP 0 rfl rfl 0 (by decide) (xT _ kX7_cellOf_f7) (fun _ h9 => h9) rfl dX7_cellOf_121 ?_
                refine lv_iload xE xB dX7_cellOf_124 (lv_at xL 0 rfl) ?_
                refine lv_iconst (v := nI 0) xE xB dX7_cellOf_126 (by decide) ?_
                refine q_iadd xE xB dX7_cellOf_127 ?_
                refine q_eq (y := nI (173 + 24 * tN v1 + 6 * tN v2)) (rfl) ?_
                refine q_ald xE xB xK xP 1 rfl (by omega) (by decide) dX7_cellOf_128 ?_
                exact xQ _ _ _ (by (try (first | replace c_46 := ti_neg c_46 | replace c_46 := ti_nneg c_46 | replace c_46 := ti_lt c_46 | replace c_46 := ti_nlt c_46 | replace c_46 := ti_gt c_46 | replace c_46 := ti_ngt c_46 | replace c_46 := ti_le c_46 | replace c_46 := ti_nle c_46 | replace c_46 := ti_ge c_46 | replace c_46 := ti_nge c_46 | replace c_46 := ti_z c_46 | replace c_46 := ti_nz c_46 | replace c_46 := ti_eq c_46 | replace c_46 := ti_ne c_46)); (try (first | replace c_51 := ti_neg c_51 | replace c_51 := ti_nneg c_51 | replace c_51 := ti_lt c_51 | replace c_51 := ti_nlt c_51 | replace c_51 := ti_gt c_51 | replace c_51 := ti_ngt c_51 | replace c_51 := ti_le c_51 | replace c_51 := ti_nle c_51 | replace c_51 := ti_ge c_51 | replace c_51 := ti_nge c_51 | replace c_51 := ti_z c_51 | replace c_51 := ti_nz c_51 | replace c_51 := ti_eq c_51 | replace c_51 := ti_ne c_51)); have z9 : (nI 0).toInt = 0 := (by decide); exact ((if_pos (by omega)).trans ((if_neg (by omega)).trans ((if_neg (by omega)).trans ((if_neg (by omega)).trans (if_pos (by omega)))))).symm) dX7_cellOf_129
              by_cases e_1 : v3 = nI 1
              · skip
                subst e_1
                refine lv_tableIn (off := 36) (tgt := 130) xE xB dX7_cellOf_94 (by decide) (by decide) (by decide) (by decide) ?_
                refine lv_aload_n xE xB dX7_cellOf_130 rfl (lv_at xL 1 rfl) ?_
                refine va_get (D := G.1) (ci := 7) (v := .ref r.2.1) (C := RX7) (T := TX7) (N := 16) xE xB xT khX7_cellOf_X7 xO xK.1 xP 0 rfl rfl 0 (by decide) (xT _ kX7_cellOf_f7) (fun _ h9 => h9) rfl dX7_cellOf_131 ?_
                refine lv_iload xE xB dX7_cellOf_134 (lv_at xL 0 rfl) ?_
                refine lv_iconst (v := nI 1) xE xB dX7_cellOf_136 (by decide) ?_
                refine q_iadd xE xB dX7_cellOf_137 ?_
                refine q_ald xE xB xK xP 1 rfl (by omega) (by decide) dX7_cellOf_138 ?_
                refine lv_iconst (v := nI 1) xE xB dX7_cellOf_139 (by decide) ?_
                refine lv_icmp_ne (tgt := 155) xE xB dX7_cellOf_140 (by decide) (fun c_140 => ?_) (fun c_140 => ?_)
                · skip
                  refine lv_ldc (v := (-1000004)) xE xB xO (xT _ kX7_cellOf_c117) dX7_cellOf_155 ?_
                  exact xQ _ _ _ (by (try (first | replace c_46 := ti_neg c_46 | replace c_46 := ti_nneg c_46 | replace c_46 := ti_lt c_46 | replace c_46 := ti_nlt c_46 | replace c_46 := ti_gt c_46 | replace c_46 := ti_ngt c_46 | replace c_46 := ti_le c_46 | replace c_46 := ti_nle c_46 | replace c_46 := ti_ge c_46 | replace c_46 := ti_nge c_46 | replace c_46 := ti_z c_46 | replace c_46 := ti_nz c_46 | replace c_46 := ti_eq c_46 | replace c_46 := ti_ne c_46)); (try (first | replace c_51 := ti_neg c_51 | replace c_51 := ti_nneg c_51 | replace c_51 := ti_lt c_51 | replace c_51 := ti_nlt c_51 | replace c_51 := ti_gt c_51 | replace c_51 := ti_ngt c_51 | replace c_51 := ti_le c_51 | replace c_51 := ti_nle c_51 | replace c_51 := ti_ge c_51 | replace c_51 := ti_nge c_51 | replace c_51 := ti_z c_51 | replace c_51 := ti_nz c_51 | replace c_51 := ti_eq c_51 | replace c_51 := ti_ne c_51)); have z9 : (nI 1).toInt = 1 := (by decide); first | exact ((if_pos (by omega)).trans ((if_neg (by omega)).trans ((if_neg (by omega)).trans ((if_neg (by omega)).trans ((if_neg (by omega)).trans ((if_pos (by omega)).trans (if_pos c_140))))))).symm | exact ((if_pos (by omega)).trans ((if_neg (by omega)).trans ((if_neg (by omega)).trans ((if_neg (by omega)).trans ((if_neg (by omega)).trans ((if_pos (by omega)).trans (if_neg c_140))))))).symm) dX7_cellOf_157
                · skip
                  refine lv_aload_n xE xB dX7_cellOf_143 rfl (lv_at xL 1 rfl) ?_
                  refine va_get (D := G.1) (ci := 7) (v := .ref r.2.1) (C := RX7) (T := TX7) (N := 16) xE xB xT khX7_cellOf_X7 xO xK.1 xP 0 rfl rfl 0 (by decide) (xT _ kX7_cellOf_f7) (fun _ h9 => h9) rfl dX7_cellOf_144 ?_
                  refine lv_iload xE xB dX7_cellOf_147 (lv_at xL 0 rfl) ?_
                  refine lv_iconst (v := nI 2) xE xB dX7_cellOf_149 (by decide) ?_
                  refine q_iadd xE xB dX7_cellOf_150 ?_
                  refine q_ald xE xB xK xP 1 rfl (by omega) (by decide) dX7_cellOf_151 ?_
                  refine lv_goto (tgt := 157) xE xB dX7_cellOf_152 (by decide) ?_
                  exact xQ _ _ _ (by (try (first | replace c_46 := ti_neg c_46 | replace c_46 := ti_nneg c_46 | replace c_46 := ti_lt c_46 | replace c_46 := ti_nlt c_46 | replace c_46 := ti_gt c_46 | replace c_46 := ti_ngt c_46 | replace c_46 := ti_le c_46 | replace c_46 := ti_nle c_46 | replace c_46 := ti_ge c_46 | replace c_46 := ti_nge c_46 | replace c_46 := ti_z c_46 | replace c_46 := ti_nz c_46 | replace c_46 := ti_eq c_46 | replace c_46 := ti_ne c_46)); (try (first | replace c_51 := ti_neg c_51 | replace c_51 := ti_nneg c_51 | replace c_51 := ti_lt c_51 | replace c_51 := ti_nlt c_51 | replace c_51 := ti_gt c_51 | replace c_51 := ti_ngt c_51 | replace c_51 := ti_le c_51 | replace c_51 := ti_nle c_51 | replace c_51 := ti_ge c_51 | replace c_51 := ti_nge c_51 | replace c_51 := ti_z c_51 | replace c_51 := ti_nz c_51 | replace c_51 := ti_eq c_51 | replace c_51 := ti_ne c_51)); have z9 : (nI 1).toInt = 1 := (by decide); first | exact ((if_pos (by omega)).trans ((if_neg (by omega)).trans ((if_neg (by omega)).trans ((if_neg (by omega)).trans ((if_neg (by omega)).trans ((if_pos (by omega)).trans (if_pos c_140))))))).symm | exact ((if_pos (by omega)).trans ((if_neg (by omega)).trans ((if_neg (by omega)).trans ((if_neg (by omega)).trans ((if_neg (by omega)).trans ((if_pos (by omega)).trans (if_neg c_140))))))).symm) dX7_cellOf_157
              by_cases e_2 : v3 = nI 2
              · skip
                subst e_2
                refine lv_tableIn (off := 64) (tgt := 158) xE xB dX7_cellOf_94 (by decide) (by decide) (by decide) (by decide) ?_
                refine lv_aload_n xE xB dX7_cellOf_158 rfl (lv_at xL 1 rfl) ?_
                refine va_get (D := G.1) (ci := 7) (v := .ref r.2.1) (C := RX7) (T := TX7) (N := 16) xE xB xT khX7_cellOf_X7 xO xK.1 xP 0 rfl rfl 0 (by decide) (xT _ kX7_cellOf_f7) (fun _ h9 => h9) rfl dX7_cellOf_159 ?_
                refine lv_iload xE xB dX7_cellOf_162 (lv_at xL 0 rfl) ?_
                refine lv_iconst (v := nI 3) xE xB dX7_cellOf_164 (by decide) ?_
                refine q_iadd xE xB dX7_cellOf_165 ?_
                refine q_ald xE xB xK xP 1 rfl (by omega) (by decide) dX7_cellOf_166 ?_
                refine lv_iconst (v := nI 1) xE xB dX7_cellOf_167 (by decide) ?_
                refine lv_icmp_ne (tgt := 183) xE xB dX7_cellOf_168 (by decide) (fun c_168 => ?_) (fun c_168 => ?_)
                · skip
                  refine lv_ldc (v := (-1000004)) xE xB xO (xT _ kX7_cellOf_c117) dX7_cellOf_183 ?_
                  exact xQ _ _ _ (by (try (first | replace c_46 := ti_neg c_46 | replace c_46 := ti_nneg c_46 | replace c_46 := ti_lt c_46 | replace c_46 := ti_nlt c_46 | replace c_46 := ti_gt c_46 | replace c_46 := ti_ngt c_46 | replace c_46 := ti_le c_46 | replace c_46 := ti_nle c_46 | replace c_46 := ti_ge c_46 | replace c_46 := ti_nge c_46 | replace c_46 := ti_z c_46 | replace c_46 := ti_nz c_46 | replace c_46 := ti_eq c_46 | replace c_46 := ti_ne c_46)); (try (first | replace c_51 := ti_neg c_51 | replace c_51 := ti_nneg c_51 | replace c_51 := ti_lt c_51 | replace c_51 := ti_nlt c_51 | replace c_51 := ti_gt c_51 | replace c_51 := ti_ngt c_51 | replace c_51 := ti_le c_51 | replace c_51 := ti_nle c_51 | replace c_51 := ti_ge c_51 | replace c_51 := ti_nge c_51 | replace c_51 := ti_z c_51 | replace c_51 := ti_nz c_51 | replace c_51 := ti_eq c_51 | replace c_51 := ti_ne c_51)); have z9 : (nI 2).toInt = 2 := (by decide); first | exact ((if_pos (by omega)).trans ((if_neg (by omega)).trans ((if_neg (by omega)).trans ((if_neg (by omega)).trans ((if_neg (by omega)).trans ((if_neg (by omega)).trans ((if_pos (by omega)).trans (if_pos c_168)))))))).symm | exact ((if_pos (by omega)).trans ((if_neg (by omega)).trans ((if_neg (by omega)).trans ((if_neg (by omega)).trans ((if_neg (by omega)).trans ((if_neg (by omega)).trans ((if_pos (by omega)).trans (if_neg c_168)))))))).symm) dX7_cellOf_185
                · skip
                  refine lv_aload_n xE xB dX7_cellOf_171 rfl (lv_at xL 1 rfl) ?_
                  refine va_get (D := G.1) (ci := 7) (v := .ref r.2.1) (C := RX7) (T := TX7) (N := 16) xE xB xT khX7_cellOf_X7 xO xK.1 xP 0 rfl rfl 0 (by decide) (xT _ kX7_cellOf_f7) (fun _ h9 => h9) rfl dX7_cellOf_172 ?_
                  refine lv_iload xE xB dX7_cellOf_175 (lv_at xL 0 rfl) ?_
                  refine lv_iconst (v := nI 4) xE xB dX7_cellOf_177 (by decide) ?_
                  refine q_iadd xE xB dX7_cellOf_178 ?_
                  refine q_ald xE xB xK xP 1 rfl (by omega) (by decide) dX7_cellOf_179 ?_
                  refine lv_goto (tgt := 185) xE xB dX7_cellOf_180 (by decide) ?_
                  exact xQ _ _ _ (by (try (first | replace c_46 := ti_neg c_46 | replace c_46 := ti_nneg c_46 | replace c_46 := ti_lt c_46 | replace c_46 := ti_nlt c_46 | replace c_46 := ti_gt c_46 | replace c_46 := ti_ngt c_46 | replace c_46 := ti_le c_46 | replace c_46 := ti_nle c_46 | replace c_46 := ti_ge c_46 | replace c_46 := ti_nge c_46 | replace c_46 := ti_z c_46 | replace c_46 := ti_nz c_46 | replace c_46 := ti_eq c_46 | replace c_46 := ti_ne c_46)); (try (first | replace c_51 := ti_neg c_51 | replace c_51 := ti_nneg c_51 | replace c_51 := ti_lt c_51 | replace c_51 := ti_nlt c_51 | replace c_51 := ti_gt c_51 | replace c_51 := ti_ngt c_51 | replace c_51 := ti_le c_51 | replace c_51 := ti_nle c_51 | replace c_51 := ti_ge c_51 | replace c_51 := ti_nge c_51 | replace c_51 := ti_z c_51 | replace c_51 := ti_nz c_51 | replace c_51 := ti_eq c_51 | replace c_51 := ti_ne c_51)); have z9 : (nI 2).toInt = 2 := (by decide); first | exact ((if_pos (by omega)).trans ((if_neg (by omega)).trans ((if_neg (by omega)).trans ((if_neg (by omega)).trans ((if_neg (by omega)).trans ((if_neg (by omega)).trans ((if_pos (by omega)).trans (if_pos c_168)))))))).symm | exact ((if_pos (by omega)).trans ((if_neg (by omega)).trans ((if_neg (by omega)).trans ((if_neg (by omega)).trans ((if_neg (by omega)).trans ((if_neg (by omega)).trans ((if_pos (by omega)).trans (if_neg c_168)))))))).symm) dX7_cellOf_185
              refine lv_tableOut (tgt := 186) xE xB dX7_cellOf_94 (q_tab2 e_0 e_1 e_2) (by decide) ?_
              refine lv_aload_n xE xB dX7_cellOf_186 rfl (lv_at xL 1 rfl) ?_
              refine va_get (D := G.1) (ci := 7) (v := .ref r.2.1) (C := RX7) (T := TX7) (N := 16) xE xB xT khX7_cellOf_X7 xO xK.1 xP 0 rfl rfl 0 (by decide) (xT _ kX7_cellOf_f7) (fun _ h9 => h9) rfl dX7_cellOf_187 ?_
              refine lv_iload xE xB dX7_cellOf_190 (lv_at xL 0 rfl) ?_
              refine lv_iconst (v := nI 5) xE xB dX7_cellOf_192 (by decide) ?_
              refine q_iadd xE xB dX7_cellOf_193 ?_
              refine q_ald xE xB xK xP 1 rfl (by omega) (by decide) dX7_cellOf_194 ?_
              exact xQ _ _ _ (by (try (first | replace c_46 := ti_neg c_46 | replace c_46 := ti_nneg c_46 | replace c_46 := ti_lt c_46 | replace c_46 := ti_nlt c_46 | replace c_46 := ti_gt c_46 | replace c_46 := ti_ngt c_46 | replace c_46 := ti_le c_46 | replace c_46 := ti_nle c_46 | replace c_46 := ti_ge c_46 | replace c_46 := ti_nge c_46 | replace c_46 := ti_z c_46 | replace c_46 := ti_nz c_46 | replace c_46 := ti_eq c_46 | replace c_46 := ti_ne c_46)); (try (first | replace c_51 := ti_neg c_51 | replace c_51 := ti_nneg c_51 | replace c_51 := ti_lt c_51 | replace c_51 := ti_nlt c_51 | replace c_51 := ti_gt c_51 | replace c_51 := ti_ngt c_51 | replace c_51 := ti_le c_51 | replace c_51 := ti_nle c_51 | replace c_51 := ti_ge c_51 | replace c_51 := ti_nge c_51 | replace c_51 := ti_z c_51 | replace c_51 := ti_nz c_51 | replace c_51 := ti_eq c_51 | replace c_51 := ti_ne c_51)); have y0 := ti_ne e_0; have y1 := ti_ne e_1; have y2 := ti_ne e_2; exact ((if_pos (by omega)).trans ((if_neg (by omega)).trans ((if_neg (by omega)).trans ((if_neg (by omega)).trans ((if_neg (by omega)).trans ((if_neg (by omega)).trans (if_neg (by omega)))))))).symm) dX7_cellOf_195
            · skip
              refine lv_ldc (v := (-1000002)) xE xB xO (xT _ kX7_cellOf_c58) dX7_cellOf_83 ?_
              exact xQ _ _ _ (by (try (first | replace c_46 := ti_neg c_46 | replace c_46 := ti_nneg c_46 | replace c_46 := ti_lt c_46 | replace c_46 := ti_nlt c_46 | replace c_46 := ti_gt c_46 | replace c_46 := ti_ngt c_46 | replace c_46 := ti_le c_46 | replace c_46 := ti_nle c_46 | replace c_46 := ti_ge c_46 | replace c_46 := ti_nge c_46 | replace c_46 := ti_z c_46 | replace c_46 := ti_nz c_46 | replace c_46 := ti_eq c_46 | replace c_46 := ti_ne c_46)); (try (first | replace c_51 := ti_neg c_51 | replace c_51 := ti_nneg c_51 | replace c_51 := ti_lt c_51 | replace c_51 := ti_nlt c_51 | replace c_51 := ti_gt c_51 | replace c_51 := ti_ngt c_51 | replace c_51 := ti_le c_51 | replace c_51 := ti_nle c_51 | replace c_51 := ti_ge c_51 | replace c_51 := ti_nge c_51 | replace c_51 := ti_z c_51 | replace c_51 := ti_nz c_51 | replace c_51 := ti_eq c_51 | replace c_51 := ti_ne c_51)); exact ((if_pos (by omega)).trans ((if_neg (by omega)).trans ((if_neg (by omega)).trans (if_pos (by omega))))).symm) dX7_cellOf_85
          · skip
            refine lv_iload_n xE xB dX7_cellOf_54 rfl (lv_at xL 3 rfl) ?_
            refine lv_iconst (v := nI 3) xE xB dX7_cellOf_55 (by decide) ?_
            refine lv_icmp_ne (tgt := 67) xE xB dX7_cellOf_56 (by decide) (fun c_56 => ?_) (fun c_56 => ?_)
            · skip
              refine lv_aload_n xE xB dX7_cellOf_67 rfl (lv_at xL 0 rfl) ?_
              refine lv_iload_n xE xB dX7_cellOf_68 rfl (lv_at xL 1 rfl) ?_
              refine lv_iload_n xE xB dX7_cellOf_69 rfl (lv_at xL 2 rfl) ?_
              refine q_VR (As := [.int (nI (tN v1)), .int (nI (tN v2))]) (rest := []) ⟨xE, xB, xM, xO, xT⟩ (kX7_faultOf l G r s P U p X y q0 q1 q2 q3 sp re B wd hg ow n o lr lc rc (tN v1) (tN v2) (by exact hD) (by omega) (by omega)) (cwV 2 xT gX7_cellOf_X7_faultOf rfl rfl rfl (by decide +kernel) ⟨Nat.le_of_ble_eq_true rfl, Nat.le_of_ble_eq_true rfl⟩) xK xP [0, 1, 2, 3, 4, 5] rfl 0 rfl rfl rfl rfl xL.1 rfl (Nat.le_of_ble_eq_true rfl) dX7_cellOf_70 ⟨Nat.le_refl _, Nat.le_refl _⟩ (fun r_70 h_70 => ?_)
              obtain rfl : r_70 = kdF o (tN v1) (tN v2) s := h_70
              exact xQ _ _ _ (by (try (first | replace c_46 := ti_neg c_46 | replace c_46 := ti_nneg c_46 | replace c_46 := ti_lt c_46 | replace c_46 := ti_nlt c_46 | replace c_46 := ti_gt c_46 | replace c_46 := ti_ngt c_46 | replace c_46 := ti_le c_46 | replace c_46 := ti_nle c_46 | replace c_46 := ti_ge c_46 | replace c_46 := ti_nge c_46 | replace c_46 := ti_z c_46 | replace c_46 := ti_nz c_46 | replace c_46 := ti_eq c_46 | replace c_46 := ti_ne c_46)); (try (first | replace c_51 := ti_neg c_51 | replace c_51 := ti_nneg c_51 | replace c_51 := ti_lt c_51 | replace c_51 := ti_nlt c_51 | replace c_51 := ti_gt c_51 | replace c_51 := ti_ngt c_51 | replace c_51 := ti_le c_51 | replace c_51 := ti_nle c_51 | replace c_51 := ti_ge c_51 | replace c_51 := ti_nge c_51 | replace c_51 := ti_z c_51 | replace c_51 := ti_nz c_51 | replace c_51 := ti_eq c_51 | replace c_51 := ti_ne c_51)); (try (first | replace c_56 := ti_neg c_56 | replace c_56 := ti_nneg c_56 | replace c_56 := ti_lt c_56 | replace c_56 := ti_nlt c_56 | replace c_56 := ti_gt c_56 | replace c_56 := ti_ngt c_56 | replace c_56 := ti_le c_56 | replace c_56 := ti_nle c_56 | replace c_56 := ti_ge c_56 | replace c_56 := ti_nge c_56 | replace c_56 := ti_z c_56 | replace c_56 := ti_nz c_56 | replace c_56 := ti_eq c_56 | replace c_56 := ti_ne c_56)); first | (exfalso; omega) | exact ((if_pos (by omega)).trans (if_pos (by omega))).symm | exact ((if_pos (by omega)).trans ((if_neg (by omega)).trans (if_pos (by omega)))).symm) dX7_cellOf_73
            · skip
              refine lv_aload_n xE xB dX7_cellOf_59 rfl (lv_at xL 0 rfl) ?_
              refine lv_iload_n xE xB dX7_cellOf_60 rfl (lv_at xL 2 rfl) ?_
              refine q_VR (As := [.int (nI (tN v2))]) (rest := []) ⟨xE, xB, xM, xO, xT⟩ (kX7_placeOf l G r s P U p X y q0 q1 q2 q3 sp re B wd hg ow n o lr lc rc (tN v2) (by exact hD) (by omega)) (cwV 1 xT gX7_cellOf_X7_placeOf rfl rfl rfl (by decide +kernel) ⟨Nat.le_of_ble_eq_true rfl, Nat.le_of_ble_eq_true rfl⟩) xK xP [0, 1, 2, 3, 4, 5] rfl 0 rfl rfl rfl rfl xL.1 rfl (Nat.le_of_ble_eq_true rfl) dX7_cellOf_61 ⟨Nat.le_refl _, Nat.le_refl _⟩ (fun r_61 h_61 => ?_)
              obtain rfl : r_61 = nI (if (tN v2) < o then (tN v2) else (tN v2) + 1) := h_61
              refine lv_goto (tgt := 73) xE xB dX7_cellOf_64 (by decide) ?_
              exact xQ _ _ _ (by (try (first | replace c_46 := ti_neg c_46 | replace c_46 := ti_nneg c_46 | replace c_46 := ti_lt c_46 | replace c_46 := ti_nlt c_46 | replace c_46 := ti_gt c_46 | replace c_46 := ti_ngt c_46 | replace c_46 := ti_le c_46 | replace c_46 := ti_nle c_46 | replace c_46 := ti_ge c_46 | replace c_46 := ti_nge c_46 | replace c_46 := ti_z c_46 | replace c_46 := ti_nz c_46 | replace c_46 := ti_eq c_46 | replace c_46 := ti_ne c_46)); (try (first | replace c_51 := ti_neg c_51 | replace c_51 := ti_nneg c_51 | replace c_51 := ti_lt c_51 | replace c_51 := ti_nlt c_51 | replace c_51 := ti_gt c_51 | replace c_51 := ti_ngt c_51 | replace c_51 := ti_le c_51 | replace c_51 := ti_nle c_51 | replace c_51 := ti_ge c_51 | replace c_51 := ti_nge c_51 | replace c_51 := ti_z c_51 | replace c_51 := ti_nz c_51 | replace c_51 := ti_eq c_51 | replace c_51 := ti_ne c_51)); (try (first | replace c_56 := ti_neg c_56 | replace c_56 := ti_nneg c_56 | replace c_56 := ti_lt c_56 | replace c_56 := ti_nlt c_56 | replace c_56 := ti_gt c_56 | replace c_56 := ti_ngt c_56 | replace c_56 := ti_le c_56 | replace c_56 := ti_nle c_56 | replace c_56 := ti_ge c_56 | replace c_56 := ti_nge c_56 | replace c_56 := ti_z c_56 | replace c_56 := ti_nz c_56 | replace c_56 := ti_eq c_56 | replace c_56 := ti_ne c_56)); first | (exfalso; omega) | exact ((if_pos (by omega)).trans (if_pos (by omega))).symm | exact ((if_pos (by omega)).trans ((if_neg (by omega)).trans (if_pos (by omega)))).symm) dX7_cellOf_73
      · skip
        subst h_35
        have c_35 : ¬ (((nI 0) : Int32).toInt ≤ v3.toInt ∧ v3.toInt ≤ ((nI 5) : Int32).toInt) := c_35
        refine lv_if_ne (tgt := 44) xE xB dX7_cellOf_38 (by decide) (fun h9 => absurd (by decide) h9) (fun _ => ?_)
        refine lv_ldc (v := (-1000001)) xE xB xO (xT _ kX7_cellOf_c37) dX7_cellOf_41 ?_
        exact xQ _ _ _ (by (try (first | replace c_10 := (in_R (by omega) (by omega)).mp c_10 | replace c_10 := mt (in_R (by omega) (by omega)).mpr c_10)); (try (first | replace c_26 := (in_R (by omega) (by omega)).mp c_26 | replace c_26 := mt (in_R (by omega) (by omega)).mpr c_26)); (try (first | replace c_35 := (in_R (by omega) (by omega)).mp c_35 | replace c_35 := mt (in_R (by omega) (by omega)).mpr c_35)); exact (if_neg (by omega)).symm) dX7_cellOf_43
    · skip
      subst h_26
      have c_26 : ¬ (((nI 0) : Int32).toInt ≤ v2.toInt ∧ v2.toInt ≤ ((nI (n - 1)) : Int32).toInt) := c_26
      refine lv_if_eq (tgt := 41) xE xB dX7_cellOf_29 (by decide) (fun _ => ?_) (fun h9 => absurd (by decide) h9)
      refine lv_ldc (v := (-1000001)) xE xB xO (xT _ kX7_cellOf_c37) dX7_cellOf_41 ?_
      exact xQ _ _ _ (by (try (first | replace c_10 := (in_R (by omega) (by omega)).mp c_10 | replace c_10 := mt (in_R (by omega) (by omega)).mpr c_10)); (try (first | replace c_26 := (in_R (by omega) (by omega)).mp c_26 | replace c_26 := mt (in_R (by omega) (by omega)).mpr c_26)); (try (first | replace c_35 := (in_R (by omega) (by omega)).mp c_35 | replace c_35 := mt (in_R (by omega) (by omega)).mpr c_35)); exact (if_neg (by omega)).symm) dX7_cellOf_43
  · skip
    subst h_10
    have c_10 : ¬ (((nI 0) : Int32).toInt ≤ v1.toInt ∧ v1.toInt ≤ ((nI (n - 1)) : Int32).toInt) := c_10
    refine lv_if_eq (tgt := 41) xE xB dX7_cellOf_13 (by decide) (fun _ => ?_) (fun h9 => absurd (by decide) h9)
    refine lv_ldc (v := (-1000001)) xE xB xO (xT _ kX7_cellOf_c37) dX7_cellOf_41 ?_
    exact xQ _ _ _ (by (try (first | replace c_10 := (in_R (by omega) (by omega)).mp c_10 | replace c_10 := mt (in_R (by omega) (by omega)).mpr c_10)); (try (first | replace c_26 := (in_R (by omega) (by omega)).mp c_26 | replace c_26 := mt (in_R (by omega) (by omega)).mpr c_26)); (try (first | replace c_35 := (in_R (by omega) (by omega)).mp c_35 | replace c_35 := mt (in_R (by omega) (by omega)).mpr c_35)); exact (if_neg (by omega)).symm) dX7_cellOf_43
theorem kX7_result_c117 : Cond.constant RX7 117 (-1000004) ∈ wsX7_result := by decide +kernel
theorem kX7_result_c37 : Cond.constant RX7 37 (-1000001) ∈ wsX7_result := by decide +kernel
theorem kX7_result_f7 : Cond.fieldLink RX7 7 "SkewedSquareModel" "s" "[I" ∈ wsX7_result := by decide +kernel
theorem khX7_result_X7 : ∀ w ∈ u_ws RX7 TX7 16, w ∈ wsX7_result := by decide +kernel
set_option maxHeartbeats 4000000 in
set_option maxRecDepth 100000 in
/-- kX7_result -/
theorem kX7_result (l : Launch) (G : wG) (r : RA) (s P U : wF) (p : Nat) (X : wF) (y q0 : Nat) (q1 : Int32) (q2 : Nat) (q3 : Int32) (sp re : Nat) (B : wF) (wd hg ow : Nat) (n o lr lc rc : Nat) (v1 v2 v3 : Int32) (hD : RelD n o lr lc rc s) : CR l yX7_result wsX7_result (rm 1 24) G [.ref r.1, .int v1, .int v2, .int v3] (wU G r (s, P, U, p, X, y, q0, q1, q2, q3, sp, re, B, wd, hg, ow)) (fun x => x = reA lr lc rc v1 v2 v3 s) := by
  refine CR.of (own := RX7) rfl (by decide) rfl (Nat.le_of_ble_eq_true rfl) ?_
  intro p9 e9 s9 m9 b9 t9 c9 xE xB xM xO xT xK xP Q xQ ls hl
  have xL : lv_has ls 4 [(0, .ref r.1), (1, .int v1), (2, .int v2), (3, .int v3)] := hl
  obtain ⟨g0, g1, g2, g3, g4, ⟨hn1, hn2, hn3⟩, hm1, hm2, hm3, hm4, hm5, hm6⟩ := id hD
  refine lv_iload_n xE xB dX7_result_0 rfl (lv_at xL 1 rfl) ?_
  refine lv_iconst (v := nI 0) xE xB dX7_result_1 (by decide) ?_
  refine lv_aload_n xE xB dX7_result_2 rfl (lv_at xL 0 rfl) ?_
  refine va_get (D := G.1) (ci := 7) (v := .ref r.2.1) (C := RX7) (T := TX7) (N := 16) xE xB xT khX7_result_X7 xO xK.1 xP 0 rfl rfl 0 (by decide) (xT _ kX7_result_f7) (fun _ h9 => h9) rfl dX7_result_3 ?_
  refine lv_iconst (v := nI 1) xE xB dX7_result_6 (by decide) ?_
  refine q_ald xE xB xK xP 1 rfl (by omega) (by decide) dX7_result_7 ?_
  refine q_eq (y := nI lr) (congrArg (fun z => z) (g1)) ?_
  refine lv_iconst (v := nI 1) xE xB dX7_result_8 (by decide) ?_
  refine q_isub xE xB dX7_result_9 (by omega) ?_
  refine q_SR (As := [.int v1, .int (nI 0), .int (nI (lr - 1))]) (rest := []) ⟨xE, xB, xM, xO, xT⟩ (kX7_in l G v1 (nI 0) (nI (lr - 1))) (va_cwS 3 xT gX7_result_X7_in rfl rfl rfl (by decide +kernel) ⟨Nat.le_of_ble_eq_true rfl, Nat.le_of_ble_eq_true rfl⟩) xK xP [] rfl rfl xL.1 rfl (Nat.le_of_ble_eq_true rfl) dX7_result_10 ⟨Nat.le_refl _, Nat.le_refl _⟩ (fun r_10 h_10 => ?_)
  rcases h_10 with ⟨h_10, c_10⟩ | ⟨h_10, c_10⟩
  · skip
    subst h_10
    have c_10 : ((nI 0) : Int32).toInt ≤ v1.toInt ∧ v1.toInt ≤ ((nI (lr - 1)) : Int32).toInt := c_10
    refine lv_if_eq (tgt := 41) xE xB dX7_result_13 (by decide) (fun h9 => absurd h9 (by decide)) (fun _ => ?_)
    refine lv_iload_n xE xB dX7_result_16 rfl (lv_at xL 2 rfl) ?_
    refine lv_iconst (v := nI 0) xE xB dX7_result_17 (by decide) ?_
    refine lv_aload_n xE xB dX7_result_18 rfl (lv_at xL 0 rfl) ?_
    refine va_get (D := G.1) (ci := 7) (v := .ref r.2.1) (C := RX7) (T := TX7) (N := 16) xE xB xT khX7_result_X7 xO xK.1 xP 0 rfl rfl 0 (by decide) (xT _ kX7_result_f7) (fun _ h9 => h9) rfl dX7_result_19 ?_
    refine lv_iconst (v := nI 3) xE xB dX7_result_22 (by decide) ?_
    refine q_ald xE xB xK xP 1 rfl (by omega) (by decide) dX7_result_23 ?_
    refine q_eq (y := nI rc) (congrArg (fun z => z) (g3)) ?_
    refine lv_iconst (v := nI 1) xE xB dX7_result_24 (by decide) ?_
    refine q_isub xE xB dX7_result_25 (by omega) ?_
    refine q_SR (As := [.int v2, .int (nI 0), .int (nI (rc - 1))]) (rest := []) ⟨xE, xB, xM, xO, xT⟩ (kX7_in l G v2 (nI 0) (nI (rc - 1))) (va_cwS 3 xT gX7_result_X7_in rfl rfl rfl (by decide +kernel) ⟨Nat.le_of_ble_eq_true rfl, Nat.le_of_ble_eq_true rfl⟩) xK xP [] rfl rfl xL.1 rfl (Nat.le_of_ble_eq_true rfl) dX7_result_26 ⟨Nat.le_refl _, Nat.le_refl _⟩ (fun r_26 h_26 => ?_)
    rcases h_26 with ⟨h_26, c_26⟩ | ⟨h_26, c_26⟩
    · skip
      subst h_26
      have c_26 : ((nI 0) : Int32).toInt ≤ v2.toInt ∧ v2.toInt ≤ ((nI (rc - 1)) : Int32).toInt := c_26
      refine lv_if_eq (tgt := 41) xE xB dX7_result_29 (by decide) (fun h9 => absurd h9 (by decide)) (fun _ => ?_)
      refine lv_iload_n xE xB dX7_result_32 rfl (lv_at xL 3 rfl) ?_
      refine lv_iconst (v := nI 0) xE xB dX7_result_33 (by decide) ?_
      refine lv_iconst (v := nI 1) xE xB dX7_result_34 (by decide) ?_
      refine q_SR (As := [.int v3, .int (nI 0), .int (nI 1)]) (rest := []) ⟨xE, xB, xM, xO, xT⟩ (kX7_in l G v3 (nI 0) (nI 1)) (va_cwS 3 xT gX7_result_X7_in rfl rfl rfl (by decide +kernel) ⟨Nat.le_of_ble_eq_true rfl, Nat.le_of_ble_eq_true rfl⟩) xK xP [] rfl rfl xL.1 rfl (Nat.le_of_ble_eq_true rfl) dX7_result_35 ⟨Nat.le_refl _, Nat.le_refl _⟩ (fun r_35 h_35 => ?_)
      rcases h_35 with ⟨h_35, c_35⟩ | ⟨h_35, c_35⟩
      · skip
        subst h_35
        have c_35 : ((nI 0) : Int32).toInt ≤ v3.toInt ∧ v3.toInt ≤ ((nI 1) : Int32).toInt := c_35
        refine lv_if_ne (tgt := 44) xE xB dX7_result_38 (by decide) (fun _ => ?_) (fun h9 => absurd h9 (by decide))
        (try (first | replace c_10 := (in_R (by omega) (by omega)).mp c_10 | replace c_10 := mt (in_R (by omega) (by omega)).mpr c_10)); (try (first | replace c_26 := (in_R (by omega) (by omega)).mp c_26 | replace c_26 := mt (in_R (by omega) (by omega)).mpr c_26)); (try (first | replace c_35 := (in_R (by omega) (by omega)).mp c_35 | replace c_35 := mt (in_R (by omega) (by omega)).mpr c_35))
        have e_v1 : v1 = nI (tN v1) := tN_eq (by omega)
        have b_v1 : (tN v1 : Int) = v1.toInt := tN_z (by omega)
        rw [e_v1] at xL
        have xL : lv_has ls 4 [(0, .ref r.1), (1, .int (nI (tN v1))), (2, .int v2), (3, .int v3)] := xL
        have e_v2 : v2 = nI (tN v2) := tN_eq (by omega)
        have b_v2 : (tN v2 : Int) = v2.toInt := tN_z (by omega)
        rw [e_v2] at xL
        have xL : lv_has ls 4 [(0, .ref r.1), (1, .int (nI (tN v1))), (2, .int (nI (tN v2))), (3, .int v3)] := xL
        refine lv_iload_n xE xB dX7_result_44 rfl (lv_at xL 3 rfl) ?_
        refine lv_iconst (v := nI 1) xE xB dX7_result_45 (by decide) ?_
        refine lv_icmp_ne (tgt := 58) xE xB dX7_result_46 (by decide) (fun c_46 => ?_) (fun c_46 => ?_)
        · skip
          refine lv_aload_n xE xB dX7_result_58 rfl (lv_at xL 0 rfl) ?_
          refine lv_iload_n xE xB dX7_result_59 rfl (lv_at xL 1 rfl) ?_
          refine lv_iload_n xE xB dX7_result_60 rfl (lv_at xL 2 rfl) ?_
          refine q_VR (As := [.int (nI (tN v1)), .int (nI (tN v2))]) (rest := []) ⟨xE, xB, xM, xO, xT⟩ (kX7_isKnown l G r s P U p X y q0 q1 q2 q3 sp re B wd hg ow n o lr lc rc (tN v1) (tN v2) (by exact hD) (by omega) (by omega)) (cwV 2 xT gX7_result_X7_isKnown rfl rfl rfl (by decide +kernel) ⟨Nat.le_of_ble_eq_true rfl, Nat.le_of_ble_eq_true rfl⟩) xK xP [0, 1, 2, 3, 4, 5] rfl 0 rfl rfl rfl rfl xL.1 rfl (Nat.le_of_ble_eq_true rfl) dX7_result_61 ⟨Nat.le_refl _, Nat.le_refl _⟩ (fun r_61 h_61 => ?_)
          rcases h_61 with ⟨h_61, c_61⟩ | ⟨h_61, c_61⟩
          · skip
            subst h_61
            have c_61 : s (117 + (6 * (tN v1) + (tN v2))) = nI 1 := c_61
            refine lv_if_eq (tgt := 84) xE xB dX7_result_64 (by decide) (fun h9 => absurd h9 (by decide)) (fun _ => ?_)
            refine lv_aload_n xE xB dX7_result_67 rfl (lv_at xL 0 rfl) ?_
            refine va_get (D := G.1) (ci := 7) (v := .ref r.2.1) (C := RX7) (T := TX7) (N := 16) xE xB xT khX7_result_X7 xO xK.1 xP 0 rfl rfl 0 (by decide) (xT _ kX7_result_f7) (fun _ h9 => h9) rfl dX7_result_68 ?_
            refine lv_bipush (v := nI 81) xE xB dX7_result_71 (by decide) ?_
            refine lv_bipush (v := nI 6) xE xB dX7_result_73 (by decide) ?_
            refine lv_iload_n xE xB dX7_result_75 rfl (lv_at xL 1 rfl) ?_
            refine q_imul xE xB dX7_result_76 ?_
            refine q_iadd xE xB dX7_result_77 ?_
            refine lv_iload_n xE xB dX7_result_78 rfl (lv_at xL 2 rfl) ?_
            refine q_iadd xE xB dX7_result_79 ?_
            refine q_eq (y := nI (81 + (6 * tN v1 + tN v2))) (congrArg nI (Nat.add_assoc _ _ _)) ?_
            refine q_ald xE xB xK xP 1 rfl (by omega) (by decide) dX7_result_80 ?_
            refine lv_goto (tgt := 86) xE xB dX7_result_81 (by decide) ?_
            exact xQ _ _ _ (by (try (first | replace c_46 := ti_neg c_46 | replace c_46 := ti_nneg c_46 | replace c_46 := ti_lt c_46 | replace c_46 := ti_nlt c_46 | replace c_46 := ti_gt c_46 | replace c_46 := ti_ngt c_46 | replace c_46 := ti_le c_46 | replace c_46 := ti_nle c_46 | replace c_46 := ti_ge c_46 | replace c_46 := ti_nge c_46 | replace c_46 := ti_z c_46 | replace c_46 := ti_nz c_46 | replace c_46 := ti_eq c_46 | replace c_46 := ti_ne c_46)); first | exact ((if_pos (by omega)).trans (if_pos (by omega))).symm | exact ((if_pos (by omega)).trans ((if_neg (by omega)).trans (if_pos c_61))).symm | exact ((if_pos (by omega)).trans ((if_neg (by omega)).trans (if_neg c_61))).symm) dX7_result_86
          · skip
            subst h_61
            have c_61 : ¬ (s (117 + (6 * (tN v1) + (tN v2))) = nI 1) := c_61
            refine lv_if_eq (tgt := 84) xE xB dX7_result_64 (by decide) (fun _ => ?_) (fun h9 => absurd (by decide) h9)
            refine lv_ldc (v := (-1000004)) xE xB xO (xT _ kX7_result_c117) dX7_result_84 ?_
            exact xQ _ _ _ (by (try (first | replace c_46 := ti_neg c_46 | replace c_46 := ti_nneg c_46 | replace c_46 := ti_lt c_46 | replace c_46 := ti_nlt c_46 | replace c_46 := ti_gt c_46 | replace c_46 := ti_ngt c_46 | replace c_46 := ti_le c_46 | replace c_46 := ti_nle c_46 | replace c_46 := ti_ge c_46 | replace c_46 := ti_nge c_46 | replace c_46 := ti_z c_46 | replace c_46 := ti_nz c_46 | replace c_46 := ti_eq c_46 | replace c_46 := ti_ne c_46)); first | exact ((if_pos (by omega)).trans (if_pos (by omega))).symm | exact ((if_pos (by omega)).trans ((if_neg (by omega)).trans (if_pos c_61))).symm | exact ((if_pos (by omega)).trans ((if_neg (by omega)).trans (if_neg c_61))).symm) dX7_result_86
        · skip
          refine lv_aload_n xE xB dX7_result_49 rfl (lv_at xL 0 rfl) ?_
          refine lv_iload_n xE xB dX7_result_50 rfl (lv_at xL 1 rfl) ?_
          refine lv_iload_n xE xB dX7_result_51 rfl (lv_at xL 2 rfl) ?_
          refine q_VR (As := [.int (nI (tN v1)), .int (nI (tN v2))]) (rest := []) ⟨xE, xB, xM, xO, xT⟩ (kX7_due l G r s P U p X y q0 q1 q2 q3 sp re B wd hg ow n o lr lc rc (tN v1) (tN v2) (by exact hD) (by omega) (by omega)) (cwV 2 xT gX7_result_X7_due rfl rfl rfl (by decide +kernel) ⟨Nat.le_of_ble_eq_true rfl, Nat.le_of_ble_eq_true rfl⟩) xK xP [0, 1, 2, 3, 4, 5] rfl 0 rfl rfl rfl rfl xL.1 rfl (Nat.le_of_ble_eq_true rfl) dX7_result_52 ⟨Nat.le_refl _, Nat.le_refl _⟩ (fun r_52 h_52 => ?_)
          obtain rfl : r_52 = dueF lc s (tN v1) (tN v2) := h_52
          refine lv_goto (tgt := 86) xE xB dX7_result_55 (by decide) ?_
          exact xQ _ _ _ (by (try (first | replace c_46 := ti_neg c_46 | replace c_46 := ti_nneg c_46 | replace c_46 := ti_lt c_46 | replace c_46 := ti_nlt c_46 | replace c_46 := ti_gt c_46 | replace c_46 := ti_ngt c_46 | replace c_46 := ti_le c_46 | replace c_46 := ti_nle c_46 | replace c_46 := ti_ge c_46 | replace c_46 := ti_nge c_46 | replace c_46 := ti_z c_46 | replace c_46 := ti_nz c_46 | replace c_46 := ti_eq c_46 | replace c_46 := ti_ne c_46)); first | exact ((if_pos (by omega)).trans (if_pos (by omega))).symm | exact ((if_pos (by omega)).trans ((if_neg (by omega)).trans (if_pos c_61))).symm | exact ((if_pos (by omega)).trans ((if_neg (by omega)).trans (if_neg c_61))).symm) dX7_result_86
      · skip
        subst h_35
        have c_35 : ¬ (((nI 0) : Int32).toInt ≤ v3.toInt ∧ v3.toInt ≤ ((nI 1) : Int32).toInt) := c_35
        refine lv_if_ne (tgt := 44) xE xB dX7_result_38 (by decide) (fun h9 => absurd (by decide) h9) (fun _ => ?_)
        refine lv_ldc (v := (-1000001)) xE xB xO (xT _ kX7_result_c37) dX7_result_41 ?_
        exact xQ _ _ _ (by (try (first | replace c_10 := (in_R (by omega) (by omega)).mp c_10 | replace c_10 := mt (in_R (by omega) (by omega)).mpr c_10)); (try (first | replace c_26 := (in_R (by omega) (by omega)).mp c_26 | replace c_26 := mt (in_R (by omega) (by omega)).mpr c_26)); (try (first | replace c_35 := (in_R (by omega) (by omega)).mp c_35 | replace c_35 := mt (in_R (by omega) (by omega)).mpr c_35)); exact (if_neg (by omega)).symm) dX7_result_43
    · skip
      subst h_26
      have c_26 : ¬ (((nI 0) : Int32).toInt ≤ v2.toInt ∧ v2.toInt ≤ ((nI (rc - 1)) : Int32).toInt) := c_26
      refine lv_if_eq (tgt := 41) xE xB dX7_result_29 (by decide) (fun _ => ?_) (fun h9 => absurd (by decide) h9)
      refine lv_ldc (v := (-1000001)) xE xB xO (xT _ kX7_result_c37) dX7_result_41 ?_
      exact xQ _ _ _ (by (try (first | replace c_10 := (in_R (by omega) (by omega)).mp c_10 | replace c_10 := mt (in_R (by omega) (by omega)).mpr c_10)); (try (first | replace c_26 := (in_R (by omega) (by omega)).mp c_26 | replace c_26 := mt (in_R (by omega) (by omega)).mpr c_26)); (try (first | replace c_35 := (in_R (by omega) (by omega)).mp c_35 | replace c_35 := mt (in_R (by omega) (by omega)).mpr c_35)); exact (if_neg (by omega)).symm) dX7_result_43
  · skip
    subst h_10
    have c_10 : ¬ (((nI 0) : Int32).toInt ≤ v1.toInt ∧ v1.toInt ≤ ((nI (lr - 1)) : Int32).toInt) := c_10
    refine lv_if_eq (tgt := 41) xE xB dX7_result_13 (by decide) (fun _ => ?_) (fun h9 => absurd (by decide) h9)
    refine lv_ldc (v := (-1000001)) xE xB xO (xT _ kX7_result_c37) dX7_result_41 ?_
    exact xQ _ _ _ (by (try (first | replace c_10 := (in_R (by omega) (by omega)).mp c_10 | replace c_10 := mt (in_R (by omega) (by omega)).mpr c_10)); (try (first | replace c_26 := (in_R (by omega) (by omega)).mp c_26 | replace c_26 := mt (in_R (by omega) (by omega)).mpr c_26)); (try (first | replace c_35 := (in_R (by omega) (by omega)).mp c_35 | replace c_35 := mt (in_R (by omega) (by omega)).mpr c_35)); exact (if_neg (by omega)).symm) dX7_result_43
theorem kX7_faulty_f7 : Cond.fieldLink RX7 7 "SkewedSquareModel" "s" "[I" ∈ wsX7_faulty := by decide +kernel
theorem khX7_faulty_X7 : ∀ w ∈ u_ws RX7 TX7 16, w ∈ wsX7_faulty := by decide +kernel
set_option maxHeartbeats 4000000 in
set_option maxRecDepth 100000 in
/-- kX7_faulty -/
theorem kX7_faulty (l : Launch) (G : wG) (r : RA) (s P U : wF) (p : Nat) (X : wF) (y q0 : Nat) (q1 : Int32) (q2 : Nat) (q3 : Int32) (sp re : Nat) (B : wF) (wd hg ow : Nat) (n o lr lc rc : Nat) (hD : RelD n o lr lc rc s) (hF : F04 s) : CR l yX7_faulty wsX7_faulty (rm 0 0) G [.ref r.1] (wU G r (s, P, U, p, X, y, q0, q1, q2, q3, sp, re, B, wd, hg, ow)) (fun x => x = nI (faN s)) := by
  refine CR.of (own := RX7) rfl (by decide) rfl (Nat.le_of_ble_eq_true rfl) ?_
  intro p9 e9 s9 m9 b9 t9 c9 xE xB xM xO xT xK xP Q xQ ls hl
  have xL : lv_has ls 3 [(0, .ref r.1)] := hl
  obtain ⟨g0, g1, g2, g3, g4, ⟨hn1, hn2, hn3⟩, hm1, hm2, hm3, hm4, hm5, hm6⟩ := id hD
  refine lv_iconst (v := nI 0) xE xB dX7_faulty_0 (by decide) ?_
  refine lv_istore_n (lv' := [(1, .int (nI 0)), (0, .ref r.1)]) xE xB dX7_faulty_1 rfl xL (by decide) rfl (fun ls xL => ?_)
  refine lv_iconst (v := nI 0) xE xB dX7_faulty_2 (by decide) ?_
  refine lv_istore_n (lv' := [(2, .int (nI 0)), (1, .int (nI 0)), (0, .ref r.1)]) xE xB dX7_faulty_3 rfl xL (by decide) rfl (fun ls xL => ?_)
  have L_4 : ∀ (n_4 : Nat) (i x : Nat), (i ≤ 20) → (x = ns (fun q => if s (153 + q) = nI 0 then 0 else 1) i) → 20 - i < n_4 → ∀ (ls : Array Slot), lv_has ls 3 [(0, .ref r.1), (1, .int (nI x)), (2, .int (nI i))] → W p9 l e9 (rm 0 0) s9 m9 ([.ref r.1] : List Value).toArray b9 t9 c9 s9.heap [] 0 0 Q (F0 m9 4 ls []) := by
    intro n_4
    induction n_4 with
    | zero => intro i x hi hx hm_4 ls xL; exact absurd hm_4 (Nat.not_lt_zero _)
    | succ n_4 ih_4 =>
      intro i x hi hx hm_4 ls xL
      refine lv_iload_n xE xB dX7_faulty_4 rfl (lv_at xL 2 rfl) ?_
      refine lv_bipush (v := nI 20) xE xB dX7_faulty_5 (by decide) ?_
      refine q_icmp_ge (tgt := 37) xE xB dX7_faulty_7 (by decide) (by omega) (by omega) (fun c_7 => ?_) (fun c_7 => ?_)
      · skip
        obtain rfl : i = 20 := by omega
        refine lv_iload_n xE xB dX7_faulty_37 rfl (lv_at xL 1 rfl) ?_
        exact xQ _ _ _ (by rw [hx]; exact congrArg nI (faS s)) dX7_faulty_38
      · skip
        refine lv_iload_n xE xB dX7_faulty_10 rfl (lv_at xL 1 rfl) ?_
        refine lv_aload_n xE xB dX7_faulty_11 rfl (lv_at xL 0 rfl) ?_
        refine va_get (D := G.1) (ci := 7) (v := .ref r.2.1) (C := RX7) (T := TX7) (N := 16) xE xB xT khX7_faulty_X7 xO xK.1 xP 0 rfl rfl 0 (by decide) (xT _ kX7_faulty_f7) (fun _ h9 => h9) rfl dX7_faulty_12 ?_
        refine lv_sipush (v := nI 153) xE xB dX7_faulty_15 (by decide) ?_
        refine lv_iload_n xE xB dX7_faulty_18 rfl (lv_at xL 2 rfl) ?_
        refine q_iadd xE xB dX7_faulty_19 ?_
        refine q_ald xE xB xK xP 1 rfl (by omega) (by decide) dX7_faulty_20 ?_
        refine lv_if_le (tgt := 28) xE xB dX7_faulty_21 (by decide) (fun c_21 => ?_) (fun c_21 => ?_)
        · skip
          refine lv_iconst (v := nI 0) xE xB dX7_faulty_28 (by decide) ?_
          refine q_iadd xE xB dX7_faulty_29 ?_
          refine lv_istore_n (lv' := [(1, .int (nI (x + 0))), (0, .ref r.1), (2, .int (nI i))]) xE xB dX7_faulty_30 rfl xL (by decide) rfl (fun ls xL => ?_)
          refine lv_iinc (v := nI (i + 1)) (lv' := [(2, .int (nI (i + 1))), (1, .int (nI (x + 0))), (0, .ref r.1)]) xE xB dX7_faulty_31 xL (k := 2) rfl (q_inc _ _) (by decide) rfl (fun ls xL => ?_)
          refine lv_goto (tgt := 4) xE xB dX7_faulty_34 (by decide) ?_
          exact ih_4 (i + 1) (x + 0) (by omega) (by rw [hx]; first | (show ns _ i + 1 = ns _ i + (if _ then 0 else 1); rw [if_neg (fc_p c_21)]) | (show ns _ i + 0 = ns _ i + (if _ then 0 else 1); rw [if_pos (fc_z (hF i (by omega)) c_21)])) (by omega) _ (lv_sub xL [2, 1, 0] rfl)
        · skip
          refine lv_iconst (v := nI 1) xE xB dX7_faulty_24 (by decide) ?_
          refine lv_goto (tgt := 29) xE xB dX7_faulty_25 (by decide) ?_
          refine q_iadd xE xB dX7_faulty_29 ?_
          refine lv_istore_n (lv' := [(1, .int (nI (x + 1))), (0, .ref r.1), (2, .int (nI i))]) xE xB dX7_faulty_30 rfl xL (by decide) rfl (fun ls xL => ?_)
          refine lv_iinc (v := nI (i + 1)) (lv' := [(2, .int (nI (i + 1))), (1, .int (nI (x + 1))), (0, .ref r.1)]) xE xB dX7_faulty_31 xL (k := 2) rfl (q_inc _ _) (by decide) rfl (fun ls xL => ?_)
          refine lv_goto (tgt := 4) xE xB dX7_faulty_34 (by decide) ?_
          exact ih_4 (i + 1) (x + 1) (by omega) (by rw [hx]; first | (show ns _ i + 1 = ns _ i + (if _ then 0 else 1); rw [if_neg (fc_p c_21)]) | (show ns _ i + 0 = ns _ i + (if _ then 0 else 1); rw [if_pos (fc_z (hF i (by omega)) c_21)])) (by omega) _ (lv_sub xL [2, 1, 0] rfl)
  exact L_4 (20 - 0 + 1) 0 0 (by omega) (by rfl) (Nat.lt_succ_self _) _ (lv_sub xL [2, 1, 0] rfl)
theorem kX7_count_c117 : Cond.constant RX7 117 (-1000004) ∈ wsX7_count := by decide +kernel
theorem kX7_count_c37 : Cond.constant RX7 37 (-1000001) ∈ wsX7_count := by decide +kernel
theorem kX7_count_f131 : Cond.fieldLink RX7 131 "SkewedSquareModel" "typed" "I" ∈ wsX7_count := by decide +kernel
theorem kX7_count_f25 : Cond.fieldLink RX7 25 "SkewedSquareModel" "pasts" "I" ∈ wsX7_count := by decide +kernel
theorem kX7_count_f7 : Cond.fieldLink RX7 7 "SkewedSquareModel" "s" "[I" ∈ wsX7_count := by decide +kernel
theorem khX7_count_X7 : ∀ w ∈ u_ws RX7 TX7 16, w ∈ wsX7_count := by decide +kernel
set_option maxHeartbeats 4000000 in
set_option maxRecDepth 100000 in
/-- kX7_count -/
theorem kX7_count (l : Launch) (G : wG) (r : RA) (s P U : wF) (p : Nat) (X : wF) (y q0 : Nat) (q1 : Int32) (q2 : Nat) (q3 : Int32) (sp re : Nat) (B : wF) (wd hg ow : Nat) (n o lr lc rc : Nat) (ta tb : Nat) (tt : Nat) (b : Nat) (v1 : Int32) (hD : RelD n o lr lc rc s) (hb : b ≤ 1 ∧ s 5 = nI b) (hT : b = 1 → RelE n lr rc ta tb s ∧ s 8 = nI tt ∧ tt ≤ need lc n lr rc ta tb) (hK : K01 s) (hF : F04 s) : CR l yX7_count wsX7_count (rm 2 47) G [.ref r.1, .int v1] (wU G r (s, P, U, p, X, y, q0, q1, q2, q3, sp, re, B, wd, hg, ow)) (fun x => x = coA n o lr lc rc b ta tb tt p y v1 s) := by
  refine CR.of (own := RX7) rfl (by decide) rfl (Nat.le_of_ble_eq_true rfl) ?_
  intro p9 e9 s9 m9 b9 t9 c9 xE xB xM xO xT xK xP Q xQ ls hl
  have xL : lv_has ls 2 [(0, .ref r.1), (1, .int v1)] := hl
  obtain ⟨g0, g1, g2, g3, g4, ⟨hn1, hn2, hn3⟩, hm1, hm2, hm3, hm4, hm5, hm6⟩ := id hD
  have hb1 := hb.1
  refine lv_iload_n xE xB dX7_count_0 rfl (lv_at xL 1 rfl) ?_
  by_cases e_0 : v1 = nI 0
  · skip
    subst e_0
    refine lv_tableIn (off := 79) (tgt := 80) xE xB dX7_count_1 (by decide) (by decide) (by decide) (by decide) ?_
    refine lv_aload_n xE xB dX7_count_80 rfl (lv_at xL 0 rfl) ?_
    refine va_get (D := G.1) (ci := 7) (v := .ref r.2.1) (C := RX7) (T := TX7) (N := 16) xE xB xT khX7_count_X7 xO xK.1 xP 0 rfl rfl 0 (by decide) (xT _ kX7_count_f7) (fun _ h9 => h9) rfl dX7_count_81 ?_
    refine lv_iload_n xE xB dX7_count_84 rfl (lv_at xL 1 rfl) ?_
    refine q_ald xE xB xK xP 1 rfl (by omega) (by decide) dX7_count_85 ?_
    refine q_eq (y := nI n) (congrArg (fun z => z) (g0)) ?_
    exact xQ _ _ _ (by unfold coA; rw [if_pos rfl]) dX7_count_86
  by_cases e_1 : v1 = nI 1
  · skip
    subst e_1
    refine lv_tableIn (off := 79) (tgt := 80) xE xB dX7_count_1 (by decide) (by decide) (by decide) (by decide) ?_
    refine lv_aload_n xE xB dX7_count_80 rfl (lv_at xL 0 rfl) ?_
    refine va_get (D := G.1) (ci := 7) (v := .ref r.2.1) (C := RX7) (T := TX7) (N := 16) xE xB xT khX7_count_X7 xO xK.1 xP 0 rfl rfl 0 (by decide) (xT _ kX7_count_f7) (fun _ h9 => h9) rfl dX7_count_81 ?_
    refine lv_iload_n xE xB dX7_count_84 rfl (lv_at xL 1 rfl) ?_
    refine q_ald xE xB xK xP 1 rfl (by omega) (by decide) dX7_count_85 ?_
    refine q_eq (y := nI lr) (congrArg (fun z => z) (g1)) ?_
    exact xQ _ _ _ (by unfold coA; rw [if_neg (by decide), if_pos rfl]) dX7_count_86
  by_cases e_2 : v1 = nI 2
  · skip
    subst e_2
    refine lv_tableIn (off := 79) (tgt := 80) xE xB dX7_count_1 (by decide) (by decide) (by decide) (by decide) ?_
    refine lv_aload_n xE xB dX7_count_80 rfl (lv_at xL 0 rfl) ?_
    refine va_get (D := G.1) (ci := 7) (v := .ref r.2.1) (C := RX7) (T := TX7) (N := 16) xE xB xT khX7_count_X7 xO xK.1 xP 0 rfl rfl 0 (by decide) (xT _ kX7_count_f7) (fun _ h9 => h9) rfl dX7_count_81 ?_
    refine lv_iload_n xE xB dX7_count_84 rfl (lv_at xL 1 rfl) ?_
    refine q_ald xE xB xK xP 1 rfl (by omega) (by decide) dX7_count_85 ?_
    refine q_eq (y := nI lc) (congrArg (fun z => z) (g2)) ?_
    exact xQ _ _ _ (by unfold coA; rw [if_neg (by decide), if_neg (by decide), if_pos rfl]) dX7_count_86
  by_cases e_3 : v1 = nI 3
  · skip
    subst e_3
    refine lv_tableIn (off := 79) (tgt := 80) xE xB dX7_count_1 (by decide) (by decide) (by decide) (by decide) ?_
    refine lv_aload_n xE xB dX7_count_80 rfl (lv_at xL 0 rfl) ?_
    refine va_get (D := G.1) (ci := 7) (v := .ref r.2.1) (C := RX7) (T := TX7) (N := 16) xE xB xT khX7_count_X7 xO xK.1 xP 0 rfl rfl 0 (by decide) (xT _ kX7_count_f7) (fun _ h9 => h9) rfl dX7_count_81 ?_
    refine lv_iload_n xE xB dX7_count_84 rfl (lv_at xL 1 rfl) ?_
    refine q_ald xE xB xK xP 1 rfl (by omega) (by decide) dX7_count_85 ?_
    refine q_eq (y := nI rc) (congrArg (fun z => z) (g3)) ?_
    exact xQ _ _ _ (by unfold coA; rw [if_neg (by decide), if_neg (by decide), if_neg (by decide), if_pos rfl]) dX7_count_86
  by_cases e_4 : v1 = nI 4
  · skip
    subst e_4
    refine lv_tableIn (off := 86) (tgt := 87) xE xB dX7_count_1 (by decide) (by decide) (by decide) (by decide) ?_
    refine lv_aload_n xE xB dX7_count_87 rfl (lv_at xL 0 rfl) ?_
    refine q_VR (As := []) (rest := []) ⟨xE, xB, xM, xO, xT⟩ (kX7_tiles l G r s P U p X y q0 q1 q2 q3 sp re B wd hg ow n o lr lc rc (by exact hD)) (cwV 0 xT gX7_count_X7_tiles rfl rfl rfl (by decide +kernel) ⟨Nat.le_of_ble_eq_true rfl, Nat.le_of_ble_eq_true rfl⟩) xK xP [0, 1, 2, 3, 4, 5] rfl 0 rfl rfl rfl rfl xL.1 rfl (Nat.le_of_ble_eq_true rfl) dX7_count_88 ⟨Nat.le_refl _, Nat.le_refl _⟩ (fun r_88 h_88 => ?_)
    obtain rfl : r_88 = nI (tls lr n * tls rc n) := h_88
    exact xQ _ _ _ (by unfold coA; rw [if_neg (by decide), if_neg (by decide), if_neg (by decide), if_neg (by decide), if_pos rfl]) dX7_count_91
  by_cases e_5 : v1 = nI 5
  · skip
    subst e_5
    refine lv_tableIn (off := 91) (tgt := 92) xE xB dX7_count_1 (by decide) (by decide) (by decide) (by decide) ?_
    refine lv_aload_n xE xB dX7_count_92 rfl (lv_at xL 0 rfl) ?_
    refine va_get (D := G.1) (ci := 7) (v := .ref r.2.1) (C := RX7) (T := TX7) (N := 16) xE xB xT khX7_count_X7 xO xK.1 xP 0 rfl rfl 0 (by decide) (xT _ kX7_count_f7) (fun _ h9 => h9) rfl dX7_count_93 ?_
    refine lv_iconst (v := nI 4) xE xB dX7_count_96 (by decide) ?_
    refine lv_iload_n xE xB dX7_count_97 rfl (lv_at xL 1 rfl) ?_
    refine q_iadd xE xB dX7_count_98 ?_
    refine q_eq (y := nI 9) rfl ?_
    refine lv_iconst (v := nI 5) xE xB dX7_count_99 (by decide) ?_
    refine q_isub xE xB dX7_count_100 (by omega) ?_
    refine q_eq (y := nI 4) rfl ?_
    refine q_ald xE xB xK xP 1 rfl (by omega) (by decide) dX7_count_101 ?_
    refine q_eq (y := nI o) (congrArg (fun z => z) (g4)) ?_
    exact xQ _ _ _ (by unfold coA; rw [if_neg (by decide), if_neg (by decide), if_neg (by decide), if_neg (by decide), if_neg (by decide), if_pos rfl]) dX7_count_102
  by_cases e_6 : v1 = nI 6
  · skip
    subst e_6
    refine lv_tableIn (off := 91) (tgt := 92) xE xB dX7_count_1 (by decide) (by decide) (by decide) (by decide) ?_
    refine lv_aload_n xE xB dX7_count_92 rfl (lv_at xL 0 rfl) ?_
    refine va_get (D := G.1) (ci := 7) (v := .ref r.2.1) (C := RX7) (T := TX7) (N := 16) xE xB xT khX7_count_X7 xO xK.1 xP 0 rfl rfl 0 (by decide) (xT _ kX7_count_f7) (fun _ h9 => h9) rfl dX7_count_93 ?_
    refine lv_iconst (v := nI 4) xE xB dX7_count_96 (by decide) ?_
    refine lv_iload_n xE xB dX7_count_97 rfl (lv_at xL 1 rfl) ?_
    refine q_iadd xE xB dX7_count_98 ?_
    refine q_eq (y := nI 10) rfl ?_
    refine lv_iconst (v := nI 5) xE xB dX7_count_99 (by decide) ?_
    refine q_isub xE xB dX7_count_100 (by omega) ?_
    refine q_eq (y := nI 5) rfl ?_
    refine q_ald xE xB xK xP 1 rfl (by omega) (by decide) dX7_count_101 ?_
    refine q_eq (y := nI b) (congrArg (fun z => z) (hb.2)) ?_
    exact xQ _ _ _ (by unfold coA; rw [if_neg (by decide), if_neg (by decide), if_neg (by decide), if_neg (by decide), if_neg (by decide), if_neg (by decide), if_pos rfl]) dX7_count_102
  by_cases e_7 : v1 = nI 7
  · skip
    subst e_7
    refine lv_tableIn (off := 102) (tgt := 103) xE xB dX7_count_1 (by decide) (by decide) (by decide) (by decide) ?_
    refine lv_aload_n xE xB dX7_count_103 rfl (lv_at xL 0 rfl) ?_
    refine va_get (D := G.1) (ci := 7) (v := .ref r.2.1) (C := RX7) (T := TX7) (N := 16) xE xB xT khX7_count_X7 xO xK.1 xP 0 rfl rfl 0 (by decide) (xT _ kX7_count_f7) (fun _ h9 => h9) rfl dX7_count_104 ?_
    refine lv_iconst (v := nI 5) xE xB dX7_count_107 (by decide) ?_
    refine q_ald xE xB xK xP 1 rfl (by omega) (by decide) dX7_count_108 ?_
    refine q_eq (y := nI b) (congrArg (fun z => z) (hb.2)) ?_
    refine q_if_ne (tgt := 117) xE xB dX7_count_109 (by decide) (by omega) (fun c_109 => ?_) (fun c_109 => ?_)
    · skip
      have hb9 : b = 1 := by omega
      obtain ⟨hE, g8, htt⟩ := hT hb9
      obtain ⟨g6, g7, ht1, ht2⟩ := id hE
      have hnd : need lc n lr rc ta tb ≤ 20 := by unfold need; omega
      refine lv_aload_n xE xB dX7_count_117 rfl (lv_at xL 0 rfl) ?_
      refine va_get (D := G.1) (ci := 7) (v := .ref r.2.1) (C := RX7) (T := TX7) (N := 16) xE xB xT khX7_count_X7 xO xK.1 xP 0 rfl rfl 0 (by decide) (xT _ kX7_count_f7) (fun _ h9 => h9) rfl dX7_count_118 ?_
      refine lv_iload_n xE xB dX7_count_121 rfl (lv_at xL 1 rfl) ?_
      refine lv_iconst (v := nI 1) xE xB dX7_count_122 (by decide) ?_
      refine q_isub xE xB dX7_count_123 (by omega) ?_
      refine q_eq (y := nI 6) rfl ?_
      refine q_ald xE xB xK xP 1 rfl (by omega) (by decide) dX7_count_124 ?_
      refine q_eq (y := nI ta) (congrArg (fun z => z) (g6)) ?_
      exact xQ _ _ _ (by unfold coA; rw [if_neg (by decide), if_neg (by decide), if_neg (by decide), if_neg (by decide), if_neg (by decide), if_neg (by decide), if_neg (by decide), if_pos rfl]; first | (rw [if_neg (by omega)]) | (rw [if_pos (by omega)])) dX7_count_125
    · skip
      refine lv_ldc (v := (-1000004)) xE xB xO (xT _ kX7_count_c117) dX7_count_112 ?_
      refine lv_goto (tgt := 125) xE xB dX7_count_114 (by decide) ?_
      exact xQ _ _ _ (by unfold coA; rw [if_neg (by decide), if_neg (by decide), if_neg (by decide), if_neg (by decide), if_neg (by decide), if_neg (by decide), if_neg (by decide), if_pos rfl]; first | (rw [if_neg (by omega)]) | (rw [if_pos (by omega)])) dX7_count_125
  by_cases e_8 : v1 = nI 8
  · skip
    subst e_8
    refine lv_tableIn (off := 102) (tgt := 103) xE xB dX7_count_1 (by decide) (by decide) (by decide) (by decide) ?_
    refine lv_aload_n xE xB dX7_count_103 rfl (lv_at xL 0 rfl) ?_
    refine va_get (D := G.1) (ci := 7) (v := .ref r.2.1) (C := RX7) (T := TX7) (N := 16) xE xB xT khX7_count_X7 xO xK.1 xP 0 rfl rfl 0 (by decide) (xT _ kX7_count_f7) (fun _ h9 => h9) rfl dX7_count_104 ?_
    refine lv_iconst (v := nI 5) xE xB dX7_count_107 (by decide) ?_
    refine q_ald xE xB xK xP 1 rfl (by omega) (by decide) dX7_count_108 ?_
    refine q_eq (y := nI b) (congrArg (fun z => z) (hb.2)) ?_
    refine q_if_ne (tgt := 117) xE xB dX7_count_109 (by decide) (by omega) (fun c_109 => ?_) (fun c_109 => ?_)
    · skip
      have hb9 : b = 1 := by omega
      obtain ⟨hE, g8, htt⟩ := hT hb9
      obtain ⟨g6, g7, ht1, ht2⟩ := id hE
      have hnd : need lc n lr rc ta tb ≤ 20 := by unfold need; omega
      refine lv_aload_n xE xB dX7_count_117 rfl (lv_at xL 0 rfl) ?_
      refine va_get (D := G.1) (ci := 7) (v := .ref r.2.1) (C := RX7) (T := TX7) (N := 16) xE xB xT khX7_count_X7 xO xK.1 xP 0 rfl rfl 0 (by decide) (xT _ kX7_count_f7) (fun _ h9 => h9) rfl dX7_count_118 ?_
      refine lv_iload_n xE xB dX7_count_121 rfl (lv_at xL 1 rfl) ?_
      refine lv_iconst (v := nI 1) xE xB dX7_count_122 (by decide) ?_
      refine q_isub xE xB dX7_count_123 (by omega) ?_
      refine q_eq (y := nI 7) rfl ?_
      refine q_ald xE xB xK xP 1 rfl (by omega) (by decide) dX7_count_124 ?_
      refine q_eq (y := nI tb) (congrArg (fun z => z) (g7)) ?_
      exact xQ _ _ _ (by unfold coA; rw [if_neg (by decide), if_neg (by decide), if_neg (by decide), if_neg (by decide), if_neg (by decide), if_neg (by decide), if_neg (by decide), if_neg (by decide), if_pos rfl]; first | (rw [if_neg (by omega)]) | (rw [if_pos (by omega)])) dX7_count_125
    · skip
      refine lv_ldc (v := (-1000004)) xE xB xO (xT _ kX7_count_c117) dX7_count_112 ?_
      refine lv_goto (tgt := 125) xE xB dX7_count_114 (by decide) ?_
      exact xQ _ _ _ (by unfold coA; rw [if_neg (by decide), if_neg (by decide), if_neg (by decide), if_neg (by decide), if_neg (by decide), if_neg (by decide), if_neg (by decide), if_neg (by decide), if_pos rfl]; first | (rw [if_neg (by omega)]) | (rw [if_pos (by omega)])) dX7_count_125
  by_cases e_9 : v1 = nI 9
  · skip
    subst e_9
    refine lv_tableIn (off := 102) (tgt := 103) xE xB dX7_count_1 (by decide) (by decide) (by decide) (by decide) ?_
    refine lv_aload_n xE xB dX7_count_103 rfl (lv_at xL 0 rfl) ?_
    refine va_get (D := G.1) (ci := 7) (v := .ref r.2.1) (C := RX7) (T := TX7) (N := 16) xE xB xT khX7_count_X7 xO xK.1 xP 0 rfl rfl 0 (by decide) (xT _ kX7_count_f7) (fun _ h9 => h9) rfl dX7_count_104 ?_
    refine lv_iconst (v := nI 5) xE xB dX7_count_107 (by decide) ?_
    refine q_ald xE xB xK xP 1 rfl (by omega) (by decide) dX7_count_108 ?_
    refine q_eq (y := nI b) (congrArg (fun z => z) (hb.2)) ?_
    refine q_if_ne (tgt := 117) xE xB dX7_count_109 (by decide) (by omega) (fun c_109 => ?_) (fun c_109 => ?_)
    · skip
      have hb9 : b = 1 := by omega
      obtain ⟨hE, g8, htt⟩ := hT hb9
      obtain ⟨g6, g7, ht1, ht2⟩ := id hE
      have hnd : need lc n lr rc ta tb ≤ 20 := by unfold need; omega
      refine lv_aload_n xE xB dX7_count_117 rfl (lv_at xL 0 rfl) ?_
      refine va_get (D := G.1) (ci := 7) (v := .ref r.2.1) (C := RX7) (T := TX7) (N := 16) xE xB xT khX7_count_X7 xO xK.1 xP 0 rfl rfl 0 (by decide) (xT _ kX7_count_f7) (fun _ h9 => h9) rfl dX7_count_118 ?_
      refine lv_iload_n xE xB dX7_count_121 rfl (lv_at xL 1 rfl) ?_
      refine lv_iconst (v := nI 1) xE xB dX7_count_122 (by decide) ?_
      refine q_isub xE xB dX7_count_123 (by omega) ?_
      refine q_eq (y := nI 8) rfl ?_
      refine q_ald xE xB xK xP 1 rfl (by omega) (by decide) dX7_count_124 ?_
      refine q_eq (y := nI tt) (congrArg (fun z => z) (g8)) ?_
      exact xQ _ _ _ (by unfold coA; rw [if_neg (by decide), if_neg (by decide), if_neg (by decide), if_neg (by decide), if_neg (by decide), if_neg (by decide), if_neg (by decide), if_neg (by decide), if_neg (by decide), if_pos rfl]; first | (rw [if_neg (by omega)]) | (rw [if_pos (by omega)])) dX7_count_125
    · skip
      refine lv_ldc (v := (-1000004)) xE xB xO (xT _ kX7_count_c117) dX7_count_112 ?_
      refine lv_goto (tgt := 125) xE xB dX7_count_114 (by decide) ?_
      exact xQ _ _ _ (by unfold coA; rw [if_neg (by decide), if_neg (by decide), if_neg (by decide), if_neg (by decide), if_neg (by decide), if_neg (by decide), if_neg (by decide), if_neg (by decide), if_neg (by decide), if_pos rfl]; first | (rw [if_neg (by omega)]) | (rw [if_pos (by omega)])) dX7_count_125
  by_cases e_10 : v1 = nI 10
  · skip
    subst e_10
    refine lv_tableIn (off := 125) (tgt := 126) xE xB dX7_count_1 (by decide) (by decide) (by decide) (by decide) ?_
    refine lv_aload_n xE xB dX7_count_126 rfl (lv_at xL 0 rfl) ?_
    refine va_get (D := G.1) (ci := 7) (v := .ref r.2.1) (C := RX7) (T := TX7) (N := 16) xE xB xT khX7_count_X7 xO xK.1 xP 0 rfl rfl 0 (by decide) (xT _ kX7_count_f7) (fun _ h9 => h9) rfl dX7_count_127 ?_
    refine lv_iconst (v := nI 5) xE xB dX7_count_130 (by decide) ?_
    refine q_ald xE xB xK xP 1 rfl (by omega) (by decide) dX7_count_131 ?_
    refine q_eq (y := nI b) (congrArg (fun z => z) (hb.2)) ?_
    refine q_if_ne (tgt := 140) xE xB dX7_count_132 (by decide) (by omega) (fun c_132 => ?_) (fun c_132 => ?_)
    · skip
      have hb9 : b = 1 := by omega
      obtain ⟨hE, g8, htt⟩ := hT hb9
      obtain ⟨g6, g7, ht1, ht2⟩ := id hE
      have hnd : need lc n lr rc ta tb ≤ 20 := by unfold need; omega
      refine lv_aload_n xE xB dX7_count_140 rfl (lv_at xL 0 rfl) ?_
      refine q_VR (As := []) (rest := []) ⟨xE, xB, xM, xO, xT⟩ (kX7_ticks l G r s P U p X y q0 q1 q2 q3 sp re B wd hg ow n o lr lc rc ta tb (by exact hD) (by exact hE)) (cwV 0 xT gX7_count_X7_ticks rfl rfl rfl (by decide +kernel) ⟨Nat.le_of_ble_eq_true rfl, Nat.le_of_ble_eq_true rfl⟩) xK xP [0, 1, 2, 3, 4, 5] rfl 0 rfl rfl rfl rfl xL.1 rfl (Nat.le_of_ble_eq_true rfl) dX7_count_141 ⟨Nat.le_refl _, Nat.le_refl _⟩ (fun r_141 h_141 => ?_)
      obtain rfl : r_141 = nI (need lc n lr rc ta tb) := h_141
      refine lv_aload_n xE xB dX7_count_144 rfl (lv_at xL 0 rfl) ?_
      refine va_get (D := G.1) (ci := 7) (v := .ref r.2.1) (C := RX7) (T := TX7) (N := 16) xE xB xT khX7_count_X7 xO xK.1 xP 0 rfl rfl 0 (by decide) (xT _ kX7_count_f7) (fun _ h9 => h9) rfl dX7_count_145 ?_
      refine lv_bipush (v := nI 8) xE xB dX7_count_148 (by decide) ?_
      refine q_ald xE xB xK xP 1 rfl (by omega) (by decide) dX7_count_150 ?_
      refine q_eq (y := nI tt) (congrArg (fun z => z) (g8)) ?_
      refine q_isub xE xB dX7_count_151 (by omega) ?_
      exact xQ _ _ _ (by unfold coA; rw [if_neg (by decide), if_neg (by decide), if_neg (by decide), if_neg (by decide), if_neg (by decide), if_neg (by decide), if_neg (by decide), if_neg (by decide), if_neg (by decide), if_neg (by decide), if_pos rfl]; first | (rw [if_neg (by omega)]) | (rw [if_pos (by omega)])) dX7_count_152
    · skip
      refine lv_ldc (v := (-1000004)) xE xB xO (xT _ kX7_count_c117) dX7_count_135 ?_
      refine lv_goto (tgt := 152) xE xB dX7_count_137 (by decide) ?_
      exact xQ _ _ _ (by unfold coA; rw [if_neg (by decide), if_neg (by decide), if_neg (by decide), if_neg (by decide), if_neg (by decide), if_neg (by decide), if_neg (by decide), if_neg (by decide), if_neg (by decide), if_neg (by decide), if_pos rfl]; first | (rw [if_neg (by omega)]) | (rw [if_pos (by omega)])) dX7_count_152
  by_cases e_11 : v1 = nI 11
  · skip
    subst e_11
    refine lv_tableIn (off := 152) (tgt := 153) xE xB dX7_count_1 (by decide) (by decide) (by decide) (by decide) ?_
    refine lv_aload_n xE xB dX7_count_153 rfl (lv_at xL 0 rfl) ?_
    refine q_VR (As := []) (rest := []) ⟨xE, xB, xM, xO, xT⟩ (kX7_known l G r s P U p X y q0 q1 q2 q3 sp re B wd hg ow n o lr lc rc (by exact hD)) (cwV 0 xT gX7_count_X7_known rfl rfl rfl (by decide +kernel) ⟨Nat.le_of_ble_eq_true rfl, Nat.le_of_ble_eq_true rfl⟩) xK xP [0, 1, 2, 3, 4, 5] rfl 0 rfl rfl rfl rfl xL.1 rfl (Nat.le_of_ble_eq_true rfl) dX7_count_154 ⟨Nat.le_refl _, Nat.le_refl _⟩ (fun r_154 h_154 => ?_)
    obtain rfl : r_154 = sm (fun q => s (117 + q)) 36 := h_154
    exact xQ _ _ _ (by unfold coA; rw [if_neg (by decide), if_neg (by decide), if_neg (by decide), if_neg (by decide), if_neg (by decide), if_neg (by decide), if_neg (by decide), if_neg (by decide), if_neg (by decide), if_neg (by decide), if_neg (by decide), if_pos rfl]; exact knS hK) dX7_count_157
  by_cases e_12 : v1 = nI 12
  · skip
    subst e_12
    refine lv_tableIn (off := 157) (tgt := 158) xE xB dX7_count_1 (by decide) (by decide) (by decide) (by decide) ?_
    refine lv_aload_n xE xB dX7_count_158 rfl (lv_at xL 0 rfl) ?_
    refine q_VR (As := []) (rest := []) ⟨xE, xB, xM, xO, xT⟩ (kX7_wrong l G r s P U p X y q0 q1 q2 q3 sp re B wd hg ow n o lr lc rc (by exact hD)) (cwV 0 xT gX7_count_X7_wrong rfl rfl rfl (by decide +kernel) ⟨Nat.le_of_ble_eq_true rfl, Nat.le_of_ble_eq_true rfl⟩) xK xP [0, 1, 2, 3, 4, 5] rfl 0 rfl rfl rfl rfl xL.1 rfl (Nat.le_of_ble_eq_true rfl) dX7_count_159 ⟨Nat.le_refl _, Nat.le_refl _⟩ (fun r_159 h_159 => ?_)
    obtain rfl : r_159 = nI (wrN lr lc rc s) := h_159
    exact xQ _ _ _ (by unfold coA; rw [if_neg (by decide), if_neg (by decide), if_neg (by decide), if_neg (by decide), if_neg (by decide), if_neg (by decide), if_neg (by decide), if_neg (by decide), if_neg (by decide), if_neg (by decide), if_neg (by decide), if_neg (by decide), if_pos rfl]) dX7_count_162
  by_cases e_13 : v1 = nI 13
  · skip
    subst e_13
    refine lv_tableIn (off := 162) (tgt := 163) xE xB dX7_count_1 (by decide) (by decide) (by decide) (by decide) ?_
    refine lv_aload_n xE xB dX7_count_163 rfl (lv_at xL 0 rfl) ?_
    refine q_VR (As := []) (rest := []) ⟨xE, xB, xM, xO, xT⟩ (kX7_faulty l G r s P U p X y q0 q1 q2 q3 sp re B wd hg ow n o lr lc rc (by exact hD) (by exact hF)) (cwV 0 xT gX7_count_X7_faulty rfl rfl rfl (by decide +kernel) ⟨Nat.le_of_ble_eq_true rfl, Nat.le_of_ble_eq_true rfl⟩) xK xP [0, 1, 2, 3, 4, 5] rfl 0 rfl rfl rfl rfl xL.1 rfl (Nat.le_of_ble_eq_true rfl) dX7_count_164 ⟨Nat.le_refl _, Nat.le_refl _⟩ (fun r_164 h_164 => ?_)
    obtain rfl : r_164 = nI (faN s) := h_164
    exact xQ _ _ _ (by unfold coA; rw [if_neg (by decide), if_neg (by decide), if_neg (by decide), if_neg (by decide), if_neg (by decide), if_neg (by decide), if_neg (by decide), if_neg (by decide), if_neg (by decide), if_neg (by decide), if_neg (by decide), if_neg (by decide), if_neg (by decide), if_pos rfl]) dX7_count_167
  by_cases e_14 : v1 = nI 14
  · skip
    subst e_14
    refine lv_tableIn (off := 167) (tgt := 168) xE xB dX7_count_1 (by decide) (by decide) (by decide) (by decide) ?_
    refine lv_aload_n xE xB dX7_count_168 rfl (lv_at xL 0 rfl) ?_
    refine va_get (D := G.1) (ci := 7) (v := .int (nI p)) (C := RX7) (T := TX7) (N := 16) xE xB xT khX7_count_X7 xO xK.1 xP 0 rfl rfl 3 (by decide) (xT _ kX7_count_f25) (fun _ h9 => h9) rfl dX7_count_169 ?_
    exact xQ _ _ _ (by unfold coA; rw [if_neg (by decide), if_neg (by decide), if_neg (by decide), if_neg (by decide), if_neg (by decide), if_neg (by decide), if_neg (by decide), if_neg (by decide), if_neg (by decide), if_neg (by decide), if_neg (by decide), if_neg (by decide), if_neg (by decide), if_neg (by decide), if_pos rfl]) dX7_count_172
  by_cases e_15 : v1 = nI 15
  · skip
    subst e_15
    refine lv_tableIn (off := 172) (tgt := 173) xE xB dX7_count_1 (by decide) (by decide) (by decide) (by decide) ?_
    refine lv_aload_n xE xB dX7_count_173 rfl (lv_at xL 0 rfl) ?_
    refine va_get (D := G.1) (ci := 7) (v := .int (nI y)) (C := RX7) (T := TX7) (N := 16) xE xB xT khX7_count_X7 xO xK.1 xP 0 rfl rfl 5 (by decide) (xT _ kX7_count_f131) (fun _ h9 => h9) rfl dX7_count_174 ?_
    exact xQ _ _ _ (by unfold coA; rw [if_neg (by decide), if_neg (by decide), if_neg (by decide), if_neg (by decide), if_neg (by decide), if_neg (by decide), if_neg (by decide), if_neg (by decide), if_neg (by decide), if_neg (by decide), if_neg (by decide), if_neg (by decide), if_neg (by decide), if_neg (by decide), if_neg (by decide), if_pos rfl]) dX7_count_177
  refine lv_tableOut (tgt := 178) xE xB dX7_count_1 (q_tab15 e_0 e_1 e_2 e_3 e_4 e_5 e_6 e_7 e_8 e_9 e_10 e_11 e_12 e_13 e_14 e_15) (by decide) ?_
  refine lv_ldc (v := (-1000001)) xE xB xO (xT _ kX7_count_c37) dX7_count_178 ?_
  exact xQ _ _ _ (by unfold coA; rw [if_neg e_0, if_neg e_1, if_neg e_2, if_neg e_3, if_neg e_4, if_neg e_5, if_neg e_6, if_neg e_7, if_neg e_8, if_neg e_9, if_neg e_10, if_neg e_11, if_neg e_12, if_neg e_13, if_neg e_14, if_neg e_15]) dX7_count_180
theorem kX7_isSuspect_f7 : Cond.fieldLink RX7 7 "SkewedSquareModel" "s" "[I" ∈ wsX7_isSuspect := by decide +kernel
theorem khX7_isSuspect_X7 : ∀ w ∈ u_ws RX7 TX7 16, w ∈ wsX7_isSuspect := by decide +kernel
set_option maxHeartbeats 4000000 in
set_option maxRecDepth 100000 in
/-- kX7_isSuspect0 -/
theorem kX7_isSuspect0 (l : Launch) (G : wG) (r : RA) (s P U : wF) (p : Nat) (X : wF) (y q0 : Nat) (q1 : Int32) (q2 : Nat) (q3 : Int32) (sp re : Nat) (B : wF) (wd hg ow : Nat) (n o lr lc rc : Nat) (k : Nat) (hD : RelD n o lr lc rc s) (hk : k < lr) : CR l yX7_isSuspect wsX7_isSuspect (rm 1 24) G [.ref r.1, .int (nI 0), .int (nI k)] (wU G r (s, P, U, p, X, y, q0, q1, q2, q3, sp, re, B, wd, hg, ow)) (fun x => (x = nI 1 ∧ (suR lc rc s k)) ∨ (x = nI 0 ∧ ¬ (suR lc rc s k))) := by
  refine CR.ofZ (own := RX7) rfl (by decide) rfl (Nat.le_of_ble_eq_true rfl) ?_
  intro p9 e9 s9 m9 b9 t9 c9 xE xB xM xO xT xK xP Q xQ ls hl
  have xL : lv_has ls 8 [(0, .ref r.1), (1, .int (nI 0)), (2, .int (nI k))] := hl
  obtain ⟨g0, g1, g2, g3, g4, ⟨hn1, hn2, hn3⟩, hm1, hm2, hm3, hm4, hm5, hm6⟩ := id hD
  refine lv_iconst (v := nI 0) xE xB dX7_isSuspect_0 (by decide) ?_
  refine lv_istore_n (lv' := [(3, .int (nI 0)), (0, .ref r.1), (1, .int (nI 0)), (2, .int (nI k))]) xE xB dX7_isSuspect_1 rfl xL (by decide) rfl (fun ls xL => ?_)
  refine lv_iconst (v := nI 1) xE xB dX7_isSuspect_2 (by decide) ?_
  refine lv_istore (lv' := [(4, .int (nI 1)), (3, .int (nI 0)), (0, .ref r.1), (1, .int (nI 0)), (2, .int (nI k))]) xE xB dX7_isSuspect_3 xL (by decide) rfl (fun ls xL => ?_)
  refine lv_iconst (v := nI 0) xE xB dX7_isSuspect_5 (by decide) ?_
  refine lv_istore (lv' := [(5, .int (nI 0)), (4, .int (nI 1)), (3, .int (nI 0)), (0, .ref r.1), (1, .int (nI 0)), (2, .int (nI k))]) xE xB dX7_isSuspect_6 xL (by decide) rfl (fun ls xL => ?_)
  have L_8 : ∀ (n_8 : Nat) (i al : Nat) (x : Int32), (i ≤ rc) → (x = sm (fun j => s (81 + (6 * k + j)) - dueF lc s k j) i) → ((al = 1 ∧ ∀ j, j < i → s (117 + (6 * k + j)) = nI 1) ∨ (al = 0 ∧ ¬ ∀ j, j < i → s (117 + (6 * k + j)) = nI 1)) → rc - i < n_8 → ∀ (ls : Array Slot), lv_has ls 8 [(0, .ref r.1), (1, .int (nI 0)), (2, .int (nI k)), (3, .int x), (4, .int (nI al)), (5, .int (nI i))] → W p9 l e9 (rm 1 24) s9 m9 ([.ref r.1, .int (nI 0), .int (nI k)] : List Value).toArray b9 t9 c9 s9.heap [] 0 0 Q (F0 m9 8 ls []) := by
    intro n_8
    induction n_8 with
    | zero => intro i al x hi hx hal hm_8 ls xL; exact absurd hm_8 (Nat.not_lt_zero _)
    | succ n_8 ih_8 =>
      intro i al x hi hx hal hm_8 ls xL
      refine lv_iload xE xB dX7_isSuspect_8 (lv_at xL 5 rfl) ?_
      refine lv_iload_n xE xB dX7_isSuspect_10 rfl (lv_at xL 1 rfl) ?_
      refine lv_if_ne (tgt := 23) xE xB dX7_isSuspect_11 (by decide) (fun h9 => absurd (by decide) h9) (fun _ => ?_)
      refine lv_aload_n xE xB dX7_isSuspect_14 rfl (lv_at xL 0 rfl) ?_
      refine va_get (D := G.1) (ci := 7) (v := .ref r.2.1) (C := RX7) (T := TX7) (N := 16) xE xB xT khX7_isSuspect_X7 xO xK.1 xP 0 rfl rfl 0 (by decide) (xT _ kX7_isSuspect_f7) (fun _ h9 => h9) rfl dX7_isSuspect_15 ?_
      refine lv_iconst (v := nI 3) xE xB dX7_isSuspect_18 (by decide) ?_
      refine q_ald xE xB xK xP 1 rfl (by omega) (by decide) dX7_isSuspect_19 ?_
      refine q_eq (y := nI rc) (congrArg (fun z => z) (g3)) ?_
      refine lv_goto (tgt := 29) xE xB dX7_isSuspect_20 (by decide) ?_
      refine q_icmp_ge (tgt := 113) xE xB dX7_isSuspect_29 (by decide) (by omega) (by omega) (fun c_29 => ?_) (fun c_29 => ?_)
      · skip
        obtain hi9 : i = rc := by omega
        rw [hi9] at hx hal
        refine lv_iload xE xB dX7_isSuspect_113 (lv_at xL 4 rfl) ?_
        refine q_if_eq (tgt := 126) xE xB dX7_isSuspect_115 (by decide) (by rcases hal with ⟨q, -⟩ | ⟨q, -⟩ <;> omega) (fun c_115 => ?_) (fun c_115 => ?_)
        · skip
          refine lv_iconst (v := nI 0) xE xB dX7_isSuspect_126 (by decide) ?_
          exact xQ _ _ _ (Or.inr ⟨rfl, by first | exact su_t hal hx c_115 c_119 | exact su_f1 hal c_115 | exact su_f2 hx c_119⟩) (by decide) dX7_isSuspect_127
        · skip
          refine lv_iload_n xE xB dX7_isSuspect_118 rfl (lv_at xL 3 rfl) ?_
          refine lv_if_eq (tgt := 126) xE xB dX7_isSuspect_119 (by decide) (fun c_119 => ?_) (fun c_119 => ?_)
          · skip
            refine lv_iconst (v := nI 0) xE xB dX7_isSuspect_126 (by decide) ?_
            exact xQ _ _ _ (Or.inr ⟨rfl, by first | exact su_t hal hx c_115 c_119 | exact su_f1 hal c_115 | exact su_f2 hx c_119⟩) (by decide) dX7_isSuspect_127
          · skip
            refine lv_iconst (v := nI 1) xE xB dX7_isSuspect_122 (by decide) ?_
            refine lv_goto (tgt := 127) xE xB dX7_isSuspect_123 (by decide) ?_
            exact xQ _ _ _ (Or.inl ⟨rfl, by first | exact su_t hal hx c_115 c_119 | exact su_f1 hal c_115 | exact su_f2 hx c_119⟩) (by decide) dX7_isSuspect_127
      · skip
        refine lv_iload_n xE xB dX7_isSuspect_32 rfl (lv_at xL 1 rfl) ?_
        refine lv_if_ne (tgt := 40) xE xB dX7_isSuspect_33 (by decide) (fun h9 => absurd (by decide) h9) (fun _ => ?_)
        refine lv_iload_n xE xB dX7_isSuspect_36 rfl (lv_at xL 2 rfl) ?_
        refine lv_goto (tgt := 42) xE xB dX7_isSuspect_37 (by decide) ?_
        refine lv_istore (lv' := [(6, .int (nI k)), (0, .ref r.1), (1, .int (nI 0)), (2, .int (nI k)), (3, .int x), (4, .int (nI al)), (5, .int (nI i))]) xE xB dX7_isSuspect_42 xL (by decide) rfl (fun ls xL => ?_)
        refine lv_iload_n xE xB dX7_isSuspect_44 rfl (lv_at xL 2 rfl) ?_
        refine lv_if_ne (tgt := 53) xE xB dX7_isSuspect_45 (by decide) (fun h9 => absurd (by decide) h9) (fun _ => ?_)
        refine lv_iload xE xB dX7_isSuspect_48 (lv_at xL 6 rfl) ?_
        refine lv_goto (tgt := 54) xE xB dX7_isSuspect_50 (by decide) ?_
        refine lv_istore (lv' := [(7, .int (nI i)), (6, .int (nI k)), (0, .ref r.1), (1, .int (nI 0)), (2, .int (nI k)), (3, .int x), (4, .int (nI al)), (5, .int (nI i))]) xE xB dX7_isSuspect_54 xL (by decide) rfl (fun ls xL => ?_)
        refine lv_iload xE xB dX7_isSuspect_56 (lv_at xL 6 rfl) ?_
        refine q_if_eq (tgt := 76) xE xB dX7_isSuspect_58 (by decide) (by rcases hal with ⟨q, -⟩ | ⟨q, -⟩ <;> omega) (fun c_58 => ?_) (fun c_58 => ?_)
        · skip
          refine lv_iconst (v := nI 0) xE xB dX7_isSuspect_76 (by decide) ?_
          refine lv_istore (lv' := [(4, .int (nI 0)), (7, .int (nI i)), (6, .int (nI k)), (0, .ref r.1), (1, .int (nI 0)), (2, .int (nI k)), (3, .int x), (5, .int (nI i))]) xE xB dX7_isSuspect_77 xL (by decide) rfl (fun ls xL => ?_)
          refine lv_iload_n xE xB dX7_isSuspect_79 rfl (lv_at xL 6 rfl) ?_
          refine lv_aload_n xE xB dX7_isSuspect_80 rfl (lv_at xL 3 rfl) ?_
          refine va_get (D := G.1) (ci := 7) (v := .ref r.2.1) (C := RX7) (T := TX7) (N := 16) xE xB xT khX7_isSuspect_X7 xO xK.1 xP 0 rfl rfl 0 (by decide) (xT _ kX7_isSuspect_f7) (fun _ h9 => h9) rfl dX7_isSuspect_81 ?_
          refine lv_bipush (v := nI 81) xE xB dX7_isSuspect_84 (by decide) ?_
          refine lv_bipush (v := nI 6) xE xB dX7_isSuspect_86 (by decide) ?_
          refine lv_iload xE xB dX7_isSuspect_88 (lv_at xL 2 rfl) ?_
          refine q_imul xE xB dX7_isSuspect_90 ?_
          refine q_iadd xE xB dX7_isSuspect_91 ?_
          refine lv_iload xE xB dX7_isSuspect_92 (lv_at xL 1 rfl) ?_
          refine q_iadd xE xB dX7_isSuspect_94 ?_
          refine q_eq (y := nI (81 + (6 * k + i))) (congrArg nI (Nat.add_assoc _ _ _)) ?_
          refine q_ald xE xB xK xP 1 rfl (by omega) (by decide) dX7_isSuspect_95 ?_
          refine lv_aload_n xE xB dX7_isSuspect_96 rfl (lv_at xL 3 rfl) ?_
          refine lv_iload xE xB dX7_isSuspect_97 (lv_at xL 2 rfl) ?_
          refine lv_iload xE xB dX7_isSuspect_99 (lv_at xL 1 rfl) ?_
          refine q_VR (As := [.int (nI k), .int (nI i)]) (rest := [.int (s (81 + (6 * k + i))), .int x]) ⟨xE, xB, xM, xO, xT⟩ (kX7_due l G r s P U p X y q0 q1 q2 q3 sp re B wd hg ow n o lr lc rc k i (by exact hD) (by omega) (by omega)) (cwV 2 xT gX7_isSuspect_X7_due rfl rfl rfl (by decide +kernel) ⟨Nat.le_of_ble_eq_true rfl, Nat.le_of_ble_eq_true rfl⟩) xK xP [0, 1, 2, 3, 4, 5] rfl 0 rfl rfl rfl rfl xL.1 rfl (Nat.le_of_ble_eq_true rfl) dX7_isSuspect_101 ⟨Nat.le_refl _, Nat.le_refl _⟩ (fun r_101 h_101 => ?_)
          obtain rfl : r_101 = dueF lc s k i := h_101
          refine lv_isub xE xB dX7_isSuspect_104 ?_
          refine lv_iadd xE xB dX7_isSuspect_105 ?_
          refine lv_istore_n (lv' := [(3, .int (x + ((s (81 + (6 * k + i))) - (dueF lc s k i)))), (4, .int (nI 0)), (7, .int (nI i)), (6, .int (nI k)), (0, .ref r.1), (1, .int (nI 0)), (2, .int (nI k)), (5, .int (nI i))]) xE xB dX7_isSuspect_106 rfl xL (by decide) rfl (fun ls xL => ?_)
          refine lv_iinc (v := nI (i + 1)) (lv' := [(5, .int (nI (i + 1))), (3, .int (x + ((s (81 + (6 * k + i))) - (dueF lc s k i)))), (4, .int (nI 0)), (7, .int (nI i)), (6, .int (nI k)), (0, .ref r.1), (1, .int (nI 0)), (2, .int (nI k))]) xE xB dX7_isSuspect_107 xL (k := 7) rfl (q_inc _ _) (by decide) rfl (fun ls xL => ?_)
          refine lv_goto (tgt := 8) xE xB dX7_isSuspect_110 (by decide) ?_
          exact ih_8 (i + 1) 0 (x + ((s (81 + (6 * k + i))) - (dueF lc s k i))) (by omega) (by rw [hx]; rfl) (by first | exact al_f hal c_58 | exact al_t hal c_58 c_66 | exact al_n c_66) (by omega) _ (lv_sub xL [5, 6, 7, 1, 2, 0] rfl)
        · skip
          refine lv_aload_n xE xB dX7_isSuspect_61 rfl (lv_at xL 2 rfl) ?_
          refine lv_iload xE xB dX7_isSuspect_62 (lv_at xL 1 rfl) ?_
          refine lv_iload xE xB dX7_isSuspect_64 (lv_at xL 0 rfl) ?_
          refine q_VR (As := [.int (nI k), .int (nI i)]) (rest := []) ⟨xE, xB, xM, xO, xT⟩ (kX7_isKnown l G r s P U p X y q0 q1 q2 q3 sp re B wd hg ow n o lr lc rc k i (by exact hD) (by omega) (by omega)) (cwV 2 xT gX7_isSuspect_X7_isKnown rfl rfl rfl (by decide +kernel) ⟨Nat.le_of_ble_eq_true rfl, Nat.le_of_ble_eq_true rfl⟩) xK xP [0, 1, 2, 3, 4, 5] rfl 0 rfl rfl rfl rfl xL.1 rfl (Nat.le_of_ble_eq_true rfl) dX7_isSuspect_66 ⟨Nat.le_refl _, Nat.le_refl _⟩ (fun r_66 h_66 => ?_)
          rcases h_66 with ⟨h_66, c_66⟩ | ⟨h_66, c_66⟩
          · skip
            subst h_66
            have c_66 : s (117 + (6 * k + i)) = nI 1 := c_66
            refine lv_if_eq (tgt := 76) xE xB dX7_isSuspect_69 (by decide) (fun h9 => absurd h9 (by decide)) (fun _ => ?_)
            refine lv_iconst (v := nI 1) xE xB dX7_isSuspect_72 (by decide) ?_
            refine lv_goto (tgt := 77) xE xB dX7_isSuspect_73 (by decide) ?_
            refine lv_istore (lv' := [(4, .int (nI 1)), (7, .int (nI i)), (6, .int (nI k)), (0, .ref r.1), (1, .int (nI 0)), (2, .int (nI k)), (3, .int x), (5, .int (nI i))]) xE xB dX7_isSuspect_77 xL (by decide) rfl (fun ls xL => ?_)
            refine lv_iload_n xE xB dX7_isSuspect_79 rfl (lv_at xL 6 rfl) ?_
            refine lv_aload_n xE xB dX7_isSuspect_80 rfl (lv_at xL 3 rfl) ?_
            refine va_get (D := G.1) (ci := 7) (v := .ref r.2.1) (C := RX7) (T := TX7) (N := 16) xE xB xT khX7_isSuspect_X7 xO xK.1 xP 0 rfl rfl 0 (by decide) (xT _ kX7_isSuspect_f7) (fun _ h9 => h9) rfl dX7_isSuspect_81 ?_
            refine lv_bipush (v := nI 81) xE xB dX7_isSuspect_84 (by decide) ?_
            refine lv_bipush (v := nI 6) xE xB dX7_isSuspect_86 (by decide) ?_
            refine lv_iload xE xB dX7_isSuspect_88 (lv_at xL 2 rfl) ?_
            refine q_imul xE xB dX7_isSuspect_90 ?_
            refine q_iadd xE xB dX7_isSuspect_91 ?_
            refine lv_iload xE xB dX7_isSuspect_92 (lv_at xL 1 rfl) ?_
            refine q_iadd xE xB dX7_isSuspect_94 ?_
            refine q_eq (y := nI (81 + (6 * k + i))) (congrArg nI (Nat.add_assoc _ _ _)) ?_
            refine q_ald xE xB xK xP 1 rfl (by omega) (by decide) dX7_isSuspect_95 ?_
            refine lv_aload_n xE xB dX7_isSuspect_96 rfl (lv_at xL 3 rfl) ?_
            refine lv_iload xE xB dX7_isSuspect_97 (lv_at xL 2 rfl) ?_
            refine lv_iload xE xB dX7_isSuspect_99 (lv_at xL 1 rfl) ?_
            refine q_VR (As := [.int (nI k), .int (nI i)]) (rest := [.int (s (81 + (6 * k + i))), .int x]) ⟨xE, xB, xM, xO, xT⟩ (kX7_due l G r s P U p X y q0 q1 q2 q3 sp re B wd hg ow n o lr lc rc k i (by exact hD) (by omega) (by omega)) (cwV 2 xT gX7_isSuspect_X7_due rfl rfl rfl (by decide +kernel) ⟨Nat.le_of_ble_eq_true rfl, Nat.le_of_ble_eq_true rfl⟩) xK xP [0, 1, 2, 3, 4, 5] rfl 0 rfl rfl rfl rfl xL.1 rfl (Nat.le_of_ble_eq_true rfl) dX7_isSuspect_101 ⟨Nat.le_refl _, Nat.le_refl _⟩ (fun r_101 h_101 => ?_)
            obtain rfl : r_101 = dueF lc s k i := h_101
            refine lv_isub xE xB dX7_isSuspect_104 ?_
            refine lv_iadd xE xB dX7_isSuspect_105 ?_
            refine lv_istore_n (lv' := [(3, .int (x + ((s (81 + (6 * k + i))) - (dueF lc s k i)))), (4, .int (nI 1)), (7, .int (nI i)), (6, .int (nI k)), (0, .ref r.1), (1, .int (nI 0)), (2, .int (nI k)), (5, .int (nI i))]) xE xB dX7_isSuspect_106 rfl xL (by decide) rfl (fun ls xL => ?_)
            refine lv_iinc (v := nI (i + 1)) (lv' := [(5, .int (nI (i + 1))), (3, .int (x + ((s (81 + (6 * k + i))) - (dueF lc s k i)))), (4, .int (nI 1)), (7, .int (nI i)), (6, .int (nI k)), (0, .ref r.1), (1, .int (nI 0)), (2, .int (nI k))]) xE xB dX7_isSuspect_107 xL (k := 7) rfl (q_inc _ _) (by decide) rfl (fun ls xL => ?_)
            refine lv_goto (tgt := 8) xE xB dX7_isSuspect_110 (by decide) ?_
            exact ih_8 (i + 1) 1 (x + ((s (81 + (6 * k + i))) - (dueF lc s k i))) (by omega) (by rw [hx]; rfl) (by first | exact al_f hal c_58 | exact al_t hal c_58 c_66 | exact al_n c_66) (by omega) _ (lv_sub xL [5, 6, 7, 1, 2, 0] rfl)
          · skip
            subst h_66
            have c_66 : ¬ (s (117 + (6 * k + i)) = nI 1) := c_66
            refine lv_if_eq (tgt := 76) xE xB dX7_isSuspect_69 (by decide) (fun _ => ?_) (fun h9 => absurd (by decide) h9)
            refine lv_iconst (v := nI 0) xE xB dX7_isSuspect_76 (by decide) ?_
            refine lv_istore (lv' := [(4, .int (nI 0)), (7, .int (nI i)), (6, .int (nI k)), (0, .ref r.1), (1, .int (nI 0)), (2, .int (nI k)), (3, .int x), (5, .int (nI i))]) xE xB dX7_isSuspect_77 xL (by decide) rfl (fun ls xL => ?_)
            refine lv_iload_n xE xB dX7_isSuspect_79 rfl (lv_at xL 6 rfl) ?_
            refine lv_aload_n xE xB dX7_isSuspect_80 rfl (lv_at xL 3 rfl) ?_
            refine va_get (D := G.1) (ci := 7) (v := .ref r.2.1) (C := RX7) (T := TX7) (N := 16) xE xB xT khX7_isSuspect_X7 xO xK.1 xP 0 rfl rfl 0 (by decide) (xT _ kX7_isSuspect_f7) (fun _ h9 => h9) rfl dX7_isSuspect_81 ?_
            refine lv_bipush (v := nI 81) xE xB dX7_isSuspect_84 (by decide) ?_
            refine lv_bipush (v := nI 6) xE xB dX7_isSuspect_86 (by decide) ?_
            refine lv_iload xE xB dX7_isSuspect_88 (lv_at xL 2 rfl) ?_
            refine q_imul xE xB dX7_isSuspect_90 ?_
            refine q_iadd xE xB dX7_isSuspect_91 ?_
            refine lv_iload xE xB dX7_isSuspect_92 (lv_at xL 1 rfl) ?_
            refine q_iadd xE xB dX7_isSuspect_94 ?_
            refine q_eq (y := nI (81 + (6 * k + i))) (congrArg nI (Nat.add_assoc _ _ _)) ?_
            refine q_ald xE xB xK xP 1 rfl (by omega) (by decide) dX7_isSuspect_95 ?_
            refine lv_aload_n xE xB dX7_isSuspect_96 rfl (lv_at xL 3 rfl) ?_
            refine lv_iload xE xB dX7_isSuspect_97 (lv_at xL 2 rfl) ?_
            refine lv_iload xE xB dX7_isSuspect_99 (lv_at xL 1 rfl) ?_
            refine q_VR (As := [.int (nI k), .int (nI i)]) (rest := [.int (s (81 + (6 * k + i))), .int x]) ⟨xE, xB, xM, xO, xT⟩ (kX7_due l G r s P U p X y q0 q1 q2 q3 sp re B wd hg ow n o lr lc rc k i (by exact hD) (by omega) (by omega)) (cwV 2 xT gX7_isSuspect_X7_due rfl rfl rfl (by decide +kernel) ⟨Nat.le_of_ble_eq_true rfl, Nat.le_of_ble_eq_true rfl⟩) xK xP [0, 1, 2, 3, 4, 5] rfl 0 rfl rfl rfl rfl xL.1 rfl (Nat.le_of_ble_eq_true rfl) dX7_isSuspect_101 ⟨Nat.le_refl _, Nat.le_refl _⟩ (fun r_101 h_101 => ?_)
            obtain rfl : r_101 = dueF lc s k i := h_101
            refine lv_isub xE xB dX7_isSuspect_104 ?_
            refine lv_iadd xE xB dX7_isSuspect_105 ?_
            refine lv_istore_n (lv' := [(3, .int (x + ((s (81 + (6 * k + i))) - (dueF lc s k i)))), (4, .int (nI 0)), (7, .int (nI i)), (6, .int (nI k)), (0, .ref r.1), (1, .int (nI 0)), (2, .int (nI k)), (5, .int (nI i))]) xE xB dX7_isSuspect_106 rfl xL (by decide) rfl (fun ls xL => ?_)
            refine lv_iinc (v := nI (i + 1)) (lv' := [(5, .int (nI (i + 1))), (3, .int (x + ((s (81 + (6 * k + i))) - (dueF lc s k i)))), (4, .int (nI 0)), (7, .int (nI i)), (6, .int (nI k)), (0, .ref r.1), (1, .int (nI 0)), (2, .int (nI k))]) xE xB dX7_isSuspect_107 xL (k := 7) rfl (q_inc _ _) (by decide) rfl (fun ls xL => ?_)
            refine lv_goto (tgt := 8) xE xB dX7_isSuspect_110 (by decide) ?_
            exact ih_8 (i + 1) 0 (x + ((s (81 + (6 * k + i))) - (dueF lc s k i))) (by omega) (by rw [hx]; rfl) (by first | exact al_f hal c_58 | exact al_t hal c_58 c_66 | exact al_n c_66) (by omega) _ (lv_sub xL [5, 6, 7, 1, 2, 0] rfl)
  exact L_8 (rc - 0 + 1) 0 1 (nI 0) (by omega) (by rfl) (by exact Or.inl ⟨rfl, fun j hj => absurd hj (Nat.not_lt_zero _)⟩) (Nat.lt_succ_self _) _ (lv_sub xL [3, 4, 5, 2, 1, 0] rfl)
set_option maxHeartbeats 4000000 in
set_option maxRecDepth 100000 in
/-- kX7_isSuspect1 -/
theorem kX7_isSuspect1 (l : Launch) (G : wG) (r : RA) (s P U : wF) (p : Nat) (X : wF) (y q0 : Nat) (q1 : Int32) (q2 : Nat) (q3 : Int32) (sp re : Nat) (B : wF) (wd hg ow : Nat) (n o lr lc rc : Nat) (k : Nat) (hD : RelD n o lr lc rc s) (hk : k < rc) : CR l yX7_isSuspect wsX7_isSuspect (rm 1 24) G [.ref r.1, .int (nI 1), .int (nI k)] (wU G r (s, P, U, p, X, y, q0, q1, q2, q3, sp, re, B, wd, hg, ow)) (fun x => (x = nI 1 ∧ (suC lc lr s k)) ∨ (x = nI 0 ∧ ¬ (suC lc lr s k))) := by
  refine CR.ofZ (own := RX7) rfl (by decide) rfl (Nat.le_of_ble_eq_true rfl) ?_
  intro p9 e9 s9 m9 b9 t9 c9 xE xB xM xO xT xK xP Q xQ ls hl
  have xL : lv_has ls 8 [(0, .ref r.1), (1, .int (nI 1)), (2, .int (nI k))] := hl
  obtain ⟨g0, g1, g2, g3, g4, ⟨hn1, hn2, hn3⟩, hm1, hm2, hm3, hm4, hm5, hm6⟩ := id hD
  refine lv_iconst (v := nI 0) xE xB dX7_isSuspect_0 (by decide) ?_
  refine lv_istore_n (lv' := [(3, .int (nI 0)), (0, .ref r.1), (1, .int (nI 1)), (2, .int (nI k))]) xE xB dX7_isSuspect_1 rfl xL (by decide) rfl (fun ls xL => ?_)
  refine lv_iconst (v := nI 1) xE xB dX7_isSuspect_2 (by decide) ?_
  refine lv_istore (lv' := [(4, .int (nI 1)), (3, .int (nI 0)), (0, .ref r.1), (1, .int (nI 1)), (2, .int (nI k))]) xE xB dX7_isSuspect_3 xL (by decide) rfl (fun ls xL => ?_)
  refine lv_iconst (v := nI 0) xE xB dX7_isSuspect_5 (by decide) ?_
  refine lv_istore (lv' := [(5, .int (nI 0)), (4, .int (nI 1)), (3, .int (nI 0)), (0, .ref r.1), (1, .int (nI 1)), (2, .int (nI k))]) xE xB dX7_isSuspect_6 xL (by decide) rfl (fun ls xL => ?_)
  have L_8 : ∀ (n_8 : Nat) (i al : Nat) (x : Int32), (i ≤ lr) → (x = sm (fun j => s (81 + (6 * j + k)) - dueF lc s j k) i) → ((al = 1 ∧ ∀ j, j < i → s (117 + (6 * j + k)) = nI 1) ∨ (al = 0 ∧ ¬ ∀ j, j < i → s (117 + (6 * j + k)) = nI 1)) → lr - i < n_8 → ∀ (ls : Array Slot), lv_has ls 8 [(0, .ref r.1), (1, .int (nI 1)), (2, .int (nI k)), (3, .int x), (4, .int (nI al)), (5, .int (nI i))] → W p9 l e9 (rm 1 24) s9 m9 ([.ref r.1, .int (nI 1), .int (nI k)] : List Value).toArray b9 t9 c9 s9.heap [] 0 0 Q (F0 m9 8 ls []) := by
    intro n_8
    induction n_8 with
    | zero => intro i al x hi hx hal hm_8 ls xL; exact absurd hm_8 (Nat.not_lt_zero _)
    | succ n_8 ih_8 =>
      intro i al x hi hx hal hm_8 ls xL
      refine lv_iload xE xB dX7_isSuspect_8 (lv_at xL 5 rfl) ?_
      refine lv_iload_n xE xB dX7_isSuspect_10 rfl (lv_at xL 1 rfl) ?_
      refine lv_if_ne (tgt := 23) xE xB dX7_isSuspect_11 (by decide) (fun _ => ?_) (fun h9 => absurd h9 (by decide))
      refine lv_aload_n xE xB dX7_isSuspect_23 rfl (lv_at xL 0 rfl) ?_
      refine va_get (D := G.1) (ci := 7) (v := .ref r.2.1) (C := RX7) (T := TX7) (N := 16) xE xB xT khX7_isSuspect_X7 xO xK.1 xP 0 rfl rfl 0 (by decide) (xT _ kX7_isSuspect_f7) (fun _ h9 => h9) rfl dX7_isSuspect_24 ?_
      refine lv_iconst (v := nI 1) xE xB dX7_isSuspect_27 (by decide) ?_
      refine q_ald xE xB xK xP 1 rfl (by omega) (by decide) dX7_isSuspect_28 ?_
      refine q_eq (y := nI lr) (congrArg (fun z => z) (g1)) ?_
      refine q_icmp_ge (tgt := 113) xE xB dX7_isSuspect_29 (by decide) (by omega) (by omega) (fun c_29 => ?_) (fun c_29 => ?_)
      · skip
        obtain hi9 : i = lr := by omega
        rw [hi9] at hx hal
        refine lv_iload xE xB dX7_isSuspect_113 (lv_at xL 4 rfl) ?_
        refine q_if_eq (tgt := 126) xE xB dX7_isSuspect_115 (by decide) (by rcases hal with ⟨q, -⟩ | ⟨q, -⟩ <;> omega) (fun c_115 => ?_) (fun c_115 => ?_)
        · skip
          refine lv_iconst (v := nI 0) xE xB dX7_isSuspect_126 (by decide) ?_
          exact xQ _ _ _ (Or.inr ⟨rfl, by first | exact su_t hal hx c_115 c_119 | exact su_f1 hal c_115 | exact su_f2 hx c_119⟩) (by decide) dX7_isSuspect_127
        · skip
          refine lv_iload_n xE xB dX7_isSuspect_118 rfl (lv_at xL 3 rfl) ?_
          refine lv_if_eq (tgt := 126) xE xB dX7_isSuspect_119 (by decide) (fun c_119 => ?_) (fun c_119 => ?_)
          · skip
            refine lv_iconst (v := nI 0) xE xB dX7_isSuspect_126 (by decide) ?_
            exact xQ _ _ _ (Or.inr ⟨rfl, by first | exact su_t hal hx c_115 c_119 | exact su_f1 hal c_115 | exact su_f2 hx c_119⟩) (by decide) dX7_isSuspect_127
          · skip
            refine lv_iconst (v := nI 1) xE xB dX7_isSuspect_122 (by decide) ?_
            refine lv_goto (tgt := 127) xE xB dX7_isSuspect_123 (by decide) ?_
            exact xQ _ _ _ (Or.inl ⟨rfl, by first | exact su_t hal hx c_115 c_119 | exact su_f1 hal c_115 | exact su_f2 hx c_119⟩) (by decide) dX7_isSuspect_127
      · skip
        refine lv_iload_n xE xB dX7_isSuspect_32 rfl (lv_at xL 1 rfl) ?_
        refine lv_if_ne (tgt := 40) xE xB dX7_isSuspect_33 (by decide) (fun _ => ?_) (fun h9 => absurd h9 (by decide))
        refine lv_iload xE xB dX7_isSuspect_40 (lv_at xL 5 rfl) ?_
        refine lv_istore (lv' := [(6, .int (nI i)), (0, .ref r.1), (1, .int (nI 1)), (2, .int (nI k)), (3, .int x), (4, .int (nI al)), (5, .int (nI i))]) xE xB dX7_isSuspect_42 xL (by decide) rfl (fun ls xL => ?_)
        refine lv_iload_n xE xB dX7_isSuspect_44 rfl (lv_at xL 2 rfl) ?_
        refine lv_if_ne (tgt := 53) xE xB dX7_isSuspect_45 (by decide) (fun _ => ?_) (fun h9 => absurd h9 (by decide))
        refine lv_iload_n xE xB dX7_isSuspect_53 rfl (lv_at xL 3 rfl) ?_
        refine lv_istore (lv' := [(7, .int (nI k)), (6, .int (nI i)), (0, .ref r.1), (1, .int (nI 1)), (2, .int (nI k)), (3, .int x), (4, .int (nI al)), (5, .int (nI i))]) xE xB dX7_isSuspect_54 xL (by decide) rfl (fun ls xL => ?_)
        refine lv_iload xE xB dX7_isSuspect_56 (lv_at xL 6 rfl) ?_
        refine q_if_eq (tgt := 76) xE xB dX7_isSuspect_58 (by decide) (by rcases hal with ⟨q, -⟩ | ⟨q, -⟩ <;> omega) (fun c_58 => ?_) (fun c_58 => ?_)
        · skip
          refine lv_iconst (v := nI 0) xE xB dX7_isSuspect_76 (by decide) ?_
          refine lv_istore (lv' := [(4, .int (nI 0)), (7, .int (nI k)), (6, .int (nI i)), (0, .ref r.1), (1, .int (nI 1)), (2, .int (nI k)), (3, .int x), (5, .int (nI i))]) xE xB dX7_isSuspect_77 xL (by decide) rfl (fun ls xL => ?_)
          refine lv_iload_n xE xB dX7_isSuspect_79 rfl (lv_at xL 6 rfl) ?_
          refine lv_aload_n xE xB dX7_isSuspect_80 rfl (lv_at xL 3 rfl) ?_
          refine va_get (D := G.1) (ci := 7) (v := .ref r.2.1) (C := RX7) (T := TX7) (N := 16) xE xB xT khX7_isSuspect_X7 xO xK.1 xP 0 rfl rfl 0 (by decide) (xT _ kX7_isSuspect_f7) (fun _ h9 => h9) rfl dX7_isSuspect_81 ?_
          refine lv_bipush (v := nI 81) xE xB dX7_isSuspect_84 (by decide) ?_
          refine lv_bipush (v := nI 6) xE xB dX7_isSuspect_86 (by decide) ?_
          refine lv_iload xE xB dX7_isSuspect_88 (lv_at xL 2 rfl) ?_
          refine q_imul xE xB dX7_isSuspect_90 ?_
          refine q_iadd xE xB dX7_isSuspect_91 ?_
          refine lv_iload xE xB dX7_isSuspect_92 (lv_at xL 1 rfl) ?_
          refine q_iadd xE xB dX7_isSuspect_94 ?_
          refine q_eq (y := nI (81 + (6 * i + k))) (congrArg nI (Nat.add_assoc _ _ _)) ?_
          refine q_ald xE xB xK xP 1 rfl (by omega) (by decide) dX7_isSuspect_95 ?_
          refine lv_aload_n xE xB dX7_isSuspect_96 rfl (lv_at xL 3 rfl) ?_
          refine lv_iload xE xB dX7_isSuspect_97 (lv_at xL 2 rfl) ?_
          refine lv_iload xE xB dX7_isSuspect_99 (lv_at xL 1 rfl) ?_
          refine q_VR (As := [.int (nI i), .int (nI k)]) (rest := [.int (s (81 + (6 * i + k))), .int x]) ⟨xE, xB, xM, xO, xT⟩ (kX7_due l G r s P U p X y q0 q1 q2 q3 sp re B wd hg ow n o lr lc rc i k (by exact hD) (by omega) (by omega)) (cwV 2 xT gX7_isSuspect_X7_due rfl rfl rfl (by decide +kernel) ⟨Nat.le_of_ble_eq_true rfl, Nat.le_of_ble_eq_true rfl⟩) xK xP [0, 1, 2, 3, 4, 5] rfl 0 rfl rfl rfl rfl xL.1 rfl (Nat.le_of_ble_eq_true rfl) dX7_isSuspect_101 ⟨Nat.le_refl _, Nat.le_refl _⟩ (fun r_101 h_101 => ?_)
          obtain rfl : r_101 = dueF lc s i k := h_101
          refine lv_isub xE xB dX7_isSuspect_104 ?_
          refine lv_iadd xE xB dX7_isSuspect_105 ?_
          refine lv_istore_n (lv' := [(3, .int (x + ((s (81 + (6 * i + k))) - (dueF lc s i k)))), (4, .int (nI 0)), (7, .int (nI k)), (6, .int (nI i)), (0, .ref r.1), (1, .int (nI 1)), (2, .int (nI k)), (5, .int (nI i))]) xE xB dX7_isSuspect_106 rfl xL (by decide) rfl (fun ls xL => ?_)
          refine lv_iinc (v := nI (i + 1)) (lv' := [(5, .int (nI (i + 1))), (3, .int (x + ((s (81 + (6 * i + k))) - (dueF lc s i k)))), (4, .int (nI 0)), (7, .int (nI k)), (6, .int (nI i)), (0, .ref r.1), (1, .int (nI 1)), (2, .int (nI k))]) xE xB dX7_isSuspect_107 xL (k := 7) rfl (q_inc _ _) (by decide) rfl (fun ls xL => ?_)
          refine lv_goto (tgt := 8) xE xB dX7_isSuspect_110 (by decide) ?_
          exact ih_8 (i + 1) 0 (x + ((s (81 + (6 * i + k))) - (dueF lc s i k))) (by omega) (by rw [hx]; rfl) (by first | exact al_f hal c_58 | exact al_t hal c_58 c_66 | exact al_n c_66) (by omega) _ (lv_sub xL [5, 6, 7, 1, 2, 0] rfl)
        · skip
          refine lv_aload_n xE xB dX7_isSuspect_61 rfl (lv_at xL 2 rfl) ?_
          refine lv_iload xE xB dX7_isSuspect_62 (lv_at xL 1 rfl) ?_
          refine lv_iload xE xB dX7_isSuspect_64 (lv_at xL 0 rfl) ?_
          refine q_VR (As := [.int (nI i), .int (nI k)]) (rest := []) ⟨xE, xB, xM, xO, xT⟩ (kX7_isKnown l G r s P U p X y q0 q1 q2 q3 sp re B wd hg ow n o lr lc rc i k (by exact hD) (by omega) (by omega)) (cwV 2 xT gX7_isSuspect_X7_isKnown rfl rfl rfl (by decide +kernel) ⟨Nat.le_of_ble_eq_true rfl, Nat.le_of_ble_eq_true rfl⟩) xK xP [0, 1, 2, 3, 4, 5] rfl 0 rfl rfl rfl rfl xL.1 rfl (Nat.le_of_ble_eq_true rfl) dX7_isSuspect_66 ⟨Nat.le_refl _, Nat.le_refl _⟩ (fun r_66 h_66 => ?_)
          rcases h_66 with ⟨h_66, c_66⟩ | ⟨h_66, c_66⟩
          · skip
            subst h_66
            have c_66 : s (117 + (6 * i + k)) = nI 1 := c_66
            refine lv_if_eq (tgt := 76) xE xB dX7_isSuspect_69 (by decide) (fun h9 => absurd h9 (by decide)) (fun _ => ?_)
            refine lv_iconst (v := nI 1) xE xB dX7_isSuspect_72 (by decide) ?_
            refine lv_goto (tgt := 77) xE xB dX7_isSuspect_73 (by decide) ?_
            refine lv_istore (lv' := [(4, .int (nI 1)), (7, .int (nI k)), (6, .int (nI i)), (0, .ref r.1), (1, .int (nI 1)), (2, .int (nI k)), (3, .int x), (5, .int (nI i))]) xE xB dX7_isSuspect_77 xL (by decide) rfl (fun ls xL => ?_)
            refine lv_iload_n xE xB dX7_isSuspect_79 rfl (lv_at xL 6 rfl) ?_
            refine lv_aload_n xE xB dX7_isSuspect_80 rfl (lv_at xL 3 rfl) ?_
            refine va_get (D := G.1) (ci := 7) (v := .ref r.2.1) (C := RX7) (T := TX7) (N := 16) xE xB xT khX7_isSuspect_X7 xO xK.1 xP 0 rfl rfl 0 (by decide) (xT _ kX7_isSuspect_f7) (fun _ h9 => h9) rfl dX7_isSuspect_81 ?_
            refine lv_bipush (v := nI 81) xE xB dX7_isSuspect_84 (by decide) ?_
            refine lv_bipush (v := nI 6) xE xB dX7_isSuspect_86 (by decide) ?_
            refine lv_iload xE xB dX7_isSuspect_88 (lv_at xL 2 rfl) ?_
            refine q_imul xE xB dX7_isSuspect_90 ?_
            refine q_iadd xE xB dX7_isSuspect_91 ?_
            refine lv_iload xE xB dX7_isSuspect_92 (lv_at xL 1 rfl) ?_
            refine q_iadd xE xB dX7_isSuspect_94 ?_
            refine q_eq (y := nI (81 + (6 * i + k))) (congrArg nI (Nat.add_assoc _ _ _)) ?_
            refine q_ald xE xB xK xP 1 rfl (by omega) (by decide) dX7_isSuspect_95 ?_
            refine lv_aload_n xE xB dX7_isSuspect_96 rfl (lv_at xL 3 rfl) ?_
            refine lv_iload xE xB dX7_isSuspect_97 (lv_at xL 2 rfl) ?_
            refine lv_iload xE xB dX7_isSuspect_99 (lv_at xL 1 rfl) ?_
            refine q_VR (As := [.int (nI i), .int (nI k)]) (rest := [.int (s (81 + (6 * i + k))), .int x]) ⟨xE, xB, xM, xO, xT⟩ (kX7_due l G r s P U p X y q0 q1 q2 q3 sp re B wd hg ow n o lr lc rc i k (by exact hD) (by omega) (by omega)) (cwV 2 xT gX7_isSuspect_X7_due rfl rfl rfl (by decide +kernel) ⟨Nat.le_of_ble_eq_true rfl, Nat.le_of_ble_eq_true rfl⟩) xK xP [0, 1, 2, 3, 4, 5] rfl 0 rfl rfl rfl rfl xL.1 rfl (Nat.le_of_ble_eq_true rfl) dX7_isSuspect_101 ⟨Nat.le_refl _, Nat.le_refl _⟩ (fun r_101 h_101 => ?_)
            obtain rfl : r_101 = dueF lc s i k := h_101
            refine lv_isub xE xB dX7_isSuspect_104 ?_
            refine lv_iadd xE xB dX7_isSuspect_105 ?_
            refine lv_istore_n (lv' := [(3, .int (x + ((s (81 + (6 * i + k))) - (dueF lc s i k)))), (4, .int (nI 1)), (7, .int (nI k)), (6, .int (nI i)), (0, .ref r.1), (1, .int (nI 1)), (2, .int (nI k)), (5, .int (nI i))]) xE xB dX7_isSuspect_106 rfl xL (by decide) rfl (fun ls xL => ?_)
            refine lv_iinc (v := nI (i + 1)) (lv' := [(5, .int (nI (i + 1))), (3, .int (x + ((s (81 + (6 * i + k))) - (dueF lc s i k)))), (4, .int (nI 1)), (7, .int (nI k)), (6, .int (nI i)), (0, .ref r.1), (1, .int (nI 1)), (2, .int (nI k))]) xE xB dX7_isSuspect_107 xL (k := 7) rfl (q_inc _ _) (by decide) rfl (fun ls xL => ?_)
            refine lv_goto (tgt := 8) xE xB dX7_isSuspect_110 (by decide) ?_
            exact ih_8 (i + 1) 1 (x + ((s (81 + (6 * i + k))) - (dueF lc s i k))) (by omega) (by rw [hx]; rfl) (by first | exact al_f hal c_58 | exact al_t hal c_58 c_66 | exact al_n c_66) (by omega) _ (lv_sub xL [5, 6, 7, 1, 2, 0] rfl)
          · skip
            subst h_66
            have c_66 : ¬ (s (117 + (6 * i + k)) = nI 1) := c_66
            refine lv_if_eq (tgt := 76) xE xB dX7_isSuspect_69 (by decide) (fun _ => ?_) (fun h9 => absurd (by decide) h9)
            refine lv_iconst (v := nI 0) xE xB dX7_isSuspect_76 (by decide) ?_
            refine lv_istore (lv' := [(4, .int (nI 0)), (7, .int (nI k)), (6, .int (nI i)), (0, .ref r.1), (1, .int (nI 1)), (2, .int (nI k)), (3, .int x), (5, .int (nI i))]) xE xB dX7_isSuspect_77 xL (by decide) rfl (fun ls xL => ?_)
            refine lv_iload_n xE xB dX7_isSuspect_79 rfl (lv_at xL 6 rfl) ?_
            refine lv_aload_n xE xB dX7_isSuspect_80 rfl (lv_at xL 3 rfl) ?_
            refine va_get (D := G.1) (ci := 7) (v := .ref r.2.1) (C := RX7) (T := TX7) (N := 16) xE xB xT khX7_isSuspect_X7 xO xK.1 xP 0 rfl rfl 0 (by decide) (xT _ kX7_isSuspect_f7) (fun _ h9 => h9) rfl dX7_isSuspect_81 ?_
            refine lv_bipush (v := nI 81) xE xB dX7_isSuspect_84 (by decide) ?_
            refine lv_bipush (v := nI 6) xE xB dX7_isSuspect_86 (by decide) ?_
            refine lv_iload xE xB dX7_isSuspect_88 (lv_at xL 2 rfl) ?_
            refine q_imul xE xB dX7_isSuspect_90 ?_
            refine q_iadd xE xB dX7_isSuspect_91 ?_
            refine lv_iload xE xB dX7_isSuspect_92 (lv_at xL 1 rfl) ?_
            refine q_iadd xE xB dX7_isSuspect_94 ?_
            refine q_eq (y := nI (81 + (6 * i + k))) (congrArg nI (Nat.add_assoc _ _ _)) ?_
            refine q_ald xE xB xK xP 1 rfl (by omega) (by decide) dX7_isSuspect_95 ?_
            refine lv_aload_n xE xB dX7_isSuspect_96 rfl (lv_at xL 3 rfl) ?_
            refine lv_iload xE xB dX7_isSuspect_97 (lv_at xL 2 rfl) ?_
            refine lv_iload xE xB dX7_isSuspect_99 (lv_at xL 1 rfl) ?_
            refine q_VR (As := [.int (nI i), .int (nI k)]) (rest := [.int (s (81 + (6 * i + k))), .int x]) ⟨xE, xB, xM, xO, xT⟩ (kX7_due l G r s P U p X y q0 q1 q2 q3 sp re B wd hg ow n o lr lc rc i k (by exact hD) (by omega) (by omega)) (cwV 2 xT gX7_isSuspect_X7_due rfl rfl rfl (by decide +kernel) ⟨Nat.le_of_ble_eq_true rfl, Nat.le_of_ble_eq_true rfl⟩) xK xP [0, 1, 2, 3, 4, 5] rfl 0 rfl rfl rfl rfl xL.1 rfl (Nat.le_of_ble_eq_true rfl) dX7_isSuspect_101 ⟨Nat.le_refl _, Nat.le_refl _⟩ (fun r_101 h_101 => ?_)
            obtain rfl : r_101 = dueF lc s i k := h_101
            refine lv_isub xE xB dX7_isSuspect_104 ?_
            refine lv_iadd xE xB dX7_isSuspect_105 ?_
            refine lv_istore_n (lv' := [(3, .int (x + ((s (81 + (6 * i + k))) - (dueF lc s i k)))), (4, .int (nI 0)), (7, .int (nI k)), (6, .int (nI i)), (0, .ref r.1), (1, .int (nI 1)), (2, .int (nI k)), (5, .int (nI i))]) xE xB dX7_isSuspect_106 rfl xL (by decide) rfl (fun ls xL => ?_)
            refine lv_iinc (v := nI (i + 1)) (lv' := [(5, .int (nI (i + 1))), (3, .int (x + ((s (81 + (6 * i + k))) - (dueF lc s i k)))), (4, .int (nI 0)), (7, .int (nI k)), (6, .int (nI i)), (0, .ref r.1), (1, .int (nI 1)), (2, .int (nI k))]) xE xB dX7_isSuspect_107 xL (k := 7) rfl (q_inc _ _) (by decide) rfl (fun ls xL => ?_)
            refine lv_goto (tgt := 8) xE xB dX7_isSuspect_110 (by decide) ?_
            exact ih_8 (i + 1) 0 (x + ((s (81 + (6 * i + k))) - (dueF lc s i k))) (by omega) (by rw [hx]; rfl) (by first | exact al_f hal c_58 | exact al_t hal c_58 c_66 | exact al_n c_66) (by omega) _ (lv_sub xL [5, 6, 7, 1, 2, 0] rfl)
  exact L_8 (lr - 0 + 1) 0 1 (nI 0) (by omega) (by rfl) (by exact Or.inl ⟨rfl, fun j hj => absurd hj (Nat.not_lt_zero _)⟩) (Nat.lt_succ_self _) _ (lv_sub xL [3, 4, 5, 2, 1, 0] rfl)
theorem kX7_suspects_c37 : Cond.constant RX7 37 (-1000001) ∈ wsX7_suspects := by decide +kernel
theorem kX7_suspects_f7 : Cond.fieldLink RX7 7 "SkewedSquareModel" "s" "[I" ∈ wsX7_suspects := by decide +kernel
theorem khX7_suspects_X7 : ∀ w ∈ u_ws RX7 TX7 16, w ∈ wsX7_suspects := by decide +kernel
set_option maxHeartbeats 4000000 in
set_option maxRecDepth 100000 in
/-- kX7_suspects -/
theorem kX7_suspects (l : Launch) (G : wG) (r : RA) (s P U : wF) (p : Nat) (X : wF) (y q0 : Nat) (q1 : Int32) (q2 : Nat) (q3 : Int32) (sp re : Nat) (B : wF) (wd hg ow : Nat) (n o lr lc rc : Nat) (v1 : Int32) (hD : RelD n o lr lc rc s) : CR l yX7_suspects wsX7_suspects (rm 2 51) G [.ref r.1, .int v1] (wU G r (s, P, U, p, X, y, q0, q1, q2, q3, sp, re, B, wd, hg, ow)) (fun x => x = suA lr lc rc v1 s) := by
  refine CR.of (own := RX7) rfl (by decide) rfl (Nat.le_of_ble_eq_true rfl) ?_
  intro p9 e9 s9 m9 b9 t9 c9 xE xB xM xO xT xK xP Q xQ ls hl
  have xL : lv_has ls 4 [(0, .ref r.1), (1, .int v1)] := hl
  obtain ⟨g0, g1, g2, g3, g4, ⟨hn1, hn2, hn3⟩, hm1, hm2, hm3, hm4, hm5, hm6⟩ := id hD
  refine lv_iload_n xE xB dX7_suspects_0 rfl (lv_at xL 1 rfl) ?_
  refine lv_iconst (v := nI 0) xE xB dX7_suspects_1 (by decide) ?_
  refine lv_iconst (v := nI 1) xE xB dX7_suspects_2 (by decide) ?_
  refine q_SR (As := [.int v1, .int (nI 0), .int (nI 1)]) (rest := []) ⟨xE, xB, xM, xO, xT⟩ (kX7_in l G v1 (nI 0) (nI 1)) (va_cwS 3 xT gX7_suspects_X7_in rfl rfl rfl (by decide +kernel) ⟨Nat.le_of_ble_eq_true rfl, Nat.le_of_ble_eq_true rfl⟩) xK xP [] rfl rfl xL.1 rfl (Nat.le_of_ble_eq_true rfl) dX7_suspects_3 ⟨Nat.le_refl _, Nat.le_refl _⟩ (fun r_3 h_3 => ?_)
  rcases h_3 with ⟨h_3, c_3⟩ | ⟨h_3, c_3⟩
  · skip
    subst h_3
    have c_3 : ((nI 0) : Int32).toInt ≤ v1.toInt ∧ v1.toInt ≤ ((nI 1) : Int32).toInt := c_3
    refine lv_if_ne (tgt := 12) xE xB dX7_suspects_6 (by decide) (fun _ => ?_) (fun h9 => absurd h9 (by decide))
    (try (first | replace c_3 := (in_R (by omega) (by omega)).mp c_3 | replace c_3 := mt (in_R (by omega) (by omega)).mpr c_3))
    rcases (show v1 = nI 0 ∨ v1 = nI 1 by rcases (show v1.toInt = 0 ∨ v1.toInt = 1 by omega) with q | q; exact Or.inl (Int32.toInt_inj.mp (by rw [q]; decide)); exact Or.inr (Int32.toInt_inj.mp (by rw [q]; decide))) with h9 | h9
    · skip
      subst h9
      have z9 : (nI 0).toInt = 0 := (by decide)
      (try (first | replace c_3 := (in_R (by omega) (by omega)).mp c_3 | replace c_3 := mt (in_R (by omega) (by omega)).mpr c_3))
      refine lv_iconst (v := nI 0) xE xB dX7_suspects_12 (by decide) ?_
      refine lv_istore_n (lv' := [(2, .int (nI 0)), (0, .ref r.1), (1, .int (nI 0))]) xE xB dX7_suspects_13 rfl xL (by decide) rfl (fun ls xL => ?_)
      refine lv_iconst (v := nI 0) xE xB dX7_suspects_14 (by decide) ?_
      refine lv_istore_n (lv' := [(3, .int (nI 0)), (2, .int (nI 0)), (0, .ref r.1), (1, .int (nI 0))]) xE xB dX7_suspects_15 rfl xL (by decide) rfl (fun ls xL => ?_)
      have L_16 : ∀ (n_16 : Nat) (i : Nat) (x : Int32), (i ≤ lr) → (x = so (fun i => cb (suR lc rc s i)) i) → lr - i < n_16 → ∀ (ls : Array Slot), lv_has ls 4 [(0, .ref r.1), (1, .int (nI 0)), (2, .int x), (3, .int (nI i))] → W p9 l e9 (rm 2 51) s9 m9 ([.ref r.1, .int (nI 0)] : List Value).toArray b9 t9 c9 s9.heap [] 0 0 Q (F0 m9 16 ls []) := by
        intro n_16
        induction n_16 with
        | zero => intro i x hi hx hm_16 ls xL; exact absurd hm_16 (Nat.not_lt_zero _)
        | succ n_16 ih_16 =>
          intro i x hi hx hm_16 ls xL
          refine lv_iload_n xE xB dX7_suspects_16 rfl (lv_at xL 3 rfl) ?_
          refine lv_iload_n xE xB dX7_suspects_17 rfl (lv_at xL 1 rfl) ?_
          refine lv_if_ne (tgt := 30) xE xB dX7_suspects_18 (by decide) (fun h9 => absurd (by decide) h9) (fun _ => ?_)
          refine lv_aload_n xE xB dX7_suspects_21 rfl (lv_at xL 0 rfl) ?_
          refine va_get (D := G.1) (ci := 7) (v := .ref r.2.1) (C := RX7) (T := TX7) (N := 16) xE xB xT khX7_suspects_X7 xO xK.1 xP 0 rfl rfl 0 (by decide) (xT _ kX7_suspects_f7) (fun _ h9 => h9) rfl dX7_suspects_22 ?_
          refine lv_iconst (v := nI 1) xE xB dX7_suspects_25 (by decide) ?_
          refine q_ald xE xB xK xP 1 rfl (by omega) (by decide) dX7_suspects_26 ?_
          refine q_eq (y := nI lr) (congrArg (fun z => z) (g1)) ?_
          refine lv_goto (tgt := 36) xE xB dX7_suspects_27 (by decide) ?_
          refine q_icmp_ge (tgt := 64) xE xB dX7_suspects_36 (by decide) (by omega) (by omega) (fun c_36 => ?_) (fun c_36 => ?_)
          · skip
            obtain hi9 : i = lr := by omega
            refine lv_iload_n xE xB dX7_suspects_64 rfl (lv_at xL 2 rfl) ?_
            exact xQ _ _ _ (by rw [hx, hi9]; first | exact (if_pos z9).symm | exact ((if_neg (by omega)).trans (if_pos z9)).symm) dX7_suspects_65
          · skip
            refine lv_iload_n xE xB dX7_suspects_39 rfl (lv_at xL 2 rfl) ?_
            refine lv_aload_n xE xB dX7_suspects_40 rfl (lv_at xL 0 rfl) ?_
            refine lv_iload_n xE xB dX7_suspects_41 rfl (lv_at xL 1 rfl) ?_
            refine lv_iload_n xE xB dX7_suspects_42 rfl (lv_at xL 3 rfl) ?_
            refine q_VR (As := [.int (nI 0), .int (nI i)]) (rest := [.int x]) ⟨xE, xB, xM, xO, xT⟩ (kX7_isSuspect0 l G r s P U p X y q0 q1 q2 q3 sp re B wd hg ow n o lr lc rc i (by exact hD) (by omega)) (cwV 2 xT gX7_suspects_X7_isSuspect rfl rfl rfl (by decide +kernel) ⟨Nat.le_of_ble_eq_true rfl, Nat.le_of_ble_eq_true rfl⟩) xK xP [0, 1, 2, 3, 4, 5] rfl 0 rfl rfl rfl rfl xL.1 rfl (Nat.le_of_ble_eq_true rfl) dX7_suspects_43 ⟨Nat.le_refl _, Nat.le_refl _⟩ (fun r_43 h_43 => ?_)
            rcases h_43 with ⟨h_43, c_43⟩ | ⟨h_43, c_43⟩
            · skip
              subst h_43
              have c_43 : suR lc rc s i := c_43
              refine lv_if_eq (tgt := 55) xE xB dX7_suspects_46 (by decide) (fun h9 => absurd h9 (by decide)) (fun _ => ?_)
              refine lv_iconst (v := nI 1) xE xB dX7_suspects_49 (by decide) ?_
              refine lv_iload_n xE xB dX7_suspects_50 rfl (lv_at xL 3 rfl) ?_
              refine lv_ishl xE xB dX7_suspects_51 ?_
              refine lv_goto (tgt := 56) xE xB dX7_suspects_52 (by decide) ?_
              refine lv_ior xE xB dX7_suspects_56 ?_
              refine lv_istore_n (lv' := [(2, .int (x ||| ((nI 1) <<< ((nI i) &&& 31)))), (0, .ref r.1), (1, .int (nI 0)), (3, .int (nI i))]) xE xB dX7_suspects_57 rfl xL (by decide) rfl (fun ls xL => ?_)
              refine lv_iinc (v := nI (i + 1)) (lv' := [(3, .int (nI (i + 1))), (2, .int (x ||| ((nI 1) <<< ((nI i) &&& 31)))), (0, .ref r.1), (1, .int (nI 0))]) xE xB dX7_suspects_58 xL (k := 3) rfl (q_inc _ _) (by decide) rfl (fun ls xL => ?_)
              refine lv_goto (tgt := 16) xE xB dX7_suspects_61 (by decide) ?_
              exact ih_16 (i + 1) (x ||| ((nI 1) <<< ((nI i) &&& 31))) (by omega) (by first | (rw [hx]; exact (so_t (cb_t c_43)).symm) | (rw [hx, nI_0, Int32.or_zero]; exact (so_f (cb_f c_43)).symm)) (by omega) _ (lv_sub xL [2, 3, 1, 0] rfl)
            · skip
              subst h_43
              have c_43 : ¬ (suR lc rc s i) := c_43
              refine lv_if_eq (tgt := 55) xE xB dX7_suspects_46 (by decide) (fun _ => ?_) (fun h9 => absurd (by decide) h9)
              refine lv_iconst (v := nI 0) xE xB dX7_suspects_55 (by decide) ?_
              refine lv_ior xE xB dX7_suspects_56 ?_
              refine lv_istore_n (lv' := [(2, .int (x ||| (nI 0))), (0, .ref r.1), (1, .int (nI 0)), (3, .int (nI i))]) xE xB dX7_suspects_57 rfl xL (by decide) rfl (fun ls xL => ?_)
              refine lv_iinc (v := nI (i + 1)) (lv' := [(3, .int (nI (i + 1))), (2, .int (x ||| (nI 0))), (0, .ref r.1), (1, .int (nI 0))]) xE xB dX7_suspects_58 xL (k := 3) rfl (q_inc _ _) (by decide) rfl (fun ls xL => ?_)
              refine lv_goto (tgt := 16) xE xB dX7_suspects_61 (by decide) ?_
              exact ih_16 (i + 1) (x ||| (nI 0)) (by omega) (by first | (rw [hx]; exact (so_t (cb_t c_43)).symm) | (rw [hx, nI_0, Int32.or_zero]; exact (so_f (cb_f c_43)).symm)) (by omega) _ (lv_sub xL [2, 3, 1, 0] rfl)
      exact L_16 (lr - 0 + 1) 0 (nI 0) (by omega) (by rfl) (Nat.lt_succ_self _) _ (lv_sub xL [2, 3, 1, 0] rfl)
    · skip
      subst h9
      have z9 : (nI 1).toInt = 1 := (by decide)
      (try (first | replace c_3 := (in_R (by omega) (by omega)).mp c_3 | replace c_3 := mt (in_R (by omega) (by omega)).mpr c_3))
      refine lv_iconst (v := nI 0) xE xB dX7_suspects_12 (by decide) ?_
      refine lv_istore_n (lv' := [(2, .int (nI 0)), (0, .ref r.1), (1, .int (nI 1))]) xE xB dX7_suspects_13 rfl xL (by decide) rfl (fun ls xL => ?_)
      refine lv_iconst (v := nI 0) xE xB dX7_suspects_14 (by decide) ?_
      refine lv_istore_n (lv' := [(3, .int (nI 0)), (2, .int (nI 0)), (0, .ref r.1), (1, .int (nI 1))]) xE xB dX7_suspects_15 rfl xL (by decide) rfl (fun ls xL => ?_)
      have L_16 : ∀ (n_16 : Nat) (i : Nat) (x : Int32), (i ≤ rc) → (x = so (fun i => cb (suC lc lr s i)) i) → rc - i < n_16 → ∀ (ls : Array Slot), lv_has ls 4 [(0, .ref r.1), (1, .int (nI 1)), (2, .int x), (3, .int (nI i))] → W p9 l e9 (rm 2 51) s9 m9 ([.ref r.1, .int (nI 1)] : List Value).toArray b9 t9 c9 s9.heap [] 0 0 Q (F0 m9 16 ls []) := by
        intro n_16
        induction n_16 with
        | zero => intro i x hi hx hm_16 ls xL; exact absurd hm_16 (Nat.not_lt_zero _)
        | succ n_16 ih_16 =>
          intro i x hi hx hm_16 ls xL
          refine lv_iload_n xE xB dX7_suspects_16 rfl (lv_at xL 3 rfl) ?_
          refine lv_iload_n xE xB dX7_suspects_17 rfl (lv_at xL 1 rfl) ?_
          refine lv_if_ne (tgt := 30) xE xB dX7_suspects_18 (by decide) (fun _ => ?_) (fun h9 => absurd h9 (by decide))
          refine lv_aload_n xE xB dX7_suspects_30 rfl (lv_at xL 0 rfl) ?_
          refine va_get (D := G.1) (ci := 7) (v := .ref r.2.1) (C := RX7) (T := TX7) (N := 16) xE xB xT khX7_suspects_X7 xO xK.1 xP 0 rfl rfl 0 (by decide) (xT _ kX7_suspects_f7) (fun _ h9 => h9) rfl dX7_suspects_31 ?_
          refine lv_iconst (v := nI 3) xE xB dX7_suspects_34 (by decide) ?_
          refine q_ald xE xB xK xP 1 rfl (by omega) (by decide) dX7_suspects_35 ?_
          refine q_eq (y := nI rc) (congrArg (fun z => z) (g3)) ?_
          refine q_icmp_ge (tgt := 64) xE xB dX7_suspects_36 (by decide) (by omega) (by omega) (fun c_36 => ?_) (fun c_36 => ?_)
          · skip
            obtain hi9 : i = rc := by omega
            refine lv_iload_n xE xB dX7_suspects_64 rfl (lv_at xL 2 rfl) ?_
            exact xQ _ _ _ (by rw [hx, hi9]; first | exact (if_pos z9).symm | exact ((if_neg (by omega)).trans (if_pos z9)).symm) dX7_suspects_65
          · skip
            refine lv_iload_n xE xB dX7_suspects_39 rfl (lv_at xL 2 rfl) ?_
            refine lv_aload_n xE xB dX7_suspects_40 rfl (lv_at xL 0 rfl) ?_
            refine lv_iload_n xE xB dX7_suspects_41 rfl (lv_at xL 1 rfl) ?_
            refine lv_iload_n xE xB dX7_suspects_42 rfl (lv_at xL 3 rfl) ?_
            refine q_VR (As := [.int (nI 1), .int (nI i)]) (rest := [.int x]) ⟨xE, xB, xM, xO, xT⟩ (kX7_isSuspect1 l G r s P U p X y q0 q1 q2 q3 sp re B wd hg ow n o lr lc rc i (by exact hD) (by omega)) (cwV 2 xT gX7_suspects_X7_isSuspect rfl rfl rfl (by decide +kernel) ⟨Nat.le_of_ble_eq_true rfl, Nat.le_of_ble_eq_true rfl⟩) xK xP [0, 1, 2, 3, 4, 5] rfl 0 rfl rfl rfl rfl xL.1 rfl (Nat.le_of_ble_eq_true rfl) dX7_suspects_43 ⟨Nat.le_refl _, Nat.le_refl _⟩ (fun r_43 h_43 => ?_)
            rcases h_43 with ⟨h_43, c_43⟩ | ⟨h_43, c_43⟩
            · skip
              subst h_43
              have c_43 : suC lc lr s i := c_43
              refine lv_if_eq (tgt := 55) xE xB dX7_suspects_46 (by decide) (fun h9 => absurd h9 (by decide)) (fun _ => ?_)
              refine lv_iconst (v := nI 1) xE xB dX7_suspects_49 (by decide) ?_
              refine lv_iload_n xE xB dX7_suspects_50 rfl (lv_at xL 3 rfl) ?_
              refine lv_ishl xE xB dX7_suspects_51 ?_
              refine lv_goto (tgt := 56) xE xB dX7_suspects_52 (by decide) ?_
              refine lv_ior xE xB dX7_suspects_56 ?_
              refine lv_istore_n (lv' := [(2, .int (x ||| ((nI 1) <<< ((nI i) &&& 31)))), (0, .ref r.1), (1, .int (nI 1)), (3, .int (nI i))]) xE xB dX7_suspects_57 rfl xL (by decide) rfl (fun ls xL => ?_)
              refine lv_iinc (v := nI (i + 1)) (lv' := [(3, .int (nI (i + 1))), (2, .int (x ||| ((nI 1) <<< ((nI i) &&& 31)))), (0, .ref r.1), (1, .int (nI 1))]) xE xB dX7_suspects_58 xL (k := 3) rfl (q_inc _ _) (by decide) rfl (fun ls xL => ?_)
              refine lv_goto (tgt := 16) xE xB dX7_suspects_61 (by decide) ?_
              exact ih_16 (i + 1) (x ||| ((nI 1) <<< ((nI i) &&& 31))) (by omega) (by first | (rw [hx]; exact (so_t (cb_t c_43)).symm) | (rw [hx, nI_0, Int32.or_zero]; exact (so_f (cb_f c_43)).symm)) (by omega) _ (lv_sub xL [2, 3, 1, 0] rfl)
            · skip
              subst h_43
              have c_43 : ¬ (suC lc lr s i) := c_43
              refine lv_if_eq (tgt := 55) xE xB dX7_suspects_46 (by decide) (fun _ => ?_) (fun h9 => absurd (by decide) h9)
              refine lv_iconst (v := nI 0) xE xB dX7_suspects_55 (by decide) ?_
              refine lv_ior xE xB dX7_suspects_56 ?_
              refine lv_istore_n (lv' := [(2, .int (x ||| (nI 0))), (0, .ref r.1), (1, .int (nI 1)), (3, .int (nI i))]) xE xB dX7_suspects_57 rfl xL (by decide) rfl (fun ls xL => ?_)
              refine lv_iinc (v := nI (i + 1)) (lv' := [(3, .int (nI (i + 1))), (2, .int (x ||| (nI 0))), (0, .ref r.1), (1, .int (nI 1))]) xE xB dX7_suspects_58 xL (k := 3) rfl (q_inc _ _) (by decide) rfl (fun ls xL => ?_)
              refine lv_goto (tgt := 16) xE xB dX7_suspects_61 (by decide) ?_
              exact ih_16 (i + 1) (x ||| (nI 0)) (by omega) (by first | (rw [hx]; exact (so_t (cb_t c_43)).symm) | (rw [hx, nI_0, Int32.or_zero]; exact (so_f (cb_f c_43)).symm)) (by omega) _ (lv_sub xL [2, 3, 1, 0] rfl)
      exact L_16 (rc - 0 + 1) 0 (nI 0) (by omega) (by rfl) (Nat.lt_succ_self _) _ (lv_sub xL [2, 3, 1, 0] rfl)
  · skip
    subst h_3
    have c_3 : ¬ (((nI 0) : Int32).toInt ≤ v1.toInt ∧ v1.toInt ≤ ((nI 1) : Int32).toInt) := c_3
    refine lv_if_ne (tgt := 12) xE xB dX7_suspects_6 (by decide) (fun h9 => absurd (by decide) h9) (fun _ => ?_)
    refine lv_ldc (v := (-1000001)) xE xB xO (xT _ kX7_suspects_c37) dX7_suspects_9 ?_
    exact xQ _ _ _ (by (try (first | replace c_3 := (in_R (by omega) (by omega)).mp c_3 | replace c_3 := mt (in_R (by omega) (by omega)).mpr c_3)); unfold suA; rw [if_neg (by omega), if_neg (by omega)]) dX7_suspects_11
