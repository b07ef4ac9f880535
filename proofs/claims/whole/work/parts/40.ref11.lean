/-! ref11: what would be wrong, undo, signs -/
def RefX (X : wF) (T : Nat → Nat) (m : Nat) : Prop := m ≤ 80 ∧ ∀ j, j < m → X j = nI (T j) ∧ 32 ≤ T j ∧ T j ≤ 126
theorem RefX_ty {X : wF} {T : Nat → Nat} {m : Nat} {v : Int32} (h : RefX X T m) (h1 : 32 ≤ v.toInt ∧ v.toInt ≤ 126) (h2 : m < 80) : RefX (upd X m (nI (tN v))) (tyT m v T) (tyN m v) := by
  have z := tN_z (v := v) (by omega)
  unfold tyT tyN
  rw [if_pos ⟨h1, h2⟩, if_pos ⟨h1, h2⟩]
  refine ⟨by omega, fun j hj => ?_⟩
  show upd X m (nI (tN v)) j = nI (if j = m then tN v else T j) ∧ 32 ≤ (if j = m then tN v else T j) ∧ (if j = m then tN v else T j) ≤ 126
  by_cases e : j = m
  · rw [if_pos e, e, upd_s]; exact ⟨rfl, by omega, by omega⟩
  · rw [if_neg e, upd_n e]; exact h.2 j (by omega)
theorem RefX_no {X : wF} {T : Nat → Nat} {m : Nat} {v : Int32} (h : RefX X T m) (hn : ¬ ((32 ≤ v.toInt ∧ v.toInt ≤ 126) ∧ m < 80)) : RefX X (tyT m v T) (tyN m v) := by
  unfold tyT tyN
  rw [if_neg hn, if_neg hn]
  exact h

theorem kX7_wrongWithout_f16 : Cond.fieldLink RX7 16 "SkewedSquareModel" "tried" "[I" ∈ wsX7_wrongWithout := by decide +kernel
theorem kX7_wrongWithout_f7 : Cond.fieldLink RX7 7 "SkewedSquareModel" "s" "[I" ∈ wsX7_wrongWithout := by decide +kernel
theorem khX7_wrongWithout_X7 : ∀ w ∈ u_ws RX7 TX7 16, w ∈ wsX7_wrongWithout := by decide +kernel
set_option maxHeartbeats 4000000 in
set_option maxRecDepth 100000 in
/-- kX7_wrongWithout -/
theorem kX7_wrongWithout (l : Launch) (G : wG) (r : RA) (s P U : wF) (p : Nat) (X : wF) (y q0 : Nat) (q1 : Int32) (q2 : Nat) (q3 : Int32) (sp re : Nat) (B : wF) (wd hg ow : Nat) (n o lr lc rc : Nat) (j : Nat) (hD : RelD n o lr lc rc s) (hp : p ≤ 4) (hj : j ≤ n) : CI (S := wF × Nat × Int32 × Nat × Int32) l yX7_wrongWithout wsX7_wrongWithout (rm 4 93) G [.ref r.1, .int (nI j)] (wU G r (s, P, U, p, X, y, q0, q1, q2, q3, sp, re, B, wd, hg, ow)) (fun x u9 => x = nI (wwN lc n lr rc s j)) (fun u9 => wU G r (s, P, u9.1, p, X, y, u9.2.1, u9.2.2.1, u9.2.2.2.1, u9.2.2.2.2, sp, re, B, wd, hg, ow)) := by
  refine CI.of (own := RX7) rfl (by decide) rfl (Nat.le_of_ble_eq_true rfl) ?_
  intro p9 e9 s9 m9 b9 t9 c9 A xE xB xM xO xT xK xP xD Q xQ xS ls hl
  have xL : lv_has ls 5 [(0, .ref r.1), (1, .int (nI j))] := hl
  obtain ⟨g0, g1, g2, g3, g4, ⟨hn1, hn2, hn3⟩, hm1, hm2, hm3, hm4, hm5, hm6⟩ := id hD
  refine lv_iconst (v := nI 0) xE xB dX7_wrongWithout_0 (by decide) ?_
  refine lv_istore_n (lv' := [(2, .int (nI 0)), (0, .ref r.1), (1, .int (nI j))]) xE xB dX7_wrongWithout_1 rfl xL (by decide) rfl (fun ls xL => ?_)
  have L_2 : ∀ (n_2 : Nat) (i : Nat) (z : wF), (i ≤ 269) → (z = cpN 0 i s U) → 269 - i < n_2 → ∀ (H : Heap) (locs : List Loc), va_P G.1 vwCl (wU G r (s, P, z, p, X, y, q0, q1, q2, q3, sp, re, B, wd, hg, ow)) H → va_D A (wU G r (s, P, z, p, X, y, q0, q1, q2, q3, sp, re, B, wd, hg, ow)) → va_S A s9.heap H locs → ∀ (ls : Array Slot), lv_has ls 5 [(0, .ref r.1), (1, .int (nI j)), (2, .int (nI i))] → W p9 l e9 (rm 4 93) s9 m9 ([.ref r.1, .int (nI j)] : List Value).toArray b9 t9 c9 H locs 0 0 Q (F0 m9 2 ls []) := by
    intro n_2
    induction n_2 with
    | zero => intro i z hi hz hm_2 H locs xP xD xS ls xL; exact absurd hm_2 (Nat.not_lt_zero _)
    | succ n_2 ih_2 =>
      intro i z hi hz hm_2 H locs xP xD xS ls xL
      refine lv_iload_n xE xB dX7_wrongWithout_2 rfl (lv_at xL 2 rfl) ?_
      refine lv_sipush (v := nI 269) xE xB dX7_wrongWithout_3 (by decide) ?_
      refine q_icmp_ge (tgt := 27) xE xB dX7_wrongWithout_6 (by decide) (by omega) (by omega) (fun c_6 => ?_) (fun c_6 => ?_)
      · skip
        obtain rfl : i = 269 := by omega
        subst hz
        have xP : va_P G.1 vwCl (wU G r (s, P, cpN 0 269 s U, p, X, y, q0, q1, q2, q3, sp, re, B, wd, hg, ow)) H := xP
        have xD : va_D A (wU G r (s, P, cpN 0 269 s U, p, X, y, q0, q1, q2, q3, sp, re, B, wd, hg, ow)) := xD
        have hD2 := RelD_o hD hj
        have hpos := tkN_b hD
        refine lv_aload_n xE xB dX7_wrongWithout_27 rfl (lv_at xL 0 rfl) ?_
        refine va_get (D := G.1) (ci := 7) (v := .ref r.2.1) (C := RX7) (T := TX7) (N := 16) xE xB xT khX7_wrongWithout_X7 xO xK.1 xP 0 rfl rfl 0 (by decide) (xT _ kX7_wrongWithout_f7) (fun _ h9 => h9) rfl dX7_wrongWithout_28 ?_
        refine lv_iconst (v := nI 4) xE xB dX7_wrongWithout_31 (by decide) ?_
        refine lv_iload_n xE xB dX7_wrongWithout_32 rfl (lv_at xL 1 rfl) ?_
        refine q_ast xE xB xK xP xD xS 1 rfl (by omega) (by decide) dX7_wrongWithout_33 (fun H locs xP xD xS => ?_)
        have xP : va_P G.1 vwCl (wU G r (upd s 4 (nI j), P, cpN 0 269 s U, p, X, y, q0, q1, q2, q3, sp, re, B, wd, hg, ow)) H := xP
        have xD : va_D A (wU G r (upd s 4 (nI j), P, cpN 0 269 s U, p, X, y, q0, q1, q2, q3, sp, re, B, wd, hg, ow)) := xD
        refine lv_aload_n xE xB dX7_wrongWithout_34 rfl (lv_at xL 0 rfl) ?_
        refine q_VI (As := []) (rest := []) ⟨xE, xB, xM, xO, xT⟩ (kX7_doesAll l G r (upd s 4 (nI j)) P (cpN 0 269 s U) p X y q0 q1 q2 q3 sp re B wd hg ow n j lr lc rc (by exact hD2) (by exact hp)) (cwV 0 xT gX7_wrongWithout_X7_doesAll rfl rfl rfl (by decide +kernel) ⟨Nat.le_of_ble_eq_true rfl, Nat.le_of_ble_eq_true rfl⟩) xK xP xD xS [0, 1, 2, 3, 4, 5] rfl (by decide +kernel) (fun _ => rfl) 0 rfl rfl rfl rfl xL.1 rfl (Nat.le_of_ble_eq_true rfl) dX7_wrongWithout_35 ⟨Nat.le_refl _, Nat.le_refl _⟩ (fun r_35 u_35 H locs h_35 xP xD xS => ?_)
        have xP : va_P G.1 vwCl (wU G r (alF lc n j lr rc (upd s 4 (nI j)), P, cpN 0 269 s U, p, X, y, u_35.1, u_35.2.1, u_35.2.2.1, u_35.2.2.2, sp, re, B, wd, hg, ow)) H := xP
        have xD : va_D A (wU G r (alF lc n j lr rc (upd s 4 (nI j)), P, cpN 0 269 s U, p, X, y, u_35.1, u_35.2.1, u_35.2.2.1, u_35.2.2.2, sp, re, B, wd, hg, ow)) := xD
        have h_35 : r_35 = nI (tkN lc n lr rc) := h_35
        subst h_35
        refine lv_istore_n (lv' := [(2, .int (nI (tkN lc n lr rc))), (0, .ref r.1), (1, .int (nI j))]) xE xB dX7_wrongWithout_38 rfl xL (by decide) rfl (fun ls xL => ?_)
        refine lv_iload_n xE xB dX7_wrongWithout_39 rfl (lv_at xL 0 rfl) ?_
        refine q_if_le (tgt := 50) xE xB dX7_wrongWithout_40 (by decide) (by omega) (fun c_40 => absurd c_40 (by omega)) (fun c_40 => ?_)
        refine lv_aload_n xE xB dX7_wrongWithout_43 rfl (lv_at xL 1 rfl) ?_
        refine q_VR (As := []) (rest := []) ⟨xE, xB, xM, xO, xT⟩ (kX7_wrong l G r (alF lc n j lr rc (upd s 4 (nI j))) P (cpN 0 269 s U) p X y u_35.1 u_35.2.1 u_35.2.2.1 u_35.2.2.2 sp re B wd hg ow n j lr lc rc (by exact hD2.e alF_lo)) (cwV 0 xT gX7_wrongWithout_X7_wrong rfl rfl rfl (by decide +kernel) ⟨Nat.le_of_ble_eq_true rfl, Nat.le_of_ble_eq_true rfl⟩) xK xP [0, 1, 2, 3, 4, 5] rfl 0 rfl rfl rfl rfl xL.1 rfl (Nat.le_of_ble_eq_true rfl) dX7_wrongWithout_44 ⟨Nat.le_refl _, Nat.le_refl _⟩ (fun r_44 h_44 => ?_)
        obtain rfl : r_44 = nI (wrN lr lc rc (alF lc n j lr rc (upd s 4 (nI j)))) := h_44
        refine lv_goto (tgt := 51) xE xB dX7_wrongWithout_47 (by decide) ?_
        refine lv_istore_n (lv' := [(3, .int (nI (wrN lr lc rc (alF lc n j lr rc (upd s 4 (nI j)))))), (2, .int (nI (tkN lc n lr rc))), (0, .ref r.1), (1, .int (nI j))]) xE xB dX7_wrongWithout_51 rfl xL (by decide) rfl (fun ls xL => ?_)
        refine lv_iconst (v := nI 0) xE xB dX7_wrongWithout_52 (by decide) ?_
        refine lv_istore (lv' := [(4, .int (nI 0)), (3, .int (nI (wrN lr lc rc (alF lc n j lr rc (upd s 4 (nI j)))))), (2, .int (nI (tkN lc n lr rc))), (0, .ref r.1), (1, .int (nI j))]) xE xB dX7_wrongWithout_53 xL (by decide) rfl (fun ls xL => ?_)
        have L_55 : ∀ (n_55 : Nat) (k : Nat) (v : wF), (k ≤ 269) → (v = cpN 0 k (cpN 0 269 s U) (alF lc n j lr rc (upd s 4 (nI j)))) → 269 - k < n_55 → ∀ (H : Heap) (locs : List Loc), va_P G.1 vwCl (wU G r (v, P, cpN 0 269 s U, p, X, y, u_35.1, u_35.2.1, u_35.2.2.1, u_35.2.2.2, sp, re, B, wd, hg, ow)) H → va_D A (wU G r (v, P, cpN 0 269 s U, p, X, y, u_35.1, u_35.2.1, u_35.2.2.1, u_35.2.2.2, sp, re, B, wd, hg, ow)) → va_S A s9.heap H locs → ∀ (ls : Array Slot), lv_has ls 5 [(0, .ref r.1), (3, .int (nI (wrN lr lc rc (alF lc n j lr rc (upd s 4 (nI j)))))), (4, .int (nI k))] → W p9 l e9 (rm 4 93) s9 m9 ([.ref r.1, .int (nI j)] : List Value).toArray b9 t9 c9 H locs 0 0 Q (F0 m9 55 ls []) := by
          intro n_55
          induction n_55 with
          | zero => intro k v hk hv hm_55 H locs xP xD xS ls xL; exact absurd hm_55 (Nat.not_lt_zero _)
          | succ n_55 ih_55 =>
            intro k v hk hv hm_55 H locs xP xD xS ls xL
            refine lv_iload xE xB dX7_wrongWithout_55 (lv_at xL 2 rfl) ?_
            refine lv_sipush (v := nI 269) xE xB dX7_wrongWithout_57 (by decide) ?_
            refine q_icmp_ge (tgt := 83) xE xB dX7_wrongWithout_60 (by decide) (by omega) (by omega) (fun c_60 => ?_) (fun c_60 => ?_)
            · skip
              obtain rfl : k = 269 := by omega
              obtain ⟨xP, xD⟩ := q_ext (f := v) s xP xD 1 rfl (fun k9 h9 => (by rw [hv, cpN_in h9, cpN_in h9]))
              have xP : va_P G.1 vwCl (wU G r (s, P, cpN 0 269 s U, p, X, y, u_35.1, u_35.2.1, u_35.2.2.1, u_35.2.2.2, sp, re, B, wd, hg, ow)) H := xP
              have xD : va_D A (wU G r (s, P, cpN 0 269 s U, p, X, y, u_35.1, u_35.2.1, u_35.2.2.1, u_35.2.2.2, sp, re, B, wd, hg, ow)) := xD
              refine lv_iload_n xE xB dX7_wrongWithout_83 rfl (lv_at xL 1 rfl) ?_
              exact xQ _ _ _ _ _ (cpN 0 269 s U, u_35.1, u_35.2.1, u_35.2.2.1, u_35.2.2.2) (by exact rfl) xP xD xS dX7_wrongWithout_84
            · skip
              refine lv_aload_n xE xB dX7_wrongWithout_63 rfl (lv_at xL 0 rfl) ?_
              refine va_get (D := G.1) (ci := 7) (v := .ref r.2.1) (C := RX7) (T := TX7) (N := 16) xE xB xT khX7_wrongWithout_X7 xO xK.1 xP 0 rfl rfl 0 (by decide) (xT _ kX7_wrongWithout_f7) (fun _ h9 => h9) rfl dX7_wrongWithout_64 ?_
              refine lv_iload xE xB dX7_wrongWithout_67 (lv_at xL 2 rfl) ?_
              refine lv_aload_n xE xB dX7_wrongWithout_69 rfl (lv_at xL 0 rfl) ?_
              refine va_get (D := G.1) (ci := 7) (v := .ref r.2.2.2.1) (C := RX7) (T := TX7) (N := 16) xE xB xT khX7_wrongWithout_X7 xO xK.1 xP 0 rfl rfl 2 (by decide) (xT _ kX7_wrongWithout_f16) (fun _ h9 => h9) rfl dX7_wrongWithout_70 ?_
              refine lv_iload xE xB dX7_wrongWithout_73 (lv_at xL 2 rfl) ?_
              refine q_ald xE xB xK xP 3 rfl (by omega) (by decide) dX7_wrongWithout_75 ?_
              refine q_ast xE xB xK xP xD xS 1 rfl (by omega) (by decide) dX7_wrongWithout_76 (fun H locs xP xD xS => ?_)
              have xP : va_P G.1 vwCl (wU G r (upd v k ((cpN 0 269 s U) k), P, cpN 0 269 s U, p, X, y, u_35.1, u_35.2.1, u_35.2.2.1, u_35.2.2.2, sp, re, B, wd, hg, ow)) H := xP
              have xD : va_D A (wU G r (upd v k ((cpN 0 269 s U) k), P, cpN 0 269 s U, p, X, y, u_35.1, u_35.2.1, u_35.2.2.1, u_35.2.2.2, sp, re, B, wd, hg, ow)) := xD
              refine lv_iinc (v := nI (k + 1)) (lv' := [(4, .int (nI (k + 1))), (0, .ref r.1), (3, .int (nI (wrN lr lc rc (alF lc n j lr rc (upd s 4 (nI j))))))]) xE xB dX7_wrongWithout_77 xL (k := 2) rfl (q_inc _ _) (by decide) rfl (fun ls xL => ?_)
              refine lv_goto (tgt := 55) xE xB dX7_wrongWithout_80 (by decide) ?_
              exact ih_55 (k + 1) (upd v k ((cpN 0 269 s U) k)) (by omega) (by rw [hv]; exact cpN_z k (cpN 0 269 s U) (alF lc n j lr rc (upd s 4 (nI j)))) (by omega) _ _ xP xD xS _ (lv_sub xL [1, 2, 0] rfl)
        exact L_55 (269 - 0 + 1) 0 (alF lc n j lr rc (upd s 4 (nI j))) (by omega) (by exact (cpN_0 0 _ _).symm) (Nat.lt_succ_self _) _ _ xP xD xS _ (lv_sub xL [3, 1, 0] rfl)
      · skip
        refine lv_aload_n xE xB dX7_wrongWithout_9 rfl (lv_at xL 0 rfl) ?_
        refine va_get (D := G.1) (ci := 7) (v := .ref r.2.2.2.1) (C := RX7) (T := TX7) (N := 16) xE xB xT khX7_wrongWithout_X7 xO xK.1 xP 0 rfl rfl 2 (by decide) (xT _ kX7_wrongWithout_f16) (fun _ h9 => h9) rfl dX7_wrongWithout_10 ?_
        refine lv_iload_n xE xB dX7_wrongWithout_13 rfl (lv_at xL 2 rfl) ?_
        refine lv_aload_n xE xB dX7_wrongWithout_14 rfl (lv_at xL 0 rfl) ?_
        refine va_get (D := G.1) (ci := 7) (v := .ref r.2.1) (C := RX7) (T := TX7) (N := 16) xE xB xT khX7_wrongWithout_X7 xO xK.1 xP 0 rfl rfl 0 (by decide) (xT _ kX7_wrongWithout_f7) (fun _ h9 => h9) rfl dX7_wrongWithout_15 ?_
        refine lv_iload_n xE xB dX7_wrongWithout_18 rfl (lv_at xL 2 rfl) ?_
        refine q_ald xE xB xK xP 1 rfl (by omega) (by decide) dX7_wrongWithout_19 ?_
        refine q_ast xE xB xK xP xD xS 3 rfl (by omega) (by decide) dX7_wrongWithout_20 (fun H locs xP xD xS => ?_)
        have xP : va_P G.1 vwCl (wU G r (s, P, upd z i (s i), p, X, y, q0, q1, q2, q3, sp, re, B, wd, hg, ow)) H := xP
        have xD : va_D A (wU G r (s, P, upd z i (s i), p, X, y, q0, q1, q2, q3, sp, re, B, wd, hg, ow)) := xD
        refine lv_iinc (v := nI (i + 1)) (lv' := [(2, .int (nI (i + 1))), (0, .ref r.1), (1, .int (nI j))]) xE xB dX7_wrongWithout_21 xL (k := 2) rfl (q_inc _ _) (by decide) rfl (fun ls xL => ?_)
        refine lv_goto (tgt := 2) xE xB dX7_wrongWithout_24 (by decide) ?_
        exact ih_2 (i + 1) (upd z i (s i)) (by omega) (by rw [hz]; exact cpN_z i s U) (by omega) _ _ xP xD xS _ (lv_sub xL [1, 2, 0] rfl)
  exact L_2 (269 - 0 + 1) 0 U (by omega) (by exact (cpN_0 0 s U).symm) (Nat.lt_succ_self _) _ _ xP xD xS _ (lv_sub xL [1, 2, 0] rfl)
theorem kX7_wouldBeWrong_c37 : Cond.constant RX7 37 (-1000001) ∈ wsX7_wouldBeWrong := by decide +kernel
theorem kX7_wouldBeWrong_f7 : Cond.fieldLink RX7 7 "SkewedSquareModel" "s" "[I" ∈ wsX7_wouldBeWrong := by decide +kernel
theorem khX7_wouldBeWrong_X7 : ∀ w ∈ u_ws RX7 TX7 16, w ∈ wsX7_wouldBeWrong := by decide +kernel
set_option maxHeartbeats 4000000 in
set_option maxRecDepth 100000 in
/-- kX7_wouldBeWrong -/
theorem kX7_wouldBeWrong (l : Launch) (G : wG) (r : RA) (s P U : wF) (p : Nat) (X : wF) (y q0 : Nat) (q1 : Int32) (q2 : Nat) (q3 : Int32) (sp re : Nat) (B : wF) (wd hg ow : Nat) (n o lr lc rc : Nat) (v1 : Int32) (hD : RelD n o lr lc rc s) (hp : p ≤ 4) : CI (S := wF × Nat × Int32 × Nat × Int32) l yX7_wouldBeWrong wsX7_wouldBeWrong (rm 5 117) G [.ref r.1, .int v1] (wU G r (s, P, U, p, X, y, q0, q1, q2, q3, sp, re, B, wd, hg, ow)) (fun x u9 => x = wbA lc n lr rc v1 s) (fun u9 => wU G r (s, P, u9.1, p, X, y, u9.2.1, u9.2.2.1, u9.2.2.2.1, u9.2.2.2.2, sp, re, B, wd, hg, ow)) := by
  refine CI.of (own := RX7) rfl (by decide) rfl (Nat.le_of_ble_eq_true rfl) ?_
  intro p9 e9 s9 m9 b9 t9 c9 A xE xB xM xO xT xK xP xD Q xQ xS ls hl
  have xL : lv_has ls 2 [(0, .ref r.1), (1, .int v1)] := hl
  obtain ⟨g0, g1, g2, g3, g4, ⟨hn1, hn2, hn3⟩, hm1, hm2, hm3, hm4, hm5, hm6⟩ := id hD
  refine lv_iload_n xE xB dX7_wouldBeWrong_0 rfl (lv_at xL 1 rfl) ?_
  refine lv_iconst (v := nI 0) xE xB dX7_wouldBeWrong_1 (by decide) ?_
  refine lv_aload_n xE xB dX7_wouldBeWrong_2 rfl (lv_at xL 0 rfl) ?_
  refine va_get (D := G.1) (ci := 7) (v := .ref r.2.1) (C := RX7) (T := TX7) (N := 16) xE xB xT khX7_wouldBeWrong_X7 xO xK.1 xP 0 rfl rfl 0 (by decide) (xT _ kX7_wouldBeWrong_f7) (fun _ h9 => h9) rfl dX7_wouldBeWrong_3 ?_
  refine lv_iconst (v := nI 0) xE xB dX7_wouldBeWrong_6 (by decide) ?_
  refine q_ald xE xB xK xP 1 rfl (by omega) (by decide) dX7_wouldBeWrong_7 ?_
  refine q_eq (y := nI n) (congrArg (fun z => z) (g0)) ?_
  refine q_SR (As := [.int v1, .int (nI 0), .int (nI n)]) (rest := []) ⟨xE, xB, xM, xO, xT⟩ (kX7_in l G v1 (nI 0) (nI n)) (va_cwS 3 xT gX7_wouldBeWrong_X7_in rfl rfl rfl (by decide +kernel) ⟨Nat.le_of_ble_eq_true rfl, Nat.le_of_ble_eq_true rfl⟩) xK xP [] rfl rfl xL.1 rfl (Nat.le_of_ble_eq_true rfl) dX7_wouldBeWrong_8 ⟨Nat.le_refl _, Nat.le_refl _⟩ (fun r_8 h_8 => ?_)
  rcases h_8 with ⟨h_8, c_8⟩ | ⟨h_8, c_8⟩
  · skip
    subst h_8
    have c_8 : ((nI 0) : Int32).toInt ≤ v1.toInt ∧ v1.toInt ≤ ((nI n) : Int32).toInt := c_8
    refine lv_if_eq (tgt := 22) xE xB dX7_wouldBeWrong_11 (by decide) (fun h9 => absurd h9 (by decide)) (fun _ => ?_)
    (try (first | replace c_8 := (in_R (by omega) (by omega)).mp c_8 | replace c_8 := mt (in_R (by omega) (by omega)).mpr c_8))
    have e_v1 : v1 = nI (tN v1) := tN_eq (by omega)
    have b_v1 : (tN v1 : Int) = v1.toInt := tN_z (by omega)
    rw [e_v1] at xL
    have xL : lv_has ls 2 [(0, .ref r.1), (1, .int (nI (tN v1)))] := xL
    refine lv_aload_n xE xB dX7_wouldBeWrong_14 rfl (lv_at xL 0 rfl) ?_
    refine lv_iload_n xE xB dX7_wouldBeWrong_15 rfl (lv_at xL 1 rfl) ?_
    refine q_VI (As := [.int (nI (tN v1))]) (rest := []) ⟨xE, xB, xM, xO, xT⟩ (kX7_wrongWithout l G r s P U p X y q0 q1 q2 q3 sp re B wd hg ow n o lr lc rc (tN v1) (by exact hD) (by exact hp) (by omega)) (cwV 1 xT gX7_wouldBeWrong_X7_wrongWithout rfl rfl rfl (by decide +kernel) ⟨Nat.le_of_ble_eq_true rfl, Nat.le_of_ble_eq_true rfl⟩) xK xP xD xS [0, 1, 2, 3, 4, 5] rfl (by decide +kernel) (fun _ => rfl) 0 rfl rfl rfl rfl xL.1 rfl (Nat.le_of_ble_eq_true rfl) dX7_wouldBeWrong_16 ⟨Nat.le_refl _, Nat.le_refl _⟩ (fun r_16 u_16 H locs h_16 xP xD xS => ?_)
    have xP : va_P G.1 vwCl (wU G r (s, P, u_16.1, p, X, y, u_16.2.1, u_16.2.2.1, u_16.2.2.2.1, u_16.2.2.2.2, sp, re, B, wd, hg, ow)) H := xP
    have xD : va_D A (wU G r (s, P, u_16.1, p, X, y, u_16.2.1, u_16.2.2.1, u_16.2.2.2.1, u_16.2.2.2.2, sp, re, B, wd, hg, ow)) := xD
    have h_16 : r_16 = nI (wwN lc n lr rc s (tN v1)) := h_16
    refine lv_goto (tgt := 24) xE xB dX7_wouldBeWrong_19 (by decide) ?_
    exact xQ _ _ _ _ _ (u_16.1, u_16.2.1, u_16.2.2.1, u_16.2.2.2.1, u_16.2.2.2.2) (by first | exact h_16.trans (if_pos (by omega)).symm | ((try (first | replace c_8 := (in_R (by omega) (by omega)).mp c_8 | replace c_8 := mt (in_R (by omega) (by omega)).mpr c_8)); exact (if_neg (by omega)).symm)) xP xD xS dX7_wouldBeWrong_24
  · skip
    subst h_8
    have c_8 : ¬ (((nI 0) : Int32).toInt ≤ v1.toInt ∧ v1.toInt ≤ ((nI n) : Int32).toInt) := c_8
    refine lv_if_eq (tgt := 22) xE xB dX7_wouldBeWrong_11 (by decide) (fun _ => ?_) (fun h9 => absurd (by decide) h9)
    refine lv_ldc (v := (-1000001)) xE xB xO (xT _ kX7_wouldBeWrong_c37) dX7_wouldBeWrong_22 ?_
    exact xQ _ _ _ _ _ (U, q0, q1, q2, q3) (by first | exact h_16.trans (if_pos (by omega)).symm | ((try (first | replace c_8 := (in_R (by omega) (by omega)).mp c_8 | replace c_8 := mt (in_R (by omega) (by omega)).mpr c_8)); exact (if_neg (by omega)).symm)) xP xD xS dX7_wouldBeWrong_24
theorem kX7_best_f7 : Cond.fieldLink RX7 7 "SkewedSquareModel" "s" "[I" ∈ wsX7_best := by decide +kernel
theorem khX7_best_X7 : ∀ w ∈ u_ws RX7 TX7 16, w ∈ wsX7_best := by decide +kernel
set_option maxHeartbeats 4000000 in
set_option maxRecDepth 100000 in
/-- kX7_best -/
theorem kX7_best (l : Launch) (G : wG) (r : RA) (s P U : wF) (p : Nat) (X : wF) (y q0 : Nat) (q1 : Int32) (q2 : Nat) (q3 : Int32) (sp re : Nat) (B : wF) (wd hg ow : Nat) (n o lr lc rc : Nat) (hD : RelD n o lr lc rc s) (hp : p ≤ 4) : CI (S := wF × Nat × Int32 × Nat × Int32) l yX7_best wsX7_best (rm 5 117) G [.ref r.1] (wU G r (s, P, U, p, X, y, q0, q1, q2, q3, sp, re, B, wd, hg, ow)) (fun x u9 => x = beA lc n lr rc s) (fun u9 => wU G r (s, P, u9.1, p, X, y, u9.2.1, u9.2.2.1, u9.2.2.2.1, u9.2.2.2.2, sp, re, B, wd, hg, ow)) := by
  refine CI.of (own := RX7) rfl (by decide) rfl (Nat.le_of_ble_eq_true rfl) ?_
  intro p9 e9 s9 m9 b9 t9 c9 A xE xB xM xO xT xK xP xD Q xQ xS ls hl
  have xL : lv_has ls 5 [(0, .ref r.1)] := hl
  obtain ⟨g0, g1, g2, g3, g4, ⟨hn1, hn2, hn3⟩, hm1, hm2, hm3, hm4, hm5, hm6⟩ := id hD
  refine lv_iconst (v := nI 0) xE xB dX7_best_0 (by decide) ?_
  refine lv_istore_n (lv' := [(1, .int (nI 0)), (0, .ref r.1)]) xE xB dX7_best_1 rfl xL (by decide) rfl (fun ls xL => ?_)
  refine lv_aload_n xE xB dX7_best_2 rfl (lv_at xL 1 rfl) ?_
  refine lv_iconst (v := nI 0) xE xB dX7_best_3 (by decide) ?_
  refine q_VI (As := [.int (nI 0)]) (rest := []) ⟨xE, xB, xM, xO, xT⟩ (kX7_wrongWithout l G r s P U p X y q0 q1 q2 q3 sp re B wd hg ow n o lr lc rc 0 (by exact hD) (by exact hp) (by omega)) (cwV 1 xT gX7_best_X7_wrongWithout rfl rfl rfl (by decide +kernel) ⟨Nat.le_of_ble_eq_true rfl, Nat.le_of_ble_eq_true rfl⟩) xK xP xD xS [0, 1, 2, 3, 4, 5] rfl (by decide +kernel) (fun _ => rfl) 0 rfl rfl rfl rfl xL.1 rfl (Nat.le_of_ble_eq_true rfl) dX7_best_4 ⟨Nat.le_refl _, Nat.le_refl _⟩ (fun r_4 u_4 H locs h_4 xP xD xS => ?_)
  have xP : va_P G.1 vwCl (wU G r (s, P, u_4.1, p, X, y, u_4.2.1, u_4.2.2.1, u_4.2.2.2.1, u_4.2.2.2.2, sp, re, B, wd, hg, ow)) H := xP
  have xD : va_D A (wU G r (s, P, u_4.1, p, X, y, u_4.2.1, u_4.2.2.1, u_4.2.2.2.1, u_4.2.2.2.2, sp, re, B, wd, hg, ow)) := xD
  have h_4 : r_4 = nI (wwN lc n lr rc s 0) := h_4
  subst h_4
  refine lv_istore_n (lv' := [(2, .int (nI (wwN lc n lr rc s 0))), (1, .int (nI 0)), (0, .ref r.1)]) xE xB dX7_best_7 rfl xL (by decide) rfl (fun ls xL => ?_)
  refine lv_iconst (v := nI 1) xE xB dX7_best_8 (by decide) ?_
  refine lv_istore_n (lv' := [(3, .int (nI 1)), (2, .int (nI (wwN lc n lr rc s 0))), (1, .int (nI 0)), (0, .ref r.1)]) xE xB dX7_best_9 rfl xL (by decide) rfl (fun ls xL => ?_)
  have L_10 : ∀ (n_10 : Nat) (i bp bq : Nat) (z : wF) (a0 : Nat) (a1 : Int32) (a2 : Nat) (a3 : Int32), (1 ≤ i) → (i ≤ n + 1) → (beL (wwN lc n lr rc s) (i - 1) = (bp, bq)) → (bq ≤ 36) → n + 1 - i < n_10 → ∀ (H : Heap) (locs : List Loc), va_P G.1 vwCl (wU G r (s, P, z, p, X, y, a0, a1, a2, a3, sp, re, B, wd, hg, ow)) H → va_D A (wU G r (s, P, z, p, X, y, a0, a1, a2, a3, sp, re, B, wd, hg, ow)) → va_S A s9.heap H locs → ∀ (ls : Array Slot), lv_has ls 5 [(0, .ref r.1), (1, .int (nI bp)), (2, .int (nI bq)), (3, .int (nI i))] → W p9 l e9 (rm 5 117) s9 m9 ([.ref r.1] : List Value).toArray b9 t9 c9 H locs 0 0 Q (F0 m9 10 ls []) := by
    intro n_10
    induction n_10 with
    | zero => intro i bp bq z a0 a1 a2 a3 h1 h2 h3 h4 hm_10 H locs xP xD xS ls xL; exact absurd hm_10 (Nat.not_lt_zero _)
    | succ n_10 ih_10 =>
      intro i bp bq z a0 a1 a2 a3 h1 h2 h3 h4 hm_10 H locs xP xD xS ls xL
      refine lv_iload_n xE xB dX7_best_10 rfl (lv_at xL 3 rfl) ?_
      refine lv_aload_n xE xB dX7_best_11 rfl (lv_at xL 0 rfl) ?_
      refine va_get (D := G.1) (ci := 7) (v := .ref r.2.1) (C := RX7) (T := TX7) (N := 16) xE xB xT khX7_best_X7 xO xK.1 xP 0 rfl rfl 0 (by decide) (xT _ kX7_best_f7) (fun _ h9 => h9) rfl dX7_best_12 ?_
      refine lv_iconst (v := nI 0) xE xB dX7_best_15 (by decide) ?_
      refine q_ald xE xB xK xP 1 rfl (by omega) (by decide) dX7_best_16 ?_
      refine q_eq (y := nI n) (congrArg (fun z => z) (g0)) ?_
      refine q_icmp_gt (tgt := 44) xE xB dX7_best_17 (by decide) (by omega) (by omega) (fun c_17 => ?_) (fun c_17 => ?_)
      · skip
        refine lv_iload_n xE xB dX7_best_44 rfl (lv_at xL 1 rfl) ?_
        exact xQ _ _ _ _ _ (z, a0, a1, a2, a3) (by obtain rfl : i = n + 1 := (by omega); exact congrArg nI (by have h6 : beL (wwN lc n lr rc s) n = (bp, bq) := h3; rw [h6])) xP xD xS dX7_best_45
      · skip
        refine lv_aload_n xE xB dX7_best_20 rfl (lv_at xL 0 rfl) ?_
        refine lv_iload_n xE xB dX7_best_21 rfl (lv_at xL 3 rfl) ?_
        refine q_VI (As := [.int (nI i)]) (rest := []) ⟨xE, xB, xM, xO, xT⟩ (kX7_wrongWithout l G r s P z p X y a0 a1 a2 a3 sp re B wd hg ow n o lr lc rc i (by exact hD) (by exact hp) (by omega)) (cwV 1 xT gX7_best_X7_wrongWithout rfl rfl rfl (by decide +kernel) ⟨Nat.le_of_ble_eq_true rfl, Nat.le_of_ble_eq_true rfl⟩) xK xP xD xS [0, 1, 2, 3, 4, 5] rfl (by decide +kernel) (fun _ => rfl) 0 rfl rfl rfl rfl xL.1 rfl (Nat.le_of_ble_eq_true rfl) dX7_best_22 ⟨Nat.le_refl _, Nat.le_refl _⟩ (fun r_22 u_22 H locs h_22 xP xD xS => ?_)
        have xP : va_P G.1 vwCl (wU G r (s, P, u_22.1, p, X, y, u_22.2.1, u_22.2.2.1, u_22.2.2.2.1, u_22.2.2.2.2, sp, re, B, wd, hg, ow)) H := xP
        have xD : va_D A (wU G r (s, P, u_22.1, p, X, y, u_22.2.1, u_22.2.2.1, u_22.2.2.2.1, u_22.2.2.2.2, sp, re, B, wd, hg, ow)) := xD
        have h_22 : r_22 = nI (wwN lc n lr rc s i) := h_22
        subst h_22
        have h5 : wwN lc n lr rc s i ≤ 36 := wrN_36 hm2 hm6
        refine lv_istore (lv' := [(4, .int (nI (wwN lc n lr rc s i))), (0, .ref r.1), (1, .int (nI bp)), (2, .int (nI bq)), (3, .int (nI i))]) xE xB dX7_best_25 xL (by decide) rfl (fun ls xL => ?_)
        refine lv_iload xE xB dX7_best_27 (lv_at xL 0 rfl) ?_
        refine lv_iload_n xE xB dX7_best_29 rfl (lv_at xL 3 rfl) ?_
        refine q_icmp_gt (tgt := 38) xE xB dX7_best_30 (by decide) (by omega) (by omega) (fun c_30 => ?_) (fun c_30 => ?_)
        · skip
          refine lv_iinc (v := nI (i + 1)) (lv' := [(3, .int (nI (i + 1))), (4, .int (nI (wwN lc n lr rc s i))), (0, .ref r.1), (1, .int (nI bp)), (2, .int (nI bq))]) xE xB dX7_best_38 xL (k := 4) rfl (q_inc _ _) (by decide) rfl (fun ls xL => ?_)
          refine lv_goto (tgt := 10) xE xB dX7_best_41 (by decide) ?_
          exact ih_10 (i + 1) bp bq u_22.1 u_22.2.1 u_22.2.2.1 u_22.2.2.2.1 u_22.2.2.2.2 (by omega) (by omega) (by first | exact beL_t h1 h3 (by omega) | exact beL_f h1 h3 (by omega)) (by first | exact h4 | exact wrN_36 hm2 hm6) (by omega) _ _ xP xD xS _ (lv_sub xL [2, 3, 4, 0] rfl)
        · skip
          refine lv_iload_n xE xB dX7_best_33 rfl (lv_at xL 4 rfl) ?_
          refine lv_istore_n (lv' := [(1, .int (nI i)), (4, .int (nI (wwN lc n lr rc s i))), (0, .ref r.1), (2, .int (nI bq)), (3, .int (nI i))]) xE xB dX7_best_34 rfl xL (by decide) rfl (fun ls xL => ?_)
          refine lv_iload xE xB dX7_best_35 (lv_at xL 1 rfl) ?_
          refine lv_istore_n (lv' := [(2, .int (nI (wwN lc n lr rc s i))), (1, .int (nI i)), (4, .int (nI (wwN lc n lr rc s i))), (0, .ref r.1), (3, .int (nI i))]) xE xB dX7_best_37 rfl xL (by decide) rfl (fun ls xL => ?_)
          refine lv_iinc (v := nI (i + 1)) (lv' := [(3, .int (nI (i + 1))), (2, .int (nI (wwN lc n lr rc s i))), (1, .int (nI i)), (4, .int (nI (wwN lc n lr rc s i))), (0, .ref r.1)]) xE xB dX7_best_38 xL (k := 4) rfl (q_inc _ _) (by decide) rfl (fun ls xL => ?_)
          refine lv_goto (tgt := 10) xE xB dX7_best_41 (by decide) ?_
          exact ih_10 (i + 1) i (wwN lc n lr rc s i) u_22.1 u_22.2.1 u_22.2.2.1 u_22.2.2.2.1 u_22.2.2.2.2 (by omega) (by omega) (by first | exact beL_t h1 h3 (by omega) | exact beL_f h1 h3 (by omega)) (by first | exact h4 | exact wrN_36 hm2 hm6) (by omega) _ _ xP xD xS _ (lv_sub xL [4, 2, 1, 0] rfl)
  exact L_10 (n + 1 - 1 + 1) 1 0 (wwN lc n lr rc s 0) u_4.1 u_4.2.1 u_4.2.2.1 u_4.2.2.2.1 u_4.2.2.2.2 (by omega) (by omega) (by exact rfl) (by exact wrN_36 hm2 hm6) (Nat.lt_succ_self _) _ _ xP xD xS _ (lv_sub xL [3, 2, 1, 0] rfl)
theorem kX7_undo_c58 : Cond.constant RX7 58 (-1000002) ∈ wsX7_undo := by decide +kernel
theorem kX7_undo_f13 : Cond.fieldLink RX7 13 "SkewedSquareModel" "past" "[I" ∈ wsX7_undo := by decide +kernel
theorem kX7_undo_f25 : Cond.fieldLink RX7 25 "SkewedSquareModel" "pasts" "I" ∈ wsX7_undo := by decide +kernel
theorem kX7_undo_f7 : Cond.fieldLink RX7 7 "SkewedSquareModel" "s" "[I" ∈ wsX7_undo := by decide +kernel
theorem khX7_undo_X7 : ∀ w ∈ u_ws RX7 TX7 16, w ∈ wsX7_undo := by decide +kernel
set_option maxHeartbeats 4000000 in
set_option maxRecDepth 100000 in
/-- kX7_undo -/
theorem kX7_undo (l : Launch) (G : wG) (r : RA) (s P U : wF) (p : Nat) (X : wF) (y q0 : Nat) (q1 : Int32) (q2 : Nat) (q3 : Int32) (sp re : Nat) (B : wF) (wd hg ow : Nat) (pst : PF) (hp : p ≤ 4) (hQ : PQ pst P p) : CI (S := wF × wF × Nat) l yX7_undo wsX7_undo (rm 0 0) G [.ref r.1] (wU G r (s, P, U, p, X, y, q0, q1, q2, q3, sp, re, B, wd, hg, ow)) (fun x u9 => QO x u9 (opUndo s pst p)) (fun u9 => wU G r (u9.1, u9.2.1, U, u9.2.2, X, y, q0, q1, q2, q3, sp, re, B, wd, hg, ow)) := by
  refine CI.of (own := RX7) rfl (by decide) rfl (Nat.le_of_ble_eq_true rfl) ?_
  intro p9 e9 s9 m9 b9 t9 c9 A xE xB xM xO xT xK xP xD Q xQ xS ls hl
  have xL : lv_has ls 2 [(0, .ref r.1)] := hl
  refine lv_aload_n xE xB dX7_undo_0 rfl (lv_at xL 0 rfl) ?_
  refine va_get (D := G.1) (ci := 7) (v := .int (nI p)) (C := RX7) (T := TX7) (N := 16) xE xB xT khX7_undo_X7 xO xK.1 xP 0 rfl rfl 3 (by decide) (xT _ kX7_undo_f25) (fun _ h9 => h9) rfl dX7_undo_1 ?_
  refine q_if_ne (tgt := 10) xE xB dX7_undo_4 (by decide) (by omega) (fun c_4 => ?_) (fun c_4 => ?_)
  · skip
    refine lv_aload_n xE xB dX7_undo_10 rfl (lv_at xL 0 rfl) ?_
    refine lv_dup xE xB dX7_undo_11 rfl ?_
    refine va_get (D := G.1) (ci := 7) (v := .int (nI p)) (C := RX7) (T := TX7) (N := 16) xE xB xT khX7_undo_X7 xO xK.1 xP 0 rfl rfl 3 (by decide) (xT _ kX7_undo_f25) (fun _ h9 => h9) rfl dX7_undo_12 ?_
    refine lv_iconst (v := nI 1) xE xB dX7_undo_15 (by decide) ?_
    refine q_isub xE xB dX7_undo_16 (by omega) ?_
    refine va_put (D := G.1) (ci := 7) (v := .int (nI (p - 1))) (ty := .int) (C := RX7) (T := TX7) (N := 16) xE xB xT khX7_undo_X7 tyX7 tyX7_ok nmX7 xO xK.1 xP xD xS 0 rfl rfl 3 (by decide) (xT _ kX7_undo_f25) (fun _ h9 => h9) rfl (by decide +kernel) rfl rfl (Nat.le_of_ble_eq_true rfl) dX7_undo_17 (fun H locs xP xD xS => ?_)
    have xP : va_P G.1 vwCl (wU G r (s, P, U, p - 1, X, y, q0, q1, q2, q3, sp, re, B, wd, hg, ow)) H := xP
    have xD : va_D A (wU G r (s, P, U, p - 1, X, y, q0, q1, q2, q3, sp, re, B, wd, hg, ow)) := xD
    refine lv_iconst (v := nI 0) xE xB dX7_undo_20 (by decide) ?_
    refine lv_istore_n (lv' := [(1, .int (nI 0)), (0, .ref r.1)]) xE xB dX7_undo_21 rfl xL (by decide) rfl (fun ls xL => ?_)
    have L_22 : ∀ (n_22 : Nat) (i : Nat) (z : wF), (i ≤ 269) → (z = cpN 0 i (fun k9 => P (269 * (p - 1) + k9)) s) → 269 - i < n_22 → ∀ (H : Heap) (locs : List Loc), va_P G.1 vwCl (wU G r (z, P, U, p - 1, X, y, q0, q1, q2, q3, sp, re, B, wd, hg, ow)) H → va_D A (wU G r (z, P, U, p - 1, X, y, q0, q1, q2, q3, sp, re, B, wd, hg, ow)) → va_S A s9.heap H locs → ∀ (ls : Array Slot), lv_has ls 2 [(0, .ref r.1), (1, .int (nI i))] → W p9 l e9 (rm 0 0) s9 m9 ([.ref r.1] : List Value).toArray b9 t9 c9 H locs 0 0 Q (F0 m9 22 ls []) := by
      intro n_22
      induction n_22 with
      | zero => intro i z hi hz hm_22 H locs xP xD xS ls xL; exact absurd hm_22 (Nat.not_lt_zero _)
      | succ n_22 ih_22 =>
        intro i z hi hz hm_22 H locs xP xD xS ls xL
        refine lv_iload_n xE xB dX7_undo_22 rfl (lv_at xL 1 rfl) ?_
        refine lv_sipush (v := nI 269) xE xB dX7_undo_23 (by decide) ?_
        refine q_icmp_ge (tgt := 56) xE xB dX7_undo_26 (by decide) (by omega) (by omega) (fun c_26 => ?_) (fun c_26 => ?_)
        · skip
          obtain rfl : i = 269 := by omega
          obtain ⟨xP, xD⟩ := q_ext (f := z) (pst (p - 1)) xP xD 1 rfl (fun k9 h9 => (by rw [hz, cpN_in h9]; exact (hQ (p - 1) k9 (by omega) h9).symm))
          have xP : va_P G.1 vwCl (wU G r (pst (p - 1), P, U, p - 1, X, y, q0, q1, q2, q3, sp, re, B, wd, hg, ow)) H := xP
          have xD : va_D A (wU G r (pst (p - 1), P, U, p - 1, X, y, q0, q1, q2, q3, sp, re, B, wd, hg, ow)) := xD
          refine lv_aload_n xE xB dX7_undo_56 rfl (lv_at xL 0 rfl) ?_
          refine va_get (D := G.1) (ci := 7) (v := .int (nI (p - 1))) (C := RX7) (T := TX7) (N := 16) xE xB xT khX7_undo_X7 xO xK.1 xP 0 rfl rfl 3 (by decide) (xT _ kX7_undo_f25) (fun _ h9 => h9) rfl dX7_undo_57 ?_
          exact xQ _ _ _ _ _ (pst (p - 1), P, p - 1) (by rw [show opUndo s pst p = (nI (p - 1), pst (p - 1), pst, p - 1) from if_neg (by omega)]; exact ⟨rfl, rfl, rfl, (show p - 1 ≤ 4 by omega), fun i k h1 h2 => hQ i k (Nat.lt_of_lt_of_le (show i < p - 1 from h1) (Nat.sub_le _ _)) h2⟩) xP xD xS dX7_undo_60
        · skip
          refine lv_aload_n xE xB dX7_undo_29 rfl (lv_at xL 0 rfl) ?_
          refine va_get (D := G.1) (ci := 7) (v := .ref r.2.1) (C := RX7) (T := TX7) (N := 16) xE xB xT khX7_undo_X7 xO xK.1 xP 0 rfl rfl 0 (by decide) (xT _ kX7_undo_f7) (fun _ h9 => h9) rfl dX7_undo_30 ?_
          refine lv_iload_n xE xB dX7_undo_33 rfl (lv_at xL 1 rfl) ?_
          refine lv_aload_n xE xB dX7_undo_34 rfl (lv_at xL 0 rfl) ?_
          refine va_get (D := G.1) (ci := 7) (v := .ref r.2.2.1) (C := RX7) (T := TX7) (N := 16) xE xB xT khX7_undo_X7 xO xK.1 xP 0 rfl rfl 1 (by decide) (xT _ kX7_undo_f13) (fun _ h9 => h9) rfl dX7_undo_35 ?_
          refine lv_sipush (v := nI 269) xE xB dX7_undo_38 (by decide) ?_
          refine lv_aload_n xE xB dX7_undo_41 rfl (lv_at xL 0 rfl) ?_
          refine va_get (D := G.1) (ci := 7) (v := .int (nI (p - 1))) (C := RX7) (T := TX7) (N := 16) xE xB xT khX7_undo_X7 xO xK.1 xP 0 rfl rfl 3 (by decide) (xT _ kX7_undo_f25) (fun _ h9 => h9) rfl dX7_undo_42 ?_
          refine q_imul xE xB dX7_undo_45 ?_
          refine lv_iload_n xE xB dX7_undo_46 rfl (lv_at xL 1 rfl) ?_
          refine q_iadd xE xB dX7_undo_47 ?_
          refine q_ald xE xB xK xP 2 rfl (by omega) (by decide) dX7_undo_48 ?_
          refine q_ast xE xB xK xP xD xS 1 rfl (by omega) (by decide) dX7_undo_49 (fun H locs xP xD xS => ?_)
          have xP : va_P G.1 vwCl (wU G r (upd z i (P ((269 * (p - 1)) + i)), P, U, p - 1, X, y, q0, q1, q2, q3, sp, re, B, wd, hg, ow)) H := xP
          have xD : va_D A (wU G r (upd z i (P ((269 * (p - 1)) + i)), P, U, p - 1, X, y, q0, q1, q2, q3, sp, re, B, wd, hg, ow)) := xD
          refine lv_iinc (v := nI (i + 1)) (lv' := [(1, .int (nI (i + 1))), (0, .ref r.1)]) xE xB dX7_undo_50 xL (k := 1) rfl (q_inc _ _) (by decide) rfl (fun ls xL => ?_)
          refine lv_goto (tgt := 22) xE xB dX7_undo_53 (by decide) ?_
          exact ih_22 (i + 1) (upd z i (P (269 * (p - 1) + i))) (by omega) (by rw [hz]; exact cpN_z i (fun k9 => P (269 * (p - 1) + k9)) s) (by omega) _ _ xP xD xS _ (lv_sub xL [1, 0] rfl)
    exact L_22 (269 - 0 + 1) 0 s (by omega) (by exact (cpN_0 0 _ _).symm) (Nat.lt_succ_self _) _ _ xP xD xS _ (lv_sub xL [1, 0] rfl)
  · skip
    refine lv_ldc (v := (-1000002)) xE xB xO (xT _ kX7_undo_c58) dX7_undo_7 ?_
    exact xQ _ _ _ _ _ (s, P, p) (by rw [show opUndo s pst p = (kNP, s, pst, p) from if_pos (by omega)]; exact ⟨rfl, rfl, rfl, hp, hQ⟩) xP xD xS dX7_undo_9
theorem kX7_type_c140 : Cond.constant RX7 140 (-1000003) ∈ wsX7_type := by decide +kernel
theorem kX7_type_c37 : Cond.constant RX7 37 (-1000001) ∈ wsX7_type := by decide +kernel
theorem kX7_type_f131 : Cond.fieldLink RX7 131 "SkewedSquareModel" "typed" "I" ∈ wsX7_type := by decide +kernel
theorem kX7_type_f19 : Cond.fieldLink RX7 19 "SkewedSquareModel" "text" "[I" ∈ wsX7_type := by decide +kernel
theorem khX7_type_X7 : ∀ w ∈ u_ws RX7 TX7 16, w ∈ wsX7_type := by decide +kernel
set_option maxHeartbeats 4000000 in
set_option maxRecDepth 100000 in
/-- kX7_type -/
theorem kX7_type (l : Launch) (G : wG) (r : RA) (s P U : wF) (p : Nat) (X : wF) (y q0 : Nat) (q1 : Int32) (q2 : Nat) (q3 : Int32) (sp re : Nat) (B : wF) (wd hg ow : Nat) (T : Nat → Nat) (v1 : Int32) (hX : RefX X T y) : CI (S := wF × Nat) l yX7_type wsX7_type (rm 1 22) G [.ref r.1, .int v1] (wU G r (s, P, U, p, X, y, q0, q1, q2, q3, sp, re, B, wd, hg, ow)) (fun x u9 => x = tyA y v1 ∧ RefX u9.1 (tyT y v1 T) (tyN y v1) ∧ u9.2 = tyN y v1) (fun u9 => wU G r (s, P, U, p, u9.1, u9.2, q0, q1, q2, q3, sp, re, B, wd, hg, ow)) := by
  refine CI.of (own := RX7) rfl (by decide) rfl (Nat.le_of_ble_eq_true rfl) ?_
  intro p9 e9 s9 m9 b9 t9 c9 A xE xB xM xO xT xK xP xD Q xQ xS ls hl
  have xL : lv_has ls 2 [(0, .ref r.1), (1, .int v1)] := hl
  have hy8 := hX.1
  refine lv_iload_n xE xB dX7_type_0 rfl (lv_at xL 1 rfl) ?_
  refine lv_bipush (v := nI 32) xE xB dX7_type_1 (by decide) ?_
  refine lv_bipush (v := nI 126) xE xB dX7_type_3 (by decide) ?_
  refine q_SR (As := [.int v1, .int (nI 32), .int (nI 126)]) (rest := []) ⟨xE, xB, xM, xO, xT⟩ (kX7_in l G v1 (nI 32) (nI 126)) (va_cwS 3 xT gX7_type_X7_in rfl rfl rfl (by decide +kernel) ⟨Nat.le_of_ble_eq_true rfl, Nat.le_of_ble_eq_true rfl⟩) xK xP [] rfl rfl xL.1 rfl (Nat.le_of_ble_eq_true rfl) dX7_type_5 ⟨Nat.le_refl _, Nat.le_refl _⟩ (fun r_5 h_5 => ?_)
  rcases h_5 with ⟨h_5, c_5⟩ | ⟨h_5, c_5⟩
  · skip
    subst h_5
    have c_5 : ((nI 32) : Int32).toInt ≤ v1.toInt ∧ v1.toInt ≤ ((nI 126) : Int32).toInt := c_5
    refine lv_if_ne (tgt := 14) xE xB dX7_type_8 (by decide) (fun _ => ?_) (fun h9 => absurd h9 (by decide))
    (try (first | replace c_5 := (in_R (by omega) (by omega)).mp c_5 | replace c_5 := mt (in_R (by omega) (by omega)).mpr c_5))
    refine lv_aload_n xE xB dX7_type_14 rfl (lv_at xL 0 rfl) ?_
    refine va_get (D := G.1) (ci := 7) (v := .int (nI y)) (C := RX7) (T := TX7) (N := 16) xE xB xT khX7_type_X7 xO xK.1 xP 0 rfl rfl 5 (by decide) (xT _ kX7_type_f131) (fun _ h9 => h9) rfl dX7_type_15 ?_
    refine lv_bipush (v := nI 80) xE xB dX7_type_18 (by decide) ?_
    refine q_icmp_ne (tgt := 26) xE xB dX7_type_20 (by decide) (by omega) (by omega) (fun c_20 => ?_) (fun c_20 => ?_)
    · skip
      have e_v1 : v1 = nI (tN v1) := tN_eq (by omega)
      have b_v1 : (tN v1 : Int) = v1.toInt := tN_z (by omega)
      rw [e_v1] at xL
      have xL : lv_has ls 2 [(0, .ref r.1), (1, .int (nI (tN v1)))] := xL
      refine lv_aload_n xE xB dX7_type_26 rfl (lv_at xL 0 rfl) ?_
      refine va_get (D := G.1) (ci := 7) (v := .ref r.2.2.2.2.1) (C := RX7) (T := TX7) (N := 16) xE xB xT khX7_type_X7 xO xK.1 xP 0 rfl rfl 4 (by decide) (xT _ kX7_type_f19) (fun _ h9 => h9) rfl dX7_type_27 ?_
      refine lv_aload_n xE xB dX7_type_30 rfl (lv_at xL 0 rfl) ?_
      refine va_get (D := G.1) (ci := 7) (v := .int (nI y)) (C := RX7) (T := TX7) (N := 16) xE xB xT khX7_type_X7 xO xK.1 xP 0 rfl rfl 5 (by decide) (xT _ kX7_type_f131) (fun _ h9 => h9) rfl dX7_type_31 ?_
      refine lv_iload_n xE xB dX7_type_34 rfl (lv_at xL 1 rfl) ?_
      refine q_ast xE xB xK xP xD xS 4 rfl (by omega) (by decide) dX7_type_35 (fun H locs xP xD xS => ?_)
      have xP : va_P G.1 vwCl (wU G r (s, P, U, p, upd X y (nI (tN v1)), y, q0, q1, q2, q3, sp, re, B, wd, hg, ow)) H := xP
      have xD : va_D A (wU G r (s, P, U, p, upd X y (nI (tN v1)), y, q0, q1, q2, q3, sp, re, B, wd, hg, ow)) := xD
      refine lv_aload_n xE xB dX7_type_36 rfl (lv_at xL 0 rfl) ?_
      refine lv_dup xE xB dX7_type_37 rfl ?_
      refine va_get (D := G.1) (ci := 7) (v := .int (nI y)) (C := RX7) (T := TX7) (N := 16) xE xB xT khX7_type_X7 xO xK.1 xP 0 rfl rfl 5 (by decide) (xT _ kX7_type_f131) (fun _ h9 => h9) rfl dX7_type_38 ?_
      refine lv_iconst (v := nI 1) xE xB dX7_type_41 (by decide) ?_
      refine q_iadd xE xB dX7_type_42 ?_
      refine va_put (D := G.1) (ci := 7) (v := .int (nI (y + 1))) (ty := .int) (C := RX7) (T := TX7) (N := 16) xE xB xT khX7_type_X7 tyX7 tyX7_ok nmX7 xO xK.1 xP xD xS 0 rfl rfl 5 (by decide) (xT _ kX7_type_f131) (fun _ h9 => h9) rfl (by decide +kernel) rfl rfl (Nat.le_of_ble_eq_true rfl) dX7_type_43 (fun H locs xP xD xS => ?_)
      have xP : va_P G.1 vwCl (wU G r (s, P, U, p, upd X y (nI (tN v1)), y + 1, q0, q1, q2, q3, sp, re, B, wd, hg, ow)) H := xP
      have xD : va_D A (wU G r (s, P, U, p, upd X y (nI (tN v1)), y + 1, q0, q1, q2, q3, sp, re, B, wd, hg, ow)) := xD
      refine lv_aload_n xE xB dX7_type_46 rfl (lv_at xL 0 rfl) ?_
      refine va_get (D := G.1) (ci := 7) (v := .int (nI (y + 1))) (C := RX7) (T := TX7) (N := 16) xE xB xT khX7_type_X7 xO xK.1 xP 0 rfl rfl 5 (by decide) (xT _ kX7_type_f131) (fun _ h9 => h9) rfl dX7_type_47 ?_
      exact xQ _ _ _ _ _ (upd X y (nI (tN v1)), y + 1) (by exact ⟨((if_pos (by omega)).trans (if_pos (by omega))).symm, RefX_ty hX (by omega) (by omega), (if_pos (by omega)).symm⟩) xP xD xS dX7_type_50
    · skip
      refine lv_ldc (v := (-1000003)) xE xB xO (xT _ kX7_type_c140) dX7_type_23 ?_
      exact xQ _ _ _ _ _ (X, y) (by exact ⟨((if_pos (by omega)).trans (if_neg (by omega))).symm, RefX_no hX (by omega), (if_neg (by omega)).symm⟩) xP xD xS dX7_type_25
  · skip
    subst h_5
    have c_5 : ¬ (((nI 32) : Int32).toInt ≤ v1.toInt ∧ v1.toInt ≤ ((nI 126) : Int32).toInt) := c_5
    refine lv_if_ne (tgt := 14) xE xB dX7_type_8 (by decide) (fun h9 => absurd (by decide) h9) (fun _ => ?_)
    refine lv_ldc (v := (-1000001)) xE xB xO (xT _ kX7_type_c37) dX7_type_11 ?_
    exact xQ _ _ _ _ _ (X, y) (by (try (first | replace c_5 := (in_R (by omega) (by omega)).mp c_5 | replace c_5 := mt (in_R (by omega) (by omega)).mpr c_5)); exact ⟨(if_neg (by omega)).symm, RefX_no hX (by omega), (if_neg (by omega)).symm⟩) xP xD xS dX7_type_13
theorem kX7_clearText_f131 : Cond.fieldLink RX7 131 "SkewedSquareModel" "typed" "I" ∈ wsX7_clearText := by decide +kernel
theorem khX7_clearText_X7 : ∀ w ∈ u_ws RX7 TX7 16, w ∈ wsX7_clearText := by decide +kernel
set_option maxHeartbeats 4000000 in
set_option maxRecDepth 100000 in
/-- kX7_clearText -/
theorem kX7_clearText (l : Launch) (G : wG) (r : RA) (s P U : wF) (p : Nat) (X : wF) (y q0 : Nat) (q1 : Int32) (q2 : Nat) (q3 : Int32) (sp re : Nat) (B : wF) (wd hg ow : Nat) : CI (S := wF × Nat) l yX7_clearText wsX7_clearText (rm 0 0) G [.ref r.1] (wU G r (s, P, U, p, X, y, q0, q1, q2, q3, sp, re, B, wd, hg, ow)) (fun x u9 => x = nI y ∧ u9.2 = 0) (fun u9 => wU G r (s, P, U, p, u9.1, u9.2, q0, q1, q2, q3, sp, re, B, wd, hg, ow)) := by
  refine CI.of (own := RX7) rfl (by decide) rfl (Nat.le_of_ble_eq_true rfl) ?_
  intro p9 e9 s9 m9 b9 t9 c9 A xE xB xM xO xT xK xP xD Q xQ xS ls hl
  have xL : lv_has ls 2 [(0, .ref r.1)] := hl
  refine lv_aload_n xE xB dX7_clearText_0 rfl (lv_at xL 0 rfl) ?_
  refine va_get (D := G.1) (ci := 7) (v := .int (nI y)) (C := RX7) (T := TX7) (N := 16) xE xB xT khX7_clearText_X7 xO xK.1 xP 0 rfl rfl 5 (by decide) (xT _ kX7_clearText_f131) (fun _ h9 => h9) rfl dX7_clearText_1 ?_
  refine lv_istore_n (lv' := [(1, .int (nI y)), (0, .ref r.1)]) xE xB dX7_clearText_4 rfl xL (by decide) rfl (fun ls xL => ?_)
  refine lv_aload_n xE xB dX7_clearText_5 rfl (lv_at xL 1 rfl) ?_
  refine lv_iconst (v := nI 0) xE xB dX7_clearText_6 (by decide) ?_
  refine va_put (D := G.1) (ci := 7) (v := .int (nI 0)) (ty := .int) (C := RX7) (T := TX7) (N := 16) xE xB xT khX7_clearText_X7 tyX7 tyX7_ok nmX7 xO xK.1 xP xD xS 0 rfl rfl 5 (by decide) (xT _ kX7_clearText_f131) (fun _ h9 => h9) rfl (by decide +kernel) rfl rfl (Nat.le_of_ble_eq_true rfl) dX7_clearText_7 (fun H locs xP xD xS => ?_)
  have xP : va_P G.1 vwCl (wU G r (s, P, U, p, X, 0, q0, q1, q2, q3, sp, re, B, wd, hg, ow)) H := xP
  have xD : va_D A (wU G r (s, P, U, p, X, 0, q0, q1, q2, q3, sp, re, B, wd, hg, ow)) := xD
  refine lv_iload_n xE xB dX7_clearText_10 rfl (lv_at xL 0 rfl) ?_
  exact xQ _ _ _ _ _ (X, 0) (by exact ⟨rfl, rfl⟩) xP xD xS dX7_clearText_11
