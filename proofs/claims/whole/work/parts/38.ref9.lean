/-! ref9: ticks, drains, all tiles -/
def K01 (s : wF) : Prop := ∀ j, j < 36 → s (117 + j) = nI 0 ∨ s (117 + j) = nI 1
theorem K01_Z {r c : Nat} {Z s : wF} (h : RelZ r c Z s) : K01 s := fun j hj => by
  have e : 6 * (j / 6) + j % 6 = j := by omega
  rcases h (j / 6) (j % 6) (by omega) (by omega) with ⟨h1, -⟩ | ⟨h1, -⟩
  · rw [e] at h1; exact Or.inr h1
  · rw [e] at h1; exact Or.inl h1
theorem K01_dr {n r c ta tb : Nat} {s : wF} (h : K01 s) (h1 : n * ta < r) (h2 : n * tb < c) (hr : r ≤ 6) (hc : c ≤ 6) : K01 (drF n r c ta tb s) := by
  unfold drF
  refine fun j hj => ?_
  rw [upd_n (by omega)]
  refine upF_inv (P := K01) _ _ (fun a x ha hx => upF_inv (P := K01) _ _ (fun b y hb hy q hq => ?_) hx) h j hj
  unfold drC
  by_cases e : q = 6 * (n * ta + a) + (n * tb + b)
  · rw [e, upd_s]; exact Or.inr rfl
  · rw [upd_n (by omega), upd_n (by omega)]; exact hy q hq
theorem sm_fl {s : wF} : ∀ (m : Nat), (∀ j, j < m → s (117 + j) = nI 0 ∨ s (117 + j) = nI 1) → sm (fun q => s (117 + q)) m = nI (ns (fun q => if s (117 + q) = nI 1 then 1 else 0) m)
  | 0, _ => rfl
  | m + 1, h => by
    show sm (fun q => s (117 + q)) m + s (117 + m) = nI (ns (fun q => if s (117 + q) = nI 1 then 1 else 0) m + (if s (117 + m) = nI 1 then 1 else 0))
    rw [sm_fl m (fun j hj => h j (by omega))]
    rcases h m (Nat.lt_succ_self m) with e | e
    · rw [e, if_neg (by decide), nI_add]
    · rw [e, if_pos rfl, nI_add]
theorem ns_app {f : Nat → Nat} (a : Nat) : ∀ (b : Nat), ns f (a + b) = ns f a + ns (fun j => f (a + j)) b
  | 0 => rfl
  | b + 1 => by
    show ns f (a + b) + f (a + b) = ns f a + (ns (fun j => f (a + j)) b + f (a + b))
    rw [ns_app a b, Nat.add_assoc]
theorem ns_blk {f : Nat → Nat} {w : Nat} : ∀ (m : Nat), ns (fun i => ns (fun j => f (w * i + j)) w) m = ns f (w * m)
  | 0 => by rw [Nat.mul_zero]; rfl
  | m + 1 => by
    show ns (fun i => ns (fun j => f (w * i + j)) w) m + ns (fun j => f (w * m + j)) w = _
    rw [ns_blk (f := f) (w := w) m, Nat.mul_succ, ns_app]
theorem knS {s : wF} (h : K01 s) : sm (fun q => s (117 + q)) 36 = nI (knN s) := by
  rw [sm_fl 36 h]
  exact congrArg nI (ns_blk (f := fun q => if s (117 + q) = nI 1 then 1 else 0) (w := 6) 6).symm

theorem kX7_tick_c37 : Cond.constant RX7 37 (-1000001) ∈ wsX7_tick := by decide +kernel
theorem kX7_tick_c58 : Cond.constant RX7 58 (-1000002) ∈ wsX7_tick := by decide +kernel
theorem kX7_tick_f7 : Cond.fieldLink RX7 7 "SkewedSquareModel" "s" "[I" ∈ wsX7_tick := by decide +kernel
theorem khX7_tick_X7 : ∀ w ∈ u_ws RX7 TX7 16, w ∈ wsX7_tick := by decide +kernel
set_option maxHeartbeats 4000000 in
set_option maxRecDepth 100000 in
/-- kX7_tick -/
theorem kX7_tick (l : Launch) (G : wG) (r : RA) (s P U : wF) (p : Nat) (X : wF) (y q0 : Nat) (q1 : Int32) (q2 : Nat) (q3 : Int32) (sp re : Nat) (B : wF) (wd hg ow : Nat) (n o lr lc rc : Nat) (ta tb : Nat) (tt : Nat) (b : Nat) (pst : PF) (v1 : Int32) (hD : RelD n o lr lc rc s) (hb : b ≤ 1 ∧ s 5 = nI b) (hp : p ≤ 4) (hQ : PQ pst P p) (hT : b = 1 → RelE n lr rc ta tb s ∧ s 8 = nI tt ∧ tt ≤ need lc n lr rc ta tb) : CI (S := wF × wF × Nat × Nat × Int32 × Nat × Int32) l yX7_tick wsX7_tick (rm 3 70) G [.ref r.1, .int v1] (wU G r (s, P, U, p, X, y, q0, q1, q2, q3, sp, re, B, wd, hg, ow)) (fun x u9 => QO x (u9.1, u9.2.1, u9.2.2.1) (opTick lc n o lr rc b ta tb tt v1 s pst p)) (fun u9 => wU G r (u9.1, u9.2.1, U, u9.2.2.1, X, y, u9.2.2.2.1, u9.2.2.2.2.1, u9.2.2.2.2.2.1, u9.2.2.2.2.2.2, sp, re, B, wd, hg, ow)) := by
  refine CI.of (own := RX7) rfl (by decide) rfl (Nat.le_of_ble_eq_true rfl) ?_
  intro p9 e9 s9 m9 b9 t9 c9 A xE xB xM xO xT xK xP xD Q xQ xS ls hl
  have xL : lv_has ls 3 [(0, .ref r.1), (1, .int v1)] := hl
  obtain ⟨g0, g1, g2, g3, g4, ⟨hn1, hn2, hn3⟩, hm1, hm2, hm3, hm4, hm5, hm6⟩ := id hD
  have hb1 := hb.1
  refine lv_iload_n xE xB dX7_tick_0 rfl (lv_at xL 1 rfl) ?_
  refine lv_iconst (v := nI 1) xE xB dX7_tick_1 (by decide) ?_
  refine lv_bipush (v := nI 20) xE xB dX7_tick_2 (by decide) ?_
  refine q_SR (As := [.int v1, .int (nI 1), .int (nI 20)]) (rest := []) ⟨xE, xB, xM, xO, xT⟩ (kX7_in l G v1 (nI 1) (nI 20)) (va_cwS 3 xT gX7_tick_X7_in rfl rfl rfl (by decide +kernel) ⟨Nat.le_of_ble_eq_true rfl, Nat.le_of_ble_eq_true rfl⟩) xK xP [] rfl rfl xL.1 rfl (Nat.le_of_ble_eq_true rfl) dX7_tick_4 ⟨Nat.le_refl _, Nat.le_refl _⟩ (fun r_4 h_4 => ?_)
  rcases h_4 with ⟨h_4, c_4⟩ | ⟨h_4, c_4⟩
  · skip
    subst h_4
    have c_4 : ((nI 1) : Int32).toInt ≤ v1.toInt ∧ v1.toInt ≤ ((nI 20) : Int32).toInt := c_4
    refine lv_if_ne (tgt := 13) xE xB dX7_tick_7 (by decide) (fun _ => ?_) (fun h9 => absurd h9 (by decide))
    (try (first | replace c_4 := (in_R (by omega) (by omega)).mp c_4 | replace c_4 := mt (in_R (by omega) (by omega)).mpr c_4))
    refine lv_aload_n xE xB dX7_tick_13 rfl (lv_at xL 0 rfl) ?_
    refine va_get (D := G.1) (ci := 7) (v := .ref r.2.1) (C := RX7) (T := TX7) (N := 16) xE xB xT khX7_tick_X7 xO xK.1 xP 0 rfl rfl 0 (by decide) (xT _ kX7_tick_f7) (fun _ h9 => h9) rfl dX7_tick_14 ?_
    refine lv_iconst (v := nI 5) xE xB dX7_tick_17 (by decide) ?_
    refine q_ald xE xB xK xP 1 rfl (by omega) (by decide) dX7_tick_18 ?_
    refine q_eq (y := nI b) (congrArg (fun z => z) (hb.2)) ?_
    refine q_if_eq (tgt := 29) xE xB dX7_tick_19 (by decide) (by omega) (fun c_19 => ?_) (fun c_19 => ?_)
    · skip
      refine lv_ldc (v := (-1000002)) xE xB xO (xT _ kX7_tick_c58) dX7_tick_29 ?_
      exact xQ _ _ _ _ _ (s, P, p, q0, q1, q2, q3) (by first | (rw [show opTick lc n o lr rc b ta tb tt v1 s pst p = (kNP, s, pst, p) from (if_pos (by omega)).trans (if_pos (Or.inl (by omega)))]; exact ⟨rfl, rfl, rfl, hp, hQ⟩) | (rw [show opTick lc n o lr rc b ta tb tt v1 s pst p = (kNP, s, pst, p) from (if_pos (by omega)).trans (if_pos (Or.inr (by omega)))]; exact ⟨rfl, rfl, rfl, hp, hQ⟩)) xP xD xS dX7_tick_31
    · skip
      have hb9 : b = 1 := by omega
      obtain ⟨hE, g8, htt⟩ := hT hb9
      obtain ⟨g6, g7, ht1, ht2⟩ := id hE
      have hnd : need lc n lr rc ta tb ≤ 20 := by unfold need; omega
      refine lv_aload_n xE xB dX7_tick_22 rfl (lv_at xL 0 rfl) ?_
      refine q_VR (As := []) (rest := []) ⟨xE, xB, xM, xO, xT⟩ (kX7_isDone l G r s P U p X y q0 q1 q2 q3 sp re B wd hg ow n o lr lc rc ta tb tt (by exact hD) (by exact hE) (by exact g8) (by omega)) (cwV 0 xT gX7_tick_X7_isDone rfl rfl rfl (by decide +kernel) ⟨Nat.le_of_ble_eq_true rfl, Nat.le_of_ble_eq_true rfl⟩) xK xP [0, 1, 2, 3, 4, 5] rfl 0 rfl rfl rfl rfl xL.1 rfl (Nat.le_of_ble_eq_true rfl) dX7_tick_23 ⟨Nat.le_refl _, Nat.le_refl _⟩ (fun r_23 h_23 => ?_)
      rcases h_23 with ⟨h_23, c_23⟩ | ⟨h_23, c_23⟩
      · skip
        subst h_23
        have c_23 : tt = need lc n lr rc ta tb := c_23
        refine lv_if_eq (tgt := 32) xE xB dX7_tick_26 (by decide) (fun h9 => absurd h9 (by decide)) (fun _ => ?_)
        refine lv_ldc (v := (-1000002)) xE xB xO (xT _ kX7_tick_c58) dX7_tick_29 ?_
        exact xQ _ _ _ _ _ (s, P, p, q0, q1, q2, q3) (by first | (rw [show opTick lc n o lr rc b ta tb tt v1 s pst p = (kNP, s, pst, p) from (if_pos (by omega)).trans (if_pos (Or.inl (by omega)))]; exact ⟨rfl, rfl, rfl, hp, hQ⟩) | (rw [show opTick lc n o lr rc b ta tb tt v1 s pst p = (kNP, s, pst, p) from (if_pos (by omega)).trans (if_pos (Or.inr (by omega)))]; exact ⟨rfl, rfl, rfl, hp, hQ⟩)) xP xD xS dX7_tick_31
      · skip
        subst h_23
        have c_23 : ¬ (tt = need lc n lr rc ta tb) := c_23
        refine lv_if_eq (tgt := 32) xE xB dX7_tick_26 (by decide) (fun _ => ?_) (fun h9 => absurd (by decide) h9)
        refine lv_aload_n xE xB dX7_tick_32 rfl (lv_at xL 0 rfl) ?_
        refine q_VV (As := []) (rest := []) ⟨xE, xB, xM, xO, xT⟩ (kX7_changes l G r s P U p X y q0 q1 q2 q3 sp re B wd hg ow (by omega)) (cwV 0 xT gX7_tick_X7_changes rfl rfl rfl (by decide +kernel) ⟨Nat.le_of_ble_eq_true rfl, Nat.le_of_ble_eq_true rfl⟩) xK xP xD xS [0, 1, 2, 3, 4, 5] rfl (by decide +kernel) (fun _ => rfl) 0 rfl rfl rfl rfl xL.1 rfl (Nat.le_of_ble_eq_true rfl) dX7_tick_33 ⟨Nat.le_refl _, Nat.le_refl _⟩ (fun u_33 H locs h_33 xP xD xS => ?_)
        have xP : va_P G.1 vwCl (wU G r (s, chgQ s P p, U, chgN p, X, y, q0, q1, q2, q3, sp, re, B, wd, hg, ow)) H := xP
        have xD : va_D A (wU G r (s, chgQ s P p, U, chgN p, X, y, q0, q1, q2, q3, sp, re, B, wd, hg, ow)) := xD
        have e_v1 : v1 = nI (tN v1) := tN_eq (by omega)
        have b_v1 : (tN v1 : Int) = v1.toInt := tN_z (by omega)
        rw [e_v1] at xL
        have xL : lv_has ls 3 [(0, .ref r.1), (1, .int (nI (tN v1)))] := xL
        refine lv_iconst (v := nI 0) xE xB dX7_tick_36 (by decide) ?_
        refine lv_istore_n (lv' := [(2, .int (nI 0)), (0, .ref r.1), (1, .int (nI (tN v1)))]) xE xB dX7_tick_37 rfl xL (by decide) rfl (fun ls xL => ?_)
        have L_38 : ∀ (n_38 : Nat) (i : Nat) (z : wF) (a0 : Nat) (a1 : Int32) (a2 : Nat) (a3 : Int32), (i ≤ min (tN v1) (need lc n lr rc ta tb - tt)) → (goN lc n o lr rc ta tb (min (tN v1) (need lc n lr rc ta tb - tt) - i) (tt + i) z = goN lc n o lr rc ta tb (min (tN v1) (need lc n lr rc ta tb - tt)) tt s) → (Lo z s) → (z 8 = nI (tt + i)) → min (tN v1) (need lc n lr rc ta tb - tt) - i < n_38 → ∀ (H : Heap) (locs : List Loc), va_P G.1 vwCl (wU G r (z, chgQ s P p, U, chgN p, X, y, a0, a1, a2, a3, sp, re, B, wd, hg, ow)) H → va_D A (wU G r (z, chgQ s P p, U, chgN p, X, y, a0, a1, a2, a3, sp, re, B, wd, hg, ow)) → va_S A s9.heap H locs → ∀ (ls : Array Slot), lv_has ls 3 [(0, .ref r.1), (1, .int (nI (tN v1))), (2, .int (nI i))] → W p9 l e9 (rm 3 70) s9 m9 ([.ref r.1, .int v1] : List Value).toArray b9 t9 c9 H locs 0 0 Q (F0 m9 38 ls []) := by
          intro n_38
          induction n_38 with
          | zero => intro i z a0 a1 a2 a3 hi hz hlo hz8 hm_38 H locs xP xD xS ls xL; exact absurd hm_38 (Nat.not_lt_zero _)
          | succ n_38 ih_38 =>
            intro i z a0 a1 a2 a3 hi hz hlo hz8 hm_38 H locs xP xD xS ls xL
            refine lv_iload_n xE xB dX7_tick_38 rfl (lv_at xL 2 rfl) ?_
            refine lv_iload_n xE xB dX7_tick_39 rfl (lv_at xL 1 rfl) ?_
            refine q_icmp_ge (tgt := 60) xE xB dX7_tick_40 (by decide) (by omega) (by omega) (fun c_40 => ?_) (fun c_40 => ?_)
            · skip
              refine lv_aload_n xE xB dX7_tick_60 rfl (lv_at xL 0 rfl) ?_
              refine q_VR (As := []) (rest := []) ⟨xE, xB, xM, xO, xT⟩ (kX7_ticks l G r z (chgQ s P p) U (chgN p) X y a0 a1 a2 a3 sp re B wd hg ow n o lr lc rc ta tb (by exact hD.e (fun q9 h9 => hlo q9 (by omega) (by omega))) (by exact hE.e (fun q9 h9 => hlo q9 (by omega) (by omega)))) (cwV 0 xT gX7_tick_X7_ticks rfl rfl rfl (by decide +kernel) ⟨Nat.le_of_ble_eq_true rfl, Nat.le_of_ble_eq_true rfl⟩) xK xP [0, 1, 2, 3, 4, 5] rfl 0 rfl rfl rfl rfl xL.1 rfl (Nat.le_of_ble_eq_true rfl) dX7_tick_61 ⟨Nat.le_refl _, Nat.le_refl _⟩ (fun r_61 h_61 => ?_)
              obtain rfl : r_61 = nI (need lc n lr rc ta tb) := h_61
              refine lv_aload_n xE xB dX7_tick_64 rfl (lv_at xL 0 rfl) ?_
              refine va_get (D := G.1) (ci := 7) (v := .ref r.2.1) (C := RX7) (T := TX7) (N := 16) xE xB xT khX7_tick_X7 xO xK.1 xP 0 rfl rfl 0 (by decide) (xT _ kX7_tick_f7) (fun _ h9 => h9) rfl dX7_tick_65 ?_
              refine lv_bipush (v := nI 8) xE xB dX7_tick_68 (by decide) ?_
              refine q_ald xE xB xK xP 1 rfl (by omega) (by decide) dX7_tick_70 ?_
              refine q_eq (y := nI (tt + i)) (congrArg (fun z => z) (hz8)) ?_
              refine q_isub xE xB dX7_tick_71 (by omega) ?_
              obtain hi9 : i = min (tN v1) (need lc n lr rc ta tb - tt) := by omega
              have hz0 : z = goN lc n o lr rc ta tb (min (tN v1) (need lc n lr rc ta tb - tt)) tt s := by rw [← hz, ← hi9, Nat.sub_self]; rfl
              rw [hz0] at xP xD
              have xP : va_P G.1 vwCl (wU G r (goN lc n o lr rc ta tb (min (tN v1) (need lc n lr rc ta tb - tt)) tt s, chgQ s P p, U, chgN p, X, y, a0, a1, a2, a3, sp, re, B, wd, hg, ow)) H := xP
              have xD : va_D A (wU G r (goN lc n o lr rc ta tb (min (tN v1) (need lc n lr rc ta tb - tt)) tt s, chgQ s P p, U, chgN p, X, y, a0, a1, a2, a3, sp, re, B, wd, hg, ow)) := xD
              exact xQ _ _ _ _ _ (goN lc n o lr rc ta tb (min (tN v1) (need lc n lr rc ta tb - tt)) tt s, chgQ s P p, chgN p, a0, a1, a2, a3) (by rw [show opTick lc n o lr rc b ta tb tt v1 s pst p = (nI (need lc n lr rc ta tb - (tt + min (tN v1) (need lc n lr rc ta tb - tt))), goN lc n o lr rc ta tb (min (tN v1) (need lc n lr rc ta tb - tt)) tt s, chgP s pst p, chgN p) from (if_pos (by omega)).trans (if_neg (by omega))]; exact ⟨(by rw [hi9]), rfl, rfl, chgN_4 hp, PQ_chg hp hQ⟩) xP xD xS dX7_tick_72
            · skip
              refine lv_aload_n xE xB dX7_tick_43 rfl (lv_at xL 0 rfl) ?_
              refine q_VR (As := []) (rest := []) ⟨xE, xB, xM, xO, xT⟩ (kX7_isDone l G r z (chgQ s P p) U (chgN p) X y a0 a1 a2 a3 sp re B wd hg ow n o lr lc rc ta tb (tt + i) (by exact hD.e (fun q9 h9 => hlo q9 (by omega) (by omega))) (by exact hE.e (fun q9 h9 => hlo q9 (by omega) (by omega))) (by exact hz8) (by omega)) (cwV 0 xT gX7_tick_X7_isDone rfl rfl rfl (by decide +kernel) ⟨Nat.le_of_ble_eq_true rfl, Nat.le_of_ble_eq_true rfl⟩) xK xP [0, 1, 2, 3, 4, 5] rfl 0 rfl rfl rfl rfl xL.1 rfl (Nat.le_of_ble_eq_true rfl) dX7_tick_44 ⟨Nat.le_refl _, Nat.le_refl _⟩ (fun r_44 h_44 => ?_)
              rcases h_44 with ⟨h_44, c_44⟩ | ⟨h_44, c_44⟩
              · skip
                subst h_44
                have c_44 : (tt + i) = need lc n lr rc ta tb := c_44
                refine lv_if_ne (tgt := 60) xE xB dX7_tick_47 (by decide) (fun _ => ?_) (fun h9 => absurd h9 (by decide))
                refine lv_aload_n xE xB dX7_tick_60 rfl (lv_at xL 0 rfl) ?_
                refine q_VR (As := []) (rest := []) ⟨xE, xB, xM, xO, xT⟩ (kX7_ticks l G r z (chgQ s P p) U (chgN p) X y a0 a1 a2 a3 sp re B wd hg ow n o lr lc rc ta tb (by exact hD.e (fun q9 h9 => hlo q9 (by omega) (by omega))) (by exact hE.e (fun q9 h9 => hlo q9 (by omega) (by omega)))) (cwV 0 xT gX7_tick_X7_ticks rfl rfl rfl (by decide +kernel) ⟨Nat.le_of_ble_eq_true rfl, Nat.le_of_ble_eq_true rfl⟩) xK xP [0, 1, 2, 3, 4, 5] rfl 0 rfl rfl rfl rfl xL.1 rfl (Nat.le_of_ble_eq_true rfl) dX7_tick_61 ⟨Nat.le_refl _, Nat.le_refl _⟩ (fun r_61 h_61 => ?_)
                obtain rfl : r_61 = nI (need lc n lr rc ta tb) := h_61
                refine lv_aload_n xE xB dX7_tick_64 rfl (lv_at xL 0 rfl) ?_
                refine va_get (D := G.1) (ci := 7) (v := .ref r.2.1) (C := RX7) (T := TX7) (N := 16) xE xB xT khX7_tick_X7 xO xK.1 xP 0 rfl rfl 0 (by decide) (xT _ kX7_tick_f7) (fun _ h9 => h9) rfl dX7_tick_65 ?_
                refine lv_bipush (v := nI 8) xE xB dX7_tick_68 (by decide) ?_
                refine q_ald xE xB xK xP 1 rfl (by omega) (by decide) dX7_tick_70 ?_
                refine q_eq (y := nI (tt + i)) (congrArg (fun z => z) (hz8)) ?_
                refine q_isub xE xB dX7_tick_71 (by omega) ?_
                obtain hi9 : i = min (tN v1) (need lc n lr rc ta tb - tt) := by omega
                have hz0 : z = goN lc n o lr rc ta tb (min (tN v1) (need lc n lr rc ta tb - tt)) tt s := by rw [← hz, ← hi9, Nat.sub_self]; rfl
                rw [hz0] at xP xD
                have xP : va_P G.1 vwCl (wU G r (goN lc n o lr rc ta tb (min (tN v1) (need lc n lr rc ta tb - tt)) tt s, chgQ s P p, U, chgN p, X, y, a0, a1, a2, a3, sp, re, B, wd, hg, ow)) H := xP
                have xD : va_D A (wU G r (goN lc n o lr rc ta tb (min (tN v1) (need lc n lr rc ta tb - tt)) tt s, chgQ s P p, U, chgN p, X, y, a0, a1, a2, a3, sp, re, B, wd, hg, ow)) := xD
                exact xQ _ _ _ _ _ (goN lc n o lr rc ta tb (min (tN v1) (need lc n lr rc ta tb - tt)) tt s, chgQ s P p, chgN p, a0, a1, a2, a3) (by rw [show opTick lc n o lr rc b ta tb tt v1 s pst p = (nI (need lc n lr rc ta tb - (tt + min (tN v1) (need lc n lr rc ta tb - tt))), goN lc n o lr rc ta tb (min (tN v1) (need lc n lr rc ta tb - tt)) tt s, chgP s pst p, chgN p) from (if_pos (by omega)).trans (if_neg (by omega))]; exact ⟨(by rw [hi9]), rfl, rfl, chgN_4 hp, PQ_chg hp hQ⟩) xP xD xS dX7_tick_72
              · skip
                subst h_44
                have c_44 : ¬ ((tt + i) = need lc n lr rc ta tb) := c_44
                refine lv_if_ne (tgt := 60) xE xB dX7_tick_47 (by decide) (fun h9 => absurd (by decide) h9) (fun _ => ?_)
                refine lv_aload_n xE xB dX7_tick_50 rfl (lv_at xL 0 rfl) ?_
                refine q_VV (As := []) (rest := []) ⟨xE, xB, xM, xO, xT⟩ (kX7_goes l G r z (chgQ s P p) U (chgN p) X y a0 a1 a2 a3 sp re B wd hg ow n o lr lc rc ta tb (tt + i) (by exact hD.e (fun q9 h9 => hlo q9 (by omega) (by omega))) (by exact hE.e (fun q9 h9 => hlo q9 (by omega) (by omega))) (by exact hz8) (by omega)) (cwV 0 xT gX7_tick_X7_goes rfl rfl rfl (by decide +kernel) ⟨Nat.le_of_ble_eq_true rfl, Nat.le_of_ble_eq_true rfl⟩) xK xP xD xS [0, 1, 2, 3, 4, 5] rfl (by decide +kernel) (fun _ => rfl) 0 rfl rfl rfl rfl xL.1 rfl (Nat.le_of_ble_eq_true rfl) dX7_tick_51 ⟨Nat.le_refl _, Nat.le_refl _⟩ (fun u_51 H locs h_51 xP xD xS => ?_)
                have xP : va_P G.1 vwCl (wU G r (goF lc n o lr rc ta tb (tt + i) z, chgQ s P p, U, chgN p, X, y, u_51.1, u_51.2.1, u_51.2.2.1, u_51.2.2.2, sp, re, B, wd, hg, ow)) H := xP
                have xD : va_D A (wU G r (goF lc n o lr rc ta tb (tt + i) z, chgQ s P p, U, chgN p, X, y, u_51.1, u_51.2.1, u_51.2.2.1, u_51.2.2.2, sp, re, B, wd, hg, ow)) := xD
                refine lv_iinc (v := nI (i + 1)) (lv' := [(2, .int (nI (i + 1))), (0, .ref r.1), (1, .int (nI (tN v1)))]) xE xB dX7_tick_54 xL (k := 2) rfl (q_inc _ _) (by decide) rfl (fun ls xL => ?_)
                refine lv_goto (tgt := 38) xE xB dX7_tick_57 (by decide) ?_
                exact ih_38 (i + 1) (goF lc n o lr rc ta tb (tt + i) z) u_51.1 u_51.2.1 u_51.2.2.1 u_51.2.2.2 (by omega) (by rw [← hz]; exact goN_s (by omega)) (by exact goF_Lo.trans hlo) (by exact upd_s) (by omega) _ _ xP xD xS _ (lv_sub xL [1, 2, 0] rfl)
        exact L_38 (min (tN v1) (need lc n lr rc ta tb - tt) - 0 + 1) 0 s q0 q1 q2 q3 (by omega) (by rfl) (by exact fun _ _ _ => rfl) (by exact g8) (Nat.lt_succ_self _) _ _ xP xD xS _ (lv_sub xL [1, 2, 0] rfl)
  · skip
    subst h_4
    have c_4 : ¬ (((nI 1) : Int32).toInt ≤ v1.toInt ∧ v1.toInt ≤ ((nI 20) : Int32).toInt) := c_4
    refine lv_if_ne (tgt := 13) xE xB dX7_tick_7 (by decide) (fun h9 => absurd (by decide) h9) (fun _ => ?_)
    refine lv_ldc (v := (-1000001)) xE xB xO (xT _ kX7_tick_c37) dX7_tick_10 ?_
    exact xQ _ _ _ _ _ (s, P, p, q0, q1, q2, q3) (by (try (first | replace c_4 := (in_R (by omega) (by omega)).mp c_4 | replace c_4 := mt (in_R (by omega) (by omega)).mpr c_4)); rw [show opTick lc n o lr rc b ta tb tt v1 s pst p = (kINV, s, pst, p) from if_neg (by omega)]; exact ⟨rfl, rfl, rfl, hp, hQ⟩) xP xD xS dX7_tick_12
theorem kX7_drains_f7 : Cond.fieldLink RX7 7 "SkewedSquareModel" "s" "[I" ∈ wsX7_drains := by decide +kernel
theorem khX7_drains_X7 : ∀ w ∈ u_ws RX7 TX7 16, w ∈ wsX7_drains := by decide +kernel
set_option maxHeartbeats 4000000 in
set_option maxRecDepth 100000 in
/-- kX7_drains -/
theorem kX7_drains (l : Launch) (G : wG) (r : RA) (s P U : wF) (p : Nat) (X : wF) (y q0 : Nat) (q1 : Int32) (q2 : Nat) (q3 : Int32) (sp re : Nat) (B : wF) (wd hg ow : Nat) (n o lr lc rc : Nat) (ta tb : Nat) (hD : RelD n o lr lc rc s) (hE : RelE n lr rc ta tb s) : CV (S := Unit) l yX7_drains wsX7_drains (rm 1 21) G [.ref r.1] (wU G r (s, P, U, p, X, y, q0, q1, q2, q3, sp, re, B, wd, hg, ow)) (fun u9 => True) (fun u9 => wU G r (drF n lr rc ta tb s, P, U, p, X, y, q0, q1, q2, q3, sp, re, B, wd, hg, ow)) := by
  refine CV.of (own := RX7) rfl (by decide) rfl (Nat.le_of_ble_eq_true rfl) ?_
  intro p9 e9 s9 m9 b9 t9 c9 A xE xB xM xO xT xK xP xD Q xQ xS ls hl
  have xL : lv_has ls 4 [(0, .ref r.1)] := hl
  obtain ⟨g0, g1, g2, g3, g4, ⟨hn1, hn2, hn3⟩, hm1, hm2, hm3, hm4, hm5, hm6⟩ := id hD
  obtain ⟨g6, g7, ht1, ht2⟩ := id hE
  refine lv_iconst (v := nI 0) xE xB dX7_drains_0 (by decide) ?_
  refine lv_istore_n (lv' := [(1, .int (nI 0)), (0, .ref r.1)]) xE xB dX7_drains_1 rfl xL (by decide) rfl (fun ls xL => ?_)
  have L_2 : ∀ (n_2 : Nat) (i : Nat) (z : wF), (i ≤ (min n (lr - n * ta))) → (z = upF (fun i => upF (drC n ta tb i) (min n (rc - n * tb))) i s) → (∀ q, q < 81 → z q = s q) → (min n (lr - n * ta)) - i < n_2 → ∀ (H : Heap) (locs : List Loc), va_P G.1 vwCl (wU G r (z, P, U, p, X, y, q0, q1, q2, q3, sp, re, B, wd, hg, ow)) H → va_D A (wU G r (z, P, U, p, X, y, q0, q1, q2, q3, sp, re, B, wd, hg, ow)) → va_S A s9.heap H locs → ∀ (ls : Array Slot), lv_has ls 4 [(0, .ref r.1), (1, .int (nI i))] → W p9 l e9 (rm 1 21) s9 m9 ([.ref r.1] : List Value).toArray b9 t9 c9 H locs 0 0 Q (F0 m9 2 ls []) := by
    intro n_2
    induction n_2 with
    | zero => intro i z hi hz hlo hm_2 H locs xP xD xS ls xL; exact absurd hm_2 (Nat.not_lt_zero _)
    | succ n_2 ih_2 =>
      intro i z hi hz hlo hm_2 H locs xP xD xS ls xL
      refine lv_iload_n xE xB dX7_drains_2 rfl (lv_at xL 1 rfl) ?_
      refine lv_aload_n xE xB dX7_drains_3 rfl (lv_at xL 0 rfl) ?_
      refine q_VR (As := []) (rest := [.int (nI i)]) ⟨xE, xB, xM, xO, xT⟩ (kX7_tileRows l G r z P U p X y q0 q1 q2 q3 sp re B wd hg ow n o lr lc rc ta tb (by exact hD.e (fun q h9 => hlo q (by omega))) (by exact hE.e (fun q h9 => hlo q (by omega)))) (cwV 0 xT gX7_drains_X7_tileRows rfl rfl rfl (by decide +kernel) ⟨Nat.le_of_ble_eq_true rfl, Nat.le_of_ble_eq_true rfl⟩) xK xP [0, 1, 2, 3, 4, 5] rfl 0 rfl rfl rfl rfl xL.1 rfl (Nat.le_of_ble_eq_true rfl) dX7_drains_4 ⟨Nat.le_refl _, Nat.le_refl _⟩ (fun r_4 h_4 => ?_)
      obtain rfl : r_4 = nI (min n (lr - n * ta)) := h_4
      refine q_icmp_ge (tgt := 100) xE xB dX7_drains_7 (by decide) (by omega) (by omega) (fun c_7 => ?_) (fun c_7 => ?_)
      · skip
        refine lv_aload_n xE xB dX7_drains_100 rfl (lv_at xL 0 rfl) ?_
        refine va_get (D := G.1) (ci := 7) (v := .ref r.2.1) (C := RX7) (T := TX7) (N := 16) xE xB xT khX7_drains_X7 xO xK.1 xP 0 rfl rfl 0 (by decide) (xT _ kX7_drains_f7) (fun _ h9 => h9) rfl dX7_drains_101 ?_
        refine lv_iconst (v := nI 5) xE xB dX7_drains_104 (by decide) ?_
        refine lv_iconst (v := nI 0) xE xB dX7_drains_105 (by decide) ?_
        refine q_ast xE xB xK xP xD xS 1 rfl (by omega) (by decide) dX7_drains_106 (fun H locs xP xD xS => ?_)
        have xP : va_P G.1 vwCl (wU G r (upd z 5 (nI 0), P, U, p, X, y, q0, q1, q2, q3, sp, re, B, wd, hg, ow)) H := xP
        have xD : va_D A (wU G r (upd z 5 (nI 0), P, U, p, X, y, q0, q1, q2, q3, sp, re, B, wd, hg, ow)) := xD
        obtain hi9 : i = (min n (lr - n * ta)) := by omega
        rw [hz, hi9] at xP xD
        have xP : va_P G.1 vwCl (wU G r (drF n lr rc ta tb s, P, U, p, X, y, q0, q1, q2, q3, sp, re, B, wd, hg, ow)) H := xP
        have xD : va_D A (wU G r (drF n lr rc ta tb s, P, U, p, X, y, q0, q1, q2, q3, sp, re, B, wd, hg, ow)) := xD
        exact xQ _ _ _ _ () trivial xP xD xS dX7_drains_107
      · skip
        refine lv_iconst (v := nI 0) xE xB dX7_drains_10 (by decide) ?_
        refine lv_istore_n (lv' := [(2, .int (nI 0)), (0, .ref r.1), (1, .int (nI i))]) xE xB dX7_drains_11 rfl xL (by decide) rfl (fun ls xL => ?_)
        have L_12 : ∀ (n_12 : Nat) (j : Nat) (yy : wF), (j ≤ (min n (rc - n * tb))) → (yy = upF (drC n ta tb i) j z) → (∀ q, q < 81 → yy q = s q) → (min n (rc - n * tb)) - j < n_12 → ∀ (H : Heap) (locs : List Loc), va_P G.1 vwCl (wU G r (yy, P, U, p, X, y, q0, q1, q2, q3, sp, re, B, wd, hg, ow)) H → va_D A (wU G r (yy, P, U, p, X, y, q0, q1, q2, q3, sp, re, B, wd, hg, ow)) → va_S A s9.heap H locs → ∀ (ls : Array Slot), lv_has ls 4 [(0, .ref r.1), (1, .int (nI i)), (2, .int (nI j))] → W p9 l e9 (rm 1 21) s9 m9 ([.ref r.1] : List Value).toArray b9 t9 c9 H locs 0 0 Q (F0 m9 12 ls []) := by
          intro n_12
          induction n_12 with
          | zero => intro j yy hj hy hlo2 hm_12 H locs xP xD xS ls xL; exact absurd hm_12 (Nat.not_lt_zero _)
          | succ n_12 ih_12 =>
            intro j yy hj hy hlo2 hm_12 H locs xP xD xS ls xL
            refine lv_iload_n xE xB dX7_drains_12 rfl (lv_at xL 2 rfl) ?_
            refine lv_aload_n xE xB dX7_drains_13 rfl (lv_at xL 0 rfl) ?_
            refine q_VR (As := []) (rest := [.int (nI j)]) ⟨xE, xB, xM, xO, xT⟩ (kX7_tileColumns l G r yy P U p X y q0 q1 q2 q3 sp re B wd hg ow n o lr lc rc ta tb (by exact hD.e (fun q h9 => hlo2 q (by omega))) (by exact hE.e (fun q h9 => hlo2 q (by omega)))) (cwV 0 xT gX7_drains_X7_tileColumns rfl rfl rfl (by decide +kernel) ⟨Nat.le_of_ble_eq_true rfl, Nat.le_of_ble_eq_true rfl⟩) xK xP [0, 1, 2, 3, 4, 5] rfl 0 rfl rfl rfl rfl xL.1 rfl (Nat.le_of_ble_eq_true rfl) dX7_drains_14 ⟨Nat.le_refl _, Nat.le_refl _⟩ (fun r_14 h_14 => ?_)
            obtain rfl : r_14 = nI (min n (rc - n * tb)) := h_14
            refine q_icmp_ge (tgt := 94) xE xB dX7_drains_17 (by decide) (by omega) (by omega) (fun c_17 => ?_) (fun c_17 => ?_)
            · skip
              refine lv_iinc (v := nI (i + 1)) (lv' := [(1, .int (nI (i + 1))), (0, .ref r.1), (2, .int (nI j))]) xE xB dX7_drains_94 xL (k := 1) rfl (q_inc _ _) (by decide) rfl (fun ls xL => ?_)
              refine lv_goto (tgt := 2) xE xB dX7_drains_97 (by decide) ?_
              exact ih_2 (i + 1) yy (by omega) (by rw [hy]; obtain rfl : j = (min n (rc - n * tb)) := (by omega); rw [hz]; rfl) (by exact hlo2) (by omega) _ _ xP xD xS _ (lv_sub xL [1, 0] rfl)
            · skip
              refine lv_bipush (v := nI 6) xE xB dX7_drains_20 (by decide) ?_
              refine lv_aload_n xE xB dX7_drains_22 rfl (lv_at xL 0 rfl) ?_
              refine va_get (D := G.1) (ci := 7) (v := .ref r.2.1) (C := RX7) (T := TX7) (N := 16) xE xB xT khX7_drains_X7 xO xK.1 xP 0 rfl rfl 0 (by decide) (xT _ kX7_drains_f7) (fun _ h9 => h9) rfl dX7_drains_23 ?_
              refine lv_iconst (v := nI 0) xE xB dX7_drains_26 (by decide) ?_
              refine q_ald xE xB xK xP 1 rfl (by omega) (by decide) dX7_drains_27 ?_
              refine q_eq (y := nI n) (congrArg (fun z => z) ((hlo2 0 (by decide)).trans g0)) ?_
              refine lv_aload_n xE xB dX7_drains_28 rfl (lv_at xL 0 rfl) ?_
              refine va_get (D := G.1) (ci := 7) (v := .ref r.2.1) (C := RX7) (T := TX7) (N := 16) xE xB xT khX7_drains_X7 xO xK.1 xP 0 rfl rfl 0 (by decide) (xT _ kX7_drains_f7) (fun _ h9 => h9) rfl dX7_drains_29 ?_
              refine lv_bipush (v := nI 6) xE xB dX7_drains_32 (by decide) ?_
              refine q_ald xE xB xK xP 1 rfl (by omega) (by decide) dX7_drains_34 ?_
              refine q_eq (y := nI ta) (congrArg (fun z => z) ((hlo2 6 (by decide)).trans g6)) ?_
              refine q_imul xE xB dX7_drains_35 ?_
              refine lv_iload_n xE xB dX7_drains_36 rfl (lv_at xL 1 rfl) ?_
              refine q_iadd xE xB dX7_drains_37 ?_
              refine q_imul xE xB dX7_drains_38 ?_
              refine lv_aload_n xE xB dX7_drains_39 rfl (lv_at xL 0 rfl) ?_
              refine va_get (D := G.1) (ci := 7) (v := .ref r.2.1) (C := RX7) (T := TX7) (N := 16) xE xB xT khX7_drains_X7 xO xK.1 xP 0 rfl rfl 0 (by decide) (xT _ kX7_drains_f7) (fun _ h9 => h9) rfl dX7_drains_40 ?_
              refine lv_iconst (v := nI 0) xE xB dX7_drains_43 (by decide) ?_
              refine q_ald xE xB xK xP 1 rfl (by omega) (by decide) dX7_drains_44 ?_
              refine q_eq (y := nI n) (congrArg (fun z => z) ((hlo2 0 (by decide)).trans g0)) ?_
              refine lv_aload_n xE xB dX7_drains_45 rfl (lv_at xL 0 rfl) ?_
              refine va_get (D := G.1) (ci := 7) (v := .ref r.2.1) (C := RX7) (T := TX7) (N := 16) xE xB xT khX7_drains_X7 xO xK.1 xP 0 rfl rfl 0 (by decide) (xT _ kX7_drains_f7) (fun _ h9 => h9) rfl dX7_drains_46 ?_
              refine lv_bipush (v := nI 7) xE xB dX7_drains_49 (by decide) ?_
              refine q_ald xE xB xK xP 1 rfl (by omega) (by decide) dX7_drains_51 ?_
              refine q_eq (y := nI tb) (congrArg (fun z => z) ((hlo2 7 (by decide)).trans g7)) ?_
              refine q_imul xE xB dX7_drains_52 ?_
              refine q_iadd xE xB dX7_drains_53 ?_
              refine lv_iload_n xE xB dX7_drains_54 rfl (lv_at xL 2 rfl) ?_
              refine q_iadd xE xB dX7_drains_55 ?_
              refine q_eq (y := nI (6 * (n * ta + i) + (n * tb + j))) (congrArg nI (Nat.add_assoc _ _ _)) ?_
              refine lv_istore_n (lv' := [(3, .int (nI (6 * (n * ta + i) + (n * tb + j)))), (0, .ref r.1), (1, .int (nI i)), (2, .int (nI j))]) xE xB dX7_drains_56 rfl xL (by decide) rfl (fun ls xL => ?_)
              refine lv_aload_n xE xB dX7_drains_57 rfl (lv_at xL 1 rfl) ?_
              refine va_get (D := G.1) (ci := 7) (v := .ref r.2.1) (C := RX7) (T := TX7) (N := 16) xE xB xT khX7_drains_X7 xO xK.1 xP 0 rfl rfl 0 (by decide) (xT _ kX7_drains_f7) (fun _ h9 => h9) rfl dX7_drains_58 ?_
              refine lv_bipush (v := nI 81) xE xB dX7_drains_61 (by decide) ?_
              refine lv_iload_n xE xB dX7_drains_63 rfl (lv_at xL 0 rfl) ?_
              refine q_iadd xE xB dX7_drains_64 ?_
              refine lv_aload_n xE xB dX7_drains_65 rfl (lv_at xL 1 rfl) ?_
              refine va_get (D := G.1) (ci := 7) (v := .ref r.2.1) (C := RX7) (T := TX7) (N := 16) xE xB xT khX7_drains_X7 xO xK.1 xP 0 rfl rfl 0 (by decide) (xT _ kX7_drains_f7) (fun _ h9 => h9) rfl dX7_drains_66 ?_
              refine lv_iload_n xE xB dX7_drains_69 rfl (lv_at xL 2 rfl) ?_
              refine lv_iload_n xE xB dX7_drains_70 rfl (lv_at xL 3 rfl) ?_
              refine q_SR (As := [.int (nI i), .int (nI j)]) (rest := [.ref r.2.1, .int (nI (81 + (6 * (n * ta + i) + (n * tb + j)))), .ref r.2.1]) ⟨xE, xB, xM, xO, xT⟩ (kX7_cell l G i j) (va_cwS 2 xT gX7_drains_X7_cell rfl rfl rfl (by decide +kernel) ⟨Nat.le_of_ble_eq_true rfl, Nat.le_of_ble_eq_true rfl⟩) xK xP [] rfl rfl xL.1 rfl (Nat.le_of_ble_eq_true rfl) dX7_drains_71 ⟨Nat.le_refl _, Nat.le_refl _⟩ (fun r_71 h_71 => ?_)
              obtain rfl : r_71 = nI (173 + 24 * i + 6 * j) := h_71
              refine lv_iconst (v := nI 0) xE xB dX7_drains_74 (by decide) ?_
              refine q_iadd xE xB dX7_drains_75 ?_
              refine q_eq (y := nI (173 + 24 * i + 6 * j)) (rfl) ?_
              refine q_ald xE xB xK xP 1 rfl (by omega) (by decide) dX7_drains_76 ?_
              refine q_ast xE xB xK xP xD xS 1 rfl (by omega) (by decide) dX7_drains_77 (fun H locs xP xD xS => ?_)
              have xP : va_P G.1 vwCl (wU G r (upd yy (81 + (6 * (n * ta + i) + (n * tb + j))) (yy (173 + 24 * i + 6 * j)), P, U, p, X, y, q0, q1, q2, q3, sp, re, B, wd, hg, ow)) H := xP
              have xD : va_D A (wU G r (upd yy (81 + (6 * (n * ta + i) + (n * tb + j))) (yy (173 + 24 * i + 6 * j)), P, U, p, X, y, q0, q1, q2, q3, sp, re, B, wd, hg, ow)) := xD
              refine lv_aload_n xE xB dX7_drains_78 rfl (lv_at xL 1 rfl) ?_
              refine va_get (D := G.1) (ci := 7) (v := .ref r.2.1) (C := RX7) (T := TX7) (N := 16) xE xB xT khX7_drains_X7 xO xK.1 xP 0 rfl rfl 0 (by decide) (xT _ kX7_drains_f7) (fun _ h9 => h9) rfl dX7_drains_79 ?_
              refine lv_bipush (v := nI 117) xE xB dX7_drains_82 (by decide) ?_
              refine lv_iload_n xE xB dX7_drains_84 rfl (lv_at xL 0 rfl) ?_
              refine q_iadd xE xB dX7_drains_85 ?_
              refine lv_iconst (v := nI 1) xE xB dX7_drains_86 (by decide) ?_
              refine q_ast xE xB xK xP xD xS 1 rfl (by omega) (by decide) dX7_drains_87 (fun H locs xP xD xS => ?_)
              have xP : va_P G.1 vwCl (wU G r (upd (upd yy (81 + (6 * (n * ta + i) + (n * tb + j))) (yy (173 + 24 * i + 6 * j))) (117 + (6 * (n * ta + i) + (n * tb + j))) (nI 1), P, U, p, X, y, q0, q1, q2, q3, sp, re, B, wd, hg, ow)) H := xP
              have xD : va_D A (wU G r (upd (upd yy (81 + (6 * (n * ta + i) + (n * tb + j))) (yy (173 + 24 * i + 6 * j))) (117 + (6 * (n * ta + i) + (n * tb + j))) (nI 1), P, U, p, X, y, q0, q1, q2, q3, sp, re, B, wd, hg, ow)) := xD
              refine lv_iinc (v := nI (j + 1)) (lv' := [(2, .int (nI (j + 1))), (3, .int (nI (6 * (n * ta + i) + (n * tb + j)))), (0, .ref r.1), (1, .int (nI i))]) xE xB dX7_drains_88 xL (k := 3) rfl (q_inc _ _) (by decide) rfl (fun ls xL => ?_)
              refine lv_goto (tgt := 12) xE xB dX7_drains_91 (by decide) ?_
              exact ih_12 (j + 1) (drC n ta tb i j yy) (by omega) (by rw [hy]; rfl) (by exact fun q hq => (drC_lo q hq).trans (hlo2 q hq)) (by omega) _ _ xP xD xS _ (lv_sub xL [2, 3, 0] rfl)
        exact L_12 ((min n (rc - n * tb)) - 0 + 1) 0 z (by omega) (by rfl) (by exact hlo) (Nat.lt_succ_self _) _ _ xP xD xS _ (lv_sub xL [1, 2, 0] rfl)
  exact L_2 ((min n (lr - n * ta)) - 0 + 1) 0 s (by omega) (by rfl) (by exact fun _ _ => rfl) (Nat.lt_succ_self _) _ _ xP xD xS _ (lv_sub xL [1, 0] rfl)
theorem kX7_drain_c58 : Cond.constant RX7 58 (-1000002) ∈ wsX7_drain := by decide +kernel
theorem kX7_drain_f7 : Cond.fieldLink RX7 7 "SkewedSquareModel" "s" "[I" ∈ wsX7_drain := by decide +kernel
theorem khX7_drain_X7 : ∀ w ∈ u_ws RX7 TX7 16, w ∈ wsX7_drain := by decide +kernel
set_option maxHeartbeats 4000000 in
set_option maxRecDepth 100000 in
/-- kX7_drain -/
theorem kX7_drain (l : Launch) (G : wG) (r : RA) (s P U : wF) (p : Nat) (X : wF) (y q0 : Nat) (q1 : Int32) (q2 : Nat) (q3 : Int32) (sp re : Nat) (B : wF) (wd hg ow : Nat) (n o lr lc rc : Nat) (ta tb : Nat) (tt : Nat) (b : Nat) (pst : PF) (hD : RelD n o lr lc rc s) (hb : b ≤ 1 ∧ s 5 = nI b) (hp : p ≤ 4) (hQ : PQ pst P p) (hT : b = 1 → RelE n lr rc ta tb s ∧ s 8 = nI tt ∧ tt ≤ need lc n lr rc ta tb) (hK : K01 s) : CI (S := wF × wF × Nat) l yX7_drain wsX7_drain (rm 3 61) G [.ref r.1] (wU G r (s, P, U, p, X, y, q0, q1, q2, q3, sp, re, B, wd, hg, ow)) (fun x u9 => QO x u9 (opDrain lc n lr rc b ta tb tt s pst p)) (fun u9 => wU G r (u9.1, u9.2.1, U, u9.2.2, X, y, q0, q1, q2, q3, sp, re, B, wd, hg, ow)) := by
  refine CI.of (own := RX7) rfl (by decide) rfl (Nat.le_of_ble_eq_true rfl) ?_
  intro p9 e9 s9 m9 b9 t9 c9 A xE xB xM xO xT xK xP xD Q xQ xS ls hl
  have xL : lv_has ls 1 [(0, .ref r.1)] := hl
  obtain ⟨g0, g1, g2, g3, g4, ⟨hn1, hn2, hn3⟩, hm1, hm2, hm3, hm4, hm5, hm6⟩ := id hD
  have hb1 := hb.1
  refine lv_aload_n xE xB dX7_drain_0 rfl (lv_at xL 0 rfl) ?_
  refine va_get (D := G.1) (ci := 7) (v := .ref r.2.1) (C := RX7) (T := TX7) (N := 16) xE xB xT khX7_drain_X7 xO xK.1 xP 0 rfl rfl 0 (by decide) (xT _ kX7_drain_f7) (fun _ h9 => h9) rfl dX7_drain_1 ?_
  refine lv_iconst (v := nI 5) xE xB dX7_drain_4 (by decide) ?_
  refine q_ald xE xB xK xP 1 rfl (by omega) (by decide) dX7_drain_5 ?_
  refine q_eq (y := nI b) (congrArg (fun z => z) (hb.2)) ?_
  refine q_if_eq (tgt := 16) xE xB dX7_drain_6 (by decide) (by omega) (fun c_6 => ?_) (fun c_6 => ?_)
  · skip
    refine lv_ldc (v := (-1000002)) xE xB xO (xT _ kX7_drain_c58) dX7_drain_16 ?_
    exact xQ _ _ _ _ _ (s, P, p) (by first | (rw [show opDrain lc n lr rc b ta tb tt s pst p = (kNP, s, pst, p) from if_pos (Or.inl (by omega))]; exact ⟨rfl, rfl, rfl, hp, hQ⟩) | (rw [show opDrain lc n lr rc b ta tb tt s pst p = (kNP, s, pst, p) from if_pos (Or.inr (by omega))]; exact ⟨rfl, rfl, rfl, hp, hQ⟩)) xP xD xS dX7_drain_18
  · skip
    have hb9 : b = 1 := by omega
    obtain ⟨hE, g8, htt⟩ := hT hb9
    obtain ⟨g6, g7, ht1, ht2⟩ := id hE
    have hnd : need lc n lr rc ta tb ≤ 20 := by unfold need; omega
    refine lv_aload_n xE xB dX7_drain_9 rfl (lv_at xL 0 rfl) ?_
    refine q_VR (As := []) (rest := []) ⟨xE, xB, xM, xO, xT⟩ (kX7_isDone l G r s P U p X y q0 q1 q2 q3 sp re B wd hg ow n o lr lc rc ta tb tt (by exact hD) (by exact hE) (by exact g8) (by omega)) (cwV 0 xT gX7_drain_X7_isDone rfl rfl rfl (by decide +kernel) ⟨Nat.le_of_ble_eq_true rfl, Nat.le_of_ble_eq_true rfl⟩) xK xP [0, 1, 2, 3, 4, 5] rfl 0 rfl rfl rfl rfl xL.1 rfl (Nat.le_of_ble_eq_true rfl) dX7_drain_10 ⟨Nat.le_refl _, Nat.le_refl _⟩ (fun r_10 h_10 => ?_)
    rcases h_10 with ⟨h_10, c_10⟩ | ⟨h_10, c_10⟩
    · skip
      subst h_10
      have c_10 : tt = need lc n lr rc ta tb := c_10
      refine lv_if_ne (tgt := 19) xE xB dX7_drain_13 (by decide) (fun _ => ?_) (fun h9 => absurd h9 (by decide))
      refine lv_aload_n xE xB dX7_drain_19 rfl (lv_at xL 0 rfl) ?_
      refine q_VV (As := []) (rest := []) ⟨xE, xB, xM, xO, xT⟩ (kX7_changes l G r s P U p X y q0 q1 q2 q3 sp re B wd hg ow (by omega)) (cwV 0 xT gX7_drain_X7_changes rfl rfl rfl (by decide +kernel) ⟨Nat.le_of_ble_eq_true rfl, Nat.le_of_ble_eq_true rfl⟩) xK xP xD xS [0, 1, 2, 3, 4, 5] rfl (by decide +kernel) (fun _ => rfl) 0 rfl rfl rfl rfl xL.1 rfl (Nat.le_of_ble_eq_true rfl) dX7_drain_20 ⟨Nat.le_refl _, Nat.le_refl _⟩ (fun u_20 H locs h_20 xP xD xS => ?_)
      have xP : va_P G.1 vwCl (wU G r (s, chgQ s P p, U, chgN p, X, y, q0, q1, q2, q3, sp, re, B, wd, hg, ow)) H := xP
      have xD : va_D A (wU G r (s, chgQ s P p, U, chgN p, X, y, q0, q1, q2, q3, sp, re, B, wd, hg, ow)) := xD
      refine lv_aload_n xE xB dX7_drain_23 rfl (lv_at xL 0 rfl) ?_
      refine q_VV (As := []) (rest := []) ⟨xE, xB, xM, xO, xT⟩ (kX7_drains l G r s (chgQ s P p) U (chgN p) X y q0 q1 q2 q3 sp re B wd hg ow n o lr lc rc ta tb (by exact hD) (by exact hE)) (cwV 0 xT gX7_drain_X7_drains rfl rfl rfl (by decide +kernel) ⟨Nat.le_of_ble_eq_true rfl, Nat.le_of_ble_eq_true rfl⟩) xK xP xD xS [0, 1, 2, 3, 4, 5] rfl (by decide +kernel) (fun _ => rfl) 0 rfl rfl rfl rfl xL.1 rfl (Nat.le_of_ble_eq_true rfl) dX7_drain_24 ⟨Nat.le_refl _, Nat.le_refl _⟩ (fun u_24 H locs h_24 xP xD xS => ?_)
      have xP : va_P G.1 vwCl (wU G r (drF n lr rc ta tb s, chgQ s P p, U, chgN p, X, y, q0, q1, q2, q3, sp, re, B, wd, hg, ow)) H := xP
      have xD : va_D A (wU G r (drF n lr rc ta tb s, chgQ s P p, U, chgN p, X, y, q0, q1, q2, q3, sp, re, B, wd, hg, ow)) := xD
      refine lv_aload_n xE xB dX7_drain_27 rfl (lv_at xL 0 rfl) ?_
      refine q_VR (As := []) (rest := []) ⟨xE, xB, xM, xO, xT⟩ (kX7_known l G r (drF n lr rc ta tb s) (chgQ s P p) U (chgN p) X y q0 q1 q2 q3 sp re B wd hg ow n o lr lc rc (by exact hD.e (fun q9 h9 => upF_Lo5 q9 (by omega) (by omega)))) (cwV 0 xT gX7_drain_X7_known rfl rfl rfl (by decide +kernel) ⟨Nat.le_of_ble_eq_true rfl, Nat.le_of_ble_eq_true rfl⟩) xK xP [0, 1, 2, 3, 4, 5] rfl 0 rfl rfl rfl rfl xL.1 rfl (Nat.le_of_ble_eq_true rfl) dX7_drain_28 ⟨Nat.le_refl _, Nat.le_refl _⟩ (fun r_28 h_28 => ?_)
      obtain rfl : r_28 = sm (fun q => (drF n lr rc ta tb s) (117 + q)) 36 := h_28
      exact xQ _ _ _ _ _ (drF n lr rc ta tb s, chgQ s P p, chgN p) (by rw [show opDrain lc n lr rc b ta tb tt s pst p = (nI (knN (drF n lr rc ta tb s)), drF n lr rc ta tb s, chgP s pst p, chgN p) from if_neg (by omega)]; exact ⟨knS (K01_dr hK ht1 ht2 hm2 hm6), rfl, rfl, chgN_4 hp, PQ_chg hp hQ⟩) xP xD xS dX7_drain_31
    · skip
      subst h_10
      have c_10 : ¬ (tt = need lc n lr rc ta tb) := c_10
      refine lv_if_ne (tgt := 19) xE xB dX7_drain_13 (by decide) (fun h9 => absurd (by decide) h9) (fun _ => ?_)
      refine lv_ldc (v := (-1000002)) xE xB xO (xT _ kX7_drain_c58) dX7_drain_16 ?_
      exact xQ _ _ _ _ _ (s, P, p) (by first | (rw [show opDrain lc n lr rc b ta tb tt s pst p = (kNP, s, pst, p) from if_pos (Or.inl (by omega))]; exact ⟨rfl, rfl, rfl, hp, hQ⟩) | (rw [show opDrain lc n lr rc b ta tb tt s pst p = (kNP, s, pst, p) from if_pos (Or.inr (by omega))]; exact ⟨rfl, rfl, rfl, hp, hQ⟩)) xP xD xS dX7_drain_18
theorem tlF_lo {k n o r c a b : Nat} {s : wF} : ∀ p, p ≤ 4 → tlF k n o r c a b s p = s p := fun p hp => by
  unfold tlF
  rw [upF_Lo5 p (by omega) (by omega)]
  have h : ∀ (m t : Nat) (x : wF), Lo (goN k n o r c a b m t x) x := fun m => by
    induction m with
    | zero => exact fun _ _ _ _ _ => rfl
    | succ m ih => exact fun t x => (ih (t + 1) _).trans goF_Lo
  rw [h _ _ _ p (by omega) (by omega)]
  exact bgF_lo p hp
theorem upF_lo {step : Nat → wF → wF} {s : wF} (h : ∀ i x p, p ≤ 4 → step i x p = x p) (m : Nat) : ∀ p, p ≤ 4 → upF step m s p = s p :=
  upF_inv (P := fun x => ∀ p, p ≤ 4 → x p = s p) _ _ (fun i x _ hx p hp => (h i x p hp).trans (hx p hp)) (fun _ _ => rfl)
theorem alF_lo {k n o r c : Nat} {s : wF} : ∀ p, p ≤ 4 → alF k n o r c s p = s p := upF_lo (fun i x p hp => upF_lo (fun j y q hq => tlF_lo q hq) _ p hp) _
theorem goN_end {k n o r c ta tb m tt : Nat} {z y : wF} (h : goN k n o r c ta tb (m - tt) tt z = y) (e : tt = m) : z = y := by
  subst e
  rw [Nat.sub_self] at h
  exact h
theorem goN_t {k n o r c ta tb t m : Nat} {z : wF} (h : t < m) : goN k n o r c ta tb (m - (t + 1)) (t + 1) (goF k n o r c ta tb t z) = goN k n o r c ta tb (m - t) t z := by
  have h2 := goN_s (k := k) (n := n) (o := o) (r := r) (c := c) (ta := ta) (tb := tb) (tt := 0) (i := t) (m := m) (z := z) h
  rw [Nat.zero_add, Nat.zero_add] at h2
  exact h2

theorem kX7_doesAll_f7 : Cond.fieldLink RX7 7 "SkewedSquareModel" "s" "[I" ∈ wsX7_doesAll := by decide +kernel
theorem khX7_doesAll_X7 : ∀ w ∈ u_ws RX7 TX7 16, w ∈ wsX7_doesAll := by decide +kernel
set_option maxHeartbeats 4000000 in
set_option maxRecDepth 100000 in
/-- kX7_doesAll -/
theorem kX7_doesAll (l : Launch) (G : wG) (r : RA) (s P U : wF) (p : Nat) (X : wF) (y q0 : Nat) (q1 : Int32) (q2 : Nat) (q3 : Int32) (sp re : Nat) (B : wF) (wd hg ow : Nat) (n o lr lc rc : Nat) (hD : RelD n o lr lc rc s) (hp : p ≤ 4) : CI (S := Nat × Int32 × Nat × Int32) l yX7_doesAll wsX7_doesAll (rm 3 70) G [.ref r.1] (wU G r (s, P, U, p, X, y, q0, q1, q2, q3, sp, re, B, wd, hg, ow)) (fun x u9 => x = nI (tkN lc n lr rc)) (fun u9 => wU G r (alF lc n o lr rc s, P, U, p, X, y, u9.1, u9.2.1, u9.2.2.1, u9.2.2.2, sp, re, B, wd, hg, ow)) := by
  refine CI.of (own := RX7) rfl (by decide) rfl (Nat.le_of_ble_eq_true rfl) ?_
  intro p9 e9 s9 m9 b9 t9 c9 A xE xB xM xO xT xK xP xD Q xQ xS ls hl
  have xL : lv_has ls 4 [(0, .ref r.1)] := hl
  obtain ⟨g0, g1, g2, g3, g4, ⟨hn1, hn2, hn3⟩, hm1, hm2, hm3, hm4, hm5, hm6⟩ := id hD
  have h61 : tls lr n ≤ 6 := tls_6 hm2 hn1
  have h62 : tls rc n ≤ 6 := tls_6 hm6 hn1
  have h63 : 1 ≤ tls lr n := tls_1 hm1 hn1
  have h64 : 1 ≤ tls rc n := tls_1 hm5 hn1
  refine lv_iconst (v := nI 0) xE xB dX7_doesAll_0 (by decide) ?_
  refine lv_istore_n (lv' := [(1, .int (nI 0)), (0, .ref r.1)]) xE xB dX7_doesAll_1 rfl xL (by decide) rfl (fun ls xL => ?_)
  refine lv_iconst (v := nI 0) xE xB dX7_doesAll_2 (by decide) ?_
  refine lv_istore_n (lv' := [(2, .int (nI 0)), (1, .int (nI 0)), (0, .ref r.1)]) xE xB dX7_doesAll_3 rfl xL (by decide) rfl (fun ls xL => ?_)
  have L_4 : ∀ (n_4 : Nat) (i x : Nat) (z : wF) (a0 : Nat) (a1 : Int32) (a2 : Nat) (a3 : Int32), (i ≤ tls lr n) → (x = ns (fun a => ns (fun b => need lc n lr rc a b) (tls rc n)) i) → (z = upF (fun a => upF (fun b => tlF lc n o lr rc a b) (tls rc n)) i s) → (∀ q, q ≤ 4 → z q = s q) → tls lr n - i < n_4 → ∀ (H : Heap) (locs : List Loc), va_P G.1 vwCl (wU G r (z, P, U, p, X, y, a0, a1, a2, a3, sp, re, B, wd, hg, ow)) H → va_D A (wU G r (z, P, U, p, X, y, a0, a1, a2, a3, sp, re, B, wd, hg, ow)) → va_S A s9.heap H locs → ∀ (ls : Array Slot), lv_has ls 4 [(0, .ref r.1), (1, .int (nI x)), (2, .int (nI i))] → W p9 l e9 (rm 3 70) s9 m9 ([.ref r.1] : List Value).toArray b9 t9 c9 H locs 0 0 Q (F0 m9 4 ls []) := by
    intro n_4
    induction n_4 with
    | zero => intro i x z a0 a1 a2 a3 hi hx hz hlo hm_4 H locs xP xD xS ls xL; exact absurd hm_4 (Nat.not_lt_zero _)
    | succ n_4 ih_4 =>
      intro i x z a0 a1 a2 a3 hi hx hz hlo hm_4 H locs xP xD xS ls xL
      refine lv_iload_n xE xB dX7_doesAll_4 rfl (lv_at xL 2 rfl) ?_
      refine lv_aload_n xE xB dX7_doesAll_5 rfl (lv_at xL 0 rfl) ?_
      refine lv_aload_n xE xB dX7_doesAll_6 rfl (lv_at xL 0 rfl) ?_
      refine va_get (D := G.1) (ci := 7) (v := .ref r.2.1) (C := RX7) (T := TX7) (N := 16) xE xB xT khX7_doesAll_X7 xO xK.1 xP 0 rfl rfl 0 (by decide) (xT _ kX7_doesAll_f7) (fun _ h9 => h9) rfl dX7_doesAll_7 ?_
      refine lv_iconst (v := nI 1) xE xB dX7_doesAll_10 (by decide) ?_
      refine q_ald xE xB xK xP 1 rfl (by omega) (by decide) dX7_doesAll_11 ?_
      refine q_eq (y := nI lr) (congrArg (fun z => z) ((hlo 1 (by decide)).trans g1)) ?_
      refine q_VR (As := [.int (nI lr)]) (rest := [.int (nI i)]) ⟨xE, xB, xM, xO, xT⟩ (kX7_along l G r z P U p X y a0 a1 a2 a3 sp re B wd hg ow lr n (by exact (hlo 0 (by decide)).trans g0) (by omega) (by omega)) (cwV 1 xT gX7_doesAll_X7_along rfl rfl rfl (by decide +kernel) ⟨Nat.le_of_ble_eq_true rfl, Nat.le_of_ble_eq_true rfl⟩) xK xP [0, 1, 2, 3, 4, 5] rfl 0 rfl rfl rfl rfl xL.1 rfl (Nat.le_of_ble_eq_true rfl) dX7_doesAll_12 ⟨Nat.le_refl _, Nat.le_refl _⟩ (fun r_12 h_12 => ?_)
      obtain rfl : r_12 = nI (tls lr n) := h_12
      refine q_icmp_ge (tgt := 73) xE xB dX7_doesAll_15 (by decide) (by omega) (by omega) (fun c_15 => ?_) (fun c_15 => ?_)
      · skip
        refine lv_iload_n xE xB dX7_doesAll_73 rfl (lv_at xL 1 rfl) ?_
        obtain hi9 : i = tls lr n := by omega
        rw [hi9] at hx hz
        rw [hz] at xP xD
        have xP : va_P G.1 vwCl (wU G r (alF lc n o lr rc s, P, U, p, X, y, a0, a1, a2, a3, sp, re, B, wd, hg, ow)) H := xP
        have xD : va_D A (wU G r (alF lc n o lr rc s, P, U, p, X, y, a0, a1, a2, a3, sp, re, B, wd, hg, ow)) := xD
        exact xQ _ _ _ _ _ (a0, a1, a2, a3) (by exact congrArg nI hx) xP xD xS dX7_doesAll_74
      · skip
        refine lv_iconst (v := nI 0) xE xB dX7_doesAll_18 (by decide) ?_
        refine lv_istore_n (lv' := [(3, .int (nI 0)), (0, .ref r.1), (1, .int (nI x)), (2, .int (nI i))]) xE xB dX7_doesAll_19 rfl xL (by decide) rfl (fun ls xL => ?_)
        have L_20 : ∀ (n_20 : Nat) (j x2 : Nat) (yy : wF) (e0 : Nat) (e1 : Int32) (e2 : Nat) (e3 : Int32), (j ≤ tls rc n) → (x2 = x + ns (fun b => need lc n lr rc i b) j) → (yy = upF (fun b => tlF lc n o lr rc i b) j z) → (∀ q, q ≤ 4 → yy q = s q) → tls rc n - j < n_20 → ∀ (H : Heap) (locs : List Loc), va_P G.1 vwCl (wU G r (yy, P, U, p, X, y, e0, e1, e2, e3, sp, re, B, wd, hg, ow)) H → va_D A (wU G r (yy, P, U, p, X, y, e0, e1, e2, e3, sp, re, B, wd, hg, ow)) → va_S A s9.heap H locs → ∀ (ls : Array Slot), lv_has ls 4 [(0, .ref r.1), (1, .int (nI x2)), (2, .int (nI i)), (3, .int (nI j))] → W p9 l e9 (rm 3 70) s9 m9 ([.ref r.1] : List Value).toArray b9 t9 c9 H locs 0 0 Q (F0 m9 20 ls []) := by
          intro n_20
          induction n_20 with
          | zero => intro j x2 yy e0 e1 e2 e3 hj hyx hy hlo2 hm_20 H locs xP xD xS ls xL; exact absurd hm_20 (Nat.not_lt_zero _)
          | succ n_20 ih_20 =>
            intro j x2 yy e0 e1 e2 e3 hj hyx hy hlo2 hm_20 H locs xP xD xS ls xL
            refine lv_iload_n xE xB dX7_doesAll_20 rfl (lv_at xL 3 rfl) ?_
            refine lv_aload_n xE xB dX7_doesAll_21 rfl (lv_at xL 0 rfl) ?_
            refine lv_aload_n xE xB dX7_doesAll_22 rfl (lv_at xL 0 rfl) ?_
            refine va_get (D := G.1) (ci := 7) (v := .ref r.2.1) (C := RX7) (T := TX7) (N := 16) xE xB xT khX7_doesAll_X7 xO xK.1 xP 0 rfl rfl 0 (by decide) (xT _ kX7_doesAll_f7) (fun _ h9 => h9) rfl dX7_doesAll_23 ?_
            refine lv_iconst (v := nI 3) xE xB dX7_doesAll_26 (by decide) ?_
            refine q_ald xE xB xK xP 1 rfl (by omega) (by decide) dX7_doesAll_27 ?_
            refine q_eq (y := nI rc) (congrArg (fun z => z) ((hlo2 3 (by decide)).trans g3)) ?_
            refine q_VR (As := [.int (nI rc)]) (rest := [.int (nI j)]) ⟨xE, xB, xM, xO, xT⟩ (kX7_along l G r yy P U p X y e0 e1 e2 e3 sp re B wd hg ow rc n (by exact (hlo2 0 (by decide)).trans g0) (by omega) (by omega)) (cwV 1 xT gX7_doesAll_X7_along rfl rfl rfl (by decide +kernel) ⟨Nat.le_of_ble_eq_true rfl, Nat.le_of_ble_eq_true rfl⟩) xK xP [0, 1, 2, 3, 4, 5] rfl 0 rfl rfl rfl rfl xL.1 rfl (Nat.le_of_ble_eq_true rfl) dX7_doesAll_28 ⟨Nat.le_refl _, Nat.le_refl _⟩ (fun r_28 h_28 => ?_)
            obtain rfl : r_28 = nI (tls rc n) := h_28
            refine q_icmp_ge (tgt := 67) xE xB dX7_doesAll_31 (by decide) (by omega) (by omega) (fun c_31 => ?_) (fun c_31 => ?_)
            · skip
              refine lv_iinc (v := nI (i + 1)) (lv' := [(2, .int (nI (i + 1))), (0, .ref r.1), (1, .int (nI x2)), (3, .int (nI j))]) xE xB dX7_doesAll_67 xL (k := 2) rfl (q_inc _ _) (by decide) rfl (fun ls xL => ?_)
              refine lv_goto (tgt := 4) xE xB dX7_doesAll_70 (by decide) ?_
              exact ih_4 (i + 1) x2 yy e0 e1 e2 e3 (by omega) (by obtain rfl : j = tls rc n := (by omega); rw [hyx, hx]; rfl) (by obtain rfl : j = tls rc n := (by omega); rw [hy, hz]; rfl) (by exact hlo2) (by omega) _ _ xP xD xS _ (lv_sub xL [1, 2, 0] rfl)
            · skip
              have hgi : n * i < lr := tls_lt (by omega) hn1
              have hgj : n * j < rc := tls_lt (by omega) hn1
              have hnd : need lc n lr rc i j ≤ 20 := by unfold need; omega
              refine lv_aload_n xE xB dX7_doesAll_34 rfl (lv_at xL 0 rfl) ?_
              refine lv_iload_n xE xB dX7_doesAll_35 rfl (lv_at xL 2 rfl) ?_
              refine lv_iload_n xE xB dX7_doesAll_36 rfl (lv_at xL 3 rfl) ?_
              refine q_VV (As := [.int (nI i), .int (nI j)]) (rest := []) ⟨xE, xB, xM, xO, xT⟩ (kX7_begins l G r yy P U p X y e0 e1 e2 e3 sp re B wd hg ow i j (by omega)) (cwV 2 xT gX7_doesAll_X7_begins rfl rfl rfl (by decide +kernel) ⟨Nat.le_of_ble_eq_true rfl, Nat.le_of_ble_eq_true rfl⟩) xK xP xD xS [0, 1, 2, 3, 4, 5] rfl (by decide +kernel) (fun _ => rfl) 0 rfl rfl rfl rfl xL.1 rfl (Nat.le_of_ble_eq_true rfl) dX7_doesAll_37 ⟨Nat.le_refl _, Nat.le_refl _⟩ (fun u_37 H locs h_37 xP xD xS => ?_)
              have xP : va_P G.1 vwCl (wU G r (bgF i j yy, P, U, p, X, y, e0, e1, e2, e3, sp, re, B, wd, hg, ow)) H := xP
              have xD : va_D A (wU G r (bgF i j yy, P, U, p, X, y, e0, e1, e2, e3, sp, re, B, wd, hg, ow)) := xD
              have L_40 : ∀ (n_40 : Nat) (t : Nat) (v : wF) (f0 : Nat) (f1 : Int32) (f2 : Nat) (f3 : Int32), (t ≤ need lc n lr rc i j) → (goN lc n o lr rc i j (need lc n lr rc i j - t) t v = goN lc n o lr rc i j (need lc n lr rc i j) 0 (bgF i j yy)) → (Lo v (bgF i j yy)) → (v 8 = nI t) → need lc n lr rc i j - t < n_40 → ∀ (H : Heap) (locs : List Loc), va_P G.1 vwCl (wU G r (v, P, U, p, X, y, f0, f1, f2, f3, sp, re, B, wd, hg, ow)) H → va_D A (wU G r (v, P, U, p, X, y, f0, f1, f2, f3, sp, re, B, wd, hg, ow)) → va_S A s9.heap H locs → ∀ (ls : Array Slot), lv_has ls 4 [(0, .ref r.1), (1, .int (nI (x2 + t))), (2, .int (nI i)), (3, .int (nI j))] → W p9 l e9 (rm 3 70) s9 m9 ([.ref r.1] : List Value).toArray b9 t9 c9 H locs 0 0 Q (F0 m9 40 ls []) := by
                intro n_40
                induction n_40 with
                | zero => intro t v f0 f1 f2 f3 ht hv hlo3 hv8 hm_40 H locs xP xD xS ls xL; exact absurd hm_40 (Nat.not_lt_zero _)
                | succ n_40 ih_40 =>
                  intro t v f0 f1 f2 f3 ht hv hlo3 hv8 hm_40 H locs xP xD xS ls xL
                  refine lv_aload_n xE xB dX7_doesAll_40 rfl (lv_at xL 0 rfl) ?_
                  refine q_VR (As := []) (rest := []) ⟨xE, xB, xM, xO, xT⟩ (kX7_isDone l G r v P U p X y f0 f1 f2 f3 sp re B wd hg ow n o lr lc rc i j t (by exact hD.e (fun q h9 => ((hlo3 q (by omega) (by omega)).trans (bgF_lo q h9)).trans (hlo2 q h9))) (by exact (bgF_E (s := yy) hgi hgj).e (fun q h9 => hlo3 q (by omega) (by omega))) (by exact hv8) (by omega)) (cwV 0 xT gX7_doesAll_X7_isDone rfl rfl rfl (by decide +kernel) ⟨Nat.le_of_ble_eq_true rfl, Nat.le_of_ble_eq_true rfl⟩) xK xP [0, 1, 2, 3, 4, 5] rfl 0 rfl rfl rfl rfl xL.1 rfl (Nat.le_of_ble_eq_true rfl) dX7_doesAll_41 ⟨Nat.le_refl _, Nat.le_refl _⟩ (fun r_41 h_41 => ?_)
                  rcases h_41 with ⟨h_41, c_41⟩ | ⟨h_41, c_41⟩
                  · skip
                    subst h_41
                    have c_41 : t = need lc n lr rc i j := c_41
                    refine lv_if_ne (tgt := 57) xE xB dX7_doesAll_44 (by decide) (fun _ => ?_) (fun h9 => absurd h9 (by decide))
                    have hlo4 := hlo3
                    have ht9 : t = need lc n lr rc i j := by omega
                    have hv9 : v = goN lc n o lr rc i j (need lc n lr rc i j) 0 (bgF i j yy) := goN_end hv ht9
                    subst hv9
                    have xP : va_P G.1 vwCl (wU G r (goN lc n o lr rc i j (need lc n lr rc i j) 0 (bgF i j yy), P, U, p, X, y, f0, f1, f2, f3, sp, re, B, wd, hg, ow)) H := xP
                    have xD : va_D A (wU G r (goN lc n o lr rc i j (need lc n lr rc i j) 0 (bgF i j yy), P, U, p, X, y, f0, f1, f2, f3, sp, re, B, wd, hg, ow)) := xD
                    refine lv_aload_n xE xB dX7_doesAll_57 rfl (lv_at xL 0 rfl) ?_
                    refine q_VV (As := []) (rest := []) ⟨xE, xB, xM, xO, xT⟩ (kX7_drains l G r (goN lc n o lr rc i j (need lc n lr rc i j) 0 (bgF i j yy)) P U p X y f0 f1 f2 f3 sp re B wd hg ow n o lr lc rc i j (by exact hD.e (fun q h9 => ((hlo4 q (by omega) (by omega)).trans (bgF_lo q h9)).trans (hlo2 q h9))) (by exact (bgF_E (s := yy) hgi hgj).e (fun q h9 => hlo4 q (by omega) (by omega)))) (cwV 0 xT gX7_doesAll_X7_drains rfl rfl rfl (by decide +kernel) ⟨Nat.le_of_ble_eq_true rfl, Nat.le_of_ble_eq_true rfl⟩) xK xP xD xS [0, 1, 2, 3, 4, 5] rfl (by decide +kernel) (fun _ => rfl) 0 rfl rfl rfl rfl xL.1 rfl (Nat.le_of_ble_eq_true rfl) dX7_doesAll_58 ⟨Nat.le_refl _, Nat.le_refl _⟩ (fun u_58 H locs h_58 xP xD xS => ?_)
                    have xP : va_P G.1 vwCl (wU G r (drF n lr rc i j (goN lc n o lr rc i j (need lc n lr rc i j) 0 (bgF i j yy)), P, U, p, X, y, f0, f1, f2, f3, sp, re, B, wd, hg, ow)) H := xP
                    have xD : va_D A (wU G r (drF n lr rc i j (goN lc n o lr rc i j (need lc n lr rc i j) 0 (bgF i j yy)), P, U, p, X, y, f0, f1, f2, f3, sp, re, B, wd, hg, ow)) := xD
                    have xP : va_P G.1 vwCl (wU G r (tlF lc n o lr rc i j yy, P, U, p, X, y, f0, f1, f2, f3, sp, re, B, wd, hg, ow)) H := xP
                    have xD : va_D A (wU G r (tlF lc n o lr rc i j yy, P, U, p, X, y, f0, f1, f2, f3, sp, re, B, wd, hg, ow)) := xD
                    rw [ht9] at xL
                    have xL : lv_has ls 4 [(0, .ref r.1), (1, .int (nI (x2 + need lc n lr rc i j))), (2, .int (nI i)), (3, .int (nI j))] := xL
                    refine lv_iinc (v := nI (j + 1)) (lv' := [(3, .int (nI (j + 1))), (0, .ref r.1), (1, .int (nI (x2 + need lc n lr rc i j))), (2, .int (nI i))]) xE xB dX7_doesAll_61 xL (k := 3) rfl (q_inc _ _) (by decide) rfl (fun ls xL => ?_)
                    refine lv_goto (tgt := 20) xE xB dX7_doesAll_64 (by decide) ?_
                    exact ih_20 (j + 1) (x2 + need lc n lr rc i j) (tlF lc n o lr rc i j yy) f0 f1 f2 f3 (by omega) (by rw [hyx]; show _ = x + (ns _ j + need lc n lr rc i j); omega) (by rw [hy]; rfl) (by exact fun q hq => (tlF_lo q hq).trans (hlo2 q hq)) (by omega) _ _ xP xD xS _ (lv_sub xL [1, 2, 3, 0] rfl)
                  · skip
                    subst h_41
                    have c_41 : ¬ (t = need lc n lr rc i j) := c_41
                    refine lv_if_ne (tgt := 57) xE xB dX7_doesAll_44 (by decide) (fun h9 => absurd (by decide) h9) (fun _ => ?_)
                    refine lv_aload_n xE xB dX7_doesAll_47 rfl (lv_at xL 0 rfl) ?_
                    refine q_VV (As := []) (rest := []) ⟨xE, xB, xM, xO, xT⟩ (kX7_goes l G r v P U p X y f0 f1 f2 f3 sp re B wd hg ow n o lr lc rc i j t (by exact hD.e (fun q h9 => ((hlo3 q (by omega) (by omega)).trans (bgF_lo q h9)).trans (hlo2 q h9))) (by exact (bgF_E (s := yy) hgi hgj).e (fun q h9 => hlo3 q (by omega) (by omega))) (by exact hv8) (by omega)) (cwV 0 xT gX7_doesAll_X7_goes rfl rfl rfl (by decide +kernel) ⟨Nat.le_of_ble_eq_true rfl, Nat.le_of_ble_eq_true rfl⟩) xK xP xD xS [0, 1, 2, 3, 4, 5] rfl (by decide +kernel) (fun _ => rfl) 0 rfl rfl rfl rfl xL.1 rfl (Nat.le_of_ble_eq_true rfl) dX7_doesAll_48 ⟨Nat.le_refl _, Nat.le_refl _⟩ (fun u_48 H locs h_48 xP xD xS => ?_)
                    have xP : va_P G.1 vwCl (wU G r (goF lc n o lr rc i j t v, P, U, p, X, y, u_48.1, u_48.2.1, u_48.2.2.1, u_48.2.2.2, sp, re, B, wd, hg, ow)) H := xP
                    have xD : va_D A (wU G r (goF lc n o lr rc i j t v, P, U, p, X, y, u_48.1, u_48.2.1, u_48.2.2.1, u_48.2.2.2, sp, re, B, wd, hg, ow)) := xD
                    refine lv_iinc (v := nI ((x2 + t) + 1)) (lv' := [(1, .int (nI ((x2 + t) + 1))), (0, .ref r.1), (2, .int (nI i)), (3, .int (nI j))]) xE xB dX7_doesAll_51 xL (k := 1) rfl (q_inc _ _) (by decide) rfl (fun ls xL => ?_)
                    refine lv_goto (tgt := 40) xE xB dX7_doesAll_54 (by decide) ?_
                    exact ih_40 (t + 1) (goF lc n o lr rc i j t v) u_48.1 u_48.2.1 u_48.2.2.1 u_48.2.2.2 (by omega) (by rw [← hv]; exact goN_t (by omega)) (by exact goF_Lo.trans hlo3) (by exact upd_s) (by omega) _ _ xP xD xS _ (lv_sub xL [1, 0, 2, 3] rfl)
              exact L_40 (need lc n lr rc i j - 0 + 1) 0 (bgF i j yy) e0 e1 e2 e3 (by omega) (by rfl) (by exact fun _ _ _ => rfl) (by exact bgF_8) (Nat.lt_succ_self _) _ _ xP xD xS _ (lv_sub xL [0, 1, 2, 3] rfl)
        exact L_20 (tls rc n - 0 + 1) 0 x z a0 a1 a2 a3 (by omega) (by rfl) (by rfl) (by exact hlo) (Nat.lt_succ_self _) _ _ xP xD xS _ (lv_sub xL [1, 2, 3, 0] rfl)
  exact L_4 (tls lr n - 0 + 1) 0 0 s q0 q1 q2 q3 (by omega) (by rfl) (by rfl) (by exact fun _ _ => rfl) (Nat.lt_succ_self _) _ _ xP xD xS _ (lv_sub xL [2, 1, 0] rfl)
theorem kX7_all_c58 : Cond.constant RX7 58 (-1000002) ∈ wsX7_all := by decide +kernel
theorem kX7_all_f7 : Cond.fieldLink RX7 7 "SkewedSquareModel" "s" "[I" ∈ wsX7_all := by decide +kernel
theorem khX7_all_X7 : ∀ w ∈ u_ws RX7 TX7 16, w ∈ wsX7_all := by decide +kernel
set_option maxHeartbeats 4000000 in
set_option maxRecDepth 100000 in
/-- kX7_all -/
theorem kX7_all (l : Launch) (G : wG) (r : RA) (s P U : wF) (p : Nat) (X : wF) (y q0 : Nat) (q1 : Int32) (q2 : Nat) (q3 : Int32) (sp re : Nat) (B : wF) (wd hg ow : Nat) (n o lr lc rc : Nat) (b : Nat) (pst : PF) (hD : RelD n o lr lc rc s) (hb : b ≤ 1 ∧ s 5 = nI b) (hp : p ≤ 4) (hQ : PQ pst P p) : CI (S := wF × wF × Nat × Nat × Int32 × Nat × Int32) l yX7_all wsX7_all (rm 4 93) G [.ref r.1] (wU G r (s, P, U, p, X, y, q0, q1, q2, q3, sp, re, B, wd, hg, ow)) (fun x u9 => QO x (u9.1, u9.2.1, u9.2.2.1) (opAll lc n o lr rc b s pst p)) (fun u9 => wU G r (u9.1, u9.2.1, U, u9.2.2.1, X, y, u9.2.2.2.1, u9.2.2.2.2.1, u9.2.2.2.2.2.1, u9.2.2.2.2.2.2, sp, re, B, wd, hg, ow)) := by
  refine CI.of (own := RX7) rfl (by decide) rfl (Nat.le_of_ble_eq_true rfl) ?_
  intro p9 e9 s9 m9 b9 t9 c9 A xE xB xM xO xT xK xP xD Q xQ xS ls hl
  have xL : lv_has ls 1 [(0, .ref r.1)] := hl
  obtain ⟨g0, g1, g2, g3, g4, ⟨hn1, hn2, hn3⟩, hm1, hm2, hm3, hm4, hm5, hm6⟩ := id hD
  have hb1 := hb.1
  refine lv_aload_n xE xB dX7_all_0 rfl (lv_at xL 0 rfl) ?_
  refine va_get (D := G.1) (ci := 7) (v := .ref r.2.1) (C := RX7) (T := TX7) (N := 16) xE xB xT khX7_all_X7 xO xK.1 xP 0 rfl rfl 0 (by decide) (xT _ kX7_all_f7) (fun _ h9 => h9) rfl dX7_all_1 ?_
  refine lv_iconst (v := nI 5) xE xB dX7_all_4 (by decide) ?_
  refine q_ald xE xB xK xP 1 rfl (by omega) (by decide) dX7_all_5 ?_
  refine q_eq (y := nI b) (congrArg (fun z => z) (hb.2)) ?_
  refine lv_iconst (v := nI 1) xE xB dX7_all_6 (by decide) ?_
  refine q_icmp_ne (tgt := 13) xE xB dX7_all_7 (by decide) (by omega) (by omega) (fun c_7 => ?_) (fun c_7 => ?_)
  · skip
    refine lv_aload_n xE xB dX7_all_13 rfl (lv_at xL 0 rfl) ?_
    refine q_VV (As := []) (rest := []) ⟨xE, xB, xM, xO, xT⟩ (kX7_changes l G r s P U p X y q0 q1 q2 q3 sp re B wd hg ow (by omega)) (cwV 0 xT gX7_all_X7_changes rfl rfl rfl (by decide +kernel) ⟨Nat.le_of_ble_eq_true rfl, Nat.le_of_ble_eq_true rfl⟩) xK xP xD xS [0, 1, 2, 3, 4, 5] rfl (by decide +kernel) (fun _ => rfl) 0 rfl rfl rfl rfl xL.1 rfl (Nat.le_of_ble_eq_true rfl) dX7_all_14 ⟨Nat.le_refl _, Nat.le_refl _⟩ (fun u_14 H locs h_14 xP xD xS => ?_)
    have xP : va_P G.1 vwCl (wU G r (s, chgQ s P p, U, chgN p, X, y, q0, q1, q2, q3, sp, re, B, wd, hg, ow)) H := xP
    have xD : va_D A (wU G r (s, chgQ s P p, U, chgN p, X, y, q0, q1, q2, q3, sp, re, B, wd, hg, ow)) := xD
    refine lv_aload_n xE xB dX7_all_17 rfl (lv_at xL 0 rfl) ?_
    refine q_VI (As := []) (rest := []) ⟨xE, xB, xM, xO, xT⟩ (kX7_doesAll l G r s (chgQ s P p) U (chgN p) X y q0 q1 q2 q3 sp re B wd hg ow n o lr lc rc (by exact hD) (by exact chgN_4 hp)) (cwV 0 xT gX7_all_X7_doesAll rfl rfl rfl (by decide +kernel) ⟨Nat.le_of_ble_eq_true rfl, Nat.le_of_ble_eq_true rfl⟩) xK xP xD xS [0, 1, 2, 3, 4, 5] rfl (by decide +kernel) (fun _ => rfl) 0 rfl rfl rfl rfl xL.1 rfl (Nat.le_of_ble_eq_true rfl) dX7_all_18 ⟨Nat.le_refl _, Nat.le_refl _⟩ (fun r_18 u_18 H locs h_18 xP xD xS => ?_)
    have xP : va_P G.1 vwCl (wU G r (alF lc n o lr rc s, chgQ s P p, U, chgN p, X, y, u_18.1, u_18.2.1, u_18.2.2.1, u_18.2.2.2, sp, re, B, wd, hg, ow)) H := xP
    have xD : va_D A (wU G r (alF lc n o lr rc s, chgQ s P p, U, chgN p, X, y, u_18.1, u_18.2.1, u_18.2.2.1, u_18.2.2.2, sp, re, B, wd, hg, ow)) := xD
    have h_18 : r_18 = nI (tkN lc n lr rc) := h_18
    exact xQ _ _ _ _ _ (alF lc n o lr rc s, chgQ s P p, chgN p, u_18.1, u_18.2.1, u_18.2.2.1, u_18.2.2.2) (by rw [show opAll lc n o lr rc b s pst p = (nI (tkN lc n lr rc), alF lc n o lr rc s, chgP s pst p, chgN p) from if_neg (by omega)]; exact ⟨h_18, rfl, rfl, chgN_4 hp, PQ_chg hp hQ⟩) xP xD xS dX7_all_21
  · skip
    refine lv_ldc (v := (-1000002)) xE xB xO (xT _ kX7_all_c58) dX7_all_10 ?_
    exact xQ _ _ _ _ _ (s, P, p, q0, q1, q2, q3) (by rw [show opAll lc n o lr rc b s pst p = (kNP, s, pst, p) from if_pos (by omega)]; exact ⟨rfl, rfl, rfl, hp, hQ⟩) xP xD xS dX7_all_12
