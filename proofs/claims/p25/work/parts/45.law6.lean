/-! law6: the law looks at the cells -/
theorem on_q {i j tt : Nat} (h : i + j + 1 ≤ tt) : nI tt - nI 1 - nI i - nI j = nI (tt - (i + j + 1)) := by
  rw [pk_sub (by omega), pk_sub (by omega), pk_sub (by omega)]
  exact congrArg nI (by omega)
theorem on_n {i j tt : Nat} (h : tt < i + j + 1) (hb : i < 4 ∧ j < 4) : nI tt - nI 1 - nI i - nI j < (0 : Int32) := by
  rw [Int32.lt_iff_toInt_lt]
  have e1 : (nI tt - nI 1).toInt = (tt : Int) - 1 := pk_sub_toInt (by omega) (by omega)
  have e2 : (nI tt - nI 1 - nI i).toInt = (tt : Int) - 1 - i := by
    rw [Int32.toInt_sub, e1, nI_toInt (by omega)]
    exact tI_bm (by omega) (by omega)
  have e3 : (nI tt - nI 1 - nI i - nI j).toInt = (tt : Int) - 1 - i - j := by
    rw [Int32.toInt_sub, e2, nI_toInt (by omega)]
    exact tI_bm (by omega) (by omega)
  rw [e3]
  have h0 : (0 : Int32).toInt = 0 := rfl
  omega
theorem on_3 {k i j tt : Nat} (h : ¬ onW k i j tt) : tt < i + j + 1 ∨ (i + j + 1 ≤ tt ∧ k ≤ tt - (i + j + 1)) := by unfold onW at h; omega
theorem kL_areCells_c115 : Cond.constant RL 115 (-1000001) ∈ wsL_areCells := by decide +kernel
theorem kL_areCells_c44 : Cond.constant RL 44 (-1000004) ∈ wsL_areCells := by decide +kernel
theorem kL_areCells_c48 : Cond.constant RL 48 (-1000002) ∈ wsL_areCells := by decide +kernel
set_option maxHeartbeats 4000000 in
set_option maxRecDepth 100000 in
/-- kL_areCells -/
theorem kL_areCells (l : Launch) (G : wG) (oa ga aa ba fa ra wa n r k c o b ta tb tt : Nat) (u : OD) (g ad bd fd rd : wF) (wd : Nat → Int64) (s : wF) (T : Nat → Nat) (hI : OI n r k c o b ta tb tt u s T 0) (hL : LR n r k c o b ta tb tt g ad bd fd rd wd s) : CR l yL_areCells wsL_areCells (rm 4 87) G [.ref oa, .ref ga, .ref aa, .ref ba, .ref fa] (List.flatten [[(ga, ai G 9 g)], [(aa, ai G 36 ad)], [(ba, ai G 36 bd)], [(fa, ai G 20 fd)], wO G oa u]) (fun x => x = nI 1) := by
  refine CR.ofZ (own := RL) rfl (by decide) rfl (Nat.le_of_ble_eq_true rfl) ?_
  intro p9 e9 s9 m9 b9 t9 c9 xE xB xM xO xT xK xP Q xQ ls hl
  have xL : lv_has ls 18 [(0, .ref oa), (1, .ref ga), (2, .ref aa), (3, .ref ba), (4, .ref fa)] := hl
  have hL0 := hL
  obtain ⟨⟨hg0, hg1, hg2, hg3, hg4, hg5⟩, hg6, hA, hB, hF, z, hz, hz2, hZ⟩ := hL
  have hN := hI.num
  have hn := hN.2.1
  have hm := hN.2.2.1
  have hb1 := hN.2.2.2.1
  have hnn : n * n ≤ 16 := Nat.mul_le_mul hn.2.1 hn.2.1
  refine lv_iconst (v := nI 1) xE xB dL_areCells_0 (by decide) ?_
  refine lv_istore (lv' := [(5, .int (nI 1)), (0, .ref oa), (1, .ref ga), (2, .ref aa), (3, .ref ba), (4, .ref fa)]) xE xB dL_areCells_1 xL (by decide) rfl (fun ls xL => ?_)
  refine lv_iconst (v := nI 0) xE xB dL_areCells_3 (by decide) ?_
  refine lv_istore (lv' := [(6, .int (nI 0)), (5, .int (nI 1)), (0, .ref oa), (1, .ref ga), (2, .ref aa), (3, .ref ba), (4, .ref fa)]) xE xB dL_areCells_4 xL (by decide) rfl (fun ls xL => ?_)
  have L_6 : ∀ (n_6 : Nat) (q : Nat), (q ≤ n * n) → n * n - q < n_6 → ∀ (ls : Array Slot), lv_has ls 18 [(0, .ref oa), (1, .ref ga), (2, .ref aa), (3, .ref ba), (4, .ref fa), (5, .int (nI 1)), (6, .int (nI q))] → W p9 l e9 (rm 4 87) s9 m9 ([.ref oa, .ref ga, .ref aa, .ref ba, .ref fa] : List Value).toArray b9 t9 c9 s9.heap [] 0 0 Q (F0 m9 6 ls []) := by
    intro n_6
    induction n_6 with
    | zero => intro q hq hm_6 ls xL; exact absurd hm_6 (Nat.not_lt_zero _)
    | succ n_6 ih_6 =>
      intro q hq hm_6 ls xL
      refine lv_iload xE xB dL_areCells_6 (lv_at xL 6 rfl) ?_
      refine lv_aload_n xE xB dL_areCells_8 rfl (lv_at xL 1 rfl) ?_
      refine lv_iconst (v := nI 0) xE xB dL_areCells_9 (by decide) ?_
      refine q_ald xE xB xK xP 0 rfl (by omega) (by decide) dL_areCells_10 ?_
      refine q_eq (y := nI n) (hg0) ?_
      refine lv_aload_n xE xB dL_areCells_11 rfl (lv_at xL 1 rfl) ?_
      refine lv_iconst (v := nI 0) xE xB dL_areCells_12 (by decide) ?_
      refine q_ald xE xB xK xP 0 rfl (by omega) (by decide) dL_areCells_13 ?_
      refine q_eq (y := nI n) (hg0) ?_
      refine q_imul xE xB dL_areCells_14 ?_
      refine q_icmp_ge (tgt := 516) xE xB dL_areCells_15 (by decide) (by omega) (by omega) (fun c_15 => ?_) (fun c_15 => ?_)
      · skip
        refine lv_iload xE xB dL_areCells_516 (lv_at xL 5 rfl) ?_
        refine lv_if_eq (tgt := 553) xE xB dL_areCells_518 (by decide) (fun h9 => absurd h9 (by decide)) (fun _ => ?_)
        refine lv_aload_n xE xB dL_areCells_521 rfl (lv_at xL 0 rfl) ?_
        refine lv_aload_n xE xB dL_areCells_522 rfl (lv_at xL 1 rfl) ?_
        refine lv_iconst (v := nI 0) xE xB dL_areCells_523 (by decide) ?_
        refine q_ald xE xB xK xP 0 rfl (by omega) (by decide) dL_areCells_524 ?_
        refine q_eq (y := nI n) (hg0) ?_
        refine lv_iconst (v := nI 0) xE xB dL_areCells_525 (by decide) ?_
        refine lv_iconst (v := nI 0) xE xB dL_areCells_526 (by decide) ?_
        refine q_VRL (As := [.int (nI n), .int (nI 0), .int (nI 0)]) (rest := []) ⟨xE, xB, xM, xO, xT⟩ (kO_cellOf l G oa n r k c o b ta tb tt 0 u s T (nI n) (nI 0) (nI 0) (by first | assumption | omega)) (cwV 3 xT gL_areCells_X6_cellOf rfl rfl rfl (by decide +kernel) ⟨Nat.le_of_ble_eq_true rfl, Nat.le_of_ble_eq_true rfl⟩) xK xP [4] [0, 1, 2, 3] 5 rfl (by decide) (Lc := [wO G oa u]) rfl rfl 0 rfl rfl rfl rfl xL.1 rfl (Nat.le_of_ble_eq_true rfl) dL_areCells_527 ⟨Nat.le_refl _, Nat.le_refl _⟩ (fun r_527 h_527 => ?_)
        obtain rfl : r_527 = ceA n o b (nI n) (nI 0) (nI 0) s := h_527
        refine q_eq (y := (-1000001)) (ce_n0 hn.2.1) ?_
        refine lv_ldc (v := (-1000001)) xE xB xO (xT _ kL_areCells_c115) dL_areCells_530 ?_
        refine lv_icmp_ne (tgt := 553) xE xB dL_areCells_532 (by decide) (fun c_532 => absurd c_532 (by exact fun q => q rfl)) (fun c_532 => ?_)
        refine lv_aload_n xE xB dL_areCells_535 rfl (lv_at xL 0 rfl) ?_
        refine lv_iconst (v := nI 0) xE xB dL_areCells_536 (by decide) ?_
        refine lv_aload_n xE xB dL_areCells_537 rfl (lv_at xL 1 rfl) ?_
        refine lv_iconst (v := nI 0) xE xB dL_areCells_538 (by decide) ?_
        refine q_ald xE xB xK xP 0 rfl (by omega) (by decide) dL_areCells_539 ?_
        refine q_eq (y := nI n) (hg0) ?_
        refine lv_iconst (v := nI 3) xE xB dL_areCells_540 (by decide) ?_
        refine q_VRL (As := [.int (nI 0), .int (nI n), .int (nI 3)]) (rest := []) ⟨xE, xB, xM, xO, xT⟩ (kO_cellOf l G oa n r k c o b ta tb tt 0 u s T (nI 0) (nI n) (nI 3) (by first | assumption | omega)) (cwV 3 xT gL_areCells_X6_cellOf rfl rfl rfl (by decide +kernel) ⟨Nat.le_of_ble_eq_true rfl, Nat.le_of_ble_eq_true rfl⟩) xK xP [4] [0, 1, 2, 3] 5 rfl (by decide) (Lc := [wO G oa u]) rfl rfl 0 rfl rfl rfl rfl xL.1 rfl (Nat.le_of_ble_eq_true rfl) dL_areCells_541 ⟨Nat.le_refl _, Nat.le_refl _⟩ (fun r_541 h_541 => ?_)
        obtain rfl : r_541 = ceA n o b (nI 0) (nI n) (nI 3) s := h_541
        refine q_eq (y := (-1000001)) (ce_0n hn.2.1) ?_
        refine lv_ldc (v := (-1000001)) xE xB xO (xT _ kL_areCells_c115) dL_areCells_544 ?_
        refine lv_icmp_ne (tgt := 553) xE xB dL_areCells_546 (by decide) (fun c_546 => absurd c_546 (by exact fun q => q rfl)) (fun c_546 => ?_)
        refine lv_iconst (v := nI 1) xE xB dL_areCells_549 (by decide) ?_
        refine lv_goto (tgt := 554) xE xB dL_areCells_550 (by decide) ?_
        exact xQ _ _ _ (congrArg nI (by first | rfl | omega)) (by decide) dL_areCells_554
      · skip
        refine lv_iload xE xB dL_areCells_18 (lv_at xL 5 rfl) ?_
        refine lv_if_eq (tgt := 516) xE xB dL_areCells_20 (by decide) (fun h9 => absurd h9 (by decide)) (fun _ => ?_)
        refine lv_iload xE xB dL_areCells_23 (lv_at xL 6 rfl) ?_
        refine lv_aload_n xE xB dL_areCells_25 rfl (lv_at xL 1 rfl) ?_
        refine lv_iconst (v := nI 0) xE xB dL_areCells_26 (by decide) ?_
        refine q_ald xE xB xK xP 0 rfl (by omega) (by decide) dL_areCells_27 ?_
        refine q_eq (y := nI n) (hg0) ?_
        refine q_idiv xE xB dL_areCells_28 (by omega) (by omega) (by omega) ?_
        obtain ⟨i, hi, ei⟩ : ∃ z : Nat, z < n ∧ z = q / n := ⟨_, (Nat.div_lt_iff_lt_mul (by omega)).mpr c_15, rfl⟩
        refine q_eq (y := nI i) (congrArg nI ei.symm) ?_
        refine lv_istore (lv' := [(7, .int (nI i)), (0, .ref oa), (1, .ref ga), (2, .ref aa), (3, .ref ba), (4, .ref fa), (5, .int (nI 1)), (6, .int (nI q))]) xE xB dL_areCells_29 xL (by decide) rfl (fun ls xL => ?_)
        refine lv_iload xE xB dL_areCells_31 (lv_at xL 7 rfl) ?_
        refine lv_aload_n xE xB dL_areCells_33 rfl (lv_at xL 2 rfl) ?_
        refine lv_iconst (v := nI 0) xE xB dL_areCells_34 (by decide) ?_
        refine q_ald xE xB xK xP 0 rfl (by omega) (by decide) dL_areCells_35 ?_
        refine q_eq (y := nI n) (hg0) ?_
        refine q_irem xE xB dL_areCells_36 (by omega) (by omega) (by omega) ?_
        obtain ⟨j, hj, ej⟩ : ∃ z : Nat, z < n ∧ z = q % n := ⟨_, Nat.mod_lt _ (by omega), rfl⟩
        refine q_eq (y := nI j) (congrArg nI ej.symm) ?_
        refine lv_istore (lv' := [(8, .int (nI j)), (7, .int (nI i)), (0, .ref oa), (1, .ref ga), (2, .ref aa), (3, .ref ba), (4, .ref fa), (5, .int (nI 1)), (6, .int (nI q))]) xE xB dL_areCells_37 xL (by decide) rfl (fun ls xL => ?_)
        refine lv_aload xE xB dL_areCells_39 (lv_at xL 6 rfl) ?_
        refine lv_iload xE xB dL_areCells_41 (lv_at xL 1 rfl) ?_
        refine lv_iload xE xB dL_areCells_43 (lv_at xL 0 rfl) ?_
        refine lv_aload_n xE xB dL_areCells_45 rfl (lv_at xL 3 rfl) ?_
        refine lv_iconst (v := nI 4) xE xB dL_areCells_46 (by decide) ?_
        refine q_ald xE xB xK xP 0 rfl (by omega) (by decide) dL_areCells_47 ?_
        refine q_eq (y := nI o) (hg4) ?_
        refine q_SRL (As := [.ref fa, .int (nI i), .int (nI j), .int (nI o)]) (rest := []) ⟨xE, xB, xM, xO, xT⟩ (kL_use l G fa fd i j o (by omega) (by omega) (by omega)) (va_cwS 4 xT gL_areCells_L_use rfl rfl rfl (by decide +kernel) ⟨Nat.le_of_ble_eq_true rfl, Nat.le_of_ble_eq_true rfl⟩) xK xP [3] [0, 1, 2, 4] 5 rfl (by decide) (Lc := [[(fa, ai G 20 fd)]]) rfl rfl rfl xL.1 rfl (Nat.le_of_ble_eq_true rfl) dL_areCells_48 ⟨Nat.le_refl _, Nat.le_refl _⟩ (fun r_48 h_48 => ?_)
        obtain rfl : r_48 = useF fd o i j := h_48
        refine lv_istore (lv' := [(9, .int (useF fd o i j)), (8, .int (nI j)), (7, .int (nI i)), (0, .ref oa), (1, .ref ga), (2, .ref aa), (3, .ref ba), (4, .ref fa), (5, .int (nI 1)), (6, .int (nI q))]) xE xB dL_areCells_51 xL (by decide) rfl (fun ls xL => ?_)
        refine lv_aload_n xE xB dL_areCells_53 rfl (lv_at xL 3 rfl) ?_
        refine lv_iload xE xB dL_areCells_54 (lv_at xL 2 rfl) ?_
        refine lv_iload xE xB dL_areCells_56 (lv_at xL 1 rfl) ?_
        refine lv_iconst (v := nI 3) xE xB dL_areCells_58 (by decide) ?_
        refine q_VRL (As := [.int (nI i), .int (nI j), .int (nI 3)]) (rest := []) ⟨xE, xB, xM, xO, xT⟩ (kO_cellOf l G oa n r k c o b ta tb tt 0 u s T (nI i) (nI j) (nI 3) (by first | assumption | omega)) (cwV 3 xT gL_areCells_X6_cellOf rfl rfl rfl (by decide +kernel) ⟨Nat.le_of_ble_eq_true rfl, Nat.le_of_ble_eq_true rfl⟩) xK xP [4] [0, 1, 2, 3] 5 rfl (by decide) (Lc := [wO G oa u]) rfl rfl 0 rfl rfl rfl rfl xL.1 rfl (Nat.le_of_ble_eq_true rfl) dL_areCells_59 ⟨Nat.le_refl _, Nat.le_refl _⟩ (fun r_59 h_59 => ?_)
        obtain rfl : r_59 = ceA n o b (nI i) (nI j) (nI 3) s := h_59
        refine q_eq (y := nI (if j < o then j else j + 1)) (ce_3 hi hj hn.2.1) ?_
        have J_79 : ∀ (p : Nat), (p = if j < o then j else j + 1) → ∀ (ls : Array Slot), lv_has ls 18 [(9, .int (useF fd o i j)), (8, .int (nI j)), (7, .int (nI i)), (0, .ref oa), (1, .ref ga), (2, .ref aa), (3, .ref ba), (4, .ref fa), (5, .int (nI 1)), (6, .int (nI q))] → W p9 l e9 (rm 4 87) s9 m9 ([.ref oa, .ref ga, .ref aa, .ref ba, .ref fa] : List Value).toArray b9 t9 c9 s9.heap [] 0 0 Q (F0 m9 79 ls [.int (nI p), .int (nI (if j < o then j else j + 1))]) := by
          intro p hp ls xL
          refine q_icmp_ne (tgt := 115) xE xB dL_areCells_79 (by decide) (by first | (split <;> omega) | (rw [hp]; split <;> omega)) (by first | (split <;> omega) | (rw [hp]; split <;> omega)) (fun c_79 => absurd c_79 (by omega)) (fun c_79 => ?_)
          refine lv_aload_n xE xB dL_areCells_82 rfl (lv_at xL 3 rfl) ?_
          refine lv_iload xE xB dL_areCells_83 (lv_at xL 2 rfl) ?_
          refine lv_iload xE xB dL_areCells_85 (lv_at xL 1 rfl) ?_
          refine lv_iconst (v := nI 4) xE xB dL_areCells_87 (by decide) ?_
          refine q_VRL (As := [.int (nI i), .int (nI j), .int (nI 4)]) (rest := []) ⟨xE, xB, xM, xO, xT⟩ (kO_cellOf l G oa n r k c o b ta tb tt 0 u s T (nI i) (nI j) (nI 4) (by first | assumption | omega)) (cwV 3 xT gL_areCells_X6_cellOf rfl rfl rfl (by decide +kernel) ⟨Nat.le_of_ble_eq_true rfl, Nat.le_of_ble_eq_true rfl⟩) xK xP [4] [0, 1, 2, 3] 5 rfl (by decide) (Lc := [wO G oa u]) rfl rfl 0 rfl rfl rfl rfl xL.1 rfl (Nat.le_of_ble_eq_true rfl) dL_areCells_88 ⟨Nat.le_refl _, Nat.le_refl _⟩ (fun r_88 h_88 => ?_)
          obtain rfl : r_88 = ceA n o b (nI i) (nI j) (nI 4) s := h_88
          refine q_eq (y := useF fd o i j) (ce_4 hi hj hn.2.1 hF) ?_
          refine lv_iload xE xB dL_areCells_91 (lv_at xL 0 rfl) ?_
          refine lv_icmp_ne (tgt := 115) xE xB dL_areCells_93 (by decide) (fun c_93 => absurd c_93 (by exact fun q => q rfl)) (fun c_93 => ?_)
          refine lv_aload_n xE xB dL_areCells_96 rfl (lv_at xL 3 rfl) ?_
          refine lv_iload xE xB dL_areCells_97 (lv_at xL 2 rfl) ?_
          refine lv_iload xE xB dL_areCells_99 (lv_at xL 1 rfl) ?_
          refine lv_bipush (v := nI 6) xE xB dL_areCells_101 (by decide) ?_
          refine q_VRL (As := [.int (nI i), .int (nI j), .int (nI 6)]) (rest := []) ⟨xE, xB, xM, xO, xT⟩ (kO_cellOf l G oa n r k c o b ta tb tt 0 u s T (nI i) (nI j) (nI 6) (by first | assumption | omega)) (cwV 3 xT gL_areCells_X6_cellOf rfl rfl rfl (by decide +kernel) ⟨Nat.le_of_ble_eq_true rfl, Nat.le_of_ble_eq_true rfl⟩) xK xP [4] [0, 1, 2, 3] 5 rfl (by decide) (Lc := [wO G oa u]) rfl rfl 0 rfl rfl rfl rfl xL.1 rfl (Nat.le_of_ble_eq_true rfl) dL_areCells_103 ⟨Nat.le_refl _, Nat.le_refl _⟩ (fun r_103 h_103 => ?_)
          obtain rfl : r_103 = ceA n o b (nI i) (nI j) (nI 6) s := h_103
          refine q_eq (y := (-1000001)) (ce_6) ?_
          refine lv_ldc (v := (-1000001)) xE xB xO (xT _ kL_areCells_c115) dL_areCells_106 ?_
          refine lv_icmp_ne (tgt := 115) xE xB dL_areCells_108 (by decide) (fun c_108 => absurd c_108 (by exact fun q => q rfl)) (fun c_108 => ?_)
          refine lv_iconst (v := nI 1) xE xB dL_areCells_111 (by decide) ?_
          refine lv_goto (tgt := 116) xE xB dL_areCells_112 (by decide) ?_
          refine lv_istore (lv' := [(5, .int (nI 1)), (9, .int (useF fd o i j)), (8, .int (nI j)), (7, .int (nI i)), (0, .ref oa), (1, .ref ga), (2, .ref aa), (3, .ref ba), (4, .ref fa), (6, .int (nI q))]) xE xB dL_areCells_116 xL (by decide) rfl (fun ls xL => ?_)
          rcases (show b = 0 ∨ b = 1 by omega) with hb0 | hb0
          · skip
            refine lv_aload_n xE xB dL_areCells_118 rfl (lv_at xL 5 rfl) ?_
            refine lv_iconst (v := nI 5) xE xB dL_areCells_119 (by decide) ?_
            refine q_ald xE xB xK xP 0 rfl (by omega) (by decide) dL_areCells_120 ?_
            refine q_eq (y := nI b) (hg5) ?_
            refine q_if_ne (tgt := 195) xE xB dL_areCells_121 (by decide) (by omega) (fun c_121 => absurd c_121 (by omega)) (fun c_121 => ?_)
            refine lv_iload xE xB dL_areCells_124 (lv_at xL 0 rfl) ?_
            refine lv_if_eq (tgt := 189) xE xB dL_areCells_126 (by decide) (fun h9 => absurd h9 (by decide)) (fun _ => ?_)
            refine lv_aload_n xE xB dL_areCells_129 rfl (lv_at xL 4 rfl) ?_
            refine lv_iload xE xB dL_areCells_130 (lv_at xL 3 rfl) ?_
            refine lv_iload xE xB dL_areCells_132 (lv_at xL 2 rfl) ?_
            refine lv_iconst (v := nI 0) xE xB dL_areCells_134 (by decide) ?_
            refine q_VRL (As := [.int (nI i), .int (nI j), .int (nI 0)]) (rest := []) ⟨xE, xB, xM, xO, xT⟩ (kO_cellOf l G oa n r k c o b ta tb tt 0 u s T (nI i) (nI j) (nI 0) (by first | assumption | omega)) (cwV 3 xT gL_areCells_X6_cellOf rfl rfl rfl (by decide +kernel) ⟨Nat.le_of_ble_eq_true rfl, Nat.le_of_ble_eq_true rfl⟩) xK xP [4] [0, 1, 2, 3] 5 rfl (by decide) (Lc := [wO G oa u]) rfl rfl 0 rfl rfl rfl rfl xL.1 rfl (Nat.le_of_ble_eq_true rfl) dL_areCells_135 ⟨Nat.le_refl _, Nat.le_refl _⟩ (fun r_135 h_135 => ?_)
            obtain rfl : r_135 = ceA n o b (nI i) (nI j) (nI 0) s := h_135
            refine q_eq (y := (-1000002)) (ce_b hi hj hn.2.1 (by omega) (by decide) (by decide) (by decide)) ?_
            refine lv_ldc (v := (-1000002)) xE xB xO (xT _ kL_areCells_c48) dL_areCells_138 ?_
            refine lv_icmp_ne (tgt := 189) xE xB dL_areCells_140 (by decide) (fun c_140 => absurd c_140 (by exact fun q => q rfl)) (fun c_140 => ?_)
            refine lv_aload_n xE xB dL_areCells_143 rfl (lv_at xL 4 rfl) ?_
            refine lv_iload xE xB dL_areCells_144 (lv_at xL 3 rfl) ?_
            refine lv_iload xE xB dL_areCells_146 (lv_at xL 2 rfl) ?_
            refine lv_iconst (v := nI 1) xE xB dL_areCells_148 (by decide) ?_
            refine q_VRL (As := [.int (nI i), .int (nI j), .int (nI 1)]) (rest := []) ⟨xE, xB, xM, xO, xT⟩ (kO_cellOf l G oa n r k c o b ta tb tt 0 u s T (nI i) (nI j) (nI 1) (by first | assumption | omega)) (cwV 3 xT gL_areCells_X6_cellOf rfl rfl rfl (by decide +kernel) ⟨Nat.le_of_ble_eq_true rfl, Nat.le_of_ble_eq_true rfl⟩) xK xP [4] [0, 1, 2, 3] 5 rfl (by decide) (Lc := [wO G oa u]) rfl rfl 0 rfl rfl rfl rfl xL.1 rfl (Nat.le_of_ble_eq_true rfl) dL_areCells_149 ⟨Nat.le_refl _, Nat.le_refl _⟩ (fun r_149 h_149 => ?_)
            obtain rfl : r_149 = ceA n o b (nI i) (nI j) (nI 1) s := h_149
            refine q_eq (y := (-1000002)) (ce_b hi hj hn.2.1 (by omega) (by decide) (by decide) (by decide)) ?_
            refine lv_ldc (v := (-1000002)) xE xB xO (xT _ kL_areCells_c48) dL_areCells_152 ?_
            refine lv_icmp_ne (tgt := 189) xE xB dL_areCells_154 (by decide) (fun c_154 => absurd c_154 (by exact fun q => q rfl)) (fun c_154 => ?_)
            refine lv_aload_n xE xB dL_areCells_157 rfl (lv_at xL 4 rfl) ?_
            refine lv_iload xE xB dL_areCells_158 (lv_at xL 3 rfl) ?_
            refine lv_iload xE xB dL_areCells_160 (lv_at xL 2 rfl) ?_
            refine lv_iconst (v := nI 2) xE xB dL_areCells_162 (by decide) ?_
            refine q_VRL (As := [.int (nI i), .int (nI j), .int (nI 2)]) (rest := []) ⟨xE, xB, xM, xO, xT⟩ (kO_cellOf l G oa n r k c o b ta tb tt 0 u s T (nI i) (nI j) (nI 2) (by first | assumption | omega)) (cwV 3 xT gL_areCells_X6_cellOf rfl rfl rfl (by decide +kernel) ⟨Nat.le_of_ble_eq_true rfl, Nat.le_of_ble_eq_true rfl⟩) xK xP [4] [0, 1, 2, 3] 5 rfl (by decide) (Lc := [wO G oa u]) rfl rfl 0 rfl rfl rfl rfl xL.1 rfl (Nat.le_of_ble_eq_true rfl) dL_areCells_163 ⟨Nat.le_refl _, Nat.le_refl _⟩ (fun r_163 h_163 => ?_)
            obtain rfl : r_163 = ceA n o b (nI i) (nI j) (nI 2) s := h_163
            refine q_eq (y := (-1000002)) (ce_b hi hj hn.2.1 (by omega) (by decide) (by decide) (by decide)) ?_
            refine lv_ldc (v := (-1000002)) xE xB xO (xT _ kL_areCells_c48) dL_areCells_166 ?_
            refine lv_icmp_ne (tgt := 189) xE xB dL_areCells_168 (by decide) (fun c_168 => absurd c_168 (by exact fun q => q rfl)) (fun c_168 => ?_)
            refine lv_aload_n xE xB dL_areCells_171 rfl (lv_at xL 4 rfl) ?_
            refine lv_iload xE xB dL_areCells_172 (lv_at xL 3 rfl) ?_
            refine lv_iload xE xB dL_areCells_174 (lv_at xL 2 rfl) ?_
            refine lv_iconst (v := nI 5) xE xB dL_areCells_176 (by decide) ?_
            refine q_VRL (As := [.int (nI i), .int (nI j), .int (nI 5)]) (rest := []) ⟨xE, xB, xM, xO, xT⟩ (kO_cellOf l G oa n r k c o b ta tb tt 0 u s T (nI i) (nI j) (nI 5) (by first | assumption | omega)) (cwV 3 xT gL_areCells_X6_cellOf rfl rfl rfl (by decide +kernel) ⟨Nat.le_of_ble_eq_true rfl, Nat.le_of_ble_eq_true rfl⟩) xK xP [4] [0, 1, 2, 3] 5 rfl (by decide) (Lc := [wO G oa u]) rfl rfl 0 rfl rfl rfl rfl xL.1 rfl (Nat.le_of_ble_eq_true rfl) dL_areCells_177 ⟨Nat.le_refl _, Nat.le_refl _⟩ (fun r_177 h_177 => ?_)
            obtain rfl : r_177 = ceA n o b (nI i) (nI j) (nI 5) s := h_177
            refine q_eq (y := (-1000002)) (ce_b hi hj hn.2.1 (by omega) (by decide) (by decide) (by decide)) ?_
            refine lv_ldc (v := (-1000002)) xE xB xO (xT _ kL_areCells_c48) dL_areCells_180 ?_
            refine lv_icmp_ne (tgt := 189) xE xB dL_areCells_182 (by decide) (fun c_182 => absurd c_182 (by exact fun q => q rfl)) (fun c_182 => ?_)
            refine lv_iconst (v := nI 1) xE xB dL_areCells_185 (by decide) ?_
            refine lv_goto (tgt := 190) xE xB dL_areCells_186 (by decide) ?_
            refine lv_istore (lv' := [(5, .int (nI 1)), (9, .int (useF fd o i j)), (8, .int (nI j)), (7, .int (nI i)), (0, .ref oa), (1, .ref ga), (2, .ref aa), (3, .ref ba), (4, .ref fa), (6, .int (nI q))]) xE xB dL_areCells_190 xL (by decide) rfl (fun ls xL => ?_)
            refine lv_goto (tgt := 510) xE xB dL_areCells_192 (by decide) ?_
            refine lv_iinc (v := nI (q + 1)) (lv' := [(6, .int (nI (q + 1))), (5, .int (nI 1)), (9, .int (useF fd o i j)), (8, .int (nI j)), (7, .int (nI i)), (0, .ref oa), (1, .ref ga), (2, .ref aa), (3, .ref ba), (4, .ref fa)]) xE xB dL_areCells_510 xL (k := 9) rfl (q_inc _ _) (by decide) rfl (fun ls xL => ?_)
            refine lv_goto (tgt := 6) xE xB dL_areCells_513 (by decide) ?_
            exact ih_6 (q + 1) (by omega) (by omega) _ (lv_sub xL [5, 6, 7, 8, 9, 1, 0] rfl)
          · skip
            refine lv_aload_n xE xB dL_areCells_118 rfl (lv_at xL 5 rfl) ?_
            refine lv_iconst (v := nI 5) xE xB dL_areCells_119 (by decide) ?_
            refine q_ald xE xB xK xP 0 rfl (by omega) (by decide) dL_areCells_120 ?_
            refine q_eq (y := nI b) (hg5) ?_
            refine q_if_ne (tgt := 195) xE xB dL_areCells_121 (by decide) (by omega) (fun c_121 => ?_) (fun c_121 => absurd c_121 (by omega))
            have hta := (hN.2.2.2.2.1 (by omega)).2.1
            have htb := (hN.2.2.2.2.1 (by omega)).2.2.1
            have htt := Nat.lt_of_le_of_lt (hN.2.2.2.2.1 (by omega)).2.2.2.1 (need_b hn.2.1 hm.2.2.2.1)
            rcases Classical.em (i < min n (r - n * ta) ∧ j < min n (c - n * tb)) with hin | hin
            · skip
              have hta := (hN.2.2.2.2.1 (by omega)).2.1
              have htb := (hN.2.2.2.2.1 (by omega)).2.2.1
              have htt := Nat.lt_of_le_of_lt (hN.2.2.2.2.1 (by omega)).2.2.2.1 (need_b hn.2.1 hm.2.2.2.1)
              refine lv_iload xE xB dL_areCells_195 (lv_at xL 3 rfl) ?_
              refine lv_aload_n xE xB dL_areCells_197 rfl (lv_at xL 5 rfl) ?_
              refine lv_aload_n xE xB dL_areCells_198 rfl (lv_at xL 5 rfl) ?_
              refine lv_iconst (v := nI 1) xE xB dL_areCells_199 (by decide) ?_
              refine q_ald xE xB xK xP 0 rfl (by omega) (by decide) dL_areCells_200 ?_
              refine q_eq (y := nI r) (hg1) ?_
              refine lv_aload_n xE xB dL_areCells_201 rfl (lv_at xL 5 rfl) ?_
              refine lv_bipush (v := nI 6) xE xB dL_areCells_202 (by decide) ?_
              refine q_ald xE xB xK xP 0 rfl (by omega) (by decide) dL_areCells_204 ?_
              refine q_eq (y := nI ta) ((hg6 (by omega)).1) ?_
              refine q_SRL (As := [.ref ga, .int (nI r), .int (nI ta)]) (rest := [.int (nI i)]) ⟨xE, xB, xM, xO, xT⟩ (kL_part l G ga g n r ta (hg0) (by omega) (by omega) (by omega)) (va_cwS 3 xT gL_areCells_L_part rfl rfl rfl (by decide +kernel) ⟨Nat.le_of_ble_eq_true rfl, Nat.le_of_ble_eq_true rfl⟩) xK xP [0] [1, 2, 3, 4] 5 rfl (by decide) (Lc := [[(ga, ai G 9 g)]]) rfl rfl rfl xL.1 rfl (Nat.le_of_ble_eq_true rfl) dL_areCells_205 ⟨Nat.le_refl _, Nat.le_refl _⟩ (fun r_205 h_205 => ?_)
              obtain rfl : r_205 = nI (min n (r - n * ta)) := h_205
              refine q_icmp_ge (tgt := 231) xE xB dL_areCells_208 (by decide) (by omega) (by omega) (fun c_208 => absurd c_208 (by omega)) (fun c_208 => ?_)
              refine lv_iload xE xB dL_areCells_211 (lv_at xL 2 rfl) ?_
              refine lv_aload_n xE xB dL_areCells_213 rfl (lv_at xL 5 rfl) ?_
              refine lv_aload_n xE xB dL_areCells_214 rfl (lv_at xL 5 rfl) ?_
              refine lv_iconst (v := nI 3) xE xB dL_areCells_215 (by decide) ?_
              refine q_ald xE xB xK xP 0 rfl (by omega) (by decide) dL_areCells_216 ?_
              refine q_eq (y := nI c) (hg3) ?_
              refine lv_aload_n xE xB dL_areCells_217 rfl (lv_at xL 5 rfl) ?_
              refine lv_bipush (v := nI 7) xE xB dL_areCells_218 (by decide) ?_
              refine q_ald xE xB xK xP 0 rfl (by omega) (by decide) dL_areCells_220 ?_
              refine q_eq (y := nI tb) ((hg6 (by omega)).2.1) ?_
              refine q_SRL (As := [.ref ga, .int (nI c), .int (nI tb)]) (rest := [.int (nI j)]) ⟨xE, xB, xM, xO, xT⟩ (kL_part l G ga g n c tb (hg0) (by omega) (by omega) (by omega)) (va_cwS 3 xT gL_areCells_L_part rfl rfl rfl (by decide +kernel) ⟨Nat.le_of_ble_eq_true rfl, Nat.le_of_ble_eq_true rfl⟩) xK xP [0] [1, 2, 3, 4] 5 rfl (by decide) (Lc := [[(ga, ai G 9 g)]]) rfl rfl rfl xL.1 rfl (Nat.le_of_ble_eq_true rfl) dL_areCells_221 ⟨Nat.le_refl _, Nat.le_refl _⟩ (fun r_221 h_221 => ?_)
              obtain rfl : r_221 = nI (min n (c - n * tb)) := h_221
              refine q_icmp_ge (tgt := 231) xE xB dL_areCells_224 (by decide) (by omega) (by omega) (fun c_224 => absurd c_224 (by omega)) (fun c_224 => ?_)
              refine lv_iconst (v := nI 1) xE xB dL_areCells_227 (by decide) ?_
              refine lv_goto (tgt := 232) xE xB dL_areCells_228 (by decide) ?_
              refine lv_istore (lv' := [(10, .int (nI 1)), (5, .int (nI 1)), (9, .int (useF fd o i j)), (8, .int (nI j)), (7, .int (nI i)), (0, .ref oa), (1, .ref ga), (2, .ref aa), (3, .ref ba), (4, .ref fa), (6, .int (nI q))]) xE xB dL_areCells_232 xL (by decide) rfl (fun ls xL => ?_)
              refine lv_aload_n xE xB dL_areCells_234 rfl (lv_at xL 6 rfl) ?_
              refine lv_iconst (v := nI 0) xE xB dL_areCells_235 (by decide) ?_
              refine q_ald xE xB xK xP 0 rfl (by omega) (by decide) dL_areCells_236 ?_
              refine q_eq (y := nI n) (hg0) ?_
              refine lv_aload_n xE xB dL_areCells_237 rfl (lv_at xL 6 rfl) ?_
              refine lv_bipush (v := nI 6) xE xB dL_areCells_238 (by decide) ?_
              refine q_ald xE xB xK xP 0 rfl (by omega) (by decide) dL_areCells_240 ?_
              refine q_eq (y := nI ta) ((hg6 (by omega)).1) ?_
              refine q_imul xE xB dL_areCells_241 ?_
              refine lv_iload xE xB dL_areCells_242 (lv_at xL 4 rfl) ?_
              refine q_iadd xE xB dL_areCells_244 ?_
              refine lv_istore (lv' := [(11, .int (nI ((n * ta) + i))), (10, .int (nI 1)), (5, .int (nI 1)), (9, .int (useF fd o i j)), (8, .int (nI j)), (7, .int (nI i)), (0, .ref oa), (1, .ref ga), (2, .ref aa), (3, .ref ba), (4, .ref fa), (6, .int (nI q))]) xE xB dL_areCells_245 xL (by decide) rfl (fun ls xL => ?_)
              refine lv_aload_n xE xB dL_areCells_247 rfl (lv_at xL 7 rfl) ?_
              refine lv_iconst (v := nI 0) xE xB dL_areCells_248 (by decide) ?_
              refine q_ald xE xB xK xP 0 rfl (by omega) (by decide) dL_areCells_249 ?_
              refine q_eq (y := nI n) (hg0) ?_
              refine lv_aload_n xE xB dL_areCells_250 rfl (lv_at xL 7 rfl) ?_
              refine lv_bipush (v := nI 7) xE xB dL_areCells_251 (by decide) ?_
              refine q_ald xE xB xK xP 0 rfl (by omega) (by decide) dL_areCells_253 ?_
              refine q_eq (y := nI tb) ((hg6 (by omega)).2.1) ?_
              refine q_imul xE xB dL_areCells_254 ?_
              refine lv_iload xE xB dL_areCells_255 (lv_at xL 4 rfl) ?_
              refine q_iadd xE xB dL_areCells_257 ?_
              refine lv_istore (lv' := [(12, .int (nI ((n * tb) + j))), (11, .int (nI ((n * ta) + i))), (10, .int (nI 1)), (5, .int (nI 1)), (9, .int (useF fd o i j)), (8, .int (nI j)), (7, .int (nI i)), (0, .ref oa), (1, .ref ga), (2, .ref aa), (3, .ref ba), (4, .ref fa), (6, .int (nI q))]) xE xB dL_areCells_258 xL (by decide) rfl (fun ls xL => ?_)
              refine lv_iload xE xB dL_areCells_260 (lv_at xL 2 rfl) ?_
              refine lv_if_eq (tgt := 280) xE xB dL_areCells_262 (by decide) (fun h9 => absurd h9 (by decide)) (fun _ => ?_)
              refine lv_aload_n xE xB dL_areCells_265 rfl (lv_at xL 8 rfl) ?_
              refine lv_iload xE xB dL_areCells_266 (lv_at xL 6 rfl) ?_
              refine lv_iload xE xB dL_areCells_268 (lv_at xL 5 rfl) ?_
              refine lv_aload_n xE xB dL_areCells_270 rfl (lv_at xL 8 rfl) ?_
              refine lv_bipush (v := nI 8) xE xB dL_areCells_271 (by decide) ?_
              refine q_ald xE xB xK xP 0 rfl (by omega) (by decide) dL_areCells_273 ?_
              refine q_eq (y := nI tt) ((hg6 (by omega)).2.2) ?_
              refine q_SRL (As := [.ref ga, .int (nI i), .int (nI j), .int (nI tt)]) (rest := []) ⟨xE, xB, xM, xO, xT⟩ (kL_met l G ga g i j tt k (hg2) (by omega) (by omega) (by omega) (by omega)) (va_cwS 4 xT gL_areCells_L_met rfl rfl rfl (by decide +kernel) ⟨Nat.le_of_ble_eq_true rfl, Nat.le_of_ble_eq_true rfl⟩) xK xP [0] [1, 2, 3, 4] 5 rfl (by decide) (Lc := [[(ga, ai G 9 g)]]) rfl rfl rfl xL.1 rfl (Nat.le_of_ble_eq_true rfl) dL_areCells_274 ⟨Nat.le_refl _, Nat.le_refl _⟩ (fun r_274 h_274 => ?_)
              obtain rfl : r_274 = nI (metN k i j tt) := h_274
              refine lv_goto (tgt := 281) xE xB dL_areCells_277 (by decide) ?_
              refine lv_istore (lv' := [(13, .int (nI (metN k i j tt))), (12, .int (nI ((n * tb) + j))), (11, .int (nI ((n * ta) + i))), (10, .int (nI 1)), (5, .int (nI 1)), (9, .int (useF fd o i j)), (8, .int (nI j)), (7, .int (nI i)), (0, .ref oa), (1, .ref ga), (2, .ref aa), (3, .ref ba), (4, .ref fa), (6, .int (nI q))]) xE xB dL_areCells_281 xL (by decide) rfl (fun ls xL => ?_)
              refine lv_aload_n xE xB dL_areCells_283 rfl (lv_at xL 9 rfl) ?_
              refine lv_bipush (v := nI 8) xE xB dL_areCells_284 (by decide) ?_
              refine q_ald xE xB xK xP 0 rfl (by omega) (by decide) dL_areCells_286 ?_
              refine q_eq (y := nI tt) ((hg6 (by omega)).2.2) ?_
              refine lv_iconst (v := nI 1) xE xB dL_areCells_287 (by decide) ?_
              refine lv_isub xE xB dL_areCells_288 ?_
              refine lv_iload xE xB dL_areCells_289 (lv_at xL 7 rfl) ?_
              refine lv_isub xE xB dL_areCells_291 ?_
              refine lv_iload xE xB dL_areCells_292 (lv_at xL 6 rfl) ?_
              refine lv_isub xE xB dL_areCells_294 ?_
              rcases Classical.em (onW k i j tt) with hon | hon; rotate_left; rcases on_3 hon with hon1 | hon1; rotate_left; rotate_left
              · skip
                refine q_eq (y := nI (tt - (i + j + 1))) (on_q hon.1) ?_
                refine lv_istore (lv' := [(14, .int (nI (tt - (i + j + 1)))), (13, .int (nI (metN k i j tt))), (12, .int (nI ((n * tb) + j))), (11, .int (nI ((n * ta) + i))), (10, .int (nI 1)), (5, .int (nI 1)), (9, .int (useF fd o i j)), (8, .int (nI j)), (7, .int (nI i)), (0, .ref oa), (1, .ref ga), (2, .ref aa), (3, .ref ba), (4, .ref fa), (6, .int (nI q))]) xE xB dL_areCells_295 xL (by decide) rfl (fun ls xL => ?_)
                refine lv_iload xE xB dL_areCells_297 (lv_at xL 4 rfl) ?_
                refine lv_if_eq (tgt := 319) xE xB dL_areCells_299 (by decide) (fun h9 => absurd h9 (by decide)) (fun _ => ?_)
                refine lv_iload xE xB dL_areCells_302 (lv_at xL 0 rfl) ?_
                refine q_if_lt (tgt := 319) xE xB dL_areCells_304 (by decide) (by omega) ?_
                refine lv_iload xE xB dL_areCells_307 (lv_at xL 0 rfl) ?_
                refine lv_aload_n xE xB dL_areCells_309 rfl (lv_at xL 10 rfl) ?_
                refine lv_iconst (v := nI 2) xE xB dL_areCells_310 (by decide) ?_
                refine q_ald xE xB xK xP 0 rfl (by omega) (by decide) dL_areCells_311 ?_
                refine q_eq (y := nI k) (hg2) ?_
                refine q_icmp_ge (tgt := 319) xE xB dL_areCells_312 (by decide) (by omega) (by omega) (fun c_312 => absurd c_312 (by omega)) (fun c_312 => ?_)
                refine lv_iconst (v := nI 1) xE xB dL_areCells_315 (by decide) ?_
                refine lv_goto (tgt := 320) xE xB dL_areCells_316 (by decide) ?_
                refine lv_istore (lv' := [(15, .int (nI 1)), (14, .int (nI (tt - (i + j + 1)))), (13, .int (nI (metN k i j tt))), (12, .int (nI ((n * tb) + j))), (11, .int (nI ((n * ta) + i))), (10, .int (nI 1)), (5, .int (nI 1)), (9, .int (useF fd o i j)), (8, .int (nI j)), (7, .int (nI i)), (0, .ref oa), (1, .ref ga), (2, .ref aa), (3, .ref ba), (4, .ref fa), (6, .int (nI q))]) xE xB dL_areCells_320 xL (by decide) rfl (fun ls xL => ?_)
                refine lv_iload xE xB dL_areCells_322 (lv_at xL 0 rfl) ?_
                refine lv_if_ne (tgt := 332) xE xB dL_areCells_324 (by decide) (fun _ => ?_) (fun h9 => absurd h9 (by decide))
                have J_368 : ∀ (x : Int32), (x = rgtV ad fd o i j (n * ta + i) (tt - (i + j + 1))) → ∀ (ls : Array Slot), lv_has ls 18 [(15, .int (nI 1)), (14, .int (nI (tt - (i + j + 1)))), (13, .int (nI (metN k i j tt))), (12, .int (nI ((n * tb) + j))), (11, .int (nI ((n * ta) + i))), (10, .int (nI 1)), (5, .int (nI 1)), (9, .int (useF fd o i j)), (8, .int (nI j)), (7, .int (nI i)), (0, .ref oa), (1, .ref ga), (2, .ref aa), (3, .ref ba), (4, .ref fa), (6, .int (nI q))] → W p9 l e9 (rm 4 87) s9 m9 ([.ref oa, .ref ga, .ref aa, .ref ba, .ref fa] : List Value).toArray b9 t9 c9 s9.heap [] 0 0 Q (F0 m9 368 ls [.int x]) := by
                  intro x hx ls xL
                  refine lv_istore (lv' := [(16, .int x), (15, .int (nI 1)), (14, .int (nI (tt - (i + j + 1)))), (13, .int (nI (metN k i j tt))), (12, .int (nI ((n * tb) + j))), (11, .int (nI ((n * ta) + i))), (10, .int (nI 1)), (5, .int (nI 1)), (9, .int (useF fd o i j)), (8, .int (nI j)), (7, .int (nI i)), (0, .ref oa), (1, .ref ga), (2, .ref aa), (3, .ref ba), (4, .ref fa), (6, .int (nI q))]) xE xB dL_areCells_368 xL (by decide) rfl (fun ls xL => ?_)
                  refine lv_iload xE xB dL_areCells_370 (lv_at xL 1 rfl) ?_
                  refine lv_if_ne (tgt := 380) xE xB dL_areCells_372 (by decide) (fun _ => ?_) (fun h9 => absurd h9 (by decide))
                  have J_416 : ∀ (x2 : Int32), (x2 = dwnV bd fd o i j (n * tb + j) (tt - (i + j + 1))) → ∀ (ls : Array Slot), lv_has ls 18 [(16, .int x), (15, .int (nI 1)), (14, .int (nI (tt - (i + j + 1)))), (13, .int (nI (metN k i j tt))), (12, .int (nI ((n * tb) + j))), (11, .int (nI ((n * ta) + i))), (10, .int (nI 1)), (5, .int (nI 1)), (9, .int (useF fd o i j)), (8, .int (nI j)), (7, .int (nI i)), (0, .ref oa), (1, .ref ga), (2, .ref aa), (3, .ref ba), (4, .ref fa), (6, .int (nI q))] → W p9 l e9 (rm 4 87) s9 m9 ([.ref oa, .ref ga, .ref aa, .ref ba, .ref fa] : List Value).toArray b9 t9 c9 s9.heap [] 0 0 Q (F0 m9 416 ls [.int x2]) := by
                    intro x2 hx2 ls xL
                    refine lv_istore (lv' := [(17, .int x2), (16, .int x), (15, .int (nI 1)), (14, .int (nI (tt - (i + j + 1)))), (13, .int (nI (metN k i j tt))), (12, .int (nI ((n * tb) + j))), (11, .int (nI ((n * ta) + i))), (10, .int (nI 1)), (5, .int (nI 1)), (9, .int (useF fd o i j)), (8, .int (nI j)), (7, .int (nI i)), (0, .ref oa), (1, .ref ga), (2, .ref aa), (3, .ref ba), (4, .ref fa), (6, .int (nI q))]) xE xB dL_areCells_416 xL (by decide) rfl (fun ls xL => ?_)
                    refine lv_iload xE xB dL_areCells_418 (lv_at xL 8 rfl) ?_
                    refine lv_if_eq (tgt := 507) xE xB dL_areCells_420 (by decide) (fun h9 => absurd h9 (by decide)) (fun _ => ?_)
                    refine lv_aload_n xE xB dL_areCells_423 rfl (lv_at xL 12 rfl) ?_
                    refine lv_iload xE xB dL_areCells_424 (lv_at xL 11 rfl) ?_
                    refine lv_iload xE xB dL_areCells_426 (lv_at xL 10 rfl) ?_
                    refine lv_iconst (v := nI 0) xE xB dL_areCells_428 (by decide) ?_
                    refine q_VRL (As := [.int (nI i), .int (nI j), .int (nI 0)]) (rest := []) ⟨xE, xB, xM, xO, xT⟩ (kO_cellOf l G oa n r k c o b ta tb tt 0 u s T (nI i) (nI j) (nI 0) (by first | assumption | omega)) (cwV 3 xT gL_areCells_X6_cellOf rfl rfl rfl (by decide +kernel) ⟨Nat.le_of_ble_eq_true rfl, Nat.le_of_ble_eq_true rfl⟩) xK xP [4] [0, 1, 2, 3] 5 rfl (by decide) (Lc := [wO G oa u]) rfl rfl 0 rfl rfl rfl rfl xL.1 rfl (Nat.le_of_ble_eq_true rfl) dL_areCells_429 ⟨Nat.le_refl _, Nat.le_refl _⟩ (fun r_429 h_429 => ?_)
                    obtain rfl : r_429 = ceA n o b (nI i) (nI j) (nI 0) s := h_429
                    refine q_eq (y := sumV ad bd fd o ((n * ta + i) % n) ((n * tb + j) % n) (n * ta + i) (n * tb + j) (metN k i j tt)) (cel_0 hN (show b = 1 by omega) hA hB hF hi hj hin) ?_
                    refine lv_iload xE xB dL_areCells_432 (lv_at xL 7 rfl) ?_
                    refine lv_if_eq (tgt := 457) xE xB dL_areCells_434 (by decide) (fun h9 => absurd h9 (by decide)) (fun _ => ?_)
                    refine lv_aload_n xE xB dL_areCells_437 rfl (lv_at xL 13 rfl) ?_
                    refine lv_aload_n xE xB dL_areCells_438 rfl (lv_at xL 14 rfl) ?_
                    refine lv_aload_n xE xB dL_areCells_439 rfl (lv_at xL 15 rfl) ?_
                    refine lv_aload xE xB dL_areCells_440 (lv_at xL 16 rfl) ?_
                    refine lv_iload xE xB dL_areCells_442 (lv_at xL 6 rfl) ?_
                    refine lv_iload xE xB dL_areCells_444 (lv_at xL 5 rfl) ?_
                    refine lv_aload_n xE xB dL_areCells_446 rfl (lv_at xL 13 rfl) ?_
                    refine lv_iconst (v := nI 4) xE xB dL_areCells_447 (by decide) ?_
                    refine q_ald xE xB xK xP 0 rfl (by omega) (by decide) dL_areCells_448 ?_
                    refine q_eq (y := nI o) (hg4) ?_
                    refine lv_iload xE xB dL_areCells_449 (lv_at xL 4 rfl) ?_
                    refine q_SRL (As := [.ref ga, .ref aa, .ref ba, .ref fa, .int (nI ((n * ta) + i)), .int (nI ((n * tb) + j)), .int (nI o), .int (nI (metN k i j tt))]) (rest := [.int (sumV ad bd fd o ((n * ta + i) % n) ((n * tb + j) % n) (n * ta + i) (n * tb + j) (metN k i j tt))]) ⟨xE, xB, xM, xO, xT⟩ (kL_sum l G ga aa ba fa g ad bd fd n o ((n * ta) + i) ((n * tb) + j) (metN k i j tt) (hg0) (by omega) (by omega) (by omega) (by omega) (by have := Nat.min_le_right (tt - (i + j)) k; unfold metN; omega)) (va_cwS 8 xT gL_areCells_L_sum rfl rfl rfl (by decide +kernel) ⟨Nat.le_of_ble_eq_true rfl, Nat.le_of_ble_eq_true rfl⟩) xK xP [0, 1, 2, 3] [4] 5 rfl (by decide) (Lc := [[(ga, ai G 9 g)], [(aa, ai G 36 ad)], [(ba, ai G 36 bd)], [(fa, ai G 20 fd)]]) rfl rfl rfl xL.1 rfl (Nat.le_of_ble_eq_true rfl) dL_areCells_451 ⟨Nat.le_refl _, Nat.le_refl _⟩ (fun r_451 h_451 => ?_)
                    obtain rfl : r_451 = sumV ad bd fd o (((n * ta) + i) % n) (((n * tb) + j) % n) ((n * ta) + i) ((n * tb) + j) (metN k i j tt) := h_451
                    refine lv_goto (tgt := 458) xE xB dL_areCells_454 (by decide) ?_
                    refine lv_icmp_ne (tgt := 507) xE xB dL_areCells_458 (by decide) (fun c_458 => absurd c_458 (by exact fun q => q rfl)) (fun c_458 => ?_)
                    refine lv_aload_n xE xB dL_areCells_461 rfl (lv_at xL 12 rfl) ?_
                    refine lv_iload xE xB dL_areCells_462 (lv_at xL 11 rfl) ?_
                    refine lv_iload xE xB dL_areCells_464 (lv_at xL 10 rfl) ?_
                    refine lv_iconst (v := nI 1) xE xB dL_areCells_466 (by decide) ?_
                    refine q_VRL (As := [.int (nI i), .int (nI j), .int (nI 1)]) (rest := []) ⟨xE, xB, xM, xO, xT⟩ (kO_cellOf l G oa n r k c o b ta tb tt 0 u s T (nI i) (nI j) (nI 1) (by first | assumption | omega)) (cwV 3 xT gL_areCells_X6_cellOf rfl rfl rfl (by decide +kernel) ⟨Nat.le_of_ble_eq_true rfl, Nat.le_of_ble_eq_true rfl⟩) xK xP [4] [0, 1, 2, 3] 5 rfl (by decide) (Lc := [wO G oa u]) rfl rfl 0 rfl rfl rfl rfl xL.1 rfl (Nat.le_of_ble_eq_true rfl) dL_areCells_467 ⟨Nat.le_refl _, Nat.le_refl _⟩ (fun r_467 h_467 => ?_)
                    obtain rfl : r_467 = ceA n o b (nI i) (nI j) (nI 1) s := h_467
                    refine q_eq (y := rgtV ad fd o i j (n * ta + i) (tt - (i + j + 1))) (cel_1 hN (show b = 1 by omega) hA hF hi hj hin hon) ?_
                    refine lv_iload xE xB dL_areCells_470 (lv_at xL 1 rfl) ?_
                    refine lv_icmp_ne (tgt := 507) xE xB dL_areCells_472 (by decide) (fun c_472 => absurd c_472 (by exact fun q => q hx.symm)) (fun c_472 => ?_)
                    refine lv_aload_n xE xB dL_areCells_475 rfl (lv_at xL 12 rfl) ?_
                    refine lv_iload xE xB dL_areCells_476 (lv_at xL 11 rfl) ?_
                    refine lv_iload xE xB dL_areCells_478 (lv_at xL 10 rfl) ?_
                    refine lv_iconst (v := nI 2) xE xB dL_areCells_480 (by decide) ?_
                    refine q_VRL (As := [.int (nI i), .int (nI j), .int (nI 2)]) (rest := []) ⟨xE, xB, xM, xO, xT⟩ (kO_cellOf l G oa n r k c o b ta tb tt 0 u s T (nI i) (nI j) (nI 2) (by first | assumption | omega)) (cwV 3 xT gL_areCells_X6_cellOf rfl rfl rfl (by decide +kernel) ⟨Nat.le_of_ble_eq_true rfl, Nat.le_of_ble_eq_true rfl⟩) xK xP [4] [0, 1, 2, 3] 5 rfl (by decide) (Lc := [wO G oa u]) rfl rfl 0 rfl rfl rfl rfl xL.1 rfl (Nat.le_of_ble_eq_true rfl) dL_areCells_481 ⟨Nat.le_refl _, Nat.le_refl _⟩ (fun r_481 h_481 => ?_)
                    obtain rfl : r_481 = ceA n o b (nI i) (nI j) (nI 2) s := h_481
                    refine q_eq (y := dwnV bd fd o i j (n * tb + j) (tt - (i + j + 1))) (cel_2 hN (show b = 1 by omega) hB hF hi hj hin hon) ?_
                    refine lv_iload xE xB dL_areCells_484 (lv_at xL 0 rfl) ?_
                    refine lv_icmp_ne (tgt := 507) xE xB dL_areCells_486 (by decide) (fun c_486 => absurd c_486 (by exact fun q => q hx2.symm)) (fun c_486 => ?_)
                    refine lv_aload_n xE xB dL_areCells_489 rfl (lv_at xL 12 rfl) ?_
                    refine lv_iload xE xB dL_areCells_490 (lv_at xL 11 rfl) ?_
                    refine lv_iload xE xB dL_areCells_492 (lv_at xL 10 rfl) ?_
                    refine lv_iconst (v := nI 5) xE xB dL_areCells_494 (by decide) ?_
                    refine q_VRL (As := [.int (nI i), .int (nI j), .int (nI 5)]) (rest := []) ⟨xE, xB, xM, xO, xT⟩ (kO_cellOf l G oa n r k c o b ta tb tt 0 u s T (nI i) (nI j) (nI 5) (by first | assumption | omega)) (cwV 3 xT gL_areCells_X6_cellOf rfl rfl rfl (by decide +kernel) ⟨Nat.le_of_ble_eq_true rfl, Nat.le_of_ble_eq_true rfl⟩) xK xP [4] [0, 1, 2, 3] 5 rfl (by decide) (Lc := [wO G oa u]) rfl rfl 0 rfl rfl rfl rfl xL.1 rfl (Nat.le_of_ble_eq_true rfl) dL_areCells_495 ⟨Nat.le_refl _, Nat.le_refl _⟩ (fun r_495 h_495 => ?_)
                    obtain rfl : r_495 = ceA n o b (nI i) (nI j) (nI 5) s := h_495
                    refine q_eq (y := nI (metN k i j tt)) (cel_5 hN (show b = 1 by omega) hi hj hin) ?_
                    refine lv_iload xE xB dL_areCells_498 (lv_at xL 4 rfl) ?_
                    refine q_icmp_ne (tgt := 507) xE xB dL_areCells_500 (by decide) (by first | omega | (have := Nat.min_le_right (tt - (i + j)) k; unfold metN; omega)) (by first | omega | (have := Nat.min_le_right (tt - (i + j)) k; unfold metN; omega)) (fun c_500 => absurd c_500 (by omega)) (fun c_500 => ?_)
                    refine lv_iconst (v := nI 1) xE xB dL_areCells_503 (by decide) ?_
                    refine lv_goto (tgt := 508) xE xB dL_areCells_504 (by decide) ?_
                    refine lv_istore (lv' := [(5, .int (nI 1)), (17, .int x2), (16, .int x), (15, .int (nI 1)), (14, .int (nI (tt - (i + j + 1)))), (13, .int (nI (metN k i j tt))), (12, .int (nI ((n * tb) + j))), (11, .int (nI ((n * ta) + i))), (10, .int (nI 1)), (9, .int (useF fd o i j)), (8, .int (nI j)), (7, .int (nI i)), (0, .ref oa), (1, .ref ga), (2, .ref aa), (3, .ref ba), (4, .ref fa), (6, .int (nI q))]) xE xB dL_areCells_508 xL (by decide) rfl (fun ls xL => ?_)
                    refine lv_iinc (v := nI (q + 1)) (lv' := [(6, .int (nI (q + 1))), (5, .int (nI 1)), (17, .int x2), (16, .int x), (15, .int (nI 1)), (14, .int (nI (tt - (i + j + 1)))), (13, .int (nI (metN k i j tt))), (12, .int (nI ((n * tb) + j))), (11, .int (nI ((n * ta) + i))), (10, .int (nI 1)), (9, .int (useF fd o i j)), (8, .int (nI j)), (7, .int (nI i)), (0, .ref oa), (1, .ref ga), (2, .ref aa), (3, .ref ba), (4, .ref fa)]) xE xB dL_areCells_510 xL (k := 17) rfl (q_inc _ _) (by decide) rfl (fun ls xL => ?_)
                    refine lv_goto (tgt := 6) xE xB dL_areCells_513 (by decide) ?_
                    exact ih_6 (q + 1) (by omega) (by omega) _ (lv_sub xL [13, 14, 15, 16, 17, 1, 0] rfl)
                  refine lv_iload xE xB dL_areCells_380 (lv_at xL 8 rfl) ?_
                  refine lv_iconst (v := nI 4) xE xB dL_areCells_382 (by decide) ?_
                  refine lv_icmp_eq (tgt := 402) xE xB dL_areCells_383 (by decide) (fun c_383 => ?_) (fun c_383 => ?_)
                  · skip
                    refine lv_iconst (v := nI 0) xE xB dL_areCells_402 (by decide) ?_
                    refine lv_goto (tgt := 416) xE xB dL_areCells_403 (by decide) ?_
                    exact J_416 (nI 0) (by unfold dwnV; first | exact (if_pos (Or.inl c_383)).symm | exact (if_pos (Or.inr c_396)).symm | exact (if_neg (fun w => w.elim c_383 c_396)).symm) _ (lv_sub xL [0, 1, 2, 3, 4, 5, 6, 7, 8, 9, 10, 11, 12, 13, 14, 15, 16] rfl)
                  · skip
                    refine lv_aload xE xB dL_areCells_386 (lv_at xL 15 rfl) ?_
                    refine lv_iload xE xB dL_areCells_388 (lv_at xL 10 rfl) ?_
                    refine lv_iload xE xB dL_areCells_390 (lv_at xL 9 rfl) ?_
                    refine lv_aload_n xE xB dL_areCells_392 rfl (lv_at xL 12 rfl) ?_
                    refine lv_iconst (v := nI 4) xE xB dL_areCells_393 (by decide) ?_
                    refine q_ald xE xB xK xP 0 rfl (by omega) (by decide) dL_areCells_394 ?_
                    refine q_eq (y := nI o) (hg4) ?_
                    refine lv_iconst (v := nI 4) xE xB dL_areCells_395 (by decide) ?_
                    refine q_SRL (As := [.ref fa, .int (nI i), .int (nI j), .int (nI o), .int (nI 4)]) (rest := []) ⟨xE, xB, xM, xO, xT⟩ (kL_none4 l G fa fd i j o (by omega) (by omega) (by omega)) (va_cwS 5 xT gL_areCells_L_none rfl rfl rfl (by decide +kernel) ⟨Nat.le_of_ble_eq_true rfl, Nat.le_of_ble_eq_true rfl⟩) xK xP [3] [0, 1, 2, 4] 5 rfl (by decide) (Lc := [[(fa, ai G 20 fd)]]) rfl rfl rfl xL.1 rfl (Nat.le_of_ble_eq_true rfl) dL_areCells_396 ⟨Nat.le_refl _, Nat.le_refl _⟩ (fun r_396 h_396 => ?_)
                    rcases h_396 with ⟨h_396, c_396⟩ | ⟨h_396, c_396⟩
                    · skip
                      subst h_396
                      have c_396 : NAf fd o i j = true := c_396
                      refine lv_if_eq (tgt := 406) xE xB dL_areCells_399 (by decide) (fun h9 => absurd h9 (by decide)) (fun _ => ?_)
                      refine lv_iconst (v := nI 0) xE xB dL_areCells_402 (by decide) ?_
                      refine lv_goto (tgt := 416) xE xB dL_areCells_403 (by decide) ?_
                      exact J_416 (nI 0) (by unfold dwnV; first | exact (if_pos (Or.inl c_383)).symm | exact (if_pos (Or.inr c_396)).symm | exact (if_neg (fun w => w.elim c_383 c_396)).symm) _ (lv_sub xL [0, 1, 2, 3, 4, 5, 6, 7, 8, 9, 10, 11, 12, 13, 14, 15, 16] rfl)
                    · skip
                      subst h_396
                      have c_396 : ¬ (NAf fd o i j = true) := c_396
                      refine lv_if_eq (tgt := 406) xE xB dL_areCells_399 (by decide) (fun _ => ?_) (fun h9 => absurd (by decide) h9)
                      refine lv_aload_n xE xB dL_areCells_406 rfl (lv_at xL 14 rfl) ?_
                      refine lv_bipush (v := nI 6) xE xB dL_areCells_407 (by decide) ?_
                      refine lv_iload xE xB dL_areCells_409 (lv_at xL 2 rfl) ?_
                      refine q_imul xE xB dL_areCells_411 ?_
                      refine lv_iload xE xB dL_areCells_412 (lv_at xL 4 rfl) ?_
                      refine q_iadd xE xB dL_areCells_414 ?_
                      refine q_ald xE xB xK xP 2 rfl (by omega) (by decide) dL_areCells_415 ?_
                      exact J_416 (bd ((6 * (tt - (i + j + 1))) + ((n * tb) + j))) (by unfold dwnV; first | exact (if_pos (Or.inl c_383)).symm | exact (if_pos (Or.inr c_396)).symm | exact (if_neg (fun w => w.elim c_383 c_396)).symm) _ (lv_sub xL [0, 1, 2, 3, 4, 5, 6, 7, 8, 9, 10, 11, 12, 13, 14, 15, 16] rfl)
                refine lv_iload xE xB dL_areCells_332 (lv_at xL 7 rfl) ?_
                refine lv_iconst (v := nI 3) xE xB dL_areCells_334 (by decide) ?_
                refine lv_icmp_eq (tgt := 354) xE xB dL_areCells_335 (by decide) (fun c_335 => ?_) (fun c_335 => ?_)
                · skip
                  refine lv_iconst (v := nI 0) xE xB dL_areCells_354 (by decide) ?_
                  refine lv_goto (tgt := 368) xE xB dL_areCells_355 (by decide) ?_
                  exact J_368 (nI 0) (by unfold rgtV; first | exact (if_pos (Or.inl c_335)).symm | exact (if_pos (Or.inr c_348)).symm | exact (if_neg (fun w => w.elim c_335 c_348)).symm) _ (lv_sub xL [0, 1, 2, 3, 4, 5, 6, 7, 8, 9, 10, 11, 12, 13, 14, 15] rfl)
                · skip
                  refine lv_aload xE xB dL_areCells_338 (lv_at xL 14 rfl) ?_
                  refine lv_iload xE xB dL_areCells_340 (lv_at xL 9 rfl) ?_
                  refine lv_iload xE xB dL_areCells_342 (lv_at xL 8 rfl) ?_
                  refine lv_aload_n xE xB dL_areCells_344 rfl (lv_at xL 11 rfl) ?_
                  refine lv_iconst (v := nI 4) xE xB dL_areCells_345 (by decide) ?_
                  refine q_ald xE xB xK xP 0 rfl (by omega) (by decide) dL_areCells_346 ?_
                  refine q_eq (y := nI o) (hg4) ?_
                  refine lv_iconst (v := nI 3) xE xB dL_areCells_347 (by decide) ?_
                  refine q_SRL (As := [.ref fa, .int (nI i), .int (nI j), .int (nI o), .int (nI 3)]) (rest := []) ⟨xE, xB, xM, xO, xT⟩ (kL_none3 l G fa fd i j o (by omega) (by omega) (by omega)) (va_cwS 5 xT gL_areCells_L_none rfl rfl rfl (by decide +kernel) ⟨Nat.le_of_ble_eq_true rfl, Nat.le_of_ble_eq_true rfl⟩) xK xP [3] [0, 1, 2, 4] 5 rfl (by decide) (Lc := [[(fa, ai G 20 fd)]]) rfl rfl rfl xL.1 rfl (Nat.le_of_ble_eq_true rfl) dL_areCells_348 ⟨Nat.le_refl _, Nat.le_refl _⟩ (fun r_348 h_348 => ?_)
                  rcases h_348 with ⟨h_348, c_348⟩ | ⟨h_348, c_348⟩
                  · skip
                    subst h_348
                    have c_348 : NLf fd o i j = true := c_348
                    refine lv_if_eq (tgt := 358) xE xB dL_areCells_351 (by decide) (fun h9 => absurd h9 (by decide)) (fun _ => ?_)
                    refine lv_iconst (v := nI 0) xE xB dL_areCells_354 (by decide) ?_
                    refine lv_goto (tgt := 368) xE xB dL_areCells_355 (by decide) ?_
                    exact J_368 (nI 0) (by unfold rgtV; first | exact (if_pos (Or.inl c_335)).symm | exact (if_pos (Or.inr c_348)).symm | exact (if_neg (fun w => w.elim c_335 c_348)).symm) _ (lv_sub xL [0, 1, 2, 3, 4, 5, 6, 7, 8, 9, 10, 11, 12, 13, 14, 15] rfl)
                  · skip
                    subst h_348
                    have c_348 : ¬ (NLf fd o i j = true) := c_348
                    refine lv_if_eq (tgt := 358) xE xB dL_areCells_351 (by decide) (fun _ => ?_) (fun h9 => absurd (by decide) h9)
                    refine lv_aload_n xE xB dL_areCells_358 rfl (lv_at xL 12 rfl) ?_
                    refine lv_bipush (v := nI 6) xE xB dL_areCells_359 (by decide) ?_
                    refine lv_iload xE xB dL_areCells_361 (lv_at xL 4 rfl) ?_
                    refine q_imul xE xB dL_areCells_363 ?_
                    refine lv_iload xE xB dL_areCells_364 (lv_at xL 1 rfl) ?_
                    refine q_iadd xE xB dL_areCells_366 ?_
                    refine q_ald xE xB xK xP 1 rfl (by omega) (by decide) dL_areCells_367 ?_
                    exact J_368 (ad ((6 * ((n * ta) + i)) + (tt - (i + j + 1)))) (by unfold rgtV; first | exact (if_pos (Or.inl c_335)).symm | exact (if_pos (Or.inr c_348)).symm | exact (if_neg (fun w => w.elim c_335 c_348)).symm) _ (lv_sub xL [0, 1, 2, 3, 4, 5, 6, 7, 8, 9, 10, 11, 12, 13, 14, 15] rfl)
              · skip
                refine lv_istore (lv' := [(14, .int ((((nI tt) - (nI 1)) - (nI i)) - (nI j))), (13, .int (nI (metN k i j tt))), (12, .int (nI ((n * tb) + j))), (11, .int (nI ((n * ta) + i))), (10, .int (nI 1)), (5, .int (nI 1)), (9, .int (useF fd o i j)), (8, .int (nI j)), (7, .int (nI i)), (0, .ref oa), (1, .ref ga), (2, .ref aa), (3, .ref ba), (4, .ref fa), (6, .int (nI q))]) xE xB dL_areCells_295 xL (by decide) rfl (fun ls xL => ?_)
                refine lv_iload xE xB dL_areCells_297 (lv_at xL 4 rfl) ?_
                refine lv_if_eq (tgt := 319) xE xB dL_areCells_299 (by decide) (fun h9 => absurd h9 (by decide)) (fun _ => ?_)
                refine lv_iload xE xB dL_areCells_302 (lv_at xL 0 rfl) ?_
                refine lv_if_lt (tgt := 319) xE xB dL_areCells_304 (by decide) (fun c_304 => ?_) (fun c_304 => absurd c_304 (by exact fun w => w (on_n hon1 (by omega))))
                refine lv_iconst (v := nI 0) xE xB dL_areCells_319 (by decide) ?_
                refine lv_istore (lv' := [(15, .int (nI 0)), (14, .int ((((nI tt) - (nI 1)) - (nI i)) - (nI j))), (13, .int (nI (metN k i j tt))), (12, .int (nI ((n * tb) + j))), (11, .int (nI ((n * ta) + i))), (10, .int (nI 1)), (5, .int (nI 1)), (9, .int (useF fd o i j)), (8, .int (nI j)), (7, .int (nI i)), (0, .ref oa), (1, .ref ga), (2, .ref aa), (3, .ref ba), (4, .ref fa), (6, .int (nI q))]) xE xB dL_areCells_320 xL (by decide) rfl (fun ls xL => ?_)
                refine lv_iload xE xB dL_areCells_322 (lv_at xL 0 rfl) ?_
                refine lv_if_ne (tgt := 332) xE xB dL_areCells_324 (by decide) (fun h9 => absurd (by decide) h9) (fun _ => ?_)
                refine lv_ldc (v := (-1000004)) xE xB xO (xT _ kL_areCells_c44) dL_areCells_327 ?_
                refine lv_goto (tgt := 368) xE xB dL_areCells_329 (by decide) ?_
                refine lv_istore (lv' := [(16, .int (-1000004)), (15, .int (nI 0)), (14, .int ((((nI tt) - (nI 1)) - (nI i)) - (nI j))), (13, .int (nI (metN k i j tt))), (12, .int (nI ((n * tb) + j))), (11, .int (nI ((n * ta) + i))), (10, .int (nI 1)), (5, .int (nI 1)), (9, .int (useF fd o i j)), (8, .int (nI j)), (7, .int (nI i)), (0, .ref oa), (1, .ref ga), (2, .ref aa), (3, .ref ba), (4, .ref fa), (6, .int (nI q))]) xE xB dL_areCells_368 xL (by decide) rfl (fun ls xL => ?_)
                refine lv_iload xE xB dL_areCells_370 (lv_at xL 1 rfl) ?_
                refine lv_if_ne (tgt := 380) xE xB dL_areCells_372 (by decide) (fun h9 => absurd (by decide) h9) (fun _ => ?_)
                refine lv_ldc (v := (-1000004)) xE xB xO (xT _ kL_areCells_c44) dL_areCells_375 ?_
                refine lv_goto (tgt := 416) xE xB dL_areCells_377 (by decide) ?_
                refine lv_istore (lv' := [(17, .int (-1000004)), (16, .int (-1000004)), (15, .int (nI 0)), (14, .int ((((nI tt) - (nI 1)) - (nI i)) - (nI j))), (13, .int (nI (metN k i j tt))), (12, .int (nI ((n * tb) + j))), (11, .int (nI ((n * ta) + i))), (10, .int (nI 1)), (5, .int (nI 1)), (9, .int (useF fd o i j)), (8, .int (nI j)), (7, .int (nI i)), (0, .ref oa), (1, .ref ga), (2, .ref aa), (3, .ref ba), (4, .ref fa), (6, .int (nI q))]) xE xB dL_areCells_416 xL (by decide) rfl (fun ls xL => ?_)
                refine lv_iload xE xB dL_areCells_418 (lv_at xL 8 rfl) ?_
                refine lv_if_eq (tgt := 507) xE xB dL_areCells_420 (by decide) (fun h9 => absurd h9 (by decide)) (fun _ => ?_)
                refine lv_aload_n xE xB dL_areCells_423 rfl (lv_at xL 12 rfl) ?_
                refine lv_iload xE xB dL_areCells_424 (lv_at xL 11 rfl) ?_
                refine lv_iload xE xB dL_areCells_426 (lv_at xL 10 rfl) ?_
                refine lv_iconst (v := nI 0) xE xB dL_areCells_428 (by decide) ?_
                refine q_VRL (As := [.int (nI i), .int (nI j), .int (nI 0)]) (rest := []) ⟨xE, xB, xM, xO, xT⟩ (kO_cellOf l G oa n r k c o b ta tb tt 0 u s T (nI i) (nI j) (nI 0) (by first | assumption | omega)) (cwV 3 xT gL_areCells_X6_cellOf rfl rfl rfl (by decide +kernel) ⟨Nat.le_of_ble_eq_true rfl, Nat.le_of_ble_eq_true rfl⟩) xK xP [4] [0, 1, 2, 3] 5 rfl (by decide) (Lc := [wO G oa u]) rfl rfl 0 rfl rfl rfl rfl xL.1 rfl (Nat.le_of_ble_eq_true rfl) dL_areCells_429 ⟨Nat.le_refl _, Nat.le_refl _⟩ (fun r_429 h_429 => ?_)
                obtain rfl : r_429 = ceA n o b (nI i) (nI j) (nI 0) s := h_429
                refine q_eq (y := sumV ad bd fd o ((n * ta + i) % n) ((n * tb + j) % n) (n * ta + i) (n * tb + j) (metN k i j tt)) (cel_0 hN (show b = 1 by omega) hA hB hF hi hj hin) ?_
                refine lv_iload xE xB dL_areCells_432 (lv_at xL 7 rfl) ?_
                refine lv_if_eq (tgt := 457) xE xB dL_areCells_434 (by decide) (fun h9 => absurd h9 (by decide)) (fun _ => ?_)
                refine lv_aload_n xE xB dL_areCells_437 rfl (lv_at xL 13 rfl) ?_
                refine lv_aload_n xE xB dL_areCells_438 rfl (lv_at xL 14 rfl) ?_
                refine lv_aload_n xE xB dL_areCells_439 rfl (lv_at xL 15 rfl) ?_
                refine lv_aload xE xB dL_areCells_440 (lv_at xL 16 rfl) ?_
                refine lv_iload xE xB dL_areCells_442 (lv_at xL 6 rfl) ?_
                refine lv_iload xE xB dL_areCells_444 (lv_at xL 5 rfl) ?_
                refine lv_aload_n xE xB dL_areCells_446 rfl (lv_at xL 13 rfl) ?_
                refine lv_iconst (v := nI 4) xE xB dL_areCells_447 (by decide) ?_
                refine q_ald xE xB xK xP 0 rfl (by omega) (by decide) dL_areCells_448 ?_
                refine q_eq (y := nI o) (hg4) ?_
                refine lv_iload xE xB dL_areCells_449 (lv_at xL 4 rfl) ?_
                refine q_SRL (As := [.ref ga, .ref aa, .ref ba, .ref fa, .int (nI ((n * ta) + i)), .int (nI ((n * tb) + j)), .int (nI o), .int (nI (metN k i j tt))]) (rest := [.int (sumV ad bd fd o ((n * ta + i) % n) ((n * tb + j) % n) (n * ta + i) (n * tb + j) (metN k i j tt))]) ⟨xE, xB, xM, xO, xT⟩ (kL_sum l G ga aa ba fa g ad bd fd n o ((n * ta) + i) ((n * tb) + j) (metN k i j tt) (hg0) (by omega) (by omega) (by omega) (by omega) (by have := Nat.min_le_right (tt - (i + j)) k; unfold metN; omega)) (va_cwS 8 xT gL_areCells_L_sum rfl rfl rfl (by decide +kernel) ⟨Nat.le_of_ble_eq_true rfl, Nat.le_of_ble_eq_true rfl⟩) xK xP [0, 1, 2, 3] [4] 5 rfl (by decide) (Lc := [[(ga, ai G 9 g)], [(aa, ai G 36 ad)], [(ba, ai G 36 bd)], [(fa, ai G 20 fd)]]) rfl rfl rfl xL.1 rfl (Nat.le_of_ble_eq_true rfl) dL_areCells_451 ⟨Nat.le_refl _, Nat.le_refl _⟩ (fun r_451 h_451 => ?_)
                obtain rfl : r_451 = sumV ad bd fd o (((n * ta) + i) % n) (((n * tb) + j) % n) ((n * ta) + i) ((n * tb) + j) (metN k i j tt) := h_451
                refine lv_goto (tgt := 458) xE xB dL_areCells_454 (by decide) ?_
                refine lv_icmp_ne (tgt := 507) xE xB dL_areCells_458 (by decide) (fun c_458 => absurd c_458 (by exact fun q => q rfl)) (fun c_458 => ?_)
                refine lv_aload_n xE xB dL_areCells_461 rfl (lv_at xL 12 rfl) ?_
                refine lv_iload xE xB dL_areCells_462 (lv_at xL 11 rfl) ?_
                refine lv_iload xE xB dL_areCells_464 (lv_at xL 10 rfl) ?_
                refine lv_iconst (v := nI 1) xE xB dL_areCells_466 (by decide) ?_
                refine q_VRL (As := [.int (nI i), .int (nI j), .int (nI 1)]) (rest := []) ⟨xE, xB, xM, xO, xT⟩ (kO_cellOf l G oa n r k c o b ta tb tt 0 u s T (nI i) (nI j) (nI 1) (by first | assumption | omega)) (cwV 3 xT gL_areCells_X6_cellOf rfl rfl rfl (by decide +kernel) ⟨Nat.le_of_ble_eq_true rfl, Nat.le_of_ble_eq_true rfl⟩) xK xP [4] [0, 1, 2, 3] 5 rfl (by decide) (Lc := [wO G oa u]) rfl rfl 0 rfl rfl rfl rfl xL.1 rfl (Nat.le_of_ble_eq_true rfl) dL_areCells_467 ⟨Nat.le_refl _, Nat.le_refl _⟩ (fun r_467 h_467 => ?_)
                obtain rfl : r_467 = ceA n o b (nI i) (nI j) (nI 1) s := h_467
                refine q_eq (y := (-1000004)) (cel_1n hN (show b = 1 by omega) hi hj (fun w => hon w.2)) ?_
                refine lv_iload xE xB dL_areCells_470 (lv_at xL 1 rfl) ?_
                refine lv_icmp_ne (tgt := 507) xE xB dL_areCells_472 (by decide) (fun c_472 => absurd c_472 (by exact fun q => q rfl)) (fun c_472 => ?_)
                refine lv_aload_n xE xB dL_areCells_475 rfl (lv_at xL 12 rfl) ?_
                refine lv_iload xE xB dL_areCells_476 (lv_at xL 11 rfl) ?_
                refine lv_iload xE xB dL_areCells_478 (lv_at xL 10 rfl) ?_
                refine lv_iconst (v := nI 2) xE xB dL_areCells_480 (by decide) ?_
                refine q_VRL (As := [.int (nI i), .int (nI j), .int (nI 2)]) (rest := []) ⟨xE, xB, xM, xO, xT⟩ (kO_cellOf l G oa n r k c o b ta tb tt 0 u s T (nI i) (nI j) (nI 2) (by first | assumption | omega)) (cwV 3 xT gL_areCells_X6_cellOf rfl rfl rfl (by decide +kernel) ⟨Nat.le_of_ble_eq_true rfl, Nat.le_of_ble_eq_true rfl⟩) xK xP [4] [0, 1, 2, 3] 5 rfl (by decide) (Lc := [wO G oa u]) rfl rfl 0 rfl rfl rfl rfl xL.1 rfl (Nat.le_of_ble_eq_true rfl) dL_areCells_481 ⟨Nat.le_refl _, Nat.le_refl _⟩ (fun r_481 h_481 => ?_)
                obtain rfl : r_481 = ceA n o b (nI i) (nI j) (nI 2) s := h_481
                refine q_eq (y := (-1000004)) (cel_2n hN (show b = 1 by omega) hi hj (fun w => hon w.2)) ?_
                refine lv_iload xE xB dL_areCells_484 (lv_at xL 0 rfl) ?_
                refine lv_icmp_ne (tgt := 507) xE xB dL_areCells_486 (by decide) (fun c_486 => absurd c_486 (by exact fun q => q rfl)) (fun c_486 => ?_)
                refine lv_aload_n xE xB dL_areCells_489 rfl (lv_at xL 12 rfl) ?_
                refine lv_iload xE xB dL_areCells_490 (lv_at xL 11 rfl) ?_
                refine lv_iload xE xB dL_areCells_492 (lv_at xL 10 rfl) ?_
                refine lv_iconst (v := nI 5) xE xB dL_areCells_494 (by decide) ?_
                refine q_VRL (As := [.int (nI i), .int (nI j), .int (nI 5)]) (rest := []) ⟨xE, xB, xM, xO, xT⟩ (kO_cellOf l G oa n r k c o b ta tb tt 0 u s T (nI i) (nI j) (nI 5) (by first | assumption | omega)) (cwV 3 xT gL_areCells_X6_cellOf rfl rfl rfl (by decide +kernel) ⟨Nat.le_of_ble_eq_true rfl, Nat.le_of_ble_eq_true rfl⟩) xK xP [4] [0, 1, 2, 3] 5 rfl (by decide) (Lc := [wO G oa u]) rfl rfl 0 rfl rfl rfl rfl xL.1 rfl (Nat.le_of_ble_eq_true rfl) dL_areCells_495 ⟨Nat.le_refl _, Nat.le_refl _⟩ (fun r_495 h_495 => ?_)
                obtain rfl : r_495 = ceA n o b (nI i) (nI j) (nI 5) s := h_495
                refine q_eq (y := nI (metN k i j tt)) (cel_5 hN (show b = 1 by omega) hi hj hin) ?_
                refine lv_iload xE xB dL_areCells_498 (lv_at xL 4 rfl) ?_
                refine q_icmp_ne (tgt := 507) xE xB dL_areCells_500 (by decide) (by first | omega | (have := Nat.min_le_right (tt - (i + j)) k; unfold metN; omega)) (by first | omega | (have := Nat.min_le_right (tt - (i + j)) k; unfold metN; omega)) (fun c_500 => absurd c_500 (by omega)) (fun c_500 => ?_)
                refine lv_iconst (v := nI 1) xE xB dL_areCells_503 (by decide) ?_
                refine lv_goto (tgt := 508) xE xB dL_areCells_504 (by decide) ?_
                refine lv_istore (lv' := [(5, .int (nI 1)), (17, .int (-1000004)), (16, .int (-1000004)), (15, .int (nI 0)), (14, .int ((((nI tt) - (nI 1)) - (nI i)) - (nI j))), (13, .int (nI (metN k i j tt))), (12, .int (nI ((n * tb) + j))), (11, .int (nI ((n * ta) + i))), (10, .int (nI 1)), (9, .int (useF fd o i j)), (8, .int (nI j)), (7, .int (nI i)), (0, .ref oa), (1, .ref ga), (2, .ref aa), (3, .ref ba), (4, .ref fa), (6, .int (nI q))]) xE xB dL_areCells_508 xL (by decide) rfl (fun ls xL => ?_)
                refine lv_iinc (v := nI (q + 1)) (lv' := [(6, .int (nI (q + 1))), (5, .int (nI 1)), (17, .int (-1000004)), (16, .int (-1000004)), (15, .int (nI 0)), (14, .int ((((nI tt) - (nI 1)) - (nI i)) - (nI j))), (13, .int (nI (metN k i j tt))), (12, .int (nI ((n * tb) + j))), (11, .int (nI ((n * ta) + i))), (10, .int (nI 1)), (9, .int (useF fd o i j)), (8, .int (nI j)), (7, .int (nI i)), (0, .ref oa), (1, .ref ga), (2, .ref aa), (3, .ref ba), (4, .ref fa)]) xE xB dL_areCells_510 xL (k := 17) rfl (q_inc _ _) (by decide) rfl (fun ls xL => ?_)
                refine lv_goto (tgt := 6) xE xB dL_areCells_513 (by decide) ?_
                exact ih_6 (q + 1) (by omega) (by omega) _ (lv_sub xL [13, 14, 15, 16, 17, 1, 0] rfl)
              · skip
                refine q_eq (y := nI (tt - (i + j + 1))) (on_q hon1.1) ?_
                refine lv_istore (lv' := [(14, .int (nI (tt - (i + j + 1)))), (13, .int (nI (metN k i j tt))), (12, .int (nI ((n * tb) + j))), (11, .int (nI ((n * ta) + i))), (10, .int (nI 1)), (5, .int (nI 1)), (9, .int (useF fd o i j)), (8, .int (nI j)), (7, .int (nI i)), (0, .ref oa), (1, .ref ga), (2, .ref aa), (3, .ref ba), (4, .ref fa), (6, .int (nI q))]) xE xB dL_areCells_295 xL (by decide) rfl (fun ls xL => ?_)
                refine lv_iload xE xB dL_areCells_297 (lv_at xL 4 rfl) ?_
                refine lv_if_eq (tgt := 319) xE xB dL_areCells_299 (by decide) (fun h9 => absurd h9 (by decide)) (fun _ => ?_)
                refine lv_iload xE xB dL_areCells_302 (lv_at xL 0 rfl) ?_
                refine q_if_lt (tgt := 319) xE xB dL_areCells_304 (by decide) (by omega) ?_
                refine lv_iload xE xB dL_areCells_307 (lv_at xL 0 rfl) ?_
                refine lv_aload_n xE xB dL_areCells_309 rfl (lv_at xL 10 rfl) ?_
                refine lv_iconst (v := nI 2) xE xB dL_areCells_310 (by decide) ?_
                refine q_ald xE xB xK xP 0 rfl (by omega) (by decide) dL_areCells_311 ?_
                refine q_eq (y := nI k) (hg2) ?_
                refine q_icmp_ge (tgt := 319) xE xB dL_areCells_312 (by decide) (by omega) (by omega) (fun c_312 => ?_) (fun c_312 => absurd c_312 (by omega))
                refine lv_iconst (v := nI 0) xE xB dL_areCells_319 (by decide) ?_
                refine lv_istore (lv' := [(15, .int (nI 0)), (14, .int (nI (tt - (i + j + 1)))), (13, .int (nI (metN k i j tt))), (12, .int (nI ((n * tb) + j))), (11, .int (nI ((n * ta) + i))), (10, .int (nI 1)), (5, .int (nI 1)), (9, .int (useF fd o i j)), (8, .int (nI j)), (7, .int (nI i)), (0, .ref oa), (1, .ref ga), (2, .ref aa), (3, .ref ba), (4, .ref fa), (6, .int (nI q))]) xE xB dL_areCells_320 xL (by decide) rfl (fun ls xL => ?_)
                refine lv_iload xE xB dL_areCells_322 (lv_at xL 0 rfl) ?_
                refine lv_if_ne (tgt := 332) xE xB dL_areCells_324 (by decide) (fun h9 => absurd (by decide) h9) (fun _ => ?_)
                refine lv_ldc (v := (-1000004)) xE xB xO (xT _ kL_areCells_c44) dL_areCells_327 ?_
                refine lv_goto (tgt := 368) xE xB dL_areCells_329 (by decide) ?_
                refine lv_istore (lv' := [(16, .int (-1000004)), (15, .int (nI 0)), (14, .int (nI (tt - (i + j + 1)))), (13, .int (nI (metN k i j tt))), (12, .int (nI ((n * tb) + j))), (11, .int (nI ((n * ta) + i))), (10, .int (nI 1)), (5, .int (nI 1)), (9, .int (useF fd o i j)), (8, .int (nI j)), (7, .int (nI i)), (0, .ref oa), (1, .ref ga), (2, .ref aa), (3, .ref ba), (4, .ref fa), (6, .int (nI q))]) xE xB dL_areCells_368 xL (by decide) rfl (fun ls xL => ?_)
                refine lv_iload xE xB dL_areCells_370 (lv_at xL 1 rfl) ?_
                refine lv_if_ne (tgt := 380) xE xB dL_areCells_372 (by decide) (fun h9 => absurd (by decide) h9) (fun _ => ?_)
                refine lv_ldc (v := (-1000004)) xE xB xO (xT _ kL_areCells_c44) dL_areCells_375 ?_
                refine lv_goto (tgt := 416) xE xB dL_areCells_377 (by decide) ?_
                refine lv_istore (lv' := [(17, .int (-1000004)), (16, .int (-1000004)), (15, .int (nI 0)), (14, .int (nI (tt - (i + j + 1)))), (13, .int (nI (metN k i j tt))), (12, .int (nI ((n * tb) + j))), (11, .int (nI ((n * ta) + i))), (10, .int (nI 1)), (5, .int (nI 1)), (9, .int (useF fd o i j)), (8, .int (nI j)), (7, .int (nI i)), (0, .ref oa), (1, .ref ga), (2, .ref aa), (3, .ref ba), (4, .ref fa), (6, .int (nI q))]) xE xB dL_areCells_416 xL (by decide) rfl (fun ls xL => ?_)
                refine lv_iload xE xB dL_areCells_418 (lv_at xL 8 rfl) ?_
                refine lv_if_eq (tgt := 507) xE xB dL_areCells_420 (by decide) (fun h9 => absurd h9 (by decide)) (fun _ => ?_)
                refine lv_aload_n xE xB dL_areCells_423 rfl (lv_at xL 12 rfl) ?_
                refine lv_iload xE xB dL_areCells_424 (lv_at xL 11 rfl) ?_
                refine lv_iload xE xB dL_areCells_426 (lv_at xL 10 rfl) ?_
                refine lv_iconst (v := nI 0) xE xB dL_areCells_428 (by decide) ?_
                refine q_VRL (As := [.int (nI i), .int (nI j), .int (nI 0)]) (rest := []) ⟨xE, xB, xM, xO, xT⟩ (kO_cellOf l G oa n r k c o b ta tb tt 0 u s T (nI i) (nI j) (nI 0) (by first | assumption | omega)) (cwV 3 xT gL_areCells_X6_cellOf rfl rfl rfl (by decide +kernel) ⟨Nat.le_of_ble_eq_true rfl, Nat.le_of_ble_eq_true rfl⟩) xK xP [4] [0, 1, 2, 3] 5 rfl (by decide) (Lc := [wO G oa u]) rfl rfl 0 rfl rfl rfl rfl xL.1 rfl (Nat.le_of_ble_eq_true rfl) dL_areCells_429 ⟨Nat.le_refl _, Nat.le_refl _⟩ (fun r_429 h_429 => ?_)
                obtain rfl : r_429 = ceA n o b (nI i) (nI j) (nI 0) s := h_429
                refine q_eq (y := sumV ad bd fd o ((n * ta + i) % n) ((n * tb + j) % n) (n * ta + i) (n * tb + j) (metN k i j tt)) (cel_0 hN (show b = 1 by omega) hA hB hF hi hj hin) ?_
                refine lv_iload xE xB dL_areCells_432 (lv_at xL 7 rfl) ?_
                refine lv_if_eq (tgt := 457) xE xB dL_areCells_434 (by decide) (fun h9 => absurd h9 (by decide)) (fun _ => ?_)
                refine lv_aload_n xE xB dL_areCells_437 rfl (lv_at xL 13 rfl) ?_
                refine lv_aload_n xE xB dL_areCells_438 rfl (lv_at xL 14 rfl) ?_
                refine lv_aload_n xE xB dL_areCells_439 rfl (lv_at xL 15 rfl) ?_
                refine lv_aload xE xB dL_areCells_440 (lv_at xL 16 rfl) ?_
                refine lv_iload xE xB dL_areCells_442 (lv_at xL 6 rfl) ?_
                refine lv_iload xE xB dL_areCells_444 (lv_at xL 5 rfl) ?_
                refine lv_aload_n xE xB dL_areCells_446 rfl (lv_at xL 13 rfl) ?_
                refine lv_iconst (v := nI 4) xE xB dL_areCells_447 (by decide) ?_
                refine q_ald xE xB xK xP 0 rfl (by omega) (by decide) dL_areCells_448 ?_
                refine q_eq (y := nI o) (hg4) ?_
                refine lv_iload xE xB dL_areCells_449 (lv_at xL 4 rfl) ?_
                refine q_SRL (As := [.ref ga, .ref aa, .ref ba, .ref fa, .int (nI ((n * ta) + i)), .int (nI ((n * tb) + j)), .int (nI o), .int (nI (metN k i j tt))]) (rest := [.int (sumV ad bd fd o ((n * ta + i) % n) ((n * tb + j) % n) (n * ta + i) (n * tb + j) (metN k i j tt))]) ⟨xE, xB, xM, xO, xT⟩ (kL_sum l G ga aa ba fa g ad bd fd n o ((n * ta) + i) ((n * tb) + j) (metN k i j tt) (hg0) (by omega) (by omega) (by omega) (by omega) (by have := Nat.min_le_right (tt - (i + j)) k; unfold metN; omega)) (va_cwS 8 xT gL_areCells_L_sum rfl rfl rfl (by decide +kernel) ⟨Nat.le_of_ble_eq_true rfl, Nat.le_of_ble_eq_true rfl⟩) xK xP [0, 1, 2, 3] [4] 5 rfl (by decide) (Lc := [[(ga, ai G 9 g)], [(aa, ai G 36 ad)], [(ba, ai G 36 bd)], [(fa, ai G 20 fd)]]) rfl rfl rfl xL.1 rfl (Nat.le_of_ble_eq_true rfl) dL_areCells_451 ⟨Nat.le_refl _, Nat.le_refl _⟩ (fun r_451 h_451 => ?_)
                obtain rfl : r_451 = sumV ad bd fd o (((n * ta) + i) % n) (((n * tb) + j) % n) ((n * ta) + i) ((n * tb) + j) (metN k i j tt) := h_451
                refine lv_goto (tgt := 458) xE xB dL_areCells_454 (by decide) ?_
                refine lv_icmp_ne (tgt := 507) xE xB dL_areCells_458 (by decide) (fun c_458 => absurd c_458 (by exact fun q => q rfl)) (fun c_458 => ?_)
                refine lv_aload_n xE xB dL_areCells_461 rfl (lv_at xL 12 rfl) ?_
                refine lv_iload xE xB dL_areCells_462 (lv_at xL 11 rfl) ?_
                refine lv_iload xE xB dL_areCells_464 (lv_at xL 10 rfl) ?_
                refine lv_iconst (v := nI 1) xE xB dL_areCells_466 (by decide) ?_
                refine q_VRL (As := [.int (nI i), .int (nI j), .int (nI 1)]) (rest := []) ⟨xE, xB, xM, xO, xT⟩ (kO_cellOf l G oa n r k c o b ta tb tt 0 u s T (nI i) (nI j) (nI 1) (by first | assumption | omega)) (cwV 3 xT gL_areCells_X6_cellOf rfl rfl rfl (by decide +kernel) ⟨Nat.le_of_ble_eq_true rfl, Nat.le_of_ble_eq_true rfl⟩) xK xP [4] [0, 1, 2, 3] 5 rfl (by decide) (Lc := [wO G oa u]) rfl rfl 0 rfl rfl rfl rfl xL.1 rfl (Nat.le_of_ble_eq_true rfl) dL_areCells_467 ⟨Nat.le_refl _, Nat.le_refl _⟩ (fun r_467 h_467 => ?_)
                obtain rfl : r_467 = ceA n o b (nI i) (nI j) (nI 1) s := h_467
                refine q_eq (y := (-1000004)) (cel_1n hN (show b = 1 by omega) hi hj (fun w => hon w.2)) ?_
                refine lv_iload xE xB dL_areCells_470 (lv_at xL 1 rfl) ?_
                refine lv_icmp_ne (tgt := 507) xE xB dL_areCells_472 (by decide) (fun c_472 => absurd c_472 (by exact fun q => q rfl)) (fun c_472 => ?_)
                refine lv_aload_n xE xB dL_areCells_475 rfl (lv_at xL 12 rfl) ?_
                refine lv_iload xE xB dL_areCells_476 (lv_at xL 11 rfl) ?_
                refine lv_iload xE xB dL_areCells_478 (lv_at xL 10 rfl) ?_
                refine lv_iconst (v := nI 2) xE xB dL_areCells_480 (by decide) ?_
                refine q_VRL (As := [.int (nI i), .int (nI j), .int (nI 2)]) (rest := []) ⟨xE, xB, xM, xO, xT⟩ (kO_cellOf l G oa n r k c o b ta tb tt 0 u s T (nI i) (nI j) (nI 2) (by first | assumption | omega)) (cwV 3 xT gL_areCells_X6_cellOf rfl rfl rfl (by decide +kernel) ⟨Nat.le_of_ble_eq_true rfl, Nat.le_of_ble_eq_true rfl⟩) xK xP [4] [0, 1, 2, 3] 5 rfl (by decide) (Lc := [wO G oa u]) rfl rfl 0 rfl rfl rfl rfl xL.1 rfl (Nat.le_of_ble_eq_true rfl) dL_areCells_481 ⟨Nat.le_refl _, Nat.le_refl _⟩ (fun r_481 h_481 => ?_)
                obtain rfl : r_481 = ceA n o b (nI i) (nI j) (nI 2) s := h_481
                refine q_eq (y := (-1000004)) (cel_2n hN (show b = 1 by omega) hi hj (fun w => hon w.2)) ?_
                refine lv_iload xE xB dL_areCells_484 (lv_at xL 0 rfl) ?_
                refine lv_icmp_ne (tgt := 507) xE xB dL_areCells_486 (by decide) (fun c_486 => absurd c_486 (by exact fun q => q rfl)) (fun c_486 => ?_)
                refine lv_aload_n xE xB dL_areCells_489 rfl (lv_at xL 12 rfl) ?_
                refine lv_iload xE xB dL_areCells_490 (lv_at xL 11 rfl) ?_
                refine lv_iload xE xB dL_areCells_492 (lv_at xL 10 rfl) ?_
                refine lv_iconst (v := nI 5) xE xB dL_areCells_494 (by decide) ?_
                refine q_VRL (As := [.int (nI i), .int (nI j), .int (nI 5)]) (rest := []) ⟨xE, xB, xM, xO, xT⟩ (kO_cellOf l G oa n r k c o b ta tb tt 0 u s T (nI i) (nI j) (nI 5) (by first | assumption | omega)) (cwV 3 xT gL_areCells_X6_cellOf rfl rfl rfl (by decide +kernel) ⟨Nat.le_of_ble_eq_true rfl, Nat.le_of_ble_eq_true rfl⟩) xK xP [4] [0, 1, 2, 3] 5 rfl (by decide) (Lc := [wO G oa u]) rfl rfl 0 rfl rfl rfl rfl xL.1 rfl (Nat.le_of_ble_eq_true rfl) dL_areCells_495 ⟨Nat.le_refl _, Nat.le_refl _⟩ (fun r_495 h_495 => ?_)
                obtain rfl : r_495 = ceA n o b (nI i) (nI j) (nI 5) s := h_495
                refine q_eq (y := nI (metN k i j tt)) (cel_5 hN (show b = 1 by omega) hi hj hin) ?_
                refine lv_iload xE xB dL_areCells_498 (lv_at xL 4 rfl) ?_
                refine q_icmp_ne (tgt := 507) xE xB dL_areCells_500 (by decide) (by first | omega | (have := Nat.min_le_right (tt - (i + j)) k; unfold metN; omega)) (by first | omega | (have := Nat.min_le_right (tt - (i + j)) k; unfold metN; omega)) (fun c_500 => absurd c_500 (by omega)) (fun c_500 => ?_)
                refine lv_iconst (v := nI 1) xE xB dL_areCells_503 (by decide) ?_
                refine lv_goto (tgt := 508) xE xB dL_areCells_504 (by decide) ?_
                refine lv_istore (lv' := [(5, .int (nI 1)), (17, .int (-1000004)), (16, .int (-1000004)), (15, .int (nI 0)), (14, .int (nI (tt - (i + j + 1)))), (13, .int (nI (metN k i j tt))), (12, .int (nI ((n * tb) + j))), (11, .int (nI ((n * ta) + i))), (10, .int (nI 1)), (9, .int (useF fd o i j)), (8, .int (nI j)), (7, .int (nI i)), (0, .ref oa), (1, .ref ga), (2, .ref aa), (3, .ref ba), (4, .ref fa), (6, .int (nI q))]) xE xB dL_areCells_508 xL (by decide) rfl (fun ls xL => ?_)
                refine lv_iinc (v := nI (q + 1)) (lv' := [(6, .int (nI (q + 1))), (5, .int (nI 1)), (17, .int (-1000004)), (16, .int (-1000004)), (15, .int (nI 0)), (14, .int (nI (tt - (i + j + 1)))), (13, .int (nI (metN k i j tt))), (12, .int (nI ((n * tb) + j))), (11, .int (nI ((n * ta) + i))), (10, .int (nI 1)), (9, .int (useF fd o i j)), (8, .int (nI j)), (7, .int (nI i)), (0, .ref oa), (1, .ref ga), (2, .ref aa), (3, .ref ba), (4, .ref fa)]) xE xB dL_areCells_510 xL (k := 17) rfl (q_inc _ _) (by decide) rfl (fun ls xL => ?_)
                refine lv_goto (tgt := 6) xE xB dL_areCells_513 (by decide) ?_
                exact ih_6 (q + 1) (by omega) (by omega) _ (lv_sub xL [13, 14, 15, 16, 17, 1, 0] rfl)
            · skip
              have hta := (hN.2.2.2.2.1 (by omega)).2.1
              have htb := (hN.2.2.2.2.1 (by omega)).2.2.1
              have htt := Nat.lt_of_le_of_lt (hN.2.2.2.2.1 (by omega)).2.2.2.1 (need_b hn.2.1 hm.2.2.2.1)
              refine lv_iload xE xB dL_areCells_195 (lv_at xL 3 rfl) ?_
              refine lv_aload_n xE xB dL_areCells_197 rfl (lv_at xL 5 rfl) ?_
              refine lv_aload_n xE xB dL_areCells_198 rfl (lv_at xL 5 rfl) ?_
              refine lv_iconst (v := nI 1) xE xB dL_areCells_199 (by decide) ?_
              refine q_ald xE xB xK xP 0 rfl (by omega) (by decide) dL_areCells_200 ?_
              refine q_eq (y := nI r) (hg1) ?_
              refine lv_aload_n xE xB dL_areCells_201 rfl (lv_at xL 5 rfl) ?_
              refine lv_bipush (v := nI 6) xE xB dL_areCells_202 (by decide) ?_
              refine q_ald xE xB xK xP 0 rfl (by omega) (by decide) dL_areCells_204 ?_
              refine q_eq (y := nI ta) ((hg6 (by omega)).1) ?_
              refine q_SRL (As := [.ref ga, .int (nI r), .int (nI ta)]) (rest := [.int (nI i)]) ⟨xE, xB, xM, xO, xT⟩ (kL_part l G ga g n r ta (hg0) (by omega) (by omega) (by omega)) (va_cwS 3 xT gL_areCells_L_part rfl rfl rfl (by decide +kernel) ⟨Nat.le_of_ble_eq_true rfl, Nat.le_of_ble_eq_true rfl⟩) xK xP [0] [1, 2, 3, 4] 5 rfl (by decide) (Lc := [[(ga, ai G 9 g)]]) rfl rfl rfl xL.1 rfl (Nat.le_of_ble_eq_true rfl) dL_areCells_205 ⟨Nat.le_refl _, Nat.le_refl _⟩ (fun r_205 h_205 => ?_)
              obtain rfl : r_205 = nI (min n (r - n * ta)) := h_205
              refine q_icmp_ge (tgt := 231) xE xB dL_areCells_208 (by decide) (by omega) (by omega) (fun c_208 => ?_) (fun c_208 => ?_)
              · skip
                refine lv_iconst (v := nI 0) xE xB dL_areCells_231 (by decide) ?_
                refine lv_istore (lv' := [(10, .int (nI 0)), (5, .int (nI 1)), (9, .int (useF fd o i j)), (8, .int (nI j)), (7, .int (nI i)), (0, .ref oa), (1, .ref ga), (2, .ref aa), (3, .ref ba), (4, .ref fa), (6, .int (nI q))]) xE xB dL_areCells_232 xL (by decide) rfl (fun ls xL => ?_)
                refine lv_aload_n xE xB dL_areCells_234 rfl (lv_at xL 6 rfl) ?_
                refine lv_iconst (v := nI 0) xE xB dL_areCells_235 (by decide) ?_
                refine q_ald xE xB xK xP 0 rfl (by omega) (by decide) dL_areCells_236 ?_
                refine q_eq (y := nI n) (hg0) ?_
                refine lv_aload_n xE xB dL_areCells_237 rfl (lv_at xL 6 rfl) ?_
                refine lv_bipush (v := nI 6) xE xB dL_areCells_238 (by decide) ?_
                refine q_ald xE xB xK xP 0 rfl (by omega) (by decide) dL_areCells_240 ?_
                refine q_eq (y := nI ta) ((hg6 (by omega)).1) ?_
                refine q_imul xE xB dL_areCells_241 ?_
                refine lv_iload xE xB dL_areCells_242 (lv_at xL 4 rfl) ?_
                refine q_iadd xE xB dL_areCells_244 ?_
                refine lv_istore (lv' := [(11, .int (nI ((n * ta) + i))), (10, .int (nI 0)), (5, .int (nI 1)), (9, .int (useF fd o i j)), (8, .int (nI j)), (7, .int (nI i)), (0, .ref oa), (1, .ref ga), (2, .ref aa), (3, .ref ba), (4, .ref fa), (6, .int (nI q))]) xE xB dL_areCells_245 xL (by decide) rfl (fun ls xL => ?_)
                refine lv_aload_n xE xB dL_areCells_247 rfl (lv_at xL 7 rfl) ?_
                refine lv_iconst (v := nI 0) xE xB dL_areCells_248 (by decide) ?_
                refine q_ald xE xB xK xP 0 rfl (by omega) (by decide) dL_areCells_249 ?_
                refine q_eq (y := nI n) (hg0) ?_
                refine lv_aload_n xE xB dL_areCells_250 rfl (lv_at xL 7 rfl) ?_
                refine lv_bipush (v := nI 7) xE xB dL_areCells_251 (by decide) ?_
                refine q_ald xE xB xK xP 0 rfl (by omega) (by decide) dL_areCells_253 ?_
                refine q_eq (y := nI tb) ((hg6 (by omega)).2.1) ?_
                refine q_imul xE xB dL_areCells_254 ?_
                refine lv_iload xE xB dL_areCells_255 (lv_at xL 4 rfl) ?_
                refine q_iadd xE xB dL_areCells_257 ?_
                refine lv_istore (lv' := [(12, .int (nI ((n * tb) + j))), (11, .int (nI ((n * ta) + i))), (10, .int (nI 0)), (5, .int (nI 1)), (9, .int (useF fd o i j)), (8, .int (nI j)), (7, .int (nI i)), (0, .ref oa), (1, .ref ga), (2, .ref aa), (3, .ref ba), (4, .ref fa), (6, .int (nI q))]) xE xB dL_areCells_258 xL (by decide) rfl (fun ls xL => ?_)
                refine lv_iload xE xB dL_areCells_260 (lv_at xL 2 rfl) ?_
                refine lv_if_eq (tgt := 280) xE xB dL_areCells_262 (by decide) (fun _ => ?_) (fun h9 => absurd (by decide) h9)
                refine lv_iconst (v := nI 0) xE xB dL_areCells_280 (by decide) ?_
                refine lv_istore (lv' := [(13, .int (nI 0)), (12, .int (nI ((n * tb) + j))), (11, .int (nI ((n * ta) + i))), (10, .int (nI 0)), (5, .int (nI 1)), (9, .int (useF fd o i j)), (8, .int (nI j)), (7, .int (nI i)), (0, .ref oa), (1, .ref ga), (2, .ref aa), (3, .ref ba), (4, .ref fa), (6, .int (nI q))]) xE xB dL_areCells_281 xL (by decide) rfl (fun ls xL => ?_)
                refine lv_aload_n xE xB dL_areCells_283 rfl (lv_at xL 9 rfl) ?_
                refine lv_bipush (v := nI 8) xE xB dL_areCells_284 (by decide) ?_
                refine q_ald xE xB xK xP 0 rfl (by omega) (by decide) dL_areCells_286 ?_
                refine q_eq (y := nI tt) ((hg6 (by omega)).2.2) ?_
                refine lv_iconst (v := nI 1) xE xB dL_areCells_287 (by decide) ?_
                refine lv_isub xE xB dL_areCells_288 ?_
                refine lv_iload xE xB dL_areCells_289 (lv_at xL 7 rfl) ?_
                refine lv_isub xE xB dL_areCells_291 ?_
                refine lv_iload xE xB dL_areCells_292 (lv_at xL 6 rfl) ?_
                refine lv_isub xE xB dL_areCells_294 ?_
                refine lv_istore (lv' := [(14, .int ((((nI tt) - (nI 1)) - (nI i)) - (nI j))), (13, .int (nI 0)), (12, .int (nI ((n * tb) + j))), (11, .int (nI ((n * ta) + i))), (10, .int (nI 0)), (5, .int (nI 1)), (9, .int (useF fd o i j)), (8, .int (nI j)), (7, .int (nI i)), (0, .ref oa), (1, .ref ga), (2, .ref aa), (3, .ref ba), (4, .ref fa), (6, .int (nI q))]) xE xB dL_areCells_295 xL (by decide) rfl (fun ls xL => ?_)
                refine lv_iload xE xB dL_areCells_297 (lv_at xL 4 rfl) ?_
                refine lv_if_eq (tgt := 319) xE xB dL_areCells_299 (by decide) (fun _ => ?_) (fun h9 => absurd (by decide) h9)
                refine lv_iconst (v := nI 0) xE xB dL_areCells_319 (by decide) ?_
                refine lv_istore (lv' := [(15, .int (nI 0)), (14, .int ((((nI tt) - (nI 1)) - (nI i)) - (nI j))), (13, .int (nI 0)), (12, .int (nI ((n * tb) + j))), (11, .int (nI ((n * ta) + i))), (10, .int (nI 0)), (5, .int (nI 1)), (9, .int (useF fd o i j)), (8, .int (nI j)), (7, .int (nI i)), (0, .ref oa), (1, .ref ga), (2, .ref aa), (3, .ref ba), (4, .ref fa), (6, .int (nI q))]) xE xB dL_areCells_320 xL (by decide) rfl (fun ls xL => ?_)
                refine lv_iload xE xB dL_areCells_322 (lv_at xL 0 rfl) ?_
                refine lv_if_ne (tgt := 332) xE xB dL_areCells_324 (by decide) (fun h9 => absurd (by decide) h9) (fun _ => ?_)
                refine lv_ldc (v := (-1000004)) xE xB xO (xT _ kL_areCells_c44) dL_areCells_327 ?_
                refine lv_goto (tgt := 368) xE xB dL_areCells_329 (by decide) ?_
                refine lv_istore (lv' := [(16, .int (-1000004)), (15, .int (nI 0)), (14, .int ((((nI tt) - (nI 1)) - (nI i)) - (nI j))), (13, .int (nI 0)), (12, .int (nI ((n * tb) + j))), (11, .int (nI ((n * ta) + i))), (10, .int (nI 0)), (5, .int (nI 1)), (9, .int (useF fd o i j)), (8, .int (nI j)), (7, .int (nI i)), (0, .ref oa), (1, .ref ga), (2, .ref aa), (3, .ref ba), (4, .ref fa), (6, .int (nI q))]) xE xB dL_areCells_368 xL (by decide) rfl (fun ls xL => ?_)
                refine lv_iload xE xB dL_areCells_370 (lv_at xL 1 rfl) ?_
                refine lv_if_ne (tgt := 380) xE xB dL_areCells_372 (by decide) (fun h9 => absurd (by decide) h9) (fun _ => ?_)
                refine lv_ldc (v := (-1000004)) xE xB xO (xT _ kL_areCells_c44) dL_areCells_375 ?_
                refine lv_goto (tgt := 416) xE xB dL_areCells_377 (by decide) ?_
                refine lv_istore (lv' := [(17, .int (-1000004)), (16, .int (-1000004)), (15, .int (nI 0)), (14, .int ((((nI tt) - (nI 1)) - (nI i)) - (nI j))), (13, .int (nI 0)), (12, .int (nI ((n * tb) + j))), (11, .int (nI ((n * ta) + i))), (10, .int (nI 0)), (5, .int (nI 1)), (9, .int (useF fd o i j)), (8, .int (nI j)), (7, .int (nI i)), (0, .ref oa), (1, .ref ga), (2, .ref aa), (3, .ref ba), (4, .ref fa), (6, .int (nI q))]) xE xB dL_areCells_416 xL (by decide) rfl (fun ls xL => ?_)
                refine lv_iload xE xB dL_areCells_418 (lv_at xL 8 rfl) ?_
                refine lv_if_eq (tgt := 507) xE xB dL_areCells_420 (by decide) (fun h9 => absurd h9 (by decide)) (fun _ => ?_)
                refine lv_aload_n xE xB dL_areCells_423 rfl (lv_at xL 12 rfl) ?_
                refine lv_iload xE xB dL_areCells_424 (lv_at xL 11 rfl) ?_
                refine lv_iload xE xB dL_areCells_426 (lv_at xL 10 rfl) ?_
                refine lv_iconst (v := nI 0) xE xB dL_areCells_428 (by decide) ?_
                refine q_VRL (As := [.int (nI i), .int (nI j), .int (nI 0)]) (rest := []) ⟨xE, xB, xM, xO, xT⟩ (kO_cellOf l G oa n r k c o b ta tb tt 0 u s T (nI i) (nI j) (nI 0) (by first | assumption | omega)) (cwV 3 xT gL_areCells_X6_cellOf rfl rfl rfl (by decide +kernel) ⟨Nat.le_of_ble_eq_true rfl, Nat.le_of_ble_eq_true rfl⟩) xK xP [4] [0, 1, 2, 3] 5 rfl (by decide) (Lc := [wO G oa u]) rfl rfl 0 rfl rfl rfl rfl xL.1 rfl (Nat.le_of_ble_eq_true rfl) dL_areCells_429 ⟨Nat.le_refl _, Nat.le_refl _⟩ (fun r_429 h_429 => ?_)
                obtain rfl : r_429 = ceA n o b (nI i) (nI j) (nI 0) s := h_429
                refine q_eq (y := nI 0) ((cel_0n hN (show b = 1 by omega) hi hj hin).1) ?_
                refine lv_iload xE xB dL_areCells_432 (lv_at xL 7 rfl) ?_
                refine lv_if_eq (tgt := 457) xE xB dL_areCells_434 (by decide) (fun _ => ?_) (fun h9 => absurd (by decide) h9)
                refine lv_iconst (v := nI 0) xE xB dL_areCells_457 (by decide) ?_
                refine lv_icmp_ne (tgt := 507) xE xB dL_areCells_458 (by decide) (fun h9 => absurd (by decide) h9) (fun _ => ?_)
                refine lv_aload_n xE xB dL_areCells_461 rfl (lv_at xL 12 rfl) ?_
                refine lv_iload xE xB dL_areCells_462 (lv_at xL 11 rfl) ?_
                refine lv_iload xE xB dL_areCells_464 (lv_at xL 10 rfl) ?_
                refine lv_iconst (v := nI 1) xE xB dL_areCells_466 (by decide) ?_
                refine q_VRL (As := [.int (nI i), .int (nI j), .int (nI 1)]) (rest := []) ⟨xE, xB, xM, xO, xT⟩ (kO_cellOf l G oa n r k c o b ta tb tt 0 u s T (nI i) (nI j) (nI 1) (by first | assumption | omega)) (cwV 3 xT gL_areCells_X6_cellOf rfl rfl rfl (by decide +kernel) ⟨Nat.le_of_ble_eq_true rfl, Nat.le_of_ble_eq_true rfl⟩) xK xP [4] [0, 1, 2, 3] 5 rfl (by decide) (Lc := [wO G oa u]) rfl rfl 0 rfl rfl rfl rfl xL.1 rfl (Nat.le_of_ble_eq_true rfl) dL_areCells_467 ⟨Nat.le_refl _, Nat.le_refl _⟩ (fun r_467 h_467 => ?_)
                obtain rfl : r_467 = ceA n o b (nI i) (nI j) (nI 1) s := h_467
                refine q_eq (y := (-1000004)) (cel_1n hN (show b = 1 by omega) hi hj (fun w => hin w.1)) ?_
                refine lv_iload xE xB dL_areCells_470 (lv_at xL 1 rfl) ?_
                refine lv_icmp_ne (tgt := 507) xE xB dL_areCells_472 (by decide) (fun c_472 => absurd c_472 (by exact fun q => q rfl)) (fun c_472 => ?_)
                refine lv_aload_n xE xB dL_areCells_475 rfl (lv_at xL 12 rfl) ?_
                refine lv_iload xE xB dL_areCells_476 (lv_at xL 11 rfl) ?_
                refine lv_iload xE xB dL_areCells_478 (lv_at xL 10 rfl) ?_
                refine lv_iconst (v := nI 2) xE xB dL_areCells_480 (by decide) ?_
                refine q_VRL (As := [.int (nI i), .int (nI j), .int (nI 2)]) (rest := []) ⟨xE, xB, xM, xO, xT⟩ (kO_cellOf l G oa n r k c o b ta tb tt 0 u s T (nI i) (nI j) (nI 2) (by first | assumption | omega)) (cwV 3 xT gL_areCells_X6_cellOf rfl rfl rfl (by decide +kernel) ⟨Nat.le_of_ble_eq_true rfl, Nat.le_of_ble_eq_true rfl⟩) xK xP [4] [0, 1, 2, 3] 5 rfl (by decide) (Lc := [wO G oa u]) rfl rfl 0 rfl rfl rfl rfl xL.1 rfl (Nat.le_of_ble_eq_true rfl) dL_areCells_481 ⟨Nat.le_refl _, Nat.le_refl _⟩ (fun r_481 h_481 => ?_)
                obtain rfl : r_481 = ceA n o b (nI i) (nI j) (nI 2) s := h_481
                refine q_eq (y := (-1000004)) (cel_2n hN (show b = 1 by omega) hi hj (fun w => hin w.1)) ?_
                refine lv_iload xE xB dL_areCells_484 (lv_at xL 0 rfl) ?_
                refine lv_icmp_ne (tgt := 507) xE xB dL_areCells_486 (by decide) (fun c_486 => absurd c_486 (by exact fun q => q rfl)) (fun c_486 => ?_)
                refine lv_aload_n xE xB dL_areCells_489 rfl (lv_at xL 12 rfl) ?_
                refine lv_iload xE xB dL_areCells_490 (lv_at xL 11 rfl) ?_
                refine lv_iload xE xB dL_areCells_492 (lv_at xL 10 rfl) ?_
                refine lv_iconst (v := nI 5) xE xB dL_areCells_494 (by decide) ?_
                refine q_VRL (As := [.int (nI i), .int (nI j), .int (nI 5)]) (rest := []) ⟨xE, xB, xM, xO, xT⟩ (kO_cellOf l G oa n r k c o b ta tb tt 0 u s T (nI i) (nI j) (nI 5) (by first | assumption | omega)) (cwV 3 xT gL_areCells_X6_cellOf rfl rfl rfl (by decide +kernel) ⟨Nat.le_of_ble_eq_true rfl, Nat.le_of_ble_eq_true rfl⟩) xK xP [4] [0, 1, 2, 3] 5 rfl (by decide) (Lc := [wO G oa u]) rfl rfl 0 rfl rfl rfl rfl xL.1 rfl (Nat.le_of_ble_eq_true rfl) dL_areCells_495 ⟨Nat.le_refl _, Nat.le_refl _⟩ (fun r_495 h_495 => ?_)
                obtain rfl : r_495 = ceA n o b (nI i) (nI j) (nI 5) s := h_495
                refine q_eq (y := nI 0) ((cel_0n hN (show b = 1 by omega) hi hj hin).2) ?_
                refine lv_iload xE xB dL_areCells_498 (lv_at xL 4 rfl) ?_
                refine lv_icmp_ne (tgt := 507) xE xB dL_areCells_500 (by decide) (fun h9 => absurd (by decide) h9) (fun _ => ?_)
                refine lv_iconst (v := nI 1) xE xB dL_areCells_503 (by decide) ?_
                refine lv_goto (tgt := 508) xE xB dL_areCells_504 (by decide) ?_
                refine lv_istore (lv' := [(5, .int (nI 1)), (17, .int (-1000004)), (16, .int (-1000004)), (15, .int (nI 0)), (14, .int ((((nI tt) - (nI 1)) - (nI i)) - (nI j))), (13, .int (nI 0)), (12, .int (nI ((n * tb) + j))), (11, .int (nI ((n * ta) + i))), (10, .int (nI 0)), (9, .int (useF fd o i j)), (8, .int (nI j)), (7, .int (nI i)), (0, .ref oa), (1, .ref ga), (2, .ref aa), (3, .ref ba), (4, .ref fa), (6, .int (nI q))]) xE xB dL_areCells_508 xL (by decide) rfl (fun ls xL => ?_)
                refine lv_iinc (v := nI (q + 1)) (lv' := [(6, .int (nI (q + 1))), (5, .int (nI 1)), (17, .int (-1000004)), (16, .int (-1000004)), (15, .int (nI 0)), (14, .int ((((nI tt) - (nI 1)) - (nI i)) - (nI j))), (13, .int (nI 0)), (12, .int (nI ((n * tb) + j))), (11, .int (nI ((n * ta) + i))), (10, .int (nI 0)), (9, .int (useF fd o i j)), (8, .int (nI j)), (7, .int (nI i)), (0, .ref oa), (1, .ref ga), (2, .ref aa), (3, .ref ba), (4, .ref fa)]) xE xB dL_areCells_510 xL (k := 17) rfl (q_inc _ _) (by decide) rfl (fun ls xL => ?_)
                refine lv_goto (tgt := 6) xE xB dL_areCells_513 (by decide) ?_
                exact ih_6 (q + 1) (by omega) (by omega) _ (lv_sub xL [13, 14, 15, 16, 17, 1, 0] rfl)
              · skip
                refine lv_iload xE xB dL_areCells_211 (lv_at xL 2 rfl) ?_
                refine lv_aload_n xE xB dL_areCells_213 rfl (lv_at xL 5 rfl) ?_
                refine lv_aload_n xE xB dL_areCells_214 rfl (lv_at xL 5 rfl) ?_
                refine lv_iconst (v := nI 3) xE xB dL_areCells_215 (by decide) ?_
                refine q_ald xE xB xK xP 0 rfl (by omega) (by decide) dL_areCells_216 ?_
                refine q_eq (y := nI c) (hg3) ?_
                refine lv_aload_n xE xB dL_areCells_217 rfl (lv_at xL 5 rfl) ?_
                refine lv_bipush (v := nI 7) xE xB dL_areCells_218 (by decide) ?_
                refine q_ald xE xB xK xP 0 rfl (by omega) (by decide) dL_areCells_220 ?_
                refine q_eq (y := nI tb) ((hg6 (by omega)).2.1) ?_
                refine q_SRL (As := [.ref ga, .int (nI c), .int (nI tb)]) (rest := [.int (nI j)]) ⟨xE, xB, xM, xO, xT⟩ (kL_part l G ga g n c tb (hg0) (by omega) (by omega) (by omega)) (va_cwS 3 xT gL_areCells_L_part rfl rfl rfl (by decide +kernel) ⟨Nat.le_of_ble_eq_true rfl, Nat.le_of_ble_eq_true rfl⟩) xK xP [0] [1, 2, 3, 4] 5 rfl (by decide) (Lc := [[(ga, ai G 9 g)]]) rfl rfl rfl xL.1 rfl (Nat.le_of_ble_eq_true rfl) dL_areCells_221 ⟨Nat.le_refl _, Nat.le_refl _⟩ (fun r_221 h_221 => ?_)
                obtain rfl : r_221 = nI (min n (c - n * tb)) := h_221
                refine q_icmp_ge (tgt := 231) xE xB dL_areCells_224 (by decide) (by omega) (by omega) (fun c_224 => ?_) (fun c_224 => absurd c_224 (by omega))
                refine lv_iconst (v := nI 0) xE xB dL_areCells_231 (by decide) ?_
                refine lv_istore (lv' := [(10, .int (nI 0)), (5, .int (nI 1)), (9, .int (useF fd o i j)), (8, .int (nI j)), (7, .int (nI i)), (0, .ref oa), (1, .ref ga), (2, .ref aa), (3, .ref ba), (4, .ref fa), (6, .int (nI q))]) xE xB dL_areCells_232 xL (by decide) rfl (fun ls xL => ?_)
                refine lv_aload_n xE xB dL_areCells_234 rfl (lv_at xL 6 rfl) ?_
                refine lv_iconst (v := nI 0) xE xB dL_areCells_235 (by decide) ?_
                refine q_ald xE xB xK xP 0 rfl (by omega) (by decide) dL_areCells_236 ?_
                refine q_eq (y := nI n) (hg0) ?_
                refine lv_aload_n xE xB dL_areCells_237 rfl (lv_at xL 6 rfl) ?_
                refine lv_bipush (v := nI 6) xE xB dL_areCells_238 (by decide) ?_
                refine q_ald xE xB xK xP 0 rfl (by omega) (by decide) dL_areCells_240 ?_
                refine q_eq (y := nI ta) ((hg6 (by omega)).1) ?_
                refine q_imul xE xB dL_areCells_241 ?_
                refine lv_iload xE xB dL_areCells_242 (lv_at xL 4 rfl) ?_
                refine q_iadd xE xB dL_areCells_244 ?_
                refine lv_istore (lv' := [(11, .int (nI ((n * ta) + i))), (10, .int (nI 0)), (5, .int (nI 1)), (9, .int (useF fd o i j)), (8, .int (nI j)), (7, .int (nI i)), (0, .ref oa), (1, .ref ga), (2, .ref aa), (3, .ref ba), (4, .ref fa), (6, .int (nI q))]) xE xB dL_areCells_245 xL (by decide) rfl (fun ls xL => ?_)
                refine lv_aload_n xE xB dL_areCells_247 rfl (lv_at xL 7 rfl) ?_
                refine lv_iconst (v := nI 0) xE xB dL_areCells_248 (by decide) ?_
                refine q_ald xE xB xK xP 0 rfl (by omega) (by decide) dL_areCells_249 ?_
                refine q_eq (y := nI n) (hg0) ?_
                refine lv_aload_n xE xB dL_areCells_250 rfl (lv_at xL 7 rfl) ?_
                refine lv_bipush (v := nI 7) xE xB dL_areCells_251 (by decide) ?_
                refine q_ald xE xB xK xP 0 rfl (by omega) (by decide) dL_areCells_253 ?_
                refine q_eq (y := nI tb) ((hg6 (by omega)).2.1) ?_
                refine q_imul xE xB dL_areCells_254 ?_
                refine lv_iload xE xB dL_areCells_255 (lv_at xL 4 rfl) ?_
                refine q_iadd xE xB dL_areCells_257 ?_
                refine lv_istore (lv' := [(12, .int (nI ((n * tb) + j))), (11, .int (nI ((n * ta) + i))), (10, .int (nI 0)), (5, .int (nI 1)), (9, .int (useF fd o i j)), (8, .int (nI j)), (7, .int (nI i)), (0, .ref oa), (1, .ref ga), (2, .ref aa), (3, .ref ba), (4, .ref fa), (6, .int (nI q))]) xE xB dL_areCells_258 xL (by decide) rfl (fun ls xL => ?_)
                refine lv_iload xE xB dL_areCells_260 (lv_at xL 2 rfl) ?_
                refine lv_if_eq (tgt := 280) xE xB dL_areCells_262 (by decide) (fun _ => ?_) (fun h9 => absurd (by decide) h9)
                refine lv_iconst (v := nI 0) xE xB dL_areCells_280 (by decide) ?_
                refine lv_istore (lv' := [(13, .int (nI 0)), (12, .int (nI ((n * tb) + j))), (11, .int (nI ((n * ta) + i))), (10, .int (nI 0)), (5, .int (nI 1)), (9, .int (useF fd o i j)), (8, .int (nI j)), (7, .int (nI i)), (0, .ref oa), (1, .ref ga), (2, .ref aa), (3, .ref ba), (4, .ref fa), (6, .int (nI q))]) xE xB dL_areCells_281 xL (by decide) rfl (fun ls xL => ?_)
                refine lv_aload_n xE xB dL_areCells_283 rfl (lv_at xL 9 rfl) ?_
                refine lv_bipush (v := nI 8) xE xB dL_areCells_284 (by decide) ?_
                refine q_ald xE xB xK xP 0 rfl (by omega) (by decide) dL_areCells_286 ?_
                refine q_eq (y := nI tt) ((hg6 (by omega)).2.2) ?_
                refine lv_iconst (v := nI 1) xE xB dL_areCells_287 (by decide) ?_
                refine lv_isub xE xB dL_areCells_288 ?_
                refine lv_iload xE xB dL_areCells_289 (lv_at xL 7 rfl) ?_
                refine lv_isub xE xB dL_areCells_291 ?_
                refine lv_iload xE xB dL_areCells_292 (lv_at xL 6 rfl) ?_
                refine lv_isub xE xB dL_areCells_294 ?_
                refine lv_istore (lv' := [(14, .int ((((nI tt) - (nI 1)) - (nI i)) - (nI j))), (13, .int (nI 0)), (12, .int (nI ((n * tb) + j))), (11, .int (nI ((n * ta) + i))), (10, .int (nI 0)), (5, .int (nI 1)), (9, .int (useF fd o i j)), (8, .int (nI j)), (7, .int (nI i)), (0, .ref oa), (1, .ref ga), (2, .ref aa), (3, .ref ba), (4, .ref fa), (6, .int (nI q))]) xE xB dL_areCells_295 xL (by decide) rfl (fun ls xL => ?_)
                refine lv_iload xE xB dL_areCells_297 (lv_at xL 4 rfl) ?_
                refine lv_if_eq (tgt := 319) xE xB dL_areCells_299 (by decide) (fun _ => ?_) (fun h9 => absurd (by decide) h9)
                refine lv_iconst (v := nI 0) xE xB dL_areCells_319 (by decide) ?_
                refine lv_istore (lv' := [(15, .int (nI 0)), (14, .int ((((nI tt) - (nI 1)) - (nI i)) - (nI j))), (13, .int (nI 0)), (12, .int (nI ((n * tb) + j))), (11, .int (nI ((n * ta) + i))), (10, .int (nI 0)), (5, .int (nI 1)), (9, .int (useF fd o i j)), (8, .int (nI j)), (7, .int (nI i)), (0, .ref oa), (1, .ref ga), (2, .ref aa), (3, .ref ba), (4, .ref fa), (6, .int (nI q))]) xE xB dL_areCells_320 xL (by decide) rfl (fun ls xL => ?_)
                refine lv_iload xE xB dL_areCells_322 (lv_at xL 0 rfl) ?_
                refine lv_if_ne (tgt := 332) xE xB dL_areCells_324 (by decide) (fun h9 => absurd (by decide) h9) (fun _ => ?_)
                refine lv_ldc (v := (-1000004)) xE xB xO (xT _ kL_areCells_c44) dL_areCells_327 ?_
                refine lv_goto (tgt := 368) xE xB dL_areCells_329 (by decide) ?_
                refine lv_istore (lv' := [(16, .int (-1000004)), (15, .int (nI 0)), (14, .int ((((nI tt) - (nI 1)) - (nI i)) - (nI j))), (13, .int (nI 0)), (12, .int (nI ((n * tb) + j))), (11, .int (nI ((n * ta) + i))), (10, .int (nI 0)), (5, .int (nI 1)), (9, .int (useF fd o i j)), (8, .int (nI j)), (7, .int (nI i)), (0, .ref oa), (1, .ref ga), (2, .ref aa), (3, .ref ba), (4, .ref fa), (6, .int (nI q))]) xE xB dL_areCells_368 xL (by decide) rfl (fun ls xL => ?_)
                refine lv_iload xE xB dL_areCells_370 (lv_at xL 1 rfl) ?_
                refine lv_if_ne (tgt := 380) xE xB dL_areCells_372 (by decide) (fun h9 => absurd (by decide) h9) (fun _ => ?_)
                refine lv_ldc (v := (-1000004)) xE xB xO (xT _ kL_areCells_c44) dL_areCells_375 ?_
                refine lv_goto (tgt := 416) xE xB dL_areCells_377 (by decide) ?_
                refine lv_istore (lv' := [(17, .int (-1000004)), (16, .int (-1000004)), (15, .int (nI 0)), (14, .int ((((nI tt) - (nI 1)) - (nI i)) - (nI j))), (13, .int (nI 0)), (12, .int (nI ((n * tb) + j))), (11, .int (nI ((n * ta) + i))), (10, .int (nI 0)), (5, .int (nI 1)), (9, .int (useF fd o i j)), (8, .int (nI j)), (7, .int (nI i)), (0, .ref oa), (1, .ref ga), (2, .ref aa), (3, .ref ba), (4, .ref fa), (6, .int (nI q))]) xE xB dL_areCells_416 xL (by decide) rfl (fun ls xL => ?_)
                refine lv_iload xE xB dL_areCells_418 (lv_at xL 8 rfl) ?_
                refine lv_if_eq (tgt := 507) xE xB dL_areCells_420 (by decide) (fun h9 => absurd h9 (by decide)) (fun _ => ?_)
                refine lv_aload_n xE xB dL_areCells_423 rfl (lv_at xL 12 rfl) ?_
                refine lv_iload xE xB dL_areCells_424 (lv_at xL 11 rfl) ?_
                refine lv_iload xE xB dL_areCells_426 (lv_at xL 10 rfl) ?_
                refine lv_iconst (v := nI 0) xE xB dL_areCells_428 (by decide) ?_
                refine q_VRL (As := [.int (nI i), .int (nI j), .int (nI 0)]) (rest := []) ⟨xE, xB, xM, xO, xT⟩ (kO_cellOf l G oa n r k c o b ta tb tt 0 u s T (nI i) (nI j) (nI 0) (by first | assumption | omega)) (cwV 3 xT gL_areCells_X6_cellOf rfl rfl rfl (by decide +kernel) ⟨Nat.le_of_ble_eq_true rfl, Nat.le_of_ble_eq_true rfl⟩) xK xP [4] [0, 1, 2, 3] 5 rfl (by decide) (Lc := [wO G oa u]) rfl rfl 0 rfl rfl rfl rfl xL.1 rfl (Nat.le_of_ble_eq_true rfl) dL_areCells_429 ⟨Nat.le_refl _, Nat.le_refl _⟩ (fun r_429 h_429 => ?_)
                obtain rfl : r_429 = ceA n o b (nI i) (nI j) (nI 0) s := h_429
                refine q_eq (y := nI 0) ((cel_0n hN (show b = 1 by omega) hi hj hin).1) ?_
                refine lv_iload xE xB dL_areCells_432 (lv_at xL 7 rfl) ?_
                refine lv_if_eq (tgt := 457) xE xB dL_areCells_434 (by decide) (fun _ => ?_) (fun h9 => absurd (by decide) h9)
                refine lv_iconst (v := nI 0) xE xB dL_areCells_457 (by decide) ?_
                refine lv_icmp_ne (tgt := 507) xE xB dL_areCells_458 (by decide) (fun h9 => absurd (by decide) h9) (fun _ => ?_)
                refine lv_aload_n xE xB dL_areCells_461 rfl (lv_at xL 12 rfl) ?_
                refine lv_iload xE xB dL_areCells_462 (lv_at xL 11 rfl) ?_
                refine lv_iload xE xB dL_areCells_464 (lv_at xL 10 rfl) ?_
                refine lv_iconst (v := nI 1) xE xB dL_areCells_466 (by decide) ?_
                refine q_VRL (As := [.int (nI i), .int (nI j), .int (nI 1)]) (rest := []) ⟨xE, xB, xM, xO, xT⟩ (kO_cellOf l G oa n r k c o b ta tb tt 0 u s T (nI i) (nI j) (nI 1) (by first | assumption | omega)) (cwV 3 xT gL_areCells_X6_cellOf rfl rfl rfl (by decide +kernel) ⟨Nat.le_of_ble_eq_true rfl, Nat.le_of_ble_eq_true rfl⟩) xK xP [4] [0, 1, 2, 3] 5 rfl (by decide) (Lc := [wO G oa u]) rfl rfl 0 rfl rfl rfl rfl xL.1 rfl (Nat.le_of_ble_eq_true rfl) dL_areCells_467 ⟨Nat.le_refl _, Nat.le_refl _⟩ (fun r_467 h_467 => ?_)
                obtain rfl : r_467 = ceA n o b (nI i) (nI j) (nI 1) s := h_467
                refine q_eq (y := (-1000004)) (cel_1n hN (show b = 1 by omega) hi hj (fun w => hin w.1)) ?_
                refine lv_iload xE xB dL_areCells_470 (lv_at xL 1 rfl) ?_
                refine lv_icmp_ne (tgt := 507) xE xB dL_areCells_472 (by decide) (fun c_472 => absurd c_472 (by exact fun q => q rfl)) (fun c_472 => ?_)
                refine lv_aload_n xE xB dL_areCells_475 rfl (lv_at xL 12 rfl) ?_
                refine lv_iload xE xB dL_areCells_476 (lv_at xL 11 rfl) ?_
                refine lv_iload xE xB dL_areCells_478 (lv_at xL 10 rfl) ?_
                refine lv_iconst (v := nI 2) xE xB dL_areCells_480 (by decide) ?_
                refine q_VRL (As := [.int (nI i), .int (nI j), .int (nI 2)]) (rest := []) ⟨xE, xB, xM, xO, xT⟩ (kO_cellOf l G oa n r k c o b ta tb tt 0 u s T (nI i) (nI j) (nI 2) (by first | assumption | omega)) (cwV 3 xT gL_areCells_X6_cellOf rfl rfl rfl (by decide +kernel) ⟨Nat.le_of_ble_eq_true rfl, Nat.le_of_ble_eq_true rfl⟩) xK xP [4] [0, 1, 2, 3] 5 rfl (by decide) (Lc := [wO G oa u]) rfl rfl 0 rfl rfl rfl rfl xL.1 rfl (Nat.le_of_ble_eq_true rfl) dL_areCells_481 ⟨Nat.le_refl _, Nat.le_refl _⟩ (fun r_481 h_481 => ?_)
                obtain rfl : r_481 = ceA n o b (nI i) (nI j) (nI 2) s := h_481
                refine q_eq (y := (-1000004)) (cel_2n hN (show b = 1 by omega) hi hj (fun w => hin w.1)) ?_
                refine lv_iload xE xB dL_areCells_484 (lv_at xL 0 rfl) ?_
                refine lv_icmp_ne (tgt := 507) xE xB dL_areCells_486 (by decide) (fun c_486 => absurd c_486 (by exact fun q => q rfl)) (fun c_486 => ?_)
                refine lv_aload_n xE xB dL_areCells_489 rfl (lv_at xL 12 rfl) ?_
                refine lv_iload xE xB dL_areCells_490 (lv_at xL 11 rfl) ?_
                refine lv_iload xE xB dL_areCells_492 (lv_at xL 10 rfl) ?_
                refine lv_iconst (v := nI 5) xE xB dL_areCells_494 (by decide) ?_
                refine q_VRL (As := [.int (nI i), .int (nI j), .int (nI 5)]) (rest := []) ⟨xE, xB, xM, xO, xT⟩ (kO_cellOf l G oa n r k c o b ta tb tt 0 u s T (nI i) (nI j) (nI 5) (by first | assumption | omega)) (cwV 3 xT gL_areCells_X6_cellOf rfl rfl rfl (by decide +kernel) ⟨Nat.le_of_ble_eq_true rfl, Nat.le_of_ble_eq_true rfl⟩) xK xP [4] [0, 1, 2, 3] 5 rfl (by decide) (Lc := [wO G oa u]) rfl rfl 0 rfl rfl rfl rfl xL.1 rfl (Nat.le_of_ble_eq_true rfl) dL_areCells_495 ⟨Nat.le_refl _, Nat.le_refl _⟩ (fun r_495 h_495 => ?_)
                obtain rfl : r_495 = ceA n o b (nI i) (nI j) (nI 5) s := h_495
                refine q_eq (y := nI 0) ((cel_0n hN (show b = 1 by omega) hi hj hin).2) ?_
                refine lv_iload xE xB dL_areCells_498 (lv_at xL 4 rfl) ?_
                refine lv_icmp_ne (tgt := 507) xE xB dL_areCells_500 (by decide) (fun h9 => absurd (by decide) h9) (fun _ => ?_)
                refine lv_iconst (v := nI 1) xE xB dL_areCells_503 (by decide) ?_
                refine lv_goto (tgt := 508) xE xB dL_areCells_504 (by decide) ?_
                refine lv_istore (lv' := [(5, .int (nI 1)), (17, .int (-1000004)), (16, .int (-1000004)), (15, .int (nI 0)), (14, .int ((((nI tt) - (nI 1)) - (nI i)) - (nI j))), (13, .int (nI 0)), (12, .int (nI ((n * tb) + j))), (11, .int (nI ((n * ta) + i))), (10, .int (nI 0)), (9, .int (useF fd o i j)), (8, .int (nI j)), (7, .int (nI i)), (0, .ref oa), (1, .ref ga), (2, .ref aa), (3, .ref ba), (4, .ref fa), (6, .int (nI q))]) xE xB dL_areCells_508 xL (by decide) rfl (fun ls xL => ?_)
                refine lv_iinc (v := nI (q + 1)) (lv' := [(6, .int (nI (q + 1))), (5, .int (nI 1)), (17, .int (-1000004)), (16, .int (-1000004)), (15, .int (nI 0)), (14, .int ((((nI tt) - (nI 1)) - (nI i)) - (nI j))), (13, .int (nI 0)), (12, .int (nI ((n * tb) + j))), (11, .int (nI ((n * ta) + i))), (10, .int (nI 0)), (9, .int (useF fd o i j)), (8, .int (nI j)), (7, .int (nI i)), (0, .ref oa), (1, .ref ga), (2, .ref aa), (3, .ref ba), (4, .ref fa)]) xE xB dL_areCells_510 xL (k := 17) rfl (q_inc _ _) (by decide) rfl (fun ls xL => ?_)
                refine lv_goto (tgt := 6) xE xB dL_areCells_513 (by decide) ?_
                exact ih_6 (q + 1) (by omega) (by omega) _ (lv_sub xL [13, 14, 15, 16, 17, 1, 0] rfl)
        refine lv_iload xE xB dL_areCells_62 (lv_at xL 1 rfl) ?_
        refine lv_aload_n xE xB dL_areCells_64 rfl (lv_at xL 4 rfl) ?_
        refine lv_iconst (v := nI 4) xE xB dL_areCells_65 (by decide) ?_
        refine q_ald xE xB xK xP 0 rfl (by omega) (by decide) dL_areCells_66 ?_
        refine q_eq (y := nI o) (hg4) ?_
        refine q_icmp_ge (tgt := 75) xE xB dL_areCells_67 (by decide) (by omega) (by omega) (fun c_67 => ?_) (fun c_67 => ?_)
        · skip
          refine lv_iload xE xB dL_areCells_75 (lv_at xL 1 rfl) ?_
          refine lv_iconst (v := nI 1) xE xB dL_areCells_77 (by decide) ?_
          refine q_iadd xE xB dL_areCells_78 ?_
          exact J_79 (j + 1) (by first | exact (if_pos (by omega)).symm | exact (if_neg (by omega)).symm) _ (lv_sub xL [0, 1, 2, 3, 4, 5, 6, 7, 8, 9] rfl)
        · skip
          refine lv_iload xE xB dL_areCells_70 (lv_at xL 1 rfl) ?_
          refine lv_goto (tgt := 79) xE xB dL_areCells_72 (by decide) ?_
          exact J_79 j (by first | exact (if_pos (by omega)).symm | exact (if_neg (by omega)).symm) _ (lv_sub xL [0, 1, 2, 3, 4, 5, 6, 7, 8, 9] rfl)
  exact L_6 (n * n - 0 + 1) 0 (by exact Nat.zero_le _) (Nat.lt_succ_self _) _ (lv_sub xL [2, 3, 4, 5, 6, 1, 0] rfl)
