/-! law2: the law drains a tile, types a number -/
/-- the law's results and the set of those that are known, some drained -/
def DW (n o k : Nat) (a b f : wF) (P : Nat → Nat → Prop) (rd : wF) (z : Nat) (rd' : wF) (z' : Nat) : Prop := z' < 2 ^ 36 ∧ ∀ x y, x < 6 → y < 6 → (P x y → z'.testBit (6 * x + y) = true ∧ rd' (6 * x + y) = sumV a b f o (x % n) (y % n) x y k) ∧ (¬ P x y → z'.testBit (6 * x + y) = z.testBit (6 * x + y) ∧ rd' (6 * x + y) = rd (6 * x + y))
theorem DW_0 {n o k z : Nat} {a b f rd : wF} {P : Nat → Nat → Prop} (hz : z < 2 ^ 36) (h : ∀ x y, ¬ P x y) : DW n o k a b f P rd z rd z := ⟨hz, fun x y _ _ => ⟨fun q => absurd q (h x y), fun _ => ⟨rfl, rfl⟩⟩⟩
theorem DW_e {n o k z z' : Nat} {a b f rd rd' : wF} {P Q : Nat → Nat → Prop} (h : DW n o k a b f P rd z rd' z') (e : ∀ x y, x < 6 → y < 6 → (Q x y ↔ P x y)) : DW n o k a b f Q rd z rd' z' := ⟨h.1, fun x y hx hy => ⟨fun q => (h.2 x y hx hy).1 ((e x y hx hy).mp q), fun q => (h.2 x y hx hy).2 (fun w => q ((e x y hx hy).mpr w))⟩⟩
theorem DW_step {n o k z z' row col : Nat} {a b f rd rd' : wF} {P Q : Nat → Nat → Prop} (h : DW n o k a b f P rd z rd' z') (hr : row < 6) (hc : col < 6) (hq : ∀ x y, Q x y ↔ (P x y ∨ (x = row ∧ y = col))) : DW n o k a b f Q rd z (upd rd' (6 * row + col) (sumV a b f o (row % n) (col % n) row col k)) (z' ||| 2 ^ (6 * row + col)) := by
  refine ⟨or_lt36 h.1 (by omega), fun x y hx hy => ?_⟩
  have h2 := h.2 x y hx hy
  by_cases e : x = row ∧ y = col
  · obtain ⟨rfl, rfl⟩ := e
    refine ⟨fun _ => ⟨?_, upd_s⟩, fun q => absurd ((hq _ _).mpr (Or.inr ⟨rfl, rfl⟩)) q⟩
    rw [bit_set, decide_eq_true rfl, Bool.or_true]
  · have e1 : 6 * x + y ≠ 6 * row + col := by omega
    rw [bit_set, decide_eq_false e1, Bool.or_false, upd_n e1]
    refine ⟨fun q => h2.1 ?_, fun q => h2.2 (fun w => q ((hq x y).mpr (Or.inl w)))⟩
    rcases (hq x y).mp q with w | w
    · exact w
    · exact absurd w e
theorem kO_type2 (l : Launch) (G : wG) (oa n r k c o b ta tb tt tl : Nat) (u : OD) (s : wF) (T : Nat → Nat) (ch : Nat) (hI : OI n r k c o b ta tb tt u s T tl) (h1 : 32 ≤ ch) (h2 : ch ≤ 126) (h3 : tl < 80) : CI (S := OD) l yX6_type wsX6_type (rm 1 21) G [.ref oa, .int (nI ch)] (List.flatten [wO G oa u]) (fun x u9 => x = nI (tl + 1) ∧ ∃ T', (∀ j, j < tl → T' j = T j) ∧ T' tl = ch ∧ OI n r k c o b ta tb tt u9 s T' (tl + 1)) (fun u9 => List.flatten [wO G oa u9]) :=
  CI.imp (kO_type l G oa n r k c o b ta tb tt tl u s T ch hI h1 h2 h3) rfl fun x u9 hp => ⟨u9, ⟨hp.1, _, fun j hj => if_neg (Nat.ne_of_lt hj), if_pos rfl, hp.2⟩, rfl⟩
section SCN
variable {T : Nat → Nat} {i tl fp row col wid ng dg vl : Nat} {f B : wF}
theorem stk_1 {z v : AS} (h : stk T z i = v) (h0 : v.2.1 = 0) : stk T z (i + 1) = stepA i (T i) v := by
  show (if (stk T z i).2.1 = 0 then stepA i (T i) (stk T z i) else stk T z i) = _
  rw [h, if_pos h0]
theorem st_dig (h : stk T zA i = (fp, 0, row, col, wid, ng, dg, vl, f)) (h1 : 48 ≤ T i ∧ T i ≤ 57) (h2 : dg < 2) : stk T zA (i + 1) = (fp, 0, row, col, wid, ng, dg + 1, vl * 10 + (T i - 48), f) := by
  rw [stk_1 h rfl]
  exact if_pos ⟨h1.1, h1.2, h2⟩
theorem st_min (h : stk T zA i = (fp, 0, row, col, wid, 0, 0, 0, f)) (h1 : T i = 45) : stk T zA (i + 1) = (fp, 0, row, col, wid, 1, 0, 0, f) := by
  rw [stk_1 h rfl]
  exact (if_neg (by omega)).trans (if_pos ⟨h1, rfl, rfl⟩)
theorem st_comma (h : stk T zA i = (fp, 0, row, col, wid, ng, dg, vl, f)) (h1 : T i = 44) (h2 : 0 < dg) : stk T zA (i + 1) = commaA i (fp, 0, row, col, wid, ng, dg, vl, f) := by
  rw [stk_1 h rfl]
  exact (if_neg (by omega)).trans ((if_neg (by omega)).trans (if_pos ⟨h1, h2⟩))
theorem st_semi (h : stk T zA i = (fp, 0, row, col, wid, ng, dg, vl, f)) (h1 : T i = 59) (h2 : 0 < dg) : stk T zA (i + 1) = semiA i (fp, 0, row, col, wid, ng, dg, vl, f) := by
  rw [stk_1 h rfl]
  exact (if_neg (by omega)).trans ((if_neg (by omega)).trans ((if_neg (by omega)).trans (if_pos ⟨h1, h2⟩)))
end SCN
/-- the text has become longer by a number -/
def TY (tl : Nat) (T T' : Nat → Nat) (tl' : Nat) (v : Int32) : Prop := (∀ j, j < tl → T' j = T j) ∧ ∀ (fp row col wid : Nat) (F : wF), stk T zA tl = (fp, 0, row, col, wid, 0, 0, 0, F) → ∃ ng dg vl, stk T' zA tl' = (fp, 0, row, col, wid, ng, dg, vl, F) ∧ 0 < dg ∧ sgnV ng vl = v
theorem ty_g1 {T' : Nat → Nat} {i fp row col wid ng q : Nat} {F : wF} (h : stk T' zA i = (fp, 0, row, col, wid, ng, 0, 0, F)) (e : T' i = 48 + q % 10) (hq : q < 10) : stk T' zA (i + 1) = (fp, 0, row, col, wid, ng, 1, q, F) := by
  have g := st_dig h (by omega) (by decide)
  rw [g, e]
  have e2 : 0 * 10 + (48 + q % 10 - 48) = q := by omega
  rw [e2]
theorem ty_g2 {T' : Nat → Nat} {i fp row col wid ng q : Nat} {F : wF} (h : stk T' zA i = (fp, 0, row, col, wid, ng, 0, 0, F)) (e1 : T' i = 48 + q / 10) (e2 : T' (i + 1) = 48 + q % 10) (hq : q < 100) : stk T' zA (i + 1 + 1) = (fp, 0, row, col, wid, ng, 2, q, F) := by
  have g := st_dig h (by omega) (by decide)
  have g2 := st_dig g (by omega) (by decide)
  rw [g2, e1, e2]
  have e3 : (0 * 10 + (48 + q / 10 - 48)) * 10 + (48 + q % 10 - 48) = q := by omega
  rw [e3]
theorem ty_p1 {T T1 : Nat → Nat} {tl q : Nat} (a1 : ∀ j, j < tl → T1 j = T j) (b1 : T1 tl = 48 + q % 10) (hq : q < 10) : TY tl T T1 (tl + 1) (nI q) :=
  ⟨a1, fun fp row col wid F h => ⟨0, 1, q, ty_g1 ((stk_T tl a1).trans h) b1 hq, by decide, rfl⟩⟩
theorem ty_p2 {T T1 T2 : Nat → Nat} {tl q : Nat} (a1 : ∀ j, j < tl → T1 j = T j) (b1 : T1 tl = 48 + q / 10) (a2 : ∀ j, j < tl + 1 → T2 j = T1 j) (b2 : T2 (tl + 1) = 48 + q % 10) (hq : q < 100) : TY tl T T2 (tl + 1 + 1) (nI q) :=
  ⟨fun j hj => (a2 j (by omega)).trans (a1 j hj), fun fp row col wid F h => ⟨0, 2, q, ty_g2 ((stk_T tl fun j hj => (a2 j (by omega)).trans (a1 j hj)).trans h) ((a2 tl (by omega)).trans b1) b2 hq, by decide, rfl⟩⟩
theorem ty_n1 {T T0 T1 : Nat → Nat} {tl q : Nat} (a0 : ∀ j, j < tl → T0 j = T j) (b0 : T0 tl = 45) (a1 : ∀ j, j < tl + 1 → T1 j = T0 j) (b1 : T1 (tl + 1) = 48 + q % 10) (hq : q < 10) : TY tl T T1 (tl + 1 + 1) (-(nI q)) :=
  ⟨fun j hj => (a1 j (by omega)).trans (a0 j hj), fun fp row col wid F h => ⟨1, 1, q, ty_g1 (st_min ((stk_T tl fun j hj => (a1 j (by omega)).trans (a0 j hj)).trans h) ((a1 tl (by omega)).trans b0)) b1 hq, by decide, rfl⟩⟩
theorem ty_n2 {T T0 T1 T2 : Nat → Nat} {tl q : Nat} (a0 : ∀ j, j < tl → T0 j = T j) (b0 : T0 tl = 45) (a1 : ∀ j, j < tl + 1 → T1 j = T0 j) (b1 : T1 (tl + 1) = 48 + q / 10) (a2 : ∀ j, j < tl + 1 + 1 → T2 j = T1 j) (b2 : T2 (tl + 1 + 1) = 48 + q % 10) (hq : q < 100) : TY tl T T2 (tl + 1 + 1 + 1) (-(nI q)) :=
  ⟨fun j hj => (a2 j (by omega)).trans ((a1 j (by omega)).trans (a0 j hj)), fun fp row col wid F h => ⟨1, 2, q, ty_g2 (st_min ((stk_T tl fun j hj => (a2 j (by omega)).trans ((a1 j (by omega)).trans (a0 j hj))).trans h) ((a2 tl (by omega)).trans ((a1 tl (by omega)).trans b0))) ((a2 (tl + 1) (by omega)).trans b1) b2 hq, by decide, rfl⟩⟩
theorem bV_c {v : Int32} (h : bV v) : (∃ q, q < 100 ∧ v = nI q) ∨ ∃ q, 1 ≤ q ∧ q < 100 ∧ v = -(nI q) := by
  obtain ⟨h1, h2⟩ := h
  rcases Int.lt_or_le v.toInt 0 with g | g
  · right
    refine ⟨(-v.toInt).toNat, by omega, by omega, ?_⟩
    apply Int32.toInt_inj.mp
    rw [Int32.toInt_neg, nI_toInt (by omega), tI_bm (by omega) (by omega)]
    omega
  · left
    exact ⟨tN v, by unfold tN; omega, tN_eq g⟩
theorem ng_1 {q : Nat} (h1 : 1 ≤ q) (h2 : q < 100) : ¬ (0 : Int32) ≤ -(nI q) := by
  rw [Int32.le_iff_toInt_le, Int32.toInt_neg, nI_toInt (by omega), tI_bm (by omega) (by omega)]
  have h0 : (0 : Int32).toInt = 0 := rfl
  omega

set_option maxHeartbeats 4000000 in
set_option maxRecDepth 100000 in
/-- kL_drain -/
theorem kL_drain (l : Launch) (G : wG) (ga aa ba fa ra wa : Nat) (g a b f rd : wF) (wd : Nat → Int64) (n r k c o ta tb z : Nat) (hg0 : g 0 = nI n) (hg1 : g 1 = nI r) (hg2 : g 2 = nI k) (hg3 : g 3 = nI c) (hg4 : g 4 = nI o) (hn : 1 ≤ n ∧ n ≤ 4) (ho : o ≤ 4) (hr : r ≤ 6) (hk : k ≤ 6) (hc : c ≤ 6) (h1 : n * ta < r) (h2 : n * tb < c) (hz : wd 0 = lN z) (hz2 : z < 2 ^ 36) : CV (S := wF × (Nat → Int64)) l yL_drain wsL_drain (rm 3 81) G [.ref ga, .ref aa, .ref ba, .ref fa, .ref ra, .ref wa, .int (nI ta), .int (nI tb)] (List.flatten [[(ga, ai G 9 g)], [(aa, ai G 36 a)], [(ba, ai G 36 b)], [(fa, ai G 20 f)], [(ra, ai G 36 rd)], [(wa, al G 1 wd)]]) (fun u9 => ∃ z', u9.2 0 = lN z' ∧ DW n o k a b f (inT n r c ta tb) rd z u9.1 z') (fun u9 => List.flatten [[(ga, ai G 9 g)], [(aa, ai G 36 a)], [(ba, ai G 36 b)], [(fa, ai G 20 f)], [(ra, ai G 36 u9.1)], [(wa, al G 1 u9.2)]]) := by
  refine CV.of (own := RL) rfl (by decide) rfl (Nat.le_of_ble_eq_true rfl) ?_
  intro p9 e9 s9 m9 b9 t9 c9 A xE xB xM xO xT xK xP xD Q xQ xS ls hl
  have xL : lv_has ls 12 [(0, .ref ga), (1, .ref aa), (2, .ref ba), (3, .ref fa), (4, .ref ra), (5, .ref wa), (6, .int (nI ta)), (7, .int (nI tb))] := hl
  refine lv_iconst (v := nI 0) xE xB dL_drain_0 (by decide) ?_
  refine lv_istore (lv' := [(8, .int (nI 0)), (0, .ref ga), (1, .ref aa), (2, .ref ba), (3, .ref fa), (4, .ref ra), (5, .ref wa), (6, .int (nI ta)), (7, .int (nI tb))]) xE xB dL_drain_1 xL (by decide) rfl (fun ls xL => ?_)
  have L_3 : ∀ (n_3 : Nat) (i : Nat) (R2 : wF) (wd2 : Nat → Int64) (z2 : Nat), (i ≤ min n (r - n * ta)) → (wd2 0 = lN z2) → (DW n o k a b f (fun x y => (n * ta ≤ x ∧ x < n * ta + i) ∧ (n * tb ≤ y ∧ y < n * tb + min n (c - n * tb))) rd z R2 z2) → n - i < n_3 → ∀ (H : Heap) (locs : List Loc), va_P G.1 vwCl (List.flatten [[(ga, ai G 9 g)], [(aa, ai G 36 a)], [(ba, ai G 36 b)], [(fa, ai G 20 f)], [(ra, ai G 36 R2)], [(wa, al G 1 wd2)]]) H → va_D A (List.flatten [[(ga, ai G 9 g)], [(aa, ai G 36 a)], [(ba, ai G 36 b)], [(fa, ai G 20 f)], [(ra, ai G 36 R2)], [(wa, al G 1 wd2)]]) → va_S A s9.heap H locs → ∀ (ls : Array Slot), lv_has ls 12 [(0, .ref ga), (1, .ref aa), (2, .ref ba), (3, .ref fa), (4, .ref ra), (5, .ref wa), (6, .int (nI ta)), (7, .int (nI tb)), (8, .int (nI i))] → W p9 l e9 (rm 3 81) s9 m9 ([.ref ga, .ref aa, .ref ba, .ref fa, .ref ra, .ref wa, .int (nI ta), .int (nI tb)] : List Value).toArray b9 t9 c9 H locs 0 0 Q (F0 m9 3 ls []) := by
    intro n_3
    induction n_3 with
    | zero => intro i R2 wd2 z2 hi hw2 hD hm_3 H locs xP xD xS ls xL; exact absurd hm_3 (Nat.not_lt_zero _)
    | succ n_3 ih_3 =>
      intro i R2 wd2 z2 hi hw2 hD hm_3 H locs xP xD xS ls xL
      refine lv_iload xE xB dL_drain_3 (lv_at xL 8 rfl) ?_
      refine lv_aload_n xE xB dL_drain_5 rfl (lv_at xL 0 rfl) ?_
      refine lv_aload_n xE xB dL_drain_6 rfl (lv_at xL 0 rfl) ?_
      refine lv_iconst (v := nI 1) xE xB dL_drain_7 (by decide) ?_
      refine q_ald xE xB xK xP 0 rfl (by omega) (by decide) dL_drain_8 ?_
      refine q_eq (y := nI r) (hg1) ?_
      refine lv_iload xE xB dL_drain_9 (lv_at xL 6 rfl) ?_
      refine q_SRL (As := [.ref ga, .int (nI r), .int (nI ta)]) (rest := [.int (nI i)]) ⟨xE, xB, xM, xO, xT⟩ (kL_part l G ga g n r ta (by first | assumption | omega) (by first | assumption | omega) (by first | assumption | omega) (by first | assumption | omega)) (va_cwS 3 xT gL_drain_L_part rfl rfl rfl (by decide +kernel) ⟨Nat.le_of_ble_eq_true rfl, Nat.le_of_ble_eq_true rfl⟩) xK xP [0] [1, 2, 3, 4, 5] 6 rfl (by decide) (Lc := [[(ga, ai G 9 g)]]) rfl rfl rfl xL.1 rfl (Nat.le_of_ble_eq_true rfl) dL_drain_11 ⟨Nat.le_refl _, Nat.le_refl _⟩ (fun r_11 h_11 => ?_)
      obtain rfl : r_11 = nI (min n (r - n * ta)) := h_11
      refine q_icmp_ge (tgt := 113) xE xB dL_drain_14 (by decide) (by omega) (by omega) (fun c_14 => ?_) (fun c_14 => ?_)
      · skip
        exact xQ _ _ _ _ (R2, wd2) (by obtain rfl : i = min n (r - n * ta) := (by omega); exact ⟨z2, hw2, hD⟩) xP xD xS dL_drain_113
      · skip
        refine lv_iconst (v := nI 0) xE xB dL_drain_17 (by decide) ?_
        refine lv_istore (lv' := [(9, .int (nI 0)), (0, .ref ga), (1, .ref aa), (2, .ref ba), (3, .ref fa), (4, .ref ra), (5, .ref wa), (6, .int (nI ta)), (7, .int (nI tb)), (8, .int (nI i))]) xE xB dL_drain_18 xL (by decide) rfl (fun ls xL => ?_)
        have L_20 : ∀ (n_20 : Nat) (j : Nat) (R3 : wF) (wd3 : Nat → Int64) (z3 : Nat), (j ≤ min n (c - n * tb)) → (wd3 0 = lN z3) → (DW n o k a b f (fun x y => ((n * ta ≤ x ∧ x < n * ta + i) ∧ (n * tb ≤ y ∧ y < n * tb + min n (c - n * tb))) ∨ (x = n * ta + i ∧ (n * tb ≤ y ∧ y < n * tb + j))) rd z R3 z3) → n - j < n_20 → ∀ (H : Heap) (locs : List Loc), va_P G.1 vwCl (List.flatten [[(ga, ai G 9 g)], [(aa, ai G 36 a)], [(ba, ai G 36 b)], [(fa, ai G 20 f)], [(ra, ai G 36 R3)], [(wa, al G 1 wd3)]]) H → va_D A (List.flatten [[(ga, ai G 9 g)], [(aa, ai G 36 a)], [(ba, ai G 36 b)], [(fa, ai G 20 f)], [(ra, ai G 36 R3)], [(wa, al G 1 wd3)]]) → va_S A s9.heap H locs → ∀ (ls : Array Slot), lv_has ls 12 [(0, .ref ga), (1, .ref aa), (2, .ref ba), (3, .ref fa), (4, .ref ra), (5, .ref wa), (6, .int (nI ta)), (7, .int (nI tb)), (8, .int (nI i)), (9, .int (nI j))] → W p9 l e9 (rm 3 81) s9 m9 ([.ref ga, .ref aa, .ref ba, .ref fa, .ref ra, .ref wa, .int (nI ta), .int (nI tb)] : List Value).toArray b9 t9 c9 H locs 0 0 Q (F0 m9 20 ls []) := by
          intro n_20
          induction n_20 with
          | zero => intro j R3 wd3 z3 hj hw3 hD3 hm_20 H locs xP xD xS ls xL; exact absurd hm_20 (Nat.not_lt_zero _)
          | succ n_20 ih_20 =>
            intro j R3 wd3 z3 hj hw3 hD3 hm_20 H locs xP xD xS ls xL
            refine lv_iload xE xB dL_drain_20 (lv_at xL 9 rfl) ?_
            refine lv_aload_n xE xB dL_drain_22 rfl (lv_at xL 0 rfl) ?_
            refine lv_aload_n xE xB dL_drain_23 rfl (lv_at xL 0 rfl) ?_
            refine lv_iconst (v := nI 3) xE xB dL_drain_24 (by decide) ?_
            refine q_ald xE xB xK xP 0 rfl (by omega) (by decide) dL_drain_25 ?_
            refine q_eq (y := nI c) (hg3) ?_
            refine lv_iload xE xB dL_drain_26 (lv_at xL 7 rfl) ?_
            refine q_SRL (As := [.ref ga, .int (nI c), .int (nI tb)]) (rest := [.int (nI j)]) ⟨xE, xB, xM, xO, xT⟩ (kL_part l G ga g n c tb (by first | assumption | omega) (by first | assumption | omega) (by first | assumption | omega) (by first | assumption | omega)) (va_cwS 3 xT gL_drain_L_part rfl rfl rfl (by decide +kernel) ⟨Nat.le_of_ble_eq_true rfl, Nat.le_of_ble_eq_true rfl⟩) xK xP [0] [1, 2, 3, 4, 5] 6 rfl (by decide) (Lc := [[(ga, ai G 9 g)]]) rfl rfl rfl xL.1 rfl (Nat.le_of_ble_eq_true rfl) dL_drain_28 ⟨Nat.le_refl _, Nat.le_refl _⟩ (fun r_28 h_28 => ?_)
            obtain rfl : r_28 = nI (min n (c - n * tb)) := h_28
            refine q_icmp_ge (tgt := 107) xE xB dL_drain_31 (by decide) (by omega) (by omega) (fun c_31 => ?_) (fun c_31 => ?_)
            · skip
              refine lv_iinc (v := nI (i + 1)) (lv' := [(8, .int (nI (i + 1))), (0, .ref ga), (1, .ref aa), (2, .ref ba), (3, .ref fa), (4, .ref ra), (5, .ref wa), (6, .int (nI ta)), (7, .int (nI tb)), (9, .int (nI j))]) xE xB dL_drain_107 xL (k := 8) rfl (q_inc _ _) (by decide) rfl (fun ls xL => ?_)
              refine lv_goto (tgt := 3) xE xB dL_drain_110 (by decide) ?_
              exact ih_3 (i + 1) R3 wd3 z3 (by omega) (by exact hw3) (by exact DW_e hD3 (fun x y _ _ => by omega)) (by omega) _ _ xP xD xS _ (lv_sub xL [1, 2, 3, 4, 5, 6, 7, 8, 0] rfl)
            · skip
              refine lv_aload_n xE xB dL_drain_34 rfl (lv_at xL 0 rfl) ?_
              refine lv_iconst (v := nI 0) xE xB dL_drain_35 (by decide) ?_
              refine q_ald xE xB xK xP 0 rfl (by omega) (by decide) dL_drain_36 ?_
              refine q_eq (y := nI n) (hg0) ?_
              refine lv_iload xE xB dL_drain_37 (lv_at xL 6 rfl) ?_
              refine q_imul xE xB dL_drain_39 ?_
              refine lv_iload xE xB dL_drain_40 (lv_at xL 8 rfl) ?_
              refine q_iadd xE xB dL_drain_42 ?_
              refine lv_istore (lv' := [(10, .int (nI ((n * ta) + i))), (0, .ref ga), (1, .ref aa), (2, .ref ba), (3, .ref fa), (4, .ref ra), (5, .ref wa), (6, .int (nI ta)), (7, .int (nI tb)), (8, .int (nI i)), (9, .int (nI j))]) xE xB dL_drain_43 xL (by decide) rfl (fun ls xL => ?_)
              refine lv_aload_n xE xB dL_drain_45 rfl (lv_at xL 1 rfl) ?_
              refine lv_iconst (v := nI 0) xE xB dL_drain_46 (by decide) ?_
              refine q_ald xE xB xK xP 0 rfl (by omega) (by decide) dL_drain_47 ?_
              refine q_eq (y := nI n) (hg0) ?_
              refine lv_iload xE xB dL_drain_48 (lv_at xL 8 rfl) ?_
              refine q_imul xE xB dL_drain_50 ?_
              refine lv_iload xE xB dL_drain_51 (lv_at xL 10 rfl) ?_
              refine q_iadd xE xB dL_drain_53 ?_
              refine lv_istore (lv' := [(11, .int (nI ((n * tb) + j))), (10, .int (nI ((n * ta) + i))), (0, .ref ga), (1, .ref aa), (2, .ref ba), (3, .ref fa), (4, .ref ra), (5, .ref wa), (6, .int (nI ta)), (7, .int (nI tb)), (8, .int (nI i)), (9, .int (nI j))]) xE xB dL_drain_54 xL (by decide) rfl (fun ls xL => ?_)
              refine lv_aload xE xB dL_drain_56 (lv_at xL 6 rfl) ?_
              refine lv_bipush (v := nI 6) xE xB dL_drain_58 (by decide) ?_
              refine lv_iload xE xB dL_drain_60 (lv_at xL 1 rfl) ?_
              refine q_imul xE xB dL_drain_62 ?_
              refine lv_iload xE xB dL_drain_63 (lv_at xL 0 rfl) ?_
              refine q_iadd xE xB dL_drain_65 ?_
              refine lv_aload_n xE xB dL_drain_66 rfl (lv_at xL 2 rfl) ?_
              refine lv_aload_n xE xB dL_drain_67 rfl (lv_at xL 3 rfl) ?_
              refine lv_aload_n xE xB dL_drain_68 rfl (lv_at xL 4 rfl) ?_
              refine lv_aload_n xE xB dL_drain_69 rfl (lv_at xL 5 rfl) ?_
              refine lv_iload xE xB dL_drain_70 (lv_at xL 1 rfl) ?_
              refine lv_iload xE xB dL_drain_72 (lv_at xL 0 rfl) ?_
              refine lv_aload_n xE xB dL_drain_74 rfl (lv_at xL 2 rfl) ?_
              refine lv_iconst (v := nI 4) xE xB dL_drain_75 (by decide) ?_
              refine q_ald xE xB xK xP 0 rfl (by omega) (by decide) dL_drain_76 ?_
              refine q_eq (y := nI o) (hg4) ?_
              refine lv_aload_n xE xB dL_drain_77 rfl (lv_at xL 2 rfl) ?_
              refine lv_iconst (v := nI 2) xE xB dL_drain_78 (by decide) ?_
              refine q_ald xE xB xK xP 0 rfl (by omega) (by decide) dL_drain_79 ?_
              refine q_eq (y := nI k) (hg2) ?_
              refine q_SRL (As := [.ref ga, .ref aa, .ref ba, .ref fa, .int (nI ((n * ta) + i)), .int (nI ((n * tb) + j)), .int (nI o), .int (nI k)]) (rest := [.int (nI ((6 * ((n * ta) + i)) + ((n * tb) + j))), .ref ra]) ⟨xE, xB, xM, xO, xT⟩ (kL_sum l G ga aa ba fa g a b f n o ((n * ta) + i) ((n * tb) + j) k (by first | assumption | omega) (by first | assumption | omega) (by first | assumption | omega) (by first | assumption | omega) (by first | assumption | omega) (by first | assumption | omega)) (va_cwS 8 xT gL_drain_L_sum rfl rfl rfl (by decide +kernel) ⟨Nat.le_of_ble_eq_true rfl, Nat.le_of_ble_eq_true rfl⟩) xK xP [0, 1, 2, 3] [4, 5] 6 rfl (by decide) (Lc := [[(ga, ai G 9 g)], [(aa, ai G 36 a)], [(ba, ai G 36 b)], [(fa, ai G 20 f)]]) rfl rfl rfl xL.1 rfl (Nat.le_of_ble_eq_true rfl) dL_drain_80 ⟨Nat.le_refl _, Nat.le_refl _⟩ (fun r_80 h_80 => ?_)
              obtain rfl : r_80 = sumV a b f o (((n * ta) + i) % n) (((n * tb) + j) % n) ((n * ta) + i) ((n * tb) + j) k := h_80
              refine q_ast xE xB xK xP xD xS 4 rfl (by omega) (by decide) dL_drain_83 (fun H locs xP xD xS => ?_)
              have xP : va_P G.1 vwCl (List.flatten [[(ga, ai G 9 g)], [(aa, ai G 36 a)], [(ba, ai G 36 b)], [(fa, ai G 20 f)], [(ra, ai G 36 (upd R3 ((6 * ((n * ta) + i)) + ((n * tb) + j)) (sumV a b f o (((n * ta) + i) % n) (((n * tb) + j) % n) ((n * ta) + i) ((n * tb) + j) k)))], [(wa, al G 1 wd3)]]) H := xP
              have xD : va_D A (List.flatten [[(ga, ai G 9 g)], [(aa, ai G 36 a)], [(ba, ai G 36 b)], [(fa, ai G 20 f)], [(ra, ai G 36 (upd R3 ((6 * ((n * ta) + i)) + ((n * tb) + j)) (sumV a b f o (((n * ta) + i) % n) (((n * tb) + j) % n) ((n * ta) + i) ((n * tb) + j) k)))], [(wa, al G 1 wd3)]]) := xD
              refine lv_aload xE xB dL_drain_84 (lv_at xL 7 rfl) ?_
              refine lv_iconst (v := nI 0) xE xB dL_drain_86 (by decide) ?_
              refine lv_dup2_11 xE xB dL_drain_87 rfl rfl ?_
              refine q_lald xE xB xK xP 5 rfl (by omega) (by decide) dL_drain_88 ?_
              refine lv_lconst (v := lN 1) xE xB dL_drain_89 (by decide) ?_
              refine lv_bipush (v := nI 6) xE xB dL_drain_90 (by decide) ?_
              refine lv_iload xE xB dL_drain_92 (lv_at xL 1 rfl) ?_
              refine q_imul xE xB dL_drain_94 ?_
              refine lv_iload xE xB dL_drain_95 (lv_at xL 0 rfl) ?_
              refine q_iadd xE xB dL_drain_97 ?_
              refine lv_lshl (v := lN (2 ^ (6 * (n * ta + i) + (n * tb + j)))) xE xB dL_drain_98 (by exact lw_shl _ (by omega)) ?_
              refine lv_lor xE xB dL_drain_99 ?_
              refine q_eqL (y := lN (z3 ||| 2 ^ (6 * (n * ta + i) + (n * tb + j)))) (by rw [hw3]; exact lw_or _ _) ?_
              refine q_last xE xB xK xP xD xS 5 rfl (by omega) (by decide) dL_drain_100 (fun H locs xP xD xS => ?_)
              have xP : va_P G.1 vwCl (List.flatten [[(ga, ai G 9 g)], [(aa, ai G 36 a)], [(ba, ai G 36 b)], [(fa, ai G 20 f)], [(ra, ai G 36 (upd R3 ((6 * ((n * ta) + i)) + ((n * tb) + j)) (sumV a b f o (((n * ta) + i) % n) (((n * tb) + j) % n) ((n * ta) + i) ((n * tb) + j) k)))], [(wa, al G 1 (vp_updL wd3 0 (lN (z3 ||| 2 ^ (6 * (n * ta + i) + (n * tb + j))))))]]) H := xP
              have xD : va_D A (List.flatten [[(ga, ai G 9 g)], [(aa, ai G 36 a)], [(ba, ai G 36 b)], [(fa, ai G 20 f)], [(ra, ai G 36 (upd R3 ((6 * ((n * ta) + i)) + ((n * tb) + j)) (sumV a b f o (((n * ta) + i) % n) (((n * tb) + j) % n) ((n * ta) + i) ((n * tb) + j) k)))], [(wa, al G 1 (vp_updL wd3 0 (lN (z3 ||| 2 ^ (6 * (n * ta + i) + (n * tb + j))))))]]) := xD
              refine lv_iinc (v := nI (j + 1)) (lv' := [(9, .int (nI (j + 1))), (11, .int (nI ((n * tb) + j))), (10, .int (nI ((n * ta) + i))), (0, .ref ga), (1, .ref aa), (2, .ref ba), (3, .ref fa), (4, .ref ra), (5, .ref wa), (6, .int (nI ta)), (7, .int (nI tb)), (8, .int (nI i))]) xE xB dL_drain_101 xL (k := 11) rfl (q_inc _ _) (by decide) rfl (fun ls xL => ?_)
              refine lv_goto (tgt := 20) xE xB dL_drain_104 (by decide) ?_
              exact ih_20 (j + 1) (upd R3 ((6 * ((n * ta) + i)) + ((n * tb) + j)) (sumV a b f o (((n * ta) + i) % n) (((n * tb) + j) % n) ((n * ta) + i) ((n * tb) + j) k)) (vp_updL wd3 0 (lN (z3 ||| 2 ^ (6 * (n * ta + i) + (n * tb + j))))) (z3 ||| 2 ^ (6 * (n * ta + i) + (n * tb + j))) (by omega) (by exact pk_uLs) (by exact DW_step hD3 (by omega) (by omega) (fun x y => by omega)) (by omega) _ _ xP xD xS _ (lv_sub xL [3, 4, 5, 6, 7, 8, 9, 10, 11, 0] rfl)
        exact L_20 (n - 0 + 1) 0 R2 wd2 z2 (by omega) (by exact hw2) (by exact DW_e hD (fun x y _ _ => by omega)) (Nat.lt_succ_self _) _ _ xP xD xS _ (lv_sub xL [1, 2, 3, 4, 5, 6, 7, 8, 9, 0] rfl)
  exact L_3 (n - 0 + 1) 0 rd wd z (by omega) (by exact hz) (by exact DW_0 hz2 (fun x y q => by omega)) (Nat.lt_succ_self _) _ _ xP xD xS _ (lv_sub xL [1, 2, 3, 4, 5, 6, 7, 8, 0] rfl)
set_option maxHeartbeats 4000000 in
set_option maxRecDepth 100000 in
/-- kL_typesP -/
theorem kL_typesP (l : Launch) (G : wG) (oa n r k c o b ta tb tt tl : Nat) (u : OD) (s : wF) (T : Nat → Nat) (q : Nat) (hI : OI n r k c o b ta tb tt u s T tl) (hl : tl + 3 ≤ 80) (hq : q < 100) : CI (S := OD) l yL_types wsL_types (rm 2 42) G [.ref oa, .int (nI q)] (List.flatten [wO G oa u]) (fun x u9 => x = nI 1 ∧ ∃ T' tl', OI n r k c o b ta tb tt u9 s T' tl' ∧ (tl' ≤ tl + 3 ∧ tl < tl') ∧ TY tl T T' tl' (nI q)) (fun u9 => List.flatten [wO G oa u9]) := by
  refine CI.ofZ (own := RL) rfl (by decide) rfl (Nat.le_of_ble_eq_true rfl) ?_
  intro p9 e9 s9 m9 b9 t9 c9 A xE xB xM xO xT xK xP xD Q xQ xS ls hl
  have xL : lv_has ls 4 [(0, .ref oa), (1, .int (nI q))] := hl
  refine lv_iload_n xE xB dL_types_0 rfl (lv_at xL 1 rfl) ?_
  refine q_if_ge (tgt := 13) xE xB dL_types_1 (by decide) (by omega) ?_
  refine lv_iconst (v := nI 1) xE xB dL_types_13 (by decide) ?_
  refine lv_goto (tgt := 18) xE xB dL_types_14 (by decide) ?_
  refine lv_istore_n (lv' := [(2, .int (nI 1)), (0, .ref oa), (1, .int (nI q))]) xE xB dL_types_18 rfl xL (by decide) rfl (fun ls xL => ?_)
  refine lv_iload_n xE xB dL_types_19 rfl (lv_at xL 2 rfl) ?_
  refine q_if_ge (tgt := 28) xE xB dL_types_20 (by decide) (by omega) ?_
  refine lv_iload_n xE xB dL_types_28 rfl (lv_at xL 2 rfl) ?_
  refine lv_istore_n (lv' := [(3, .int (nI q)), (2, .int (nI 1)), (0, .ref oa), (1, .int (nI q))]) xE xB dL_types_29 rfl xL (by decide) rfl (fun ls xL => ?_)
  refine lv_iload_n xE xB dL_types_30 rfl (lv_at xL 1 rfl) ?_
  refine lv_if_eq (tgt := 72) xE xB dL_types_31 (by decide) (fun h9 => absurd h9 (by decide)) (fun _ => ?_)
  refine lv_iload_n xE xB dL_types_34 rfl (lv_at xL 0 rfl) ?_
  refine lv_bipush (v := nI 10) xE xB dL_types_35 (by decide) ?_
  refine q_icmp_lt (tgt := 54) xE xB dL_types_37 (by decide) (by omega) (by omega) (fun c_37 => ?_) (fun c_37 => ?_)
  · skip
    refine lv_aload_n xE xB dL_types_54 rfl (lv_at xL 2 rfl) ?_
    refine lv_bipush (v := nI 48) xE xB dL_types_55 (by decide) ?_
    refine lv_iload_n xE xB dL_types_57 rfl (lv_at xL 0 rfl) ?_
    refine lv_bipush (v := nI 10) xE xB dL_types_58 (by decide) ?_
    refine q_irem xE xB dL_types_60 (by omega) (by omega) (by omega) ?_
    refine q_iadd xE xB dL_types_61 ?_
    refine q_VIL (As := [.int (nI (48 + (q % 10)))]) (rest := []) ⟨xE, xB, xM, xO, xT⟩ (kO_type2 l G oa n r k c o b ta tb tt tl u s T (48 + (q % 10)) (by first | assumption | omega) (by first | assumption | omega) (by first | assumption | omega) (by first | assumption | omega)) (cwV 1 xT gL_types_X6_type rfl rfl rfl (by decide +kernel) ⟨Nat.le_of_ble_eq_true rfl, Nat.le_of_ble_eq_true rfl⟩) xK xP xD xS [0] [] 1 rfl (by decide) (Lc := [wO G oa u]) rfl rfl (fun u_62 => [wO G oa u_62]) (fun u_62 => [wO G oa u_62]) (fun _ => rfl) (fun _ => rfl) (fun _ => rfl) (fun _ => rfl) 0 rfl rfl rfl rfl xL.1 rfl (Nat.le_of_ble_eq_true rfl) dL_types_62 ⟨Nat.le_refl _, Nat.le_refl _⟩ (fun r_62 u_62 H locs h_62 xP xD xS => ?_)
    replace h_62 : r_62 = nI (tl + 1) ∧ ∃ T', (∀ j, j < tl → T' j = T j) ∧ T' tl = (48 + (q % 10)) ∧ OI n r k c o b ta tb tt u_62 s T' (tl + 1) := h_62
    obtain ⟨q_62, h_62⟩ := h_62
    subst q_62
    obtain ⟨T_62, ha_62, hb_62, hI_62⟩ := h_62
    refine q_if_le (tgt := 72) xE xB dL_types_65 (by decide) (by omega) (fun c_65 => absurd c_65 (by omega)) (fun c_65 => ?_)
    refine lv_iconst (v := nI 1) xE xB dL_types_68 (by decide) ?_
    refine lv_goto (tgt := 73) xE xB dL_types_69 (by decide) ?_
    exact xQ _ _ _ _ _ _ (by exact ⟨rfl, _, _, hI_62, by omega, ty_p1 ha_62 hb_62 c_37⟩) (by decide) xP xD xS dL_types_73
  · skip
    refine lv_aload_n xE xB dL_types_40 rfl (lv_at xL 2 rfl) ?_
    refine lv_bipush (v := nI 48) xE xB dL_types_41 (by decide) ?_
    refine lv_iload_n xE xB dL_types_43 rfl (lv_at xL 0 rfl) ?_
    refine lv_bipush (v := nI 10) xE xB dL_types_44 (by decide) ?_
    refine q_idiv xE xB dL_types_46 (by omega) (by omega) (by omega) ?_
    refine q_iadd xE xB dL_types_47 ?_
    refine q_VIL (As := [.int (nI (48 + (q / 10)))]) (rest := []) ⟨xE, xB, xM, xO, xT⟩ (kO_type2 l G oa n r k c o b ta tb tt tl u s T (48 + (q / 10)) (by first | assumption | omega) (by first | assumption | omega) (by first | assumption | omega) (by first | assumption | omega)) (cwV 1 xT gL_types_X6_type rfl rfl rfl (by decide +kernel) ⟨Nat.le_of_ble_eq_true rfl, Nat.le_of_ble_eq_true rfl⟩) xK xP xD xS [0] [] 1 rfl (by decide) (Lc := [wO G oa u]) rfl rfl (fun u_48 => [wO G oa u_48]) (fun u_48 => [wO G oa u_48]) (fun _ => rfl) (fun _ => rfl) (fun _ => rfl) (fun _ => rfl) 0 rfl rfl rfl rfl xL.1 rfl (Nat.le_of_ble_eq_true rfl) dL_types_48 ⟨Nat.le_refl _, Nat.le_refl _⟩ (fun r_48 u_48 H locs h_48 xP xD xS => ?_)
    replace h_48 : r_48 = nI (tl + 1) ∧ ∃ T', (∀ j, j < tl → T' j = T j) ∧ T' tl = (48 + (q / 10)) ∧ OI n r k c o b ta tb tt u_48 s T' (tl + 1) := h_48
    obtain ⟨q_48, h_48⟩ := h_48
    subst q_48
    obtain ⟨T_48, ha_48, hb_48, hI_48⟩ := h_48
    refine q_if_le (tgt := 72) xE xB dL_types_51 (by decide) (by omega) (fun c_51 => absurd c_51 (by omega)) (fun c_51 => ?_)
    refine lv_aload_n xE xB dL_types_54 rfl (lv_at xL 2 rfl) ?_
    refine lv_bipush (v := nI 48) xE xB dL_types_55 (by decide) ?_
    refine lv_iload_n xE xB dL_types_57 rfl (lv_at xL 0 rfl) ?_
    refine lv_bipush (v := nI 10) xE xB dL_types_58 (by decide) ?_
    refine q_irem xE xB dL_types_60 (by omega) (by omega) (by omega) ?_
    refine q_iadd xE xB dL_types_61 ?_
    refine q_VIL (As := [.int (nI (48 + (q % 10)))]) (rest := []) ⟨xE, xB, xM, xO, xT⟩ (kO_type2 l G oa n r k c o b ta tb tt (tl + 1) u_48 s T_48 (48 + (q % 10)) (by first | assumption | omega) (by first | assumption | omega) (by first | assumption | omega) (by first | assumption | omega)) (cwV 1 xT gL_types_X6_type rfl rfl rfl (by decide +kernel) ⟨Nat.le_of_ble_eq_true rfl, Nat.le_of_ble_eq_true rfl⟩) xK xP xD xS [0] [] 1 rfl (by decide) (Lc := [wO G oa u_48]) rfl rfl (fun u_62 => [wO G oa u_62]) (fun u_62 => [wO G oa u_62]) (fun _ => rfl) (fun _ => rfl) (fun _ => rfl) (fun _ => rfl) 0 rfl rfl rfl rfl xL.1 rfl (Nat.le_of_ble_eq_true rfl) dL_types_62 ⟨Nat.le_refl _, Nat.le_refl _⟩ (fun r_62 u_62 H locs h_62 xP xD xS => ?_)
    replace h_62 : r_62 = nI ((tl + 1) + 1) ∧ ∃ T', (∀ j, j < (tl + 1) → T' j = T_48 j) ∧ T' (tl + 1) = (48 + (q % 10)) ∧ OI n r k c o b ta tb tt u_62 s T' ((tl + 1) + 1) := h_62
    obtain ⟨q_62, h_62⟩ := h_62
    subst q_62
    obtain ⟨T_62, ha_62, hb_62, hI_62⟩ := h_62
    refine q_if_le (tgt := 72) xE xB dL_types_65 (by decide) (by omega) (fun c_65 => absurd c_65 (by omega)) (fun c_65 => ?_)
    refine lv_iconst (v := nI 1) xE xB dL_types_68 (by decide) ?_
    refine lv_goto (tgt := 73) xE xB dL_types_69 (by decide) ?_
    exact xQ _ _ _ _ _ _ (by exact ⟨rfl, _, _, hI_62, by omega, ty_p2 ha_48 hb_48 ha_62 hb_62 hq⟩) (by decide) xP xD xS dL_types_73
set_option maxHeartbeats 4000000 in
set_option maxRecDepth 100000 in
/-- kL_typesN -/
theorem kL_typesN (l : Launch) (G : wG) (oa n r k c o b ta tb tt tl : Nat) (u : OD) (s : wF) (T : Nat → Nat) (q : Nat) (hI : OI n r k c o b ta tb tt u s T tl) (hl : tl + 3 ≤ 80) (hq1 : 1 ≤ q) (hq : q < 100) : CI (S := OD) l yL_types wsL_types (rm 2 42) G [.ref oa, .int (-(nI q))] (List.flatten [wO G oa u]) (fun x u9 => x = nI 1 ∧ ∃ T' tl', OI n r k c o b ta tb tt u9 s T' tl' ∧ (tl' ≤ tl + 3 ∧ tl < tl') ∧ TY tl T T' tl' (-(nI q))) (fun u9 => List.flatten [wO G oa u9]) := by
  refine CI.ofZ (own := RL) rfl (by decide) rfl (Nat.le_of_ble_eq_true rfl) ?_
  intro p9 e9 s9 m9 b9 t9 c9 A xE xB xM xO xT xK xP xD Q xQ xS ls hl
  have xL : lv_has ls 4 [(0, .ref oa), (1, .int (-(nI q)))] := hl
  refine lv_iload_n xE xB dL_types_0 rfl (lv_at xL 1 rfl) ?_
  refine lv_if_ge (tgt := 13) xE xB dL_types_1 (by decide) (fun c_1 => absurd c_1 (by exact ng_1 hq1 hq)) (fun c_1 => ?_)
  refine lv_aload_n xE xB dL_types_4 rfl (lv_at xL 0 rfl) ?_
  refine lv_bipush (v := nI 45) xE xB dL_types_5 (by decide) ?_
  refine q_VIL (As := [.int (nI 45)]) (rest := []) ⟨xE, xB, xM, xO, xT⟩ (kO_type2 l G oa n r k c o b ta tb tt tl u s T 45 (by first | assumption | omega) (by first | assumption | omega) (by first | assumption | omega) (by first | assumption | omega)) (cwV 1 xT gL_types_X6_type rfl rfl rfl (by decide +kernel) ⟨Nat.le_of_ble_eq_true rfl, Nat.le_of_ble_eq_true rfl⟩) xK xP xD xS [0] [] 1 rfl (by decide) (Lc := [wO G oa u]) rfl rfl (fun u_7 => [wO G oa u_7]) (fun u_7 => [wO G oa u_7]) (fun _ => rfl) (fun _ => rfl) (fun _ => rfl) (fun _ => rfl) 0 rfl rfl rfl rfl xL.1 rfl (Nat.le_of_ble_eq_true rfl) dL_types_7 ⟨Nat.le_refl _, Nat.le_refl _⟩ (fun r_7 u_7 H locs h_7 xP xD xS => ?_)
  replace h_7 : r_7 = nI (tl + 1) ∧ ∃ T', (∀ j, j < tl → T' j = T j) ∧ T' tl = 45 ∧ OI n r k c o b ta tb tt u_7 s T' (tl + 1) := h_7
  obtain ⟨q_7, h_7⟩ := h_7
  subst q_7
  obtain ⟨T_7, ha_7, hb_7, hI_7⟩ := h_7
  refine q_if_le (tgt := 17) xE xB dL_types_10 (by decide) (by omega) (fun c_10 => absurd c_10 (by omega)) (fun c_10 => ?_)
  refine lv_iconst (v := nI 1) xE xB dL_types_13 (by decide) ?_
  refine lv_goto (tgt := 18) xE xB dL_types_14 (by decide) ?_
  refine lv_istore_n (lv' := [(2, .int (nI 1)), (0, .ref oa), (1, .int (-(nI q)))]) xE xB dL_types_18 rfl xL (by decide) rfl (fun ls xL => ?_)
  refine lv_iload_n xE xB dL_types_19 rfl (lv_at xL 2 rfl) ?_
  refine lv_if_ge (tgt := 28) xE xB dL_types_20 (by decide) (fun c_20 => absurd c_20 (by exact ng_1 hq1 hq)) (fun c_20 => ?_)
  refine lv_iload_n xE xB dL_types_23 rfl (lv_at xL 2 rfl) ?_
  refine lv_ineg xE xB dL_types_24 ?_
  refine q_eq (y := nI q) (Int32.neg_neg) ?_
  refine lv_goto (tgt := 29) xE xB dL_types_25 (by decide) ?_
  refine lv_istore_n (lv' := [(3, .int (nI q)), (2, .int (nI 1)), (0, .ref oa), (1, .int (-(nI q)))]) xE xB dL_types_29 rfl xL (by decide) rfl (fun ls xL => ?_)
  refine lv_iload_n xE xB dL_types_30 rfl (lv_at xL 1 rfl) ?_
  refine lv_if_eq (tgt := 72) xE xB dL_types_31 (by decide) (fun h9 => absurd h9 (by decide)) (fun _ => ?_)
  refine lv_iload_n xE xB dL_types_34 rfl (lv_at xL 0 rfl) ?_
  refine lv_bipush (v := nI 10) xE xB dL_types_35 (by decide) ?_
  refine q_icmp_lt (tgt := 54) xE xB dL_types_37 (by decide) (by omega) (by omega) (fun c_37 => ?_) (fun c_37 => ?_)
  · skip
    refine lv_aload_n xE xB dL_types_54 rfl (lv_at xL 2 rfl) ?_
    refine lv_bipush (v := nI 48) xE xB dL_types_55 (by decide) ?_
    refine lv_iload_n xE xB dL_types_57 rfl (lv_at xL 0 rfl) ?_
    refine lv_bipush (v := nI 10) xE xB dL_types_58 (by decide) ?_
    refine q_irem xE xB dL_types_60 (by omega) (by omega) (by omega) ?_
    refine q_iadd xE xB dL_types_61 ?_
    refine q_VIL (As := [.int (nI (48 + (q % 10)))]) (rest := []) ⟨xE, xB, xM, xO, xT⟩ (kO_type2 l G oa n r k c o b ta tb tt (tl + 1) u_7 s T_7 (48 + (q % 10)) (by first | assumption | omega) (by first | assumption | omega) (by first | assumption | omega) (by first | assumption | omega)) (cwV 1 xT gL_types_X6_type rfl rfl rfl (by decide +kernel) ⟨Nat.le_of_ble_eq_true rfl, Nat.le_of_ble_eq_true rfl⟩) xK xP xD xS [0] [] 1 rfl (by decide) (Lc := [wO G oa u_7]) rfl rfl (fun u_62 => [wO G oa u_62]) (fun u_62 => [wO G oa u_62]) (fun _ => rfl) (fun _ => rfl) (fun _ => rfl) (fun _ => rfl) 0 rfl rfl rfl rfl xL.1 rfl (Nat.le_of_ble_eq_true rfl) dL_types_62 ⟨Nat.le_refl _, Nat.le_refl _⟩ (fun r_62 u_62 H locs h_62 xP xD xS => ?_)
    replace h_62 : r_62 = nI ((tl + 1) + 1) ∧ ∃ T', (∀ j, j < (tl + 1) → T' j = T_7 j) ∧ T' (tl + 1) = (48 + (q % 10)) ∧ OI n r k c o b ta tb tt u_62 s T' ((tl + 1) + 1) := h_62
    obtain ⟨q_62, h_62⟩ := h_62
    subst q_62
    obtain ⟨T_62, ha_62, hb_62, hI_62⟩ := h_62
    refine q_if_le (tgt := 72) xE xB dL_types_65 (by decide) (by omega) (fun c_65 => absurd c_65 (by omega)) (fun c_65 => ?_)
    refine lv_iconst (v := nI 1) xE xB dL_types_68 (by decide) ?_
    refine lv_goto (tgt := 73) xE xB dL_types_69 (by decide) ?_
    exact xQ _ _ _ _ _ _ (by exact ⟨rfl, _, _, hI_62, by omega, ty_n1 ha_7 hb_7 ha_62 hb_62 c_37⟩) (by decide) xP xD xS dL_types_73
  · skip
    refine lv_aload_n xE xB dL_types_40 rfl (lv_at xL 2 rfl) ?_
    refine lv_bipush (v := nI 48) xE xB dL_types_41 (by decide) ?_
    refine lv_iload_n xE xB dL_types_43 rfl (lv_at xL 0 rfl) ?_
    refine lv_bipush (v := nI 10) xE xB dL_types_44 (by decide) ?_
    refine q_idiv xE xB dL_types_46 (by omega) (by omega) (by omega) ?_
    refine q_iadd xE xB dL_types_47 ?_
    refine q_VIL (As := [.int (nI (48 + (q / 10)))]) (rest := []) ⟨xE, xB, xM, xO, xT⟩ (kO_type2 l G oa n r k c o b ta tb tt (tl + 1) u_7 s T_7 (48 + (q / 10)) (by first | assumption | omega) (by first | assumption | omega) (by first | assumption | omega) (by first | assumption | omega)) (cwV 1 xT gL_types_X6_type rfl rfl rfl (by decide +kernel) ⟨Nat.le_of_ble_eq_true rfl, Nat.le_of_ble_eq_true rfl⟩) xK xP xD xS [0] [] 1 rfl (by decide) (Lc := [wO G oa u_7]) rfl rfl (fun u_48 => [wO G oa u_48]) (fun u_48 => [wO G oa u_48]) (fun _ => rfl) (fun _ => rfl) (fun _ => rfl) (fun _ => rfl) 0 rfl rfl rfl rfl xL.1 rfl (Nat.le_of_ble_eq_true rfl) dL_types_48 ⟨Nat.le_refl _, Nat.le_refl _⟩ (fun r_48 u_48 H locs h_48 xP xD xS => ?_)
    replace h_48 : r_48 = nI ((tl + 1) + 1) ∧ ∃ T', (∀ j, j < (tl + 1) → T' j = T_7 j) ∧ T' (tl + 1) = (48 + (q / 10)) ∧ OI n r k c o b ta tb tt u_48 s T' ((tl + 1) + 1) := h_48
    obtain ⟨q_48, h_48⟩ := h_48
    subst q_48
    obtain ⟨T_48, ha_48, hb_48, hI_48⟩ := h_48
    refine q_if_le (tgt := 72) xE xB dL_types_51 (by decide) (by omega) (fun c_51 => absurd c_51 (by omega)) (fun c_51 => ?_)
    refine lv_aload_n xE xB dL_types_54 rfl (lv_at xL 2 rfl) ?_
    refine lv_bipush (v := nI 48) xE xB dL_types_55 (by decide) ?_
    refine lv_iload_n xE xB dL_types_57 rfl (lv_at xL 0 rfl) ?_
    refine lv_bipush (v := nI 10) xE xB dL_types_58 (by decide) ?_
    refine q_irem xE xB dL_types_60 (by omega) (by omega) (by omega) ?_
    refine q_iadd xE xB dL_types_61 ?_
    refine q_VIL (As := [.int (nI (48 + (q % 10)))]) (rest := []) ⟨xE, xB, xM, xO, xT⟩ (kO_type2 l G oa n r k c o b ta tb tt (tl + 1 + 1) u_48 s T_48 (48 + (q % 10)) (by first | assumption | omega) (by first | assumption | omega) (by first | assumption | omega) (by first | assumption | omega)) (cwV 1 xT gL_types_X6_type rfl rfl rfl (by decide +kernel) ⟨Nat.le_of_ble_eq_true rfl, Nat.le_of_ble_eq_true rfl⟩) xK xP xD xS [0] [] 1 rfl (by decide) (Lc := [wO G oa u_48]) rfl rfl (fun u_62 => [wO G oa u_62]) (fun u_62 => [wO G oa u_62]) (fun _ => rfl) (fun _ => rfl) (fun _ => rfl) (fun _ => rfl) 0 rfl rfl rfl rfl xL.1 rfl (Nat.le_of_ble_eq_true rfl) dL_types_62 ⟨Nat.le_refl _, Nat.le_refl _⟩ (fun r_62 u_62 H locs h_62 xP xD xS => ?_)
    replace h_62 : r_62 = nI ((tl + 1 + 1) + 1) ∧ ∃ T', (∀ j, j < (tl + 1 + 1) → T' j = T_48 j) ∧ T' (tl + 1 + 1) = (48 + (q % 10)) ∧ OI n r k c o b ta tb tt u_62 s T' ((tl + 1 + 1) + 1) := h_62
    obtain ⟨q_62, h_62⟩ := h_62
    subst q_62
    obtain ⟨T_62, ha_62, hb_62, hI_62⟩ := h_62
    refine q_if_le (tgt := 72) xE xB dL_types_65 (by decide) (by omega) (fun c_65 => absurd c_65 (by omega)) (fun c_65 => ?_)
    refine lv_iconst (v := nI 1) xE xB dL_types_68 (by decide) ?_
    refine lv_goto (tgt := 73) xE xB dL_types_69 (by decide) ?_
    exact xQ _ _ _ _ _ _ (by exact ⟨rfl, _, _, hI_62, by omega, ty_n2 ha_7 hb_7 ha_48 hb_48 ha_62 hb_62 hq⟩) (by decide) xP xD xS dL_types_73
theorem kL_types (l : Launch) (G : wG) (oa n r k c o b ta tb tt tl : Nat) (u : OD) (s : wF) (T : Nat → Nat) (v : Int32) (hI : OI n r k c o b ta tb tt u s T tl) (hl : tl + 3 ≤ 80) (hv : bV v) : CI (S := OD) l yL_types wsL_types (rm 2 42) G [.ref oa, .int v] (List.flatten [wO G oa u]) (fun x u9 => x = nI 1 ∧ ∃ T' tl', OI n r k c o b ta tb tt u9 s T' tl' ∧ (tl' ≤ tl + 3 ∧ tl < tl') ∧ TY tl T T' tl' v) (fun u9 => List.flatten [wO G oa u9]) := by
  rcases bV_c hv with ⟨q, h1, rfl⟩ | ⟨q, h1, h2, rfl⟩
  · exact kL_typesP l G oa n r k c o b ta tb tt tl u s T q hI hl h1
  · exact kL_typesN l G oa n r k c o b ta tb tt tl u s T q hI hl h1 h2
