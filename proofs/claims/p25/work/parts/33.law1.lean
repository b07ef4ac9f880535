/-! law1: the law's small methods -/
section QLEQ
variable {p : Program} {l : Launch} {e : Env} {R : Room} {s : State} {m : MethodId} {args : Array Value} {below : List Frame} {meth : Method} {c : Code} {H : Heap} {locs : List Loc} {cells slots : Nat} {Q : State → Prop}
theorem q_eqL {pc : Nat} {ls : Array Slot} {rest : List Value} {x y : Int64} (h : x = y) (k : W p l e R s m args below meth c H locs cells slots Q (F0 m pc ls (.long y :: rest))) : W p l e R s m args below meth c H locs cells slots Q (F0 m pc ls (.long x :: rest)) := by rw [h]; exact k
end QLEQ
theorem nb_1 {q : Nat → Int32} {kd : Int32} {k e : Nat} (he : e = if noneB q kd k = true then 1 else 0) (h : 0 < e) : 1 = if noneB q kd (k + 1) = true then 1 else 0 := by
  by_cases z : noneB q kd k = true
  · rw [if_pos (show noneB q kd (k + 1) = true by show (noneB q kd k || decide (q k = kd)) = true; rw [z]; rfl)]
  · rw [if_neg z] at he
    omega
theorem nb_2 {q : Nat → Int32} {kd : Int32} {k : Nat} (h : q k = kd) : 1 = if noneB q kd (k + 1) = true then 1 else 0 := by
  rw [if_pos (show noneB q kd (k + 1) = true by show (noneB q kd k || decide (q k = kd)) = true; rw [decide_eq_true h, Bool.or_true])]
theorem nb_3 {q : Nat → Int32} {kd : Int32} {k e : Nat} (he : e = if noneB q kd k = true then 1 else 0) (h : e = 0) (hq : ¬ q k = kd) : 0 = if noneB q kd (k + 1) = true then 1 else 0 := by
  by_cases z : noneB q kd k = true
  · rw [if_pos z] at he
    omega
  · rw [if_neg (show ¬ noneB q kd (k + 1) = true by show ¬ (noneB q kd k || decide (q k = kd)) = true; rw [decide_eq_false hq, Bool.or_false]; exact z)]
theorem nb_e {q : Nat → Int32} {kd : Int32} {k e : Nat} (he : e = if noneB q kd k = true then 1 else 0) : (nI e = nI 1 ∧ noneB q kd k = true) ∨ (nI e = nI 0 ∧ ¬ noneB q kd k = true) := by
  by_cases z : noneB q kd k = true
  · rw [if_pos z] at he
    exact Or.inl ⟨congrArg nI he, z⟩
  · rw [if_neg z] at he
    exact Or.inr ⟨congrArg nI he, z⟩
theorem al_1 {n x : Nat} (hn : 1 ≤ n ∧ n ≤ 4) (h : x % n = 0) : x / n = tls x n := by
  unfold tls
  rcases (show n = 1 ∨ n = 2 ∨ n = 3 ∨ n = 4 by omega) with rfl | rfl | rfl | rfl <;> omega
theorem al_2 {n x : Nat} (hn : 1 ≤ n ∧ n ≤ 4) (h : 0 < x % n) : x / n + 1 = tls x n := by
  unfold tls
  rcases (show n = 1 ∨ n = 2 ∨ n = 3 ∨ n = 4 by omega) with rfl | rfl | rfl | rfl <;> omega
theorem mod_lt4 {n x : Nat} (hn : 1 ≤ n ∧ n ≤ 4) : x % n < 4 := Nat.lt_of_lt_of_le (Nat.mod_lt x (by omega)) hn.2
theorem met_1 {i j t : Nat} (ht : t < 1000) (hi : i < 1000) (hj : j < 1000) (h : (0 : Int32) ≤ nI t - nI i - nI j) : i + j ≤ t := by
  rw [Int32.le_iff_toInt_le] at h
  have e1 : (nI t - nI i).toInt = (t : Int) - i := pk_sub_toInt (by omega) (by omega)
  have e2 : (nI t - nI i - nI j).toInt = (t : Int) - i - j := by
    rw [Int32.toInt_sub, e1, nI_toInt (by omega)]
    exact tI_bm (by omega) (by omega)
  rw [e2] at h
  have h0 : (0 : Int32).toInt = 0 := rfl
  omega
theorem met_2 {i j t : Nat} (h : i + j ≤ t) : nI t - nI i - nI j = nI (t - (i + j)) := by
  rw [pk_sub (by omega), pk_sub (by omega), Nat.sub_sub]
theorem on_1 {w : Nat} (hw : w < 2 ^ 36) (h : ¬ lg_cmp (lN w) (lN 0) = 0) : 0 < w := by
  rcases Nat.eq_zero_or_pos w with q | q
  · subst q
    exact absurd ((lg_cmp_eq _ _).mpr rfl) h
  · exact q
theorem on_2 {w : Nat} (hw : w < 2 ^ 36) (h : lg_cmp (lN w) (lN 0) = 0) : w = 0 := (pk_lEQ (by omega) (by decide)).mp ((lg_cmp_eq _ _).mp h)
theorem met_3 {i j t : Nat} (ht : t < 1000) (hi : i < 1000) (hj : j < 1000) (h : ¬ (0 : Int32) ≤ nI t - nI i - nI j) : t < i + j := by
  rcases Nat.lt_or_ge t (i + j) with q | q
  · exact q
  · rw [met_2 q] at h
    exact absurd (nI_pos' (by omega)) h

set_option maxHeartbeats 4000000 in
set_option maxRecDepth 100000 in
/-- kL_use -/
theorem kL_use (l : Launch) (G : wG) (fa : Nat) (f : wF) (i j o : Nat) (hi : i < 4) (hj : j < 4) (ho : o ≤ 4) : CR l yL_use wsL_use (rm 0 0) G [.ref fa, .int (nI i), .int (nI j), .int (nI o)] (List.flatten [[(fa, ai G 20 f)]]) (fun x => x = useF f o i j) := by
  refine CR.of (own := RL) rfl (by decide) rfl (Nat.le_of_ble_eq_true rfl) ?_
  intro p9 e9 s9 m9 b9 t9 c9 xE xB xM xO xT xK xP Q xQ ls hl
  have xL : lv_has ls 4 [(0, .ref fa), (1, .int (nI i)), (2, .int (nI j)), (3, .int (nI o))] := hl
  refine lv_aload_n xE xB dL_use_0 rfl (lv_at xL 0 rfl) ?_
  refine lv_iconst (v := nI 5) xE xB dL_use_1 (by decide) ?_
  refine lv_iload_n xE xB dL_use_2 rfl (lv_at xL 1 rfl) ?_
  refine q_imul xE xB dL_use_3 ?_
  refine lv_iload_n xE xB dL_use_4 rfl (lv_at xL 2 rfl) ?_
  refine lv_iload_n xE xB dL_use_5 rfl (lv_at xL 3 rfl) ?_
  refine q_icmp_ge (tgt := 13) xE xB dL_use_6 (by decide) (by omega) (by omega) (fun c_6 => ?_) (fun c_6 => ?_)
  · skip
    refine lv_iload_n xE xB dL_use_13 rfl (lv_at xL 2 rfl) ?_
    refine lv_iconst (v := nI 1) xE xB dL_use_14 (by decide) ?_
    refine q_iadd xE xB dL_use_15 ?_
    refine q_iadd xE xB dL_use_16 ?_
    refine q_ald xE xB xK xP 0 rfl (by omega) (by decide) dL_use_17 ?_
    exact xQ _ _ _ (by unfold useF; rw [if_neg (by omega)]) dL_use_18
  · skip
    refine lv_iload_n xE xB dL_use_9 rfl (lv_at xL 2 rfl) ?_
    refine lv_goto (tgt := 16) xE xB dL_use_10 (by decide) ?_
    refine q_iadd xE xB dL_use_16 ?_
    refine q_ald xE xB xK xP 0 rfl (by omega) (by decide) dL_use_17 ?_
    exact xQ _ _ _ (by unfold useF; rw [if_pos (by omega)]) dL_use_18
set_option maxHeartbeats 4000000 in
set_option maxRecDepth 100000 in
/-- kL_none3 -/
theorem kL_none3 (l : Launch) (G : wG) (fa : Nat) (f : wF) (i j o : Nat) (hi : i < 4) (hj : j < 4) (ho : o ≤ 4) : CR l yL_none wsL_none (rm 1 23) G [.ref fa, .int (nI i), .int (nI j), .int (nI o), .int (nI 3)] (List.flatten [[(fa, ai G 20 f)]]) (fun x => (x = nI 1 ∧ (NLf f o i j = true)) ∨ (x = nI 0 ∧ ¬ (NLf f o i j = true))) := by
  refine CR.ofZ (own := RL) rfl (by decide) rfl (Nat.le_of_ble_eq_true rfl) ?_
  intro p9 e9 s9 m9 b9 t9 c9 xE xB xM xO xT xK xP Q xQ ls hl
  have xL : lv_has ls 7 [(0, .ref fa), (1, .int (nI i)), (2, .int (nI j)), (3, .int (nI o)), (4, .int (nI 3))] := hl
  refine lv_iconst (v := nI 0) xE xB dL_none_0 (by decide) ?_
  refine lv_istore (lv' := [(5, .int (nI 0)), (0, .ref fa), (1, .int (nI i)), (2, .int (nI j)), (3, .int (nI o)), (4, .int (nI 3))]) xE xB dL_none_1 xL (by decide) rfl (fun ls xL => ?_)
  refine lv_iconst (v := nI 0) xE xB dL_none_3 (by decide) ?_
  refine lv_istore (lv' := [(6, .int (nI 0)), (5, .int (nI 0)), (0, .ref fa), (1, .int (nI i)), (2, .int (nI j)), (3, .int (nI o)), (4, .int (nI 3))]) xE xB dL_none_4 xL (by decide) rfl (fun ls xL => ?_)
  have L_6 : ∀ (n_6 : Nat) (k e : Nat), (k ≤ j) → (e = if noneB (fun q => useF f o i q) (nI 3) k = true then 1 else 0) → j - k < n_6 → ∀ (ls : Array Slot), lv_has ls 7 [(0, .ref fa), (1, .int (nI i)), (2, .int (nI j)), (3, .int (nI o)), (4, .int (nI 3)), (5, .int (nI e)), (6, .int (nI k))] → W p9 l e9 (rm 1 23) s9 m9 ([.ref fa, .int (nI i), .int (nI j), .int (nI o), .int (nI 3)] : List Value).toArray b9 t9 c9 s9.heap [] 0 0 Q (F0 m9 6 ls []) := by
    intro n_6
    induction n_6 with
    | zero => intro k e hk he hm_6 ls xL; exact absurd hm_6 (Nat.not_lt_zero _)
    | succ n_6 ih_6 =>
      intro k e hk he hm_6 ls xL
      refine lv_iload xE xB dL_none_6 (lv_at xL 6 rfl) ?_
      refine lv_iload xE xB dL_none_8 (lv_at xL 4 rfl) ?_
      refine lv_iconst (v := nI 3) xE xB dL_none_10 (by decide) ?_
      refine lv_icmp_ne (tgt := 18) xE xB dL_none_11 (by decide) (fun h9 => absurd (by decide) h9) (fun _ => ?_)
      refine lv_iload_n xE xB dL_none_14 rfl (lv_at xL 2 rfl) ?_
      refine lv_goto (tgt := 19) xE xB dL_none_15 (by decide) ?_
      refine q_icmp_ge (tgt := 74) xE xB dL_none_19 (by decide) (by omega) (by omega) (fun c_19 => ?_) (fun c_19 => ?_)
      · skip
        refine lv_iload xE xB dL_none_74 (lv_at xL 5 rfl) ?_
        exact xQ _ _ _ (by obtain rfl : k = j := (by omega); exact nb_e he) (by rw [he]; split <;> decide) dL_none_76
      · skip
        refine lv_iload xE xB dL_none_22 (lv_at xL 5 rfl) ?_
        refine q_if_ne (tgt := 61) xE xB dL_none_24 (by decide) (by rw [he]; split <;> decide) (fun c_24 => ?_) (fun c_24 => ?_)
        · skip
          refine lv_iconst (v := nI 1) xE xB dL_none_61 (by decide) ?_
          refine lv_goto (tgt := 66) xE xB dL_none_62 (by decide) ?_
          refine lv_istore (lv' := [(5, .int (nI 1)), (0, .ref fa), (1, .int (nI i)), (2, .int (nI j)), (3, .int (nI o)), (4, .int (nI 3)), (6, .int (nI k))]) xE xB dL_none_66 xL (by decide) rfl (fun ls xL => ?_)
          refine lv_iinc (v := nI (k + 1)) (lv' := [(6, .int (nI (k + 1))), (5, .int (nI 1)), (0, .ref fa), (1, .int (nI i)), (2, .int (nI j)), (3, .int (nI o)), (4, .int (nI 3))]) xE xB dL_none_68 xL (k := 6) rfl (q_inc _ _) (by decide) rfl (fun ls xL => ?_)
          refine lv_goto (tgt := 6) xE xB dL_none_71 (by decide) ?_
          exact ih_6 (k + 1) 1 (by omega) (by first | exact nb_1 he c_24 | exact nb_2 c_58 | exact nb_3 he c_24 c_58) (by omega) _ (lv_sub xL [2, 3, 4, 5, 6, 1, 0] rfl)
        · skip
          refine lv_aload_n xE xB dL_none_27 rfl (lv_at xL 0 rfl) ?_
          refine lv_iload xE xB dL_none_28 (lv_at xL 4 rfl) ?_
          refine lv_iconst (v := nI 3) xE xB dL_none_30 (by decide) ?_
          refine lv_icmp_ne (tgt := 38) xE xB dL_none_31 (by decide) (fun h9 => absurd (by decide) h9) (fun _ => ?_)
          refine lv_iload_n xE xB dL_none_34 rfl (lv_at xL 1 rfl) ?_
          refine lv_goto (tgt := 40) xE xB dL_none_35 (by decide) ?_
          refine lv_iload xE xB dL_none_40 (lv_at xL 4 rfl) ?_
          refine lv_iconst (v := nI 3) xE xB dL_none_42 (by decide) ?_
          refine lv_icmp_ne (tgt := 51) xE xB dL_none_43 (by decide) (fun h9 => absurd (by decide) h9) (fun _ => ?_)
          refine lv_iload xE xB dL_none_46 (lv_at xL 6 rfl) ?_
          refine lv_goto (tgt := 52) xE xB dL_none_48 (by decide) ?_
          refine lv_iload_n xE xB dL_none_52 rfl (lv_at xL 3 rfl) ?_
          refine q_SRL (As := [.ref fa, .int (nI i), .int (nI k), .int (nI o)]) (rest := []) ⟨xE, xB, xM, xO, xT⟩ (kL_use l G fa f i k o (by first | assumption | omega) (by first | assumption | omega) (by first | assumption | omega)) (va_cwS 4 xT gL_none_L_use rfl rfl rfl (by decide +kernel) ⟨Nat.le_of_ble_eq_true rfl, Nat.le_of_ble_eq_true rfl⟩) xK xP [0] [] 1 rfl (by decide) (Lc := [[(fa, ai G 20 f)]]) rfl rfl rfl xL.1 rfl (Nat.le_of_ble_eq_true rfl) dL_none_53 ⟨Nat.le_refl _, Nat.le_refl _⟩ (fun r_53 h_53 => ?_)
          obtain rfl : r_53 = useF f o i k := h_53
          refine lv_iload xE xB dL_none_56 (lv_at xL 4 rfl) ?_
          refine lv_icmp_ne (tgt := 65) xE xB dL_none_58 (by decide) (fun c_58 => ?_) (fun c_58 => ?_)
          · skip
            refine lv_iconst (v := nI 0) xE xB dL_none_65 (by decide) ?_
            refine lv_istore (lv' := [(5, .int (nI 0)), (0, .ref fa), (1, .int (nI i)), (2, .int (nI j)), (3, .int (nI o)), (4, .int (nI 3)), (6, .int (nI k))]) xE xB dL_none_66 xL (by decide) rfl (fun ls xL => ?_)
            refine lv_iinc (v := nI (k + 1)) (lv' := [(6, .int (nI (k + 1))), (5, .int (nI 0)), (0, .ref fa), (1, .int (nI i)), (2, .int (nI j)), (3, .int (nI o)), (4, .int (nI 3))]) xE xB dL_none_68 xL (k := 6) rfl (q_inc _ _) (by decide) rfl (fun ls xL => ?_)
            refine lv_goto (tgt := 6) xE xB dL_none_71 (by decide) ?_
            exact ih_6 (k + 1) 0 (by omega) (by first | exact nb_1 he c_24 | exact nb_2 c_58 | exact nb_3 he c_24 c_58) (by omega) _ (lv_sub xL [2, 3, 4, 5, 6, 1, 0] rfl)
          · skip
            refine lv_iconst (v := nI 1) xE xB dL_none_61 (by decide) ?_
            refine lv_goto (tgt := 66) xE xB dL_none_62 (by decide) ?_
            refine lv_istore (lv' := [(5, .int (nI 1)), (0, .ref fa), (1, .int (nI i)), (2, .int (nI j)), (3, .int (nI o)), (4, .int (nI 3)), (6, .int (nI k))]) xE xB dL_none_66 xL (by decide) rfl (fun ls xL => ?_)
            refine lv_iinc (v := nI (k + 1)) (lv' := [(6, .int (nI (k + 1))), (5, .int (nI 1)), (0, .ref fa), (1, .int (nI i)), (2, .int (nI j)), (3, .int (nI o)), (4, .int (nI 3))]) xE xB dL_none_68 xL (k := 6) rfl (q_inc _ _) (by decide) rfl (fun ls xL => ?_)
            refine lv_goto (tgt := 6) xE xB dL_none_71 (by decide) ?_
            exact ih_6 (k + 1) 1 (by omega) (by first | exact nb_1 he c_24 | exact nb_2 c_58 | exact nb_3 he c_24 c_58) (by omega) _ (lv_sub xL [2, 3, 4, 5, 6, 1, 0] rfl)
  exact L_6 (j - 0 + 1) 0 0 (by omega) (by rfl) (Nat.lt_succ_self _) _ (lv_sub xL [2, 3, 4, 5, 6, 1, 0] rfl)
set_option maxHeartbeats 4000000 in
set_option maxRecDepth 100000 in
/-- kL_none4 -/
theorem kL_none4 (l : Launch) (G : wG) (fa : Nat) (f : wF) (i j o : Nat) (hi : i < 4) (hj : j < 4) (ho : o ≤ 4) : CR l yL_none wsL_none (rm 1 23) G [.ref fa, .int (nI i), .int (nI j), .int (nI o), .int (nI 4)] (List.flatten [[(fa, ai G 20 f)]]) (fun x => (x = nI 1 ∧ (NAf f o i j = true)) ∨ (x = nI 0 ∧ ¬ (NAf f o i j = true))) := by
  refine CR.ofZ (own := RL) rfl (by decide) rfl (Nat.le_of_ble_eq_true rfl) ?_
  intro p9 e9 s9 m9 b9 t9 c9 xE xB xM xO xT xK xP Q xQ ls hl
  have xL : lv_has ls 7 [(0, .ref fa), (1, .int (nI i)), (2, .int (nI j)), (3, .int (nI o)), (4, .int (nI 4))] := hl
  refine lv_iconst (v := nI 0) xE xB dL_none_0 (by decide) ?_
  refine lv_istore (lv' := [(5, .int (nI 0)), (0, .ref fa), (1, .int (nI i)), (2, .int (nI j)), (3, .int (nI o)), (4, .int (nI 4))]) xE xB dL_none_1 xL (by decide) rfl (fun ls xL => ?_)
  refine lv_iconst (v := nI 0) xE xB dL_none_3 (by decide) ?_
  refine lv_istore (lv' := [(6, .int (nI 0)), (5, .int (nI 0)), (0, .ref fa), (1, .int (nI i)), (2, .int (nI j)), (3, .int (nI o)), (4, .int (nI 4))]) xE xB dL_none_4 xL (by decide) rfl (fun ls xL => ?_)
  have L_6 : ∀ (n_6 : Nat) (k e : Nat), (k ≤ i) → (e = if noneB (fun q => useF f o q j) (nI 4) k = true then 1 else 0) → i - k < n_6 → ∀ (ls : Array Slot), lv_has ls 7 [(0, .ref fa), (1, .int (nI i)), (2, .int (nI j)), (3, .int (nI o)), (4, .int (nI 4)), (5, .int (nI e)), (6, .int (nI k))] → W p9 l e9 (rm 1 23) s9 m9 ([.ref fa, .int (nI i), .int (nI j), .int (nI o), .int (nI 4)] : List Value).toArray b9 t9 c9 s9.heap [] 0 0 Q (F0 m9 6 ls []) := by
    intro n_6
    induction n_6 with
    | zero => intro k e hk he hm_6 ls xL; exact absurd hm_6 (Nat.not_lt_zero _)
    | succ n_6 ih_6 =>
      intro k e hk he hm_6 ls xL
      refine lv_iload xE xB dL_none_6 (lv_at xL 6 rfl) ?_
      refine lv_iload xE xB dL_none_8 (lv_at xL 4 rfl) ?_
      refine lv_iconst (v := nI 3) xE xB dL_none_10 (by decide) ?_
      refine lv_icmp_ne (tgt := 18) xE xB dL_none_11 (by decide) (fun _ => ?_) (fun h9 => absurd h9 (by decide))
      refine lv_iload_n xE xB dL_none_18 rfl (lv_at xL 1 rfl) ?_
      refine q_icmp_ge (tgt := 74) xE xB dL_none_19 (by decide) (by omega) (by omega) (fun c_19 => ?_) (fun c_19 => ?_)
      · skip
        refine lv_iload xE xB dL_none_74 (lv_at xL 5 rfl) ?_
        exact xQ _ _ _ (by obtain rfl : k = i := (by omega); exact nb_e he) (by rw [he]; split <;> decide) dL_none_76
      · skip
        refine lv_iload xE xB dL_none_22 (lv_at xL 5 rfl) ?_
        refine q_if_ne (tgt := 61) xE xB dL_none_24 (by decide) (by rw [he]; split <;> decide) (fun c_24 => ?_) (fun c_24 => ?_)
        · skip
          refine lv_iconst (v := nI 1) xE xB dL_none_61 (by decide) ?_
          refine lv_goto (tgt := 66) xE xB dL_none_62 (by decide) ?_
          refine lv_istore (lv' := [(5, .int (nI 1)), (0, .ref fa), (1, .int (nI i)), (2, .int (nI j)), (3, .int (nI o)), (4, .int (nI 4)), (6, .int (nI k))]) xE xB dL_none_66 xL (by decide) rfl (fun ls xL => ?_)
          refine lv_iinc (v := nI (k + 1)) (lv' := [(6, .int (nI (k + 1))), (5, .int (nI 1)), (0, .ref fa), (1, .int (nI i)), (2, .int (nI j)), (3, .int (nI o)), (4, .int (nI 4))]) xE xB dL_none_68 xL (k := 6) rfl (q_inc _ _) (by decide) rfl (fun ls xL => ?_)
          refine lv_goto (tgt := 6) xE xB dL_none_71 (by decide) ?_
          exact ih_6 (k + 1) 1 (by omega) (by first | exact nb_1 he c_24 | exact nb_2 c_58 | exact nb_3 he c_24 c_58) (by omega) _ (lv_sub xL [2, 3, 4, 5, 6, 1, 0] rfl)
        · skip
          refine lv_aload_n xE xB dL_none_27 rfl (lv_at xL 0 rfl) ?_
          refine lv_iload xE xB dL_none_28 (lv_at xL 4 rfl) ?_
          refine lv_iconst (v := nI 3) xE xB dL_none_30 (by decide) ?_
          refine lv_icmp_ne (tgt := 38) xE xB dL_none_31 (by decide) (fun _ => ?_) (fun h9 => absurd h9 (by decide))
          refine lv_iload xE xB dL_none_38 (lv_at xL 6 rfl) ?_
          refine lv_iload xE xB dL_none_40 (lv_at xL 4 rfl) ?_
          refine lv_iconst (v := nI 3) xE xB dL_none_42 (by decide) ?_
          refine lv_icmp_ne (tgt := 51) xE xB dL_none_43 (by decide) (fun _ => ?_) (fun h9 => absurd h9 (by decide))
          refine lv_iload_n xE xB dL_none_51 rfl (lv_at xL 2 rfl) ?_
          refine lv_iload_n xE xB dL_none_52 rfl (lv_at xL 3 rfl) ?_
          refine q_SRL (As := [.ref fa, .int (nI k), .int (nI j), .int (nI o)]) (rest := []) ⟨xE, xB, xM, xO, xT⟩ (kL_use l G fa f k j o (by first | assumption | omega) (by first | assumption | omega) (by first | assumption | omega)) (va_cwS 4 xT gL_none_L_use rfl rfl rfl (by decide +kernel) ⟨Nat.le_of_ble_eq_true rfl, Nat.le_of_ble_eq_true rfl⟩) xK xP [0] [] 1 rfl (by decide) (Lc := [[(fa, ai G 20 f)]]) rfl rfl rfl xL.1 rfl (Nat.le_of_ble_eq_true rfl) dL_none_53 ⟨Nat.le_refl _, Nat.le_refl _⟩ (fun r_53 h_53 => ?_)
          obtain rfl : r_53 = useF f o k j := h_53
          refine lv_iload xE xB dL_none_56 (lv_at xL 4 rfl) ?_
          refine lv_icmp_ne (tgt := 65) xE xB dL_none_58 (by decide) (fun c_58 => ?_) (fun c_58 => ?_)
          · skip
            refine lv_iconst (v := nI 0) xE xB dL_none_65 (by decide) ?_
            refine lv_istore (lv' := [(5, .int (nI 0)), (0, .ref fa), (1, .int (nI i)), (2, .int (nI j)), (3, .int (nI o)), (4, .int (nI 4)), (6, .int (nI k))]) xE xB dL_none_66 xL (by decide) rfl (fun ls xL => ?_)
            refine lv_iinc (v := nI (k + 1)) (lv' := [(6, .int (nI (k + 1))), (5, .int (nI 0)), (0, .ref fa), (1, .int (nI i)), (2, .int (nI j)), (3, .int (nI o)), (4, .int (nI 4))]) xE xB dL_none_68 xL (k := 6) rfl (q_inc _ _) (by decide) rfl (fun ls xL => ?_)
            refine lv_goto (tgt := 6) xE xB dL_none_71 (by decide) ?_
            exact ih_6 (k + 1) 0 (by omega) (by first | exact nb_1 he c_24 | exact nb_2 c_58 | exact nb_3 he c_24 c_58) (by omega) _ (lv_sub xL [2, 3, 4, 5, 6, 1, 0] rfl)
          · skip
            refine lv_iconst (v := nI 1) xE xB dL_none_61 (by decide) ?_
            refine lv_goto (tgt := 66) xE xB dL_none_62 (by decide) ?_
            refine lv_istore (lv' := [(5, .int (nI 1)), (0, .ref fa), (1, .int (nI i)), (2, .int (nI j)), (3, .int (nI o)), (4, .int (nI 4)), (6, .int (nI k))]) xE xB dL_none_66 xL (by decide) rfl (fun ls xL => ?_)
            refine lv_iinc (v := nI (k + 1)) (lv' := [(6, .int (nI (k + 1))), (5, .int (nI 1)), (0, .ref fa), (1, .int (nI i)), (2, .int (nI j)), (3, .int (nI o)), (4, .int (nI 4))]) xE xB dL_none_68 xL (k := 6) rfl (q_inc _ _) (by decide) rfl (fun ls xL => ?_)
            refine lv_goto (tgt := 6) xE xB dL_none_71 (by decide) ?_
            exact ih_6 (k + 1) 1 (by omega) (by first | exact nb_1 he c_24 | exact nb_2 c_58 | exact nb_3 he c_24 c_58) (by omega) _ (lv_sub xL [2, 3, 4, 5, 6, 1, 0] rfl)
  exact L_6 (i - 0 + 1) 0 0 (by omega) (by rfl) (Nat.lt_succ_self _) _ (lv_sub xL [2, 3, 4, 5, 6, 1, 0] rfl)
set_option maxHeartbeats 4000000 in
set_option maxRecDepth 100000 in
/-- kL_met -/
theorem kL_met (l : Launch) (G : wG) (ga : Nat) (g : wF) (i j t k : Nat) (hg2 : g 2 = nI k) (hi : i < 4) (hj : j < 4) (ht : t < 100) (hk : k ≤ 6) : CR l yL_met wsL_met (rm 0 0) G [.ref ga, .int (nI i), .int (nI j), .int (nI t)] (List.flatten [[(ga, ai G 9 g)]]) (fun x => x = nI (metN k i j t)) := by
  refine CR.of (own := RL) rfl (by decide) rfl (Nat.le_of_ble_eq_true rfl) ?_
  intro p9 e9 s9 m9 b9 t9 c9 xE xB xM xO xT xK xP Q xQ ls hl
  have xL : lv_has ls 5 [(0, .ref ga), (1, .int (nI i)), (2, .int (nI j)), (3, .int (nI t))] := hl
  refine lv_iload_n xE xB dL_met_0 rfl (lv_at xL 3 rfl) ?_
  refine lv_iload_n xE xB dL_met_1 rfl (lv_at xL 1 rfl) ?_
  refine lv_isub xE xB dL_met_2 ?_
  refine lv_iload_n xE xB dL_met_3 rfl (lv_at xL 2 rfl) ?_
  refine lv_isub xE xB dL_met_4 ?_
  refine lv_istore (lv' := [(4, .int (((nI t) - (nI i)) - (nI j))), (0, .ref ga), (1, .int (nI i)), (2, .int (nI j)), (3, .int (nI t))]) xE xB dL_met_5 xL (by decide) rfl (fun ls xL => ?_)
  refine lv_iload xE xB dL_met_7 (lv_at xL 0 rfl) ?_
  refine lv_if_ge (tgt := 16) xE xB dL_met_9 (by decide) (fun c_9 => ?_) (fun c_9 => ?_)
  · skip
    refine lv_iload xE xB dL_met_16 (lv_at xL 0 rfl) ?_
    refine q_eq (y := nI (t - (i + j))) (met_2 (met_1 (by omega) (by omega) (by omega) c_9)) ?_
    refine lv_aload_n xE xB dL_met_18 rfl (lv_at xL 1 rfl) ?_
    refine lv_iconst (v := nI 2) xE xB dL_met_19 (by decide) ?_
    refine q_ald xE xB xK xP 0 rfl (by omega) (by decide) dL_met_20 ?_
    refine q_eq (y := nI k) (hg2) ?_
    refine q_icmp_le (tgt := 30) xE xB dL_met_21 (by decide) (by omega) (by omega) (fun c_21 => ?_) (fun c_21 => ?_)
    · skip
      refine lv_iload xE xB dL_met_30 (lv_at xL 0 rfl) ?_
      refine q_eq (y := nI (t - (i + j))) (met_2 (met_1 (by omega) (by omega) (by omega) c_9)) ?_
      exact xQ _ _ _ (by have := met_1 (by omega) (by omega) (by omega) c_9; exact congrArg nI (by unfold metN; omega)) dL_met_32
    · skip
      refine lv_aload_n xE xB dL_met_24 rfl (lv_at xL 1 rfl) ?_
      refine lv_iconst (v := nI 2) xE xB dL_met_25 (by decide) ?_
      refine q_ald xE xB xK xP 0 rfl (by omega) (by decide) dL_met_26 ?_
      refine q_eq (y := nI k) (hg2) ?_
      refine lv_goto (tgt := 32) xE xB dL_met_27 (by decide) ?_
      exact xQ _ _ _ (by exact congrArg nI (by unfold metN; omega)) dL_met_32
  · skip
    refine lv_iconst (v := nI 0) xE xB dL_met_12 (by decide) ?_
    refine lv_goto (tgt := 32) xE xB dL_met_13 (by decide) ?_
    exact xQ _ _ _ (by have := met_3 (by omega) (by omega) (by omega) c_9; exact congrArg nI (by unfold metN; omega)) dL_met_32
set_option maxHeartbeats 4000000 in
set_option maxRecDepth 100000 in
/-- kL_sum -/
theorem kL_sum (l : Launch) (G : wG) (ga aa ba fa : Nat) (g a b f : wF) (n o row col m : Nat) (hg0 : g 0 = nI n) (hn : 1 ≤ n ∧ n ≤ 4) (ho : o ≤ 4) (hr : row < 6) (hc : col < 6) (hm : m ≤ 6) : CR l yL_sum wsL_sum (rm 2 49) G [.ref ga, .ref aa, .ref ba, .ref fa, .int (nI row), .int (nI col), .int (nI o), .int (nI m)] (List.flatten [[(ga, ai G 9 g)], [(aa, ai G 36 a)], [(ba, ai G 36 b)], [(fa, ai G 20 f)]]) (fun x => x = sumV a b f o (row % n) (col % n) row col m) := by
  refine CR.of (own := RL) rfl (by decide) rfl (Nat.le_of_ble_eq_true rfl) ?_
  intro p9 e9 s9 m9 b9 t9 c9 xE xB xM xO xT xK xP Q xQ ls hl
  have xL : lv_has ls 13 [(0, .ref ga), (1, .ref aa), (2, .ref ba), (3, .ref fa), (4, .int (nI row)), (5, .int (nI col)), (6, .int (nI o)), (7, .int (nI m))] := hl
  have hi4 : row % n < 4 := mod_lt4 hn
  have hj4 : col % n < 4 := mod_lt4 hn
  refine lv_iload xE xB dL_sum_0 (lv_at xL 4 rfl) ?_
  refine lv_aload_n xE xB dL_sum_2 rfl (lv_at xL 0 rfl) ?_
  refine lv_iconst (v := nI 0) xE xB dL_sum_3 (by decide) ?_
  refine q_ald xE xB xK xP 0 rfl (by omega) (by decide) dL_sum_4 ?_
  refine q_eq (y := nI n) (hg0) ?_
  refine q_irem xE xB dL_sum_5 (by omega) (by omega) (by omega) ?_
  refine lv_istore (lv' := [(8, .int (nI (row % n))), (0, .ref ga), (1, .ref aa), (2, .ref ba), (3, .ref fa), (4, .int (nI row)), (5, .int (nI col)), (6, .int (nI o)), (7, .int (nI m))]) xE xB dL_sum_6 xL (by decide) rfl (fun ls xL => ?_)
  refine lv_iload xE xB dL_sum_8 (lv_at xL 6 rfl) ?_
  refine lv_aload_n xE xB dL_sum_10 rfl (lv_at xL 1 rfl) ?_
  refine lv_iconst (v := nI 0) xE xB dL_sum_11 (by decide) ?_
  refine q_ald xE xB xK xP 0 rfl (by omega) (by decide) dL_sum_12 ?_
  refine q_eq (y := nI n) (hg0) ?_
  refine q_irem xE xB dL_sum_13 (by omega) (by omega) (by omega) ?_
  refine lv_istore (lv' := [(9, .int (nI (col % n))), (8, .int (nI (row % n))), (0, .ref ga), (1, .ref aa), (2, .ref ba), (3, .ref fa), (4, .int (nI row)), (5, .int (nI col)), (6, .int (nI o)), (7, .int (nI m))]) xE xB dL_sum_14 xL (by decide) rfl (fun ls xL => ?_)
  refine lv_aload_n xE xB dL_sum_16 rfl (lv_at xL 5 rfl) ?_
  refine lv_iload xE xB dL_sum_17 (lv_at xL 1 rfl) ?_
  refine lv_iload xE xB dL_sum_19 (lv_at xL 0 rfl) ?_
  refine lv_iload xE xB dL_sum_21 (lv_at xL 8 rfl) ?_
  refine q_SRL (As := [.ref fa, .int (nI (row % n)), .int (nI (col % n)), .int (nI o)]) (rest := []) ⟨xE, xB, xM, xO, xT⟩ (kL_use l G fa f (row % n) (col % n) o (by first | assumption | omega) (by first | assumption | omega) (by first | assumption | omega)) (va_cwS 4 xT gL_sum_L_use rfl rfl rfl (by decide +kernel) ⟨Nat.le_of_ble_eq_true rfl, Nat.le_of_ble_eq_true rfl⟩) xK xP [3] [0, 1, 2] 4 rfl (by decide) (Lc := [[(fa, ai G 20 f)]]) rfl rfl rfl xL.1 rfl (Nat.le_of_ble_eq_true rfl) dL_sum_23 ⟨Nat.le_refl _, Nat.le_refl _⟩ (fun r_23 h_23 => ?_)
  obtain rfl : r_23 = useF f o (row % n) (col % n) := h_23
  refine lv_istore (lv' := [(10, .int (useF f o (row % n) (col % n))), (9, .int (nI (col % n))), (8, .int (nI (row % n))), (0, .ref ga), (1, .ref aa), (2, .ref ba), (3, .ref fa), (4, .int (nI row)), (5, .int (nI col)), (6, .int (nI o)), (7, .int (nI m))]) xE xB dL_sum_26 xL (by decide) rfl (fun ls xL => ?_)
  refine lv_iconst (v := nI 0) xE xB dL_sum_28 (by decide) ?_
  refine lv_istore (lv' := [(11, .int (nI 0)), (10, .int (useF f o (row % n) (col % n))), (9, .int (nI (col % n))), (8, .int (nI (row % n))), (0, .ref ga), (1, .ref aa), (2, .ref ba), (3, .ref fa), (4, .int (nI row)), (5, .int (nI col)), (6, .int (nI o)), (7, .int (nI m))]) xE xB dL_sum_29 xL (by decide) rfl (fun ls xL => ?_)
  refine lv_iconst (v := nI 0) xE xB dL_sum_31 (by decide) ?_
  refine lv_istore (lv' := [(12, .int (nI 0)), (11, .int (nI 0)), (10, .int (useF f o (row % n) (col % n))), (9, .int (nI (col % n))), (8, .int (nI (row % n))), (0, .ref ga), (1, .ref aa), (2, .ref ba), (3, .ref fa), (4, .int (nI row)), (5, .int (nI col)), (6, .int (nI o)), (7, .int (nI m))]) xE xB dL_sum_32 xL (by decide) rfl (fun ls xL => ?_)
  have L_34 : ∀ (n_34 : Nat) (k : Nat) (v : Int32), (k ≤ m) → (v = dotV a b row col k) → m - k < n_34 → ∀ (ls : Array Slot), lv_has ls 13 [(0, .ref ga), (1, .ref aa), (2, .ref ba), (3, .ref fa), (4, .int (nI row)), (5, .int (nI col)), (6, .int (nI o)), (7, .int (nI m)), (8, .int (nI (row % n))), (9, .int (nI (col % n))), (10, .int (useF f o (row % n) (col % n))), (11, .int v), (12, .int (nI k))] → W p9 l e9 (rm 2 49) s9 m9 ([.ref ga, .ref aa, .ref ba, .ref fa, .int (nI row), .int (nI col), .int (nI o), .int (nI m)] : List Value).toArray b9 t9 c9 s9.heap [] 0 0 Q (F0 m9 34 ls []) := by
    intro n_34
    induction n_34 with
    | zero => intro k v hk hv hm_34 ls xL; exact absurd hm_34 (Nat.not_lt_zero _)
    | succ n_34 ih_34 =>
      intro k v hk hv hm_34 ls xL
      refine lv_iload xE xB dL_sum_34 (lv_at xL 12 rfl) ?_
      refine lv_iload xE xB dL_sum_36 (lv_at xL 7 rfl) ?_
      refine q_icmp_ge (tgt := 73) xE xB dL_sum_38 (by decide) (by omega) (by omega) (fun c_38 => ?_) (fun c_38 => ?_)
      · skip
        obtain rfl : k = m := (by omega)
        refine lv_iload xE xB dL_sum_73 (lv_at xL 10 rfl) ?_
        refine lv_iconst (v := nI 1) xE xB dL_sum_75 (by decide) ?_
        refine lv_icmp_eq (tgt := 107) xE xB dL_sum_76 (by decide) (fun c_76 => ?_) (fun c_76 => ?_)
        · skip
          refine lv_iconst (v := nI 0) xE xB dL_sum_107 (by decide) ?_
          refine lv_goto (tgt := 126) xE xB dL_sum_108 (by decide) ?_
          exact xQ _ _ _ (by exact (if_pos (Or.inl c_76)).symm) dL_sum_126
        · skip
          refine lv_aload_n xE xB dL_sum_79 rfl (lv_at xL 3 rfl) ?_
          refine lv_iload xE xB dL_sum_80 (lv_at xL 8 rfl) ?_
          refine lv_iload xE xB dL_sum_82 (lv_at xL 9 rfl) ?_
          refine lv_iload xE xB dL_sum_84 (lv_at xL 6 rfl) ?_
          refine lv_iconst (v := nI 3) xE xB dL_sum_86 (by decide) ?_
          refine q_SRL (As := [.ref fa, .int (nI (row % n)), .int (nI (col % n)), .int (nI o), .int (nI 3)]) (rest := []) ⟨xE, xB, xM, xO, xT⟩ (kL_none3 l G fa f (row % n) (col % n) o (by first | assumption | omega) (by first | assumption | omega) (by first | assumption | omega)) (va_cwS 5 xT gL_sum_L_none rfl rfl rfl (by decide +kernel) ⟨Nat.le_of_ble_eq_true rfl, Nat.le_of_ble_eq_true rfl⟩) xK xP [3] [0, 1, 2] 4 rfl (by decide) (Lc := [[(fa, ai G 20 f)]]) rfl rfl rfl xL.1 rfl (Nat.le_of_ble_eq_true rfl) dL_sum_87 ⟨Nat.le_refl _, Nat.le_refl _⟩ (fun r_87 h_87 => ?_)
          rcases h_87 with ⟨h_87, c_87⟩ | ⟨h_87, c_87⟩
          · skip
            subst h_87
            have c_87 : NLf f o (row % n) (col % n) = true := c_87
            refine lv_if_ne (tgt := 107) xE xB dL_sum_90 (by decide) (fun _ => ?_) (fun h9 => absurd h9 (by decide))
            refine lv_iconst (v := nI 0) xE xB dL_sum_107 (by decide) ?_
            refine lv_goto (tgt := 126) xE xB dL_sum_108 (by decide) ?_
            exact xQ _ _ _ (by exact (if_pos (Or.inr (Or.inl c_87))).symm) dL_sum_126
          · skip
            subst h_87
            have c_87 : ¬ (NLf f o (row % n) (col % n) = true) := c_87
            refine lv_if_ne (tgt := 107) xE xB dL_sum_90 (by decide) (fun h9 => absurd (by decide) h9) (fun _ => ?_)
            refine lv_aload_n xE xB dL_sum_93 rfl (lv_at xL 3 rfl) ?_
            refine lv_iload xE xB dL_sum_94 (lv_at xL 8 rfl) ?_
            refine lv_iload xE xB dL_sum_96 (lv_at xL 9 rfl) ?_
            refine lv_iload xE xB dL_sum_98 (lv_at xL 6 rfl) ?_
            refine lv_iconst (v := nI 4) xE xB dL_sum_100 (by decide) ?_
            refine q_SRL (As := [.ref fa, .int (nI (row % n)), .int (nI (col % n)), .int (nI o), .int (nI 4)]) (rest := []) ⟨xE, xB, xM, xO, xT⟩ (kL_none4 l G fa f (row % n) (col % n) o (by first | assumption | omega) (by first | assumption | omega) (by first | assumption | omega)) (va_cwS 5 xT gL_sum_L_none rfl rfl rfl (by decide +kernel) ⟨Nat.le_of_ble_eq_true rfl, Nat.le_of_ble_eq_true rfl⟩) xK xP [3] [0, 1, 2] 4 rfl (by decide) (Lc := [[(fa, ai G 20 f)]]) rfl rfl rfl xL.1 rfl (Nat.le_of_ble_eq_true rfl) dL_sum_101 ⟨Nat.le_refl _, Nat.le_refl _⟩ (fun r_101 h_101 => ?_)
            rcases h_101 with ⟨h_101, c_101⟩ | ⟨h_101, c_101⟩
            · skip
              subst h_101
              have c_101 : NAf f o (row % n) (col % n) = true := c_101
              refine lv_if_eq (tgt := 111) xE xB dL_sum_104 (by decide) (fun h9 => absurd h9 (by decide)) (fun _ => ?_)
              refine lv_iconst (v := nI 0) xE xB dL_sum_107 (by decide) ?_
              refine lv_goto (tgt := 126) xE xB dL_sum_108 (by decide) ?_
              exact xQ _ _ _ (by exact (if_pos (Or.inr (Or.inr c_101))).symm) dL_sum_126
            · skip
              subst h_101
              have c_101 : ¬ (NAf f o (row % n) (col % n) = true) := c_101
              refine lv_if_eq (tgt := 111) xE xB dL_sum_104 (by decide) (fun _ => ?_) (fun h9 => absurd (by decide) h9)
              refine lv_iload xE xB dL_sum_111 (lv_at xL 10 rfl) ?_
              refine lv_iconst (v := nI 2) xE xB dL_sum_113 (by decide) ?_
              refine lv_icmp_ne (tgt := 124) xE xB dL_sum_114 (by decide) (fun c_114 => ?_) (fun c_114 => ?_)
              · skip
                refine lv_iload xE xB dL_sum_124 (lv_at xL 11 rfl) ?_
                exact xQ _ _ _ (by rw [hv]; exact ((if_neg (by rintro (q | q | q) <;> contradiction)).trans (if_neg c_114)).symm) dL_sum_126
              · skip
                refine lv_iconst (v := nI 2) xE xB dL_sum_117 (by decide) ?_
                refine lv_iload xE xB dL_sum_118 (lv_at xL 11 rfl) ?_
                refine lv_imul xE xB dL_sum_120 ?_
                refine lv_goto (tgt := 126) xE xB dL_sum_121 (by decide) ?_
                exact xQ _ _ _ (by rw [hv]; exact ((if_neg (by rintro (q | q | q) <;> contradiction)).trans (if_pos c_114)).symm) dL_sum_126
      · skip
        refine lv_iload xE xB dL_sum_41 (lv_at xL 11 rfl) ?_
        refine lv_aload_n xE xB dL_sum_43 rfl (lv_at xL 1 rfl) ?_
        refine lv_bipush (v := nI 6) xE xB dL_sum_44 (by decide) ?_
        refine lv_iload xE xB dL_sum_46 (lv_at xL 4 rfl) ?_
        refine q_imul xE xB dL_sum_48 ?_
        refine lv_iload xE xB dL_sum_49 (lv_at xL 12 rfl) ?_
        refine q_iadd xE xB dL_sum_51 ?_
        refine q_ald xE xB xK xP 1 rfl (by omega) (by decide) dL_sum_52 ?_
        refine lv_aload_n xE xB dL_sum_53 rfl (lv_at xL 2 rfl) ?_
        refine lv_bipush (v := nI 6) xE xB dL_sum_54 (by decide) ?_
        refine lv_iload xE xB dL_sum_56 (lv_at xL 12 rfl) ?_
        refine q_imul xE xB dL_sum_58 ?_
        refine lv_iload xE xB dL_sum_59 (lv_at xL 5 rfl) ?_
        refine q_iadd xE xB dL_sum_61 ?_
        refine q_ald xE xB xK xP 2 rfl (by omega) (by decide) dL_sum_62 ?_
        refine lv_imul xE xB dL_sum_63 ?_
        refine lv_iadd xE xB dL_sum_64 ?_
        refine lv_istore (lv' := [(11, .int (v + ((a ((6 * row) + k)) * (b ((6 * k) + col))))), (0, .ref ga), (1, .ref aa), (2, .ref ba), (3, .ref fa), (4, .int (nI row)), (5, .int (nI col)), (6, .int (nI o)), (7, .int (nI m)), (8, .int (nI (row % n))), (9, .int (nI (col % n))), (10, .int (useF f o (row % n) (col % n))), (12, .int (nI k))]) xE xB dL_sum_65 xL (by decide) rfl (fun ls xL => ?_)
        refine lv_iinc (v := nI (k + 1)) (lv' := [(12, .int (nI (k + 1))), (11, .int (v + ((a ((6 * row) + k)) * (b ((6 * k) + col))))), (0, .ref ga), (1, .ref aa), (2, .ref ba), (3, .ref fa), (4, .int (nI row)), (5, .int (nI col)), (6, .int (nI o)), (7, .int (nI m)), (8, .int (nI (row % n))), (9, .int (nI (col % n))), (10, .int (useF f o (row % n) (col % n)))]) xE xB dL_sum_67 xL (k := 12) rfl (q_inc _ _) (by decide) rfl (fun ls xL => ?_)
        refine lv_goto (tgt := 34) xE xB dL_sum_70 (by decide) ?_
        exact ih_34 (k + 1) (v + ((a ((6 * row) + k)) * (b ((6 * k) + col)))) (by omega) (by rw [hv]; rfl) (by omega) _ (lv_sub xL [2, 3, 4, 5, 6, 7, 8, 9, 10, 11, 12, 1, 0] rfl)
  exact L_34 (m - 0 + 1) 0 (nI 0) (by omega) (by rfl) (Nat.lt_succ_self _) _ (lv_sub xL [5, 6, 7, 8, 9, 10, 11, 12, 4, 3, 2, 1, 0] rfl)
set_option maxHeartbeats 4000000 in
set_option maxRecDepth 100000 in
/-- kL_due -/
theorem kL_due (l : Launch) (G : wG) (ga aa ba : Nat) (g a b : wF) (k row col : Nat) (hg2 : g 2 = nI k) (hk : k ≤ 6) (hr : row < 6) (hc : col < 6) : CR l yL_due wsL_due (rm 0 0) G [.ref ga, .ref aa, .ref ba, .int (nI row), .int (nI col)] (List.flatten [[(ga, ai G 9 g)], [(aa, ai G 36 a)], [(ba, ai G 36 b)]]) (fun x => x = dotV a b row col k) := by
  refine CR.of (own := RL) rfl (by decide) rfl (Nat.le_of_ble_eq_true rfl) ?_
  intro p9 e9 s9 m9 b9 t9 c9 xE xB xM xO xT xK xP Q xQ ls hl
  have xL : lv_has ls 7 [(0, .ref ga), (1, .ref aa), (2, .ref ba), (3, .int (nI row)), (4, .int (nI col))] := hl
  refine lv_iconst (v := nI 0) xE xB dL_due_0 (by decide) ?_
  refine lv_istore (lv' := [(5, .int (nI 0)), (0, .ref ga), (1, .ref aa), (2, .ref ba), (3, .int (nI row)), (4, .int (nI col))]) xE xB dL_due_1 xL (by decide) rfl (fun ls xL => ?_)
  refine lv_iconst (v := nI 0) xE xB dL_due_3 (by decide) ?_
  refine lv_istore (lv' := [(6, .int (nI 0)), (5, .int (nI 0)), (0, .ref ga), (1, .ref aa), (2, .ref ba), (3, .int (nI row)), (4, .int (nI col))]) xE xB dL_due_4 xL (by decide) rfl (fun ls xL => ?_)
  have L_6 : ∀ (n_6 : Nat) (q : Nat) (v : Int32), (q ≤ k) → (v = dotV a b row col q) → k - q < n_6 → ∀ (ls : Array Slot), lv_has ls 7 [(0, .ref ga), (1, .ref aa), (2, .ref ba), (3, .int (nI row)), (4, .int (nI col)), (5, .int v), (6, .int (nI q))] → W p9 l e9 (rm 0 0) s9 m9 ([.ref ga, .ref aa, .ref ba, .int (nI row), .int (nI col)] : List Value).toArray b9 t9 c9 s9.heap [] 0 0 Q (F0 m9 6 ls []) := by
    intro n_6
    induction n_6 with
    | zero => intro q v hq hv hm_6 ls xL; exact absurd hm_6 (Nat.not_lt_zero _)
    | succ n_6 ih_6 =>
      intro q v hq hv hm_6 ls xL
      refine lv_iload xE xB dL_due_6 (lv_at xL 6 rfl) ?_
      refine lv_aload_n xE xB dL_due_8 rfl (lv_at xL 0 rfl) ?_
      refine lv_iconst (v := nI 2) xE xB dL_due_9 (by decide) ?_
      refine q_ald xE xB xK xP 0 rfl (by omega) (by decide) dL_due_10 ?_
      refine q_eq (y := nI k) (hg2) ?_
      refine q_icmp_ge (tgt := 45) xE xB dL_due_11 (by decide) (by omega) (by omega) (fun c_11 => ?_) (fun c_11 => ?_)
      · skip
        refine lv_iload xE xB dL_due_45 (lv_at xL 5 rfl) ?_
        exact xQ _ _ _ (by obtain rfl : q = k := (by omega); exact hv) dL_due_47
      · skip
        refine lv_iload xE xB dL_due_14 (lv_at xL 5 rfl) ?_
        refine lv_aload_n xE xB dL_due_16 rfl (lv_at xL 1 rfl) ?_
        refine lv_bipush (v := nI 6) xE xB dL_due_17 (by decide) ?_
        refine lv_iload_n xE xB dL_due_19 rfl (lv_at xL 3 rfl) ?_
        refine q_imul xE xB dL_due_20 ?_
        refine lv_iload xE xB dL_due_21 (lv_at xL 6 rfl) ?_
        refine q_iadd xE xB dL_due_23 ?_
        refine q_ald xE xB xK xP 1 rfl (by omega) (by decide) dL_due_24 ?_
        refine lv_aload_n xE xB dL_due_25 rfl (lv_at xL 2 rfl) ?_
        refine lv_bipush (v := nI 6) xE xB dL_due_26 (by decide) ?_
        refine lv_iload xE xB dL_due_28 (lv_at xL 6 rfl) ?_
        refine q_imul xE xB dL_due_30 ?_
        refine lv_iload xE xB dL_due_31 (lv_at xL 4 rfl) ?_
        refine q_iadd xE xB dL_due_33 ?_
        refine q_ald xE xB xK xP 2 rfl (by omega) (by decide) dL_due_34 ?_
        refine lv_imul xE xB dL_due_35 ?_
        refine lv_iadd xE xB dL_due_36 ?_
        refine lv_istore (lv' := [(5, .int (v + ((a ((6 * row) + q)) * (b ((6 * q) + col))))), (0, .ref ga), (1, .ref aa), (2, .ref ba), (3, .int (nI row)), (4, .int (nI col)), (6, .int (nI q))]) xE xB dL_due_37 xL (by decide) rfl (fun ls xL => ?_)
        refine lv_iinc (v := nI (q + 1)) (lv' := [(6, .int (nI (q + 1))), (5, .int (v + ((a ((6 * row) + q)) * (b ((6 * q) + col))))), (0, .ref ga), (1, .ref aa), (2, .ref ba), (3, .int (nI row)), (4, .int (nI col))]) xE xB dL_due_39 xL (k := 6) rfl (q_inc _ _) (by decide) rfl (fun ls xL => ?_)
        refine lv_goto (tgt := 6) xE xB dL_due_42 (by decide) ?_
        exact ih_6 (q + 1) (v + ((a ((6 * row) + q)) * (b ((6 * q) + col)))) (by omega) (by rw [hv]; rfl) (by omega) _ (lv_sub xL [2, 3, 4, 5, 6, 1, 0] rfl)
  exact L_6 (k - 0 + 1) 0 (nI 0) (by omega) (by rfl) (Nat.lt_succ_self _) _ (lv_sub xL [2, 3, 4, 5, 6, 1, 0] rfl)
set_option maxHeartbeats 4000000 in
set_option maxRecDepth 100000 in
/-- kL_along -/
theorem kL_along (l : Launch) (G : wG) (ga : Nat) (g : wF) (n v : Nat) (hg0 : g 0 = nI n) (hn : 1 ≤ n ∧ n ≤ 4) (hv : v < 100) : CR l yL_along wsL_along (rm 0 0) G [.ref ga, .int (nI v)] (List.flatten [[(ga, ai G 9 g)]]) (fun x => x = nI (tls v n)) := by
  refine CR.of (own := RL) rfl (by decide) rfl (Nat.le_of_ble_eq_true rfl) ?_
  intro p9 e9 s9 m9 b9 t9 c9 xE xB xM xO xT xK xP Q xQ ls hl
  have xL : lv_has ls 2 [(0, .ref ga), (1, .int (nI v))] := hl
  have hm4 : v % n < 4 := mod_lt4 hn
  refine lv_iload_n xE xB dL_along_0 rfl (lv_at xL 1 rfl) ?_
  refine lv_aload_n xE xB dL_along_1 rfl (lv_at xL 0 rfl) ?_
  refine lv_iconst (v := nI 0) xE xB dL_along_2 (by decide) ?_
  refine q_ald xE xB xK xP 0 rfl (by omega) (by decide) dL_along_3 ?_
  refine q_eq (y := nI n) (hg0) ?_
  refine q_irem xE xB dL_along_4 (by omega) (by omega) (by omega) ?_
  refine q_if_ne (tgt := 16) xE xB dL_along_5 (by decide) (by omega) (fun c_5 => ?_) (fun c_5 => ?_)
  · skip
    refine lv_iload_n xE xB dL_along_16 rfl (lv_at xL 1 rfl) ?_
    refine lv_aload_n xE xB dL_along_17 rfl (lv_at xL 0 rfl) ?_
    refine lv_iconst (v := nI 0) xE xB dL_along_18 (by decide) ?_
    refine q_ald xE xB xK xP 0 rfl (by omega) (by decide) dL_along_19 ?_
    refine q_eq (y := nI n) (hg0) ?_
    refine q_idiv xE xB dL_along_20 (by omega) (by omega) (by omega) ?_
    refine lv_iconst (v := nI 1) xE xB dL_along_21 (by decide) ?_
    refine q_iadd xE xB dL_along_22 ?_
    exact xQ _ _ _ (by exact congrArg nI (al_2 hn c_5)) dL_along_23
  · skip
    refine lv_iload_n xE xB dL_along_8 rfl (lv_at xL 1 rfl) ?_
    refine lv_aload_n xE xB dL_along_9 rfl (lv_at xL 0 rfl) ?_
    refine lv_iconst (v := nI 0) xE xB dL_along_10 (by decide) ?_
    refine q_ald xE xB xK xP 0 rfl (by omega) (by decide) dL_along_11 ?_
    refine q_eq (y := nI n) (hg0) ?_
    refine q_idiv xE xB dL_along_12 (by omega) (by omega) (by omega) ?_
    refine lv_goto (tgt := 23) xE xB dL_along_13 (by decide) ?_
    exact xQ _ _ _ (by exact congrArg nI (al_1 hn c_5)) dL_along_23
set_option maxHeartbeats 4000000 in
set_option maxRecDepth 100000 in
/-- kL_part -/
theorem kL_part (l : Launch) (G : wG) (ga : Nat) (g : wF) (n v t : Nat) (hg0 : g 0 = nI n) (hn : 1 ≤ n ∧ n ≤ 4) (hv : v < 100) (ht : n * t ≤ v) : CR l yL_part wsL_part (rm 0 0) G [.ref ga, .int (nI v), .int (nI t)] (List.flatten [[(ga, ai G 9 g)]]) (fun x => x = nI (min n (v - n * t))) := by
  refine CR.of (own := RL) rfl (by decide) rfl (Nat.le_of_ble_eq_true rfl) ?_
  intro p9 e9 s9 m9 b9 t9 c9 xE xB xM xO xT xK xP Q xQ ls hl
  have xL : lv_has ls 3 [(0, .ref ga), (1, .int (nI v)), (2, .int (nI t))] := hl
  refine lv_iload_n xE xB dL_part_0 rfl (lv_at xL 1 rfl) ?_
  refine lv_aload_n xE xB dL_part_1 rfl (lv_at xL 0 rfl) ?_
  refine lv_iconst (v := nI 0) xE xB dL_part_2 (by decide) ?_
  refine q_ald xE xB xK xP 0 rfl (by omega) (by decide) dL_part_3 ?_
  refine q_eq (y := nI n) (hg0) ?_
  refine lv_iload_n xE xB dL_part_4 rfl (lv_at xL 2 rfl) ?_
  refine q_imul xE xB dL_part_5 ?_
  refine q_isub xE xB dL_part_6 (by omega) ?_
  refine lv_aload_n xE xB dL_part_7 rfl (lv_at xL 0 rfl) ?_
  refine lv_iconst (v := nI 0) xE xB dL_part_8 (by decide) ?_
  refine q_ald xE xB xK xP 0 rfl (by omega) (by decide) dL_part_9 ?_
  refine q_eq (y := nI n) (hg0) ?_
  refine q_icmp_ge (tgt := 23) xE xB dL_part_10 (by decide) (by omega) (by omega) (fun c_10 => ?_) (fun c_10 => ?_)
  · skip
    refine lv_aload_n xE xB dL_part_23 rfl (lv_at xL 0 rfl) ?_
    refine lv_iconst (v := nI 0) xE xB dL_part_24 (by decide) ?_
    refine q_ald xE xB xK xP 0 rfl (by omega) (by decide) dL_part_25 ?_
    refine q_eq (y := nI n) (hg0) ?_
    exact xQ _ _ _ (by exact congrArg nI (by omega)) dL_part_26
  · skip
    refine lv_iload_n xE xB dL_part_13 rfl (lv_at xL 1 rfl) ?_
    refine lv_aload_n xE xB dL_part_14 rfl (lv_at xL 0 rfl) ?_
    refine lv_iconst (v := nI 0) xE xB dL_part_15 (by decide) ?_
    refine q_ald xE xB xK xP 0 rfl (by omega) (by decide) dL_part_16 ?_
    refine q_eq (y := nI n) (hg0) ?_
    refine lv_iload_n xE xB dL_part_17 rfl (lv_at xL 2 rfl) ?_
    refine q_imul xE xB dL_part_18 ?_
    refine q_isub xE xB dL_part_19 (by omega) ?_
    refine lv_goto (tgt := 26) xE xB dL_part_20 (by decide) ?_
    exact xQ _ _ _ (by exact congrArg nI (by omega)) dL_part_26
set_option maxHeartbeats 4000000 in
set_option maxRecDepth 100000 in
/-- kL_need -/
theorem kL_need (l : Launch) (G : wG) (ga : Nat) (g : wF) (n r k c ta tb : Nat) (hg0 : g 0 = nI n) (hg1 : g 1 = nI r) (hg2 : g 2 = nI k) (hg3 : g 3 = nI c) (hg6 : g 6 = nI ta) (hg7 : g 7 = nI tb) (hn : 1 ≤ n ∧ n ≤ 4) (hr : r ≤ 6) (hk : 1 ≤ k ∧ k ≤ 6) (hc : c ≤ 6) (h1 : n * ta < r) (h2 : n * tb < c) : CR l yL_need wsL_need (rm 1 22) G [.ref ga] (List.flatten [[(ga, ai G 9 g)]]) (fun x => x = nI (need k n r c ta tb)) := by
  refine CR.of (own := RL) rfl (by decide) rfl (Nat.le_of_ble_eq_true rfl) ?_
  intro p9 e9 s9 m9 b9 t9 c9 xE xB xM xO xT xK xP Q xQ ls hl
  have xL : lv_has ls 1 [(0, .ref ga)] := hl
  refine lv_aload_n xE xB dL_need_0 rfl (lv_at xL 0 rfl) ?_
  refine lv_aload_n xE xB dL_need_1 rfl (lv_at xL 0 rfl) ?_
  refine lv_iconst (v := nI 1) xE xB dL_need_2 (by decide) ?_
  refine q_ald xE xB xK xP 0 rfl (by omega) (by decide) dL_need_3 ?_
  refine q_eq (y := nI r) (hg1) ?_
  refine lv_aload_n xE xB dL_need_4 rfl (lv_at xL 0 rfl) ?_
  refine lv_bipush (v := nI 6) xE xB dL_need_5 (by decide) ?_
  refine q_ald xE xB xK xP 0 rfl (by omega) (by decide) dL_need_7 ?_
  refine q_eq (y := nI ta) (hg6) ?_
  refine q_SRL (As := [.ref ga, .int (nI r), .int (nI ta)]) (rest := []) ⟨xE, xB, xM, xO, xT⟩ (kL_part l G ga g n r ta (by first | assumption | omega) (by first | assumption | omega) (by first | assumption | omega) (by first | assumption | omega)) (va_cwS 3 xT gL_need_L_part rfl rfl rfl (by decide +kernel) ⟨Nat.le_of_ble_eq_true rfl, Nat.le_of_ble_eq_true rfl⟩) xK xP [0] [] 1 rfl (by decide) (Lc := [[(ga, ai G 9 g)]]) rfl rfl rfl xL.1 rfl (Nat.le_of_ble_eq_true rfl) dL_need_8 ⟨Nat.le_refl _, Nat.le_refl _⟩ (fun r_8 h_8 => ?_)
  obtain rfl : r_8 = nI (min n (r - n * ta)) := h_8
  refine lv_aload_n xE xB dL_need_11 rfl (lv_at xL 0 rfl) ?_
  refine lv_aload_n xE xB dL_need_12 rfl (lv_at xL 0 rfl) ?_
  refine lv_iconst (v := nI 3) xE xB dL_need_13 (by decide) ?_
  refine q_ald xE xB xK xP 0 rfl (by omega) (by decide) dL_need_14 ?_
  refine q_eq (y := nI c) (hg3) ?_
  refine lv_aload_n xE xB dL_need_15 rfl (lv_at xL 0 rfl) ?_
  refine lv_bipush (v := nI 7) xE xB dL_need_16 (by decide) ?_
  refine q_ald xE xB xK xP 0 rfl (by omega) (by decide) dL_need_18 ?_
  refine q_eq (y := nI tb) (hg7) ?_
  refine q_SRL (As := [.ref ga, .int (nI c), .int (nI tb)]) (rest := [.int (nI (min n (r - n * ta)))]) ⟨xE, xB, xM, xO, xT⟩ (kL_part l G ga g n c tb (by first | assumption | omega) (by first | assumption | omega) (by first | assumption | omega) (by first | assumption | omega)) (va_cwS 3 xT gL_need_L_part rfl rfl rfl (by decide +kernel) ⟨Nat.le_of_ble_eq_true rfl, Nat.le_of_ble_eq_true rfl⟩) xK xP [0] [] 1 rfl (by decide) (Lc := [[(ga, ai G 9 g)]]) rfl rfl rfl xL.1 rfl (Nat.le_of_ble_eq_true rfl) dL_need_19 ⟨Nat.le_refl _, Nat.le_refl _⟩ (fun r_19 h_19 => ?_)
  obtain rfl : r_19 = nI (min n (c - n * tb)) := h_19
  refine q_iadd xE xB dL_need_22 ?_
  refine lv_aload_n xE xB dL_need_23 rfl (lv_at xL 0 rfl) ?_
  refine lv_iconst (v := nI 2) xE xB dL_need_24 (by decide) ?_
  refine q_ald xE xB xK xP 0 rfl (by omega) (by decide) dL_need_25 ?_
  refine q_eq (y := nI k) (hg2) ?_
  refine q_iadd xE xB dL_need_26 ?_
  refine lv_iconst (v := nI 2) xE xB dL_need_27 (by decide) ?_
  refine q_isub xE xB dL_need_28 (by omega) ?_
  exact xQ _ _ _ (by exact congrArg nI (by unfold need; omega)) dL_need_29
set_option maxHeartbeats 4000000 in
set_option maxRecDepth 100000 in
/-- kL_ones -/
theorem kL_ones (l : Launch) (G : wG) (w : Nat) (hw : w < 2 ^ 36) : CR l yL_ones wsL_ones (rm 0 0) G [.long (lN w)] (([] : va_W)) (fun x => x = nI (pcN 36 w)) := by
  refine CR.of (own := RL) rfl (by decide) rfl (Nat.le_of_ble_eq_true rfl) ?_
  intro p9 e9 s9 m9 b9 t9 c9 xE xB xM xO xT xK xP Q xQ ls hl
  have xL : lv_has ls 5 [(0, .long (lN w))] := hl
  refine lv_iconst (v := nI 0) xE xB dL_ones_0 (by decide) ?_
  refine lv_istore_n (lv' := [(2, .int (nI 0)), (0, .long (lN w))]) xE xB dL_ones_1 rfl xL (by decide) rfl (fun ls xL => ?_)
  refine lv_lload_n xE xB dL_ones_2 rfl (lv_at xL 1 rfl) ?_
  refine lv_lstore_n (lv' := [(3, .long (lN w)), (2, .int (nI 0)), (0, .long (lN w))]) xE xB dL_ones_3 rfl xL (by decide) rfl (fun ls xL => ?_)
  have L_4 : ∀ (n_4 : Nat) (e w2 : Nat), (e + pcN 36 w2 = pcN 36 w) → (w2 < 2 ^ 36) → w2 < n_4 → ∀ (ls : Array Slot), lv_has ls 5 [(0, .long (lN w)), (2, .int (nI e)), (3, .long (lN w2))] → W p9 l e9 (rm 0 0) s9 m9 ([.long (lN w)] : List Value).toArray b9 t9 c9 s9.heap [] 0 0 Q (F0 m9 4 ls []) := by
    intro n_4
    induction n_4 with
    | zero => intro e w2 he h2 hm_4 ls xL; exact absurd hm_4 (Nat.not_lt_zero _)
    | succ n_4 ih_4 =>
      intro e w2 he h2 hm_4 ls xL
      refine lv_lload_n xE xB dL_ones_4 rfl (lv_at xL 2 rfl) ?_
      refine lv_lconst (v := lN 0) xE xB dL_ones_5 (by decide) ?_
      refine W.lcmp xE xB dL_ones_6 ?_
      refine lv_if_eq (tgt := 22) xE xB dL_ones_7 (by decide) (fun c_7 => ?_) (fun c_7 => ?_)
      · skip
        refine lv_iload_n xE xB dL_ones_22 rfl (lv_at xL 1 rfl) ?_
        exact xQ _ _ _ (by obtain rfl : w2 = 0 := on_2 h2 c_7; rw [pcN_0, Nat.add_zero] at he; exact congrArg nI he) dL_ones_23
      · skip
        have hp : 0 < w2 := on_1 h2 c_7
        refine lv_iinc (v := nI (e + 1)) (lv' := [(2, .int (nI (e + 1))), (0, .long (lN w)), (3, .long (lN w2))]) xE xB dL_ones_10 xL (k := 1) rfl (q_inc _ _) (by decide) rfl (fun ls xL => ?_)
        refine lv_lload_n xE xB dL_ones_13 rfl (lv_at xL 2 rfl) ?_
        refine lv_lload_n xE xB dL_ones_14 rfl (lv_at xL 2 rfl) ?_
        refine lv_lconst (v := lN 1) xE xB dL_ones_15 (by decide) ?_
        refine lv_lsub xE xB dL_ones_16 ?_
        refine q_eqL (y := lN (w2 - 1)) (lw_sub hp) ?_
        refine lv_land xE xB dL_ones_17 ?_
        refine q_eqL (y := lN (w2 &&& (w2 - 1))) (lw_and _ _) ?_
        refine lv_lstore_n (lv' := [(3, .long (lN (w2 &&& (w2 - 1)))), (2, .int (nI (e + 1))), (0, .long (lN w))]) xE xB dL_ones_18 rfl xL (by decide) rfl (fun ls xL => ?_)
        refine lv_goto (tgt := 4) xE xB dL_ones_19 (by decide) ?_
        exact ih_4 (e + 1) (w2 &&& (w2 - 1)) (by have := pcN_step 36 w2 hp h2; omega) (by have := and_pred_lt hp; omega) (by have := and_pred_lt hp; omega) _ (lv_sub xL [2, 1, 0] rfl)
  exact L_4 (w + 1) 0 w (by exact Nat.zero_add _) (by omega) (Nat.lt_succ_self _) _ (lv_sub xL [2, 1, 0] rfl)
theorem kL_low_c8 : Cond.constant RL 8 (2147483647) ∈ wsL_low := by decide +kernel
set_option maxHeartbeats 4000000 in
set_option maxRecDepth 100000 in
/-- kL_low -/
theorem kL_low (l : Launch) (G : wG) (v : Int32) (q : Nat) (hq : 1 ≤ q) (hq2 : q < 2147483648) : CR l yL_low wsL_low (rm 0 0) G [.int v, .int (nI q)] (([] : va_W)) (fun x => ∃ y, y < q ∧ x = nI y) := by
  refine CR.of (own := RL) rfl (by decide) rfl (Nat.le_of_ble_eq_true rfl) ?_
  intro p9 e9 s9 m9 b9 t9 c9 xE xB xM xO xT xK xP Q xQ ls hl
  have xL : lv_has ls 2 [(0, .int v), (1, .int (nI q))] := hl
  refine lv_iload_n xE xB dL_low_0 rfl (lv_at xL 0 rfl) ?_
  refine lv_ldc (v := (2147483647)) xE xB xO (xT _ kL_low_c8) dL_low_1 ?_
  refine lv_iand xE xB dL_low_3 ?_
  refine q_eq (y := nI (v.toBitVec.toNat % 2 ^ 31)) (pk_and v 31 (by decide)) ?_
  have hv := Nat.mod_lt v.toBitVec.toNat (show 2 ^ 31 > 0 by decide)
  refine lv_iload_n xE xB dL_low_4 rfl (lv_at xL 1 rfl) ?_
  refine q_irem xE xB dL_low_5 (by omega) (by omega) (by omega) ?_
  exact xQ _ _ _ (by exact ⟨_, Nat.mod_lt _ (by omega), rfl⟩) dL_low_6
