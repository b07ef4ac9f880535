/-! leaves: contracts of the small methods of Matrix, Square, Tile, and of Arrays.fill -/
def wA (G : wG) (n a : Nat) (f : wF) : va_W := [(a, ai G n f)]
abbrev NO : Int32 := (-999999999)
def fillF (n : Nat) (v : Int32) (f : wF) : wF := fun j => if j < n then v else f j
theorem fillF_0 (v : Int32) (f : wF) : fillF 0 v f = f := by funext j; simp [fillF]
theorem fillF_s (i : Nat) (v : Int32) (f : wF) : upd (fillF i v f) i v = fillF (i + 1) v f := by
  funext j
  by_cases h : j = i
  · subst h; simp [upd, fillF]
  · by_cases h2 : j < i
    · simp [upd, fillF, h, h2, Nat.lt_succ_of_lt h2]
    · have h3 : ¬ j < i + 1 := by omega
      simp [upd, fillF, h, h2, h3]
theorem fillF_lt {n j : Nat} {v : Int32} {f : wF} (h : j < n) : fillF n v f j = v := by simp [fillF, h]
theorem upd_self (f : wF) (k : Nat) : upd f k (f k) = f := by
  funext j
  by_cases h : j = k
  · subst h; simp [upd]
  · simp [upd, h]
def sm (f : Nat → Int32) : Nat → Int32
  | 0 => 0
  | n + 1 => sm f n + f n
def ns (f : Nat → Nat) : Nat → Nat
  | 0 => 0
  | n + 1 => ns f n + f n
theorem vin_of {x : Int32} {n : Nat} (hn : n < 2147483648) (h0 : ¬ x < 0) (h1 : ¬ nI n ≤ x) : vp_in x n := by
  rcases pk_ix x hn with h | h | ⟨j, hj, rfl⟩
  · exact absurd h h0
  · exact absurd h h1
  · exact vp_in_nI hj hn
theorem vin_neg {x : Int32} {n : Nat} (hn : n < 2147483648) (h0 : x < 0) : ¬ vp_in x n := fun h => by
  obtain ⟨j, hj, rfl⟩ := vp_in_of h hn
  exact nI_pos (Nat.lt_trans hj hn) h0
theorem vin_big {x : Int32} {n : Nat} (hn : n < 2147483648) (h0 : nI n ≤ x) : ¬ vp_in x n := fun h => by
  obtain ⟨j, hj, rfl⟩ := vp_in_of h hn
  exact nI_ge hj hn h0
theorem vin_le {x : Int32} {n : Nat} (hn : n + 1 < 2147483648) (h0 : ¬ x < 0) (h1 : ¬ nI n < x) : vp_in x (n + 1) := by
  rcases pk_ix x hn with h | h | ⟨j, hj, rfl⟩
  · exact absurd h h0
  · have h2 : nI n < nI (n + 1) := nI_lt (Nat.lt_succ_self n) hn
    exact absurd (Int32.lt_of_lt_of_le h2 h) h1
  · exact vp_in_nI hj hn
theorem vin_gt {x : Int32} {n : Nat} (hn : n + 1 < 2147483648) (h0 : nI n < x) : ¬ vp_in x (n + 1) := fun h => by
  obtain ⟨j, hj, rfl⟩ := vp_in_of h hn
  have := (nI_ltI (Nat.lt_of_succ_lt hn) (Nat.lt_trans hj hn)).mp h0
  omega
theorem vin_1 {x : Int32} {n : Nat} (hn : n + 1 < 2147483648) (h0 : ¬ x < nI 1) (h1 : ¬ nI n < x) : ∃ j, 1 ≤ j ∧ j ≤ n ∧ x = nI j := by
  have h2 : ¬ x < 0 := fun h => h0 (Int32.lt_trans h (by decide))
  obtain ⟨j, hj, rfl⟩ := vp_in_of (vin_le hn h2 h1) hn
  refine ⟨j, ?_, by omega, rfl⟩
  rcases Nat.eq_zero_or_pos j with h | h
  · subst h; exact absurd (by decide) h0
  · exact h
theorem vin_1n {n j : Nat} (hn : n + 1 < 2147483648) (h1 : 1 ≤ j) (h2 : j ≤ n) : ¬ nI j < nI 1 ∧ ¬ nI n < nI j := ⟨nI_nlt h1 (by omega), nI_nlt h2 (by omega)⟩
section QMIN
variable {p : Program} {l : Launch} {e : Env} {R : Room} {s : State} {m : MethodId} {args : Array Value} {below : List Frame} {meth : Method} {c : Code} {H : Heap} {locs : List Loc} {cells slots : Nat} {Q : State → Prop}
theorem q_mmin {cc : ByteArray} {pc a b : Nat} {ls : Array Slot} {rest : List Value} (hexec : p.tables.exec = Jvm.exec) (hb : c.code = cc) (hml : c.maxLocals = ls.size) {own : String} {index : Nat} (hown : s.vm.findClass own = some m.cls) (hlink : (Cond.methodLink own index Lib.Math.min.name).before args s = true) (hstat : (Cond.static Lib.Math.min.name).before args s = true) (hini : (Cond.initialized "java/lang/Math").before args s = true) (hcode : (Cond.code Lib.Math.min.name Lib.Math.min.code 2 (some .int)).before args s = true)
    (hframes : 1 ≤ R.frames) (hlocals : (rest.map fun v => v.category).sum + 13 ≤ R.locals) (hc : cells ≤ R.cells) (hs : slots ≤ R.slots) (ha : a < 2147483648) (hb2 : b < 2147483648) (hdg : decode cc pc = .ok (.invokestatic index, 3))
    (kk : W p l e R s m args below meth c H locs cells slots Q (F0 m (pc + 3) ls (.int (nI (min a b)) :: rest))) : W p l e R s m args below meth c H locs cells slots Q (F0 m pc ls (.int (nI b) :: .int (nI a) :: rest)) := by
  refine va_mmin hexec hb hml hown hlink hstat hini hcode hframes hlocals hc hs hdg ?_
  have e : (if nI b < nI a then nI b else nI a) = nI (min a b) := by
    by_cases h : b < a
    · rw [if_pos (nI_lt h ha), Nat.min_eq_right (Nat.le_of_lt h)]
    · rw [if_neg (nI_nlt (Nat.not_lt.mp h) hb2), Nat.min_eq_left (Nat.not_lt.mp h)]
  rw [e]
  exact kk
end QMIN

set_option maxHeartbeats 4000000 in
set_option maxRecDepth 100000 in
/-- Arrays.fill over 16 -/
theorem kfill16 (l : Launch) (G : wG) (a : Nat) (v : Int32) (f : wF) : CV (S := Unit) l yJ7_fill_53178 wsJ7_fill_53178 (rm 0 0) G [.ref a, .int v] (wA G 16 a f) (fun u9 => True) (fun u9 => wA G 16 a (fillF 16 v f)) := by
  refine CV.of (own := RJ7) rfl (by decide) rfl (Nat.le_of_ble_eq_true rfl) ?_
  intro p9 e9 s9 m9 b9 t9 c9 A xE xB xM xO xT xK xP xD Q xQ xS ls hl
  have xL : lv_has ls 4 [(0, .ref a), (1, .int v)] := hl
  refine lv_iconst (v := nI 0) xE xB dJ7_fill_53178_0 (by decide) ?_
  refine lv_istore_n (lv' := [(2, .int (nI 0)), (0, .ref a), (1, .int v)]) xE xB dJ7_fill_53178_1 rfl xL (by decide) rfl (fun ls xL => ?_)
  refine lv_aload_n xE xB dJ7_fill_53178_2 rfl (lv_at xL 1 rfl) ?_
  refine va_alen (v := nI 16) xE xB xK.1 xP 0 1 rfl rfl rfl dJ7_fill_53178_3 ?_
  refine lv_istore_n (lv' := [(3, .int (nI 16)), (2, .int (nI 0)), (0, .ref a), (1, .int v)]) xE xB dJ7_fill_53178_4 rfl xL (by decide) rfl (fun ls xL => ?_)
  have L_5 : ∀ (n_5 : Nat) (i : Nat) (g : wF), (i ≤ 16) → (g = fillF i v f) → 16 - i < n_5 → ∀ (H : Heap) (locs : List Loc), va_P G.1 vwCl (wA G 16 a g) H → va_D A (wA G 16 a g) → va_S A s9.heap H locs → ∀ (ls : Array Slot), lv_has ls 4 [(0, .ref a), (1, .int v), (2, .int (nI i)), (3, .int (nI 16))] → W p9 l e9 (rm 0 0) s9 m9 ([.ref a, .int v] : List Value).toArray b9 t9 c9 H locs 0 0 Q (F0 m9 5 ls []) := by
    intro n_5
    induction n_5 with
    | zero => intro i g hi hg hm_5 H locs xP xD xS ls xL; exact absurd hm_5 (Nat.not_lt_zero _)
    | succ n_5 ih_5 =>
      intro i g hi hg hm_5 H locs xP xD xS ls xL
      refine lv_iload_n xE xB dJ7_fill_53178_5 rfl (lv_at xL 2 rfl) ?_
      refine lv_iload_n xE xB dJ7_fill_53178_6 rfl (lv_at xL 3 rfl) ?_
      refine q_icmp_ge (tgt := 20) xE xB dJ7_fill_53178_7 (by decide) (by omega) (by omega) (fun c_7 => ?_) (fun c_7 => ?_)
      · skip
        obtain rfl : i = 16 := by omega
        subst hg
        exact xQ _ _ _ _ () trivial xP xD xS dJ7_fill_53178_20
      · skip
        refine lv_aload_n xE xB dJ7_fill_53178_10 rfl (lv_at xL 0 rfl) ?_
        refine lv_iload_n xE xB dJ7_fill_53178_11 rfl (lv_at xL 2 rfl) ?_
        refine lv_iload_n xE xB dJ7_fill_53178_12 rfl (lv_at xL 1 rfl) ?_
        refine q_ast xE xB xK xP xD xS 0 rfl (by omega) (by decide) dJ7_fill_53178_13 (fun H locs xP xD xS => ?_)
        have xP : va_P G.1 vwCl (wA G 16 a (upd g i v)) H := xP
        have xD : va_D A (wA G 16 a (upd g i v)) := xD
        refine lv_iinc (v := nI (i + 1)) (lv' := [(2, .int (nI (i + 1))), (0, .ref a), (1, .int v), (3, .int (nI 16))]) xE xB dJ7_fill_53178_14 xL (k := 2) rfl (q_inc _ _) (by decide) rfl (fun ls xL => ?_)
        refine lv_goto (tgt := 5) xE xB dJ7_fill_53178_17 (by decide) ?_
        exact ih_5 (i + 1) (upd g i v) (by omega) (by rw [hg]; exact fillF_s _ _ _) (by omega) _ _ xP xD xS _ (lv_sub xL [1, 2, 0, 3] rfl)
  exact L_5 (16 - 0 + 1) 0 f (by omega) (by exact (fillF_0 v f).symm) (Nat.lt_succ_self _) _ _ xP xD xS _ (lv_sub xL [2, 3, 1, 0] rfl)
set_option maxHeartbeats 4000000 in
set_option maxRecDepth 100000 in
/-- Arrays.fill over 20 -/
theorem kfill20 (l : Launch) (G : wG) (a : Nat) (v : Int32) (f : wF) : CV (S := Unit) l yJ7_fill_53178 wsJ7_fill_53178 (rm 0 0) G [.ref a, .int v] (wA G 20 a f) (fun u9 => True) (fun u9 => wA G 20 a (fillF 20 v f)) := by
  refine CV.of (own := RJ7) rfl (by decide) rfl (Nat.le_of_ble_eq_true rfl) ?_
  intro p9 e9 s9 m9 b9 t9 c9 A xE xB xM xO xT xK xP xD Q xQ xS ls hl
  have xL : lv_has ls 4 [(0, .ref a), (1, .int v)] := hl
  refine lv_iconst (v := nI 0) xE xB dJ7_fill_53178_0 (by decide) ?_
  refine lv_istore_n (lv' := [(2, .int (nI 0)), (0, .ref a), (1, .int v)]) xE xB dJ7_fill_53178_1 rfl xL (by decide) rfl (fun ls xL => ?_)
  refine lv_aload_n xE xB dJ7_fill_53178_2 rfl (lv_at xL 1 rfl) ?_
  refine va_alen (v := nI 20) xE xB xK.1 xP 0 1 rfl rfl rfl dJ7_fill_53178_3 ?_
  refine lv_istore_n (lv' := [(3, .int (nI 20)), (2, .int (nI 0)), (0, .ref a), (1, .int v)]) xE xB dJ7_fill_53178_4 rfl xL (by decide) rfl (fun ls xL => ?_)
  have L_5 : ∀ (n_5 : Nat) (i : Nat) (g : wF), (i ≤ 20) → (g = fillF i v f) → 20 - i < n_5 → ∀ (H : Heap) (locs : List Loc), va_P G.1 vwCl (wA G 20 a g) H → va_D A (wA G 20 a g) → va_S A s9.heap H locs → ∀ (ls : Array Slot), lv_has ls 4 [(0, .ref a), (1, .int v), (2, .int (nI i)), (3, .int (nI 20))] → W p9 l e9 (rm 0 0) s9 m9 ([.ref a, .int v] : List Value).toArray b9 t9 c9 H locs 0 0 Q (F0 m9 5 ls []) := by
    intro n_5
    induction n_5 with
    | zero => intro i g hi hg hm_5 H locs xP xD xS ls xL; exact absurd hm_5 (Nat.not_lt_zero _)
    | succ n_5 ih_5 =>
      intro i g hi hg hm_5 H locs xP xD xS ls xL
      refine lv_iload_n xE xB dJ7_fill_53178_5 rfl (lv_at xL 2 rfl) ?_
      refine lv_iload_n xE xB dJ7_fill_53178_6 rfl (lv_at xL 3 rfl) ?_
      refine q_icmp_ge (tgt := 20) xE xB dJ7_fill_53178_7 (by decide) (by omega) (by omega) (fun c_7 => ?_) (fun c_7 => ?_)
      · skip
        obtain rfl : i = 20 := by omega
        subst hg
        exact xQ _ _ _ _ () trivial xP xD xS dJ7_fill_53178_20
      · skip
        refine lv_aload_n xE xB dJ7_fill_53178_10 rfl (lv_at xL 0 rfl) ?_
        refine lv_iload_n xE xB dJ7_fill_53178_11 rfl (lv_at xL 2 rfl) ?_
        refine lv_iload_n xE xB dJ7_fill_53178_12 rfl (lv_at xL 1 rfl) ?_
        refine q_ast xE xB xK xP xD xS 0 rfl (by omega) (by decide) dJ7_fill_53178_13 (fun H locs xP xD xS => ?_)
        have xP : va_P G.1 vwCl (wA G 20 a (upd g i v)) H := xP
        have xD : va_D A (wA G 20 a (upd g i v)) := xD
        refine lv_iinc (v := nI (i + 1)) (lv' := [(2, .int (nI (i + 1))), (0, .ref a), (1, .int v), (3, .int (nI 20))]) xE xB dJ7_fill_53178_14 xL (k := 2) rfl (q_inc _ _) (by decide) rfl (fun ls xL => ?_)
        refine lv_goto (tgt := 5) xE xB dJ7_fill_53178_17 (by decide) ?_
        exact ih_5 (i + 1) (upd g i v) (by omega) (by rw [hg]; exact fillF_s _ _ _) (by omega) _ _ xP xD xS _ (lv_sub xL [1, 2, 0, 3] rfl)
  exact L_5 (20 - 0 + 1) 0 f (by omega) (by exact (fillF_0 v f).symm) (Nat.lt_succ_self _) _ _ xP xD xS _ (lv_sub xL [2, 3, 1, 0] rfl)
set_option maxHeartbeats 4000000 in
set_option maxRecDepth 100000 in
/-- Arrays.fill over 36 -/
theorem kfill36 (l : Launch) (G : wG) (a : Nat) (v : Int32) (f : wF) : CV (S := Unit) l yJ7_fill_53178 wsJ7_fill_53178 (rm 0 0) G [.ref a, .int v] (wA G 36 a f) (fun u9 => True) (fun u9 => wA G 36 a (fillF 36 v f)) := by
  refine CV.of (own := RJ7) rfl (by decide) rfl (Nat.le_of_ble_eq_true rfl) ?_
  intro p9 e9 s9 m9 b9 t9 c9 A xE xB xM xO xT xK xP xD Q xQ xS ls hl
  have xL : lv_has ls 4 [(0, .ref a), (1, .int v)] := hl
  refine lv_iconst (v := nI 0) xE xB dJ7_fill_53178_0 (by decide) ?_
  refine lv_istore_n (lv' := [(2, .int (nI 0)), (0, .ref a), (1, .int v)]) xE xB dJ7_fill_53178_1 rfl xL (by decide) rfl (fun ls xL => ?_)
  refine lv_aload_n xE xB dJ7_fill_53178_2 rfl (lv_at xL 1 rfl) ?_
  refine va_alen (v := nI 36) xE xB xK.1 xP 0 1 rfl rfl rfl dJ7_fill_53178_3 ?_
  refine lv_istore_n (lv' := [(3, .int (nI 36)), (2, .int (nI 0)), (0, .ref a), (1, .int v)]) xE xB dJ7_fill_53178_4 rfl xL (by decide) rfl (fun ls xL => ?_)
  have L_5 : ∀ (n_5 : Nat) (i : Nat) (g : wF), (i ≤ 36) → (g = fillF i v f) → 36 - i < n_5 → ∀ (H : Heap) (locs : List Loc), va_P G.1 vwCl (wA G 36 a g) H → va_D A (wA G 36 a g) → va_S A s9.heap H locs → ∀ (ls : Array Slot), lv_has ls 4 [(0, .ref a), (1, .int v), (2, .int (nI i)), (3, .int (nI 36))] → W p9 l e9 (rm 0 0) s9 m9 ([.ref a, .int v] : List Value).toArray b9 t9 c9 H locs 0 0 Q (F0 m9 5 ls []) := by
    intro n_5
    induction n_5 with
    | zero => intro i g hi hg hm_5 H locs xP xD xS ls xL; exact absurd hm_5 (Nat.not_lt_zero _)
    | succ n_5 ih_5 =>
      intro i g hi hg hm_5 H locs xP xD xS ls xL
      refine lv_iload_n xE xB dJ7_fill_53178_5 rfl (lv_at xL 2 rfl) ?_
      refine lv_iload_n xE xB dJ7_fill_53178_6 rfl (lv_at xL 3 rfl) ?_
      refine q_icmp_ge (tgt := 20) xE xB dJ7_fill_53178_7 (by decide) (by omega) (by omega) (fun c_7 => ?_) (fun c_7 => ?_)
      · skip
        obtain rfl : i = 36 := by omega
        subst hg
        exact xQ _ _ _ _ () trivial xP xD xS dJ7_fill_53178_20
      · skip
        refine lv_aload_n xE xB dJ7_fill_53178_10 rfl (lv_at xL 0 rfl) ?_
        refine lv_iload_n xE xB dJ7_fill_53178_11 rfl (lv_at xL 2 rfl) ?_
        refine lv_iload_n xE xB dJ7_fill_53178_12 rfl (lv_at xL 1 rfl) ?_
        refine q_ast xE xB xK xP xD xS 0 rfl (by omega) (by decide) dJ7_fill_53178_13 (fun H locs xP xD xS => ?_)
        have xP : va_P G.1 vwCl (wA G 36 a (upd g i v)) H := xP
        have xD : va_D A (wA G 36 a (upd g i v)) := xD
        refine lv_iinc (v := nI (i + 1)) (lv' := [(2, .int (nI (i + 1))), (0, .ref a), (1, .int v), (3, .int (nI 36))]) xE xB dJ7_fill_53178_14 xL (k := 2) rfl (q_inc _ _) (by decide) rfl (fun ls xL => ?_)
        refine lv_goto (tgt := 5) xE xB dJ7_fill_53178_17 (by decide) ?_
        exact ih_5 (i + 1) (upd g i v) (by omega) (by rw [hg]; exact fillF_s _ _ _) (by omega) _ _ xP xD xS _ (lv_sub xL [1, 2, 0, 3] rfl)
  exact L_5 (36 - 0 + 1) 0 f (by omega) (by exact (fillF_0 v f).symm) (Nat.lt_succ_self _) _ _ xP xD xS _ (lv_sub xL [2, 3, 1, 0] rfl)
set_option maxHeartbeats 4000000 in
set_option maxRecDepth 100000 in
/-- kX6_isLength -/
theorem kX6_isLength (l : Launch) (G : wG) (x0 : Int32) : CR l yX6_isLength wsX6_isLength (rm 0 0) G [.int x0] (([] : va_W)) (fun x => (x = nI 1 ∧ (∃ j, 1 ≤ j ∧ j ≤ 6 ∧ x0 = nI j)) ∨ (x = nI 0 ∧ ¬ (∃ j, 1 ≤ j ∧ j ≤ 6 ∧ x0 = nI j))) := by
  refine CR.ofZ (own := RX6) rfl (by decide) rfl (Nat.le_of_ble_eq_true rfl) ?_
  intro p9 e9 s9 m9 b9 t9 c9 xE xB xM xO xT xK xP Q xQ ls hl
  have xL : lv_has ls 1 [(0, .int x0)] := hl
  refine lv_iload_n xE xB dX6_isLength_0 rfl (lv_at xL 0 rfl) ?_
  refine lv_iconst (v := nI 1) xE xB dX6_isLength_1 (by decide) ?_
  refine lv_icmp_lt (tgt := 15) xE xB dX6_isLength_2 (by decide) (fun c_2 => ?_) (fun c_2 => ?_)
  · skip
    refine lv_iconst (v := nI 0) xE xB dX6_isLength_15 (by decide) ?_
    exact xQ _ _ _ (Or.inr ⟨rfl, by first | exact vin_1 (by decide) c_2 c_8 | (rintro ⟨j, h1, h2, rfl⟩; first | exact (vin_1n (by decide) h1 h2).1 c_2 | exact (vin_1n (by decide) h1 h2).2 c_8)⟩) (by decide) dX6_isLength_16
  · skip
    refine lv_iload_n xE xB dX6_isLength_5 rfl (lv_at xL 0 rfl) ?_
    refine lv_bipush (v := nI 6) xE xB dX6_isLength_6 (by decide) ?_
    refine lv_icmp_gt (tgt := 15) xE xB dX6_isLength_8 (by decide) (fun c_8 => ?_) (fun c_8 => ?_)
    · skip
      refine lv_iconst (v := nI 0) xE xB dX6_isLength_15 (by decide) ?_
      exact xQ _ _ _ (Or.inr ⟨rfl, by first | exact vin_1 (by decide) c_2 c_8 | (rintro ⟨j, h1, h2, rfl⟩; first | exact (vin_1n (by decide) h1 h2).1 c_2 | exact (vin_1n (by decide) h1 h2).2 c_8)⟩) (by decide) dX6_isLength_16
    · skip
      refine lv_iconst (v := nI 1) xE xB dX6_isLength_11 (by decide) ?_
      refine lv_goto (tgt := 16) xE xB dX6_isLength_12 (by decide) ?_
      exact xQ _ _ _ (Or.inl ⟨rfl, by first | exact vin_1 (by decide) c_2 c_8 | (rintro ⟨j, h1, h2, rfl⟩; first | exact (vin_1n (by decide) h1 h2).1 c_2 | exact (vin_1n (by decide) h1 h2).2 c_8)⟩) (by decide) dX6_isLength_16
theorem kX6_orNotFound_c161 : Cond.constant RX6 161 (-1000004) ∈ wsX6_orNotFound := by decide +kernel
theorem kX6_orNotFound_c216 : Cond.constant RX6 216 (-999999999) ∈ wsX6_orNotFound := by decide +kernel
set_option maxHeartbeats 4000000 in
set_option maxRecDepth 100000 in
/-- kX6_orNotFound -/
theorem kX6_orNotFound (l : Launch) (G : wG) (v : Int32) : CR l yX6_orNotFound wsX6_orNotFound (rm 0 0) G [.int v] (([] : va_W)) (fun x => x = if v = NO then (-1000004) else v) := by
  refine CR.of (own := RX6) rfl (by decide) rfl (Nat.le_of_ble_eq_true rfl) ?_
  intro p9 e9 s9 m9 b9 t9 c9 xE xB xM xO xT xK xP Q xQ ls hl
  have xL : lv_has ls 1 [(0, .int v)] := hl
  refine lv_iload_n xE xB dX6_orNotFound_0 rfl (lv_at xL 0 rfl) ?_
  refine lv_ldc (v := (-999999999)) xE xB xO (xT _ kX6_orNotFound_c216) dX6_orNotFound_1 ?_
  refine lv_icmp_ne (tgt := 11) xE xB dX6_orNotFound_3 (by decide) (fun c_3 => ?_) (fun c_3 => ?_)
  · skip
    refine lv_iload_n xE xB dX6_orNotFound_11 rfl (lv_at xL 0 rfl) ?_
    exact xQ _ _ _ (by first | exact (if_neg c_3).symm | exact (if_pos (c_3)).symm) dX6_orNotFound_12
  · skip
    refine lv_ldc (v := (-1000004)) xE xB xO (xT _ kX6_orNotFound_c161) dX6_orNotFound_6 ?_
    refine lv_goto (tgt := 12) xE xB dX6_orNotFound_8 (by decide) ?_
    exact xQ _ _ _ (by first | exact (if_neg c_3).symm | exact (if_pos (c_3)).symm) dX6_orNotFound_12
theorem kX1_has_f15 : Cond.fieldLink RX1 15 "SkewedSquare$Matrix" "columns" "I" ∈ wsX1_has := by decide +kernel
theorem kX1_has_f9 : Cond.fieldLink RX1 9 "SkewedSquare$Matrix" "rows" "I" ∈ wsX1_has := by decide +kernel
theorem khX1_has_X1 : ∀ w ∈ u_ws RX1 TX1 3, w ∈ wsX1_has := by decide +kernel
set_option maxHeartbeats 4000000 in
set_option maxRecDepth 100000 in
/-- kX1_has -/
theorem kX1_has (l : Launch) (G : wG) (m : MA) (r c : Nat) (f : wF) (row col : Int32) (hr : r < 2147483648) (hc : c < 2147483648) : CR l yX1_has wsX1_has (rm 0 0) G [.ref m.1, .int row, .int col] (wM G m (r, c, f)) (fun x => (x = nI 1 ∧ (vp_in row r ∧ vp_in col c)) ∨ (x = nI 0 ∧ ¬ (vp_in row r ∧ vp_in col c))) := by
  refine CR.ofZ (own := RX1) rfl (by decide) rfl (Nat.le_of_ble_eq_true rfl) ?_
  intro p9 e9 s9 m9 b9 t9 c9 xE xB xM xO xT xK xP Q xQ ls hl
  have xL : lv_has ls 3 [(0, .ref m.1), (1, .int row), (2, .int col)] := hl
  refine lv_iload_n xE xB dX1_has_0 rfl (lv_at xL 1 rfl) ?_
  refine lv_if_lt (tgt := 28) xE xB dX1_has_1 (by decide) (fun c_1 => ?_) (fun c_1 => ?_)
  · skip
    refine lv_iconst (v := nI 0) xE xB dX1_has_28 (by decide) ?_
    exact xQ _ _ _ (Or.inr ⟨rfl, by first | exact ⟨vin_of hr c_1 c_9, vin_of hc c_13 c_21⟩ | exact fun h => vin_neg hr c_1 h.1 | exact fun h => vin_big hr c_9 h.1 | exact fun h => vin_neg hc c_13 h.2 | exact fun h => vin_big hc c_21 h.2⟩) (by decide) dX1_has_29
  · skip
    refine lv_iload_n xE xB dX1_has_4 rfl (lv_at xL 1 rfl) ?_
    refine lv_aload_n xE xB dX1_has_5 rfl (lv_at xL 0 rfl) ?_
    refine va_get (D := G.1) (ci := 1) (v := .int (nI r)) (C := RX1) (T := TX1) (N := 3) xE xB xT khX1_has_X1 xO xK.1 xP 0 rfl rfl 0 (by decide) (xT _ kX1_has_f9) (fun _ h9 => h9) rfl dX1_has_6 ?_
    refine lv_icmp_ge (tgt := 28) xE xB dX1_has_9 (by decide) (fun c_9 => ?_) (fun c_9 => ?_)
    · skip
      refine lv_iconst (v := nI 0) xE xB dX1_has_28 (by decide) ?_
      exact xQ _ _ _ (Or.inr ⟨rfl, by first | exact ⟨vin_of hr c_1 c_9, vin_of hc c_13 c_21⟩ | exact fun h => vin_neg hr c_1 h.1 | exact fun h => vin_big hr c_9 h.1 | exact fun h => vin_neg hc c_13 h.2 | exact fun h => vin_big hc c_21 h.2⟩) (by decide) dX1_has_29
    · skip
      refine lv_iload_n xE xB dX1_has_12 rfl (lv_at xL 2 rfl) ?_
      refine lv_if_lt (tgt := 28) xE xB dX1_has_13 (by decide) (fun c_13 => ?_) (fun c_13 => ?_)
      · skip
        refine lv_iconst (v := nI 0) xE xB dX1_has_28 (by decide) ?_
        exact xQ _ _ _ (Or.inr ⟨rfl, by first | exact ⟨vin_of hr c_1 c_9, vin_of hc c_13 c_21⟩ | exact fun h => vin_neg hr c_1 h.1 | exact fun h => vin_big hr c_9 h.1 | exact fun h => vin_neg hc c_13 h.2 | exact fun h => vin_big hc c_21 h.2⟩) (by decide) dX1_has_29
      · skip
        refine lv_iload_n xE xB dX1_has_16 rfl (lv_at xL 2 rfl) ?_
        refine lv_aload_n xE xB dX1_has_17 rfl (lv_at xL 0 rfl) ?_
        refine va_get (D := G.1) (ci := 1) (v := .int (nI c)) (C := RX1) (T := TX1) (N := 3) xE xB xT khX1_has_X1 xO xK.1 xP 0 rfl rfl 1 (by decide) (xT _ kX1_has_f15) (fun _ h9 => h9) rfl dX1_has_18 ?_
        refine lv_icmp_ge (tgt := 28) xE xB dX1_has_21 (by decide) (fun c_21 => ?_) (fun c_21 => ?_)
        · skip
          refine lv_iconst (v := nI 0) xE xB dX1_has_28 (by decide) ?_
          exact xQ _ _ _ (Or.inr ⟨rfl, by first | exact ⟨vin_of hr c_1 c_9, vin_of hc c_13 c_21⟩ | exact fun h => vin_neg hr c_1 h.1 | exact fun h => vin_big hr c_9 h.1 | exact fun h => vin_neg hc c_13 h.2 | exact fun h => vin_big hc c_21 h.2⟩) (by decide) dX1_has_29
        · skip
          refine lv_iconst (v := nI 1) xE xB dX1_has_24 (by decide) ?_
          refine lv_goto (tgt := 29) xE xB dX1_has_25 (by decide) ?_
          exact xQ _ _ _ (Or.inl ⟨rfl, by first | exact ⟨vin_of hr c_1 c_9, vin_of hc c_13 c_21⟩ | exact fun h => vin_neg hr c_1 h.1 | exact fun h => vin_big hr c_9 h.1 | exact fun h => vin_neg hc c_13 h.2 | exact fun h => vin_big hc c_21 h.2⟩) (by decide) dX1_has_29
theorem kX1_at_f15 : Cond.fieldLink RX1 15 "SkewedSquare$Matrix" "columns" "I" ∈ wsX1_at := by decide +kernel
theorem kX1_at_f18 : Cond.fieldLink RX1 18 "SkewedSquare$Matrix" "entries" "[I" ∈ wsX1_at := by decide +kernel
theorem kX1_at_f9 : Cond.fieldLink RX1 9 "SkewedSquare$Matrix" "rows" "I" ∈ wsX1_at := by decide +kernel
theorem khX1_at_X1 : ∀ w ∈ u_ws RX1 TX1 3, w ∈ wsX1_at := by decide +kernel
set_option maxHeartbeats 4000000 in
set_option maxRecDepth 100000 in
/-- kX1_at -/
theorem kX1_at (l : Launch) (G : wG) (m : MA) (r c : Nat) (f : wF) (i j : Nat) (hi : i < r) (hj : j < c) (hr : r ≤ 6) (hc : c ≤ 6) : CR l yX1_at wsX1_at (rm 0 0) G [.ref m.1, .int (nI i), .int (nI j)] (wM G m (r, c, f)) (fun x => x = f (6 * i + j)) := by
  refine CR.of (own := RX1) rfl (by decide) rfl (Nat.le_of_ble_eq_true rfl) ?_
  intro p9 e9 s9 m9 b9 t9 c9 xE xB xM xO xT xK xP Q xQ ls hl
  have xL : lv_has ls 3 [(0, .ref m.1), (1, .int (nI i)), (2, .int (nI j))] := hl
  refine lv_iload_n xE xB dX1_at_0 rfl (lv_at xL 1 rfl) ?_
  refine q_if_lt (tgt := 24) xE xB dX1_at_1 (by decide) (by omega) ?_
  refine lv_iload_n xE xB dX1_at_4 rfl (lv_at xL 1 rfl) ?_
  refine lv_aload_n xE xB dX1_at_5 rfl (lv_at xL 0 rfl) ?_
  refine va_get (D := G.1) (ci := 1) (v := .int (nI r)) (C := RX1) (T := TX1) (N := 3) xE xB xT khX1_at_X1 xO xK.1 xP 0 rfl rfl 0 (by decide) (xT _ kX1_at_f9) (fun _ h9 => h9) rfl dX1_at_6 ?_
  refine q_icmp_ge (tgt := 24) xE xB dX1_at_9 (by decide) (by omega) (by omega) (fun c_9 => absurd c_9 (by omega)) (fun c_9 => ?_)
  refine lv_iload_n xE xB dX1_at_12 rfl (lv_at xL 2 rfl) ?_
  refine q_if_lt (tgt := 24) xE xB dX1_at_13 (by decide) (by omega) ?_
  refine lv_iload_n xE xB dX1_at_16 rfl (lv_at xL 2 rfl) ?_
  refine lv_aload_n xE xB dX1_at_17 rfl (lv_at xL 0 rfl) ?_
  refine va_get (D := G.1) (ci := 1) (v := .int (nI c)) (C := RX1) (T := TX1) (N := 3) xE xB xT khX1_at_X1 xO xK.1 xP 0 rfl rfl 1 (by decide) (xT _ kX1_at_f15) (fun _ h9 => h9) rfl dX1_at_18 ?_
  refine q_icmp_lt (tgt := 26) xE xB dX1_at_21 (by decide) (by omega) (by omega) (fun c_21 => ?_) (fun c_21 => absurd c_21 (by omega))
  refine lv_aload_n xE xB dX1_at_26 rfl (lv_at xL 0 rfl) ?_
  refine va_get (D := G.1) (ci := 1) (v := .ref m.2) (C := RX1) (T := TX1) (N := 3) xE xB xT khX1_at_X1 xO xK.1 xP 0 rfl rfl 2 (by decide) (xT _ kX1_at_f18) (fun _ h9 => h9) rfl dX1_at_27 ?_
  refine lv_iload_n xE xB dX1_at_30 rfl (lv_at xL 1 rfl) ?_
  refine lv_bipush (v := nI 6) xE xB dX1_at_31 (by decide) ?_
  refine q_imul xE xB dX1_at_33 ?_
  refine lv_iload_n xE xB dX1_at_34 rfl (lv_at xL 2 rfl) ?_
  refine q_iadd xE xB dX1_at_35 ?_
  refine q_eq (y := nI (6 * i + j)) (congrArg nI (by omega)) ?_
  refine q_ald xE xB xK xP 1 rfl (by omega) (by decide) dX1_at_36 ?_
  exact xQ _ _ _ (by rfl) dX1_at_37
theorem kX1_put_f18 : Cond.fieldLink RX1 18 "SkewedSquare$Matrix" "entries" "[I" ∈ wsX1_put := by decide +kernel
theorem khX1_put_X1 : ∀ w ∈ u_ws RX1 TX1 3, w ∈ wsX1_put := by decide +kernel
set_option maxHeartbeats 4000000 in
set_option maxRecDepth 100000 in
/-- kX1_put -/
theorem kX1_put (l : Launch) (G : wG) (m : MA) (r c : Nat) (f : wF) (i j : Nat) (v : Int32) (hi : i < r) (hj : j < c) (hr : r ≤ 6) (hc : c ≤ 6) : CV (S := Unit) l yX1_put wsX1_put (rm 1 22) G [.ref m.1, .int (nI i), .int (nI j), .int v] (wM G m (r, c, f)) (fun u9 => True) (fun u9 => wM G m (r, c, upd f (6 * i + j) v)) := by
  refine CV.of (own := RX1) rfl (by decide) rfl (Nat.le_of_ble_eq_true rfl) ?_
  intro p9 e9 s9 m9 b9 t9 c9 A xE xB xM xO xT xK xP xD Q xQ xS ls hl
  have xL : lv_has ls 4 [(0, .ref m.1), (1, .int (nI i)), (2, .int (nI j)), (3, .int v)] := hl
  refine lv_aload_n xE xB dX1_put_0 rfl (lv_at xL 0 rfl) ?_
  refine lv_iload_n xE xB dX1_put_1 rfl (lv_at xL 1 rfl) ?_
  refine lv_iload_n xE xB dX1_put_2 rfl (lv_at xL 2 rfl) ?_
  refine q_VR (As := [.int (nI i), .int (nI j)]) (rest := []) ⟨xE, xB, xM, xO, xT⟩ (kX1_has l G m r c f (nI i) (nI j) (by omega) (by omega)) (cwV 2 xT gX1_put_X1_has rfl rfl rfl (by decide +kernel) ⟨Nat.le_of_ble_eq_true rfl, Nat.le_of_ble_eq_true rfl⟩) xK xP [0, 1] rfl 0 rfl rfl rfl rfl xL.1 rfl (Nat.le_of_ble_eq_true rfl) dX1_put_3 ⟨Nat.le_refl _, Nat.le_refl _⟩ (fun r_3 h_3 => ?_)
  rcases h_3 with ⟨h_3, c_3⟩ | ⟨h_3, c_3⟩
  rotate_left
  · exact absurd (by exact ⟨vp_in_nI hi (by omega), vp_in_nI hj (by omega)⟩) c_3
  subst h_3
  have c_3 : vp_in (nI i) r ∧ vp_in (nI j) c := c_3
  refine lv_if_eq (tgt := 21) xE xB dX1_put_6 (by decide) (fun h9 => absurd h9 (by decide)) (fun _ => ?_)
  refine lv_aload_n xE xB dX1_put_9 rfl (lv_at xL 0 rfl) ?_
  refine va_get (D := G.1) (ci := 1) (v := .ref m.2) (C := RX1) (T := TX1) (N := 3) xE xB xT khX1_put_X1 xO xK.1 xP 0 rfl rfl 2 (by decide) (xT _ kX1_put_f18) (fun _ h9 => h9) rfl dX1_put_10 ?_
  refine lv_iload_n xE xB dX1_put_13 rfl (lv_at xL 1 rfl) ?_
  refine lv_bipush (v := nI 6) xE xB dX1_put_14 (by decide) ?_
  refine q_imul xE xB dX1_put_16 ?_
  refine lv_iload_n xE xB dX1_put_17 rfl (lv_at xL 2 rfl) ?_
  refine q_iadd xE xB dX1_put_18 ?_
  refine q_eq (y := nI (6 * i + j)) (congrArg nI (by omega)) ?_
  refine lv_iload_n xE xB dX1_put_19 rfl (lv_at xL 3 rfl) ?_
  refine q_ast xE xB xK xP xD xS 1 rfl (by omega) (by decide) dX1_put_20 (fun H locs xP xD xS => ?_)
  have xP : va_P G.1 vwCl (wM G m (r, c, upd f (6 * i + j) v)) H := xP
  have xD : va_D A (wM G m (r, c, upd f (6 * i + j) v)) := xD
  exact xQ _ _ _ _ () trivial xP xD xS dX1_put_21
theorem kX1_renew_f15 : Cond.fieldLink RX1 15 "SkewedSquare$Matrix" "columns" "I" ∈ wsX1_renew := by decide +kernel
theorem kX1_renew_f18 : Cond.fieldLink RX1 18 "SkewedSquare$Matrix" "entries" "[I" ∈ wsX1_renew := by decide +kernel
theorem kX1_renew_f9 : Cond.fieldLink RX1 9 "SkewedSquare$Matrix" "rows" "I" ∈ wsX1_renew := by decide +kernel
theorem kX1_renew_i_X6_isLength : Cond.initialized RX6 ∈ wsX1_renew := by decide +kernel
theorem kX1_renew_s_X6_isLength : Cond.static yX6_isLength ∈ wsX1_renew := by decide +kernel
theorem khX1_renew_X1 : ∀ w ∈ u_ws RX1 TX1 3, w ∈ wsX1_renew := by decide +kernel
set_option maxHeartbeats 4000000 in
set_option maxRecDepth 100000 in
/-- kX1_renew -/
theorem kX1_renew (l : Launch) (G : wG) (m : MA) (r c : Nat) (f : wF) (r2 c2 : Nat) (v : Int32) (h1 : 1 ≤ r2) (h2 : r2 ≤ 6) (h3 : 1 ≤ c2) (h4 : c2 ≤ 6) : CV (S := Unit) l yX1_renew wsX1_renew (rm 1 23) G [.ref m.1, .int (nI r2), .int (nI c2), .int v] (wM G m (r, c, f)) (fun u9 => True) (fun u9 => wM G m (r2, c2, fillF 36 v f)) := by
  refine CV.of (own := RX1) rfl (by decide) rfl (Nat.le_of_ble_eq_true rfl) ?_
  intro p9 e9 s9 m9 b9 t9 c9 A xE xB xM xO xT xK xP xD Q xQ xS ls hl
  have xL : lv_has ls 4 [(0, .ref m.1), (1, .int (nI r2)), (2, .int (nI c2)), (3, .int v)] := hl
  refine lv_iload_n xE xB dX1_renew_0 rfl (lv_at xL 1 rfl) ?_
  refine q_NR (As := [.int (nI r2)]) (rest := []) ⟨xE, xB, xM, xO, xT⟩ (kX6_isLength l G (nI r2)) ⟨va_cnB 1 xT gX1_renew_X6_isLength_n26 rfl rfl rfl (xK.2 (RX1, 26, yX6_isLength, RX6) (by decide +kernel)) (xT _ kX1_renew_i_X6_isLength) (by decide +kernel) ⟨Nat.le_of_ble_eq_true rfl, Nat.le_of_ble_eq_true rfl⟩, (xT _ kX1_renew_s_X6_isLength)⟩ xK xP [] rfl rfl xL.1 rfl (Nat.le_of_ble_eq_true rfl) dX1_renew_1 ⟨Nat.le_refl _, Nat.le_refl _⟩ (fun r_1 h_1 => ?_)
  rcases h_1 with ⟨h_1, c_1⟩ | ⟨h_1, c_1⟩
  rotate_left
  · exact absurd (by exact ⟨r2, h1, h2, rfl⟩) c_1
  subst h_1
  have c_1 : ∃ j, 1 ≤ j ∧ j ≤ 6 ∧ (nI r2) = nI j := c_1
  refine lv_if_eq (tgt := 32) xE xB dX1_renew_4 (by decide) (fun h9 => absurd h9 (by decide)) (fun _ => ?_)
  refine lv_iload_n xE xB dX1_renew_7 rfl (lv_at xL 2 rfl) ?_
  refine q_NR (As := [.int (nI c2)]) (rest := []) ⟨xE, xB, xM, xO, xT⟩ (kX6_isLength l G (nI c2)) ⟨va_cnB 1 xT gX1_renew_X6_isLength_n26 rfl rfl rfl (xK.2 (RX1, 26, yX6_isLength, RX6) (by decide +kernel)) (xT _ kX1_renew_i_X6_isLength) (by decide +kernel) ⟨Nat.le_of_ble_eq_true rfl, Nat.le_of_ble_eq_true rfl⟩, (xT _ kX1_renew_s_X6_isLength)⟩ xK xP [] rfl rfl xL.1 rfl (Nat.le_of_ble_eq_true rfl) dX1_renew_8 ⟨Nat.le_refl _, Nat.le_refl _⟩ (fun r_8 h_8 => ?_)
  rcases h_8 with ⟨h_8, c_8⟩ | ⟨h_8, c_8⟩
  rotate_left
  · exact absurd (by exact ⟨c2, h3, h4, rfl⟩) c_8
  subst h_8
  have c_8 : ∃ j, 1 ≤ j ∧ j ≤ 6 ∧ (nI c2) = nI j := c_8
  refine lv_if_eq (tgt := 32) xE xB dX1_renew_11 (by decide) (fun h9 => absurd h9 (by decide)) (fun _ => ?_)
  refine lv_aload_n xE xB dX1_renew_14 rfl (lv_at xL 0 rfl) ?_
  refine lv_iload_n xE xB dX1_renew_15 rfl (lv_at xL 1 rfl) ?_
  refine va_put (D := G.1) (ci := 1) (v := .int (nI r2)) (ty := .int) (C := RX1) (T := TX1) (N := 3) xE xB xT khX1_renew_X1 tyX1 tyX1_ok nmX1 xO xK.1 xP xD xS 0 rfl rfl 0 (by decide) (xT _ kX1_renew_f9) (fun _ h9 => h9) rfl (by decide +kernel) rfl rfl (Nat.le_of_ble_eq_true rfl) dX1_renew_16 (fun H locs xP xD xS => ?_)
  have xP : va_P G.1 vwCl (wM G m (r2, c, f)) H := xP
  have xD : va_D A (wM G m (r2, c, f)) := xD
  refine lv_aload_n xE xB dX1_renew_19 rfl (lv_at xL 0 rfl) ?_
  refine lv_iload_n xE xB dX1_renew_20 rfl (lv_at xL 2 rfl) ?_
  refine va_put (D := G.1) (ci := 1) (v := .int (nI c2)) (ty := .int) (C := RX1) (T := TX1) (N := 3) xE xB xT khX1_renew_X1 tyX1 tyX1_ok nmX1 xO xK.1 xP xD xS 0 rfl rfl 1 (by decide) (xT _ kX1_renew_f15) (fun _ h9 => h9) rfl (by decide +kernel) rfl rfl (Nat.le_of_ble_eq_true rfl) dX1_renew_21 (fun H locs xP xD xS => ?_)
  have xP : va_P G.1 vwCl (wM G m (r2, c2, f)) H := xP
  have xD : va_D A (wM G m (r2, c2, f)) := xD
  refine lv_aload_n xE xB dX1_renew_24 rfl (lv_at xL 0 rfl) ?_
  refine va_get (D := G.1) (ci := 1) (v := .ref m.2) (C := RX1) (T := TX1) (N := 3) xE xB xT khX1_renew_X1 xO xK.1 xP 0 rfl rfl 2 (by decide) (xT _ kX1_renew_f18) (fun _ h9 => h9) rfl dX1_renew_25 ?_
  refine lv_iload_n xE xB dX1_renew_28 rfl (lv_at xL 3 rfl) ?_
  refine q_SV (As := [.ref m.2, .int v]) (rest := []) ⟨xE, xB, xM, xO, xT⟩ (kfill36 l G m.2 v f) (va_cwS 2 xT gX1_renew_J7_fill_53178 rfl rfl rfl (by decide +kernel) ⟨Nat.le_of_ble_eq_true rfl, Nat.le_of_ble_eq_true rfl⟩) xK xP xD xS [1] rfl (by decide +kernel) (fun _ => rfl) rfl xL.1 rfl (Nat.le_of_ble_eq_true rfl) dX1_renew_29 ⟨Nat.le_refl _, Nat.le_refl _⟩ (fun u_29 H locs h_29 xP xD xS => ?_)
  have xP : va_P G.1 vwCl (wM G m (r2, c2, fillF 36 v f)) H := xP
  have xD : va_D A (wM G m (r2, c2, fillF 36 v f)) := xD
  exact xQ _ _ _ _ () trivial xP xD xS dX1_renew_32
theorem kX1_copyFrom_f15 : Cond.fieldLink RX1 15 "SkewedSquare$Matrix" "columns" "I" ∈ wsX1_copyFrom := by decide +kernel
theorem kX1_copyFrom_f18 : Cond.fieldLink RX1 18 "SkewedSquare$Matrix" "entries" "[I" ∈ wsX1_copyFrom := by decide +kernel
theorem kX1_copyFrom_f9 : Cond.fieldLink RX1 9 "SkewedSquare$Matrix" "rows" "I" ∈ wsX1_copyFrom := by decide +kernel
theorem kX1_copyFrom_ini : Cond.initialized "java/lang/System" ∈ wsX1_copyFrom := by decide +kernel
theorem kX1_copyFrom_m36 : Cond.methodLink RX1 36 arraycopyName ∈ wsX1_copyFrom := by decide +kernel
theorem kX1_copyFrom_nat : Cond.native arraycopyName ∈ wsX1_copyFrom := by decide +kernel
theorem kX1_copyFrom_sta : Cond.static arraycopyName ∈ wsX1_copyFrom := by decide +kernel
theorem khX1_copyFrom_X1 : ∀ w ∈ u_ws RX1 TX1 3, w ∈ wsX1_copyFrom := by decide +kernel
set_option maxHeartbeats 4000000 in
set_option maxRecDepth 100000 in
/-- kX1_copyFrom -/
theorem kX1_copyFrom (l : Launch) (G : wG) (m m2 : MA) (r c r2 c2 : Nat) (f f2 : wF) : CV (S := Unit) l yX1_copyFrom wsX1_copyFrom (rm 1 18) G [.ref m.1, .ref m2.1] ((wM G m (r, c, f)) ++ (wM G m2 (r2, c2, f2))) (fun u9 => True) (fun u9 => (wM G m (r2, c2, va_cpy f2 f 0 0 36)) ++ (wM G m2 (r2, c2, f2))) := by
  refine CV.of (own := RX1) rfl (by decide) rfl (Nat.le_of_ble_eq_true rfl) ?_
  intro p9 e9 s9 m9 b9 t9 c9 A xE xB xM xO xT xK xP xD Q xQ xS ls hl
  have xL : lv_has ls 2 [(0, .ref m.1), (1, .ref m2.1)] := hl
  refine lv_aload_n xE xB dX1_copyFrom_0 rfl (lv_at xL 0 rfl) ?_
  refine lv_aload_n xE xB dX1_copyFrom_1 rfl (lv_at xL 1 rfl) ?_
  refine va_get (D := G.1) (ci := 1) (v := .int (nI r2)) (C := RX1) (T := TX1) (N := 3) xE xB xT khX1_copyFrom_X1 xO xK.1 xP 2 rfl rfl 0 (by decide) (xT _ kX1_copyFrom_f9) (fun _ h9 => h9) rfl dX1_copyFrom_2 ?_
  refine va_put (D := G.1) (ci := 1) (v := .int (nI r2)) (ty := .int) (C := RX1) (T := TX1) (N := 3) xE xB xT khX1_copyFrom_X1 tyX1 tyX1_ok nmX1 xO xK.1 xP xD xS 0 rfl rfl 0 (by decide) (xT _ kX1_copyFrom_f9) (fun _ h9 => h9) rfl (by decide +kernel) rfl rfl (Nat.le_of_ble_eq_true rfl) dX1_copyFrom_5 (fun H locs xP xD xS => ?_)
  have xP : va_P G.1 vwCl ((wM G m (r2, c, f)) ++ (wM G m2 (r2, c2, f2))) H := xP
  have xD : va_D A ((wM G m (r2, c, f)) ++ (wM G m2 (r2, c2, f2))) := xD
  refine lv_aload_n xE xB dX1_copyFrom_8 rfl (lv_at xL 0 rfl) ?_
  refine lv_aload_n xE xB dX1_copyFrom_9 rfl (lv_at xL 1 rfl) ?_
  refine va_get (D := G.1) (ci := 1) (v := .int (nI c2)) (C := RX1) (T := TX1) (N := 3) xE xB xT khX1_copyFrom_X1 xO xK.1 xP 2 rfl rfl 1 (by decide) (xT _ kX1_copyFrom_f15) (fun _ h9 => h9) rfl dX1_copyFrom_10 ?_
  refine va_put (D := G.1) (ci := 1) (v := .int (nI c2)) (ty := .int) (C := RX1) (T := TX1) (N := 3) xE xB xT khX1_copyFrom_X1 tyX1 tyX1_ok nmX1 xO xK.1 xP xD xS 0 rfl rfl 1 (by decide) (xT _ kX1_copyFrom_f15) (fun _ h9 => h9) rfl (by decide +kernel) rfl rfl (Nat.le_of_ble_eq_true rfl) dX1_copyFrom_13 (fun H locs xP xD xS => ?_)
  have xP : va_P G.1 vwCl ((wM G m (r2, c2, f)) ++ (wM G m2 (r2, c2, f2))) H := xP
  have xD : va_D A ((wM G m (r2, c2, f)) ++ (wM G m2 (r2, c2, f2))) := xD
  refine lv_aload_n xE xB dX1_copyFrom_16 rfl (lv_at xL 1 rfl) ?_
  refine va_get (D := G.1) (ci := 1) (v := .ref m2.2) (C := RX1) (T := TX1) (N := 3) xE xB xT khX1_copyFrom_X1 xO xK.1 xP 2 rfl rfl 2 (by decide) (xT _ kX1_copyFrom_f18) (fun _ h9 => h9) rfl dX1_copyFrom_17 ?_
  refine lv_iconst (v := nI 0) xE xB dX1_copyFrom_20 (by decide) ?_
  refine lv_aload_n xE xB dX1_copyFrom_21 rfl (lv_at xL 0 rfl) ?_
  refine va_get (D := G.1) (ci := 1) (v := .ref m.2) (C := RX1) (T := TX1) (N := 3) xE xB xT khX1_copyFrom_X1 xO xK.1 xP 0 rfl rfl 2 (by decide) (xT _ kX1_copyFrom_f18) (fun _ h9 => h9) rfl dX1_copyFrom_22 ?_
  refine lv_iconst (v := nI 0) xE xB dX1_copyFrom_25 (by decide) ?_
  refine lv_aload_n xE xB dX1_copyFrom_26 rfl (lv_at xL 0 rfl) ?_
  refine va_get (D := G.1) (ci := 1) (v := .ref m.2) (C := RX1) (T := TX1) (N := 3) xE xB xT khX1_copyFrom_X1 xO xK.1 xP 0 rfl rfl 2 (by decide) (xT _ kX1_copyFrom_f18) (fun _ h9 => h9) rfl dX1_copyFrom_27 ?_
  refine va_alen (v := nI 36) xE xB xK.1 xP 1 1 rfl rfl rfl dX1_copyFrom_30 ?_
  refine va_copyi xE xB (xM.trans xL.1.symm) xO (xT _ kX1_copyFrom_m36) (xT _ kX1_copyFrom_nat) (xT _ kX1_copyFrom_sta) (xT _ kX1_copyFrom_ini) xK.1 xP xD xS 3 1 1 1 rfl rfl rfl rfl rfl (by decide) (by decide) (by decide) (by decide) (by decide) (fun _ _ => rfl) (Nat.le_of_ble_eq_true rfl) (by decide) dX1_copyFrom_31 (fun H locs xP xD xS => ?_)
  have xP : va_P G.1 vwCl ((wM G m (r2, c2, va_cpy f2 f 0 0 36)) ++ (wM G m2 (r2, c2, f2))) H := xP
  have xD : va_D A ((wM G m (r2, c2, va_cpy f2 f 0 0 36)) ++ (wM G m2 (r2, c2, f2))) := xD
  exact xQ _ _ _ _ () trivial xP xD xS dX1_copyFrom_34
theorem kX2_renew_f15 : Cond.fieldLink RX2 15 "SkewedSquare$Square" "leftOut" "I" ∈ wsX2_renew := by decide +kernel
theorem kX2_renew_f18 : Cond.fieldLink RX2 18 "SkewedSquare$Square" "kinds" "[I" ∈ wsX2_renew := by decide +kernel
theorem kX2_renew_f9 : Cond.fieldLink RX2 9 "SkewedSquare$Square" "side" "I" ∈ wsX2_renew := by decide +kernel
theorem khX2_renew_X2 : ∀ w ∈ u_ws RX2 TX2 3, w ∈ wsX2_renew := by decide +kernel
set_option maxHeartbeats 4000000 in
set_option maxRecDepth 100000 in
/-- kX2_renew -/
theorem kX2_renew (l : Launch) (G : wG) (m : MA) (n o : Nat) (f : wF) (n2 : Nat) (h1 : 1 ≤ n2) (h2 : n2 ≤ 4) : CV (S := Unit) l yX2_renew wsX2_renew (rm 1 23) G [.ref m.1, .int (nI n2)] (wQ G m (n, o, f)) (fun u9 => True) (fun u9 => wQ G m (n2, n2, fillF 20 (nI 0) f)) := by
  refine CV.of (own := RX2) rfl (by decide) rfl (Nat.le_of_ble_eq_true rfl) ?_
  intro p9 e9 s9 m9 b9 t9 c9 A xE xB xM xO xT xK xP xD Q xQ xS ls hl
  have xL : lv_has ls 2 [(0, .ref m.1), (1, .int (nI n2))] := hl
  refine lv_iload_n xE xB dX2_renew_0 rfl (lv_at xL 1 rfl) ?_
  refine lv_iconst (v := nI 1) xE xB dX2_renew_1 (by decide) ?_
  refine q_icmp_lt (tgt := 28) xE xB dX2_renew_2 (by decide) (by omega) (by omega) (fun c_2 => absurd c_2 (by omega)) (fun c_2 => ?_)
  refine lv_iload_n xE xB dX2_renew_5 rfl (lv_at xL 1 rfl) ?_
  refine lv_iconst (v := nI 4) xE xB dX2_renew_6 (by decide) ?_
  refine q_icmp_gt (tgt := 28) xE xB dX2_renew_7 (by decide) (by omega) (by omega) (fun c_7 => absurd c_7 (by omega)) (fun c_7 => ?_)
  refine lv_aload_n xE xB dX2_renew_10 rfl (lv_at xL 0 rfl) ?_
  refine lv_iload_n xE xB dX2_renew_11 rfl (lv_at xL 1 rfl) ?_
  refine va_put (D := G.1) (ci := 2) (v := .int (nI n2)) (ty := .int) (C := RX2) (T := TX2) (N := 3) xE xB xT khX2_renew_X2 tyX2 tyX2_ok nmX2 xO xK.1 xP xD xS 0 rfl rfl 0 (by decide) (xT _ kX2_renew_f9) (fun _ h9 => h9) rfl (by decide +kernel) rfl rfl (Nat.le_of_ble_eq_true rfl) dX2_renew_12 (fun H locs xP xD xS => ?_)
  have xP : va_P G.1 vwCl (wQ G m (n2, o, f)) H := xP
  have xD : va_D A (wQ G m (n2, o, f)) := xD
  refine lv_aload_n xE xB dX2_renew_15 rfl (lv_at xL 0 rfl) ?_
  refine lv_iload_n xE xB dX2_renew_16 rfl (lv_at xL 1 rfl) ?_
  refine va_put (D := G.1) (ci := 2) (v := .int (nI n2)) (ty := .int) (C := RX2) (T := TX2) (N := 3) xE xB xT khX2_renew_X2 tyX2 tyX2_ok nmX2 xO xK.1 xP xD xS 0 rfl rfl 1 (by decide) (xT _ kX2_renew_f15) (fun _ h9 => h9) rfl (by decide +kernel) rfl rfl (Nat.le_of_ble_eq_true rfl) dX2_renew_17 (fun H locs xP xD xS => ?_)
  have xP : va_P G.1 vwCl (wQ G m (n2, n2, f)) H := xP
  have xD : va_D A (wQ G m (n2, n2, f)) := xD
  refine lv_aload_n xE xB dX2_renew_20 rfl (lv_at xL 0 rfl) ?_
  refine va_get (D := G.1) (ci := 2) (v := .ref m.2) (C := RX2) (T := TX2) (N := 3) xE xB xT khX2_renew_X2 xO xK.1 xP 0 rfl rfl 2 (by decide) (xT _ kX2_renew_f18) (fun _ h9 => h9) rfl dX2_renew_21 ?_
  refine lv_iconst (v := nI 0) xE xB dX2_renew_24 (by decide) ?_
  refine q_SV (As := [.ref m.2, .int (nI 0)]) (rest := []) ⟨xE, xB, xM, xO, xT⟩ (kfill20 l G m.2 (nI 0) f) (va_cwS 2 xT gX2_renew_J7_fill_53178 rfl rfl rfl (by decide +kernel) ⟨Nat.le_of_ble_eq_true rfl, Nat.le_of_ble_eq_true rfl⟩) xK xP xD xS [1] rfl (by decide +kernel) (fun _ => rfl) rfl xL.1 rfl (Nat.le_of_ble_eq_true rfl) dX2_renew_25 ⟨Nat.le_refl _, Nat.le_refl _⟩ (fun u_25 H locs h_25 xP xD xS => ?_)
  have xP : va_P G.1 vwCl (wQ G m (n2, n2, fillF 20 (nI 0) f)) H := xP
  have xD : va_D A (wQ G m (n2, n2, fillF 20 (nI 0) f)) := xD
  exact xQ _ _ _ _ () trivial xP xD xS dX2_renew_28
theorem kX2_has_f9 : Cond.fieldLink RX2 9 "SkewedSquare$Square" "side" "I" ∈ wsX2_has := by decide +kernel
theorem khX2_has_X2 : ∀ w ∈ u_ws RX2 TX2 3, w ∈ wsX2_has := by decide +kernel
set_option maxHeartbeats 4000000 in
set_option maxRecDepth 100000 in
/-- kX2_has -/
theorem kX2_has (l : Launch) (G : wG) (m : MA) (n o : Nat) (f : wF) (row col : Int32) (hn : n < 1000) : CR l yX2_has wsX2_has (rm 0 0) G [.ref m.1, .int row, .int col] (wQ G m (n, o, f)) (fun x => (x = nI 1 ∧ (vp_in row n ∧ vp_in col (n + 1))) ∨ (x = nI 0 ∧ ¬ (vp_in row n ∧ vp_in col (n + 1)))) := by
  refine CR.ofZ (own := RX2) rfl (by decide) rfl (Nat.le_of_ble_eq_true rfl) ?_
  intro p9 e9 s9 m9 b9 t9 c9 xE xB xM xO xT xK xP Q xQ ls hl
  have xL : lv_has ls 3 [(0, .ref m.1), (1, .int row), (2, .int col)] := hl
  refine lv_iload_n xE xB dX2_has_0 rfl (lv_at xL 1 rfl) ?_
  refine lv_if_lt (tgt := 28) xE xB dX2_has_1 (by decide) (fun c_1 => ?_) (fun c_1 => ?_)
  · skip
    refine lv_iconst (v := nI 0) xE xB dX2_has_28 (by decide) ?_
    exact xQ _ _ _ (Or.inr ⟨rfl, by first | exact ⟨vin_of (by omega) c_1 c_9, vin_le (by omega) c_13 c_21⟩ | exact fun h => vin_neg (by omega) c_1 h.1 | exact fun h => vin_big (by omega) c_9 h.1 | exact fun h => vin_neg (n := n + 1) (by omega) c_13 h.2 | exact fun h => vin_gt (by omega) c_21 h.2⟩) (by decide) dX2_has_29
  · skip
    refine lv_iload_n xE xB dX2_has_4 rfl (lv_at xL 1 rfl) ?_
    refine lv_aload_n xE xB dX2_has_5 rfl (lv_at xL 0 rfl) ?_
    refine va_get (D := G.1) (ci := 2) (v := .int (nI n)) (C := RX2) (T := TX2) (N := 3) xE xB xT khX2_has_X2 xO xK.1 xP 0 rfl rfl 0 (by decide) (xT _ kX2_has_f9) (fun _ h9 => h9) rfl dX2_has_6 ?_
    refine lv_icmp_ge (tgt := 28) xE xB dX2_has_9 (by decide) (fun c_9 => ?_) (fun c_9 => ?_)
    · skip
      refine lv_iconst (v := nI 0) xE xB dX2_has_28 (by decide) ?_
      exact xQ _ _ _ (Or.inr ⟨rfl, by first | exact ⟨vin_of (by omega) c_1 c_9, vin_le (by omega) c_13 c_21⟩ | exact fun h => vin_neg (by omega) c_1 h.1 | exact fun h => vin_big (by omega) c_9 h.1 | exact fun h => vin_neg (n := n + 1) (by omega) c_13 h.2 | exact fun h => vin_gt (by omega) c_21 h.2⟩) (by decide) dX2_has_29
    · skip
      refine lv_iload_n xE xB dX2_has_12 rfl (lv_at xL 2 rfl) ?_
      refine lv_if_lt (tgt := 28) xE xB dX2_has_13 (by decide) (fun c_13 => ?_) (fun c_13 => ?_)
      · skip
        refine lv_iconst (v := nI 0) xE xB dX2_has_28 (by decide) ?_
        exact xQ _ _ _ (Or.inr ⟨rfl, by first | exact ⟨vin_of (by omega) c_1 c_9, vin_le (by omega) c_13 c_21⟩ | exact fun h => vin_neg (by omega) c_1 h.1 | exact fun h => vin_big (by omega) c_9 h.1 | exact fun h => vin_neg (n := n + 1) (by omega) c_13 h.2 | exact fun h => vin_gt (by omega) c_21 h.2⟩) (by decide) dX2_has_29
      · skip
        refine lv_iload_n xE xB dX2_has_16 rfl (lv_at xL 2 rfl) ?_
        refine lv_aload_n xE xB dX2_has_17 rfl (lv_at xL 0 rfl) ?_
        refine va_get (D := G.1) (ci := 2) (v := .int (nI n)) (C := RX2) (T := TX2) (N := 3) xE xB xT khX2_has_X2 xO xK.1 xP 0 rfl rfl 0 (by decide) (xT _ kX2_has_f9) (fun _ h9 => h9) rfl dX2_has_18 ?_
        refine lv_icmp_gt (tgt := 28) xE xB dX2_has_21 (by decide) (fun c_21 => ?_) (fun c_21 => ?_)
        · skip
          refine lv_iconst (v := nI 0) xE xB dX2_has_28 (by decide) ?_
          exact xQ _ _ _ (Or.inr ⟨rfl, by first | exact ⟨vin_of (by omega) c_1 c_9, vin_le (by omega) c_13 c_21⟩ | exact fun h => vin_neg (by omega) c_1 h.1 | exact fun h => vin_big (by omega) c_9 h.1 | exact fun h => vin_neg (n := n + 1) (by omega) c_13 h.2 | exact fun h => vin_gt (by omega) c_21 h.2⟩) (by decide) dX2_has_29
        · skip
          refine lv_iconst (v := nI 1) xE xB dX2_has_24 (by decide) ?_
          refine lv_goto (tgt := 29) xE xB dX2_has_25 (by decide) ?_
          exact xQ _ _ _ (Or.inl ⟨rfl, by first | exact ⟨vin_of (by omega) c_1 c_9, vin_le (by omega) c_13 c_21⟩ | exact fun h => vin_neg (by omega) c_1 h.1 | exact fun h => vin_big (by omega) c_9 h.1 | exact fun h => vin_neg (n := n + 1) (by omega) c_13 h.2 | exact fun h => vin_gt (by omega) c_21 h.2⟩) (by decide) dX2_has_29
theorem kX2_kindAt_f18 : Cond.fieldLink RX2 18 "SkewedSquare$Square" "kinds" "[I" ∈ wsX2_kindAt := by decide +kernel
theorem khX2_kindAt_X2 : ∀ w ∈ u_ws RX2 TX2 3, w ∈ wsX2_kindAt := by decide +kernel
set_option maxHeartbeats 4000000 in
set_option maxRecDepth 100000 in
/-- kX2_kindAt -/
theorem kX2_kindAt (l : Launch) (G : wG) (m : MA) (n o : Nat) (f : wF) (i j : Nat) (hi : i < n) (hj : j ≤ n) (hn : n ≤ 4) : CR l yX2_kindAt wsX2_kindAt (rm 1 22) G [.ref m.1, .int (nI i), .int (nI j)] (wQ G m (n, o, f)) (fun x => x = f (5 * i + j)) := by
  refine CR.of (own := RX2) rfl (by decide) rfl (Nat.le_of_ble_eq_true rfl) ?_
  intro p9 e9 s9 m9 b9 t9 c9 xE xB xM xO xT xK xP Q xQ ls hl
  have xL : lv_has ls 3 [(0, .ref m.1), (1, .int (nI i)), (2, .int (nI j))] := hl
  refine lv_aload_n xE xB dX2_kindAt_0 rfl (lv_at xL 0 rfl) ?_
  refine lv_iload_n xE xB dX2_kindAt_1 rfl (lv_at xL 1 rfl) ?_
  refine lv_iload_n xE xB dX2_kindAt_2 rfl (lv_at xL 2 rfl) ?_
  refine q_VR (As := [.int (nI i), .int (nI j)]) (rest := []) ⟨xE, xB, xM, xO, xT⟩ (kX2_has l G m n o f (nI i) (nI j) (by omega)) (cwV 2 xT gX2_kindAt_X2_has rfl rfl rfl (by decide +kernel) ⟨Nat.le_of_ble_eq_true rfl, Nat.le_of_ble_eq_true rfl⟩) xK xP [0, 1] rfl 0 rfl rfl rfl rfl xL.1 rfl (Nat.le_of_ble_eq_true rfl) dX2_kindAt_3 ⟨Nat.le_refl _, Nat.le_refl _⟩ (fun r_3 h_3 => ?_)
  rcases h_3 with ⟨h_3, c_3⟩ | ⟨h_3, c_3⟩
  rotate_left
  · exact absurd (by exact ⟨vp_in_nI hi (by omega), vp_in_nI (Nat.lt_succ_of_le hj) (by omega)⟩) c_3
  subst h_3
  have c_3 : vp_in (nI i) n ∧ vp_in (nI j) (n + 1) := c_3
  refine lv_if_eq (tgt := 22) xE xB dX2_kindAt_6 (by decide) (fun h9 => absurd h9 (by decide)) (fun _ => ?_)
  refine lv_aload_n xE xB dX2_kindAt_9 rfl (lv_at xL 0 rfl) ?_
  refine va_get (D := G.1) (ci := 2) (v := .ref m.2) (C := RX2) (T := TX2) (N := 3) xE xB xT khX2_kindAt_X2 xO xK.1 xP 0 rfl rfl 2 (by decide) (xT _ kX2_kindAt_f18) (fun _ h9 => h9) rfl dX2_kindAt_10 ?_
  refine lv_iload_n xE xB dX2_kindAt_13 rfl (lv_at xL 1 rfl) ?_
  refine lv_iconst (v := nI 5) xE xB dX2_kindAt_14 (by decide) ?_
  refine q_imul xE xB dX2_kindAt_15 ?_
  refine lv_iload_n xE xB dX2_kindAt_16 rfl (lv_at xL 2 rfl) ?_
  refine q_iadd xE xB dX2_kindAt_17 ?_
  refine q_eq (y := nI (5 * i + j)) (congrArg nI (by omega)) ?_
  refine q_ald xE xB xK xP 1 rfl (by omega) (by decide) dX2_kindAt_18 ?_
  refine lv_goto (tgt := 23) xE xB dX2_kindAt_19 (by decide) ?_
  exact xQ _ _ _ (by rfl) dX2_kindAt_23
theorem kX2_setKind_f18 : Cond.fieldLink RX2 18 "SkewedSquare$Square" "kinds" "[I" ∈ wsX2_setKind := by decide +kernel
theorem khX2_setKind_X2 : ∀ w ∈ u_ws RX2 TX2 3, w ∈ wsX2_setKind := by decide +kernel
set_option maxHeartbeats 4000000 in
set_option maxRecDepth 100000 in
/-- kX2_setKind -/
theorem kX2_setKind (l : Launch) (G : wG) (m : MA) (n o : Nat) (f : wF) (i j : Nat) (v : Int32) (hi : i < n) (hj : j ≤ n) (hn : n ≤ 4) : CV (S := Unit) l yX2_setKind wsX2_setKind (rm 1 22) G [.ref m.1, .int (nI i), .int (nI j), .int v] (wQ G m (n, o, f)) (fun u9 => True) (fun u9 => wQ G m (n, o, upd f (5 * i + j) v)) := by
  refine CV.of (own := RX2) rfl (by decide) rfl (Nat.le_of_ble_eq_true rfl) ?_
  intro p9 e9 s9 m9 b9 t9 c9 A xE xB xM xO xT xK xP xD Q xQ xS ls hl
  have xL : lv_has ls 4 [(0, .ref m.1), (1, .int (nI i)), (2, .int (nI j)), (3, .int v)] := hl
  refine lv_aload_n xE xB dX2_setKind_0 rfl (lv_at xL 0 rfl) ?_
  refine lv_iload_n xE xB dX2_setKind_1 rfl (lv_at xL 1 rfl) ?_
  refine lv_iload_n xE xB dX2_setKind_2 rfl (lv_at xL 2 rfl) ?_
  refine q_VR (As := [.int (nI i), .int (nI j)]) (rest := []) ⟨xE, xB, xM, xO, xT⟩ (kX2_has l G m n o f (nI i) (nI j) (by omega)) (cwV 2 xT gX2_setKind_X2_has rfl rfl rfl (by decide +kernel) ⟨Nat.le_of_ble_eq_true rfl, Nat.le_of_ble_eq_true rfl⟩) xK xP [0, 1] rfl 0 rfl rfl rfl rfl xL.1 rfl (Nat.le_of_ble_eq_true rfl) dX2_setKind_3 ⟨Nat.le_refl _, Nat.le_refl _⟩ (fun r_3 h_3 => ?_)
  rcases h_3 with ⟨h_3, c_3⟩ | ⟨h_3, c_3⟩
  rotate_left
  · exact absurd (by exact ⟨vp_in_nI hi (by omega), vp_in_nI (Nat.lt_succ_of_le hj) (by omega)⟩) c_3
  subst h_3
  have c_3 : vp_in (nI i) n ∧ vp_in (nI j) (n + 1) := c_3
  refine lv_if_eq (tgt := 20) xE xB dX2_setKind_6 (by decide) (fun h9 => absurd h9 (by decide)) (fun _ => ?_)
  refine lv_aload_n xE xB dX2_setKind_9 rfl (lv_at xL 0 rfl) ?_
  refine va_get (D := G.1) (ci := 2) (v := .ref m.2) (C := RX2) (T := TX2) (N := 3) xE xB xT khX2_setKind_X2 xO xK.1 xP 0 rfl rfl 2 (by decide) (xT _ kX2_setKind_f18) (fun _ h9 => h9) rfl dX2_setKind_10 ?_
  refine lv_iload_n xE xB dX2_setKind_13 rfl (lv_at xL 1 rfl) ?_
  refine lv_iconst (v := nI 5) xE xB dX2_setKind_14 (by decide) ?_
  refine q_imul xE xB dX2_setKind_15 ?_
  refine lv_iload_n xE xB dX2_setKind_16 rfl (lv_at xL 2 rfl) ?_
  refine q_iadd xE xB dX2_setKind_17 ?_
  refine q_eq (y := nI (5 * i + j)) (congrArg nI (by omega)) ?_
  refine lv_iload_n xE xB dX2_setKind_18 rfl (lv_at xL 3 rfl) ?_
  refine q_ast xE xB xK xP xD xS 1 rfl (by omega) (by decide) dX2_setKind_19 (fun H locs xP xD xS => ?_)
  have xP : va_P G.1 vwCl (wQ G m (n, o, upd f (5 * i + j) v)) H := xP
  have xD : va_D A (wQ G m (n, o, upd f (5 * i + j) v)) := xD
  exact xQ _ _ _ _ () trivial xP xD xS dX2_setKind_20
theorem kX2_placeOf_f15 : Cond.fieldLink RX2 15 "SkewedSquare$Square" "leftOut" "I" ∈ wsX2_placeOf := by decide +kernel
theorem khX2_placeOf_X2 : ∀ w ∈ u_ws RX2 TX2 3, w ∈ wsX2_placeOf := by decide +kernel
set_option maxHeartbeats 4000000 in
set_option maxRecDepth 100000 in
/-- kX2_placeOf -/
theorem kX2_placeOf (l : Launch) (G : wG) (m : MA) (n o : Nat) (f : wF) (j : Nat) (hj : j < 1000) (ho : o < 1000) : CR l yX2_placeOf wsX2_placeOf (rm 0 0) G [.ref m.1, .int (nI j)] (wQ G m (n, o, f)) (fun x => x = nI (if j < o then j else j + 1)) := by
  refine CR.of (own := RX2) rfl (by decide) rfl (Nat.le_of_ble_eq_true rfl) ?_
  intro p9 e9 s9 m9 b9 t9 c9 xE xB xM xO xT xK xP Q xQ ls hl
  have xL : lv_has ls 2 [(0, .ref m.1), (1, .int (nI j))] := hl
  refine lv_iload_n xE xB dX2_placeOf_0 rfl (lv_at xL 1 rfl) ?_
  refine lv_aload_n xE xB dX2_placeOf_1 rfl (lv_at xL 0 rfl) ?_
  refine va_get (D := G.1) (ci := 2) (v := .int (nI o)) (C := RX2) (T := TX2) (N := 3) xE xB xT khX2_placeOf_X2 xO xK.1 xP 0 rfl rfl 1 (by decide) (xT _ kX2_placeOf_f15) (fun _ h9 => h9) rfl dX2_placeOf_2 ?_
  refine q_icmp_ge (tgt := 12) xE xB dX2_placeOf_5 (by decide) (by omega) (by omega) (fun c_5 => ?_) (fun c_5 => ?_)
  · skip
    refine lv_iload_n xE xB dX2_placeOf_12 rfl (lv_at xL 1 rfl) ?_
    refine lv_iconst (v := nI 1) xE xB dX2_placeOf_13 (by decide) ?_
    refine q_iadd xE xB dX2_placeOf_14 ?_
    exact xQ _ _ _ (by first | exact congrArg nI (if_pos c_5).symm | exact congrArg nI (if_neg (Nat.not_lt.mpr c_5)).symm) dX2_placeOf_15
  · skip
    refine lv_iload_n xE xB dX2_placeOf_8 rfl (lv_at xL 1 rfl) ?_
    refine lv_goto (tgt := 15) xE xB dX2_placeOf_9 (by decide) ?_
    exact xQ _ _ _ (by first | exact congrArg nI (if_pos c_5).symm | exact congrArg nI (if_neg (Nat.not_lt.mpr c_5)).symm) dX2_placeOf_15
theorem kX2_faultyCells_f9 : Cond.fieldLink RX2 9 "SkewedSquare$Square" "side" "I" ∈ wsX2_faultyCells := by decide +kernel
theorem khX2_faultyCells_X2 : ∀ w ∈ u_ws RX2 TX2 3, w ∈ wsX2_faultyCells := by decide +kernel
set_option maxHeartbeats 4000000 in
set_option maxRecDepth 100000 in
/-- kX2_faultyCells -/
theorem kX2_faultyCells (l : Launch) (G : wG) (m : MA) (n o : Nat) (f : wF) (hn : n ≤ 4) : CR l yX2_faultyCells wsX2_faultyCells (rm 2 44) G [.ref m.1] (wQ G m (n, o, f)) (fun x => x = nI (ns (fun a => ns (fun b => if f (5 * a + b) = 0 then 0 else 1) (n + 1)) n)) := by
  refine CR.of (own := RX2) rfl (by decide) rfl (Nat.le_of_ble_eq_true rfl) ?_
  intro p9 e9 s9 m9 b9 t9 c9 xE xB xM xO xT xK xP Q xQ ls hl
  have xL : lv_has ls 4 [(0, .ref m.1)] := hl
  refine lv_iconst (v := nI 0) xE xB dX2_faultyCells_0 (by decide) ?_
  refine lv_istore_n (lv' := [(1, .int (nI 0)), (0, .ref m.1)]) xE xB dX2_faultyCells_1 rfl xL (by decide) rfl (fun ls xL => ?_)
  refine lv_iconst (v := nI 0) xE xB dX2_faultyCells_2 (by decide) ?_
  refine lv_istore_n (lv' := [(2, .int (nI 0)), (1, .int (nI 0)), (0, .ref m.1)]) xE xB dX2_faultyCells_3 rfl xL (by decide) rfl (fun ls xL => ?_)
  have L_4 : ∀ (n_4 : Nat) (i x : Nat), (i ≤ n) → (x = ns (fun a => ns (fun b => if f (5 * a + b) = 0 then 0 else 1) (n + 1)) i) → n - i < n_4 → ∀ (ls : Array Slot), lv_has ls 4 [(0, .ref m.1), (1, .int (nI x)), (2, .int (nI i))] → W p9 l e9 (rm 2 44) s9 m9 ([.ref m.1] : List Value).toArray b9 t9 c9 s9.heap [] 0 0 Q (F0 m9 4 ls []) := by
    intro n_4
    induction n_4 with
    | zero => intro i x hi hx hm_4 ls xL; exact absurd hm_4 (Nat.not_lt_zero _)
    | succ n_4 ih_4 =>
      intro i x hi hx hm_4 ls xL
      refine lv_iload_n xE xB dX2_faultyCells_4 rfl (lv_at xL 2 rfl) ?_
      refine lv_aload_n xE xB dX2_faultyCells_5 rfl (lv_at xL 0 rfl) ?_
      refine va_get (D := G.1) (ci := 2) (v := .int (nI n)) (C := RX2) (T := TX2) (N := 3) xE xB xT khX2_faultyCells_X2 xO xK.1 xP 0 rfl rfl 0 (by decide) (xT _ kX2_faultyCells_f9) (fun _ h9 => h9) rfl dX2_faultyCells_6 ?_
      refine q_icmp_ge (tgt := 46) xE xB dX2_faultyCells_9 (by decide) (by omega) (by omega) (fun c_9 => ?_) (fun c_9 => ?_)
      · skip
        refine lv_iload_n xE xB dX2_faultyCells_46 rfl (lv_at xL 1 rfl) ?_
        exact xQ _ _ _ (by obtain rfl : n = i := (by omega); exact congrArg nI hx) dX2_faultyCells_47
      · skip
        refine lv_iconst (v := nI 0) xE xB dX2_faultyCells_12 (by decide) ?_
        refine lv_istore_n (lv' := [(3, .int (nI 0)), (0, .ref m.1), (1, .int (nI x)), (2, .int (nI i))]) xE xB dX2_faultyCells_13 rfl xL (by decide) rfl (fun ls xL => ?_)
        have L_14 : ∀ (n_14 : Nat) (j y : Nat), (j ≤ n + 1) → (y = x + ns (fun b => if f (5 * i + b) = 0 then 0 else 1) j) → n + 1 - j < n_14 → ∀ (ls : Array Slot), lv_has ls 4 [(0, .ref m.1), (1, .int (nI y)), (2, .int (nI i)), (3, .int (nI j))] → W p9 l e9 (rm 2 44) s9 m9 ([.ref m.1] : List Value).toArray b9 t9 c9 s9.heap [] 0 0 Q (F0 m9 14 ls []) := by
          intro n_14
          induction n_14 with
          | zero => intro j y hj hy hm_14 ls xL; exact absurd hm_14 (Nat.not_lt_zero _)
          | succ n_14 ih_14 =>
            intro j y hj hy hm_14 ls xL
            refine lv_iload_n xE xB dX2_faultyCells_14 rfl (lv_at xL 3 rfl) ?_
            refine lv_aload_n xE xB dX2_faultyCells_15 rfl (lv_at xL 0 rfl) ?_
            refine va_get (D := G.1) (ci := 2) (v := .int (nI n)) (C := RX2) (T := TX2) (N := 3) xE xB xT khX2_faultyCells_X2 xO xK.1 xP 0 rfl rfl 0 (by decide) (xT _ kX2_faultyCells_f9) (fun _ h9 => h9) rfl dX2_faultyCells_16 ?_
            refine q_icmp_gt (tgt := 40) xE xB dX2_faultyCells_19 (by decide) (by omega) (by omega) (fun c_19 => ?_) (fun c_19 => ?_)
            · skip
              refine lv_iinc (v := nI (i + 1)) (lv' := [(2, .int (nI (i + 1))), (0, .ref m.1), (1, .int (nI y)), (3, .int (nI j))]) xE xB dX2_faultyCells_40 xL (k := 2) rfl (q_inc _ _) (by decide) rfl (fun ls xL => ?_)
              refine lv_goto (tgt := 4) xE xB dX2_faultyCells_43 (by decide) ?_
              exact ih_4 (i + 1) y (by omega) (by rw [hy, hx]; obtain rfl : j = n + 1 := (by omega); rfl) (by omega) _ (lv_sub xL [1, 2, 0] rfl)
            · skip
              refine lv_aload_n xE xB dX2_faultyCells_22 rfl (lv_at xL 0 rfl) ?_
              refine lv_iload_n xE xB dX2_faultyCells_23 rfl (lv_at xL 2 rfl) ?_
              refine lv_iload_n xE xB dX2_faultyCells_24 rfl (lv_at xL 3 rfl) ?_
              refine q_VR (As := [.int (nI i), .int (nI j)]) (rest := []) ⟨xE, xB, xM, xO, xT⟩ (kX2_kindAt l G m n o f i j (by omega) (by omega) (by omega)) (cwV 2 xT gX2_faultyCells_X2_kindAt rfl rfl rfl (by decide +kernel) ⟨Nat.le_of_ble_eq_true rfl, Nat.le_of_ble_eq_true rfl⟩) xK xP [0, 1] rfl 0 rfl rfl rfl rfl xL.1 rfl (Nat.le_of_ble_eq_true rfl) dX2_faultyCells_25 ⟨Nat.le_refl _, Nat.le_refl _⟩ (fun r_25 h_25 => ?_)
              obtain rfl : r_25 = f (5 * i + j) := h_25
              refine lv_if_eq (tgt := 34) xE xB dX2_faultyCells_28 (by decide) (fun c_28 => ?_) (fun c_28 => ?_)
              · skip
                refine lv_iinc (v := nI (j + 1)) (lv' := [(3, .int (nI (j + 1))), (0, .ref m.1), (1, .int (nI y)), (2, .int (nI i))]) xE xB dX2_faultyCells_34 xL (k := 3) rfl (q_inc _ _) (by decide) rfl (fun ls xL => ?_)
                refine lv_goto (tgt := 14) xE xB dX2_faultyCells_37 (by decide) ?_
                exact ih_14 (j + 1) y (by omega) (by first | (rw [hy]; show x + ns _ j + 1 = x + (ns _ j + (if _ then 0 else 1)); rw [if_neg c_28]; omega) | (rw [hy]; show x + ns _ j = x + (ns _ j + (if _ then 0 else 1)); rw [if_pos (c_28)]; omega)) (by omega) _ (lv_sub xL [1, 2, 3, 0] rfl)
              · skip
                refine lv_iinc (v := nI (y + 1)) (lv' := [(1, .int (nI (y + 1))), (0, .ref m.1), (2, .int (nI i)), (3, .int (nI j))]) xE xB dX2_faultyCells_31 xL (k := 1) rfl (q_inc _ _) (by decide) rfl (fun ls xL => ?_)
                refine lv_iinc (v := nI (j + 1)) (lv' := [(3, .int (nI (j + 1))), (1, .int (nI (y + 1))), (0, .ref m.1), (2, .int (nI i))]) xE xB dX2_faultyCells_34 xL (k := 3) rfl (q_inc _ _) (by decide) rfl (fun ls xL => ?_)
                refine lv_goto (tgt := 14) xE xB dX2_faultyCells_37 (by decide) ?_
                exact ih_14 (j + 1) (y + 1) (by omega) (by first | (rw [hy]; show x + ns _ j + 1 = x + (ns _ j + (if _ then 0 else 1)); rw [if_neg c_28]; omega) | (rw [hy]; show x + ns _ j = x + (ns _ j + (if _ then 0 else 1)); rw [if_pos (c_28)]; omega)) (by omega) _ (lv_sub xL [2, 1, 3, 0] rfl)
        exact L_14 (n + 1 - 0 + 1) 0 x (by omega) (by rfl) (Nat.lt_succ_self _) _ (lv_sub xL [1, 2, 3, 0] rfl)
  exact L_4 (n - 0 + 1) 0 0 (by omega) (by rfl) (Nat.lt_succ_self _) _ (lv_sub xL [2, 1, 0] rfl)
theorem kX2_copyFrom_f15 : Cond.fieldLink RX2 15 "SkewedSquare$Square" "leftOut" "I" ∈ wsX2_copyFrom := by decide +kernel
theorem kX2_copyFrom_f18 : Cond.fieldLink RX2 18 "SkewedSquare$Square" "kinds" "[I" ∈ wsX2_copyFrom := by decide +kernel
theorem kX2_copyFrom_f9 : Cond.fieldLink RX2 9 "SkewedSquare$Square" "side" "I" ∈ wsX2_copyFrom := by decide +kernel
theorem kX2_copyFrom_ini : Cond.initialized "java/lang/System" ∈ wsX2_copyFrom := by decide +kernel
theorem kX2_copyFrom_m36 : Cond.methodLink RX2 36 arraycopyName ∈ wsX2_copyFrom := by decide +kernel
theorem kX2_copyFrom_nat : Cond.native arraycopyName ∈ wsX2_copyFrom := by decide +kernel
theorem kX2_copyFrom_sta : Cond.static arraycopyName ∈ wsX2_copyFrom := by decide +kernel
theorem khX2_copyFrom_X2 : ∀ w ∈ u_ws RX2 TX2 3, w ∈ wsX2_copyFrom := by decide +kernel
set_option maxHeartbeats 4000000 in
set_option maxRecDepth 100000 in
/-- kX2_copyFrom -/
theorem kX2_copyFrom (l : Launch) (G : wG) (m m2 : MA) (n o n2 o2 : Nat) (f f2 : wF) : CV (S := Unit) l yX2_copyFrom wsX2_copyFrom (rm 1 18) G [.ref m.1, .ref m2.1] ((wQ G m (n, o, f)) ++ (wQ G m2 (n2, o2, f2))) (fun u9 => True) (fun u9 => (wQ G m (n2, o2, va_cpy f2 f 0 0 20)) ++ (wQ G m2 (n2, o2, f2))) := by
  refine CV.of (own := RX2) rfl (by decide) rfl (Nat.le_of_ble_eq_true rfl) ?_
  intro p9 e9 s9 m9 b9 t9 c9 A xE xB xM xO xT xK xP xD Q xQ xS ls hl
  have xL : lv_has ls 2 [(0, .ref m.1), (1, .ref m2.1)] := hl
  refine lv_aload_n xE xB dX2_copyFrom_0 rfl (lv_at xL 0 rfl) ?_
  refine lv_aload_n xE xB dX2_copyFrom_1 rfl (lv_at xL 1 rfl) ?_
  refine va_get (D := G.1) (ci := 2) (v := .int (nI n2)) (C := RX2) (T := TX2) (N := 3) xE xB xT khX2_copyFrom_X2 xO xK.1 xP 2 rfl rfl 0 (by decide) (xT _ kX2_copyFrom_f9) (fun _ h9 => h9) rfl dX2_copyFrom_2 ?_
  refine va_put (D := G.1) (ci := 2) (v := .int (nI n2)) (ty := .int) (C := RX2) (T := TX2) (N := 3) xE xB xT khX2_copyFrom_X2 tyX2 tyX2_ok nmX2 xO xK.1 xP xD xS 0 rfl rfl 0 (by decide) (xT _ kX2_copyFrom_f9) (fun _ h9 => h9) rfl (by decide +kernel) rfl rfl (Nat.le_of_ble_eq_true rfl) dX2_copyFrom_5 (fun H locs xP xD xS => ?_)
  have xP : va_P G.1 vwCl ((wQ G m (n2, o, f)) ++ (wQ G m2 (n2, o2, f2))) H := xP
  have xD : va_D A ((wQ G m (n2, o, f)) ++ (wQ G m2 (n2, o2, f2))) := xD
  refine lv_aload_n xE xB dX2_copyFrom_8 rfl (lv_at xL 0 rfl) ?_
  refine lv_aload_n xE xB dX2_copyFrom_9 rfl (lv_at xL 1 rfl) ?_
  refine va_get (D := G.1) (ci := 2) (v := .int (nI o2)) (C := RX2) (T := TX2) (N := 3) xE xB xT khX2_copyFrom_X2 xO xK.1 xP 2 rfl rfl 1 (by decide) (xT _ kX2_copyFrom_f15) (fun _ h9 => h9) rfl dX2_copyFrom_10 ?_
  refine va_put (D := G.1) (ci := 2) (v := .int (nI o2)) (ty := .int) (C := RX2) (T := TX2) (N := 3) xE xB xT khX2_copyFrom_X2 tyX2 tyX2_ok nmX2 xO xK.1 xP xD xS 0 rfl rfl 1 (by decide) (xT _ kX2_copyFrom_f15) (fun _ h9 => h9) rfl (by decide +kernel) rfl rfl (Nat.le_of_ble_eq_true rfl) dX2_copyFrom_13 (fun H locs xP xD xS => ?_)
  have xP : va_P G.1 vwCl ((wQ G m (n2, o2, f)) ++ (wQ G m2 (n2, o2, f2))) H := xP
  have xD : va_D A ((wQ G m (n2, o2, f)) ++ (wQ G m2 (n2, o2, f2))) := xD
  refine lv_aload_n xE xB dX2_copyFrom_16 rfl (lv_at xL 1 rfl) ?_
  refine va_get (D := G.1) (ci := 2) (v := .ref m2.2) (C := RX2) (T := TX2) (N := 3) xE xB xT khX2_copyFrom_X2 xO xK.1 xP 2 rfl rfl 2 (by decide) (xT _ kX2_copyFrom_f18) (fun _ h9 => h9) rfl dX2_copyFrom_17 ?_
  refine lv_iconst (v := nI 0) xE xB dX2_copyFrom_20 (by decide) ?_
  refine lv_aload_n xE xB dX2_copyFrom_21 rfl (lv_at xL 0 rfl) ?_
  refine va_get (D := G.1) (ci := 2) (v := .ref m.2) (C := RX2) (T := TX2) (N := 3) xE xB xT khX2_copyFrom_X2 xO xK.1 xP 0 rfl rfl 2 (by decide) (xT _ kX2_copyFrom_f18) (fun _ h9 => h9) rfl dX2_copyFrom_22 ?_
  refine lv_iconst (v := nI 0) xE xB dX2_copyFrom_25 (by decide) ?_
  refine lv_aload_n xE xB dX2_copyFrom_26 rfl (lv_at xL 0 rfl) ?_
  refine va_get (D := G.1) (ci := 2) (v := .ref m.2) (C := RX2) (T := TX2) (N := 3) xE xB xT khX2_copyFrom_X2 xO xK.1 xP 0 rfl rfl 2 (by decide) (xT _ kX2_copyFrom_f18) (fun _ h9 => h9) rfl dX2_copyFrom_27 ?_
  refine va_alen (v := nI 20) xE xB xK.1 xP 1 1 rfl rfl rfl dX2_copyFrom_30 ?_
  refine va_copyi xE xB (xM.trans xL.1.symm) xO (xT _ kX2_copyFrom_m36) (xT _ kX2_copyFrom_nat) (xT _ kX2_copyFrom_sta) (xT _ kX2_copyFrom_ini) xK.1 xP xD xS 3 1 1 1 rfl rfl rfl rfl rfl (by decide) (by decide) (by decide) (by decide) (by decide) (fun _ _ => rfl) (Nat.le_of_ble_eq_true rfl) (by decide) dX2_copyFrom_31 (fun H locs xP xD xS => ?_)
  have xP : va_P G.1 vwCl ((wQ G m (n2, o2, va_cpy f2 f 0 0 20)) ++ (wQ G m2 (n2, o2, f2))) H := xP
  have xD : va_D A ((wQ G m (n2, o2, va_cpy f2 f 0 0 20)) ++ (wQ G m2 (n2, o2, f2))) := xD
  exact xQ _ _ _ _ () trivial xP xD xS dX2_copyFrom_34
set_option maxHeartbeats 4000000 in
set_option maxRecDepth 100000 in
/-- kX5_cell -/
theorem kX5_cell (l : Launch) (G : wG) (i j : Nat) : CR l yX5_cell wsX5_cell (rm 0 0) G [.int (nI i), .int (nI j)] (([] : va_W)) (fun x => x = nI (4 * i + j)) := by
  refine CR.of (own := RX5) rfl (by decide) rfl (Nat.le_of_ble_eq_true rfl) ?_
  intro p9 e9 s9 m9 b9 t9 c9 xE xB xM xO xT xK xP Q xQ ls hl
  have xL : lv_has ls 2 [(0, .int (nI i)), (1, .int (nI j))] := hl
  refine lv_iload_n xE xB dX5_cell_0 rfl (lv_at xL 0 rfl) ?_
  refine lv_iconst (v := nI 4) xE xB dX5_cell_1 (by decide) ?_
  refine q_imul xE xB dX5_cell_2 ?_
  refine lv_iload_n xE xB dX5_cell_3 rfl (lv_at xL 1 rfl) ?_
  refine q_iadd xE xB dX5_cell_4 ?_
  exact xQ _ _ _ (congrArg nI (by first | rfl | omega)) dX5_cell_5
set_option maxHeartbeats 4000000 in
set_option maxRecDepth 100000 in
/-- kX5_isCell -/
theorem kX5_isCell (l : Launch) (G : wG) (k : Nat) (hk : k < 16) : CR l yX5_isCell wsX5_isCell (rm 0 0) G [.int (nI k)] (([] : va_W)) (fun x => (x = nI 1 ∧ (True)) ∨ (x = nI 0 ∧ ¬ (True))) := by
  refine CR.ofZ (own := RX5) rfl (by decide) rfl (Nat.le_of_ble_eq_true rfl) ?_
  intro p9 e9 s9 m9 b9 t9 c9 xE xB xM xO xT xK xP Q xQ ls hl
  have xL : lv_has ls 1 [(0, .int (nI k))] := hl
  refine lv_iload_n xE xB dX5_isCell_0 rfl (lv_at xL 0 rfl) ?_
  refine q_if_lt (tgt := 14) xE xB dX5_isCell_1 (by decide) (by omega) ?_
  refine lv_iload_n xE xB dX5_isCell_4 rfl (lv_at xL 0 rfl) ?_
  refine lv_bipush (v := nI 16) xE xB dX5_isCell_5 (by decide) ?_
  refine q_icmp_ge (tgt := 14) xE xB dX5_isCell_7 (by decide) (by omega) (by omega) (fun c_7 => absurd c_7 (by omega)) (fun c_7 => ?_)
  refine lv_iconst (v := nI 1) xE xB dX5_isCell_10 (by decide) ?_
  refine lv_goto (tgt := 15) xE xB dX5_isCell_11 (by decide) ?_
  exact xQ _ _ _ (Or.inl ⟨rfl, by trivial⟩) (by decide) dX5_isCell_15
theorem kX5_empty_c30 : Cond.constant RX5 30 (-999999999) ∈ wsX5_empty := by decide +kernel
theorem kX5_empty_f15 : Cond.fieldLink RX5 15 "SkewedSquare$Tile" "meetings" "[I" ∈ wsX5_empty := by decide +kernel
theorem kX5_empty_f18 : Cond.fieldLink RX5 18 "SkewedSquare$Tile" "rightward" "[I" ∈ wsX5_empty := by decide +kernel
theorem kX5_empty_f21 : Cond.fieldLink RX5 21 "SkewedSquare$Tile" "downward" "[I" ∈ wsX5_empty := by decide +kernel
theorem kX5_empty_f31 : Cond.fieldLink RX5 31 "SkewedSquare$Tile" "ticks" "I" ∈ wsX5_empty := by decide +kernel
theorem kX5_empty_f9 : Cond.fieldLink RX5 9 "SkewedSquare$Tile" "sums" "[I" ∈ wsX5_empty := by decide +kernel
theorem khX5_empty_X5 : ∀ w ∈ u_ws RX5 TX5 11, w ∈ wsX5_empty := by decide +kernel
set_option maxHeartbeats 4000000 in
set_option maxRecDepth 100000 in
/-- kX5_empty -/
theorem kX5_empty (l : Launch) (G : wG) (m : TA) (b ta tb th tw tt tn : Nat) (sm0 mt rw dn : wF) : CV (S := Unit) l yX5_empty wsX5_empty (rm 1 23) G [.ref m.1] (wT G m (b, ta, tb, th, tw, tt, tn, sm0, mt, rw, dn)) (fun u9 => True) (fun u9 => wT G m (b, ta, tb, th, tw, 0, tn, fillF 16 (nI 0) sm0, fillF 16 (nI 0) mt, fillF 16 NO rw, fillF 16 NO dn)) := by
  refine CV.of (own := RX5) rfl (by decide) rfl (Nat.le_of_ble_eq_true rfl) ?_
  intro p9 e9 s9 m9 b9 t9 c9 A xE xB xM xO xT xK xP xD Q xQ xS ls hl
  have xL : lv_has ls 1 [(0, .ref m.1)] := hl
  refine lv_aload_n xE xB dX5_empty_0 rfl (lv_at xL 0 rfl) ?_
  refine va_get (D := G.1) (ci := 5) (v := .ref m.2.1) (C := RX5) (T := TX5) (N := 11) xE xB xT khX5_empty_X5 xO xK.1 xP 0 rfl rfl 7 (by decide) (xT _ kX5_empty_f9) (fun _ h9 => h9) rfl dX5_empty_1 ?_
  refine lv_iconst (v := nI 0) xE xB dX5_empty_4 (by decide) ?_
  refine q_SV (As := [.ref m.2.1, .int (nI 0)]) (rest := []) ⟨xE, xB, xM, xO, xT⟩ (kfill16 l G m.2.1 (nI 0) sm0) (va_cwS 2 xT gX5_empty_J7_fill_53178 rfl rfl rfl (by decide +kernel) ⟨Nat.le_of_ble_eq_true rfl, Nat.le_of_ble_eq_true rfl⟩) xK xP xD xS [1] rfl (by decide +kernel) (fun _ => rfl) rfl xL.1 rfl (Nat.le_of_ble_eq_true rfl) dX5_empty_5 ⟨Nat.le_refl _, Nat.le_refl _⟩ (fun u_5 H locs h_5 xP xD xS => ?_)
  have xP : va_P G.1 vwCl (wT G m (b, ta, tb, th, tw, tt, tn, fillF 16 (nI 0) sm0, mt, rw, dn)) H := xP
  have xD : va_D A (wT G m (b, ta, tb, th, tw, tt, tn, fillF 16 (nI 0) sm0, mt, rw, dn)) := xD
  refine lv_aload_n xE xB dX5_empty_8 rfl (lv_at xL 0 rfl) ?_
  refine va_get (D := G.1) (ci := 5) (v := .ref m.2.2.1) (C := RX5) (T := TX5) (N := 11) xE xB xT khX5_empty_X5 xO xK.1 xP 0 rfl rfl 8 (by decide) (xT _ kX5_empty_f15) (fun _ h9 => h9) rfl dX5_empty_9 ?_
  refine lv_iconst (v := nI 0) xE xB dX5_empty_12 (by decide) ?_
  refine q_SV (As := [.ref m.2.2.1, .int (nI 0)]) (rest := []) ⟨xE, xB, xM, xO, xT⟩ (kfill16 l G m.2.2.1 (nI 0) mt) (va_cwS 2 xT gX5_empty_J7_fill_53178 rfl rfl rfl (by decide +kernel) ⟨Nat.le_of_ble_eq_true rfl, Nat.le_of_ble_eq_true rfl⟩) xK xP xD xS [2] rfl (by decide +kernel) (fun _ => rfl) rfl xL.1 rfl (Nat.le_of_ble_eq_true rfl) dX5_empty_13 ⟨Nat.le_refl _, Nat.le_refl _⟩ (fun u_13 H locs h_13 xP xD xS => ?_)
  have xP : va_P G.1 vwCl (wT G m (b, ta, tb, th, tw, tt, tn, fillF 16 (nI 0) sm0, fillF 16 (nI 0) mt, rw, dn)) H := xP
  have xD : va_D A (wT G m (b, ta, tb, th, tw, tt, tn, fillF 16 (nI 0) sm0, fillF 16 (nI 0) mt, rw, dn)) := xD
  refine lv_aload_n xE xB dX5_empty_16 rfl (lv_at xL 0 rfl) ?_
  refine va_get (D := G.1) (ci := 5) (v := .ref m.2.2.2.1) (C := RX5) (T := TX5) (N := 11) xE xB xT khX5_empty_X5 xO xK.1 xP 0 rfl rfl 9 (by decide) (xT _ kX5_empty_f18) (fun _ h9 => h9) rfl dX5_empty_17 ?_
  refine lv_ldc (v := (-999999999)) xE xB xO (xT _ kX5_empty_c30) dX5_empty_20 ?_
  refine q_SV (As := [.ref m.2.2.2.1, .int (-999999999)]) (rest := []) ⟨xE, xB, xM, xO, xT⟩ (kfill16 l G m.2.2.2.1 (-999999999) rw) (va_cwS 2 xT gX5_empty_J7_fill_53178 rfl rfl rfl (by decide +kernel) ⟨Nat.le_of_ble_eq_true rfl, Nat.le_of_ble_eq_true rfl⟩) xK xP xD xS [3] rfl (by decide +kernel) (fun _ => rfl) rfl xL.1 rfl (Nat.le_of_ble_eq_true rfl) dX5_empty_22 ⟨Nat.le_refl _, Nat.le_refl _⟩ (fun u_22 H locs h_22 xP xD xS => ?_)
  have xP : va_P G.1 vwCl (wT G m (b, ta, tb, th, tw, tt, tn, fillF 16 (nI 0) sm0, fillF 16 (nI 0) mt, fillF 16 (-999999999) rw, dn)) H := xP
  have xD : va_D A (wT G m (b, ta, tb, th, tw, tt, tn, fillF 16 (nI 0) sm0, fillF 16 (nI 0) mt, fillF 16 (-999999999) rw, dn)) := xD
  refine lv_aload_n xE xB dX5_empty_25 rfl (lv_at xL 0 rfl) ?_
  refine va_get (D := G.1) (ci := 5) (v := .ref m.2.2.2.2) (C := RX5) (T := TX5) (N := 11) xE xB xT khX5_empty_X5 xO xK.1 xP 0 rfl rfl 10 (by decide) (xT _ kX5_empty_f21) (fun _ h9 => h9) rfl dX5_empty_26 ?_
  refine lv_ldc (v := (-999999999)) xE xB xO (xT _ kX5_empty_c30) dX5_empty_29 ?_
  refine q_SV (As := [.ref m.2.2.2.2, .int (-999999999)]) (rest := []) ⟨xE, xB, xM, xO, xT⟩ (kfill16 l G m.2.2.2.2 (-999999999) dn) (va_cwS 2 xT gX5_empty_J7_fill_53178 rfl rfl rfl (by decide +kernel) ⟨Nat.le_of_ble_eq_true rfl, Nat.le_of_ble_eq_true rfl⟩) xK xP xD xS [4] rfl (by decide +kernel) (fun _ => rfl) rfl xL.1 rfl (Nat.le_of_ble_eq_true rfl) dX5_empty_31 ⟨Nat.le_refl _, Nat.le_refl _⟩ (fun u_31 H locs h_31 xP xD xS => ?_)
  have xP : va_P G.1 vwCl (wT G m (b, ta, tb, th, tw, tt, tn, fillF 16 (nI 0) sm0, fillF 16 (nI 0) mt, fillF 16 (-999999999) rw, fillF 16 (-999999999) dn)) H := xP
  have xD : va_D A (wT G m (b, ta, tb, th, tw, tt, tn, fillF 16 (nI 0) sm0, fillF 16 (nI 0) mt, fillF 16 (-999999999) rw, fillF 16 (-999999999) dn)) := xD
  refine lv_aload_n xE xB dX5_empty_34 rfl (lv_at xL 0 rfl) ?_
  refine lv_iconst (v := nI 0) xE xB dX5_empty_35 (by decide) ?_
  refine va_put (D := G.1) (ci := 5) (v := .int (nI 0)) (ty := .int) (C := RX5) (T := TX5) (N := 11) xE xB xT khX5_empty_X5 tyX5 tyX5_ok nmX5 xO xK.1 xP xD xS 0 rfl rfl 5 (by decide) (xT _ kX5_empty_f31) (fun _ h9 => h9) rfl (by decide +kernel) rfl rfl (Nat.le_of_ble_eq_true rfl) dX5_empty_36 (fun H locs xP xD xS => ?_)
  have xP : va_P G.1 vwCl (wT G m (b, ta, tb, th, tw, 0, tn, fillF 16 (nI 0) sm0, fillF 16 (nI 0) mt, fillF 16 (-999999999) rw, fillF 16 (-999999999) dn)) H := xP
  have xD : va_D A (wT G m (b, ta, tb, th, tw, 0, tn, fillF 16 (nI 0) sm0, fillF 16 (nI 0) mt, fillF 16 (-999999999) rw, fillF 16 (-999999999) dn)) := xD
  exact xQ _ _ _ _ () trivial xP xD xS dX5_empty_39
theorem kX5_ticksLeft_f31 : Cond.fieldLink RX5 31 "SkewedSquare$Tile" "ticks" "I" ∈ wsX5_ticksLeft := by decide +kernel
theorem kX5_ticksLeft_f35 : Cond.fieldLink RX5 35 "SkewedSquare$Tile" "ticksNeeded" "I" ∈ wsX5_ticksLeft := by decide +kernel
theorem khX5_ticksLeft_X5 : ∀ w ∈ u_ws RX5 TX5 11, w ∈ wsX5_ticksLeft := by decide +kernel
set_option maxHeartbeats 4000000 in
set_option maxRecDepth 100000 in
/-- kX5_ticksLeft -/
theorem kX5_ticksLeft (l : Launch) (G : wG) (m : TA) (b ta tb th tw tt tn : Nat) (sm0 mt rw dn : wF) (h : tt ≤ tn) : CR l yX5_ticksLeft wsX5_ticksLeft (rm 0 0) G [.ref m.1] (wT G m (b, ta, tb, th, tw, tt, tn, sm0, mt, rw, dn)) (fun x => x = nI (tn - tt)) := by
  refine CR.of (own := RX5) rfl (by decide) rfl (Nat.le_of_ble_eq_true rfl) ?_
  intro p9 e9 s9 m9 b9 t9 c9 xE xB xM xO xT xK xP Q xQ ls hl
  have xL : lv_has ls 1 [(0, .ref m.1)] := hl
  refine lv_aload_n xE xB dX5_ticksLeft_0 rfl (lv_at xL 0 rfl) ?_
  refine va_get (D := G.1) (ci := 5) (v := .int (nI tn)) (C := RX5) (T := TX5) (N := 11) xE xB xT khX5_ticksLeft_X5 xO xK.1 xP 0 rfl rfl 6 (by decide) (xT _ kX5_ticksLeft_f35) (fun _ h9 => h9) rfl dX5_ticksLeft_1 ?_
  refine lv_aload_n xE xB dX5_ticksLeft_4 rfl (lv_at xL 0 rfl) ?_
  refine va_get (D := G.1) (ci := 5) (v := .int (nI tt)) (C := RX5) (T := TX5) (N := 11) xE xB xT khX5_ticksLeft_X5 xO xK.1 xP 0 rfl rfl 5 (by decide) (xT _ kX5_ticksLeft_f31) (fun _ h9 => h9) rfl dX5_ticksLeft_5 ?_
  refine q_isub xE xB dX5_ticksLeft_8 (by omega) ?_
  exact xQ _ _ _ (congrArg nI (by first | rfl | omega)) dX5_ticksLeft_9
theorem kX5_sumOf_f9 : Cond.fieldLink RX5 9 "SkewedSquare$Tile" "sums" "[I" ∈ wsX5_sumOf := by decide +kernel
theorem khX5_sumOf_X5 : ∀ w ∈ u_ws RX5 TX5 11, w ∈ wsX5_sumOf := by decide +kernel
set_option maxHeartbeats 4000000 in
set_option maxRecDepth 100000 in
/-- kX5_sumOf -/
theorem kX5_sumOf (l : Launch) (G : wG) (m : TA) (b ta tb th tw tt tn : Nat) (sm0 mt rw dn : wF) (k : Nat) (hk : k < 16) : CR l yX5_sumOf wsX5_sumOf (rm 1 20) G [.ref m.1, .int (nI k)] (wT G m (b, ta, tb, th, tw, tt, tn, sm0, mt, rw, dn)) (fun x => x = sm0 k) := by
  refine CR.of (own := RX5) rfl (by decide) rfl (Nat.le_of_ble_eq_true rfl) ?_
  intro p9 e9 s9 m9 b9 t9 c9 xE xB xM xO xT xK xP Q xQ ls hl
  have xL : lv_has ls 2 [(0, .ref m.1), (1, .int (nI k))] := hl
  refine lv_iload_n xE xB dX5_sumOf_0 rfl (lv_at xL 1 rfl) ?_
  refine q_SR (As := [.int (nI k)]) (rest := []) ⟨xE, xB, xM, xO, xT⟩ (kX5_isCell l G k (by omega)) (va_cwS 1 xT gX5_sumOf_X5_isCell rfl rfl rfl (by decide +kernel) ⟨Nat.le_of_ble_eq_true rfl, Nat.le_of_ble_eq_true rfl⟩) xK xP [] rfl rfl xL.1 rfl (Nat.le_of_ble_eq_true rfl) dX5_sumOf_1 ⟨Nat.le_refl _, Nat.le_refl _⟩ (fun r_1 h_1 => ?_)
  rcases h_1 with ⟨h_1, c_1⟩ | ⟨h_1, c_1⟩
  rotate_left
  · exact absurd (by trivial) c_1
  subst h_1
  have c_1 : True := c_1
  refine lv_if_eq (tgt := 16) xE xB dX5_sumOf_4 (by decide) (fun h9 => absurd h9 (by decide)) (fun _ => ?_)
  refine lv_aload_n xE xB dX5_sumOf_7 rfl (lv_at xL 0 rfl) ?_
  refine va_get (D := G.1) (ci := 5) (v := .ref m.2.1) (C := RX5) (T := TX5) (N := 11) xE xB xT khX5_sumOf_X5 xO xK.1 xP 0 rfl rfl 7 (by decide) (xT _ kX5_sumOf_f9) (fun _ h9 => h9) rfl dX5_sumOf_8 ?_
  refine lv_iload_n xE xB dX5_sumOf_11 rfl (lv_at xL 1 rfl) ?_
  refine q_ald xE xB xK xP 1 rfl (by omega) (by decide) dX5_sumOf_12 ?_
  refine lv_goto (tgt := 17) xE xB dX5_sumOf_13 (by decide) ?_
  exact xQ _ _ _ (by rfl) dX5_sumOf_17
theorem kX5_meetingsOf_f15 : Cond.fieldLink RX5 15 "SkewedSquare$Tile" "meetings" "[I" ∈ wsX5_meetingsOf := by decide +kernel
theorem khX5_meetingsOf_X5 : ∀ w ∈ u_ws RX5 TX5 11, w ∈ wsX5_meetingsOf := by decide +kernel
set_option maxHeartbeats 4000000 in
set_option maxRecDepth 100000 in
/-- kX5_meetingsOf -/
theorem kX5_meetingsOf (l : Launch) (G : wG) (m : TA) (b ta tb th tw tt tn : Nat) (sm0 mt rw dn : wF) (k : Nat) (hk : k < 16) : CR l yX5_meetingsOf wsX5_meetingsOf (rm 1 20) G [.ref m.1, .int (nI k)] (wT G m (b, ta, tb, th, tw, tt, tn, sm0, mt, rw, dn)) (fun x => x = mt k) := by
  refine CR.of (own := RX5) rfl (by decide) rfl (Nat.le_of_ble_eq_true rfl) ?_
  intro p9 e9 s9 m9 b9 t9 c9 xE xB xM xO xT xK xP Q xQ ls hl
  have xL : lv_has ls 2 [(0, .ref m.1), (1, .int (nI k))] := hl
  refine lv_iload_n xE xB dX5_meetingsOf_0 rfl (lv_at xL 1 rfl) ?_
  refine q_SR (As := [.int (nI k)]) (rest := []) ⟨xE, xB, xM, xO, xT⟩ (kX5_isCell l G k (by omega)) (va_cwS 1 xT gX5_meetingsOf_X5_isCell rfl rfl rfl (by decide +kernel) ⟨Nat.le_of_ble_eq_true rfl, Nat.le_of_ble_eq_true rfl⟩) xK xP [] rfl rfl xL.1 rfl (Nat.le_of_ble_eq_true rfl) dX5_meetingsOf_1 ⟨Nat.le_refl _, Nat.le_refl _⟩ (fun r_1 h_1 => ?_)
  rcases h_1 with ⟨h_1, c_1⟩ | ⟨h_1, c_1⟩
  rotate_left
  · exact absurd (by trivial) c_1
  subst h_1
  have c_1 : True := c_1
  refine lv_if_eq (tgt := 16) xE xB dX5_meetingsOf_4 (by decide) (fun h9 => absurd h9 (by decide)) (fun _ => ?_)
  refine lv_aload_n xE xB dX5_meetingsOf_7 rfl (lv_at xL 0 rfl) ?_
  refine va_get (D := G.1) (ci := 5) (v := .ref m.2.2.1) (C := RX5) (T := TX5) (N := 11) xE xB xT khX5_meetingsOf_X5 xO xK.1 xP 0 rfl rfl 8 (by decide) (xT _ kX5_meetingsOf_f15) (fun _ h9 => h9) rfl dX5_meetingsOf_8 ?_
  refine lv_iload_n xE xB dX5_meetingsOf_11 rfl (lv_at xL 1 rfl) ?_
  refine q_ald xE xB xK xP 2 rfl (by omega) (by decide) dX5_meetingsOf_12 ?_
  refine lv_goto (tgt := 17) xE xB dX5_meetingsOf_13 (by decide) ?_
  exact xQ _ _ _ (by rfl) dX5_meetingsOf_17
theorem kX5_rightwardOf_f18 : Cond.fieldLink RX5 18 "SkewedSquare$Tile" "rightward" "[I" ∈ wsX5_rightwardOf := by decide +kernel
theorem khX5_rightwardOf_X5 : ∀ w ∈ u_ws RX5 TX5 11, w ∈ wsX5_rightwardOf := by decide +kernel
set_option maxHeartbeats 4000000 in
set_option maxRecDepth 100000 in
/-- kX5_rightwardOf -/
theorem kX5_rightwardOf (l : Launch) (G : wG) (m : TA) (b ta tb th tw tt tn : Nat) (sm0 mt rw dn : wF) (k : Nat) (hk : k < 16) : CR l yX5_rightwardOf wsX5_rightwardOf (rm 1 20) G [.ref m.1, .int (nI k)] (wT G m (b, ta, tb, th, tw, tt, tn, sm0, mt, rw, dn)) (fun x => x = rw k) := by
  refine CR.of (own := RX5) rfl (by decide) rfl (Nat.le_of_ble_eq_true rfl) ?_
  intro p9 e9 s9 m9 b9 t9 c9 xE xB xM xO xT xK xP Q xQ ls hl
  have xL : lv_has ls 2 [(0, .ref m.1), (1, .int (nI k))] := hl
  refine lv_iload_n xE xB dX5_rightwardOf_0 rfl (lv_at xL 1 rfl) ?_
  refine q_SR (As := [.int (nI k)]) (rest := []) ⟨xE, xB, xM, xO, xT⟩ (kX5_isCell l G k (by omega)) (va_cwS 1 xT gX5_rightwardOf_X5_isCell rfl rfl rfl (by decide +kernel) ⟨Nat.le_of_ble_eq_true rfl, Nat.le_of_ble_eq_true rfl⟩) xK xP [] rfl rfl xL.1 rfl (Nat.le_of_ble_eq_true rfl) dX5_rightwardOf_1 ⟨Nat.le_refl _, Nat.le_refl _⟩ (fun r_1 h_1 => ?_)
  rcases h_1 with ⟨h_1, c_1⟩ | ⟨h_1, c_1⟩
  rotate_left
  · exact absurd (by trivial) c_1
  subst h_1
  have c_1 : True := c_1
  refine lv_if_eq (tgt := 16) xE xB dX5_rightwardOf_4 (by decide) (fun h9 => absurd h9 (by decide)) (fun _ => ?_)
  refine lv_aload_n xE xB dX5_rightwardOf_7 rfl (lv_at xL 0 rfl) ?_
  refine va_get (D := G.1) (ci := 5) (v := .ref m.2.2.2.1) (C := RX5) (T := TX5) (N := 11) xE xB xT khX5_rightwardOf_X5 xO xK.1 xP 0 rfl rfl 9 (by decide) (xT _ kX5_rightwardOf_f18) (fun _ h9 => h9) rfl dX5_rightwardOf_8 ?_
  refine lv_iload_n xE xB dX5_rightwardOf_11 rfl (lv_at xL 1 rfl) ?_
  refine q_ald xE xB xK xP 3 rfl (by omega) (by decide) dX5_rightwardOf_12 ?_
  refine lv_goto (tgt := 18) xE xB dX5_rightwardOf_13 (by decide) ?_
  exact xQ _ _ _ (by rfl) dX5_rightwardOf_18
theorem kX5_downwardOf_f21 : Cond.fieldLink RX5 21 "SkewedSquare$Tile" "downward" "[I" ∈ wsX5_downwardOf := by decide +kernel
theorem khX5_downwardOf_X5 : ∀ w ∈ u_ws RX5 TX5 11, w ∈ wsX5_downwardOf := by decide +kernel
set_option maxHeartbeats 4000000 in
set_option maxRecDepth 100000 in
/-- kX5_downwardOf -/
theorem kX5_downwardOf (l : Launch) (G : wG) (m : TA) (b ta tb th tw tt tn : Nat) (sm0 mt rw dn : wF) (k : Nat) (hk : k < 16) : CR l yX5_downwardOf wsX5_downwardOf (rm 1 20) G [.ref m.1, .int (nI k)] (wT G m (b, ta, tb, th, tw, tt, tn, sm0, mt, rw, dn)) (fun x => x = dn k) := by
  refine CR.of (own := RX5) rfl (by decide) rfl (Nat.le_of_ble_eq_true rfl) ?_
  intro p9 e9 s9 m9 b9 t9 c9 xE xB xM xO xT xK xP Q xQ ls hl
  have xL : lv_has ls 2 [(0, .ref m.1), (1, .int (nI k))] := hl
  refine lv_iload_n xE xB dX5_downwardOf_0 rfl (lv_at xL 1 rfl) ?_
  refine q_SR (As := [.int (nI k)]) (rest := []) ⟨xE, xB, xM, xO, xT⟩ (kX5_isCell l G k (by omega)) (va_cwS 1 xT gX5_downwardOf_X5_isCell rfl rfl rfl (by decide +kernel) ⟨Nat.le_of_ble_eq_true rfl, Nat.le_of_ble_eq_true rfl⟩) xK xP [] rfl rfl xL.1 rfl (Nat.le_of_ble_eq_true rfl) dX5_downwardOf_1 ⟨Nat.le_refl _, Nat.le_refl _⟩ (fun r_1 h_1 => ?_)
  rcases h_1 with ⟨h_1, c_1⟩ | ⟨h_1, c_1⟩
  rotate_left
  · exact absurd (by trivial) c_1
  subst h_1
  have c_1 : True := c_1
  refine lv_if_eq (tgt := 16) xE xB dX5_downwardOf_4 (by decide) (fun h9 => absurd h9 (by decide)) (fun _ => ?_)
  refine lv_aload_n xE xB dX5_downwardOf_7 rfl (lv_at xL 0 rfl) ?_
  refine va_get (D := G.1) (ci := 5) (v := .ref m.2.2.2.2) (C := RX5) (T := TX5) (N := 11) xE xB xT khX5_downwardOf_X5 xO xK.1 xP 0 rfl rfl 10 (by decide) (xT _ kX5_downwardOf_f21) (fun _ h9 => h9) rfl dX5_downwardOf_8 ?_
  refine lv_iload_n xE xB dX5_downwardOf_11 rfl (lv_at xL 1 rfl) ?_
  refine q_ald xE xB xK xP 4 rfl (by omega) (by decide) dX5_downwardOf_12 ?_
  refine lv_goto (tgt := 18) xE xB dX5_downwardOf_13 (by decide) ?_
  exact xQ _ _ _ (by rfl) dX5_downwardOf_18
set_option maxHeartbeats 4000000 in
set_option maxRecDepth 100000 in
/-- kX5_timesAdded -/
theorem kX5_timesAdded (l : Launch) (G : wG) (kd : Int32) : CR l yX5_timesAdded wsX5_timesAdded (rm 0 0) G [.int kd] (([] : va_W)) (fun x => x = if kd = nI 1 then nI 0 else if kd = nI 2 then nI 2 else nI 1) := by
  refine CR.of (own := RX5) rfl (by decide) rfl (Nat.le_of_ble_eq_true rfl) ?_
  intro p9 e9 s9 m9 b9 t9 c9 xE xB xM xO xT xK xP Q xQ ls hl
  have xL : lv_has ls 1 [(0, .int kd)] := hl
  refine lv_iload_n xE xB dX5_timesAdded_0 rfl (lv_at xL 0 rfl) ?_
  refine lv_iconst (v := nI 1) xE xB dX5_timesAdded_1 (by decide) ?_
  refine lv_icmp_ne (tgt := 7) xE xB dX5_timesAdded_2 (by decide) (fun c_2 => ?_) (fun c_2 => ?_)
  · skip
    refine lv_iload_n xE xB dX5_timesAdded_7 rfl (lv_at xL 0 rfl) ?_
    refine lv_iconst (v := nI 2) xE xB dX5_timesAdded_8 (by decide) ?_
    refine lv_icmp_ne (tgt := 16) xE xB dX5_timesAdded_9 (by decide) (fun c_9 => ?_) (fun c_9 => ?_)
    · skip
      refine lv_iconst (v := nI 1) xE xB dX5_timesAdded_16 (by decide) ?_
      exact xQ _ _ _ (by first | exact (if_pos (c_2)).symm | (rw [if_neg c_2]; first | exact (if_pos (c_9)).symm | exact (if_neg c_9).symm)) dX5_timesAdded_17
    · skip
      refine lv_iconst (v := nI 2) xE xB dX5_timesAdded_12 (by decide) ?_
      refine lv_goto (tgt := 17) xE xB dX5_timesAdded_13 (by decide) ?_
      exact xQ _ _ _ (by first | exact (if_pos (c_2)).symm | (rw [if_neg c_2]; first | exact (if_pos (c_9)).symm | exact (if_neg c_9).symm)) dX5_timesAdded_17
  · skip
    refine lv_iconst (v := nI 0) xE xB dX5_timesAdded_5 (by decide) ?_
    exact xQ _ _ _ (by first | exact (if_pos (c_2)).symm | (rw [if_neg c_2]; first | exact (if_pos (c_9)).symm | exact (if_neg c_9).symm)) dX5_timesAdded_6
theorem kX5_zeroIfAny_c30 : Cond.constant RX5 30 (-999999999) ∈ wsX5_zeroIfAny := by decide +kernel
set_option maxHeartbeats 4000000 in
set_option maxRecDepth 100000 in
/-- kX5_zeroIfAny -/
theorem kX5_zeroIfAny (l : Launch) (G : wG) (v : Int32) : CR l yX5_zeroIfAny wsX5_zeroIfAny (rm 0 0) G [.int v] (([] : va_W)) (fun x => x = if v = NO then NO else nI 0) := by
  refine CR.of (own := RX5) rfl (by decide) rfl (Nat.le_of_ble_eq_true rfl) ?_
  intro p9 e9 s9 m9 b9 t9 c9 xE xB xM xO xT xK xP Q xQ ls hl
  have xL : lv_has ls 1 [(0, .int v)] := hl
  refine lv_iload_n xE xB dX5_zeroIfAny_0 rfl (lv_at xL 0 rfl) ?_
  refine lv_ldc (v := (-999999999)) xE xB xO (xT _ kX5_zeroIfAny_c30) dX5_zeroIfAny_1 ?_
  refine lv_icmp_ne (tgt := 11) xE xB dX5_zeroIfAny_3 (by decide) (fun c_3 => ?_) (fun c_3 => ?_)
  · skip
    refine lv_iconst (v := nI 0) xE xB dX5_zeroIfAny_11 (by decide) ?_
    exact xQ _ _ _ (by first | exact (if_pos (c_3)).symm | exact (if_neg c_3).symm) dX5_zeroIfAny_12
  · skip
    refine lv_ldc (v := (-999999999)) xE xB xO (xT _ kX5_zeroIfAny_c30) dX5_zeroIfAny_6 ?_
    refine lv_goto (tgt := 12) xE xB dX5_zeroIfAny_8 (by decide) ?_
    exact xQ _ _ _ (by first | exact (if_pos (c_3)).symm | exact (if_neg c_3).symm) dX5_zeroIfAny_12
def tmA (kd : Int32) : Int32 := if kd = nI 1 then nI 0 else if kd = nI 2 then nI 2 else nI 1
def paS (fl fa kd x : Int32) : Int32 := if fl ≠ NO ∧ fa ≠ NO then x + tmA kd * fl * fa else x
def paM (fl fa x : Int32) : Int32 := if fl ≠ NO ∧ fa ≠ NO then x + nI 1 else x
def paO (k0 fl kd : Int32) : Int32 := if kd = k0 then (if fl = NO then NO else nI 0) else fl

theorem kX5_pass_c30 : Cond.constant RX5 30 (-999999999) ∈ wsX5_pass := by decide +kernel
theorem kX5_pass_f15 : Cond.fieldLink RX5 15 "SkewedSquare$Tile" "meetings" "[I" ∈ wsX5_pass := by decide +kernel
theorem kX5_pass_f18 : Cond.fieldLink RX5 18 "SkewedSquare$Tile" "rightward" "[I" ∈ wsX5_pass := by decide +kernel
theorem kX5_pass_f21 : Cond.fieldLink RX5 21 "SkewedSquare$Tile" "downward" "[I" ∈ wsX5_pass := by decide +kernel
theorem kX5_pass_f9 : Cond.fieldLink RX5 9 "SkewedSquare$Tile" "sums" "[I" ∈ wsX5_pass := by decide +kernel
theorem khX5_pass_X5 : ∀ w ∈ u_ws RX5 TX5 11, w ∈ wsX5_pass := by decide +kernel
set_option maxHeartbeats 4000000 in
set_option maxRecDepth 100000 in
/-- kX5_pass -/
theorem kX5_pass (l : Launch) (G : wG) (m : TA) (b ta tb th tw tt tn : Nat) (sm0 mt rw dn : wF) (k : Nat) (fl fa kd : Int32) (hk : k < 16) : CV (S := Unit) l yX5_pass wsX5_pass (rm 1 20) G [.ref m.1, .int (nI k), .int fl, .int fa, .int kd] (wT G m (b, ta, tb, th, tw, tt, tn, sm0, mt, rw, dn)) (fun u9 => True) (fun u9 => wT G m (b, ta, tb, th, tw, tt, tn, upd sm0 k (paS fl fa kd (sm0 k)), upd mt k (paM fl fa (mt k)), upd rw k (paO (nI 3) fl kd), upd dn k (paO (nI 4) fa kd))) := by
  refine CV.of (own := RX5) rfl (by decide) rfl (Nat.le_of_ble_eq_true rfl) ?_
  intro p9 e9 s9 m9 b9 t9 c9 A xE xB xM xO xT xK xP xD Q xQ xS ls hl
  have xL : lv_has ls 5 [(0, .ref m.1), (1, .int (nI k)), (2, .int fl), (3, .int fa), (4, .int kd)] := hl
  refine lv_iload_n xE xB dX5_pass_0 rfl (lv_at xL 1 rfl) ?_
  refine q_SR (As := [.int (nI k)]) (rest := []) ⟨xE, xB, xM, xO, xT⟩ (kX5_isCell l G k (by omega)) (va_cwS 1 xT gX5_pass_X5_isCell rfl rfl rfl (by decide +kernel) ⟨Nat.le_of_ble_eq_true rfl, Nat.le_of_ble_eq_true rfl⟩) xK xP [] rfl rfl xL.1 rfl (Nat.le_of_ble_eq_true rfl) dX5_pass_1 ⟨Nat.le_refl _, Nat.le_refl _⟩ (fun r_1 h_1 => ?_)
  rcases h_1 with ⟨h_1, c_1⟩ | ⟨h_1, c_1⟩
  rotate_left
  · exact absurd (by trivial) c_1
  subst h_1
  have c_1 : True := c_1
  refine lv_if_ne (tgt := 8) xE xB dX5_pass_4 (by decide) (fun _ => ?_) (fun h9 => absurd h9 (by decide))
  have J_48 : ∀ (g h : wF), (g = upd sm0 k (paS fl fa kd (sm0 k))) → (h = upd mt k (paM fl fa (mt k))) → ∀ (H : Heap) (locs : List Loc), va_P G.1 vwCl (wT G m (b, ta, tb, th, tw, tt, tn, g, h, rw, dn)) H → va_D A (wT G m (b, ta, tb, th, tw, tt, tn, g, h, rw, dn)) → va_S A s9.heap H locs → ∀ (ls : Array Slot), lv_has ls 5 [(0, .ref m.1), (1, .int (nI k)), (2, .int fl), (3, .int fa), (4, .int kd)] → W p9 l e9 (rm 1 20) s9 m9 ([.ref m.1, .int (nI k), .int fl, .int fa, .int kd] : List Value).toArray b9 t9 c9 H locs 0 0 Q (F0 m9 48 ls []) := by
    intro g h hg hh H locs xP xD xS ls xL
    refine lv_aload_n xE xB dX5_pass_48 rfl (lv_at xL 0 rfl) ?_
    refine va_get (D := G.1) (ci := 5) (v := .ref m.2.2.2.1) (C := RX5) (T := TX5) (N := 11) xE xB xT khX5_pass_X5 xO xK.1 xP 0 rfl rfl 9 (by decide) (xT _ kX5_pass_f18) (fun _ h9 => h9) rfl dX5_pass_49 ?_
    have J_67 : ∀ (x : Int32), (x = paO (nI 3) fl kd) → ∀ (H : Heap) (locs : List Loc), va_P G.1 vwCl (wT G m (b, ta, tb, th, tw, tt, tn, g, h, rw, dn)) H → va_D A (wT G m (b, ta, tb, th, tw, tt, tn, g, h, rw, dn)) → va_S A s9.heap H locs → ∀ (ls : Array Slot), lv_has ls 5 [(0, .ref m.1), (1, .int (nI k)), (2, .int fl), (3, .int fa), (4, .int kd)] → W p9 l e9 (rm 1 20) s9 m9 ([.ref m.1, .int (nI k), .int fl, .int fa, .int kd] : List Value).toArray b9 t9 c9 H locs 0 0 Q (F0 m9 67 ls [.int x, .int (nI k), .ref m.2.2.2.1]) := by
      intro x hx H locs xP xD xS ls xL
      refine q_ast xE xB xK xP xD xS 3 rfl (by omega) (by decide) dX5_pass_67 (fun H locs xP xD xS => ?_)
      have xP : va_P G.1 vwCl (wT G m (b, ta, tb, th, tw, tt, tn, g, h, upd rw k x, dn)) H := xP
      have xD : va_D A (wT G m (b, ta, tb, th, tw, tt, tn, g, h, upd rw k x, dn)) := xD
      refine lv_aload_n xE xB dX5_pass_68 rfl (lv_at xL 0 rfl) ?_
      refine va_get (D := G.1) (ci := 5) (v := .ref m.2.2.2.2) (C := RX5) (T := TX5) (N := 11) xE xB xT khX5_pass_X5 xO xK.1 xP 0 rfl rfl 10 (by decide) (xT _ kX5_pass_f21) (fun _ h9 => h9) rfl dX5_pass_69 ?_
      have J_87 : ∀ (y : Int32), (y = paO (nI 4) fa kd) → ∀ (H : Heap) (locs : List Loc), va_P G.1 vwCl (wT G m (b, ta, tb, th, tw, tt, tn, g, h, upd rw k x, dn)) H → va_D A (wT G m (b, ta, tb, th, tw, tt, tn, g, h, upd rw k x, dn)) → va_S A s9.heap H locs → ∀ (ls : Array Slot), lv_has ls 5 [(0, .ref m.1), (1, .int (nI k)), (2, .int fl), (3, .int fa), (4, .int kd)] → W p9 l e9 (rm 1 20) s9 m9 ([.ref m.1, .int (nI k), .int fl, .int fa, .int kd] : List Value).toArray b9 t9 c9 H locs 0 0 Q (F0 m9 87 ls [.int y, .int (nI k), .ref m.2.2.2.2]) := by
        intro y hy H locs xP xD xS ls xL
        refine q_ast xE xB xK xP xD xS 4 rfl (by omega) (by decide) dX5_pass_87 (fun H locs xP xD xS => ?_)
        have xP : va_P G.1 vwCl (wT G m (b, ta, tb, th, tw, tt, tn, g, h, upd rw k x, upd dn k y)) H := xP
        have xD : va_D A (wT G m (b, ta, tb, th, tw, tt, tn, g, h, upd rw k x, upd dn k y)) := xD
        subst hg hh hx hy
        exact xQ _ _ _ _ () trivial xP xD xS dX5_pass_88
      refine lv_iload_n xE xB dX5_pass_72 rfl (lv_at xL 1 rfl) ?_
      refine lv_iload xE xB dX5_pass_73 (lv_at xL 4 rfl) ?_
      refine lv_iconst (v := nI 4) xE xB dX5_pass_75 (by decide) ?_
      refine lv_icmp_ne (tgt := 86) xE xB dX5_pass_76 (by decide) (fun c_76 => ?_) (fun c_76 => ?_)
      · skip
        refine lv_iload_n xE xB dX5_pass_86 rfl (lv_at xL 3 rfl) ?_
        exact J_87 fa (by first | exact (if_pos (c_76)).symm | exact (if_neg c_76).symm) _ _ xP xD xS _ (lv_sub xL [0, 1, 2, 3, 4] rfl)
      · skip
        refine lv_iload_n xE xB dX5_pass_79 rfl (lv_at xL 3 rfl) ?_
        refine q_SR (As := [.int fa]) (rest := [.int (nI k), .ref m.2.2.2.2]) ⟨xE, xB, xM, xO, xT⟩ (kX5_zeroIfAny l G fa) (va_cwS 1 xT gX5_pass_X5_zeroIfAny rfl rfl rfl (by decide +kernel) ⟨Nat.le_of_ble_eq_true rfl, Nat.le_of_ble_eq_true rfl⟩) xK xP [] rfl rfl xL.1 rfl (Nat.le_of_ble_eq_true rfl) dX5_pass_80 ⟨Nat.le_refl _, Nat.le_refl _⟩ (fun r_80 h_80 => ?_)
        obtain rfl : r_80 = if fa = NO then NO else nI 0 := h_80
        refine lv_goto (tgt := 87) xE xB dX5_pass_83 (by decide) ?_
        exact J_87 (if fa = NO then NO else nI 0) (by first | exact (if_pos (c_76)).symm | exact (if_neg c_76).symm) _ _ xP xD xS _ (lv_sub xL [0, 1, 2, 3, 4] rfl)
    refine lv_iload_n xE xB dX5_pass_52 rfl (lv_at xL 1 rfl) ?_
    refine lv_iload xE xB dX5_pass_53 (lv_at xL 4 rfl) ?_
    refine lv_iconst (v := nI 3) xE xB dX5_pass_55 (by decide) ?_
    refine lv_icmp_ne (tgt := 66) xE xB dX5_pass_56 (by decide) (fun c_56 => ?_) (fun c_56 => ?_)
    · skip
      refine lv_iload_n xE xB dX5_pass_66 rfl (lv_at xL 2 rfl) ?_
      exact J_67 fl (by first | exact (if_pos (c_56)).symm | exact (if_neg c_56).symm) _ _ xP xD xS _ (lv_sub xL [0, 1, 2, 3, 4] rfl)
    · skip
      refine lv_iload_n xE xB dX5_pass_59 rfl (lv_at xL 2 rfl) ?_
      refine q_SR (As := [.int fl]) (rest := [.int (nI k), .ref m.2.2.2.1]) ⟨xE, xB, xM, xO, xT⟩ (kX5_zeroIfAny l G fl) (va_cwS 1 xT gX5_pass_X5_zeroIfAny rfl rfl rfl (by decide +kernel) ⟨Nat.le_of_ble_eq_true rfl, Nat.le_of_ble_eq_true rfl⟩) xK xP [] rfl rfl xL.1 rfl (Nat.le_of_ble_eq_true rfl) dX5_pass_60 ⟨Nat.le_refl _, Nat.le_refl _⟩ (fun r_60 h_60 => ?_)
      obtain rfl : r_60 = if fl = NO then NO else nI 0 := h_60
      refine lv_goto (tgt := 67) xE xB dX5_pass_63 (by decide) ?_
      exact J_67 (if fl = NO then NO else nI 0) (by first | exact (if_pos (c_56)).symm | exact (if_neg c_56).symm) _ _ xP xD xS _ (lv_sub xL [0, 1, 2, 3, 4] rfl)
  refine lv_iload_n xE xB dX5_pass_8 rfl (lv_at xL 2 rfl) ?_
  refine lv_ldc (v := (-999999999)) xE xB xO (xT _ kX5_pass_c30) dX5_pass_9 ?_
  refine lv_icmp_eq (tgt := 48) xE xB dX5_pass_11 (by decide) (fun c_11 => ?_) (fun c_11 => ?_)
  · skip
    exact J_48 sm0 mt (by first | exact congrArg (upd sm0 k) (if_pos (And.intro c_11 c_17)).symm | (rw [paS, if_neg (by rintro ⟨h1, h2⟩; first | exact h1 c_11 | exact h2 c_17)]; exact (upd_self _ _).symm)) (by first | exact congrArg (upd mt k) (if_pos (And.intro c_11 c_17)).symm | (rw [paM, if_neg (by rintro ⟨h1, h2⟩; first | exact h1 c_11 | exact h2 c_17)]; exact (upd_self _ _).symm)) _ _ xP xD xS _ (lv_sub xL [0, 1, 2, 3, 4] rfl)
  · skip
    refine lv_iload_n xE xB dX5_pass_14 rfl (lv_at xL 3 rfl) ?_
    refine lv_ldc (v := (-999999999)) xE xB xO (xT _ kX5_pass_c30) dX5_pass_15 ?_
    refine lv_icmp_eq (tgt := 48) xE xB dX5_pass_17 (by decide) (fun c_17 => ?_) (fun c_17 => ?_)
    · skip
      exact J_48 sm0 mt (by first | exact congrArg (upd sm0 k) (if_pos (And.intro c_11 c_17)).symm | (rw [paS, if_neg (by rintro ⟨h1, h2⟩; first | exact h1 c_11 | exact h2 c_17)]; exact (upd_self _ _).symm)) (by first | exact congrArg (upd mt k) (if_pos (And.intro c_11 c_17)).symm | (rw [paM, if_neg (by rintro ⟨h1, h2⟩; first | exact h1 c_11 | exact h2 c_17)]; exact (upd_self _ _).symm)) _ _ xP xD xS _ (lv_sub xL [0, 1, 2, 3, 4] rfl)
    · skip
      refine lv_aload_n xE xB dX5_pass_20 rfl (lv_at xL 0 rfl) ?_
      refine va_get (D := G.1) (ci := 5) (v := .ref m.2.2.1) (C := RX5) (T := TX5) (N := 11) xE xB xT khX5_pass_X5 xO xK.1 xP 0 rfl rfl 8 (by decide) (xT _ kX5_pass_f15) (fun _ h9 => h9) rfl dX5_pass_21 ?_
      refine lv_iload_n xE xB dX5_pass_24 rfl (lv_at xL 1 rfl) ?_
      refine lv_dup2_11 xE xB dX5_pass_25 rfl rfl ?_
      refine q_ald xE xB xK xP 2 rfl (by omega) (by decide) dX5_pass_26 ?_
      refine lv_iconst (v := nI 1) xE xB dX5_pass_27 (by decide) ?_
      refine lv_iadd xE xB dX5_pass_28 ?_
      refine q_ast xE xB xK xP xD xS 2 rfl (by omega) (by decide) dX5_pass_29 (fun H locs xP xD xS => ?_)
      have xP : va_P G.1 vwCl (wT G m (b, ta, tb, th, tw, tt, tn, sm0, upd mt k ((mt k) + (nI 1)), rw, dn)) H := xP
      have xD : va_D A (wT G m (b, ta, tb, th, tw, tt, tn, sm0, upd mt k ((mt k) + (nI 1)), rw, dn)) := xD
      refine lv_aload_n xE xB dX5_pass_30 rfl (lv_at xL 0 rfl) ?_
      refine va_get (D := G.1) (ci := 5) (v := .ref m.2.1) (C := RX5) (T := TX5) (N := 11) xE xB xT khX5_pass_X5 xO xK.1 xP 0 rfl rfl 7 (by decide) (xT _ kX5_pass_f9) (fun _ h9 => h9) rfl dX5_pass_31 ?_
      refine lv_iload_n xE xB dX5_pass_34 rfl (lv_at xL 1 rfl) ?_
      refine lv_dup2_11 xE xB dX5_pass_35 rfl rfl ?_
      refine q_ald xE xB xK xP 1 rfl (by omega) (by decide) dX5_pass_36 ?_
      refine lv_iload xE xB dX5_pass_37 (lv_at xL 4 rfl) ?_
      refine q_SR (As := [.int kd]) (rest := [.int (sm0 k), .int (nI k), .ref m.2.1]) ⟨xE, xB, xM, xO, xT⟩ (kX5_timesAdded l G kd) (va_cwS 1 xT gX5_pass_X5_timesAdded rfl rfl rfl (by decide +kernel) ⟨Nat.le_of_ble_eq_true rfl, Nat.le_of_ble_eq_true rfl⟩) xK xP [] rfl rfl xL.1 rfl (Nat.le_of_ble_eq_true rfl) dX5_pass_39 ⟨Nat.le_refl _, Nat.le_refl _⟩ (fun r_39 h_39 => ?_)
      obtain rfl : r_39 = if kd = nI 1 then nI 0 else if kd = nI 2 then nI 2 else nI 1 := h_39
      refine lv_iload_n xE xB dX5_pass_42 rfl (lv_at xL 2 rfl) ?_
      refine lv_imul xE xB dX5_pass_43 ?_
      refine lv_iload_n xE xB dX5_pass_44 rfl (lv_at xL 3 rfl) ?_
      refine lv_imul xE xB dX5_pass_45 ?_
      refine lv_iadd xE xB dX5_pass_46 ?_
      refine q_ast xE xB xK xP xD xS 1 rfl (by omega) (by decide) dX5_pass_47 (fun H locs xP xD xS => ?_)
      have xP : va_P G.1 vwCl (wT G m (b, ta, tb, th, tw, tt, tn, upd sm0 k ((sm0 k) + (((if kd = nI 1 then nI 0 else if kd = nI 2 then nI 2 else nI 1) * fl) * fa)), upd mt k ((mt k) + (nI 1)), rw, dn)) H := xP
      have xD : va_D A (wT G m (b, ta, tb, th, tw, tt, tn, upd sm0 k ((sm0 k) + (((if kd = nI 1 then nI 0 else if kd = nI 2 then nI 2 else nI 1) * fl) * fa)), upd mt k ((mt k) + (nI 1)), rw, dn)) := xD
      exact J_48 (upd sm0 k ((sm0 k) + (((if kd = nI 1 then nI 0 else if kd = nI 2 then nI 2 else nI 1) * fl) * fa))) (upd mt k ((mt k) + (nI 1))) (by first | exact congrArg (upd sm0 k) (if_pos (And.intro c_11 c_17)).symm | (rw [paS, if_neg (by rintro ⟨h1, h2⟩; first | exact h1 c_11 | exact h2 c_17)]; exact (upd_self _ _).symm)) (by first | exact congrArg (upd mt k) (if_pos (And.intro c_11 c_17)).symm | (rw [paM, if_neg (by rintro ⟨h1, h2⟩; first | exact h1 c_11 | exact h2 c_17)]; exact (upd_self _ _).symm)) _ _ xP xD xS _ (lv_sub xL [0, 1, 2, 3, 4] rfl)
theorem kX5_copyFrom_f15 : Cond.fieldLink RX5 15 "SkewedSquare$Tile" "meetings" "[I" ∈ wsX5_copyFrom := by decide +kernel
theorem kX5_copyFrom_f18 : Cond.fieldLink RX5 18 "SkewedSquare$Tile" "rightward" "[I" ∈ wsX5_copyFrom := by decide +kernel
theorem kX5_copyFrom_f21 : Cond.fieldLink RX5 21 "SkewedSquare$Tile" "downward" "[I" ∈ wsX5_copyFrom := by decide +kernel
theorem kX5_copyFrom_f31 : Cond.fieldLink RX5 31 "SkewedSquare$Tile" "ticks" "I" ∈ wsX5_copyFrom := by decide +kernel
theorem kX5_copyFrom_f35 : Cond.fieldLink RX5 35 "SkewedSquare$Tile" "ticksNeeded" "I" ∈ wsX5_copyFrom := by decide +kernel
theorem kX5_copyFrom_f49 : Cond.fieldLink RX5 49 "SkewedSquare$Tile" "begun" "Z" ∈ wsX5_copyFrom := by decide +kernel
theorem kX5_copyFrom_f53 : Cond.fieldLink RX5 53 "SkewedSquare$Tile" "row" "I" ∈ wsX5_copyFrom := by decide +kernel
theorem kX5_copyFrom_f56 : Cond.fieldLink RX5 56 "SkewedSquare$Tile" "column" "I" ∈ wsX5_copyFrom := by decide +kernel
theorem kX5_copyFrom_f59 : Cond.fieldLink RX5 59 "SkewedSquare$Tile" "height" "I" ∈ wsX5_copyFrom := by decide +kernel
theorem kX5_copyFrom_f62 : Cond.fieldLink RX5 62 "SkewedSquare$Tile" "width" "I" ∈ wsX5_copyFrom := by decide +kernel
theorem kX5_copyFrom_f9 : Cond.fieldLink RX5 9 "SkewedSquare$Tile" "sums" "[I" ∈ wsX5_copyFrom := by decide +kernel
theorem kX5_copyFrom_ini : Cond.initialized "java/lang/System" ∈ wsX5_copyFrom := by decide +kernel
theorem kX5_copyFrom_m65 : Cond.methodLink RX5 65 arraycopyName ∈ wsX5_copyFrom := by decide +kernel
theorem kX5_copyFrom_nat : Cond.native arraycopyName ∈ wsX5_copyFrom := by decide +kernel
theorem kX5_copyFrom_sta : Cond.static arraycopyName ∈ wsX5_copyFrom := by decide +kernel
theorem khX5_copyFrom_X5 : ∀ w ∈ u_ws RX5 TX5 11, w ∈ wsX5_copyFrom := by decide +kernel
set_option maxHeartbeats 4000000 in
set_option maxRecDepth 100000 in
/-- kX5_copyFrom -/
theorem kX5_copyFrom (l : Launch) (G : wG) (m m2 : TA) (b ta tb th tw tt tn : Nat) (sm0 mt rw dn : wF) (b2 ta2 tb2 th2 tw2 tt2 tn2 : Nat) (sm2 mt2 rw2 dn2 : wF) (hb2 : b2 = 0 ∨ b2 = 1) : CV (S := Unit) l yX5_copyFrom wsX5_copyFrom (rm 1 18) G [.ref m.1, .ref m2.1] ((wT G m (b, ta, tb, th, tw, tt, tn, sm0, mt, rw, dn)) ++ (wT G m2 (b2, ta2, tb2, th2, tw2, tt2, tn2, sm2, mt2, rw2, dn2))) (fun u9 => True) (fun u9 => (wT G m (b2, ta2, tb2, th2, tw2, tt2, tn2, va_cpy sm2 sm0 0 0 16, va_cpy mt2 mt 0 0 16, va_cpy rw2 rw 0 0 16, va_cpy dn2 dn 0 0 16)) ++ (wT G m2 (b2, ta2, tb2, th2, tw2, tt2, tn2, sm2, mt2, rw2, dn2))) := by
  refine CV.of (own := RX5) rfl (by decide) rfl (Nat.le_of_ble_eq_true rfl) ?_
  intro p9 e9 s9 m9 b9 t9 c9 A xE xB xM xO xT xK xP xD Q xQ xS ls hl
  have xL : lv_has ls 2 [(0, .ref m.1), (1, .ref m2.1)] := hl
  refine lv_aload_n xE xB dX5_copyFrom_0 rfl (lv_at xL 0 rfl) ?_
  refine lv_aload_n xE xB dX5_copyFrom_1 rfl (lv_at xL 1 rfl) ?_
  refine va_get (D := G.1) (ci := 5) (v := .int (nI b2)) (C := RX5) (T := TX5) (N := 11) xE xB xT khX5_copyFrom_X5 xO xK.1 xP 5 rfl rfl 0 (by decide) (xT _ kX5_copyFrom_f49) (fun _ h9 => h9) rfl dX5_copyFrom_2 ?_
  refine va_put (D := G.1) (ci := 5) (v := .int (nI b2)) (ty := .boolean) (C := RX5) (T := TX5) (N := 11) xE xB xT khX5_copyFrom_X5 tyX5 tyX5_ok nmX5 xO xK.1 xP xD xS 0 rfl rfl 0 (by decide) (xT _ kX5_copyFrom_f49) (fun _ h9 => h9) rfl (by decide +kernel) (by rcases hb2 with rfl | rfl <;> decide) (by rcases hb2 with rfl | rfl <;> decide) (Nat.le_of_ble_eq_true rfl) dX5_copyFrom_5 (fun H locs xP xD xS => ?_)
  have xP : va_P G.1 vwCl ((wT G m (b2, ta, tb, th, tw, tt, tn, sm0, mt, rw, dn)) ++ (wT G m2 (b2, ta2, tb2, th2, tw2, tt2, tn2, sm2, mt2, rw2, dn2))) H := xP
  have xD : va_D A ((wT G m (b2, ta, tb, th, tw, tt, tn, sm0, mt, rw, dn)) ++ (wT G m2 (b2, ta2, tb2, th2, tw2, tt2, tn2, sm2, mt2, rw2, dn2))) := xD
  refine lv_aload_n xE xB dX5_copyFrom_8 rfl (lv_at xL 0 rfl) ?_
  refine lv_aload_n xE xB dX5_copyFrom_9 rfl (lv_at xL 1 rfl) ?_
  refine va_get (D := G.1) (ci := 5) (v := .int (nI ta2)) (C := RX5) (T := TX5) (N := 11) xE xB xT khX5_copyFrom_X5 xO xK.1 xP 5 rfl rfl 1 (by decide) (xT _ kX5_copyFrom_f53) (fun _ h9 => h9) rfl dX5_copyFrom_10 ?_
  refine va_put (D := G.1) (ci := 5) (v := .int (nI ta2)) (ty := .int) (C := RX5) (T := TX5) (N := 11) xE xB xT khX5_copyFrom_X5 tyX5 tyX5_ok nmX5 xO xK.1 xP xD xS 0 rfl rfl 1 (by decide) (xT _ kX5_copyFrom_f53) (fun _ h9 => h9) rfl (by decide +kernel) rfl rfl (Nat.le_of_ble_eq_true rfl) dX5_copyFrom_13 (fun H locs xP xD xS => ?_)
  have xP : va_P G.1 vwCl ((wT G m (b2, ta2, tb, th, tw, tt, tn, sm0, mt, rw, dn)) ++ (wT G m2 (b2, ta2, tb2, th2, tw2, tt2, tn2, sm2, mt2, rw2, dn2))) H := xP
  have xD : va_D A ((wT G m (b2, ta2, tb, th, tw, tt, tn, sm0, mt, rw, dn)) ++ (wT G m2 (b2, ta2, tb2, th2, tw2, tt2, tn2, sm2, mt2, rw2, dn2))) := xD
  refine lv_aload_n xE xB dX5_copyFrom_16 rfl (lv_at xL 0 rfl) ?_
  refine lv_aload_n xE xB dX5_copyFrom_17 rfl (lv_at xL 1 rfl) ?_
  refine va_get (D := G.1) (ci := 5) (v := .int (nI tb2)) (C := RX5) (T := TX5) (N := 11) xE xB xT khX5_copyFrom_X5 xO xK.1 xP 5 rfl rfl 2 (by decide) (xT _ kX5_copyFrom_f56) (fun _ h9 => h9) rfl dX5_copyFrom_18 ?_
  refine va_put (D := G.1) (ci := 5) (v := .int (nI tb2)) (ty := .int) (C := RX5) (T := TX5) (N := 11) xE xB xT khX5_copyFrom_X5 tyX5 tyX5_ok nmX5 xO xK.1 xP xD xS 0 rfl rfl 2 (by decide) (xT _ kX5_copyFrom_f56) (fun _ h9 => h9) rfl (by decide +kernel) rfl rfl (Nat.le_of_ble_eq_true rfl) dX5_copyFrom_21 (fun H locs xP xD xS => ?_)
  have xP : va_P G.1 vwCl ((wT G m (b2, ta2, tb2, th, tw, tt, tn, sm0, mt, rw, dn)) ++ (wT G m2 (b2, ta2, tb2, th2, tw2, tt2, tn2, sm2, mt2, rw2, dn2))) H := xP
  have xD : va_D A ((wT G m (b2, ta2, tb2, th, tw, tt, tn, sm0, mt, rw, dn)) ++ (wT G m2 (b2, ta2, tb2, th2, tw2, tt2, tn2, sm2, mt2, rw2, dn2))) := xD
  refine lv_aload_n xE xB dX5_copyFrom_24 rfl (lv_at xL 0 rfl) ?_
  refine lv_aload_n xE xB dX5_copyFrom_25 rfl (lv_at xL 1 rfl) ?_
  refine va_get (D := G.1) (ci := 5) (v := .int (nI th2)) (C := RX5) (T := TX5) (N := 11) xE xB xT khX5_copyFrom_X5 xO xK.1 xP 5 rfl rfl 3 (by decide) (xT _ kX5_copyFrom_f59) (fun _ h9 => h9) rfl dX5_copyFrom_26 ?_
  refine va_put (D := G.1) (ci := 5) (v := .int (nI th2)) (ty := .int) (C := RX5) (T := TX5) (N := 11) xE xB xT khX5_copyFrom_X5 tyX5 tyX5_ok nmX5 xO xK.1 xP xD xS 0 rfl rfl 3 (by decide) (xT _ kX5_copyFrom_f59) (fun _ h9 => h9) rfl (by decide +kernel) rfl rfl (Nat.le_of_ble_eq_true rfl) dX5_copyFrom_29 (fun H locs xP xD xS => ?_)
  have xP : va_P G.1 vwCl ((wT G m (b2, ta2, tb2, th2, tw, tt, tn, sm0, mt, rw, dn)) ++ (wT G m2 (b2, ta2, tb2, th2, tw2, tt2, tn2, sm2, mt2, rw2, dn2))) H := xP
  have xD : va_D A ((wT G m (b2, ta2, tb2, th2, tw, tt, tn, sm0, mt, rw, dn)) ++ (wT G m2 (b2, ta2, tb2, th2, tw2, tt2, tn2, sm2, mt2, rw2, dn2))) := xD
  refine lv_aload_n xE xB dX5_copyFrom_32 rfl (lv_at xL 0 rfl) ?_
  refine lv_aload_n xE xB dX5_copyFrom_33 rfl (lv_at xL 1 rfl) ?_
  refine va_get (D := G.1) (ci := 5) (v := .int (nI tw2)) (C := RX5) (T := TX5) (N := 11) xE xB xT khX5_copyFrom_X5 xO xK.1 xP 5 rfl rfl 4 (by decide) (xT _ kX5_copyFrom_f62) (fun _ h9 => h9) rfl dX5_copyFrom_34 ?_
  refine va_put (D := G.1) (ci := 5) (v := .int (nI tw2)) (ty := .int) (C := RX5) (T := TX5) (N := 11) xE xB xT khX5_copyFrom_X5 tyX5 tyX5_ok nmX5 xO xK.1 xP xD xS 0 rfl rfl 4 (by decide) (xT _ kX5_copyFrom_f62) (fun _ h9 => h9) rfl (by decide +kernel) rfl rfl (Nat.le_of_ble_eq_true rfl) dX5_copyFrom_37 (fun H locs xP xD xS => ?_)
  have xP : va_P G.1 vwCl ((wT G m (b2, ta2, tb2, th2, tw2, tt, tn, sm0, mt, rw, dn)) ++ (wT G m2 (b2, ta2, tb2, th2, tw2, tt2, tn2, sm2, mt2, rw2, dn2))) H := xP
  have xD : va_D A ((wT G m (b2, ta2, tb2, th2, tw2, tt, tn, sm0, mt, rw, dn)) ++ (wT G m2 (b2, ta2, tb2, th2, tw2, tt2, tn2, sm2, mt2, rw2, dn2))) := xD
  refine lv_aload_n xE xB dX5_copyFrom_40 rfl (lv_at xL 0 rfl) ?_
  refine lv_aload_n xE xB dX5_copyFrom_41 rfl (lv_at xL 1 rfl) ?_
  refine va_get (D := G.1) (ci := 5) (v := .int (nI tt2)) (C := RX5) (T := TX5) (N := 11) xE xB xT khX5_copyFrom_X5 xO xK.1 xP 5 rfl rfl 5 (by decide) (xT _ kX5_copyFrom_f31) (fun _ h9 => h9) rfl dX5_copyFrom_42 ?_
  refine va_put (D := G.1) (ci := 5) (v := .int (nI tt2)) (ty := .int) (C := RX5) (T := TX5) (N := 11) xE xB xT khX5_copyFrom_X5 tyX5 tyX5_ok nmX5 xO xK.1 xP xD xS 0 rfl rfl 5 (by decide) (xT _ kX5_copyFrom_f31) (fun _ h9 => h9) rfl (by decide +kernel) rfl rfl (Nat.le_of_ble_eq_true rfl) dX5_copyFrom_45 (fun H locs xP xD xS => ?_)
  have xP : va_P G.1 vwCl ((wT G m (b2, ta2, tb2, th2, tw2, tt2, tn, sm0, mt, rw, dn)) ++ (wT G m2 (b2, ta2, tb2, th2, tw2, tt2, tn2, sm2, mt2, rw2, dn2))) H := xP
  have xD : va_D A ((wT G m (b2, ta2, tb2, th2, tw2, tt2, tn, sm0, mt, rw, dn)) ++ (wT G m2 (b2, ta2, tb2, th2, tw2, tt2, tn2, sm2, mt2, rw2, dn2))) := xD
  refine lv_aload_n xE xB dX5_copyFrom_48 rfl (lv_at xL 0 rfl) ?_
  refine lv_aload_n xE xB dX5_copyFrom_49 rfl (lv_at xL 1 rfl) ?_
  refine va_get (D := G.1) (ci := 5) (v := .int (nI tn2)) (C := RX5) (T := TX5) (N := 11) xE xB xT khX5_copyFrom_X5 xO xK.1 xP 5 rfl rfl 6 (by decide) (xT _ kX5_copyFrom_f35) (fun _ h9 => h9) rfl dX5_copyFrom_50 ?_
  refine va_put (D := G.1) (ci := 5) (v := .int (nI tn2)) (ty := .int) (C := RX5) (T := TX5) (N := 11) xE xB xT khX5_copyFrom_X5 tyX5 tyX5_ok nmX5 xO xK.1 xP xD xS 0 rfl rfl 6 (by decide) (xT _ kX5_copyFrom_f35) (fun _ h9 => h9) rfl (by decide +kernel) rfl rfl (Nat.le_of_ble_eq_true rfl) dX5_copyFrom_53 (fun H locs xP xD xS => ?_)
  have xP : va_P G.1 vwCl ((wT G m (b2, ta2, tb2, th2, tw2, tt2, tn2, sm0, mt, rw, dn)) ++ (wT G m2 (b2, ta2, tb2, th2, tw2, tt2, tn2, sm2, mt2, rw2, dn2))) H := xP
  have xD : va_D A ((wT G m (b2, ta2, tb2, th2, tw2, tt2, tn2, sm0, mt, rw, dn)) ++ (wT G m2 (b2, ta2, tb2, th2, tw2, tt2, tn2, sm2, mt2, rw2, dn2))) := xD
  refine lv_aload_n xE xB dX5_copyFrom_56 rfl (lv_at xL 1 rfl) ?_
  refine va_get (D := G.1) (ci := 5) (v := .ref m2.2.1) (C := RX5) (T := TX5) (N := 11) xE xB xT khX5_copyFrom_X5 xO xK.1 xP 5 rfl rfl 7 (by decide) (xT _ kX5_copyFrom_f9) (fun _ h9 => h9) rfl dX5_copyFrom_57 ?_
  refine lv_iconst (v := nI 0) xE xB dX5_copyFrom_60 (by decide) ?_
  refine lv_aload_n xE xB dX5_copyFrom_61 rfl (lv_at xL 0 rfl) ?_
  refine va_get (D := G.1) (ci := 5) (v := .ref m.2.1) (C := RX5) (T := TX5) (N := 11) xE xB xT khX5_copyFrom_X5 xO xK.1 xP 0 rfl rfl 7 (by decide) (xT _ kX5_copyFrom_f9) (fun _ h9 => h9) rfl dX5_copyFrom_62 ?_
  refine lv_iconst (v := nI 0) xE xB dX5_copyFrom_65 (by decide) ?_
  refine lv_aload_n xE xB dX5_copyFrom_66 rfl (lv_at xL 0 rfl) ?_
  refine va_get (D := G.1) (ci := 5) (v := .ref m.2.1) (C := RX5) (T := TX5) (N := 11) xE xB xT khX5_copyFrom_X5 xO xK.1 xP 0 rfl rfl 7 (by decide) (xT _ kX5_copyFrom_f9) (fun _ h9 => h9) rfl dX5_copyFrom_67 ?_
  refine va_alen (v := nI 16) xE xB xK.1 xP 1 1 rfl rfl rfl dX5_copyFrom_70 ?_
  refine va_copyi xE xB (xM.trans xL.1.symm) xO (xT _ kX5_copyFrom_m65) (xT _ kX5_copyFrom_nat) (xT _ kX5_copyFrom_sta) (xT _ kX5_copyFrom_ini) xK.1 xP xD xS 6 1 1 1 rfl rfl rfl rfl rfl (by decide) (by decide) (by decide) (by decide) (by decide) (fun _ _ => rfl) (Nat.le_of_ble_eq_true rfl) (by decide) dX5_copyFrom_71 (fun H locs xP xD xS => ?_)
  have xP : va_P G.1 vwCl ((wT G m (b2, ta2, tb2, th2, tw2, tt2, tn2, va_cpy sm2 sm0 0 0 16, mt, rw, dn)) ++ (wT G m2 (b2, ta2, tb2, th2, tw2, tt2, tn2, sm2, mt2, rw2, dn2))) H := xP
  have xD : va_D A ((wT G m (b2, ta2, tb2, th2, tw2, tt2, tn2, va_cpy sm2 sm0 0 0 16, mt, rw, dn)) ++ (wT G m2 (b2, ta2, tb2, th2, tw2, tt2, tn2, sm2, mt2, rw2, dn2))) := xD
  refine lv_aload_n xE xB dX5_copyFrom_74 rfl (lv_at xL 1 rfl) ?_
  refine va_get (D := G.1) (ci := 5) (v := .ref m2.2.2.1) (C := RX5) (T := TX5) (N := 11) xE xB xT khX5_copyFrom_X5 xO xK.1 xP 5 rfl rfl 8 (by decide) (xT _ kX5_copyFrom_f15) (fun _ h9 => h9) rfl dX5_copyFrom_75 ?_
  refine lv_iconst (v := nI 0) xE xB dX5_copyFrom_78 (by decide) ?_
  refine lv_aload_n xE xB dX5_copyFrom_79 rfl (lv_at xL 0 rfl) ?_
  refine va_get (D := G.1) (ci := 5) (v := .ref m.2.2.1) (C := RX5) (T := TX5) (N := 11) xE xB xT khX5_copyFrom_X5 xO xK.1 xP 0 rfl rfl 8 (by decide) (xT _ kX5_copyFrom_f15) (fun _ h9 => h9) rfl dX5_copyFrom_80 ?_
  refine lv_iconst (v := nI 0) xE xB dX5_copyFrom_83 (by decide) ?_
  refine lv_aload_n xE xB dX5_copyFrom_84 rfl (lv_at xL 0 rfl) ?_
  refine va_get (D := G.1) (ci := 5) (v := .ref m.2.2.1) (C := RX5) (T := TX5) (N := 11) xE xB xT khX5_copyFrom_X5 xO xK.1 xP 0 rfl rfl 8 (by decide) (xT _ kX5_copyFrom_f15) (fun _ h9 => h9) rfl dX5_copyFrom_85 ?_
  refine va_alen (v := nI 16) xE xB xK.1 xP 2 1 rfl rfl rfl dX5_copyFrom_88 ?_
  refine va_copyi xE xB (xM.trans xL.1.symm) xO (xT _ kX5_copyFrom_m65) (xT _ kX5_copyFrom_nat) (xT _ kX5_copyFrom_sta) (xT _ kX5_copyFrom_ini) xK.1 xP xD xS 7 2 1 1 rfl rfl rfl rfl rfl (by decide) (by decide) (by decide) (by decide) (by decide) (fun _ _ => rfl) (Nat.le_of_ble_eq_true rfl) (by decide) dX5_copyFrom_89 (fun H locs xP xD xS => ?_)
  have xP : va_P G.1 vwCl ((wT G m (b2, ta2, tb2, th2, tw2, tt2, tn2, va_cpy sm2 sm0 0 0 16, va_cpy mt2 mt 0 0 16, rw, dn)) ++ (wT G m2 (b2, ta2, tb2, th2, tw2, tt2, tn2, sm2, mt2, rw2, dn2))) H := xP
  have xD : va_D A ((wT G m (b2, ta2, tb2, th2, tw2, tt2, tn2, va_cpy sm2 sm0 0 0 16, va_cpy mt2 mt 0 0 16, rw, dn)) ++ (wT G m2 (b2, ta2, tb2, th2, tw2, tt2, tn2, sm2, mt2, rw2, dn2))) := xD
  refine lv_aload_n xE xB dX5_copyFrom_92 rfl (lv_at xL 1 rfl) ?_
  refine va_get (D := G.1) (ci := 5) (v := .ref m2.2.2.2.1) (C := RX5) (T := TX5) (N := 11) xE xB xT khX5_copyFrom_X5 xO xK.1 xP 5 rfl rfl 9 (by decide) (xT _ kX5_copyFrom_f18) (fun _ h9 => h9) rfl dX5_copyFrom_93 ?_
  refine lv_iconst (v := nI 0) xE xB dX5_copyFrom_96 (by decide) ?_
  refine lv_aload_n xE xB dX5_copyFrom_97 rfl (lv_at xL 0 rfl) ?_
  refine va_get (D := G.1) (ci := 5) (v := .ref m.2.2.2.1) (C := RX5) (T := TX5) (N := 11) xE xB xT khX5_copyFrom_X5 xO xK.1 xP 0 rfl rfl 9 (by decide) (xT _ kX5_copyFrom_f18) (fun _ h9 => h9) rfl dX5_copyFrom_98 ?_
  refine lv_iconst (v := nI 0) xE xB dX5_copyFrom_101 (by decide) ?_
  refine lv_aload_n xE xB dX5_copyFrom_102 rfl (lv_at xL 0 rfl) ?_
  refine va_get (D := G.1) (ci := 5) (v := .ref m.2.2.2.1) (C := RX5) (T := TX5) (N := 11) xE xB xT khX5_copyFrom_X5 xO xK.1 xP 0 rfl rfl 9 (by decide) (xT _ kX5_copyFrom_f18) (fun _ h9 => h9) rfl dX5_copyFrom_103 ?_
  refine va_alen (v := nI 16) xE xB xK.1 xP 3 1 rfl rfl rfl dX5_copyFrom_106 ?_
  refine va_copyi xE xB (xM.trans xL.1.symm) xO (xT _ kX5_copyFrom_m65) (xT _ kX5_copyFrom_nat) (xT _ kX5_copyFrom_sta) (xT _ kX5_copyFrom_ini) xK.1 xP xD xS 8 3 1 1 rfl rfl rfl rfl rfl (by decide) (by decide) (by decide) (by decide) (by decide) (fun _ _ => rfl) (Nat.le_of_ble_eq_true rfl) (by decide) dX5_copyFrom_107 (fun H locs xP xD xS => ?_)
  have xP : va_P G.1 vwCl ((wT G m (b2, ta2, tb2, th2, tw2, tt2, tn2, va_cpy sm2 sm0 0 0 16, va_cpy mt2 mt 0 0 16, va_cpy rw2 rw 0 0 16, dn)) ++ (wT G m2 (b2, ta2, tb2, th2, tw2, tt2, tn2, sm2, mt2, rw2, dn2))) H := xP
  have xD : va_D A ((wT G m (b2, ta2, tb2, th2, tw2, tt2, tn2, va_cpy sm2 sm0 0 0 16, va_cpy mt2 mt 0 0 16, va_cpy rw2 rw 0 0 16, dn)) ++ (wT G m2 (b2, ta2, tb2, th2, tw2, tt2, tn2, sm2, mt2, rw2, dn2))) := xD
  refine lv_aload_n xE xB dX5_copyFrom_110 rfl (lv_at xL 1 rfl) ?_
  refine va_get (D := G.1) (ci := 5) (v := .ref m2.2.2.2.2) (C := RX5) (T := TX5) (N := 11) xE xB xT khX5_copyFrom_X5 xO xK.1 xP 5 rfl rfl 10 (by decide) (xT _ kX5_copyFrom_f21) (fun _ h9 => h9) rfl dX5_copyFrom_111 ?_
  refine lv_iconst (v := nI 0) xE xB dX5_copyFrom_114 (by decide) ?_
  refine lv_aload_n xE xB dX5_copyFrom_115 rfl (lv_at xL 0 rfl) ?_
  refine va_get (D := G.1) (ci := 5) (v := .ref m.2.2.2.2) (C := RX5) (T := TX5) (N := 11) xE xB xT khX5_copyFrom_X5 xO xK.1 xP 0 rfl rfl 10 (by decide) (xT _ kX5_copyFrom_f21) (fun _ h9 => h9) rfl dX5_copyFrom_116 ?_
  refine lv_iconst (v := nI 0) xE xB dX5_copyFrom_119 (by decide) ?_
  refine lv_aload_n xE xB dX5_copyFrom_120 rfl (lv_at xL 0 rfl) ?_
  refine va_get (D := G.1) (ci := 5) (v := .ref m.2.2.2.2) (C := RX5) (T := TX5) (N := 11) xE xB xT khX5_copyFrom_X5 xO xK.1 xP 0 rfl rfl 10 (by decide) (xT _ kX5_copyFrom_f21) (fun _ h9 => h9) rfl dX5_copyFrom_121 ?_
  refine va_alen (v := nI 16) xE xB xK.1 xP 4 1 rfl rfl rfl dX5_copyFrom_124 ?_
  refine va_copyi xE xB (xM.trans xL.1.symm) xO (xT _ kX5_copyFrom_m65) (xT _ kX5_copyFrom_nat) (xT _ kX5_copyFrom_sta) (xT _ kX5_copyFrom_ini) xK.1 xP xD xS 9 4 1 1 rfl rfl rfl rfl rfl (by decide) (by decide) (by decide) (by decide) (by decide) (fun _ _ => rfl) (Nat.le_of_ble_eq_true rfl) (by decide) dX5_copyFrom_125 (fun H locs xP xD xS => ?_)
  have xP : va_P G.1 vwCl ((wT G m (b2, ta2, tb2, th2, tw2, tt2, tn2, va_cpy sm2 sm0 0 0 16, va_cpy mt2 mt 0 0 16, va_cpy rw2 rw 0 0 16, va_cpy dn2 dn 0 0 16)) ++ (wT G m2 (b2, ta2, tb2, th2, tw2, tt2, tn2, sm2, mt2, rw2, dn2))) H := xP
  have xD : va_D A ((wT G m (b2, ta2, tb2, th2, tw2, tt2, tn2, va_cpy sm2 sm0 0 0 16, va_cpy mt2 mt 0 0 16, va_cpy rw2 rw 0 0 16, va_cpy dn2 dn 0 0 16)) ++ (wT G m2 (b2, ta2, tb2, th2, tw2, tt2, tn2, sm2, mt2, rw2, dn2))) := xD
  exact xQ _ _ _ _ () trivial xP xD xS dX5_copyFrom_128
