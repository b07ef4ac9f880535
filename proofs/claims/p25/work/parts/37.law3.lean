/-! law3: the law's shapes and runs -/
theorem set_up {f : wF} {q : Nat} (h : ∀ p, p < q → f p = nI 0) : ∀ p, p < q + 1 → upd f q (nI 0) p = nI 0 := fun p hp => by
  by_cases e : p = q
  · rw [e, upd_s]
  · rw [upd_n e]; exact h p (by omega)
theorem tk_36 {k n r c : Nat} (hn : 1 ≤ n ∧ n ≤ 4) (hr : r ≤ 6) (hk : k ≤ 6) (hc : c ≤ 6) : tkN k n r c < 10000 := by
  have hb : ∀ (f : Nat → Nat) (B m : Nat), (∀ i, f i ≤ B) → ns f m ≤ m * B := by
    intro f B m h
    induction m with
    | zero => exact Nat.zero_le _
    | succ m ih =>
      have := h m
      show ns f m + f m ≤ (m + 1) * B
      rw [Nat.add_mul, Nat.one_mul]
      omega
  have h1 : ∀ a b, need k n r c a b ≤ 99 := fun a b => by have := need_b (k := k) (n := n) (r := r) (c := c) (ta := a) (tb := b) hn.2 hk; omega
  have t1 := tls_6 hr hn.1
  have t2 := tls_6 hc hn.1
  have h2 : ∀ a, ns (fun b => need k n r c a b) (tls c n) ≤ 6 * 99 := fun a => Nat.le_trans (hb _ 99 _ (h1 a)) (Nat.mul_le_mul_right 99 t2)
  have h3 : tkN k n r c ≤ 6 * (6 * 99) := Nat.le_trans (hb _ (6 * 99) _ h2) (Nat.mul_le_mul_right _ t1)
  omega
theorem pc_36 (z : Nat) : pcN 36 z ≤ 36 := by
  have h : ∀ n w, pcN n w ≤ n := by
    intro n
    induction n with
    | zero => exact fun _ => Nat.le_refl 0
    | succ n ih =>
      intro w
      have := ih (w / 2)
      show w % 2 + pcN n (w / 2) ≤ n + 1
      omega
  exact h 36 z
theorem all_0 {n r c x y i : Nat} : ((x < r ∧ y < c) ∧ (x / n < i ∨ (x / n = i ∧ y / n < 0))) ↔ ((x < r ∧ y < c) ∧ x / n < i) := ⟨fun q => ⟨q.1, q.2.elim id (fun w => absurd w.2 (Nat.not_lt_zero _))⟩, fun q => ⟨q.1, Or.inl q.2⟩⟩
theorem all_1 {n r c x y i : Nat} (hn : 1 ≤ n ∧ n ≤ 4) : ((x < r ∧ y < c) ∧ x / n < i + 1) ↔ ((x < r ∧ y < c) ∧ (x / n < i ∨ (x / n = i ∧ y / n < tls c n))) := ⟨fun q => ⟨q.1, (Nat.lt_or_ge (x / n) i).elim Or.inl (fun w => Or.inr ⟨by have := q.2; omega, tl_in hn q.1.2⟩)⟩, fun q => ⟨q.1, by rcases q.2 with w | w <;> omega⟩⟩
theorem all_2 {n r c x y i j : Nat} (hn : 1 ≤ n ∧ n ≤ 4) : ((x < r ∧ y < c) ∧ (x / n < i ∨ (x / n = i ∧ y / n < j + 1))) ↔ (((x < r ∧ y < c) ∧ (x / n < i ∨ (x / n = i ∧ y / n < j))) ∨ inT n r c i j x y) := by
  rw [inT_iff hn]
  constructor
  · rintro ⟨q1, q2 | ⟨q2, q3⟩⟩
    · exact Or.inl ⟨q1, Or.inl q2⟩
    · rcases Nat.lt_or_ge (y / n) j with w | w
      · exact Or.inl ⟨q1, Or.inr ⟨q2, w⟩⟩
      · exact Or.inr ⟨q1, q2, by omega⟩
  · rintro (⟨q1, q2 | ⟨q2, q3⟩⟩ | ⟨q1, q2, q3⟩)
    · exact ⟨q1, Or.inl q2⟩
    · exact ⟨q1, Or.inr ⟨q2, by omega⟩⟩
    · exact ⟨q1, Or.inr ⟨q2, by omega⟩⟩
theorem all_t {k n r c i j t : Nat} : t + ns (fun b => need k n r c i b) j + (min n (r - n * i) + min n (c - n * j) + k - 2) = t + ns (fun b => need k n r c i b) (j + 1) := Nat.add_assoc _ _ _
theorem DW_tr {n o k z z2 z3 : Nat} {a b f rd rd2 rd3 : wF} {P P2 Q : Nat → Nat → Prop} (h : DW n o k a b f P rd z rd2 z2) (h2 : DW n o k a b f P2 rd2 z2 rd3 z3) (e : ∀ x y, x < 6 → y < 6 → (Q x y ↔ (P x y ∨ P2 x y))) : DW n o k a b f Q rd z rd3 z3 := by
  refine ⟨h2.1, fun x y hx hy => ⟨fun q => ?_, fun q => ?_⟩⟩
  · rcases Classical.em (P2 x y) with w | w
    · exact (h2.2 x y hx hy).1 w
    · obtain ⟨e1, e2⟩ := (h2.2 x y hx hy).2 w
      rw [e1, e2]
      rcases (e x y hx hy).mp q with v | v
      · exact (h.2 x y hx hy).1 v
      · exact absurd v w
  · obtain ⟨e1, e2⟩ := (h2.2 x y hx hy).2 (fun w => q ((e x y hx hy).mpr (Or.inr w)))
    rw [e1, e2]
    exact (h.2 x y hx hy).2 (fun w => q ((e x y hx hy).mpr (Or.inl w)))
set_option maxHeartbeats 4000000 in
set_option maxRecDepth 100000 in
/-- kL_shapes -/
theorem kL_shapes (l : Launch) (G : wG) (oa ga aa ba fa ra wa n r k c o b ta tb tt : Nat) (u : OD) (g ad bd fd rd : wF) (wd : Nat → Int64) (s : wF) (T : Nat → Nat) (y : Nat) (hI : OI n r k c o b ta tb tt u s T 0) (hL : LR n r k c o b ta tb tt g ad bd fd rd wd s) (hy : y < 10000000) : CI (S := OD × wF × wF × wF × wF × (Nat → Int64)) l yL_shapes wsL_shapes (rm 5 104) G [.ref oa, .ref ga, .ref aa, .ref ba, .ref fa, .ref wa, .int (nI y)] (List.flatten [[(ga, ai G 9 g)], [(aa, ai G 36 ad)], [(ba, ai G 36 bd)], [(fa, ai G 20 fd)], [(wa, al G 1 wd)], wO G oa u]) (fun x u9 => x = nI 1 ∧ LI u9.1 u9.2.1 u9.2.2.1 u9.2.2.2.1 u9.2.2.2.2.1 rd u9.2.2.2.2.2) (fun u9 => List.flatten [[(ga, ai G 9 u9.2.1)], [(aa, ai G 36 u9.2.2.1)], [(ba, ai G 36 u9.2.2.2.1)], [(fa, ai G 20 u9.2.2.2.2.1)], [(wa, al G 1 u9.2.2.2.2.2)], wO G oa u9.1]) := by
  refine CI.ofZ (own := RL) rfl (by decide) rfl (Nat.le_of_ble_eq_true rfl) ?_
  intro p9 e9 s9 m9 b9 t9 c9 A xE xB xM xO xT xK xP xD Q xQ xS ls hl
  have xL : lv_has ls 9 [(0, .ref oa), (1, .ref ga), (2, .ref aa), (3, .ref ba), (4, .ref fa), (5, .ref wa), (6, .int (nI y))] := hl
  have hL0 := hL
  obtain ⟨⟨hg0, hg1, hg2, hg3, hg4, hg5⟩, hg6, hA, hB, hF, z, hz, hz2, hZ⟩ := hL
  have hN := hI.num
  have hn := hN.2.1
  have hm := hN.2.2.1
  have hb1 := hN.2.2.2.1
  refine lv_iload xE xB dL_shapes_0 (lv_at xL 6 rfl) ?_
  refine lv_iconst (v := nI 3) xE xB dL_shapes_2 (by decide) ?_
  refine q_irem xE xB dL_shapes_3 (by omega) (by omega) (by omega) ?_
  refine q_if_ne (tgt := 78) xE xB dL_shapes_4 (by decide) (by omega) (fun c_4 => ?_) (fun c_4 => ?_)
  · skip
    refine lv_aload_n xE xB dL_shapes_78 rfl (lv_at xL 1 rfl) ?_
    refine lv_iconst (v := nI 1) xE xB dL_shapes_79 (by decide) ?_
    refine lv_iconst (v := nI 1) xE xB dL_shapes_80 (by decide) ?_
    refine lv_iload xE xB dL_shapes_81 (lv_at xL 6 rfl) ?_
    refine lv_iconst (v := nI 3) xE xB dL_shapes_83 (by decide) ?_
    refine q_idiv xE xB dL_shapes_84 (by omega) (by omega) (by omega) ?_
    refine lv_bipush (v := nI 6) xE xB dL_shapes_85 (by decide) ?_
    refine q_irem xE xB dL_shapes_87 (by omega) (by omega) (by omega) ?_
    refine q_iadd xE xB dL_shapes_88 ?_
    obtain ⟨r2, hr2⟩ : ∃ q : Nat, q = 1 + ((y / 3) % 6) := ⟨_, rfl⟩
    refine q_eq (y := nI r2) (congrArg nI hr2.symm) ?_
    refine q_ast xE xB xK xP xD xS 0 rfl (by omega) (by decide) dL_shapes_89 (fun H locs xP xD xS => ?_)
    have xP : va_P G.1 vwCl (List.flatten [[(ga, ai G 9 (upd g 1 (nI r2)))], [(aa, ai G 36 ad)], [(ba, ai G 36 bd)], [(fa, ai G 20 fd)], [(wa, al G 1 wd)], wO G oa u]) H := xP
    have xD : va_D A (List.flatten [[(ga, ai G 9 (upd g 1 (nI r2)))], [(aa, ai G 36 ad)], [(ba, ai G 36 bd)], [(fa, ai G 20 fd)], [(wa, al G 1 wd)], wO G oa u]) := xD
    refine lv_aload_n xE xB dL_shapes_90 rfl (lv_at xL 1 rfl) ?_
    refine lv_iconst (v := nI 2) xE xB dL_shapes_91 (by decide) ?_
    refine lv_iconst (v := nI 1) xE xB dL_shapes_92 (by decide) ?_
    refine lv_iload xE xB dL_shapes_93 (lv_at xL 6 rfl) ?_
    refine lv_bipush (v := nI 18) xE xB dL_shapes_95 (by decide) ?_
    refine q_idiv xE xB dL_shapes_97 (by omega) (by omega) (by omega) ?_
    refine lv_bipush (v := nI 6) xE xB dL_shapes_98 (by decide) ?_
    refine q_irem xE xB dL_shapes_100 (by omega) (by omega) (by omega) ?_
    refine q_iadd xE xB dL_shapes_101 ?_
    obtain ⟨k2, hk2⟩ : ∃ q : Nat, q = 1 + ((y / 18) % 6) := ⟨_, rfl⟩
    refine q_eq (y := nI k2) (congrArg nI hk2.symm) ?_
    refine q_ast xE xB xK xP xD xS 0 rfl (by omega) (by decide) dL_shapes_102 (fun H locs xP xD xS => ?_)
    have xP : va_P G.1 vwCl (List.flatten [[(ga, ai G 9 (upd (upd g 1 (nI r2)) 2 (nI k2)))], [(aa, ai G 36 ad)], [(ba, ai G 36 bd)], [(fa, ai G 20 fd)], [(wa, al G 1 wd)], wO G oa u]) H := xP
    have xD : va_D A (List.flatten [[(ga, ai G 9 (upd (upd g 1 (nI r2)) 2 (nI k2)))], [(aa, ai G 36 ad)], [(ba, ai G 36 bd)], [(fa, ai G 20 fd)], [(wa, al G 1 wd)], wO G oa u]) := xD
    refine lv_aload_n xE xB dL_shapes_103 rfl (lv_at xL 1 rfl) ?_
    refine lv_iconst (v := nI 3) xE xB dL_shapes_104 (by decide) ?_
    refine lv_iconst (v := nI 1) xE xB dL_shapes_105 (by decide) ?_
    refine lv_iload xE xB dL_shapes_106 (lv_at xL 6 rfl) ?_
    refine lv_bipush (v := nI 108) xE xB dL_shapes_108 (by decide) ?_
    refine q_idiv xE xB dL_shapes_110 (by omega) (by omega) (by omega) ?_
    refine lv_bipush (v := nI 6) xE xB dL_shapes_111 (by decide) ?_
    refine q_irem xE xB dL_shapes_113 (by omega) (by omega) (by omega) ?_
    refine q_iadd xE xB dL_shapes_114 ?_
    obtain ⟨c2, hc2⟩ : ∃ q : Nat, q = 1 + ((y / 108) % 6) := ⟨_, rfl⟩
    refine q_eq (y := nI c2) (congrArg nI hc2.symm) ?_
    refine q_ast xE xB xK xP xD xS 0 rfl (by omega) (by decide) dL_shapes_115 (fun H locs xP xD xS => ?_)
    have xP : va_P G.1 vwCl (List.flatten [[(ga, ai G 9 (upd (upd (upd g 1 (nI r2)) 2 (nI k2)) 3 (nI c2)))], [(aa, ai G 36 ad)], [(ba, ai G 36 bd)], [(fa, ai G 20 fd)], [(wa, al G 1 wd)], wO G oa u]) H := xP
    have xD : va_D A (List.flatten [[(ga, ai G 9 (upd (upd (upd g 1 (nI r2)) 2 (nI k2)) 3 (nI c2)))], [(aa, ai G 36 ad)], [(ba, ai G 36 bd)], [(fa, ai G 20 fd)], [(wa, al G 1 wd)], wO G oa u]) := xD
    refine lv_aload_n xE xB dL_shapes_116 rfl (lv_at xL 1 rfl) ?_
    refine lv_iconst (v := nI 5) xE xB dL_shapes_117 (by decide) ?_
    refine lv_iconst (v := nI 0) xE xB dL_shapes_118 (by decide) ?_
    refine q_ast xE xB xK xP xD xS 0 rfl (by omega) (by decide) dL_shapes_119 (fun H locs xP xD xS => ?_)
    have xP : va_P G.1 vwCl (List.flatten [[(ga, ai G 9 (upd (upd (upd (upd g 1 (nI r2)) 2 (nI k2)) 3 (nI c2)) 5 (nI 0)))], [(aa, ai G 36 ad)], [(ba, ai G 36 bd)], [(fa, ai G 20 fd)], [(wa, al G 1 wd)], wO G oa u]) H := xP
    have xD : va_D A (List.flatten [[(ga, ai G 9 (upd (upd (upd (upd g 1 (nI r2)) 2 (nI k2)) 3 (nI c2)) 5 (nI 0)))], [(aa, ai G 36 ad)], [(ba, ai G 36 bd)], [(fa, ai G 20 fd)], [(wa, al G 1 wd)], wO G oa u]) := xD
    refine lv_aload xE xB dL_shapes_120 (lv_at xL 5 rfl) ?_
    refine lv_iconst (v := nI 0) xE xB dL_shapes_122 (by decide) ?_
    refine lv_lconst (v := lN 0) xE xB dL_shapes_123 (by decide) ?_
    refine q_last xE xB xK xP xD xS 4 rfl (by omega) (by decide) dL_shapes_124 (fun H locs xP xD xS => ?_)
    have xP : va_P G.1 vwCl (List.flatten [[(ga, ai G 9 (upd (upd (upd (upd g 1 (nI r2)) 2 (nI k2)) 3 (nI c2)) 5 (nI 0)))], [(aa, ai G 36 ad)], [(ba, ai G 36 bd)], [(fa, ai G 20 fd)], [(wa, al G 1 (vp_updL wd 0 (lN 0)))], wO G oa u]) H := xP
    have xD : va_D A (List.flatten [[(ga, ai G 9 (upd (upd (upd (upd g 1 (nI r2)) 2 (nI k2)) 3 (nI c2)) 5 (nI 0)))], [(aa, ai G 36 ad)], [(ba, ai G 36 bd)], [(fa, ai G 20 fd)], [(wa, al G 1 (vp_updL wd 0 (lN 0)))], wO G oa u]) := xD
    refine lv_iconst (v := nI 0) xE xB dL_shapes_125 (by decide) ?_
    refine lv_istore (lv' := [(7, .int (nI 0)), (0, .ref oa), (1, .ref ga), (2, .ref aa), (3, .ref ba), (4, .ref fa), (5, .ref wa), (6, .int (nI y))]) xE xB dL_shapes_126 xL (by decide) rfl (fun ls xL => ?_)
    have L_128 : ∀ (n_128 : Nat) (q : Nat) (a2 b2 : wF), (q ≤ 36) → (∀ p, p < q → a2 p = nI 0) → (∀ p, p < q → b2 p = nI 0) → 36 - q < n_128 → ∀ (H : Heap) (locs : List Loc), va_P G.1 vwCl (List.flatten [[(ga, ai G 9 (upd (upd (upd (upd g 1 (nI r2)) 2 (nI k2)) 3 (nI c2)) 5 (nI 0)))], [(aa, ai G 36 a2)], [(ba, ai G 36 b2)], [(fa, ai G 20 fd)], [(wa, al G 1 (vp_updL wd 0 (lN 0)))], wO G oa u]) H → va_D A (List.flatten [[(ga, ai G 9 (upd (upd (upd (upd g 1 (nI r2)) 2 (nI k2)) 3 (nI c2)) 5 (nI 0)))], [(aa, ai G 36 a2)], [(ba, ai G 36 b2)], [(fa, ai G 20 fd)], [(wa, al G 1 (vp_updL wd 0 (lN 0)))], wO G oa u]) → va_S A s9.heap H locs → ∀ (ls : Array Slot), lv_has ls 9 [(0, .ref oa), (1, .ref ga), (2, .ref aa), (3, .ref ba), (4, .ref fa), (5, .ref wa), (6, .int (nI y)), (7, .int (nI q))] → W p9 l e9 (rm 5 104) s9 m9 ([.ref oa, .ref ga, .ref aa, .ref ba, .ref fa, .ref wa, .int (nI y)] : List Value).toArray b9 t9 c9 H locs 0 0 Q (F0 m9 128 ls []) := by
      intro n_128
      induction n_128 with
      | zero => intro q a2 b2 hq ha2 hb2 hm_128 H locs xP xD xS ls xL; exact absurd hm_128 (Nat.not_lt_zero _)
      | succ n_128 ih_128 =>
        intro q a2 b2 hq ha2 hb2 hm_128 H locs xP xD xS ls xL
        refine lv_iload xE xB dL_shapes_128 (lv_at xL 7 rfl) ?_
        refine lv_bipush (v := nI 36) xE xB dL_shapes_130 (by decide) ?_
        refine q_icmp_ge (tgt := 151) xE xB dL_shapes_132 (by decide) (by omega) (by omega) (fun c_132 => ?_) (fun c_132 => ?_)
        · skip
          refine lv_aload_n xE xB dL_shapes_151 rfl (lv_at xL 0 rfl) ?_
          refine lv_aload_n xE xB dL_shapes_152 rfl (lv_at xL 1 rfl) ?_
          refine lv_iconst (v := nI 1) xE xB dL_shapes_153 (by decide) ?_
          refine q_ald xE xB xK xP 0 rfl (by omega) (by decide) dL_shapes_154 ?_
          refine q_eq (y := nI r2) ((upd_n (by decide)).trans ((upd_n (by decide)).trans ((upd_n (by decide)).trans (upd_s)))) ?_
          refine lv_aload_n xE xB dL_shapes_155 rfl (lv_at xL 1 rfl) ?_
          refine lv_iconst (v := nI 2) xE xB dL_shapes_156 (by decide) ?_
          refine q_ald xE xB xK xP 0 rfl (by omega) (by decide) dL_shapes_157 ?_
          refine q_eq (y := nI k2) ((upd_n (by decide)).trans ((upd_n (by decide)).trans (upd_s))) ?_
          refine lv_aload_n xE xB dL_shapes_158 rfl (lv_at xL 1 rfl) ?_
          refine lv_iconst (v := nI 3) xE xB dL_shapes_159 (by decide) ?_
          refine q_ald xE xB xK xP 0 rfl (by omega) (by decide) dL_shapes_160 ?_
          refine q_eq (y := nI c2) ((upd_n (by decide)).trans (upd_s)) ?_
          refine q_VIL (As := [.int (nI r2), .int (nI k2), .int (nI c2)]) (rest := []) ⟨xE, xB, xM, xO, xT⟩ (kO_shape l G oa n r k c o b ta tb tt 0 u s T r2 k2 c2 (by first | assumption | omega) (by omega) (by omega) (by omega)) (cwV 3 xT gL_shapes_X6_shape rfl rfl rfl (by decide +kernel) ⟨Nat.le_of_ble_eq_true rfl, Nat.le_of_ble_eq_true rfl⟩) xK xP xD xS [5] [0, 1, 2, 3, 4] 6 rfl (by decide) (Lc := [wO G oa u]) rfl rfl (fun u_161 => [[(ga, ai G 9 (upd (upd (upd (upd g 1 (nI r2)) 2 (nI k2)) 3 (nI c2)) 5 (nI 0)))], [(aa, ai G 36 a2)], [(ba, ai G 36 b2)], [(fa, ai G 20 fd)], [(wa, al G 1 (vp_updL wd 0 (lN 0)))], wO G oa u_161]) (fun u_161 => [wO G oa u_161]) (fun _ => rfl) (fun _ => rfl) (fun _ => rfl) (fun _ => rfl) 0 rfl rfl rfl rfl xL.1 rfl (Nat.le_of_ble_eq_true rfl) dL_shapes_161 ⟨Nat.le_refl _, Nat.le_refl _⟩ (fun r_161 u_161 H locs h_161 xP xD xS => ?_)
          replace h_161 : r_161 = nI (tls r2 n * tls c2 n) ∧ OI n r2 k2 c2 o 0 ta tb tt u_161 (shapeF r2 k2 c2 s) T 0 := h_161
          obtain ⟨q_161, h_161⟩ := h_161
          subst q_161
          refine lv_aload_n xE xB dL_shapes_164 rfl (lv_at xL 1 rfl) ?_
          refine lv_aload_n xE xB dL_shapes_165 rfl (lv_at xL 1 rfl) ?_
          refine lv_iconst (v := nI 1) xE xB dL_shapes_166 (by decide) ?_
          refine q_ald xE xB xK xP 0 rfl (by omega) (by decide) dL_shapes_167 ?_
          refine q_eq (y := nI r2) ((upd_n (by decide)).trans ((upd_n (by decide)).trans ((upd_n (by decide)).trans (upd_s)))) ?_
          refine q_SRL (As := [.ref ga, .int (nI r2)]) (rest := [.int (nI (tls r2 n * tls c2 n))]) ⟨xE, xB, xM, xO, xT⟩ (kL_along l G ga (upd (upd (upd (upd g 1 (nI r2)) 2 (nI k2)) 3 (nI c2)) 5 (nI 0)) n r2 ((upd_n (by decide)).trans ((upd_n (by decide)).trans ((upd_n (by decide)).trans ((upd_n (by decide)).trans (hg0))))) (by omega) (by omega)) (va_cwS 2 xT gL_shapes_L_along rfl rfl rfl (by decide +kernel) ⟨Nat.le_of_ble_eq_true rfl, Nat.le_of_ble_eq_true rfl⟩) xK xP [0] [1, 2, 3, 4, 5] 6 rfl (by decide) (Lc := [[(ga, ai G 9 (upd (upd (upd (upd g 1 (nI r2)) 2 (nI k2)) 3 (nI c2)) 5 (nI 0)))]]) rfl rfl rfl xL.1 rfl (Nat.le_of_ble_eq_true rfl) dL_shapes_168 ⟨Nat.le_refl _, Nat.le_refl _⟩ (fun r_168 h_168 => ?_)
          obtain rfl : r_168 = nI (tls r2 n) := h_168
          refine lv_aload_n xE xB dL_shapes_171 rfl (lv_at xL 1 rfl) ?_
          refine lv_aload_n xE xB dL_shapes_172 rfl (lv_at xL 1 rfl) ?_
          refine lv_iconst (v := nI 3) xE xB dL_shapes_173 (by decide) ?_
          refine q_ald xE xB xK xP 0 rfl (by omega) (by decide) dL_shapes_174 ?_
          refine q_eq (y := nI c2) ((upd_n (by decide)).trans (upd_s)) ?_
          refine q_SRL (As := [.ref ga, .int (nI c2)]) (rest := [.int (nI (tls r2 n)), .int (nI (tls r2 n * tls c2 n))]) ⟨xE, xB, xM, xO, xT⟩ (kL_along l G ga (upd (upd (upd (upd g 1 (nI r2)) 2 (nI k2)) 3 (nI c2)) 5 (nI 0)) n c2 ((upd_n (by decide)).trans ((upd_n (by decide)).trans ((upd_n (by decide)).trans ((upd_n (by decide)).trans (hg0))))) (by omega) (by omega)) (va_cwS 2 xT gL_shapes_L_along rfl rfl rfl (by decide +kernel) ⟨Nat.le_of_ble_eq_true rfl, Nat.le_of_ble_eq_true rfl⟩) xK xP [0] [1, 2, 3, 4, 5] 6 rfl (by decide) (Lc := [[(ga, ai G 9 (upd (upd (upd (upd g 1 (nI r2)) 2 (nI k2)) 3 (nI c2)) 5 (nI 0)))]]) rfl rfl rfl xL.1 rfl (Nat.le_of_ble_eq_true rfl) dL_shapes_175 ⟨Nat.le_refl _, Nat.le_refl _⟩ (fun r_175 h_175 => ?_)
          obtain rfl : r_175 = nI (tls c2 n) := h_175
          refine q_imul xE xB dL_shapes_178 ?_
          refine q_icmp_ne (tgt := 186) xE xB dL_shapes_179 (by decide) (by have := Nat.mul_le_mul (tls_6 (show r2 ≤ 6 by omega) hn.1) (tls_6 (show c2 ≤ 6 by omega) hn.1); omega) (by have := Nat.mul_le_mul (tls_6 (show r2 ≤ 6 by omega) hn.1) (tls_6 (show c2 ≤ 6 by omega) hn.1); omega) (fun c_179 => absurd c_179 (by omega)) (fun c_179 => ?_)
          refine lv_iconst (v := nI 1) xE xB dL_shapes_182 (by decide) ?_
          refine lv_goto (tgt := 187) xE xB dL_shapes_183 (by decide) ?_
          exact xQ _ _ _ _ _ (_, _, _, _, _, _) (by exact ⟨rfl, n, r2, k2, c2, o, 0, ta, tb, tt, _, _, h_161, LR_shape hL0 (fun p hp => ha2 p (by omega)) (fun p hp => hb2 p (by omega))⟩) (by decide) xP xD xS dL_shapes_187
        · skip
          refine lv_aload_n xE xB dL_shapes_135 rfl (lv_at xL 2 rfl) ?_
          refine lv_iload xE xB dL_shapes_136 (lv_at xL 7 rfl) ?_
          refine lv_iconst (v := nI 0) xE xB dL_shapes_138 (by decide) ?_
          refine q_ast xE xB xK xP xD xS 1 rfl (by omega) (by decide) dL_shapes_139 (fun H locs xP xD xS => ?_)
          have xP : va_P G.1 vwCl (List.flatten [[(ga, ai G 9 (upd (upd (upd (upd g 1 (nI r2)) 2 (nI k2)) 3 (nI c2)) 5 (nI 0)))], [(aa, ai G 36 (upd a2 q (nI 0)))], [(ba, ai G 36 b2)], [(fa, ai G 20 fd)], [(wa, al G 1 (vp_updL wd 0 (lN 0)))], wO G oa u]) H := xP
          have xD : va_D A (List.flatten [[(ga, ai G 9 (upd (upd (upd (upd g 1 (nI r2)) 2 (nI k2)) 3 (nI c2)) 5 (nI 0)))], [(aa, ai G 36 (upd a2 q (nI 0)))], [(ba, ai G 36 b2)], [(fa, ai G 20 fd)], [(wa, al G 1 (vp_updL wd 0 (lN 0)))], wO G oa u]) := xD
          refine lv_aload_n xE xB dL_shapes_140 rfl (lv_at xL 3 rfl) ?_
          refine lv_iload xE xB dL_shapes_141 (lv_at xL 7 rfl) ?_
          refine lv_iconst (v := nI 0) xE xB dL_shapes_143 (by decide) ?_
          refine q_ast xE xB xK xP xD xS 2 rfl (by omega) (by decide) dL_shapes_144 (fun H locs xP xD xS => ?_)
          have xP : va_P G.1 vwCl (List.flatten [[(ga, ai G 9 (upd (upd (upd (upd g 1 (nI r2)) 2 (nI k2)) 3 (nI c2)) 5 (nI 0)))], [(aa, ai G 36 (upd a2 q (nI 0)))], [(ba, ai G 36 (upd b2 q (nI 0)))], [(fa, ai G 20 fd)], [(wa, al G 1 (vp_updL wd 0 (lN 0)))], wO G oa u]) H := xP
          have xD : va_D A (List.flatten [[(ga, ai G 9 (upd (upd (upd (upd g 1 (nI r2)) 2 (nI k2)) 3 (nI c2)) 5 (nI 0)))], [(aa, ai G 36 (upd a2 q (nI 0)))], [(ba, ai G 36 (upd b2 q (nI 0)))], [(fa, ai G 20 fd)], [(wa, al G 1 (vp_updL wd 0 (lN 0)))], wO G oa u]) := xD
          refine lv_iinc (v := nI (q + 1)) (lv' := [(7, .int (nI (q + 1))), (0, .ref oa), (1, .ref ga), (2, .ref aa), (3, .ref ba), (4, .ref fa), (5, .ref wa), (6, .int (nI y))]) xE xB dL_shapes_145 xL (k := 7) rfl (q_inc _ _) (by decide) rfl (fun ls xL => ?_)
          refine lv_goto (tgt := 128) xE xB dL_shapes_148 (by decide) ?_
          exact ih_128 (q + 1) (upd a2 q (nI 0)) (upd b2 q (nI 0)) (by omega) (by exact set_up ha2) (by exact set_up hb2) (by omega) _ _ xP xD xS _ (lv_sub xL [1, 2, 3, 4, 5, 6, 7, 0] rfl)
    exact L_128 (36 - 0 + 1) 0 ad bd (by omega) (by exact fun p hp => absurd hp (Nat.not_lt_zero p)) (by exact fun p hp => absurd hp (Nat.not_lt_zero p)) (Nat.lt_succ_self _) _ _ xP xD xS _ (lv_sub xL [1, 2, 3, 4, 5, 6, 7, 0] rfl)
  · skip
    refine lv_aload_n xE xB dL_shapes_7 rfl (lv_at xL 1 rfl) ?_
    refine lv_iconst (v := nI 0) xE xB dL_shapes_8 (by decide) ?_
    refine q_ald xE xB xK xP 0 rfl (by omega) (by decide) dL_shapes_9 ?_
    refine q_eq (y := nI n) (hg0) ?_
    refine lv_istore (lv' := [(7, .int (nI n)), (0, .ref oa), (1, .ref ga), (2, .ref aa), (3, .ref ba), (4, .ref fa), (5, .ref wa), (6, .int (nI y))]) xE xB dL_shapes_10 xL (by decide) rfl (fun ls xL => ?_)
    refine lv_aload_n xE xB dL_shapes_12 rfl (lv_at xL 2 rfl) ?_
    refine lv_iconst (v := nI 0) xE xB dL_shapes_13 (by decide) ?_
    refine lv_iconst (v := nI 1) xE xB dL_shapes_14 (by decide) ?_
    refine lv_iload xE xB dL_shapes_15 (lv_at xL 7 rfl) ?_
    refine lv_iconst (v := nI 3) xE xB dL_shapes_17 (by decide) ?_
    refine q_idiv xE xB dL_shapes_18 (by omega) (by omega) (by omega) ?_
    refine lv_iconst (v := nI 4) xE xB dL_shapes_19 (by decide) ?_
    refine q_irem xE xB dL_shapes_20 (by omega) (by omega) (by omega) ?_
    refine q_iadd xE xB dL_shapes_21 ?_
    obtain ⟨m, hm⟩ : ∃ q : Nat, q = 1 + ((y / 3) % 4) := ⟨_, rfl⟩
    refine q_eq (y := nI m) (congrArg nI hm.symm) ?_
    have hm1 : 1 ≤ m ∧ m ≤ 4 := (by omega)
    refine q_ast xE xB xK xP xD xS 0 rfl (by omega) (by decide) dL_shapes_22 (fun H locs xP xD xS => ?_)
    have xP : va_P G.1 vwCl (List.flatten [[(ga, ai G 9 (upd g 0 (nI m)))], [(aa, ai G 36 ad)], [(ba, ai G 36 bd)], [(fa, ai G 20 fd)], [(wa, al G 1 wd)], wO G oa u]) H := xP
    have xD : va_D A (List.flatten [[(ga, ai G 9 (upd g 0 (nI m)))], [(aa, ai G 36 ad)], [(ba, ai G 36 bd)], [(fa, ai G 20 fd)], [(wa, al G 1 wd)], wO G oa u]) := xD
    refine lv_aload_n xE xB dL_shapes_23 rfl (lv_at xL 2 rfl) ?_
    refine lv_iconst (v := nI 4) xE xB dL_shapes_24 (by decide) ?_
    refine lv_aload_n xE xB dL_shapes_25 rfl (lv_at xL 2 rfl) ?_
    refine lv_iconst (v := nI 0) xE xB dL_shapes_26 (by decide) ?_
    refine q_ald xE xB xK xP 0 rfl (by omega) (by decide) dL_shapes_27 ?_
    refine q_eq (y := nI m) (upd_s) ?_
    refine q_ast xE xB xK xP xD xS 0 rfl (by omega) (by decide) dL_shapes_28 (fun H locs xP xD xS => ?_)
    have xP : va_P G.1 vwCl (List.flatten [[(ga, ai G 9 (upd (upd g 0 (nI m)) 4 (nI m)))], [(aa, ai G 36 ad)], [(ba, ai G 36 bd)], [(fa, ai G 20 fd)], [(wa, al G 1 wd)], wO G oa u]) H := xP
    have xD : va_D A (List.flatten [[(ga, ai G 9 (upd (upd g 0 (nI m)) 4 (nI m)))], [(aa, ai G 36 ad)], [(ba, ai G 36 bd)], [(fa, ai G 20 fd)], [(wa, al G 1 wd)], wO G oa u]) := xD
    refine lv_aload_n xE xB dL_shapes_29 rfl (lv_at xL 2 rfl) ?_
    refine lv_iconst (v := nI 5) xE xB dL_shapes_30 (by decide) ?_
    refine lv_iconst (v := nI 0) xE xB dL_shapes_31 (by decide) ?_
    refine q_ast xE xB xK xP xD xS 0 rfl (by omega) (by decide) dL_shapes_32 (fun H locs xP xD xS => ?_)
    have xP : va_P G.1 vwCl (List.flatten [[(ga, ai G 9 (upd (upd (upd g 0 (nI m)) 4 (nI m)) 5 (nI 0)))], [(aa, ai G 36 ad)], [(ba, ai G 36 bd)], [(fa, ai G 20 fd)], [(wa, al G 1 wd)], wO G oa u]) H := xP
    have xD : va_D A (List.flatten [[(ga, ai G 9 (upd (upd (upd g 0 (nI m)) 4 (nI m)) 5 (nI 0)))], [(aa, ai G 36 ad)], [(ba, ai G 36 bd)], [(fa, ai G 20 fd)], [(wa, al G 1 wd)], wO G oa u]) := xD
    refine lv_aload xE xB dL_shapes_33 (lv_at xL 6 rfl) ?_
    refine lv_iconst (v := nI 0) xE xB dL_shapes_35 (by decide) ?_
    refine lv_lconst (v := lN 0) xE xB dL_shapes_36 (by decide) ?_
    refine q_last xE xB xK xP xD xS 4 rfl (by omega) (by decide) dL_shapes_37 (fun H locs xP xD xS => ?_)
    have xP : va_P G.1 vwCl (List.flatten [[(ga, ai G 9 (upd (upd (upd g 0 (nI m)) 4 (nI m)) 5 (nI 0)))], [(aa, ai G 36 ad)], [(ba, ai G 36 bd)], [(fa, ai G 20 fd)], [(wa, al G 1 (vp_updL wd 0 (lN 0)))], wO G oa u]) H := xP
    have xD : va_D A (List.flatten [[(ga, ai G 9 (upd (upd (upd g 0 (nI m)) 4 (nI m)) 5 (nI 0)))], [(aa, ai G 36 ad)], [(ba, ai G 36 bd)], [(fa, ai G 20 fd)], [(wa, al G 1 (vp_updL wd 0 (lN 0)))], wO G oa u]) := xD
    refine lv_iconst (v := nI 0) xE xB dL_shapes_38 (by decide) ?_
    refine lv_istore (lv' := [(8, .int (nI 0)), (7, .int (nI n)), (0, .ref oa), (1, .ref ga), (2, .ref aa), (3, .ref ba), (4, .ref fa), (5, .ref wa), (6, .int (nI y))]) xE xB dL_shapes_39 xL (by decide) rfl (fun ls xL => ?_)
    have L_41 : ∀ (n_41 : Nat) (q : Nat) (f2 : wF), (q ≤ 20) → (∀ p, p < q → f2 p = nI 0) → 20 - q < n_41 → ∀ (H : Heap) (locs : List Loc), va_P G.1 vwCl (List.flatten [[(ga, ai G 9 (upd (upd (upd g 0 (nI m)) 4 (nI m)) 5 (nI 0)))], [(aa, ai G 36 ad)], [(ba, ai G 36 bd)], [(fa, ai G 20 f2)], [(wa, al G 1 (vp_updL wd 0 (lN 0)))], wO G oa u]) H → va_D A (List.flatten [[(ga, ai G 9 (upd (upd (upd g 0 (nI m)) 4 (nI m)) 5 (nI 0)))], [(aa, ai G 36 ad)], [(ba, ai G 36 bd)], [(fa, ai G 20 f2)], [(wa, al G 1 (vp_updL wd 0 (lN 0)))], wO G oa u]) → va_S A s9.heap H locs → ∀ (ls : Array Slot), lv_has ls 9 [(0, .ref oa), (1, .ref ga), (2, .ref aa), (3, .ref ba), (4, .ref fa), (5, .ref wa), (6, .int (nI y)), (7, .int (nI n)), (8, .int (nI q))] → W p9 l e9 (rm 5 104) s9 m9 ([.ref oa, .ref ga, .ref aa, .ref ba, .ref fa, .ref wa, .int (nI y)] : List Value).toArray b9 t9 c9 H locs 0 0 Q (F0 m9 41 ls []) := by
      intro n_41
      induction n_41 with
      | zero => intro q f2 hq hf2 hm_41 H locs xP xD xS ls xL; exact absurd hm_41 (Nat.not_lt_zero _)
      | succ n_41 ih_41 =>
        intro q f2 hq hf2 hm_41 H locs xP xD xS ls xL
        refine lv_iload xE xB dL_shapes_41 (lv_at xL 8 rfl) ?_
        refine lv_bipush (v := nI 20) xE xB dL_shapes_43 (by decide) ?_
        refine q_icmp_ge (tgt := 60) xE xB dL_shapes_45 (by decide) (by omega) (by omega) (fun c_45 => ?_) (fun c_45 => ?_)
        · skip
          refine lv_aload_n xE xB dL_shapes_60 rfl (lv_at xL 0 rfl) ?_
          refine lv_aload_n xE xB dL_shapes_61 rfl (lv_at xL 1 rfl) ?_
          refine lv_iconst (v := nI 0) xE xB dL_shapes_62 (by decide) ?_
          refine q_ald xE xB xK xP 0 rfl (by omega) (by decide) dL_shapes_63 ?_
          refine q_eq (y := nI m) ((upd_n (by decide)).trans ((upd_n (by decide)).trans (upd_s))) ?_
          refine q_VIL (As := [.int (nI m)]) (rest := []) ⟨xE, xB, xM, xO, xT⟩ (kO_side l G oa n r k c o b ta tb tt 0 u s T m (by first | assumption | omega) (by first | assumption | omega) (by first | assumption | omega)) (cwV 1 xT gL_shapes_X6_side rfl rfl rfl (by decide +kernel) ⟨Nat.le_of_ble_eq_true rfl, Nat.le_of_ble_eq_true rfl⟩) xK xP xD xS [5] [0, 1, 2, 3, 4] 6 rfl (by decide) (Lc := [wO G oa u]) rfl rfl (fun u_64 => [[(ga, ai G 9 (upd (upd (upd g 0 (nI m)) 4 (nI m)) 5 (nI 0)))], [(aa, ai G 36 ad)], [(ba, ai G 36 bd)], [(fa, ai G 20 f2)], [(wa, al G 1 (vp_updL wd 0 (lN 0)))], wO G oa u_64]) (fun u_64 => [wO G oa u_64]) (fun _ => rfl) (fun _ => rfl) (fun _ => rfl) (fun _ => rfl) 0 rfl rfl rfl rfl xL.1 rfl (Nat.le_of_ble_eq_true rfl) dL_shapes_64 ⟨Nat.le_refl _, Nat.le_refl _⟩ (fun r_64 u_64 H locs h_64 xP xD xS => ?_)
          replace h_64 : r_64 = nI n ∧ OI m r k c m 0 ta tb tt u_64 (sideF m s) T 0 := h_64
          obtain ⟨q_64, h_64⟩ := h_64
          subst q_64
          refine lv_iload xE xB dL_shapes_67 (lv_at xL 7 rfl) ?_
          refine q_icmp_ne (tgt := 76) xE xB dL_shapes_69 (by decide) (by omega) (by omega) (fun c_69 => absurd c_69 (by omega)) (fun c_69 => ?_)
          refine lv_iconst (v := nI 1) xE xB dL_shapes_72 (by decide) ?_
          refine lv_goto (tgt := 77) xE xB dL_shapes_73 (by decide) ?_
          exact xQ _ _ _ _ _ (_, _, _, _, _, _) (by exact ⟨rfl, m, r, k, c, m, 0, ta, tb, tt, _, _, h_64, LR_side hL0 (fun p hp => hf2 p (by omega))⟩) (by decide) xP xD xS dL_shapes_77
        · skip
          refine lv_aload xE xB dL_shapes_48 (lv_at xL 4 rfl) ?_
          refine lv_iload xE xB dL_shapes_50 (lv_at xL 8 rfl) ?_
          refine lv_iconst (v := nI 0) xE xB dL_shapes_52 (by decide) ?_
          refine q_ast xE xB xK xP xD xS 3 rfl (by omega) (by decide) dL_shapes_53 (fun H locs xP xD xS => ?_)
          have xP : va_P G.1 vwCl (List.flatten [[(ga, ai G 9 (upd (upd (upd g 0 (nI m)) 4 (nI m)) 5 (nI 0)))], [(aa, ai G 36 ad)], [(ba, ai G 36 bd)], [(fa, ai G 20 (upd f2 q (nI 0)))], [(wa, al G 1 (vp_updL wd 0 (lN 0)))], wO G oa u]) H := xP
          have xD : va_D A (List.flatten [[(ga, ai G 9 (upd (upd (upd g 0 (nI m)) 4 (nI m)) 5 (nI 0)))], [(aa, ai G 36 ad)], [(ba, ai G 36 bd)], [(fa, ai G 20 (upd f2 q (nI 0)))], [(wa, al G 1 (vp_updL wd 0 (lN 0)))], wO G oa u]) := xD
          refine lv_iinc (v := nI (q + 1)) (lv' := [(8, .int (nI (q + 1))), (0, .ref oa), (1, .ref ga), (2, .ref aa), (3, .ref ba), (4, .ref fa), (5, .ref wa), (6, .int (nI y)), (7, .int (nI n))]) xE xB dL_shapes_54 xL (k := 8) rfl (q_inc _ _) (by decide) rfl (fun ls xL => ?_)
          refine lv_goto (tgt := 41) xE xB dL_shapes_57 (by decide) ?_
          exact ih_41 (q + 1) (upd f2 q (nI 0)) (by omega) (by exact set_up hf2) (by omega) _ _ xP xD xS _ (lv_sub xL [1, 2, 3, 4, 5, 6, 7, 8, 0] rfl)
    exact L_41 (20 - 0 + 1) 0 fd (by omega) (by exact fun p hp => absurd hp (Nat.not_lt_zero p)) (Nat.lt_succ_self _) _ _ xP xD xS _ (lv_sub xL [2, 3, 4, 5, 6, 7, 8, 1, 0] rfl)
theorem kL_runs_c48 : Cond.constant RL 48 (-1000002) ∈ wsL_runs := by decide +kernel
set_option maxHeartbeats 4000000 in
set_option maxRecDepth 100000 in
/-- kL_runs0 -/
theorem kL_runs0 (l : Launch) (G : wG) (oa ga aa ba fa ra wa n r k c o b ta tb tt : Nat) (u : OD) (g ad bd fd rd : wF) (wd : Nat → Int64) (s : wF) (T : Nat → Nat) (y : Nat) (hI : OI n r k c o b ta tb tt u s T 0) (hL : LR n r k c o b ta tb tt g ad bd fd rd wd s) (hy : y < 10000000) : CI (S := OD × wF × wF × (Nat → Int64)) l yL_runs wsL_runs (rm 5 103) G [.ref oa, .ref ga, .ref aa, .ref ba, .ref fa, .ref ra, .ref wa, .int (nI 0), .int (nI y)] (List.flatten [[(ga, ai G 9 g)], [(aa, ai G 36 ad)], [(ba, ai G 36 bd)], [(fa, ai G 20 fd)], [(ra, ai G 36 rd)], [(wa, al G 1 wd)], wO G oa u]) (fun x u9 => x = nI 1 ∧ LI u9.1 u9.2.1 ad bd fd u9.2.2.1 u9.2.2.2) (fun u9 => List.flatten [[(ga, ai G 9 u9.2.1)], [(aa, ai G 36 ad)], [(ba, ai G 36 bd)], [(fa, ai G 20 fd)], [(ra, ai G 36 u9.2.2.1)], [(wa, al G 1 u9.2.2.2)], wO G oa u9.1]) := by
  refine CI.ofZ (own := RL) rfl (by decide) rfl (Nat.le_of_ble_eq_true rfl) ?_
  intro p9 e9 s9 m9 b9 t9 c9 A xE xB xM xO xT xK xP xD Q xQ xS ls hl
  have xL : lv_has ls 12 [(0, .ref oa), (1, .ref ga), (2, .ref aa), (3, .ref ba), (4, .ref fa), (5, .ref ra), (6, .ref wa), (7, .int (nI 0)), (8, .int (nI y))] := hl
  have hL0 := hL
  obtain ⟨⟨hg0, hg1, hg2, hg3, hg4, hg5⟩, hg6, hA, hB, hF, z, hz, hz2, hZ⟩ := hL
  have hN := hI.num
  have hn := hN.2.1
  have hm := hN.2.2.1
  have hb1 := hN.2.2.2.1
  have htr : 1 ≤ tls r n := tls_pos hm.1 hn.1
  have htc : 1 ≤ tls c n := tls_pos hm.2.2.2.2.1 hn.1
  have ht6 : tls r n ≤ 6 := tls_6 hm.2.1 hn.1
  have htc6 : tls c n ≤ 6 := tls_6 hm.2.2.2.2.2 hn.1
  refine lv_iload xE xB dL_runs_0 (lv_at xL 7 rfl) ?_
  refine lv_if_ne (tgt := 100) xE xB dL_runs_2 (by decide) (fun h9 => absurd (by decide) h9) (fun _ => ?_)
  refine lv_iload xE xB dL_runs_5 (lv_at xL 8 rfl) ?_
  refine lv_aload_n xE xB dL_runs_7 rfl (lv_at xL 1 rfl) ?_
  refine lv_aload_n xE xB dL_runs_8 rfl (lv_at xL 1 rfl) ?_
  refine lv_iconst (v := nI 1) xE xB dL_runs_9 (by decide) ?_
  refine q_ald xE xB xK xP 0 rfl (by omega) (by decide) dL_runs_10 ?_
  refine q_eq (y := nI r) (hg1) ?_
  refine q_SRL (As := [.ref ga, .int (nI r)]) (rest := [.int (nI y)]) ⟨xE, xB, xM, xO, xT⟩ (kL_along l G ga g n r (hg0) (by omega) (by omega)) (va_cwS 2 xT gL_runs_L_along rfl rfl rfl (by decide +kernel) ⟨Nat.le_of_ble_eq_true rfl, Nat.le_of_ble_eq_true rfl⟩) xK xP [0] [1, 2, 3, 4, 5, 6] 7 rfl (by decide) (Lc := [[(ga, ai G 9 g)]]) rfl rfl rfl xL.1 rfl (Nat.le_of_ble_eq_true rfl) dL_runs_11 ⟨Nat.le_refl _, Nat.le_refl _⟩ (fun r_11 h_11 => ?_)
  obtain rfl : r_11 = nI (tls r n) := h_11
  refine q_irem xE xB dL_runs_14 (by omega) (by omega) (by omega) ?_
  obtain ⟨i, hi⟩ : ∃ q : Nat, q = y % (tls r n) := ⟨_, rfl⟩
  refine q_eq (y := nI i) (congrArg nI hi.symm) ?_
  have hi : i < tls r n := by rw [hi]; exact Nat.mod_lt _ htr
  refine lv_istore (lv' := [(9, .int (nI i)), (0, .ref oa), (1, .ref ga), (2, .ref aa), (3, .ref ba), (4, .ref fa), (5, .ref ra), (6, .ref wa), (7, .int (nI 0)), (8, .int (nI y))]) xE xB dL_runs_15 xL (by decide) rfl (fun ls xL => ?_)
  refine lv_iload xE xB dL_runs_17 (lv_at xL 9 rfl) ?_
  refine lv_bipush (v := nI 6) xE xB dL_runs_19 (by decide) ?_
  refine q_idiv xE xB dL_runs_21 (by omega) (by omega) (by omega) ?_
  refine lv_aload_n xE xB dL_runs_22 rfl (lv_at xL 2 rfl) ?_
  refine lv_aload_n xE xB dL_runs_23 rfl (lv_at xL 2 rfl) ?_
  refine lv_iconst (v := nI 3) xE xB dL_runs_24 (by decide) ?_
  refine q_ald xE xB xK xP 0 rfl (by omega) (by decide) dL_runs_25 ?_
  refine q_eq (y := nI c) (hg3) ?_
  refine q_SRL (As := [.ref ga, .int (nI c)]) (rest := [.int (nI (y / 6))]) ⟨xE, xB, xM, xO, xT⟩ (kL_along l G ga g n c (hg0) (by omega) (by omega)) (va_cwS 2 xT gL_runs_L_along rfl rfl rfl (by decide +kernel) ⟨Nat.le_of_ble_eq_true rfl, Nat.le_of_ble_eq_true rfl⟩) xK xP [0] [1, 2, 3, 4, 5, 6] 7 rfl (by decide) (Lc := [[(ga, ai G 9 g)]]) rfl rfl rfl xL.1 rfl (Nat.le_of_ble_eq_true rfl) dL_runs_26 ⟨Nat.le_refl _, Nat.le_refl _⟩ (fun r_26 h_26 => ?_)
  obtain rfl : r_26 = nI (tls c n) := h_26
  refine q_irem xE xB dL_runs_29 (by omega) (by omega) (by omega) ?_
  obtain ⟨j, hj⟩ : ∃ q : Nat, q = (y / 6) % (tls c n) := ⟨_, rfl⟩
  refine q_eq (y := nI j) (congrArg nI hj.symm) ?_
  have hj : j < tls c n := by rw [hj]; exact Nat.mod_lt _ htc
  refine lv_istore (lv' := [(10, .int (nI j)), (9, .int (nI i)), (0, .ref oa), (1, .ref ga), (2, .ref aa), (3, .ref ba), (4, .ref fa), (5, .ref ra), (6, .ref wa), (7, .int (nI 0)), (8, .int (nI y))]) xE xB dL_runs_30 xL (by decide) rfl (fun ls xL => ?_)
  refine lv_aload_n xE xB dL_runs_32 rfl (lv_at xL 3 rfl) ?_
  refine lv_iconst (v := nI 5) xE xB dL_runs_33 (by decide) ?_
  refine q_ald xE xB xK xP 0 rfl (by omega) (by decide) dL_runs_34 ?_
  refine q_eq (y := nI b) (hg5) ?_
  refine lv_iconst (v := nI 1) xE xB dL_runs_35 (by decide) ?_
  refine q_icmp_ne (tgt := 58) xE xB dL_runs_36 (by decide) (by omega) (by omega) (fun c_36 => ?_) (fun c_36 => ?_)
  · skip
    refine lv_aload_n xE xB dL_runs_58 rfl (lv_at xL 3 rfl) ?_
    refine lv_iconst (v := nI 5) xE xB dL_runs_59 (by decide) ?_
    refine lv_iconst (v := nI 1) xE xB dL_runs_60 (by decide) ?_
    refine q_ast xE xB xK xP xD xS 0 rfl (by omega) (by decide) dL_runs_61 (fun H locs xP xD xS => ?_)
    have xP : va_P G.1 vwCl (List.flatten [[(ga, ai G 9 (upd g 5 (nI 1)))], [(aa, ai G 36 ad)], [(ba, ai G 36 bd)], [(fa, ai G 20 fd)], [(ra, ai G 36 rd)], [(wa, al G 1 wd)], wO G oa u]) H := xP
    have xD : va_D A (List.flatten [[(ga, ai G 9 (upd g 5 (nI 1)))], [(aa, ai G 36 ad)], [(ba, ai G 36 bd)], [(fa, ai G 20 fd)], [(ra, ai G 36 rd)], [(wa, al G 1 wd)], wO G oa u]) := xD
    refine lv_aload_n xE xB dL_runs_62 rfl (lv_at xL 3 rfl) ?_
    refine lv_bipush (v := nI 6) xE xB dL_runs_63 (by decide) ?_
    refine lv_iload xE xB dL_runs_65 (lv_at xL 1 rfl) ?_
    refine q_ast xE xB xK xP xD xS 0 rfl (by omega) (by decide) dL_runs_67 (fun H locs xP xD xS => ?_)
    have xP : va_P G.1 vwCl (List.flatten [[(ga, ai G 9 (upd (upd g 5 (nI 1)) 6 (nI i)))], [(aa, ai G 36 ad)], [(ba, ai G 36 bd)], [(fa, ai G 20 fd)], [(ra, ai G 36 rd)], [(wa, al G 1 wd)], wO G oa u]) H := xP
    have xD : va_D A (List.flatten [[(ga, ai G 9 (upd (upd g 5 (nI 1)) 6 (nI i)))], [(aa, ai G 36 ad)], [(ba, ai G 36 bd)], [(fa, ai G 20 fd)], [(ra, ai G 36 rd)], [(wa, al G 1 wd)], wO G oa u]) := xD
    refine lv_aload_n xE xB dL_runs_68 rfl (lv_at xL 3 rfl) ?_
    refine lv_bipush (v := nI 7) xE xB dL_runs_69 (by decide) ?_
    refine lv_iload xE xB dL_runs_71 (lv_at xL 0 rfl) ?_
    refine q_ast xE xB xK xP xD xS 0 rfl (by omega) (by decide) dL_runs_73 (fun H locs xP xD xS => ?_)
    have xP : va_P G.1 vwCl (List.flatten [[(ga, ai G 9 (upd (upd (upd g 5 (nI 1)) 6 (nI i)) 7 (nI j)))], [(aa, ai G 36 ad)], [(ba, ai G 36 bd)], [(fa, ai G 20 fd)], [(ra, ai G 36 rd)], [(wa, al G 1 wd)], wO G oa u]) H := xP
    have xD : va_D A (List.flatten [[(ga, ai G 9 (upd (upd (upd g 5 (nI 1)) 6 (nI i)) 7 (nI j)))], [(aa, ai G 36 ad)], [(ba, ai G 36 bd)], [(fa, ai G 20 fd)], [(ra, ai G 36 rd)], [(wa, al G 1 wd)], wO G oa u]) := xD
    refine lv_aload_n xE xB dL_runs_74 rfl (lv_at xL 3 rfl) ?_
    refine lv_bipush (v := nI 8) xE xB dL_runs_75 (by decide) ?_
    refine lv_iconst (v := nI 0) xE xB dL_runs_77 (by decide) ?_
    refine q_ast xE xB xK xP xD xS 0 rfl (by omega) (by decide) dL_runs_78 (fun H locs xP xD xS => ?_)
    have xP : va_P G.1 vwCl (List.flatten [[(ga, ai G 9 (upd (upd (upd (upd g 5 (nI 1)) 6 (nI i)) 7 (nI j)) 8 (nI 0)))], [(aa, ai G 36 ad)], [(ba, ai G 36 bd)], [(fa, ai G 20 fd)], [(ra, ai G 36 rd)], [(wa, al G 1 wd)], wO G oa u]) H := xP
    have xD : va_D A (List.flatten [[(ga, ai G 9 (upd (upd (upd (upd g 5 (nI 1)) 6 (nI i)) 7 (nI j)) 8 (nI 0)))], [(aa, ai G 36 ad)], [(ba, ai G 36 bd)], [(fa, ai G 20 fd)], [(ra, ai G 36 rd)], [(wa, al G 1 wd)], wO G oa u]) := xD
    refine lv_aload_n xE xB dL_runs_79 rfl (lv_at xL 2 rfl) ?_
    refine lv_iload xE xB dL_runs_80 (lv_at xL 1 rfl) ?_
    refine lv_iload xE xB dL_runs_82 (lv_at xL 0 rfl) ?_
    refine q_VIL (As := [.int (nI i), .int (nI j)]) (rest := []) ⟨xE, xB, xM, xO, xT⟩ (kO_begin l G oa n r k c o b ta tb tt 0 u s T i j (by first | assumption | omega) (by first | assumption | omega) (by first | assumption | omega) (by first | assumption | omega)) (cwV 2 xT gL_runs_X6_begin rfl rfl rfl (by decide +kernel) ⟨Nat.le_of_ble_eq_true rfl, Nat.le_of_ble_eq_true rfl⟩) xK xP xD xS [6] [0, 1, 2, 3, 4, 5] 7 rfl (by decide) (Lc := [wO G oa u]) rfl rfl (fun u_84 => [[(ga, ai G 9 (upd (upd (upd (upd g 5 (nI 1)) 6 (nI i)) 7 (nI j)) 8 (nI 0)))], [(aa, ai G 36 ad)], [(ba, ai G 36 bd)], [(fa, ai G 20 fd)], [(ra, ai G 36 rd)], [(wa, al G 1 wd)], wO G oa u_84]) (fun u_84 => [wO G oa u_84]) (fun _ => rfl) (fun _ => rfl) (fun _ => rfl) (fun _ => rfl) 0 rfl rfl rfl rfl xL.1 rfl (Nat.le_of_ble_eq_true rfl) dL_runs_84 ⟨Nat.le_refl _, Nat.le_refl _⟩ (fun r_84 u_84 H locs h_84 xP xD xS => ?_)
    replace h_84 : r_84 = nI (need k n r c i j) ∧ OI n r k c o 1 i j 0 u_84 (bgF i j s) T 0 := h_84
    obtain ⟨q_84, h_84⟩ := h_84
    subst q_84
    refine lv_aload_n xE xB dL_runs_87 rfl (lv_at xL 3 rfl) ?_
    refine q_SRL (As := [.ref ga]) (rest := [.int (nI (need k n r c i j))]) ⟨xE, xB, xM, xO, xT⟩ (kL_need l G ga (upd (upd (upd (upd g 5 (nI 1)) 6 (nI i)) 7 (nI j)) 8 (nI 0)) n r k c i j ((upd_n (by decide)).trans ((upd_n (by decide)).trans ((upd_n (by decide)).trans ((upd_n (by decide)).trans (hg0))))) ((upd_n (by decide)).trans ((upd_n (by decide)).trans ((upd_n (by decide)).trans ((upd_n (by decide)).trans (hg1))))) ((upd_n (by decide)).trans ((upd_n (by decide)).trans ((upd_n (by decide)).trans ((upd_n (by decide)).trans (hg2))))) ((upd_n (by decide)).trans ((upd_n (by decide)).trans ((upd_n (by decide)).trans ((upd_n (by decide)).trans (hg3))))) ((upd_n (by decide)).trans ((upd_n (by decide)).trans (upd_s))) ((upd_n (by decide)).trans (upd_s)) (by omega) (by omega) (by omega) (by omega) (by exact tls_lt hi hn.1) (by exact tls_lt hj hn.1)) (va_cwS 1 xT gL_runs_L_need rfl rfl rfl (by decide +kernel) ⟨Nat.le_of_ble_eq_true rfl, Nat.le_of_ble_eq_true rfl⟩) xK xP [0] [1, 2, 3, 4, 5, 6] 7 rfl (by decide) (Lc := [[(ga, ai G 9 (upd (upd (upd (upd g 5 (nI 1)) 6 (nI i)) 7 (nI j)) 8 (nI 0)))]]) rfl rfl rfl xL.1 rfl (Nat.le_of_ble_eq_true rfl) dL_runs_88 ⟨Nat.le_refl _, Nat.le_refl _⟩ (fun r_88 h_88 => ?_)
    obtain rfl : r_88 = nI (need k n r c i j) := h_88
    refine q_icmp_ne (tgt := 98) xE xB dL_runs_91 (by decide) (by have := need_b (k := k) (n := n) (r := r) (c := c) (ta := i) (tb := j) (by omega) (by omega); omega) (by have := need_b (k := k) (n := n) (r := r) (c := c) (ta := i) (tb := j) (by omega) (by omega); omega) (fun c_91 => absurd c_91 (by omega)) (fun c_91 => ?_)
    refine lv_iconst (v := nI 1) xE xB dL_runs_94 (by decide) ?_
    refine lv_goto (tgt := 99) xE xB dL_runs_95 (by decide) ?_
    exact xQ _ _ _ _ _ (_, _, _, _) (by exact ⟨rfl, n, r, k, c, o, 1, i, j, 0, _, _, h_84, LR_begin hL0⟩) (by decide) xP xD xS dL_runs_99
  · skip
    refine lv_aload_n xE xB dL_runs_39 rfl (lv_at xL 2 rfl) ?_
    refine lv_iload xE xB dL_runs_40 (lv_at xL 1 rfl) ?_
    refine lv_iload xE xB dL_runs_42 (lv_at xL 0 rfl) ?_
    refine q_VIL (As := [.int (nI i), .int (nI j)]) (rest := []) ⟨xE, xB, xM, xO, xT⟩ (kO_beginB l G oa n r k c o b ta tb tt 0 u s T i j (by first | assumption | omega) (by first | assumption | omega) (by first | assumption | omega) (by first | assumption | omega)) (cwV 2 xT gL_runs_X6_begin rfl rfl rfl (by decide +kernel) ⟨Nat.le_of_ble_eq_true rfl, Nat.le_of_ble_eq_true rfl⟩) xK xP xD xS [6] [0, 1, 2, 3, 4, 5] 7 rfl (by decide) (Lc := [wO G oa u]) rfl rfl (fun u_44 => [[(ga, ai G 9 g)], [(aa, ai G 36 ad)], [(ba, ai G 36 bd)], [(fa, ai G 20 fd)], [(ra, ai G 36 rd)], [(wa, al G 1 wd)], wO G oa u_44]) (fun u_44 => [wO G oa u_44]) (fun _ => rfl) (fun _ => rfl) (fun _ => rfl) (fun _ => rfl) 0 rfl rfl rfl rfl xL.1 rfl (Nat.le_of_ble_eq_true rfl) dL_runs_44 ⟨Nat.le_refl _, Nat.le_refl _⟩ (fun r_44 u_44 H locs h_44 xP xD xS => ?_)
    replace h_44 : r_44 = (-1000002) ∧ OI n r k c o b ta tb tt u_44 s T 0 := h_44
    obtain ⟨q_44, h_44⟩ := h_44
    subst q_44
    refine lv_ldc (v := (-1000002)) xE xB xO (xT _ kL_runs_c48) dL_runs_47 ?_
    refine lv_icmp_ne (tgt := 56) xE xB dL_runs_49 (by decide) (fun c_49 => absurd c_49 (by decide)) (fun c_49 => ?_)
    refine lv_iconst (v := nI 1) xE xB dL_runs_52 (by decide) ?_
    refine lv_goto (tgt := 57) xE xB dL_runs_53 (by decide) ?_
    exact xQ _ _ _ _ _ (_, _, _, _) (by exact ⟨rfl, n, r, k, c, o, b, ta, tb, tt, _, _, h_44, hL0⟩) (by decide) xP xD xS dL_runs_57
set_option maxHeartbeats 4000000 in
set_option maxRecDepth 100000 in
/-- kL_runs1 -/
theorem kL_runs1 (l : Launch) (G : wG) (oa ga aa ba fa ra wa n r k c o b ta tb tt : Nat) (u : OD) (g ad bd fd rd : wF) (wd : Nat → Int64) (s : wF) (T : Nat → Nat) (y : Nat) (hI : OI n r k c o b ta tb tt u s T 0) (hL : LR n r k c o b ta tb tt g ad bd fd rd wd s) (hy : y < 10000000) : CI (S := OD × wF × wF × (Nat → Int64)) l yL_runs wsL_runs (rm 6 132) G [.ref oa, .ref ga, .ref aa, .ref ba, .ref fa, .ref ra, .ref wa, .int (nI 1), .int (nI y)] (List.flatten [[(ga, ai G 9 g)], [(aa, ai G 36 ad)], [(ba, ai G 36 bd)], [(fa, ai G 20 fd)], [(ra, ai G 36 rd)], [(wa, al G 1 wd)], wO G oa u]) (fun x u9 => x = nI 1 ∧ LI u9.1 u9.2.1 ad bd fd u9.2.2.1 u9.2.2.2) (fun u9 => List.flatten [[(ga, ai G 9 u9.2.1)], [(aa, ai G 36 ad)], [(ba, ai G 36 bd)], [(fa, ai G 20 fd)], [(ra, ai G 36 u9.2.2.1)], [(wa, al G 1 u9.2.2.2)], wO G oa u9.1]) := by
  refine CI.ofZ (own := RL) rfl (by decide) rfl (Nat.le_of_ble_eq_true rfl) ?_
  intro p9 e9 s9 m9 b9 t9 c9 A xE xB xM xO xT xK xP xD Q xQ xS ls hl
  have xL : lv_has ls 12 [(0, .ref oa), (1, .ref ga), (2, .ref aa), (3, .ref ba), (4, .ref fa), (5, .ref ra), (6, .ref wa), (7, .int (nI 1)), (8, .int (nI y))] := hl
  have hL0 := hL
  obtain ⟨⟨hg0, hg1, hg2, hg3, hg4, hg5⟩, hg6, hA, hB, hF, z, hz, hz2, hZ⟩ := hL
  have hN := hI.num
  have hn := hN.2.1
  have hm := hN.2.2.1
  have hb1 := hN.2.2.2.1
  refine lv_iload xE xB dL_runs_0 (lv_at xL 7 rfl) ?_
  refine lv_if_ne (tgt := 100) xE xB dL_runs_2 (by decide) (fun _ => ?_) (fun h9 => absurd h9 (by decide))
  refine lv_iload xE xB dL_runs_100 (lv_at xL 7 rfl) ?_
  refine lv_iconst (v := nI 1) xE xB dL_runs_102 (by decide) ?_
  refine lv_icmp_ne (tgt := 216) xE xB dL_runs_103 (by decide) (fun h9 => absurd (by decide) h9) (fun _ => ?_)
  refine lv_iconst (v := nI 1) xE xB dL_runs_106 (by decide) ?_
  refine lv_iload xE xB dL_runs_107 (lv_at xL 8 rfl) ?_
  refine lv_iload xE xB dL_runs_109 (lv_at xL 8 rfl) ?_
  refine lv_iconst (v := nI 3) xE xB dL_runs_111 (by decide) ?_
  refine q_irem xE xB dL_runs_112 (by omega) (by omega) (by omega) ?_
  refine q_if_ne (tgt := 121) xE xB dL_runs_113 (by decide) (by omega) (fun c_113 => ?_) (fun c_113 => ?_)
  · skip
    refine lv_iconst (v := nI 4) xE xB dL_runs_121 (by decide) ?_
    refine q_irem xE xB dL_runs_122 (by omega) (by omega) (by omega) ?_
    refine q_iadd xE xB dL_runs_123 ?_
    obtain ⟨m, hm⟩ : ∃ q : Nat, q = 1 + (y % 4) := ⟨_, rfl⟩
    refine q_eq (y := nI m) (congrArg nI hm.symm) ?_
    refine lv_istore (lv' := [(9, .int (nI m)), (0, .ref oa), (1, .ref ga), (2, .ref aa), (3, .ref ba), (4, .ref fa), (5, .ref ra), (6, .ref wa), (7, .int (nI 1)), (8, .int (nI y))]) xE xB dL_runs_124 xL (by decide) rfl (fun ls xL => ?_)
    refine lv_aload_n xE xB dL_runs_126 rfl (lv_at xL 2 rfl) ?_
    refine lv_iconst (v := nI 5) xE xB dL_runs_127 (by decide) ?_
    refine q_ald xE xB xK xP 0 rfl (by omega) (by decide) dL_runs_128 ?_
    refine q_eq (y := nI b) (hg5) ?_
    refine q_if_eq (tgt := 143) xE xB dL_runs_129 (by decide) (by omega) (fun c_129 => ?_) (fun c_129 => ?_)
    · skip
      refine lv_aload_n xE xB dL_runs_143 rfl (lv_at xL 1 rfl) ?_
      refine lv_iload xE xB dL_runs_144 (lv_at xL 0 rfl) ?_
      refine q_VIL (As := [.int (nI m)]) (rest := []) ⟨xE, xB, xM, xO, xT⟩ (kO_tickN l G oa n r k c o b ta tb tt 0 u s T m (by first | assumption | omega) (by first | assumption | omega) (by first | assumption | omega) (by omega)) (cwV 1 xT gL_runs_X6_tick rfl rfl rfl (by decide +kernel) ⟨Nat.le_of_ble_eq_true rfl, Nat.le_of_ble_eq_true rfl⟩) xK xP xD xS [6] [0, 1, 2, 3, 4, 5] 7 rfl (by decide) (Lc := [wO G oa u]) rfl rfl (fun u_146 => [[(ga, ai G 9 g)], [(aa, ai G 36 ad)], [(ba, ai G 36 bd)], [(fa, ai G 20 fd)], [(ra, ai G 36 rd)], [(wa, al G 1 wd)], wO G oa u_146]) (fun u_146 => [wO G oa u_146]) (fun _ => rfl) (fun _ => rfl) (fun _ => rfl) (fun _ => rfl) 0 rfl rfl rfl rfl xL.1 rfl (Nat.le_of_ble_eq_true rfl) dL_runs_146 ⟨Nat.le_refl _, Nat.le_refl _⟩ (fun r_146 u_146 H locs h_146 xP xD xS => ?_)
      replace h_146 : r_146 = (-1000002) ∧ OI n r k c o b ta tb tt u_146 s T 0 := h_146
      obtain ⟨q_146, h_146⟩ := h_146
      subst q_146
      refine lv_ldc (v := (-1000002)) xE xB xO (xT _ kL_runs_c48) dL_runs_149 ?_
      refine lv_icmp_ne (tgt := 158) xE xB dL_runs_151 (by decide) (fun c_151 => absurd c_151 (by decide)) (fun c_151 => ?_)
      refine lv_iconst (v := nI 1) xE xB dL_runs_154 (by decide) ?_
      refine lv_goto (tgt := 159) xE xB dL_runs_155 (by decide) ?_
      exact xQ _ _ _ _ _ (_, _, _, _) (by exact ⟨rfl, n, r, k, c, o, b, ta, tb, tt, _, _, h_146, hL0⟩) (by decide) xP xD xS dL_runs_159
    · skip
      refine lv_aload_n xE xB dL_runs_132 rfl (lv_at xL 2 rfl) ?_
      refine lv_bipush (v := nI 8) xE xB dL_runs_133 (by decide) ?_
      refine q_ald xE xB xK xP 0 rfl (by omega) (by decide) dL_runs_135 ?_
      refine q_eq (y := nI tt) ((hg6 (by omega)).2.2) ?_
      refine lv_aload_n xE xB dL_runs_136 rfl (lv_at xL 2 rfl) ?_
      refine q_SRL (As := [.ref ga]) (rest := [.int (nI tt)]) ⟨xE, xB, xM, xO, xT⟩ (kL_need l G ga g n r k c ta tb (hg0) (hg1) (hg2) (hg3) ((hg6 (by omega)).1) ((hg6 (by omega)).2.1) (by omega) (by omega) (by omega) (by omega) (by exact (hN.2.2.2.2.1 (by omega)).2.1) (by exact (hN.2.2.2.2.1 (by omega)).2.2.1)) (va_cwS 1 xT gL_runs_L_need rfl rfl rfl (by decide +kernel) ⟨Nat.le_of_ble_eq_true rfl, Nat.le_of_ble_eq_true rfl⟩) xK xP [0] [1, 2, 3, 4, 5, 6] 7 rfl (by decide) (Lc := [[(ga, ai G 9 g)]]) rfl rfl rfl xL.1 rfl (Nat.le_of_ble_eq_true rfl) dL_runs_137 ⟨Nat.le_refl _, Nat.le_refl _⟩ (fun r_137 h_137 => ?_)
      obtain rfl : r_137 = nI (need k n r c ta tb) := h_137
      refine q_icmp_ne (tgt := 160) xE xB dL_runs_140 (by decide) (by have := need_b (k := k) (n := n) (r := r) (c := c) (ta := ta) (tb := tb) (by omega) (by omega); have := (hN.2.2.2.2.1 (by omega)).2.2.2.1; omega) (by have := need_b (k := k) (n := n) (r := r) (c := c) (ta := ta) (tb := tb) (by omega) (by omega); have := (hN.2.2.2.2.1 (by omega)).2.2.2.1; omega) (fun c_140 => ?_) (fun c_140 => ?_)
      · skip
        have htt := (hN.2.2.2.2.1 (by omega)).2.2.2.1
        refine lv_aload_n xE xB dL_runs_160 rfl (lv_at xL 2 rfl) ?_
        refine lv_bipush (v := nI 8) xE xB dL_runs_161 (by decide) ?_
        refine lv_aload_n xE xB dL_runs_163 rfl (lv_at xL 2 rfl) ?_
        refine lv_bipush (v := nI 8) xE xB dL_runs_164 (by decide) ?_
        refine q_ald xE xB xK xP 0 rfl (by omega) (by decide) dL_runs_166 ?_
        refine q_eq (y := nI tt) ((hg6 (by omega)).2.2) ?_
        refine lv_iload xE xB dL_runs_167 (lv_at xL 0 rfl) ?_
        refine q_iadd xE xB dL_runs_169 ?_
        refine lv_aload_n xE xB dL_runs_170 rfl (lv_at xL 2 rfl) ?_
        refine q_SRL (As := [.ref ga]) (rest := [.int (nI (tt + m)), .int (nI 8), .ref ga]) ⟨xE, xB, xM, xO, xT⟩ (kL_need l G ga g n r k c ta tb (hg0) (hg1) (hg2) (hg3) ((hg6 (by omega)).1) ((hg6 (by omega)).2.1) (by omega) (by omega) (by omega) (by omega) (by exact (hN.2.2.2.2.1 (by omega)).2.1) (by exact (hN.2.2.2.2.1 (by omega)).2.2.1)) (va_cwS 1 xT gL_runs_L_need rfl rfl rfl (by decide +kernel) ⟨Nat.le_of_ble_eq_true rfl, Nat.le_of_ble_eq_true rfl⟩) xK xP [0] [1, 2, 3, 4, 5, 6] 7 rfl (by decide) (Lc := [[(ga, ai G 9 g)]]) rfl rfl rfl xL.1 rfl (Nat.le_of_ble_eq_true rfl) dL_runs_171 ⟨Nat.le_refl _, Nat.le_refl _⟩ (fun r_171 h_171 => ?_)
        obtain rfl : r_171 = nI (need k n r c ta tb) := h_171
        refine q_icmp_ge (tgt := 187) xE xB dL_runs_174 (by decide) (by have := need_b (k := k) (n := n) (r := r) (c := c) (ta := ta) (tb := tb) (by omega) (by omega); omega) (by have := need_b (k := k) (n := n) (r := r) (c := c) (ta := ta) (tb := tb) (by omega) (by omega); omega) (fun c_174 => ?_) (fun c_174 => ?_)
        · skip
          refine lv_aload_n xE xB dL_runs_187 rfl (lv_at xL 2 rfl) ?_
          refine q_SRL (As := [.ref ga]) (rest := [.int (nI 8), .ref ga]) ⟨xE, xB, xM, xO, xT⟩ (kL_need l G ga g n r k c ta tb (hg0) (hg1) (hg2) (hg3) ((hg6 (by omega)).1) ((hg6 (by omega)).2.1) (by omega) (by omega) (by omega) (by omega) (by exact (hN.2.2.2.2.1 (by omega)).2.1) (by exact (hN.2.2.2.2.1 (by omega)).2.2.1)) (va_cwS 1 xT gL_runs_L_need rfl rfl rfl (by decide +kernel) ⟨Nat.le_of_ble_eq_true rfl, Nat.le_of_ble_eq_true rfl⟩) xK xP [0] [1, 2, 3, 4, 5, 6] 7 rfl (by decide) (Lc := [[(ga, ai G 9 g)]]) rfl rfl rfl xL.1 rfl (Nat.le_of_ble_eq_true rfl) dL_runs_188 ⟨Nat.le_refl _, Nat.le_refl _⟩ (fun r_188 h_188 => ?_)
          obtain rfl : r_188 = nI (need k n r c ta tb) := h_188
          refine q_ast xE xB xK xP xD xS 0 rfl (by omega) (by decide) dL_runs_191 (fun H locs xP xD xS => ?_)
          have xP : va_P G.1 vwCl (List.flatten [[(ga, ai G 9 (upd g 8 (nI (need k n r c ta tb))))], [(aa, ai G 36 ad)], [(ba, ai G 36 bd)], [(fa, ai G 20 fd)], [(ra, ai G 36 rd)], [(wa, al G 1 wd)], wO G oa u]) H := xP
          have xD : va_D A (List.flatten [[(ga, ai G 9 (upd g 8 (nI (need k n r c ta tb))))], [(aa, ai G 36 ad)], [(ba, ai G 36 bd)], [(fa, ai G 20 fd)], [(ra, ai G 36 rd)], [(wa, al G 1 wd)], wO G oa u]) := xD
          refine lv_aload_n xE xB dL_runs_192 rfl (lv_at xL 1 rfl) ?_
          refine lv_iload xE xB dL_runs_193 (lv_at xL 0 rfl) ?_
          refine q_VIL (As := [.int (nI m)]) (rest := []) ⟨xE, xB, xM, xO, xT⟩ (kO_tick l G oa n r k c o b ta tb tt 0 u s T m (min m (need k n r c ta tb - tt)) (by first | assumption | omega) (by first | assumption | omega) (by first | assumption | omega) (by omega) (by omega) (by rfl)) (cwV 1 xT gL_runs_X6_tick rfl rfl rfl (by decide +kernel) ⟨Nat.le_of_ble_eq_true rfl, Nat.le_of_ble_eq_true rfl⟩) xK xP xD xS [6] [0, 1, 2, 3, 4, 5] 7 rfl (by decide) (Lc := [wO G oa u]) rfl rfl (fun u_195 => [[(ga, ai G 9 (upd g 8 (nI (need k n r c ta tb))))], [(aa, ai G 36 ad)], [(ba, ai G 36 bd)], [(fa, ai G 20 fd)], [(ra, ai G 36 rd)], [(wa, al G 1 wd)], wO G oa u_195]) (fun u_195 => [wO G oa u_195]) (fun _ => rfl) (fun _ => rfl) (fun _ => rfl) (fun _ => rfl) 0 rfl rfl rfl rfl xL.1 rfl (Nat.le_of_ble_eq_true rfl) dL_runs_195 ⟨Nat.le_refl _, Nat.le_refl _⟩ (fun r_195 u_195 H locs h_195 xP xD xS => ?_)
          replace h_195 : r_195 = nI (need k n r c ta tb - (tt + (min m (need k n r c ta tb - tt)))) ∧ OI n r k c o b ta tb (tt + (min m (need k n r c ta tb - tt))) u_195 (goN k n o r c ta tb (min m (need k n r c ta tb - tt)) tt s) T 0 := h_195
          obtain ⟨q_195, h_195⟩ := h_195
          subst q_195
          refine lv_aload_n xE xB dL_runs_198 rfl (lv_at xL 2 rfl) ?_
          refine q_SRL (As := [.ref ga]) (rest := [.int (nI (need k n r c ta tb - (tt + (min m (need k n r c ta tb - tt)))))]) ⟨xE, xB, xM, xO, xT⟩ (kL_need l G ga (upd g 8 (nI (need k n r c ta tb))) n r k c ta tb ((upd_n (by decide)).trans (hg0)) ((upd_n (by decide)).trans (hg1)) ((upd_n (by decide)).trans (hg2)) ((upd_n (by decide)).trans (hg3)) ((upd_n (by decide)).trans ((hg6 (by omega)).1)) ((upd_n (by decide)).trans ((hg6 (by omega)).2.1)) (by omega) (by omega) (by omega) (by omega) (by exact (hN.2.2.2.2.1 (by omega)).2.1) (by exact (hN.2.2.2.2.1 (by omega)).2.2.1)) (va_cwS 1 xT gL_runs_L_need rfl rfl rfl (by decide +kernel) ⟨Nat.le_of_ble_eq_true rfl, Nat.le_of_ble_eq_true rfl⟩) xK xP [0] [1, 2, 3, 4, 5, 6] 7 rfl (by decide) (Lc := [[(ga, ai G 9 (upd g 8 (nI (need k n r c ta tb))))]]) rfl rfl rfl xL.1 rfl (Nat.le_of_ble_eq_true rfl) dL_runs_199 ⟨Nat.le_refl _, Nat.le_refl _⟩ (fun r_199 h_199 => ?_)
          obtain rfl : r_199 = nI (need k n r c ta tb) := h_199
          refine lv_aload_n xE xB dL_runs_202 rfl (lv_at xL 2 rfl) ?_
          refine lv_bipush (v := nI 8) xE xB dL_runs_203 (by decide) ?_
          refine q_ald xE xB xK xP 0 rfl (by omega) (by decide) dL_runs_205 ?_
          refine q_eq (y := nI (need k n r c ta tb)) (upd_s) ?_
          refine q_isub xE xB dL_runs_206 (by have := (hN.2.2.2.2.1 (by omega)).2.2.2.1; omega) ?_
          refine q_icmp_ne (tgt := 214) xE xB dL_runs_207 (by decide) (by have := need_b (k := k) (n := n) (r := r) (c := c) (ta := ta) (tb := tb) (by omega) (by omega); omega) (by have := need_b (k := k) (n := n) (r := r) (c := c) (ta := ta) (tb := tb) (by omega) (by omega); omega) (fun c_207 => absurd c_207 (by omega)) (fun c_207 => ?_)
          refine lv_iconst (v := nI 1) xE xB dL_runs_210 (by decide) ?_
          refine lv_goto (tgt := 215) xE xB dL_runs_211 (by decide) ?_
          exact xQ _ _ _ _ _ (_, _, _, _) (by exact ⟨rfl, n, r, k, c, o, b, ta, tb, _, _, _, h_195, LR_tick hL0 (by omega) (by have := (hN.2.2.2.2.1 (by omega)).2.2.2.1; omega)⟩) (by decide) xP xD xS dL_runs_215
        · skip
          refine lv_aload_n xE xB dL_runs_177 rfl (lv_at xL 2 rfl) ?_
          refine lv_bipush (v := nI 8) xE xB dL_runs_178 (by decide) ?_
          refine q_ald xE xB xK xP 0 rfl (by omega) (by decide) dL_runs_180 ?_
          refine q_eq (y := nI tt) ((hg6 (by omega)).2.2) ?_
          refine lv_iload xE xB dL_runs_181 (lv_at xL 0 rfl) ?_
          refine q_iadd xE xB dL_runs_183 ?_
          refine lv_goto (tgt := 191) xE xB dL_runs_184 (by decide) ?_
          refine q_ast xE xB xK xP xD xS 0 rfl (by omega) (by decide) dL_runs_191 (fun H locs xP xD xS => ?_)
          have xP : va_P G.1 vwCl (List.flatten [[(ga, ai G 9 (upd g 8 (nI (tt + m))))], [(aa, ai G 36 ad)], [(ba, ai G 36 bd)], [(fa, ai G 20 fd)], [(ra, ai G 36 rd)], [(wa, al G 1 wd)], wO G oa u]) H := xP
          have xD : va_D A (List.flatten [[(ga, ai G 9 (upd g 8 (nI (tt + m))))], [(aa, ai G 36 ad)], [(ba, ai G 36 bd)], [(fa, ai G 20 fd)], [(ra, ai G 36 rd)], [(wa, al G 1 wd)], wO G oa u]) := xD
          refine lv_aload_n xE xB dL_runs_192 rfl (lv_at xL 1 rfl) ?_
          refine lv_iload xE xB dL_runs_193 (lv_at xL 0 rfl) ?_
          refine q_VIL (As := [.int (nI m)]) (rest := []) ⟨xE, xB, xM, xO, xT⟩ (kO_tick l G oa n r k c o b ta tb tt 0 u s T m (min m (need k n r c ta tb - tt)) (by first | assumption | omega) (by first | assumption | omega) (by first | assumption | omega) (by omega) (by omega) (by rfl)) (cwV 1 xT gL_runs_X6_tick rfl rfl rfl (by decide +kernel) ⟨Nat.le_of_ble_eq_true rfl, Nat.le_of_ble_eq_true rfl⟩) xK xP xD xS [6] [0, 1, 2, 3, 4, 5] 7 rfl (by decide) (Lc := [wO G oa u]) rfl rfl (fun u_195 => [[(ga, ai G 9 (upd g 8 (nI (tt + m))))], [(aa, ai G 36 ad)], [(ba, ai G 36 bd)], [(fa, ai G 20 fd)], [(ra, ai G 36 rd)], [(wa, al G 1 wd)], wO G oa u_195]) (fun u_195 => [wO G oa u_195]) (fun _ => rfl) (fun _ => rfl) (fun _ => rfl) (fun _ => rfl) 0 rfl rfl rfl rfl xL.1 rfl (Nat.le_of_ble_eq_true rfl) dL_runs_195 ⟨Nat.le_refl _, Nat.le_refl _⟩ (fun r_195 u_195 H locs h_195 xP xD xS => ?_)
          replace h_195 : r_195 = nI (need k n r c ta tb - (tt + (min m (need k n r c ta tb - tt)))) ∧ OI n r k c o b ta tb (tt + (min m (need k n r c ta tb - tt))) u_195 (goN k n o r c ta tb (min m (need k n r c ta tb - tt)) tt s) T 0 := h_195
          obtain ⟨q_195, h_195⟩ := h_195
          subst q_195
          refine lv_aload_n xE xB dL_runs_198 rfl (lv_at xL 2 rfl) ?_
          refine q_SRL (As := [.ref ga]) (rest := [.int (nI (need k n r c ta tb - (tt + (min m (need k n r c ta tb - tt)))))]) ⟨xE, xB, xM, xO, xT⟩ (kL_need l G ga (upd g 8 (nI (tt + m))) n r k c ta tb ((upd_n (by decide)).trans (hg0)) ((upd_n (by decide)).trans (hg1)) ((upd_n (by decide)).trans (hg2)) ((upd_n (by decide)).trans (hg3)) ((upd_n (by decide)).trans ((hg6 (by omega)).1)) ((upd_n (by decide)).trans ((hg6 (by omega)).2.1)) (by omega) (by omega) (by omega) (by omega) (by exact (hN.2.2.2.2.1 (by omega)).2.1) (by exact (hN.2.2.2.2.1 (by omega)).2.2.1)) (va_cwS 1 xT gL_runs_L_need rfl rfl rfl (by decide +kernel) ⟨Nat.le_of_ble_eq_true rfl, Nat.le_of_ble_eq_true rfl⟩) xK xP [0] [1, 2, 3, 4, 5, 6] 7 rfl (by decide) (Lc := [[(ga, ai G 9 (upd g 8 (nI (tt + m))))]]) rfl rfl rfl xL.1 rfl (Nat.le_of_ble_eq_true rfl) dL_runs_199 ⟨Nat.le_refl _, Nat.le_refl _⟩ (fun r_199 h_199 => ?_)
          obtain rfl : r_199 = nI (need k n r c ta tb) := h_199
          refine lv_aload_n xE xB dL_runs_202 rfl (lv_at xL 2 rfl) ?_
          refine lv_bipush (v := nI 8) xE xB dL_runs_203 (by decide) ?_
          refine q_ald xE xB xK xP 0 rfl (by omega) (by decide) dL_runs_205 ?_
          refine q_eq (y := nI (tt + m)) (upd_s) ?_
          refine q_isub xE xB dL_runs_206 (by have := (hN.2.2.2.2.1 (by omega)).2.2.2.1; omega) ?_
          refine q_icmp_ne (tgt := 214) xE xB dL_runs_207 (by decide) (by have := need_b (k := k) (n := n) (r := r) (c := c) (ta := ta) (tb := tb) (by omega) (by omega); omega) (by have := need_b (k := k) (n := n) (r := r) (c := c) (ta := ta) (tb := tb) (by omega) (by omega); omega) (fun c_207 => absurd c_207 (by omega)) (fun c_207 => ?_)
          refine lv_iconst (v := nI 1) xE xB dL_runs_210 (by decide) ?_
          refine lv_goto (tgt := 215) xE xB dL_runs_211 (by decide) ?_
          exact xQ _ _ _ _ _ (_, _, _, _) (by exact ⟨rfl, n, r, k, c, o, b, ta, tb, _, _, _, h_195, LR_tick hL0 (by omega) (by have := (hN.2.2.2.2.1 (by omega)).2.2.2.1; omega)⟩) (by decide) xP xD xS dL_runs_215
      · skip
        refine lv_aload_n xE xB dL_runs_143 rfl (lv_at xL 1 rfl) ?_
        refine lv_iload xE xB dL_runs_144 (lv_at xL 0 rfl) ?_
        refine q_VIL (As := [.int (nI m)]) (rest := []) ⟨xE, xB, xM, xO, xT⟩ (kO_tickN l G oa n r k c o b ta tb tt 0 u s T m (by first | assumption | omega) (by first | assumption | omega) (by first | assumption | omega) (by omega)) (cwV 1 xT gL_runs_X6_tick rfl rfl rfl (by decide +kernel) ⟨Nat.le_of_ble_eq_true rfl, Nat.le_of_ble_eq_true rfl⟩) xK xP xD xS [6] [0, 1, 2, 3, 4, 5] 7 rfl (by decide) (Lc := [wO G oa u]) rfl rfl (fun u_146 => [[(ga, ai G 9 g)], [(aa, ai G 36 ad)], [(ba, ai G 36 bd)], [(fa, ai G 20 fd)], [(ra, ai G 36 rd)], [(wa, al G 1 wd)], wO G oa u_146]) (fun u_146 => [wO G oa u_146]) (fun _ => rfl) (fun _ => rfl) (fun _ => rfl) (fun _ => rfl) 0 rfl rfl rfl rfl xL.1 rfl (Nat.le_of_ble_eq_true rfl) dL_runs_146 ⟨Nat.le_refl _, Nat.le_refl _⟩ (fun r_146 u_146 H locs h_146 xP xD xS => ?_)
        replace h_146 : r_146 = (-1000002) ∧ OI n r k c o b ta tb tt u_146 s T 0 := h_146
        obtain ⟨q_146, h_146⟩ := h_146
        subst q_146
        refine lv_ldc (v := (-1000002)) xE xB xO (xT _ kL_runs_c48) dL_runs_149 ?_
        refine lv_icmp_ne (tgt := 158) xE xB dL_runs_151 (by decide) (fun c_151 => absurd c_151 (by decide)) (fun c_151 => ?_)
        refine lv_iconst (v := nI 1) xE xB dL_runs_154 (by decide) ?_
        refine lv_goto (tgt := 159) xE xB dL_runs_155 (by decide) ?_
        exact xQ _ _ _ _ _ (_, _, _, _) (by exact ⟨rfl, n, r, k, c, o, b, ta, tb, tt, _, _, h_146, hL0⟩) (by decide) xP xD xS dL_runs_159
  · skip
    refine lv_bipush (v := nI 20) xE xB dL_runs_116 (by decide) ?_
    refine lv_goto (tgt := 122) xE xB dL_runs_118 (by decide) ?_
    refine q_irem xE xB dL_runs_122 (by omega) (by omega) (by omega) ?_
    refine q_iadd xE xB dL_runs_123 ?_
    obtain ⟨m, hm⟩ : ∃ q : Nat, q = 1 + (y % 20) := ⟨_, rfl⟩
    refine q_eq (y := nI m) (congrArg nI hm.symm) ?_
    refine lv_istore (lv' := [(9, .int (nI m)), (0, .ref oa), (1, .ref ga), (2, .ref aa), (3, .ref ba), (4, .ref fa), (5, .ref ra), (6, .ref wa), (7, .int (nI 1)), (8, .int (nI y))]) xE xB dL_runs_124 xL (by decide) rfl (fun ls xL => ?_)
    refine lv_aload_n xE xB dL_runs_126 rfl (lv_at xL 2 rfl) ?_
    refine lv_iconst (v := nI 5) xE xB dL_runs_127 (by decide) ?_
    refine q_ald xE xB xK xP 0 rfl (by omega) (by decide) dL_runs_128 ?_
    refine q_eq (y := nI b) (hg5) ?_
    refine q_if_eq (tgt := 143) xE xB dL_runs_129 (by decide) (by omega) (fun c_129 => ?_) (fun c_129 => ?_)
    · skip
      refine lv_aload_n xE xB dL_runs_143 rfl (lv_at xL 1 rfl) ?_
      refine lv_iload xE xB dL_runs_144 (lv_at xL 0 rfl) ?_
      refine q_VIL (As := [.int (nI m)]) (rest := []) ⟨xE, xB, xM, xO, xT⟩ (kO_tickN l G oa n r k c o b ta tb tt 0 u s T m (by first | assumption | omega) (by first | assumption | omega) (by first | assumption | omega) (by omega)) (cwV 1 xT gL_runs_X6_tick rfl rfl rfl (by decide +kernel) ⟨Nat.le_of_ble_eq_true rfl, Nat.le_of_ble_eq_true rfl⟩) xK xP xD xS [6] [0, 1, 2, 3, 4, 5] 7 rfl (by decide) (Lc := [wO G oa u]) rfl rfl (fun u_146 => [[(ga, ai G 9 g)], [(aa, ai G 36 ad)], [(ba, ai G 36 bd)], [(fa, ai G 20 fd)], [(ra, ai G 36 rd)], [(wa, al G 1 wd)], wO G oa u_146]) (fun u_146 => [wO G oa u_146]) (fun _ => rfl) (fun _ => rfl) (fun _ => rfl) (fun _ => rfl) 0 rfl rfl rfl rfl xL.1 rfl (Nat.le_of_ble_eq_true rfl) dL_runs_146 ⟨Nat.le_refl _, Nat.le_refl _⟩ (fun r_146 u_146 H locs h_146 xP xD xS => ?_)
      replace h_146 : r_146 = (-1000002) ∧ OI n r k c o b ta tb tt u_146 s T 0 := h_146
      obtain ⟨q_146, h_146⟩ := h_146
      subst q_146
      refine lv_ldc (v := (-1000002)) xE xB xO (xT _ kL_runs_c48) dL_runs_149 ?_
      refine lv_icmp_ne (tgt := 158) xE xB dL_runs_151 (by decide) (fun c_151 => absurd c_151 (by decide)) (fun c_151 => ?_)
      refine lv_iconst (v := nI 1) xE xB dL_runs_154 (by decide) ?_
      refine lv_goto (tgt := 159) xE xB dL_runs_155 (by decide) ?_
      exact xQ _ _ _ _ _ (_, _, _, _) (by exact ⟨rfl, n, r, k, c, o, b, ta, tb, tt, _, _, h_146, hL0⟩) (by decide) xP xD xS dL_runs_159
    · skip
      refine lv_aload_n xE xB dL_runs_132 rfl (lv_at xL 2 rfl) ?_
      refine lv_bipush (v := nI 8) xE xB dL_runs_133 (by decide) ?_
      refine q_ald xE xB xK xP 0 rfl (by omega) (by decide) dL_runs_135 ?_
      refine q_eq (y := nI tt) ((hg6 (by omega)).2.2) ?_
      refine lv_aload_n xE xB dL_runs_136 rfl (lv_at xL 2 rfl) ?_
      refine q_SRL (As := [.ref ga]) (rest := [.int (nI tt)]) ⟨xE, xB, xM, xO, xT⟩ (kL_need l G ga g n r k c ta tb (hg0) (hg1) (hg2) (hg3) ((hg6 (by omega)).1) ((hg6 (by omega)).2.1) (by omega) (by omega) (by omega) (by omega) (by exact (hN.2.2.2.2.1 (by omega)).2.1) (by exact (hN.2.2.2.2.1 (by omega)).2.2.1)) (va_cwS 1 xT gL_runs_L_need rfl rfl rfl (by decide +kernel) ⟨Nat.le_of_ble_eq_true rfl, Nat.le_of_ble_eq_true rfl⟩) xK xP [0] [1, 2, 3, 4, 5, 6] 7 rfl (by decide) (Lc := [[(ga, ai G 9 g)]]) rfl rfl rfl xL.1 rfl (Nat.le_of_ble_eq_true rfl) dL_runs_137 ⟨Nat.le_refl _, Nat.le_refl _⟩ (fun r_137 h_137 => ?_)
      obtain rfl : r_137 = nI (need k n r c ta tb) := h_137
      refine q_icmp_ne (tgt := 160) xE xB dL_runs_140 (by decide) (by have := need_b (k := k) (n := n) (r := r) (c := c) (ta := ta) (tb := tb) (by omega) (by omega); have := (hN.2.2.2.2.1 (by omega)).2.2.2.1; omega) (by have := need_b (k := k) (n := n) (r := r) (c := c) (ta := ta) (tb := tb) (by omega) (by omega); have := (hN.2.2.2.2.1 (by omega)).2.2.2.1; omega) (fun c_140 => ?_) (fun c_140 => ?_)
      · skip
        have htt := (hN.2.2.2.2.1 (by omega)).2.2.2.1
        refine lv_aload_n xE xB dL_runs_160 rfl (lv_at xL 2 rfl) ?_
        refine lv_bipush (v := nI 8) xE xB dL_runs_161 (by decide) ?_
        refine lv_aload_n xE xB dL_runs_163 rfl (lv_at xL 2 rfl) ?_
        refine lv_bipush (v := nI 8) xE xB dL_runs_164 (by decide) ?_
        refine q_ald xE xB xK xP 0 rfl (by omega) (by decide) dL_runs_166 ?_
        refine q_eq (y := nI tt) ((hg6 (by omega)).2.2) ?_
        refine lv_iload xE xB dL_runs_167 (lv_at xL 0 rfl) ?_
        refine q_iadd xE xB dL_runs_169 ?_
        refine lv_aload_n xE xB dL_runs_170 rfl (lv_at xL 2 rfl) ?_
        refine q_SRL (As := [.ref ga]) (rest := [.int (nI (tt + m)), .int (nI 8), .ref ga]) ⟨xE, xB, xM, xO, xT⟩ (kL_need l G ga g n r k c ta tb (hg0) (hg1) (hg2) (hg3) ((hg6 (by omega)).1) ((hg6 (by omega)).2.1) (by omega) (by omega) (by omega) (by omega) (by exact (hN.2.2.2.2.1 (by omega)).2.1) (by exact (hN.2.2.2.2.1 (by omega)).2.2.1)) (va_cwS 1 xT gL_runs_L_need rfl rfl rfl (by decide +kernel) ⟨Nat.le_of_ble_eq_true rfl, Nat.le_of_ble_eq_true rfl⟩) xK xP [0] [1, 2, 3, 4, 5, 6] 7 rfl (by decide) (Lc := [[(ga, ai G 9 g)]]) rfl rfl rfl xL.1 rfl (Nat.le_of_ble_eq_true rfl) dL_runs_171 ⟨Nat.le_refl _, Nat.le_refl _⟩ (fun r_171 h_171 => ?_)
        obtain rfl : r_171 = nI (need k n r c ta tb) := h_171
        refine q_icmp_ge (tgt := 187) xE xB dL_runs_174 (by decide) (by have := need_b (k := k) (n := n) (r := r) (c := c) (ta := ta) (tb := tb) (by omega) (by omega); omega) (by have := need_b (k := k) (n := n) (r := r) (c := c) (ta := ta) (tb := tb) (by omega) (by omega); omega) (fun c_174 => ?_) (fun c_174 => ?_)
        · skip
          refine lv_aload_n xE xB dL_runs_187 rfl (lv_at xL 2 rfl) ?_
          refine q_SRL (As := [.ref ga]) (rest := [.int (nI 8), .ref ga]) ⟨xE, xB, xM, xO, xT⟩ (kL_need l G ga g n r k c ta tb (hg0) (hg1) (hg2) (hg3) ((hg6 (by omega)).1) ((hg6 (by omega)).2.1) (by omega) (by omega) (by omega) (by omega) (by exact (hN.2.2.2.2.1 (by omega)).2.1) (by exact (hN.2.2.2.2.1 (by omega)).2.2.1)) (va_cwS 1 xT gL_runs_L_need rfl rfl rfl (by decide +kernel) ⟨Nat.le_of_ble_eq_true rfl, Nat.le_of_ble_eq_true rfl⟩) xK xP [0] [1, 2, 3, 4, 5, 6] 7 rfl (by decide) (Lc := [[(ga, ai G 9 g)]]) rfl rfl rfl xL.1 rfl (Nat.le_of_ble_eq_true rfl) dL_runs_188 ⟨Nat.le_refl _, Nat.le_refl _⟩ (fun r_188 h_188 => ?_)
          obtain rfl : r_188 = nI (need k n r c ta tb) := h_188
          refine q_ast xE xB xK xP xD xS 0 rfl (by omega) (by decide) dL_runs_191 (fun H locs xP xD xS => ?_)
          have xP : va_P G.1 vwCl (List.flatten [[(ga, ai G 9 (upd g 8 (nI (need k n r c ta tb))))], [(aa, ai G 36 ad)], [(ba, ai G 36 bd)], [(fa, ai G 20 fd)], [(ra, ai G 36 rd)], [(wa, al G 1 wd)], wO G oa u]) H := xP
          have xD : va_D A (List.flatten [[(ga, ai G 9 (upd g 8 (nI (need k n r c ta tb))))], [(aa, ai G 36 ad)], [(ba, ai G 36 bd)], [(fa, ai G 20 fd)], [(ra, ai G 36 rd)], [(wa, al G 1 wd)], wO G oa u]) := xD
          refine lv_aload_n xE xB dL_runs_192 rfl (lv_at xL 1 rfl) ?_
          refine lv_iload xE xB dL_runs_193 (lv_at xL 0 rfl) ?_
          refine q_VIL (As := [.int (nI m)]) (rest := []) ⟨xE, xB, xM, xO, xT⟩ (kO_tick l G oa n r k c o b ta tb tt 0 u s T m (min m (need k n r c ta tb - tt)) (by first | assumption | omega) (by first | assumption | omega) (by first | assumption | omega) (by omega) (by omega) (by rfl)) (cwV 1 xT gL_runs_X6_tick rfl rfl rfl (by decide +kernel) ⟨Nat.le_of_ble_eq_true rfl, Nat.le_of_ble_eq_true rfl⟩) xK xP xD xS [6] [0, 1, 2, 3, 4, 5] 7 rfl (by decide) (Lc := [wO G oa u]) rfl rfl (fun u_195 => [[(ga, ai G 9 (upd g 8 (nI (need k n r c ta tb))))], [(aa, ai G 36 ad)], [(ba, ai G 36 bd)], [(fa, ai G 20 fd)], [(ra, ai G 36 rd)], [(wa, al G 1 wd)], wO G oa u_195]) (fun u_195 => [wO G oa u_195]) (fun _ => rfl) (fun _ => rfl) (fun _ => rfl) (fun _ => rfl) 0 rfl rfl rfl rfl xL.1 rfl (Nat.le_of_ble_eq_true rfl) dL_runs_195 ⟨Nat.le_refl _, Nat.le_refl _⟩ (fun r_195 u_195 H locs h_195 xP xD xS => ?_)
          replace h_195 : r_195 = nI (need k n r c ta tb - (tt + (min m (need k n r c ta tb - tt)))) ∧ OI n r k c o b ta tb (tt + (min m (need k n r c ta tb - tt))) u_195 (goN k n o r c ta tb (min m (need k n r c ta tb - tt)) tt s) T 0 := h_195
          obtain ⟨q_195, h_195⟩ := h_195
          subst q_195
          refine lv_aload_n xE xB dL_runs_198 rfl (lv_at xL 2 rfl) ?_
          refine q_SRL (As := [.ref ga]) (rest := [.int (nI (need k n r c ta tb - (tt + (min m (need k n r c ta tb - tt)))))]) ⟨xE, xB, xM, xO, xT⟩ (kL_need l G ga (upd g 8 (nI (need k n r c ta tb))) n r k c ta tb ((upd_n (by decide)).trans (hg0)) ((upd_n (by decide)).trans (hg1)) ((upd_n (by decide)).trans (hg2)) ((upd_n (by decide)).trans (hg3)) ((upd_n (by decide)).trans ((hg6 (by omega)).1)) ((upd_n (by decide)).trans ((hg6 (by omega)).2.1)) (by omega) (by omega) (by omega) (by omega) (by exact (hN.2.2.2.2.1 (by omega)).2.1) (by exact (hN.2.2.2.2.1 (by omega)).2.2.1)) (va_cwS 1 xT gL_runs_L_need rfl rfl rfl (by decide +kernel) ⟨Nat.le_of_ble_eq_true rfl, Nat.le_of_ble_eq_true rfl⟩) xK xP [0] [1, 2, 3, 4, 5, 6] 7 rfl (by decide) (Lc := [[(ga, ai G 9 (upd g 8 (nI (need k n r c ta tb))))]]) rfl rfl rfl xL.1 rfl (Nat.le_of_ble_eq_true rfl) dL_runs_199 ⟨Nat.le_refl _, Nat.le_refl _⟩ (fun r_199 h_199 => ?_)
          obtain rfl : r_199 = nI (need k n r c ta tb) := h_199
          refine lv_aload_n xE xB dL_runs_202 rfl (lv_at xL 2 rfl) ?_
          refine lv_bipush (v := nI 8) xE xB dL_runs_203 (by decide) ?_
          refine q_ald xE xB xK xP 0 rfl (by omega) (by decide) dL_runs_205 ?_
          refine q_eq (y := nI (need k n r c ta tb)) (upd_s) ?_
          refine q_isub xE xB dL_runs_206 (by have := (hN.2.2.2.2.1 (by omega)).2.2.2.1; omega) ?_
          refine q_icmp_ne (tgt := 214) xE xB dL_runs_207 (by decide) (by have := need_b (k := k) (n := n) (r := r) (c := c) (ta := ta) (tb := tb) (by omega) (by omega); omega) (by have := need_b (k := k) (n := n) (r := r) (c := c) (ta := ta) (tb := tb) (by omega) (by omega); omega) (fun c_207 => absurd c_207 (by omega)) (fun c_207 => ?_)
          refine lv_iconst (v := nI 1) xE xB dL_runs_210 (by decide) ?_
          refine lv_goto (tgt := 215) xE xB dL_runs_211 (by decide) ?_
          exact xQ _ _ _ _ _ (_, _, _, _) (by exact ⟨rfl, n, r, k, c, o, b, ta, tb, _, _, _, h_195, LR_tick hL0 (by omega) (by have := (hN.2.2.2.2.1 (by omega)).2.2.2.1; omega)⟩) (by decide) xP xD xS dL_runs_215
        · skip
          refine lv_aload_n xE xB dL_runs_177 rfl (lv_at xL 2 rfl) ?_
          refine lv_bipush (v := nI 8) xE xB dL_runs_178 (by decide) ?_
          refine q_ald xE xB xK xP 0 rfl (by omega) (by decide) dL_runs_180 ?_
          refine q_eq (y := nI tt) ((hg6 (by omega)).2.2) ?_
          refine lv_iload xE xB dL_runs_181 (lv_at xL 0 rfl) ?_
          refine q_iadd xE xB dL_runs_183 ?_
          refine lv_goto (tgt := 191) xE xB dL_runs_184 (by decide) ?_
          refine q_ast xE xB xK xP xD xS 0 rfl (by omega) (by decide) dL_runs_191 (fun H locs xP xD xS => ?_)
          have xP : va_P G.1 vwCl (List.flatten [[(ga, ai G 9 (upd g 8 (nI (tt + m))))], [(aa, ai G 36 ad)], [(ba, ai G 36 bd)], [(fa, ai G 20 fd)], [(ra, ai G 36 rd)], [(wa, al G 1 wd)], wO G oa u]) H := xP
          have xD : va_D A (List.flatten [[(ga, ai G 9 (upd g 8 (nI (tt + m))))], [(aa, ai G 36 ad)], [(ba, ai G 36 bd)], [(fa, ai G 20 fd)], [(ra, ai G 36 rd)], [(wa, al G 1 wd)], wO G oa u]) := xD
          refine lv_aload_n xE xB dL_runs_192 rfl (lv_at xL 1 rfl) ?_
          refine lv_iload xE xB dL_runs_193 (lv_at xL 0 rfl) ?_
          refine q_VIL (As := [.int (nI m)]) (rest := []) ⟨xE, xB, xM, xO, xT⟩ (kO_tick l G oa n r k c o b ta tb tt 0 u s T m (min m (need k n r c ta tb - tt)) (by first | assumption | omega) (by first | assumption | omega) (by first | assumption | omega) (by omega) (by omega) (by rfl)) (cwV 1 xT gL_runs_X6_tick rfl rfl rfl (by decide +kernel) ⟨Nat.le_of_ble_eq_true rfl, Nat.le_of_ble_eq_true rfl⟩) xK xP xD xS [6] [0, 1, 2, 3, 4, 5] 7 rfl (by decide) (Lc := [wO G oa u]) rfl rfl (fun u_195 => [[(ga, ai G 9 (upd g 8 (nI (tt + m))))], [(aa, ai G 36 ad)], [(ba, ai G 36 bd)], [(fa, ai G 20 fd)], [(ra, ai G 36 rd)], [(wa, al G 1 wd)], wO G oa u_195]) (fun u_195 => [wO G oa u_195]) (fun _ => rfl) (fun _ => rfl) (fun _ => rfl) (fun _ => rfl) 0 rfl rfl rfl rfl xL.1 rfl (Nat.le_of_ble_eq_true rfl) dL_runs_195 ⟨Nat.le_refl _, Nat.le_refl _⟩ (fun r_195 u_195 H locs h_195 xP xD xS => ?_)
          replace h_195 : r_195 = nI (need k n r c ta tb - (tt + (min m (need k n r c ta tb - tt)))) ∧ OI n r k c o b ta tb (tt + (min m (need k n r c ta tb - tt))) u_195 (goN k n o r c ta tb (min m (need k n r c ta tb - tt)) tt s) T 0 := h_195
          obtain ⟨q_195, h_195⟩ := h_195
          subst q_195
          refine lv_aload_n xE xB dL_runs_198 rfl (lv_at xL 2 rfl) ?_
          refine q_SRL (As := [.ref ga]) (rest := [.int (nI (need k n r c ta tb - (tt + (min m (need k n r c ta tb - tt)))))]) ⟨xE, xB, xM, xO, xT⟩ (kL_need l G ga (upd g 8 (nI (tt + m))) n r k c ta tb ((upd_n (by decide)).trans (hg0)) ((upd_n (by decide)).trans (hg1)) ((upd_n (by decide)).trans (hg2)) ((upd_n (by decide)).trans (hg3)) ((upd_n (by decide)).trans ((hg6 (by omega)).1)) ((upd_n (by decide)).trans ((hg6 (by omega)).2.1)) (by omega) (by omega) (by omega) (by omega) (by exact (hN.2.2.2.2.1 (by omega)).2.1) (by exact (hN.2.2.2.2.1 (by omega)).2.2.1)) (va_cwS 1 xT gL_runs_L_need rfl rfl rfl (by decide +kernel) ⟨Nat.le_of_ble_eq_true rfl, Nat.le_of_ble_eq_true rfl⟩) xK xP [0] [1, 2, 3, 4, 5, 6] 7 rfl (by decide) (Lc := [[(ga, ai G 9 (upd g 8 (nI (tt + m))))]]) rfl rfl rfl xL.1 rfl (Nat.le_of_ble_eq_true rfl) dL_runs_199 ⟨Nat.le_refl _, Nat.le_refl _⟩ (fun r_199 h_199 => ?_)
          obtain rfl : r_199 = nI (need k n r c ta tb) := h_199
          refine lv_aload_n xE xB dL_runs_202 rfl (lv_at xL 2 rfl) ?_
          refine lv_bipush (v := nI 8) xE xB dL_runs_203 (by decide) ?_
          refine q_ald xE xB xK xP 0 rfl (by omega) (by decide) dL_runs_205 ?_
          refine q_eq (y := nI (tt + m)) (upd_s) ?_
          refine q_isub xE xB dL_runs_206 (by have := (hN.2.2.2.2.1 (by omega)).2.2.2.1; omega) ?_
          refine q_icmp_ne (tgt := 214) xE xB dL_runs_207 (by decide) (by have := need_b (k := k) (n := n) (r := r) (c := c) (ta := ta) (tb := tb) (by omega) (by omega); omega) (by have := need_b (k := k) (n := n) (r := r) (c := c) (ta := ta) (tb := tb) (by omega) (by omega); omega) (fun c_207 => absurd c_207 (by omega)) (fun c_207 => ?_)
          refine lv_iconst (v := nI 1) xE xB dL_runs_210 (by decide) ?_
          refine lv_goto (tgt := 215) xE xB dL_runs_211 (by decide) ?_
          exact xQ _ _ _ _ _ (_, _, _, _) (by exact ⟨rfl, n, r, k, c, o, b, ta, tb, _, _, _, h_195, LR_tick hL0 (by omega) (by have := (hN.2.2.2.2.1 (by omega)).2.2.2.1; omega)⟩) (by decide) xP xD xS dL_runs_215
      · skip
        refine lv_aload_n xE xB dL_runs_143 rfl (lv_at xL 1 rfl) ?_
        refine lv_iload xE xB dL_runs_144 (lv_at xL 0 rfl) ?_
        refine q_VIL (As := [.int (nI m)]) (rest := []) ⟨xE, xB, xM, xO, xT⟩ (kO_tickN l G oa n r k c o b ta tb tt 0 u s T m (by first | assumption | omega) (by first | assumption | omega) (by first | assumption | omega) (by omega)) (cwV 1 xT gL_runs_X6_tick rfl rfl rfl (by decide +kernel) ⟨Nat.le_of_ble_eq_true rfl, Nat.le_of_ble_eq_true rfl⟩) xK xP xD xS [6] [0, 1, 2, 3, 4, 5] 7 rfl (by decide) (Lc := [wO G oa u]) rfl rfl (fun u_146 => [[(ga, ai G 9 g)], [(aa, ai G 36 ad)], [(ba, ai G 36 bd)], [(fa, ai G 20 fd)], [(ra, ai G 36 rd)], [(wa, al G 1 wd)], wO G oa u_146]) (fun u_146 => [wO G oa u_146]) (fun _ => rfl) (fun _ => rfl) (fun _ => rfl) (fun _ => rfl) 0 rfl rfl rfl rfl xL.1 rfl (Nat.le_of_ble_eq_true rfl) dL_runs_146 ⟨Nat.le_refl _, Nat.le_refl _⟩ (fun r_146 u_146 H locs h_146 xP xD xS => ?_)
        replace h_146 : r_146 = (-1000002) ∧ OI n r k c o b ta tb tt u_146 s T 0 := h_146
        obtain ⟨q_146, h_146⟩ := h_146
        subst q_146
        refine lv_ldc (v := (-1000002)) xE xB xO (xT _ kL_runs_c48) dL_runs_149 ?_
        refine lv_icmp_ne (tgt := 158) xE xB dL_runs_151 (by decide) (fun c_151 => absurd c_151 (by decide)) (fun c_151 => ?_)
        refine lv_iconst (v := nI 1) xE xB dL_runs_154 (by decide) ?_
        refine lv_goto (tgt := 159) xE xB dL_runs_155 (by decide) ?_
        exact xQ _ _ _ _ _ (_, _, _, _) (by exact ⟨rfl, n, r, k, c, o, b, ta, tb, tt, _, _, h_146, hL0⟩) (by decide) xP xD xS dL_runs_159
set_option maxHeartbeats 4000000 in
set_option maxRecDepth 100000 in
/-- kL_runs2 -/
theorem kL_runs2 (l : Launch) (G : wG) (oa ga aa ba fa ra wa n r k c o b ta tb tt : Nat) (u : OD) (g ad bd fd rd : wF) (wd : Nat → Int64) (s : wF) (T : Nat → Nat) (y : Nat) (hI : OI n r k c o b ta tb tt u s T 0) (hL : LR n r k c o b ta tb tt g ad bd fd rd wd s) (hy : y < 10000000) : CI (S := OD × wF × wF × (Nat → Int64)) l yL_runs wsL_runs (rm 5 112) G [.ref oa, .ref ga, .ref aa, .ref ba, .ref fa, .ref ra, .ref wa, .int (nI 2), .int (nI y)] (List.flatten [[(ga, ai G 9 g)], [(aa, ai G 36 ad)], [(ba, ai G 36 bd)], [(fa, ai G 20 fd)], [(ra, ai G 36 rd)], [(wa, al G 1 wd)], wO G oa u]) (fun x u9 => x = nI 1 ∧ LI u9.1 u9.2.1 ad bd fd u9.2.2.1 u9.2.2.2) (fun u9 => List.flatten [[(ga, ai G 9 u9.2.1)], [(aa, ai G 36 ad)], [(ba, ai G 36 bd)], [(fa, ai G 20 fd)], [(ra, ai G 36 u9.2.2.1)], [(wa, al G 1 u9.2.2.2)], wO G oa u9.1]) := by
  refine CI.ofZ (own := RL) rfl (by decide) rfl (Nat.le_of_ble_eq_true rfl) ?_
  intro p9 e9 s9 m9 b9 t9 c9 A xE xB xM xO xT xK xP xD Q xQ xS ls hl
  have xL : lv_has ls 12 [(0, .ref oa), (1, .ref ga), (2, .ref aa), (3, .ref ba), (4, .ref fa), (5, .ref ra), (6, .ref wa), (7, .int (nI 2)), (8, .int (nI y))] := hl
  have hL0 := hL
  obtain ⟨⟨hg0, hg1, hg2, hg3, hg4, hg5⟩, hg6, hA, hB, hF, z, hz, hz2, hZ⟩ := hL
  have hN := hI.num
  have hn := hN.2.1
  have hm := hN.2.2.1
  have hb1 := hN.2.2.2.1
  refine lv_iload xE xB dL_runs_0 (lv_at xL 7 rfl) ?_
  refine lv_if_ne (tgt := 100) xE xB dL_runs_2 (by decide) (fun _ => ?_) (fun h9 => absurd h9 (by decide))
  refine lv_iload xE xB dL_runs_100 (lv_at xL 7 rfl) ?_
  refine lv_iconst (v := nI 1) xE xB dL_runs_102 (by decide) ?_
  refine lv_icmp_ne (tgt := 216) xE xB dL_runs_103 (by decide) (fun _ => ?_) (fun h9 => absurd h9 (by decide))
  refine lv_iload xE xB dL_runs_216 (lv_at xL 7 rfl) ?_
  refine lv_iconst (v := nI 2) xE xB dL_runs_218 (by decide) ?_
  refine lv_icmp_ne (tgt := 298) xE xB dL_runs_219 (by decide) (fun h9 => absurd (by decide) h9) (fun _ => ?_)
  refine lv_aload_n xE xB dL_runs_222 rfl (lv_at xL 1 rfl) ?_
  refine lv_iconst (v := nI 5) xE xB dL_runs_223 (by decide) ?_
  refine q_ald xE xB xK xP 0 rfl (by omega) (by decide) dL_runs_224 ?_
  refine q_eq (y := nI b) (hg5) ?_
  refine q_if_eq (tgt := 239) xE xB dL_runs_225 (by decide) (by omega) (fun c_225 => ?_) (fun c_225 => ?_)
  · skip
    refine lv_aload_n xE xB dL_runs_239 rfl (lv_at xL 0 rfl) ?_
    refine q_VIL (As := []) (rest := []) ⟨xE, xB, xM, xO, xT⟩ (kO_drainN l G oa n r k c o b ta tb tt 0 u s T (by first | assumption | omega) (by omega)) (cwV 0 xT gL_runs_X6_drain rfl rfl rfl (by decide +kernel) ⟨Nat.le_of_ble_eq_true rfl, Nat.le_of_ble_eq_true rfl⟩) xK xP xD xS [6] [0, 1, 2, 3, 4, 5] 7 rfl (by decide) (Lc := [wO G oa u]) rfl rfl (fun u_240 => [[(ga, ai G 9 g)], [(aa, ai G 36 ad)], [(ba, ai G 36 bd)], [(fa, ai G 20 fd)], [(ra, ai G 36 rd)], [(wa, al G 1 wd)], wO G oa u_240]) (fun u_240 => [wO G oa u_240]) (fun _ => rfl) (fun _ => rfl) (fun _ => rfl) (fun _ => rfl) 0 rfl rfl rfl rfl xL.1 rfl (Nat.le_of_ble_eq_true rfl) dL_runs_240 ⟨Nat.le_refl _, Nat.le_refl _⟩ (fun r_240 u_240 H locs h_240 xP xD xS => ?_)
    replace h_240 : r_240 = (-1000002) ∧ OI n r k c o b ta tb tt u_240 s T 0 := h_240
    obtain ⟨q_240, h_240⟩ := h_240
    subst q_240
    refine lv_ldc (v := (-1000002)) xE xB xO (xT _ kL_runs_c48) dL_runs_243 ?_
    refine lv_icmp_ne (tgt := 252) xE xB dL_runs_245 (by decide) (fun c_245 => absurd c_245 (by decide)) (fun c_245 => ?_)
    refine lv_iconst (v := nI 1) xE xB dL_runs_248 (by decide) ?_
    refine lv_goto (tgt := 253) xE xB dL_runs_249 (by decide) ?_
    exact xQ _ _ _ _ _ (_, _, _, _) (by exact ⟨rfl, n, r, k, c, o, b, ta, tb, tt, _, _, h_240, hL0⟩) (by decide) xP xD xS dL_runs_253
  · skip
    refine lv_aload_n xE xB dL_runs_228 rfl (lv_at xL 1 rfl) ?_
    refine lv_bipush (v := nI 8) xE xB dL_runs_229 (by decide) ?_
    refine q_ald xE xB xK xP 0 rfl (by omega) (by decide) dL_runs_231 ?_
    refine q_eq (y := nI tt) ((hg6 (by omega)).2.2) ?_
    refine lv_aload_n xE xB dL_runs_232 rfl (lv_at xL 1 rfl) ?_
    refine q_SRL (As := [.ref ga]) (rest := [.int (nI tt)]) ⟨xE, xB, xM, xO, xT⟩ (kL_need l G ga g n r k c ta tb (hg0) (hg1) (hg2) (hg3) ((hg6 (by omega)).1) ((hg6 (by omega)).2.1) (by omega) (by omega) (by omega) (by omega) (by exact (hN.2.2.2.2.1 (by omega)).2.1) (by exact (hN.2.2.2.2.1 (by omega)).2.2.1)) (va_cwS 1 xT gL_runs_L_need rfl rfl rfl (by decide +kernel) ⟨Nat.le_of_ble_eq_true rfl, Nat.le_of_ble_eq_true rfl⟩) xK xP [0] [1, 2, 3, 4, 5, 6] 7 rfl (by decide) (Lc := [[(ga, ai G 9 g)]]) rfl rfl rfl xL.1 rfl (Nat.le_of_ble_eq_true rfl) dL_runs_233 ⟨Nat.le_refl _, Nat.le_refl _⟩ (fun r_233 h_233 => ?_)
    obtain rfl : r_233 = nI (need k n r c ta tb) := h_233
    refine q_icmp_ge (tgt := 254) xE xB dL_runs_236 (by decide) (by have := need_b (k := k) (n := n) (r := r) (c := c) (ta := ta) (tb := tb) (by omega) (by omega); have := (hN.2.2.2.2.1 (by omega)).2.2.2.1; omega) (by have := need_b (k := k) (n := n) (r := r) (c := c) (ta := ta) (tb := tb) (by omega) (by omega); have := (hN.2.2.2.2.1 (by omega)).2.2.2.1; omega) (fun c_236 => ?_) (fun c_236 => ?_)
    · skip
      refine lv_aload_n xE xB dL_runs_254 rfl (lv_at xL 1 rfl) ?_
      refine lv_aload_n xE xB dL_runs_255 rfl (lv_at xL 2 rfl) ?_
      refine lv_aload_n xE xB dL_runs_256 rfl (lv_at xL 3 rfl) ?_
      refine lv_aload xE xB dL_runs_257 (lv_at xL 4 rfl) ?_
      refine lv_aload xE xB dL_runs_259 (lv_at xL 5 rfl) ?_
      refine lv_aload xE xB dL_runs_261 (lv_at xL 6 rfl) ?_
      refine lv_aload_n xE xB dL_runs_263 rfl (lv_at xL 1 rfl) ?_
      refine lv_bipush (v := nI 6) xE xB dL_runs_264 (by decide) ?_
      refine q_ald xE xB xK xP 0 rfl (by omega) (by decide) dL_runs_266 ?_
      refine q_eq (y := nI ta) ((hg6 (by omega)).1) ?_
      refine lv_aload_n xE xB dL_runs_267 rfl (lv_at xL 1 rfl) ?_
      refine lv_bipush (v := nI 7) xE xB dL_runs_268 (by decide) ?_
      refine q_ald xE xB xK xP 0 rfl (by omega) (by decide) dL_runs_270 ?_
      refine q_eq (y := nI tb) ((hg6 (by omega)).2.1) ?_
      refine q_SVL (As := [.ref ga, .ref aa, .ref ba, .ref fa, .ref ra, .ref wa, .int (nI ta), .int (nI tb)]) (rest := []) ⟨xE, xB, xM, xO, xT⟩ (kL_drain l G ga aa ba fa ra wa g ad bd fd rd wd n r k c o ta tb z (hg0) (hg1) (hg2) (hg3) (hg4) (by omega) (by omega) (by omega) (by omega) (by omega) (by exact (hN.2.2.2.2.1 (by omega)).2.1) (by exact (hN.2.2.2.2.1 (by omega)).2.2.1) hz hz2) (va_cwS 8 xT gL_runs_L_drain rfl rfl rfl (by decide +kernel) ⟨Nat.le_of_ble_eq_true rfl, Nat.le_of_ble_eq_true rfl⟩) xK xP xD xS [0, 1, 2, 3, 4, 5] [6] 7 rfl (by decide) (Lc := [[(ga, ai G 9 g)], [(aa, ai G 36 ad)], [(ba, ai G 36 bd)], [(fa, ai G 20 fd)], [(ra, ai G 36 rd)], [(wa, al G 1 wd)]]) rfl rfl (fun u_271 => [[(ga, ai G 9 g)], [(aa, ai G 36 ad)], [(ba, ai G 36 bd)], [(fa, ai G 20 fd)], [(ra, ai G 36 u_271.1)], [(wa, al G 1 u_271.2)], wO G oa u]) (fun u_271 => [[(ga, ai G 9 g)], [(aa, ai G 36 ad)], [(ba, ai G 36 bd)], [(fa, ai G 20 fd)], [(ra, ai G 36 u_271.1)], [(wa, al G 1 u_271.2)]]) (fun _ => rfl) (fun _ => rfl) (fun _ => rfl) (fun _ => rfl) rfl xL.1 rfl (Nat.le_of_ble_eq_true rfl) dL_runs_271 ⟨Nat.le_refl _, Nat.le_refl _⟩ (fun u_271 H locs h_271 xP xD xS => ?_)
      replace h_271 : ∃ z', u_271.2 0 = lN z' ∧ DW n o k ad bd fd (inT n r c ta tb) rd z u_271.1 z' := h_271
      obtain ⟨z2, hw2, hD2⟩ := h_271
      have htn : tt = need k n r c ta tb := (by have := (hN.2.2.2.2.1 (by omega)).2.2.2.1; omega)
      obtain ⟨hL2, hc2⟩ := LR_drain hL0 hN (by omega) htn hz hz2 hw2 hD2
      refine lv_aload_n xE xB dL_runs_274 rfl (lv_at xL 1 rfl) ?_
      refine lv_iconst (v := nI 5) xE xB dL_runs_275 (by decide) ?_
      refine lv_iconst (v := nI 0) xE xB dL_runs_276 (by decide) ?_
      refine q_ast xE xB xK xP xD xS 0 rfl (by omega) (by decide) dL_runs_277 (fun H locs xP xD xS => ?_)
      have xP : va_P G.1 vwCl (List.flatten [[(ga, ai G 9 (upd g 5 (nI 0)))], [(aa, ai G 36 ad)], [(ba, ai G 36 bd)], [(fa, ai G 20 fd)], [(ra, ai G 36 u_271.1)], [(wa, al G 1 u_271.2)], wO G oa u]) H := xP
      have xD : va_D A (List.flatten [[(ga, ai G 9 (upd g 5 (nI 0)))], [(aa, ai G 36 ad)], [(ba, ai G 36 bd)], [(fa, ai G 20 fd)], [(ra, ai G 36 u_271.1)], [(wa, al G 1 u_271.2)], wO G oa u]) := xD
      refine lv_aload_n xE xB dL_runs_278 rfl (lv_at xL 0 rfl) ?_
      refine q_VIL (As := []) (rest := []) ⟨xE, xB, xM, xO, xT⟩ (kO_drain l G oa n r k c o b ta tb tt 0 u s T (by first | assumption | omega) (by omega) (by first | assumption | omega)) (cwV 0 xT gL_runs_X6_drain rfl rfl rfl (by decide +kernel) ⟨Nat.le_of_ble_eq_true rfl, Nat.le_of_ble_eq_true rfl⟩) xK xP xD xS [6] [0, 1, 2, 3, 4, 5] 7 rfl (by decide) (Lc := [wO G oa u]) rfl rfl (fun u_279 => [[(ga, ai G 9 (upd g 5 (nI 0)))], [(aa, ai G 36 ad)], [(ba, ai G 36 bd)], [(fa, ai G 20 fd)], [(ra, ai G 36 u_271.1)], [(wa, al G 1 u_271.2)], wO G oa u_279]) (fun u_279 => [wO G oa u_279]) (fun _ => rfl) (fun _ => rfl) (fun _ => rfl) (fun _ => rfl) 0 rfl rfl rfl rfl xL.1 rfl (Nat.le_of_ble_eq_true rfl) dL_runs_279 ⟨Nat.le_refl _, Nat.le_refl _⟩ (fun r_279 u_279 H locs h_279 xP xD xS => ?_)
      replace h_279 : r_279 = nI (knN (drF n r c ta tb s)) ∧ OI n r k c o 0 ta tb tt u_279 (drF n r c ta tb s) T 0 := h_279
      obtain ⟨q_279, h_279⟩ := h_279
      subst q_279
      refine lv_aload xE xB dL_runs_282 (lv_at xL 6 rfl) ?_
      refine lv_iconst (v := nI 0) xE xB dL_runs_284 (by decide) ?_
      refine q_lald xE xB xK xP 5 rfl (by omega) (by decide) dL_runs_285 ?_
      refine q_eqL (y := lN z2) (hw2) ?_
      refine q_SR (As := [.long (lN z2)]) (rest := [.int (nI (knN (drF n r c ta tb s)))]) ⟨xE, xB, xM, xO, xT⟩ (kL_ones l G z2 hD2.1) (va_cwS 1 xT gL_runs_L_ones rfl rfl rfl (by decide +kernel) ⟨Nat.le_of_ble_eq_true rfl, Nat.le_of_ble_eq_true rfl⟩) xK xP [] rfl rfl xL.1 rfl (Nat.le_of_ble_eq_true rfl) dL_runs_286 ⟨Nat.le_refl _, Nat.le_refl _⟩ (fun r_286 h_286 => ?_)
      obtain rfl : r_286 = nI (pcN 36 z2) := h_286
      refine q_icmp_ne (tgt := 296) xE xB dL_runs_289 (by decide) (by have := pc_36 z2; omega) (by have := pc_36 z2; omega) (fun c_289 => absurd c_289 (by omega)) (fun c_289 => ?_)
      refine lv_iconst (v := nI 1) xE xB dL_runs_292 (by decide) ?_
      refine lv_goto (tgt := 297) xE xB dL_runs_293 (by decide) ?_
      exact xQ _ _ _ _ _ (_, _, _, _) (by exact ⟨rfl, n, r, k, c, o, 0, ta, tb, tt, _, _, h_279, hL2⟩) (by decide) xP xD xS dL_runs_297
    · skip
      refine lv_aload_n xE xB dL_runs_239 rfl (lv_at xL 0 rfl) ?_
      refine q_VIL (As := []) (rest := []) ⟨xE, xB, xM, xO, xT⟩ (kO_drainN l G oa n r k c o b ta tb tt 0 u s T (by first | assumption | omega) (by omega)) (cwV 0 xT gL_runs_X6_drain rfl rfl rfl (by decide +kernel) ⟨Nat.le_of_ble_eq_true rfl, Nat.le_of_ble_eq_true rfl⟩) xK xP xD xS [6] [0, 1, 2, 3, 4, 5] 7 rfl (by decide) (Lc := [wO G oa u]) rfl rfl (fun u_240 => [[(ga, ai G 9 g)], [(aa, ai G 36 ad)], [(ba, ai G 36 bd)], [(fa, ai G 20 fd)], [(ra, ai G 36 rd)], [(wa, al G 1 wd)], wO G oa u_240]) (fun u_240 => [wO G oa u_240]) (fun _ => rfl) (fun _ => rfl) (fun _ => rfl) (fun _ => rfl) 0 rfl rfl rfl rfl xL.1 rfl (Nat.le_of_ble_eq_true rfl) dL_runs_240 ⟨Nat.le_refl _, Nat.le_refl _⟩ (fun r_240 u_240 H locs h_240 xP xD xS => ?_)
      replace h_240 : r_240 = (-1000002) ∧ OI n r k c o b ta tb tt u_240 s T 0 := h_240
      obtain ⟨q_240, h_240⟩ := h_240
      subst q_240
      refine lv_ldc (v := (-1000002)) xE xB xO (xT _ kL_runs_c48) dL_runs_243 ?_
      refine lv_icmp_ne (tgt := 252) xE xB dL_runs_245 (by decide) (fun c_245 => absurd c_245 (by decide)) (fun c_245 => ?_)
      refine lv_iconst (v := nI 1) xE xB dL_runs_248 (by decide) ?_
      refine lv_goto (tgt := 253) xE xB dL_runs_249 (by decide) ?_
      exact xQ _ _ _ _ _ (_, _, _, _) (by exact ⟨rfl, n, r, k, c, o, b, ta, tb, tt, _, _, h_240, hL0⟩) (by decide) xP xD xS dL_runs_253
set_option maxHeartbeats 4000000 in
set_option maxRecDepth 100000 in
/-- kL_runs3 -/
theorem kL_runs3 (l : Launch) (G : wG) (oa ga aa ba fa ra wa n r k c o b ta tb tt : Nat) (u : OD) (g ad bd fd rd : wF) (wd : Nat → Int64) (s : wF) (T : Nat → Nat) (y : Nat) (hI : OI n r k c o b ta tb tt u s T 0) (hL : LR n r k c o b ta tb tt g ad bd fd rd wd s) (hy : y < 10000000) : CI (S := OD × wF × wF × (Nat → Int64)) l yL_runs wsL_runs (rm 7 156) G [.ref oa, .ref ga, .ref aa, .ref ba, .ref fa, .ref ra, .ref wa, .int (nI 3), .int (nI y)] (List.flatten [[(ga, ai G 9 g)], [(aa, ai G 36 ad)], [(ba, ai G 36 bd)], [(fa, ai G 20 fd)], [(ra, ai G 36 rd)], [(wa, al G 1 wd)], wO G oa u]) (fun x u9 => x = nI 1 ∧ LI u9.1 u9.2.1 ad bd fd u9.2.2.1 u9.2.2.2) (fun u9 => List.flatten [[(ga, ai G 9 u9.2.1)], [(aa, ai G 36 ad)], [(ba, ai G 36 bd)], [(fa, ai G 20 fd)], [(ra, ai G 36 u9.2.2.1)], [(wa, al G 1 u9.2.2.2)], wO G oa u9.1]) := by
  refine CI.ofZ (own := RL) rfl (by decide) rfl (Nat.le_of_ble_eq_true rfl) ?_
  intro p9 e9 s9 m9 b9 t9 c9 A xE xB xM xO xT xK xP xD Q xQ xS ls hl
  have xL : lv_has ls 12 [(0, .ref oa), (1, .ref ga), (2, .ref aa), (3, .ref ba), (4, .ref fa), (5, .ref ra), (6, .ref wa), (7, .int (nI 3)), (8, .int (nI y))] := hl
  have hL0 := hL
  obtain ⟨⟨hg0, hg1, hg2, hg3, hg4, hg5⟩, hg6, hA, hB, hF, z, hz, hz2, hZ⟩ := hL
  have hN := hI.num
  have hn := hN.2.1
  have hm := hN.2.2.1
  have hb1 := hN.2.2.2.1
  have htr : 1 ≤ tls r n := tls_pos hm.1 hn.1
  have htc : 1 ≤ tls c n := tls_pos hm.2.2.2.2.1 hn.1
  have ht6 : tls r n ≤ 6 := tls_6 hm.2.1 hn.1
  have htc6 : tls c n ≤ 6 := tls_6 hm.2.2.2.2.2 hn.1
  refine lv_iload xE xB dL_runs_0 (lv_at xL 7 rfl) ?_
  refine lv_if_ne (tgt := 100) xE xB dL_runs_2 (by decide) (fun _ => ?_) (fun h9 => absurd h9 (by decide))
  refine lv_iload xE xB dL_runs_100 (lv_at xL 7 rfl) ?_
  refine lv_iconst (v := nI 1) xE xB dL_runs_102 (by decide) ?_
  refine lv_icmp_ne (tgt := 216) xE xB dL_runs_103 (by decide) (fun _ => ?_) (fun h9 => absurd h9 (by decide))
  refine lv_iload xE xB dL_runs_216 (lv_at xL 7 rfl) ?_
  refine lv_iconst (v := nI 2) xE xB dL_runs_218 (by decide) ?_
  refine lv_icmp_ne (tgt := 298) xE xB dL_runs_219 (by decide) (fun _ => ?_) (fun h9 => absurd h9 (by decide))
  refine lv_aload_n xE xB dL_runs_298 rfl (lv_at xL 1 rfl) ?_
  refine lv_iconst (v := nI 5) xE xB dL_runs_299 (by decide) ?_
  refine q_ald xE xB xK xP 0 rfl (by omega) (by decide) dL_runs_300 ?_
  refine q_eq (y := nI b) (hg5) ?_
  refine lv_iconst (v := nI 1) xE xB dL_runs_301 (by decide) ?_
  refine q_icmp_ne (tgt := 320) xE xB dL_runs_302 (by decide) (by omega) (by omega) (fun c_302 => ?_) (fun c_302 => ?_)
  · skip
    refine lv_iconst (v := nI 0) xE xB dL_runs_320 (by decide) ?_
    refine lv_istore (lv' := [(9, .int (nI 0)), (0, .ref oa), (1, .ref ga), (2, .ref aa), (3, .ref ba), (4, .ref fa), (5, .ref ra), (6, .ref wa), (7, .int (nI 3)), (8, .int (nI y))]) xE xB dL_runs_321 xL (by decide) rfl (fun ls xL => ?_)
    refine lv_iconst (v := nI 0) xE xB dL_runs_323 (by decide) ?_
    refine lv_istore (lv' := [(10, .int (nI 0)), (9, .int (nI 0)), (0, .ref oa), (1, .ref ga), (2, .ref aa), (3, .ref ba), (4, .ref fa), (5, .ref ra), (6, .ref wa), (7, .int (nI 3)), (8, .int (nI y))]) xE xB dL_runs_324 xL (by decide) rfl (fun ls xL => ?_)
    have L_326 : ∀ (n_326 : Nat) (i t : Nat) (R2 : wF) (wd2 : Nat → Int64) (z2 : Nat), (i ≤ tls r n) → (t = ns (fun a => ns (fun b => need k n r c a b) (tls c n)) i) → (wd2 0 = lN z2) → (DW n o k ad bd fd (fun x y => (x < r ∧ y < c) ∧ x / n < i) rd z R2 z2) → tls r n - i < n_326 → ∀ (H : Heap) (locs : List Loc), va_P G.1 vwCl (List.flatten [[(ga, ai G 9 g)], [(aa, ai G 36 ad)], [(ba, ai G 36 bd)], [(fa, ai G 20 fd)], [(ra, ai G 36 R2)], [(wa, al G 1 wd2)], wO G oa u]) H → va_D A (List.flatten [[(ga, ai G 9 g)], [(aa, ai G 36 ad)], [(ba, ai G 36 bd)], [(fa, ai G 20 fd)], [(ra, ai G 36 R2)], [(wa, al G 1 wd2)], wO G oa u]) → va_S A s9.heap H locs → ∀ (ls : Array Slot), lv_has ls 12 [(0, .ref oa), (1, .ref ga), (2, .ref aa), (3, .ref ba), (4, .ref fa), (5, .ref ra), (6, .ref wa), (7, .int (nI 3)), (8, .int (nI y)), (9, .int (nI t)), (10, .int (nI i))] → W p9 l e9 (rm 7 156) s9 m9 ([.ref oa, .ref ga, .ref aa, .ref ba, .ref fa, .ref ra, .ref wa, .int (nI 3), .int (nI y)] : List Value).toArray b9 t9 c9 H locs 0 0 Q (F0 m9 326 ls []) := by
      intro n_326
      induction n_326 with
      | zero => intro i t R2 wd2 z2 hi ht hw2 hD hm_326 H locs xP xD xS ls xL; exact absurd hm_326 (Nat.not_lt_zero _)
      | succ n_326 ih_326 =>
        intro i t R2 wd2 z2 hi ht hw2 hD hm_326 H locs xP xD xS ls xL
        refine lv_iload xE xB dL_runs_326 (lv_at xL 10 rfl) ?_
        refine lv_aload_n xE xB dL_runs_328 rfl (lv_at xL 1 rfl) ?_
        refine lv_aload_n xE xB dL_runs_329 rfl (lv_at xL 1 rfl) ?_
        refine lv_iconst (v := nI 1) xE xB dL_runs_330 (by decide) ?_
        refine q_ald xE xB xK xP 0 rfl (by omega) (by decide) dL_runs_331 ?_
        refine q_eq (y := nI r) (hg1) ?_
        refine q_SRL (As := [.ref ga, .int (nI r)]) (rest := [.int (nI i)]) ⟨xE, xB, xM, xO, xT⟩ (kL_along l G ga g n r (hg0) (by omega) (by omega)) (va_cwS 2 xT gL_runs_L_along rfl rfl rfl (by decide +kernel) ⟨Nat.le_of_ble_eq_true rfl, Nat.le_of_ble_eq_true rfl⟩) xK xP [0] [1, 2, 3, 4, 5, 6] 7 rfl (by decide) (Lc := [[(ga, ai G 9 g)]]) rfl rfl rfl xL.1 rfl (Nat.le_of_ble_eq_true rfl) dL_runs_332 ⟨Nat.le_refl _, Nat.le_refl _⟩ (fun r_332 h_332 => ?_)
        obtain rfl : r_332 = nI (tls r n) := h_332
        refine q_icmp_ge (tgt := 411) xE xB dL_runs_335 (by decide) (by omega) (by omega) (fun c_335 => ?_) (fun c_335 => ?_)
        · skip
          obtain rfl : i = tls r n := (by omega)
          have htk : t = tkN k n r c := ht
          refine lv_aload_n xE xB dL_runs_411 rfl (lv_at xL 0 rfl) ?_
          refine q_VIL (As := []) (rest := []) ⟨xE, xB, xM, xO, xT⟩ (kO_all l G oa n r k c o b ta tb tt 0 u s T (by first | assumption | omega) (by omega)) (cwV 0 xT gL_runs_X6_all rfl rfl rfl (by decide +kernel) ⟨Nat.le_of_ble_eq_true rfl, Nat.le_of_ble_eq_true rfl⟩) xK xP xD xS [6] [0, 1, 2, 3, 4, 5] 7 rfl (by decide) (Lc := [wO G oa u]) rfl rfl (fun u_412 => [[(ga, ai G 9 g)], [(aa, ai G 36 ad)], [(ba, ai G 36 bd)], [(fa, ai G 20 fd)], [(ra, ai G 36 R2)], [(wa, al G 1 wd2)], wO G oa u_412]) (fun u_412 => [wO G oa u_412]) (fun _ => rfl) (fun _ => rfl) (fun _ => rfl) (fun _ => rfl) 0 rfl rfl rfl rfl xL.1 rfl (Nat.le_of_ble_eq_true rfl) dL_runs_412 ⟨Nat.le_refl _, Nat.le_refl _⟩ (fun r_412 u_412 H locs h_412 xP xD xS => ?_)
          replace h_412 : r_412 = nI (tkN k n r c) ∧ OI n r k c o 0 ta tb tt u_412 (alF k n o r c s) T 0 := h_412
          obtain ⟨q_412, h_412⟩ := h_412
          subst q_412
          refine lv_iload xE xB dL_runs_415 (lv_at xL 9 rfl) ?_
          refine q_icmp_ne (tgt := 424) xE xB dL_runs_417 (by decide) (by have := tk_36 (k := k) (n := n) (r := r) (c := c) (by omega) (by omega) (by omega) (by omega); omega) (by have := tk_36 (k := k) (n := n) (r := r) (c := c) (by omega) (by omega) (by omega) (by omega); omega) (fun c_417 => absurd c_417 (by omega)) (fun c_417 => ?_)
          refine lv_iconst (v := nI 1) xE xB dL_runs_420 (by decide) ?_
          refine lv_goto (tgt := 425) xE xB dL_runs_421 (by decide) ?_
          exact xQ _ _ _ _ _ (_, _, _, _) (by exact ⟨rfl, n, r, k, c, o, 0, ta, tb, tt, _, _, h_412, LR_all hL0 hN (by omega) hz hz2 hw2 (DW_e hD (fun x y _ _ => ⟨fun q => ⟨q, tl_in ⟨hn.1, hn.2.1⟩ q.1⟩, fun q => q.1⟩))⟩) (by decide) xP xD xS dL_runs_425
        · skip
          refine lv_iconst (v := nI 0) xE xB dL_runs_338 (by decide) ?_
          refine lv_istore (lv' := [(11, .int (nI 0)), (0, .ref oa), (1, .ref ga), (2, .ref aa), (3, .ref ba), (4, .ref fa), (5, .ref ra), (6, .ref wa), (7, .int (nI 3)), (8, .int (nI y)), (9, .int (nI t)), (10, .int (nI i))]) xE xB dL_runs_339 xL (by decide) rfl (fun ls xL => ?_)
          have L_341 : ∀ (n_341 : Nat) (j t3 : Nat) (R3 : wF) (wd3 : Nat → Int64) (z3 : Nat), (j ≤ tls c n) → (t3 = t + ns (fun b => need k n r c i b) j) → (wd3 0 = lN z3) → (DW n o k ad bd fd (fun x y => (x < r ∧ y < c) ∧ (x / n < i ∨ (x / n = i ∧ y / n < j))) rd z R3 z3) → tls c n - j < n_341 → ∀ (H : Heap) (locs : List Loc), va_P G.1 vwCl (List.flatten [[(ga, ai G 9 g)], [(aa, ai G 36 ad)], [(ba, ai G 36 bd)], [(fa, ai G 20 fd)], [(ra, ai G 36 R3)], [(wa, al G 1 wd3)], wO G oa u]) H → va_D A (List.flatten [[(ga, ai G 9 g)], [(aa, ai G 36 ad)], [(ba, ai G 36 bd)], [(fa, ai G 20 fd)], [(ra, ai G 36 R3)], [(wa, al G 1 wd3)], wO G oa u]) → va_S A s9.heap H locs → ∀ (ls : Array Slot), lv_has ls 12 [(0, .ref oa), (1, .ref ga), (2, .ref aa), (3, .ref ba), (4, .ref fa), (5, .ref ra), (6, .ref wa), (7, .int (nI 3)), (8, .int (nI y)), (9, .int (nI t3)), (10, .int (nI i)), (11, .int (nI j))] → W p9 l e9 (rm 7 156) s9 m9 ([.ref oa, .ref ga, .ref aa, .ref ba, .ref fa, .ref ra, .ref wa, .int (nI 3), .int (nI y)] : List Value).toArray b9 t9 c9 H locs 0 0 Q (F0 m9 341 ls []) := by
            intro n_341
            induction n_341 with
            | zero => intro j t3 R3 wd3 z3 hj ht3 hw3 hD3 hm_341 H locs xP xD xS ls xL; exact absurd hm_341 (Nat.not_lt_zero _)
            | succ n_341 ih_341 =>
              intro j t3 R3 wd3 z3 hj ht3 hw3 hD3 hm_341 H locs xP xD xS ls xL
              refine lv_iload xE xB dL_runs_341 (lv_at xL 11 rfl) ?_
              refine lv_aload_n xE xB dL_runs_343 rfl (lv_at xL 1 rfl) ?_
              refine lv_aload_n xE xB dL_runs_344 rfl (lv_at xL 1 rfl) ?_
              refine lv_iconst (v := nI 3) xE xB dL_runs_345 (by decide) ?_
              refine q_ald xE xB xK xP 0 rfl (by omega) (by decide) dL_runs_346 ?_
              refine q_eq (y := nI c) (hg3) ?_
              refine q_SRL (As := [.ref ga, .int (nI c)]) (rest := [.int (nI j)]) ⟨xE, xB, xM, xO, xT⟩ (kL_along l G ga g n c (hg0) (by omega) (by omega)) (va_cwS 2 xT gL_runs_L_along rfl rfl rfl (by decide +kernel) ⟨Nat.le_of_ble_eq_true rfl, Nat.le_of_ble_eq_true rfl⟩) xK xP [0] [1, 2, 3, 4, 5, 6] 7 rfl (by decide) (Lc := [[(ga, ai G 9 g)]]) rfl rfl rfl xL.1 rfl (Nat.le_of_ble_eq_true rfl) dL_runs_347 ⟨Nat.le_refl _, Nat.le_refl _⟩ (fun r_347 h_347 => ?_)
              obtain rfl : r_347 = nI (tls c n) := h_347
              refine q_icmp_ge (tgt := 405) xE xB dL_runs_350 (by decide) (by omega) (by omega) (fun c_350 => ?_) (fun c_350 => ?_)
              · skip
                refine lv_iinc (v := nI (i + 1)) (lv' := [(10, .int (nI (i + 1))), (0, .ref oa), (1, .ref ga), (2, .ref aa), (3, .ref ba), (4, .ref fa), (5, .ref ra), (6, .ref wa), (7, .int (nI 3)), (8, .int (nI y)), (9, .int (nI t3)), (11, .int (nI j))]) xE xB dL_runs_405 xL (k := 10) rfl (q_inc _ _) (by decide) rfl (fun ls xL => ?_)
                refine lv_goto (tgt := 326) xE xB dL_runs_408 (by decide) ?_
                exact ih_326 (i + 1) t3 R3 wd3 z3 (by omega) (by obtain rfl : j = tls c n := (by omega); rw [ht3, ht]; rfl) (by exact hw3) (by obtain rfl : j = tls c n := (by omega); exact DW_e hD3 (fun x y _ _ => all_1 ⟨hn.1, hn.2.1⟩)) (by omega) _ _ xP xD xS _ (lv_sub xL [1, 2, 3, 4, 5, 6, 7, 8, 9, 10, 0] rfl)
              · skip
                refine lv_aload_n xE xB dL_runs_353 rfl (lv_at xL 1 rfl) ?_
                refine lv_aload_n xE xB dL_runs_354 rfl (lv_at xL 2 rfl) ?_
                refine lv_aload_n xE xB dL_runs_355 rfl (lv_at xL 3 rfl) ?_
                refine lv_aload xE xB dL_runs_356 (lv_at xL 4 rfl) ?_
                refine lv_aload xE xB dL_runs_358 (lv_at xL 5 rfl) ?_
                refine lv_aload xE xB dL_runs_360 (lv_at xL 6 rfl) ?_
                refine lv_iload xE xB dL_runs_362 (lv_at xL 10 rfl) ?_
                refine lv_iload xE xB dL_runs_364 (lv_at xL 11 rfl) ?_
                refine q_SVL (As := [.ref ga, .ref aa, .ref ba, .ref fa, .ref ra, .ref wa, .int (nI i), .int (nI j)]) (rest := []) ⟨xE, xB, xM, xO, xT⟩ (kL_drain l G ga aa ba fa ra wa g ad bd fd R3 wd3 n r k c o i j z3 (hg0) (hg1) (hg2) (hg3) (hg4) (by omega) (by omega) (by omega) (by omega) (by omega) (by exact tls_lt c_335 hn.1) (by exact tls_lt c_350 hn.1) hw3 hD3.1) (va_cwS 8 xT gL_runs_L_drain rfl rfl rfl (by decide +kernel) ⟨Nat.le_of_ble_eq_true rfl, Nat.le_of_ble_eq_true rfl⟩) xK xP xD xS [0, 1, 2, 3, 4, 5] [6] 7 rfl (by decide) (Lc := [[(ga, ai G 9 g)], [(aa, ai G 36 ad)], [(ba, ai G 36 bd)], [(fa, ai G 20 fd)], [(ra, ai G 36 R3)], [(wa, al G 1 wd3)]]) rfl rfl (fun u_366 => [[(ga, ai G 9 g)], [(aa, ai G 36 ad)], [(ba, ai G 36 bd)], [(fa, ai G 20 fd)], [(ra, ai G 36 u_366.1)], [(wa, al G 1 u_366.2)], wO G oa u]) (fun u_366 => [[(ga, ai G 9 g)], [(aa, ai G 36 ad)], [(ba, ai G 36 bd)], [(fa, ai G 20 fd)], [(ra, ai G 36 u_366.1)], [(wa, al G 1 u_366.2)]]) (fun _ => rfl) (fun _ => rfl) (fun _ => rfl) (fun _ => rfl) rfl xL.1 rfl (Nat.le_of_ble_eq_true rfl) dL_runs_366 ⟨Nat.le_refl _, Nat.le_refl _⟩ (fun u_366 H locs h_366 xP xD xS => ?_)
                replace h_366 : ∃ z', u_366.2 0 = lN z' ∧ DW n o k ad bd fd (inT n r c i j) R3 z3 u_366.1 z' := h_366
                obtain ⟨z4, hw4, hD4⟩ := h_366
                have hl1 := tls_lt c_335 hn.1
                have hl2 := tls_lt c_350 hn.1
                refine lv_iload xE xB dL_runs_369 (lv_at xL 9 rfl) ?_
                refine lv_aload_n xE xB dL_runs_371 rfl (lv_at xL 1 rfl) ?_
                refine lv_aload_n xE xB dL_runs_372 rfl (lv_at xL 1 rfl) ?_
                refine lv_iconst (v := nI 1) xE xB dL_runs_373 (by decide) ?_
                refine q_ald xE xB xK xP 0 rfl (by omega) (by decide) dL_runs_374 ?_
                refine q_eq (y := nI r) (hg1) ?_
                refine lv_iload xE xB dL_runs_375 (lv_at xL 10 rfl) ?_
                refine q_SRL (As := [.ref ga, .int (nI r), .int (nI i)]) (rest := [.int (nI t3)]) ⟨xE, xB, xM, xO, xT⟩ (kL_part l G ga g n r i (hg0) (by omega) (by omega) (by omega)) (va_cwS 3 xT gL_runs_L_part rfl rfl rfl (by decide +kernel) ⟨Nat.le_of_ble_eq_true rfl, Nat.le_of_ble_eq_true rfl⟩) xK xP [0] [1, 2, 3, 4, 5, 6] 7 rfl (by decide) (Lc := [[(ga, ai G 9 g)]]) rfl rfl rfl xL.1 rfl (Nat.le_of_ble_eq_true rfl) dL_runs_377 ⟨Nat.le_refl _, Nat.le_refl _⟩ (fun r_377 h_377 => ?_)
                obtain rfl : r_377 = nI (min n (r - n * i)) := h_377
                refine lv_aload_n xE xB dL_runs_380 rfl (lv_at xL 1 rfl) ?_
                refine lv_aload_n xE xB dL_runs_381 rfl (lv_at xL 1 rfl) ?_
                refine lv_iconst (v := nI 3) xE xB dL_runs_382 (by decide) ?_
                refine q_ald xE xB xK xP 0 rfl (by omega) (by decide) dL_runs_383 ?_
                refine q_eq (y := nI c) (hg3) ?_
                refine lv_iload xE xB dL_runs_384 (lv_at xL 11 rfl) ?_
                refine q_SRL (As := [.ref ga, .int (nI c), .int (nI j)]) (rest := [.int (nI (min n (r - n * i))), .int (nI t3)]) ⟨xE, xB, xM, xO, xT⟩ (kL_part l G ga g n c j (hg0) (by omega) (by omega) (by omega)) (va_cwS 3 xT gL_runs_L_part rfl rfl rfl (by decide +kernel) ⟨Nat.le_of_ble_eq_true rfl, Nat.le_of_ble_eq_true rfl⟩) xK xP [0] [1, 2, 3, 4, 5, 6] 7 rfl (by decide) (Lc := [[(ga, ai G 9 g)]]) rfl rfl rfl xL.1 rfl (Nat.le_of_ble_eq_true rfl) dL_runs_386 ⟨Nat.le_refl _, Nat.le_refl _⟩ (fun r_386 h_386 => ?_)
                obtain rfl : r_386 = nI (min n (c - n * j)) := h_386
                refine q_iadd xE xB dL_runs_389 ?_
                refine lv_aload_n xE xB dL_runs_390 rfl (lv_at xL 1 rfl) ?_
                refine lv_iconst (v := nI 2) xE xB dL_runs_391 (by decide) ?_
                refine q_ald xE xB xK xP 0 rfl (by omega) (by decide) dL_runs_392 ?_
                refine q_eq (y := nI k) (hg2) ?_
                refine q_iadd xE xB dL_runs_393 ?_
                refine lv_iconst (v := nI 2) xE xB dL_runs_394 (by decide) ?_
                refine q_isub xE xB dL_runs_395 (by omega) ?_
                refine q_iadd xE xB dL_runs_396 ?_
                refine lv_istore (lv' := [(9, .int (nI (t3 + ((((min n (r - n * i)) + (min n (c - n * j))) + k) - 2)))), (0, .ref oa), (1, .ref ga), (2, .ref aa), (3, .ref ba), (4, .ref fa), (5, .ref ra), (6, .ref wa), (7, .int (nI 3)), (8, .int (nI y)), (10, .int (nI i)), (11, .int (nI j))]) xE xB dL_runs_397 xL (by decide) rfl (fun ls xL => ?_)
                refine lv_iinc (v := nI (j + 1)) (lv' := [(11, .int (nI (j + 1))), (9, .int (nI (t3 + ((((min n (r - n * i)) + (min n (c - n * j))) + k) - 2)))), (0, .ref oa), (1, .ref ga), (2, .ref aa), (3, .ref ba), (4, .ref fa), (5, .ref ra), (6, .ref wa), (7, .int (nI 3)), (8, .int (nI y)), (10, .int (nI i))]) xE xB dL_runs_399 xL (k := 11) rfl (q_inc _ _) (by decide) rfl (fun ls xL => ?_)
                refine lv_goto (tgt := 341) xE xB dL_runs_402 (by decide) ?_
                exact ih_341 (j + 1) (t3 + ((((min n (r - n * i)) + (min n (c - n * j))) + k) - 2)) u_366.1 u_366.2 z4 (by omega) (by rw [ht3]; exact all_t) (by exact hw4) (by exact DW_tr hD3 hD4 (fun x y _ _ => all_2 ⟨hn.1, hn.2.1⟩)) (by omega) _ _ xP xD xS _ (lv_sub xL [2, 3, 4, 5, 6, 7, 8, 9, 10, 1, 11, 0] rfl)
          exact L_341 (tls c n - 0 + 1) 0 t R2 wd2 z2 (by omega) (by rfl) (by exact hw2) (by exact DW_e hD (fun x y _ _ => all_0)) (Nat.lt_succ_self _) _ _ xP xD xS _ (lv_sub xL [1, 2, 3, 4, 5, 6, 7, 8, 9, 10, 11, 0] rfl)
    exact L_326 (tls r n - 0 + 1) 0 0 rd wd z (by omega) (by rfl) (by exact hz) (by exact DW_0 hz2 (fun x y q => absurd q.2 (Nat.not_lt_zero _))) (Nat.lt_succ_self _) _ _ xP xD xS _ (lv_sub xL [2, 3, 4, 5, 6, 7, 8, 9, 10, 1, 0] rfl)
  · skip
    refine lv_aload_n xE xB dL_runs_305 rfl (lv_at xL 0 rfl) ?_
    refine q_VIL (As := []) (rest := []) ⟨xE, xB, xM, xO, xT⟩ (kO_allB l G oa n r k c o b ta tb tt 0 u s T (by first | assumption | omega) (by first | assumption | omega)) (cwV 0 xT gL_runs_X6_all rfl rfl rfl (by decide +kernel) ⟨Nat.le_of_ble_eq_true rfl, Nat.le_of_ble_eq_true rfl⟩) xK xP xD xS [6] [0, 1, 2, 3, 4, 5] 7 rfl (by decide) (Lc := [wO G oa u]) rfl rfl (fun u_306 => [[(ga, ai G 9 g)], [(aa, ai G 36 ad)], [(ba, ai G 36 bd)], [(fa, ai G 20 fd)], [(ra, ai G 36 rd)], [(wa, al G 1 wd)], wO G oa u_306]) (fun u_306 => [wO G oa u_306]) (fun _ => rfl) (fun _ => rfl) (fun _ => rfl) (fun _ => rfl) 0 rfl rfl rfl rfl xL.1 rfl (Nat.le_of_ble_eq_true rfl) dL_runs_306 ⟨Nat.le_refl _, Nat.le_refl _⟩ (fun r_306 u_306 H locs h_306 xP xD xS => ?_)
    replace h_306 : r_306 = (-1000002) ∧ OI n r k c o b ta tb tt u_306 s T 0 := h_306
    obtain ⟨q_306, h_306⟩ := h_306
    subst q_306
    refine lv_ldc (v := (-1000002)) xE xB xO (xT _ kL_runs_c48) dL_runs_309 ?_
    refine lv_icmp_ne (tgt := 318) xE xB dL_runs_311 (by decide) (fun c_311 => absurd c_311 (by decide)) (fun c_311 => ?_)
    refine lv_iconst (v := nI 1) xE xB dL_runs_314 (by decide) ?_
    refine lv_goto (tgt := 319) xE xB dL_runs_315 (by decide) ?_
    exact xQ _ _ _ _ _ (_, _, _, _) (by exact ⟨rfl, n, r, k, c, o, b, ta, tb, tt, _, _, h_306, hL0⟩) (by decide) xP xD xS dL_runs_319
