/-! law7: the law looks at all -/
theorem ie_0 {p : Prop} [Decidable p] {e : Nat} (he : e = if p then 1 else 0) (h : e = 0) : ¬ p := fun q => by
  rw [if_pos q] at he
  omega
theorem ie_1 {p : Prop} [Decidable p] {e : Nat} (he : e = if p then 1 else 0) (h : 0 < e) : p := by
  by_cases q : p
  · exact q
  · rw [if_neg q] at he
    omega
theorem ie_b {p : Prop} [Decidable p] {e : Nat} (he : e = if p then 1 else 0) : e ≤ 1 := by
  rw [he]
  split <;> omega
theorem kn_1 {z q : Nat} (h : lg_cmp (lN (z / 2 ^ q &&& 1)) (lN 1) = 0) : z.testBit q = true := by
  have hb : (z / 2 ^ q &&& 1) ≤ 1 := Nat.and_le_right
  exact bit_div.mp ((pk_lEQ (by omega) (by decide)).mp ((lg_cmp_eq _ _).mp h))
theorem kn_2 {z q : Nat} (h : ¬ lg_cmp (lN (z / 2 ^ q &&& 1)) (lN 1) = 0) : ¬ z.testBit q = true := fun w => h ((lg_cmp_eq _ _).mpr (congrArg lN (bit_div.mpr w)))
theorem fv_0 {fd : wF} {q : Nat} (h : fd q ≤ 0) : ns (fun q => if fd q ≤ 0 then 0 else 1) q + 0 = ns (fun q => if fd q ≤ 0 then 0 else 1) (q + 1) := congrArg (ns (fun q => if fd q ≤ 0 then 0 else 1) q + ·) (if_pos h).symm
theorem fv_1 {fd : wF} {q : Nat} (h : ¬ fd q ≤ 0) : ns (fun q => if fd q ≤ 0 then 0 else 1) q + 1 = ns (fun q => if fd q ≤ 0 then 0 else 1) (q + 1) := congrArg (ns (fun q => if fd q ≤ 0 then 0 else 1) q + ·) (if_neg h).symm
section CO
variable {n o r k c b ta tb tt h tl : Nat} {s : wF}
theorem cnt_4 : coA n o r k c b ta tb tt h tl (nI 4) s = nI (tls r n * tls c n) := rfl
theorem cnt_5 : coA n o r k c b ta tb tt h tl (nI 5) s = nI o := rfl
theorem cnt_6 : coA n o r k c b ta tb tt h tl (nI 6) s = nI b := rfl
theorem cnt_7 : coA n o r k c b ta tb tt h tl (nI 7) s = if b = 0 then (-1000004) else nI ta := rfl
theorem cnt_8 : coA n o r k c b ta tb tt h tl (nI 8) s = if b = 0 then (-1000004) else nI tb := rfl
theorem cnt_9 : coA n o r k c b ta tb tt h tl (nI 9) s = if b = 0 then (-1000004) else nI tt := rfl
theorem cnt_10 : coA n o r k c b ta tb tt h tl (nI 10) s = if b = 0 then (-1000004) else nI (need k n r c ta tb - tt) := rfl
theorem cnt_11 : coA n o r k c b ta tb tt h tl (nI 11) s = nI (knN s) := rfl
theorem cnt_12 : coA n o r k c b ta tb tt h tl (nI 12) s = nI (wrN r k c s) := rfl
theorem cnt_13 : coA n o r k c b ta tb tt h tl (nI 13) s = nI (faN s) := rfl
theorem cnt_15 : coA n o r k c b ta tb tt h tl (nI 15) s = nI tl := rfl
theorem cnt_16 : coA n o r k c b ta tb tt h tl (nI 16) s = (-1000001) := rfl
end CO
theorem kL_isSo_c115 : Cond.constant RL 115 (-1000001) ∈ wsL_isSo := by decide +kernel
theorem kL_isSo_c44 : Cond.constant RL 44 (-1000004) ∈ wsL_isSo := by decide +kernel
set_option maxHeartbeats 4000000 in
set_option maxRecDepth 100000 in
/-- kL_isSo -/
theorem kL_isSo (l : Launch) (G : wG) (oa ga aa ba fa ra wa n r k c o b ta tb tt : Nat) (u : OD) (g ad bd fd rd : wF) (wd : Nat → Int64) (s : wF) (T : Nat → Nat) (hI : OI n r k c o b ta tb tt u s T 0) (hL : LR n r k c o b ta tb tt g ad bd fd rd wd s) : CR l yL_isSo wsL_isSo (rm 5 124) G [.ref oa, .ref ga, .ref aa, .ref ba, .ref fa, .ref ra, .ref wa] (List.flatten [[(ga, ai G 9 g)], [(aa, ai G 36 ad)], [(ba, ai G 36 bd)], [(fa, ai G 20 fd)], [(ra, ai G 36 rd)], [(wa, al G 1 wd)], wO G oa u]) (fun x => x = nI 1) := by
  refine CR.ofZ (own := RL) rfl (by decide) rfl (Nat.le_of_ble_eq_true rfl) ?_
  intro p9 e9 s9 m9 b9 t9 c9 xE xB xM xO xT xK xP Q xQ ls hl
  have xL : lv_has ls 15 [(0, .ref oa), (1, .ref ga), (2, .ref aa), (3, .ref ba), (4, .ref fa), (5, .ref ra), (6, .ref wa)] := hl
  have hL0 := hL
  obtain ⟨⟨hg0, hg1, hg2, hg3, hg4, hg5⟩, hg6, hA, hB, hF, z, hz, hz2, hZ⟩ := hL
  have hN := hI.num
  have hn := hN.2.1
  have hm := hN.2.2.1
  have hb1 := hN.2.2.2.1
  refine lv_iconst (v := nI 0) xE xB dL_isSo_0 (by decide) ?_
  refine lv_istore (lv' := [(7, .int (nI 0)), (0, .ref oa), (1, .ref ga), (2, .ref aa), (3, .ref ba), (4, .ref fa), (5, .ref ra), (6, .ref wa)]) xE xB dL_isSo_1 xL (by decide) rfl (fun ls xL => ?_)
  refine lv_iconst (v := nI 0) xE xB dL_isSo_3 (by decide) ?_
  refine lv_istore (lv' := [(8, .int (nI 0)), (7, .int (nI 0)), (0, .ref oa), (1, .ref ga), (2, .ref aa), (3, .ref ba), (4, .ref fa), (5, .ref ra), (6, .ref wa)]) xE xB dL_isSo_4 xL (by decide) rfl (fun ls xL => ?_)
  refine lv_aload_n xE xB dL_isSo_6 rfl (lv_at xL 2 rfl) ?_
  refine lv_aload_n xE xB dL_isSo_7 rfl (lv_at xL 3 rfl) ?_
  refine lv_aload_n xE xB dL_isSo_8 rfl (lv_at xL 4 rfl) ?_
  refine lv_aload_n xE xB dL_isSo_9 rfl (lv_at xL 5 rfl) ?_
  refine lv_aload xE xB dL_isSo_10 (lv_at xL 6 rfl) ?_
  refine q_SRL (As := [.ref oa, .ref ga, .ref aa, .ref ba, .ref fa]) (rest := []) ⟨xE, xB, xM, xO, xT⟩ (kL_areCells l G oa ga aa ba fa ra wa n r k c o b ta tb tt u g ad bd fd rd wd s T (by first | assumption | omega) (by first | assumption | omega)) (va_cwS 5 xT gL_isSo_L_areCells rfl rfl rfl (by decide +kernel) ⟨Nat.le_of_ble_eq_true rfl, Nat.le_of_ble_eq_true rfl⟩) xK xP [0, 1, 2, 3, 6] [4, 5] 7 rfl (by decide) (Lc := [[(ga, ai G 9 g)], [(aa, ai G 36 ad)], [(ba, ai G 36 bd)], [(fa, ai G 20 fd)], wO G oa u]) rfl rfl rfl xL.1 rfl (Nat.le_of_ble_eq_true rfl) dL_isSo_12 ⟨Nat.le_refl _, Nat.le_refl _⟩ (fun r_12 h_12 => ?_)
  obtain rfl : r_12 = nI 1 := h_12
  refine lv_istore (lv' := [(9, .int (nI 1)), (8, .int (nI 0)), (7, .int (nI 0)), (0, .ref oa), (1, .ref ga), (2, .ref aa), (3, .ref ba), (4, .ref fa), (5, .ref ra), (6, .ref wa)]) xE xB dL_isSo_15 xL (by decide) rfl (fun ls xL => ?_)
  refine lv_iconst (v := nI 0) xE xB dL_isSo_17 (by decide) ?_
  refine lv_istore (lv' := [(10, .int (nI 0)), (9, .int (nI 1)), (8, .int (nI 0)), (7, .int (nI 0)), (0, .ref oa), (1, .ref ga), (2, .ref aa), (3, .ref ba), (4, .ref fa), (5, .ref ra), (6, .ref wa)]) xE xB dL_isSo_18 xL (by decide) rfl (fun ls xL => ?_)
  have L_20 : ∀ (n_20 : Nat) (q wv : Nat), (q ≤ 36) → (wv = ns (fun q => if z.testBit q = true ∧ rd q ≠ dotV ad bd (q / 6) (q % 6) k then 1 else 0) q) → (wv ≤ q) → 36 - q < n_20 → ∀ (ls : Array Slot), lv_has ls 15 [(0, .ref oa), (1, .ref ga), (2, .ref aa), (3, .ref ba), (4, .ref fa), (5, .ref ra), (6, .ref wa), (7, .int (nI wv)), (8, .int (nI 0)), (9, .int (nI 1)), (10, .int (nI q))] → W p9 l e9 (rm 5 124) s9 m9 ([.ref oa, .ref ga, .ref aa, .ref ba, .ref fa, .ref ra, .ref wa] : List Value).toArray b9 t9 c9 s9.heap [] 0 0 Q (F0 m9 20 ls []) := by
    intro n_20
    induction n_20 with
    | zero => intro q wv hq hwv hwb hm_20 ls xL; exact absurd hm_20 (Nat.not_lt_zero _)
    | succ n_20 ih_20 =>
      intro q wv hq hwv hwb hm_20 ls xL
      refine lv_iload xE xB dL_isSo_20 (lv_at xL 10 rfl) ?_
      refine lv_bipush (v := nI 36) xE xB dL_isSo_22 (by decide) ?_
      refine q_icmp_ge (tgt := 291) xE xB dL_isSo_24 (by decide) (by omega) (by omega) (fun c_24 => ?_) (fun c_24 => ?_)
      · skip
        have hq36 : q = 36 := (by omega)
        rw [hq36] at hwv hwb
        refine lv_iconst (v := nI 0) xE xB dL_isSo_291 (by decide) ?_
        refine lv_istore (lv' := [(10, .int (nI 0)), (0, .ref oa), (1, .ref ga), (2, .ref aa), (3, .ref ba), (4, .ref fa), (5, .ref ra), (6, .ref wa), (7, .int (nI wv)), (8, .int (nI 0)), (9, .int (nI 1))]) xE xB dL_isSo_292 xL (by decide) rfl (fun ls xL => ?_)
        have L_294 : ∀ (n_294 : Nat) (q fv : Nat), (q ≤ 20) → (fv = ns (fun q => if fd q ≤ 0 then 0 else 1) q) → (fv ≤ q) → 20 - q < n_294 → ∀ (ls : Array Slot), lv_has ls 15 [(0, .ref oa), (1, .ref ga), (2, .ref aa), (3, .ref ba), (4, .ref fa), (5, .ref ra), (6, .ref wa), (7, .int (nI wv)), (8, .int (nI fv)), (9, .int (nI 1)), (10, .int (nI q))] → W p9 l e9 (rm 5 124) s9 m9 ([.ref oa, .ref ga, .ref aa, .ref ba, .ref fa, .ref ra, .ref wa] : List Value).toArray b9 t9 c9 s9.heap [] 0 0 Q (F0 m9 294 ls []) := by
          intro n_294
          induction n_294 with
          | zero => intro q fv hq hfv hfb hm_294 ls xL; exact absurd hm_294 (Nat.not_lt_zero _)
          | succ n_294 ih_294 =>
            intro q fv hq hfv hfb hm_294 ls xL
            refine lv_iload xE xB dL_isSo_294 (lv_at xL 10 rfl) ?_
            refine lv_bipush (v := nI 20) xE xB dL_isSo_296 (by decide) ?_
            refine q_icmp_ge (tgt := 325) xE xB dL_isSo_298 (by decide) (by omega) (by omega) (fun c_298 => ?_) (fun c_298 => ?_)
            · skip
              have hq20 : q = 20 := (by omega)
              rw [hq20] at hfv hfb
              refine lv_iconst (v := nI 0) xE xB dL_isSo_325 (by decide) ?_
              refine lv_istore (lv' := [(10, .int (nI 0)), (0, .ref oa), (1, .ref ga), (2, .ref aa), (3, .ref ba), (4, .ref fa), (5, .ref ra), (6, .ref wa), (7, .int (nI wv)), (8, .int (nI fv)), (9, .int (nI 1))]) xE xB dL_isSo_326 xL (by decide) rfl (fun ls xL => ?_)
              have L_328 : ∀ (n_328 : Nat) (q : Nat), (q ≤ 4) → 4 - q < n_328 → ∀ (ls : Array Slot), lv_has ls 15 [(0, .ref oa), (1, .ref ga), (2, .ref aa), (3, .ref ba), (4, .ref fa), (5, .ref ra), (6, .ref wa), (7, .int (nI wv)), (8, .int (nI fv)), (9, .int (nI 1)), (10, .int (nI q))] → W p9 l e9 (rm 5 124) s9 m9 ([.ref oa, .ref ga, .ref aa, .ref ba, .ref fa, .ref ra, .ref wa] : List Value).toArray b9 t9 c9 s9.heap [] 0 0 Q (F0 m9 328 ls []) := by
                intro n_328
                induction n_328 with
                | zero => intro q hq hm_328 ls xL; exact absurd hm_328 (Nat.not_lt_zero _)
                | succ n_328 ih_328 =>
                  intro q hq hm_328 ls xL
                  refine lv_iload xE xB dL_isSo_328 (lv_at xL 10 rfl) ?_
                  refine lv_iconst (v := nI 4) xE xB dL_isSo_330 (by decide) ?_
                  refine q_icmp_ge (tgt := 365) xE xB dL_isSo_331 (by decide) (by omega) (by omega) (fun c_331 => ?_) (fun c_331 => ?_)
                  · skip
                    refine lv_iload xE xB dL_isSo_365 (lv_at xL 9 rfl) ?_
                    refine lv_if_eq (tgt := 540) xE xB dL_isSo_367 (by decide) (fun h9 => absurd h9 (by decide)) (fun _ => ?_)
                    have J_389 : ∀ (ls : Array Slot), lv_has ls 15 [(0, .ref oa), (1, .ref ga), (2, .ref aa), (3, .ref ba), (4, .ref fa), (5, .ref ra), (6, .ref wa), (7, .int (nI wv)), (8, .int (nI fv)), (9, .int (nI 1)), (10, .int (nI q))] → W p9 l e9 (rm 5 124) s9 m9 ([.ref oa, .ref ga, .ref aa, .ref ba, .ref fa, .ref ra, .ref wa] : List Value).toArray b9 t9 c9 s9.heap [] 0 0 Q (F0 m9 389 ls []) := by
                      intro ls xL
                      rcases (show b = 0 ∨ b = 1 by omega) with hb0 | hb0
                      · skip
                        refine lv_aload_n xE xB dL_isSo_389 rfl (lv_at xL 0 rfl) ?_
                        refine lv_iconst (v := nI 4) xE xB dL_isSo_390 (by decide) ?_
                        refine q_VRL (As := [.int (nI 4)]) (rest := []) ⟨xE, xB, xM, xO, xT⟩ (kO_count l G oa n r k c o b ta tb tt 0 u s T (nI 4) (by first | assumption | omega)) (cwV 1 xT gL_isSo_X6_count rfl rfl rfl (by decide +kernel) ⟨Nat.le_of_ble_eq_true rfl, Nat.le_of_ble_eq_true rfl⟩) xK xP [6] [0, 1, 2, 3, 4, 5] 7 rfl (by decide) (Lc := [wO G oa u]) rfl rfl 0 rfl rfl rfl rfl xL.1 rfl (Nat.le_of_ble_eq_true rfl) dL_isSo_391 ⟨Nat.le_refl _, Nat.le_refl _⟩ (fun r_391 h_391 => ?_)
                        replace h_391 : ∃ h, r_391 = coA n o r k c b ta tb tt h 0 (nI 4) s := h_391
                        obtain ⟨hh, e_391⟩ := h_391
                        subst e_391
                        refine q_eq (y := nI (tls r n * tls c n)) (cnt_4) ?_
                        refine lv_aload_n xE xB dL_isSo_394 rfl (lv_at xL 1 rfl) ?_
                        refine lv_aload_n xE xB dL_isSo_395 rfl (lv_at xL 1 rfl) ?_
                        refine lv_iconst (v := nI 1) xE xB dL_isSo_396 (by decide) ?_
                        refine q_ald xE xB xK xP 0 rfl (by omega) (by decide) dL_isSo_397 ?_
                        refine q_eq (y := nI r) (hg1) ?_
                        refine q_SRL (As := [.ref ga, .int (nI r)]) (rest := [.int (nI (tls r n * tls c n))]) ⟨xE, xB, xM, xO, xT⟩ (kL_along l G ga g n r (hg0) (by omega) (by omega)) (va_cwS 2 xT gL_isSo_L_along rfl rfl rfl (by decide +kernel) ⟨Nat.le_of_ble_eq_true rfl, Nat.le_of_ble_eq_true rfl⟩) xK xP [0] [1, 2, 3, 4, 5, 6] 7 rfl (by decide) (Lc := [[(ga, ai G 9 g)]]) rfl rfl rfl xL.1 rfl (Nat.le_of_ble_eq_true rfl) dL_isSo_398 ⟨Nat.le_refl _, Nat.le_refl _⟩ (fun r_398 h_398 => ?_)
                        obtain rfl : r_398 = nI (tls r n) := h_398
                        refine lv_aload_n xE xB dL_isSo_401 rfl (lv_at xL 1 rfl) ?_
                        refine lv_aload_n xE xB dL_isSo_402 rfl (lv_at xL 1 rfl) ?_
                        refine lv_iconst (v := nI 3) xE xB dL_isSo_403 (by decide) ?_
                        refine q_ald xE xB xK xP 0 rfl (by omega) (by decide) dL_isSo_404 ?_
                        refine q_eq (y := nI c) (hg3) ?_
                        refine q_SRL (As := [.ref ga, .int (nI c)]) (rest := [.int (nI (tls r n)), .int (nI (tls r n * tls c n))]) ⟨xE, xB, xM, xO, xT⟩ (kL_along l G ga g n c (hg0) (by omega) (by omega)) (va_cwS 2 xT gL_isSo_L_along rfl rfl rfl (by decide +kernel) ⟨Nat.le_of_ble_eq_true rfl, Nat.le_of_ble_eq_true rfl⟩) xK xP [0] [1, 2, 3, 4, 5, 6] 7 rfl (by decide) (Lc := [[(ga, ai G 9 g)]]) rfl rfl rfl xL.1 rfl (Nat.le_of_ble_eq_true rfl) dL_isSo_405 ⟨Nat.le_refl _, Nat.le_refl _⟩ (fun r_405 h_405 => ?_)
                        obtain rfl : r_405 = nI (tls c n) := h_405
                        refine q_imul xE xB dL_isSo_408 ?_
                        refine q_icmp_ne (tgt := 540) xE xB dL_isSo_409 (by decide) (by have := Nat.mul_le_mul (tls_6 hm.2.1 hn.1) (tls_6 hm.2.2.2.2.2 hn.1); omega) (by have := Nat.mul_le_mul (tls_6 hm.2.1 hn.1) (tls_6 hm.2.2.2.2.2 hn.1); omega) (fun c_409 => absurd c_409 (by omega)) (fun c_409 => ?_)
                        refine lv_aload_n xE xB dL_isSo_412 rfl (lv_at xL 0 rfl) ?_
                        refine lv_iconst (v := nI 5) xE xB dL_isSo_413 (by decide) ?_
                        refine q_VRL (As := [.int (nI 5)]) (rest := []) ⟨xE, xB, xM, xO, xT⟩ (kO_count l G oa n r k c o b ta tb tt 0 u s T (nI 5) (by first | assumption | omega)) (cwV 1 xT gL_isSo_X6_count rfl rfl rfl (by decide +kernel) ⟨Nat.le_of_ble_eq_true rfl, Nat.le_of_ble_eq_true rfl⟩) xK xP [6] [0, 1, 2, 3, 4, 5] 7 rfl (by decide) (Lc := [wO G oa u]) rfl rfl 0 rfl rfl rfl rfl xL.1 rfl (Nat.le_of_ble_eq_true rfl) dL_isSo_414 ⟨Nat.le_refl _, Nat.le_refl _⟩ (fun r_414 h_414 => ?_)
                        replace h_414 : ∃ h, r_414 = coA n o r k c b ta tb tt h 0 (nI 5) s := h_414
                        obtain ⟨hh, e_414⟩ := h_414
                        subst e_414
                        refine q_eq (y := nI o) (cnt_5) ?_
                        refine lv_aload_n xE xB dL_isSo_417 rfl (lv_at xL 1 rfl) ?_
                        refine lv_iconst (v := nI 4) xE xB dL_isSo_418 (by decide) ?_
                        refine q_ald xE xB xK xP 0 rfl (by omega) (by decide) dL_isSo_419 ?_
                        refine q_eq (y := nI o) (hg4) ?_
                        refine q_icmp_ne (tgt := 540) xE xB dL_isSo_420 (by decide) (by omega) (by omega) (fun c_420 => absurd c_420 (by omega)) (fun c_420 => ?_)
                        refine lv_aload_n xE xB dL_isSo_423 rfl (lv_at xL 0 rfl) ?_
                        refine lv_bipush (v := nI 6) xE xB dL_isSo_424 (by decide) ?_
                        refine q_VRL (As := [.int (nI 6)]) (rest := []) ⟨xE, xB, xM, xO, xT⟩ (kO_count l G oa n r k c o b ta tb tt 0 u s T (nI 6) (by first | assumption | omega)) (cwV 1 xT gL_isSo_X6_count rfl rfl rfl (by decide +kernel) ⟨Nat.le_of_ble_eq_true rfl, Nat.le_of_ble_eq_true rfl⟩) xK xP [6] [0, 1, 2, 3, 4, 5] 7 rfl (by decide) (Lc := [wO G oa u]) rfl rfl 0 rfl rfl rfl rfl xL.1 rfl (Nat.le_of_ble_eq_true rfl) dL_isSo_426 ⟨Nat.le_refl _, Nat.le_refl _⟩ (fun r_426 h_426 => ?_)
                        replace h_426 : ∃ h, r_426 = coA n o r k c b ta tb tt h 0 (nI 6) s := h_426
                        obtain ⟨hh, e_426⟩ := h_426
                        subst e_426
                        refine q_eq (y := nI b) (cnt_6) ?_
                        refine lv_aload_n xE xB dL_isSo_429 rfl (lv_at xL 1 rfl) ?_
                        refine lv_iconst (v := nI 5) xE xB dL_isSo_430 (by decide) ?_
                        refine q_ald xE xB xK xP 0 rfl (by omega) (by decide) dL_isSo_431 ?_
                        refine q_eq (y := nI b) (hg5) ?_
                        refine q_icmp_ne (tgt := 540) xE xB dL_isSo_432 (by decide) (by omega) (by omega) (fun c_432 => absurd c_432 (by omega)) (fun c_432 => ?_)
                        refine lv_aload_n xE xB dL_isSo_435 rfl (lv_at xL 0 rfl) ?_
                        refine lv_bipush (v := nI 7) xE xB dL_isSo_436 (by decide) ?_
                        refine q_VRL (As := [.int (nI 7)]) (rest := []) ⟨xE, xB, xM, xO, xT⟩ (kO_count l G oa n r k c o b ta tb tt 0 u s T (nI 7) (by first | assumption | omega)) (cwV 1 xT gL_isSo_X6_count rfl rfl rfl (by decide +kernel) ⟨Nat.le_of_ble_eq_true rfl, Nat.le_of_ble_eq_true rfl⟩) xK xP [6] [0, 1, 2, 3, 4, 5] 7 rfl (by decide) (Lc := [wO G oa u]) rfl rfl 0 rfl rfl rfl rfl xL.1 rfl (Nat.le_of_ble_eq_true rfl) dL_isSo_438 ⟨Nat.le_refl _, Nat.le_refl _⟩ (fun r_438 h_438 => ?_)
                        replace h_438 : ∃ h, r_438 = coA n o r k c b ta tb tt h 0 (nI 7) s := h_438
                        obtain ⟨hh, e_438⟩ := h_438
                        subst e_438
                        refine q_eq (y := (-1000004)) (cnt_7.trans (if_pos (by omega))) ?_
                        refine lv_aload_n xE xB dL_isSo_441 rfl (lv_at xL 1 rfl) ?_
                        refine lv_iconst (v := nI 5) xE xB dL_isSo_442 (by decide) ?_
                        refine q_ald xE xB xK xP 0 rfl (by omega) (by decide) dL_isSo_443 ?_
                        refine q_eq (y := nI b) (hg5) ?_
                        refine q_if_ne (tgt := 452) xE xB dL_isSo_444 (by decide) (by omega) (fun c_444 => absurd c_444 (by omega)) (fun c_444 => ?_)
                        refine lv_ldc (v := (-1000004)) xE xB xO (xT _ kL_isSo_c44) dL_isSo_447 ?_
                        refine lv_goto (tgt := 456) xE xB dL_isSo_449 (by decide) ?_
                        refine lv_icmp_ne (tgt := 540) xE xB dL_isSo_456 (by decide) (fun c_456 => absurd c_456 (by exact fun w => w rfl)) (fun c_456 => ?_)
                        refine lv_aload_n xE xB dL_isSo_459 rfl (lv_at xL 0 rfl) ?_
                        refine lv_bipush (v := nI 8) xE xB dL_isSo_460 (by decide) ?_
                        refine q_VRL (As := [.int (nI 8)]) (rest := []) ⟨xE, xB, xM, xO, xT⟩ (kO_count l G oa n r k c o b ta tb tt 0 u s T (nI 8) (by first | assumption | omega)) (cwV 1 xT gL_isSo_X6_count rfl rfl rfl (by decide +kernel) ⟨Nat.le_of_ble_eq_true rfl, Nat.le_of_ble_eq_true rfl⟩) xK xP [6] [0, 1, 2, 3, 4, 5] 7 rfl (by decide) (Lc := [wO G oa u]) rfl rfl 0 rfl rfl rfl rfl xL.1 rfl (Nat.le_of_ble_eq_true rfl) dL_isSo_462 ⟨Nat.le_refl _, Nat.le_refl _⟩ (fun r_462 h_462 => ?_)
                        replace h_462 : ∃ h, r_462 = coA n o r k c b ta tb tt h 0 (nI 8) s := h_462
                        obtain ⟨hh, e_462⟩ := h_462
                        subst e_462
                        refine q_eq (y := (-1000004)) (cnt_8.trans (if_pos (by omega))) ?_
                        refine lv_aload_n xE xB dL_isSo_465 rfl (lv_at xL 1 rfl) ?_
                        refine lv_iconst (v := nI 5) xE xB dL_isSo_466 (by decide) ?_
                        refine q_ald xE xB xK xP 0 rfl (by omega) (by decide) dL_isSo_467 ?_
                        refine q_eq (y := nI b) (hg5) ?_
                        refine q_if_ne (tgt := 476) xE xB dL_isSo_468 (by decide) (by omega) (fun c_468 => absurd c_468 (by omega)) (fun c_468 => ?_)
                        refine lv_ldc (v := (-1000004)) xE xB xO (xT _ kL_isSo_c44) dL_isSo_471 ?_
                        refine lv_goto (tgt := 480) xE xB dL_isSo_473 (by decide) ?_
                        refine lv_icmp_ne (tgt := 540) xE xB dL_isSo_480 (by decide) (fun c_480 => absurd c_480 (by exact fun w => w rfl)) (fun c_480 => ?_)
                        refine lv_aload_n xE xB dL_isSo_483 rfl (lv_at xL 0 rfl) ?_
                        refine lv_bipush (v := nI 9) xE xB dL_isSo_484 (by decide) ?_
                        refine q_VRL (As := [.int (nI 9)]) (rest := []) ⟨xE, xB, xM, xO, xT⟩ (kO_count l G oa n r k c o b ta tb tt 0 u s T (nI 9) (by first | assumption | omega)) (cwV 1 xT gL_isSo_X6_count rfl rfl rfl (by decide +kernel) ⟨Nat.le_of_ble_eq_true rfl, Nat.le_of_ble_eq_true rfl⟩) xK xP [6] [0, 1, 2, 3, 4, 5] 7 rfl (by decide) (Lc := [wO G oa u]) rfl rfl 0 rfl rfl rfl rfl xL.1 rfl (Nat.le_of_ble_eq_true rfl) dL_isSo_486 ⟨Nat.le_refl _, Nat.le_refl _⟩ (fun r_486 h_486 => ?_)
                        replace h_486 : ∃ h, r_486 = coA n o r k c b ta tb tt h 0 (nI 9) s := h_486
                        obtain ⟨hh, e_486⟩ := h_486
                        subst e_486
                        refine q_eq (y := (-1000004)) (cnt_9.trans (if_pos (by omega))) ?_
                        refine lv_aload_n xE xB dL_isSo_489 rfl (lv_at xL 1 rfl) ?_
                        refine lv_iconst (v := nI 5) xE xB dL_isSo_490 (by decide) ?_
                        refine q_ald xE xB xK xP 0 rfl (by omega) (by decide) dL_isSo_491 ?_
                        refine q_eq (y := nI b) (hg5) ?_
                        refine q_if_ne (tgt := 500) xE xB dL_isSo_492 (by decide) (by omega) (fun c_492 => absurd c_492 (by omega)) (fun c_492 => ?_)
                        refine lv_ldc (v := (-1000004)) xE xB xO (xT _ kL_isSo_c44) dL_isSo_495 ?_
                        refine lv_goto (tgt := 504) xE xB dL_isSo_497 (by decide) ?_
                        refine lv_icmp_ne (tgt := 540) xE xB dL_isSo_504 (by decide) (fun c_504 => absurd c_504 (by exact fun w => w rfl)) (fun c_504 => ?_)
                        refine lv_aload_n xE xB dL_isSo_507 rfl (lv_at xL 0 rfl) ?_
                        refine lv_bipush (v := nI 10) xE xB dL_isSo_508 (by decide) ?_
                        refine q_VRL (As := [.int (nI 10)]) (rest := []) ⟨xE, xB, xM, xO, xT⟩ (kO_count l G oa n r k c o b ta tb tt 0 u s T (nI 10) (by first | assumption | omega)) (cwV 1 xT gL_isSo_X6_count rfl rfl rfl (by decide +kernel) ⟨Nat.le_of_ble_eq_true rfl, Nat.le_of_ble_eq_true rfl⟩) xK xP [6] [0, 1, 2, 3, 4, 5] 7 rfl (by decide) (Lc := [wO G oa u]) rfl rfl 0 rfl rfl rfl rfl xL.1 rfl (Nat.le_of_ble_eq_true rfl) dL_isSo_510 ⟨Nat.le_refl _, Nat.le_refl _⟩ (fun r_510 h_510 => ?_)
                        replace h_510 : ∃ h, r_510 = coA n o r k c b ta tb tt h 0 (nI 10) s := h_510
                        obtain ⟨hh, e_510⟩ := h_510
                        subst e_510
                        refine q_eq (y := (-1000004)) (cnt_10.trans (if_pos (by omega))) ?_
                        refine lv_aload_n xE xB dL_isSo_513 rfl (lv_at xL 1 rfl) ?_
                        refine lv_iconst (v := nI 5) xE xB dL_isSo_514 (by decide) ?_
                        refine q_ald xE xB xK xP 0 rfl (by omega) (by decide) dL_isSo_515 ?_
                        refine q_eq (y := nI b) (hg5) ?_
                        refine q_if_ne (tgt := 524) xE xB dL_isSo_516 (by decide) (by omega) (fun c_516 => absurd c_516 (by omega)) (fun c_516 => ?_)
                        refine lv_ldc (v := (-1000004)) xE xB xO (xT _ kL_isSo_c44) dL_isSo_519 ?_
                        refine lv_goto (tgt := 533) xE xB dL_isSo_521 (by decide) ?_
                        refine lv_icmp_ne (tgt := 540) xE xB dL_isSo_533 (by decide) (fun c_533 => absurd c_533 (by exact fun w => w rfl)) (fun c_533 => ?_)
                        refine lv_iconst (v := nI 1) xE xB dL_isSo_536 (by decide) ?_
                        refine lv_goto (tgt := 541) xE xB dL_isSo_537 (by decide) ?_
                        refine lv_istore (lv' := [(9, .int (nI 1)), (0, .ref oa), (1, .ref ga), (2, .ref aa), (3, .ref ba), (4, .ref fa), (5, .ref ra), (6, .ref wa), (7, .int (nI wv)), (8, .int (nI fv)), (10, .int (nI q))]) xE xB dL_isSo_541 xL (by decide) rfl (fun ls xL => ?_)
                        refine lv_iload xE xB dL_isSo_543 (lv_at xL 0 rfl) ?_
                        refine lv_if_eq (tgt := 599) xE xB dL_isSo_545 (by decide) (fun h9 => absurd h9 (by decide)) (fun _ => ?_)
                        refine lv_aload_n xE xB dL_isSo_548 rfl (lv_at xL 1 rfl) ?_
                        refine lv_bipush (v := nI 11) xE xB dL_isSo_549 (by decide) ?_
                        refine q_VRL (As := [.int (nI 11)]) (rest := []) ⟨xE, xB, xM, xO, xT⟩ (kO_count l G oa n r k c o b ta tb tt 0 u s T (nI 11) (by first | assumption | omega)) (cwV 1 xT gL_isSo_X6_count rfl rfl rfl (by decide +kernel) ⟨Nat.le_of_ble_eq_true rfl, Nat.le_of_ble_eq_true rfl⟩) xK xP [6] [0, 1, 2, 3, 4, 5] 7 rfl (by decide) (Lc := [wO G oa u]) rfl rfl 0 rfl rfl rfl rfl xL.1 rfl (Nat.le_of_ble_eq_true rfl) dL_isSo_551 ⟨Nat.le_refl _, Nat.le_refl _⟩ (fun r_551 h_551 => ?_)
                        replace h_551 : ∃ h, r_551 = coA n o r k c b ta tb tt h 0 (nI 11) s := h_551
                        obtain ⟨hh, e_551⟩ := h_551
                        subst e_551
                        refine q_eq (y := nI (pcN 36 z)) (cnt_11.trans (congrArg nI (kn_eq fun x y hx hy => (hZ x y hx hy).1).symm)) ?_
                        refine lv_aload xE xB dL_isSo_554 (lv_at xL 7 rfl) ?_
                        refine lv_iconst (v := nI 0) xE xB dL_isSo_556 (by decide) ?_
                        refine q_lald xE xB xK xP 5 rfl (by omega) (by decide) dL_isSo_557 ?_
                        refine q_eqL (y := lN z) (hz) ?_
                        refine q_SR (As := [.long (lN z)]) (rest := [.int (nI (pcN 36 z))]) ⟨xE, xB, xM, xO, xT⟩ (kL_ones l G z hz2) (va_cwS 1 xT gL_isSo_L_ones rfl rfl rfl (by decide +kernel) ⟨Nat.le_of_ble_eq_true rfl, Nat.le_of_ble_eq_true rfl⟩) xK xP [] rfl rfl xL.1 rfl (Nat.le_of_ble_eq_true rfl) dL_isSo_558 ⟨Nat.le_refl _, Nat.le_refl _⟩ (fun r_558 h_558 => ?_)
                        obtain rfl : r_558 = nI (pcN 36 z) := h_558
                        refine q_icmp_ne (tgt := 599) xE xB dL_isSo_561 (by decide) (by have := pc_36 z; omega) (by have := pc_36 z; omega) (fun c_561 => absurd c_561 (by omega)) (fun c_561 => ?_)
                        refine lv_aload_n xE xB dL_isSo_564 rfl (lv_at xL 1 rfl) ?_
                        refine lv_bipush (v := nI 12) xE xB dL_isSo_565 (by decide) ?_
                        refine q_VRL (As := [.int (nI 12)]) (rest := []) ⟨xE, xB, xM, xO, xT⟩ (kO_count l G oa n r k c o b ta tb tt 0 u s T (nI 12) (by first | assumption | omega)) (cwV 1 xT gL_isSo_X6_count rfl rfl rfl (by decide +kernel) ⟨Nat.le_of_ble_eq_true rfl, Nat.le_of_ble_eq_true rfl⟩) xK xP [6] [0, 1, 2, 3, 4, 5] 7 rfl (by decide) (Lc := [wO G oa u]) rfl rfl 0 rfl rfl rfl rfl xL.1 rfl (Nat.le_of_ble_eq_true rfl) dL_isSo_567 ⟨Nat.le_refl _, Nat.le_refl _⟩ (fun r_567 h_567 => ?_)
                        replace h_567 : ∃ h, r_567 = coA n o r k c b ta tb tt h 0 (nI 12) s := h_567
                        obtain ⟨hh, e_567⟩ := h_567
                        subst e_567
                        refine q_eq (y := nI wv) (cnt_12.trans (congrArg nI ((wr_eq hN hA hB hZ).symm.trans hwv.symm))) ?_
                        refine lv_iload xE xB dL_isSo_570 (lv_at xL 8 rfl) ?_
                        refine q_icmp_ne (tgt := 599) xE xB dL_isSo_572 (by decide) (by omega) (by omega) (fun c_572 => absurd c_572 (by omega)) (fun c_572 => ?_)
                        refine lv_aload_n xE xB dL_isSo_575 rfl (lv_at xL 1 rfl) ?_
                        refine lv_bipush (v := nI 13) xE xB dL_isSo_576 (by decide) ?_
                        refine q_VRL (As := [.int (nI 13)]) (rest := []) ⟨xE, xB, xM, xO, xT⟩ (kO_count l G oa n r k c o b ta tb tt 0 u s T (nI 13) (by first | assumption | omega)) (cwV 1 xT gL_isSo_X6_count rfl rfl rfl (by decide +kernel) ⟨Nat.le_of_ble_eq_true rfl, Nat.le_of_ble_eq_true rfl⟩) xK xP [6] [0, 1, 2, 3, 4, 5] 7 rfl (by decide) (Lc := [wO G oa u]) rfl rfl 0 rfl rfl rfl rfl xL.1 rfl (Nat.le_of_ble_eq_true rfl) dL_isSo_578 ⟨Nat.le_refl _, Nat.le_refl _⟩ (fun r_578 h_578 => ?_)
                        replace h_578 : ∃ h, r_578 = coA n o r k c b ta tb tt h 0 (nI 13) s := h_578
                        obtain ⟨hh, e_578⟩ := h_578
                        subst e_578
                        refine q_eq (y := nI fv) (cnt_13.trans (congrArg nI ((fa_eq hN hF).symm.trans hfv.symm))) ?_
                        refine lv_iload xE xB dL_isSo_581 (lv_at xL 9 rfl) ?_
                        refine q_icmp_ne (tgt := 599) xE xB dL_isSo_583 (by decide) (by omega) (by omega) (fun c_583 => absurd c_583 (by omega)) (fun c_583 => ?_)
                        refine lv_aload_n xE xB dL_isSo_586 rfl (lv_at xL 1 rfl) ?_
                        refine lv_bipush (v := nI 15) xE xB dL_isSo_587 (by decide) ?_
                        refine q_VRL (As := [.int (nI 15)]) (rest := []) ⟨xE, xB, xM, xO, xT⟩ (kO_count l G oa n r k c o b ta tb tt 0 u s T (nI 15) (by first | assumption | omega)) (cwV 1 xT gL_isSo_X6_count rfl rfl rfl (by decide +kernel) ⟨Nat.le_of_ble_eq_true rfl, Nat.le_of_ble_eq_true rfl⟩) xK xP [6] [0, 1, 2, 3, 4, 5] 7 rfl (by decide) (Lc := [wO G oa u]) rfl rfl 0 rfl rfl rfl rfl xL.1 rfl (Nat.le_of_ble_eq_true rfl) dL_isSo_589 ⟨Nat.le_refl _, Nat.le_refl _⟩ (fun r_589 h_589 => ?_)
                        replace h_589 : ∃ h, r_589 = coA n o r k c b ta tb tt h 0 (nI 15) s := h_589
                        obtain ⟨hh, e_589⟩ := h_589
                        subst e_589
                        refine q_eq (y := nI 0) (cnt_15) ?_
                        refine lv_if_ne (tgt := 599) xE xB dL_isSo_592 (by decide) (fun h9 => absurd (by decide) h9) (fun _ => ?_)
                        refine lv_iconst (v := nI 1) xE xB dL_isSo_595 (by decide) ?_
                        refine lv_goto (tgt := 600) xE xB dL_isSo_596 (by decide) ?_
                        exact xQ _ _ _ (congrArg nI (by first | rfl | omega)) (by decide) dL_isSo_600
                      · skip
                        have hta := (hN.2.2.2.2.1 (by omega)).2.1
                        have htb := (hN.2.2.2.2.1 (by omega)).2.2.1
                        have htt := (hN.2.2.2.2.1 (by omega)).2.2.2.1
                        have hnb := need_b (k := k) (n := n) (r := r) (c := c) (ta := ta) (tb := tb) hn.2.1 hm.2.2.2.1
                        have hta6 := th_b hta hn.1
                        have htb6 := th_b htb hn.1
                        refine lv_aload_n xE xB dL_isSo_389 rfl (lv_at xL 0 rfl) ?_
                        refine lv_iconst (v := nI 4) xE xB dL_isSo_390 (by decide) ?_
                        refine q_VRL (As := [.int (nI 4)]) (rest := []) ⟨xE, xB, xM, xO, xT⟩ (kO_count l G oa n r k c o b ta tb tt 0 u s T (nI 4) (by first | assumption | omega)) (cwV 1 xT gL_isSo_X6_count rfl rfl rfl (by decide +kernel) ⟨Nat.le_of_ble_eq_true rfl, Nat.le_of_ble_eq_true rfl⟩) xK xP [6] [0, 1, 2, 3, 4, 5] 7 rfl (by decide) (Lc := [wO G oa u]) rfl rfl 0 rfl rfl rfl rfl xL.1 rfl (Nat.le_of_ble_eq_true rfl) dL_isSo_391 ⟨Nat.le_refl _, Nat.le_refl _⟩ (fun r_391 h_391 => ?_)
                        replace h_391 : ∃ h, r_391 = coA n o r k c b ta tb tt h 0 (nI 4) s := h_391
                        obtain ⟨hh, e_391⟩ := h_391
                        subst e_391
                        refine q_eq (y := nI (tls r n * tls c n)) (cnt_4) ?_
                        refine lv_aload_n xE xB dL_isSo_394 rfl (lv_at xL 1 rfl) ?_
                        refine lv_aload_n xE xB dL_isSo_395 rfl (lv_at xL 1 rfl) ?_
                        refine lv_iconst (v := nI 1) xE xB dL_isSo_396 (by decide) ?_
                        refine q_ald xE xB xK xP 0 rfl (by omega) (by decide) dL_isSo_397 ?_
                        refine q_eq (y := nI r) (hg1) ?_
                        refine q_SRL (As := [.ref ga, .int (nI r)]) (rest := [.int (nI (tls r n * tls c n))]) ⟨xE, xB, xM, xO, xT⟩ (kL_along l G ga g n r (hg0) (by omega) (by omega)) (va_cwS 2 xT gL_isSo_L_along rfl rfl rfl (by decide +kernel) ⟨Nat.le_of_ble_eq_true rfl, Nat.le_of_ble_eq_true rfl⟩) xK xP [0] [1, 2, 3, 4, 5, 6] 7 rfl (by decide) (Lc := [[(ga, ai G 9 g)]]) rfl rfl rfl xL.1 rfl (Nat.le_of_ble_eq_true rfl) dL_isSo_398 ⟨Nat.le_refl _, Nat.le_refl _⟩ (fun r_398 h_398 => ?_)
                        obtain rfl : r_398 = nI (tls r n) := h_398
                        refine lv_aload_n xE xB dL_isSo_401 rfl (lv_at xL 1 rfl) ?_
                        refine lv_aload_n xE xB dL_isSo_402 rfl (lv_at xL 1 rfl) ?_
                        refine lv_iconst (v := nI 3) xE xB dL_isSo_403 (by decide) ?_
                        refine q_ald xE xB xK xP 0 rfl (by omega) (by decide) dL_isSo_404 ?_
                        refine q_eq (y := nI c) (hg3) ?_
                        refine q_SRL (As := [.ref ga, .int (nI c)]) (rest := [.int (nI (tls r n)), .int (nI (tls r n * tls c n))]) ⟨xE, xB, xM, xO, xT⟩ (kL_along l G ga g n c (hg0) (by omega) (by omega)) (va_cwS 2 xT gL_isSo_L_along rfl rfl rfl (by decide +kernel) ⟨Nat.le_of_ble_eq_true rfl, Nat.le_of_ble_eq_true rfl⟩) xK xP [0] [1, 2, 3, 4, 5, 6] 7 rfl (by decide) (Lc := [[(ga, ai G 9 g)]]) rfl rfl rfl xL.1 rfl (Nat.le_of_ble_eq_true rfl) dL_isSo_405 ⟨Nat.le_refl _, Nat.le_refl _⟩ (fun r_405 h_405 => ?_)
                        obtain rfl : r_405 = nI (tls c n) := h_405
                        refine q_imul xE xB dL_isSo_408 ?_
                        refine q_icmp_ne (tgt := 540) xE xB dL_isSo_409 (by decide) (by have := Nat.mul_le_mul (tls_6 hm.2.1 hn.1) (tls_6 hm.2.2.2.2.2 hn.1); omega) (by have := Nat.mul_le_mul (tls_6 hm.2.1 hn.1) (tls_6 hm.2.2.2.2.2 hn.1); omega) (fun c_409 => absurd c_409 (by omega)) (fun c_409 => ?_)
                        refine lv_aload_n xE xB dL_isSo_412 rfl (lv_at xL 0 rfl) ?_
                        refine lv_iconst (v := nI 5) xE xB dL_isSo_413 (by decide) ?_
                        refine q_VRL (As := [.int (nI 5)]) (rest := []) ⟨xE, xB, xM, xO, xT⟩ (kO_count l G oa n r k c o b ta tb tt 0 u s T (nI 5) (by first | assumption | omega)) (cwV 1 xT gL_isSo_X6_count rfl rfl rfl (by decide +kernel) ⟨Nat.le_of_ble_eq_true rfl, Nat.le_of_ble_eq_true rfl⟩) xK xP [6] [0, 1, 2, 3, 4, 5] 7 rfl (by decide) (Lc := [wO G oa u]) rfl rfl 0 rfl rfl rfl rfl xL.1 rfl (Nat.le_of_ble_eq_true rfl) dL_isSo_414 ⟨Nat.le_refl _, Nat.le_refl _⟩ (fun r_414 h_414 => ?_)
                        replace h_414 : ∃ h, r_414 = coA n o r k c b ta tb tt h 0 (nI 5) s := h_414
                        obtain ⟨hh, e_414⟩ := h_414
                        subst e_414
                        refine q_eq (y := nI o) (cnt_5) ?_
                        refine lv_aload_n xE xB dL_isSo_417 rfl (lv_at xL 1 rfl) ?_
                        refine lv_iconst (v := nI 4) xE xB dL_isSo_418 (by decide) ?_
                        refine q_ald xE xB xK xP 0 rfl (by omega) (by decide) dL_isSo_419 ?_
                        refine q_eq (y := nI o) (hg4) ?_
                        refine q_icmp_ne (tgt := 540) xE xB dL_isSo_420 (by decide) (by omega) (by omega) (fun c_420 => absurd c_420 (by omega)) (fun c_420 => ?_)
                        refine lv_aload_n xE xB dL_isSo_423 rfl (lv_at xL 0 rfl) ?_
                        refine lv_bipush (v := nI 6) xE xB dL_isSo_424 (by decide) ?_
                        refine q_VRL (As := [.int (nI 6)]) (rest := []) ⟨xE, xB, xM, xO, xT⟩ (kO_count l G oa n r k c o b ta tb tt 0 u s T (nI 6) (by first | assumption | omega)) (cwV 1 xT gL_isSo_X6_count rfl rfl rfl (by decide +kernel) ⟨Nat.le_of_ble_eq_true rfl, Nat.le_of_ble_eq_true rfl⟩) xK xP [6] [0, 1, 2, 3, 4, 5] 7 rfl (by decide) (Lc := [wO G oa u]) rfl rfl 0 rfl rfl rfl rfl xL.1 rfl (Nat.le_of_ble_eq_true rfl) dL_isSo_426 ⟨Nat.le_refl _, Nat.le_refl _⟩ (fun r_426 h_426 => ?_)
                        replace h_426 : ∃ h, r_426 = coA n o r k c b ta tb tt h 0 (nI 6) s := h_426
                        obtain ⟨hh, e_426⟩ := h_426
                        subst e_426
                        refine q_eq (y := nI b) (cnt_6) ?_
                        refine lv_aload_n xE xB dL_isSo_429 rfl (lv_at xL 1 rfl) ?_
                        refine lv_iconst (v := nI 5) xE xB dL_isSo_430 (by decide) ?_
                        refine q_ald xE xB xK xP 0 rfl (by omega) (by decide) dL_isSo_431 ?_
                        refine q_eq (y := nI b) (hg5) ?_
                        refine q_icmp_ne (tgt := 540) xE xB dL_isSo_432 (by decide) (by omega) (by omega) (fun c_432 => absurd c_432 (by omega)) (fun c_432 => ?_)
                        refine lv_aload_n xE xB dL_isSo_435 rfl (lv_at xL 0 rfl) ?_
                        refine lv_bipush (v := nI 7) xE xB dL_isSo_436 (by decide) ?_
                        refine q_VRL (As := [.int (nI 7)]) (rest := []) ⟨xE, xB, xM, xO, xT⟩ (kO_count l G oa n r k c o b ta tb tt 0 u s T (nI 7) (by first | assumption | omega)) (cwV 1 xT gL_isSo_X6_count rfl rfl rfl (by decide +kernel) ⟨Nat.le_of_ble_eq_true rfl, Nat.le_of_ble_eq_true rfl⟩) xK xP [6] [0, 1, 2, 3, 4, 5] 7 rfl (by decide) (Lc := [wO G oa u]) rfl rfl 0 rfl rfl rfl rfl xL.1 rfl (Nat.le_of_ble_eq_true rfl) dL_isSo_438 ⟨Nat.le_refl _, Nat.le_refl _⟩ (fun r_438 h_438 => ?_)
                        replace h_438 : ∃ h, r_438 = coA n o r k c b ta tb tt h 0 (nI 7) s := h_438
                        obtain ⟨hh, e_438⟩ := h_438
                        subst e_438
                        refine q_eq (y := nI ta) (cnt_7.trans (if_neg (by omega))) ?_
                        refine lv_aload_n xE xB dL_isSo_441 rfl (lv_at xL 1 rfl) ?_
                        refine lv_iconst (v := nI 5) xE xB dL_isSo_442 (by decide) ?_
                        refine q_ald xE xB xK xP 0 rfl (by omega) (by decide) dL_isSo_443 ?_
                        refine q_eq (y := nI b) (hg5) ?_
                        refine q_if_ne (tgt := 452) xE xB dL_isSo_444 (by decide) (by omega) (fun c_444 => ?_) (fun c_444 => absurd c_444 (by omega))
                        refine lv_aload_n xE xB dL_isSo_452 rfl (lv_at xL 1 rfl) ?_
                        refine lv_bipush (v := nI 6) xE xB dL_isSo_453 (by decide) ?_
                        refine q_ald xE xB xK xP 0 rfl (by omega) (by decide) dL_isSo_455 ?_
                        refine q_eq (y := nI ta) ((hg6 (by omega)).1) ?_
                        refine q_icmp_ne (tgt := 540) xE xB dL_isSo_456 (by decide) (by omega) (by omega) (fun c_456 => absurd c_456 (by omega)) (fun c_456 => ?_)
                        refine lv_aload_n xE xB dL_isSo_459 rfl (lv_at xL 0 rfl) ?_
                        refine lv_bipush (v := nI 8) xE xB dL_isSo_460 (by decide) ?_
                        refine q_VRL (As := [.int (nI 8)]) (rest := []) ⟨xE, xB, xM, xO, xT⟩ (kO_count l G oa n r k c o b ta tb tt 0 u s T (nI 8) (by first | assumption | omega)) (cwV 1 xT gL_isSo_X6_count rfl rfl rfl (by decide +kernel) ⟨Nat.le_of_ble_eq_true rfl, Nat.le_of_ble_eq_true rfl⟩) xK xP [6] [0, 1, 2, 3, 4, 5] 7 rfl (by decide) (Lc := [wO G oa u]) rfl rfl 0 rfl rfl rfl rfl xL.1 rfl (Nat.le_of_ble_eq_true rfl) dL_isSo_462 ⟨Nat.le_refl _, Nat.le_refl _⟩ (fun r_462 h_462 => ?_)
                        replace h_462 : ∃ h, r_462 = coA n o r k c b ta tb tt h 0 (nI 8) s := h_462
                        obtain ⟨hh, e_462⟩ := h_462
                        subst e_462
                        refine q_eq (y := nI tb) (cnt_8.trans (if_neg (by omega))) ?_
                        refine lv_aload_n xE xB dL_isSo_465 rfl (lv_at xL 1 rfl) ?_
                        refine lv_iconst (v := nI 5) xE xB dL_isSo_466 (by decide) ?_
                        refine q_ald xE xB xK xP 0 rfl (by omega) (by decide) dL_isSo_467 ?_
                        refine q_eq (y := nI b) (hg5) ?_
                        refine q_if_ne (tgt := 476) xE xB dL_isSo_468 (by decide) (by omega) (fun c_468 => ?_) (fun c_468 => absurd c_468 (by omega))
                        refine lv_aload_n xE xB dL_isSo_476 rfl (lv_at xL 1 rfl) ?_
                        refine lv_bipush (v := nI 7) xE xB dL_isSo_477 (by decide) ?_
                        refine q_ald xE xB xK xP 0 rfl (by omega) (by decide) dL_isSo_479 ?_
                        refine q_eq (y := nI tb) ((hg6 (by omega)).2.1) ?_
                        refine q_icmp_ne (tgt := 540) xE xB dL_isSo_480 (by decide) (by omega) (by omega) (fun c_480 => absurd c_480 (by omega)) (fun c_480 => ?_)
                        refine lv_aload_n xE xB dL_isSo_483 rfl (lv_at xL 0 rfl) ?_
                        refine lv_bipush (v := nI 9) xE xB dL_isSo_484 (by decide) ?_
                        refine q_VRL (As := [.int (nI 9)]) (rest := []) ⟨xE, xB, xM, xO, xT⟩ (kO_count l G oa n r k c o b ta tb tt 0 u s T (nI 9) (by first | assumption | omega)) (cwV 1 xT gL_isSo_X6_count rfl rfl rfl (by decide +kernel) ⟨Nat.le_of_ble_eq_true rfl, Nat.le_of_ble_eq_true rfl⟩) xK xP [6] [0, 1, 2, 3, 4, 5] 7 rfl (by decide) (Lc := [wO G oa u]) rfl rfl 0 rfl rfl rfl rfl xL.1 rfl (Nat.le_of_ble_eq_true rfl) dL_isSo_486 ⟨Nat.le_refl _, Nat.le_refl _⟩ (fun r_486 h_486 => ?_)
                        replace h_486 : ∃ h, r_486 = coA n o r k c b ta tb tt h 0 (nI 9) s := h_486
                        obtain ⟨hh, e_486⟩ := h_486
                        subst e_486
                        refine q_eq (y := nI tt) (cnt_9.trans (if_neg (by omega))) ?_
                        refine lv_aload_n xE xB dL_isSo_489 rfl (lv_at xL 1 rfl) ?_
                        refine lv_iconst (v := nI 5) xE xB dL_isSo_490 (by decide) ?_
                        refine q_ald xE xB xK xP 0 rfl (by omega) (by decide) dL_isSo_491 ?_
                        refine q_eq (y := nI b) (hg5) ?_
                        refine q_if_ne (tgt := 500) xE xB dL_isSo_492 (by decide) (by omega) (fun c_492 => ?_) (fun c_492 => absurd c_492 (by omega))
                        refine lv_aload_n xE xB dL_isSo_500 rfl (lv_at xL 1 rfl) ?_
                        refine lv_bipush (v := nI 8) xE xB dL_isSo_501 (by decide) ?_
                        refine q_ald xE xB xK xP 0 rfl (by omega) (by decide) dL_isSo_503 ?_
                        refine q_eq (y := nI tt) ((hg6 (by omega)).2.2) ?_
                        refine q_icmp_ne (tgt := 540) xE xB dL_isSo_504 (by decide) (by omega) (by omega) (fun c_504 => absurd c_504 (by omega)) (fun c_504 => ?_)
                        refine lv_aload_n xE xB dL_isSo_507 rfl (lv_at xL 0 rfl) ?_
                        refine lv_bipush (v := nI 10) xE xB dL_isSo_508 (by decide) ?_
                        refine q_VRL (As := [.int (nI 10)]) (rest := []) ⟨xE, xB, xM, xO, xT⟩ (kO_count l G oa n r k c o b ta tb tt 0 u s T (nI 10) (by first | assumption | omega)) (cwV 1 xT gL_isSo_X6_count rfl rfl rfl (by decide +kernel) ⟨Nat.le_of_ble_eq_true rfl, Nat.le_of_ble_eq_true rfl⟩) xK xP [6] [0, 1, 2, 3, 4, 5] 7 rfl (by decide) (Lc := [wO G oa u]) rfl rfl 0 rfl rfl rfl rfl xL.1 rfl (Nat.le_of_ble_eq_true rfl) dL_isSo_510 ⟨Nat.le_refl _, Nat.le_refl _⟩ (fun r_510 h_510 => ?_)
                        replace h_510 : ∃ h, r_510 = coA n o r k c b ta tb tt h 0 (nI 10) s := h_510
                        obtain ⟨hh, e_510⟩ := h_510
                        subst e_510
                        refine q_eq (y := nI (need k n r c ta tb - tt)) (cnt_10.trans (if_neg (by omega))) ?_
                        refine lv_aload_n xE xB dL_isSo_513 rfl (lv_at xL 1 rfl) ?_
                        refine lv_iconst (v := nI 5) xE xB dL_isSo_514 (by decide) ?_
                        refine q_ald xE xB xK xP 0 rfl (by omega) (by decide) dL_isSo_515 ?_
                        refine q_eq (y := nI b) (hg5) ?_
                        refine q_if_ne (tgt := 524) xE xB dL_isSo_516 (by decide) (by omega) (fun c_516 => ?_) (fun c_516 => absurd c_516 (by omega))
                        refine lv_aload_n xE xB dL_isSo_524 rfl (lv_at xL 1 rfl) ?_
                        refine q_SRL (As := [.ref ga]) (rest := [.int (nI (need k n r c ta tb - tt))]) ⟨xE, xB, xM, xO, xT⟩ (kL_need l G ga g n r k c ta tb (hg0) (hg1) (hg2) (hg3) ((hg6 (by omega)).1) ((hg6 (by omega)).2.1) (by omega) (by omega) (by omega) (by omega) (by exact (hN.2.2.2.2.1 (by omega)).2.1) (by exact (hN.2.2.2.2.1 (by omega)).2.2.1)) (va_cwS 1 xT gL_isSo_L_need rfl rfl rfl (by decide +kernel) ⟨Nat.le_of_ble_eq_true rfl, Nat.le_of_ble_eq_true rfl⟩) xK xP [0] [1, 2, 3, 4, 5, 6] 7 rfl (by decide) (Lc := [[(ga, ai G 9 g)]]) rfl rfl rfl xL.1 rfl (Nat.le_of_ble_eq_true rfl) dL_isSo_525 ⟨Nat.le_refl _, Nat.le_refl _⟩ (fun r_525 h_525 => ?_)
                        obtain rfl : r_525 = nI (need k n r c ta tb) := h_525
                        refine lv_aload_n xE xB dL_isSo_528 rfl (lv_at xL 1 rfl) ?_
                        refine lv_bipush (v := nI 8) xE xB dL_isSo_529 (by decide) ?_
                        refine q_ald xE xB xK xP 0 rfl (by omega) (by decide) dL_isSo_531 ?_
                        refine q_eq (y := nI tt) ((hg6 (by omega)).2.2) ?_
                        refine q_isub xE xB dL_isSo_532 (by omega) ?_
                        refine q_icmp_ne (tgt := 540) xE xB dL_isSo_533 (by decide) (by have := need_b (k := k) (n := n) (r := r) (c := c) (ta := ta) (tb := tb) (by omega) (by omega); omega) (by have := need_b (k := k) (n := n) (r := r) (c := c) (ta := ta) (tb := tb) (by omega) (by omega); omega) (fun c_533 => absurd c_533 (by omega)) (fun c_533 => ?_)
                        refine lv_iconst (v := nI 1) xE xB dL_isSo_536 (by decide) ?_
                        refine lv_goto (tgt := 541) xE xB dL_isSo_537 (by decide) ?_
                        refine lv_istore (lv' := [(9, .int (nI 1)), (0, .ref oa), (1, .ref ga), (2, .ref aa), (3, .ref ba), (4, .ref fa), (5, .ref ra), (6, .ref wa), (7, .int (nI wv)), (8, .int (nI fv)), (10, .int (nI q))]) xE xB dL_isSo_541 xL (by decide) rfl (fun ls xL => ?_)
                        refine lv_iload xE xB dL_isSo_543 (lv_at xL 0 rfl) ?_
                        refine lv_if_eq (tgt := 599) xE xB dL_isSo_545 (by decide) (fun h9 => absurd h9 (by decide)) (fun _ => ?_)
                        refine lv_aload_n xE xB dL_isSo_548 rfl (lv_at xL 1 rfl) ?_
                        refine lv_bipush (v := nI 11) xE xB dL_isSo_549 (by decide) ?_
                        refine q_VRL (As := [.int (nI 11)]) (rest := []) ⟨xE, xB, xM, xO, xT⟩ (kO_count l G oa n r k c o b ta tb tt 0 u s T (nI 11) (by first | assumption | omega)) (cwV 1 xT gL_isSo_X6_count rfl rfl rfl (by decide +kernel) ⟨Nat.le_of_ble_eq_true rfl, Nat.le_of_ble_eq_true rfl⟩) xK xP [6] [0, 1, 2, 3, 4, 5] 7 rfl (by decide) (Lc := [wO G oa u]) rfl rfl 0 rfl rfl rfl rfl xL.1 rfl (Nat.le_of_ble_eq_true rfl) dL_isSo_551 ⟨Nat.le_refl _, Nat.le_refl _⟩ (fun r_551 h_551 => ?_)
                        replace h_551 : ∃ h, r_551 = coA n o r k c b ta tb tt h 0 (nI 11) s := h_551
                        obtain ⟨hh, e_551⟩ := h_551
                        subst e_551
                        refine q_eq (y := nI (pcN 36 z)) (cnt_11.trans (congrArg nI (kn_eq fun x y hx hy => (hZ x y hx hy).1).symm)) ?_
                        refine lv_aload xE xB dL_isSo_554 (lv_at xL 7 rfl) ?_
                        refine lv_iconst (v := nI 0) xE xB dL_isSo_556 (by decide) ?_
                        refine q_lald xE xB xK xP 5 rfl (by omega) (by decide) dL_isSo_557 ?_
                        refine q_eqL (y := lN z) (hz) ?_
                        refine q_SR (As := [.long (lN z)]) (rest := [.int (nI (pcN 36 z))]) ⟨xE, xB, xM, xO, xT⟩ (kL_ones l G z hz2) (va_cwS 1 xT gL_isSo_L_ones rfl rfl rfl (by decide +kernel) ⟨Nat.le_of_ble_eq_true rfl, Nat.le_of_ble_eq_true rfl⟩) xK xP [] rfl rfl xL.1 rfl (Nat.le_of_ble_eq_true rfl) dL_isSo_558 ⟨Nat.le_refl _, Nat.le_refl _⟩ (fun r_558 h_558 => ?_)
                        obtain rfl : r_558 = nI (pcN 36 z) := h_558
                        refine q_icmp_ne (tgt := 599) xE xB dL_isSo_561 (by decide) (by have := pc_36 z; omega) (by have := pc_36 z; omega) (fun c_561 => absurd c_561 (by omega)) (fun c_561 => ?_)
                        refine lv_aload_n xE xB dL_isSo_564 rfl (lv_at xL 1 rfl) ?_
                        refine lv_bipush (v := nI 12) xE xB dL_isSo_565 (by decide) ?_
                        refine q_VRL (As := [.int (nI 12)]) (rest := []) ⟨xE, xB, xM, xO, xT⟩ (kO_count l G oa n r k c o b ta tb tt 0 u s T (nI 12) (by first | assumption | omega)) (cwV 1 xT gL_isSo_X6_count rfl rfl rfl (by decide +kernel) ⟨Nat.le_of_ble_eq_true rfl, Nat.le_of_ble_eq_true rfl⟩) xK xP [6] [0, 1, 2, 3, 4, 5] 7 rfl (by decide) (Lc := [wO G oa u]) rfl rfl 0 rfl rfl rfl rfl xL.1 rfl (Nat.le_of_ble_eq_true rfl) dL_isSo_567 ⟨Nat.le_refl _, Nat.le_refl _⟩ (fun r_567 h_567 => ?_)
                        replace h_567 : ∃ h, r_567 = coA n o r k c b ta tb tt h 0 (nI 12) s := h_567
                        obtain ⟨hh, e_567⟩ := h_567
                        subst e_567
                        refine q_eq (y := nI wv) (cnt_12.trans (congrArg nI ((wr_eq hN hA hB hZ).symm.trans hwv.symm))) ?_
                        refine lv_iload xE xB dL_isSo_570 (lv_at xL 8 rfl) ?_
                        refine q_icmp_ne (tgt := 599) xE xB dL_isSo_572 (by decide) (by omega) (by omega) (fun c_572 => absurd c_572 (by omega)) (fun c_572 => ?_)
                        refine lv_aload_n xE xB dL_isSo_575 rfl (lv_at xL 1 rfl) ?_
                        refine lv_bipush (v := nI 13) xE xB dL_isSo_576 (by decide) ?_
                        refine q_VRL (As := [.int (nI 13)]) (rest := []) ⟨xE, xB, xM, xO, xT⟩ (kO_count l G oa n r k c o b ta tb tt 0 u s T (nI 13) (by first | assumption | omega)) (cwV 1 xT gL_isSo_X6_count rfl rfl rfl (by decide +kernel) ⟨Nat.le_of_ble_eq_true rfl, Nat.le_of_ble_eq_true rfl⟩) xK xP [6] [0, 1, 2, 3, 4, 5] 7 rfl (by decide) (Lc := [wO G oa u]) rfl rfl 0 rfl rfl rfl rfl xL.1 rfl (Nat.le_of_ble_eq_true rfl) dL_isSo_578 ⟨Nat.le_refl _, Nat.le_refl _⟩ (fun r_578 h_578 => ?_)
                        replace h_578 : ∃ h, r_578 = coA n o r k c b ta tb tt h 0 (nI 13) s := h_578
                        obtain ⟨hh, e_578⟩ := h_578
                        subst e_578
                        refine q_eq (y := nI fv) (cnt_13.trans (congrArg nI ((fa_eq hN hF).symm.trans hfv.symm))) ?_
                        refine lv_iload xE xB dL_isSo_581 (lv_at xL 9 rfl) ?_
                        refine q_icmp_ne (tgt := 599) xE xB dL_isSo_583 (by decide) (by omega) (by omega) (fun c_583 => absurd c_583 (by omega)) (fun c_583 => ?_)
                        refine lv_aload_n xE xB dL_isSo_586 rfl (lv_at xL 1 rfl) ?_
                        refine lv_bipush (v := nI 15) xE xB dL_isSo_587 (by decide) ?_
                        refine q_VRL (As := [.int (nI 15)]) (rest := []) ⟨xE, xB, xM, xO, xT⟩ (kO_count l G oa n r k c o b ta tb tt 0 u s T (nI 15) (by first | assumption | omega)) (cwV 1 xT gL_isSo_X6_count rfl rfl rfl (by decide +kernel) ⟨Nat.le_of_ble_eq_true rfl, Nat.le_of_ble_eq_true rfl⟩) xK xP [6] [0, 1, 2, 3, 4, 5] 7 rfl (by decide) (Lc := [wO G oa u]) rfl rfl 0 rfl rfl rfl rfl xL.1 rfl (Nat.le_of_ble_eq_true rfl) dL_isSo_589 ⟨Nat.le_refl _, Nat.le_refl _⟩ (fun r_589 h_589 => ?_)
                        replace h_589 : ∃ h, r_589 = coA n o r k c b ta tb tt h 0 (nI 15) s := h_589
                        obtain ⟨hh, e_589⟩ := h_589
                        subst e_589
                        refine q_eq (y := nI 0) (cnt_15) ?_
                        refine lv_if_ne (tgt := 599) xE xB dL_isSo_592 (by decide) (fun h9 => absurd (by decide) h9) (fun _ => ?_)
                        refine lv_iconst (v := nI 1) xE xB dL_isSo_595 (by decide) ?_
                        refine lv_goto (tgt := 600) xE xB dL_isSo_596 (by decide) ?_
                        exact xQ _ _ _ (congrArg nI (by first | rfl | omega)) (by decide) dL_isSo_600
                    refine lv_iload xE xB dL_isSo_370 (lv_at xL 8 rfl) ?_
                    refine q_if_gt (tgt := 389) xE xB dL_isSo_372 (by decide) (by omega) (fun c_372 => ?_) (fun c_372 => ?_)
                    · skip
                      exact J_389 _ (lv_sub xL [0, 1, 2, 3, 4, 5, 6, 7, 8, 9, 10] rfl)
                    · skip
                      refine lv_iload xE xB dL_isSo_375 (lv_at xL 7 rfl) ?_
                      refine q_if_eq (tgt := 389) xE xB dL_isSo_377 (by decide) (by omega) (fun c_377 => ?_) (fun c_377 => ?_)
                      · skip
                        exact J_389 _ (lv_sub xL [0, 1, 2, 3, 4, 5, 6, 7, 8, 9, 10] rfl)
                      · skip
                        refine lv_aload xE xB dL_isSo_380 (lv_at xL 6 rfl) ?_
                        refine lv_iconst (v := nI 0) xE xB dL_isSo_382 (by decide) ?_
                        refine q_lald xE xB xK xP 5 rfl (by omega) (by decide) dL_isSo_383 ?_
                        refine q_eqL (y := lN z) (hz) ?_
                        refine lv_lconst (v := lN 0) xE xB dL_isSo_384 (by decide) ?_
                        refine W.lcmp xE xB dL_isSo_385 ?_
                        refine lv_if_eq (tgt := 540) xE xB dL_isSo_386 (by decide) (fun c_386 => absurd c_386 (by exact fun w => absurd (on_2 hz2 w) (Nat.ne_of_gt (z_pos hwv c_377)))) (fun c_386 => ?_)
                        exact J_389 _ (lv_sub xL [0, 1, 2, 3, 4, 5, 6, 7, 8, 9, 10] rfl)
                  · skip
                    refine lv_iload xE xB dL_isSo_334 (lv_at xL 9 rfl) ?_
                    refine lv_if_eq (tgt := 365) xE xB dL_isSo_336 (by decide) (fun h9 => absurd h9 (by decide)) (fun _ => ?_)
                    refine lv_aload_n xE xB dL_isSo_339 rfl (lv_at xL 0 rfl) ?_
                    refine lv_iload xE xB dL_isSo_340 (lv_at xL 10 rfl) ?_
                    refine q_VRL (As := [.int (nI q)]) (rest := []) ⟨xE, xB, xM, xO, xT⟩ (kO_count l G oa n r k c o b ta tb tt 0 u s T (nI q) (by first | assumption | omega)) (cwV 1 xT gL_isSo_X6_count rfl rfl rfl (by decide +kernel) ⟨Nat.le_of_ble_eq_true rfl, Nat.le_of_ble_eq_true rfl⟩) xK xP [6] [0, 1, 2, 3, 4, 5] 7 rfl (by decide) (Lc := [wO G oa u]) rfl rfl 0 rfl rfl rfl rfl xL.1 rfl (Nat.le_of_ble_eq_true rfl) dL_isSo_342 ⟨Nat.le_refl _, Nat.le_refl _⟩ (fun r_342 h_342 => ?_)
                    replace h_342 : ∃ h, r_342 = coA n o r k c b ta tb tt h 0 (nI q) s := h_342
                    obtain ⟨hh, e_342⟩ := h_342
                    subst e_342
                    refine q_eq (y := g q) (co_g ⟨hg0, hg1, hg2, hg3⟩ c_331) ?_
                    refine lv_aload_n xE xB dL_isSo_345 rfl (lv_at xL 1 rfl) ?_
                    refine lv_iload xE xB dL_isSo_346 (lv_at xL 10 rfl) ?_
                    refine q_ald xE xB xK xP 0 rfl (by omega) (by decide) dL_isSo_348 ?_
                    refine lv_icmp_ne (tgt := 356) xE xB dL_isSo_349 (by decide) (fun c_349 => absurd c_349 (by exact fun w => w rfl)) (fun c_349 => ?_)
                    refine lv_iconst (v := nI 1) xE xB dL_isSo_352 (by decide) ?_
                    refine lv_goto (tgt := 357) xE xB dL_isSo_353 (by decide) ?_
                    refine lv_istore (lv' := [(9, .int (nI 1)), (0, .ref oa), (1, .ref ga), (2, .ref aa), (3, .ref ba), (4, .ref fa), (5, .ref ra), (6, .ref wa), (7, .int (nI wv)), (8, .int (nI fv)), (10, .int (nI q))]) xE xB dL_isSo_357 xL (by decide) rfl (fun ls xL => ?_)
                    refine lv_iinc (v := nI (q + 1)) (lv' := [(10, .int (nI (q + 1))), (9, .int (nI 1)), (0, .ref oa), (1, .ref ga), (2, .ref aa), (3, .ref ba), (4, .ref fa), (5, .ref ra), (6, .ref wa), (7, .int (nI wv)), (8, .int (nI fv))]) xE xB dL_isSo_359 xL (k := 10) rfl (q_inc _ _) (by decide) rfl (fun ls xL => ?_)
                    refine lv_goto (tgt := 328) xE xB dL_isSo_362 (by decide) ?_
                    exact ih_328 (q + 1) (by omega) (by omega) _ (lv_sub xL [2, 3, 4, 5, 6, 7, 8, 9, 10, 1, 0] rfl)
              exact L_328 (4 - 0 + 1) 0 (by omega) (Nat.lt_succ_self _) _ (lv_sub xL [1, 2, 3, 4, 5, 6, 7, 8, 9, 10, 0] rfl)
            · skip
              refine lv_iload xE xB dL_isSo_301 (lv_at xL 8 rfl) ?_
              refine lv_aload xE xB dL_isSo_303 (lv_at xL 4 rfl) ?_
              refine lv_iload xE xB dL_isSo_305 (lv_at xL 10 rfl) ?_
              refine q_ald xE xB xK xP 3 rfl (by omega) (by decide) dL_isSo_307 ?_
              refine lv_if_le (tgt := 315) xE xB dL_isSo_308 (by decide) (fun c_308 => ?_) (fun c_308 => ?_)
              · skip
                refine lv_iconst (v := nI 0) xE xB dL_isSo_315 (by decide) ?_
                refine q_iadd xE xB dL_isSo_316 ?_
                refine lv_istore (lv' := [(8, .int (nI (fv + 0))), (0, .ref oa), (1, .ref ga), (2, .ref aa), (3, .ref ba), (4, .ref fa), (5, .ref ra), (6, .ref wa), (7, .int (nI wv)), (9, .int (nI 1)), (10, .int (nI q))]) xE xB dL_isSo_317 xL (by decide) rfl (fun ls xL => ?_)
                refine lv_iinc (v := nI (q + 1)) (lv' := [(10, .int (nI (q + 1))), (8, .int (nI (fv + 0))), (0, .ref oa), (1, .ref ga), (2, .ref aa), (3, .ref ba), (4, .ref fa), (5, .ref ra), (6, .ref wa), (7, .int (nI wv)), (9, .int (nI 1))]) xE xB dL_isSo_319 xL (k := 10) rfl (q_inc _ _) (by decide) rfl (fun ls xL => ?_)
                refine lv_goto (tgt := 294) xE xB dL_isSo_322 (by decide) ?_
                exact ih_294 (q + 1) (fv + 0) (by omega) (by rw [hfv]; first | exact fv_0 c_308 | exact fv_1 c_308) (by omega) (by omega) _ (lv_sub xL [2, 3, 4, 5, 6, 7, 8, 9, 1, 10, 0] rfl)
              · skip
                refine lv_iconst (v := nI 1) xE xB dL_isSo_311 (by decide) ?_
                refine lv_goto (tgt := 316) xE xB dL_isSo_312 (by decide) ?_
                refine q_iadd xE xB dL_isSo_316 ?_
                refine lv_istore (lv' := [(8, .int (nI (fv + 1))), (0, .ref oa), (1, .ref ga), (2, .ref aa), (3, .ref ba), (4, .ref fa), (5, .ref ra), (6, .ref wa), (7, .int (nI wv)), (9, .int (nI 1)), (10, .int (nI q))]) xE xB dL_isSo_317 xL (by decide) rfl (fun ls xL => ?_)
                refine lv_iinc (v := nI (q + 1)) (lv' := [(10, .int (nI (q + 1))), (8, .int (nI (fv + 1))), (0, .ref oa), (1, .ref ga), (2, .ref aa), (3, .ref ba), (4, .ref fa), (5, .ref ra), (6, .ref wa), (7, .int (nI wv)), (9, .int (nI 1))]) xE xB dL_isSo_319 xL (k := 10) rfl (q_inc _ _) (by decide) rfl (fun ls xL => ?_)
                refine lv_goto (tgt := 294) xE xB dL_isSo_322 (by decide) ?_
                exact ih_294 (q + 1) (fv + 1) (by omega) (by rw [hfv]; first | exact fv_0 c_308 | exact fv_1 c_308) (by omega) (by omega) _ (lv_sub xL [2, 3, 4, 5, 6, 7, 8, 9, 1, 10, 0] rfl)
        exact L_294 (20 - 0 + 1) 0 0 (by omega) (by rfl) (by omega) (Nat.lt_succ_self _) _ (lv_sub xL [1, 2, 3, 4, 5, 6, 7, 8, 9, 10, 0] rfl)
      · skip
        refine lv_iload xE xB dL_isSo_27 (lv_at xL 9 rfl) ?_
        refine lv_if_eq (tgt := 291) xE xB dL_isSo_29 (by decide) (fun h9 => absurd h9 (by decide)) (fun _ => ?_)
        refine lv_iload xE xB dL_isSo_32 (lv_at xL 10 rfl) ?_
        refine lv_bipush (v := nI 6) xE xB dL_isSo_34 (by decide) ?_
        refine q_idiv xE xB dL_isSo_36 (by omega) (by omega) (by omega) ?_
        obtain ⟨i, hi⟩ : ∃ w0 : Nat, w0 = q / 6 := ⟨_, rfl⟩
        refine q_eq (y := nI i) (congrArg nI hi.symm) ?_
        refine lv_istore (lv' := [(11, .int (nI i)), (0, .ref oa), (1, .ref ga), (2, .ref aa), (3, .ref ba), (4, .ref fa), (5, .ref ra), (6, .ref wa), (7, .int (nI wv)), (8, .int (nI 0)), (9, .int (nI 1)), (10, .int (nI q))]) xE xB dL_isSo_37 xL (by decide) rfl (fun ls xL => ?_)
        refine lv_iload xE xB dL_isSo_39 (lv_at xL 11 rfl) ?_
        refine lv_bipush (v := nI 6) xE xB dL_isSo_41 (by decide) ?_
        refine q_irem xE xB dL_isSo_43 (by omega) (by omega) (by omega) ?_
        obtain ⟨j, hj⟩ : ∃ w0 : Nat, w0 = q % 6 := ⟨_, rfl⟩
        refine q_eq (y := nI j) (congrArg nI hj.symm) ?_
        have hij : q = 6 * i + j := (by omega)
        have hi6 : i < 6 := (by omega)
        have hj6 : j < 6 := (by omega)
        refine lv_istore (lv' := [(12, .int (nI j)), (11, .int (nI i)), (0, .ref oa), (1, .ref ga), (2, .ref aa), (3, .ref ba), (4, .ref fa), (5, .ref ra), (6, .ref wa), (7, .int (nI wv)), (8, .int (nI 0)), (9, .int (nI 1)), (10, .int (nI q))]) xE xB dL_isSo_44 xL (by decide) rfl (fun ls xL => ?_)
        refine lv_aload xE xB dL_isSo_46 (lv_at xL 8 rfl) ?_
        refine lv_iconst (v := nI 0) xE xB dL_isSo_48 (by decide) ?_
        refine q_lald xE xB xK xP 5 rfl (by omega) (by decide) dL_isSo_49 ?_
        refine q_eqL (y := lN z) (hz) ?_
        refine lv_iload xE xB dL_isSo_50 (lv_at xL 12 rfl) ?_
        refine lv_lshr (v := lN (z / 2 ^ q)) xE xB dL_isSo_52 (by exact lw_shr hz2 (by omega)) ?_
        refine lv_lconst (v := lN 1) xE xB dL_isSo_53 (by decide) ?_
        refine lv_land xE xB dL_isSo_54 ?_
        refine q_eqL (y := lN (z / 2 ^ q &&& 1)) (lw_and _ _) ?_
        refine lv_lconst (v := lN 1) xE xB dL_isSo_55 (by decide) ?_
        refine W.lcmp xE xB dL_isSo_56 ?_
        have J_65 : ∀ (e : Nat), (e = if z.testBit q = true then 1 else 0) → ∀ (ls : Array Slot), lv_has ls 15 [(12, .int (nI j)), (11, .int (nI i)), (0, .ref oa), (1, .ref ga), (2, .ref aa), (3, .ref ba), (4, .ref fa), (5, .ref ra), (6, .ref wa), (7, .int (nI wv)), (8, .int (nI 0)), (9, .int (nI 1)), (10, .int (nI q))] → W p9 l e9 (rm 5 124) s9 m9 ([.ref oa, .ref ga, .ref aa, .ref ba, .ref fa, .ref ra, .ref wa] : List Value).toArray b9 t9 c9 s9.heap [] 0 0 Q (F0 m9 65 ls [.int (nI e)]) := by
          intro e he ls xL
          refine lv_istore (lv' := [(13, .int (nI e)), (12, .int (nI j)), (11, .int (nI i)), (0, .ref oa), (1, .ref ga), (2, .ref aa), (3, .ref ba), (4, .ref fa), (5, .ref ra), (6, .ref wa), (7, .int (nI wv)), (8, .int (nI 0)), (9, .int (nI 1)), (10, .int (nI q))]) xE xB dL_isSo_65 xL (by decide) rfl (fun ls xL => ?_)
          have J_88 : ∀ (e2 : Nat), (e2 = if i < r ∧ j < c then 1 else 0) → ∀ (ls : Array Slot), lv_has ls 15 [(13, .int (nI e)), (12, .int (nI j)), (11, .int (nI i)), (0, .ref oa), (1, .ref ga), (2, .ref aa), (3, .ref ba), (4, .ref fa), (5, .ref ra), (6, .ref wa), (7, .int (nI wv)), (8, .int (nI 0)), (9, .int (nI 1)), (10, .int (nI q))] → W p9 l e9 (rm 5 124) s9 m9 ([.ref oa, .ref ga, .ref aa, .ref ba, .ref fa, .ref ra, .ref wa] : List Value).toArray b9 t9 c9 s9.heap [] 0 0 Q (F0 m9 88 ls [.int (nI e2)]) := by
            intro e2 he2 ls xL
            refine lv_istore (lv' := [(14, .int (nI e2)), (13, .int (nI e)), (12, .int (nI j)), (11, .int (nI i)), (0, .ref oa), (1, .ref ga), (2, .ref aa), (3, .ref ba), (4, .ref fa), (5, .ref ra), (6, .ref wa), (7, .int (nI wv)), (8, .int (nI 0)), (9, .int (nI 1)), (10, .int (nI q))]) xE xB dL_isSo_88 xL (by decide) rfl (fun ls xL => ?_)
            refine lv_iload xE xB dL_isSo_90 (lv_at xL 11 rfl) ?_
            have J_120 : ∀ (x : Nat), (x = if z.testBit q = true ∧ rd q ≠ dotV ad bd (q / 6) (q % 6) k then 1 else 0) → ∀ (ls : Array Slot), lv_has ls 15 [(14, .int (nI e2)), (13, .int (nI e)), (12, .int (nI j)), (11, .int (nI i)), (0, .ref oa), (1, .ref ga), (2, .ref aa), (3, .ref ba), (4, .ref fa), (5, .ref ra), (6, .ref wa), (7, .int (nI wv)), (8, .int (nI 0)), (9, .int (nI 1)), (10, .int (nI q))] → W p9 l e9 (rm 5 124) s9 m9 ([.ref oa, .ref ga, .ref aa, .ref ba, .ref fa, .ref ra, .ref wa] : List Value).toArray b9 t9 c9 s9.heap [] 0 0 Q (F0 m9 120 ls [.int (nI x), .int (nI wv)]) := by
              intro x hx ls xL
              refine q_iadd xE xB dL_isSo_120 ?_
              refine lv_istore (lv' := [(7, .int (nI (wv + x))), (14, .int (nI e2)), (13, .int (nI e)), (12, .int (nI j)), (11, .int (nI i)), (0, .ref oa), (1, .ref ga), (2, .ref aa), (3, .ref ba), (4, .ref fa), (5, .ref ra), (6, .ref wa), (8, .int (nI 0)), (9, .int (nI 1)), (10, .int (nI q))]) xE xB dL_isSo_121 xL (by decide) rfl (fun ls xL => ?_)
              refine lv_aload_n xE xB dL_isSo_123 rfl (lv_at xL 5 rfl) ?_
              refine lv_iconst (v := nI 0) xE xB dL_isSo_124 (by decide) ?_
              refine lv_iload xE xB dL_isSo_125 (lv_at xL 4 rfl) ?_
              refine lv_iload xE xB dL_isSo_127 (lv_at xL 3 rfl) ?_
              refine q_VRL (As := [.int (nI 0), .int (nI i), .int (nI j)]) (rest := []) ⟨xE, xB, xM, xO, xT⟩ (kO_entry l G oa n r k c o b ta tb tt 0 u s T (nI 0) (nI i) (nI j) (by first | assumption | omega)) (cwV 3 xT gL_isSo_X6_entry rfl rfl rfl (by decide +kernel) ⟨Nat.le_of_ble_eq_true rfl, Nat.le_of_ble_eq_true rfl⟩) xK xP [6] [0, 1, 2, 3, 4, 5] 7 rfl (by decide) (Lc := [wO G oa u]) rfl rfl 0 rfl rfl rfl rfl xL.1 rfl (Nat.le_of_ble_eq_true rfl) dL_isSo_129 ⟨Nat.le_refl _, Nat.le_refl _⟩ (fun r_129 h_129 => ?_)
              obtain rfl : r_129 = enA r k c (nI 0) (nI i) (nI j) s := h_129
              refine q_eq (y := if i < r ∧ j < k then ad q else (-1000001)) ((en_l hA hi6 hj6 ⟨by omega, by omega⟩).trans (by rw [← hij])) ?_
              have J_157 : ∀ (v1 : Int32), (v1 = if i < r ∧ j < k then ad q else (-1000001)) → ∀ (ls : Array Slot), lv_has ls 15 [(7, .int (nI (wv + x))), (14, .int (nI e2)), (13, .int (nI e)), (12, .int (nI j)), (11, .int (nI i)), (0, .ref oa), (1, .ref ga), (2, .ref aa), (3, .ref ba), (4, .ref fa), (5, .ref ra), (6, .ref wa), (8, .int (nI 0)), (9, .int (nI 1)), (10, .int (nI q))] → W p9 l e9 (rm 5 124) s9 m9 ([.ref oa, .ref ga, .ref aa, .ref ba, .ref fa, .ref ra, .ref wa] : List Value).toArray b9 t9 c9 s9.heap [] 0 0 Q (F0 m9 157 ls [.int v1, .int (if i < r ∧ j < k then ad q else (-1000001))]) := by
                intro v1 hv1 ls xL
                refine lv_icmp_ne (tgt := 201) xE xB dL_isSo_157 (by decide) (fun c_157 => absurd c_157 (by exact fun w => w hv1.symm)) (fun c_157 => ?_)
                refine lv_aload_n xE xB dL_isSo_160 rfl (lv_at xL 5 rfl) ?_
                refine lv_iconst (v := nI 1) xE xB dL_isSo_161 (by decide) ?_
                refine lv_iload xE xB dL_isSo_162 (lv_at xL 4 rfl) ?_
                refine lv_iload xE xB dL_isSo_164 (lv_at xL 3 rfl) ?_
                refine q_VRL (As := [.int (nI 1), .int (nI i), .int (nI j)]) (rest := []) ⟨xE, xB, xM, xO, xT⟩ (kO_entry l G oa n r k c o b ta tb tt 0 u s T (nI 1) (nI i) (nI j) (by first | assumption | omega)) (cwV 3 xT gL_isSo_X6_entry rfl rfl rfl (by decide +kernel) ⟨Nat.le_of_ble_eq_true rfl, Nat.le_of_ble_eq_true rfl⟩) xK xP [6] [0, 1, 2, 3, 4, 5] 7 rfl (by decide) (Lc := [wO G oa u]) rfl rfl 0 rfl rfl rfl rfl xL.1 rfl (Nat.le_of_ble_eq_true rfl) dL_isSo_166 ⟨Nat.le_refl _, Nat.le_refl _⟩ (fun r_166 h_166 => ?_)
                obtain rfl : r_166 = enA r k c (nI 1) (nI i) (nI j) s := h_166
                refine q_eq (y := if i < k ∧ j < c then bd q else (-1000001)) ((en_r hB hi6 hj6 ⟨by omega, by omega⟩).trans (by rw [← hij])) ?_
                have J_194 : ∀ (v2 : Int32), (v2 = if i < k ∧ j < c then bd q else (-1000001)) → ∀ (ls : Array Slot), lv_has ls 15 [(7, .int (nI (wv + x))), (14, .int (nI e2)), (13, .int (nI e)), (12, .int (nI j)), (11, .int (nI i)), (0, .ref oa), (1, .ref ga), (2, .ref aa), (3, .ref ba), (4, .ref fa), (5, .ref ra), (6, .ref wa), (8, .int (nI 0)), (9, .int (nI 1)), (10, .int (nI q))] → W p9 l e9 (rm 5 124) s9 m9 ([.ref oa, .ref ga, .ref aa, .ref ba, .ref fa, .ref ra, .ref wa] : List Value).toArray b9 t9 c9 s9.heap [] 0 0 Q (F0 m9 194 ls [.int v2, .int (if i < k ∧ j < c then bd q else (-1000001))]) := by
                  intro v2 hv2 ls xL
                  refine lv_icmp_ne (tgt := 201) xE xB dL_isSo_194 (by decide) (fun c_194 => absurd c_194 (by exact fun w => w hv2.symm)) (fun c_194 => ?_)
                  refine lv_iconst (v := nI 1) xE xB dL_isSo_197 (by decide) ?_
                  refine lv_goto (tgt := 202) xE xB dL_isSo_198 (by decide) ?_
                  refine lv_istore (lv' := [(9, .int (nI 1)), (7, .int (nI (wv + x))), (14, .int (nI e2)), (13, .int (nI e)), (12, .int (nI j)), (11, .int (nI i)), (0, .ref oa), (1, .ref ga), (2, .ref aa), (3, .ref ba), (4, .ref fa), (5, .ref ra), (6, .ref wa), (8, .int (nI 0)), (10, .int (nI q))]) xE xB dL_isSo_202 xL (by decide) rfl (fun ls xL => ?_)
                  refine lv_iload xE xB dL_isSo_204 (lv_at xL 0 rfl) ?_
                  refine lv_if_eq (tgt := 282) xE xB dL_isSo_206 (by decide) (fun h9 => absurd h9 (by decide)) (fun _ => ?_)
                  refine lv_aload_n xE xB dL_isSo_209 rfl (lv_at xL 6 rfl) ?_
                  refine lv_iload xE xB dL_isSo_210 (lv_at xL 5 rfl) ?_
                  refine lv_iload xE xB dL_isSo_212 (lv_at xL 4 rfl) ?_
                  refine lv_iconst (v := nI 0) xE xB dL_isSo_214 (by decide) ?_
                  refine q_VRL (As := [.int (nI i), .int (nI j), .int (nI 0)]) (rest := []) ⟨xE, xB, xM, xO, xT⟩ (kO_result l G oa n r k c o b ta tb tt 0 u s T (nI i) (nI j) (nI 0) (by first | assumption | omega)) (cwV 3 xT gL_isSo_X6_result rfl rfl rfl (by decide +kernel) ⟨Nat.le_of_ble_eq_true rfl, Nat.le_of_ble_eq_true rfl⟩) xK xP [6] [0, 1, 2, 3, 4, 5] 7 rfl (by decide) (Lc := [wO G oa u]) rfl rfl 0 rfl rfl rfl rfl xL.1 rfl (Nat.le_of_ble_eq_true rfl) dL_isSo_215 ⟨Nat.le_refl _, Nat.le_refl _⟩ (fun r_215 h_215 => ?_)
                  obtain rfl : r_215 = reA r k c (nI i) (nI j) (nI 0) s := h_215
                  refine q_eq (y := if i < r ∧ j < c then (if z.testBit q = true then rd q else (-1000004)) else (-1000001)) ((re_0 hZ hi6 hj6 ⟨by omega, by omega⟩).trans (by rw [← hij])) ?_
                  have J_243 : ∀ (v3 : Int32), (v3 = if i < r ∧ j < c then (if z.testBit q = true then rd q else (-1000004)) else (-1000001)) → ∀ (ls : Array Slot), lv_has ls 15 [(9, .int (nI 1)), (7, .int (nI (wv + x))), (14, .int (nI e2)), (13, .int (nI e)), (12, .int (nI j)), (11, .int (nI i)), (0, .ref oa), (1, .ref ga), (2, .ref aa), (3, .ref ba), (4, .ref fa), (5, .ref ra), (6, .ref wa), (8, .int (nI 0)), (10, .int (nI q))] → W p9 l e9 (rm 5 124) s9 m9 ([.ref oa, .ref ga, .ref aa, .ref ba, .ref fa, .ref ra, .ref wa] : List Value).toArray b9 t9 c9 s9.heap [] 0 0 Q (F0 m9 243 ls [.int v3, .int (if i < r ∧ j < c then (if z.testBit q = true then rd q else (-1000004)) else (-1000001))]) := by
                    intro v3 hv3 ls xL
                    refine lv_icmp_ne (tgt := 282) xE xB dL_isSo_243 (by decide) (fun c_243 => absurd c_243 (by exact fun w => w hv3.symm)) (fun c_243 => ?_)
                    refine lv_aload_n xE xB dL_isSo_246 rfl (lv_at xL 6 rfl) ?_
                    refine lv_iload xE xB dL_isSo_247 (lv_at xL 5 rfl) ?_
                    refine lv_iload xE xB dL_isSo_249 (lv_at xL 4 rfl) ?_
                    refine lv_iconst (v := nI 1) xE xB dL_isSo_251 (by decide) ?_
                    refine q_VRL (As := [.int (nI i), .int (nI j), .int (nI 1)]) (rest := []) ⟨xE, xB, xM, xO, xT⟩ (kO_result l G oa n r k c o b ta tb tt 0 u s T (nI i) (nI j) (nI 1) (by first | assumption | omega)) (cwV 3 xT gL_isSo_X6_result rfl rfl rfl (by decide +kernel) ⟨Nat.le_of_ble_eq_true rfl, Nat.le_of_ble_eq_true rfl⟩) xK xP [6] [0, 1, 2, 3, 4, 5] 7 rfl (by decide) (Lc := [wO G oa u]) rfl rfl 0 rfl rfl rfl rfl xL.1 rfl (Nat.le_of_ble_eq_true rfl) dL_isSo_252 ⟨Nat.le_refl _, Nat.le_refl _⟩ (fun r_252 h_252 => ?_)
                    obtain rfl : r_252 = reA r k c (nI i) (nI j) (nI 1) s := h_252
                    refine q_eq (y := if i < r ∧ j < c then dotV ad bd i j k else (-1000001)) (re_1 hA hB hi6 hj6 ⟨by omega, by omega, by omega⟩) ?_
                    have J_275 : ∀ (v4 : Int32), (v4 = if i < r ∧ j < c then dotV ad bd i j k else (-1000001)) → ∀ (ls : Array Slot), lv_has ls 15 [(9, .int (nI 1)), (7, .int (nI (wv + x))), (14, .int (nI e2)), (13, .int (nI e)), (12, .int (nI j)), (11, .int (nI i)), (0, .ref oa), (1, .ref ga), (2, .ref aa), (3, .ref ba), (4, .ref fa), (5, .ref ra), (6, .ref wa), (8, .int (nI 0)), (10, .int (nI q))] → W p9 l e9 (rm 5 124) s9 m9 ([.ref oa, .ref ga, .ref aa, .ref ba, .ref fa, .ref ra, .ref wa] : List Value).toArray b9 t9 c9 s9.heap [] 0 0 Q (F0 m9 275 ls [.int v4, .int (if i < r ∧ j < c then dotV ad bd i j k else (-1000001))]) := by
                      intro v4 hv4 ls xL
                      refine lv_icmp_ne (tgt := 282) xE xB dL_isSo_275 (by decide) (fun c_275 => absurd c_275 (by exact fun w => w hv4.symm)) (fun c_275 => ?_)
                      refine lv_iconst (v := nI 1) xE xB dL_isSo_278 (by decide) ?_
                      refine lv_goto (tgt := 283) xE xB dL_isSo_279 (by decide) ?_
                      refine lv_istore (lv' := [(9, .int (nI 1)), (7, .int (nI (wv + x))), (14, .int (nI e2)), (13, .int (nI e)), (12, .int (nI j)), (11, .int (nI i)), (0, .ref oa), (1, .ref ga), (2, .ref aa), (3, .ref ba), (4, .ref fa), (5, .ref ra), (6, .ref wa), (8, .int (nI 0)), (10, .int (nI q))]) xE xB dL_isSo_283 xL (by decide) rfl (fun ls xL => ?_)
                      refine lv_iinc (v := nI (q + 1)) (lv' := [(10, .int (nI (q + 1))), (9, .int (nI 1)), (7, .int (nI (wv + x))), (14, .int (nI e2)), (13, .int (nI e)), (12, .int (nI j)), (11, .int (nI i)), (0, .ref oa), (1, .ref ga), (2, .ref aa), (3, .ref ba), (4, .ref fa), (5, .ref ra), (6, .ref wa), (8, .int (nI 0))]) xE xB dL_isSo_285 xL (k := 14) rfl (q_inc _ _) (by decide) rfl (fun ls xL => ?_)
                      refine lv_goto (tgt := 20) xE xB dL_isSo_288 (by decide) ?_
                      exact ih_20 (q + 1) (wv + x) (by omega) (by rw [hwv, hx]; rfl) (by have := ie_b hx; omega) (by omega) _ (lv_sub xL [7, 8, 9, 10, 11, 12, 13, 2, 14, 1, 0] rfl)
                    refine lv_iload xE xB dL_isSo_255 (lv_at xL 2 rfl) ?_
                    refine q_if_eq (tgt := 273) xE xB dL_isSo_257 (by decide) (by have := ie_b he2; omega) (fun c_257 => ?_) (fun c_257 => ?_)
                    · skip
                      refine lv_ldc (v := (-1000001)) xE xB xO (xT _ kL_isSo_c115) dL_isSo_273 ?_
                      exact J_275 (-1000001) (by first | exact (if_neg (ie_0 he2 c_257)).symm | exact (if_pos (ie_1 he2 c_257)).symm) _ (lv_sub xL [0, 1, 2, 3, 4, 5, 6, 7, 8, 9, 10, 11, 12, 13, 14] rfl)
                    · skip
                      refine lv_aload_n xE xB dL_isSo_260 rfl (lv_at xL 7 rfl) ?_
                      refine lv_aload_n xE xB dL_isSo_261 rfl (lv_at xL 8 rfl) ?_
                      refine lv_aload_n xE xB dL_isSo_262 rfl (lv_at xL 9 rfl) ?_
                      refine lv_iload xE xB dL_isSo_263 (lv_at xL 5 rfl) ?_
                      refine lv_iload xE xB dL_isSo_265 (lv_at xL 4 rfl) ?_
                      refine q_SRL (As := [.ref ga, .ref aa, .ref ba, .int (nI i), .int (nI j)]) (rest := [.int (if i < r ∧ j < c then dotV ad bd i j k else (-1000001))]) ⟨xE, xB, xM, xO, xT⟩ (kL_due l G ga aa ba g ad bd k i j hg2 (by omega) (by omega) (by omega)) (va_cwS 5 xT gL_isSo_L_due rfl rfl rfl (by decide +kernel) ⟨Nat.le_of_ble_eq_true rfl, Nat.le_of_ble_eq_true rfl⟩) xK xP [0, 1, 2] [3, 4, 5, 6] 7 rfl (by decide) (Lc := [[(ga, ai G 9 g)], [(aa, ai G 36 ad)], [(ba, ai G 36 bd)]]) rfl rfl rfl xL.1 rfl (Nat.le_of_ble_eq_true rfl) dL_isSo_267 ⟨Nat.le_refl _, Nat.le_refl _⟩ (fun r_267 h_267 => ?_)
                      obtain rfl : r_267 = dotV ad bd i j k := h_267
                      refine lv_goto (tgt := 275) xE xB dL_isSo_270 (by decide) ?_
                      exact J_275 (dotV ad bd i j k) (by first | exact (if_neg (ie_0 he2 c_257)).symm | exact (if_pos (ie_1 he2 c_257)).symm) _ (lv_sub xL [0, 1, 2, 3, 4, 5, 6, 7, 8, 9, 10, 11, 12, 13, 14] rfl)
                  refine lv_iload xE xB dL_isSo_218 (lv_at xL 2 rfl) ?_
                  refine q_if_ne (tgt := 228) xE xB dL_isSo_220 (by decide) (by have := ie_b he2; omega) (fun c_220 => ?_) (fun c_220 => ?_)
                  · skip
                    refine lv_iload xE xB dL_isSo_228 (lv_at xL 3 rfl) ?_
                    refine q_if_eq (tgt := 241) xE xB dL_isSo_230 (by decide) (by have := ie_b he; omega) (fun c_230 => ?_) (fun c_230 => ?_)
                    · skip
                      refine lv_ldc (v := (-1000004)) xE xB xO (xT _ kL_isSo_c44) dL_isSo_241 ?_
                      exact J_243 (-1000004) (by first | exact (if_neg (ie_0 he2 c_220)).symm | exact ((if_pos (ie_1 he2 c_220)).trans (if_neg (ie_0 he c_230))).symm | exact ((if_pos (ie_1 he2 c_220)).trans (if_pos (ie_1 he c_230))).symm) _ (lv_sub xL [0, 1, 2, 3, 4, 5, 6, 7, 8, 9, 10, 11, 12, 13, 14] rfl)
                    · skip
                      refine lv_aload xE xB dL_isSo_233 (lv_at xL 11 rfl) ?_
                      refine lv_iload xE xB dL_isSo_235 (lv_at xL 14 rfl) ?_
                      refine q_ald xE xB xK xP 4 rfl (by omega) (by decide) dL_isSo_237 ?_
                      refine lv_goto (tgt := 243) xE xB dL_isSo_238 (by decide) ?_
                      exact J_243 (rd q) (by first | exact (if_neg (ie_0 he2 c_220)).symm | exact ((if_pos (ie_1 he2 c_220)).trans (if_neg (ie_0 he c_230))).symm | exact ((if_pos (ie_1 he2 c_220)).trans (if_pos (ie_1 he c_230))).symm) _ (lv_sub xL [0, 1, 2, 3, 4, 5, 6, 7, 8, 9, 10, 11, 12, 13, 14] rfl)
                  · skip
                    refine lv_ldc (v := (-1000001)) xE xB xO (xT _ kL_isSo_c115) dL_isSo_223 ?_
                    refine lv_goto (tgt := 243) xE xB dL_isSo_225 (by decide) ?_
                    exact J_243 (-1000001) (by first | exact (if_neg (ie_0 he2 c_220)).symm | exact ((if_pos (ie_1 he2 c_220)).trans (if_neg (ie_0 he c_230))).symm | exact ((if_pos (ie_1 he2 c_220)).trans (if_pos (ie_1 he c_230))).symm) _ (lv_sub xL [0, 1, 2, 3, 4, 5, 6, 7, 8, 9, 10, 11, 12, 13, 14] rfl)
                refine lv_iload xE xB dL_isSo_169 (lv_at xL 4 rfl) ?_
                refine lv_aload_n xE xB dL_isSo_171 rfl (lv_at xL 6 rfl) ?_
                refine lv_iconst (v := nI 2) xE xB dL_isSo_172 (by decide) ?_
                refine q_ald xE xB xK xP 0 rfl (by omega) (by decide) dL_isSo_173 ?_
                refine q_eq (y := nI k) (hg2) ?_
                refine q_icmp_ge (tgt := 192) xE xB dL_isSo_174 (by decide) (by omega) (by omega) (fun c_174 => ?_) (fun c_174 => ?_)
                · skip
                  refine lv_ldc (v := (-1000001)) xE xB xO (xT _ kL_isSo_c115) dL_isSo_192 ?_
                  exact J_194 (-1000001) (by first | exact (if_pos ⟨by omega, by omega⟩).symm | exact (if_neg (fun w => by omega)).symm) _ (lv_sub xL [0, 1, 2, 3, 4, 5, 6, 7, 8, 9, 10, 11, 12, 13, 14] rfl)
                · skip
                  refine lv_iload xE xB dL_isSo_177 (lv_at xL 3 rfl) ?_
                  refine lv_aload_n xE xB dL_isSo_179 rfl (lv_at xL 6 rfl) ?_
                  refine lv_iconst (v := nI 3) xE xB dL_isSo_180 (by decide) ?_
                  refine q_ald xE xB xK xP 0 rfl (by omega) (by decide) dL_isSo_181 ?_
                  refine q_eq (y := nI c) (hg3) ?_
                  refine q_icmp_ge (tgt := 192) xE xB dL_isSo_182 (by decide) (by omega) (by omega) (fun c_182 => ?_) (fun c_182 => ?_)
                  · skip
                    refine lv_ldc (v := (-1000001)) xE xB xO (xT _ kL_isSo_c115) dL_isSo_192 ?_
                    exact J_194 (-1000001) (by first | exact (if_pos ⟨by omega, by omega⟩).symm | exact (if_neg (fun w => by omega)).symm) _ (lv_sub xL [0, 1, 2, 3, 4, 5, 6, 7, 8, 9, 10, 11, 12, 13, 14] rfl)
                  · skip
                    refine lv_aload_n xE xB dL_isSo_185 rfl (lv_at xL 8 rfl) ?_
                    refine lv_iload xE xB dL_isSo_186 (lv_at xL 14 rfl) ?_
                    refine q_ald xE xB xK xP 2 rfl (by omega) (by decide) dL_isSo_188 ?_
                    refine lv_goto (tgt := 194) xE xB dL_isSo_189 (by decide) ?_
                    exact J_194 (bd q) (by first | exact (if_pos ⟨by omega, by omega⟩).symm | exact (if_neg (fun w => by omega)).symm) _ (lv_sub xL [0, 1, 2, 3, 4, 5, 6, 7, 8, 9, 10, 11, 12, 13, 14] rfl)
              refine lv_iload xE xB dL_isSo_132 (lv_at xL 4 rfl) ?_
              refine lv_aload_n xE xB dL_isSo_134 rfl (lv_at xL 6 rfl) ?_
              refine lv_iconst (v := nI 1) xE xB dL_isSo_135 (by decide) ?_
              refine q_ald xE xB xK xP 0 rfl (by omega) (by decide) dL_isSo_136 ?_
              refine q_eq (y := nI r) (hg1) ?_
              refine q_icmp_ge (tgt := 155) xE xB dL_isSo_137 (by decide) (by omega) (by omega) (fun c_137 => ?_) (fun c_137 => ?_)
              · skip
                refine lv_ldc (v := (-1000001)) xE xB xO (xT _ kL_isSo_c115) dL_isSo_155 ?_
                exact J_157 (-1000001) (by first | exact (if_pos ⟨by omega, by omega⟩).symm | exact (if_neg (fun w => by omega)).symm) _ (lv_sub xL [0, 1, 2, 3, 4, 5, 6, 7, 8, 9, 10, 11, 12, 13, 14] rfl)
              · skip
                refine lv_iload xE xB dL_isSo_140 (lv_at xL 3 rfl) ?_
                refine lv_aload_n xE xB dL_isSo_142 rfl (lv_at xL 6 rfl) ?_
                refine lv_iconst (v := nI 2) xE xB dL_isSo_143 (by decide) ?_
                refine q_ald xE xB xK xP 0 rfl (by omega) (by decide) dL_isSo_144 ?_
                refine q_eq (y := nI k) (hg2) ?_
                refine q_icmp_ge (tgt := 155) xE xB dL_isSo_145 (by decide) (by omega) (by omega) (fun c_145 => ?_) (fun c_145 => ?_)
                · skip
                  refine lv_ldc (v := (-1000001)) xE xB xO (xT _ kL_isSo_c115) dL_isSo_155 ?_
                  exact J_157 (-1000001) (by first | exact (if_pos ⟨by omega, by omega⟩).symm | exact (if_neg (fun w => by omega)).symm) _ (lv_sub xL [0, 1, 2, 3, 4, 5, 6, 7, 8, 9, 10, 11, 12, 13, 14] rfl)
                · skip
                  refine lv_aload_n xE xB dL_isSo_148 rfl (lv_at xL 7 rfl) ?_
                  refine lv_iload xE xB dL_isSo_149 (lv_at xL 14 rfl) ?_
                  refine q_ald xE xB xK xP 1 rfl (by omega) (by decide) dL_isSo_151 ?_
                  refine lv_goto (tgt := 157) xE xB dL_isSo_152 (by decide) ?_
                  exact J_157 (ad q) (by first | exact (if_pos ⟨by omega, by omega⟩).symm | exact (if_neg (fun w => by omega)).symm) _ (lv_sub xL [0, 1, 2, 3, 4, 5, 6, 7, 8, 9, 10, 11, 12, 13, 14] rfl)
            refine lv_iload xE xB dL_isSo_92 (lv_at xL 1 rfl) ?_
            refine q_if_eq (tgt := 119) xE xB dL_isSo_94 (by decide) (by have := ie_b he; omega) (fun c_94 => ?_) (fun c_94 => ?_)
            · skip
              refine lv_iconst (v := nI 0) xE xB dL_isSo_119 (by decide) ?_
              exact J_120 0 (by first | exact (if_neg (fun w => ie_0 he c_94 w.1)).symm | exact (if_neg (fun w => w.2 (by rw [← hi, ← hj]; exact c_112))).symm | exact (if_pos ⟨ie_1 he c_94, by rw [← hi, ← hj]; exact c_112⟩).symm) _ (lv_sub xL [0, 1, 2, 3, 4, 5, 6, 7, 8, 9, 10, 11, 12, 13, 14] rfl)
            · skip
              refine lv_aload xE xB dL_isSo_97 (lv_at xL 9 rfl) ?_
              refine lv_iload xE xB dL_isSo_99 (lv_at xL 14 rfl) ?_
              refine q_ald xE xB xK xP 4 rfl (by omega) (by decide) dL_isSo_101 ?_
              refine lv_aload_n xE xB dL_isSo_102 rfl (lv_at xL 5 rfl) ?_
              refine lv_aload_n xE xB dL_isSo_103 rfl (lv_at xL 6 rfl) ?_
              refine lv_aload_n xE xB dL_isSo_104 rfl (lv_at xL 7 rfl) ?_
              refine lv_iload xE xB dL_isSo_105 (lv_at xL 3 rfl) ?_
              refine lv_iload xE xB dL_isSo_107 (lv_at xL 2 rfl) ?_
              refine q_SRL (As := [.ref ga, .ref aa, .ref ba, .int (nI i), .int (nI j)]) (rest := [.int (rd q), .int (nI wv)]) ⟨xE, xB, xM, xO, xT⟩ (kL_due l G ga aa ba g ad bd k i j hg2 (by omega) (by omega) (by omega)) (va_cwS 5 xT gL_isSo_L_due rfl rfl rfl (by decide +kernel) ⟨Nat.le_of_ble_eq_true rfl, Nat.le_of_ble_eq_true rfl⟩) xK xP [0, 1, 2] [3, 4, 5, 6] 7 rfl (by decide) (Lc := [[(ga, ai G 9 g)], [(aa, ai G 36 ad)], [(ba, ai G 36 bd)]]) rfl rfl rfl xL.1 rfl (Nat.le_of_ble_eq_true rfl) dL_isSo_109 ⟨Nat.le_refl _, Nat.le_refl _⟩ (fun r_109 h_109 => ?_)
              obtain rfl : r_109 = dotV ad bd i j k := h_109
              refine lv_icmp_eq (tgt := 119) xE xB dL_isSo_112 (by decide) (fun c_112 => ?_) (fun c_112 => ?_)
              · skip
                refine lv_iconst (v := nI 0) xE xB dL_isSo_119 (by decide) ?_
                exact J_120 0 (by first | exact (if_neg (fun w => ie_0 he c_94 w.1)).symm | exact (if_neg (fun w => w.2 (by rw [← hi, ← hj]; exact c_112))).symm | exact (if_pos ⟨ie_1 he c_94, by rw [← hi, ← hj]; exact c_112⟩).symm) _ (lv_sub xL [0, 1, 2, 3, 4, 5, 6, 7, 8, 9, 10, 11, 12, 13, 14] rfl)
              · skip
                refine lv_iconst (v := nI 1) xE xB dL_isSo_115 (by decide) ?_
                refine lv_goto (tgt := 120) xE xB dL_isSo_116 (by decide) ?_
                exact J_120 1 (by first | exact (if_neg (fun w => ie_0 he c_94 w.1)).symm | exact (if_neg (fun w => w.2 (by rw [← hi, ← hj]; exact c_112))).symm | exact (if_pos ⟨ie_1 he c_94, by rw [← hi, ← hj]; exact c_112⟩).symm) _ (lv_sub xL [0, 1, 2, 3, 4, 5, 6, 7, 8, 9, 10, 11, 12, 13, 14] rfl)
          refine lv_iload xE xB dL_isSo_67 (lv_at xL 2 rfl) ?_
          refine lv_aload_n xE xB dL_isSo_69 rfl (lv_at xL 4 rfl) ?_
          refine lv_iconst (v := nI 1) xE xB dL_isSo_70 (by decide) ?_
          refine q_ald xE xB xK xP 0 rfl (by omega) (by decide) dL_isSo_71 ?_
          refine q_eq (y := nI r) (hg1) ?_
          refine q_icmp_ge (tgt := 87) xE xB dL_isSo_72 (by decide) (by omega) (by omega) (fun c_72 => ?_) (fun c_72 => ?_)
          · skip
            refine lv_iconst (v := nI 0) xE xB dL_isSo_87 (by decide) ?_
            exact J_88 0 (by first | exact (if_pos ⟨by omega, by omega⟩).symm | exact (if_neg (fun w => by omega)).symm) _ (lv_sub xL [0, 1, 2, 3, 4, 5, 6, 7, 8, 9, 10, 11, 12, 13] rfl)
          · skip
            refine lv_iload xE xB dL_isSo_75 (lv_at xL 1 rfl) ?_
            refine lv_aload_n xE xB dL_isSo_77 rfl (lv_at xL 4 rfl) ?_
            refine lv_iconst (v := nI 3) xE xB dL_isSo_78 (by decide) ?_
            refine q_ald xE xB xK xP 0 rfl (by omega) (by decide) dL_isSo_79 ?_
            refine q_eq (y := nI c) (hg3) ?_
            refine q_icmp_ge (tgt := 87) xE xB dL_isSo_80 (by decide) (by omega) (by omega) (fun c_80 => ?_) (fun c_80 => ?_)
            · skip
              refine lv_iconst (v := nI 0) xE xB dL_isSo_87 (by decide) ?_
              exact J_88 0 (by first | exact (if_pos ⟨by omega, by omega⟩).symm | exact (if_neg (fun w => by omega)).symm) _ (lv_sub xL [0, 1, 2, 3, 4, 5, 6, 7, 8, 9, 10, 11, 12, 13] rfl)
            · skip
              refine lv_iconst (v := nI 1) xE xB dL_isSo_83 (by decide) ?_
              refine lv_goto (tgt := 88) xE xB dL_isSo_84 (by decide) ?_
              exact J_88 1 (by first | exact (if_pos ⟨by omega, by omega⟩).symm | exact (if_neg (fun w => by omega)).symm) _ (lv_sub xL [0, 1, 2, 3, 4, 5, 6, 7, 8, 9, 10, 11, 12, 13] rfl)
        refine lv_if_ne (tgt := 64) xE xB dL_isSo_57 (by decide) (fun c_57 => ?_) (fun c_57 => ?_)
        · skip
          refine lv_iconst (v := nI 0) xE xB dL_isSo_64 (by decide) ?_
          exact J_65 0 (by first | exact (if_pos (kn_1 c_57)).symm | exact (if_neg (kn_2 c_57)).symm) _ (lv_sub xL [0, 1, 2, 3, 4, 5, 6, 7, 8, 9, 10, 11, 12] rfl)
        · skip
          refine lv_iconst (v := nI 1) xE xB dL_isSo_60 (by decide) ?_
          refine lv_goto (tgt := 65) xE xB dL_isSo_61 (by decide) ?_
          exact J_65 1 (by first | exact (if_pos (kn_1 c_57)).symm | exact (if_neg (kn_2 c_57)).symm) _ (lv_sub xL [0, 1, 2, 3, 4, 5, 6, 7, 8, 9, 10, 11, 12] rfl)
  exact L_20 (36 - 0 + 1) 0 0 (by omega) (by rfl) (by omega) (Nat.lt_succ_self _) _ (lv_sub xL [4, 5, 6, 7, 8, 9, 10, 3, 2, 1, 0] rfl)
