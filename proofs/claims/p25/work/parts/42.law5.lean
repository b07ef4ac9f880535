/-! law5: an action of the law -/
theorem kL_reads (l : Launch) (G : wG) (oa ga aa ba fa ra wa n r k c o b ta tb tt : Nat) (u : OD) (g ad bd fd rd : wF) (wd : Nat → Int64) (s : wF) (T : Nat → Nat) (y : Nat) (hI : OI n r k c o b ta tb tt u s T 0) (hL : LR n r k c o b ta tb tt g ad bd fd rd wd s) (hy : y < 10000000) : CI (S := OD × wF × wF × wF × (Nat → Int64)) l yL_reads wsL_reads (rm 7 150) G [.ref oa, .ref ga, .ref aa, .ref ba, .ref wa, .int (nI y)] (List.flatten [[(ga, ai G 9 g)], [(aa, ai G 36 ad)], [(ba, ai G 36 bd)], [(wa, al G 1 wd)], wO G oa u]) (fun x u9 => x = nI 1 ∧ LI u9.1 u9.2.1 u9.2.2.1 u9.2.2.2.1 fd rd u9.2.2.2.2) (fun u9 => List.flatten [[(ga, ai G 9 u9.2.1)], [(aa, ai G 36 u9.2.2.1)], [(ba, ai G 36 u9.2.2.2.1)], [(wa, al G 1 u9.2.2.2.2)], wO G oa u9.1]) := by
  have hb := hI.num.2.2.2.1
  rcases (show b = 0 ∨ b = 1 by omega) with rfl | rfl <;> rcases (show y % 2 = 0 ∨ y % 2 = 1 by omega) with hw | hw
  · exact kL_reads0 l G oa ga aa ba wa n r k c o ta tb tt u g ad bd fd rd wd s T y hI hL hy hw
  · exact kL_reads1 l G oa ga aa ba wa n r k c o ta tb tt u g ad bd fd rd wd s T y hI hL hy hw
  · exact kL_reads0B l G oa ga aa ba wa n r k c o ta tb tt u g ad bd fd rd wd s T y hI hL hy hw
  · exact kL_reads1B l G oa ga aa ba wa n r k c o ta tb tt u g ad bd fd rd wd s T y hI hL hy hw
theorem kL_acts_c48 : Cond.constant RL 48 (-1000002) ∈ wsL_acts := by decide +kernel
theorem kL_acts_c84 : Cond.constant RL 84 (10000000) ∈ wsL_acts := by decide +kernel
set_option maxHeartbeats 4000000 in
set_option maxRecDepth 100000 in
/-- kL_acts -/
theorem kL_acts (l : Launch) (G : wG) (oa ga aa ba fa ra wa n r k c o b ta tb tt : Nat) (u : OD) (g ad bd fd rd : wF) (wd : Nat → Int64) (s : wF) (T : Nat → Nat) (zz : Int32) (hI : OI n r k c o b ta tb tt u s T 0) (hL : LR n r k c o b ta tb tt g ad bd fd rd wd s) : CI (S := OD × wF × wF × wF × wF × wF × (Nat → Int64)) l yL_acts wsL_acts (rm 8 187) G [.ref oa, .ref ga, .ref aa, .ref ba, .ref fa, .ref ra, .ref wa, .int zz] (List.flatten [[(ga, ai G 9 g)], [(aa, ai G 36 ad)], [(ba, ai G 36 bd)], [(fa, ai G 20 fd)], [(ra, ai G 36 rd)], [(wa, al G 1 wd)], wO G oa u]) (fun x u9 => x = nI 1 ∧ LI u9.1 u9.2.1 u9.2.2.1 u9.2.2.2.1 u9.2.2.2.2.1 u9.2.2.2.2.2.1 u9.2.2.2.2.2.2) (fun u9 => List.flatten [[(ga, ai G 9 u9.2.1)], [(aa, ai G 36 u9.2.2.1)], [(ba, ai G 36 u9.2.2.2.1)], [(fa, ai G 20 u9.2.2.2.2.1)], [(ra, ai G 36 u9.2.2.2.2.2.1)], [(wa, al G 1 u9.2.2.2.2.2.2)], wO G oa u9.1]) := by
  refine CI.ofZ (own := RL) rfl (by decide) rfl (Nat.le_of_ble_eq_true rfl) ?_
  intro p9 e9 s9 m9 b9 t9 c9 A xE xB xM xO xT xK xP xD Q xQ xS ls hl
  have xL : lv_has ls 15 [(0, .ref oa), (1, .ref ga), (2, .ref aa), (3, .ref ba), (4, .ref fa), (5, .ref ra), (6, .ref wa), (7, .int zz)] := hl
  have hL0 := hL
  obtain ⟨⟨hg0, hg1, hg2, hg3, hg4, hg5⟩, hg6, hA, hB, hF, z, hz, hz2, hZ⟩ := hL
  have hN := hI.num
  have hn := hN.2.1
  have hm := hN.2.2.1
  have hb1 := hN.2.2.2.1
  refine lv_iload xE xB dL_acts_0 (lv_at xL 7 rfl) ?_
  refine lv_iconst (v := nI 5) xE xB dL_acts_2 (by decide) ?_
  refine lv_ishr xE xB dL_acts_3 ?_
  refine lv_ldc (v := (10000000)) xE xB xO (xT _ kL_acts_c84) dL_acts_4 ?_
  refine q_eq (y := nI 10000000) (by decide) ?_
  refine q_SR (As := [.int (zz >>> ((nI 5) &&& 31)), .int (nI 10000000)]) (rest := []) ⟨xE, xB, xM, xO, xT⟩ (kL_low l G (zz >>> ((nI 5) &&& 31)) 10000000 (by first | assumption | omega) (by first | assumption | omega)) (va_cwS 2 xT gL_acts_L_low rfl rfl rfl (by decide +kernel) ⟨Nat.le_of_ble_eq_true rfl, Nat.le_of_ble_eq_true rfl⟩) xK xP [] rfl rfl xL.1 rfl (Nat.le_of_ble_eq_true rfl) dL_acts_6 ⟨Nat.le_refl _, Nat.le_refl _⟩ (fun r_6 h_6 => ?_)
  replace h_6 : ∃ y, y < 10000000 ∧ r_6 = nI y := h_6
  obtain ⟨y, hy, rx_6⟩ := h_6
  subst rx_6
  refine lv_istore (lv' := [(8, .int (nI y)), (0, .ref oa), (1, .ref ga), (2, .ref aa), (3, .ref ba), (4, .ref fa), (5, .ref ra), (6, .ref wa), (7, .int zz)]) xE xB dL_acts_9 xL (by decide) rfl (fun ls xL => ?_)
  refine lv_iload xE xB dL_acts_11 (lv_at xL 8 rfl) ?_
  refine lv_bipush (v := nI 26) xE xB dL_acts_13 (by decide) ?_
  refine q_SR (As := [.int zz, .int (nI 26)]) (rest := []) ⟨xE, xB, xM, xO, xT⟩ (kL_low l G zz 26 (by first | assumption | omega) (by first | assumption | omega)) (va_cwS 2 xT gL_acts_L_low rfl rfl rfl (by decide +kernel) ⟨Nat.le_of_ble_eq_true rfl, Nat.le_of_ble_eq_true rfl⟩) xK xP [] rfl rfl xL.1 rfl (Nat.le_of_ble_eq_true rfl) dL_acts_15 ⟨Nat.le_refl _, Nat.le_refl _⟩ (fun r_15 h_15 => ?_)
  replace h_15 : ∃ y, y < 26 ∧ r_15 = nI y := h_15
  obtain ⟨way, hway, rx_15⟩ := h_15
  subst rx_15
  refine lv_istore (lv' := [(9, .int (nI way)), (8, .int (nI y)), (0, .ref oa), (1, .ref ga), (2, .ref aa), (3, .ref ba), (4, .ref fa), (5, .ref ra), (6, .ref wa), (7, .int zz)]) xE xB dL_acts_18 xL (by decide) rfl (fun ls xL => ?_)
  refine lv_iload xE xB dL_acts_20 (lv_at xL 0 rfl) ?_
  refine q_if_ne (tgt := 39) xE xB dL_acts_22 (by decide) (by omega) (fun c_22 => ?_) (fun c_22 => ?_)
  · skip
    refine lv_iload xE xB dL_acts_39 (lv_at xL 0 rfl) ?_
    refine lv_iconst (v := nI 4) xE xB dL_acts_41 (by decide) ?_
    refine q_icmp_ge (tgt := 57) xE xB dL_acts_42 (by decide) (by omega) (by omega) (fun c_42 => ?_) (fun c_42 => ?_)
    · skip
      refine lv_iload xE xB dL_acts_57 (lv_at xL 0 rfl) ?_
      refine lv_bipush (v := nI 14) xE xB dL_acts_59 (by decide) ?_
      refine q_icmp_ge (tgt := 114) xE xB dL_acts_61 (by decide) (by omega) (by omega) (fun c_61 => ?_) (fun c_61 => ?_)
      · skip
        refine lv_iload xE xB dL_acts_114 (lv_at xL 0 rfl) ?_
        refine lv_bipush (v := nI 20) xE xB dL_acts_116 (by decide) ?_
        refine q_icmp_ge (tgt := 336) xE xB dL_acts_118 (by decide) (by omega) (by omega) (fun c_118 => ?_) (fun c_118 => ?_)
        · skip
          refine lv_iload xE xB dL_acts_336 (lv_at xL 1 rfl) ?_
          refine lv_iconst (v := nI 4) xE xB dL_acts_338 (by decide) ?_
          refine q_idiv xE xB dL_acts_339 (by omega) (by omega) (by omega) ?_
          refine lv_aload_n xE xB dL_acts_340 rfl (lv_at xL 3 rfl) ?_
          refine lv_iconst (v := nI 0) xE xB dL_acts_341 (by decide) ?_
          refine q_ald xE xB xK xP 0 rfl (by omega) (by decide) dL_acts_342 ?_
          refine q_eq (y := nI n) (hg0) ?_
          refine lv_iconst (v := nI 1) xE xB dL_acts_343 (by decide) ?_
          refine q_iadd xE xB dL_acts_344 ?_
          refine q_irem xE xB dL_acts_345 (by omega) (by omega) (by omega) ?_
          obtain ⟨j, hj⟩ : ∃ q : Nat, q < (n + 1) ∧ q = (y / 4) % (n + 1) := ⟨_, Nat.mod_lt _ (by omega), rfl⟩
          refine q_eq (y := nI j) (congrArg nI hj.2.symm) ?_
          refine lv_istore (lv' := [(10, .int (nI j)), (9, .int (nI way)), (8, .int (nI y)), (0, .ref oa), (1, .ref ga), (2, .ref aa), (3, .ref ba), (4, .ref fa), (5, .ref ra), (6, .ref wa), (7, .int zz)]) xE xB dL_acts_346 xL (by decide) rfl (fun ls xL => ?_)
          refine lv_iload xE xB dL_acts_348 (lv_at xL 1 rfl) ?_
          refine lv_bipush (v := nI 24) xE xB dL_acts_350 (by decide) ?_
          refine q_icmp_ge (tgt := 445) xE xB dL_acts_352 (by decide) (by omega) (by omega) (fun c_352 => ?_) (fun c_352 => ?_)
          · skip
            refine lv_aload_n xE xB dL_acts_445 rfl (lv_at xL 4 rfl) ?_
            refine lv_iconst (v := nI 5) xE xB dL_acts_446 (by decide) ?_
            refine q_ald xE xB xK xP 0 rfl (by omega) (by decide) dL_acts_447 ?_
            refine q_eq (y := nI b) (hg5) ?_
            refine lv_iconst (v := nI 1) xE xB dL_acts_448 (by decide) ?_
            refine q_icmp_ne (tgt := 469) xE xB dL_acts_449 (by decide) (by omega) (by omega) (fun c_449 => ?_) (fun c_449 => ?_)
            · skip
              refine lv_aload_n xE xB dL_acts_469 rfl (lv_at xL 4 rfl) ?_
              refine lv_iconst (v := nI 4) xE xB dL_acts_470 (by decide) ?_
              refine q_ald xE xB xK xP 0 rfl (by omega) (by decide) dL_acts_471 ?_
              refine q_eq (y := nI o) (hg4) ?_
              refine lv_istore (lv' := [(11, .int (nI o)), (10, .int (nI j)), (9, .int (nI way)), (8, .int (nI y)), (0, .ref oa), (1, .ref ga), (2, .ref aa), (3, .ref ba), (4, .ref fa), (5, .ref ra), (6, .ref wa), (7, .int zz)]) xE xB dL_acts_472 xL (by decide) rfl (fun ls xL => ?_)
              refine lv_aload_n xE xB dL_acts_474 rfl (lv_at xL 5 rfl) ?_
              refine lv_iconst (v := nI 4) xE xB dL_acts_475 (by decide) ?_
              refine lv_iload xE xB dL_acts_476 (lv_at xL 1 rfl) ?_
              refine q_ast xE xB xK xP xD xS 0 rfl (by omega) (by decide) dL_acts_478 (fun H locs xP xD xS => ?_)
              have xP : va_P G.1 vwCl (List.flatten [[(ga, ai G 9 (upd g 4 (nI j)))], [(aa, ai G 36 ad)], [(ba, ai G 36 bd)], [(fa, ai G 20 fd)], [(ra, ai G 36 rd)], [(wa, al G 1 wd)], wO G oa u]) H := xP
              have xD : va_D A (List.flatten [[(ga, ai G 9 (upd g 4 (nI j)))], [(aa, ai G 36 ad)], [(ba, ai G 36 bd)], [(fa, ai G 20 fd)], [(ra, ai G 36 rd)], [(wa, al G 1 wd)], wO G oa u]) := xD
              refine lv_aload_n xE xB dL_acts_479 rfl (lv_at xL 4 rfl) ?_
              refine lv_iload xE xB dL_acts_480 (lv_at xL 1 rfl) ?_
              refine q_VIL (As := [.int (nI j)]) (rest := []) ⟨xE, xB, xM, xO, xT⟩ (kO_leave l G oa n r k c o b ta tb tt 0 u s T j (by first | assumption | omega) (by omega) (by omega)) (cwV 1 xT gL_acts_X6_leave rfl rfl rfl (by decide +kernel) ⟨Nat.le_of_ble_eq_true rfl, Nat.le_of_ble_eq_true rfl⟩) xK xP xD xS [6] [0, 1, 2, 3, 4, 5] 7 rfl (by decide) (Lc := [wO G oa u]) rfl rfl (fun u_482 => [[(ga, ai G 9 (upd g 4 (nI j)))], [(aa, ai G 36 ad)], [(ba, ai G 36 bd)], [(fa, ai G 20 fd)], [(ra, ai G 36 rd)], [(wa, al G 1 wd)], wO G oa u_482]) (fun u_482 => [wO G oa u_482]) (fun _ => rfl) (fun _ => rfl) (fun _ => rfl) (fun _ => rfl) 0 rfl rfl rfl rfl xL.1 rfl (Nat.le_of_ble_eq_true rfl) dL_acts_482 ⟨Nat.le_refl _, Nat.le_refl _⟩ (fun r_482 u_482 H locs h_482 xP xD xS => ?_)
              replace h_482 : r_482 = nI o ∧ OI n r k c j b ta tb tt u_482 (upd s 4 (nI j)) T 0 := h_482
              obtain ⟨q_482, h_482⟩ := h_482
              subst q_482
              refine lv_iload xE xB dL_acts_485 (lv_at xL 0 rfl) ?_
              refine q_icmp_ne (tgt := 494) xE xB dL_acts_487 (by decide) (by omega) (by omega) (fun c_487 => absurd c_487 (by omega)) (fun c_487 => ?_)
              refine lv_iconst (v := nI 1) xE xB dL_acts_490 (by decide) ?_
              refine lv_goto (tgt := 495) xE xB dL_acts_491 (by decide) ?_
              exact xQ _ _ _ _ _ (_, _, _, _, _, _, _) (by exact ⟨rfl, n, r, k, c, j, b, ta, tb, tt, _, _, h_482, LR_leave hL0⟩) (by decide) xP xD xS dL_acts_495
            · skip
              refine lv_aload_n xE xB dL_acts_452 rfl (lv_at xL 3 rfl) ?_
              refine lv_iload xE xB dL_acts_453 (lv_at xL 0 rfl) ?_
              refine q_VIL (As := [.int (nI j)]) (rest := []) ⟨xE, xB, xM, xO, xT⟩ (kO_leaveB l G oa n r k c o b ta tb tt 0 u s T j (by first | assumption | omega) (by omega) (by omega)) (cwV 1 xT gL_acts_X6_leave rfl rfl rfl (by decide +kernel) ⟨Nat.le_of_ble_eq_true rfl, Nat.le_of_ble_eq_true rfl⟩) xK xP xD xS [6] [0, 1, 2, 3, 4, 5] 7 rfl (by decide) (Lc := [wO G oa u]) rfl rfl (fun u_455 => [[(ga, ai G 9 g)], [(aa, ai G 36 ad)], [(ba, ai G 36 bd)], [(fa, ai G 20 fd)], [(ra, ai G 36 rd)], [(wa, al G 1 wd)], wO G oa u_455]) (fun u_455 => [wO G oa u_455]) (fun _ => rfl) (fun _ => rfl) (fun _ => rfl) (fun _ => rfl) 0 rfl rfl rfl rfl xL.1 rfl (Nat.le_of_ble_eq_true rfl) dL_acts_455 ⟨Nat.le_refl _, Nat.le_refl _⟩ (fun r_455 u_455 H locs h_455 xP xD xS => ?_)
              replace h_455 : r_455 = (-1000002) ∧ OI n r k c o b ta tb tt u_455 s T 0 := h_455
              obtain ⟨q_455, h_455⟩ := h_455
              subst q_455
              refine lv_ldc (v := (-1000002)) xE xB xO (xT _ kL_acts_c48) dL_acts_458 ?_
              refine lv_icmp_ne (tgt := 467) xE xB dL_acts_460 (by decide) (fun c_460 => absurd c_460 (by decide)) (fun c_460 => ?_)
              refine lv_iconst (v := nI 1) xE xB dL_acts_463 (by decide) ?_
              refine lv_goto (tgt := 468) xE xB dL_acts_464 (by decide) ?_
              exact xQ _ _ _ _ _ (_, _, _, _, _, _, _) (by exact ⟨rfl, n, r, k, c, o, b, ta, tb, tt, _, _, h_455, hL0⟩) (by decide) xP xD xS dL_acts_468
          · skip
            refine lv_iload xE xB dL_acts_355 (lv_at xL 2 rfl) ?_
            refine lv_aload_n xE xB dL_acts_357 rfl (lv_at xL 4 rfl) ?_
            refine lv_iconst (v := nI 0) xE xB dL_acts_358 (by decide) ?_
            refine q_ald xE xB xK xP 0 rfl (by omega) (by decide) dL_acts_359 ?_
            refine q_eq (y := nI n) (hg0) ?_
            refine q_irem xE xB dL_acts_360 (by omega) (by omega) (by omega) ?_
            obtain ⟨i, hi⟩ : ∃ q : Nat, q < n ∧ q = y % n := ⟨_, Nat.mod_lt _ (by omega), rfl⟩
            refine q_eq (y := nI i) (congrArg nI hi.2.symm) ?_
            refine lv_istore (lv' := [(11, .int (nI i)), (10, .int (nI j)), (9, .int (nI way)), (8, .int (nI y)), (0, .ref oa), (1, .ref ga), (2, .ref aa), (3, .ref ba), (4, .ref fa), (5, .ref ra), (6, .ref wa), (7, .int zz)]) xE xB dL_acts_361 xL (by decide) rfl (fun ls xL => ?_)
            refine lv_iload xE xB dL_acts_363 (lv_at xL 3 rfl) ?_
            refine lv_bipush (v := nI 20) xE xB dL_acts_365 (by decide) ?_
            refine q_idiv xE xB dL_acts_367 (by omega) (by omega) (by omega) ?_
            refine lv_iconst (v := nI 5) xE xB dL_acts_368 (by decide) ?_
            refine q_irem xE xB dL_acts_369 (by omega) (by omega) (by omega) ?_
            obtain ⟨q, hq⟩ : ∃ q : Nat, q < 5 ∧ q = (y / 20) % 5 := ⟨_, Nat.mod_lt _ (by omega), rfl⟩
            refine q_eq (y := nI q) (congrArg nI hq.2.symm) ?_
            refine lv_istore (lv' := [(12, .int (nI q)), (11, .int (nI i)), (10, .int (nI j)), (9, .int (nI way)), (8, .int (nI y)), (0, .ref oa), (1, .ref ga), (2, .ref aa), (3, .ref ba), (4, .ref fa), (5, .ref ra), (6, .ref wa), (7, .int zz)]) xE xB dL_acts_370 xL (by decide) rfl (fun ls xL => ?_)
            refine lv_aload_n xE xB dL_acts_372 rfl (lv_at xL 6 rfl) ?_
            refine lv_iconst (v := nI 5) xE xB dL_acts_373 (by decide) ?_
            refine q_ald xE xB xK xP 0 rfl (by omega) (by decide) dL_acts_374 ?_
            refine q_eq (y := nI b) (hg5) ?_
            refine lv_iconst (v := nI 1) xE xB dL_acts_375 (by decide) ?_
            refine q_icmp_ne (tgt := 400) xE xB dL_acts_376 (by decide) (by omega) (by omega) (fun c_376 => ?_) (fun c_376 => ?_)
            · skip
              refine lv_aload xE xB dL_acts_400 (lv_at xL 9 rfl) ?_
              refine lv_iconst (v := nI 5) xE xB dL_acts_402 (by decide) ?_
              refine lv_iload xE xB dL_acts_403 (lv_at xL 1 rfl) ?_
              refine q_imul xE xB dL_acts_405 ?_
              refine lv_iload xE xB dL_acts_406 (lv_at xL 2 rfl) ?_
              refine q_iadd xE xB dL_acts_408 ?_
              refine q_ald xE xB xK xP 3 rfl (by omega) (by decide) dL_acts_409 ?_
              refine lv_istore (lv' := [(13, .int (fd ((5 * i) + j))), (12, .int (nI q)), (11, .int (nI i)), (10, .int (nI j)), (9, .int (nI way)), (8, .int (nI y)), (0, .ref oa), (1, .ref ga), (2, .ref aa), (3, .ref ba), (4, .ref fa), (5, .ref ra), (6, .ref wa), (7, .int zz)]) xE xB dL_acts_410 xL (by decide) rfl (fun ls xL => ?_)
              refine lv_aload xE xB dL_acts_412 (lv_at xL 10 rfl) ?_
              refine lv_iconst (v := nI 5) xE xB dL_acts_414 (by decide) ?_
              refine lv_iload xE xB dL_acts_415 (lv_at xL 2 rfl) ?_
              refine q_imul xE xB dL_acts_417 ?_
              refine lv_iload xE xB dL_acts_418 (lv_at xL 3 rfl) ?_
              refine q_iadd xE xB dL_acts_420 ?_
              refine lv_iload xE xB dL_acts_421 (lv_at xL 1 rfl) ?_
              refine q_ast xE xB xK xP xD xS 3 rfl (by omega) (by decide) dL_acts_423 (fun H locs xP xD xS => ?_)
              have xP : va_P G.1 vwCl (List.flatten [[(ga, ai G 9 g)], [(aa, ai G 36 ad)], [(ba, ai G 36 bd)], [(fa, ai G 20 (upd fd ((5 * i) + j) (nI q)))], [(ra, ai G 36 rd)], [(wa, al G 1 wd)], wO G oa u]) H := xP
              have xD : va_D A (List.flatten [[(ga, ai G 9 g)], [(aa, ai G 36 ad)], [(ba, ai G 36 bd)], [(fa, ai G 20 (upd fd ((5 * i) + j) (nI q)))], [(ra, ai G 36 rd)], [(wa, al G 1 wd)], wO G oa u]) := xD
              refine lv_aload_n xE xB dL_acts_424 rfl (lv_at xL 6 rfl) ?_
              refine lv_iload xE xB dL_acts_425 (lv_at xL 2 rfl) ?_
              refine lv_iload xE xB dL_acts_427 (lv_at xL 3 rfl) ?_
              refine lv_iload xE xB dL_acts_429 (lv_at xL 1 rfl) ?_
              refine q_VIL (As := [.int (nI i), .int (nI j), .int (nI q)]) (rest := []) ⟨xE, xB, xM, xO, xT⟩ (kO_fault l G oa n r k c o b ta tb tt 0 u s T i j q (by first | assumption | omega) (by omega) (by omega) (by omega) (by omega)) (cwV 3 xT gL_acts_X6_fault rfl rfl rfl (by decide +kernel) ⟨Nat.le_of_ble_eq_true rfl, Nat.le_of_ble_eq_true rfl⟩) xK xP xD xS [6] [0, 1, 2, 3, 4, 5] 7 rfl (by decide) (Lc := [wO G oa u]) rfl rfl (fun u_431 => [[(ga, ai G 9 g)], [(aa, ai G 36 ad)], [(ba, ai G 36 bd)], [(fa, ai G 20 (upd fd ((5 * i) + j) (nI q)))], [(ra, ai G 36 rd)], [(wa, al G 1 wd)], wO G oa u_431]) (fun u_431 => [wO G oa u_431]) (fun _ => rfl) (fun _ => rfl) (fun _ => rfl) (fun _ => rfl) 0 rfl rfl rfl rfl xL.1 rfl (Nat.le_of_ble_eq_true rfl) dL_acts_431 ⟨Nat.le_refl _, Nat.le_refl _⟩ (fun r_431 u_431 H locs h_431 xP xD xS => ?_)
              replace h_431 : r_431 = s (153 + 5 * i + j) ∧ OI n r k c o b ta tb tt u_431 (upd s (153 + 5 * i + j) (nI q)) T 0 := h_431
              obtain ⟨q_431, h_431⟩ := h_431
              subst q_431
              refine lv_iload xE xB dL_acts_434 (lv_at xL 0 rfl) ?_
              refine lv_icmp_ne (tgt := 443) xE xB dL_acts_436 (by decide) (fun c_436 => absurd c_436 (by exact fun q => q ((congrArg s (by omega)).trans (hF _ (by omega)).symm))) (fun c_436 => ?_)
              refine lv_iconst (v := nI 1) xE xB dL_acts_439 (by decide) ?_
              refine lv_goto (tgt := 444) xE xB dL_acts_440 (by decide) ?_
              exact xQ _ _ _ _ _ (_, _, _, _, _, _, _) (by exact ⟨rfl, n, r, k, c, o, b, ta, tb, tt, _, _, h_431, LR_fault hL0 (by omega) (by omega)⟩) (by decide) xP xD xS dL_acts_444
            · skip
              refine lv_aload_n xE xB dL_acts_379 rfl (lv_at xL 5 rfl) ?_
              refine lv_iload xE xB dL_acts_380 (lv_at xL 1 rfl) ?_
              refine lv_iload xE xB dL_acts_382 (lv_at xL 2 rfl) ?_
              refine lv_iload xE xB dL_acts_384 (lv_at xL 0 rfl) ?_
              refine q_VIL (As := [.int (nI i), .int (nI j), .int (nI q)]) (rest := []) ⟨xE, xB, xM, xO, xT⟩ (kO_faultB l G oa n r k c o b ta tb tt 0 u s T i j q (by first | assumption | omega) (by omega) (by omega) (by omega) (by omega)) (cwV 3 xT gL_acts_X6_fault rfl rfl rfl (by decide +kernel) ⟨Nat.le_of_ble_eq_true rfl, Nat.le_of_ble_eq_true rfl⟩) xK xP xD xS [6] [0, 1, 2, 3, 4, 5] 7 rfl (by decide) (Lc := [wO G oa u]) rfl rfl (fun u_386 => [[(ga, ai G 9 g)], [(aa, ai G 36 ad)], [(ba, ai G 36 bd)], [(fa, ai G 20 fd)], [(ra, ai G 36 rd)], [(wa, al G 1 wd)], wO G oa u_386]) (fun u_386 => [wO G oa u_386]) (fun _ => rfl) (fun _ => rfl) (fun _ => rfl) (fun _ => rfl) 0 rfl rfl rfl rfl xL.1 rfl (Nat.le_of_ble_eq_true rfl) dL_acts_386 ⟨Nat.le_refl _, Nat.le_refl _⟩ (fun r_386 u_386 H locs h_386 xP xD xS => ?_)
              replace h_386 : r_386 = (-1000002) ∧ OI n r k c o b ta tb tt u_386 s T 0 := h_386
              obtain ⟨q_386, h_386⟩ := h_386
              subst q_386
              refine lv_ldc (v := (-1000002)) xE xB xO (xT _ kL_acts_c48) dL_acts_389 ?_
              refine lv_icmp_ne (tgt := 398) xE xB dL_acts_391 (by decide) (fun c_391 => absurd c_391 (by decide)) (fun c_391 => ?_)
              refine lv_iconst (v := nI 1) xE xB dL_acts_394 (by decide) ?_
              refine lv_goto (tgt := 399) xE xB dL_acts_395 (by decide) ?_
              exact xQ _ _ _ _ _ (_, _, _, _, _, _, _) (by exact ⟨rfl, n, r, k, c, o, b, ta, tb, tt, _, _, h_386, hL0⟩) (by decide) xP xD xS dL_acts_399
        · skip
          refine lv_iload xE xB dL_acts_121 (lv_at xL 1 rfl) ?_
          refine lv_iconst (v := nI 2) xE xB dL_acts_123 (by decide) ?_
          refine q_irem xE xB dL_acts_124 (by omega) (by omega) (by omega) ?_
          rcases (show y % 2 = 0 ∨ y % 2 = 1 by omega) with ew | ew
          · skip
            refine q_eq (y := nI 0) (congrArg nI ew) ?_
            refine lv_istore (lv' := [(10, .int (nI 0)), (9, .int (nI way)), (8, .int (nI y)), (0, .ref oa), (1, .ref ga), (2, .ref aa), (3, .ref ba), (4, .ref fa), (5, .ref ra), (6, .ref wa), (7, .int zz)]) xE xB dL_acts_125 xL (by decide) rfl (fun ls xL => ?_)
            refine lv_iload xE xB dL_acts_127 (lv_at xL 2 rfl) ?_
            refine lv_iconst (v := nI 2) xE xB dL_acts_129 (by decide) ?_
            refine q_idiv xE xB dL_acts_130 (by omega) (by omega) (by omega) ?_
            refine lv_iload xE xB dL_acts_131 (lv_at xL 0 rfl) ?_
            refine lv_if_ne (tgt := 142) xE xB dL_acts_133 (by decide) (fun h9 => absurd (by decide) h9) (fun _ => ?_)
            refine lv_aload_n xE xB dL_acts_136 rfl (lv_at xL 4 rfl) ?_
            refine lv_iconst (v := nI 1) xE xB dL_acts_137 (by decide) ?_
            refine q_ald xE xB xK xP 0 rfl (by omega) (by decide) dL_acts_138 ?_
            refine q_eq (y := nI r) (hg1) ?_
            refine lv_goto (tgt := 145) xE xB dL_acts_139 (by decide) ?_
            refine q_irem xE xB dL_acts_145 (by omega) (by omega) (by omega) ?_
            obtain ⟨i, hi⟩ : ∃ q : Nat, q < r ∧ q = (y / 2) % r := ⟨_, Nat.mod_lt _ (by omega), rfl⟩
            refine q_eq (y := nI i) (congrArg nI hi.2.symm) ?_
            refine lv_istore (lv' := [(11, .int (nI i)), (10, .int (nI 0)), (9, .int (nI way)), (8, .int (nI y)), (0, .ref oa), (1, .ref ga), (2, .ref aa), (3, .ref ba), (4, .ref fa), (5, .ref ra), (6, .ref wa), (7, .int zz)]) xE xB dL_acts_146 xL (by decide) rfl (fun ls xL => ?_)
            refine lv_iload xE xB dL_acts_148 (lv_at xL 3 rfl) ?_
            refine lv_bipush (v := nI 12) xE xB dL_acts_150 (by decide) ?_
            refine q_idiv xE xB dL_acts_152 (by omega) (by omega) (by omega) ?_
            refine lv_iload xE xB dL_acts_153 (lv_at xL 1 rfl) ?_
            refine lv_if_ne (tgt := 164) xE xB dL_acts_155 (by decide) (fun h9 => absurd (by decide) h9) (fun _ => ?_)
            refine lv_aload_n xE xB dL_acts_158 rfl (lv_at xL 5 rfl) ?_
            refine lv_iconst (v := nI 2) xE xB dL_acts_159 (by decide) ?_
            refine q_ald xE xB xK xP 0 rfl (by omega) (by decide) dL_acts_160 ?_
            refine q_eq (y := nI k) (hg2) ?_
            refine lv_goto (tgt := 167) xE xB dL_acts_161 (by decide) ?_
            refine q_irem xE xB dL_acts_167 (by omega) (by omega) (by omega) ?_
            obtain ⟨j, hj⟩ : ∃ q : Nat, q < k ∧ q = (y / 12) % k := ⟨_, Nat.mod_lt _ (by omega), rfl⟩
            refine q_eq (y := nI j) (congrArg nI hj.2.symm) ?_
            refine lv_istore (lv' := [(12, .int (nI j)), (11, .int (nI i)), (10, .int (nI 0)), (9, .int (nI way)), (8, .int (nI y)), (0, .ref oa), (1, .ref ga), (2, .ref aa), (3, .ref ba), (4, .ref fa), (5, .ref ra), (6, .ref wa), (7, .int zz)]) xE xB dL_acts_168 xL (by decide) rfl (fun ls xL => ?_)
            refine lv_iload xE xB dL_acts_170 (lv_at xL 4 rfl) ?_
            refine lv_bipush (v := nI 72) xE xB dL_acts_172 (by decide) ?_
            refine q_idiv xE xB dL_acts_174 (by omega) (by omega) (by omega) ?_
            refine lv_sipush (v := nI 199) xE xB dL_acts_175 (by decide) ?_
            refine q_irem xE xB dL_acts_178 (by omega) (by omega) (by omega) ?_
            refine lv_bipush (v := nI 99) xE xB dL_acts_179 (by decide) ?_
            refine lv_isub xE xB dL_acts_181 ?_
            obtain ⟨v0, hv0, hve⟩ : ∃ v : Int32, bV v ∧ v = (nI ((y / 72) % 199)) - (nI 99) := ⟨_, bV_sub (Nat.mod_lt _ (by decide)), rfl⟩
            refine q_eq (y := v0) hve.symm ?_
            refine lv_istore (lv' := [(13, .int v0), (12, .int (nI j)), (11, .int (nI i)), (10, .int (nI 0)), (9, .int (nI way)), (8, .int (nI y)), (0, .ref oa), (1, .ref ga), (2, .ref aa), (3, .ref ba), (4, .ref fa), (5, .ref ra), (6, .ref wa), (7, .int zz)]) xE xB dL_acts_182 xL (by decide) rfl (fun ls xL => ?_)
            refine lv_aload_n xE xB dL_acts_184 rfl (lv_at xL 7 rfl) ?_
            refine lv_iconst (v := nI 5) xE xB dL_acts_185 (by decide) ?_
            refine q_ald xE xB xK xP 0 rfl (by omega) (by decide) dL_acts_186 ?_
            refine q_eq (y := nI b) (hg5) ?_
            refine lv_iconst (v := nI 1) xE xB dL_acts_187 (by decide) ?_
            refine q_icmp_ne (tgt := 230) xE xB dL_acts_188 (by decide) (by omega) (by omega) (fun c_188 => ?_) (fun c_188 => ?_)
            · skip
              refine lv_iload xE xB dL_acts_230 (lv_at xL 3 rfl) ?_
              refine lv_if_ne (tgt := 248) xE xB dL_acts_232 (by decide) (fun h9 => absurd (by decide) h9) (fun _ => ?_)
              refine lv_aload_n xE xB dL_acts_235 rfl (lv_at xL 8 rfl) ?_
              refine lv_bipush (v := nI 6) xE xB dL_acts_236 (by decide) ?_
              refine lv_iload xE xB dL_acts_238 (lv_at xL 2 rfl) ?_
              refine q_imul xE xB dL_acts_240 ?_
              refine lv_iload xE xB dL_acts_241 (lv_at xL 1 rfl) ?_
              refine q_iadd xE xB dL_acts_243 ?_
              refine q_ald xE xB xK xP 1 rfl (by omega) (by decide) dL_acts_244 ?_
              refine lv_goto (tgt := 258) xE xB dL_acts_245 (by decide) ?_
              refine lv_istore (lv' := [(14, .int (ad ((6 * i) + j))), (13, .int v0), (12, .int (nI j)), (11, .int (nI i)), (10, .int (nI 0)), (9, .int (nI way)), (8, .int (nI y)), (0, .ref oa), (1, .ref ga), (2, .ref aa), (3, .ref ba), (4, .ref fa), (5, .ref ra), (6, .ref wa), (7, .int zz)]) xE xB dL_acts_258 xL (by decide) rfl (fun ls xL => ?_)
              refine lv_aload xE xB dL_acts_260 (lv_at xL 13 rfl) ?_
              refine lv_iconst (v := nI 0) xE xB dL_acts_262 (by decide) ?_
              refine lv_lconst (v := lN 0) xE xB dL_acts_263 (by decide) ?_
              refine q_last xE xB xK xP xD xS 5 rfl (by omega) (by decide) dL_acts_264 (fun H locs xP xD xS => ?_)
              have xP : va_P G.1 vwCl (List.flatten [[(ga, ai G 9 g)], [(aa, ai G 36 ad)], [(ba, ai G 36 bd)], [(fa, ai G 20 fd)], [(ra, ai G 36 rd)], [(wa, al G 1 (vp_updL wd 0 (lN 0)))], wO G oa u]) H := xP
              have xD : va_D A (List.flatten [[(ga, ai G 9 g)], [(aa, ai G 36 ad)], [(ba, ai G 36 bd)], [(fa, ai G 20 fd)], [(ra, ai G 36 rd)], [(wa, al G 1 (vp_updL wd 0 (lN 0)))], wO G oa u]) := xD
              refine lv_iload xE xB dL_acts_265 (lv_at xL 4 rfl) ?_
              refine lv_if_ne (tgt := 303) xE xB dL_acts_267 (by decide) (fun h9 => absurd (by decide) h9) (fun _ => ?_)
              refine lv_aload_n xE xB dL_acts_270 rfl (lv_at xL 9 rfl) ?_
              refine lv_bipush (v := nI 6) xE xB dL_acts_271 (by decide) ?_
              refine lv_iload xE xB dL_acts_273 (lv_at xL 3 rfl) ?_
              refine q_imul xE xB dL_acts_275 ?_
              refine lv_iload xE xB dL_acts_276 (lv_at xL 2 rfl) ?_
              refine q_iadd xE xB dL_acts_278 ?_
              refine lv_iload xE xB dL_acts_279 (lv_at xL 1 rfl) ?_
              refine q_ast xE xB xK xP xD xS 1 rfl (by omega) (by decide) dL_acts_281 (fun H locs xP xD xS => ?_)
              have xP : va_P G.1 vwCl (List.flatten [[(ga, ai G 9 g)], [(aa, ai G 36 (upd ad ((6 * i) + j) v0))], [(ba, ai G 36 bd)], [(fa, ai G 20 fd)], [(ra, ai G 36 rd)], [(wa, al G 1 (vp_updL wd 0 (lN 0)))], wO G oa u]) H := xP
              have xD : va_D A (List.flatten [[(ga, ai G 9 g)], [(aa, ai G 36 (upd ad ((6 * i) + j) v0))], [(ba, ai G 36 bd)], [(fa, ai G 20 fd)], [(ra, ai G 36 rd)], [(wa, al G 1 (vp_updL wd 0 (lN 0)))], wO G oa u]) := xD
              refine lv_aload_n xE xB dL_acts_282 rfl (lv_at xL 7 rfl) ?_
              refine lv_iload xE xB dL_acts_283 (lv_at xL 3 rfl) ?_
              refine lv_iload xE xB dL_acts_285 (lv_at xL 2 rfl) ?_
              refine lv_iload xE xB dL_acts_287 (lv_at xL 1 rfl) ?_
              refine q_VIL (As := [.int (nI i), .int (nI j), .int v0]) (rest := []) ⟨xE, xB, xM, xO, xT⟩ (kO_left l G oa n r k c o b ta tb tt 0 u s T i j v0 (by first | assumption | omega) (by omega) (by omega) (by first | assumption | omega) (by omega)) (cwV 3 xT gL_acts_X6_left rfl rfl rfl (by decide +kernel) ⟨Nat.le_of_ble_eq_true rfl, Nat.le_of_ble_eq_true rfl⟩) xK xP xD xS [6] [0, 1, 2, 3, 4, 5] 7 rfl (by decide) (Lc := [wO G oa u]) rfl rfl (fun u_289 => [[(ga, ai G 9 g)], [(aa, ai G 36 (upd ad ((6 * i) + j) v0))], [(ba, ai G 36 bd)], [(fa, ai G 20 fd)], [(ra, ai G 36 rd)], [(wa, al G 1 (vp_updL wd 0 (lN 0)))], wO G oa u_289]) (fun u_289 => [wO G oa u_289]) (fun _ => rfl) (fun _ => rfl) (fun _ => rfl) (fun _ => rfl) 0 rfl rfl rfl rfl xL.1 rfl (Nat.le_of_ble_eq_true rfl) dL_acts_289 ⟨Nat.le_refl _, Nat.le_refl _⟩ (fun r_289 u_289 H locs h_289 xP xD xS => ?_)
              replace h_289 : r_289 = s (9 + 36 * 0 + 6 * i + j) ∧ OI n r k c o b ta tb tt u_289 (clr 117 36 (upd s (9 + 36 * 0 + 6 * i + j) v0)) T 0 := h_289
              obtain ⟨q_289, h_289⟩ := h_289
              subst q_289
              refine lv_iload xE xB dL_acts_292 (lv_at xL 0 rfl) ?_
              refine lv_icmp_ne (tgt := 301) xE xB dL_acts_294 (by decide) (fun c_294 => absurd c_294 (by exact fun q => q ((congrArg s (by omega)).trans (hA _ (by omega)).symm))) (fun c_294 => ?_)
              refine lv_iconst (v := nI 1) xE xB dL_acts_297 (by decide) ?_
              refine lv_goto (tgt := 302) xE xB dL_acts_298 (by decide) ?_
              exact xQ _ _ _ _ _ (_, _, _, _, _, _, _) (by exact ⟨rfl, n, r, k, c, o, b, ta, tb, tt, _, _, h_289, LR_set (v := 0) hL0 (by omega) (by decide) (by omega) (by omega) (if_pos rfl).symm (if_pos rfl).symm⟩) (by decide) xP xD xS dL_acts_302
            · skip
              refine lv_iload xE xB dL_acts_191 (lv_at xL 3 rfl) ?_
              refine lv_if_ne (tgt := 209) xE xB dL_acts_193 (by decide) (fun h9 => absurd (by decide) h9) (fun _ => ?_)
              refine lv_aload_n xE xB dL_acts_196 rfl (lv_at xL 6 rfl) ?_
              refine lv_iload xE xB dL_acts_197 (lv_at xL 2 rfl) ?_
              refine lv_iload xE xB dL_acts_199 (lv_at xL 1 rfl) ?_
              refine lv_iload xE xB dL_acts_201 (lv_at xL 0 rfl) ?_
              refine q_VIL (As := [.int (nI i), .int (nI j), .int v0]) (rest := []) ⟨xE, xB, xM, xO, xT⟩ (kO_leftB l G oa n r k c o b ta tb tt 0 u s T i j v0 (by first | assumption | omega) (by omega) (by omega) (by first | assumption | omega) (by omega)) (cwV 3 xT gL_acts_X6_left rfl rfl rfl (by decide +kernel) ⟨Nat.le_of_ble_eq_true rfl, Nat.le_of_ble_eq_true rfl⟩) xK xP xD xS [6] [0, 1, 2, 3, 4, 5] 7 rfl (by decide) (Lc := [wO G oa u]) rfl rfl (fun u_203 => [[(ga, ai G 9 g)], [(aa, ai G 36 ad)], [(ba, ai G 36 bd)], [(fa, ai G 20 fd)], [(ra, ai G 36 rd)], [(wa, al G 1 wd)], wO G oa u_203]) (fun u_203 => [wO G oa u_203]) (fun _ => rfl) (fun _ => rfl) (fun _ => rfl) (fun _ => rfl) 0 rfl rfl rfl rfl xL.1 rfl (Nat.le_of_ble_eq_true rfl) dL_acts_203 ⟨Nat.le_refl _, Nat.le_refl _⟩ (fun r_203 u_203 H locs h_203 xP xD xS => ?_)
              replace h_203 : r_203 = (-1000002) ∧ OI n r k c o b ta tb tt u_203 s T 0 := h_203
              obtain ⟨q_203, h_203⟩ := h_203
              subst q_203
              refine lv_goto (tgt := 219) xE xB dL_acts_206 (by decide) ?_
              refine lv_ldc (v := (-1000002)) xE xB xO (xT _ kL_acts_c48) dL_acts_219 ?_
              refine lv_icmp_ne (tgt := 228) xE xB dL_acts_221 (by decide) (fun c_221 => absurd c_221 (by decide)) (fun c_221 => ?_)
              refine lv_iconst (v := nI 1) xE xB dL_acts_224 (by decide) ?_
              refine lv_goto (tgt := 229) xE xB dL_acts_225 (by decide) ?_
              exact xQ _ _ _ _ _ (_, _, _, _, _, _, _) (by exact ⟨rfl, n, r, k, c, o, b, ta, tb, tt, _, _, h_203, hL0⟩) (by decide) xP xD xS dL_acts_229
          · skip
            refine q_eq (y := nI 1) (congrArg nI ew) ?_
            refine lv_istore (lv' := [(10, .int (nI 1)), (9, .int (nI way)), (8, .int (nI y)), (0, .ref oa), (1, .ref ga), (2, .ref aa), (3, .ref ba), (4, .ref fa), (5, .ref ra), (6, .ref wa), (7, .int zz)]) xE xB dL_acts_125 xL (by decide) rfl (fun ls xL => ?_)
            refine lv_iload xE xB dL_acts_127 (lv_at xL 2 rfl) ?_
            refine lv_iconst (v := nI 2) xE xB dL_acts_129 (by decide) ?_
            refine q_idiv xE xB dL_acts_130 (by omega) (by omega) (by omega) ?_
            refine lv_iload xE xB dL_acts_131 (lv_at xL 0 rfl) ?_
            refine lv_if_ne (tgt := 142) xE xB dL_acts_133 (by decide) (fun _ => ?_) (fun h9 => absurd h9 (by decide))
            refine lv_aload_n xE xB dL_acts_142 rfl (lv_at xL 4 rfl) ?_
            refine lv_iconst (v := nI 2) xE xB dL_acts_143 (by decide) ?_
            refine q_ald xE xB xK xP 0 rfl (by omega) (by decide) dL_acts_144 ?_
            refine q_eq (y := nI k) (hg2) ?_
            refine q_irem xE xB dL_acts_145 (by omega) (by omega) (by omega) ?_
            obtain ⟨i, hi⟩ : ∃ q : Nat, q < k ∧ q = (y / 2) % k := ⟨_, Nat.mod_lt _ (by omega), rfl⟩
            refine q_eq (y := nI i) (congrArg nI hi.2.symm) ?_
            refine lv_istore (lv' := [(11, .int (nI i)), (10, .int (nI 1)), (9, .int (nI way)), (8, .int (nI y)), (0, .ref oa), (1, .ref ga), (2, .ref aa), (3, .ref ba), (4, .ref fa), (5, .ref ra), (6, .ref wa), (7, .int zz)]) xE xB dL_acts_146 xL (by decide) rfl (fun ls xL => ?_)
            refine lv_iload xE xB dL_acts_148 (lv_at xL 3 rfl) ?_
            refine lv_bipush (v := nI 12) xE xB dL_acts_150 (by decide) ?_
            refine q_idiv xE xB dL_acts_152 (by omega) (by omega) (by omega) ?_
            refine lv_iload xE xB dL_acts_153 (lv_at xL 1 rfl) ?_
            refine lv_if_ne (tgt := 164) xE xB dL_acts_155 (by decide) (fun _ => ?_) (fun h9 => absurd h9 (by decide))
            refine lv_aload_n xE xB dL_acts_164 rfl (lv_at xL 5 rfl) ?_
            refine lv_iconst (v := nI 3) xE xB dL_acts_165 (by decide) ?_
            refine q_ald xE xB xK xP 0 rfl (by omega) (by decide) dL_acts_166 ?_
            refine q_eq (y := nI c) (hg3) ?_
            refine q_irem xE xB dL_acts_167 (by omega) (by omega) (by omega) ?_
            obtain ⟨j, hj⟩ : ∃ q : Nat, q < c ∧ q = (y / 12) % c := ⟨_, Nat.mod_lt _ (by omega), rfl⟩
            refine q_eq (y := nI j) (congrArg nI hj.2.symm) ?_
            refine lv_istore (lv' := [(12, .int (nI j)), (11, .int (nI i)), (10, .int (nI 1)), (9, .int (nI way)), (8, .int (nI y)), (0, .ref oa), (1, .ref ga), (2, .ref aa), (3, .ref ba), (4, .ref fa), (5, .ref ra), (6, .ref wa), (7, .int zz)]) xE xB dL_acts_168 xL (by decide) rfl (fun ls xL => ?_)
            refine lv_iload xE xB dL_acts_170 (lv_at xL 4 rfl) ?_
            refine lv_bipush (v := nI 72) xE xB dL_acts_172 (by decide) ?_
            refine q_idiv xE xB dL_acts_174 (by omega) (by omega) (by omega) ?_
            refine lv_sipush (v := nI 199) xE xB dL_acts_175 (by decide) ?_
            refine q_irem xE xB dL_acts_178 (by omega) (by omega) (by omega) ?_
            refine lv_bipush (v := nI 99) xE xB dL_acts_179 (by decide) ?_
            refine lv_isub xE xB dL_acts_181 ?_
            obtain ⟨v0, hv0, hve⟩ : ∃ v : Int32, bV v ∧ v = (nI ((y / 72) % 199)) - (nI 99) := ⟨_, bV_sub (Nat.mod_lt _ (by decide)), rfl⟩
            refine q_eq (y := v0) hve.symm ?_
            refine lv_istore (lv' := [(13, .int v0), (12, .int (nI j)), (11, .int (nI i)), (10, .int (nI 1)), (9, .int (nI way)), (8, .int (nI y)), (0, .ref oa), (1, .ref ga), (2, .ref aa), (3, .ref ba), (4, .ref fa), (5, .ref ra), (6, .ref wa), (7, .int zz)]) xE xB dL_acts_182 xL (by decide) rfl (fun ls xL => ?_)
            refine lv_aload_n xE xB dL_acts_184 rfl (lv_at xL 7 rfl) ?_
            refine lv_iconst (v := nI 5) xE xB dL_acts_185 (by decide) ?_
            refine q_ald xE xB xK xP 0 rfl (by omega) (by decide) dL_acts_186 ?_
            refine q_eq (y := nI b) (hg5) ?_
            refine lv_iconst (v := nI 1) xE xB dL_acts_187 (by decide) ?_
            refine q_icmp_ne (tgt := 230) xE xB dL_acts_188 (by decide) (by omega) (by omega) (fun c_188 => ?_) (fun c_188 => ?_)
            · skip
              refine lv_iload xE xB dL_acts_230 (lv_at xL 3 rfl) ?_
              refine lv_if_ne (tgt := 248) xE xB dL_acts_232 (by decide) (fun _ => ?_) (fun h9 => absurd h9 (by decide))
              refine lv_aload_n xE xB dL_acts_248 rfl (lv_at xL 9 rfl) ?_
              refine lv_bipush (v := nI 6) xE xB dL_acts_249 (by decide) ?_
              refine lv_iload xE xB dL_acts_251 (lv_at xL 2 rfl) ?_
              refine q_imul xE xB dL_acts_253 ?_
              refine lv_iload xE xB dL_acts_254 (lv_at xL 1 rfl) ?_
              refine q_iadd xE xB dL_acts_256 ?_
              refine q_ald xE xB xK xP 2 rfl (by omega) (by decide) dL_acts_257 ?_
              refine lv_istore (lv' := [(14, .int (bd ((6 * i) + j))), (13, .int v0), (12, .int (nI j)), (11, .int (nI i)), (10, .int (nI 1)), (9, .int (nI way)), (8, .int (nI y)), (0, .ref oa), (1, .ref ga), (2, .ref aa), (3, .ref ba), (4, .ref fa), (5, .ref ra), (6, .ref wa), (7, .int zz)]) xE xB dL_acts_258 xL (by decide) rfl (fun ls xL => ?_)
              refine lv_aload xE xB dL_acts_260 (lv_at xL 13 rfl) ?_
              refine lv_iconst (v := nI 0) xE xB dL_acts_262 (by decide) ?_
              refine lv_lconst (v := lN 0) xE xB dL_acts_263 (by decide) ?_
              refine q_last xE xB xK xP xD xS 5 rfl (by omega) (by decide) dL_acts_264 (fun H locs xP xD xS => ?_)
              have xP : va_P G.1 vwCl (List.flatten [[(ga, ai G 9 g)], [(aa, ai G 36 ad)], [(ba, ai G 36 bd)], [(fa, ai G 20 fd)], [(ra, ai G 36 rd)], [(wa, al G 1 (vp_updL wd 0 (lN 0)))], wO G oa u]) H := xP
              have xD : va_D A (List.flatten [[(ga, ai G 9 g)], [(aa, ai G 36 ad)], [(ba, ai G 36 bd)], [(fa, ai G 20 fd)], [(ra, ai G 36 rd)], [(wa, al G 1 (vp_updL wd 0 (lN 0)))], wO G oa u]) := xD
              refine lv_iload xE xB dL_acts_265 (lv_at xL 4 rfl) ?_
              refine lv_if_ne (tgt := 303) xE xB dL_acts_267 (by decide) (fun _ => ?_) (fun h9 => absurd h9 (by decide))
              refine lv_aload_n xE xB dL_acts_303 rfl (lv_at xL 10 rfl) ?_
              refine lv_bipush (v := nI 6) xE xB dL_acts_304 (by decide) ?_
              refine lv_iload xE xB dL_acts_306 (lv_at xL 3 rfl) ?_
              refine q_imul xE xB dL_acts_308 ?_
              refine lv_iload xE xB dL_acts_309 (lv_at xL 2 rfl) ?_
              refine q_iadd xE xB dL_acts_311 ?_
              refine lv_iload xE xB dL_acts_312 (lv_at xL 1 rfl) ?_
              refine q_ast xE xB xK xP xD xS 2 rfl (by omega) (by decide) dL_acts_314 (fun H locs xP xD xS => ?_)
              have xP : va_P G.1 vwCl (List.flatten [[(ga, ai G 9 g)], [(aa, ai G 36 ad)], [(ba, ai G 36 (upd bd ((6 * i) + j) v0))], [(fa, ai G 20 fd)], [(ra, ai G 36 rd)], [(wa, al G 1 (vp_updL wd 0 (lN 0)))], wO G oa u]) H := xP
              have xD : va_D A (List.flatten [[(ga, ai G 9 g)], [(aa, ai G 36 ad)], [(ba, ai G 36 (upd bd ((6 * i) + j) v0))], [(fa, ai G 20 fd)], [(ra, ai G 36 rd)], [(wa, al G 1 (vp_updL wd 0 (lN 0)))], wO G oa u]) := xD
              refine lv_aload_n xE xB dL_acts_315 rfl (lv_at xL 7 rfl) ?_
              refine lv_iload xE xB dL_acts_316 (lv_at xL 3 rfl) ?_
              refine lv_iload xE xB dL_acts_318 (lv_at xL 2 rfl) ?_
              refine lv_iload xE xB dL_acts_320 (lv_at xL 1 rfl) ?_
              refine q_VIL (As := [.int (nI i), .int (nI j), .int v0]) (rest := []) ⟨xE, xB, xM, xO, xT⟩ (kO_right l G oa n r k c o b ta tb tt 0 u s T i j v0 (by first | assumption | omega) (by omega) (by omega) (by first | assumption | omega) (by omega)) (cwV 3 xT gL_acts_X6_right rfl rfl rfl (by decide +kernel) ⟨Nat.le_of_ble_eq_true rfl, Nat.le_of_ble_eq_true rfl⟩) xK xP xD xS [6] [0, 1, 2, 3, 4, 5] 7 rfl (by decide) (Lc := [wO G oa u]) rfl rfl (fun u_322 => [[(ga, ai G 9 g)], [(aa, ai G 36 ad)], [(ba, ai G 36 (upd bd ((6 * i) + j) v0))], [(fa, ai G 20 fd)], [(ra, ai G 36 rd)], [(wa, al G 1 (vp_updL wd 0 (lN 0)))], wO G oa u_322]) (fun u_322 => [wO G oa u_322]) (fun _ => rfl) (fun _ => rfl) (fun _ => rfl) (fun _ => rfl) 0 rfl rfl rfl rfl xL.1 rfl (Nat.le_of_ble_eq_true rfl) dL_acts_322 ⟨Nat.le_refl _, Nat.le_refl _⟩ (fun r_322 u_322 H locs h_322 xP xD xS => ?_)
              replace h_322 : r_322 = s (9 + 36 * 1 + 6 * i + j) ∧ OI n r k c o b ta tb tt u_322 (clr 117 36 (upd s (9 + 36 * 1 + 6 * i + j) v0)) T 0 := h_322
              obtain ⟨q_322, h_322⟩ := h_322
              subst q_322
              refine lv_iload xE xB dL_acts_325 (lv_at xL 0 rfl) ?_
              refine lv_icmp_ne (tgt := 334) xE xB dL_acts_327 (by decide) (fun c_327 => absurd c_327 (by exact fun q => q ((congrArg s (by omega)).trans (hB _ (by omega)).symm))) (fun c_327 => ?_)
              refine lv_iconst (v := nI 1) xE xB dL_acts_330 (by decide) ?_
              refine lv_goto (tgt := 335) xE xB dL_acts_331 (by decide) ?_
              exact xQ _ _ _ _ _ (_, _, _, _, _, _, _) (by exact ⟨rfl, n, r, k, c, o, b, ta, tb, tt, _, _, h_322, LR_set (v := 0) hL0 (by omega) (by decide) (by omega) (by omega) (if_neg (by decide)).symm (if_neg (by decide)).symm⟩) (by decide) xP xD xS dL_acts_335
            · skip
              refine lv_iload xE xB dL_acts_191 (lv_at xL 3 rfl) ?_
              refine lv_if_ne (tgt := 209) xE xB dL_acts_193 (by decide) (fun _ => ?_) (fun h9 => absurd h9 (by decide))
              refine lv_aload_n xE xB dL_acts_209 rfl (lv_at xL 6 rfl) ?_
              refine lv_iload xE xB dL_acts_210 (lv_at xL 2 rfl) ?_
              refine lv_iload xE xB dL_acts_212 (lv_at xL 1 rfl) ?_
              refine lv_iload xE xB dL_acts_214 (lv_at xL 0 rfl) ?_
              refine q_VIL (As := [.int (nI i), .int (nI j), .int v0]) (rest := []) ⟨xE, xB, xM, xO, xT⟩ (kO_rightB l G oa n r k c o b ta tb tt 0 u s T i j v0 (by first | assumption | omega) (by omega) (by omega) (by first | assumption | omega) (by omega)) (cwV 3 xT gL_acts_X6_right rfl rfl rfl (by decide +kernel) ⟨Nat.le_of_ble_eq_true rfl, Nat.le_of_ble_eq_true rfl⟩) xK xP xD xS [6] [0, 1, 2, 3, 4, 5] 7 rfl (by decide) (Lc := [wO G oa u]) rfl rfl (fun u_216 => [[(ga, ai G 9 g)], [(aa, ai G 36 ad)], [(ba, ai G 36 bd)], [(fa, ai G 20 fd)], [(ra, ai G 36 rd)], [(wa, al G 1 wd)], wO G oa u_216]) (fun u_216 => [wO G oa u_216]) (fun _ => rfl) (fun _ => rfl) (fun _ => rfl) (fun _ => rfl) 0 rfl rfl rfl rfl xL.1 rfl (Nat.le_of_ble_eq_true rfl) dL_acts_216 ⟨Nat.le_refl _, Nat.le_refl _⟩ (fun r_216 u_216 H locs h_216 xP xD xS => ?_)
              replace h_216 : r_216 = (-1000002) ∧ OI n r k c o b ta tb tt u_216 s T 0 := h_216
              obtain ⟨q_216, h_216⟩ := h_216
              subst q_216
              refine lv_ldc (v := (-1000002)) xE xB xO (xT _ kL_acts_c48) dL_acts_219 ?_
              refine lv_icmp_ne (tgt := 228) xE xB dL_acts_221 (by decide) (fun c_221 => absurd c_221 (by decide)) (fun c_221 => ?_)
              refine lv_iconst (v := nI 1) xE xB dL_acts_224 (by decide) ?_
              refine lv_goto (tgt := 229) xE xB dL_acts_225 (by decide) ?_
              exact xQ _ _ _ _ _ (_, _, _, _, _, _, _) (by exact ⟨rfl, n, r, k, c, o, b, ta, tb, tt, _, _, h_216, hL0⟩) (by decide) xP xD xS dL_acts_229
      · skip
        refine lv_aload_n xE xB dL_acts_64 rfl (lv_at xL 2 rfl) ?_
        refine lv_aload_n xE xB dL_acts_65 rfl (lv_at xL 3 rfl) ?_
        refine lv_aload_n xE xB dL_acts_66 rfl (lv_at xL 4 rfl) ?_
        refine lv_aload_n xE xB dL_acts_67 rfl (lv_at xL 5 rfl) ?_
        refine lv_aload xE xB dL_acts_68 (lv_at xL 6 rfl) ?_
        refine lv_aload xE xB dL_acts_70 (lv_at xL 7 rfl) ?_
        refine lv_aload xE xB dL_acts_72 (lv_at xL 8 rfl) ?_
        refine lv_iload xE xB dL_acts_74 (lv_at xL 0 rfl) ?_
        refine lv_bipush (v := nI 6) xE xB dL_acts_76 (by decide) ?_
        refine q_icmp_ge (tgt := 85) xE xB dL_acts_78 (by decide) (by omega) (by omega) (fun c_78 => ?_) (fun c_78 => ?_)
        · skip
          refine lv_iload xE xB dL_acts_85 (lv_at xL 0 rfl) ?_
          refine lv_bipush (v := nI 10) xE xB dL_acts_87 (by decide) ?_
          refine q_icmp_ge (tgt := 96) xE xB dL_acts_89 (by decide) (by omega) (by omega) (fun c_89 => ?_) (fun c_89 => ?_)
          · skip
            refine lv_iload xE xB dL_acts_96 (lv_at xL 0 rfl) ?_
            refine lv_bipush (v := nI 12) xE xB dL_acts_98 (by decide) ?_
            refine q_icmp_ge (tgt := 107) xE xB dL_acts_100 (by decide) (by omega) (by omega) (fun c_100 => ?_) (fun c_100 => ?_)
            · skip
              refine lv_iconst (v := nI 3) xE xB dL_acts_107 (by decide) ?_
              refine lv_iload xE xB dL_acts_108 (lv_at xL 1 rfl) ?_
              refine q_SIL (As := [.ref oa, .ref ga, .ref aa, .ref ba, .ref fa, .ref ra, .ref wa, .int (nI 3), .int (nI y)]) (rest := []) ⟨xE, xB, xM, xO, xT⟩ (kL_runs3 l G oa ga aa ba fa ra wa n r k c o b ta tb tt u g ad bd fd rd wd s T y (by first | assumption | omega) (by first | assumption | omega) (by first | assumption | omega)) (va_cwS 9 xT gL_acts_L_runs rfl rfl rfl (by decide +kernel) ⟨Nat.le_of_ble_eq_true rfl, Nat.le_of_ble_eq_true rfl⟩) xK xP xD xS [0, 1, 2, 3, 4, 5, 6] [] 7 rfl (by decide) (Lc := [[(ga, ai G 9 g)], [(aa, ai G 36 ad)], [(ba, ai G 36 bd)], [(fa, ai G 20 fd)], [(ra, ai G 36 rd)], [(wa, al G 1 wd)], wO G oa u]) rfl rfl (fun u_110 => [[(ga, ai G 9 u_110.2.1)], [(aa, ai G 36 ad)], [(ba, ai G 36 bd)], [(fa, ai G 20 fd)], [(ra, ai G 36 u_110.2.2.1)], [(wa, al G 1 u_110.2.2.2)], wO G oa u_110.1]) (fun u_110 => [[(ga, ai G 9 u_110.2.1)], [(aa, ai G 36 ad)], [(ba, ai G 36 bd)], [(fa, ai G 20 fd)], [(ra, ai G 36 u_110.2.2.1)], [(wa, al G 1 u_110.2.2.2)], wO G oa u_110.1]) (fun _ => rfl) (fun _ => rfl) (fun _ => rfl) (fun _ => rfl) rfl xL.1 rfl (Nat.le_of_ble_eq_true rfl) dL_acts_110 ⟨Nat.le_refl _, Nat.le_refl _⟩ (fun r_110 u_110 H locs h_110 xP xD xS => ?_)
              replace h_110 : r_110 = nI 1 ∧ LI u_110.1 u_110.2.1 ad bd fd u_110.2.2.1 u_110.2.2.2 := h_110
              obtain ⟨q_110, h_110⟩ := h_110
              subst q_110
              exact xQ _ _ _ _ _ (_, _, _, _, _, _, _) (by exact ⟨rfl, h_110⟩) (by decide) xP xD xS dL_acts_113
            · skip
              refine lv_iconst (v := nI 2) xE xB dL_acts_103 (by decide) ?_
              refine lv_goto (tgt := 108) xE xB dL_acts_104 (by decide) ?_
              refine lv_iload xE xB dL_acts_108 (lv_at xL 1 rfl) ?_
              refine q_SIL (As := [.ref oa, .ref ga, .ref aa, .ref ba, .ref fa, .ref ra, .ref wa, .int (nI 2), .int (nI y)]) (rest := []) ⟨xE, xB, xM, xO, xT⟩ (kL_runs2 l G oa ga aa ba fa ra wa n r k c o b ta tb tt u g ad bd fd rd wd s T y (by first | assumption | omega) (by first | assumption | omega) (by first | assumption | omega)) (va_cwS 9 xT gL_acts_L_runs rfl rfl rfl (by decide +kernel) ⟨Nat.le_of_ble_eq_true rfl, Nat.le_of_ble_eq_true rfl⟩) xK xP xD xS [0, 1, 2, 3, 4, 5, 6] [] 7 rfl (by decide) (Lc := [[(ga, ai G 9 g)], [(aa, ai G 36 ad)], [(ba, ai G 36 bd)], [(fa, ai G 20 fd)], [(ra, ai G 36 rd)], [(wa, al G 1 wd)], wO G oa u]) rfl rfl (fun u_110 => [[(ga, ai G 9 u_110.2.1)], [(aa, ai G 36 ad)], [(ba, ai G 36 bd)], [(fa, ai G 20 fd)], [(ra, ai G 36 u_110.2.2.1)], [(wa, al G 1 u_110.2.2.2)], wO G oa u_110.1]) (fun u_110 => [[(ga, ai G 9 u_110.2.1)], [(aa, ai G 36 ad)], [(ba, ai G 36 bd)], [(fa, ai G 20 fd)], [(ra, ai G 36 u_110.2.2.1)], [(wa, al G 1 u_110.2.2.2)], wO G oa u_110.1]) (fun _ => rfl) (fun _ => rfl) (fun _ => rfl) (fun _ => rfl) rfl xL.1 rfl (Nat.le_of_ble_eq_true rfl) dL_acts_110 ⟨Nat.le_refl _, Nat.le_refl _⟩ (fun r_110 u_110 H locs h_110 xP xD xS => ?_)
              replace h_110 : r_110 = nI 1 ∧ LI u_110.1 u_110.2.1 ad bd fd u_110.2.2.1 u_110.2.2.2 := h_110
              obtain ⟨q_110, h_110⟩ := h_110
              subst q_110
              exact xQ _ _ _ _ _ (_, _, _, _, _, _, _) (by exact ⟨rfl, h_110⟩) (by decide) xP xD xS dL_acts_113
          · skip
            refine lv_iconst (v := nI 1) xE xB dL_acts_92 (by decide) ?_
            refine lv_goto (tgt := 108) xE xB dL_acts_93 (by decide) ?_
            refine lv_iload xE xB dL_acts_108 (lv_at xL 1 rfl) ?_
            refine q_SIL (As := [.ref oa, .ref ga, .ref aa, .ref ba, .ref fa, .ref ra, .ref wa, .int (nI 1), .int (nI y)]) (rest := []) ⟨xE, xB, xM, xO, xT⟩ (kL_runs1 l G oa ga aa ba fa ra wa n r k c o b ta tb tt u g ad bd fd rd wd s T y (by first | assumption | omega) (by first | assumption | omega) (by first | assumption | omega)) (va_cwS 9 xT gL_acts_L_runs rfl rfl rfl (by decide +kernel) ⟨Nat.le_of_ble_eq_true rfl, Nat.le_of_ble_eq_true rfl⟩) xK xP xD xS [0, 1, 2, 3, 4, 5, 6] [] 7 rfl (by decide) (Lc := [[(ga, ai G 9 g)], [(aa, ai G 36 ad)], [(ba, ai G 36 bd)], [(fa, ai G 20 fd)], [(ra, ai G 36 rd)], [(wa, al G 1 wd)], wO G oa u]) rfl rfl (fun u_110 => [[(ga, ai G 9 u_110.2.1)], [(aa, ai G 36 ad)], [(ba, ai G 36 bd)], [(fa, ai G 20 fd)], [(ra, ai G 36 u_110.2.2.1)], [(wa, al G 1 u_110.2.2.2)], wO G oa u_110.1]) (fun u_110 => [[(ga, ai G 9 u_110.2.1)], [(aa, ai G 36 ad)], [(ba, ai G 36 bd)], [(fa, ai G 20 fd)], [(ra, ai G 36 u_110.2.2.1)], [(wa, al G 1 u_110.2.2.2)], wO G oa u_110.1]) (fun _ => rfl) (fun _ => rfl) (fun _ => rfl) (fun _ => rfl) rfl xL.1 rfl (Nat.le_of_ble_eq_true rfl) dL_acts_110 ⟨Nat.le_refl _, Nat.le_refl _⟩ (fun r_110 u_110 H locs h_110 xP xD xS => ?_)
            replace h_110 : r_110 = nI 1 ∧ LI u_110.1 u_110.2.1 ad bd fd u_110.2.2.1 u_110.2.2.2 := h_110
            obtain ⟨q_110, h_110⟩ := h_110
            subst q_110
            exact xQ _ _ _ _ _ (_, _, _, _, _, _, _) (by exact ⟨rfl, h_110⟩) (by decide) xP xD xS dL_acts_113
        · skip
          refine lv_iconst (v := nI 0) xE xB dL_acts_81 (by decide) ?_
          refine lv_goto (tgt := 108) xE xB dL_acts_82 (by decide) ?_
          refine lv_iload xE xB dL_acts_108 (lv_at xL 1 rfl) ?_
          refine q_SIL (As := [.ref oa, .ref ga, .ref aa, .ref ba, .ref fa, .ref ra, .ref wa, .int (nI 0), .int (nI y)]) (rest := []) ⟨xE, xB, xM, xO, xT⟩ (kL_runs0 l G oa ga aa ba fa ra wa n r k c o b ta tb tt u g ad bd fd rd wd s T y (by first | assumption | omega) (by first | assumption | omega) (by first | assumption | omega)) (va_cwS 9 xT gL_acts_L_runs rfl rfl rfl (by decide +kernel) ⟨Nat.le_of_ble_eq_true rfl, Nat.le_of_ble_eq_true rfl⟩) xK xP xD xS [0, 1, 2, 3, 4, 5, 6] [] 7 rfl (by decide) (Lc := [[(ga, ai G 9 g)], [(aa, ai G 36 ad)], [(ba, ai G 36 bd)], [(fa, ai G 20 fd)], [(ra, ai G 36 rd)], [(wa, al G 1 wd)], wO G oa u]) rfl rfl (fun u_110 => [[(ga, ai G 9 u_110.2.1)], [(aa, ai G 36 ad)], [(ba, ai G 36 bd)], [(fa, ai G 20 fd)], [(ra, ai G 36 u_110.2.2.1)], [(wa, al G 1 u_110.2.2.2)], wO G oa u_110.1]) (fun u_110 => [[(ga, ai G 9 u_110.2.1)], [(aa, ai G 36 ad)], [(ba, ai G 36 bd)], [(fa, ai G 20 fd)], [(ra, ai G 36 u_110.2.2.1)], [(wa, al G 1 u_110.2.2.2)], wO G oa u_110.1]) (fun _ => rfl) (fun _ => rfl) (fun _ => rfl) (fun _ => rfl) rfl xL.1 rfl (Nat.le_of_ble_eq_true rfl) dL_acts_110 ⟨Nat.le_refl _, Nat.le_refl _⟩ (fun r_110 u_110 H locs h_110 xP xD xS => ?_)
          replace h_110 : r_110 = nI 1 ∧ LI u_110.1 u_110.2.1 ad bd fd u_110.2.2.1 u_110.2.2.2 := h_110
          obtain ⟨q_110, h_110⟩ := h_110
          subst q_110
          exact xQ _ _ _ _ _ (_, _, _, _, _, _, _) (by exact ⟨rfl, h_110⟩) (by decide) xP xD xS dL_acts_113
    · skip
      refine lv_aload_n xE xB dL_acts_45 rfl (lv_at xL 2 rfl) ?_
      refine lv_aload_n xE xB dL_acts_46 rfl (lv_at xL 3 rfl) ?_
      refine lv_aload_n xE xB dL_acts_47 rfl (lv_at xL 4 rfl) ?_
      refine lv_aload_n xE xB dL_acts_48 rfl (lv_at xL 5 rfl) ?_
      refine lv_aload xE xB dL_acts_49 (lv_at xL 8 rfl) ?_
      refine lv_iload xE xB dL_acts_51 (lv_at xL 1 rfl) ?_
      refine q_SIL (As := [.ref oa, .ref ga, .ref aa, .ref ba, .ref wa, .int (nI y)]) (rest := []) ⟨xE, xB, xM, xO, xT⟩ (kL_reads l G oa ga aa ba fa ra wa n r k c o b ta tb tt u g ad bd fd rd wd s T y (by first | assumption | omega) (by first | assumption | omega) (by first | assumption | omega)) (va_cwS 6 xT gL_acts_L_reads rfl rfl rfl (by decide +kernel) ⟨Nat.le_of_ble_eq_true rfl, Nat.le_of_ble_eq_true rfl⟩) xK xP xD xS [0, 1, 2, 5, 6] [3, 4] 7 rfl (by decide) (Lc := [[(ga, ai G 9 g)], [(aa, ai G 36 ad)], [(ba, ai G 36 bd)], [(wa, al G 1 wd)], wO G oa u]) rfl rfl (fun u_53 => [[(ga, ai G 9 u_53.2.1)], [(aa, ai G 36 u_53.2.2.1)], [(ba, ai G 36 u_53.2.2.2.1)], [(fa, ai G 20 fd)], [(ra, ai G 36 rd)], [(wa, al G 1 u_53.2.2.2.2)], wO G oa u_53.1]) (fun u_53 => [[(ga, ai G 9 u_53.2.1)], [(aa, ai G 36 u_53.2.2.1)], [(ba, ai G 36 u_53.2.2.2.1)], [(wa, al G 1 u_53.2.2.2.2)], wO G oa u_53.1]) (fun _ => rfl) (fun _ => rfl) (fun _ => rfl) (fun _ => rfl) rfl xL.1 rfl (Nat.le_of_ble_eq_true rfl) dL_acts_53 ⟨Nat.le_refl _, Nat.le_refl _⟩ (fun r_53 u_53 H locs h_53 xP xD xS => ?_)
      replace h_53 : r_53 = nI 1 ∧ LI u_53.1 u_53.2.1 u_53.2.2.1 u_53.2.2.2.1 fd rd u_53.2.2.2.2 := h_53
      obtain ⟨q_53, h_53⟩ := h_53
      subst q_53
      exact xQ _ _ _ _ _ (_, _, _, _, _, _, _) (by exact ⟨rfl, h_53⟩) (by decide) xP xD xS dL_acts_56
  · skip
    refine lv_aload_n xE xB dL_acts_25 rfl (lv_at xL 2 rfl) ?_
    refine lv_aload_n xE xB dL_acts_26 rfl (lv_at xL 3 rfl) ?_
    refine lv_aload_n xE xB dL_acts_27 rfl (lv_at xL 4 rfl) ?_
    refine lv_aload_n xE xB dL_acts_28 rfl (lv_at xL 5 rfl) ?_
    refine lv_aload xE xB dL_acts_29 (lv_at xL 6 rfl) ?_
    refine lv_aload xE xB dL_acts_31 (lv_at xL 8 rfl) ?_
    refine lv_iload xE xB dL_acts_33 (lv_at xL 1 rfl) ?_
    refine q_SIL (As := [.ref oa, .ref ga, .ref aa, .ref ba, .ref fa, .ref wa, .int (nI y)]) (rest := []) ⟨xE, xB, xM, xO, xT⟩ (kL_shapes l G oa ga aa ba fa ra wa n r k c o b ta tb tt u g ad bd fd rd wd s T y (by first | assumption | omega) (by first | assumption | omega) (by first | assumption | omega)) (va_cwS 7 xT gL_acts_L_shapes rfl rfl rfl (by decide +kernel) ⟨Nat.le_of_ble_eq_true rfl, Nat.le_of_ble_eq_true rfl⟩) xK xP xD xS [0, 1, 2, 3, 5, 6] [4] 7 rfl (by decide) (Lc := [[(ga, ai G 9 g)], [(aa, ai G 36 ad)], [(ba, ai G 36 bd)], [(fa, ai G 20 fd)], [(wa, al G 1 wd)], wO G oa u]) rfl rfl (fun u_35 => [[(ga, ai G 9 u_35.2.1)], [(aa, ai G 36 u_35.2.2.1)], [(ba, ai G 36 u_35.2.2.2.1)], [(fa, ai G 20 u_35.2.2.2.2.1)], [(ra, ai G 36 rd)], [(wa, al G 1 u_35.2.2.2.2.2)], wO G oa u_35.1]) (fun u_35 => [[(ga, ai G 9 u_35.2.1)], [(aa, ai G 36 u_35.2.2.1)], [(ba, ai G 36 u_35.2.2.2.1)], [(fa, ai G 20 u_35.2.2.2.2.1)], [(wa, al G 1 u_35.2.2.2.2.2)], wO G oa u_35.1]) (fun _ => rfl) (fun _ => rfl) (fun _ => rfl) (fun _ => rfl) rfl xL.1 rfl (Nat.le_of_ble_eq_true rfl) dL_acts_35 ⟨Nat.le_refl _, Nat.le_refl _⟩ (fun r_35 u_35 H locs h_35 xP xD xS => ?_)
    replace h_35 : r_35 = nI 1 ∧ LI u_35.1 u_35.2.1 u_35.2.2.1 u_35.2.2.2.1 u_35.2.2.2.2.1 rd u_35.2.2.2.2.2 := h_35
    obtain ⟨q_35, h_35⟩ := h_35
    subst q_35
    exact xQ _ _ _ _ _ (_, _, _, _, _, _, _) (by exact ⟨rfl, h_35⟩) (by decide) xP xD xS dL_acts_38
