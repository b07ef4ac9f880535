theorem kX3_doAllTiles_f34 : Cond.fieldLink RX3 34 "SkewedSquare$State" "tile" "LSkewedSquare$Tile;" ∈ wsX3_doAllTiles := by decide +kernel
theorem khX3_doAllTiles_X3 : ∀ w ∈ u_ws RX3 TX3 5, w ∈ wsX3_doAllTiles := by decide +kernel
set_option maxHeartbeats 4000000 in
set_option maxRecDepth 100000 in
/-- kX3_doAllTiles -/
theorem kX3_doAllTiles (l : Launch) (G : wG) (a : SA) (n o : Nat) (kf : wF) (lr lc : Nat) (L : wF) (rr rc : Nat) (R : wF) (sr sc : Nat) (Z : wF) (b ta tb th tw tt tn : Nat) (sm0 mt rw dn : wF) (s : wF) (hR : RelS ((n, o, kf), (lr, lc, L), (rr, rc, R), (sr, sc, Z), (b, ta, tb, th, tw, tt, tn, sm0, mt, rw, dn)) s) : CI (S := wF × TD) l yX3_doAllTiles wsX3_doAllTiles (rm 5 111) G [.ref a.1] (wS G a ((n, o, kf), (lr, lc, L), (rr, rc, R), (sr, sc, Z), (b, ta, tb, th, tw, tt, tn, sm0, mt, rw, dn))) (fun x u9 => x = nI (tkN lc n lr rc) ∧ RelS ((n, o, kf), (lr, lc, L), (rr, rc, R), (sr, sc, u9.1), u9.2) (alF lc n o lr rc s)) (fun u9 => wS G a ((n, o, kf), (lr, lc, L), (rr, rc, R), (sr, sc, u9.1), u9.2)) := by
  refine CI.of (own := RX3) rfl (by decide) rfl (Nat.le_of_ble_eq_true rfl) ?_
  intro p9 e9 s9 m9 b9 t9 c9 A xE xB xM xO xT xK xP xD Q xQ xS ls hl
  have xL : lv_has ls 6 [(0, .ref a.1)] := hl
  have hn0 := hR.1.2.2.1
  have hm0 := hR.2.2.1.2.2.2.1
  have h61 : tls lr n ≤ 6 := tls_6 hm0.2.1 hn0.1
  have h62 : tls rc n ≤ 6 := tls_6 hm0.2.2.2.2.2 hn0.1
  refine lv_iconst (v := nI 0) xE xB dX3_doAllTiles_0 (by decide) ?_
  refine lv_istore_n (lv' := [(1, .int (nI 0)), (0, .ref a.1)]) xE xB dX3_doAllTiles_1 rfl xL (by decide) rfl (fun ls xL => ?_)
  refine lv_aload_n xE xB dX3_doAllTiles_2 rfl (lv_at xL 1 rfl) ?_
  refine q_VR (As := []) (rest := []) ⟨xE, xB, xM, xO, xT⟩ (kX3_tilesDown l G a n o kf lr lc L rr rc R sr sc Z b ta tb th tw tt tn sm0 mt rw dn (by omega) (by omega) (by omega) (by omega)) (cwV 0 xT gX3_doAllTiles_X3_tilesDown rfl rfl rfl (by decide +kernel) ⟨Nat.le_of_ble_eq_true rfl, Nat.le_of_ble_eq_true rfl⟩) xK xP [0, 1, 2, 3, 4, 5, 6, 7, 8, 9, 10, 11, 12, 13] rfl 0 rfl rfl rfl rfl xL.1 rfl (Nat.le_of_ble_eq_true rfl) dX3_doAllTiles_3 ⟨Nat.le_refl _, Nat.le_refl _⟩ (fun r_3 h_3 => ?_)
  obtain rfl : r_3 = nI (tls lr n) := h_3
  refine lv_istore_n (lv' := [(2, .int (nI (tls lr n))), (1, .int (nI 0)), (0, .ref a.1)]) xE xB dX3_doAllTiles_6 rfl xL (by decide) rfl (fun ls xL => ?_)
  refine lv_aload_n xE xB dX3_doAllTiles_7 rfl (lv_at xL 2 rfl) ?_
  refine q_VR (As := []) (rest := []) ⟨xE, xB, xM, xO, xT⟩ (kX3_tilesAcross l G a n o kf lr lc L rr rc R sr sc Z b ta tb th tw tt tn sm0 mt rw dn (by omega) (by omega) (by omega) (by omega)) (cwV 0 xT gX3_doAllTiles_X3_tilesAcross rfl rfl rfl (by decide +kernel) ⟨Nat.le_of_ble_eq_true rfl, Nat.le_of_ble_eq_true rfl⟩) xK xP [0, 1, 2, 3, 4, 5, 6, 7, 8, 9, 10, 11, 12, 13] rfl 0 rfl rfl rfl rfl xL.1 rfl (Nat.le_of_ble_eq_true rfl) dX3_doAllTiles_8 ⟨Nat.le_refl _, Nat.le_refl _⟩ (fun r_8 h_8 => ?_)
  obtain rfl : r_8 = nI (tls rc n) := h_8
  refine lv_istore_n (lv' := [(3, .int (nI (tls rc n))), (2, .int (nI (tls lr n))), (1, .int (nI 0)), (0, .ref a.1)]) xE xB dX3_doAllTiles_11 rfl xL (by decide) rfl (fun ls xL => ?_)
  refine lv_iconst (v := nI 0) xE xB dX3_doAllTiles_12 (by decide) ?_
  refine lv_istore (lv' := [(4, .int (nI 0)), (3, .int (nI (tls rc n))), (2, .int (nI (tls lr n))), (1, .int (nI 0)), (0, .ref a.1)]) xE xB dX3_doAllTiles_13 xL (by decide) rfl (fun ls xL => ?_)
  have L_15 : ∀ (n_15 : Nat) (i x : Nat) (Y : wF) (b2 p1 p2 p3 p4 p5 p6 : Nat) (g1 g2 g3 g4 : wF), (i ≤ tls lr n) → (x = ns (fun a => ns (fun b => need lc n lr rc a b) (tls rc n)) i) → (RelS ((n, o, kf), (lr, lc, L), (rr, rc, R), (sr, sc, Y), (b2, p1, p2, p3, p4, p5, p6, g1, g2, g3, g4)) (upF (fun a => upF (fun b => tlF lc n o lr rc a b) (tls rc n)) i s)) → tls lr n - i < n_15 → ∀ (H : Heap) (locs : List Loc), va_P G.1 vwCl (wS G a ((n, o, kf), (lr, lc, L), (rr, rc, R), (sr, sc, Y), (b2, p1, p2, p3, p4, p5, p6, g1, g2, g3, g4))) H → va_D A (wS G a ((n, o, kf), (lr, lc, L), (rr, rc, R), (sr, sc, Y), (b2, p1, p2, p3, p4, p5, p6, g1, g2, g3, g4))) → va_S A s9.heap H locs → ∀ (ls : Array Slot), lv_has ls 6 [(0, .ref a.1), (1, .int (nI x)), (2, .int (nI (tls lr n))), (3, .int (nI (tls rc n))), (4, .int (nI i))] → W p9 l e9 (rm 5 111) s9 m9 ([.ref a.1] : List Value).toArray b9 t9 c9 H locs 0 0 Q (F0 m9 15 ls []) := by
    intro n_15
    induction n_15 with
    | zero => intro i x Y b2 p1 p2 p3 p4 p5 p6 g1 g2 g3 g4 hi hx hRi hm_15 H locs xP xD xS ls xL; exact absurd hm_15 (Nat.not_lt_zero _)
    | succ n_15 ih_15 =>
      intro i x Y b2 p1 p2 p3 p4 p5 p6 g1 g2 g3 g4 hi hx hRi hm_15 H locs xP xD xS ls xL
      refine lv_iload xE xB dX3_doAllTiles_15 (lv_at xL 4 rfl) ?_
      refine lv_iload_n xE xB dX3_doAllTiles_17 rfl (lv_at xL 2 rfl) ?_
      refine q_icmp_ge (tgt := 75) xE xB dX3_doAllTiles_18 (by decide) (by omega) (by omega) (fun c_18 => ?_) (fun c_18 => ?_)
      · skip
        refine lv_iload_n xE xB dX3_doAllTiles_75 rfl (lv_at xL 1 rfl) ?_
        exact xQ _ _ _ _ _ (Y, (b2, p1, p2, p3, p4, p5, p6, g1, g2, g3, g4)) (by obtain rfl : i = tls lr n := (by omega); exact ⟨congrArg nI hx, hRi⟩) xP xD xS dX3_doAllTiles_76
      · skip
        refine lv_iconst (v := nI 0) xE xB dX3_doAllTiles_21 (by decide) ?_
        refine lv_istore (lv' := [(5, .int (nI 0)), (0, .ref a.1), (1, .int (nI x)), (2, .int (nI (tls lr n))), (3, .int (nI (tls rc n))), (4, .int (nI i))]) xE xB dX3_doAllTiles_22 xL (by decide) rfl (fun ls xL => ?_)
        have L_24 : ∀ (n_24 : Nat) (j y : Nat) (X : wF) (b3 q1 q2 q3 q4 q5 q6 : Nat) (e1 e2 e3 e4 : wF), (j ≤ tls rc n) → (y = x + ns (fun b => need lc n lr rc i b) j) → (RelS ((n, o, kf), (lr, lc, L), (rr, rc, R), (sr, sc, X), (b3, q1, q2, q3, q4, q5, q6, e1, e2, e3, e4)) (upF (fun b => tlF lc n o lr rc i b) j (upF (fun a => upF (fun b => tlF lc n o lr rc a b) (tls rc n)) i s))) → tls rc n - j < n_24 → ∀ (H : Heap) (locs : List Loc), va_P G.1 vwCl (wS G a ((n, o, kf), (lr, lc, L), (rr, rc, R), (sr, sc, X), (b3, q1, q2, q3, q4, q5, q6, e1, e2, e3, e4))) H → va_D A (wS G a ((n, o, kf), (lr, lc, L), (rr, rc, R), (sr, sc, X), (b3, q1, q2, q3, q4, q5, q6, e1, e2, e3, e4))) → va_S A s9.heap H locs → ∀ (ls : Array Slot), lv_has ls 6 [(0, .ref a.1), (1, .int (nI y)), (2, .int (nI (tls lr n))), (3, .int (nI (tls rc n))), (4, .int (nI i)), (5, .int (nI j))] → W p9 l e9 (rm 5 111) s9 m9 ([.ref a.1] : List Value).toArray b9 t9 c9 H locs 0 0 Q (F0 m9 24 ls []) := by
          intro n_24
          induction n_24 with
          | zero => intro j y X b3 q1 q2 q3 q4 q5 q6 e1 e2 e3 e4 hj hy hRj hm_24 H locs xP xD xS ls xL; exact absurd hm_24 (Nat.not_lt_zero _)
          | succ n_24 ih_24 =>
            intro j y X b3 q1 q2 q3 q4 q5 q6 e1 e2 e3 e4 hj hy hRj hm_24 H locs xP xD xS ls xL
            refine lv_iload xE xB dX3_doAllTiles_24 (lv_at xL 5 rfl) ?_
            refine lv_iload_n xE xB dX3_doAllTiles_26 rfl (lv_at xL 3 rfl) ?_
            refine q_icmp_ge (tgt := 69) xE xB dX3_doAllTiles_27 (by decide) (by omega) (by omega) (fun c_27 => ?_) (fun c_27 => ?_)
            · skip
              refine lv_iinc (v := nI (i + 1)) (lv' := [(4, .int (nI (i + 1))), (0, .ref a.1), (1, .int (nI y)), (2, .int (nI (tls lr n))), (3, .int (nI (tls rc n))), (5, .int (nI j))]) xE xB dX3_doAllTiles_69 xL (k := 4) rfl (q_inc _ _) (by decide) rfl (fun ls xL => ?_)
              refine lv_goto (tgt := 15) xE xB dX3_doAllTiles_72 (by decide) ?_
              exact ih_15 (i + 1) y X b3 q1 q2 q3 q4 q5 q6 e1 e2 e3 e4 (by omega) (by obtain rfl : j = tls rc n := (by omega); rw [hy, hx]; rfl) (by obtain rfl : j = tls rc n := (by omega); exact hRj) (by omega) _ _ xP xD xS _ (lv_sub xL [1, 2, 3, 4, 0] rfl)
            · skip
              refine lv_aload_n xE xB dX3_doAllTiles_30 rfl (lv_at xL 0 rfl) ?_
              refine lv_iload xE xB dX3_doAllTiles_31 (lv_at xL 4 rfl) ?_
              refine lv_iload xE xB dX3_doAllTiles_33 (lv_at xL 5 rfl) ?_
              refine q_VV (As := [.int (nI i), .int (nI j)]) (rest := []) ⟨xE, xB, xM, xO, xT⟩ (kX3_beginTile l G a n o kf lr lc L rr rc R sr sc X b3 q1 q2 q3 q4 q5 q6 e1 e2 e3 e4 i j (by omega) (by omega) (by omega) (by omega) (by exact tls_lt c_18 hn0.1) (by exact tls_lt c_27 hn0.1) (by exact hRj.2.2.2.2.2.1.1)) (cwV 2 xT gX3_doAllTiles_X3_beginTile rfl rfl rfl (by decide +kernel) ⟨Nat.le_of_ble_eq_true rfl, Nat.le_of_ble_eq_true rfl⟩) xK xP xD xS [0, 1, 2, 3, 4, 5, 6, 7, 8, 9, 10, 11, 12, 13] rfl (by decide +kernel) (fun _ => rfl) 0 rfl rfl rfl rfl xL.1 rfl (Nat.le_of_ble_eq_true rfl) dX3_doAllTiles_35 ⟨Nat.le_refl _, Nat.le_refl _⟩ (fun u_35 H locs h_35 xP xD xS => ?_)
              have xP : va_P G.1 vwCl (wS G a ((n, o, kf), (lr, lc, L), (rr, rc, R), (sr, sc, X), (1, i, j, min n (lr - n * i), min n (rc - n * j), 0, need lc n lr rc i j, fillF 16 (nI 0) e1, fillF 16 (nI 0) e2, fillF 16 NO e3, fillF 16 NO e4))) H := xP
              have xD : va_D A (wS G a ((n, o, kf), (lr, lc, L), (rr, rc, R), (sr, sc, X), (1, i, j, min n (lr - n * i), min n (rc - n * j), 0, need lc n lr rc i j, fillF 16 (nI 0) e1, fillF 16 (nI 0) e2, fillF 16 NO e3, fillF 16 NO e4))) := xD
              have hR1 := rel_bg hRj (tls_lt c_18 hn0.1) (tls_lt c_27 hn0.1)
              have hu3 : need lc n lr rc i j = _ ∧ need lc n lr rc i j ≤ 20 := RelT.t20 (hR1.2.2.2.2.2.2 rfl).1 hR1.2.2.1 hR1.1.2.2.1
              refine lv_iload_n xE xB dX3_doAllTiles_38 rfl (lv_at xL 1 rfl) ?_
              refine lv_aload_n xE xB dX3_doAllTiles_39 rfl (lv_at xL 0 rfl) ?_
              refine va_get (D := G.1) (ci := 3) (v := .ref a.2.2.2.2.2.1) (C := RX3) (T := TX3) (N := 5) xE xB xT khX3_doAllTiles_X3 xO xK.1 xP 0 rfl rfl 4 (by decide) (xT _ kX3_doAllTiles_f34) (fun _ h9 => h9) rfl dX3_doAllTiles_40 ?_
              refine q_VR (As := []) (rest := [.int (nI y)]) ⟨xE, xB, xM, xO, xT⟩ (kX5_ticksLeft l G a.2.2.2.2.2 1 i j (min n (lr - n * i)) (min n (rc - n * j)) 0 (need lc n lr rc i j) (fillF 16 (nI 0) e1) (fillF 16 (nI 0) e2) (fillF 16 NO e3) (fillF 16 NO e4) (by exact Nat.zero_le _)) (cwV 0 xT gX3_doAllTiles_X5_ticksLeft rfl rfl rfl (by decide +kernel) ⟨Nat.le_of_ble_eq_true rfl, Nat.le_of_ble_eq_true rfl⟩) xK xP [9, 10, 11, 12, 13] rfl 0 rfl rfl rfl rfl xL.1 rfl (Nat.le_of_ble_eq_true rfl) dX3_doAllTiles_43 ⟨Nat.le_refl _, Nat.le_refl _⟩ (fun r_43 h_43 => ?_)
              obtain rfl : r_43 = nI ((need lc n lr rc i j) - 0) := h_43
              refine q_iadd xE xB dX3_doAllTiles_46 ?_
              refine lv_istore_n (lv' := [(1, .int (nI (y + ((need lc n lr rc i j) - 0)))), (0, .ref a.1), (2, .int (nI (tls lr n))), (3, .int (nI (tls rc n))), (4, .int (nI i)), (5, .int (nI j))]) xE xB dX3_doAllTiles_47 rfl xL (by decide) rfl (fun ls xL => ?_)
              refine lv_aload_n xE xB dX3_doAllTiles_48 rfl (lv_at xL 1 rfl) ?_
              refine lv_aload_n xE xB dX3_doAllTiles_49 rfl (lv_at xL 1 rfl) ?_
              refine va_get (D := G.1) (ci := 3) (v := .ref a.2.2.2.2.2.1) (C := RX3) (T := TX3) (N := 5) xE xB xT khX3_doAllTiles_X3 xO xK.1 xP 0 rfl rfl 4 (by decide) (xT _ kX3_doAllTiles_f34) (fun _ h9 => h9) rfl dX3_doAllTiles_50 ?_
              refine q_VR (As := []) (rest := [.ref a.1]) ⟨xE, xB, xM, xO, xT⟩ (kX5_ticksLeft l G a.2.2.2.2.2 1 i j (min n (lr - n * i)) (min n (rc - n * j)) 0 (need lc n lr rc i j) (fillF 16 (nI 0) e1) (fillF 16 (nI 0) e2) (fillF 16 NO e3) (fillF 16 NO e4) (by exact Nat.zero_le _)) (cwV 0 xT gX3_doAllTiles_X5_ticksLeft rfl rfl rfl (by decide +kernel) ⟨Nat.le_of_ble_eq_true rfl, Nat.le_of_ble_eq_true rfl⟩) xK xP [9, 10, 11, 12, 13] rfl 0 rfl rfl rfl rfl xL.1 rfl (Nat.le_of_ble_eq_true rfl) dX3_doAllTiles_53 ⟨Nat.le_refl _, Nat.le_refl _⟩ (fun r_53 h_53 => ?_)
              obtain rfl : r_53 = nI ((need lc n lr rc i j) - 0) := h_53
              refine q_VV (As := [.int (nI ((need lc n lr rc i j) - 0))]) (rest := []) ⟨xE, xB, xM, xO, xT⟩ (kX3_goOn l G a n o kf lr lc L rr rc R sr sc X 1 i j (min n (lr - n * i)) (min n (rc - n * j)) 0 (need lc n lr rc i j) (fillF 16 (nI 0) e1) (fillF 16 (nI 0) e2) (fillF 16 NO e3) (fillF 16 NO e4) (bgF i j (upF (fun b => tlF lc n o lr rc i b) j (upF (fun a => upF (fun b => tlF lc n o lr rc a b) (tls rc n)) i s))) ((need lc n lr rc i j) - 0) (by exact hR1.1) (by exact hR1.2.2.1) (by exact hR1.2.2.2.1.1) (by exact (hR1.2.2.2.2.2.2 rfl).1) (by exact (hR1.2.2.2.2.2.2 rfl).2.1) (by exact (hR1.2.2.2.2.2.2 rfl).2.2.1) (by exact Nat.le_trans hu3.2 (by decide))) (cwV 1 xT gX3_doAllTiles_X3_goOn rfl rfl rfl (by decide +kernel) ⟨Nat.le_of_ble_eq_true rfl, Nat.le_of_ble_eq_true rfl⟩) xK xP xD xS [0, 1, 2, 3, 4, 5, 6, 7, 8, 9, 10, 11, 12, 13] rfl (by decide +kernel) (fun _ => rfl) 0 rfl rfl rfl rfl xL.1 rfl (Nat.le_of_ble_eq_true rfl) dX3_doAllTiles_56 ⟨Nat.le_refl _, Nat.le_refl _⟩ (fun u_56 H locs h_56 xP xD xS => ?_)
              have xP : va_P G.1 vwCl (wS G a ((n, o, kf), (lr, lc, L), (rr, rc, R), (sr, sc, X), (1, i, j, min n (lr - n * i), min n (rc - n * j), 0 + min ((need lc n lr rc i j) - 0) ((need lc n lr rc i j) - 0), need lc n lr rc i j, u_56.1, u_56.2.1, u_56.2.2.1, u_56.2.2.2))) H := xP
              have xD : va_D A (wS G a ((n, o, kf), (lr, lc, L), (rr, rc, R), (sr, sc, X), (1, i, j, min n (lr - n * i), min n (rc - n * j), 0 + min ((need lc n lr rc i j) - 0) ((need lc n lr rc i j) - 0), need lc n lr rc i j, u_56.1, u_56.2.1, u_56.2.2.1, u_56.2.2.2))) := xD
              have h_56 : CellR u_56.1 u_56.2.1 u_56.2.2.1 u_56.2.2.2 (goN lc n o lr rc i j (min ((need lc n lr rc i j) - 0) ((need lc n lr rc i j) - 0)) 0 (bgF i j (upF (fun b => tlF lc n o lr rc i b) j (upF (fun a => upF (fun b => tlF lc n o lr rc a b) (tls rc n)) i s)))) := h_56
              have e56 : min (need lc n lr rc i j - 0) (need lc n lr rc i j - 0) = need lc n lr rc i j := Nat.min_self _
              rw [e56] at h_56 xP xD
              have hR2 := rel_go hR1 (m := need lc n lr rc i j) (Nat.le_refl _) h_56
              have xP : va_P G.1 vwCl (wS G a ((n, o, kf), (lr, lc, L), (rr, rc, R), (sr, sc, X), (1, i, j, min n (lr - n * i), min n (rc - n * j), 0 + need lc n lr rc i j, need lc n lr rc i j, u_56.1, u_56.2.1, u_56.2.2.1, u_56.2.2.2))) H := xP
              have xD : va_D A (wS G a ((n, o, kf), (lr, lc, L), (rr, rc, R), (sr, sc, X), (1, i, j, min n (lr - n * i), min n (rc - n * j), 0 + need lc n lr rc i j, need lc n lr rc i j, u_56.1, u_56.2.1, u_56.2.2.1, u_56.2.2.2))) := xD
              refine lv_aload_n xE xB dX3_doAllTiles_59 rfl (lv_at xL 1 rfl) ?_
              refine q_VV (As := []) (rest := []) ⟨xE, xB, xM, xO, xT⟩ (kX3_drainTile l G a n o kf lr lc L rr rc R sr sc X 1 i j (min n (lr - n * i)) (min n (rc - n * j)) (0 + need lc n lr rc i j) (need lc n lr rc i j) u_56.1 u_56.2.1 u_56.2.2.1 u_56.2.2.2 (goN lc n o lr rc i j (need lc n lr rc i j) 0 (bgF i j (upF (fun b => tlF lc n o lr rc i b) j (upF (fun a => upF (fun b => tlF lc n o lr rc a b) (tls rc n)) i s)))) (by exact hR2.1.2.2.1) (by exact hR2.2.2.1) (by exact hR2.2.2.2.1.2) (by exact hR2.2.2.2.2.1) (by exact (hR2.2.2.2.2.2.2 rfl).1) (by exact (hR2.2.2.2.2.2.2 rfl).2.1) (by exact (hR2.2.2.2.2.2.2 rfl).2.2.2) (by decide)) (cwV 0 xT gX3_doAllTiles_X3_drainTile rfl rfl rfl (by decide +kernel) ⟨Nat.le_of_ble_eq_true rfl, Nat.le_of_ble_eq_true rfl⟩) xK xP xD xS [0, 1, 2, 3, 4, 5, 6, 7, 8, 9, 10, 11, 12, 13] rfl (by decide +kernel) (fun _ => rfl) 0 rfl rfl rfl rfl xL.1 rfl (Nat.le_of_ble_eq_true rfl) dX3_doAllTiles_60 ⟨Nat.le_refl _, Nat.le_refl _⟩ (fun u_60 H locs h_60 xP xD xS => ?_)
              have xP : va_P G.1 vwCl (wS G a ((n, o, kf), (lr, lc, L), (rr, rc, R), (sr, sc, u_60), (0, i, j, min n (lr - n * i), min n (rc - n * j), 0 + need lc n lr rc i j, need lc n lr rc i j, u_56.1, u_56.2.1, u_56.2.2.1, u_56.2.2.2))) H := xP
              have xD : va_D A (wS G a ((n, o, kf), (lr, lc, L), (rr, rc, R), (sr, sc, u_60), (0, i, j, min n (lr - n * i), min n (rc - n * j), 0 + need lc n lr rc i j, need lc n lr rc i j, u_56.1, u_56.2.1, u_56.2.2.1, u_56.2.2.2))) := xD
              have h_60 : RelZ lr rc u_60 (drF n lr rc i j (goN lc n o lr rc i j (need lc n lr rc i j) 0 (bgF i j (upF (fun b => tlF lc n o lr rc i b) j (upF (fun a => upF (fun b => tlF lc n o lr rc a b) (tls rc n)) i s))))) := h_60
              have hR3 := rel_dr hR2 h_60
              refine lv_iinc (v := nI (j + 1)) (lv' := [(5, .int (nI (j + 1))), (1, .int (nI (y + ((need lc n lr rc i j) - 0)))), (0, .ref a.1), (2, .int (nI (tls lr n))), (3, .int (nI (tls rc n))), (4, .int (nI i))]) xE xB dX3_doAllTiles_63 xL (k := 5) rfl (q_inc _ _) (by decide) rfl (fun ls xL => ?_)
              refine lv_goto (tgt := 24) xE xB dX3_doAllTiles_66 (by decide) ?_
              exact ih_24 (j + 1) (y + ((need lc n lr rc i j) - 0)) u_60 0 i j (min n (lr - n * i)) (min n (rc - n * j)) (0 + need lc n lr rc i j) (need lc n lr rc i j) u_56.1 u_56.2.1 u_56.2.2.1 u_56.2.2.2 (by omega) (by rw [hy]; exact Nat.add_assoc _ _ _) (by exact hR3) (by omega) _ _ xP xD xS _ (lv_sub xL [2, 1, 3, 4, 5, 0] rfl)
        exact L_24 (tls rc n - 0 + 1) 0 x Y b2 p1 p2 p3 p4 p5 p6 g1 g2 g3 g4 (by omega) (by rfl) (by exact hRi) (Nat.lt_succ_self _) _ _ xP xD xS _ (lv_sub xL [1, 2, 3, 4, 5, 0] rfl)
  exact L_15 (tls lr n - 0 + 1) 0 0 Z b ta tb th tw tt tn sm0 mt rw dn (by omega) (by rfl) (by exact hR) (Nat.lt_succ_self _) _ _ xP xD xS _ (lv_sub xL [4, 3, 2, 1, 0] rfl)
