/-! law4: the law types a matrix, and has it read -/
theorem rd_up {b2 bd : wF} {q : Nat} {P : Prop} [Decidable P] {x : Int32} (h : ∀ p, b2 p = if p < q ∧ ¬ P then nI 0 else bd p) (hx : x = if P then b2 q else nI 0) : ∀ p, upd b2 q x p = if p < q + 1 ∧ ¬ P then nI 0 else bd p := fun p => by
  by_cases e : p = q
  · rw [e, upd_s, hx]
    by_cases c : P
    · rw [if_pos c, if_neg (fun w => w.2 c), h q, if_neg (fun w => w.2 c)]
    · rw [if_neg c, if_pos ⟨Nat.lt_succ_self q, c⟩]
  · rw [upd_n e, h p]
    by_cases c : P
    · rw [if_neg (fun w => w.2 c), if_neg (fun w => w.2 c)]
    · by_cases d : p < q
      · rw [if_pos ⟨d, c⟩, if_pos ⟨by omega, c⟩]
      · rw [if_neg (fun w => d w.1), if_neg (fun w => absurd w.1 (by omega))]
theorem rd_end {b2 bd : wF} {P : Prop} [Decidable P] (h : ∀ p, b2 p = if p < 36 ∧ ¬ P then nI 0 else bd p) : ∀ p, p < 36 → b2 p = if P then bd p else nI 0 := fun p hp => by
  rw [h p]
  by_cases c : P
  · rw [if_neg (fun w => w.2 c), if_pos c]
  · rw [if_pos ⟨hp, c⟩, if_neg c]
theorem ix_36 {k mc mr : Nat} (hm : 1 ≤ mc ∧ mc ≤ 4) (hr : mr ≤ 4) (h : k < mr * mc) : 6 * (k / mc) + k % mc < 36 := by
  obtain ⟨h1, h2, -⟩ := dm_3 hm hr h
  omega

theorem kL_reads_c44 : Cond.constant RL 44 (-1000004) ∈ wsL_reads := by decide +kernel
set_option maxHeartbeats 4000000 in
set_option maxRecDepth 100000 in
/-- kL_reads0 -/
theorem kL_reads0 (l : Launch) (G : wG) (oa ga aa ba wa n r k c o ta tb tt : Nat) (u : OD) (g ad bd fd rd : wF) (wd : Nat → Int64) (s : wF) (T : Nat → Nat) (y : Nat) (hI : OI n r k c o 0 ta tb tt u s T 0) (hL : LR n r k c o 0 ta tb tt g ad bd fd rd wd s) (hy : y < 10000000) (hw : y % 2 = 0) : CI (S := OD × wF × wF × wF × (Nat → Int64)) l yL_reads wsL_reads (rm 7 150) G [.ref oa, .ref ga, .ref aa, .ref ba, .ref wa, .int (nI y)] (List.flatten [[(ga, ai G 9 g)], [(aa, ai G 36 ad)], [(ba, ai G 36 bd)], [(wa, al G 1 wd)], wO G oa u]) (fun x u9 => x = nI 1 ∧ LI u9.1 u9.2.1 u9.2.2.1 u9.2.2.2.1 fd rd u9.2.2.2.2) (fun u9 => List.flatten [[(ga, ai G 9 u9.2.1)], [(aa, ai G 36 u9.2.2.1)], [(ba, ai G 36 u9.2.2.2.1)], [(wa, al G 1 u9.2.2.2.2)], wO G oa u9.1]) := by
  refine CI.ofZ (own := RL) rfl (by decide) rfl (Nat.le_of_ble_eq_true rfl) ?_
  intro p9 e9 s9 m9 b9 t9 c9 A xE xB xM xO xT xK xP xD Q xQ xS ls hl
  have xL : lv_has ls 16 [(0, .ref oa), (1, .ref ga), (2, .ref aa), (3, .ref ba), (4, .ref wa), (5, .int (nI y))] := hl
  have hL0 := hL
  obtain ⟨⟨hg0, hg1, hg2, hg3, hg4, hg5⟩, hg6, hA, hB, hF, z, hz, hz2, hZ⟩ := hL
  have hN := hI.num
  have hn := hN.2.1
  have hm := hN.2.2.1
  have hb1 := hN.2.2.2.1
  refine lv_iload xE xB dL_reads_0 (lv_at xL 5 rfl) ?_
  refine lv_iconst (v := nI 2) xE xB dL_reads_2 (by decide) ?_
  refine q_irem xE xB dL_reads_3 (by omega) (by omega) (by omega) ?_
  refine q_eq (y := nI 0) (congrArg nI hw) ?_
  refine lv_istore (lv' := [(6, .int (nI 0)), (0, .ref oa), (1, .ref ga), (2, .ref aa), (3, .ref ba), (4, .ref wa), (5, .int (nI y))]) xE xB dL_reads_4 xL (by decide) rfl (fun ls xL => ?_)
  refine lv_iconst (v := nI 1) xE xB dL_reads_6 (by decide) ?_
  refine lv_iload xE xB dL_reads_7 (lv_at xL 6 rfl) ?_
  refine lv_iconst (v := nI 2) xE xB dL_reads_9 (by decide) ?_
  refine q_idiv xE xB dL_reads_10 (by omega) (by omega) (by omega) ?_
  refine lv_iconst (v := nI 4) xE xB dL_reads_11 (by decide) ?_
  refine q_irem xE xB dL_reads_12 (by omega) (by omega) (by omega) ?_
  refine q_iadd xE xB dL_reads_13 ?_
  obtain ⟨mr, hmr⟩ : ∃ q : Nat, q = 1 + ((y / 2) % 4) := ⟨_, rfl⟩
  refine q_eq (y := nI mr) (congrArg nI hmr.symm) ?_
  have hmr : 1 ≤ mr ∧ mr ≤ 4 := (by omega)
  refine lv_istore (lv' := [(7, .int (nI mr)), (6, .int (nI 0)), (0, .ref oa), (1, .ref ga), (2, .ref aa), (3, .ref ba), (4, .ref wa), (5, .int (nI y))]) xE xB dL_reads_14 xL (by decide) rfl (fun ls xL => ?_)
  refine lv_iconst (v := nI 1) xE xB dL_reads_16 (by decide) ?_
  refine lv_iload xE xB dL_reads_17 (lv_at xL 7 rfl) ?_
  refine lv_bipush (v := nI 8) xE xB dL_reads_19 (by decide) ?_
  refine q_idiv xE xB dL_reads_21 (by omega) (by omega) (by omega) ?_
  refine lv_iconst (v := nI 4) xE xB dL_reads_22 (by decide) ?_
  refine q_irem xE xB dL_reads_23 (by omega) (by omega) (by omega) ?_
  refine q_iadd xE xB dL_reads_24 ?_
  obtain ⟨mc, hmc⟩ : ∃ q : Nat, q = 1 + ((y / 8) % 4) := ⟨_, rfl⟩
  refine q_eq (y := nI mc) (congrArg nI hmc.symm) ?_
  have hmc : 1 ≤ mc ∧ mc ≤ 4 := (by omega)
  have h16 := dm_4 hmc hmr
  refine lv_istore (lv' := [(8, .int (nI mc)), (7, .int (nI mr)), (6, .int (nI 0)), (0, .ref oa), (1, .ref ga), (2, .ref aa), (3, .ref ba), (4, .ref wa), (5, .int (nI y))]) xE xB dL_reads_25 xL (by decide) rfl (fun ls xL => ?_)
  refine lv_aload_n xE xB dL_reads_27 rfl (lv_at xL 3 rfl) ?_
  refine q_VIL (As := []) (rest := []) ⟨xE, xB, xM, xO, xT⟩ (kO_clearText l G oa n r k c o 0 ta tb tt 0 u s T (by first | assumption | omega)) (cwV 0 xT gL_reads_X6_clearText rfl rfl rfl (by decide +kernel) ⟨Nat.le_of_ble_eq_true rfl, Nat.le_of_ble_eq_true rfl⟩) xK xP xD xS [4] [0, 1, 2, 3] 5 rfl (by decide) (Lc := [wO G oa u]) rfl rfl (fun u_28 => [[(ga, ai G 9 g)], [(aa, ai G 36 ad)], [(ba, ai G 36 bd)], [(wa, al G 1 wd)], wO G oa u_28]) (fun u_28 => [wO G oa u_28]) (fun _ => rfl) (fun _ => rfl) (fun _ => rfl) (fun _ => rfl) 0 rfl rfl rfl rfl xL.1 rfl (Nat.le_of_ble_eq_true rfl) dL_reads_28 ⟨Nat.le_refl _, Nat.le_refl _⟩ (fun r_28 u_28 H locs h_28 xP xD xS => ?_)
  replace h_28 : r_28 = nI 0 ∧ OI n r k c o 0 ta tb tt u_28 s T 0 := h_28
  obtain ⟨q_28, h_28⟩ := h_28
  subst q_28
  refine lv_if_lt (tgt := 38) xE xB dL_reads_31 (by decide) (fun h9 => absurd h9 (by decide)) (fun _ => ?_)
  refine lv_iconst (v := nI 1) xE xB dL_reads_34 (by decide) ?_
  refine lv_goto (tgt := 39) xE xB dL_reads_35 (by decide) ?_
  refine lv_istore (lv' := [(9, .int (nI 1)), (8, .int (nI mc)), (7, .int (nI mr)), (6, .int (nI 0)), (0, .ref oa), (1, .ref ga), (2, .ref aa), (3, .ref ba), (4, .ref wa), (5, .int (nI y))]) xE xB dL_reads_39 xL (by decide) rfl (fun ls xL => ?_)
  refine lv_iload xE xB dL_reads_41 (lv_at xL 3 rfl) ?_
  refine lv_if_ne (tgt := 50) xE xB dL_reads_43 (by decide) (fun h9 => absurd (by decide) h9) (fun _ => ?_)
  refine lv_aload_n xE xB dL_reads_46 rfl (lv_at xL 6 rfl) ?_
  refine lv_goto (tgt := 51) xE xB dL_reads_47 (by decide) ?_
  refine lv_astore (lv' := [(10, .ref aa), (9, .int (nI 1)), (8, .int (nI mc)), (7, .int (nI mr)), (6, .int (nI 0)), (0, .ref oa), (1, .ref ga), (2, .ref aa), (3, .ref ba), (4, .ref wa), (5, .int (nI y))]) xE xB dL_reads_51 xL (by decide) rfl (fun ls xL => ?_)
  refine lv_iload xE xB dL_reads_53 (lv_at xL 4 rfl) ?_
  refine lv_if_ne (tgt := 62) xE xB dL_reads_55 (by decide) (fun h9 => absurd (by decide) h9) (fun _ => ?_)
  refine lv_aload_n xE xB dL_reads_58 rfl (lv_at xL 8 rfl) ?_
  refine lv_goto (tgt := 63) xE xB dL_reads_59 (by decide) ?_
  refine lv_astore (lv' := [(11, .ref ba), (10, .ref aa), (9, .int (nI 1)), (8, .int (nI mc)), (7, .int (nI mr)), (6, .int (nI 0)), (0, .ref oa), (1, .ref ga), (2, .ref aa), (3, .ref ba), (4, .ref wa), (5, .int (nI y))]) xE xB dL_reads_63 xL (by decide) rfl (fun ls xL => ?_)
  refine lv_aload_n xE xB dL_reads_65 rfl (lv_at xL 7 rfl) ?_
  refine lv_iconst (v := nI 5) xE xB dL_reads_66 (by decide) ?_
  refine q_ald xE xB xK xP 0 rfl (by omega) (by decide) dL_reads_67 ?_
  refine q_eq (y := nI 0) (hg5) ?_
  refine lv_if_ne (tgt := 75) xE xB dL_reads_68 (by decide) (fun h9 => absurd (by decide) h9) (fun _ => ?_)
  refine lv_iconst (v := nI 1) xE xB dL_reads_71 (by decide) ?_
  refine lv_goto (tgt := 76) xE xB dL_reads_72 (by decide) ?_
  refine lv_istore (lv' := [(12, .int (nI 1)), (11, .ref ba), (10, .ref aa), (9, .int (nI 1)), (8, .int (nI mc)), (7, .int (nI mr)), (6, .int (nI 0)), (0, .ref oa), (1, .ref ga), (2, .ref aa), (3, .ref ba), (4, .ref wa), (5, .int (nI y))]) xE xB dL_reads_76 xL (by decide) rfl (fun ls xL => ?_)
  refine lv_iload xE xB dL_reads_78 (lv_at xL 6 rfl) ?_
  refine lv_if_ne (tgt := 88) xE xB dL_reads_80 (by decide) (fun h9 => absurd (by decide) h9) (fun _ => ?_)
  refine lv_iload xE xB dL_reads_83 (lv_at xL 4 rfl) ?_
  refine lv_goto (tgt := 90) xE xB dL_reads_85 (by decide) ?_
  refine lv_istore (lv' := [(13, .int (nI mc)), (12, .int (nI 1)), (11, .ref ba), (10, .ref aa), (9, .int (nI 1)), (8, .int (nI mc)), (7, .int (nI mr)), (6, .int (nI 0)), (0, .ref oa), (1, .ref ga), (2, .ref aa), (3, .ref ba), (4, .ref wa), (5, .int (nI y))]) xE xB dL_reads_90 xL (by decide) rfl (fun ls xL => ?_)
  refine lv_iconst (v := nI 0) xE xB dL_reads_92 (by decide) ?_
  refine lv_istore (lv' := [(14, .int (nI 0)), (13, .int (nI mc)), (12, .int (nI 1)), (11, .ref ba), (10, .ref aa), (9, .int (nI 1)), (8, .int (nI mc)), (7, .int (nI mr)), (6, .int (nI 0)), (0, .ref oa), (1, .ref ga), (2, .ref aa), (3, .ref ba), (4, .ref wa), (5, .int (nI y))]) xE xB dL_reads_93 xL (by decide) rfl (fun ls xL => ?_)
  have L_95 : ∀ (n_95 : Nat) (q : Nat) (a2 b2 : wF), (q ≤ 36) → (∀ p, p < q → a2 p = nI 0) → (∀ p, b2 p = if p < q ∧ ¬ mc = k then nI 0 else bd p) → 36 - q < n_95 → ∀ (H : Heap) (locs : List Loc), va_P G.1 vwCl (List.flatten [[(ga, ai G 9 g)], [(aa, ai G 36 a2)], [(ba, ai G 36 b2)], [(wa, al G 1 wd)], wO G oa u_28]) H → va_D A (List.flatten [[(ga, ai G 9 g)], [(aa, ai G 36 a2)], [(ba, ai G 36 b2)], [(wa, al G 1 wd)], wO G oa u_28]) → va_S A s9.heap H locs → ∀ (ls : Array Slot), lv_has ls 16 [(0, .ref oa), (1, .ref ga), (2, .ref aa), (3, .ref ba), (4, .ref wa), (5, .int (nI y)), (6, .int (nI 0)), (7, .int (nI mr)), (8, .int (nI mc)), (9, .int (nI 1)), (12, .int (nI 1)), (13, .int (nI mc)), (10, .ref aa), (11, .ref ba), (14, .int (nI q))] → W p9 l e9 (rm 7 150) s9 m9 ([.ref oa, .ref ga, .ref aa, .ref ba, .ref wa, .int (nI y)] : List Value).toArray b9 t9 c9 H locs 0 0 Q (F0 m9 95 ls []) := by
    intro n_95
    induction n_95 with
    | zero => intro q a2 b2 hq ha2 hb2 hm_95 H locs xP xD xS ls xL; exact absurd hm_95 (Nat.not_lt_zero _)
    | succ n_95 ih_95 =>
      intro q a2 b2 hq ha2 hb2 hm_95 H locs xP xD xS ls xL
      refine lv_iload xE xB dL_reads_95 (lv_at xL 14 rfl) ?_
      refine lv_bipush (v := nI 36) xE xB dL_reads_97 (by decide) ?_
      refine q_icmp_ge (tgt := 141) xE xB dL_reads_99 (by decide) (by omega) (by omega) (fun c_99 => ?_) (fun c_99 => ?_)
      · skip
        obtain rfl : q = 36 := (by omega)
        refine lv_iconst (v := nI 0) xE xB dL_reads_141 (by decide) ?_
        refine lv_istore (lv' := [(14, .int (nI 0)), (0, .ref oa), (1, .ref ga), (2, .ref aa), (3, .ref ba), (4, .ref wa), (5, .int (nI y)), (6, .int (nI 0)), (7, .int (nI mr)), (8, .int (nI mc)), (9, .int (nI 1)), (12, .int (nI 1)), (13, .int (nI mc)), (10, .ref aa), (11, .ref ba)]) xE xB dL_reads_142 xL (by decide) rfl (fun ls xL => ?_)
        have L_144 : ∀ (n_144 : Nat) (q : Nat) (a3 : wF) (u3 : OD) (T3 : Nat → Nat) (t3 : Nat), (q ≤ mr * mc) → (OI n r k c o 0 ta tb tt u3 s T3 t3) → (TS mc a3 T3 t3 q) → (t3 ≤ 4 * q ∧ (0 < q → 0 < t3)) → mr * mc - q < n_144 → ∀ (H : Heap) (locs : List Loc), va_P G.1 vwCl (List.flatten [[(ga, ai G 9 g)], [(aa, ai G 36 a3)], [(ba, ai G 36 b2)], [(wa, al G 1 wd)], wO G oa u3]) H → va_D A (List.flatten [[(ga, ai G 9 g)], [(aa, ai G 36 a3)], [(ba, ai G 36 b2)], [(wa, al G 1 wd)], wO G oa u3]) → va_S A s9.heap H locs → ∀ (ls : Array Slot), lv_has ls 16 [(0, .ref oa), (1, .ref ga), (2, .ref aa), (3, .ref ba), (4, .ref wa), (5, .int (nI y)), (6, .int (nI 0)), (7, .int (nI mr)), (8, .int (nI mc)), (9, .int (nI 1)), (12, .int (nI 1)), (13, .int (nI mc)), (10, .ref aa), (11, .ref ba), (14, .int (nI q))] → W p9 l e9 (rm 7 150) s9 m9 ([.ref oa, .ref ga, .ref aa, .ref ba, .ref wa, .int (nI y)] : List Value).toArray b9 t9 c9 H locs 0 0 Q (F0 m9 144 ls []) := by
          intro n_144
          induction n_144 with
          | zero => intro q a3 u3 T3 t3 hq3 hI3 hS3 hl3 hm_144 H locs xP xD xS ls xL; exact absurd hm_144 (Nat.not_lt_zero _)
          | succ n_144 ih_144 =>
            intro q a3 u3 T3 t3 hq3 hI3 hS3 hl3 hm_144 H locs xP xD xS ls xL
            refine lv_iload xE xB dL_reads_144 (lv_at xL 14 rfl) ?_
            refine lv_iload xE xB dL_reads_146 (lv_at xL 7 rfl) ?_
            refine lv_iload xE xB dL_reads_148 (lv_at xL 8 rfl) ?_
            refine q_imul xE xB dL_reads_150 ?_
            refine q_icmp_ge (tgt := 275) xE xB dL_reads_151 (by decide) (by omega) (by omega) (fun c_151 => ?_) (fun c_151 => ?_)
            · skip
              have hqe : q = mr * mc := (by omega)
              have hS9 := hS3
              rw [hqe] at hS9
              obtain ⟨hs1, hs2, hs3, hs4⟩ := TS_end hmc hmr hS9
              refine lv_iload xE xB dL_reads_275 (lv_at xL 9 rfl) ?_
              refine lv_if_eq (tgt := 325) xE xB dL_reads_277 (by decide) (fun h9 => absurd h9 (by decide)) (fun _ => ?_)
              refine lv_aload_n xE xB dL_reads_280 rfl (lv_at xL 0 rfl) ?_
              refine lv_iconst (v := nI 0) xE xB dL_reads_281 (by decide) ?_
              refine q_VIL (As := [.int (nI 0)]) (rest := []) ⟨xE, xB, xM, xO, xT⟩ (kO_textFault l G oa n r k c o 0 ta tb tt t3 u3 s T3 (by first | assumption | omega) hs1) (cwV 1 xT gL_reads_X6_textFault rfl rfl rfl (by decide +kernel) ⟨Nat.le_of_ble_eq_true rfl, Nat.le_of_ble_eq_true rfl⟩) xK xP xD xS [4] [0, 1, 2, 3] 5 rfl (by decide) (Lc := [wO G oa u3]) rfl rfl (fun u_282 => [[(ga, ai G 9 g)], [(aa, ai G 36 a3)], [(ba, ai G 36 b2)], [(wa, al G 1 wd)], wO G oa u_282]) (fun u_282 => [wO G oa u_282]) (fun _ => rfl) (fun _ => rfl) (fun _ => rfl) (fun _ => rfl) 0 rfl rfl rfl rfl xL.1 rfl (Nat.le_of_ble_eq_true rfl) dL_reads_282 ⟨Nat.le_refl _, Nat.le_refl _⟩ (fun r_282 u_282 H locs h_282 xP xD xS => ?_)
              replace h_282 : r_282 = (-1000004) ∧ OI n r k c o 0 ta tb tt u_282 s T3 t3 := h_282
              obtain ⟨q_282, h_282⟩ := h_282
              subst q_282
              refine lv_ldc (v := (-1000004)) xE xB xO (xT _ kL_reads_c44) dL_reads_285 ?_
              refine lv_icmp_ne (tgt := 325) xE xB dL_reads_287 (by decide) (fun c_287 => absurd c_287 (by decide)) (fun c_287 => ?_)
              refine lv_aload_n xE xB dL_reads_290 rfl (lv_at xL 0 rfl) ?_
              refine lv_iload xE xB dL_reads_291 (lv_at xL 6 rfl) ?_
              refine q_VIL (As := [.int (nI 0)]) (rest := []) ⟨xE, xB, xM, xO, xT⟩ (kO_readL l G oa n r k c o 0 ta tb tt t3 u_282 s T3 (by first | assumption | omega) (by rfl) hs1) (cwV 1 xT gL_reads_X6_read rfl rfl rfl (by decide +kernel) ⟨Nat.le_of_ble_eq_true rfl, Nat.le_of_ble_eq_true rfl⟩) xK xP xD xS [4] [0, 1, 2, 3] 5 rfl (by decide) (Lc := [wO G oa u_282]) rfl rfl (fun u_293 => [[(ga, ai G 9 g)], [(aa, ai G 36 a3)], [(ba, ai G 36 b2)], [(wa, al G 1 wd)], wO G oa u_293]) (fun u_293 => [wO G oa u_293]) (fun _ => rfl) (fun _ => rfl) (fun _ => rfl) (fun _ => rfl) 0 rfl rfl rfl rfl xL.1 rfl (Nat.le_of_ble_eq_true rfl) dL_reads_293 ⟨Nat.le_refl _, Nat.le_refl _⟩ (fun r_293 u_293 H locs h_293 xP xD xS => ?_)
              replace h_293 : r_293 = nI (scM T3 t3 * scC T3 t3) ∧ OI n (scM T3 t3) (scC T3 t3) c o 0 ta tb tt u_293 (rdL (scM T3 t3) (scC T3 t3) (scF T3 t3) s) T3 t3 := h_293
              obtain ⟨q_293, h_293⟩ := h_293
              subst q_293
              rw [hs2, hs3] at h_293
              refine q_eq (y := nI (mr * mc)) (by rw [hs2, hs3]) ?_
              refine lv_iload xE xB dL_reads_296 (lv_at xL 10 rfl) ?_
              refine lv_if_eq (tgt := 309) xE xB dL_reads_298 (by decide) (fun h9 => absurd h9 (by decide)) (fun _ => ?_)
              refine lv_iload xE xB dL_reads_301 (lv_at xL 7 rfl) ?_
              refine lv_iload xE xB dL_reads_303 (lv_at xL 8 rfl) ?_
              refine q_imul xE xB dL_reads_305 ?_
              refine lv_goto (tgt := 311) xE xB dL_reads_306 (by decide) ?_
              refine q_icmp_ne (tgt := 325) xE xB dL_reads_311 (by decide) (by omega) (by omega) (fun c_311 => absurd c_311 (by omega)) (fun c_311 => ?_)
              refine lv_aload_n xE xB dL_reads_314 rfl (lv_at xL 0 rfl) ?_
              refine q_VIL (As := []) (rest := []) ⟨xE, xB, xM, xO, xT⟩ (kO_clearText l G oa n mr mc c o 0 ta tb tt t3 u_293 (rdL mr mc (scF T3 t3) s) T3 (by first | assumption | omega)) (cwV 0 xT gL_reads_X6_clearText rfl rfl rfl (by decide +kernel) ⟨Nat.le_of_ble_eq_true rfl, Nat.le_of_ble_eq_true rfl⟩) xK xP xD xS [4] [0, 1, 2, 3] 5 rfl (by decide) (Lc := [wO G oa u_293]) rfl rfl (fun u_315 => [[(ga, ai G 9 g)], [(aa, ai G 36 a3)], [(ba, ai G 36 b2)], [(wa, al G 1 wd)], wO G oa u_315]) (fun u_315 => [wO G oa u_315]) (fun _ => rfl) (fun _ => rfl) (fun _ => rfl) (fun _ => rfl) 0 rfl rfl rfl rfl xL.1 rfl (Nat.le_of_ble_eq_true rfl) dL_reads_315 ⟨Nat.le_refl _, Nat.le_refl _⟩ (fun r_315 u_315 H locs h_315 xP xD xS => ?_)
              replace h_315 : r_315 = nI t3 ∧ OI n mr mc c o 0 ta tb tt u_315 (rdL mr mc (scF T3 t3) s) T3 0 := h_315
              obtain ⟨q_315, h_315⟩ := h_315
              subst q_315
              refine q_if_le (tgt := 325) xE xB dL_reads_318 (by decide) (by omega) (fun c_318 => absurd c_318 (by have := hl3.2 (by omega); omega)) (fun c_318 => ?_)
              refine lv_iconst (v := nI 1) xE xB dL_reads_321 (by decide) ?_
              refine lv_goto (tgt := 326) xE xB dL_reads_322 (by decide) ?_
              refine lv_istore (lv' := [(9, .int (nI 1)), (0, .ref oa), (1, .ref ga), (2, .ref aa), (3, .ref ba), (4, .ref wa), (5, .int (nI y)), (6, .int (nI 0)), (7, .int (nI mr)), (8, .int (nI mc)), (12, .int (nI 1)), (13, .int (nI mc)), (10, .ref aa), (11, .ref ba), (14, .int (nI q))]) xE xB dL_reads_326 xL (by decide) rfl (fun ls xL => ?_)
              refine lv_iload xE xB dL_reads_328 (lv_at xL 10 rfl) ?_
              refine lv_if_eq (tgt := 367) xE xB dL_reads_330 (by decide) (fun h9 => absurd h9 (by decide)) (fun _ => ?_)
              refine lv_aload_n xE xB dL_reads_333 rfl (lv_at xL 2 rfl) ?_
              refine lv_iconst (v := nI 2) xE xB dL_reads_334 (by decide) ?_
              refine lv_iload xE xB dL_reads_335 (lv_at xL 11 rfl) ?_
              refine q_ast xE xB xK xP xD xS 0 rfl (by omega) (by decide) dL_reads_337 (fun H locs xP xD xS => ?_)
              have xP : va_P G.1 vwCl (List.flatten [[(ga, ai G 9 (upd g 2 (nI mc)))], [(aa, ai G 36 a3)], [(ba, ai G 36 b2)], [(wa, al G 1 wd)], wO G oa u_315]) H := xP
              have xD : va_D A (List.flatten [[(ga, ai G 9 (upd g 2 (nI mc)))], [(aa, ai G 36 a3)], [(ba, ai G 36 b2)], [(wa, al G 1 wd)], wO G oa u_315]) := xD
              refine lv_aload_n xE xB dL_reads_338 rfl (lv_at xL 2 rfl) ?_
              refine lv_iload xE xB dL_reads_339 (lv_at xL 7 rfl) ?_
              refine lv_if_ne (tgt := 348) xE xB dL_reads_341 (by decide) (fun h9 => absurd (by decide) h9) (fun _ => ?_)
              refine lv_iconst (v := nI 1) xE xB dL_reads_344 (by decide) ?_
              refine lv_goto (tgt := 349) xE xB dL_reads_345 (by decide) ?_
              refine lv_iload xE xB dL_reads_349 (lv_at xL 7 rfl) ?_
              refine lv_if_ne (tgt := 359) xE xB dL_reads_351 (by decide) (fun h9 => absurd (by decide) h9) (fun _ => ?_)
              refine lv_iload xE xB dL_reads_354 (lv_at xL 8 rfl) ?_
              refine lv_goto (tgt := 361) xE xB dL_reads_356 (by decide) ?_
              refine q_ast xE xB xK xP xD xS 0 rfl (by omega) (by decide) dL_reads_361 (fun H locs xP xD xS => ?_)
              have xP : va_P G.1 vwCl (List.flatten [[(ga, ai G 9 (upd (upd g 2 (nI mc)) 1 (nI mr)))], [(aa, ai G 36 a3)], [(ba, ai G 36 b2)], [(wa, al G 1 wd)], wO G oa u_315]) H := xP
              have xD : va_D A (List.flatten [[(ga, ai G 9 (upd (upd g 2 (nI mc)) 1 (nI mr)))], [(aa, ai G 36 a3)], [(ba, ai G 36 b2)], [(wa, al G 1 wd)], wO G oa u_315]) := xD
              refine lv_aload xE xB dL_reads_362 (lv_at xL 5 rfl) ?_
              refine lv_iconst (v := nI 0) xE xB dL_reads_364 (by decide) ?_
              refine lv_lconst (v := lN 0) xE xB dL_reads_365 (by decide) ?_
              refine q_last xE xB xK xP xD xS 3 rfl (by omega) (by decide) dL_reads_366 (fun H locs xP xD xS => ?_)
              have xP : va_P G.1 vwCl (List.flatten [[(ga, ai G 9 (upd (upd g 2 (nI mc)) 1 (nI mr)))], [(aa, ai G 36 a3)], [(ba, ai G 36 b2)], [(wa, al G 1 (vp_updL wd 0 (lN 0)))], wO G oa u_315]) H := xP
              have xD : va_D A (List.flatten [[(ga, ai G 9 (upd (upd g 2 (nI mc)) 1 (nI mr)))], [(aa, ai G 36 a3)], [(ba, ai G 36 b2)], [(wa, al G 1 (vp_updL wd 0 (lN 0)))], wO G oa u_315]) := xD
              refine lv_iload xE xB dL_reads_367 (lv_at xL 0 rfl) ?_
              exact xQ _ _ _ _ _ (_, _, _, _, _) (by exact ⟨rfl, n, mr, mc, c, o, 0, ta, tb, tt, _, _, h_315, LR_readL hL0 hN.1.2.2.1 (by omega) (by omega) hs4 (rd_end hb2)⟩) (by decide) xP xD xS dL_reads_369
            · skip
              have hd3 := dm_3 hmc hmr.2 c_151
              refine lv_iload xE xB dL_reads_154 (lv_at xL 5 rfl) ?_
              refine lv_iconst (v := nI 1) xE xB dL_reads_156 (by decide) ?_
              refine lv_iconst (v := nI 3) xE xB dL_reads_157 (by decide) ?_
              refine lv_iload xE xB dL_reads_158 (lv_at xL 14 rfl) ?_
              refine q_imul xE xB dL_reads_160 ?_
              refine q_iadd xE xB dL_reads_161 ?_
              refine q_idiv xE xB dL_reads_162 (by omega) (by omega) (by omega) ?_
              refine lv_bipush (v := nI 17) xE xB dL_reads_163 (by decide) ?_
              refine lv_iload xE xB dL_reads_165 (lv_at xL 14 rfl) ?_
              refine q_imul xE xB dL_reads_167 ?_
              refine q_iadd xE xB dL_reads_168 ?_
              refine lv_sipush (v := nI 199) xE xB dL_reads_169 (by decide) ?_
              refine q_irem xE xB dL_reads_172 (by have := Nat.div_le_self y (1 + 3 * q); omega) (by have := Nat.div_le_self y (1 + 3 * q); omega) (by have := Nat.div_le_self y (1 + 3 * q); omega) ?_
              refine lv_bipush (v := nI 99) xE xB dL_reads_173 (by decide) ?_
              refine lv_isub xE xB dL_reads_175 ?_
              obtain ⟨v0, hv0, hve⟩ : ∃ v : Int32, bV v ∧ v = (nI (((y / (1 + (3 * q))) + (17 * q)) % 199)) - (nI 99) := ⟨_, bV_sub (Nat.mod_lt _ (by decide)), rfl⟩
              refine q_eq (y := v0) hve.symm ?_
              refine lv_istore (lv' := [(15, .int v0), (0, .ref oa), (1, .ref ga), (2, .ref aa), (3, .ref ba), (4, .ref wa), (5, .int (nI y)), (6, .int (nI 0)), (7, .int (nI mr)), (8, .int (nI mc)), (9, .int (nI 1)), (12, .int (nI 1)), (13, .int (nI mc)), (10, .ref aa), (11, .ref ba), (14, .int (nI q))]) xE xB dL_reads_176 xL (by decide) rfl (fun ls xL => ?_)
              have J_195 : ∀ (x : Int32), (bV x) → ∀ (H : Heap) (locs : List Loc), va_P G.1 vwCl (List.flatten [[(ga, ai G 9 g)], [(aa, ai G 36 a3)], [(ba, ai G 36 b2)], [(wa, al G 1 wd)], wO G oa u3]) H → va_D A (List.flatten [[(ga, ai G 9 g)], [(aa, ai G 36 a3)], [(ba, ai G 36 b2)], [(wa, al G 1 wd)], wO G oa u3]) → va_S A s9.heap H locs → ∀ (ls : Array Slot), lv_has ls 16 [(0, .ref oa), (1, .ref ga), (2, .ref aa), (3, .ref ba), (4, .ref wa), (5, .int (nI y)), (6, .int (nI 0)), (7, .int (nI mr)), (8, .int (nI mc)), (9, .int (nI 1)), (12, .int (nI 1)), (13, .int (nI mc)), (10, .ref aa), (11, .ref ba), (14, .int (nI q))] → W p9 l e9 (rm 7 150) s9 m9 ([.ref oa, .ref ga, .ref aa, .ref ba, .ref wa, .int (nI y)] : List Value).toArray b9 t9 c9 H locs 0 0 Q (F0 m9 195 ls [.int x]) := by
                intro x hx H locs xP xD xS ls xL
                refine lv_istore (lv' := [(15, .int x), (0, .ref oa), (1, .ref ga), (2, .ref aa), (3, .ref ba), (4, .ref wa), (5, .int (nI y)), (6, .int (nI 0)), (7, .int (nI mr)), (8, .int (nI mc)), (9, .int (nI 1)), (12, .int (nI 1)), (13, .int (nI mc)), (10, .ref aa), (11, .ref ba), (14, .int (nI q))]) xE xB dL_reads_195 xL (by decide) rfl (fun ls xL => ?_)
                have J_229 : ∀ (u4 : OD) (T4 : Nat → Nat) (t4 : Nat), (OI n r k c o 0 ta tb tt u4 s T4 t4) → (PS mc a3 T4 t4 q) → (t4 ≤ 4 * q + 1) → ∀ (H : Heap) (locs : List Loc), va_P G.1 vwCl (List.flatten [[(ga, ai G 9 g)], [(aa, ai G 36 a3)], [(ba, ai G 36 b2)], [(wa, al G 1 wd)], wO G oa u4]) H → va_D A (List.flatten [[(ga, ai G 9 g)], [(aa, ai G 36 a3)], [(ba, ai G 36 b2)], [(wa, al G 1 wd)], wO G oa u4]) → va_S A s9.heap H locs → ∀ (ls : Array Slot), lv_has ls 16 [(0, .ref oa), (1, .ref ga), (2, .ref aa), (3, .ref ba), (4, .ref wa), (5, .int (nI y)), (6, .int (nI 0)), (7, .int (nI mr)), (8, .int (nI mc)), (9, .int (nI 1)), (12, .int (nI 1)), (13, .int (nI mc)), (10, .ref aa), (11, .ref ba), (14, .int (nI q)), (15, .int x)] → W p9 l e9 (rm 7 150) s9 m9 ([.ref oa, .ref ga, .ref aa, .ref ba, .ref wa, .int (nI y)] : List Value).toArray b9 t9 c9 H locs 0 0 Q (F0 m9 229 ls []) := by
                  intro u4 T4 t4 hI4 hP4 hl4 H locs xP xD xS ls xL
                  refine lv_aload_n xE xB dL_reads_229 rfl (lv_at xL 0 rfl) ?_
                  refine lv_iload xE xB dL_reads_230 (lv_at xL 15 rfl) ?_
                  refine q_SIL (As := [.ref oa, .int x]) (rest := []) ⟨xE, xB, xM, xO, xT⟩ (kL_types l G oa n r k c o 0 ta tb tt t4 u4 s T4 x (by first | assumption | omega) (by omega) (by first | assumption | omega)) (va_cwS 2 xT gL_reads_L_types rfl rfl rfl (by decide +kernel) ⟨Nat.le_of_ble_eq_true rfl, Nat.le_of_ble_eq_true rfl⟩) xK xP xD xS [4] [0, 1, 2, 3] 5 rfl (by decide) (Lc := [wO G oa u4]) rfl rfl (fun u_232 => [[(ga, ai G 9 g)], [(aa, ai G 36 a3)], [(ba, ai G 36 b2)], [(wa, al G 1 wd)], wO G oa u_232]) (fun u_232 => [wO G oa u_232]) (fun _ => rfl) (fun _ => rfl) (fun _ => rfl) (fun _ => rfl) rfl xL.1 rfl (Nat.le_of_ble_eq_true rfl) dL_reads_232 ⟨Nat.le_refl _, Nat.le_refl _⟩ (fun r_232 u_232 H locs h_232 xP xD xS => ?_)
                  replace h_232 : r_232 = nI 1 ∧ ∃ T' tl', OI n r k c o 0 ta tb tt u_232 s T' tl' ∧ (tl' ≤ t4 + 3 ∧ t4 < tl') ∧ TY t4 T4 T' tl' x := h_232
                  obtain ⟨rx_232, T5, t5, hI5, hl5, hT5⟩ := h_232
                  subst rx_232
                  have hP5 := hP4
                  refine lv_if_eq (tgt := 242) xE xB dL_reads_235 (by decide) (fun h9 => absurd h9 (by decide)) (fun _ => ?_)
                  refine lv_iconst (v := nI 1) xE xB dL_reads_238 (by decide) ?_
                  refine lv_goto (tgt := 243) xE xB dL_reads_239 (by decide) ?_
                  refine lv_istore (lv' := [(9, .int (nI 1)), (0, .ref oa), (1, .ref ga), (2, .ref aa), (3, .ref ba), (4, .ref wa), (5, .int (nI y)), (6, .int (nI 0)), (7, .int (nI mr)), (8, .int (nI mc)), (12, .int (nI 1)), (13, .int (nI mc)), (10, .ref aa), (11, .ref ba), (14, .int (nI q)), (15, .int x)]) xE xB dL_reads_243 xL (by decide) rfl (fun ls xL => ?_)
                  refine lv_iload xE xB dL_reads_245 (lv_at xL 10 rfl) ?_
                  refine lv_if_eq (tgt := 269) xE xB dL_reads_247 (by decide) (fun h9 => absurd h9 (by decide)) (fun _ => ?_)
                  have hix := ix_36 hmc hmr.2 c_151
                  refine lv_aload xE xB dL_reads_250 (lv_at xL 12 rfl) ?_
                  refine lv_bipush (v := nI 6) xE xB dL_reads_252 (by decide) ?_
                  refine lv_iload xE xB dL_reads_254 (lv_at xL 14 rfl) ?_
                  refine lv_iload xE xB dL_reads_256 (lv_at xL 9 rfl) ?_
                  refine q_idiv xE xB dL_reads_258 (by omega) (by omega) (by omega) ?_
                  refine q_imul xE xB dL_reads_259 ?_
                  refine lv_iload xE xB dL_reads_260 (lv_at xL 14 rfl) ?_
                  refine lv_iload xE xB dL_reads_262 (lv_at xL 9 rfl) ?_
                  refine q_irem xE xB dL_reads_264 (by omega) (by omega) (by omega) ?_
                  refine q_iadd xE xB dL_reads_265 ?_
                  refine lv_iload xE xB dL_reads_266 (lv_at xL 15 rfl) ?_
                  refine q_ast xE xB xK xP xD xS 1 rfl (by omega) (by decide) dL_reads_268 (fun H locs xP xD xS => ?_)
                  have xP : va_P G.1 vwCl (List.flatten [[(ga, ai G 9 g)], [(aa, ai G 36 (upd a3 ((6 * (q / mc)) + (q % mc)) x))], [(ba, ai G 36 b2)], [(wa, al G 1 wd)], wO G oa u_232]) H := xP
                  have xD : va_D A (List.flatten [[(ga, ai G 9 g)], [(aa, ai G 36 (upd a3 ((6 * (q / mc)) + (q % mc)) x))], [(ba, ai G 36 b2)], [(wa, al G 1 wd)], wO G oa u_232]) := xD
                  refine lv_iinc (v := nI (q + 1)) (lv' := [(14, .int (nI (q + 1))), (9, .int (nI 1)), (0, .ref oa), (1, .ref ga), (2, .ref aa), (3, .ref ba), (4, .ref wa), (5, .int (nI y)), (6, .int (nI 0)), (7, .int (nI mr)), (8, .int (nI mc)), (12, .int (nI 1)), (13, .int (nI mc)), (10, .ref aa), (11, .ref ba), (15, .int x)]) xE xB dL_reads_269 xL (k := 14) rfl (q_inc _ _) (by decide) rfl (fun ls xL => ?_)
                  refine lv_goto (tgt := 144) xE xB dL_reads_272 (by decide) ?_
                  exact ih_144 (q + 1) (upd a3 ((6 * (q / mc)) + (q % mc)) x) u_232 T5 t5 (by omega) (by exact hI5) (by exact TS_next hP5 hT5) (by omega) (by omega) _ _ xP xD xS _ (lv_sub xL [2, 3, 4, 5, 6, 7, 8, 9, 10, 1, 11, 12, 13, 14, 0] rfl)
                refine lv_iload xE xB dL_reads_197 (lv_at xL 10 rfl) ?_
                refine lv_if_eq (tgt := 242) xE xB dL_reads_199 (by decide) (fun h9 => absurd h9 (by decide)) (fun _ => ?_)
                refine lv_iload xE xB dL_reads_202 (lv_at xL 15 rfl) ?_
                refine q_if_eq (tgt := 229) xE xB dL_reads_204 (by decide) (by omega) (fun c_204 => ?_) (fun c_204 => ?_)
                · skip
                  exact J_229 u3 T3 t3 (by assumption) (by first | exact PS_0 hS3 c_204 | exact PS_comma hmc hS3 c_213 ha_223 hb_223 | exact PS_semi hmc hmr.2 hS3 (by omega) c_204 c_213 ha_223 hb_223) (by omega) _ _ xP xD xS _ (lv_sub xL [1, 2, 3, 4, 5, 6, 7, 8, 9, 10, 11, 12, 13, 14, 15, 0] rfl)
                · skip
                  refine lv_aload_n xE xB dL_reads_207 rfl (lv_at xL 1 rfl) ?_
                  refine lv_iload xE xB dL_reads_208 (lv_at xL 15 rfl) ?_
                  refine lv_iload xE xB dL_reads_210 (lv_at xL 9 rfl) ?_
                  refine q_irem xE xB dL_reads_212 (by omega) (by omega) (by omega) ?_
                  refine q_if_ne (tgt := 221) xE xB dL_reads_213 (by decide) (by omega) (fun c_213 => ?_) (fun c_213 => ?_)
                  · skip
                    refine lv_bipush (v := nI 44) xE xB dL_reads_221 (by decide) ?_
                    refine q_VIL (As := [.int (nI 44)]) (rest := []) ⟨xE, xB, xM, xO, xT⟩ (kO_type2 l G oa n r k c o 0 ta tb tt t3 u3 s T3 44 (by first | assumption | omega) (by first | assumption | omega) (by first | assumption | omega) (by first | assumption | omega)) (cwV 1 xT gL_reads_X6_type rfl rfl rfl (by decide +kernel) ⟨Nat.le_of_ble_eq_true rfl, Nat.le_of_ble_eq_true rfl⟩) xK xP xD xS [4] [0, 1, 2, 3] 5 rfl (by decide) (Lc := [wO G oa u3]) rfl rfl (fun u_223 => [[(ga, ai G 9 g)], [(aa, ai G 36 a3)], [(ba, ai G 36 b2)], [(wa, al G 1 wd)], wO G oa u_223]) (fun u_223 => [wO G oa u_223]) (fun _ => rfl) (fun _ => rfl) (fun _ => rfl) (fun _ => rfl) 0 rfl rfl rfl rfl xL.1 rfl (Nat.le_of_ble_eq_true rfl) dL_reads_223 ⟨Nat.le_refl _, Nat.le_refl _⟩ (fun r_223 u_223 H locs h_223 xP xD xS => ?_)
                    replace h_223 : r_223 = nI (t3 + 1) ∧ ∃ T', (∀ j, j < t3 → T' j = T3 j) ∧ T' t3 = 44 ∧ OI n r k c o 0 ta tb tt u_223 s T' (t3 + 1) := h_223
                    obtain ⟨q_223, h_223⟩ := h_223
                    subst q_223
                    obtain ⟨T_223, ha_223, hb_223, hI_223⟩ := h_223
                    refine q_if_le (tgt := 242) xE xB dL_reads_226 (by decide) (by omega) (fun c_226 => absurd c_226 (by omega)) (fun c_226 => ?_)
                    exact J_229 u_223 T_223 (t3 + 1) (by assumption) (by first | exact PS_0 hS3 c_204 | exact PS_comma hmc hS3 c_213 ha_223 hb_223 | exact PS_semi hmc hmr.2 hS3 (by omega) c_204 c_213 ha_223 hb_223) (by omega) _ _ xP xD xS _ (lv_sub xL [1, 2, 3, 4, 5, 6, 7, 8, 9, 10, 11, 12, 13, 14, 15, 0] rfl)
                  · skip
                    refine lv_bipush (v := nI 59) xE xB dL_reads_216 (by decide) ?_
                    refine lv_goto (tgt := 223) xE xB dL_reads_218 (by decide) ?_
                    refine q_VIL (As := [.int (nI 59)]) (rest := []) ⟨xE, xB, xM, xO, xT⟩ (kO_type2 l G oa n r k c o 0 ta tb tt t3 u3 s T3 59 (by first | assumption | omega) (by first | assumption | omega) (by first | assumption | omega) (by first | assumption | omega)) (cwV 1 xT gL_reads_X6_type rfl rfl rfl (by decide +kernel) ⟨Nat.le_of_ble_eq_true rfl, Nat.le_of_ble_eq_true rfl⟩) xK xP xD xS [4] [0, 1, 2, 3] 5 rfl (by decide) (Lc := [wO G oa u3]) rfl rfl (fun u_223 => [[(ga, ai G 9 g)], [(aa, ai G 36 a3)], [(ba, ai G 36 b2)], [(wa, al G 1 wd)], wO G oa u_223]) (fun u_223 => [wO G oa u_223]) (fun _ => rfl) (fun _ => rfl) (fun _ => rfl) (fun _ => rfl) 0 rfl rfl rfl rfl xL.1 rfl (Nat.le_of_ble_eq_true rfl) dL_reads_223 ⟨Nat.le_refl _, Nat.le_refl _⟩ (fun r_223 u_223 H locs h_223 xP xD xS => ?_)
                    replace h_223 : r_223 = nI (t3 + 1) ∧ ∃ T', (∀ j, j < t3 → T' j = T3 j) ∧ T' t3 = 59 ∧ OI n r k c o 0 ta tb tt u_223 s T' (t3 + 1) := h_223
                    obtain ⟨q_223, h_223⟩ := h_223
                    subst q_223
                    obtain ⟨T_223, ha_223, hb_223, hI_223⟩ := h_223
                    refine q_if_le (tgt := 242) xE xB dL_reads_226 (by decide) (by omega) (fun c_226 => absurd c_226 (by omega)) (fun c_226 => ?_)
                    exact J_229 u_223 T_223 (t3 + 1) (by assumption) (by first | exact PS_0 hS3 c_204 | exact PS_comma hmc hS3 c_213 ha_223 hb_223 | exact PS_semi hmc hmr.2 hS3 (by omega) c_204 c_213 ha_223 hb_223) (by omega) _ _ xP xD xS _ (lv_sub xL [1, 2, 3, 4, 5, 6, 7, 8, 9, 10, 11, 12, 13, 14, 15, 0] rfl)
              refine lv_iload xE xB dL_reads_178 (lv_at xL 6 rfl) ?_
              refine lv_iconst (v := nI 3) xE xB dL_reads_180 (by decide) ?_
              refine q_irem xE xB dL_reads_181 (by omega) (by omega) (by omega) ?_
              refine q_if_le (tgt := 193) xE xB dL_reads_182 (by decide) (by omega) (fun c_182 => ?_) (fun c_182 => ?_)
              · skip
                refine lv_iload xE xB dL_reads_193 (lv_at xL 0 rfl) ?_
                exact J_195 v0 (by first | exact bV_9 hv0 | exact hv0) _ _ xP xD xS _ (lv_sub xL [1, 2, 3, 4, 5, 6, 7, 8, 9, 10, 11, 12, 13, 14, 15] rfl)
              · skip
                refine lv_iload xE xB dL_reads_185 (lv_at xL 0 rfl) ?_
                refine lv_bipush (v := nI 9) xE xB dL_reads_187 (by decide) ?_
                refine lv_idiv xE xB dL_reads_189 (by decide) ?_
                refine lv_goto (tgt := 195) xE xB dL_reads_190 (by decide) ?_
                exact J_195 (v0 / (nI 9)) (by first | exact bV_9 hv0 | exact hv0) _ _ xP xD xS _ (lv_sub xL [1, 2, 3, 4, 5, 6, 7, 8, 9, 10, 11, 12, 13, 14, 15] rfl)
        exact L_144 (mr * mc - 0 + 1) 0 a2 u_28 T 0 (by omega) (by exact h_28) (by exact Or.inl ⟨rfl, rfl, fun p hp => ha2 p (by omega)⟩) (by exact ⟨Nat.zero_le _, fun w => absurd w (Nat.lt_irrefl 0)⟩) (Nat.lt_succ_self _) _ _ xP xD xS _ (lv_sub xL [1, 2, 3, 4, 5, 6, 7, 8, 9, 10, 11, 12, 13, 14, 0] rfl)
      · skip
        refine lv_iload xE xB dL_reads_102 (lv_at xL 10 rfl) ?_
        refine lv_if_eq (tgt := 141) xE xB dL_reads_104 (by decide) (fun h9 => absurd h9 (by decide)) (fun _ => ?_)
        refine lv_aload xE xB dL_reads_107 (lv_at xL 12 rfl) ?_
        refine lv_iload xE xB dL_reads_109 (lv_at xL 14 rfl) ?_
        refine lv_iconst (v := nI 0) xE xB dL_reads_111 (by decide) ?_
        refine q_ast xE xB xK xP xD xS 1 rfl (by omega) (by decide) dL_reads_112 (fun H locs xP xD xS => ?_)
        have xP : va_P G.1 vwCl (List.flatten [[(ga, ai G 9 g)], [(aa, ai G 36 (upd a2 q (nI 0)))], [(ba, ai G 36 b2)], [(wa, al G 1 wd)], wO G oa u_28]) H := xP
        have xD : va_D A (List.flatten [[(ga, ai G 9 g)], [(aa, ai G 36 (upd a2 q (nI 0)))], [(ba, ai G 36 b2)], [(wa, al G 1 wd)], wO G oa u_28]) := xD
        refine lv_aload xE xB dL_reads_113 (lv_at xL 13 rfl) ?_
        refine lv_iload xE xB dL_reads_115 (lv_at xL 14 rfl) ?_
        refine lv_iload xE xB dL_reads_117 (lv_at xL 11 rfl) ?_
        refine lv_aload_n xE xB dL_reads_119 rfl (lv_at xL 1 rfl) ?_
        refine lv_iconst (v := nI 2) xE xB dL_reads_120 (by decide) ?_
        refine q_ald xE xB xK xP 0 rfl (by omega) (by decide) dL_reads_121 ?_
        refine q_eq (y := nI k) (hg2) ?_
        refine q_icmp_ne (tgt := 133) xE xB dL_reads_122 (by decide) (by omega) (by omega) (fun c_122 => ?_) (fun c_122 => ?_)
        · skip
          refine lv_iconst (v := nI 0) xE xB dL_reads_133 (by decide) ?_
          refine q_ast xE xB xK xP xD xS 2 rfl (by omega) (by decide) dL_reads_134 (fun H locs xP xD xS => ?_)
          have xP : va_P G.1 vwCl (List.flatten [[(ga, ai G 9 g)], [(aa, ai G 36 (upd a2 q (nI 0)))], [(ba, ai G 36 (upd b2 q (nI 0)))], [(wa, al G 1 wd)], wO G oa u_28]) H := xP
          have xD : va_D A (List.flatten [[(ga, ai G 9 g)], [(aa, ai G 36 (upd a2 q (nI 0)))], [(ba, ai G 36 (upd b2 q (nI 0)))], [(wa, al G 1 wd)], wO G oa u_28]) := xD
          refine lv_iinc (v := nI (q + 1)) (lv' := [(14, .int (nI (q + 1))), (0, .ref oa), (1, .ref ga), (2, .ref aa), (3, .ref ba), (4, .ref wa), (5, .int (nI y)), (6, .int (nI 0)), (7, .int (nI mr)), (8, .int (nI mc)), (9, .int (nI 1)), (12, .int (nI 1)), (13, .int (nI mc)), (10, .ref aa), (11, .ref ba)]) xE xB dL_reads_135 xL (k := 14) rfl (q_inc _ _) (by decide) rfl (fun ls xL => ?_)
          refine lv_goto (tgt := 95) xE xB dL_reads_138 (by decide) ?_
          exact ih_95 (q + 1) (upd a2 q (nI 0)) (upd b2 q (nI 0)) (by omega) (by exact set_up ha2) (by first | exact rd_up hb2 (if_pos c_122).symm | exact rd_up hb2 (if_neg c_122).symm) (by omega) _ _ xP xD xS _ (lv_sub xL [1, 2, 3, 4, 5, 6, 7, 8, 9, 10, 11, 12, 13, 14, 0] rfl)
        · skip
          refine lv_aload xE xB dL_reads_125 (lv_at xL 13 rfl) ?_
          refine lv_iload xE xB dL_reads_127 (lv_at xL 14 rfl) ?_
          refine q_ald xE xB xK xP 2 rfl (by omega) (by decide) dL_reads_129 ?_
          refine lv_goto (tgt := 134) xE xB dL_reads_130 (by decide) ?_
          refine q_ast xE xB xK xP xD xS 2 rfl (by omega) (by decide) dL_reads_134 (fun H locs xP xD xS => ?_)
          have xP : va_P G.1 vwCl (List.flatten [[(ga, ai G 9 g)], [(aa, ai G 36 (upd a2 q (nI 0)))], [(ba, ai G 36 (upd b2 q (b2 q)))], [(wa, al G 1 wd)], wO G oa u_28]) H := xP
          have xD : va_D A (List.flatten [[(ga, ai G 9 g)], [(aa, ai G 36 (upd a2 q (nI 0)))], [(ba, ai G 36 (upd b2 q (b2 q)))], [(wa, al G 1 wd)], wO G oa u_28]) := xD
          refine lv_iinc (v := nI (q + 1)) (lv' := [(14, .int (nI (q + 1))), (0, .ref oa), (1, .ref ga), (2, .ref aa), (3, .ref ba), (4, .ref wa), (5, .int (nI y)), (6, .int (nI 0)), (7, .int (nI mr)), (8, .int (nI mc)), (9, .int (nI 1)), (12, .int (nI 1)), (13, .int (nI mc)), (10, .ref aa), (11, .ref ba)]) xE xB dL_reads_135 xL (k := 14) rfl (q_inc _ _) (by decide) rfl (fun ls xL => ?_)
          refine lv_goto (tgt := 95) xE xB dL_reads_138 (by decide) ?_
          exact ih_95 (q + 1) (upd a2 q (nI 0)) (upd b2 q (b2 q)) (by omega) (by exact set_up ha2) (by first | exact rd_up hb2 (if_pos c_122).symm | exact rd_up hb2 (if_neg c_122).symm) (by omega) _ _ xP xD xS _ (lv_sub xL [1, 2, 3, 4, 5, 6, 7, 8, 9, 10, 11, 12, 13, 14, 0] rfl)
  exact L_95 (36 - 0 + 1) 0 ad bd (by omega) (by exact fun p hp => absurd hp (Nat.not_lt_zero p)) (by exact fun p => (if_neg (fun w => absurd w.1 (Nat.not_lt_zero p))).symm) (Nat.lt_succ_self _) _ _ xP xD xS _ (lv_sub xL [9, 10, 11, 12, 13, 14, 8, 7, 6, 5, 2, 1, 4, 3, 0] rfl)
theorem kL_reads_c48 : Cond.constant RL 48 (-1000002) ∈ wsL_reads := by decide +kernel
set_option maxHeartbeats 4000000 in
set_option maxRecDepth 100000 in
/-- kL_reads0B -/
theorem kL_reads0B (l : Launch) (G : wG) (oa ga aa ba wa n r k c o ta tb tt : Nat) (u : OD) (g ad bd fd rd : wF) (wd : Nat → Int64) (s : wF) (T : Nat → Nat) (y : Nat) (hI : OI n r k c o 1 ta tb tt u s T 0) (hL : LR n r k c o 1 ta tb tt g ad bd fd rd wd s) (hy : y < 10000000) (hw : y % 2 = 0) : CI (S := OD × wF × wF × wF × (Nat → Int64)) l yL_reads wsL_reads (rm 7 150) G [.ref oa, .ref ga, .ref aa, .ref ba, .ref wa, .int (nI y)] (List.flatten [[(ga, ai G 9 g)], [(aa, ai G 36 ad)], [(ba, ai G 36 bd)], [(wa, al G 1 wd)], wO G oa u]) (fun x u9 => x = nI 1 ∧ LI u9.1 u9.2.1 u9.2.2.1 u9.2.2.2.1 fd rd u9.2.2.2.2) (fun u9 => List.flatten [[(ga, ai G 9 u9.2.1)], [(aa, ai G 36 u9.2.2.1)], [(ba, ai G 36 u9.2.2.2.1)], [(wa, al G 1 u9.2.2.2.2)], wO G oa u9.1]) := by
  refine CI.ofZ (own := RL) rfl (by decide) rfl (Nat.le_of_ble_eq_true rfl) ?_
  intro p9 e9 s9 m9 b9 t9 c9 A xE xB xM xO xT xK xP xD Q xQ xS ls hl
  have xL : lv_has ls 16 [(0, .ref oa), (1, .ref ga), (2, .ref aa), (3, .ref ba), (4, .ref wa), (5, .int (nI y))] := hl
  have hL0 := hL
  obtain ⟨⟨hg0, hg1, hg2, hg3, hg4, hg5⟩, hg6, hA, hB, hF, z, hz, hz2, hZ⟩ := hL
  have hN := hI.num
  have hn := hN.2.1
  have hm := hN.2.2.1
  have hb1 := hN.2.2.2.1
  refine lv_iload xE xB dL_reads_0 (lv_at xL 5 rfl) ?_
  refine lv_iconst (v := nI 2) xE xB dL_reads_2 (by decide) ?_
  refine q_irem xE xB dL_reads_3 (by omega) (by omega) (by omega) ?_
  refine q_eq (y := nI 0) (congrArg nI hw) ?_
  refine lv_istore (lv' := [(6, .int (nI 0)), (0, .ref oa), (1, .ref ga), (2, .ref aa), (3, .ref ba), (4, .ref wa), (5, .int (nI y))]) xE xB dL_reads_4 xL (by decide) rfl (fun ls xL => ?_)
  refine lv_iconst (v := nI 1) xE xB dL_reads_6 (by decide) ?_
  refine lv_iload xE xB dL_reads_7 (lv_at xL 6 rfl) ?_
  refine lv_iconst (v := nI 2) xE xB dL_reads_9 (by decide) ?_
  refine q_idiv xE xB dL_reads_10 (by omega) (by omega) (by omega) ?_
  refine lv_iconst (v := nI 4) xE xB dL_reads_11 (by decide) ?_
  refine q_irem xE xB dL_reads_12 (by omega) (by omega) (by omega) ?_
  refine q_iadd xE xB dL_reads_13 ?_
  obtain ⟨mr, hmr⟩ : ∃ q : Nat, q = 1 + ((y / 2) % 4) := ⟨_, rfl⟩
  refine q_eq (y := nI mr) (congrArg nI hmr.symm) ?_
  have hmr : 1 ≤ mr ∧ mr ≤ 4 := (by omega)
  refine lv_istore (lv' := [(7, .int (nI mr)), (6, .int (nI 0)), (0, .ref oa), (1, .ref ga), (2, .ref aa), (3, .ref ba), (4, .ref wa), (5, .int (nI y))]) xE xB dL_reads_14 xL (by decide) rfl (fun ls xL => ?_)
  refine lv_iconst (v := nI 1) xE xB dL_reads_16 (by decide) ?_
  refine lv_iload xE xB dL_reads_17 (lv_at xL 7 rfl) ?_
  refine lv_bipush (v := nI 8) xE xB dL_reads_19 (by decide) ?_
  refine q_idiv xE xB dL_reads_21 (by omega) (by omega) (by omega) ?_
  refine lv_iconst (v := nI 4) xE xB dL_reads_22 (by decide) ?_
  refine q_irem xE xB dL_reads_23 (by omega) (by omega) (by omega) ?_
  refine q_iadd xE xB dL_reads_24 ?_
  obtain ⟨mc, hmc⟩ : ∃ q : Nat, q = 1 + ((y / 8) % 4) := ⟨_, rfl⟩
  refine q_eq (y := nI mc) (congrArg nI hmc.symm) ?_
  have hmc : 1 ≤ mc ∧ mc ≤ 4 := (by omega)
  have h16 := dm_4 hmc hmr
  refine lv_istore (lv' := [(8, .int (nI mc)), (7, .int (nI mr)), (6, .int (nI 0)), (0, .ref oa), (1, .ref ga), (2, .ref aa), (3, .ref ba), (4, .ref wa), (5, .int (nI y))]) xE xB dL_reads_25 xL (by decide) rfl (fun ls xL => ?_)
  refine lv_aload_n xE xB dL_reads_27 rfl (lv_at xL 3 rfl) ?_
  refine q_VIL (As := []) (rest := []) ⟨xE, xB, xM, xO, xT⟩ (kO_clearText l G oa n r k c o 1 ta tb tt 0 u s T (by first | assumption | omega)) (cwV 0 xT gL_reads_X6_clearText rfl rfl rfl (by decide +kernel) ⟨Nat.le_of_ble_eq_true rfl, Nat.le_of_ble_eq_true rfl⟩) xK xP xD xS [4] [0, 1, 2, 3] 5 rfl (by decide) (Lc := [wO G oa u]) rfl rfl (fun u_28 => [[(ga, ai G 9 g)], [(aa, ai G 36 ad)], [(ba, ai G 36 bd)], [(wa, al G 1 wd)], wO G oa u_28]) (fun u_28 => [wO G oa u_28]) (fun _ => rfl) (fun _ => rfl) (fun _ => rfl) (fun _ => rfl) 0 rfl rfl rfl rfl xL.1 rfl (Nat.le_of_ble_eq_true rfl) dL_reads_28 ⟨Nat.le_refl _, Nat.le_refl _⟩ (fun r_28 u_28 H locs h_28 xP xD xS => ?_)
  replace h_28 : r_28 = nI 0 ∧ OI n r k c o 1 ta tb tt u_28 s T 0 := h_28
  obtain ⟨q_28, h_28⟩ := h_28
  subst q_28
  refine lv_if_lt (tgt := 38) xE xB dL_reads_31 (by decide) (fun h9 => absurd h9 (by decide)) (fun _ => ?_)
  refine lv_iconst (v := nI 1) xE xB dL_reads_34 (by decide) ?_
  refine lv_goto (tgt := 39) xE xB dL_reads_35 (by decide) ?_
  refine lv_istore (lv' := [(9, .int (nI 1)), (8, .int (nI mc)), (7, .int (nI mr)), (6, .int (nI 0)), (0, .ref oa), (1, .ref ga), (2, .ref aa), (3, .ref ba), (4, .ref wa), (5, .int (nI y))]) xE xB dL_reads_39 xL (by decide) rfl (fun ls xL => ?_)
  refine lv_iload xE xB dL_reads_41 (lv_at xL 3 rfl) ?_
  refine lv_if_ne (tgt := 50) xE xB dL_reads_43 (by decide) (fun h9 => absurd (by decide) h9) (fun _ => ?_)
  refine lv_aload_n xE xB dL_reads_46 rfl (lv_at xL 6 rfl) ?_
  refine lv_goto (tgt := 51) xE xB dL_reads_47 (by decide) ?_
  refine lv_astore (lv' := [(10, .ref aa), (9, .int (nI 1)), (8, .int (nI mc)), (7, .int (nI mr)), (6, .int (nI 0)), (0, .ref oa), (1, .ref ga), (2, .ref aa), (3, .ref ba), (4, .ref wa), (5, .int (nI y))]) xE xB dL_reads_51 xL (by decide) rfl (fun ls xL => ?_)
  refine lv_iload xE xB dL_reads_53 (lv_at xL 4 rfl) ?_
  refine lv_if_ne (tgt := 62) xE xB dL_reads_55 (by decide) (fun h9 => absurd (by decide) h9) (fun _ => ?_)
  refine lv_aload_n xE xB dL_reads_58 rfl (lv_at xL 8 rfl) ?_
  refine lv_goto (tgt := 63) xE xB dL_reads_59 (by decide) ?_
  refine lv_astore (lv' := [(11, .ref ba), (10, .ref aa), (9, .int (nI 1)), (8, .int (nI mc)), (7, .int (nI mr)), (6, .int (nI 0)), (0, .ref oa), (1, .ref ga), (2, .ref aa), (3, .ref ba), (4, .ref wa), (5, .int (nI y))]) xE xB dL_reads_63 xL (by decide) rfl (fun ls xL => ?_)
  refine lv_aload_n xE xB dL_reads_65 rfl (lv_at xL 7 rfl) ?_
  refine lv_iconst (v := nI 5) xE xB dL_reads_66 (by decide) ?_
  refine q_ald xE xB xK xP 0 rfl (by omega) (by decide) dL_reads_67 ?_
  refine q_eq (y := nI 1) (hg5) ?_
  refine lv_if_ne (tgt := 75) xE xB dL_reads_68 (by decide) (fun _ => ?_) (fun h9 => absurd h9 (by decide))
  refine lv_iconst (v := nI 0) xE xB dL_reads_75 (by decide) ?_
  refine lv_istore (lv' := [(12, .int (nI 0)), (11, .ref ba), (10, .ref aa), (9, .int (nI 1)), (8, .int (nI mc)), (7, .int (nI mr)), (6, .int (nI 0)), (0, .ref oa), (1, .ref ga), (2, .ref aa), (3, .ref ba), (4, .ref wa), (5, .int (nI y))]) xE xB dL_reads_76 xL (by decide) rfl (fun ls xL => ?_)
  refine lv_iload xE xB dL_reads_78 (lv_at xL 6 rfl) ?_
  refine lv_if_ne (tgt := 88) xE xB dL_reads_80 (by decide) (fun h9 => absurd (by decide) h9) (fun _ => ?_)
  refine lv_iload xE xB dL_reads_83 (lv_at xL 4 rfl) ?_
  refine lv_goto (tgt := 90) xE xB dL_reads_85 (by decide) ?_
  refine lv_istore (lv' := [(13, .int (nI mc)), (12, .int (nI 0)), (11, .ref ba), (10, .ref aa), (9, .int (nI 1)), (8, .int (nI mc)), (7, .int (nI mr)), (6, .int (nI 0)), (0, .ref oa), (1, .ref ga), (2, .ref aa), (3, .ref ba), (4, .ref wa), (5, .int (nI y))]) xE xB dL_reads_90 xL (by decide) rfl (fun ls xL => ?_)
  refine lv_iconst (v := nI 0) xE xB dL_reads_92 (by decide) ?_
  refine lv_istore (lv' := [(14, .int (nI 0)), (13, .int (nI mc)), (12, .int (nI 0)), (11, .ref ba), (10, .ref aa), (9, .int (nI 1)), (8, .int (nI mc)), (7, .int (nI mr)), (6, .int (nI 0)), (0, .ref oa), (1, .ref ga), (2, .ref aa), (3, .ref ba), (4, .ref wa), (5, .int (nI y))]) xE xB dL_reads_93 xL (by decide) rfl (fun ls xL => ?_)
  refine lv_iload xE xB dL_reads_95 (lv_at xL 0 rfl) ?_
  refine lv_bipush (v := nI 36) xE xB dL_reads_97 (by decide) ?_
  refine lv_icmp_ge (tgt := 141) xE xB dL_reads_99 (by decide) (fun h9 => absurd h9 (by decide)) (fun _ => ?_)
  refine lv_iload xE xB dL_reads_102 (lv_at xL 2 rfl) ?_
  refine lv_if_eq (tgt := 141) xE xB dL_reads_104 (by decide) (fun _ => ?_) (fun h9 => absurd (by decide) h9)
  refine lv_iconst (v := nI 0) xE xB dL_reads_141 (by decide) ?_
  refine lv_istore (lv' := [(14, .int (nI 0)), (13, .int (nI mc)), (12, .int (nI 0)), (11, .ref ba), (10, .ref aa), (9, .int (nI 1)), (8, .int (nI mc)), (7, .int (nI mr)), (6, .int (nI 0)), (0, .ref oa), (1, .ref ga), (2, .ref aa), (3, .ref ba), (4, .ref wa), (5, .int (nI y))]) xE xB dL_reads_142 xL (by decide) rfl (fun ls xL => ?_)
  have L_144 : ∀ (n_144 : Nat) (q : Nat) (V3 : wF) (u3 : OD) (T3 : Nat → Nat) (t3 : Nat), (q ≤ mr * mc) → (OI n r k c o 1 ta tb tt u3 s T3 t3) → (TS mc V3 T3 t3 q) → (t3 ≤ 4 * q ∧ (0 < q → 0 < t3)) → mr * mc - q < n_144 → ∀ (H : Heap) (locs : List Loc), va_P G.1 vwCl (List.flatten [[(ga, ai G 9 g)], [(aa, ai G 36 ad)], [(ba, ai G 36 bd)], [(wa, al G 1 wd)], wO G oa u3]) H → va_D A (List.flatten [[(ga, ai G 9 g)], [(aa, ai G 36 ad)], [(ba, ai G 36 bd)], [(wa, al G 1 wd)], wO G oa u3]) → va_S A s9.heap H locs → ∀ (ls : Array Slot), lv_has ls 16 [(0, .ref oa), (1, .ref ga), (2, .ref aa), (3, .ref ba), (4, .ref wa), (5, .int (nI y)), (6, .int (nI 0)), (7, .int (nI mr)), (8, .int (nI mc)), (9, .int (nI 1)), (12, .int (nI 0)), (13, .int (nI mc)), (10, .ref aa), (11, .ref ba), (14, .int (nI q))] → W p9 l e9 (rm 7 150) s9 m9 ([.ref oa, .ref ga, .ref aa, .ref ba, .ref wa, .int (nI y)] : List Value).toArray b9 t9 c9 H locs 0 0 Q (F0 m9 144 ls []) := by
    intro n_144
    induction n_144 with
    | zero => intro q V3 u3 T3 t3 hq3 hI3 hS3 hl3 hm_144 H locs xP xD xS ls xL; exact absurd hm_144 (Nat.not_lt_zero _)
    | succ n_144 ih_144 =>
      intro q V3 u3 T3 t3 hq3 hI3 hS3 hl3 hm_144 H locs xP xD xS ls xL
      refine lv_iload xE xB dL_reads_144 (lv_at xL 14 rfl) ?_
      refine lv_iload xE xB dL_reads_146 (lv_at xL 7 rfl) ?_
      refine lv_iload xE xB dL_reads_148 (lv_at xL 8 rfl) ?_
      refine q_imul xE xB dL_reads_150 ?_
      refine q_icmp_ge (tgt := 275) xE xB dL_reads_151 (by decide) (by omega) (by omega) (fun c_151 => ?_) (fun c_151 => ?_)
      · skip
        have hqe : q = mr * mc := (by omega)
        have hS9 := hS3
        rw [hqe] at hS9
        obtain ⟨hs1, hs2, hs3, hs4⟩ := TS_end hmc hmr hS9
        refine lv_iload xE xB dL_reads_275 (lv_at xL 9 rfl) ?_
        refine lv_if_eq (tgt := 325) xE xB dL_reads_277 (by decide) (fun h9 => absurd h9 (by decide)) (fun _ => ?_)
        refine lv_aload_n xE xB dL_reads_280 rfl (lv_at xL 0 rfl) ?_
        refine lv_iconst (v := nI 0) xE xB dL_reads_281 (by decide) ?_
        refine q_VIL (As := [.int (nI 0)]) (rest := []) ⟨xE, xB, xM, xO, xT⟩ (kO_textFault l G oa n r k c o 1 ta tb tt t3 u3 s T3 (by first | assumption | omega) hs1) (cwV 1 xT gL_reads_X6_textFault rfl rfl rfl (by decide +kernel) ⟨Nat.le_of_ble_eq_true rfl, Nat.le_of_ble_eq_true rfl⟩) xK xP xD xS [4] [0, 1, 2, 3] 5 rfl (by decide) (Lc := [wO G oa u3]) rfl rfl (fun u_282 => [[(ga, ai G 9 g)], [(aa, ai G 36 ad)], [(ba, ai G 36 bd)], [(wa, al G 1 wd)], wO G oa u_282]) (fun u_282 => [wO G oa u_282]) (fun _ => rfl) (fun _ => rfl) (fun _ => rfl) (fun _ => rfl) 0 rfl rfl rfl rfl xL.1 rfl (Nat.le_of_ble_eq_true rfl) dL_reads_282 ⟨Nat.le_refl _, Nat.le_refl _⟩ (fun r_282 u_282 H locs h_282 xP xD xS => ?_)
        replace h_282 : r_282 = (-1000004) ∧ OI n r k c o 1 ta tb tt u_282 s T3 t3 := h_282
        obtain ⟨q_282, h_282⟩ := h_282
        subst q_282
        refine lv_ldc (v := (-1000004)) xE xB xO (xT _ kL_reads_c44) dL_reads_285 ?_
        refine lv_icmp_ne (tgt := 325) xE xB dL_reads_287 (by decide) (fun c_287 => absurd c_287 (by decide)) (fun c_287 => ?_)
        refine lv_aload_n xE xB dL_reads_290 rfl (lv_at xL 0 rfl) ?_
        refine lv_iload xE xB dL_reads_291 (lv_at xL 6 rfl) ?_
        refine q_VIL (As := [.int (nI 0)]) (rest := []) ⟨xE, xB, xM, xO, xT⟩ (kO_readB l G oa n r k c o 1 ta tb tt t3 u_282 s T3 0 (by first | assumption | omega) (by decide) (by rfl)) (cwV 1 xT gL_reads_X6_read rfl rfl rfl (by decide +kernel) ⟨Nat.le_of_ble_eq_true rfl, Nat.le_of_ble_eq_true rfl⟩) xK xP xD xS [4] [0, 1, 2, 3] 5 rfl (by decide) (Lc := [wO G oa u_282]) rfl rfl (fun u_293 => [[(ga, ai G 9 g)], [(aa, ai G 36 ad)], [(ba, ai G 36 bd)], [(wa, al G 1 wd)], wO G oa u_293]) (fun u_293 => [wO G oa u_293]) (fun _ => rfl) (fun _ => rfl) (fun _ => rfl) (fun _ => rfl) 0 rfl rfl rfl rfl xL.1 rfl (Nat.le_of_ble_eq_true rfl) dL_reads_293 ⟨Nat.le_refl _, Nat.le_refl _⟩ (fun r_293 u_293 H locs h_293 xP xD xS => ?_)
        replace h_293 : r_293 = (-1000002) ∧ OI n r k c o 1 ta tb tt u_293 s T3 t3 := h_293
        obtain ⟨q_293, h_293⟩ := h_293
        subst q_293
        refine lv_iload xE xB dL_reads_296 (lv_at xL 10 rfl) ?_
        refine lv_if_eq (tgt := 309) xE xB dL_reads_298 (by decide) (fun _ => ?_) (fun h9 => absurd (by decide) h9)
        refine lv_ldc (v := (-1000002)) xE xB xO (xT _ kL_reads_c48) dL_reads_309 ?_
        refine lv_icmp_ne (tgt := 325) xE xB dL_reads_311 (by decide) (fun c_311 => absurd c_311 (by decide)) (fun c_311 => ?_)
        refine lv_aload_n xE xB dL_reads_314 rfl (lv_at xL 0 rfl) ?_
        refine q_VIL (As := []) (rest := []) ⟨xE, xB, xM, xO, xT⟩ (kO_clearText l G oa n r k c o 1 ta tb tt t3 u_293 s T3 (by first | assumption | omega)) (cwV 0 xT gL_reads_X6_clearText rfl rfl rfl (by decide +kernel) ⟨Nat.le_of_ble_eq_true rfl, Nat.le_of_ble_eq_true rfl⟩) xK xP xD xS [4] [0, 1, 2, 3] 5 rfl (by decide) (Lc := [wO G oa u_293]) rfl rfl (fun u_315 => [[(ga, ai G 9 g)], [(aa, ai G 36 ad)], [(ba, ai G 36 bd)], [(wa, al G 1 wd)], wO G oa u_315]) (fun u_315 => [wO G oa u_315]) (fun _ => rfl) (fun _ => rfl) (fun _ => rfl) (fun _ => rfl) 0 rfl rfl rfl rfl xL.1 rfl (Nat.le_of_ble_eq_true rfl) dL_reads_315 ⟨Nat.le_refl _, Nat.le_refl _⟩ (fun r_315 u_315 H locs h_315 xP xD xS => ?_)
        replace h_315 : r_315 = nI t3 ∧ OI n r k c o 1 ta tb tt u_315 s T3 0 := h_315
        obtain ⟨q_315, h_315⟩ := h_315
        subst q_315
        refine q_if_le (tgt := 325) xE xB dL_reads_318 (by decide) (by omega) (fun c_318 => absurd c_318 (by have := hl3.2 (by omega); omega)) (fun c_318 => ?_)
        refine lv_iconst (v := nI 1) xE xB dL_reads_321 (by decide) ?_
        refine lv_goto (tgt := 326) xE xB dL_reads_322 (by decide) ?_
        refine lv_istore (lv' := [(9, .int (nI 1)), (0, .ref oa), (1, .ref ga), (2, .ref aa), (3, .ref ba), (4, .ref wa), (5, .int (nI y)), (6, .int (nI 0)), (7, .int (nI mr)), (8, .int (nI mc)), (12, .int (nI 0)), (13, .int (nI mc)), (10, .ref aa), (11, .ref ba), (14, .int (nI q))]) xE xB dL_reads_326 xL (by decide) rfl (fun ls xL => ?_)
        refine lv_iload xE xB dL_reads_328 (lv_at xL 10 rfl) ?_
        refine lv_if_eq (tgt := 367) xE xB dL_reads_330 (by decide) (fun _ => ?_) (fun h9 => absurd (by decide) h9)
        refine lv_iload xE xB dL_reads_367 (lv_at xL 0 rfl) ?_
        exact xQ _ _ _ _ _ (_, _, _, _, _) (by exact ⟨rfl, n, r, k, c, o, 1, ta, tb, tt, _, _, h_315, hL0⟩) (by decide) xP xD xS dL_reads_369
      · skip
        have hd3 := dm_3 hmc hmr.2 c_151
        refine lv_iload xE xB dL_reads_154 (lv_at xL 5 rfl) ?_
        refine lv_iconst (v := nI 1) xE xB dL_reads_156 (by decide) ?_
        refine lv_iconst (v := nI 3) xE xB dL_reads_157 (by decide) ?_
        refine lv_iload xE xB dL_reads_158 (lv_at xL 14 rfl) ?_
        refine q_imul xE xB dL_reads_160 ?_
        refine q_iadd xE xB dL_reads_161 ?_
        refine q_idiv xE xB dL_reads_162 (by omega) (by omega) (by omega) ?_
        refine lv_bipush (v := nI 17) xE xB dL_reads_163 (by decide) ?_
        refine lv_iload xE xB dL_reads_165 (lv_at xL 14 rfl) ?_
        refine q_imul xE xB dL_reads_167 ?_
        refine q_iadd xE xB dL_reads_168 ?_
        refine lv_sipush (v := nI 199) xE xB dL_reads_169 (by decide) ?_
        refine q_irem xE xB dL_reads_172 (by have := Nat.div_le_self y (1 + 3 * q); omega) (by have := Nat.div_le_self y (1 + 3 * q); omega) (by have := Nat.div_le_self y (1 + 3 * q); omega) ?_
        refine lv_bipush (v := nI 99) xE xB dL_reads_173 (by decide) ?_
        refine lv_isub xE xB dL_reads_175 ?_
        obtain ⟨v0, hv0, hve⟩ : ∃ v : Int32, bV v ∧ v = (nI (((y / (1 + (3 * q))) + (17 * q)) % 199)) - (nI 99) := ⟨_, bV_sub (Nat.mod_lt _ (by decide)), rfl⟩
        refine q_eq (y := v0) hve.symm ?_
        refine lv_istore (lv' := [(15, .int v0), (0, .ref oa), (1, .ref ga), (2, .ref aa), (3, .ref ba), (4, .ref wa), (5, .int (nI y)), (6, .int (nI 0)), (7, .int (nI mr)), (8, .int (nI mc)), (9, .int (nI 1)), (12, .int (nI 0)), (13, .int (nI mc)), (10, .ref aa), (11, .ref ba), (14, .int (nI q))]) xE xB dL_reads_176 xL (by decide) rfl (fun ls xL => ?_)
        have J_195 : ∀ (x : Int32), (bV x) → ∀ (H : Heap) (locs : List Loc), va_P G.1 vwCl (List.flatten [[(ga, ai G 9 g)], [(aa, ai G 36 ad)], [(ba, ai G 36 bd)], [(wa, al G 1 wd)], wO G oa u3]) H → va_D A (List.flatten [[(ga, ai G 9 g)], [(aa, ai G 36 ad)], [(ba, ai G 36 bd)], [(wa, al G 1 wd)], wO G oa u3]) → va_S A s9.heap H locs → ∀ (ls : Array Slot), lv_has ls 16 [(0, .ref oa), (1, .ref ga), (2, .ref aa), (3, .ref ba), (4, .ref wa), (5, .int (nI y)), (6, .int (nI 0)), (7, .int (nI mr)), (8, .int (nI mc)), (9, .int (nI 1)), (12, .int (nI 0)), (13, .int (nI mc)), (10, .ref aa), (11, .ref ba), (14, .int (nI q))] → W p9 l e9 (rm 7 150) s9 m9 ([.ref oa, .ref ga, .ref aa, .ref ba, .ref wa, .int (nI y)] : List Value).toArray b9 t9 c9 H locs 0 0 Q (F0 m9 195 ls [.int x]) := by
          intro x hx H locs xP xD xS ls xL
          refine lv_istore (lv' := [(15, .int x), (0, .ref oa), (1, .ref ga), (2, .ref aa), (3, .ref ba), (4, .ref wa), (5, .int (nI y)), (6, .int (nI 0)), (7, .int (nI mr)), (8, .int (nI mc)), (9, .int (nI 1)), (12, .int (nI 0)), (13, .int (nI mc)), (10, .ref aa), (11, .ref ba), (14, .int (nI q))]) xE xB dL_reads_195 xL (by decide) rfl (fun ls xL => ?_)
          have J_229 : ∀ (u4 : OD) (T4 : Nat → Nat) (t4 : Nat), (OI n r k c o 1 ta tb tt u4 s T4 t4) → (PS mc V3 T4 t4 q) → (t4 ≤ 4 * q + 1) → ∀ (H : Heap) (locs : List Loc), va_P G.1 vwCl (List.flatten [[(ga, ai G 9 g)], [(aa, ai G 36 ad)], [(ba, ai G 36 bd)], [(wa, al G 1 wd)], wO G oa u4]) H → va_D A (List.flatten [[(ga, ai G 9 g)], [(aa, ai G 36 ad)], [(ba, ai G 36 bd)], [(wa, al G 1 wd)], wO G oa u4]) → va_S A s9.heap H locs → ∀ (ls : Array Slot), lv_has ls 16 [(0, .ref oa), (1, .ref ga), (2, .ref aa), (3, .ref ba), (4, .ref wa), (5, .int (nI y)), (6, .int (nI 0)), (7, .int (nI mr)), (8, .int (nI mc)), (9, .int (nI 1)), (12, .int (nI 0)), (13, .int (nI mc)), (10, .ref aa), (11, .ref ba), (14, .int (nI q)), (15, .int x)] → W p9 l e9 (rm 7 150) s9 m9 ([.ref oa, .ref ga, .ref aa, .ref ba, .ref wa, .int (nI y)] : List Value).toArray b9 t9 c9 H locs 0 0 Q (F0 m9 229 ls []) := by
            intro u4 T4 t4 hI4 hP4 hl4 H locs xP xD xS ls xL
            refine lv_aload_n xE xB dL_reads_229 rfl (lv_at xL 0 rfl) ?_
            refine lv_iload xE xB dL_reads_230 (lv_at xL 15 rfl) ?_
            refine q_SIL (As := [.ref oa, .int x]) (rest := []) ⟨xE, xB, xM, xO, xT⟩ (kL_types l G oa n r k c o 1 ta tb tt t4 u4 s T4 x (by first | assumption | omega) (by omega) (by first | assumption | omega)) (va_cwS 2 xT gL_reads_L_types rfl rfl rfl (by decide +kernel) ⟨Nat.le_of_ble_eq_true rfl, Nat.le_of_ble_eq_true rfl⟩) xK xP xD xS [4] [0, 1, 2, 3] 5 rfl (by decide) (Lc := [wO G oa u4]) rfl rfl (fun u_232 => [[(ga, ai G 9 g)], [(aa, ai G 36 ad)], [(ba, ai G 36 bd)], [(wa, al G 1 wd)], wO G oa u_232]) (fun u_232 => [wO G oa u_232]) (fun _ => rfl) (fun _ => rfl) (fun _ => rfl) (fun _ => rfl) rfl xL.1 rfl (Nat.le_of_ble_eq_true rfl) dL_reads_232 ⟨Nat.le_refl _, Nat.le_refl _⟩ (fun r_232 u_232 H locs h_232 xP xD xS => ?_)
            replace h_232 : r_232 = nI 1 ∧ ∃ T' tl', OI n r k c o 1 ta tb tt u_232 s T' tl' ∧ (tl' ≤ t4 + 3 ∧ t4 < tl') ∧ TY t4 T4 T' tl' x := h_232
            obtain ⟨rx_232, T5, t5, hI5, hl5, hT5⟩ := h_232
            subst rx_232
            have hP5 := hP4
            refine lv_if_eq (tgt := 242) xE xB dL_reads_235 (by decide) (fun h9 => absurd h9 (by decide)) (fun _ => ?_)
            refine lv_iconst (v := nI 1) xE xB dL_reads_238 (by decide) ?_
            refine lv_goto (tgt := 243) xE xB dL_reads_239 (by decide) ?_
            refine lv_istore (lv' := [(9, .int (nI 1)), (0, .ref oa), (1, .ref ga), (2, .ref aa), (3, .ref ba), (4, .ref wa), (5, .int (nI y)), (6, .int (nI 0)), (7, .int (nI mr)), (8, .int (nI mc)), (12, .int (nI 0)), (13, .int (nI mc)), (10, .ref aa), (11, .ref ba), (14, .int (nI q)), (15, .int x)]) xE xB dL_reads_243 xL (by decide) rfl (fun ls xL => ?_)
            refine lv_iload xE xB dL_reads_245 (lv_at xL 10 rfl) ?_
            refine lv_if_eq (tgt := 269) xE xB dL_reads_247 (by decide) (fun _ => ?_) (fun h9 => absurd (by decide) h9)
            refine lv_iinc (v := nI (q + 1)) (lv' := [(14, .int (nI (q + 1))), (9, .int (nI 1)), (0, .ref oa), (1, .ref ga), (2, .ref aa), (3, .ref ba), (4, .ref wa), (5, .int (nI y)), (6, .int (nI 0)), (7, .int (nI mr)), (8, .int (nI mc)), (12, .int (nI 0)), (13, .int (nI mc)), (10, .ref aa), (11, .ref ba), (15, .int x)]) xE xB dL_reads_269 xL (k := 14) rfl (q_inc _ _) (by decide) rfl (fun ls xL => ?_)
            refine lv_goto (tgt := 144) xE xB dL_reads_272 (by decide) ?_
            exact ih_144 (q + 1) (upd V3 (6 * (q / mc) + q % mc) x) u_232 T5 t5 (by omega) (by exact hI5) (by exact TS_next hP5 hT5) (by omega) (by omega) _ _ xP xD xS _ (lv_sub xL [2, 3, 4, 5, 6, 7, 8, 9, 10, 1, 11, 12, 13, 14, 0] rfl)
          refine lv_iload xE xB dL_reads_197 (lv_at xL 10 rfl) ?_
          refine lv_if_eq (tgt := 242) xE xB dL_reads_199 (by decide) (fun h9 => absurd h9 (by decide)) (fun _ => ?_)
          refine lv_iload xE xB dL_reads_202 (lv_at xL 15 rfl) ?_
          refine q_if_eq (tgt := 229) xE xB dL_reads_204 (by decide) (by omega) (fun c_204 => ?_) (fun c_204 => ?_)
          · skip
            exact J_229 u3 T3 t3 (by assumption) (by first | exact PS_0 hS3 c_204 | exact PS_comma hmc hS3 c_213 ha_223 hb_223 | exact PS_semi hmc hmr.2 hS3 (by omega) c_204 c_213 ha_223 hb_223) (by omega) _ _ xP xD xS _ (lv_sub xL [1, 2, 3, 4, 5, 6, 7, 8, 9, 10, 11, 12, 13, 14, 15, 0] rfl)
          · skip
            refine lv_aload_n xE xB dL_reads_207 rfl (lv_at xL 1 rfl) ?_
            refine lv_iload xE xB dL_reads_208 (lv_at xL 15 rfl) ?_
            refine lv_iload xE xB dL_reads_210 (lv_at xL 9 rfl) ?_
            refine q_irem xE xB dL_reads_212 (by omega) (by omega) (by omega) ?_
            refine q_if_ne (tgt := 221) xE xB dL_reads_213 (by decide) (by omega) (fun c_213 => ?_) (fun c_213 => ?_)
            · skip
              refine lv_bipush (v := nI 44) xE xB dL_reads_221 (by decide) ?_
              refine q_VIL (As := [.int (nI 44)]) (rest := []) ⟨xE, xB, xM, xO, xT⟩ (kO_type2 l G oa n r k c o 1 ta tb tt t3 u3 s T3 44 (by first | assumption | omega) (by first | assumption | omega) (by first | assumption | omega) (by first | assumption | omega)) (cwV 1 xT gL_reads_X6_type rfl rfl rfl (by decide +kernel) ⟨Nat.le_of_ble_eq_true rfl, Nat.le_of_ble_eq_true rfl⟩) xK xP xD xS [4] [0, 1, 2, 3] 5 rfl (by decide) (Lc := [wO G oa u3]) rfl rfl (fun u_223 => [[(ga, ai G 9 g)], [(aa, ai G 36 ad)], [(ba, ai G 36 bd)], [(wa, al G 1 wd)], wO G oa u_223]) (fun u_223 => [wO G oa u_223]) (fun _ => rfl) (fun _ => rfl) (fun _ => rfl) (fun _ => rfl) 0 rfl rfl rfl rfl xL.1 rfl (Nat.le_of_ble_eq_true rfl) dL_reads_223 ⟨Nat.le_refl _, Nat.le_refl _⟩ (fun r_223 u_223 H locs h_223 xP xD xS => ?_)
              replace h_223 : r_223 = nI (t3 + 1) ∧ ∃ T', (∀ j, j < t3 → T' j = T3 j) ∧ T' t3 = 44 ∧ OI n r k c o 1 ta tb tt u_223 s T' (t3 + 1) := h_223
              obtain ⟨q_223, h_223⟩ := h_223
              subst q_223
              obtain ⟨T_223, ha_223, hb_223, hI_223⟩ := h_223
              refine q_if_le (tgt := 242) xE xB dL_reads_226 (by decide) (by omega) (fun c_226 => absurd c_226 (by omega)) (fun c_226 => ?_)
              exact J_229 u_223 T_223 (t3 + 1) (by assumption) (by first | exact PS_0 hS3 c_204 | exact PS_comma hmc hS3 c_213 ha_223 hb_223 | exact PS_semi hmc hmr.2 hS3 (by omega) c_204 c_213 ha_223 hb_223) (by omega) _ _ xP xD xS _ (lv_sub xL [1, 2, 3, 4, 5, 6, 7, 8, 9, 10, 11, 12, 13, 14, 15, 0] rfl)
            · skip
              refine lv_bipush (v := nI 59) xE xB dL_reads_216 (by decide) ?_
              refine lv_goto (tgt := 223) xE xB dL_reads_218 (by decide) ?_
              refine q_VIL (As := [.int (nI 59)]) (rest := []) ⟨xE, xB, xM, xO, xT⟩ (kO_type2 l G oa n r k c o 1 ta tb tt t3 u3 s T3 59 (by first | assumption | omega) (by first | assumption | omega) (by first | assumption | omega) (by first | assumption | omega)) (cwV 1 xT gL_reads_X6_type rfl rfl rfl (by decide +kernel) ⟨Nat.le_of_ble_eq_true rfl, Nat.le_of_ble_eq_true rfl⟩) xK xP xD xS [4] [0, 1, 2, 3] 5 rfl (by decide) (Lc := [wO G oa u3]) rfl rfl (fun u_223 => [[(ga, ai G 9 g)], [(aa, ai G 36 ad)], [(ba, ai G 36 bd)], [(wa, al G 1 wd)], wO G oa u_223]) (fun u_223 => [wO G oa u_223]) (fun _ => rfl) (fun _ => rfl) (fun _ => rfl) (fun _ => rfl) 0 rfl rfl rfl rfl xL.1 rfl (Nat.le_of_ble_eq_true rfl) dL_reads_223 ⟨Nat.le_refl _, Nat.le_refl _⟩ (fun r_223 u_223 H locs h_223 xP xD xS => ?_)
              replace h_223 : r_223 = nI (t3 + 1) ∧ ∃ T', (∀ j, j < t3 → T' j = T3 j) ∧ T' t3 = 59 ∧ OI n r k c o 1 ta tb tt u_223 s T' (t3 + 1) := h_223
              obtain ⟨q_223, h_223⟩ := h_223
              subst q_223
              obtain ⟨T_223, ha_223, hb_223, hI_223⟩ := h_223
              refine q_if_le (tgt := 242) xE xB dL_reads_226 (by decide) (by omega) (fun c_226 => absurd c_226 (by omega)) (fun c_226 => ?_)
              exact J_229 u_223 T_223 (t3 + 1) (by assumption) (by first | exact PS_0 hS3 c_204 | exact PS_comma hmc hS3 c_213 ha_223 hb_223 | exact PS_semi hmc hmr.2 hS3 (by omega) c_204 c_213 ha_223 hb_223) (by omega) _ _ xP xD xS _ (lv_sub xL [1, 2, 3, 4, 5, 6, 7, 8, 9, 10, 11, 12, 13, 14, 15, 0] rfl)
        refine lv_iload xE xB dL_reads_178 (lv_at xL 6 rfl) ?_
        refine lv_iconst (v := nI 3) xE xB dL_reads_180 (by decide) ?_
        refine q_irem xE xB dL_reads_181 (by omega) (by omega) (by omega) ?_
        refine q_if_le (tgt := 193) xE xB dL_reads_182 (by decide) (by omega) (fun c_182 => ?_) (fun c_182 => ?_)
        · skip
          refine lv_iload xE xB dL_reads_193 (lv_at xL 0 rfl) ?_
          exact J_195 v0 (by first | exact bV_9 hv0 | exact hv0) _ _ xP xD xS _ (lv_sub xL [1, 2, 3, 4, 5, 6, 7, 8, 9, 10, 11, 12, 13, 14, 15] rfl)
        · skip
          refine lv_iload xE xB dL_reads_185 (lv_at xL 0 rfl) ?_
          refine lv_bipush (v := nI 9) xE xB dL_reads_187 (by decide) ?_
          refine lv_idiv xE xB dL_reads_189 (by decide) ?_
          refine lv_goto (tgt := 195) xE xB dL_reads_190 (by decide) ?_
          exact J_195 (v0 / (nI 9)) (by first | exact bV_9 hv0 | exact hv0) _ _ xP xD xS _ (lv_sub xL [1, 2, 3, 4, 5, 6, 7, 8, 9, 10, 11, 12, 13, 14, 15] rfl)
  exact L_144 (mr * mc - 0 + 1) 0 (fun _ => nI 0) u_28 T 0 (by omega) (by exact h_28) (by exact Or.inl ⟨rfl, rfl, fun _ _ => rfl⟩) (by exact ⟨Nat.zero_le _, fun w => absurd w (Nat.lt_irrefl 0)⟩) (Nat.lt_succ_self _) _ _ xP xD xS _ (lv_sub xL [9, 10, 11, 12, 13, 14, 8, 7, 6, 5, 2, 1, 4, 3, 0] rfl)
set_option maxHeartbeats 4000000 in
set_option maxRecDepth 100000 in
/-- kL_reads1 -/
theorem kL_reads1 (l : Launch) (G : wG) (oa ga aa ba wa n r k c o ta tb tt : Nat) (u : OD) (g ad bd fd rd : wF) (wd : Nat → Int64) (s : wF) (T : Nat → Nat) (y : Nat) (hI : OI n r k c o 0 ta tb tt u s T 0) (hL : LR n r k c o 0 ta tb tt g ad bd fd rd wd s) (hy : y < 10000000) (hw : y % 2 = 1) : CI (S := OD × wF × wF × wF × (Nat → Int64)) l yL_reads wsL_reads (rm 7 150) G [.ref oa, .ref ga, .ref aa, .ref ba, .ref wa, .int (nI y)] (List.flatten [[(ga, ai G 9 g)], [(aa, ai G 36 ad)], [(ba, ai G 36 bd)], [(wa, al G 1 wd)], wO G oa u]) (fun x u9 => x = nI 1 ∧ LI u9.1 u9.2.1 u9.2.2.1 u9.2.2.2.1 fd rd u9.2.2.2.2) (fun u9 => List.flatten [[(ga, ai G 9 u9.2.1)], [(aa, ai G 36 u9.2.2.1)], [(ba, ai G 36 u9.2.2.2.1)], [(wa, al G 1 u9.2.2.2.2)], wO G oa u9.1]) := by
  refine CI.ofZ (own := RL) rfl (by decide) rfl (Nat.le_of_ble_eq_true rfl) ?_
  intro p9 e9 s9 m9 b9 t9 c9 A xE xB xM xO xT xK xP xD Q xQ xS ls hl
  have xL : lv_has ls 16 [(0, .ref oa), (1, .ref ga), (2, .ref aa), (3, .ref ba), (4, .ref wa), (5, .int (nI y))] := hl
  have hL0 := hL
  obtain ⟨⟨hg0, hg1, hg2, hg3, hg4, hg5⟩, hg6, hA, hB, hF, z, hz, hz2, hZ⟩ := hL
  have hN := hI.num
  have hn := hN.2.1
  have hm := hN.2.2.1
  have hb1 := hN.2.2.2.1
  refine lv_iload xE xB dL_reads_0 (lv_at xL 5 rfl) ?_
  refine lv_iconst (v := nI 2) xE xB dL_reads_2 (by decide) ?_
  refine q_irem xE xB dL_reads_3 (by omega) (by omega) (by omega) ?_
  refine q_eq (y := nI 1) (congrArg nI hw) ?_
  refine lv_istore (lv' := [(6, .int (nI 1)), (0, .ref oa), (1, .ref ga), (2, .ref aa), (3, .ref ba), (4, .ref wa), (5, .int (nI y))]) xE xB dL_reads_4 xL (by decide) rfl (fun ls xL => ?_)
  refine lv_iconst (v := nI 1) xE xB dL_reads_6 (by decide) ?_
  refine lv_iload xE xB dL_reads_7 (lv_at xL 6 rfl) ?_
  refine lv_iconst (v := nI 2) xE xB dL_reads_9 (by decide) ?_
  refine q_idiv xE xB dL_reads_10 (by omega) (by omega) (by omega) ?_
  refine lv_iconst (v := nI 4) xE xB dL_reads_11 (by decide) ?_
  refine q_irem xE xB dL_reads_12 (by omega) (by omega) (by omega) ?_
  refine q_iadd xE xB dL_reads_13 ?_
  obtain ⟨mr, hmr⟩ : ∃ q : Nat, q = 1 + ((y / 2) % 4) := ⟨_, rfl⟩
  refine q_eq (y := nI mr) (congrArg nI hmr.symm) ?_
  have hmr : 1 ≤ mr ∧ mr ≤ 4 := (by omega)
  refine lv_istore (lv' := [(7, .int (nI mr)), (6, .int (nI 1)), (0, .ref oa), (1, .ref ga), (2, .ref aa), (3, .ref ba), (4, .ref wa), (5, .int (nI y))]) xE xB dL_reads_14 xL (by decide) rfl (fun ls xL => ?_)
  refine lv_iconst (v := nI 1) xE xB dL_reads_16 (by decide) ?_
  refine lv_iload xE xB dL_reads_17 (lv_at xL 7 rfl) ?_
  refine lv_bipush (v := nI 8) xE xB dL_reads_19 (by decide) ?_
  refine q_idiv xE xB dL_reads_21 (by omega) (by omega) (by omega) ?_
  refine lv_iconst (v := nI 4) xE xB dL_reads_22 (by decide) ?_
  refine q_irem xE xB dL_reads_23 (by omega) (by omega) (by omega) ?_
  refine q_iadd xE xB dL_reads_24 ?_
  obtain ⟨mc, hmc⟩ : ∃ q : Nat, q = 1 + ((y / 8) % 4) := ⟨_, rfl⟩
  refine q_eq (y := nI mc) (congrArg nI hmc.symm) ?_
  have hmc : 1 ≤ mc ∧ mc ≤ 4 := (by omega)
  have h16 := dm_4 hmc hmr
  refine lv_istore (lv' := [(8, .int (nI mc)), (7, .int (nI mr)), (6, .int (nI 1)), (0, .ref oa), (1, .ref ga), (2, .ref aa), (3, .ref ba), (4, .ref wa), (5, .int (nI y))]) xE xB dL_reads_25 xL (by decide) rfl (fun ls xL => ?_)
  refine lv_aload_n xE xB dL_reads_27 rfl (lv_at xL 3 rfl) ?_
  refine q_VIL (As := []) (rest := []) ⟨xE, xB, xM, xO, xT⟩ (kO_clearText l G oa n r k c o 0 ta tb tt 0 u s T (by first | assumption | omega)) (cwV 0 xT gL_reads_X6_clearText rfl rfl rfl (by decide +kernel) ⟨Nat.le_of_ble_eq_true rfl, Nat.le_of_ble_eq_true rfl⟩) xK xP xD xS [4] [0, 1, 2, 3] 5 rfl (by decide) (Lc := [wO G oa u]) rfl rfl (fun u_28 => [[(ga, ai G 9 g)], [(aa, ai G 36 ad)], [(ba, ai G 36 bd)], [(wa, al G 1 wd)], wO G oa u_28]) (fun u_28 => [wO G oa u_28]) (fun _ => rfl) (fun _ => rfl) (fun _ => rfl) (fun _ => rfl) 0 rfl rfl rfl rfl xL.1 rfl (Nat.le_of_ble_eq_true rfl) dL_reads_28 ⟨Nat.le_refl _, Nat.le_refl _⟩ (fun r_28 u_28 H locs h_28 xP xD xS => ?_)
  replace h_28 : r_28 = nI 0 ∧ OI n r k c o 0 ta tb tt u_28 s T 0 := h_28
  obtain ⟨q_28, h_28⟩ := h_28
  subst q_28
  refine lv_if_lt (tgt := 38) xE xB dL_reads_31 (by decide) (fun h9 => absurd h9 (by decide)) (fun _ => ?_)
  refine lv_iconst (v := nI 1) xE xB dL_reads_34 (by decide) ?_
  refine lv_goto (tgt := 39) xE xB dL_reads_35 (by decide) ?_
  refine lv_istore (lv' := [(9, .int (nI 1)), (8, .int (nI mc)), (7, .int (nI mr)), (6, .int (nI 1)), (0, .ref oa), (1, .ref ga), (2, .ref aa), (3, .ref ba), (4, .ref wa), (5, .int (nI y))]) xE xB dL_reads_39 xL (by decide) rfl (fun ls xL => ?_)
  refine lv_iload xE xB dL_reads_41 (lv_at xL 3 rfl) ?_
  refine lv_if_ne (tgt := 50) xE xB dL_reads_43 (by decide) (fun _ => ?_) (fun h9 => absurd h9 (by decide))
  refine lv_aload_n xE xB dL_reads_50 rfl (lv_at xL 7 rfl) ?_
  refine lv_astore (lv' := [(10, .ref ba), (9, .int (nI 1)), (8, .int (nI mc)), (7, .int (nI mr)), (6, .int (nI 1)), (0, .ref oa), (1, .ref ga), (2, .ref aa), (3, .ref ba), (4, .ref wa), (5, .int (nI y))]) xE xB dL_reads_51 xL (by decide) rfl (fun ls xL => ?_)
  refine lv_iload xE xB dL_reads_53 (lv_at xL 4 rfl) ?_
  refine lv_if_ne (tgt := 62) xE xB dL_reads_55 (by decide) (fun _ => ?_) (fun h9 => absurd h9 (by decide))
  refine lv_aload_n xE xB dL_reads_62 rfl (lv_at xL 7 rfl) ?_
  refine lv_astore (lv' := [(11, .ref aa), (10, .ref ba), (9, .int (nI 1)), (8, .int (nI mc)), (7, .int (nI mr)), (6, .int (nI 1)), (0, .ref oa), (1, .ref ga), (2, .ref aa), (3, .ref ba), (4, .ref wa), (5, .int (nI y))]) xE xB dL_reads_63 xL (by decide) rfl (fun ls xL => ?_)
  refine lv_aload_n xE xB dL_reads_65 rfl (lv_at xL 7 rfl) ?_
  refine lv_iconst (v := nI 5) xE xB dL_reads_66 (by decide) ?_
  refine q_ald xE xB xK xP 0 rfl (by omega) (by decide) dL_reads_67 ?_
  refine q_eq (y := nI 0) (hg5) ?_
  refine lv_if_ne (tgt := 75) xE xB dL_reads_68 (by decide) (fun h9 => absurd (by decide) h9) (fun _ => ?_)
  refine lv_iconst (v := nI 1) xE xB dL_reads_71 (by decide) ?_
  refine lv_goto (tgt := 76) xE xB dL_reads_72 (by decide) ?_
  refine lv_istore (lv' := [(12, .int (nI 1)), (11, .ref aa), (10, .ref ba), (9, .int (nI 1)), (8, .int (nI mc)), (7, .int (nI mr)), (6, .int (nI 1)), (0, .ref oa), (1, .ref ga), (2, .ref aa), (3, .ref ba), (4, .ref wa), (5, .int (nI y))]) xE xB dL_reads_76 xL (by decide) rfl (fun ls xL => ?_)
  refine lv_iload xE xB dL_reads_78 (lv_at xL 6 rfl) ?_
  refine lv_if_ne (tgt := 88) xE xB dL_reads_80 (by decide) (fun _ => ?_) (fun h9 => absurd h9 (by decide))
  refine lv_iload xE xB dL_reads_88 (lv_at xL 5 rfl) ?_
  refine lv_istore (lv' := [(13, .int (nI mr)), (12, .int (nI 1)), (11, .ref aa), (10, .ref ba), (9, .int (nI 1)), (8, .int (nI mc)), (7, .int (nI mr)), (6, .int (nI 1)), (0, .ref oa), (1, .ref ga), (2, .ref aa), (3, .ref ba), (4, .ref wa), (5, .int (nI y))]) xE xB dL_reads_90 xL (by decide) rfl (fun ls xL => ?_)
  refine lv_iconst (v := nI 0) xE xB dL_reads_92 (by decide) ?_
  refine lv_istore (lv' := [(14, .int (nI 0)), (13, .int (nI mr)), (12, .int (nI 1)), (11, .ref aa), (10, .ref ba), (9, .int (nI 1)), (8, .int (nI mc)), (7, .int (nI mr)), (6, .int (nI 1)), (0, .ref oa), (1, .ref ga), (2, .ref aa), (3, .ref ba), (4, .ref wa), (5, .int (nI y))]) xE xB dL_reads_93 xL (by decide) rfl (fun ls xL => ?_)
  have L_95 : ∀ (n_95 : Nat) (q : Nat) (a2 b2 : wF), (q ≤ 36) → (∀ p, p < q → b2 p = nI 0) → (∀ p, a2 p = if p < q ∧ ¬ mr = k then nI 0 else ad p) → 36 - q < n_95 → ∀ (H : Heap) (locs : List Loc), va_P G.1 vwCl (List.flatten [[(ga, ai G 9 g)], [(aa, ai G 36 a2)], [(ba, ai G 36 b2)], [(wa, al G 1 wd)], wO G oa u_28]) H → va_D A (List.flatten [[(ga, ai G 9 g)], [(aa, ai G 36 a2)], [(ba, ai G 36 b2)], [(wa, al G 1 wd)], wO G oa u_28]) → va_S A s9.heap H locs → ∀ (ls : Array Slot), lv_has ls 16 [(0, .ref oa), (1, .ref ga), (2, .ref aa), (3, .ref ba), (4, .ref wa), (5, .int (nI y)), (6, .int (nI 1)), (7, .int (nI mr)), (8, .int (nI mc)), (9, .int (nI 1)), (12, .int (nI 1)), (13, .int (nI mr)), (10, .ref ba), (11, .ref aa), (14, .int (nI q))] → W p9 l e9 (rm 7 150) s9 m9 ([.ref oa, .ref ga, .ref aa, .ref ba, .ref wa, .int (nI y)] : List Value).toArray b9 t9 c9 H locs 0 0 Q (F0 m9 95 ls []) := by
    intro n_95
    induction n_95 with
    | zero => intro q a2 b2 hq hb2 ha2 hm_95 H locs xP xD xS ls xL; exact absurd hm_95 (Nat.not_lt_zero _)
    | succ n_95 ih_95 =>
      intro q a2 b2 hq hb2 ha2 hm_95 H locs xP xD xS ls xL
      refine lv_iload xE xB dL_reads_95 (lv_at xL 14 rfl) ?_
      refine lv_bipush (v := nI 36) xE xB dL_reads_97 (by decide) ?_
      refine q_icmp_ge (tgt := 141) xE xB dL_reads_99 (by decide) (by omega) (by omega) (fun c_99 => ?_) (fun c_99 => ?_)
      · skip
        obtain rfl : q = 36 := (by omega)
        refine lv_iconst (v := nI 0) xE xB dL_reads_141 (by decide) ?_
        refine lv_istore (lv' := [(14, .int (nI 0)), (0, .ref oa), (1, .ref ga), (2, .ref aa), (3, .ref ba), (4, .ref wa), (5, .int (nI y)), (6, .int (nI 1)), (7, .int (nI mr)), (8, .int (nI mc)), (9, .int (nI 1)), (12, .int (nI 1)), (13, .int (nI mr)), (10, .ref ba), (11, .ref aa)]) xE xB dL_reads_142 xL (by decide) rfl (fun ls xL => ?_)
        have L_144 : ∀ (n_144 : Nat) (q : Nat) (b3 : wF) (u3 : OD) (T3 : Nat → Nat) (t3 : Nat), (q ≤ mr * mc) → (OI n r k c o 0 ta tb tt u3 s T3 t3) → (TS mc b3 T3 t3 q) → (t3 ≤ 4 * q ∧ (0 < q → 0 < t3)) → mr * mc - q < n_144 → ∀ (H : Heap) (locs : List Loc), va_P G.1 vwCl (List.flatten [[(ga, ai G 9 g)], [(aa, ai G 36 a2)], [(ba, ai G 36 b3)], [(wa, al G 1 wd)], wO G oa u3]) H → va_D A (List.flatten [[(ga, ai G 9 g)], [(aa, ai G 36 a2)], [(ba, ai G 36 b3)], [(wa, al G 1 wd)], wO G oa u3]) → va_S A s9.heap H locs → ∀ (ls : Array Slot), lv_has ls 16 [(0, .ref oa), (1, .ref ga), (2, .ref aa), (3, .ref ba), (4, .ref wa), (5, .int (nI y)), (6, .int (nI 1)), (7, .int (nI mr)), (8, .int (nI mc)), (9, .int (nI 1)), (12, .int (nI 1)), (13, .int (nI mr)), (10, .ref ba), (11, .ref aa), (14, .int (nI q))] → W p9 l e9 (rm 7 150) s9 m9 ([.ref oa, .ref ga, .ref aa, .ref ba, .ref wa, .int (nI y)] : List Value).toArray b9 t9 c9 H locs 0 0 Q (F0 m9 144 ls []) := by
          intro n_144
          induction n_144 with
          | zero => intro q b3 u3 T3 t3 hq3 hI3 hS3 hl3 hm_144 H locs xP xD xS ls xL; exact absurd hm_144 (Nat.not_lt_zero _)
          | succ n_144 ih_144 =>
            intro q b3 u3 T3 t3 hq3 hI3 hS3 hl3 hm_144 H locs xP xD xS ls xL
            refine lv_iload xE xB dL_reads_144 (lv_at xL 14 rfl) ?_
            refine lv_iload xE xB dL_reads_146 (lv_at xL 7 rfl) ?_
            refine lv_iload xE xB dL_reads_148 (lv_at xL 8 rfl) ?_
            refine q_imul xE xB dL_reads_150 ?_
            refine q_icmp_ge (tgt := 275) xE xB dL_reads_151 (by decide) (by omega) (by omega) (fun c_151 => ?_) (fun c_151 => ?_)
            · skip
              have hqe : q = mr * mc := (by omega)
              have hS9 := hS3
              rw [hqe] at hS9
              obtain ⟨hs1, hs2, hs3, hs4⟩ := TS_end hmc hmr hS9
              refine lv_iload xE xB dL_reads_275 (lv_at xL 9 rfl) ?_
              refine lv_if_eq (tgt := 325) xE xB dL_reads_277 (by decide) (fun h9 => absurd h9 (by decide)) (fun _ => ?_)
              refine lv_aload_n xE xB dL_reads_280 rfl (lv_at xL 0 rfl) ?_
              refine lv_iconst (v := nI 0) xE xB dL_reads_281 (by decide) ?_
              refine q_VIL (As := [.int (nI 0)]) (rest := []) ⟨xE, xB, xM, xO, xT⟩ (kO_textFault l G oa n r k c o 0 ta tb tt t3 u3 s T3 (by first | assumption | omega) hs1) (cwV 1 xT gL_reads_X6_textFault rfl rfl rfl (by decide +kernel) ⟨Nat.le_of_ble_eq_true rfl, Nat.le_of_ble_eq_true rfl⟩) xK xP xD xS [4] [0, 1, 2, 3] 5 rfl (by decide) (Lc := [wO G oa u3]) rfl rfl (fun u_282 => [[(ga, ai G 9 g)], [(aa, ai G 36 a2)], [(ba, ai G 36 b3)], [(wa, al G 1 wd)], wO G oa u_282]) (fun u_282 => [wO G oa u_282]) (fun _ => rfl) (fun _ => rfl) (fun _ => rfl) (fun _ => rfl) 0 rfl rfl rfl rfl xL.1 rfl (Nat.le_of_ble_eq_true rfl) dL_reads_282 ⟨Nat.le_refl _, Nat.le_refl _⟩ (fun r_282 u_282 H locs h_282 xP xD xS => ?_)
              replace h_282 : r_282 = (-1000004) ∧ OI n r k c o 0 ta tb tt u_282 s T3 t3 := h_282
              obtain ⟨q_282, h_282⟩ := h_282
              subst q_282
              refine lv_ldc (v := (-1000004)) xE xB xO (xT _ kL_reads_c44) dL_reads_285 ?_
              refine lv_icmp_ne (tgt := 325) xE xB dL_reads_287 (by decide) (fun c_287 => absurd c_287 (by decide)) (fun c_287 => ?_)
              refine lv_aload_n xE xB dL_reads_290 rfl (lv_at xL 0 rfl) ?_
              refine lv_iload xE xB dL_reads_291 (lv_at xL 6 rfl) ?_
              refine q_VIL (As := [.int (nI 1)]) (rest := []) ⟨xE, xB, xM, xO, xT⟩ (kO_readR l G oa n r k c o 0 ta tb tt t3 u_282 s T3 (by first | assumption | omega) (by rfl) hs1) (cwV 1 xT gL_reads_X6_read rfl rfl rfl (by decide +kernel) ⟨Nat.le_of_ble_eq_true rfl, Nat.le_of_ble_eq_true rfl⟩) xK xP xD xS [4] [0, 1, 2, 3] 5 rfl (by decide) (Lc := [wO G oa u_282]) rfl rfl (fun u_293 => [[(ga, ai G 9 g)], [(aa, ai G 36 a2)], [(ba, ai G 36 b3)], [(wa, al G 1 wd)], wO G oa u_293]) (fun u_293 => [wO G oa u_293]) (fun _ => rfl) (fun _ => rfl) (fun _ => rfl) (fun _ => rfl) 0 rfl rfl rfl rfl xL.1 rfl (Nat.le_of_ble_eq_true rfl) dL_reads_293 ⟨Nat.le_refl _, Nat.le_refl _⟩ (fun r_293 u_293 H locs h_293 xP xD xS => ?_)
              replace h_293 : r_293 = nI (scM T3 t3 * scC T3 t3) ∧ OI n r (scM T3 t3) (scC T3 t3) o 0 ta tb tt u_293 (rdR (scM T3 t3) (scC T3 t3) (scF T3 t3) s) T3 t3 := h_293
              obtain ⟨q_293, h_293⟩ := h_293
              subst q_293
              rw [hs2, hs3] at h_293
              refine q_eq (y := nI (mr * mc)) (by rw [hs2, hs3]) ?_
              refine lv_iload xE xB dL_reads_296 (lv_at xL 10 rfl) ?_
              refine lv_if_eq (tgt := 309) xE xB dL_reads_298 (by decide) (fun h9 => absurd h9 (by decide)) (fun _ => ?_)
              refine lv_iload xE xB dL_reads_301 (lv_at xL 7 rfl) ?_
              refine lv_iload xE xB dL_reads_303 (lv_at xL 8 rfl) ?_
              refine q_imul xE xB dL_reads_305 ?_
              refine lv_goto (tgt := 311) xE xB dL_reads_306 (by decide) ?_
              refine q_icmp_ne (tgt := 325) xE xB dL_reads_311 (by decide) (by omega) (by omega) (fun c_311 => absurd c_311 (by omega)) (fun c_311 => ?_)
              refine lv_aload_n xE xB dL_reads_314 rfl (lv_at xL 0 rfl) ?_
              refine q_VIL (As := []) (rest := []) ⟨xE, xB, xM, xO, xT⟩ (kO_clearText l G oa n r mr mc o 0 ta tb tt t3 u_293 (rdR mr mc (scF T3 t3) s) T3 (by first | assumption | omega)) (cwV 0 xT gL_reads_X6_clearText rfl rfl rfl (by decide +kernel) ⟨Nat.le_of_ble_eq_true rfl, Nat.le_of_ble_eq_true rfl⟩) xK xP xD xS [4] [0, 1, 2, 3] 5 rfl (by decide) (Lc := [wO G oa u_293]) rfl rfl (fun u_315 => [[(ga, ai G 9 g)], [(aa, ai G 36 a2)], [(ba, ai G 36 b3)], [(wa, al G 1 wd)], wO G oa u_315]) (fun u_315 => [wO G oa u_315]) (fun _ => rfl) (fun _ => rfl) (fun _ => rfl) (fun _ => rfl) 0 rfl rfl rfl rfl xL.1 rfl (Nat.le_of_ble_eq_true rfl) dL_reads_315 ⟨Nat.le_refl _, Nat.le_refl _⟩ (fun r_315 u_315 H locs h_315 xP xD xS => ?_)
              replace h_315 : r_315 = nI t3 ∧ OI n r mr mc o 0 ta tb tt u_315 (rdR mr mc (scF T3 t3) s) T3 0 := h_315
              obtain ⟨q_315, h_315⟩ := h_315
              subst q_315
              refine q_if_le (tgt := 325) xE xB dL_reads_318 (by decide) (by omega) (fun c_318 => absurd c_318 (by have := hl3.2 (by omega); omega)) (fun c_318 => ?_)
              refine lv_iconst (v := nI 1) xE xB dL_reads_321 (by decide) ?_
              refine lv_goto (tgt := 326) xE xB dL_reads_322 (by decide) ?_
              refine lv_istore (lv' := [(9, .int (nI 1)), (0, .ref oa), (1, .ref ga), (2, .ref aa), (3, .ref ba), (4, .ref wa), (5, .int (nI y)), (6, .int (nI 1)), (7, .int (nI mr)), (8, .int (nI mc)), (12, .int (nI 1)), (13, .int (nI mr)), (10, .ref ba), (11, .ref aa), (14, .int (nI q))]) xE xB dL_reads_326 xL (by decide) rfl (fun ls xL => ?_)
              refine lv_iload xE xB dL_reads_328 (lv_at xL 10 rfl) ?_
              refine lv_if_eq (tgt := 367) xE xB dL_reads_330 (by decide) (fun h9 => absurd h9 (by decide)) (fun _ => ?_)
              refine lv_aload_n xE xB dL_reads_333 rfl (lv_at xL 2 rfl) ?_
              refine lv_iconst (v := nI 2) xE xB dL_reads_334 (by decide) ?_
              refine lv_iload xE xB dL_reads_335 (lv_at xL 11 rfl) ?_
              refine q_ast xE xB xK xP xD xS 0 rfl (by omega) (by decide) dL_reads_337 (fun H locs xP xD xS => ?_)
              have xP : va_P G.1 vwCl (List.flatten [[(ga, ai G 9 (upd g 2 (nI mr)))], [(aa, ai G 36 a2)], [(ba, ai G 36 b3)], [(wa, al G 1 wd)], wO G oa u_315]) H := xP
              have xD : va_D A (List.flatten [[(ga, ai G 9 (upd g 2 (nI mr)))], [(aa, ai G 36 a2)], [(ba, ai G 36 b3)], [(wa, al G 1 wd)], wO G oa u_315]) := xD
              refine lv_aload_n xE xB dL_reads_338 rfl (lv_at xL 2 rfl) ?_
              refine lv_iload xE xB dL_reads_339 (lv_at xL 7 rfl) ?_
              refine lv_if_ne (tgt := 348) xE xB dL_reads_341 (by decide) (fun _ => ?_) (fun h9 => absurd h9 (by decide))
              refine lv_iconst (v := nI 3) xE xB dL_reads_348 (by decide) ?_
              refine lv_iload xE xB dL_reads_349 (lv_at xL 7 rfl) ?_
              refine lv_if_ne (tgt := 359) xE xB dL_reads_351 (by decide) (fun _ => ?_) (fun h9 => absurd h9 (by decide))
              refine lv_iload xE xB dL_reads_359 (lv_at xL 9 rfl) ?_
              refine q_ast xE xB xK xP xD xS 0 rfl (by omega) (by decide) dL_reads_361 (fun H locs xP xD xS => ?_)
              have xP : va_P G.1 vwCl (List.flatten [[(ga, ai G 9 (upd (upd g 2 (nI mr)) 3 (nI mc)))], [(aa, ai G 36 a2)], [(ba, ai G 36 b3)], [(wa, al G 1 wd)], wO G oa u_315]) H := xP
              have xD : va_D A (List.flatten [[(ga, ai G 9 (upd (upd g 2 (nI mr)) 3 (nI mc)))], [(aa, ai G 36 a2)], [(ba, ai G 36 b3)], [(wa, al G 1 wd)], wO G oa u_315]) := xD
              refine lv_aload xE xB dL_reads_362 (lv_at xL 5 rfl) ?_
              refine lv_iconst (v := nI 0) xE xB dL_reads_364 (by decide) ?_
              refine lv_lconst (v := lN 0) xE xB dL_reads_365 (by decide) ?_
              refine q_last xE xB xK xP xD xS 3 rfl (by omega) (by decide) dL_reads_366 (fun H locs xP xD xS => ?_)
              have xP : va_P G.1 vwCl (List.flatten [[(ga, ai G 9 (upd (upd g 2 (nI mr)) 3 (nI mc)))], [(aa, ai G 36 a2)], [(ba, ai G 36 b3)], [(wa, al G 1 (vp_updL wd 0 (lN 0)))], wO G oa u_315]) H := xP
              have xD : va_D A (List.flatten [[(ga, ai G 9 (upd (upd g 2 (nI mr)) 3 (nI mc)))], [(aa, ai G 36 a2)], [(ba, ai G 36 b3)], [(wa, al G 1 (vp_updL wd 0 (lN 0)))], wO G oa u_315]) := xD
              refine lv_iload xE xB dL_reads_367 (lv_at xL 0 rfl) ?_
              exact xQ _ _ _ _ _ (_, _, _, _, _) (by exact ⟨rfl, n, r, mr, mc, o, 0, ta, tb, tt, _, _, h_315, LR_readR hL0 hN.1.2.2.1 (by omega) (by omega) hs4 (rd_end ha2)⟩) (by decide) xP xD xS dL_reads_369
            · skip
              have hd3 := dm_3 hmc hmr.2 c_151
              refine lv_iload xE xB dL_reads_154 (lv_at xL 5 rfl) ?_
              refine lv_iconst (v := nI 1) xE xB dL_reads_156 (by decide) ?_
              refine lv_iconst (v := nI 3) xE xB dL_reads_157 (by decide) ?_
              refine lv_iload xE xB dL_reads_158 (lv_at xL 14 rfl) ?_
              refine q_imul xE xB dL_reads_160 ?_
              refine q_iadd xE xB dL_reads_161 ?_
              refine q_idiv xE xB dL_reads_162 (by omega) (by omega) (by omega) ?_
              refine lv_bipush (v := nI 17) xE xB dL_reads_163 (by decide) ?_
              refine lv_iload xE xB dL_reads_165 (lv_at xL 14 rfl) ?_
              refine q_imul xE xB dL_reads_167 ?_
              refine q_iadd xE xB dL_reads_168 ?_
              refine lv_sipush (v := nI 199) xE xB dL_reads_169 (by decide) ?_
              refine q_irem xE xB dL_reads_172 (by have := Nat.div_le_self y (1 + 3 * q); omega) (by have := Nat.div_le_self y (1 + 3 * q); omega) (by have := Nat.div_le_self y (1 + 3 * q); omega) ?_
              refine lv_bipush (v := nI 99) xE xB dL_reads_173 (by decide) ?_
              refine lv_isub xE xB dL_reads_175 ?_
              obtain ⟨v0, hv0, hve⟩ : ∃ v : Int32, bV v ∧ v = (nI (((y / (1 + (3 * q))) + (17 * q)) % 199)) - (nI 99) := ⟨_, bV_sub (Nat.mod_lt _ (by decide)), rfl⟩
              refine q_eq (y := v0) hve.symm ?_
              refine lv_istore (lv' := [(15, .int v0), (0, .ref oa), (1, .ref ga), (2, .ref aa), (3, .ref ba), (4, .ref wa), (5, .int (nI y)), (6, .int (nI 1)), (7, .int (nI mr)), (8, .int (nI mc)), (9, .int (nI 1)), (12, .int (nI 1)), (13, .int (nI mr)), (10, .ref ba), (11, .ref aa), (14, .int (nI q))]) xE xB dL_reads_176 xL (by decide) rfl (fun ls xL => ?_)
              have J_195 : ∀ (x : Int32), (bV x) → ∀ (H : Heap) (locs : List Loc), va_P G.1 vwCl (List.flatten [[(ga, ai G 9 g)], [(aa, ai G 36 a2)], [(ba, ai G 36 b3)], [(wa, al G 1 wd)], wO G oa u3]) H → va_D A (List.flatten [[(ga, ai G 9 g)], [(aa, ai G 36 a2)], [(ba, ai G 36 b3)], [(wa, al G 1 wd)], wO G oa u3]) → va_S A s9.heap H locs → ∀ (ls : Array Slot), lv_has ls 16 [(0, .ref oa), (1, .ref ga), (2, .ref aa), (3, .ref ba), (4, .ref wa), (5, .int (nI y)), (6, .int (nI 1)), (7, .int (nI mr)), (8, .int (nI mc)), (9, .int (nI 1)), (12, .int (nI 1)), (13, .int (nI mr)), (10, .ref ba), (11, .ref aa), (14, .int (nI q))] → W p9 l e9 (rm 7 150) s9 m9 ([.ref oa, .ref ga, .ref aa, .ref ba, .ref wa, .int (nI y)] : List Value).toArray b9 t9 c9 H locs 0 0 Q (F0 m9 195 ls [.int x]) := by
                intro x hx H locs xP xD xS ls xL
                refine lv_istore (lv' := [(15, .int x), (0, .ref oa), (1, .ref ga), (2, .ref aa), (3, .ref ba), (4, .ref wa), (5, .int (nI y)), (6, .int (nI 1)), (7, .int (nI mr)), (8, .int (nI mc)), (9, .int (nI 1)), (12, .int (nI 1)), (13, .int (nI mr)), (10, .ref ba), (11, .ref aa), (14, .int (nI q))]) xE xB dL_reads_195 xL (by decide) rfl (fun ls xL => ?_)
                have J_229 : ∀ (u4 : OD) (T4 : Nat → Nat) (t4 : Nat), (OI n r k c o 0 ta tb tt u4 s T4 t4) → (PS mc b3 T4 t4 q) → (t4 ≤ 4 * q + 1) → ∀ (H : Heap) (locs : List Loc), va_P G.1 vwCl (List.flatten [[(ga, ai G 9 g)], [(aa, ai G 36 a2)], [(ba, ai G 36 b3)], [(wa, al G 1 wd)], wO G oa u4]) H → va_D A (List.flatten [[(ga, ai G 9 g)], [(aa, ai G 36 a2)], [(ba, ai G 36 b3)], [(wa, al G 1 wd)], wO G oa u4]) → va_S A s9.heap H locs → ∀ (ls : Array Slot), lv_has ls 16 [(0, .ref oa), (1, .ref ga), (2, .ref aa), (3, .ref ba), (4, .ref wa), (5, .int (nI y)), (6, .int (nI 1)), (7, .int (nI mr)), (8, .int (nI mc)), (9, .int (nI 1)), (12, .int (nI 1)), (13, .int (nI mr)), (10, .ref ba), (11, .ref aa), (14, .int (nI q)), (15, .int x)] → W p9 l e9 (rm 7 150) s9 m9 ([.ref oa, .ref ga, .ref aa, .ref ba, .ref wa, .int (nI y)] : List Value).toArray b9 t9 c9 H locs 0 0 Q (F0 m9 229 ls []) := by
                  intro u4 T4 t4 hI4 hP4 hl4 H locs xP xD xS ls xL
                  refine lv_aload_n xE xB dL_reads_229 rfl (lv_at xL 0 rfl) ?_
                  refine lv_iload xE xB dL_reads_230 (lv_at xL 15 rfl) ?_
                  refine q_SIL (As := [.ref oa, .int x]) (rest := []) ⟨xE, xB, xM, xO, xT⟩ (kL_types l G oa n r k c o 0 ta tb tt t4 u4 s T4 x (by first | assumption | omega) (by omega) (by first | assumption | omega)) (va_cwS 2 xT gL_reads_L_types rfl rfl rfl (by decide +kernel) ⟨Nat.le_of_ble_eq_true rfl, Nat.le_of_ble_eq_true rfl⟩) xK xP xD xS [4] [0, 1, 2, 3] 5 rfl (by decide) (Lc := [wO G oa u4]) rfl rfl (fun u_232 => [[(ga, ai G 9 g)], [(aa, ai G 36 a2)], [(ba, ai G 36 b3)], [(wa, al G 1 wd)], wO G oa u_232]) (fun u_232 => [wO G oa u_232]) (fun _ => rfl) (fun _ => rfl) (fun _ => rfl) (fun _ => rfl) rfl xL.1 rfl (Nat.le_of_ble_eq_true rfl) dL_reads_232 ⟨Nat.le_refl _, Nat.le_refl _⟩ (fun r_232 u_232 H locs h_232 xP xD xS => ?_)
                  replace h_232 : r_232 = nI 1 ∧ ∃ T' tl', OI n r k c o 0 ta tb tt u_232 s T' tl' ∧ (tl' ≤ t4 + 3 ∧ t4 < tl') ∧ TY t4 T4 T' tl' x := h_232
                  obtain ⟨rx_232, T5, t5, hI5, hl5, hT5⟩ := h_232
                  subst rx_232
                  have hP5 := hP4
                  refine lv_if_eq (tgt := 242) xE xB dL_reads_235 (by decide) (fun h9 => absurd h9 (by decide)) (fun _ => ?_)
                  refine lv_iconst (v := nI 1) xE xB dL_reads_238 (by decide) ?_
                  refine lv_goto (tgt := 243) xE xB dL_reads_239 (by decide) ?_
                  refine lv_istore (lv' := [(9, .int (nI 1)), (0, .ref oa), (1, .ref ga), (2, .ref aa), (3, .ref ba), (4, .ref wa), (5, .int (nI y)), (6, .int (nI 1)), (7, .int (nI mr)), (8, .int (nI mc)), (12, .int (nI 1)), (13, .int (nI mr)), (10, .ref ba), (11, .ref aa), (14, .int (nI q)), (15, .int x)]) xE xB dL_reads_243 xL (by decide) rfl (fun ls xL => ?_)
                  refine lv_iload xE xB dL_reads_245 (lv_at xL 10 rfl) ?_
                  refine lv_if_eq (tgt := 269) xE xB dL_reads_247 (by decide) (fun h9 => absurd h9 (by decide)) (fun _ => ?_)
                  have hix := ix_36 hmc hmr.2 c_151
                  refine lv_aload xE xB dL_reads_250 (lv_at xL 12 rfl) ?_
                  refine lv_bipush (v := nI 6) xE xB dL_reads_252 (by decide) ?_
                  refine lv_iload xE xB dL_reads_254 (lv_at xL 14 rfl) ?_
                  refine lv_iload xE xB dL_reads_256 (lv_at xL 9 rfl) ?_
                  refine q_idiv xE xB dL_reads_258 (by omega) (by omega) (by omega) ?_
                  refine q_imul xE xB dL_reads_259 ?_
                  refine lv_iload xE xB dL_reads_260 (lv_at xL 14 rfl) ?_
                  refine lv_iload xE xB dL_reads_262 (lv_at xL 9 rfl) ?_
                  refine q_irem xE xB dL_reads_264 (by omega) (by omega) (by omega) ?_
                  refine q_iadd xE xB dL_reads_265 ?_
                  refine lv_iload xE xB dL_reads_266 (lv_at xL 15 rfl) ?_
                  refine q_ast xE xB xK xP xD xS 2 rfl (by omega) (by decide) dL_reads_268 (fun H locs xP xD xS => ?_)
                  have xP : va_P G.1 vwCl (List.flatten [[(ga, ai G 9 g)], [(aa, ai G 36 a2)], [(ba, ai G 36 (upd b3 ((6 * (q / mc)) + (q % mc)) x))], [(wa, al G 1 wd)], wO G oa u_232]) H := xP
                  have xD : va_D A (List.flatten [[(ga, ai G 9 g)], [(aa, ai G 36 a2)], [(ba, ai G 36 (upd b3 ((6 * (q / mc)) + (q % mc)) x))], [(wa, al G 1 wd)], wO G oa u_232]) := xD
                  refine lv_iinc (v := nI (q + 1)) (lv' := [(14, .int (nI (q + 1))), (9, .int (nI 1)), (0, .ref oa), (1, .ref ga), (2, .ref aa), (3, .ref ba), (4, .ref wa), (5, .int (nI y)), (6, .int (nI 1)), (7, .int (nI mr)), (8, .int (nI mc)), (12, .int (nI 1)), (13, .int (nI mr)), (10, .ref ba), (11, .ref aa), (15, .int x)]) xE xB dL_reads_269 xL (k := 14) rfl (q_inc _ _) (by decide) rfl (fun ls xL => ?_)
                  refine lv_goto (tgt := 144) xE xB dL_reads_272 (by decide) ?_
                  exact ih_144 (q + 1) (upd b3 ((6 * (q / mc)) + (q % mc)) x) u_232 T5 t5 (by omega) (by exact hI5) (by exact TS_next hP5 hT5) (by omega) (by omega) _ _ xP xD xS _ (lv_sub xL [2, 3, 4, 5, 6, 7, 8, 9, 10, 1, 11, 12, 13, 14, 0] rfl)
                refine lv_iload xE xB dL_reads_197 (lv_at xL 10 rfl) ?_
                refine lv_if_eq (tgt := 242) xE xB dL_reads_199 (by decide) (fun h9 => absurd h9 (by decide)) (fun _ => ?_)
                refine lv_iload xE xB dL_reads_202 (lv_at xL 15 rfl) ?_
                refine q_if_eq (tgt := 229) xE xB dL_reads_204 (by decide) (by omega) (fun c_204 => ?_) (fun c_204 => ?_)
                · skip
                  exact J_229 u3 T3 t3 (by assumption) (by first | exact PS_0 hS3 c_204 | exact PS_comma hmc hS3 c_213 ha_223 hb_223 | exact PS_semi hmc hmr.2 hS3 (by omega) c_204 c_213 ha_223 hb_223) (by omega) _ _ xP xD xS _ (lv_sub xL [1, 2, 3, 4, 5, 6, 7, 8, 9, 10, 11, 12, 13, 14, 15, 0] rfl)
                · skip
                  refine lv_aload_n xE xB dL_reads_207 rfl (lv_at xL 1 rfl) ?_
                  refine lv_iload xE xB dL_reads_208 (lv_at xL 15 rfl) ?_
                  refine lv_iload xE xB dL_reads_210 (lv_at xL 9 rfl) ?_
                  refine q_irem xE xB dL_reads_212 (by omega) (by omega) (by omega) ?_
                  refine q_if_ne (tgt := 221) xE xB dL_reads_213 (by decide) (by omega) (fun c_213 => ?_) (fun c_213 => ?_)
                  · skip
                    refine lv_bipush (v := nI 44) xE xB dL_reads_221 (by decide) ?_
                    refine q_VIL (As := [.int (nI 44)]) (rest := []) ⟨xE, xB, xM, xO, xT⟩ (kO_type2 l G oa n r k c o 0 ta tb tt t3 u3 s T3 44 (by first | assumption | omega) (by first | assumption | omega) (by first | assumption | omega) (by first | assumption | omega)) (cwV 1 xT gL_reads_X6_type rfl rfl rfl (by decide +kernel) ⟨Nat.le_of_ble_eq_true rfl, Nat.le_of_ble_eq_true rfl⟩) xK xP xD xS [4] [0, 1, 2, 3] 5 rfl (by decide) (Lc := [wO G oa u3]) rfl rfl (fun u_223 => [[(ga, ai G 9 g)], [(aa, ai G 36 a2)], [(ba, ai G 36 b3)], [(wa, al G 1 wd)], wO G oa u_223]) (fun u_223 => [wO G oa u_223]) (fun _ => rfl) (fun _ => rfl) (fun _ => rfl) (fun _ => rfl) 0 rfl rfl rfl rfl xL.1 rfl (Nat.le_of_ble_eq_true rfl) dL_reads_223 ⟨Nat.le_refl _, Nat.le_refl _⟩ (fun r_223 u_223 H locs h_223 xP xD xS => ?_)
                    replace h_223 : r_223 = nI (t3 + 1) ∧ ∃ T', (∀ j, j < t3 → T' j = T3 j) ∧ T' t3 = 44 ∧ OI n r k c o 0 ta tb tt u_223 s T' (t3 + 1) := h_223
                    obtain ⟨q_223, h_223⟩ := h_223
                    subst q_223
                    obtain ⟨T_223, ha_223, hb_223, hI_223⟩ := h_223
                    refine q_if_le (tgt := 242) xE xB dL_reads_226 (by decide) (by omega) (fun c_226 => absurd c_226 (by omega)) (fun c_226 => ?_)
                    exact J_229 u_223 T_223 (t3 + 1) (by assumption) (by first | exact PS_0 hS3 c_204 | exact PS_comma hmc hS3 c_213 ha_223 hb_223 | exact PS_semi hmc hmr.2 hS3 (by omega) c_204 c_213 ha_223 hb_223) (by omega) _ _ xP xD xS _ (lv_sub xL [1, 2, 3, 4, 5, 6, 7, 8, 9, 10, 11, 12, 13, 14, 15, 0] rfl)
                  · skip
                    refine lv_bipush (v := nI 59) xE xB dL_reads_216 (by decide) ?_
                    refine lv_goto (tgt := 223) xE xB dL_reads_218 (by decide) ?_
                    refine q_VIL (As := [.int (nI 59)]) (rest := []) ⟨xE, xB, xM, xO, xT⟩ (kO_type2 l G oa n r k c o 0 ta tb tt t3 u3 s T3 59 (by first | assumption | omega) (by first | assumption | omega) (by first | assumption | omega) (by first | assumption | omega)) (cwV 1 xT gL_reads_X6_type rfl rfl rfl (by decide +kernel) ⟨Nat.le_of_ble_eq_true rfl, Nat.le_of_ble_eq_true rfl⟩) xK xP xD xS [4] [0, 1, 2, 3] 5 rfl (by decide) (Lc := [wO G oa u3]) rfl rfl (fun u_223 => [[(ga, ai G 9 g)], [(aa, ai G 36 a2)], [(ba, ai G 36 b3)], [(wa, al G 1 wd)], wO G oa u_223]) (fun u_223 => [wO G oa u_223]) (fun _ => rfl) (fun _ => rfl) (fun _ => rfl) (fun _ => rfl) 0 rfl rfl rfl rfl xL.1 rfl (Nat.le_of_ble_eq_true rfl) dL_reads_223 ⟨Nat.le_refl _, Nat.le_refl _⟩ (fun r_223 u_223 H locs h_223 xP xD xS => ?_)
                    replace h_223 : r_223 = nI (t3 + 1) ∧ ∃ T', (∀ j, j < t3 → T' j = T3 j) ∧ T' t3 = 59 ∧ OI n r k c o 0 ta tb tt u_223 s T' (t3 + 1) := h_223
                    obtain ⟨q_223, h_223⟩ := h_223
                    subst q_223
                    obtain ⟨T_223, ha_223, hb_223, hI_223⟩ := h_223
                    refine q_if_le (tgt := 242) xE xB dL_reads_226 (by decide) (by omega) (fun c_226 => absurd c_226 (by omega)) (fun c_226 => ?_)
                    exact J_229 u_223 T_223 (t3 + 1) (by assumption) (by first | exact PS_0 hS3 c_204 | exact PS_comma hmc hS3 c_213 ha_223 hb_223 | exact PS_semi hmc hmr.2 hS3 (by omega) c_204 c_213 ha_223 hb_223) (by omega) _ _ xP xD xS _ (lv_sub xL [1, 2, 3, 4, 5, 6, 7, 8, 9, 10, 11, 12, 13, 14, 15, 0] rfl)
              refine lv_iload xE xB dL_reads_178 (lv_at xL 6 rfl) ?_
              refine lv_iconst (v := nI 3) xE xB dL_reads_180 (by decide) ?_
              refine q_irem xE xB dL_reads_181 (by omega) (by omega) (by omega) ?_
              refine q_if_le (tgt := 193) xE xB dL_reads_182 (by decide) (by omega) (fun c_182 => ?_) (fun c_182 => ?_)
              · skip
                refine lv_iload xE xB dL_reads_193 (lv_at xL 0 rfl) ?_
                exact J_195 v0 (by first | exact bV_9 hv0 | exact hv0) _ _ xP xD xS _ (lv_sub xL [1, 2, 3, 4, 5, 6, 7, 8, 9, 10, 11, 12, 13, 14, 15] rfl)
              · skip
                refine lv_iload xE xB dL_reads_185 (lv_at xL 0 rfl) ?_
                refine lv_bipush (v := nI 9) xE xB dL_reads_187 (by decide) ?_
                refine lv_idiv xE xB dL_reads_189 (by decide) ?_
                refine lv_goto (tgt := 195) xE xB dL_reads_190 (by decide) ?_
                exact J_195 (v0 / (nI 9)) (by first | exact bV_9 hv0 | exact hv0) _ _ xP xD xS _ (lv_sub xL [1, 2, 3, 4, 5, 6, 7, 8, 9, 10, 11, 12, 13, 14, 15] rfl)
        exact L_144 (mr * mc - 0 + 1) 0 b2 u_28 T 0 (by omega) (by exact h_28) (by exact Or.inl ⟨rfl, rfl, fun p hp => hb2 p (by omega)⟩) (by exact ⟨Nat.zero_le _, fun w => absurd w (Nat.lt_irrefl 0)⟩) (Nat.lt_succ_self _) _ _ xP xD xS _ (lv_sub xL [1, 2, 3, 4, 5, 6, 7, 8, 9, 10, 11, 12, 13, 14, 0] rfl)
      · skip
        refine lv_iload xE xB dL_reads_102 (lv_at xL 10 rfl) ?_
        refine lv_if_eq (tgt := 141) xE xB dL_reads_104 (by decide) (fun h9 => absurd h9 (by decide)) (fun _ => ?_)
        refine lv_aload xE xB dL_reads_107 (lv_at xL 12 rfl) ?_
        refine lv_iload xE xB dL_reads_109 (lv_at xL 14 rfl) ?_
        refine lv_iconst (v := nI 0) xE xB dL_reads_111 (by decide) ?_
        refine q_ast xE xB xK xP xD xS 2 rfl (by omega) (by decide) dL_reads_112 (fun H locs xP xD xS => ?_)
        have xP : va_P G.1 vwCl (List.flatten [[(ga, ai G 9 g)], [(aa, ai G 36 a2)], [(ba, ai G 36 (upd b2 q (nI 0)))], [(wa, al G 1 wd)], wO G oa u_28]) H := xP
        have xD : va_D A (List.flatten [[(ga, ai G 9 g)], [(aa, ai G 36 a2)], [(ba, ai G 36 (upd b2 q (nI 0)))], [(wa, al G 1 wd)], wO G oa u_28]) := xD
        refine lv_aload xE xB dL_reads_113 (lv_at xL 13 rfl) ?_
        refine lv_iload xE xB dL_reads_115 (lv_at xL 14 rfl) ?_
        refine lv_iload xE xB dL_reads_117 (lv_at xL 11 rfl) ?_
        refine lv_aload_n xE xB dL_reads_119 rfl (lv_at xL 1 rfl) ?_
        refine lv_iconst (v := nI 2) xE xB dL_reads_120 (by decide) ?_
        refine q_ald xE xB xK xP 0 rfl (by omega) (by decide) dL_reads_121 ?_
        refine q_eq (y := nI k) (hg2) ?_
        refine q_icmp_ne (tgt := 133) xE xB dL_reads_122 (by decide) (by omega) (by omega) (fun c_122 => ?_) (fun c_122 => ?_)
        · skip
          refine lv_iconst (v := nI 0) xE xB dL_reads_133 (by decide) ?_
          refine q_ast xE xB xK xP xD xS 1 rfl (by omega) (by decide) dL_reads_134 (fun H locs xP xD xS => ?_)
          have xP : va_P G.1 vwCl (List.flatten [[(ga, ai G 9 g)], [(aa, ai G 36 (upd a2 q (nI 0)))], [(ba, ai G 36 (upd b2 q (nI 0)))], [(wa, al G 1 wd)], wO G oa u_28]) H := xP
          have xD : va_D A (List.flatten [[(ga, ai G 9 g)], [(aa, ai G 36 (upd a2 q (nI 0)))], [(ba, ai G 36 (upd b2 q (nI 0)))], [(wa, al G 1 wd)], wO G oa u_28]) := xD
          refine lv_iinc (v := nI (q + 1)) (lv' := [(14, .int (nI (q + 1))), (0, .ref oa), (1, .ref ga), (2, .ref aa), (3, .ref ba), (4, .ref wa), (5, .int (nI y)), (6, .int (nI 1)), (7, .int (nI mr)), (8, .int (nI mc)), (9, .int (nI 1)), (12, .int (nI 1)), (13, .int (nI mr)), (10, .ref ba), (11, .ref aa)]) xE xB dL_reads_135 xL (k := 14) rfl (q_inc _ _) (by decide) rfl (fun ls xL => ?_)
          refine lv_goto (tgt := 95) xE xB dL_reads_138 (by decide) ?_
          exact ih_95 (q + 1) (upd a2 q (nI 0)) (upd b2 q (nI 0)) (by omega) (by exact set_up hb2) (by first | exact rd_up ha2 (if_pos c_122).symm | exact rd_up ha2 (if_neg c_122).symm) (by omega) _ _ xP xD xS _ (lv_sub xL [1, 2, 3, 4, 5, 6, 7, 8, 9, 10, 11, 12, 13, 14, 0] rfl)
        · skip
          refine lv_aload xE xB dL_reads_125 (lv_at xL 13 rfl) ?_
          refine lv_iload xE xB dL_reads_127 (lv_at xL 14 rfl) ?_
          refine q_ald xE xB xK xP 1 rfl (by omega) (by decide) dL_reads_129 ?_
          refine lv_goto (tgt := 134) xE xB dL_reads_130 (by decide) ?_
          refine q_ast xE xB xK xP xD xS 1 rfl (by omega) (by decide) dL_reads_134 (fun H locs xP xD xS => ?_)
          have xP : va_P G.1 vwCl (List.flatten [[(ga, ai G 9 g)], [(aa, ai G 36 (upd a2 q (a2 q)))], [(ba, ai G 36 (upd b2 q (nI 0)))], [(wa, al G 1 wd)], wO G oa u_28]) H := xP
          have xD : va_D A (List.flatten [[(ga, ai G 9 g)], [(aa, ai G 36 (upd a2 q (a2 q)))], [(ba, ai G 36 (upd b2 q (nI 0)))], [(wa, al G 1 wd)], wO G oa u_28]) := xD
          refine lv_iinc (v := nI (q + 1)) (lv' := [(14, .int (nI (q + 1))), (0, .ref oa), (1, .ref ga), (2, .ref aa), (3, .ref ba), (4, .ref wa), (5, .int (nI y)), (6, .int (nI 1)), (7, .int (nI mr)), (8, .int (nI mc)), (9, .int (nI 1)), (12, .int (nI 1)), (13, .int (nI mr)), (10, .ref ba), (11, .ref aa)]) xE xB dL_reads_135 xL (k := 14) rfl (q_inc _ _) (by decide) rfl (fun ls xL => ?_)
          refine lv_goto (tgt := 95) xE xB dL_reads_138 (by decide) ?_
          exact ih_95 (q + 1) (upd a2 q (a2 q)) (upd b2 q (nI 0)) (by omega) (by exact set_up hb2) (by first | exact rd_up ha2 (if_pos c_122).symm | exact rd_up ha2 (if_neg c_122).symm) (by omega) _ _ xP xD xS _ (lv_sub xL [1, 2, 3, 4, 5, 6, 7, 8, 9, 10, 11, 12, 13, 14, 0] rfl)
  exact L_95 (36 - 0 + 1) 0 ad bd (by omega) (by exact fun p hp => absurd hp (Nat.not_lt_zero p)) (by exact fun p => (if_neg (fun w => absurd w.1 (Nat.not_lt_zero p))).symm) (Nat.lt_succ_self _) _ _ xP xD xS _ (lv_sub xL [9, 10, 11, 12, 13, 14, 8, 7, 6, 5, 2, 1, 4, 3, 0] rfl)
set_option maxHeartbeats 4000000 in
set_option maxRecDepth 100000 in
/-- kL_reads1B -/
theorem kL_reads1B (l : Launch) (G : wG) (oa ga aa ba wa n r k c o ta tb tt : Nat) (u : OD) (g ad bd fd rd : wF) (wd : Nat → Int64) (s : wF) (T : Nat → Nat) (y : Nat) (hI : OI n r k c o 1 ta tb tt u s T 0) (hL : LR n r k c o 1 ta tb tt g ad bd fd rd wd s) (hy : y < 10000000) (hw : y % 2 = 1) : CI (S := OD × wF × wF × wF × (Nat → Int64)) l yL_reads wsL_reads (rm 7 150) G [.ref oa, .ref ga, .ref aa, .ref ba, .ref wa, .int (nI y)] (List.flatten [[(ga, ai G 9 g)], [(aa, ai G 36 ad)], [(ba, ai G 36 bd)], [(wa, al G 1 wd)], wO G oa u]) (fun x u9 => x = nI 1 ∧ LI u9.1 u9.2.1 u9.2.2.1 u9.2.2.2.1 fd rd u9.2.2.2.2) (fun u9 => List.flatten [[(ga, ai G 9 u9.2.1)], [(aa, ai G 36 u9.2.2.1)], [(ba, ai G 36 u9.2.2.2.1)], [(wa, al G 1 u9.2.2.2.2)], wO G oa u9.1]) := by
  refine CI.ofZ (own := RL) rfl (by decide) rfl (Nat.le_of_ble_eq_true rfl) ?_
  intro p9 e9 s9 m9 b9 t9 c9 A xE xB xM xO xT xK xP xD Q xQ xS ls hl
  have xL : lv_has ls 16 [(0, .ref oa), (1, .ref ga), (2, .ref aa), (3, .ref ba), (4, .ref wa), (5, .int (nI y))] := hl
  have hL0 := hL
  obtain ⟨⟨hg0, hg1, hg2, hg3, hg4, hg5⟩, hg6, hA, hB, hF, z, hz, hz2, hZ⟩ := hL
  have hN := hI.num
  have hn := hN.2.1
  have hm := hN.2.2.1
  have hb1 := hN.2.2.2.1
  refine lv_iload xE xB dL_reads_0 (lv_at xL 5 rfl) ?_
  refine lv_iconst (v := nI 2) xE xB dL_reads_2 (by decide) ?_
  refine q_irem xE xB dL_reads_3 (by omega) (by omega) (by omega) ?_
  refine q_eq (y := nI 1) (congrArg nI hw) ?_
  refine lv_istore (lv' := [(6, .int (nI 1)), (0, .ref oa), (1, .ref ga), (2, .ref aa), (3, .ref ba), (4, .ref wa), (5, .int (nI y))]) xE xB dL_reads_4 xL (by decide) rfl (fun ls xL => ?_)
  refine lv_iconst (v := nI 1) xE xB dL_reads_6 (by decide) ?_
  refine lv_iload xE xB dL_reads_7 (lv_at xL 6 rfl) ?_
  refine lv_iconst (v := nI 2) xE xB dL_reads_9 (by decide) ?_
  refine q_idiv xE xB dL_reads_10 (by omega) (by omega) (by omega) ?_
  refine lv_iconst (v := nI 4) xE xB dL_reads_11 (by decide) ?_
  refine q_irem xE xB dL_reads_12 (by omega) (by omega) (by omega) ?_
  refine q_iadd xE xB dL_reads_13 ?_
  obtain ⟨mr, hmr⟩ : ∃ q : Nat, q = 1 + ((y / 2) % 4) := ⟨_, rfl⟩
  refine q_eq (y := nI mr) (congrArg nI hmr.symm) ?_
  have hmr : 1 ≤ mr ∧ mr ≤ 4 := (by omega)
  refine lv_istore (lv' := [(7, .int (nI mr)), (6, .int (nI 1)), (0, .ref oa), (1, .ref ga), (2, .ref aa), (3, .ref ba), (4, .ref wa), (5, .int (nI y))]) xE xB dL_reads_14 xL (by decide) rfl (fun ls xL => ?_)
  refine lv_iconst (v := nI 1) xE xB dL_reads_16 (by decide) ?_
  refine lv_iload xE xB dL_reads_17 (lv_at xL 7 rfl) ?_
  refine lv_bipush (v := nI 8) xE xB dL_reads_19 (by decide) ?_
  refine q_idiv xE xB dL_reads_21 (by omega) (by omega) (by omega) ?_
  refine lv_iconst (v := nI 4) xE xB dL_reads_22 (by decide) ?_
  refine q_irem xE xB dL_reads_23 (by omega) (by omega) (by omega) ?_
  refine q_iadd xE xB dL_reads_24 ?_
  obtain ⟨mc, hmc⟩ : ∃ q : Nat, q = 1 + ((y / 8) % 4) := ⟨_, rfl⟩
  refine q_eq (y := nI mc) (congrArg nI hmc.symm) ?_
  have hmc : 1 ≤ mc ∧ mc ≤ 4 := (by omega)
  have h16 := dm_4 hmc hmr
  refine lv_istore (lv' := [(8, .int (nI mc)), (7, .int (nI mr)), (6, .int (nI 1)), (0, .ref oa), (1, .ref ga), (2, .ref aa), (3, .ref ba), (4, .ref wa), (5, .int (nI y))]) xE xB dL_reads_25 xL (by decide) rfl (fun ls xL => ?_)
  refine lv_aload_n xE xB dL_reads_27 rfl (lv_at xL 3 rfl) ?_
  refine q_VIL (As := []) (rest := []) ⟨xE, xB, xM, xO, xT⟩ (kO_clearText l G oa n r k c o 1 ta tb tt 0 u s T (by first | assumption | omega)) (cwV 0 xT gL_reads_X6_clearText rfl rfl rfl (by decide +kernel) ⟨Nat.le_of_ble_eq_true rfl, Nat.le_of_ble_eq_true rfl⟩) xK xP xD xS [4] [0, 1, 2, 3] 5 rfl (by decide) (Lc := [wO G oa u]) rfl rfl (fun u_28 => [[(ga, ai G 9 g)], [(aa, ai G 36 ad)], [(ba, ai G 36 bd)], [(wa, al G 1 wd)], wO G oa u_28]) (fun u_28 => [wO G oa u_28]) (fun _ => rfl) (fun _ => rfl) (fun _ => rfl) (fun _ => rfl) 0 rfl rfl rfl rfl xL.1 rfl (Nat.le_of_ble_eq_true rfl) dL_reads_28 ⟨Nat.le_refl _, Nat.le_refl _⟩ (fun r_28 u_28 H locs h_28 xP xD xS => ?_)
  replace h_28 : r_28 = nI 0 ∧ OI n r k c o 1 ta tb tt u_28 s T 0 := h_28
  obtain ⟨q_28, h_28⟩ := h_28
  subst q_28
  refine lv_if_lt (tgt := 38) xE xB dL_reads_31 (by decide) (fun h9 => absurd h9 (by decide)) (fun _ => ?_)
  refine lv_iconst (v := nI 1) xE xB dL_reads_34 (by decide) ?_
  refine lv_goto (tgt := 39) xE xB dL_reads_35 (by decide) ?_
  refine lv_istore (lv' := [(9, .int (nI 1)), (8, .int (nI mc)), (7, .int (nI mr)), (6, .int (nI 1)), (0, .ref oa), (1, .ref ga), (2, .ref aa), (3, .ref ba), (4, .ref wa), (5, .int (nI y))]) xE xB dL_reads_39 xL (by decide) rfl (fun ls xL => ?_)
  refine lv_iload xE xB dL_reads_41 (lv_at xL 3 rfl) ?_
  refine lv_if_ne (tgt := 50) xE xB dL_reads_43 (by decide) (fun _ => ?_) (fun h9 => absurd h9 (by decide))
  refine lv_aload_n xE xB dL_reads_50 rfl (lv_at xL 7 rfl) ?_
  refine lv_astore (lv' := [(10, .ref ba), (9, .int (nI 1)), (8, .int (nI mc)), (7, .int (nI mr)), (6, .int (nI 1)), (0, .ref oa), (1, .ref ga), (2, .ref aa), (3, .ref ba), (4, .ref wa), (5, .int (nI y))]) xE xB dL_reads_51 xL (by decide) rfl (fun ls xL => ?_)
  refine lv_iload xE xB dL_reads_53 (lv_at xL 4 rfl) ?_
  refine lv_if_ne (tgt := 62) xE xB dL_reads_55 (by decide) (fun _ => ?_) (fun h9 => absurd h9 (by decide))
  refine lv_aload_n xE xB dL_reads_62 rfl (lv_at xL 7 rfl) ?_
  refine lv_astore (lv' := [(11, .ref aa), (10, .ref ba), (9, .int (nI 1)), (8, .int (nI mc)), (7, .int (nI mr)), (6, .int (nI 1)), (0, .ref oa), (1, .ref ga), (2, .ref aa), (3, .ref ba), (4, .ref wa), (5, .int (nI y))]) xE xB dL_reads_63 xL (by decide) rfl (fun ls xL => ?_)
  refine lv_aload_n xE xB dL_reads_65 rfl (lv_at xL 7 rfl) ?_
  refine lv_iconst (v := nI 5) xE xB dL_reads_66 (by decide) ?_
  refine q_ald xE xB xK xP 0 rfl (by omega) (by decide) dL_reads_67 ?_
  refine q_eq (y := nI 1) (hg5) ?_
  refine lv_if_ne (tgt := 75) xE xB dL_reads_68 (by decide) (fun _ => ?_) (fun h9 => absurd h9 (by decide))
  refine lv_iconst (v := nI 0) xE xB dL_reads_75 (by decide) ?_
  refine lv_istore (lv' := [(12, .int (nI 0)), (11, .ref aa), (10, .ref ba), (9, .int (nI 1)), (8, .int (nI mc)), (7, .int (nI mr)), (6, .int (nI 1)), (0, .ref oa), (1, .ref ga), (2, .ref aa), (3, .ref ba), (4, .ref wa), (5, .int (nI y))]) xE xB dL_reads_76 xL (by decide) rfl (fun ls xL => ?_)
  refine lv_iload xE xB dL_reads_78 (lv_at xL 6 rfl) ?_
  refine lv_if_ne (tgt := 88) xE xB dL_reads_80 (by decide) (fun _ => ?_) (fun h9 => absurd h9 (by decide))
  refine lv_iload xE xB dL_reads_88 (lv_at xL 5 rfl) ?_
  refine lv_istore (lv' := [(13, .int (nI mr)), (12, .int (nI 0)), (11, .ref aa), (10, .ref ba), (9, .int (nI 1)), (8, .int (nI mc)), (7, .int (nI mr)), (6, .int (nI 1)), (0, .ref oa), (1, .ref ga), (2, .ref aa), (3, .ref ba), (4, .ref wa), (5, .int (nI y))]) xE xB dL_reads_90 xL (by decide) rfl (fun ls xL => ?_)
  refine lv_iconst (v := nI 0) xE xB dL_reads_92 (by decide) ?_
  refine lv_istore (lv' := [(14, .int (nI 0)), (13, .int (nI mr)), (12, .int (nI 0)), (11, .ref aa), (10, .ref ba), (9, .int (nI 1)), (8, .int (nI mc)), (7, .int (nI mr)), (6, .int (nI 1)), (0, .ref oa), (1, .ref ga), (2, .ref aa), (3, .ref ba), (4, .ref wa), (5, .int (nI y))]) xE xB dL_reads_93 xL (by decide) rfl (fun ls xL => ?_)
  refine lv_iload xE xB dL_reads_95 (lv_at xL 0 rfl) ?_
  refine lv_bipush (v := nI 36) xE xB dL_reads_97 (by decide) ?_
  refine lv_icmp_ge (tgt := 141) xE xB dL_reads_99 (by decide) (fun h9 => absurd h9 (by decide)) (fun _ => ?_)
  refine lv_iload xE xB dL_reads_102 (lv_at xL 2 rfl) ?_
  refine lv_if_eq (tgt := 141) xE xB dL_reads_104 (by decide) (fun _ => ?_) (fun h9 => absurd (by decide) h9)
  refine lv_iconst (v := nI 0) xE xB dL_reads_141 (by decide) ?_
  refine lv_istore (lv' := [(14, .int (nI 0)), (13, .int (nI mr)), (12, .int (nI 0)), (11, .ref aa), (10, .ref ba), (9, .int (nI 1)), (8, .int (nI mc)), (7, .int (nI mr)), (6, .int (nI 1)), (0, .ref oa), (1, .ref ga), (2, .ref aa), (3, .ref ba), (4, .ref wa), (5, .int (nI y))]) xE xB dL_reads_142 xL (by decide) rfl (fun ls xL => ?_)
  have L_144 : ∀ (n_144 : Nat) (q : Nat) (V3 : wF) (u3 : OD) (T3 : Nat → Nat) (t3 : Nat), (q ≤ mr * mc) → (OI n r k c o 1 ta tb tt u3 s T3 t3) → (TS mc V3 T3 t3 q) → (t3 ≤ 4 * q ∧ (0 < q → 0 < t3)) → mr * mc - q < n_144 → ∀ (H : Heap) (locs : List Loc), va_P G.1 vwCl (List.flatten [[(ga, ai G 9 g)], [(aa, ai G 36 ad)], [(ba, ai G 36 bd)], [(wa, al G 1 wd)], wO G oa u3]) H → va_D A (List.flatten [[(ga, ai G 9 g)], [(aa, ai G 36 ad)], [(ba, ai G 36 bd)], [(wa, al G 1 wd)], wO G oa u3]) → va_S A s9.heap H locs → ∀ (ls : Array Slot), lv_has ls 16 [(0, .ref oa), (1, .ref ga), (2, .ref aa), (3, .ref ba), (4, .ref wa), (5, .int (nI y)), (6, .int (nI 1)), (7, .int (nI mr)), (8, .int (nI mc)), (9, .int (nI 1)), (12, .int (nI 0)), (13, .int (nI mr)), (10, .ref ba), (11, .ref aa), (14, .int (nI q))] → W p9 l e9 (rm 7 150) s9 m9 ([.ref oa, .ref ga, .ref aa, .ref ba, .ref wa, .int (nI y)] : List Value).toArray b9 t9 c9 H locs 0 0 Q (F0 m9 144 ls []) := by
    intro n_144
    induction n_144 with
    | zero => intro q V3 u3 T3 t3 hq3 hI3 hS3 hl3 hm_144 H locs xP xD xS ls xL; exact absurd hm_144 (Nat.not_lt_zero _)
    | succ n_144 ih_144 =>
      intro q V3 u3 T3 t3 hq3 hI3 hS3 hl3 hm_144 H locs xP xD xS ls xL
      refine lv_iload xE xB dL_reads_144 (lv_at xL 14 rfl) ?_
      refine lv_iload xE xB dL_reads_146 (lv_at xL 7 rfl) ?_
      refine lv_iload xE xB dL_reads_148 (lv_at xL 8 rfl) ?_
      refine q_imul xE xB dL_reads_150 ?_
      refine q_icmp_ge (tgt := 275) xE xB dL_reads_151 (by decide) (by omega) (by omega) (fun c_151 => ?_) (fun c_151 => ?_)
      · skip
        have hqe : q = mr * mc := (by omega)
        have hS9 := hS3
        rw [hqe] at hS9
        obtain ⟨hs1, hs2, hs3, hs4⟩ := TS_end hmc hmr hS9
        refine lv_iload xE xB dL_reads_275 (lv_at xL 9 rfl) ?_
        refine lv_if_eq (tgt := 325) xE xB dL_reads_277 (by decide) (fun h9 => absurd h9 (by decide)) (fun _ => ?_)
        refine lv_aload_n xE xB dL_reads_280 rfl (lv_at xL 0 rfl) ?_
        refine lv_iconst (v := nI 0) xE xB dL_reads_281 (by decide) ?_
        refine q_VIL (As := [.int (nI 0)]) (rest := []) ⟨xE, xB, xM, xO, xT⟩ (kO_textFault l G oa n r k c o 1 ta tb tt t3 u3 s T3 (by first | assumption | omega) hs1) (cwV 1 xT gL_reads_X6_textFault rfl rfl rfl (by decide +kernel) ⟨Nat.le_of_ble_eq_true rfl, Nat.le_of_ble_eq_true rfl⟩) xK xP xD xS [4] [0, 1, 2, 3] 5 rfl (by decide) (Lc := [wO G oa u3]) rfl rfl (fun u_282 => [[(ga, ai G 9 g)], [(aa, ai G 36 ad)], [(ba, ai G 36 bd)], [(wa, al G 1 wd)], wO G oa u_282]) (fun u_282 => [wO G oa u_282]) (fun _ => rfl) (fun _ => rfl) (fun _ => rfl) (fun _ => rfl) 0 rfl rfl rfl rfl xL.1 rfl (Nat.le_of_ble_eq_true rfl) dL_reads_282 ⟨Nat.le_refl _, Nat.le_refl _⟩ (fun r_282 u_282 H locs h_282 xP xD xS => ?_)
        replace h_282 : r_282 = (-1000004) ∧ OI n r k c o 1 ta tb tt u_282 s T3 t3 := h_282
        obtain ⟨q_282, h_282⟩ := h_282
        subst q_282
        refine lv_ldc (v := (-1000004)) xE xB xO (xT _ kL_reads_c44) dL_reads_285 ?_
        refine lv_icmp_ne (tgt := 325) xE xB dL_reads_287 (by decide) (fun c_287 => absurd c_287 (by decide)) (fun c_287 => ?_)
        refine lv_aload_n xE xB dL_reads_290 rfl (lv_at xL 0 rfl) ?_
        refine lv_iload xE xB dL_reads_291 (lv_at xL 6 rfl) ?_
        refine q_VIL (As := [.int (nI 1)]) (rest := []) ⟨xE, xB, xM, xO, xT⟩ (kO_readB l G oa n r k c o 1 ta tb tt t3 u_282 s T3 1 (by first | assumption | omega) (by decide) (by rfl)) (cwV 1 xT gL_reads_X6_read rfl rfl rfl (by decide +kernel) ⟨Nat.le_of_ble_eq_true rfl, Nat.le_of_ble_eq_true rfl⟩) xK xP xD xS [4] [0, 1, 2, 3] 5 rfl (by decide) (Lc := [wO G oa u_282]) rfl rfl (fun u_293 => [[(ga, ai G 9 g)], [(aa, ai G 36 ad)], [(ba, ai G 36 bd)], [(wa, al G 1 wd)], wO G oa u_293]) (fun u_293 => [wO G oa u_293]) (fun _ => rfl) (fun _ => rfl) (fun _ => rfl) (fun _ => rfl) 0 rfl rfl rfl rfl xL.1 rfl (Nat.le_of_ble_eq_true rfl) dL_reads_293 ⟨Nat.le_refl _, Nat.le_refl _⟩ (fun r_293 u_293 H locs h_293 xP xD xS => ?_)
        replace h_293 : r_293 = (-1000002) ∧ OI n r k c o 1 ta tb tt u_293 s T3 t3 := h_293
        obtain ⟨q_293, h_293⟩ := h_293
        subst q_293
        refine lv_iload xE xB dL_reads_296 (lv_at xL 10 rfl) ?_
        refine lv_if_eq (tgt := 309) xE xB dL_reads_298 (by decide) (fun _ => ?_) (fun h9 => absurd (by decide) h9)
        refine lv_ldc (v := (-1000002)) xE xB xO (xT _ kL_reads_c48) dL_reads_309 ?_
        refine lv_icmp_ne (tgt := 325) xE xB dL_reads_311 (by decide) (fun c_311 => absurd c_311 (by decide)) (fun c_311 => ?_)
        refine lv_aload_n xE xB dL_reads_314 rfl (lv_at xL 0 rfl) ?_
        refine q_VIL (As := []) (rest := []) ⟨xE, xB, xM, xO, xT⟩ (kO_clearText l G oa n r k c o 1 ta tb tt t3 u_293 s T3 (by first | assumption | omega)) (cwV 0 xT gL_reads_X6_clearText rfl rfl rfl (by decide +kernel) ⟨Nat.le_of_ble_eq_true rfl, Nat.le_of_ble_eq_true rfl⟩) xK xP xD xS [4] [0, 1, 2, 3] 5 rfl (by decide) (Lc := [wO G oa u_293]) rfl rfl (fun u_315 => [[(ga, ai G 9 g)], [(aa, ai G 36 ad)], [(ba, ai G 36 bd)], [(wa, al G 1 wd)], wO G oa u_315]) (fun u_315 => [wO G oa u_315]) (fun _ => rfl) (fun _ => rfl) (fun _ => rfl) (fun _ => rfl) 0 rfl rfl rfl rfl xL.1 rfl (Nat.le_of_ble_eq_true rfl) dL_reads_315 ⟨Nat.le_refl _, Nat.le_refl _⟩ (fun r_315 u_315 H locs h_315 xP xD xS => ?_)
        replace h_315 : r_315 = nI t3 ∧ OI n r k c o 1 ta tb tt u_315 s T3 0 := h_315
        obtain ⟨q_315, h_315⟩ := h_315
        subst q_315
        refine q_if_le (tgt := 325) xE xB dL_reads_318 (by decide) (by omega) (fun c_318 => absurd c_318 (by have := hl3.2 (by omega); omega)) (fun c_318 => ?_)
        refine lv_iconst (v := nI 1) xE xB dL_reads_321 (by decide) ?_
        refine lv_goto (tgt := 326) xE xB dL_reads_322 (by decide) ?_
        refine lv_istore (lv' := [(9, .int (nI 1)), (0, .ref oa), (1, .ref ga), (2, .ref aa), (3, .ref ba), (4, .ref wa), (5, .int (nI y)), (6, .int (nI 1)), (7, .int (nI mr)), (8, .int (nI mc)), (12, .int (nI 0)), (13, .int (nI mr)), (10, .ref ba), (11, .ref aa), (14, .int (nI q))]) xE xB dL_reads_326 xL (by decide) rfl (fun ls xL => ?_)
        refine lv_iload xE xB dL_reads_328 (lv_at xL 10 rfl) ?_
        refine lv_if_eq (tgt := 367) xE xB dL_reads_330 (by decide) (fun _ => ?_) (fun h9 => absurd (by decide) h9)
        refine lv_iload xE xB dL_reads_367 (lv_at xL 0 rfl) ?_
        exact xQ _ _ _ _ _ (_, _, _, _, _) (by exact ⟨rfl, n, r, k, c, o, 1, ta, tb, tt, _, _, h_315, hL0⟩) (by decide) xP xD xS dL_reads_369
      · skip
        have hd3 := dm_3 hmc hmr.2 c_151
        refine lv_iload xE xB dL_reads_154 (lv_at xL 5 rfl) ?_
        refine lv_iconst (v := nI 1) xE xB dL_reads_156 (by decide) ?_
        refine lv_iconst (v := nI 3) xE xB dL_reads_157 (by decide) ?_
        refine lv_iload xE xB dL_reads_158 (lv_at xL 14 rfl) ?_
        refine q_imul xE xB dL_reads_160 ?_
        refine q_iadd xE xB dL_reads_161 ?_
        refine q_idiv xE xB dL_reads_162 (by omega) (by omega) (by omega) ?_
        refine lv_bipush (v := nI 17) xE xB dL_reads_163 (by decide) ?_
        refine lv_iload xE xB dL_reads_165 (lv_at xL 14 rfl) ?_
        refine q_imul xE xB dL_reads_167 ?_
        refine q_iadd xE xB dL_reads_168 ?_
        refine lv_sipush (v := nI 199) xE xB dL_reads_169 (by decide) ?_
        refine q_irem xE xB dL_reads_172 (by have := Nat.div_le_self y (1 + 3 * q); omega) (by have := Nat.div_le_self y (1 + 3 * q); omega) (by have := Nat.div_le_self y (1 + 3 * q); omega) ?_
        refine lv_bipush (v := nI 99) xE xB dL_reads_173 (by decide) ?_
        refine lv_isub xE xB dL_reads_175 ?_
        obtain ⟨v0, hv0, hve⟩ : ∃ v : Int32, bV v ∧ v = (nI (((y / (1 + (3 * q))) + (17 * q)) % 199)) - (nI 99) := ⟨_, bV_sub (Nat.mod_lt _ (by decide)), rfl⟩
        refine q_eq (y := v0) hve.symm ?_
        refine lv_istore (lv' := [(15, .int v0), (0, .ref oa), (1, .ref ga), (2, .ref aa), (3, .ref ba), (4, .ref wa), (5, .int (nI y)), (6, .int (nI 1)), (7, .int (nI mr)), (8, .int (nI mc)), (9, .int (nI 1)), (12, .int (nI 0)), (13, .int (nI mr)), (10, .ref ba), (11, .ref aa), (14, .int (nI q))]) xE xB dL_reads_176 xL (by decide) rfl (fun ls xL => ?_)
        have J_195 : ∀ (x : Int32), (bV x) → ∀ (H : Heap) (locs : List Loc), va_P G.1 vwCl (List.flatten [[(ga, ai G 9 g)], [(aa, ai G 36 ad)], [(ba, ai G 36 bd)], [(wa, al G 1 wd)], wO G oa u3]) H → va_D A (List.flatten [[(ga, ai G 9 g)], [(aa, ai G 36 ad)], [(ba, ai G 36 bd)], [(wa, al G 1 wd)], wO G oa u3]) → va_S A s9.heap H locs → ∀ (ls : Array Slot), lv_has ls 16 [(0, .ref oa), (1, .ref ga), (2, .ref aa), (3, .ref ba), (4, .ref wa), (5, .int (nI y)), (6, .int (nI 1)), (7, .int (nI mr)), (8, .int (nI mc)), (9, .int (nI 1)), (12, .int (nI 0)), (13, .int (nI mr)), (10, .ref ba), (11, .ref aa), (14, .int (nI q))] → W p9 l e9 (rm 7 150) s9 m9 ([.ref oa, .ref ga, .ref aa, .ref ba, .ref wa, .int (nI y)] : List Value).toArray b9 t9 c9 H locs 0 0 Q (F0 m9 195 ls [.int x]) := by
          intro x hx H locs xP xD xS ls xL
          refine lv_istore (lv' := [(15, .int x), (0, .ref oa), (1, .ref ga), (2, .ref aa), (3, .ref ba), (4, .ref wa), (5, .int (nI y)), (6, .int (nI 1)), (7, .int (nI mr)), (8, .int (nI mc)), (9, .int (nI 1)), (12, .int (nI 0)), (13, .int (nI mr)), (10, .ref ba), (11, .ref aa), (14, .int (nI q))]) xE xB dL_reads_195 xL (by decide) rfl (fun ls xL => ?_)
          have J_229 : ∀ (u4 : OD) (T4 : Nat → Nat) (t4 : Nat), (OI n r k c o 1 ta tb tt u4 s T4 t4) → (PS mc V3 T4 t4 q) → (t4 ≤ 4 * q + 1) → ∀ (H : Heap) (locs : List Loc), va_P G.1 vwCl (List.flatten [[(ga, ai G 9 g)], [(aa, ai G 36 ad)], [(ba, ai G 36 bd)], [(wa, al G 1 wd)], wO G oa u4]) H → va_D A (List.flatten [[(ga, ai G 9 g)], [(aa, ai G 36 ad)], [(ba, ai G 36 bd)], [(wa, al G 1 wd)], wO G oa u4]) → va_S A s9.heap H locs → ∀ (ls : Array Slot), lv_has ls 16 [(0, .ref oa), (1, .ref ga), (2, .ref aa), (3, .ref ba), (4, .ref wa), (5, .int (nI y)), (6, .int (nI 1)), (7, .int (nI mr)), (8, .int (nI mc)), (9, .int (nI 1)), (12, .int (nI 0)), (13, .int (nI mr)), (10, .ref ba), (11, .ref aa), (14, .int (nI q)), (15, .int x)] → W p9 l e9 (rm 7 150) s9 m9 ([.ref oa, .ref ga, .ref aa, .ref ba, .ref wa, .int (nI y)] : List Value).toArray b9 t9 c9 H locs 0 0 Q (F0 m9 229 ls []) := by
            intro u4 T4 t4 hI4 hP4 hl4 H locs xP xD xS ls xL
            refine lv_aload_n xE xB dL_reads_229 rfl (lv_at xL 0 rfl) ?_
            refine lv_iload xE xB dL_reads_230 (lv_at xL 15 rfl) ?_
            refine q_SIL (As := [.ref oa, .int x]) (rest := []) ⟨xE, xB, xM, xO, xT⟩ (kL_types l G oa n r k c o 1 ta tb tt t4 u4 s T4 x (by first | assumption | omega) (by omega) (by first | assumption | omega)) (va_cwS 2 xT gL_reads_L_types rfl rfl rfl (by decide +kernel) ⟨Nat.le_of_ble_eq_true rfl, Nat.le_of_ble_eq_true rfl⟩) xK xP xD xS [4] [0, 1, 2, 3] 5 rfl (by decide) (Lc := [wO G oa u4]) rfl rfl (fun u_232 => [[(ga, ai G 9 g)], [(aa, ai G 36 ad)], [(ba, ai G 36 bd)], [(wa, al G 1 wd)], wO G oa u_232]) (fun u_232 => [wO G oa u_232]) (fun _ => rfl) (fun _ => rfl) (fun _ => rfl) (fun _ => rfl) rfl xL.1 rfl (Nat.le_of_ble_eq_true rfl) dL_reads_232 ⟨Nat.le_refl _, Nat.le_refl _⟩ (fun r_232 u_232 H locs h_232 xP xD xS => ?_)
            replace h_232 : r_232 = nI 1 ∧ ∃ T' tl', OI n r k c o 1 ta tb tt u_232 s T' tl' ∧ (tl' ≤ t4 + 3 ∧ t4 < tl') ∧ TY t4 T4 T' tl' x := h_232
            obtain ⟨rx_232, T5, t5, hI5, hl5, hT5⟩ := h_232
            subst rx_232
            have hP5 := hP4
            refine lv_if_eq (tgt := 242) xE xB dL_reads_235 (by decide) (fun h9 => absurd h9 (by decide)) (fun _ => ?_)
            refine lv_iconst (v := nI 1) xE xB dL_reads_238 (by decide) ?_
            refine lv_goto (tgt := 243) xE xB dL_reads_239 (by decide) ?_
            refine lv_istore (lv' := [(9, .int (nI 1)), (0, .ref oa), (1, .ref ga), (2, .ref aa), (3, .ref ba), (4, .ref wa), (5, .int (nI y)), (6, .int (nI 1)), (7, .int (nI mr)), (8, .int (nI mc)), (12, .int (nI 0)), (13, .int (nI mr)), (10, .ref ba), (11, .ref aa), (14, .int (nI q)), (15, .int x)]) xE xB dL_reads_243 xL (by decide) rfl (fun ls xL => ?_)
            refine lv_iload xE xB dL_reads_245 (lv_at xL 10 rfl) ?_
            refine lv_if_eq (tgt := 269) xE xB dL_reads_247 (by decide) (fun _ => ?_) (fun h9 => absurd (by decide) h9)
            refine lv_iinc (v := nI (q + 1)) (lv' := [(14, .int (nI (q + 1))), (9, .int (nI 1)), (0, .ref oa), (1, .ref ga), (2, .ref aa), (3, .ref ba), (4, .ref wa), (5, .int (nI y)), (6, .int (nI 1)), (7, .int (nI mr)), (8, .int (nI mc)), (12, .int (nI 0)), (13, .int (nI mr)), (10, .ref ba), (11, .ref aa), (15, .int x)]) xE xB dL_reads_269 xL (k := 14) rfl (q_inc _ _) (by decide) rfl (fun ls xL => ?_)
            refine lv_goto (tgt := 144) xE xB dL_reads_272 (by decide) ?_
            exact ih_144 (q + 1) (upd V3 (6 * (q / mc) + q % mc) x) u_232 T5 t5 (by omega) (by exact hI5) (by exact TS_next hP5 hT5) (by omega) (by omega) _ _ xP xD xS _ (lv_sub xL [2, 3, 4, 5, 6, 7, 8, 9, 10, 1, 11, 12, 13, 14, 0] rfl)
          refine lv_iload xE xB dL_reads_197 (lv_at xL 10 rfl) ?_
          refine lv_if_eq (tgt := 242) xE xB dL_reads_199 (by decide) (fun h9 => absurd h9 (by decide)) (fun _ => ?_)
          refine lv_iload xE xB dL_reads_202 (lv_at xL 15 rfl) ?_
          refine q_if_eq (tgt := 229) xE xB dL_reads_204 (by decide) (by omega) (fun c_204 => ?_) (fun c_204 => ?_)
          · skip
            exact J_229 u3 T3 t3 (by assumption) (by first | exact PS_0 hS3 c_204 | exact PS_comma hmc hS3 c_213 ha_223 hb_223 | exact PS_semi hmc hmr.2 hS3 (by omega) c_204 c_213 ha_223 hb_223) (by omega) _ _ xP xD xS _ (lv_sub xL [1, 2, 3, 4, 5, 6, 7, 8, 9, 10, 11, 12, 13, 14, 15, 0] rfl)
          · skip
            refine lv_aload_n xE xB dL_reads_207 rfl (lv_at xL 1 rfl) ?_
            refine lv_iload xE xB dL_reads_208 (lv_at xL 15 rfl) ?_
            refine lv_iload xE xB dL_reads_210 (lv_at xL 9 rfl) ?_
            refine q_irem xE xB dL_reads_212 (by omega) (by omega) (by omega) ?_
            refine q_if_ne (tgt := 221) xE xB dL_reads_213 (by decide) (by omega) (fun c_213 => ?_) (fun c_213 => ?_)
            · skip
              refine lv_bipush (v := nI 44) xE xB dL_reads_221 (by decide) ?_
              refine q_VIL (As := [.int (nI 44)]) (rest := []) ⟨xE, xB, xM, xO, xT⟩ (kO_type2 l G oa n r k c o 1 ta tb tt t3 u3 s T3 44 (by first | assumption | omega) (by first | assumption | omega) (by first | assumption | omega) (by first | assumption | omega)) (cwV 1 xT gL_reads_X6_type rfl rfl rfl (by decide +kernel) ⟨Nat.le_of_ble_eq_true rfl, Nat.le_of_ble_eq_true rfl⟩) xK xP xD xS [4] [0, 1, 2, 3] 5 rfl (by decide) (Lc := [wO G oa u3]) rfl rfl (fun u_223 => [[(ga, ai G 9 g)], [(aa, ai G 36 ad)], [(ba, ai G 36 bd)], [(wa, al G 1 wd)], wO G oa u_223]) (fun u_223 => [wO G oa u_223]) (fun _ => rfl) (fun _ => rfl) (fun _ => rfl) (fun _ => rfl) 0 rfl rfl rfl rfl xL.1 rfl (Nat.le_of_ble_eq_true rfl) dL_reads_223 ⟨Nat.le_refl _, Nat.le_refl _⟩ (fun r_223 u_223 H locs h_223 xP xD xS => ?_)
              replace h_223 : r_223 = nI (t3 + 1) ∧ ∃ T', (∀ j, j < t3 → T' j = T3 j) ∧ T' t3 = 44 ∧ OI n r k c o 1 ta tb tt u_223 s T' (t3 + 1) := h_223
              obtain ⟨q_223, h_223⟩ := h_223
              subst q_223
              obtain ⟨T_223, ha_223, hb_223, hI_223⟩ := h_223
              refine q_if_le (tgt := 242) xE xB dL_reads_226 (by decide) (by omega) (fun c_226 => absurd c_226 (by omega)) (fun c_226 => ?_)
              exact J_229 u_223 T_223 (t3 + 1) (by assumption) (by first | exact PS_0 hS3 c_204 | exact PS_comma hmc hS3 c_213 ha_223 hb_223 | exact PS_semi hmc hmr.2 hS3 (by omega) c_204 c_213 ha_223 hb_223) (by omega) _ _ xP xD xS _ (lv_sub xL [1, 2, 3, 4, 5, 6, 7, 8, 9, 10, 11, 12, 13, 14, 15, 0] rfl)
            · skip
              refine lv_bipush (v := nI 59) xE xB dL_reads_216 (by decide) ?_
              refine lv_goto (tgt := 223) xE xB dL_reads_218 (by decide) ?_
              refine q_VIL (As := [.int (nI 59)]) (rest := []) ⟨xE, xB, xM, xO, xT⟩ (kO_type2 l G oa n r k c o 1 ta tb tt t3 u3 s T3 59 (by first | assumption | omega) (by first | assumption | omega) (by first | assumption | omega) (by first | assumption | omega)) (cwV 1 xT gL_reads_X6_type rfl rfl rfl (by decide +kernel) ⟨Nat.le_of_ble_eq_true rfl, Nat.le_of_ble_eq_true rfl⟩) xK xP xD xS [4] [0, 1, 2, 3] 5 rfl (by decide) (Lc := [wO G oa u3]) rfl rfl (fun u_223 => [[(ga, ai G 9 g)], [(aa, ai G 36 ad)], [(ba, ai G 36 bd)], [(wa, al G 1 wd)], wO G oa u_223]) (fun u_223 => [wO G oa u_223]) (fun _ => rfl) (fun _ => rfl) (fun _ => rfl) (fun _ => rfl) 0 rfl rfl rfl rfl xL.1 rfl (Nat.le_of_ble_eq_true rfl) dL_reads_223 ⟨Nat.le_refl _, Nat.le_refl _⟩ (fun r_223 u_223 H locs h_223 xP xD xS => ?_)
              replace h_223 : r_223 = nI (t3 + 1) ∧ ∃ T', (∀ j, j < t3 → T' j = T3 j) ∧ T' t3 = 59 ∧ OI n r k c o 1 ta tb tt u_223 s T' (t3 + 1) := h_223
              obtain ⟨q_223, h_223⟩ := h_223
              subst q_223
              obtain ⟨T_223, ha_223, hb_223, hI_223⟩ := h_223
              refine q_if_le (tgt := 242) xE xB dL_reads_226 (by decide) (by omega) (fun c_226 => absurd c_226 (by omega)) (fun c_226 => ?_)
              exact J_229 u_223 T_223 (t3 + 1) (by assumption) (by first | exact PS_0 hS3 c_204 | exact PS_comma hmc hS3 c_213 ha_223 hb_223 | exact PS_semi hmc hmr.2 hS3 (by omega) c_204 c_213 ha_223 hb_223) (by omega) _ _ xP xD xS _ (lv_sub xL [1, 2, 3, 4, 5, 6, 7, 8, 9, 10, 11, 12, 13, 14, 15, 0] rfl)
        refine lv_iload xE xB dL_reads_178 (lv_at xL 6 rfl) ?_
        refine lv_iconst (v := nI 3) xE xB dL_reads_180 (by decide) ?_
        refine q_irem xE xB dL_reads_181 (by omega) (by omega) (by omega) ?_
        refine q_if_le (tgt := 193) xE xB dL_reads_182 (by decide) (by omega) (fun c_182 => ?_) (fun c_182 => ?_)
        · skip
          refine lv_iload xE xB dL_reads_193 (lv_at xL 0 rfl) ?_
          exact J_195 v0 (by first | exact bV_9 hv0 | exact hv0) _ _ xP xD xS _ (lv_sub xL [1, 2, 3, 4, 5, 6, 7, 8, 9, 10, 11, 12, 13, 14, 15] rfl)
        · skip
          refine lv_iload xE xB dL_reads_185 (lv_at xL 0 rfl) ?_
          refine lv_bipush (v := nI 9) xE xB dL_reads_187 (by decide) ?_
          refine lv_idiv xE xB dL_reads_189 (by decide) ?_
          refine lv_goto (tgt := 195) xE xB dL_reads_190 (by decide) ?_
          exact J_195 (v0 / (nI 9)) (by first | exact bV_9 hv0 | exact hv0) _ _ xP xD xS _ (lv_sub xL [1, 2, 3, 4, 5, 6, 7, 8, 9, 10, 11, 12, 13, 14, 15] rfl)
  exact L_144 (mr * mc - 0 + 1) 0 (fun _ => nI 0) u_28 T 0 (by omega) (by exact h_28) (by exact Or.inl ⟨rfl, rfl, fun _ _ => rfl⟩) (by exact ⟨Nat.zero_le _, fun w => absurd w (Nat.lt_irrefl 0)⟩) (Nat.lt_succ_self _) _ _ xP xD xS _ (lv_sub xL [9, 10, 11, 12, 13, 14, 8, 7, 6, 5, 2, 1, 4, 3, 0] rfl)
