/-! law loop -/
theorem hd_le {LL i : Nat} (hL : LL ≤ 2048) (hi : i ≤ LL) (c : ¬ nI LL - nI 4 < nI i) : i + 4 ≤ LL := by
  rw [Int32.lt_iff_toInt_lt, pk_sub_toInt (by omega) (by omega), nI_toInt (by omega)] at c
  omega
set_option maxHeartbeats 4000000 in
set_option maxRecDepth 100000 in
theorem law_loop {p9 : Program} {l : Launch} {e9 : Env} {s9 : State} {m9 : MethodId} {b9 : List Frame} {t9 : Method} {c9 : Code} {bb LL : Nat} {xs : Nat → Int32} {G : wG} (hL : LL ≤ 2048) (C0 : lw_At p9 s9 m9 t9 c9 bb LL xs) (xK : KK G s9) : ∀ (n i : Nat), i ≤ LL → LL + 1 ≤ i + n → LAt p9 l e9 s9 m9 b9 t9 c9 bb G i 18 := by
  obtain ⟨xE, xB, hr, xM, xO0, hts, hX, hbl, hlocks, -⟩ := id C0
  have hbA : ¬ (fun q : Nat => s9.heap.size ≤ q) bb := Nat.not_le.mpr hbl
  intro n
  induction n with
  | zero => intro i h1 h2; exact absurd h2 (by omega)
  | succ n ih =>
    intro i h1 h2 a r N v hd xd rd hI H locs xP xD xS ls xL
    refine lv_iload_n xE xB dL_law_18 rfl (lv_at xL 3 rfl) ?_
    refine lv_aload_n xE xB dL_law_19 rfl (lv_at xL 0 rfl) ?_
    refine va_slen xE xB hX hbl hbA xS dL_law_20 ?_
    refine lv_iconst (v := nI 4) xE xB dL_law_21 (by decide) ?_
    refine lv_isub xE xB dL_law_22 ?_
    refine lv_icmp_gt (tgt := 748) xE xB dL_law_23 (by decide) (fun c_23 => ?_) (fun c_23 => ?_)
    · refine lv_iconst (v := 1) xE xB dL_law_748 (by decide) ?_
      refine va_forget (fun q hq => xS.2.2 q hq) ?_
      refine W.widen (k := 600000) (n := 7302250) (Nat.le_of_ble_eq_true rfl) (Nat.le_of_ble_eq_true rfl) ?_
      exact lw_ret xE xB hr hlocks dL_law_749
    · have hi4 : i + 4 ≤ LL := hd_le hL h1 c_23
      have hnx : LAt p9 l e9 s9 m9 b9 t9 c9 bb G i 742 := by
        intro a r N v hd xd rd hI H locs xP xD xS ls xL
        refine lv_iinc (v := nI (i + 4)) (lv' := [(3, .int (nI (i + 4))), (0, .ref bb), (1, .ref a.1), (2, .ref r.1)]) xE xB dL_law_742 xL (k := 3) rfl (q_inc _ _) (by decide) rfl (fun ls xL => ?_)
        refine lv_goto (tgt := 18) xE xB dL_law_745 (by decide) ?_
        exact ih (i + 4) hi4 (by omega) a r N v hd xd rd hI H locs xP xD xS ls (lv_sub xL [1, 2, 3, 0] rfl)
      refine lv_aload_n xE xB dL_law_26 rfl (lv_at xL 0 rfl) ?_
      refine lv_iload_n xE xB dL_law_27 rfl (lv_at xL 3 rfl) ?_
      refine q_sld xE xB hX hbl hbA xS (by omega) (by omega) dL_law_28 ?_
      refine lv_bipush (v := nI 31) xE xB dL_law_29 (by decide) ?_
      refine lv_iand xE xB dL_law_31 ?_
      refine lv_topi (fun sw esw => ?_)
      by_cases e_0 : sw = nI 0
      · subst e_0
        refine lv_tableIn (off := 104) (tgt := 136) xE xB dL_law_32 (by decide) (by decide) (by decide) (by decide) ?_
        exact law_0 hL C0 xK i hi4 hnx a r N v hd xd rd hI H locs xP xD xS ls xL
      by_cases e_1 : sw = nI 1
      · subst e_1
        refine lv_tableIn (off := 127) (tgt := 159) xE xB dL_law_32 (by decide) (by decide) (by decide) (by decide) ?_
        exact law_1 hL C0 xK i hi4 hnx a r N v hd xd rd hI H locs xP xD xS ls xL
      by_cases e_2 : sw = nI 2
      · subst e_2
        refine lv_tableIn (off := 170) (tgt := 202) xE xB dL_law_32 (by decide) (by decide) (by decide) (by decide) ?_
        exact law_2 hL C0 xK i hi4 hnx a r N v hd xd rd hI H locs xP xD xS ls xL
      by_cases e_3 : sw = nI 3
      · subst e_3
        refine lv_tableIn (off := 213) (tgt := 245) xE xB dL_law_32 (by decide) (by decide) (by decide) (by decide) ?_
        exact law_3 hL C0 xK i hi4 hnx a r N v hd xd rd hI H locs xP xD xS ls xL
      by_cases e_4 : sw = nI 4
      · subst e_4
        refine lv_tableIn (off := 256) (tgt := 288) xE xB dL_law_32 (by decide) (by decide) (by decide) (by decide) ?_
        exact law_4 hL C0 xK i hi4 hnx a r N v hd xd rd hI H locs xP xD xS ls xL
      by_cases e_5 : sw = nI 5
      · subst e_5
        refine lv_tableIn (off := 299) (tgt := 331) xE xB dL_law_32 (by decide) (by decide) (by decide) (by decide) ?_
        exact law_5 hL C0 xK i hi4 hnx a r N v hd xd rd hI H locs xP xD xS ls xL
      by_cases e_6 : sw = nI 6
      · subst e_6
        refine lv_tableIn (off := 322) (tgt := 354) xE xB dL_law_32 (by decide) (by decide) (by decide) (by decide) ?_
        exact law_6 hL C0 xK i hi4 hnx a r N v hd xd rd hI H locs xP xD xS ls xL
      by_cases e_7 : sw = nI 7
      · subst e_7
        refine lv_tableIn (off := 355) (tgt := 387) xE xB dL_law_32 (by decide) (by decide) (by decide) (by decide) ?_
        exact law_7 hL C0 xK i hi4 hnx a r N v hd xd rd hI H locs xP xD xS ls xL
      by_cases e_8 : sw = nI 8
      · subst e_8
        refine lv_tableIn (off := 378) (tgt := 410) xE xB dL_law_32 (by decide) (by decide) (by decide) (by decide) ?_
        exact law_8 hL C0 xK i hi4 hnx a r N v hd xd rd hI H locs xP xD xS ls xL
      by_cases e_9 : sw = nI 9
      · subst e_9
        refine lv_tableIn (off := 391) (tgt := 423) xE xB dL_law_32 (by decide) (by decide) (by decide) (by decide) ?_
        exact law_9 hL C0 xK i hi4 hnx a r N v hd xd rd hI H locs xP xD xS ls xL
      by_cases e_10 : sw = nI 10
      · subst e_10
        refine lv_tableIn (off := 404) (tgt := 436) xE xB dL_law_32 (by decide) (by decide) (by decide) (by decide) ?_
        exact law_10 hL C0 xK i hi4 hnx a r N v hd xd rd hI H locs xP xD xS ls xL
      by_cases e_11 : sw = nI 11
      · subst e_11
        refine lv_tableIn (off := 447) (tgt := 479) xE xB dL_law_32 (by decide) (by decide) (by decide) (by decide) ?_
        exact law_11 hL C0 xK i hi4 hnx a r N v hd xd rd hI H locs xP xD xS ls xL
      by_cases e_12 : sw = nI 12
      · subst e_12
        refine lv_tableIn (off := 490) (tgt := 522) xE xB dL_law_32 (by decide) (by decide) (by decide) (by decide) ?_
        exact law_12 hL C0 xK i hi4 hnx a r N v hd xd rd hI H locs xP xD xS ls xL
      by_cases e_13 : sw = nI 13
      · subst e_13
        refine lv_tableIn (off := 533) (tgt := 565) xE xB dL_law_32 (by decide) (by decide) (by decide) (by decide) ?_
        exact law_13 hL C0 xK i hi4 hnx a r N v hd xd rd hI H locs xP xD xS ls xL
      by_cases e_14 : sw = nI 14
      · subst e_14
        refine lv_tableIn (off := 556) (tgt := 588) xE xB dL_law_32 (by decide) (by decide) (by decide) (by decide) ?_
        exact law_14 hL C0 xK i hi4 hnx a r N v hd xd rd hI H locs xP xD xS ls xL
      by_cases e_15 : sw = nI 15
      · subst e_15
        refine lv_tableIn (off := 579) (tgt := 611) xE xB dL_law_32 (by decide) (by decide) (by decide) (by decide) ?_
        exact law_15 hL C0 xK i hi4 hnx a r N v hd xd rd hI H locs xP xD xS ls xL
      by_cases e_16 : sw = nI 16
      · subst e_16
        refine lv_tableIn (off := 602) (tgt := 634) xE xB dL_law_32 (by decide) (by decide) (by decide) (by decide) ?_
        exact law_16 hL C0 xK i hi4 hnx a r N v hd xd rd hI H locs xP xD xS ls xL
      by_cases e_17 : sw = nI 17
      · subst e_17
        refine lv_tableIn (off := 615) (tgt := 647) xE xB dL_law_32 (by decide) (by decide) (by decide) (by decide) ?_
        exact law_17 hL C0 xK i hi4 hnx a r N v hd xd rd hI H locs xP xD xS ls xL
      by_cases e_18 : sw = nI 18
      · subst e_18
        refine lv_tableIn (off := 628) (tgt := 660) xE xB dL_law_32 (by decide) (by decide) (by decide) (by decide) ?_
        exact law_18 hL C0 xK i hi4 hnx a r N v hd xd rd hI H locs xP xD xS ls xL
      by_cases e_19 : sw = nI 19
      · subst e_19
        refine lv_tableIn (off := 651) (tgt := 683) xE xB dL_law_32 (by decide) (by decide) (by decide) (by decide) ?_
        exact law_19 hL C0 xK i hi4 hnx a r N v hd xd rd hI H locs xP xD xS ls xL
      by_cases e_20 : sw = nI 20
      · subst e_20
        refine lv_tableIn (off := 664) (tgt := 696) xE xB dL_law_32 (by decide) (by decide) (by decide) (by decide) ?_
        exact law_20 hL C0 xK i hi4 hnx a r N v hd xd rd hI H locs xP xD xS ls xL
      by_cases e_21 : sw = nI 21
      · subst e_21
        refine lv_tableIn (off := 687) (tgt := 719) xE xB dL_law_32 (by decide) (by decide) (by decide) (by decide) ?_
        exact law_21 hL C0 xK i hi4 hnx a r N v hd xd rd hI H locs xP xD xS ls xL
      refine lv_tableOut (tgt := 742) xE xB dL_law_32 (q_tab21 e_0 e_1 e_2 e_3 e_4 e_5 e_6 e_7 e_8 e_9 e_10 e_11 e_12 e_13 e_14 e_15 e_16 e_17 e_18 e_19 e_20 e_21) (by decide) ?_
      exact hnx a r N v hd xd rd hI H locs xP xD xS ls xL
