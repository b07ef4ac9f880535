/-! txt: the text that the law types, and the scan of it -/
/-- behind k numbers -/
def TS (mc : Nat) (V : wF) (T : Nat → Nat) (tl k : Nat) : Prop := (k = 0 ∧ tl = 0 ∧ ∀ p, p < 36 → V p = nI 0) ∨ (0 < k ∧ ∃ fp ng dg vl F, stk T zA tl = (fp, 0, (k - 1) / mc, (k - 1) % mc, (if (k - 1) / mc = 0 then 6 else mc), ng, dg, vl, F) ∧ 0 < dg ∧ ∀ p, p < 36 → upd F (6 * ((k - 1) / mc) + (k - 1) % mc) (sgnV ng vl) p = V p)
/-- ahead of the next number -/
def PS (mc : Nat) (V : wF) (T : Nat → Nat) (tl k : Nat) : Prop := ∃ fp F, stk T zA tl = (fp, 0, k / mc, k % mc, (if k / mc = 0 then 6 else mc), 0, 0, 0, F) ∧ ∀ p, p < 36 → F p = V p
section TXT
variable {mr mc k tl tl' : Nat} {V : wF} {T T' : Nat → Nat}
theorem dm_1 (hm : 1 ≤ mc ∧ mc ≤ 4) (h0 : 0 < k) (h : k % mc = 0) : (k - 1) % mc = mc - 1 ∧ (k - 1) / mc + 1 = k / mc := by
  rcases (show mc = 1 ∨ mc = 2 ∨ mc = 3 ∨ mc = 4 by omega) with rfl | rfl | rfl | rfl <;> omega
theorem dm_2 (hm : 1 ≤ mc ∧ mc ≤ 4) (h : 0 < k % mc) : (k - 1) % mc + 1 = k % mc ∧ (k - 1) / mc = k / mc := by
  rcases (show mc = 1 ∨ mc = 2 ∨ mc = 3 ∨ mc = 4 by omega) with rfl | rfl | rfl | rfl <;> omega
theorem dm_3 (hm : 1 ≤ mc ∧ mc ≤ 4) (hr : mr ≤ 4) (h : k < mr * mc) : k / mc < mr ∧ k % mc < mc ∧ k < 16 := by
  refine ⟨(Nat.div_lt_iff_lt_mul (by omega)).mpr h, Nat.mod_lt k (by omega), ?_⟩
  have : mr * mc ≤ 4 * 4 := Nat.mul_le_mul hr hm.2
  omega
theorem dm_4 (hm : 1 ≤ mc ∧ mc ≤ 4) (hr : 1 ≤ mr ∧ mr ≤ 4) : (mr * mc - 1) / mc = mr - 1 ∧ (mr * mc - 1) % mc = mc - 1 ∧ 0 < mr * mc ∧ mr * mc ≤ 16 := by
  rcases (show mc = 1 ∨ mc = 2 ∨ mc = 3 ∨ mc = 4 by omega) with rfl | rfl | rfl | rfl <;> omega
theorem PS_0 (h : TS mc V T tl k) (hk : k = 0) : PS mc V T tl k := by
  subst hk
  rcases h with ⟨-, rfl, hV⟩ | ⟨h0, -⟩
  · refine ⟨0, fun _ => nI 0, ?_, fun p hp => (hV p hp).symm⟩
    rw [Nat.zero_div, Nat.zero_mod]
    rfl
  · exact absurd h0 (Nat.lt_irrefl 0)
theorem PS_semi (hm : 1 ≤ mc ∧ mc ≤ 4) (hr : mr ≤ 4) (h : TS mc V T tl k) (hk : k < mr * mc) (h0 : 0 < k) (hz : k % mc = 0) (a : ∀ j, j < tl → T' j = T j) (b : T' tl = 59) : PS mc V T' (tl + 1) k := by
  rcases h with ⟨q, -⟩ | ⟨-, fp, ng, dg, vl, F, h1, h2, h3⟩
  · omega
  · obtain ⟨d1, d2⟩ := dm_1 hm h0 hz
    obtain ⟨d3, -⟩ := dm_3 hm hr hk
    have g := st_semi ((stk_T tl a).trans h1) b h2
    have hn : ¬ (6 ≤ (k - 1) / mc + 1 ∨ (0 < (k - 1) / mc ∧ (k - 1) % mc + 1 < (if (k - 1) / mc = 0 then 6 else mc))) := by
      rintro (q | ⟨q1, q2⟩)
      · omega
      · rw [if_neg (by omega)] at q2; omega
    refine ⟨fp, upd F (6 * ((k - 1) / mc) + (k - 1) % mc) (sgnV ng vl), g.trans ((if_neg hn).trans ?_), h3⟩
    rw [d2, hz, if_neg (show ¬ k / mc = 0 by rw [← d2]; exact Nat.succ_ne_zero _)]
    have e : (if (k - 1) / mc = 0 then (k - 1) % mc + 1 else (if (k - 1) / mc = 0 then 6 else mc)) = mc := by
      by_cases q : (k - 1) / mc = 0
      · rw [if_pos q]; omega
      · rw [if_neg q, if_neg q]
    rw [e]
theorem PS_comma (hm : 1 ≤ mc ∧ mc ≤ 4) (h : TS mc V T tl k) (hz : 0 < k % mc) (a : ∀ j, j < tl → T' j = T j) (b : T' tl = 44) : PS mc V T' (tl + 1) k := by
  rcases h with ⟨q, -⟩ | ⟨-, fp, ng, dg, vl, F, h1, h2, h3⟩
  · subst q
    rw [Nat.zero_mod] at hz
    exact absurd hz (Nat.lt_irrefl 0)
  · obtain ⟨d1, d2⟩ := dm_2 hm hz
    have g := st_comma ((stk_T tl a).trans h1) b h2
    have hlt : k % mc < mc := Nat.mod_lt k (by omega)
    have hn : ¬ (if (k - 1) / mc = 0 then 6 else mc) ≤ (k - 1) % mc + 1 := by split <;> omega
    refine ⟨fp, upd F (6 * ((k - 1) / mc) + (k - 1) % mc) (sgnV ng vl), g.trans ((if_neg hn).trans ?_), h3⟩
    rw [d1, d2]
theorem TS_next {x : Int32} (h : PS mc V T tl k) (g : TY tl T T' tl' x) : TS mc (upd V (6 * (k / mc) + k % mc) x) T' tl' (k + 1) := by
  obtain ⟨fp, F, h1, h2⟩ := h
  obtain ⟨ng, dg, vl, g1, g2, g3⟩ := g.2 _ _ _ _ _ h1
  refine Or.inr ⟨Nat.succ_pos k, fp, ng, dg, vl, F, ?_, g2, fun p hp => ?_⟩
  · rw [Nat.add_sub_cancel]; exact g1
  · rw [Nat.add_sub_cancel, g3]
    by_cases e : p = 6 * (k / mc) + k % mc
    · rw [e, upd_s, upd_s]
    · rw [upd_n e, upd_n e]; exact h2 p hp
theorem TS_end (hm : 1 ≤ mc ∧ mc ≤ 4) (hr : 1 ≤ mr ∧ mr ≤ 4) (h : TS mc V T tl (mr * mc)) : scR T tl = 0 ∧ scM T tl = mr ∧ scC T tl = mc ∧ ∀ p, p < 36 → scF T tl p = V p := by
  obtain ⟨d1, d2, d3, d4⟩ := dm_4 hm hr
  rcases h with ⟨q, -⟩ | ⟨-, fp, ng, dg, vl, F, h1, h2, h3⟩
  · omega
  · rw [d1, d2] at h1 h3
    have hs : scanA T tl zA = finA tl (fp, 0, mr - 1, mc - 1, (if mr - 1 = 0 then 6 else mc), ng, dg, vl, F) := by
      unfold scanA
      rw [h1]
      exact if_pos rfl
    have hn : ¬ (0 < mr - 1 ∧ mc - 1 + 1 < (if mr - 1 = 0 then 6 else mc)) := by
      rintro ⟨q1, q2⟩
      rw [if_neg (by omega)] at q2
      omega
    have e : (if mr - 1 = 0 then mc - 1 + 1 else (if mr - 1 = 0 then 6 else mc)) = mc := by
      by_cases q : mr - 1 = 0
      · rw [if_pos q]; omega
      · rw [if_neg q, if_neg q]
    have hf : finA tl (fp, 0, mr - 1, mc - 1, (if mr - 1 = 0 then 6 else mc), ng, dg, vl, F) = ((fp, 0, mr - 1, mc - 1, mc, 0, 0, 0, upd F (6 * (mr - 1) + (mc - 1)) (sgnV ng vl)), mr - 1 + 1, mc) := by
      have g : finA tl (fp, 0, mr - 1, mc - 1, (if mr - 1 = 0 then 6 else mc), ng, dg, vl, F) = ((fp, 0, mr - 1, mc - 1, (if mr - 1 = 0 then mc - 1 + 1 else (if mr - 1 = 0 then 6 else mc)), 0, 0, 0, upd F (6 * (mr - 1) + (mc - 1)) (sgnV ng vl)), mr - 1 + 1, (if mr - 1 = 0 then mc - 1 + 1 else (if mr - 1 = 0 then 6 else mc))) := (if_neg (by omega)).trans (if_neg hn)
      rw [g, e]
    unfold scR scM scC scF
    rw [hs, hf]
    exact ⟨rfl, by show mr - 1 + 1 = mr; omega, rfl, h3⟩
end TXT
theorem bV_9 {v : Int32} (h : bV v) : bV (v / nI 9) := by
  obtain ⟨h1, h2⟩ := h
  have e : (v / nI 9).toInt = v.toInt.tdiv 9 := by
    rw [Int32.toInt_div, show (nI 9).toInt = 9 by decide]
    have b1 : -99 ≤ v.toInt.tdiv 9 ∧ v.toInt.tdiv 9 ≤ 99 := by
      rcases Int.le_total 0 v.toInt with g | g
      · have := Int.tdiv_nonneg g (show (0 : Int) ≤ 9 by decide)
        have := Int.tdiv_le_self (b := 9) g
        omega
      · have e3 : v.toInt = -(-v.toInt) := (Int.neg_neg _).symm
        have g2 : 0 ≤ -v.toInt := by omega
        have := Int.tdiv_nonneg g2 (show (0 : Int) ≤ 9 by decide)
        have := Int.tdiv_le_self (b := 9) g2
        rw [e3, Int.neg_tdiv]
        omega
    exact tI_bm (by omega) (by omega)
  unfold bV
  rw [e]
  rcases Int.le_total 0 v.toInt with g | g
  · have := Int.tdiv_nonneg g (show (0 : Int) ≤ 9 by decide)
    have := Int.tdiv_le_self (b := 9) g
    omega
  · have e3 : v.toInt = -(-v.toInt) := (Int.neg_neg _).symm
    have g2 : 0 ≤ -v.toInt := by omega
    have := Int.tdiv_nonneg g2 (show (0 : Int) ≤ 9 by decide)
    have := Int.tdiv_le_self (b := 9) g2
    rw [e3, Int.neg_tdiv]
    omega
theorem bV_sub {m : Nat} (h : m < 199) : bV (nI m - nI 99) := by
  have e : (nI m - nI 99).toInt = (m : Int) - 99 := pk_sub_toInt (by omega) (by omega)
  unfold bV
  rw [e]
  omega
section LRR
variable {n r k c o ta tb tt : Nat} {g ad bd fd rd : wF} {wd : Nat → Int64} {s : wF}
theorem LR_readL {mr mc : Nat} {a2 b2 f : wF} (h : LR n r k c o 0 ta tb tt g ad bd fd rd wd s) (e2 : s 2 = nI k) (hk : k < 100) (hc : mc < 100) (ha : ∀ p, p < 36 → f p = a2 p) (hb : ∀ p, p < 36 → b2 p = if mc = k then bd p else nI 0) : LR n mr mc c o 0 ta tb tt (upd (upd g 2 (nI mc)) 1 (nI mr)) a2 b2 fd rd (vp_updL wd 0 (lN 0)) (rdL mr mc f s) := by
  obtain ⟨⟨g0, g1, g2, g3, g4, g5⟩, g6, hA, hB, hF, z, hz, hz2, hZ⟩ := h
  have hne : ¬ nI 0 = nI 1 := by decide
  have hs : ∀ p, 81 ≤ p → (p < 117 ∨ 153 ≤ p) → rdL mr mc f s p = s p := fun p h1 h2 => by
    unfold rdL
    rw [clr_out (by omega), putM_out (by omega), upd_n (by omega), upd_n (by omega)]
    split
    · rfl
    · exact clr_out (by omega)
  refine ⟨⟨(upd_n (by decide)).trans ((upd_n (by decide)).trans g0), upd_s, (upd_n (by decide)).trans upd_s, (upd_n (by decide)).trans ((upd_n (by decide)).trans g3), (upd_n (by decide)).trans ((upd_n (by decide)).trans g4), (upd_n (by decide)).trans ((upd_n (by decide)).trans g5)⟩, fun q => absurd q (by decide), fun p hp => ?_, fun p hp => ?_, fun p hp => (hF p hp).trans (hs _ (by omega) (by omega)).symm, 0, pk_uLs, by decide, fun x y hx hy => ?_⟩
  · unfold rdL
    rw [clr_out (by omega), putM_in hp]
    exact (ha p hp).symm
  · rw [hb p hp]
    unfold rdL
    rw [clr_out (by omega), putM_out (by omega), upd_n (by omega), upd_n (by omega), e2]
    by_cases q : mc = k
    · rw [if_pos q, if_pos (by rw [q])]
      exact hB p hp
    · rw [if_neg q, if_neg (fun w => q (nI_inj (by omega) (by omega) w).symm), clr_in (by omega) (by omega)]
  · have e0 : rdL mr mc f s (117 + (6 * x + y)) = nI 0 := by unfold rdL; exact clr_in (by omega) (by omega)
    rw [e0]
    exact ⟨⟨fun q => absurd q (by simp), fun q => absurd q hne⟩, fun q => absurd q hne⟩
theorem LR_readR {mr mc : Nat} {a2 b2 f : wF} (h : LR n r k c o 0 ta tb tt g ad bd fd rd wd s) (e2 : s 2 = nI k) (hk : k < 100) (hc : mr < 100) (ha : ∀ p, p < 36 → f p = b2 p) (hb : ∀ p, p < 36 → a2 p = if mr = k then ad p else nI 0) : LR n r mr mc o 0 ta tb tt (upd (upd g 2 (nI mr)) 3 (nI mc)) a2 b2 fd rd (vp_updL wd 0 (lN 0)) (rdR mr mc f s) := by
  obtain ⟨⟨g0, g1, g2, g3, g4, g5⟩, g6, hA, hB, hF, z, hz, hz2, hZ⟩ := h
  have hne : ¬ nI 0 = nI 1 := by decide
  have hs : ∀ p, 81 ≤ p → (p < 117 ∨ 153 ≤ p) → rdR mr mc f s p = s p := fun p h1 h2 => by
    unfold rdR
    rw [clr_out (by omega), putM_out (by omega), upd_n (by omega), upd_n (by omega)]
    split
    · rfl
    · exact clr_out (by omega)
  refine ⟨⟨(upd_n (by decide)).trans ((upd_n (by decide)).trans g0), (upd_n (by decide)).trans ((upd_n (by decide)).trans g1), (upd_n (by decide)).trans upd_s, upd_s, (upd_n (by decide)).trans ((upd_n (by decide)).trans g4), (upd_n (by decide)).trans ((upd_n (by decide)).trans g5)⟩, fun q => absurd q (by decide), fun p hp => ?_, fun p hp => ?_, fun p hp => (hF p hp).trans (hs _ (by omega) (by omega)).symm, 0, pk_uLs, by decide, fun x y hx hy => ?_⟩
  · rw [hb p hp]
    unfold rdR
    rw [clr_out (by omega), putM_out (by omega), upd_n (by omega), upd_n (by omega), e2]
    by_cases q : mr = k
    · rw [if_pos q, if_pos (by rw [q])]
      exact hA p hp
    · rw [if_neg q, if_neg (fun w => q (nI_inj (by omega) (by omega) w).symm), clr_in (by omega) (by omega)]
  · unfold rdR
    rw [clr_out (by omega), putM_in hp]
    exact (ha p hp).symm
  · have e0 : rdR mr mc f s (117 + (6 * x + y)) = nI 0 := by unfold rdR; exact clr_in (by omega) (by omega)
    rw [e0]
    exact ⟨⟨fun q => absurd q (by simp), fun q => absurd q hne⟩, fun q => absurd q hne⟩
end LRR
