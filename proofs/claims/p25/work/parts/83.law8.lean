/-! law8: the law from its entry to its end -/
/-- the law's reading of its script -/
def CX (l : Launch) (y : MethodName) (wl : List Cond) (rm : Room) (b L : Nat) (xs : Nat → Int32) (av : List Value) : Prop := Met l y wl rm (va_Pc av (fun U => va_X b L xs U U.heap ∧ b < U.heap.size)) (vp_Si (fun _ => True)) 0 0 (fun _ => False)
theorem CX_blind {b L : Nat} {xs : Nat → Int32} {av : List Value} : FrameBlind (va_Pc av (fun U => va_X b L xs U U.heap ∧ b < U.heap.size)) := fun _ U g mk q => ⟨q.1, va_X.moved (u := U) (U := U.calling g mk _) (Vm.Alike.refl U.vm) q.2.1, q.2.2⟩
section QSX
variable {p : Program} {l : Launch} {e : Env} {R : Room} {s : State} {m : MethodId} {args : Array Value} {below : List Frame} {meth : Method} {c : Code} {H : Heap} {locs : List Loc} {cells slots : Nat} {Q : State → Prop}
variable {pc : Nat} {ls : Array Slot} {rest st0 : List Value} {A : Nat → Prop} {H0 : Heap} {cc bytes : ByteArray} {nL maxL n index : Nat} {Ts wl : List Cond} {own : String} {y : MethodName} {ret : Option FieldType} {rm : Room} {As : List Value} {b L : Nat} {xs : Nat → Int32}
theorem q_SX (S : CallFix p m c cc nL s args Ts own) (hM : CX l y wl rm b L xs As) (cw : CallB R s args own index y bytes maxL ret wl rm 0 0 n ∧ (Cond.static y).before args s = true) (hX : va_X b L xs s H0) (hbl : b < H0.size) (hbA : ¬ A b) (hS : va_S A H0 H locs)
    (hn : As.length = n) (hsize : ls.size = nL) (hstack : st0 = As.reverse ++ rest) (hW : (rest.map fun v => v.category).sum ≤ 8) (hdg : decode cc pc = .ok (.invokestatic index, 3)) (hf : cells + 0 ≤ R.cells ∧ slots + 0 ≤ R.slots)
    (kk : ∀ r : Int32, W p l e R s m args below meth c H locs cells slots Q (F0 m (pc + 3) ls (.int r :: rest))) : W p l e R s m args below meth c H locs cells slots Q (F0 m pc ls st0) :=
  vp_callSi (va_runS (As := As) (rest := rest) S hM cw ⟨CX_blind, fun U hU hWm => ⟨rfl, by rw [hU]; exact va_X.moved hWm.alike (hX.kept (hS.2.1 b hbl hbA)), by rw [hU]; exact Nat.lt_of_lt_of_le hbl hS.1⟩⟩ rfl hn hsize hstack (lv_room hW) hdg hf).run (fun r _ => kk r)
theorem q_newJ {G : wG} {ws : va_W} {N : Nat} {n : Int32} (hexec : p.tables.exec = Jvm.exec) (hb : c.code = cc) (harr : (Cond.arrayClass .long).before args s = true) (hK : KK G s) (hP : va_P G.1 vwCl ws H) (hD : va_D A ws) (hS : va_S A H0 H locs) (hA : ∀ q, H0.size ≤ q → A q) (hn : n = nI N) (hN : N ≤ 100000) (hcells : cells + 1 ≤ R.cells) (hslots : slots + N ≤ R.slots) (hdg : decode cc pc = .ok (.newarray .long, 2))
    (kk : ∀ (q : Nat) (H1 : Heap), va_P G.1 vwCl (ws ++ [(q, al G N (fun _ => lN 0))]) H1 → va_D A (ws ++ [(q, al G N (fun _ => lN 0))]) → va_S A H0 H1 locs → W p l e R s m args below meth c H1 locs (cells + 1) (slots + N) Q (F0 m (pc + 2) ls (.ref q :: rest))) : W p l e R s m args below meth c H locs cells slots Q (F0 m pc ls (.int n :: rest)) := by
  subst hn
  refine va_newa (atype := .long) (ty := .long) (N' := N) (a0 := (N, .inr (.inl (fun _ => lN 0)))) hexec hb harr rfl hK.1 hP hD hS hA (fun cA => by rw [vp_cell_l]; rfl) (nI_pos (by omega)) (nI_clamp (by omega)) (by show N * 8 ≤ 536870912; omega) hcells hslots hdg (fun q cA H1 hK1 hP1 hD1 hS1 => ?_)
  have h1 : s.vm.findClass ("[" ++ FieldType.long.toString) = some cA := (hK1.2 4 (cA, .long) rfl).2
  have h2 : s.vm.findClass ("[" ++ FieldType.long.toString) = some (gJ G) := (hK.1.2 3 (gJ G, .long) rfl).2
  have h3 : cA = gJ G := Option.some.inj (h1.symm.trans h2)
  subst h3
  exact kk q H1 hP1 hD1 hS1
end QSX
theorem kL_cell_c7 : Cond.constant RL 7 (40503) ∈ wsL_cell := by decide +kernel
set_option maxHeartbeats 4000000 in
theorem kL_cell (l : Launch) (b L : Nat) (xs : Nat → Int32) (j : Nat) (hL : L < 2147483648) (hj : j < 2147483648) : CX l yL_cell wsL_cell (rm 0 0) b L xs [.ref b, .int (nI j)] := by
  refine Met.ofW (cc := cL_cell) (maxL := 2) (ret := some .int) (by decide) rfl ?_
  intro p e s m args below meth c s₁ B hml hv
  obtain ⟨rfl, hX, hbl⟩ := hv
  have hlocks := B.notSynchronized
  rw [lg_entry_eq]
  have xE := B.exec
  have xB := B.bytes
  have xO : s.vm.findClass RL = some m.cls := findClass_of_methodNamed B.named
  have xT := atoms_spec (ws := wsL_cell) B.pre
  have hl := lv_entry ([.ref b, .int (nI j)]) (n := 2) (Nat.le_of_ble_eq_true rfl)
  generalize (lg_sl ([.ref b, .int (nI j)]) ++ List.replicate (2 - (lg_sl ([.ref b, .int (nI j)])).length) Slot.unset).toArray = ls at hl ⊢
  have xL : lv_has ls 2 [(0, .ref b), (1, .int (nI j))] := hl
  have hbA : ¬ (fun _ : Nat => False) b := id
  have xS : va_S (fun _ : Nat => False) s.heap s.heap [] := va_S.rf
  refine lv_iload_n xE xB dL_cell_0 rfl (lv_at xL 1 rfl) ?_
  refine lv_aload_n xE xB dL_cell_1 rfl (lv_at xL 0 rfl) ?_
  refine va_slen xE xB hX hbl hbA xS dL_cell_2 ?_
  refine q_icmp_ge (b := L) (tgt := 12) xE xB dL_cell_3 (by decide) hj hL (fun c_3 => ?_) (fun c_3 => ?_)
  · refine lv_ldc (v := (40503)) xE xB xO (xT _ kL_cell_c7) dL_cell_12 ?_
    refine lv_iload_n xE xB dL_cell_14 rfl (lv_at xL 1 rfl) ?_
    refine lv_iconst (v := nI 3) xE xB dL_cell_15 (by decide) ?_
    refine lv_iadd xE xB dL_cell_16 ?_
    refine lv_imul xE xB dL_cell_17 ?_
    exact W.iret (v := _) xE xB B.returns (fun t ht _ => ⟨_, rfl, trivial, ht⟩) (fun _ h => by cases h) dL_cell_18
  · refine lv_aload_n xE xB dL_cell_6 rfl (lv_at xL 0 rfl) ?_
    refine lv_iload_n xE xB dL_cell_7 rfl (lv_at xL 1 rfl) ?_
    refine va_sld xE xB hX hbl hbA xS (vp_in_nI c_3 hL) dL_cell_8 ?_
    refine lv_goto (tgt := 18) xE xB dL_cell_9 (by decide) ?_
    exact W.iret (v := _) xE xB B.returns (fun t ht _ => ⟨_, rfl, trivial, ht⟩) (fun _ h => by cases h) dL_cell_18
/-- the state at first -/
def S0 : wF := upd (upd (upd (upd (upd (fun _ => nI 0) 0 (nI 2)) 1 (nI 2)) 2 (nI 2)) 3 (nI 2)) 4 (nI 2)
theorem S0_z (j : Nat) (h : 4 < j) : S0 j = nI 0 := by
  unfold S0
  rw [upd_n (by omega), upd_n (by omega), upd_n (by omega), upd_n (by omega), upd_n (by omega)]
theorem rel_0 : RelS ((2, 2, (fun _ => nI 0)), (2, 2, (fun _ => nI 0)), (2, 2, (fun _ => nI 0)), (2, 2, (fillF 36 NO (fun _ => nI 0))), (0, 0, 0, 0, 0, 0, 0, (fun _ => nI 0), (fun _ => nI 0), (fun _ => nI 0), (fun _ => nI 0))) S0 := by
  have z := S0_z
  refine ⟨⟨rfl, rfl, ⟨by decide, by decide, by decide⟩, fun j hj => (z _ (by omega)).symm⟩, fun i j hi hj => ⟨0, Nat.zero_le _, z _ (by omega), Or.inl rfl⟩, ⟨rfl, rfl, rfl, ⟨by decide, by decide, by decide, by decide, by decide, by decide⟩, fun j hj => (z _ (by omega)).symm, fun j hj => (z _ (by omega)).symm, fun j hj => by rw [z _ (by omega)]; exact bV_0⟩, ⟨rfl, rfl, rfl⟩, RelZ_clr fun j h3 h4 => z _ (by omega), ⟨Nat.zero_le _, z _ (by omega)⟩, fun q => absurd q (by decide)⟩
def N0 : SD := ((2, 2, (fun _ => nI 0)), (2, 2, (fun _ => nI 0)), (2, 2, (fun _ => nI 0)), (2, 2, (fillF 36 NO (fun _ => nI 0))), (0, 0, 0, 0, 0, 0, 0, (fun _ => nI 0), (fun _ => nI 0), (fun _ => nI 0), (fun _ => nI 0)))
def U0 (a : SA × SA × HA × XA) : OD := (a.1, a.2.1, a.2.2.1, a.2.2.2, N0, N0, (0, N0, N0, N0, N0), (0, 0, 0, 0, 0, 0, 0, 0, 0, (fun _ => nI 0), (2, 2, (fun _ => nI 0))))
theorem OI_0 (a : SA × SA × HA × XA) : OI 2 2 2 2 2 0 0 0 0 (U0 a) S0 (fun _ => 0) 0 := OI.of (pst := fun _ _ => nI 0) (hn := 0) rel_0 ⟨rfl, by decide, fun h => absurd h (Nat.lt_irrefl _), fun h => absurd h (by decide), fun h => absurd h (by decide), fun h => absurd h (by decide)⟩ ⟨rfl, by decide, fun j h => absurd h (Nat.not_lt_zero _)⟩ rfl rfl rfl rfl rfl rfl ⟨by decide, by decide, by decide, by decide, by decide, by decide⟩ (fun q => absurd q (by decide))
theorem LR_0 {g2 : wF} (h : ∀ p, g2 p = if p < 5 then nI 2 else nI 0) : LR 2 2 2 2 2 0 0 0 0 g2 (fun _ => nI 0) (fun _ => nI 0) (fun _ => nI 0) (fun _ => nI 0) (fun _ => lN 0) S0 := by
  have hne : ¬ nI 0 = nI 1 := by decide
  refine ⟨⟨h 0, h 1, h 2, h 3, h 4, h 5⟩, fun q => absurd q (by decide), fun p hp => (S0_z _ (by omega)).symm, fun p hp => (S0_z _ (by omega)).symm, fun p hp => (S0_z _ (by omega)).symm, 0, rfl, by decide, fun x y hx hy => ?_⟩
  rw [S0_z _ (by omega)]
  exact ⟨⟨fun q => absurd q (by simp), fun q => absurd q hne⟩, fun q => absurd q hne⟩
theorem g_up {g2 : wF} {q : Nat} (h : ∀ p, g2 p = if p < q then nI 2 else nI 0) : ∀ p, upd g2 q (nI 2) p = if p < q + 1 then nI 2 else nI 0 := fun p => by
  by_cases e : p = q
  · rw [e, upd_s, if_pos (Nat.lt_succ_self q)]
  · rw [upd_n e, h p]
    by_cases d : p < q
    · rw [if_pos d, if_pos (by omega)]
    · rw [if_neg d, if_neg (by omega)]
theorem WC_eq (G : wG) (oa ga aa ba fa ra wa : Nat) (a : SA × SA × HA × XA) (g ad bd fd rd : wF) (wd : Nat → Int64) : (((((([] ++ wC G (oa, a) (N0, N0, (0, N0, N0, N0, N0), (0, 0, 0, 0, 0, 0, 0, 0, 0, (fun _ => nI 0), (2, 2, (fun _ => nI 0))))) ++ [(ga, ai G 9 g)]) ++ [(aa, ai G 36 ad)]) ++ [(ba, ai G 36 bd)]) ++ [(fa, ai G 20 fd)]) ++ [(ra, ai G 36 rd)]) ++ [(wa, al G 1 wd)] = List.flatten [wO G oa (U0 a), [(ga, ai G 9 g)], [(aa, ai G 36 ad)], [(ba, ai G 36 bd)], [(fa, ai G 20 fd)], [(ra, ai G 36 rd)], [(wa, al G 1 wd)]] := by
  simp only [wO, U0, wC, wH, wHf, List.flatten_cons, List.flatten_nil, List.append_nil, List.nil_append, List.append_assoc, List.cons_append]
theorem kL_law_c115 : Cond.constant RL 115 (-1000001) ∈ wsL_law := by decide +kernel
set_option maxHeartbeats 4000000 in
set_option maxRecDepth 100000 in
theorem law_end {p9 : Program} {l : Launch} {e9 : Env} {s9 : State} {m9 : MethodId} {b9 : List Frame} {t9 : Method} {c9 : Code} {bb LL : Nat} {xs : Nat → Int32} {G : wG} {A : Nat → Prop} (hL : LL ≤ 260) (C0 : lw_At p9 s9 m9 t9 c9 bb LL xs) (xK : KK G s9) (hAe : A = fun q : Nat => s9.heap.size ≤ q) (oa ga aa ba fa ra wa : Nat) (tn q : Nat) : ∀ (u : OD) (g ad bd fd rd : wF) (wd : Nat → Int64), LI u g ad bd fd rd wd → ∀ (H : Heap) (locs : List Loc), va_P G.1 vwCl (List.flatten [[(ga, ai G 9 g)], [(aa, ai G 36 ad)], [(ba, ai G 36 bd)], [(fa, ai G 20 fd)], [(ra, ai G 36 rd)], [(wa, al G 1 wd)], wO G oa u]) H → va_D A (List.flatten [[(ga, ai G 9 g)], [(aa, ai G 36 ad)], [(ba, ai G 36 bd)], [(fa, ai G 20 fd)], [(ra, ai G 36 rd)], [(wa, al G 1 wd)], wO G oa u]) → va_S A s9.heap H locs → ∀ (ls : Array Slot), lv_has ls 11 [(0, .ref bb), (1, .ref oa), (2, .ref ga), (3, .ref aa), (4, .ref ba), (5, .ref fa), (6, .ref ra), (7, .ref wa), (8, .int (nI 1)), (9, .int (nI tn)), (10, .int (nI q))] → W p9 l e9 room_1 s9 m9 #[Value.ref bb] b9 t9 c9 H locs 97 1598 (lw_Z b9 #[Value.ref bb] s9) (F0 m9 169 ls []) := by
  obtain ⟨xE, xB, hr, xM, xO0, hts, hX, hbl, hlocks, -⟩ := id C0
  have xO : s9.vm.findClass RL = some m9.cls := xO0
  have xT : ∀ w ∈ wsL_law, w.before #[Value.ref bb] s9 = true := fun w hw => hts w (wsL_law_in w hw)
  have hbA : ¬ A bb := by rw [hAe]; exact Nat.not_le.mpr hbl
  intro u g ad bd fd rd wd hLI H locs xP xD xS ls xL
  obtain ⟨n, r, k, c, o, b, ta, tb, tt, s, T, hI, hL2⟩ := hLI
  refine lv_iload xE xB dL_law_169 (lv_at xL 8 rfl) ?_
  refine lv_if_eq (tgt := 213) xE xB dL_law_171 (by decide) (fun h9 => absurd h9 (by decide)) (fun _ => ?_)
  refine lv_aload_n xE xB dL_law_174 rfl (lv_at xL 1 rfl) ?_
  refine lv_bipush (v := nI 16) xE xB dL_law_175 (by decide) ?_
  refine q_VRL (As := [.int (nI 16)]) (rest := []) ⟨xE, xB, xM, xO, xT⟩ (kO_count l G oa n r k c o b ta tb tt 0 u s T (nI 16) (by first | assumption | omega)) (cwV 1 xT gL_law_X6_count rfl rfl rfl (by decide +kernel) ⟨Nat.le_of_ble_eq_true rfl, Nat.le_of_ble_eq_true rfl⟩) xK xP [6] [0, 1, 2, 3, 4, 5] 7 rfl (by decide) (Lc := [wO G oa u]) rfl rfl 0 rfl rfl rfl rfl xL.1 rfl (Nat.le_of_ble_eq_true rfl) dL_law_177 ⟨Nat.le_of_ble_eq_true rfl, Nat.le_of_ble_eq_true rfl⟩ (fun r_177 h_177 => ?_)
  replace h_177 : ∃ h, r_177 = coA n o r k c b ta tb tt h 0 (nI 16) s := h_177
  obtain ⟨hh, e_177⟩ := h_177
  subst e_177
  refine q_eq (y := (-1000001)) (cnt_16) ?_
  refine lv_ldc (v := (-1000001)) xE xB xO (xT _ kL_law_c115) dL_law_180 ?_
  refine lv_icmp_ne (tgt := 213) xE xB dL_law_182 (by decide) (fun c_182 => absurd c_182 (by exact fun w => w rfl)) (fun c_182 => ?_)
  refine lv_aload_n xE xB dL_law_185 rfl (lv_at xL 1 rfl) ?_
  refine lv_iconst (v := nI 2) xE xB dL_law_186 (by decide) ?_
  refine lv_iconst (v := nI 0) xE xB dL_law_187 (by decide) ?_
  refine lv_iconst (v := nI 0) xE xB dL_law_188 (by decide) ?_
  refine q_VRL (As := [.int (nI 2), .int (nI 0), .int (nI 0)]) (rest := []) ⟨xE, xB, xM, xO, xT⟩ (kO_entry l G oa n r k c o b ta tb tt 0 u s T (nI 2) (nI 0) (nI 0) (by first | assumption | omega)) (cwV 3 xT gL_law_X6_entry rfl rfl rfl (by decide +kernel) ⟨Nat.le_of_ble_eq_true rfl, Nat.le_of_ble_eq_true rfl⟩) xK xP [6] [0, 1, 2, 3, 4, 5] 7 rfl (by decide) (Lc := [wO G oa u]) rfl rfl 0 rfl rfl rfl rfl xL.1 rfl (Nat.le_of_ble_eq_true rfl) dL_law_189 ⟨Nat.le_of_ble_eq_true rfl, Nat.le_of_ble_eq_true rfl⟩ (fun r_189 h_189 => ?_)
  obtain rfl : r_189 = enA r k c (nI 2) (nI 0) (nI 0) s := h_189
  refine q_eq (y := (-1000001)) (en_2) ?_
  refine lv_ldc (v := (-1000001)) xE xB xO (xT _ kL_law_c115) dL_law_192 ?_
  refine lv_icmp_ne (tgt := 213) xE xB dL_law_194 (by decide) (fun c_194 => absurd c_194 (by exact fun w => w rfl)) (fun c_194 => ?_)
  refine lv_aload_n xE xB dL_law_197 rfl (lv_at xL 1 rfl) ?_
  refine lv_iconst (v := nI 0) xE xB dL_law_198 (by decide) ?_
  refine lv_iconst (v := nI 0) xE xB dL_law_199 (by decide) ?_
  refine lv_iconst (v := nI 2) xE xB dL_law_200 (by decide) ?_
  refine q_VRL (As := [.int (nI 0), .int (nI 0), .int (nI 2)]) (rest := []) ⟨xE, xB, xM, xO, xT⟩ (kO_result l G oa n r k c o b ta tb tt 0 u s T (nI 0) (nI 0) (nI 2) (by first | assumption | omega)) (cwV 3 xT gL_law_X6_result rfl rfl rfl (by decide +kernel) ⟨Nat.le_of_ble_eq_true rfl, Nat.le_of_ble_eq_true rfl⟩) xK xP [6] [0, 1, 2, 3, 4, 5] 7 rfl (by decide) (Lc := [wO G oa u]) rfl rfl 0 rfl rfl rfl rfl xL.1 rfl (Nat.le_of_ble_eq_true rfl) dL_law_201 ⟨Nat.le_of_ble_eq_true rfl, Nat.le_of_ble_eq_true rfl⟩ (fun r_201 h_201 => ?_)
  obtain rfl : r_201 = reA r k c (nI 0) (nI 0) (nI 2) s := h_201
  refine q_eq (y := (-1000001)) (re_2x) ?_
  refine lv_ldc (v := (-1000001)) xE xB xO (xT _ kL_law_c115) dL_law_204 ?_
  refine lv_icmp_ne (tgt := 213) xE xB dL_law_206 (by decide) (fun c_206 => absurd c_206 (by exact fun w => w rfl)) (fun c_206 => ?_)
  refine lv_iconst (v := nI 1) xE xB dL_law_209 (by decide) ?_
  refine lv_goto (tgt := 214) xE xB dL_law_210 (by decide) ?_
  subst hAe
  refine va_forget (fun q hq => xS.2.2 q hq) ?_
  refine W.widen (k := 600000) (n := 7302250) (Nat.le_of_ble_eq_true rfl) (Nat.le_of_ble_eq_true rfl) ?_
  exact lw_ret xE xB hr hlocks dL_law_214
set_option maxHeartbeats 4000000 in
set_option maxRecDepth 100000 in
theorem law_loop {p9 : Program} {l : Launch} {e9 : Env} {s9 : State} {m9 : MethodId} {b9 : List Frame} {t9 : Method} {c9 : Code} {bb LL : Nat} {xs : Nat → Int32} {G : wG} {A : Nat → Prop} (hL : LL ≤ 260) (C0 : lw_At p9 s9 m9 t9 c9 bb LL xs) (xK : KK G s9) (hAe : A = fun q : Nat => s9.heap.size ≤ q) (oa ga aa ba fa ra wa : Nat) (tn : Nat) (htn : tn ≤ 62) : ∀ (n9 q : Nat), q ≤ tn → tn + 1 ≤ q + n9 → ∀ (u : OD) (g ad bd fd rd : wF) (wd : Nat → Int64), LI u g ad bd fd rd wd → ∀ (H : Heap) (locs : List Loc), va_P G.1 vwCl (List.flatten [[(ga, ai G 9 g)], [(aa, ai G 36 ad)], [(ba, ai G 36 bd)], [(fa, ai G 20 fd)], [(ra, ai G 36 rd)], [(wa, al G 1 wd)], wO G oa u]) H → va_D A (List.flatten [[(ga, ai G 9 g)], [(aa, ai G 36 ad)], [(ba, ai G 36 bd)], [(fa, ai G 20 fd)], [(ra, ai G 36 rd)], [(wa, al G 1 wd)], wO G oa u]) → va_S A s9.heap H locs → ∀ (ls : Array Slot), lv_has ls 11 [(0, .ref bb), (1, .ref oa), (2, .ref ga), (3, .ref aa), (4, .ref ba), (5, .ref fa), (6, .ref ra), (7, .ref wa), (8, .int (nI 1)), (9, .int (nI tn)), (10, .int (nI q))] → W p9 l e9 room_1 s9 m9 #[Value.ref bb] b9 t9 c9 H locs 97 1598 (lw_Z b9 #[Value.ref bb] s9) (F0 m9 95 ls []) := by
  obtain ⟨xE, xB, hr, xM, xO0, hts, hX, hbl, hlocks, -⟩ := id C0
  have xO : s9.vm.findClass RL = some m9.cls := xO0
  have xT : ∀ w ∈ wsL_law, w.before #[Value.ref bb] s9 = true := fun w hw => hts w (wsL_law_in w hw)
  have hbA : ¬ A bb := by rw [hAe]; exact Nat.not_le.mpr hbl
  intro n9
  induction n9 with
  | zero => intro q h1 h2; exact absurd h2 (by omega)
  | succ n9 ih =>
    intro q h1 h2 u g ad bd fd rd wd hLI H locs xP xD xS ls xL
    refine lv_iload xE xB dL_law_95 (lv_at xL 10 rfl) ?_
    refine lv_iload xE xB dL_law_97 (lv_at xL 9 rfl) ?_
    refine q_icmp_ge (tgt := 169) xE xB dL_law_99 (by decide) (by omega) (by omega) (fun c_99 => ?_) (fun c_99 => ?_)
    · exact law_end hL C0 xK hAe oa ga aa ba fa ra wa tn q u g ad bd fd rd wd hLI H locs xP xD xS ls xL
    · skip
      obtain ⟨n, r, k, c, o, b, ta, tb, tt, s, T, hI, hL2⟩ := hLI
      refine lv_iload xE xB dL_law_102 (lv_at xL 8 rfl) ?_
      refine lv_if_eq (tgt := 169) xE xB dL_law_104 (by decide) (fun h9 => absurd h9 (by decide)) (fun _ => ?_)
      refine lv_aload_n xE xB dL_law_107 rfl (lv_at xL 1 rfl) ?_
      refine lv_aload_n xE xB dL_law_108 rfl (lv_at xL 2 rfl) ?_
      refine lv_aload_n xE xB dL_law_109 rfl (lv_at xL 3 rfl) ?_
      refine lv_aload xE xB dL_law_110 (lv_at xL 4 rfl) ?_
      refine lv_aload xE xB dL_law_112 (lv_at xL 5 rfl) ?_
      refine lv_aload xE xB dL_law_114 (lv_at xL 6 rfl) ?_
      refine lv_aload xE xB dL_law_116 (lv_at xL 7 rfl) ?_
      refine lv_aload_n xE xB dL_law_118 rfl (lv_at xL 0 rfl) ?_
      refine lv_iconst (v := nI 1) xE xB dL_law_119 (by decide) ?_
      refine lv_iload xE xB dL_law_120 (lv_at xL 10 rfl) ?_
      refine q_iadd xE xB dL_law_122 ?_
      refine q_SX (As := [.ref bb, .int (nI (1 + q))]) (rest := [.ref wa, .ref ra, .ref fa, .ref ba, .ref aa, .ref ga, .ref oa]) ⟨xE, xB, xM, xO, xT⟩ (kL_cell l bb LL xs (1 + q) (by omega) (by omega)) (va_cwS 2 xT gL_law_L_cell rfl rfl rfl (by decide +kernel) ⟨Nat.le_of_ble_eq_true rfl, Nat.le_of_ble_eq_true rfl⟩) hX hbl hbA xS rfl xL.1 rfl (Nat.le_of_ble_eq_true rfl) dL_law_123 ⟨Nat.le_of_ble_eq_true rfl, Nat.le_of_ble_eq_true rfl⟩ (fun r_123 => ?_)
      refine lv_sipush (v := nI 7919) xE xB dL_law_126 (by decide) ?_
      refine lv_iload xE xB dL_law_129 (lv_at xL 10 rfl) ?_
      refine q_imul xE xB dL_law_131 ?_
      refine lv_ixor xE xB dL_law_132 ?_
      refine q_SIL (As := [.ref oa, .ref ga, .ref aa, .ref ba, .ref fa, .ref ra, .ref wa, .int (r_123 ^^^ (nI (7919 * q)))]) (rest := []) ⟨xE, xB, xM, xO, xT⟩ (kL_acts l G oa ga aa ba fa ra wa n r k c o b ta tb tt u g ad bd fd rd wd s T (r_123 ^^^ (nI (7919 * q))) hI hL2) (va_cwS 8 xT gL_law_L_acts rfl rfl rfl (by decide +kernel) ⟨Nat.le_of_ble_eq_true rfl, Nat.le_of_ble_eq_true rfl⟩) xK xP xD xS [0, 1, 2, 3, 4, 5, 6] [] 7 rfl (by decide) (Lc := [[(ga, ai G 9 g)], [(aa, ai G 36 ad)], [(ba, ai G 36 bd)], [(fa, ai G 20 fd)], [(ra, ai G 36 rd)], [(wa, al G 1 wd)], wO G oa u]) rfl rfl (fun u_133 => [[(ga, ai G 9 u_133.2.1)], [(aa, ai G 36 u_133.2.2.1)], [(ba, ai G 36 u_133.2.2.2.1)], [(fa, ai G 20 u_133.2.2.2.2.1)], [(ra, ai G 36 u_133.2.2.2.2.2.1)], [(wa, al G 1 u_133.2.2.2.2.2.2)], wO G oa u_133.1]) (fun u_133 => [[(ga, ai G 9 u_133.2.1)], [(aa, ai G 36 u_133.2.2.1)], [(ba, ai G 36 u_133.2.2.2.1)], [(fa, ai G 20 u_133.2.2.2.2.1)], [(ra, ai G 36 u_133.2.2.2.2.2.1)], [(wa, al G 1 u_133.2.2.2.2.2.2)], wO G oa u_133.1]) (fun _ => rfl) (fun _ => rfl) (fun _ => rfl) (fun _ => rfl) rfl xL.1 rfl (Nat.le_of_ble_eq_true rfl) dL_law_133 ⟨Nat.le_of_ble_eq_true rfl, Nat.le_of_ble_eq_true rfl⟩ (fun r_133 u_133 H locs h_133 xP xD xS => ?_)
      replace h_133 : r_133 = nI 1 ∧ LI u_133.1 u_133.2.1 u_133.2.2.1 u_133.2.2.2.1 u_133.2.2.2.2.1 u_133.2.2.2.2.2.1 u_133.2.2.2.2.2.2 := h_133
      obtain ⟨q_133, h_133⟩ := h_133
      subst q_133
      have hLI2 := h_133
      obtain ⟨n2, r2, k2, c2, o2, b2, ta2, tb2, tt2, s2, T2, hI2, hL3⟩ := hLI2
      refine lv_if_eq (tgt := 160) xE xB dL_law_136 (by decide) (fun h9 => absurd h9 (by decide)) (fun _ => ?_)
      refine lv_aload_n xE xB dL_law_139 rfl (lv_at xL 1 rfl) ?_
      refine lv_aload_n xE xB dL_law_140 rfl (lv_at xL 2 rfl) ?_
      refine lv_aload_n xE xB dL_law_141 rfl (lv_at xL 3 rfl) ?_
      refine lv_aload xE xB dL_law_142 (lv_at xL 4 rfl) ?_
      refine lv_aload xE xB dL_law_144 (lv_at xL 5 rfl) ?_
      refine lv_aload xE xB dL_law_146 (lv_at xL 6 rfl) ?_
      refine lv_aload xE xB dL_law_148 (lv_at xL 7 rfl) ?_
      refine q_SRL (As := [.ref oa, .ref ga, .ref aa, .ref ba, .ref fa, .ref ra, .ref wa]) (rest := []) ⟨xE, xB, xM, xO, xT⟩ (kL_isSo l G oa ga aa ba fa ra wa n2 r2 k2 c2 o2 b2 ta2 tb2 tt2 u_133.1 u_133.2.1 u_133.2.2.1 u_133.2.2.2.1 u_133.2.2.2.2.1 u_133.2.2.2.2.2.1 u_133.2.2.2.2.2.2 s2 T2 hI2 hL3) (va_cwS 7 xT gL_law_L_isSo rfl rfl rfl (by decide +kernel) ⟨Nat.le_of_ble_eq_true rfl, Nat.le_of_ble_eq_true rfl⟩) xK xP [0, 1, 2, 3, 4, 5, 6] [] 7 rfl (by decide) (Lc := [[(ga, ai G 9 u_133.2.1)], [(aa, ai G 36 u_133.2.2.1)], [(ba, ai G 36 u_133.2.2.2.1)], [(fa, ai G 20 u_133.2.2.2.2.1)], [(ra, ai G 36 u_133.2.2.2.2.2.1)], [(wa, al G 1 u_133.2.2.2.2.2.2)], wO G oa u_133.1]) rfl rfl rfl xL.1 rfl (Nat.le_of_ble_eq_true rfl) dL_law_150 ⟨Nat.le_of_ble_eq_true rfl, Nat.le_of_ble_eq_true rfl⟩ (fun r_150 h_150 => ?_)
      obtain rfl : r_150 = nI 1 := h_150
      refine lv_if_eq (tgt := 160) xE xB dL_law_153 (by decide) (fun h9 => absurd h9 (by decide)) (fun _ => ?_)
      refine lv_iconst (v := nI 1) xE xB dL_law_156 (by decide) ?_
      refine lv_goto (tgt := 161) xE xB dL_law_157 (by decide) ?_
      refine lv_istore (lv' := [(8, .int (nI 1)), (0, .ref bb), (1, .ref oa), (2, .ref ga), (3, .ref aa), (4, .ref ba), (5, .ref fa), (6, .ref ra), (7, .ref wa), (9, .int (nI tn)), (10, .int (nI q))]) xE xB dL_law_161 xL (by decide) rfl (fun ls xL => ?_)
      refine lv_iinc (v := nI (q + 1)) (lv' := [(10, .int (nI (q + 1))), (8, .int (nI 1)), (0, .ref bb), (1, .ref oa), (2, .ref ga), (3, .ref aa), (4, .ref ba), (5, .ref fa), (6, .ref ra), (7, .ref wa), (9, .int (nI tn))]) xE xB dL_law_163 xL (k := 10) rfl (q_inc _ _) (by decide) rfl (fun ls xL => ?_)
      refine lv_goto (tgt := 95) xE xB dL_law_166 (by decide) ?_
      exact ih (q + 1) (by omega) (by omega) _ _ _ _ _ _ _ h_133 _ _ xP xD xS _ (lv_sub xL [2, 3, 4, 5, 6, 7, 8, 9, 1, 10, 0] rfl)
set_option maxHeartbeats 4000000 in
set_option maxRecDepth 100000 in
theorem law_init {p9 : Program} {l : Launch} {e9 : Env} {s9 : State} {m9 : MethodId} {b9 : List Frame} {t9 : Method} {c9 : Code} {bb LL : Nat} {xs : Nat → Int32} {G : wG} {A : Nat → Prop} (hL : LL ≤ 260) (C0 : lw_At p9 s9 m9 t9 c9 bb LL xs) (xK : KK G s9) (hAe : A = fun q : Nat => s9.heap.size ≤ q) (oa ga aa ba fa ra wa : Nat) (u : OD) (hOI : OI 2 2 2 2 2 0 0 0 0 u S0 (fun _ => 0) 0) : ∀ (n9 q : Nat) (g2 : wF), q ≤ 5 → 6 ≤ q + n9 → (∀ p, g2 p = if p < q then nI 2 else nI 0) → ∀ (H : Heap) (locs : List Loc), va_P G.1 vwCl (List.flatten [[(ga, ai G 9 g2)], [(aa, ai G 36 (fun _ => nI 0))], [(ba, ai G 36 (fun _ => nI 0))], [(fa, ai G 20 (fun _ => nI 0))], [(ra, ai G 36 (fun _ => nI 0))], [(wa, al G 1 (fun _ => lN 0))], wO G oa u]) H → va_D A (List.flatten [[(ga, ai G 9 g2)], [(aa, ai G 36 (fun _ => nI 0))], [(ba, ai G 36 (fun _ => nI 0))], [(fa, ai G 20 (fun _ => nI 0))], [(ra, ai G 36 (fun _ => nI 0))], [(wa, al G 1 (fun _ => lN 0))], wO G oa u]) → va_S A s9.heap H locs → ∀ (ls : Array Slot), lv_has ls 11 [(0, .ref bb), (1, .ref oa), (2, .ref ga), (3, .ref aa), (4, .ref ba), (5, .ref fa), (6, .ref ra), (7, .ref wa), (8, .int (nI q))] → W p9 l e9 room_1 s9 m9 #[Value.ref bb] b9 t9 c9 H locs 97 1598 (lw_Z b9 #[Value.ref bb] s9) (F0 m9 44 ls []) := by
  obtain ⟨xE, xB, hr, xM, xO0, hts, hX, hbl, hlocks, -⟩ := id C0
  have xO : s9.vm.findClass RL = some m9.cls := xO0
  have xT : ∀ w ∈ wsL_law, w.before #[Value.ref bb] s9 = true := fun w hw => hts w (wsL_law_in w hw)
  have hbA : ¬ A bb := by rw [hAe]; exact Nat.not_le.mpr hbl
  intro n9
  induction n9 with
  | zero => intro q g2 h1 h2; exact absurd h2 (by omega)
  | succ n9 ih =>
    intro q g2 h1 h2 hg2 H locs xP xD xS ls xL
    refine lv_iload xE xB dL_law_44 (lv_at xL 8 rfl) ?_
    refine lv_iconst (v := nI 5) xE xB dL_law_46 (by decide) ?_
    refine q_icmp_ge (tgt := 61) xE xB dL_law_47 (by decide) (by omega) (by omega) (fun c_47 => ?_) (fun c_47 => ?_)
    · skip
      obtain rfl : q = 5 := (by omega)
      have hLR := LR_0 hg2
      refine lv_aload_n xE xB dL_law_61 rfl (lv_at xL 1 rfl) ?_
      refine lv_aload_n xE xB dL_law_62 rfl (lv_at xL 2 rfl) ?_
      refine lv_aload_n xE xB dL_law_63 rfl (lv_at xL 3 rfl) ?_
      refine lv_aload xE xB dL_law_64 (lv_at xL 4 rfl) ?_
      refine lv_aload xE xB dL_law_66 (lv_at xL 5 rfl) ?_
      refine lv_aload xE xB dL_law_68 (lv_at xL 6 rfl) ?_
      refine lv_aload xE xB dL_law_70 (lv_at xL 7 rfl) ?_
      refine q_SRL (As := [.ref oa, .ref ga, .ref aa, .ref ba, .ref fa, .ref ra, .ref wa]) (rest := []) ⟨xE, xB, xM, xO, xT⟩ (kL_isSo l G oa ga aa ba fa ra wa 2 2 2 2 2 0 0 0 0 u g2 (fun _ => nI 0) (fun _ => nI 0) (fun _ => nI 0) (fun _ => nI 0) (fun _ => lN 0) S0 (fun _ => 0) hOI hLR) (va_cwS 7 xT gL_law_L_isSo rfl rfl rfl (by decide +kernel) ⟨Nat.le_of_ble_eq_true rfl, Nat.le_of_ble_eq_true rfl⟩) xK xP [0, 1, 2, 3, 4, 5, 6] [] 7 rfl (by decide) (Lc := [[(ga, ai G 9 g2)], [(aa, ai G 36 (fun _ => nI 0))], [(ba, ai G 36 (fun _ => nI 0))], [(fa, ai G 20 (fun _ => nI 0))], [(ra, ai G 36 (fun _ => nI 0))], [(wa, al G 1 (fun _ => lN 0))], wO G oa u]) rfl rfl rfl xL.1 rfl (Nat.le_of_ble_eq_true rfl) dL_law_72 ⟨Nat.le_of_ble_eq_true rfl, Nat.le_of_ble_eq_true rfl⟩ (fun r_72 h_72 => ?_)
      obtain rfl : r_72 = nI 1 := h_72
      refine lv_istore (lv' := [(8, .int (nI 1)), (0, .ref bb), (1, .ref oa), (2, .ref ga), (3, .ref aa), (4, .ref ba), (5, .ref fa), (6, .ref ra), (7, .ref wa)]) xE xB dL_law_75 xL (by decide) rfl (fun ls xL => ?_)
      refine lv_bipush (v := nI 12) xE xB dL_law_77 (by decide) ?_
      refine lv_aload_n xE xB dL_law_79 rfl (lv_at xL 1 rfl) ?_
      refine lv_iconst (v := nI 0) xE xB dL_law_80 (by decide) ?_
      refine q_SX (As := [.ref bb, .int (nI 0)]) (rest := [.int (nI 12)]) ⟨xE, xB, xM, xO, xT⟩ (kL_cell l bb LL xs 0 (by omega) (by omega)) (va_cwS 2 xT gL_law_L_cell rfl rfl rfl (by decide +kernel) ⟨Nat.le_of_ble_eq_true rfl, Nat.le_of_ble_eq_true rfl⟩) hX hbl hbA xS rfl xL.1 rfl (Nat.le_of_ble_eq_true rfl) dL_law_81 ⟨Nat.le_of_ble_eq_true rfl, Nat.le_of_ble_eq_true rfl⟩ (fun r_81 => ?_)
      refine lv_bipush (v := nI 50) xE xB dL_law_84 (by decide) ?_
      refine q_SR (As := [.int r_81, .int (nI 50)]) (rest := [.int (nI 12)]) ⟨xE, xB, xM, xO, xT⟩ (kL_low l G r_81 50 (by first | assumption | omega) (by first | assumption | omega)) (va_cwS 2 xT gL_law_L_low rfl rfl rfl (by decide +kernel) ⟨Nat.le_of_ble_eq_true rfl, Nat.le_of_ble_eq_true rfl⟩) xK xP [] rfl rfl xL.1 rfl (Nat.le_of_ble_eq_true rfl) dL_law_86 ⟨Nat.le_of_ble_eq_true rfl, Nat.le_of_ble_eq_true rfl⟩ (fun r_86 h_86 => ?_)
      replace h_86 : ∃ y, y < 50 ∧ r_86 = nI y := h_86
      obtain ⟨y9, hy9, rx_86⟩ := h_86
      subst rx_86
      refine q_iadd xE xB dL_law_89 ?_
      refine lv_istore (lv' := [(9, .int (nI (12 + y9))), (8, .int (nI 1)), (0, .ref bb), (1, .ref oa), (2, .ref ga), (3, .ref aa), (4, .ref ba), (5, .ref fa), (6, .ref ra), (7, .ref wa)]) xE xB dL_law_90 xL (by decide) rfl (fun ls xL => ?_)
      refine lv_iconst (v := nI 0) xE xB dL_law_92 (by decide) ?_
      refine lv_istore (lv' := [(10, .int (nI 0)), (9, .int (nI (12 + y9))), (8, .int (nI 1)), (0, .ref bb), (1, .ref oa), (2, .ref ga), (3, .ref aa), (4, .ref ba), (5, .ref fa), (6, .ref ra), (7, .ref wa)]) xE xB dL_law_93 xL (by decide) rfl (fun ls xL => ?_)
      exact law_loop hL C0 xK hAe oa ga aa ba fa ra wa (12 + y9) (by omega) (12 + y9 + 1) 0 (Nat.zero_le _) (by omega) _ _ _ _ _ _ _ ⟨2, 2, 2, 2, 2, 0, 0, 0, 0, S0, _, hOI, hLR⟩ _ _ xP xD xS _ (lv_sub xL [3, 4, 5, 6, 7, 8, 9, 10, 2, 1, 0] rfl)
    · skip
      refine lv_aload_n xE xB dL_law_50 rfl (lv_at xL 2 rfl) ?_
      refine lv_iload xE xB dL_law_51 (lv_at xL 8 rfl) ?_
      refine lv_iconst (v := nI 2) xE xB dL_law_53 (by decide) ?_
      refine q_ast xE xB xK xP xD xS 0 rfl (by omega) (by decide) dL_law_54 (fun H locs xP xD xS => ?_)
      have xP : va_P G.1 vwCl (List.flatten [[(ga, ai G 9 (upd g2 q (nI 2)))], [(aa, ai G 36 (fun _ => nI 0))], [(ba, ai G 36 (fun _ => nI 0))], [(fa, ai G 20 (fun _ => nI 0))], [(ra, ai G 36 (fun _ => nI 0))], [(wa, al G 1 (fun _ => lN 0))], wO G oa u]) H := xP
      have xD : va_D A (List.flatten [[(ga, ai G 9 (upd g2 q (nI 2)))], [(aa, ai G 36 (fun _ => nI 0))], [(ba, ai G 36 (fun _ => nI 0))], [(fa, ai G 20 (fun _ => nI 0))], [(ra, ai G 36 (fun _ => nI 0))], [(wa, al G 1 (fun _ => lN 0))], wO G oa u]) := xD
      refine lv_iinc (v := nI (q + 1)) (lv' := [(8, .int (nI (q + 1))), (0, .ref bb), (1, .ref oa), (2, .ref ga), (3, .ref aa), (4, .ref ba), (5, .ref fa), (6, .ref ra), (7, .ref wa)]) xE xB dL_law_55 xL (k := 8) rfl (q_inc _ _) (by decide) rfl (fun ls xL => ?_)
      refine lv_goto (tgt := 44) xE xB dL_law_58 (by decide) ?_
      exact ih (q + 1) _ (by omega) (by omega) (g_up hg2) _ _ xP xD xS _ (lv_sub xL [1, 2, 3, 4, 5, 6, 7, 8, 0] rfl)
set_option maxHeartbeats 4000000 in
set_option maxRecDepth 100000 in
theorem whole_start {p : Program} {e : Env} {s : State} {m : MethodId} {below : List Frame} {meth : Method} {c : Code} (l : Launch) (hflags : l.flags = flags0) {b L : Nat} {xs : Nat → Int32} (hL : L ≤ 260) (C0 : lw_At p s m meth c b L xs) : W p l e room_1 s m #[Value.ref b] below meth c s.heap [] 0 0 (lw_Z below #[Value.ref b] s) (entryFrame m ([Value.ref b] : List Value).toArray 11) := by
  obtain ⟨xE, xB, hr, xM, xO0, hts, hX, hbl, hlocks, -⟩ := id C0
  have xO : s.vm.findClass RL = some m.cls := xO0
  have xT : ∀ w ∈ wsL_law, w.before #[Value.ref b] s = true := fun w hw => hts w (wsL_law_in w hw)
  have xA : ∀ q : Nat, s.heap.size ≤ q → (fun q : Nat => s.heap.size ≤ q) q := fun _ h => h
  obtain ⟨c0, i0, k0⟩ := u_known (C := RX0) (T := TX0) (N := 2) (n := 2) hts inX0 (hts (.instantiable RX0 2) (by decide +kernel))
  obtain ⟨c1, i1, k1⟩ := u_known (C := RX1) (T := TX1) (N := 3) (n := 3) hts inX1 (hts (.instantiable RX1 3) (by decide +kernel))
  obtain ⟨c2, i2, k2⟩ := u_known (C := RX2) (T := TX2) (N := 3) (n := 3) hts inX2 (hts (.instantiable RX2 3) (by decide +kernel))
  obtain ⟨c3, i3, k3⟩ := u_known (C := RX3) (T := TX3) (N := 5) (n := 5) hts inX3 (hts (.instantiable RX3 5) (by decide +kernel))
  obtain ⟨c4, i4, k4⟩ := u_known (C := RX4) (T := TX4) (N := 11) (n := 11) hts inX4 (hts (.instantiable RX4 11) (by decide +kernel))
  obtain ⟨c5, i5, k5⟩ := u_known (C := RX5) (T := TX5) (N := 11) (n := 11) hts inX5 (hts (.instantiable RX5 11) (by decide +kernel))
  obtain ⟨c6, i6, k6⟩ := u_known (C := RX6) (T := TX6) (N := 4) (n := 4) hts inX6 (hts (.instantiable RX6 4) (by decide +kernel))
  obtain ⟨dC, dI, hKc⟩ : ∃ (dC : Nat → ClassId) (dI : Nat → Nat → Nat), ∀ (k : Nat) (q : vw_C), vwCl[k]? = some q → u_Kn s q.1 q.2.1 q.2.2 (dC k) (dI k) := by
    refine ⟨fun k => if k = 0 then c0 else if k = 1 then c1 else if k = 2 then c2 else if k = 3 then c3 else if k = 4 then c4 else if k = 5 then c5 else c6, fun k => if k = 0 then i0 else if k = 1 then i1 else if k = 2 then i2 else if k = 3 then i3 else if k = 4 then i4 else if k = 5 then i5 else i6, ?_⟩
    intro k q hq
    match k, hq with
    | 0, hq => cases hq; exact k0
    | 1, hq => cases hq; exact k1
    | 2, hq => cases hq; exact k2
    | 3, hq => cases hq; exact k3
    | 4, hq => cases hq; exact k4
    | 5, hq => cases hq; exact k5
    | 6, hq => cases hq; exact k6
    | k + 7, hq => simp [vwCl] at hq
  obtain ⟨aC, lC, mC, f1, f2, f3⟩ := Cond.arrayClass_spec (hts (.arrayClass .char) (by decide +kernel))
  obtain ⟨aI, lI, mI, g1, g2, g3⟩ := Cond.arrayClass_spec (hts (.arrayClass .int) (by decide +kernel))
  obtain ⟨aJ, lJ, mJ, j1, j2, j3⟩ := Cond.arrayClass_spec (hts (.arrayClass .long) (by decide +kernel))
  have hAO : va_AO RX3 s := va_AO.of (hts (.arrayOver (.object RX3)) (by decide +kernel))
  obtain ⟨mO, aO, lO, h1, -, h3, h4, h5⟩ := Cond.arrayOver_spec hAO
  obtain ⟨G, hG⟩ : ∃ G : wG, G = ((dC, dI), aC, aI, aO, aJ) := ⟨_, rfl⟩
  have xK : KN G s := by
    subst hG
    refine ⟨⟨⟨hKc, fun k q hq => ?_⟩, fun q hq => ?_⟩, hAO⟩
    · match k, hq with
      | 0, hq => cases hq; exact ⟨fun n z => ⟨fun k h => (by cases h), lC, f2, mC, f3⟩, f1⟩
      | 1, hq => cases hq; exact ⟨fun n z => ⟨fun k h => (by cases h), lI, g2, mI, g3⟩, g1⟩
      | 2, hq => cases hq; exact ⟨fun n z => ⟨fun k h => (by cases h), lO, h3, mO, h4⟩, lO, mO, h3, h4, h1, h5⟩
      | 3, hq => cases hq; exact ⟨fun n z => ⟨fun k h => (by cases h), lJ, j2, mJ, j3⟩, j1⟩
      | k + 4, hq => simp [gT] at hq
    · have hq2 : q = (RX3, 11, yX2_init, RX6) ∨ q = (RX3, 20, yX1_init, RX6) ∨ q = (RX3, 33, yX5_init, RX6) ∨ q = (RX1, 26, yX6_isLength, RX6) ∨ q = (RX6, 28, yX4_init, RX6) ∨ q = (RX4, 17, yX1_init, RX6) := by simpa [wNest] using hq
      rcases hq2 with rfl | rfl | rfl | rfl | rfl | rfl <;> exact va_Nw.of rfl (hts _ (by decide +kernel))
  have xS : va_S (fun q : Nat => s.heap.size ≤ q) s.heap s.heap [] := va_S.rf
  have xP : va_P G.1 vwCl [] s.heap := fun k q h => by simp at h
  have xD : va_D (fun q : Nat => s.heap.size ≤ q) [] := ⟨fun i j p q h => by simp at h, fun k q h => by simp at h⟩
  have hl := lv_entry ([.ref b]) (n := 11) (Nat.le_of_ble_eq_true rfl)
  rw [lg_entry_eq]
  generalize (lg_sl ([.ref b]) ++ List.replicate (11 - (lg_sl ([.ref b])).length) Slot.unset).toArray = ls at hl ⊢
  have xL : lv_has ls 11 [(0, .ref b)] := hl
  refine va_new (D := G.1) (ci := 6) (fs := [.null, .null, .null, .null]) (C := RX6) (T := TX6) (N := 4) xE xB hts inX6 tyX6 tyX6_ok xO (hts (.classLink RL 28 RX6) (by decide +kernel)) (hts (.instantiable RX6 4) (by decide +kernel)) (hts (.initialized RX6) (by decide +kernel)) xK.1.1 xP xD xS xA rfl (fun j hj => by rcases (show j = 0 ∨ j = 1 ∨ j = 2 ∨ j = 3 by omega) with rfl | rfl | rfl | rfl <;> first | rfl | exact congrArg Value.int nI_0.symm) (Nat.le_of_ble_eq_true rfl) (Nat.le_of_ble_eq_true rfl) dL_law_0 (fun oa H xP xD xS => ?_)
  refine lv_dup xE xB dL_law_3 rfl ?_
  refine q_IN (As := []) (rest := [.ref oa]) (wr := []) (wc := [(oa, .inr (6, [.null, .null, .null, .null]))]) ⟨xE, xB, xM, xO, xT⟩ (kX6_init l G oa) (cwI 0 xT gL_law_X6_init rfl rfl rfl (hts (.initialized RX6) (by decide +kernel)) (hts (.methodLink RL 136 yX6_init) (by decide +kernel)) (hts (.instanceMethod yX6_init) (by decide +kernel)) rfl (by decide +kernel) ⟨Nat.le_of_ble_eq_true rfl, Nat.le_of_ble_eq_true rfl⟩) xK xP xD xS xA rfl xL.1 rfl (Nat.le_of_ble_eq_true rfl) dL_law_4 ⟨Nat.le_of_ble_eq_true rfl, Nat.le_of_ble_eq_true rfl⟩ (fun u6 H locs _ xP xD xS => ?_)
  have xP : va_P G.1 vwCl ([] ++ wC G (oa, u6) (N0, N0, (0, N0, N0, N0, N0), (0, 0, 0, 0, 0, 0, 0, 0, 0, (fun _ => nI 0), (2, 2, (fun _ => nI 0))))) H := xP
  have xD : va_D (fun q : Nat => s.heap.size ≤ q) ([] ++ wC G (oa, u6) (N0, N0, (0, N0, N0, N0, N0), (0, 0, 0, 0, 0, 0, 0, 0, 0, (fun _ => nI 0), (2, 2, (fun _ => nI 0))))) := xD
  refine lv_astore_n (lv' := [(1, .ref oa), (0, .ref b)]) xE xB dL_law_7 rfl xL (by decide) rfl (fun ls xL => ?_)
  refine lv_bipush (v := nI 9) xE xB dL_law_8 (by decide) ?_
  refine q_newI (N := 9) xE xB (hts (.arrayClass .int) (by decide +kernel)) xK.1 xP xD xS xA rfl (by decide) (Nat.le_of_ble_eq_true rfl) (Nat.le_of_ble_eq_true rfl) dL_law_10 (fun ga H xP xD xS => ?_)
  refine lv_astore_n (lv' := [(2, .ref ga), (1, .ref oa), (0, .ref b)]) xE xB dL_law_12 rfl xL (by decide) rfl (fun ls xL => ?_)
  refine lv_bipush (v := nI 36) xE xB dL_law_13 (by decide) ?_
  refine q_newI (N := 36) xE xB (hts (.arrayClass .int) (by decide +kernel)) xK.1 xP xD xS xA rfl (by decide) (Nat.le_of_ble_eq_true rfl) (Nat.le_of_ble_eq_true rfl) dL_law_15 (fun aa H xP xD xS => ?_)
  refine lv_astore_n (lv' := [(3, .ref aa), (2, .ref ga), (1, .ref oa), (0, .ref b)]) xE xB dL_law_17 rfl xL (by decide) rfl (fun ls xL => ?_)
  refine lv_bipush (v := nI 36) xE xB dL_law_18 (by decide) ?_
  refine q_newI (N := 36) xE xB (hts (.arrayClass .int) (by decide +kernel)) xK.1 xP xD xS xA rfl (by decide) (Nat.le_of_ble_eq_true rfl) (Nat.le_of_ble_eq_true rfl) dL_law_20 (fun ba H xP xD xS => ?_)
  refine lv_astore (lv' := [(4, .ref ba), (3, .ref aa), (2, .ref ga), (1, .ref oa), (0, .ref b)]) xE xB dL_law_22 xL (by decide) rfl (fun ls xL => ?_)
  refine lv_bipush (v := nI 20) xE xB dL_law_24 (by decide) ?_
  refine q_newI (N := 20) xE xB (hts (.arrayClass .int) (by decide +kernel)) xK.1 xP xD xS xA rfl (by decide) (Nat.le_of_ble_eq_true rfl) (Nat.le_of_ble_eq_true rfl) dL_law_26 (fun fa H xP xD xS => ?_)
  refine lv_astore (lv' := [(5, .ref fa), (4, .ref ba), (3, .ref aa), (2, .ref ga), (1, .ref oa), (0, .ref b)]) xE xB dL_law_28 xL (by decide) rfl (fun ls xL => ?_)
  refine lv_bipush (v := nI 36) xE xB dL_law_30 (by decide) ?_
  refine q_newI (N := 36) xE xB (hts (.arrayClass .int) (by decide +kernel)) xK.1 xP xD xS xA rfl (by decide) (Nat.le_of_ble_eq_true rfl) (Nat.le_of_ble_eq_true rfl) dL_law_32 (fun ra H xP xD xS => ?_)
  refine lv_astore (lv' := [(6, .ref ra), (5, .ref fa), (4, .ref ba), (3, .ref aa), (2, .ref ga), (1, .ref oa), (0, .ref b)]) xE xB dL_law_34 xL (by decide) rfl (fun ls xL => ?_)
  refine lv_iconst (v := nI 1) xE xB dL_law_36 (by decide) ?_
  refine q_newJ (N := 1) xE xB (hts (.arrayClass .long) (by decide +kernel)) xK.1 xP xD xS xA rfl (by decide) (Nat.le_of_ble_eq_true rfl) (Nat.le_of_ble_eq_true rfl) dL_law_37 (fun wa H xP xD xS => ?_)
  refine lv_astore (lv' := [(7, .ref wa), (6, .ref ra), (5, .ref fa), (4, .ref ba), (3, .ref aa), (2, .ref ga), (1, .ref oa), (0, .ref b)]) xE xB dL_law_39 xL (by decide) rfl (fun ls xL => ?_)
  refine lv_iconst (v := nI 0) xE xB dL_law_41 (by decide) ?_
  refine lv_istore (lv' := [(8, .int (nI 0)), (7, .ref wa), (6, .ref ra), (5, .ref fa), (4, .ref ba), (3, .ref aa), (2, .ref ga), (1, .ref oa), (0, .ref b)]) xE xB dL_law_42 xL (by decide) rfl (fun ls xL => ?_)
  rw [WC_eq] at xP xD
  have xP := wP_ix [1, 2, 3, 4, 5, 6, 0] 7 rfl (by decide) rfl xP
  have xD := wD_ix [1, 2, 3, 4, 5, 6, 0] 7 rfl (by decide) rfl xD
  refine W.widen (k := 97) (n := 1598) (Nat.le_of_ble_eq_true rfl) (Nat.le_of_ble_eq_true rfl) ?_
  exact law_init hL C0 xK.1 rfl oa ga aa ba fa ra wa (U0 u6) (OI_0 u6) 6 0 (fun _ => nI 0) (by decide) (by decide) (fun p => (if_neg (Nat.not_lt_zero p)).symm) H locs xP xD xS ls (lv_sub xL [8, 7, 6, 5, 4, 3, 2, 1, 0] rfl)
