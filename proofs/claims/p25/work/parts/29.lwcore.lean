/-! lwcore: calls of the law's own methods on whole chunks; rows for remainders and longs; contracts made weaker; the object of the class in one chunk -/
section QCALLL
variable {p : Program} {l : Launch} {e : Env} {R : Room} {s : State} {m : MethodId} {args : Array Value} {below : List Frame} {meth : Method} {c : Code} {H : Heap} {locs : List Loc} {cells slots : Nat} {Q : State → Prop}
variable {pc : Nat} {ls : Array Slot} {rest st0 : List Value} {A : Nat → Prop} {H0 : Heap} {G : wG} {L Lc Lr : List va_W} {wc : va_W} {cc bytes : ByteArray} {nL maxL n index : Nat} {Ts wl : List Cond} {own C : String} {y : MethodName} {ret : Option FieldType} {rm : Room} {As : List Value} {b q0 ci : Nat} {fs : List Value} {r0 : vw_C}
theorem q_SRL {post : Int32 → Prop} (S : CallFix p m c cc nL s args Ts own) (hM : CR l y wl rm G As wc post) (cw : CallB R s args own index y bytes maxL ret wl rm 0 0 n ∧ (Cond.static y).before args s = true) (hK : KK G s) (hP : va_P G.1 vwCl L.flatten H) (is ir : List Nat) (N : Nat) (hN : L.length = N) (hp : (is ++ ir).Perm (List.range N)) (h1 : is.filterMap (fun i => L[i]?) = Lc) (hwc : Lc.flatten = wc)
    (hn : As.length = n) (hsize : ls.size = nL) (hstack : st0 = As.reverse ++ rest) (hW : (rest.map fun v => v.category).sum ≤ 8) (hdg : decode cc pc = .ok (.invokestatic index, 3)) (hf : cells + 0 ≤ R.cells ∧ slots + 0 ≤ R.slots)
    (kk : ∀ r : Int32, post r → W p l e R s m args below meth c H locs cells slots Q (F0 m (pc + 3) ls (.int r :: rest))) : W p l e R s m args below meth c H locs cells slots Q (F0 m pc ls st0) := by
  subst hwc
  have hP' : va_P G.1 vwCl Lc.flatten H := wP_mem.mpr fun q hq => wP_mem.mp (wP_perm (permF hN hp h1 rfl) hP) q (List.mem_append_left _ hq)
  exact vp_callSi (va_runS (As := As) (rest := rest) S hM cw ⟨wPrR_blind, fun U hU hWm => ⟨rfl, by rw [hU]; exact hP', hK.warm hWm⟩⟩ rfl hn hsize hstack (lv_room hW) hdg hf).run kk
theorem q_SIL {S' : Type} {post : Int32 → S' → Prop} {w1 : S' → va_W} (S : CallFix p m c cc nL s args Ts own) (hM : CI l y wl rm G As wc post w1) (cw : CallB R s args own index y bytes maxL ret wl rm 0 0 n ∧ (Cond.static y).before args s = true) (hK : KK G s) (hP : va_P G.1 vwCl L.flatten H) (hD : va_D A L.flatten) (hS : va_S A H0 H locs) (is ir : List Nat) (N : Nat) (hN : L.length = N) (hp : (is ++ ir).Perm (List.range N)) (h1 : is.filterMap (fun i => L[i]?) = Lc) (hwc : Lc.flatten = wc)
    (L2 L1 : S' → List va_W) (hN2 : ∀ u, (L2 u).length = N) (h3 : ∀ u, is.filterMap (fun i => (L2 u)[i]?) = L1 u) (hw1 : ∀ u, (L1 u).flatten = w1 u) (h2 : ∀ u, ir.filterMap (fun i => (L2 u)[i]?) = ir.filterMap (fun i => L[i]?))
    (hn : As.length = n) (hsize : ls.size = nL) (hstack : st0 = As.reverse ++ rest) (hW : (rest.map fun v => v.category).sum ≤ 8) (hdg : decode cc pc = .ok (.invokestatic index, 3)) (hf : cells + 0 ≤ R.cells ∧ slots + 0 ≤ R.slots)
    (kk : ∀ (r : Int32) (u : S') (H1 : Heap) (locs1 : List Loc), post r u → va_P G.1 vwCl (L2 u).flatten H1 → va_D A (L2 u).flatten → va_S A H0 H1 locs1 → W p l e R s m args below meth c H1 locs1 cells slots Q (F0 m (pc + 3) ls (.int r :: rest))) : W p l e R s m args below meth c H locs cells slots Q (F0 m pc ls st0) := by
  subst hwc
  have hpm := permF hN hp h1 rfl
  have hP' : va_P G.1 vwCl Lc.flatten H := wP_mem.mpr fun q hq => wP_mem.mp (wP_perm hpm hP) q (List.mem_append_left _ hq)
  have hD9 := wD_nd.mp (wD_perm hpm hD)
  have hD' : va_D A Lc.flatten := wD_nd.mpr ⟨by have h9 := hD9.1; rw [List.map_append, List.nodup_append] at h9; exact h9.1, fun q hq => hD9.2 q (List.mem_append_left _ hq)⟩
  have hF : ∀ q, wB Lc.flatten q → A q := fun q hq => by
    obtain ⟨x, hx, e⟩ := wB_mem.mp hq
    rw [← e]
    exact hD9.2 x (List.mem_append_left _ hx)
  refine va_calli (va_runS (As := As) (rest := rest) S hM cw ⟨wPre_blind, fun U hU hWm => ⟨rfl, by rw [hU]; exact hP', hK.warm hWm, hD'.weaken (fun _ _ _ _ => trivial)⟩⟩ rfl hn hsize hstack (lv_room hW) hdg hf) hS (fun q _ h => hF q h) hF (fun r u t H1 locs1 ht _ hw hB _ hk1 hS1 => ?_)
  obtain ⟨hB, hBD⟩ := hB
  rw [ht] at hB
  have hpm2 := permF (hN2 u) hp (h3 u) (h2 u)
  rw [hw1 u] at hpm2
  obtain ⟨hP1, hD1⟩ := q_joinP hP hD hpm hk1 hB hBD hpm2
  exact kk r u H1 locs1 hw hP1 hD1 hS1
theorem q_SVL {S' : Type} {post : S' → Prop} {w1 : S' → va_W} (S : CallFix p m c cc nL s args Ts own) (hM : CV l y wl rm G As wc post w1) (cw : CallB R s args own index y bytes maxL ret wl rm 0 0 n ∧ (Cond.static y).before args s = true) (hK : KK G s) (hP : va_P G.1 vwCl L.flatten H) (hD : va_D A L.flatten) (hS : va_S A H0 H locs) (is ir : List Nat) (N : Nat) (hN : L.length = N) (hp : (is ++ ir).Perm (List.range N)) (h1 : is.filterMap (fun i => L[i]?) = Lc) (hwc : Lc.flatten = wc)
    (L2 L1 : S' → List va_W) (hN2 : ∀ u, (L2 u).length = N) (h3 : ∀ u, is.filterMap (fun i => (L2 u)[i]?) = L1 u) (hw1 : ∀ u, (L1 u).flatten = w1 u) (h2 : ∀ u, ir.filterMap (fun i => (L2 u)[i]?) = ir.filterMap (fun i => L[i]?))
    (hn : As.length = n) (hsize : ls.size = nL) (hstack : st0 = As.reverse ++ rest) (hW : (rest.map fun v => v.category).sum ≤ 8) (hdg : decode cc pc = .ok (.invokestatic index, 3)) (hf : cells + 0 ≤ R.cells ∧ slots + 0 ≤ R.slots)
    (kk : ∀ (u : S') (H1 : Heap) (locs1 : List Loc), post u → va_P G.1 vwCl (L2 u).flatten H1 → va_D A (L2 u).flatten → va_S A H0 H1 locs1 → W p l e R s m args below meth c H1 locs1 cells slots Q (F0 m (pc + 3) ls rest)) : W p l e R s m args below meth c H locs cells slots Q (F0 m pc ls st0) := by
  subst hwc
  have hpm := permF hN hp h1 rfl
  have hP' : va_P G.1 vwCl Lc.flatten H := wP_mem.mpr fun q hq => wP_mem.mp (wP_perm hpm hP) q (List.mem_append_left _ hq)
  have hD9 := wD_nd.mp (wD_perm hpm hD)
  have hD' : va_D A Lc.flatten := wD_nd.mpr ⟨by have h9 := hD9.1; rw [List.map_append, List.nodup_append] at h9; exact h9.1, fun q hq => hD9.2 q (List.mem_append_left _ hq)⟩
  have hF : ∀ q, wB Lc.flatten q → A q := fun q hq => by
    obtain ⟨x, hx, e⟩ := wB_mem.mp hq
    rw [← e]
    exact hD9.2 x (List.mem_append_left _ hx)
  refine va_callv (va_runS (As := As) (rest := rest) S hM cw ⟨wPre_blind, fun U hU hWm => ⟨rfl, by rw [hU]; exact hP', hK.warm hWm, hD'.weaken (fun _ _ _ _ => trivial)⟩⟩ rfl hn hsize hstack (lv_room hW) hdg hf) hS (fun q _ h => hF q h) hF (fun u t H1 locs1 ht _ hw hB _ hk1 hS1 => ?_)
  obtain ⟨hB, hBD⟩ := hB
  rw [ht] at hB
  have hpm2 := permF (hN2 u) hp (h3 u) (h2 u)
  rw [hw1 u] at hpm2
  obtain ⟨hP1, hD1⟩ := q_joinP hP hD hpm hk1 hB hBD hpm2
  exact kk u H1 locs1 hw hP1 hD1 hS1
end QCALLL
section QLNUM
variable {p : Program} {l : Launch} {e : Env} {R : Room} {s : State} {m : MethodId} {args : Array Value} {below : List Frame} {meth : Method} {c : Code} {H : Heap} {locs : List Loc} {cells slots : Nat} {Q : State → Prop}
variable {cc : ByteArray} {pc : Nat} {ls : Array Slot} {rest : List Value}
theorem q_irem {a b : Nat} (hexec : p.tables.exec = Jvm.exec) (hb : c.code = cc) (hdg : decode cc pc = .ok (.irem, 1)) (ha : a < 2147483648) (h0 : 0 < b) (hb2 : b < 2147483648) (k : W p l e R s m args below meth c H locs cells slots Q (F0 m (pc + 1) ls (.int (nI (a % b)) :: rest))) : W p l e R s m args below meth c H locs cells slots Q (F0 m pc ls (.int (nI b) :: .int (nI a) :: rest)) :=
  lv_irem hexec hb hdg (nI_ne0 h0 hb2) (by rw [pk_rem ha h0 hb2]; exact k)
variable {G : wG} {ws : va_W} {A : Nat → Prop} {H0 : Heap} {a n : Nat} {f : Nat → Int64}
theorem q_lald {j : Nat} (hexec : p.tables.exec = Jvm.exec) (hb : c.code = cc) (hK : KK G s) (hP : va_P G.1 vwCl ws H) (q0 : Nat) (ha : ws[q0]? = some (a, al G n f)) (hj : j < n) (hn : n < 2147483648) (hdg : decode cc pc = .ok (.laload, 1))
    (kk : W p l e R s m args below meth c H locs cells slots Q (F0 m (pc + 1) ls (.long (f j) :: rest))) : W p l e R s m args below meth c H locs cells slots Q (F0 m pc ls (.int (nI j) :: .ref a :: rest)) :=
  va_lald hexec hb hK.1 hP q0 3 ha rfl (vp_in_nI hj hn) hdg (by rw [nI_clamp (Nat.lt_trans hj hn)]; exact kk)
theorem q_last {j : Nat} {x : Int64} (hexec : p.tables.exec = Jvm.exec) (hb : c.code = cc) (hK : KK G s) (hP : va_P G.1 vwCl ws H) (hD : va_D A ws) (hS : va_S A H0 H locs) (q0 : Nat) (ha : ws[q0]? = some (a, al G n f)) (hj : j < n) (hn : n < 2147483648) (hdg : decode cc pc = .ok (.lastore, 1))
    (kk : ∀ (H1 : Heap) (locs1 : List Loc), va_P G.1 vwCl (ws.set q0 (a, al G n (vp_updL f j x))) H1 → va_D A (ws.set q0 (a, al G n (vp_updL f j x))) → va_S A H0 H1 locs1 → W p l e R s m args below meth c H1 locs1 cells slots Q (F0 m (pc + 1) ls rest)) : W p l e R s m args below meth c H locs cells slots Q (F0 m pc ls (.long x :: .int (nI j) :: .ref a :: rest)) :=
  va_last hexec hb hK.1 hP hD hS q0 3 ha rfl (vp_in_nI hj hn) hdg (by rw [nI_clamp (Nat.lt_trans hj hn)]; exact kk)
end QLNUM
theorem CI.imp {S S' : Type} {l : Launch} {y : MethodName} {wl : List Cond} {rm : Room} {G : wG} {av : List Value} {ws ws' : va_W} {post : Int32 → S → Prop} {post' : Int32 → S' → Prop} {w1 : S → va_W} {w1' : S' → va_W} (h : CI l y wl rm G av ws post w1) (hw : ws' = ws) (k : ∀ x u, post x u → ∃ u', post' x u' ∧ w1' u' = w1 u) : CI l y wl rm G av ws' post' w1' := by
  subst hw
  intro p e ha hc hk s m args below hf happ hP hT
  obtain ⟨n, o, h1, h2, h3, ⟨⟨⟨r, u, e1, e2, e3⟩, e4⟩, e5⟩⟩ := h p e ha hc hk s m args below hf happ hP hT
  obtain ⟨u', g1, g2⟩ := k r u e2
  exact ⟨n, o, h1, h2, h3, ⟨⟨⟨r, u', e1, g1, by show va_P G.1 vwCl (w1' u') _ ∧ va_D (wB _) (w1' u'); rw [g2]; exact e3⟩, e4⟩, e5⟩⟩
theorem CR.imp {l : Launch} {y : MethodName} {wl : List Cond} {rm : Room} {G : wG} {av : List Value} {ws ws' : va_W} {post post' : Int32 → Prop} (h : CR l y wl rm G av ws post) (hw : ws' = ws) (k : ∀ x, post x → post' x) : CR l y wl rm G av ws' post' := by
  subst hw
  intro p e ha hc hk s m args below hf happ hP hT
  obtain ⟨n, o, h1, h2, h3, ⟨⟨r, e1, e2, e3⟩, e5⟩⟩ := h p e ha hc hk s m args below hf happ hP hT
  exact ⟨n, o, h1, h2, h3, ⟨⟨r, e1, k r e2, e3⟩, e5⟩⟩
