/-! calls in large worlds: a world is a row of smaller ones; what a call doesn't reach is kept piece by piece -/
theorem permL {α : Type} (L : List α) (ix : List Nat) (h : ix.Perm (List.range L.length)) : L.Perm (ix.filterMap (fun i => L[i]?)) := by
  have e : ∀ (L : List α), (List.range L.length).filterMap (fun i => L[i]?) = L := by
    intro L
    induction L with
    | nil => rfl
    | cons a l ih =>
      rw [List.length_cons, List.range_succ_eq_map, List.filterMap_cons]
      show a :: List.filterMap (fun i => (a :: l)[i]?) (List.map Nat.succ (List.range l.length)) = a :: l
      rw [List.filterMap_map]
      exact congrArg (List.cons a) ih
  have h2 := (h.filterMap (fun i => L[i]?)).symm
  rwa [e L] at h2
theorem wP_mem {D : va_G} {cl : List vw_C} {ws : va_W} {H : Heap} : va_P D cl ws H ↔ ∀ q ∈ ws, va_at D cl q H := by
  constructor
  · intro h q hq
    obtain ⟨k, hk⟩ := List.getElem?_of_mem hq
    exact h k q hk
  · exact fun h k q hk => h q (List.mem_of_getElem? hk)
theorem wD_nd {A : Nat → Prop} {ws : va_W} : va_D A ws ↔ (ws.map (fun q => q.1)).Nodup ∧ ∀ q ∈ ws, A q.1 := by
  constructor
  · rintro ⟨h1, h2⟩
    refine ⟨?_, fun q hq => ?_⟩
    · rw [List.nodup_iff_pairwise_ne, List.pairwise_iff_getElem]
      intro i j hi hj hij e
      rw [List.length_map] at hi hj
      rw [List.getElem_map, List.getElem_map] at e
      have := h1 i j _ _ (List.getElem?_eq_getElem hi) (List.getElem?_eq_getElem hj) e
      omega
    · obtain ⟨k, hk⟩ := List.getElem?_of_mem hq
      exact h2 k q hk
  · rintro ⟨h1, h2⟩
    rw [List.nodup_iff_pairwise_ne, List.pairwise_iff_getElem] at h1
    refine ⟨fun i j p q hi hj e => ?_, fun k q hk => h2 q (List.mem_of_getElem? hk)⟩
    obtain ⟨li, ei⟩ := List.getElem?_eq_some_iff.mp hi
    obtain ⟨lj, ej⟩ := List.getElem?_eq_some_iff.mp hj
    have li' : i < (ws.map (fun q => q.1)).length := by rw [List.length_map]; exact li
    have lj' : j < (ws.map (fun q => q.1)).length := by rw [List.length_map]; exact lj
    rcases Nat.lt_trichotomy i j with h | h | h
    · exact absurd (by rw [List.getElem_map, List.getElem_map, ei, ej]; exact e) (h1 i j li' lj' h)
    · exact h
    · exact absurd (by rw [List.getElem_map, List.getElem_map, ei, ej]; exact e.symm) (h1 j i lj' li' h)
theorem wP_perm {D : va_G} {cl : List vw_C} {ws ws2 : va_W} {H : Heap} (p : ws.Perm ws2) (h : va_P D cl ws H) : va_P D cl ws2 H := wP_mem.mpr fun q hq => wP_mem.mp h q (p.mem_iff.mpr hq)
theorem wD_perm {A : Nat → Prop} {ws ws2 : va_W} (p : ws.Perm ws2) (h : va_D A ws) : va_D A ws2 := by
  obtain ⟨h1, h2⟩ := wD_nd.mp h
  exact wD_nd.mpr ⟨(p.map _).nodup_iff.mp h1, fun q hq => h2 q (p.mem_iff.mpr hq)⟩
theorem wB_mem {ws : va_W} {q : Nat} : wB ws q ↔ ∃ x ∈ ws, x.1 = q := by
  constructor
  · rintro ⟨k, e, hk⟩
    exact ⟨_, List.mem_of_getElem? hk, rfl⟩
  · rintro ⟨x, hx, rfl⟩
    obtain ⟨k, hk⟩ := List.getElem?_of_mem hx
    exact ⟨k, x.2, hk⟩
theorem q_joinP {A0 : Nat → Prop} {D : va_G} {cl : List vw_C} {ws wc wr w1 ws2 : va_W} {H H1 : Heap} (hP : va_P D cl ws H) (hD : va_D A0 ws) (hp : ws.Perm (wc ++ wr)) (hk : ∀ q : Nat, q < H.size → ¬ wB wc q → H1[q]? = H[q]?) (hP1 : va_P D cl w1 H1) (hD1 : va_D (wB wc) w1) (hp2 : ws2.Perm (w1 ++ wr)) : va_P D cl ws2 H1 ∧ va_D A0 ws2 := by
  have hP' := wP_mem.mp (wP_perm hp hP)
  obtain ⟨n1, n2⟩ := wD_nd.mp (wD_perm hp hD)
  obtain ⟨n3, n4⟩ := wD_nd.mp hD1
  rw [List.map_append, List.nodup_append] at n1
  obtain ⟨a1, a2, a3⟩ := n1
  have old : ∀ q ∈ wr, ¬ wB wc q.1 := fun q hq h => by
    obtain ⟨x, hx, e⟩ := wB_mem.mp h
    exact a3 x.1 (List.mem_map_of_mem hx) q.1 (List.mem_map_of_mem hq) e
  refine ⟨wP_perm hp2.symm (wP_mem.mpr fun q hq => ?_), wD_perm hp2.symm (wD_nd.mpr ⟨?_, fun q hq => ?_⟩)⟩
  · rcases List.mem_append.mp hq with h | h
    · exact wP_mem.mp hP1 q h
    · have h0 := hP' q (List.mem_append_right _ h)
      exact h0.kept (hk q.1 h0.lt (old q h))
  · rw [List.map_append, List.nodup_append]
    refine ⟨n3, a2, fun x hx y hy e => ?_⟩
    obtain ⟨p, hp, rfl⟩ := List.mem_map.mp hx
    obtain ⟨r, hr, rfl⟩ := List.mem_map.mp hy
    have h9 := n4 p hp
    rw [e] at h9
    exact old r hr h9
  · rcases List.mem_append.mp hq with h | h
    · obtain ⟨x, hx, e⟩ := wB_mem.mp (n4 q h)
      rw [← e]
      exact n2 x (List.mem_append_left _ hx)
    · exact n2 q (List.mem_append_right _ h)
theorem permF {L Lc Lr : List va_W} {is ir : List Nat} {N : Nat} (hN : L.length = N) (h : (is ++ ir).Perm (List.range N)) (h1 : is.filterMap (fun i => L[i]?) = Lc) (h2 : ir.filterMap (fun i => L[i]?) = Lr) : L.flatten.Perm (Lc.flatten ++ Lr.flatten) := by
  have h3 := (permL L (is ++ ir) (by rw [hN]; exact h)).flatten
  rwa [List.filterMap_append, List.flatten_append, h1, h2] at h3
section QCALLL
variable {p : Program} {l : Launch} {e : Env} {R : Room} {s : State} {m : MethodId} {args : Array Value} {below : List Frame} {meth : Method} {c : Code} {H : Heap} {locs : List Loc} {cells slots : Nat} {Q : State → Prop}
variable {pc : Nat} {ls : Array Slot} {rest st0 : List Value} {A : Nat → Prop} {H0 : Heap} {G : wG} {L Lc Lr : List va_W} {wc : va_W} {cc bytes : ByteArray} {nL maxL n index : Nat} {Ts wl : List Cond} {own C : String} {y : MethodName} {ret : Option FieldType} {rm : Room} {As : List Value} {b q0 ci : Nat} {fs : List Value} {r0 : vw_C}
theorem q_VRL {post : Int32 → Prop} (S : CallFix p m c cc nL s args Ts own) (hM : CR l y wl rm G (.ref b :: As) wc post) (cw : CallW R s args own C index y bytes maxL ret wl rm 0 0 n) (hK : KK G s) (hP : va_P G.1 vwCl L.flatten H) (is ir : List Nat) (N : Nat) (hN : L.length = N) (hp : (is ++ ir).Perm (List.range N)) (h1 : is.filterMap (fun i => L[i]?) = Lc) (hwc : Lc.flatten = wc)
    (q0 : Nat) (he : wc[q0]? = some (b, .inr (ci, fs))) (hc : vwCl[ci]? = some r0) (hr0 : r0.1 = C) (hn : As.length = n) (hsize : ls.size = nL) (hstack : st0 = As.reverse ++ .ref b :: rest) (hW : (rest.map fun v => v.category).sum ≤ 8) (hdg : decode cc pc = .ok (.invokevirtual index, 3)) (hf : cells + 0 ≤ R.cells ∧ slots + 0 ≤ R.slots)
    (kk : ∀ r : Int32, post r → W p l e R s m args below meth c H locs cells slots Q (F0 m (pc + 3) ls (.int r :: rest))) : W p l e R s m args below meth c H locs cells slots Q (F0 m pc ls st0) := by
  subst hr0
  subst hwc
  have hP' : va_P G.1 vwCl Lc.flatten H := wP_mem.mpr fun q hq => wP_mem.mp (wP_perm (permF hN hp h1 rfl) hP) q (List.mem_append_left _ hq)
  exact vp_callSi (va_runV (As := As) (rest := rest) S hM cw ⟨wPrR_blind, va_recv hK.1 hP' hc he, fun U hU hWm => ⟨rfl, by rw [hU]; exact hP', hK.warm hWm⟩⟩ rfl hn hsize hstack (lv_room hW) hdg hf).run kk
theorem q_VIL {S' : Type} {post : Int32 → S' → Prop} {w1 : S' → va_W} (S : CallFix p m c cc nL s args Ts own) (hM : CI l y wl rm G (.ref b :: As) wc post w1) (cw : CallW R s args own C index y bytes maxL ret wl rm 0 0 n) (hK : KK G s) (hP : va_P G.1 vwCl L.flatten H) (hD : va_D A L.flatten) (hS : va_S A H0 H locs) (is ir : List Nat) (N : Nat) (hN : L.length = N) (hp : (is ++ ir).Perm (List.range N)) (h1 : is.filterMap (fun i => L[i]?) = Lc) (hwc : Lc.flatten = wc)
    (L2 L1 : S' → List va_W) (hN2 : ∀ u, (L2 u).length = N) (h3 : ∀ u, is.filterMap (fun i => (L2 u)[i]?) = L1 u) (hw1 : ∀ u, (L1 u).flatten = w1 u) (h2 : ∀ u, ir.filterMap (fun i => (L2 u)[i]?) = ir.filterMap (fun i => L[i]?))
    (q0 : Nat) (he : wc[q0]? = some (b, .inr (ci, fs))) (hc : vwCl[ci]? = some r0) (hr0 : r0.1 = C) (hn : As.length = n) (hsize : ls.size = nL) (hstack : st0 = As.reverse ++ .ref b :: rest) (hW : (rest.map fun v => v.category).sum ≤ 8) (hdg : decode cc pc = .ok (.invokevirtual index, 3)) (hf : cells + 0 ≤ R.cells ∧ slots + 0 ≤ R.slots)
    (kk : ∀ (r : Int32) (u : S') (H1 : Heap) (locs1 : List Loc), post r u → va_P G.1 vwCl (L2 u).flatten H1 → va_D A (L2 u).flatten → va_S A H0 H1 locs1 → W p l e R s m args below meth c H1 locs1 cells slots Q (F0 m (pc + 3) ls (.int r :: rest))) : W p l e R s m args below meth c H locs cells slots Q (F0 m pc ls st0) := by
  subst hr0
  subst hwc
  have hpm := permF hN hp h1 rfl
  have hP' : va_P G.1 vwCl Lc.flatten H := wP_mem.mpr fun q hq => wP_mem.mp (wP_perm hpm hP) q (List.mem_append_left _ hq)
  have hD9 := wD_nd.mp (wD_perm hpm hD)
  have hD' : va_D A Lc.flatten := wD_nd.mpr ⟨by have h9 := hD9.1; rw [List.map_append, List.nodup_append] at h9; exact h9.1, fun q hq => hD9.2 q (List.mem_append_left _ hq)⟩
  have hF : ∀ q, wB Lc.flatten q → A q := fun q hq => by
    obtain ⟨x, hx, e⟩ := wB_mem.mp hq
    rw [← e]
    exact hD9.2 x (List.mem_append_left _ hx)
  refine va_calli (va_runV (As := As) (rest := rest) S hM cw ⟨wPre_blind, va_recv hK.1 hP' hc he, fun U hU hWm => ⟨rfl, by rw [hU]; exact hP', hK.warm hWm, hD'.weaken (fun _ _ _ _ => trivial)⟩⟩ rfl hn hsize hstack (lv_room hW) hdg hf) hS (fun q _ h => hF q h) hF (fun r u t H1 locs1 ht _ hw hB _ hk1 hS1 => ?_)
  obtain ⟨hB, hBD⟩ := hB
  rw [ht] at hB
  have hpm2 := permF (hN2 u) hp (h3 u) (h2 u)
  rw [hw1 u] at hpm2
  obtain ⟨hP1, hD1⟩ := q_joinP hP hD hpm hk1 hB hBD hpm2
  exact kk r u H1 locs1 hw hP1 hD1 hS1
theorem q_VVL {S' : Type} {post : S' → Prop} {w1 : S' → va_W} (S : CallFix p m c cc nL s args Ts own) (hM : CV l y wl rm G (.ref b :: As) wc post w1) (cw : CallW R s args own C index y bytes maxL ret wl rm 0 0 n) (hK : KK G s) (hP : va_P G.1 vwCl L.flatten H) (hD : va_D A L.flatten) (hS : va_S A H0 H locs) (is ir : List Nat) (N : Nat) (hN : L.length = N) (hp : (is ++ ir).Perm (List.range N)) (h1 : is.filterMap (fun i => L[i]?) = Lc) (hwc : Lc.flatten = wc)
    (L2 L1 : S' → List va_W) (hN2 : ∀ u, (L2 u).length = N) (h3 : ∀ u, is.filterMap (fun i => (L2 u)[i]?) = L1 u) (hw1 : ∀ u, (L1 u).flatten = w1 u) (h2 : ∀ u, ir.filterMap (fun i => (L2 u)[i]?) = ir.filterMap (fun i => L[i]?))
    (q0 : Nat) (he : wc[q0]? = some (b, .inr (ci, fs))) (hc : vwCl[ci]? = some r0) (hr0 : r0.1 = C) (hn : As.length = n) (hsize : ls.size = nL) (hstack : st0 = As.reverse ++ .ref b :: rest) (hW : (rest.map fun v => v.category).sum ≤ 8) (hdg : decode cc pc = .ok (.invokevirtual index, 3)) (hf : cells + 0 ≤ R.cells ∧ slots + 0 ≤ R.slots)
    (kk : ∀ (u : S') (H1 : Heap) (locs1 : List Loc), post u → va_P G.1 vwCl (L2 u).flatten H1 → va_D A (L2 u).flatten → va_S A H0 H1 locs1 → W p l e R s m args below meth c H1 locs1 cells slots Q (F0 m (pc + 3) ls rest)) : W p l e R s m args below meth c H locs cells slots Q (F0 m pc ls st0) := by
  subst hr0
  subst hwc
  have hpm := permF hN hp h1 rfl
  have hP' : va_P G.1 vwCl Lc.flatten H := wP_mem.mpr fun q hq => wP_mem.mp (wP_perm hpm hP) q (List.mem_append_left _ hq)
  have hD9 := wD_nd.mp (wD_perm hpm hD)
  have hD' : va_D A Lc.flatten := wD_nd.mpr ⟨by have h9 := hD9.1; rw [List.map_append, List.nodup_append] at h9; exact h9.1, fun q hq => hD9.2 q (List.mem_append_left _ hq)⟩
  have hF : ∀ q, wB Lc.flatten q → A q := fun q hq => by
    obtain ⟨x, hx, e⟩ := wB_mem.mp hq
    rw [← e]
    exact hD9.2 x (List.mem_append_left _ hx)
  refine va_callv (va_runV (As := As) (rest := rest) S hM cw ⟨wPre_blind, va_recv hK.1 hP' hc he, fun U hU hWm => ⟨rfl, by rw [hU]; exact hP', hK.warm hWm, hD'.weaken (fun _ _ _ _ => trivial)⟩⟩ rfl hn hsize hstack (lv_room hW) hdg hf) hS (fun q _ h => hF q h) hF (fun u t H1 locs1 ht _ hw hB _ hk1 hS1 => ?_)
  obtain ⟨hB, hBD⟩ := hB
  rw [ht] at hB
  have hpm2 := permF (hN2 u) hp (h3 u) (h2 u)
  rw [hw1 u] at hpm2
  obtain ⟨hP1, hD1⟩ := q_joinP hP hD hpm hk1 hB hBD hpm2
  exact kk u H1 locs1 hw hP1 hD1 hS1
end QCALLL
section QAAST
variable {p : Program} {l : Launch} {e : Env} {R : Room} {s : State} {m : MethodId} {args : Array Value} {below : List Frame} {meth : Method} {c : Code} {H : Heap} {locs : List Loc} {cells slots : Nat} {Q : State → Prop}
theorem q_aast2 {cc : ByteArray} {pc : Nat} {ls : Array Slot} {rest : List Value} {G : wG} {ws : va_W} {A : Nat → Prop} {H0 : Heap} {a n j v : Nat} {vs : List Value} {g : Nat → Option Nat} (hexec : p.tables.exec = Jvm.exec) (hb : c.code = cc) (hK : KK G s) (hP : va_P G.1 vwCl ws H) (hD : va_D A ws) (hS : va_S A H0 H locs) (q0 qk : Nat) (ha : ws[q0]? = some (a, ao G n g)) (hv : ws[qk]? = some (v, .inr (3, vs))) (hj : j < n) (hn : n < 2147483648) (hdg : decode cc pc = .ok (.aastore, 1))
    (kk : ∀ (H1 : Heap) (locs1 : List Loc), va_P G.1 vwCl (ws.set q0 (a, ao G n (va_up g j (some v)))) H1 → va_D A (ws.set q0 (a, ao G n (va_up g j (some v)))) → va_S A H0 H1 locs1 → W p l e R s m args below meth c H1 locs1 cells slots Q (F0 m (pc + 1) ls rest)) : W p l e R s m args below meth c H locs cells slots Q (F0 m pc ls (.ref v :: .int (nI j) :: .ref a :: rest)) :=
  va_astq hexec hb hK.1 hP hD hS q0 2 qk 3 (r := (RX3, TX3, 5)) ha rfl hv rfl (vp_in_nI hj hn) hdg (by rw [nI_clamp (Nat.lt_trans hj hn)]; exact kk)
end QAAST
/-- a large world: History, and all of the class -/
def wHf (G : wG) (a : HA) (u : HD) : va_W := List.flatten [[(a.1, .inr (0, [.ref a.2.1, .int (nI u.1)])), (a.2.1, ao G 4 (hf4 a.2.2.1.1 a.2.2.2.1.1 a.2.2.2.2.1.1 a.2.2.2.2.2.1))], wS G a.2.2.1 u.2.1, wS G a.2.2.2.1 u.2.2.1, wS G a.2.2.2.2.1 u.2.2.2.1, wS G a.2.2.2.2.2 u.2.2.2.2]
def wCx (G : wG) (a : CA) : va_W := [(a.1, .inr (6, [.ref a.2.1.1, .ref a.2.2.1.1, .ref a.2.2.2.1.1, .ref a.2.2.2.2.1]))]
def wCf (G : wG) (a : CA) (u : CD) : va_W := List.flatten [wCx G a, wS G a.2.1 u.1, wS G a.2.2.1 u.2.1, wHf G a.2.2.2.1 u.2.2.1, wX G a.2.2.2.2 u.2.2.2]
theorem wP_ix {D : va_G} {cl : List vw_C} {L L2 : List va_W} {H : Heap} (ix : List Nat) (N : Nat) (hN : L.length = N) (h : ix.Perm (List.range N)) (e : ix.filterMap (fun i => L[i]?) = L2) (hP : va_P D cl L.flatten H) : va_P D cl L2.flatten H := by
  rw [← e]; exact wP_perm (permL L ix (by rw [hN]; exact h)).flatten hP
theorem wD_ix {A : Nat → Prop} {L L2 : List va_W} (ix : List Nat) (N : Nat) (hN : L.length = N) (h : ix.Perm (List.range N)) (e : ix.filterMap (fun i => L[i]?) = L2) (hD : va_D A L.flatten) : va_D A L2.flatten := by
  rw [← e]; exact wD_perm (permL L ix (by rw [hN]; exact h)).flatten hD
theorem wHf_S (G : wG) (h : HA) (u : HD) (a : SA) (v : SD) : wHf G h u ++ wS G a v = List.flatten [[(h.1, .inr (0, [.ref h.2.1, .int (nI u.1)])), (h.2.1, ao G 4 (hf4 h.2.2.1.1 h.2.2.2.1.1 h.2.2.2.2.1.1 h.2.2.2.2.2.1))], wS G h.2.2.1 u.2.1, wS G h.2.2.2.1 u.2.2.1, wS G h.2.2.2.2.1 u.2.2.2.1, wS G h.2.2.2.2.2 u.2.2.2.2, wS G a v] := by
  simp only [wHf, List.flatten_cons, List.flatten_nil, List.append_nil, List.append_assoc]
