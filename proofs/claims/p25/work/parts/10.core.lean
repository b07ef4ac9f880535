/-! core: contracts of three forms (CR reads, CI and CV write the cells of their own world), rows for numbers that are Nats, calls with the frame in one row -/
abbrev wG : Type := va_G × ClassId × ClassId × ClassId × ClassId
abbrev gC (G : wG) : ClassId := G.2.1
abbrev gI (G : wG) : ClassId := G.2.2.1
abbrev gO (G : wG) : ClassId := G.2.2.2.1
abbrev gJ (G : wG) : ClassId := G.2.2.2.2
abbrev gT (G : wG) : List (ClassId × FieldType) := [(gC G, .char), (gI G, .int), (gO G, .object RX3), (gJ G, .long)]
def wNest : List (String × Nat × MethodName × String) := [(RX3, 11, yX2_init, RX6), (RX3, 20, yX1_init, RX6), (RX3, 33, yX5_init, RX6), (RX1, 26, yX6_isLength, RX6), (RX6, 28, yX4_init, RX6), (RX4, 17, yX1_init, RX6)]
def KK (G : wG) (U : State) : Prop := va_K G.1 vwCl (gT G) U ∧ ∀ q ∈ wNest, va_Nw (.methodLinkNest q.1 q.2.1 q.2.2.1 q.2.2.2) U
theorem KK.warm {G : wG} {s U : State} (hW : s.WarmedH U.vm) (h : KK G s) : KK G U := ⟨va_K.moved hW.alike h.1, fun q hq => va_Nw.warmM hW (h.2 q hq)⟩
theorem KK.call {G : wG} {U : State} {g : JFrame} {mk : MethodId} {a : Array Value} (h : KK G U) : KK G (U.calling g mk a) := ⟨va_K.moved (u := U) (U := U.calling g mk a) (Vm.Alike.refl U.vm) h.1, fun q hq => va_Nw.same rfl (u := U) (U := U.calling g mk a) rfl (h.2 q hq)⟩
abbrev ai (G : wG) (n : Nat) (f : Nat → Int32) : va_E := .inl (gI G, n, .inl f)
abbrev ac (G : wG) (n : Nat) (f : Nat → Int32) : va_E := .inl (gC G, n, .inl f)
abbrev al (G : wG) (n : Nat) (f : Nat → Int64) : va_E := .inl (gJ G, n, .inr (.inl f))
abbrev ao (G : wG) (n : Nat) (f : Nat → Option Nat) : va_E := .inl (gO G, n, .inr (.inr (.inr (.inr f))))
/-- the addresses of a world -/
def wB (ws : va_W) : Nat → Prop := fun q => ∃ (k : Nat) (e : va_E), ws[k]? = some (q, e)
theorem wB.in {ws : va_W} {k : Nat} {q : Nat × va_E} (h : ws[k]? = some q) : wB ws q.1 := ⟨k, q.2, h⟩
theorem wD_self {ws : va_W} {A : Nat → Prop} (h : va_D A ws) : va_D (wB ws) ws := ⟨h.1, fun _ _ hk => wB.in hk⟩
/-- some cells of a world put in the place of others -/
def wR : va_W → List Nat → va_W → va_W
  | ws, i :: is, x :: xs => wR (ws.set i x) is xs
  | ws, _, _ => ws
theorem wR_get : ∀ (is : List Nat) (xs ws : va_W), is.length = xs.length → ∀ (k : Nat) (q : Nat × va_E), (wR ws is xs)[k]? = some q → (∃ j : Nat, is[j]? = some k ∧ xs[j]? = some q) ∨ (k ∉ is ∧ ws[k]? = some q)
  | [], [], ws, _, k, q, h => Or.inr ⟨List.not_mem_nil, h⟩
  | [], x :: xs, ws, hl, _, _, _ => by simp at hl
  | i :: is, [], ws, hl, _, _, _ => by simp at hl
  | i :: is, x :: xs, ws, hl, k, q, h => by
    rcases wR_get is xs (ws.set i x) (by simpa using hl) k q h with ⟨j, h1, h2⟩ | ⟨h1, h2⟩
    · exact Or.inl ⟨j + 1, by simpa using h1, by simpa using h2⟩
    · by_cases hk : k = i
      · subst hk
        have hlt : k < ws.length := by
          have := (List.getElem?_eq_some_iff.mp h2).1
          simpa using this
        rw [List.getElem?_set_self hlt] at h2
        cases h2
        exact Or.inl ⟨0, by simp, by simp⟩
      · rw [List.getElem?_set_ne (fun e => hk e.symm)] at h2
        exact Or.inr ⟨by simp [hk, h1], h2⟩
theorem wD_map {A : Nat → Prop} {ws ws' : va_W} (hD : va_D A ws) (h : ∀ (k : Nat) (q : Nat × va_E), ws'[k]? = some q → ∃ q0, ws[k]? = some q0 ∧ q0.1 = q.1) : va_D A ws' := by
  refine ⟨fun i j x y hi hj hxy => ?_, fun k q hk => ?_⟩
  · obtain ⟨x0, h1, h2⟩ := h i x hi
    obtain ⟨y0, h3, h4⟩ := h j y hj
    exact hD.1 i j x0 y0 h1 h3 (h2.trans (hxy.trans h4.symm))
  · obtain ⟨q0, h1, h2⟩ := h k q hk
    rw [← h2]
    exact hD.2 k q0 h1
theorem wIs {ws wc : va_W} {is : List Nat} (hC : is.map (fun i => ws[i]?) = wc.map some) : ∀ (j i : Nat), is[j]? = some i → ∃ q, wc[j]? = some q ∧ ws[i]? = some q := by
  intro j i hj
  have h1 : (is.map (fun i => ws[i]?))[j]? = some (ws[i]?) := by rw [List.getElem?_map, hj]; rfl
  rw [hC, List.getElem?_map] at h1
  cases hw : wc[j]? with
  | none => rw [hw] at h1; cases h1
  | some q => rw [hw] at h1; exact ⟨q, rfl, (Option.some.inj h1).symm⟩
theorem wIs2 {ws wc : va_W} {is : List Nat} (hC : is.map (fun i => ws[i]?) = wc.map some) : ∀ (j : Nat) (q : Nat × va_E), wc[j]? = some q → ∃ i, is[j]? = some i ∧ ws[i]? = some q := by
  intro j q hj
  have h1 : (wc.map some)[j]? = some (some q) := by rw [List.getElem?_map, hj]; rfl
  rw [← hC, List.getElem?_map] at h1
  cases hw : is[j]? with
  | none => rw [hw] at h1; cases h1
  | some i => rw [hw] at h1; exact ⟨i, rfl, Option.some.inj h1⟩
theorem wP_sub {D : va_G} {cl : List vw_C} {ws wc : va_W} {H : Heap} (h : va_P D cl ws H) {is : List Nat} (hC : is.map (fun i => ws[i]?) = wc.map some) : va_P D cl wc H := fun k q hk => by
  obtain ⟨i, -, h2⟩ := wIs2 hC k q hk
  exact h i q h2
theorem wF_sub {A0 : Nat → Prop} {ws wc : va_W} (hD : va_D A0 ws) {is : List Nat} (hC : is.map (fun i => ws[i]?) = wc.map some) : ∀ q, wB wc q → A0 q := by
  rintro q ⟨j, e, hj⟩
  obtain ⟨i, -, h4⟩ := wIs2 hC j _ hj
  exact hD.2 i _ h4
/-- behind a call: the callee's cells in their old places, the others as they were -/
theorem q_join {A0 : Nat → Prop} {D : va_G} {cl : List vw_C} {ws wc w1 : va_W} {H H1 : Heap} (hP : va_P D cl ws H) (hD : va_D A0 ws) {is : List Nat} (hC : is.map (fun i => ws[i]?) = wc.map some) (ha : w1.length = wc.length)
    (hk : ∀ q : Nat, q < H.size → ¬ wB wc q → H1[q]? = H[q]?) (hP1 : va_P D cl w1 H1) (hD1 : va_D (wB wc) w1) : va_P D cl (wR ws is w1) H1 ∧ va_D A0 (wR ws is w1) := by
  have hl : is.length = w1.length := by
    have h1 := congrArg List.length hC
    simp only [List.length_map] at h1
    omega
  have old : ∀ (k : Nat) (q : Nat × va_E), k ∉ is → ws[k]? = some q → ¬ wB wc q.1 := by
    rintro k q h1 h2 ⟨j, e, hj⟩
    obtain ⟨i, h3, h4⟩ := wIs2 hC j _ hj
    have := hD.1 k i q _ h2 h4 rfl
    subst this
    exact h1 (List.mem_of_getElem? h3)
  refine ⟨fun k q hkq => ?_, fun i j x y hi hj hxy => ?_, fun k q hkq => ?_⟩
  · rcases wR_get is w1 ws hl k q hkq with ⟨j, h1, h2⟩ | ⟨h1, h2⟩
    · exact hP1 j q h2
    · exact (hP k q h2).kept (hk q.1 (hP k q h2).lt (old k q h1 h2))
  · rcases wR_get is w1 ws hl i x hi with ⟨a, h1, h2⟩ | ⟨h1, h2⟩ <;> rcases wR_get is w1 ws hl j y hj with ⟨b, h3, h4⟩ | ⟨h3, h4⟩
    · have := hD1.1 a b x y h2 h4 hxy
      subst this
      rw [h1] at h3
      exact Option.some.inj h3
    · exact absurd (hxy ▸ hD1.2 a x h2) (old j y h3 h4)
    · exact absurd (hxy ▸ hD1.2 b y h4) (old i x h1 h2)
    · exact hD.1 i j x y h2 h4 hxy
  · rcases wR_get is w1 ws hl k q hkq with ⟨j, h1, h2⟩ | ⟨h1, h2⟩
    · exact wF_sub hD hC _ (hD1.2 j q h2)
    · exact hD.2 k q h2
def wPre (G : wG) (av : List Value) (ws : va_W) : Array Value → State → Prop := va_Pc av (fun U => va_P G.1 vwCl ws U.heap ∧ KK G U ∧ va_D (fun _ => True) ws)
def wPrR (G : wG) (av : List Value) (ws : va_W) : Array Value → State → Prop := va_Pc av (fun U => va_P G.1 vwCl ws U.heap ∧ KK G U)
theorem wPre_blind {G : wG} {av : List Value} {ws : va_W} : FrameBlind (wPre G av ws) := fun _ _ _ _ q => ⟨q.1, q.2.1, q.2.2.1.call, q.2.2.2⟩
theorem wPrR_blind {G : wG} {av : List Value} {ws : va_W} : FrameBlind (wPrR G av ws) := fun _ _ _ _ q => ⟨q.1, q.2.1, q.2.2.call⟩
abbrev rm (f n : Nat) : Room := { frames := f, cells := 0, slots := 0, locals := n }
/-- a contract that reads: the answer alone -/
def CR (l : Launch) (y : MethodName) (wl : List Cond) (rm : Room) (G : wG) (av : List Value) (ws : va_W) (post : Int32 → Prop) : Prop := Met l y wl rm (wPrR G av ws) (vp_Si post) 0 0 (fun _ => False)
/-- a contract that writes its world, and answers -/
def CI {S : Type} (l : Launch) (y : MethodName) (wl : List Cond) (rm : Room) (G : wG) (av : List Value) (ws : va_W) (post : Int32 → S → Prop) (w1 : S → va_W) : Prop := Met l y wl rm (wPre G av ws) (va_Qi post (fun u t => va_P G.1 vwCl (w1 u) t.heap ∧ va_D (wB ws) (w1 u)) (wB ws)) 0 0 (wB ws)
def CV {S : Type} (l : Launch) (y : MethodName) (wl : List Cond) (rm : Room) (G : wG) (av : List Value) (ws : va_W) (post : S → Prop) (w1 : S → va_W) : Prop := Met l y wl rm (wPre G av ws) (va_Qv post (fun u t => va_P G.1 vwCl (w1 u) t.heap ∧ va_D (wB ws) (w1 u)) (wB ws)) 0 0 (wB ws)
section QOF
variable {l : Launch} {y : MethodName} {wl wl' : List Cond} {rm : Room} {G : wG} {av : List Value} {ws : va_W} {cc : ByteArray} {maxL : Nat} {own : String}
theorem CR.of {post : Int32 → Prop} (hw : wl = .code y cc maxL (some .int) :: wl') (hy : plainName y.cls = true) (ho : y.cls = own) (hn : (lg_sl av).length ≤ maxL)
    (body : ∀ (p : Program) (e : Env) (s : State) (m : MethodId) (below : List Frame) (meth : Method) (c : Code), p.tables.exec = Jvm.exec → c.code = cc → c.maxLocals = maxL → s.vm.findClass own = some m.cls → (∀ w ∈ wl, w.before av.toArray s = true) → KK G s → va_P G.1 vwCl ws s.heap →
      ∀ Q : State → Prop, (∀ (pc : Nat) (ls : Array Slot) (v : Int32), post v → decode cc pc = .ok (.ireturn, 1) → W p l e rm s m av.toArray below meth c s.heap [] 0 0 Q (F0 m pc ls [.int v])) →
      ∀ ls : Array Slot, lv_has ls maxL (lv_args 0 av) → W p l e rm s m av.toArray below meth c s.heap [] 0 0 Q (F0 m 0 ls [])) : CR l y wl rm G av ws post := by
  refine Met.ofW (cc := cc) (maxL := maxL) (ret := some .int) hy hw ?_
  intro p e s m args below meth c s₁ B hml hv
  obtain ⟨rfl, hP, hK⟩ := hv
  have hlocks := B.notSynchronized
  rw [lg_entry_eq]
  exact body p e s m below meth c B.exec B.bytes hml (by rw [← ho]; exact findClass_of_methodNamed B.named) (atoms_spec (ws := wl) B.pre) hK hP _
    (fun pc ls v hp hd => W.iret (v := v) B.exec B.bytes B.returns (fun t ht _ => ⟨v, rfl, hp, ht⟩) (fun _ h => by cases h) hd) _ (lv_entry av hn)
theorem CR.ofZ {post : Int32 → Prop} (hw : wl = .code y cc maxL (some .boolean) :: wl') (hy : plainName y.cls = true) (ho : y.cls = own) (hn : (lg_sl av).length ≤ maxL)
    (body : ∀ (p : Program) (e : Env) (s : State) (m : MethodId) (below : List Frame) (meth : Method) (c : Code), p.tables.exec = Jvm.exec → c.code = cc → c.maxLocals = maxL → s.vm.findClass own = some m.cls → (∀ w ∈ wl, w.before av.toArray s = true) → KK G s → va_P G.1 vwCl ws s.heap →
      ∀ Q : State → Prop, (∀ (pc : Nat) (ls : Array Slot) (v : Int32), post v → narrow .boolean (.int v) = .int v → decode cc pc = .ok (.ireturn, 1) → W p l e rm s m av.toArray below meth c s.heap [] 0 0 Q (F0 m pc ls [.int v])) →
      ∀ ls : Array Slot, lv_has ls maxL (lv_args 0 av) → W p l e rm s m av.toArray below meth c s.heap [] 0 0 Q (F0 m 0 ls [])) : CR l y wl rm G av ws post := by
  refine Met.ofW (cc := cc) (maxL := maxL) (ret := some .boolean) hy hw ?_
  intro p e s m args below meth c s₁ B hml hv
  obtain ⟨rfl, hP, hK⟩ := hv
  have hlocks := B.notSynchronized
  rw [lg_entry_eq]
  exact body p e s m below meth c B.exec B.bytes hml (by rw [← ho]; exact findClass_of_methodNamed B.named) (atoms_spec (ws := wl) B.pre) hK hP _
    (fun pc ls v hp hz hd => W.zret (v := v) B.exec B.bytes B.returns hz (fun t ht _ => ⟨v, rfl, hp, ht⟩) (fun _ h => by cases h) hd) _ (lv_entry av hn)
theorem CI.of {S : Type} {post : Int32 → S → Prop} {w1 : S → va_W} (hw : wl = .code y cc maxL (some .int) :: wl') (hy : plainName y.cls = true) (ho : y.cls = own) (hn : (lg_sl av).length ≤ maxL)
    (body : ∀ (p : Program) (e : Env) (s : State) (m : MethodId) (below : List Frame) (meth : Method) (c : Code) (A : Nat → Prop), p.tables.exec = Jvm.exec → c.code = cc → c.maxLocals = maxL → s.vm.findClass own = some m.cls → (∀ w ∈ wl, w.before av.toArray s = true) → KK G s → va_P G.1 vwCl ws s.heap → va_D A ws →
      ∀ Q : State → Prop, (∀ (H : Heap) (locs : List Loc) (pc : Nat) (ls : Array Slot) (v : Int32) (u : S), post v u → va_P G.1 vwCl (w1 u) H → va_D A (w1 u) → va_S A s.heap H locs → decode cc pc = .ok (.ireturn, 1) → W p l e rm s m av.toArray below meth c H locs 0 0 Q (F0 m pc ls [.int v])) →
      va_S A s.heap s.heap [] → ∀ ls : Array Slot, lv_has ls maxL (lv_args 0 av) → W p l e rm s m av.toArray below meth c s.heap [] 0 0 Q (F0 m 0 ls [])) : CI l y wl rm G av ws post w1 := by
  refine Met.ofW (cc := cc) (maxL := maxL) (ret := some .int) hy hw ?_
  intro p e s m args below meth c s₁ B hml hv
  obtain ⟨rfl, hP, hK, hD⟩ := hv
  have hlocks := B.notSynchronized
  rw [lg_entry_eq]
  exact body p e s m below meth c (wB ws) B.exec B.bytes hml (by rw [← ho]; exact findClass_of_methodNamed B.named) (atoms_spec (ws := wl) B.pre) hK hP (wD_self hD) _
    (fun H locs pc ls v u hp hP1 hD1 hS hd => W.iret (v := v) B.exec B.bytes B.returns (fun t ht _ => ⟨⟨v, u, rfl, hp, by rw [ht]; exact hP1, hD1⟩, hS.F ht⟩) hS.2.2 hd) va_S.rf _ (lv_entry av hn)
theorem CI.ofZ {S : Type} {post : Int32 → S → Prop} {w1 : S → va_W} (hw : wl = .code y cc maxL (some .boolean) :: wl') (hy : plainName y.cls = true) (ho : y.cls = own) (hn : (lg_sl av).length ≤ maxL)
    (body : ∀ (p : Program) (e : Env) (s : State) (m : MethodId) (below : List Frame) (meth : Method) (c : Code) (A : Nat → Prop), p.tables.exec = Jvm.exec → c.code = cc → c.maxLocals = maxL → s.vm.findClass own = some m.cls → (∀ w ∈ wl, w.before av.toArray s = true) → KK G s → va_P G.1 vwCl ws s.heap → va_D A ws →
      ∀ Q : State → Prop, (∀ (H : Heap) (locs : List Loc) (pc : Nat) (ls : Array Slot) (v : Int32) (u : S), post v u → narrow .boolean (.int v) = .int v → va_P G.1 vwCl (w1 u) H → va_D A (w1 u) → va_S A s.heap H locs → decode cc pc = .ok (.ireturn, 1) → W p l e rm s m av.toArray below meth c H locs 0 0 Q (F0 m pc ls [.int v])) →
      va_S A s.heap s.heap [] → ∀ ls : Array Slot, lv_has ls maxL (lv_args 0 av) → W p l e rm s m av.toArray below meth c s.heap [] 0 0 Q (F0 m 0 ls [])) : CI l y wl rm G av ws post w1 := by
  refine Met.ofW (cc := cc) (maxL := maxL) (ret := some .boolean) hy hw ?_
  intro p e s m args below meth c s₁ B hml hv
  obtain ⟨rfl, hP, hK, hD⟩ := hv
  have hlocks := B.notSynchronized
  rw [lg_entry_eq]
  exact body p e s m below meth c (wB ws) B.exec B.bytes hml (by rw [← ho]; exact findClass_of_methodNamed B.named) (atoms_spec (ws := wl) B.pre) hK hP (wD_self hD) _
    (fun H locs pc ls v u hp hz hP1 hD1 hS hd => W.zret (v := v) B.exec B.bytes B.returns hz (fun t ht _ => ⟨⟨v, u, rfl, hp, by rw [ht]; exact hP1, hD1⟩, hS.F ht⟩) hS.2.2 hd) va_S.rf _ (lv_entry av hn)
theorem CV.of {S : Type} {post : S → Prop} {w1 : S → va_W} (hw : wl = .code y cc maxL none :: wl') (hy : plainName y.cls = true) (ho : y.cls = own) (hn : (lg_sl av).length ≤ maxL)
    (body : ∀ (p : Program) (e : Env) (s : State) (m : MethodId) (below : List Frame) (meth : Method) (c : Code) (A : Nat → Prop), p.tables.exec = Jvm.exec → c.code = cc → c.maxLocals = maxL → s.vm.findClass own = some m.cls → (∀ w ∈ wl, w.before av.toArray s = true) → KK G s → va_P G.1 vwCl ws s.heap → va_D A ws →
      ∀ Q : State → Prop, (∀ (H : Heap) (locs : List Loc) (pc : Nat) (ls : Array Slot) (u : S), post u → va_P G.1 vwCl (w1 u) H → va_D A (w1 u) → va_S A s.heap H locs → decode cc pc = .ok (.return_, 1) → W p l e rm s m av.toArray below meth c H locs 0 0 Q (F0 m pc ls [])) →
      va_S A s.heap s.heap [] → ∀ ls : Array Slot, lv_has ls maxL (lv_args 0 av) → W p l e rm s m av.toArray below meth c s.heap [] 0 0 Q (F0 m 0 ls [])) : CV l y wl rm G av ws post w1 := by
  refine Met.ofW (cc := cc) (maxL := maxL) (ret := none) hy hw ?_
  intro p e s m args below meth c s₁ B hml hv
  obtain ⟨rfl, hP, hK, hD⟩ := hv
  have hlocks := B.notSynchronized
  rw [lg_entry_eq]
  exact body p e s m below meth c (wB ws) B.exec B.bytes hml (by rw [← ho]; exact findClass_of_methodNamed B.named) (atoms_spec (ws := wl) B.pre) hK hP (wD_self hD) _
    (fun H locs pc ls u hp hP1 hD1 hS hd => W.vret B.exec B.bytes B.returns (fun t ht _ => ⟨⟨u, rfl, hp, by rw [ht]; exact hP1, hD1⟩, hS.F ht⟩) hS.2.2 hd) va_S.rf _ (lv_entry av hn)
end QOF
section QCALL
variable {p : Program} {l : Launch} {e : Env} {R : Room} {s : State} {m : MethodId} {args : Array Value} {below : List Frame} {meth : Method} {c : Code} {H : Heap} {locs : List Loc} {cells slots : Nat} {Q : State → Prop}
variable {pc : Nat} {ls : Array Slot} {rest st0 : List Value} {A : Nat → Prop} {H0 : Heap} {G : wG} {ws wc : va_W} {cc bytes : ByteArray} {nL maxL n index : Nat} {Ts wl : List Cond} {own C host : String} {y : MethodName} {ret : Option FieldType} {rm : Room} {As : List Value} {b q0 ci : Nat} {fs : List Value} {r0 : vw_C}
/-- a call of a virtual method that reads -/
theorem q_VR {post : Int32 → Prop} (S : CallFix p m c cc nL s args Ts own) (hM : CR l y wl rm G (.ref b :: As) wc post) (cw : CallW R s args own C index y bytes maxL ret wl rm 0 0 n) (hK : KK G s) (hP : va_P G.1 vwCl ws H) (is : List Nat) (hC : is.map (fun i => ws[i]?) = wc.map some)
    (q0 : Nat) (he : wc[q0]? = some (b, .inr (ci, fs))) (hc : vwCl[ci]? = some r0) (hr0 : r0.1 = C) (hn : As.length = n) (hsize : ls.size = nL) (hstack : st0 = As.reverse ++ .ref b :: rest) (hW : (rest.map fun v => v.category).sum ≤ 8) (hdg : decode cc pc = .ok (.invokevirtual index, 3)) (hf : cells + 0 ≤ R.cells ∧ slots + 0 ≤ R.slots)
    (kk : ∀ r : Int32, post r → W p l e R s m args below meth c H locs cells slots Q (F0 m (pc + 3) ls (.int r :: rest))) : W p l e R s m args below meth c H locs cells slots Q (F0 m pc ls st0) := by
  subst hr0
  exact vp_callSi (va_runV (As := As) (rest := rest) S hM cw ⟨wPrR_blind, va_recv hK.1 (wP_sub hP hC) hc he, fun U hU hWm => ⟨rfl, by rw [hU]; exact wP_sub hP hC, hK.warm hWm⟩⟩ rfl hn hsize hstack (lv_room hW) hdg hf).run kk
theorem q_SR {post : Int32 → Prop} (S : CallFix p m c cc nL s args Ts own) (hM : CR l y wl rm G As wc post) (cw : CallB R s args own index y bytes maxL ret wl rm 0 0 n ∧ (Cond.static y).before args s = true) (hK : KK G s) (hP : va_P G.1 vwCl ws H) (is : List Nat) (hC : is.map (fun i => ws[i]?) = wc.map some)
    (hn : As.length = n) (hsize : ls.size = nL) (hstack : st0 = As.reverse ++ rest) (hW : (rest.map fun v => v.category).sum ≤ 8) (hdg : decode cc pc = .ok (.invokestatic index, 3)) (hf : cells + 0 ≤ R.cells ∧ slots + 0 ≤ R.slots)
    (kk : ∀ r : Int32, post r → W p l e R s m args below meth c H locs cells slots Q (F0 m (pc + 3) ls (.int r :: rest))) : W p l e R s m args below meth c H locs cells slots Q (F0 m pc ls st0) :=
  vp_callSi (va_runS (As := As) (rest := rest) S hM cw ⟨wPrR_blind, fun U hU hWm => ⟨rfl, by rw [hU]; exact wP_sub hP hC, hK.warm hWm⟩⟩ rfl hn hsize hstack (lv_room hW) hdg hf).run kk
theorem q_NR {post : Int32 → Prop} (S : CallFix p m c cc nL s args Ts own) (hM : CR l y wl rm G As wc post) (cw : va_CN R s args own index y host bytes maxL ret wl rm 0 0 n ∧ (Cond.static y).before args s = true) (hK : KK G s) (hP : va_P G.1 vwCl ws H) (is : List Nat) (hC : is.map (fun i => ws[i]?) = wc.map some)
    (hn : As.length = n) (hsize : ls.size = nL) (hstack : st0 = As.reverse ++ rest) (hW : (rest.map fun v => v.category).sum ≤ 8) (hdg : decode cc pc = .ok (.invokestatic index, 3)) (hf : cells + 0 ≤ R.cells ∧ slots + 0 ≤ R.slots)
    (kk : ∀ r : Int32, post r → W p l e R s m args below meth c H locs cells slots Q (F0 m (pc + 3) ls (.int r :: rest))) : W p l e R s m args below meth c H locs cells slots Q (F0 m pc ls st0) :=
  vp_callSi (va_runSN (As := As) (rest := rest) S hM ⟨cw.1, cw.2, trivial⟩ ⟨wPrR_blind, fun U hU hWm => ⟨rfl, by rw [hU]; exact wP_sub hP hC, hK.warm hWm⟩⟩ rfl hn hsize hstack (lv_room hW) hdg hf).run kk
theorem q_VI {S' : Type} {post : Int32 → S' → Prop} {w1 : S' → va_W} (S : CallFix p m c cc nL s args Ts own) (hM : CI l y wl rm G (.ref b :: As) wc post w1) (cw : CallW R s args own C index y bytes maxL ret wl rm 0 0 n) (hK : KK G s) (hP : va_P G.1 vwCl ws H) (hD : va_D A ws) (hS : va_S A H0 H locs) (is : List Nat) (hC : is.map (fun i => ws[i]?) = wc.map some) (hnd : va_nd is = true) (ha : ∀ u, (w1 u).length = wc.length)
    (q0 : Nat) (he : wc[q0]? = some (b, .inr (ci, fs))) (hc : vwCl[ci]? = some r0) (hr0 : r0.1 = C) (hn : As.length = n) (hsize : ls.size = nL) (hstack : st0 = As.reverse ++ .ref b :: rest) (hW : (rest.map fun v => v.category).sum ≤ 8) (hdg : decode cc pc = .ok (.invokevirtual index, 3)) (hf : cells + 0 ≤ R.cells ∧ slots + 0 ≤ R.slots)
    (kk : ∀ (r : Int32) (u : S') (H1 : Heap) (locs1 : List Loc), post r u → va_P G.1 vwCl (wR ws is (w1 u)) H1 → va_D A (wR ws is (w1 u)) → va_S A H0 H1 locs1 → W p l e R s m args below meth c H1 locs1 cells slots Q (F0 m (pc + 3) ls (.int r :: rest))) : W p l e R s m args below meth c H locs cells slots Q (F0 m pc ls st0) := by
  subst hr0
  refine va_calli (va_runV (As := As) (rest := rest) S hM cw ⟨wPre_blind, va_recv hK.1 (wP_sub hP hC) hc he, fun U hU hWm => ⟨rfl, by rw [hU]; exact wP_sub hP hC, hK.warm hWm, (hD.sub is hnd hC).weaken (fun _ _ _ _ => trivial)⟩⟩ rfl hn hsize hstack (lv_room hW) hdg hf) hS (fun q _ h => wF_sub hD hC q h) (wF_sub hD hC) (fun r u t H1 locs1 ht _ hw hB _ hk1 hS1 => ?_)
  obtain ⟨hB, hBD⟩ := hB
  rw [ht] at hB
  obtain ⟨hP1, hD1⟩ := q_join hP hD hC (ha u) hk1 hB hBD
  exact kk r u H1 locs1 hw hP1 hD1 hS1
theorem q_VV {S' : Type} {post : S' → Prop} {w1 : S' → va_W} (S : CallFix p m c cc nL s args Ts own) (hM : CV l y wl rm G (.ref b :: As) wc post w1) (cw : CallW R s args own C index y bytes maxL ret wl rm 0 0 n) (hK : KK G s) (hP : va_P G.1 vwCl ws H) (hD : va_D A ws) (hS : va_S A H0 H locs) (is : List Nat) (hC : is.map (fun i => ws[i]?) = wc.map some) (hnd : va_nd is = true) (ha : ∀ u, (w1 u).length = wc.length)
    (q0 : Nat) (he : wc[q0]? = some (b, .inr (ci, fs))) (hc : vwCl[ci]? = some r0) (hr0 : r0.1 = C) (hn : As.length = n) (hsize : ls.size = nL) (hstack : st0 = As.reverse ++ .ref b :: rest) (hW : (rest.map fun v => v.category).sum ≤ 8) (hdg : decode cc pc = .ok (.invokevirtual index, 3)) (hf : cells + 0 ≤ R.cells ∧ slots + 0 ≤ R.slots)
    (kk : ∀ (u : S') (H1 : Heap) (locs1 : List Loc), post u → va_P G.1 vwCl (wR ws is (w1 u)) H1 → va_D A (wR ws is (w1 u)) → va_S A H0 H1 locs1 → W p l e R s m args below meth c H1 locs1 cells slots Q (F0 m (pc + 3) ls rest)) : W p l e R s m args below meth c H locs cells slots Q (F0 m pc ls st0) := by
  subst hr0
  refine va_callv (va_runV (As := As) (rest := rest) S hM cw ⟨wPre_blind, va_recv hK.1 (wP_sub hP hC) hc he, fun U hU hWm => ⟨rfl, by rw [hU]; exact wP_sub hP hC, hK.warm hWm, (hD.sub is hnd hC).weaken (fun _ _ _ _ => trivial)⟩⟩ rfl hn hsize hstack (lv_room hW) hdg hf) hS (fun q _ h => wF_sub hD hC q h) (wF_sub hD hC) (fun u t H1 locs1 ht _ hw hB _ hk1 hS1 => ?_)
  obtain ⟨hB, hBD⟩ := hB
  rw [ht] at hB
  obtain ⟨hP1, hD1⟩ := q_join hP hD hC (ha u) hk1 hB hBD
  exact kk u H1 locs1 hw hP1 hD1 hS1
theorem q_SV {S' : Type} {post : S' → Prop} {w1 : S' → va_W} (S : CallFix p m c cc nL s args Ts own) (hM : CV l y wl rm G As wc post w1) (cw : CallB R s args own index y bytes maxL ret wl rm 0 0 n ∧ (Cond.static y).before args s = true) (hK : KK G s) (hP : va_P G.1 vwCl ws H) (hD : va_D A ws) (hS : va_S A H0 H locs) (is : List Nat) (hC : is.map (fun i => ws[i]?) = wc.map some) (hnd : va_nd is = true) (ha : ∀ u, (w1 u).length = wc.length)
    (hn : As.length = n) (hsize : ls.size = nL) (hstack : st0 = As.reverse ++ rest) (hW : (rest.map fun v => v.category).sum ≤ 8) (hdg : decode cc pc = .ok (.invokestatic index, 3)) (hf : cells + 0 ≤ R.cells ∧ slots + 0 ≤ R.slots)
    (kk : ∀ (u : S') (H1 : Heap) (locs1 : List Loc), post u → va_P G.1 vwCl (wR ws is (w1 u)) H1 → va_D A (wR ws is (w1 u)) → va_S A H0 H1 locs1 → W p l e R s m args below meth c H1 locs1 cells slots Q (F0 m (pc + 3) ls rest)) : W p l e R s m args below meth c H locs cells slots Q (F0 m pc ls st0) := by
  refine va_callv (va_runS (As := As) (rest := rest) S hM cw ⟨wPre_blind, fun U hU hWm => ⟨rfl, by rw [hU]; exact wP_sub hP hC, hK.warm hWm, (hD.sub is hnd hC).weaken (fun _ _ _ _ => trivial)⟩⟩ rfl hn hsize hstack (lv_room hW) hdg hf) hS (fun q _ h => wF_sub hD hC q h) (wF_sub hD hC) (fun u t H1 locs1 ht _ hw hB _ hk1 hS1 => ?_)
  obtain ⟨hB, hBD⟩ := hB
  rw [ht] at hB
  obtain ⟨hP1, hD1⟩ := q_join hP hD hC (ha u) hk1 hB hBD
  exact kk u H1 locs1 hw hP1 hD1 hS1
end QCALL
section QNUM
variable {p : Program} {l : Launch} {e : Env} {R : Room} {s : State} {m : MethodId} {args : Array Value} {below : List Frame} {meth : Method} {c : Code} {H : Heap} {locs : List Loc} {cells slots : Nat} {Q : State → Prop}
variable {cc : ByteArray} {pc : Nat} {ls : Array Slot} {rest : List Value}
theorem q_eq {x y : Int32} (h : x = y) (k : W p l e R s m args below meth c H locs cells slots Q (F0 m pc ls (.int y :: rest))) : W p l e R s m args below meth c H locs cells slots Q (F0 m pc ls (.int x :: rest)) := by rw [h]; exact k
theorem q_iadd {a b : Nat} (hexec : p.tables.exec = Jvm.exec) (hb : c.code = cc) (hdg : decode cc pc = .ok (.iadd, 1)) (k : W p l e R s m args below meth c H locs cells slots Q (F0 m (pc + 1) ls (.int (nI (a + b)) :: rest))) : W p l e R s m args below meth c H locs cells slots Q (F0 m pc ls (.int (nI b) :: .int (nI a) :: rest)) :=
  lv_iadd hexec hb hdg (by rw [nI_add]; exact k)
theorem q_isub {a b : Nat} (hexec : p.tables.exec = Jvm.exec) (hb : c.code = cc) (hdg : decode cc pc = .ok (.isub, 1)) (h : b ≤ a) (k : W p l e R s m args below meth c H locs cells slots Q (F0 m (pc + 1) ls (.int (nI (a - b)) :: rest))) : W p l e R s m args below meth c H locs cells slots Q (F0 m pc ls (.int (nI b) :: .int (nI a) :: rest)) :=
  lv_isub hexec hb hdg (by rw [pk_sub h]; exact k)
theorem q_imul {a b : Nat} (hexec : p.tables.exec = Jvm.exec) (hb : c.code = cc) (hdg : decode cc pc = .ok (.imul, 1)) (k : W p l e R s m args below meth c H locs cells slots Q (F0 m (pc + 1) ls (.int (nI (a * b)) :: rest))) : W p l e R s m args below meth c H locs cells slots Q (F0 m pc ls (.int (nI b) :: .int (nI a) :: rest)) :=
  lv_imul hexec hb hdg (by rw [pk_mul]; exact k)
theorem q_idiv {a b : Nat} (hexec : p.tables.exec = Jvm.exec) (hb : c.code = cc) (hdg : decode cc pc = .ok (.idiv, 1)) (ha : a < 2147483648) (h0 : 0 < b) (hb2 : b < 2147483648) (k : W p l e R s m args below meth c H locs cells slots Q (F0 m (pc + 1) ls (.int (nI (a / b)) :: rest))) : W p l e R s m args below meth c H locs cells slots Q (F0 m pc ls (.int (nI b) :: .int (nI a) :: rest)) :=
  lv_idiv hexec hb hdg (nI_ne0 h0 hb2) (by rw [pk_div ha h0 hb2]; exact k)
theorem nI_dlt {a b : Nat} (ha : a < 2147483648) (hb : b < 2147483648) : nI a < nI b ↔ a < b := nI_ltI ha hb
theorem nI_dle {a b : Nat} (ha : a < 2147483648) (hb : b < 2147483648) : nI a ≤ nI b ↔ a ≤ b := nI_leI ha hb
theorem q_icmp_lt {a b : Nat} (hexec : p.tables.exec = Jvm.exec) (hb : c.code = cc) {off : Int} {tgt : Nat} (hdg : decode cc pc = .ok (.if_icmp .lt off, 3)) (ht : (pc : Int) + off = (tgt : Int)) (ha : a < 2147483648) (hb2 : b < 2147483648) (k1 : a < b → W p l e R s m args below meth c H locs cells slots Q (F0 m tgt ls rest)) (k2 : b ≤ a → W p l e R s m args below meth c H locs cells slots Q (F0 m (pc + 3) ls rest)) : W p l e R s m args below meth c H locs cells slots Q (F0 m pc ls (.int (nI b) :: .int (nI a) :: rest)) :=
  lv_icmp_lt hexec hb hdg ht (fun h => k1 ((nI_ltI ha hb2).mp h)) (fun h => k2 (Nat.not_lt.mp (fun q => h ((nI_ltI ha hb2).mpr q))))
theorem q_icmp_ge {a b : Nat} (hexec : p.tables.exec = Jvm.exec) (hb : c.code = cc) {off : Int} {tgt : Nat} (hdg : decode cc pc = .ok (.if_icmp .ge off, 3)) (ht : (pc : Int) + off = (tgt : Int)) (ha : a < 2147483648) (hb2 : b < 2147483648) (k1 : b ≤ a → W p l e R s m args below meth c H locs cells slots Q (F0 m tgt ls rest)) (k2 : a < b → W p l e R s m args below meth c H locs cells slots Q (F0 m (pc + 3) ls rest)) : W p l e R s m args below meth c H locs cells slots Q (F0 m pc ls (.int (nI b) :: .int (nI a) :: rest)) :=
  lv_icmp_ge hexec hb hdg ht (fun h => k1 ((nI_leI hb2 ha).mp h)) (fun h => k2 (Nat.not_le.mp (fun q => h ((nI_leI hb2 ha).mpr q))))
theorem q_icmp_gt {a b : Nat} (hexec : p.tables.exec = Jvm.exec) (hb : c.code = cc) {off : Int} {tgt : Nat} (hdg : decode cc pc = .ok (.if_icmp .gt off, 3)) (ht : (pc : Int) + off = (tgt : Int)) (ha : a < 2147483648) (hb2 : b < 2147483648) (k1 : b < a → W p l e R s m args below meth c H locs cells slots Q (F0 m tgt ls rest)) (k2 : a ≤ b → W p l e R s m args below meth c H locs cells slots Q (F0 m (pc + 3) ls rest)) : W p l e R s m args below meth c H locs cells slots Q (F0 m pc ls (.int (nI b) :: .int (nI a) :: rest)) :=
  lv_icmp_gt hexec hb hdg ht (fun h => k1 ((nI_ltI hb2 ha).mp h)) (fun h => k2 (Nat.not_lt.mp (fun q => h ((nI_ltI hb2 ha).mpr q))))
theorem q_icmp_le {a b : Nat} (hexec : p.tables.exec = Jvm.exec) (hb : c.code = cc) {off : Int} {tgt : Nat} (hdg : decode cc pc = .ok (.if_icmp .le off, 3)) (ht : (pc : Int) + off = (tgt : Int)) (ha : a < 2147483648) (hb2 : b < 2147483648) (k1 : a ≤ b → W p l e R s m args below meth c H locs cells slots Q (F0 m tgt ls rest)) (k2 : b < a → W p l e R s m args below meth c H locs cells slots Q (F0 m (pc + 3) ls rest)) : W p l e R s m args below meth c H locs cells slots Q (F0 m pc ls (.int (nI b) :: .int (nI a) :: rest)) :=
  lv_icmp_le hexec hb hdg ht (fun h => k1 ((nI_leI ha hb2).mp h)) (fun h => k2 (Nat.not_le.mp (fun q => h ((nI_leI ha hb2).mpr q))))
theorem q_icmp_eq {a b : Nat} (hexec : p.tables.exec = Jvm.exec) (hb : c.code = cc) {off : Int} {tgt : Nat} (hdg : decode cc pc = .ok (.if_icmp .eq off, 3)) (ht : (pc : Int) + off = (tgt : Int)) (ha : a < 2147483648) (hb2 : b < 2147483648) (k1 : a = b → W p l e R s m args below meth c H locs cells slots Q (F0 m tgt ls rest)) (k2 : a ≠ b → W p l e R s m args below meth c H locs cells slots Q (F0 m (pc + 3) ls rest)) : W p l e R s m args below meth c H locs cells slots Q (F0 m pc ls (.int (nI b) :: .int (nI a) :: rest)) :=
  lv_icmp_eq hexec hb hdg ht (fun h => k1 ((nI_eq ha hb2).mp h)) (fun h => k2 (fun q => h ((nI_eq ha hb2).mpr q)))
theorem q_icmp_ne {a b : Nat} (hexec : p.tables.exec = Jvm.exec) (hb : c.code = cc) {off : Int} {tgt : Nat} (hdg : decode cc pc = .ok (.if_icmp .ne off, 3)) (ht : (pc : Int) + off = (tgt : Int)) (ha : a < 2147483648) (hb2 : b < 2147483648) (k1 : a ≠ b → W p l e R s m args below meth c H locs cells slots Q (F0 m tgt ls rest)) (k2 : a = b → W p l e R s m args below meth c H locs cells slots Q (F0 m (pc + 3) ls rest)) : W p l e R s m args below meth c H locs cells slots Q (F0 m pc ls (.int (nI b) :: .int (nI a) :: rest)) :=
  lv_icmp_ne hexec hb hdg ht (fun h => k1 (fun q => h ((nI_eq ha hb2).mpr q))) (fun h => k2 ((nI_eq ha hb2).mp h))
theorem nI_z {a : Nat} (ha : a < 2147483648) : nI a = 0 ↔ a = 0 := by rw [← nI_0]; exact nI_eq ha (by decide)
theorem q_if_eq {a : Nat} (hexec : p.tables.exec = Jvm.exec) (hb : c.code = cc) {off : Int} {tgt : Nat} (hdg : decode cc pc = .ok (.ifCond .eq off, 3)) (ht : (pc : Int) + off = (tgt : Int)) (ha : a < 2147483648) (k1 : a = 0 → W p l e R s m args below meth c H locs cells slots Q (F0 m tgt ls rest)) (k2 : 0 < a → W p l e R s m args below meth c H locs cells slots Q (F0 m (pc + 3) ls rest)) : W p l e R s m args below meth c H locs cells slots Q (F0 m pc ls (.int (nI a) :: rest)) :=
  lv_if_eq hexec hb hdg ht (fun h => k1 ((nI_z ha).mp h)) (fun h => k2 (Nat.pos_of_ne_zero (fun q => h ((nI_z ha).mpr q))))
theorem q_if_ne {a : Nat} (hexec : p.tables.exec = Jvm.exec) (hb : c.code = cc) {off : Int} {tgt : Nat} (hdg : decode cc pc = .ok (.ifCond .ne off, 3)) (ht : (pc : Int) + off = (tgt : Int)) (ha : a < 2147483648) (k1 : 0 < a → W p l e R s m args below meth c H locs cells slots Q (F0 m tgt ls rest)) (k2 : a = 0 → W p l e R s m args below meth c H locs cells slots Q (F0 m (pc + 3) ls rest)) : W p l e R s m args below meth c H locs cells slots Q (F0 m pc ls (.int (nI a) :: rest)) :=
  lv_if_ne hexec hb hdg ht (fun h => k1 (Nat.pos_of_ne_zero (fun q => h ((nI_z ha).mpr q)))) (fun h => k2 ((nI_z ha).mp h))
theorem q_if_lt {a : Nat} (hexec : p.tables.exec = Jvm.exec) (hb : c.code = cc) {off : Int} {tgt : Nat} (hdg : decode cc pc = .ok (.ifCond .lt off, 3)) (ht : (pc : Int) + off = (tgt : Int)) (ha : a < 2147483648) (k2 : W p l e R s m args below meth c H locs cells slots Q (F0 m (pc + 3) ls rest)) : W p l e R s m args below meth c H locs cells slots Q (F0 m pc ls (.int (nI a) :: rest)) :=
  lv_if_lt hexec hb hdg ht (fun h => absurd h (nI_pos ha)) (fun _ => k2)
theorem q_if_ge {a : Nat} (hexec : p.tables.exec = Jvm.exec) (hb : c.code = cc) {off : Int} {tgt : Nat} (hdg : decode cc pc = .ok (.ifCond .ge off, 3)) (ht : (pc : Int) + off = (tgt : Int)) (ha : a < 2147483648) (k1 : W p l e R s m args below meth c H locs cells slots Q (F0 m tgt ls rest)) : W p l e R s m args below meth c H locs cells slots Q (F0 m pc ls (.int (nI a) :: rest)) :=
  lv_if_ge hexec hb hdg ht (fun _ => k1) (fun h => absurd (nI_pos' ha) h)
theorem q_if_gt {a : Nat} (hexec : p.tables.exec = Jvm.exec) (hb : c.code = cc) {off : Int} {tgt : Nat} (hdg : decode cc pc = .ok (.ifCond .gt off, 3)) (ht : (pc : Int) + off = (tgt : Int)) (ha : a < 2147483648) (k1 : 0 < a → W p l e R s m args below meth c H locs cells slots Q (F0 m tgt ls rest)) (k2 : a = 0 → W p l e R s m args below meth c H locs cells slots Q (F0 m (pc + 3) ls rest)) : W p l e R s m args below meth c H locs cells slots Q (F0 m pc ls (.int (nI a) :: rest)) :=
  lv_if_gt hexec hb hdg ht (fun h => k1 (Nat.pos_of_ne_zero (fun q => absurd h (by subst q; decide)))) (fun h => k2 (Classical.byContradiction fun q => h (by rw [← nI_0]; exact (nI_ltI (by decide) ha).mpr (Nat.pos_of_ne_zero q))))
theorem q_if_le {a : Nat} (hexec : p.tables.exec = Jvm.exec) (hb : c.code = cc) {off : Int} {tgt : Nat} (hdg : decode cc pc = .ok (.ifCond .le off, 3)) (ht : (pc : Int) + off = (tgt : Int)) (ha : a < 2147483648) (k1 : a = 0 → W p l e R s m args below meth c H locs cells slots Q (F0 m tgt ls rest)) (k2 : 0 < a → W p l e R s m args below meth c H locs cells slots Q (F0 m (pc + 3) ls rest)) : W p l e R s m args below meth c H locs cells slots Q (F0 m pc ls (.int (nI a) :: rest)) :=
  lv_if_le hexec hb hdg ht (fun h => k1 (Classical.byContradiction fun q => absurd h (nI_nle (Nat.pos_of_ne_zero q) ha))) (fun h => k2 (Nat.pos_of_ne_zero (fun q => h (by subst q; decide))))
variable {G : wG} {ws : va_W} {A : Nat → Prop} {H0 : Heap} {a n : Nat} {f : Nat → Int32}
theorem q_ald {j : Nat} (hexec : p.tables.exec = Jvm.exec) (hb : c.code = cc) (hK : KK G s) (hP : va_P G.1 vwCl ws H) (q0 : Nat) (ha : ws[q0]? = some (a, ai G n f)) (hj : j < n) (hn : n < 2147483648) (hdg : decode cc pc = .ok (.iaload, 1))
    (kk : W p l e R s m args below meth c H locs cells slots Q (F0 m (pc + 1) ls (.int (f j) :: rest))) : W p l e R s m args below meth c H locs cells slots Q (F0 m pc ls (.int (nI j) :: .ref a :: rest)) :=
  va_iald hexec hb hK.1 hP q0 1 ha rfl (vp_in_nI hj hn) hdg (by rw [nI_clamp (Nat.lt_trans hj hn)]; exact kk)
theorem q_cald {j : Nat} (hexec : p.tables.exec = Jvm.exec) (hb : c.code = cc) (hK : KK G s) (hP : va_P G.1 vwCl ws H) (q0 : Nat) (ha : ws[q0]? = some (a, ac G n f)) (hj : j < n) (hn : n < 2147483648) (hdg : decode cc pc = .ok (.caload, 1))
    (kk : W p l e R s m args below meth c H locs cells slots Q (F0 m (pc + 1) ls (.int (f j) :: rest))) : W p l e R s m args below meth c H locs cells slots Q (F0 m pc ls (.int (nI j) :: .ref a :: rest)) :=
  va_cald hexec hb hK.1 hP q0 0 ha rfl (vp_in_nI hj hn) hdg (by rw [nI_clamp (Nat.lt_trans hj hn)]; exact kk)
theorem q_aald {j v : Nat} {g : Nat → Option Nat} (hexec : p.tables.exec = Jvm.exec) (hb : c.code = cc) (hK : KK G s) (hP : va_P G.1 vwCl ws H) (q0 : Nat) (ha : ws[q0]? = some (a, ao G n g)) (hj : j < n) (hn : n < 2147483648) (hv : g j = some v) (hdg : decode cc pc = .ok (.aaload, 1))
    (kk : W p l e R s m args below meth c H locs cells slots Q (F0 m (pc + 1) ls (.ref v :: rest))) : W p l e R s m args below meth c H locs cells slots Q (F0 m pc ls (.int (nI j) :: .ref a :: rest)) :=
  va_aldq hexec hb hK.1 hP q0 2 ha rfl (vp_in_nI hj hn) hdg (by rw [nI_clamp (Nat.lt_trans hj hn), hv]; exact kk)
theorem q_ast {j : Nat} {x : Int32} (hexec : p.tables.exec = Jvm.exec) (hb : c.code = cc) (hK : KK G s) (hP : va_P G.1 vwCl ws H) (hD : va_D A ws) (hS : va_S A H0 H locs) (q0 : Nat) (ha : ws[q0]? = some (a, ai G n f)) (hj : j < n) (hn : n < 2147483648) (hdg : decode cc pc = .ok (.iastore, 1))
    (kk : ∀ (H1 : Heap) (locs1 : List Loc), va_P G.1 vwCl (ws.set q0 (a, ai G n (upd f j x))) H1 → va_D A (ws.set q0 (a, ai G n (upd f j x))) → va_S A H0 H1 locs1 → W p l e R s m args below meth c H1 locs1 cells slots Q (F0 m (pc + 1) ls rest)) : W p l e R s m args below meth c H locs cells slots Q (F0 m pc ls (.int x :: .int (nI j) :: .ref a :: rest)) :=
  va_iast hexec hb hK.1 hP hD hS q0 1 ha rfl (vp_in_nI hj hn) hdg (by rw [nI_clamp (Nat.lt_trans hj hn)]; exact kk)
theorem q_cast {j : Nat} {x : Int32} (hx : vp_nar .char x = x) (hexec : p.tables.exec = Jvm.exec) (hb : c.code = cc) (hK : KK G s) (hP : va_P G.1 vwCl ws H) (hD : va_D A ws) (hS : va_S A H0 H locs) (q0 : Nat) (ha : ws[q0]? = some (a, ac G n f)) (hj : j < n) (hn : n < 2147483648) (hdg : decode cc pc = .ok (.castore, 1))
    (kk : ∀ (H1 : Heap) (locs1 : List Loc), va_P G.1 vwCl (ws.set q0 (a, ac G n (upd f j x))) H1 → va_D A (ws.set q0 (a, ac G n (upd f j x))) → va_S A H0 H1 locs1 → W p l e R s m args below meth c H1 locs1 cells slots Q (F0 m (pc + 1) ls rest)) : W p l e R s m args below meth c H locs cells slots Q (F0 m pc ls (.int x :: .int (nI j) :: .ref a :: rest)) :=
  va_cast hexec hb hK.1 hP hD hS q0 0 ha rfl (vp_in_nI hj hn) hdg (by rw [nI_clamp (Nat.lt_trans hj hn), hx]; exact kk)
theorem q_aast {j v qk : Nat} {vs : List Value} {g : Nat → Option Nat} (hexec : p.tables.exec = Jvm.exec) (hb : c.code = cc) (hK : KK G s) (hP : va_P G.1 vwCl ws H) (hD : va_D A ws) (hS : va_S A H0 H locs) (q0 qk : Nat) (ha : ws[q0]? = some (a, ao G n g)) (hv : ws[qk]? = some (v, .inr (3, vs))) (hj : j < n) (hn : n < 2147483648) (hdg : decode cc pc = .ok (.aastore, 1))
    (kk : ∀ (H1 : Heap) (locs1 : List Loc), va_P G.1 vwCl (ws.set q0 (a, ao G n (va_up g j (some v)))) H1 → va_D A (ws.set q0 (a, ao G n (va_up g j (some v)))) → va_S A H0 H1 locs1 → W p l e R s m args below meth c H1 locs1 cells slots Q (F0 m (pc + 1) ls rest)) : W p l e R s m args below meth c H locs cells slots Q (F0 m pc ls (.ref v :: .int (nI j) :: .ref a :: rest)) :=
  va_astq hexec hb hK.1 hP hD hS q0 2 qk 3 (r := (RX3, TX3, 5)) ha rfl hv rfl (vp_in_nI hj hn) hdg (by rw [nI_clamp (Nat.lt_trans hj hn)]; exact kk)
end QNUM
/-- a counter that goes down to -1 -/
def pI : Nat → Int32
  | 0 => -1
  | k + 1 => nI k
theorem q_inc (a n : Nat) : nI a + Int32.ofInt (n : Int) = nI (a + n) := by
  rw [← nI_add]; rfl
theorem q_decP (a : Nat) : nI a + Int32.ofInt (-1) = pI a := by
  cases a with
  | zero => decide
  | succ k => exact pk_m1 k
theorem q_i2c {w : Nat} (h : w < 65536) : ((nI w).toUInt32 % 65536).toInt32 = nI w := by
  have := (pk_char (nI w))
  rw [this, pk_tn (Nat.lt_trans h (by decide)), Nat.mod_eq_of_lt h]
theorem q_char {w : Nat} (h : w < 65536) : vp_nar .char (nI w) = nI w := by
  have := (pk_charN h).1
  unfold vp_nar
  rw [this]
theorem q_tab (N : Nat) (hN : N < 1000) {x : Int32} (h : ∀ k, k ≤ N → ¬ x = nI k) : x.toInt < 0 ∨ (N : Int) < x.toInt := by
  rcases Int.lt_or_le x.toInt 0 with h0 | h0
  · exact Or.inl h0
  · rcases Int.lt_or_le (N : Int) x.toInt with h1 | h1
    · exact Or.inr h1
    · exfalso
      refine h x.toInt.toNat (by omega) ?_
      apply Int32.toInt_inj.mp
      rw [nI_toInt (by omega)]
      omega
theorem q_tab2 {x : Int32} (h0 : ¬ x = nI 0) (h1 : ¬ x = nI 1) (h2 : ¬ x = nI 2) : x.toInt < 0 ∨ (2 : Int) < x.toInt := q_tab 2 (by decide) fun k hk => by
  rcases (show k = 0 ∨ k = 1 ∨ k = 2 by omega) with rfl | rfl | rfl <;> assumption
theorem q_tab15 {x : Int32} (h0 : ¬ x = nI 0) (h1 : ¬ x = nI 1) (h2 : ¬ x = nI 2) (h3 : ¬ x = nI 3) (h4 : ¬ x = nI 4) (h5 : ¬ x = nI 5) (h6 : ¬ x = nI 6) (h7 : ¬ x = nI 7) (h8 : ¬ x = nI 8) (h9 : ¬ x = nI 9) (h10 : ¬ x = nI 10) (h11 : ¬ x = nI 11) (h12 : ¬ x = nI 12) (h13 : ¬ x = nI 13) (h14 : ¬ x = nI 14) (h15 : ¬ x = nI 15) : x.toInt < 0 ∨ (15 : Int) < x.toInt := q_tab 15 (by decide) fun k hk => by
  rcases (show k = 0 ∨ k = 1 ∨ k = 2 ∨ k = 3 ∨ k = 4 ∨ k = 5 ∨ k = 6 ∨ k = 7 ∨ k = 8 ∨ k = 9 ∨ k = 10 ∨ k = 11 ∨ k = 12 ∨ k = 13 ∨ k = 14 ∨ k = 15 by omega) with rfl | rfl | rfl | rfl | rfl | rfl | rfl | rfl | rfl | rfl | rfl | rfl | rfl | rfl | rfl | rfl <;> assumption
-- the shapes
abbrev wF : Type := Nat → Int32
abbrev MD : Type := Nat × Nat × wF
abbrev TD : Type := Nat × Nat × Nat × Nat × Nat × Nat × Nat × wF × wF × wF × wF
abbrev SD : Type := MD × MD × MD × MD × TD
abbrev HD : Type := Nat × SD × SD × SD × SD
abbrev XD : Type := Nat × Nat × Nat × Nat × Nat × Nat × Nat × Nat × Nat × wF × MD
abbrev CD : Type := SD × SD × HD × XD
abbrev MA : Type := Nat × Nat
abbrev TA : Type := Nat × Nat × Nat × Nat × Nat
abbrev SA : Type := Nat × MA × MA × MA × MA × TA
abbrev HA : Type := Nat × Nat × SA × SA × SA × SA
abbrev XA : Type := Nat × Nat × MA
abbrev CA : Type := Nat × SA × SA × HA × XA
def hf4 (a b c d : Nat) : Nat → Option Nat := fun j => if j = 0 then some a else if j = 1 then some b else if j = 2 then some c else if j = 3 then some d else none
def wM (G : wG) (a : MA) (u : MD) : va_W := [(a.1, .inr (1, [.int (nI u.1), .int (nI u.2.1), .ref a.2])), (a.2, ai G 36 u.2.2)]
def wQ (G : wG) (a : MA) (u : MD) : va_W := [(a.1, .inr (2, [.int (nI u.1), .int (nI u.2.1), .ref a.2])), (a.2, ai G 20 u.2.2)]
def wT (G : wG) (a : TA) (u : TD) : va_W := [(a.1, .inr (5, [.int (nI u.1), .int (nI u.2.1), .int (nI u.2.2.1), .int (nI u.2.2.2.1), .int (nI u.2.2.2.2.1), .int (nI u.2.2.2.2.2.1), .int (nI u.2.2.2.2.2.2.1), .ref a.2.1, .ref a.2.2.1, .ref a.2.2.2.1, .ref a.2.2.2.2])), (a.2.1, ai G 16 u.2.2.2.2.2.2.2.1), (a.2.2.1, ai G 16 u.2.2.2.2.2.2.2.2.1), (a.2.2.2.1, ai G 16 u.2.2.2.2.2.2.2.2.2.1), (a.2.2.2.2, ai G 16 u.2.2.2.2.2.2.2.2.2.2)]
def wS (G : wG) (a : SA) (u : SD) : va_W := (a.1, .inr (3, [.ref a.2.1.1, .ref a.2.2.1.1, .ref a.2.2.2.1.1, .ref a.2.2.2.2.1.1, .ref a.2.2.2.2.2.1])) :: (wQ G a.2.1 u.1 ++ (wM G a.2.2.1 u.2.1 ++ (wM G a.2.2.2.1 u.2.2.1 ++ (wM G a.2.2.2.2.1 u.2.2.2.1 ++ wT G a.2.2.2.2.2 u.2.2.2.2))))
def wH (G : wG) (a : HA) (u : HD) : va_W := (a.1, .inr (0, [.ref a.2.1, .int (nI u.1)])) :: (a.2.1, ao G 4 (hf4 a.2.2.1.1 a.2.2.2.1.1 a.2.2.2.2.1.1 a.2.2.2.2.2.1)) :: (wS G a.2.2.1 u.2.1 ++ (wS G a.2.2.2.1 u.2.2.1 ++ (wS G a.2.2.2.2.1 u.2.2.2.1 ++ wS G a.2.2.2.2.2 u.2.2.2.2)))
def wX (G : wG) (a : XA) (u : XD) : va_W := (a.1, .inr (4, [.ref a.2.1, .int (nI u.1), .ref a.2.2.1, .int (nI u.2.1), .int (nI u.2.2.1), .int (nI u.2.2.2.1), .int (nI u.2.2.2.2.1), .int (nI u.2.2.2.2.2.1), .int (nI u.2.2.2.2.2.2.1), .int (nI u.2.2.2.2.2.2.2.1), .int (nI u.2.2.2.2.2.2.2.2.1)])) :: (a.2.1, ac G 80 u.2.2.2.2.2.2.2.2.2.1) :: wM G a.2.2 u.2.2.2.2.2.2.2.2.2.2
def wC (G : wG) (a : CA) (u : CD) : va_W := (a.1, .inr (6, [.ref a.2.1.1, .ref a.2.2.1.1, .ref a.2.2.2.1.1, .ref a.2.2.2.2.1])) :: (wS G a.2.1 u.1 ++ (wS G a.2.2.1 u.2.1 ++ (wH G a.2.2.2.1 u.2.2.1 ++ wX G a.2.2.2.2 u.2.2.2)))
