/-! THE CLAIM OUT OF ONE WALK OF THE LAW'S BODY. Your part is whole_start (and what it stands on); all else here is the same for every law, but numbers. -/
def R_law : String := "SkewedSquareLaw"
def lw_P (b : Addr) (xs : List Int32) (args : Array Value) (s : State) : Prop := args = #[.ref b] ∧ s.IntsAt b xs ∧ xs.length ≤ 2048 ∧ (Jvm.Cond.and given_1 narrow_1).before args s = true
def lw_Q (_ : Array Value) (s : State) (o : Outcome) (t : State) : Prop := o = .returned (some (.int 1)) ∧ Framed s o t [] 600000 7302250
def lw_Z (below : List Frame) (a : Array Value) (s : State) : State → Prop := fun t => ∃ o, t.status = .running ∧ Ended t below o ∧ lw_Q a s o t
/-- the law's own end, with 1 on the stack, nothing written that was there before, its room as the claim has it -/
theorem lw_ret {p : Program} {l : Launch} {e : Env} {s : State} {m : MethodId} {below : List Frame} {meth : Method} {c : Code} {b : Nat} (hx : p.tables.exec = Jvm.exec) (hb : c.code = code) (hr : meth.sig.returnType = ret) (hlocks : meth.locks = false) {pc : Nat} {H : Heap} {ls : Array Slot} (hdg : decode code pc = .ok (.ireturn, 1)) : W p l e room_1 s m #[Value.ref b] below meth c H [] 600000 7302250 (lw_Z below #[Value.ref b] s) (F0 m pc ls [.int 1]) := by
  intro T hT X
  obtain ⟨fs, hret, hrun, hended, hW, hframe⟩ := X.leave (v := some (.int 1)) (hlocks := hlocks) (fun h => by rw [hr] at h; cases h)
  have hmeth' : T.vm.method? m = some meth := X.method'
  refine ⟨T.setFrames fs, ?_, .returned (some (.int 1)), hrun, hended, rfl, ⟨_, rfl⟩, hW, hframe⟩
  jvm_step X.here [X.here.top, hx, hb, hdg, hmeth', hr, ret, narrow_b1]
  (try refine ⟨rfl, ?_⟩); (try refine ⟨rfl, ?_⟩)
  first | (intro acts; rw [hret _ acts rfl rfl rfl]) | rw [hret _ _ rfl rfl rfl]
  exact Steps.refl _
/-- what holds at the law's entry: the machine, the code, the tables' words (any of lw_tbl by 'hts w (by decide +kernel)'), the script of L ints xs at the cell b, what the Statement gives of the start (any of its parts by flat_of_before) -/
def lw_At (p : Program) (s : State) (m : MethodId) (meth : Method) (c : Code) (b L : Nat) (xs : Nat → Int32) : Prop :=
  p.tables.exec = Jvm.exec ∧ c.code = code ∧ meth.sig.returnType = ret ∧ c.maxLocals = 4 ∧ s.vm.findClass R_law = some m.cls ∧ (∀ w ∈ lw_tbl, w.before #[Value.ref b] s = true) ∧ va_X b L xs s s.heap ∧ b < s.heap.size ∧ meth.locks = false ∧ (Jvm.Cond.and given_1 narrow_1).before #[Value.ref b] s = true
/-! law: what holds at the head of the loop; a case each -/
def LW (G : wG) (a : CA) (r : RA) (N v : SD) (hd : HD) (xd : XD) (rd : RD) : va_W := List.flatten [wCx G a, wS G a.2.1 N, wS G a.2.2.1 v, wHf G a.2.2.2.1 hd, wX G a.2.2.2.2 xd, wU G r rd]
def INV (N : SD) (hd : HD) (xd : XD) (rd : RD) : Prop := ∃ (pst : PF) (T : Nat → Nat), RelS N rd.1 ∧ HRelD hd pst rd.2.2.2.1 ∧ PQ pst rd.2.1 rd.2.2.2.1 ∧ RelX xd T rd.2.2.2.2.2.1 ∧ RefX rd.2.2.2.2.1 T rd.2.2.2.2.2.1
theorem INV_op {x x2 : Int32} {u : CS} {u2 : wF × wF × Nat} {o : OR} {xd : XD} {rd : RD} {T : Nat → Nat} (h1 : PO x u o) (h2 : QO x2 u2 o) (e1 : rd.1 = u2.1) (e2 : rd.2.1 = u2.2.1) (e3 : rd.2.2.2.1 = u2.2.2) (h3 : RelX xd T rd.2.2.2.2.2.1) (h4 : RefX rd.2.2.2.2.1 T rd.2.2.2.2.2.1) : INV u.1 u.2.2.2.2.2 xd rd := by
  obtain ⟨-, a1, a2⟩ := h1
  obtain ⟨-, b1, b2, -, b4⟩ := h2
  refine ⟨o.2.2.1, T, ?_, ?_, ?_, h3, h4⟩
  · rw [e1, b1]; exact a1
  · rw [e3, b2]; exact a2
  · rw [e2, e3, b2]; exact b4
theorem op_eq {x x2 : Int32} {u : CS} {u2 : wF × wF × Nat} {o : OR} (h1 : PO x u o) (h2 : QO x2 u2 o) : x = x2 := h1.1.trans h2.1.symm
theorem RelS.T {n o lr lc rr rc sr sc b ta tb th tw tt tn : Nat} {kf L R Z sm0 mt rw_ dn s : wF} (h : RelS ((n, o, kf), (lr, lc, L), (rr, rc, R), (sr, sc, Z), (b, ta, tb, th, tw, tt, tn, sm0, mt, rw_, dn)) s) : b = 1 → RelE n lr rc ta tb s ∧ s 8 = nI tt ∧ tt ≤ need lc n lr rc ta tb := by
  intro e
  obtain ⟨⟨t1, t2, t3, t4, t5, t6, t7, t8, t9⟩, -⟩ := h.2.2.2.2.2.2 e
  exact ⟨⟨t1, t2, t4, t5⟩, t3, by rw [← t8]; exact t9⟩
def LAt (p : Program) (l : Launch) (e : Env) (s : State) (m : MethodId) (below : List Frame) (meth : Method) (c : Code) (bb : Nat) (G : wG) (i pc : Nat) : Prop := ∀ (a : CA) (r : RA) (N v : SD) (hd : HD) (xd : XD) (rd : RD), INV N hd xd rd → ∀ (H : Heap) (locs : List Loc), va_P G.1 vwCl (LW G a r N v hd xd rd) H → va_D (fun q : Nat => s.heap.size ≤ q) (LW G a r N v hd xd rd) → va_S (fun q : Nat => s.heap.size ≤ q) s.heap H locs → ∀ (ls : Array Slot), lv_has ls 4 [(0, .ref bb), (1, .ref a.1), (2, .ref r.1), (3, .int (nI i))] → W p l e room_1 s m #[Value.ref bb] below meth c H locs 97 3206 (lw_Z below #[Value.ref bb] s) (F0 m pc ls [])
section LAWQ
variable {p : Program} {l : Launch} {e : Env} {R : Room} {s : State} {m : MethodId} {args : Array Value} {below : List Frame} {meth : Method} {c : Code} {H : Heap} {locs : List Loc} {cells slots : Nat} {Q : State → Prop}
variable {cc : ByteArray} {pc : Nat} {ls : Array Slot} {rest : List Value} {A : Nat → Prop} {H0 : Heap} {bb LL : Nat} {xs : Nat → Int32}
theorem q_sld {j : Nat} (hexec : p.tables.exec = Jvm.exec) (hb : c.code = cc) (hX : va_X bb LL xs s H0) (hbl : bb < H0.size) (hbA : ¬ A bb) (hS : va_S A H0 H locs) (hj : j < LL) (hL : LL < 2147483648) (hdg : decode cc pc = .ok (.iaload, 1))
    (kk : W p l e R s m args below meth c H locs cells slots Q (F0 m (pc + 1) ls (.int (xs j) :: rest))) : W p l e R s m args below meth c H locs cells slots Q (F0 m pc ls (.int (nI j) :: .ref bb :: rest)) :=
  va_sld hexec hb hX hbl hbA hS (vp_in_nI hj hL) hdg (by rw [nI_clamp (Nat.lt_trans hj hL)]; exact kk)
end LAWQ
theorem q_tab21 {x : Int32} (h0 : ¬ x = nI 0) (h1 : ¬ x = nI 1) (h2 : ¬ x = nI 2) (h3 : ¬ x = nI 3) (h4 : ¬ x = nI 4) (h5 : ¬ x = nI 5) (h6 : ¬ x = nI 6) (h7 : ¬ x = nI 7) (h8 : ¬ x = nI 8) (h9 : ¬ x = nI 9) (h10 : ¬ x = nI 10) (h11 : ¬ x = nI 11) (h12 : ¬ x = nI 12) (h13 : ¬ x = nI 13) (h14 : ¬ x = nI 14) (h15 : ¬ x = nI 15) (h16 : ¬ x = nI 16) (h17 : ¬ x = nI 17) (h18 : ¬ x = nI 18) (h19 : ¬ x = nI 19) (h20 : ¬ x = nI 20) (h21 : ¬ x = nI 21) : x.toInt < 0 ∨ (21 : Int) < x.toInt := q_tab 21 (by decide) fun k hk => by
  rcases (show k = 0 ∨ k = 1 ∨ k = 2 ∨ k = 3 ∨ k = 4 ∨ k = 5 ∨ k = 6 ∨ k = 7 ∨ k = 8 ∨ k = 9 ∨ k = 10 ∨ k = 11 ∨ k = 12 ∨ k = 13 ∨ k = 14 ∨ k = 15 ∨ k = 16 ∨ k = 17 ∨ k = 18 ∨ k = 19 ∨ k = 20 ∨ k = 21 by omega) with rfl | rfl | rfl | rfl | rfl | rfl | rfl | rfl | rfl | rfl | rfl | rfl | rfl | rfl | rfl | rfl | rfl | rfl | rfl | rfl | rfl | rfl <;> assumption
