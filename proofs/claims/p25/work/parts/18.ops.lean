/-! ops: what each call answers and makes, over the 269 places; the class's numbers beside it -/
abbrev kINV : Int32 := (-1000001)
abbrev kNP : Int32 := (-1000002)
abbrev kLR : Int32 := (-1000003)
abbrev kNF : Int32 := (-1000004)
def tN (v : Int32) : Nat := v.toInt.toNat
theorem tN_eq {v : Int32} (h : 0 ≤ v.toInt) : v = nI (tN v) := by
  apply Int32.toInt_inj.mp
  have h2 : v.toInt < 2147483648 := by have := Int32.toInt_lt v; omega
  rw [nI_toInt (by unfold tN; omega)]
  unfold tN
  omega
theorem tN_nI {n : Nat} (h : n < 2147483648) : tN (nI n) = n := by
  unfold tN
  rw [nI_toInt h]
  omega
abbrev OR : Type := Int32 × wF × (Nat → wF) × Nat
abbrev PF : Type := Nat → wF
def sideF (j : Nat) (s : wF) : wF := clr 117 36 (clr 153 20 (upd (upd (upd s 0 (nI j)) 4 (nI j)) 5 (nI 0)))
def opSide (n : Nat) (v : Int32) (s : wF) (pst : PF) (h : Nat) : OR := if 1 ≤ v.toInt ∧ v.toInt ≤ 4 then (nI n, sideF (tN v) s, chgP s pst h, chgN h) else (kINV, s, pst, h)
def shapeF (r k c : Nat) (s : wF) : wF := clr 117 36 (clr 9 72 (upd (upd (upd (upd s 1 (nI r)) 2 (nI k)) 3 (nI c)) 5 (nI 0)))
def opShape (n : Nat) (v1 v2 v3 : Int32) (s : wF) (pst : PF) (h : Nat) : OR := if (1 ≤ v1.toInt ∧ v1.toInt ≤ 6) ∧ (1 ≤ v2.toInt ∧ v2.toInt ≤ 6) ∧ (1 ≤ v3.toInt ∧ v3.toInt ≤ 6) then (nI (tls (tN v1) n * tls (tN v3) n), shapeF (tN v1) (tN v2) (tN v3) s, chgP s pst h, chgN h) else (kINV, s, pst, h)
def opSet (w r c b : Nat) (v1 v2 v3 : Int32) (s : wF) (pst : PF) (h : Nat) : OR := if (0 ≤ v1.toInt ∧ v1.toInt < r) ∧ (0 ≤ v2.toInt ∧ v2.toInt < c) ∧ (-99 ≤ v3.toInt ∧ v3.toInt ≤ 99) then (if b = 1 then (kNP, s, pst, h) else (s (9 + 36 * w + 6 * tN v1 + tN v2), clr 117 36 (upd s (9 + 36 * w + 6 * tN v1 + tN v2) v3), chgP s pst h, chgN h)) else (kINV, s, pst, h)
def opFault (n b : Nat) (v1 v2 v3 : Int32) (s : wF) (pst : PF) (h : Nat) : OR := if (0 ≤ v1.toInt ∧ v1.toInt < n) ∧ (0 ≤ v2.toInt ∧ v2.toInt ≤ n) ∧ (0 ≤ v3.toInt ∧ v3.toInt ≤ 4) then (if b = 1 then (kNP, s, pst, h) else (s (153 + 5 * tN v1 + tN v2), upd s (153 + 5 * tN v1 + tN v2) v3, chgP s pst h, chgN h)) else (kINV, s, pst, h)
def opLeave (n o b : Nat) (v : Int32) (s : wF) (pst : PF) (h : Nat) : OR := if 0 ≤ v.toInt ∧ v.toInt ≤ n then (if b = 1 then (kNP, s, pst, h) else (nI o, upd s 4 v, chgP s pst h, chgN h)) else (kINV, s, pst, h)
def opBegin (k n r c b : Nat) (v1 v2 : Int32) (s : wF) (pst : PF) (h : Nat) : OR := if (0 ≤ v1.toInt ∧ v1.toInt < tls r n) ∧ (0 ≤ v2.toInt ∧ v2.toInt < tls c n) then (if b = 1 then (kNP, s, pst, h) else (nI (need k n r c (tN v1) (tN v2)), bgF (tN v1) (tN v2) s, chgP s pst h, chgN h)) else (kINV, s, pst, h)
def opTick (k n o r c b ta tb tt : Nat) (v : Int32) (s : wF) (pst : PF) (h : Nat) : OR := if 1 ≤ v.toInt ∧ v.toInt ≤ 20 then (if b = 0 ∨ tt = need k n r c ta tb then (kNP, s, pst, h) else (nI (need k n r c ta tb - (tt + min (tN v) (need k n r c ta tb - tt))), goN k n o r c ta tb (min (tN v) (need k n r c ta tb - tt)) tt s, chgP s pst h, chgN h)) else (kINV, s, pst, h)
def knN (s : wF) : Nat := ns (fun i => ns (fun j => if s (117 + (6 * i + j)) = nI 1 then 1 else 0) 6) 6
def opDrain (k n r c b ta tb tt : Nat) (s : wF) (pst : PF) (h : Nat) : OR := if b = 0 ∨ tt ≠ need k n r c ta tb then (kNP, s, pst, h) else (nI (knN (drF n r c ta tb s)), drF n r c ta tb s, chgP s pst h, chgN h)
def opAll (k n o r c b : Nat) (s : wF) (pst : PF) (h : Nat) : OR := if b = 1 then (kNP, s, pst, h) else (nI (tkN k n r c), alF k n o r c s, chgP s pst h, chgN h)
def opUndo (s : wF) (pst : PF) (h : Nat) : OR := if h = 0 then (kNP, s, pst, h) else (nI (h - 1), pst (h - 1), pst, h - 1)
def enA (r k c : Nat) (v1 v2 v3 : Int32) (s : wF) : Int32 := if v1.toInt = 0 ∧ (0 ≤ v2.toInt ∧ v2.toInt < r) ∧ (0 ≤ v3.toInt ∧ v3.toInt < k) then s (9 + (6 * tN v2 + tN v3)) else if v1.toInt = 1 ∧ (0 ≤ v2.toInt ∧ v2.toInt < k) ∧ (0 ≤ v3.toInt ∧ v3.toInt < c) then s (45 + (6 * tN v2 + tN v3)) else kINV
def ceA (n o b : Nat) (v1 v2 v3 : Int32) (s : wF) : Int32 := if (0 ≤ v1.toInt ∧ v1.toInt < n) ∧ (0 ≤ v2.toInt ∧ v2.toInt < n) ∧ (0 ≤ v3.toInt ∧ v3.toInt ≤ 5) then (if v3.toInt = 3 then nI (if tN v2 < o then tN v2 else tN v2 + 1) else if v3.toInt = 4 then kdF o (tN v1) (tN v2) s else if b = 0 then kNP else if v3.toInt = 0 then s (173 + 24 * tN v1 + 6 * tN v2) else if v3.toInt = 1 then (if s (173 + 24 * tN v1 + 6 * tN v2 + 1) = nI 1 then s (173 + 24 * tN v1 + 6 * tN v2 + 2) else kNF) else if v3.toInt = 2 then (if s (173 + 24 * tN v1 + 6 * tN v2 + 3) = nI 1 then s (173 + 24 * tN v1 + 6 * tN v2 + 4) else kNF) else s (173 + 24 * tN v1 + 6 * tN v2 + 5)) else kINV
def dueF (k : Nat) (s : wF) (i j : Nat) : Int32 := sm (fun q => s (9 + (6 * i + q)) * s (45 + (6 * q + j))) k
def reA (r k c : Nat) (v1 v2 v3 : Int32) (s : wF) : Int32 := if (0 ≤ v1.toInt ∧ v1.toInt < r) ∧ (0 ≤ v2.toInt ∧ v2.toInt < c) ∧ (0 ≤ v3.toInt ∧ v3.toInt ≤ 1) then (if v3.toInt = 1 then dueF k s (tN v1) (tN v2) else if s (117 + (6 * tN v1 + tN v2)) = nI 1 then s (81 + (6 * tN v1 + tN v2)) else kNF) else kINV
def wrN (r k c : Nat) (s : wF) : Nat := ns (fun i => ns (fun j => if s (117 + (6 * i + j)) = nI 1 ∧ s (81 + (6 * i + j)) ≠ dueF k s i j then 1 else 0) c) r
def faN (s : wF) : Nat := ns (fun a => ns (fun b => if s (153 + (5 * a + b)) = nI 0 then 0 else 1) 5) 4
def coA (n o r k c b ta tb tt h tl : Nat) (v : Int32) (s : wF) : Int32 := if v = nI 0 then nI n else if v = nI 1 then nI r else if v = nI 2 then nI k else if v = nI 3 then nI c else if v = nI 4 then nI (tls r n * tls c n) else if v = nI 5 then nI o else if v = nI 6 then nI b else if v = nI 7 then (if b = 0 then kNF else nI ta) else if v = nI 8 then (if b = 0 then kNF else nI tb) else if v = nI 9 then (if b = 0 then kNF else nI tt) else if v = nI 10 then (if b = 0 then kNF else nI (need k n r c ta tb - tt)) else if v = nI 11 then nI (knN s) else if v = nI 12 then nI (wrN r k c s) else if v = nI 13 then nI (faN s) else if v = nI 14 then nI h else if v = nI 15 then nI tl else kINV
def suR (k c : Nat) (s : wF) (i : Nat) : Prop := (∀ j, j < c → s (117 + (6 * i + j)) = nI 1) ∧ sm (fun j => s (81 + (6 * i + j)) - dueF k s i j) c ≠ nI 0
def suC (k r : Nat) (s : wF) (i : Nat) : Prop := (∀ j, j < r → s (117 + (6 * j + i)) = nI 1) ∧ sm (fun j => s (81 + (6 * j + i)) - dueF k s j i) r ≠ nI 0
noncomputable def suA (r k c : Nat) (v : Int32) (s : wF) : Int32 := if v.toInt = 0 then so (fun i => cb (suR k c s i)) r else if v.toInt = 1 then so (fun i => cb (suC k r s i)) c else kINV
def wwN (k n r c : Nat) (s : wF) (o : Nat) : Nat := wrN r k c (alF k n o r c (upd s 4 (nI o)))
def wbA (k n r c : Nat) (v : Int32) (s : wF) : Int32 := if 0 ≤ v.toInt ∧ v.toInt ≤ n then nI (wwN k n r c s (tN v)) else kINV
def beL (f : Nat → Nat) : Nat → Nat × Nat
  | 0 => (0, f 0)
  | i + 1 => if f (i + 1) ≤ (beL f i).2 then (i + 1, f (i + 1)) else beL f i
def beA (k n r c : Nat) (s : wF) : Int32 := nI (beL (wwN k n r c s) n).1
-- sums
theorem ns_ext {f g : Nat → Nat} : ∀ (n : Nat), (∀ i, i < n → f i = g i) → ns f n = ns g n
  | 0, _ => rfl
  | n + 1, h => by show ns f n + f n = ns g n + g n; rw [ns_ext n (fun i hi => h i (Nat.lt_succ_of_lt hi)), h n (Nat.lt_succ_self n)]
theorem ns_tail {f : Nat → Nat} {r : Nat} : ∀ (m : Nat), r ≤ m → (∀ i, r ≤ i → i < m → f i = 0) → ns f m = ns f r
  | 0, h, _ => by obtain rfl : r = 0 := Nat.le_zero.mp h; rfl
  | m + 1, h, hz => by
    rcases Nat.lt_or_ge r (m + 1) with q | q
    · show ns f m + f m = _
      rw [hz m (by omega) (by omega), ns_tail m (by omega) (fun i h1 h2 => hz i h1 (by omega)), Nat.add_zero]
    · obtain rfl : r = m + 1 := by omega
      rfl
theorem ns_0 {n : Nat} {f : Nat → Nat} (h : ∀ i, i < n → f i = 0) : ns f n = 0 := by
  rw [ns_tail (r := 0) n (Nat.zero_le _) (fun i _ hi => h i hi)]; rfl
theorem sm_ext {f g : Nat → Int32} : ∀ (n : Nat), (∀ i, i < n → f i = g i) → sm f n = sm g n
  | 0, _ => rfl
  | n + 1, h => by show sm f n + f n = sm g n + g n; rw [sm_ext n (fun i hi => h i (Nat.lt_succ_of_lt hi)), h n (Nat.lt_succ_self n)]
theorem knL {r c : Nat} {Z s : wF} (hZ : RelZ r c Z s) (hr : r ≤ 6) (hc : c ≤ 6) : ns (fun i => ns (fun j => if Z (6 * i + j) = NO then 0 else 1) c) r = knN s := by
  unfold knN
  rw [ns_tail 6 hr (fun i h1 h2 => ns_0 fun j hj => ?_)]
  · refine ns_ext r fun i hi => ?_
    rw [ns_tail 6 hc (fun j h1 h2 => ?_)]
    · refine ns_ext c fun j hj => ?_
      rcases hZ i j (by omega) (by omega) with ⟨h1, -, -, h4, h5⟩ | ⟨h1, h2⟩
      · rw [if_neg h5, if_pos h1]
      · rw [if_pos h2, if_neg (by rw [h1]; decide)]
    · rcases hZ i j (by omega) (by omega) with ⟨-, -, h3, -⟩ | ⟨h3, -⟩
      · omega
      · rw [if_neg (by rw [h3]; decide)]
  · rcases hZ i j (by omega) (by omega) with ⟨-, h3, -⟩ | ⟨h3, -⟩
    · omega
    · rw [if_neg (by rw [h3]; decide)]
theorem dueL {r k c i j : Nat} {L R s : wF} (hM : RelM r k c L R s) (hi : i < r) (hj : j < c) : sm (fun q => L (6 * i + q) * R (6 * q + j)) k = dueF k s i j := by
  obtain ⟨-, -, -, hb, hL, hR, -⟩ := hM
  unfold dueF
  refine sm_ext k fun q hq => ?_
  rw [hL _ (by omega), hR _ (by omega)]
theorem wrL {r k c : Nat} {L R Z s : wF} (hM : RelM r k c L R s) (hZ : RelZ r c Z s) : ns (fun i => ns (fun j => if Z (6 * i + j) ≠ NO ∧ Z (6 * i + j) ≠ sm (fun q => L (6 * i + q) * R (6 * q + j)) k then 1 else 0) c) r = wrN r k c s := by
  have hb := hM.2.2.2.1
  refine ns_ext r fun i hi => ns_ext c fun j hj => ?_
  rw [dueL hM hi hj]
  rcases hZ i j (by omega) (by omega) with ⟨h1, -, -, h4, h5⟩ | ⟨h1, h2⟩
  · by_cases e : Z (6 * i + j) ≠ dueF k s i j
    · rw [if_pos ⟨h5, e⟩, if_pos ⟨h1, by rw [← h4]; exact e⟩]
    · rw [if_neg (fun q => e q.2), if_neg (fun q => e (by rw [h4]; exact q.2))]
  · rw [if_neg (fun q => q.1 h2), if_neg (fun q => absurd q.1 (by rw [h1]; decide))]
theorem faL {n o : Nat} {kf s : wF} (hQ : RelQ n o kf s) (hO : OkQ n s) : ns (fun a => ns (fun b => if kf (5 * a + b) = 0 then 0 else 1) (n + 1)) n = faN s := by
  obtain ⟨-, -, hn, hk⟩ := hQ
  unfold faN
  have z : ∀ a b, a < 4 → b < 5 → ¬ (a < n ∧ b ≤ n) → (if s (153 + (5 * a + b)) = nI 0 then 0 else 1) = 0 := by
    intro a b ha hb h
    obtain ⟨q, -, h2, h3⟩ := hO a b ha hb
    rw [if_pos]
    rw [← Nat.add_assoc, h2]
    rcases h3 with rfl | h3
    · rfl
    · exact absurd h3 h
  rw [ns_tail 4 hn.2.1 (fun a h1 h2 => ns_0 fun b hb => z a b h2 hb (by omega))]
  refine ns_ext n fun a ha => ?_
  rw [ns_tail 5 (show n + 1 ≤ 5 by omega) (fun b h1 h2 => z a b (by omega) h2 (by omega))]
  refine ns_ext (n + 1) fun b hb => ?_
  rw [hk _ (by omega)]
  rfl
-- sums in another order
theorem sm_add {f g : Nat → Int32} : ∀ (n : Nat), sm (fun i => f i + g i) n = sm f n + sm g n
  | 0 => by show nI 0 = nI 0 + nI 0; decide
  | n + 1 => by
    show sm (fun i => f i + g i) n + (f n + g n) = (sm f n + f n) + (sm g n + g n)
    rw [sm_add n]
    simp only [Int32.add_assoc]
    rw [← Int32.add_assoc (sm g n), Int32.add_comm (sm g n) (f n), Int32.add_assoc]
theorem sm_mul {f : Nat → Int32} {a : Int32} : ∀ (n : Nat), sm (fun i => a * f i) n = a * sm f n
  | 0 => by show nI 0 = a * nI 0; exact (Int32.mul_zero).symm
  | n + 1 => by show sm (fun i => a * f i) n + a * f n = a * (sm f n + f n); rw [sm_mul n, Int32.mul_add]
theorem sm_mulr {f : Nat → Int32} {a : Int32} (n : Nat) : sm (fun i => f i * a) n = sm f n * a := by
  rw [Int32.mul_comm (sm f n), ← sm_mul n]
  exact sm_ext n fun i _ => Int32.mul_comm _ _
theorem sm_z (n : Nat) : sm (fun _ => nI 0) n = nI 0 := by
  induction n with
  | zero => rfl
  | succ n ih => show sm (fun _ => nI 0) n + nI 0 = nI 0; rw [ih]; decide
theorem sm_swap {f : Nat → Nat → Int32} {m : Nat} : ∀ (n : Nat), sm (fun i => sm (fun j => f i j) m) n = sm (fun j => sm (fun i => f i j) n) m
  | 0 => (sm_z m).symm
  | n + 1 => by
    show sm (fun i => sm (fun j => f i j) m) n + sm (fun j => f n j) m = sm (fun j => sm (fun i => f i j) n + f n j) m
    rw [sm_swap n, ← sm_add]
theorem sm_cell {a b x y : Int32} : (a + (x - y)) + (b + y) = (a + b) + x := by
  rw [Int32.add_assoc a, ← Int32.add_assoc (x - y) b, Int32.add_comm (x - y) b, Int32.add_assoc b, Int32.sub_add_cancel, ← Int32.add_assoc]
theorem sm_sub {f g : Nat → Int32} : ∀ (n : Nat), sm (fun i => f i - g i) n + sm g n = sm f n
  | 0 => by show nI 0 + nI 0 = nI 0; decide
  | n + 1 => by
    show (sm (fun i => f i - g i) n + (f n - g n)) + (sm g n + g n) = sm f n + f n
    rw [sm_cell, sm_sub n]
theorem sm_ne {f g : Nat → Int32} {n : Nat} : sm f n ≠ sm g n ↔ sm (fun i => f i - g i) n ≠ nI 0 := by
  have h := sm_sub (f := f) (g := g) n
  constructor
  · intro e q
    rw [q] at h
    exact e (by rw [← h]; exact Int32.zero_add _)
  · intro e q
    apply e
    rw [q] at h
    have h2 := congrArg (fun x => x - sm g n) h
    rw [Int32.add_sub_cancel, Int32.sub_self] at h2
    exact h2
theorem suL_r {r k c i : Nat} {L R Z s : wF} (hM : RelM r k c L R s) (hZ : RelZ r c Z s) (hi : i < r) : cb ((∀ j, j < c → Z (6 * i + j) ≠ NO) ∧ sm (fun j => Z (6 * i + j)) c ≠ sm (fun q => L (6 * i + q) * sm (fun j => R (6 * q + j)) c) k) = cb (suR k c s i) := by
  have hb := hM.2.2.2.1
  have hz : ∀ j, j < c → (Z (6 * i + j) ≠ NO ↔ s (117 + (6 * i + j)) = nI 1) := fun j hj => by
    rcases hZ i j (by omega) (by omega) with ⟨h1, -, -, h4, h5⟩ | ⟨h1, h2⟩
    · exact ⟨fun _ => h1, fun _ => h5⟩
    · exact ⟨fun q => absurd h2 q, fun q => absurd q (by rw [h1]; decide)⟩
  have ed : sm (fun q => L (6 * i + q) * sm (fun j => R (6 * q + j)) c) k = sm (fun j => dueF k s i j) c := by
    rw [show sm (fun q => L (6 * i + q) * sm (fun j => R (6 * q + j)) c) k = sm (fun q => sm (fun j => L (6 * i + q) * R (6 * q + j)) c) k from sm_ext k fun q _ => (sm_mul c).symm, sm_swap]
    exact sm_ext c fun j hj => dueL hM hi hj
  refine cb_e ⟨fun h => ⟨fun j hj => (hz j hj).mp (h.1 j hj), ?_⟩, fun h => ⟨fun j hj => (hz j hj).mpr (h.1 j hj), ?_⟩⟩
  · have h2 := h.2
    rw [ed, sm_ne] at h2
    rw [show sm (fun j => s (81 + (6 * i + j)) - dueF k s i j) c = sm (fun j => Z (6 * i + j) - dueF k s i j) c from sm_ext c fun j hj => ?_]
    · exact h2
    · rcases hZ i j (by omega) (by omega) with ⟨h1, -, -, h4, h5⟩ | ⟨h1, h3⟩
      · rw [h4]
      · exact absurd h3 (h.1 j hj)
  · rw [ed, sm_ne]
    rw [show sm (fun j => Z (6 * i + j) - dueF k s i j) c = sm (fun j => s (81 + (6 * i + j)) - dueF k s i j) c from sm_ext c fun j hj => ?_]
    · exact h.2
    · rcases hZ i j (by omega) (by omega) with ⟨h1, -, -, h4, h5⟩ | ⟨h1, h3⟩
      · rw [h4]
      · exact absurd (h.1 j hj) (by rw [h1]; decide)
theorem suL_c {r k c i : Nat} {L R Z s : wF} (hM : RelM r k c L R s) (hZ : RelZ r c Z s) (hi : i < c) : cb ((∀ j, j < r → Z (6 * j + i) ≠ NO) ∧ sm (fun j => Z (6 * j + i)) r ≠ sm (fun q => sm (fun j => L (6 * j + q)) r * R (6 * q + i)) k) = cb (suC k r s i) := by
  have hb := hM.2.2.2.1
  have hz : ∀ j, j < r → (Z (6 * j + i) ≠ NO ↔ s (117 + (6 * j + i)) = nI 1) := fun j hj => by
    rcases hZ j i (by omega) (by omega) with ⟨h1, -, -, h4, h5⟩ | ⟨h1, h2⟩
    · exact ⟨fun _ => h1, fun _ => h5⟩
    · exact ⟨fun q => absurd h2 q, fun q => absurd q (by rw [h1]; decide)⟩
  have ed : sm (fun q => sm (fun j => L (6 * j + q)) r * R (6 * q + i)) k = sm (fun j => dueF k s j i) r := by
    rw [show sm (fun q => sm (fun j => L (6 * j + q)) r * R (6 * q + i)) k = sm (fun q => sm (fun j => L (6 * j + q) * R (6 * q + i)) r) k from sm_ext k fun q _ => (sm_mulr r).symm, sm_swap]
    exact sm_ext r fun j hj => dueL hM hj hi
  refine cb_e ⟨fun h => ⟨fun j hj => (hz j hj).mp (h.1 j hj), ?_⟩, fun h => ⟨fun j hj => (hz j hj).mpr (h.1 j hj), ?_⟩⟩
  · have h2 := h.2
    rw [ed, sm_ne] at h2
    rw [show sm (fun j => s (81 + (6 * j + i)) - dueF k s j i) r = sm (fun j => Z (6 * j + i) - dueF k s j i) r from sm_ext r fun j hj => ?_]
    · exact h2
    · rcases hZ j i (by omega) (by omega) with ⟨h1, -, -, h4, h5⟩ | ⟨h1, h3⟩
      · rw [h4]
      · exact absurd h3 (h.1 j hj)
  · rw [ed, sm_ne]
    rw [show sm (fun j => Z (6 * j + i) - dueF k s j i) r = sm (fun j => s (81 + (6 * j + i)) - dueF k s j i) r from sm_ext r fun j hj => ?_]
    · exact h.2
    · rcases hZ j i (by omega) (by omega) with ⟨h1, -, -, h4, h5⟩ | ⟨h1, h3⟩
      · rw [h4]
      · exact absurd (h.1 j hj) (by rw [h1]; decide)
theorem so_ext {p q : Nat → Bool} : ∀ (n : Nat), (∀ i, i < n → p i = q i) → so p n = so q n
  | 0, _ => rfl
  | n + 1, h => by
    show (if p n = true then so p n ||| _ else so p n) = (if q n = true then so q n ||| _ else so q n)
    rw [so_ext n (fun i hi => h i (Nat.lt_succ_of_lt hi)), h n (Nat.lt_succ_self n)]
