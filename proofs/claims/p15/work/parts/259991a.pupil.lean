theorem aw_same {day rgt day2 rgt2 : Nat → Int32} {t : Int32} {lo : Nat} : ∀ n : Nat, (∀ k : Nat, k < n → day2 (lo + k) = day (lo + k) ∧ rgt2 (lo + k) = rgt (lo + k)) → agW day2 rgt2 t lo n = agW day rgt t lo n
  | 0, _ => rfl
  | k + 1, h => by
    show agW day2 rgt2 t lo k + incW t (day2 (lo + k)) (rgt2 (lo + k)) = agW day rgt t lo k + incW t (day (lo + k)) (rgt (lo + k))
    rw [aw_same k (fun q hq => h q (by omega)), (h k (by omega)).1, (h k (by omega)).2]
def puR (g0 g1 g2 g3 : Nat → Int32) (an day rgt : Nat → Int32) : Prop := ∀ q : Nat, q < 4 → ∀ t : Nat, t < 81 → gF g0 g1 g2 g3 q t = agW day rgt (nI t) (12 * q) (an q).toInt.toNat
theorem pu_init {g0 g1 g2 g3 an day rgt : Nat → Int32} (h0 : g0 = fun _ => 0) (h1 : g1 = fun _ => 0) (h2 : g2 = fun _ => 0) (h3 : g3 = fun _ => 0) (ha : an = fun _ => 0) : puR g0 g1 g2 g3 an day rgt := by
  subst h0; subst h1; subst h2; subst h3; subst ha
  intro q hq t ht
  match q, hq with
  | 0, _ => rfl
  | 1, _ => rfl
  | 2, _ => rfl
  | 3, _ => rfl
  | k + 4, hq => omega
theorem spPup_rel {g0 g1 g2 g3 an day rgt : Nat → Int32} {a0 a1 a2 a3 p w r r2 : Int32} (R : puR g0 g1 g2 g3 an day rgt) (Ra : ∀ j, j < 4 → aF a0 a1 a2 a3 j = an j) (h1 : spPup (gF g0 g1 g2 g3 p.toNatClampNeg) (aF a0 a1 a2 a3 p.toNatClampNeg) 82 p w r) (h2 : spPup (fun t => agW day rgt (nI t) (12 * p.toInt).toNat (an p.toNatClampNeg).toInt.toNat) (an p.toNatClampNeg) 1000 p w r2) : r = r2 := by
  rcases h1 with ⟨a, b⟩ | ⟨a, b⟩
  · rcases h2 with ⟨_, d⟩ | ⟨c, _⟩
    · rw [b, d]
    · exfalso; omega
  · rcases h2 with ⟨c, _⟩ | ⟨_, d⟩
    · exfalso; omega
    · have p4 : p.toNatClampNeg < 4 := by rw [clC (x := p) rfl]; omega
      have e : ∀ t, t < 81 → gF g0 g1 g2 g3 p.toNatClampNeg t = (fun t => agW day rgt (nI t) (12 * p.toInt).toNat (an p.toNatClampNeg).toInt.toNat) t := by
        intro t ht
        show _ = agW day rgt (nI t) (12 * p.toInt).toNat (an p.toNatClampNeg).toInt.toNat
        rw [R _ p4 t ht, show 12 * p.toNatClampNeg = (12 * p.toInt).toNat by rw [clC (x := p) rfl]; omega]
      rw [Ra _ p4, mayF_eq e 81 (by omega), lkF_eq e 80 (by omega), dpF_eq e] at b
      have l := lk_le (g := fun t => agW day rgt (nI t) (12 * p.toInt).toNat (an p.toNatClampNeg).toInt.toNat) 80
      rw [e _ (by omega)] at b
      rcases b with ⟨x, b⟩ | ⟨x, b⟩ | ⟨x, b⟩ | ⟨x, b⟩ | ⟨x, b⟩ <;> rcases d with ⟨y, d⟩ | ⟨y, d⟩ | ⟨y, d⟩ | ⟨y, d⟩ | ⟨y, d⟩ <;> first | (exfalso; omega) | exact Int32.toInt_inj.mp (b.trans d.symm) | exact b.trans d.symm
def anC (g g' : Nat → Nat → Int32) (p d ri r : Int32) : Prop := (r.toInt < 0 ∧ ∀ q : Nat, q < 4 → ∀ t : Nat, t < 81 → g' q t = g q t) ∨ (0 ≤ r.toInt ∧ ∀ q : Nat, q < 4 → ∀ t : Nat, t < 81 → g' q t = if q = p.toNatClampNeg then g q t + incW (nI t) d ri else g q t)
def spAnC (A : Nat → Int32) (g : Nat → Nat → Int32) (p d ri r : Int32) (A' : Nat → Int32) (g' : Nat → Nat → Int32) : Prop := spAns A p d r A' ∧ anC g g' p d ri r
def spAnM (A day rgt : Nat → Int32) (p d ri r : Int32) (A' day' rgt' : Nat → Int32) : Prop := spAns A p d r A' ∧ ((r.toInt < 0 ∧ day' = day ∧ rgt' = rgt) ∨ (0 ≤ r.toInt ∧ day' = upd day (12 * p.toInt + (A p.toNatClampNeg).toInt).toNat d ∧ rgt' = upd rgt (12 * p.toInt + (A p.toNatClampNeg).toInt).toNat (vp_nar .boolean ri)))
theorem an_u0 {g0 g1 g2 g3 z : Nat → Int32} {d ri r : Int32} (hr : 0 ≤ r.toInt) (h : ∀ j : Nat, j < 81 → z j = g0 j + incW (nI j) d ri) : anC (gF g0 g1 g2 g3) (gF z g1 g2 g3) 0 d ri r := by
  refine .inr ⟨hr, fun q hq t ht => ?_⟩
  match q, hq with
  | 0, _ => exact h t ht
  | 1, _ => rfl
  | 2, _ => rfl
  | 3, _ => rfl
  | k + 4, hq => omega
theorem an_u1 {g0 g1 g2 g3 z : Nat → Int32} {d ri r : Int32} (hr : 0 ≤ r.toInt) (h : ∀ j : Nat, j < 81 → z j = g1 j + incW (nI j) d ri) : anC (gF g0 g1 g2 g3) (gF g0 z g2 g3) 1 d ri r := by
  refine .inr ⟨hr, fun q hq t ht => ?_⟩
  match q, hq with
  | 0, _ => rfl
  | 1, _ => exact h t ht
  | 2, _ => rfl
  | 3, _ => rfl
  | k + 4, hq => omega
theorem an_u2 {g0 g1 g2 g3 z : Nat → Int32} {d ri r : Int32} (hr : 0 ≤ r.toInt) (h : ∀ j : Nat, j < 81 → z j = g2 j + incW (nI j) d ri) : anC (gF g0 g1 g2 g3) (gF g0 g1 z g3) 2 d ri r := by
  refine .inr ⟨hr, fun q hq t ht => ?_⟩
  match q, hq with
  | 0, _ => rfl
  | 1, _ => rfl
  | 2, _ => exact h t ht
  | 3, _ => rfl
  | k + 4, hq => omega
theorem an_u3 {g0 g1 g2 g3 z : Nat → Int32} {d ri r : Int32} (hr : 0 ≤ r.toInt) (h : ∀ j : Nat, j < 81 → z j = g3 j + incW (nI j) d ri) : anC (gF g0 g1 g2 g3) (gF g0 g1 g2 z) 3 d ri r := by
  refine .inr ⟨hr, fun q hq t ht => ?_⟩
  match q, hq with
  | 0, _ => rfl
  | 1, _ => rfl
  | 2, _ => rfl
  | 3, _ => exact h t ht
  | k + 4, hq => omega
theorem spAn_rel {g0 g1 g2 g3 z0 z1 z2 z3 an day rgt an' day' rgt' : Nat → Int32} {a0 a1 a2 a3 b0 b1 b2 b3 p d ri r r2 : Int32} (R : puR g0 g1 g2 g3 an day rgt) (Ra : ∀ j, j < 4 → aF a0 a1 a2 a3 j = an j) (hr : rg 4 0 12 an) (hri : ri = 0 ∨ ri = 1) (h1 : spAnC (aF a0 a1 a2 a3) (gF g0 g1 g2 g3) p d ri r (aF b0 b1 b2 b3) (gF z0 z1 z2 z3)) (h2 : spAnM an day rgt p d ri r2 an' day' rgt') (hd : r = r2 ∧ ∀ j, j < 4 → aF b0 b1 b2 b3 j = an' j) : puR z0 z1 z2 z3 an' day' rgt' := by
  have er := hd.1
  subst er
  have nb : vp_nar .boolean ri = ri := by rcases hri with h | h <;> rw [h] <;> rfl
  rcases h1.2 with ⟨c, e⟩ | ⟨c, e⟩
  · rcases h2.2 with ⟨_, e1, e2⟩ | ⟨c2, _⟩
    · have ea : an' = an := by
        rcases h2.1 with q | q | q | q
        · exact q.2.2
        · exact q.2.2.2
        · exact q.2.2.2.2
        · exfalso
          have p4 : p.toNatClampNeg < 4 := by rw [clC (x := p) rfl]; omega
          have k := hr _ p4
          have := q.2.2.2.1
          rw [this, addC rfl (show ((1 : Int32)).toInt = 1 from rfl) (by omega) (by omega)] at c
          omega
      intro q hq t ht
      rw [e q hq t ht, e1, e2, ea]; exact R q hq t ht
    · exfalso; omega
  · rcases h2.2 with ⟨c2, _⟩ | ⟨_, e1, e2⟩
    · exfalso; omega
    · have ok : (0 ≤ p.toInt ∧ p.toInt ≤ 3) ∧ (an p.toNatClampNeg).toInt < 12 ∧ an' = upd an p.toNatClampNeg (an p.toNatClampNeg + 1) := by
        rcases h2.1 with q | q | q | q
        · have := q.2.1; rw [this] at c; exact absurd c (by decide)
        · have := q.2.2.1; rw [this] at c; exact absurd c (by decide)
        · have := q.2.2.2.1; rw [this] at c; exact absurd c (by decide)
        · exact ⟨q.1, q.2.2.1, q.2.2.2.2⟩
      obtain ⟨o1, o2, o3⟩ := ok
      have p4 : p.toNatClampNeg < 4 := by rw [clC (x := p) rfl]; omega
      have ep := clC (x := p) rfl
      have kr := hr _ p4
      intro q hq t ht
      have kq := hr q hq
      rw [e q hq t ht]
      by_cases z : q = p.toNatClampNeg
      · subst z
        rw [if_pos rfl, R _ p4 t ht, o3, pk_us, addC rfl (show ((1 : Int32)).toInt = 1 from rfl) (by omega) (by omega), show ((an p.toNatClampNeg).toInt + 1).toNat = (an p.toNatClampNeg).toInt.toNat + 1 by omega]
        show _ = agW day' rgt' (nI t) (12 * p.toNatClampNeg) (an p.toNatClampNeg).toInt.toNat + incW (nI t) (day' (12 * p.toNatClampNeg + (an p.toNatClampNeg).toInt.toNat)) (rgt' (12 * p.toNatClampNeg + (an p.toNatClampNeg).toInt.toNat))
        rw [aw_same (day := day) (rgt := rgt) (day2 := day') (rgt2 := rgt') _ (fun k hk => by rw [e1, e2, pk_un (by omega), pk_un (by omega)]; exact ⟨rfl, rfl⟩), e1, e2, show 12 * p.toNatClampNeg + (an p.toNatClampNeg).toInt.toNat = (12 * p.toInt + (an p.toNatClampNeg).toInt).toNat by omega, pk_us, pk_us, nb]
      · rw [if_neg z, R q hq t ht, o3, pk_un z, aw_same (day := day) (rgt := rgt) (day2 := day') (rgt2 := rgt') _ (fun k hk => by rw [e1, e2, pk_un (by omega), pk_un (by omega)]; exact ⟨rfl, rfl⟩)]
theorem negC {a : Int32} {A : Int} (ha : a.toInt = A) (h1 : -2147483648 ≤ -A) (h2 : -A ≤ 2147483647) : (-a).toInt = -A := by
  subst ha
  rw [Int32.toInt_neg]; exact ka_bmod h1 h2
theorem gg_at {day rgt : Nat → Int32} {y r : Int32} {lo n : Nat} (h : r = agW day rgt y lo n) (h0 : 0 ≤ y.toInt) : (fun t => agW day rgt (nI t) lo n) y.toNatClampNeg = r := by
  show agW day rgt (nI y.toNatClampNeg) lo n = r
  rw [clC (x := y) rfl, nI_toNat h0]; exact h.symm
theorem rn_of {day rgt : Nat → Int32} {t r : Int32} {lo n : Nat} (h : r = agW day rgt t lo n) (hn : n ≤ 12) : 0 ≤ r.toInt := by rw [h]; exact (aw_rg n hn).1
theorem my_sG {G : Nat → Int32} {a o r : Int32} {L R : Int} {N N' : Nat} (h : L = mayF G a N) (hg : G o.toNatClampNeg = r) (ho : o.toNatClampNeg = N) (hR : (r = a ∧ R = L + 1) ∨ (¬ r = a ∧ R = L + 0)) (hN : N' = N + 1) : R = mayF G a N' :=
  my_s h ho (by rw [hg]; exact hR.imp id (fun q => ⟨q.1, by omega⟩)) hN
def ppI (G : Nat → Int32) (i b : Int) (m : Int32) : Prop := (i = 0 ∧ b = 0 ∧ m = -1) ∨ (0 < i ∧ b = ((lkF G (i - 1).toNat : Nat) : Int) ∧ m = G (lkF G (i - 1).toNat))
theorem pp_0 {G : Nat → Int32} {i b : Int} {m : Int32} (hi : i = 0) (hb : b = 0) (hm : m = -1) : ppI G i b m := .inl ⟨hi, hb, hm⟩
theorem pp_y {G : Nat → Int32} {i b : Int} {m y r : Int32} (q : ppI G y.toInt b m) (hg : G y.toNatClampNeg = r) (h0 : 0 ≤ y.toInt) (c : m.toInt < r.toInt) (hi : i = y.toInt + 1) : ppI G i y.toInt r := by
  subst hi
  rw [clC (x := y) rfl] at hg
  refine .inr ⟨by omega, ?_⟩
  rw [show (y.toInt + 1 - 1).toNat = y.toInt.toNat by omega]
  rcases q with ⟨a, _, _⟩ | ⟨a, _, e⟩
  · rw [show y.toInt.toNat = 0 by omega] at hg ⊢
    exact ⟨by show y.toInt = ((0 : Nat) : Int); omega, hg.symm⟩
  · have k : lkF G y.toInt.toNat = y.toInt.toNat := by
      rw [show y.toInt.toNat = (y.toInt - 1).toNat + 1 by omega]
      show (if (G (lkF G (y.toInt - 1).toNat)).toInt < (G ((y.toInt - 1).toNat + 1)).toInt then (y.toInt - 1).toNat + 1 else lkF G (y.toInt - 1).toNat) = (y.toInt - 1).toNat + 1
      rw [← e, show (y.toInt - 1).toNat + 1 = y.toInt.toNat by omega, hg, if_pos c]
    rw [k]; exact ⟨by omega, hg.symm⟩
theorem pp_n {G : Nat → Int32} {i b : Int} {m y r : Int32} (q : ppI G y.toInt b m) (hg : G y.toNatClampNeg = r) (h0 : 0 ≤ y.toInt) (rn : 0 ≤ r.toInt) (c : r.toInt ≤ m.toInt) (hi : i = y.toInt + 1) : ppI G i b m := by
  subst hi
  rw [clC (x := y) rfl] at hg
  rcases q with ⟨_, _, e⟩ | ⟨a, d, e⟩
  · rw [e, show ((-1 : Int32)).toInt = -1 from rfl] at c; omega
  · have k : lkF G y.toInt.toNat = lkF G (y.toInt - 1).toNat := by
      rw [show y.toInt.toNat = (y.toInt - 1).toNat + 1 by omega]
      show (if (G (lkF G (y.toInt - 1).toNat)).toInt < (G ((y.toInt - 1).toNat + 1)).toInt then (y.toInt - 1).toNat + 1 else lkF G (y.toInt - 1).toNat) = lkF G (y.toInt - 1).toNat
      rw [← e, show (y.toInt - 1).toNat + 1 = y.toInt.toNat by omega, hg, if_neg (by omega)]
    refine .inr ⟨by omega, ?_⟩
    rw [show (y.toInt + 1 - 1).toNat = y.toInt.toNat by omega, k]; exact ⟨d, e⟩
theorem pp_e {G : Nat → Int32} {i b : Int} {m : Int32} (q : ppI G i b m) (hi : i = 81) : b = ((lkF G 80 : Nat) : Int) ∧ m = G (lkF G 80) := by
  subst hi
  rcases q with ⟨a, _, _⟩ | ⟨_, d, e⟩
  · omega
  · exact ⟨d, e⟩
theorem un_sG {G : Nat → Int32} {a d o f : Int32} {L R : Int} {N N' : Nat} (h : L = unF G a d N) (hf : (f = 1 ∧ G o.toNatClampNeg = a) ∨ (f = 0 ∧ ¬ G o.toNatClampNeg = a)) (ho : o.toInt = N) (hR : (¬ f = 0 ∧ ((sayW o d = true ∧ R = L + 1) ∨ (sayW o d = false ∧ R = L - 1))) ∨ (f = 0 ∧ R = L)) (hN : N' = N + 1) : R = unF G a d N' := by
  refine un_s h ho ?_ hN
  rcases hf with ⟨x, y⟩ | ⟨x, y⟩
  · rcases hR with z | z
    · exact .inl ⟨y, z.2⟩
    · rw [x] at z; exact absurd z.1 (by decide)
  · rcases hR with z | z
    · exact absurd x z.1
    · exact .inr ⟨y, z.2⟩
theorem my_sF {G : Nat → Int32} {a o f : Int32} {B L R : Int} {N N' : Nat} (h : L = B + mayF G a N) (hf : (f = 1 ∧ G o.toNatClampNeg = a) ∨ (f = 0 ∧ ¬ G o.toNatClampNeg = a)) (ho : o.toNatClampNeg = N) (hR : (¬ f = 0 ∧ R = L + 1) ∨ (f = 0 ∧ R = L)) (hN : N' = N + 1) : R = B + mayF G a N' := by
  have k : R - B = mayF G a N' := by
    refine my_s (L := L - B) (by omega) ho ?_ hN
    rcases hf with ⟨x, y⟩ | ⟨x, y⟩
    · rcases hR with z | z
      · exact .inl ⟨y, by omega⟩
      · rw [x] at z; exact absurd z.1 (by decide)
    · rcases hR with z | z
      · exact absurd x z.1
      · exact .inr ⟨y, by omega⟩
  omega
theorem may_rg {g : Nat → Int32} {a : Int32} : ∀ k : Nat, 0 ≤ mayF g a k ∧ mayF g a k ≤ k
  | 0 => ⟨Int.le_refl 0, Int.le_refl 0⟩
  | k + 1 => by
    have := may_rg (g := g) (a := a) k
    show 0 ≤ mayF g a k + (if g k = a then 1 else 0) ∧ mayF g a k + (if g k = a then 1 else 0) ≤ ((k + 1 : Nat) : Int)
    by_cases c : g k = a
    · rw [if_pos c]; omega
    · rw [if_neg c]; omega
/-- any: nothing may be, or no day has been asked -/
def anI (any d M : Int) : Prop := 0 ≤ any ∧ any ≤ 81 * (d - 1) ∧ (any = 0 ↔ (d = 1 ∨ M = 0))
theorem ay_0 {any d M : Int} (h : any = 0) (hd : d = 1) : anI any d M := ⟨by omega, by omega, ⟨fun _ => .inl hd, fun _ => h⟩⟩
theorem ay_s {G : Nat → Int32} {a : Int32} {any d any' d' : Int} {k : Nat} (q : anI any d (mayF G a 81)) (h : any' = any + mayF G a k) (hk : k = 81) (h1 : 1 ≤ d) (hd : d' = d + 1) : anI any' d' (mayF G a 81) := by
  subst hk
  have m := may_rg (g := G) (a := a) 81
  obtain ⟨q1, q2, q3⟩ := q
  refine ⟨by omega, by omega, ⟨fun z => .inr (by omega), fun z => ?_⟩⟩
  rcases z with z | z
  · omega
  · have := q3.mpr (.inr z); omega
theorem ay_e {any d M : Int} (q : anI any d M) (hd : d = 61) : (any = 0 ↔ M = 0) := by
  obtain ⟨_, _, q3⟩ := q
  rw [q3]; exact ⟨fun z => by omega, fun z => .inr z⟩
theorem an_ix {f g : Nat → Int32} {x v : Int32} {X : Int} (e : g = upd f x.toNatClampNeg v) (h : x.toInt = X) : g = upd f X.toNat v := by rw [← clC h]; exact e
theorem cast70 {G : Nat → Int32} {a : Int32} {L B : Int} {k k' : Nat} (h : L = B + mayF G a k) (e : k' = k) : L = B + mayF G a k' := by subst e; exact h
theorem cast99 {G : Nat → Int32} {a d : Int32} {L : Int} {k k' : Nat} (h : L = unF G a d k) (e : k' = k) : L = unF G a d k' := by subst e; exact h
theorem cast0 {G : Nat → Int32} {a : Int32} {L : Int} {k k' : Nat} (h : L = mayF G a k) (e : k' = k) : L = mayF G a k' := by subst e; exact h
