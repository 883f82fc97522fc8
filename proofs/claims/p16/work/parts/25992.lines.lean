theorem tR_cast {f : Nat → Int32} {K n a b : Int} (h : a = b) : tR f K n a = tR f K n b := by rw [h]
theorem tE_oneC {f : Nat → Int32} {n y K : Int} {a : Int32} (h : a.toInt < n) (hk : K = knd (f a.toNatClampNeg)) (h3 : K = 3) (e : y = a.toInt + 1) : y = tE f n a.toInt := tE_one h (by rw [← idx_eq]; exact hk) h3 e
theorem tE_runC {f : Nat → Int32} {n K : Int} {a y : Int32} (h : a.toInt < n) (hk : K = knd (f a.toNatClampNeg)) (h3 : K ≠ 3) (q : tR f K n y.toInt = tR f K n (a.toInt + 1)) (st : n ≤ y.toInt ∨ ¬ knd (f y.toNatClampNeg) = K) : y.toInt = tE f n a.toInt := tE_run h (by rw [← idx_eq]; exact hk) h3 q (by rw [← idx_eq]; exact st)
theorem tw_step {f sf : Nat → Int32} {a Z : Int} {x y r : Int32} (q : ∀ j : Nat, (j : Int) < y.toInt → f (a + j).toNat = chV (sf j)) (e : f x.toNatClampNeg = r) (hr : r = chV (sf y.toNatClampNeg)) (hx : x.toInt = a + y.toInt) (h0 : 0 ≤ y.toInt) (hz : Z = y.toInt + 1) : ∀ j : Nat, (j : Int) < Z → f (a + j).toNat = chV (sf j) := by
  intro j hj
  by_cases c : j = y.toNatClampNeg
  · have ey := clC (x := y) rfl
    subst c
    rw [show a + ((y.toNatClampNeg : Nat) : Int) = x.toInt by omega, ← idx_eq, e, hr]
  · have ey := clC (x := y) rfl
    exact q j (by omega)
theorem tw_no {f sf : Nat → Int32} {a e : Int} {N : Nat} {x y r : Int32} (he : ¬ f x.toNatClampNeg = r) (hr : r = chV (sf y.toNatClampNeg)) (hx : x.toInt = a + y.toInt) (h0 : 0 ≤ y.toInt) (hN : y.toInt < N) : ¬ wdP f a e N sf := by
  intro h
  have ey := clC (x := y) rfl
  have w := h.2 y.toNatClampNeg (by omega)
  rw [show a + ((y.toNatClampNeg : Nat) : Int) = x.toInt by omega, ← idx_eq] at w
  exact he (w.trans hr.symm)
theorem nx_of {f : Nat → Int32} {n p a e : Int} (h1 : a = tS f n p) (h2 : e = tE f n a) : e = nx f n p := by subst h1; exact h2
theorem nu_no {f : Nat → Int32} {n p lo hi a e : Int} {r : Int32} (h1 : a = tS f n p) (h2 : e = nx f n p) (h : ¬ (isN f a e ∧ (lo ≤ (nuV f a e).toInt ∧ (nuV f a e).toInt ≤ hi))) (hr : r = -1) : nuP f n p lo hi r := by
  subst h1; subst h2; exact .inr ⟨h, hr⟩
theorem nu_n1 {f : Nat → Int32} {n p lo hi a e : Int} (h1 : a = tS f n p) (h2 : e = nx f n p) (h : e - a < 1 ∨ 2 < e - a) : nuP f n p lo hi (-1) := nu_no h1 h2 (fun q => by have := q.1.1; have := q.1.2.1; omega) rfl
theorem nu_n2 {f : Nat → Int32} {n p lo hi e K : Int} {a : Int32} (h1 : a.toInt = tS f n p) (h2 : e = nx f n p) (hk : K = knd (f a.toNatClampNeg)) (h : K ≠ 2) : nuP f n p lo hi (-1) := nu_no h1 h2 (fun q => h (hk.trans (by rw [idx_eq]; exact q.1.2.2))) rfl
theorem nu_n3 {f : Nat → Int32} {n p lo hi e : Int} {a v : Int32} {k : Nat} (h1 : a.toInt = tS f n p) (h2 : e = nx f n p) (hv : v = nvF f a.toInt k) (hk : k = (e - a.toInt).toNat) (h : v.toInt < lo ∨ hi < v.toInt) : nuP f n p lo hi (-1) := by
  subst hk
  refine nu_no h1 h2 (fun q => ?_) rfl
  have w := q.2
  unfold nuV at w
  rw [← hv] at w; omega
theorem nu_ok {f : Nat → Int32} {n p lo hi e K : Int} {a v : Int32} {k : Nat} (h1 : a.toInt = tS f n p) (h2 : e = nx f n p) (hv : v = nvF f a.toInt k) (hk : k = (e - a.toInt).toNat) (hK : K = knd (f a.toNatClampNeg)) (hK2 : K = 2) (h0 : 1 ≤ e - a.toInt ∧ e - a.toInt ≤ 2) (h : lo ≤ v.toInt ∧ v.toInt ≤ hi) : nuP f n p lo hi v := by
  subst hk
  refine .inl ?_
  rw [← h1, ← h2]
  refine ⟨⟨h0.1, h0.2, by rw [← idx_eq, ← hK]; exact hK2⟩, ?_, hv⟩
  unfold nuV; rw [← hv]; exact h
theorem nv_zero {f : Nat → Int32} {a : Int} {k : Nat} (hk : k = 0) : (0 : Int32) = nvF f a k := by subst hk; rfl
theorem nv_stepC {f : Nat → Int32} {a : Int} {k k' : Nat} {v w y : Int32} (h : v = nvF f a k) (hk : k' = k + 1) (hy : y.toInt = a + k) (hw : w = v * 10 + f y.toNatClampNeg - 48) : w = nvF f a k' := nv_step h hk (by rw [← hy, ← idx_eq]; exact hw)
theorem nu_rg {f : Nat → Int32} {n p lo hi : Int} {r : Int32} (h : nuP f n p lo hi r) : (lo ≤ r.toInt ∧ r.toInt ≤ hi) ∨ r = -1 := by
  rcases h with ⟨_, b, c⟩ | ⟨_, c⟩
  · rw [c]; exact .inl b
  · exact .inr c
-- LINES
def rmT (f : Nat → Int32) (n p : Int) (x y : Int32) (st en : Int) : Prop := nuP f n p 0 7 x ∧ x ≠ -1 ∧ nuP f n (nx f n p) 0 8 y ∧ y ≠ -1 ∧ st = tS f n (nx f n p) ∧ en = nx f n (nx f n p)
def rmN (f : Nat → Int32) (n p st : Int) : Prop := (nuP f n p 0 7 (-1) ∧ st = tS f n p) ∨ (∃ x : Int32, nuP f n p 0 7 x ∧ x ≠ -1 ∧ nuP f n (nx f n p) 0 8 (-1) ∧ st = tS f n (nx f n p))
def nmT (f : Nat → Int32) (n p lo hi : Int) (y : Int32) (st en : Int) : Prop := nuP f n p lo hi y ∧ y ≠ -1 ∧ st = tS f n p ∧ en = nx f n p
def nmN (f : Nat → Int32) (n p lo hi st : Int) : Prop := nuP f n p lo hi (-1) ∧ st = tS f n p
def tkW (f : Nat → Int32) (n p : Int) : Int64 := tkV f n (tS f n p) (nx f n p)
def wkT (f : Nat → Int32) (n p : Int) (x y : Int32) (st en : Int) : Prop := nuP f n p 0 7 x ∧ x ≠ -1 ∧ tkW f n (nx f n p) = 3094387 ∧ nmT f n (nx f n (nx f n p)) 1 99 y st en
def wkN (f : Nat → Int32) (n p st : Int) : Prop := nmN f n p 0 7 st ∨ (∃ x : Int32, nuP f n p 0 7 x ∧ x ≠ -1 ∧ ((tkW f n (nx f n p) ≠ 3094387 ∧ st = tS f n (nx f n p)) ∨ (tkW f n (nx f n p) = 3094387 ∧ nmN f n (nx f n (nx f n p)) 1 99 st)))
def lnT (f : Nat → Int32) (n p : Int) (k x y : Int32) (st en : Int) : Prop := (tkW f n p = 365647 ∧ k = 0 ∧ rmT f n (nx f n p) x y st en) ∨ (tkW f n p = 670208 ∧ k = 1 ∧ x = 0 ∧ nmT f n (nx f n p) 1 99 y st en) ∨ (tkW f n p = 847604 ∧ k = 2 ∧ x = 0 ∧ nmT f n (nx f n p) 0 8 y st en) ∨ (tkW f n p = 453773 ∧ k = 3 ∧ wkT f n (nx f n p) x y st en)
def lnN (f : Nat → Int32) (n p st : Int) : Prop := (tkW f n p = 365647 ∧ rmN f n (nx f n p) st) ∨ (tkW f n p = 670208 ∧ nmN f n (nx f n p) 1 99 st) ∨ (tkW f n p = 847604 ∧ nmN f n (nx f n p) 0 8 st) ∨ (tkW f n p = 453773 ∧ wkN f n (nx f n p) st) ∨ ((tkW f n p ≠ 365647 ∧ tkW f n p ≠ 670208 ∧ tkW f n p ≠ 847604 ∧ tkW f n p ≠ 453773) ∧ st = tS f n p)
theorem nmT_one {f : Nat → Int32} {n p lo hi st en st2 en2 : Int} {y y2 : Int32} (h1 : nmT f n p lo hi y st en) (h2 : nmT f n p lo hi y2 st2 en2) : y = y2 ∧ st = st2 ∧ en = en2 := ⟨nuP_one h1.1 h2.1, h1.2.2.1.trans h2.2.2.1.symm, h1.2.2.2.trans h2.2.2.2.symm⟩
theorem nmTN {f : Nat → Int32} {n p lo hi st en st2 : Int} {y : Int32} (h1 : nmT f n p lo hi y st en) (h2 : nmN f n p lo hi st2) : False := h1.2.1 (nuP_one h1.1 h2.1)
theorem rmT_one {f : Nat → Int32} {n p st en st2 en2 : Int} {x y x2 y2 : Int32} (h1 : rmT f n p x y st en) (h2 : rmT f n p x2 y2 st2 en2) : x = x2 ∧ y = y2 ∧ st = st2 ∧ en = en2 := ⟨nuP_one h1.1 h2.1, nuP_one h1.2.2.1 h2.2.2.1, h1.2.2.2.2.1.trans h2.2.2.2.2.1.symm, h1.2.2.2.2.2.trans h2.2.2.2.2.2.symm⟩
theorem rmTN {f : Nat → Int32} {n p st en st2 : Int} {x y : Int32} (h1 : rmT f n p x y st en) (h2 : rmN f n p st2) : False := by
  rcases h2 with ⟨a, _⟩ | ⟨z, _, _, b, _⟩
  · exact h1.2.1 (nuP_one h1.1 a)
  · exact h1.2.2.2.1 (nuP_one h1.2.2.1 b)
theorem rmN_one {f : Nat → Int32} {n p st st2 : Int} (h1 : rmN f n p st) (h2 : rmN f n p st2) : st = st2 := by
  rcases h1 with ⟨a, b⟩ | ⟨x, a, a1, a2, b⟩
  · rcases h2 with ⟨_, d⟩ | ⟨x2, c, c1, _, _⟩
    · exact b.trans d.symm
    · exact absurd (nuP_one c a) c1
  · rcases h2 with ⟨c, _⟩ | ⟨x2, _, _, _, d⟩
    · exact absurd (nuP_one a c) a1
    · exact b.trans d.symm
theorem wkT_one {f : Nat → Int32} {n p st en st2 en2 : Int} {x y x2 y2 : Int32} (h1 : wkT f n p x y st en) (h2 : wkT f n p x2 y2 st2 en2) : x = x2 ∧ y = y2 ∧ st = st2 ∧ en = en2 := ⟨nuP_one h1.1 h2.1, nmT_one h1.2.2.2 h2.2.2.2⟩
theorem wkTN {f : Nat → Int32} {n p st en st2 : Int} {x y : Int32} (h1 : wkT f n p x y st en) (h2 : wkN f n p st2) : False := by
  rcases h2 with a | ⟨z, _, _, ⟨b, _⟩ | ⟨_, b⟩⟩
  · exact h1.2.1 (nuP_one h1.1 a.1)
  · exact b h1.2.2.1
  · exact nmTN h1.2.2.2 b
theorem wkN_one {f : Nat → Int32} {n p st st2 : Int} (h1 : wkN f n p st) (h2 : wkN f n p st2) : st = st2 := by
  rcases h1 with a | ⟨x, a, a1, b⟩
  · rcases h2 with c | ⟨x2, c, c1, _⟩
    · exact a.2.trans c.2.symm
    · exact absurd (nuP_one c a.1) c1
  · rcases h2 with c | ⟨x2, c, c1, d⟩
    · exact absurd (nuP_one a c.1) a1
    · rcases b with ⟨b, e⟩ | ⟨b, e⟩
      · rcases d with ⟨_, g⟩ | ⟨d, _⟩
        · exact e.trans g.symm
        · exact absurd d b
      · rcases d with ⟨d, _⟩ | ⟨_, g⟩
        · exact absurd b d
        · exact e.2.trans g.2.symm
theorem lnT_one {f : Nat → Int32} {n p st en st2 en2 : Int} {k x y k2 x2 y2 : Int32} (h1 : lnT f n p k x y st en) (h2 : lnT f n p k2 x2 y2 st2 en2) : k = k2 ∧ x = x2 ∧ y = y2 ∧ st = st2 ∧ en = en2 := by
  rcases h1 with ⟨a, b, c⟩ | ⟨a, b, b1, c⟩ | ⟨a, b, b1, c⟩ | ⟨a, b, c⟩ <;> rcases h2 with ⟨d, e, g⟩ | ⟨d, e, e1, g⟩ | ⟨d, e, e1, g⟩ | ⟨d, e, g⟩ <;> first | (exact absurd (a.symm.trans d) (by decide)) | skip
  · exact ⟨b.trans e.symm, rmT_one c g⟩
  · exact ⟨b.trans e.symm, b1.trans e1.symm, nmT_one c g⟩
  · exact ⟨b.trans e.symm, b1.trans e1.symm, nmT_one c g⟩
  · exact ⟨b.trans e.symm, wkT_one c g⟩
theorem lnTN {f : Nat → Int32} {n p st en st2 : Int} {k x y : Int32} (h1 : lnT f n p k x y st en) (h2 : lnN f n p st2) : False := by
  rcases h1 with ⟨a, b, c⟩ | ⟨a, b, b1, c⟩ | ⟨a, b, b1, c⟩ | ⟨a, b, c⟩ <;> rcases h2 with ⟨d, g⟩ | ⟨d, g⟩ | ⟨d, g⟩ | ⟨d, g⟩ | ⟨⟨d1, d2, d3, d4⟩, g⟩ <;> first | (exact absurd (a.symm.trans d) (by decide)) | exact absurd a d1 | exact absurd a d2 | exact absurd a d3 | exact absurd a d4 | skip
  · exact rmTN c g
  · exact nmTN c g
  · exact nmTN c g
  · exact wkTN c g
theorem lnN_one {f : Nat → Int32} {n p st st2 : Int} (h1 : lnN f n p st) (h2 : lnN f n p st2) : st = st2 := by
  rcases h1 with ⟨a, c⟩ | ⟨a, c⟩ | ⟨a, c⟩ | ⟨a, c⟩ | ⟨⟨a1, a2, a3, a4⟩, c⟩ <;> rcases h2 with ⟨d, g⟩ | ⟨d, g⟩ | ⟨d, g⟩ | ⟨d, g⟩ | ⟨⟨d1, d2, d3, d4⟩, g⟩ <;> first | (exact absurd (a.symm.trans d) (by decide)) | exact absurd a d1 | exact absurd a d2 | exact absurd a d3 | exact absurd a d4 | exact absurd d a1 | exact absurd d a2 | exact absurd d a3 | exact absurd d a4 | skip
  · exact rmN_one c g
  · exact c.2.trans g.2.symm
  · exact c.2.trans g.2.symm
  · exact wkN_one c g
  · exact c.trans g.symm
theorem lnT_rg {f : Nat → Int32} {n p st en : Int} {k x y : Int32} (h : lnT f n p k x y st en) (hp : p ≤ n) : p ≤ en ∧ en ≤ n := by
  have r1 := nx_rg (f := f) hp
  have r2 := nx_rg (f := f) r1.2.1
  have r3 := nx_rg (f := f) r2.2.1
  have r4 := nx_rg (f := f) r3.2.1
  rcases h with ⟨_, _, c⟩ | ⟨_, _, _, c⟩ | ⟨_, _, _, c⟩ | ⟨_, _, c⟩
  · rw [c.2.2.2.2.2]; omega
  · rw [c.2.2.2]; omega
  · rw [c.2.2.2]; omega
  · rw [c.2.2.2.2.2.2]; omega
/-- what a LINE of sort s may say -/
def lvOK (s y : Int32) : Prop := (0 ≤ y.toInt ∧ y.toInt ≤ 99) ∧ ((s = 1 ∨ s = 3) → 1 ≤ y.toInt) ∧ ((s = 0 ∨ s = 2) → y.toInt ≤ 8)
theorem lnT_y {f : Nat → Int32} {n p st en : Int} {k x y : Int32} (h : lnT f n p k x y st en) : lvOK k y := by
  rcases h with ⟨_, b, c⟩ | ⟨_, b, _, c⟩ | ⟨_, b, _, c⟩ | ⟨_, b, c⟩
  · rcases nu_rg c.2.2.1 with q | q
    · exact ⟨by omega, fun z => by rw [b] at z; exact absurd z (by decide), fun _ => q.2⟩
    · exact absurd q c.2.2.2.1
  · rcases nu_rg c.1 with q | q
    · exact ⟨by omega, fun _ => q.1, fun z => by rw [b] at z; exact absurd z (by decide)⟩
    · exact absurd q c.2.1
  · rcases nu_rg c.1 with q | q
    · exact ⟨by omega, fun z => by rw [b] at z; exact absurd z (by decide), fun _ => q.2⟩
    · exact absurd q c.2.1
  · rcases nu_rg c.2.2.2.1 with q | q
    · exact ⟨by omega, fun _ => q.1, fun z => by rw [b] at z; exact absurd z (by decide)⟩
    · exact absurd q c.2.2.2.2.1
theorem lnT_v {f : Nat → Int32} {n p st en : Int} {k x y : Int32} (h : lnT f n p k x y st en) : y ≠ -1 ∧ (0 ≤ x.toInt ∧ x.toInt ≤ 7) := by
  rcases h with ⟨_, _, c⟩ | ⟨_, _, b, c⟩ | ⟨_, _, b, c⟩ | ⟨_, _, c⟩
  · refine ⟨c.2.2.2.1, ?_⟩
    rcases nu_rg c.1 with q | q
    · exact q
    · exact absurd q c.2.1
  · exact ⟨c.2.1, by rw [b, Int32.toInt_zero]; omega⟩
  · exact ⟨c.2.1, by rw [b, Int32.toInt_zero]; omega⟩
  · refine ⟨c.2.2.2.2.1, ?_⟩
    rcases nu_rg c.1 with q | q
    · exact q
    · exact absurd q c.2.1
-- THE RULES
def bkU (k x y : Int32) (mo we : Nat → Int32) (ag ap : Int32) (mo' we' : Nat → Int32) (ag' ap' : Int32) : Prop := (k = 0 ∧ mo' = upd mo x.toNatClampNeg y ∧ we' = we ∧ ag' = ag ∧ ap' = ap) ∨ (k = 1 ∧ mo' = mo ∧ we' = we ∧ ag' = y ∧ ap' = ap) ∨ (k = 2 ∧ mo' = mo ∧ we' = we ∧ ag' = ag ∧ ap' = y) ∨ (k = 3 ∧ mo' = mo ∧ we' = upd we x.toNatClampNeg y ∧ ag' = ag ∧ ap' = ap)
def sem (f : Nat → Int32) (n en : Int) : Prop := tS f n en < n ∧ f (tS f n en).toNat = 59
def rdB (f : Nat → Int32) (n : Int) : Nat → Int → (Nat → Int32) → (Nat → Int32) → Int32 → Int32 → Prop
  | 0, p, mo, we, ag, ap => p = 0 ∧ (∀ j, j < 8 → mo j = -1) ∧ (∀ j, j < 8 → we j = -1) ∧ ag = -1 ∧ ap = -1
  | i + 1, p, mo, we, ag, ap => ∃ (q : Int) (mo0 we0 : Nat → Int32) (ag0 ap0 k x y : Int32) (st en : Int), rdB f n i q mo0 we0 ag0 ap0 ∧ lnT f n q k x y st en ∧ sem f n en ∧ p = nx f n en ∧ bkU k x y mo0 we0 ag0 ap0 mo we ag ap
def rdM (f : Nat → Int32) (n : Int) : Nat → Int → (Nat → Int32) → Prop
  | 0, p, _ => p = 0
  | i + 1, p, r => ∃ (q : Int) (k x y : Int32) (st en : Int), rdM f n i q r ∧ lnT f n q k x y st en ∧ sem f n en ∧ p = nx f n en ∧ r (3 * i) = k ∧ r (3 * i + 1) = x ∧ r (3 * i + 2) = y
theorem rdM_same {f : Nat → Int32} {n : Int} {r r2 : Nat → Int32} : ∀ (i : Nat) (p : Int), (∀ j : Nat, j < 3 * i → r2 j = r j) → rdM f n i p r → rdM f n i p r2
  | 0, _, _, h => h
  | i + 1, p, e, ⟨q, k, x, y, st, en, a, b, c, d, e1, e2, e3⟩ => ⟨q, k, x, y, st, en, rdM_same i q (fun j hj => e j (by omega)) a, b, c, d, by rw [e _ (by omega)]; exact e1, by rw [e _ (by omega)]; exact e2, by rw [e _ (by omega)]; exact e3⟩
/-- what the last LINE of a sort says, among the first i -/
def laF (r : Nat → Int32) (so ro wi : Int32) : Nat → Int32
  | 0 => wi
  | k + 1 => if r (3 * k) = so ∧ r (3 * k + 1) = ro then r (3 * k + 2) else laF r so ro wi k
def bkL (mo we : Nat → Int32) (ag ap : Int32) (r : Nat → Int32) (i : Nat) : Prop := (∀ j : Nat, j < 8 → mo j = laF r 0 (nI j) (-1) i) ∧ (∀ j : Nat, j < 8 → we j = laF r 3 (nI j) (-1) i) ∧ ag = laF r 1 0 (-1) i ∧ ap = laF r 2 0 (-1) i ∧ ∀ k : Nat, k < i → lvOK (r (3 * k)) (r (3 * k + 2))
theorem bk_step {f r mo we mo' we' : Nat → Int32} {n p st en : Int} {ag ap ag' ap' k x y : Int32} {i : Nat} (h : bkL mo we ag ap r i) (t : lnT f n p k x y st en) (u : bkU k x y mo we ag ap mo' we' ag' ap') (e1 : r (3 * i) = k) (e2 : r (3 * i + 1) = x) (e3 : r (3 * i + 2) = y) : bkL mo' we' ag' ap' r (i + 1) := by
  have xr := (lnT_v t).2
  have x0 : k = 1 ∨ k = 2 → x = 0 := by
    intro z
    rcases t with ⟨_, b, _⟩ | ⟨_, b, b1, _⟩ | ⟨_, b, b1, _⟩ | ⟨_, b, _⟩
    · rw [b] at z; exact absurd z (by decide)
    · exact b1
    · exact b1
    · rw [b] at z; exact absurd z (by decide)
  have hit : ∀ so ro : Int32, k = so → x = ro → laF r so ro (-1) (i + 1) = y := by
    intro so ro a b
    show (if r (3 * i) = so ∧ r (3 * i + 1) = ro then r (3 * i + 2) else laF r so ro (-1) i) = y
    rw [if_pos ⟨e1.trans a, e2.trans b⟩, e3]
  have mis : ∀ so ro : Int32, ¬ (k = so ∧ x = ro) → laF r so ro (-1) (i + 1) = laF r so ro (-1) i := by
    intro so ro a
    show (if r (3 * i) = so ∧ r (3 * i + 1) = ro then r (3 * i + 2) else laF r so ro (-1) i) = laF r so ro (-1) i
    rw [if_neg (fun z => a ⟨e1.symm.trans z.1, e2.symm.trans z.2⟩)]
  have xn : ∀ j : Nat, j < 8 → (x = nI j ↔ j = x.toNatClampNeg) := by
    intro j hj
    have cx := clC (x := x) rfl
    refine ⟨fun z => ?_, fun z => ?_⟩
    · rw [z, nI_clamp (by omega)]
    · rw [z, cx]; exact (nI_toNat xr.1).symm
  obtain ⟨h1, h2, h3, h4, h5⟩ := h
  have n5 : ∀ k : Nat, k < i + 1 → lvOK (r (3 * k)) (r (3 * k + 2)) := by
    intro q hq
    by_cases c : q = i
    · subst c; rw [e1, e3]; exact lnT_y t
    · exact h5 q (by omega)
  rcases u with ⟨b, u1, u2, u3, u4⟩ | ⟨b, u1, u2, u3, u4⟩ | ⟨b, u1, u2, u3, u4⟩ | ⟨b, u1, u2, u3, u4⟩
  · refine ⟨fun j hj => ?_, fun j hj => ?_, ?_, ?_, n5⟩
    · rw [u1]
      by_cases c : j = x.toNatClampNeg
      · rw [hit 0 (nI j) b ((xn j hj).mpr c), c, pk_us]
      · rw [mis 0 (nI j) (fun z => c ((xn j hj).mp z.2)), pk_un c]; exact h1 j hj
    · rw [u2, mis 3 (nI j) (fun z => by rw [b] at z; exact absurd z.1 (by decide))]; exact h2 j hj
    · rw [u3, mis 1 0 (fun z => by rw [b] at z; exact absurd z.1 (by decide))]; exact h3
    · rw [u4, mis 2 0 (fun z => by rw [b] at z; exact absurd z.1 (by decide))]; exact h4
  · refine ⟨fun j hj => ?_, fun j hj => ?_, ?_, ?_, n5⟩
    · rw [u1, mis 0 (nI j) (fun z => by rw [b] at z; exact absurd z.1 (by decide))]; exact h1 j hj
    · rw [u2, mis 3 (nI j) (fun z => by rw [b] at z; exact absurd z.1 (by decide))]; exact h2 j hj
    · rw [u3, hit 1 0 b (x0 (.inl b))]
    · rw [u4, mis 2 0 (fun z => by rw [b] at z; exact absurd z.1 (by decide))]; exact h4
  · refine ⟨fun j hj => ?_, fun j hj => ?_, ?_, ?_, n5⟩
    · rw [u1, mis 0 (nI j) (fun z => by rw [b] at z; exact absurd z.1 (by decide))]; exact h1 j hj
    · rw [u2, mis 3 (nI j) (fun z => by rw [b] at z; exact absurd z.1 (by decide))]; exact h2 j hj
    · rw [u3, mis 1 0 (fun z => by rw [b] at z; exact absurd z.1 (by decide))]; exact h3
    · rw [u4, hit 2 0 b (x0 (.inr b))]
  · refine ⟨fun j hj => ?_, fun j hj => ?_, ?_, ?_, n5⟩
    · rw [u1, mis 0 (nI j) (fun z => by rw [b] at z; exact absurd z.1 (by decide))]; exact h1 j hj
    · rw [u2]
      by_cases c : j = x.toNatClampNeg
      · rw [hit 3 (nI j) b ((xn j hj).mpr c), c, pk_us]
      · rw [mis 3 (nI j) (fun z => c ((xn j hj).mp z.2)), pk_un c]; exact h2 j hj
    · rw [u3, mis 1 0 (fun z => by rw [b] at z; exact absurd z.1 (by decide))]; exact h3
    · rw [u4, mis 2 0 (fun z => by rw [b] at z; exact absurd z.1 (by decide))]; exact h4
theorem rd_rel {f : Nat → Int32} {n : Int} {r : Nat → Int32} : ∀ (i : Nat) (p p2 : Int) (mo we : Nat → Int32) (ag ap : Int32), rdB f n i p mo we ag ap → rdM f n i p2 r → p = p2 ∧ bkL mo we ag ap r i
  | 0, p, p2, mo, we, ag, ap, ⟨a, b, c, d, e⟩, h => ⟨a.trans h.symm, b, c, d, e, fun k hk => absurd hk (Nat.not_lt_zero _)⟩
  | i + 1, p, p2, mo, we, ag, ap, ⟨q, mo0, we0, ag0, ap0, k, x, y, st, en, a, b, c, d, e⟩, ⟨q2, k2, x2, y2, st2, en2, a2, b2, c2, d2, e1, e2, e3⟩ => by
    obtain ⟨rfl, L⟩ := rd_rel i q q2 mo0 we0 ag0 ap0 a a2
    obtain ⟨rfl, rfl, rfl, rfl, rfl⟩ := lnT_one b b2
    exact ⟨d.trans d2.symm, bk_step L b e e1 e2 e3⟩
/-- the outcome of a reading: the class's -/
def roC (f : Nat → Int32) (n : Int) (r : Int32) (mo we : Nat → Int32) (ag ap li : Int32) : Prop := ∃ (i : Nat) (p : Int) (mo0 we0 : Nat → Int32) (ag0 ap0 : Int32), i < 10 ∧ rdB f n i p mo0 we0 ag0 ap0 ∧ (lnN f n p r.toInt ∨ (∃ (k x y : Int32) (st en : Int), lnT f n p k x y st en ∧ ((tS f n en = n ∧ r = -1 ∧ bkU k x y mo0 we0 ag0 ap0 mo we ag ap ∧ li = nI (i + 1)) ∨ (tS f n en < n ∧ (f (tS f n en).toNat ≠ 59 ∨ i = 9) ∧ r.toInt = tS f n en))))
/-- the model's: b is 1 where it is read, fa the place of the FAULT else -/
def roM (f : Nat → Int32) (n : Int) (b fa : Int32) (r : Nat → Int32) (m : Int32) : Prop := ∃ (i : Nat) (p : Int), i < 10 ∧ rdM f n i p r ∧ ((lnN f n p fa.toInt ∧ b = 0) ∨ (∃ (k x y : Int32) (st en : Int), lnT f n p k x y st en ∧ ((tS f n en = n ∧ b = 1 ∧ r (3 * i) = k ∧ r (3 * i + 1) = x ∧ r (3 * i + 2) = y ∧ m = nI (i + 1)) ∨ (tS f n en < n ∧ (f (tS f n en).toNat ≠ 59 ∨ i = 9) ∧ fa.toInt = tS f n en ∧ b = 0))))
theorem rdB_pre {f : Nat → Int32} {n : Int} : ∀ (j i : Nat) (p : Int) (mo we : Nat → Int32) (ag ap : Int32), rdB f n i p mo we ag ap → j < i → ∃ (q : Int) (mo0 we0 : Nat → Int32) (ag0 ap0 k x y : Int32) (st en : Int), rdB f n j q mo0 we0 ag0 ap0 ∧ lnT f n q k x y st en ∧ sem f n en
  | j, 0, _, _, _, _, _, _, h => absurd h (Nat.not_lt_zero _)
  | j, i + 1, p, mo, we, ag, ap, ⟨q, mo0, we0, ag0, ap0, k, x, y, st, en, a, b, c, _, _⟩, h => by
    by_cases e : j = i
    · subst e; exact ⟨q, mo0, we0, ag0, ap0, k, x, y, st, en, a, b, c⟩
    · exact rdB_pre j i q mo0 we0 ag0 ap0 a (by omega)
theorem rdM_pre {f : Nat → Int32} {n : Int} {r : Nat → Int32} : ∀ (j i : Nat) (p : Int), rdM f n i p r → j < i → ∃ (q : Int) (k x y : Int32) (st en : Int), rdM f n j q r ∧ lnT f n q k x y st en ∧ sem f n en
  | j, 0, _, _, h => absurd h (Nat.not_lt_zero _)
  | j, i + 1, p, ⟨q, k, x, y, st, en, a, b, c, _, _, _, _⟩, h => by
    by_cases e : j = i
    · subst e; exact ⟨q, k, x, y, st, en, a, b, c⟩
    · exact rdM_pre j i q a (by omega)
theorem ro_rel {f : Nat → Int32} {n : Int} {r b fa m ag ap li : Int32} {mo we R : Nat → Int32} (h1 : roC f n r mo we ag ap li) (h2 : roM f n b fa R m) : (b = 1 ∧ r = -1 ∧ li = m ∧ ∃ i : Nat, i < 10 ∧ m = nI (i + 1) ∧ bkL mo we ag ap R (i + 1)) ∨ (b = 0 ∧ r = fa) := by
  obtain ⟨i, p, mo0, we0, ag0, ap0, hi, B, o1⟩ := h1
  obtain ⟨j, p2, hj, Mm, o2⟩ := h2
  have eij : i = j := by
    rcases Nat.lt_trichotomy i j with c | c | c
    · exfalso
      obtain ⟨q, k, x, y, st, en, a, t, s⟩ := rdM_pre i j p2 Mm c
      obtain ⟨rfl, -⟩ := rd_rel i p q mo0 we0 ag0 ap0 B a
      rcases o1 with o1 | ⟨k2, x2, y2, st2, en2, t2, o1⟩
      · exact lnTN t o1
      · obtain ⟨-, -, -, -, rfl⟩ := lnT_one t t2
        rcases o1 with ⟨z, _⟩ | ⟨_, z, _⟩
        · have := s.1; omega
        · rcases z with z | z
          · exact z s.2
          · omega
    · exact c
    · exfalso
      obtain ⟨q, mo1, we1, ag1, ap1, k, x, y, st, en, a, t, s⟩ := rdB_pre j i p mo0 we0 ag0 ap0 B c
      obtain ⟨rfl, -⟩ := rd_rel j q p2 mo1 we1 ag1 ap1 a Mm
      rcases o2 with ⟨o2, _⟩ | ⟨k2, x2, y2, st2, en2, t2, o2⟩
      · exact lnTN t o2
      · obtain ⟨-, -, -, -, rfl⟩ := lnT_one t t2
        rcases o2 with ⟨z, _⟩ | ⟨_, z, _⟩
        · have := s.1; omega
        · rcases z with z | z
          · exact z s.2
          · omega
  subst eij
  obtain ⟨rfl, L⟩ := rd_rel i p p2 mo0 we0 ag0 ap0 B Mm
  rcases o1 with o1 | ⟨k, x, y, st, en, t, o1⟩
  · rcases o2 with ⟨o2, b0⟩ | ⟨k2, x2, y2, st2, en2, t2, o2⟩
    · exact .inr ⟨b0, Int32.toInt_inj.mp (lnN_one o1 o2)⟩
    · exact (lnTN t2 o1).elim
  · rcases o2 with ⟨o2, b0⟩ | ⟨k2, x2, y2, st2, en2, t2, o2⟩
    · exact (lnTN t o2).elim
    · obtain ⟨rfl, rfl, rfl, rfl, rfl⟩ := lnT_one t t2
      rcases o1 with ⟨z, r1, u, l1⟩ | ⟨z, z1, r1⟩
      · rcases o2 with ⟨_, b1, e1, e2, e3, m1⟩ | ⟨w, _⟩
        · exact .inl ⟨b1, r1, l1.trans m1.symm, i, hi, m1, bk_step L t u e1 e2 e3⟩
        · omega
      · rcases o2 with ⟨w, _⟩ | ⟨_, _, f1, b0⟩
        · omega
        · exact .inr ⟨b0, Int32.toInt_inj.mp (r1.trans f1.symm)⟩
-- rows for the readers
theorem ln_room {f : Nat → Int32} {n p a e st en : Int} {x y : Int32} (h1 : a = tS f n p) (h2 : e = tE f n a) (h0 : 0 ≤ a) (hn : a ≤ n) (w : wdP f a e (lenS.getD 0 0) (fS 0)) (h : rmT f n e x y st en) : lnT f n p 0 x y st en := by
  have e2 := nx_of h1 h2
  have t := (wd_iff (by decide) h0 hn h2).mp w
  rw [h1, e2] at t; rw [e2] at h
  exact .inl ⟨t, rfl, h⟩
theorem ln_roomN {f : Nat → Int32} {n p a e st : Int} (h1 : a = tS f n p) (h2 : e = tE f n a) (h0 : 0 ≤ a) (hn : a ≤ n) (w : wdP f a e (lenS.getD 0 0) (fS 0)) (h : rmN f n e st) : lnN f n p st := by
  have e2 := nx_of h1 h2
  have t := (wd_iff (by decide) h0 hn h2).mp w
  rw [h1, e2] at t; rw [e2] at h
  exact .inl ⟨t, h⟩
theorem ln_again {f : Nat → Int32} {n p a e st en : Int} {y : Int32} (h1 : a = tS f n p) (h2 : e = tE f n a) (h0 : 0 ≤ a) (hn : a ≤ n) (w : wdP f a e (lenS.getD 1 0) (fS 1)) (u : nuP f n e 1 99 y) (hy : ¬ y = -1) (s1 : st = tS f n e) (s2 : en = nx f n e) : lnT f n p 1 0 y st en := by
  have e2 := nx_of h1 h2
  have t := (wd_iff (by decide) h0 hn h2).mp w
  rw [h1, e2] at t; rw [e2] at u s1 s2
  exact .inr (.inl ⟨t, rfl, rfl, u, hy, s1, s2⟩)
theorem ln_againN {f : Nat → Int32} {n p a e st : Int} {y : Int32} (h1 : a = tS f n p) (h2 : e = tE f n a) (h0 : 0 ≤ a) (hn : a ≤ n) (w : wdP f a e (lenS.getD 1 0) (fS 1)) (u : nuP f n e 1 99 y) (hy : y = -1) (s1 : st = tS f n e) : lnN f n p st := by
  have e2 := nx_of h1 h2
  have t := (wd_iff (by decide) h0 hn h2).mp w
  rw [h1, e2] at t; rw [e2] at u s1; subst hy
  exact .inr (.inl ⟨t, u, s1⟩)
theorem ln_apart {f : Nat → Int32} {n p a e st en : Int} {y : Int32} (h1 : a = tS f n p) (h2 : e = tE f n a) (h0 : 0 ≤ a) (hn : a ≤ n) (w : wdP f a e (lenS.getD 2 0) (fS 2)) (u : nuP f n e 0 8 y) (hy : ¬ y = -1) (s1 : st = tS f n e) (s2 : en = nx f n e) : lnT f n p 2 0 y st en := by
  have e2 := nx_of h1 h2
  have t := (wd_iff (by decide) h0 hn h2).mp w
  rw [h1, e2] at t; rw [e2] at u s1 s2
  exact .inr (.inr (.inl ⟨t, rfl, rfl, u, hy, s1, s2⟩))
theorem ln_apartN {f : Nat → Int32} {n p a e st : Int} {y : Int32} (h1 : a = tS f n p) (h2 : e = tE f n a) (h0 : 0 ≤ a) (hn : a ≤ n) (w : wdP f a e (lenS.getD 2 0) (fS 2)) (u : nuP f n e 0 8 y) (hy : y = -1) (s1 : st = tS f n e) : lnN f n p st := by
  have e2 := nx_of h1 h2
  have t := (wd_iff (by decide) h0 hn h2).mp w
  rw [h1, e2] at t; rw [e2] at u s1; subst hy
  exact .inr (.inr (.inl ⟨t, u, s1⟩))
theorem ln_walk {f : Nat → Int32} {n p a e st en : Int} {x y : Int32} (h1 : a = tS f n p) (h2 : e = tE f n a) (h0 : 0 ≤ a) (hn : a ≤ n) (w : wdP f a e (lenS.getD 3 0) (fS 3)) (h : wkT f n e x y st en) : lnT f n p 3 x y st en := by
  have e2 := nx_of h1 h2
  have t := (wd_iff (by decide) h0 hn h2).mp w
  rw [h1, e2] at t; rw [e2] at h
  exact .inr (.inr (.inr ⟨t, rfl, h⟩))
theorem ln_walkN {f : Nat → Int32} {n p a e st : Int} (h1 : a = tS f n p) (h2 : e = tE f n a) (h0 : 0 ≤ a) (hn : a ≤ n) (w : wdP f a e (lenS.getD 3 0) (fS 3)) (h : wkN f n e st) : lnN f n p st := by
  have e2 := nx_of h1 h2
  have t := (wd_iff (by decide) h0 hn h2).mp w
  rw [h1, e2] at t; rw [e2] at h
  exact .inr (.inr (.inr (.inl ⟨t, h⟩)))
theorem ln_none {f : Nat → Int32} {n p a e st : Int} (h1 : a = tS f n p) (h2 : e = tE f n a) (h0 : 0 ≤ a) (hn : a ≤ n) (w0 : ¬ wdP f a e (lenS.getD 0 0) (fS 0)) (w1 : ¬ wdP f a e (lenS.getD 1 0) (fS 1)) (w2 : ¬ wdP f a e (lenS.getD 2 0) (fS 2)) (w3 : ¬ wdP f a e (lenS.getD 3 0) (fS 3)) (s1 : st = a) : lnN f n p st := by
  have e2 := nx_of h1 h2
  have t0 := fun z => w0 ((wd_iff (by decide) h0 hn h2).mpr z)
  have t1 := fun z => w1 ((wd_iff (by decide) h0 hn h2).mpr z)
  have t2 := fun z => w2 ((wd_iff (by decide) h0 hn h2).mpr z)
  have t3 := fun z => w3 ((wd_iff (by decide) h0 hn h2).mpr z)
  rw [h1, e2] at t0 t1 t2 t3
  exact .inr (.inr (.inr (.inr ⟨⟨t0, t1, t2, t3⟩, s1.trans h1⟩)))
theorem rm_yes {f : Nat → Int32} {n p e st en : Int} {x y : Int32} (u : nuP f n p 0 7 x) (hx : ¬ x = -1) (e1 : e = nx f n p) (v : nuP f n e 0 8 y) (hy : ¬ y = -1) (s1 : st = tS f n e) (s2 : en = nx f n e) : rmT f n p x y st en := by
  subst e1; exact ⟨u, hx, v, hy, s1, s2⟩
theorem rm_n1 {f : Nat → Int32} {n p st : Int} {x : Int32} (u : nuP f n p 0 7 x) (hx : x = -1) (s1 : st = tS f n p) : rmN f n p st := by subst hx; exact .inl ⟨u, s1⟩
theorem rm_n2 {f : Nat → Int32} {n p e st : Int} {x y : Int32} (u : nuP f n p 0 7 x) (hx : ¬ x = -1) (e1 : e = nx f n p) (v : nuP f n e 0 8 y) (hy : y = -1) (s1 : st = tS f n e) : rmN f n p st := by
  subst e1; subst hy; exact .inr ⟨x, u, hx, v, s1⟩
theorem wk_yes {f : Nat → Int32} {n p e a e2 st en : Int} {x y : Int32} (u : nuP f n p 0 7 x) (hx : ¬ x = -1) (e1 : e = nx f n p) (a1 : a = tS f n e) (a2 : e2 = tE f n a) (a0 : 0 ≤ a) (an : a ≤ n) (w : wdP f a e2 (lenS.getD 4 0) (fS 4)) (v : nuP f n e2 1 99 y) (hy : ¬ y = -1) (s1 : st = tS f n e2) (s2 : en = nx f n e2) : wkT f n p x y st en := by
  have e3 := nx_of a1 a2
  have t := (wd_iff (by decide) a0 an a2).mp w
  rw [a1, e3] at t; rw [e3] at v s1 s2; subst e1
  exact ⟨u, hx, t, v, hy, s1, s2⟩
theorem wk_n1 {f : Nat → Int32} {n p st : Int} {x : Int32} (u : nuP f n p 0 7 x) (hx : x = -1) (s1 : st = tS f n p) : wkN f n p st := by subst hx; exact .inl ⟨u, s1⟩
theorem wk_n2 {f : Nat → Int32} {n p e a e2 st : Int} {x : Int32} (u : nuP f n p 0 7 x) (hx : ¬ x = -1) (e1 : e = nx f n p) (a1 : a = tS f n e) (a2 : e2 = tE f n a) (a0 : 0 ≤ a) (an : a ≤ n) (w : ¬ wdP f a e2 (lenS.getD 4 0) (fS 4)) (s1 : st = a) : wkN f n p st := by
  have e3 := nx_of a1 a2
  have t := fun z => w ((wd_iff (by decide) a0 an a2).mpr z)
  rw [a1, e3] at t; subst e1
  exact .inr ⟨x, u, hx, .inl ⟨t, s1.trans a1⟩⟩
theorem wk_n3 {f : Nat → Int32} {n p e a e2 st : Int} {x y : Int32} (u : nuP f n p 0 7 x) (hx : ¬ x = -1) (e1 : e = nx f n p) (a1 : a = tS f n e) (a2 : e2 = tE f n a) (a0 : 0 ≤ a) (an : a ≤ n) (w : wdP f a e2 (lenS.getD 4 0) (fS 4)) (v : nuP f n e2 1 99 y) (hy : y = -1) (s1 : st = tS f n e2) : wkN f n p st := by
  have e3 := nx_of a1 a2
  have t := (wd_iff (by decide) a0 an a2).mp w
  rw [a1, e3] at t; rw [e3] at v s1; subst e1; subst hy
  exact .inr ⟨x, u, hx, .inr ⟨t, v, s1⟩⟩
-- the class's reading
theorem rb_init {f mo we : Nat → Int32} {n p : Int} {ag ap : Int32} {i : Nat} (hp : p = 0) (h1 : ∀ j, j < 8 → mo j = -1) (h2 : ∀ j, j < 8 → we j = -1) (h3 : ag = -1) (h4 : ap = -1) (hi : i = 0) : rdB f n i p mo we ag ap := by subst hi; exact ⟨hp, h1, h2, h3, h4⟩
def lnE (f : Nat → Int32) (n p st en : Int) (mo we : Nat → Int32) (ag ap : Int32) (mo' we' : Nat → Int32) (ag' ap' : Int32) : Prop := ∃ k x y : Int32, lnT f n p k x y st en ∧ bkU k x y mo we ag ap mo' we' ag' ap'
theorem rb_step {f mo we mo' we' : Nat → Int32} {n p st en a e : Int} {ag ap ag' ap' : Int32} {i i' : Nat} (q : rdB f n i p mo we ag ap) (h : lnE f n p st en mo we ag ap mo' we' ag' ap') (a1 : a = tS f n en) (a2 : e = tE f n a) (an : a < n) (s : (f a.toNat).toInt = 59) (hi : i' = i + 1) : rdB f n i' e mo' we' ag' ap' := by
  obtain ⟨k, x, y, t, u⟩ := h
  subst hi
  have e2 := nx_of a1 a2
  subst a1
  exact ⟨p, mo, we, ag, ap, k, x, y, st, en, q, t, ⟨an, Int32.toInt_inj.mp s⟩, e2, u⟩
theorem ro_n {f mo we mo' we' : Nat → Int32} {n p : Int} {ag ap ag' ap' li r : Int32} {i : Nat} (q : rdB f n i p mo we ag ap) (hi : i < 10) (h : lnN f n p r.toInt) : roC f n r mo' we' ag' ap' li := ⟨i, p, mo, we, ag, ap, hi, q, .inl h⟩
theorem ro_ok {f mo we mo' we' : Nat → Int32} {n p st en a : Int} {ag ap ag' ap' li r : Int32} {i : Nat} (q : rdB f n i p mo we ag ap) (hi : i < 10) (h : lnE f n p st en mo we ag ap mo' we' ag' ap') (a1 : a = tS f n en) (an : a ≤ n) (s : n ≤ a) (hr : r = -1) (hl : li = nI (i + 1)) : roC f n r mo' we' ag' ap' li := by
  obtain ⟨k, x, y, t, u⟩ := h
  exact ⟨i, p, mo, we, ag, ap, hi, q, .inr ⟨k, x, y, st, en, t, .inl ⟨by omega, hr, u, hl⟩⟩⟩
theorem ro_f {f mo we mo1 we1 mo' we' : Nat → Int32} {n p st en a : Int} {ag ap ag1 ap1 ag' ap' li r : Int32} {i : Nat} (q : rdB f n i p mo we ag ap) (hi : i < 10) (h : lnE f n p st en mo we ag ap mo1 we1 ag1 ap1) (a1 : a = tS f n en) (an : a < n) (s : (f a.toNat).toInt ≠ 59 ∨ i = 9) (hr : r.toInt = a) : roC f n r mo' we' ag' ap' li := by
  obtain ⟨k, x, y, t, u⟩ := h
  subst a1
  exact ⟨i, p, mo, we, ag, ap, hi, q, .inr ⟨k, x, y, st, en, t, .inr ⟨an, s.imp (fun z w => z (by rw [w]; rfl)) id, hr⟩⟩⟩
def roX (f : Nat → Int32) (n t : Int) : Prop := ∀ (r : Int32) (mo we : Nat → Int32) (ag ap li : Int32), r.toInt = t → roC f n r mo we ag ap li
theorem rx_step {f mo we mo1 we1 : Nat → Int32} {n p st en a z : Int} {ag ap ag1 ap1 : Int32} {i : Nat} (q : rdB f n i p mo we ag ap) (hi : i < 10) (h : lnE f n p st en mo we ag ap mo1 we1 ag1 ap1) (a1 : a = tS f n en) (an : a < n) (hz : z = (i : Int) + 1) : z ≤ 9 ∨ roX f n a := by
  by_cases c : i = 9
  · exact .inr (fun r mo' we' ag' ap' li hr => ro_f q hi h a1 an (.inr c) hr)
  · exact .inl (by omega)
theorem nI_s : ∀ k, k < 30 → nI (k + 1) = nI k + 1 := by decide +kernel
theorem li_0 {l : Int32} {k : Nat} (h : l = 0) (hk : k = 0) : l = nI k := by subst hk; exact h
theorem li_s {l x : Int32} {k k' : Nat} (h : l = nI k) (e : x = l + 1) (hk : k < 30) (hk' : k' = k + 1) : x = nI k' := by subst hk'; rw [nI_s k hk, ← h]; exact e
def spFltC (f : Nat → Int32) (len r : Int32) : Prop := ∃ (mo we : Nat → Int32) (ag ap li : Int32), roC f len.toInt r mo we ag ap li
def spRulC (f : Nat → Int32) (len : Int32) (mo we : Nat → Int32) (ag ap li r len' : Int32) (mo' we' : Nat → Int32) (ag' ap' li' : Int32) : Prop := ((∃ q : Int32, spFltC f len q ∧ q ≠ -1) ∧ r = -4 ∧ len' = len ∧ mo' = mo ∧ we' = we ∧ ag' = ag ∧ ap' = ap ∧ li' = li) ∨ (roC f len.toInt (-1) mo' we' ag' ap' li' ∧ r = li' ∧ len' = 0)
theorem la_wi {r : Nat → Int32} {so ro wi : Int32} : ∀ i : Nat, (∀ k : Nat, k < i → lvOK (r (3 * k)) (r (3 * k + 2))) → (laF r so ro (-1) i = -1 ∧ laF r so ro wi i = wi) ∨ (laF r so ro wi i = laF r so ro (-1) i ∧ lvOK so (laF r so ro (-1) i))
  | 0, _ => .inl ⟨rfl, rfl⟩
  | k + 1, h => by
    show ((if r (3 * k) = so ∧ r (3 * k + 1) = ro then r (3 * k + 2) else laF r so ro (-1) k) = -1 ∧ (if r (3 * k) = so ∧ r (3 * k + 1) = ro then r (3 * k + 2) else laF r so ro wi k) = wi) ∨ ((if r (3 * k) = so ∧ r (3 * k + 1) = ro then r (3 * k + 2) else laF r so ro wi k) = (if r (3 * k) = so ∧ r (3 * k + 1) = ro then r (3 * k + 2) else laF r so ro (-1) k) ∧ lvOK so (if r (3 * k) = so ∧ r (3 * k + 1) = ro then r (3 * k + 2) else laF r so ro (-1) k))
    by_cases c : r (3 * k) = so ∧ r (3 * k + 1) = ro
    · rw [if_pos c, if_pos c]
      have := h k (by omega)
      rw [c.1] at this
      exact .inr ⟨rfl, this⟩
    · rw [if_neg c, if_neg c]; exact la_wi k (fun q hq => h q (by omega))
theorem ne_m1 {v : Int32} (h : v.toInt ≠ -1) : ¬ v = -1 := fun q => by rw [q] at h; exact h rfl
theorem eq_m1 {v : Int32} (h : v.toInt = -1) : v = -1 := Int32.toInt_inj.mp h
theorem le_room {f mo we mo' : Nat → Int32} {n p a e st en : Int} {ag ap : Int32} (h1 : a = tS f n p) (h2 : e = tE f n a) (h0 : 0 ≤ a) (hn : a ≤ n) (w : wdP f a e (lenS.getD 0 0) (fS 0)) (h : ∃ x y : Int32, rmT f n e x y st en ∧ mo' = upd mo x.toNatClampNeg y) : lnE f n p st en mo we ag ap mo' we ag ap := by
  obtain ⟨x, y, t, u⟩ := h
  exact ⟨0, x, y, ln_room h1 h2 h0 hn w t, Or.inl ⟨rfl, u, rfl, rfl, rfl⟩⟩
theorem le_walk {f mo we we' : Nat → Int32} {n p a e st en : Int} {ag ap : Int32} (h1 : a = tS f n p) (h2 : e = tE f n a) (h0 : 0 ≤ a) (hn : a ≤ n) (w : wdP f a e (lenS.getD 3 0) (fS 3)) (h : ∃ x y : Int32, wkT f n e x y st en ∧ we' = upd we x.toNatClampNeg y) : lnE f n p st en mo we ag ap mo we' ag ap := by
  obtain ⟨x, y, t, u⟩ := h
  exact ⟨3, x, y, ln_walk h1 h2 h0 hn w t, Or.inr (Or.inr (Or.inr ⟨rfl, rfl, u, rfl, rfl⟩))⟩
theorem ro_cast {f mo we : Nat → Int32} {n : Int} {r ag ap li : Int32} (h : roC f n r mo we ag ap li) (e : r = -1) : roC f n (-1) mo we ag ap li := e ▸ h
abbrev wMdT (cI cZ cQ : ClassId) (b : Nat → Nat) (mday : Int32) (mdoo : Int32) (mtel : Int32) (mgai : Int32) (mbyt : Int32) (mtxt : Nat → Int32) (mpos : Int32) (mtka : Int32) (mtok : Int64) (mdig : Int32) (mnum : Int32) (mfau : Int32) (mrdm : Int32) (mlin : Int32) (mbsm : Int32) : va_W := [((b 39), .inr (10, [.int mday, .int mdoo, .ref (b 2), .ref (b 3), .ref (b 4), .ref (b 5), .int mtel, .int mgai, .ref (b 8), .ref (b 9), .ref (b 10), .ref (b 11), .ref (b 12), .ref (b 13), .ref (b 14), .ref (b 15), .ref (b 16), .ref (b 17), .ref (b 18), .int mbyt, .ref (b 20), .int mpos, .int mtka, .long mtok, .int mdig, .int mnum, .int mfau, .int mrdm, .ref (b 28), .int mlin, .ref (b 30), .ref (b 31), .ref (b 32), .ref (b 33), .int mbsm, .ref (b 35), .ref (b 36), .ref (b 37), .ref (b 38)])), ((b 20), .inl (cI, 160, .inl mtxt))]
abbrev wMdR (cI cZ cQ : ClassId) (b : Nat → Nat) (mday : Int32) (mdoo : Int32) (mtel : Int32) (mgai : Int32) (mbyt : Int32) (mtxt : Nat → Int32) (mpos : Int32) (mtka : Int32) (mtok : Int64) (mdig : Int32) (mnum : Int32) (mfau : Int32) (mrdm : Int32) (mrea : Nat → Int32) (mlin : Int32) (mbsm : Int32) : va_W := [((b 39), .inr (10, [.int mday, .int mdoo, .ref (b 2), .ref (b 3), .ref (b 4), .ref (b 5), .int mtel, .int mgai, .ref (b 8), .ref (b 9), .ref (b 10), .ref (b 11), .ref (b 12), .ref (b 13), .ref (b 14), .ref (b 15), .ref (b 16), .ref (b 17), .ref (b 18), .int mbyt, .ref (b 20), .int mpos, .int mtka, .long mtok, .int mdig, .int mnum, .int mfau, .int mrdm, .ref (b 28), .int mlin, .ref (b 30), .ref (b 31), .ref (b 32), .ref (b 33), .int mbsm, .ref (b 35), .ref (b 36), .ref (b 37), .ref (b 38)])), ((b 20), .inl (cI, 160, .inl mtxt)), ((b 28), .inl (cI, 30, .inl mrea))]
abbrev wMdL (cI cZ cQ : ClassId) (b : Nat → Nat) (mday : Int32) (mdoo : Int32) (mtel : Int32) (mgai : Int32) (mbyt : Int32) (mtxt : Nat → Int32) (mpos : Int32) (mtka : Int32) (mtok : Int64) (mdig : Int32) (mnum : Int32) (mfau : Int32) (mrdm : Int32) (mrea : Nat → Int32) (mlin : Int32) (mlne : Nat → Int32) (mbsm : Int32) : va_W := [((b 39), .inr (10, [.int mday, .int mdoo, .ref (b 2), .ref (b 3), .ref (b 4), .ref (b 5), .int mtel, .int mgai, .ref (b 8), .ref (b 9), .ref (b 10), .ref (b 11), .ref (b 12), .ref (b 13), .ref (b 14), .ref (b 15), .ref (b 16), .ref (b 17), .ref (b 18), .int mbyt, .ref (b 20), .int mpos, .int mtka, .long mtok, .int mdig, .int mnum, .int mfau, .int mrdm, .ref (b 28), .int mlin, .ref (b 30), .ref (b 31), .ref (b 32), .ref (b 33), .int mbsm, .ref (b 35), .ref (b 36), .ref (b 37), .ref (b 38)])), ((b 20), .inl (cI, 160, .inl mtxt)), ((b 28), .inl (cI, 30, .inl mrea)), ((b 30), .inl (cI, 30, .inl mlne))]
def spEra (len r len' : Int32) : Prop := r = len ∧ len' = 0
def byV (so : Int64) (i : Int32) : Int32 := ((so >>> ((8 * i).toInt64 &&& 63)) &&& 255).toInt32
def wrF (f : Nat → Int32) (l : Int) (so : Int64) : Nat → Nat → Int32
  | 0 => f
  | k + 1 => upd (wrF f l so k) (l + k).toNat (byV so (nI k))
theorem wr_0 {f : Nat → Int32} {l : Int} {so : Int64} {k : Nat} (hk : k = 0) : f = wrF f l so k := by subst hk; rfl
theorem wr_s {f g g' : Nat → Int32} {l : Int} {so : Int64} {k k' : Nat} {x i v : Int32} (h : g = wrF f l so k) (e : g' = upd g x.toNatClampNeg v) (hv : v = byV so i) (hx : x.toInt = l + k) (hi : i.toInt = k) (hk' : k' = k + 1) : g' = wrF f l so k' := by
  subst hk'; subst e; subst hv; subst h
  have ei : i = nI k := by
    have := nI_toNat (y := i) (by omega)
    rw [← this]; congr 1; omega
  show _ = upd (wrF f l so k) (l + k).toNat (byV so (nI k))
  rw [clC hx, ei]
def spWri (f : Nat → Int32) (len : Int32) (so : Int64) (n r : Int32) (f' : Nat → Int32) (len' : Int32) : Prop := ((n.toInt < 1 ∨ 8 < n.toInt) ∧ r = -3 ∧ f' = f ∧ len' = len) ∨ ((1 ≤ n.toInt ∧ n.toInt ≤ 8) ∧ 160 < len.toInt + n.toInt ∧ r = -5 ∧ f' = f ∧ len' = len) ∨ ((1 ≤ n.toInt ∧ n.toInt ≤ 8) ∧ len.toInt + n.toInt ≤ 160 ∧ r = len' ∧ len'.toInt = len.toInt + n.toInt ∧ f' = wrF f len.toInt so n.toInt.toNat)
theorem wr_e {f g : Nat → Int32} {l : Int} {so : Int64} {k k' : Nat} (h : g = wrF f l so k) (e : k' = k) : g = wrF f l so k' := by subst e; exact h
