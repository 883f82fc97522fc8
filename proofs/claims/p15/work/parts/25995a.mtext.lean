theorem ir_walk2 {f re re2 re3 : Nat → Int32} {n p e e3 fa : Int} {at_ b k : Int32} (h : ilB f n p at_ k re re2) (hk : k = 3) (e1 : e = nx f n p) (i1 : imT f n e 0 7 b.toNatClampNeg re2 re3 e3) (hb : b.toInt = at_.toInt + 1) (h0 : 0 ≤ at_.toInt) (w : tkW f n e3 ≠ 3094387) (hf : fa = tS f n e3) : lnR f n p at_ re re3 fa := by
  have lo := im_low i1 (at_ := at_) (by omega) h0 h.2.2.2
  obtain ⟨x, u1, u2, u3, u4⟩ := i1
  subst e1
  rw [u4] at w hf
  exact ⟨.inr (.inr (.inr (.inl ⟨(lk_k h.1).2.2.2.1 hk, .inr ⟨x, u1, u2, .inl ⟨w, hf⟩⟩⟩))), lo⟩
theorem ir_walk3 {f re re2 re3 re9 : Nat → Int32} {n p e e3 e5 fa : Int} {at_ b k : Int32} (h : ilB f n p at_ k re re2) (hk : k = 3) (e1 : e = nx f n p) (i1 : imT f n e 0 7 b.toNatClampNeg re2 re3 e3) (hb : b.toInt = at_.toInt + 1) (h0 : 0 ≤ at_.toInt) (w : tkW f n e3 = 3094387) (e2 : e5 = nx f n e3) (i : imN f n e5 1 99 fa re3 re9) : lnR f n p at_ re re9 fa := by
  obtain ⟨i, e9⟩ := i
  subst e9
  have lo := im_low i1 (at_ := at_) (by omega) h0 h.2.2.2
  obtain ⟨x, u1, u2, u3, u4⟩ := i1
  subst e1; subst e2
  rw [u4] at w i
  exact ⟨.inr (.inr (.inr (.inl ⟨(lk_k h.1).2.2.2.1 hk, .inr ⟨x, u1, u2, .inr ⟨w, i⟩⟩⟩))), lo⟩
-- the reading
def irS (f : Nat → Int32) (n : Int) (re : Nat → Int32) (m tka : Int32) (tok : Int64) : Prop := ∃ (i : Nat) (p : Int) (k x y : Int32) (st en : Int), i < 10 ∧ rdM f n i p re ∧ lnT f n p k x y st en ∧ re (3 * i) = k ∧ re (3 * i + 1) = x ∧ re (3 * i + 2) = y ∧ m = nI (i + 1) ∧ tka.toInt = tS f n en ∧ tok = tkW f n en ∧ en ≤ n ∧ (¬ sem f n en ∨ i = 9)
def irI (f : Nat → Int32) (n : Int) (more : Int32) (pos : Int) (re : Nat → Int32) (m tka : Int32) (tok : Int64) : Prop := (more = 1 ∧ rdM f n m.toInt.toNat pos re) ∨ (more = 0 ∧ irS f n re m tka tok)
theorem ii_init {f re : Nat → Int32} {n pos : Int} {m tka : Int32} {tok : Int64} (hp : pos = 0) (hm : m.toInt.toNat = 0) : irI f n 1 pos re m tka tok := .inl ⟨rfl, by rw [hm]; exact hp⟩
theorem ii_rd {f re : Nat → Int32} {n pos : Int} {more m tka : Int32} {tok : Int64} (h : irI f n more pos re m tka tok) (hm : ¬ more = 0) : rdM f n m.toInt.toNat pos re := by
  rcases h with h | h
  · exact h.2
  · exact absurd h.1 hm
theorem ln_at {at_ m : Int32} (h : at_.toInt = 3 * m.toInt) (h0 : 0 ≤ m.toInt) : at_.toNatClampNeg = 3 * m.toInt.toNat := by rw [clC h]; omega
theorem ii_more {f re re' : Nat → Int32} {n p en e : Int} {m m' at_ tka : Int32} {tok tok0 : Int64} {tk0 : Int32} (q : rdM f n m.toInt.toNat p re) (h0 : 0 ≤ m.toInt) (h : lnM f n p at_ re re' en) (ha : at_.toInt = 3 * m.toInt) (hen : en ≤ n) (a1 : tka.toInt = tS f n en) (a2 : e = tE f n tka.toInt) (t : tok = tkV f n tka.toInt e) (c : lg_cmp tok (-3) = 0) (hm : m'.toInt = m.toInt + 1) : irI f n 1 e re' m' tk0 tok0 := by
  obtain ⟨k, x, y, st, t1, e1, e2, e3, lo⟩ := h
  have e5 := nx_of a1 a2
  have ea := ln_at ha h0
  rw [ea] at e1 e2 e3
  refine .inl ⟨rfl, ?_⟩
  rw [show m'.toInt.toNat = m.toInt.toNat + 1 by omega]
  have tr := tS_rg (f := f) hen
  have s := (tk_semi (by rw [a1]; exact tr.2) a2).mp (by rw [← t]; exact (lg_cmp_eq _ _).mp c)
  refine ⟨p, k, x, y, st, en, rdM_same _ p (fun j hj => lo j (by omega)) q, t1, ?_, e5, e1, e2, e3⟩
  rw [a1] at s; exact s
theorem ii_stop {f re re' : Nat → Int32} {n p en e : Int} {m m' at_ tka : Int32} {tok : Int64} (q : rdM f n m.toInt.toNat p re) (h0 : 0 ≤ m.toInt) (h9 : m.toInt ≤ 9) (h : lnM f n p at_ re re' en) (ha : at_.toInt = 3 * m.toInt) (hen : en ≤ n) (a1 : tka.toInt = tS f n en) (a2 : e = tE f n tka.toInt) (t : tok = tkV f n tka.toInt e) (c : ¬ lg_cmp tok (-3) = 0 ∨ 10 ≤ m'.toInt) (hm : m'.toInt = m.toInt + 1) : irI f n 0 e re' m' tka tok := by
  obtain ⟨k, x, y, st, t1, e1, e2, e3, lo⟩ := h
  have e5 := nx_of a1 a2
  have ea := ln_at ha h0
  rw [ea] at e1 e2 e3
  have tr := tS_rg (f := f) hen
  refine .inr ⟨rfl, m.toInt.toNat, p, k, x, y, st, en, by omega, rdM_same _ p (fun j hj => lo j (by omega)) q, t1, e1, e2, e3, ?_, a1, ?_, hen, ?_⟩
  · have := nI_toNat (y := m') (by omega)
    rw [← this]; congr 1; omega
  · rw [t, a1, e5]; rfl
  · rcases c with c | c
    · left
      intro s
      refine c ((lg_cmp_eq _ _).mpr ?_)
      rw [t]
      refine (tk_semi (by rw [a1]; exact tr.2) a2).mpr ?_
      rw [a1]; exact s
    · right; omega
theorem io_fail {f re re' : Nat → Int32} {n p : Int} {m at_ fa m' : Int32} (q : rdM f n m.toInt.toNat p re) (h0 : 0 ≤ m.toInt) (h9 : m.toInt ≤ 9) (h : lnR f n p at_ re re' fa.toInt) (ha : at_.toInt = 3 * m.toInt) : roM f n 0 fa re' m' := by
  have ea := ln_at ha h0
  exact ⟨m.toInt.toNat, p, by omega, rdM_same _ p (fun j hj => h.2 j (by omega)) q, .inl ⟨h.1, rfl⟩⟩
theorem io_ok {f re : Nat → Int32} {n pos : Int} {more m tka fa : Int32} {tok : Int64} (h : irI f n more pos re m tka tok) (hm : more = 0) (c : lg_cmp tok (-2) = 0) : roM f n 1 fa re m := by
  rcases h with h | ⟨_, i, p, k, x, y, st, en, hi, q, t1, e1, e2, e3, em, a1, t, hen, s⟩
  · rw [h.1] at hm; exact absurd hm (by decide)
  · have tr := tS_rg (f := f) hen
    have z := (tk_end tr.2 rfl).mp (by have := (lg_cmp_eq _ _).mp c; rw [t] at this; exact this)
    exact ⟨i, p, hi, q, .inr ⟨k, x, y, st, en, t1, .inl ⟨z, rfl, e1, e2, e3, em⟩⟩⟩
theorem io_f {f re : Nat → Int32} {n pos : Int} {more m tka fa m' : Int32} {tok : Int64} (h : irI f n more pos re m tka tok) (hm : more = 0) (c : ¬ lg_cmp tok (-2) = 0) (hf : fa = tka) : roM f n 0 fa re m' := by
  rcases h with h | ⟨_, i, p, k, x, y, st, en, hi, q, t1, e1, e2, e3, em, a1, t, hen, s⟩
  · rw [h.1] at hm; exact absurd hm (by decide)
  · have tr := tS_rg (f := f) hen
    have z : tS f n en ≠ n := fun z => c ((lg_cmp_eq _ _).mpr (by rw [t]; exact (tk_end tr.2 rfl).mpr z))
    subst hf
    refine ⟨i, p, hi, q, .inr ⟨k, x, y, st, en, t1, .inr ⟨by omega, ?_, a1, rfl⟩⟩⟩
    rcases s with s | s
    · exact .inl (fun w => s ⟨by omega, w⟩)
    · exact .inr s
def spFltM (f : Nat → Int32) (n r : Int32) : Prop := ∃ (b fa m : Int32) (re : Nat → Int32), roM f n.toInt b fa re m ∧ ((b = 1 ∧ r = -1) ∨ (b = 0 ∧ r = fa))
def spRulM (f : Nat → Int32) (n : Int32) (li : Nat → Int32) (ls r n' : Int32) (li' : Nat → Int32) (ls' : Int32) : Prop := ((∃ (fa m : Int32) (re : Nat → Int32), roM f n.toInt 0 fa re m) ∧ r = -4 ∧ n' = n ∧ li' = li ∧ ls' = ls) ∨ (∃ (fa : Int32) (re : Nat → Int32), roM f n.toInt 1 fa re ls' ∧ r = ls' ∧ n' = 0 ∧ ∀ j : Nat, j < 30 → li' j = re j)
theorem spFlt_rel {f g : Nat → Int32} {len n r r2 : Int32} (e1 : f = g) (e2 : len = n) (h1 : spFltC f len r) (h2 : spFltM g n r2) : r = r2 := by
  subst e1; subst e2
  obtain ⟨mo, we, ag, ap, li, c⟩ := h1
  obtain ⟨b, fa, m, re, d, o⟩ := h2
  rcases ro_rel c d with ⟨b1, r1, _⟩ | ⟨b0, r1⟩
  · rcases o with ⟨_, o⟩ | ⟨o, _⟩
    · rw [r1, o]
    · rw [b1] at o; exact absurd o (by decide)
  · rcases o with ⟨o, _⟩ | ⟨_, o⟩
    · rw [b0] at o; exact absurd o (by decide)
    · rw [r1, o]
theorem rmN_nn {f : Nat → Int32} {n p st : Int} (h : rmN f n p st) (h0 : 0 ≤ p) (hn : p ≤ n) : 0 ≤ st := by
  have r1 := nx_rg (f := f) hn
  have a := tS_rg (f := f) hn
  have b := tS_rg (f := f) r1.2.1
  rcases h with ⟨_, e⟩ | ⟨_, _, _, _, e⟩ <;> omega
theorem wkN_nn {f : Nat → Int32} {n p st : Int} (h : wkN f n p st) (h0 : 0 ≤ p) (hn : p ≤ n) : 0 ≤ st := by
  have r1 := nx_rg (f := f) hn
  have r2 := nx_rg (f := f) r1.2.1
  have a := tS_rg (f := f) hn
  have b := tS_rg (f := f) r1.2.1
  have c := tS_rg (f := f) r2.2.1
  rcases h with ⟨_, e⟩ | ⟨_, _, _, ⟨_, e⟩ | ⟨_, _, e⟩⟩ <;> omega
theorem lnN_nn {f : Nat → Int32} {n p st : Int} (h : lnN f n p st) (h0 : 0 ≤ p) (hn : p ≤ n) : 0 ≤ st := by
  have r1 := nx_rg (f := f) hn
  have a := tS_rg (f := f) hn
  have b := tS_rg (f := f) r1.2.1
  rcases h with ⟨_, c⟩ | ⟨_, _, c⟩ | ⟨_, _, c⟩ | ⟨_, c⟩ | ⟨_, c⟩
  · exact rmN_nn c (by omega) r1.2.1
  · omega
  · omega
  · exact wkN_nn c (by omega) r1.2.1
  · omega
theorem rdM_rg {f r : Nat → Int32} {n : Int} (hn : 0 ≤ n) : ∀ (i : Nat) (p : Int), rdM f n i p r → 0 ≤ p ∧ p ≤ n
  | 0, p, h => by have h2 : p = 0 := h; omega
  | i + 1, p, ⟨q, k, x, y, st, en, a, b, _, d, _, _, _⟩ => by
    have i1 := rdM_rg hn i q a
    have i2 := lnT_rg b i1.2
    have i3 := nx_rg (f := f) i2.2
    omega
theorem roM_nn {f re : Nat → Int32} {n : Int} {fa m : Int32} (hn : 0 ≤ n) (h : roM f n 0 fa re m) : 0 ≤ fa.toInt := by
  obtain ⟨i, p, _, q, o⟩ := h
  have r := rdM_rg hn i p q
  rcases o with ⟨a, _⟩ | ⟨k, x, y, st, en, t, ⟨_, z, _⟩ | ⟨_, _, z, _⟩⟩
  · exact lnN_nn a r.1 r.2
  · exact absurd z (by decide)
  · have i2 := lnT_rg t r.2
    have i3 := tS_rg (f := f) i2.2
    omega
/-- the RULES that hold: the class's book, the model's lines -/
def bkR (mo we : Nat → Int32) (ag ap li : Int32) (L : Nat → Int32) (ls : Int32) : Prop := li = ls ∧ ∃ i : Nat, i ≤ 10 ∧ ls = nI i ∧ bkL mo we ag ap L i
theorem laF_same {r r2 : Nat → Int32} {so ro wi : Int32} : ∀ i : Nat, (∀ j : Nat, j < 3 * i → r2 j = r j) → laF r2 so ro wi i = laF r so ro wi i
  | 0, _ => rfl
  | k + 1, h => by
    show (if r2 (3 * k) = so ∧ r2 (3 * k + 1) = ro then r2 (3 * k + 2) else laF r2 so ro wi k) = (if r (3 * k) = so ∧ r (3 * k + 1) = ro then r (3 * k + 2) else laF r so ro wi k)
    rw [laF_same k (fun j hj => h j (by omega)), h (3 * k) (by omega), h (3 * k + 1) (by omega), h (3 * k + 2) (by omega)]
theorem bkL_same {mo we r r2 : Nat → Int32} {ag ap : Int32} {i : Nat} (e : ∀ j : Nat, j < 3 * i → r2 j = r j) (h : bkL mo we ag ap r i) : bkL mo we ag ap r2 i := by
  obtain ⟨h1, h2, h3, h4, h5⟩ := h
  refine ⟨fun j hj => ?_, fun j hj => ?_, ?_, ?_, fun k hk => ?_⟩
  · rw [laF_same i e]; exact h1 j hj
  · rw [laF_same i e]; exact h2 j hj
  · rw [laF_same i e]; exact h3
  · rw [laF_same i e]; exact h4
  · rw [e _ (by omega), e _ (by omega)]; exact h5 k hk
theorem bk_init {mo we L : Nat → Int32} {ag ap li ls : Int32} (h1 : ∀ j, j < 8 → mo j = -1) (h2 : ∀ j, j < 8 → we j = -1) (h3 : ag = -1) (h4 : ap = -1) (h5 : li = 0) (h6 : ls = 0) : bkR mo we ag ap li L ls := ⟨h5.trans h6.symm, 0, by decide, h6, h1, h2, h3, h4, fun k hk => absurd hk (Nat.not_lt_zero _)⟩
theorem spRul_rel {f g mo we mo' we' L L' : Nat → Int32} {len n ag ap li r len' ag' ap' li' ls r2 n' ls' : Int32} (e1 : f = g) (e2 : len = n) (hn : 0 ≤ n.toInt ∧ n.toInt ≤ 160) (R : bkR mo we ag ap li L ls) (h1 : spRulC f len mo we ag ap li r len' mo' we' ag' ap' li') (h2 : spRulM g n L ls r2 n' L' ls') : r = r2 ∧ len' = n' ∧ bkR mo' we' ag' ap' li' L' ls' := by
  subst e1; subst e2
  rcases h1 with ⟨⟨q, ⟨m1, w1, g1, p1, l1, c⟩, qn⟩, a0, a1, a2, a3, a4, a5, a6⟩ | ⟨c, a0, a1⟩
  · rcases h2 with ⟨_, b0, b1, b2, b3⟩ | ⟨fa, re, d, _⟩
    · rw [a0, b0, a1, b1, a2, a3, a4, a5, a6, b2, b3]; exact ⟨rfl, rfl, R⟩
    · rcases ro_rel c d with h | h
      · exact absurd h.2.1 qn
      · exact absurd h.1 (by decide)
  · rcases h2 with ⟨⟨fa, m, re, d⟩, _⟩ | ⟨fa, re, d, b0, b1, b2⟩
    · rcases ro_rel c d with h | h
      · exact absurd h.1 (by decide)
      · have := roM_nn hn.1 d
        rw [← h.2] at this; exact absurd this (by decide)
    · rcases ro_rel c d with ⟨_, _, el, i, hi, em, L1⟩ | h
      · rw [a0, b0, a1, b1]
        exact ⟨el, rfl, el, i + 1, by omega, em, bkL_same (fun j hj => b2 j (by omega)) L1⟩
      · exact absurd h.1 (by decide)
theorem spEra_rel {len n r r2 len' n' : Int32} (e : len = n) (h1 : spEra len r len') (h2 : spEra n r2 n') : r = r2 ∧ len' = n' := ⟨h1.1.trans (e.trans h2.1.symm), h1.2.trans h2.2.symm⟩
theorem spWri_rel {f g f' g' : Nat → Int32} {len n0 n r r2 len' n' : Int32} {so : Int64} (e1 : f = g) (e2 : len = n0) (h1 : spWri f len so n r f' len') (h2 : spWri g n0 so n r2 g' n') : r = r2 ∧ f' = g' ∧ len' = n' := by
  subst e1; subst e2
  rcases h1 with ⟨a, b, c, d⟩ | ⟨a, a1, b, c, d⟩ | ⟨a, a1, b, c, d⟩ <;> rcases h2 with ⟨a2, b2, c2, d2⟩ | ⟨a2, a3, b2, c2, d2⟩ | ⟨a2, a3, b2, c2, d2⟩ <;> first | (exfalso; omega) | skip
  · exact ⟨b.trans b2.symm, c.trans c2.symm, d.trans d2.symm⟩
  · exact ⟨b.trans b2.symm, c.trans c2.symm, d.trans d2.symm⟩
  · have e : len' = n' := Int32.toInt_inj.mp (c.trans c2.symm)
    exact ⟨b.trans (e.trans b2.symm), d.trans d2.symm, e⟩
theorem fa_of {fa tka : Int32} {S : Int} (h : fa = tka) (e : tka.toInt = S) : fa.toInt = S := by rw [h]; exact e
theorem cp_step {f g g' : Nat → Int32} {y v : Int32} {Z : Int} (q : ∀ j : Nat, (j : Int) < y.toInt → g j = f j) (e : g' = upd g y.toNatClampNeg v) (hv : v = f y.toNatClampNeg) (h0 : 0 ≤ y.toInt) (hz : Z = y.toInt + 1) : ∀ j : Nat, (j : Int) < Z → g' j = f j := by
  intro j hj
  have ey := clC (x := y) rfl
  subst e
  by_cases c : j = y.toNatClampNeg
  · subst c; rw [pk_us]; exact hv
  · rw [pk_un c]; exact q j (by omega)
