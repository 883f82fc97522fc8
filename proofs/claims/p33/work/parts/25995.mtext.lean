section
-- ===== the model's TEXT =====
theorem knd_n1 {c : Int32} (h : c.toInt < 97 ∨ 122 < c.toInt) : ¬ knd c = 1 := fun q => by have := knd_of1 q; omega
theorem knd_n2 {c : Int32} (h : c.toInt < 48 ∨ 57 < c.toInt) : ¬ knd c = 2 := fun q => by have := knd_of2 q; omega
theorem tE_runA {f : Nat → Int32} {n K : Int} {a y : Int32} (h : a.toInt < n) (hk : knd (f a.toNatClampNeg) = K) (h3 : K ≠ 3) (q : tR f K n y.toInt = tR f K n a.toInt) (st : n ≤ y.toInt ∨ ¬ knd (f y.toNatClampNeg) = K) : y.toInt = tE f n a.toInt :=
  tE_runC h hk.symm h3 (q.trans (rn_step h (by rw [← idx_eq]; exact hk) rfl).symm) st
theorem wv_0 {f : Nat → Int32} {a p : Int} (h : p = a) : 9 < p - a ∨ (0 : Int64) = wvF f a (p - a).toNat := by
  subst h; rw [show (p - p).toNat = 0 by omega]; exact .inr rfl
theorem wv_s {f : Nat → Int32} {a Z : Int} {t : Int64} {p : Int32} (h : 9 < p.toInt - a ∨ t = wvF f a (p.toInt - a).toNat) (hk : p.toInt - a < 9) (h0 : a ≤ p.toInt) (hz : Z = p.toInt + 1) : 9 < Z - a ∨ 27 * t + (f p.toNatClampNeg).toInt64 - 96 = wvF f a (Z - a).toNat := by
  rcases h with h | h
  · omega
  · subst hz
    rw [show (p.toInt + 1 - a).toNat = (p.toInt - a).toNat + 1 by omega]
    right
    show _ = 27 * wvF f a (p.toInt - a).toNat + (f (a + ((p.toInt - a).toNat : Nat)).toNat).toInt64 - 96
    rw [← h, show a + (((p.toInt - a).toNat : Nat) : Int) = p.toInt by omega, idx_eq]
theorem nv_0 {f : Nat → Int32} {a p : Int} {v : Int32} (h : p = a) (hv : v = 0) : 2 < p - a ∨ v = nvF f a (p - a).toNat := by
  subst h; rw [show (p - p).toNat = 0 by omega]; exact .inr hv
theorem nv_s {f : Nat → Int32} {a Z : Int} {v w p : Int32} (h : 2 < p.toInt - a ∨ v = nvF f a (p.toInt - a).toNat) (hk : p.toInt - a < 2) (h0 : a ≤ p.toInt) (hz : Z = p.toInt + 1) (hw : w = 10 * v + f p.toNatClampNeg - 48) : 2 < Z - a ∨ w = nvF f a (Z - a).toNat := by
  rcases h with h | h
  · omega
  · subst hz
    rw [show (p.toInt + 1 - a).toNat = (p.toInt - a).toNat + 1 by omega]
    right
    show _ = nvF f a (p.toInt - a).toNat * 10 + f (a + ((p.toInt - a).toNat : Nat)).toNat - 48
    rw [← h, show a + (((p.toInt - a).toNat : Nat) : Int) = p.toInt by omega, ← idx_eq, hw, Int32.mul_comm]
theorem tv_end {f : Nat → Int32} {n a e : Int} (h : n ≤ a) : (-2 : Int64) = tkV f n a e := by unfold tkV; rw [if_neg (by omega)]
theorem tv_let {f : Nat → Int32} {n e : Int} {a : Int32} {t : Int64} (h : a.toInt < n) (hk : knd (f a.toNatClampNeg) = 1) (q : 9 < e - a.toInt ∨ t = wvF f a.toInt (e - a.toInt).toNat) (h9 : e - a.toInt ≤ 9) : t = tkV f n a.toInt e := by
  rw [idx_eq] at hk
  unfold tkV; rw [if_pos h, if_pos hk, if_pos h9]
  rcases q with q | q
  · omega
  · exact q
theorem tv_let4 {f : Nat → Int32} {n e : Int} {a : Int32} (h : a.toInt < n) (hk : knd (f a.toNatClampNeg) = 1) (h9 : 9 < e - a.toInt) : (-4 : Int64) = tkV f n a.toInt e := by
  rw [idx_eq] at hk
  unfold tkV; rw [if_pos h, if_pos hk, if_neg (by omega)]
theorem tv_dig {f : Nat → Int32} {n e : Int} {a : Int32} (h : a.toInt < n) (hk : knd (f a.toNatClampNeg) = 2) (h9 : e - a.toInt ≤ 2) : (-1 : Int64) = tkV f n a.toInt e := by
  rw [idx_eq] at hk
  unfold tkV; rw [if_pos h, if_neg (by omega), if_pos hk, if_pos h9]
theorem tv_dig4 {f : Nat → Int32} {n e : Int} {a : Int32} (h : a.toInt < n) (hk : knd (f a.toNatClampNeg) = 2) (h9 : 2 < e - a.toInt) : (-4 : Int64) = tkV f n a.toInt e := by
  rw [idx_eq] at hk
  unfold tkV; rw [if_pos h, if_neg (by omega), if_pos hk, if_neg (by omega)]
theorem tv_semi {f : Nat → Int32} {n e : Int} {a : Int32} (h : a.toInt < n) (hk : (f a.toNatClampNeg).toInt = 59) : (-3 : Int64) = tkV f n a.toInt e := by
  have k3 : knd (f a.toNatClampNeg) = 3 := knd_3 (by omega) (by omega)
  rw [idx_eq] at hk k3
  unfold tkV; rw [if_pos h, if_neg (by omega), if_neg (by omega), if_pos (Int32.toInt_inj.mp hk)]
theorem tv_oth {f : Nat → Int32} {n e : Int} {a : Int32} (h : a.toInt < n) (k3 : knd (f a.toNatClampNeg) = 3) (hk : (f a.toNatClampNeg).toInt ≠ 59) : (-4 : Int64) = tkV f n a.toInt e := by
  rw [idx_eq] at hk k3
  unfold tkV; rw [if_pos h, if_neg (by omega), if_neg (by omega), if_neg (fun z => hk (by rw [z]; rfl))]
def nmP (f : Nat → Int32) (n a e : Int) (v : Int32) : Prop := a < n → knd (f a.toNat) = 2 → e - a ≤ 2 → v = nuV f a e
theorem nm_v {f : Nat → Int32} {n a e : Int} {v : Int32} (h : n ≤ a) : nmP f n a e v := fun q => by omega
theorem nm_k {f : Nat → Int32} {n e K : Int} {a v : Int32} (hk : knd (f a.toNatClampNeg) = K) (h : K ≠ 2) : nmP f n a.toInt e v := fun _ q => absurd (hk.symm.trans (by rw [idx_eq]; exact q)) h
theorem nm_d {f : Nat → Int32} {n a e : Int} {v : Int32} (q : 2 < e - a ∨ v = nvF f a (e - a).toNat) : nmP f n a e v := fun _ _ h => by
  rcases q with q | q
  · omega
  · exact q
-- its readers
theorem in_yes {f : Nat → Int32} {n p lo hi a e : Int} {tk : Int64} {v : Int32} (a1 : a = tS f n p) (a2 : e = tE f n a) (t : tk = tkV f n a e) (nm : nmP f n a e v) (han : a ≤ n) (h : lg_cmp tk (-1) = 0) (r : lo ≤ v.toInt ∧ v.toInt ≤ hi) : nuP f n p lo hi v := by
  have e2 := nx_of a1 a2
  have h' := (lg_cmp_eq _ _).mp h
  rw [t] at h'
  have n1 := (tk_m1 han a2).mp h'
  have er := tE_rg (f := f) han
  rw [← a2] at er
  have hv : v = nuV f a e := nm (by have := n1.1; omega) n1.2.2 n1.2.1
  refine .inl ?_
  rw [← a1, ← e2, ← hv]
  exact ⟨n1, r, rfl⟩
theorem in_n1 {f : Nat → Int32} {n p lo hi a e : Int} {tk : Int64} (a1 : a = tS f n p) (a2 : e = tE f n a) (t : tk = tkV f n a e) (han : a ≤ n) (h : ¬ lg_cmp tk (-1) = 0) : nuP f n p lo hi (-1) := by
  have e2 := nx_of a1 a2
  refine nu_no a1 e2 (fun q => h ((lg_cmp_eq _ _).mpr ?_)) rfl
  rw [t]; exact (tk_m1 han a2).mpr q.1
theorem in_n2 {f : Nat → Int32} {n p lo hi a e : Int} {tk : Int64} {v : Int32} (a1 : a = tS f n p) (a2 : e = tE f n a) (t : tk = tkV f n a e) (nm : nmP f n a e v) (han : a ≤ n) (h : lg_cmp tk (-1) = 0) (r : v.toInt < lo ∨ hi < v.toInt) : nuP f n p lo hi (-1) := by
  have e2 := nx_of a1 a2
  have h' := (lg_cmp_eq _ _).mp h
  rw [t] at h'
  have n1 := (tk_m1 han a2).mp h'
  have er := tE_rg (f := f) han
  rw [← a2] at er
  have hv : v = nuV f a e := nm (by have := n1.1; omega) n1.2.2 n1.2.1
  refine nu_no a1 e2 (fun q => ?_) rfl
  have := q.2; rw [← hv] at this; omega
def imT (f : Nat → Int32) (n p lo hi : Int) (at_ : Nat) (re re' : Nat → Int32) (en : Int) : Prop := ∃ v : Int32, nuP f n p lo hi v ∧ v ≠ -1 ∧ re' = upd re at_ v ∧ en = nx f n p
def imN (f : Nat → Int32) (n p lo hi fa : Int) (re re' : Nat → Int32) : Prop := nmN f n p lo hi fa ∧ re' = re
theorem tw_y {f : Nat → Int32} {n p a e : Int} {tk w : Int64} (a1 : a = tS f n p) (a2 : e = tE f n a) (t : tk = tkV f n a e) (h : lg_cmp tk w = 0) : tkW f n p = w := by
  have e2 := nx_of a1 a2
  unfold tkW; rw [← a1, ← e2, ← t]; exact (lg_cmp_eq _ _).mp h
theorem tw_n {f : Nat → Int32} {n p a e : Int} {tk w : Int64} (a1 : a = tS f n p) (a2 : e = tE f n a) (t : tk = tkV f n a e) (h : ¬ lg_cmp tk w = 0) : tkW f n p ≠ w := by
  have e2 := nx_of a1 a2
  unfold tkW; rw [← a1, ← e2, ← t]; exact fun z => h ((lg_cmp_eq _ _).mpr z)
def lkP (f : Nat → Int32) (n p : Int) (k : Int32) : Prop := (tkW f n p = 365647 ∧ k = 0) ∨ (tkW f n p = 670208 ∧ k = 1) ∨ (tkW f n p = 847604 ∧ k = 2) ∨ (tkW f n p = 453773 ∧ k = 3) ∨ ((tkW f n p ≠ 365647 ∧ tkW f n p ≠ 670208 ∧ tkW f n p ≠ 847604 ∧ tkW f n p ≠ 453773) ∧ k = -1)
/-- behind the first TOKEN of a LINE: its sort stands at its place -/
def ilA (f : Nat → Int32) (n p : Int) (at_ : Int32) (re re1 : Nat → Int32) : Prop := lkP f n p (re1 at_.toNatClampNeg) ∧ ∀ j : Nat, (j : Int) < at_.toInt → re1 j = re j
theorem il_put {f re re1 : Nat → Int32} {n p : Int} {at_ v : Int32} (e : re1 = upd re at_.toNatClampNeg v) (h0 : 0 ≤ at_.toInt) (h : lkP f n p v) : ilA f n p at_ re re1 := by
  subst e
  have ea := clC (x := at_) rfl
  exact ⟨by rw [pk_us]; exact h, fun j hj => pk_un (by omega)⟩
/-- its room's place is 0 -/
def ilB (f : Nat → Int32) (n p : Int) (at_ k : Int32) (re re2 : Nat → Int32) : Prop := lkP f n p k ∧ re2 at_.toNatClampNeg = k ∧ re2 (at_.toNatClampNeg + 1) = 0 ∧ ∀ j : Nat, (j : Int) < at_.toInt → re2 j = re j
theorem il_zero {f re re1 re2 : Nat → Int32} {n p : Int} {at_ b k : Int32} (h : ilA f n p at_ re re1) (e : re2 = upd re1 b.toNatClampNeg 0) (hb : b.toInt = at_.toInt + 1) (h0 : 0 ≤ at_.toInt) (hk : re2 at_.toNatClampNeg = k) : ilB f n p at_ k re re2 := by
  have ea := clC (x := at_) rfl
  have eb := clC hb
  have same : re2 at_.toNatClampNeg = re1 at_.toNatClampNeg := by rw [e, eb]; exact pk_un (by omega)
  refine ⟨by rw [← hk, same]; exact h.1, hk, ?_, fun j hj => ?_⟩
  · rw [e, eb, show at_.toNatClampNeg + 1 = (at_.toInt + 1).toNat by omega, pk_us]
  · rw [e, eb, pk_un (by omega)]; exact h.2 j hj
def lnM (f : Nat → Int32) (n p : Int) (at_ : Int32) (re re' : Nat → Int32) (en : Int) : Prop := ∃ (k x y : Int32) (st : Int), lnT f n p k x y st en ∧ re' at_.toNatClampNeg = k ∧ re' (at_.toNatClampNeg + 1) = x ∧ re' (at_.toNatClampNeg + 2) = y ∧ ∀ j : Nat, (j : Int) < at_.toInt → re' j = re j
def lnR (f : Nat → Int32) (n p : Int) (at_ : Int32) (re re' : Nat → Int32) (fa : Int) : Prop := lnN f n p fa ∧ ∀ j : Nat, (j : Int) < at_.toInt → re' j = re j
theorem lk_k {f : Nat → Int32} {n p : Int} {k : Int32} (h : lkP f n p k) : (k = 0 → tkW f n p = 365647) ∧ (k = 1 → tkW f n p = 670208) ∧ (k = 2 → tkW f n p = 847604) ∧ (k = 3 → tkW f n p = 453773) ∧ ((k.toInt < 0 ∨ 3 < k.toInt) → tkW f n p ≠ 365647 ∧ tkW f n p ≠ 670208 ∧ tkW f n p ≠ 847604 ∧ tkW f n p ≠ 453773) := by
  rcases h with ⟨a, rfl⟩ | ⟨a, rfl⟩ | ⟨a, rfl⟩ | ⟨a, rfl⟩ | ⟨a, rfl⟩
  · exact ⟨fun _ => a, fun z => absurd z (by decide), fun z => absurd z (by decide), fun z => absurd z (by decide), fun z => absurd z (by decide)⟩
  · exact ⟨fun z => absurd z (by decide), fun _ => a, fun z => absurd z (by decide), fun z => absurd z (by decide), fun z => absurd z (by decide)⟩
  · exact ⟨fun z => absurd z (by decide), fun z => absurd z (by decide), fun _ => a, fun z => absurd z (by decide), fun z => absurd z (by decide)⟩
  · exact ⟨fun z => absurd z (by decide), fun z => absurd z (by decide), fun z => absurd z (by decide), fun _ => a, fun z => absurd z (by decide)⟩
  · exact ⟨fun z => absurd z (by decide), fun z => absurd z (by decide), fun z => absurd z (by decide), fun z => absurd z (by decide), fun _ => a⟩
theorem il_room {f re re2 re3 re4 : Nat → Int32} {n p e e3 e4 : Int} {at_ b c k : Int32} (h : ilB f n p at_ k re re2) (hk : k = 0) (e1 : e = nx f n p) (i1 : imT f n e 0 7 b.toNatClampNeg re2 re3 e3) (i2 : imT f n e3 0 8 c.toNatClampNeg re3 re4 e4) (hb : b.toInt = at_.toInt + 1) (hc : c.toInt = at_.toInt + 2) (h0 : 0 ≤ at_.toInt) : lnM f n p at_ re re4 e4 := by
  obtain ⟨h1, h2, h3, h4⟩ := h
  obtain ⟨x, u1, u2, u3, u4⟩ := i1
  obtain ⟨y, w1, w2, w3, w4⟩ := i2
  have ea := clC (x := at_) rfl
  have eb := clC hb
  have ec := clC hc
  rw [eb] at u3; rw [ec] at w3
  have t := (lk_k h1).1 hk
  rw [e1] at u1 u4; rw [u4] at w1 w4
  refine ⟨0, x, y, _, .inl ⟨t, rfl, u1, u2, w1, w2, rfl, w4⟩, ?_, ?_, ?_, fun j hj => ?_⟩
  · rw [w3, pk_un (by omega), u3, pk_un (by omega), h2, hk]
  · rw [w3, pk_un (by omega), u3, show at_.toNatClampNeg + 1 = (at_.toInt + 1).toNat by omega, pk_us]
  · rw [w3, show at_.toNatClampNeg + 2 = (at_.toInt + 2).toNat by omega, pk_us]
  · rw [w3, pk_un (by omega), u3, pk_un (by omega)]; exact h4 j hj
theorem il_one {f re re2 re4 : Nat → Int32} {n p e lo hi e4 : Int} {at_ c k : Int32} (h : ilB f n p at_ k re re2) (hk : (k = 1 ∧ lo = 1 ∧ hi = 99) ∨ (k = 2 ∧ lo = 0 ∧ hi = 8)) (e1 : e = nx f n p) (i2 : imT f n e lo hi c.toNatClampNeg re2 re4 e4) (hc : c.toInt = at_.toInt + 2) (h0 : 0 ≤ at_.toInt) : lnM f n p at_ re re4 e4 := by
  obtain ⟨h1, h2, h3, h4⟩ := h
  obtain ⟨y, w1, w2, w3, w4⟩ := i2
  have ea := clC (x := at_) rfl
  have ec := clC hc
  rw [ec] at w3
  rw [e1] at w1 w4
  have k0 : re4 at_.toNatClampNeg = k := by rw [w3, pk_un (by omega), h2]
  have k1 : re4 (at_.toNatClampNeg + 1) = 0 := by rw [w3, pk_un (by omega), h3]
  have k2 : re4 (at_.toNatClampNeg + 2) = y := by rw [w3, show at_.toNatClampNeg + 2 = (at_.toInt + 2).toNat by omega, pk_us]
  have k3 : ∀ j : Nat, (j : Int) < at_.toInt → re4 j = re j := fun j hj => by rw [w3, pk_un (by omega)]; exact h4 j hj
  rcases hk with ⟨hk, rfl, rfl⟩ | ⟨hk, rfl, rfl⟩
  · exact ⟨1, 0, y, _, .inr (.inl ⟨(lk_k h1).2.1 hk, rfl, rfl, w1, w2, rfl, w4⟩), k0.trans hk, k1, k2, k3⟩
  · exact ⟨2, 0, y, _, .inr (.inr (.inl ⟨(lk_k h1).2.2.1 hk, rfl, rfl, w1, w2, rfl, w4⟩)), k0.trans hk, k1, k2, k3⟩
theorem il_walk {f re re2 re3 re4 : Nat → Int32} {n p e e3 e5 e4 : Int} {at_ b c k : Int32} (h : ilB f n p at_ k re re2) (hk : k = 3) (e1 : e = nx f n p) (i1 : imT f n e 0 7 b.toNatClampNeg re2 re3 e3) (w : tkW f n e3 = 3094387) (e2 : e5 = nx f n e3) (i2 : imT f n e5 1 99 c.toNatClampNeg re3 re4 e4) (hb : b.toInt = at_.toInt + 1) (hc : c.toInt = at_.toInt + 2) (h0 : 0 ≤ at_.toInt) : lnM f n p at_ re re4 e4 := by
  obtain ⟨h1, h2, h3, h4⟩ := h
  obtain ⟨x, u1, u2, u3, u4⟩ := i1
  obtain ⟨y, w1, w2, w3, w4⟩ := i2
  have ea := clC (x := at_) rfl
  have eb := clC hb
  have ec := clC hc
  rw [eb] at u3; rw [ec] at w3
  have t := (lk_k h1).2.2.2.1 hk
  rw [e2] at w1 w4
  rw [e1] at u1 u4; rw [u4] at w1 w4 w
  refine ⟨3, x, y, _, .inr (.inr (.inr ⟨t, rfl, u1, u2, w, w1, w2, rfl, w4⟩)), ?_, ?_, ?_, fun j hj => ?_⟩
  · rw [w3, pk_un (by omega), u3, pk_un (by omega), h2, hk]
  · rw [w3, pk_un (by omega), u3, show at_.toNatClampNeg + 1 = (at_.toInt + 1).toNat by omega, pk_us]
  · rw [w3, show at_.toNatClampNeg + 2 = (at_.toInt + 2).toNat by omega, pk_us]
  · rw [w3, pk_un (by omega), u3, pk_un (by omega)]; exact h4 j hj
theorem ir_none {f re re2 : Nat → Int32} {n p fa : Int} {at_ k : Int32} (h : ilB f n p at_ k re re2) (hk : k.toInt < 0 ∨ 3 < k.toInt) (hf : fa = tS f n p) : lnR f n p at_ re re2 fa := ⟨.inr (.inr (.inr (.inr ⟨(lk_k h.1).2.2.2.2 hk, hf⟩))), h.2.2.2⟩
theorem ir_one {f re re2 re9 : Nat → Int32} {n p e lo hi fa : Int} {at_ k : Int32} (h : ilB f n p at_ k re re2) (hk : (k = 1 ∧ lo = 1 ∧ hi = 99) ∨ (k = 2 ∧ lo = 0 ∧ hi = 8)) (e1 : e = nx f n p) (i : imN f n e lo hi fa re2 re9) : lnR f n p at_ re re9 fa := by
  subst e1
  obtain ⟨i, e9⟩ := i
  subst e9
  refine ⟨?_, h.2.2.2⟩
  rcases hk with ⟨hk, rfl, rfl⟩ | ⟨hk, rfl, rfl⟩
  · exact .inr (.inl ⟨(lk_k h.1).2.1 hk, i⟩)
  · exact .inr (.inr (.inl ⟨(lk_k h.1).2.2.1 hk, i⟩))
theorem ir_room1 {f re re2 re9 : Nat → Int32} {n p e fa : Int} {at_ k : Int32} (h : ilB f n p at_ k re re2) (hk : k = 0) (e1 : e = nx f n p) (i : imN f n e 0 7 fa re2 re9) : lnR f n p at_ re re9 fa := by
  subst e1
  obtain ⟨i, e9⟩ := i
  subst e9
  exact ⟨.inl ⟨(lk_k h.1).1 hk, .inl i⟩, h.2.2.2⟩
theorem im_low {f re re2 re3 : Nat → Int32} {n p lo hi en : Int} {b at_ : Int32} (i : imT f n p lo hi b.toNatClampNeg re2 re3 en) (hb : at_.toInt ≤ b.toInt) (h0 : 0 ≤ at_.toInt) (h : ∀ j : Nat, (j : Int) < at_.toInt → re2 j = re j) : ∀ j : Nat, (j : Int) < at_.toInt → re3 j = re j := by
  obtain ⟨x, _, _, u3, _⟩ := i
  intro j hj
  have eb := clC (x := b) rfl
  rw [u3, pk_un (by omega)]; exact h j hj
theorem ir_room2 {f re re2 re3 re9 : Nat → Int32} {n p e e3 fa : Int} {at_ b k : Int32} (h : ilB f n p at_ k re re2) (hk : k = 0) (e1 : e = nx f n p) (i1 : imT f n e 0 7 b.toNatClampNeg re2 re3 e3) (hb : b.toInt = at_.toInt + 1) (h0 : 0 ≤ at_.toInt) (i : imN f n e3 0 8 fa re3 re9) : lnR f n p at_ re re9 fa := by
  obtain ⟨i, e9⟩ := i
  subst e9
  have lo := im_low i1 (at_ := at_) (by omega) h0 h.2.2.2
  obtain ⟨x, u1, u2, u3, u4⟩ := i1
  subst e1
  rw [u4] at i
  exact ⟨.inl ⟨(lk_k h.1).1 hk, .inr ⟨x, u1, u2, i.1, i.2⟩⟩, lo⟩
theorem ir_walk1 {f re re2 re9 : Nat → Int32} {n p e fa : Int} {at_ k : Int32} (h : ilB f n p at_ k re re2) (hk : k = 3) (e1 : e = nx f n p) (i : imN f n e 0 7 fa re2 re9) : lnR f n p at_ re re9 fa := by
  subst e1
  obtain ⟨i, e9⟩ := i
  subst e9
  exact ⟨.inr (.inr (.inr (.inl ⟨(lk_k h.1).2.2.2.1 hk, .inl i⟩))), h.2.2.2⟩
theorem ir_walk2 {f re re2 re3 : Nat → Int32} {n p e e3 fa : Int} {at_ b k : Int32} (h : ilB f n p at_ k re re2) (hk : k = 3) (e1 : e = nx f n p) (i1 : imT f n e 0 7 b.toNatClampNeg re2 re3 e3) (hb : b.toInt = at_.toInt + 1) (h0 : 0 ≤ at_.toInt) (w : tkW f n e3 ≠ 3094387) (hf : fa = tS f n e3) : lnR f n p at_ re re3 fa := by
  have lo := im_low i1 (at_ := at_) (by omega) h0 h.2.2.2
  obtain ⟨x, u1, u2, u3, u4⟩ := i1
  subst e1
  rw [u4] at w hf
  exact ⟨.inr (.inr (.inr (.inl ⟨(lk_k h.1).2.2.2.1 hk, .inr ⟨x, u1, u2, .inl ⟨w, hf⟩⟩⟩))), lo⟩
theorem ir_walk3 {f re re2 re3 re9 : Nat → Int32} {n p e e3 e5 fa : Int} {at_ b k : Int32} (h : ilB f n p at_ k re re2) (hk : k = 3) (e1 : e = nx f n p) (i1 : imT f n e 0 7 b.toNatClampNeg re2 re3 e3) (hb : b.toInt = at_.toInt + 1) (h0 : 0 ≤ at_.toInt) (w : tkW f n e3 = 3094387) (e2 : e5 = nx f n e3) (i : imN f n e5 1 99 fa re3 re9) : lnR f n p at_ re re9 fa := by
  obtain ⟨i, e9⟩ := i
  subst e9
  have lo := im_low i1 (at_ := at_) (by omega) h0 h.2.2.2
  obtain ⟨x, u1, u2, u3, u4⟩ := i1
  subst e1; subst e2
  rw [u4] at w i
  exact ⟨.inr (.inr (.inr (.inl ⟨(lk_k h.1).2.2.2.1 hk, .inr ⟨x, u1, u2, .inr ⟨w, i⟩⟩⟩))), lo⟩
-- the reading
def irS (f : Nat → Int32) (n : Int) (re : Nat → Int32) (m tka : Int32) (tok : Int64) : Prop := ∃ (i : Nat) (p : Int) (k x y : Int32) (st en : Int), i < 10 ∧ rdM f n i p re ∧ lnT f n p k x y st en ∧ re (3 * i) = k ∧ re (3 * i + 1) = x ∧ re (3 * i + 2) = y ∧ m = nI (i + 1) ∧ tka.toInt = tS f n en ∧ tok = tkW f n en ∧ en ≤ n ∧ (¬ sem f n en ∨ i = 9)
def irI (f : Nat → Int32) (n : Int) (more : Int32) (pos : Int) (re : Nat → Int32) (m tka : Int32) (tok : Int64) : Prop := (more = 1 ∧ rdM f n m.toInt.toNat pos re) ∨ (more = 0 ∧ irS f n re m tka tok)
theorem ii_init {f re : Nat → Int32} {n pos : Int} {m tka : Int32} {tok : Int64} (hp : pos = 0) (hm : m.toInt.toNat = 0) : irI f n 1 pos re m tka tok := .inl ⟨rfl, by rw [hm]; exact hp⟩
theorem ii_rd {f re : Nat → Int32} {n pos : Int} {more m tka : Int32} {tok : Int64} (h : irI f n more pos re m tka tok) (hm : ¬ more = 0) : rdM f n m.toInt.toNat pos re := by
  rcases h with h | h
  · exact h.2
  · exact absurd h.1 hm
theorem ln_at {at_ m : Int32} (h : at_.toInt = 3 * m.toInt) (h0 : 0 ≤ m.toInt) : at_.toNatClampNeg = 3 * m.toInt.toNat := by rw [clC h]; omega
theorem ii_more {f re re' : Nat → Int32} {n p en e : Int} {m m' at_ tka : Int32} {tok tok0 : Int64} {tk0 : Int32} (q : rdM f n m.toInt.toNat p re) (h0 : 0 ≤ m.toInt) (h : lnM f n p at_ re re' en) (ha : at_.toInt = 3 * m.toInt) (hen : en ≤ n) (a1 : tka.toInt = tS f n en) (a2 : e = tE f n tka.toInt) (t : tok = tkV f n tka.toInt e) (c : lg_cmp tok (-3) = 0) (hm : m'.toInt = m.toInt + 1) : irI f n 1 e re' m' tk0 tok0 := by
  obtain ⟨k, x, y, st, t1, e1, e2, e3, lo⟩ := h
  have e5 := nx_of a1 a2
  have ea := ln_at ha h0
  rw [ea] at e1 e2 e3
  refine .inl ⟨rfl, ?_⟩
  rw [show m'.toInt.toNat = m.toInt.toNat + 1 by omega]
  have tr := tS_rg (f := f) hen
  have s := (tk_semi (by rw [a1]; exact tr.2) a2).mp (by rw [← t]; exact (lg_cmp_eq _ _).mp c)
  refine ⟨p, k, x, y, st, en, rdM_same _ p (fun j hj => lo j (by omega)) q, t1, ?_, e5, e1, e2, e3⟩
  rw [a1] at s; exact s
theorem ii_stop {f re re' : Nat → Int32} {n p en e : Int} {m m' at_ tka : Int32} {tok : Int64} (q : rdM f n m.toInt.toNat p re) (h0 : 0 ≤ m.toInt) (h9 : m.toInt ≤ 9) (h : lnM f n p at_ re re' en) (ha : at_.toInt = 3 * m.toInt) (hen : en ≤ n) (a1 : tka.toInt = tS f n en) (a2 : e = tE f n tka.toInt) (t : tok = tkV f n tka.toInt e) (c : ¬ lg_cmp tok (-3) = 0 ∨ 10 ≤ m'.toInt) (hm : m'.toInt = m.toInt + 1) : irI f n 0 e re' m' tka tok := by
  obtain ⟨k, x, y, st, t1, e1, e2, e3, lo⟩ := h
  have e5 := nx_of a1 a2
  have ea := ln_at ha h0
  rw [ea] at e1 e2 e3
  have tr := tS_rg (f := f) hen
  refine .inr ⟨rfl, m.toInt.toNat, p, k, x, y, st, en, by omega, rdM_same _ p (fun j hj => lo j (by omega)) q, t1, e1, e2, e3, ?_, a1, ?_, hen, ?_⟩
  · have := nI_toNat (y := m') (by omega)
    rw [← this]; congr 1; omega
  · rw [t, a1, e5]; rfl
  · rcases c with c | c
    · left
      intro s
      refine c ((lg_cmp_eq _ _).mpr ?_)
      rw [t]
      refine (tk_semi (by rw [a1]; exact tr.2) a2).mpr ?_
      rw [a1]; exact s
    · right; omega
theorem io_fail {f re re' : Nat → Int32} {n p : Int} {m at_ fa m' : Int32} (q : rdM f n m.toInt.toNat p re) (h0 : 0 ≤ m.toInt) (h9 : m.toInt ≤ 9) (h : lnR f n p at_ re re' fa.toInt) (ha : at_.toInt = 3 * m.toInt) : roM f n 0 fa re' m' := by
  have ea := ln_at ha h0
  exact ⟨m.toInt.toNat, p, by omega, rdM_same _ p (fun j hj => h.2 j (by omega)) q, .inl ⟨h.1, rfl⟩⟩
theorem io_ok {f re : Nat → Int32} {n pos : Int} {more m tka fa : Int32} {tok : Int64} (h : irI f n more pos re m tka tok) (hm : more = 0) (c : lg_cmp tok (-2) = 0) : roM f n 1 fa re m := by
  rcases h with h | ⟨_, i, p, k, x, y, st, en, hi, q, t1, e1, e2, e3, em, a1, t, hen, s⟩
  · rw [h.1] at hm; exact absurd hm (by decide)
  · have tr := tS_rg (f := f) hen
    have z := (tk_end tr.2 rfl).mp (by have := (lg_cmp_eq _ _).mp c; rw [t] at this; exact this)
    exact ⟨i, p, hi, q, .inr ⟨k, x, y, st, en, t1, .inl ⟨z, rfl, e1, e2, e3, em⟩⟩⟩
theorem io_f {f re : Nat → Int32} {n pos : Int} {more m tka fa m' : Int32} {tok : Int64} (h : irI f n more pos re m tka tok) (hm : more = 0) (c : ¬ lg_cmp tok (-2) = 0) (hf : fa = tka) : roM f n 0 fa re m' := by
  rcases h with h | ⟨_, i, p, k, x, y, st, en, hi, q, t1, e1, e2, e3, em, a1, t, hen, s⟩
  · rw [h.1] at hm; exact absurd hm (by decide)
  · have tr := tS_rg (f := f) hen
    have z : tS f n en ≠ n := fun z => c ((lg_cmp_eq _ _).mpr (by rw [t]; exact (tk_end tr.2 rfl).mpr z))
    subst hf
    refine ⟨i, p, hi, q, .inr ⟨k, x, y, st, en, t1, .inr ⟨by omega, ?_, a1, rfl⟩⟩⟩
    rcases s with s | s
    · exact .inl (fun w => s ⟨by omega, w⟩)
    · exact .inr s
def spFltM (f : Nat → Int32) (n r : Int32) : Prop := ∃ (b fa m : Int32) (re : Nat → Int32), roM f n.toInt b fa re m ∧ ((b = 1 ∧ r = -1) ∨ (b = 0 ∧ r = fa))
def spRulM (f : Nat → Int32) (n : Int32) (li : Nat → Int32) (ls r n' : Int32) (li' : Nat → Int32) (ls' : Int32) : Prop := ((∃ (fa m : Int32) (re : Nat → Int32), roM f n.toInt 0 fa re m) ∧ r = -4 ∧ n' = n ∧ li' = li ∧ ls' = ls) ∨ (∃ (fa : Int32) (re : Nat → Int32), roM f n.toInt 1 fa re ls' ∧ r = ls' ∧ n' = 0 ∧ ∀ j : Nat, j < 30 → li' j = re j)
theorem spFlt_rel {f g : Nat → Int32} {len n r r2 : Int32} (e1 : f = g) (e2 : len = n) (h1 : spFltC f len r) (h2 : spFltM g n r2) : r = r2 := by
  subst e1; subst e2
  obtain ⟨mo, we, ag, ap, li, c⟩ := h1
  obtain ⟨b, fa, m, re, d, o⟩ := h2
  rcases ro_rel c d with ⟨b1, r1, _⟩ | ⟨b0, r1⟩
  · rcases o with ⟨_, o⟩ | ⟨o, _⟩
    · rw [r1, o]
    · rw [b1] at o; exact absurd o (by decide)
  · rcases o with ⟨o, _⟩ | ⟨_, o⟩
    · rw [b0] at o; exact absurd o (by decide)
    · rw [r1, o]
theorem rmN_nn {f : Nat → Int32} {n p st : Int} (h : rmN f n p st) (h0 : 0 ≤ p) (hn : p ≤ n) : 0 ≤ st := by
  have r1 := nx_rg (f := f) hn
  have a := tS_rg (f := f) hn
  have b := tS_rg (f := f) r1.2.1
  rcases h with ⟨_, e⟩ | ⟨_, _, _, _, e⟩ <;> omega
theorem wkN_nn {f : Nat → Int32} {n p st : Int} (h : wkN f n p st) (h0 : 0 ≤ p) (hn : p ≤ n) : 0 ≤ st := by
  have r1 := nx_rg (f := f) hn
  have r2 := nx_rg (f := f) r1.2.1
  have a := tS_rg (f := f) hn
  have b := tS_rg (f := f) r1.2.1
  have c := tS_rg (f := f) r2.2.1
  rcases h with ⟨_, e⟩ | ⟨_, _, _, ⟨_, e⟩ | ⟨_, _, e⟩⟩ <;> omega
theorem lnN_nn {f : Nat → Int32} {n p st : Int} (h : lnN f n p st) (h0 : 0 ≤ p) (hn : p ≤ n) : 0 ≤ st := by
  have r1 := nx_rg (f := f) hn
  have a := tS_rg (f := f) hn
  have b := tS_rg (f := f) r1.2.1
  rcases h with ⟨_, c⟩ | ⟨_, _, c⟩ | ⟨_, _, c⟩ | ⟨_, c⟩ | ⟨_, c⟩
  · exact rmN_nn c (by omega) r1.2.1
  · omega
  · omega
  · exact wkN_nn c (by omega) r1.2.1
  · omega
theorem rdM_rg {f r : Nat → Int32} {n : Int} (hn : 0 ≤ n) : ∀ (i : Nat) (p : Int), rdM f n i p r → 0 ≤ p ∧ p ≤ n
  | 0, p, h => by have h2 : p = 0 := h; omega
  | i + 1, p, ⟨q, k, x, y, st, en, a, b, _, d, _, _, _⟩ => by
    have i1 := rdM_rg hn i q a
    have i2 := lnT_rg b i1.2
    have i3 := nx_rg (f := f) i2.2
    omega
theorem roM_nn {f re : Nat → Int32} {n : Int} {fa m : Int32} (hn : 0 ≤ n) (h : roM f n 0 fa re m) : 0 ≤ fa.toInt := by
  obtain ⟨i, p, _, q, o⟩ := h
  have r := rdM_rg hn i p q
  rcases o with ⟨a, _⟩ | ⟨k, x, y, st, en, t, ⟨_, z, _⟩ | ⟨_, _, z, _⟩⟩
  · exact lnN_nn a r.1 r.2
  · exact absurd z (by decide)
  · have i2 := lnT_rg t r.2
    have i3 := tS_rg (f := f) i2.2
    omega
/-- the RULES that hold: the class's book, the model's lines -/
def bkR (mo we : Nat → Int32) (ag ap li : Int32) (L : Nat → Int32) (ls : Int32) : Prop := li = ls ∧ ∃ i : Nat, i ≤ 10 ∧ ls = nI i ∧ bkL mo we ag ap L i
theorem laF_same {r r2 : Nat → Int32} {so ro wi : Int32} : ∀ i : Nat, (∀ j : Nat, j < 3 * i → r2 j = r j) → laF r2 so ro wi i = laF r so ro wi i
  | 0, _ => rfl
  | k + 1, h => by
    show (if r2 (3 * k) = so ∧ r2 (3 * k + 1) = ro then r2 (3 * k + 2) else laF r2 so ro wi k) = (if r (3 * k) = so ∧ r (3 * k + 1) = ro then r (3 * k + 2) else laF r so ro wi k)
    rw [laF_same k (fun j hj => h j (by omega)), h (3 * k) (by omega), h (3 * k + 1) (by omega), h (3 * k + 2) (by omega)]
theorem bkL_same {mo we r r2 : Nat → Int32} {ag ap : Int32} {i : Nat} (e : ∀ j : Nat, j < 3 * i → r2 j = r j) (h : bkL mo we ag ap r i) : bkL mo we ag ap r2 i := by
  obtain ⟨h1, h2, h3, h4, h5⟩ := h
  refine ⟨fun j hj => ?_, fun j hj => ?_, ?_, ?_, fun k hk => ?_⟩
  · rw [laF_same i e]; exact h1 j hj
  · rw [laF_same i e]; exact h2 j hj
  · rw [laF_same i e]; exact h3
  · rw [laF_same i e]; exact h4
  · rw [e _ (by omega), e _ (by omega)]; exact h5 k hk
theorem bk_init {mo we L : Nat → Int32} {ag ap li ls : Int32} (h1 : ∀ j, j < 8 → mo j = -1) (h2 : ∀ j, j < 8 → we j = -1) (h3 : ag = -1) (h4 : ap = -1) (h5 : li = 0) (h6 : ls = 0) : bkR mo we ag ap li L ls := ⟨h5.trans h6.symm, 0, by decide, h6, h1, h2, h3, h4, fun k hk => absurd hk (Nat.not_lt_zero _)⟩
theorem spRul_rel {f g mo we mo' we' L L' : Nat → Int32} {len n ag ap li r len' ag' ap' li' ls r2 n' ls' : Int32} (e1 : f = g) (e2 : len = n) (hn : 0 ≤ n.toInt ∧ n.toInt ≤ 160) (R : bkR mo we ag ap li L ls) (h1 : spRulC f len mo we ag ap li r len' mo' we' ag' ap' li') (h2 : spRulM g n L ls r2 n' L' ls') : r = r2 ∧ len' = n' ∧ bkR mo' we' ag' ap' li' L' ls' := by
  subst e1; subst e2
  rcases h1 with ⟨⟨q, ⟨m1, w1, g1, p1, l1, c⟩, qn⟩, a0, a1, a2, a3, a4, a5, a6⟩ | ⟨c, a0, a1⟩
  · rcases h2 with ⟨_, b0, b1, b2, b3⟩ | ⟨fa, re, d, _⟩
    · rw [a0, b0, a1, b1, a2, a3, a4, a5, a6, b2, b3]; exact ⟨rfl, rfl, R⟩
    · rcases ro_rel c d with h | h
      · exact absurd h.2.1 qn
      · exact absurd h.1 (by decide)
  · rcases h2 with ⟨⟨fa, m, re, d⟩, _⟩ | ⟨fa, re, d, b0, b1, b2⟩
    · rcases ro_rel c d with h | h
      · exact absurd h.1 (by decide)
      · have := roM_nn hn.1 d
        rw [← h.2] at this; exact absurd this (by decide)
    · rcases ro_rel c d with ⟨_, _, el, i, hi, em, L1⟩ | h
      · rw [a0, b0, a1, b1]
        exact ⟨el, rfl, el, i + 1, by omega, em, bkL_same (fun j hj => b2 j (by omega)) L1⟩
      · exact absurd h.1 (by decide)
theorem spEra_rel {len n r r2 len' n' : Int32} (e : len = n) (h1 : spEra len r len') (h2 : spEra n r2 n') : r = r2 ∧ len' = n' := ⟨h1.1.trans (e.trans h2.1.symm), h1.2.trans h2.2.symm⟩
theorem spWri_rel {f g f' g' : Nat → Int32} {len n0 n r r2 len' n' : Int32} {so : Int64} (e1 : f = g) (e2 : len = n0) (h1 : spWri f len so n r f' len') (h2 : spWri g n0 so n r2 g' n') : r = r2 ∧ f' = g' ∧ len' = n' := by
  subst e1; subst e2
  rcases h1 with ⟨a, b, c, d⟩ | ⟨a, a1, b, c, d⟩ | ⟨a, a1, b, c, d⟩ <;> rcases h2 with ⟨a2, b2, c2, d2⟩ | ⟨a2, a3, b2, c2, d2⟩ | ⟨a2, a3, b2, c2, d2⟩ <;> first | (exfalso; omega) | skip
  · exact ⟨b.trans b2.symm, c.trans c2.symm, d.trans d2.symm⟩
  · exact ⟨b.trans b2.symm, c.trans c2.symm, d.trans d2.symm⟩
  · have e : len' = n' := Int32.toInt_inj.mp (c.trans c2.symm)
    exact ⟨b.trans (e.trans b2.symm), d.trans d2.symm, e⟩
theorem fa_of {fa tka : Int32} {S : Int} (h : fa = tka) (e : tka.toInt = S) : fa.toInt = S := by rw [h]; exact e
theorem cp_step {f g g' : Nat → Int32} {y v : Int32} {Z : Int} (q : ∀ j : Nat, (j : Int) < y.toInt → g j = f j) (e : g' = upd g y.toNatClampNeg v) (hv : v = f y.toNatClampNeg) (h0 : 0 ≤ y.toInt) (hz : Z = y.toInt + 1) : ∀ j : Nat, (j : Int) < Z → g' j = f j := by
  intro j hj
  have ey := clC (x := y) rfl
  subst e
  by_cases c : j = y.toNatClampNeg
  · subst c; rw [pk_us]; exact hv
  · rw [pk_un c]; exact q j (by omega)
set_option maxHeartbeats 4000000 in
set_option maxRecDepth 100000 in
theorem k_X10_nextToken2 (l : Launch) (dC : Nat → ClassId) (dI : Nat → Nat → Nat) (cI cZ cQ : ClassId) (b : Nat → Nat) (mday : Int32) (mdoo : Int32) (mtel : Int32) (mgai : Int32) (mbyt : Int32) (mtxt : Nat → Int32) (mpos : Int32) (mtka : Int32) (mtok : Int64) (mdig : Int32) (mnum : Int32) (mfau : Int32) (mrdm : Int32) (mlin : Int32) (mbsm : Int32) (sz : Nat) (r_mday : 0 ≤ mday.toInt ∧ mday.toInt ≤ 400) (r_mdoo : 0 ≤ mdoo.toInt ∧ mdoo.toInt ≤ 14) (r_mgai : 0 ≤ mgai.toInt ∧ mgai.toInt ≤ 100) (r_mbyt : 0 ≤ mbyt.toInt ∧ mbyt.toInt ≤ 160) (r_mpos : 0 ≤ mpos.toInt ∧ mpos.toInt ≤ 160) (r_mrdm : 0 ≤ mrdm.toInt ∧ mrdm.toInt ≤ 10) (r_mlin : 0 ≤ mlin.toInt ∧ mlin.toInt ≤ 10) (q0 : mpos.toInt ≤ mbyt.toInt) : KV l yX10_nextToken wsX10_nextToken { frames := 1, cells := 0, slots := 0, locals := 22 } (dC, dI) (TY cI cZ cQ) (wMdT cI cZ cQ b mday mdoo mtel mgai mbyt mtxt mpos mtka mtok mdig mnum mfau mrdm mlin mbsm) [.ref (b 39)] sz 0 0 (fun (u : US) => ((u.1 0 0).toInt ≤ mbyt.toInt) ∧ (0 ≤ (u.1 1 0).toInt) ∧ ((u.1 1 0).toInt ≤ (u.1 0 0).toInt) ∧ ((u.1 1 0).toInt = tS mtxt mbyt.toInt mpos.toInt) ∧ ((u.1 0 0).toInt = tE mtxt mbyt.toInt (u.1 1 0).toInt) ∧ (u.2.1 = tkV mtxt mbyt.toInt (u.1 1 0).toInt (u.1 0 0).toInt) ∧ (nmP mtxt mbyt.toInt (u.1 1 0).toInt (u.1 0 0).toInt (u.1 4 0)) ∧ (0 ≤ (u.1 0 0).toInt ∧ (u.1 0 0).toInt ≤ 160)) (fun u : US => (wMdT cI cZ cQ b mday mdoo mtel mgai mbyt mtxt (u.1 0 0) (u.1 1 0) u.2.1 (u.1 3 0) (u.1 4 0) mfau mrdm mlin mbsm)) := by
  refine Met.ofW (cc := cX10_nextToken) (maxL := 1) (ret := none) (by decide) rfl ?_
  intro p e s m args below meth c s₁ B hml hv
  obtain ⟨rfl, hsz, hP, hK, hD0, hN⟩ := hv
  have hx := B.exec
  have hb := B.bytes
  have hr := B.returns
  have hts := atoms_spec (ws := wsX10_nextToken) B.pre
  have hown : s.vm.findClass RX10 = some m.cls := findClass_of_methodNamed B.named
  have hlocks := B.notSynchronized
  have lf146 := hts (.fieldLink RX10 146 "PalaceOfRoomsModel" "position" "I") (List.mem_cons_of_mem _ (List.mem_append_left _ (List.mem_of_getElem? (i := 0) rfl)))
  have inX10 : ∀ w ∈ wsX100, w ∈ wsX10_nextToken := fun w h => List.mem_cons_of_mem _ (List.mem_append_right _ h)
  have lf141 := hts (.fieldLink RX10 141 "PalaceOfRoomsModel" "bytes" "I") (List.mem_cons_of_mem _ (List.mem_append_left _ (List.mem_of_getElem? (i := 1) rfl)))
  have lf149 := hts (.fieldLink RX10 149 "PalaceOfRoomsModel" "tokenAt" "I") (List.mem_cons_of_mem _ (List.mem_append_left _ (List.mem_of_getElem? (i := 3) rfl)))
  have lf152 := hts (.fieldLink RX10 152 "PalaceOfRoomsModel" "digits" "I") (List.mem_cons_of_mem _ (List.mem_append_left _ (List.mem_of_getElem? (i := 4) rfl)))
  have lf155 := hts (.fieldLink RX10 155 "PalaceOfRoomsModel" "number" "I") (List.mem_cons_of_mem _ (List.mem_append_left _ (List.mem_of_getElem? (i := 5) rfl)))
  have lf62 := hts (.fieldLink RX10 62 "PalaceOfRoomsModel" "text" "[I") (List.mem_cons_of_mem _ (List.mem_append_left _ (List.mem_of_getElem? (i := 2) rfl)))
  have lf160 := hts (.fieldLink RX10 160 "PalaceOfRoomsModel" "token" "J") (List.mem_cons_of_mem _ (List.mem_append_left _ (List.mem_of_getElem? (i := 7) rfl)))
  subst hsz
  have hD := hD0.self (sz := s.heap.size)
  generalize hAe : va_A (wMdT cI cZ cQ b mday mdoo mtel mgai mbyt mtxt mpos mtka mtok mdig mnum mfau mrdm mlin mbsm) s.heap.size = A at hD ⊢
  have hA : ∀ q : Nat, s.heap.size ≤ q → A q := fun q h => by rw [← hAe]; exact Or.inr h
  have hS : va_S A s.heap s.heap [] := va_S.rf
  have hl := lv_entry ([.ref (b 39)]) (n := 1) (Nat.le_of_ble_eq_true rfl)
  rw [lg_entry_eq]
  generalize (lg_sl ([.ref (b 39)]) ++ List.replicate (1 - (lg_sl ([.ref (b 39)])).length) Slot.unset).toArray = ls at hl ⊢
  have hl : lv_has ls 1 [(0, .ref (b 39))] := hl
  have L0 : ∀ (nn : Nat) (mpos_0 : Int32) (H : Heap) (locs : List Loc) (ls : Array Slot), (0 ≤ mpos_0.toInt ∧ mpos_0.toInt ≤ 160) → (mpos_0.toInt ≤ mbyt.toInt) → (tS mtxt mbyt.toInt mpos_0.toInt = tS mtxt mbyt.toInt mpos.toInt) → (mbyt.toInt - mpos_0.toInt).toNat < nn → va_P (dC, dI) vwCl (wMdT cI cZ cQ b mday mdoo mtel mgai mbyt mtxt mpos_0 mtka mtok mdig mnum mfau mrdm mlin mbsm) H → va_D A (wMdT cI cZ cQ b mday mdoo mtel mgai mbyt mtxt mpos_0 mtka mtok mdig mnum mfau mrdm mlin mbsm) → va_S A s.heap H locs → lv_has ls 1 [(0, .ref (b 39))] → W p l e (headSpec wsX10_nextToken { frames := 1, cells := 0, slots := 0, locals := 22 }).room s m ([.ref (b 39)] : List Value).toArray below meth c H locs 0 0 (MQ below (va_Qv (fun (u : US) => ((u.1 0 0).toInt ≤ mbyt.toInt) ∧ (0 ≤ (u.1 1 0).toInt) ∧ ((u.1 1 0).toInt ≤ (u.1 0 0).toInt) ∧ ((u.1 1 0).toInt = tS mtxt mbyt.toInt mpos.toInt) ∧ ((u.1 0 0).toInt = tE mtxt mbyt.toInt (u.1 1 0).toInt) ∧ (u.2.1 = tkV mtxt mbyt.toInt (u.1 1 0).toInt (u.1 0 0).toInt) ∧ (nmP mtxt mbyt.toInt (u.1 1 0).toInt (u.1 0 0).toInt (u.1 4 0)) ∧ (0 ≤ (u.1 0 0).toInt ∧ (u.1 0 0).toInt ≤ 160)) (Bw (dC, dI) A (fun u : US => (wMdT cI cZ cQ b mday mdoo mtel mgai mbyt mtxt (u.1 0 0) (u.1 1 0) u.2.1 (u.1 3 0) (u.1 4 0) mfau mrdm mlin mbsm))) A) ([.ref (b 39)] : List Value).toArray s 0 0 A) (F0 m 0 ls []) := by
    intro nn
    induction nn with
    | zero =>
      intro mpos_0 H locs ls r_mpos_0 i0_0 i0_1 hm0
      exact absurd hm0 (Nat.not_lt_zero _)
    | succ nn ih0 =>
      intro mpos_0 H locs ls r_mpos_0 i0_0 i0_1 hm0 hP hD hS hl
      refine lv_aload_n hx hb dX10_nextToken_0 rfl (lv_at hl 0 rfl) ?_
      refine va_get (D := (dC, dI)) (ci := 10) (v := .int mpos_0) (C := RX10) (T := TX10) (N := 39) hx hb hts inX10 hown hK hP 0 rfl rfl 21 (by decide) lf146 (fun _ h9 => h9) rfl dX10_nextToken_1 ?_
      refine lv_aload_n hx hb dX10_nextToken_4 rfl (lv_at hl 0 rfl) ?_
      refine va_get (D := (dC, dI)) (ci := 10) (v := .int mbyt) (C := RX10) (T := TX10) (N := 39) hx hb hts inX10 hown hK hP 0 rfl rfl 19 (by decide) lf141 (fun _ h9 => h9) rfl dX10_nextToken_5 ?_
      refine lv_icmp_ge (tgt := 38) hx hb dX10_nextToken_8 (by decide) (fun c1 => ?_) (fun c1 => ?_)
      · have dc1 : mbyt.toInt ≤ mpos_0.toInt := leC rfl rfl c1
        refine lv_aload_n hx hb dX10_nextToken_38 rfl (lv_at hl 0 rfl) ?_
        refine lv_aload_n hx hb dX10_nextToken_39 rfl (lv_at hl 0 rfl) ?_
        refine va_get (D := (dC, dI)) (ci := 10) (v := .int mpos_0) (C := RX10) (T := TX10) (N := 39) hx hb hts inX10 hown hK hP 0 rfl rfl 21 (by decide) lf146 (fun _ h9 => h9) rfl dX10_nextToken_40 ?_
        refine va_put (D := (dC, dI)) (ci := 10) (v := .int mpos_0) (ty := .int) (C := RX10) (T := TX10) (N := 39) hx hb hts inX10 tyX10 tyX10_ok nmX10 hown hK hP hD hS 0 rfl rfl 22 (by decide) lf149 (fun _ h9 => h9) rfl (by decide +kernel) rfl rfl (Nat.le_of_ble_eq_true rfl) dX10_nextToken_43 (fun H locs hP hD hS => ?_)
        have hP : va_P (dC, dI) vwCl (wMdT cI cZ cQ b mday mdoo mtel mgai mbyt mtxt mpos_0 mpos_0 mtok mdig mnum mfau mrdm mlin mbsm) H := hP
        have hD : va_D A (wMdT cI cZ cQ b mday mdoo mtel mgai mbyt mtxt mpos_0 mpos_0 mtok mdig mnum mfau mrdm mlin mbsm) := hD
        refine lv_aload_n hx hb dX10_nextToken_46 rfl (lv_at hl 0 rfl) ?_
        refine lv_iconst (v := 0) hx hb dX10_nextToken_47 (by decide) ?_
        refine va_put (D := (dC, dI)) (ci := 10) (v := .int 0) (ty := .int) (C := RX10) (T := TX10) (N := 39) hx hb hts inX10 tyX10 tyX10_ok nmX10 hown hK hP hD hS 0 rfl rfl 24 (by decide) lf152 (fun _ h9 => h9) rfl (by decide +kernel) rfl rfl (Nat.le_of_ble_eq_true rfl) dX10_nextToken_48 (fun H locs hP hD hS => ?_)
        have hP : va_P (dC, dI) vwCl (wMdT cI cZ cQ b mday mdoo mtel mgai mbyt mtxt mpos_0 mpos_0 mtok 0 mnum mfau mrdm mlin mbsm) H := hP
        have hD : va_D A (wMdT cI cZ cQ b mday mdoo mtel mgai mbyt mtxt mpos_0 mpos_0 mtok 0 mnum mfau mrdm mlin mbsm) := hD
        refine lv_aload_n hx hb dX10_nextToken_51 rfl (lv_at hl 0 rfl) ?_
        refine lv_iconst (v := 0) hx hb dX10_nextToken_52 (by decide) ?_
        refine va_put (D := (dC, dI)) (ci := 10) (v := .int 0) (ty := .int) (C := RX10) (T := TX10) (N := 39) hx hb hts inX10 tyX10 tyX10_ok nmX10 hown hK hP hD hS 0 rfl rfl 25 (by decide) lf155 (fun _ h9 => h9) rfl (by decide +kernel) rfl rfl (Nat.le_of_ble_eq_true rfl) dX10_nextToken_53 (fun H locs hP hD hS => ?_)
        have hP : va_P (dC, dI) vwCl (wMdT cI cZ cQ b mday mdoo mtel mgai mbyt mtxt mpos_0 mpos_0 mtok 0 0 mfau mrdm mlin mbsm) H := hP
        have hD : va_D A (wMdT cI cZ cQ b mday mdoo mtel mgai mbyt mtxt mpos_0 mpos_0 mtok 0 0 mfau mrdm mlin mbsm) := hD
        refine lv_aload_n hx hb dX10_nextToken_56 rfl (lv_at hl 0 rfl) ?_
        refine va_get (D := (dC, dI)) (ci := 10) (v := .int mpos_0) (C := RX10) (T := TX10) (N := 39) hx hb hts inX10 hown hK hP 0 rfl rfl 21 (by decide) lf146 (fun _ h9 => h9) rfl dX10_nextToken_57 ?_
        refine lv_aload_n hx hb dX10_nextToken_60 rfl (lv_at hl 0 rfl) ?_
        refine va_get (D := (dC, dI)) (ci := 10) (v := .int mbyt) (C := RX10) (T := TX10) (N := 39) hx hb hts inX10 hown hK hP 0 rfl rfl 19 (by decide) lf141 (fun _ h9 => h9) rfl dX10_nextToken_61 ?_
        refine lv_icmp_ne (tgt := 77) hx hb dX10_nextToken_64 (by decide) (fun c2 => ?_) (fun c2 => ?_)
        · have dc2 : mpos_0.toInt ≠ mbyt.toInt := neC rfl rfl c2
          refine lv_aload_n hx hb dX10_nextToken_77 rfl (lv_at hl 0 rfl) ?_
          refine va_get (D := (dC, dI)) (ci := 10) (v := .ref (b 20)) (C := RX10) (T := TX10) (N := 39) hx hb hts inX10 hown hK hP 0 rfl rfl 20 (by decide) lf62 (fun _ h9 => h9) rfl dX10_nextToken_78 ?_
          refine lv_aload_n hx hb dX10_nextToken_81 rfl (lv_at hl 0 rfl) ?_
          refine va_get (D := (dC, dI)) (ci := 10) (v := .int mpos_0) (C := RX10) (T := TX10) (N := 39) hx hb hts inX10 hown hK hP 0 rfl rfl 21 (by decide) lf146 (fun _ h9 => h9) rfl dX10_nextToken_82 ?_
          have b3 : vp_in mpos_0 160 := inC rfl (by omega) (by omega)
          refine va_iald hx hb hK hP 1 0 rfl rfl b3 dX10_nextToken_85 ?_
          refine lv_bipush (v := 97) hx hb dX10_nextToken_86 (by decide) ?_
          refine lv_bipush (v := 122) hx hb dX10_nextToken_88 (by decide) ?_
          refine rdS (As := [.int (mtxt mpos_0.toNatClampNeg), .int 97, .int 122]) (rest := []) ⟨hx, hb, hml, hown, hts⟩ (k_X10_in l dC dI cI cZ cQ (mtxt mpos_0.toNatClampNeg) (97 : Int32) (122 : Int32)) (va_cwS 3 hts gX10_nextToken_X10_in rfl rfl rfl (by decide +kernel) ⟨Nat.le_of_ble_eq_true rfl, Nat.le_of_ble_eq_true rfl⟩) hP hK hN [] rfl rfl hl.1 rfl (Nat.le_of_ble_eq_true rfl) dX10_nextToken_90 ⟨Nat.le_of_ble_eq_true rfl, Nat.le_of_ble_eq_true rfl⟩ (fun r4 h5 => ?_)
          have h5 : ((((r4 = 1) ∧ ((97) ≤ (mtxt mpos_0.toNatClampNeg).toInt) ∧ ((mtxt mpos_0.toNatClampNeg).toInt ≤ (122))) ∨ ((r4 = 0) ∧ ((mtxt mpos_0.toNatClampNeg).toInt < (97) ∨ (122) < (mtxt mpos_0.toNatClampNeg).toInt)))) := h5
          rcases h5 with (⟨rfl, h5_a0, h5_a1⟩ | ⟨rfl, h5_a0⟩)
          · refine lv_if_eq (tgt := 222) hx hb dX10_nextToken_93 (by decide) (fun c9 => absurd c9 (by decide)) (fun _ => ?_)
            refine lv_aload_n hx hb dX10_nextToken_96 rfl (lv_at hl 0 rfl) ?_
            refine lv_lconst (v := 0) hx hb dX10_nextToken_97 (by decide) ?_
            refine va_put (D := (dC, dI)) (ci := 10) (v := .long 0) (ty := .long) (C := RX10) (T := TX10) (N := 39) hx hb hts inX10 tyX10 tyX10_ok nmX10 hown hK hP hD hS 0 rfl rfl 23 (by decide) lf160 (fun _ h9 => h9) rfl (by decide +kernel) rfl rfl (Nat.le_of_ble_eq_true rfl) dX10_nextToken_98 (fun H locs hP hD hS => ?_)
            have hP : va_P (dC, dI) vwCl (wMdT cI cZ cQ b mday mdoo mtel mgai mbyt mtxt mpos_0 mpos_0 0 0 0 mfau mrdm mlin mbsm) H := hP
            have hD : va_D A (wMdT cI cZ cQ b mday mdoo mtel mgai mbyt mtxt mpos_0 mpos_0 0 0 0 mfau mrdm mlin mbsm) := hD
            have L101 : ∀ (nn : Nat) (mpos_101 : Int32) (mtok_101 : Int64) (H : Heap) (locs : List Loc) (ls : Array Slot), (0 ≤ mpos_101.toInt ∧ mpos_101.toInt ≤ 160) → (mpos_101.toInt ≤ mbyt.toInt) → (mpos_0.toInt ≤ mpos_101.toInt) → (tR mtxt 1 mbyt.toInt mpos_101.toInt = tR mtxt 1 mbyt.toInt mpos_0.toInt) → (9 < mpos_101.toInt - mpos_0.toInt ∨ mtok_101 = wvF mtxt mpos_0.toInt (mpos_101.toInt - mpos_0.toInt).toNat) → (mbyt.toInt - mpos_101.toInt).toNat < nn → va_P (dC, dI) vwCl (wMdT cI cZ cQ b mday mdoo mtel mgai mbyt mtxt mpos_101 mpos_0 mtok_101 0 0 mfau mrdm mlin mbsm) H → va_D A (wMdT cI cZ cQ b mday mdoo mtel mgai mbyt mtxt mpos_101 mpos_0 mtok_101 0 0 mfau mrdm mlin mbsm) → va_S A s.heap H locs → lv_has ls 1 [(0, .ref (b 39))] → W p l e (headSpec wsX10_nextToken { frames := 1, cells := 0, slots := 0, locals := 22 }).room s m ([.ref (b 39)] : List Value).toArray below meth c H locs 0 0 (MQ below (va_Qv (fun (u : US) => ((u.1 0 0).toInt ≤ mbyt.toInt) ∧ (0 ≤ (u.1 1 0).toInt) ∧ ((u.1 1 0).toInt ≤ (u.1 0 0).toInt) ∧ ((u.1 1 0).toInt = tS mtxt mbyt.toInt mpos.toInt) ∧ ((u.1 0 0).toInt = tE mtxt mbyt.toInt (u.1 1 0).toInt) ∧ (u.2.1 = tkV mtxt mbyt.toInt (u.1 1 0).toInt (u.1 0 0).toInt) ∧ (nmP mtxt mbyt.toInt (u.1 1 0).toInt (u.1 0 0).toInt (u.1 4 0)) ∧ (0 ≤ (u.1 0 0).toInt ∧ (u.1 0 0).toInt ≤ 160)) (Bw (dC, dI) A (fun u : US => (wMdT cI cZ cQ b mday mdoo mtel mgai mbyt mtxt (u.1 0 0) (u.1 1 0) u.2.1 (u.1 3 0) (u.1 4 0) mfau mrdm mlin mbsm))) A) ([.ref (b 39)] : List Value).toArray s 0 0 A) (F0 m 101 ls []) := by
              intro nn
              induction nn with
              | zero =>
                intro mpos_101 mtok_101 H locs ls r_mpos_101 i101_0 i101_1 i101_2 i101_3 hm101
                exact absurd hm101 (Nat.not_lt_zero _)
              | succ nn ih101 =>
                intro mpos_101 mtok_101 H locs ls r_mpos_101 i101_0 i101_1 i101_2 i101_3 hm101 hP hD hS hl
                refine lv_aload_n hx hb dX10_nextToken_101 rfl (lv_at hl 0 rfl) ?_
                refine va_get (D := (dC, dI)) (ci := 10) (v := .int mpos_101) (C := RX10) (T := TX10) (N := 39) hx hb hts inX10 hown hK hP 0 rfl rfl 21 (by decide) lf146 (fun _ h9 => h9) rfl dX10_nextToken_102 ?_
                refine lv_aload_n hx hb dX10_nextToken_105 rfl (lv_at hl 0 rfl) ?_
                refine va_get (D := (dC, dI)) (ci := 10) (v := .int mbyt) (C := RX10) (T := TX10) (N := 39) hx hb hts inX10 hown hK hP 0 rfl rfl 19 (by decide) lf141 (fun _ h9 => h9) rfl dX10_nextToken_106 ?_
                refine lv_icmp_ge (tgt := 191) hx hb dX10_nextToken_109 (by decide) (fun c6 => ?_) (fun c6 => ?_)
                · have dc6 : mbyt.toInt ≤ mpos_101.toInt := leC rfl rfl c6
                  refine lv_aload_n hx hb dX10_nextToken_191 rfl (lv_at hl 0 rfl) ?_
                  refine lv_aload_n hx hb dX10_nextToken_192 rfl (lv_at hl 0 rfl) ?_
                  refine va_get (D := (dC, dI)) (ci := 10) (v := .int mpos_101) (C := RX10) (T := TX10) (N := 39) hx hb hts inX10 hown hK hP 0 rfl rfl 21 (by decide) lf146 (fun _ h9 => h9) rfl dX10_nextToken_193 ?_
                  refine lv_aload_n hx hb dX10_nextToken_196 rfl (lv_at hl 0 rfl) ?_
                  refine va_get (D := (dC, dI)) (ci := 10) (v := .int mpos_0) (C := RX10) (T := TX10) (N := 39) hx hb hts inX10 hown hK hP 0 rfl rfl 22 (by decide) lf149 (fun _ h9 => h9) rfl dX10_nextToken_197 ?_
                  refine lv_isub hx hb dX10_nextToken_200 ?_
                  have f7 : (mpos_101 - mpos_0).toInt = (mpos_101.toInt) - (mpos_0.toInt) := subC rfl rfl (by omega) (by omega)
                  refine lv_bipush (v := 9) hx hb dX10_nextToken_201 (by decide) ?_
                  refine lv_icmp_le (tgt := 212) hx hb dX10_nextToken_203 (by decide) (fun c8 => ?_) (fun c8 => ?_)
                  · have dc8 : (mpos_101.toInt) - (mpos_0.toInt) ≤ 9 := leC f7 (show (9 : Int32).toInt = 9 from rfl) c8
                    refine lv_aload_n hx hb dX10_nextToken_212 rfl (lv_at hl 0 rfl) ?_
                    refine va_get (D := (dC, dI)) (ci := 10) (v := .long mtok_101) (C := RX10) (T := TX10) (N := 39) hx hb hts inX10 hown hK hP 0 rfl rfl 23 (by decide) lf160 (fun _ h9 => h9) rfl dX10_nextToken_213 ?_
                    refine va_put (D := (dC, dI)) (ci := 10) (v := .long mtok_101) (ty := .long) (C := RX10) (T := TX10) (N := 39) hx hb hts inX10 tyX10 tyX10_ok nmX10 hown hK hP hD hS 0 rfl rfl 23 (by decide) lf160 (fun _ h9 => h9) rfl (by decide +kernel) rfl rfl (Nat.le_of_ble_eq_true rfl) dX10_nextToken_216 (fun H locs hP hD hS => ?_)
                    have hP : va_P (dC, dI) vwCl (wMdT cI cZ cQ b mday mdoo mtel mgai mbyt mtxt mpos_101 mpos_0 mtok_101 0 0 mfau mrdm mlin mbsm) H := hP
                    have hD : va_D A (wMdT cI cZ cQ b mday mdoo mtel mgai mbyt mtxt mpos_101 mpos_0 mtok_101 0 0 mfau mrdm mlin mbsm) := hD
                    refine lv_goto (tgt := 394) hx hb dX10_nextToken_219 (by decide) ?_
                    exact W.vret hx hb hr (fun tq ht hW => ⟨⟨(uS [(fun _ => mpos_101), (fun _ => mpos_0), (fun _ => 0), (fun _ => 0), (fun _ => 0)] mtok_101 (fun _ => 0)), rfl, ⟨(show mpos_101.toInt ≤ mbyt.toInt from by omega), (show 0 ≤ mpos_0.toInt from by omega), (show mpos_0.toInt ≤ mpos_101.toInt from by omega), (show mpos_0.toInt = tS mtxt mbyt.toInt mpos.toInt from by exact sk_out i0_1 (by omega)), (show mpos_101.toInt = tE mtxt mbyt.toInt mpos_0.toInt from by (first | exact tE_end (by omega) rfl | exact tE_runA (by omega) (knd_1 (by omega)) (by decide) i101_2 (by first | exact Or.inl (by omega) | exact Or.inr (knd_n1 (by omega))) | exact tE_runA (by omega) (knd_2 (by omega)) (by decide) i241_2 (by first | exact Or.inl (by omega) | exact Or.inr (knd_n2 (by omega))) | exact tE_oneC (by omega) (knd_3 (by omega) (by omega)).symm rfl (by omega))), (show mtok_101 = tkV mtxt mbyt.toInt mpos_0.toInt mpos_101.toInt from by (first | exact tv_end (by omega) | exact tv_let (by omega) (knd_1 (by omega)) i101_3 (by omega) | exact tv_let4 (by omega) (knd_1 (by omega)) (by omega) | exact tv_dig (by omega) (knd_2 (by omega)) (by omega) | exact tv_dig4 (by omega) (knd_2 (by omega)) (by omega) | exact tv_semi (by omega) (by omega) | exact tv_oth (by omega) (knd_3 (by omega) (by omega)) (by omega))), (show nmP mtxt mbyt.toInt mpos_0.toInt mpos_101.toInt 0 from by (first | exact nm_v (by omega) | exact nm_k (knd_1 (by omega)) (by decide) | exact nm_d i241_6 | exact nm_k (knd_3 (by omega) (by omega)) (by decide))), r_mpos_101⟩, by rw [ht]; exact hP, hD⟩, hS.F ht⟩) hS.2.2 dX10_nextToken_394
                  · have dc8 : 9 < (mpos_101.toInt) - (mpos_0.toInt) := nleC f7 (show (9 : Int32).toInt = 9 from rfl) c8
                    refine lv_ldc2 (v := (-4)) hx hb hown (hts (.constantLong RX10 168 (-4)) (List.mem_cons_of_mem _ (List.mem_append_left _ (List.mem_of_getElem? (i := 10) rfl)))) dX10_nextToken_206 ?_
                    refine lv_goto (tgt := 216) hx hb dX10_nextToken_209 (by decide) ?_
                    refine va_put (D := (dC, dI)) (ci := 10) (v := .long (-4)) (ty := .long) (C := RX10) (T := TX10) (N := 39) hx hb hts inX10 tyX10 tyX10_ok nmX10 hown hK hP hD hS 0 rfl rfl 23 (by decide) lf160 (fun _ h9 => h9) rfl (by decide +kernel) rfl rfl (Nat.le_of_ble_eq_true rfl) dX10_nextToken_216 (fun H locs hP hD hS => ?_)
                    have hP : va_P (dC, dI) vwCl (wMdT cI cZ cQ b mday mdoo mtel mgai mbyt mtxt mpos_101 mpos_0 (-4) 0 0 mfau mrdm mlin mbsm) H := hP
                    have hD : va_D A (wMdT cI cZ cQ b mday mdoo mtel mgai mbyt mtxt mpos_101 mpos_0 (-4) 0 0 mfau mrdm mlin mbsm) := hD
                    refine lv_goto (tgt := 394) hx hb dX10_nextToken_219 (by decide) ?_
                    exact W.vret hx hb hr (fun tq ht hW => ⟨⟨(uS [(fun _ => mpos_101), (fun _ => mpos_0), (fun _ => 0), (fun _ => 0), (fun _ => 0)] (-4) (fun _ => 0)), rfl, ⟨(show mpos_101.toInt ≤ mbyt.toInt from by omega), (show 0 ≤ mpos_0.toInt from by omega), (show mpos_0.toInt ≤ mpos_101.toInt from by omega), (show mpos_0.toInt = tS mtxt mbyt.toInt mpos.toInt from by exact sk_out i0_1 (by omega)), (show mpos_101.toInt = tE mtxt mbyt.toInt mpos_0.toInt from by (first | exact tE_end (by omega) rfl | exact tE_runA (by omega) (knd_1 (by omega)) (by decide) i101_2 (by first | exact Or.inl (by omega) | exact Or.inr (knd_n1 (by omega))) | exact tE_runA (by omega) (knd_2 (by omega)) (by decide) i241_2 (by first | exact Or.inl (by omega) | exact Or.inr (knd_n2 (by omega))) | exact tE_oneC (by omega) (knd_3 (by omega) (by omega)).symm rfl (by omega))), (show (-4) = tkV mtxt mbyt.toInt mpos_0.toInt mpos_101.toInt from by (first | exact tv_end (by omega) | exact tv_let (by omega) (knd_1 (by omega)) i101_3 (by omega) | exact tv_let4 (by omega) (knd_1 (by omega)) (by omega) | exact tv_dig (by omega) (knd_2 (by omega)) (by omega) | exact tv_dig4 (by omega) (knd_2 (by omega)) (by omega) | exact tv_semi (by omega) (by omega) | exact tv_oth (by omega) (knd_3 (by omega) (by omega)) (by omega))), (show nmP mtxt mbyt.toInt mpos_0.toInt mpos_101.toInt 0 from by (first | exact nm_v (by omega) | exact nm_k (knd_1 (by omega)) (by decide) | exact nm_d i241_6 | exact nm_k (knd_3 (by omega) (by omega)) (by decide))), r_mpos_101⟩, by rw [ht]; exact hP, hD⟩, hS.F ht⟩) hS.2.2 dX10_nextToken_394
                · have dc6 : mpos_101.toInt < mbyt.toInt := nleC rfl rfl c6
                  refine lv_aload_n hx hb dX10_nextToken_112 rfl (lv_at hl 0 rfl) ?_
                  refine va_get (D := (dC, dI)) (ci := 10) (v := .ref (b 20)) (C := RX10) (T := TX10) (N := 39) hx hb hts inX10 hown hK hP 0 rfl rfl 20 (by decide) lf62 (fun _ h9 => h9) rfl dX10_nextToken_113 ?_
                  refine lv_aload_n hx hb dX10_nextToken_116 rfl (lv_at hl 0 rfl) ?_
                  refine va_get (D := (dC, dI)) (ci := 10) (v := .int mpos_101) (C := RX10) (T := TX10) (N := 39) hx hb hts inX10 hown hK hP 0 rfl rfl 21 (by decide) lf146 (fun _ h9 => h9) rfl dX10_nextToken_117 ?_
                  have b9 : vp_in mpos_101 160 := inC rfl (by omega) (by omega)
                  refine va_iald hx hb hK hP 1 0 rfl rfl b9 dX10_nextToken_120 ?_
                  refine lv_bipush (v := 97) hx hb dX10_nextToken_121 (by decide) ?_
                  refine lv_bipush (v := 122) hx hb dX10_nextToken_123 (by decide) ?_
                  refine rdS (As := [.int (mtxt mpos_101.toNatClampNeg), .int 97, .int 122]) (rest := []) ⟨hx, hb, hml, hown, hts⟩ (k_X10_in l dC dI cI cZ cQ (mtxt mpos_101.toNatClampNeg) (97 : Int32) (122 : Int32)) (va_cwS 3 hts gX10_nextToken_X10_in rfl rfl rfl (by decide +kernel) ⟨Nat.le_of_ble_eq_true rfl, Nat.le_of_ble_eq_true rfl⟩) hP hK hN [] rfl rfl hl.1 rfl (Nat.le_of_ble_eq_true rfl) dX10_nextToken_125 ⟨Nat.le_of_ble_eq_true rfl, Nat.le_of_ble_eq_true rfl⟩ (fun r10 h11 => ?_)
                  have h11 : ((((r10 = 1) ∧ ((97) ≤ (mtxt mpos_101.toNatClampNeg).toInt) ∧ ((mtxt mpos_101.toNatClampNeg).toInt ≤ (122))) ∨ ((r10 = 0) ∧ ((mtxt mpos_101.toNatClampNeg).toInt < (97) ∨ (122) < (mtxt mpos_101.toNatClampNeg).toInt)))) := h11
                  rcases h11 with (⟨rfl, h11_a0, h11_a1⟩ | ⟨rfl, h11_a0⟩)
                  · refine lv_if_eq (tgt := 191) hx hb dX10_nextToken_128 (by decide) (fun c9 => absurd c9 (by decide)) (fun _ => ?_)
                    refine lv_aload_n hx hb dX10_nextToken_131 rfl (lv_at hl 0 rfl) ?_
                    refine lv_aload_n hx hb dX10_nextToken_132 rfl (lv_at hl 0 rfl) ?_
                    refine va_get (D := (dC, dI)) (ci := 10) (v := .int mpos_101) (C := RX10) (T := TX10) (N := 39) hx hb hts inX10 hown hK hP 0 rfl rfl 21 (by decide) lf146 (fun _ h9 => h9) rfl dX10_nextToken_133 ?_
                    refine lv_aload_n hx hb dX10_nextToken_136 rfl (lv_at hl 0 rfl) ?_
                    refine va_get (D := (dC, dI)) (ci := 10) (v := .int mpos_0) (C := RX10) (T := TX10) (N := 39) hx hb hts inX10 hown hK hP 0 rfl rfl 22 (by decide) lf149 (fun _ h9 => h9) rfl dX10_nextToken_137 ?_
                    refine lv_isub hx hb dX10_nextToken_140 ?_
                    have f12 : (mpos_101 - mpos_0).toInt = (mpos_101.toInt) - (mpos_0.toInt) := subC rfl rfl (by omega) (by omega)
                    refine lv_bipush (v := 9) hx hb dX10_nextToken_141 (by decide) ?_
                    refine lv_icmp_ge (tgt := 172) hx hb dX10_nextToken_143 (by decide) (fun c13 => ?_) (fun c13 => ?_)
                    · have dc13 : 9 ≤ (mpos_101.toInt) - (mpos_0.toInt) := leC (show (9 : Int32).toInt = 9 from rfl) f12 c13
                      refine lv_ldc2 (v := (-4)) hx hb hown (hts (.constantLong RX10 168 (-4)) (List.mem_cons_of_mem _ (List.mem_append_left _ (List.mem_of_getElem? (i := 10) rfl)))) dX10_nextToken_172 ?_
                      refine va_put (D := (dC, dI)) (ci := 10) (v := .long (-4)) (ty := .long) (C := RX10) (T := TX10) (N := 39) hx hb hts inX10 tyX10 tyX10_ok nmX10 hown hK hP hD hS 0 rfl rfl 23 (by decide) lf160 (fun _ h9 => h9) rfl (by decide +kernel) rfl rfl (Nat.le_of_ble_eq_true rfl) dX10_nextToken_175 (fun H locs hP hD hS => ?_)
                      have hP : va_P (dC, dI) vwCl (wMdT cI cZ cQ b mday mdoo mtel mgai mbyt mtxt mpos_101 mpos_0 (-4) 0 0 mfau mrdm mlin mbsm) H := hP
                      have hD : va_D A (wMdT cI cZ cQ b mday mdoo mtel mgai mbyt mtxt mpos_101 mpos_0 (-4) 0 0 mfau mrdm mlin mbsm) := hD
                      refine lv_aload_n hx hb dX10_nextToken_178 rfl (lv_at hl 0 rfl) ?_
                      refine lv_dup hx hb dX10_nextToken_179 rfl ?_
                      refine va_get (D := (dC, dI)) (ci := 10) (v := .int mpos_101) (C := RX10) (T := TX10) (N := 39) hx hb hts inX10 hown hK hP 0 rfl rfl 21 (by decide) lf146 (fun _ h9 => h9) rfl dX10_nextToken_180 ?_
                      refine lv_iconst (v := 1) hx hb dX10_nextToken_183 (by decide) ?_
                      refine lv_iadd hx hb dX10_nextToken_184 ?_
                      have f14 : (mpos_101 + 1).toInt = (mpos_101.toInt) + (1) := addC rfl (show (1 : Int32).toInt = 1 from rfl) (by omega) (by omega)
                      refine lv_topi (fun x15 ex15 => ?_)
                      have ix15 : x15.toInt = (mpos_101.toInt) + (1) := by rw [ex15]; exact f14
                      refine va_put (D := (dC, dI)) (ci := 10) (v := .int x15) (ty := .int) (C := RX10) (T := TX10) (N := 39) hx hb hts inX10 tyX10 tyX10_ok nmX10 hown hK hP hD hS 0 rfl rfl 21 (by decide) lf146 (fun _ h9 => h9) rfl (by decide +kernel) rfl rfl (Nat.le_of_ble_eq_true rfl) dX10_nextToken_185 (fun H locs hP hD hS => ?_)
                      have g16 : 0 ≤ x15.toInt ∧ x15.toInt ≤ 160 := by rw [show x15.toInt = x15.toInt from rfl]; exact ⟨by omega, by omega⟩
                      have hP : va_P (dC, dI) vwCl (wMdT cI cZ cQ b mday mdoo mtel mgai mbyt mtxt x15 mpos_0 (-4) 0 0 mfau mrdm mlin mbsm) H := hP
                      have hD : va_D A (wMdT cI cZ cQ b mday mdoo mtel mgai mbyt mtxt x15 mpos_0 (-4) 0 0 mfau mrdm mlin mbsm) := hD
                      refine lv_goto (tgt := 101) hx hb dX10_nextToken_188 (by decide) ?_
                      exact ih101 x15 (-4) _ _ _ g16 (by omega) (by omega) (by (first | exact rn_in i101_2 (by omega) (knd_1 (by omega)) (by omega) | rfl)) (by (first | exact wv_s i101_3 (by omega) (by omega) (by omega) | exact Or.inl (by omega) | exact wv_0 rfl)) (by omega) hP hD hS (lv_sub hl [0] rfl)
                    · have dc13 : (mpos_101.toInt) - (mpos_0.toInt) < 9 := nleC (show (9 : Int32).toInt = 9 from rfl) f12 c13
                      refine lv_ldc2 (v := 27) hx hb hown (hts (.constantLong RX10 164 (27)) (List.mem_cons_of_mem _ (List.mem_append_left _ (List.mem_of_getElem? (i := 8) rfl)))) dX10_nextToken_146 ?_
                      refine lv_aload_n hx hb dX10_nextToken_149 rfl (lv_at hl 0 rfl) ?_
                      refine va_get (D := (dC, dI)) (ci := 10) (v := .long mtok_101) (C := RX10) (T := TX10) (N := 39) hx hb hts inX10 hown hK hP 0 rfl rfl 23 (by decide) lf160 (fun _ h9 => h9) rfl dX10_nextToken_150 ?_
                      refine lv_lmul hx hb dX10_nextToken_153 ?_
                      refine lv_aload_n hx hb dX10_nextToken_154 rfl (lv_at hl 0 rfl) ?_
                      refine va_get (D := (dC, dI)) (ci := 10) (v := .ref (b 20)) (C := RX10) (T := TX10) (N := 39) hx hb hts inX10 hown hK hP 0 rfl rfl 20 (by decide) lf62 (fun _ h9 => h9) rfl dX10_nextToken_155 ?_
                      refine lv_aload_n hx hb dX10_nextToken_158 rfl (lv_at hl 0 rfl) ?_
                      refine va_get (D := (dC, dI)) (ci := 10) (v := .int mpos_101) (C := RX10) (T := TX10) (N := 39) hx hb hts inX10 hown hK hP 0 rfl rfl 21 (by decide) lf146 (fun _ h9 => h9) rfl dX10_nextToken_159 ?_
                      have b17 : vp_in mpos_101 160 := inC rfl (by omega) (by omega)
                      refine va_iald hx hb hK hP 1 0 rfl rfl b17 dX10_nextToken_162 ?_
                      refine lv_i2l hx hb dX10_nextToken_163 rfl ?_
                      refine lv_ladd hx hb dX10_nextToken_164 ?_
                      refine lv_ldc2 (v := 96) hx hb hown (hts (.constantLong RX10 166 (96)) (List.mem_cons_of_mem _ (List.mem_append_left _ (List.mem_of_getElem? (i := 9) rfl)))) dX10_nextToken_165 ?_
                      refine lv_lsub hx hb dX10_nextToken_168 ?_
                      refine lv_goto (tgt := 175) hx hb dX10_nextToken_169 (by decide) ?_
                      refine va_put (D := (dC, dI)) (ci := 10) (v := .long (((27 * mtok_101) + ((mtxt mpos_101.toNatClampNeg).toInt64)) - 96)) (ty := .long) (C := RX10) (T := TX10) (N := 39) hx hb hts inX10 tyX10 tyX10_ok nmX10 hown hK hP hD hS 0 rfl rfl 23 (by decide) lf160 (fun _ h9 => h9) rfl (by decide +kernel) rfl rfl (Nat.le_of_ble_eq_true rfl) dX10_nextToken_175 (fun H locs hP hD hS => ?_)
                      have hP : va_P (dC, dI) vwCl (wMdT cI cZ cQ b mday mdoo mtel mgai mbyt mtxt mpos_101 mpos_0 (((27 * mtok_101) + ((mtxt mpos_101.toNatClampNeg).toInt64)) - 96) 0 0 mfau mrdm mlin mbsm) H := hP
                      have hD : va_D A (wMdT cI cZ cQ b mday mdoo mtel mgai mbyt mtxt mpos_101 mpos_0 (((27 * mtok_101) + ((mtxt mpos_101.toNatClampNeg).toInt64)) - 96) 0 0 mfau mrdm mlin mbsm) := hD
                      refine lv_aload_n hx hb dX10_nextToken_178 rfl (lv_at hl 0 rfl) ?_
                      refine lv_dup hx hb dX10_nextToken_179 rfl ?_
                      refine va_get (D := (dC, dI)) (ci := 10) (v := .int mpos_101) (C := RX10) (T := TX10) (N := 39) hx hb hts inX10 hown hK hP 0 rfl rfl 21 (by decide) lf146 (fun _ h9 => h9) rfl dX10_nextToken_180 ?_
                      refine lv_iconst (v := 1) hx hb dX10_nextToken_183 (by decide) ?_
                      refine lv_iadd hx hb dX10_nextToken_184 ?_
                      have f18 : (mpos_101 + 1).toInt = (mpos_101.toInt) + (1) := addC rfl (show (1 : Int32).toInt = 1 from rfl) (by omega) (by omega)
                      refine lv_topi (fun x19 ex19 => ?_)
                      have ix19 : x19.toInt = (mpos_101.toInt) + (1) := by rw [ex19]; exact f18
                      refine va_put (D := (dC, dI)) (ci := 10) (v := .int x19) (ty := .int) (C := RX10) (T := TX10) (N := 39) hx hb hts inX10 tyX10 tyX10_ok nmX10 hown hK hP hD hS 0 rfl rfl 21 (by decide) lf146 (fun _ h9 => h9) rfl (by decide +kernel) rfl rfl (Nat.le_of_ble_eq_true rfl) dX10_nextToken_185 (fun H locs hP hD hS => ?_)
                      have g20 : 0 ≤ x19.toInt ∧ x19.toInt ≤ 160 := by rw [show x19.toInt = x19.toInt from rfl]; exact ⟨by omega, by omega⟩
                      have hP : va_P (dC, dI) vwCl (wMdT cI cZ cQ b mday mdoo mtel mgai mbyt mtxt x19 mpos_0 (((27 * mtok_101) + ((mtxt mpos_101.toNatClampNeg).toInt64)) - 96) 0 0 mfau mrdm mlin mbsm) H := hP
                      have hD : va_D A (wMdT cI cZ cQ b mday mdoo mtel mgai mbyt mtxt x19 mpos_0 (((27 * mtok_101) + ((mtxt mpos_101.toNatClampNeg).toInt64)) - 96) 0 0 mfau mrdm mlin mbsm) := hD
                      refine lv_goto (tgt := 101) hx hb dX10_nextToken_188 (by decide) ?_
                      exact ih101 x19 (((27 * mtok_101) + ((mtxt mpos_101.toNatClampNeg).toInt64)) - 96) _ _ _ g20 (by omega) (by omega) (by (first | exact rn_in i101_2 (by omega) (knd_1 (by omega)) (by omega) | rfl)) (by (first | exact wv_s i101_3 (by omega) (by omega) (by omega) | exact Or.inl (by omega) | exact wv_0 rfl)) (by omega) hP hD hS (lv_sub hl [0] rfl)
                  · refine lv_if_eq (tgt := 191) hx hb dX10_nextToken_128 (by decide) (fun _ => ?_) (fun c9 => absurd (by decide) c9)
                    refine lv_aload_n hx hb dX10_nextToken_191 rfl (lv_at hl 0 rfl) ?_
                    refine lv_aload_n hx hb dX10_nextToken_192 rfl (lv_at hl 0 rfl) ?_
                    refine va_get (D := (dC, dI)) (ci := 10) (v := .int mpos_101) (C := RX10) (T := TX10) (N := 39) hx hb hts inX10 hown hK hP 0 rfl rfl 21 (by decide) lf146 (fun _ h9 => h9) rfl dX10_nextToken_193 ?_
                    refine lv_aload_n hx hb dX10_nextToken_196 rfl (lv_at hl 0 rfl) ?_
                    refine va_get (D := (dC, dI)) (ci := 10) (v := .int mpos_0) (C := RX10) (T := TX10) (N := 39) hx hb hts inX10 hown hK hP 0 rfl rfl 22 (by decide) lf149 (fun _ h9 => h9) rfl dX10_nextToken_197 ?_
                    refine lv_isub hx hb dX10_nextToken_200 ?_
                    have f21 : (mpos_101 - mpos_0).toInt = (mpos_101.toInt) - (mpos_0.toInt) := subC rfl rfl (by omega) (by omega)
                    refine lv_bipush (v := 9) hx hb dX10_nextToken_201 (by decide) ?_
                    refine lv_icmp_le (tgt := 212) hx hb dX10_nextToken_203 (by decide) (fun c22 => ?_) (fun c22 => ?_)
                    · have dc22 : (mpos_101.toInt) - (mpos_0.toInt) ≤ 9 := leC f21 (show (9 : Int32).toInt = 9 from rfl) c22
                      refine lv_aload_n hx hb dX10_nextToken_212 rfl (lv_at hl 0 rfl) ?_
                      refine va_get (D := (dC, dI)) (ci := 10) (v := .long mtok_101) (C := RX10) (T := TX10) (N := 39) hx hb hts inX10 hown hK hP 0 rfl rfl 23 (by decide) lf160 (fun _ h9 => h9) rfl dX10_nextToken_213 ?_
                      refine va_put (D := (dC, dI)) (ci := 10) (v := .long mtok_101) (ty := .long) (C := RX10) (T := TX10) (N := 39) hx hb hts inX10 tyX10 tyX10_ok nmX10 hown hK hP hD hS 0 rfl rfl 23 (by decide) lf160 (fun _ h9 => h9) rfl (by decide +kernel) rfl rfl (Nat.le_of_ble_eq_true rfl) dX10_nextToken_216 (fun H locs hP hD hS => ?_)
                      have hP : va_P (dC, dI) vwCl (wMdT cI cZ cQ b mday mdoo mtel mgai mbyt mtxt mpos_101 mpos_0 mtok_101 0 0 mfau mrdm mlin mbsm) H := hP
                      have hD : va_D A (wMdT cI cZ cQ b mday mdoo mtel mgai mbyt mtxt mpos_101 mpos_0 mtok_101 0 0 mfau mrdm mlin mbsm) := hD
                      refine lv_goto (tgt := 394) hx hb dX10_nextToken_219 (by decide) ?_
                      exact W.vret hx hb hr (fun tq ht hW => ⟨⟨(uS [(fun _ => mpos_101), (fun _ => mpos_0), (fun _ => 0), (fun _ => 0), (fun _ => 0)] mtok_101 (fun _ => 0)), rfl, ⟨(show mpos_101.toInt ≤ mbyt.toInt from by omega), (show 0 ≤ mpos_0.toInt from by omega), (show mpos_0.toInt ≤ mpos_101.toInt from by omega), (show mpos_0.toInt = tS mtxt mbyt.toInt mpos.toInt from by exact sk_out i0_1 (by omega)), (show mpos_101.toInt = tE mtxt mbyt.toInt mpos_0.toInt from by (first | exact tE_end (by omega) rfl | exact tE_runA (by omega) (knd_1 (by omega)) (by decide) i101_2 (by first | exact Or.inl (by omega) | exact Or.inr (knd_n1 (by omega))) | exact tE_runA (by omega) (knd_2 (by omega)) (by decide) i241_2 (by first | exact Or.inl (by omega) | exact Or.inr (knd_n2 (by omega))) | exact tE_oneC (by omega) (knd_3 (by omega) (by omega)).symm rfl (by omega))), (show mtok_101 = tkV mtxt mbyt.toInt mpos_0.toInt mpos_101.toInt from by (first | exact tv_end (by omega) | exact tv_let (by omega) (knd_1 (by omega)) i101_3 (by omega) | exact tv_let4 (by omega) (knd_1 (by omega)) (by omega) | exact tv_dig (by omega) (knd_2 (by omega)) (by omega) | exact tv_dig4 (by omega) (knd_2 (by omega)) (by omega) | exact tv_semi (by omega) (by omega) | exact tv_oth (by omega) (knd_3 (by omega) (by omega)) (by omega))), (show nmP mtxt mbyt.toInt mpos_0.toInt mpos_101.toInt 0 from by (first | exact nm_v (by omega) | exact nm_k (knd_1 (by omega)) (by decide) | exact nm_d i241_6 | exact nm_k (knd_3 (by omega) (by omega)) (by decide))), r_mpos_101⟩, by rw [ht]; exact hP, hD⟩, hS.F ht⟩) hS.2.2 dX10_nextToken_394
                    · have dc22 : 9 < (mpos_101.toInt) - (mpos_0.toInt) := nleC f21 (show (9 : Int32).toInt = 9 from rfl) c22
                      refine lv_ldc2 (v := (-4)) hx hb hown (hts (.constantLong RX10 168 (-4)) (List.mem_cons_of_mem _ (List.mem_append_left _ (List.mem_of_getElem? (i := 10) rfl)))) dX10_nextToken_206 ?_
                      refine lv_goto (tgt := 216) hx hb dX10_nextToken_209 (by decide) ?_
                      refine va_put (D := (dC, dI)) (ci := 10) (v := .long (-4)) (ty := .long) (C := RX10) (T := TX10) (N := 39) hx hb hts inX10 tyX10 tyX10_ok nmX10 hown hK hP hD hS 0 rfl rfl 23 (by decide) lf160 (fun _ h9 => h9) rfl (by decide +kernel) rfl rfl (Nat.le_of_ble_eq_true rfl) dX10_nextToken_216 (fun H locs hP hD hS => ?_)
                      have hP : va_P (dC, dI) vwCl (wMdT cI cZ cQ b mday mdoo mtel mgai mbyt mtxt mpos_101 mpos_0 (-4) 0 0 mfau mrdm mlin mbsm) H := hP
                      have hD : va_D A (wMdT cI cZ cQ b mday mdoo mtel mgai mbyt mtxt mpos_101 mpos_0 (-4) 0 0 mfau mrdm mlin mbsm) := hD
                      refine lv_goto (tgt := 394) hx hb dX10_nextToken_219 (by decide) ?_
                      exact W.vret hx hb hr (fun tq ht hW => ⟨⟨(uS [(fun _ => mpos_101), (fun _ => mpos_0), (fun _ => 0), (fun _ => 0), (fun _ => 0)] (-4) (fun _ => 0)), rfl, ⟨(show mpos_101.toInt ≤ mbyt.toInt from by omega), (show 0 ≤ mpos_0.toInt from by omega), (show mpos_0.toInt ≤ mpos_101.toInt from by omega), (show mpos_0.toInt = tS mtxt mbyt.toInt mpos.toInt from by exact sk_out i0_1 (by omega)), (show mpos_101.toInt = tE mtxt mbyt.toInt mpos_0.toInt from by (first | exact tE_end (by omega) rfl | exact tE_runA (by omega) (knd_1 (by omega)) (by decide) i101_2 (by first | exact Or.inl (by omega) | exact Or.inr (knd_n1 (by omega))) | exact tE_runA (by omega) (knd_2 (by omega)) (by decide) i241_2 (by first | exact Or.inl (by omega) | exact Or.inr (knd_n2 (by omega))) | exact tE_oneC (by omega) (knd_3 (by omega) (by omega)).symm rfl (by omega))), (show (-4) = tkV mtxt mbyt.toInt mpos_0.toInt mpos_101.toInt from by (first | exact tv_end (by omega) | exact tv_let (by omega) (knd_1 (by omega)) i101_3 (by omega) | exact tv_let4 (by omega) (knd_1 (by omega)) (by omega) | exact tv_dig (by omega) (knd_2 (by omega)) (by omega) | exact tv_dig4 (by omega) (knd_2 (by omega)) (by omega) | exact tv_semi (by omega) (by omega) | exact tv_oth (by omega) (knd_3 (by omega) (by omega)) (by omega))), (show nmP mtxt mbyt.toInt mpos_0.toInt mpos_101.toInt 0 from by (first | exact nm_v (by omega) | exact nm_k (knd_1 (by omega)) (by decide) | exact nm_d i241_6 | exact nm_k (knd_3 (by omega) (by omega)) (by decide))), r_mpos_101⟩, by rw [ht]; exact hP, hD⟩, hS.F ht⟩) hS.2.2 dX10_nextToken_394
            exact L101 _ mpos_0 0 _ _ _ r_mpos_0 (by omega) (by omega) (by (first | exact rn_in i101_2 (by omega) (knd_1 (by omega)) (by omega) | rfl)) (by (first | exact wv_s i101_3 (by omega) (by omega) (by omega) | exact Or.inl (by omega) | exact wv_0 rfl)) (Nat.lt_succ_self _) hP hD hS (lv_sub hl [0] rfl)
          · refine lv_if_eq (tgt := 222) hx hb dX10_nextToken_93 (by decide) (fun _ => ?_) (fun c9 => absurd (by decide) c9)
            refine lv_aload_n hx hb dX10_nextToken_222 rfl (lv_at hl 0 rfl) ?_
            refine va_get (D := (dC, dI)) (ci := 10) (v := .ref (b 20)) (C := RX10) (T := TX10) (N := 39) hx hb hts inX10 hown hK hP 0 rfl rfl 20 (by decide) lf62 (fun _ h9 => h9) rfl dX10_nextToken_223 ?_
            refine lv_aload_n hx hb dX10_nextToken_226 rfl (lv_at hl 0 rfl) ?_
            refine va_get (D := (dC, dI)) (ci := 10) (v := .int mpos_0) (C := RX10) (T := TX10) (N := 39) hx hb hts inX10 hown hK hP 0 rfl rfl 21 (by decide) lf146 (fun _ h9 => h9) rfl dX10_nextToken_227 ?_
            have b23 : vp_in mpos_0 160 := inC rfl (by omega) (by omega)
            refine va_iald hx hb hK hP 1 0 rfl rfl b23 dX10_nextToken_230 ?_
            refine lv_bipush (v := 48) hx hb dX10_nextToken_231 (by decide) ?_
            refine lv_bipush (v := 57) hx hb dX10_nextToken_233 (by decide) ?_
            refine rdS (As := [.int (mtxt mpos_0.toNatClampNeg), .int 48, .int 57]) (rest := []) ⟨hx, hb, hml, hown, hts⟩ (k_X10_in l dC dI cI cZ cQ (mtxt mpos_0.toNatClampNeg) (48 : Int32) (57 : Int32)) (va_cwS 3 hts gX10_nextToken_X10_in rfl rfl rfl (by decide +kernel) ⟨Nat.le_of_ble_eq_true rfl, Nat.le_of_ble_eq_true rfl⟩) hP hK hN [] rfl rfl hl.1 rfl (Nat.le_of_ble_eq_true rfl) dX10_nextToken_235 ⟨Nat.le_of_ble_eq_true rfl, Nat.le_of_ble_eq_true rfl⟩ (fun r24 h25 => ?_)
            have h25 : ((((r24 = 1) ∧ ((48) ≤ (mtxt mpos_0.toNatClampNeg).toInt) ∧ ((mtxt mpos_0.toNatClampNeg).toInt ≤ (57))) ∨ ((r24 = 0) ∧ ((mtxt mpos_0.toNatClampNeg).toInt < (48) ∨ (57) < (mtxt mpos_0.toNatClampNeg).toInt)))) := h25
            rcases h25 with (⟨rfl, h25_a0, h25_a1⟩ | ⟨rfl, h25_a0⟩)
            · refine lv_if_eq (tgt := 357) hx hb dX10_nextToken_238 (by decide) (fun c9 => absurd c9 (by decide)) (fun _ => ?_)
              have L241 : ∀ (nn : Nat) (mpos_241 : Int32) (mdig_241 : Int32) (mnum_241 : Int32) (H : Heap) (locs : List Loc) (ls : Array Slot), (0 ≤ mpos_241.toInt ∧ mpos_241.toInt ≤ 160) → (mpos_241.toInt ≤ mbyt.toInt) → (mpos_0.toInt ≤ mpos_241.toInt) → (tR mtxt 2 mbyt.toInt mpos_241.toInt = tR mtxt 2 mbyt.toInt mpos_0.toInt) → (mdig_241.toInt = mpos_241.toInt - mpos_0.toInt) → (0 ≤ mdig_241.toInt) → (mdig_241.toInt ≤ 160) → (2 < mpos_241.toInt - mpos_0.toInt ∨ mnum_241 = nvF mtxt mpos_0.toInt (mpos_241.toInt - mpos_0.toInt).toNat) → (mbyt.toInt - mpos_241.toInt).toNat < nn → va_P (dC, dI) vwCl (wMdT cI cZ cQ b mday mdoo mtel mgai mbyt mtxt mpos_241 mpos_0 mtok mdig_241 mnum_241 mfau mrdm mlin mbsm) H → va_D A (wMdT cI cZ cQ b mday mdoo mtel mgai mbyt mtxt mpos_241 mpos_0 mtok mdig_241 mnum_241 mfau mrdm mlin mbsm) → va_S A s.heap H locs → lv_has ls 1 [(0, .ref (b 39))] → W p l e (headSpec wsX10_nextToken { frames := 1, cells := 0, slots := 0, locals := 22 }).room s m ([.ref (b 39)] : List Value).toArray below meth c H locs 0 0 (MQ below (va_Qv (fun (u : US) => ((u.1 0 0).toInt ≤ mbyt.toInt) ∧ (0 ≤ (u.1 1 0).toInt) ∧ ((u.1 1 0).toInt ≤ (u.1 0 0).toInt) ∧ ((u.1 1 0).toInt = tS mtxt mbyt.toInt mpos.toInt) ∧ ((u.1 0 0).toInt = tE mtxt mbyt.toInt (u.1 1 0).toInt) ∧ (u.2.1 = tkV mtxt mbyt.toInt (u.1 1 0).toInt (u.1 0 0).toInt) ∧ (nmP mtxt mbyt.toInt (u.1 1 0).toInt (u.1 0 0).toInt (u.1 4 0)) ∧ (0 ≤ (u.1 0 0).toInt ∧ (u.1 0 0).toInt ≤ 160)) (Bw (dC, dI) A (fun u : US => (wMdT cI cZ cQ b mday mdoo mtel mgai mbyt mtxt (u.1 0 0) (u.1 1 0) u.2.1 (u.1 3 0) (u.1 4 0) mfau mrdm mlin mbsm))) A) ([.ref (b 39)] : List Value).toArray s 0 0 A) (F0 m 241 ls []) := by
                intro nn
                induction nn with
                | zero =>
                  intro mpos_241 mdig_241 mnum_241 H locs ls r_mpos_241 i241_0 i241_1 i241_2 i241_3 i241_4 i241_5 i241_6 hm241
                  exact absurd hm241 (Nat.not_lt_zero _)
                | succ nn ih241 =>
                  intro mpos_241 mdig_241 mnum_241 H locs ls r_mpos_241 i241_0 i241_1 i241_2 i241_3 i241_4 i241_5 i241_6 hm241 hP hD hS hl
                  refine lv_aload_n hx hb dX10_nextToken_241 rfl (lv_at hl 0 rfl) ?_
                  refine va_get (D := (dC, dI)) (ci := 10) (v := .int mpos_241) (C := RX10) (T := TX10) (N := 39) hx hb hts inX10 hown hK hP 0 rfl rfl 21 (by decide) lf146 (fun _ h9 => h9) rfl dX10_nextToken_242 ?_
                  refine lv_aload_n hx hb dX10_nextToken_245 rfl (lv_at hl 0 rfl) ?_
                  refine va_get (D := (dC, dI)) (ci := 10) (v := .int mbyt) (C := RX10) (T := TX10) (N := 39) hx hb hts inX10 hown hK hP 0 rfl rfl 19 (by decide) lf141 (fun _ h9 => h9) rfl dX10_nextToken_246 ?_
                  refine lv_icmp_ge (tgt := 333) hx hb dX10_nextToken_249 (by decide) (fun c26 => ?_) (fun c26 => ?_)
                  · have dc26 : mbyt.toInt ≤ mpos_241.toInt := leC rfl rfl c26
                    refine lv_aload_n hx hb dX10_nextToken_333 rfl (lv_at hl 0 rfl) ?_
                    refine lv_aload_n hx hb dX10_nextToken_334 rfl (lv_at hl 0 rfl) ?_
                    refine va_get (D := (dC, dI)) (ci := 10) (v := .int mdig_241) (C := RX10) (T := TX10) (N := 39) hx hb hts inX10 hown hK hP 0 rfl rfl 24 (by decide) lf152 (fun _ h9 => h9) rfl dX10_nextToken_335 ?_
                    refine lv_iconst (v := 2) hx hb dX10_nextToken_338 (by decide) ?_
                    refine lv_icmp_le (tgt := 348) hx hb dX10_nextToken_339 (by decide) (fun c27 => ?_) (fun c27 => ?_)
                    · have dc27 : mdig_241.toInt ≤ 2 := leC rfl (show (2 : Int32).toInt = 2 from rfl) c27
                      refine lv_ldc2 (v := (-1)) hx hb hown (hts (.constantLong RX10 170 (-1)) (List.mem_cons_of_mem _ (List.mem_append_left _ (List.mem_of_getElem? (i := 11) rfl)))) dX10_nextToken_348 ?_
                      refine va_put (D := (dC, dI)) (ci := 10) (v := .long (-1)) (ty := .long) (C := RX10) (T := TX10) (N := 39) hx hb hts inX10 tyX10 tyX10_ok nmX10 hown hK hP hD hS 0 rfl rfl 23 (by decide) lf160 (fun _ h9 => h9) rfl (by decide +kernel) rfl rfl (Nat.le_of_ble_eq_true rfl) dX10_nextToken_351 (fun H locs hP hD hS => ?_)
                      have hP : va_P (dC, dI) vwCl (wMdT cI cZ cQ b mday mdoo mtel mgai mbyt mtxt mpos_241 mpos_0 (-1) mdig_241 mnum_241 mfau mrdm mlin mbsm) H := hP
                      have hD : va_D A (wMdT cI cZ cQ b mday mdoo mtel mgai mbyt mtxt mpos_241 mpos_0 (-1) mdig_241 mnum_241 mfau mrdm mlin mbsm) := hD
                      refine lv_goto (tgt := 394) hx hb dX10_nextToken_354 (by decide) ?_
                      exact W.vret hx hb hr (fun tq ht hW => ⟨⟨(uS [(fun _ => mpos_241), (fun _ => mpos_0), (fun _ => 0), (fun _ => mdig_241), (fun _ => mnum_241)] (-1) (fun _ => 0)), rfl, ⟨(show mpos_241.toInt ≤ mbyt.toInt from by omega), (show 0 ≤ mpos_0.toInt from by omega), (show mpos_0.toInt ≤ mpos_241.toInt from by omega), (show mpos_0.toInt = tS mtxt mbyt.toInt mpos.toInt from by exact sk_out i0_1 (by omega)), (show mpos_241.toInt = tE mtxt mbyt.toInt mpos_0.toInt from by (first | exact tE_end (by omega) rfl | exact tE_runA (by omega) (knd_1 (by omega)) (by decide) i101_2 (by first | exact Or.inl (by omega) | exact Or.inr (knd_n1 (by omega))) | exact tE_runA (by omega) (knd_2 (by omega)) (by decide) i241_2 (by first | exact Or.inl (by omega) | exact Or.inr (knd_n2 (by omega))) | exact tE_oneC (by omega) (knd_3 (by omega) (by omega)).symm rfl (by omega))), (show (-1) = tkV mtxt mbyt.toInt mpos_0.toInt mpos_241.toInt from by (first | exact tv_end (by omega) | exact tv_let (by omega) (knd_1 (by omega)) i101_3 (by omega) | exact tv_let4 (by omega) (knd_1 (by omega)) (by omega) | exact tv_dig (by omega) (knd_2 (by omega)) (by omega) | exact tv_dig4 (by omega) (knd_2 (by omega)) (by omega) | exact tv_semi (by omega) (by omega) | exact tv_oth (by omega) (knd_3 (by omega) (by omega)) (by omega))), (show nmP mtxt mbyt.toInt mpos_0.toInt mpos_241.toInt mnum_241 from by (first | exact nm_v (by omega) | exact nm_k (knd_1 (by omega)) (by decide) | exact nm_d i241_6 | exact nm_k (knd_3 (by omega) (by omega)) (by decide))), r_mpos_241⟩, by rw [ht]; exact hP, hD⟩, hS.F ht⟩) hS.2.2 dX10_nextToken_394
                    · have dc27 : 2 < mdig_241.toInt := nleC rfl (show (2 : Int32).toInt = 2 from rfl) c27
                      refine lv_ldc2 (v := (-4)) hx hb hown (hts (.constantLong RX10 168 (-4)) (List.mem_cons_of_mem _ (List.mem_append_left _ (List.mem_of_getElem? (i := 10) rfl)))) dX10_nextToken_342 ?_
                      refine lv_goto (tgt := 351) hx hb dX10_nextToken_345 (by decide) ?_
                      refine va_put (D := (dC, dI)) (ci := 10) (v := .long (-4)) (ty := .long) (C := RX10) (T := TX10) (N := 39) hx hb hts inX10 tyX10 tyX10_ok nmX10 hown hK hP hD hS 0 rfl rfl 23 (by decide) lf160 (fun _ h9 => h9) rfl (by decide +kernel) rfl rfl (Nat.le_of_ble_eq_true rfl) dX10_nextToken_351 (fun H locs hP hD hS => ?_)
                      have hP : va_P (dC, dI) vwCl (wMdT cI cZ cQ b mday mdoo mtel mgai mbyt mtxt mpos_241 mpos_0 (-4) mdig_241 mnum_241 mfau mrdm mlin mbsm) H := hP
                      have hD : va_D A (wMdT cI cZ cQ b mday mdoo mtel mgai mbyt mtxt mpos_241 mpos_0 (-4) mdig_241 mnum_241 mfau mrdm mlin mbsm) := hD
                      refine lv_goto (tgt := 394) hx hb dX10_nextToken_354 (by decide) ?_
                      exact W.vret hx hb hr (fun tq ht hW => ⟨⟨(uS [(fun _ => mpos_241), (fun _ => mpos_0), (fun _ => 0), (fun _ => mdig_241), (fun _ => mnum_241)] (-4) (fun _ => 0)), rfl, ⟨(show mpos_241.toInt ≤ mbyt.toInt from by omega), (show 0 ≤ mpos_0.toInt from by omega), (show mpos_0.toInt ≤ mpos_241.toInt from by omega), (show mpos_0.toInt = tS mtxt mbyt.toInt mpos.toInt from by exact sk_out i0_1 (by omega)), (show mpos_241.toInt = tE mtxt mbyt.toInt mpos_0.toInt from by (first | exact tE_end (by omega) rfl | exact tE_runA (by omega) (knd_1 (by omega)) (by decide) i101_2 (by first | exact Or.inl (by omega) | exact Or.inr (knd_n1 (by omega))) | exact tE_runA (by omega) (knd_2 (by omega)) (by decide) i241_2 (by first | exact Or.inl (by omega) | exact Or.inr (knd_n2 (by omega))) | exact tE_oneC (by omega) (knd_3 (by omega) (by omega)).symm rfl (by omega))), (show (-4) = tkV mtxt mbyt.toInt mpos_0.toInt mpos_241.toInt from by (first | exact tv_end (by omega) | exact tv_let (by omega) (knd_1 (by omega)) i101_3 (by omega) | exact tv_let4 (by omega) (knd_1 (by omega)) (by omega) | exact tv_dig (by omega) (knd_2 (by omega)) (by omega) | exact tv_dig4 (by omega) (knd_2 (by omega)) (by omega) | exact tv_semi (by omega) (by omega) | exact tv_oth (by omega) (knd_3 (by omega) (by omega)) (by omega))), (show nmP mtxt mbyt.toInt mpos_0.toInt mpos_241.toInt mnum_241 from by (first | exact nm_v (by omega) | exact nm_k (knd_1 (by omega)) (by decide) | exact nm_d i241_6 | exact nm_k (knd_3 (by omega) (by omega)) (by decide))), r_mpos_241⟩, by rw [ht]; exact hP, hD⟩, hS.F ht⟩) hS.2.2 dX10_nextToken_394
                  · have dc26 : mpos_241.toInt < mbyt.toInt := nleC rfl rfl c26
                    refine lv_aload_n hx hb dX10_nextToken_252 rfl (lv_at hl 0 rfl) ?_
                    refine va_get (D := (dC, dI)) (ci := 10) (v := .ref (b 20)) (C := RX10) (T := TX10) (N := 39) hx hb hts inX10 hown hK hP 0 rfl rfl 20 (by decide) lf62 (fun _ h9 => h9) rfl dX10_nextToken_253 ?_
                    refine lv_aload_n hx hb dX10_nextToken_256 rfl (lv_at hl 0 rfl) ?_
                    refine va_get (D := (dC, dI)) (ci := 10) (v := .int mpos_241) (C := RX10) (T := TX10) (N := 39) hx hb hts inX10 hown hK hP 0 rfl rfl 21 (by decide) lf146 (fun _ h9 => h9) rfl dX10_nextToken_257 ?_
                    have b28 : vp_in mpos_241 160 := inC rfl (by omega) (by omega)
                    refine va_iald hx hb hK hP 1 0 rfl rfl b28 dX10_nextToken_260 ?_
                    refine lv_bipush (v := 48) hx hb dX10_nextToken_261 (by decide) ?_
                    refine lv_bipush (v := 57) hx hb dX10_nextToken_263 (by decide) ?_
                    refine rdS (As := [.int (mtxt mpos_241.toNatClampNeg), .int 48, .int 57]) (rest := []) ⟨hx, hb, hml, hown, hts⟩ (k_X10_in l dC dI cI cZ cQ (mtxt mpos_241.toNatClampNeg) (48 : Int32) (57 : Int32)) (va_cwS 3 hts gX10_nextToken_X10_in rfl rfl rfl (by decide +kernel) ⟨Nat.le_of_ble_eq_true rfl, Nat.le_of_ble_eq_true rfl⟩) hP hK hN [] rfl rfl hl.1 rfl (Nat.le_of_ble_eq_true rfl) dX10_nextToken_265 ⟨Nat.le_of_ble_eq_true rfl, Nat.le_of_ble_eq_true rfl⟩ (fun r29 h30 => ?_)
                    have h30 : ((((r29 = 1) ∧ ((48) ≤ (mtxt mpos_241.toNatClampNeg).toInt) ∧ ((mtxt mpos_241.toNatClampNeg).toInt ≤ (57))) ∨ ((r29 = 0) ∧ ((mtxt mpos_241.toNatClampNeg).toInt < (48) ∨ (57) < (mtxt mpos_241.toNatClampNeg).toInt)))) := h30
                    rcases h30 with (⟨rfl, h30_a0, h30_a1⟩ | ⟨rfl, h30_a0⟩)
                    · refine lv_if_eq (tgt := 333) hx hb dX10_nextToken_268 (by decide) (fun c9 => absurd c9 (by decide)) (fun _ => ?_)
                      refine lv_aload_n hx hb dX10_nextToken_271 rfl (lv_at hl 0 rfl) ?_
                      refine lv_aload_n hx hb dX10_nextToken_272 rfl (lv_at hl 0 rfl) ?_
                      refine va_get (D := (dC, dI)) (ci := 10) (v := .int mdig_241) (C := RX10) (T := TX10) (N := 39) hx hb hts inX10 hown hK hP 0 rfl rfl 24 (by decide) lf152 (fun _ h9 => h9) rfl dX10_nextToken_273 ?_
                      refine lv_iconst (v := 2) hx hb dX10_nextToken_276 (by decide) ?_
                      refine lv_icmp_ge (tgt := 303) hx hb dX10_nextToken_277 (by decide) (fun c31 => ?_) (fun c31 => ?_)
                      · have dc31 : 2 ≤ mdig_241.toInt := leC (show (2 : Int32).toInt = 2 from rfl) rfl c31
                        refine lv_aload_n hx hb dX10_nextToken_303 rfl (lv_at hl 0 rfl) ?_
                        refine va_get (D := (dC, dI)) (ci := 10) (v := .int mnum_241) (C := RX10) (T := TX10) (N := 39) hx hb hts inX10 hown hK hP 0 rfl rfl 25 (by decide) lf155 (fun _ h9 => h9) rfl dX10_nextToken_304 ?_
                        refine va_put (D := (dC, dI)) (ci := 10) (v := .int mnum_241) (ty := .int) (C := RX10) (T := TX10) (N := 39) hx hb hts inX10 tyX10 tyX10_ok nmX10 hown hK hP hD hS 0 rfl rfl 25 (by decide) lf155 (fun _ h9 => h9) rfl (by decide +kernel) rfl rfl (Nat.le_of_ble_eq_true rfl) dX10_nextToken_307 (fun H locs hP hD hS => ?_)
                        have hP : va_P (dC, dI) vwCl (wMdT cI cZ cQ b mday mdoo mtel mgai mbyt mtxt mpos_241 mpos_0 mtok mdig_241 mnum_241 mfau mrdm mlin mbsm) H := hP
                        have hD : va_D A (wMdT cI cZ cQ b mday mdoo mtel mgai mbyt mtxt mpos_241 mpos_0 mtok mdig_241 mnum_241 mfau mrdm mlin mbsm) := hD
                        refine lv_aload_n hx hb dX10_nextToken_310 rfl (lv_at hl 0 rfl) ?_
                        refine lv_dup hx hb dX10_nextToken_311 rfl ?_
                        refine va_get (D := (dC, dI)) (ci := 10) (v := .int mdig_241) (C := RX10) (T := TX10) (N := 39) hx hb hts inX10 hown hK hP 0 rfl rfl 24 (by decide) lf152 (fun _ h9 => h9) rfl dX10_nextToken_312 ?_
                        refine lv_iconst (v := 1) hx hb dX10_nextToken_315 (by decide) ?_
                        refine lv_iadd hx hb dX10_nextToken_316 ?_
                        have f32 : (mdig_241 + 1).toInt = (mdig_241.toInt) + (1) := addC rfl (show (1 : Int32).toInt = 1 from rfl) (by omega) (by omega)
                        refine lv_topi (fun x33 ex33 => ?_)
                        have ix33 : x33.toInt = (mdig_241.toInt) + (1) := by rw [ex33]; exact f32
                        refine va_put (D := (dC, dI)) (ci := 10) (v := .int x33) (ty := .int) (C := RX10) (T := TX10) (N := 39) hx hb hts inX10 tyX10 tyX10_ok nmX10 hown hK hP hD hS 0 rfl rfl 24 (by decide) lf152 (fun _ h9 => h9) rfl (by decide +kernel) rfl rfl (Nat.le_of_ble_eq_true rfl) dX10_nextToken_317 (fun H locs hP hD hS => ?_)
                        have hP : va_P (dC, dI) vwCl (wMdT cI cZ cQ b mday mdoo mtel mgai mbyt mtxt mpos_241 mpos_0 mtok x33 mnum_241 mfau mrdm mlin mbsm) H := hP
                        have hD : va_D A (wMdT cI cZ cQ b mday mdoo mtel mgai mbyt mtxt mpos_241 mpos_0 mtok x33 mnum_241 mfau mrdm mlin mbsm) := hD
                        refine lv_aload_n hx hb dX10_nextToken_320 rfl (lv_at hl 0 rfl) ?_
                        refine lv_dup hx hb dX10_nextToken_321 rfl ?_
                        refine va_get (D := (dC, dI)) (ci := 10) (v := .int mpos_241) (C := RX10) (T := TX10) (N := 39) hx hb hts inX10 hown hK hP 0 rfl rfl 21 (by decide) lf146 (fun _ h9 => h9) rfl dX10_nextToken_322 ?_
                        refine lv_iconst (v := 1) hx hb dX10_nextToken_325 (by decide) ?_
                        refine lv_iadd hx hb dX10_nextToken_326 ?_
                        have f34 : (mpos_241 + 1).toInt = (mpos_241.toInt) + (1) := addC rfl (show (1 : Int32).toInt = 1 from rfl) (by omega) (by omega)
                        refine lv_topi (fun x35 ex35 => ?_)
                        have ix35 : x35.toInt = (mpos_241.toInt) + (1) := by rw [ex35]; exact f34
                        refine va_put (D := (dC, dI)) (ci := 10) (v := .int x35) (ty := .int) (C := RX10) (T := TX10) (N := 39) hx hb hts inX10 tyX10 tyX10_ok nmX10 hown hK hP hD hS 0 rfl rfl 21 (by decide) lf146 (fun _ h9 => h9) rfl (by decide +kernel) rfl rfl (Nat.le_of_ble_eq_true rfl) dX10_nextToken_327 (fun H locs hP hD hS => ?_)
                        have g36 : 0 ≤ x35.toInt ∧ x35.toInt ≤ 160 := by rw [show x35.toInt = x35.toInt from rfl]; exact ⟨by omega, by omega⟩
                        have hP : va_P (dC, dI) vwCl (wMdT cI cZ cQ b mday mdoo mtel mgai mbyt mtxt x35 mpos_0 mtok x33 mnum_241 mfau mrdm mlin mbsm) H := hP
                        have hD : va_D A (wMdT cI cZ cQ b mday mdoo mtel mgai mbyt mtxt x35 mpos_0 mtok x33 mnum_241 mfau mrdm mlin mbsm) := hD
                        refine lv_goto (tgt := 241) hx hb dX10_nextToken_330 (by decide) ?_
                        exact ih241 x35 x33 mnum_241 _ _ _ g36 (by omega) (by omega) (by (first | exact rn_in i241_2 (by omega) (knd_2 (by omega)) (by omega) | rfl)) (by omega) (by omega) (by omega) (by (first | exact nv_s i241_6 (by omega) (by omega) (by omega) (by assumption) | exact Or.inl (by omega) | exact nv_0 rfl rfl)) (by omega) hP hD hS (lv_sub hl [0] rfl)
                      · have dc31 : mdig_241.toInt < 2 := nleC (show (2 : Int32).toInt = 2 from rfl) rfl c31
                        refine lv_bipush (v := 10) hx hb dX10_nextToken_280 (by decide) ?_
                        refine lv_aload_n hx hb dX10_nextToken_282 rfl (lv_at hl 0 rfl) ?_
                        refine va_get (D := (dC, dI)) (ci := 10) (v := .int mnum_241) (C := RX10) (T := TX10) (N := 39) hx hb hts inX10 hown hK hP 0 rfl rfl 25 (by decide) lf155 (fun _ h9 => h9) rfl dX10_nextToken_283 ?_
                        refine lv_imul hx hb dX10_nextToken_286 ?_
                        refine lv_aload_n hx hb dX10_nextToken_287 rfl (lv_at hl 0 rfl) ?_
                        refine va_get (D := (dC, dI)) (ci := 10) (v := .ref (b 20)) (C := RX10) (T := TX10) (N := 39) hx hb hts inX10 hown hK hP 0 rfl rfl 20 (by decide) lf62 (fun _ h9 => h9) rfl dX10_nextToken_288 ?_
                        refine lv_aload_n hx hb dX10_nextToken_291 rfl (lv_at hl 0 rfl) ?_
                        refine va_get (D := (dC, dI)) (ci := 10) (v := .int mpos_241) (C := RX10) (T := TX10) (N := 39) hx hb hts inX10 hown hK hP 0 rfl rfl 21 (by decide) lf146 (fun _ h9 => h9) rfl dX10_nextToken_292 ?_
                        have b37 : vp_in mpos_241 160 := inC rfl (by omega) (by omega)
                        refine va_iald hx hb hK hP 1 0 rfl rfl b37 dX10_nextToken_295 ?_
                        refine lv_iadd hx hb dX10_nextToken_296 ?_
                        refine lv_bipush (v := 48) hx hb dX10_nextToken_297 (by decide) ?_
                        refine lv_isub hx hb dX10_nextToken_299 ?_
                        refine lv_goto (tgt := 307) hx hb dX10_nextToken_300 (by decide) ?_
                        refine lv_topi (fun x38 ex38 => ?_)
                        have ix38 : x38.toInt = (((10 * mnum_241) + (mtxt mpos_241.toNatClampNeg)) - 48).toInt := by rw [ex38]
                        refine va_put (D := (dC, dI)) (ci := 10) (v := .int x38) (ty := .int) (C := RX10) (T := TX10) (N := 39) hx hb hts inX10 tyX10 tyX10_ok nmX10 hown hK hP hD hS 0 rfl rfl 25 (by decide) lf155 (fun _ h9 => h9) rfl (by decide +kernel) rfl rfl (Nat.le_of_ble_eq_true rfl) dX10_nextToken_307 (fun H locs hP hD hS => ?_)
                        have hP : va_P (dC, dI) vwCl (wMdT cI cZ cQ b mday mdoo mtel mgai mbyt mtxt mpos_241 mpos_0 mtok mdig_241 x38 mfau mrdm mlin mbsm) H := hP
                        have hD : va_D A (wMdT cI cZ cQ b mday mdoo mtel mgai mbyt mtxt mpos_241 mpos_0 mtok mdig_241 x38 mfau mrdm mlin mbsm) := hD
                        refine lv_aload_n hx hb dX10_nextToken_310 rfl (lv_at hl 0 rfl) ?_
                        refine lv_dup hx hb dX10_nextToken_311 rfl ?_
                        refine va_get (D := (dC, dI)) (ci := 10) (v := .int mdig_241) (C := RX10) (T := TX10) (N := 39) hx hb hts inX10 hown hK hP 0 rfl rfl 24 (by decide) lf152 (fun _ h9 => h9) rfl dX10_nextToken_312 ?_
                        refine lv_iconst (v := 1) hx hb dX10_nextToken_315 (by decide) ?_
                        refine lv_iadd hx hb dX10_nextToken_316 ?_
                        have f39 : (mdig_241 + 1).toInt = (mdig_241.toInt) + (1) := addC rfl (show (1 : Int32).toInt = 1 from rfl) (by omega) (by omega)
                        refine lv_topi (fun x40 ex40 => ?_)
                        have ix40 : x40.toInt = (mdig_241.toInt) + (1) := by rw [ex40]; exact f39
                        refine va_put (D := (dC, dI)) (ci := 10) (v := .int x40) (ty := .int) (C := RX10) (T := TX10) (N := 39) hx hb hts inX10 tyX10 tyX10_ok nmX10 hown hK hP hD hS 0 rfl rfl 24 (by decide) lf152 (fun _ h9 => h9) rfl (by decide +kernel) rfl rfl (Nat.le_of_ble_eq_true rfl) dX10_nextToken_317 (fun H locs hP hD hS => ?_)
                        have hP : va_P (dC, dI) vwCl (wMdT cI cZ cQ b mday mdoo mtel mgai mbyt mtxt mpos_241 mpos_0 mtok x40 x38 mfau mrdm mlin mbsm) H := hP
                        have hD : va_D A (wMdT cI cZ cQ b mday mdoo mtel mgai mbyt mtxt mpos_241 mpos_0 mtok x40 x38 mfau mrdm mlin mbsm) := hD
                        refine lv_aload_n hx hb dX10_nextToken_320 rfl (lv_at hl 0 rfl) ?_
                        refine lv_dup hx hb dX10_nextToken_321 rfl ?_
                        refine va_get (D := (dC, dI)) (ci := 10) (v := .int mpos_241) (C := RX10) (T := TX10) (N := 39) hx hb hts inX10 hown hK hP 0 rfl rfl 21 (by decide) lf146 (fun _ h9 => h9) rfl dX10_nextToken_322 ?_
                        refine lv_iconst (v := 1) hx hb dX10_nextToken_325 (by decide) ?_
                        refine lv_iadd hx hb dX10_nextToken_326 ?_
                        have f41 : (mpos_241 + 1).toInt = (mpos_241.toInt) + (1) := addC rfl (show (1 : Int32).toInt = 1 from rfl) (by omega) (by omega)
                        refine lv_topi (fun x42 ex42 => ?_)
                        have ix42 : x42.toInt = (mpos_241.toInt) + (1) := by rw [ex42]; exact f41
                        refine va_put (D := (dC, dI)) (ci := 10) (v := .int x42) (ty := .int) (C := RX10) (T := TX10) (N := 39) hx hb hts inX10 tyX10 tyX10_ok nmX10 hown hK hP hD hS 0 rfl rfl 21 (by decide) lf146 (fun _ h9 => h9) rfl (by decide +kernel) rfl rfl (Nat.le_of_ble_eq_true rfl) dX10_nextToken_327 (fun H locs hP hD hS => ?_)
                        have g43 : 0 ≤ x42.toInt ∧ x42.toInt ≤ 160 := by rw [show x42.toInt = x42.toInt from rfl]; exact ⟨by omega, by omega⟩
                        have hP : va_P (dC, dI) vwCl (wMdT cI cZ cQ b mday mdoo mtel mgai mbyt mtxt x42 mpos_0 mtok x40 x38 mfau mrdm mlin mbsm) H := hP
                        have hD : va_D A (wMdT cI cZ cQ b mday mdoo mtel mgai mbyt mtxt x42 mpos_0 mtok x40 x38 mfau mrdm mlin mbsm) := hD
                        refine lv_goto (tgt := 241) hx hb dX10_nextToken_330 (by decide) ?_
                        exact ih241 x42 x40 x38 _ _ _ g43 (by omega) (by omega) (by (first | exact rn_in i241_2 (by omega) (knd_2 (by omega)) (by omega) | rfl)) (by omega) (by omega) (by omega) (by (first | exact nv_s i241_6 (by omega) (by omega) (by omega) (by assumption) | exact Or.inl (by omega) | exact nv_0 rfl rfl)) (by omega) hP hD hS (lv_sub hl [0] rfl)
                    · refine lv_if_eq (tgt := 333) hx hb dX10_nextToken_268 (by decide) (fun _ => ?_) (fun c9 => absurd (by decide) c9)
                      refine lv_aload_n hx hb dX10_nextToken_333 rfl (lv_at hl 0 rfl) ?_
                      refine lv_aload_n hx hb dX10_nextToken_334 rfl (lv_at hl 0 rfl) ?_
                      refine va_get (D := (dC, dI)) (ci := 10) (v := .int mdig_241) (C := RX10) (T := TX10) (N := 39) hx hb hts inX10 hown hK hP 0 rfl rfl 24 (by decide) lf152 (fun _ h9 => h9) rfl dX10_nextToken_335 ?_
                      refine lv_iconst (v := 2) hx hb dX10_nextToken_338 (by decide) ?_
                      refine lv_icmp_le (tgt := 348) hx hb dX10_nextToken_339 (by decide) (fun c44 => ?_) (fun c44 => ?_)
                      · have dc44 : mdig_241.toInt ≤ 2 := leC rfl (show (2 : Int32).toInt = 2 from rfl) c44
                        refine lv_ldc2 (v := (-1)) hx hb hown (hts (.constantLong RX10 170 (-1)) (List.mem_cons_of_mem _ (List.mem_append_left _ (List.mem_of_getElem? (i := 11) rfl)))) dX10_nextToken_348 ?_
                        refine va_put (D := (dC, dI)) (ci := 10) (v := .long (-1)) (ty := .long) (C := RX10) (T := TX10) (N := 39) hx hb hts inX10 tyX10 tyX10_ok nmX10 hown hK hP hD hS 0 rfl rfl 23 (by decide) lf160 (fun _ h9 => h9) rfl (by decide +kernel) rfl rfl (Nat.le_of_ble_eq_true rfl) dX10_nextToken_351 (fun H locs hP hD hS => ?_)
                        have hP : va_P (dC, dI) vwCl (wMdT cI cZ cQ b mday mdoo mtel mgai mbyt mtxt mpos_241 mpos_0 (-1) mdig_241 mnum_241 mfau mrdm mlin mbsm) H := hP
                        have hD : va_D A (wMdT cI cZ cQ b mday mdoo mtel mgai mbyt mtxt mpos_241 mpos_0 (-1) mdig_241 mnum_241 mfau mrdm mlin mbsm) := hD
                        refine lv_goto (tgt := 394) hx hb dX10_nextToken_354 (by decide) ?_
                        exact W.vret hx hb hr (fun tq ht hW => ⟨⟨(uS [(fun _ => mpos_241), (fun _ => mpos_0), (fun _ => 0), (fun _ => mdig_241), (fun _ => mnum_241)] (-1) (fun _ => 0)), rfl, ⟨(show mpos_241.toInt ≤ mbyt.toInt from by omega), (show 0 ≤ mpos_0.toInt from by omega), (show mpos_0.toInt ≤ mpos_241.toInt from by omega), (show mpos_0.toInt = tS mtxt mbyt.toInt mpos.toInt from by exact sk_out i0_1 (by omega)), (show mpos_241.toInt = tE mtxt mbyt.toInt mpos_0.toInt from by (first | exact tE_end (by omega) rfl | exact tE_runA (by omega) (knd_1 (by omega)) (by decide) i101_2 (by first | exact Or.inl (by omega) | exact Or.inr (knd_n1 (by omega))) | exact tE_runA (by omega) (knd_2 (by omega)) (by decide) i241_2 (by first | exact Or.inl (by omega) | exact Or.inr (knd_n2 (by omega))) | exact tE_oneC (by omega) (knd_3 (by omega) (by omega)).symm rfl (by omega))), (show (-1) = tkV mtxt mbyt.toInt mpos_0.toInt mpos_241.toInt from by (first | exact tv_end (by omega) | exact tv_let (by omega) (knd_1 (by omega)) i101_3 (by omega) | exact tv_let4 (by omega) (knd_1 (by omega)) (by omega) | exact tv_dig (by omega) (knd_2 (by omega)) (by omega) | exact tv_dig4 (by omega) (knd_2 (by omega)) (by omega) | exact tv_semi (by omega) (by omega) | exact tv_oth (by omega) (knd_3 (by omega) (by omega)) (by omega))), (show nmP mtxt mbyt.toInt mpos_0.toInt mpos_241.toInt mnum_241 from by (first | exact nm_v (by omega) | exact nm_k (knd_1 (by omega)) (by decide) | exact nm_d i241_6 | exact nm_k (knd_3 (by omega) (by omega)) (by decide))), r_mpos_241⟩, by rw [ht]; exact hP, hD⟩, hS.F ht⟩) hS.2.2 dX10_nextToken_394
                      · have dc44 : 2 < mdig_241.toInt := nleC rfl (show (2 : Int32).toInt = 2 from rfl) c44
                        refine lv_ldc2 (v := (-4)) hx hb hown (hts (.constantLong RX10 168 (-4)) (List.mem_cons_of_mem _ (List.mem_append_left _ (List.mem_of_getElem? (i := 10) rfl)))) dX10_nextToken_342 ?_
                        refine lv_goto (tgt := 351) hx hb dX10_nextToken_345 (by decide) ?_
                        refine va_put (D := (dC, dI)) (ci := 10) (v := .long (-4)) (ty := .long) (C := RX10) (T := TX10) (N := 39) hx hb hts inX10 tyX10 tyX10_ok nmX10 hown hK hP hD hS 0 rfl rfl 23 (by decide) lf160 (fun _ h9 => h9) rfl (by decide +kernel) rfl rfl (Nat.le_of_ble_eq_true rfl) dX10_nextToken_351 (fun H locs hP hD hS => ?_)
                        have hP : va_P (dC, dI) vwCl (wMdT cI cZ cQ b mday mdoo mtel mgai mbyt mtxt mpos_241 mpos_0 (-4) mdig_241 mnum_241 mfau mrdm mlin mbsm) H := hP
                        have hD : va_D A (wMdT cI cZ cQ b mday mdoo mtel mgai mbyt mtxt mpos_241 mpos_0 (-4) mdig_241 mnum_241 mfau mrdm mlin mbsm) := hD
                        refine lv_goto (tgt := 394) hx hb dX10_nextToken_354 (by decide) ?_
                        exact W.vret hx hb hr (fun tq ht hW => ⟨⟨(uS [(fun _ => mpos_241), (fun _ => mpos_0), (fun _ => 0), (fun _ => mdig_241), (fun _ => mnum_241)] (-4) (fun _ => 0)), rfl, ⟨(show mpos_241.toInt ≤ mbyt.toInt from by omega), (show 0 ≤ mpos_0.toInt from by omega), (show mpos_0.toInt ≤ mpos_241.toInt from by omega), (show mpos_0.toInt = tS mtxt mbyt.toInt mpos.toInt from by exact sk_out i0_1 (by omega)), (show mpos_241.toInt = tE mtxt mbyt.toInt mpos_0.toInt from by (first | exact tE_end (by omega) rfl | exact tE_runA (by omega) (knd_1 (by omega)) (by decide) i101_2 (by first | exact Or.inl (by omega) | exact Or.inr (knd_n1 (by omega))) | exact tE_runA (by omega) (knd_2 (by omega)) (by decide) i241_2 (by first | exact Or.inl (by omega) | exact Or.inr (knd_n2 (by omega))) | exact tE_oneC (by omega) (knd_3 (by omega) (by omega)).symm rfl (by omega))), (show (-4) = tkV mtxt mbyt.toInt mpos_0.toInt mpos_241.toInt from by (first | exact tv_end (by omega) | exact tv_let (by omega) (knd_1 (by omega)) i101_3 (by omega) | exact tv_let4 (by omega) (knd_1 (by omega)) (by omega) | exact tv_dig (by omega) (knd_2 (by omega)) (by omega) | exact tv_dig4 (by omega) (knd_2 (by omega)) (by omega) | exact tv_semi (by omega) (by omega) | exact tv_oth (by omega) (knd_3 (by omega) (by omega)) (by omega))), (show nmP mtxt mbyt.toInt mpos_0.toInt mpos_241.toInt mnum_241 from by (first | exact nm_v (by omega) | exact nm_k (knd_1 (by omega)) (by decide) | exact nm_d i241_6 | exact nm_k (knd_3 (by omega) (by omega)) (by decide))), r_mpos_241⟩, by rw [ht]; exact hP, hD⟩, hS.F ht⟩) hS.2.2 dX10_nextToken_394
              have kc45 : (0 : Int32).toInt = 0 := rfl
              exact L241 _ mpos_0 0 0 _ _ _ r_mpos_0 (by omega) (by omega) (by (first | exact rn_in i241_2 (by omega) (knd_2 (by omega)) (by omega) | rfl)) (by omega) (by omega) (by omega) (by (first | exact nv_s i241_6 (by omega) (by omega) (by omega) (by assumption) | exact Or.inl (by omega) | exact nv_0 rfl rfl)) (Nat.lt_succ_self _) hP hD hS (lv_sub hl [0] rfl)
            · refine lv_if_eq (tgt := 357) hx hb dX10_nextToken_238 (by decide) (fun _ => ?_) (fun c9 => absurd (by decide) c9)
              refine lv_aload_n hx hb dX10_nextToken_357 rfl (lv_at hl 0 rfl) ?_
              refine lv_aload_n hx hb dX10_nextToken_358 rfl (lv_at hl 0 rfl) ?_
              refine va_get (D := (dC, dI)) (ci := 10) (v := .ref (b 20)) (C := RX10) (T := TX10) (N := 39) hx hb hts inX10 hown hK hP 0 rfl rfl 20 (by decide) lf62 (fun _ h9 => h9) rfl dX10_nextToken_359 ?_
              refine lv_aload_n hx hb dX10_nextToken_362 rfl (lv_at hl 0 rfl) ?_
              refine va_get (D := (dC, dI)) (ci := 10) (v := .int mpos_0) (C := RX10) (T := TX10) (N := 39) hx hb hts inX10 hown hK hP 0 rfl rfl 21 (by decide) lf146 (fun _ h9 => h9) rfl dX10_nextToken_363 ?_
              have b46 : vp_in mpos_0 160 := inC rfl (by omega) (by omega)
              refine va_iald hx hb hK hP 1 0 rfl rfl b46 dX10_nextToken_366 ?_
              refine lv_bipush (v := 59) hx hb dX10_nextToken_367 (by decide) ?_
              refine lv_icmp_ne (tgt := 378) hx hb dX10_nextToken_369 (by decide) (fun c47 => ?_) (fun c47 => ?_)
              · have dc47 : (mtxt mpos_0.toNatClampNeg).toInt ≠ 59 := neC rfl (show (59 : Int32).toInt = 59 from rfl) c47
                refine lv_ldc2 (v := (-4)) hx hb hown (hts (.constantLong RX10 168 (-4)) (List.mem_cons_of_mem _ (List.mem_append_left _ (List.mem_of_getElem? (i := 10) rfl)))) dX10_nextToken_378 ?_
                refine va_put (D := (dC, dI)) (ci := 10) (v := .long (-4)) (ty := .long) (C := RX10) (T := TX10) (N := 39) hx hb hts inX10 tyX10 tyX10_ok nmX10 hown hK hP hD hS 0 rfl rfl 23 (by decide) lf160 (fun _ h9 => h9) rfl (by decide +kernel) rfl rfl (Nat.le_of_ble_eq_true rfl) dX10_nextToken_381 (fun H locs hP hD hS => ?_)
                have hP : va_P (dC, dI) vwCl (wMdT cI cZ cQ b mday mdoo mtel mgai mbyt mtxt mpos_0 mpos_0 (-4) 0 0 mfau mrdm mlin mbsm) H := hP
                have hD : va_D A (wMdT cI cZ cQ b mday mdoo mtel mgai mbyt mtxt mpos_0 mpos_0 (-4) 0 0 mfau mrdm mlin mbsm) := hD
                refine lv_aload_n hx hb dX10_nextToken_384 rfl (lv_at hl 0 rfl) ?_
                refine lv_dup hx hb dX10_nextToken_385 rfl ?_
                refine va_get (D := (dC, dI)) (ci := 10) (v := .int mpos_0) (C := RX10) (T := TX10) (N := 39) hx hb hts inX10 hown hK hP 0 rfl rfl 21 (by decide) lf146 (fun _ h9 => h9) rfl dX10_nextToken_386 ?_
                refine lv_iconst (v := 1) hx hb dX10_nextToken_389 (by decide) ?_
                refine lv_iadd hx hb dX10_nextToken_390 ?_
                have f48 : (mpos_0 + 1).toInt = (mpos_0.toInt) + (1) := addC rfl (show (1 : Int32).toInt = 1 from rfl) (by omega) (by omega)
                refine lv_topi (fun x49 ex49 => ?_)
                have ix49 : x49.toInt = (mpos_0.toInt) + (1) := by rw [ex49]; exact f48
                refine va_put (D := (dC, dI)) (ci := 10) (v := .int x49) (ty := .int) (C := RX10) (T := TX10) (N := 39) hx hb hts inX10 tyX10 tyX10_ok nmX10 hown hK hP hD hS 0 rfl rfl 21 (by decide) lf146 (fun _ h9 => h9) rfl (by decide +kernel) rfl rfl (Nat.le_of_ble_eq_true rfl) dX10_nextToken_391 (fun H locs hP hD hS => ?_)
                have g50 : 0 ≤ x49.toInt ∧ x49.toInt ≤ 160 := by rw [show x49.toInt = x49.toInt from rfl]; exact ⟨by omega, by omega⟩
                have hP : va_P (dC, dI) vwCl (wMdT cI cZ cQ b mday mdoo mtel mgai mbyt mtxt x49 mpos_0 (-4) 0 0 mfau mrdm mlin mbsm) H := hP
                have hD : va_D A (wMdT cI cZ cQ b mday mdoo mtel mgai mbyt mtxt x49 mpos_0 (-4) 0 0 mfau mrdm mlin mbsm) := hD
                exact W.vret hx hb hr (fun tq ht hW => ⟨⟨(uS [(fun _ => x49), (fun _ => mpos_0), (fun _ => 0), (fun _ => 0), (fun _ => 0)] (-4) (fun _ => 0)), rfl, ⟨(show x49.toInt ≤ mbyt.toInt from by omega), (show 0 ≤ mpos_0.toInt from by omega), (show mpos_0.toInt ≤ x49.toInt from by omega), (show mpos_0.toInt = tS mtxt mbyt.toInt mpos.toInt from by exact sk_out i0_1 (by omega)), (show x49.toInt = tE mtxt mbyt.toInt mpos_0.toInt from by (first | exact tE_end (by omega) rfl | exact tE_runA (by omega) (knd_1 (by omega)) (by decide) i101_2 (by first | exact Or.inl (by omega) | exact Or.inr (knd_n1 (by omega))) | exact tE_runA (by omega) (knd_2 (by omega)) (by decide) i241_2 (by first | exact Or.inl (by omega) | exact Or.inr (knd_n2 (by omega))) | exact tE_oneC (by omega) (knd_3 (by omega) (by omega)).symm rfl (by omega))), (show (-4) = tkV mtxt mbyt.toInt mpos_0.toInt x49.toInt from by (first | exact tv_end (by omega) | exact tv_let (by omega) (knd_1 (by omega)) i101_3 (by omega) | exact tv_let4 (by omega) (knd_1 (by omega)) (by omega) | exact tv_dig (by omega) (knd_2 (by omega)) (by omega) | exact tv_dig4 (by omega) (knd_2 (by omega)) (by omega) | exact tv_semi (by omega) (by omega) | exact tv_oth (by omega) (knd_3 (by omega) (by omega)) (by omega))), (show nmP mtxt mbyt.toInt mpos_0.toInt x49.toInt 0 from by (first | exact nm_v (by omega) | exact nm_k (knd_1 (by omega)) (by decide) | exact nm_d i241_6 | exact nm_k (knd_3 (by omega) (by omega)) (by decide))), g50⟩, by rw [ht]; exact hP, hD⟩, hS.F ht⟩) hS.2.2 dX10_nextToken_394
              · have dc47 : (mtxt mpos_0.toNatClampNeg).toInt = 59 := eqC rfl (show (59 : Int32).toInt = 59 from rfl) c47
                refine lv_ldc2 (v := (-3)) hx hb hown (hts (.constantLong RX10 172 (-3)) (List.mem_cons_of_mem _ (List.mem_append_left _ (List.mem_of_getElem? (i := 12) rfl)))) dX10_nextToken_372 ?_
                refine lv_goto (tgt := 381) hx hb dX10_nextToken_375 (by decide) ?_
                refine va_put (D := (dC, dI)) (ci := 10) (v := .long (-3)) (ty := .long) (C := RX10) (T := TX10) (N := 39) hx hb hts inX10 tyX10 tyX10_ok nmX10 hown hK hP hD hS 0 rfl rfl 23 (by decide) lf160 (fun _ h9 => h9) rfl (by decide +kernel) rfl rfl (Nat.le_of_ble_eq_true rfl) dX10_nextToken_381 (fun H locs hP hD hS => ?_)
                have hP : va_P (dC, dI) vwCl (wMdT cI cZ cQ b mday mdoo mtel mgai mbyt mtxt mpos_0 mpos_0 (-3) 0 0 mfau mrdm mlin mbsm) H := hP
                have hD : va_D A (wMdT cI cZ cQ b mday mdoo mtel mgai mbyt mtxt mpos_0 mpos_0 (-3) 0 0 mfau mrdm mlin mbsm) := hD
                refine lv_aload_n hx hb dX10_nextToken_384 rfl (lv_at hl 0 rfl) ?_
                refine lv_dup hx hb dX10_nextToken_385 rfl ?_
                refine va_get (D := (dC, dI)) (ci := 10) (v := .int mpos_0) (C := RX10) (T := TX10) (N := 39) hx hb hts inX10 hown hK hP 0 rfl rfl 21 (by decide) lf146 (fun _ h9 => h9) rfl dX10_nextToken_386 ?_
                refine lv_iconst (v := 1) hx hb dX10_nextToken_389 (by decide) ?_
                refine lv_iadd hx hb dX10_nextToken_390 ?_
                have f51 : (mpos_0 + 1).toInt = (mpos_0.toInt) + (1) := addC rfl (show (1 : Int32).toInt = 1 from rfl) (by omega) (by omega)
                refine lv_topi (fun x52 ex52 => ?_)
                have ix52 : x52.toInt = (mpos_0.toInt) + (1) := by rw [ex52]; exact f51
                refine va_put (D := (dC, dI)) (ci := 10) (v := .int x52) (ty := .int) (C := RX10) (T := TX10) (N := 39) hx hb hts inX10 tyX10 tyX10_ok nmX10 hown hK hP hD hS 0 rfl rfl 21 (by decide) lf146 (fun _ h9 => h9) rfl (by decide +kernel) rfl rfl (Nat.le_of_ble_eq_true rfl) dX10_nextToken_391 (fun H locs hP hD hS => ?_)
                have g53 : 0 ≤ x52.toInt ∧ x52.toInt ≤ 160 := by rw [show x52.toInt = x52.toInt from rfl]; exact ⟨by omega, by omega⟩
                have hP : va_P (dC, dI) vwCl (wMdT cI cZ cQ b mday mdoo mtel mgai mbyt mtxt x52 mpos_0 (-3) 0 0 mfau mrdm mlin mbsm) H := hP
                have hD : va_D A (wMdT cI cZ cQ b mday mdoo mtel mgai mbyt mtxt x52 mpos_0 (-3) 0 0 mfau mrdm mlin mbsm) := hD
                exact W.vret hx hb hr (fun tq ht hW => ⟨⟨(uS [(fun _ => x52), (fun _ => mpos_0), (fun _ => 0), (fun _ => 0), (fun _ => 0)] (-3) (fun _ => 0)), rfl, ⟨(show x52.toInt ≤ mbyt.toInt from by omega), (show 0 ≤ mpos_0.toInt from by omega), (show mpos_0.toInt ≤ x52.toInt from by omega), (show mpos_0.toInt = tS mtxt mbyt.toInt mpos.toInt from by exact sk_out i0_1 (by omega)), (show x52.toInt = tE mtxt mbyt.toInt mpos_0.toInt from by (first | exact tE_end (by omega) rfl | exact tE_runA (by omega) (knd_1 (by omega)) (by decide) i101_2 (by first | exact Or.inl (by omega) | exact Or.inr (knd_n1 (by omega))) | exact tE_runA (by omega) (knd_2 (by omega)) (by decide) i241_2 (by first | exact Or.inl (by omega) | exact Or.inr (knd_n2 (by omega))) | exact tE_oneC (by omega) (knd_3 (by omega) (by omega)).symm rfl (by omega))), (show (-3) = tkV mtxt mbyt.toInt mpos_0.toInt x52.toInt from by (first | exact tv_end (by omega) | exact tv_let (by omega) (knd_1 (by omega)) i101_3 (by omega) | exact tv_let4 (by omega) (knd_1 (by omega)) (by omega) | exact tv_dig (by omega) (knd_2 (by omega)) (by omega) | exact tv_dig4 (by omega) (knd_2 (by omega)) (by omega) | exact tv_semi (by omega) (by omega) | exact tv_oth (by omega) (knd_3 (by omega) (by omega)) (by omega))), (show nmP mtxt mbyt.toInt mpos_0.toInt x52.toInt 0 from by (first | exact nm_v (by omega) | exact nm_k (knd_1 (by omega)) (by decide) | exact nm_d i241_6 | exact nm_k (knd_3 (by omega) (by omega)) (by decide))), g53⟩, by rw [ht]; exact hP, hD⟩, hS.F ht⟩) hS.2.2 dX10_nextToken_394
        · have dc2 : mpos_0.toInt = mbyt.toInt := eqC rfl rfl c2
          refine lv_aload_n hx hb dX10_nextToken_67 rfl (lv_at hl 0 rfl) ?_
          refine lv_ldc2 (v := (-2)) hx hb hown (hts (.constantLong RX10 158 (-2)) (List.mem_cons_of_mem _ (List.mem_append_left _ (List.mem_of_getElem? (i := 6) rfl)))) dX10_nextToken_68 ?_
          refine va_put (D := (dC, dI)) (ci := 10) (v := .long (-2)) (ty := .long) (C := RX10) (T := TX10) (N := 39) hx hb hts inX10 tyX10 tyX10_ok nmX10 hown hK hP hD hS 0 rfl rfl 23 (by decide) lf160 (fun _ h9 => h9) rfl (by decide +kernel) rfl rfl (Nat.le_of_ble_eq_true rfl) dX10_nextToken_71 (fun H locs hP hD hS => ?_)
          have hP : va_P (dC, dI) vwCl (wMdT cI cZ cQ b mday mdoo mtel mgai mbyt mtxt mpos_0 mpos_0 (-2) 0 0 mfau mrdm mlin mbsm) H := hP
          have hD : va_D A (wMdT cI cZ cQ b mday mdoo mtel mgai mbyt mtxt mpos_0 mpos_0 (-2) 0 0 mfau mrdm mlin mbsm) := hD
          refine lv_goto (tgt := 394) hx hb dX10_nextToken_74 (by decide) ?_
          exact W.vret hx hb hr (fun tq ht hW => ⟨⟨(uS [(fun _ => mpos_0), (fun _ => mpos_0), (fun _ => 0), (fun _ => 0), (fun _ => 0)] (-2) (fun _ => 0)), rfl, ⟨(show mpos_0.toInt ≤ mbyt.toInt from by omega), (show 0 ≤ mpos_0.toInt from by omega), (show mpos_0.toInt ≤ mpos_0.toInt from by omega), (show mpos_0.toInt = tS mtxt mbyt.toInt mpos.toInt from by exact sk_out i0_1 (by omega)), (show mpos_0.toInt = tE mtxt mbyt.toInt mpos_0.toInt from by (first | exact tE_end (by omega) rfl | exact tE_runA (by omega) (knd_1 (by omega)) (by decide) i101_2 (by first | exact Or.inl (by omega) | exact Or.inr (knd_n1 (by omega))) | exact tE_runA (by omega) (knd_2 (by omega)) (by decide) i241_2 (by first | exact Or.inl (by omega) | exact Or.inr (knd_n2 (by omega))) | exact tE_oneC (by omega) (knd_3 (by omega) (by omega)).symm rfl (by omega))), (show (-2) = tkV mtxt mbyt.toInt mpos_0.toInt mpos_0.toInt from by (first | exact tv_end (by omega) | exact tv_let (by omega) (knd_1 (by omega)) i101_3 (by omega) | exact tv_let4 (by omega) (knd_1 (by omega)) (by omega) | exact tv_dig (by omega) (knd_2 (by omega)) (by omega) | exact tv_dig4 (by omega) (knd_2 (by omega)) (by omega) | exact tv_semi (by omega) (by omega) | exact tv_oth (by omega) (knd_3 (by omega) (by omega)) (by omega))), (show nmP mtxt mbyt.toInt mpos_0.toInt mpos_0.toInt 0 from by (first | exact nm_v (by omega) | exact nm_k (knd_1 (by omega)) (by decide) | exact nm_d i241_6 | exact nm_k (knd_3 (by omega) (by omega)) (by decide))), r_mpos_0⟩, by rw [ht]; exact hP, hD⟩, hS.F ht⟩) hS.2.2 dX10_nextToken_394
      · have dc1 : mpos_0.toInt < mbyt.toInt := nleC rfl rfl c1
        refine lv_aload_n hx hb dX10_nextToken_11 rfl (lv_at hl 0 rfl) ?_
        refine va_get (D := (dC, dI)) (ci := 10) (v := .ref (b 20)) (C := RX10) (T := TX10) (N := 39) hx hb hts inX10 hown hK hP 0 rfl rfl 20 (by decide) lf62 (fun _ h9 => h9) rfl dX10_nextToken_12 ?_
        refine lv_aload_n hx hb dX10_nextToken_15 rfl (lv_at hl 0 rfl) ?_
        refine va_get (D := (dC, dI)) (ci := 10) (v := .int mpos_0) (C := RX10) (T := TX10) (N := 39) hx hb hts inX10 hown hK hP 0 rfl rfl 21 (by decide) lf146 (fun _ h9 => h9) rfl dX10_nextToken_16 ?_
        have b54 : vp_in mpos_0 160 := inC rfl (by omega) (by omega)
        refine va_iald hx hb hK hP 1 0 rfl rfl b54 dX10_nextToken_19 ?_
        refine lv_bipush (v := 32) hx hb dX10_nextToken_20 (by decide) ?_
        refine lv_icmp_ne (tgt := 38) hx hb dX10_nextToken_22 (by decide) (fun c55 => ?_) (fun c55 => ?_)
        · have dc55 : (mtxt mpos_0.toNatClampNeg).toInt ≠ 32 := neC rfl (show (32 : Int32).toInt = 32 from rfl) c55
          refine lv_aload_n hx hb dX10_nextToken_38 rfl (lv_at hl 0 rfl) ?_
          refine lv_aload_n hx hb dX10_nextToken_39 rfl (lv_at hl 0 rfl) ?_
          refine va_get (D := (dC, dI)) (ci := 10) (v := .int mpos_0) (C := RX10) (T := TX10) (N := 39) hx hb hts inX10 hown hK hP 0 rfl rfl 21 (by decide) lf146 (fun _ h9 => h9) rfl dX10_nextToken_40 ?_
          refine va_put (D := (dC, dI)) (ci := 10) (v := .int mpos_0) (ty := .int) (C := RX10) (T := TX10) (N := 39) hx hb hts inX10 tyX10 tyX10_ok nmX10 hown hK hP hD hS 0 rfl rfl 22 (by decide) lf149 (fun _ h9 => h9) rfl (by decide +kernel) rfl rfl (Nat.le_of_ble_eq_true rfl) dX10_nextToken_43 (fun H locs hP hD hS => ?_)
          have hP : va_P (dC, dI) vwCl (wMdT cI cZ cQ b mday mdoo mtel mgai mbyt mtxt mpos_0 mpos_0 mtok mdig mnum mfau mrdm mlin mbsm) H := hP
          have hD : va_D A (wMdT cI cZ cQ b mday mdoo mtel mgai mbyt mtxt mpos_0 mpos_0 mtok mdig mnum mfau mrdm mlin mbsm) := hD
          refine lv_aload_n hx hb dX10_nextToken_46 rfl (lv_at hl 0 rfl) ?_
          refine lv_iconst (v := 0) hx hb dX10_nextToken_47 (by decide) ?_
          refine va_put (D := (dC, dI)) (ci := 10) (v := .int 0) (ty := .int) (C := RX10) (T := TX10) (N := 39) hx hb hts inX10 tyX10 tyX10_ok nmX10 hown hK hP hD hS 0 rfl rfl 24 (by decide) lf152 (fun _ h9 => h9) rfl (by decide +kernel) rfl rfl (Nat.le_of_ble_eq_true rfl) dX10_nextToken_48 (fun H locs hP hD hS => ?_)
          have hP : va_P (dC, dI) vwCl (wMdT cI cZ cQ b mday mdoo mtel mgai mbyt mtxt mpos_0 mpos_0 mtok 0 mnum mfau mrdm mlin mbsm) H := hP
          have hD : va_D A (wMdT cI cZ cQ b mday mdoo mtel mgai mbyt mtxt mpos_0 mpos_0 mtok 0 mnum mfau mrdm mlin mbsm) := hD
          refine lv_aload_n hx hb dX10_nextToken_51 rfl (lv_at hl 0 rfl) ?_
          refine lv_iconst (v := 0) hx hb dX10_nextToken_52 (by decide) ?_
          refine va_put (D := (dC, dI)) (ci := 10) (v := .int 0) (ty := .int) (C := RX10) (T := TX10) (N := 39) hx hb hts inX10 tyX10 tyX10_ok nmX10 hown hK hP hD hS 0 rfl rfl 25 (by decide) lf155 (fun _ h9 => h9) rfl (by decide +kernel) rfl rfl (Nat.le_of_ble_eq_true rfl) dX10_nextToken_53 (fun H locs hP hD hS => ?_)
          have hP : va_P (dC, dI) vwCl (wMdT cI cZ cQ b mday mdoo mtel mgai mbyt mtxt mpos_0 mpos_0 mtok 0 0 mfau mrdm mlin mbsm) H := hP
          have hD : va_D A (wMdT cI cZ cQ b mday mdoo mtel mgai mbyt mtxt mpos_0 mpos_0 mtok 0 0 mfau mrdm mlin mbsm) := hD
          refine lv_aload_n hx hb dX10_nextToken_56 rfl (lv_at hl 0 rfl) ?_
          refine va_get (D := (dC, dI)) (ci := 10) (v := .int mpos_0) (C := RX10) (T := TX10) (N := 39) hx hb hts inX10 hown hK hP 0 rfl rfl 21 (by decide) lf146 (fun _ h9 => h9) rfl dX10_nextToken_57 ?_
          refine lv_aload_n hx hb dX10_nextToken_60 rfl (lv_at hl 0 rfl) ?_
          refine va_get (D := (dC, dI)) (ci := 10) (v := .int mbyt) (C := RX10) (T := TX10) (N := 39) hx hb hts inX10 hown hK hP 0 rfl rfl 19 (by decide) lf141 (fun _ h9 => h9) rfl dX10_nextToken_61 ?_
          refine lv_icmp_ne (tgt := 77) hx hb dX10_nextToken_64 (by decide) (fun c56 => ?_) (fun c56 => ?_)
          · have dc56 : mpos_0.toInt ≠ mbyt.toInt := neC rfl rfl c56
            refine lv_aload_n hx hb dX10_nextToken_77 rfl (lv_at hl 0 rfl) ?_
            refine va_get (D := (dC, dI)) (ci := 10) (v := .ref (b 20)) (C := RX10) (T := TX10) (N := 39) hx hb hts inX10 hown hK hP 0 rfl rfl 20 (by decide) lf62 (fun _ h9 => h9) rfl dX10_nextToken_78 ?_
            refine lv_aload_n hx hb dX10_nextToken_81 rfl (lv_at hl 0 rfl) ?_
            refine va_get (D := (dC, dI)) (ci := 10) (v := .int mpos_0) (C := RX10) (T := TX10) (N := 39) hx hb hts inX10 hown hK hP 0 rfl rfl 21 (by decide) lf146 (fun _ h9 => h9) rfl dX10_nextToken_82 ?_
            have b57 : vp_in mpos_0 160 := inC rfl (by omega) (by omega)
            refine va_iald hx hb hK hP 1 0 rfl rfl b57 dX10_nextToken_85 ?_
            refine lv_bipush (v := 97) hx hb dX10_nextToken_86 (by decide) ?_
            refine lv_bipush (v := 122) hx hb dX10_nextToken_88 (by decide) ?_
            refine rdS (As := [.int (mtxt mpos_0.toNatClampNeg), .int 97, .int 122]) (rest := []) ⟨hx, hb, hml, hown, hts⟩ (k_X10_in l dC dI cI cZ cQ (mtxt mpos_0.toNatClampNeg) (97 : Int32) (122 : Int32)) (va_cwS 3 hts gX10_nextToken_X10_in rfl rfl rfl (by decide +kernel) ⟨Nat.le_of_ble_eq_true rfl, Nat.le_of_ble_eq_true rfl⟩) hP hK hN [] rfl rfl hl.1 rfl (Nat.le_of_ble_eq_true rfl) dX10_nextToken_90 ⟨Nat.le_of_ble_eq_true rfl, Nat.le_of_ble_eq_true rfl⟩ (fun r58 h59 => ?_)
            have h59 : ((((r58 = 1) ∧ ((97) ≤ (mtxt mpos_0.toNatClampNeg).toInt) ∧ ((mtxt mpos_0.toNatClampNeg).toInt ≤ (122))) ∨ ((r58 = 0) ∧ ((mtxt mpos_0.toNatClampNeg).toInt < (97) ∨ (122) < (mtxt mpos_0.toNatClampNeg).toInt)))) := h59
            rcases h59 with (⟨rfl, h59_a0, h59_a1⟩ | ⟨rfl, h59_a0⟩)
            · refine lv_if_eq (tgt := 222) hx hb dX10_nextToken_93 (by decide) (fun c9 => absurd c9 (by decide)) (fun _ => ?_)
              refine lv_aload_n hx hb dX10_nextToken_96 rfl (lv_at hl 0 rfl) ?_
              refine lv_lconst (v := 0) hx hb dX10_nextToken_97 (by decide) ?_
              refine va_put (D := (dC, dI)) (ci := 10) (v := .long 0) (ty := .long) (C := RX10) (T := TX10) (N := 39) hx hb hts inX10 tyX10 tyX10_ok nmX10 hown hK hP hD hS 0 rfl rfl 23 (by decide) lf160 (fun _ h9 => h9) rfl (by decide +kernel) rfl rfl (Nat.le_of_ble_eq_true rfl) dX10_nextToken_98 (fun H locs hP hD hS => ?_)
              have hP : va_P (dC, dI) vwCl (wMdT cI cZ cQ b mday mdoo mtel mgai mbyt mtxt mpos_0 mpos_0 0 0 0 mfau mrdm mlin mbsm) H := hP
              have hD : va_D A (wMdT cI cZ cQ b mday mdoo mtel mgai mbyt mtxt mpos_0 mpos_0 0 0 0 mfau mrdm mlin mbsm) := hD
              have L101 : ∀ (nn : Nat) (mpos_101 : Int32) (mtok_101 : Int64) (H : Heap) (locs : List Loc) (ls : Array Slot), (0 ≤ mpos_101.toInt ∧ mpos_101.toInt ≤ 160) → (mpos_101.toInt ≤ mbyt.toInt) → (mpos_0.toInt ≤ mpos_101.toInt) → (tR mtxt 1 mbyt.toInt mpos_101.toInt = tR mtxt 1 mbyt.toInt mpos_0.toInt) → (9 < mpos_101.toInt - mpos_0.toInt ∨ mtok_101 = wvF mtxt mpos_0.toInt (mpos_101.toInt - mpos_0.toInt).toNat) → (mbyt.toInt - mpos_101.toInt).toNat < nn → va_P (dC, dI) vwCl (wMdT cI cZ cQ b mday mdoo mtel mgai mbyt mtxt mpos_101 mpos_0 mtok_101 0 0 mfau mrdm mlin mbsm) H → va_D A (wMdT cI cZ cQ b mday mdoo mtel mgai mbyt mtxt mpos_101 mpos_0 mtok_101 0 0 mfau mrdm mlin mbsm) → va_S A s.heap H locs → lv_has ls 1 [(0, .ref (b 39))] → W p l e (headSpec wsX10_nextToken { frames := 1, cells := 0, slots := 0, locals := 22 }).room s m ([.ref (b 39)] : List Value).toArray below meth c H locs 0 0 (MQ below (va_Qv (fun (u : US) => ((u.1 0 0).toInt ≤ mbyt.toInt) ∧ (0 ≤ (u.1 1 0).toInt) ∧ ((u.1 1 0).toInt ≤ (u.1 0 0).toInt) ∧ ((u.1 1 0).toInt = tS mtxt mbyt.toInt mpos.toInt) ∧ ((u.1 0 0).toInt = tE mtxt mbyt.toInt (u.1 1 0).toInt) ∧ (u.2.1 = tkV mtxt mbyt.toInt (u.1 1 0).toInt (u.1 0 0).toInt) ∧ (nmP mtxt mbyt.toInt (u.1 1 0).toInt (u.1 0 0).toInt (u.1 4 0)) ∧ (0 ≤ (u.1 0 0).toInt ∧ (u.1 0 0).toInt ≤ 160)) (Bw (dC, dI) A (fun u : US => (wMdT cI cZ cQ b mday mdoo mtel mgai mbyt mtxt (u.1 0 0) (u.1 1 0) u.2.1 (u.1 3 0) (u.1 4 0) mfau mrdm mlin mbsm))) A) ([.ref (b 39)] : List Value).toArray s 0 0 A) (F0 m 101 ls []) := by
                intro nn
                induction nn with
                | zero =>
                  intro mpos_101 mtok_101 H locs ls r_mpos_101 i101_0 i101_1 i101_2 i101_3 hm101
                  exact absurd hm101 (Nat.not_lt_zero _)
                | succ nn ih101 =>
                  intro mpos_101 mtok_101 H locs ls r_mpos_101 i101_0 i101_1 i101_2 i101_3 hm101 hP hD hS hl
                  refine lv_aload_n hx hb dX10_nextToken_101 rfl (lv_at hl 0 rfl) ?_
                  refine va_get (D := (dC, dI)) (ci := 10) (v := .int mpos_101) (C := RX10) (T := TX10) (N := 39) hx hb hts inX10 hown hK hP 0 rfl rfl 21 (by decide) lf146 (fun _ h9 => h9) rfl dX10_nextToken_102 ?_
                  refine lv_aload_n hx hb dX10_nextToken_105 rfl (lv_at hl 0 rfl) ?_
                  refine va_get (D := (dC, dI)) (ci := 10) (v := .int mbyt) (C := RX10) (T := TX10) (N := 39) hx hb hts inX10 hown hK hP 0 rfl rfl 19 (by decide) lf141 (fun _ h9 => h9) rfl dX10_nextToken_106 ?_
                  refine lv_icmp_ge (tgt := 191) hx hb dX10_nextToken_109 (by decide) (fun c60 => ?_) (fun c60 => ?_)
                  · have dc60 : mbyt.toInt ≤ mpos_101.toInt := leC rfl rfl c60
                    refine lv_aload_n hx hb dX10_nextToken_191 rfl (lv_at hl 0 rfl) ?_
                    refine lv_aload_n hx hb dX10_nextToken_192 rfl (lv_at hl 0 rfl) ?_
                    refine va_get (D := (dC, dI)) (ci := 10) (v := .int mpos_101) (C := RX10) (T := TX10) (N := 39) hx hb hts inX10 hown hK hP 0 rfl rfl 21 (by decide) lf146 (fun _ h9 => h9) rfl dX10_nextToken_193 ?_
                    refine lv_aload_n hx hb dX10_nextToken_196 rfl (lv_at hl 0 rfl) ?_
                    refine va_get (D := (dC, dI)) (ci := 10) (v := .int mpos_0) (C := RX10) (T := TX10) (N := 39) hx hb hts inX10 hown hK hP 0 rfl rfl 22 (by decide) lf149 (fun _ h9 => h9) rfl dX10_nextToken_197 ?_
                    refine lv_isub hx hb dX10_nextToken_200 ?_
                    have f61 : (mpos_101 - mpos_0).toInt = (mpos_101.toInt) - (mpos_0.toInt) := subC rfl rfl (by omega) (by omega)
                    refine lv_bipush (v := 9) hx hb dX10_nextToken_201 (by decide) ?_
                    refine lv_icmp_le (tgt := 212) hx hb dX10_nextToken_203 (by decide) (fun c62 => ?_) (fun c62 => ?_)
                    · have dc62 : (mpos_101.toInt) - (mpos_0.toInt) ≤ 9 := leC f61 (show (9 : Int32).toInt = 9 from rfl) c62
                      refine lv_aload_n hx hb dX10_nextToken_212 rfl (lv_at hl 0 rfl) ?_
                      refine va_get (D := (dC, dI)) (ci := 10) (v := .long mtok_101) (C := RX10) (T := TX10) (N := 39) hx hb hts inX10 hown hK hP 0 rfl rfl 23 (by decide) lf160 (fun _ h9 => h9) rfl dX10_nextToken_213 ?_
                      refine va_put (D := (dC, dI)) (ci := 10) (v := .long mtok_101) (ty := .long) (C := RX10) (T := TX10) (N := 39) hx hb hts inX10 tyX10 tyX10_ok nmX10 hown hK hP hD hS 0 rfl rfl 23 (by decide) lf160 (fun _ h9 => h9) rfl (by decide +kernel) rfl rfl (Nat.le_of_ble_eq_true rfl) dX10_nextToken_216 (fun H locs hP hD hS => ?_)
                      have hP : va_P (dC, dI) vwCl (wMdT cI cZ cQ b mday mdoo mtel mgai mbyt mtxt mpos_101 mpos_0 mtok_101 0 0 mfau mrdm mlin mbsm) H := hP
                      have hD : va_D A (wMdT cI cZ cQ b mday mdoo mtel mgai mbyt mtxt mpos_101 mpos_0 mtok_101 0 0 mfau mrdm mlin mbsm) := hD
                      refine lv_goto (tgt := 394) hx hb dX10_nextToken_219 (by decide) ?_
                      exact W.vret hx hb hr (fun tq ht hW => ⟨⟨(uS [(fun _ => mpos_101), (fun _ => mpos_0), (fun _ => 0), (fun _ => 0), (fun _ => 0)] mtok_101 (fun _ => 0)), rfl, ⟨(show mpos_101.toInt ≤ mbyt.toInt from by omega), (show 0 ≤ mpos_0.toInt from by omega), (show mpos_0.toInt ≤ mpos_101.toInt from by omega), (show mpos_0.toInt = tS mtxt mbyt.toInt mpos.toInt from by exact sk_out i0_1 (by omega)), (show mpos_101.toInt = tE mtxt mbyt.toInt mpos_0.toInt from by (first | exact tE_end (by omega) rfl | exact tE_runA (by omega) (knd_1 (by omega)) (by decide) i101_2 (by first | exact Or.inl (by omega) | exact Or.inr (knd_n1 (by omega))) | exact tE_runA (by omega) (knd_2 (by omega)) (by decide) i241_2 (by first | exact Or.inl (by omega) | exact Or.inr (knd_n2 (by omega))) | exact tE_oneC (by omega) (knd_3 (by omega) (by omega)).symm rfl (by omega))), (show mtok_101 = tkV mtxt mbyt.toInt mpos_0.toInt mpos_101.toInt from by (first | exact tv_end (by omega) | exact tv_let (by omega) (knd_1 (by omega)) i101_3 (by omega) | exact tv_let4 (by omega) (knd_1 (by omega)) (by omega) | exact tv_dig (by omega) (knd_2 (by omega)) (by omega) | exact tv_dig4 (by omega) (knd_2 (by omega)) (by omega) | exact tv_semi (by omega) (by omega) | exact tv_oth (by omega) (knd_3 (by omega) (by omega)) (by omega))), (show nmP mtxt mbyt.toInt mpos_0.toInt mpos_101.toInt 0 from by (first | exact nm_v (by omega) | exact nm_k (knd_1 (by omega)) (by decide) | exact nm_d i241_6 | exact nm_k (knd_3 (by omega) (by omega)) (by decide))), r_mpos_101⟩, by rw [ht]; exact hP, hD⟩, hS.F ht⟩) hS.2.2 dX10_nextToken_394
                    · have dc62 : 9 < (mpos_101.toInt) - (mpos_0.toInt) := nleC f61 (show (9 : Int32).toInt = 9 from rfl) c62
                      refine lv_ldc2 (v := (-4)) hx hb hown (hts (.constantLong RX10 168 (-4)) (List.mem_cons_of_mem _ (List.mem_append_left _ (List.mem_of_getElem? (i := 10) rfl)))) dX10_nextToken_206 ?_
                      refine lv_goto (tgt := 216) hx hb dX10_nextToken_209 (by decide) ?_
                      refine va_put (D := (dC, dI)) (ci := 10) (v := .long (-4)) (ty := .long) (C := RX10) (T := TX10) (N := 39) hx hb hts inX10 tyX10 tyX10_ok nmX10 hown hK hP hD hS 0 rfl rfl 23 (by decide) lf160 (fun _ h9 => h9) rfl (by decide +kernel) rfl rfl (Nat.le_of_ble_eq_true rfl) dX10_nextToken_216 (fun H locs hP hD hS => ?_)
                      have hP : va_P (dC, dI) vwCl (wMdT cI cZ cQ b mday mdoo mtel mgai mbyt mtxt mpos_101 mpos_0 (-4) 0 0 mfau mrdm mlin mbsm) H := hP
                      have hD : va_D A (wMdT cI cZ cQ b mday mdoo mtel mgai mbyt mtxt mpos_101 mpos_0 (-4) 0 0 mfau mrdm mlin mbsm) := hD
                      refine lv_goto (tgt := 394) hx hb dX10_nextToken_219 (by decide) ?_
                      exact W.vret hx hb hr (fun tq ht hW => ⟨⟨(uS [(fun _ => mpos_101), (fun _ => mpos_0), (fun _ => 0), (fun _ => 0), (fun _ => 0)] (-4) (fun _ => 0)), rfl, ⟨(show mpos_101.toInt ≤ mbyt.toInt from by omega), (show 0 ≤ mpos_0.toInt from by omega), (show mpos_0.toInt ≤ mpos_101.toInt from by omega), (show mpos_0.toInt = tS mtxt mbyt.toInt mpos.toInt from by exact sk_out i0_1 (by omega)), (show mpos_101.toInt = tE mtxt mbyt.toInt mpos_0.toInt from by (first | exact tE_end (by omega) rfl | exact tE_runA (by omega) (knd_1 (by omega)) (by decide) i101_2 (by first | exact Or.inl (by omega) | exact Or.inr (knd_n1 (by omega))) | exact tE_runA (by omega) (knd_2 (by omega)) (by decide) i241_2 (by first | exact Or.inl (by omega) | exact Or.inr (knd_n2 (by omega))) | exact tE_oneC (by omega) (knd_3 (by omega) (by omega)).symm rfl (by omega))), (show (-4) = tkV mtxt mbyt.toInt mpos_0.toInt mpos_101.toInt from by (first | exact tv_end (by omega) | exact tv_let (by omega) (knd_1 (by omega)) i101_3 (by omega) | exact tv_let4 (by omega) (knd_1 (by omega)) (by omega) | exact tv_dig (by omega) (knd_2 (by omega)) (by omega) | exact tv_dig4 (by omega) (knd_2 (by omega)) (by omega) | exact tv_semi (by omega) (by omega) | exact tv_oth (by omega) (knd_3 (by omega) (by omega)) (by omega))), (show nmP mtxt mbyt.toInt mpos_0.toInt mpos_101.toInt 0 from by (first | exact nm_v (by omega) | exact nm_k (knd_1 (by omega)) (by decide) | exact nm_d i241_6 | exact nm_k (knd_3 (by omega) (by omega)) (by decide))), r_mpos_101⟩, by rw [ht]; exact hP, hD⟩, hS.F ht⟩) hS.2.2 dX10_nextToken_394
                  · have dc60 : mpos_101.toInt < mbyt.toInt := nleC rfl rfl c60
                    refine lv_aload_n hx hb dX10_nextToken_112 rfl (lv_at hl 0 rfl) ?_
                    refine va_get (D := (dC, dI)) (ci := 10) (v := .ref (b 20)) (C := RX10) (T := TX10) (N := 39) hx hb hts inX10 hown hK hP 0 rfl rfl 20 (by decide) lf62 (fun _ h9 => h9) rfl dX10_nextToken_113 ?_
                    refine lv_aload_n hx hb dX10_nextToken_116 rfl (lv_at hl 0 rfl) ?_
                    refine va_get (D := (dC, dI)) (ci := 10) (v := .int mpos_101) (C := RX10) (T := TX10) (N := 39) hx hb hts inX10 hown hK hP 0 rfl rfl 21 (by decide) lf146 (fun _ h9 => h9) rfl dX10_nextToken_117 ?_
                    have b63 : vp_in mpos_101 160 := inC rfl (by omega) (by omega)
                    refine va_iald hx hb hK hP 1 0 rfl rfl b63 dX10_nextToken_120 ?_
                    refine lv_bipush (v := 97) hx hb dX10_nextToken_121 (by decide) ?_
                    refine lv_bipush (v := 122) hx hb dX10_nextToken_123 (by decide) ?_
                    refine rdS (As := [.int (mtxt mpos_101.toNatClampNeg), .int 97, .int 122]) (rest := []) ⟨hx, hb, hml, hown, hts⟩ (k_X10_in l dC dI cI cZ cQ (mtxt mpos_101.toNatClampNeg) (97 : Int32) (122 : Int32)) (va_cwS 3 hts gX10_nextToken_X10_in rfl rfl rfl (by decide +kernel) ⟨Nat.le_of_ble_eq_true rfl, Nat.le_of_ble_eq_true rfl⟩) hP hK hN [] rfl rfl hl.1 rfl (Nat.le_of_ble_eq_true rfl) dX10_nextToken_125 ⟨Nat.le_of_ble_eq_true rfl, Nat.le_of_ble_eq_true rfl⟩ (fun r64 h65 => ?_)
                    have h65 : ((((r64 = 1) ∧ ((97) ≤ (mtxt mpos_101.toNatClampNeg).toInt) ∧ ((mtxt mpos_101.toNatClampNeg).toInt ≤ (122))) ∨ ((r64 = 0) ∧ ((mtxt mpos_101.toNatClampNeg).toInt < (97) ∨ (122) < (mtxt mpos_101.toNatClampNeg).toInt)))) := h65
                    rcases h65 with (⟨rfl, h65_a0, h65_a1⟩ | ⟨rfl, h65_a0⟩)
                    · refine lv_if_eq (tgt := 191) hx hb dX10_nextToken_128 (by decide) (fun c9 => absurd c9 (by decide)) (fun _ => ?_)
                      refine lv_aload_n hx hb dX10_nextToken_131 rfl (lv_at hl 0 rfl) ?_
                      refine lv_aload_n hx hb dX10_nextToken_132 rfl (lv_at hl 0 rfl) ?_
                      refine va_get (D := (dC, dI)) (ci := 10) (v := .int mpos_101) (C := RX10) (T := TX10) (N := 39) hx hb hts inX10 hown hK hP 0 rfl rfl 21 (by decide) lf146 (fun _ h9 => h9) rfl dX10_nextToken_133 ?_
                      refine lv_aload_n hx hb dX10_nextToken_136 rfl (lv_at hl 0 rfl) ?_
                      refine va_get (D := (dC, dI)) (ci := 10) (v := .int mpos_0) (C := RX10) (T := TX10) (N := 39) hx hb hts inX10 hown hK hP 0 rfl rfl 22 (by decide) lf149 (fun _ h9 => h9) rfl dX10_nextToken_137 ?_
                      refine lv_isub hx hb dX10_nextToken_140 ?_
                      have f66 : (mpos_101 - mpos_0).toInt = (mpos_101.toInt) - (mpos_0.toInt) := subC rfl rfl (by omega) (by omega)
                      refine lv_bipush (v := 9) hx hb dX10_nextToken_141 (by decide) ?_
                      refine lv_icmp_ge (tgt := 172) hx hb dX10_nextToken_143 (by decide) (fun c67 => ?_) (fun c67 => ?_)
                      · have dc67 : 9 ≤ (mpos_101.toInt) - (mpos_0.toInt) := leC (show (9 : Int32).toInt = 9 from rfl) f66 c67
                        refine lv_ldc2 (v := (-4)) hx hb hown (hts (.constantLong RX10 168 (-4)) (List.mem_cons_of_mem _ (List.mem_append_left _ (List.mem_of_getElem? (i := 10) rfl)))) dX10_nextToken_172 ?_
                        refine va_put (D := (dC, dI)) (ci := 10) (v := .long (-4)) (ty := .long) (C := RX10) (T := TX10) (N := 39) hx hb hts inX10 tyX10 tyX10_ok nmX10 hown hK hP hD hS 0 rfl rfl 23 (by decide) lf160 (fun _ h9 => h9) rfl (by decide +kernel) rfl rfl (Nat.le_of_ble_eq_true rfl) dX10_nextToken_175 (fun H locs hP hD hS => ?_)
                        have hP : va_P (dC, dI) vwCl (wMdT cI cZ cQ b mday mdoo mtel mgai mbyt mtxt mpos_101 mpos_0 (-4) 0 0 mfau mrdm mlin mbsm) H := hP
                        have hD : va_D A (wMdT cI cZ cQ b mday mdoo mtel mgai mbyt mtxt mpos_101 mpos_0 (-4) 0 0 mfau mrdm mlin mbsm) := hD
                        refine lv_aload_n hx hb dX10_nextToken_178 rfl (lv_at hl 0 rfl) ?_
                        refine lv_dup hx hb dX10_nextToken_179 rfl ?_
                        refine va_get (D := (dC, dI)) (ci := 10) (v := .int mpos_101) (C := RX10) (T := TX10) (N := 39) hx hb hts inX10 hown hK hP 0 rfl rfl 21 (by decide) lf146 (fun _ h9 => h9) rfl dX10_nextToken_180 ?_
                        refine lv_iconst (v := 1) hx hb dX10_nextToken_183 (by decide) ?_
                        refine lv_iadd hx hb dX10_nextToken_184 ?_
                        have f68 : (mpos_101 + 1).toInt = (mpos_101.toInt) + (1) := addC rfl (show (1 : Int32).toInt = 1 from rfl) (by omega) (by omega)
                        refine lv_topi (fun x69 ex69 => ?_)
                        have ix69 : x69.toInt = (mpos_101.toInt) + (1) := by rw [ex69]; exact f68
                        refine va_put (D := (dC, dI)) (ci := 10) (v := .int x69) (ty := .int) (C := RX10) (T := TX10) (N := 39) hx hb hts inX10 tyX10 tyX10_ok nmX10 hown hK hP hD hS 0 rfl rfl 21 (by decide) lf146 (fun _ h9 => h9) rfl (by decide +kernel) rfl rfl (Nat.le_of_ble_eq_true rfl) dX10_nextToken_185 (fun H locs hP hD hS => ?_)
                        have g70 : 0 ≤ x69.toInt ∧ x69.toInt ≤ 160 := by rw [show x69.toInt = x69.toInt from rfl]; exact ⟨by omega, by omega⟩
                        have hP : va_P (dC, dI) vwCl (wMdT cI cZ cQ b mday mdoo mtel mgai mbyt mtxt x69 mpos_0 (-4) 0 0 mfau mrdm mlin mbsm) H := hP
                        have hD : va_D A (wMdT cI cZ cQ b mday mdoo mtel mgai mbyt mtxt x69 mpos_0 (-4) 0 0 mfau mrdm mlin mbsm) := hD
                        refine lv_goto (tgt := 101) hx hb dX10_nextToken_188 (by decide) ?_
                        exact ih101 x69 (-4) _ _ _ g70 (by omega) (by omega) (by (first | exact rn_in i101_2 (by omega) (knd_1 (by omega)) (by omega) | rfl)) (by (first | exact wv_s i101_3 (by omega) (by omega) (by omega) | exact Or.inl (by omega) | exact wv_0 rfl)) (by omega) hP hD hS (lv_sub hl [0] rfl)
                      · have dc67 : (mpos_101.toInt) - (mpos_0.toInt) < 9 := nleC (show (9 : Int32).toInt = 9 from rfl) f66 c67
                        refine lv_ldc2 (v := 27) hx hb hown (hts (.constantLong RX10 164 (27)) (List.mem_cons_of_mem _ (List.mem_append_left _ (List.mem_of_getElem? (i := 8) rfl)))) dX10_nextToken_146 ?_
                        refine lv_aload_n hx hb dX10_nextToken_149 rfl (lv_at hl 0 rfl) ?_
                        refine va_get (D := (dC, dI)) (ci := 10) (v := .long mtok_101) (C := RX10) (T := TX10) (N := 39) hx hb hts inX10 hown hK hP 0 rfl rfl 23 (by decide) lf160 (fun _ h9 => h9) rfl dX10_nextToken_150 ?_
                        refine lv_lmul hx hb dX10_nextToken_153 ?_
                        refine lv_aload_n hx hb dX10_nextToken_154 rfl (lv_at hl 0 rfl) ?_
                        refine va_get (D := (dC, dI)) (ci := 10) (v := .ref (b 20)) (C := RX10) (T := TX10) (N := 39) hx hb hts inX10 hown hK hP 0 rfl rfl 20 (by decide) lf62 (fun _ h9 => h9) rfl dX10_nextToken_155 ?_
                        refine lv_aload_n hx hb dX10_nextToken_158 rfl (lv_at hl 0 rfl) ?_
                        refine va_get (D := (dC, dI)) (ci := 10) (v := .int mpos_101) (C := RX10) (T := TX10) (N := 39) hx hb hts inX10 hown hK hP 0 rfl rfl 21 (by decide) lf146 (fun _ h9 => h9) rfl dX10_nextToken_159 ?_
                        have b71 : vp_in mpos_101 160 := inC rfl (by omega) (by omega)
                        refine va_iald hx hb hK hP 1 0 rfl rfl b71 dX10_nextToken_162 ?_
                        refine lv_i2l hx hb dX10_nextToken_163 rfl ?_
                        refine lv_ladd hx hb dX10_nextToken_164 ?_
                        refine lv_ldc2 (v := 96) hx hb hown (hts (.constantLong RX10 166 (96)) (List.mem_cons_of_mem _ (List.mem_append_left _ (List.mem_of_getElem? (i := 9) rfl)))) dX10_nextToken_165 ?_
                        refine lv_lsub hx hb dX10_nextToken_168 ?_
                        refine lv_goto (tgt := 175) hx hb dX10_nextToken_169 (by decide) ?_
                        refine va_put (D := (dC, dI)) (ci := 10) (v := .long (((27 * mtok_101) + ((mtxt mpos_101.toNatClampNeg).toInt64)) - 96)) (ty := .long) (C := RX10) (T := TX10) (N := 39) hx hb hts inX10 tyX10 tyX10_ok nmX10 hown hK hP hD hS 0 rfl rfl 23 (by decide) lf160 (fun _ h9 => h9) rfl (by decide +kernel) rfl rfl (Nat.le_of_ble_eq_true rfl) dX10_nextToken_175 (fun H locs hP hD hS => ?_)
                        have hP : va_P (dC, dI) vwCl (wMdT cI cZ cQ b mday mdoo mtel mgai mbyt mtxt mpos_101 mpos_0 (((27 * mtok_101) + ((mtxt mpos_101.toNatClampNeg).toInt64)) - 96) 0 0 mfau mrdm mlin mbsm) H := hP
                        have hD : va_D A (wMdT cI cZ cQ b mday mdoo mtel mgai mbyt mtxt mpos_101 mpos_0 (((27 * mtok_101) + ((mtxt mpos_101.toNatClampNeg).toInt64)) - 96) 0 0 mfau mrdm mlin mbsm) := hD
                        refine lv_aload_n hx hb dX10_nextToken_178 rfl (lv_at hl 0 rfl) ?_
                        refine lv_dup hx hb dX10_nextToken_179 rfl ?_
                        refine va_get (D := (dC, dI)) (ci := 10) (v := .int mpos_101) (C := RX10) (T := TX10) (N := 39) hx hb hts inX10 hown hK hP 0 rfl rfl 21 (by decide) lf146 (fun _ h9 => h9) rfl dX10_nextToken_180 ?_
                        refine lv_iconst (v := 1) hx hb dX10_nextToken_183 (by decide) ?_
                        refine lv_iadd hx hb dX10_nextToken_184 ?_
                        have f72 : (mpos_101 + 1).toInt = (mpos_101.toInt) + (1) := addC rfl (show (1 : Int32).toInt = 1 from rfl) (by omega) (by omega)
                        refine lv_topi (fun x73 ex73 => ?_)
                        have ix73 : x73.toInt = (mpos_101.toInt) + (1) := by rw [ex73]; exact f72
                        refine va_put (D := (dC, dI)) (ci := 10) (v := .int x73) (ty := .int) (C := RX10) (T := TX10) (N := 39) hx hb hts inX10 tyX10 tyX10_ok nmX10 hown hK hP hD hS 0 rfl rfl 21 (by decide) lf146 (fun _ h9 => h9) rfl (by decide +kernel) rfl rfl (Nat.le_of_ble_eq_true rfl) dX10_nextToken_185 (fun H locs hP hD hS => ?_)
                        have g74 : 0 ≤ x73.toInt ∧ x73.toInt ≤ 160 := by rw [show x73.toInt = x73.toInt from rfl]; exact ⟨by omega, by omega⟩
                        have hP : va_P (dC, dI) vwCl (wMdT cI cZ cQ b mday mdoo mtel mgai mbyt mtxt x73 mpos_0 (((27 * mtok_101) + ((mtxt mpos_101.toNatClampNeg).toInt64)) - 96) 0 0 mfau mrdm mlin mbsm) H := hP
                        have hD : va_D A (wMdT cI cZ cQ b mday mdoo mtel mgai mbyt mtxt x73 mpos_0 (((27 * mtok_101) + ((mtxt mpos_101.toNatClampNeg).toInt64)) - 96) 0 0 mfau mrdm mlin mbsm) := hD
                        refine lv_goto (tgt := 101) hx hb dX10_nextToken_188 (by decide) ?_
                        exact ih101 x73 (((27 * mtok_101) + ((mtxt mpos_101.toNatClampNeg).toInt64)) - 96) _ _ _ g74 (by omega) (by omega) (by (first | exact rn_in i101_2 (by omega) (knd_1 (by omega)) (by omega) | rfl)) (by (first | exact wv_s i101_3 (by omega) (by omega) (by omega) | exact Or.inl (by omega) | exact wv_0 rfl)) (by omega) hP hD hS (lv_sub hl [0] rfl)
                    · refine lv_if_eq (tgt := 191) hx hb dX10_nextToken_128 (by decide) (fun _ => ?_) (fun c9 => absurd (by decide) c9)
                      refine lv_aload_n hx hb dX10_nextToken_191 rfl (lv_at hl 0 rfl) ?_
                      refine lv_aload_n hx hb dX10_nextToken_192 rfl (lv_at hl 0 rfl) ?_
                      refine va_get (D := (dC, dI)) (ci := 10) (v := .int mpos_101) (C := RX10) (T := TX10) (N := 39) hx hb hts inX10 hown hK hP 0 rfl rfl 21 (by decide) lf146 (fun _ h9 => h9) rfl dX10_nextToken_193 ?_
                      refine lv_aload_n hx hb dX10_nextToken_196 rfl (lv_at hl 0 rfl) ?_
                      refine va_get (D := (dC, dI)) (ci := 10) (v := .int mpos_0) (C := RX10) (T := TX10) (N := 39) hx hb hts inX10 hown hK hP 0 rfl rfl 22 (by decide) lf149 (fun _ h9 => h9) rfl dX10_nextToken_197 ?_
                      refine lv_isub hx hb dX10_nextToken_200 ?_
                      have f75 : (mpos_101 - mpos_0).toInt = (mpos_101.toInt) - (mpos_0.toInt) := subC rfl rfl (by omega) (by omega)
                      refine lv_bipush (v := 9) hx hb dX10_nextToken_201 (by decide) ?_
                      refine lv_icmp_le (tgt := 212) hx hb dX10_nextToken_203 (by decide) (fun c76 => ?_) (fun c76 => ?_)
                      · have dc76 : (mpos_101.toInt) - (mpos_0.toInt) ≤ 9 := leC f75 (show (9 : Int32).toInt = 9 from rfl) c76
                        refine lv_aload_n hx hb dX10_nextToken_212 rfl (lv_at hl 0 rfl) ?_
                        refine va_get (D := (dC, dI)) (ci := 10) (v := .long mtok_101) (C := RX10) (T := TX10) (N := 39) hx hb hts inX10 hown hK hP 0 rfl rfl 23 (by decide) lf160 (fun _ h9 => h9) rfl dX10_nextToken_213 ?_
                        refine va_put (D := (dC, dI)) (ci := 10) (v := .long mtok_101) (ty := .long) (C := RX10) (T := TX10) (N := 39) hx hb hts inX10 tyX10 tyX10_ok nmX10 hown hK hP hD hS 0 rfl rfl 23 (by decide) lf160 (fun _ h9 => h9) rfl (by decide +kernel) rfl rfl (Nat.le_of_ble_eq_true rfl) dX10_nextToken_216 (fun H locs hP hD hS => ?_)
                        have hP : va_P (dC, dI) vwCl (wMdT cI cZ cQ b mday mdoo mtel mgai mbyt mtxt mpos_101 mpos_0 mtok_101 0 0 mfau mrdm mlin mbsm) H := hP
                        have hD : va_D A (wMdT cI cZ cQ b mday mdoo mtel mgai mbyt mtxt mpos_101 mpos_0 mtok_101 0 0 mfau mrdm mlin mbsm) := hD
                        refine lv_goto (tgt := 394) hx hb dX10_nextToken_219 (by decide) ?_
                        exact W.vret hx hb hr (fun tq ht hW => ⟨⟨(uS [(fun _ => mpos_101), (fun _ => mpos_0), (fun _ => 0), (fun _ => 0), (fun _ => 0)] mtok_101 (fun _ => 0)), rfl, ⟨(show mpos_101.toInt ≤ mbyt.toInt from by omega), (show 0 ≤ mpos_0.toInt from by omega), (show mpos_0.toInt ≤ mpos_101.toInt from by omega), (show mpos_0.toInt = tS mtxt mbyt.toInt mpos.toInt from by exact sk_out i0_1 (by omega)), (show mpos_101.toInt = tE mtxt mbyt.toInt mpos_0.toInt from by (first | exact tE_end (by omega) rfl | exact tE_runA (by omega) (knd_1 (by omega)) (by decide) i101_2 (by first | exact Or.inl (by omega) | exact Or.inr (knd_n1 (by omega))) | exact tE_runA (by omega) (knd_2 (by omega)) (by decide) i241_2 (by first | exact Or.inl (by omega) | exact Or.inr (knd_n2 (by omega))) | exact tE_oneC (by omega) (knd_3 (by omega) (by omega)).symm rfl (by omega))), (show mtok_101 = tkV mtxt mbyt.toInt mpos_0.toInt mpos_101.toInt from by (first | exact tv_end (by omega) | exact tv_let (by omega) (knd_1 (by omega)) i101_3 (by omega) | exact tv_let4 (by omega) (knd_1 (by omega)) (by omega) | exact tv_dig (by omega) (knd_2 (by omega)) (by omega) | exact tv_dig4 (by omega) (knd_2 (by omega)) (by omega) | exact tv_semi (by omega) (by omega) | exact tv_oth (by omega) (knd_3 (by omega) (by omega)) (by omega))), (show nmP mtxt mbyt.toInt mpos_0.toInt mpos_101.toInt 0 from by (first | exact nm_v (by omega) | exact nm_k (knd_1 (by omega)) (by decide) | exact nm_d i241_6 | exact nm_k (knd_3 (by omega) (by omega)) (by decide))), r_mpos_101⟩, by rw [ht]; exact hP, hD⟩, hS.F ht⟩) hS.2.2 dX10_nextToken_394
                      · have dc76 : 9 < (mpos_101.toInt) - (mpos_0.toInt) := nleC f75 (show (9 : Int32).toInt = 9 from rfl) c76
                        refine lv_ldc2 (v := (-4)) hx hb hown (hts (.constantLong RX10 168 (-4)) (List.mem_cons_of_mem _ (List.mem_append_left _ (List.mem_of_getElem? (i := 10) rfl)))) dX10_nextToken_206 ?_
                        refine lv_goto (tgt := 216) hx hb dX10_nextToken_209 (by decide) ?_
                        refine va_put (D := (dC, dI)) (ci := 10) (v := .long (-4)) (ty := .long) (C := RX10) (T := TX10) (N := 39) hx hb hts inX10 tyX10 tyX10_ok nmX10 hown hK hP hD hS 0 rfl rfl 23 (by decide) lf160 (fun _ h9 => h9) rfl (by decide +kernel) rfl rfl (Nat.le_of_ble_eq_true rfl) dX10_nextToken_216 (fun H locs hP hD hS => ?_)
                        have hP : va_P (dC, dI) vwCl (wMdT cI cZ cQ b mday mdoo mtel mgai mbyt mtxt mpos_101 mpos_0 (-4) 0 0 mfau mrdm mlin mbsm) H := hP
                        have hD : va_D A (wMdT cI cZ cQ b mday mdoo mtel mgai mbyt mtxt mpos_101 mpos_0 (-4) 0 0 mfau mrdm mlin mbsm) := hD
                        refine lv_goto (tgt := 394) hx hb dX10_nextToken_219 (by decide) ?_
                        exact W.vret hx hb hr (fun tq ht hW => ⟨⟨(uS [(fun _ => mpos_101), (fun _ => mpos_0), (fun _ => 0), (fun _ => 0), (fun _ => 0)] (-4) (fun _ => 0)), rfl, ⟨(show mpos_101.toInt ≤ mbyt.toInt from by omega), (show 0 ≤ mpos_0.toInt from by omega), (show mpos_0.toInt ≤ mpos_101.toInt from by omega), (show mpos_0.toInt = tS mtxt mbyt.toInt mpos.toInt from by exact sk_out i0_1 (by omega)), (show mpos_101.toInt = tE mtxt mbyt.toInt mpos_0.toInt from by (first | exact tE_end (by omega) rfl | exact tE_runA (by omega) (knd_1 (by omega)) (by decide) i101_2 (by first | exact Or.inl (by omega) | exact Or.inr (knd_n1 (by omega))) | exact tE_runA (by omega) (knd_2 (by omega)) (by decide) i241_2 (by first | exact Or.inl (by omega) | exact Or.inr (knd_n2 (by omega))) | exact tE_oneC (by omega) (knd_3 (by omega) (by omega)).symm rfl (by omega))), (show (-4) = tkV mtxt mbyt.toInt mpos_0.toInt mpos_101.toInt from by (first | exact tv_end (by omega) | exact tv_let (by omega) (knd_1 (by omega)) i101_3 (by omega) | exact tv_let4 (by omega) (knd_1 (by omega)) (by omega) | exact tv_dig (by omega) (knd_2 (by omega)) (by omega) | exact tv_dig4 (by omega) (knd_2 (by omega)) (by omega) | exact tv_semi (by omega) (by omega) | exact tv_oth (by omega) (knd_3 (by omega) (by omega)) (by omega))), (show nmP mtxt mbyt.toInt mpos_0.toInt mpos_101.toInt 0 from by (first | exact nm_v (by omega) | exact nm_k (knd_1 (by omega)) (by decide) | exact nm_d i241_6 | exact nm_k (knd_3 (by omega) (by omega)) (by decide))), r_mpos_101⟩, by rw [ht]; exact hP, hD⟩, hS.F ht⟩) hS.2.2 dX10_nextToken_394
              exact L101 _ mpos_0 0 _ _ _ r_mpos_0 (by omega) (by omega) (by (first | exact rn_in i101_2 (by omega) (knd_1 (by omega)) (by omega) | rfl)) (by (first | exact wv_s i101_3 (by omega) (by omega) (by omega) | exact Or.inl (by omega) | exact wv_0 rfl)) (Nat.lt_succ_self _) hP hD hS (lv_sub hl [0] rfl)
            · refine lv_if_eq (tgt := 222) hx hb dX10_nextToken_93 (by decide) (fun _ => ?_) (fun c9 => absurd (by decide) c9)
              refine lv_aload_n hx hb dX10_nextToken_222 rfl (lv_at hl 0 rfl) ?_
              refine va_get (D := (dC, dI)) (ci := 10) (v := .ref (b 20)) (C := RX10) (T := TX10) (N := 39) hx hb hts inX10 hown hK hP 0 rfl rfl 20 (by decide) lf62 (fun _ h9 => h9) rfl dX10_nextToken_223 ?_
              refine lv_aload_n hx hb dX10_nextToken_226 rfl (lv_at hl 0 rfl) ?_
              refine va_get (D := (dC, dI)) (ci := 10) (v := .int mpos_0) (C := RX10) (T := TX10) (N := 39) hx hb hts inX10 hown hK hP 0 rfl rfl 21 (by decide) lf146 (fun _ h9 => h9) rfl dX10_nextToken_227 ?_
              have b77 : vp_in mpos_0 160 := inC rfl (by omega) (by omega)
              refine va_iald hx hb hK hP 1 0 rfl rfl b77 dX10_nextToken_230 ?_
              refine lv_bipush (v := 48) hx hb dX10_nextToken_231 (by decide) ?_
              refine lv_bipush (v := 57) hx hb dX10_nextToken_233 (by decide) ?_
              refine rdS (As := [.int (mtxt mpos_0.toNatClampNeg), .int 48, .int 57]) (rest := []) ⟨hx, hb, hml, hown, hts⟩ (k_X10_in l dC dI cI cZ cQ (mtxt mpos_0.toNatClampNeg) (48 : Int32) (57 : Int32)) (va_cwS 3 hts gX10_nextToken_X10_in rfl rfl rfl (by decide +kernel) ⟨Nat.le_of_ble_eq_true rfl, Nat.le_of_ble_eq_true rfl⟩) hP hK hN [] rfl rfl hl.1 rfl (Nat.le_of_ble_eq_true rfl) dX10_nextToken_235 ⟨Nat.le_of_ble_eq_true rfl, Nat.le_of_ble_eq_true rfl⟩ (fun r78 h79 => ?_)
              have h79 : ((((r78 = 1) ∧ ((48) ≤ (mtxt mpos_0.toNatClampNeg).toInt) ∧ ((mtxt mpos_0.toNatClampNeg).toInt ≤ (57))) ∨ ((r78 = 0) ∧ ((mtxt mpos_0.toNatClampNeg).toInt < (48) ∨ (57) < (mtxt mpos_0.toNatClampNeg).toInt)))) := h79
              rcases h79 with (⟨rfl, h79_a0, h79_a1⟩ | ⟨rfl, h79_a0⟩)
              · refine lv_if_eq (tgt := 357) hx hb dX10_nextToken_238 (by decide) (fun c9 => absurd c9 (by decide)) (fun _ => ?_)
                have L241 : ∀ (nn : Nat) (mpos_241 : Int32) (mdig_241 : Int32) (mnum_241 : Int32) (H : Heap) (locs : List Loc) (ls : Array Slot), (0 ≤ mpos_241.toInt ∧ mpos_241.toInt ≤ 160) → (mpos_241.toInt ≤ mbyt.toInt) → (mpos_0.toInt ≤ mpos_241.toInt) → (tR mtxt 2 mbyt.toInt mpos_241.toInt = tR mtxt 2 mbyt.toInt mpos_0.toInt) → (mdig_241.toInt = mpos_241.toInt - mpos_0.toInt) → (0 ≤ mdig_241.toInt) → (mdig_241.toInt ≤ 160) → (2 < mpos_241.toInt - mpos_0.toInt ∨ mnum_241 = nvF mtxt mpos_0.toInt (mpos_241.toInt - mpos_0.toInt).toNat) → (mbyt.toInt - mpos_241.toInt).toNat < nn → va_P (dC, dI) vwCl (wMdT cI cZ cQ b mday mdoo mtel mgai mbyt mtxt mpos_241 mpos_0 mtok mdig_241 mnum_241 mfau mrdm mlin mbsm) H → va_D A (wMdT cI cZ cQ b mday mdoo mtel mgai mbyt mtxt mpos_241 mpos_0 mtok mdig_241 mnum_241 mfau mrdm mlin mbsm) → va_S A s.heap H locs → lv_has ls 1 [(0, .ref (b 39))] → W p l e (headSpec wsX10_nextToken { frames := 1, cells := 0, slots := 0, locals := 22 }).room s m ([.ref (b 39)] : List Value).toArray below meth c H locs 0 0 (MQ below (va_Qv (fun (u : US) => ((u.1 0 0).toInt ≤ mbyt.toInt) ∧ (0 ≤ (u.1 1 0).toInt) ∧ ((u.1 1 0).toInt ≤ (u.1 0 0).toInt) ∧ ((u.1 1 0).toInt = tS mtxt mbyt.toInt mpos.toInt) ∧ ((u.1 0 0).toInt = tE mtxt mbyt.toInt (u.1 1 0).toInt) ∧ (u.2.1 = tkV mtxt mbyt.toInt (u.1 1 0).toInt (u.1 0 0).toInt) ∧ (nmP mtxt mbyt.toInt (u.1 1 0).toInt (u.1 0 0).toInt (u.1 4 0)) ∧ (0 ≤ (u.1 0 0).toInt ∧ (u.1 0 0).toInt ≤ 160)) (Bw (dC, dI) A (fun u : US => (wMdT cI cZ cQ b mday mdoo mtel mgai mbyt mtxt (u.1 0 0) (u.1 1 0) u.2.1 (u.1 3 0) (u.1 4 0) mfau mrdm mlin mbsm))) A) ([.ref (b 39)] : List Value).toArray s 0 0 A) (F0 m 241 ls []) := by
                  intro nn
                  induction nn with
                  | zero =>
                    intro mpos_241 mdig_241 mnum_241 H locs ls r_mpos_241 i241_0 i241_1 i241_2 i241_3 i241_4 i241_5 i241_6 hm241
                    exact absurd hm241 (Nat.not_lt_zero _)
                  | succ nn ih241 =>
                    intro mpos_241 mdig_241 mnum_241 H locs ls r_mpos_241 i241_0 i241_1 i241_2 i241_3 i241_4 i241_5 i241_6 hm241 hP hD hS hl
                    refine lv_aload_n hx hb dX10_nextToken_241 rfl (lv_at hl 0 rfl) ?_
                    refine va_get (D := (dC, dI)) (ci := 10) (v := .int mpos_241) (C := RX10) (T := TX10) (N := 39) hx hb hts inX10 hown hK hP 0 rfl rfl 21 (by decide) lf146 (fun _ h9 => h9) rfl dX10_nextToken_242 ?_
                    refine lv_aload_n hx hb dX10_nextToken_245 rfl (lv_at hl 0 rfl) ?_
                    refine va_get (D := (dC, dI)) (ci := 10) (v := .int mbyt) (C := RX10) (T := TX10) (N := 39) hx hb hts inX10 hown hK hP 0 rfl rfl 19 (by decide) lf141 (fun _ h9 => h9) rfl dX10_nextToken_246 ?_
                    refine lv_icmp_ge (tgt := 333) hx hb dX10_nextToken_249 (by decide) (fun c80 => ?_) (fun c80 => ?_)
                    · have dc80 : mbyt.toInt ≤ mpos_241.toInt := leC rfl rfl c80
                      refine lv_aload_n hx hb dX10_nextToken_333 rfl (lv_at hl 0 rfl) ?_
                      refine lv_aload_n hx hb dX10_nextToken_334 rfl (lv_at hl 0 rfl) ?_
                      refine va_get (D := (dC, dI)) (ci := 10) (v := .int mdig_241) (C := RX10) (T := TX10) (N := 39) hx hb hts inX10 hown hK hP 0 rfl rfl 24 (by decide) lf152 (fun _ h9 => h9) rfl dX10_nextToken_335 ?_
                      refine lv_iconst (v := 2) hx hb dX10_nextToken_338 (by decide) ?_
                      refine lv_icmp_le (tgt := 348) hx hb dX10_nextToken_339 (by decide) (fun c81 => ?_) (fun c81 => ?_)
                      · have dc81 : mdig_241.toInt ≤ 2 := leC rfl (show (2 : Int32).toInt = 2 from rfl) c81
                        refine lv_ldc2 (v := (-1)) hx hb hown (hts (.constantLong RX10 170 (-1)) (List.mem_cons_of_mem _ (List.mem_append_left _ (List.mem_of_getElem? (i := 11) rfl)))) dX10_nextToken_348 ?_
                        refine va_put (D := (dC, dI)) (ci := 10) (v := .long (-1)) (ty := .long) (C := RX10) (T := TX10) (N := 39) hx hb hts inX10 tyX10 tyX10_ok nmX10 hown hK hP hD hS 0 rfl rfl 23 (by decide) lf160 (fun _ h9 => h9) rfl (by decide +kernel) rfl rfl (Nat.le_of_ble_eq_true rfl) dX10_nextToken_351 (fun H locs hP hD hS => ?_)
                        have hP : va_P (dC, dI) vwCl (wMdT cI cZ cQ b mday mdoo mtel mgai mbyt mtxt mpos_241 mpos_0 (-1) mdig_241 mnum_241 mfau mrdm mlin mbsm) H := hP
                        have hD : va_D A (wMdT cI cZ cQ b mday mdoo mtel mgai mbyt mtxt mpos_241 mpos_0 (-1) mdig_241 mnum_241 mfau mrdm mlin mbsm) := hD
                        refine lv_goto (tgt := 394) hx hb dX10_nextToken_354 (by decide) ?_
                        exact W.vret hx hb hr (fun tq ht hW => ⟨⟨(uS [(fun _ => mpos_241), (fun _ => mpos_0), (fun _ => 0), (fun _ => mdig_241), (fun _ => mnum_241)] (-1) (fun _ => 0)), rfl, ⟨(show mpos_241.toInt ≤ mbyt.toInt from by omega), (show 0 ≤ mpos_0.toInt from by omega), (show mpos_0.toInt ≤ mpos_241.toInt from by omega), (show mpos_0.toInt = tS mtxt mbyt.toInt mpos.toInt from by exact sk_out i0_1 (by omega)), (show mpos_241.toInt = tE mtxt mbyt.toInt mpos_0.toInt from by (first | exact tE_end (by omega) rfl | exact tE_runA (by omega) (knd_1 (by omega)) (by decide) i101_2 (by first | exact Or.inl (by omega) | exact Or.inr (knd_n1 (by omega))) | exact tE_runA (by omega) (knd_2 (by omega)) (by decide) i241_2 (by first | exact Or.inl (by omega) | exact Or.inr (knd_n2 (by omega))) | exact tE_oneC (by omega) (knd_3 (by omega) (by omega)).symm rfl (by omega))), (show (-1) = tkV mtxt mbyt.toInt mpos_0.toInt mpos_241.toInt from by (first | exact tv_end (by omega) | exact tv_let (by omega) (knd_1 (by omega)) i101_3 (by omega) | exact tv_let4 (by omega) (knd_1 (by omega)) (by omega) | exact tv_dig (by omega) (knd_2 (by omega)) (by omega) | exact tv_dig4 (by omega) (knd_2 (by omega)) (by omega) | exact tv_semi (by omega) (by omega) | exact tv_oth (by omega) (knd_3 (by omega) (by omega)) (by omega))), (show nmP mtxt mbyt.toInt mpos_0.toInt mpos_241.toInt mnum_241 from by (first | exact nm_v (by omega) | exact nm_k (knd_1 (by omega)) (by decide) | exact nm_d i241_6 | exact nm_k (knd_3 (by omega) (by omega)) (by decide))), r_mpos_241⟩, by rw [ht]; exact hP, hD⟩, hS.F ht⟩) hS.2.2 dX10_nextToken_394
                      · have dc81 : 2 < mdig_241.toInt := nleC rfl (show (2 : Int32).toInt = 2 from rfl) c81
                        refine lv_ldc2 (v := (-4)) hx hb hown (hts (.constantLong RX10 168 (-4)) (List.mem_cons_of_mem _ (List.mem_append_left _ (List.mem_of_getElem? (i := 10) rfl)))) dX10_nextToken_342 ?_
                        refine lv_goto (tgt := 351) hx hb dX10_nextToken_345 (by decide) ?_
                        refine va_put (D := (dC, dI)) (ci := 10) (v := .long (-4)) (ty := .long) (C := RX10) (T := TX10) (N := 39) hx hb hts inX10 tyX10 tyX10_ok nmX10 hown hK hP hD hS 0 rfl rfl 23 (by decide) lf160 (fun _ h9 => h9) rfl (by decide +kernel) rfl rfl (Nat.le_of_ble_eq_true rfl) dX10_nextToken_351 (fun H locs hP hD hS => ?_)
                        have hP : va_P (dC, dI) vwCl (wMdT cI cZ cQ b mday mdoo mtel mgai mbyt mtxt mpos_241 mpos_0 (-4) mdig_241 mnum_241 mfau mrdm mlin mbsm) H := hP
                        have hD : va_D A (wMdT cI cZ cQ b mday mdoo mtel mgai mbyt mtxt mpos_241 mpos_0 (-4) mdig_241 mnum_241 mfau mrdm mlin mbsm) := hD
                        refine lv_goto (tgt := 394) hx hb dX10_nextToken_354 (by decide) ?_
                        exact W.vret hx hb hr (fun tq ht hW => ⟨⟨(uS [(fun _ => mpos_241), (fun _ => mpos_0), (fun _ => 0), (fun _ => mdig_241), (fun _ => mnum_241)] (-4) (fun _ => 0)), rfl, ⟨(show mpos_241.toInt ≤ mbyt.toInt from by omega), (show 0 ≤ mpos_0.toInt from by omega), (show mpos_0.toInt ≤ mpos_241.toInt from by omega), (show mpos_0.toInt = tS mtxt mbyt.toInt mpos.toInt from by exact sk_out i0_1 (by omega)), (show mpos_241.toInt = tE mtxt mbyt.toInt mpos_0.toInt from by (first | exact tE_end (by omega) rfl | exact tE_runA (by omega) (knd_1 (by omega)) (by decide) i101_2 (by first | exact Or.inl (by omega) | exact Or.inr (knd_n1 (by omega))) | exact tE_runA (by omega) (knd_2 (by omega)) (by decide) i241_2 (by first | exact Or.inl (by omega) | exact Or.inr (knd_n2 (by omega))) | exact tE_oneC (by omega) (knd_3 (by omega) (by omega)).symm rfl (by omega))), (show (-4) = tkV mtxt mbyt.toInt mpos_0.toInt mpos_241.toInt from by (first | exact tv_end (by omega) | exact tv_let (by omega) (knd_1 (by omega)) i101_3 (by omega) | exact tv_let4 (by omega) (knd_1 (by omega)) (by omega) | exact tv_dig (by omega) (knd_2 (by omega)) (by omega) | exact tv_dig4 (by omega) (knd_2 (by omega)) (by omega) | exact tv_semi (by omega) (by omega) | exact tv_oth (by omega) (knd_3 (by omega) (by omega)) (by omega))), (show nmP mtxt mbyt.toInt mpos_0.toInt mpos_241.toInt mnum_241 from by (first | exact nm_v (by omega) | exact nm_k (knd_1 (by omega)) (by decide) | exact nm_d i241_6 | exact nm_k (knd_3 (by omega) (by omega)) (by decide))), r_mpos_241⟩, by rw [ht]; exact hP, hD⟩, hS.F ht⟩) hS.2.2 dX10_nextToken_394
                    · have dc80 : mpos_241.toInt < mbyt.toInt := nleC rfl rfl c80
                      refine lv_aload_n hx hb dX10_nextToken_252 rfl (lv_at hl 0 rfl) ?_
                      refine va_get (D := (dC, dI)) (ci := 10) (v := .ref (b 20)) (C := RX10) (T := TX10) (N := 39) hx hb hts inX10 hown hK hP 0 rfl rfl 20 (by decide) lf62 (fun _ h9 => h9) rfl dX10_nextToken_253 ?_
                      refine lv_aload_n hx hb dX10_nextToken_256 rfl (lv_at hl 0 rfl) ?_
                      refine va_get (D := (dC, dI)) (ci := 10) (v := .int mpos_241) (C := RX10) (T := TX10) (N := 39) hx hb hts inX10 hown hK hP 0 rfl rfl 21 (by decide) lf146 (fun _ h9 => h9) rfl dX10_nextToken_257 ?_
                      have b82 : vp_in mpos_241 160 := inC rfl (by omega) (by omega)
                      refine va_iald hx hb hK hP 1 0 rfl rfl b82 dX10_nextToken_260 ?_
                      refine lv_bipush (v := 48) hx hb dX10_nextToken_261 (by decide) ?_
                      refine lv_bipush (v := 57) hx hb dX10_nextToken_263 (by decide) ?_
                      refine rdS (As := [.int (mtxt mpos_241.toNatClampNeg), .int 48, .int 57]) (rest := []) ⟨hx, hb, hml, hown, hts⟩ (k_X10_in l dC dI cI cZ cQ (mtxt mpos_241.toNatClampNeg) (48 : Int32) (57 : Int32)) (va_cwS 3 hts gX10_nextToken_X10_in rfl rfl rfl (by decide +kernel) ⟨Nat.le_of_ble_eq_true rfl, Nat.le_of_ble_eq_true rfl⟩) hP hK hN [] rfl rfl hl.1 rfl (Nat.le_of_ble_eq_true rfl) dX10_nextToken_265 ⟨Nat.le_of_ble_eq_true rfl, Nat.le_of_ble_eq_true rfl⟩ (fun r83 h84 => ?_)
                      have h84 : ((((r83 = 1) ∧ ((48) ≤ (mtxt mpos_241.toNatClampNeg).toInt) ∧ ((mtxt mpos_241.toNatClampNeg).toInt ≤ (57))) ∨ ((r83 = 0) ∧ ((mtxt mpos_241.toNatClampNeg).toInt < (48) ∨ (57) < (mtxt mpos_241.toNatClampNeg).toInt)))) := h84
                      rcases h84 with (⟨rfl, h84_a0, h84_a1⟩ | ⟨rfl, h84_a0⟩)
                      · refine lv_if_eq (tgt := 333) hx hb dX10_nextToken_268 (by decide) (fun c9 => absurd c9 (by decide)) (fun _ => ?_)
                        refine lv_aload_n hx hb dX10_nextToken_271 rfl (lv_at hl 0 rfl) ?_
                        refine lv_aload_n hx hb dX10_nextToken_272 rfl (lv_at hl 0 rfl) ?_
                        refine va_get (D := (dC, dI)) (ci := 10) (v := .int mdig_241) (C := RX10) (T := TX10) (N := 39) hx hb hts inX10 hown hK hP 0 rfl rfl 24 (by decide) lf152 (fun _ h9 => h9) rfl dX10_nextToken_273 ?_
                        refine lv_iconst (v := 2) hx hb dX10_nextToken_276 (by decide) ?_
                        refine lv_icmp_ge (tgt := 303) hx hb dX10_nextToken_277 (by decide) (fun c85 => ?_) (fun c85 => ?_)
                        · have dc85 : 2 ≤ mdig_241.toInt := leC (show (2 : Int32).toInt = 2 from rfl) rfl c85
                          refine lv_aload_n hx hb dX10_nextToken_303 rfl (lv_at hl 0 rfl) ?_
                          refine va_get (D := (dC, dI)) (ci := 10) (v := .int mnum_241) (C := RX10) (T := TX10) (N := 39) hx hb hts inX10 hown hK hP 0 rfl rfl 25 (by decide) lf155 (fun _ h9 => h9) rfl dX10_nextToken_304 ?_
                          refine va_put (D := (dC, dI)) (ci := 10) (v := .int mnum_241) (ty := .int) (C := RX10) (T := TX10) (N := 39) hx hb hts inX10 tyX10 tyX10_ok nmX10 hown hK hP hD hS 0 rfl rfl 25 (by decide) lf155 (fun _ h9 => h9) rfl (by decide +kernel) rfl rfl (Nat.le_of_ble_eq_true rfl) dX10_nextToken_307 (fun H locs hP hD hS => ?_)
                          have hP : va_P (dC, dI) vwCl (wMdT cI cZ cQ b mday mdoo mtel mgai mbyt mtxt mpos_241 mpos_0 mtok mdig_241 mnum_241 mfau mrdm mlin mbsm) H := hP
                          have hD : va_D A (wMdT cI cZ cQ b mday mdoo mtel mgai mbyt mtxt mpos_241 mpos_0 mtok mdig_241 mnum_241 mfau mrdm mlin mbsm) := hD
                          refine lv_aload_n hx hb dX10_nextToken_310 rfl (lv_at hl 0 rfl) ?_
                          refine lv_dup hx hb dX10_nextToken_311 rfl ?_
                          refine va_get (D := (dC, dI)) (ci := 10) (v := .int mdig_241) (C := RX10) (T := TX10) (N := 39) hx hb hts inX10 hown hK hP 0 rfl rfl 24 (by decide) lf152 (fun _ h9 => h9) rfl dX10_nextToken_312 ?_
                          refine lv_iconst (v := 1) hx hb dX10_nextToken_315 (by decide) ?_
                          refine lv_iadd hx hb dX10_nextToken_316 ?_
                          have f86 : (mdig_241 + 1).toInt = (mdig_241.toInt) + (1) := addC rfl (show (1 : Int32).toInt = 1 from rfl) (by omega) (by omega)
                          refine lv_topi (fun x87 ex87 => ?_)
                          have ix87 : x87.toInt = (mdig_241.toInt) + (1) := by rw [ex87]; exact f86
                          refine va_put (D := (dC, dI)) (ci := 10) (v := .int x87) (ty := .int) (C := RX10) (T := TX10) (N := 39) hx hb hts inX10 tyX10 tyX10_ok nmX10 hown hK hP hD hS 0 rfl rfl 24 (by decide) lf152 (fun _ h9 => h9) rfl (by decide +kernel) rfl rfl (Nat.le_of_ble_eq_true rfl) dX10_nextToken_317 (fun H locs hP hD hS => ?_)
                          have hP : va_P (dC, dI) vwCl (wMdT cI cZ cQ b mday mdoo mtel mgai mbyt mtxt mpos_241 mpos_0 mtok x87 mnum_241 mfau mrdm mlin mbsm) H := hP
                          have hD : va_D A (wMdT cI cZ cQ b mday mdoo mtel mgai mbyt mtxt mpos_241 mpos_0 mtok x87 mnum_241 mfau mrdm mlin mbsm) := hD
                          refine lv_aload_n hx hb dX10_nextToken_320 rfl (lv_at hl 0 rfl) ?_
                          refine lv_dup hx hb dX10_nextToken_321 rfl ?_
                          refine va_get (D := (dC, dI)) (ci := 10) (v := .int mpos_241) (C := RX10) (T := TX10) (N := 39) hx hb hts inX10 hown hK hP 0 rfl rfl 21 (by decide) lf146 (fun _ h9 => h9) rfl dX10_nextToken_322 ?_
                          refine lv_iconst (v := 1) hx hb dX10_nextToken_325 (by decide) ?_
                          refine lv_iadd hx hb dX10_nextToken_326 ?_
                          have f88 : (mpos_241 + 1).toInt = (mpos_241.toInt) + (1) := addC rfl (show (1 : Int32).toInt = 1 from rfl) (by omega) (by omega)
                          refine lv_topi (fun x89 ex89 => ?_)
                          have ix89 : x89.toInt = (mpos_241.toInt) + (1) := by rw [ex89]; exact f88
                          refine va_put (D := (dC, dI)) (ci := 10) (v := .int x89) (ty := .int) (C := RX10) (T := TX10) (N := 39) hx hb hts inX10 tyX10 tyX10_ok nmX10 hown hK hP hD hS 0 rfl rfl 21 (by decide) lf146 (fun _ h9 => h9) rfl (by decide +kernel) rfl rfl (Nat.le_of_ble_eq_true rfl) dX10_nextToken_327 (fun H locs hP hD hS => ?_)
                          have g90 : 0 ≤ x89.toInt ∧ x89.toInt ≤ 160 := by rw [show x89.toInt = x89.toInt from rfl]; exact ⟨by omega, by omega⟩
                          have hP : va_P (dC, dI) vwCl (wMdT cI cZ cQ b mday mdoo mtel mgai mbyt mtxt x89 mpos_0 mtok x87 mnum_241 mfau mrdm mlin mbsm) H := hP
                          have hD : va_D A (wMdT cI cZ cQ b mday mdoo mtel mgai mbyt mtxt x89 mpos_0 mtok x87 mnum_241 mfau mrdm mlin mbsm) := hD
                          refine lv_goto (tgt := 241) hx hb dX10_nextToken_330 (by decide) ?_
                          exact ih241 x89 x87 mnum_241 _ _ _ g90 (by omega) (by omega) (by (first | exact rn_in i241_2 (by omega) (knd_2 (by omega)) (by omega) | rfl)) (by omega) (by omega) (by omega) (by (first | exact nv_s i241_6 (by omega) (by omega) (by omega) (by assumption) | exact Or.inl (by omega) | exact nv_0 rfl rfl)) (by omega) hP hD hS (lv_sub hl [0] rfl)
                        · have dc85 : mdig_241.toInt < 2 := nleC (show (2 : Int32).toInt = 2 from rfl) rfl c85
                          refine lv_bipush (v := 10) hx hb dX10_nextToken_280 (by decide) ?_
                          refine lv_aload_n hx hb dX10_nextToken_282 rfl (lv_at hl 0 rfl) ?_
                          refine va_get (D := (dC, dI)) (ci := 10) (v := .int mnum_241) (C := RX10) (T := TX10) (N := 39) hx hb hts inX10 hown hK hP 0 rfl rfl 25 (by decide) lf155 (fun _ h9 => h9) rfl dX10_nextToken_283 ?_
                          refine lv_imul hx hb dX10_nextToken_286 ?_
                          refine lv_aload_n hx hb dX10_nextToken_287 rfl (lv_at hl 0 rfl) ?_
                          refine va_get (D := (dC, dI)) (ci := 10) (v := .ref (b 20)) (C := RX10) (T := TX10) (N := 39) hx hb hts inX10 hown hK hP 0 rfl rfl 20 (by decide) lf62 (fun _ h9 => h9) rfl dX10_nextToken_288 ?_
                          refine lv_aload_n hx hb dX10_nextToken_291 rfl (lv_at hl 0 rfl) ?_
                          refine va_get (D := (dC, dI)) (ci := 10) (v := .int mpos_241) (C := RX10) (T := TX10) (N := 39) hx hb hts inX10 hown hK hP 0 rfl rfl 21 (by decide) lf146 (fun _ h9 => h9) rfl dX10_nextToken_292 ?_
                          have b91 : vp_in mpos_241 160 := inC rfl (by omega) (by omega)
                          refine va_iald hx hb hK hP 1 0 rfl rfl b91 dX10_nextToken_295 ?_
                          refine lv_iadd hx hb dX10_nextToken_296 ?_
                          refine lv_bipush (v := 48) hx hb dX10_nextToken_297 (by decide) ?_
                          refine lv_isub hx hb dX10_nextToken_299 ?_
                          refine lv_goto (tgt := 307) hx hb dX10_nextToken_300 (by decide) ?_
                          refine lv_topi (fun x92 ex92 => ?_)
                          have ix92 : x92.toInt = (((10 * mnum_241) + (mtxt mpos_241.toNatClampNeg)) - 48).toInt := by rw [ex92]
                          refine va_put (D := (dC, dI)) (ci := 10) (v := .int x92) (ty := .int) (C := RX10) (T := TX10) (N := 39) hx hb hts inX10 tyX10 tyX10_ok nmX10 hown hK hP hD hS 0 rfl rfl 25 (by decide) lf155 (fun _ h9 => h9) rfl (by decide +kernel) rfl rfl (Nat.le_of_ble_eq_true rfl) dX10_nextToken_307 (fun H locs hP hD hS => ?_)
                          have hP : va_P (dC, dI) vwCl (wMdT cI cZ cQ b mday mdoo mtel mgai mbyt mtxt mpos_241 mpos_0 mtok mdig_241 x92 mfau mrdm mlin mbsm) H := hP
                          have hD : va_D A (wMdT cI cZ cQ b mday mdoo mtel mgai mbyt mtxt mpos_241 mpos_0 mtok mdig_241 x92 mfau mrdm mlin mbsm) := hD
                          refine lv_aload_n hx hb dX10_nextToken_310 rfl (lv_at hl 0 rfl) ?_
                          refine lv_dup hx hb dX10_nextToken_311 rfl ?_
                          refine va_get (D := (dC, dI)) (ci := 10) (v := .int mdig_241) (C := RX10) (T := TX10) (N := 39) hx hb hts inX10 hown hK hP 0 rfl rfl 24 (by decide) lf152 (fun _ h9 => h9) rfl dX10_nextToken_312 ?_
                          refine lv_iconst (v := 1) hx hb dX10_nextToken_315 (by decide) ?_
                          refine lv_iadd hx hb dX10_nextToken_316 ?_
                          have f93 : (mdig_241 + 1).toInt = (mdig_241.toInt) + (1) := addC rfl (show (1 : Int32).toInt = 1 from rfl) (by omega) (by omega)
                          refine lv_topi (fun x94 ex94 => ?_)
                          have ix94 : x94.toInt = (mdig_241.toInt) + (1) := by rw [ex94]; exact f93
                          refine va_put (D := (dC, dI)) (ci := 10) (v := .int x94) (ty := .int) (C := RX10) (T := TX10) (N := 39) hx hb hts inX10 tyX10 tyX10_ok nmX10 hown hK hP hD hS 0 rfl rfl 24 (by decide) lf152 (fun _ h9 => h9) rfl (by decide +kernel) rfl rfl (Nat.le_of_ble_eq_true rfl) dX10_nextToken_317 (fun H locs hP hD hS => ?_)
                          have hP : va_P (dC, dI) vwCl (wMdT cI cZ cQ b mday mdoo mtel mgai mbyt mtxt mpos_241 mpos_0 mtok x94 x92 mfau mrdm mlin mbsm) H := hP
                          have hD : va_D A (wMdT cI cZ cQ b mday mdoo mtel mgai mbyt mtxt mpos_241 mpos_0 mtok x94 x92 mfau mrdm mlin mbsm) := hD
                          refine lv_aload_n hx hb dX10_nextToken_320 rfl (lv_at hl 0 rfl) ?_
                          refine lv_dup hx hb dX10_nextToken_321 rfl ?_
                          refine va_get (D := (dC, dI)) (ci := 10) (v := .int mpos_241) (C := RX10) (T := TX10) (N := 39) hx hb hts inX10 hown hK hP 0 rfl rfl 21 (by decide) lf146 (fun _ h9 => h9) rfl dX10_nextToken_322 ?_
                          refine lv_iconst (v := 1) hx hb dX10_nextToken_325 (by decide) ?_
                          refine lv_iadd hx hb dX10_nextToken_326 ?_
                          have f95 : (mpos_241 + 1).toInt = (mpos_241.toInt) + (1) := addC rfl (show (1 : Int32).toInt = 1 from rfl) (by omega) (by omega)
                          refine lv_topi (fun x96 ex96 => ?_)
                          have ix96 : x96.toInt = (mpos_241.toInt) + (1) := by rw [ex96]; exact f95
                          refine va_put (D := (dC, dI)) (ci := 10) (v := .int x96) (ty := .int) (C := RX10) (T := TX10) (N := 39) hx hb hts inX10 tyX10 tyX10_ok nmX10 hown hK hP hD hS 0 rfl rfl 21 (by decide) lf146 (fun _ h9 => h9) rfl (by decide +kernel) rfl rfl (Nat.le_of_ble_eq_true rfl) dX10_nextToken_327 (fun H locs hP hD hS => ?_)
                          have g97 : 0 ≤ x96.toInt ∧ x96.toInt ≤ 160 := by rw [show x96.toInt = x96.toInt from rfl]; exact ⟨by omega, by omega⟩
                          have hP : va_P (dC, dI) vwCl (wMdT cI cZ cQ b mday mdoo mtel mgai mbyt mtxt x96 mpos_0 mtok x94 x92 mfau mrdm mlin mbsm) H := hP
                          have hD : va_D A (wMdT cI cZ cQ b mday mdoo mtel mgai mbyt mtxt x96 mpos_0 mtok x94 x92 mfau mrdm mlin mbsm) := hD
                          refine lv_goto (tgt := 241) hx hb dX10_nextToken_330 (by decide) ?_
                          exact ih241 x96 x94 x92 _ _ _ g97 (by omega) (by omega) (by (first | exact rn_in i241_2 (by omega) (knd_2 (by omega)) (by omega) | rfl)) (by omega) (by omega) (by omega) (by (first | exact nv_s i241_6 (by omega) (by omega) (by omega) (by assumption) | exact Or.inl (by omega) | exact nv_0 rfl rfl)) (by omega) hP hD hS (lv_sub hl [0] rfl)
                      · refine lv_if_eq (tgt := 333) hx hb dX10_nextToken_268 (by decide) (fun _ => ?_) (fun c9 => absurd (by decide) c9)
                        refine lv_aload_n hx hb dX10_nextToken_333 rfl (lv_at hl 0 rfl) ?_
                        refine lv_aload_n hx hb dX10_nextToken_334 rfl (lv_at hl 0 rfl) ?_
                        refine va_get (D := (dC, dI)) (ci := 10) (v := .int mdig_241) (C := RX10) (T := TX10) (N := 39) hx hb hts inX10 hown hK hP 0 rfl rfl 24 (by decide) lf152 (fun _ h9 => h9) rfl dX10_nextToken_335 ?_
                        refine lv_iconst (v := 2) hx hb dX10_nextToken_338 (by decide) ?_
                        refine lv_icmp_le (tgt := 348) hx hb dX10_nextToken_339 (by decide) (fun c98 => ?_) (fun c98 => ?_)
                        · have dc98 : mdig_241.toInt ≤ 2 := leC rfl (show (2 : Int32).toInt = 2 from rfl) c98
                          refine lv_ldc2 (v := (-1)) hx hb hown (hts (.constantLong RX10 170 (-1)) (List.mem_cons_of_mem _ (List.mem_append_left _ (List.mem_of_getElem? (i := 11) rfl)))) dX10_nextToken_348 ?_
                          refine va_put (D := (dC, dI)) (ci := 10) (v := .long (-1)) (ty := .long) (C := RX10) (T := TX10) (N := 39) hx hb hts inX10 tyX10 tyX10_ok nmX10 hown hK hP hD hS 0 rfl rfl 23 (by decide) lf160 (fun _ h9 => h9) rfl (by decide +kernel) rfl rfl (Nat.le_of_ble_eq_true rfl) dX10_nextToken_351 (fun H locs hP hD hS => ?_)
                          have hP : va_P (dC, dI) vwCl (wMdT cI cZ cQ b mday mdoo mtel mgai mbyt mtxt mpos_241 mpos_0 (-1) mdig_241 mnum_241 mfau mrdm mlin mbsm) H := hP
                          have hD : va_D A (wMdT cI cZ cQ b mday mdoo mtel mgai mbyt mtxt mpos_241 mpos_0 (-1) mdig_241 mnum_241 mfau mrdm mlin mbsm) := hD
                          refine lv_goto (tgt := 394) hx hb dX10_nextToken_354 (by decide) ?_
                          exact W.vret hx hb hr (fun tq ht hW => ⟨⟨(uS [(fun _ => mpos_241), (fun _ => mpos_0), (fun _ => 0), (fun _ => mdig_241), (fun _ => mnum_241)] (-1) (fun _ => 0)), rfl, ⟨(show mpos_241.toInt ≤ mbyt.toInt from by omega), (show 0 ≤ mpos_0.toInt from by omega), (show mpos_0.toInt ≤ mpos_241.toInt from by omega), (show mpos_0.toInt = tS mtxt mbyt.toInt mpos.toInt from by exact sk_out i0_1 (by omega)), (show mpos_241.toInt = tE mtxt mbyt.toInt mpos_0.toInt from by (first | exact tE_end (by omega) rfl | exact tE_runA (by omega) (knd_1 (by omega)) (by decide) i101_2 (by first | exact Or.inl (by omega) | exact Or.inr (knd_n1 (by omega))) | exact tE_runA (by omega) (knd_2 (by omega)) (by decide) i241_2 (by first | exact Or.inl (by omega) | exact Or.inr (knd_n2 (by omega))) | exact tE_oneC (by omega) (knd_3 (by omega) (by omega)).symm rfl (by omega))), (show (-1) = tkV mtxt mbyt.toInt mpos_0.toInt mpos_241.toInt from by (first | exact tv_end (by omega) | exact tv_let (by omega) (knd_1 (by omega)) i101_3 (by omega) | exact tv_let4 (by omega) (knd_1 (by omega)) (by omega) | exact tv_dig (by omega) (knd_2 (by omega)) (by omega) | exact tv_dig4 (by omega) (knd_2 (by omega)) (by omega) | exact tv_semi (by omega) (by omega) | exact tv_oth (by omega) (knd_3 (by omega) (by omega)) (by omega))), (show nmP mtxt mbyt.toInt mpos_0.toInt mpos_241.toInt mnum_241 from by (first | exact nm_v (by omega) | exact nm_k (knd_1 (by omega)) (by decide) | exact nm_d i241_6 | exact nm_k (knd_3 (by omega) (by omega)) (by decide))), r_mpos_241⟩, by rw [ht]; exact hP, hD⟩, hS.F ht⟩) hS.2.2 dX10_nextToken_394
                        · have dc98 : 2 < mdig_241.toInt := nleC rfl (show (2 : Int32).toInt = 2 from rfl) c98
                          refine lv_ldc2 (v := (-4)) hx hb hown (hts (.constantLong RX10 168 (-4)) (List.mem_cons_of_mem _ (List.mem_append_left _ (List.mem_of_getElem? (i := 10) rfl)))) dX10_nextToken_342 ?_
                          refine lv_goto (tgt := 351) hx hb dX10_nextToken_345 (by decide) ?_
                          refine va_put (D := (dC, dI)) (ci := 10) (v := .long (-4)) (ty := .long) (C := RX10) (T := TX10) (N := 39) hx hb hts inX10 tyX10 tyX10_ok nmX10 hown hK hP hD hS 0 rfl rfl 23 (by decide) lf160 (fun _ h9 => h9) rfl (by decide +kernel) rfl rfl (Nat.le_of_ble_eq_true rfl) dX10_nextToken_351 (fun H locs hP hD hS => ?_)
                          have hP : va_P (dC, dI) vwCl (wMdT cI cZ cQ b mday mdoo mtel mgai mbyt mtxt mpos_241 mpos_0 (-4) mdig_241 mnum_241 mfau mrdm mlin mbsm) H := hP
                          have hD : va_D A (wMdT cI cZ cQ b mday mdoo mtel mgai mbyt mtxt mpos_241 mpos_0 (-4) mdig_241 mnum_241 mfau mrdm mlin mbsm) := hD
                          refine lv_goto (tgt := 394) hx hb dX10_nextToken_354 (by decide) ?_
                          exact W.vret hx hb hr (fun tq ht hW => ⟨⟨(uS [(fun _ => mpos_241), (fun _ => mpos_0), (fun _ => 0), (fun _ => mdig_241), (fun _ => mnum_241)] (-4) (fun _ => 0)), rfl, ⟨(show mpos_241.toInt ≤ mbyt.toInt from by omega), (show 0 ≤ mpos_0.toInt from by omega), (show mpos_0.toInt ≤ mpos_241.toInt from by omega), (show mpos_0.toInt = tS mtxt mbyt.toInt mpos.toInt from by exact sk_out i0_1 (by omega)), (show mpos_241.toInt = tE mtxt mbyt.toInt mpos_0.toInt from by (first | exact tE_end (by omega) rfl | exact tE_runA (by omega) (knd_1 (by omega)) (by decide) i101_2 (by first | exact Or.inl (by omega) | exact Or.inr (knd_n1 (by omega))) | exact tE_runA (by omega) (knd_2 (by omega)) (by decide) i241_2 (by first | exact Or.inl (by omega) | exact Or.inr (knd_n2 (by omega))) | exact tE_oneC (by omega) (knd_3 (by omega) (by omega)).symm rfl (by omega))), (show (-4) = tkV mtxt mbyt.toInt mpos_0.toInt mpos_241.toInt from by (first | exact tv_end (by omega) | exact tv_let (by omega) (knd_1 (by omega)) i101_3 (by omega) | exact tv_let4 (by omega) (knd_1 (by omega)) (by omega) | exact tv_dig (by omega) (knd_2 (by omega)) (by omega) | exact tv_dig4 (by omega) (knd_2 (by omega)) (by omega) | exact tv_semi (by omega) (by omega) | exact tv_oth (by omega) (knd_3 (by omega) (by omega)) (by omega))), (show nmP mtxt mbyt.toInt mpos_0.toInt mpos_241.toInt mnum_241 from by (first | exact nm_v (by omega) | exact nm_k (knd_1 (by omega)) (by decide) | exact nm_d i241_6 | exact nm_k (knd_3 (by omega) (by omega)) (by decide))), r_mpos_241⟩, by rw [ht]; exact hP, hD⟩, hS.F ht⟩) hS.2.2 dX10_nextToken_394
                have kc99 : (0 : Int32).toInt = 0 := rfl
                exact L241 _ mpos_0 0 0 _ _ _ r_mpos_0 (by omega) (by omega) (by (first | exact rn_in i241_2 (by omega) (knd_2 (by omega)) (by omega) | rfl)) (by omega) (by omega) (by omega) (by (first | exact nv_s i241_6 (by omega) (by omega) (by omega) (by assumption) | exact Or.inl (by omega) | exact nv_0 rfl rfl)) (Nat.lt_succ_self _) hP hD hS (lv_sub hl [0] rfl)
              · refine lv_if_eq (tgt := 357) hx hb dX10_nextToken_238 (by decide) (fun _ => ?_) (fun c9 => absurd (by decide) c9)
                refine lv_aload_n hx hb dX10_nextToken_357 rfl (lv_at hl 0 rfl) ?_
                refine lv_aload_n hx hb dX10_nextToken_358 rfl (lv_at hl 0 rfl) ?_
                refine va_get (D := (dC, dI)) (ci := 10) (v := .ref (b 20)) (C := RX10) (T := TX10) (N := 39) hx hb hts inX10 hown hK hP 0 rfl rfl 20 (by decide) lf62 (fun _ h9 => h9) rfl dX10_nextToken_359 ?_
                refine lv_aload_n hx hb dX10_nextToken_362 rfl (lv_at hl 0 rfl) ?_
                refine va_get (D := (dC, dI)) (ci := 10) (v := .int mpos_0) (C := RX10) (T := TX10) (N := 39) hx hb hts inX10 hown hK hP 0 rfl rfl 21 (by decide) lf146 (fun _ h9 => h9) rfl dX10_nextToken_363 ?_
                have b100 : vp_in mpos_0 160 := inC rfl (by omega) (by omega)
                refine va_iald hx hb hK hP 1 0 rfl rfl b100 dX10_nextToken_366 ?_
                refine lv_bipush (v := 59) hx hb dX10_nextToken_367 (by decide) ?_
                refine lv_icmp_ne (tgt := 378) hx hb dX10_nextToken_369 (by decide) (fun c101 => ?_) (fun c101 => ?_)
                · have dc101 : (mtxt mpos_0.toNatClampNeg).toInt ≠ 59 := neC rfl (show (59 : Int32).toInt = 59 from rfl) c101
                  refine lv_ldc2 (v := (-4)) hx hb hown (hts (.constantLong RX10 168 (-4)) (List.mem_cons_of_mem _ (List.mem_append_left _ (List.mem_of_getElem? (i := 10) rfl)))) dX10_nextToken_378 ?_
                  refine va_put (D := (dC, dI)) (ci := 10) (v := .long (-4)) (ty := .long) (C := RX10) (T := TX10) (N := 39) hx hb hts inX10 tyX10 tyX10_ok nmX10 hown hK hP hD hS 0 rfl rfl 23 (by decide) lf160 (fun _ h9 => h9) rfl (by decide +kernel) rfl rfl (Nat.le_of_ble_eq_true rfl) dX10_nextToken_381 (fun H locs hP hD hS => ?_)
                  have hP : va_P (dC, dI) vwCl (wMdT cI cZ cQ b mday mdoo mtel mgai mbyt mtxt mpos_0 mpos_0 (-4) 0 0 mfau mrdm mlin mbsm) H := hP
                  have hD : va_D A (wMdT cI cZ cQ b mday mdoo mtel mgai mbyt mtxt mpos_0 mpos_0 (-4) 0 0 mfau mrdm mlin mbsm) := hD
                  refine lv_aload_n hx hb dX10_nextToken_384 rfl (lv_at hl 0 rfl) ?_
                  refine lv_dup hx hb dX10_nextToken_385 rfl ?_
                  refine va_get (D := (dC, dI)) (ci := 10) (v := .int mpos_0) (C := RX10) (T := TX10) (N := 39) hx hb hts inX10 hown hK hP 0 rfl rfl 21 (by decide) lf146 (fun _ h9 => h9) rfl dX10_nextToken_386 ?_
                  refine lv_iconst (v := 1) hx hb dX10_nextToken_389 (by decide) ?_
                  refine lv_iadd hx hb dX10_nextToken_390 ?_
                  have f102 : (mpos_0 + 1).toInt = (mpos_0.toInt) + (1) := addC rfl (show (1 : Int32).toInt = 1 from rfl) (by omega) (by omega)
                  refine lv_topi (fun x103 ex103 => ?_)
                  have ix103 : x103.toInt = (mpos_0.toInt) + (1) := by rw [ex103]; exact f102
                  refine va_put (D := (dC, dI)) (ci := 10) (v := .int x103) (ty := .int) (C := RX10) (T := TX10) (N := 39) hx hb hts inX10 tyX10 tyX10_ok nmX10 hown hK hP hD hS 0 rfl rfl 21 (by decide) lf146 (fun _ h9 => h9) rfl (by decide +kernel) rfl rfl (Nat.le_of_ble_eq_true rfl) dX10_nextToken_391 (fun H locs hP hD hS => ?_)
                  have g104 : 0 ≤ x103.toInt ∧ x103.toInt ≤ 160 := by rw [show x103.toInt = x103.toInt from rfl]; exact ⟨by omega, by omega⟩
                  have hP : va_P (dC, dI) vwCl (wMdT cI cZ cQ b mday mdoo mtel mgai mbyt mtxt x103 mpos_0 (-4) 0 0 mfau mrdm mlin mbsm) H := hP
                  have hD : va_D A (wMdT cI cZ cQ b mday mdoo mtel mgai mbyt mtxt x103 mpos_0 (-4) 0 0 mfau mrdm mlin mbsm) := hD
                  exact W.vret hx hb hr (fun tq ht hW => ⟨⟨(uS [(fun _ => x103), (fun _ => mpos_0), (fun _ => 0), (fun _ => 0), (fun _ => 0)] (-4) (fun _ => 0)), rfl, ⟨(show x103.toInt ≤ mbyt.toInt from by omega), (show 0 ≤ mpos_0.toInt from by omega), (show mpos_0.toInt ≤ x103.toInt from by omega), (show mpos_0.toInt = tS mtxt mbyt.toInt mpos.toInt from by exact sk_out i0_1 (by omega)), (show x103.toInt = tE mtxt mbyt.toInt mpos_0.toInt from by (first | exact tE_end (by omega) rfl | exact tE_runA (by omega) (knd_1 (by omega)) (by decide) i101_2 (by first | exact Or.inl (by omega) | exact Or.inr (knd_n1 (by omega))) | exact tE_runA (by omega) (knd_2 (by omega)) (by decide) i241_2 (by first | exact Or.inl (by omega) | exact Or.inr (knd_n2 (by omega))) | exact tE_oneC (by omega) (knd_3 (by omega) (by omega)).symm rfl (by omega))), (show (-4) = tkV mtxt mbyt.toInt mpos_0.toInt x103.toInt from by (first | exact tv_end (by omega) | exact tv_let (by omega) (knd_1 (by omega)) i101_3 (by omega) | exact tv_let4 (by omega) (knd_1 (by omega)) (by omega) | exact tv_dig (by omega) (knd_2 (by omega)) (by omega) | exact tv_dig4 (by omega) (knd_2 (by omega)) (by omega) | exact tv_semi (by omega) (by omega) | exact tv_oth (by omega) (knd_3 (by omega) (by omega)) (by omega))), (show nmP mtxt mbyt.toInt mpos_0.toInt x103.toInt 0 from by (first | exact nm_v (by omega) | exact nm_k (knd_1 (by omega)) (by decide) | exact nm_d i241_6 | exact nm_k (knd_3 (by omega) (by omega)) (by decide))), g104⟩, by rw [ht]; exact hP, hD⟩, hS.F ht⟩) hS.2.2 dX10_nextToken_394
                · have dc101 : (mtxt mpos_0.toNatClampNeg).toInt = 59 := eqC rfl (show (59 : Int32).toInt = 59 from rfl) c101
                  refine lv_ldc2 (v := (-3)) hx hb hown (hts (.constantLong RX10 172 (-3)) (List.mem_cons_of_mem _ (List.mem_append_left _ (List.mem_of_getElem? (i := 12) rfl)))) dX10_nextToken_372 ?_
                  refine lv_goto (tgt := 381) hx hb dX10_nextToken_375 (by decide) ?_
                  refine va_put (D := (dC, dI)) (ci := 10) (v := .long (-3)) (ty := .long) (C := RX10) (T := TX10) (N := 39) hx hb hts inX10 tyX10 tyX10_ok nmX10 hown hK hP hD hS 0 rfl rfl 23 (by decide) lf160 (fun _ h9 => h9) rfl (by decide +kernel) rfl rfl (Nat.le_of_ble_eq_true rfl) dX10_nextToken_381 (fun H locs hP hD hS => ?_)
                  have hP : va_P (dC, dI) vwCl (wMdT cI cZ cQ b mday mdoo mtel mgai mbyt mtxt mpos_0 mpos_0 (-3) 0 0 mfau mrdm mlin mbsm) H := hP
                  have hD : va_D A (wMdT cI cZ cQ b mday mdoo mtel mgai mbyt mtxt mpos_0 mpos_0 (-3) 0 0 mfau mrdm mlin mbsm) := hD
                  refine lv_aload_n hx hb dX10_nextToken_384 rfl (lv_at hl 0 rfl) ?_
                  refine lv_dup hx hb dX10_nextToken_385 rfl ?_
                  refine va_get (D := (dC, dI)) (ci := 10) (v := .int mpos_0) (C := RX10) (T := TX10) (N := 39) hx hb hts inX10 hown hK hP 0 rfl rfl 21 (by decide) lf146 (fun _ h9 => h9) rfl dX10_nextToken_386 ?_
                  refine lv_iconst (v := 1) hx hb dX10_nextToken_389 (by decide) ?_
                  refine lv_iadd hx hb dX10_nextToken_390 ?_
                  have f105 : (mpos_0 + 1).toInt = (mpos_0.toInt) + (1) := addC rfl (show (1 : Int32).toInt = 1 from rfl) (by omega) (by omega)
                  refine lv_topi (fun x106 ex106 => ?_)
                  have ix106 : x106.toInt = (mpos_0.toInt) + (1) := by rw [ex106]; exact f105
                  refine va_put (D := (dC, dI)) (ci := 10) (v := .int x106) (ty := .int) (C := RX10) (T := TX10) (N := 39) hx hb hts inX10 tyX10 tyX10_ok nmX10 hown hK hP hD hS 0 rfl rfl 21 (by decide) lf146 (fun _ h9 => h9) rfl (by decide +kernel) rfl rfl (Nat.le_of_ble_eq_true rfl) dX10_nextToken_391 (fun H locs hP hD hS => ?_)
                  have g107 : 0 ≤ x106.toInt ∧ x106.toInt ≤ 160 := by rw [show x106.toInt = x106.toInt from rfl]; exact ⟨by omega, by omega⟩
                  have hP : va_P (dC, dI) vwCl (wMdT cI cZ cQ b mday mdoo mtel mgai mbyt mtxt x106 mpos_0 (-3) 0 0 mfau mrdm mlin mbsm) H := hP
                  have hD : va_D A (wMdT cI cZ cQ b mday mdoo mtel mgai mbyt mtxt x106 mpos_0 (-3) 0 0 mfau mrdm mlin mbsm) := hD
                  exact W.vret hx hb hr (fun tq ht hW => ⟨⟨(uS [(fun _ => x106), (fun _ => mpos_0), (fun _ => 0), (fun _ => 0), (fun _ => 0)] (-3) (fun _ => 0)), rfl, ⟨(show x106.toInt ≤ mbyt.toInt from by omega), (show 0 ≤ mpos_0.toInt from by omega), (show mpos_0.toInt ≤ x106.toInt from by omega), (show mpos_0.toInt = tS mtxt mbyt.toInt mpos.toInt from by exact sk_out i0_1 (by omega)), (show x106.toInt = tE mtxt mbyt.toInt mpos_0.toInt from by (first | exact tE_end (by omega) rfl | exact tE_runA (by omega) (knd_1 (by omega)) (by decide) i101_2 (by first | exact Or.inl (by omega) | exact Or.inr (knd_n1 (by omega))) | exact tE_runA (by omega) (knd_2 (by omega)) (by decide) i241_2 (by first | exact Or.inl (by omega) | exact Or.inr (knd_n2 (by omega))) | exact tE_oneC (by omega) (knd_3 (by omega) (by omega)).symm rfl (by omega))), (show (-3) = tkV mtxt mbyt.toInt mpos_0.toInt x106.toInt from by (first | exact tv_end (by omega) | exact tv_let (by omega) (knd_1 (by omega)) i101_3 (by omega) | exact tv_let4 (by omega) (knd_1 (by omega)) (by omega) | exact tv_dig (by omega) (knd_2 (by omega)) (by omega) | exact tv_dig4 (by omega) (knd_2 (by omega)) (by omega) | exact tv_semi (by omega) (by omega) | exact tv_oth (by omega) (knd_3 (by omega) (by omega)) (by omega))), (show nmP mtxt mbyt.toInt mpos_0.toInt x106.toInt 0 from by (first | exact nm_v (by omega) | exact nm_k (knd_1 (by omega)) (by decide) | exact nm_d i241_6 | exact nm_k (knd_3 (by omega) (by omega)) (by decide))), g107⟩, by rw [ht]; exact hP, hD⟩, hS.F ht⟩) hS.2.2 dX10_nextToken_394
          · have dc56 : mpos_0.toInt = mbyt.toInt := eqC rfl rfl c56
            refine lv_aload_n hx hb dX10_nextToken_67 rfl (lv_at hl 0 rfl) ?_
            refine lv_ldc2 (v := (-2)) hx hb hown (hts (.constantLong RX10 158 (-2)) (List.mem_cons_of_mem _ (List.mem_append_left _ (List.mem_of_getElem? (i := 6) rfl)))) dX10_nextToken_68 ?_
            refine va_put (D := (dC, dI)) (ci := 10) (v := .long (-2)) (ty := .long) (C := RX10) (T := TX10) (N := 39) hx hb hts inX10 tyX10 tyX10_ok nmX10 hown hK hP hD hS 0 rfl rfl 23 (by decide) lf160 (fun _ h9 => h9) rfl (by decide +kernel) rfl rfl (Nat.le_of_ble_eq_true rfl) dX10_nextToken_71 (fun H locs hP hD hS => ?_)
            have hP : va_P (dC, dI) vwCl (wMdT cI cZ cQ b mday mdoo mtel mgai mbyt mtxt mpos_0 mpos_0 (-2) 0 0 mfau mrdm mlin mbsm) H := hP
            have hD : va_D A (wMdT cI cZ cQ b mday mdoo mtel mgai mbyt mtxt mpos_0 mpos_0 (-2) 0 0 mfau mrdm mlin mbsm) := hD
            refine lv_goto (tgt := 394) hx hb dX10_nextToken_74 (by decide) ?_
            exact W.vret hx hb hr (fun tq ht hW => ⟨⟨(uS [(fun _ => mpos_0), (fun _ => mpos_0), (fun _ => 0), (fun _ => 0), (fun _ => 0)] (-2) (fun _ => 0)), rfl, ⟨(show mpos_0.toInt ≤ mbyt.toInt from by omega), (show 0 ≤ mpos_0.toInt from by omega), (show mpos_0.toInt ≤ mpos_0.toInt from by omega), (show mpos_0.toInt = tS mtxt mbyt.toInt mpos.toInt from by exact sk_out i0_1 (by omega)), (show mpos_0.toInt = tE mtxt mbyt.toInt mpos_0.toInt from by (first | exact tE_end (by omega) rfl | exact tE_runA (by omega) (knd_1 (by omega)) (by decide) i101_2 (by first | exact Or.inl (by omega) | exact Or.inr (knd_n1 (by omega))) | exact tE_runA (by omega) (knd_2 (by omega)) (by decide) i241_2 (by first | exact Or.inl (by omega) | exact Or.inr (knd_n2 (by omega))) | exact tE_oneC (by omega) (knd_3 (by omega) (by omega)).symm rfl (by omega))), (show (-2) = tkV mtxt mbyt.toInt mpos_0.toInt mpos_0.toInt from by (first | exact tv_end (by omega) | exact tv_let (by omega) (knd_1 (by omega)) i101_3 (by omega) | exact tv_let4 (by omega) (knd_1 (by omega)) (by omega) | exact tv_dig (by omega) (knd_2 (by omega)) (by omega) | exact tv_dig4 (by omega) (knd_2 (by omega)) (by omega) | exact tv_semi (by omega) (by omega) | exact tv_oth (by omega) (knd_3 (by omega) (by omega)) (by omega))), (show nmP mtxt mbyt.toInt mpos_0.toInt mpos_0.toInt 0 from by (first | exact nm_v (by omega) | exact nm_k (knd_1 (by omega)) (by decide) | exact nm_d i241_6 | exact nm_k (knd_3 (by omega) (by omega)) (by decide))), r_mpos_0⟩, by rw [ht]; exact hP, hD⟩, hS.F ht⟩) hS.2.2 dX10_nextToken_394
        · have dc55 : (mtxt mpos_0.toNatClampNeg).toInt = 32 := eqC rfl (show (32 : Int32).toInt = 32 from rfl) c55
          refine lv_aload_n hx hb dX10_nextToken_25 rfl (lv_at hl 0 rfl) ?_
          refine lv_dup hx hb dX10_nextToken_26 rfl ?_
          refine va_get (D := (dC, dI)) (ci := 10) (v := .int mpos_0) (C := RX10) (T := TX10) (N := 39) hx hb hts inX10 hown hK hP 0 rfl rfl 21 (by decide) lf146 (fun _ h9 => h9) rfl dX10_nextToken_27 ?_
          refine lv_iconst (v := 1) hx hb dX10_nextToken_30 (by decide) ?_
          refine lv_iadd hx hb dX10_nextToken_31 ?_
          have f108 : (mpos_0 + 1).toInt = (mpos_0.toInt) + (1) := addC rfl (show (1 : Int32).toInt = 1 from rfl) (by omega) (by omega)
          refine lv_topi (fun x109 ex109 => ?_)
          have ix109 : x109.toInt = (mpos_0.toInt) + (1) := by rw [ex109]; exact f108
          refine va_put (D := (dC, dI)) (ci := 10) (v := .int x109) (ty := .int) (C := RX10) (T := TX10) (N := 39) hx hb hts inX10 tyX10 tyX10_ok nmX10 hown hK hP hD hS 0 rfl rfl 21 (by decide) lf146 (fun _ h9 => h9) rfl (by decide +kernel) rfl rfl (Nat.le_of_ble_eq_true rfl) dX10_nextToken_32 (fun H locs hP hD hS => ?_)
          have g110 : 0 ≤ x109.toInt ∧ x109.toInt ≤ 160 := by rw [show x109.toInt = x109.toInt from rfl]; exact ⟨by omega, by omega⟩
          have hP : va_P (dC, dI) vwCl (wMdT cI cZ cQ b mday mdoo mtel mgai mbyt mtxt x109 mtka mtok mdig mnum mfau mrdm mlin mbsm) H := hP
          have hD : va_D A (wMdT cI cZ cQ b mday mdoo mtel mgai mbyt mtxt x109 mtka mtok mdig mnum mfau mrdm mlin mbsm) := hD
          refine lv_goto (tgt := 0) hx hb dX10_nextToken_35 (by decide) ?_
          exact ih0 x109 _ _ _ g110 (by omega) (by (first | exact sk_in i0_1 (by omega) (by omega) (by omega) | rfl)) (by omega) hP hD hS (lv_sub hl [0] rfl)
  exact L0 _ mpos _ _ _ r_mpos (by omega) (by (first | exact sk_in i0_1 (by omega) (by omega) (by omega) | rfl)) (Nat.lt_succ_self _) hP hD hS (lv_sub hl [0] rfl)
set_option maxHeartbeats 4000000 in
set_option maxRecDepth 100000 in
theorem k_X10_fails2 (l : Launch) (dC : Nat → ClassId) (dI : Nat → Nat → Nat) (cI cZ cQ : ClassId) (b : Nat → Nat) (mday : Int32) (mdoo : Int32) (mtel : Int32) (mgai : Int32) (mbyt : Int32) (mtxt : Nat → Int32) (mpos : Int32) (mtka : Int32) (mtok : Int64) (mdig : Int32) (mnum : Int32) (mfau : Int32) (mrdm : Int32) (mlin : Int32) (mbsm : Int32) (sz : Nat) (r_mday : 0 ≤ mday.toInt ∧ mday.toInt ≤ 400) (r_mdoo : 0 ≤ mdoo.toInt ∧ mdoo.toInt ≤ 14) (r_mgai : 0 ≤ mgai.toInt ∧ mgai.toInt ≤ 100) (r_mbyt : 0 ≤ mbyt.toInt ∧ mbyt.toInt ≤ 160) (r_mpos : 0 ≤ mpos.toInt ∧ mpos.toInt ≤ 160) (r_mrdm : 0 ≤ mrdm.toInt ∧ mrdm.toInt ≤ 10) (r_mlin : 0 ≤ mlin.toInt ∧ mlin.toInt ≤ 10) : KW l yX10_fails wsX10_fails { frames := 0, cells := 0, slots := 0, locals := 0 } (dC, dI) (TY cI cZ cQ) (wMdT cI cZ cQ b mday mdoo mtel mgai mbyt mtxt mpos mtka mtok mdig mnum mfau mrdm mlin mbsm) [.ref (b 39)] sz 0 0 (fun (r : Int32) (u : US) => ((((r = 0) ∧ ((u.1 0 0) = mtka))))) (fun u : US => (wMdT cI cZ cQ b mday mdoo mtel mgai mbyt mtxt mpos mtka mtok mdig mnum (u.1 0 0) mrdm mlin mbsm)) := by
  refine Met.ofW (cc := cX10_fails) (maxL := 1) (ret := (some .boolean)) (by decide) rfl ?_
  intro p e s m args below meth c s₁ B hml hv
  obtain ⟨rfl, hsz, hP, hK, hD0, hN⟩ := hv
  have hx := B.exec
  have hb := B.bytes
  have hr := B.returns
  have hts := atoms_spec (ws := wsX10_fails) B.pre
  have hown : s.vm.findClass RX10 = some m.cls := findClass_of_methodNamed B.named
  have hlocks := B.notSynchronized
  have lf149 := hts (.fieldLink RX10 149 "PalaceOfRoomsModel" "tokenAt" "I") (List.mem_cons_of_mem _ (List.mem_append_left _ (List.mem_of_getElem? (i := 0) rfl)))
  have inX10 : ∀ w ∈ wsX100, w ∈ wsX10_fails := fun w h => List.mem_cons_of_mem _ (List.mem_append_right _ h)
  have lf174 := hts (.fieldLink RX10 174 "PalaceOfRoomsModel" "faultAt" "I") (List.mem_cons_of_mem _ (List.mem_append_left _ (List.mem_of_getElem? (i := 1) rfl)))
  subst hsz
  have hD := hD0.self (sz := s.heap.size)
  generalize hAe : va_A (wMdT cI cZ cQ b mday mdoo mtel mgai mbyt mtxt mpos mtka mtok mdig mnum mfau mrdm mlin mbsm) s.heap.size = A at hD ⊢
  have hA : ∀ q : Nat, s.heap.size ≤ q → A q := fun q h => by rw [← hAe]; exact Or.inr h
  have hS : va_S A s.heap s.heap [] := va_S.rf
  have hl := lv_entry ([.ref (b 39)]) (n := 1) (Nat.le_of_ble_eq_true rfl)
  rw [lg_entry_eq]
  generalize (lg_sl ([.ref (b 39)]) ++ List.replicate (1 - (lg_sl ([.ref (b 39)])).length) Slot.unset).toArray = ls at hl ⊢
  have hl : lv_has ls 1 [(0, .ref (b 39))] := hl
  refine lv_aload_n hx hb dX10_fails_0 rfl (lv_at hl 0 rfl) ?_
  refine lv_aload_n hx hb dX10_fails_1 rfl (lv_at hl 0 rfl) ?_
  refine va_get (D := (dC, dI)) (ci := 10) (v := .int mtka) (C := RX10) (T := TX10) (N := 39) hx hb hts inX10 hown hK hP 0 rfl rfl 22 (by decide) lf149 (fun _ h9 => h9) rfl dX10_fails_2 ?_
  refine va_put (D := (dC, dI)) (ci := 10) (v := .int mtka) (ty := .int) (C := RX10) (T := TX10) (N := 39) hx hb hts inX10 tyX10 tyX10_ok nmX10 hown hK hP hD hS 0 rfl rfl 26 (by decide) lf174 (fun _ h9 => h9) rfl (by decide +kernel) rfl rfl (Nat.le_of_ble_eq_true rfl) dX10_fails_5 (fun H locs hP hD hS => ?_)
  have hP : va_P (dC, dI) vwCl (wMdT cI cZ cQ b mday mdoo mtel mgai mbyt mtxt mpos mtka mtok mdig mnum mtka mrdm mlin mbsm) H := hP
  have hD : va_D A (wMdT cI cZ cQ b mday mdoo mtel mgai mbyt mtxt mpos mtka mtok mdig mnum mtka mrdm mlin mbsm) := hD
  refine lv_iconst (v := 0) hx hb dX10_fails_8 (by decide) ?_
  exact W.zret (v := 0) hx hb hr (by decide) (fun tq ht hW => ⟨⟨0, (uS [(fun _ => mtka)] 0 (fun _ => 0)), rfl, (⟨rfl, (show mtka = mtka from by (try rw [show (0 : Int32).toInt = 0 from (show (0 : Int32).toInt = 0 from rfl)]); (first | rfl | assumption))⟩), by rw [ht]; exact hP, hD⟩, hS.F ht⟩) hS.2.2 dX10_fails_9
set_option maxHeartbeats 4000000 in
set_option maxRecDepth 100000 in
theorem k_X10_isNumber2 (l : Launch) (dC : Nat → ClassId) (dI : Nat → Nat → Nat) (cI cZ cQ : ClassId) (b : Nat → Nat) (mday : Int32) (mdoo : Int32) (mtel : Int32) (mgai : Int32) (mbyt : Int32) (mtxt : Nat → Int32) (mpos : Int32) (mtka : Int32) (mtok : Int64) (mdig : Int32) (mnum : Int32) (mfau : Int32) (mrdm : Int32) (mrea : Nat → Int32) (mlin : Int32) (mbsm : Int32) (sz : Nat) (at_ : Int32) (least : Int32) (most : Int32) (r_mday : 0 ≤ mday.toInt ∧ mday.toInt ≤ 400) (r_mdoo : 0 ≤ mdoo.toInt ∧ mdoo.toInt ≤ 14) (r_mgai : 0 ≤ mgai.toInt ∧ mgai.toInt ≤ 100) (r_mbyt : 0 ≤ mbyt.toInt ∧ mbyt.toInt ≤ 160) (r_mpos : 0 ≤ mpos.toInt ∧ mpos.toInt ≤ 160) (r_mrdm : 0 ≤ mrdm.toInt ∧ mrdm.toInt ≤ 10) (r_mlin : 0 ≤ mlin.toInt ∧ mlin.toInt ≤ 10) (q0 : 0 ≤ at_.toInt) (q1 : at_.toInt ≤ 29) (q2 : mpos.toInt ≤ mbyt.toInt) (q3 : 0 ≤ least.toInt) : KW l yX10_isNumber wsX10_isNumber { frames := 2, cells := 0, slots := 0, locals := 42 } (dC, dI) (TY cI cZ cQ) (wMdR cI cZ cQ b mday mdoo mtel mgai mbyt mtxt mpos mtka mtok mdig mnum mfau mrdm mrea mlin mbsm) [.ref (b 39), .int at_, .int least, .int most] sz 0 0 (fun (r : Int32) (u : US) => ((((r = 1) ∧ (imT mtxt mbyt.toInt mpos.toInt least.toInt most.toInt at_.toNatClampNeg mrea (u.1 6) (u.1 0 0).toInt)) ∨ ((r = 0) ∧ (imN mtxt mbyt.toInt mpos.toInt least.toInt most.toInt (u.1 5 0).toInt mrea (u.1 6))))) ∧ ((u.1 0 0).toInt ≤ mbyt.toInt) ∧ (0 ≤ (u.1 0 0).toInt ∧ (u.1 0 0).toInt ≤ 160)) (fun u : US => (wMdR cI cZ cQ b mday mdoo mtel mgai mbyt mtxt (u.1 0 0) (u.1 1 0) u.2.1 (u.1 3 0) (u.1 4 0) (u.1 5 0) mrdm (u.1 6) mlin mbsm)) := by
  refine Met.ofW (cc := cX10_isNumber) (maxL := 4) (ret := (some .boolean)) (by decide) rfl ?_
  intro p e s m args below meth c s₁ B hml hv
  obtain ⟨rfl, hsz, hP, hK, hD0, hN⟩ := hv
  have hx := B.exec
  have hb := B.bytes
  have hr := B.returns
  have hts := atoms_spec (ws := wsX10_isNumber) B.pre
  have hown : s.vm.findClass RX10 = some m.cls := findClass_of_methodNamed B.named
  have hlocks := B.notSynchronized
  have lf160 := hts (.fieldLink RX10 160 "PalaceOfRoomsModel" "token" "J") (List.mem_cons_of_mem _ (List.mem_append_left _ (List.mem_append_left _ (List.mem_of_getElem? (i := 0) rfl))))
  have inX10 : ∀ w ∈ wsX100, w ∈ wsX10_isNumber := fun w h => List.mem_cons_of_mem _ (List.mem_append_right _ h)
  have lf155 := hts (.fieldLink RX10 155 "PalaceOfRoomsModel" "number" "I") (List.mem_cons_of_mem _ (List.mem_append_left _ (List.mem_append_left _ (List.mem_of_getElem? (i := 2) rfl))))
  have lf65 := hts (.fieldLink RX10 65 "PalaceOfRoomsModel" "read" "[I") (List.mem_cons_of_mem _ (List.mem_append_left _ (List.mem_append_left _ (List.mem_of_getElem? (i := 3) rfl))))
  subst hsz
  have hD := hD0.self (sz := s.heap.size)
  generalize hAe : va_A (wMdR cI cZ cQ b mday mdoo mtel mgai mbyt mtxt mpos mtka mtok mdig mnum mfau mrdm mrea mlin mbsm) s.heap.size = A at hD ⊢
  have hA : ∀ q : Nat, s.heap.size ≤ q → A q := fun q h => by rw [← hAe]; exact Or.inr h
  have hS : va_S A s.heap s.heap [] := va_S.rf
  have hl := lv_entry ([.ref (b 39), .int at_, .int least, .int most]) (n := 4) (Nat.le_of_ble_eq_true rfl)
  rw [lg_entry_eq]
  generalize (lg_sl ([.ref (b 39), .int at_, .int least, .int most]) ++ List.replicate (4 - (lg_sl ([.ref (b 39), .int at_, .int least, .int most])).length) Slot.unset).toArray = ls at hl ⊢
  have hl : lv_has ls 4 [(0, .ref (b 39)), (1, .int at_), (2, .int least), (3, .int most)] := hl
  refine lv_aload_n hx hb dX10_isNumber_0 rfl (lv_at hl 0 rfl) ?_
  refine wvV (As := []) (rest := []) (wr := [((b 28), .inl (cI, 30, .inl mrea))]) (w2 := (fun u : US => (wMdR cI cZ cQ b mday mdoo mtel mgai mbyt mtxt (u.1 0 0) (u.1 1 0) u.2.1 (u.1 3 0) (u.1 4 0) mfau mrdm mrea mlin mbsm))) ⟨hx, hb, hml, hown, hts⟩ (k_X10_nextToken2 l dC dI cI cZ cQ b mday mdoo mtel mgai mbyt mtxt mpos mtka mtok mdig mnum mfau mrdm mlin mbsm _ r_mday r_mdoo r_mgai r_mbyt r_mpos r_mrdm r_mlin (by omega)) (cwV 0 hts gX10_isNumber_X10_nextToken rfl rfl rfl (by decide +kernel) ⟨Nat.le_of_ble_eq_true rfl, Nat.le_of_ble_eq_true rfl⟩) hP hD hS hA hK hN [0, 1] [2] [1, 2, 0] rfl rfl (by decide) (by decide) (by decide) (fun _ => rfl) (by decide) 0 10 rfl rfl rfl hl.1 rfl (Nat.le_of_ble_eq_true rfl) dX10_isNumber_1 ⟨Nat.le_of_ble_eq_true rfl, Nat.le_of_ble_eq_true rfl⟩ (fun u3 H locs h2 hP hD hS => ?_)
  obtain ⟨mpos_c4, empos_c4⟩ : ∃ f : Int32, f = (u3.1 0 0) := ⟨_, rfl⟩
  obtain ⟨mtka_c5, emtka_c5⟩ : ∃ f : Int32, f = (u3.1 1 0) := ⟨_, rfl⟩
  obtain ⟨mtok_c6, emtok_c6⟩ : ∃ f : Int64, f = u3.2.1 := ⟨_, rfl⟩
  obtain ⟨mdig_c7, emdig_c7⟩ : ∃ f : Int32, f = (u3.1 3 0) := ⟨_, rfl⟩
  obtain ⟨mnum_c8, emnum_c8⟩ : ∃ f : Int32, f = (u3.1 4 0) := ⟨_, rfl⟩
  have hP : va_P (dC, dI) vwCl (wMdR cI cZ cQ b mday mdoo mtel mgai mbyt mtxt mpos_c4 mtka_c5 mtok_c6 mdig_c7 mnum_c8 mfau mrdm mrea mlin mbsm) H := by rw [empos_c4, emtka_c5, emtok_c6, emdig_c7, emnum_c8]; exact hP
  have hD : va_D A (wMdR cI cZ cQ b mday mdoo mtel mgai mbyt mtxt mpos_c4 mtka_c5 mtok_c6 mdig_c7 mnum_c8 mfau mrdm mrea mlin mbsm) := by rw [empos_c4, emtka_c5, emtok_c6, emdig_c7, emnum_c8]; exact hD
  have h2 : (mpos_c4.toInt ≤ mbyt.toInt) ∧ (0 ≤ mtka_c5.toInt) ∧ (mtka_c5.toInt ≤ mpos_c4.toInt) ∧ (mtka_c5.toInt = tS mtxt mbyt.toInt mpos.toInt) ∧ (mpos_c4.toInt = tE mtxt mbyt.toInt mtka_c5.toInt) ∧ (mtok_c6 = tkV mtxt mbyt.toInt mtka_c5.toInt mpos_c4.toInt) ∧ (nmP mtxt mbyt.toInt mtka_c5.toInt mpos_c4.toInt mnum_c8) ∧ (0 ≤ mpos_c4.toInt ∧ mpos_c4.toInt ≤ 160) := by (try rw [empos_c4]); (try rw [emtka_c5]); (try rw [emtok_c6]); (try rw [emdig_c7]); (try rw [emnum_c8]); exact h2
  obtain ⟨h2_0, h2_1, h2_2, h2_3, h2_4, h2_5, h2_6, h2_7⟩ := h2
  refine lv_aload_n hx hb dX10_isNumber_4 rfl (lv_at hl 0 rfl) ?_
  refine va_get (D := (dC, dI)) (ci := 10) (v := .long mtok_c6) (C := RX10) (T := TX10) (N := 39) hx hb hts inX10 hown hK hP 0 rfl rfl 23 (by decide) lf160 (fun _ h9 => h9) rfl dX10_isNumber_5 ?_
  refine lv_ldc2 (v := (-1)) hx hb hown (hts (.constantLong RX10 170 (-1)) (List.mem_cons_of_mem _ (List.mem_append_left _ (List.mem_append_left _ (List.mem_of_getElem? (i := 1) rfl))))) dX10_isNumber_8 ?_
  refine W.lcmp hx hb dX10_isNumber_11 ?_
  refine lv_if_ne (tgt := 27) hx hb dX10_isNumber_12 (by decide) (fun c9 => ?_) (fun c9 => ?_)
  · have dc9 : (lg_cmp mtok_c6 (-1)).toInt ≠ 0 := neC rfl (show (0 : Int32).toInt = 0 from rfl) c9
    refine lv_aload_n hx hb dX10_isNumber_27 rfl (lv_at hl 0 rfl) ?_
    refine wrV (As := []) (rest := []) (wr := [((b 28), .inl (cI, 30, .inl mrea))]) (w2 := (fun u : US => (wMdR cI cZ cQ b mday mdoo mtel mgai mbyt mtxt mpos_c4 mtka_c5 mtok_c6 mdig_c7 mnum_c8 (u.1 0 0) mrdm mrea mlin mbsm))) ⟨hx, hb, hml, hown, hts⟩ (k_X10_fails2 l dC dI cI cZ cQ b mday mdoo mtel mgai mbyt mtxt mpos_c4 mtka_c5 mtok_c6 mdig_c7 mnum_c8 mfau mrdm mlin mbsm _ r_mday r_mdoo r_mgai r_mbyt h2_7 r_mrdm r_mlin) (cwV 0 hts gX10_isNumber_X10_fails rfl rfl rfl (by decide +kernel) ⟨Nat.le_of_ble_eq_true rfl, Nat.le_of_ble_eq_true rfl⟩) hP hD hS hA hK hN [0, 1] [2] [1, 2, 0] rfl rfl (by decide) (by decide) (by decide) (fun _ => rfl) (by decide) 0 10 rfl rfl rfl hl.1 rfl (Nat.le_of_ble_eq_true rfl) dX10_isNumber_28 ⟨Nat.le_of_ble_eq_true rfl, Nat.le_of_ble_eq_true rfl⟩ (fun r10 u12 H locs h11 hP hD hS => ?_)
    obtain ⟨mfau_c13, emfau_c13⟩ : ∃ f : Int32, f = (u12.1 0 0) := ⟨_, rfl⟩
    have hP : va_P (dC, dI) vwCl (wMdR cI cZ cQ b mday mdoo mtel mgai mbyt mtxt mpos_c4 mtka_c5 mtok_c6 mdig_c7 mnum_c8 mfau_c13 mrdm mrea mlin mbsm) H := by rw [emfau_c13]; exact hP
    have hD : va_D A (wMdR cI cZ cQ b mday mdoo mtel mgai mbyt mtxt mpos_c4 mtka_c5 mtok_c6 mdig_c7 mnum_c8 mfau_c13 mrdm mrea mlin mbsm) := by rw [emfau_c13]; exact hD
    have h11 : ((((r10 = 0) ∧ (mfau_c13 = mtka_c5)))) := by (try rw [emfau_c13]); exact h11
    rcases h11 with (⟨rfl, h11_a0⟩)
    · exact W.zret (v := 0) hx hb hr (by decide) (fun tq ht hW => ⟨⟨0, (uS [(fun _ => mpos_c4), (fun _ => mtka_c5), (fun _ => 0), (fun _ => mdig_c7), (fun _ => mnum_c8), (fun _ => mfau_c13), mrea] mtok_c6 (fun _ => 0)), rfl, ⟨(Or.inr (⟨rfl, (show imN mtxt mbyt.toInt mpos.toInt least.toInt most.toInt mfau_c13.toInt mrea mrea from by (try rw [show (0 : Int32).toInt = 0 from (show (0 : Int32).toInt = 0 from rfl)]); (first | exact ⟨_, in_yes (by assumption) (by assumption) (by assumption) (by assumption) (by omega) (by assumption) (by omega), (nn_m1 (by omega)), by assumption, nx_of (by assumption) (by assumption)⟩ | exact ⟨⟨in_n1 (by assumption) (by assumption) (by assumption) (by omega) (by assumption), fa_of (by assumption) (by assumption)⟩, rfl⟩ | exact ⟨⟨in_n2 (by assumption) (by assumption) (by assumption) (by assumption) (by omega) (by assumption) (by omega), fa_of (by assumption) (by assumption)⟩, rfl⟩))⟩)), (show mpos_c4.toInt ≤ mbyt.toInt from by (try rw [show (0 : Int32).toInt = 0 from (show (0 : Int32).toInt = 0 from rfl)]); omega), h2_7⟩, by rw [ht]; exact hP, hD⟩, hS.F ht⟩) hS.2.2 dX10_isNumber_31
  · have dc9 : (lg_cmp mtok_c6 (-1)).toInt = 0 := eqC rfl (show (0 : Int32).toInt = 0 from rfl) c9
    refine lv_aload_n hx hb dX10_isNumber_15 rfl (lv_at hl 0 rfl) ?_
    refine va_get (D := (dC, dI)) (ci := 10) (v := .int mnum_c8) (C := RX10) (T := TX10) (N := 39) hx hb hts inX10 hown hK hP 0 rfl rfl 25 (by decide) lf155 (fun _ h9 => h9) rfl dX10_isNumber_16 ?_
    refine lv_iload_n hx hb dX10_isNumber_19 rfl (lv_at hl 2 rfl) ?_
    refine lv_iload_n hx hb dX10_isNumber_20 rfl (lv_at hl 3 rfl) ?_
    refine rdS (As := [.int mnum_c8, .int least, .int most]) (rest := []) ⟨hx, hb, hml, hown, hts⟩ (k_X10_in l dC dI cI cZ cQ mnum_c8 least most) (va_cwS 3 hts gX10_isNumber_X10_in rfl rfl rfl (by decide +kernel) ⟨Nat.le_of_ble_eq_true rfl, Nat.le_of_ble_eq_true rfl⟩) hP hK hN [] rfl rfl hl.1 rfl (Nat.le_of_ble_eq_true rfl) dX10_isNumber_21 ⟨Nat.le_of_ble_eq_true rfl, Nat.le_of_ble_eq_true rfl⟩ (fun r14 h15 => ?_)
    have h15 : ((((r14 = 1) ∧ (least.toInt ≤ mnum_c8.toInt) ∧ (mnum_c8.toInt ≤ most.toInt)) ∨ ((r14 = 0) ∧ (mnum_c8.toInt < least.toInt ∨ most.toInt < mnum_c8.toInt)))) := h15
    rcases h15 with (⟨rfl, h15_a0, h15_a1⟩ | ⟨rfl, h15_a0⟩)
    · refine lv_if_ne (tgt := 32) hx hb dX10_isNumber_24 (by decide) (fun _ => ?_) (fun c9 => absurd c9 (by decide))
      refine lv_aload_n hx hb dX10_isNumber_32 rfl (lv_at hl 0 rfl) ?_
      refine va_get (D := (dC, dI)) (ci := 10) (v := .ref (b 28)) (C := RX10) (T := TX10) (N := 39) hx hb hts inX10 hown hK hP 0 rfl rfl 28 (by decide) lf65 (fun _ h9 => h9) rfl dX10_isNumber_33 ?_
      refine lv_iload_n hx hb dX10_isNumber_36 rfl (lv_at hl 1 rfl) ?_
      refine lv_aload_n hx hb dX10_isNumber_37 rfl (lv_at hl 0 rfl) ?_
      refine va_get (D := (dC, dI)) (ci := 10) (v := .int mnum_c8) (C := RX10) (T := TX10) (N := 39) hx hb hts inX10 hown hK hP 0 rfl rfl 25 (by decide) lf155 (fun _ h9 => h9) rfl dX10_isNumber_38 ?_
      have b16 : vp_in at_ 30 := inC rfl (by omega) (by omega)
      refine va_iast hx hb hK hP hD hS 2 0 rfl rfl b16 dX10_isNumber_41 (fun H locs hP hD hS => ?_)
      obtain ⟨mrea_u17, emrea_u17⟩ : ∃ f : Nat → Int32, f = upd mrea at_.toNatClampNeg mnum_c8 := ⟨_, rfl⟩
      have hP : va_P (dC, dI) vwCl (wMdR cI cZ cQ b mday mdoo mtel mgai mbyt mtxt mpos_c4 mtka_c5 mtok_c6 mdig_c7 mnum_c8 mfau mrdm mrea_u17 mlin mbsm) H := by rw [emrea_u17]; exact hP
      have hD : va_D A (wMdR cI cZ cQ b mday mdoo mtel mgai mbyt mtxt mpos_c4 mtka_c5 mtok_c6 mdig_c7 mnum_c8 mfau mrdm mrea_u17 mlin mbsm) := by rw [emrea_u17]; exact hD
      refine lv_iconst (v := 1) hx hb dX10_isNumber_42 (by decide) ?_
      exact W.zret (v := 1) hx hb hr (by decide) (fun tq ht hW => ⟨⟨1, (uS [(fun _ => mpos_c4), (fun _ => mtka_c5), (fun _ => 0), (fun _ => mdig_c7), (fun _ => mnum_c8), (fun _ => mfau), mrea_u17] mtok_c6 (fun _ => 0)), rfl, ⟨(Or.inl (⟨rfl, (show imT mtxt mbyt.toInt mpos.toInt least.toInt most.toInt at_.toNatClampNeg mrea mrea_u17 mpos_c4.toInt from by (try rw [show (1 : Int32).toInt = 1 from (show (1 : Int32).toInt = 1 from rfl)]); (first | exact ⟨_, in_yes (by assumption) (by assumption) (by assumption) (by assumption) (by omega) (by assumption) (by omega), (nn_m1 (by omega)), by assumption, nx_of (by assumption) (by assumption)⟩ | exact ⟨⟨in_n1 (by assumption) (by assumption) (by assumption) (by omega) (by assumption), fa_of (by assumption) (by assumption)⟩, rfl⟩ | exact ⟨⟨in_n2 (by assumption) (by assumption) (by assumption) (by assumption) (by omega) (by assumption) (by omega), fa_of (by assumption) (by assumption)⟩, rfl⟩))⟩)), (show mpos_c4.toInt ≤ mbyt.toInt from by (try rw [show (1 : Int32).toInt = 1 from (show (1 : Int32).toInt = 1 from rfl)]); omega), h2_7⟩, by rw [ht]; exact hP, hD⟩, hS.F ht⟩) hS.2.2 dX10_isNumber_43
    · refine lv_if_ne (tgt := 32) hx hb dX10_isNumber_24 (by decide) (fun c9 => absurd (by decide) c9) (fun _ => ?_)
      refine lv_aload_n hx hb dX10_isNumber_27 rfl (lv_at hl 0 rfl) ?_
      refine wrV (As := []) (rest := []) (wr := [((b 28), .inl (cI, 30, .inl mrea))]) (w2 := (fun u : US => (wMdR cI cZ cQ b mday mdoo mtel mgai mbyt mtxt mpos_c4 mtka_c5 mtok_c6 mdig_c7 mnum_c8 (u.1 0 0) mrdm mrea mlin mbsm))) ⟨hx, hb, hml, hown, hts⟩ (k_X10_fails2 l dC dI cI cZ cQ b mday mdoo mtel mgai mbyt mtxt mpos_c4 mtka_c5 mtok_c6 mdig_c7 mnum_c8 mfau mrdm mlin mbsm _ r_mday r_mdoo r_mgai r_mbyt h2_7 r_mrdm r_mlin) (cwV 0 hts gX10_isNumber_X10_fails rfl rfl rfl (by decide +kernel) ⟨Nat.le_of_ble_eq_true rfl, Nat.le_of_ble_eq_true rfl⟩) hP hD hS hA hK hN [0, 1] [2] [1, 2, 0] rfl rfl (by decide) (by decide) (by decide) (fun _ => rfl) (by decide) 0 10 rfl rfl rfl hl.1 rfl (Nat.le_of_ble_eq_true rfl) dX10_isNumber_28 ⟨Nat.le_of_ble_eq_true rfl, Nat.le_of_ble_eq_true rfl⟩ (fun r18 u20 H locs h19 hP hD hS => ?_)
      obtain ⟨mfau_c21, emfau_c21⟩ : ∃ f : Int32, f = (u20.1 0 0) := ⟨_, rfl⟩
      have hP : va_P (dC, dI) vwCl (wMdR cI cZ cQ b mday mdoo mtel mgai mbyt mtxt mpos_c4 mtka_c5 mtok_c6 mdig_c7 mnum_c8 mfau_c21 mrdm mrea mlin mbsm) H := by rw [emfau_c21]; exact hP
      have hD : va_D A (wMdR cI cZ cQ b mday mdoo mtel mgai mbyt mtxt mpos_c4 mtka_c5 mtok_c6 mdig_c7 mnum_c8 mfau_c21 mrdm mrea mlin mbsm) := by rw [emfau_c21]; exact hD
      have h19 : ((((r18 = 0) ∧ (mfau_c21 = mtka_c5)))) := by (try rw [emfau_c21]); exact h19
      rcases h19 with (⟨rfl, h19_a0⟩)
      · exact W.zret (v := 0) hx hb hr (by decide) (fun tq ht hW => ⟨⟨0, (uS [(fun _ => mpos_c4), (fun _ => mtka_c5), (fun _ => 0), (fun _ => mdig_c7), (fun _ => mnum_c8), (fun _ => mfau_c21), mrea] mtok_c6 (fun _ => 0)), rfl, ⟨(Or.inr (⟨rfl, (show imN mtxt mbyt.toInt mpos.toInt least.toInt most.toInt mfau_c21.toInt mrea mrea from by (try rw [show (0 : Int32).toInt = 0 from (show (0 : Int32).toInt = 0 from rfl)]); (first | exact ⟨_, in_yes (by assumption) (by assumption) (by assumption) (by assumption) (by omega) (by assumption) (by omega), (nn_m1 (by omega)), by assumption, nx_of (by assumption) (by assumption)⟩ | exact ⟨⟨in_n1 (by assumption) (by assumption) (by assumption) (by omega) (by assumption), fa_of (by assumption) (by assumption)⟩, rfl⟩ | exact ⟨⟨in_n2 (by assumption) (by assumption) (by assumption) (by assumption) (by omega) (by assumption) (by omega), fa_of (by assumption) (by assumption)⟩, rfl⟩))⟩)), (show mpos_c4.toInt ≤ mbyt.toInt from by (try rw [show (0 : Int32).toInt = 0 from (show (0 : Int32).toInt = 0 from rfl)]); omega), h2_7⟩, by rw [ht]; exact hP, hD⟩, hS.F ht⟩) hS.2.2 dX10_isNumber_31
set_option maxHeartbeats 4000000 in
set_option maxRecDepth 100000 in
theorem k_X10_isWord2 (l : Launch) (dC : Nat → ClassId) (dI : Nat → Nat → Nat) (cI cZ cQ : ClassId) (b : Nat → Nat) (mday : Int32) (mdoo : Int32) (mtel : Int32) (mgai : Int32) (mbyt : Int32) (mtxt : Nat → Int32) (mpos : Int32) (mtka : Int32) (mtok : Int64) (mdig : Int32) (mnum : Int32) (mfau : Int32) (mrdm : Int32) (mlin : Int32) (mbsm : Int32) (sz : Nat) (w : Int64) (r_mday : 0 ≤ mday.toInt ∧ mday.toInt ≤ 400) (r_mdoo : 0 ≤ mdoo.toInt ∧ mdoo.toInt ≤ 14) (r_mgai : 0 ≤ mgai.toInt ∧ mgai.toInt ≤ 100) (r_mbyt : 0 ≤ mbyt.toInt ∧ mbyt.toInt ≤ 160) (r_mpos : 0 ≤ mpos.toInt ∧ mpos.toInt ≤ 160) (r_mrdm : 0 ≤ mrdm.toInt ∧ mrdm.toInt ≤ 10) (r_mlin : 0 ≤ mlin.toInt ∧ mlin.toInt ≤ 10) (q0 : mpos.toInt ≤ mbyt.toInt) : KW l yX10_isWord wsX10_isWord { frames := 2, cells := 0, slots := 0, locals := 42 } (dC, dI) (TY cI cZ cQ) (wMdT cI cZ cQ b mday mdoo mtel mgai mbyt mtxt mpos mtka mtok mdig mnum mfau mrdm mlin mbsm) [.ref (b 39), .long w] sz 0 0 (fun (r : Int32) (u : US) => ((((r = 1) ∧ (tkW mtxt mbyt.toInt mpos.toInt = w) ∧ ((u.1 0 0).toInt = nx mtxt mbyt.toInt mpos.toInt)) ∨ ((r = 0) ∧ (tkW mtxt mbyt.toInt mpos.toInt ≠ w) ∧ ((u.1 5 0).toInt = tS mtxt mbyt.toInt mpos.toInt)))) ∧ ((u.1 0 0).toInt ≤ mbyt.toInt) ∧ (0 ≤ (u.1 0 0).toInt ∧ (u.1 0 0).toInt ≤ 160)) (fun u : US => (wMdT cI cZ cQ b mday mdoo mtel mgai mbyt mtxt (u.1 0 0) (u.1 1 0) u.2.1 (u.1 3 0) (u.1 4 0) (u.1 5 0) mrdm mlin mbsm)) := by
  refine Met.ofW (cc := cX10_isWord) (maxL := 3) (ret := (some .boolean)) (by decide) rfl ?_
  intro p e s m args below meth c s₁ B hml hv
  obtain ⟨rfl, hsz, hP, hK, hD0, hN⟩ := hv
  have hx := B.exec
  have hb := B.bytes
  have hr := B.returns
  have hts := atoms_spec (ws := wsX10_isWord) B.pre
  have hown : s.vm.findClass RX10 = some m.cls := findClass_of_methodNamed B.named
  have hlocks := B.notSynchronized
  have lf160 := hts (.fieldLink RX10 160 "PalaceOfRoomsModel" "token" "J") (List.mem_cons_of_mem _ (List.mem_append_left _ (List.mem_append_left _ (List.mem_of_getElem? (i := 0) rfl))))
  have inX10 : ∀ w ∈ wsX100, w ∈ wsX10_isWord := fun w h => List.mem_cons_of_mem _ (List.mem_append_right _ h)
  subst hsz
  have hD := hD0.self (sz := s.heap.size)
  generalize hAe : va_A (wMdT cI cZ cQ b mday mdoo mtel mgai mbyt mtxt mpos mtka mtok mdig mnum mfau mrdm mlin mbsm) s.heap.size = A at hD ⊢
  have hA : ∀ q : Nat, s.heap.size ≤ q → A q := fun q h => by rw [← hAe]; exact Or.inr h
  have hS : va_S A s.heap s.heap [] := va_S.rf
  have hl := lv_entry ([.ref (b 39), .long w]) (n := 3) (Nat.le_of_ble_eq_true rfl)
  rw [lg_entry_eq]
  generalize (lg_sl ([.ref (b 39), .long w]) ++ List.replicate (3 - (lg_sl ([.ref (b 39), .long w])).length) Slot.unset).toArray = ls at hl ⊢
  have hl : lv_has ls 3 [(0, .ref (b 39)), (1, .long w)] := hl
  refine lv_aload_n hx hb dX10_isWord_0 rfl (lv_at hl 0 rfl) ?_
  refine wvV (As := []) (rest := []) (wr := []) (w2 := (fun u : US => (wMdT cI cZ cQ b mday mdoo mtel mgai mbyt mtxt (u.1 0 0) (u.1 1 0) u.2.1 (u.1 3 0) (u.1 4 0) mfau mrdm mlin mbsm))) ⟨hx, hb, hml, hown, hts⟩ (k_X10_nextToken2 l dC dI cI cZ cQ b mday mdoo mtel mgai mbyt mtxt mpos mtka mtok mdig mnum mfau mrdm mlin mbsm _ r_mday r_mdoo r_mgai r_mbyt r_mpos r_mrdm r_mlin (by omega)) (cwV 0 hts gX10_isWord_X10_nextToken rfl rfl rfl (by decide +kernel) ⟨Nat.le_of_ble_eq_true rfl, Nat.le_of_ble_eq_true rfl⟩) hP hD hS hA hK hN [0, 1] [] [0, 1] rfl rfl (by decide) (by decide) (by decide) (fun _ => rfl) (by decide) 0 10 rfl rfl rfl hl.1 rfl (Nat.le_of_ble_eq_true rfl) dX10_isWord_1 ⟨Nat.le_of_ble_eq_true rfl, Nat.le_of_ble_eq_true rfl⟩ (fun u3 H locs h2 hP hD hS => ?_)
  obtain ⟨mpos_c4, empos_c4⟩ : ∃ f : Int32, f = (u3.1 0 0) := ⟨_, rfl⟩
  obtain ⟨mtka_c5, emtka_c5⟩ : ∃ f : Int32, f = (u3.1 1 0) := ⟨_, rfl⟩
  obtain ⟨mtok_c6, emtok_c6⟩ : ∃ f : Int64, f = u3.2.1 := ⟨_, rfl⟩
  obtain ⟨mdig_c7, emdig_c7⟩ : ∃ f : Int32, f = (u3.1 3 0) := ⟨_, rfl⟩
  obtain ⟨mnum_c8, emnum_c8⟩ : ∃ f : Int32, f = (u3.1 4 0) := ⟨_, rfl⟩
  have hP : va_P (dC, dI) vwCl (wMdT cI cZ cQ b mday mdoo mtel mgai mbyt mtxt mpos_c4 mtka_c5 mtok_c6 mdig_c7 mnum_c8 mfau mrdm mlin mbsm) H := by rw [empos_c4, emtka_c5, emtok_c6, emdig_c7, emnum_c8]; exact hP
  have hD : va_D A (wMdT cI cZ cQ b mday mdoo mtel mgai mbyt mtxt mpos_c4 mtka_c5 mtok_c6 mdig_c7 mnum_c8 mfau mrdm mlin mbsm) := by rw [empos_c4, emtka_c5, emtok_c6, emdig_c7, emnum_c8]; exact hD
  have h2 : (mpos_c4.toInt ≤ mbyt.toInt) ∧ (0 ≤ mtka_c5.toInt) ∧ (mtka_c5.toInt ≤ mpos_c4.toInt) ∧ (mtka_c5.toInt = tS mtxt mbyt.toInt mpos.toInt) ∧ (mpos_c4.toInt = tE mtxt mbyt.toInt mtka_c5.toInt) ∧ (mtok_c6 = tkV mtxt mbyt.toInt mtka_c5.toInt mpos_c4.toInt) ∧ (nmP mtxt mbyt.toInt mtka_c5.toInt mpos_c4.toInt mnum_c8) ∧ (0 ≤ mpos_c4.toInt ∧ mpos_c4.toInt ≤ 160) := by (try rw [empos_c4]); (try rw [emtka_c5]); (try rw [emtok_c6]); (try rw [emdig_c7]); (try rw [emnum_c8]); exact h2
  obtain ⟨h2_0, h2_1, h2_2, h2_3, h2_4, h2_5, h2_6, h2_7⟩ := h2
  refine lv_aload_n hx hb dX10_isWord_4 rfl (lv_at hl 0 rfl) ?_
  refine va_get (D := (dC, dI)) (ci := 10) (v := .long mtok_c6) (C := RX10) (T := TX10) (N := 39) hx hb hts inX10 hown hK hP 0 rfl rfl 23 (by decide) lf160 (fun _ h9 => h9) rfl dX10_isWord_5 ?_
  refine lv_lload_n hx hb dX10_isWord_8 rfl (lv_at hl 1 rfl) ?_
  refine W.lcmp hx hb dX10_isWord_9 ?_
  refine lv_if_eq (tgt := 20) hx hb dX10_isWord_10 (by decide) (fun c9 => ?_) (fun c9 => ?_)
  · have dc9 : (lg_cmp mtok_c6 w).toInt = 0 := eqC rfl (show (0 : Int32).toInt = 0 from rfl) c9
    refine lv_iconst (v := 1) hx hb dX10_isWord_20 (by decide) ?_
    refine lv_goto (tgt := 25) hx hb dX10_isWord_21 (by decide) ?_
    exact W.zret (v := 1) hx hb hr (by decide) (fun tq ht hW => ⟨⟨1, (uS [(fun _ => mpos_c4), (fun _ => mtka_c5), (fun _ => 0), (fun _ => mdig_c7), (fun _ => mnum_c8), (fun _ => mfau)] mtok_c6 (fun _ => 0)), rfl, ⟨(Or.inl (⟨rfl, (show tkW mtxt mbyt.toInt mpos.toInt = w from by (try rw [show (1 : Int32).toInt = 1 from (show (1 : Int32).toInt = 1 from rfl)]); (first | exact tw_y (by assumption) (by assumption) (by assumption) (by assumption) | exact tw_n (by assumption) (by assumption) (by assumption) (by assumption))), (show mpos_c4.toInt = nx mtxt mbyt.toInt mpos.toInt from by (try rw [show (1 : Int32).toInt = 1 from (show (1 : Int32).toInt = 1 from rfl)]); (first | exact nx_of (by assumption) (by assumption) | exact fa_of (by assumption) (by assumption)))⟩)), (show mpos_c4.toInt ≤ mbyt.toInt from by (try rw [show (1 : Int32).toInt = 1 from (show (1 : Int32).toInt = 1 from rfl)]); omega), h2_7⟩, by rw [ht]; exact hP, hD⟩, hS.F ht⟩) hS.2.2 dX10_isWord_25
  · have dc9 : (lg_cmp mtok_c6 w).toInt ≠ 0 := neC rfl (show (0 : Int32).toInt = 0 from rfl) c9
    refine lv_aload_n hx hb dX10_isWord_13 rfl (lv_at hl 0 rfl) ?_
    refine wrV (As := []) (rest := []) (wr := []) (w2 := (fun u : US => (wMdT cI cZ cQ b mday mdoo mtel mgai mbyt mtxt mpos_c4 mtka_c5 mtok_c6 mdig_c7 mnum_c8 (u.1 0 0) mrdm mlin mbsm))) ⟨hx, hb, hml, hown, hts⟩ (k_X10_fails2 l dC dI cI cZ cQ b mday mdoo mtel mgai mbyt mtxt mpos_c4 mtka_c5 mtok_c6 mdig_c7 mnum_c8 mfau mrdm mlin mbsm _ r_mday r_mdoo r_mgai r_mbyt h2_7 r_mrdm r_mlin) (cwV 0 hts gX10_isWord_X10_fails rfl rfl rfl (by decide +kernel) ⟨Nat.le_of_ble_eq_true rfl, Nat.le_of_ble_eq_true rfl⟩) hP hD hS hA hK hN [0, 1] [] [0, 1] rfl rfl (by decide) (by decide) (by decide) (fun _ => rfl) (by decide) 0 10 rfl rfl rfl hl.1 rfl (Nat.le_of_ble_eq_true rfl) dX10_isWord_14 ⟨Nat.le_of_ble_eq_true rfl, Nat.le_of_ble_eq_true rfl⟩ (fun r10 u12 H locs h11 hP hD hS => ?_)
    obtain ⟨mfau_c13, emfau_c13⟩ : ∃ f : Int32, f = (u12.1 0 0) := ⟨_, rfl⟩
    have hP : va_P (dC, dI) vwCl (wMdT cI cZ cQ b mday mdoo mtel mgai mbyt mtxt mpos_c4 mtka_c5 mtok_c6 mdig_c7 mnum_c8 mfau_c13 mrdm mlin mbsm) H := by rw [emfau_c13]; exact hP
    have hD : va_D A (wMdT cI cZ cQ b mday mdoo mtel mgai mbyt mtxt mpos_c4 mtka_c5 mtok_c6 mdig_c7 mnum_c8 mfau_c13 mrdm mlin mbsm) := by rw [emfau_c13]; exact hD
    have h11 : ((((r10 = 0) ∧ (mfau_c13 = mtka_c5)))) := by (try rw [emfau_c13]); exact h11
    rcases h11 with (⟨rfl, h11_a0⟩)
    · refine lv_if_eq (tgt := 24) hx hb dX10_isWord_17 (by decide) (fun _ => ?_) (fun c9 => absurd (by decide) c9)
      refine lv_iconst (v := 0) hx hb dX10_isWord_24 (by decide) ?_
      exact W.zret (v := 0) hx hb hr (by decide) (fun tq ht hW => ⟨⟨0, (uS [(fun _ => mpos_c4), (fun _ => mtka_c5), (fun _ => 0), (fun _ => mdig_c7), (fun _ => mnum_c8), (fun _ => mfau_c13)] mtok_c6 (fun _ => 0)), rfl, ⟨(Or.inr (⟨rfl, (show tkW mtxt mbyt.toInt mpos.toInt ≠ w from by (try rw [show (0 : Int32).toInt = 0 from (show (0 : Int32).toInt = 0 from rfl)]); (first | exact tw_y (by assumption) (by assumption) (by assumption) (by assumption) | exact tw_n (by assumption) (by assumption) (by assumption) (by assumption))), (show mfau_c13.toInt = tS mtxt mbyt.toInt mpos.toInt from by (try rw [show (0 : Int32).toInt = 0 from (show (0 : Int32).toInt = 0 from rfl)]); (first | exact nx_of (by assumption) (by assumption) | exact fa_of (by assumption) (by assumption)))⟩)), (show mpos_c4.toInt ≤ mbyt.toInt from by (try rw [show (0 : Int32).toInt = 0 from (show (0 : Int32).toInt = 0 from rfl)]); omega), h2_7⟩, by rw [ht]; exact hP, hD⟩, hS.F ht⟩) hS.2.2 dX10_isWord_25
end
section
set_option maxHeartbeats 4000000 in
set_option maxRecDepth 100000 in
theorem k_X10_isLine2 (l : Launch) (dC : Nat → ClassId) (dI : Nat → Nat → Nat) (cI cZ cQ : ClassId) (b : Nat → Nat) (mday : Int32) (mdoo : Int32) (mtel : Int32) (mgai : Int32) (mbyt : Int32) (mtxt : Nat → Int32) (mpos : Int32) (mtka : Int32) (mtok : Int64) (mdig : Int32) (mnum : Int32) (mfau : Int32) (mrdm : Int32) (mrea : Nat → Int32) (mlin : Int32) (mbsm : Int32) (sz : Nat) (at_ : Int32) (r_mday : 0 ≤ mday.toInt ∧ mday.toInt ≤ 400) (r_mdoo : 0 ≤ mdoo.toInt ∧ mdoo.toInt ≤ 14) (r_mgai : 0 ≤ mgai.toInt ∧ mgai.toInt ≤ 100) (r_mbyt : 0 ≤ mbyt.toInt ∧ mbyt.toInt ≤ 160) (r_mpos : 0 ≤ mpos.toInt ∧ mpos.toInt ≤ 160) (r_mrdm : 0 ≤ mrdm.toInt ∧ mrdm.toInt ≤ 10) (r_mlin : 0 ≤ mlin.toInt ∧ mlin.toInt ≤ 10) (q0 : 0 ≤ at_.toInt) (q1 : at_.toInt ≤ 27) (q2 : mpos.toInt ≤ mbyt.toInt) : KW l yX10_isLine wsX10_isLine { frames := 3, cells := 0, slots := 0, locals := 65 } (dC, dI) (TY cI cZ cQ) (wMdR cI cZ cQ b mday mdoo mtel mgai mbyt mtxt mpos mtka mtok mdig mnum mfau mrdm mrea mlin mbsm) [.ref (b 39), .int at_] sz 0 0 (fun (r : Int32) (u : US) => ((((r = 1) ∧ (lnM mtxt mbyt.toInt mpos.toInt at_ mrea (u.1 6) (u.1 0 0).toInt)) ∨ ((r = 0) ∧ (lnR mtxt mbyt.toInt mpos.toInt at_ mrea (u.1 6) (u.1 5 0).toInt)))) ∧ ((u.1 0 0).toInt ≤ mbyt.toInt) ∧ (0 ≤ (u.1 0 0).toInt ∧ (u.1 0 0).toInt ≤ 160)) (fun u : US => (wMdR cI cZ cQ b mday mdoo mtel mgai mbyt mtxt (u.1 0 0) (u.1 1 0) u.2.1 (u.1 3 0) (u.1 4 0) (u.1 5 0) mrdm (u.1 6) mlin mbsm)) := by
  refine Met.ofW (cc := cX10_isLine) (maxL := 2) (ret := (some .boolean)) (by decide) rfl ?_
  intro p e s m args below meth c s₁ B hml hv
  obtain ⟨rfl, hsz, hP, hK, hD0, hN⟩ := hv
  have hx := B.exec
  have hb := B.bytes
  have hr := B.returns
  have hts := atoms_spec (ws := wsX10_isLine) B.pre
  have hown : s.vm.findClass RX10 = some m.cls := findClass_of_methodNamed B.named
  have hlocks := B.notSynchronized
  have lf65 := hts (.fieldLink RX10 65 "PalaceOfRoomsModel" "read" "[I") (List.mem_cons_of_mem _ (List.mem_append_left _ (List.mem_append_left _ (List.mem_of_getElem? (i := 0) rfl))))
  have inX10 : ∀ w ∈ wsX100, w ∈ wsX10_isLine := fun w h => List.mem_cons_of_mem _ (List.mem_append_right _ h)
  have lf160 := hts (.fieldLink RX10 160 "PalaceOfRoomsModel" "token" "J") (List.mem_cons_of_mem _ (List.mem_append_left _ (List.mem_append_left _ (List.mem_of_getElem? (i := 1) rfl))))
  subst hsz
  have hD := hD0.self (sz := s.heap.size)
  generalize hAe : va_A (wMdR cI cZ cQ b mday mdoo mtel mgai mbyt mtxt mpos mtka mtok mdig mnum mfau mrdm mrea mlin mbsm) s.heap.size = A at hD ⊢
  have hA : ∀ q : Nat, s.heap.size ≤ q → A q := fun q h => by rw [← hAe]; exact Or.inr h
  have hS : va_S A s.heap s.heap [] := va_S.rf
  have hl := lv_entry ([.ref (b 39), .int at_]) (n := 2) (Nat.le_of_ble_eq_true rfl)
  rw [lg_entry_eq]
  generalize (lg_sl ([.ref (b 39), .int at_]) ++ List.replicate (2 - (lg_sl ([.ref (b 39), .int at_])).length) Slot.unset).toArray = ls at hl ⊢
  have hl : lv_has ls 2 [(0, .ref (b 39)), (1, .int at_)] := hl
  refine lv_aload_n hx hb dX10_isLine_0 rfl (lv_at hl 0 rfl) ?_
  refine wvV (As := []) (rest := []) (wr := [((b 28), .inl (cI, 30, .inl mrea))]) (w2 := (fun u : US => (wMdR cI cZ cQ b mday mdoo mtel mgai mbyt mtxt (u.1 0 0) (u.1 1 0) u.2.1 (u.1 3 0) (u.1 4 0) mfau mrdm mrea mlin mbsm))) ⟨hx, hb, hml, hown, hts⟩ (k_X10_nextToken2 l dC dI cI cZ cQ b mday mdoo mtel mgai mbyt mtxt mpos mtka mtok mdig mnum mfau mrdm mlin mbsm _ r_mday r_mdoo r_mgai r_mbyt r_mpos r_mrdm r_mlin (by omega)) (cwV 0 hts gX10_isLine_X10_nextToken rfl rfl rfl (by decide +kernel) ⟨Nat.le_of_ble_eq_true rfl, Nat.le_of_ble_eq_true rfl⟩) hP hD hS hA hK hN [0, 1] [2] [1, 2, 0] rfl rfl (by decide) (by decide) (by decide) (fun _ => rfl) (by decide) 0 10 rfl rfl rfl hl.1 rfl (Nat.le_of_ble_eq_true rfl) dX10_isLine_1 ⟨Nat.le_of_ble_eq_true rfl, Nat.le_of_ble_eq_true rfl⟩ (fun u3 H locs h2 hP hD hS => ?_)
  obtain ⟨mpos_c4, empos_c4⟩ : ∃ f : Int32, f = (u3.1 0 0) := ⟨_, rfl⟩
  obtain ⟨mtka_c5, emtka_c5⟩ : ∃ f : Int32, f = (u3.1 1 0) := ⟨_, rfl⟩
  obtain ⟨mtok_c6, emtok_c6⟩ : ∃ f : Int64, f = u3.2.1 := ⟨_, rfl⟩
  obtain ⟨mdig_c7, emdig_c7⟩ : ∃ f : Int32, f = (u3.1 3 0) := ⟨_, rfl⟩
  obtain ⟨mnum_c8, emnum_c8⟩ : ∃ f : Int32, f = (u3.1 4 0) := ⟨_, rfl⟩
  have hP : va_P (dC, dI) vwCl (wMdR cI cZ cQ b mday mdoo mtel mgai mbyt mtxt mpos_c4 mtka_c5 mtok_c6 mdig_c7 mnum_c8 mfau mrdm mrea mlin mbsm) H := by rw [empos_c4, emtka_c5, emtok_c6, emdig_c7, emnum_c8]; exact hP
  have hD : va_D A (wMdR cI cZ cQ b mday mdoo mtel mgai mbyt mtxt mpos_c4 mtka_c5 mtok_c6 mdig_c7 mnum_c8 mfau mrdm mrea mlin mbsm) := by rw [empos_c4, emtka_c5, emtok_c6, emdig_c7, emnum_c8]; exact hD
  have h2 : (mpos_c4.toInt ≤ mbyt.toInt) ∧ (0 ≤ mtka_c5.toInt) ∧ (mtka_c5.toInt ≤ mpos_c4.toInt) ∧ (mtka_c5.toInt = tS mtxt mbyt.toInt mpos.toInt) ∧ (mpos_c4.toInt = tE mtxt mbyt.toInt mtka_c5.toInt) ∧ (mtok_c6 = tkV mtxt mbyt.toInt mtka_c5.toInt mpos_c4.toInt) ∧ (nmP mtxt mbyt.toInt mtka_c5.toInt mpos_c4.toInt mnum_c8) ∧ (0 ≤ mpos_c4.toInt ∧ mpos_c4.toInt ≤ 160) := by (try rw [empos_c4]); (try rw [emtka_c5]); (try rw [emtok_c6]); (try rw [emdig_c7]); (try rw [emnum_c8]); exact h2
  obtain ⟨h2_0, h2_1, h2_2, h2_3, h2_4, h2_5, h2_6, h2_7⟩ := h2
  have L71 : ∀ (mrea_71 : Nat → Int32) (H : Heap) (locs : List Loc) (ls : Array Slot), (ilA mtxt mbyt.toInt mpos.toInt at_ mrea mrea_71) → va_P (dC, dI) vwCl (wMdR cI cZ cQ b mday mdoo mtel mgai mbyt mtxt mpos_c4 mtka_c5 mtok_c6 mdig_c7 mnum_c8 mfau mrdm mrea_71 mlin mbsm) H → va_D A (wMdR cI cZ cQ b mday mdoo mtel mgai mbyt mtxt mpos_c4 mtka_c5 mtok_c6 mdig_c7 mnum_c8 mfau mrdm mrea_71 mlin mbsm) → va_S A s.heap H locs → lv_has ls 2 [(0, .ref (b 39)), (1, .int at_)] → W p l e (headSpec wsX10_isLine { frames := 3, cells := 0, slots := 0, locals := 65 }).room s m ([.ref (b 39), .int at_] : List Value).toArray below meth c H locs 0 0 (MQ below (va_Qi (fun (r : Int32) (u : US) => ((((r = 1) ∧ (lnM mtxt mbyt.toInt mpos.toInt at_ mrea (u.1 6) (u.1 0 0).toInt)) ∨ ((r = 0) ∧ (lnR mtxt mbyt.toInt mpos.toInt at_ mrea (u.1 6) (u.1 5 0).toInt)))) ∧ ((u.1 0 0).toInt ≤ mbyt.toInt) ∧ (0 ≤ (u.1 0 0).toInt ∧ (u.1 0 0).toInt ≤ 160)) (Bw (dC, dI) A (fun u : US => (wMdR cI cZ cQ b mday mdoo mtel mgai mbyt mtxt (u.1 0 0) (u.1 1 0) u.2.1 (u.1 3 0) (u.1 4 0) (u.1 5 0) mrdm (u.1 6) mlin mbsm))) A) ([.ref (b 39), .int at_] : List Value).toArray s 0 0 A) (F0 m 71 ls []) := by
    intro mrea_71 H locs ls i71_0 hP hD hS hl
    refine lv_aload_n hx hb dX10_isLine_71 rfl (lv_at hl 0 rfl) ?_
    refine va_get (D := (dC, dI)) (ci := 10) (v := .ref (b 28)) (C := RX10) (T := TX10) (N := 39) hx hb hts inX10 hown hK hP 0 rfl rfl 28 (by decide) lf65 (fun _ h9 => h9) rfl dX10_isLine_72 ?_
    refine lv_iload_n hx hb dX10_isLine_75 rfl (lv_at hl 1 rfl) ?_
    refine lv_iconst (v := 1) hx hb dX10_isLine_76 (by decide) ?_
    refine lv_iadd hx hb dX10_isLine_77 ?_
    have f9 : (at_ + 1).toInt = (at_.toInt) + (1) := addC rfl (show (1 : Int32).toInt = 1 from rfl) (by omega) (by omega)
    refine lv_iconst (v := 0) hx hb dX10_isLine_78 (by decide) ?_
    have b10 : vp_in (at_ + 1) 30 := inC f9 (by omega) (by omega)
    refine va_iast hx hb hK hP hD hS 2 0 rfl rfl b10 dX10_isLine_79 (fun H locs hP hD hS => ?_)
    obtain ⟨mrea_u11, emrea_u11⟩ : ∃ f : Nat → Int32, f = upd mrea_71 (at_ + 1).toNatClampNeg 0 := ⟨_, rfl⟩
    have hP : va_P (dC, dI) vwCl (wMdR cI cZ cQ b mday mdoo mtel mgai mbyt mtxt mpos_c4 mtka_c5 mtok_c6 mdig_c7 mnum_c8 mfau mrdm mrea_u11 mlin mbsm) H := by rw [emrea_u11]; exact hP
    have hD : va_D A (wMdR cI cZ cQ b mday mdoo mtel mgai mbyt mtxt mpos_c4 mtka_c5 mtok_c6 mdig_c7 mnum_c8 mfau mrdm mrea_u11 mlin mbsm) := by rw [emrea_u11]; exact hD
    refine lv_aload_n hx hb dX10_isLine_80 rfl (lv_at hl 0 rfl) ?_
    refine va_get (D := (dC, dI)) (ci := 10) (v := .ref (b 28)) (C := RX10) (T := TX10) (N := 39) hx hb hts inX10 hown hK hP 0 rfl rfl 28 (by decide) lf65 (fun _ h9 => h9) rfl dX10_isLine_81 ?_
    refine lv_iload_n hx hb dX10_isLine_84 rfl (lv_at hl 1 rfl) ?_
    have b12 : vp_in at_ 30 := inC rfl (by omega) (by omega)
    refine va_iald hx hb hK hP 2 0 rfl rfl b12 dX10_isLine_85 ?_
    have hil9 := il_zero (k := (mrea_u11 at_.toNatClampNeg)) i71_0 (by assumption) (by first | assumption | omega) (by omega) rfl
    by_cases w13 : mrea_u11 at_.toNatClampNeg = 0
    · have dw13 : (mrea_u11 at_.toNatClampNeg).toInt = 0 := eqC rfl rfl w13
      refine lv_tableIn (off := 30) (tgt := 116) hx hb dX10_isLine_86 (by rw [w13]; decide) (by rw [w13]; decide) (by rw [w13]; decide) (by decide) ?_
      refine lv_aload_n hx hb dX10_isLine_116 rfl (lv_at hl 0 rfl) ?_
      refine lv_iload_n hx hb dX10_isLine_117 rfl (lv_at hl 1 rfl) ?_
      refine lv_iconst (v := 1) hx hb dX10_isLine_118 (by decide) ?_
      refine lv_iadd hx hb dX10_isLine_119 ?_
      have f14 : (at_ + 1).toInt = (at_.toInt) + (1) := addC rfl (show (1 : Int32).toInt = 1 from rfl) (by omega) (by omega)
      refine lv_iconst (v := 0) hx hb dX10_isLine_120 (by decide) ?_
      refine lv_bipush (v := 7) hx hb dX10_isLine_121 (by decide) ?_
      have kc0 : (0 : Int32).toInt = 0 := rfl
      refine wrV (As := [.int (at_ + 1), .int 0, .int 7]) (rest := []) (wr := []) (w2 := (fun u : US => (wMdR cI cZ cQ b mday mdoo mtel mgai mbyt mtxt (u.1 0 0) (u.1 1 0) u.2.1 (u.1 3 0) (u.1 4 0) (u.1 5 0) mrdm (u.1 6) mlin mbsm))) ⟨hx, hb, hml, hown, hts⟩ (k_X10_isNumber2 l dC dI cI cZ cQ b mday mdoo mtel mgai mbyt mtxt mpos_c4 mtka_c5 mtok_c6 mdig_c7 mnum_c8 mfau mrdm mrea_u11 mlin mbsm _ (at_ + 1) (0 : Int32) (7 : Int32) r_mday r_mdoo r_mgai r_mbyt h2_7 r_mrdm r_mlin (by omega) (by omega) (by omega) (by omega)) (cwV 3 hts gX10_isLine_X10_isNumber rfl rfl rfl (by decide +kernel) ⟨Nat.le_of_ble_eq_true rfl, Nat.le_of_ble_eq_true rfl⟩) hP hD hS hA hK hN [0, 1, 2] [] [0, 1, 2] rfl rfl (by decide) (by decide) (by decide) (fun _ => rfl) (by decide) 0 10 rfl rfl rfl hl.1 rfl (Nat.le_of_ble_eq_true rfl) dX10_isLine_123 ⟨Nat.le_of_ble_eq_true rfl, Nat.le_of_ble_eq_true rfl⟩ (fun r15 u17 H locs h16 hP hD hS => ?_)
      obtain ⟨mpos_c18, empos_c18⟩ : ∃ f : Int32, f = (u17.1 0 0) := ⟨_, rfl⟩
      obtain ⟨mtka_c19, emtka_c19⟩ : ∃ f : Int32, f = (u17.1 1 0) := ⟨_, rfl⟩
      obtain ⟨mtok_c20, emtok_c20⟩ : ∃ f : Int64, f = u17.2.1 := ⟨_, rfl⟩
      obtain ⟨mdig_c21, emdig_c21⟩ : ∃ f : Int32, f = (u17.1 3 0) := ⟨_, rfl⟩
      obtain ⟨mnum_c22, emnum_c22⟩ : ∃ f : Int32, f = (u17.1 4 0) := ⟨_, rfl⟩
      obtain ⟨mfau_c23, emfau_c23⟩ : ∃ f : Int32, f = (u17.1 5 0) := ⟨_, rfl⟩
      obtain ⟨mrea_c24, emrea_c24⟩ : ∃ f : Nat → Int32, f = (u17.1 6) := ⟨_, rfl⟩
      have hP : va_P (dC, dI) vwCl (wMdR cI cZ cQ b mday mdoo mtel mgai mbyt mtxt mpos_c18 mtka_c19 mtok_c20 mdig_c21 mnum_c22 mfau_c23 mrdm mrea_c24 mlin mbsm) H := by rw [empos_c18, emtka_c19, emtok_c20, emdig_c21, emnum_c22, emfau_c23, emrea_c24]; exact hP
      have hD : va_D A (wMdR cI cZ cQ b mday mdoo mtel mgai mbyt mtxt mpos_c18 mtka_c19 mtok_c20 mdig_c21 mnum_c22 mfau_c23 mrdm mrea_c24 mlin mbsm) := by rw [empos_c18, emtka_c19, emtok_c20, emdig_c21, emnum_c22, emfau_c23, emrea_c24]; exact hD
      have h16 : ((((r15 = 1) ∧ (imT mtxt mbyt.toInt mpos_c4.toInt (0) (7) (at_ + 1).toNatClampNeg mrea_u11 mrea_c24 mpos_c18.toInt)) ∨ ((r15 = 0) ∧ (imN mtxt mbyt.toInt mpos_c4.toInt (0) (7) mfau_c23.toInt mrea_u11 mrea_c24)))) ∧ (mpos_c18.toInt ≤ mbyt.toInt) ∧ (0 ≤ mpos_c18.toInt ∧ mpos_c18.toInt ≤ 160) := by (try rw [empos_c18]); (try rw [emtka_c19]); (try rw [emtok_c20]); (try rw [emdig_c21]); (try rw [emnum_c22]); (try rw [emfau_c23]); (try rw [emrea_c24]); exact h16
      rcases h16 with ⟨(⟨rfl, h16_a0⟩ | ⟨rfl, h16_a0⟩), h16_0, h16_1⟩
      · refine lv_if_eq (tgt := 146) hx hb dX10_isLine_126 (by decide) (fun c9 => absurd c9 (by decide)) (fun _ => ?_)
        refine lv_aload_n hx hb dX10_isLine_129 rfl (lv_at hl 0 rfl) ?_
        refine lv_iload_n hx hb dX10_isLine_130 rfl (lv_at hl 1 rfl) ?_
        refine lv_iconst (v := 2) hx hb dX10_isLine_131 (by decide) ?_
        refine lv_iadd hx hb dX10_isLine_132 ?_
        have f25 : (at_ + 2).toInt = (at_.toInt) + (2) := addC rfl (show (2 : Int32).toInt = 2 from rfl) (by omega) (by omega)
        refine lv_iconst (v := 0) hx hb dX10_isLine_133 (by decide) ?_
        refine lv_bipush (v := 8) hx hb dX10_isLine_134 (by decide) ?_
        have kc0 : (0 : Int32).toInt = 0 := rfl
        refine wrV (As := [.int (at_ + 2), .int 0, .int 8]) (rest := []) (wr := []) (w2 := (fun u : US => (wMdR cI cZ cQ b mday mdoo mtel mgai mbyt mtxt (u.1 0 0) (u.1 1 0) u.2.1 (u.1 3 0) (u.1 4 0) (u.1 5 0) mrdm (u.1 6) mlin mbsm))) ⟨hx, hb, hml, hown, hts⟩ (k_X10_isNumber2 l dC dI cI cZ cQ b mday mdoo mtel mgai mbyt mtxt mpos_c18 mtka_c19 mtok_c20 mdig_c21 mnum_c22 mfau_c23 mrdm mrea_c24 mlin mbsm _ (at_ + 2) (0 : Int32) (8 : Int32) r_mday r_mdoo r_mgai r_mbyt h16_1 r_mrdm r_mlin (by omega) (by omega) (by omega) (by omega)) (cwV 3 hts gX10_isLine_X10_isNumber rfl rfl rfl (by decide +kernel) ⟨Nat.le_of_ble_eq_true rfl, Nat.le_of_ble_eq_true rfl⟩) hP hD hS hA hK hN [0, 1, 2] [] [0, 1, 2] rfl rfl (by decide) (by decide) (by decide) (fun _ => rfl) (by decide) 0 10 rfl rfl rfl hl.1 rfl (Nat.le_of_ble_eq_true rfl) dX10_isLine_136 ⟨Nat.le_of_ble_eq_true rfl, Nat.le_of_ble_eq_true rfl⟩ (fun r26 u28 H locs h27 hP hD hS => ?_)
        obtain ⟨mpos_c29, empos_c29⟩ : ∃ f : Int32, f = (u28.1 0 0) := ⟨_, rfl⟩
        obtain ⟨mtka_c30, emtka_c30⟩ : ∃ f : Int32, f = (u28.1 1 0) := ⟨_, rfl⟩
        obtain ⟨mtok_c31, emtok_c31⟩ : ∃ f : Int64, f = u28.2.1 := ⟨_, rfl⟩
        obtain ⟨mdig_c32, emdig_c32⟩ : ∃ f : Int32, f = (u28.1 3 0) := ⟨_, rfl⟩
        obtain ⟨mnum_c33, emnum_c33⟩ : ∃ f : Int32, f = (u28.1 4 0) := ⟨_, rfl⟩
        obtain ⟨mfau_c34, emfau_c34⟩ : ∃ f : Int32, f = (u28.1 5 0) := ⟨_, rfl⟩
        obtain ⟨mrea_c35, emrea_c35⟩ : ∃ f : Nat → Int32, f = (u28.1 6) := ⟨_, rfl⟩
        have hP : va_P (dC, dI) vwCl (wMdR cI cZ cQ b mday mdoo mtel mgai mbyt mtxt mpos_c29 mtka_c30 mtok_c31 mdig_c32 mnum_c33 mfau_c34 mrdm mrea_c35 mlin mbsm) H := by rw [empos_c29, emtka_c30, emtok_c31, emdig_c32, emnum_c33, emfau_c34, emrea_c35]; exact hP
        have hD : va_D A (wMdR cI cZ cQ b mday mdoo mtel mgai mbyt mtxt mpos_c29 mtka_c30 mtok_c31 mdig_c32 mnum_c33 mfau_c34 mrdm mrea_c35 mlin mbsm) := by rw [empos_c29, emtka_c30, emtok_c31, emdig_c32, emnum_c33, emfau_c34, emrea_c35]; exact hD
        have h27 : ((((r26 = 1) ∧ (imT mtxt mbyt.toInt mpos_c18.toInt (0) (8) (at_ + 2).toNatClampNeg mrea_c24 mrea_c35 mpos_c29.toInt)) ∨ ((r26 = 0) ∧ (imN mtxt mbyt.toInt mpos_c18.toInt (0) (8) mfau_c34.toInt mrea_c24 mrea_c35)))) ∧ (mpos_c29.toInt ≤ mbyt.toInt) ∧ (0 ≤ mpos_c29.toInt ∧ mpos_c29.toInt ≤ 160) := by (try rw [empos_c29]); (try rw [emtka_c30]); (try rw [emtok_c31]); (try rw [emdig_c32]); (try rw [emnum_c33]); (try rw [emfau_c34]); (try rw [emrea_c35]); exact h27
        rcases h27 with ⟨(⟨rfl, h27_a0⟩ | ⟨rfl, h27_a0⟩), h27_0, h27_1⟩
        · refine lv_if_eq (tgt := 146) hx hb dX10_isLine_139 (by decide) (fun c9 => absurd c9 (by decide)) (fun _ => ?_)
          refine lv_iconst (v := 1) hx hb dX10_isLine_142 (by decide) ?_
          refine lv_goto (tgt := 147) hx hb dX10_isLine_143 (by decide) ?_
          exact W.zret (v := 1) hx hb hr (by decide) (fun tq ht hW => ⟨⟨1, (uS [(fun _ => mpos_c29), (fun _ => mtka_c30), (fun _ => 0), (fun _ => mdig_c32), (fun _ => mnum_c33), (fun _ => mfau_c34), mrea_c35] mtok_c31 (fun _ => 0)), rfl, ⟨(Or.inl (⟨rfl, (show lnM mtxt mbyt.toInt mpos.toInt at_ mrea mrea_c35 mpos_c29.toInt from by (try rw [show (1 : Int32).toInt = 1 from (show (1 : Int32).toInt = 1 from rfl)]); (first | exact il_room hil9 (by assumption) (nx_of (by assumption) (by assumption)) (by assumption) (by assumption) (by assumption) (by assumption) (by omega) | exact ir_room2 hil9 (by assumption) (nx_of (by assumption) (by assumption)) (by assumption) (by assumption) (by omega) (by assumption) | exact ir_room1 hil9 (by assumption) (nx_of (by assumption) (by assumption)) (by assumption) | exact il_one hil9 (by first | exact Or.inl ⟨by assumption, rfl, rfl⟩ | exact Or.inr ⟨by assumption, rfl, rfl⟩) (nx_of (by assumption) (by assumption)) (by assumption) (by assumption) (by omega) | exact ir_one hil9 (by first | exact Or.inl ⟨by assumption, rfl, rfl⟩ | exact Or.inr ⟨by assumption, rfl, rfl⟩) (nx_of (by assumption) (by assumption)) (by assumption) | exact il_walk hil9 (by assumption) (nx_of (by assumption) (by assumption)) (by assumption) (by assumption) (by assumption) (by assumption) (by assumption) (by assumption) (by omega) | exact ir_walk3 hil9 (by assumption) (nx_of (by assumption) (by assumption)) (by assumption) (by assumption) (by omega) (by assumption) (by assumption) (by assumption) | exact ir_walk2 hil9 (by assumption) (nx_of (by assumption) (by assumption)) (by assumption) (by assumption) (by omega) (by assumption) (by assumption) | exact ir_walk1 hil9 (by assumption) (nx_of (by assumption) (by assumption)) (by assumption) | exact ir_none hil9 (by omega) (fa_of (by assumption) (by assumption))))⟩)), (show mpos_c29.toInt ≤ mbyt.toInt from by (try rw [show (1 : Int32).toInt = 1 from (show (1 : Int32).toInt = 1 from rfl)]); omega), h27_1⟩, by rw [ht]; exact hP, hD⟩, hS.F ht⟩) hS.2.2 dX10_isLine_147
        · refine lv_if_eq (tgt := 146) hx hb dX10_isLine_139 (by decide) (fun _ => ?_) (fun c9 => absurd (by decide) c9)
          refine lv_iconst (v := 0) hx hb dX10_isLine_146 (by decide) ?_
          exact W.zret (v := 0) hx hb hr (by decide) (fun tq ht hW => ⟨⟨0, (uS [(fun _ => mpos_c29), (fun _ => mtka_c30), (fun _ => 0), (fun _ => mdig_c32), (fun _ => mnum_c33), (fun _ => mfau_c34), mrea_c35] mtok_c31 (fun _ => 0)), rfl, ⟨(Or.inr (⟨rfl, (show lnR mtxt mbyt.toInt mpos.toInt at_ mrea mrea_c35 mfau_c34.toInt from by (try rw [show (0 : Int32).toInt = 0 from (show (0 : Int32).toInt = 0 from rfl)]); (first | exact il_room hil9 (by assumption) (nx_of (by assumption) (by assumption)) (by assumption) (by assumption) (by assumption) (by assumption) (by omega) | exact ir_room2 hil9 (by assumption) (nx_of (by assumption) (by assumption)) (by assumption) (by assumption) (by omega) (by assumption) | exact ir_room1 hil9 (by assumption) (nx_of (by assumption) (by assumption)) (by assumption) | exact il_one hil9 (by first | exact Or.inl ⟨by assumption, rfl, rfl⟩ | exact Or.inr ⟨by assumption, rfl, rfl⟩) (nx_of (by assumption) (by assumption)) (by assumption) (by assumption) (by omega) | exact ir_one hil9 (by first | exact Or.inl ⟨by assumption, rfl, rfl⟩ | exact Or.inr ⟨by assumption, rfl, rfl⟩) (nx_of (by assumption) (by assumption)) (by assumption) | exact il_walk hil9 (by assumption) (nx_of (by assumption) (by assumption)) (by assumption) (by assumption) (by assumption) (by assumption) (by assumption) (by assumption) (by omega) | exact ir_walk3 hil9 (by assumption) (nx_of (by assumption) (by assumption)) (by assumption) (by assumption) (by omega) (by assumption) (by assumption) (by assumption) | exact ir_walk2 hil9 (by assumption) (nx_of (by assumption) (by assumption)) (by assumption) (by assumption) (by omega) (by assumption) (by assumption) | exact ir_walk1 hil9 (by assumption) (nx_of (by assumption) (by assumption)) (by assumption) | exact ir_none hil9 (by omega) (fa_of (by assumption) (by assumption))))⟩)), (show mpos_c29.toInt ≤ mbyt.toInt from by (try rw [show (0 : Int32).toInt = 0 from (show (0 : Int32).toInt = 0 from rfl)]); omega), h27_1⟩, by rw [ht]; exact hP, hD⟩, hS.F ht⟩) hS.2.2 dX10_isLine_147
      · refine lv_if_eq (tgt := 146) hx hb dX10_isLine_126 (by decide) (fun _ => ?_) (fun c9 => absurd (by decide) c9)
        refine lv_iconst (v := 0) hx hb dX10_isLine_146 (by decide) ?_
        exact W.zret (v := 0) hx hb hr (by decide) (fun tq ht hW => ⟨⟨0, (uS [(fun _ => mpos_c18), (fun _ => mtka_c19), (fun _ => 0), (fun _ => mdig_c21), (fun _ => mnum_c22), (fun _ => mfau_c23), mrea_c24] mtok_c20 (fun _ => 0)), rfl, ⟨(Or.inr (⟨rfl, (show lnR mtxt mbyt.toInt mpos.toInt at_ mrea mrea_c24 mfau_c23.toInt from by (try rw [show (0 : Int32).toInt = 0 from (show (0 : Int32).toInt = 0 from rfl)]); (first | exact il_room hil9 (by assumption) (nx_of (by assumption) (by assumption)) (by assumption) (by assumption) (by assumption) (by assumption) (by omega) | exact ir_room2 hil9 (by assumption) (nx_of (by assumption) (by assumption)) (by assumption) (by assumption) (by omega) (by assumption) | exact ir_room1 hil9 (by assumption) (nx_of (by assumption) (by assumption)) (by assumption) | exact il_one hil9 (by first | exact Or.inl ⟨by assumption, rfl, rfl⟩ | exact Or.inr ⟨by assumption, rfl, rfl⟩) (nx_of (by assumption) (by assumption)) (by assumption) (by assumption) (by omega) | exact ir_one hil9 (by first | exact Or.inl ⟨by assumption, rfl, rfl⟩ | exact Or.inr ⟨by assumption, rfl, rfl⟩) (nx_of (by assumption) (by assumption)) (by assumption) | exact il_walk hil9 (by assumption) (nx_of (by assumption) (by assumption)) (by assumption) (by assumption) (by assumption) (by assumption) (by assumption) (by assumption) (by omega) | exact ir_walk3 hil9 (by assumption) (nx_of (by assumption) (by assumption)) (by assumption) (by assumption) (by omega) (by assumption) (by assumption) (by assumption) | exact ir_walk2 hil9 (by assumption) (nx_of (by assumption) (by assumption)) (by assumption) (by assumption) (by omega) (by assumption) (by assumption) | exact ir_walk1 hil9 (by assumption) (nx_of (by assumption) (by assumption)) (by assumption) | exact ir_none hil9 (by omega) (fa_of (by assumption) (by assumption))))⟩)), (show mpos_c18.toInt ≤ mbyt.toInt from by (try rw [show (0 : Int32).toInt = 0 from (show (0 : Int32).toInt = 0 from rfl)]); omega), h16_1⟩, by rw [ht]; exact hP, hD⟩, hS.F ht⟩) hS.2.2 dX10_isLine_147
    by_cases w36 : mrea_u11 at_.toNatClampNeg = 1
    · have dw36 : (mrea_u11 at_.toNatClampNeg).toInt = 1 := eqC rfl rfl w36
      refine lv_tableIn (off := 62) (tgt := 148) hx hb dX10_isLine_86 (by rw [w36]; decide) (by rw [w36]; decide) (by rw [w36]; decide) (by decide) ?_
      refine lv_aload_n hx hb dX10_isLine_148 rfl (lv_at hl 0 rfl) ?_
      refine lv_iload_n hx hb dX10_isLine_149 rfl (lv_at hl 1 rfl) ?_
      refine lv_iconst (v := 2) hx hb dX10_isLine_150 (by decide) ?_
      refine lv_iadd hx hb dX10_isLine_151 ?_
      have f37 : (at_ + 2).toInt = (at_.toInt) + (2) := addC rfl (show (2 : Int32).toInt = 2 from rfl) (by omega) (by omega)
      refine lv_iconst (v := 1) hx hb dX10_isLine_152 (by decide) ?_
      refine lv_bipush (v := 99) hx hb dX10_isLine_153 (by decide) ?_
      have kc1 : (1 : Int32).toInt = 1 := rfl
      refine wrV (As := [.int (at_ + 2), .int 1, .int 99]) (rest := []) (wr := []) (w2 := (fun u : US => (wMdR cI cZ cQ b mday mdoo mtel mgai mbyt mtxt (u.1 0 0) (u.1 1 0) u.2.1 (u.1 3 0) (u.1 4 0) (u.1 5 0) mrdm (u.1 6) mlin mbsm))) ⟨hx, hb, hml, hown, hts⟩ (k_X10_isNumber2 l dC dI cI cZ cQ b mday mdoo mtel mgai mbyt mtxt mpos_c4 mtka_c5 mtok_c6 mdig_c7 mnum_c8 mfau mrdm mrea_u11 mlin mbsm _ (at_ + 2) (1 : Int32) (99 : Int32) r_mday r_mdoo r_mgai r_mbyt h2_7 r_mrdm r_mlin (by omega) (by omega) (by omega) (by omega)) (cwV 3 hts gX10_isLine_X10_isNumber rfl rfl rfl (by decide +kernel) ⟨Nat.le_of_ble_eq_true rfl, Nat.le_of_ble_eq_true rfl⟩) hP hD hS hA hK hN [0, 1, 2] [] [0, 1, 2] rfl rfl (by decide) (by decide) (by decide) (fun _ => rfl) (by decide) 0 10 rfl rfl rfl hl.1 rfl (Nat.le_of_ble_eq_true rfl) dX10_isLine_155 ⟨Nat.le_of_ble_eq_true rfl, Nat.le_of_ble_eq_true rfl⟩ (fun r38 u40 H locs h39 hP hD hS => ?_)
      obtain ⟨mpos_c41, empos_c41⟩ : ∃ f : Int32, f = (u40.1 0 0) := ⟨_, rfl⟩
      obtain ⟨mtka_c42, emtka_c42⟩ : ∃ f : Int32, f = (u40.1 1 0) := ⟨_, rfl⟩
      obtain ⟨mtok_c43, emtok_c43⟩ : ∃ f : Int64, f = u40.2.1 := ⟨_, rfl⟩
      obtain ⟨mdig_c44, emdig_c44⟩ : ∃ f : Int32, f = (u40.1 3 0) := ⟨_, rfl⟩
      obtain ⟨mnum_c45, emnum_c45⟩ : ∃ f : Int32, f = (u40.1 4 0) := ⟨_, rfl⟩
      obtain ⟨mfau_c46, emfau_c46⟩ : ∃ f : Int32, f = (u40.1 5 0) := ⟨_, rfl⟩
      obtain ⟨mrea_c47, emrea_c47⟩ : ∃ f : Nat → Int32, f = (u40.1 6) := ⟨_, rfl⟩
      have hP : va_P (dC, dI) vwCl (wMdR cI cZ cQ b mday mdoo mtel mgai mbyt mtxt mpos_c41 mtka_c42 mtok_c43 mdig_c44 mnum_c45 mfau_c46 mrdm mrea_c47 mlin mbsm) H := by rw [empos_c41, emtka_c42, emtok_c43, emdig_c44, emnum_c45, emfau_c46, emrea_c47]; exact hP
      have hD : va_D A (wMdR cI cZ cQ b mday mdoo mtel mgai mbyt mtxt mpos_c41 mtka_c42 mtok_c43 mdig_c44 mnum_c45 mfau_c46 mrdm mrea_c47 mlin mbsm) := by rw [empos_c41, emtka_c42, emtok_c43, emdig_c44, emnum_c45, emfau_c46, emrea_c47]; exact hD
      have h39 : ((((r38 = 1) ∧ (imT mtxt mbyt.toInt mpos_c4.toInt (1) (99) (at_ + 2).toNatClampNeg mrea_u11 mrea_c47 mpos_c41.toInt)) ∨ ((r38 = 0) ∧ (imN mtxt mbyt.toInt mpos_c4.toInt (1) (99) mfau_c46.toInt mrea_u11 mrea_c47)))) ∧ (mpos_c41.toInt ≤ mbyt.toInt) ∧ (0 ≤ mpos_c41.toInt ∧ mpos_c41.toInt ≤ 160) := by (try rw [empos_c41]); (try rw [emtka_c42]); (try rw [emtok_c43]); (try rw [emdig_c44]); (try rw [emnum_c45]); (try rw [emfau_c46]); (try rw [emrea_c47]); exact h39
      rcases h39 with ⟨(⟨rfl, h39_a0⟩ | ⟨rfl, h39_a0⟩), h39_0, h39_1⟩
      · exact W.zret (v := 1) hx hb hr (by decide) (fun tq ht hW => ⟨⟨1, (uS [(fun _ => mpos_c41), (fun _ => mtka_c42), (fun _ => 0), (fun _ => mdig_c44), (fun _ => mnum_c45), (fun _ => mfau_c46), mrea_c47] mtok_c43 (fun _ => 0)), rfl, ⟨(Or.inl (⟨rfl, (show lnM mtxt mbyt.toInt mpos.toInt at_ mrea mrea_c47 mpos_c41.toInt from by (try rw [show (1 : Int32).toInt = 1 from (show (1 : Int32).toInt = 1 from rfl)]); (first | exact il_room hil9 (by assumption) (nx_of (by assumption) (by assumption)) (by assumption) (by assumption) (by assumption) (by assumption) (by omega) | exact ir_room2 hil9 (by assumption) (nx_of (by assumption) (by assumption)) (by assumption) (by assumption) (by omega) (by assumption) | exact ir_room1 hil9 (by assumption) (nx_of (by assumption) (by assumption)) (by assumption) | exact il_one hil9 (by first | exact Or.inl ⟨by assumption, rfl, rfl⟩ | exact Or.inr ⟨by assumption, rfl, rfl⟩) (nx_of (by assumption) (by assumption)) (by assumption) (by assumption) (by omega) | exact ir_one hil9 (by first | exact Or.inl ⟨by assumption, rfl, rfl⟩ | exact Or.inr ⟨by assumption, rfl, rfl⟩) (nx_of (by assumption) (by assumption)) (by assumption) | exact il_walk hil9 (by assumption) (nx_of (by assumption) (by assumption)) (by assumption) (by assumption) (by assumption) (by assumption) (by assumption) (by assumption) (by omega) | exact ir_walk3 hil9 (by assumption) (nx_of (by assumption) (by assumption)) (by assumption) (by assumption) (by omega) (by assumption) (by assumption) (by assumption) | exact ir_walk2 hil9 (by assumption) (nx_of (by assumption) (by assumption)) (by assumption) (by assumption) (by omega) (by assumption) (by assumption) | exact ir_walk1 hil9 (by assumption) (nx_of (by assumption) (by assumption)) (by assumption) | exact ir_none hil9 (by omega) (fa_of (by assumption) (by assumption))))⟩)), (show mpos_c41.toInt ≤ mbyt.toInt from by (try rw [show (1 : Int32).toInt = 1 from (show (1 : Int32).toInt = 1 from rfl)]); omega), h39_1⟩, by rw [ht]; exact hP, hD⟩, hS.F ht⟩) hS.2.2 dX10_isLine_158
      · exact W.zret (v := 0) hx hb hr (by decide) (fun tq ht hW => ⟨⟨0, (uS [(fun _ => mpos_c41), (fun _ => mtka_c42), (fun _ => 0), (fun _ => mdig_c44), (fun _ => mnum_c45), (fun _ => mfau_c46), mrea_c47] mtok_c43 (fun _ => 0)), rfl, ⟨(Or.inr (⟨rfl, (show lnR mtxt mbyt.toInt mpos.toInt at_ mrea mrea_c47 mfau_c46.toInt from by (try rw [show (0 : Int32).toInt = 0 from (show (0 : Int32).toInt = 0 from rfl)]); (first | exact il_room hil9 (by assumption) (nx_of (by assumption) (by assumption)) (by assumption) (by assumption) (by assumption) (by assumption) (by omega) | exact ir_room2 hil9 (by assumption) (nx_of (by assumption) (by assumption)) (by assumption) (by assumption) (by omega) (by assumption) | exact ir_room1 hil9 (by assumption) (nx_of (by assumption) (by assumption)) (by assumption) | exact il_one hil9 (by first | exact Or.inl ⟨by assumption, rfl, rfl⟩ | exact Or.inr ⟨by assumption, rfl, rfl⟩) (nx_of (by assumption) (by assumption)) (by assumption) (by assumption) (by omega) | exact ir_one hil9 (by first | exact Or.inl ⟨by assumption, rfl, rfl⟩ | exact Or.inr ⟨by assumption, rfl, rfl⟩) (nx_of (by assumption) (by assumption)) (by assumption) | exact il_walk hil9 (by assumption) (nx_of (by assumption) (by assumption)) (by assumption) (by assumption) (by assumption) (by assumption) (by assumption) (by assumption) (by omega) | exact ir_walk3 hil9 (by assumption) (nx_of (by assumption) (by assumption)) (by assumption) (by assumption) (by omega) (by assumption) (by assumption) (by assumption) | exact ir_walk2 hil9 (by assumption) (nx_of (by assumption) (by assumption)) (by assumption) (by assumption) (by omega) (by assumption) (by assumption) | exact ir_walk1 hil9 (by assumption) (nx_of (by assumption) (by assumption)) (by assumption) | exact ir_none hil9 (by omega) (fa_of (by assumption) (by assumption))))⟩)), (show mpos_c41.toInt ≤ mbyt.toInt from by (try rw [show (0 : Int32).toInt = 0 from (show (0 : Int32).toInt = 0 from rfl)]); omega), h39_1⟩, by rw [ht]; exact hP, hD⟩, hS.F ht⟩) hS.2.2 dX10_isLine_158
    by_cases w48 : mrea_u11 at_.toNatClampNeg = 2
    · have dw48 : (mrea_u11 at_.toNatClampNeg).toInt = 2 := eqC rfl rfl w48
      refine lv_tableIn (off := 73) (tgt := 159) hx hb dX10_isLine_86 (by rw [w48]; decide) (by rw [w48]; decide) (by rw [w48]; decide) (by decide) ?_
      refine lv_aload_n hx hb dX10_isLine_159 rfl (lv_at hl 0 rfl) ?_
      refine lv_iload_n hx hb dX10_isLine_160 rfl (lv_at hl 1 rfl) ?_
      refine lv_iconst (v := 2) hx hb dX10_isLine_161 (by decide) ?_
      refine lv_iadd hx hb dX10_isLine_162 ?_
      have f49 : (at_ + 2).toInt = (at_.toInt) + (2) := addC rfl (show (2 : Int32).toInt = 2 from rfl) (by omega) (by omega)
      refine lv_iconst (v := 0) hx hb dX10_isLine_163 (by decide) ?_
      refine lv_bipush (v := 8) hx hb dX10_isLine_164 (by decide) ?_
      have kc0 : (0 : Int32).toInt = 0 := rfl
      refine wrV (As := [.int (at_ + 2), .int 0, .int 8]) (rest := []) (wr := []) (w2 := (fun u : US => (wMdR cI cZ cQ b mday mdoo mtel mgai mbyt mtxt (u.1 0 0) (u.1 1 0) u.2.1 (u.1 3 0) (u.1 4 0) (u.1 5 0) mrdm (u.1 6) mlin mbsm))) ⟨hx, hb, hml, hown, hts⟩ (k_X10_isNumber2 l dC dI cI cZ cQ b mday mdoo mtel mgai mbyt mtxt mpos_c4 mtka_c5 mtok_c6 mdig_c7 mnum_c8 mfau mrdm mrea_u11 mlin mbsm _ (at_ + 2) (0 : Int32) (8 : Int32) r_mday r_mdoo r_mgai r_mbyt h2_7 r_mrdm r_mlin (by omega) (by omega) (by omega) (by omega)) (cwV 3 hts gX10_isLine_X10_isNumber rfl rfl rfl (by decide +kernel) ⟨Nat.le_of_ble_eq_true rfl, Nat.le_of_ble_eq_true rfl⟩) hP hD hS hA hK hN [0, 1, 2] [] [0, 1, 2] rfl rfl (by decide) (by decide) (by decide) (fun _ => rfl) (by decide) 0 10 rfl rfl rfl hl.1 rfl (Nat.le_of_ble_eq_true rfl) dX10_isLine_166 ⟨Nat.le_of_ble_eq_true rfl, Nat.le_of_ble_eq_true rfl⟩ (fun r50 u52 H locs h51 hP hD hS => ?_)
      obtain ⟨mpos_c53, empos_c53⟩ : ∃ f : Int32, f = (u52.1 0 0) := ⟨_, rfl⟩
      obtain ⟨mtka_c54, emtka_c54⟩ : ∃ f : Int32, f = (u52.1 1 0) := ⟨_, rfl⟩
      obtain ⟨mtok_c55, emtok_c55⟩ : ∃ f : Int64, f = u52.2.1 := ⟨_, rfl⟩
      obtain ⟨mdig_c56, emdig_c56⟩ : ∃ f : Int32, f = (u52.1 3 0) := ⟨_, rfl⟩
      obtain ⟨mnum_c57, emnum_c57⟩ : ∃ f : Int32, f = (u52.1 4 0) := ⟨_, rfl⟩
      obtain ⟨mfau_c58, emfau_c58⟩ : ∃ f : Int32, f = (u52.1 5 0) := ⟨_, rfl⟩
      obtain ⟨mrea_c59, emrea_c59⟩ : ∃ f : Nat → Int32, f = (u52.1 6) := ⟨_, rfl⟩
      have hP : va_P (dC, dI) vwCl (wMdR cI cZ cQ b mday mdoo mtel mgai mbyt mtxt mpos_c53 mtka_c54 mtok_c55 mdig_c56 mnum_c57 mfau_c58 mrdm mrea_c59 mlin mbsm) H := by rw [empos_c53, emtka_c54, emtok_c55, emdig_c56, emnum_c57, emfau_c58, emrea_c59]; exact hP
      have hD : va_D A (wMdR cI cZ cQ b mday mdoo mtel mgai mbyt mtxt mpos_c53 mtka_c54 mtok_c55 mdig_c56 mnum_c57 mfau_c58 mrdm mrea_c59 mlin mbsm) := by rw [empos_c53, emtka_c54, emtok_c55, emdig_c56, emnum_c57, emfau_c58, emrea_c59]; exact hD
      have h51 : ((((r50 = 1) ∧ (imT mtxt mbyt.toInt mpos_c4.toInt (0) (8) (at_ + 2).toNatClampNeg mrea_u11 mrea_c59 mpos_c53.toInt)) ∨ ((r50 = 0) ∧ (imN mtxt mbyt.toInt mpos_c4.toInt (0) (8) mfau_c58.toInt mrea_u11 mrea_c59)))) ∧ (mpos_c53.toInt ≤ mbyt.toInt) ∧ (0 ≤ mpos_c53.toInt ∧ mpos_c53.toInt ≤ 160) := by (try rw [empos_c53]); (try rw [emtka_c54]); (try rw [emtok_c55]); (try rw [emdig_c56]); (try rw [emnum_c57]); (try rw [emfau_c58]); (try rw [emrea_c59]); exact h51
      rcases h51 with ⟨(⟨rfl, h51_a0⟩ | ⟨rfl, h51_a0⟩), h51_0, h51_1⟩
      · exact W.zret (v := 1) hx hb hr (by decide) (fun tq ht hW => ⟨⟨1, (uS [(fun _ => mpos_c53), (fun _ => mtka_c54), (fun _ => 0), (fun _ => mdig_c56), (fun _ => mnum_c57), (fun _ => mfau_c58), mrea_c59] mtok_c55 (fun _ => 0)), rfl, ⟨(Or.inl (⟨rfl, (show lnM mtxt mbyt.toInt mpos.toInt at_ mrea mrea_c59 mpos_c53.toInt from by (try rw [show (1 : Int32).toInt = 1 from (show (1 : Int32).toInt = 1 from rfl)]); (first | exact il_room hil9 (by assumption) (nx_of (by assumption) (by assumption)) (by assumption) (by assumption) (by assumption) (by assumption) (by omega) | exact ir_room2 hil9 (by assumption) (nx_of (by assumption) (by assumption)) (by assumption) (by assumption) (by omega) (by assumption) | exact ir_room1 hil9 (by assumption) (nx_of (by assumption) (by assumption)) (by assumption) | exact il_one hil9 (by first | exact Or.inl ⟨by assumption, rfl, rfl⟩ | exact Or.inr ⟨by assumption, rfl, rfl⟩) (nx_of (by assumption) (by assumption)) (by assumption) (by assumption) (by omega) | exact ir_one hil9 (by first | exact Or.inl ⟨by assumption, rfl, rfl⟩ | exact Or.inr ⟨by assumption, rfl, rfl⟩) (nx_of (by assumption) (by assumption)) (by assumption) | exact il_walk hil9 (by assumption) (nx_of (by assumption) (by assumption)) (by assumption) (by assumption) (by assumption) (by assumption) (by assumption) (by assumption) (by omega) | exact ir_walk3 hil9 (by assumption) (nx_of (by assumption) (by assumption)) (by assumption) (by assumption) (by omega) (by assumption) (by assumption) (by assumption) | exact ir_walk2 hil9 (by assumption) (nx_of (by assumption) (by assumption)) (by assumption) (by assumption) (by omega) (by assumption) (by assumption) | exact ir_walk1 hil9 (by assumption) (nx_of (by assumption) (by assumption)) (by assumption) | exact ir_none hil9 (by omega) (fa_of (by assumption) (by assumption))))⟩)), (show mpos_c53.toInt ≤ mbyt.toInt from by (try rw [show (1 : Int32).toInt = 1 from (show (1 : Int32).toInt = 1 from rfl)]); omega), h51_1⟩, by rw [ht]; exact hP, hD⟩, hS.F ht⟩) hS.2.2 dX10_isLine_169
      · exact W.zret (v := 0) hx hb hr (by decide) (fun tq ht hW => ⟨⟨0, (uS [(fun _ => mpos_c53), (fun _ => mtka_c54), (fun _ => 0), (fun _ => mdig_c56), (fun _ => mnum_c57), (fun _ => mfau_c58), mrea_c59] mtok_c55 (fun _ => 0)), rfl, ⟨(Or.inr (⟨rfl, (show lnR mtxt mbyt.toInt mpos.toInt at_ mrea mrea_c59 mfau_c58.toInt from by (try rw [show (0 : Int32).toInt = 0 from (show (0 : Int32).toInt = 0 from rfl)]); (first | exact il_room hil9 (by assumption) (nx_of (by assumption) (by assumption)) (by assumption) (by assumption) (by assumption) (by assumption) (by omega) | exact ir_room2 hil9 (by assumption) (nx_of (by assumption) (by assumption)) (by assumption) (by assumption) (by omega) (by assumption) | exact ir_room1 hil9 (by assumption) (nx_of (by assumption) (by assumption)) (by assumption) | exact il_one hil9 (by first | exact Or.inl ⟨by assumption, rfl, rfl⟩ | exact Or.inr ⟨by assumption, rfl, rfl⟩) (nx_of (by assumption) (by assumption)) (by assumption) (by assumption) (by omega) | exact ir_one hil9 (by first | exact Or.inl ⟨by assumption, rfl, rfl⟩ | exact Or.inr ⟨by assumption, rfl, rfl⟩) (nx_of (by assumption) (by assumption)) (by assumption) | exact il_walk hil9 (by assumption) (nx_of (by assumption) (by assumption)) (by assumption) (by assumption) (by assumption) (by assumption) (by assumption) (by assumption) (by omega) | exact ir_walk3 hil9 (by assumption) (nx_of (by assumption) (by assumption)) (by assumption) (by assumption) (by omega) (by assumption) (by assumption) (by assumption) | exact ir_walk2 hil9 (by assumption) (nx_of (by assumption) (by assumption)) (by assumption) (by assumption) (by omega) (by assumption) (by assumption) | exact ir_walk1 hil9 (by assumption) (nx_of (by assumption) (by assumption)) (by assumption) | exact ir_none hil9 (by omega) (fa_of (by assumption) (by assumption))))⟩)), (show mpos_c53.toInt ≤ mbyt.toInt from by (try rw [show (0 : Int32).toInt = 0 from (show (0 : Int32).toInt = 0 from rfl)]); omega), h51_1⟩, by rw [ht]; exact hP, hD⟩, hS.F ht⟩) hS.2.2 dX10_isLine_169
    by_cases w60 : mrea_u11 at_.toNatClampNeg = 3
    · have dw60 : (mrea_u11 at_.toNatClampNeg).toInt = 3 := eqC rfl rfl w60
      refine lv_tableIn (off := 84) (tgt := 170) hx hb dX10_isLine_86 (by rw [w60]; decide) (by rw [w60]; decide) (by rw [w60]; decide) (by decide) ?_
      refine lv_aload_n hx hb dX10_isLine_170 rfl (lv_at hl 0 rfl) ?_
      refine lv_iload_n hx hb dX10_isLine_171 rfl (lv_at hl 1 rfl) ?_
      refine lv_iconst (v := 1) hx hb dX10_isLine_172 (by decide) ?_
      refine lv_iadd hx hb dX10_isLine_173 ?_
      have f61 : (at_ + 1).toInt = (at_.toInt) + (1) := addC rfl (show (1 : Int32).toInt = 1 from rfl) (by omega) (by omega)
      refine lv_iconst (v := 0) hx hb dX10_isLine_174 (by decide) ?_
      refine lv_bipush (v := 7) hx hb dX10_isLine_175 (by decide) ?_
      have kc0 : (0 : Int32).toInt = 0 := rfl
      refine wrV (As := [.int (at_ + 1), .int 0, .int 7]) (rest := []) (wr := []) (w2 := (fun u : US => (wMdR cI cZ cQ b mday mdoo mtel mgai mbyt mtxt (u.1 0 0) (u.1 1 0) u.2.1 (u.1 3 0) (u.1 4 0) (u.1 5 0) mrdm (u.1 6) mlin mbsm))) ⟨hx, hb, hml, hown, hts⟩ (k_X10_isNumber2 l dC dI cI cZ cQ b mday mdoo mtel mgai mbyt mtxt mpos_c4 mtka_c5 mtok_c6 mdig_c7 mnum_c8 mfau mrdm mrea_u11 mlin mbsm _ (at_ + 1) (0 : Int32) (7 : Int32) r_mday r_mdoo r_mgai r_mbyt h2_7 r_mrdm r_mlin (by omega) (by omega) (by omega) (by omega)) (cwV 3 hts gX10_isLine_X10_isNumber rfl rfl rfl (by decide +kernel) ⟨Nat.le_of_ble_eq_true rfl, Nat.le_of_ble_eq_true rfl⟩) hP hD hS hA hK hN [0, 1, 2] [] [0, 1, 2] rfl rfl (by decide) (by decide) (by decide) (fun _ => rfl) (by decide) 0 10 rfl rfl rfl hl.1 rfl (Nat.le_of_ble_eq_true rfl) dX10_isLine_177 ⟨Nat.le_of_ble_eq_true rfl, Nat.le_of_ble_eq_true rfl⟩ (fun r62 u64 H locs h63 hP hD hS => ?_)
      obtain ⟨mpos_c65, empos_c65⟩ : ∃ f : Int32, f = (u64.1 0 0) := ⟨_, rfl⟩
      obtain ⟨mtka_c66, emtka_c66⟩ : ∃ f : Int32, f = (u64.1 1 0) := ⟨_, rfl⟩
      obtain ⟨mtok_c67, emtok_c67⟩ : ∃ f : Int64, f = u64.2.1 := ⟨_, rfl⟩
      obtain ⟨mdig_c68, emdig_c68⟩ : ∃ f : Int32, f = (u64.1 3 0) := ⟨_, rfl⟩
      obtain ⟨mnum_c69, emnum_c69⟩ : ∃ f : Int32, f = (u64.1 4 0) := ⟨_, rfl⟩
      obtain ⟨mfau_c70, emfau_c70⟩ : ∃ f : Int32, f = (u64.1 5 0) := ⟨_, rfl⟩
      obtain ⟨mrea_c71, emrea_c71⟩ : ∃ f : Nat → Int32, f = (u64.1 6) := ⟨_, rfl⟩
      have hP : va_P (dC, dI) vwCl (wMdR cI cZ cQ b mday mdoo mtel mgai mbyt mtxt mpos_c65 mtka_c66 mtok_c67 mdig_c68 mnum_c69 mfau_c70 mrdm mrea_c71 mlin mbsm) H := by rw [empos_c65, emtka_c66, emtok_c67, emdig_c68, emnum_c69, emfau_c70, emrea_c71]; exact hP
      have hD : va_D A (wMdR cI cZ cQ b mday mdoo mtel mgai mbyt mtxt mpos_c65 mtka_c66 mtok_c67 mdig_c68 mnum_c69 mfau_c70 mrdm mrea_c71 mlin mbsm) := by rw [empos_c65, emtka_c66, emtok_c67, emdig_c68, emnum_c69, emfau_c70, emrea_c71]; exact hD
      have h63 : ((((r62 = 1) ∧ (imT mtxt mbyt.toInt mpos_c4.toInt (0) (7) (at_ + 1).toNatClampNeg mrea_u11 mrea_c71 mpos_c65.toInt)) ∨ ((r62 = 0) ∧ (imN mtxt mbyt.toInt mpos_c4.toInt (0) (7) mfau_c70.toInt mrea_u11 mrea_c71)))) ∧ (mpos_c65.toInt ≤ mbyt.toInt) ∧ (0 ≤ mpos_c65.toInt ∧ mpos_c65.toInt ≤ 160) := by (try rw [empos_c65]); (try rw [emtka_c66]); (try rw [emtok_c67]); (try rw [emdig_c68]); (try rw [emnum_c69]); (try rw [emfau_c70]); (try rw [emrea_c71]); exact h63
      rcases h63 with ⟨(⟨rfl, h63_a0⟩ | ⟨rfl, h63_a0⟩), h63_0, h63_1⟩
      · refine lv_if_eq (tgt := 210) hx hb dX10_isLine_180 (by decide) (fun c9 => absurd c9 (by decide)) (fun _ => ?_)
        refine lv_aload_n hx hb dX10_isLine_183 rfl (lv_at hl 0 rfl) ?_
        refine lv_ldc2 (v := 3094387) hx hb hown (hts (.constantLong RX10 195 (3094387)) (List.mem_cons_of_mem _ (List.mem_append_left _ (List.mem_append_left _ (List.mem_of_getElem? (i := 6) rfl))))) dX10_isLine_184 ?_
        refine wrV (As := [.long 3094387]) (rest := []) (wr := [((b 28), .inl (cI, 30, .inl mrea_c71))]) (w2 := (fun u : US => (wMdR cI cZ cQ b mday mdoo mtel mgai mbyt mtxt (u.1 0 0) (u.1 1 0) u.2.1 (u.1 3 0) (u.1 4 0) (u.1 5 0) mrdm mrea_c71 mlin mbsm))) ⟨hx, hb, hml, hown, hts⟩ (k_X10_isWord2 l dC dI cI cZ cQ b mday mdoo mtel mgai mbyt mtxt mpos_c65 mtka_c66 mtok_c67 mdig_c68 mnum_c69 mfau_c70 mrdm mlin mbsm _ 3094387 r_mday r_mdoo r_mgai r_mbyt h63_1 r_mrdm r_mlin (by omega)) (cwV 1 hts gX10_isLine_X10_isWord rfl rfl rfl (by decide +kernel) ⟨Nat.le_of_ble_eq_true rfl, Nat.le_of_ble_eq_true rfl⟩) hP hD hS hA hK hN [0, 1] [2] [1, 2, 0] rfl rfl (by decide) (by decide) (by decide) (fun _ => rfl) (by decide) 0 10 rfl rfl rfl hl.1 rfl (Nat.le_of_ble_eq_true rfl) dX10_isLine_187 ⟨Nat.le_of_ble_eq_true rfl, Nat.le_of_ble_eq_true rfl⟩ (fun r72 u74 H locs h73 hP hD hS => ?_)
        obtain ⟨mpos_c75, empos_c75⟩ : ∃ f : Int32, f = (u74.1 0 0) := ⟨_, rfl⟩
        obtain ⟨mtka_c76, emtka_c76⟩ : ∃ f : Int32, f = (u74.1 1 0) := ⟨_, rfl⟩
        obtain ⟨mtok_c77, emtok_c77⟩ : ∃ f : Int64, f = u74.2.1 := ⟨_, rfl⟩
        obtain ⟨mdig_c78, emdig_c78⟩ : ∃ f : Int32, f = (u74.1 3 0) := ⟨_, rfl⟩
        obtain ⟨mnum_c79, emnum_c79⟩ : ∃ f : Int32, f = (u74.1 4 0) := ⟨_, rfl⟩
        obtain ⟨mfau_c80, emfau_c80⟩ : ∃ f : Int32, f = (u74.1 5 0) := ⟨_, rfl⟩
        have hP : va_P (dC, dI) vwCl (wMdR cI cZ cQ b mday mdoo mtel mgai mbyt mtxt mpos_c75 mtka_c76 mtok_c77 mdig_c78 mnum_c79 mfau_c80 mrdm mrea_c71 mlin mbsm) H := by rw [empos_c75, emtka_c76, emtok_c77, emdig_c78, emnum_c79, emfau_c80]; exact hP
        have hD : va_D A (wMdR cI cZ cQ b mday mdoo mtel mgai mbyt mtxt mpos_c75 mtka_c76 mtok_c77 mdig_c78 mnum_c79 mfau_c80 mrdm mrea_c71 mlin mbsm) := by rw [empos_c75, emtka_c76, emtok_c77, emdig_c78, emnum_c79, emfau_c80]; exact hD
        have h73 : ((((r72 = 1) ∧ (tkW mtxt mbyt.toInt mpos_c65.toInt = 3094387) ∧ (mpos_c75.toInt = nx mtxt mbyt.toInt mpos_c65.toInt)) ∨ ((r72 = 0) ∧ (tkW mtxt mbyt.toInt mpos_c65.toInt ≠ 3094387) ∧ (mfau_c80.toInt = tS mtxt mbyt.toInt mpos_c65.toInt)))) ∧ (mpos_c75.toInt ≤ mbyt.toInt) ∧ (0 ≤ mpos_c75.toInt ∧ mpos_c75.toInt ≤ 160) := by (try rw [empos_c75]); (try rw [emtka_c76]); (try rw [emtok_c77]); (try rw [emdig_c78]); (try rw [emnum_c79]); (try rw [emfau_c80]); exact h73
        rcases h73 with ⟨(⟨rfl, h73_a0, h73_a1⟩ | ⟨rfl, h73_a0, h73_a1⟩), h73_0, h73_1⟩
        · refine lv_if_eq (tgt := 210) hx hb dX10_isLine_190 (by decide) (fun c9 => absurd c9 (by decide)) (fun _ => ?_)
          refine lv_aload_n hx hb dX10_isLine_193 rfl (lv_at hl 0 rfl) ?_
          refine lv_iload_n hx hb dX10_isLine_194 rfl (lv_at hl 1 rfl) ?_
          refine lv_iconst (v := 2) hx hb dX10_isLine_195 (by decide) ?_
          refine lv_iadd hx hb dX10_isLine_196 ?_
          have f81 : (at_ + 2).toInt = (at_.toInt) + (2) := addC rfl (show (2 : Int32).toInt = 2 from rfl) (by omega) (by omega)
          refine lv_iconst (v := 1) hx hb dX10_isLine_197 (by decide) ?_
          refine lv_bipush (v := 99) hx hb dX10_isLine_198 (by decide) ?_
          have kc1 : (1 : Int32).toInt = 1 := rfl
          refine wrV (As := [.int (at_ + 2), .int 1, .int 99]) (rest := []) (wr := []) (w2 := (fun u : US => (wMdR cI cZ cQ b mday mdoo mtel mgai mbyt mtxt (u.1 0 0) (u.1 1 0) u.2.1 (u.1 3 0) (u.1 4 0) (u.1 5 0) mrdm (u.1 6) mlin mbsm))) ⟨hx, hb, hml, hown, hts⟩ (k_X10_isNumber2 l dC dI cI cZ cQ b mday mdoo mtel mgai mbyt mtxt mpos_c75 mtka_c76 mtok_c77 mdig_c78 mnum_c79 mfau_c80 mrdm mrea_c71 mlin mbsm _ (at_ + 2) (1 : Int32) (99 : Int32) r_mday r_mdoo r_mgai r_mbyt h73_1 r_mrdm r_mlin (by omega) (by omega) (by omega) (by omega)) (cwV 3 hts gX10_isLine_X10_isNumber rfl rfl rfl (by decide +kernel) ⟨Nat.le_of_ble_eq_true rfl, Nat.le_of_ble_eq_true rfl⟩) hP hD hS hA hK hN [0, 1, 2] [] [0, 1, 2] rfl rfl (by decide) (by decide) (by decide) (fun _ => rfl) (by decide) 0 10 rfl rfl rfl hl.1 rfl (Nat.le_of_ble_eq_true rfl) dX10_isLine_200 ⟨Nat.le_of_ble_eq_true rfl, Nat.le_of_ble_eq_true rfl⟩ (fun r82 u84 H locs h83 hP hD hS => ?_)
          obtain ⟨mpos_c85, empos_c85⟩ : ∃ f : Int32, f = (u84.1 0 0) := ⟨_, rfl⟩
          obtain ⟨mtka_c86, emtka_c86⟩ : ∃ f : Int32, f = (u84.1 1 0) := ⟨_, rfl⟩
          obtain ⟨mtok_c87, emtok_c87⟩ : ∃ f : Int64, f = u84.2.1 := ⟨_, rfl⟩
          obtain ⟨mdig_c88, emdig_c88⟩ : ∃ f : Int32, f = (u84.1 3 0) := ⟨_, rfl⟩
          obtain ⟨mnum_c89, emnum_c89⟩ : ∃ f : Int32, f = (u84.1 4 0) := ⟨_, rfl⟩
          obtain ⟨mfau_c90, emfau_c90⟩ : ∃ f : Int32, f = (u84.1 5 0) := ⟨_, rfl⟩
          obtain ⟨mrea_c91, emrea_c91⟩ : ∃ f : Nat → Int32, f = (u84.1 6) := ⟨_, rfl⟩
          have hP : va_P (dC, dI) vwCl (wMdR cI cZ cQ b mday mdoo mtel mgai mbyt mtxt mpos_c85 mtka_c86 mtok_c87 mdig_c88 mnum_c89 mfau_c90 mrdm mrea_c91 mlin mbsm) H := by rw [empos_c85, emtka_c86, emtok_c87, emdig_c88, emnum_c89, emfau_c90, emrea_c91]; exact hP
          have hD : va_D A (wMdR cI cZ cQ b mday mdoo mtel mgai mbyt mtxt mpos_c85 mtka_c86 mtok_c87 mdig_c88 mnum_c89 mfau_c90 mrdm mrea_c91 mlin mbsm) := by rw [empos_c85, emtka_c86, emtok_c87, emdig_c88, emnum_c89, emfau_c90, emrea_c91]; exact hD
          have h83 : ((((r82 = 1) ∧ (imT mtxt mbyt.toInt mpos_c75.toInt (1) (99) (at_ + 2).toNatClampNeg mrea_c71 mrea_c91 mpos_c85.toInt)) ∨ ((r82 = 0) ∧ (imN mtxt mbyt.toInt mpos_c75.toInt (1) (99) mfau_c90.toInt mrea_c71 mrea_c91)))) ∧ (mpos_c85.toInt ≤ mbyt.toInt) ∧ (0 ≤ mpos_c85.toInt ∧ mpos_c85.toInt ≤ 160) := by (try rw [empos_c85]); (try rw [emtka_c86]); (try rw [emtok_c87]); (try rw [emdig_c88]); (try rw [emnum_c89]); (try rw [emfau_c90]); (try rw [emrea_c91]); exact h83
          rcases h83 with ⟨(⟨rfl, h83_a0⟩ | ⟨rfl, h83_a0⟩), h83_0, h83_1⟩
          · refine lv_if_eq (tgt := 210) hx hb dX10_isLine_203 (by decide) (fun c9 => absurd c9 (by decide)) (fun _ => ?_)
            refine lv_iconst (v := 1) hx hb dX10_isLine_206 (by decide) ?_
            refine lv_goto (tgt := 211) hx hb dX10_isLine_207 (by decide) ?_
            exact W.zret (v := 1) hx hb hr (by decide) (fun tq ht hW => ⟨⟨1, (uS [(fun _ => mpos_c85), (fun _ => mtka_c86), (fun _ => 0), (fun _ => mdig_c88), (fun _ => mnum_c89), (fun _ => mfau_c90), mrea_c91] mtok_c87 (fun _ => 0)), rfl, ⟨(Or.inl (⟨rfl, (show lnM mtxt mbyt.toInt mpos.toInt at_ mrea mrea_c91 mpos_c85.toInt from by (try rw [show (1 : Int32).toInt = 1 from (show (1 : Int32).toInt = 1 from rfl)]); (first | exact il_room hil9 (by assumption) (nx_of (by assumption) (by assumption)) (by assumption) (by assumption) (by assumption) (by assumption) (by omega) | exact ir_room2 hil9 (by assumption) (nx_of (by assumption) (by assumption)) (by assumption) (by assumption) (by omega) (by assumption) | exact ir_room1 hil9 (by assumption) (nx_of (by assumption) (by assumption)) (by assumption) | exact il_one hil9 (by first | exact Or.inl ⟨by assumption, rfl, rfl⟩ | exact Or.inr ⟨by assumption, rfl, rfl⟩) (nx_of (by assumption) (by assumption)) (by assumption) (by assumption) (by omega) | exact ir_one hil9 (by first | exact Or.inl ⟨by assumption, rfl, rfl⟩ | exact Or.inr ⟨by assumption, rfl, rfl⟩) (nx_of (by assumption) (by assumption)) (by assumption) | exact il_walk hil9 (by assumption) (nx_of (by assumption) (by assumption)) (by assumption) (by assumption) (by assumption) (by assumption) (by assumption) (by assumption) (by omega) | exact ir_walk3 hil9 (by assumption) (nx_of (by assumption) (by assumption)) (by assumption) (by assumption) (by omega) (by assumption) (by assumption) (by assumption) | exact ir_walk2 hil9 (by assumption) (nx_of (by assumption) (by assumption)) (by assumption) (by assumption) (by omega) (by assumption) (by assumption) | exact ir_walk1 hil9 (by assumption) (nx_of (by assumption) (by assumption)) (by assumption) | exact ir_none hil9 (by omega) (fa_of (by assumption) (by assumption))))⟩)), (show mpos_c85.toInt ≤ mbyt.toInt from by (try rw [show (1 : Int32).toInt = 1 from (show (1 : Int32).toInt = 1 from rfl)]); omega), h83_1⟩, by rw [ht]; exact hP, hD⟩, hS.F ht⟩) hS.2.2 dX10_isLine_211
          · refine lv_if_eq (tgt := 210) hx hb dX10_isLine_203 (by decide) (fun _ => ?_) (fun c9 => absurd (by decide) c9)
            refine lv_iconst (v := 0) hx hb dX10_isLine_210 (by decide) ?_
            exact W.zret (v := 0) hx hb hr (by decide) (fun tq ht hW => ⟨⟨0, (uS [(fun _ => mpos_c85), (fun _ => mtka_c86), (fun _ => 0), (fun _ => mdig_c88), (fun _ => mnum_c89), (fun _ => mfau_c90), mrea_c91] mtok_c87 (fun _ => 0)), rfl, ⟨(Or.inr (⟨rfl, (show lnR mtxt mbyt.toInt mpos.toInt at_ mrea mrea_c91 mfau_c90.toInt from by (try rw [show (0 : Int32).toInt = 0 from (show (0 : Int32).toInt = 0 from rfl)]); (first | exact il_room hil9 (by assumption) (nx_of (by assumption) (by assumption)) (by assumption) (by assumption) (by assumption) (by assumption) (by omega) | exact ir_room2 hil9 (by assumption) (nx_of (by assumption) (by assumption)) (by assumption) (by assumption) (by omega) (by assumption) | exact ir_room1 hil9 (by assumption) (nx_of (by assumption) (by assumption)) (by assumption) | exact il_one hil9 (by first | exact Or.inl ⟨by assumption, rfl, rfl⟩ | exact Or.inr ⟨by assumption, rfl, rfl⟩) (nx_of (by assumption) (by assumption)) (by assumption) (by assumption) (by omega) | exact ir_one hil9 (by first | exact Or.inl ⟨by assumption, rfl, rfl⟩ | exact Or.inr ⟨by assumption, rfl, rfl⟩) (nx_of (by assumption) (by assumption)) (by assumption) | exact il_walk hil9 (by assumption) (nx_of (by assumption) (by assumption)) (by assumption) (by assumption) (by assumption) (by assumption) (by assumption) (by assumption) (by omega) | exact ir_walk3 hil9 (by assumption) (nx_of (by assumption) (by assumption)) (by assumption) (by assumption) (by omega) (by assumption) (by assumption) (by assumption) | exact ir_walk2 hil9 (by assumption) (nx_of (by assumption) (by assumption)) (by assumption) (by assumption) (by omega) (by assumption) (by assumption) | exact ir_walk1 hil9 (by assumption) (nx_of (by assumption) (by assumption)) (by assumption) | exact ir_none hil9 (by omega) (fa_of (by assumption) (by assumption))))⟩)), (show mpos_c85.toInt ≤ mbyt.toInt from by (try rw [show (0 : Int32).toInt = 0 from (show (0 : Int32).toInt = 0 from rfl)]); omega), h83_1⟩, by rw [ht]; exact hP, hD⟩, hS.F ht⟩) hS.2.2 dX10_isLine_211
        · refine lv_if_eq (tgt := 210) hx hb dX10_isLine_190 (by decide) (fun _ => ?_) (fun c9 => absurd (by decide) c9)
          refine lv_iconst (v := 0) hx hb dX10_isLine_210 (by decide) ?_
          exact W.zret (v := 0) hx hb hr (by decide) (fun tq ht hW => ⟨⟨0, (uS [(fun _ => mpos_c75), (fun _ => mtka_c76), (fun _ => 0), (fun _ => mdig_c78), (fun _ => mnum_c79), (fun _ => mfau_c80), mrea_c71] mtok_c77 (fun _ => 0)), rfl, ⟨(Or.inr (⟨rfl, (show lnR mtxt mbyt.toInt mpos.toInt at_ mrea mrea_c71 mfau_c80.toInt from by (try rw [show (0 : Int32).toInt = 0 from (show (0 : Int32).toInt = 0 from rfl)]); (first | exact il_room hil9 (by assumption) (nx_of (by assumption) (by assumption)) (by assumption) (by assumption) (by assumption) (by assumption) (by omega) | exact ir_room2 hil9 (by assumption) (nx_of (by assumption) (by assumption)) (by assumption) (by assumption) (by omega) (by assumption) | exact ir_room1 hil9 (by assumption) (nx_of (by assumption) (by assumption)) (by assumption) | exact il_one hil9 (by first | exact Or.inl ⟨by assumption, rfl, rfl⟩ | exact Or.inr ⟨by assumption, rfl, rfl⟩) (nx_of (by assumption) (by assumption)) (by assumption) (by assumption) (by omega) | exact ir_one hil9 (by first | exact Or.inl ⟨by assumption, rfl, rfl⟩ | exact Or.inr ⟨by assumption, rfl, rfl⟩) (nx_of (by assumption) (by assumption)) (by assumption) | exact il_walk hil9 (by assumption) (nx_of (by assumption) (by assumption)) (by assumption) (by assumption) (by assumption) (by assumption) (by assumption) (by assumption) (by omega) | exact ir_walk3 hil9 (by assumption) (nx_of (by assumption) (by assumption)) (by assumption) (by assumption) (by omega) (by assumption) (by assumption) (by assumption) | exact ir_walk2 hil9 (by assumption) (nx_of (by assumption) (by assumption)) (by assumption) (by assumption) (by omega) (by assumption) (by assumption) | exact ir_walk1 hil9 (by assumption) (nx_of (by assumption) (by assumption)) (by assumption) | exact ir_none hil9 (by omega) (fa_of (by assumption) (by assumption))))⟩)), (show mpos_c75.toInt ≤ mbyt.toInt from by (try rw [show (0 : Int32).toInt = 0 from (show (0 : Int32).toInt = 0 from rfl)]); omega), h73_1⟩, by rw [ht]; exact hP, hD⟩, hS.F ht⟩) hS.2.2 dX10_isLine_211
      · refine lv_if_eq (tgt := 210) hx hb dX10_isLine_180 (by decide) (fun _ => ?_) (fun c9 => absurd (by decide) c9)
        refine lv_iconst (v := 0) hx hb dX10_isLine_210 (by decide) ?_
        exact W.zret (v := 0) hx hb hr (by decide) (fun tq ht hW => ⟨⟨0, (uS [(fun _ => mpos_c65), (fun _ => mtka_c66), (fun _ => 0), (fun _ => mdig_c68), (fun _ => mnum_c69), (fun _ => mfau_c70), mrea_c71] mtok_c67 (fun _ => 0)), rfl, ⟨(Or.inr (⟨rfl, (show lnR mtxt mbyt.toInt mpos.toInt at_ mrea mrea_c71 mfau_c70.toInt from by (try rw [show (0 : Int32).toInt = 0 from (show (0 : Int32).toInt = 0 from rfl)]); (first | exact il_room hil9 (by assumption) (nx_of (by assumption) (by assumption)) (by assumption) (by assumption) (by assumption) (by assumption) (by omega) | exact ir_room2 hil9 (by assumption) (nx_of (by assumption) (by assumption)) (by assumption) (by assumption) (by omega) (by assumption) | exact ir_room1 hil9 (by assumption) (nx_of (by assumption) (by assumption)) (by assumption) | exact il_one hil9 (by first | exact Or.inl ⟨by assumption, rfl, rfl⟩ | exact Or.inr ⟨by assumption, rfl, rfl⟩) (nx_of (by assumption) (by assumption)) (by assumption) (by assumption) (by omega) | exact ir_one hil9 (by first | exact Or.inl ⟨by assumption, rfl, rfl⟩ | exact Or.inr ⟨by assumption, rfl, rfl⟩) (nx_of (by assumption) (by assumption)) (by assumption) | exact il_walk hil9 (by assumption) (nx_of (by assumption) (by assumption)) (by assumption) (by assumption) (by assumption) (by assumption) (by assumption) (by assumption) (by omega) | exact ir_walk3 hil9 (by assumption) (nx_of (by assumption) (by assumption)) (by assumption) (by assumption) (by omega) (by assumption) (by assumption) (by assumption) | exact ir_walk2 hil9 (by assumption) (nx_of (by assumption) (by assumption)) (by assumption) (by assumption) (by omega) (by assumption) (by assumption) | exact ir_walk1 hil9 (by assumption) (nx_of (by assumption) (by assumption)) (by assumption) | exact ir_none hil9 (by omega) (fa_of (by assumption) (by assumption))))⟩)), (show mpos_c65.toInt ≤ mbyt.toInt from by (try rw [show (0 : Int32).toInt = 0 from (show (0 : Int32).toInt = 0 from rfl)]); omega), h63_1⟩, by rw [ht]; exact hP, hD⟩, hS.F ht⟩) hS.2.2 dX10_isLine_211
    have nw13 : (mrea_u11 at_.toNatClampNeg).toInt ≠ 0 := neC rfl rfl w13
    have nw36 : (mrea_u11 at_.toNatClampNeg).toInt ≠ 1 := neC rfl rfl w36
    have nw48 : (mrea_u11 at_.toNatClampNeg).toInt ≠ 2 := neC rfl rfl w48
    have nw60 : (mrea_u11 at_.toNatClampNeg).toInt ≠ 3 := neC rfl rfl w60
    have o86 : (mrea_u11 at_.toNatClampNeg).toInt < 0 ∨ 3 < (mrea_u11 at_.toNatClampNeg).toInt := by rw [show (mrea_u11 at_.toNatClampNeg).toInt = (mrea_u11 at_.toNatClampNeg).toInt from rfl]; omega
    refine lv_tableOut (tgt := 212) hx hb dX10_isLine_86 o86 (by decide) ?_
    refine lv_aload_n hx hb dX10_isLine_212 rfl (lv_at hl 0 rfl) ?_
    refine wrV (As := []) (rest := []) (wr := [((b 28), .inl (cI, 30, .inl mrea_u11))]) (w2 := (fun u : US => (wMdR cI cZ cQ b mday mdoo mtel mgai mbyt mtxt mpos_c4 mtka_c5 mtok_c6 mdig_c7 mnum_c8 (u.1 0 0) mrdm mrea_u11 mlin mbsm))) ⟨hx, hb, hml, hown, hts⟩ (k_X10_fails2 l dC dI cI cZ cQ b mday mdoo mtel mgai mbyt mtxt mpos_c4 mtka_c5 mtok_c6 mdig_c7 mnum_c8 mfau mrdm mlin mbsm _ r_mday r_mdoo r_mgai r_mbyt h2_7 r_mrdm r_mlin) (cwV 0 hts gX10_isLine_X10_fails rfl rfl rfl (by decide +kernel) ⟨Nat.le_of_ble_eq_true rfl, Nat.le_of_ble_eq_true rfl⟩) hP hD hS hA hK hN [0, 1] [2] [1, 2, 0] rfl rfl (by decide) (by decide) (by decide) (fun _ => rfl) (by decide) 0 10 rfl rfl rfl hl.1 rfl (Nat.le_of_ble_eq_true rfl) dX10_isLine_213 ⟨Nat.le_of_ble_eq_true rfl, Nat.le_of_ble_eq_true rfl⟩ (fun r92 u94 H locs h93 hP hD hS => ?_)
    obtain ⟨mfau_c95, emfau_c95⟩ : ∃ f : Int32, f = (u94.1 0 0) := ⟨_, rfl⟩
    have hP : va_P (dC, dI) vwCl (wMdR cI cZ cQ b mday mdoo mtel mgai mbyt mtxt mpos_c4 mtka_c5 mtok_c6 mdig_c7 mnum_c8 mfau_c95 mrdm mrea_u11 mlin mbsm) H := by rw [emfau_c95]; exact hP
    have hD : va_D A (wMdR cI cZ cQ b mday mdoo mtel mgai mbyt mtxt mpos_c4 mtka_c5 mtok_c6 mdig_c7 mnum_c8 mfau_c95 mrdm mrea_u11 mlin mbsm) := by rw [emfau_c95]; exact hD
    have h93 : ((((r92 = 0) ∧ (mfau_c95 = mtka_c5)))) := by (try rw [emfau_c95]); exact h93
    rcases h93 with (⟨rfl, h93_a0⟩)
    · exact W.zret (v := 0) hx hb hr (by decide) (fun tq ht hW => ⟨⟨0, (uS [(fun _ => mpos_c4), (fun _ => mtka_c5), (fun _ => 0), (fun _ => mdig_c7), (fun _ => mnum_c8), (fun _ => mfau_c95), mrea_u11] mtok_c6 (fun _ => 0)), rfl, ⟨(Or.inr (⟨rfl, (show lnR mtxt mbyt.toInt mpos.toInt at_ mrea mrea_u11 mfau_c95.toInt from by (try rw [show (0 : Int32).toInt = 0 from (show (0 : Int32).toInt = 0 from rfl)]); (first | exact il_room hil9 (by assumption) (nx_of (by assumption) (by assumption)) (by assumption) (by assumption) (by assumption) (by assumption) (by omega) | exact ir_room2 hil9 (by assumption) (nx_of (by assumption) (by assumption)) (by assumption) (by assumption) (by omega) (by assumption) | exact ir_room1 hil9 (by assumption) (nx_of (by assumption) (by assumption)) (by assumption) | exact il_one hil9 (by first | exact Or.inl ⟨by assumption, rfl, rfl⟩ | exact Or.inr ⟨by assumption, rfl, rfl⟩) (nx_of (by assumption) (by assumption)) (by assumption) (by assumption) (by omega) | exact ir_one hil9 (by first | exact Or.inl ⟨by assumption, rfl, rfl⟩ | exact Or.inr ⟨by assumption, rfl, rfl⟩) (nx_of (by assumption) (by assumption)) (by assumption) | exact il_walk hil9 (by assumption) (nx_of (by assumption) (by assumption)) (by assumption) (by assumption) (by assumption) (by assumption) (by assumption) (by assumption) (by omega) | exact ir_walk3 hil9 (by assumption) (nx_of (by assumption) (by assumption)) (by assumption) (by assumption) (by omega) (by assumption) (by assumption) (by assumption) | exact ir_walk2 hil9 (by assumption) (nx_of (by assumption) (by assumption)) (by assumption) (by assumption) (by omega) (by assumption) (by assumption) | exact ir_walk1 hil9 (by assumption) (nx_of (by assumption) (by assumption)) (by assumption) | exact ir_none hil9 (by omega) (fa_of (by assumption) (by assumption))))⟩)), (show mpos_c4.toInt ≤ mbyt.toInt from by (try rw [show (0 : Int32).toInt = 0 from (show (0 : Int32).toInt = 0 from rfl)]); omega), h2_7⟩, by rw [ht]; exact hP, hD⟩, hS.F ht⟩) hS.2.2 dX10_isLine_216
  refine lv_aload_n hx hb dX10_isLine_4 rfl (lv_at hl 0 rfl) ?_
  refine va_get (D := (dC, dI)) (ci := 10) (v := .ref (b 28)) (C := RX10) (T := TX10) (N := 39) hx hb hts inX10 hown hK hP 0 rfl rfl 28 (by decide) lf65 (fun _ h9 => h9) rfl dX10_isLine_5 ?_
  refine lv_iload_n hx hb dX10_isLine_8 rfl (lv_at hl 1 rfl) ?_
  refine lv_aload_n hx hb dX10_isLine_9 rfl (lv_at hl 0 rfl) ?_
  refine va_get (D := (dC, dI)) (ci := 10) (v := .long mtok_c6) (C := RX10) (T := TX10) (N := 39) hx hb hts inX10 hown hK hP 0 rfl rfl 23 (by decide) lf160 (fun _ h9 => h9) rfl dX10_isLine_10 ?_
  refine lv_ldc2 (v := 365647) hx hb hown (hts (.constantLong RX10 184 (365647)) (List.mem_cons_of_mem _ (List.mem_append_left _ (List.mem_append_left _ (List.mem_of_getElem? (i := 2) rfl))))) dX10_isLine_13 ?_
  refine W.lcmp hx hb dX10_isLine_16 ?_
  refine lv_if_ne (tgt := 24) hx hb dX10_isLine_17 (by decide) (fun c96 => ?_) (fun c96 => ?_)
  · have dc96 : (lg_cmp mtok_c6 365647).toInt ≠ 0 := neC rfl (show (0 : Int32).toInt = 0 from rfl) c96
    refine lv_aload_n hx hb dX10_isLine_24 rfl (lv_at hl 0 rfl) ?_
    refine va_get (D := (dC, dI)) (ci := 10) (v := .long mtok_c6) (C := RX10) (T := TX10) (N := 39) hx hb hts inX10 hown hK hP 0 rfl rfl 23 (by decide) lf160 (fun _ h9 => h9) rfl dX10_isLine_25 ?_
    refine lv_ldc2 (v := 670208) hx hb hown (hts (.constantLong RX10 186 (670208)) (List.mem_cons_of_mem _ (List.mem_append_left _ (List.mem_append_left _ (List.mem_of_getElem? (i := 3) rfl))))) dX10_isLine_28 ?_
    refine W.lcmp hx hb dX10_isLine_31 ?_
    refine lv_if_ne (tgt := 39) hx hb dX10_isLine_32 (by decide) (fun c97 => ?_) (fun c97 => ?_)
    · have dc97 : (lg_cmp mtok_c6 670208).toInt ≠ 0 := neC rfl (show (0 : Int32).toInt = 0 from rfl) c97
      refine lv_aload_n hx hb dX10_isLine_39 rfl (lv_at hl 0 rfl) ?_
      refine va_get (D := (dC, dI)) (ci := 10) (v := .long mtok_c6) (C := RX10) (T := TX10) (N := 39) hx hb hts inX10 hown hK hP 0 rfl rfl 23 (by decide) lf160 (fun _ h9 => h9) rfl dX10_isLine_40 ?_
      refine lv_ldc2 (v := 847604) hx hb hown (hts (.constantLong RX10 188 (847604)) (List.mem_cons_of_mem _ (List.mem_append_left _ (List.mem_append_left _ (List.mem_of_getElem? (i := 4) rfl))))) dX10_isLine_43 ?_
      refine W.lcmp hx hb dX10_isLine_46 ?_
      refine lv_if_ne (tgt := 54) hx hb dX10_isLine_47 (by decide) (fun c98 => ?_) (fun c98 => ?_)
      · have dc98 : (lg_cmp mtok_c6 847604).toInt ≠ 0 := neC rfl (show (0 : Int32).toInt = 0 from rfl) c98
        refine lv_aload_n hx hb dX10_isLine_54 rfl (lv_at hl 0 rfl) ?_
        refine va_get (D := (dC, dI)) (ci := 10) (v := .long mtok_c6) (C := RX10) (T := TX10) (N := 39) hx hb hts inX10 hown hK hP 0 rfl rfl 23 (by decide) lf160 (fun _ h9 => h9) rfl dX10_isLine_55 ?_
        refine lv_ldc2 (v := 453773) hx hb hown (hts (.constantLong RX10 190 (453773)) (List.mem_cons_of_mem _ (List.mem_append_left _ (List.mem_append_left _ (List.mem_of_getElem? (i := 5) rfl))))) dX10_isLine_58 ?_
        refine W.lcmp hx hb dX10_isLine_61 ?_
        refine lv_if_ne (tgt := 69) hx hb dX10_isLine_62 (by decide) (fun c99 => ?_) (fun c99 => ?_)
        · have dc99 : (lg_cmp mtok_c6 453773).toInt ≠ 0 := neC rfl (show (0 : Int32).toInt = 0 from rfl) c99
          refine lv_iconst (v := (-1)) hx hb dX10_isLine_69 (by decide) ?_
          have b100 : vp_in at_ 30 := inC rfl (by omega) (by omega)
          refine va_iast hx hb hK hP hD hS 2 0 rfl rfl b100 dX10_isLine_70 (fun H locs hP hD hS => ?_)
          obtain ⟨mrea_u101, emrea_u101⟩ : ∃ f : Nat → Int32, f = upd mrea at_.toNatClampNeg (-1) := ⟨_, rfl⟩
          have hP : va_P (dC, dI) vwCl (wMdR cI cZ cQ b mday mdoo mtel mgai mbyt mtxt mpos_c4 mtka_c5 mtok_c6 mdig_c7 mnum_c8 mfau mrdm mrea_u101 mlin mbsm) H := by rw [emrea_u101]; exact hP
          have hD : va_D A (wMdR cI cZ cQ b mday mdoo mtel mgai mbyt mtxt mpos_c4 mtka_c5 mtok_c6 mdig_c7 mnum_c8 mfau mrdm mrea_u101 mlin mbsm) := by rw [emrea_u101]; exact hD
          exact L71 mrea_u101 _ _ _ (by exact il_put (by assumption) (by omega) (by first | exact Or.inl ⟨tw_y (by assumption) (by assumption) (by assumption) (by assumption), rfl⟩ | exact Or.inr (Or.inl ⟨tw_y (by assumption) (by assumption) (by assumption) (by assumption), rfl⟩) | exact Or.inr (Or.inr (Or.inl ⟨tw_y (by assumption) (by assumption) (by assumption) (by assumption), rfl⟩)) | exact Or.inr (Or.inr (Or.inr (Or.inl ⟨tw_y (by assumption) (by assumption) (by assumption) (by assumption), rfl⟩))) | exact Or.inr (Or.inr (Or.inr (Or.inr ⟨⟨tw_n (by assumption) (by assumption) (by assumption) (by assumption), tw_n (by assumption) (by assumption) (by assumption) (by assumption), tw_n (by assumption) (by assumption) (by assumption) (by assumption), tw_n (by assumption) (by assumption) (by assumption) (by assumption)⟩, rfl⟩))))) hP hD hS (lv_sub hl [0, 1] rfl)
        · have dc99 : (lg_cmp mtok_c6 453773).toInt = 0 := eqC rfl (show (0 : Int32).toInt = 0 from rfl) c99
          refine lv_iconst (v := 3) hx hb dX10_isLine_65 (by decide) ?_
          refine lv_goto (tgt := 70) hx hb dX10_isLine_66 (by decide) ?_
          have b102 : vp_in at_ 30 := inC rfl (by omega) (by omega)
          refine va_iast hx hb hK hP hD hS 2 0 rfl rfl b102 dX10_isLine_70 (fun H locs hP hD hS => ?_)
          obtain ⟨mrea_u103, emrea_u103⟩ : ∃ f : Nat → Int32, f = upd mrea at_.toNatClampNeg 3 := ⟨_, rfl⟩
          have hP : va_P (dC, dI) vwCl (wMdR cI cZ cQ b mday mdoo mtel mgai mbyt mtxt mpos_c4 mtka_c5 mtok_c6 mdig_c7 mnum_c8 mfau mrdm mrea_u103 mlin mbsm) H := by rw [emrea_u103]; exact hP
          have hD : va_D A (wMdR cI cZ cQ b mday mdoo mtel mgai mbyt mtxt mpos_c4 mtka_c5 mtok_c6 mdig_c7 mnum_c8 mfau mrdm mrea_u103 mlin mbsm) := by rw [emrea_u103]; exact hD
          exact L71 mrea_u103 _ _ _ (by exact il_put (by assumption) (by omega) (by first | exact Or.inl ⟨tw_y (by assumption) (by assumption) (by assumption) (by assumption), rfl⟩ | exact Or.inr (Or.inl ⟨tw_y (by assumption) (by assumption) (by assumption) (by assumption), rfl⟩) | exact Or.inr (Or.inr (Or.inl ⟨tw_y (by assumption) (by assumption) (by assumption) (by assumption), rfl⟩)) | exact Or.inr (Or.inr (Or.inr (Or.inl ⟨tw_y (by assumption) (by assumption) (by assumption) (by assumption), rfl⟩))) | exact Or.inr (Or.inr (Or.inr (Or.inr ⟨⟨tw_n (by assumption) (by assumption) (by assumption) (by assumption), tw_n (by assumption) (by assumption) (by assumption) (by assumption), tw_n (by assumption) (by assumption) (by assumption) (by assumption), tw_n (by assumption) (by assumption) (by assumption) (by assumption)⟩, rfl⟩))))) hP hD hS (lv_sub hl [0, 1] rfl)
      · have dc98 : (lg_cmp mtok_c6 847604).toInt = 0 := eqC rfl (show (0 : Int32).toInt = 0 from rfl) c98
        refine lv_iconst (v := 2) hx hb dX10_isLine_50 (by decide) ?_
        refine lv_goto (tgt := 70) hx hb dX10_isLine_51 (by decide) ?_
        have b104 : vp_in at_ 30 := inC rfl (by omega) (by omega)
        refine va_iast hx hb hK hP hD hS 2 0 rfl rfl b104 dX10_isLine_70 (fun H locs hP hD hS => ?_)
        obtain ⟨mrea_u105, emrea_u105⟩ : ∃ f : Nat → Int32, f = upd mrea at_.toNatClampNeg 2 := ⟨_, rfl⟩
        have hP : va_P (dC, dI) vwCl (wMdR cI cZ cQ b mday mdoo mtel mgai mbyt mtxt mpos_c4 mtka_c5 mtok_c6 mdig_c7 mnum_c8 mfau mrdm mrea_u105 mlin mbsm) H := by rw [emrea_u105]; exact hP
        have hD : va_D A (wMdR cI cZ cQ b mday mdoo mtel mgai mbyt mtxt mpos_c4 mtka_c5 mtok_c6 mdig_c7 mnum_c8 mfau mrdm mrea_u105 mlin mbsm) := by rw [emrea_u105]; exact hD
        exact L71 mrea_u105 _ _ _ (by exact il_put (by assumption) (by omega) (by first | exact Or.inl ⟨tw_y (by assumption) (by assumption) (by assumption) (by assumption), rfl⟩ | exact Or.inr (Or.inl ⟨tw_y (by assumption) (by assumption) (by assumption) (by assumption), rfl⟩) | exact Or.inr (Or.inr (Or.inl ⟨tw_y (by assumption) (by assumption) (by assumption) (by assumption), rfl⟩)) | exact Or.inr (Or.inr (Or.inr (Or.inl ⟨tw_y (by assumption) (by assumption) (by assumption) (by assumption), rfl⟩))) | exact Or.inr (Or.inr (Or.inr (Or.inr ⟨⟨tw_n (by assumption) (by assumption) (by assumption) (by assumption), tw_n (by assumption) (by assumption) (by assumption) (by assumption), tw_n (by assumption) (by assumption) (by assumption) (by assumption), tw_n (by assumption) (by assumption) (by assumption) (by assumption)⟩, rfl⟩))))) hP hD hS (lv_sub hl [0, 1] rfl)
    · have dc97 : (lg_cmp mtok_c6 670208).toInt = 0 := eqC rfl (show (0 : Int32).toInt = 0 from rfl) c97
      refine lv_iconst (v := 1) hx hb dX10_isLine_35 (by decide) ?_
      refine lv_goto (tgt := 70) hx hb dX10_isLine_36 (by decide) ?_
      have b106 : vp_in at_ 30 := inC rfl (by omega) (by omega)
      refine va_iast hx hb hK hP hD hS 2 0 rfl rfl b106 dX10_isLine_70 (fun H locs hP hD hS => ?_)
      obtain ⟨mrea_u107, emrea_u107⟩ : ∃ f : Nat → Int32, f = upd mrea at_.toNatClampNeg 1 := ⟨_, rfl⟩
      have hP : va_P (dC, dI) vwCl (wMdR cI cZ cQ b mday mdoo mtel mgai mbyt mtxt mpos_c4 mtka_c5 mtok_c6 mdig_c7 mnum_c8 mfau mrdm mrea_u107 mlin mbsm) H := by rw [emrea_u107]; exact hP
      have hD : va_D A (wMdR cI cZ cQ b mday mdoo mtel mgai mbyt mtxt mpos_c4 mtka_c5 mtok_c6 mdig_c7 mnum_c8 mfau mrdm mrea_u107 mlin mbsm) := by rw [emrea_u107]; exact hD
      exact L71 mrea_u107 _ _ _ (by exact il_put (by assumption) (by omega) (by first | exact Or.inl ⟨tw_y (by assumption) (by assumption) (by assumption) (by assumption), rfl⟩ | exact Or.inr (Or.inl ⟨tw_y (by assumption) (by assumption) (by assumption) (by assumption), rfl⟩) | exact Or.inr (Or.inr (Or.inl ⟨tw_y (by assumption) (by assumption) (by assumption) (by assumption), rfl⟩)) | exact Or.inr (Or.inr (Or.inr (Or.inl ⟨tw_y (by assumption) (by assumption) (by assumption) (by assumption), rfl⟩))) | exact Or.inr (Or.inr (Or.inr (Or.inr ⟨⟨tw_n (by assumption) (by assumption) (by assumption) (by assumption), tw_n (by assumption) (by assumption) (by assumption) (by assumption), tw_n (by assumption) (by assumption) (by assumption) (by assumption), tw_n (by assumption) (by assumption) (by assumption) (by assumption)⟩, rfl⟩))))) hP hD hS (lv_sub hl [0, 1] rfl)
  · have dc96 : (lg_cmp mtok_c6 365647).toInt = 0 := eqC rfl (show (0 : Int32).toInt = 0 from rfl) c96
    refine lv_iconst (v := 0) hx hb dX10_isLine_20 (by decide) ?_
    refine lv_goto (tgt := 70) hx hb dX10_isLine_21 (by decide) ?_
    have b108 : vp_in at_ 30 := inC rfl (by omega) (by omega)
    refine va_iast hx hb hK hP hD hS 2 0 rfl rfl b108 dX10_isLine_70 (fun H locs hP hD hS => ?_)
    obtain ⟨mrea_u109, emrea_u109⟩ : ∃ f : Nat → Int32, f = upd mrea at_.toNatClampNeg 0 := ⟨_, rfl⟩
    have hP : va_P (dC, dI) vwCl (wMdR cI cZ cQ b mday mdoo mtel mgai mbyt mtxt mpos_c4 mtka_c5 mtok_c6 mdig_c7 mnum_c8 mfau mrdm mrea_u109 mlin mbsm) H := by rw [emrea_u109]; exact hP
    have hD : va_D A (wMdR cI cZ cQ b mday mdoo mtel mgai mbyt mtxt mpos_c4 mtka_c5 mtok_c6 mdig_c7 mnum_c8 mfau mrdm mrea_u109 mlin mbsm) := by rw [emrea_u109]; exact hD
    exact L71 mrea_u109 _ _ _ (by exact il_put (by assumption) (by omega) (by first | exact Or.inl ⟨tw_y (by assumption) (by assumption) (by assumption) (by assumption), rfl⟩ | exact Or.inr (Or.inl ⟨tw_y (by assumption) (by assumption) (by assumption) (by assumption), rfl⟩) | exact Or.inr (Or.inr (Or.inl ⟨tw_y (by assumption) (by assumption) (by assumption) (by assumption), rfl⟩)) | exact Or.inr (Or.inr (Or.inr (Or.inl ⟨tw_y (by assumption) (by assumption) (by assumption) (by assumption), rfl⟩))) | exact Or.inr (Or.inr (Or.inr (Or.inr ⟨⟨tw_n (by assumption) (by assumption) (by assumption) (by assumption), tw_n (by assumption) (by assumption) (by assumption) (by assumption), tw_n (by assumption) (by assumption) (by assumption) (by assumption), tw_n (by assumption) (by assumption) (by assumption) (by assumption)⟩, rfl⟩))))) hP hD hS (lv_sub hl [0, 1] rfl)
set_option maxHeartbeats 4000000 in
set_option maxRecDepth 100000 in
theorem k_X10_isRead2 (l : Launch) (dC : Nat → ClassId) (dI : Nat → Nat → Nat) (cI cZ cQ : ClassId) (b : Nat → Nat) (mday : Int32) (mdoo : Int32) (mtel : Int32) (mgai : Int32) (mbyt : Int32) (mtxt : Nat → Int32) (mpos : Int32) (mtka : Int32) (mtok : Int64) (mdig : Int32) (mnum : Int32) (mfau : Int32) (mrdm : Int32) (mrea : Nat → Int32) (mlin : Int32) (mbsm : Int32) (sz : Nat) (r_mday : 0 ≤ mday.toInt ∧ mday.toInt ≤ 400) (r_mdoo : 0 ≤ mdoo.toInt ∧ mdoo.toInt ≤ 14) (r_mgai : 0 ≤ mgai.toInt ∧ mgai.toInt ≤ 100) (r_mbyt : 0 ≤ mbyt.toInt ∧ mbyt.toInt ≤ 160) (r_mpos : 0 ≤ mpos.toInt ∧ mpos.toInt ≤ 160) (r_mrdm : 0 ≤ mrdm.toInt ∧ mrdm.toInt ≤ 10) (r_mlin : 0 ≤ mlin.toInt ∧ mlin.toInt ≤ 10) : KW l yX10_isRead wsX10_isRead { frames := 4, cells := 0, slots := 0, locals := 86 } (dC, dI) (TY cI cZ cQ) (wMdR cI cZ cQ b mday mdoo mtel mgai mbyt mtxt mpos mtka mtok mdig mnum mfau mrdm mrea mlin mbsm) [.ref (b 39)] sz 0 0 (fun (r : Int32) (u : US) => ((((r = 1) ∧ (roM mtxt mbyt.toInt 1 (u.1 5 0) (u.1 6) (u.1 7 0))) ∨ ((r = 0) ∧ (roM mtxt mbyt.toInt 0 (u.1 5 0) (u.1 6) (u.1 7 0))))) ∧ (0 ≤ (u.1 0 0).toInt ∧ (u.1 0 0).toInt ≤ 160) ∧ (0 ≤ (u.1 7 0).toInt ∧ (u.1 7 0).toInt ≤ 10)) (fun u : US => (wMdR cI cZ cQ b mday mdoo mtel mgai mbyt mtxt (u.1 0 0) (u.1 1 0) u.2.1 (u.1 3 0) (u.1 4 0) (u.1 5 0) (u.1 7 0) (u.1 6) mlin mbsm)) := by
  refine Met.ofW (cc := cX10_isRead) (maxL := 2) (ret := (some .boolean)) (by decide) rfl ?_
  intro p e s m args below meth c s₁ B hml hv
  obtain ⟨rfl, hsz, hP, hK, hD0, hN⟩ := hv
  have hx := B.exec
  have hb := B.bytes
  have hr := B.returns
  have hts := atoms_spec (ws := wsX10_isRead) B.pre
  have hown : s.vm.findClass RX10 = some m.cls := findClass_of_methodNamed B.named
  have hlocks := B.notSynchronized
  have lf146 := hts (.fieldLink RX10 146 "PalaceOfRoomsModel" "position" "I") (List.mem_cons_of_mem _ (List.mem_append_left _ (List.mem_append_left _ (List.mem_of_getElem? (i := 0) rfl))))
  have inX10 : ∀ w ∈ wsX100, w ∈ wsX10_isRead := fun w h => List.mem_cons_of_mem _ (List.mem_append_right _ h)
  have lf201 := hts (.fieldLink RX10 201 "PalaceOfRoomsModel" "readMany" "I") (List.mem_cons_of_mem _ (List.mem_append_left _ (List.mem_append_left _ (List.mem_of_getElem? (i := 1) rfl))))
  have lf160 := hts (.fieldLink RX10 160 "PalaceOfRoomsModel" "token" "J") (List.mem_cons_of_mem _ (List.mem_append_left _ (List.mem_append_left _ (List.mem_of_getElem? (i := 2) rfl))))
  subst hsz
  have hD := hD0.self (sz := s.heap.size)
  generalize hAe : va_A (wMdR cI cZ cQ b mday mdoo mtel mgai mbyt mtxt mpos mtka mtok mdig mnum mfau mrdm mrea mlin mbsm) s.heap.size = A at hD ⊢
  have hA : ∀ q : Nat, s.heap.size ≤ q → A q := fun q h => by rw [← hAe]; exact Or.inr h
  have hS : va_S A s.heap s.heap [] := va_S.rf
  have hl := lv_entry ([.ref (b 39)]) (n := 2) (Nat.le_of_ble_eq_true rfl)
  rw [lg_entry_eq]
  generalize (lg_sl ([.ref (b 39)]) ++ List.replicate (2 - (lg_sl ([.ref (b 39)])).length) Slot.unset).toArray = ls at hl ⊢
  have hl : lv_has ls 2 [(0, .ref (b 39))] := hl
  refine lv_aload_n hx hb dX10_isRead_0 rfl (lv_at hl 0 rfl) ?_
  refine lv_iconst (v := 0) hx hb dX10_isRead_1 (by decide) ?_
  refine va_put (D := (dC, dI)) (ci := 10) (v := .int 0) (ty := .int) (C := RX10) (T := TX10) (N := 39) hx hb hts inX10 tyX10 tyX10_ok nmX10 hown hK hP hD hS 0 rfl rfl 21 (by decide) lf146 (fun _ h9 => h9) rfl (by decide +kernel) rfl rfl (Nat.le_of_ble_eq_true rfl) dX10_isRead_2 (fun H locs hP hD hS => ?_)
  have g1 : 0 ≤ (0 : Int32).toInt ∧ (0 : Int32).toInt ≤ 160 := by rw [show (0 : Int32).toInt = 0 from (show (0 : Int32).toInt = 0 from rfl)]; exact ⟨by omega, by omega⟩
  have hP : va_P (dC, dI) vwCl (wMdR cI cZ cQ b mday mdoo mtel mgai mbyt mtxt 0 mtka mtok mdig mnum mfau mrdm mrea mlin mbsm) H := hP
  have hD : va_D A (wMdR cI cZ cQ b mday mdoo mtel mgai mbyt mtxt 0 mtka mtok mdig mnum mfau mrdm mrea mlin mbsm) := hD
  refine lv_aload_n hx hb dX10_isRead_5 rfl (lv_at hl 0 rfl) ?_
  refine lv_iconst (v := 0) hx hb dX10_isRead_6 (by decide) ?_
  refine va_put (D := (dC, dI)) (ci := 10) (v := .int 0) (ty := .int) (C := RX10) (T := TX10) (N := 39) hx hb hts inX10 tyX10 tyX10_ok nmX10 hown hK hP hD hS 0 rfl rfl 27 (by decide) lf201 (fun _ h9 => h9) rfl (by decide +kernel) rfl rfl (Nat.le_of_ble_eq_true rfl) dX10_isRead_7 (fun H locs hP hD hS => ?_)
  have g2 : 0 ≤ (0 : Int32).toInt ∧ (0 : Int32).toInt ≤ 10 := by rw [show (0 : Int32).toInt = 0 from (show (0 : Int32).toInt = 0 from rfl)]; exact ⟨by omega, by omega⟩
  have hP : va_P (dC, dI) vwCl (wMdR cI cZ cQ b mday mdoo mtel mgai mbyt mtxt 0 mtka mtok mdig mnum mfau 0 mrea mlin mbsm) H := hP
  have hD : va_D A (wMdR cI cZ cQ b mday mdoo mtel mgai mbyt mtxt 0 mtka mtok mdig mnum mfau 0 mrea mlin mbsm) := hD
  refine lv_iconst (v := 1) hx hb dX10_isRead_10 (by decide) ?_
  refine lv_istore_n (lv' := [(1, .int 1), (0, .ref (b 39))]) hx hb dX10_isRead_11 rfl hl (by decide) rfl (fun ls hl => ?_)
  have L12 : ∀ (nn : Nat) (y12_1 : Int32) (mpos_12 : Int32) (mtka_12 : Int32) (mtok_12 : Int64) (mdig_12 : Int32) (mnum_12 : Int32) (mfau_12 : Int32) (mrea_12 : Nat → Int32) (mrdm_12 : Int32) (H : Heap) (locs : List Loc) (ls : Array Slot), (0 ≤ mpos_12.toInt ∧ mpos_12.toInt ≤ 160) → (0 ≤ mrdm_12.toInt ∧ mrdm_12.toInt ≤ 10) → (mpos_12.toInt ≤ mbyt.toInt) → ((y12_1.toInt) = 0 ∨ mrdm_12.toInt ≤ 9) → (irI mtxt mbyt.toInt y12_1 mpos_12.toInt mrea_12 mrdm_12 mtka_12 mtok_12) → (11 - mrdm_12.toInt).toNat < nn → va_P (dC, dI) vwCl (wMdR cI cZ cQ b mday mdoo mtel mgai mbyt mtxt mpos_12 mtka_12 mtok_12 mdig_12 mnum_12 mfau_12 mrdm_12 mrea_12 mlin mbsm) H → va_D A (wMdR cI cZ cQ b mday mdoo mtel mgai mbyt mtxt mpos_12 mtka_12 mtok_12 mdig_12 mnum_12 mfau_12 mrdm_12 mrea_12 mlin mbsm) → va_S A s.heap H locs → lv_has ls 2 [(0, .ref (b 39)), (1, .int y12_1)] → W p l e (headSpec wsX10_isRead { frames := 4, cells := 0, slots := 0, locals := 86 }).room s m ([.ref (b 39)] : List Value).toArray below meth c H locs 0 0 (MQ below (va_Qi (fun (r : Int32) (u : US) => ((((r = 1) ∧ (roM mtxt mbyt.toInt 1 (u.1 5 0) (u.1 6) (u.1 7 0))) ∨ ((r = 0) ∧ (roM mtxt mbyt.toInt 0 (u.1 5 0) (u.1 6) (u.1 7 0))))) ∧ (0 ≤ (u.1 0 0).toInt ∧ (u.1 0 0).toInt ≤ 160) ∧ (0 ≤ (u.1 7 0).toInt ∧ (u.1 7 0).toInt ≤ 10)) (Bw (dC, dI) A (fun u : US => (wMdR cI cZ cQ b mday mdoo mtel mgai mbyt mtxt (u.1 0 0) (u.1 1 0) u.2.1 (u.1 3 0) (u.1 4 0) (u.1 5 0) (u.1 7 0) (u.1 6) mlin mbsm))) A) ([.ref (b 39)] : List Value).toArray s 0 0 A) (F0 m 12 ls []) := by
    intro nn
    induction nn with
    | zero =>
      intro y12_1 mpos_12 mtka_12 mtok_12 mdig_12 mnum_12 mfau_12 mrea_12 mrdm_12 H locs ls r_mpos_12 r_mrdm_12 i12_0 i12_1 i12_2 hm12
      exact absurd hm12 (Nat.not_lt_zero _)
    | succ nn ih12 =>
      intro y12_1 mpos_12 mtka_12 mtok_12 mdig_12 mnum_12 mfau_12 mrea_12 mrdm_12 H locs ls r_mpos_12 r_mrdm_12 i12_0 i12_1 i12_2 hm12 hP hD hS hl
      refine lv_iload_n hx hb dX10_isRead_12 rfl (lv_at hl 1 rfl) ?_
      refine lv_if_eq (tgt := 74) hx hb dX10_isRead_13 (by decide) (fun c3 => ?_) (fun c3 => ?_)
      · have dc3 : y12_1.toInt = 0 := eqC rfl (show (0 : Int32).toInt = 0 from rfl) c3
        refine lv_aload_n hx hb dX10_isRead_74 rfl (lv_at hl 0 rfl) ?_
        refine va_get (D := (dC, dI)) (ci := 10) (v := .long mtok_12) (C := RX10) (T := TX10) (N := 39) hx hb hts inX10 hown hK hP 0 rfl rfl 23 (by decide) lf160 (fun _ h9 => h9) rfl dX10_isRead_75 ?_
        refine lv_ldc2 (v := (-2)) hx hb hown (hts (.constantLong RX10 158 (-2)) (List.mem_cons_of_mem _ (List.mem_append_left _ (List.mem_append_left _ (List.mem_of_getElem? (i := 4) rfl))))) dX10_isRead_78 ?_
        refine W.lcmp hx hb dX10_isRead_81 ?_
        refine lv_if_eq (tgt := 92) hx hb dX10_isRead_82 (by decide) (fun c4 => ?_) (fun c4 => ?_)
        · have dc4 : (lg_cmp mtok_12 (-2)).toInt = 0 := eqC rfl (show (0 : Int32).toInt = 0 from rfl) c4
          refine lv_iconst (v := 1) hx hb dX10_isRead_92 (by decide) ?_
          refine lv_goto (tgt := 97) hx hb dX10_isRead_93 (by decide) ?_
          exact W.zret (v := 1) hx hb hr (by decide) (fun tq ht hW => ⟨⟨1, (uS [(fun _ => mpos_12), (fun _ => mtka_12), (fun _ => 0), (fun _ => mdig_12), (fun _ => mnum_12), (fun _ => mfau_12), mrea_12, (fun _ => mrdm_12)] mtok_12 (fun _ => 0)), rfl, ⟨(Or.inl (⟨rfl, (show roM mtxt mbyt.toInt 1 mfau_12 mrea_12 mrdm_12 from by (try rw [show (1 : Int32).toInt = 1 from (show (1 : Int32).toInt = 1 from rfl)]); (first | exact io_ok i12_2 (by assumption) (by assumption) | exact io_f i12_2 (by assumption) (by assumption) (by assumption) | exact io_fail (ii_rd i12_2 (by assumption)) (by omega) (by omega) (by assumption) (by assumption)))⟩)), r_mpos_12, r_mrdm_12⟩, by rw [ht]; exact hP, hD⟩, hS.F ht⟩) hS.2.2 dX10_isRead_97
        · have dc4 : (lg_cmp mtok_12 (-2)).toInt ≠ 0 := neC rfl (show (0 : Int32).toInt = 0 from rfl) c4
          refine lv_aload_n hx hb dX10_isRead_85 rfl (lv_at hl 0 rfl) ?_
          refine wrV (As := []) (rest := []) (wr := [((b 28), .inl (cI, 30, .inl mrea_12))]) (w2 := (fun u : US => (wMdR cI cZ cQ b mday mdoo mtel mgai mbyt mtxt mpos_12 mtka_12 mtok_12 mdig_12 mnum_12 (u.1 0 0) mrdm_12 mrea_12 mlin mbsm))) ⟨hx, hb, hml, hown, hts⟩ (k_X10_fails2 l dC dI cI cZ cQ b mday mdoo mtel mgai mbyt mtxt mpos_12 mtka_12 mtok_12 mdig_12 mnum_12 mfau_12 mrdm_12 mlin mbsm _ r_mday r_mdoo r_mgai r_mbyt r_mpos_12 r_mrdm_12 r_mlin) (cwV 0 hts gX10_isRead_X10_fails rfl rfl rfl (by decide +kernel) ⟨Nat.le_of_ble_eq_true rfl, Nat.le_of_ble_eq_true rfl⟩) hP hD hS hA hK hN [0, 1] [2] [1, 2, 0] rfl rfl (by decide) (by decide) (by decide) (fun _ => rfl) (by decide) 0 10 rfl rfl rfl hl.1 rfl (Nat.le_of_ble_eq_true rfl) dX10_isRead_86 ⟨Nat.le_of_ble_eq_true rfl, Nat.le_of_ble_eq_true rfl⟩ (fun r5 u7 H locs h6 hP hD hS => ?_)
          obtain ⟨mfau_c8, emfau_c8⟩ : ∃ f : Int32, f = (u7.1 0 0) := ⟨_, rfl⟩
          have hP : va_P (dC, dI) vwCl (wMdR cI cZ cQ b mday mdoo mtel mgai mbyt mtxt mpos_12 mtka_12 mtok_12 mdig_12 mnum_12 mfau_c8 mrdm_12 mrea_12 mlin mbsm) H := by rw [emfau_c8]; exact hP
          have hD : va_D A (wMdR cI cZ cQ b mday mdoo mtel mgai mbyt mtxt mpos_12 mtka_12 mtok_12 mdig_12 mnum_12 mfau_c8 mrdm_12 mrea_12 mlin mbsm) := by rw [emfau_c8]; exact hD
          have h6 : ((((r5 = 0) ∧ (mfau_c8 = mtka_12)))) := by (try rw [emfau_c8]); exact h6
          rcases h6 with (⟨rfl, h6_a0⟩)
          · refine lv_if_eq (tgt := 96) hx hb dX10_isRead_89 (by decide) (fun _ => ?_) (fun c9 => absurd (by decide) c9)
            refine lv_iconst (v := 0) hx hb dX10_isRead_96 (by decide) ?_
            exact W.zret (v := 0) hx hb hr (by decide) (fun tq ht hW => ⟨⟨0, (uS [(fun _ => mpos_12), (fun _ => mtka_12), (fun _ => 0), (fun _ => mdig_12), (fun _ => mnum_12), (fun _ => mfau_c8), mrea_12, (fun _ => mrdm_12)] mtok_12 (fun _ => 0)), rfl, ⟨(Or.inr (⟨rfl, (show roM mtxt mbyt.toInt 0 mfau_c8 mrea_12 mrdm_12 from by (try rw [show (0 : Int32).toInt = 0 from (show (0 : Int32).toInt = 0 from rfl)]); (first | exact io_ok i12_2 (by assumption) (by assumption) | exact io_f i12_2 (by assumption) (by assumption) (by assumption) | exact io_fail (ii_rd i12_2 (by assumption)) (by omega) (by omega) (by assumption) (by assumption)))⟩)), r_mpos_12, r_mrdm_12⟩, by rw [ht]; exact hP, hD⟩, hS.F ht⟩) hS.2.2 dX10_isRead_97
      · have dc3 : y12_1.toInt ≠ 0 := neC rfl (show (0 : Int32).toInt = 0 from rfl) c3
        refine lv_aload_n hx hb dX10_isRead_16 rfl (lv_at hl 0 rfl) ?_
        refine lv_iconst (v := 3) hx hb dX10_isRead_17 (by decide) ?_
        refine lv_aload_n hx hb dX10_isRead_18 rfl (lv_at hl 0 rfl) ?_
        refine va_get (D := (dC, dI)) (ci := 10) (v := .int mrdm_12) (C := RX10) (T := TX10) (N := 39) hx hb hts inX10 hown hK hP 0 rfl rfl 27 (by decide) lf201 (fun _ h9 => h9) rfl dX10_isRead_19 ?_
        refine lv_imul hx hb dX10_isRead_22 ?_
        have f9 : (3 * mrdm_12).toInt = (3) * (mrdm_12.toInt) := mulC (show (3 : Int32).toInt = 3 from rfl) rfl (by omega) (by omega)
        refine wrV (As := [.int (3 * mrdm_12)]) (rest := []) (wr := []) (w2 := (fun u : US => (wMdR cI cZ cQ b mday mdoo mtel mgai mbyt mtxt (u.1 0 0) (u.1 1 0) u.2.1 (u.1 3 0) (u.1 4 0) (u.1 5 0) mrdm_12 (u.1 6) mlin mbsm))) ⟨hx, hb, hml, hown, hts⟩ (k_X10_isLine2 l dC dI cI cZ cQ b mday mdoo mtel mgai mbyt mtxt mpos_12 mtka_12 mtok_12 mdig_12 mnum_12 mfau_12 mrdm_12 mrea_12 mlin mbsm _ (3 * mrdm_12) r_mday r_mdoo r_mgai r_mbyt r_mpos_12 r_mrdm_12 r_mlin (by omega) (by omega) (by omega)) (cwV 1 hts gX10_isRead_X10_isLine rfl rfl rfl (by decide +kernel) ⟨Nat.le_of_ble_eq_true rfl, Nat.le_of_ble_eq_true rfl⟩) hP hD hS hA hK hN [0, 1, 2] [] [0, 1, 2] rfl rfl (by decide) (by decide) (by decide) (fun _ => rfl) (by decide) 0 10 rfl rfl rfl hl.1 rfl (Nat.le_of_ble_eq_true rfl) dX10_isRead_23 ⟨Nat.le_of_ble_eq_true rfl, Nat.le_of_ble_eq_true rfl⟩ (fun r10 u12 H locs h11 hP hD hS => ?_)
        obtain ⟨mpos_c13, empos_c13⟩ : ∃ f : Int32, f = (u12.1 0 0) := ⟨_, rfl⟩
        obtain ⟨mtka_c14, emtka_c14⟩ : ∃ f : Int32, f = (u12.1 1 0) := ⟨_, rfl⟩
        obtain ⟨mtok_c15, emtok_c15⟩ : ∃ f : Int64, f = u12.2.1 := ⟨_, rfl⟩
        obtain ⟨mdig_c16, emdig_c16⟩ : ∃ f : Int32, f = (u12.1 3 0) := ⟨_, rfl⟩
        obtain ⟨mnum_c17, emnum_c17⟩ : ∃ f : Int32, f = (u12.1 4 0) := ⟨_, rfl⟩
        obtain ⟨mfau_c18, emfau_c18⟩ : ∃ f : Int32, f = (u12.1 5 0) := ⟨_, rfl⟩
        obtain ⟨mrea_c19, emrea_c19⟩ : ∃ f : Nat → Int32, f = (u12.1 6) := ⟨_, rfl⟩
        have hP : va_P (dC, dI) vwCl (wMdR cI cZ cQ b mday mdoo mtel mgai mbyt mtxt mpos_c13 mtka_c14 mtok_c15 mdig_c16 mnum_c17 mfau_c18 mrdm_12 mrea_c19 mlin mbsm) H := by rw [empos_c13, emtka_c14, emtok_c15, emdig_c16, emnum_c17, emfau_c18, emrea_c19]; exact hP
        have hD : va_D A (wMdR cI cZ cQ b mday mdoo mtel mgai mbyt mtxt mpos_c13 mtka_c14 mtok_c15 mdig_c16 mnum_c17 mfau_c18 mrdm_12 mrea_c19 mlin mbsm) := by rw [empos_c13, emtka_c14, emtok_c15, emdig_c16, emnum_c17, emfau_c18, emrea_c19]; exact hD
        have h11 : ((((r10 = 1) ∧ (lnM mtxt mbyt.toInt mpos_12.toInt (3 * mrdm_12) mrea_12 mrea_c19 mpos_c13.toInt)) ∨ ((r10 = 0) ∧ (lnR mtxt mbyt.toInt mpos_12.toInt (3 * mrdm_12) mrea_12 mrea_c19 mfau_c18.toInt)))) ∧ (mpos_c13.toInt ≤ mbyt.toInt) ∧ (0 ≤ mpos_c13.toInt ∧ mpos_c13.toInt ≤ 160) := by (try rw [empos_c13]); (try rw [emtka_c14]); (try rw [emtok_c15]); (try rw [emdig_c16]); (try rw [emnum_c17]); (try rw [emfau_c18]); (try rw [emrea_c19]); exact h11
        rcases h11 with ⟨(⟨rfl, h11_a0⟩ | ⟨rfl, h11_a0⟩), h11_0, h11_1⟩
        · refine lv_if_ne (tgt := 31) hx hb dX10_isRead_26 (by decide) (fun _ => ?_) (fun c9 => absurd c9 (by decide))
          refine lv_aload_n hx hb dX10_isRead_31 rfl (lv_at hl 0 rfl) ?_
          refine lv_dup hx hb dX10_isRead_32 rfl ?_
          refine va_get (D := (dC, dI)) (ci := 10) (v := .int mrdm_12) (C := RX10) (T := TX10) (N := 39) hx hb hts inX10 hown hK hP 0 rfl rfl 27 (by decide) lf201 (fun _ h9 => h9) rfl dX10_isRead_33 ?_
          refine lv_iconst (v := 1) hx hb dX10_isRead_36 (by decide) ?_
          refine lv_iadd hx hb dX10_isRead_37 ?_
          have f20 : (mrdm_12 + 1).toInt = (mrdm_12.toInt) + (1) := addC rfl (show (1 : Int32).toInt = 1 from rfl) (by omega) (by omega)
          refine lv_topi (fun x21 ex21 => ?_)
          have ix21 : x21.toInt = (mrdm_12.toInt) + (1) := by rw [ex21]; exact f20
          refine va_put (D := (dC, dI)) (ci := 10) (v := .int x21) (ty := .int) (C := RX10) (T := TX10) (N := 39) hx hb hts inX10 tyX10 tyX10_ok nmX10 hown hK hP hD hS 0 rfl rfl 27 (by decide) lf201 (fun _ h9 => h9) rfl (by decide +kernel) rfl rfl (Nat.le_of_ble_eq_true rfl) dX10_isRead_38 (fun H locs hP hD hS => ?_)
          have g22 : 0 ≤ x21.toInt ∧ x21.toInt ≤ 10 := by rw [show x21.toInt = x21.toInt from rfl]; exact ⟨by omega, by omega⟩
          have hP : va_P (dC, dI) vwCl (wMdR cI cZ cQ b mday mdoo mtel mgai mbyt mtxt mpos_c13 mtka_c14 mtok_c15 mdig_c16 mnum_c17 mfau_c18 x21 mrea_c19 mlin mbsm) H := hP
          have hD : va_D A (wMdR cI cZ cQ b mday mdoo mtel mgai mbyt mtxt mpos_c13 mtka_c14 mtok_c15 mdig_c16 mnum_c17 mfau_c18 x21 mrea_c19 mlin mbsm) := hD
          refine lv_aload_n hx hb dX10_isRead_41 rfl (lv_at hl 0 rfl) ?_
          refine wvV (As := []) (rest := []) (wr := [((b 28), .inl (cI, 30, .inl mrea_c19))]) (w2 := (fun u : US => (wMdR cI cZ cQ b mday mdoo mtel mgai mbyt mtxt (u.1 0 0) (u.1 1 0) u.2.1 (u.1 3 0) (u.1 4 0) mfau_c18 x21 mrea_c19 mlin mbsm))) ⟨hx, hb, hml, hown, hts⟩ (k_X10_nextToken2 l dC dI cI cZ cQ b mday mdoo mtel mgai mbyt mtxt mpos_c13 mtka_c14 mtok_c15 mdig_c16 mnum_c17 mfau_c18 x21 mlin mbsm _ r_mday r_mdoo r_mgai r_mbyt h11_1 g22 r_mlin (by omega)) (cwV 0 hts gX10_isRead_X10_nextToken rfl rfl rfl (by decide +kernel) ⟨Nat.le_of_ble_eq_true rfl, Nat.le_of_ble_eq_true rfl⟩) hP hD hS hA hK hN [0, 1] [2] [1, 2, 0] rfl rfl (by decide) (by decide) (by decide) (fun _ => rfl) (by decide) 0 10 rfl rfl rfl hl.1 rfl (Nat.le_of_ble_eq_true rfl) dX10_isRead_42 ⟨Nat.le_of_ble_eq_true rfl, Nat.le_of_ble_eq_true rfl⟩ (fun u25 H locs h24 hP hD hS => ?_)
          obtain ⟨mpos_c26, empos_c26⟩ : ∃ f : Int32, f = (u25.1 0 0) := ⟨_, rfl⟩
          obtain ⟨mtka_c27, emtka_c27⟩ : ∃ f : Int32, f = (u25.1 1 0) := ⟨_, rfl⟩
          obtain ⟨mtok_c28, emtok_c28⟩ : ∃ f : Int64, f = u25.2.1 := ⟨_, rfl⟩
          obtain ⟨mdig_c29, emdig_c29⟩ : ∃ f : Int32, f = (u25.1 3 0) := ⟨_, rfl⟩
          obtain ⟨mnum_c30, emnum_c30⟩ : ∃ f : Int32, f = (u25.1 4 0) := ⟨_, rfl⟩
          have hP : va_P (dC, dI) vwCl (wMdR cI cZ cQ b mday mdoo mtel mgai mbyt mtxt mpos_c26 mtka_c27 mtok_c28 mdig_c29 mnum_c30 mfau_c18 x21 mrea_c19 mlin mbsm) H := by rw [empos_c26, emtka_c27, emtok_c28, emdig_c29, emnum_c30]; exact hP
          have hD : va_D A (wMdR cI cZ cQ b mday mdoo mtel mgai mbyt mtxt mpos_c26 mtka_c27 mtok_c28 mdig_c29 mnum_c30 mfau_c18 x21 mrea_c19 mlin mbsm) := by rw [empos_c26, emtka_c27, emtok_c28, emdig_c29, emnum_c30]; exact hD
          have h24 : (mpos_c26.toInt ≤ mbyt.toInt) ∧ (0 ≤ mtka_c27.toInt) ∧ (mtka_c27.toInt ≤ mpos_c26.toInt) ∧ (mtka_c27.toInt = tS mtxt mbyt.toInt mpos_c13.toInt) ∧ (mpos_c26.toInt = tE mtxt mbyt.toInt mtka_c27.toInt) ∧ (mtok_c28 = tkV mtxt mbyt.toInt mtka_c27.toInt mpos_c26.toInt) ∧ (nmP mtxt mbyt.toInt mtka_c27.toInt mpos_c26.toInt mnum_c30) ∧ (0 ≤ mpos_c26.toInt ∧ mpos_c26.toInt ≤ 160) := by (try rw [empos_c26]); (try rw [emtka_c27]); (try rw [emtok_c28]); (try rw [emdig_c29]); (try rw [emnum_c30]); exact h24
          obtain ⟨h24_0, h24_1, h24_2, h24_3, h24_4, h24_5, h24_6, h24_7⟩ := h24
          refine lv_aload_n hx hb dX10_isRead_45 rfl (lv_at hl 0 rfl) ?_
          refine va_get (D := (dC, dI)) (ci := 10) (v := .long mtok_c28) (C := RX10) (T := TX10) (N := 39) hx hb hts inX10 hown hK hP 0 rfl rfl 23 (by decide) lf160 (fun _ h9 => h9) rfl dX10_isRead_46 ?_
          refine lv_ldc2 (v := (-3)) hx hb hown (hts (.constantLong RX10 172 (-3)) (List.mem_cons_of_mem _ (List.mem_append_left _ (List.mem_append_left _ (List.mem_of_getElem? (i := 3) rfl))))) dX10_isRead_49 ?_
          refine W.lcmp hx hb dX10_isRead_52 ?_
          refine lv_if_ne (tgt := 69) hx hb dX10_isRead_53 (by decide) (fun c31 => ?_) (fun c31 => ?_)
          · have dc31 : (lg_cmp mtok_c28 (-3)).toInt ≠ 0 := neC rfl (show (0 : Int32).toInt = 0 from rfl) c31
            refine lv_iconst (v := 0) hx hb dX10_isRead_69 (by decide) ?_
            refine lv_istore_n (lv' := [(1, .int 0), (0, .ref (b 39))]) hx hb dX10_isRead_70 rfl hl (by decide) rfl (fun ls hl => ?_)
            refine lv_goto (tgt := 12) hx hb dX10_isRead_71 (by decide) ?_
            have kc32 : (0 : Int32).toInt = 0 := rfl
            exact ih12 0 mpos_c26 mtka_c27 mtok_c28 mdig_c29 mnum_c30 mfau_c18 mrea_c19 x21 _ _ _ h24_7 g22 (by omega) (by omega) (by (first | exact ii_more (ii_rd i12_2 (by assumption)) (by omega) (by assumption) (by assumption) (by omega) (by assumption) (by assumption) (by assumption) (by assumption) (by omega) | exact ii_stop (ii_rd i12_2 (by assumption)) (by omega) (by omega) (by assumption) (by assumption) (by omega) (by assumption) (by assumption) (by assumption) (by first | exact Or.inl (by assumption) | exact Or.inr (by omega)) (by omega) | exact ii_init (by first | rfl | omega) (by first | rfl | omega))) (by omega) hP hD hS (lv_sub hl [1, 0] rfl)
          · have dc31 : (lg_cmp mtok_c28 (-3)).toInt = 0 := eqC rfl (show (0 : Int32).toInt = 0 from rfl) c31
            refine lv_aload_n hx hb dX10_isRead_56 rfl (lv_at hl 0 rfl) ?_
            refine va_get (D := (dC, dI)) (ci := 10) (v := .int x21) (C := RX10) (T := TX10) (N := 39) hx hb hts inX10 hown hK hP 0 rfl rfl 27 (by decide) lf201 (fun _ h9 => h9) rfl dX10_isRead_57 ?_
            refine lv_bipush (v := 10) hx hb dX10_isRead_60 (by decide) ?_
            refine lv_icmp_ge (tgt := 69) hx hb dX10_isRead_62 (by decide) (fun c33 => ?_) (fun c33 => ?_)
            · have dc33 : 10 ≤ x21.toInt := leC (show (10 : Int32).toInt = 10 from rfl) rfl c33
              refine lv_iconst (v := 0) hx hb dX10_isRead_69 (by decide) ?_
              refine lv_istore_n (lv' := [(1, .int 0), (0, .ref (b 39))]) hx hb dX10_isRead_70 rfl hl (by decide) rfl (fun ls hl => ?_)
              refine lv_goto (tgt := 12) hx hb dX10_isRead_71 (by decide) ?_
              have kc34 : (0 : Int32).toInt = 0 := rfl
              exact ih12 0 mpos_c26 mtka_c27 mtok_c28 mdig_c29 mnum_c30 mfau_c18 mrea_c19 x21 _ _ _ h24_7 g22 (by omega) (by omega) (by (first | exact ii_more (ii_rd i12_2 (by assumption)) (by omega) (by assumption) (by assumption) (by omega) (by assumption) (by assumption) (by assumption) (by assumption) (by omega) | exact ii_stop (ii_rd i12_2 (by assumption)) (by omega) (by omega) (by assumption) (by assumption) (by omega) (by assumption) (by assumption) (by assumption) (by first | exact Or.inl (by assumption) | exact Or.inr (by omega)) (by omega) | exact ii_init (by first | rfl | omega) (by first | rfl | omega))) (by omega) hP hD hS (lv_sub hl [1, 0] rfl)
            · have dc33 : x21.toInt < 10 := nleC (show (10 : Int32).toInt = 10 from rfl) rfl c33
              refine lv_iconst (v := 1) hx hb dX10_isRead_65 (by decide) ?_
              refine lv_goto (tgt := 70) hx hb dX10_isRead_66 (by decide) ?_
              refine lv_istore_n (lv' := [(1, .int 1), (0, .ref (b 39))]) hx hb dX10_isRead_70 rfl hl (by decide) rfl (fun ls hl => ?_)
              refine lv_goto (tgt := 12) hx hb dX10_isRead_71 (by decide) ?_
              have kc35 : (1 : Int32).toInt = 1 := rfl
              exact ih12 1 mpos_c26 mtka_c27 mtok_c28 mdig_c29 mnum_c30 mfau_c18 mrea_c19 x21 _ _ _ h24_7 g22 (by omega) (by omega) (by (first | exact ii_more (ii_rd i12_2 (by assumption)) (by omega) (by assumption) (by assumption) (by omega) (by assumption) (by assumption) (by assumption) (by assumption) (by omega) | exact ii_stop (ii_rd i12_2 (by assumption)) (by omega) (by omega) (by assumption) (by assumption) (by omega) (by assumption) (by assumption) (by assumption) (by first | exact Or.inl (by assumption) | exact Or.inr (by omega)) (by omega) | exact ii_init (by first | rfl | omega) (by first | rfl | omega))) (by omega) hP hD hS (lv_sub hl [1, 0] rfl)
        · refine lv_if_ne (tgt := 31) hx hb dX10_isRead_26 (by decide) (fun c9 => absurd (by decide) c9) (fun _ => ?_)
          refine lv_iconst (v := 0) hx hb dX10_isRead_29 (by decide) ?_
          exact W.zret (v := 0) hx hb hr (by decide) (fun tq ht hW => ⟨⟨0, (uS [(fun _ => mpos_c13), (fun _ => mtka_c14), (fun _ => 0), (fun _ => mdig_c16), (fun _ => mnum_c17), (fun _ => mfau_c18), mrea_c19, (fun _ => mrdm_12)] mtok_c15 (fun _ => 0)), rfl, ⟨(Or.inr (⟨rfl, (show roM mtxt mbyt.toInt 0 mfau_c18 mrea_c19 mrdm_12 from by (try rw [show (0 : Int32).toInt = 0 from (show (0 : Int32).toInt = 0 from rfl)]); (first | exact io_ok i12_2 (by assumption) (by assumption) | exact io_f i12_2 (by assumption) (by assumption) (by assumption) | exact io_fail (ii_rd i12_2 (by assumption)) (by omega) (by omega) (by assumption) (by assumption)))⟩)), h11_1, r_mrdm_12⟩, by rw [ht]; exact hP, hD⟩, hS.F ht⟩) hS.2.2 dX10_isRead_30
  have kc36 : (1 : Int32).toInt = 1 := rfl
  have kc37 : (0 : Int32).toInt = 0 := rfl
  exact L12 _ 1 0 mtka mtok mdig mnum mfau mrea 0 _ _ _ g1 g2 (by omega) (by omega) (by (first | exact ii_more (ii_rd i12_2 (by assumption)) (by omega) (by assumption) (by assumption) (by omega) (by assumption) (by assumption) (by assumption) (by assumption) (by omega) | exact ii_stop (ii_rd i12_2 (by assumption)) (by omega) (by omega) (by assumption) (by assumption) (by omega) (by assumption) (by assumption) (by assumption) (by first | exact Or.inl (by assumption) | exact Or.inr (by omega)) (by omega) | exact ii_init (by first | rfl | omega) (by first | rfl | omega))) (Nat.lt_succ_self _) hP hD hS (lv_sub hl [1, 0] rfl)
set_option maxHeartbeats 4000000 in
set_option maxRecDepth 100000 in
theorem k_X10_fault2 (l : Launch) (dC : Nat → ClassId) (dI : Nat → Nat → Nat) (cI cZ cQ : ClassId) (b : Nat → Nat) (mday : Int32) (mdoo : Int32) (mtel : Int32) (mgai : Int32) (mbyt : Int32) (mtxt : Nat → Int32) (mpos : Int32) (mtka : Int32) (mtok : Int64) (mdig : Int32) (mnum : Int32) (mfau : Int32) (mrdm : Int32) (mrea : Nat → Int32) (mlin : Int32) (mbsm : Int32) (sz : Nat) (r_mday : 0 ≤ mday.toInt ∧ mday.toInt ≤ 400) (r_mdoo : 0 ≤ mdoo.toInt ∧ mdoo.toInt ≤ 14) (r_mgai : 0 ≤ mgai.toInt ∧ mgai.toInt ≤ 100) (r_mbyt : 0 ≤ mbyt.toInt ∧ mbyt.toInt ≤ 160) (r_mpos : 0 ≤ mpos.toInt ∧ mpos.toInt ≤ 160) (r_mrdm : 0 ≤ mrdm.toInt ∧ mrdm.toInt ≤ 10) (r_mlin : 0 ≤ mlin.toInt ∧ mlin.toInt ≤ 10) : KW l yX10_fault wsX10_fault { frames := 5, cells := 0, slots := 0, locals := 107 } (dC, dI) (TY cI cZ cQ) (wMdR cI cZ cQ b mday mdoo mtel mgai mbyt mtxt mpos mtka mtok mdig mnum mfau mrdm mrea mlin mbsm) [.ref (b 39)] sz 0 0 (fun (r : Int32) (u : US) => (spFltM mtxt mbyt r) ∧ (0 ≤ (u.1 0 0).toInt ∧ (u.1 0 0).toInt ≤ 160) ∧ (0 ≤ (u.1 7 0).toInt ∧ (u.1 7 0).toInt ≤ 10)) (fun u : US => (wMdR cI cZ cQ b mday mdoo mtel mgai mbyt mtxt (u.1 0 0) (u.1 1 0) u.2.1 (u.1 3 0) (u.1 4 0) (u.1 5 0) (u.1 7 0) (u.1 6) mlin mbsm)) := by
  refine Met.ofW (cc := cX10_fault) (maxL := 1) (ret := (some .int)) (by decide) rfl ?_
  intro p e s m args below meth c s₁ B hml hv
  obtain ⟨rfl, hsz, hP, hK, hD0, hN⟩ := hv
  have hx := B.exec
  have hb := B.bytes
  have hr := B.returns
  have hts := atoms_spec (ws := wsX10_fault) B.pre
  have hown : s.vm.findClass RX10 = some m.cls := findClass_of_methodNamed B.named
  have hlocks := B.notSynchronized
  have lf174 := hts (.fieldLink RX10 174 "PalaceOfRoomsModel" "faultAt" "I") (List.mem_cons_of_mem _ (List.mem_append_left _ (List.mem_append_left _ (List.mem_of_getElem? (i := 0) rfl))))
  have inX10 : ∀ w ∈ wsX100, w ∈ wsX10_fault := fun w h => List.mem_cons_of_mem _ (List.mem_append_right _ h)
  subst hsz
  have hD := hD0.self (sz := s.heap.size)
  generalize hAe : va_A (wMdR cI cZ cQ b mday mdoo mtel mgai mbyt mtxt mpos mtka mtok mdig mnum mfau mrdm mrea mlin mbsm) s.heap.size = A at hD ⊢
  have hA : ∀ q : Nat, s.heap.size ≤ q → A q := fun q h => by rw [← hAe]; exact Or.inr h
  have hS : va_S A s.heap s.heap [] := va_S.rf
  have hl := lv_entry ([.ref (b 39)]) (n := 1) (Nat.le_of_ble_eq_true rfl)
  rw [lg_entry_eq]
  generalize (lg_sl ([.ref (b 39)]) ++ List.replicate (1 - (lg_sl ([.ref (b 39)])).length) Slot.unset).toArray = ls at hl ⊢
  have hl : lv_has ls 1 [(0, .ref (b 39))] := hl
  refine lv_aload_n hx hb dX10_fault_0 rfl (lv_at hl 0 rfl) ?_
  refine wrV (As := []) (rest := []) (wr := []) (w2 := (fun u : US => (wMdR cI cZ cQ b mday mdoo mtel mgai mbyt mtxt (u.1 0 0) (u.1 1 0) u.2.1 (u.1 3 0) (u.1 4 0) (u.1 5 0) (u.1 7 0) (u.1 6) mlin mbsm))) ⟨hx, hb, hml, hown, hts⟩ (k_X10_isRead2 l dC dI cI cZ cQ b mday mdoo mtel mgai mbyt mtxt mpos mtka mtok mdig mnum mfau mrdm mrea mlin mbsm _ r_mday r_mdoo r_mgai r_mbyt r_mpos r_mrdm r_mlin) (cwV 0 hts gX10_fault_X10_isRead rfl rfl rfl (by decide +kernel) ⟨Nat.le_of_ble_eq_true rfl, Nat.le_of_ble_eq_true rfl⟩) hP hD hS hA hK hN [0, 1, 2] [] [0, 1, 2] rfl rfl (by decide) (by decide) (by decide) (fun _ => rfl) (by decide) 0 10 rfl rfl rfl hl.1 rfl (Nat.le_of_ble_eq_true rfl) dX10_fault_1 ⟨Nat.le_of_ble_eq_true rfl, Nat.le_of_ble_eq_true rfl⟩ (fun r1 u3 H locs h2 hP hD hS => ?_)
  obtain ⟨mpos_c4, empos_c4⟩ : ∃ f : Int32, f = (u3.1 0 0) := ⟨_, rfl⟩
  obtain ⟨mtka_c5, emtka_c5⟩ : ∃ f : Int32, f = (u3.1 1 0) := ⟨_, rfl⟩
  obtain ⟨mtok_c6, emtok_c6⟩ : ∃ f : Int64, f = u3.2.1 := ⟨_, rfl⟩
  obtain ⟨mdig_c7, emdig_c7⟩ : ∃ f : Int32, f = (u3.1 3 0) := ⟨_, rfl⟩
  obtain ⟨mnum_c8, emnum_c8⟩ : ∃ f : Int32, f = (u3.1 4 0) := ⟨_, rfl⟩
  obtain ⟨mfau_c9, emfau_c9⟩ : ∃ f : Int32, f = (u3.1 5 0) := ⟨_, rfl⟩
  obtain ⟨mrea_c10, emrea_c10⟩ : ∃ f : Nat → Int32, f = (u3.1 6) := ⟨_, rfl⟩
  obtain ⟨mrdm_c11, emrdm_c11⟩ : ∃ f : Int32, f = (u3.1 7 0) := ⟨_, rfl⟩
  have hP : va_P (dC, dI) vwCl (wMdR cI cZ cQ b mday mdoo mtel mgai mbyt mtxt mpos_c4 mtka_c5 mtok_c6 mdig_c7 mnum_c8 mfau_c9 mrdm_c11 mrea_c10 mlin mbsm) H := by rw [empos_c4, emtka_c5, emtok_c6, emdig_c7, emnum_c8, emfau_c9, emrea_c10, emrdm_c11]; exact hP
  have hD : va_D A (wMdR cI cZ cQ b mday mdoo mtel mgai mbyt mtxt mpos_c4 mtka_c5 mtok_c6 mdig_c7 mnum_c8 mfau_c9 mrdm_c11 mrea_c10 mlin mbsm) := by rw [empos_c4, emtka_c5, emtok_c6, emdig_c7, emnum_c8, emfau_c9, emrea_c10, emrdm_c11]; exact hD
  have h2 : ((((r1 = 1) ∧ (roM mtxt mbyt.toInt 1 mfau_c9 mrea_c10 mrdm_c11)) ∨ ((r1 = 0) ∧ (roM mtxt mbyt.toInt 0 mfau_c9 mrea_c10 mrdm_c11)))) ∧ (0 ≤ mpos_c4.toInt ∧ mpos_c4.toInt ≤ 160) ∧ (0 ≤ mrdm_c11.toInt ∧ mrdm_c11.toInt ≤ 10) := by (try rw [empos_c4]); (try rw [emtka_c5]); (try rw [emtok_c6]); (try rw [emdig_c7]); (try rw [emnum_c8]); (try rw [emfau_c9]); (try rw [emrea_c10]); (try rw [emrdm_c11]); exact h2
  rcases h2 with ⟨(⟨rfl, h2_a0⟩ | ⟨rfl, h2_a0⟩), h2_0, h2_1⟩
  · refine lv_if_eq (tgt := 11) hx hb dX10_fault_4 (by decide) (fun c9 => absurd c9 (by decide)) (fun _ => ?_)
    refine lv_iconst (v := (-1)) hx hb dX10_fault_7 (by decide) ?_
    refine lv_goto (tgt := 15) hx hb dX10_fault_8 (by decide) ?_
    exact W.iret (v := (-1)) hx hb hr (fun tq ht hW => ⟨⟨(-1), (uS [(fun _ => mpos_c4), (fun _ => mtka_c5), (fun _ => 0), (fun _ => mdig_c7), (fun _ => mnum_c8), (fun _ => mfau_c9), mrea_c10, (fun _ => mrdm_c11)] mtok_c6 (fun _ => 0)), rfl, ⟨(show spFltM mtxt mbyt ((-1) : Int32) from by (try rw [show ((-1) : Int32).toInt = (-1) from (show ((-1) : Int32).toInt = (-1) from rfl)]); (first | exact ⟨1, _, _, _, by assumption, Or.inl ⟨rfl, rfl⟩⟩ | exact ⟨0, _, _, _, by assumption, Or.inr ⟨rfl, rfl⟩⟩)), h2_0, h2_1⟩, by rw [ht]; exact hP, hD⟩, hS.F ht⟩) hS.2.2 dX10_fault_15
  · refine lv_if_eq (tgt := 11) hx hb dX10_fault_4 (by decide) (fun _ => ?_) (fun c9 => absurd (by decide) c9)
    refine lv_aload_n hx hb dX10_fault_11 rfl (lv_at hl 0 rfl) ?_
    refine va_get (D := (dC, dI)) (ci := 10) (v := .int mfau_c9) (C := RX10) (T := TX10) (N := 39) hx hb hts inX10 hown hK hP 0 rfl rfl 26 (by decide) lf174 (fun _ h9 => h9) rfl dX10_fault_12 ?_
    exact W.iret (v := mfau_c9) hx hb hr (fun tq ht hW => ⟨⟨mfau_c9, (uS [(fun _ => mpos_c4), (fun _ => mtka_c5), (fun _ => 0), (fun _ => mdig_c7), (fun _ => mnum_c8), (fun _ => mfau_c9), mrea_c10, (fun _ => mrdm_c11)] mtok_c6 (fun _ => 0)), rfl, ⟨(show spFltM mtxt mbyt mfau_c9 from by (first | exact ⟨1, _, _, _, by assumption, Or.inl ⟨rfl, rfl⟩⟩ | exact ⟨0, _, _, _, by assumption, Or.inr ⟨rfl, rfl⟩⟩)), h2_0, h2_1⟩, by rw [ht]; exact hP, hD⟩, hS.F ht⟩) hS.2.2 dX10_fault_15
set_option maxHeartbeats 4000000 in
set_option maxRecDepth 100000 in
theorem k_X10_rules2 (l : Launch) (dC : Nat → ClassId) (dI : Nat → Nat → Nat) (cI cZ cQ : ClassId) (b : Nat → Nat) (mday : Int32) (mdoo : Int32) (mtel : Int32) (mgai : Int32) (mbyt : Int32) (mtxt : Nat → Int32) (mpos : Int32) (mtka : Int32) (mtok : Int64) (mdig : Int32) (mnum : Int32) (mfau : Int32) (mrdm : Int32) (mrea : Nat → Int32) (mlin : Int32) (mlne : Nat → Int32) (mbsm : Int32) (sz : Nat) (r_mday : 0 ≤ mday.toInt ∧ mday.toInt ≤ 400) (r_mdoo : 0 ≤ mdoo.toInt ∧ mdoo.toInt ≤ 14) (r_mgai : 0 ≤ mgai.toInt ∧ mgai.toInt ≤ 100) (r_mbyt : 0 ≤ mbyt.toInt ∧ mbyt.toInt ≤ 160) (r_mpos : 0 ≤ mpos.toInt ∧ mpos.toInt ≤ 160) (r_mrdm : 0 ≤ mrdm.toInt ∧ mrdm.toInt ≤ 10) (r_mlin : 0 ≤ mlin.toInt ∧ mlin.toInt ≤ 10) : KW l yX10_rules wsX10_rules { frames := 5, cells := 0, slots := 0, locals := 107 } (dC, dI) (TY cI cZ cQ) (wMdL cI cZ cQ b mday mdoo mtel mgai mbyt mtxt mpos mtka mtok mdig mnum mfau mrdm mrea mlin mlne mbsm) [.ref (b 39)] sz 0 0 (fun (r : Int32) (u : US) => (spRulM mtxt mbyt mlne mlin r (u.1 10 0) (u.1 8) (u.1 9 0)) ∧ (0 ≤ (u.1 0 0).toInt ∧ (u.1 0 0).toInt ≤ 160) ∧ (0 ≤ (u.1 7 0).toInt ∧ (u.1 7 0).toInt ≤ 10) ∧ (0 ≤ (u.1 9 0).toInt ∧ (u.1 9 0).toInt ≤ 10) ∧ (0 ≤ (u.1 10 0).toInt ∧ (u.1 10 0).toInt ≤ 160)) (fun u : US => (wMdL cI cZ cQ b mday mdoo mtel mgai (u.1 10 0) mtxt (u.1 0 0) (u.1 1 0) u.2.1 (u.1 3 0) (u.1 4 0) (u.1 5 0) (u.1 7 0) (u.1 6) (u.1 9 0) (u.1 8) mbsm)) := by
  refine Met.ofW (cc := cX10_rules) (maxL := 2) (ret := (some .int)) (by decide) rfl ?_
  intro p e s m args below meth c s₁ B hml hv
  obtain ⟨rfl, hsz, hP, hK, hD0, hN⟩ := hv
  have hx := B.exec
  have hb := B.bytes
  have hr := B.returns
  have hts := atoms_spec (ws := wsX10_rules) B.pre
  have hown : s.vm.findClass RX10 = some m.cls := findClass_of_methodNamed B.named
  have hlocks := B.notSynchronized
  have lf201 := hts (.fieldLink RX10 201 "PalaceOfRoomsModel" "readMany" "I") (List.mem_cons_of_mem _ (List.mem_append_left _ (List.mem_append_left _ (List.mem_of_getElem? (i := 2) rfl))))
  have inX10 : ∀ w ∈ wsX100, w ∈ wsX10_rules := fun w h => List.mem_cons_of_mem _ (List.mem_append_right _ h)
  have lf210 := hts (.fieldLink RX10 210 "PalaceOfRoomsModel" "lines" "I") (List.mem_cons_of_mem _ (List.mem_append_left _ (List.mem_append_left _ (List.mem_of_getElem? (i := 3) rfl))))
  have lf141 := hts (.fieldLink RX10 141 "PalaceOfRoomsModel" "bytes" "I") (List.mem_cons_of_mem _ (List.mem_append_left _ (List.mem_append_left _ (List.mem_of_getElem? (i := 4) rfl))))
  have lf68 := hts (.fieldLink RX10 68 "PalaceOfRoomsModel" "line" "[I") (List.mem_cons_of_mem _ (List.mem_append_left _ (List.mem_append_left _ (List.mem_of_getElem? (i := 0) rfl))))
  have lf65 := hts (.fieldLink RX10 65 "PalaceOfRoomsModel" "read" "[I") (List.mem_cons_of_mem _ (List.mem_append_left _ (List.mem_append_left _ (List.mem_of_getElem? (i := 1) rfl))))
  subst hsz
  have hD := hD0.self (sz := s.heap.size)
  generalize hAe : va_A (wMdL cI cZ cQ b mday mdoo mtel mgai mbyt mtxt mpos mtka mtok mdig mnum mfau mrdm mrea mlin mlne mbsm) s.heap.size = A at hD ⊢
  have hA : ∀ q : Nat, s.heap.size ≤ q → A q := fun q h => by rw [← hAe]; exact Or.inr h
  have hS : va_S A s.heap s.heap [] := va_S.rf
  have hl := lv_entry ([.ref (b 39)]) (n := 2) (Nat.le_of_ble_eq_true rfl)
  rw [lg_entry_eq]
  generalize (lg_sl ([.ref (b 39)]) ++ List.replicate (2 - (lg_sl ([.ref (b 39)])).length) Slot.unset).toArray = ls at hl ⊢
  have hl : lv_has ls 2 [(0, .ref (b 39))] := hl
  refine lv_aload_n hx hb dX10_rules_0 rfl (lv_at hl 0 rfl) ?_
  refine wrV (As := []) (rest := []) (wr := [((b 30), .inl (cI, 30, .inl mlne))]) (w2 := (fun u : US => (wMdL cI cZ cQ b mday mdoo mtel mgai mbyt mtxt (u.1 0 0) (u.1 1 0) u.2.1 (u.1 3 0) (u.1 4 0) (u.1 5 0) (u.1 7 0) (u.1 6) mlin mlne mbsm))) ⟨hx, hb, hml, hown, hts⟩ (k_X10_isRead2 l dC dI cI cZ cQ b mday mdoo mtel mgai mbyt mtxt mpos mtka mtok mdig mnum mfau mrdm mrea mlin mbsm _ r_mday r_mdoo r_mgai r_mbyt r_mpos r_mrdm r_mlin) (cwV 0 hts gX10_rules_X10_isRead rfl rfl rfl (by decide +kernel) ⟨Nat.le_of_ble_eq_true rfl, Nat.le_of_ble_eq_true rfl⟩) hP hD hS hA hK hN [0, 1, 2] [3] [1, 2, 3, 0] rfl rfl (by decide) (by decide) (by decide) (fun _ => rfl) (by decide) 0 10 rfl rfl rfl hl.1 rfl (Nat.le_of_ble_eq_true rfl) dX10_rules_1 ⟨Nat.le_of_ble_eq_true rfl, Nat.le_of_ble_eq_true rfl⟩ (fun r1 u3 H locs h2 hP hD hS => ?_)
  obtain ⟨mpos_c4, empos_c4⟩ : ∃ f : Int32, f = (u3.1 0 0) := ⟨_, rfl⟩
  obtain ⟨mtka_c5, emtka_c5⟩ : ∃ f : Int32, f = (u3.1 1 0) := ⟨_, rfl⟩
  obtain ⟨mtok_c6, emtok_c6⟩ : ∃ f : Int64, f = u3.2.1 := ⟨_, rfl⟩
  obtain ⟨mdig_c7, emdig_c7⟩ : ∃ f : Int32, f = (u3.1 3 0) := ⟨_, rfl⟩
  obtain ⟨mnum_c8, emnum_c8⟩ : ∃ f : Int32, f = (u3.1 4 0) := ⟨_, rfl⟩
  obtain ⟨mfau_c9, emfau_c9⟩ : ∃ f : Int32, f = (u3.1 5 0) := ⟨_, rfl⟩
  obtain ⟨mrea_c10, emrea_c10⟩ : ∃ f : Nat → Int32, f = (u3.1 6) := ⟨_, rfl⟩
  obtain ⟨mrdm_c11, emrdm_c11⟩ : ∃ f : Int32, f = (u3.1 7 0) := ⟨_, rfl⟩
  have hP : va_P (dC, dI) vwCl (wMdL cI cZ cQ b mday mdoo mtel mgai mbyt mtxt mpos_c4 mtka_c5 mtok_c6 mdig_c7 mnum_c8 mfau_c9 mrdm_c11 mrea_c10 mlin mlne mbsm) H := by rw [empos_c4, emtka_c5, emtok_c6, emdig_c7, emnum_c8, emfau_c9, emrea_c10, emrdm_c11]; exact hP
  have hD : va_D A (wMdL cI cZ cQ b mday mdoo mtel mgai mbyt mtxt mpos_c4 mtka_c5 mtok_c6 mdig_c7 mnum_c8 mfau_c9 mrdm_c11 mrea_c10 mlin mlne mbsm) := by rw [empos_c4, emtka_c5, emtok_c6, emdig_c7, emnum_c8, emfau_c9, emrea_c10, emrdm_c11]; exact hD
  have h2 : ((((r1 = 1) ∧ (roM mtxt mbyt.toInt 1 mfau_c9 mrea_c10 mrdm_c11)) ∨ ((r1 = 0) ∧ (roM mtxt mbyt.toInt 0 mfau_c9 mrea_c10 mrdm_c11)))) ∧ (0 ≤ mpos_c4.toInt ∧ mpos_c4.toInt ≤ 160) ∧ (0 ≤ mrdm_c11.toInt ∧ mrdm_c11.toInt ≤ 10) := by (try rw [empos_c4]); (try rw [emtka_c5]); (try rw [emtok_c6]); (try rw [emdig_c7]); (try rw [emnum_c8]); (try rw [emfau_c9]); (try rw [emrea_c10]); (try rw [emrdm_c11]); exact h2
  rcases h2 with ⟨(⟨rfl, h2_a0⟩ | ⟨rfl, h2_a0⟩), h2_0, h2_1⟩
  · refine lv_if_ne (tgt := 10) hx hb dX10_rules_4 (by decide) (fun _ => ?_) (fun c9 => absurd c9 (by decide))
    refine lv_iconst (v := 0) hx hb dX10_rules_10 (by decide) ?_
    refine lv_istore_n (lv' := [(1, .int 0), (0, .ref (b 39))]) hx hb dX10_rules_11 rfl hl (by decide) rfl (fun ls hl => ?_)
    have L12 : ∀ (nn : Nat) (y12_1 : Int32) (mlne_12 : Nat → Int32) (H : Heap) (locs : List Loc) (ls : Array Slot), (0 ≤ (y12_1.toInt)) → ((y12_1.toInt) ≤ 30) → (∀ j : Nat, (j : Int) < (y12_1.toInt) → mlne_12 j = mrea_c10 j) → (30 - (y12_1.toInt)).toNat < nn → va_P (dC, dI) vwCl (wMdL cI cZ cQ b mday mdoo mtel mgai mbyt mtxt mpos_c4 mtka_c5 mtok_c6 mdig_c7 mnum_c8 mfau_c9 mrdm_c11 mrea_c10 mlin mlne_12 mbsm) H → va_D A (wMdL cI cZ cQ b mday mdoo mtel mgai mbyt mtxt mpos_c4 mtka_c5 mtok_c6 mdig_c7 mnum_c8 mfau_c9 mrdm_c11 mrea_c10 mlin mlne_12 mbsm) → va_S A s.heap H locs → lv_has ls 2 [(0, .ref (b 39)), (1, .int y12_1)] → W p l e (headSpec wsX10_rules { frames := 5, cells := 0, slots := 0, locals := 107 }).room s m ([.ref (b 39)] : List Value).toArray below meth c H locs 0 0 (MQ below (va_Qi (fun (r : Int32) (u : US) => (spRulM mtxt mbyt mlne mlin r (u.1 10 0) (u.1 8) (u.1 9 0)) ∧ (0 ≤ (u.1 0 0).toInt ∧ (u.1 0 0).toInt ≤ 160) ∧ (0 ≤ (u.1 7 0).toInt ∧ (u.1 7 0).toInt ≤ 10) ∧ (0 ≤ (u.1 9 0).toInt ∧ (u.1 9 0).toInt ≤ 10) ∧ (0 ≤ (u.1 10 0).toInt ∧ (u.1 10 0).toInt ≤ 160)) (Bw (dC, dI) A (fun u : US => (wMdL cI cZ cQ b mday mdoo mtel mgai (u.1 10 0) mtxt (u.1 0 0) (u.1 1 0) u.2.1 (u.1 3 0) (u.1 4 0) (u.1 5 0) (u.1 7 0) (u.1 6) (u.1 9 0) (u.1 8) mbsm))) A) ([.ref (b 39)] : List Value).toArray s 0 0 A) (F0 m 12 ls []) := by
      intro nn
      induction nn with
      | zero =>
        intro y12_1 mlne_12 H locs ls i12_0 i12_1 i12_2 hm12
        exact absurd hm12 (Nat.not_lt_zero _)
      | succ nn ih12 =>
        intro y12_1 mlne_12 H locs ls i12_0 i12_1 i12_2 hm12 hP hD hS hl
        refine lv_iload_n hx hb dX10_rules_12 rfl (lv_at hl 1 rfl) ?_
        refine lv_bipush (v := 30) hx hb dX10_rules_13 (by decide) ?_
        refine lv_icmp_ge (tgt := 36) hx hb dX10_rules_15 (by decide) (fun c12 => ?_) (fun c12 => ?_)
        · have dc12 : 30 ≤ y12_1.toInt := leC (show (30 : Int32).toInt = 30 from rfl) rfl c12
          refine lv_aload_n hx hb dX10_rules_36 rfl (lv_at hl 0 rfl) ?_
          refine lv_aload_n hx hb dX10_rules_37 rfl (lv_at hl 0 rfl) ?_
          refine va_get (D := (dC, dI)) (ci := 10) (v := .int mrdm_c11) (C := RX10) (T := TX10) (N := 39) hx hb hts inX10 hown hK hP 0 rfl rfl 27 (by decide) lf201 (fun _ h9 => h9) rfl dX10_rules_38 ?_
          refine va_put (D := (dC, dI)) (ci := 10) (v := .int mrdm_c11) (ty := .int) (C := RX10) (T := TX10) (N := 39) hx hb hts inX10 tyX10 tyX10_ok nmX10 hown hK hP hD hS 0 rfl rfl 29 (by decide) lf210 (fun _ h9 => h9) rfl (by decide +kernel) rfl rfl (Nat.le_of_ble_eq_true rfl) dX10_rules_41 (fun H locs hP hD hS => ?_)
          have g13 : 0 ≤ mrdm_c11.toInt ∧ mrdm_c11.toInt ≤ 10 := by rw [show mrdm_c11.toInt = mrdm_c11.toInt from rfl]; exact ⟨by omega, by omega⟩
          have hP : va_P (dC, dI) vwCl (wMdL cI cZ cQ b mday mdoo mtel mgai mbyt mtxt mpos_c4 mtka_c5 mtok_c6 mdig_c7 mnum_c8 mfau_c9 mrdm_c11 mrea_c10 mrdm_c11 mlne_12 mbsm) H := hP
          have hD : va_D A (wMdL cI cZ cQ b mday mdoo mtel mgai mbyt mtxt mpos_c4 mtka_c5 mtok_c6 mdig_c7 mnum_c8 mfau_c9 mrdm_c11 mrea_c10 mrdm_c11 mlne_12 mbsm) := hD
          refine lv_aload_n hx hb dX10_rules_44 rfl (lv_at hl 0 rfl) ?_
          refine lv_iconst (v := 0) hx hb dX10_rules_45 (by decide) ?_
          refine va_put (D := (dC, dI)) (ci := 10) (v := .int 0) (ty := .int) (C := RX10) (T := TX10) (N := 39) hx hb hts inX10 tyX10 tyX10_ok nmX10 hown hK hP hD hS 0 rfl rfl 19 (by decide) lf141 (fun _ h9 => h9) rfl (by decide +kernel) rfl rfl (Nat.le_of_ble_eq_true rfl) dX10_rules_46 (fun H locs hP hD hS => ?_)
          have g14 : 0 ≤ (0 : Int32).toInt ∧ (0 : Int32).toInt ≤ 160 := by rw [show (0 : Int32).toInt = 0 from (show (0 : Int32).toInt = 0 from rfl)]; exact ⟨by omega, by omega⟩
          have hP : va_P (dC, dI) vwCl (wMdL cI cZ cQ b mday mdoo mtel mgai 0 mtxt mpos_c4 mtka_c5 mtok_c6 mdig_c7 mnum_c8 mfau_c9 mrdm_c11 mrea_c10 mrdm_c11 mlne_12 mbsm) H := hP
          have hD : va_D A (wMdL cI cZ cQ b mday mdoo mtel mgai 0 mtxt mpos_c4 mtka_c5 mtok_c6 mdig_c7 mnum_c8 mfau_c9 mrdm_c11 mrea_c10 mrdm_c11 mlne_12 mbsm) := hD
          refine lv_aload_n hx hb dX10_rules_49 rfl (lv_at hl 0 rfl) ?_
          refine va_get (D := (dC, dI)) (ci := 10) (v := .int mrdm_c11) (C := RX10) (T := TX10) (N := 39) hx hb hts inX10 hown hK hP 0 rfl rfl 29 (by decide) lf210 (fun _ h9 => h9) rfl dX10_rules_50 ?_
          exact W.iret (v := mrdm_c11) hx hb hr (fun tq ht hW => ⟨⟨mrdm_c11, (uS [(fun _ => mpos_c4), (fun _ => mtka_c5), (fun _ => 0), (fun _ => mdig_c7), (fun _ => mnum_c8), (fun _ => mfau_c9), mrea_c10, (fun _ => mrdm_c11), mlne_12, (fun _ => mrdm_c11), (fun _ => 0)] mtok_c6 (fun _ => 0)), rfl, ⟨(show spRulM mtxt mbyt mlne mlin mrdm_c11 0 mlne_12 mrdm_c11 from by (first | exact Or.inl ⟨⟨_, _, _, by assumption⟩, rfl, rfl, rfl, rfl⟩ | exact Or.inr ⟨_, _, by assumption, rfl, rfl, fun j hj => i12_2 j (by omega)⟩)), h2_0, h2_1, g13, g14⟩, by rw [ht]; exact hP, hD⟩, hS.F ht⟩) hS.2.2 dX10_rules_53
        · have dc12 : y12_1.toInt < 30 := nleC (show (30 : Int32).toInt = 30 from rfl) rfl c12
          refine lv_aload_n hx hb dX10_rules_18 rfl (lv_at hl 0 rfl) ?_
          refine va_get (D := (dC, dI)) (ci := 10) (v := .ref (b 30)) (C := RX10) (T := TX10) (N := 39) hx hb hts inX10 hown hK hP 0 rfl rfl 30 (by decide) lf68 (fun _ h9 => h9) rfl dX10_rules_19 ?_
          refine lv_iload_n hx hb dX10_rules_22 rfl (lv_at hl 1 rfl) ?_
          refine lv_aload_n hx hb dX10_rules_23 rfl (lv_at hl 0 rfl) ?_
          refine va_get (D := (dC, dI)) (ci := 10) (v := .ref (b 28)) (C := RX10) (T := TX10) (N := 39) hx hb hts inX10 hown hK hP 0 rfl rfl 28 (by decide) lf65 (fun _ h9 => h9) rfl dX10_rules_24 ?_
          refine lv_iload_n hx hb dX10_rules_27 rfl (lv_at hl 1 rfl) ?_
          have b15 : vp_in y12_1 30 := inC rfl (by omega) (by omega)
          refine va_iald hx hb hK hP 2 0 rfl rfl b15 dX10_rules_28 ?_
          refine lv_topi (fun x16 ex16 => ?_)
          have ix16 : x16.toInt = (mrea_c10 y12_1.toNatClampNeg).toInt := by rw [ex16]
          have b17 : vp_in y12_1 30 := inC rfl (by omega) (by omega)
          refine va_iast hx hb hK hP hD hS 3 0 rfl rfl b17 dX10_rules_29 (fun H locs hP hD hS => ?_)
          obtain ⟨mlne_u18, emlne_u18⟩ : ∃ f : Nat → Int32, f = upd mlne_12 y12_1.toNatClampNeg x16 := ⟨_, rfl⟩
          have hP : va_P (dC, dI) vwCl (wMdL cI cZ cQ b mday mdoo mtel mgai mbyt mtxt mpos_c4 mtka_c5 mtok_c6 mdig_c7 mnum_c8 mfau_c9 mrdm_c11 mrea_c10 mlin mlne_u18 mbsm) H := by rw [emlne_u18]; exact hP
          have hD : va_D A (wMdL cI cZ cQ b mday mdoo mtel mgai mbyt mtxt mpos_c4 mtka_c5 mtok_c6 mdig_c7 mnum_c8 mfau_c9 mrdm_c11 mrea_c10 mlin mlne_u18 mbsm) := by rw [emlne_u18]; exact hD
          obtain ⟨z19, ez19⟩ : ∃ y : Int32, y = y12_1 + 1 := ⟨_, rfl⟩
          have iz19 : z19.toInt = y12_1.toInt + 1 := by rw [ez19]; exact addC rfl rfl (by omega) (by omega)
          refine lv_iinc (v := z19) (lv' := [(1, .int z19), (0, .ref (b 39))]) hx hb dX10_rules_30 hl (k := 1) rfl (by rw [ez19]; rfl) (by decide) rfl (fun ls hl => ?_)
          refine lv_goto (tgt := 12) hx hb dX10_rules_33 (by decide) ?_
          exact ih12 z19 mlne_u18 _ _ _ (by omega) (by omega) (by (first | exact cp_step i12_2 (by assumption) (by assumption) (by omega) (by omega) | (intro j hj; omega))) (by omega) hP hD hS (lv_sub hl [1, 0] rfl)
    have kc20 : (0 : Int32).toInt = 0 := rfl
    exact L12 _ 0 mlne _ _ _ (by omega) (by omega) (by (first | (intro j hj; omega) | exact cp_step i12_2 (by assumption) (by assumption) (by omega) (by omega))) (Nat.lt_succ_self _) hP hD hS (lv_sub hl [1, 0] rfl)
  · refine lv_if_ne (tgt := 10) hx hb dX10_rules_4 (by decide) (fun c9 => absurd (by decide) c9) (fun _ => ?_)
    refine lv_bipush (v := (-4)) hx hb dX10_rules_7 (by decide) ?_
    exact W.iret (v := (-4)) hx hb hr (fun tq ht hW => ⟨⟨(-4), (uS [(fun _ => mpos_c4), (fun _ => mtka_c5), (fun _ => 0), (fun _ => mdig_c7), (fun _ => mnum_c8), (fun _ => mfau_c9), mrea_c10, (fun _ => mrdm_c11), mlne, (fun _ => mlin), (fun _ => mbyt)] mtok_c6 (fun _ => 0)), rfl, ⟨(show spRulM mtxt mbyt mlne mlin ((-4) : Int32) mbyt mlne mlin from by (try rw [show ((-4) : Int32).toInt = (-4) from (show ((-4) : Int32).toInt = (-4) from rfl)]); (first | exact Or.inl ⟨⟨_, _, _, by assumption⟩, rfl, rfl, rfl, rfl⟩ | exact Or.inr ⟨_, _, by assumption, rfl, rfl, fun j hj => i12_2 j (by omega)⟩)), h2_0, h2_1, r_mlin, r_mbyt⟩, by rw [ht]; exact hP, hD⟩, hS.F ht⟩) hS.2.2 dX10_rules_9
end
