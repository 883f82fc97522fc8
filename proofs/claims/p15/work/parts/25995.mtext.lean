-- ===== the model's TEXT =====
theorem knd_n1 {c : Int32} (h : c.toInt < 97 ∨ 122 < c.toInt) : ¬ knd c = 1 := fun q => by have := knd_of1 q; omega
theorem knd_n2 {c : Int32} (h : c.toInt < 48 ∨ 57 < c.toInt) : ¬ knd c = 2 := fun q => by have := knd_of2 q; omega
theorem tE_runA {f : Nat → Int32} {n K : Int} {a y : Int32} (h : a.toInt < n) (hk : knd (f a.toNatClampNeg) = K) (h3 : K ≠ 3) (q : tR f K n y.toInt = tR f K n a.toInt) (st : n ≤ y.toInt ∨ ¬ knd (f y.toNatClampNeg) = K) : y.toInt = tE f n a.toInt :=
  tE_runC h hk.symm h3 (q.trans (rn_step h (by rw [← idx_eq]; exact hk) rfl).symm) st
theorem wv_0 {f : Nat → Int32} {a p : Int} (h : p = a) : 9 < p - a ∨ (0 : Int64) = wvF f a (p - a).toNat := by
  subst h; rw [show (p - p).toNat = 0 by omega]; exact .inr rfl
theorem wv_s {f : Nat → Int32} {a Z : Int} {t : Int64} {p : Int32} (h : 9 < p.toInt - a ∨ t = wvF f a (p.toInt - a).toNat) (hk : p.toInt - a < 9) (h0 : a ≤ p.toInt) (hz : Z = p.toInt + 1) : 9 < Z - a ∨ 27 * t + (f p.toNatClampNeg).toInt64 - 96 = wvF f a (Z - a).toNat := by
  rcases h with h | h
  · omega
  · subst hz
    rw [show (p.toInt + 1 - a).toNat = (p.toInt - a).toNat + 1 by omega]
    right
    show _ = 27 * wvF f a (p.toInt - a).toNat + (f (a + ((p.toInt - a).toNat : Nat)).toNat).toInt64 - 96
    rw [← h, show a + (((p.toInt - a).toNat : Nat) : Int) = p.toInt by omega, idx_eq]
theorem nv_0 {f : Nat → Int32} {a p : Int} {v : Int32} (h : p = a) (hv : v = 0) : 2 < p - a ∨ v = nvF f a (p - a).toNat := by
  subst h; rw [show (p - p).toNat = 0 by omega]; exact .inr hv
theorem nv_s {f : Nat → Int32} {a Z : Int} {v w p : Int32} (h : 2 < p.toInt - a ∨ v = nvF f a (p.toInt - a).toNat) (hk : p.toInt - a < 2) (h0 : a ≤ p.toInt) (hz : Z = p.toInt + 1) (hw : w = 10 * v + f p.toNatClampNeg - 48) : 2 < Z - a ∨ w = nvF f a (Z - a).toNat := by
  rcases h with h | h
  · omega
  · subst hz
    rw [show (p.toInt + 1 - a).toNat = (p.toInt - a).toNat + 1 by omega]
    right
    show _ = nvF f a (p.toInt - a).toNat * 10 + f (a + ((p.toInt - a).toNat : Nat)).toNat - 48
    rw [← h, show a + (((p.toInt - a).toNat : Nat) : Int) = p.toInt by omega, ← idx_eq, hw, Int32.mul_comm]
theorem tv_end {f : Nat → Int32} {n a e : Int} (h : n ≤ a) : (-2 : Int64) = tkV f n a e := by unfold tkV; rw [if_neg (by omega)]
theorem tv_let {f : Nat → Int32} {n e : Int} {a : Int32} {t : Int64} (h : a.toInt < n) (hk : knd (f a.toNatClampNeg) = 1) (q : 9 < e - a.toInt ∨ t = wvF f a.toInt (e - a.toInt).toNat) (h9 : e - a.toInt ≤ 9) : t = tkV f n a.toInt e := by
  rw [idx_eq] at hk
  unfold tkV; rw [if_pos h, if_pos hk, if_pos h9]
  rcases q with q | q
  · omega
  · exact q
theorem tv_let4 {f : Nat → Int32} {n e : Int} {a : Int32} (h : a.toInt < n) (hk : knd (f a.toNatClampNeg) = 1) (h9 : 9 < e - a.toInt) : (-4 : Int64) = tkV f n a.toInt e := by
  rw [idx_eq] at hk
  unfold tkV; rw [if_pos h, if_pos hk, if_neg (by omega)]
theorem tv_dig {f : Nat → Int32} {n e : Int} {a : Int32} (h : a.toInt < n) (hk : knd (f a.toNatClampNeg) = 2) (h9 : e - a.toInt ≤ 2) : (-1 : Int64) = tkV f n a.toInt e := by
  rw [idx_eq] at hk
  unfold tkV; rw [if_pos h, if_neg (by omega), if_pos hk, if_pos h9]
theorem tv_dig4 {f : Nat → Int32} {n e : Int} {a : Int32} (h : a.toInt < n) (hk : knd (f a.toNatClampNeg) = 2) (h9 : 2 < e - a.toInt) : (-4 : Int64) = tkV f n a.toInt e := by
  rw [idx_eq] at hk
  unfold tkV; rw [if_pos h, if_neg (by omega), if_pos hk, if_neg (by omega)]
theorem tv_semi {f : Nat → Int32} {n e : Int} {a : Int32} (h : a.toInt < n) (hk : (f a.toNatClampNeg).toInt = 59) : (-3 : Int64) = tkV f n a.toInt e := by
  have k3 : knd (f a.toNatClampNeg) = 3 := knd_3 (by omega) (by omega)
  rw [idx_eq] at hk k3
  unfold tkV; rw [if_pos h, if_neg (by omega), if_neg (by omega), if_pos (Int32.toInt_inj.mp hk)]
theorem tv_oth {f : Nat → Int32} {n e : Int} {a : Int32} (h : a.toInt < n) (k3 : knd (f a.toNatClampNeg) = 3) (hk : (f a.toNatClampNeg).toInt ≠ 59) : (-4 : Int64) = tkV f n a.toInt e := by
  rw [idx_eq] at hk k3
  unfold tkV; rw [if_pos h, if_neg (by omega), if_neg (by omega), if_neg (fun z => hk (by rw [z]; rfl))]
def nmP (f : Nat → Int32) (n a e : Int) (v : Int32) : Prop := a < n → knd (f a.toNat) = 2 → e - a ≤ 2 → v = nuV f a e
theorem nm_v {f : Nat → Int32} {n a e : Int} {v : Int32} (h : n ≤ a) : nmP f n a e v := fun q => by omega
theorem nm_k {f : Nat → Int32} {n e K : Int} {a v : Int32} (hk : knd (f a.toNatClampNeg) = K) (h : K ≠ 2) : nmP f n a.toInt e v := fun _ q => absurd (hk.symm.trans (by rw [idx_eq]; exact q)) h
theorem nm_d {f : Nat → Int32} {n a e : Int} {v : Int32} (q : 2 < e - a ∨ v = nvF f a (e - a).toNat) : nmP f n a e v := fun _ _ h => by
  rcases q with q | q
  · omega
  · exact q
-- its readers
theorem in_yes {f : Nat → Int32} {n p lo hi a e : Int} {tk : Int64} {v : Int32} (a1 : a = tS f n p) (a2 : e = tE f n a) (t : tk = tkV f n a e) (nm : nmP f n a e v) (han : a ≤ n) (h : lg_cmp tk (-1) = 0) (r : lo ≤ v.toInt ∧ v.toInt ≤ hi) : nuP f n p lo hi v := by
  have e2 := nx_of a1 a2
  have h' := (lg_cmp_eq _ _).mp h
  rw [t] at h'
  have n1 := (tk_m1 han a2).mp h'
  have er := tE_rg (f := f) han
  rw [← a2] at er
  have hv : v = nuV f a e := nm (by have := n1.1; omega) n1.2.2 n1.2.1
  refine .inl ?_
  rw [← a1, ← e2, ← hv]
  exact ⟨n1, r, rfl⟩
theorem in_n1 {f : Nat → Int32} {n p lo hi a e : Int} {tk : Int64} (a1 : a = tS f n p) (a2 : e = tE f n a) (t : tk = tkV f n a e) (han : a ≤ n) (h : ¬ lg_cmp tk (-1) = 0) : nuP f n p lo hi (-1) := by
  have e2 := nx_of a1 a2
  refine nu_no a1 e2 (fun q => h ((lg_cmp_eq _ _).mpr ?_)) rfl
  rw [t]; exact (tk_m1 han a2).mpr q.1
theorem in_n2 {f : Nat → Int32} {n p lo hi a e : Int} {tk : Int64} {v : Int32} (a1 : a = tS f n p) (a2 : e = tE f n a) (t : tk = tkV f n a e) (nm : nmP f n a e v) (han : a ≤ n) (h : lg_cmp tk (-1) = 0) (r : v.toInt < lo ∨ hi < v.toInt) : nuP f n p lo hi (-1) := by
  have e2 := nx_of a1 a2
  have h' := (lg_cmp_eq _ _).mp h
  rw [t] at h'
  have n1 := (tk_m1 han a2).mp h'
  have er := tE_rg (f := f) han
  rw [← a2] at er
  have hv : v = nuV f a e := nm (by have := n1.1; omega) n1.2.2 n1.2.1
  refine nu_no a1 e2 (fun q => ?_) rfl
  have := q.2; rw [← hv] at this; omega
def imT (f : Nat → Int32) (n p lo hi : Int) (at_ : Nat) (re re' : Nat → Int32) (en : Int) : Prop := ∃ v : Int32, nuP f n p lo hi v ∧ v ≠ -1 ∧ re' = upd re at_ v ∧ en = nx f n p
def imN (f : Nat → Int32) (n p lo hi fa : Int) (re re' : Nat → Int32) : Prop := nmN f n p lo hi fa ∧ re' = re
theorem tw_y {f : Nat → Int32} {n p a e : Int} {tk w : Int64} (a1 : a = tS f n p) (a2 : e = tE f n a) (t : tk = tkV f n a e) (h : lg_cmp tk w = 0) : tkW f n p = w := by
  have e2 := nx_of a1 a2
  unfold tkW; rw [← a1, ← e2, ← t]; exact (lg_cmp_eq _ _).mp h
theorem tw_n {f : Nat → Int32} {n p a e : Int} {tk w : Int64} (a1 : a = tS f n p) (a2 : e = tE f n a) (t : tk = tkV f n a e) (h : ¬ lg_cmp tk w = 0) : tkW f n p ≠ w := by
  have e2 := nx_of a1 a2
  unfold tkW; rw [← a1, ← e2, ← t]; exact fun z => h ((lg_cmp_eq _ _).mpr z)
def lkP (f : Nat → Int32) (n p : Int) (k : Int32) : Prop := (tkW f n p = 365647 ∧ k = 0) ∨ (tkW f n p = 670208 ∧ k = 1) ∨ (tkW f n p = 847604 ∧ k = 2) ∨ (tkW f n p = 453773 ∧ k = 3) ∨ ((tkW f n p ≠ 365647 ∧ tkW f n p ≠ 670208 ∧ tkW f n p ≠ 847604 ∧ tkW f n p ≠ 453773) ∧ k = -1)
/-- behind the first TOKEN of a LINE: its sort stands at its place -/
def ilA (f : Nat → Int32) (n p : Int) (at_ : Int32) (re re1 : Nat → Int32) : Prop := lkP f n p (re1 at_.toNatClampNeg) ∧ ∀ j : Nat, (j : Int) < at_.toInt → re1 j = re j
theorem il_put {f re re1 : Nat → Int32} {n p : Int} {at_ v : Int32} (e : re1 = upd re at_.toNatClampNeg v) (h0 : 0 ≤ at_.toInt) (h : lkP f n p v) : ilA f n p at_ re re1 := by
  subst e
  have ea := clC (x := at_) rfl
  exact ⟨by rw [pk_us]; exact h, fun j hj => pk_un (by omega)⟩
/-- its room's place is 0 -/
def ilB (f : Nat → Int32) (n p : Int) (at_ k : Int32) (re re2 : Nat → Int32) : Prop := lkP f n p k ∧ re2 at_.toNatClampNeg = k ∧ re2 (at_.toNatClampNeg + 1) = 0 ∧ ∀ j : Nat, (j : Int) < at_.toInt → re2 j = re j
theorem il_zero {f re re1 re2 : Nat → Int32} {n p : Int} {at_ b k : Int32} (h : ilA f n p at_ re re1) (e : re2 = upd re1 b.toNatClampNeg 0) (hb : b.toInt = at_.toInt + 1) (h0 : 0 ≤ at_.toInt) (hk : re2 at_.toNatClampNeg = k) : ilB f n p at_ k re re2 := by
  have ea := clC (x := at_) rfl
  have eb := clC hb
  have same : re2 at_.toNatClampNeg = re1 at_.toNatClampNeg := by rw [e, eb]; exact pk_un (by omega)
  refine ⟨by rw [← hk, same]; exact h.1, hk, ?_, fun j hj => ?_⟩
  · rw [e, eb, show at_.toNatClampNeg + 1 = (at_.toInt + 1).toNat by omega, pk_us]
  · rw [e, eb, pk_un (by omega)]; exact h.2 j hj
def lnM (f : Nat → Int32) (n p : Int) (at_ : Int32) (re re' : Nat → Int32) (en : Int) : Prop := ∃ (k x y : Int32) (st : Int), lnT f n p k x y st en ∧ re' at_.toNatClampNeg = k ∧ re' (at_.toNatClampNeg + 1) = x ∧ re' (at_.toNatClampNeg + 2) = y ∧ ∀ j : Nat, (j : Int) < at_.toInt → re' j = re j
def lnR (f : Nat → Int32) (n p : Int) (at_ : Int32) (re re' : Nat → Int32) (fa : Int) : Prop := lnN f n p fa ∧ ∀ j : Nat, (j : Int) < at_.toInt → re' j = re j
theorem lk_k {f : Nat → Int32} {n p : Int} {k : Int32} (h : lkP f n p k) : (k = 0 → tkW f n p = 365647) ∧ (k = 1 → tkW f n p = 670208) ∧ (k = 2 → tkW f n p = 847604) ∧ (k = 3 → tkW f n p = 453773) ∧ ((k.toInt < 0 ∨ 3 < k.toInt) → tkW f n p ≠ 365647 ∧ tkW f n p ≠ 670208 ∧ tkW f n p ≠ 847604 ∧ tkW f n p ≠ 453773) := by
  rcases h with ⟨a, rfl⟩ | ⟨a, rfl⟩ | ⟨a, rfl⟩ | ⟨a, rfl⟩ | ⟨a, rfl⟩
  · exact ⟨fun _ => a, fun z => absurd z (by decide), fun z => absurd z (by decide), fun z => absurd z (by decide), fun z => absurd z (by decide)⟩
  · exact ⟨fun z => absurd z (by decide), fun _ => a, fun z => absurd z (by decide), fun z => absurd z (by decide), fun z => absurd z (by decide)⟩
  · exact ⟨fun z => absurd z (by decide), fun z => absurd z (by decide), fun _ => a, fun z => absurd z (by decide), fun z => absurd z (by decide)⟩
  · exact ⟨fun z => absurd z (by decide), fun z => absurd z (by decide), fun z => absurd z (by decide), fun _ => a, fun z => absurd z (by decide)⟩
  · exact ⟨fun z => absurd z (by decide), fun z => absurd z (by decide), fun z => absurd z (by decide), fun z => absurd z (by decide), fun _ => a⟩
theorem il_room {f re re2 re3 re4 : Nat → Int32} {n p e e3 e4 : Int} {at_ b c k : Int32} (h : ilB f n p at_ k re re2) (hk : k = 0) (e1 : e = nx f n p) (i1 : imT f n e 0 7 b.toNatClampNeg re2 re3 e3) (i2 : imT f n e3 0 8 c.toNatClampNeg re3 re4 e4) (hb : b.toInt = at_.toInt + 1) (hc : c.toInt = at_.toInt + 2) (h0 : 0 ≤ at_.toInt) : lnM f n p at_ re re4 e4 := by
  obtain ⟨h1, h2, h3, h4⟩ := h
  obtain ⟨x, u1, u2, u3, u4⟩ := i1
  obtain ⟨y, w1, w2, w3, w4⟩ := i2
  have ea := clC (x := at_) rfl
  have eb := clC hb
  have ec := clC hc
  rw [eb] at u3; rw [ec] at w3
  have t := (lk_k h1).1 hk
  rw [e1] at u1 u4; rw [u4] at w1 w4
  refine ⟨0, x, y, _, .inl ⟨t, rfl, u1, u2, w1, w2, rfl, w4⟩, ?_, ?_, ?_, fun j hj => ?_⟩
  · rw [w3, pk_un (by omega), u3, pk_un (by omega), h2, hk]
  · rw [w3, pk_un (by omega), u3, show at_.toNatClampNeg + 1 = (at_.toInt + 1).toNat by omega, pk_us]
  · rw [w3, show at_.toNatClampNeg + 2 = (at_.toInt + 2).toNat by omega, pk_us]
  · rw [w3, pk_un (by omega), u3, pk_un (by omega)]; exact h4 j hj
theorem il_one {f re re2 re4 : Nat → Int32} {n p e lo hi e4 : Int} {at_ c k : Int32} (h : ilB f n p at_ k re re2) (hk : (k = 1 ∧ lo = 1 ∧ hi = 99) ∨ (k = 2 ∧ lo = 0 ∧ hi = 8)) (e1 : e = nx f n p) (i2 : imT f n e lo hi c.toNatClampNeg re2 re4 e4) (hc : c.toInt = at_.toInt + 2) (h0 : 0 ≤ at_.toInt) : lnM f n p at_ re re4 e4 := by
  obtain ⟨h1, h2, h3, h4⟩ := h
  obtain ⟨y, w1, w2, w3, w4⟩ := i2
  have ea := clC (x := at_) rfl
  have ec := clC hc
  rw [ec] at w3
  rw [e1] at w1 w4
  have k0 : re4 at_.toNatClampNeg = k := by rw [w3, pk_un (by omega), h2]
  have k1 : re4 (at_.toNatClampNeg + 1) = 0 := by rw [w3, pk_un (by omega), h3]
  have k2 : re4 (at_.toNatClampNeg + 2) = y := by rw [w3, show at_.toNatClampNeg + 2 = (at_.toInt + 2).toNat by omega, pk_us]
  have k3 : ∀ j : Nat, (j : Int) < at_.toInt → re4 j = re j := fun j hj => by rw [w3, pk_un (by omega)]; exact h4 j hj
  rcases hk with ⟨hk, rfl, rfl⟩ | ⟨hk, rfl, rfl⟩
  · exact ⟨1, 0, y, _, .inr (.inl ⟨(lk_k h1).2.1 hk, rfl, rfl, w1, w2, rfl, w4⟩), k0.trans hk, k1, k2, k3⟩
  · exact ⟨2, 0, y, _, .inr (.inr (.inl ⟨(lk_k h1).2.2.1 hk, rfl, rfl, w1, w2, rfl, w4⟩)), k0.trans hk, k1, k2, k3⟩
theorem il_walk {f re re2 re3 re4 : Nat → Int32} {n p e e3 e5 e4 : Int} {at_ b c k : Int32} (h : ilB f n p at_ k re re2) (hk : k = 3) (e1 : e = nx f n p) (i1 : imT f n e 0 7 b.toNatClampNeg re2 re3 e3) (w : tkW f n e3 = 3094387) (e2 : e5 = nx f n e3) (i2 : imT f n e5 1 99 c.toNatClampNeg re3 re4 e4) (hb : b.toInt = at_.toInt + 1) (hc : c.toInt = at_.toInt + 2) (h0 : 0 ≤ at_.toInt) : lnM f n p at_ re re4 e4 := by
  obtain ⟨h1, h2, h3, h4⟩ := h
  obtain ⟨x, u1, u2, u3, u4⟩ := i1
  obtain ⟨y, w1, w2, w3, w4⟩ := i2
  have ea := clC (x := at_) rfl
  have eb := clC hb
  have ec := clC hc
  rw [eb] at u3; rw [ec] at w3
  have t := (lk_k h1).2.2.2.1 hk
  rw [e2] at w1 w4
  rw [e1] at u1 u4; rw [u4] at w1 w4 w
  refine ⟨3, x, y, _, .inr (.inr (.inr ⟨t, rfl, u1, u2, w, w1, w2, rfl, w4⟩)), ?_, ?_, ?_, fun j hj => ?_⟩
  · rw [w3, pk_un (by omega), u3, pk_un (by omega), h2, hk]
  · rw [w3, pk_un (by omega), u3, show at_.toNatClampNeg + 1 = (at_.toInt + 1).toNat by omega, pk_us]
  · rw [w3, show at_.toNatClampNeg + 2 = (at_.toInt + 2).toNat by omega, pk_us]
  · rw [w3, pk_un (by omega), u3, pk_un (by omega)]; exact h4 j hj
theorem ir_none {f re re2 : Nat → Int32} {n p fa : Int} {at_ k : Int32} (h : ilB f n p at_ k re re2) (hk : k.toInt < 0 ∨ 3 < k.toInt) (hf : fa = tS f n p) : lnR f n p at_ re re2 fa := ⟨.inr (.inr (.inr (.inr ⟨(lk_k h.1).2.2.2.2 hk, hf⟩))), h.2.2.2⟩
theorem ir_one {f re re2 re9 : Nat → Int32} {n p e lo hi fa : Int} {at_ k : Int32} (h : ilB f n p at_ k re re2) (hk : (k = 1 ∧ lo = 1 ∧ hi = 99) ∨ (k = 2 ∧ lo = 0 ∧ hi = 8)) (e1 : e = nx f n p) (i : imN f n e lo hi fa re2 re9) : lnR f n p at_ re re9 fa := by
  subst e1
  obtain ⟨i, e9⟩ := i
  subst e9
  refine ⟨?_, h.2.2.2⟩
  rcases hk with ⟨hk, rfl, rfl⟩ | ⟨hk, rfl, rfl⟩
  · exact .inr (.inl ⟨(lk_k h.1).2.1 hk, i⟩)
  · exact .inr (.inr (.inl ⟨(lk_k h.1).2.2.1 hk, i⟩))
theorem ir_room1 {f re re2 re9 : Nat → Int32} {n p e fa : Int} {at_ k : Int32} (h : ilB f n p at_ k re re2) (hk : k = 0) (e1 : e = nx f n p) (i : imN f n e 0 7 fa re2 re9) : lnR f n p at_ re re9 fa := by
  subst e1
  obtain ⟨i, e9⟩ := i
  subst e9
  exact ⟨.inl ⟨(lk_k h.1).1 hk, .inl i⟩, h.2.2.2⟩
theorem im_low {f re re2 re3 : Nat → Int32} {n p lo hi en : Int} {b at_ : Int32} (i : imT f n p lo hi b.toNatClampNeg re2 re3 en) (hb : at_.toInt ≤ b.toInt) (h0 : 0 ≤ at_.toInt) (h : ∀ j : Nat, (j : Int) < at_.toInt → re2 j = re j) : ∀ j : Nat, (j : Int) < at_.toInt → re3 j = re j := by
  obtain ⟨x, _, _, u3, _⟩ := i
  intro j hj
  have eb := clC (x := b) rfl
  rw [u3, pk_un (by omega)]; exact h j hj
theorem ir_room2 {f re re2 re3 re9 : Nat → Int32} {n p e e3 fa : Int} {at_ b k : Int32} (h : ilB f n p at_ k re re2) (hk : k = 0) (e1 : e = nx f n p) (i1 : imT f n e 0 7 b.toNatClampNeg re2 re3 e3) (hb : b.toInt = at_.toInt + 1) (h0 : 0 ≤ at_.toInt) (i : imN f n e3 0 8 fa re3 re9) : lnR f n p at_ re re9 fa := by
  obtain ⟨i, e9⟩ := i
  subst e9
  have lo := im_low i1 (at_ := at_) (by omega) h0 h.2.2.2
  obtain ⟨x, u1, u2, u3, u4⟩ := i1
  subst e1
  rw [u4] at i
  exact ⟨.inl ⟨(lk_k h.1).1 hk, .inr ⟨x, u1, u2, i.1, i.2⟩⟩, lo⟩
theorem ir_walk1 {f re re2 re9 : Nat → Int32} {n p e fa : Int} {at_ k : Int32} (h : ilB f n p at_ k re re2) (hk : k = 3) (e1 : e = nx f n p) (i : imN f n e 0 7 fa re2 re9) : lnR f n p at_ re re9 fa := by
  subst e1
  obtain ⟨i, e9⟩ := i
  subst e9
  exact ⟨.inr (.inr (.inr (.inl ⟨(lk_k h.1).2.2.2.1 hk, .inl i⟩))), h.2.2.2⟩
