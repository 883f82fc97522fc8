-- ===== DOORS: the model's list =====
def eD (A B : Nat → Int32) (n : Int) (x y : Int) : Prop := ∃ k : Nat, (k : Int) < n ∧ (((A k).toInt = x ∧ (B k).toInt = y) ∨ ((A k).toInt = y ∧ (B k).toInt = x))
def edR (few A B : Nat → Int32) (n : Int) : Prop := ∀ x y : Nat, x < 8 → y < 8 → (dd few x y = 1 ↔ eD A B n x y)
def jkI (A B : Nat → Int32) (x y : Int32) (k : Int) (r : Int32) : Prop := (r = 0 ∧ ¬ eD A B k x.toInt y.toInt) ∨ (r = 1 ∧ eD A B k x.toInt y.toInt)
theorem jk_init {A B : Nat → Int32} {x y r : Int32} {k : Int} (hk : k = 0) (hr : r = 0) : jkI A B x y k r := .inl ⟨hr, fun ⟨q, hq, _⟩ => by omega⟩
theorem eD_mono {A B : Nat → Int32} {k k' x y : Int} (h : eD A B k x y) (hk : k ≤ k') : eD A B k' x y := by
  obtain ⟨q, hq, w⟩ := h; exact ⟨q, by omega, w⟩
theorem jk_was {A B : Nat → Int32} {x y r r' : Int32} {k k' : Int} (h : jkI A B x y k r) (hr : ¬ r = 0) (hr' : r' = 1) (hk : k' = k + 1) : jkI A B x y k' r' := by
  rcases h with ⟨a, -⟩ | ⟨-, b⟩
  · exact absurd a hr
  · exact .inr ⟨hr', eD_mono b (by omega)⟩
theorem jk_hit {A B : Nat → Int32} {x y c r' : Int32} {k' : Int} (h0 : 0 ≤ c.toInt) (h : ((A c.toNatClampNeg).toInt = x.toInt ∧ (B c.toNatClampNeg).toInt = y.toInt) ∨ ((A c.toNatClampNeg).toInt = y.toInt ∧ (B c.toNatClampNeg).toInt = x.toInt)) (hr' : r' = 1) (hk : k' = c.toInt + 1) : jkI A B x y k' r' :=
  .inr ⟨hr', c.toNatClampNeg, by rw [clC (x := c) rfl]; omega, h⟩
theorem jk_miss {A B : Nat → Int32} {x y c r r' : Int32} {k' : Int} (h : jkI A B x y c.toInt r) (hr : r = 0) (h0 : 0 ≤ c.toInt) (hn : ¬ (((A c.toNatClampNeg).toInt = x.toInt ∧ (B c.toNatClampNeg).toInt = y.toInt) ∨ ((A c.toNatClampNeg).toInt = y.toInt ∧ (B c.toNatClampNeg).toInt = x.toInt))) (hr' : r' = 0) (hk : k' = c.toInt + 1) : jkI A B x y k' r' := by
  rcases h with ⟨-, b⟩ | ⟨a, -⟩
  · refine .inl ⟨hr', fun ⟨q, hq, w⟩ => ?_⟩
    by_cases e : q = c.toNatClampNeg
    · subst e; exact hn w
    · have := clC (x := c) rfl
      exact b ⟨q, by omega, w⟩
  · rw [a] at hr; exact absurd hr (by decide)
theorem jk_alt {A B : Nat → Int32} {x y r : Int32} {k n : Int} (h : jkI A B x y k r) (h1 : k = n) : (r = 1 ∧ eD A B n x.toInt y.toInt) ∨ (r = 0 ∧ ¬ eD A B n x.toInt y.toInt) := by
  subst h1; exact h.symm
-- the model's way
def fi8 (a : Int32) (i : Int) (F : Nat → Int32) : Prop := ∀ j : Nat, (j : Int) < i → (F j).toInt = (if (j : Int) = a.toInt then 0 else 100)
theorem fi8_step {F F2 : Nat → Int32} {a y v : Int32} {i : Int} (q : fi8 a y.toInt F) (e : F2 = upd F y.toNatClampNeg v) (h0 : 0 ≤ y.toInt) (hv : (y.toInt = a.toInt ∧ v.toInt = 0) ∨ (y.toInt ≠ a.toInt ∧ v.toInt = 100)) (hi : i = y.toInt + 1) : fi8 a i F2 := by
  subst hi; subst e
  have ey := clC (x := y) rfl
  intro j hj
  by_cases c : j = y.toNatClampNeg
  · subst c
    rw [pk_us]
    rcases hv with h | h
    · rw [if_pos (by omega)]; exact h.2
    · rw [if_neg (by omega)]; exact h.2
  · rw [pk_un c]; exact q j (by omega)
def dtI (A B : Nat → Int32) (n : Int) (a : Nat) (t : Int) (F : Nat → Int32) : Prop := rg 8 0 100 F ∧ ∀ few : Nat → Int32, mtOK few → edR few A B n → (∀ j : Nat, j < 8 → dd few a j ≤ (F j).toInt) ∧ (∀ j : Nat, j < 8 → dd few a j ≤ t → (F j).toInt ≤ dd few a j)
theorem dt_init {A B F : Nat → Int32} {n i t : Int} {a : Int32} (q : fi8 a i F) (hi : 8 ≤ i) (ha : 0 ≤ a.toInt ∧ a.toInt ≤ 7) (ht : t = 0) : dtI A B n a.toInt.toNat t F := by
  subst ht
  have w : ∀ j : Nat, j < 8 → (F j).toInt = (if (j : Int) = a.toInt then 0 else 100) := fun j hj => q j (by omega)
  refine ⟨fun j hj => ?_, fun few hm he => ⟨fun j hj => ?_, fun j hj hd => ?_⟩⟩
  · rw [w j hj]
    by_cases c : (j : Int) = a.toInt
    · rw [if_pos c]; omega
    · rw [if_neg c]; omega
  · rw [w j hj]
    have m1 := (hm.2 a.toInt.toNat j (by omega) hj).1
    have m2 := (hm.2 a.toInt.toNat j (by omega) hj).2.1
    by_cases c : (j : Int) = a.toInt
    · rw [if_pos c, m2.mpr (by omega)]; omega
    · rw [if_neg c]; omega
  · have m1 := (hm.2 a.toInt.toNat j (by omega) hj).1.1
    have m2 := (hm.2 a.toInt.toNat j (by omega) hj).2.1
    have z : dd few a.toInt.toNat j = 0 := by omega
    have e := m2.mp z
    rw [w j hj, if_pos (by omega), z]; omega
def dkI (A B : Nat → Int32) (n : Int) (a : Nat) (k : Int) (F0 F : Nat → Int32) : Prop := (∀ j : Nat, j < 8 → 0 ≤ (F j).toInt ∧ (F j).toInt ≤ (F0 j).toInt) ∧ (∀ few : Nat → Int32, mtOK few → edR few A B n → ∀ j : Nat, j < 8 → dd few a j ≤ (F j).toInt) ∧ (∀ q : Nat, (q : Int) < k → (F (B q).toNatClampNeg).toInt ≤ (F0 (A q).toNatClampNeg).toInt + 1 ∧ (F (A q).toNatClampNeg).toInt ≤ (F0 (B q).toNatClampNeg).toInt + 1)
theorem dk_init {A B F : Nat → Int32} {n t k : Int} {a : Nat} (q : dtI A B n a t F) (hk : k = 0) : dkI A B n a k F F := ⟨fun j hj => ⟨(q.1 j hj).1, Int.le_refl _⟩, fun few hm he => (q.2 few hm he).1, fun q hq => by omega⟩
theorem dk_rg {A B F0 F : Nat → Int32} {n t k : Int} {a : Nat} (q0 : dtI A B n a t F0) (q : dkI A B n a k F0 F) : rg 8 0 100 F := fun j hj => ⟨(q.1 j hj).1, by have := (q.1 j hj).2; have := (q0.1 j hj).2; omega⟩
theorem rg_of {n : Nat} {lo hi : Int} {f g : Nat → Int32} {k : Nat} {v : Int32} (h : rg n lo hi f) (e : g = upd f k v) (h1 : lo ≤ v.toInt) (h2 : v.toInt ≤ hi) : rg n lo hi g := by subst e; exact rg_upd h rfl h1 h2
theorem dk_step {A B F0 F F1 F2 : Nat → Int32} {n k k' t : Int} {a : Nat} {c x y v w : Int32} (ha : a < 8) (hA : rg 14 0 7 A) (hB : rg 14 0 7 B) (q0 : dtI A B n a t F0) (q : dkI A B n a k F0 F) (hk : k = c.toInt) (hc : 0 ≤ c.toInt) (hcn : c.toInt < n) (hn : n ≤ 14) (ex : x = A c.toNatClampNeg) (ey : y = B c.toNatClampNeg) (e1 : F1 = upd F x.toNatClampNeg v) (hv : v.toInt = min ((F y.toNatClampNeg).toInt + 1) (F x.toNatClampNeg).toInt) (e2 : F2 = upd F1 y.toNatClampNeg w) (hw : w.toInt = min ((F1 x.toNatClampNeg).toInt + 1) (F1 y.toNatClampNeg).toInt) (hk' : k' = c.toInt + 1) : dkI A B n a k' F0 F2 := by
  subst hk; subst hk'
  have ec := clC (x := c) rfl
  have rx := hA c.toNatClampNeg (by omega)
  have ry := hB c.toNatClampNeg (by omega)
  rw [← ex] at rx; rw [← ey] at ry
  have cx := clC (x := x) rfl
  have cy := clC (x := y) rfl
  have x8 : x.toNatClampNeg < 8 := by omega
  have y8 : y.toNatClampNeg < 8 := by omega
  have f1x : F1 x.toNatClampNeg = v := by rw [e1, pk_us]
  have f1 : ∀ j : Nat, j < 8 → 0 ≤ (F1 j).toInt ∧ (F1 j).toInt ≤ (F j).toInt := by
    intro j hj
    by_cases c : j = x.toNatClampNeg
    · subst c; rw [f1x]; have := (q.1 _ x8).1; have := (q.1 _ y8).1; omega
    · rw [e1, pk_un c]; exact ⟨(q.1 j hj).1, Int.le_refl _⟩
  have f2y : F2 y.toNatClampNeg = w := by rw [e2, pk_us]
  have f2 : ∀ j : Nat, j < 8 → 0 ≤ (F2 j).toInt ∧ (F2 j).toInt ≤ (F1 j).toInt := by
    intro j hj
    by_cases c : j = y.toNatClampNeg
    · subst c; rw [f2y]; have := (f1 _ x8).1; have := (f1 _ y8).1; omega
    · rw [e2, pk_un c]; exact ⟨(f1 j hj).1, Int.le_refl _⟩
  refine ⟨fun j hj => ?_, fun few hm he j hj => ?_, fun p hp => ?_⟩
  · have := f1 j hj; have := f2 j hj; have := q.1 j hj; omega
  · have lo := q.2.1 few hm he
    have ed : dd few x.toNatClampNeg y.toNatClampNeg = 1 := (he _ _ x8 y8).mpr ⟨c.toNatClampNeg, by omega, Or.inl ⟨by rw [← ex]; omega, by rw [← ey]; omega⟩⟩
    have ed2 : dd few y.toNatClampNeg x.toNatClampNeg = 1 := by rw [← (hm.2 _ _ x8 y8).2.2.1]; exact ed
    have tx := (hm.2 a x.toNatClampNeg ha x8).2.2.2.1 y.toNatClampNeg y8
    have ty := (hm.2 a y.toNatClampNeg ha y8).2.2.2.1 x.toNatClampNeg x8
    have lx := lo _ x8
    have ly := lo _ y8
    have lo1 : ∀ j : Nat, j < 8 → dd few a j ≤ (F1 j).toInt := by
      intro j hj
      by_cases c : j = x.toNatClampNeg
      · subst c; rw [f1x]; omega
      · rw [e1, pk_un c]; exact lo j hj
    have l1x := lo1 _ x8
    have l1y := lo1 _ y8
    by_cases c : j = y.toNatClampNeg
    · subst c; rw [f2y]; omega
    · rw [e2, pk_un c]; exact lo1 j hj
  · by_cases c' : p = c.toNatClampNeg
    · subst c'
      rw [← ex, ← ey]
      have g1 := f2 _ x8
      have g2 := f1 _ x8
      have g3 := (q.1 _ x8).2
      have g4 := (q.1 _ y8).2
      have g5 := f1 _ y8
      rw [f2y]
      have g6 := f1x
      rw [f1x] at hw g1
      omega
    · have w0 := q.2.2 p (by omega)
      have ap := hA p (by omega)
      have bp := hB p (by omega)
      have pa : (A p).toNatClampNeg < 8 := by rw [clC (x := A p) rfl]; omega
      have pb : (B p).toNatClampNeg < 8 := by rw [clC (x := B p) rfl]; omega
      have := f1 _ pa; have := f2 _ pa; have := f1 _ pb; have := f2 _ pb
      omega
theorem dk_end {A B F0 F : Nat → Int32} {n k t t' : Int} {a : Nat} (ha : a < 8) (hA : rg 14 0 7 A) (hB : rg 14 0 7 B) (hn : n ≤ 14) (q0 : dtI A B n a t F0) (q : dkI A B n a k F0 F) (hk : n ≤ k) (ht0 : 0 ≤ t) (ht : t' = t + 1) : dtI A B n a t' F := by
  subst ht
  refine ⟨dk_rg q0 q, fun few hm he => ⟨q.2.1 few hm he, fun j hj hd => ?_⟩⟩
  have up0 := (q0.2 few hm he).2
  have qj := q.1 j hj
  by_cases c : dd few a j ≤ t
  · have := up0 j hj c; omega
  · have m1 := (hm.2 a j ha hj).1.2
    have edge : ∀ z : Nat, z < 8 → dd few z j = 1 → dd few a z ≤ t → (F j).toInt ≤ dd few a z + 1 := by
      intro z hz e1 e2
      obtain ⟨p, hp, w⟩ := (he z j hz hj).mp e1
      have qp := q.2.2 p (by omega)
      have := up0 z hz e2
      rcases w with ⟨w1, w2⟩ | ⟨w1, w2⟩
      · rw [clC w1, clC w2] at qp
        have q1 := qp.1
        rw [show ((z : Int)).toNat = z by omega, show ((j : Int)).toNat = j by omega] at q1
        omega
      · rw [clC w1, clC w2] at qp
        have q1 := qp.2
        rw [show ((z : Int)).toNat = z by omega, show ((j : Int)).toNat = j by omega] at q1
        omega
    by_cases c1 : dd few a j = 1
    · have za : dd few a a = 0 := (hm.2 a a ha ha).2.1.mpr rfl
      have := edge a ha c1 (by omega)
      omega
    · rcases m1 with h7 | h7
      · obtain ⟨z, hz, e1, e2⟩ := (hm.2 a j ha hj).2.2.2.2 (by omega) h7
        have := edge z hz e2 (by omega)
        omega
      · have := (dk_rg q0 q j hj).2; omega
def dsR (A B : Nat → Int32) (n : Int) (x y r : Int32) : Prop := ∀ few : Nat → Int32, mtOK few → edR few A B n → r = few (x.toInt * 8 + y.toInt).toNat
theorem ds_no {A B F : Nat → Int32} {n t : Int} {x y : Int32} (q : dtI A B n x.toInt.toNat t F) (hx : 0 ≤ x.toInt ∧ x.toInt ≤ 7) (hy : 0 ≤ y.toInt ∧ y.toInt ≤ 7) (ht : 8 ≤ t) (hF : 100 ≤ (F y.toNatClampNeg).toInt) : dsR A B n x y (-1) := by
  intro few hm he
  have w := q.2 few hm he
  have m1 := (hm.2 x.toInt.toNat y.toInt.toNat (by omega) (by omega)).1
  have r := hm.1 x.toInt.toNat y.toInt.toNat (by omega) (by omega)
  rw [clC (x := y) rfl] at hF
  have u := w.2 y.toInt.toNat (by omega)
  have ei : (x.toInt * 8 + y.toInt).toNat = x.toInt.toNat * 8 + y.toInt.toNat := by omega
  rw [ei]
  apply Int32.toInt_inj.mp
  rw [show ((-1 : Int32)).toInt = -1 from rfl]
  unfold dd dv at m1 u
  by_cases c : (few (x.toInt.toNat * 8 + y.toInt.toNat)).toInt = -1
  · exact c.symm
  · rw [if_neg c] at m1 u; omega
theorem ds_yes {A B F : Nat → Int32} {n t : Int} {x y r : Int32} (q : dtI A B n x.toInt.toNat t F) (hx : 0 ≤ x.toInt ∧ x.toInt ≤ 7) (hy : 0 ≤ y.toInt ∧ y.toInt ≤ 7) (ht : 8 ≤ t) (hr : r = F y.toNatClampNeg) (hF : (F y.toNatClampNeg).toInt < 100) : dsR A B n x y r := by
  intro few hm he
  have w := q.2 few hm he
  have m1 := (hm.2 x.toInt.toNat y.toInt.toNat (by omega) (by omega)).1
  have r := hm.1 x.toInt.toNat y.toInt.toNat (by omega) (by omega)
  rw [hr]
  rw [clC (x := y) rfl] at hF ⊢
  have u := w.2 y.toInt.toNat (by omega)
  have l := w.1 y.toInt.toNat (by omega)
  have ei : (x.toInt * 8 + y.toInt).toNat = x.toInt.toNat * 8 + y.toInt.toNat := by omega
  rw [ei]
  apply Int32.toInt_inj.mp
  unfold dd dv at m1 u l
  by_cases c : (few (x.toInt.toNat * 8 + y.toInt.toNat)).toInt = -1
  · rw [if_pos c] at l; omega
  · rw [if_neg c] at m1 u l; omega
-- door, away
def spDorC (few : Nat → Int32) (doo x y r : Int32) (few' : Nat → Int32) (doo' : Int32) : Prop := ((x.toInt < 0 ∨ 7 < x.toInt ∨ y.toInt < 0 ∨ 7 < y.toInt ∨ x.toInt = y.toInt) ∧ r = -2 ∧ few' = few ∧ doo' = doo) ∨ ((0 ≤ x.toInt ∧ x.toInt ≤ 7 ∧ 0 ≤ y.toInt ∧ y.toInt ≤ 7 ∧ x.toInt ≠ y.toInt) ∧ (((few (x.toInt * 8 + y.toInt).toNat).toInt = 1 ∧ r = -4 ∧ few' = few ∧ doo' = doo) ∨ ((few (x.toInt * 8 + y.toInt).toNat).toInt ≠ 1 ∧ ((14 ≤ doo.toInt ∧ r = -5 ∧ few' = few ∧ doo' = doo) ∨ (doo.toInt < 14 ∧ r = doo + 1 ∧ doo' = doo + 1 ∧ jnS few x y few')))))
def spDorM (A B : Nat → Int32) (n x y r : Int32) (A' B' : Nat → Int32) (n' : Int32) : Prop := ((x.toInt < 0 ∨ 7 < x.toInt ∨ y.toInt < 0 ∨ 7 < y.toInt ∨ x.toInt = y.toInt) ∧ r = -2 ∧ A' = A ∧ B' = B ∧ n' = n) ∨ ((0 ≤ x.toInt ∧ x.toInt ≤ 7 ∧ 0 ≤ y.toInt ∧ y.toInt ≤ 7 ∧ x.toInt ≠ y.toInt) ∧ ((eD A B n.toInt x.toInt y.toInt ∧ r = -4 ∧ A' = A ∧ B' = B ∧ n' = n) ∨ (¬ eD A B n.toInt x.toInt y.toInt ∧ ((14 ≤ n.toInt ∧ r = -5 ∧ A' = A ∧ B' = B ∧ n' = n) ∨ (n.toInt < 14 ∧ r = n + 1 ∧ n' = n + 1 ∧ A' = upd A n.toNatClampNeg x ∧ B' = upd B n.toNatClampNeg y)))))
def doR (few : Nat → Int32) (doo : Int32) (A B : Nat → Int32) (n : Int32) : Prop := doo = n ∧ edR few A B n.toInt
theorem one_dd {few : Nat → Int32} {x y : Int32} (h0 : 0 ≤ x.toInt ∧ 0 ≤ y.toInt) : ((few (x.toInt * 8 + y.toInt).toNat).toInt = 1 ↔ dd few x.toInt.toNat y.toInt.toNat = 1) := by
  have ei : (x.toInt * 8 + y.toInt).toNat = x.toInt.toNat * 8 + y.toInt.toNat := by omega
  rw [ei]
  unfold dd dv
  by_cases c : (few (x.toInt.toNat * 8 + y.toInt.toNat)).toInt = -1
  · rw [if_pos c, c]; exact ⟨fun q => by omega, fun q => by omega⟩
  · rw [if_neg c]
theorem spDor_rel {few few' A B A' B' : Nat → Int32} {doo doo' n n' x y r r2 : Int32} (hm : mtOK few) (hn : 0 ≤ n.toInt ∧ n.toInt ≤ 14) (R : doR few doo A B n) (h1 : spDorC few doo x y r few' doo') (h2 : spDorM A B n x y r2 A' B' n') : r = r2 ∧ doR few' doo' A' B' n' := by
  obtain ⟨rd, re⟩ := R
  subst rd
  have R : doR few doo A B doo := ⟨rfl, re⟩
  rcases h1 with ⟨a, b, e1, e2⟩ | ⟨a, b⟩
  · rcases h2 with ⟨a2, b2, d1, d2, d3⟩ | ⟨a2, b2⟩
    · rw [b, b2, e1, e2, d1, d2, d3]; exact ⟨rfl, R⟩
    · exfalso; omega
  · rcases h2 with ⟨a2, b2⟩ | ⟨a2, b2⟩
    · exfalso; omega
    · have ek : (few (x.toInt * 8 + y.toInt).toNat).toInt = 1 ↔ eD A B doo.toInt x.toInt y.toInt := by
        rw [one_dd ⟨by omega, by omega⟩, re _ _ (by omega) (by omega), show ((x.toInt.toNat : Nat) : Int) = x.toInt by omega, show ((y.toInt.toNat : Nat) : Int) = y.toInt by omega]
      rcases b with ⟨j, b, e1, e2⟩ | ⟨j, b⟩
      · rcases b2 with ⟨j2, b2, d1, d2, d3⟩ | ⟨j2, -⟩
        · rw [b, b2, e1, e2, d1, d2, d3]; exact ⟨rfl, R⟩
        · exact absurd (ek.mp j) j2
      · rcases b2 with ⟨j2, -⟩ | ⟨j2, b2⟩
        · exact absurd (ek.mpr j2) j
        · rcases b with ⟨f, b, e1, e2⟩ | ⟨f, b, e1, s⟩
          · rcases b2 with ⟨f2, b2, d1, d2, d3⟩ | ⟨f2, -⟩
            · rw [b, b2, e1, e2, d1, d2, d3]; exact ⟨rfl, R⟩
            · exfalso; omega
          · rcases b2 with ⟨f2, -⟩ | ⟨f2, b2, d1, d2, d3⟩
            · exfalso; omega
            · rw [b, b2, e1, d1, d2, d3]
              refine ⟨rfl, rfl, fun p q hp hq => ?_⟩
              have en : (doo + 1).toInt = doo.toInt + 1 := addC rfl (show (1 : Int32).toInt = 1 from rfl) (by omega) (by omega)
              rw [en, s p q hp hq]
              have cn := clC (x := doo) rfl
              have mm : met (dd few) := hm.2
              have mpq0 := (mm p q hp hq).1.1
              have mpq1 := (mm p q hp hq).2.1
              have a8 : x.toInt.toNat < 8 := by omega
              have b8 : y.toInt.toNat < 8 := by omega
              have nn1 := (mm p x.toInt.toNat hp a8).1.1
              have zz1 := (mm p x.toInt.toNat hp a8).2.1
              have nn2 := (mm y.toInt.toNat q b8 hq).1.1
              have zz2 := (mm y.toInt.toNat q b8 hq).2.1
              have nn3 := (mm p y.toInt.toNat hp b8).1.1
              have zz3 := (mm p y.toInt.toNat hp b8).2.1
              have nn4 := (mm x.toInt.toNat q a8 hq).1.1
              have zz4 := (mm x.toInt.toNat q a8 hq).2.1
              refine ⟨fun g => ?_, fun g => ?_⟩
              · by_cases c : dd few p q = 1
                · obtain ⟨k, hk, w⟩ := (re p q hp hq).mp c
                  refine ⟨k, by omega, ?_⟩
                  rw [pk_un (by omega), pk_un (by omega)]; exact w
                · have g' := g
                  unfold mn at g'
                  have pq0 : dd few p q ≠ 0 := fun z => by omega
                  have cs : (dd few p x.toInt.toNat = 0 ∧ dd few y.toInt.toNat q = 0) ∨ (dd few p y.toInt.toNat = 0 ∧ dd few x.toInt.toNat q = 0) := by
                    omega
                  refine ⟨doo.toNatClampNeg, by omega, ?_⟩
                  rw [pk_us, pk_us]
                  rcases cs with ⟨z1, z2⟩ | ⟨z1, z2⟩
                  · have w1 := zz1.mp z1
                    have w2 := zz2.mp z2
                    exact .inl ⟨by omega, by omega⟩
                  · have w1 := zz3.mp z1
                    have w2 := zz4.mp z2
                    exact .inr ⟨by omega, by omega⟩
              · obtain ⟨k, hk, w⟩ := g
                by_cases c : k = doo.toNatClampNeg
                · subst c
                  rw [pk_us, pk_us] at w
                  have pq0 : dd few p q ≠ 0 := fun z => by
                    have := mpq1.mp z
                    rcases w with ⟨w1, w2⟩ | ⟨w1, w2⟩ <;> omega
                  rcases w with ⟨w1, w2⟩ | ⟨w1, w2⟩
                  · have z1 := zz1.mpr (by omega)
                    have z2 := zz2.mpr (by omega)
                    unfold mn; omega
                  · have z1 := zz3.mpr (by omega)
                    have z2 := zz4.mpr (by omega)
                    unfold mn; omega
                · rw [pk_un c, pk_un c] at w
                  have z := (re p q hp hq).mpr ⟨k, by omega, w⟩
                  unfold mn; omega
def spAwyC (few : Nat → Int32) (x y r : Int32) : Prop := ((x.toInt < 0 ∨ 7 < x.toInt ∨ y.toInt < 0 ∨ 7 < y.toInt) ∧ r = -2) ∨ ((0 ≤ x.toInt ∧ x.toInt ≤ 7 ∧ 0 ≤ y.toInt ∧ y.toInt ≤ 7) ∧ r = few (x.toInt * 8 + y.toInt).toNat)
def spAwyM (A B : Nat → Int32) (n x y r : Int32) : Prop := ((x.toInt < 0 ∨ 7 < x.toInt ∨ y.toInt < 0 ∨ 7 < y.toInt) ∧ r = -2) ∨ ((0 ≤ x.toInt ∧ x.toInt ≤ 7 ∧ 0 ≤ y.toInt ∧ y.toInt ≤ 7) ∧ dsR A B n.toInt x y r)
theorem spAwy_rel {few A B : Nat → Int32} {doo n x y r r2 : Int32} (hm : mtOK few) (R : doR few doo A B n) (h1 : spAwyC few x y r) (h2 : spAwyM A B n x y r2) : r = r2 := by
  rcases h1 with ⟨a, b⟩ | ⟨a, b⟩
  · rcases h2 with ⟨a2, b2⟩ | ⟨a2, b2⟩
    · rw [b, b2]
    · exfalso; omega
  · rcases h2 with ⟨a2, b2⟩ | ⟨a2, b2⟩
    · exfalso; omega
    · rw [b, b2 few hm R.2]
-- asked
def spAskC (few top : Nat → Int32) (t ro r : Int32) : Prop := ((t.toInt < 0 ∨ 23 < t.toInt ∨ ro.toInt < 0 ∨ 7 < ro.toInt) ∧ r = -2) ∨ ((0 ≤ t.toInt ∧ t.toInt ≤ 23 ∧ 0 ≤ ro.toInt ∧ ro.toInt ≤ 7) ∧ ∃ c : Int32, whu top t c ∧ ((c = -1 ∧ r = -1) ∨ ((0 ≤ c.toInt ∧ c.toInt ≤ 47) ∧ ((few (ro.toInt * 8 + c.toInt / 6).toNat = -1 ∧ r = -1) ∨ (few (ro.toInt * 8 + c.toInt / 6).toNat ≠ -1 ∧ r.toInt = (few (ro.toInt * 8 + c.toInt / 6).toNat).toInt + c.toInt % 6 + 1)))))
def spAskM (A B : Nat → Int32) (n : Int32) (top : Nat → Int32) (t ro r : Int32) : Prop := ((t.toInt < 0 ∨ 23 < t.toInt ∨ ro.toInt < 0 ∨ 7 < ro.toInt) ∧ r = -2) ∨ ((0 ≤ t.toInt ∧ t.toInt ≤ 23 ∧ 0 ≤ ro.toInt ∧ ro.toInt ≤ 7) ∧ ∃ c : Int32, whr top t c ∧ ((c = -1 ∧ r = -1) ∨ ((0 ≤ c.toInt ∧ c.toInt ≤ 47) ∧ ∃ f g : Int32, g.toInt = c.toInt / 6 ∧ dsR A B n.toInt ro g f ∧ ((f = -1 ∧ r = -1) ∨ (f ≠ -1 ∧ r.toInt = f.toInt + c.toInt % 6 + 1)))))
theorem wh_same {f g : Nat → Int32} {t c c2 : Int32} (h : ∀ j, j < 48 → f j = g j) (b : whu f t c) (b2 : whr g t c2) : c = c2 := by
  rcases b with ⟨rfl, b⟩ | ⟨j, hj, rfl, e, hu⟩
  · rcases b2 with ⟨rfl, b2⟩ | ⟨j, hj, rfl, e⟩
    · rfl
    · exact absurd ((h j hj).trans e) (b j hj)
  · rcases b2 with ⟨rfl, b2⟩ | ⟨k, hk, rfl, e2⟩
    · exact absurd ((h j hj).symm.trans e) (b2 j hj)
    · rw [hu k hk ((h k hk).trans e2)]
theorem spAsk_rel {few A B top mt : Nat → Int32} {doo n t ro r r2 : Int32} (hm : mtOK few) (R : doR few doo A B n) (ht : ∀ j, j < 48 → top j = mt j) (h1 : spAskC few top t ro r) (h2 : spAskM A B n mt t ro r2) : r = r2 := by
  rcases h1 with ⟨a, b⟩ | ⟨a, c, w, b⟩
  · rcases h2 with ⟨a2, b2⟩ | ⟨a2, b2⟩
    · rw [b, b2]
    · exfalso; omega
  · rcases h2 with ⟨a2, b2⟩ | ⟨a2, c2, w2, b2⟩
    · exfalso; omega
    · have ec := wh_same ht w w2
      subst ec
      rcases b with ⟨q, b⟩ | ⟨q, b⟩
      · rcases b2 with ⟨-, b2⟩ | ⟨q2, -⟩
        · rw [b, b2]
        · rw [q] at q2; exact absurd q2.1 (by decide)
      · rcases b2 with ⟨q2, -⟩ | ⟨-, f, g, eg, ds, b2⟩
        · rw [q2] at q; exact absurd q.1 (by decide)
        · have ef := ds few hm R.2
          rw [eg] at ef
          rw [← ef] at b
          rcases b with ⟨u, b⟩ | ⟨u, b⟩
          · rcases b2 with ⟨-, b2⟩ | ⟨u2, -⟩
            · rw [b, b2]
            · exact absurd u u2
          · rcases b2 with ⟨u2, -⟩ | ⟨-, b2⟩
            · exact absurd u2 u
            · exact Int32.toInt_inj.mp (b.trans b2.symm)
-- cost
def stF (top : Nat → Int32) (lo : Nat) : Nat → Int
  | 0 => 0
  | k + 1 => stF top lo k + (if top (lo + k) = -1 then 0 else 1)
theorem st_init {top : Nat → Int32} {lo N : Nat} {L : Int} (hL : L = 0) (hN : N = 0) : L = stF top lo N := by subst hN; exact hL
theorem st_step {top : Nat → Int32} {lo N N' : Nat} {o : Int32} {L R : Int} (h : L = stF top lo N) (ho : o.toNatClampNeg = lo + N) (hR : (top o.toNatClampNeg = -1 ∧ R = L) ∨ (¬ top o.toNatClampNeg = -1 ∧ R = L + 1)) (hN : N' = N + 1) : R = stF top lo N' := by
  subst hN
  show R = stF top lo N + (if top (lo + N) = -1 then 0 else 1)
  rw [ho] at hR
  rcases hR with ⟨a, b⟩ | ⟨a, b⟩
  · rw [if_pos a, ← h]; omega
  · rw [if_neg a, ← h]; exact b
theorem st_eq {t t2 : Nat → Int32} {lo : Nat} (h : ∀ j, j < 48 → t j = t2 j) : ∀ k, lo + k ≤ 48 → stF t lo k = stF t2 lo k
  | 0, _ => rfl
  | k + 1, hk => by
    show stF t lo k + (if t (lo + k) = -1 then 0 else 1) = stF t2 lo k + (if t2 (lo + k) = -1 then 0 else 1)
    rw [st_eq h k (by omega), h (lo + k) (by omega)]
def coC (few top : Nat → Int32) (ro r : Int32) : Prop := (few ro.toInt.toNat = -1 ∧ r = -1) ∨ (few ro.toInt.toNat ≠ -1 ∧ r.toInt = 2 * (few ro.toInt.toNat).toInt + stF top (ro.toInt * 6).toNat 6)
def coM (A B : Nat → Int32) (n : Int) (top : Nat → Int32) (ro r : Int32) : Prop := ∃ f : Int32, dsR A B n 0 ro f ∧ ((f = -1 ∧ r = -1) ∨ (f ≠ -1 ∧ r.toInt = 2 * f.toInt + stF top (ro.toInt * 6).toNat 6))
def spCstC (few top : Nat → Int32) (ro r : Int32) : Prop := ((ro.toInt < 0 ∨ 7 < ro.toInt) ∧ r = -2) ∨ ((0 ≤ ro.toInt ∧ ro.toInt ≤ 7) ∧ coC few top ro r)
def spCstM (A B : Nat → Int32) (n : Int32) (top : Nat → Int32) (ro r : Int32) : Prop := ((ro.toInt < 0 ∨ 7 < ro.toInt) ∧ r = -2) ∨ ((0 ≤ ro.toInt ∧ ro.toInt ≤ 7) ∧ coM A B n.toInt top ro r)
theorem co_rel {few A B top mt : Nat → Int32} {n : Int} {ro r r2 : Int32} (hm : mtOK few) (R : edR few A B n) (ht : ∀ j, j < 48 → top j = mt j) (hr : 0 ≤ ro.toInt ∧ ro.toInt ≤ 7) (h1 : coC few top ro r) (h2 : coM A B n mt ro r2) : r = r2 := by
  obtain ⟨f, ds, b2⟩ := h2
  have ef := ds few hm R
  rw [show (((0 : Int32)).toInt * 8 + ro.toInt).toNat = ro.toInt.toNat from by rw [Int32.toInt_zero]; omega] at ef
  unfold coC at h1
  rw [← ef] at h1
  rcases h1 with ⟨u, b⟩ | ⟨u, b⟩
  · rcases b2 with ⟨-, b2⟩ | ⟨u2, -⟩
    · rw [b, b2]
    · exact absurd u u2
  · rcases b2 with ⟨u2, -⟩ | ⟨-, b2⟩
    · exact absurd u2 u
    · rw [st_eq ht 6 (by omega)] at b
      exact Int32.toInt_inj.mp (b.trans b2.symm)
theorem spCst_rel {few A B top mt : Nat → Int32} {doo n ro r r2 : Int32} (hm : mtOK few) (R : doR few doo A B n) (ht : ∀ j, j < 48 → top j = mt j) (h1 : spCstC few top ro r) (h2 : spCstM A B n mt ro r2) : r = r2 := by
  rcases h1 with ⟨a, b⟩ | ⟨a, b⟩
  · rcases h2 with ⟨a2, b2⟩ | ⟨a2, b2⟩
    · rw [b, b2]
    · exfalso; omega
  · rcases h2 with ⟨a2, b2⟩ | ⟨a2, b2⟩
    · exfalso; omega
    · exact co_rel hm R.2 ht a b b2
theorem do_init {few A B : Nat → Int32} {doo n : Int32} (h : di0 few) (h1 : doo = 0) (h2 : n = 0) : doR few doo A B n := by
  subst h1; subst h2
  refine ⟨rfl, fun x y hx hy => ⟨fun q => ?_, fun ⟨k, hk, _⟩ => ?_⟩⟩
  · have w := h x y hx hy
    by_cases c : x = y
    · rw [if_pos c] at w
      unfold dd at q; rw [dv_nn (by omega)] at q; omega
    · rw [if_neg c] at w
      unfold dd at q; rw [dv_m1 w] at q; omega
  · rw [Int32.toInt_zero] at hk; omega
theorem fi8_init {F : Nat → Int32} {a : Int32} {i : Int} (hi : i = 0) : fi8 a i F := fun j hj => by omega
theorem jk_narrow {A B : Nat → Int32} {x y r : Int32} {k : Int} (h : jkI A B x y k r) : r = 0 ∨ r = 1 := h.imp (fun a => a.1) (fun a => a.1)
theorem st_end {top : Nat → Int32} {lo lo' N : Nat} {L : Int} (h : L = stF top lo N) (e1 : lo' = lo) (e2 : N = 6) : L = stF top lo' 6 := by subst e1; subst e2; exact h
theorem askC_n {few top : Nat → Int32} {t ro c : Int32} (h0 : 0 ≤ t.toInt ∧ t.toInt ≤ 23 ∧ 0 ≤ ro.toInt ∧ ro.toInt ≤ 7) (w : whu top t c) (hc : c = -1) : spAskC few top t ro (-1) := .inr ⟨h0, c, w, .inl ⟨hc, rfl⟩⟩
