-- ===== DOORS: the model's list =====
def eD (A B : Nat → Int32) (n : Int) (x y : Int) : Prop := ∃ k : Nat, (k : Int) < n ∧ (((A k).toInt = x ∧ (B k).toInt = y) ∨ ((A k).toInt = y ∧ (B k).toInt = x))
def edR (few A B : Nat → Int32) (n : Int) : Prop := ∀ x y : Nat, x < 8 → y < 8 → (dd few x y = 1 ↔ eD A B n x y)
def jkI (A B : Nat → Int32) (x y : Int32) (k : Int) (r : Int32) : Prop := (r = 0 ∧ ¬ eD A B k x.toInt y.toInt) ∨ (r = 1 ∧ eD A B k x.toInt y.toInt)
theorem jk_init {A B : Nat → Int32} {x y r : Int32} {k : Int} (hk : k = 0) (hr : r = 0) : jkI A B x y k r := .inl ⟨hr, fun ⟨q, hq, _⟩ => by omega⟩
theorem eD_mono {A B : Nat → Int32} {k k' x y : Int} (h : eD A B k x y) (hk : k ≤ k') : eD A B k' x y := by
  obtain ⟨q, hq, w⟩ := h; exact ⟨q, by omega, w⟩
theorem jk_was {A B : Nat → Int32} {x y r r' : Int32} {k k' : Int} (h : jkI A B x y k r) (hr : ¬ r = 0) (hr' : r' = 1) (hk : k' = k + 1) : jkI A B x y k' r' := by
  rcases h with ⟨a, -⟩ | ⟨-, b⟩
  · exact absurd a hr
  · exact .inr ⟨hr', eD_mono b (by omega)⟩
theorem jk_hit {A B : Nat → Int32} {x y c r' : Int32} {k' : Int} (h0 : 0 ≤ c.toInt) (h : ((A c.toNatClampNeg).toInt = x.toInt ∧ (B c.toNatClampNeg).toInt = y.toInt) ∨ ((A c.toNatClampNeg).toInt = y.toInt ∧ (B c.toNatClampNeg).toInt = x.toInt)) (hr' : r' = 1) (hk : k' = c.toInt + 1) : jkI A B x y k' r' :=
  .inr ⟨hr', c.toNatClampNeg, by rw [clC (x := c) rfl]; omega, h⟩
theorem jk_miss {A B : Nat → Int32} {x y c r r' : Int32} {k' : Int} (h : jkI A B x y c.toInt r) (hr : r = 0) (h0 : 0 ≤ c.toInt) (hn : ¬ (((A c.toNatClampNeg).toInt = x.toInt ∧ (B c.toNatClampNeg).toInt = y.toInt) ∨ ((A c.toNatClampNeg).toInt = y.toInt ∧ (B c.toNatClampNeg).toInt = x.toInt))) (hr' : r' = 0) (hk : k' = c.toInt + 1) : jkI A B x y k' r' := by
  rcases h with ⟨-, b⟩ | ⟨a, -⟩
  · refine .inl ⟨hr', fun ⟨q, hq, w⟩ => ?_⟩
    by_cases e : q = c.toNatClampNeg
    · subst e; exact hn w
    · have := clC (x := c) rfl
      exact b ⟨q, by omega, w⟩
  · rw [a] at hr; exact absurd hr (by decide)
theorem jk_alt {A B : Nat → Int32} {x y r : Int32} {k n : Int} (h : jkI A B x y k r) (h1 : k = n) : (r = 1 ∧ eD A B n x.toInt y.toInt) ∨ (r = 0 ∧ ¬ eD A B n x.toInt y.toInt) := by
  subst h1; exact h.symm
-- the model's way
def fi8 (a : Int32) (i : Int) (F : Nat → Int32) : Prop := ∀ j : Nat, (j : Int) < i → (F j).toInt = (if (j : Int) = a.toInt then 0 else 100)
theorem fi8_step {F F2 : Nat → Int32} {a y v : Int32} {i : Int} (q : fi8 a y.toInt F) (e : F2 = upd F y.toNatClampNeg v) (h0 : 0 ≤ y.toInt) (hv : (y.toInt = a.toInt ∧ v.toInt = 0) ∨ (y.toInt ≠ a.toInt ∧ v.toInt = 100)) (hi : i = y.toInt + 1) : fi8 a i F2 := by
  subst hi; subst e
  have ey := clC (x := y) rfl
  intro j hj
  by_cases c : j = y.toNatClampNeg
  · subst c
    rw [pk_us]
    rcases hv with h | h
    · rw [if_pos (by omega)]; exact h.2
    · rw [if_neg (by omega)]; exact h.2
  · rw [pk_un c]; exact q j (by omega)
def dtI (A B : Nat → Int32) (n : Int) (a : Nat) (t : Int) (F : Nat → Int32) : Prop := rg 8 0 100 F ∧ ∀ few : Nat → Int32, mtOK few → edR few A B n → (∀ j : Nat, j < 8 → dd few a j ≤ (F j).toInt) ∧ (∀ j : Nat, j < 8 → dd few a j ≤ t → (F j).toInt ≤ dd few a j)
theorem dt_init {A B F : Nat → Int32} {n i t : Int} {a : Int32} (q : fi8 a i F) (hi : 8 ≤ i) (ha : 0 ≤ a.toInt ∧ a.toInt ≤ 7) (ht : t = 0) : dtI A B n a.toInt.toNat t F := by
  subst ht
  have w : ∀ j : Nat, j < 8 → (F j).toInt = (if (j : Int) = a.toInt then 0 else 100) := fun j hj => q j (by omega)
  refine ⟨fun j hj => ?_, fun few hm he => ⟨fun j hj => ?_, fun j hj hd => ?_⟩⟩
  · rw [w j hj]
    by_cases c : (j : Int) = a.toInt
    · rw [if_pos c]; omega
    · rw [if_neg c]; omega
  · rw [w j hj]
    have m1 := (hm.2 a.toInt.toNat j (by omega) hj).1
    have m2 := (hm.2 a.toInt.toNat j (by omega) hj).2.1
    by_cases c : (j : Int) = a.toInt
    · rw [if_pos c, m2.mpr (by omega)]; omega
    · rw [if_neg c]; omega
  · have m1 := (hm.2 a.toInt.toNat j (by omega) hj).1.1
    have m2 := (hm.2 a.toInt.toNat j (by omega) hj).2.1
    have z : dd few a.toInt.toNat j = 0 := by omega
    have e := m2.mp z
    rw [w j hj, if_pos (by omega), z]; omega
def dkI (A B : Nat → Int32) (n : Int) (a : Nat) (k : Int) (F0 F : Nat → Int32) : Prop := (∀ j : Nat, j < 8 → 0 ≤ (F j).toInt ∧ (F j).toInt ≤ (F0 j).toInt) ∧ (∀ few : Nat → Int32, mtOK few → edR few A B n → ∀ j : Nat, j < 8 → dd few a j ≤ (F j).toInt) ∧ (∀ q : Nat, (q : Int) < k → (F (B q).toNatClampNeg).toInt ≤ (F0 (A q).toNatClampNeg).toInt + 1 ∧ (F (A q).toNatClampNeg).toInt ≤ (F0 (B q).toNatClampNeg).toInt + 1)
theorem dk_init {A B F : Nat → Int32} {n t k : Int} {a : Nat} (q : dtI A B n a t F) (hk : k = 0) : dkI A B n a k F F := ⟨fun j hj => ⟨(q.1 j hj).1, Int.le_refl _⟩, fun few hm he => (q.2 few hm he).1, fun q hq => by omega⟩
theorem dk_rg {A B F0 F : Nat → Int32} {n t k : Int} {a : Nat} (q0 : dtI A B n a t F0) (q : dkI A B n a k F0 F) : rg 8 0 100 F := fun j hj => ⟨(q.1 j hj).1, by have := (q.1 j hj).2; have := (q0.1 j hj).2; omega⟩
theorem rg_of {n : Nat} {lo hi : Int} {f g : Nat → Int32} {k : Nat} {v : Int32} (h : rg n lo hi f) (e : g = upd f k v) (h1 : lo ≤ v.toInt) (h2 : v.toInt ≤ hi) : rg n lo hi g := by subst e; exact rg_upd h rfl h1 h2
theorem dk_step {A B F0 F F1 F2 : Nat → Int32} {n k k' t : Int} {a : Nat} {c x y v w : Int32} (ha : a < 8) (hA : rg 14 0 7 A) (hB : rg 14 0 7 B) (q0 : dtI A B n a t F0) (q : dkI A B n a k F0 F) (hk : k = c.toInt) (hc : 0 ≤ c.toInt) (hcn : c.toInt < n) (hn : n ≤ 14) (ex : x = A c.toNatClampNeg) (ey : y = B c.toNatClampNeg) (e1 : F1 = upd F x.toNatClampNeg v) (hv : v.toInt = min ((F y.toNatClampNeg).toInt + 1) (F x.toNatClampNeg).toInt) (e2 : F2 = upd F1 y.toNatClampNeg w) (hw : w.toInt = min ((F1 x.toNatClampNeg).toInt + 1) (F1 y.toNatClampNeg).toInt) (hk' : k' = c.toInt + 1) : dkI A B n a k' F0 F2 := by
  subst hk; subst hk'
  have ec := clC (x := c) rfl
  have rx := hA c.toNatClampNeg (by omega)
  have ry := hB c.toNatClampNeg (by omega)
  rw [← ex] at rx; rw [← ey] at ry
  have cx := clC (x := x) rfl
  have cy := clC (x := y) rfl
  have x8 : x.toNatClampNeg < 8 := by omega
  have y8 : y.toNatClampNeg < 8 := by omega
  have f1x : F1 x.toNatClampNeg = v := by rw [e1, pk_us]
  have f1 : ∀ j : Nat, j < 8 → 0 ≤ (F1 j).toInt ∧ (F1 j).toInt ≤ (F j).toInt := by
    intro j hj
    by_cases c : j = x.toNatClampNeg
    · subst c; rw [f1x]; have := (q.1 _ x8).1; have := (q.1 _ y8).1; omega
    · rw [e1, pk_un c]; exact ⟨(q.1 j hj).1, Int.le_refl _⟩
  have f2y : F2 y.toNatClampNeg = w := by rw [e2, pk_us]
  have f2 : ∀ j : Nat, j < 8 → 0 ≤ (F2 j).toInt ∧ (F2 j).toInt ≤ (F1 j).toInt := by
    intro j hj
    by_cases c : j = y.toNatClampNeg
    · subst c; rw [f2y]; have := (f1 _ x8).1; have := (f1 _ y8).1; omega
    · rw [e2, pk_un c]; exact ⟨(f1 j hj).1, Int.le_refl _⟩
  refine ⟨fun j hj => ?_, fun few hm he j hj => ?_, fun p hp => ?_⟩
  · have := f1 j hj; have := f2 j hj; have := q.1 j hj; omega
  · have lo := q.2.1 few hm he
    have ed : dd few x.toNatClampNeg y.toNatClampNeg = 1 := (he _ _ x8 y8).mpr ⟨c.toNatClampNeg, by omega, Or.inl ⟨by rw [← ex]; omega, by rw [← ey]; omega⟩⟩
    have ed2 : dd few y.toNatClampNeg x.toNatClampNeg = 1 := by rw [← (hm.2 _ _ x8 y8).2.2.1]; exact ed
    have tx := (hm.2 a x.toNatClampNeg ha x8).2.2.2.1 y.toNatClampNeg y8
    have ty := (hm.2 a y.toNatClampNeg ha y8).2.2.2.1 x.toNatClampNeg x8
    have lx := lo _ x8
    have ly := lo _ y8
    have lo1 : ∀ j : Nat, j < 8 → dd few a j ≤ (F1 j).toInt := by
      intro j hj
      by_cases c : j = x.toNatClampNeg
      · subst c; rw [f1x]; omega
      · rw [e1, pk_un c]; exact lo j hj
    have l1x := lo1 _ x8
    have l1y := lo1 _ y8
    by_cases c : j = y.toNatClampNeg
    · subst c; rw [f2y]; omega
    · rw [e2, pk_un c]; exact lo1 j hj
  · by_cases c' : p = c.toNatClampNeg
    · subst c'
      rw [← ex, ← ey]
      have g1 := f2 _ x8
      have g2 := f1 _ x8
      have g3 := (q.1 _ x8).2
      have g4 := (q.1 _ y8).2
      have g5 := f1 _ y8
      rw [f2y]
      have g6 := f1x
      rw [f1x] at hw g1
      omega
    · have w0 := q.2.2 p (by omega)
      have ap := hA p (by omega)
      have bp := hB p (by omega)
      have pa : (A p).toNatClampNeg < 8 := by rw [clC (x := A p) rfl]; omega
      have pb : (B p).toNatClampNeg < 8 := by rw [clC (x := B p) rfl]; omega
      have := f1 _ pa; have := f2 _ pa; have := f1 _ pb; have := f2 _ pb
      omega
theorem dk_end {A B F0 F : Nat → Int32} {n k t t' : Int} {a : Nat} (ha : a < 8) (hA : rg 14 0 7 A) (hB : rg 14 0 7 B) (hn : n ≤ 14) (q0 : dtI A B n a t F0) (q : dkI A B n a k F0 F) (hk : n ≤ k) (ht0 : 0 ≤ t) (ht : t' = t + 1) : dtI A B n a t' F := by
  subst ht
  refine ⟨dk_rg q0 q, fun few hm he => ⟨q.2.1 few hm he, fun j hj hd => ?_⟩⟩
  have up0 := (q0.2 few hm he).2
  have qj := q.1 j hj
  by_cases c : dd few a j ≤ t
  · have := up0 j hj c; omega
  · have m1 := (hm.2 a j ha hj).1.2
    have edge : ∀ z : Nat, z < 8 → dd few z j = 1 → dd few a z ≤ t → (F j).toInt ≤ dd few a z + 1 := by
      intro z hz e1 e2
      obtain ⟨p, hp, w⟩ := (he z j hz hj).mp e1
      have qp := q.2.2 p (by omega)
      have := up0 z hz e2
      rcases w with ⟨w1, w2⟩ | ⟨w1, w2⟩
      · rw [clC w1, clC w2] at qp
        have q1 := qp.1
        rw [show ((z : Int)).toNat = z by omega, show ((j : Int)).toNat = j by omega] at q1
        omega
      · rw [clC w1, clC w2] at qp
        have q1 := qp.2
        rw [show ((z : Int)).toNat = z by omega, show ((j : Int)).toNat = j by omega] at q1
        omega
    by_cases c1 : dd few a j = 1
    · have za : dd few a a = 0 := (hm.2 a a ha ha).2.1.mpr rfl
      have := edge a ha c1 (by omega)
      omega
    · rcases m1 with h7 | h7
      · obtain ⟨z, hz, e1, e2⟩ := (hm.2 a j ha hj).2.2.2.2 (by omega) h7
        have := edge z hz e2 (by omega)
        omega
      · have := (dk_rg q0 q j hj).2; omega
def dsR (A B : Nat → Int32) (n : Int) (x y r : Int32) : Prop := ∀ few : Nat → Int32, mtOK few → edR few A B n → r = few (x.toInt * 8 + y.toInt).toNat
theorem ds_no {A B F : Nat → Int32} {n t : Int} {x y : Int32} (q : dtI A B n x.toInt.toNat t F) (hx : 0 ≤ x.toInt ∧ x.toInt ≤ 7) (hy : 0 ≤ y.toInt ∧ y.toInt ≤ 7) (ht : 8 ≤ t) (hF : 100 ≤ (F y.toNatClampNeg).toInt) : dsR A B n x y (-1) := by
  intro few hm he
  have w := q.2 few hm he
  have m1 := (hm.2 x.toInt.toNat y.toInt.toNat (by omega) (by omega)).1
  have r := hm.1 x.toInt.toNat y.toInt.toNat (by omega) (by omega)
  rw [clC (x := y) rfl] at hF
  have u := w.2 y.toInt.toNat (by omega)
  have ei : (x.toInt * 8 + y.toInt).toNat = x.toInt.toNat * 8 + y.toInt.toNat := by omega
  rw [ei]
  apply Int32.toInt_inj.mp
  rw [show ((-1 : Int32)).toInt = -1 from rfl]
  unfold dd dv at m1 u
  by_cases c : (few (x.toInt.toNat * 8 + y.toInt.toNat)).toInt = -1
  · exact c.symm
  · rw [if_neg c] at m1 u; omega
theorem ds_yes {A B F : Nat → Int32} {n t : Int} {x y r : Int32} (q : dtI A B n x.toInt.toNat t F) (hx : 0 ≤ x.toInt ∧ x.toInt ≤ 7) (hy : 0 ≤ y.toInt ∧ y.toInt ≤ 7) (ht : 8 ≤ t) (hr : r = F y.toNatClampNeg) (hF : (F y.toNatClampNeg).toInt < 100) : dsR A B n x y r := by
  intro few hm he
  have w := q.2 few hm he
  have m1 := (hm.2 x.toInt.toNat y.toInt.toNat (by omega) (by omega)).1
  have r := hm.1 x.toInt.toNat y.toInt.toNat (by omega) (by omega)
  rw [hr]
  rw [clC (x := y) rfl] at hF ⊢
  have u := w.2 y.toInt.toNat (by omega)
  have l := w.1 y.toInt.toNat (by omega)
  have ei : (x.toInt * 8 + y.toInt).toNat = x.toInt.toNat * 8 + y.toInt.toNat := by omega
  rw [ei]
  apply Int32.toInt_inj.mp
  unfold dd dv at m1 u l
  by_cases c : (few (x.toInt.toNat * 8 + y.toInt.toNat)).toInt = -1
  · rw [if_pos c] at l; omega
  · rw [if_neg c] at m1 u l; omega
-- door, away
def spDorC (few : Nat → Int32) (doo x y r : Int32) (few' : Nat → Int32) (doo' : Int32) : Prop := ((x.toInt < 0 ∨ 7 < x.toInt ∨ y.toInt < 0 ∨ 7 < y.toInt ∨ x.toInt = y.toInt) ∧ r = -2 ∧ few' = few ∧ doo' = doo) ∨ ((0 ≤ x.toInt ∧ x.toInt ≤ 7 ∧ 0 ≤ y.toInt ∧ y.toInt ≤ 7 ∧ x.toInt ≠ y.toInt) ∧ (((few (x.toInt * 8 + y.toInt).toNat).toInt = 1 ∧ r = -4 ∧ few' = few ∧ doo' = doo) ∨ ((few (x.toInt * 8 + y.toInt).toNat).toInt ≠ 1 ∧ ((14 ≤ doo.toInt ∧ r = -5 ∧ few' = few ∧ doo' = doo) ∨ (doo.toInt < 14 ∧ r = doo + 1 ∧ doo' = doo + 1 ∧ jnS few x y few')))))
def spDorM (A B : Nat → Int32) (n x y r : Int32) (A' B' : Nat → Int32) (n' : Int32) : Prop := ((x.toInt < 0 ∨ 7 < x.toInt ∨ y.toInt < 0 ∨ 7 < y.toInt ∨ x.toInt = y.toInt) ∧ r = -2 ∧ A' = A ∧ B' = B ∧ n' = n) ∨ ((0 ≤ x.toInt ∧ x.toInt ≤ 7 ∧ 0 ≤ y.toInt ∧ y.toInt ≤ 7 ∧ x.toInt ≠ y.toInt) ∧ ((eD A B n.toInt x.toInt y.toInt ∧ r = -4 ∧ A' = A ∧ B' = B ∧ n' = n) ∨ (¬ eD A B n.toInt x.toInt y.toInt ∧ ((14 ≤ n.toInt ∧ r = -5 ∧ A' = A ∧ B' = B ∧ n' = n) ∨ (n.toInt < 14 ∧ r = n + 1 ∧ n' = n + 1 ∧ A' = upd A n.toNatClampNeg x ∧ B' = upd B n.toNatClampNeg y)))))
def doR (few : Nat → Int32) (doo : Int32) (A B : Nat → Int32) (n : Int32) : Prop := doo = n ∧ edR few A B n.toInt
theorem one_dd {few : Nat → Int32} {x y : Int32} (h0 : 0 ≤ x.toInt ∧ 0 ≤ y.toInt) : ((few (x.toInt * 8 + y.toInt).toNat).toInt = 1 ↔ dd few x.toInt.toNat y.toInt.toNat = 1) := by
  have ei : (x.toInt * 8 + y.toInt).toNat = x.toInt.toNat * 8 + y.toInt.toNat := by omega
  rw [ei]
  unfold dd dv
  by_cases c : (few (x.toInt.toNat * 8 + y.toInt.toNat)).toInt = -1
  · rw [if_pos c, c]; exact ⟨fun q => by omega, fun q => by omega⟩
  · rw [if_neg c]
theorem spDor_rel {few few' A B A' B' : Nat → Int32} {doo doo' n n' x y r r2 : Int32} (hm : mtOK few) (hn : 0 ≤ n.toInt ∧ n.toInt ≤ 14) (R : doR few doo A B n) (h1 : spDorC few doo x y r few' doo') (h2 : spDorM A B n x y r2 A' B' n') : r = r2 ∧ doR few' doo' A' B' n' := by
  obtain ⟨rd, re⟩ := R
  subst rd
  have R : doR few doo A B doo := ⟨rfl, re⟩
  rcases h1 with ⟨a, b, e1, e2⟩ | ⟨a, b⟩
  · rcases h2 with ⟨a2, b2, d1, d2, d3⟩ | ⟨a2, b2⟩
    · rw [b, b2, e1, e2, d1, d2, d3]; exact ⟨rfl, R⟩
    · exfalso; omega
  · rcases h2 with ⟨a2, b2⟩ | ⟨a2, b2⟩
    · exfalso; omega
    · have ek : (few (x.toInt * 8 + y.toInt).toNat).toInt = 1 ↔ eD A B doo.toInt x.toInt y.toInt := by
        rw [one_dd ⟨by omega, by omega⟩, re _ _ (by omega) (by omega), show ((x.toInt.toNat : Nat) : Int) = x.toInt by omega, show ((y.toInt.toNat : Nat) : Int) = y.toInt by omega]
      rcases b with ⟨j, b, e1, e2⟩ | ⟨j, b⟩
      · rcases b2 with ⟨j2, b2, d1, d2, d3⟩ | ⟨j2, -⟩
        · rw [b, b2, e1, e2, d1, d2, d3]; exact ⟨rfl, R⟩
        · exact absurd (ek.mp j) j2
      · rcases b2 with ⟨j2, -⟩ | ⟨j2, b2⟩
        · exact absurd (ek.mpr j2) j
        · rcases b with ⟨f, b, e1, e2⟩ | ⟨f, b, e1, s⟩
          · rcases b2 with ⟨f2, b2, d1, d2, d3⟩ | ⟨f2, -⟩
            · rw [b, b2, e1, e2, d1, d2, d3]; exact ⟨rfl, R⟩
            · exfalso; omega
          · rcases b2 with ⟨f2, -⟩ | ⟨f2, b2, d1, d2, d3⟩
            · exfalso; omega
            · rw [b, b2, e1, d1, d2, d3]
              refine ⟨rfl, rfl, fun p q hp hq => ?_⟩
              have en : (doo + 1).toInt = doo.toInt + 1 := addC rfl (show (1 : Int32).toInt = 1 from rfl) (by omega) (by omega)
              rw [en, s p q hp hq]
              have cn := clC (x := doo) rfl
              have mm : met (dd few) := hm.2
              have mpq0 := (mm p q hp hq).1.1
              have mpq1 := fun (_ : Unit) => (mm p q hp hq).2.1
              have a8 : x.toInt.toNat < 8 := by omega
              have b8 : y.toInt.toNat < 8 := by omega
              have nn1 := (mm p x.toInt.toNat hp a8).1.1
              have zz1 := fun (_ : Unit) => (mm p x.toInt.toNat hp a8).2.1
              have nn2 := (mm y.toInt.toNat q b8 hq).1.1
              have zz2 := fun (_ : Unit) => (mm y.toInt.toNat q b8 hq).2.1
              have nn3 := (mm p y.toInt.toNat hp b8).1.1
              have zz3 := fun (_ : Unit) => (mm p y.toInt.toNat hp b8).2.1
              have nn4 := (mm x.toInt.toNat q a8 hq).1.1
              have zz4 := fun (_ : Unit) => (mm x.toInt.toNat q a8 hq).2.1
              refine ⟨fun g => ?_, fun g => ?_⟩
              · by_cases c : dd few p q = 1
                · obtain ⟨k, hk, w⟩ := (re p q hp hq).mp c
                  refine ⟨k, by omega, ?_⟩
                  rw [pk_un (by omega), pk_un (by omega)]; exact w
                · have g' := g
                  unfold mn at g'
                  have pq0 : dd few p q ≠ 0 := fun z => by omega
                  have cs : (dd few p x.toInt.toNat = 0 ∧ dd few y.toInt.toNat q = 0) ∨ (dd few p y.toInt.toNat = 0 ∧ dd few x.toInt.toNat q = 0) := by
                    omega
                  refine ⟨doo.toNatClampNeg, by omega, ?_⟩
                  rw [pk_us, pk_us]
                  rcases cs with ⟨z1, z2⟩ | ⟨z1, z2⟩
                  · have w1 := (zz1 ()).mp z1
                    have w2 := (zz2 ()).mp z2
                    exact .inl ⟨by omega, by omega⟩
                  · have w1 := (zz3 ()).mp z1
                    have w2 := (zz4 ()).mp z2
                    exact .inr ⟨by omega, by omega⟩
              · obtain ⟨k, hk, w⟩ := g
                by_cases c : k = doo.toNatClampNeg
                · subst c
                  rw [pk_us, pk_us] at w
                  have pq0 : dd few p q ≠ 0 := fun z => by
                    have := (mpq1 ()).mp z
                    rcases w with ⟨w1, w2⟩ | ⟨w1, w2⟩ <;> omega
                  rcases w with ⟨w1, w2⟩ | ⟨w1, w2⟩
                  · have z1 := (zz1 ()).mpr (by omega)
                    have z2 := (zz2 ()).mpr (by omega)
                    unfold mn; omega
                  · have z1 := (zz3 ()).mpr (by omega)
                    have z2 := (zz4 ()).mpr (by omega)
                    unfold mn; omega
                · rw [pk_un c, pk_un c] at w
                  have z := (re p q hp hq).mpr ⟨k, by omega, w⟩
                  unfold mn; omega
def spAwyC (few : Nat → Int32) (x y r : Int32) : Prop := ((x.toInt < 0 ∨ 7 < x.toInt ∨ y.toInt < 0 ∨ 7 < y.toInt) ∧ r = -2) ∨ ((0 ≤ x.toInt ∧ x.toInt ≤ 7 ∧ 0 ≤ y.toInt ∧ y.toInt ≤ 7) ∧ r = few (x.toInt * 8 + y.toInt).toNat)
def spAwyM (A B : Nat → Int32) (n x y r : Int32) : Prop := ((x.toInt < 0 ∨ 7 < x.toInt ∨ y.toInt < 0 ∨ 7 < y.toInt) ∧ r = -2) ∨ ((0 ≤ x.toInt ∧ x.toInt ≤ 7 ∧ 0 ≤ y.toInt ∧ y.toInt ≤ 7) ∧ dsR A B n.toInt x y r)
theorem spAwy_rel {few A B : Nat → Int32} {doo n x y r r2 : Int32} (hm : mtOK few) (R : doR few doo A B n) (h1 : spAwyC few x y r) (h2 : spAwyM A B n x y r2) : r = r2 := by
  rcases h1 with ⟨a, b⟩ | ⟨a, b⟩
  · rcases h2 with ⟨a2, b2⟩ | ⟨a2, b2⟩
    · rw [b, b2]
    · exfalso; omega
  · rcases h2 with ⟨a2, b2⟩ | ⟨a2, b2⟩
    · exfalso; omega
    · rw [b, b2 few hm R.2]
-- asked
def spAskC (few top : Nat → Int32) (t ro r : Int32) : Prop := ((t.toInt < 0 ∨ 23 < t.toInt ∨ ro.toInt < 0 ∨ 7 < ro.toInt) ∧ r = -2) ∨ ((0 ≤ t.toInt ∧ t.toInt ≤ 23 ∧ 0 ≤ ro.toInt ∧ ro.toInt ≤ 7) ∧ ∃ c : Int32, whu top t c ∧ ((c = -1 ∧ r = -1) ∨ ((0 ≤ c.toInt ∧ c.toInt ≤ 47) ∧ ((few (ro.toInt * 8 + c.toInt / 6).toNat = -1 ∧ r = -1) ∨ (few (ro.toInt * 8 + c.toInt / 6).toNat ≠ -1 ∧ r.toInt = (few (ro.toInt * 8 + c.toInt / 6).toNat).toInt + c.toInt % 6 + 1)))))
def spAskM (A B : Nat → Int32) (n : Int32) (top : Nat → Int32) (t ro r : Int32) : Prop := ((t.toInt < 0 ∨ 23 < t.toInt ∨ ro.toInt < 0 ∨ 7 < ro.toInt) ∧ r = -2) ∨ ((0 ≤ t.toInt ∧ t.toInt ≤ 23 ∧ 0 ≤ ro.toInt ∧ ro.toInt ≤ 7) ∧ ∃ c : Int32, whr top t c ∧ ((c = -1 ∧ r = -1) ∨ ((0 ≤ c.toInt ∧ c.toInt ≤ 47) ∧ ∃ f g : Int32, g.toInt = c.toInt / 6 ∧ dsR A B n.toInt ro g f ∧ ((f = -1 ∧ r = -1) ∨ (f ≠ -1 ∧ r.toInt = f.toInt + c.toInt % 6 + 1)))))
theorem wh_same {f g : Nat → Int32} {t c c2 : Int32} (h : ∀ j, j < 48 → f j = g j) (b : whu f t c) (b2 : whr g t c2) : c = c2 := by
  rcases b with ⟨rfl, b⟩ | ⟨j, hj, rfl, e, hu⟩
  · rcases b2 with ⟨rfl, b2⟩ | ⟨j, hj, rfl, e⟩
    · rfl
    · exact absurd ((h j hj).trans e) (b j hj)
  · rcases b2 with ⟨rfl, b2⟩ | ⟨k, hk, rfl, e2⟩
    · exact absurd ((h j hj).symm.trans e) (b2 j hj)
    · rw [hu k hk ((h k hk).trans e2)]
theorem spAsk_rel {few A B top mt : Nat → Int32} {doo n t ro r r2 : Int32} (hm : mtOK few) (R : doR few doo A B n) (ht : ∀ j, j < 48 → top j = mt j) (h1 : spAskC few top t ro r) (h2 : spAskM A B n mt t ro r2) : r = r2 := by
  rcases h1 with ⟨a, b⟩ | ⟨a, c, w, b⟩
  · rcases h2 with ⟨a2, b2⟩ | ⟨a2, b2⟩
    · rw [b, b2]
    · exfalso; omega
  · rcases h2 with ⟨a2, b2⟩ | ⟨a2, c2, w2, b2⟩
    · exfalso; omega
    · have ec := wh_same ht w w2
      subst ec
      rcases b with ⟨q, b⟩ | ⟨q, b⟩
      · rcases b2 with ⟨-, b2⟩ | ⟨q2, -⟩
        · rw [b, b2]
        · rw [q] at q2; exact absurd q2.1 (by decide)
      · rcases b2 with ⟨q2, -⟩ | ⟨-, f, g, eg, ds, b2⟩
        · rw [q2] at q; exact absurd q.1 (by decide)
        · have ef := ds few hm R.2
          rw [eg] at ef
          rw [← ef] at b
          rcases b with ⟨u, b⟩ | ⟨u, b⟩
          · rcases b2 with ⟨-, b2⟩ | ⟨u2, -⟩
            · rw [b, b2]
            · exact absurd u u2
          · rcases b2 with ⟨u2, -⟩ | ⟨-, b2⟩
            · exact absurd u2 u
            · exact Int32.toInt_inj.mp (b.trans b2.symm)
-- cost
def stF (top : Nat → Int32) (lo : Nat) : Nat → Int
  | 0 => 0
  | k + 1 => stF top lo k + (if top (lo + k) = -1 then 0 else 1)
theorem st_init {top : Nat → Int32} {lo N : Nat} {L : Int} (hL : L = 0) (hN : N = 0) : L = stF top lo N := by subst hN; exact hL
theorem st_step {top : Nat → Int32} {lo N N' : Nat} {o : Int32} {L R : Int} (h : L = stF top lo N) (ho : o.toNatClampNeg = lo + N) (hR : (top o.toNatClampNeg = -1 ∧ R = L) ∨ (¬ top o.toNatClampNeg = -1 ∧ R = L + 1)) (hN : N' = N + 1) : R = stF top lo N' := by
  subst hN
  show R = stF top lo N + (if top (lo + N) = -1 then 0 else 1)
  rw [ho] at hR
  rcases hR with ⟨a, b⟩ | ⟨a, b⟩
  · rw [if_pos a, ← h]; omega
  · rw [if_neg a, ← h]; exact b
theorem st_eq {t t2 : Nat → Int32} {lo : Nat} (h : ∀ j, j < 48 → t j = t2 j) : ∀ k, lo + k ≤ 48 → stF t lo k = stF t2 lo k
  | 0, _ => rfl
  | k + 1, hk => by
    show stF t lo k + (if t (lo + k) = -1 then 0 else 1) = stF t2 lo k + (if t2 (lo + k) = -1 then 0 else 1)
    rw [st_eq h k (by omega), h (lo + k) (by omega)]
def coC (few top : Nat → Int32) (ro r : Int32) : Prop := (few ro.toInt.toNat = -1 ∧ r = -1) ∨ (few ro.toInt.toNat ≠ -1 ∧ r.toInt = 2 * (few ro.toInt.toNat).toInt + stF top (ro.toInt * 6).toNat 6)
def coM (A B : Nat → Int32) (n : Int) (top : Nat → Int32) (ro r : Int32) : Prop := ∃ f : Int32, dsR A B n 0 ro f ∧ ((f = -1 ∧ r = -1) ∨ (f ≠ -1 ∧ r.toInt = 2 * f.toInt + stF top (ro.toInt * 6).toNat 6))
def spCstC (few top : Nat → Int32) (ro r : Int32) : Prop := ((ro.toInt < 0 ∨ 7 < ro.toInt) ∧ r = -2) ∨ ((0 ≤ ro.toInt ∧ ro.toInt ≤ 7) ∧ coC few top ro r)
def spCstM (A B : Nat → Int32) (n : Int32) (top : Nat → Int32) (ro r : Int32) : Prop := ((ro.toInt < 0 ∨ 7 < ro.toInt) ∧ r = -2) ∨ ((0 ≤ ro.toInt ∧ ro.toInt ≤ 7) ∧ coM A B n.toInt top ro r)
theorem co_rel {few A B top mt : Nat → Int32} {n : Int} {ro r r2 : Int32} (hm : mtOK few) (R : edR few A B n) (ht : ∀ j, j < 48 → top j = mt j) (hr : 0 ≤ ro.toInt ∧ ro.toInt ≤ 7) (h1 : coC few top ro r) (h2 : coM A B n mt ro r2) : r = r2 := by
  obtain ⟨f, ds, b2⟩ := h2
  have ef := ds few hm R
  rw [show (((0 : Int32)).toInt * 8 + ro.toInt).toNat = ro.toInt.toNat from by rw [Int32.toInt_zero]; omega] at ef
  unfold coC at h1
  rw [← ef] at h1
  rcases h1 with ⟨u, b⟩ | ⟨u, b⟩
  · rcases b2 with ⟨-, b2⟩ | ⟨u2, -⟩
    · rw [b, b2]
    · exact absurd u u2
  · rcases b2 with ⟨u2, -⟩ | ⟨-, b2⟩
    · exact absurd u2 u
    · rw [st_eq ht 6 (by omega)] at b
      exact Int32.toInt_inj.mp (b.trans b2.symm)
theorem spCst_rel {few A B top mt : Nat → Int32} {doo n ro r r2 : Int32} (hm : mtOK few) (R : doR few doo A B n) (ht : ∀ j, j < 48 → top j = mt j) (h1 : spCstC few top ro r) (h2 : spCstM A B n mt ro r2) : r = r2 := by
  rcases h1 with ⟨a, b⟩ | ⟨a, b⟩
  · rcases h2 with ⟨a2, b2⟩ | ⟨a2, b2⟩
    · rw [b, b2]
    · exfalso; omega
  · rcases h2 with ⟨a2, b2⟩ | ⟨a2, b2⟩
    · exfalso; omega
    · exact co_rel hm R.2 ht a b b2
theorem do_init {few A B : Nat → Int32} {doo n : Int32} (h : di0 few) (h1 : doo = 0) (h2 : n = 0) : doR few doo A B n := by
  subst h1; subst h2
  refine ⟨rfl, fun x y hx hy => ⟨fun q => ?_, fun ⟨k, hk, _⟩ => ?_⟩⟩
  · have w := h x y hx hy
    by_cases c : x = y
    · rw [if_pos c] at w
      unfold dd at q; rw [dv_nn (by omega)] at q; omega
    · rw [if_neg c] at w
      unfold dd at q; rw [dv_m1 w] at q; omega
  · rw [Int32.toInt_zero] at hk; omega
theorem fi8_init {F : Nat → Int32} {a : Int32} {i : Int} (hi : i = 0) : fi8 a i F := fun j hj => by omega
theorem jk_narrow {A B : Nat → Int32} {x y r : Int32} {k : Int} (h : jkI A B x y k r) : r = 0 ∨ r = 1 := h.imp (fun a => a.1) (fun a => a.1)
theorem st_end {top : Nat → Int32} {lo lo' N : Nat} {L : Int} (h : L = stF top lo N) (e1 : lo' = lo) (e2 : N = 6) : L = stF top lo' 6 := by subst e1; subst e2; exact h
theorem askC_n {few top : Nat → Int32} {t ro c : Int32} (h0 : 0 ≤ t.toInt ∧ t.toInt ≤ 23 ∧ 0 ≤ ro.toInt ∧ ro.toInt ≤ 7) (w : whu top t c) (hc : c = -1) : spAskC few top t ro (-1) := .inr ⟨h0, c, w, .inl ⟨hc, rfl⟩⟩
theorem askC_no {few top : Nat → Int32} {t ro c f z : Int32} (h0 : 0 ≤ t.toInt ∧ t.toInt ≤ 23 ∧ 0 ≤ ro.toInt ∧ ro.toInt ≤ 7) (w : whu top t c) (hc : 0 ≤ c.toInt ∧ c.toInt ≤ 47) (e : f = few (ro.toInt * 8 + z.toInt).toNat) (hz : z.toInt = c.toInt / 6) (hf : f = -1) : spAskC few top t ro (-1) := .inr ⟨h0, c, w, .inr ⟨hc, .inl ⟨by rw [← hz, ← e]; exact hf, rfl⟩⟩⟩
theorem askC_ok {few top : Nat → Int32} {t ro c f z r : Int32} (h0 : 0 ≤ t.toInt ∧ t.toInt ≤ 23 ∧ 0 ≤ ro.toInt ∧ ro.toInt ≤ 7) (w : whu top t c) (hc : 0 ≤ c.toInt ∧ c.toInt ≤ 47) (e : f = few (ro.toInt * 8 + z.toInt).toNat) (hz : z.toInt = c.toInt / 6) (hf : ¬ f = -1) (hr : r.toInt = f.toInt + c.toInt % 6 + 1) : spAskC few top t ro r := .inr ⟨h0, c, w, .inr ⟨hc, .inr ⟨by rw [← hz, ← e]; exact hf, by rw [← hz, ← e]; exact hr⟩⟩⟩
theorem askM_n {A B top : Nat → Int32} {n t ro c : Int32} (h0 : 0 ≤ t.toInt ∧ t.toInt ≤ 23 ∧ 0 ≤ ro.toInt ∧ ro.toInt ≤ 7) (w : whr top t c) (hc : c = -1) : spAskM A B n top t ro (-1) := .inr ⟨h0, c, w, .inl ⟨hc, rfl⟩⟩
theorem askM_no {A B top : Nat → Int32} {n t ro c f z : Int32} (h0 : 0 ≤ t.toInt ∧ t.toInt ≤ 23 ∧ 0 ≤ ro.toInt ∧ ro.toInt ≤ 7) (w : whr top t c) (hc : 0 ≤ c.toInt ∧ c.toInt ≤ 47) (e : dsR A B n.toInt ro z f) (hz : z.toInt = c.toInt / 6) (hf : f = -1) : spAskM A B n top t ro (-1) := .inr ⟨h0, c, w, .inr ⟨hc, f, z, hz, e, .inl ⟨hf, rfl⟩⟩⟩
theorem askM_ok {A B top : Nat → Int32} {n t ro c f z r : Int32} (h0 : 0 ≤ t.toInt ∧ t.toInt ≤ 23 ∧ 0 ≤ ro.toInt ∧ ro.toInt ≤ 7) (w : whr top t c) (hc : 0 ≤ c.toInt ∧ c.toInt ≤ 47) (e : dsR A B n.toInt ro z f) (hz : z.toInt = c.toInt / 6) (hf : ¬ f = -1) (hr : r.toInt = f.toInt + c.toInt % 6 + 1) : spAskM A B n top t ro r := .inr ⟨h0, c, w, .inr ⟨hc, f, z, hz, e, .inr ⟨hf, hr⟩⟩⟩
theorem coC_no {few top : Nat → Int32} {ro f : Int32} {z : Int} (e : f = few (z * 8 + ro.toInt).toNat) (hz : z = 0) (hf : f = -1) : coC few top ro (-1) := by
  subst hz; rw [show ((0 : Int) * 8 + ro.toInt) = ro.toInt by omega] at e
  exact .inl ⟨e.symm.trans hf, rfl⟩
theorem coC_ok {few top : Nat → Int32} {ro f s r : Int32} {z : Int} (e : f = few (z * 8 + ro.toInt).toNat) (hz : z = 0) (hf : ¬ f = -1) (hs : s.toInt = stF top (ro.toInt * 6).toNat 6) (hr : r.toInt = 2 * f.toInt + s.toInt) : coC few top ro r := by
  subst hz; rw [show ((0 : Int) * 8 + ro.toInt) = ro.toInt by omega] at e
  exact .inr ⟨fun q => hf (e.trans q), by rw [← e, hr, hs]⟩
theorem coM_no {A B top : Nat → Int32} {n : Int} {ro f : Int32} (e : dsR A B n 0 ro f) (hf : f = -1) : coM A B n top ro (-1) := ⟨f, e, .inl ⟨hf, rfl⟩⟩
theorem coM_ok {A B top : Nat → Int32} {n : Int} {ro f s r : Int32} (e : dsR A B n 0 ro f) (hf : ¬ f = -1) (hs : s.toInt = stF top (ro.toInt * 6).toNat 6) (hr : r.toInt = 2 * f.toInt + s.toInt) : coM A B n top ro r := ⟨f, e, .inr ⟨hf, by rw [hr, hs]⟩⟩
set_option maxHeartbeats 4000000 in
set_option maxRecDepth 100000 in
theorem k_X9_door2 (l : Launch) (dC : Nat → ClassId) (dI : Nat → Nat → Nat) (cI cZ cQ : ClassId) (a : Nat → Nat) (rb0 : Nat) (rb1 : Nat) (rb2 : Nat) (db0 : Nat) (db1 : Nat) (db2 : Nat) (few : Nat → Int32) (doo : Int32) (sz : Nat) (x : Int32) (y : Int32) (q0 : mtOK few) : KW l yX9_door wsX9_door { frames := 3, cells := 0, slots := 0, locals := 72 } (dC, dI) (TY cI cZ cQ) (wsW cI cZ cQ a rb0 rb1 rb2 db0 db1 db2 few doo) [.ref (a 43), .int x, .int y] sz 0 0 (fun (r : Int32) (u : US) => (spDorC few doo x y r (u.1 0) (u.1 1 0)) ∧ (mtOK (u.1 0))) (fun u : US => (wsW cI cZ cQ a rb0 rb1 rb2 db0 db1 db2 (u.1 0) (u.1 1 0))) := by
  refine Met.ofW (cc := cX9_door) (maxL := 3) (ret := (some .int)) (by decide) rfl ?_
  intro p e s m args below meth c s₁ B hml hv
  obtain ⟨rfl, hsz, hP, hK, hD0, hN⟩ := hv
  have hx := B.exec
  have hb := B.bytes
  have hr := B.returns
  have hts := atoms_spec (ws := wsX9_door) B.pre
  have hown : s.vm.findClass RX9 = some m.cls := findClass_of_methodNamed B.named
  have hlocks := B.notSynchronized
  have lf12 := hts (.fieldLink RX9 12 "PalaceOfRooms" "ways" "LPalaceOfRooms$Ways;") (List.mem_cons_of_mem _ (List.mem_append_left _ (List.mem_append_left _ (List.mem_append_left _ (List.mem_of_getElem? (i := 0) rfl)))))
  have inX9 : ∀ w ∈ wsX90, w ∈ wsX9_door := fun w h => List.mem_cons_of_mem _ (List.mem_append_left _ (List.mem_append_right _ h))
  have lf91 := hN.use (w := .fieldLinkNest "PalaceOfRooms" 91 "PalaceOfRooms$Ways" "doors" "I" "PalaceOfRooms") (List.mem_of_getElem? (i := 0) rfl) ([.ref (a 43), .int x, .int y] : List Value).toArray
  have inX8 : ∀ w ∈ wsX80, w ∈ wsX9_door := fun w h => List.mem_cons_of_mem _ (List.mem_append_right _ h)
  subst hsz
  have hD := hD0.self (sz := s.heap.size)
  generalize hAe : va_A (wsW cI cZ cQ a rb0 rb1 rb2 db0 db1 db2 few doo) s.heap.size = A at hD ⊢
  have hA : ∀ q : Nat, s.heap.size ≤ q → A q := fun q h => by rw [← hAe]; exact Or.inr h
  have hS : va_S A s.heap s.heap [] := va_S.rf
  have hl := lv_entry ([.ref (a 43), .int x, .int y]) (n := 3) (Nat.le_of_ble_eq_true rfl)
  rw [lg_entry_eq]
  generalize (lg_sl ([.ref (a 43), .int x, .int y]) ++ List.replicate (3 - (lg_sl ([.ref (a 43), .int x, .int y])).length) Slot.unset).toArray = ls at hl ⊢
  have hl : lv_has ls 3 [(0, .ref (a 43)), (1, .int x), (2, .int y)] := hl
  refine lv_iload_n hx hb dX9_door_0 rfl (lv_at hl 1 rfl) ?_
  refine rdS (As := [.int x]) (rest := []) ⟨hx, hb, hml, hown, hts⟩ (k_X9_isRoom l dC dI cI cZ cQ x) (va_cwS 1 hts gX9_door_X9_isRoom rfl rfl rfl (by decide +kernel) ⟨Nat.le_of_ble_eq_true rfl, Nat.le_of_ble_eq_true rfl⟩) hP hK hN [] rfl rfl hl.1 rfl (Nat.le_of_ble_eq_true rfl) dX9_door_1 ⟨Nat.le_of_ble_eq_true rfl, Nat.le_of_ble_eq_true rfl⟩ (fun r1 h2 => ?_)
  have h2 : ((((r1 = 1) ∧ (0 ≤ x.toInt) ∧ (x.toInt ≤ 7)) ∨ ((r1 = 0) ∧ (x.toInt < 0 ∨ 7 < x.toInt)))) := h2
  rcases h2 with (⟨rfl, h2_a0, h2_a1⟩ | ⟨rfl, h2_a0⟩)
  · refine lv_if_eq (tgt := 19) hx hb dX9_door_4 (by decide) (fun c9 => absurd c9 (by decide)) (fun _ => ?_)
    refine lv_iload_n hx hb dX9_door_7 rfl (lv_at hl 2 rfl) ?_
    refine rdS (As := [.int y]) (rest := []) ⟨hx, hb, hml, hown, hts⟩ (k_X9_isRoom l dC dI cI cZ cQ y) (va_cwS 1 hts gX9_door_X9_isRoom rfl rfl rfl (by decide +kernel) ⟨Nat.le_of_ble_eq_true rfl, Nat.le_of_ble_eq_true rfl⟩) hP hK hN [] rfl rfl hl.1 rfl (Nat.le_of_ble_eq_true rfl) dX9_door_8 ⟨Nat.le_of_ble_eq_true rfl, Nat.le_of_ble_eq_true rfl⟩ (fun r3 h4 => ?_)
    have h4 : ((((r3 = 1) ∧ (0 ≤ y.toInt) ∧ (y.toInt ≤ 7)) ∨ ((r3 = 0) ∧ (y.toInt < 0 ∨ 7 < y.toInt)))) := h4
    rcases h4 with (⟨rfl, h4_a0, h4_a1⟩ | ⟨rfl, h4_a0⟩)
    · refine lv_if_eq (tgt := 19) hx hb dX9_door_11 (by decide) (fun c9 => absurd c9 (by decide)) (fun _ => ?_)
      refine lv_iload_n hx hb dX9_door_14 rfl (lv_at hl 1 rfl) ?_
      refine lv_iload_n hx hb dX9_door_15 rfl (lv_at hl 2 rfl) ?_
      refine lv_icmp_ne (tgt := 22) hx hb dX9_door_16 (by decide) (fun c5 => ?_) (fun c5 => ?_)
      · have dc5 : x.toInt ≠ y.toInt := neC rfl rfl c5
        refine lv_aload_n hx hb dX9_door_22 rfl (lv_at hl 0 rfl) ?_
        refine va_get (D := (dC, dI)) (ci := 9) (v := .ref (a 0)) (C := RX9) (T := TX9) (N := 11) hx hb hts inX9 hown hK hP 0 rfl rfl 0 (by decide) lf12 (fun _ h9 => h9) rfl dX9_door_23 ?_
        refine lv_iload_n hx hb dX9_door_26 rfl (lv_at hl 1 rfl) ?_
        refine lv_iload_n hx hb dX9_door_27 rfl (lv_at hl 2 rfl) ?_
        refine rdV (As := [.int x, .int y]) (rest := []) ⟨hx, hb, hml, hown, hts⟩ (k_X8_joined2 l dC dI cI cZ cQ a few doo x y (by omega) (by omega) (by omega) (by omega)) (cwV 2 hts gX9_door_X8_joined rfl rfl rfl (by decide +kernel) ⟨Nat.le_of_ble_eq_true rfl, Nat.le_of_ble_eq_true rfl⟩) hP hK hN [1, 2] rfl 1 8 rfl rfl rfl hl.1 rfl (Nat.le_of_ble_eq_true rfl) dX9_door_28 ⟨Nat.le_of_ble_eq_true rfl, Nat.le_of_ble_eq_true rfl⟩ (fun r6 h7 => ?_)
        have h7 : ((((r6 = 1) ∧ ((few (x.toInt * 8 + y.toInt).toNat).toInt = 1)) ∨ ((r6 = 0) ∧ ((few (x.toInt * 8 + y.toInt).toNat).toInt ≠ 1)))) := h7
        rcases h7 with (⟨rfl, h7_a0⟩ | ⟨rfl, h7_a0⟩)
        · refine lv_if_eq (tgt := 37) hx hb dX9_door_31 (by decide) (fun c9 => absurd c9 (by decide)) (fun _ => ?_)
          refine lv_bipush (v := (-4)) hx hb dX9_door_34 (by decide) ?_
          exact W.iret (v := (-4)) hx hb hr (fun tq ht hW => ⟨⟨(-4), (uS [few, (fun _ => doo)] 0 (fun _ => 0)), rfl, ⟨(show spDorC few doo x y ((-4) : Int32) few doo from by (try rw [show ((-4) : Int32).toInt = (-4) from (show ((-4) : Int32).toInt = (-4) from rfl)]); (first | exact Or.inl ⟨by omega, rfl, rfl, rfl⟩ | exact Or.inr ⟨by omega, Or.inl ⟨by omega, rfl, rfl, rfl⟩⟩ | exact Or.inr ⟨by omega, Or.inr ⟨by omega, Or.inl ⟨by omega, rfl, rfl, rfl⟩⟩⟩ | exact Or.inr ⟨by omega, Or.inr ⟨by omega, Or.inr ⟨by omega, by assumption, by assumption, by assumption⟩⟩⟩)), (show mtOK few from by (try rw [show ((-4) : Int32).toInt = (-4) from (show ((-4) : Int32).toInt = (-4) from rfl)]); (first | exact q0 | assumption))⟩, by rw [ht]; exact hP, hD⟩, hS.F ht⟩) hS.2.2 dX9_door_36
        · refine lv_if_eq (tgt := 37) hx hb dX9_door_31 (by decide) (fun _ => ?_) (fun c9 => absurd (by decide) c9)
          refine lv_aload_n hx hb dX9_door_37 rfl (lv_at hl 0 rfl) ?_
          refine va_get (D := (dC, dI)) (ci := 9) (v := .ref (a 0)) (C := RX9) (T := TX9) (N := 11) hx hb hts inX9 hown hK hP 0 rfl rfl 0 (by decide) lf12 (fun _ h9 => h9) rfl dX9_door_38 ?_
          refine va_getN (D := (dC, dI)) (ci := 8) (v := .int doo) (C := RX8) (T := TX8) (N := 2) hx hb hts inX8 hown hK hP 1 rfl rfl 1 (by decide) lf91 (fun _ h9 => h9) rfl dX9_door_41 ?_
          refine lv_bipush (v := 14) hx hb dX9_door_44 (by decide) ?_
          refine lv_icmp_lt (tgt := 52) hx hb dX9_door_46 (by decide) (fun c8 => ?_) (fun c8 => ?_)
          · have dc8 : doo.toInt < 14 := ltC rfl (show (14 : Int32).toInt = 14 from rfl) c8
            refine lv_aload_n hx hb dX9_door_52 rfl (lv_at hl 0 rfl) ?_
            refine va_get (D := (dC, dI)) (ci := 9) (v := .ref (a 0)) (C := RX9) (T := TX9) (N := 11) hx hb hts inX9 hown hK hP 0 rfl rfl 0 (by decide) lf12 (fun _ h9 => h9) rfl dX9_door_53 ?_
            refine lv_iload_n hx hb dX9_door_56 rfl (lv_at hl 1 rfl) ?_
            refine lv_iload_n hx hb dX9_door_57 rfl (lv_at hl 2 rfl) ?_
            refine wvV (As := [.int x, .int y]) (rest := []) (wr := [((a 43), .inr (9, [.ref (a 0), .ref (a 2), .ref (a 4), .ref (a 14), .ref (a 16), .ref (a 23), .ref (a 28), .ref (a 33), .ref (a 42), .ref rb0, .ref db0]))]) (w2 := (fun u : US => (wsW cI cZ cQ a rb0 rb1 rb2 db0 db1 db2 (u.1 0) (u.1 1 0)))) ⟨hx, hb, hml, hown, hts⟩ (k_X8_join2 l dC dI cI cZ cQ a few doo _ x y (by omega) (by omega) (by omega) (by omega) (by exact q0) (by omega)) (cwV 2 hts gX9_door_X8_join rfl rfl rfl (by decide +kernel) ⟨Nat.le_of_ble_eq_true rfl, Nat.le_of_ble_eq_true rfl⟩) hP hD hS hA hK hN [1, 2] [0] [0, 1, 2] rfl rfl (by decide) (by decide) (by decide) (fun _ => rfl) (by decide) 1 8 rfl rfl rfl hl.1 rfl (Nat.le_of_ble_eq_true rfl) dX9_door_58 ⟨Nat.le_of_ble_eq_true rfl, Nat.le_of_ble_eq_true rfl⟩ (fun u11 H locs h10 hP hD hS => ?_)
            obtain ⟨few_c12, efew_c12⟩ : ∃ f : Nat → Int32, f = (u11.1 0) := ⟨_, rfl⟩
            obtain ⟨doo_c13, edoo_c13⟩ : ∃ f : Int32, f = (u11.1 1 0) := ⟨_, rfl⟩
            have hP : va_P (dC, dI) vwCl (wsW cI cZ cQ a rb0 rb1 rb2 db0 db1 db2 few_c12 doo_c13) H := by rw [efew_c12, edoo_c13]; exact hP
            have hD : va_D A (wsW cI cZ cQ a rb0 rb1 rb2 db0 db1 db2 few_c12 doo_c13) := by rw [efew_c12, edoo_c13]; exact hD
            have h10 : (doo_c13 = doo + 1) ∧ (jnS few x y few_c12) ∧ (mtOK few_c12) := by (try rw [efew_c12]); (try rw [edoo_c13]); exact h10
            obtain ⟨h10_0, h10_1, h10_2⟩ := h10
            refine lv_aload_n hx hb dX9_door_61 rfl (lv_at hl 0 rfl) ?_
            refine va_get (D := (dC, dI)) (ci := 9) (v := .ref (a 0)) (C := RX9) (T := TX9) (N := 11) hx hb hts inX9 hown hK hP 0 rfl rfl 0 (by decide) lf12 (fun _ h9 => h9) rfl dX9_door_62 ?_
            refine va_getN (D := (dC, dI)) (ci := 8) (v := .int doo_c13) (C := RX8) (T := TX8) (N := 2) hx hb hts inX8 hown hK hP 1 rfl rfl 1 (by decide) lf91 (fun _ h9 => h9) rfl dX9_door_65 ?_
            exact W.iret (v := doo_c13) hx hb hr (fun tq ht hW => ⟨⟨doo_c13, (uS [few_c12, (fun _ => doo_c13)] 0 (fun _ => 0)), rfl, ⟨(show spDorC few doo x y doo_c13 few_c12 doo_c13 from by (first | exact Or.inl ⟨by omega, rfl, rfl, rfl⟩ | exact Or.inr ⟨by omega, Or.inl ⟨by omega, rfl, rfl, rfl⟩⟩ | exact Or.inr ⟨by omega, Or.inr ⟨by omega, Or.inl ⟨by omega, rfl, rfl, rfl⟩⟩⟩ | exact Or.inr ⟨by omega, Or.inr ⟨by omega, Or.inr ⟨by omega, by assumption, by assumption, by assumption⟩⟩⟩)), (show mtOK few_c12 from by (first | exact q0 | assumption))⟩, by rw [ht]; exact hP, hD⟩, hS.F ht⟩) hS.2.2 dX9_door_68
          · have dc8 : 14 ≤ doo.toInt := nltC rfl (show (14 : Int32).toInt = 14 from rfl) c8
            refine lv_bipush (v := (-5)) hx hb dX9_door_49 (by decide) ?_
            exact W.iret (v := (-5)) hx hb hr (fun tq ht hW => ⟨⟨(-5), (uS [few, (fun _ => doo)] 0 (fun _ => 0)), rfl, ⟨(show spDorC few doo x y ((-5) : Int32) few doo from by (try rw [show ((-5) : Int32).toInt = (-5) from (show ((-5) : Int32).toInt = (-5) from rfl)]); (first | exact Or.inl ⟨by omega, rfl, rfl, rfl⟩ | exact Or.inr ⟨by omega, Or.inl ⟨by omega, rfl, rfl, rfl⟩⟩ | exact Or.inr ⟨by omega, Or.inr ⟨by omega, Or.inl ⟨by omega, rfl, rfl, rfl⟩⟩⟩ | exact Or.inr ⟨by omega, Or.inr ⟨by omega, Or.inr ⟨by omega, by assumption, by assumption, by assumption⟩⟩⟩)), (show mtOK few from by (try rw [show ((-5) : Int32).toInt = (-5) from (show ((-5) : Int32).toInt = (-5) from rfl)]); (first | exact q0 | assumption))⟩, by rw [ht]; exact hP, hD⟩, hS.F ht⟩) hS.2.2 dX9_door_51
      · have dc5 : x.toInt = y.toInt := eqC rfl rfl c5
        refine lv_bipush (v := (-2)) hx hb dX9_door_19 (by decide) ?_
        exact W.iret (v := (-2)) hx hb hr (fun tq ht hW => ⟨⟨(-2), (uS [few, (fun _ => doo)] 0 (fun _ => 0)), rfl, ⟨(show spDorC few doo x y ((-2) : Int32) few doo from by (try rw [show ((-2) : Int32).toInt = (-2) from (show ((-2) : Int32).toInt = (-2) from rfl)]); (first | exact Or.inl ⟨by omega, rfl, rfl, rfl⟩ | exact Or.inr ⟨by omega, Or.inl ⟨by omega, rfl, rfl, rfl⟩⟩ | exact Or.inr ⟨by omega, Or.inr ⟨by omega, Or.inl ⟨by omega, rfl, rfl, rfl⟩⟩⟩ | exact Or.inr ⟨by omega, Or.inr ⟨by omega, Or.inr ⟨by omega, by assumption, by assumption, by assumption⟩⟩⟩)), (show mtOK few from by (try rw [show ((-2) : Int32).toInt = (-2) from (show ((-2) : Int32).toInt = (-2) from rfl)]); (first | exact q0 | assumption))⟩, by rw [ht]; exact hP, hD⟩, hS.F ht⟩) hS.2.2 dX9_door_21
    · refine lv_if_eq (tgt := 19) hx hb dX9_door_11 (by decide) (fun _ => ?_) (fun c9 => absurd (by decide) c9)
      refine lv_bipush (v := (-2)) hx hb dX9_door_19 (by decide) ?_
      exact W.iret (v := (-2)) hx hb hr (fun tq ht hW => ⟨⟨(-2), (uS [few, (fun _ => doo)] 0 (fun _ => 0)), rfl, ⟨(show spDorC few doo x y ((-2) : Int32) few doo from by (try rw [show ((-2) : Int32).toInt = (-2) from (show ((-2) : Int32).toInt = (-2) from rfl)]); (first | exact Or.inl ⟨by omega, rfl, rfl, rfl⟩ | exact Or.inr ⟨by omega, Or.inl ⟨by omega, rfl, rfl, rfl⟩⟩ | exact Or.inr ⟨by omega, Or.inr ⟨by omega, Or.inl ⟨by omega, rfl, rfl, rfl⟩⟩⟩ | exact Or.inr ⟨by omega, Or.inr ⟨by omega, Or.inr ⟨by omega, by assumption, by assumption, by assumption⟩⟩⟩)), (show mtOK few from by (try rw [show ((-2) : Int32).toInt = (-2) from (show ((-2) : Int32).toInt = (-2) from rfl)]); (first | exact q0 | assumption))⟩, by rw [ht]; exact hP, hD⟩, hS.F ht⟩) hS.2.2 dX9_door_21
  · refine lv_if_eq (tgt := 19) hx hb dX9_door_4 (by decide) (fun _ => ?_) (fun c9 => absurd (by decide) c9)
    refine lv_bipush (v := (-2)) hx hb dX9_door_19 (by decide) ?_
    exact W.iret (v := (-2)) hx hb hr (fun tq ht hW => ⟨⟨(-2), (uS [few, (fun _ => doo)] 0 (fun _ => 0)), rfl, ⟨(show spDorC few doo x y ((-2) : Int32) few doo from by (try rw [show ((-2) : Int32).toInt = (-2) from (show ((-2) : Int32).toInt = (-2) from rfl)]); (first | exact Or.inl ⟨by omega, rfl, rfl, rfl⟩ | exact Or.inr ⟨by omega, Or.inl ⟨by omega, rfl, rfl, rfl⟩⟩ | exact Or.inr ⟨by omega, Or.inr ⟨by omega, Or.inl ⟨by omega, rfl, rfl, rfl⟩⟩⟩ | exact Or.inr ⟨by omega, Or.inr ⟨by omega, Or.inr ⟨by omega, by assumption, by assumption, by assumption⟩⟩⟩)), (show mtOK few from by (try rw [show ((-2) : Int32).toInt = (-2) from (show ((-2) : Int32).toInt = (-2) from rfl)]); (first | exact q0 | assumption))⟩, by rw [ht]; exact hP, hD⟩, hS.F ht⟩) hS.2.2 dX9_door_21
set_option maxHeartbeats 4000000 in
set_option maxRecDepth 100000 in
theorem k_X9_away2 (l : Launch) (dC : Nat → ClassId) (dI : Nat → Nat → Nat) (cI cZ cQ : ClassId) (a : Nat → Nat) (rb0 : Nat) (rb1 : Nat) (rb2 : Nat) (db0 : Nat) (db1 : Nat) (db2 : Nat) (few : Nat → Int32) (doo : Int32) (x : Int32) (y : Int32)  : KR l yX9_away wsX9_away { frames := 2, cells := 0, slots := 0, locals := 42 } (dC, dI) (TY cI cZ cQ) (wsW cI cZ cQ a rb0 rb1 rb2 db0 db1 db2 few doo) [.ref (a 43), .int x, .int y] (fun r : Int32 => (spAwyC few x y r)) := by
  refine Met.ofW (cc := cX9_away) (maxL := 3) (ret := (some .int)) (by decide) rfl ?_
  intro p e s m args below meth c s₁ B hml hv
  obtain ⟨rfl, hP, hK, hN⟩ := hv
  have hx := B.exec
  have hb := B.bytes
  have hr := B.returns
  have hts := atoms_spec (ws := wsX9_away) B.pre
  have hown : s.vm.findClass RX9 = some m.cls := findClass_of_methodNamed B.named
  have hlocks := B.notSynchronized
  have lf12 := hts (.fieldLink RX9 12 "PalaceOfRooms" "ways" "LPalaceOfRooms$Ways;") (List.mem_cons_of_mem _ (List.mem_append_left _ (List.mem_append_left _ (List.mem_of_getElem? (i := 0) rfl))))
  have inX9 : ∀ w ∈ wsX90, w ∈ wsX9_away := fun w h => List.mem_cons_of_mem _ (List.mem_append_left _ (List.mem_append_right _ h))
  have hl := lv_entry ([.ref (a 43), .int x, .int y]) (n := 3) (Nat.le_of_ble_eq_true rfl)
  rw [lg_entry_eq]
  generalize (lg_sl ([.ref (a 43), .int x, .int y]) ++ List.replicate (3 - (lg_sl ([.ref (a 43), .int x, .int y])).length) Slot.unset).toArray = ls at hl ⊢
  have hl : lv_has ls 3 [(0, .ref (a 43)), (1, .int x), (2, .int y)] := hl
  refine lv_iload_n hx hb dX9_away_0 rfl (lv_at hl 1 rfl) ?_
  refine rdS (As := [.int x]) (rest := []) ⟨hx, hb, hml, hown, hts⟩ (k_X9_isRoom l dC dI cI cZ cQ x) (va_cwS 1 hts gX9_away_X9_isRoom rfl rfl rfl (by decide +kernel) ⟨Nat.le_of_ble_eq_true rfl, Nat.le_of_ble_eq_true rfl⟩) hP hK hN [] rfl rfl hl.1 rfl (Nat.le_of_ble_eq_true rfl) dX9_away_1 ⟨Nat.le_of_ble_eq_true rfl, Nat.le_of_ble_eq_true rfl⟩ (fun r1 h2 => ?_)
  have h2 : ((((r1 = 1) ∧ (0 ≤ x.toInt) ∧ (x.toInt ≤ 7)) ∨ ((r1 = 0) ∧ (x.toInt < 0 ∨ 7 < x.toInt)))) := h2
  rcases h2 with (⟨rfl, h2_a0, h2_a1⟩ | ⟨rfl, h2_a0⟩)
  · refine lv_if_eq (tgt := 14) hx hb dX9_away_4 (by decide) (fun c9 => absurd c9 (by decide)) (fun _ => ?_)
    refine lv_iload_n hx hb dX9_away_7 rfl (lv_at hl 2 rfl) ?_
    refine rdS (As := [.int y]) (rest := []) ⟨hx, hb, hml, hown, hts⟩ (k_X9_isRoom l dC dI cI cZ cQ y) (va_cwS 1 hts gX9_away_X9_isRoom rfl rfl rfl (by decide +kernel) ⟨Nat.le_of_ble_eq_true rfl, Nat.le_of_ble_eq_true rfl⟩) hP hK hN [] rfl rfl hl.1 rfl (Nat.le_of_ble_eq_true rfl) dX9_away_8 ⟨Nat.le_of_ble_eq_true rfl, Nat.le_of_ble_eq_true rfl⟩ (fun r3 h4 => ?_)
    have h4 : ((((r3 = 1) ∧ (0 ≤ y.toInt) ∧ (y.toInt ≤ 7)) ∨ ((r3 = 0) ∧ (y.toInt < 0 ∨ 7 < y.toInt)))) := h4
    rcases h4 with (⟨rfl, h4_a0, h4_a1⟩ | ⟨rfl, h4_a0⟩)
    · refine lv_if_ne (tgt := 17) hx hb dX9_away_11 (by decide) (fun _ => ?_) (fun c9 => absurd c9 (by decide))
      refine lv_aload_n hx hb dX9_away_17 rfl (lv_at hl 0 rfl) ?_
      refine va_get (D := (dC, dI)) (ci := 9) (v := .ref (a 0)) (C := RX9) (T := TX9) (N := 11) hx hb hts inX9 hown hK hP 0 rfl rfl 0 (by decide) lf12 (fun _ h9 => h9) rfl dX9_away_18 ?_
      refine lv_iload_n hx hb dX9_away_21 rfl (lv_at hl 1 rfl) ?_
      refine lv_iload_n hx hb dX9_away_22 rfl (lv_at hl 2 rfl) ?_
      refine rdV (As := [.int x, .int y]) (rest := []) ⟨hx, hb, hml, hown, hts⟩ (k_X8_between2 l dC dI cI cZ cQ a few doo x y (by omega) (by omega) (by omega) (by omega)) (cwV 2 hts gX9_away_X8_between rfl rfl rfl (by decide +kernel) ⟨Nat.le_of_ble_eq_true rfl, Nat.le_of_ble_eq_true rfl⟩) hP hK hN [1, 2] rfl 1 8 rfl rfl rfl hl.1 rfl (Nat.le_of_ble_eq_true rfl) dX9_away_23 ⟨Nat.le_of_ble_eq_true rfl, Nat.le_of_ble_eq_true rfl⟩ (fun r5 h6 => ?_)
      have h6 : (r5 = few (x.toInt * 8 + y.toInt).toNat) ∧ (r5.toInt = (few (x.toInt * 8 + y.toInt).toNat).toInt) := h6
      obtain ⟨h6_0, h6_1⟩ := h6
      exact W.iret (v := r5) hx hb hr (fun tq ht hW => ⟨r5, rfl, (show spAwyC few x y r5 from by (first | exact Or.inl ⟨by omega, rfl⟩ | exact Or.inr ⟨by omega, by assumption⟩)), ht⟩) (fun q h => by cases h) dX9_away_26
    · refine lv_if_ne (tgt := 17) hx hb dX9_away_11 (by decide) (fun c9 => absurd (by decide) c9) (fun _ => ?_)
      refine lv_bipush (v := (-2)) hx hb dX9_away_14 (by decide) ?_
      exact W.iret (v := (-2)) hx hb hr (fun tq ht hW => ⟨(-2), rfl, (show spAwyC few x y ((-2) : Int32) from by (try rw [show ((-2) : Int32).toInt = (-2) from (show ((-2) : Int32).toInt = (-2) from rfl)]); (first | exact Or.inl ⟨by omega, rfl⟩ | exact Or.inr ⟨by omega, by assumption⟩)), ht⟩) (fun q h => by cases h) dX9_away_16
  · refine lv_if_eq (tgt := 14) hx hb dX9_away_4 (by decide) (fun _ => ?_) (fun c9 => absurd (by decide) c9)
    refine lv_bipush (v := (-2)) hx hb dX9_away_14 (by decide) ?_
    exact W.iret (v := (-2)) hx hb hr (fun tq ht hW => ⟨(-2), rfl, (show spAwyC few x y ((-2) : Int32) from by (try rw [show ((-2) : Int32).toInt = (-2) from (show ((-2) : Int32).toInt = (-2) from rfl)]); (first | exact Or.inl ⟨by omega, rfl⟩ | exact Or.inr ⟨by omega, by assumption⟩)), ht⟩) (fun q h => by cases h) dX9_away_16
set_option maxHeartbeats 4000000 in
set_option maxRecDepth 100000 in
theorem k_X10_areJoined2 (l : Launch) (dC : Nat → ClassId) (dI : Nat → Nat → Nat) (cI cZ cQ : ClassId) (b : Nat → Nat) (mday : Int32) (mdoo : Int32) (mdA : Nat → Int32) (mdB : Nat → Int32) (mfar : Nat → Int32) (mmar : Nat → Int32) (mtel : Int32) (mgai : Int32) (mfal : Nat → Int32) (mtop : Nat → Int32) (mstr : Nat → Int32) (mgho : Nat → Int32) (mfai : Nat → Int32) (mpto : Nat → Int32) (mwal : Nat → Int32) (mahd : Nat → Int32) (mahf : Nat → Int32) (mcho : Nat → Int32) (mbes : Nat → Int32) (mbyt : Int32) (mtxt : Nat → Int32) (mpos : Int32) (mtka : Int32) (mtok : Int64) (mdig : Int32) (mnum : Int32) (mfau : Int32) (mrdm : Int32) (mrea : Nat → Int32) (mlin : Int32) (mlne : Nat → Int32) (mthg : Nat → Int32) (mord : Nat → Int32) (mbor : Nat → Int32) (mbsm : Int32) (mans : Nat → Int32) (mand : Nat → Int32) (manr : Nat → Int32) (mali : Nat → Int32) (x : Int32) (y : Int32) (r_mday : 0 ≤ mday.toInt ∧ mday.toInt ≤ 400) (r_mdoo : 0 ≤ mdoo.toInt ∧ mdoo.toInt ≤ 14) (r_mdA : rg 14 (0) (7) mdA) (r_mdB : rg 14 (0) (7) mdB) (r_mmar : rg 24 (0) (255) mmar) (r_mgai : 0 ≤ mgai.toInt ∧ mgai.toInt ≤ 100) (r_mfal : rg 11 (0) (30) mfal) (r_mtop : rg 48 (-1) (23) mtop) (r_mstr : rg 48 (0) (100) mstr) (r_mgho : rg 48 (-1) (23) mgho) (r_mfai : rg 48 (0) (100) mfai) (r_mahd : rg 240 (0) (100) mahd) (r_mahf : rg 240 (0) (100) mahf) (r_mcho : rg 5 (-1) (9) mcho) (r_mbyt : 0 ≤ mbyt.toInt ∧ mbyt.toInt ≤ 160) (r_mpos : 0 ≤ mpos.toInt ∧ mpos.toInt ≤ 160) (r_mrdm : 0 ≤ mrdm.toInt ∧ mrdm.toInt ≤ 10) (r_mlin : 0 ≤ mlin.toInt ∧ mlin.toInt ≤ 10) (r_mthg : rg 8 (0) (31) mthg) (r_mord : rg 8 (-1) (8) mord) (r_mans : rg 4 (0) (12) mans) : KR l yX10_areJoined wsX10_areJoined { frames := 0, cells := 0, slots := 0, locals := 0 } (dC, dI) (TY cI cZ cQ) (wMod cI cZ cQ b mday mdoo mdA mdB mfar mmar mtel mgai mfal mtop mstr mgho mfai mpto mwal mahd mahf mcho mbes mbyt mtxt mpos mtka mtok mdig mnum mfau mrdm mrea mlin mlne mthg mord mbor mbsm mans mand manr mali) [.ref (b 39), .int x, .int y] (fun r : Int32 => ((((r = 1) ∧ (eD mdA mdB mdoo.toInt x.toInt y.toInt)) ∨ ((r = 0) ∧ (¬ eD mdA mdB mdoo.toInt x.toInt y.toInt))))) := by
  refine Met.ofW (cc := cX10_areJoined) (maxL := 5) (ret := (some .boolean)) (by decide) rfl ?_
  intro p e s m args below meth c s₁ B hml hv
  obtain ⟨rfl, hP, hK, hN⟩ := hv
  have hx := B.exec
  have hb := B.bytes
  have hr := B.returns
  have hts := atoms_spec (ws := wsX10_areJoined) B.pre
  have hown : s.vm.findClass RX10 = some m.cls := findClass_of_methodNamed B.named
  have hlocks := B.notSynchronized
  have lf97 := hts (.fieldLink RX10 97 "PalaceOfRoomsModel" "doors" "I") (List.mem_cons_of_mem _ (List.mem_append_left _ (List.mem_of_getElem? (i := 0) rfl)))
  have inX10 : ∀ w ∈ wsX100, w ∈ wsX10_areJoined := fun w h => List.mem_cons_of_mem _ (List.mem_append_right _ h)
  have lf7 := hts (.fieldLink RX10 7 "PalaceOfRoomsModel" "doorA" "[I") (List.mem_cons_of_mem _ (List.mem_append_left _ (List.mem_of_getElem? (i := 1) rfl)))
  have lf13 := hts (.fieldLink RX10 13 "PalaceOfRoomsModel" "doorB" "[I") (List.mem_cons_of_mem _ (List.mem_append_left _ (List.mem_of_getElem? (i := 2) rfl)))
  have hl := lv_entry ([.ref (b 39), .int x, .int y]) (n := 5) (Nat.le_of_ble_eq_true rfl)
  rw [lg_entry_eq]
  generalize (lg_sl ([.ref (b 39), .int x, .int y]) ++ List.replicate (5 - (lg_sl ([.ref (b 39), .int x, .int y])).length) Slot.unset).toArray = ls at hl ⊢
  have hl : lv_has ls 5 [(0, .ref (b 39)), (1, .int x), (2, .int y)] := hl
  refine lv_iconst (v := 0) hx hb dX10_areJoined_0 (by decide) ?_
  refine lv_istore_n (lv' := [(3, .int 0), (0, .ref (b 39)), (1, .int x), (2, .int y)]) hx hb dX10_areJoined_1 rfl hl (by decide) rfl (fun ls hl => ?_)
  refine lv_iconst (v := 0) hx hb dX10_areJoined_2 (by decide) ?_
  refine lv_istore (lv' := [(4, .int 0), (3, .int 0), (0, .ref (b 39)), (1, .int x), (2, .int y)]) hx hb dX10_areJoined_3 hl (by decide) rfl (fun ls hl => ?_)
  have L5 : ∀ (nn : Nat) (y5_3 : Int32) (y5_4 : Int32) (ls : Array Slot), (0 ≤ (y5_4.toInt)) → ((y5_4.toInt) ≤ 14) → (jkI mdA mdB x y (y5_4.toInt) y5_3) → ((y5_4.toInt) ≤ mdoo.toInt) → (14 - (y5_4.toInt)).toNat < nn → lv_has ls 5 [(0, .ref (b 39)), (1, .int x), (2, .int y), (3, .int y5_3), (4, .int y5_4)] → W p l e (headSpec wsX10_areJoined { frames := 0, cells := 0, slots := 0, locals := 0 }).room s m ([.ref (b 39), .int x, .int y] : List Value).toArray below meth c s.heap [] 0 0 (MQ below (QR (fun r : Int32 => ((((r = 1) ∧ (eD mdA mdB mdoo.toInt x.toInt y.toInt)) ∨ ((r = 0) ∧ (¬ eD mdA mdB mdoo.toInt x.toInt y.toInt)))))) ([.ref (b 39), .int x, .int y] : List Value).toArray s 0 0 (fun _ => False)) (F0 m 5 ls []) := by
    intro nn
    induction nn with
    | zero =>
      intro y5_3 y5_4 ls i5_0 i5_1 i5_2 i5_3 hm5
      exact absurd hm5 (Nat.not_lt_zero _)
    | succ nn ih5 =>
      intro y5_3 y5_4 ls i5_0 i5_1 i5_2 i5_3 hm5 hl
      refine lv_iload hx hb dX10_areJoined_5 (lv_at hl 4 rfl) ?_
      refine lv_aload_n hx hb dX10_areJoined_7 rfl (lv_at hl 0 rfl) ?_
      refine va_get (D := (dC, dI)) (ci := 10) (v := .int mdoo) (C := RX10) (T := TX10) (N := 39) hx hb hts inX10 hown hK hP 0 rfl rfl 1 (by decide) lf97 (fun _ h9 => h9) rfl dX10_areJoined_8 ?_
      refine lv_icmp_ge (tgt := 74) hx hb dX10_areJoined_11 (by decide) (fun c1 => ?_) (fun c1 => ?_)
      · have dc1 : mdoo.toInt ≤ y5_4.toInt := leC rfl rfl c1
        refine lv_iload_n hx hb dX10_areJoined_74 rfl (lv_at hl 3 rfl) ?_
        exact W.zret (v := y5_3) hx hb hr (by (rcases jk_narrow i5_2 with h | h <;> rw [h] <;> rfl)) (fun tq ht hW => ⟨y5_3, rfl, (by exact jk_alt i5_2 (by omega)), ht⟩) (fun q h => by cases h) dX10_areJoined_75
      · have dc1 : y5_4.toInt < mdoo.toInt := nleC rfl rfl c1
        refine lv_iload_n hx hb dX10_areJoined_14 rfl (lv_at hl 3 rfl) ?_
        refine lv_if_ne (tgt := 62) hx hb dX10_areJoined_15 (by decide) (fun c2 => ?_) (fun c2 => ?_)
        · have dc2 : y5_3.toInt ≠ 0 := neC rfl (show (0 : Int32).toInt = 0 from rfl) c2
          refine lv_iconst (v := 1) hx hb dX10_areJoined_62 (by decide) ?_
          refine lv_goto (tgt := 67) hx hb dX10_areJoined_63 (by decide) ?_
          refine lv_istore_n (lv' := [(3, .int 1), (0, .ref (b 39)), (1, .int x), (2, .int y), (4, .int y5_4)]) hx hb dX10_areJoined_67 rfl hl (by decide) rfl (fun ls hl => ?_)
          obtain ⟨z3, ez3⟩ : ∃ y : Int32, y = y5_4 + 1 := ⟨_, rfl⟩
          have iz3 : z3.toInt = y5_4.toInt + 1 := by rw [ez3]; exact addC rfl rfl (by omega) (by omega)
          refine lv_iinc (v := z3) (lv' := [(4, .int z3), (3, .int 1), (0, .ref (b 39)), (1, .int x), (2, .int y)]) hx hb dX10_areJoined_68 hl (k := 4) rfl (by rw [ez3]; rfl) (by decide) rfl (fun ls hl => ?_)
          refine lv_goto (tgt := 5) hx hb dX10_areJoined_71 (by decide) ?_
          have kc4 : (1 : Int32).toInt = 1 := rfl
          exact ih5 1 z3 _ (by omega) (by omega) (by (first | exact jk_was i5_2 (by assumption) (by first | rfl | assumption) (by omega) | exact jk_miss (c := y5_4) i5_2 (by assumption) (by omega) (by omega) (by first | rfl | assumption) (by omega) | exact jk_init (by first | rfl | omega) (by first | rfl | assumption) | exact jk_hit (c := y5_4) (by omega) (by omega) (by first | rfl | assumption) (by omega))) (by omega) (by omega) (lv_sub hl [2, 3, 4, 1, 0] rfl)
        · have dc2 : y5_3.toInt = 0 := eqC rfl (show (0 : Int32).toInt = 0 from rfl) c2
          refine lv_aload_n hx hb dX10_areJoined_18 rfl (lv_at hl 0 rfl) ?_
          refine va_get (D := (dC, dI)) (ci := 10) (v := .ref (b 2)) (C := RX10) (T := TX10) (N := 39) hx hb hts inX10 hown hK hP 0 rfl rfl 2 (by decide) lf7 (fun _ h9 => h9) rfl dX10_areJoined_19 ?_
          refine lv_iload hx hb dX10_areJoined_22 (lv_at hl 4 rfl) ?_
          have b5 : vp_in y5_4 14 := inC rfl (by omega) (by omega)
          refine va_iald hx hb hK hP 1 0 rfl rfl b5 dX10_areJoined_24 ?_
          have g6 : 0 ≤ (mdA y5_4.toNatClampNeg).toInt ∧ (mdA y5_4.toNatClampNeg).toInt ≤ 7 := rg_at r_mdA b5
          refine lv_iload_n hx hb dX10_areJoined_25 rfl (lv_at hl 1 rfl) ?_
          refine lv_icmp_ne (tgt := 40) hx hb dX10_areJoined_26 (by decide) (fun c7 => ?_) (fun c7 => ?_)
          · have dc7 : (mdA y5_4.toNatClampNeg).toInt ≠ x.toInt := neC rfl rfl c7
            refine lv_aload_n hx hb dX10_areJoined_40 rfl (lv_at hl 0 rfl) ?_
            refine va_get (D := (dC, dI)) (ci := 10) (v := .ref (b 2)) (C := RX10) (T := TX10) (N := 39) hx hb hts inX10 hown hK hP 0 rfl rfl 2 (by decide) lf7 (fun _ h9 => h9) rfl dX10_areJoined_41 ?_
            refine lv_iload hx hb dX10_areJoined_44 (lv_at hl 4 rfl) ?_
            have b8 : vp_in y5_4 14 := inC rfl (by omega) (by omega)
            refine va_iald hx hb hK hP 1 0 rfl rfl b8 dX10_areJoined_46 ?_
            have g9 : 0 ≤ (mdA y5_4.toNatClampNeg).toInt ∧ (mdA y5_4.toNatClampNeg).toInt ≤ 7 := rg_at r_mdA b8
            refine lv_iload_n hx hb dX10_areJoined_47 rfl (lv_at hl 2 rfl) ?_
            refine lv_icmp_ne (tgt := 66) hx hb dX10_areJoined_48 (by decide) (fun c10 => ?_) (fun c10 => ?_)
            · have dc10 : (mdA y5_4.toNatClampNeg).toInt ≠ y.toInt := neC rfl rfl c10
              refine lv_iconst (v := 0) hx hb dX10_areJoined_66 (by decide) ?_
              refine lv_istore_n (lv' := [(3, .int 0), (0, .ref (b 39)), (1, .int x), (2, .int y), (4, .int y5_4)]) hx hb dX10_areJoined_67 rfl hl (by decide) rfl (fun ls hl => ?_)
              obtain ⟨z11, ez11⟩ : ∃ y : Int32, y = y5_4 + 1 := ⟨_, rfl⟩
              have iz11 : z11.toInt = y5_4.toInt + 1 := by rw [ez11]; exact addC rfl rfl (by omega) (by omega)
              refine lv_iinc (v := z11) (lv' := [(4, .int z11), (3, .int 0), (0, .ref (b 39)), (1, .int x), (2, .int y)]) hx hb dX10_areJoined_68 hl (k := 4) rfl (by rw [ez11]; rfl) (by decide) rfl (fun ls hl => ?_)
              refine lv_goto (tgt := 5) hx hb dX10_areJoined_71 (by decide) ?_
              have kc12 : (0 : Int32).toInt = 0 := rfl
              exact ih5 0 z11 _ (by omega) (by omega) (by (first | exact jk_was i5_2 (by assumption) (by first | rfl | assumption) (by omega) | exact jk_miss (c := y5_4) i5_2 (by assumption) (by omega) (by omega) (by first | rfl | assumption) (by omega) | exact jk_init (by first | rfl | omega) (by first | rfl | assumption) | exact jk_hit (c := y5_4) (by omega) (by omega) (by first | rfl | assumption) (by omega))) (by omega) (by omega) (lv_sub hl [2, 3, 4, 1, 0] rfl)
            · have dc10 : (mdA y5_4.toNatClampNeg).toInt = y.toInt := eqC rfl rfl c10
              refine lv_aload_n hx hb dX10_areJoined_51 rfl (lv_at hl 0 rfl) ?_
              refine va_get (D := (dC, dI)) (ci := 10) (v := .ref (b 3)) (C := RX10) (T := TX10) (N := 39) hx hb hts inX10 hown hK hP 0 rfl rfl 3 (by decide) lf13 (fun _ h9 => h9) rfl dX10_areJoined_52 ?_
              refine lv_iload hx hb dX10_areJoined_55 (lv_at hl 4 rfl) ?_
              have b13 : vp_in y5_4 14 := inC rfl (by omega) (by omega)
              refine va_iald hx hb hK hP 2 0 rfl rfl b13 dX10_areJoined_57 ?_
              have g14 : 0 ≤ (mdB y5_4.toNatClampNeg).toInt ∧ (mdB y5_4.toNatClampNeg).toInt ≤ 7 := rg_at r_mdB b13
              refine lv_iload_n hx hb dX10_areJoined_58 rfl (lv_at hl 1 rfl) ?_
              refine lv_icmp_ne (tgt := 66) hx hb dX10_areJoined_59 (by decide) (fun c15 => ?_) (fun c15 => ?_)
              · have dc15 : (mdB y5_4.toNatClampNeg).toInt ≠ x.toInt := neC rfl rfl c15
                refine lv_iconst (v := 0) hx hb dX10_areJoined_66 (by decide) ?_
                refine lv_istore_n (lv' := [(3, .int 0), (0, .ref (b 39)), (1, .int x), (2, .int y), (4, .int y5_4)]) hx hb dX10_areJoined_67 rfl hl (by decide) rfl (fun ls hl => ?_)
                obtain ⟨z16, ez16⟩ : ∃ y : Int32, y = y5_4 + 1 := ⟨_, rfl⟩
                have iz16 : z16.toInt = y5_4.toInt + 1 := by rw [ez16]; exact addC rfl rfl (by omega) (by omega)
                refine lv_iinc (v := z16) (lv' := [(4, .int z16), (3, .int 0), (0, .ref (b 39)), (1, .int x), (2, .int y)]) hx hb dX10_areJoined_68 hl (k := 4) rfl (by rw [ez16]; rfl) (by decide) rfl (fun ls hl => ?_)
                refine lv_goto (tgt := 5) hx hb dX10_areJoined_71 (by decide) ?_
                have kc17 : (0 : Int32).toInt = 0 := rfl
                exact ih5 0 z16 _ (by omega) (by omega) (by (first | exact jk_was i5_2 (by assumption) (by first | rfl | assumption) (by omega) | exact jk_miss (c := y5_4) i5_2 (by assumption) (by omega) (by omega) (by first | rfl | assumption) (by omega) | exact jk_init (by first | rfl | omega) (by first | rfl | assumption) | exact jk_hit (c := y5_4) (by omega) (by omega) (by first | rfl | assumption) (by omega))) (by omega) (by omega) (lv_sub hl [2, 3, 4, 1, 0] rfl)
              · have dc15 : (mdB y5_4.toNatClampNeg).toInt = x.toInt := eqC rfl rfl c15
                refine lv_iconst (v := 1) hx hb dX10_areJoined_62 (by decide) ?_
                refine lv_goto (tgt := 67) hx hb dX10_areJoined_63 (by decide) ?_
                refine lv_istore_n (lv' := [(3, .int 1), (0, .ref (b 39)), (1, .int x), (2, .int y), (4, .int y5_4)]) hx hb dX10_areJoined_67 rfl hl (by decide) rfl (fun ls hl => ?_)
                obtain ⟨z18, ez18⟩ : ∃ y : Int32, y = y5_4 + 1 := ⟨_, rfl⟩
                have iz18 : z18.toInt = y5_4.toInt + 1 := by rw [ez18]; exact addC rfl rfl (by omega) (by omega)
                refine lv_iinc (v := z18) (lv' := [(4, .int z18), (3, .int 1), (0, .ref (b 39)), (1, .int x), (2, .int y)]) hx hb dX10_areJoined_68 hl (k := 4) rfl (by rw [ez18]; rfl) (by decide) rfl (fun ls hl => ?_)
                refine lv_goto (tgt := 5) hx hb dX10_areJoined_71 (by decide) ?_
                have kc19 : (1 : Int32).toInt = 1 := rfl
                exact ih5 1 z18 _ (by omega) (by omega) (by (first | exact jk_was i5_2 (by assumption) (by first | rfl | assumption) (by omega) | exact jk_miss (c := y5_4) i5_2 (by assumption) (by omega) (by omega) (by first | rfl | assumption) (by omega) | exact jk_init (by first | rfl | omega) (by first | rfl | assumption) | exact jk_hit (c := y5_4) (by omega) (by omega) (by first | rfl | assumption) (by omega))) (by omega) (by omega) (lv_sub hl [2, 3, 4, 1, 0] rfl)
          · have dc7 : (mdA y5_4.toNatClampNeg).toInt = x.toInt := eqC rfl rfl c7
            refine lv_aload_n hx hb dX10_areJoined_29 rfl (lv_at hl 0 rfl) ?_
            refine va_get (D := (dC, dI)) (ci := 10) (v := .ref (b 3)) (C := RX10) (T := TX10) (N := 39) hx hb hts inX10 hown hK hP 0 rfl rfl 3 (by decide) lf13 (fun _ h9 => h9) rfl dX10_areJoined_30 ?_
            refine lv_iload hx hb dX10_areJoined_33 (lv_at hl 4 rfl) ?_
            have b20 : vp_in y5_4 14 := inC rfl (by omega) (by omega)
            refine va_iald hx hb hK hP 2 0 rfl rfl b20 dX10_areJoined_35 ?_
            have g21 : 0 ≤ (mdB y5_4.toNatClampNeg).toInt ∧ (mdB y5_4.toNatClampNeg).toInt ≤ 7 := rg_at r_mdB b20
            refine lv_iload_n hx hb dX10_areJoined_36 rfl (lv_at hl 2 rfl) ?_
            refine lv_icmp_eq (tgt := 62) hx hb dX10_areJoined_37 (by decide) (fun c22 => ?_) (fun c22 => ?_)
            · have dc22 : (mdB y5_4.toNatClampNeg).toInt = y.toInt := eqC rfl rfl c22
              refine lv_iconst (v := 1) hx hb dX10_areJoined_62 (by decide) ?_
              refine lv_goto (tgt := 67) hx hb dX10_areJoined_63 (by decide) ?_
              refine lv_istore_n (lv' := [(3, .int 1), (0, .ref (b 39)), (1, .int x), (2, .int y), (4, .int y5_4)]) hx hb dX10_areJoined_67 rfl hl (by decide) rfl (fun ls hl => ?_)
              obtain ⟨z23, ez23⟩ : ∃ y : Int32, y = y5_4 + 1 := ⟨_, rfl⟩
              have iz23 : z23.toInt = y5_4.toInt + 1 := by rw [ez23]; exact addC rfl rfl (by omega) (by omega)
              refine lv_iinc (v := z23) (lv' := [(4, .int z23), (3, .int 1), (0, .ref (b 39)), (1, .int x), (2, .int y)]) hx hb dX10_areJoined_68 hl (k := 4) rfl (by rw [ez23]; rfl) (by decide) rfl (fun ls hl => ?_)
              refine lv_goto (tgt := 5) hx hb dX10_areJoined_71 (by decide) ?_
              have kc24 : (1 : Int32).toInt = 1 := rfl
              exact ih5 1 z23 _ (by omega) (by omega) (by (first | exact jk_was i5_2 (by assumption) (by first | rfl | assumption) (by omega) | exact jk_miss (c := y5_4) i5_2 (by assumption) (by omega) (by omega) (by first | rfl | assumption) (by omega) | exact jk_init (by first | rfl | omega) (by first | rfl | assumption) | exact jk_hit (c := y5_4) (by omega) (by omega) (by first | rfl | assumption) (by omega))) (by omega) (by omega) (lv_sub hl [2, 3, 4, 1, 0] rfl)
            · have dc22 : (mdB y5_4.toNatClampNeg).toInt ≠ y.toInt := neC rfl rfl c22
              refine lv_aload_n hx hb dX10_areJoined_40 rfl (lv_at hl 0 rfl) ?_
              refine va_get (D := (dC, dI)) (ci := 10) (v := .ref (b 2)) (C := RX10) (T := TX10) (N := 39) hx hb hts inX10 hown hK hP 0 rfl rfl 2 (by decide) lf7 (fun _ h9 => h9) rfl dX10_areJoined_41 ?_
              refine lv_iload hx hb dX10_areJoined_44 (lv_at hl 4 rfl) ?_
              have b25 : vp_in y5_4 14 := inC rfl (by omega) (by omega)
              refine va_iald hx hb hK hP 1 0 rfl rfl b25 dX10_areJoined_46 ?_
              have g26 : 0 ≤ (mdA y5_4.toNatClampNeg).toInt ∧ (mdA y5_4.toNatClampNeg).toInt ≤ 7 := rg_at r_mdA b25
              refine lv_iload_n hx hb dX10_areJoined_47 rfl (lv_at hl 2 rfl) ?_
              refine lv_icmp_ne (tgt := 66) hx hb dX10_areJoined_48 (by decide) (fun c27 => ?_) (fun c27 => ?_)
              · have dc27 : (mdA y5_4.toNatClampNeg).toInt ≠ y.toInt := neC rfl rfl c27
                refine lv_iconst (v := 0) hx hb dX10_areJoined_66 (by decide) ?_
                refine lv_istore_n (lv' := [(3, .int 0), (0, .ref (b 39)), (1, .int x), (2, .int y), (4, .int y5_4)]) hx hb dX10_areJoined_67 rfl hl (by decide) rfl (fun ls hl => ?_)
                obtain ⟨z28, ez28⟩ : ∃ y : Int32, y = y5_4 + 1 := ⟨_, rfl⟩
                have iz28 : z28.toInt = y5_4.toInt + 1 := by rw [ez28]; exact addC rfl rfl (by omega) (by omega)
                refine lv_iinc (v := z28) (lv' := [(4, .int z28), (3, .int 0), (0, .ref (b 39)), (1, .int x), (2, .int y)]) hx hb dX10_areJoined_68 hl (k := 4) rfl (by rw [ez28]; rfl) (by decide) rfl (fun ls hl => ?_)
                refine lv_goto (tgt := 5) hx hb dX10_areJoined_71 (by decide) ?_
                have kc29 : (0 : Int32).toInt = 0 := rfl
                exact ih5 0 z28 _ (by omega) (by omega) (by (first | exact jk_was i5_2 (by assumption) (by first | rfl | assumption) (by omega) | exact jk_miss (c := y5_4) i5_2 (by assumption) (by omega) (by omega) (by first | rfl | assumption) (by omega) | exact jk_init (by first | rfl | omega) (by first | rfl | assumption) | exact jk_hit (c := y5_4) (by omega) (by omega) (by first | rfl | assumption) (by omega))) (by omega) (by omega) (lv_sub hl [2, 3, 4, 1, 0] rfl)
              · have dc27 : (mdA y5_4.toNatClampNeg).toInt = y.toInt := eqC rfl rfl c27
                refine lv_aload_n hx hb dX10_areJoined_51 rfl (lv_at hl 0 rfl) ?_
                refine va_get (D := (dC, dI)) (ci := 10) (v := .ref (b 3)) (C := RX10) (T := TX10) (N := 39) hx hb hts inX10 hown hK hP 0 rfl rfl 3 (by decide) lf13 (fun _ h9 => h9) rfl dX10_areJoined_52 ?_
                refine lv_iload hx hb dX10_areJoined_55 (lv_at hl 4 rfl) ?_
                have b30 : vp_in y5_4 14 := inC rfl (by omega) (by omega)
                refine va_iald hx hb hK hP 2 0 rfl rfl b30 dX10_areJoined_57 ?_
                have g31 : 0 ≤ (mdB y5_4.toNatClampNeg).toInt ∧ (mdB y5_4.toNatClampNeg).toInt ≤ 7 := rg_at r_mdB b30
                refine lv_iload_n hx hb dX10_areJoined_58 rfl (lv_at hl 1 rfl) ?_
                refine lv_icmp_ne (tgt := 66) hx hb dX10_areJoined_59 (by decide) (fun c32 => ?_) (fun c32 => ?_)
                · have dc32 : (mdB y5_4.toNatClampNeg).toInt ≠ x.toInt := neC rfl rfl c32
                  refine lv_iconst (v := 0) hx hb dX10_areJoined_66 (by decide) ?_
                  refine lv_istore_n (lv' := [(3, .int 0), (0, .ref (b 39)), (1, .int x), (2, .int y), (4, .int y5_4)]) hx hb dX10_areJoined_67 rfl hl (by decide) rfl (fun ls hl => ?_)
                  obtain ⟨z33, ez33⟩ : ∃ y : Int32, y = y5_4 + 1 := ⟨_, rfl⟩
                  have iz33 : z33.toInt = y5_4.toInt + 1 := by rw [ez33]; exact addC rfl rfl (by omega) (by omega)
                  refine lv_iinc (v := z33) (lv' := [(4, .int z33), (3, .int 0), (0, .ref (b 39)), (1, .int x), (2, .int y)]) hx hb dX10_areJoined_68 hl (k := 4) rfl (by rw [ez33]; rfl) (by decide) rfl (fun ls hl => ?_)
                  refine lv_goto (tgt := 5) hx hb dX10_areJoined_71 (by decide) ?_
                  have kc34 : (0 : Int32).toInt = 0 := rfl
                  exact ih5 0 z33 _ (by omega) (by omega) (by (first | exact jk_was i5_2 (by assumption) (by first | rfl | assumption) (by omega) | exact jk_miss (c := y5_4) i5_2 (by assumption) (by omega) (by omega) (by first | rfl | assumption) (by omega) | exact jk_init (by first | rfl | omega) (by first | rfl | assumption) | exact jk_hit (c := y5_4) (by omega) (by omega) (by first | rfl | assumption) (by omega))) (by omega) (by omega) (lv_sub hl [2, 3, 4, 1, 0] rfl)
                · have dc32 : (mdB y5_4.toNatClampNeg).toInt = x.toInt := eqC rfl rfl c32
                  refine lv_iconst (v := 1) hx hb dX10_areJoined_62 (by decide) ?_
                  refine lv_goto (tgt := 67) hx hb dX10_areJoined_63 (by decide) ?_
                  refine lv_istore_n (lv' := [(3, .int 1), (0, .ref (b 39)), (1, .int x), (2, .int y), (4, .int y5_4)]) hx hb dX10_areJoined_67 rfl hl (by decide) rfl (fun ls hl => ?_)
                  obtain ⟨z35, ez35⟩ : ∃ y : Int32, y = y5_4 + 1 := ⟨_, rfl⟩
                  have iz35 : z35.toInt = y5_4.toInt + 1 := by rw [ez35]; exact addC rfl rfl (by omega) (by omega)
                  refine lv_iinc (v := z35) (lv' := [(4, .int z35), (3, .int 1), (0, .ref (b 39)), (1, .int x), (2, .int y)]) hx hb dX10_areJoined_68 hl (k := 4) rfl (by rw [ez35]; rfl) (by decide) rfl (fun ls hl => ?_)
                  refine lv_goto (tgt := 5) hx hb dX10_areJoined_71 (by decide) ?_
                  have kc36 : (1 : Int32).toInt = 1 := rfl
                  exact ih5 1 z35 _ (by omega) (by omega) (by (first | exact jk_was i5_2 (by assumption) (by first | rfl | assumption) (by omega) | exact jk_miss (c := y5_4) i5_2 (by assumption) (by omega) (by omega) (by first | rfl | assumption) (by omega) | exact jk_init (by first | rfl | omega) (by first | rfl | assumption) | exact jk_hit (c := y5_4) (by omega) (by omega) (by first | rfl | assumption) (by omega))) (by omega) (by omega) (lv_sub hl [2, 3, 4, 1, 0] rfl)
  have kc37 : (0 : Int32).toInt = 0 := rfl
  exact L5 _ 0 0 _ (by omega) (by omega) (by (first | exact jk_init (by first | rfl | omega) (by first | rfl | assumption) | exact jk_was i5_2 (by assumption) (by first | rfl | assumption) (by omega) | exact jk_hit (c := y5_4) (by omega) (by omega) (by first | rfl | assumption) (by omega) | exact jk_miss (c := y5_4) i5_2 (by assumption) (by omega) (by omega) (by first | rfl | assumption) (by omega))) (by omega) (Nat.lt_succ_self _) (lv_sub hl [2, 3, 4, 1, 0] rfl)
set_option maxHeartbeats 4000000 in
set_option maxRecDepth 100000 in
theorem k_X10_door2 (l : Launch) (dC : Nat → ClassId) (dI : Nat → Nat → Nat) (cI cZ cQ : ClassId) (b : Nat → Nat) (mday : Int32) (mdoo : Int32) (mdA : Nat → Int32) (mdB : Nat → Int32) (mfar : Nat → Int32) (mmar : Nat → Int32) (mtel : Int32) (mgai : Int32) (mfal : Nat → Int32) (mtop : Nat → Int32) (mstr : Nat → Int32) (mgho : Nat → Int32) (mfai : Nat → Int32) (mpto : Nat → Int32) (mwal : Nat → Int32) (mahd : Nat → Int32) (mahf : Nat → Int32) (mcho : Nat → Int32) (mbes : Nat → Int32) (mbyt : Int32) (mtxt : Nat → Int32) (mpos : Int32) (mtka : Int32) (mtok : Int64) (mdig : Int32) (mnum : Int32) (mfau : Int32) (mrdm : Int32) (mrea : Nat → Int32) (mlin : Int32) (mlne : Nat → Int32) (mthg : Nat → Int32) (mord : Nat → Int32) (mbor : Nat → Int32) (mbsm : Int32) (mans : Nat → Int32) (mand : Nat → Int32) (manr : Nat → Int32) (mali : Nat → Int32) (sz : Nat) (x : Int32) (y : Int32) (r_mday : 0 ≤ mday.toInt ∧ mday.toInt ≤ 400) (r_mdoo : 0 ≤ mdoo.toInt ∧ mdoo.toInt ≤ 14) (r_mdA : rg 14 (0) (7) mdA) (r_mdB : rg 14 (0) (7) mdB) (r_mmar : rg 24 (0) (255) mmar) (r_mgai : 0 ≤ mgai.toInt ∧ mgai.toInt ≤ 100) (r_mfal : rg 11 (0) (30) mfal) (r_mtop : rg 48 (-1) (23) mtop) (r_mstr : rg 48 (0) (100) mstr) (r_mgho : rg 48 (-1) (23) mgho) (r_mfai : rg 48 (0) (100) mfai) (r_mahd : rg 240 (0) (100) mahd) (r_mahf : rg 240 (0) (100) mahf) (r_mcho : rg 5 (-1) (9) mcho) (r_mbyt : 0 ≤ mbyt.toInt ∧ mbyt.toInt ≤ 160) (r_mpos : 0 ≤ mpos.toInt ∧ mpos.toInt ≤ 160) (r_mrdm : 0 ≤ mrdm.toInt ∧ mrdm.toInt ≤ 10) (r_mlin : 0 ≤ mlin.toInt ∧ mlin.toInt ≤ 10) (r_mthg : rg 8 (0) (31) mthg) (r_mord : rg 8 (-1) (8) mord) (r_mans : rg 4 (0) (12) mans) : KW l yX10_door wsX10_door { frames := 2, cells := 0, slots := 0, locals := 42 } (dC, dI) (TY cI cZ cQ) (wMod cI cZ cQ b mday mdoo mdA mdB mfar mmar mtel mgai mfal mtop mstr mgho mfai mpto mwal mahd mahf mcho mbes mbyt mtxt mpos mtka mtok mdig mnum mfau mrdm mrea mlin mlne mthg mord mbor mbsm mans mand manr mali) [.ref (b 39), .int x, .int y] sz 0 0 (fun (r : Int32) (u : US) => (spDorM mdA mdB mdoo x y r (u.1 0) (u.1 1) (u.1 2 0)) ∧ (rg 14 (0) (7) (u.1 0)) ∧ (rg 14 (0) (7) (u.1 1)) ∧ (0 ≤ (u.1 2 0).toInt ∧ (u.1 2 0).toInt ≤ 14)) (fun u : US => (wMod cI cZ cQ b mday (u.1 2 0) (u.1 0) (u.1 1) mfar mmar mtel mgai mfal mtop mstr mgho mfai mpto mwal mahd mahf mcho mbes mbyt mtxt mpos mtka mtok mdig mnum mfau mrdm mrea mlin mlne mthg mord mbor mbsm mans mand manr mali)) := by
  refine Met.ofW (cc := cX10_door) (maxL := 3) (ret := (some .int)) (by decide) rfl ?_
  intro p e s m args below meth c s₁ B hml hv
  obtain ⟨rfl, hsz, hP, hK, hD0, hN⟩ := hv
  have hx := B.exec
  have hb := B.bytes
  have hr := B.returns
  have hts := atoms_spec (ws := wsX10_door) B.pre
  have hown : s.vm.findClass RX10 = some m.cls := findClass_of_methodNamed B.named
  have hlocks := B.notSynchronized
  have lf97 := hts (.fieldLink RX10 97 "PalaceOfRoomsModel" "doors" "I") (List.mem_cons_of_mem _ (List.mem_append_left _ (List.mem_of_getElem? (i := 0) rfl)))
  have inX10 : ∀ w ∈ wsX100, w ∈ wsX10_door := fun w h => List.mem_cons_of_mem _ (List.mem_append_right _ h)
  have lf7 := hts (.fieldLink RX10 7 "PalaceOfRoomsModel" "doorA" "[I") (List.mem_cons_of_mem _ (List.mem_append_left _ (List.mem_of_getElem? (i := 1) rfl)))
  have lf13 := hts (.fieldLink RX10 13 "PalaceOfRoomsModel" "doorB" "[I") (List.mem_cons_of_mem _ (List.mem_append_left _ (List.mem_of_getElem? (i := 2) rfl)))
  subst hsz
  have hD := hD0.self (sz := s.heap.size)
  generalize hAe : va_A (wMod cI cZ cQ b mday mdoo mdA mdB mfar mmar mtel mgai mfal mtop mstr mgho mfai mpto mwal mahd mahf mcho mbes mbyt mtxt mpos mtka mtok mdig mnum mfau mrdm mrea mlin mlne mthg mord mbor mbsm mans mand manr mali) s.heap.size = A at hD ⊢
  have hA : ∀ q : Nat, s.heap.size ≤ q → A q := fun q h => by rw [← hAe]; exact Or.inr h
  have hS : va_S A s.heap s.heap [] := va_S.rf
  have hl := lv_entry ([.ref (b 39), .int x, .int y]) (n := 3) (Nat.le_of_ble_eq_true rfl)
  rw [lg_entry_eq]
  generalize (lg_sl ([.ref (b 39), .int x, .int y]) ++ List.replicate (3 - (lg_sl ([.ref (b 39), .int x, .int y])).length) Slot.unset).toArray = ls at hl ⊢
  have hl : lv_has ls 3 [(0, .ref (b 39)), (1, .int x), (2, .int y)] := hl
  refine lv_iload_n hx hb dX10_door_0 rfl (lv_at hl 1 rfl) ?_
  refine rdS (As := [.int x]) (rest := []) ⟨hx, hb, hml, hown, hts⟩ (k_X10_isRoom l dC dI cI cZ cQ x) (va_cwS 1 hts gX10_door_X10_isRoom rfl rfl rfl (by decide +kernel) ⟨Nat.le_of_ble_eq_true rfl, Nat.le_of_ble_eq_true rfl⟩) hP hK hN [] rfl rfl hl.1 rfl (Nat.le_of_ble_eq_true rfl) dX10_door_1 ⟨Nat.le_of_ble_eq_true rfl, Nat.le_of_ble_eq_true rfl⟩ (fun r1 h2 => ?_)
  have h2 : ((((r1 = 1) ∧ (0 ≤ x.toInt) ∧ (x.toInt ≤ 7)) ∨ ((r1 = 0) ∧ (x.toInt < 0 ∨ 7 < x.toInt)))) := h2
  rcases h2 with (⟨rfl, h2_a0, h2_a1⟩ | ⟨rfl, h2_a0⟩)
  · refine lv_if_eq (tgt := 19) hx hb dX10_door_4 (by decide) (fun c9 => absurd c9 (by decide)) (fun _ => ?_)
    refine lv_iload_n hx hb dX10_door_7 rfl (lv_at hl 2 rfl) ?_
    refine rdS (As := [.int y]) (rest := []) ⟨hx, hb, hml, hown, hts⟩ (k_X10_isRoom l dC dI cI cZ cQ y) (va_cwS 1 hts gX10_door_X10_isRoom rfl rfl rfl (by decide +kernel) ⟨Nat.le_of_ble_eq_true rfl, Nat.le_of_ble_eq_true rfl⟩) hP hK hN [] rfl rfl hl.1 rfl (Nat.le_of_ble_eq_true rfl) dX10_door_8 ⟨Nat.le_of_ble_eq_true rfl, Nat.le_of_ble_eq_true rfl⟩ (fun r3 h4 => ?_)
    have h4 : ((((r3 = 1) ∧ (0 ≤ y.toInt) ∧ (y.toInt ≤ 7)) ∨ ((r3 = 0) ∧ (y.toInt < 0 ∨ 7 < y.toInt)))) := h4
    rcases h4 with (⟨rfl, h4_a0, h4_a1⟩ | ⟨rfl, h4_a0⟩)
    · refine lv_if_eq (tgt := 19) hx hb dX10_door_11 (by decide) (fun c9 => absurd c9 (by decide)) (fun _ => ?_)
      refine lv_iload_n hx hb dX10_door_14 rfl (lv_at hl 1 rfl) ?_
      refine lv_iload_n hx hb dX10_door_15 rfl (lv_at hl 2 rfl) ?_
      refine lv_icmp_ne (tgt := 22) hx hb dX10_door_16 (by decide) (fun c5 => ?_) (fun c5 => ?_)
      · have dc5 : x.toInt ≠ y.toInt := neC rfl rfl c5
        refine lv_aload_n hx hb dX10_door_22 rfl (lv_at hl 0 rfl) ?_
        refine lv_iload_n hx hb dX10_door_23 rfl (lv_at hl 1 rfl) ?_
        refine lv_iload_n hx hb dX10_door_24 rfl (lv_at hl 2 rfl) ?_
        refine rdV (As := [.int x, .int y]) (rest := []) ⟨hx, hb, hml, hown, hts⟩ (k_X10_areJoined2 l dC dI cI cZ cQ b mday mdoo mdA mdB mfar mmar mtel mgai mfal mtop mstr mgho mfai mpto mwal mahd mahf mcho mbes mbyt mtxt mpos mtka mtok mdig mnum mfau mrdm mrea mlin mlne mthg mord mbor mbsm mans mand manr mali x y r_mday r_mdoo r_mdA r_mdB r_mmar r_mgai r_mfal r_mtop r_mstr r_mgho r_mfai r_mahd r_mahf r_mcho r_mbyt r_mpos r_mrdm r_mlin r_mthg r_mord r_mans) (cwV 2 hts gX10_door_X10_areJoined rfl rfl rfl (by decide +kernel) ⟨Nat.le_of_ble_eq_true rfl, Nat.le_of_ble_eq_true rfl⟩) hP hK hN [0, 1, 2, 3, 4, 5, 6, 7, 8, 9, 10, 11, 12, 13, 14, 15, 16, 17, 18, 19, 20, 21, 22, 23, 24, 25] rfl 0 10 rfl rfl rfl hl.1 rfl (Nat.le_of_ble_eq_true rfl) dX10_door_25 ⟨Nat.le_of_ble_eq_true rfl, Nat.le_of_ble_eq_true rfl⟩ (fun r6 h7 => ?_)
        have h7 : ((((r6 = 1) ∧ (eD mdA mdB mdoo.toInt x.toInt y.toInt)) ∨ ((r6 = 0) ∧ (¬ eD mdA mdB mdoo.toInt x.toInt y.toInt)))) := h7
        rcases h7 with (⟨rfl, h7_a0⟩ | ⟨rfl, h7_a0⟩)
        · refine lv_if_eq (tgt := 34) hx hb dX10_door_28 (by decide) (fun c9 => absurd c9 (by decide)) (fun _ => ?_)
          refine lv_bipush (v := (-4)) hx hb dX10_door_31 (by decide) ?_
          exact W.iret (v := (-4)) hx hb hr (fun tq ht hW => ⟨⟨(-4), (uS [mdA, mdB, (fun _ => mdoo)] 0 (fun _ => 0)), rfl, ⟨(show spDorM mdA mdB mdoo x y ((-4) : Int32) mdA mdB mdoo from by (try rw [show ((-4) : Int32).toInt = (-4) from (show ((-4) : Int32).toInt = (-4) from rfl)]); (first | exact Or.inl ⟨by omega, rfl, rfl, rfl, rfl⟩ | exact Or.inr ⟨by omega, Or.inl ⟨by assumption, rfl, rfl, rfl, rfl⟩⟩ | exact Or.inr ⟨by omega, Or.inr ⟨by assumption, Or.inl ⟨by omega, rfl, rfl, rfl, rfl⟩⟩⟩ | exact Or.inr ⟨by omega, Or.inr ⟨by assumption, Or.inr ⟨by omega, by assumption, by assumption, by assumption, by assumption⟩⟩⟩)), r_mdA, r_mdB, r_mdoo⟩, by rw [ht]; exact hP, hD⟩, hS.F ht⟩) hS.2.2 dX10_door_33
        · refine lv_if_eq (tgt := 34) hx hb dX10_door_28 (by decide) (fun _ => ?_) (fun c9 => absurd (by decide) c9)
          refine lv_aload_n hx hb dX10_door_34 rfl (lv_at hl 0 rfl) ?_
          refine va_get (D := (dC, dI)) (ci := 10) (v := .int mdoo) (C := RX10) (T := TX10) (N := 39) hx hb hts inX10 hown hK hP 0 rfl rfl 1 (by decide) lf97 (fun _ h9 => h9) rfl dX10_door_35 ?_
          refine lv_bipush (v := 14) hx hb dX10_door_38 (by decide) ?_
          refine lv_icmp_ne (tgt := 46) hx hb dX10_door_40 (by decide) (fun c8 => ?_) (fun c8 => ?_)
          · have dc8 : mdoo.toInt ≤ 13 := ka_hi (by omega) (neC rfl (show (14 : Int32).toInt = 14 from rfl) c8)
            refine lv_aload_n hx hb dX10_door_46 rfl (lv_at hl 0 rfl) ?_
            refine va_get (D := (dC, dI)) (ci := 10) (v := .ref (b 2)) (C := RX10) (T := TX10) (N := 39) hx hb hts inX10 hown hK hP 0 rfl rfl 2 (by decide) lf7 (fun _ h9 => h9) rfl dX10_door_47 ?_
            refine lv_aload_n hx hb dX10_door_50 rfl (lv_at hl 0 rfl) ?_
            refine va_get (D := (dC, dI)) (ci := 10) (v := .int mdoo) (C := RX10) (T := TX10) (N := 39) hx hb hts inX10 hown hK hP 0 rfl rfl 1 (by decide) lf97 (fun _ h9 => h9) rfl dX10_door_51 ?_
            refine lv_iload_n hx hb dX10_door_54 rfl (lv_at hl 1 rfl) ?_
            have b9 : vp_in mdoo 14 := inC rfl (by omega) (by omega)
            have g10 : rg 14 (0) (7) (upd mdA mdoo.toNatClampNeg x) := rg_upd r_mdA rfl (by omega) (by omega)
            refine va_iast hx hb hK hP hD hS 1 0 rfl rfl b9 dX10_door_55 (fun H locs hP hD hS => ?_)
            obtain ⟨mdA_u11, emdA_u11⟩ : ∃ f : Nat → Int32, f = upd mdA mdoo.toNatClampNeg x := ⟨_, rfl⟩
            have rmdA_u11 : rg 14 (0) (7) mdA_u11 := by rw [emdA_u11]; exact g10
            have hP : va_P (dC, dI) vwCl (wMod cI cZ cQ b mday mdoo mdA_u11 mdB mfar mmar mtel mgai mfal mtop mstr mgho mfai mpto mwal mahd mahf mcho mbes mbyt mtxt mpos mtka mtok mdig mnum mfau mrdm mrea mlin mlne mthg mord mbor mbsm mans mand manr mali) H := by rw [emdA_u11]; exact hP
            have hD : va_D A (wMod cI cZ cQ b mday mdoo mdA_u11 mdB mfar mmar mtel mgai mfal mtop mstr mgho mfai mpto mwal mahd mahf mcho mbes mbyt mtxt mpos mtka mtok mdig mnum mfau mrdm mrea mlin mlne mthg mord mbor mbsm mans mand manr mali) := by rw [emdA_u11]; exact hD
            refine lv_aload_n hx hb dX10_door_56 rfl (lv_at hl 0 rfl) ?_
            refine va_get (D := (dC, dI)) (ci := 10) (v := .ref (b 3)) (C := RX10) (T := TX10) (N := 39) hx hb hts inX10 hown hK hP 0 rfl rfl 3 (by decide) lf13 (fun _ h9 => h9) rfl dX10_door_57 ?_
            refine lv_aload_n hx hb dX10_door_60 rfl (lv_at hl 0 rfl) ?_
            refine va_get (D := (dC, dI)) (ci := 10) (v := .int mdoo) (C := RX10) (T := TX10) (N := 39) hx hb hts inX10 hown hK hP 0 rfl rfl 1 (by decide) lf97 (fun _ h9 => h9) rfl dX10_door_61 ?_
            refine lv_iload_n hx hb dX10_door_64 rfl (lv_at hl 2 rfl) ?_
            have b12 : vp_in mdoo 14 := inC rfl (by omega) (by omega)
            have g13 : rg 14 (0) (7) (upd mdB mdoo.toNatClampNeg y) := rg_upd r_mdB rfl (by omega) (by omega)
            refine va_iast hx hb hK hP hD hS 2 0 rfl rfl b12 dX10_door_65 (fun H locs hP hD hS => ?_)
            obtain ⟨mdB_u14, emdB_u14⟩ : ∃ f : Nat → Int32, f = upd mdB mdoo.toNatClampNeg y := ⟨_, rfl⟩
            have rmdB_u14 : rg 14 (0) (7) mdB_u14 := by rw [emdB_u14]; exact g13
            have hP : va_P (dC, dI) vwCl (wMod cI cZ cQ b mday mdoo mdA_u11 mdB_u14 mfar mmar mtel mgai mfal mtop mstr mgho mfai mpto mwal mahd mahf mcho mbes mbyt mtxt mpos mtka mtok mdig mnum mfau mrdm mrea mlin mlne mthg mord mbor mbsm mans mand manr mali) H := by rw [emdB_u14]; exact hP
            have hD : va_D A (wMod cI cZ cQ b mday mdoo mdA_u11 mdB_u14 mfar mmar mtel mgai mfal mtop mstr mgho mfai mpto mwal mahd mahf mcho mbes mbyt mtxt mpos mtka mtok mdig mnum mfau mrdm mrea mlin mlne mthg mord mbor mbsm mans mand manr mali) := by rw [emdB_u14]; exact hD
            refine lv_aload_n hx hb dX10_door_66 rfl (lv_at hl 0 rfl) ?_
            refine lv_dup hx hb dX10_door_67 rfl ?_
            refine va_get (D := (dC, dI)) (ci := 10) (v := .int mdoo) (C := RX10) (T := TX10) (N := 39) hx hb hts inX10 hown hK hP 0 rfl rfl 1 (by decide) lf97 (fun _ h9 => h9) rfl dX10_door_68 ?_
            refine lv_iconst (v := 1) hx hb dX10_door_71 (by decide) ?_
            refine lv_iadd hx hb dX10_door_72 ?_
            have f15 : (mdoo + 1).toInt = (mdoo.toInt) + (1) := addC rfl (show (1 : Int32).toInt = 1 from rfl) (by omega) (by omega)
            refine lv_topi (fun x16 ex16 => ?_)
            have ix16 : x16.toInt = (mdoo.toInt) + (1) := by rw [ex16]; exact f15
            refine va_put (D := (dC, dI)) (ci := 10) (v := .int x16) (ty := .int) (C := RX10) (T := TX10) (N := 39) hx hb hts inX10 tyX10 tyX10_ok nmX10 hown hK hP hD hS 0 rfl rfl 1 (by decide) lf97 (fun _ h9 => h9) rfl (by decide +kernel) rfl rfl (Nat.le_of_ble_eq_true rfl) dX10_door_73 (fun H locs hP hD hS => ?_)
            have g17 : 0 ≤ x16.toInt ∧ x16.toInt ≤ 14 := by rw [show x16.toInt = x16.toInt from rfl]; exact ⟨by omega, by omega⟩
            have hP : va_P (dC, dI) vwCl (wMod cI cZ cQ b mday x16 mdA_u11 mdB_u14 mfar mmar mtel mgai mfal mtop mstr mgho mfai mpto mwal mahd mahf mcho mbes mbyt mtxt mpos mtka mtok mdig mnum mfau mrdm mrea mlin mlne mthg mord mbor mbsm mans mand manr mali) H := hP
            have hD : va_D A (wMod cI cZ cQ b mday x16 mdA_u11 mdB_u14 mfar mmar mtel mgai mfal mtop mstr mgho mfai mpto mwal mahd mahf mcho mbes mbyt mtxt mpos mtka mtok mdig mnum mfau mrdm mrea mlin mlne mthg mord mbor mbsm mans mand manr mali) := hD
            refine lv_aload_n hx hb dX10_door_76 rfl (lv_at hl 0 rfl) ?_
            refine va_get (D := (dC, dI)) (ci := 10) (v := .int x16) (C := RX10) (T := TX10) (N := 39) hx hb hts inX10 hown hK hP 0 rfl rfl 1 (by decide) lf97 (fun _ h9 => h9) rfl dX10_door_77 ?_
            exact W.iret (v := x16) hx hb hr (fun tq ht hW => ⟨⟨x16, (uS [mdA_u11, mdB_u14, (fun _ => x16)] 0 (fun _ => 0)), rfl, ⟨(show spDorM mdA mdB mdoo x y x16 mdA_u11 mdB_u14 x16 from by (first | exact Or.inl ⟨by omega, rfl, rfl, rfl, rfl⟩ | exact Or.inr ⟨by omega, Or.inl ⟨by assumption, rfl, rfl, rfl, rfl⟩⟩ | exact Or.inr ⟨by omega, Or.inr ⟨by assumption, Or.inl ⟨by omega, rfl, rfl, rfl, rfl⟩⟩⟩ | exact Or.inr ⟨by omega, Or.inr ⟨by assumption, Or.inr ⟨by omega, by assumption, by assumption, by assumption, by assumption⟩⟩⟩)), rmdA_u11, rmdB_u14, g17⟩, by rw [ht]; exact hP, hD⟩, hS.F ht⟩) hS.2.2 dX10_door_80
          · have dc8 : mdoo.toInt = 14 := eqC rfl (show (14 : Int32).toInt = 14 from rfl) c8
            refine lv_bipush (v := (-5)) hx hb dX10_door_43 (by decide) ?_
            exact W.iret (v := (-5)) hx hb hr (fun tq ht hW => ⟨⟨(-5), (uS [mdA, mdB, (fun _ => mdoo)] 0 (fun _ => 0)), rfl, ⟨(show spDorM mdA mdB mdoo x y ((-5) : Int32) mdA mdB mdoo from by (try rw [show ((-5) : Int32).toInt = (-5) from (show ((-5) : Int32).toInt = (-5) from rfl)]); (first | exact Or.inl ⟨by omega, rfl, rfl, rfl, rfl⟩ | exact Or.inr ⟨by omega, Or.inl ⟨by assumption, rfl, rfl, rfl, rfl⟩⟩ | exact Or.inr ⟨by omega, Or.inr ⟨by assumption, Or.inl ⟨by omega, rfl, rfl, rfl, rfl⟩⟩⟩ | exact Or.inr ⟨by omega, Or.inr ⟨by assumption, Or.inr ⟨by omega, by assumption, by assumption, by assumption, by assumption⟩⟩⟩)), r_mdA, r_mdB, r_mdoo⟩, by rw [ht]; exact hP, hD⟩, hS.F ht⟩) hS.2.2 dX10_door_45
      · have dc5 : x.toInt = y.toInt := eqC rfl rfl c5
        refine lv_bipush (v := (-2)) hx hb dX10_door_19 (by decide) ?_
        exact W.iret (v := (-2)) hx hb hr (fun tq ht hW => ⟨⟨(-2), (uS [mdA, mdB, (fun _ => mdoo)] 0 (fun _ => 0)), rfl, ⟨(show spDorM mdA mdB mdoo x y ((-2) : Int32) mdA mdB mdoo from by (try rw [show ((-2) : Int32).toInt = (-2) from (show ((-2) : Int32).toInt = (-2) from rfl)]); (first | exact Or.inl ⟨by omega, rfl, rfl, rfl, rfl⟩ | exact Or.inr ⟨by omega, Or.inl ⟨by assumption, rfl, rfl, rfl, rfl⟩⟩ | exact Or.inr ⟨by omega, Or.inr ⟨by assumption, Or.inl ⟨by omega, rfl, rfl, rfl, rfl⟩⟩⟩ | exact Or.inr ⟨by omega, Or.inr ⟨by assumption, Or.inr ⟨by omega, by assumption, by assumption, by assumption, by assumption⟩⟩⟩)), r_mdA, r_mdB, r_mdoo⟩, by rw [ht]; exact hP, hD⟩, hS.F ht⟩) hS.2.2 dX10_door_21
    · refine lv_if_eq (tgt := 19) hx hb dX10_door_11 (by decide) (fun _ => ?_) (fun c9 => absurd (by decide) c9)
      refine lv_bipush (v := (-2)) hx hb dX10_door_19 (by decide) ?_
      exact W.iret (v := (-2)) hx hb hr (fun tq ht hW => ⟨⟨(-2), (uS [mdA, mdB, (fun _ => mdoo)] 0 (fun _ => 0)), rfl, ⟨(show spDorM mdA mdB mdoo x y ((-2) : Int32) mdA mdB mdoo from by (try rw [show ((-2) : Int32).toInt = (-2) from (show ((-2) : Int32).toInt = (-2) from rfl)]); (first | exact Or.inl ⟨by omega, rfl, rfl, rfl, rfl⟩ | exact Or.inr ⟨by omega, Or.inl ⟨by assumption, rfl, rfl, rfl, rfl⟩⟩ | exact Or.inr ⟨by omega, Or.inr ⟨by assumption, Or.inl ⟨by omega, rfl, rfl, rfl, rfl⟩⟩⟩ | exact Or.inr ⟨by omega, Or.inr ⟨by assumption, Or.inr ⟨by omega, by assumption, by assumption, by assumption, by assumption⟩⟩⟩)), r_mdA, r_mdB, r_mdoo⟩, by rw [ht]; exact hP, hD⟩, hS.F ht⟩) hS.2.2 dX10_door_21
  · refine lv_if_eq (tgt := 19) hx hb dX10_door_4 (by decide) (fun _ => ?_) (fun c9 => absurd (by decide) c9)
    refine lv_bipush (v := (-2)) hx hb dX10_door_19 (by decide) ?_
    exact W.iret (v := (-2)) hx hb hr (fun tq ht hW => ⟨⟨(-2), (uS [mdA, mdB, (fun _ => mdoo)] 0 (fun _ => 0)), rfl, ⟨(show spDorM mdA mdB mdoo x y ((-2) : Int32) mdA mdB mdoo from by (try rw [show ((-2) : Int32).toInt = (-2) from (show ((-2) : Int32).toInt = (-2) from rfl)]); (first | exact Or.inl ⟨by omega, rfl, rfl, rfl, rfl⟩ | exact Or.inr ⟨by omega, Or.inl ⟨by assumption, rfl, rfl, rfl, rfl⟩⟩ | exact Or.inr ⟨by omega, Or.inr ⟨by assumption, Or.inl ⟨by omega, rfl, rfl, rfl, rfl⟩⟩⟩ | exact Or.inr ⟨by omega, Or.inr ⟨by assumption, Or.inr ⟨by omega, by assumption, by assumption, by assumption, by assumption⟩⟩⟩)), r_mdA, r_mdB, r_mdoo⟩, by rw [ht]; exact hP, hD⟩, hS.F ht⟩) hS.2.2 dX10_door_21
set_option maxHeartbeats 4000000 in
set_option maxRecDepth 100000 in
theorem k_X10_doorsTo2 (l : Launch) (dC : Nat → ClassId) (dI : Nat → Nat → Nat) (cI cZ cQ : ClassId) (b : Nat → Nat) (mday : Int32) (mdoo : Int32) (mdA : Nat → Int32) (mdB : Nat → Int32) (mfar : Nat → Int32) (mmar : Nat → Int32) (mtel : Int32) (mgai : Int32) (mfal : Nat → Int32) (mtop : Nat → Int32) (mstr : Nat → Int32) (mgho : Nat → Int32) (mfai : Nat → Int32) (mpto : Nat → Int32) (mwal : Nat → Int32) (mahd : Nat → Int32) (mahf : Nat → Int32) (mcho : Nat → Int32) (mbes : Nat → Int32) (mbyt : Int32) (mtxt : Nat → Int32) (mpos : Int32) (mtka : Int32) (mtok : Int64) (mdig : Int32) (mnum : Int32) (mfau : Int32) (mrdm : Int32) (mrea : Nat → Int32) (mlin : Int32) (mlne : Nat → Int32) (mthg : Nat → Int32) (mord : Nat → Int32) (mbor : Nat → Int32) (mbsm : Int32) (mans : Nat → Int32) (mand : Nat → Int32) (manr : Nat → Int32) (mali : Nat → Int32) (sz : Nat) (x : Int32) (y : Int32) (r_mday : 0 ≤ mday.toInt ∧ mday.toInt ≤ 400) (r_mdoo : 0 ≤ mdoo.toInt ∧ mdoo.toInt ≤ 14) (r_mdA : rg 14 (0) (7) mdA) (r_mdB : rg 14 (0) (7) mdB) (r_mmar : rg 24 (0) (255) mmar) (r_mgai : 0 ≤ mgai.toInt ∧ mgai.toInt ≤ 100) (r_mfal : rg 11 (0) (30) mfal) (r_mtop : rg 48 (-1) (23) mtop) (r_mstr : rg 48 (0) (100) mstr) (r_mgho : rg 48 (-1) (23) mgho) (r_mfai : rg 48 (0) (100) mfai) (r_mahd : rg 240 (0) (100) mahd) (r_mahf : rg 240 (0) (100) mahf) (r_mcho : rg 5 (-1) (9) mcho) (r_mbyt : 0 ≤ mbyt.toInt ∧ mbyt.toInt ≤ 160) (r_mpos : 0 ≤ mpos.toInt ∧ mpos.toInt ≤ 160) (r_mrdm : 0 ≤ mrdm.toInt ∧ mrdm.toInt ≤ 10) (r_mlin : 0 ≤ mlin.toInt ∧ mlin.toInt ≤ 10) (r_mthg : rg 8 (0) (31) mthg) (r_mord : rg 8 (-1) (8) mord) (r_mans : rg 4 (0) (12) mans) (q0 : 0 ≤ x.toInt) (q1 : x.toInt ≤ 7) (q2 : 0 ≤ y.toInt) (q3 : y.toInt ≤ 7) : KW l yX10_doorsTo wsX10_doorsTo { frames := 0, cells := 0, slots := 0, locals := 0 } (dC, dI) (TY cI cZ cQ) (wMod cI cZ cQ b mday mdoo mdA mdB mfar mmar mtel mgai mfal mtop mstr mgho mfai mpto mwal mahd mahf mcho mbes mbyt mtxt mpos mtka mtok mdig mnum mfau mrdm mrea mlin mlne mthg mord mbor mbsm mans mand manr mali) [.ref (b 39), .int x, .int y] sz 0 0 (fun (r : Int32) (u : US) => (dsR mdA mdB mdoo.toInt x y r) ∧ (-1 ≤ r.toInt) ∧ (r.toInt ≤ 99)) (fun u : US => (wMod cI cZ cQ b mday mdoo mdA mdB (u.1 0) mmar mtel mgai mfal mtop mstr mgho mfai mpto mwal mahd mahf mcho mbes mbyt mtxt mpos mtka mtok mdig mnum mfau mrdm mrea mlin mlne mthg mord mbor mbsm mans mand manr mali)) := by
  refine Met.ofW (cc := cX10_doorsTo) (maxL := 7) (ret := (some .int)) (by decide) rfl ?_
  intro p e s m args below meth c s₁ B hml hv
  obtain ⟨rfl, hsz, hP, hK, hD0, hN⟩ := hv
  have hx := B.exec
  have hb := B.bytes
  have hr := B.returns
  have hts := atoms_spec (ws := wsX10_doorsTo) B.pre
  have hown : s.vm.findClass RX10 = some m.cls := findClass_of_methodNamed B.named
  have hlocks := B.notSynchronized
  have lf16 := hts (.fieldLink RX10 16 "PalaceOfRoomsModel" "far" "[I") (List.mem_cons_of_mem _ (List.mem_append_left _ (List.mem_of_getElem? (i := 0) rfl)))
  have inX10 : ∀ w ∈ wsX100, w ∈ wsX10_doorsTo := fun w h => List.mem_cons_of_mem _ (List.mem_append_right _ h)
  have lf97 := hts (.fieldLink RX10 97 "PalaceOfRoomsModel" "doors" "I") (List.mem_cons_of_mem _ (List.mem_append_left _ (List.mem_of_getElem? (i := 1) rfl)))
  have lf7 := hts (.fieldLink RX10 7 "PalaceOfRoomsModel" "doorA" "[I") (List.mem_cons_of_mem _ (List.mem_append_left _ (List.mem_of_getElem? (i := 2) rfl)))
  have lf13 := hts (.fieldLink RX10 13 "PalaceOfRoomsModel" "doorB" "[I") (List.mem_cons_of_mem _ (List.mem_append_left _ (List.mem_of_getElem? (i := 3) rfl)))
  subst hsz
  have hD := hD0.self (sz := s.heap.size)
  generalize hAe : va_A (wMod cI cZ cQ b mday mdoo mdA mdB mfar mmar mtel mgai mfal mtop mstr mgho mfai mpto mwal mahd mahf mcho mbes mbyt mtxt mpos mtka mtok mdig mnum mfau mrdm mrea mlin mlne mthg mord mbor mbsm mans mand manr mali) s.heap.size = A at hD ⊢
  have hA : ∀ q : Nat, s.heap.size ≤ q → A q := fun q h => by rw [← hAe]; exact Or.inr h
  have hS : va_S A s.heap s.heap [] := va_S.rf
  have hl := lv_entry ([.ref (b 39), .int x, .int y]) (n := 7) (Nat.le_of_ble_eq_true rfl)
  rw [lg_entry_eq]
  generalize (lg_sl ([.ref (b 39), .int x, .int y]) ++ List.replicate (7 - (lg_sl ([.ref (b 39), .int x, .int y])).length) Slot.unset).toArray = ls at hl ⊢
  have hl : lv_has ls 7 [(0, .ref (b 39)), (1, .int x), (2, .int y)] := hl
  refine lv_iconst (v := 0) hx hb dX10_doorsTo_0 (by decide) ?_
  refine lv_istore_n (lv' := [(3, .int 0), (0, .ref (b 39)), (1, .int x), (2, .int y)]) hx hb dX10_doorsTo_1 rfl hl (by decide) rfl (fun ls hl => ?_)
  have L2 : ∀ (nn : Nat) (y2_3 : Int32) (mfar_2 : Nat → Int32) (H : Heap) (locs : List Loc) (ls : Array Slot), (0 ≤ (y2_3.toInt)) → ((y2_3.toInt) ≤ 8) → (fi8 x (y2_3.toInt) mfar_2) → (8 - (y2_3.toInt)).toNat < nn → va_P (dC, dI) vwCl (wMod cI cZ cQ b mday mdoo mdA mdB mfar_2 mmar mtel mgai mfal mtop mstr mgho mfai mpto mwal mahd mahf mcho mbes mbyt mtxt mpos mtka mtok mdig mnum mfau mrdm mrea mlin mlne mthg mord mbor mbsm mans mand manr mali) H → va_D A (wMod cI cZ cQ b mday mdoo mdA mdB mfar_2 mmar mtel mgai mfal mtop mstr mgho mfai mpto mwal mahd mahf mcho mbes mbyt mtxt mpos mtka mtok mdig mnum mfau mrdm mrea mlin mlne mthg mord mbor mbsm mans mand manr mali) → va_S A s.heap H locs → lv_has ls 7 [(0, .ref (b 39)), (1, .int x), (2, .int y), (3, .int y2_3)] → W p l e (headSpec wsX10_doorsTo { frames := 0, cells := 0, slots := 0, locals := 0 }).room s m ([.ref (b 39), .int x, .int y] : List Value).toArray below meth c H locs 0 0 (MQ below (va_Qi (fun (r : Int32) (u : US) => (dsR mdA mdB mdoo.toInt x y r) ∧ (-1 ≤ r.toInt) ∧ (r.toInt ≤ 99)) (Bw (dC, dI) A (fun u : US => (wMod cI cZ cQ b mday mdoo mdA mdB (u.1 0) mmar mtel mgai mfal mtop mstr mgho mfai mpto mwal mahd mahf mcho mbes mbyt mtxt mpos mtka mtok mdig mnum mfau mrdm mrea mlin mlne mthg mord mbor mbsm mans mand manr mali))) A) ([.ref (b 39), .int x, .int y] : List Value).toArray s 0 0 A) (F0 m 2 ls []) := by
    intro nn
    induction nn with
    | zero =>
      intro y2_3 mfar_2 H locs ls i2_0 i2_1 i2_2 hm2
      exact absurd hm2 (Nat.not_lt_zero _)
    | succ nn ih2 =>
      intro y2_3 mfar_2 H locs ls i2_0 i2_1 i2_2 hm2 hP hD hS hl
      refine lv_iload_n hx hb dX10_doorsTo_2 rfl (lv_at hl 3 rfl) ?_
      refine lv_bipush (v := 8) hx hb dX10_doorsTo_3 (by decide) ?_
      refine lv_icmp_ge (tgt := 31) hx hb dX10_doorsTo_5 (by decide) (fun c1 => ?_) (fun c1 => ?_)
      · have dc1 : 8 ≤ y2_3.toInt := leC (show (8 : Int32).toInt = 8 from rfl) rfl c1
        refine lv_iconst (v := 0) hx hb dX10_doorsTo_31 (by decide) ?_
        refine lv_istore_n (lv' := [(3, .int 0), (0, .ref (b 39)), (1, .int x), (2, .int y)]) hx hb dX10_doorsTo_32 rfl hl (by decide) rfl (fun ls hl => ?_)
        have L33 : ∀ (nn : Nat) (y33_3 : Int32) (mfar_33 : Nat → Int32) (H : Heap) (locs : List Loc) (ls : Array Slot), (0 ≤ (y33_3.toInt)) → ((y33_3.toInt) ≤ 8) → (dtI mdA mdB mdoo.toInt x.toInt.toNat (y33_3.toInt) mfar_33) → (8 - (y33_3.toInt)).toNat < nn → va_P (dC, dI) vwCl (wMod cI cZ cQ b mday mdoo mdA mdB mfar_33 mmar mtel mgai mfal mtop mstr mgho mfai mpto mwal mahd mahf mcho mbes mbyt mtxt mpos mtka mtok mdig mnum mfau mrdm mrea mlin mlne mthg mord mbor mbsm mans mand manr mali) H → va_D A (wMod cI cZ cQ b mday mdoo mdA mdB mfar_33 mmar mtel mgai mfal mtop mstr mgho mfai mpto mwal mahd mahf mcho mbes mbyt mtxt mpos mtka mtok mdig mnum mfau mrdm mrea mlin mlne mthg mord mbor mbsm mans mand manr mali) → va_S A s.heap H locs → lv_has ls 7 [(0, .ref (b 39)), (2, .int y), (3, .int y33_3)] → W p l e (headSpec wsX10_doorsTo { frames := 0, cells := 0, slots := 0, locals := 0 }).room s m ([.ref (b 39), .int x, .int y] : List Value).toArray below meth c H locs 0 0 (MQ below (va_Qi (fun (r : Int32) (u : US) => (dsR mdA mdB mdoo.toInt x y r) ∧ (-1 ≤ r.toInt) ∧ (r.toInt ≤ 99)) (Bw (dC, dI) A (fun u : US => (wMod cI cZ cQ b mday mdoo mdA mdB (u.1 0) mmar mtel mgai mfal mtop mstr mgho mfai mpto mwal mahd mahf mcho mbes mbyt mtxt mpos mtka mtok mdig mnum mfau mrdm mrea mlin mlne mthg mord mbor mbsm mans mand manr mali))) A) ([.ref (b 39), .int x, .int y] : List Value).toArray s 0 0 A) (F0 m 33 ls []) := by
          intro nn
          induction nn with
          | zero =>
            intro y33_3 mfar_33 H locs ls i33_0 i33_1 i33_2 hm33
            exact absurd hm33 (Nat.not_lt_zero _)
          | succ nn ih33 =>
            intro y33_3 mfar_33 H locs ls i33_0 i33_1 i33_2 hm33 hP hD hS hl
            refine lv_iload_n hx hb dX10_doorsTo_33 rfl (lv_at hl 2 rfl) ?_
            refine lv_bipush (v := 8) hx hb dX10_doorsTo_34 (by decide) ?_
            refine lv_icmp_ge (tgt := 171) hx hb dX10_doorsTo_36 (by decide) (fun c2 => ?_) (fun c2 => ?_)
            · have dc2 : 8 ≤ y33_3.toInt := leC (show (8 : Int32).toInt = 8 from rfl) rfl c2
              have wE := i33_2.1 y.toNatClampNeg (by rw [clC (x := y) rfl]; omega)
              refine lv_aload_n hx hb dX10_doorsTo_171 rfl (lv_at hl 0 rfl) ?_
              refine va_get (D := (dC, dI)) (ci := 10) (v := .ref (b 4)) (C := RX10) (T := TX10) (N := 39) hx hb hts inX10 hown hK hP 0 rfl rfl 4 (by decide) lf16 (fun _ h9 => h9) rfl dX10_doorsTo_172 ?_
              refine lv_iload_n hx hb dX10_doorsTo_175 rfl (lv_at hl 1 rfl) ?_
              have b3 : vp_in y 8 := inC rfl (by omega) (by omega)
              refine va_iald hx hb hK hP 3 0 rfl rfl b3 dX10_doorsTo_176 ?_
              refine lv_bipush (v := 100) hx hb dX10_doorsTo_177 (by decide) ?_
              refine lv_icmp_lt (tgt := 186) hx hb dX10_doorsTo_179 (by decide) (fun c4 => ?_) (fun c4 => ?_)
              · have dc4 : (mfar_33 y.toNatClampNeg).toInt < 100 := ltC rfl (show (100 : Int32).toInt = 100 from rfl) c4
                refine lv_aload_n hx hb dX10_doorsTo_186 rfl (lv_at hl 0 rfl) ?_
                refine va_get (D := (dC, dI)) (ci := 10) (v := .ref (b 4)) (C := RX10) (T := TX10) (N := 39) hx hb hts inX10 hown hK hP 0 rfl rfl 4 (by decide) lf16 (fun _ h9 => h9) rfl dX10_doorsTo_187 ?_
                refine lv_iload_n hx hb dX10_doorsTo_190 rfl (lv_at hl 1 rfl) ?_
                have b5 : vp_in y 8 := inC rfl (by omega) (by omega)
                refine va_iald hx hb hK hP 3 0 rfl rfl b5 dX10_doorsTo_191 ?_
                exact W.iret (v := mfar_33 y.toNatClampNeg) hx hb hr (fun tq ht hW => ⟨⟨mfar_33 y.toNatClampNeg, (uS [mfar_33] 0 (fun _ => 0)), rfl, ⟨(show dsR mdA mdB mdoo.toInt x y (mfar_33 y.toNatClampNeg) from by (first | exact ds_no i33_2 (by omega) (by omega) (by omega) (by omega) | exact ds_yes i33_2 (by omega) (by omega) (by omega) rfl (by omega))), (show -1 ≤ (mfar_33 y.toNatClampNeg).toInt from by omega), (show (mfar_33 y.toNatClampNeg).toInt ≤ 99 from by omega)⟩, by rw [ht]; exact hP, hD⟩, hS.F ht⟩) hS.2.2 dX10_doorsTo_192
              · have dc4 : 100 ≤ (mfar_33 y.toNatClampNeg).toInt := nltC rfl (show (100 : Int32).toInt = 100 from rfl) c4
                refine lv_iconst (v := (-1)) hx hb dX10_doorsTo_182 (by decide) ?_
                refine lv_goto (tgt := 192) hx hb dX10_doorsTo_183 (by decide) ?_
                exact W.iret (v := (-1)) hx hb hr (fun tq ht hW => ⟨⟨(-1), (uS [mfar_33] 0 (fun _ => 0)), rfl, ⟨(show dsR mdA mdB mdoo.toInt x y ((-1) : Int32) from by (try rw [show ((-1) : Int32).toInt = (-1) from (show ((-1) : Int32).toInt = (-1) from rfl)]); (first | exact ds_no i33_2 (by omega) (by omega) (by omega) (by omega) | exact ds_yes i33_2 (by omega) (by omega) (by omega) rfl (by omega))), (show -1 ≤ ((-1) : Int32).toInt from by (try rw [show ((-1) : Int32).toInt = (-1) from (show ((-1) : Int32).toInt = (-1) from rfl)]); omega), (show ((-1) : Int32).toInt ≤ 99 from by (try rw [show ((-1) : Int32).toInt = (-1) from (show ((-1) : Int32).toInt = (-1) from rfl)]); omega)⟩, by rw [ht]; exact hP, hD⟩, hS.F ht⟩) hS.2.2 dX10_doorsTo_192
            · have dc2 : y33_3.toInt < 8 := nleC (show (8 : Int32).toInt = 8 from rfl) rfl c2
              refine lv_iconst (v := 0) hx hb dX10_doorsTo_39 (by decide) ?_
              refine lv_istore (lv' := [(4, .int 0), (0, .ref (b 39)), (2, .int y), (3, .int y33_3)]) hx hb dX10_doorsTo_40 hl (by decide) rfl (fun ls hl => ?_)
              have L42 : ∀ (nn : Nat) (y42_4 : Int32) (mfar_42 : Nat → Int32) (H : Heap) (locs : List Loc) (ls : Array Slot), (0 ≤ (y42_4.toInt)) → ((y42_4.toInt) ≤ 14) → (dkI mdA mdB mdoo.toInt x.toInt.toNat (y42_4.toInt) mfar_33 mfar_42) → (14 - (y42_4.toInt)).toNat < nn → va_P (dC, dI) vwCl (wMod cI cZ cQ b mday mdoo mdA mdB mfar_42 mmar mtel mgai mfal mtop mstr mgho mfai mpto mwal mahd mahf mcho mbes mbyt mtxt mpos mtka mtok mdig mnum mfau mrdm mrea mlin mlne mthg mord mbor mbsm mans mand manr mali) H → va_D A (wMod cI cZ cQ b mday mdoo mdA mdB mfar_42 mmar mtel mgai mfal mtop mstr mgho mfai mpto mwal mahd mahf mcho mbes mbyt mtxt mpos mtka mtok mdig mnum mfau mrdm mrea mlin mlne mthg mord mbor mbsm mans mand manr mali) → va_S A s.heap H locs → lv_has ls 7 [(0, .ref (b 39)), (2, .int y), (3, .int y33_3), (4, .int y42_4)] → W p l e (headSpec wsX10_doorsTo { frames := 0, cells := 0, slots := 0, locals := 0 }).room s m ([.ref (b 39), .int x, .int y] : List Value).toArray below meth c H locs 0 0 (MQ below (va_Qi (fun (r : Int32) (u : US) => (dsR mdA mdB mdoo.toInt x y r) ∧ (-1 ≤ r.toInt) ∧ (r.toInt ≤ 99)) (Bw (dC, dI) A (fun u : US => (wMod cI cZ cQ b mday mdoo mdA mdB (u.1 0) mmar mtel mgai mfal mtop mstr mgho mfai mpto mwal mahd mahf mcho mbes mbyt mtxt mpos mtka mtok mdig mnum mfau mrdm mrea mlin mlne mthg mord mbor mbsm mans mand manr mali))) A) ([.ref (b 39), .int x, .int y] : List Value).toArray s 0 0 A) (F0 m 42 ls []) := by
                intro nn
                induction nn with
                | zero =>
                  intro y42_4 mfar_42 H locs ls i42_0 i42_1 i42_2 hm42
                  exact absurd hm42 (Nat.not_lt_zero _)
                | succ nn ih42 =>
                  intro y42_4 mfar_42 H locs ls i42_0 i42_1 i42_2 hm42 hP hD hS hl
                  refine lv_iload hx hb dX10_doorsTo_42 (lv_at hl 3 rfl) ?_
                  refine lv_aload_n hx hb dX10_doorsTo_44 rfl (lv_at hl 0 rfl) ?_
                  refine va_get (D := (dC, dI)) (ci := 10) (v := .int mdoo) (C := RX10) (T := TX10) (N := 39) hx hb hts inX10 hown hK hP 0 rfl rfl 1 (by decide) lf97 (fun _ h9 => h9) rfl dX10_doorsTo_45 ?_
                  refine lv_icmp_ge (tgt := 165) hx hb dX10_doorsTo_48 (by decide) (fun c6 => ?_) (fun c6 => ?_)
                  · have dc6 : mdoo.toInt ≤ y42_4.toInt := leC rfl rfl c6
                    obtain ⟨z7, ez7⟩ : ∃ y : Int32, y = y33_3 + 1 := ⟨_, rfl⟩
                    have iz7 : z7.toInt = y33_3.toInt + 1 := by rw [ez7]; exact addC rfl rfl (by omega) (by omega)
                    refine lv_iinc (v := z7) (lv' := [(3, .int z7), (0, .ref (b 39)), (2, .int y), (4, .int y42_4)]) hx hb dX10_doorsTo_165 hl (k := 2) rfl (by rw [ez7]; rfl) (by decide) rfl (fun ls hl => ?_)
                    refine lv_goto (tgt := 33) hx hb dX10_doorsTo_168 (by decide) ?_
                    exact ih33 z7 mfar_42 _ _ _ (by omega) (by omega) (by (first | exact dk_end (by omega) r_mdA r_mdB (by omega) i33_2 i42_2 (by omega) (by omega) (by omega) | exact dt_init i2_2 (by omega) (by omega) (by first | rfl | omega))) (by omega) hP hD hS (lv_sub hl [1, 2, 0] rfl)
                  · have dc6 : y42_4.toInt < mdoo.toInt := nleC rfl rfl c6
                    refine lv_aload_n hx hb dX10_doorsTo_51 rfl (lv_at hl 0 rfl) ?_
                    refine va_get (D := (dC, dI)) (ci := 10) (v := .ref (b 2)) (C := RX10) (T := TX10) (N := 39) hx hb hts inX10 hown hK hP 0 rfl rfl 2 (by decide) lf7 (fun _ h9 => h9) rfl dX10_doorsTo_52 ?_
                    refine lv_iload hx hb dX10_doorsTo_55 (lv_at hl 3 rfl) ?_
                    have b8 : vp_in y42_4 14 := inC rfl (by omega) (by omega)
                    refine va_iald hx hb hK hP 1 0 rfl rfl b8 dX10_doorsTo_57 ?_
                    have g9 : 0 ≤ (mdA y42_4.toNatClampNeg).toInt ∧ (mdA y42_4.toNatClampNeg).toInt ≤ 7 := rg_at r_mdA b8
                    refine lv_topi (fun x10 ex10 => ?_)
                    have ix10 : x10.toInt = (mdA y42_4.toNatClampNeg).toInt := by rw [ex10]
                    refine lv_istore (lv' := [(5, .int x10), (0, .ref (b 39)), (2, .int y), (3, .int y33_3), (4, .int y42_4)]) hx hb dX10_doorsTo_58 hl (by decide) rfl (fun ls hl => ?_)
                    refine lv_aload_n hx hb dX10_doorsTo_60 rfl (lv_at hl 1 rfl) ?_
                    refine va_get (D := (dC, dI)) (ci := 10) (v := .ref (b 3)) (C := RX10) (T := TX10) (N := 39) hx hb hts inX10 hown hK hP 0 rfl rfl 3 (by decide) lf13 (fun _ h9 => h9) rfl dX10_doorsTo_61 ?_
                    refine lv_iload hx hb dX10_doorsTo_64 (lv_at hl 4 rfl) ?_
                    have b11 : vp_in y42_4 14 := inC rfl (by omega) (by omega)
                    refine va_iald hx hb hK hP 2 0 rfl rfl b11 dX10_doorsTo_66 ?_
                    have g12 : 0 ≤ (mdB y42_4.toNatClampNeg).toInt ∧ (mdB y42_4.toNatClampNeg).toInt ≤ 7 := rg_at r_mdB b11
                    refine lv_topi (fun x13 ex13 => ?_)
                    have ix13 : x13.toInt = (mdB y42_4.toNatClampNeg).toInt := by rw [ex13]
                    refine lv_istore (lv' := [(6, .int x13), (5, .int x10), (0, .ref (b 39)), (2, .int y), (3, .int y33_3), (4, .int y42_4)]) hx hb dX10_doorsTo_67 hl (by decide) rfl (fun ls hl => ?_)
                    have wF := dk_rg i33_2 i42_2
                    have wx := wF x10.toNatClampNeg (by rw [clC (x := x10) rfl]; omega)
                    have wy := wF x13.toNatClampNeg (by rw [clC (x := x13) rfl]; omega)
                    refine lv_aload_n hx hb dX10_doorsTo_69 rfl (lv_at hl 2 rfl) ?_
                    refine va_get (D := (dC, dI)) (ci := 10) (v := .ref (b 4)) (C := RX10) (T := TX10) (N := 39) hx hb hts inX10 hown hK hP 0 rfl rfl 4 (by decide) lf16 (fun _ h9 => h9) rfl dX10_doorsTo_70 ?_
                    refine lv_iload hx hb dX10_doorsTo_73 (lv_at hl 1 rfl) ?_
                    refine lv_aload_n hx hb dX10_doorsTo_75 rfl (lv_at hl 2 rfl) ?_
                    refine va_get (D := (dC, dI)) (ci := 10) (v := .ref (b 4)) (C := RX10) (T := TX10) (N := 39) hx hb hts inX10 hown hK hP 0 rfl rfl 4 (by decide) lf16 (fun _ h9 => h9) rfl dX10_doorsTo_76 ?_
                    refine lv_iload hx hb dX10_doorsTo_79 (lv_at hl 0 rfl) ?_
                    have b14 : vp_in x13 8 := inC rfl (by omega) (by omega)
                    refine va_iald hx hb hK hP 3 0 rfl rfl b14 dX10_doorsTo_81 ?_
                    refine lv_iconst (v := 1) hx hb dX10_doorsTo_82 (by decide) ?_
                    refine lv_iadd hx hb dX10_doorsTo_83 ?_
                    have f15 : ((mfar_42 x13.toNatClampNeg) + 1).toInt = ((mfar_42 x13.toNatClampNeg).toInt) + (1) := addC rfl (show (1 : Int32).toInt = 1 from rfl) (by omega) (by omega)
                    refine lv_aload_n hx hb dX10_doorsTo_84 rfl (lv_at hl 2 rfl) ?_
                    refine va_get (D := (dC, dI)) (ci := 10) (v := .ref (b 4)) (C := RX10) (T := TX10) (N := 39) hx hb hts inX10 hown hK hP 0 rfl rfl 4 (by decide) lf16 (fun _ h9 => h9) rfl dX10_doorsTo_85 ?_
                    refine lv_iload hx hb dX10_doorsTo_88 (lv_at hl 1 rfl) ?_
                    have b16 : vp_in x10 8 := inC rfl (by omega) (by omega)
                    refine va_iald hx hb hK hP 3 0 rfl rfl b16 dX10_doorsTo_90 ?_
                    refine lv_icmp_ge (tgt := 106) hx hb dX10_doorsTo_91 (by decide) (fun c17 => ?_) (fun c17 => ?_)
                    · have dc17 : (mfar_42 x10.toNatClampNeg).toInt ≤ ((mfar_42 x13.toNatClampNeg).toInt) + (1) := leC rfl f15 c17
                      refine lv_aload_n hx hb dX10_doorsTo_106 rfl (lv_at hl 2 rfl) ?_
                      refine va_get (D := (dC, dI)) (ci := 10) (v := .ref (b 4)) (C := RX10) (T := TX10) (N := 39) hx hb hts inX10 hown hK hP 0 rfl rfl 4 (by decide) lf16 (fun _ h9 => h9) rfl dX10_doorsTo_107 ?_
                      refine lv_iload hx hb dX10_doorsTo_110 (lv_at hl 1 rfl) ?_
                      have b18 : vp_in x10 8 := inC rfl (by omega) (by omega)
                      refine va_iald hx hb hK hP 3 0 rfl rfl b18 dX10_doorsTo_112 ?_
                      refine lv_topi (fun x19 ex19 => ?_)
                      have ix19 : x19.toInt = (mfar_42 x10.toNatClampNeg).toInt := by rw [ex19]
                      have b20 : vp_in x10 8 := inC rfl (by omega) (by omega)
                      refine va_iast hx hb hK hP hD hS 3 0 rfl rfl b20 dX10_doorsTo_113 (fun H locs hP hD hS => ?_)
                      obtain ⟨mfar_u21, emfar_u21⟩ : ∃ f : Nat → Int32, f = upd mfar_42 x10.toNatClampNeg x19 := ⟨_, rfl⟩
                      have hP : va_P (dC, dI) vwCl (wMod cI cZ cQ b mday mdoo mdA mdB mfar_u21 mmar mtel mgai mfal mtop mstr mgho mfai mpto mwal mahd mahf mcho mbes mbyt mtxt mpos mtka mtok mdig mnum mfau mrdm mrea mlin mlne mthg mord mbor mbsm mans mand manr mali) H := by rw [emfar_u21]; exact hP
                      have hD : va_D A (wMod cI cZ cQ b mday mdoo mdA mdB mfar_u21 mmar mtel mgai mfal mtop mstr mgho mfai mpto mwal mahd mahf mcho mbes mbyt mtxt mpos mtka mtok mdig mnum mfau mrdm mrea mlin mlne mthg mord mbor mbsm mans mand manr mali) := by rw [emfar_u21]; exact hD
                      have wG := rg_of wF emfar_u21 (by omega) (by omega)
                      have vx := wG x10.toNatClampNeg (by rw [clC (x := x10) rfl]; omega)
                      have vy := wG x13.toNatClampNeg (by rw [clC (x := x13) rfl]; omega)
                      refine lv_aload_n hx hb dX10_doorsTo_114 rfl (lv_at hl 2 rfl) ?_
                      refine va_get (D := (dC, dI)) (ci := 10) (v := .ref (b 4)) (C := RX10) (T := TX10) (N := 39) hx hb hts inX10 hown hK hP 0 rfl rfl 4 (by decide) lf16 (fun _ h9 => h9) rfl dX10_doorsTo_115 ?_
                      refine lv_iload hx hb dX10_doorsTo_118 (lv_at hl 0 rfl) ?_
                      refine lv_aload_n hx hb dX10_doorsTo_120 rfl (lv_at hl 2 rfl) ?_
                      refine va_get (D := (dC, dI)) (ci := 10) (v := .ref (b 4)) (C := RX10) (T := TX10) (N := 39) hx hb hts inX10 hown hK hP 0 rfl rfl 4 (by decide) lf16 (fun _ h9 => h9) rfl dX10_doorsTo_121 ?_
                      refine lv_iload hx hb dX10_doorsTo_124 (lv_at hl 1 rfl) ?_
                      have b22 : vp_in x10 8 := inC rfl (by omega) (by omega)
                      refine va_iald hx hb hK hP 3 0 rfl rfl b22 dX10_doorsTo_126 ?_
                      have o23 : (mfar_u21 x10.toNatClampNeg).toInt = x19.toInt := by rw [emfar_u21, pk_us]
                      refine lv_iconst (v := 1) hx hb dX10_doorsTo_127 (by decide) ?_
                      refine lv_iadd hx hb dX10_doorsTo_128 ?_
                      have f24 : ((mfar_u21 x10.toNatClampNeg) + 1).toInt = ((mfar_u21 x10.toNatClampNeg).toInt) + (1) := addC rfl (show (1 : Int32).toInt = 1 from rfl) (by omega) (by omega)
                      refine lv_aload_n hx hb dX10_doorsTo_129 rfl (lv_at hl 2 rfl) ?_
                      refine va_get (D := (dC, dI)) (ci := 10) (v := .ref (b 4)) (C := RX10) (T := TX10) (N := 39) hx hb hts inX10 hown hK hP 0 rfl rfl 4 (by decide) lf16 (fun _ h9 => h9) rfl dX10_doorsTo_130 ?_
                      refine lv_iload hx hb dX10_doorsTo_133 (lv_at hl 0 rfl) ?_
                      have b25 : vp_in x13 8 := inC rfl (by omega) (by omega)
                      refine va_iald hx hb hK hP 3 0 rfl rfl b25 dX10_doorsTo_135 ?_
                      refine lv_icmp_ge (tgt := 151) hx hb dX10_doorsTo_136 (by decide) (fun c26 => ?_) (fun c26 => ?_)
                      · have dc26 : (mfar_u21 x13.toNatClampNeg).toInt ≤ ((mfar_u21 x10.toNatClampNeg).toInt) + (1) := leC rfl f24 c26
                        refine lv_aload_n hx hb dX10_doorsTo_151 rfl (lv_at hl 2 rfl) ?_
                        refine va_get (D := (dC, dI)) (ci := 10) (v := .ref (b 4)) (C := RX10) (T := TX10) (N := 39) hx hb hts inX10 hown hK hP 0 rfl rfl 4 (by decide) lf16 (fun _ h9 => h9) rfl dX10_doorsTo_152 ?_
                        refine lv_iload hx hb dX10_doorsTo_155 (lv_at hl 0 rfl) ?_
                        have b27 : vp_in x13 8 := inC rfl (by omega) (by omega)
                        refine va_iald hx hb hK hP 3 0 rfl rfl b27 dX10_doorsTo_157 ?_
                        refine lv_topi (fun x28 ex28 => ?_)
                        have ix28 : x28.toInt = (mfar_u21 x13.toNatClampNeg).toInt := by rw [ex28]
                        have b29 : vp_in x13 8 := inC rfl (by omega) (by omega)
                        refine va_iast hx hb hK hP hD hS 3 0 rfl rfl b29 dX10_doorsTo_158 (fun H locs hP hD hS => ?_)
                        obtain ⟨mfar_u30, emfar_u30⟩ : ∃ f : Nat → Int32, f = upd mfar_u21 x13.toNatClampNeg x28 := ⟨_, rfl⟩
                        have hP : va_P (dC, dI) vwCl (wMod cI cZ cQ b mday mdoo mdA mdB mfar_u30 mmar mtel mgai mfal mtop mstr mgho mfai mpto mwal mahd mahf mcho mbes mbyt mtxt mpos mtka mtok mdig mnum mfau mrdm mrea mlin mlne mthg mord mbor mbsm mans mand manr mali) H := by rw [emfar_u30]; exact hP
                        have hD : va_D A (wMod cI cZ cQ b mday mdoo mdA mdB mfar_u30 mmar mtel mgai mfal mtop mstr mgho mfai mpto mwal mahd mahf mcho mbes mbyt mtxt mpos mtka mtok mdig mnum mfau mrdm mrea mlin mlne mthg mord mbor mbsm mans mand manr mali) := by rw [emfar_u30]; exact hD
                        obtain ⟨z31, ez31⟩ : ∃ y : Int32, y = y42_4 + 1 := ⟨_, rfl⟩
                        have iz31 : z31.toInt = y42_4.toInt + 1 := by rw [ez31]; exact addC rfl rfl (by omega) (by omega)
                        refine lv_iinc (v := z31) (lv' := [(4, .int z31), (6, .int x13), (5, .int x10), (0, .ref (b 39)), (2, .int y), (3, .int y33_3)]) hx hb dX10_doorsTo_159 hl (k := 5) rfl (by rw [ez31]; rfl) (by decide) rfl (fun ls hl => ?_)
                        refine lv_goto (tgt := 42) hx hb dX10_doorsTo_162 (by decide) ?_
                        exact ih42 z31 mfar_u30 _ _ _ (by omega) (by omega) (by (first | exact dk_step (c := y42_4) (by omega) r_mdA r_mdB i33_2 i42_2 rfl (by omega) (by omega) (by omega) (by assumption) (by assumption) (by assumption) (by omega) (by assumption) (by omega) (by omega) | exact dk_init i33_2 (by first | rfl | omega))) (by omega) hP hD hS (lv_sub hl [3, 4, 5, 0] rfl)
                      · have dc26 : ((mfar_u21 x10.toNatClampNeg).toInt) + (1) < (mfar_u21 x13.toNatClampNeg).toInt := nleC rfl f24 c26
                        refine lv_aload_n hx hb dX10_doorsTo_139 rfl (lv_at hl 2 rfl) ?_
                        refine va_get (D := (dC, dI)) (ci := 10) (v := .ref (b 4)) (C := RX10) (T := TX10) (N := 39) hx hb hts inX10 hown hK hP 0 rfl rfl 4 (by decide) lf16 (fun _ h9 => h9) rfl dX10_doorsTo_140 ?_
                        refine lv_iload hx hb dX10_doorsTo_143 (lv_at hl 1 rfl) ?_
                        have b32 : vp_in x10 8 := inC rfl (by omega) (by omega)
                        refine va_iald hx hb hK hP 3 0 rfl rfl b32 dX10_doorsTo_145 ?_
                        have o33 : (mfar_u21 x10.toNatClampNeg).toInt = x19.toInt := by rw [emfar_u21, pk_us]
                        refine lv_iconst (v := 1) hx hb dX10_doorsTo_146 (by decide) ?_
                        refine lv_iadd hx hb dX10_doorsTo_147 ?_
                        have f34 : ((mfar_u21 x10.toNatClampNeg) + 1).toInt = ((mfar_u21 x10.toNatClampNeg).toInt) + (1) := addC rfl (show (1 : Int32).toInt = 1 from rfl) (by omega) (by omega)
                        refine lv_goto (tgt := 158) hx hb dX10_doorsTo_148 (by decide) ?_
                        refine lv_topi (fun x35 ex35 => ?_)
                        have ix35 : x35.toInt = ((mfar_u21 x10.toNatClampNeg).toInt) + (1) := by rw [ex35]; exact f34
                        have b36 : vp_in x13 8 := inC rfl (by omega) (by omega)
                        refine va_iast hx hb hK hP hD hS 3 0 rfl rfl b36 dX10_doorsTo_158 (fun H locs hP hD hS => ?_)
                        obtain ⟨mfar_u37, emfar_u37⟩ : ∃ f : Nat → Int32, f = upd mfar_u21 x13.toNatClampNeg x35 := ⟨_, rfl⟩
                        have hP : va_P (dC, dI) vwCl (wMod cI cZ cQ b mday mdoo mdA mdB mfar_u37 mmar mtel mgai mfal mtop mstr mgho mfai mpto mwal mahd mahf mcho mbes mbyt mtxt mpos mtka mtok mdig mnum mfau mrdm mrea mlin mlne mthg mord mbor mbsm mans mand manr mali) H := by rw [emfar_u37]; exact hP
                        have hD : va_D A (wMod cI cZ cQ b mday mdoo mdA mdB mfar_u37 mmar mtel mgai mfal mtop mstr mgho mfai mpto mwal mahd mahf mcho mbes mbyt mtxt mpos mtka mtok mdig mnum mfau mrdm mrea mlin mlne mthg mord mbor mbsm mans mand manr mali) := by rw [emfar_u37]; exact hD
                        obtain ⟨z38, ez38⟩ : ∃ y : Int32, y = y42_4 + 1 := ⟨_, rfl⟩
                        have iz38 : z38.toInt = y42_4.toInt + 1 := by rw [ez38]; exact addC rfl rfl (by omega) (by omega)
                        refine lv_iinc (v := z38) (lv' := [(4, .int z38), (6, .int x13), (5, .int x10), (0, .ref (b 39)), (2, .int y), (3, .int y33_3)]) hx hb dX10_doorsTo_159 hl (k := 5) rfl (by rw [ez38]; rfl) (by decide) rfl (fun ls hl => ?_)
                        refine lv_goto (tgt := 42) hx hb dX10_doorsTo_162 (by decide) ?_
                        exact ih42 z38 mfar_u37 _ _ _ (by omega) (by omega) (by (first | exact dk_step (c := y42_4) (by omega) r_mdA r_mdB i33_2 i42_2 rfl (by omega) (by omega) (by omega) (by assumption) (by assumption) (by assumption) (by omega) (by assumption) (by omega) (by omega) | exact dk_init i33_2 (by first | rfl | omega))) (by omega) hP hD hS (lv_sub hl [3, 4, 5, 0] rfl)
                    · have dc17 : ((mfar_42 x13.toNatClampNeg).toInt) + (1) < (mfar_42 x10.toNatClampNeg).toInt := nleC rfl f15 c17
                      refine lv_aload_n hx hb dX10_doorsTo_94 rfl (lv_at hl 2 rfl) ?_
                      refine va_get (D := (dC, dI)) (ci := 10) (v := .ref (b 4)) (C := RX10) (T := TX10) (N := 39) hx hb hts inX10 hown hK hP 0 rfl rfl 4 (by decide) lf16 (fun _ h9 => h9) rfl dX10_doorsTo_95 ?_
                      refine lv_iload hx hb dX10_doorsTo_98 (lv_at hl 0 rfl) ?_
                      have b39 : vp_in x13 8 := inC rfl (by omega) (by omega)
                      refine va_iald hx hb hK hP 3 0 rfl rfl b39 dX10_doorsTo_100 ?_
                      refine lv_iconst (v := 1) hx hb dX10_doorsTo_101 (by decide) ?_
                      refine lv_iadd hx hb dX10_doorsTo_102 ?_
                      have f40 : ((mfar_42 x13.toNatClampNeg) + 1).toInt = ((mfar_42 x13.toNatClampNeg).toInt) + (1) := addC rfl (show (1 : Int32).toInt = 1 from rfl) (by omega) (by omega)
                      refine lv_goto (tgt := 113) hx hb dX10_doorsTo_103 (by decide) ?_
                      refine lv_topi (fun x41 ex41 => ?_)
                      have ix41 : x41.toInt = ((mfar_42 x13.toNatClampNeg).toInt) + (1) := by rw [ex41]; exact f40
                      have b42 : vp_in x10 8 := inC rfl (by omega) (by omega)
                      refine va_iast hx hb hK hP hD hS 3 0 rfl rfl b42 dX10_doorsTo_113 (fun H locs hP hD hS => ?_)
                      obtain ⟨mfar_u43, emfar_u43⟩ : ∃ f : Nat → Int32, f = upd mfar_42 x10.toNatClampNeg x41 := ⟨_, rfl⟩
                      have hP : va_P (dC, dI) vwCl (wMod cI cZ cQ b mday mdoo mdA mdB mfar_u43 mmar mtel mgai mfal mtop mstr mgho mfai mpto mwal mahd mahf mcho mbes mbyt mtxt mpos mtka mtok mdig mnum mfau mrdm mrea mlin mlne mthg mord mbor mbsm mans mand manr mali) H := by rw [emfar_u43]; exact hP
                      have hD : va_D A (wMod cI cZ cQ b mday mdoo mdA mdB mfar_u43 mmar mtel mgai mfal mtop mstr mgho mfai mpto mwal mahd mahf mcho mbes mbyt mtxt mpos mtka mtok mdig mnum mfau mrdm mrea mlin mlne mthg mord mbor mbsm mans mand manr mali) := by rw [emfar_u43]; exact hD
                      have wG := rg_of wF emfar_u43 (by omega) (by omega)
                      have vx := wG x10.toNatClampNeg (by rw [clC (x := x10) rfl]; omega)
                      have vy := wG x13.toNatClampNeg (by rw [clC (x := x13) rfl]; omega)
                      refine lv_aload_n hx hb dX10_doorsTo_114 rfl (lv_at hl 2 rfl) ?_
                      refine va_get (D := (dC, dI)) (ci := 10) (v := .ref (b 4)) (C := RX10) (T := TX10) (N := 39) hx hb hts inX10 hown hK hP 0 rfl rfl 4 (by decide) lf16 (fun _ h9 => h9) rfl dX10_doorsTo_115 ?_
                      refine lv_iload hx hb dX10_doorsTo_118 (lv_at hl 0 rfl) ?_
                      refine lv_aload_n hx hb dX10_doorsTo_120 rfl (lv_at hl 2 rfl) ?_
                      refine va_get (D := (dC, dI)) (ci := 10) (v := .ref (b 4)) (C := RX10) (T := TX10) (N := 39) hx hb hts inX10 hown hK hP 0 rfl rfl 4 (by decide) lf16 (fun _ h9 => h9) rfl dX10_doorsTo_121 ?_
                      refine lv_iload hx hb dX10_doorsTo_124 (lv_at hl 1 rfl) ?_
                      have b44 : vp_in x10 8 := inC rfl (by omega) (by omega)
                      refine va_iald hx hb hK hP 3 0 rfl rfl b44 dX10_doorsTo_126 ?_
                      have o45 : (mfar_u43 x10.toNatClampNeg).toInt = x41.toInt := by rw [emfar_u43, pk_us]
                      refine lv_iconst (v := 1) hx hb dX10_doorsTo_127 (by decide) ?_
                      refine lv_iadd hx hb dX10_doorsTo_128 ?_
                      have f46 : ((mfar_u43 x10.toNatClampNeg) + 1).toInt = ((mfar_u43 x10.toNatClampNeg).toInt) + (1) := addC rfl (show (1 : Int32).toInt = 1 from rfl) (by omega) (by omega)
                      refine lv_aload_n hx hb dX10_doorsTo_129 rfl (lv_at hl 2 rfl) ?_
                      refine va_get (D := (dC, dI)) (ci := 10) (v := .ref (b 4)) (C := RX10) (T := TX10) (N := 39) hx hb hts inX10 hown hK hP 0 rfl rfl 4 (by decide) lf16 (fun _ h9 => h9) rfl dX10_doorsTo_130 ?_
                      refine lv_iload hx hb dX10_doorsTo_133 (lv_at hl 0 rfl) ?_
                      have b47 : vp_in x13 8 := inC rfl (by omega) (by omega)
                      refine va_iald hx hb hK hP 3 0 rfl rfl b47 dX10_doorsTo_135 ?_
                      refine lv_icmp_ge (tgt := 151) hx hb dX10_doorsTo_136 (by decide) (fun c48 => ?_) (fun c48 => ?_)
                      · have dc48 : (mfar_u43 x13.toNatClampNeg).toInt ≤ ((mfar_u43 x10.toNatClampNeg).toInt) + (1) := leC rfl f46 c48
                        refine lv_aload_n hx hb dX10_doorsTo_151 rfl (lv_at hl 2 rfl) ?_
                        refine va_get (D := (dC, dI)) (ci := 10) (v := .ref (b 4)) (C := RX10) (T := TX10) (N := 39) hx hb hts inX10 hown hK hP 0 rfl rfl 4 (by decide) lf16 (fun _ h9 => h9) rfl dX10_doorsTo_152 ?_
                        refine lv_iload hx hb dX10_doorsTo_155 (lv_at hl 0 rfl) ?_
                        have b49 : vp_in x13 8 := inC rfl (by omega) (by omega)
                        refine va_iald hx hb hK hP 3 0 rfl rfl b49 dX10_doorsTo_157 ?_
                        refine lv_topi (fun x50 ex50 => ?_)
                        have ix50 : x50.toInt = (mfar_u43 x13.toNatClampNeg).toInt := by rw [ex50]
                        have b51 : vp_in x13 8 := inC rfl (by omega) (by omega)
                        refine va_iast hx hb hK hP hD hS 3 0 rfl rfl b51 dX10_doorsTo_158 (fun H locs hP hD hS => ?_)
                        obtain ⟨mfar_u52, emfar_u52⟩ : ∃ f : Nat → Int32, f = upd mfar_u43 x13.toNatClampNeg x50 := ⟨_, rfl⟩
                        have hP : va_P (dC, dI) vwCl (wMod cI cZ cQ b mday mdoo mdA mdB mfar_u52 mmar mtel mgai mfal mtop mstr mgho mfai mpto mwal mahd mahf mcho mbes mbyt mtxt mpos mtka mtok mdig mnum mfau mrdm mrea mlin mlne mthg mord mbor mbsm mans mand manr mali) H := by rw [emfar_u52]; exact hP
                        have hD : va_D A (wMod cI cZ cQ b mday mdoo mdA mdB mfar_u52 mmar mtel mgai mfal mtop mstr mgho mfai mpto mwal mahd mahf mcho mbes mbyt mtxt mpos mtka mtok mdig mnum mfau mrdm mrea mlin mlne mthg mord mbor mbsm mans mand manr mali) := by rw [emfar_u52]; exact hD
                        obtain ⟨z53, ez53⟩ : ∃ y : Int32, y = y42_4 + 1 := ⟨_, rfl⟩
                        have iz53 : z53.toInt = y42_4.toInt + 1 := by rw [ez53]; exact addC rfl rfl (by omega) (by omega)
                        refine lv_iinc (v := z53) (lv' := [(4, .int z53), (6, .int x13), (5, .int x10), (0, .ref (b 39)), (2, .int y), (3, .int y33_3)]) hx hb dX10_doorsTo_159 hl (k := 5) rfl (by rw [ez53]; rfl) (by decide) rfl (fun ls hl => ?_)
                        refine lv_goto (tgt := 42) hx hb dX10_doorsTo_162 (by decide) ?_
                        exact ih42 z53 mfar_u52 _ _ _ (by omega) (by omega) (by (first | exact dk_step (c := y42_4) (by omega) r_mdA r_mdB i33_2 i42_2 rfl (by omega) (by omega) (by omega) (by assumption) (by assumption) (by assumption) (by omega) (by assumption) (by omega) (by omega) | exact dk_init i33_2 (by first | rfl | omega))) (by omega) hP hD hS (lv_sub hl [3, 4, 5, 0] rfl)
                      · have dc48 : ((mfar_u43 x10.toNatClampNeg).toInt) + (1) < (mfar_u43 x13.toNatClampNeg).toInt := nleC rfl f46 c48
                        refine lv_aload_n hx hb dX10_doorsTo_139 rfl (lv_at hl 2 rfl) ?_
                        refine va_get (D := (dC, dI)) (ci := 10) (v := .ref (b 4)) (C := RX10) (T := TX10) (N := 39) hx hb hts inX10 hown hK hP 0 rfl rfl 4 (by decide) lf16 (fun _ h9 => h9) rfl dX10_doorsTo_140 ?_
                        refine lv_iload hx hb dX10_doorsTo_143 (lv_at hl 1 rfl) ?_
                        have b54 : vp_in x10 8 := inC rfl (by omega) (by omega)
                        refine va_iald hx hb hK hP 3 0 rfl rfl b54 dX10_doorsTo_145 ?_
                        have o55 : (mfar_u43 x10.toNatClampNeg).toInt = x41.toInt := by rw [emfar_u43, pk_us]
                        refine lv_iconst (v := 1) hx hb dX10_doorsTo_146 (by decide) ?_
                        refine lv_iadd hx hb dX10_doorsTo_147 ?_
                        have f56 : ((mfar_u43 x10.toNatClampNeg) + 1).toInt = ((mfar_u43 x10.toNatClampNeg).toInt) + (1) := addC rfl (show (1 : Int32).toInt = 1 from rfl) (by omega) (by omega)
                        refine lv_goto (tgt := 158) hx hb dX10_doorsTo_148 (by decide) ?_
                        refine lv_topi (fun x57 ex57 => ?_)
                        have ix57 : x57.toInt = ((mfar_u43 x10.toNatClampNeg).toInt) + (1) := by rw [ex57]; exact f56
                        have b58 : vp_in x13 8 := inC rfl (by omega) (by omega)
                        refine va_iast hx hb hK hP hD hS 3 0 rfl rfl b58 dX10_doorsTo_158 (fun H locs hP hD hS => ?_)
                        obtain ⟨mfar_u59, emfar_u59⟩ : ∃ f : Nat → Int32, f = upd mfar_u43 x13.toNatClampNeg x57 := ⟨_, rfl⟩
                        have hP : va_P (dC, dI) vwCl (wMod cI cZ cQ b mday mdoo mdA mdB mfar_u59 mmar mtel mgai mfal mtop mstr mgho mfai mpto mwal mahd mahf mcho mbes mbyt mtxt mpos mtka mtok mdig mnum mfau mrdm mrea mlin mlne mthg mord mbor mbsm mans mand manr mali) H := by rw [emfar_u59]; exact hP
                        have hD : va_D A (wMod cI cZ cQ b mday mdoo mdA mdB mfar_u59 mmar mtel mgai mfal mtop mstr mgho mfai mpto mwal mahd mahf mcho mbes mbyt mtxt mpos mtka mtok mdig mnum mfau mrdm mrea mlin mlne mthg mord mbor mbsm mans mand manr mali) := by rw [emfar_u59]; exact hD
                        obtain ⟨z60, ez60⟩ : ∃ y : Int32, y = y42_4 + 1 := ⟨_, rfl⟩
                        have iz60 : z60.toInt = y42_4.toInt + 1 := by rw [ez60]; exact addC rfl rfl (by omega) (by omega)
                        refine lv_iinc (v := z60) (lv' := [(4, .int z60), (6, .int x13), (5, .int x10), (0, .ref (b 39)), (2, .int y), (3, .int y33_3)]) hx hb dX10_doorsTo_159 hl (k := 5) rfl (by rw [ez60]; rfl) (by decide) rfl (fun ls hl => ?_)
                        refine lv_goto (tgt := 42) hx hb dX10_doorsTo_162 (by decide) ?_
                        exact ih42 z60 mfar_u59 _ _ _ (by omega) (by omega) (by (first | exact dk_step (c := y42_4) (by omega) r_mdA r_mdB i33_2 i42_2 rfl (by omega) (by omega) (by omega) (by assumption) (by assumption) (by assumption) (by omega) (by assumption) (by omega) (by omega) | exact dk_init i33_2 (by first | rfl | omega))) (by omega) hP hD hS (lv_sub hl [3, 4, 5, 0] rfl)
              have kc61 : (0 : Int32).toInt = 0 := rfl
              exact L42 _ 0 mfar_33 _ _ _ (by omega) (by omega) (by (first | exact dk_init i33_2 (by first | rfl | omega) | exact dk_step (c := y42_4) (by omega) r_mdA r_mdB i33_2 i42_2 rfl (by omega) (by omega) (by omega) (by assumption) (by assumption) (by assumption) (by omega) (by assumption) (by omega) (by omega))) (Nat.lt_succ_self _) hP hD hS (lv_sub hl [1, 2, 3, 0] rfl)
        have kc62 : (0 : Int32).toInt = 0 := rfl
        exact L33 _ 0 mfar_2 _ _ _ (by omega) (by omega) (by (first | exact dt_init i2_2 (by omega) (by omega) (by first | rfl | omega) | exact dk_end (by omega) r_mdA r_mdB (by omega) i33_2 i42_2 (by omega) (by omega) (by omega))) (Nat.lt_succ_self _) hP hD hS (lv_sub hl [1, 3, 0] rfl)
      · have dc1 : y2_3.toInt < 8 := nleC (show (8 : Int32).toInt = 8 from rfl) rfl c1
        refine lv_aload_n hx hb dX10_doorsTo_8 rfl (lv_at hl 0 rfl) ?_
        refine va_get (D := (dC, dI)) (ci := 10) (v := .ref (b 4)) (C := RX10) (T := TX10) (N := 39) hx hb hts inX10 hown hK hP 0 rfl rfl 4 (by decide) lf16 (fun _ h9 => h9) rfl dX10_doorsTo_9 ?_
        refine lv_iload_n hx hb dX10_doorsTo_12 rfl (lv_at hl 3 rfl) ?_
        refine lv_iload_n hx hb dX10_doorsTo_13 rfl (lv_at hl 3 rfl) ?_
        refine lv_iload_n hx hb dX10_doorsTo_14 rfl (lv_at hl 1 rfl) ?_
        refine lv_icmp_ne (tgt := 22) hx hb dX10_doorsTo_15 (by decide) (fun c63 => ?_) (fun c63 => ?_)
        · have dc63 : y2_3.toInt ≠ x.toInt := neC rfl rfl c63
          refine lv_bipush (v := 100) hx hb dX10_doorsTo_22 (by decide) ?_
          have b64 : vp_in y2_3 8 := inC rfl (by omega) (by omega)
          refine va_iast hx hb hK hP hD hS 3 0 rfl rfl b64 dX10_doorsTo_24 (fun H locs hP hD hS => ?_)
          obtain ⟨mfar_u65, emfar_u65⟩ : ∃ f : Nat → Int32, f = upd mfar_2 y2_3.toNatClampNeg 100 := ⟨_, rfl⟩
          have hP : va_P (dC, dI) vwCl (wMod cI cZ cQ b mday mdoo mdA mdB mfar_u65 mmar mtel mgai mfal mtop mstr mgho mfai mpto mwal mahd mahf mcho mbes mbyt mtxt mpos mtka mtok mdig mnum mfau mrdm mrea mlin mlne mthg mord mbor mbsm mans mand manr mali) H := by rw [emfar_u65]; exact hP
          have hD : va_D A (wMod cI cZ cQ b mday mdoo mdA mdB mfar_u65 mmar mtel mgai mfal mtop mstr mgho mfai mpto mwal mahd mahf mcho mbes mbyt mtxt mpos mtka mtok mdig mnum mfau mrdm mrea mlin mlne mthg mord mbor mbsm mans mand manr mali) := by rw [emfar_u65]; exact hD
          obtain ⟨z66, ez66⟩ : ∃ y : Int32, y = y2_3 + 1 := ⟨_, rfl⟩
          have iz66 : z66.toInt = y2_3.toInt + 1 := by rw [ez66]; exact addC rfl rfl (by omega) (by omega)
          refine lv_iinc (v := z66) (lv' := [(3, .int z66), (0, .ref (b 39)), (1, .int x), (2, .int y)]) hx hb dX10_doorsTo_25 hl (k := 3) rfl (by rw [ez66]; rfl) (by decide) rfl (fun ls hl => ?_)
          refine lv_goto (tgt := 2) hx hb dX10_doorsTo_28 (by decide) ?_
          exact ih2 z66 mfar_u65 _ _ _ (by omega) (by omega) (by (first | exact fi8_step i2_2 (by assumption) (by omega) (by first | exact Or.inl ⟨by omega, rfl⟩ | exact Or.inr ⟨by omega, rfl⟩) (by omega) | exact fi8_init (by first | rfl | omega))) (by omega) hP hD hS (lv_sub hl [1, 2, 3, 0] rfl)
        · have dc63 : y2_3.toInt = x.toInt := eqC rfl rfl c63
          refine lv_iconst (v := 0) hx hb dX10_doorsTo_18 (by decide) ?_
          refine lv_goto (tgt := 24) hx hb dX10_doorsTo_19 (by decide) ?_
          have b67 : vp_in y2_3 8 := inC rfl (by omega) (by omega)
          refine va_iast hx hb hK hP hD hS 3 0 rfl rfl b67 dX10_doorsTo_24 (fun H locs hP hD hS => ?_)
          obtain ⟨mfar_u68, emfar_u68⟩ : ∃ f : Nat → Int32, f = upd mfar_2 y2_3.toNatClampNeg 0 := ⟨_, rfl⟩
          have hP : va_P (dC, dI) vwCl (wMod cI cZ cQ b mday mdoo mdA mdB mfar_u68 mmar mtel mgai mfal mtop mstr mgho mfai mpto mwal mahd mahf mcho mbes mbyt mtxt mpos mtka mtok mdig mnum mfau mrdm mrea mlin mlne mthg mord mbor mbsm mans mand manr mali) H := by rw [emfar_u68]; exact hP
          have hD : va_D A (wMod cI cZ cQ b mday mdoo mdA mdB mfar_u68 mmar mtel mgai mfal mtop mstr mgho mfai mpto mwal mahd mahf mcho mbes mbyt mtxt mpos mtka mtok mdig mnum mfau mrdm mrea mlin mlne mthg mord mbor mbsm mans mand manr mali) := by rw [emfar_u68]; exact hD
          obtain ⟨z69, ez69⟩ : ∃ y : Int32, y = y2_3 + 1 := ⟨_, rfl⟩
          have iz69 : z69.toInt = y2_3.toInt + 1 := by rw [ez69]; exact addC rfl rfl (by omega) (by omega)
          refine lv_iinc (v := z69) (lv' := [(3, .int z69), (0, .ref (b 39)), (1, .int x), (2, .int y)]) hx hb dX10_doorsTo_25 hl (k := 3) rfl (by rw [ez69]; rfl) (by decide) rfl (fun ls hl => ?_)
          refine lv_goto (tgt := 2) hx hb dX10_doorsTo_28 (by decide) ?_
          exact ih2 z69 mfar_u68 _ _ _ (by omega) (by omega) (by (first | exact fi8_step i2_2 (by assumption) (by omega) (by first | exact Or.inl ⟨by omega, rfl⟩ | exact Or.inr ⟨by omega, rfl⟩) (by omega) | exact fi8_init (by first | rfl | omega))) (by omega) hP hD hS (lv_sub hl [1, 2, 3, 0] rfl)
  have kc70 : (0 : Int32).toInt = 0 := rfl
  exact L2 _ 0 mfar _ _ _ (by omega) (by omega) (by (first | exact fi8_init (by first | rfl | omega) | exact fi8_step i2_2 (by assumption) (by omega) (by first | exact Or.inl ⟨by omega, rfl⟩ | exact Or.inr ⟨by omega, rfl⟩) (by omega))) (Nat.lt_succ_self _) hP hD hS (lv_sub hl [1, 2, 3, 0] rfl)
set_option maxHeartbeats 4000000 in
set_option maxRecDepth 100000 in
theorem k_X10_away2 (l : Launch) (dC : Nat → ClassId) (dI : Nat → Nat → Nat) (cI cZ cQ : ClassId) (b : Nat → Nat) (mday : Int32) (mdoo : Int32) (mdA : Nat → Int32) (mdB : Nat → Int32) (mfar : Nat → Int32) (mmar : Nat → Int32) (mtel : Int32) (mgai : Int32) (mfal : Nat → Int32) (mtop : Nat → Int32) (mstr : Nat → Int32) (mgho : Nat → Int32) (mfai : Nat → Int32) (mpto : Nat → Int32) (mwal : Nat → Int32) (mahd : Nat → Int32) (mahf : Nat → Int32) (mcho : Nat → Int32) (mbes : Nat → Int32) (mbyt : Int32) (mtxt : Nat → Int32) (mpos : Int32) (mtka : Int32) (mtok : Int64) (mdig : Int32) (mnum : Int32) (mfau : Int32) (mrdm : Int32) (mrea : Nat → Int32) (mlin : Int32) (mlne : Nat → Int32) (mthg : Nat → Int32) (mord : Nat → Int32) (mbor : Nat → Int32) (mbsm : Int32) (mans : Nat → Int32) (mand : Nat → Int32) (manr : Nat → Int32) (mali : Nat → Int32) (sz : Nat) (x : Int32) (y : Int32) (r_mday : 0 ≤ mday.toInt ∧ mday.toInt ≤ 400) (r_mdoo : 0 ≤ mdoo.toInt ∧ mdoo.toInt ≤ 14) (r_mdA : rg 14 (0) (7) mdA) (r_mdB : rg 14 (0) (7) mdB) (r_mmar : rg 24 (0) (255) mmar) (r_mgai : 0 ≤ mgai.toInt ∧ mgai.toInt ≤ 100) (r_mfal : rg 11 (0) (30) mfal) (r_mtop : rg 48 (-1) (23) mtop) (r_mstr : rg 48 (0) (100) mstr) (r_mgho : rg 48 (-1) (23) mgho) (r_mfai : rg 48 (0) (100) mfai) (r_mahd : rg 240 (0) (100) mahd) (r_mahf : rg 240 (0) (100) mahf) (r_mcho : rg 5 (-1) (9) mcho) (r_mbyt : 0 ≤ mbyt.toInt ∧ mbyt.toInt ≤ 160) (r_mpos : 0 ≤ mpos.toInt ∧ mpos.toInt ≤ 160) (r_mrdm : 0 ≤ mrdm.toInt ∧ mrdm.toInt ≤ 10) (r_mlin : 0 ≤ mlin.toInt ∧ mlin.toInt ≤ 10) (r_mthg : rg 8 (0) (31) mthg) (r_mord : rg 8 (-1) (8) mord) (r_mans : rg 4 (0) (12) mans) : KW l yX10_away wsX10_away { frames := 2, cells := 0, slots := 0, locals := 42 } (dC, dI) (TY cI cZ cQ) (wMod cI cZ cQ b mday mdoo mdA mdB mfar mmar mtel mgai mfal mtop mstr mgho mfai mpto mwal mahd mahf mcho mbes mbyt mtxt mpos mtka mtok mdig mnum mfau mrdm mrea mlin mlne mthg mord mbor mbsm mans mand manr mali) [.ref (b 39), .int x, .int y] sz 0 0 (fun (r : Int32) (u : US) => (spAwyM mdA mdB mdoo x y r)) (fun u : US => (wMod cI cZ cQ b mday mdoo mdA mdB (u.1 0) mmar mtel mgai mfal mtop mstr mgho mfai mpto mwal mahd mahf mcho mbes mbyt mtxt mpos mtka mtok mdig mnum mfau mrdm mrea mlin mlne mthg mord mbor mbsm mans mand manr mali)) := by
  refine Met.ofW (cc := cX10_away) (maxL := 3) (ret := (some .int)) (by decide) rfl ?_
  intro p e s m args below meth c s₁ B hml hv
  obtain ⟨rfl, hsz, hP, hK, hD0, hN⟩ := hv
  have hx := B.exec
  have hb := B.bytes
  have hr := B.returns
  have hts := atoms_spec (ws := wsX10_away) B.pre
  have hown : s.vm.findClass RX10 = some m.cls := findClass_of_methodNamed B.named
  have hlocks := B.notSynchronized
  subst hsz
  have hD := hD0.self (sz := s.heap.size)
  generalize hAe : va_A (wMod cI cZ cQ b mday mdoo mdA mdB mfar mmar mtel mgai mfal mtop mstr mgho mfai mpto mwal mahd mahf mcho mbes mbyt mtxt mpos mtka mtok mdig mnum mfau mrdm mrea mlin mlne mthg mord mbor mbsm mans mand manr mali) s.heap.size = A at hD ⊢
  have hA : ∀ q : Nat, s.heap.size ≤ q → A q := fun q h => by rw [← hAe]; exact Or.inr h
  have hS : va_S A s.heap s.heap [] := va_S.rf
  have hl := lv_entry ([.ref (b 39), .int x, .int y]) (n := 3) (Nat.le_of_ble_eq_true rfl)
  rw [lg_entry_eq]
  generalize (lg_sl ([.ref (b 39), .int x, .int y]) ++ List.replicate (3 - (lg_sl ([.ref (b 39), .int x, .int y])).length) Slot.unset).toArray = ls at hl ⊢
  have hl : lv_has ls 3 [(0, .ref (b 39)), (1, .int x), (2, .int y)] := hl
  refine lv_iload_n hx hb dX10_away_0 rfl (lv_at hl 1 rfl) ?_
  refine rdS (As := [.int x]) (rest := []) ⟨hx, hb, hml, hown, hts⟩ (k_X10_isRoom l dC dI cI cZ cQ x) (va_cwS 1 hts gX10_away_X10_isRoom rfl rfl rfl (by decide +kernel) ⟨Nat.le_of_ble_eq_true rfl, Nat.le_of_ble_eq_true rfl⟩) hP hK hN [] rfl rfl hl.1 rfl (Nat.le_of_ble_eq_true rfl) dX10_away_1 ⟨Nat.le_of_ble_eq_true rfl, Nat.le_of_ble_eq_true rfl⟩ (fun r1 h2 => ?_)
  have h2 : ((((r1 = 1) ∧ (0 ≤ x.toInt) ∧ (x.toInt ≤ 7)) ∨ ((r1 = 0) ∧ (x.toInt < 0 ∨ 7 < x.toInt)))) := h2
  rcases h2 with (⟨rfl, h2_a0, h2_a1⟩ | ⟨rfl, h2_a0⟩)
  · refine lv_if_eq (tgt := 23) hx hb dX10_away_4 (by decide) (fun c9 => absurd c9 (by decide)) (fun _ => ?_)
    refine lv_iload_n hx hb dX10_away_7 rfl (lv_at hl 2 rfl) ?_
    refine rdS (As := [.int y]) (rest := []) ⟨hx, hb, hml, hown, hts⟩ (k_X10_isRoom l dC dI cI cZ cQ y) (va_cwS 1 hts gX10_away_X10_isRoom rfl rfl rfl (by decide +kernel) ⟨Nat.le_of_ble_eq_true rfl, Nat.le_of_ble_eq_true rfl⟩) hP hK hN [] rfl rfl hl.1 rfl (Nat.le_of_ble_eq_true rfl) dX10_away_8 ⟨Nat.le_of_ble_eq_true rfl, Nat.le_of_ble_eq_true rfl⟩ (fun r3 h4 => ?_)
    have h4 : ((((r3 = 1) ∧ (0 ≤ y.toInt) ∧ (y.toInt ≤ 7)) ∨ ((r3 = 0) ∧ (y.toInt < 0 ∨ 7 < y.toInt)))) := h4
    rcases h4 with (⟨rfl, h4_a0, h4_a1⟩ | ⟨rfl, h4_a0⟩)
    · refine lv_if_eq (tgt := 23) hx hb dX10_away_11 (by decide) (fun c9 => absurd c9 (by decide)) (fun _ => ?_)
      refine lv_aload_n hx hb dX10_away_14 rfl (lv_at hl 0 rfl) ?_
      refine lv_iload_n hx hb dX10_away_15 rfl (lv_at hl 1 rfl) ?_
      refine lv_iload_n hx hb dX10_away_16 rfl (lv_at hl 2 rfl) ?_
      refine wrV (As := [.int x, .int y]) (rest := []) (wr := []) (w2 := (fun u : US => (wMod cI cZ cQ b mday mdoo mdA mdB (u.1 0) mmar mtel mgai mfal mtop mstr mgho mfai mpto mwal mahd mahf mcho mbes mbyt mtxt mpos mtka mtok mdig mnum mfau mrdm mrea mlin mlne mthg mord mbor mbsm mans mand manr mali))) ⟨hx, hb, hml, hown, hts⟩ (k_X10_doorsTo2 l dC dI cI cZ cQ b mday mdoo mdA mdB mfar mmar mtel mgai mfal mtop mstr mgho mfai mpto mwal mahd mahf mcho mbes mbyt mtxt mpos mtka mtok mdig mnum mfau mrdm mrea mlin mlne mthg mord mbor mbsm mans mand manr mali _ x y r_mday r_mdoo r_mdA r_mdB r_mmar r_mgai r_mfal r_mtop r_mstr r_mgho r_mfai r_mahd r_mahf r_mcho r_mbyt r_mpos r_mrdm r_mlin r_mthg r_mord r_mans (by omega) (by omega) (by omega) (by omega)) (cwV 2 hts gX10_away_X10_doorsTo rfl rfl rfl (by decide +kernel) ⟨Nat.le_of_ble_eq_true rfl, Nat.le_of_ble_eq_true rfl⟩) hP hD hS hA hK hN [0, 1, 2, 3, 4, 5, 6, 7, 8, 9, 10, 11, 12, 13, 14, 15, 16, 17, 18, 19, 20, 21, 22, 23, 24, 25] [] [0, 1, 2, 3, 4, 5, 6, 7, 8, 9, 10, 11, 12, 13, 14, 15, 16, 17, 18, 19, 20, 21, 22, 23, 24, 25] rfl rfl (by decide) (by decide) (by decide) (fun _ => rfl) (by decide) 0 10 rfl rfl rfl hl.1 rfl (Nat.le_of_ble_eq_true rfl) dX10_away_17 ⟨Nat.le_of_ble_eq_true rfl, Nat.le_of_ble_eq_true rfl⟩ (fun r5 u7 H locs h6 hP hD hS => ?_)
      obtain ⟨mfar_c8, emfar_c8⟩ : ∃ f : Nat → Int32, f = (u7.1 0) := ⟨_, rfl⟩
      have hP : va_P (dC, dI) vwCl (wMod cI cZ cQ b mday mdoo mdA mdB mfar_c8 mmar mtel mgai mfal mtop mstr mgho mfai mpto mwal mahd mahf mcho mbes mbyt mtxt mpos mtka mtok mdig mnum mfau mrdm mrea mlin mlne mthg mord mbor mbsm mans mand manr mali) H := by rw [emfar_c8]; exact hP
      have hD : va_D A (wMod cI cZ cQ b mday mdoo mdA mdB mfar_c8 mmar mtel mgai mfal mtop mstr mgho mfai mpto mwal mahd mahf mcho mbes mbyt mtxt mpos mtka mtok mdig mnum mfau mrdm mrea mlin mlne mthg mord mbor mbsm mans mand manr mali) := by rw [emfar_c8]; exact hD
      have h6 : (dsR mdA mdB mdoo.toInt x y r5) ∧ (-1 ≤ r5.toInt) ∧ (r5.toInt ≤ 99) := by (try rw [emfar_c8]); exact h6
      obtain ⟨h6_0, h6_1, h6_2⟩ := h6
      refine lv_goto (tgt := 25) hx hb dX10_away_20 (by decide) ?_
      exact W.iret (v := r5) hx hb hr (fun tq ht hW => ⟨⟨r5, (uS [mfar_c8] 0 (fun _ => 0)), rfl, (show spAwyM mdA mdB mdoo x y r5 from by (first | exact Or.inl ⟨by omega, rfl⟩ | exact Or.inr ⟨by omega, by assumption⟩)), by rw [ht]; exact hP, hD⟩, hS.F ht⟩) hS.2.2 dX10_away_25
    · refine lv_if_eq (tgt := 23) hx hb dX10_away_11 (by decide) (fun _ => ?_) (fun c9 => absurd (by decide) c9)
      refine lv_bipush (v := (-2)) hx hb dX10_away_23 (by decide) ?_
      exact W.iret (v := (-2)) hx hb hr (fun tq ht hW => ⟨⟨(-2), (uS [mfar] 0 (fun _ => 0)), rfl, (show spAwyM mdA mdB mdoo x y ((-2) : Int32) from by (try rw [show ((-2) : Int32).toInt = (-2) from (show ((-2) : Int32).toInt = (-2) from rfl)]); (first | exact Or.inl ⟨by omega, rfl⟩ | exact Or.inr ⟨by omega, by assumption⟩)), by rw [ht]; exact hP, hD⟩, hS.F ht⟩) hS.2.2 dX10_away_25
  · refine lv_if_eq (tgt := 23) hx hb dX10_away_4 (by decide) (fun _ => ?_) (fun c9 => absurd (by decide) c9)
    refine lv_bipush (v := (-2)) hx hb dX10_away_23 (by decide) ?_
    exact W.iret (v := (-2)) hx hb hr (fun tq ht hW => ⟨⟨(-2), (uS [mfar] 0 (fun _ => 0)), rfl, (show spAwyM mdA mdB mdoo x y ((-2) : Int32) from by (try rw [show ((-2) : Int32).toInt = (-2) from (show ((-2) : Int32).toInt = (-2) from rfl)]); (first | exact Or.inl ⟨by omega, rfl⟩ | exact Or.inr ⟨by omega, by assumption⟩)), by rw [ht]; exact hP, hD⟩, hS.F ht⟩) hS.2.2 dX10_away_25
