-- ===== DOORS: the model's list =====
def eD (A B : Nat → Int32) (n : Int) (x y : Int) : Prop := ∃ k : Nat, (k : Int) < n ∧ (((A k).toInt = x ∧ (B k).toInt = y) ∨ ((A k).toInt = y ∧ (B k).toInt = x))
def edR (few A B : Nat → Int32) (n : Int) : Prop := ∀ x y : Nat, x < 8 → y < 8 → (dd few x y = 1 ↔ eD A B n x y)
def jkI (A B : Nat → Int32) (x y : Int32) (k : Int) (r : Int32) : Prop := (r = 0 ∧ ¬ eD A B k x.toInt y.toInt) ∨ (r = 1 ∧ eD A B k x.toInt y.toInt)
theorem jk_init {A B : Nat → Int32} {x y r : Int32} {k : Int} (hk : k = 0) (hr : r = 0) : jkI A B x y k r := .inl ⟨hr, fun ⟨q, hq, _⟩ => by omega⟩
theorem eD_mono {A B : Nat → Int32} {k k' x y : Int} (h : eD A B k x y) (hk : k ≤ k') : eD A B k' x y := by
  obtain ⟨q, hq, w⟩ := h; exact ⟨q, by omega, w⟩
theorem jk_was {A B : Nat → Int32} {x y r r' : Int32} {k k' : Int} (h : jkI A B x y k r) (hr : ¬ r = 0) (hr' : r' = 1) (hk : k' = k + 1) : jkI A B x y k' r' := by
  rcases h with ⟨a, -⟩ | ⟨-, b⟩
  · exact absurd a hr
  · exact .inr ⟨hr', eD_mono b (by omega)⟩
theorem jk_hit {A B : Nat → Int32} {x y c r' : Int32} {k' : Int} (h0 : 0 ≤ c.toInt) (h : ((A c.toNatClampNeg).toInt = x.toInt ∧ (B c.toNatClampNeg).toInt = y.toInt) ∨ ((A c.toNatClampNeg).toInt = y.toInt ∧ (B c.toNatClampNeg).toInt = x.toInt)) (hr' : r' = 1) (hk : k' = c.toInt + 1) : jkI A B x y k' r' :=
  .inr ⟨hr', c.toNatClampNeg, by rw [clC (x := c) rfl]; omega, h⟩
theorem jk_miss {A B : Nat → Int32} {x y c r r' : Int32} {k' : Int} (h : jkI A B x y c.toInt r) (hr : r = 0) (h0 : 0 ≤ c.toInt) (hn : ¬ (((A c.toNatClampNeg).toInt = x.toInt ∧ (B c.toNatClampNeg).toInt = y.toInt) ∨ ((A c.toNatClampNeg).toInt = y.toInt ∧ (B c.toNatClampNeg).toInt = x.toInt))) (hr' : r' = 0) (hk : k' = c.toInt + 1) : jkI A B x y k' r' := by
  rcases h with ⟨-, b⟩ | ⟨a, -⟩
  · refine .inl ⟨hr', fun ⟨q, hq, w⟩ => ?_⟩
    by_cases e : q = c.toNatClampNeg
    · subst e; exact hn w
    · have := clC (x := c) rfl
      exact b ⟨q, by omega, w⟩
  · rw [a] at hr; exact absurd hr (by decide)
theorem jk_alt {A B : Nat → Int32} {x y r : Int32} {k n : Int} (h : jkI A B x y k r) (h1 : k = n) : (r = 1 ∧ eD A B n x.toInt y.toInt) ∨ (r = 0 ∧ ¬ eD A B n x.toInt y.toInt) := by
  subst h1; exact h.symm
-- the model's way
def fi8 (a : Int32) (i : Int) (F : Nat → Int32) : Prop := ∀ j : Nat, (j : Int) < i → (F j).toInt = (if (j : Int) = a.toInt then 0 else 100)
theorem fi8_step {F F2 : Nat → Int32} {a y v : Int32} {i : Int} (q : fi8 a y.toInt F) (e : F2 = upd F y.toNatClampNeg v) (h0 : 0 ≤ y.toInt) (hv : (y.toInt = a.toInt ∧ v.toInt = 0) ∨ (y.toInt ≠ a.toInt ∧ v.toInt = 100)) (hi : i = y.toInt + 1) : fi8 a i F2 := by
  subst hi; subst e
  have ey := clC (x := y) rfl
  intro j hj
  by_cases c : j = y.toNatClampNeg
  · subst c
    rw [pk_us]
    rcases hv with h | h
    · rw [if_pos (by omega)]; exact h.2
    · rw [if_neg (by omega)]; exact h.2
  · rw [pk_un c]; exact q j (by omega)
def dtI (A B : Nat → Int32) (n : Int) (a : Nat) (t : Int) (F : Nat → Int32) : Prop := rg 8 0 100 F ∧ ∀ few : Nat → Int32, mtOK few → edR few A B n → (∀ j : Nat, j < 8 → dd few a j ≤ (F j).toInt) ∧ (∀ j : Nat, j < 8 → dd few a j ≤ t → (F j).toInt ≤ dd few a j)
theorem dt_init {A B F : Nat → Int32} {n i t : Int} {a : Int32} (q : fi8 a i F) (hi : 8 ≤ i) (ha : 0 ≤ a.toInt ∧ a.toInt ≤ 7) (ht : t = 0) : dtI A B n a.toInt.toNat t F := by
  subst ht
  have w : ∀ j : Nat, j < 8 → (F j).toInt = (if (j : Int) = a.toInt then 0 else 100) := fun j hj => q j (by omega)
  refine ⟨fun j hj => ?_, fun few hm he => ⟨fun j hj => ?_, fun j hj hd => ?_⟩⟩
  · rw [w j hj]
    by_cases c : (j : Int) = a.toInt
    · rw [if_pos c]; omega
    · rw [if_neg c]; omega
  · rw [w j hj]
    have m1 := (hm.2 a.toInt.toNat j (by omega) hj).1
    have m2 := (hm.2 a.toInt.toNat j (by omega) hj).2.1
    by_cases c : (j : Int) = a.toInt
    · rw [if_pos c, m2.mpr (by omega)]; omega
    · rw [if_neg c]; omega
  · have m1 := (hm.2 a.toInt.toNat j (by omega) hj).1.1
    have m2 := (hm.2 a.toInt.toNat j (by omega) hj).2.1
    have z : dd few a.toInt.toNat j = 0 := by omega
    have e := m2.mp z
    rw [w j hj, if_pos (by omega), z]; omega
def dkI (A B : Nat → Int32) (n : Int) (a : Nat) (k : Int) (F0 F : Nat → Int32) : Prop := (∀ j : Nat, j < 8 → 0 ≤ (F j).toInt ∧ (F j).toInt ≤ (F0 j).toInt) ∧ (∀ few : Nat → Int32, mtOK few → edR few A B n → ∀ j : Nat, j < 8 → dd few a j ≤ (F j).toInt) ∧ (∀ q : Nat, (q : Int) < k → (F (B q).toNatClampNeg).toInt ≤ (F0 (A q).toNatClampNeg).toInt + 1 ∧ (F (A q).toNatClampNeg).toInt ≤ (F0 (B q).toNatClampNeg).toInt + 1)
theorem dk_init {A B F : Nat → Int32} {n t k : Int} {a : Nat} (q : dtI A B n a t F) (hk : k = 0) : dkI A B n a k F F := ⟨fun j hj => ⟨(q.1 j hj).1, Int.le_refl _⟩, fun few hm he => (q.2 few hm he).1, fun q hq => by omega⟩
theorem dk_rg {A B F0 F : Nat → Int32} {n t k : Int} {a : Nat} (q0 : dtI A B n a t F0) (q : dkI A B n a k F0 F) : rg 8 0 100 F := fun j hj => ⟨(q.1 j hj).1, by have := (q.1 j hj).2; have := (q0.1 j hj).2; omega⟩
theorem rg_of {n : Nat} {lo hi : Int} {f g : Nat → Int32} {k : Nat} {v : Int32} (h : rg n lo hi f) (e : g = upd f k v) (h1 : lo ≤ v.toInt) (h2 : v.toInt ≤ hi) : rg n lo hi g := by subst e; exact rg_upd h rfl h1 h2
