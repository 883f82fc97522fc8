def dsR (A B : Nat → Int32) (n : Int) (x y r : Int32) : Prop := ∀ few : Nat → Int32, mtOK few → edR few A B n → r = few (x.toInt * 8 + y.toInt).toNat
theorem ds_no {A B F : Nat → Int32} {n t : Int} {x y : Int32} (q : dtI A B n x.toInt.toNat t F) (hx : 0 ≤ x.toInt ∧ x.toInt ≤ 7) (hy : 0 ≤ y.toInt ∧ y.toInt ≤ 7) (ht : 8 ≤ t) (hF : 100 ≤ (F y.toNatClampNeg).toInt) : dsR A B n x y (-1) := by
  intro few hm he
  have w := q.2 few hm he
  have m1 := (hm.2 x.toInt.toNat y.toInt.toNat (by omega) (by omega)).1
  have r := hm.1 x.toInt.toNat y.toInt.toNat (by omega) (by omega)
  rw [clC (x := y) rfl] at hF
  have u := w.2 y.toInt.toNat (by omega)
  have ei : (x.toInt * 8 + y.toInt).toNat = x.toInt.toNat * 8 + y.toInt.toNat := by omega
  rw [ei]
  apply Int32.toInt_inj.mp
  rw [show ((-1 : Int32)).toInt = -1 from rfl]
  unfold dd dv at m1 u
  by_cases c : (few (x.toInt.toNat * 8 + y.toInt.toNat)).toInt = -1
  · exact c.symm
  · rw [if_neg c] at m1 u; omega
theorem ds_yes {A B F : Nat → Int32} {n t : Int} {x y r : Int32} (q : dtI A B n x.toInt.toNat t F) (hx : 0 ≤ x.toInt ∧ x.toInt ≤ 7) (hy : 0 ≤ y.toInt ∧ y.toInt ≤ 7) (ht : 8 ≤ t) (hr : r = F y.toNatClampNeg) (hF : (F y.toNatClampNeg).toInt < 100) : dsR A B n x y r := by
  intro few hm he
  have w := q.2 few hm he
  have m1 := (hm.2 x.toInt.toNat y.toInt.toNat (by omega) (by omega)).1
  have r := hm.1 x.toInt.toNat y.toInt.toNat (by omega) (by omega)
  rw [hr]
  rw [clC (x := y) rfl] at hF ⊢
  have u := w.2 y.toInt.toNat (by omega)
  have l := w.1 y.toInt.toNat (by omega)
  have ei : (x.toInt * 8 + y.toInt).toNat = x.toInt.toNat * 8 + y.toInt.toNat := by omega
  rw [ei]
  apply Int32.toInt_inj.mp
  unfold dd dv at m1 u l
  by_cases c : (few (x.toInt.toNat * 8 + y.toInt.toNat)).toInt = -1
  · rw [if_pos c] at l; omega
  · rw [if_neg c] at m1 u l; omega
-- door, away
def spDorC (few : Nat → Int32) (doo x y r : Int32) (few' : Nat → Int32) (doo' : Int32) : Prop := ((x.toInt < 0 ∨ 7 < x.toInt ∨ y.toInt < 0 ∨ 7 < y.toInt ∨ x.toInt = y.toInt) ∧ r = -2 ∧ few' = few ∧ doo' = doo) ∨ ((0 ≤ x.toInt ∧ x.toInt ≤ 7 ∧ 0 ≤ y.toInt ∧ y.toInt ≤ 7 ∧ x.toInt ≠ y.toInt) ∧ (((few (x.toInt * 8 + y.toInt).toNat).toInt = 1 ∧ r = -4 ∧ few' = few ∧ doo' = doo) ∨ ((few (x.toInt * 8 + y.toInt).toNat).toInt ≠ 1 ∧ ((14 ≤ doo.toInt ∧ r = -5 ∧ few' = few ∧ doo' = doo) ∨ (doo.toInt < 14 ∧ r = doo + 1 ∧ doo' = doo + 1 ∧ jnS few x y few')))))
def spDorM (A B : Nat → Int32) (n x y r : Int32) (A' B' : Nat → Int32) (n' : Int32) : Prop := ((x.toInt < 0 ∨ 7 < x.toInt ∨ y.toInt < 0 ∨ 7 < y.toInt ∨ x.toInt = y.toInt) ∧ r = -2 ∧ A' = A ∧ B' = B ∧ n' = n) ∨ ((0 ≤ x.toInt ∧ x.toInt ≤ 7 ∧ 0 ≤ y.toInt ∧ y.toInt ≤ 7 ∧ x.toInt ≠ y.toInt) ∧ ((eD A B n.toInt x.toInt y.toInt ∧ r = -4 ∧ A' = A ∧ B' = B ∧ n' = n) ∨ (¬ eD A B n.toInt x.toInt y.toInt ∧ ((14 ≤ n.toInt ∧ r = -5 ∧ A' = A ∧ B' = B ∧ n' = n) ∨ (n.toInt < 14 ∧ r = n + 1 ∧ n' = n + 1 ∧ A' = upd A n.toNatClampNeg x ∧ B' = upd B n.toNatClampNeg y)))))
def doR (few : Nat → Int32) (doo : Int32) (A B : Nat → Int32) (n : Int32) : Prop := doo = n ∧ edR few A B n.toInt
theorem one_dd {few : Nat → Int32} {x y : Int32} (h0 : 0 ≤ x.toInt ∧ 0 ≤ y.toInt) : ((few (x.toInt * 8 + y.toInt).toNat).toInt = 1 ↔ dd few x.toInt.toNat y.toInt.toNat = 1) := by
  have ei : (x.toInt * 8 + y.toInt).toNat = x.toInt.toNat * 8 + y.toInt.toNat := by omega
  rw [ei]
  unfold dd dv
  by_cases c : (few (x.toInt.toNat * 8 + y.toInt.toNat)).toInt = -1
  · rw [if_pos c, c]; exact ⟨fun q => by omega, fun q => by omega⟩
  · rw [if_neg c]
