theorem dk_step {A B F0 F F1 F2 : Nat → Int32} {n k k' t : Int} {a : Nat} {c x y v w : Int32} (ha : a < 8) (hA : rg 14 0 7 A) (hB : rg 14 0 7 B) (q0 : dtI A B n a t F0) (q : dkI A B n a k F0 F) (hk : k = c.toInt) (hc : 0 ≤ c.toInt) (hcn : c.toInt < n) (hn : n ≤ 14) (ex : x = A c.toNatClampNeg) (ey : y = B c.toNatClampNeg) (e1 : F1 = upd F x.toNatClampNeg v) (hv : v.toInt = min ((F y.toNatClampNeg).toInt + 1) (F x.toNatClampNeg).toInt) (e2 : F2 = upd F1 y.toNatClampNeg w) (hw : w.toInt = min ((F1 x.toNatClampNeg).toInt + 1) (F1 y.toNatClampNeg).toInt) (hk' : k' = c.toInt + 1) : dkI A B n a k' F0 F2 := by
  subst hk; subst hk'
  have ec := clC (x := c) rfl
  have rx := hA c.toNatClampNeg (by omega)
  have ry := hB c.toNatClampNeg (by omega)
  rw [← ex] at rx; rw [← ey] at ry
  have cx := clC (x := x) rfl
  have cy := clC (x := y) rfl
  have x8 : x.toNatClampNeg < 8 := by omega
  have y8 : y.toNatClampNeg < 8 := by omega
  have f1x : F1 x.toNatClampNeg = v := by rw [e1, pk_us]
  have f1 : ∀ j : Nat, j < 8 → 0 ≤ (F1 j).toInt ∧ (F1 j).toInt ≤ (F j).toInt := by
    intro j hj
    by_cases c : j = x.toNatClampNeg
    · subst c; rw [f1x]; have := (q.1 _ x8).1; have := (q.1 _ y8).1; omega
    · rw [e1, pk_un c]; exact ⟨(q.1 j hj).1, Int.le_refl _⟩
  have f2y : F2 y.toNatClampNeg = w := by rw [e2, pk_us]
  have f2 : ∀ j : Nat, j < 8 → 0 ≤ (F2 j).toInt ∧ (F2 j).toInt ≤ (F1 j).toInt := by
    intro j hj
    by_cases c : j = y.toNatClampNeg
    · subst c; rw [f2y]; have := (f1 _ x8).1; have := (f1 _ y8).1; omega
    · rw [e2, pk_un c]; exact ⟨(f1 j hj).1, Int.le_refl _⟩
  refine ⟨fun j hj => ?_, fun few hm he j hj => ?_, fun p hp => ?_⟩
  · have := f1 j hj; have := f2 j hj; have := q.1 j hj; omega
  · have lo := q.2.1 few hm he
    have ed : dd few x.toNatClampNeg y.toNatClampNeg = 1 := (he _ _ x8 y8).mpr ⟨c.toNatClampNeg, by omega, Or.inl ⟨by rw [← ex]; omega, by rw [← ey]; omega⟩⟩
    have ed2 : dd few y.toNatClampNeg x.toNatClampNeg = 1 := by rw [← (hm.2 _ _ x8 y8).2.2.1]; exact ed
    have tx := (hm.2 a x.toNatClampNeg ha x8).2.2.2.1 y.toNatClampNeg y8
    have ty := (hm.2 a y.toNatClampNeg ha y8).2.2.2.1 x.toNatClampNeg x8
    have lx := lo _ x8
    have ly := lo _ y8
    have lo1 : ∀ j : Nat, j < 8 → dd few a j ≤ (F1 j).toInt := by
      intro j hj
      by_cases c : j = x.toNatClampNeg
      · subst c; rw [f1x]; omega
      · rw [e1, pk_un c]; exact lo j hj
    have l1x := lo1 _ x8
    have l1y := lo1 _ y8
    by_cases c : j = y.toNatClampNeg
    · subst c; rw [f2y]; omega
    · rw [e2, pk_un c]; exact lo1 j hj
  · by_cases c' : p = c.toNatClampNeg
    · subst c'
      rw [← ex, ← ey]
      have g1 := f2 _ x8
      have g2 := f1 _ x8
      have g3 := (q.1 _ x8).2
      have g4 := (q.1 _ y8).2
      have g5 := f1 _ y8
      rw [f2y]
      have g6 := f1x
      rw [f1x] at hw g1
      omega
    · have w0 := q.2.2 p (by omega)
      have ap := hA p (by omega)
      have bp := hB p (by omega)
      have pa : (A p).toNatClampNeg < 8 := by rw [clC (x := A p) rfl]; omega
      have pb : (B p).toNatClampNeg < 8 := by rw [clC (x := B p) rfl]; omega
      have := f1 _ pa; have := f2 _ pa; have := f1 _ pb; have := f2 _ pb
      omega
