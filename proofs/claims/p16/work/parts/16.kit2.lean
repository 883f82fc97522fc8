theorem ka_lo {X c d : Int} (h1 : c ≤ X) (h2 : X ≠ c) (h3 : d = c + 1 := by rfl) : d ≤ X := by omega
theorem ka_hi {X c d : Int} (h1 : X ≤ c) (h2 : X ≠ c) (h3 : d = c - 1 := by rfl) : X ≤ d := by omega
theorem of_at {f : Nat → Int32} {T : Int} (h : ∀ j : Nat, (j : Int) < T → 0 ≤ (f j).toInt ∧ (f j).toInt < T) {y : Int32} {Y : Int} (hy : y.toInt = Y) (h0 : 0 ≤ Y) (h1 : Y < T) : 0 ≤ (f y.toNatClampNeg).toInt ∧ (f y.toNatClampNeg).toInt < T := h _ (by rw [clC hy]; omega)
theorem th_at {f : Nat → Int32} {T B : Int} (h : ∀ j : Nat, (j : Int) < T → (f j).toInt ≤ B) {y : Int32} {Y : Int} (hy : y.toInt = Y) (h0 : 0 ≤ Y) (h1 : Y < T) : (f y.toNatClampNeg).toInt ≤ B := h _ (by rw [clC hy]; omega)
theorem th_step {f g : Nat → Int32} {y v : Int32} {B Y Z : Int} (e : g = upd f y.toNatClampNeg v) (h : ∀ j : Nat, (j : Int) < Y → (f j).toInt ≤ B) (hy : y.toInt = Y) (h0 : 0 ≤ Y) (hz : Z = Y + 1) (hv : v.toInt ≤ B) : ∀ j : Nat, (j : Int) < Z → (g j).toInt ≤ B := by
  subst e
  intro j hj
  rw [clC hy]
  by_cases q : j = Y.toNat
  · subst q; rw [pk_us]; exact hv
  · rw [pk_un q]; exact h j (by omega)
theorem th_two {f g g' : Nat → Int32} {k1 k2 : Nat} {v w : Int32} {T B : Int} (e2 : g' = upd g k2 w) (e1 : g = upd f k1 v) (h : ∀ j : Nat, (j : Int) < T → (f j).toInt ≤ B) (hv : v.toInt ≤ B) (hw : w.toInt ≤ B) : ∀ j : Nat, (j : Int) < T → (g' j).toInt ≤ B := by
  subst e1; subst e2
  intro j hj
  by_cases q : j = k2
  · subst q; rw [pk_us]; exact hw
  · rw [pk_un q]
    by_cases q2 : j = k1
    · subst q2; rw [pk_us]; exact hv
    · rw [pk_un q2]; exact h j hj
theorem ord_at {T D : Int} {f : Nat → Int32} {y : Int32} (h : ordOK T D f) (hy : y.toInt = D) (h0 : 0 ≤ D) : -1 ≤ (f y.toNatClampNeg).toInt ∧ (f y.toNatClampNeg).toInt < T := by
  rw [clC hy]; exact (h D.toNat).1 (by omega)
theorem ok_init3 {T : Int} {f g : Nat → Int32} {z w : Int32} (e : g = upd f z.toNatClampNeg w) (hz : z.toInt = 0) (hw : w.toInt = -1) (hT : 1 ≤ T) : ordOK T 0 g := by
  subst e
  intro j
  rw [clC hz]
  refine ⟨fun q => ?_, fun q => absurd q (by omega)⟩
  have : j = (0 : Int).toNat := by omega
  subst this
  rw [pk_us]; omega
theorem ok_same3 {T D : Int} {f g : Nat → Int32} {y v : Int32} (e : g = upd f y.toNatClampNeg v) (h : ordOK T D f) (hy : y.toInt = D) (h0 : 0 ≤ D) (hv : v.toInt = (f y.toNatClampNeg).toInt + 1) (hn : v.toInt ≠ T) : ordOK T D g := by
  subst e; exact ok_same h hy h0 hv hn
theorem ok_down3 {T D D' : Int} {f g : Nat → Int32} {y v : Int32} (e : g = upd f y.toNatClampNeg v) (h : ordOK T D f) (hy : y.toInt = D) (h0 : 0 ≤ D) (eD : D' = D - 1) : ordOK T D' g := by
  subst e; subst eD; exact ok_down h hy h0
theorem ok_up3 {T D D' : Int} {f g g' : Nat → Int32} {y v z w : Int32} (e2 : g' = upd g z.toNatClampNeg w) (e1 : g = upd f y.toNatClampNeg v) (h : ordOK T D f) (hT : 0 ≤ T) (hy : y.toInt = D) (h0 : 0 ≤ D) (hv : v.toInt = (f y.toNatClampNeg).toInt + 1) (hn : v.toInt ≠ T) (hz : z.toInt = D + 1) (hw : w.toInt = -1) (eD : D' = D + 1) : ordOK T D' g' := by
  subst e1; subst e2; subst eD; exact ok_up h hT hy h0 hv hn hz hw
theorem ok_back3 {T D D' : Int} {f g g' : Nat → Int32} {y v z w : Int32} (e2 : g' = upd g z.toNatClampNeg w) (e1 : g = upd f y.toNatClampNeg v) (h : ordOK T D f) (hy : y.toInt = D) (h0 : 0 ≤ D) (hv : v.toInt = (f y.toNatClampNeg).toInt + 1) (hn : v.toInt ≠ T) (hz : z.toInt = D + 1) (eD : D' = D) : ordOK T D' g' := by
  subst eD
  have h1 := ok_same3 e1 h hy h0 hv hn
  subst e2
  intro j
  rw [clC hz]
  by_cases q : j = (D' + 1).toNat
  · exact ⟨fun q2 => absurd q2 (by omega), fun q2 => absurd q2 (by omega)⟩
  · rw [pk_un q]; exact h1 j
theorem ok_full3 {T D : Int} {f g : Nat → Int32} {y v : Int32} (e : g = upd f y.toNatClampNeg v) (h : ordOK T D f) (hy : y.toInt = D) (h0 : 0 ≤ D) (hv : v.toInt = (f y.toNatClampNeg).toInt + 1) (hn : v.toInt ≠ T) (hD : D = T - 1) : ∀ j : Nat, (j : Int) < T → 0 ≤ (g j).toInt ∧ (g j).toInt < T := by
  subst e
  intro j hj
  exact ok_full h hy h0 hv hn j (by omega)
theorem om_same3 {T D : Int} {B E : Nat} {f g : Nat → Int32} {y v : Int32} (e : g = upd f y.toNatClampNeg v) (hB : 1 ≤ B) (hy : y.toInt = D) (h0 : 0 ≤ D) (h1 : (f y.toNatClampNeg).toInt < T) (hv : v.toInt = (f y.toNatClampNeg).toInt + 1) : omM T B E g (D + 1).toNat < omM T B E f (D + 1).toNat := by
  subst e; exact om_same hB hy h0 h1 hv
theorem om_down3 {T D D' : Int} {B E : Nat} {f g : Nat → Int32} {y v : Int32} (e : g = upd f y.toNatClampNeg v) (hB : 1 ≤ B) (hy : y.toInt = D) (h0 : 0 ≤ D) (h1 : (f y.toNatClampNeg).toInt < T) (eD : D' = D - 1) : omM T B E g (D' + 1).toNat < omM T B E f (D + 1).toNat := by
  subst e; subst eD; exact om_down hB hy h0 h1
theorem om_up3 {T D D' : Int} {B E : Nat} {f g g' : Nat → Int32} {y v z w : Int32} (e2 : g' = upd g z.toNatClampNeg w) (e1 : g = upd f y.toNatClampNeg v) (hT : (T + 1).toNat + 1 ≤ B) (hy : y.toInt = D) (h0 : 0 ≤ D) (hE : D + 1 ≤ E) (h1 : (f y.toNatClampNeg).toInt < T) (hv : v.toInt = (f y.toNatClampNeg).toInt + 1) (hz : z.toInt = D + 1) (hw : w.toInt = -1) (eD : D' = D + 1) : omM T B E g' (D' + 1).toNat < omM T B E f (D + 1).toNat := by
  subst e1; subst e2; subst eD; exact om_up hT hy h0 hE h1 hv hz hw
theorem om_back3 {T D D' : Int} {B E : Nat} {f g g' : Nat → Int32} {y v z w : Int32} (e2 : g' = upd g z.toNatClampNeg w) (e1 : g = upd f y.toNatClampNeg v) (hB : 1 ≤ B) (hy : y.toInt = D) (h0 : 0 ≤ D) (h1 : (f y.toNatClampNeg).toInt < T) (hv : v.toInt = (f y.toNatClampNeg).toInt + 1) (hz : z.toInt = D + 1) (eD : D' = D) : omM T B E g' (D' + 1).toNat < omM T B E f (D + 1).toNat := by
  subst eD
  have h2 := om_same3 (E := E) e1 hB hy h0 h1 hv
  subst e2
  rw [clC hz, omM_upd (Nat.le_refl _)]
  exact h2
