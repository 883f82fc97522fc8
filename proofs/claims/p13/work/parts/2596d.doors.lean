theorem spDor_rel {few few' A B A' B' : Nat → Int32} {doo doo' n n' x y r r2 : Int32} (hm : mtOK few) (hn : 0 ≤ n.toInt ∧ n.toInt ≤ 14) (R : doR few doo A B n) (h1 : spDorC few doo x y r few' doo') (h2 : spDorM A B n x y r2 A' B' n') : r = r2 ∧ doR few' doo' A' B' n' := by
  obtain ⟨rd, re⟩ := R
  subst rd
  have R : doR few doo A B doo := ⟨rfl, re⟩
  rcases h1 with ⟨a, b, e1, e2⟩ | ⟨a, b⟩
  · rcases h2 with ⟨a2, b2, d1, d2, d3⟩ | ⟨a2, b2⟩
    · rw [b, b2, e1, e2, d1, d2, d3]; exact ⟨rfl, R⟩
    · exfalso; omega
  · rcases h2 with ⟨a2, b2⟩ | ⟨a2, b2⟩
    · exfalso; omega
    · have ek : (few (x.toInt * 8 + y.toInt).toNat).toInt = 1 ↔ eD A B doo.toInt x.toInt y.toInt := by
        rw [one_dd ⟨by omega, by omega⟩, re _ _ (by omega) (by omega), show ((x.toInt.toNat : Nat) : Int) = x.toInt by omega, show ((y.toInt.toNat : Nat) : Int) = y.toInt by omega]
      rcases b with ⟨j, b, e1, e2⟩ | ⟨j, b⟩
      · rcases b2 with ⟨j2, b2, d1, d2, d3⟩ | ⟨j2, -⟩
        · rw [b, b2, e1, e2, d1, d2, d3]; exact ⟨rfl, R⟩
        · exact absurd (ek.mp j) j2
      · rcases b2 with ⟨j2, -⟩ | ⟨j2, b2⟩
        · exact absurd (ek.mpr j2) j
        · rcases b with ⟨f, b, e1, e2⟩ | ⟨f, b, e1, s⟩
          · rcases b2 with ⟨f2, b2, d1, d2, d3⟩ | ⟨f2, -⟩
            · rw [b, b2, e1, e2, d1, d2, d3]; exact ⟨rfl, R⟩
            · exfalso; omega
          · rcases b2 with ⟨f2, -⟩ | ⟨f2, b2, d1, d2, d3⟩
            · exfalso; omega
            · rw [b, b2, e1, d1, d2, d3]
              refine ⟨rfl, rfl, fun p q hp hq => ?_⟩
              have en : (doo + 1).toInt = doo.toInt + 1 := addC rfl (show (1 : Int32).toInt = 1 from rfl) (by omega) (by omega)
              rw [en, s p q hp hq]
              have cn := clC (x := doo) rfl
              have mm : met (dd few) := hm.2
              have mpq0 := (mm p q hp hq).1.1
              have mpq1 := (mm p q hp hq).2.1
              have a8 : x.toInt.toNat < 8 := by omega
              have b8 : y.toInt.toNat < 8 := by omega
              have nn1 := (mm p x.toInt.toNat hp a8).1.1
              have zz1 := (mm p x.toInt.toNat hp a8).2.1
              have nn2 := (mm y.toInt.toNat q b8 hq).1.1
              have zz2 := (mm y.toInt.toNat q b8 hq).2.1
              have nn3 := (mm p y.toInt.toNat hp b8).1.1
              have zz3 := (mm p y.toInt.toNat hp b8).2.1
              have nn4 := (mm x.toInt.toNat q a8 hq).1.1
              have zz4 := (mm x.toInt.toNat q a8 hq).2.1
              refine ⟨fun g => ?_, fun g => ?_⟩
              · by_cases c : dd few p q = 1
                · obtain ⟨k, hk, w⟩ := (re p q hp hq).mp c
                  refine ⟨k, by omega, ?_⟩
                  rw [pk_un (by omega), pk_un (by omega)]; exact w
                · have g' := g
                  unfold mn at g'
                  have pq0 : dd few p q ≠ 0 := fun z => by omega
                  have cs : (dd few p x.toInt.toNat = 0 ∧ dd few y.toInt.toNat q = 0) ∨ (dd few p y.toInt.toNat = 0 ∧ dd few x.toInt.toNat q = 0) := by
                    omega
                  refine ⟨doo.toNatClampNeg, by omega, ?_⟩
                  rw [pk_us, pk_us]
                  rcases cs with ⟨z1, z2⟩ | ⟨z1, z2⟩
                  · have w1 := zz1.mp z1
                    have w2 := zz2.mp z2
                    exact .inl ⟨by omega, by omega⟩
                  · have w1 := zz3.mp z1
                    have w2 := zz4.mp z2
                    exact .inr ⟨by omega, by omega⟩
              · obtain ⟨k, hk, w⟩ := g
                by_cases c : k = doo.toNatClampNeg
                · subst c
                  rw [pk_us, pk_us] at w
                  have pq0 : dd few p q ≠ 0 := fun z => by
                    have := mpq1.mp z
                    rcases w with ⟨w1, w2⟩ | ⟨w1, w2⟩ <;> omega
                  rcases w with ⟨w1, w2⟩ | ⟨w1, w2⟩
                  · have z1 := zz1.mpr (by omega)
                    have z2 := zz2.mpr (by omega)
                    unfold mn; omega
                  · have z1 := zz3.mpr (by omega)
                    have z2 := zz4.mpr (by omega)
                    unfold mn; omega
                · rw [pk_un c, pk_un c] at w
                  have z := (re p q hp hq).mpr ⟨k, by omega, w⟩
                  unfold mn; omega
