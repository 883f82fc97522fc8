theorem co_rel {few A B top mt : Nat → Int32} {n : Int} {ro r r2 : Int32} (hm : mtOK few) (R : edR few A B n) (ht : ∀ j, j < 48 → top j = mt j) (hr : 0 ≤ ro.toInt ∧ ro.toInt ≤ 7) (h1 : coC few top ro r) (h2 : coM A B n mt ro r2) : r = r2 := by
  obtain ⟨f, ds, b2⟩ := h2
  have ef := ds few hm R
  rw [show (((0 : Int32)).toInt * 8 + ro.toInt).toNat = ro.toInt.toNat from by rw [Int32.toInt_zero]; omega] at ef
  unfold coC at h1
  rw [← ef] at h1
  rcases h1 with ⟨u, b⟩ | ⟨u, b⟩
  · rcases b2 with ⟨-, b2⟩ | ⟨u2, -⟩
    · rw [b, b2]
    · exact absurd u u2
  · rcases b2 with ⟨u2, -⟩ | ⟨-, b2⟩
    · exact absurd u2 u
    · rw [st_eq ht 6 (by omega)] at b
      exact Int32.toInt_inj.mp (b.trans b2.symm)
theorem spCst_rel {few A B top mt : Nat → Int32} {doo n ro r r2 : Int32} (hm : mtOK few) (R : doR few doo A B n) (ht : ∀ j, j < 48 → top j = mt j) (h1 : spCstC few top ro r) (h2 : spCstM A B n mt ro r2) : r = r2 := by
  rcases h1 with ⟨a, b⟩ | ⟨a, b⟩
  · rcases h2 with ⟨a2, b2⟩ | ⟨a2, b2⟩
    · rw [b, b2]
    · exfalso; omega
  · rcases h2 with ⟨a2, b2⟩ | ⟨a2, b2⟩
    · exfalso; omega
    · exact co_rel hm R.2 ht a b b2
theorem do_init {few A B : Nat → Int32} {doo n : Int32} (h : di0 few) (h1 : doo = 0) (h2 : n = 0) : doR few doo A B n := by
  subst h1; subst h2
  refine ⟨rfl, fun x y hx hy => ⟨fun q => ?_, fun ⟨k, hk, _⟩ => ?_⟩⟩
  · have w := h x y hx hy
    by_cases c : x = y
    · rw [if_pos c] at w
      unfold dd at q; rw [dv_nn (by omega)] at q; omega
    · rw [if_neg c] at w
      unfold dd at q; rw [dv_m1 w] at q; omega
  · rw [Int32.toInt_zero] at hk; omega
theorem fi8_init {F : Nat → Int32} {a : Int32} {i : Int} (hi : i = 0) : fi8 a i F := fun j hj => by omega
theorem jk_narrow {A B : Nat → Int32} {x y r : Int32} {k : Int} (h : jkI A B x y k r) : r = 0 ∨ r = 1 := h.imp (fun a => a.1) (fun a => a.1)
theorem st_end {top : Nat → Int32} {lo lo' N : Nat} {L : Int} (h : L = stF top lo N) (e1 : lo' = lo) (e2 : N = 6) : L = stF top lo' 6 := by subst e1; subst e2; exact h
theorem askC_n {few top : Nat → Int32} {t ro c : Int32} (h0 : 0 ≤ t.toInt ∧ t.toInt ≤ 23 ∧ 0 ≤ ro.toInt ∧ ro.toInt ≤ 7) (w : whu top t c) (hc : c = -1) : spAskC few top t ro (-1) := .inr ⟨h0, c, w, .inl ⟨hc, rfl⟩⟩
