def spAwyC (few : Nat → Int32) (x y r : Int32) : Prop := ((x.toInt < 0 ∨ 7 < x.toInt ∨ y.toInt < 0 ∨ 7 < y.toInt) ∧ r = -2) ∨ ((0 ≤ x.toInt ∧ x.toInt ≤ 7 ∧ 0 ≤ y.toInt ∧ y.toInt ≤ 7) ∧ r = few (x.toInt * 8 + y.toInt).toNat)
def spAwyM (A B : Nat → Int32) (n x y r : Int32) : Prop := ((x.toInt < 0 ∨ 7 < x.toInt ∨ y.toInt < 0 ∨ 7 < y.toInt) ∧ r = -2) ∨ ((0 ≤ x.toInt ∧ x.toInt ≤ 7 ∧ 0 ≤ y.toInt ∧ y.toInt ≤ 7) ∧ dsR A B n.toInt x y r)
theorem spAwy_rel {few A B : Nat → Int32} {doo n x y r r2 : Int32} (hm : mtOK few) (R : doR few doo A B n) (h1 : spAwyC few x y r) (h2 : spAwyM A B n x y r2) : r = r2 := by
  rcases h1 with ⟨a, b⟩ | ⟨a, b⟩
  · rcases h2 with ⟨a2, b2⟩ | ⟨a2, b2⟩
    · rw [b, b2]
    · exfalso; omega
  · rcases h2 with ⟨a2, b2⟩ | ⟨a2, b2⟩
    · exfalso; omega
    · rw [b, b2 few hm R.2]
-- asked
def spAskC (few top : Nat → Int32) (t ro r : Int32) : Prop := ((t.toInt < 0 ∨ 23 < t.toInt ∨ ro.toInt < 0 ∨ 7 < ro.toInt) ∧ r = -2) ∨ ((0 ≤ t.toInt ∧ t.toInt ≤ 23 ∧ 0 ≤ ro.toInt ∧ ro.toInt ≤ 7) ∧ ∃ c : Int32, whu top t c ∧ ((c = -1 ∧ r = -1) ∨ ((0 ≤ c.toInt ∧ c.toInt ≤ 47) ∧ ((few (ro.toInt * 8 + c.toInt / 6).toNat = -1 ∧ r = -1) ∨ (few (ro.toInt * 8 + c.toInt / 6).toNat ≠ -1 ∧ r.toInt = (few (ro.toInt * 8 + c.toInt / 6).toNat).toInt + c.toInt % 6 + 1)))))
def spAskM (A B : Nat → Int32) (n : Int32) (top : Nat → Int32) (t ro r : Int32) : Prop := ((t.toInt < 0 ∨ 23 < t.toInt ∨ ro.toInt < 0 ∨ 7 < ro.toInt) ∧ r = -2) ∨ ((0 ≤ t.toInt ∧ t.toInt ≤ 23 ∧ 0 ≤ ro.toInt ∧ ro.toInt ≤ 7) ∧ ∃ c : Int32, whr top t c ∧ ((c = -1 ∧ r = -1) ∨ ((0 ≤ c.toInt ∧ c.toInt ≤ 47) ∧ ∃ f g : Int32, g.toInt = c.toInt / 6 ∧ dsR A B n.toInt ro g f ∧ ((f = -1 ∧ r = -1) ∨ (f ≠ -1 ∧ r.toInt = f.toInt + c.toInt % 6 + 1)))))
theorem wh_same {f g : Nat → Int32} {t c c2 : Int32} (h : ∀ j, j < 48 → f j = g j) (b : whu f t c) (b2 : whr g t c2) : c = c2 := by
  rcases b with ⟨rfl, b⟩ | ⟨j, hj, rfl, e, hu⟩
  · rcases b2 with ⟨rfl, b2⟩ | ⟨j, hj, rfl, e⟩
    · rfl
    · exact absurd ((h j hj).trans e) (b j hj)
  · rcases b2 with ⟨rfl, b2⟩ | ⟨k, hk, rfl, e2⟩
    · exact absurd ((h j hj).symm.trans e) (b2 j hj)
    · rw [hu k hk ((h k hk).trans e2)]
theorem spAsk_rel {few A B top mt : Nat → Int32} {doo n t ro r r2 : Int32} (hm : mtOK few) (R : doR few doo A B n) (ht : ∀ j, j < 48 → top j = mt j) (h1 : spAskC few top t ro r) (h2 : spAskM A B n mt t ro r2) : r = r2 := by
  rcases h1 with ⟨a, b⟩ | ⟨a, c, w, b⟩
  · rcases h2 with ⟨a2, b2⟩ | ⟨a2, b2⟩
    · rw [b, b2]
    · exfalso; omega
  · rcases h2 with ⟨a2, b2⟩ | ⟨a2, c2, w2, b2⟩
    · exfalso; omega
    · have ec := wh_same ht w w2
      subst ec
      rcases b with ⟨q, b⟩ | ⟨q, b⟩
      · rcases b2 with ⟨-, b2⟩ | ⟨q2, -⟩
        · rw [b, b2]
        · rw [q] at q2; exact absurd q2.1 (by decide)
      · rcases b2 with ⟨q2, -⟩ | ⟨-, f, g, eg, ds, b2⟩
        · rw [q2] at q; exact absurd q.1 (by decide)
        · have ef := ds few hm R.2
          rw [eg] at ef
          rw [← ef] at b
          rcases b with ⟨u, b⟩ | ⟨u, b⟩
          · rcases b2 with ⟨-, b2⟩ | ⟨u2, -⟩
            · rw [b, b2]
            · exact absurd u u2
          · rcases b2 with ⟨u2, -⟩ | ⟨-, b2⟩
            · exact absurd u2 u
            · exact Int32.toInt_inj.mp (b.trans b2.symm)
-- cost
def stF (top : Nat → Int32) (lo : Nat) : Nat → Int
  | 0 => 0
  | k + 1 => stF top lo k + (if top (lo + k) = -1 then 0 else 1)
theorem st_init {top : Nat → Int32} {lo N : Nat} {L : Int} (hL : L = 0) (hN : N = 0) : L = stF top lo N := by subst hN; exact hL
theorem st_step {top : Nat → Int32} {lo N N' : Nat} {o : Int32} {L R : Int} (h : L = stF top lo N) (ho : o.toNatClampNeg = lo + N) (hR : (top o.toNatClampNeg = -1 ∧ R = L) ∨ (¬ top o.toNatClampNeg = -1 ∧ R = L + 1)) (hN : N' = N + 1) : R = stF top lo N' := by
  subst hN
  show R = stF top lo N + (if top (lo + N) = -1 then 0 else 1)
  rw [ho] at hR
  rcases hR with ⟨a, b⟩ | ⟨a, b⟩
  · rw [if_pos a, ← h]; omega
  · rw [if_neg a, ← h]; exact b
theorem st_eq {t t2 : Nat → Int32} {lo : Nat} (h : ∀ j, j < 48 → t j = t2 j) : ∀ k, lo + k ≤ 48 → stF t lo k = stF t2 lo k
  | 0, _ => rfl
  | k + 1, hk => by
    show stF t lo k + (if t (lo + k) = -1 then 0 else 1) = stF t2 lo k + (if t2 (lo + k) = -1 then 0 else 1)
    rw [st_eq h k (by omega), h (lo + k) (by omega)]
def coC (few top : Nat → Int32) (ro r : Int32) : Prop := (few ro.toInt.toNat = -1 ∧ r = -1) ∨ (few ro.toInt.toNat ≠ -1 ∧ r.toInt = 2 * (few ro.toInt.toNat).toInt + stF top (ro.toInt * 6).toNat 6)
def coM (A B : Nat → Int32) (n : Int) (top : Nat → Int32) (ro r : Int32) : Prop := ∃ f : Int32, dsR A B n 0 ro f ∧ ((f = -1 ∧ r = -1) ∨ (f ≠ -1 ∧ r.toInt = 2 * f.toInt + stF top (ro.toInt * 6).toNat 6))
def spCstC (few top : Nat → Int32) (ro r : Int32) : Prop := ((ro.toInt < 0 ∨ 7 < ro.toInt) ∧ r = -2) ∨ ((0 ≤ ro.toInt ∧ ro.toInt ≤ 7) ∧ coC few top ro r)
def spCstM (A B : Nat → Int32) (n : Int32) (top : Nat → Int32) (ro r : Int32) : Prop := ((ro.toInt < 0 ∨ 7 < ro.toInt) ∧ r = -2) ∨ ((0 ≤ ro.toInt ∧ ro.toInt ≤ 7) ∧ coM A B n.toInt top ro r)
