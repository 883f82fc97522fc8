-- ===== how many DOORS lie between: a metric =====
def dv (v : Int32) : Int := if v.toInt = -1 then 100 else v.toInt
def dd (few : Nat → Int32) (x y : Nat) : Int := dv (few (x * 8 + y))
def met (D : Nat → Nat → Int) : Prop := ∀ x y : Nat, x < 8 → y < 8 → (0 ≤ D x y ∧ (D x y ≤ 7 ∨ D x y = 100)) ∧ (D x y = 0 ↔ x = y) ∧ D x y = D y x ∧ (∀ z : Nat, z < 8 → D x y ≤ D x z + D z y) ∧ (1 < D x y → D x y ≤ 7 → ∃ z : Nat, z < 8 ∧ D x z + 1 = D x y ∧ D z y = 1)
def mtOK (few : Nat → Int32) : Prop := (∀ x y : Nat, x < 8 → y < 8 → -1 ≤ (few (x * 8 + y)).toInt ∧ (few (x * 8 + y)).toInt ≤ 7) ∧ met (dd few)
def mn (D : Nat → Nat → Int) (a b x y : Nat) : Int := min (D x y) (min (D x a + 1 + D b y) (D x b + 1 + D a y))
theorem mn_sw {D : Nat → Nat → Int} {a b x y : Nat} : mn D a b x y = mn D b a x y := by unfold mn; omega
-- nine rooms can't lie at nine distances
def ctF (f : Nat → Int) (n : Int) : Nat → Nat
  | 0 => 0
  | k + 1 => ctF f n k + (if f k < n then 1 else 0)
theorem ct_le {f : Nat → Int} {n : Int} : ∀ k, ctF f n k ≤ k
  | 0 => Nat.le_refl 0
  | k + 1 => by
    have := ct_le (f := f) (n := n) k
    show ctF f n k + (if f k < n then 1 else 0) ≤ k + 1
    by_cases c : f k < n
    · rw [if_pos c]; omega
    · rw [if_neg c]; omega
theorem ct_mono {f : Nat → Int} {n : Int} : ∀ k, ctF f n k ≤ ctF f (n + 1) k
  | 0 => Nat.le_refl 0
  | k + 1 => by
    have := ct_mono (f := f) (n := n) k
    show ctF f n k + (if f k < n then 1 else 0) ≤ ctF f (n + 1) k + (if f k < n + 1 then 1 else 0)
    by_cases c : f k < n
    · rw [if_pos c, if_pos (by omega)]; omega
    · rw [if_neg c]; omega
theorem ct_up {f : Nat → Int} {n : Int} {z : Nat} (hz : f z = n) : ∀ k, z < k → ctF f n k + 1 ≤ ctF f (n + 1) k
  | 0, h => absurd h (Nat.not_lt_zero _)
  | k + 1, h => by
    have m := ct_mono (f := f) (n := n) k
    show ctF f n k + (if f k < n then 1 else 0) + 1 ≤ ctF f (n + 1) k + (if f k < n + 1 then 1 else 0)
    by_cases e : z = k
    · subst e
      rw [if_neg (by omega), if_pos (by omega)]; omega
    · have i := ct_up hz k (by omega)
      by_cases c : f k < n
      · rw [if_pos c, if_pos (by omega)]; omega
      · rw [if_neg c]; omega
theorem ct_all {f : Nat → Int} {k : Nat} : ∀ n : Nat, (∀ i : Nat, i < n → ∃ z : Nat, z < k ∧ f z = (i : Int)) → n ≤ ctF f (n : Int) k
  | 0, _ => Nat.zero_le _
  | n + 1, h => by
    have i := ct_all n (fun i hi => h i (by omega))
    obtain ⟨z, hz, e⟩ := h n (by omega)
    have u := ct_up e k hz
    rw [show ((n + 1 : Nat) : Int) = (n : Int) + 1 from rfl]
    omega
theorem lv_all {D : Nat → Nat → Int} {x y : Nat} {K : Nat} (hx : x < 8) (hy : y < 8) (h0 : ∀ z : Nat, z < 8 → 0 ≤ D x z) (hxx : D x x = 0) (hs : ∀ z : Nat, z < 8 → 1 < D x z → D x z ≤ K → ∃ w : Nat, w < 8 ∧ D x w + 1 = D x z) (hk : D x y = (K : Int)) : ∀ j : Nat, j ≤ K → ∃ z : Nat, z < 8 ∧ D x z = (K : Int) - j
  | 0, _ => ⟨y, hy, by omega⟩
  | j + 1, hj => by
    obtain ⟨z, hz, e⟩ := lv_all hx hy h0 hxx hs hk j (by omega)
    by_cases c : 1 < D x z
    · obtain ⟨w, hw, ew⟩ := hs z hz c (by omega)
      exact ⟨w, hw, by omega⟩
    · exact ⟨x, hx, by omega⟩
theorem le7 {D : Nat → Nat → Int} {x y : Nat} (hx : x < 8) (hy : y < 8) (h0 : ∀ z : Nat, z < 8 → 0 ≤ D x z) (hxx : D x x = 0) (hs : ∀ z : Nat, z < 8 → 1 < D x z → D x z ≤ 15 → ∃ w : Nat, w < 8 ∧ D x w + 1 = D x z) (hk : D x y ≤ 15) : D x y ≤ 7 := by
  refine Classical.byContradiction fun c => ?_
  have hK : D x y = ((D x y).toNat : Int) := by have := h0 y hy; omega
  have la := lv_all (K := (D x y).toNat) hx hy h0 hxx (fun z hz h1 h2 => hs z hz h1 (by omega)) hK
  have al := ct_all (f := fun z => D x z) (k := 8) 9 (fun i hi => by
    obtain ⟨z, hz, e⟩ := la ((D x y).toNat - i) (by omega)
    exact ⟨z, hz, by show D x z = _; omega⟩)
  have := ct_le (f := fun z => D x z) (n := ((9 : Nat) : Int)) 8
  omega
theorem mn_tri {D : Nat → Nat → Int} (h : met D) {a b x y z : Nat} (ha : a < 8) (hb : b < 8) (hx : x < 8) (hy : y < 8) (hz : z < 8) : mn D a b x y ≤ mn D a b x z + mn D a b z y := by
  have t1 := (h x y hx hy).2.2.2.1 z hz
  have t2 := (h x a hx ha).2.2.2.1 z hz
  have t3 := (h x b hx hb).2.2.2.1 z hz
  have t4 := (h b y hb hy).2.2.2.1 z hz
  have t5 := (h a y ha hy).2.2.2.1 z hz
  have t6 := (h x y hx hy).2.2.2.1 a ha
  have t7 := (h x y hx hy).2.2.2.1 b hb
  have n1 := (h x z hx hz).1.1
  have n2 := (h z y hz hy).1.1
  have n3 := (h b z hb hz).1.1
  have n4 := (h a z ha hz).1.1
  have n5 := (h z a hz ha).1.1
  have n6 := (h z b hz hb).1.1
  unfold mn
  omega
theorem mn_met {D : Nat → Nat → Int} (h : met D) {a b : Nat} (ha : a < 8) (hb : b < 8) (hab : a ≠ b) : met (mn D a b) := by
  have haa : D a a = 0 := (h a a ha ha).2.1.mpr rfl
  have hbb : D b b = 0 := (h b b hb hb).2.1.mpr rfl
  have m0 : ∀ x y : Nat, x < 8 → y < 8 → 0 ≤ mn D a b x y ∧ (mn D a b x y ≤ 15 ∨ mn D a b x y = 100) := by
    intro x y hx hy
    have a1 := (h x y hx hy).1
    have a2 := (h x a hx ha).1
    have a3 := (h b y hb hy).1
    have a4 := (h x b hx hb).1
    have a5 := (h a y ha hy).1
    unfold mn
    omega
  have mz : ∀ x y : Nat, x < 8 → y < 8 → (mn D a b x y = 0 ↔ x = y) := by
    intro x y hx hy
    have a1 := (h x y hx hy).1.1
    have a2 := (h x a hx ha).1.1
    have a3 := (h b y hb hy).1.1
    have a4 := (h x b hx hb).1.1
    have a5 := (h a y ha hy).1.1
    refine ⟨fun q => ?_, fun q => ?_⟩
    · refine (h x y hx hy).2.1.mp ?_
      unfold mn at q
      omega
    · have e := (h x y hx hy).2.1.mpr q
      unfold mn
      omega
  have ms : ∀ x y : Nat, x < 8 → y < 8 → 1 < mn D a b x y → mn D a b x y ≤ 15 → ∃ z : Nat, z < 8 ∧ mn D a b x z + 1 = mn D a b x y ∧ mn D a b z y = 1 := by
    intro x y hx hy g1 g2
    have fin : ∀ z : Nat, z < 8 → z ≠ y → mn D a b x z + 1 ≤ mn D a b x y → mn D a b z y ≤ 1 → ∃ z : Nat, z < 8 ∧ mn D a b x z + 1 = mn D a b x y ∧ mn D a b z y = 1 := by
      intro z hz zy k1 k2
      have t := mn_tri h ha hb hx hy hz
      have z0 : mn D a b z y ≠ 0 := fun q => zy ((mz z y hz hy).mp q)
      have z1 := (m0 z y hz hy).1
      exact ⟨z, hz, by omega, by omega⟩
    have half : ∀ a b : Nat, a < 8 → b < 8 → a ≠ b → D a a = 0 → D b b = 0 → (∀ x y : Nat, mn D a b x y = mn D a b x y) → mn D a b x y = D x a + 1 + D b y → mn D a b x y ≤ 15 → ∃ z : Nat, z < 8 ∧ z ≠ y ∧ mn D a b x z + 1 ≤ mn D a b x y ∧ mn D a b z y ≤ 1 := by
      intro a b ha hb hab haa hbb _ e g2
      have by0 := (h b y hb hy).1
      have xa0 := (h x a hx ha).1
      by_cases c0 : D b y = 0
      · have eb := (h b y hb hy).2.1.mp c0
        subst eb
        refine ⟨a, ha, hab, ?_, ?_⟩
        · have : mn D a b x a ≤ D x a := by unfold mn; omega
          omega
        · have : mn D a b a b ≤ D a a + 1 + D b b := by unfold mn; omega
          omega
      · by_cases c1 : D b y = 1
        · refine ⟨b, hb, fun q => ?_, ?_, ?_⟩
          · rw [q] at c1; have := (h y y hy hy).2.1.mpr rfl; omega
          · have : mn D a b x b ≤ D x a + 1 + D b b := by unfold mn; omega
            omega
          · have : mn D a b b y ≤ D b y := by unfold mn; omega
            omega
        · obtain ⟨z, hz, e1, e2⟩ := (h b y hb hy).2.2.2.2 (by omega) (by omega)
          refine ⟨z, hz, fun q => ?_, ?_, ?_⟩
          · rw [q] at e2; have := (h y y hy hy).2.1.mpr rfl; omega
          · have : mn D a b x z ≤ D x a + 1 + D b z := by unfold mn; omega
            omega
          · have : mn D a b z y ≤ D z y := by unfold mn; omega
            omega
    have cs : mn D a b x y = D x y ∨ mn D a b x y = D x a + 1 + D b y ∨ mn D a b x y = D x b + 1 + D a y := by unfold mn; omega
    rcases cs with e | e | e
    · have xy0 := (h x y hx hy).1
      obtain ⟨z, hz, e1, e2⟩ := (h x y hx hy).2.2.2.2 (by omega) (by omega)
      refine fin z hz (fun q => ?_) ?_ ?_
      · rw [q] at e2; have := (h y y hy hy).2.1.mpr rfl; omega
      · have : mn D a b x z ≤ D x z := by unfold mn; omega
        omega
      · have : mn D a b z y ≤ D z y := by unfold mn; omega
        omega
    · obtain ⟨z, hz, k0, k1, k2⟩ := half a b ha hb hab haa hbb (fun _ _ => rfl) e g2
      exact fin z hz k0 k1 k2
    · have e' : mn D b a x y = D x b + 1 + D a y := by rw [← mn_sw]; exact e
      obtain ⟨z, hz, k0, k1, k2⟩ := half b a hb ha (fun q => hab q.symm) hbb haa (fun _ _ => rfl) e' (by rw [← mn_sw]; exact g2)
      rw [← mn_sw (a := a), ← mn_sw (a := a)] at k1
      rw [← mn_sw (a := a)] at k2
      exact fin z hz k0 k1 k2
  intro x y hx hy
  refine ⟨⟨(m0 x y hx hy).1, ?_⟩, mz x y hx hy, ?_, fun z hz => mn_tri h ha hb hx hy hz, fun g1 g2 => ms x y hx hy g1 (by omega)⟩
  · rcases (m0 x y hx hy).2 with q | q
    · left
      refine le7 hx hy (fun z hz => (m0 x z hx hz).1) ((mz x x hx hx).mpr rfl) (fun z hz g1 g2 => ?_) q
      obtain ⟨w, hw, e, -⟩ := ms x z hx hz g1 g2
      exact ⟨w, hw, e⟩
    · right; exact q
  · have s1 := (h x y hx hy).2.2.1
    have s2 := (h x a hx ha).2.2.1
    have s3 := (h x b hx hb).2.2.1
    have s4 := (h b y hb hy).2.2.1
    have s5 := (h a y ha hy).2.2.1
    unfold mn
    omega
-- shorten, join
theorem dv_rg {v : Int32} (h0 : -1 ≤ v.toInt) (h1 : v.toInt ≤ 31) : 0 ≤ dv v ∧ (dv v ≤ 31 ∨ dv v = 100) := by
  unfold dv
  by_cases c : v.toInt = -1
  · rw [if_pos c]; omega
  · rw [if_neg c]; omega
theorem dv_m1 {v : Int32} (h : v.toInt = -1) : dv v = 100 := by unfold dv; rw [if_pos h]
theorem dv_nn {v : Int32} (h : 0 ≤ v.toInt) : dv v = v.toInt := by unfold dv; rw [if_neg (by omega)]
def shS (few : Nat → Int32) (fr to bf bh : Int32) (few' : Nat → Int32) : Prop := ∃ v : Int32, few' = upd few (fr.toInt * 8 + to.toInt).toNat v ∧ (v = few (fr.toInt * 8 + to.toInt).toNat ∨ (0 ≤ bf.toInt ∧ 0 ≤ bh.toInt ∧ v.toInt = bf.toInt + 1 + bh.toInt)) ∧ dv v = min (dv (few (fr.toInt * 8 + to.toInt).toNat)) (dv bf + 1 + dv bh)
theorem sh_same {few : Nat → Int32} {fr to bf bh : Int32} (h : dv (few (fr.toInt * 8 + to.toInt).toNat) ≤ dv bf + 1 + dv bh) : shS few fr to bf bh few := by
  refine ⟨few (fr.toInt * 8 + to.toInt).toNat, ?_, .inl rfl, by omega⟩
  funext j
  by_cases e : j = (fr.toInt * 8 + to.toInt).toNat
  · subst e; rw [pk_us]
  · rw [pk_un e]
theorem sh_m1 {few : Nat → Int32} {fr to bf bh : Int32} (hk : -1 ≤ (few (fr.toInt * 8 + to.toInt).toNat).toInt ∧ (few (fr.toInt * 8 + to.toInt).toNat).toInt ≤ 31) (h1 : -1 ≤ bf.toInt ∧ bf.toInt ≤ 31) (h2 : -1 ≤ bh.toInt ∧ bh.toInt ≤ 31) (h : bf.toInt = -1 ∨ bh.toInt = -1) : shS few fr to bf bh few := by
  refine sh_same ?_
  have a := dv_rg hk.1 hk.2
  have b := dv_rg h1.1 h1.2
  have c := dv_rg h2.1 h2.2
  rcases h with h | h
  · rw [dv_m1 h]; omega
  · rw [dv_m1 h]; omega
theorem sh_keep {few : Nat → Int32} {fr to bf bh k : Int32} (h1 : 0 ≤ bf.toInt) (h2 : 0 ≤ bh.toInt) (ek : k = few (fr.toInt * 8 + to.toInt).toNat) (h0 : 0 ≤ k.toInt) (h : k.toInt ≤ bf.toInt + 1 + bh.toInt) : shS few fr to bf bh few := by
  refine sh_same ?_
  rw [← ek, dv_nn h1, dv_nn h2, dv_nn h0]; omega
theorem sh_put {few few' : Nat → Int32} {fr to bf bh k v : Int32} {i : Nat} (e : few' = upd few i v) (ei : i = (fr.toInt * 8 + to.toInt).toNat) (ek : k = few (fr.toInt * 8 + to.toInt).toNat) (hv : v.toInt = bf.toInt + 1 + bh.toInt) (h1 : 0 ≤ bf.toInt ∧ bf.toInt ≤ 31) (h2 : 0 ≤ bh.toInt ∧ bh.toInt ≤ 31) (h : k.toInt = -1 ∨ (0 ≤ k.toInt ∧ v.toInt < k.toInt)) : shS few fr to bf bh few' := by
  subst ei
  refine ⟨v, e, .inr ⟨h1.1, h2.1, hv⟩, ?_⟩
  rw [← ek, dv_nn h1.1, dv_nn h2.1, dv_nn (by omega), hv]
  rcases h with h | h
  · rw [dv_m1 h]; omega
  · rw [dv_nn h.1]; omega
def jnI (few : Nat → Int32) (a b : Nat) (i j : Int) (C : Nat → Int32) : Prop := ∀ x y : Nat, x < 8 → y < 8 → (-1 ≤ (C (x * 8 + y)).toInt ∧ (C (x * 8 + y)).toInt ≤ 15) ∧ (((x : Int) < i ∨ ((x : Int) = i ∧ (y : Int) < j)) → dv (C (x * 8 + y)) = mn (dd few) a b x y) ∧ (¬ ((x : Int) < i ∨ ((x : Int) = i ∧ (y : Int) < j)) → C (x * 8 + y) = few (x * 8 + y))
theorem jn_init {few : Nat → Int32} {a b : Nat} {i j : Int} (h : mtOK few) (hi : i = 0) (hj : j = 0) : jnI few a b i j few := fun x y hx hy => ⟨⟨(h.1 x y hx hy).1, by have := (h.1 x y hx hy).2; omega⟩, fun q => by omega, fun _ => rfl⟩
theorem jn_row {few C : Nat → Int32} {a b : Nat} {i j i' j' : Int} (q : jnI few a b i j C) (hj : j = 8) (hi : i' = i + 1) (hj' : j' = 0) : jnI few a b i' j' C := by
  intro x y hx hy
  have w := q x y hx hy
  exact ⟨w.1, fun z => w.2.1 (by omega), fun z => w.2.2 (by omega)⟩
theorem jn_bt {few C : Nat → Int32} {a b x y : Nat} {i j : Int} (h : mtOK few) (q : jnI few a b i j C) (hx : x < 8) (hy : y < 8) : mn (dd few) a b x y ≤ dv (C (x * 8 + y)) ∧ dv (C (x * 8 + y)) ≤ dd few x y := by
  have w := q x y hx hy
  have z : mn (dd few) a b x y ≤ dd few x y := by unfold mn; omega
  by_cases c : (x : Int) < i ∨ ((x : Int) = i ∧ (y : Int) < j)
  · rw [w.2.1 c]; omega
  · rw [w.2.2 c]; exact ⟨z, Int.le_refl _⟩
theorem ix_ne {x y p q : Nat} (hy : y < 8) (hq : q < 8) (h : ¬ (x = p ∧ y = q)) : x * 8 + y ≠ p * 8 + q := by omega
theorem jn_step {few C C1 C2 : Nat → Int32} {a b f t r1 r2 r3 r4 : Int32} {j' : Int} (h : mtOK few) (ha : 0 ≤ a.toInt ∧ a.toInt ≤ 7) (hb : 0 ≤ b.toInt ∧ b.toInt ≤ 7) (hab : a.toInt ≠ b.toInt) (hf : 0 ≤ f.toInt ∧ f.toInt ≤ 7) (ht : 0 ≤ t.toInt ∧ t.toInt ≤ 7) (q : jnI few a.toInt.toNat b.toInt.toNat f.toInt t.toInt C) (e1 : r1 = C (f.toInt * 8 + a.toInt).toNat) (e2 : r2 = C (b.toInt * 8 + t.toInt).toNat) (s1 : shS C f t r1 r2 C1) (e3 : r3 = C1 (f.toInt * 8 + b.toInt).toNat) (e4 : r4 = C1 (a.toInt * 8 + t.toInt).toNat) (s2 : shS C1 f t r3 r4 C2) (hj : j' = t.toInt + 1) : jnI few a.toInt.toNat b.toInt.toNat f.toInt j' C2 := by
  subst hj
  obtain ⟨an, ea⟩ : ∃ n : Nat, n = a.toInt.toNat := ⟨_, rfl⟩
  obtain ⟨bn, eb⟩ : ∃ n : Nat, n = b.toInt.toNat := ⟨_, rfl⟩
  obtain ⟨fn, ef⟩ : ∃ n : Nat, n = f.toInt.toNat := ⟨_, rfl⟩
  obtain ⟨tn, et⟩ : ∃ n : Nat, n = t.toInt.toNat := ⟨_, rfl⟩
  rw [← ea, ← eb] at q ⊢
  have a8 : an < 8 := by omega
  have b8 : bn < 8 := by omega
  have f8 : fn < 8 := by omega
  have t8 : tn < 8 := by omega
  have abn : an ≠ bn := by omega
  rw [show (f.toInt * 8 + a.toInt).toNat = fn * 8 + an by omega] at e1
  rw [show (b.toInt * 8 + t.toInt).toNat = bn * 8 + tn by omega] at e2
  rw [show (f.toInt * 8 + b.toInt).toNat = fn * 8 + bn by omega] at e3
  rw [show (a.toInt * 8 + t.toInt).toNat = an * 8 + tn by omega] at e4
  obtain ⟨v1, d1, p1, p3⟩ := s1
  obtain ⟨v2, d2, k1, k3⟩ := s2
  rw [show (f.toInt * 8 + t.toInt).toNat = fn * 8 + tn by omega] at d1 p1 p3 d2 k1 k3
  have cft := (q fn tn f8 t8).1
  have cfa := (q fn an f8 a8).1
  have cbt := (q bn tn b8 t8).1
  rw [← e1] at cfa
  rw [← e2] at cbt
  have hv1 : -1 ≤ v1.toInt ∧ v1.toInt ≤ 31 := by
    rcases p1 with p | p
    · rw [p]; omega
    · omega
  have c1r : ∀ x y : Nat, x < 8 → y < 8 → -1 ≤ (C1 (x * 8 + y)).toInt ∧ (C1 (x * 8 + y)).toInt ≤ 31 := by
    intro x y hx hy
    by_cases c : x = fn ∧ y = tn
    · obtain ⟨rfl, rfl⟩ := c
      rw [d1, pk_us]; exact hv1
    · rw [d1, pk_un (ix_ne hy t8 c)]; have := (q x y hx hy).1; omega
  have cfb := c1r fn bn f8 b8
  have cat := c1r an tn a8 t8
  rw [← e3] at cfb
  rw [← e4] at cat
  have hv2 : -1 ≤ v2.toInt ∧ v2.toInt ≤ 63 := by
    rcases k1 with p | p
    · have := c1r fn tn f8 t8; rw [p]; omega
    · omega
  have mm := mn_met h.2 a8 b8 abn
  have mab : mn (dd few) an bn an bn ≤ 1 := by
    have z1 : dd few an an = 0 := (h.2 an an a8 a8).2.1.mpr rfl
    have z2 : dd few bn bn = 0 := (h.2 bn bn b8 b8).2.1.mpr rfl
    unfold mn; omega
  have mba : mn (dd few) an bn bn an ≤ 1 := by
    have := (mm an bn a8 b8).2.2.1; omega
  have wft := jn_bt h q f8 t8
  have wfa := jn_bt h q f8 a8
  have wbt := jn_bt h q b8 t8
  rw [e1, e2] at p3
  have T1 := (mm fn tn f8 t8).2.2.2.1 an a8
  have T2 := (mm an tn a8 t8).2.2.2.1 bn b8
  have T3 := (mm fn tn f8 t8).2.2.2.1 bn b8
  have T4 := (mm bn tn b8 t8).2.2.2.1 an a8
  have lo1 : mn (dd few) an bn fn tn ≤ dv v1 := by omega
  have hi1 : dv v1 ≤ dd few fn tn := by omega
  have hi2 : dv v1 ≤ dd few fn an + 1 + dd few bn tn := by omega
  have bt1 : ∀ x y : Nat, x < 8 → y < 8 → mn (dd few) an bn x y ≤ dv (C1 (x * 8 + y)) ∧ dv (C1 (x * 8 + y)) ≤ dd few x y := by
    intro x y hx hy
    by_cases c : x = fn ∧ y = tn
    · obtain ⟨rfl, rfl⟩ := c
      rw [d1, pk_us]; exact ⟨lo1, hi1⟩
    · rw [d1, pk_un (ix_ne hy t8 c)]; exact jn_bt h q hx hy
  have wfb := bt1 fn bn f8 b8
  have wat := bt1 an tn a8 t8
  rw [e3, e4, d1, pk_us, ← d1] at k3
  have eqm : dv v2 = mn (dd few) an bn fn tn := by
    have lo2 : mn (dd few) an bn fn tn ≤ dv v2 := by omega
    have up : dv v2 ≤ mn (dd few) an bn fn tn := by
      have : mn (dd few) an bn fn tn = min (dd few fn tn) (min (dd few fn an + 1 + dd few bn tn) (dd few fn bn + 1 + dd few an tn)) := rfl
      omega
    omega
  intro x y hx hy
  by_cases c : x = fn ∧ y = tn
  · obtain ⟨rfl, rfl⟩ := c
    rw [d2, pk_us]
    have b1 := (mm x y hx hy).1
    refine ⟨⟨hv2.1, ?_⟩, fun _ => eqm, fun z => absurd (Or.inr ⟨by omega, by omega⟩) z⟩
    by_cases g : v2.toInt = -1
    · omega
    · have := dv_nn (v := v2) (by omega)
      omega
  · have ne := ix_ne hy t8 c
    rw [d2, pk_un ne, d1, pk_un ne]
    have w := q x y hx hy
    exact ⟨w.1, fun z => w.2.1 (by omega), fun z => w.2.2 (by omega)⟩
theorem jn_cast {few C : Nat → Int32} {a b : Nat} {i j i' j' : Int} (q : jnI few a b i j C) (hi : i' = i) (hj : j' = j) : jnI few a b i' j' C := by subst hi; subst hj; exact q
theorem jn_at {few C : Nat → Int32} {a b : Nat} {i j : Int} {x y r : Int32} (q : jnI few a b i j C) (hx : 0 ≤ x.toInt ∧ x.toInt ≤ 7) (hy : 0 ≤ y.toInt ∧ y.toInt ≤ 7) (e : r = C (x.toInt * 8 + y.toInt).toNat) : -1 ≤ r.toInt ∧ r.toInt ≤ 15 := by
  rw [e, show (x.toInt * 8 + y.toInt).toNat = x.toInt.toNat * 8 + y.toInt.toNat by omega]
  exact (q _ _ (by omega) (by omega)).1
theorem jn_at1 {few C C1 : Nat → Int32} {a b : Nat} {i j : Int} {f t x y r r1 r2 : Int32} (q : jnI few a b i j C) (s1 : shS C f t r1 r2 C1) (w1 : -1 ≤ r1.toInt ∧ r1.toInt ≤ 15) (w2 : -1 ≤ r2.toInt ∧ r2.toInt ≤ 15) (hf : 0 ≤ f.toInt ∧ f.toInt ≤ 7) (ht : 0 ≤ t.toInt ∧ t.toInt ≤ 7) (hx : 0 ≤ x.toInt ∧ x.toInt ≤ 7) (hy : 0 ≤ y.toInt ∧ y.toInt ≤ 7) (e : r = C1 (x.toInt * 8 + y.toInt).toNat) : -1 ≤ r.toInt ∧ r.toInt ≤ 31 := by
  obtain ⟨v1, d1, p1, -⟩ := s1
  have wft := jn_at (x := f) (y := t) q hf ht rfl
  have wxy := jn_at (x := x) (y := y) q hx hy rfl
  rw [e, d1]
  by_cases c : (x.toInt * 8 + y.toInt).toNat = (f.toInt * 8 + t.toInt).toNat
  · rw [c, pk_us]
    rcases p1 with p | p
    · rw [p]; omega
    · omega
  · rw [pk_un c]; omega
def jnS (few : Nat → Int32) (a b : Int32) (few' : Nat → Int32) : Prop := ∀ x y : Nat, x < 8 → y < 8 → dd few' x y = mn (dd few) a.toInt.toNat b.toInt.toNat x y
theorem jn_end {few C : Nat → Int32} {a b : Int32} {i j : Int} (q : jnI few a.toInt.toNat b.toInt.toNat i j C) (hi : 8 ≤ i) : jnS few a b C := fun x y hx hy => (q x y hx hy).2.1 (Or.inl (by omega))
theorem jn_mt {few C : Nat → Int32} {a b : Int32} {i j : Int} (h : mtOK few) (ha : 0 ≤ a.toInt ∧ a.toInt ≤ 7) (hb : 0 ≤ b.toInt ∧ b.toInt ≤ 7) (hab : a.toInt ≠ b.toInt) (q : jnI few a.toInt.toNat b.toInt.toNat i j C) (hi : 8 ≤ i) : mtOK C := by
  have mm := mn_met h.2 (a := a.toInt.toNat) (b := b.toInt.toNat) (by omega) (by omega) (by omega)
  have e : ∀ x y : Nat, x < 8 → y < 8 → dd C x y = mn (dd few) a.toInt.toNat b.toInt.toNat x y := jn_end q hi
  refine ⟨fun x y hx hy => ?_, fun x y hx hy => ?_⟩
  · have w := (q x y hx hy).1
    have b1 := (mm x y hx hy).1
    refine ⟨w.1, ?_⟩
    by_cases g : (C (x * 8 + y)).toInt = -1
    · omega
    · have z := dv_nn (v := C (x * 8 + y)) (by omega)
      have z2 : dv (C (x * 8 + y)) = mn (dd few) a.toInt.toNat b.toInt.toNat x y := e x y hx hy
      omega
  · have m := mm x y hx hy
    rw [e x y hx hy, e y x hy hx]
    refine ⟨m.1, m.2.1, m.2.2.1, fun z hz => ?_, fun g1 g2 => ?_⟩
    · rw [e x z hx hz, e z y hz hy]; exact m.2.2.2.1 z hz
    · obtain ⟨z, hz, k1, k2⟩ := m.2.2.2.2 g1 g2
      exact ⟨z, hz, by rw [e x z hx hz]; exact k1, by rw [e z y hz hy]; exact k2⟩
theorem mt_init {few : Nat → Int32} (h : ∀ x y : Nat, x < 8 → y < 8 → (few (x * 8 + y)).toInt = (if x = y then 0 else -1)) : mtOK few := by
  have e : ∀ x y : Nat, x < 8 → y < 8 → dd few x y = (if x = y then 0 else 100) := by
    intro x y hx hy
    have w := h x y hx hy
    by_cases c : x = y
    · rw [if_pos c] at w ⊢; exact (dv_nn (by omega)).trans w
    · rw [if_neg c] at w ⊢; exact dv_m1 w
  refine ⟨fun x y hx hy => ?_, fun x y hx hy => ?_⟩
  · rw [h x y hx hy]
    by_cases c : x = y
    · rw [if_pos c]; omega
    · rw [if_neg c]; omega
  · rw [e x y hx hy, e y x hy hx]
    by_cases c : x = y
    · subst c
      rw [if_pos rfl]
      refine ⟨by omega, ⟨fun _ => rfl, fun _ => rfl⟩, rfl, fun z hz => ?_, fun g => by omega⟩
      rw [e x z hx hz, e z x hz hx]
      by_cases d : x = z
      · subst d; rw [if_pos rfl]; omega
      · rw [if_neg d, if_neg (fun q => d q.symm)]; omega
    · rw [if_neg c, if_neg (fun q => c q.symm)]
      refine ⟨by omega, ⟨fun q => by omega, fun q => absurd q c⟩, rfl, fun z hz => ?_, fun _ g => by omega⟩
      rw [e x z hx hz, e z y hz hy]
      by_cases d : x = z
      · subst d; rw [if_pos rfl, if_neg c]; omega
      · rw [if_neg d]
        by_cases d2 : z = y
        · rw [if_pos d2]; omega
        · rw [if_neg d2]; omega
def di0 (few : Nat → Int32) : Prop := ∀ x y : Nat, x < 8 → y < 8 → (few (x * 8 + y)).toInt = (if x = y then 0 else -1)
def diI (i : Int) (few : Nat → Int32) : Prop := ∀ x y : Nat, x < 8 → y < 8 → (few (x * 8 + y)).toInt = (if x = y ∧ (x : Int) < i then 0 else -1)
theorem di_init {few : Nat → Int32} {i : Int} (h : ∀ j, j < 64 → few j = -1) (hi : i = 0) : diI i few := by
  intro x y hx hy
  rw [if_neg (by omega), h _ (by omega)]; rfl
theorem di_step {few few' : Nat → Int32} {y v : Int32} {k : Nat} {i : Int} (q : diI y.toInt few) (e : few' = upd few k v) (hk : k = (y.toInt * 8 + y.toInt).toNat) (h0 : 0 ≤ y.toInt) (h1 : y.toInt < 8) (hv : v.toInt = 0) (hi : i = y.toInt + 1) : diI i few' := by
  subst hk; subst e; subst hi
  intro p r hp hr
  have w := q p r hp hr
  by_cases c : p * 8 + r = (y.toInt * 8 + y.toInt).toNat
  · rw [c, pk_us, hv, if_pos (by omega)]
  · rw [pk_un c, w]
    by_cases d : p = r ∧ (p : Int) < y.toInt
    · rw [if_pos d, if_pos (by omega)]
    · rw [if_neg d, if_neg (by omega)]
theorem di_end {few : Nat → Int32} {i : Int} (q : diI i few) (hi : 8 ≤ i) : di0 few := by
  intro x y hx hy
  rw [q x y hx hy]
  by_cases c : x = y
  · rw [if_pos c, if_pos (by omega)]
  · rw [if_neg c, if_neg (by omega)]
theorem mt_di {few : Nat → Int32} (h : di0 few) : mtOK few := mt_init h
theorem mt_at {few : Nat → Int32} {x y : Int32} (h : mtOK few) (hx : 0 ≤ x.toInt ∧ x.toInt ≤ 7) (hy : 0 ≤ y.toInt ∧ y.toInt ≤ 7) : -1 ≤ (few (x.toInt * 8 + y.toInt).toNat).toInt ∧ (few (x.toInt * 8 + y.toInt).toNat).toInt ≤ 7 := by
  rw [show (x.toInt * 8 + y.toInt).toNat = x.toInt.toNat * 8 + y.toInt.toNat by omega]; exact h.1 _ _ (by omega) (by omega)
set_option maxHeartbeats 4000000 in
set_option maxRecDepth 100000 in
theorem k_X8_between2 (l : Launch) (dC : Nat → ClassId) (dI : Nat → Nat → Nat) (cI cZ cQ : ClassId) (a : Nat → Nat) (few : Nat → Int32) (doo : Int32) (x : Int32) (y : Int32) (q0 : 0 ≤ x.toInt) (q1 : x.toInt ≤ 7) (q2 : 0 ≤ y.toInt) (q3 : y.toInt ≤ 7) : KR l yX8_between wsX8_between { frames := 0, cells := 0, slots := 0, locals := 0 } (dC, dI) (TY cI cZ cQ) (wWys cI cZ cQ a few doo) [.ref (a 0), .int x, .int y] (fun r : Int32 => (r = few (x.toInt * 8 + y.toInt).toNat) ∧ (r.toInt = (few (x.toInt * 8 + y.toInt).toNat).toInt)) := by
  refine Met.ofW (cc := cX8_between) (maxL := 3) (ret := (some .int)) (by decide) rfl ?_
  intro p e s m args below meth c s₁ B hml hv
  obtain ⟨rfl, hP, hK, hN⟩ := hv
  have hx := B.exec
  have hb := B.bytes
  have hr := B.returns
  have hts := atoms_spec (ws := wsX8_between) B.pre
  have hown : s.vm.findClass RX8 = some m.cls := findClass_of_methodNamed B.named
  have hlocks := B.notSynchronized
  have lf9 := hts (.fieldLink RX8 9 "PalaceOfRooms$Ways" "fewest" "[I") (List.mem_cons_of_mem _ (List.mem_append_left _ (List.mem_of_getElem? (i := 0) rfl)))
  have inX8 : ∀ w ∈ wsX80, w ∈ wsX8_between := fun w h => List.mem_cons_of_mem _ (List.mem_append_right _ h)
  have hl := lv_entry ([.ref (a 0), .int x, .int y]) (n := 3) (Nat.le_of_ble_eq_true rfl)
  rw [lg_entry_eq]
  generalize (lg_sl ([.ref (a 0), .int x, .int y]) ++ List.replicate (3 - (lg_sl ([.ref (a 0), .int x, .int y])).length) Slot.unset).toArray = ls at hl ⊢
  have hl : lv_has ls 3 [(0, .ref (a 0)), (1, .int x), (2, .int y)] := hl
  refine lv_aload_n hx hb dX8_between_0 rfl (lv_at hl 0 rfl) ?_
  refine va_get (D := (dC, dI)) (ci := 8) (v := .ref (a 1)) (C := RX8) (T := TX8) (N := 2) hx hb hts inX8 hown hK hP 0 rfl rfl 0 (by decide) lf9 (fun _ h9 => h9) rfl dX8_between_1 ?_
  refine lv_iload_n hx hb dX8_between_4 rfl (lv_at hl 1 rfl) ?_
  refine lv_bipush (v := 8) hx hb dX8_between_5 (by decide) ?_
  refine lv_imul hx hb dX8_between_7 ?_
  have f1 : (x * 8).toInt = (x.toInt) * (8) := mulC rfl (show (8 : Int32).toInt = 8 from rfl) (by omega) (by omega)
  refine lv_iload_n hx hb dX8_between_8 rfl (lv_at hl 2 rfl) ?_
  refine lv_iadd hx hb dX8_between_9 ?_
  have f2 : ((x * 8) + y).toInt = ((x.toInt) * (8)) + (y.toInt) := addC f1 rfl (by omega) (by omega)
  have b3 : vp_in ((x * 8) + y) 64 := inC f2 (by omega) (by omega)
  refine va_iald hx hb hK hP 1 0 rfl rfl b3 dX8_between_10 ?_
  exact W.iret (v := few ((x * 8) + y).toNatClampNeg) hx hb hr (fun tq ht hW => ⟨few ((x * 8) + y).toNatClampNeg, rfl, ⟨(show (few ((x * 8) + y).toNatClampNeg) = few (x.toInt * 8 + y.toInt).toNat from by (rw [clC (x := x * 8 + y) (X := x.toInt * 8 + y.toInt) (by assumption)])), (show (few ((x * 8) + y).toNatClampNeg).toInt = (few (x.toInt * 8 + y.toInt).toNat).toInt from by (rw [clC (x := x * 8 + y) (X := x.toInt * 8 + y.toInt) (by assumption)]))⟩, ht⟩) (fun q h => by cases h) dX8_between_11
set_option maxHeartbeats 4000000 in
set_option maxRecDepth 100000 in
theorem k_X8_between3 (l : Launch) (dC : Nat → ClassId) (dI : Nat → Nat → Nat) (cI cZ cQ : ClassId) (a : Nat → Nat) (few : Nat → Int32) (doo : Int32) (x : Int32) (y : Int32) (q0 : 0 ≤ x.toInt) (q1 : x.toInt ≤ 7) (q2 : 0 ≤ y.toInt) (q3 : y.toInt ≤ 7) (q4 : mtOK few) : KR l yX8_between wsX8_between { frames := 0, cells := 0, slots := 0, locals := 0 } (dC, dI) (TY cI cZ cQ) (wWys cI cZ cQ a few doo) [.ref (a 0), .int x, .int y] (fun r : Int32 => (r = few (x.toInt * 8 + y.toInt).toNat) ∧ (-1 ≤ r.toInt) ∧ (r.toInt ≤ 7)) := by
  refine Met.ofW (cc := cX8_between) (maxL := 3) (ret := (some .int)) (by decide) rfl ?_
  intro p e s m args below meth c s₁ B hml hv
  obtain ⟨rfl, hP, hK, hN⟩ := hv
  have hx := B.exec
  have hb := B.bytes
  have hr := B.returns
  have hts := atoms_spec (ws := wsX8_between) B.pre
  have hown : s.vm.findClass RX8 = some m.cls := findClass_of_methodNamed B.named
  have hlocks := B.notSynchronized
  have lf9 := hts (.fieldLink RX8 9 "PalaceOfRooms$Ways" "fewest" "[I") (List.mem_cons_of_mem _ (List.mem_append_left _ (List.mem_of_getElem? (i := 0) rfl)))
  have inX8 : ∀ w ∈ wsX80, w ∈ wsX8_between := fun w h => List.mem_cons_of_mem _ (List.mem_append_right _ h)
  have hl := lv_entry ([.ref (a 0), .int x, .int y]) (n := 3) (Nat.le_of_ble_eq_true rfl)
  rw [lg_entry_eq]
  generalize (lg_sl ([.ref (a 0), .int x, .int y]) ++ List.replicate (3 - (lg_sl ([.ref (a 0), .int x, .int y])).length) Slot.unset).toArray = ls at hl ⊢
  have hl : lv_has ls 3 [(0, .ref (a 0)), (1, .int x), (2, .int y)] := hl
  refine lv_aload_n hx hb dX8_between_0 rfl (lv_at hl 0 rfl) ?_
  refine va_get (D := (dC, dI)) (ci := 8) (v := .ref (a 1)) (C := RX8) (T := TX8) (N := 2) hx hb hts inX8 hown hK hP 0 rfl rfl 0 (by decide) lf9 (fun _ h9 => h9) rfl dX8_between_1 ?_
  refine lv_iload_n hx hb dX8_between_4 rfl (lv_at hl 1 rfl) ?_
  refine lv_bipush (v := 8) hx hb dX8_between_5 (by decide) ?_
  refine lv_imul hx hb dX8_between_7 ?_
  have f1 : (x * 8).toInt = (x.toInt) * (8) := mulC rfl (show (8 : Int32).toInt = 8 from rfl) (by omega) (by omega)
  refine lv_iload_n hx hb dX8_between_8 rfl (lv_at hl 2 rfl) ?_
  refine lv_iadd hx hb dX8_between_9 ?_
  have f2 : ((x * 8) + y).toInt = ((x.toInt) * (8)) + (y.toInt) := addC f1 rfl (by omega) (by omega)
  have wm := mt_at q4 (x := x) (y := y) (by omega) (by omega)
  have b3 : vp_in ((x * 8) + y) 64 := inC f2 (by omega) (by omega)
  refine va_iald hx hb hK hP 1 0 rfl rfl b3 dX8_between_10 ?_
  exact W.iret (v := few ((x * 8) + y).toNatClampNeg) hx hb hr (fun tq ht hW => ⟨few ((x * 8) + y).toNatClampNeg, rfl, ⟨(show (few ((x * 8) + y).toNatClampNeg) = few (x.toInt * 8 + y.toInt).toNat from by (rw [clC (x := x * 8 + y) (X := x.toInt * 8 + y.toInt) (by assumption)])), (show -1 ≤ (few ((x * 8) + y).toNatClampNeg).toInt from by (rw [clC (x := x * 8 + y) (X := x.toInt * 8 + y.toInt) (by assumption)]; omega)), (show (few ((x * 8) + y).toNatClampNeg).toInt ≤ 7 from by (rw [clC (x := x * 8 + y) (X := x.toInt * 8 + y.toInt) (by assumption)]; omega))⟩, ht⟩) (fun q h => by cases h) dX8_between_11
set_option maxHeartbeats 4000000 in
set_option maxRecDepth 100000 in
theorem k_X8_joined2 (l : Launch) (dC : Nat → ClassId) (dI : Nat → Nat → Nat) (cI cZ cQ : ClassId) (a : Nat → Nat) (few : Nat → Int32) (doo : Int32) (x : Int32) (y : Int32) (q0 : 0 ≤ x.toInt) (q1 : x.toInt ≤ 7) (q2 : 0 ≤ y.toInt) (q3 : y.toInt ≤ 7) : KR l yX8_joined wsX8_joined { frames := 1, cells := 0, slots := 0, locals := 22 } (dC, dI) (TY cI cZ cQ) (wWys cI cZ cQ a few doo) [.ref (a 0), .int x, .int y] (fun r : Int32 => ((((r = 1) ∧ ((few (x.toInt * 8 + y.toInt).toNat).toInt = 1)) ∨ ((r = 0) ∧ ((few (x.toInt * 8 + y.toInt).toNat).toInt ≠ 1))))) := by
  refine Met.ofW (cc := cX8_joined) (maxL := 3) (ret := (some .boolean)) (by decide) rfl ?_
  intro p e s m args below meth c s₁ B hml hv
  obtain ⟨rfl, hP, hK, hN⟩ := hv
  have hx := B.exec
  have hb := B.bytes
  have hr := B.returns
  have hts := atoms_spec (ws := wsX8_joined) B.pre
  have hown : s.vm.findClass RX8 = some m.cls := findClass_of_methodNamed B.named
  have hlocks := B.notSynchronized
  have hl := lv_entry ([.ref (a 0), .int x, .int y]) (n := 3) (Nat.le_of_ble_eq_true rfl)
  rw [lg_entry_eq]
  generalize (lg_sl ([.ref (a 0), .int x, .int y]) ++ List.replicate (3 - (lg_sl ([.ref (a 0), .int x, .int y])).length) Slot.unset).toArray = ls at hl ⊢
  have hl : lv_has ls 3 [(0, .ref (a 0)), (1, .int x), (2, .int y)] := hl
  refine lv_aload_n hx hb dX8_joined_0 rfl (lv_at hl 0 rfl) ?_
  refine lv_iload_n hx hb dX8_joined_1 rfl (lv_at hl 1 rfl) ?_
  refine lv_iload_n hx hb dX8_joined_2 rfl (lv_at hl 2 rfl) ?_
  refine rdV (As := [.int x, .int y]) (rest := []) ⟨hx, hb, hml, hown, hts⟩ (k_X8_between2 l dC dI cI cZ cQ a few doo x y (by omega) (by omega) (by omega) (by omega)) (cwV 2 hts gX8_joined_X8_between rfl rfl rfl (by decide +kernel) ⟨Nat.le_of_ble_eq_true rfl, Nat.le_of_ble_eq_true rfl⟩) hP hK hN [0, 1] rfl 0 8 rfl rfl rfl hl.1 rfl (Nat.le_of_ble_eq_true rfl) dX8_joined_3 ⟨Nat.le_of_ble_eq_true rfl, Nat.le_of_ble_eq_true rfl⟩ (fun r1 h2 => ?_)
  have h2 : (r1 = few (x.toInt * 8 + y.toInt).toNat) ∧ (r1.toInt = (few (x.toInt * 8 + y.toInt).toNat).toInt) := h2
  obtain ⟨h2_0, h2_1⟩ := h2
  refine lv_iconst (v := 1) hx hb dX8_joined_6 (by decide) ?_
  refine lv_icmp_ne (tgt := 14) hx hb dX8_joined_7 (by decide) (fun c3 => ?_) (fun c3 => ?_)
  · have dc3 : r1.toInt ≠ 1 := neC rfl (show (1 : Int32).toInt = 1 from rfl) c3
    refine lv_iconst (v := 0) hx hb dX8_joined_14 (by decide) ?_
    exact W.zret (v := 0) hx hb hr (by decide) (fun tq ht hW => ⟨0, rfl, (Or.inr (⟨rfl, (show (few (x.toInt * 8 + y.toInt).toNat).toInt ≠ 1 from by (try rw [show (0 : Int32).toInt = 0 from (show (0 : Int32).toInt = 0 from rfl)]); omega)⟩)), ht⟩) (fun q h => by cases h) dX8_joined_15
  · have dc3 : r1.toInt = 1 := eqC rfl (show (1 : Int32).toInt = 1 from rfl) c3
    refine lv_iconst (v := 1) hx hb dX8_joined_10 (by decide) ?_
    refine lv_goto (tgt := 15) hx hb dX8_joined_11 (by decide) ?_
    exact W.zret (v := 1) hx hb hr (by decide) (fun tq ht hW => ⟨1, rfl, (Or.inl (⟨rfl, (show (few (x.toInt * 8 + y.toInt).toNat).toInt = 1 from by (try rw [show (1 : Int32).toInt = 1 from (show (1 : Int32).toInt = 1 from rfl)]); omega)⟩)), ht⟩) (fun q h => by cases h) dX8_joined_15
set_option maxHeartbeats 4000000 in
set_option maxRecDepth 100000 in
theorem k_X8_shorten2 (l : Launch) (dC : Nat → ClassId) (dI : Nat → Nat → Nat) (cI cZ cQ : ClassId) (a : Nat → Nat) (few : Nat → Int32) (doo : Int32) (sz : Nat) (fr : Int32) (to : Int32) (bf : Int32) (bh : Int32) (q0 : 0 ≤ fr.toInt) (q1 : fr.toInt ≤ 7) (q2 : 0 ≤ to.toInt) (q3 : to.toInt ≤ 7) (q4 : -1 ≤ bf.toInt) (q5 : bf.toInt ≤ 31) (q6 : -1 ≤ bh.toInt) (q7 : bh.toInt ≤ 31) (q8 : -1 ≤ (few (fr.toInt * 8 + to.toInt).toNat).toInt) (q9 : (few (fr.toInt * 8 + to.toInt).toNat).toInt ≤ 31) : KV l yX8_shorten wsX8_shorten { frames := 1, cells := 0, slots := 0, locals := 22 } (dC, dI) (TY cI cZ cQ) (wWys cI cZ cQ a few doo) [.ref (a 0), .int fr, .int to, .int bf, .int bh] sz 0 0 (fun (u : US) => (shS few fr to bf bh (u.1 0))) (fun u : US => (wWys cI cZ cQ a (u.1 0) doo)) := by
  refine Met.ofW (cc := cX8_shorten) (maxL := 7) (ret := none) (by decide) rfl ?_
  intro p e s m args below meth c s₁ B hml hv
  obtain ⟨rfl, hsz, hP, hK, hD0, hN⟩ := hv
  have hx := B.exec
  have hb := B.bytes
  have hr := B.returns
  have hts := atoms_spec (ws := wsX8_shorten) B.pre
  have hown : s.vm.findClass RX8 = some m.cls := findClass_of_methodNamed B.named
  have hlocks := B.notSynchronized
  have lf9 := hts (.fieldLink RX8 9 "PalaceOfRooms$Ways" "fewest" "[I") (List.mem_cons_of_mem _ (List.mem_append_left _ (List.mem_of_getElem? (i := 0) rfl)))
  have inX8 : ∀ w ∈ wsX80, w ∈ wsX8_shorten := fun w h => List.mem_cons_of_mem _ (List.mem_append_right _ h)
  subst hsz
  have hD := hD0.self (sz := s.heap.size)
  generalize hAe : va_A (wWys cI cZ cQ a few doo) s.heap.size = A at hD ⊢
  have hA : ∀ q : Nat, s.heap.size ≤ q → A q := fun q h => by rw [← hAe]; exact Or.inr h
  have hS : va_S A s.heap s.heap [] := va_S.rf
  have hl := lv_entry ([.ref (a 0), .int fr, .int to, .int bf, .int bh]) (n := 7) (Nat.le_of_ble_eq_true rfl)
  rw [lg_entry_eq]
  generalize (lg_sl ([.ref (a 0), .int fr, .int to, .int bf, .int bh]) ++ List.replicate (7 - (lg_sl ([.ref (a 0), .int fr, .int to, .int bf, .int bh])).length) Slot.unset).toArray = ls at hl ⊢
  have hl : lv_has ls 7 [(0, .ref (a 0)), (1, .int fr), (2, .int to), (3, .int bf), (4, .int bh)] := hl
  refine lv_iload_n hx hb dX8_shorten_0 rfl (lv_at hl 3 rfl) ?_
  refine lv_iconst (v := (-1)) hx hb dX8_shorten_1 (by decide) ?_
  refine lv_icmp_eq (tgt := 11) hx hb dX8_shorten_2 (by decide) (fun c1 => ?_) (fun c1 => ?_)
  · have dc1 : bf.toInt = (-1) := eqC rfl (show ((-1) : Int32).toInt = (-1) from rfl) c1
    exact W.vret hx hb hr (fun tq ht hW => ⟨⟨(uS [few] 0 (fun _ => 0)), rfl, (show shS few fr to bf bh few from by (first | exact sh_m1 (by omega) (by omega) (by omega) (by omega) | exact sh_put (by assumption) (clC (by assumption)) (by assumption) (by omega) (by omega) (by omega) (by omega) | exact sh_keep (by omega) (by omega) (by assumption) (by omega) (by omega))), by rw [ht]; exact hP, hD⟩, hS.F ht⟩) hS.2.2 dX8_shorten_11
  · have dc1 : 0 ≤ bf.toInt := ka_lo (by omega) (neC rfl (show ((-1) : Int32).toInt = (-1) from rfl) c1)
    refine lv_iload hx hb dX8_shorten_5 (lv_at hl 4 rfl) ?_
    refine lv_iconst (v := (-1)) hx hb dX8_shorten_7 (by decide) ?_
    refine lv_icmp_ne (tgt := 12) hx hb dX8_shorten_8 (by decide) (fun c2 => ?_) (fun c2 => ?_)
    · have dc2 : 0 ≤ bh.toInt := ka_lo (by omega) (neC rfl (show ((-1) : Int32).toInt = (-1) from rfl) c2)
      refine lv_aload_n hx hb dX8_shorten_12 rfl (lv_at hl 0 rfl) ?_
      refine lv_iload_n hx hb dX8_shorten_13 rfl (lv_at hl 1 rfl) ?_
      refine lv_iload_n hx hb dX8_shorten_14 rfl (lv_at hl 2 rfl) ?_
      refine rdV (As := [.int fr, .int to]) (rest := []) ⟨hx, hb, hml, hown, hts⟩ (k_X8_between2 l dC dI cI cZ cQ a few doo fr to (by omega) (by omega) (by omega) (by omega)) (cwV 2 hts gX8_shorten_X8_between rfl rfl rfl (by decide +kernel) ⟨Nat.le_of_ble_eq_true rfl, Nat.le_of_ble_eq_true rfl⟩) hP hK hN [0, 1] rfl 0 8 rfl rfl rfl hl.1 rfl (Nat.le_of_ble_eq_true rfl) dX8_shorten_15 ⟨Nat.le_of_ble_eq_true rfl, Nat.le_of_ble_eq_true rfl⟩ (fun r3 h4 => ?_)
      have h4 : (r3 = few (fr.toInt * 8 + to.toInt).toNat) ∧ (r3.toInt = (few (fr.toInt * 8 + to.toInt).toNat).toInt) := h4
      obtain ⟨h4_0, h4_1⟩ := h4
      refine lv_istore (lv' := [(5, .int r3), (0, .ref (a 0)), (1, .int fr), (2, .int to), (3, .int bf), (4, .int bh)]) hx hb dX8_shorten_18 hl (by decide) rfl (fun ls hl => ?_)
      refine lv_iload_n hx hb dX8_shorten_20 rfl (lv_at hl 4 rfl) ?_
      refine lv_iconst (v := 1) hx hb dX8_shorten_21 (by decide) ?_
      refine lv_iadd hx hb dX8_shorten_22 ?_
      have f5 : (bf + 1).toInt = (bf.toInt) + (1) := addC rfl (show (1 : Int32).toInt = 1 from rfl) (by omega) (by omega)
      refine lv_iload hx hb dX8_shorten_23 (lv_at hl 5 rfl) ?_
      refine lv_iadd hx hb dX8_shorten_25 ?_
      have f6 : ((bf + 1) + bh).toInt = ((bf.toInt) + (1)) + (bh.toInt) := addC f5 rfl (by omega) (by omega)
      refine lv_topi (fun x7 ex7 => ?_)
      have ix7 : x7.toInt = ((bf.toInt) + (1)) + (bh.toInt) := by rw [ex7]; exact f6
      refine lv_istore (lv' := [(6, .int x7), (5, .int r3), (0, .ref (a 0)), (1, .int fr), (2, .int to), (3, .int bf), (4, .int bh)]) hx hb dX8_shorten_26 hl (by decide) rfl (fun ls hl => ?_)
      refine lv_iload hx hb dX8_shorten_28 (lv_at hl 1 rfl) ?_
      refine lv_iconst (v := (-1)) hx hb dX8_shorten_30 (by decide) ?_
      refine lv_icmp_eq (tgt := 41) hx hb dX8_shorten_31 (by decide) (fun c8 => ?_) (fun c8 => ?_)
      · have dc8 : r3.toInt = (-1) := eqC rfl (show ((-1) : Int32).toInt = (-1) from rfl) c8
        refine lv_aload_n hx hb dX8_shorten_41 rfl (lv_at hl 2 rfl) ?_
        refine va_get (D := (dC, dI)) (ci := 8) (v := .ref (a 1)) (C := RX8) (T := TX8) (N := 2) hx hb hts inX8 hown hK hP 0 rfl rfl 0 (by decide) lf9 (fun _ h9 => h9) rfl dX8_shorten_42 ?_
        refine lv_iload_n hx hb dX8_shorten_45 rfl (lv_at hl 3 rfl) ?_
        refine lv_bipush (v := 8) hx hb dX8_shorten_46 (by decide) ?_
        refine lv_imul hx hb dX8_shorten_48 ?_
        have f9 : (fr * 8).toInt = (fr.toInt) * (8) := mulC rfl (show (8 : Int32).toInt = 8 from rfl) (by omega) (by omega)
        refine lv_iload_n hx hb dX8_shorten_49 rfl (lv_at hl 4 rfl) ?_
        refine lv_iadd hx hb dX8_shorten_50 ?_
        have f10 : ((fr * 8) + to).toInt = ((fr.toInt) * (8)) + (to.toInt) := addC f9 rfl (by omega) (by omega)
        refine lv_iload hx hb dX8_shorten_51 (lv_at hl 0 rfl) ?_
        have b11 : vp_in ((fr * 8) + to) 64 := inC f10 (by omega) (by omega)
        refine va_iast hx hb hK hP hD hS 1 0 rfl rfl b11 dX8_shorten_53 (fun H locs hP hD hS => ?_)
        obtain ⟨few_u12, efew_u12⟩ : ∃ f : Nat → Int32, f = upd few ((fr * 8) + to).toNatClampNeg x7 := ⟨_, rfl⟩
        have hP : va_P (dC, dI) vwCl (wWys cI cZ cQ a few_u12 doo) H := by rw [efew_u12]; exact hP
        have hD : va_D A (wWys cI cZ cQ a few_u12 doo) := by rw [efew_u12]; exact hD
        exact W.vret hx hb hr (fun tq ht hW => ⟨⟨(uS [few_u12] 0 (fun _ => 0)), rfl, (show shS few fr to bf bh few_u12 from by (first | exact sh_m1 (by omega) (by omega) (by omega) (by omega) | exact sh_put (by assumption) (clC (by assumption)) (by assumption) (by omega) (by omega) (by omega) (by omega) | exact sh_keep (by omega) (by omega) (by assumption) (by omega) (by omega))), by rw [ht]; exact hP, hD⟩, hS.F ht⟩) hS.2.2 dX8_shorten_54
      · have dc8 : r3.toInt ≠ (-1) := neC rfl (show ((-1) : Int32).toInt = (-1) from rfl) c8
        refine lv_iload hx hb dX8_shorten_34 (lv_at hl 0 rfl) ?_
        refine lv_iload hx hb dX8_shorten_36 (lv_at hl 1 rfl) ?_
        refine lv_icmp_ge (tgt := 54) hx hb dX8_shorten_38 (by decide) (fun c13 => ?_) (fun c13 => ?_)
        · have dc13 : r3.toInt ≤ x7.toInt := leC rfl rfl c13
          exact W.vret hx hb hr (fun tq ht hW => ⟨⟨(uS [few] 0 (fun _ => 0)), rfl, (show shS few fr to bf bh few from by (first | exact sh_m1 (by omega) (by omega) (by omega) (by omega) | exact sh_put (by assumption) (clC (by assumption)) (by assumption) (by omega) (by omega) (by omega) (by omega) | exact sh_keep (by omega) (by omega) (by assumption) (by omega) (by omega))), by rw [ht]; exact hP, hD⟩, hS.F ht⟩) hS.2.2 dX8_shorten_54
        · have dc13 : x7.toInt < r3.toInt := nleC rfl rfl c13
          refine lv_aload_n hx hb dX8_shorten_41 rfl (lv_at hl 2 rfl) ?_
          refine va_get (D := (dC, dI)) (ci := 8) (v := .ref (a 1)) (C := RX8) (T := TX8) (N := 2) hx hb hts inX8 hown hK hP 0 rfl rfl 0 (by decide) lf9 (fun _ h9 => h9) rfl dX8_shorten_42 ?_
          refine lv_iload_n hx hb dX8_shorten_45 rfl (lv_at hl 3 rfl) ?_
          refine lv_bipush (v := 8) hx hb dX8_shorten_46 (by decide) ?_
          refine lv_imul hx hb dX8_shorten_48 ?_
          have f14 : (fr * 8).toInt = (fr.toInt) * (8) := mulC rfl (show (8 : Int32).toInt = 8 from rfl) (by omega) (by omega)
          refine lv_iload_n hx hb dX8_shorten_49 rfl (lv_at hl 4 rfl) ?_
          refine lv_iadd hx hb dX8_shorten_50 ?_
          have f15 : ((fr * 8) + to).toInt = ((fr.toInt) * (8)) + (to.toInt) := addC f14 rfl (by omega) (by omega)
          refine lv_iload hx hb dX8_shorten_51 (lv_at hl 0 rfl) ?_
          have b16 : vp_in ((fr * 8) + to) 64 := inC f15 (by omega) (by omega)
          refine va_iast hx hb hK hP hD hS 1 0 rfl rfl b16 dX8_shorten_53 (fun H locs hP hD hS => ?_)
          obtain ⟨few_u17, efew_u17⟩ : ∃ f : Nat → Int32, f = upd few ((fr * 8) + to).toNatClampNeg x7 := ⟨_, rfl⟩
          have hP : va_P (dC, dI) vwCl (wWys cI cZ cQ a few_u17 doo) H := by rw [efew_u17]; exact hP
          have hD : va_D A (wWys cI cZ cQ a few_u17 doo) := by rw [efew_u17]; exact hD
          exact W.vret hx hb hr (fun tq ht hW => ⟨⟨(uS [few_u17] 0 (fun _ => 0)), rfl, (show shS few fr to bf bh few_u17 from by (first | exact sh_m1 (by omega) (by omega) (by omega) (by omega) | exact sh_put (by assumption) (clC (by assumption)) (by assumption) (by omega) (by omega) (by omega) (by omega) | exact sh_keep (by omega) (by omega) (by assumption) (by omega) (by omega))), by rw [ht]; exact hP, hD⟩, hS.F ht⟩) hS.2.2 dX8_shorten_54
    · have dc2 : bh.toInt = (-1) := eqC rfl (show ((-1) : Int32).toInt = (-1) from rfl) c2
      exact W.vret hx hb hr (fun tq ht hW => ⟨⟨(uS [few] 0 (fun _ => 0)), rfl, (show shS few fr to bf bh few from by (first | exact sh_m1 (by omega) (by omega) (by omega) (by omega) | exact sh_put (by assumption) (clC (by assumption)) (by assumption) (by omega) (by omega) (by omega) (by omega) | exact sh_keep (by omega) (by omega) (by assumption) (by omega) (by omega))), by rw [ht]; exact hP, hD⟩, hS.F ht⟩) hS.2.2 dX8_shorten_11
set_option maxHeartbeats 4000000 in
set_option maxRecDepth 100000 in
theorem k_X8_join2 (l : Launch) (dC : Nat → ClassId) (dI : Nat → Nat → Nat) (cI cZ cQ : ClassId) (a : Nat → Nat) (few : Nat → Int32) (doo : Int32) (sz : Nat) (x : Int32) (y : Int32) (q0 : 0 ≤ x.toInt) (q1 : x.toInt ≤ 7) (q2 : 0 ≤ y.toInt) (q3 : y.toInt ≤ 7) (q4 : mtOK few) (q5 : x.toInt ≠ y.toInt) : KV l yX8_join wsX8_join { frames := 2, cells := 0, slots := 0, locals := 48 } (dC, dI) (TY cI cZ cQ) (wWys cI cZ cQ a few doo) [.ref (a 0), .int x, .int y] sz 0 0 (fun (u : US) => ((u.1 1 0) = doo + 1) ∧ (jnS few x y (u.1 0)) ∧ (mtOK (u.1 0))) (fun u : US => (wWys cI cZ cQ a (u.1 0) (u.1 1 0))) := by
  refine Met.ofW (cc := cX8_join) (maxL := 5) (ret := none) (by decide) rfl ?_
  intro p e s m args below meth c s₁ B hml hv
  obtain ⟨rfl, hsz, hP, hK, hD0, hN⟩ := hv
  have hx := B.exec
  have hb := B.bytes
  have hr := B.returns
  have hts := atoms_spec (ws := wsX8_join) B.pre
  have hown : s.vm.findClass RX8 = some m.cls := findClass_of_methodNamed B.named
  have hlocks := B.notSynchronized
  have lf25 := hts (.fieldLink RX8 25 "PalaceOfRooms$Ways" "doors" "I") (List.mem_cons_of_mem _ (List.mem_append_left _ (List.mem_of_getElem? (i := 0) rfl)))
  have inX8 : ∀ w ∈ wsX80, w ∈ wsX8_join := fun w h => List.mem_cons_of_mem _ (List.mem_append_right _ h)
  subst hsz
  have hD := hD0.self (sz := s.heap.size)
  generalize hAe : va_A (wWys cI cZ cQ a few doo) s.heap.size = A at hD ⊢
  have hA : ∀ q : Nat, s.heap.size ≤ q → A q := fun q h => by rw [← hAe]; exact Or.inr h
  have hS : va_S A s.heap s.heap [] := va_S.rf
  have hl := lv_entry ([.ref (a 0), .int x, .int y]) (n := 5) (Nat.le_of_ble_eq_true rfl)
  rw [lg_entry_eq]
  generalize (lg_sl ([.ref (a 0), .int x, .int y]) ++ List.replicate (5 - (lg_sl ([.ref (a 0), .int x, .int y])).length) Slot.unset).toArray = ls at hl ⊢
  have hl : lv_has ls 5 [(0, .ref (a 0)), (1, .int x), (2, .int y)] := hl
  refine lv_aload_n hx hb dX8_join_0 rfl (lv_at hl 0 rfl) ?_
  refine lv_dup hx hb dX8_join_1 rfl ?_
  refine va_get (D := (dC, dI)) (ci := 8) (v := .int doo) (C := RX8) (T := TX8) (N := 2) hx hb hts inX8 hown hK hP 0 rfl rfl 1 (by decide) lf25 (fun _ h9 => h9) rfl dX8_join_2 ?_
  refine lv_iconst (v := 1) hx hb dX8_join_5 (by decide) ?_
  refine lv_iadd hx hb dX8_join_6 ?_
  refine lv_topi (fun x1 ex1 => ?_)
  have ix1 : x1.toInt = (doo + 1).toInt := by rw [ex1]
  refine va_put (D := (dC, dI)) (ci := 8) (v := .int x1) (ty := .int) (C := RX8) (T := TX8) (N := 2) hx hb hts inX8 tyX8 tyX8_ok nmX8 hown hK hP hD hS 0 rfl rfl 1 (by decide) lf25 (fun _ h9 => h9) rfl (by decide +kernel) rfl rfl (Nat.le_of_ble_eq_true rfl) dX8_join_7 (fun H locs hP hD hS => ?_)
  have hP : va_P (dC, dI) vwCl (wWys cI cZ cQ a few x1) H := hP
  have hD : va_D A (wWys cI cZ cQ a few x1) := hD
  refine lv_iconst (v := 0) hx hb dX8_join_10 (by decide) ?_
  refine lv_istore_n (lv' := [(3, .int 0), (0, .ref (a 0)), (1, .int x), (2, .int y)]) hx hb dX8_join_11 rfl hl (by decide) rfl (fun ls hl => ?_)
  have L12 : ∀ (nn : Nat) (y12_3 : Int32) (few_12 : Nat → Int32) (H : Heap) (locs : List Loc) (ls : Array Slot), (0 ≤ (y12_3.toInt)) → ((y12_3.toInt) ≤ 8) → (jnI few x.toInt.toNat y.toInt.toNat (y12_3.toInt) 0 few_12) → (8 - (y12_3.toInt)).toNat < nn → va_P (dC, dI) vwCl (wWys cI cZ cQ a few_12 x1) H → va_D A (wWys cI cZ cQ a few_12 x1) → va_S A s.heap H locs → lv_has ls 5 [(0, .ref (a 0)), (1, .int x), (2, .int y), (3, .int y12_3)] → W p l e (headSpec wsX8_join { frames := 2, cells := 0, slots := 0, locals := 48 }).room s m ([.ref (a 0), .int x, .int y] : List Value).toArray below meth c H locs 0 0 (MQ below (va_Qv (fun (u : US) => ((u.1 1 0) = doo + 1) ∧ (jnS few x y (u.1 0)) ∧ (mtOK (u.1 0))) (Bw (dC, dI) A (fun u : US => (wWys cI cZ cQ a (u.1 0) (u.1 1 0)))) A) ([.ref (a 0), .int x, .int y] : List Value).toArray s 0 0 A) (F0 m 12 ls []) := by
    intro nn
    induction nn with
    | zero =>
      intro y12_3 few_12 H locs ls i12_0 i12_1 i12_2 hm12
      exact absurd hm12 (Nat.not_lt_zero _)
    | succ nn ih12 =>
      intro y12_3 few_12 H locs ls i12_0 i12_1 i12_2 hm12 hP hD hS hl
      refine lv_iload_n hx hb dX8_join_12 rfl (lv_at hl 3 rfl) ?_
      refine lv_bipush (v := 8) hx hb dX8_join_13 (by decide) ?_
      refine lv_icmp_ge (tgt := 80) hx hb dX8_join_15 (by decide) (fun c2 => ?_) (fun c2 => ?_)
      · have dc2 : 8 ≤ y12_3.toInt := leC (show (8 : Int32).toInt = 8 from rfl) rfl c2
        exact W.vret hx hb hr (fun tq ht hW => ⟨⟨(uS [few_12, (fun _ => x1)] 0 (fun _ => 0)), rfl, ⟨(show x1 = doo + 1 from by (first | assumption | rfl)), (show jnS few x y few_12 from by exact jn_end i12_2 (by omega)), (show mtOK few_12 from by exact jn_mt q4 (by omega) (by omega) (by omega) i12_2 (by omega))⟩, by rw [ht]; exact hP, hD⟩, hS.F ht⟩) hS.2.2 dX8_join_80
      · have dc2 : y12_3.toInt < 8 := nleC (show (8 : Int32).toInt = 8 from rfl) rfl c2
        refine lv_iconst (v := 0) hx hb dX8_join_18 (by decide) ?_
        refine lv_istore (lv' := [(4, .int 0), (0, .ref (a 0)), (1, .int x), (2, .int y), (3, .int y12_3)]) hx hb dX8_join_19 hl (by decide) rfl (fun ls hl => ?_)
        have L21 : ∀ (nn : Nat) (y21_4 : Int32) (few_21 : Nat → Int32) (H : Heap) (locs : List Loc) (ls : Array Slot), (0 ≤ (y21_4.toInt)) → ((y21_4.toInt) ≤ 8) → (jnI few x.toInt.toNat y.toInt.toNat (y12_3.toInt) (y21_4.toInt) few_21) → (8 - (y21_4.toInt)).toNat < nn → va_P (dC, dI) vwCl (wWys cI cZ cQ a few_21 x1) H → va_D A (wWys cI cZ cQ a few_21 x1) → va_S A s.heap H locs → lv_has ls 5 [(0, .ref (a 0)), (1, .int x), (2, .int y), (3, .int y12_3), (4, .int y21_4)] → W p l e (headSpec wsX8_join { frames := 2, cells := 0, slots := 0, locals := 48 }).room s m ([.ref (a 0), .int x, .int y] : List Value).toArray below meth c H locs 0 0 (MQ below (va_Qv (fun (u : US) => ((u.1 1 0) = doo + 1) ∧ (jnS few x y (u.1 0)) ∧ (mtOK (u.1 0))) (Bw (dC, dI) A (fun u : US => (wWys cI cZ cQ a (u.1 0) (u.1 1 0)))) A) ([.ref (a 0), .int x, .int y] : List Value).toArray s 0 0 A) (F0 m 21 ls []) := by
          intro nn
          induction nn with
          | zero =>
            intro y21_4 few_21 H locs ls i21_0 i21_1 i21_2 hm21
            exact absurd hm21 (Nat.not_lt_zero _)
          | succ nn ih21 =>
            intro y21_4 few_21 H locs ls i21_0 i21_1 i21_2 hm21 hP hD hS hl
            refine lv_iload hx hb dX8_join_21 (lv_at hl 4 rfl) ?_
            refine lv_bipush (v := 8) hx hb dX8_join_23 (by decide) ?_
            refine lv_icmp_ge (tgt := 74) hx hb dX8_join_25 (by decide) (fun c3 => ?_) (fun c3 => ?_)
            · have dc3 : 8 ≤ y21_4.toInt := leC (show (8 : Int32).toInt = 8 from rfl) rfl c3
              obtain ⟨z4, ez4⟩ : ∃ y : Int32, y = y12_3 + 1 := ⟨_, rfl⟩
              have iz4 : z4.toInt = y12_3.toInt + 1 := by rw [ez4]; exact addC rfl rfl (by omega) (by omega)
              refine lv_iinc (v := z4) (lv' := [(3, .int z4), (0, .ref (a 0)), (1, .int x), (2, .int y), (4, .int y21_4)]) hx hb dX8_join_74 hl (k := 3) rfl (by rw [ez4]; rfl) (by decide) rfl (fun ls hl => ?_)
              refine lv_goto (tgt := 12) hx hb dX8_join_77 (by decide) ?_
              exact ih12 z4 few_21 _ _ _ (by omega) (by omega) (by (first | exact jn_row i21_2 (by omega) (by omega) rfl | exact jn_init q4 (by first | rfl | omega) rfl)) (by omega) hP hD hS (lv_sub hl [1, 2, 3, 0] rfl)
            · have dc3 : y21_4.toInt < 8 := nleC (show (8 : Int32).toInt = 8 from rfl) rfl c3
              refine lv_aload_n hx hb dX8_join_28 rfl (lv_at hl 0 rfl) ?_
              refine lv_iload_n hx hb dX8_join_29 rfl (lv_at hl 3 rfl) ?_
              refine lv_iload hx hb dX8_join_30 (lv_at hl 4 rfl) ?_
              refine lv_aload_n hx hb dX8_join_32 rfl (lv_at hl 0 rfl) ?_
              refine lv_iload_n hx hb dX8_join_33 rfl (lv_at hl 3 rfl) ?_
              refine lv_iload_n hx hb dX8_join_34 rfl (lv_at hl 1 rfl) ?_
              refine rdV (As := [.int y12_3, .int x]) (rest := [.int y21_4, .int y12_3, .ref (a 0)]) ⟨hx, hb, hml, hown, hts⟩ (k_X8_between2 l dC dI cI cZ cQ a few_21 x1 y12_3 x (by omega) (by omega) (by omega) (by omega)) (cwV 2 hts gX8_join_X8_between rfl rfl rfl (by decide +kernel) ⟨Nat.le_of_ble_eq_true rfl, Nat.le_of_ble_eq_true rfl⟩) hP hK hN [0, 1] rfl 0 8 rfl rfl rfl hl.1 rfl (Nat.le_of_ble_eq_true rfl) dX8_join_35 ⟨Nat.le_of_ble_eq_true rfl, Nat.le_of_ble_eq_true rfl⟩ (fun r5 h6 => ?_)
              have h6 : (r5 = few_21 (y12_3.toInt * 8 + x.toInt).toNat) ∧ (r5.toInt = (few_21 (y12_3.toInt * 8 + x.toInt).toNat).toInt) := h6
              obtain ⟨h6_0, h6_1⟩ := h6
              refine lv_aload_n hx hb dX8_join_38 rfl (lv_at hl 0 rfl) ?_
              refine lv_iload_n hx hb dX8_join_39 rfl (lv_at hl 2 rfl) ?_
              refine lv_iload hx hb dX8_join_40 (lv_at hl 4 rfl) ?_
              refine rdV (As := [.int y, .int y21_4]) (rest := [.int r5, .int y21_4, .int y12_3, .ref (a 0)]) ⟨hx, hb, hml, hown, hts⟩ (k_X8_between2 l dC dI cI cZ cQ a few_21 x1 y y21_4 (by omega) (by omega) (by omega) (by omega)) (cwV 2 hts gX8_join_X8_between rfl rfl rfl (by decide +kernel) ⟨Nat.le_of_ble_eq_true rfl, Nat.le_of_ble_eq_true rfl⟩) hP hK hN [0, 1] rfl 0 8 rfl rfl rfl hl.1 rfl (Nat.le_of_ble_eq_true rfl) dX8_join_42 ⟨Nat.le_of_ble_eq_true rfl, Nat.le_of_ble_eq_true rfl⟩ (fun r7 h8 => ?_)
              have h8 : (r7 = few_21 (y.toInt * 8 + y21_4.toInt).toNat) ∧ (r7.toInt = (few_21 (y.toInt * 8 + y21_4.toInt).toNat).toInt) := h8
              obtain ⟨h8_0, h8_1⟩ := h8
              have w1 := jn_at (x := y12_3) (y := x) (r := r5) i21_2 (by omega) (by omega) (by assumption)
              have w2 := jn_at (x := y) (y := y21_4) (r := r7) i21_2 (by omega) (by omega) (by assumption)
              have w3 := jn_at (x := y12_3) (y := y21_4) (r := few_21 ((y12_3.toInt) * 8 + (y21_4.toInt)).toNat) i21_2 (by omega) (by omega) rfl
              refine wvV (As := [.int y12_3, .int y21_4, .int r5, .int r7]) (rest := []) (wr := []) (w2 := (fun u : US => (wWys cI cZ cQ a (u.1 0) x1))) ⟨hx, hb, hml, hown, hts⟩ (k_X8_shorten2 l dC dI cI cZ cQ a few_21 x1 _ y12_3 y21_4 r5 r7 (by omega) (by omega) (by omega) (by omega) (by omega) (by omega) (by omega) (by omega) (by omega) (by omega)) (cwV 4 hts gX8_join_X8_shorten rfl rfl rfl (by decide +kernel) ⟨Nat.le_of_ble_eq_true rfl, Nat.le_of_ble_eq_true rfl⟩) hP hD hS hA hK hN [0, 1] [] [0, 1] rfl rfl (by decide) (by decide) (by decide) (fun _ => rfl) (by decide) 0 8 rfl rfl rfl hl.1 rfl (Nat.le_of_ble_eq_true rfl) dX8_join_45 ⟨Nat.le_of_ble_eq_true rfl, Nat.le_of_ble_eq_true rfl⟩ (fun u11 H locs h10 hP hD hS => ?_)
              obtain ⟨few_c12, efew_c12⟩ : ∃ f : Nat → Int32, f = (u11.1 0) := ⟨_, rfl⟩
              have hP : va_P (dC, dI) vwCl (wWys cI cZ cQ a few_c12 x1) H := by rw [efew_c12]; exact hP
              have hD : va_D A (wWys cI cZ cQ a few_c12 x1) := by rw [efew_c12]; exact hD
              have h10 : (shS few_21 y12_3 y21_4 r5 r7 few_c12) := by (try rw [efew_c12]); exact h10
              have h10_0 := h10
              refine lv_aload_n hx hb dX8_join_48 rfl (lv_at hl 0 rfl) ?_
              refine lv_iload_n hx hb dX8_join_49 rfl (lv_at hl 3 rfl) ?_
              refine lv_iload hx hb dX8_join_50 (lv_at hl 4 rfl) ?_
              refine lv_aload_n hx hb dX8_join_52 rfl (lv_at hl 0 rfl) ?_
              refine lv_iload_n hx hb dX8_join_53 rfl (lv_at hl 3 rfl) ?_
              refine lv_iload_n hx hb dX8_join_54 rfl (lv_at hl 2 rfl) ?_
              refine rdV (As := [.int y12_3, .int y]) (rest := [.int y21_4, .int y12_3, .ref (a 0)]) ⟨hx, hb, hml, hown, hts⟩ (k_X8_between2 l dC dI cI cZ cQ a few_c12 x1 y12_3 y (by omega) (by omega) (by omega) (by omega)) (cwV 2 hts gX8_join_X8_between rfl rfl rfl (by decide +kernel) ⟨Nat.le_of_ble_eq_true rfl, Nat.le_of_ble_eq_true rfl⟩) hP hK hN [0, 1] rfl 0 8 rfl rfl rfl hl.1 rfl (Nat.le_of_ble_eq_true rfl) dX8_join_55 ⟨Nat.le_of_ble_eq_true rfl, Nat.le_of_ble_eq_true rfl⟩ (fun r13 h14 => ?_)
              have h14 : (r13 = few_c12 (y12_3.toInt * 8 + y.toInt).toNat) ∧ (r13.toInt = (few_c12 (y12_3.toInt * 8 + y.toInt).toNat).toInt) := h14
              obtain ⟨h14_0, h14_1⟩ := h14
              refine lv_aload_n hx hb dX8_join_58 rfl (lv_at hl 0 rfl) ?_
              refine lv_iload_n hx hb dX8_join_59 rfl (lv_at hl 1 rfl) ?_
              refine lv_iload hx hb dX8_join_60 (lv_at hl 4 rfl) ?_
              refine rdV (As := [.int x, .int y21_4]) (rest := [.int r13, .int y21_4, .int y12_3, .ref (a 0)]) ⟨hx, hb, hml, hown, hts⟩ (k_X8_between2 l dC dI cI cZ cQ a few_c12 x1 x y21_4 (by omega) (by omega) (by omega) (by omega)) (cwV 2 hts gX8_join_X8_between rfl rfl rfl (by decide +kernel) ⟨Nat.le_of_ble_eq_true rfl, Nat.le_of_ble_eq_true rfl⟩) hP hK hN [0, 1] rfl 0 8 rfl rfl rfl hl.1 rfl (Nat.le_of_ble_eq_true rfl) dX8_join_62 ⟨Nat.le_of_ble_eq_true rfl, Nat.le_of_ble_eq_true rfl⟩ (fun r15 h16 => ?_)
              have h16 : (r15 = few_c12 (x.toInt * 8 + y21_4.toInt).toNat) ∧ (r15.toInt = (few_c12 (x.toInt * 8 + y21_4.toInt).toNat).toInt) := h16
              obtain ⟨h16_0, h16_1⟩ := h16
              have w4 := jn_at1 (C1 := few_c12) (x := y12_3) (y := y) (r := r13) i21_2 (by assumption) w1 w2 (by omega) (by omega) (by omega) (by omega) (by assumption)
              have w5 := jn_at1 (C1 := few_c12) (x := x) (y := y21_4) (r := r15) i21_2 (by assumption) w1 w2 (by omega) (by omega) (by omega) (by omega) (by assumption)
              have w6 := jn_at1 (C1 := few_c12) (x := y12_3) (y := y21_4) (r := few_c12 ((y12_3.toInt) * 8 + (y21_4.toInt)).toNat) i21_2 (by assumption) w1 w2 (by omega) (by omega) (by omega) (by omega) rfl
              refine wvV (As := [.int y12_3, .int y21_4, .int r13, .int r15]) (rest := []) (wr := []) (w2 := (fun u : US => (wWys cI cZ cQ a (u.1 0) x1))) ⟨hx, hb, hml, hown, hts⟩ (k_X8_shorten2 l dC dI cI cZ cQ a few_c12 x1 _ y12_3 y21_4 r13 r15 (by omega) (by omega) (by omega) (by omega) (by omega) (by omega) (by omega) (by omega) (by omega) (by omega)) (cwV 4 hts gX8_join_X8_shorten rfl rfl rfl (by decide +kernel) ⟨Nat.le_of_ble_eq_true rfl, Nat.le_of_ble_eq_true rfl⟩) hP hD hS hA hK hN [0, 1] [] [0, 1] rfl rfl (by decide) (by decide) (by decide) (fun _ => rfl) (by decide) 0 8 rfl rfl rfl hl.1 rfl (Nat.le_of_ble_eq_true rfl) dX8_join_65 ⟨Nat.le_of_ble_eq_true rfl, Nat.le_of_ble_eq_true rfl⟩ (fun u19 H locs h18 hP hD hS => ?_)
              obtain ⟨few_c20, efew_c20⟩ : ∃ f : Nat → Int32, f = (u19.1 0) := ⟨_, rfl⟩
              have hP : va_P (dC, dI) vwCl (wWys cI cZ cQ a few_c20 x1) H := by rw [efew_c20]; exact hP
              have hD : va_D A (wWys cI cZ cQ a few_c20 x1) := by rw [efew_c20]; exact hD
              have h18 : (shS few_c12 y12_3 y21_4 r13 r15 few_c20) := by (try rw [efew_c20]); exact h18
              have h18_0 := h18
              obtain ⟨z21, ez21⟩ : ∃ y : Int32, y = y21_4 + 1 := ⟨_, rfl⟩
              have iz21 : z21.toInt = y21_4.toInt + 1 := by rw [ez21]; exact addC rfl rfl (by omega) (by omega)
              refine lv_iinc (v := z21) (lv' := [(4, .int z21), (0, .ref (a 0)), (1, .int x), (2, .int y), (3, .int y12_3)]) hx hb dX8_join_68 hl (k := 4) rfl (by rw [ez21]; rfl) (by decide) rfl (fun ls hl => ?_)
              refine lv_goto (tgt := 21) hx hb dX8_join_71 (by decide) ?_
              exact ih21 z21 few_c20 _ _ _ (by omega) (by omega) (by (first | exact jn_step q4 (by omega) (by omega) (by omega) (by omega) (by omega) i21_2 (by assumption) (by assumption) (by assumption) (by assumption) (by assumption) (by assumption) (by omega) | exact jn_cast i12_2 (by first | rfl | omega) (by first | rfl | omega))) (by omega) hP hD hS (lv_sub hl [1, 2, 3, 4, 0] rfl)
        have kc22 : (0 : Int32).toInt = 0 := rfl
        exact L21 _ 0 few_12 _ _ _ (by omega) (by omega) (by (first | exact jn_step q4 (by omega) (by omega) (by omega) (by omega) (by omega) i21_2 (by assumption) (by assumption) (by assumption) (by assumption) (by assumption) (by assumption) (by omega) | exact jn_cast i12_2 (by first | rfl | omega) (by first | rfl | omega))) (Nat.lt_succ_self _) hP hD hS (lv_sub hl [1, 2, 3, 4, 0] rfl)
  have kc23 : (0 : Int32).toInt = 0 := rfl
  exact L12 _ 0 few _ _ _ (by omega) (by omega) (by (first | exact jn_row i21_2 (by omega) (by omega) rfl | exact jn_init q4 (by first | rfl | omega) rfl)) (Nat.lt_succ_self _) hP hD hS (lv_sub hl [1, 2, 3, 0] rfl)
