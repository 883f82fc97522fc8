-- ===== RIGHT: what may be told in its place =====
def agF (mar top str : Nat → Int32) (tel : Int32) (c lo : Nat) : Nat → Int
  | 0 => 0
  | k + 1 => agF mar top str tel c lo k + (if crdB mar top tel (lo + k) c then (str (lo + k)).toInt else 0)
theorem ag_init {mar top str gho ghs : Nat → Int32} {tel : Int32} {c lo N : Nat} {V : Int} (hV : V = (if gho c = -1 then 0 else (ghs c).toInt)) (hN : N = 0) : V = fnt gho ghs c + agF mar top str tel c lo N := by
  subst hN; subst hV
  show _ = fnt gho ghs c + 0
  unfold fnt; omega
theorem ag_yes {mar top str : Nat → Int32} {tel y o w : Int32} {F L R : Int} {N N' : Nat} (h : L = F + agF mar top str tel y.toNatClampNeg w.toNatClampNeg N) (hc : crdB mar top tel o.toNatClampNeg y.toNatClampNeg = true) (hR : R = L + (str o.toNatClampNeg).toInt) (h0 : 0 ≤ w.toInt) (h1 : w.toInt ≤ o.toInt) (hN : N = (o.toInt - w.toInt).toNat) (hN' : N' = N + 1) : R = F + agF mar top str tel y.toNatClampNeg w.toNatClampNeg N' := by
  subst hN'
  have eo : o.toNatClampNeg = w.toNatClampNeg + N := by rw [clC (x := o) rfl, clC (x := w) rfl]; omega
  rw [eo] at hc hR
  show _ = F + (agF mar top str tel y.toNatClampNeg w.toNatClampNeg N + (if crdB mar top tel (w.toNatClampNeg + N) y.toNatClampNeg then (str (w.toNatClampNeg + N)).toInt else 0))
  rw [hc, hR, h, if_pos rfl]; omega
theorem ag_no {mar top str : Nat → Int32} {tel y o w : Int32} {F L R : Int} {N N' : Nat} (h : L = F + agF mar top str tel y.toNatClampNeg w.toNatClampNeg N) (hc : crdB mar top tel o.toNatClampNeg y.toNatClampNeg = false) (hR : R = L) (h0 : 0 ≤ w.toInt) (h1 : w.toInt ≤ o.toInt) (hN : N = (o.toInt - w.toInt).toNat) (hN' : N' = N + 1) : R = F + agF mar top str tel y.toNatClampNeg w.toNatClampNeg N' := by
  subst hN'
  have eo : o.toNatClampNeg = w.toNatClampNeg + N := by rw [clC (x := o) rfl, clC (x := w) rfl]; omega
  rw [eo] at hc
  show _ = F + (agF mar top str tel y.toNatClampNeg w.toNatClampNeg N + (if crdB mar top tel (w.toNatClampNeg + N) y.toNatClampNeg then (str (w.toNatClampNeg + N)).toInt else 0))
  rw [hc, hR, h, if_neg (by decide)]; omega
theorem ag_end {mar top str : Nat → Int32} {tel y w : Int32} {F R : Int} {N : Nat} (h : R = F + agF mar top str tel y.toNatClampNeg w.toNatClampNeg N) (hN : N = 6) (h0 : 0 ≤ y.toInt) (hw : w.toInt = y.toInt - y.toInt % 6) : R = F + agF mar top str tel y.toNatClampNeg (y.toNatClampNeg - y.toNatClampNeg % 6) 6 := by
  subst hN
  rw [h, clC (x := y) rfl, clC (x := w) rfl, show w.toInt.toNat = y.toInt.toNat - y.toInt.toNat % 6 by omega]
def raF (mar top str gho ghs : Nat → Int32) (tel : Int32) (c : Nat) : Int := (str c).toInt + (fnt gho ghs c + agF mar top str tel c (c - c % 6) 6)
def gcF (a b : Int) : Int := ((Nat.gcd a.toNat b.toNat : Nat) : Int)
def rgA (mar top str gho ghs : Nat → Int32) (tel : Int32) (c : Nat) (p r : Int32) : Prop :=
  (raF mar top str gho ghs tel c = 0 ∧ r = -4) ∨ (0 < raF mar top str gho ghs tel c ∧ ((p.toInt = 0 ∧ r.toInt = (str c).toInt / gcF (str c).toInt (raF mar top str gho ghs tel c)) ∨ (p.toInt = 1 ∧ r.toInt = raF mar top str gho ghs tel c / gcF (str c).toInt (raF mar top str gho ghs tel c))))
def spRgt (mar top str gho ghs : Nat → Int32) (tel c p r : Int32) : Prop := ((c.toInt < 0 ∨ 47 < c.toInt) ∧ r = -2) ∨ ((0 ≤ c.toInt ∧ c.toInt ≤ 47) ∧ (p.toInt < 0 ∨ 1 < p.toInt) ∧ r = -3) ∨ ((0 ≤ c.toInt ∧ c.toInt ≤ 47) ∧ (0 ≤ p.toInt ∧ p.toInt ≤ 1) ∧ top c.toNatClampNeg = -1 ∧ r = -4) ∨ ((0 ≤ c.toInt ∧ c.toInt ≤ 47) ∧ (0 ≤ p.toInt ∧ p.toInt ≤ 1) ∧ top c.toNatClampNeg ≠ -1 ∧ rgA mar top str gho ghs tel c.toNatClampNeg p r)
-- greatest common divisor
def gcI (X Y L S k : Int) : Prop := gcF L S = gcF X Y ∧ 0 ≤ S ∧ S ≤ L ∧ L.toNat * S.toNat * 2 ^ k.toNat ≤ 1000000
theorem gc_comm {a b : Int} : gcF a b = gcF b a := by unfold gcF; rw [Nat.gcd_comm]
theorem gc_init {X Y L S k : Int} (hL : L = max X Y) (hS : S = min X Y) (h0 : 0 ≤ X) (h1 : 0 ≤ Y) (h2 : X ≤ 1000) (h3 : Y ≤ 1000) (hk : k = 0) : gcI X Y L S k := by
  subst hk
  refine ⟨?_, by omega, by omega, ?_⟩
  · rcases Int.le_total X Y with h | h
    · rw [hL, hS, Int.max_eq_right h, Int.min_eq_left h, gc_comm]
    · rw [hL, hS, Int.max_eq_left h, Int.min_eq_right h]
  · show L.toNat * S.toNat * 1 ≤ 1000000
    have e : L.toNat * S.toNat ≤ 1000 * 1000 := Nat.mul_le_mul (by omega) (by omega)
    omega
theorem gc_mod {L S : Int} (hS : 0 < S) (hL : 0 ≤ L) : gcF S (L % S) = gcF L S := by
  unfold gcF
  have e : (L % S).toNat = L.toNat % S.toNat := by
    obtain ⟨l, rfl⟩ := Int.eq_ofNat_of_zero_le hL
    obtain ⟨s, rfl⟩ := Int.eq_ofNat_of_zero_le (Int.le_of_lt hS)
    show ((l : Int) % (s : Int)).toNat = l % s
    rw [← Int.natCast_emod]; rfl
  rw [e, Nat.gcd_comm S.toNat, ← Nat.gcd_rec, Nat.gcd_comm]
theorem gc_step {X Y L S L' S' k k' : Int} (q : gcI X Y L S k) (hS : 0 < S) (hL : L' = S) (hS' : S' = L % S) (h0 : 0 ≤ k) (hk : k' = k + 1) : gcI X Y L' S' k' := by
  subst hL; subst hS'; subst hk
  obtain ⟨q1, q2, q3, q4⟩ := q
  have m1 := Int.emod_nonneg L (b := L') (by omega)
  have m2 := Int.emod_lt_of_pos L hS
  refine ⟨by rw [gc_mod hS (by omega)]; exact q1, m1, by omega, ?_⟩
  have h2 : 2 * (L % L').toNat ≤ L.toNat := by
    have e := Int.emod_add_mul_ediv L L'
    have d1 : 1 ≤ L / L' := by
      have := Int.ediv_le_ediv hS q3
      rwa [Int.ediv_self (by omega)] at this
    have d2 : L' ≤ L' * (L / L') := by
      have := Int.mul_le_mul_of_nonneg_left d1 (show 0 ≤ L' by omega)
      omega
    omega
  rw [show (k + 1).toNat = k.toNat + 1 by omega, Nat.pow_succ]
  have e3 : L'.toNat * (L % L').toNat * (2 ^ k.toNat * 2) = L'.toNat * (2 * (L % L').toNat) * 2 ^ k.toNat := by
    rw [Nat.mul_comm (2 ^ k.toNat) 2, ← Nat.mul_assoc, Nat.mul_assoc L'.toNat, Nat.mul_comm (L % L').toNat 2]
  rw [e3]
  refine Nat.le_trans (Nat.mul_le_mul_right _ (Nat.mul_le_mul_left _ h2)) ?_
  rw [Nat.mul_comm L'.toNat]; exact q4
theorem gc_end {X Y L S k : Int} (q : gcI X Y L S k) (h : S ≤ 0 ∨ 64 ≤ k) : L = gcF X Y := by
  obtain ⟨q1, q2, q3, q4⟩ := q
  have hS : S = 0 := by
    rcases h with h | h
    · omega
    · refine Classical.byContradiction fun c => ?_
      have a1 : 1 ≤ L.toNat * S.toNat := Nat.mul_pos (by omega) (by omega)
      have a2 : 2 ^ 64 ≤ 2 ^ k.toNat := Nat.pow_le_pow_right (by decide) (by omega)
      have a3 := Nat.mul_le_mul a1 a2
      omega
  rw [← q1, hS]
  unfold gcF
  show L = ((Nat.gcd L.toNat 0 : Nat) : Int)
  rw [Nat.gcd_zero_right]; omega
theorem gc_pos {a b : Int} (ha : 0 ≤ a) (hb : a ≤ b) (h : 0 < gcF a b) : 0 < b := by
  refine Classical.byContradiction fun c => ?_
  have e1 : b = 0 := by omega
  have e2 : a = 0 := by omega
  subst e1; subst e2
  exact absurd h (by decide)
theorem gc_zero {a b : Int} (h0 : 0 ≤ b) (h : gcF a b ≤ 0) : b = 0 := by
  have e : Nat.gcd a.toNat b.toNat = 0 := by unfold gcF at h; omega
  have := (Nat.gcd_eq_zero_iff.mp e).2
  omega
theorem rg_zero {mar top str gho ghs : Nat → Int32} {tel p r g : Int32} {c : Nat} {A B : Int} (eA : A = (str c).toInt) (eB : B = raF mar top str gho ghs tel c) (eg : g.toInt = gcF A B) (hg : g.toInt ≤ 0) (h0 : 0 ≤ A) (h1 : A ≤ B) (hr : r = -4) : rgA mar top str gho ghs tel c p r := by
  refine .inl ⟨?_, hr⟩
  rw [← eB]; exact gc_zero (by omega) (eg ▸ hg)
theorem rg_one {mar top str gho ghs : Nat → Int32} {tel p r g : Int32} {c : Nat} {A B R : Int} (eA : A = (str c).toInt) (eB : B = raF mar top str gho ghs tel c) (eg : g.toInt = gcF A B) (hg : 0 < g.toInt) (h0 : 0 ≤ A) (h1 : A ≤ B) (hR : r.toInt = R) (hr : (p.toInt = 0 ∧ R = A / g.toInt) ∨ (p.toInt = 1 ∧ R = B / g.toInt)) : rgA mar top str gho ghs tel c p r := by
  refine .inr ⟨?_, ?_⟩
  · rw [← eB]; exact gc_pos h0 h1 (eg ▸ hg)
  · rw [← eB, ← eA, ← eg, hR]; exact hr
-- the model's
def arI (mar top str gho ghs : Nat → Int32) (tel co : Int32) (i L : Int) : Prop := L = (str co.toNatClampNeg).toInt + (fnt gho ghs co.toNatClampNeg + agF mar top str tel co.toNatClampNeg (co.toNatClampNeg - co.toNatClampNeg % 6) (i - co.toInt / 6 * 6).toNat)
theorem ar_init {mar top str gho ghs : Nat → Int32} {tel co : Int32} {i L : Int} (hL : L = (str co.toNatClampNeg).toInt + (if gho co.toNatClampNeg = -1 then 0 else (ghs co.toNatClampNeg).toInt)) (hi : i = co.toInt / 6 * 6) : arI mar top str gho ghs tel co i L := by
  unfold arI
  rw [show (i - co.toInt / 6 * 6).toNat = 0 by omega]
  show L = _ + (fnt gho ghs co.toNatClampNeg + 0)
  rw [hL]; unfold fnt; omega
theorem ar_no {mar top str gho ghs : Nat → Int32} {tel co o : Int32} {i L R : Int} (q : arI mar top str gho ghs tel co o.toInt L) (hb : crdB mar top tel o.toNatClampNeg co.toNatClampNeg = false) (h0 : 0 ≤ co.toInt) (h1 : co.toInt / 6 * 6 ≤ o.toInt) (hi : i = o.toInt + 1) (hR : R = L) : arI mar top str gho ghs tel co i R := by
  have e := clC (x := co) rfl
  have e2 := clC (x := o) rfl
  unfold arI at q ⊢
  rw [show (i - co.toInt / 6 * 6).toNat = (o.toInt - co.toInt / 6 * 6).toNat + 1 by omega]
  show R = (str co.toNatClampNeg).toInt + (fnt gho ghs co.toNatClampNeg + (agF mar top str tel co.toNatClampNeg (co.toNatClampNeg - co.toNatClampNeg % 6) (o.toInt - co.toInt / 6 * 6).toNat + (if crdB mar top tel (co.toNatClampNeg - co.toNatClampNeg % 6 + (o.toInt - co.toInt / 6 * 6).toNat) co.toNatClampNeg then (str (co.toNatClampNeg - co.toNatClampNeg % 6 + (o.toInt - co.toInt / 6 * 6).toNat)).toInt else 0)))
  rw [show co.toNatClampNeg - co.toNatClampNeg % 6 + (o.toInt - co.toInt / 6 * 6).toNat = o.toNatClampNeg by omega, hb, hR, q, if_neg (by decide)]; omega
theorem ar_yes {mar top str gho ghs : Nat → Int32} {tel co o : Int32} {i L R : Int} (q : arI mar top str gho ghs tel co o.toInt L) (hb : crdB mar top tel o.toNatClampNeg co.toNatClampNeg = true) (h0 : 0 ≤ co.toInt) (h1 : co.toInt / 6 * 6 ≤ o.toInt) (hi : i = o.toInt + 1) (hR : R = L + (str o.toNatClampNeg).toInt) : arI mar top str gho ghs tel co i R := by
  have e := clC (x := co) rfl
  have e2 := clC (x := o) rfl
  unfold arI at q ⊢
  rw [show (i - co.toInt / 6 * 6).toNat = (o.toInt - co.toInt / 6 * 6).toNat + 1 by omega]
  show R = (str co.toNatClampNeg).toInt + (fnt gho ghs co.toNatClampNeg + (agF mar top str tel co.toNatClampNeg (co.toNatClampNeg - co.toNatClampNeg % 6) (o.toInt - co.toInt / 6 * 6).toNat + (if crdB mar top tel (co.toNatClampNeg - co.toNatClampNeg % 6 + (o.toInt - co.toInt / 6 * 6).toNat) co.toNatClampNeg then (str (co.toNatClampNeg - co.toNatClampNeg % 6 + (o.toInt - co.toInt / 6 * 6).toNat)).toInt else 0)))
  rw [show co.toNatClampNeg - co.toNatClampNeg % 6 + (o.toInt - co.toInt / 6 * 6).toNat = o.toNatClampNeg by omega, hb, hR, q, if_pos rfl]; omega
theorem ar_end {mar top str gho ghs : Nat → Int32} {tel co : Int32} {i L : Int} (q : arI mar top str gho ghs tel co i L) (hi : i = co.toInt / 6 * 6 + 6) : L = raF mar top str gho ghs tel co.toNatClampNeg := by
  unfold arI at q; rw [show (i - co.toInt / 6 * 6).toNat = 6 by omega] at q; exact q
theorem gm_init {x y Y : Int} (h : y = Y) : gcF x y = gcF x Y := by rw [h]
theorem ar_cast {mar top str gho ghs : Nat → Int32} {tel co : Int32} {i i' L : Int} (q : arI mar top str gho ghs tel co i L) (h : i' = i) : arI mar top str gho ghs tel co i' L := by subst h; exact q
theorem gm_step {X Y x y x' y' : Int} (q : gcF x y = gcF X Y) (hy : 0 < y) (hx : 0 ≤ x) (h1 : x' = y) (h2 : y' = x % y) : gcF x' y' = gcF X Y := by
  subst h1; subst h2; rw [gc_mod hy hx]; exact q
theorem gm_end {X Y x y : Int} (q : gcF x y = gcF Y X) (hx : 0 ≤ x) (hy : y = 0) : x = gcF X Y := by
  subst hy
  rw [gc_comm, ← q]
  unfold gcF
  show x = ((Nat.gcd x.toNat 0 : Nat) : Int)
  rw [Nat.gcd_zero_right]; omega
theorem crd_top {mar top : Nat → Int32} {tel : Int32} {o c : Nat} (h : crdB mar top tel o c = true) : top o ≠ -1 := by
  intro q
  unfold crdB at h
  rw [decide_eq_false (p := top o ≠ -1) (fun z => z q), Bool.and_false, Bool.false_and, Bool.false_and] at h
  exact absurd h (by decide)
theorem ag_eq {mar t t2 s s2 : Nat → Int32} {tel : Int32} {c lo : Nat} (h : ∀ j : Nat, j < 48 → t j = t2 j) (hs : ∀ j : Nat, j < 48 → t j ≠ -1 → s j = s2 j) (hc : c < 48) : ∀ k, lo + k ≤ 48 → agF mar t s tel c lo k = agF mar t2 s2 tel c lo k
  | 0, _ => rfl
  | k + 1, hk => by
    show agF mar t s tel c lo k + (if crdB mar t tel (lo + k) c then (s (lo + k)).toInt else 0) = agF mar t2 s2 tel c lo k + (if crdB mar t2 tel (lo + k) c then (s2 (lo + k)).toInt else 0)
    have e : crdB mar t2 tel (lo + k) c = crdB mar t tel (lo + k) c := by unfold crdB; rw [h (lo + k) (by omega), h c hc]
    rw [ag_eq h hs hc k (by omega), e]
    by_cases z : crdB mar t tel (lo + k) c = true
    · rw [if_pos z, if_pos z, hs (lo + k) (by omega) (crd_top z)]
    · rw [if_neg z, if_neg z]
theorem spRgt_rel {mar mm top str gho ghs pto wal mt ms mg mf mp mw : Nat → Int32} {tel mtel c p r r2 : Int32} (R : crR top str gho ghs pto wal mt ms mg mf mp mw) (em : mar = mm) (et : tel = mtel) (h1 : spRgt mar top str gho ghs tel c p r) (h2 : spRgt mm mt ms mg mf mtel c p r2) : r = r2 := by
  subst em; subst et
  rcases h1 with ⟨a, b⟩ | ⟨a, a1, b⟩ | ⟨a, a1, t, b⟩ | ⟨a, a1, t, b⟩
  · rcases h2 with ⟨d, e⟩ | ⟨d, d1, e⟩ | ⟨d, d1, u, e⟩ | ⟨d, d1, u, e⟩
    · rw [b, e]
    all_goals (exfalso; omega)
  · rcases h2 with ⟨d, e⟩ | ⟨d, d1, e⟩ | ⟨d, d1, u, e⟩ | ⟨d, d1, u, e⟩
    · exfalso; omega
    · rw [b, e]
    all_goals (exfalso; omega)
  · have R1 := R.1 c.toNatClampNeg (by rw [clC (x := c) rfl]; omega)
    rcases h2 with ⟨d, e⟩ | ⟨d, d1, e⟩ | ⟨d, d1, u, e⟩ | ⟨d, d1, u, e⟩
    · exfalso; omega
    · exfalso; omega
    · rw [b, e]
    · exact absurd (R1.1.symm.trans t) u
  · have hc : c.toNatClampNeg < 48 := by rw [clC (x := c) rfl]; omega
    have R1 := R.1 c.toNatClampNeg hc
    rcases h2 with ⟨d, e⟩ | ⟨d, d1, e⟩ | ⟨d, d1, u, e⟩ | ⟨d, d1, u, e⟩
    · exfalso; omega
    · exfalso; omega
    · exact absurd (R1.1.trans u) t
    · have es := R1.2.2.2.1 t
      have ef : fnt gho ghs c.toNatClampNeg = fnt mg mf c.toNatClampNeg := by
        unfold fnt
        rw [← R1.2.1]
        by_cases z : gho c.toNatClampNeg = -1
        · rw [if_pos z, if_pos z]
        · rw [if_neg z, if_neg z, R1.2.2.2.2 z]
      have er : raF mar mt ms mg mf tel c.toNatClampNeg = raF mar top str gho ghs tel c.toNatClampNeg := by
        unfold raF
        rw [es, ef, ag_eq (fun j hj => (R.1 j hj).1) (fun j hj => (R.1 j hj).2.2.2.1) hc 6 (by omega)]
      unfold rgA at b e
      rw [er, ← es] at e
      rcases b with ⟨z, b⟩ | ⟨z, b⟩
      · rcases e with ⟨w, e⟩ | ⟨w, e⟩
        · rw [b, e]
        · exfalso; omega
      · rcases e with ⟨w, e⟩ | ⟨w, e⟩
        · exfalso; omega
        · rcases b with ⟨p1, b⟩ | ⟨p1, b⟩
          · rcases e with ⟨p2, e⟩ | ⟨p2, e⟩
            · exact Int32.toInt_inj.mp (b.trans e.symm)
            · exfalso; omega
          · rcases e with ⟨p2, e⟩ | ⟨p2, e⟩
            · exfalso; omega
            · exact Int32.toInt_inj.mp (b.trans e.symm)
theorem sx_pos {c : Int32} {V S X : Int} (h : c = -1) (hV : V = S) : V = S + (if c = -1 then 0 else X) := by rw [if_pos h, hV]; omega
theorem sx_neg {c : Int32} {V S X : Int} (h : ¬ c = -1) (hV : V = S + X) : V = S + (if c = -1 then 0 else X) := by rw [if_neg h, hV]
