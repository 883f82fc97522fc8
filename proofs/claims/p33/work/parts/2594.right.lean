section
-- ===== RIGHT: what may be told in its place =====
def agF (mar top str : Nat → Int32) (tel : Int32) (c lo : Nat) : Nat → Int
  | 0 => 0
  | k + 1 => agF mar top str tel c lo k + (if crdB mar top tel (lo + k) c then (str (lo + k)).toInt else 0)
theorem ag_init {mar top str gho ghs : Nat → Int32} {tel : Int32} {c lo N : Nat} {V : Int} (hV : V = (if gho c = -1 then 0 else (ghs c).toInt)) (hN : N = 0) : V = fnt gho ghs c + agF mar top str tel c lo N := by
  subst hN; subst hV
  show _ = fnt gho ghs c + 0
  unfold fnt; omega
theorem ag_yes {mar top str : Nat → Int32} {tel y o w : Int32} {F L R : Int} {N N' : Nat} (h : L = F + agF mar top str tel y.toNatClampNeg w.toNatClampNeg N) (hc : crdB mar top tel o.toNatClampNeg y.toNatClampNeg = true) (hR : R = L + (str o.toNatClampNeg).toInt) (h0 : 0 ≤ w.toInt) (h1 : w.toInt ≤ o.toInt) (hN : N = (o.toInt - w.toInt).toNat) (hN' : N' = N + 1) : R = F + agF mar top str tel y.toNatClampNeg w.toNatClampNeg N' := by
  subst hN'
  have eo : o.toNatClampNeg = w.toNatClampNeg + N := by rw [clC (x := o) rfl, clC (x := w) rfl]; omega
  rw [eo] at hc hR
  show _ = F + (agF mar top str tel y.toNatClampNeg w.toNatClampNeg N + (if crdB mar top tel (w.toNatClampNeg + N) y.toNatClampNeg then (str (w.toNatClampNeg + N)).toInt else 0))
  rw [hc, hR, h, if_pos rfl]; omega
theorem ag_no {mar top str : Nat → Int32} {tel y o w : Int32} {F L R : Int} {N N' : Nat} (h : L = F + agF mar top str tel y.toNatClampNeg w.toNatClampNeg N) (hc : crdB mar top tel o.toNatClampNeg y.toNatClampNeg = false) (hR : R = L) (h0 : 0 ≤ w.toInt) (h1 : w.toInt ≤ o.toInt) (hN : N = (o.toInt - w.toInt).toNat) (hN' : N' = N + 1) : R = F + agF mar top str tel y.toNatClampNeg w.toNatClampNeg N' := by
  subst hN'
  have eo : o.toNatClampNeg = w.toNatClampNeg + N := by rw [clC (x := o) rfl, clC (x := w) rfl]; omega
  rw [eo] at hc
  show _ = F + (agF mar top str tel y.toNatClampNeg w.toNatClampNeg N + (if crdB mar top tel (w.toNatClampNeg + N) y.toNatClampNeg then (str (w.toNatClampNeg + N)).toInt else 0))
  rw [hc, hR, h, if_neg (by decide)]; omega
theorem ag_end {mar top str : Nat → Int32} {tel y w : Int32} {F R : Int} {N : Nat} (h : R = F + agF mar top str tel y.toNatClampNeg w.toNatClampNeg N) (hN : N = 6) (h0 : 0 ≤ y.toInt) (hw : w.toInt = y.toInt - y.toInt % 6) : R = F + agF mar top str tel y.toNatClampNeg (y.toNatClampNeg - y.toNatClampNeg % 6) 6 := by
  subst hN
  rw [h, clC (x := y) rfl, clC (x := w) rfl, show w.toInt.toNat = y.toInt.toNat - y.toInt.toNat % 6 by omega]
def raF (mar top str gho ghs : Nat → Int32) (tel : Int32) (c : Nat) : Int := (str c).toInt + (fnt gho ghs c + agF mar top str tel c (c - c % 6) 6)
def gcF (a b : Int) : Int := ((Nat.gcd a.toNat b.toNat : Nat) : Int)
def rgA (mar top str gho ghs : Nat → Int32) (tel : Int32) (c : Nat) (p r : Int32) : Prop :=
  (raF mar top str gho ghs tel c = 0 ∧ r = -4) ∨ (0 < raF mar top str gho ghs tel c ∧ ((p.toInt = 0 ∧ r.toInt = (str c).toInt / gcF (str c).toInt (raF mar top str gho ghs tel c)) ∨ (p.toInt = 1 ∧ r.toInt = raF mar top str gho ghs tel c / gcF (str c).toInt (raF mar top str gho ghs tel c))))
def spRgt (mar top str gho ghs : Nat → Int32) (tel c p r : Int32) : Prop := ((c.toInt < 0 ∨ 47 < c.toInt) ∧ r = -2) ∨ ((0 ≤ c.toInt ∧ c.toInt ≤ 47) ∧ (p.toInt < 0 ∨ 1 < p.toInt) ∧ r = -3) ∨ ((0 ≤ c.toInt ∧ c.toInt ≤ 47) ∧ (0 ≤ p.toInt ∧ p.toInt ≤ 1) ∧ top c.toNatClampNeg = -1 ∧ r = -4) ∨ ((0 ≤ c.toInt ∧ c.toInt ≤ 47) ∧ (0 ≤ p.toInt ∧ p.toInt ≤ 1) ∧ top c.toNatClampNeg ≠ -1 ∧ rgA mar top str gho ghs tel c.toNatClampNeg p r)
-- greatest common divisor
def gcI (X Y L S k : Int) : Prop := gcF L S = gcF X Y ∧ 0 ≤ S ∧ S ≤ L ∧ L.toNat * S.toNat * 2 ^ k.toNat ≤ 1000000
theorem gc_comm {a b : Int} : gcF a b = gcF b a := by unfold gcF; rw [Nat.gcd_comm]
theorem gc_init {X Y L S k : Int} (hL : L = max X Y) (hS : S = min X Y) (h0 : 0 ≤ X) (h1 : 0 ≤ Y) (h2 : X ≤ 1000) (h3 : Y ≤ 1000) (hk : k = 0) : gcI X Y L S k := by
  subst hk
  refine ⟨?_, by omega, by omega, ?_⟩
  · rcases Int.le_total X Y with h | h
    · rw [hL, hS, Int.max_eq_right h, Int.min_eq_left h, gc_comm]
    · rw [hL, hS, Int.max_eq_left h, Int.min_eq_right h]
  · show L.toNat * S.toNat * 1 ≤ 1000000
    have e : L.toNat * S.toNat ≤ 1000 * 1000 := Nat.mul_le_mul (by omega) (by omega)
    omega
theorem gc_mod {L S : Int} (hS : 0 < S) (hL : 0 ≤ L) : gcF S (L % S) = gcF L S := by
  unfold gcF
  have e : (L % S).toNat = L.toNat % S.toNat := by
    obtain ⟨l, rfl⟩ := Int.eq_ofNat_of_zero_le hL
    obtain ⟨s, rfl⟩ := Int.eq_ofNat_of_zero_le (Int.le_of_lt hS)
    show ((l : Int) % (s : Int)).toNat = l % s
    rw [← Int.natCast_emod]; rfl
  rw [e, Nat.gcd_comm S.toNat, ← Nat.gcd_rec, Nat.gcd_comm]
theorem gc_step {X Y L S L' S' k k' : Int} (q : gcI X Y L S k) (hS : 0 < S) (hL : L' = S) (hS' : S' = L % S) (h0 : 0 ≤ k) (hk : k' = k + 1) : gcI X Y L' S' k' := by
  subst hL; subst hS'; subst hk
  obtain ⟨q1, q2, q3, q4⟩ := q
  have m1 := Int.emod_nonneg L (b := L') (by omega)
  have m2 := Int.emod_lt_of_pos L hS
  refine ⟨by rw [gc_mod hS (by omega)]; exact q1, m1, by omega, ?_⟩
  have h2 : 2 * (L % L').toNat ≤ L.toNat := by
    have e := Int.emod_add_mul_ediv L L'
    have d1 : 1 ≤ L / L' := by
      have := Int.ediv_le_ediv hS q3
      rwa [Int.ediv_self (by omega)] at this
    have d2 : L' ≤ L' * (L / L') := by
      have := Int.mul_le_mul_of_nonneg_left d1 (show 0 ≤ L' by omega)
      omega
    omega
  rw [show (k + 1).toNat = k.toNat + 1 by omega, Nat.pow_succ]
  have e3 : L'.toNat * (L % L').toNat * (2 ^ k.toNat * 2) = L'.toNat * (2 * (L % L').toNat) * 2 ^ k.toNat := by
    rw [Nat.mul_comm (2 ^ k.toNat) 2, ← Nat.mul_assoc, Nat.mul_assoc L'.toNat, Nat.mul_comm (L % L').toNat 2]
  rw [e3]
  refine Nat.le_trans (Nat.mul_le_mul_right _ (Nat.mul_le_mul_left _ h2)) ?_
  rw [Nat.mul_comm L'.toNat]; exact q4
theorem gc_end {X Y L S k : Int} (q : gcI X Y L S k) (h : S ≤ 0 ∨ 64 ≤ k) : L = gcF X Y := by
  obtain ⟨q1, q2, q3, q4⟩ := q
  have hS : S = 0 := by
    rcases h with h | h
    · omega
    · refine Classical.byContradiction fun c => ?_
      have a1 : 1 ≤ L.toNat * S.toNat := Nat.mul_pos (by omega) (by omega)
      have a2 : 2 ^ 64 ≤ 2 ^ k.toNat := Nat.pow_le_pow_right (by decide) (by omega)
      have a3 := Nat.mul_le_mul a1 a2
      omega
  rw [← q1, hS]
  unfold gcF
  show L = ((Nat.gcd L.toNat 0 : Nat) : Int)
  rw [Nat.gcd_zero_right]; omega
theorem gc_pos {a b : Int} (ha : 0 ≤ a) (hb : a ≤ b) (h : 0 < gcF a b) : 0 < b := by
  refine Classical.byContradiction fun c => ?_
  have e1 : b = 0 := by omega
  have e2 : a = 0 := by omega
  subst e1; subst e2
  exact absurd h (by decide)
theorem gc_zero {a b : Int} (h0 : 0 ≤ b) (h : gcF a b ≤ 0) : b = 0 := by
  have e : Nat.gcd a.toNat b.toNat = 0 := by unfold gcF at h; omega
  have := (Nat.gcd_eq_zero_iff.mp e).2
  omega
theorem rg_zero {mar top str gho ghs : Nat → Int32} {tel p r g : Int32} {c : Nat} {A B : Int} (eA : A = (str c).toInt) (eB : B = raF mar top str gho ghs tel c) (eg : g.toInt = gcF A B) (hg : g.toInt ≤ 0) (h0 : 0 ≤ A) (h1 : A ≤ B) (hr : r = -4) : rgA mar top str gho ghs tel c p r := by
  refine .inl ⟨?_, hr⟩
  rw [← eB]; exact gc_zero (by omega) (eg ▸ hg)
theorem rg_one {mar top str gho ghs : Nat → Int32} {tel p r g : Int32} {c : Nat} {A B R : Int} (eA : A = (str c).toInt) (eB : B = raF mar top str gho ghs tel c) (eg : g.toInt = gcF A B) (hg : 0 < g.toInt) (h0 : 0 ≤ A) (h1 : A ≤ B) (hR : r.toInt = R) (hr : (p.toInt = 0 ∧ R = A / g.toInt) ∨ (p.toInt = 1 ∧ R = B / g.toInt)) : rgA mar top str gho ghs tel c p r := by
  refine .inr ⟨?_, ?_⟩
  · rw [← eB]; exact gc_pos h0 h1 (eg ▸ hg)
  · rw [← eB, ← eA, ← eg, hR]; exact hr
-- the model's
def arI (mar top str gho ghs : Nat → Int32) (tel co : Int32) (i L : Int) : Prop := L = (str co.toNatClampNeg).toInt + (fnt gho ghs co.toNatClampNeg + agF mar top str tel co.toNatClampNeg (co.toNatClampNeg - co.toNatClampNeg % 6) (i - co.toInt / 6 * 6).toNat)
theorem ar_init {mar top str gho ghs : Nat → Int32} {tel co : Int32} {i L : Int} (hL : L = (str co.toNatClampNeg).toInt + (if gho co.toNatClampNeg = -1 then 0 else (ghs co.toNatClampNeg).toInt)) (hi : i = co.toInt / 6 * 6) : arI mar top str gho ghs tel co i L := by
  unfold arI
  rw [show (i - co.toInt / 6 * 6).toNat = 0 by omega]
  show L = _ + (fnt gho ghs co.toNatClampNeg + 0)
  rw [hL]; unfold fnt; omega
theorem ar_no {mar top str gho ghs : Nat → Int32} {tel co o : Int32} {i L R : Int} (q : arI mar top str gho ghs tel co o.toInt L) (hb : crdB mar top tel o.toNatClampNeg co.toNatClampNeg = false) (h0 : 0 ≤ co.toInt) (h1 : co.toInt / 6 * 6 ≤ o.toInt) (hi : i = o.toInt + 1) (hR : R = L) : arI mar top str gho ghs tel co i R := by
  have e := clC (x := co) rfl
  have e2 := clC (x := o) rfl
  unfold arI at q ⊢
  rw [show (i - co.toInt / 6 * 6).toNat = (o.toInt - co.toInt / 6 * 6).toNat + 1 by omega]
  show R = (str co.toNatClampNeg).toInt + (fnt gho ghs co.toNatClampNeg + (agF mar top str tel co.toNatClampNeg (co.toNatClampNeg - co.toNatClampNeg % 6) (o.toInt - co.toInt / 6 * 6).toNat + (if crdB mar top tel (co.toNatClampNeg - co.toNatClampNeg % 6 + (o.toInt - co.toInt / 6 * 6).toNat) co.toNatClampNeg then (str (co.toNatClampNeg - co.toNatClampNeg % 6 + (o.toInt - co.toInt / 6 * 6).toNat)).toInt else 0)))
  rw [show co.toNatClampNeg - co.toNatClampNeg % 6 + (o.toInt - co.toInt / 6 * 6).toNat = o.toNatClampNeg by omega, hb, hR, q, if_neg (by decide)]; omega
theorem ar_yes {mar top str gho ghs : Nat → Int32} {tel co o : Int32} {i L R : Int} (q : arI mar top str gho ghs tel co o.toInt L) (hb : crdB mar top tel o.toNatClampNeg co.toNatClampNeg = true) (h0 : 0 ≤ co.toInt) (h1 : co.toInt / 6 * 6 ≤ o.toInt) (hi : i = o.toInt + 1) (hR : R = L + (str o.toNatClampNeg).toInt) : arI mar top str gho ghs tel co i R := by
  have e := clC (x := co) rfl
  have e2 := clC (x := o) rfl
  unfold arI at q ⊢
  rw [show (i - co.toInt / 6 * 6).toNat = (o.toInt - co.toInt / 6 * 6).toNat + 1 by omega]
  show R = (str co.toNatClampNeg).toInt + (fnt gho ghs co.toNatClampNeg + (agF mar top str tel co.toNatClampNeg (co.toNatClampNeg - co.toNatClampNeg % 6) (o.toInt - co.toInt / 6 * 6).toNat + (if crdB mar top tel (co.toNatClampNeg - co.toNatClampNeg % 6 + (o.toInt - co.toInt / 6 * 6).toNat) co.toNatClampNeg then (str (co.toNatClampNeg - co.toNatClampNeg % 6 + (o.toInt - co.toInt / 6 * 6).toNat)).toInt else 0)))
  rw [show co.toNatClampNeg - co.toNatClampNeg % 6 + (o.toInt - co.toInt / 6 * 6).toNat = o.toNatClampNeg by omega, hb, hR, q, if_pos rfl]; omega
theorem ar_end {mar top str gho ghs : Nat → Int32} {tel co : Int32} {i L : Int} (q : arI mar top str gho ghs tel co i L) (hi : i = co.toInt / 6 * 6 + 6) : L = raF mar top str gho ghs tel co.toNatClampNeg := by
  unfold arI at q; rw [show (i - co.toInt / 6 * 6).toNat = 6 by omega] at q; exact q
theorem gm_init {x y Y : Int} (h : y = Y) : gcF x y = gcF x Y := by rw [h]
theorem ar_cast {mar top str gho ghs : Nat → Int32} {tel co : Int32} {i i' L : Int} (q : arI mar top str gho ghs tel co i L) (h : i' = i) : arI mar top str gho ghs tel co i' L := by subst h; exact q
theorem gm_step {X Y x y x' y' : Int} (q : gcF x y = gcF X Y) (hy : 0 < y) (hx : 0 ≤ x) (h1 : x' = y) (h2 : y' = x % y) : gcF x' y' = gcF X Y := by
  subst h1; subst h2; rw [gc_mod hy hx]; exact q
theorem gm_end {X Y x y : Int} (q : gcF x y = gcF Y X) (hx : 0 ≤ x) (hy : y = 0) : x = gcF X Y := by
  subst hy
  rw [gc_comm, ← q]
  unfold gcF
  show x = ((Nat.gcd x.toNat 0 : Nat) : Int)
  rw [Nat.gcd_zero_right]; omega
theorem crd_top {mar top : Nat → Int32} {tel : Int32} {o c : Nat} (h : crdB mar top tel o c = true) : top o ≠ -1 := by
  intro q
  unfold crdB at h
  rw [decide_eq_false (p := top o ≠ -1) (fun z => z q), Bool.and_false, Bool.false_and, Bool.false_and] at h
  exact absurd h (by decide)
theorem ag_eq {mar t t2 s s2 : Nat → Int32} {tel : Int32} {c lo : Nat} (h : ∀ j : Nat, j < 48 → t j = t2 j) (hs : ∀ j : Nat, j < 48 → t j ≠ -1 → s j = s2 j) (hc : c < 48) : ∀ k, lo + k ≤ 48 → agF mar t s tel c lo k = agF mar t2 s2 tel c lo k
  | 0, _ => rfl
  | k + 1, hk => by
    show agF mar t s tel c lo k + (if crdB mar t tel (lo + k) c then (s (lo + k)).toInt else 0) = agF mar t2 s2 tel c lo k + (if crdB mar t2 tel (lo + k) c then (s2 (lo + k)).toInt else 0)
    have e : crdB mar t2 tel (lo + k) c = crdB mar t tel (lo + k) c := by unfold crdB; rw [h (lo + k) (by omega), h c hc]
    rw [ag_eq h hs hc k (by omega), e]
    by_cases z : crdB mar t tel (lo + k) c = true
    · rw [if_pos z, if_pos z, hs (lo + k) (by omega) (crd_top z)]
    · rw [if_neg z, if_neg z]
theorem spRgt_rel {mar mm top str gho ghs pto wal mt ms mg mf mp mw : Nat → Int32} {tel mtel c p r r2 : Int32} (R : crR top str gho ghs pto wal mt ms mg mf mp mw) (em : mar = mm) (et : tel = mtel) (h1 : spRgt mar top str gho ghs tel c p r) (h2 : spRgt mm mt ms mg mf mtel c p r2) : r = r2 := by
  subst em; subst et
  rcases h1 with ⟨a, b⟩ | ⟨a, a1, b⟩ | ⟨a, a1, t, b⟩ | ⟨a, a1, t, b⟩
  · rcases h2 with ⟨d, e⟩ | ⟨d, d1, e⟩ | ⟨d, d1, u, e⟩ | ⟨d, d1, u, e⟩
    · rw [b, e]
    all_goals (exfalso; omega)
  · rcases h2 with ⟨d, e⟩ | ⟨d, d1, e⟩ | ⟨d, d1, u, e⟩ | ⟨d, d1, u, e⟩
    · exfalso; omega
    · rw [b, e]
    all_goals (exfalso; omega)
  · have R1 := R.1 c.toNatClampNeg (by rw [clC (x := c) rfl]; omega)
    rcases h2 with ⟨d, e⟩ | ⟨d, d1, e⟩ | ⟨d, d1, u, e⟩ | ⟨d, d1, u, e⟩
    · exfalso; omega
    · exfalso; omega
    · rw [b, e]
    · exact absurd (R1.1.symm.trans t) u
  · have hc : c.toNatClampNeg < 48 := by rw [clC (x := c) rfl]; omega
    have R1 := R.1 c.toNatClampNeg hc
    rcases h2 with ⟨d, e⟩ | ⟨d, d1, e⟩ | ⟨d, d1, u, e⟩ | ⟨d, d1, u, e⟩
    · exfalso; omega
    · exfalso; omega
    · exact absurd (R1.1.trans u) t
    · have es := R1.2.2.2.1 t
      have ef : fnt gho ghs c.toNatClampNeg = fnt mg mf c.toNatClampNeg := by
        unfold fnt
        rw [← R1.2.1]
        by_cases z : gho c.toNatClampNeg = -1
        · rw [if_pos z, if_pos z]
        · rw [if_neg z, if_neg z, R1.2.2.2.2 z]
      have er : raF mar mt ms mg mf tel c.toNatClampNeg = raF mar top str gho ghs tel c.toNatClampNeg := by
        unfold raF
        rw [es, ef, ag_eq (fun j hj => (R.1 j hj).1) (fun j hj => (R.1 j hj).2.2.2.1) hc 6 (by omega)]
      unfold rgA at b e
      rw [er, ← es] at e
      rcases b with ⟨z, b⟩ | ⟨z, b⟩
      · rcases e with ⟨w, e⟩ | ⟨w, e⟩
        · rw [b, e]
        · exfalso; omega
      · rcases e with ⟨w, e⟩ | ⟨w, e⟩
        · exfalso; omega
        · rcases b with ⟨p1, b⟩ | ⟨p1, b⟩
          · rcases e with ⟨p2, e⟩ | ⟨p2, e⟩
            · exact Int32.toInt_inj.mp (b.trans e.symm)
            · exfalso; omega
          · rcases e with ⟨p2, e⟩ | ⟨p2, e⟩
            · exfalso; omega
            · exact Int32.toInt_inj.mp (b.trans e.symm)
theorem sx_pos {c : Int32} {V S X : Int} (h : c = -1) (hV : V = S) : V = S + (if c = -1 then 0 else X) := by rw [if_pos h, hV]; omega
theorem sx_neg {c : Int32} {V S X : Int} (h : ¬ c = -1) (hV : V = S + X) : V = S + (if c = -1 then 0 else X) := by rw [if_neg h, hV]
set_option maxHeartbeats 4000000 in
set_option maxRecDepth 100000 in
theorem k_X9_commonDivisor2 (l : Launch) (dC : Nat → ClassId) (dI : Nat → Nat → Nat) (cI cZ cQ : ClassId) (x : Int32) (y : Int32) (q0 : 0 ≤ x.toInt) (q1 : x.toInt ≤ 1000) (q2 : 0 ≤ y.toInt) (q3 : y.toInt ≤ 1000) : KR l yX9_commonDivisor wsX9_commonDivisor { frames := 1, cells := 0, slots := 0, locals := 24 } (dC, dI) (TY cI cZ cQ) (wNil cI cZ cQ) [.int x, .int y] (fun r : Int32 => (r.toInt = gcF x.toInt y.toInt) ∧ (0 ≤ r.toInt) ∧ (r.toInt ≤ 1000)) := by
  refine Met.ofW (cc := cX9_commonDivisor) (maxL := 6) (ret := (some .int)) (by decide) rfl ?_
  intro p e s m args below meth c s₁ B hml hv
  obtain ⟨rfl, hP, hK, hN⟩ := hv
  have hx := B.exec
  have hb := B.bytes
  have hr := B.returns
  have hts := atoms_spec (ws := wsX9_commonDivisor) B.pre
  have hown : s.vm.findClass RX9 = some m.cls := findClass_of_methodNamed B.named
  have hlocks := B.notSynchronized
  have hl := lv_entry ([.int x, .int y]) (n := 6) (Nat.le_of_ble_eq_true rfl)
  rw [lg_entry_eq]
  generalize (lg_sl ([.int x, .int y]) ++ List.replicate (6 - (lg_sl ([.int x, .int y])).length) Slot.unset).toArray = ls at hl ⊢
  have hl : lv_has ls 6 [(0, .int x), (1, .int y)] := hl
  refine lv_iload_n hx hb dX9_commonDivisor_0 rfl (lv_at hl 0 rfl) ?_
  refine lv_iload_n hx hb dX9_commonDivisor_1 rfl (lv_at hl 1 rfl) ?_
  refine va_mmax hx hb (by rw [hml]; exact hl.1.symm) hown (hts (.methodLink RX9 280 Lib.Math.max.name) (List.mem_cons_of_mem _ (List.mem_of_getElem? (i := 0) rfl))) (hts (.static Lib.Math.max.name) (List.mem_cons_of_mem _ (List.mem_of_getElem? (i := 1) rfl))) (hts (.initialized "java/lang/Math") (List.mem_cons_of_mem _ (List.mem_of_getElem? (i := 2) rfl))) (hts (.code Lib.Math.max.name Lib.Math.max.code 2 (some .int)) (List.mem_cons_of_mem _ (List.mem_of_getElem? (i := 3) rfl))) (Nat.le_of_ble_eq_true rfl) (Nat.le_of_ble_eq_true rfl) (Nat.le_of_ble_eq_true rfl) (Nat.le_of_ble_eq_true rfl) dX9_commonDivisor_2 ?_
  have f1 : (if x < y then y else x : Int32).toInt = max (x.toInt) (y.toInt) := maxC rfl rfl
  refine lv_topi (fun x2 ex2 => ?_)
  have ix2 : x2.toInt = max (x.toInt) (y.toInt) := by rw [ex2]; exact f1
  refine lv_istore_n (lv' := [(2, .int x2), (0, .int x), (1, .int y)]) hx hb dX9_commonDivisor_5 rfl hl (by decide) rfl (fun ls hl => ?_)
  refine lv_iload_n hx hb dX9_commonDivisor_6 rfl (lv_at hl 1 rfl) ?_
  refine lv_iload_n hx hb dX9_commonDivisor_7 rfl (lv_at hl 2 rfl) ?_
  refine va_mmin hx hb (by rw [hml]; exact hl.1.symm) hown (hts (.methodLink RX9 285 Lib.Math.min.name) (List.mem_cons_of_mem _ (List.mem_of_getElem? (i := 4) rfl))) (hts (.static Lib.Math.min.name) (List.mem_cons_of_mem _ (List.mem_of_getElem? (i := 5) rfl))) (hts (.initialized "java/lang/Math") (List.mem_cons_of_mem _ (List.mem_of_getElem? (i := 2) rfl))) (hts (.code Lib.Math.min.name Lib.Math.min.code 2 (some .int)) (List.mem_cons_of_mem _ (List.mem_of_getElem? (i := 6) rfl))) (Nat.le_of_ble_eq_true rfl) (Nat.le_of_ble_eq_true rfl) (Nat.le_of_ble_eq_true rfl) (Nat.le_of_ble_eq_true rfl) dX9_commonDivisor_8 ?_
  have f3 : (if y < x then y else x : Int32).toInt = min (x.toInt) (y.toInt) := minC rfl rfl
  refine lv_topi (fun x4 ex4 => ?_)
  have ix4 : x4.toInt = min (x.toInt) (y.toInt) := by rw [ex4]; exact f3
  refine lv_istore_n (lv' := [(3, .int x4), (2, .int x2), (0, .int x), (1, .int y)]) hx hb dX9_commonDivisor_11 rfl hl (by decide) rfl (fun ls hl => ?_)
  refine lv_iconst (v := 0) hx hb dX9_commonDivisor_12 (by decide) ?_
  refine lv_istore (lv' := [(4, .int 0), (3, .int x4), (2, .int x2), (0, .int x), (1, .int y)]) hx hb dX9_commonDivisor_13 hl (by decide) rfl (fun ls hl => ?_)
  have L15 : ∀ (nn : Nat) (y15_2 : Int32) (y15_3 : Int32) (y15_4 : Int32) (ls : Array Slot), (0 ≤ (y15_4.toInt)) → ((y15_4.toInt) ≤ 64) → (0 ≤ (y15_2.toInt)) → ((y15_2.toInt) ≤ 1000) → (0 ≤ (y15_3.toInt)) → ((y15_3.toInt) ≤ 1000) → (gcI x.toInt y.toInt (y15_2.toInt) (y15_3.toInt) (y15_4.toInt)) → (64 - (y15_4.toInt)).toNat < nn → lv_has ls 6 [(2, .int y15_2), (3, .int y15_3), (4, .int y15_4)] → W p l e (headSpec wsX9_commonDivisor { frames := 1, cells := 0, slots := 0, locals := 24 }).room s m ([.int x, .int y] : List Value).toArray below meth c s.heap [] 0 0 (MQ below (QR (fun r : Int32 => (r.toInt = gcF x.toInt y.toInt) ∧ (0 ≤ r.toInt) ∧ (r.toInt ≤ 1000))) ([.int x, .int y] : List Value).toArray s 0 0 (fun _ => False)) (F0 m 15 ls []) := by
    intro nn
    induction nn with
    | zero =>
      intro y15_2 y15_3 y15_4 ls i15_0 i15_1 i15_2 i15_3 i15_4 i15_5 i15_6 hm15
      exact absurd hm15 (Nat.not_lt_zero _)
    | succ nn ih15 =>
      intro y15_2 y15_3 y15_4 ls i15_0 i15_1 i15_2 i15_3 i15_4 i15_5 i15_6 hm15 hl
      refine lv_iload hx hb dX9_commonDivisor_15 (lv_at hl 2 rfl) ?_
      refine lv_bipush (v := 64) hx hb dX9_commonDivisor_17 (by decide) ?_
      refine lv_icmp_ge (tgt := 42) hx hb dX9_commonDivisor_19 (by decide) (fun c5 => ?_) (fun c5 => ?_)
      · have dc5 : 64 ≤ y15_4.toInt := leC (show (64 : Int32).toInt = 64 from rfl) rfl c5
        refine lv_iload_n hx hb dX9_commonDivisor_42 rfl (lv_at hl 0 rfl) ?_
        exact W.iret (v := y15_2) hx hb hr (fun tq ht hW => ⟨y15_2, rfl, ⟨(show y15_2.toInt = gcF x.toInt y.toInt from by (exact gc_end i15_6 (by omega))), (show 0 ≤ y15_2.toInt from by omega), (show y15_2.toInt ≤ 1000 from by omega)⟩, ht⟩) (fun q h => by cases h) dX9_commonDivisor_43
      · have dc5 : y15_4.toInt < 64 := nleC (show (64 : Int32).toInt = 64 from rfl) rfl c5
        refine lv_iload_n hx hb dX9_commonDivisor_22 rfl (lv_at hl 1 rfl) ?_
        refine lv_if_le (tgt := 42) hx hb dX9_commonDivisor_23 (by decide) (fun c6 => ?_) (fun c6 => ?_)
        · have dc6 : y15_3.toInt ≤ 0 := leC rfl (show (0 : Int32).toInt = 0 from rfl) c6
          refine lv_iload_n hx hb dX9_commonDivisor_42 rfl (lv_at hl 0 rfl) ?_
          exact W.iret (v := y15_2) hx hb hr (fun tq ht hW => ⟨y15_2, rfl, ⟨(show y15_2.toInt = gcF x.toInt y.toInt from by (exact gc_end i15_6 (by omega))), (show 0 ≤ y15_2.toInt from by omega), (show y15_2.toInt ≤ 1000 from by omega)⟩, ht⟩) (fun q h => by cases h) dX9_commonDivisor_43
        · have dc6 : 0 < y15_3.toInt := nleC rfl (show (0 : Int32).toInt = 0 from rfl) c6
          refine lv_iload_n hx hb dX9_commonDivisor_26 rfl (lv_at hl 0 rfl) ?_
          refine lv_iload_n hx hb dX9_commonDivisor_27 rfl (lv_at hl 1 rfl) ?_
          refine lv_irem hx hb dX9_commonDivisor_28 (n0C rfl (by omega)) ?_
          have f7 : (y15_2 - y15_2 / y15_3 * y15_3).toInt = (y15_2.toInt) % (y15_3.toInt) := remC rfl rfl (by omega) (by omega)
          have f8 : 0 ≤ (y15_2.toInt) % (y15_3.toInt) := Int.emod_nonneg _ (by omega)
          have f9 : (y15_2.toInt) % (y15_3.toInt) < y15_3.toInt := Int.emod_lt_of_pos _ (by omega)
          refine lv_topi (fun x10 ex10 => ?_)
          have ix10 : x10.toInt = (y15_2.toInt) % (y15_3.toInt) := by rw [ex10]; exact f7
          refine lv_istore (lv' := [(5, .int x10), (2, .int y15_2), (3, .int y15_3), (4, .int y15_4)]) hx hb dX9_commonDivisor_29 hl (by decide) rfl (fun ls hl => ?_)
          refine lv_iload_n hx hb dX9_commonDivisor_31 rfl (lv_at hl 2 rfl) ?_
          refine lv_istore_n (lv' := [(2, .int y15_3), (5, .int x10), (3, .int y15_3), (4, .int y15_4)]) hx hb dX9_commonDivisor_32 rfl hl (by decide) rfl (fun ls hl => ?_)
          refine lv_iload hx hb dX9_commonDivisor_33 (lv_at hl 1 rfl) ?_
          refine lv_istore_n (lv' := [(3, .int x10), (2, .int y15_3), (5, .int x10), (4, .int y15_4)]) hx hb dX9_commonDivisor_35 rfl hl (by decide) rfl (fun ls hl => ?_)
          obtain ⟨z11, ez11⟩ : ∃ y : Int32, y = y15_4 + 1 := ⟨_, rfl⟩
          have iz11 : z11.toInt = y15_4.toInt + 1 := by rw [ez11]; exact addC rfl rfl (by omega) (by omega)
          refine lv_iinc (v := z11) (lv' := [(4, .int z11), (3, .int x10), (2, .int y15_3), (5, .int x10)]) hx hb dX9_commonDivisor_36 hl (k := 3) rfl (by rw [ez11]; rfl) (by decide) rfl (fun ls hl => ?_)
          refine lv_goto (tgt := 15) hx hb dX9_commonDivisor_39 (by decide) ?_
          exact ih15 y15_3 x10 z11 _ (by omega) (by omega) (by omega) (by omega) (by omega) (by omega) (by (first | exact gc_step i15_6 (by omega) (by first | rfl | omega) (by omega) (by omega) (by omega) | exact gc_init (by assumption) (by assumption) (by omega) (by omega) (by omega) (by omega) (by first | rfl | omega))) (by omega) (lv_sub hl [2, 1, 0] rfl)
  have kc12 : (0 : Int32).toInt = 0 := rfl
  exact L15 _ x2 x4 0 _ (by omega) (by omega) (by omega) (by omega) (by omega) (by omega) (by (first | exact gc_init (by assumption) (by assumption) (by omega) (by omega) (by omega) (by omega) (by first | rfl | omega) | exact gc_step i15_6 (by omega) (by first | rfl | omega) (by omega) (by omega) (by omega))) (Nat.lt_succ_self _) (lv_sub hl [2, 1, 0] rfl)
set_option maxHeartbeats 4000000 in
set_option maxRecDepth 100000 in
theorem k_X1_strengthAgainst2 (l : Launch) (dC : Nat → ClassId) (dI : Nat → Nat → Nat) (cI cZ cQ : ClassId) (a : Nat → Nat) (top : Nat → Int32) (str : Nat → Int32) (gho : Nat → Int32) (ghs : Nat → Int32) (pto : Nat → Int32) (cro : Nat → Int32) (pla : Nat → Int32) (wal : Nat → Int32) (fal : Nat → Int32) (tel : Int32) (gai : Int32) (day : Int32) (mar : Nat → Int32) (co : Int32) (r_top : rg 48 (-1) (23) top) (r_str : rg 48 (0) (100) str) (r_gho : rg 48 (-1) (23) gho) (r_ghs : rg 48 (0) (100) ghs) (r_cro : rg 48 (0) (6) cro) (r_pla : rg 24 (-1) (47) pla) (r_fal : rg 11 (0) (30) fal) (r_gai : 0 ≤ gai.toInt ∧ gai.toInt ≤ 100) (r_day : 0 ≤ day.toInt ∧ day.toInt ≤ 400) (r_mar : rg 24 (0) (255) mar) (q0 : 0 ≤ co.toInt) (q1 : co.toInt ≤ 47) : KR l yX1_strengthAgainst wsX1_strengthAgainst { frames := 4, cells := 0, slots := 0, locals := 86 } (dC, dI) (TY cI cZ cQ) (wCor cI cZ cQ a top str gho ghs pto cro pla wal fal tel gai day mar) [.ref (a 4), .int co] (fun r : Int32 => (0 ≤ r.toInt) ∧ (r.toInt ≤ 700) ∧ (r.toInt = fnt gho ghs co.toNatClampNeg + agF mar top str tel co.toNatClampNeg (co.toNatClampNeg - co.toNatClampNeg % 6) 6)) := by
  refine Met.ofW (cc := cX1_strengthAgainst) (maxL := 5) (ret := (some .int)) (by decide) rfl ?_
  intro p e s m args below meth c s₁ B hml hv
  obtain ⟨rfl, hP, hK, hN⟩ := hv
  have hx := B.exec
  have hb := B.bytes
  have hr := B.returns
  have hts := atoms_spec (ws := wsX1_strengthAgainst) B.pre
  have hown : s.vm.findClass RX1 = some m.cls := findClass_of_methodNamed B.named
  have hlocks := B.notSynchronized
  have lf18 := hts (.fieldLink RX1 18 "PalaceOfRooms$Corners" "ghost" "[I") (List.mem_cons_of_mem _ (List.mem_append_left _ (List.mem_append_left _ (List.mem_append_left _ (List.mem_of_getElem? (i := 0) rfl)))))
  have inX1 : ∀ w ∈ wsX10, w ∈ wsX1_strengthAgainst := fun w h => List.mem_cons_of_mem _ (List.mem_append_left _ (List.mem_append_right _ h))
  have lf21 := hts (.fieldLink RX1 21 "PalaceOfRooms$Corners" "ghostStrength" "[I") (List.mem_cons_of_mem _ (List.mem_append_left _ (List.mem_append_left _ (List.mem_append_left _ (List.mem_of_getElem? (i := 1) rfl)))))
  have lf15 := hts (.fieldLink RX1 15 "PalaceOfRooms$Corners" "strength" "[I") (List.mem_cons_of_mem _ (List.mem_append_left _ (List.mem_append_left _ (List.mem_append_left _ (List.mem_of_getElem? (i := 2) rfl)))))
  have hl := lv_entry ([.ref (a 4), .int co]) (n := 5) (Nat.le_of_ble_eq_true rfl)
  rw [lg_entry_eq]
  generalize (lg_sl ([.ref (a 4), .int co]) ++ List.replicate (5 - (lg_sl ([.ref (a 4), .int co])).length) Slot.unset).toArray = ls at hl ⊢
  have hl : lv_has ls 5 [(0, .ref (a 4)), (1, .int co)] := hl
  refine lv_aload_n hx hb dX1_strengthAgainst_0 rfl (lv_at hl 0 rfl) ?_
  refine va_get (D := (dC, dI)) (ci := 1) (v := .ref (a 7)) (C := RX1) (T := TX1) (N := 13) hx hb hts inX1 hown hK hP 0 rfl rfl 3 (by decide) lf18 (fun _ h9 => h9) rfl dX1_strengthAgainst_1 ?_
  refine lv_iload_n hx hb dX1_strengthAgainst_4 rfl (lv_at hl 1 rfl) ?_
  have b1 : vp_in co 48 := inC rfl (by omega) (by omega)
  refine va_iald hx hb hK hP 3 0 rfl rfl b1 dX1_strengthAgainst_5 ?_
  have g2 : -1 ≤ (gho co.toNatClampNeg).toInt ∧ (gho co.toNatClampNeg).toInt ≤ 23 := rg_at r_gho b1
  refine lv_iconst (v := (-1)) hx hb dX1_strengthAgainst_6 (by decide) ?_
  refine lv_icmp_ne (tgt := 14) hx hb dX1_strengthAgainst_7 (by decide) (fun c3 => ?_) (fun c3 => ?_)
  · have dc3 : 0 ≤ (gho co.toNatClampNeg).toInt := ka_lo (by omega) (neC rfl (show ((-1) : Int32).toInt = (-1) from rfl) c3)
    refine lv_aload_n hx hb dX1_strengthAgainst_14 rfl (lv_at hl 0 rfl) ?_
    refine va_get (D := (dC, dI)) (ci := 1) (v := .ref (a 8)) (C := RX1) (T := TX1) (N := 13) hx hb hts inX1 hown hK hP 0 rfl rfl 4 (by decide) lf21 (fun _ h9 => h9) rfl dX1_strengthAgainst_15 ?_
    refine lv_iload_n hx hb dX1_strengthAgainst_18 rfl (lv_at hl 1 rfl) ?_
    have b4 : vp_in co 48 := inC rfl (by omega) (by omega)
    refine va_iald hx hb hK hP 4 0 rfl rfl b4 dX1_strengthAgainst_19 ?_
    have g5 : 0 ≤ (ghs co.toNatClampNeg).toInt ∧ (ghs co.toNatClampNeg).toInt ≤ 100 := rg_at r_ghs b4
    refine lv_topi (fun x6 ex6 => ?_)
    have ix6 : x6.toInt = (ghs co.toNatClampNeg).toInt := by rw [ex6]
    refine lv_istore_n (lv' := [(2, .int x6), (0, .ref (a 4)), (1, .int co)]) hx hb dX1_strengthAgainst_20 rfl hl (by decide) rfl (fun ls hl => ?_)
    refine lv_iload_n hx hb dX1_strengthAgainst_21 rfl (lv_at hl 2 rfl) ?_
    refine lv_iload_n hx hb dX1_strengthAgainst_22 rfl (lv_at hl 2 rfl) ?_
    refine lv_bipush (v := 6) hx hb dX1_strengthAgainst_23 (by decide) ?_
    refine lv_irem hx hb dX1_strengthAgainst_25 (by decide) ?_
    have f7 : (co - co / 6 * 6).toInt = (co.toInt) % (6) := remC rfl (show (6 : Int32).toInt = 6 from rfl) (by omega) (by omega)
    refine lv_isub hx hb dX1_strengthAgainst_26 ?_
    have f8 : (co - (co - co / 6 * 6)).toInt = (co.toInt) - ((co.toInt) % (6)) := subC rfl f7 (by omega) (by omega)
    refine lv_topi (fun x9 ex9 => ?_)
    have ix9 : x9.toInt = (co.toInt) - ((co.toInt) % (6)) := by rw [ex9]; exact f8
    refine lv_istore_n (lv' := [(3, .int x9), (2, .int x6), (0, .ref (a 4)), (1, .int co)]) hx hb dX1_strengthAgainst_27 rfl hl (by decide) rfl (fun ls hl => ?_)
    refine lv_iload_n hx hb dX1_strengthAgainst_28 rfl (lv_at hl 0 rfl) ?_
    refine lv_istore (lv' := [(4, .int x9), (3, .int x9), (2, .int x6), (0, .ref (a 4)), (1, .int co)]) hx hb dX1_strengthAgainst_29 hl (by decide) rfl (fun ls hl => ?_)
    have L31 : ∀ (nn : Nat) (y31_2 : Int32) (y31_4 : Int32) (ls : Array Slot), (-5 ≤ (y31_4.toInt)) → ((y31_4.toInt) ≤ 53) → ((x9.toInt) ≤ (y31_4.toInt)) → ((y31_4.toInt) ≤ (x9.toInt) + 6) → (0 ≤ (y31_2.toInt)) → ((y31_2.toInt) ≤ 100 + 100 * ((y31_4.toInt) - (x9.toInt))) → ((y31_2.toInt) ≤ 700) → ((y31_2.toInt) = fnt gho ghs co.toNatClampNeg + agF mar top str tel co.toNatClampNeg x9.toNatClampNeg ((y31_4.toInt) - (x9.toInt)).toNat) → (53 - (y31_4.toInt)).toNat < nn → lv_has ls 5 [(0, .ref (a 4)), (1, .int co), (2, .int y31_2), (3, .int x9), (4, .int y31_4)] → W p l e (headSpec wsX1_strengthAgainst { frames := 4, cells := 0, slots := 0, locals := 86 }).room s m ([.ref (a 4), .int co] : List Value).toArray below meth c s.heap [] 0 0 (MQ below (QR (fun r : Int32 => (0 ≤ r.toInt) ∧ (r.toInt ≤ 700) ∧ (r.toInt = fnt gho ghs co.toNatClampNeg + agF mar top str tel co.toNatClampNeg (co.toNatClampNeg - co.toNatClampNeg % 6) 6))) ([.ref (a 4), .int co] : List Value).toArray s 0 0 (fun _ => False)) (F0 m 31 ls []) := by
      intro nn
      induction nn with
      | zero =>
        intro y31_2 y31_4 ls i31_0 i31_1 i31_2 i31_3 i31_4 i31_5 i31_6 i31_7 hm31
        exact absurd hm31 (Nat.not_lt_zero _)
      | succ nn ih31 =>
        intro y31_2 y31_4 ls i31_0 i31_1 i31_2 i31_3 i31_4 i31_5 i31_6 i31_7 hm31 hl
        refine lv_iload hx hb dX1_strengthAgainst_31 (lv_at hl 4 rfl) ?_
        refine lv_iload_n hx hb dX1_strengthAgainst_33 rfl (lv_at hl 3 rfl) ?_
        refine lv_bipush (v := 6) hx hb dX1_strengthAgainst_34 (by decide) ?_
        refine lv_iadd hx hb dX1_strengthAgainst_36 ?_
        have f10 : (x9 + 6).toInt = (x9.toInt) + (6) := addC rfl (show (6 : Int32).toInt = 6 from rfl) (by omega) (by omega)
        refine lv_icmp_ge (tgt := 66) hx hb dX1_strengthAgainst_37 (by decide) (fun c11 => ?_) (fun c11 => ?_)
        · have dc11 : (x9.toInt) + (6) ≤ y31_4.toInt := leC f10 rfl c11
          refine lv_iload_n hx hb dX1_strengthAgainst_66 rfl (lv_at hl 2 rfl) ?_
          exact W.iret (v := y31_2) hx hb hr (fun tq ht hW => ⟨y31_2, rfl, ⟨(show 0 ≤ y31_2.toInt from by omega), (show y31_2.toInt ≤ 700 from by omega), (show y31_2.toInt = fnt gho ghs co.toNatClampNeg + agF mar top str tel co.toNatClampNeg (co.toNatClampNeg - co.toNatClampNeg % 6) 6 from by (exact ag_end i31_7 (by omega) (by omega) (by omega)))⟩, ht⟩) (fun q h => by cases h) dX1_strengthAgainst_67
        · have dc11 : y31_4.toInt < (x9.toInt) + (6) := nleC f10 rfl c11
          refine lv_aload_n hx hb dX1_strengthAgainst_40 rfl (lv_at hl 0 rfl) ?_
          refine lv_iload hx hb dX1_strengthAgainst_41 (lv_at hl 4 rfl) ?_
          refine lv_iload_n hx hb dX1_strengthAgainst_43 rfl (lv_at hl 1 rfl) ?_
          refine rdV (As := [.int y31_4, .int co]) (rest := []) ⟨hx, hb, hml, hown, hts⟩ (k_X1_crowds2 l dC dI cI cZ cQ a top str gho ghs pto cro pla wal fal tel gai day mar y31_4 co r_top r_str r_gho r_ghs r_cro r_pla r_fal r_gai r_day r_mar (by omega) (by omega) (by omega) (by omega)) (cwV 2 hts gX1_strengthAgainst_X1_crowds rfl rfl rfl (by decide +kernel) ⟨Nat.le_of_ble_eq_true rfl, Nat.le_of_ble_eq_true rfl⟩) hP hK hN [0, 1, 2, 3, 4, 5, 6, 7, 8, 9, 10, 11] rfl 0 1 rfl rfl rfl hl.1 rfl (Nat.le_of_ble_eq_true rfl) dX1_strengthAgainst_44 ⟨Nat.le_of_ble_eq_true rfl, Nat.le_of_ble_eq_true rfl⟩ (fun r12 h13 => ?_)
          have h13 : ((((r12 = 1) ∧ (crdB mar top tel y31_4.toNatClampNeg co.toNatClampNeg = true)) ∨ ((r12 = 0) ∧ (crdB mar top tel y31_4.toNatClampNeg co.toNatClampNeg = false)))) := h13
          rcases h13 with (⟨rfl, h13_a0⟩ | ⟨rfl, h13_a0⟩)
          · refine lv_if_eq (tgt := 60) hx hb dX1_strengthAgainst_47 (by decide) (fun c9 => absurd c9 (by decide)) (fun _ => ?_)
            refine lv_iload_n hx hb dX1_strengthAgainst_50 rfl (lv_at hl 2 rfl) ?_
            refine lv_aload_n hx hb dX1_strengthAgainst_51 rfl (lv_at hl 0 rfl) ?_
            refine va_get (D := (dC, dI)) (ci := 1) (v := .ref (a 6)) (C := RX1) (T := TX1) (N := 13) hx hb hts inX1 hown hK hP 0 rfl rfl 2 (by decide) lf15 (fun _ h9 => h9) rfl dX1_strengthAgainst_52 ?_
            refine lv_iload hx hb dX1_strengthAgainst_55 (lv_at hl 4 rfl) ?_
            have b14 : vp_in y31_4 48 := inC rfl (by omega) (by omega)
            refine va_iald hx hb hK hP 2 0 rfl rfl b14 dX1_strengthAgainst_57 ?_
            have g15 : 0 ≤ (str y31_4.toNatClampNeg).toInt ∧ (str y31_4.toNatClampNeg).toInt ≤ 100 := rg_at r_str b14
            refine lv_iadd hx hb dX1_strengthAgainst_58 ?_
            have f16 : (y31_2 + (str y31_4.toNatClampNeg)).toInt = (y31_2.toInt) + ((str y31_4.toNatClampNeg).toInt) := addC rfl rfl (by omega) (by omega)
            refine lv_topi (fun x17 ex17 => ?_)
            have ix17 : x17.toInt = (y31_2.toInt) + ((str y31_4.toNatClampNeg).toInt) := by rw [ex17]; exact f16
            refine lv_istore_n (lv' := [(2, .int x17), (0, .ref (a 4)), (1, .int co), (3, .int x9), (4, .int y31_4)]) hx hb dX1_strengthAgainst_59 rfl hl (by decide) rfl (fun ls hl => ?_)
            obtain ⟨z18, ez18⟩ : ∃ y : Int32, y = y31_4 + 1 := ⟨_, rfl⟩
            have iz18 : z18.toInt = y31_4.toInt + 1 := by rw [ez18]; exact addC rfl rfl (by omega) (by omega)
            refine lv_iinc (v := z18) (lv' := [(4, .int z18), (2, .int x17), (0, .ref (a 4)), (1, .int co), (3, .int x9)]) hx hb dX1_strengthAgainst_60 hl (k := 4) rfl (by rw [ez18]; rfl) (by decide) rfl (fun ls hl => ?_)
            refine lv_goto (tgt := 31) hx hb dX1_strengthAgainst_63 (by decide) ?_
            exact ih31 x17 z18 _ (by omega) (by omega) (by omega) (by omega) (by omega) (by omega) (by omega) (by (first | exact ag_yes i31_7 (by assumption) (by omega) (by omega) (by omega) (by omega) (by omega) | exact ag_no i31_7 (by assumption) (by first | rfl | omega) (by omega) (by omega) (by omega) (by omega) | exact ag_init (by first | exact it_pos (by assumption) (by first | rfl | omega) | exact it_neg (by assumption) (by first | assumption | omega)) (by omega))) (by omega) (lv_sub hl [2, 3, 1, 4, 0] rfl)
          · refine lv_if_eq (tgt := 60) hx hb dX1_strengthAgainst_47 (by decide) (fun _ => ?_) (fun c9 => absurd (by decide) c9)
            obtain ⟨z19, ez19⟩ : ∃ y : Int32, y = y31_4 + 1 := ⟨_, rfl⟩
            have iz19 : z19.toInt = y31_4.toInt + 1 := by rw [ez19]; exact addC rfl rfl (by omega) (by omega)
            refine lv_iinc (v := z19) (lv' := [(4, .int z19), (0, .ref (a 4)), (1, .int co), (2, .int y31_2), (3, .int x9)]) hx hb dX1_strengthAgainst_60 hl (k := 4) rfl (by rw [ez19]; rfl) (by decide) rfl (fun ls hl => ?_)
            refine lv_goto (tgt := 31) hx hb dX1_strengthAgainst_63 (by decide) ?_
            exact ih31 y31_2 z19 _ (by omega) (by omega) (by omega) (by omega) (by omega) (by omega) (by omega) (by (first | exact ag_yes i31_7 (by assumption) (by omega) (by omega) (by omega) (by omega) (by omega) | exact ag_no i31_7 (by assumption) (by first | rfl | omega) (by omega) (by omega) (by omega) (by omega) | exact ag_init (by first | exact it_pos (by assumption) (by first | rfl | omega) | exact it_neg (by assumption) (by first | assumption | omega)) (by omega))) (by omega) (lv_sub hl [1, 2, 3, 4, 0] rfl)
    exact L31 _ x6 x9 _ (by omega) (by omega) (by omega) (by omega) (by omega) (by omega) (by omega) (by (first | exact ag_init (by first | exact it_pos (by assumption) (by first | rfl | omega) | exact it_neg (by assumption) (by first | assumption | omega)) (by omega) | exact ag_yes i31_7 (by assumption) (by omega) (by omega) (by omega) (by omega) (by omega) | exact ag_no i31_7 (by assumption) (by first | rfl | omega) (by omega) (by omega) (by omega) (by omega))) (Nat.lt_succ_self _) (lv_sub hl [3, 4, 2, 1, 0] rfl)
  · have dc3 : (gho co.toNatClampNeg).toInt = (-1) := eqC rfl (show ((-1) : Int32).toInt = (-1) from rfl) c3
    refine lv_iconst (v := 0) hx hb dX1_strengthAgainst_10 (by decide) ?_
    refine lv_goto (tgt := 20) hx hb dX1_strengthAgainst_11 (by decide) ?_
    refine lv_istore_n (lv' := [(2, .int 0), (0, .ref (a 4)), (1, .int co)]) hx hb dX1_strengthAgainst_20 rfl hl (by decide) rfl (fun ls hl => ?_)
    refine lv_iload_n hx hb dX1_strengthAgainst_21 rfl (lv_at hl 2 rfl) ?_
    refine lv_iload_n hx hb dX1_strengthAgainst_22 rfl (lv_at hl 2 rfl) ?_
    refine lv_bipush (v := 6) hx hb dX1_strengthAgainst_23 (by decide) ?_
    refine lv_irem hx hb dX1_strengthAgainst_25 (by decide) ?_
    have f20 : (co - co / 6 * 6).toInt = (co.toInt) % (6) := remC rfl (show (6 : Int32).toInt = 6 from rfl) (by omega) (by omega)
    refine lv_isub hx hb dX1_strengthAgainst_26 ?_
    have f21 : (co - (co - co / 6 * 6)).toInt = (co.toInt) - ((co.toInt) % (6)) := subC rfl f20 (by omega) (by omega)
    refine lv_topi (fun x22 ex22 => ?_)
    have ix22 : x22.toInt = (co.toInt) - ((co.toInt) % (6)) := by rw [ex22]; exact f21
    refine lv_istore_n (lv' := [(3, .int x22), (2, .int 0), (0, .ref (a 4)), (1, .int co)]) hx hb dX1_strengthAgainst_27 rfl hl (by decide) rfl (fun ls hl => ?_)
    refine lv_iload_n hx hb dX1_strengthAgainst_28 rfl (lv_at hl 0 rfl) ?_
    refine lv_istore (lv' := [(4, .int x22), (3, .int x22), (2, .int 0), (0, .ref (a 4)), (1, .int co)]) hx hb dX1_strengthAgainst_29 hl (by decide) rfl (fun ls hl => ?_)
    have L31 : ∀ (nn : Nat) (y31_2 : Int32) (y31_4 : Int32) (ls : Array Slot), (-5 ≤ (y31_4.toInt)) → ((y31_4.toInt) ≤ 53) → ((x22.toInt) ≤ (y31_4.toInt)) → ((y31_4.toInt) ≤ (x22.toInt) + 6) → (0 ≤ (y31_2.toInt)) → ((y31_2.toInt) ≤ 100 + 100 * ((y31_4.toInt) - (x22.toInt))) → ((y31_2.toInt) ≤ 700) → ((y31_2.toInt) = fnt gho ghs co.toNatClampNeg + agF mar top str tel co.toNatClampNeg x22.toNatClampNeg ((y31_4.toInt) - (x22.toInt)).toNat) → (53 - (y31_4.toInt)).toNat < nn → lv_has ls 5 [(0, .ref (a 4)), (1, .int co), (2, .int y31_2), (3, .int x22), (4, .int y31_4)] → W p l e (headSpec wsX1_strengthAgainst { frames := 4, cells := 0, slots := 0, locals := 86 }).room s m ([.ref (a 4), .int co] : List Value).toArray below meth c s.heap [] 0 0 (MQ below (QR (fun r : Int32 => (0 ≤ r.toInt) ∧ (r.toInt ≤ 700) ∧ (r.toInt = fnt gho ghs co.toNatClampNeg + agF mar top str tel co.toNatClampNeg (co.toNatClampNeg - co.toNatClampNeg % 6) 6))) ([.ref (a 4), .int co] : List Value).toArray s 0 0 (fun _ => False)) (F0 m 31 ls []) := by
      intro nn
      induction nn with
      | zero =>
        intro y31_2 y31_4 ls i31_0 i31_1 i31_2 i31_3 i31_4 i31_5 i31_6 i31_7 hm31
        exact absurd hm31 (Nat.not_lt_zero _)
      | succ nn ih31 =>
        intro y31_2 y31_4 ls i31_0 i31_1 i31_2 i31_3 i31_4 i31_5 i31_6 i31_7 hm31 hl
        refine lv_iload hx hb dX1_strengthAgainst_31 (lv_at hl 4 rfl) ?_
        refine lv_iload_n hx hb dX1_strengthAgainst_33 rfl (lv_at hl 3 rfl) ?_
        refine lv_bipush (v := 6) hx hb dX1_strengthAgainst_34 (by decide) ?_
        refine lv_iadd hx hb dX1_strengthAgainst_36 ?_
        have f23 : (x22 + 6).toInt = (x22.toInt) + (6) := addC rfl (show (6 : Int32).toInt = 6 from rfl) (by omega) (by omega)
        refine lv_icmp_ge (tgt := 66) hx hb dX1_strengthAgainst_37 (by decide) (fun c24 => ?_) (fun c24 => ?_)
        · have dc24 : (x22.toInt) + (6) ≤ y31_4.toInt := leC f23 rfl c24
          refine lv_iload_n hx hb dX1_strengthAgainst_66 rfl (lv_at hl 2 rfl) ?_
          exact W.iret (v := y31_2) hx hb hr (fun tq ht hW => ⟨y31_2, rfl, ⟨(show 0 ≤ y31_2.toInt from by omega), (show y31_2.toInt ≤ 700 from by omega), (show y31_2.toInt = fnt gho ghs co.toNatClampNeg + agF mar top str tel co.toNatClampNeg (co.toNatClampNeg - co.toNatClampNeg % 6) 6 from by (exact ag_end i31_7 (by omega) (by omega) (by omega)))⟩, ht⟩) (fun q h => by cases h) dX1_strengthAgainst_67
        · have dc24 : y31_4.toInt < (x22.toInt) + (6) := nleC f23 rfl c24
          refine lv_aload_n hx hb dX1_strengthAgainst_40 rfl (lv_at hl 0 rfl) ?_
          refine lv_iload hx hb dX1_strengthAgainst_41 (lv_at hl 4 rfl) ?_
          refine lv_iload_n hx hb dX1_strengthAgainst_43 rfl (lv_at hl 1 rfl) ?_
          refine rdV (As := [.int y31_4, .int co]) (rest := []) ⟨hx, hb, hml, hown, hts⟩ (k_X1_crowds2 l dC dI cI cZ cQ a top str gho ghs pto cro pla wal fal tel gai day mar y31_4 co r_top r_str r_gho r_ghs r_cro r_pla r_fal r_gai r_day r_mar (by omega) (by omega) (by omega) (by omega)) (cwV 2 hts gX1_strengthAgainst_X1_crowds rfl rfl rfl (by decide +kernel) ⟨Nat.le_of_ble_eq_true rfl, Nat.le_of_ble_eq_true rfl⟩) hP hK hN [0, 1, 2, 3, 4, 5, 6, 7, 8, 9, 10, 11] rfl 0 1 rfl rfl rfl hl.1 rfl (Nat.le_of_ble_eq_true rfl) dX1_strengthAgainst_44 ⟨Nat.le_of_ble_eq_true rfl, Nat.le_of_ble_eq_true rfl⟩ (fun r25 h26 => ?_)
          have h26 : ((((r25 = 1) ∧ (crdB mar top tel y31_4.toNatClampNeg co.toNatClampNeg = true)) ∨ ((r25 = 0) ∧ (crdB mar top tel y31_4.toNatClampNeg co.toNatClampNeg = false)))) := h26
          rcases h26 with (⟨rfl, h26_a0⟩ | ⟨rfl, h26_a0⟩)
          · refine lv_if_eq (tgt := 60) hx hb dX1_strengthAgainst_47 (by decide) (fun c9 => absurd c9 (by decide)) (fun _ => ?_)
            refine lv_iload_n hx hb dX1_strengthAgainst_50 rfl (lv_at hl 2 rfl) ?_
            refine lv_aload_n hx hb dX1_strengthAgainst_51 rfl (lv_at hl 0 rfl) ?_
            refine va_get (D := (dC, dI)) (ci := 1) (v := .ref (a 6)) (C := RX1) (T := TX1) (N := 13) hx hb hts inX1 hown hK hP 0 rfl rfl 2 (by decide) lf15 (fun _ h9 => h9) rfl dX1_strengthAgainst_52 ?_
            refine lv_iload hx hb dX1_strengthAgainst_55 (lv_at hl 4 rfl) ?_
            have b27 : vp_in y31_4 48 := inC rfl (by omega) (by omega)
            refine va_iald hx hb hK hP 2 0 rfl rfl b27 dX1_strengthAgainst_57 ?_
            have g28 : 0 ≤ (str y31_4.toNatClampNeg).toInt ∧ (str y31_4.toNatClampNeg).toInt ≤ 100 := rg_at r_str b27
            refine lv_iadd hx hb dX1_strengthAgainst_58 ?_
            have f29 : (y31_2 + (str y31_4.toNatClampNeg)).toInt = (y31_2.toInt) + ((str y31_4.toNatClampNeg).toInt) := addC rfl rfl (by omega) (by omega)
            refine lv_topi (fun x30 ex30 => ?_)
            have ix30 : x30.toInt = (y31_2.toInt) + ((str y31_4.toNatClampNeg).toInt) := by rw [ex30]; exact f29
            refine lv_istore_n (lv' := [(2, .int x30), (0, .ref (a 4)), (1, .int co), (3, .int x22), (4, .int y31_4)]) hx hb dX1_strengthAgainst_59 rfl hl (by decide) rfl (fun ls hl => ?_)
            obtain ⟨z31, ez31⟩ : ∃ y : Int32, y = y31_4 + 1 := ⟨_, rfl⟩
            have iz31 : z31.toInt = y31_4.toInt + 1 := by rw [ez31]; exact addC rfl rfl (by omega) (by omega)
            refine lv_iinc (v := z31) (lv' := [(4, .int z31), (2, .int x30), (0, .ref (a 4)), (1, .int co), (3, .int x22)]) hx hb dX1_strengthAgainst_60 hl (k := 4) rfl (by rw [ez31]; rfl) (by decide) rfl (fun ls hl => ?_)
            refine lv_goto (tgt := 31) hx hb dX1_strengthAgainst_63 (by decide) ?_
            exact ih31 x30 z31 _ (by omega) (by omega) (by omega) (by omega) (by omega) (by omega) (by omega) (by (first | exact ag_yes i31_7 (by assumption) (by omega) (by omega) (by omega) (by omega) (by omega) | exact ag_no i31_7 (by assumption) (by first | rfl | omega) (by omega) (by omega) (by omega) (by omega) | exact ag_init (by first | exact it_pos (by assumption) (by first | rfl | omega) | exact it_neg (by assumption) (by first | assumption | omega)) (by omega))) (by omega) (lv_sub hl [2, 3, 1, 4, 0] rfl)
          · refine lv_if_eq (tgt := 60) hx hb dX1_strengthAgainst_47 (by decide) (fun _ => ?_) (fun c9 => absurd (by decide) c9)
            obtain ⟨z32, ez32⟩ : ∃ y : Int32, y = y31_4 + 1 := ⟨_, rfl⟩
            have iz32 : z32.toInt = y31_4.toInt + 1 := by rw [ez32]; exact addC rfl rfl (by omega) (by omega)
            refine lv_iinc (v := z32) (lv' := [(4, .int z32), (0, .ref (a 4)), (1, .int co), (2, .int y31_2), (3, .int x22)]) hx hb dX1_strengthAgainst_60 hl (k := 4) rfl (by rw [ez32]; rfl) (by decide) rfl (fun ls hl => ?_)
            refine lv_goto (tgt := 31) hx hb dX1_strengthAgainst_63 (by decide) ?_
            exact ih31 y31_2 z32 _ (by omega) (by omega) (by omega) (by omega) (by omega) (by omega) (by omega) (by (first | exact ag_yes i31_7 (by assumption) (by omega) (by omega) (by omega) (by omega) (by omega) | exact ag_no i31_7 (by assumption) (by first | rfl | omega) (by omega) (by omega) (by omega) (by omega) | exact ag_init (by first | exact it_pos (by assumption) (by first | rfl | omega) | exact it_neg (by assumption) (by first | assumption | omega)) (by omega))) (by omega) (lv_sub hl [1, 2, 3, 4, 0] rfl)
    have kc33 : (0 : Int32).toInt = 0 := rfl
    exact L31 _ 0 x22 _ (by omega) (by omega) (by omega) (by omega) (by omega) (by omega) (by omega) (by (first | exact ag_init (by first | exact it_pos (by assumption) (by first | rfl | omega) | exact it_neg (by assumption) (by first | assumption | omega)) (by omega) | exact ag_yes i31_7 (by assumption) (by omega) (by omega) (by omega) (by omega) (by omega) | exact ag_no i31_7 (by assumption) (by first | rfl | omega) (by omega) (by omega) (by omega) (by omega))) (Nat.lt_succ_self _) (lv_sub hl [3, 4, 2, 1, 0] rfl)
set_option maxHeartbeats 4000000 in
set_option maxRecDepth 100000 in
theorem k_X9_right2 (l : Launch) (dC : Nat → ClassId) (dI : Nat → Nat → Nat) (cI cZ cQ : ClassId) (a : Nat → Nat) (rb0 : Nat) (rb1 : Nat) (rb2 : Nat) (db0 : Nat) (db1 : Nat) (db2 : Nat) (top : Nat → Int32) (str : Nat → Int32) (gho : Nat → Int32) (ghs : Nat → Int32) (pto : Nat → Int32) (cro : Nat → Int32) (pla : Nat → Int32) (wal : Nat → Int32) (fal : Nat → Int32) (tel : Int32) (gai : Int32) (day : Int32) (mar : Nat → Int32) (co : Int32) (pt : Int32) (r_top : rg 48 (-1) (23) top) (r_str : rg 48 (0) (100) str) (r_gho : rg 48 (-1) (23) gho) (r_ghs : rg 48 (0) (100) ghs) (r_cro : rg 48 (0) (6) cro) (r_pla : rg 24 (-1) (47) pla) (r_fal : rg 11 (0) (30) fal) (r_gai : 0 ≤ gai.toInt ∧ gai.toInt ≤ 100) (r_day : 0 ≤ day.toInt ∧ day.toInt ≤ 400) (r_mar : rg 24 (0) (255) mar) : KR l yX9_right wsX9_right { frames := 5, cells := 0, slots := 0, locals := 110 } (dC, dI) (TY cI cZ cQ) (wsC cI cZ cQ a rb0 rb1 rb2 db0 db1 db2 top str gho ghs pto cro pla wal fal tel gai day mar) [.ref (a 43), .int co, .int pt] (fun r : Int32 => (spRgt mar top str gho ghs tel co pt r)) := by
  refine Met.ofW (cc := cX9_right) (maxL := 6) (ret := (some .int)) (by decide) rfl ?_
  intro p e s m args below meth c s₁ B hml hv
  obtain ⟨rfl, hP, hK, hN⟩ := hv
  have hx := B.exec
  have hb := B.bytes
  have hr := B.returns
  have hts := atoms_spec (ws := wsX9_right) B.pre
  have hown : s.vm.findClass RX9 = some m.cls := findClass_of_methodNamed B.named
  have hlocks := B.notSynchronized
  have lf28 := hts (.fieldLink RX9 28 "PalaceOfRooms" "corners" "LPalaceOfRooms$Corners;") (List.mem_cons_of_mem _ (List.mem_append_left _ (List.mem_append_left _ (List.mem_append_left _ (List.mem_append_left _ (List.mem_of_getElem? (i := 0) rfl))))))
  have inX9 : ∀ w ∈ wsX90, w ∈ wsX9_right := fun w h => List.mem_cons_of_mem _ (List.mem_append_left _ (List.mem_append_left _ (List.mem_append_right _ h)))
  have lf131 := hN.use (w := .fieldLinkNest "PalaceOfRooms" 131 "PalaceOfRooms$Corners" "top" "[I" "PalaceOfRooms") (List.mem_of_getElem? (i := 2) rfl) ([.ref (a 43), .int co, .int pt] : List Value).toArray
  have inX1 : ∀ w ∈ wsX10, w ∈ wsX9_right := fun w h => List.mem_cons_of_mem _ (List.mem_append_left _ (List.mem_append_right _ h))
  have lf141 := hN.use (w := .fieldLinkNest "PalaceOfRooms" 141 "PalaceOfRooms$Corners" "strength" "[I" "PalaceOfRooms") (List.mem_of_getElem? (i := 4) rfl) ([.ref (a 43), .int co, .int pt] : List Value).toArray
  have hl := lv_entry ([.ref (a 43), .int co, .int pt]) (n := 6) (Nat.le_of_ble_eq_true rfl)
  rw [lg_entry_eq]
  generalize (lg_sl ([.ref (a 43), .int co, .int pt]) ++ List.replicate (6 - (lg_sl ([.ref (a 43), .int co, .int pt])).length) Slot.unset).toArray = ls at hl ⊢
  have hl : lv_has ls 6 [(0, .ref (a 43)), (1, .int co), (2, .int pt)] := hl
  refine lv_iload_n hx hb dX9_right_0 rfl (lv_at hl 1 rfl) ?_
  refine rdS (As := [.int co]) (rest := []) ⟨hx, hb, hml, hown, hts⟩ (k_X9_isCorner l dC dI cI cZ cQ co) (va_cwS 1 hts gX9_right_X9_isCorner rfl rfl rfl (by decide +kernel) ⟨Nat.le_of_ble_eq_true rfl, Nat.le_of_ble_eq_true rfl⟩) hP hK hN [] rfl rfl hl.1 rfl (Nat.le_of_ble_eq_true rfl) dX9_right_1 ⟨Nat.le_of_ble_eq_true rfl, Nat.le_of_ble_eq_true rfl⟩ (fun r1 h2 => ?_)
  have h2 : ((((r1 = 1) ∧ (0 ≤ co.toInt) ∧ (co.toInt ≤ 47)) ∨ ((r1 = 0) ∧ (co.toInt < 0 ∨ 47 < co.toInt)))) := h2
  rcases h2 with (⟨rfl, h2_a0, h2_a1⟩ | ⟨rfl, h2_a0⟩)
  · refine lv_if_ne (tgt := 10) hx hb dX9_right_4 (by decide) (fun _ => ?_) (fun c9 => absurd c9 (by decide))
    refine lv_iload_n hx hb dX9_right_10 rfl (lv_at hl 2 rfl) ?_
    refine lv_iconst (v := 0) hx hb dX9_right_11 (by decide) ?_
    refine lv_iconst (v := 1) hx hb dX9_right_12 (by decide) ?_
    refine rdS (As := [.int pt, .int 0, .int 1]) (rest := []) ⟨hx, hb, hml, hown, hts⟩ (k_X9_within l dC dI cI cZ cQ pt (0 : Int32) (1 : Int32)) (va_cwS 3 hts gX9_right_X9_within rfl rfl rfl (by decide +kernel) ⟨Nat.le_of_ble_eq_true rfl, Nat.le_of_ble_eq_true rfl⟩) hP hK hN [] rfl rfl hl.1 rfl (Nat.le_of_ble_eq_true rfl) dX9_right_13 ⟨Nat.le_of_ble_eq_true rfl, Nat.le_of_ble_eq_true rfl⟩ (fun r3 h4 => ?_)
    have h4 : ((((r3 = 1) ∧ ((0) ≤ pt.toInt) ∧ (pt.toInt ≤ (1))) ∨ ((r3 = 0) ∧ (pt.toInt < (0) ∨ (1) < pt.toInt)))) := h4
    rcases h4 with (⟨rfl, h4_a0, h4_a1⟩ | ⟨rfl, h4_a0⟩)
    · refine lv_if_ne (tgt := 22) hx hb dX9_right_16 (by decide) (fun _ => ?_) (fun c9 => absurd c9 (by decide))
      refine lv_aload_n hx hb dX9_right_22 rfl (lv_at hl 0 rfl) ?_
      refine va_get (D := (dC, dI)) (ci := 9) (v := .ref (a 4)) (C := RX9) (T := TX9) (N := 11) hx hb hts inX9 hown hK hP 0 rfl rfl 2 (by decide) lf28 (fun _ h9 => h9) rfl dX9_right_23 ?_
      refine va_getN (D := (dC, dI)) (ci := 1) (v := .ref (a 5)) (C := RX1) (T := TX1) (N := 13) hx hb hts inX1 hown hK hP 1 rfl rfl 1 (by decide) lf131 (fun _ h9 => h9) rfl dX9_right_26 ?_
      refine lv_iload_n hx hb dX9_right_29 rfl (lv_at hl 1 rfl) ?_
      have b5 : vp_in co 48 := inC rfl (by omega) (by omega)
      refine va_iald hx hb hK hP 2 0 rfl rfl b5 dX9_right_30 ?_
      have g6 : -1 ≤ (top co.toNatClampNeg).toInt ∧ (top co.toNatClampNeg).toInt ≤ 23 := rg_at r_top b5
      refine lv_iconst (v := (-1)) hx hb dX9_right_31 (by decide) ?_
      refine lv_icmp_ne (tgt := 38) hx hb dX9_right_32 (by decide) (fun c7 => ?_) (fun c7 => ?_)
      · have dc7 : 0 ≤ (top co.toNatClampNeg).toInt := ka_lo (by omega) (neC rfl (show ((-1) : Int32).toInt = (-1) from rfl) c7)
        refine lv_aload_n hx hb dX9_right_38 rfl (lv_at hl 0 rfl) ?_
        refine va_get (D := (dC, dI)) (ci := 9) (v := .ref (a 4)) (C := RX9) (T := TX9) (N := 11) hx hb hts inX9 hown hK hP 0 rfl rfl 2 (by decide) lf28 (fun _ h9 => h9) rfl dX9_right_39 ?_
        refine va_getN (D := (dC, dI)) (ci := 1) (v := .ref (a 6)) (C := RX1) (T := TX1) (N := 13) hx hb hts inX1 hown hK hP 1 rfl rfl 2 (by decide) lf141 (fun _ h9 => h9) rfl dX9_right_42 ?_
        refine lv_iload_n hx hb dX9_right_45 rfl (lv_at hl 1 rfl) ?_
        have b8 : vp_in co 48 := inC rfl (by omega) (by omega)
        refine va_iald hx hb hK hP 3 0 rfl rfl b8 dX9_right_46 ?_
        have g9 : 0 ≤ (str co.toNatClampNeg).toInt ∧ (str co.toNatClampNeg).toInt ≤ 100 := rg_at r_str b8
        refine lv_topi (fun x10 ex10 => ?_)
        have ix10 : x10.toInt = (str co.toNatClampNeg).toInt := by rw [ex10]
        refine lv_istore_n (lv' := [(3, .int x10), (0, .ref (a 43)), (1, .int co), (2, .int pt)]) hx hb dX9_right_47 rfl hl (by decide) rfl (fun ls hl => ?_)
        refine lv_iload_n hx hb dX9_right_48 rfl (lv_at hl 0 rfl) ?_
        refine lv_aload_n hx hb dX9_right_49 rfl (lv_at hl 1 rfl) ?_
        refine va_get (D := (dC, dI)) (ci := 9) (v := .ref (a 4)) (C := RX9) (T := TX9) (N := 11) hx hb hts inX9 hown hK hP 0 rfl rfl 2 (by decide) lf28 (fun _ h9 => h9) rfl dX9_right_50 ?_
        refine lv_iload_n hx hb dX9_right_53 rfl (lv_at hl 2 rfl) ?_
        refine rdV (As := [.int co]) (rest := [.int x10]) ⟨hx, hb, hml, hown, hts⟩ (k_X1_strengthAgainst2 l dC dI cI cZ cQ a top str gho ghs pto cro pla wal fal tel gai day mar co r_top r_str r_gho r_ghs r_cro r_pla r_fal r_gai r_day r_mar (by omega) (by omega)) (cwV 1 hts gX9_right_X1_strengthAgainst rfl rfl rfl (by decide +kernel) ⟨Nat.le_of_ble_eq_true rfl, Nat.le_of_ble_eq_true rfl⟩) hP hK hN [1, 2, 3, 4, 5, 6, 7, 8, 9, 10, 11, 12] rfl 1 1 rfl rfl rfl hl.1 rfl (Nat.le_of_ble_eq_true rfl) dX9_right_54 ⟨Nat.le_of_ble_eq_true rfl, Nat.le_of_ble_eq_true rfl⟩ (fun r11 h12 => ?_)
        have h12 : (0 ≤ r11.toInt) ∧ (r11.toInt ≤ 700) ∧ (r11.toInt = fnt gho ghs co.toNatClampNeg + agF mar top str tel co.toNatClampNeg (co.toNatClampNeg - co.toNatClampNeg % 6) 6) := h12
        obtain ⟨h12_0, h12_1, h12_2⟩ := h12
        refine lv_iadd hx hb dX9_right_57 ?_
        have f13 : (x10 + r11).toInt = (x10.toInt) + (r11.toInt) := addC rfl rfl (by omega) (by omega)
        refine lv_topi (fun x14 ex14 => ?_)
        have ix14 : x14.toInt = (x10.toInt) + (r11.toInt) := by rw [ex14]; exact f13
        refine lv_istore (lv' := [(4, .int x14), (3, .int x10), (0, .ref (a 43)), (1, .int co), (2, .int pt)]) hx hb dX9_right_58 hl (by decide) rfl (fun ls hl => ?_)
        have hB : (x14.toInt) = raF mar top str gho ghs tel co.toNatClampNeg := (by unfold raF; omega)
        refine lv_iload_n hx hb dX9_right_60 rfl (lv_at hl 1 rfl) ?_
        refine lv_iload hx hb dX9_right_61 (lv_at hl 0 rfl) ?_
        refine rdS (As := [.int x10, .int x14]) (rest := []) ⟨hx, hb, hml, hown, hts⟩ (k_X9_commonDivisor2 l dC dI cI cZ cQ x10 x14 (by omega) (by omega) (by omega) (by omega)) (va_cwS 2 hts gX9_right_X9_commonDivisor rfl rfl rfl (by decide +kernel) ⟨Nat.le_of_ble_eq_true rfl, Nat.le_of_ble_eq_true rfl⟩) hP hK hN [] rfl rfl hl.1 rfl (Nat.le_of_ble_eq_true rfl) dX9_right_63 ⟨Nat.le_of_ble_eq_true rfl, Nat.le_of_ble_eq_true rfl⟩ (fun r15 h16 => ?_)
        have h16 : (r15.toInt = gcF x10.toInt x14.toInt) ∧ (0 ≤ r15.toInt) ∧ (r15.toInt ≤ 1000) := h16
        obtain ⟨h16_0, h16_1, h16_2⟩ := h16
        refine lv_istore (lv' := [(5, .int r15), (4, .int x14), (3, .int x10), (0, .ref (a 43)), (1, .int co), (2, .int pt)]) hx hb dX9_right_66 hl (by decide) rfl (fun ls hl => ?_)
        refine lv_iload hx hb dX9_right_68 (lv_at hl 0 rfl) ?_
        refine lv_if_gt (tgt := 76) hx hb dX9_right_70 (by decide) (fun c17 => ?_) (fun c17 => ?_)
        · have dc17 : 0 < r15.toInt := ltC (show (0 : Int32).toInt = 0 from rfl) rfl c17
          refine lv_iload_n hx hb dX9_right_76 rfl (lv_at hl 5 rfl) ?_
          refine lv_if_ne (tgt := 84) hx hb dX9_right_77 (by decide) (fun c18 => ?_) (fun c18 => ?_)
          · have dc18 : 1 ≤ pt.toInt := ka_lo (by omega) (neC rfl (show (0 : Int32).toInt = 0 from rfl) c18)
            refine lv_iload hx hb dX9_right_84 (lv_at hl 1 rfl) ?_
            refine lv_iload hx hb dX9_right_86 (lv_at hl 0 rfl) ?_
            refine lv_idiv hx hb dX9_right_88 (n0C rfl (by omega)) ?_
            have f19 : (x14 / r15).toInt = (x14.toInt) / (r15.toInt) := divC rfl rfl (by omega) (by omega)
            exact W.iret (v := x14 / r15) hx hb hr (fun tq ht hW => ⟨x14 / r15, rfl, (show spRgt mar top str gho ghs tel co pt (x14 / r15) from by (try rw [show (x14 / r15).toInt = (x14.toInt) / (r15.toInt) from f19]); (first | exact Or.inl ⟨by omega, rfl⟩ | exact Or.inr (Or.inl ⟨by omega, by omega, rfl⟩) | exact Or.inr (Or.inr (Or.inl ⟨by omega, by omega, by assumption, rfl⟩)) | exact Or.inr (Or.inr (Or.inr ⟨by omega, by omega, by assumption, rg_zero (by assumption) hB (by assumption) (by omega) (by omega) (by omega) rfl⟩)) | exact Or.inr (Or.inr (Or.inr ⟨by omega, by omega, by assumption, rg_one (by assumption) hB (by assumption) (by omega) (by omega) (by omega) (by assumption) (by first | exact Or.inl ⟨by omega, rfl⟩ | exact Or.inr ⟨by omega, rfl⟩)⟩)))), ht⟩) (fun q h => by cases h) dX9_right_89
          · have dc18 : pt.toInt = 0 := eqC rfl (show (0 : Int32).toInt = 0 from rfl) c18
            refine lv_iload_n hx hb dX9_right_80 rfl (lv_at hl 2 rfl) ?_
            refine lv_goto (tgt := 86) hx hb dX9_right_81 (by decide) ?_
            refine lv_iload hx hb dX9_right_86 (lv_at hl 0 rfl) ?_
            refine lv_idiv hx hb dX9_right_88 (n0C rfl (by omega)) ?_
            have f20 : (x10 / r15).toInt = (x10.toInt) / (r15.toInt) := divC rfl rfl (by omega) (by omega)
            exact W.iret (v := x10 / r15) hx hb hr (fun tq ht hW => ⟨x10 / r15, rfl, (show spRgt mar top str gho ghs tel co pt (x10 / r15) from by (try rw [show (x10 / r15).toInt = (x10.toInt) / (r15.toInt) from f20]); (first | exact Or.inl ⟨by omega, rfl⟩ | exact Or.inr (Or.inl ⟨by omega, by omega, rfl⟩) | exact Or.inr (Or.inr (Or.inl ⟨by omega, by omega, by assumption, rfl⟩)) | exact Or.inr (Or.inr (Or.inr ⟨by omega, by omega, by assumption, rg_zero (by assumption) hB (by assumption) (by omega) (by omega) (by omega) rfl⟩)) | exact Or.inr (Or.inr (Or.inr ⟨by omega, by omega, by assumption, rg_one (by assumption) hB (by assumption) (by omega) (by omega) (by omega) (by assumption) (by first | exact Or.inl ⟨by omega, rfl⟩ | exact Or.inr ⟨by omega, rfl⟩)⟩)))), ht⟩) (fun q h => by cases h) dX9_right_89
        · have dc17 : r15.toInt ≤ 0 := nltC (show (0 : Int32).toInt = 0 from rfl) rfl c17
          refine lv_bipush (v := (-4)) hx hb dX9_right_73 (by decide) ?_
          exact W.iret (v := (-4)) hx hb hr (fun tq ht hW => ⟨(-4), rfl, (show spRgt mar top str gho ghs tel co pt ((-4) : Int32) from by (try rw [show ((-4) : Int32).toInt = (-4) from (show ((-4) : Int32).toInt = (-4) from rfl)]); (first | exact Or.inl ⟨by omega, rfl⟩ | exact Or.inr (Or.inl ⟨by omega, by omega, rfl⟩) | exact Or.inr (Or.inr (Or.inl ⟨by omega, by omega, by assumption, rfl⟩)) | exact Or.inr (Or.inr (Or.inr ⟨by omega, by omega, by assumption, rg_zero (by assumption) hB (by assumption) (by omega) (by omega) (by omega) rfl⟩)) | exact Or.inr (Or.inr (Or.inr ⟨by omega, by omega, by assumption, rg_one (by assumption) hB (by assumption) (by omega) (by omega) (by omega) (by assumption) (by first | exact Or.inl ⟨by omega, rfl⟩ | exact Or.inr ⟨by omega, rfl⟩)⟩)))), ht⟩) (fun q h => by cases h) dX9_right_75
      · have dc7 : (top co.toNatClampNeg).toInt = (-1) := eqC rfl (show ((-1) : Int32).toInt = (-1) from rfl) c7
        refine lv_bipush (v := (-4)) hx hb dX9_right_35 (by decide) ?_
        exact W.iret (v := (-4)) hx hb hr (fun tq ht hW => ⟨(-4), rfl, (show spRgt mar top str gho ghs tel co pt ((-4) : Int32) from by (try rw [show ((-4) : Int32).toInt = (-4) from (show ((-4) : Int32).toInt = (-4) from rfl)]); (first | exact Or.inl ⟨by omega, rfl⟩ | exact Or.inr (Or.inl ⟨by omega, by omega, rfl⟩) | exact Or.inr (Or.inr (Or.inl ⟨by omega, by omega, by assumption, rfl⟩)) | exact Or.inr (Or.inr (Or.inr ⟨by omega, by omega, by assumption, rg_zero (by assumption) hB (by assumption) (by omega) (by omega) (by omega) rfl⟩)) | exact Or.inr (Or.inr (Or.inr ⟨by omega, by omega, by assumption, rg_one (by assumption) hB (by assumption) (by omega) (by omega) (by omega) (by assumption) (by first | exact Or.inl ⟨by omega, rfl⟩ | exact Or.inr ⟨by omega, rfl⟩)⟩)))), ht⟩) (fun q h => by cases h) dX9_right_37
    · refine lv_if_ne (tgt := 22) hx hb dX9_right_16 (by decide) (fun c9 => absurd (by decide) c9) (fun _ => ?_)
      refine lv_bipush (v := (-3)) hx hb dX9_right_19 (by decide) ?_
      exact W.iret (v := (-3)) hx hb hr (fun tq ht hW => ⟨(-3), rfl, (show spRgt mar top str gho ghs tel co pt ((-3) : Int32) from by (try rw [show ((-3) : Int32).toInt = (-3) from (show ((-3) : Int32).toInt = (-3) from rfl)]); (first | exact Or.inl ⟨by omega, rfl⟩ | exact Or.inr (Or.inl ⟨by omega, by omega, rfl⟩) | exact Or.inr (Or.inr (Or.inl ⟨by omega, by omega, by assumption, rfl⟩)) | exact Or.inr (Or.inr (Or.inr ⟨by omega, by omega, by assumption, rg_zero (by assumption) hB (by assumption) (by omega) (by omega) (by omega) rfl⟩)) | exact Or.inr (Or.inr (Or.inr ⟨by omega, by omega, by assumption, rg_one (by assumption) hB (by assumption) (by omega) (by omega) (by omega) (by assumption) (by first | exact Or.inl ⟨by omega, rfl⟩ | exact Or.inr ⟨by omega, rfl⟩)⟩)))), ht⟩) (fun q h => by cases h) dX9_right_21
  · refine lv_if_ne (tgt := 10) hx hb dX9_right_4 (by decide) (fun c9 => absurd (by decide) c9) (fun _ => ?_)
    refine lv_bipush (v := (-2)) hx hb dX9_right_7 (by decide) ?_
    exact W.iret (v := (-2)) hx hb hr (fun tq ht hW => ⟨(-2), rfl, (show spRgt mar top str gho ghs tel co pt ((-2) : Int32) from by (try rw [show ((-2) : Int32).toInt = (-2) from (show ((-2) : Int32).toInt = (-2) from rfl)]); (first | exact Or.inl ⟨by omega, rfl⟩ | exact Or.inr (Or.inl ⟨by omega, by omega, rfl⟩) | exact Or.inr (Or.inr (Or.inl ⟨by omega, by omega, by assumption, rfl⟩)) | exact Or.inr (Or.inr (Or.inr ⟨by omega, by omega, by assumption, rg_zero (by assumption) hB (by assumption) (by omega) (by omega) (by omega) rfl⟩)) | exact Or.inr (Or.inr (Or.inr ⟨by omega, by omega, by assumption, rg_one (by assumption) hB (by assumption) (by omega) (by omega) (by omega) (by assumption) (by first | exact Or.inl ⟨by omega, rfl⟩ | exact Or.inr ⟨by omega, rfl⟩)⟩)))), ht⟩) (fun q h => by cases h) dX9_right_9
set_option maxHeartbeats 4000000 in
set_option maxRecDepth 100000 in
theorem k_X10_right2 (l : Launch) (dC : Nat → ClassId) (dI : Nat → Nat → Nat) (cI cZ cQ : ClassId) (b : Nat → Nat) (mday : Int32) (mdoo : Int32) (mdA : Nat → Int32) (mdB : Nat → Int32) (mfar : Nat → Int32) (mmar : Nat → Int32) (mtel : Int32) (mgai : Int32) (mfal : Nat → Int32) (mtop : Nat → Int32) (mstr : Nat → Int32) (mgho : Nat → Int32) (mfai : Nat → Int32) (mpto : Nat → Int32) (mwal : Nat → Int32) (mahd : Nat → Int32) (mahf : Nat → Int32) (mcho : Nat → Int32) (mbes : Nat → Int32) (mbyt : Int32) (mtxt : Nat → Int32) (mpos : Int32) (mtka : Int32) (mtok : Int64) (mdig : Int32) (mnum : Int32) (mfau : Int32) (mrdm : Int32) (mrea : Nat → Int32) (mlin : Int32) (mlne : Nat → Int32) (mthg : Nat → Int32) (mord : Nat → Int32) (mbor : Nat → Int32) (mbsm : Int32) (mans : Nat → Int32) (mand : Nat → Int32) (manr : Nat → Int32) (mali : Nat → Int32) (co : Int32) (pt : Int32) (r_mday : 0 ≤ mday.toInt ∧ mday.toInt ≤ 400) (r_mdoo : 0 ≤ mdoo.toInt ∧ mdoo.toInt ≤ 14) (r_mdA : rg 14 (0) (7) mdA) (r_mdB : rg 14 (0) (7) mdB) (r_mmar : rg 24 (0) (255) mmar) (r_mgai : 0 ≤ mgai.toInt ∧ mgai.toInt ≤ 100) (r_mfal : rg 11 (0) (30) mfal) (r_mtop : rg 48 (-1) (23) mtop) (r_mstr : rg 48 (0) (100) mstr) (r_mgho : rg 48 (-1) (23) mgho) (r_mfai : rg 48 (0) (100) mfai) (r_mahd : rg 240 (0) (100) mahd) (r_mahf : rg 240 (0) (100) mahf) (r_mcho : rg 5 (-1) (9) mcho) (r_mbyt : 0 ≤ mbyt.toInt ∧ mbyt.toInt ≤ 160) (r_mpos : 0 ≤ mpos.toInt ∧ mpos.toInt ≤ 160) (r_mrdm : 0 ≤ mrdm.toInt ∧ mrdm.toInt ≤ 10) (r_mlin : 0 ≤ mlin.toInt ∧ mlin.toInt ≤ 10) (r_mthg : rg 8 (0) (31) mthg) (r_mord : rg 8 (-1) (8) mord) (r_mans : rg 4 (0) (12) mans) : KR l yX10_right wsX10_right { frames := 2, cells := 0, slots := 0, locals := 42 } (dC, dI) (TY cI cZ cQ) (wMod cI cZ cQ b mday mdoo mdA mdB mfar mmar mtel mgai mfal mtop mstr mgho mfai mpto mwal mahd mahf mcho mbes mbyt mtxt mpos mtka mtok mdig mnum mfau mrdm mrea mlin mlne mthg mord mbor mbsm mans mand manr mali) [.ref (b 39), .int co, .int pt] (fun r : Int32 => (spRgt mmar mtop mstr mgho mfai mtel co pt r)) := by
  refine Met.ofW (cc := cX10_right) (maxL := 7) (ret := (some .int)) (by decide) rfl ?_
  intro p e s m args below meth c s₁ B hml hv
  obtain ⟨rfl, hP, hK, hN⟩ := hv
  have hx := B.exec
  have hb := B.bytes
  have hr := B.returns
  have hts := atoms_spec (ws := wsX10_right) B.pre
  have hown : s.vm.findClass RX10 = some m.cls := findClass_of_methodNamed B.named
  have hlocks := B.notSynchronized
  have lf32 := hts (.fieldLink RX10 32 "PalaceOfRoomsModel" "top" "[I") (List.mem_cons_of_mem _ (List.mem_append_left _ (List.mem_of_getElem? (i := 0) rfl)))
  have inX10 : ∀ w ∈ wsX100, w ∈ wsX10_right := fun w h => List.mem_cons_of_mem _ (List.mem_append_right _ h)
  have lf35 := hts (.fieldLink RX10 35 "PalaceOfRoomsModel" "strength" "[I") (List.mem_cons_of_mem _ (List.mem_append_left _ (List.mem_of_getElem? (i := 1) rfl)))
  have lf22 := hts (.fieldLink RX10 22 "PalaceOfRoomsModel" "tell" "I") (List.mem_cons_of_mem _ (List.mem_append_left _ (List.mem_of_getElem? (i := 4) rfl)))
  have lf38 := hts (.fieldLink RX10 38 "PalaceOfRoomsModel" "ghost" "[I") (List.mem_cons_of_mem _ (List.mem_append_left _ (List.mem_of_getElem? (i := 2) rfl)))
  have lf41 := hts (.fieldLink RX10 41 "PalaceOfRoomsModel" "faint" "[I") (List.mem_cons_of_mem _ (List.mem_append_left _ (List.mem_of_getElem? (i := 3) rfl)))
  have hl := lv_entry ([.ref (b 39), .int co, .int pt]) (n := 7) (Nat.le_of_ble_eq_true rfl)
  rw [lg_entry_eq]
  generalize (lg_sl ([.ref (b 39), .int co, .int pt]) ++ List.replicate (7 - (lg_sl ([.ref (b 39), .int co, .int pt])).length) Slot.unset).toArray = ls at hl ⊢
  have hl : lv_has ls 7 [(0, .ref (b 39)), (1, .int co), (2, .int pt)] := hl
  refine lv_iload_n hx hb dX10_right_0 rfl (lv_at hl 1 rfl) ?_
  refine rdS (As := [.int co]) (rest := []) ⟨hx, hb, hml, hown, hts⟩ (k_X10_isCorner l dC dI cI cZ cQ co) (va_cwS 1 hts gX10_right_X10_isCorner rfl rfl rfl (by decide +kernel) ⟨Nat.le_of_ble_eq_true rfl, Nat.le_of_ble_eq_true rfl⟩) hP hK hN [] rfl rfl hl.1 rfl (Nat.le_of_ble_eq_true rfl) dX10_right_1 ⟨Nat.le_of_ble_eq_true rfl, Nat.le_of_ble_eq_true rfl⟩ (fun r1 h2 => ?_)
  have h2 : ((((r1 = 1) ∧ (0 ≤ co.toInt) ∧ (co.toInt ≤ 47)) ∨ ((r1 = 0) ∧ (co.toInt < 0 ∨ 47 < co.toInt)))) := h2
  rcases h2 with (⟨rfl, h2_a0, h2_a1⟩ | ⟨rfl, h2_a0⟩)
  · refine lv_if_ne (tgt := 10) hx hb dX10_right_4 (by decide) (fun _ => ?_) (fun c9 => absurd c9 (by decide))
    refine lv_iload_n hx hb dX10_right_10 rfl (lv_at hl 2 rfl) ?_
    refine lv_iconst (v := 0) hx hb dX10_right_11 (by decide) ?_
    refine lv_iconst (v := 1) hx hb dX10_right_12 (by decide) ?_
    refine rdS (As := [.int pt, .int 0, .int 1]) (rest := []) ⟨hx, hb, hml, hown, hts⟩ (k_X10_in l dC dI cI cZ cQ pt (0 : Int32) (1 : Int32)) (va_cwS 3 hts gX10_right_X10_in rfl rfl rfl (by decide +kernel) ⟨Nat.le_of_ble_eq_true rfl, Nat.le_of_ble_eq_true rfl⟩) hP hK hN [] rfl rfl hl.1 rfl (Nat.le_of_ble_eq_true rfl) dX10_right_13 ⟨Nat.le_of_ble_eq_true rfl, Nat.le_of_ble_eq_true rfl⟩ (fun r3 h4 => ?_)
    have h4 : ((((r3 = 1) ∧ ((0) ≤ pt.toInt) ∧ (pt.toInt ≤ (1))) ∨ ((r3 = 0) ∧ (pt.toInt < (0) ∨ (1) < pt.toInt)))) := h4
    rcases h4 with (⟨rfl, h4_a0, h4_a1⟩ | ⟨rfl, h4_a0⟩)
    · refine lv_if_ne (tgt := 22) hx hb dX10_right_16 (by decide) (fun _ => ?_) (fun c9 => absurd c9 (by decide))
      refine lv_aload_n hx hb dX10_right_22 rfl (lv_at hl 0 rfl) ?_
      refine va_get (D := (dC, dI)) (ci := 10) (v := .ref (b 9)) (C := RX10) (T := TX10) (N := 39) hx hb hts inX10 hown hK hP 0 rfl rfl 9 (by decide) lf32 (fun _ h9 => h9) rfl dX10_right_23 ?_
      refine lv_iload_n hx hb dX10_right_26 rfl (lv_at hl 1 rfl) ?_
      have b5 : vp_in co 48 := inC rfl (by omega) (by omega)
      refine va_iald hx hb hK hP 6 0 rfl rfl b5 dX10_right_27 ?_
      have g6 : -1 ≤ (mtop co.toNatClampNeg).toInt ∧ (mtop co.toNatClampNeg).toInt ≤ 23 := rg_at r_mtop b5
      refine lv_iconst (v := (-1)) hx hb dX10_right_28 (by decide) ?_
      refine lv_icmp_ne (tgt := 35) hx hb dX10_right_29 (by decide) (fun c7 => ?_) (fun c7 => ?_)
      · have dc7 : 0 ≤ (mtop co.toNatClampNeg).toInt := ka_lo (by omega) (neC rfl (show ((-1) : Int32).toInt = (-1) from rfl) c7)
        have L63 : ∀ (y63_3 : Int32) (ls : Array Slot), (0 ≤ (y63_3.toInt)) → ((y63_3.toInt) ≤ 200) → ((y63_3.toInt) = (mstr co.toNatClampNeg).toInt + (if mgho co.toNatClampNeg = -1 then 0 else (mfai co.toNatClampNeg).toInt)) → ((mstr co.toNatClampNeg).toInt ≤ (y63_3.toInt)) → lv_has ls 7 [(0, .ref (b 39)), (1, .int co), (2, .int pt), (3, .int y63_3)] → W p l e (headSpec wsX10_right { frames := 2, cells := 0, slots := 0, locals := 42 }).room s m ([.ref (b 39), .int co, .int pt] : List Value).toArray below meth c s.heap [] 0 0 (MQ below (QR (fun r : Int32 => (spRgt mmar mtop mstr mgho mfai mtel co pt r))) ([.ref (b 39), .int co, .int pt] : List Value).toArray s 0 0 (fun _ => False)) (F0 m 63 ls []) := by
          intro y63_3 ls i63_0 i63_1 i63_2 i63_3 hl
          refine lv_iload_n hx hb dX10_right_63 rfl (lv_at hl 1 rfl) ?_
          refine lv_bipush (v := 6) hx hb dX10_right_64 (by decide) ?_
          refine lv_idiv hx hb dX10_right_66 (by decide) ?_
          have f8 : (co / 6).toInt = (co.toInt) / (6) := divC rfl (show (6 : Int32).toInt = 6 from rfl) (by omega) (by omega)
          refine lv_bipush (v := 6) hx hb dX10_right_67 (by decide) ?_
          refine lv_imul hx hb dX10_right_69 ?_
          have f9 : ((co / 6) * 6).toInt = ((co.toInt) / (6)) * (6) := mulC f8 (show (6 : Int32).toInt = 6 from rfl) (by omega) (by omega)
          refine lv_topi (fun x10 ex10 => ?_)
          have ix10 : x10.toInt = ((co.toInt) / (6)) * (6) := by rw [ex10]; exact f9
          refine lv_istore (lv' := [(4, .int x10), (0, .ref (b 39)), (1, .int co), (2, .int pt), (3, .int y63_3)]) hx hb dX10_right_70 hl (by decide) rfl (fun ls hl => ?_)
          have L72 : ∀ (nn : Nat) (y72_3 : Int32) (y72_4 : Int32) (ls : Array Slot), (0 ≤ (y72_4.toInt)) → ((y72_4.toInt) ≤ 48) → (0 ≤ (y72_3.toInt)) → ((y72_3.toInt) ≤ 200 + 100 * ((y72_4.toInt) - (co.toInt) / 6 * 6)) → ((y72_3.toInt) ≤ 900) → ((co.toInt) / 6 * 6 ≤ (y72_4.toInt)) → ((y72_4.toInt) ≤ (co.toInt) / 6 * 6 + 6) → (arI mmar mtop mstr mgho mfai mtel co (y72_4.toInt) (y72_3.toInt)) → ((mstr co.toNatClampNeg).toInt ≤ (y72_3.toInt)) → (48 - (y72_4.toInt)).toNat < nn → lv_has ls 7 [(0, .ref (b 39)), (1, .int co), (2, .int pt), (3, .int y72_3), (4, .int y72_4)] → W p l e (headSpec wsX10_right { frames := 2, cells := 0, slots := 0, locals := 42 }).room s m ([.ref (b 39), .int co, .int pt] : List Value).toArray below meth c s.heap [] 0 0 (MQ below (QR (fun r : Int32 => (spRgt mmar mtop mstr mgho mfai mtel co pt r))) ([.ref (b 39), .int co, .int pt] : List Value).toArray s 0 0 (fun _ => False)) (F0 m 72 ls []) := by
            intro nn
            induction nn with
            | zero =>
              intro y72_3 y72_4 ls i72_0 i72_1 i72_2 i72_3 i72_4 i72_5 i72_6 i72_7 i72_8 hm72
              exact absurd hm72 (Nat.not_lt_zero _)
            | succ nn ih72 =>
              intro y72_3 y72_4 ls i72_0 i72_1 i72_2 i72_3 i72_4 i72_5 i72_6 i72_7 i72_8 hm72 hl
              refine lv_iload hx hb dX10_right_72 (lv_at hl 4 rfl) ?_
              refine lv_iload_n hx hb dX10_right_74 rfl (lv_at hl 1 rfl) ?_
              refine lv_bipush (v := 6) hx hb dX10_right_75 (by decide) ?_
              refine lv_idiv hx hb dX10_right_77 (by decide) ?_
              have f11 : (co / 6).toInt = (co.toInt) / (6) := divC rfl (show (6 : Int32).toInt = 6 from rfl) (by omega) (by omega)
              refine lv_bipush (v := 6) hx hb dX10_right_78 (by decide) ?_
              refine lv_imul hx hb dX10_right_80 ?_
              have f12 : ((co / 6) * 6).toInt = ((co.toInt) / (6)) * (6) := mulC f11 (show (6 : Int32).toInt = 6 from rfl) (by omega) (by omega)
              refine lv_bipush (v := 6) hx hb dX10_right_81 (by decide) ?_
              refine lv_iadd hx hb dX10_right_83 ?_
              have f13 : (((co / 6) * 6) + 6).toInt = (((co.toInt) / (6)) * (6)) + (6) := addC f12 (show (6 : Int32).toInt = 6 from rfl) (by omega) (by omega)
              refine lv_icmp_ge (tgt := 148) hx hb dX10_right_84 (by decide) (fun c14 => ?_) (fun c14 => ?_)
              · have dc14 : (((co.toInt) / (6)) * (6)) + (6) ≤ y72_4.toInt := leC f13 rfl c14
                refine lv_iload_n hx hb dX10_right_148 rfl (lv_at hl 3 rfl) ?_
                refine lv_if_ne (tgt := 155) hx hb dX10_right_149 (by decide) (fun c15 => ?_) (fun c15 => ?_)
                · have dc15 : 1 ≤ y72_3.toInt := ka_lo (by omega) (neC rfl (show (0 : Int32).toInt = 0 from rfl) c15)
                  refine lv_iload_n hx hb dX10_right_155 rfl (lv_at hl 3 rfl) ?_
                  refine lv_istore (lv' := [(4, .int y72_3), (0, .ref (b 39)), (1, .int co), (2, .int pt), (3, .int y72_3)]) hx hb dX10_right_156 hl (by decide) rfl (fun ls hl => ?_)
                  refine lv_aload_n hx hb dX10_right_158 rfl (lv_at hl 1 rfl) ?_
                  refine va_get (D := (dC, dI)) (ci := 10) (v := .ref (b 10)) (C := RX10) (T := TX10) (N := 39) hx hb hts inX10 hown hK hP 0 rfl rfl 10 (by decide) lf35 (fun _ h9 => h9) rfl dX10_right_159 ?_
                  refine lv_iload_n hx hb dX10_right_162 rfl (lv_at hl 2 rfl) ?_
                  have b16 : vp_in co 48 := inC rfl (by omega) (by omega)
                  refine va_iald hx hb hK hP 7 0 rfl rfl b16 dX10_right_163 ?_
                  have g17 : 0 ≤ (mstr co.toNatClampNeg).toInt ∧ (mstr co.toNatClampNeg).toInt ≤ 100 := rg_at r_mstr b16
                  refine lv_topi (fun x18 ex18 => ?_)
                  have ix18 : x18.toInt = (mstr co.toNatClampNeg).toInt := by rw [ex18]
                  refine lv_istore (lv' := [(5, .int x18), (4, .int y72_3), (0, .ref (b 39)), (1, .int co), (2, .int pt), (3, .int y72_3)]) hx hb dX10_right_164 hl (by decide) rfl (fun ls hl => ?_)
                  have L166 : ∀ (nn : Nat) (y166_4 : Int32) (y166_5 : Int32) (ls : Array Slot), (0 < (y166_4.toInt)) → ((y166_4.toInt) ≤ 900) → (0 ≤ (y166_5.toInt)) → ((y166_5.toInt) ≤ 900) → (gcF (y166_4.toInt) (y166_5.toInt) = gcF (y72_3.toInt) (mstr co.toNatClampNeg).toInt) → ((y166_5.toInt)).toNat < nn → lv_has ls 7 [(0, .ref (b 39)), (1, .int co), (2, .int pt), (3, .int y72_3), (4, .int y166_4), (5, .int y166_5)] → W p l e (headSpec wsX10_right { frames := 2, cells := 0, slots := 0, locals := 42 }).room s m ([.ref (b 39), .int co, .int pt] : List Value).toArray below meth c s.heap [] 0 0 (MQ below (QR (fun r : Int32 => (spRgt mmar mtop mstr mgho mfai mtel co pt r))) ([.ref (b 39), .int co, .int pt] : List Value).toArray s 0 0 (fun _ => False)) (F0 m 166 ls []) := by
                    intro nn
                    induction nn with
                    | zero =>
                      intro y166_4 y166_5 ls i166_0 i166_1 i166_2 i166_3 i166_4 hm166
                      exact absurd hm166 (Nat.not_lt_zero _)
                    | succ nn ih166 =>
                      intro y166_4 y166_5 ls i166_0 i166_1 i166_2 i166_3 i166_4 hm166 hl
                      refine lv_iload hx hb dX10_right_166 (lv_at hl 5 rfl) ?_
                      refine lv_if_eq (tgt := 189) hx hb dX10_right_168 (by decide) (fun c19 => ?_) (fun c19 => ?_)
                      · have dc19 : y166_5.toInt = 0 := eqC rfl (show (0 : Int32).toInt = 0 from rfl) c19
                        refine lv_iload_n hx hb dX10_right_189 rfl (lv_at hl 2 rfl) ?_
                        refine lv_if_ne (tgt := 205) hx hb dX10_right_190 (by decide) (fun c20 => ?_) (fun c20 => ?_)
                        · have dc20 : 1 ≤ pt.toInt := ka_lo (by omega) (neC rfl (show (0 : Int32).toInt = 0 from rfl) c20)
                          refine lv_iload_n hx hb dX10_right_205 rfl (lv_at hl 3 rfl) ?_
                          refine lv_iload hx hb dX10_right_206 (lv_at hl 4 rfl) ?_
                          refine lv_idiv hx hb dX10_right_208 (n0C rfl (by omega)) ?_
                          have f21 : (y72_3 / y166_4).toInt = (y72_3.toInt) / (y166_4.toInt) := divC rfl rfl (by omega) (by omega)
                          exact W.iret (v := y72_3 / y166_4) hx hb hr (fun tq ht hW => ⟨y72_3 / y166_4, rfl, (show spRgt mmar mtop mstr mgho mfai mtel co pt (y72_3 / y166_4) from by (try rw [show (y72_3 / y166_4).toInt = (y72_3.toInt) / (y166_4.toInt) from f21]); (first | exact Or.inl ⟨by omega, rfl⟩ | exact Or.inr (Or.inl ⟨by omega, by omega, rfl⟩) | exact Or.inr (Or.inr (Or.inl ⟨by omega, by omega, by assumption, rfl⟩)) | exact Or.inr (Or.inr (Or.inr ⟨by omega, by omega, by assumption, Or.inl ⟨(ar_end i72_7 (by omega)).symm.trans (by omega), rfl⟩⟩)) | exact Or.inr (Or.inr (Or.inr ⟨by omega, by omega, by assumption, rg_one rfl (ar_end i72_7 (by omega)) (gm_end i166_4 (by omega) (by omega)) (by omega) (by omega) (by omega) (by assumption) (by first | exact Or.inl ⟨by omega, rfl⟩ | exact Or.inr ⟨by omega, rfl⟩)⟩)))), ht⟩) (fun q h => by cases h) dX10_right_209
                        · have dc20 : pt.toInt = 0 := eqC rfl (show (0 : Int32).toInt = 0 from rfl) c20
                          refine lv_aload_n hx hb dX10_right_193 rfl (lv_at hl 0 rfl) ?_
                          refine va_get (D := (dC, dI)) (ci := 10) (v := .ref (b 10)) (C := RX10) (T := TX10) (N := 39) hx hb hts inX10 hown hK hP 0 rfl rfl 10 (by decide) lf35 (fun _ h9 => h9) rfl dX10_right_194 ?_
                          refine lv_iload_n hx hb dX10_right_197 rfl (lv_at hl 1 rfl) ?_
                          have b22 : vp_in co 48 := inC rfl (by omega) (by omega)
                          refine va_iald hx hb hK hP 7 0 rfl rfl b22 dX10_right_198 ?_
                          have g23 : 0 ≤ (mstr co.toNatClampNeg).toInt ∧ (mstr co.toNatClampNeg).toInt ≤ 100 := rg_at r_mstr b22
                          refine lv_iload hx hb dX10_right_199 (lv_at hl 4 rfl) ?_
                          refine lv_idiv hx hb dX10_right_201 (n0C rfl (by omega)) ?_
                          have f24 : ((mstr co.toNatClampNeg) / y166_4).toInt = ((mstr co.toNatClampNeg).toInt) / (y166_4.toInt) := divC rfl rfl (by omega) (by omega)
                          refine lv_goto (tgt := 209) hx hb dX10_right_202 (by decide) ?_
                          exact W.iret (v := (mstr co.toNatClampNeg) / y166_4) hx hb hr (fun tq ht hW => ⟨(mstr co.toNatClampNeg) / y166_4, rfl, (show spRgt mmar mtop mstr mgho mfai mtel co pt ((mstr co.toNatClampNeg) / y166_4) from by (try rw [show ((mstr co.toNatClampNeg) / y166_4).toInt = ((mstr co.toNatClampNeg).toInt) / (y166_4.toInt) from f24]); (first | exact Or.inl ⟨by omega, rfl⟩ | exact Or.inr (Or.inl ⟨by omega, by omega, rfl⟩) | exact Or.inr (Or.inr (Or.inl ⟨by omega, by omega, by assumption, rfl⟩)) | exact Or.inr (Or.inr (Or.inr ⟨by omega, by omega, by assumption, Or.inl ⟨(ar_end i72_7 (by omega)).symm.trans (by omega), rfl⟩⟩)) | exact Or.inr (Or.inr (Or.inr ⟨by omega, by omega, by assumption, rg_one rfl (ar_end i72_7 (by omega)) (gm_end i166_4 (by omega) (by omega)) (by omega) (by omega) (by omega) (by assumption) (by first | exact Or.inl ⟨by omega, rfl⟩ | exact Or.inr ⟨by omega, rfl⟩)⟩)))), ht⟩) (fun q h => by cases h) dX10_right_209
                      · have dc19 : 1 ≤ y166_5.toInt := ka_lo (by omega) (neC rfl (show (0 : Int32).toInt = 0 from rfl) c19)
                        refine lv_iload hx hb dX10_right_171 (lv_at hl 4 rfl) ?_
                        refine lv_iload hx hb dX10_right_173 (lv_at hl 5 rfl) ?_
                        refine lv_irem hx hb dX10_right_175 (n0C rfl (by omega)) ?_
                        have f25 : (y166_4 - y166_4 / y166_5 * y166_5).toInt = (y166_4.toInt) % (y166_5.toInt) := remC rfl rfl (by omega) (by omega)
                        have f26 : 0 ≤ (y166_4.toInt) % (y166_5.toInt) := Int.emod_nonneg _ (by omega)
                        have f27 : (y166_4.toInt) % (y166_5.toInt) < y166_5.toInt := Int.emod_lt_of_pos _ (by omega)
                        refine lv_topi (fun x28 ex28 => ?_)
                        have ix28 : x28.toInt = (y166_4.toInt) % (y166_5.toInt) := by rw [ex28]; exact f25
                        refine lv_istore (lv' := [(6, .int x28), (0, .ref (b 39)), (1, .int co), (2, .int pt), (3, .int y72_3), (4, .int y166_4), (5, .int y166_5)]) hx hb dX10_right_176 hl (by decide) rfl (fun ls hl => ?_)
                        refine lv_iload hx hb dX10_right_178 (lv_at hl 6 rfl) ?_
                        refine lv_istore (lv' := [(4, .int y166_5), (6, .int x28), (0, .ref (b 39)), (1, .int co), (2, .int pt), (3, .int y72_3), (5, .int y166_5)]) hx hb dX10_right_180 hl (by decide) rfl (fun ls hl => ?_)
                        refine lv_iload hx hb dX10_right_182 (lv_at hl 1 rfl) ?_
                        refine lv_istore (lv' := [(5, .int x28), (4, .int y166_5), (6, .int x28), (0, .ref (b 39)), (1, .int co), (2, .int pt), (3, .int y72_3)]) hx hb dX10_right_184 hl (by decide) rfl (fun ls hl => ?_)
                        refine lv_goto (tgt := 166) hx hb dX10_right_186 (by decide) ?_
                        exact ih166 y166_5 x28 _ (by omega) (by omega) (by omega) (by omega) (by (first | exact gm_step i166_4 (by omega) (by omega) (by first | rfl | omega) (by first | assumption | omega) | exact gm_init (by first | assumption | omega))) (by omega) (lv_sub hl [3, 4, 5, 6, 1, 0] rfl)
                  exact L166 _ y72_3 x18 _ (by omega) (by omega) (by omega) (by omega) (by (first | exact gm_init (by first | assumption | omega) | exact gm_step i166_4 (by omega) (by omega) (by first | rfl | omega) (by first | assumption | omega))) (Nat.lt_succ_self _) (lv_sub hl [2, 3, 4, 5, 1, 0] rfl)
                · have dc15 : y72_3.toInt = 0 := eqC rfl (show (0 : Int32).toInt = 0 from rfl) c15
                  refine lv_bipush (v := (-4)) hx hb dX10_right_152 (by decide) ?_
                  exact W.iret (v := (-4)) hx hb hr (fun tq ht hW => ⟨(-4), rfl, (show spRgt mmar mtop mstr mgho mfai mtel co pt ((-4) : Int32) from by (try rw [show ((-4) : Int32).toInt = (-4) from (show ((-4) : Int32).toInt = (-4) from rfl)]); (first | exact Or.inl ⟨by omega, rfl⟩ | exact Or.inr (Or.inl ⟨by omega, by omega, rfl⟩) | exact Or.inr (Or.inr (Or.inl ⟨by omega, by omega, by assumption, rfl⟩)) | exact Or.inr (Or.inr (Or.inr ⟨by omega, by omega, by assumption, Or.inl ⟨(ar_end i72_7 (by omega)).symm.trans (by omega), rfl⟩⟩)) | exact Or.inr (Or.inr (Or.inr ⟨by omega, by omega, by assumption, rg_one rfl (ar_end i72_7 (by omega)) (gm_end i166_4 (by omega) (by omega)) (by omega) (by omega) (by omega) (by assumption) (by first | exact Or.inl ⟨by omega, rfl⟩ | exact Or.inr ⟨by omega, rfl⟩)⟩)))), ht⟩) (fun q h => by cases h) dX10_right_154
              · have dc14 : y72_4.toInt < (((co.toInt) / (6)) * (6)) + (6) := nleC f13 rfl c14
                have L142 : ∀ (y142_3 : Int32) (ls : Array Slot), (0 ≤ (y142_3.toInt)) → ((y142_3.toInt) ≤ 300 + 100 * ((y72_4.toInt) - (co.toInt) / 6 * 6)) → ((y142_3.toInt) ≤ 1000) → (arI mmar mtop mstr mgho mfai mtel co ((y72_4.toInt) + 1) (y142_3.toInt)) → ((mstr co.toNatClampNeg).toInt ≤ (y142_3.toInt)) → lv_has ls 7 [(0, .ref (b 39)), (1, .int co), (2, .int pt), (3, .int y142_3), (4, .int y72_4)] → W p l e (headSpec wsX10_right { frames := 2, cells := 0, slots := 0, locals := 42 }).room s m ([.ref (b 39), .int co, .int pt] : List Value).toArray below meth c s.heap [] 0 0 (MQ below (QR (fun r : Int32 => (spRgt mmar mtop mstr mgho mfai mtel co pt r))) ([.ref (b 39), .int co, .int pt] : List Value).toArray s 0 0 (fun _ => False)) (F0 m 142 ls []) := by
                  intro y142_3 ls i142_0 i142_1 i142_2 i142_3 i142_4 hl
                  obtain ⟨z29, ez29⟩ : ∃ y : Int32, y = y72_4 + 1 := ⟨_, rfl⟩
                  have iz29 : z29.toInt = y72_4.toInt + 1 := by rw [ez29]; exact addC rfl rfl (by omega) (by omega)
                  refine lv_iinc (v := z29) (lv' := [(4, .int z29), (0, .ref (b 39)), (1, .int co), (2, .int pt), (3, .int y142_3)]) hx hb dX10_right_142 hl (k := 4) rfl (by rw [ez29]; rfl) (by decide) rfl (fun ls hl => ?_)
                  refine lv_goto (tgt := 72) hx hb dX10_right_145 (by decide) ?_
                  exact ih72 y142_3 z29 _ (by omega) (by omega) (by omega) (by omega) (by omega) (by omega) (by omega) (by (first | exact ar_init i63_2 (by omega) | exact ar_cast i142_3 (by omega))) (by omega) (by omega) (lv_sub hl [1, 2, 3, 4, 0] rfl)
                refine lv_iload_n hx hb dX10_right_87 rfl (lv_at hl 3 rfl) ?_
                refine lv_iload hx hb dX10_right_88 (lv_at hl 4 rfl) ?_
                refine lv_iload_n hx hb dX10_right_90 rfl (lv_at hl 1 rfl) ?_
                refine lv_icmp_eq (tgt := 139) hx hb dX10_right_91 (by decide) (fun c30 => ?_) (fun c30 => ?_)
                · have dc30 : y72_4.toInt = co.toInt := eqC rfl rfl c30
                  refine lv_iconst (v := 0) hx hb dX10_right_139 (by decide) ?_
                  refine lv_iadd hx hb dX10_right_140 ?_
                  have f31 : (y72_3 + 0).toInt = (y72_3.toInt) + (0) := addC rfl (show (0 : Int32).toInt = 0 from rfl) (by omega) (by omega)
                  refine lv_topi (fun x32 ex32 => ?_)
                  have ix32 : x32.toInt = (y72_3.toInt) + (0) := by rw [ex32]; exact f31
                  refine lv_istore_n (lv' := [(3, .int x32), (0, .ref (b 39)), (1, .int co), (2, .int pt), (4, .int y72_4)]) hx hb dX10_right_141 rfl hl (by decide) rfl (fun ls hl => ?_)
                  exact L142 x32 _ (by omega) (by omega) (by omega) (by (first | exact ar_yes i72_7 (crd_yesR (by assumption) (by omega) (by omega) (by omega) (by omega) (by assumption) (by omega)) (by omega) (by omega) rfl (by omega) | exact ar_no i72_7 (by first | exact crd_eq (by assumption) | exact crd_t1 (by assumption) | exact crd_noR (by assumption) (by omega)) (by omega) (by omega) rfl (by omega))) (by omega) (lv_sub hl [1, 2, 3, 0, 4] rfl)
                · have dc30 : y72_4.toInt ≠ co.toInt := neC rfl rfl c30
                  refine lv_aload_n hx hb dX10_right_94 rfl (lv_at hl 0 rfl) ?_
                  refine va_get (D := (dC, dI)) (ci := 10) (v := .ref (b 9)) (C := RX10) (T := TX10) (N := 39) hx hb hts inX10 hown hK hP 0 rfl rfl 9 (by decide) lf32 (fun _ h9 => h9) rfl dX10_right_95 ?_
                  refine lv_iload hx hb dX10_right_98 (lv_at hl 4 rfl) ?_
                  have b33 : vp_in y72_4 48 := inC rfl (by omega) (by omega)
                  refine va_iald hx hb hK hP 6 0 rfl rfl b33 dX10_right_100 ?_
                  have g34 : -1 ≤ (mtop y72_4.toNatClampNeg).toInt ∧ (mtop y72_4.toNatClampNeg).toInt ≤ 23 := rg_at r_mtop b33
                  refine lv_iconst (v := (-1)) hx hb dX10_right_101 (by decide) ?_
                  refine lv_icmp_eq (tgt := 139) hx hb dX10_right_102 (by decide) (fun c35 => ?_) (fun c35 => ?_)
                  · have dc35 : (mtop y72_4.toNatClampNeg).toInt = (-1) := eqC rfl (show ((-1) : Int32).toInt = (-1) from rfl) c35
                    refine lv_iconst (v := 0) hx hb dX10_right_139 (by decide) ?_
                    refine lv_iadd hx hb dX10_right_140 ?_
                    have f36 : (y72_3 + 0).toInt = (y72_3.toInt) + (0) := addC rfl (show (0 : Int32).toInt = 0 from rfl) (by omega) (by omega)
                    refine lv_topi (fun x37 ex37 => ?_)
                    have ix37 : x37.toInt = (y72_3.toInt) + (0) := by rw [ex37]; exact f36
                    refine lv_istore_n (lv' := [(3, .int x37), (0, .ref (b 39)), (1, .int co), (2, .int pt), (4, .int y72_4)]) hx hb dX10_right_141 rfl hl (by decide) rfl (fun ls hl => ?_)
                    exact L142 x37 _ (by omega) (by omega) (by omega) (by (first | exact ar_yes i72_7 (crd_yesR (by assumption) (by omega) (by omega) (by omega) (by omega) (by assumption) (by omega)) (by omega) (by omega) rfl (by omega) | exact ar_no i72_7 (by first | exact crd_eq (by assumption) | exact crd_t1 (by assumption) | exact crd_noR (by assumption) (by omega)) (by omega) (by omega) rfl (by omega))) (by omega) (lv_sub hl [1, 2, 3, 0, 4] rfl)
                  · have dc35 : 0 ≤ (mtop y72_4.toNatClampNeg).toInt := ka_lo (by omega) (neC rfl (show ((-1) : Int32).toInt = (-1) from rfl) c35)
                    refine lv_aload_n hx hb dX10_right_105 rfl (lv_at hl 0 rfl) ?_
                    refine lv_aload_n hx hb dX10_right_106 rfl (lv_at hl 0 rfl) ?_
                    refine va_get (D := (dC, dI)) (ci := 10) (v := .ref (b 9)) (C := RX10) (T := TX10) (N := 39) hx hb hts inX10 hown hK hP 0 rfl rfl 9 (by decide) lf32 (fun _ h9 => h9) rfl dX10_right_107 ?_
                    refine lv_iload hx hb dX10_right_110 (lv_at hl 4 rfl) ?_
                    have b38 : vp_in y72_4 48 := inC rfl (by omega) (by omega)
                    refine va_iald hx hb hK hP 6 0 rfl rfl b38 dX10_right_112 ?_
                    have g39 : -1 ≤ (mtop y72_4.toNatClampNeg).toInt ∧ (mtop y72_4.toNatClampNeg).toInt ≤ 23 := rg_at r_mtop b38
                    refine lv_aload_n hx hb dX10_right_113 rfl (lv_at hl 0 rfl) ?_
                    refine va_get (D := (dC, dI)) (ci := 10) (v := .ref (b 9)) (C := RX10) (T := TX10) (N := 39) hx hb hts inX10 hown hK hP 0 rfl rfl 9 (by decide) lf32 (fun _ h9 => h9) rfl dX10_right_114 ?_
                    refine lv_iload_n hx hb dX10_right_117 rfl (lv_at hl 1 rfl) ?_
                    have b40 : vp_in co 48 := inC rfl (by omega) (by omega)
                    refine va_iald hx hb hK hP 6 0 rfl rfl b40 dX10_right_118 ?_
                    have g41 : -1 ≤ (mtop co.toNatClampNeg).toInt ∧ (mtop co.toNatClampNeg).toInt ≤ 23 := rg_at r_mtop b40
                    refine rdV (As := [.int (mtop y72_4.toNatClampNeg), .int (mtop co.toNatClampNeg)]) (rest := [.int y72_3]) ⟨hx, hb, hml, hown, hts⟩ (k_X10_likeness l dC dI cI cZ cQ b mday mdoo mdA mdB mfar mmar mtel mgai mfal mtop mstr mgho mfai mpto mwal mahd mahf mcho mbes mbyt mtxt mpos mtka mtok mdig mnum mfau mrdm mrea mlin mlne mthg mord mbor mbsm mans mand manr mali (mtop y72_4.toNatClampNeg) (mtop co.toNatClampNeg) r_mday r_mdoo r_mdA r_mdB r_mmar r_mgai r_mfal r_mtop r_mstr r_mgho r_mfai r_mahd r_mahf r_mcho r_mbyt r_mpos r_mrdm r_mlin r_mthg r_mord r_mans (by omega) (by omega) (by omega) (by omega)) (cwV 2 hts gX10_right_X10_likeness rfl rfl rfl (by decide +kernel) ⟨Nat.le_of_ble_eq_true rfl, Nat.le_of_ble_eq_true rfl⟩) hP hK hN [0, 1, 2, 3, 4, 5, 6, 7, 8, 9, 10, 11, 12, 13, 14, 15, 16, 17, 18, 19, 20, 21, 22, 23, 24, 25] rfl 0 10 rfl rfl rfl hl.1 rfl (Nat.le_of_ble_eq_true rfl) dX10_right_119 ⟨Nat.le_of_ble_eq_true rfl, Nat.le_of_ble_eq_true rfl⟩ (fun r42 h43 => ?_)
                    have h43 : (r42 = bc (mmar (mtop y72_4.toNatClampNeg).toNatClampNeg &&& mmar (mtop co.toNatClampNeg).toNatClampNeg)) := h43
                    have h43_0 := h43
                    refine lv_aload_n hx hb dX10_right_122 rfl (lv_at hl 0 rfl) ?_
                    refine va_get (D := (dC, dI)) (ci := 10) (v := .int mtel) (C := RX10) (T := TX10) (N := 39) hx hb hts inX10 hown hK hP 0 rfl rfl 6 (by decide) lf22 (fun _ h9 => h9) rfl dX10_right_123 ?_
                    refine lv_icmp_lt (tgt := 139) hx hb dX10_right_126 (by decide) (fun c44 => ?_) (fun c44 => ?_)
                    · have dc44 : r42.toInt < mtel.toInt := ltC rfl rfl c44
                      refine lv_iconst (v := 0) hx hb dX10_right_139 (by decide) ?_
                      refine lv_iadd hx hb dX10_right_140 ?_
                      have f45 : (y72_3 + 0).toInt = (y72_3.toInt) + (0) := addC rfl (show (0 : Int32).toInt = 0 from rfl) (by omega) (by omega)
                      refine lv_topi (fun x46 ex46 => ?_)
                      have ix46 : x46.toInt = (y72_3.toInt) + (0) := by rw [ex46]; exact f45
                      refine lv_istore_n (lv' := [(3, .int x46), (0, .ref (b 39)), (1, .int co), (2, .int pt), (4, .int y72_4)]) hx hb dX10_right_141 rfl hl (by decide) rfl (fun ls hl => ?_)
                      exact L142 x46 _ (by omega) (by omega) (by omega) (by (first | exact ar_yes i72_7 (crd_yesR (by assumption) (by omega) (by omega) (by omega) (by omega) (by assumption) (by omega)) (by omega) (by omega) rfl (by omega) | exact ar_no i72_7 (by first | exact crd_eq (by assumption) | exact crd_t1 (by assumption) | exact crd_noR (by assumption) (by omega)) (by omega) (by omega) rfl (by omega))) (by omega) (lv_sub hl [1, 2, 3, 0, 4] rfl)
                    · have dc44 : mtel.toInt ≤ r42.toInt := nltC rfl rfl c44
                      refine lv_aload_n hx hb dX10_right_129 rfl (lv_at hl 0 rfl) ?_
                      refine va_get (D := (dC, dI)) (ci := 10) (v := .ref (b 10)) (C := RX10) (T := TX10) (N := 39) hx hb hts inX10 hown hK hP 0 rfl rfl 10 (by decide) lf35 (fun _ h9 => h9) rfl dX10_right_130 ?_
                      refine lv_iload hx hb dX10_right_133 (lv_at hl 4 rfl) ?_
                      have b47 : vp_in y72_4 48 := inC rfl (by omega) (by omega)
                      refine va_iald hx hb hK hP 7 0 rfl rfl b47 dX10_right_135 ?_
                      have g48 : 0 ≤ (mstr y72_4.toNatClampNeg).toInt ∧ (mstr y72_4.toNatClampNeg).toInt ≤ 100 := rg_at r_mstr b47
                      refine lv_goto (tgt := 140) hx hb dX10_right_136 (by decide) ?_
                      refine lv_iadd hx hb dX10_right_140 ?_
                      have f49 : (y72_3 + (mstr y72_4.toNatClampNeg)).toInt = (y72_3.toInt) + ((mstr y72_4.toNatClampNeg).toInt) := addC rfl rfl (by omega) (by omega)
                      refine lv_topi (fun x50 ex50 => ?_)
                      have ix50 : x50.toInt = (y72_3.toInt) + ((mstr y72_4.toNatClampNeg).toInt) := by rw [ex50]; exact f49
                      refine lv_istore_n (lv' := [(3, .int x50), (0, .ref (b 39)), (1, .int co), (2, .int pt), (4, .int y72_4)]) hx hb dX10_right_141 rfl hl (by decide) rfl (fun ls hl => ?_)
                      exact L142 x50 _ (by omega) (by omega) (by omega) (by (first | exact ar_yes i72_7 (crd_yesR (by assumption) (by omega) (by omega) (by omega) (by omega) (by assumption) (by omega)) (by omega) (by omega) rfl (by omega) | exact ar_no i72_7 (by first | exact crd_eq (by assumption) | exact crd_t1 (by assumption) | exact crd_noR (by assumption) (by omega)) (by omega) (by omega) rfl (by omega))) (by omega) (lv_sub hl [1, 2, 3, 0, 4] rfl)
          exact L72 _ y63_3 x10 _ (by omega) (by omega) (by omega) (by omega) (by omega) (by omega) (by omega) (by (first | exact ar_init i63_2 (by omega) | exact ar_cast i142_3 (by omega))) (by omega) (Nat.lt_succ_self _) (lv_sub hl [1, 2, 3, 4, 0] rfl)
        refine lv_aload_n hx hb dX10_right_35 rfl (lv_at hl 0 rfl) ?_
        refine va_get (D := (dC, dI)) (ci := 10) (v := .ref (b 10)) (C := RX10) (T := TX10) (N := 39) hx hb hts inX10 hown hK hP 0 rfl rfl 10 (by decide) lf35 (fun _ h9 => h9) rfl dX10_right_36 ?_
        refine lv_iload_n hx hb dX10_right_39 rfl (lv_at hl 1 rfl) ?_
        have b51 : vp_in co 48 := inC rfl (by omega) (by omega)
        refine va_iald hx hb hK hP 7 0 rfl rfl b51 dX10_right_40 ?_
        have g52 : 0 ≤ (mstr co.toNatClampNeg).toInt ∧ (mstr co.toNatClampNeg).toInt ≤ 100 := rg_at r_mstr b51
        refine lv_aload_n hx hb dX10_right_41 rfl (lv_at hl 0 rfl) ?_
        refine va_get (D := (dC, dI)) (ci := 10) (v := .ref (b 11)) (C := RX10) (T := TX10) (N := 39) hx hb hts inX10 hown hK hP 0 rfl rfl 11 (by decide) lf38 (fun _ h9 => h9) rfl dX10_right_42 ?_
        refine lv_iload_n hx hb dX10_right_45 rfl (lv_at hl 1 rfl) ?_
        have b53 : vp_in co 48 := inC rfl (by omega) (by omega)
        refine va_iald hx hb hK hP 8 0 rfl rfl b53 dX10_right_46 ?_
        have g54 : -1 ≤ (mgho co.toNatClampNeg).toInt ∧ (mgho co.toNatClampNeg).toInt ≤ 23 := rg_at r_mgho b53
        refine lv_iconst (v := (-1)) hx hb dX10_right_47 (by decide) ?_
        refine lv_icmp_ne (tgt := 55) hx hb dX10_right_48 (by decide) (fun c55 => ?_) (fun c55 => ?_)
        · have dc55 : 0 ≤ (mgho co.toNatClampNeg).toInt := ka_lo (by omega) (neC rfl (show ((-1) : Int32).toInt = (-1) from rfl) c55)
          refine lv_aload_n hx hb dX10_right_55 rfl (lv_at hl 0 rfl) ?_
          refine va_get (D := (dC, dI)) (ci := 10) (v := .ref (b 12)) (C := RX10) (T := TX10) (N := 39) hx hb hts inX10 hown hK hP 0 rfl rfl 12 (by decide) lf41 (fun _ h9 => h9) rfl dX10_right_56 ?_
          refine lv_iload_n hx hb dX10_right_59 rfl (lv_at hl 1 rfl) ?_
          have b56 : vp_in co 48 := inC rfl (by omega) (by omega)
          refine va_iald hx hb hK hP 9 0 rfl rfl b56 dX10_right_60 ?_
          have g57 : 0 ≤ (mfai co.toNatClampNeg).toInt ∧ (mfai co.toNatClampNeg).toInt ≤ 100 := rg_at r_mfai b56
          refine lv_iadd hx hb dX10_right_61 ?_
          have f58 : ((mstr co.toNatClampNeg) + (mfai co.toNatClampNeg)).toInt = ((mstr co.toNatClampNeg).toInt) + ((mfai co.toNatClampNeg).toInt) := addC rfl rfl (by omega) (by omega)
          refine lv_topi (fun x59 ex59 => ?_)
          have ix59 : x59.toInt = ((mstr co.toNatClampNeg).toInt) + ((mfai co.toNatClampNeg).toInt) := by rw [ex59]; exact f58
          refine lv_istore_n (lv' := [(3, .int x59), (0, .ref (b 39)), (1, .int co), (2, .int pt)]) hx hb dX10_right_62 rfl hl (by decide) rfl (fun ls hl => ?_)
          exact L63 x59 _ (by omega) (by omega) (by (first | exact sx_pos (by assumption) (by omega) | exact sx_neg (by assumption) (by omega))) (by omega) (lv_sub hl [1, 2, 3, 0] rfl)
        · have dc55 : (mgho co.toNatClampNeg).toInt = (-1) := eqC rfl (show ((-1) : Int32).toInt = (-1) from rfl) c55
          refine lv_iconst (v := 0) hx hb dX10_right_51 (by decide) ?_
          refine lv_goto (tgt := 61) hx hb dX10_right_52 (by decide) ?_
          refine lv_iadd hx hb dX10_right_61 ?_
          have f60 : ((mstr co.toNatClampNeg) + 0).toInt = ((mstr co.toNatClampNeg).toInt) + (0) := addC rfl (show (0 : Int32).toInt = 0 from rfl) (by omega) (by omega)
          refine lv_topi (fun x61 ex61 => ?_)
          have ix61 : x61.toInt = ((mstr co.toNatClampNeg).toInt) + (0) := by rw [ex61]; exact f60
          refine lv_istore_n (lv' := [(3, .int x61), (0, .ref (b 39)), (1, .int co), (2, .int pt)]) hx hb dX10_right_62 rfl hl (by decide) rfl (fun ls hl => ?_)
          exact L63 x61 _ (by omega) (by omega) (by (first | exact sx_pos (by assumption) (by omega) | exact sx_neg (by assumption) (by omega))) (by omega) (lv_sub hl [1, 2, 3, 0] rfl)
      · have dc7 : (mtop co.toNatClampNeg).toInt = (-1) := eqC rfl (show ((-1) : Int32).toInt = (-1) from rfl) c7
        refine lv_bipush (v := (-4)) hx hb dX10_right_32 (by decide) ?_
        exact W.iret (v := (-4)) hx hb hr (fun tq ht hW => ⟨(-4), rfl, (show spRgt mmar mtop mstr mgho mfai mtel co pt ((-4) : Int32) from by (try rw [show ((-4) : Int32).toInt = (-4) from (show ((-4) : Int32).toInt = (-4) from rfl)]); (first | exact Or.inl ⟨by omega, rfl⟩ | exact Or.inr (Or.inl ⟨by omega, by omega, rfl⟩) | exact Or.inr (Or.inr (Or.inl ⟨by omega, by omega, by assumption, rfl⟩)) | exact Or.inr (Or.inr (Or.inr ⟨by omega, by omega, by assumption, Or.inl ⟨(ar_end i72_7 (by omega)).symm.trans (by omega), rfl⟩⟩)) | exact Or.inr (Or.inr (Or.inr ⟨by omega, by omega, by assumption, rg_one rfl (ar_end i72_7 (by omega)) (gm_end i166_4 (by omega) (by omega)) (by omega) (by omega) (by omega) (by assumption) (by first | exact Or.inl ⟨by omega, rfl⟩ | exact Or.inr ⟨by omega, rfl⟩)⟩)))), ht⟩) (fun q h => by cases h) dX10_right_34
    · refine lv_if_ne (tgt := 22) hx hb dX10_right_16 (by decide) (fun c9 => absurd (by decide) c9) (fun _ => ?_)
      refine lv_bipush (v := (-3)) hx hb dX10_right_19 (by decide) ?_
      exact W.iret (v := (-3)) hx hb hr (fun tq ht hW => ⟨(-3), rfl, (show spRgt mmar mtop mstr mgho mfai mtel co pt ((-3) : Int32) from by (try rw [show ((-3) : Int32).toInt = (-3) from (show ((-3) : Int32).toInt = (-3) from rfl)]); (first | exact Or.inl ⟨by omega, rfl⟩ | exact Or.inr (Or.inl ⟨by omega, by omega, rfl⟩) | exact Or.inr (Or.inr (Or.inl ⟨by omega, by omega, by assumption, rfl⟩)) | exact Or.inr (Or.inr (Or.inr ⟨by omega, by omega, by assumption, Or.inl ⟨(ar_end i72_7 (by omega)).symm.trans (by omega), rfl⟩⟩)) | exact Or.inr (Or.inr (Or.inr ⟨by omega, by omega, by assumption, rg_one rfl (ar_end i72_7 (by omega)) (gm_end i166_4 (by omega) (by omega)) (by omega) (by omega) (by omega) (by assumption) (by first | exact Or.inl ⟨by omega, rfl⟩ | exact Or.inr ⟨by omega, rfl⟩)⟩)))), ht⟩) (fun q h => by cases h) dX10_right_21
  · refine lv_if_ne (tgt := 10) hx hb dX10_right_4 (by decide) (fun c9 => absurd (by decide) c9) (fun _ => ?_)
    refine lv_bipush (v := (-2)) hx hb dX10_right_7 (by decide) ?_
    exact W.iret (v := (-2)) hx hb hr (fun tq ht hW => ⟨(-2), rfl, (show spRgt mmar mtop mstr mgho mfai mtel co pt ((-2) : Int32) from by (try rw [show ((-2) : Int32).toInt = (-2) from (show ((-2) : Int32).toInt = (-2) from rfl)]); (first | exact Or.inl ⟨by omega, rfl⟩ | exact Or.inr (Or.inl ⟨by omega, by omega, rfl⟩) | exact Or.inr (Or.inr (Or.inl ⟨by omega, by omega, by assumption, rfl⟩)) | exact Or.inr (Or.inr (Or.inr ⟨by omega, by omega, by assumption, Or.inl ⟨(ar_end i72_7 (by omega)).symm.trans (by omega), rfl⟩⟩)) | exact Or.inr (Or.inr (Or.inr ⟨by omega, by omega, by assumption, rg_one rfl (ar_end i72_7 (by omega)) (gm_end i166_4 (by omega) (by omega)) (by omega) (by omega) (by omega) (by assumption) (by first | exact Or.inl ⟨by omega, rfl⟩ | exact Or.inr ⟨by omega, rfl⟩)⟩)))), ht⟩) (fun q h => by cases h) dX10_right_9
end
section
-- ===== how many DOORS lie between: a metric =====
def dv (v : Int32) : Int := if v.toInt = -1 then 100 else v.toInt
def dd (few : Nat → Int32) (x y : Nat) : Int := dv (few (x * 8 + y))
def met (D : Nat → Nat → Int) : Prop := ∀ x y : Nat, x < 8 → y < 8 → (0 ≤ D x y ∧ (D x y ≤ 7 ∨ D x y = 100)) ∧ (D x y = 0 ↔ x = y) ∧ D x y = D y x ∧ (∀ z : Nat, z < 8 → D x y ≤ D x z + D z y) ∧ (1 < D x y → D x y ≤ 7 → ∃ z : Nat, z < 8 ∧ D x z + 1 = D x y ∧ D z y = 1)
def mtOK (few : Nat → Int32) : Prop := (∀ x y : Nat, x < 8 → y < 8 → -1 ≤ (few (x * 8 + y)).toInt ∧ (few (x * 8 + y)).toInt ≤ 7) ∧ met (dd few)
def mn (D : Nat → Nat → Int) (a b x y : Nat) : Int := min (D x y) (min (D x a + 1 + D b y) (D x b + 1 + D a y))
theorem mn_sw {D : Nat → Nat → Int} {a b x y : Nat} : mn D a b x y = mn D b a x y := by unfold mn; omega
-- nine rooms can't lie at nine distances
def ctF (f : Nat → Int) (n : Int) : Nat → Nat
  | 0 => 0
  | k + 1 => ctF f n k + (if f k < n then 1 else 0)
theorem ct_le {f : Nat → Int} {n : Int} : ∀ k, ctF f n k ≤ k
  | 0 => Nat.le_refl 0
  | k + 1 => by
    have := ct_le (f := f) (n := n) k
    show ctF f n k + (if f k < n then 1 else 0) ≤ k + 1
    by_cases c : f k < n
    · rw [if_pos c]; omega
    · rw [if_neg c]; omega
theorem ct_mono {f : Nat → Int} {n : Int} : ∀ k, ctF f n k ≤ ctF f (n + 1) k
  | 0 => Nat.le_refl 0
  | k + 1 => by
    have := ct_mono (f := f) (n := n) k
    show ctF f n k + (if f k < n then 1 else 0) ≤ ctF f (n + 1) k + (if f k < n + 1 then 1 else 0)
    by_cases c : f k < n
    · rw [if_pos c, if_pos (by omega)]; omega
    · rw [if_neg c]; omega
theorem ct_up {f : Nat → Int} {n : Int} {z : Nat} (hz : f z = n) : ∀ k, z < k → ctF f n k + 1 ≤ ctF f (n + 1) k
  | 0, h => absurd h (Nat.not_lt_zero _)
  | k + 1, h => by
    have m := ct_mono (f := f) (n := n) k
    show ctF f n k + (if f k < n then 1 else 0) + 1 ≤ ctF f (n + 1) k + (if f k < n + 1 then 1 else 0)
    by_cases e : z = k
    · subst e
      rw [if_neg (by omega), if_pos (by omega)]; omega
    · have i := ct_up hz k (by omega)
      by_cases c : f k < n
      · rw [if_pos c, if_pos (by omega)]; omega
      · rw [if_neg c]; omega
theorem ct_all {f : Nat → Int} {k : Nat} : ∀ n : Nat, (∀ i : Nat, i < n → ∃ z : Nat, z < k ∧ f z = (i : Int)) → n ≤ ctF f (n : Int) k
  | 0, _ => Nat.zero_le _
  | n + 1, h => by
    have i := ct_all n (fun i hi => h i (by omega))
    obtain ⟨z, hz, e⟩ := h n (by omega)
    have u := ct_up e k hz
    rw [show ((n + 1 : Nat) : Int) = (n : Int) + 1 from rfl]
    omega
theorem lv_all {D : Nat → Nat → Int} {x y : Nat} {K : Nat} (hx : x < 8) (hy : y < 8) (h0 : ∀ z : Nat, z < 8 → 0 ≤ D x z) (hxx : D x x = 0) (hs : ∀ z : Nat, z < 8 → 1 < D x z → D x z ≤ K → ∃ w : Nat, w < 8 ∧ D x w + 1 = D x z) (hk : D x y = (K : Int)) : ∀ j : Nat, j ≤ K → ∃ z : Nat, z < 8 ∧ D x z = (K : Int) - j
  | 0, _ => ⟨y, hy, by omega⟩
  | j + 1, hj => by
    obtain ⟨z, hz, e⟩ := lv_all hx hy h0 hxx hs hk j (by omega)
    by_cases c : 1 < D x z
    · obtain ⟨w, hw, ew⟩ := hs z hz c (by omega)
      exact ⟨w, hw, by omega⟩
    · exact ⟨x, hx, by omega⟩
theorem le7 {D : Nat → Nat → Int} {x y : Nat} (hx : x < 8) (hy : y < 8) (h0 : ∀ z : Nat, z < 8 → 0 ≤ D x z) (hxx : D x x = 0) (hs : ∀ z : Nat, z < 8 → 1 < D x z → D x z ≤ 15 → ∃ w : Nat, w < 8 ∧ D x w + 1 = D x z) (hk : D x y ≤ 15) : D x y ≤ 7 := by
  refine Classical.byContradiction fun c => ?_
  have hK : D x y = ((D x y).toNat : Int) := by have := h0 y hy; omega
  have la := lv_all (K := (D x y).toNat) hx hy h0 hxx (fun z hz h1 h2 => hs z hz h1 (by omega)) hK
  have al := ct_all (f := fun z => D x z) (k := 8) 9 (fun i hi => by
    obtain ⟨z, hz, e⟩ := la ((D x y).toNat - i) (by omega)
    exact ⟨z, hz, by show D x z = _; omega⟩)
  have := ct_le (f := fun z => D x z) (n := ((9 : Nat) : Int)) 8
  omega
theorem mn_tri {D : Nat → Nat → Int} (h : met D) {a b x y z : Nat} (ha : a < 8) (hb : b < 8) (hx : x < 8) (hy : y < 8) (hz : z < 8) : mn D a b x y ≤ mn D a b x z + mn D a b z y := by
  have t1 := (h x y hx hy).2.2.2.1 z hz
  have t2 := (h x a hx ha).2.2.2.1 z hz
  have t3 := (h x b hx hb).2.2.2.1 z hz
  have t4 := (h b y hb hy).2.2.2.1 z hz
  have t5 := (h a y ha hy).2.2.2.1 z hz
  have t6 := (h x y hx hy).2.2.2.1 a ha
  have t7 := (h x y hx hy).2.2.2.1 b hb
  have n1 := (h x z hx hz).1.1
  have n2 := (h z y hz hy).1.1
  have n3 := (h b z hb hz).1.1
  have n4 := (h a z ha hz).1.1
  have n5 := (h z a hz ha).1.1
  have n6 := (h z b hz hb).1.1
  unfold mn
  omega
theorem mn_met {D : Nat → Nat → Int} (h : met D) {a b : Nat} (ha : a < 8) (hb : b < 8) (hab : a ≠ b) : met (mn D a b) := by
  have haa : D a a = 0 := (h a a ha ha).2.1.mpr rfl
  have hbb : D b b = 0 := (h b b hb hb).2.1.mpr rfl
  have m0 : ∀ x y : Nat, x < 8 → y < 8 → 0 ≤ mn D a b x y ∧ (mn D a b x y ≤ 15 ∨ mn D a b x y = 100) := by
    intro x y hx hy
    have a1 := (h x y hx hy).1
    have a2 := (h x a hx ha).1
    have a3 := (h b y hb hy).1
    have a4 := (h x b hx hb).1
    have a5 := (h a y ha hy).1
    unfold mn
    omega
  have mz : ∀ x y : Nat, x < 8 → y < 8 → (mn D a b x y = 0 ↔ x = y) := by
    intro x y hx hy
    have a1 := (h x y hx hy).1.1
    have a2 := (h x a hx ha).1.1
    have a3 := (h b y hb hy).1.1
    have a4 := (h x b hx hb).1.1
    have a5 := (h a y ha hy).1.1
    refine ⟨fun q => ?_, fun q => ?_⟩
    · refine (h x y hx hy).2.1.mp ?_
      unfold mn at q
      omega
    · have e := (h x y hx hy).2.1.mpr q
      unfold mn
      omega
  have ms : ∀ x y : Nat, x < 8 → y < 8 → 1 < mn D a b x y → mn D a b x y ≤ 15 → ∃ z : Nat, z < 8 ∧ mn D a b x z + 1 = mn D a b x y ∧ mn D a b z y = 1 := by
    intro x y hx hy g1 g2
    have fin : ∀ z : Nat, z < 8 → z ≠ y → mn D a b x z + 1 ≤ mn D a b x y → mn D a b z y ≤ 1 → ∃ z : Nat, z < 8 ∧ mn D a b x z + 1 = mn D a b x y ∧ mn D a b z y = 1 := by
      intro z hz zy k1 k2
      have t := mn_tri h ha hb hx hy hz
      have z0 : mn D a b z y ≠ 0 := fun q => zy ((mz z y hz hy).mp q)
      have z1 := (m0 z y hz hy).1
      exact ⟨z, hz, by omega, by omega⟩
    have half : ∀ a b : Nat, a < 8 → b < 8 → a ≠ b → D a a = 0 → D b b = 0 → (∀ x y : Nat, mn D a b x y = mn D a b x y) → mn D a b x y = D x a + 1 + D b y → mn D a b x y ≤ 15 → ∃ z : Nat, z < 8 ∧ z ≠ y ∧ mn D a b x z + 1 ≤ mn D a b x y ∧ mn D a b z y ≤ 1 := by
      intro a b ha hb hab haa hbb _ e g2
      have by0 := (h b y hb hy).1
      have xa0 := (h x a hx ha).1
      by_cases c0 : D b y = 0
      · have eb := (h b y hb hy).2.1.mp c0
        subst eb
        refine ⟨a, ha, hab, ?_, ?_⟩
        · have : mn D a b x a ≤ D x a := by unfold mn; omega
          omega
        · have : mn D a b a b ≤ D a a + 1 + D b b := by unfold mn; omega
          omega
      · by_cases c1 : D b y = 1
        · refine ⟨b, hb, fun q => ?_, ?_, ?_⟩
          · rw [q] at c1; have := (h y y hy hy).2.1.mpr rfl; omega
          · have : mn D a b x b ≤ D x a + 1 + D b b := by unfold mn; omega
            omega
          · have : mn D a b b y ≤ D b y := by unfold mn; omega
            omega
        · obtain ⟨z, hz, e1, e2⟩ := (h b y hb hy).2.2.2.2 (by omega) (by omega)
          refine ⟨z, hz, fun q => ?_, ?_, ?_⟩
          · rw [q] at e2; have := (h y y hy hy).2.1.mpr rfl; omega
          · have : mn D a b x z ≤ D x a + 1 + D b z := by unfold mn; omega
            omega
          · have : mn D a b z y ≤ D z y := by unfold mn; omega
            omega
    have cs : mn D a b x y = D x y ∨ mn D a b x y = D x a + 1 + D b y ∨ mn D a b x y = D x b + 1 + D a y := by unfold mn; omega
    rcases cs with e | e | e
    · have xy0 := (h x y hx hy).1
      obtain ⟨z, hz, e1, e2⟩ := (h x y hx hy).2.2.2.2 (by omega) (by omega)
      refine fin z hz (fun q => ?_) ?_ ?_
      · rw [q] at e2; have := (h y y hy hy).2.1.mpr rfl; omega
      · have : mn D a b x z ≤ D x z := by unfold mn; omega
        omega
      · have : mn D a b z y ≤ D z y := by unfold mn; omega
        omega
    · obtain ⟨z, hz, k0, k1, k2⟩ := half a b ha hb hab haa hbb (fun _ _ => rfl) e g2
      exact fin z hz k0 k1 k2
    · have e' : mn D b a x y = D x b + 1 + D a y := by rw [← mn_sw]; exact e
      obtain ⟨z, hz, k0, k1, k2⟩ := half b a hb ha (fun q => hab q.symm) hbb haa (fun _ _ => rfl) e' (by rw [← mn_sw]; exact g2)
      rw [← mn_sw (a := a), ← mn_sw (a := a)] at k1
      rw [← mn_sw (a := a)] at k2
      exact fin z hz k0 k1 k2
  intro x y hx hy
  refine ⟨⟨(m0 x y hx hy).1, ?_⟩, mz x y hx hy, ?_, fun z hz => mn_tri h ha hb hx hy hz, fun g1 g2 => ms x y hx hy g1 (by omega)⟩
  · rcases (m0 x y hx hy).2 with q | q
    · left
      refine le7 hx hy (fun z hz => (m0 x z hx hz).1) ((mz x x hx hx).mpr rfl) (fun z hz g1 g2 => ?_) q
      obtain ⟨w, hw, e, -⟩ := ms x z hx hz g1 g2
      exact ⟨w, hw, e⟩
    · right; exact q
  · have s1 := (h x y hx hy).2.2.1
    have s2 := (h x a hx ha).2.2.1
    have s3 := (h x b hx hb).2.2.1
    have s4 := (h b y hb hy).2.2.1
    have s5 := (h a y ha hy).2.2.1
    unfold mn
    omega
-- shorten, join
theorem dv_rg {v : Int32} (h0 : -1 ≤ v.toInt) (h1 : v.toInt ≤ 31) : 0 ≤ dv v ∧ (dv v ≤ 31 ∨ dv v = 100) := by
  unfold dv
  by_cases c : v.toInt = -1
  · rw [if_pos c]; omega
  · rw [if_neg c]; omega
theorem dv_m1 {v : Int32} (h : v.toInt = -1) : dv v = 100 := by unfold dv; rw [if_pos h]
theorem dv_nn {v : Int32} (h : 0 ≤ v.toInt) : dv v = v.toInt := by unfold dv; rw [if_neg (by omega)]
def shS (few : Nat → Int32) (fr to bf bh : Int32) (few' : Nat → Int32) : Prop := ∃ v : Int32, few' = upd few (fr.toInt * 8 + to.toInt).toNat v ∧ (v = few (fr.toInt * 8 + to.toInt).toNat ∨ (0 ≤ bf.toInt ∧ 0 ≤ bh.toInt ∧ v.toInt = bf.toInt + 1 + bh.toInt)) ∧ dv v = min (dv (few (fr.toInt * 8 + to.toInt).toNat)) (dv bf + 1 + dv bh)
theorem sh_same {few : Nat → Int32} {fr to bf bh : Int32} (h : dv (few (fr.toInt * 8 + to.toInt).toNat) ≤ dv bf + 1 + dv bh) : shS few fr to bf bh few := by
  refine ⟨few (fr.toInt * 8 + to.toInt).toNat, ?_, .inl rfl, by omega⟩
  funext j
  by_cases e : j = (fr.toInt * 8 + to.toInt).toNat
  · subst e; rw [pk_us]
  · rw [pk_un e]
theorem sh_m1 {few : Nat → Int32} {fr to bf bh : Int32} (hk : -1 ≤ (few (fr.toInt * 8 + to.toInt).toNat).toInt ∧ (few (fr.toInt * 8 + to.toInt).toNat).toInt ≤ 31) (h1 : -1 ≤ bf.toInt ∧ bf.toInt ≤ 31) (h2 : -1 ≤ bh.toInt ∧ bh.toInt ≤ 31) (h : bf.toInt = -1 ∨ bh.toInt = -1) : shS few fr to bf bh few := by
  refine sh_same ?_
  have a := dv_rg hk.1 hk.2
  have b := dv_rg h1.1 h1.2
  have c := dv_rg h2.1 h2.2
  rcases h with h | h
  · rw [dv_m1 h]; omega
  · rw [dv_m1 h]; omega
theorem sh_keep {few : Nat → Int32} {fr to bf bh k : Int32} (h1 : 0 ≤ bf.toInt) (h2 : 0 ≤ bh.toInt) (ek : k = few (fr.toInt * 8 + to.toInt).toNat) (h0 : 0 ≤ k.toInt) (h : k.toInt ≤ bf.toInt + 1 + bh.toInt) : shS few fr to bf bh few := by
  refine sh_same ?_
  rw [← ek, dv_nn h1, dv_nn h2, dv_nn h0]; omega
theorem sh_put {few few' : Nat → Int32} {fr to bf bh k v : Int32} {i : Nat} (e : few' = upd few i v) (ei : i = (fr.toInt * 8 + to.toInt).toNat) (ek : k = few (fr.toInt * 8 + to.toInt).toNat) (hv : v.toInt = bf.toInt + 1 + bh.toInt) (h1 : 0 ≤ bf.toInt ∧ bf.toInt ≤ 31) (h2 : 0 ≤ bh.toInt ∧ bh.toInt ≤ 31) (h : k.toInt = -1 ∨ (0 ≤ k.toInt ∧ v.toInt < k.toInt)) : shS few fr to bf bh few' := by
  subst ei
  refine ⟨v, e, .inr ⟨h1.1, h2.1, hv⟩, ?_⟩
  rw [← ek, dv_nn h1.1, dv_nn h2.1, dv_nn (by omega), hv]
  rcases h with h | h
  · rw [dv_m1 h]; omega
  · rw [dv_nn h.1]; omega
def jnI (few : Nat → Int32) (a b : Nat) (i j : Int) (C : Nat → Int32) : Prop := ∀ x y : Nat, x < 8 → y < 8 → (-1 ≤ (C (x * 8 + y)).toInt ∧ (C (x * 8 + y)).toInt ≤ 15) ∧ (((x : Int) < i ∨ ((x : Int) = i ∧ (y : Int) < j)) → dv (C (x * 8 + y)) = mn (dd few) a b x y) ∧ (¬ ((x : Int) < i ∨ ((x : Int) = i ∧ (y : Int) < j)) → C (x * 8 + y) = few (x * 8 + y))
theorem jn_init {few : Nat → Int32} {a b : Nat} {i j : Int} (h : mtOK few) (hi : i = 0) (hj : j = 0) : jnI few a b i j few := fun x y hx hy => ⟨⟨(h.1 x y hx hy).1, by have := (h.1 x y hx hy).2; omega⟩, fun q => by omega, fun _ => rfl⟩
theorem jn_row {few C : Nat → Int32} {a b : Nat} {i j i' j' : Int} (q : jnI few a b i j C) (hj : j = 8) (hi : i' = i + 1) (hj' : j' = 0) : jnI few a b i' j' C := by
  intro x y hx hy
  have w := q x y hx hy
  exact ⟨w.1, fun z => w.2.1 (by omega), fun z => w.2.2 (by omega)⟩
theorem jn_bt {few C : Nat → Int32} {a b x y : Nat} {i j : Int} (h : mtOK few) (q : jnI few a b i j C) (hx : x < 8) (hy : y < 8) : mn (dd few) a b x y ≤ dv (C (x * 8 + y)) ∧ dv (C (x * 8 + y)) ≤ dd few x y := by
  have w := q x y hx hy
  have z : mn (dd few) a b x y ≤ dd few x y := by unfold mn; omega
  by_cases c : (x : Int) < i ∨ ((x : Int) = i ∧ (y : Int) < j)
  · rw [w.2.1 c]; omega
  · rw [w.2.2 c]; exact ⟨z, Int.le_refl _⟩
theorem ix_ne {x y p q : Nat} (hy : y < 8) (hq : q < 8) (h : ¬ (x = p ∧ y = q)) : x * 8 + y ≠ p * 8 + q := by omega
theorem jn_step {few C C1 C2 : Nat → Int32} {a b f t r1 r2 r3 r4 : Int32} {j' : Int} (h : mtOK few) (ha : 0 ≤ a.toInt ∧ a.toInt ≤ 7) (hb : 0 ≤ b.toInt ∧ b.toInt ≤ 7) (hab : a.toInt ≠ b.toInt) (hf : 0 ≤ f.toInt ∧ f.toInt ≤ 7) (ht : 0 ≤ t.toInt ∧ t.toInt ≤ 7) (q : jnI few a.toInt.toNat b.toInt.toNat f.toInt t.toInt C) (e1 : r1 = C (f.toInt * 8 + a.toInt).toNat) (e2 : r2 = C (b.toInt * 8 + t.toInt).toNat) (s1 : shS C f t r1 r2 C1) (e3 : r3 = C1 (f.toInt * 8 + b.toInt).toNat) (e4 : r4 = C1 (a.toInt * 8 + t.toInt).toNat) (s2 : shS C1 f t r3 r4 C2) (hj : j' = t.toInt + 1) : jnI few a.toInt.toNat b.toInt.toNat f.toInt j' C2 := by
  subst hj
  obtain ⟨an, ea⟩ : ∃ n : Nat, n = a.toInt.toNat := ⟨_, rfl⟩
  obtain ⟨bn, eb⟩ : ∃ n : Nat, n = b.toInt.toNat := ⟨_, rfl⟩
  obtain ⟨fn, ef⟩ : ∃ n : Nat, n = f.toInt.toNat := ⟨_, rfl⟩
  obtain ⟨tn, et⟩ : ∃ n : Nat, n = t.toInt.toNat := ⟨_, rfl⟩
  rw [← ea, ← eb] at q ⊢
  have a8 : an < 8 := by omega
  have b8 : bn < 8 := by omega
  have f8 : fn < 8 := by omega
  have t8 : tn < 8 := by omega
  have abn : an ≠ bn := by omega
  rw [show (f.toInt * 8 + a.toInt).toNat = fn * 8 + an by omega] at e1
  rw [show (b.toInt * 8 + t.toInt).toNat = bn * 8 + tn by omega] at e2
  rw [show (f.toInt * 8 + b.toInt).toNat = fn * 8 + bn by omega] at e3
  rw [show (a.toInt * 8 + t.toInt).toNat = an * 8 + tn by omega] at e4
  obtain ⟨v1, d1, p1, p3⟩ := s1
  obtain ⟨v2, d2, k1, k3⟩ := s2
  rw [show (f.toInt * 8 + t.toInt).toNat = fn * 8 + tn by omega] at d1 p1 p3 d2 k1 k3
  have cft := (q fn tn f8 t8).1
  have cfa := (q fn an f8 a8).1
  have cbt := (q bn tn b8 t8).1
  rw [← e1] at cfa
  rw [← e2] at cbt
  have hv1 : -1 ≤ v1.toInt ∧ v1.toInt ≤ 31 := by
    rcases p1 with p | p
    · rw [p]; omega
    · omega
  have c1r : ∀ x y : Nat, x < 8 → y < 8 → -1 ≤ (C1 (x * 8 + y)).toInt ∧ (C1 (x * 8 + y)).toInt ≤ 31 := by
    intro x y hx hy
    by_cases c : x = fn ∧ y = tn
    · obtain ⟨rfl, rfl⟩ := c
      rw [d1, pk_us]; exact hv1
    · rw [d1, pk_un (ix_ne hy t8 c)]; have := (q x y hx hy).1; omega
  have cfb := c1r fn bn f8 b8
  have cat := c1r an tn a8 t8
  rw [← e3] at cfb
  rw [← e4] at cat
  have hv2 : -1 ≤ v2.toInt ∧ v2.toInt ≤ 63 := by
    rcases k1 with p | p
    · have := c1r fn tn f8 t8; rw [p]; omega
    · omega
  have mm := mn_met h.2 a8 b8 abn
  have mab : mn (dd few) an bn an bn ≤ 1 := by
    have z1 : dd few an an = 0 := (h.2 an an a8 a8).2.1.mpr rfl
    have z2 : dd few bn bn = 0 := (h.2 bn bn b8 b8).2.1.mpr rfl
    unfold mn; omega
  have mba : mn (dd few) an bn bn an ≤ 1 := by
    have := (mm an bn a8 b8).2.2.1; omega
  have wft := jn_bt h q f8 t8
  have wfa := jn_bt h q f8 a8
  have wbt := jn_bt h q b8 t8
  rw [e1, e2] at p3
  have T1 := (mm fn tn f8 t8).2.2.2.1 an a8
  have T2 := (mm an tn a8 t8).2.2.2.1 bn b8
  have T3 := (mm fn tn f8 t8).2.2.2.1 bn b8
  have T4 := (mm bn tn b8 t8).2.2.2.1 an a8
  have lo1 : mn (dd few) an bn fn tn ≤ dv v1 := by omega
  have hi1 : dv v1 ≤ dd few fn tn := by omega
  have hi2 : dv v1 ≤ dd few fn an + 1 + dd few bn tn := by omega
  have bt1 : ∀ x y : Nat, x < 8 → y < 8 → mn (dd few) an bn x y ≤ dv (C1 (x * 8 + y)) ∧ dv (C1 (x * 8 + y)) ≤ dd few x y := by
    intro x y hx hy
    by_cases c : x = fn ∧ y = tn
    · obtain ⟨rfl, rfl⟩ := c
      rw [d1, pk_us]; exact ⟨lo1, hi1⟩
    · rw [d1, pk_un (ix_ne hy t8 c)]; exact jn_bt h q hx hy
  have wfb := bt1 fn bn f8 b8
  have wat := bt1 an tn a8 t8
  rw [e3, e4, d1, pk_us, ← d1] at k3
  have eqm : dv v2 = mn (dd few) an bn fn tn := by
    have lo2 : mn (dd few) an bn fn tn ≤ dv v2 := by omega
    have up : dv v2 ≤ mn (dd few) an bn fn tn := by
      have : mn (dd few) an bn fn tn = min (dd few fn tn) (min (dd few fn an + 1 + dd few bn tn) (dd few fn bn + 1 + dd few an tn)) := rfl
      omega
    omega
  intro x y hx hy
  by_cases c : x = fn ∧ y = tn
  · obtain ⟨rfl, rfl⟩ := c
    rw [d2, pk_us]
    have b1 := (mm x y hx hy).1
    refine ⟨⟨hv2.1, ?_⟩, fun _ => eqm, fun z => absurd (Or.inr ⟨by omega, by omega⟩) z⟩
    by_cases g : v2.toInt = -1
    · omega
    · have := dv_nn (v := v2) (by omega)
      omega
  · have ne := ix_ne hy t8 c
    rw [d2, pk_un ne, d1, pk_un ne]
    have w := q x y hx hy
    exact ⟨w.1, fun z => w.2.1 (by omega), fun z => w.2.2 (by omega)⟩
theorem jn_cast {few C : Nat → Int32} {a b : Nat} {i j i' j' : Int} (q : jnI few a b i j C) (hi : i' = i) (hj : j' = j) : jnI few a b i' j' C := by subst hi; subst hj; exact q
theorem jn_at {few C : Nat → Int32} {a b : Nat} {i j : Int} {x y r : Int32} (q : jnI few a b i j C) (hx : 0 ≤ x.toInt ∧ x.toInt ≤ 7) (hy : 0 ≤ y.toInt ∧ y.toInt ≤ 7) (e : r = C (x.toInt * 8 + y.toInt).toNat) : -1 ≤ r.toInt ∧ r.toInt ≤ 15 := by
  rw [e, show (x.toInt * 8 + y.toInt).toNat = x.toInt.toNat * 8 + y.toInt.toNat by omega]
  exact (q _ _ (by omega) (by omega)).1
theorem jn_at1 {few C C1 : Nat → Int32} {a b : Nat} {i j : Int} {f t x y r r1 r2 : Int32} (q : jnI few a b i j C) (s1 : shS C f t r1 r2 C1) (w1 : -1 ≤ r1.toInt ∧ r1.toInt ≤ 15) (w2 : -1 ≤ r2.toInt ∧ r2.toInt ≤ 15) (hf : 0 ≤ f.toInt ∧ f.toInt ≤ 7) (ht : 0 ≤ t.toInt ∧ t.toInt ≤ 7) (hx : 0 ≤ x.toInt ∧ x.toInt ≤ 7) (hy : 0 ≤ y.toInt ∧ y.toInt ≤ 7) (e : r = C1 (x.toInt * 8 + y.toInt).toNat) : -1 ≤ r.toInt ∧ r.toInt ≤ 31 := by
  obtain ⟨v1, d1, p1, -⟩ := s1
  have wft := jn_at (x := f) (y := t) q hf ht rfl
  have wxy := jn_at (x := x) (y := y) q hx hy rfl
  rw [e, d1]
  by_cases c : (x.toInt * 8 + y.toInt).toNat = (f.toInt * 8 + t.toInt).toNat
  · rw [c, pk_us]
    rcases p1 with p | p
    · rw [p]; omega
    · omega
  · rw [pk_un c]; omega
def jnS (few : Nat → Int32) (a b : Int32) (few' : Nat → Int32) : Prop := ∀ x y : Nat, x < 8 → y < 8 → dd few' x y = mn (dd few) a.toInt.toNat b.toInt.toNat x y
theorem jn_end {few C : Nat → Int32} {a b : Int32} {i j : Int} (q : jnI few a.toInt.toNat b.toInt.toNat i j C) (hi : 8 ≤ i) : jnS few a b C := fun x y hx hy => (q x y hx hy).2.1 (Or.inl (by omega))
theorem jn_mt {few C : Nat → Int32} {a b : Int32} {i j : Int} (h : mtOK few) (ha : 0 ≤ a.toInt ∧ a.toInt ≤ 7) (hb : 0 ≤ b.toInt ∧ b.toInt ≤ 7) (hab : a.toInt ≠ b.toInt) (q : jnI few a.toInt.toNat b.toInt.toNat i j C) (hi : 8 ≤ i) : mtOK C := by
  have mm := mn_met h.2 (a := a.toInt.toNat) (b := b.toInt.toNat) (by omega) (by omega) (by omega)
  have e : ∀ x y : Nat, x < 8 → y < 8 → dd C x y = mn (dd few) a.toInt.toNat b.toInt.toNat x y := jn_end q hi
  refine ⟨fun x y hx hy => ?_, fun x y hx hy => ?_⟩
  · have w := (q x y hx hy).1
    have b1 := (mm x y hx hy).1
    refine ⟨w.1, ?_⟩
    by_cases g : (C (x * 8 + y)).toInt = -1
    · omega
    · have z := dv_nn (v := C (x * 8 + y)) (by omega)
      have z2 : dv (C (x * 8 + y)) = mn (dd few) a.toInt.toNat b.toInt.toNat x y := e x y hx hy
      omega
  · have m := mm x y hx hy
    rw [e x y hx hy, e y x hy hx]
    refine ⟨m.1, m.2.1, m.2.2.1, fun z hz => ?_, fun g1 g2 => ?_⟩
    · rw [e x z hx hz, e z y hz hy]; exact m.2.2.2.1 z hz
    · obtain ⟨z, hz, k1, k2⟩ := m.2.2.2.2 g1 g2
      exact ⟨z, hz, by rw [e x z hx hz]; exact k1, by rw [e z y hz hy]; exact k2⟩
theorem mt_init {few : Nat → Int32} (h : ∀ x y : Nat, x < 8 → y < 8 → (few (x * 8 + y)).toInt = (if x = y then 0 else -1)) : mtOK few := by
  have e : ∀ x y : Nat, x < 8 → y < 8 → dd few x y = (if x = y then 0 else 100) := by
    intro x y hx hy
    have w := h x y hx hy
    by_cases c : x = y
    · rw [if_pos c] at w ⊢; exact (dv_nn (by omega)).trans w
    · rw [if_neg c] at w ⊢; exact dv_m1 w
  refine ⟨fun x y hx hy => ?_, fun x y hx hy => ?_⟩
  · rw [h x y hx hy]
    by_cases c : x = y
    · rw [if_pos c]; omega
    · rw [if_neg c]; omega
  · rw [e x y hx hy, e y x hy hx]
    by_cases c : x = y
    · subst c
      rw [if_pos rfl]
      refine ⟨by omega, ⟨fun _ => rfl, fun _ => rfl⟩, rfl, fun z hz => ?_, fun g => by omega⟩
      rw [e x z hx hz, e z x hz hx]
      by_cases d : x = z
      · subst d; rw [if_pos rfl]; omega
      · rw [if_neg d, if_neg (fun q => d q.symm)]; omega
    · rw [if_neg c, if_neg (fun q => c q.symm)]
      refine ⟨by omega, ⟨fun q => by omega, fun q => absurd q c⟩, rfl, fun z hz => ?_, fun _ g => by omega⟩
      rw [e x z hx hz, e z y hz hy]
      by_cases d : x = z
      · subst d; rw [if_pos rfl, if_neg c]; omega
      · rw [if_neg d]
        by_cases d2 : z = y
        · rw [if_pos d2]; omega
        · rw [if_neg d2]; omega
def di0 (few : Nat → Int32) : Prop := ∀ x y : Nat, x < 8 → y < 8 → (few (x * 8 + y)).toInt = (if x = y then 0 else -1)
def diI (i : Int) (few : Nat → Int32) : Prop := ∀ x y : Nat, x < 8 → y < 8 → (few (x * 8 + y)).toInt = (if x = y ∧ (x : Int) < i then 0 else -1)
theorem di_init {few : Nat → Int32} {i : Int} (h : ∀ j, j < 64 → few j = -1) (hi : i = 0) : diI i few := by
  intro x y hx hy
  rw [if_neg (by omega), h _ (by omega)]; rfl
theorem di_step {few few' : Nat → Int32} {y v : Int32} {k : Nat} {i : Int} (q : diI y.toInt few) (e : few' = upd few k v) (hk : k = (y.toInt * 8 + y.toInt).toNat) (h0 : 0 ≤ y.toInt) (h1 : y.toInt < 8) (hv : v.toInt = 0) (hi : i = y.toInt + 1) : diI i few' := by
  subst hk; subst e; subst hi
  intro p r hp hr
  have w := q p r hp hr
  by_cases c : p * 8 + r = (y.toInt * 8 + y.toInt).toNat
  · rw [c, pk_us, hv, if_pos (by omega)]
  · rw [pk_un c, w]
    by_cases d : p = r ∧ (p : Int) < y.toInt
    · rw [if_pos d, if_pos (by omega)]
    · rw [if_neg d, if_neg (by omega)]
theorem di_end {few : Nat → Int32} {i : Int} (q : diI i few) (hi : 8 ≤ i) : di0 few := by
  intro x y hx hy
  rw [q x y hx hy]
  by_cases c : x = y
  · rw [if_pos c, if_pos (by omega)]
  · rw [if_neg c, if_neg (by omega)]
theorem mt_di {few : Nat → Int32} (h : di0 few) : mtOK few := mt_init h
theorem mt_at {few : Nat → Int32} {x y : Int32} (h : mtOK few) (hx : 0 ≤ x.toInt ∧ x.toInt ≤ 7) (hy : 0 ≤ y.toInt ∧ y.toInt ≤ 7) : -1 ≤ (few (x.toInt * 8 + y.toInt).toNat).toInt ∧ (few (x.toInt * 8 + y.toInt).toNat).toInt ≤ 7 := by
  rw [show (x.toInt * 8 + y.toInt).toNat = x.toInt.toNat * 8 + y.toInt.toNat by omega]; exact h.1 _ _ (by omega) (by omega)
set_option maxHeartbeats 4000000 in
set_option maxRecDepth 100000 in
theorem k_X8_between2 (l : Launch) (dC : Nat → ClassId) (dI : Nat → Nat → Nat) (cI cZ cQ : ClassId) (a : Nat → Nat) (few : Nat → Int32) (doo : Int32) (x : Int32) (y : Int32) (q0 : 0 ≤ x.toInt) (q1 : x.toInt ≤ 7) (q2 : 0 ≤ y.toInt) (q3 : y.toInt ≤ 7) : KR l yX8_between wsX8_between { frames := 0, cells := 0, slots := 0, locals := 0 } (dC, dI) (TY cI cZ cQ) (wWys cI cZ cQ a few doo) [.ref (a 0), .int x, .int y] (fun r : Int32 => (r = few (x.toInt * 8 + y.toInt).toNat) ∧ (r.toInt = (few (x.toInt * 8 + y.toInt).toNat).toInt)) := by
  refine Met.ofW (cc := cX8_between) (maxL := 3) (ret := (some .int)) (by decide) rfl ?_
  intro p e s m args below meth c s₁ B hml hv
  obtain ⟨rfl, hP, hK, hN⟩ := hv
  have hx := B.exec
  have hb := B.bytes
  have hr := B.returns
  have hts := atoms_spec (ws := wsX8_between) B.pre
  have hown : s.vm.findClass RX8 = some m.cls := findClass_of_methodNamed B.named
  have hlocks := B.notSynchronized
  have lf9 := hts (.fieldLink RX8 9 "PalaceOfRooms$Ways" "fewest" "[I") (List.mem_cons_of_mem _ (List.mem_append_left _ (List.mem_of_getElem? (i := 0) rfl)))
  have inX8 : ∀ w ∈ wsX80, w ∈ wsX8_between := fun w h => List.mem_cons_of_mem _ (List.mem_append_right _ h)
  have hl := lv_entry ([.ref (a 0), .int x, .int y]) (n := 3) (Nat.le_of_ble_eq_true rfl)
  rw [lg_entry_eq]
  generalize (lg_sl ([.ref (a 0), .int x, .int y]) ++ List.replicate (3 - (lg_sl ([.ref (a 0), .int x, .int y])).length) Slot.unset).toArray = ls at hl ⊢
  have hl : lv_has ls 3 [(0, .ref (a 0)), (1, .int x), (2, .int y)] := hl
  refine lv_aload_n hx hb dX8_between_0 rfl (lv_at hl 0 rfl) ?_
  refine va_get (D := (dC, dI)) (ci := 8) (v := .ref (a 1)) (C := RX8) (T := TX8) (N := 2) hx hb hts inX8 hown hK hP 0 rfl rfl 0 (by decide) lf9 (fun _ h9 => h9) rfl dX8_between_1 ?_
  refine lv_iload_n hx hb dX8_between_4 rfl (lv_at hl 1 rfl) ?_
  refine lv_bipush (v := 8) hx hb dX8_between_5 (by decide) ?_
  refine lv_imul hx hb dX8_between_7 ?_
  have f1 : (x * 8).toInt = (x.toInt) * (8) := mulC rfl (show (8 : Int32).toInt = 8 from rfl) (by omega) (by omega)
  refine lv_iload_n hx hb dX8_between_8 rfl (lv_at hl 2 rfl) ?_
  refine lv_iadd hx hb dX8_between_9 ?_
  have f2 : ((x * 8) + y).toInt = ((x.toInt) * (8)) + (y.toInt) := addC f1 rfl (by omega) (by omega)
  have b3 : vp_in ((x * 8) + y) 64 := inC f2 (by omega) (by omega)
  refine va_iald hx hb hK hP 1 0 rfl rfl b3 dX8_between_10 ?_
  exact W.iret (v := few ((x * 8) + y).toNatClampNeg) hx hb hr (fun tq ht hW => ⟨few ((x * 8) + y).toNatClampNeg, rfl, ⟨(show (few ((x * 8) + y).toNatClampNeg) = few (x.toInt * 8 + y.toInt).toNat from by (rw [clC (x := x * 8 + y) (X := x.toInt * 8 + y.toInt) (by assumption)])), (show (few ((x * 8) + y).toNatClampNeg).toInt = (few (x.toInt * 8 + y.toInt).toNat).toInt from by (rw [clC (x := x * 8 + y) (X := x.toInt * 8 + y.toInt) (by assumption)]))⟩, ht⟩) (fun q h => by cases h) dX8_between_11
set_option maxHeartbeats 4000000 in
set_option maxRecDepth 100000 in
theorem k_X8_between3 (l : Launch) (dC : Nat → ClassId) (dI : Nat → Nat → Nat) (cI cZ cQ : ClassId) (a : Nat → Nat) (few : Nat → Int32) (doo : Int32) (x : Int32) (y : Int32) (q0 : 0 ≤ x.toInt) (q1 : x.toInt ≤ 7) (q2 : 0 ≤ y.toInt) (q3 : y.toInt ≤ 7) (q4 : mtOK few) : KR l yX8_between wsX8_between { frames := 0, cells := 0, slots := 0, locals := 0 } (dC, dI) (TY cI cZ cQ) (wWys cI cZ cQ a few doo) [.ref (a 0), .int x, .int y] (fun r : Int32 => (r = few (x.toInt * 8 + y.toInt).toNat) ∧ (-1 ≤ r.toInt) ∧ (r.toInt ≤ 7)) := by
  refine Met.ofW (cc := cX8_between) (maxL := 3) (ret := (some .int)) (by decide) rfl ?_
  intro p e s m args below meth c s₁ B hml hv
  obtain ⟨rfl, hP, hK, hN⟩ := hv
  have hx := B.exec
  have hb := B.bytes
  have hr := B.returns
  have hts := atoms_spec (ws := wsX8_between) B.pre
  have hown : s.vm.findClass RX8 = some m.cls := findClass_of_methodNamed B.named
  have hlocks := B.notSynchronized
  have lf9 := hts (.fieldLink RX8 9 "PalaceOfRooms$Ways" "fewest" "[I") (List.mem_cons_of_mem _ (List.mem_append_left _ (List.mem_of_getElem? (i := 0) rfl)))
  have inX8 : ∀ w ∈ wsX80, w ∈ wsX8_between := fun w h => List.mem_cons_of_mem _ (List.mem_append_right _ h)
  have hl := lv_entry ([.ref (a 0), .int x, .int y]) (n := 3) (Nat.le_of_ble_eq_true rfl)
  rw [lg_entry_eq]
  generalize (lg_sl ([.ref (a 0), .int x, .int y]) ++ List.replicate (3 - (lg_sl ([.ref (a 0), .int x, .int y])).length) Slot.unset).toArray = ls at hl ⊢
  have hl : lv_has ls 3 [(0, .ref (a 0)), (1, .int x), (2, .int y)] := hl
  refine lv_aload_n hx hb dX8_between_0 rfl (lv_at hl 0 rfl) ?_
  refine va_get (D := (dC, dI)) (ci := 8) (v := .ref (a 1)) (C := RX8) (T := TX8) (N := 2) hx hb hts inX8 hown hK hP 0 rfl rfl 0 (by decide) lf9 (fun _ h9 => h9) rfl dX8_between_1 ?_
  refine lv_iload_n hx hb dX8_between_4 rfl (lv_at hl 1 rfl) ?_
  refine lv_bipush (v := 8) hx hb dX8_between_5 (by decide) ?_
  refine lv_imul hx hb dX8_between_7 ?_
  have f1 : (x * 8).toInt = (x.toInt) * (8) := mulC rfl (show (8 : Int32).toInt = 8 from rfl) (by omega) (by omega)
  refine lv_iload_n hx hb dX8_between_8 rfl (lv_at hl 2 rfl) ?_
  refine lv_iadd hx hb dX8_between_9 ?_
  have f2 : ((x * 8) + y).toInt = ((x.toInt) * (8)) + (y.toInt) := addC f1 rfl (by omega) (by omega)
  have wm := mt_at q4 (x := x) (y := y) (by omega) (by omega)
  have b3 : vp_in ((x * 8) + y) 64 := inC f2 (by omega) (by omega)
  refine va_iald hx hb hK hP 1 0 rfl rfl b3 dX8_between_10 ?_
  exact W.iret (v := few ((x * 8) + y).toNatClampNeg) hx hb hr (fun tq ht hW => ⟨few ((x * 8) + y).toNatClampNeg, rfl, ⟨(show (few ((x * 8) + y).toNatClampNeg) = few (x.toInt * 8 + y.toInt).toNat from by (rw [clC (x := x * 8 + y) (X := x.toInt * 8 + y.toInt) (by assumption)])), (show -1 ≤ (few ((x * 8) + y).toNatClampNeg).toInt from by (rw [clC (x := x * 8 + y) (X := x.toInt * 8 + y.toInt) (by assumption)]; omega)), (show (few ((x * 8) + y).toNatClampNeg).toInt ≤ 7 from by (rw [clC (x := x * 8 + y) (X := x.toInt * 8 + y.toInt) (by assumption)]; omega))⟩, ht⟩) (fun q h => by cases h) dX8_between_11
set_option maxHeartbeats 4000000 in
set_option maxRecDepth 100000 in
theorem k_X8_joined2 (l : Launch) (dC : Nat → ClassId) (dI : Nat → Nat → Nat) (cI cZ cQ : ClassId) (a : Nat → Nat) (few : Nat → Int32) (doo : Int32) (x : Int32) (y : Int32) (q0 : 0 ≤ x.toInt) (q1 : x.toInt ≤ 7) (q2 : 0 ≤ y.toInt) (q3 : y.toInt ≤ 7) : KR l yX8_joined wsX8_joined { frames := 1, cells := 0, slots := 0, locals := 22 } (dC, dI) (TY cI cZ cQ) (wWys cI cZ cQ a few doo) [.ref (a 0), .int x, .int y] (fun r : Int32 => ((((r = 1) ∧ ((few (x.toInt * 8 + y.toInt).toNat).toInt = 1)) ∨ ((r = 0) ∧ ((few (x.toInt * 8 + y.toInt).toNat).toInt ≠ 1))))) := by
  refine Met.ofW (cc := cX8_joined) (maxL := 3) (ret := (some .boolean)) (by decide) rfl ?_
  intro p e s m args below meth c s₁ B hml hv
  obtain ⟨rfl, hP, hK, hN⟩ := hv
  have hx := B.exec
  have hb := B.bytes
  have hr := B.returns
  have hts := atoms_spec (ws := wsX8_joined) B.pre
  have hown : s.vm.findClass RX8 = some m.cls := findClass_of_methodNamed B.named
  have hlocks := B.notSynchronized
  have hl := lv_entry ([.ref (a 0), .int x, .int y]) (n := 3) (Nat.le_of_ble_eq_true rfl)
  rw [lg_entry_eq]
  generalize (lg_sl ([.ref (a 0), .int x, .int y]) ++ List.replicate (3 - (lg_sl ([.ref (a 0), .int x, .int y])).length) Slot.unset).toArray = ls at hl ⊢
  have hl : lv_has ls 3 [(0, .ref (a 0)), (1, .int x), (2, .int y)] := hl
  refine lv_aload_n hx hb dX8_joined_0 rfl (lv_at hl 0 rfl) ?_
  refine lv_iload_n hx hb dX8_joined_1 rfl (lv_at hl 1 rfl) ?_
  refine lv_iload_n hx hb dX8_joined_2 rfl (lv_at hl 2 rfl) ?_
  refine rdV (As := [.int x, .int y]) (rest := []) ⟨hx, hb, hml, hown, hts⟩ (k_X8_between2 l dC dI cI cZ cQ a few doo x y (by omega) (by omega) (by omega) (by omega)) (cwV 2 hts gX8_joined_X8_between rfl rfl rfl (by decide +kernel) ⟨Nat.le_of_ble_eq_true rfl, Nat.le_of_ble_eq_true rfl⟩) hP hK hN [0, 1] rfl 0 8 rfl rfl rfl hl.1 rfl (Nat.le_of_ble_eq_true rfl) dX8_joined_3 ⟨Nat.le_of_ble_eq_true rfl, Nat.le_of_ble_eq_true rfl⟩ (fun r1 h2 => ?_)
  have h2 : (r1 = few (x.toInt * 8 + y.toInt).toNat) ∧ (r1.toInt = (few (x.toInt * 8 + y.toInt).toNat).toInt) := h2
  obtain ⟨h2_0, h2_1⟩ := h2
  refine lv_iconst (v := 1) hx hb dX8_joined_6 (by decide) ?_
  refine lv_icmp_ne (tgt := 14) hx hb dX8_joined_7 (by decide) (fun c3 => ?_) (fun c3 => ?_)
  · have dc3 : r1.toInt ≠ 1 := neC rfl (show (1 : Int32).toInt = 1 from rfl) c3
    refine lv_iconst (v := 0) hx hb dX8_joined_14 (by decide) ?_
    exact W.zret (v := 0) hx hb hr (by decide) (fun tq ht hW => ⟨0, rfl, (Or.inr (⟨rfl, (show (few (x.toInt * 8 + y.toInt).toNat).toInt ≠ 1 from by (try rw [show (0 : Int32).toInt = 0 from (show (0 : Int32).toInt = 0 from rfl)]); omega)⟩)), ht⟩) (fun q h => by cases h) dX8_joined_15
  · have dc3 : r1.toInt = 1 := eqC rfl (show (1 : Int32).toInt = 1 from rfl) c3
    refine lv_iconst (v := 1) hx hb dX8_joined_10 (by decide) ?_
    refine lv_goto (tgt := 15) hx hb dX8_joined_11 (by decide) ?_
    exact W.zret (v := 1) hx hb hr (by decide) (fun tq ht hW => ⟨1, rfl, (Or.inl (⟨rfl, (show (few (x.toInt * 8 + y.toInt).toNat).toInt = 1 from by (try rw [show (1 : Int32).toInt = 1 from (show (1 : Int32).toInt = 1 from rfl)]); omega)⟩)), ht⟩) (fun q h => by cases h) dX8_joined_15
set_option maxHeartbeats 4000000 in
set_option maxRecDepth 100000 in
theorem k_X8_shorten2 (l : Launch) (dC : Nat → ClassId) (dI : Nat → Nat → Nat) (cI cZ cQ : ClassId) (a : Nat → Nat) (few : Nat → Int32) (doo : Int32) (sz : Nat) (fr : Int32) (to : Int32) (bf : Int32) (bh : Int32) (q0 : 0 ≤ fr.toInt) (q1 : fr.toInt ≤ 7) (q2 : 0 ≤ to.toInt) (q3 : to.toInt ≤ 7) (q4 : -1 ≤ bf.toInt) (q5 : bf.toInt ≤ 31) (q6 : -1 ≤ bh.toInt) (q7 : bh.toInt ≤ 31) (q8 : -1 ≤ (few (fr.toInt * 8 + to.toInt).toNat).toInt) (q9 : (few (fr.toInt * 8 + to.toInt).toNat).toInt ≤ 31) : KV l yX8_shorten wsX8_shorten { frames := 1, cells := 0, slots := 0, locals := 22 } (dC, dI) (TY cI cZ cQ) (wWys cI cZ cQ a few doo) [.ref (a 0), .int fr, .int to, .int bf, .int bh] sz 0 0 (fun (u : US) => (shS few fr to bf bh (u.1 0))) (fun u : US => (wWys cI cZ cQ a (u.1 0) doo)) := by
  refine Met.ofW (cc := cX8_shorten) (maxL := 7) (ret := none) (by decide) rfl ?_
  intro p e s m args below meth c s₁ B hml hv
  obtain ⟨rfl, hsz, hP, hK, hD0, hN⟩ := hv
  have hx := B.exec
  have hb := B.bytes
  have hr := B.returns
  have hts := atoms_spec (ws := wsX8_shorten) B.pre
  have hown : s.vm.findClass RX8 = some m.cls := findClass_of_methodNamed B.named
  have hlocks := B.notSynchronized
  have lf9 := hts (.fieldLink RX8 9 "PalaceOfRooms$Ways" "fewest" "[I") (List.mem_cons_of_mem _ (List.mem_append_left _ (List.mem_of_getElem? (i := 0) rfl)))
  have inX8 : ∀ w ∈ wsX80, w ∈ wsX8_shorten := fun w h => List.mem_cons_of_mem _ (List.mem_append_right _ h)
  subst hsz
  have hD := hD0.self (sz := s.heap.size)
  generalize hAe : va_A (wWys cI cZ cQ a few doo) s.heap.size = A at hD ⊢
  have hA : ∀ q : Nat, s.heap.size ≤ q → A q := fun q h => by rw [← hAe]; exact Or.inr h
  have hS : va_S A s.heap s.heap [] := va_S.rf
  have hl := lv_entry ([.ref (a 0), .int fr, .int to, .int bf, .int bh]) (n := 7) (Nat.le_of_ble_eq_true rfl)
  rw [lg_entry_eq]
  generalize (lg_sl ([.ref (a 0), .int fr, .int to, .int bf, .int bh]) ++ List.replicate (7 - (lg_sl ([.ref (a 0), .int fr, .int to, .int bf, .int bh])).length) Slot.unset).toArray = ls at hl ⊢
  have hl : lv_has ls 7 [(0, .ref (a 0)), (1, .int fr), (2, .int to), (3, .int bf), (4, .int bh)] := hl
  refine lv_iload_n hx hb dX8_shorten_0 rfl (lv_at hl 3 rfl) ?_
  refine lv_iconst (v := (-1)) hx hb dX8_shorten_1 (by decide) ?_
  refine lv_icmp_eq (tgt := 11) hx hb dX8_shorten_2 (by decide) (fun c1 => ?_) (fun c1 => ?_)
  · have dc1 : bf.toInt = (-1) := eqC rfl (show ((-1) : Int32).toInt = (-1) from rfl) c1
    exact W.vret hx hb hr (fun tq ht hW => ⟨⟨(uS [few] 0 (fun _ => 0)), rfl, (show shS few fr to bf bh few from by (first | exact sh_m1 (by omega) (by omega) (by omega) (by omega) | exact sh_put (by assumption) (clC (by assumption)) (by assumption) (by omega) (by omega) (by omega) (by omega) | exact sh_keep (by omega) (by omega) (by assumption) (by omega) (by omega))), by rw [ht]; exact hP, hD⟩, hS.F ht⟩) hS.2.2 dX8_shorten_11
  · have dc1 : 0 ≤ bf.toInt := ka_lo (by omega) (neC rfl (show ((-1) : Int32).toInt = (-1) from rfl) c1)
    refine lv_iload hx hb dX8_shorten_5 (lv_at hl 4 rfl) ?_
    refine lv_iconst (v := (-1)) hx hb dX8_shorten_7 (by decide) ?_
    refine lv_icmp_ne (tgt := 12) hx hb dX8_shorten_8 (by decide) (fun c2 => ?_) (fun c2 => ?_)
    · have dc2 : 0 ≤ bh.toInt := ka_lo (by omega) (neC rfl (show ((-1) : Int32).toInt = (-1) from rfl) c2)
      refine lv_aload_n hx hb dX8_shorten_12 rfl (lv_at hl 0 rfl) ?_
      refine lv_iload_n hx hb dX8_shorten_13 rfl (lv_at hl 1 rfl) ?_
      refine lv_iload_n hx hb dX8_shorten_14 rfl (lv_at hl 2 rfl) ?_
      refine rdV (As := [.int fr, .int to]) (rest := []) ⟨hx, hb, hml, hown, hts⟩ (k_X8_between2 l dC dI cI cZ cQ a few doo fr to (by omega) (by omega) (by omega) (by omega)) (cwV 2 hts gX8_shorten_X8_between rfl rfl rfl (by decide +kernel) ⟨Nat.le_of_ble_eq_true rfl, Nat.le_of_ble_eq_true rfl⟩) hP hK hN [0, 1] rfl 0 8 rfl rfl rfl hl.1 rfl (Nat.le_of_ble_eq_true rfl) dX8_shorten_15 ⟨Nat.le_of_ble_eq_true rfl, Nat.le_of_ble_eq_true rfl⟩ (fun r3 h4 => ?_)
      have h4 : (r3 = few (fr.toInt * 8 + to.toInt).toNat) ∧ (r3.toInt = (few (fr.toInt * 8 + to.toInt).toNat).toInt) := h4
      obtain ⟨h4_0, h4_1⟩ := h4
      refine lv_istore (lv' := [(5, .int r3), (0, .ref (a 0)), (1, .int fr), (2, .int to), (3, .int bf), (4, .int bh)]) hx hb dX8_shorten_18 hl (by decide) rfl (fun ls hl => ?_)
      refine lv_iload_n hx hb dX8_shorten_20 rfl (lv_at hl 4 rfl) ?_
      refine lv_iconst (v := 1) hx hb dX8_shorten_21 (by decide) ?_
      refine lv_iadd hx hb dX8_shorten_22 ?_
      have f5 : (bf + 1).toInt = (bf.toInt) + (1) := addC rfl (show (1 : Int32).toInt = 1 from rfl) (by omega) (by omega)
      refine lv_iload hx hb dX8_shorten_23 (lv_at hl 5 rfl) ?_
      refine lv_iadd hx hb dX8_shorten_25 ?_
      have f6 : ((bf + 1) + bh).toInt = ((bf.toInt) + (1)) + (bh.toInt) := addC f5 rfl (by omega) (by omega)
      refine lv_topi (fun x7 ex7 => ?_)
      have ix7 : x7.toInt = ((bf.toInt) + (1)) + (bh.toInt) := by rw [ex7]; exact f6
      refine lv_istore (lv' := [(6, .int x7), (5, .int r3), (0, .ref (a 0)), (1, .int fr), (2, .int to), (3, .int bf), (4, .int bh)]) hx hb dX8_shorten_26 hl (by decide) rfl (fun ls hl => ?_)
      refine lv_iload hx hb dX8_shorten_28 (lv_at hl 1 rfl) ?_
      refine lv_iconst (v := (-1)) hx hb dX8_shorten_30 (by decide) ?_
      refine lv_icmp_eq (tgt := 41) hx hb dX8_shorten_31 (by decide) (fun c8 => ?_) (fun c8 => ?_)
      · have dc8 : r3.toInt = (-1) := eqC rfl (show ((-1) : Int32).toInt = (-1) from rfl) c8
        refine lv_aload_n hx hb dX8_shorten_41 rfl (lv_at hl 2 rfl) ?_
        refine va_get (D := (dC, dI)) (ci := 8) (v := .ref (a 1)) (C := RX8) (T := TX8) (N := 2) hx hb hts inX8 hown hK hP 0 rfl rfl 0 (by decide) lf9 (fun _ h9 => h9) rfl dX8_shorten_42 ?_
        refine lv_iload_n hx hb dX8_shorten_45 rfl (lv_at hl 3 rfl) ?_
        refine lv_bipush (v := 8) hx hb dX8_shorten_46 (by decide) ?_
        refine lv_imul hx hb dX8_shorten_48 ?_
        have f9 : (fr * 8).toInt = (fr.toInt) * (8) := mulC rfl (show (8 : Int32).toInt = 8 from rfl) (by omega) (by omega)
        refine lv_iload_n hx hb dX8_shorten_49 rfl (lv_at hl 4 rfl) ?_
        refine lv_iadd hx hb dX8_shorten_50 ?_
        have f10 : ((fr * 8) + to).toInt = ((fr.toInt) * (8)) + (to.toInt) := addC f9 rfl (by omega) (by omega)
        refine lv_iload hx hb dX8_shorten_51 (lv_at hl 0 rfl) ?_
        have b11 : vp_in ((fr * 8) + to) 64 := inC f10 (by omega) (by omega)
        refine va_iast hx hb hK hP hD hS 1 0 rfl rfl b11 dX8_shorten_53 (fun H locs hP hD hS => ?_)
        obtain ⟨few_u12, efew_u12⟩ : ∃ f : Nat → Int32, f = upd few ((fr * 8) + to).toNatClampNeg x7 := ⟨_, rfl⟩
        have hP : va_P (dC, dI) vwCl (wWys cI cZ cQ a few_u12 doo) H := by rw [efew_u12]; exact hP
        have hD : va_D A (wWys cI cZ cQ a few_u12 doo) := by rw [efew_u12]; exact hD
        exact W.vret hx hb hr (fun tq ht hW => ⟨⟨(uS [few_u12] 0 (fun _ => 0)), rfl, (show shS few fr to bf bh few_u12 from by (first | exact sh_m1 (by omega) (by omega) (by omega) (by omega) | exact sh_put (by assumption) (clC (by assumption)) (by assumption) (by omega) (by omega) (by omega) (by omega) | exact sh_keep (by omega) (by omega) (by assumption) (by omega) (by omega))), by rw [ht]; exact hP, hD⟩, hS.F ht⟩) hS.2.2 dX8_shorten_54
      · have dc8 : r3.toInt ≠ (-1) := neC rfl (show ((-1) : Int32).toInt = (-1) from rfl) c8
        refine lv_iload hx hb dX8_shorten_34 (lv_at hl 0 rfl) ?_
        refine lv_iload hx hb dX8_shorten_36 (lv_at hl 1 rfl) ?_
        refine lv_icmp_ge (tgt := 54) hx hb dX8_shorten_38 (by decide) (fun c13 => ?_) (fun c13 => ?_)
        · have dc13 : r3.toInt ≤ x7.toInt := leC rfl rfl c13
          exact W.vret hx hb hr (fun tq ht hW => ⟨⟨(uS [few] 0 (fun _ => 0)), rfl, (show shS few fr to bf bh few from by (first | exact sh_m1 (by omega) (by omega) (by omega) (by omega) | exact sh_put (by assumption) (clC (by assumption)) (by assumption) (by omega) (by omega) (by omega) (by omega) | exact sh_keep (by omega) (by omega) (by assumption) (by omega) (by omega))), by rw [ht]; exact hP, hD⟩, hS.F ht⟩) hS.2.2 dX8_shorten_54
        · have dc13 : x7.toInt < r3.toInt := nleC rfl rfl c13
          refine lv_aload_n hx hb dX8_shorten_41 rfl (lv_at hl 2 rfl) ?_
          refine va_get (D := (dC, dI)) (ci := 8) (v := .ref (a 1)) (C := RX8) (T := TX8) (N := 2) hx hb hts inX8 hown hK hP 0 rfl rfl 0 (by decide) lf9 (fun _ h9 => h9) rfl dX8_shorten_42 ?_
          refine lv_iload_n hx hb dX8_shorten_45 rfl (lv_at hl 3 rfl) ?_
          refine lv_bipush (v := 8) hx hb dX8_shorten_46 (by decide) ?_
          refine lv_imul hx hb dX8_shorten_48 ?_
          have f14 : (fr * 8).toInt = (fr.toInt) * (8) := mulC rfl (show (8 : Int32).toInt = 8 from rfl) (by omega) (by omega)
          refine lv_iload_n hx hb dX8_shorten_49 rfl (lv_at hl 4 rfl) ?_
          refine lv_iadd hx hb dX8_shorten_50 ?_
          have f15 : ((fr * 8) + to).toInt = ((fr.toInt) * (8)) + (to.toInt) := addC f14 rfl (by omega) (by omega)
          refine lv_iload hx hb dX8_shorten_51 (lv_at hl 0 rfl) ?_
          have b16 : vp_in ((fr * 8) + to) 64 := inC f15 (by omega) (by omega)
          refine va_iast hx hb hK hP hD hS 1 0 rfl rfl b16 dX8_shorten_53 (fun H locs hP hD hS => ?_)
          obtain ⟨few_u17, efew_u17⟩ : ∃ f : Nat → Int32, f = upd few ((fr * 8) + to).toNatClampNeg x7 := ⟨_, rfl⟩
          have hP : va_P (dC, dI) vwCl (wWys cI cZ cQ a few_u17 doo) H := by rw [efew_u17]; exact hP
          have hD : va_D A (wWys cI cZ cQ a few_u17 doo) := by rw [efew_u17]; exact hD
          exact W.vret hx hb hr (fun tq ht hW => ⟨⟨(uS [few_u17] 0 (fun _ => 0)), rfl, (show shS few fr to bf bh few_u17 from by (first | exact sh_m1 (by omega) (by omega) (by omega) (by omega) | exact sh_put (by assumption) (clC (by assumption)) (by assumption) (by omega) (by omega) (by omega) (by omega) | exact sh_keep (by omega) (by omega) (by assumption) (by omega) (by omega))), by rw [ht]; exact hP, hD⟩, hS.F ht⟩) hS.2.2 dX8_shorten_54
    · have dc2 : bh.toInt = (-1) := eqC rfl (show ((-1) : Int32).toInt = (-1) from rfl) c2
      exact W.vret hx hb hr (fun tq ht hW => ⟨⟨(uS [few] 0 (fun _ => 0)), rfl, (show shS few fr to bf bh few from by (first | exact sh_m1 (by omega) (by omega) (by omega) (by omega) | exact sh_put (by assumption) (clC (by assumption)) (by assumption) (by omega) (by omega) (by omega) (by omega) | exact sh_keep (by omega) (by omega) (by assumption) (by omega) (by omega))), by rw [ht]; exact hP, hD⟩, hS.F ht⟩) hS.2.2 dX8_shorten_11
set_option maxHeartbeats 4000000 in
set_option maxRecDepth 100000 in
theorem k_X8_join2 (l : Launch) (dC : Nat → ClassId) (dI : Nat → Nat → Nat) (cI cZ cQ : ClassId) (a : Nat → Nat) (few : Nat → Int32) (doo : Int32) (sz : Nat) (x : Int32) (y : Int32) (q0 : 0 ≤ x.toInt) (q1 : x.toInt ≤ 7) (q2 : 0 ≤ y.toInt) (q3 : y.toInt ≤ 7) (q4 : mtOK few) (q5 : x.toInt ≠ y.toInt) : KV l yX8_join wsX8_join { frames := 2, cells := 0, slots := 0, locals := 48 } (dC, dI) (TY cI cZ cQ) (wWys cI cZ cQ a few doo) [.ref (a 0), .int x, .int y] sz 0 0 (fun (u : US) => ((u.1 1 0) = doo + 1) ∧ (jnS few x y (u.1 0)) ∧ (mtOK (u.1 0))) (fun u : US => (wWys cI cZ cQ a (u.1 0) (u.1 1 0))) := by
  refine Met.ofW (cc := cX8_join) (maxL := 5) (ret := none) (by decide) rfl ?_
  intro p e s m args below meth c s₁ B hml hv
  obtain ⟨rfl, hsz, hP, hK, hD0, hN⟩ := hv
  have hx := B.exec
  have hb := B.bytes
  have hr := B.returns
  have hts := atoms_spec (ws := wsX8_join) B.pre
  have hown : s.vm.findClass RX8 = some m.cls := findClass_of_methodNamed B.named
  have hlocks := B.notSynchronized
  have lf25 := hts (.fieldLink RX8 25 "PalaceOfRooms$Ways" "doors" "I") (List.mem_cons_of_mem _ (List.mem_append_left _ (List.mem_of_getElem? (i := 0) rfl)))
  have inX8 : ∀ w ∈ wsX80, w ∈ wsX8_join := fun w h => List.mem_cons_of_mem _ (List.mem_append_right _ h)
  subst hsz
  have hD := hD0.self (sz := s.heap.size)
  generalize hAe : va_A (wWys cI cZ cQ a few doo) s.heap.size = A at hD ⊢
  have hA : ∀ q : Nat, s.heap.size ≤ q → A q := fun q h => by rw [← hAe]; exact Or.inr h
  have hS : va_S A s.heap s.heap [] := va_S.rf
  have hl := lv_entry ([.ref (a 0), .int x, .int y]) (n := 5) (Nat.le_of_ble_eq_true rfl)
  rw [lg_entry_eq]
  generalize (lg_sl ([.ref (a 0), .int x, .int y]) ++ List.replicate (5 - (lg_sl ([.ref (a 0), .int x, .int y])).length) Slot.unset).toArray = ls at hl ⊢
  have hl : lv_has ls 5 [(0, .ref (a 0)), (1, .int x), (2, .int y)] := hl
  refine lv_aload_n hx hb dX8_join_0 rfl (lv_at hl 0 rfl) ?_
  refine lv_dup hx hb dX8_join_1 rfl ?_
  refine va_get (D := (dC, dI)) (ci := 8) (v := .int doo) (C := RX8) (T := TX8) (N := 2) hx hb hts inX8 hown hK hP 0 rfl rfl 1 (by decide) lf25 (fun _ h9 => h9) rfl dX8_join_2 ?_
  refine lv_iconst (v := 1) hx hb dX8_join_5 (by decide) ?_
  refine lv_iadd hx hb dX8_join_6 ?_
  refine lv_topi (fun x1 ex1 => ?_)
  have ix1 : x1.toInt = (doo + 1).toInt := by rw [ex1]
  refine va_put (D := (dC, dI)) (ci := 8) (v := .int x1) (ty := .int) (C := RX8) (T := TX8) (N := 2) hx hb hts inX8 tyX8 tyX8_ok nmX8 hown hK hP hD hS 0 rfl rfl 1 (by decide) lf25 (fun _ h9 => h9) rfl (by decide +kernel) rfl rfl (Nat.le_of_ble_eq_true rfl) dX8_join_7 (fun H locs hP hD hS => ?_)
  have hP : va_P (dC, dI) vwCl (wWys cI cZ cQ a few x1) H := hP
  have hD : va_D A (wWys cI cZ cQ a few x1) := hD
  refine lv_iconst (v := 0) hx hb dX8_join_10 (by decide) ?_
  refine lv_istore_n (lv' := [(3, .int 0), (0, .ref (a 0)), (1, .int x), (2, .int y)]) hx hb dX8_join_11 rfl hl (by decide) rfl (fun ls hl => ?_)
  have L12 : ∀ (nn : Nat) (y12_3 : Int32) (few_12 : Nat → Int32) (H : Heap) (locs : List Loc) (ls : Array Slot), (0 ≤ (y12_3.toInt)) → ((y12_3.toInt) ≤ 8) → (jnI few x.toInt.toNat y.toInt.toNat (y12_3.toInt) 0 few_12) → (8 - (y12_3.toInt)).toNat < nn → va_P (dC, dI) vwCl (wWys cI cZ cQ a few_12 x1) H → va_D A (wWys cI cZ cQ a few_12 x1) → va_S A s.heap H locs → lv_has ls 5 [(0, .ref (a 0)), (1, .int x), (2, .int y), (3, .int y12_3)] → W p l e (headSpec wsX8_join { frames := 2, cells := 0, slots := 0, locals := 48 }).room s m ([.ref (a 0), .int x, .int y] : List Value).toArray below meth c H locs 0 0 (MQ below (va_Qv (fun (u : US) => ((u.1 1 0) = doo + 1) ∧ (jnS few x y (u.1 0)) ∧ (mtOK (u.1 0))) (Bw (dC, dI) A (fun u : US => (wWys cI cZ cQ a (u.1 0) (u.1 1 0)))) A) ([.ref (a 0), .int x, .int y] : List Value).toArray s 0 0 A) (F0 m 12 ls []) := by
    intro nn
    induction nn with
    | zero =>
      intro y12_3 few_12 H locs ls i12_0 i12_1 i12_2 hm12
      exact absurd hm12 (Nat.not_lt_zero _)
    | succ nn ih12 =>
      intro y12_3 few_12 H locs ls i12_0 i12_1 i12_2 hm12 hP hD hS hl
      refine lv_iload_n hx hb dX8_join_12 rfl (lv_at hl 3 rfl) ?_
      refine lv_bipush (v := 8) hx hb dX8_join_13 (by decide) ?_
      refine lv_icmp_ge (tgt := 80) hx hb dX8_join_15 (by decide) (fun c2 => ?_) (fun c2 => ?_)
      · have dc2 : 8 ≤ y12_3.toInt := leC (show (8 : Int32).toInt = 8 from rfl) rfl c2
        exact W.vret hx hb hr (fun tq ht hW => ⟨⟨(uS [few_12, (fun _ => x1)] 0 (fun _ => 0)), rfl, ⟨(show x1 = doo + 1 from by (first | assumption | rfl)), (show jnS few x y few_12 from by exact jn_end i12_2 (by omega)), (show mtOK few_12 from by exact jn_mt q4 (by omega) (by omega) (by omega) i12_2 (by omega))⟩, by rw [ht]; exact hP, hD⟩, hS.F ht⟩) hS.2.2 dX8_join_80
      · have dc2 : y12_3.toInt < 8 := nleC (show (8 : Int32).toInt = 8 from rfl) rfl c2
        refine lv_iconst (v := 0) hx hb dX8_join_18 (by decide) ?_
        refine lv_istore (lv' := [(4, .int 0), (0, .ref (a 0)), (1, .int x), (2, .int y), (3, .int y12_3)]) hx hb dX8_join_19 hl (by decide) rfl (fun ls hl => ?_)
        have L21 : ∀ (nn : Nat) (y21_4 : Int32) (few_21 : Nat → Int32) (H : Heap) (locs : List Loc) (ls : Array Slot), (0 ≤ (y21_4.toInt)) → ((y21_4.toInt) ≤ 8) → (jnI few x.toInt.toNat y.toInt.toNat (y12_3.toInt) (y21_4.toInt) few_21) → (8 - (y21_4.toInt)).toNat < nn → va_P (dC, dI) vwCl (wWys cI cZ cQ a few_21 x1) H → va_D A (wWys cI cZ cQ a few_21 x1) → va_S A s.heap H locs → lv_has ls 5 [(0, .ref (a 0)), (1, .int x), (2, .int y), (3, .int y12_3), (4, .int y21_4)] → W p l e (headSpec wsX8_join { frames := 2, cells := 0, slots := 0, locals := 48 }).room s m ([.ref (a 0), .int x, .int y] : List Value).toArray below meth c H locs 0 0 (MQ below (va_Qv (fun (u : US) => ((u.1 1 0) = doo + 1) ∧ (jnS few x y (u.1 0)) ∧ (mtOK (u.1 0))) (Bw (dC, dI) A (fun u : US => (wWys cI cZ cQ a (u.1 0) (u.1 1 0)))) A) ([.ref (a 0), .int x, .int y] : List Value).toArray s 0 0 A) (F0 m 21 ls []) := by
          intro nn
          induction nn with
          | zero =>
            intro y21_4 few_21 H locs ls i21_0 i21_1 i21_2 hm21
            exact absurd hm21 (Nat.not_lt_zero _)
          | succ nn ih21 =>
            intro y21_4 few_21 H locs ls i21_0 i21_1 i21_2 hm21 hP hD hS hl
            refine lv_iload hx hb dX8_join_21 (lv_at hl 4 rfl) ?_
            refine lv_bipush (v := 8) hx hb dX8_join_23 (by decide) ?_
            refine lv_icmp_ge (tgt := 74) hx hb dX8_join_25 (by decide) (fun c3 => ?_) (fun c3 => ?_)
            · have dc3 : 8 ≤ y21_4.toInt := leC (show (8 : Int32).toInt = 8 from rfl) rfl c3
              obtain ⟨z4, ez4⟩ : ∃ y : Int32, y = y12_3 + 1 := ⟨_, rfl⟩
              have iz4 : z4.toInt = y12_3.toInt + 1 := by rw [ez4]; exact addC rfl rfl (by omega) (by omega)
              refine lv_iinc (v := z4) (lv' := [(3, .int z4), (0, .ref (a 0)), (1, .int x), (2, .int y), (4, .int y21_4)]) hx hb dX8_join_74 hl (k := 3) rfl (by rw [ez4]; rfl) (by decide) rfl (fun ls hl => ?_)
              refine lv_goto (tgt := 12) hx hb dX8_join_77 (by decide) ?_
              exact ih12 z4 few_21 _ _ _ (by omega) (by omega) (by (first | exact jn_row i21_2 (by omega) (by omega) rfl | exact jn_init q4 (by first | rfl | omega) rfl)) (by omega) hP hD hS (lv_sub hl [1, 2, 3, 0] rfl)
            · have dc3 : y21_4.toInt < 8 := nleC (show (8 : Int32).toInt = 8 from rfl) rfl c3
              refine lv_aload_n hx hb dX8_join_28 rfl (lv_at hl 0 rfl) ?_
              refine lv_iload_n hx hb dX8_join_29 rfl (lv_at hl 3 rfl) ?_
              refine lv_iload hx hb dX8_join_30 (lv_at hl 4 rfl) ?_
              refine lv_aload_n hx hb dX8_join_32 rfl (lv_at hl 0 rfl) ?_
              refine lv_iload_n hx hb dX8_join_33 rfl (lv_at hl 3 rfl) ?_
              refine lv_iload_n hx hb dX8_join_34 rfl (lv_at hl 1 rfl) ?_
              refine rdV (As := [.int y12_3, .int x]) (rest := [.int y21_4, .int y12_3, .ref (a 0)]) ⟨hx, hb, hml, hown, hts⟩ (k_X8_between2 l dC dI cI cZ cQ a few_21 x1 y12_3 x (by omega) (by omega) (by omega) (by omega)) (cwV 2 hts gX8_join_X8_between rfl rfl rfl (by decide +kernel) ⟨Nat.le_of_ble_eq_true rfl, Nat.le_of_ble_eq_true rfl⟩) hP hK hN [0, 1] rfl 0 8 rfl rfl rfl hl.1 rfl (Nat.le_of_ble_eq_true rfl) dX8_join_35 ⟨Nat.le_of_ble_eq_true rfl, Nat.le_of_ble_eq_true rfl⟩ (fun r5 h6 => ?_)
              have h6 : (r5 = few_21 (y12_3.toInt * 8 + x.toInt).toNat) ∧ (r5.toInt = (few_21 (y12_3.toInt * 8 + x.toInt).toNat).toInt) := h6
              obtain ⟨h6_0, h6_1⟩ := h6
              refine lv_aload_n hx hb dX8_join_38 rfl (lv_at hl 0 rfl) ?_
              refine lv_iload_n hx hb dX8_join_39 rfl (lv_at hl 2 rfl) ?_
              refine lv_iload hx hb dX8_join_40 (lv_at hl 4 rfl) ?_
              refine rdV (As := [.int y, .int y21_4]) (rest := [.int r5, .int y21_4, .int y12_3, .ref (a 0)]) ⟨hx, hb, hml, hown, hts⟩ (k_X8_between2 l dC dI cI cZ cQ a few_21 x1 y y21_4 (by omega) (by omega) (by omega) (by omega)) (cwV 2 hts gX8_join_X8_between rfl rfl rfl (by decide +kernel) ⟨Nat.le_of_ble_eq_true rfl, Nat.le_of_ble_eq_true rfl⟩) hP hK hN [0, 1] rfl 0 8 rfl rfl rfl hl.1 rfl (Nat.le_of_ble_eq_true rfl) dX8_join_42 ⟨Nat.le_of_ble_eq_true rfl, Nat.le_of_ble_eq_true rfl⟩ (fun r7 h8 => ?_)
              have h8 : (r7 = few_21 (y.toInt * 8 + y21_4.toInt).toNat) ∧ (r7.toInt = (few_21 (y.toInt * 8 + y21_4.toInt).toNat).toInt) := h8
              obtain ⟨h8_0, h8_1⟩ := h8
              have w1 := jn_at (x := y12_3) (y := x) (r := r5) i21_2 (by omega) (by omega) (by assumption)
              have w2 := jn_at (x := y) (y := y21_4) (r := r7) i21_2 (by omega) (by omega) (by assumption)
              have w3 := jn_at (x := y12_3) (y := y21_4) (r := few_21 ((y12_3.toInt) * 8 + (y21_4.toInt)).toNat) i21_2 (by omega) (by omega) rfl
              refine wvV (As := [.int y12_3, .int y21_4, .int r5, .int r7]) (rest := []) (wr := []) (w2 := (fun u : US => (wWys cI cZ cQ a (u.1 0) x1))) ⟨hx, hb, hml, hown, hts⟩ (k_X8_shorten2 l dC dI cI cZ cQ a few_21 x1 _ y12_3 y21_4 r5 r7 (by omega) (by omega) (by omega) (by omega) (by omega) (by omega) (by omega) (by omega) (by omega) (by omega)) (cwV 4 hts gX8_join_X8_shorten rfl rfl rfl (by decide +kernel) ⟨Nat.le_of_ble_eq_true rfl, Nat.le_of_ble_eq_true rfl⟩) hP hD hS hA hK hN [0, 1] [] [0, 1] rfl rfl (by decide) (by decide) (by decide) (fun _ => rfl) (by decide) 0 8 rfl rfl rfl hl.1 rfl (Nat.le_of_ble_eq_true rfl) dX8_join_45 ⟨Nat.le_of_ble_eq_true rfl, Nat.le_of_ble_eq_true rfl⟩ (fun u11 H locs h10 hP hD hS => ?_)
              obtain ⟨few_c12, efew_c12⟩ : ∃ f : Nat → Int32, f = (u11.1 0) := ⟨_, rfl⟩
              have hP : va_P (dC, dI) vwCl (wWys cI cZ cQ a few_c12 x1) H := by rw [efew_c12]; exact hP
              have hD : va_D A (wWys cI cZ cQ a few_c12 x1) := by rw [efew_c12]; exact hD
              have h10 : (shS few_21 y12_3 y21_4 r5 r7 few_c12) := by (try rw [efew_c12]); exact h10
              have h10_0 := h10
              refine lv_aload_n hx hb dX8_join_48 rfl (lv_at hl 0 rfl) ?_
              refine lv_iload_n hx hb dX8_join_49 rfl (lv_at hl 3 rfl) ?_
              refine lv_iload hx hb dX8_join_50 (lv_at hl 4 rfl) ?_
              refine lv_aload_n hx hb dX8_join_52 rfl (lv_at hl 0 rfl) ?_
              refine lv_iload_n hx hb dX8_join_53 rfl (lv_at hl 3 rfl) ?_
              refine lv_iload_n hx hb dX8_join_54 rfl (lv_at hl 2 rfl) ?_
              refine rdV (As := [.int y12_3, .int y]) (rest := [.int y21_4, .int y12_3, .ref (a 0)]) ⟨hx, hb, hml, hown, hts⟩ (k_X8_between2 l dC dI cI cZ cQ a few_c12 x1 y12_3 y (by omega) (by omega) (by omega) (by omega)) (cwV 2 hts gX8_join_X8_between rfl rfl rfl (by decide +kernel) ⟨Nat.le_of_ble_eq_true rfl, Nat.le_of_ble_eq_true rfl⟩) hP hK hN [0, 1] rfl 0 8 rfl rfl rfl hl.1 rfl (Nat.le_of_ble_eq_true rfl) dX8_join_55 ⟨Nat.le_of_ble_eq_true rfl, Nat.le_of_ble_eq_true rfl⟩ (fun r13 h14 => ?_)
              have h14 : (r13 = few_c12 (y12_3.toInt * 8 + y.toInt).toNat) ∧ (r13.toInt = (few_c12 (y12_3.toInt * 8 + y.toInt).toNat).toInt) := h14
              obtain ⟨h14_0, h14_1⟩ := h14
              refine lv_aload_n hx hb dX8_join_58 rfl (lv_at hl 0 rfl) ?_
              refine lv_iload_n hx hb dX8_join_59 rfl (lv_at hl 1 rfl) ?_
              refine lv_iload hx hb dX8_join_60 (lv_at hl 4 rfl) ?_
              refine rdV (As := [.int x, .int y21_4]) (rest := [.int r13, .int y21_4, .int y12_3, .ref (a 0)]) ⟨hx, hb, hml, hown, hts⟩ (k_X8_between2 l dC dI cI cZ cQ a few_c12 x1 x y21_4 (by omega) (by omega) (by omega) (by omega)) (cwV 2 hts gX8_join_X8_between rfl rfl rfl (by decide +kernel) ⟨Nat.le_of_ble_eq_true rfl, Nat.le_of_ble_eq_true rfl⟩) hP hK hN [0, 1] rfl 0 8 rfl rfl rfl hl.1 rfl (Nat.le_of_ble_eq_true rfl) dX8_join_62 ⟨Nat.le_of_ble_eq_true rfl, Nat.le_of_ble_eq_true rfl⟩ (fun r15 h16 => ?_)
              have h16 : (r15 = few_c12 (x.toInt * 8 + y21_4.toInt).toNat) ∧ (r15.toInt = (few_c12 (x.toInt * 8 + y21_4.toInt).toNat).toInt) := h16
              obtain ⟨h16_0, h16_1⟩ := h16
              have w4 := jn_at1 (C1 := few_c12) (x := y12_3) (y := y) (r := r13) i21_2 (by assumption) w1 w2 (by omega) (by omega) (by omega) (by omega) (by assumption)
              have w5 := jn_at1 (C1 := few_c12) (x := x) (y := y21_4) (r := r15) i21_2 (by assumption) w1 w2 (by omega) (by omega) (by omega) (by omega) (by assumption)
              have w6 := jn_at1 (C1 := few_c12) (x := y12_3) (y := y21_4) (r := few_c12 ((y12_3.toInt) * 8 + (y21_4.toInt)).toNat) i21_2 (by assumption) w1 w2 (by omega) (by omega) (by omega) (by omega) rfl
              refine wvV (As := [.int y12_3, .int y21_4, .int r13, .int r15]) (rest := []) (wr := []) (w2 := (fun u : US => (wWys cI cZ cQ a (u.1 0) x1))) ⟨hx, hb, hml, hown, hts⟩ (k_X8_shorten2 l dC dI cI cZ cQ a few_c12 x1 _ y12_3 y21_4 r13 r15 (by omega) (by omega) (by omega) (by omega) (by omega) (by omega) (by omega) (by omega) (by omega) (by omega)) (cwV 4 hts gX8_join_X8_shorten rfl rfl rfl (by decide +kernel) ⟨Nat.le_of_ble_eq_true rfl, Nat.le_of_ble_eq_true rfl⟩) hP hD hS hA hK hN [0, 1] [] [0, 1] rfl rfl (by decide) (by decide) (by decide) (fun _ => rfl) (by decide) 0 8 rfl rfl rfl hl.1 rfl (Nat.le_of_ble_eq_true rfl) dX8_join_65 ⟨Nat.le_of_ble_eq_true rfl, Nat.le_of_ble_eq_true rfl⟩ (fun u19 H locs h18 hP hD hS => ?_)
              obtain ⟨few_c20, efew_c20⟩ : ∃ f : Nat → Int32, f = (u19.1 0) := ⟨_, rfl⟩
              have hP : va_P (dC, dI) vwCl (wWys cI cZ cQ a few_c20 x1) H := by rw [efew_c20]; exact hP
              have hD : va_D A (wWys cI cZ cQ a few_c20 x1) := by rw [efew_c20]; exact hD
              have h18 : (shS few_c12 y12_3 y21_4 r13 r15 few_c20) := by (try rw [efew_c20]); exact h18
              have h18_0 := h18
              obtain ⟨z21, ez21⟩ : ∃ y : Int32, y = y21_4 + 1 := ⟨_, rfl⟩
              have iz21 : z21.toInt = y21_4.toInt + 1 := by rw [ez21]; exact addC rfl rfl (by omega) (by omega)
              refine lv_iinc (v := z21) (lv' := [(4, .int z21), (0, .ref (a 0)), (1, .int x), (2, .int y), (3, .int y12_3)]) hx hb dX8_join_68 hl (k := 4) rfl (by rw [ez21]; rfl) (by decide) rfl (fun ls hl => ?_)
              refine lv_goto (tgt := 21) hx hb dX8_join_71 (by decide) ?_
              exact ih21 z21 few_c20 _ _ _ (by omega) (by omega) (by (first | exact jn_step q4 (by omega) (by omega) (by omega) (by omega) (by omega) i21_2 (by assumption) (by assumption) (by assumption) (by assumption) (by assumption) (by assumption) (by omega) | exact jn_cast i12_2 (by first | rfl | omega) (by first | rfl | omega))) (by omega) hP hD hS (lv_sub hl [1, 2, 3, 4, 0] rfl)
        have kc22 : (0 : Int32).toInt = 0 := rfl
        exact L21 _ 0 few_12 _ _ _ (by omega) (by omega) (by (first | exact jn_step q4 (by omega) (by omega) (by omega) (by omega) (by omega) i21_2 (by assumption) (by assumption) (by assumption) (by assumption) (by assumption) (by assumption) (by omega) | exact jn_cast i12_2 (by first | rfl | omega) (by first | rfl | omega))) (Nat.lt_succ_self _) hP hD hS (lv_sub hl [1, 2, 3, 4, 0] rfl)
  have kc23 : (0 : Int32).toInt = 0 := rfl
  exact L12 _ 0 few _ _ _ (by omega) (by omega) (by (first | exact jn_row i21_2 (by omega) (by omega) rfl | exact jn_init q4 (by first | rfl | omega) rfl)) (Nat.lt_succ_self _) hP hD hS (lv_sub hl [1, 2, 3, 0] rfl)
end
section
-- ===== DOORS: the model's list =====
def eD (A B : Nat → Int32) (n : Int) (x y : Int) : Prop := ∃ k : Nat, (k : Int) < n ∧ (((A k).toInt = x ∧ (B k).toInt = y) ∨ ((A k).toInt = y ∧ (B k).toInt = x))
def edR (few A B : Nat → Int32) (n : Int) : Prop := ∀ x y : Nat, x < 8 → y < 8 → (dd few x y = 1 ↔ eD A B n x y)
def jkI (A B : Nat → Int32) (x y : Int32) (k : Int) (r : Int32) : Prop := (r = 0 ∧ ¬ eD A B k x.toInt y.toInt) ∨ (r = 1 ∧ eD A B k x.toInt y.toInt)
theorem jk_init {A B : Nat → Int32} {x y r : Int32} {k : Int} (hk : k = 0) (hr : r = 0) : jkI A B x y k r := .inl ⟨hr, fun ⟨q, hq, _⟩ => by omega⟩
theorem eD_mono {A B : Nat → Int32} {k k' x y : Int} (h : eD A B k x y) (hk : k ≤ k') : eD A B k' x y := by
  obtain ⟨q, hq, w⟩ := h; exact ⟨q, by omega, w⟩
theorem jk_was {A B : Nat → Int32} {x y r r' : Int32} {k k' : Int} (h : jkI A B x y k r) (hr : ¬ r = 0) (hr' : r' = 1) (hk : k' = k + 1) : jkI A B x y k' r' := by
  rcases h with ⟨a, -⟩ | ⟨-, b⟩
  · exact absurd a hr
  · exact .inr ⟨hr', eD_mono b (by omega)⟩
theorem jk_hit {A B : Nat → Int32} {x y c r' : Int32} {k' : Int} (h0 : 0 ≤ c.toInt) (h : ((A c.toNatClampNeg).toInt = x.toInt ∧ (B c.toNatClampNeg).toInt = y.toInt) ∨ ((A c.toNatClampNeg).toInt = y.toInt ∧ (B c.toNatClampNeg).toInt = x.toInt)) (hr' : r' = 1) (hk : k' = c.toInt + 1) : jkI A B x y k' r' :=
  .inr ⟨hr', c.toNatClampNeg, by rw [clC (x := c) rfl]; omega, h⟩
theorem jk_miss {A B : Nat → Int32} {x y c r r' : Int32} {k' : Int} (h : jkI A B x y c.toInt r) (hr : r = 0) (h0 : 0 ≤ c.toInt) (hn : ¬ (((A c.toNatClampNeg).toInt = x.toInt ∧ (B c.toNatClampNeg).toInt = y.toInt) ∨ ((A c.toNatClampNeg).toInt = y.toInt ∧ (B c.toNatClampNeg).toInt = x.toInt))) (hr' : r' = 0) (hk : k' = c.toInt + 1) : jkI A B x y k' r' := by
  rcases h with ⟨-, b⟩ | ⟨a, -⟩
  · refine .inl ⟨hr', fun ⟨q, hq, w⟩ => ?_⟩
    by_cases e : q = c.toNatClampNeg
    · subst e; exact hn w
    · have := clC (x := c) rfl
      exact b ⟨q, by omega, w⟩
  · rw [a] at hr; exact absurd hr (by decide)
theorem jk_alt {A B : Nat → Int32} {x y r : Int32} {k n : Int} (h : jkI A B x y k r) (h1 : k = n) : (r = 1 ∧ eD A B n x.toInt y.toInt) ∨ (r = 0 ∧ ¬ eD A B n x.toInt y.toInt) := by
  subst h1; exact h.symm
-- the model's way
def fi8 (a : Int32) (i : Int) (F : Nat → Int32) : Prop := ∀ j : Nat, (j : Int) < i → (F j).toInt = (if (j : Int) = a.toInt then 0 else 100)
theorem fi8_step {F F2 : Nat → Int32} {a y v : Int32} {i : Int} (q : fi8 a y.toInt F) (e : F2 = upd F y.toNatClampNeg v) (h0 : 0 ≤ y.toInt) (hv : (y.toInt = a.toInt ∧ v.toInt = 0) ∨ (y.toInt ≠ a.toInt ∧ v.toInt = 100)) (hi : i = y.toInt + 1) : fi8 a i F2 := by
  subst hi; subst e
  have ey := clC (x := y) rfl
  intro j hj
  by_cases c : j = y.toNatClampNeg
  · subst c
    rw [pk_us]
    rcases hv with h | h
    · rw [if_pos (by omega)]; exact h.2
    · rw [if_neg (by omega)]; exact h.2
  · rw [pk_un c]; exact q j (by omega)
def dtI (A B : Nat → Int32) (n : Int) (a : Nat) (t : Int) (F : Nat → Int32) : Prop := rg 8 0 100 F ∧ ∀ few : Nat → Int32, mtOK few → edR few A B n → (∀ j : Nat, j < 8 → dd few a j ≤ (F j).toInt) ∧ (∀ j : Nat, j < 8 → dd few a j ≤ t → (F j).toInt ≤ dd few a j)
theorem dt_init {A B F : Nat → Int32} {n i t : Int} {a : Int32} (q : fi8 a i F) (hi : 8 ≤ i) (ha : 0 ≤ a.toInt ∧ a.toInt ≤ 7) (ht : t = 0) : dtI A B n a.toInt.toNat t F := by
  subst ht
  have w : ∀ j : Nat, j < 8 → (F j).toInt = (if (j : Int) = a.toInt then 0 else 100) := fun j hj => q j (by omega)
  refine ⟨fun j hj => ?_, fun few hm he => ⟨fun j hj => ?_, fun j hj hd => ?_⟩⟩
  · rw [w j hj]
    by_cases c : (j : Int) = a.toInt
    · rw [if_pos c]; omega
    · rw [if_neg c]; omega
  · rw [w j hj]
    have m1 := (hm.2 a.toInt.toNat j (by omega) hj).1
    have m2 := (hm.2 a.toInt.toNat j (by omega) hj).2.1
    by_cases c : (j : Int) = a.toInt
    · rw [if_pos c, m2.mpr (by omega)]; omega
    · rw [if_neg c]; omega
  · have m1 := (hm.2 a.toInt.toNat j (by omega) hj).1.1
    have m2 := (hm.2 a.toInt.toNat j (by omega) hj).2.1
    have z : dd few a.toInt.toNat j = 0 := by omega
    have e := m2.mp z
    rw [w j hj, if_pos (by omega), z]; omega
def dkI (A B : Nat → Int32) (n : Int) (a : Nat) (k : Int) (F0 F : Nat → Int32) : Prop := (∀ j : Nat, j < 8 → 0 ≤ (F j).toInt ∧ (F j).toInt ≤ (F0 j).toInt) ∧ (∀ few : Nat → Int32, mtOK few → edR few A B n → ∀ j : Nat, j < 8 → dd few a j ≤ (F j).toInt) ∧ (∀ q : Nat, (q : Int) < k → (F (B q).toNatClampNeg).toInt ≤ (F0 (A q).toNatClampNeg).toInt + 1 ∧ (F (A q).toNatClampNeg).toInt ≤ (F0 (B q).toNatClampNeg).toInt + 1)
theorem dk_init {A B F : Nat → Int32} {n t k : Int} {a : Nat} (q : dtI A B n a t F) (hk : k = 0) : dkI A B n a k F F := ⟨fun j hj => ⟨(q.1 j hj).1, Int.le_refl _⟩, fun few hm he => (q.2 few hm he).1, fun q hq => by omega⟩
theorem dk_rg {A B F0 F : Nat → Int32} {n t k : Int} {a : Nat} (q0 : dtI A B n a t F0) (q : dkI A B n a k F0 F) : rg 8 0 100 F := fun j hj => ⟨(q.1 j hj).1, by have := (q.1 j hj).2; have := (q0.1 j hj).2; omega⟩
theorem rg_of {n : Nat} {lo hi : Int} {f g : Nat → Int32} {k : Nat} {v : Int32} (h : rg n lo hi f) (e : g = upd f k v) (h1 : lo ≤ v.toInt) (h2 : v.toInt ≤ hi) : rg n lo hi g := by subst e; exact rg_upd h rfl h1 h2
theorem dk_step {A B F0 F F1 F2 : Nat → Int32} {n k k' t : Int} {a : Nat} {c x y v w : Int32} (ha : a < 8) (hA : rg 14 0 7 A) (hB : rg 14 0 7 B) (q0 : dtI A B n a t F0) (q : dkI A B n a k F0 F) (hk : k = c.toInt) (hc : 0 ≤ c.toInt) (hcn : c.toInt < n) (hn : n ≤ 14) (ex : x = A c.toNatClampNeg) (ey : y = B c.toNatClampNeg) (e1 : F1 = upd F x.toNatClampNeg v) (hv : v.toInt = min ((F y.toNatClampNeg).toInt + 1) (F x.toNatClampNeg).toInt) (e2 : F2 = upd F1 y.toNatClampNeg w) (hw : w.toInt = min ((F1 x.toNatClampNeg).toInt + 1) (F1 y.toNatClampNeg).toInt) (hk' : k' = c.toInt + 1) : dkI A B n a k' F0 F2 := by
  subst hk; subst hk'
  have ec := clC (x := c) rfl
  have rx := hA c.toNatClampNeg (by omega)
  have ry := hB c.toNatClampNeg (by omega)
  rw [← ex] at rx; rw [← ey] at ry
  have cx := clC (x := x) rfl
  have cy := clC (x := y) rfl
  have x8 : x.toNatClampNeg < 8 := by omega
  have y8 : y.toNatClampNeg < 8 := by omega
  have f1x : F1 x.toNatClampNeg = v := by rw [e1, pk_us]
  have f1 : ∀ j : Nat, j < 8 → 0 ≤ (F1 j).toInt ∧ (F1 j).toInt ≤ (F j).toInt := by
    intro j hj
    by_cases c : j = x.toNatClampNeg
    · subst c; rw [f1x]; have := (q.1 _ x8).1; have := (q.1 _ y8).1; omega
    · rw [e1, pk_un c]; exact ⟨(q.1 j hj).1, Int.le_refl _⟩
  have f2y : F2 y.toNatClampNeg = w := by rw [e2, pk_us]
  have f2 : ∀ j : Nat, j < 8 → 0 ≤ (F2 j).toInt ∧ (F2 j).toInt ≤ (F1 j).toInt := by
    intro j hj
    by_cases c : j = y.toNatClampNeg
    · subst c; rw [f2y]; have := (f1 _ x8).1; have := (f1 _ y8).1; omega
    · rw [e2, pk_un c]; exact ⟨(f1 j hj).1, Int.le_refl _⟩
  refine ⟨fun j hj => ?_, fun few hm he j hj => ?_, fun p hp => ?_⟩
  · have := f1 j hj; have := f2 j hj; have := q.1 j hj; omega
  · have lo := q.2.1 few hm he
    have ed : dd few x.toNatClampNeg y.toNatClampNeg = 1 := (he _ _ x8 y8).mpr ⟨c.toNatClampNeg, by omega, Or.inl ⟨by rw [← ex]; omega, by rw [← ey]; omega⟩⟩
    have ed2 : dd few y.toNatClampNeg x.toNatClampNeg = 1 := by rw [← (hm.2 _ _ x8 y8).2.2.1]; exact ed
    have tx := (hm.2 a x.toNatClampNeg ha x8).2.2.2.1 y.toNatClampNeg y8
    have ty := (hm.2 a y.toNatClampNeg ha y8).2.2.2.1 x.toNatClampNeg x8
    have lx := lo _ x8
    have ly := lo _ y8
    have lo1 : ∀ j : Nat, j < 8 → dd few a j ≤ (F1 j).toInt := by
      intro j hj
      by_cases c : j = x.toNatClampNeg
      · subst c; rw [f1x]; omega
      · rw [e1, pk_un c]; exact lo j hj
    have l1x := lo1 _ x8
    have l1y := lo1 _ y8
    by_cases c : j = y.toNatClampNeg
    · subst c; rw [f2y]; omega
    · rw [e2, pk_un c]; exact lo1 j hj
  · by_cases c' : p = c.toNatClampNeg
    · subst c'
      rw [← ex, ← ey]
      have g1 := f2 _ x8
      have g2 := f1 _ x8
      have g3 := (q.1 _ x8).2
      have g4 := (q.1 _ y8).2
      have g5 := f1 _ y8
      rw [f2y]
      have g6 := f1x
      rw [f1x] at hw g1
      omega
    · have w0 := q.2.2 p (by omega)
      have ap := hA p (by omega)
      have bp := hB p (by omega)
      have pa : (A p).toNatClampNeg < 8 := by rw [clC (x := A p) rfl]; omega
      have pb : (B p).toNatClampNeg < 8 := by rw [clC (x := B p) rfl]; omega
      have := f1 _ pa; have := f2 _ pa; have := f1 _ pb; have := f2 _ pb
      omega
theorem dk_end {A B F0 F : Nat → Int32} {n k t t' : Int} {a : Nat} (ha : a < 8) (hA : rg 14 0 7 A) (hB : rg 14 0 7 B) (hn : n ≤ 14) (q0 : dtI A B n a t F0) (q : dkI A B n a k F0 F) (hk : n ≤ k) (ht0 : 0 ≤ t) (ht : t' = t + 1) : dtI A B n a t' F := by
  subst ht
  refine ⟨dk_rg q0 q, fun few hm he => ⟨q.2.1 few hm he, fun j hj hd => ?_⟩⟩
  have up0 := (q0.2 few hm he).2
  have qj := q.1 j hj
  by_cases c : dd few a j ≤ t
  · have := up0 j hj c; omega
  · have m1 := (hm.2 a j ha hj).1.2
    have edge : ∀ z : Nat, z < 8 → dd few z j = 1 → dd few a z ≤ t → (F j).toInt ≤ dd few a z + 1 := by
      intro z hz e1 e2
      obtain ⟨p, hp, w⟩ := (he z j hz hj).mp e1
      have qp := q.2.2 p (by omega)
      have := up0 z hz e2
      rcases w with ⟨w1, w2⟩ | ⟨w1, w2⟩
      · rw [clC w1, clC w2] at qp
        have q1 := qp.1
        rw [show ((z : Int)).toNat = z by omega, show ((j : Int)).toNat = j by omega] at q1
        omega
      · rw [clC w1, clC w2] at qp
        have q1 := qp.2
        rw [show ((z : Int)).toNat = z by omega, show ((j : Int)).toNat = j by omega] at q1
        omega
    by_cases c1 : dd few a j = 1
    · have za : dd few a a = 0 := (hm.2 a a ha ha).2.1.mpr rfl
      have := edge a ha c1 (by omega)
      omega
    · rcases m1 with h7 | h7
      · obtain ⟨z, hz, e1, e2⟩ := (hm.2 a j ha hj).2.2.2.2 (by omega) h7
        have := edge z hz e2 (by omega)
        omega
      · have := (dk_rg q0 q j hj).2; omega
def dsR (A B : Nat → Int32) (n : Int) (x y r : Int32) : Prop := ∀ few : Nat → Int32, mtOK few → edR few A B n → r = few (x.toInt * 8 + y.toInt).toNat
theorem ds_no {A B F : Nat → Int32} {n t : Int} {x y : Int32} (q : dtI A B n x.toInt.toNat t F) (hx : 0 ≤ x.toInt ∧ x.toInt ≤ 7) (hy : 0 ≤ y.toInt ∧ y.toInt ≤ 7) (ht : 8 ≤ t) (hF : 100 ≤ (F y.toNatClampNeg).toInt) : dsR A B n x y (-1) := by
  intro few hm he
  have w := q.2 few hm he
  have m1 := (hm.2 x.toInt.toNat y.toInt.toNat (by omega) (by omega)).1
  have r := hm.1 x.toInt.toNat y.toInt.toNat (by omega) (by omega)
  rw [clC (x := y) rfl] at hF
  have u := w.2 y.toInt.toNat (by omega)
  have ei : (x.toInt * 8 + y.toInt).toNat = x.toInt.toNat * 8 + y.toInt.toNat := by omega
  rw [ei]
  apply Int32.toInt_inj.mp
  rw [show ((-1 : Int32)).toInt = -1 from rfl]
  unfold dd dv at m1 u
  by_cases c : (few (x.toInt.toNat * 8 + y.toInt.toNat)).toInt = -1
  · exact c.symm
  · rw [if_neg c] at m1 u; omega
theorem ds_yes {A B F : Nat → Int32} {n t : Int} {x y r : Int32} (q : dtI A B n x.toInt.toNat t F) (hx : 0 ≤ x.toInt ∧ x.toInt ≤ 7) (hy : 0 ≤ y.toInt ∧ y.toInt ≤ 7) (ht : 8 ≤ t) (hr : r = F y.toNatClampNeg) (hF : (F y.toNatClampNeg).toInt < 100) : dsR A B n x y r := by
  intro few hm he
  have w := q.2 few hm he
  have m1 := (hm.2 x.toInt.toNat y.toInt.toNat (by omega) (by omega)).1
  have r := hm.1 x.toInt.toNat y.toInt.toNat (by omega) (by omega)
  rw [hr]
  rw [clC (x := y) rfl] at hF ⊢
  have u := w.2 y.toInt.toNat (by omega)
  have l := w.1 y.toInt.toNat (by omega)
  have ei : (x.toInt * 8 + y.toInt).toNat = x.toInt.toNat * 8 + y.toInt.toNat := by omega
  rw [ei]
  apply Int32.toInt_inj.mp
  unfold dd dv at m1 u l
  by_cases c : (few (x.toInt.toNat * 8 + y.toInt.toNat)).toInt = -1
  · rw [if_pos c] at l; omega
  · rw [if_neg c] at m1 u l; omega
-- door, away
def spDorC (few : Nat → Int32) (doo x y r : Int32) (few' : Nat → Int32) (doo' : Int32) : Prop := ((x.toInt < 0 ∨ 7 < x.toInt ∨ y.toInt < 0 ∨ 7 < y.toInt ∨ x.toInt = y.toInt) ∧ r = -2 ∧ few' = few ∧ doo' = doo) ∨ ((0 ≤ x.toInt ∧ x.toInt ≤ 7 ∧ 0 ≤ y.toInt ∧ y.toInt ≤ 7 ∧ x.toInt ≠ y.toInt) ∧ (((few (x.toInt * 8 + y.toInt).toNat).toInt = 1 ∧ r = -4 ∧ few' = few ∧ doo' = doo) ∨ ((few (x.toInt * 8 + y.toInt).toNat).toInt ≠ 1 ∧ ((14 ≤ doo.toInt ∧ r = -5 ∧ few' = few ∧ doo' = doo) ∨ (doo.toInt < 14 ∧ r = doo + 1 ∧ doo' = doo + 1 ∧ jnS few x y few')))))
def spDorM (A B : Nat → Int32) (n x y r : Int32) (A' B' : Nat → Int32) (n' : Int32) : Prop := ((x.toInt < 0 ∨ 7 < x.toInt ∨ y.toInt < 0 ∨ 7 < y.toInt ∨ x.toInt = y.toInt) ∧ r = -2 ∧ A' = A ∧ B' = B ∧ n' = n) ∨ ((0 ≤ x.toInt ∧ x.toInt ≤ 7 ∧ 0 ≤ y.toInt ∧ y.toInt ≤ 7 ∧ x.toInt ≠ y.toInt) ∧ ((eD A B n.toInt x.toInt y.toInt ∧ r = -4 ∧ A' = A ∧ B' = B ∧ n' = n) ∨ (¬ eD A B n.toInt x.toInt y.toInt ∧ ((14 ≤ n.toInt ∧ r = -5 ∧ A' = A ∧ B' = B ∧ n' = n) ∨ (n.toInt < 14 ∧ r = n + 1 ∧ n' = n + 1 ∧ A' = upd A n.toNatClampNeg x ∧ B' = upd B n.toNatClampNeg y)))))
def doR (few : Nat → Int32) (doo : Int32) (A B : Nat → Int32) (n : Int32) : Prop := doo = n ∧ edR few A B n.toInt
theorem one_dd {few : Nat → Int32} {x y : Int32} (h0 : 0 ≤ x.toInt ∧ 0 ≤ y.toInt) : ((few (x.toInt * 8 + y.toInt).toNat).toInt = 1 ↔ dd few x.toInt.toNat y.toInt.toNat = 1) := by
  have ei : (x.toInt * 8 + y.toInt).toNat = x.toInt.toNat * 8 + y.toInt.toNat := by omega
  rw [ei]
  unfold dd dv
  by_cases c : (few (x.toInt.toNat * 8 + y.toInt.toNat)).toInt = -1
  · rw [if_pos c, c]; exact ⟨fun q => by omega, fun q => by omega⟩
  · rw [if_neg c]
theorem spDor_rel {few few' A B A' B' : Nat → Int32} {doo doo' n n' x y r r2 : Int32} (hm : mtOK few) (hn : 0 ≤ n.toInt ∧ n.toInt ≤ 14) (R : doR few doo A B n) (h1 : spDorC few doo x y r few' doo') (h2 : spDorM A B n x y r2 A' B' n') : r = r2 ∧ doR few' doo' A' B' n' := by
  obtain ⟨rd, re⟩ := R
  subst rd
  have R : doR few doo A B doo := ⟨rfl, re⟩
  rcases h1 with ⟨a, b, e1, e2⟩ | ⟨a, b⟩
  · rcases h2 with ⟨a2, b2, d1, d2, d3⟩ | ⟨a2, b2⟩
    · rw [b, b2, e1, e2, d1, d2, d3]; exact ⟨rfl, R⟩
    · exfalso; omega
  · rcases h2 with ⟨a2, b2⟩ | ⟨a2, b2⟩
    · exfalso; omega
    · have ek : (few (x.toInt * 8 + y.toInt).toNat).toInt = 1 ↔ eD A B doo.toInt x.toInt y.toInt := by
        rw [one_dd ⟨by omega, by omega⟩, re _ _ (by omega) (by omega), show ((x.toInt.toNat : Nat) : Int) = x.toInt by omega, show ((y.toInt.toNat : Nat) : Int) = y.toInt by omega]
      rcases b with ⟨j, b, e1, e2⟩ | ⟨j, b⟩
      · rcases b2 with ⟨j2, b2, d1, d2, d3⟩ | ⟨j2, -⟩
        · rw [b, b2, e1, e2, d1, d2, d3]; exact ⟨rfl, R⟩
        · exact absurd (ek.mp j) j2
      · rcases b2 with ⟨j2, -⟩ | ⟨j2, b2⟩
        · exact absurd (ek.mpr j2) j
        · rcases b with ⟨f, b, e1, e2⟩ | ⟨f, b, e1, s⟩
          · rcases b2 with ⟨f2, b2, d1, d2, d3⟩ | ⟨f2, -⟩
            · rw [b, b2, e1, e2, d1, d2, d3]; exact ⟨rfl, R⟩
            · exfalso; omega
          · rcases b2 with ⟨f2, -⟩ | ⟨f2, b2, d1, d2, d3⟩
            · exfalso; omega
            · rw [b, b2, e1, d1, d2, d3]
              refine ⟨rfl, rfl, fun p q hp hq => ?_⟩
              have en : (doo + 1).toInt = doo.toInt + 1 := addC rfl (show (1 : Int32).toInt = 1 from rfl) (by omega) (by omega)
              rw [en, s p q hp hq]
              have cn := clC (x := doo) rfl
              have mm : met (dd few) := hm.2
              have mpq0 := (mm p q hp hq).1.1
              have mpq1 := fun (_ : Unit) => (mm p q hp hq).2.1
              have a8 : x.toInt.toNat < 8 := by omega
              have b8 : y.toInt.toNat < 8 := by omega
              have nn1 := (mm p x.toInt.toNat hp a8).1.1
              have zz1 := fun (_ : Unit) => (mm p x.toInt.toNat hp a8).2.1
              have nn2 := (mm y.toInt.toNat q b8 hq).1.1
              have zz2 := fun (_ : Unit) => (mm y.toInt.toNat q b8 hq).2.1
              have nn3 := (mm p y.toInt.toNat hp b8).1.1
              have zz3 := fun (_ : Unit) => (mm p y.toInt.toNat hp b8).2.1
              have nn4 := (mm x.toInt.toNat q a8 hq).1.1
              have zz4 := fun (_ : Unit) => (mm x.toInt.toNat q a8 hq).2.1
              refine ⟨fun g => ?_, fun g => ?_⟩
              · by_cases c : dd few p q = 1
                · obtain ⟨k, hk, w⟩ := (re p q hp hq).mp c
                  refine ⟨k, by omega, ?_⟩
                  rw [pk_un (by omega), pk_un (by omega)]; exact w
                · have g' := g
                  unfold mn at g'
                  have pq0 : dd few p q ≠ 0 := fun z => by omega
                  have cs : (dd few p x.toInt.toNat = 0 ∧ dd few y.toInt.toNat q = 0) ∨ (dd few p y.toInt.toNat = 0 ∧ dd few x.toInt.toNat q = 0) := by
                    omega
                  refine ⟨doo.toNatClampNeg, by omega, ?_⟩
                  rw [pk_us, pk_us]
                  rcases cs with ⟨z1, z2⟩ | ⟨z1, z2⟩
                  · have w1 := (zz1 ()).mp z1
                    have w2 := (zz2 ()).mp z2
                    exact .inl ⟨by omega, by omega⟩
                  · have w1 := (zz3 ()).mp z1
                    have w2 := (zz4 ()).mp z2
                    exact .inr ⟨by omega, by omega⟩
              · obtain ⟨k, hk, w⟩ := g
                by_cases c : k = doo.toNatClampNeg
                · subst c
                  rw [pk_us, pk_us] at w
                  have pq0 : dd few p q ≠ 0 := fun z => by
                    have := (mpq1 ()).mp z
                    rcases w with ⟨w1, w2⟩ | ⟨w1, w2⟩ <;> omega
                  rcases w with ⟨w1, w2⟩ | ⟨w1, w2⟩
                  · have z1 := (zz1 ()).mpr (by omega)
                    have z2 := (zz2 ()).mpr (by omega)
                    unfold mn; omega
                  · have z1 := (zz3 ()).mpr (by omega)
                    have z2 := (zz4 ()).mpr (by omega)
                    unfold mn; omega
                · rw [pk_un c, pk_un c] at w
                  have z := (re p q hp hq).mpr ⟨k, by omega, w⟩
                  unfold mn; omega
def spAwyC (few : Nat → Int32) (x y r : Int32) : Prop := ((x.toInt < 0 ∨ 7 < x.toInt ∨ y.toInt < 0 ∨ 7 < y.toInt) ∧ r = -2) ∨ ((0 ≤ x.toInt ∧ x.toInt ≤ 7 ∧ 0 ≤ y.toInt ∧ y.toInt ≤ 7) ∧ r = few (x.toInt * 8 + y.toInt).toNat)
def spAwyM (A B : Nat → Int32) (n x y r : Int32) : Prop := ((x.toInt < 0 ∨ 7 < x.toInt ∨ y.toInt < 0 ∨ 7 < y.toInt) ∧ r = -2) ∨ ((0 ≤ x.toInt ∧ x.toInt ≤ 7 ∧ 0 ≤ y.toInt ∧ y.toInt ≤ 7) ∧ dsR A B n.toInt x y r)
theorem spAwy_rel {few A B : Nat → Int32} {doo n x y r r2 : Int32} (hm : mtOK few) (R : doR few doo A B n) (h1 : spAwyC few x y r) (h2 : spAwyM A B n x y r2) : r = r2 := by
  rcases h1 with ⟨a, b⟩ | ⟨a, b⟩
  · rcases h2 with ⟨a2, b2⟩ | ⟨a2, b2⟩
    · rw [b, b2]
    · exfalso; omega
  · rcases h2 with ⟨a2, b2⟩ | ⟨a2, b2⟩
    · exfalso; omega
    · rw [b, b2 few hm R.2]
-- asked
def spAskC (few top : Nat → Int32) (t ro r : Int32) : Prop := ((t.toInt < 0 ∨ 23 < t.toInt ∨ ro.toInt < 0 ∨ 7 < ro.toInt) ∧ r = -2) ∨ ((0 ≤ t.toInt ∧ t.toInt ≤ 23 ∧ 0 ≤ ro.toInt ∧ ro.toInt ≤ 7) ∧ ∃ c : Int32, whu top t c ∧ ((c = -1 ∧ r = -1) ∨ ((0 ≤ c.toInt ∧ c.toInt ≤ 47) ∧ ((few (ro.toInt * 8 + c.toInt / 6).toNat = -1 ∧ r = -1) ∨ (few (ro.toInt * 8 + c.toInt / 6).toNat ≠ -1 ∧ r.toInt = (few (ro.toInt * 8 + c.toInt / 6).toNat).toInt + c.toInt % 6 + 1)))))
def spAskM (A B : Nat → Int32) (n : Int32) (top : Nat → Int32) (t ro r : Int32) : Prop := ((t.toInt < 0 ∨ 23 < t.toInt ∨ ro.toInt < 0 ∨ 7 < ro.toInt) ∧ r = -2) ∨ ((0 ≤ t.toInt ∧ t.toInt ≤ 23 ∧ 0 ≤ ro.toInt ∧ ro.toInt ≤ 7) ∧ ∃ c : Int32, whr top t c ∧ ((c = -1 ∧ r = -1) ∨ ((0 ≤ c.toInt ∧ c.toInt ≤ 47) ∧ ∃ f g : Int32, g.toInt = c.toInt / 6 ∧ dsR A B n.toInt ro g f ∧ ((f = -1 ∧ r = -1) ∨ (f ≠ -1 ∧ r.toInt = f.toInt + c.toInt % 6 + 1)))))
theorem wh_same {f g : Nat → Int32} {t c c2 : Int32} (h : ∀ j, j < 48 → f j = g j) (b : whu f t c) (b2 : whr g t c2) : c = c2 := by
  rcases b with ⟨rfl, b⟩ | ⟨j, hj, rfl, e, hu⟩
  · rcases b2 with ⟨rfl, b2⟩ | ⟨j, hj, rfl, e⟩
    · rfl
    · exact absurd ((h j hj).trans e) (b j hj)
  · rcases b2 with ⟨rfl, b2⟩ | ⟨k, hk, rfl, e2⟩
    · exact absurd ((h j hj).symm.trans e) (b2 j hj)
    · rw [hu k hk ((h k hk).trans e2)]
theorem spAsk_rel {few A B top mt : Nat → Int32} {doo n t ro r r2 : Int32} (hm : mtOK few) (R : doR few doo A B n) (ht : ∀ j, j < 48 → top j = mt j) (h1 : spAskC few top t ro r) (h2 : spAskM A B n mt t ro r2) : r = r2 := by
  rcases h1 with ⟨a, b⟩ | ⟨a, c, w, b⟩
  · rcases h2 with ⟨a2, b2⟩ | ⟨a2, b2⟩
    · rw [b, b2]
    · exfalso; omega
  · rcases h2 with ⟨a2, b2⟩ | ⟨a2, c2, w2, b2⟩
    · exfalso; omega
    · have ec := wh_same ht w w2
      subst ec
      rcases b with ⟨q, b⟩ | ⟨q, b⟩
      · rcases b2 with ⟨-, b2⟩ | ⟨q2, -⟩
        · rw [b, b2]
        · rw [q] at q2; exact absurd q2.1 (by decide)
      · rcases b2 with ⟨q2, -⟩ | ⟨-, f, g, eg, ds, b2⟩
        · rw [q2] at q; exact absurd q.1 (by decide)
        · have ef := ds few hm R.2
          rw [eg] at ef
          rw [← ef] at b
          rcases b with ⟨u, b⟩ | ⟨u, b⟩
          · rcases b2 with ⟨-, b2⟩ | ⟨u2, -⟩
            · rw [b, b2]
            · exact absurd u u2
          · rcases b2 with ⟨u2, -⟩ | ⟨-, b2⟩
            · exact absurd u2 u
            · exact Int32.toInt_inj.mp (b.trans b2.symm)
-- cost
def stF (top : Nat → Int32) (lo : Nat) : Nat → Int
  | 0 => 0
  | k + 1 => stF top lo k + (if top (lo + k) = -1 then 0 else 1)
theorem st_init {top : Nat → Int32} {lo N : Nat} {L : Int} (hL : L = 0) (hN : N = 0) : L = stF top lo N := by subst hN; exact hL
theorem st_step {top : Nat → Int32} {lo N N' : Nat} {o : Int32} {L R : Int} (h : L = stF top lo N) (ho : o.toNatClampNeg = lo + N) (hR : (top o.toNatClampNeg = -1 ∧ R = L) ∨ (¬ top o.toNatClampNeg = -1 ∧ R = L + 1)) (hN : N' = N + 1) : R = stF top lo N' := by
  subst hN
  show R = stF top lo N + (if top (lo + N) = -1 then 0 else 1)
  rw [ho] at hR
  rcases hR with ⟨a, b⟩ | ⟨a, b⟩
  · rw [if_pos a, ← h]; omega
  · rw [if_neg a, ← h]; exact b
theorem st_eq {t t2 : Nat → Int32} {lo : Nat} (h : ∀ j, j < 48 → t j = t2 j) : ∀ k, lo + k ≤ 48 → stF t lo k = stF t2 lo k
  | 0, _ => rfl
  | k + 1, hk => by
    show stF t lo k + (if t (lo + k) = -1 then 0 else 1) = stF t2 lo k + (if t2 (lo + k) = -1 then 0 else 1)
    rw [st_eq h k (by omega), h (lo + k) (by omega)]
def coC (few top : Nat → Int32) (ro r : Int32) : Prop := (few ro.toInt.toNat = -1 ∧ r = -1) ∨ (few ro.toInt.toNat ≠ -1 ∧ r.toInt = 2 * (few ro.toInt.toNat).toInt + stF top (ro.toInt * 6).toNat 6)
def coM (A B : Nat → Int32) (n : Int) (top : Nat → Int32) (ro r : Int32) : Prop := ∃ f : Int32, dsR A B n 0 ro f ∧ ((f = -1 ∧ r = -1) ∨ (f ≠ -1 ∧ r.toInt = 2 * f.toInt + stF top (ro.toInt * 6).toNat 6))
def spCstC (few top : Nat → Int32) (ro r : Int32) : Prop := ((ro.toInt < 0 ∨ 7 < ro.toInt) ∧ r = -2) ∨ ((0 ≤ ro.toInt ∧ ro.toInt ≤ 7) ∧ coC few top ro r)
def spCstM (A B : Nat → Int32) (n : Int32) (top : Nat → Int32) (ro r : Int32) : Prop := ((ro.toInt < 0 ∨ 7 < ro.toInt) ∧ r = -2) ∨ ((0 ≤ ro.toInt ∧ ro.toInt ≤ 7) ∧ coM A B n.toInt top ro r)
theorem co_rel {few A B top mt : Nat → Int32} {n : Int} {ro r r2 : Int32} (hm : mtOK few) (R : edR few A B n) (ht : ∀ j, j < 48 → top j = mt j) (hr : 0 ≤ ro.toInt ∧ ro.toInt ≤ 7) (h1 : coC few top ro r) (h2 : coM A B n mt ro r2) : r = r2 := by
  obtain ⟨f, ds, b2⟩ := h2
  have ef := ds few hm R
  rw [show (((0 : Int32)).toInt * 8 + ro.toInt).toNat = ro.toInt.toNat from by rw [Int32.toInt_zero]; omega] at ef
  unfold coC at h1
  rw [← ef] at h1
  rcases h1 with ⟨u, b⟩ | ⟨u, b⟩
  · rcases b2 with ⟨-, b2⟩ | ⟨u2, -⟩
    · rw [b, b2]
    · exact absurd u u2
  · rcases b2 with ⟨u2, -⟩ | ⟨-, b2⟩
    · exact absurd u2 u
    · rw [st_eq ht 6 (by omega)] at b
      exact Int32.toInt_inj.mp (b.trans b2.symm)
theorem spCst_rel {few A B top mt : Nat → Int32} {doo n ro r r2 : Int32} (hm : mtOK few) (R : doR few doo A B n) (ht : ∀ j, j < 48 → top j = mt j) (h1 : spCstC few top ro r) (h2 : spCstM A B n mt ro r2) : r = r2 := by
  rcases h1 with ⟨a, b⟩ | ⟨a, b⟩
  · rcases h2 with ⟨a2, b2⟩ | ⟨a2, b2⟩
    · rw [b, b2]
    · exfalso; omega
  · rcases h2 with ⟨a2, b2⟩ | ⟨a2, b2⟩
    · exfalso; omega
    · exact co_rel hm R.2 ht a b b2
theorem do_init {few A B : Nat → Int32} {doo n : Int32} (h : di0 few) (h1 : doo = 0) (h2 : n = 0) : doR few doo A B n := by
  subst h1; subst h2
  refine ⟨rfl, fun x y hx hy => ⟨fun q => ?_, fun ⟨k, hk, _⟩ => ?_⟩⟩
  · have w := h x y hx hy
    by_cases c : x = y
    · rw [if_pos c] at w
      unfold dd at q; rw [dv_nn (by omega)] at q; omega
    · rw [if_neg c] at w
      unfold dd at q; rw [dv_m1 w] at q; omega
  · rw [Int32.toInt_zero] at hk; omega
theorem fi8_init {F : Nat → Int32} {a : Int32} {i : Int} (hi : i = 0) : fi8 a i F := fun j hj => by omega
theorem jk_narrow {A B : Nat → Int32} {x y r : Int32} {k : Int} (h : jkI A B x y k r) : r = 0 ∨ r = 1 := h.imp (fun a => a.1) (fun a => a.1)
theorem st_end {top : Nat → Int32} {lo lo' N : Nat} {L : Int} (h : L = stF top lo N) (e1 : lo' = lo) (e2 : N = 6) : L = stF top lo' 6 := by subst e1; subst e2; exact h
theorem askC_n {few top : Nat → Int32} {t ro c : Int32} (h0 : 0 ≤ t.toInt ∧ t.toInt ≤ 23 ∧ 0 ≤ ro.toInt ∧ ro.toInt ≤ 7) (w : whu top t c) (hc : c = -1) : spAskC few top t ro (-1) := .inr ⟨h0, c, w, .inl ⟨hc, rfl⟩⟩
theorem askC_no {few top : Nat → Int32} {t ro c f z : Int32} (h0 : 0 ≤ t.toInt ∧ t.toInt ≤ 23 ∧ 0 ≤ ro.toInt ∧ ro.toInt ≤ 7) (w : whu top t c) (hc : 0 ≤ c.toInt ∧ c.toInt ≤ 47) (e : f = few (ro.toInt * 8 + z.toInt).toNat) (hz : z.toInt = c.toInt / 6) (hf : f = -1) : spAskC few top t ro (-1) := .inr ⟨h0, c, w, .inr ⟨hc, .inl ⟨by rw [← hz, ← e]; exact hf, rfl⟩⟩⟩
theorem askC_ok {few top : Nat → Int32} {t ro c f z r : Int32} (h0 : 0 ≤ t.toInt ∧ t.toInt ≤ 23 ∧ 0 ≤ ro.toInt ∧ ro.toInt ≤ 7) (w : whu top t c) (hc : 0 ≤ c.toInt ∧ c.toInt ≤ 47) (e : f = few (ro.toInt * 8 + z.toInt).toNat) (hz : z.toInt = c.toInt / 6) (hf : ¬ f = -1) (hr : r.toInt = f.toInt + c.toInt % 6 + 1) : spAskC few top t ro r := .inr ⟨h0, c, w, .inr ⟨hc, .inr ⟨by rw [← hz, ← e]; exact hf, by rw [← hz, ← e]; exact hr⟩⟩⟩
theorem askM_n {A B top : Nat → Int32} {n t ro c : Int32} (h0 : 0 ≤ t.toInt ∧ t.toInt ≤ 23 ∧ 0 ≤ ro.toInt ∧ ro.toInt ≤ 7) (w : whr top t c) (hc : c = -1) : spAskM A B n top t ro (-1) := .inr ⟨h0, c, w, .inl ⟨hc, rfl⟩⟩
theorem askM_no {A B top : Nat → Int32} {n t ro c f z : Int32} (h0 : 0 ≤ t.toInt ∧ t.toInt ≤ 23 ∧ 0 ≤ ro.toInt ∧ ro.toInt ≤ 7) (w : whr top t c) (hc : 0 ≤ c.toInt ∧ c.toInt ≤ 47) (e : dsR A B n.toInt ro z f) (hz : z.toInt = c.toInt / 6) (hf : f = -1) : spAskM A B n top t ro (-1) := .inr ⟨h0, c, w, .inr ⟨hc, f, z, hz, e, .inl ⟨hf, rfl⟩⟩⟩
theorem askM_ok {A B top : Nat → Int32} {n t ro c f z r : Int32} (h0 : 0 ≤ t.toInt ∧ t.toInt ≤ 23 ∧ 0 ≤ ro.toInt ∧ ro.toInt ≤ 7) (w : whr top t c) (hc : 0 ≤ c.toInt ∧ c.toInt ≤ 47) (e : dsR A B n.toInt ro z f) (hz : z.toInt = c.toInt / 6) (hf : ¬ f = -1) (hr : r.toInt = f.toInt + c.toInt % 6 + 1) : spAskM A B n top t ro r := .inr ⟨h0, c, w, .inr ⟨hc, f, z, hz, e, .inr ⟨hf, hr⟩⟩⟩
theorem coC_no {few top : Nat → Int32} {ro f : Int32} {z : Int} (e : f = few (z * 8 + ro.toInt).toNat) (hz : z = 0) (hf : f = -1) : coC few top ro (-1) := by
  subst hz; rw [show ((0 : Int) * 8 + ro.toInt) = ro.toInt by omega] at e
  exact .inl ⟨e.symm.trans hf, rfl⟩
theorem coC_ok {few top : Nat → Int32} {ro f s r : Int32} {z : Int} (e : f = few (z * 8 + ro.toInt).toNat) (hz : z = 0) (hf : ¬ f = -1) (hs : s.toInt = stF top (ro.toInt * 6).toNat 6) (hr : r.toInt = 2 * f.toInt + s.toInt) : coC few top ro r := by
  subst hz; rw [show ((0 : Int) * 8 + ro.toInt) = ro.toInt by omega] at e
  exact .inr ⟨fun q => hf (e.trans q), by rw [← e, hr, hs]⟩
theorem coM_no {A B top : Nat → Int32} {n : Int} {ro f : Int32} (e : dsR A B n 0 ro f) (hf : f = -1) : coM A B n top ro (-1) := ⟨f, e, .inl ⟨hf, rfl⟩⟩
theorem coM_ok {A B top : Nat → Int32} {n : Int} {ro f s r : Int32} (e : dsR A B n 0 ro f) (hf : ¬ f = -1) (hs : s.toInt = stF top (ro.toInt * 6).toNat 6) (hr : r.toInt = 2 * f.toInt + s.toInt) : coM A B n top ro r := ⟨f, e, .inr ⟨hf, by rw [hr, hs]⟩⟩
set_option maxHeartbeats 4000000 in
set_option maxRecDepth 100000 in
theorem k_X9_door2 (l : Launch) (dC : Nat → ClassId) (dI : Nat → Nat → Nat) (cI cZ cQ : ClassId) (a : Nat → Nat) (rb0 : Nat) (rb1 : Nat) (rb2 : Nat) (db0 : Nat) (db1 : Nat) (db2 : Nat) (few : Nat → Int32) (doo : Int32) (sz : Nat) (x : Int32) (y : Int32) (q0 : mtOK few) : KW l yX9_door wsX9_door { frames := 3, cells := 0, slots := 0, locals := 72 } (dC, dI) (TY cI cZ cQ) (wsW cI cZ cQ a rb0 rb1 rb2 db0 db1 db2 few doo) [.ref (a 43), .int x, .int y] sz 0 0 (fun (r : Int32) (u : US) => (spDorC few doo x y r (u.1 0) (u.1 1 0)) ∧ (mtOK (u.1 0))) (fun u : US => (wsW cI cZ cQ a rb0 rb1 rb2 db0 db1 db2 (u.1 0) (u.1 1 0))) := by
  refine Met.ofW (cc := cX9_door) (maxL := 3) (ret := (some .int)) (by decide) rfl ?_
  intro p e s m args below meth c s₁ B hml hv
  obtain ⟨rfl, hsz, hP, hK, hD0, hN⟩ := hv
  have hx := B.exec
  have hb := B.bytes
  have hr := B.returns
  have hts := atoms_spec (ws := wsX9_door) B.pre
  have hown : s.vm.findClass RX9 = some m.cls := findClass_of_methodNamed B.named
  have hlocks := B.notSynchronized
  have lf12 := hts (.fieldLink RX9 12 "PalaceOfRooms" "ways" "LPalaceOfRooms$Ways;") (List.mem_cons_of_mem _ (List.mem_append_left _ (List.mem_append_left _ (List.mem_append_left _ (List.mem_of_getElem? (i := 0) rfl)))))
  have inX9 : ∀ w ∈ wsX90, w ∈ wsX9_door := fun w h => List.mem_cons_of_mem _ (List.mem_append_left _ (List.mem_append_right _ h))
  have lf91 := hN.use (w := .fieldLinkNest "PalaceOfRooms" 91 "PalaceOfRooms$Ways" "doors" "I" "PalaceOfRooms") (List.mem_of_getElem? (i := 0) rfl) ([.ref (a 43), .int x, .int y] : List Value).toArray
  have inX8 : ∀ w ∈ wsX80, w ∈ wsX9_door := fun w h => List.mem_cons_of_mem _ (List.mem_append_right _ h)
  subst hsz
  have hD := hD0.self (sz := s.heap.size)
  generalize hAe : va_A (wsW cI cZ cQ a rb0 rb1 rb2 db0 db1 db2 few doo) s.heap.size = A at hD ⊢
  have hA : ∀ q : Nat, s.heap.size ≤ q → A q := fun q h => by rw [← hAe]; exact Or.inr h
  have hS : va_S A s.heap s.heap [] := va_S.rf
  have hl := lv_entry ([.ref (a 43), .int x, .int y]) (n := 3) (Nat.le_of_ble_eq_true rfl)
  rw [lg_entry_eq]
  generalize (lg_sl ([.ref (a 43), .int x, .int y]) ++ List.replicate (3 - (lg_sl ([.ref (a 43), .int x, .int y])).length) Slot.unset).toArray = ls at hl ⊢
  have hl : lv_has ls 3 [(0, .ref (a 43)), (1, .int x), (2, .int y)] := hl
  refine lv_iload_n hx hb dX9_door_0 rfl (lv_at hl 1 rfl) ?_
  refine rdS (As := [.int x]) (rest := []) ⟨hx, hb, hml, hown, hts⟩ (k_X9_isRoom l dC dI cI cZ cQ x) (va_cwS 1 hts gX9_door_X9_isRoom rfl rfl rfl (by decide +kernel) ⟨Nat.le_of_ble_eq_true rfl, Nat.le_of_ble_eq_true rfl⟩) hP hK hN [] rfl rfl hl.1 rfl (Nat.le_of_ble_eq_true rfl) dX9_door_1 ⟨Nat.le_of_ble_eq_true rfl, Nat.le_of_ble_eq_true rfl⟩ (fun r1 h2 => ?_)
  have h2 : ((((r1 = 1) ∧ (0 ≤ x.toInt) ∧ (x.toInt ≤ 7)) ∨ ((r1 = 0) ∧ (x.toInt < 0 ∨ 7 < x.toInt)))) := h2
  rcases h2 with (⟨rfl, h2_a0, h2_a1⟩ | ⟨rfl, h2_a0⟩)
  · refine lv_if_eq (tgt := 19) hx hb dX9_door_4 (by decide) (fun c9 => absurd c9 (by decide)) (fun _ => ?_)
    refine lv_iload_n hx hb dX9_door_7 rfl (lv_at hl 2 rfl) ?_
    refine rdS (As := [.int y]) (rest := []) ⟨hx, hb, hml, hown, hts⟩ (k_X9_isRoom l dC dI cI cZ cQ y) (va_cwS 1 hts gX9_door_X9_isRoom rfl rfl rfl (by decide +kernel) ⟨Nat.le_of_ble_eq_true rfl, Nat.le_of_ble_eq_true rfl⟩) hP hK hN [] rfl rfl hl.1 rfl (Nat.le_of_ble_eq_true rfl) dX9_door_8 ⟨Nat.le_of_ble_eq_true rfl, Nat.le_of_ble_eq_true rfl⟩ (fun r3 h4 => ?_)
    have h4 : ((((r3 = 1) ∧ (0 ≤ y.toInt) ∧ (y.toInt ≤ 7)) ∨ ((r3 = 0) ∧ (y.toInt < 0 ∨ 7 < y.toInt)))) := h4
    rcases h4 with (⟨rfl, h4_a0, h4_a1⟩ | ⟨rfl, h4_a0⟩)
    · refine lv_if_eq (tgt := 19) hx hb dX9_door_11 (by decide) (fun c9 => absurd c9 (by decide)) (fun _ => ?_)
      refine lv_iload_n hx hb dX9_door_14 rfl (lv_at hl 1 rfl) ?_
      refine lv_iload_n hx hb dX9_door_15 rfl (lv_at hl 2 rfl) ?_
      refine lv_icmp_ne (tgt := 22) hx hb dX9_door_16 (by decide) (fun c5 => ?_) (fun c5 => ?_)
      · have dc5 : x.toInt ≠ y.toInt := neC rfl rfl c5
        refine lv_aload_n hx hb dX9_door_22 rfl (lv_at hl 0 rfl) ?_
        refine va_get (D := (dC, dI)) (ci := 9) (v := .ref (a 0)) (C := RX9) (T := TX9) (N := 11) hx hb hts inX9 hown hK hP 0 rfl rfl 0 (by decide) lf12 (fun _ h9 => h9) rfl dX9_door_23 ?_
        refine lv_iload_n hx hb dX9_door_26 rfl (lv_at hl 1 rfl) ?_
        refine lv_iload_n hx hb dX9_door_27 rfl (lv_at hl 2 rfl) ?_
        refine rdV (As := [.int x, .int y]) (rest := []) ⟨hx, hb, hml, hown, hts⟩ (k_X8_joined2 l dC dI cI cZ cQ a few doo x y (by omega) (by omega) (by omega) (by omega)) (cwV 2 hts gX9_door_X8_joined rfl rfl rfl (by decide +kernel) ⟨Nat.le_of_ble_eq_true rfl, Nat.le_of_ble_eq_true rfl⟩) hP hK hN [1, 2] rfl 1 8 rfl rfl rfl hl.1 rfl (Nat.le_of_ble_eq_true rfl) dX9_door_28 ⟨Nat.le_of_ble_eq_true rfl, Nat.le_of_ble_eq_true rfl⟩ (fun r6 h7 => ?_)
        have h7 : ((((r6 = 1) ∧ ((few (x.toInt * 8 + y.toInt).toNat).toInt = 1)) ∨ ((r6 = 0) ∧ ((few (x.toInt * 8 + y.toInt).toNat).toInt ≠ 1)))) := h7
        rcases h7 with (⟨rfl, h7_a0⟩ | ⟨rfl, h7_a0⟩)
        · refine lv_if_eq (tgt := 37) hx hb dX9_door_31 (by decide) (fun c9 => absurd c9 (by decide)) (fun _ => ?_)
          refine lv_bipush (v := (-4)) hx hb dX9_door_34 (by decide) ?_
          exact W.iret (v := (-4)) hx hb hr (fun tq ht hW => ⟨⟨(-4), (uS [few, (fun _ => doo)] 0 (fun _ => 0)), rfl, ⟨(show spDorC few doo x y ((-4) : Int32) few doo from by (try rw [show ((-4) : Int32).toInt = (-4) from (show ((-4) : Int32).toInt = (-4) from rfl)]); (first | exact Or.inl ⟨by omega, rfl, rfl, rfl⟩ | exact Or.inr ⟨by omega, Or.inl ⟨by omega, rfl, rfl, rfl⟩⟩ | exact Or.inr ⟨by omega, Or.inr ⟨by omega, Or.inl ⟨by omega, rfl, rfl, rfl⟩⟩⟩ | exact Or.inr ⟨by omega, Or.inr ⟨by omega, Or.inr ⟨by omega, by assumption, by assumption, by assumption⟩⟩⟩)), (show mtOK few from by (try rw [show ((-4) : Int32).toInt = (-4) from (show ((-4) : Int32).toInt = (-4) from rfl)]); (first | exact q0 | assumption))⟩, by rw [ht]; exact hP, hD⟩, hS.F ht⟩) hS.2.2 dX9_door_36
        · refine lv_if_eq (tgt := 37) hx hb dX9_door_31 (by decide) (fun _ => ?_) (fun c9 => absurd (by decide) c9)
          refine lv_aload_n hx hb dX9_door_37 rfl (lv_at hl 0 rfl) ?_
          refine va_get (D := (dC, dI)) (ci := 9) (v := .ref (a 0)) (C := RX9) (T := TX9) (N := 11) hx hb hts inX9 hown hK hP 0 rfl rfl 0 (by decide) lf12 (fun _ h9 => h9) rfl dX9_door_38 ?_
          refine va_getN (D := (dC, dI)) (ci := 8) (v := .int doo) (C := RX8) (T := TX8) (N := 2) hx hb hts inX8 hown hK hP 1 rfl rfl 1 (by decide) lf91 (fun _ h9 => h9) rfl dX9_door_41 ?_
          refine lv_bipush (v := 14) hx hb dX9_door_44 (by decide) ?_
          refine lv_icmp_lt (tgt := 52) hx hb dX9_door_46 (by decide) (fun c8 => ?_) (fun c8 => ?_)
          · have dc8 : doo.toInt < 14 := ltC rfl (show (14 : Int32).toInt = 14 from rfl) c8
            refine lv_aload_n hx hb dX9_door_52 rfl (lv_at hl 0 rfl) ?_
            refine va_get (D := (dC, dI)) (ci := 9) (v := .ref (a 0)) (C := RX9) (T := TX9) (N := 11) hx hb hts inX9 hown hK hP 0 rfl rfl 0 (by decide) lf12 (fun _ h9 => h9) rfl dX9_door_53 ?_
            refine lv_iload_n hx hb dX9_door_56 rfl (lv_at hl 1 rfl) ?_
            refine lv_iload_n hx hb dX9_door_57 rfl (lv_at hl 2 rfl) ?_
            refine wvV (As := [.int x, .int y]) (rest := []) (wr := [((a 43), .inr (9, [.ref (a 0), .ref (a 2), .ref (a 4), .ref (a 14), .ref (a 16), .ref (a 23), .ref (a 28), .ref (a 33), .ref (a 42), .ref rb0, .ref db0]))]) (w2 := (fun u : US => (wsW cI cZ cQ a rb0 rb1 rb2 db0 db1 db2 (u.1 0) (u.1 1 0)))) ⟨hx, hb, hml, hown, hts⟩ (k_X8_join2 l dC dI cI cZ cQ a few doo _ x y (by omega) (by omega) (by omega) (by omega) (by exact q0) (by omega)) (cwV 2 hts gX9_door_X8_join rfl rfl rfl (by decide +kernel) ⟨Nat.le_of_ble_eq_true rfl, Nat.le_of_ble_eq_true rfl⟩) hP hD hS hA hK hN [1, 2] [0] [0, 1, 2] rfl rfl (by decide) (by decide) (by decide) (fun _ => rfl) (by decide) 1 8 rfl rfl rfl hl.1 rfl (Nat.le_of_ble_eq_true rfl) dX9_door_58 ⟨Nat.le_of_ble_eq_true rfl, Nat.le_of_ble_eq_true rfl⟩ (fun u11 H locs h10 hP hD hS => ?_)
            obtain ⟨few_c12, efew_c12⟩ : ∃ f : Nat → Int32, f = (u11.1 0) := ⟨_, rfl⟩
            obtain ⟨doo_c13, edoo_c13⟩ : ∃ f : Int32, f = (u11.1 1 0) := ⟨_, rfl⟩
            have hP : va_P (dC, dI) vwCl (wsW cI cZ cQ a rb0 rb1 rb2 db0 db1 db2 few_c12 doo_c13) H := by rw [efew_c12, edoo_c13]; exact hP
            have hD : va_D A (wsW cI cZ cQ a rb0 rb1 rb2 db0 db1 db2 few_c12 doo_c13) := by rw [efew_c12, edoo_c13]; exact hD
            have h10 : (doo_c13 = doo + 1) ∧ (jnS few x y few_c12) ∧ (mtOK few_c12) := by (try rw [efew_c12]); (try rw [edoo_c13]); exact h10
            obtain ⟨h10_0, h10_1, h10_2⟩ := h10
            refine lv_aload_n hx hb dX9_door_61 rfl (lv_at hl 0 rfl) ?_
            refine va_get (D := (dC, dI)) (ci := 9) (v := .ref (a 0)) (C := RX9) (T := TX9) (N := 11) hx hb hts inX9 hown hK hP 0 rfl rfl 0 (by decide) lf12 (fun _ h9 => h9) rfl dX9_door_62 ?_
            refine va_getN (D := (dC, dI)) (ci := 8) (v := .int doo_c13) (C := RX8) (T := TX8) (N := 2) hx hb hts inX8 hown hK hP 1 rfl rfl 1 (by decide) lf91 (fun _ h9 => h9) rfl dX9_door_65 ?_
            exact W.iret (v := doo_c13) hx hb hr (fun tq ht hW => ⟨⟨doo_c13, (uS [few_c12, (fun _ => doo_c13)] 0 (fun _ => 0)), rfl, ⟨(show spDorC few doo x y doo_c13 few_c12 doo_c13 from by (first | exact Or.inl ⟨by omega, rfl, rfl, rfl⟩ | exact Or.inr ⟨by omega, Or.inl ⟨by omega, rfl, rfl, rfl⟩⟩ | exact Or.inr ⟨by omega, Or.inr ⟨by omega, Or.inl ⟨by omega, rfl, rfl, rfl⟩⟩⟩ | exact Or.inr ⟨by omega, Or.inr ⟨by omega, Or.inr ⟨by omega, by assumption, by assumption, by assumption⟩⟩⟩)), (show mtOK few_c12 from by (first | exact q0 | assumption))⟩, by rw [ht]; exact hP, hD⟩, hS.F ht⟩) hS.2.2 dX9_door_68
          · have dc8 : 14 ≤ doo.toInt := nltC rfl (show (14 : Int32).toInt = 14 from rfl) c8
            refine lv_bipush (v := (-5)) hx hb dX9_door_49 (by decide) ?_
            exact W.iret (v := (-5)) hx hb hr (fun tq ht hW => ⟨⟨(-5), (uS [few, (fun _ => doo)] 0 (fun _ => 0)), rfl, ⟨(show spDorC few doo x y ((-5) : Int32) few doo from by (try rw [show ((-5) : Int32).toInt = (-5) from (show ((-5) : Int32).toInt = (-5) from rfl)]); (first | exact Or.inl ⟨by omega, rfl, rfl, rfl⟩ | exact Or.inr ⟨by omega, Or.inl ⟨by omega, rfl, rfl, rfl⟩⟩ | exact Or.inr ⟨by omega, Or.inr ⟨by omega, Or.inl ⟨by omega, rfl, rfl, rfl⟩⟩⟩ | exact Or.inr ⟨by omega, Or.inr ⟨by omega, Or.inr ⟨by omega, by assumption, by assumption, by assumption⟩⟩⟩)), (show mtOK few from by (try rw [show ((-5) : Int32).toInt = (-5) from (show ((-5) : Int32).toInt = (-5) from rfl)]); (first | exact q0 | assumption))⟩, by rw [ht]; exact hP, hD⟩, hS.F ht⟩) hS.2.2 dX9_door_51
      · have dc5 : x.toInt = y.toInt := eqC rfl rfl c5
        refine lv_bipush (v := (-2)) hx hb dX9_door_19 (by decide) ?_
        exact W.iret (v := (-2)) hx hb hr (fun tq ht hW => ⟨⟨(-2), (uS [few, (fun _ => doo)] 0 (fun _ => 0)), rfl, ⟨(show spDorC few doo x y ((-2) : Int32) few doo from by (try rw [show ((-2) : Int32).toInt = (-2) from (show ((-2) : Int32).toInt = (-2) from rfl)]); (first | exact Or.inl ⟨by omega, rfl, rfl, rfl⟩ | exact Or.inr ⟨by omega, Or.inl ⟨by omega, rfl, rfl, rfl⟩⟩ | exact Or.inr ⟨by omega, Or.inr ⟨by omega, Or.inl ⟨by omega, rfl, rfl, rfl⟩⟩⟩ | exact Or.inr ⟨by omega, Or.inr ⟨by omega, Or.inr ⟨by omega, by assumption, by assumption, by assumption⟩⟩⟩)), (show mtOK few from by (try rw [show ((-2) : Int32).toInt = (-2) from (show ((-2) : Int32).toInt = (-2) from rfl)]); (first | exact q0 | assumption))⟩, by rw [ht]; exact hP, hD⟩, hS.F ht⟩) hS.2.2 dX9_door_21
    · refine lv_if_eq (tgt := 19) hx hb dX9_door_11 (by decide) (fun _ => ?_) (fun c9 => absurd (by decide) c9)
      refine lv_bipush (v := (-2)) hx hb dX9_door_19 (by decide) ?_
      exact W.iret (v := (-2)) hx hb hr (fun tq ht hW => ⟨⟨(-2), (uS [few, (fun _ => doo)] 0 (fun _ => 0)), rfl, ⟨(show spDorC few doo x y ((-2) : Int32) few doo from by (try rw [show ((-2) : Int32).toInt = (-2) from (show ((-2) : Int32).toInt = (-2) from rfl)]); (first | exact Or.inl ⟨by omega, rfl, rfl, rfl⟩ | exact Or.inr ⟨by omega, Or.inl ⟨by omega, rfl, rfl, rfl⟩⟩ | exact Or.inr ⟨by omega, Or.inr ⟨by omega, Or.inl ⟨by omega, rfl, rfl, rfl⟩⟩⟩ | exact Or.inr ⟨by omega, Or.inr ⟨by omega, Or.inr ⟨by omega, by assumption, by assumption, by assumption⟩⟩⟩)), (show mtOK few from by (try rw [show ((-2) : Int32).toInt = (-2) from (show ((-2) : Int32).toInt = (-2) from rfl)]); (first | exact q0 | assumption))⟩, by rw [ht]; exact hP, hD⟩, hS.F ht⟩) hS.2.2 dX9_door_21
  · refine lv_if_eq (tgt := 19) hx hb dX9_door_4 (by decide) (fun _ => ?_) (fun c9 => absurd (by decide) c9)
    refine lv_bipush (v := (-2)) hx hb dX9_door_19 (by decide) ?_
    exact W.iret (v := (-2)) hx hb hr (fun tq ht hW => ⟨⟨(-2), (uS [few, (fun _ => doo)] 0 (fun _ => 0)), rfl, ⟨(show spDorC few doo x y ((-2) : Int32) few doo from by (try rw [show ((-2) : Int32).toInt = (-2) from (show ((-2) : Int32).toInt = (-2) from rfl)]); (first | exact Or.inl ⟨by omega, rfl, rfl, rfl⟩ | exact Or.inr ⟨by omega, Or.inl ⟨by omega, rfl, rfl, rfl⟩⟩ | exact Or.inr ⟨by omega, Or.inr ⟨by omega, Or.inl ⟨by omega, rfl, rfl, rfl⟩⟩⟩ | exact Or.inr ⟨by omega, Or.inr ⟨by omega, Or.inr ⟨by omega, by assumption, by assumption, by assumption⟩⟩⟩)), (show mtOK few from by (try rw [show ((-2) : Int32).toInt = (-2) from (show ((-2) : Int32).toInt = (-2) from rfl)]); (first | exact q0 | assumption))⟩, by rw [ht]; exact hP, hD⟩, hS.F ht⟩) hS.2.2 dX9_door_21
set_option maxHeartbeats 4000000 in
set_option maxRecDepth 100000 in
theorem k_X9_away2 (l : Launch) (dC : Nat → ClassId) (dI : Nat → Nat → Nat) (cI cZ cQ : ClassId) (a : Nat → Nat) (rb0 : Nat) (rb1 : Nat) (rb2 : Nat) (db0 : Nat) (db1 : Nat) (db2 : Nat) (few : Nat → Int32) (doo : Int32) (x : Int32) (y : Int32)  : KR l yX9_away wsX9_away { frames := 2, cells := 0, slots := 0, locals := 42 } (dC, dI) (TY cI cZ cQ) (wsW cI cZ cQ a rb0 rb1 rb2 db0 db1 db2 few doo) [.ref (a 43), .int x, .int y] (fun r : Int32 => (spAwyC few x y r)) := by
  refine Met.ofW (cc := cX9_away) (maxL := 3) (ret := (some .int)) (by decide) rfl ?_
  intro p e s m args below meth c s₁ B hml hv
  obtain ⟨rfl, hP, hK, hN⟩ := hv
  have hx := B.exec
  have hb := B.bytes
  have hr := B.returns
  have hts := atoms_spec (ws := wsX9_away) B.pre
  have hown : s.vm.findClass RX9 = some m.cls := findClass_of_methodNamed B.named
  have hlocks := B.notSynchronized
  have lf12 := hts (.fieldLink RX9 12 "PalaceOfRooms" "ways" "LPalaceOfRooms$Ways;") (List.mem_cons_of_mem _ (List.mem_append_left _ (List.mem_append_left _ (List.mem_of_getElem? (i := 0) rfl))))
  have inX9 : ∀ w ∈ wsX90, w ∈ wsX9_away := fun w h => List.mem_cons_of_mem _ (List.mem_append_left _ (List.mem_append_right _ h))
  have hl := lv_entry ([.ref (a 43), .int x, .int y]) (n := 3) (Nat.le_of_ble_eq_true rfl)
  rw [lg_entry_eq]
  generalize (lg_sl ([.ref (a 43), .int x, .int y]) ++ List.replicate (3 - (lg_sl ([.ref (a 43), .int x, .int y])).length) Slot.unset).toArray = ls at hl ⊢
  have hl : lv_has ls 3 [(0, .ref (a 43)), (1, .int x), (2, .int y)] := hl
  refine lv_iload_n hx hb dX9_away_0 rfl (lv_at hl 1 rfl) ?_
  refine rdS (As := [.int x]) (rest := []) ⟨hx, hb, hml, hown, hts⟩ (k_X9_isRoom l dC dI cI cZ cQ x) (va_cwS 1 hts gX9_away_X9_isRoom rfl rfl rfl (by decide +kernel) ⟨Nat.le_of_ble_eq_true rfl, Nat.le_of_ble_eq_true rfl⟩) hP hK hN [] rfl rfl hl.1 rfl (Nat.le_of_ble_eq_true rfl) dX9_away_1 ⟨Nat.le_of_ble_eq_true rfl, Nat.le_of_ble_eq_true rfl⟩ (fun r1 h2 => ?_)
  have h2 : ((((r1 = 1) ∧ (0 ≤ x.toInt) ∧ (x.toInt ≤ 7)) ∨ ((r1 = 0) ∧ (x.toInt < 0 ∨ 7 < x.toInt)))) := h2
  rcases h2 with (⟨rfl, h2_a0, h2_a1⟩ | ⟨rfl, h2_a0⟩)
  · refine lv_if_eq (tgt := 14) hx hb dX9_away_4 (by decide) (fun c9 => absurd c9 (by decide)) (fun _ => ?_)
    refine lv_iload_n hx hb dX9_away_7 rfl (lv_at hl 2 rfl) ?_
    refine rdS (As := [.int y]) (rest := []) ⟨hx, hb, hml, hown, hts⟩ (k_X9_isRoom l dC dI cI cZ cQ y) (va_cwS 1 hts gX9_away_X9_isRoom rfl rfl rfl (by decide +kernel) ⟨Nat.le_of_ble_eq_true rfl, Nat.le_of_ble_eq_true rfl⟩) hP hK hN [] rfl rfl hl.1 rfl (Nat.le_of_ble_eq_true rfl) dX9_away_8 ⟨Nat.le_of_ble_eq_true rfl, Nat.le_of_ble_eq_true rfl⟩ (fun r3 h4 => ?_)
    have h4 : ((((r3 = 1) ∧ (0 ≤ y.toInt) ∧ (y.toInt ≤ 7)) ∨ ((r3 = 0) ∧ (y.toInt < 0 ∨ 7 < y.toInt)))) := h4
    rcases h4 with (⟨rfl, h4_a0, h4_a1⟩ | ⟨rfl, h4_a0⟩)
    · refine lv_if_ne (tgt := 17) hx hb dX9_away_11 (by decide) (fun _ => ?_) (fun c9 => absurd c9 (by decide))
      refine lv_aload_n hx hb dX9_away_17 rfl (lv_at hl 0 rfl) ?_
      refine va_get (D := (dC, dI)) (ci := 9) (v := .ref (a 0)) (C := RX9) (T := TX9) (N := 11) hx hb hts inX9 hown hK hP 0 rfl rfl 0 (by decide) lf12 (fun _ h9 => h9) rfl dX9_away_18 ?_
      refine lv_iload_n hx hb dX9_away_21 rfl (lv_at hl 1 rfl) ?_
      refine lv_iload_n hx hb dX9_away_22 rfl (lv_at hl 2 rfl) ?_
      refine rdV (As := [.int x, .int y]) (rest := []) ⟨hx, hb, hml, hown, hts⟩ (k_X8_between2 l dC dI cI cZ cQ a few doo x y (by omega) (by omega) (by omega) (by omega)) (cwV 2 hts gX9_away_X8_between rfl rfl rfl (by decide +kernel) ⟨Nat.le_of_ble_eq_true rfl, Nat.le_of_ble_eq_true rfl⟩) hP hK hN [1, 2] rfl 1 8 rfl rfl rfl hl.1 rfl (Nat.le_of_ble_eq_true rfl) dX9_away_23 ⟨Nat.le_of_ble_eq_true rfl, Nat.le_of_ble_eq_true rfl⟩ (fun r5 h6 => ?_)
      have h6 : (r5 = few (x.toInt * 8 + y.toInt).toNat) ∧ (r5.toInt = (few (x.toInt * 8 + y.toInt).toNat).toInt) := h6
      obtain ⟨h6_0, h6_1⟩ := h6
      exact W.iret (v := r5) hx hb hr (fun tq ht hW => ⟨r5, rfl, (show spAwyC few x y r5 from by (first | exact Or.inl ⟨by omega, rfl⟩ | exact Or.inr ⟨by omega, by assumption⟩)), ht⟩) (fun q h => by cases h) dX9_away_26
    · refine lv_if_ne (tgt := 17) hx hb dX9_away_11 (by decide) (fun c9 => absurd (by decide) c9) (fun _ => ?_)
      refine lv_bipush (v := (-2)) hx hb dX9_away_14 (by decide) ?_
      exact W.iret (v := (-2)) hx hb hr (fun tq ht hW => ⟨(-2), rfl, (show spAwyC few x y ((-2) : Int32) from by (try rw [show ((-2) : Int32).toInt = (-2) from (show ((-2) : Int32).toInt = (-2) from rfl)]); (first | exact Or.inl ⟨by omega, rfl⟩ | exact Or.inr ⟨by omega, by assumption⟩)), ht⟩) (fun q h => by cases h) dX9_away_16
  · refine lv_if_eq (tgt := 14) hx hb dX9_away_4 (by decide) (fun _ => ?_) (fun c9 => absurd (by decide) c9)
    refine lv_bipush (v := (-2)) hx hb dX9_away_14 (by decide) ?_
    exact W.iret (v := (-2)) hx hb hr (fun tq ht hW => ⟨(-2), rfl, (show spAwyC few x y ((-2) : Int32) from by (try rw [show ((-2) : Int32).toInt = (-2) from (show ((-2) : Int32).toInt = (-2) from rfl)]); (first | exact Or.inl ⟨by omega, rfl⟩ | exact Or.inr ⟨by omega, by assumption⟩)), ht⟩) (fun q h => by cases h) dX9_away_16
set_option maxHeartbeats 4000000 in
set_option maxRecDepth 100000 in
theorem k_X10_areJoined2 (l : Launch) (dC : Nat → ClassId) (dI : Nat → Nat → Nat) (cI cZ cQ : ClassId) (b : Nat → Nat) (mday : Int32) (mdoo : Int32) (mdA : Nat → Int32) (mdB : Nat → Int32) (mfar : Nat → Int32) (mmar : Nat → Int32) (mtel : Int32) (mgai : Int32) (mfal : Nat → Int32) (mtop : Nat → Int32) (mstr : Nat → Int32) (mgho : Nat → Int32) (mfai : Nat → Int32) (mpto : Nat → Int32) (mwal : Nat → Int32) (mahd : Nat → Int32) (mahf : Nat → Int32) (mcho : Nat → Int32) (mbes : Nat → Int32) (mbyt : Int32) (mtxt : Nat → Int32) (mpos : Int32) (mtka : Int32) (mtok : Int64) (mdig : Int32) (mnum : Int32) (mfau : Int32) (mrdm : Int32) (mrea : Nat → Int32) (mlin : Int32) (mlne : Nat → Int32) (mthg : Nat → Int32) (mord : Nat → Int32) (mbor : Nat → Int32) (mbsm : Int32) (mans : Nat → Int32) (mand : Nat → Int32) (manr : Nat → Int32) (mali : Nat → Int32) (x : Int32) (y : Int32) (r_mday : 0 ≤ mday.toInt ∧ mday.toInt ≤ 400) (r_mdoo : 0 ≤ mdoo.toInt ∧ mdoo.toInt ≤ 14) (r_mdA : rg 14 (0) (7) mdA) (r_mdB : rg 14 (0) (7) mdB) (r_mmar : rg 24 (0) (255) mmar) (r_mgai : 0 ≤ mgai.toInt ∧ mgai.toInt ≤ 100) (r_mfal : rg 11 (0) (30) mfal) (r_mtop : rg 48 (-1) (23) mtop) (r_mstr : rg 48 (0) (100) mstr) (r_mgho : rg 48 (-1) (23) mgho) (r_mfai : rg 48 (0) (100) mfai) (r_mahd : rg 240 (0) (100) mahd) (r_mahf : rg 240 (0) (100) mahf) (r_mcho : rg 5 (-1) (9) mcho) (r_mbyt : 0 ≤ mbyt.toInt ∧ mbyt.toInt ≤ 160) (r_mpos : 0 ≤ mpos.toInt ∧ mpos.toInt ≤ 160) (r_mrdm : 0 ≤ mrdm.toInt ∧ mrdm.toInt ≤ 10) (r_mlin : 0 ≤ mlin.toInt ∧ mlin.toInt ≤ 10) (r_mthg : rg 8 (0) (31) mthg) (r_mord : rg 8 (-1) (8) mord) (r_mans : rg 4 (0) (12) mans) : KR l yX10_areJoined wsX10_areJoined { frames := 0, cells := 0, slots := 0, locals := 0 } (dC, dI) (TY cI cZ cQ) (wMod cI cZ cQ b mday mdoo mdA mdB mfar mmar mtel mgai mfal mtop mstr mgho mfai mpto mwal mahd mahf mcho mbes mbyt mtxt mpos mtka mtok mdig mnum mfau mrdm mrea mlin mlne mthg mord mbor mbsm mans mand manr mali) [.ref (b 39), .int x, .int y] (fun r : Int32 => ((((r = 1) ∧ (eD mdA mdB mdoo.toInt x.toInt y.toInt)) ∨ ((r = 0) ∧ (¬ eD mdA mdB mdoo.toInt x.toInt y.toInt))))) := by
  refine Met.ofW (cc := cX10_areJoined) (maxL := 5) (ret := (some .boolean)) (by decide) rfl ?_
  intro p e s m args below meth c s₁ B hml hv
  obtain ⟨rfl, hP, hK, hN⟩ := hv
  have hx := B.exec
  have hb := B.bytes
  have hr := B.returns
  have hts := atoms_spec (ws := wsX10_areJoined) B.pre
  have hown : s.vm.findClass RX10 = some m.cls := findClass_of_methodNamed B.named
  have hlocks := B.notSynchronized
  have lf97 := hts (.fieldLink RX10 97 "PalaceOfRoomsModel" "doors" "I") (List.mem_cons_of_mem _ (List.mem_append_left _ (List.mem_of_getElem? (i := 0) rfl)))
  have inX10 : ∀ w ∈ wsX100, w ∈ wsX10_areJoined := fun w h => List.mem_cons_of_mem _ (List.mem_append_right _ h)
  have lf7 := hts (.fieldLink RX10 7 "PalaceOfRoomsModel" "doorA" "[I") (List.mem_cons_of_mem _ (List.mem_append_left _ (List.mem_of_getElem? (i := 1) rfl)))
  have lf13 := hts (.fieldLink RX10 13 "PalaceOfRoomsModel" "doorB" "[I") (List.mem_cons_of_mem _ (List.mem_append_left _ (List.mem_of_getElem? (i := 2) rfl)))
  have hl := lv_entry ([.ref (b 39), .int x, .int y]) (n := 5) (Nat.le_of_ble_eq_true rfl)
  rw [lg_entry_eq]
  generalize (lg_sl ([.ref (b 39), .int x, .int y]) ++ List.replicate (5 - (lg_sl ([.ref (b 39), .int x, .int y])).length) Slot.unset).toArray = ls at hl ⊢
  have hl : lv_has ls 5 [(0, .ref (b 39)), (1, .int x), (2, .int y)] := hl
  refine lv_iconst (v := 0) hx hb dX10_areJoined_0 (by decide) ?_
  refine lv_istore_n (lv' := [(3, .int 0), (0, .ref (b 39)), (1, .int x), (2, .int y)]) hx hb dX10_areJoined_1 rfl hl (by decide) rfl (fun ls hl => ?_)
  refine lv_iconst (v := 0) hx hb dX10_areJoined_2 (by decide) ?_
  refine lv_istore (lv' := [(4, .int 0), (3, .int 0), (0, .ref (b 39)), (1, .int x), (2, .int y)]) hx hb dX10_areJoined_3 hl (by decide) rfl (fun ls hl => ?_)
  have L5 : ∀ (nn : Nat) (y5_3 : Int32) (y5_4 : Int32) (ls : Array Slot), (0 ≤ (y5_4.toInt)) → ((y5_4.toInt) ≤ 14) → (jkI mdA mdB x y (y5_4.toInt) y5_3) → ((y5_4.toInt) ≤ mdoo.toInt) → (14 - (y5_4.toInt)).toNat < nn → lv_has ls 5 [(0, .ref (b 39)), (1, .int x), (2, .int y), (3, .int y5_3), (4, .int y5_4)] → W p l e (headSpec wsX10_areJoined { frames := 0, cells := 0, slots := 0, locals := 0 }).room s m ([.ref (b 39), .int x, .int y] : List Value).toArray below meth c s.heap [] 0 0 (MQ below (QR (fun r : Int32 => ((((r = 1) ∧ (eD mdA mdB mdoo.toInt x.toInt y.toInt)) ∨ ((r = 0) ∧ (¬ eD mdA mdB mdoo.toInt x.toInt y.toInt)))))) ([.ref (b 39), .int x, .int y] : List Value).toArray s 0 0 (fun _ => False)) (F0 m 5 ls []) := by
    intro nn
    induction nn with
    | zero =>
      intro y5_3 y5_4 ls i5_0 i5_1 i5_2 i5_3 hm5
      exact absurd hm5 (Nat.not_lt_zero _)
    | succ nn ih5 =>
      intro y5_3 y5_4 ls i5_0 i5_1 i5_2 i5_3 hm5 hl
      refine lv_iload hx hb dX10_areJoined_5 (lv_at hl 4 rfl) ?_
      refine lv_aload_n hx hb dX10_areJoined_7 rfl (lv_at hl 0 rfl) ?_
      refine va_get (D := (dC, dI)) (ci := 10) (v := .int mdoo) (C := RX10) (T := TX10) (N := 39) hx hb hts inX10 hown hK hP 0 rfl rfl 1 (by decide) lf97 (fun _ h9 => h9) rfl dX10_areJoined_8 ?_
      refine lv_icmp_ge (tgt := 74) hx hb dX10_areJoined_11 (by decide) (fun c1 => ?_) (fun c1 => ?_)
      · have dc1 : mdoo.toInt ≤ y5_4.toInt := leC rfl rfl c1
        refine lv_iload_n hx hb dX10_areJoined_74 rfl (lv_at hl 3 rfl) ?_
        exact W.zret (v := y5_3) hx hb hr (by (rcases jk_narrow i5_2 with h | h <;> rw [h] <;> rfl)) (fun tq ht hW => ⟨y5_3, rfl, (by exact jk_alt i5_2 (by omega)), ht⟩) (fun q h => by cases h) dX10_areJoined_75
      · have dc1 : y5_4.toInt < mdoo.toInt := nleC rfl rfl c1
        refine lv_iload_n hx hb dX10_areJoined_14 rfl (lv_at hl 3 rfl) ?_
        refine lv_if_ne (tgt := 62) hx hb dX10_areJoined_15 (by decide) (fun c2 => ?_) (fun c2 => ?_)
        · have dc2 : y5_3.toInt ≠ 0 := neC rfl (show (0 : Int32).toInt = 0 from rfl) c2
          refine lv_iconst (v := 1) hx hb dX10_areJoined_62 (by decide) ?_
          refine lv_goto (tgt := 67) hx hb dX10_areJoined_63 (by decide) ?_
          refine lv_istore_n (lv' := [(3, .int 1), (0, .ref (b 39)), (1, .int x), (2, .int y), (4, .int y5_4)]) hx hb dX10_areJoined_67 rfl hl (by decide) rfl (fun ls hl => ?_)
          obtain ⟨z3, ez3⟩ : ∃ y : Int32, y = y5_4 + 1 := ⟨_, rfl⟩
          have iz3 : z3.toInt = y5_4.toInt + 1 := by rw [ez3]; exact addC rfl rfl (by omega) (by omega)
          refine lv_iinc (v := z3) (lv' := [(4, .int z3), (3, .int 1), (0, .ref (b 39)), (1, .int x), (2, .int y)]) hx hb dX10_areJoined_68 hl (k := 4) rfl (by rw [ez3]; rfl) (by decide) rfl (fun ls hl => ?_)
          refine lv_goto (tgt := 5) hx hb dX10_areJoined_71 (by decide) ?_
          have kc4 : (1 : Int32).toInt = 1 := rfl
          exact ih5 1 z3 _ (by omega) (by omega) (by (first | exact jk_was i5_2 (by assumption) (by first | rfl | assumption) (by omega) | exact jk_miss (c := y5_4) i5_2 (by assumption) (by omega) (by omega) (by first | rfl | assumption) (by omega) | exact jk_init (by first | rfl | omega) (by first | rfl | assumption) | exact jk_hit (c := y5_4) (by omega) (by omega) (by first | rfl | assumption) (by omega))) (by omega) (by omega) (lv_sub hl [2, 3, 4, 1, 0] rfl)
        · have dc2 : y5_3.toInt = 0 := eqC rfl (show (0 : Int32).toInt = 0 from rfl) c2
          refine lv_aload_n hx hb dX10_areJoined_18 rfl (lv_at hl 0 rfl) ?_
          refine va_get (D := (dC, dI)) (ci := 10) (v := .ref (b 2)) (C := RX10) (T := TX10) (N := 39) hx hb hts inX10 hown hK hP 0 rfl rfl 2 (by decide) lf7 (fun _ h9 => h9) rfl dX10_areJoined_19 ?_
          refine lv_iload hx hb dX10_areJoined_22 (lv_at hl 4 rfl) ?_
          have b5 : vp_in y5_4 14 := inC rfl (by omega) (by omega)
          refine va_iald hx hb hK hP 1 0 rfl rfl b5 dX10_areJoined_24 ?_
          have g6 : 0 ≤ (mdA y5_4.toNatClampNeg).toInt ∧ (mdA y5_4.toNatClampNeg).toInt ≤ 7 := rg_at r_mdA b5
          refine lv_iload_n hx hb dX10_areJoined_25 rfl (lv_at hl 1 rfl) ?_
          refine lv_icmp_ne (tgt := 40) hx hb dX10_areJoined_26 (by decide) (fun c7 => ?_) (fun c7 => ?_)
          · have dc7 : (mdA y5_4.toNatClampNeg).toInt ≠ x.toInt := neC rfl rfl c7
            refine lv_aload_n hx hb dX10_areJoined_40 rfl (lv_at hl 0 rfl) ?_
            refine va_get (D := (dC, dI)) (ci := 10) (v := .ref (b 2)) (C := RX10) (T := TX10) (N := 39) hx hb hts inX10 hown hK hP 0 rfl rfl 2 (by decide) lf7 (fun _ h9 => h9) rfl dX10_areJoined_41 ?_
            refine lv_iload hx hb dX10_areJoined_44 (lv_at hl 4 rfl) ?_
            have b8 : vp_in y5_4 14 := inC rfl (by omega) (by omega)
            refine va_iald hx hb hK hP 1 0 rfl rfl b8 dX10_areJoined_46 ?_
            have g9 : 0 ≤ (mdA y5_4.toNatClampNeg).toInt ∧ (mdA y5_4.toNatClampNeg).toInt ≤ 7 := rg_at r_mdA b8
            refine lv_iload_n hx hb dX10_areJoined_47 rfl (lv_at hl 2 rfl) ?_
            refine lv_icmp_ne (tgt := 66) hx hb dX10_areJoined_48 (by decide) (fun c10 => ?_) (fun c10 => ?_)
            · have dc10 : (mdA y5_4.toNatClampNeg).toInt ≠ y.toInt := neC rfl rfl c10
              refine lv_iconst (v := 0) hx hb dX10_areJoined_66 (by decide) ?_
              refine lv_istore_n (lv' := [(3, .int 0), (0, .ref (b 39)), (1, .int x), (2, .int y), (4, .int y5_4)]) hx hb dX10_areJoined_67 rfl hl (by decide) rfl (fun ls hl => ?_)
              obtain ⟨z11, ez11⟩ : ∃ y : Int32, y = y5_4 + 1 := ⟨_, rfl⟩
              have iz11 : z11.toInt = y5_4.toInt + 1 := by rw [ez11]; exact addC rfl rfl (by omega) (by omega)
              refine lv_iinc (v := z11) (lv' := [(4, .int z11), (3, .int 0), (0, .ref (b 39)), (1, .int x), (2, .int y)]) hx hb dX10_areJoined_68 hl (k := 4) rfl (by rw [ez11]; rfl) (by decide) rfl (fun ls hl => ?_)
              refine lv_goto (tgt := 5) hx hb dX10_areJoined_71 (by decide) ?_
              have kc12 : (0 : Int32).toInt = 0 := rfl
              exact ih5 0 z11 _ (by omega) (by omega) (by (first | exact jk_was i5_2 (by assumption) (by first | rfl | assumption) (by omega) | exact jk_miss (c := y5_4) i5_2 (by assumption) (by omega) (by omega) (by first | rfl | assumption) (by omega) | exact jk_init (by first | rfl | omega) (by first | rfl | assumption) | exact jk_hit (c := y5_4) (by omega) (by omega) (by first | rfl | assumption) (by omega))) (by omega) (by omega) (lv_sub hl [2, 3, 4, 1, 0] rfl)
            · have dc10 : (mdA y5_4.toNatClampNeg).toInt = y.toInt := eqC rfl rfl c10
              refine lv_aload_n hx hb dX10_areJoined_51 rfl (lv_at hl 0 rfl) ?_
              refine va_get (D := (dC, dI)) (ci := 10) (v := .ref (b 3)) (C := RX10) (T := TX10) (N := 39) hx hb hts inX10 hown hK hP 0 rfl rfl 3 (by decide) lf13 (fun _ h9 => h9) rfl dX10_areJoined_52 ?_
              refine lv_iload hx hb dX10_areJoined_55 (lv_at hl 4 rfl) ?_
              have b13 : vp_in y5_4 14 := inC rfl (by omega) (by omega)
              refine va_iald hx hb hK hP 2 0 rfl rfl b13 dX10_areJoined_57 ?_
              have g14 : 0 ≤ (mdB y5_4.toNatClampNeg).toInt ∧ (mdB y5_4.toNatClampNeg).toInt ≤ 7 := rg_at r_mdB b13
              refine lv_iload_n hx hb dX10_areJoined_58 rfl (lv_at hl 1 rfl) ?_
              refine lv_icmp_ne (tgt := 66) hx hb dX10_areJoined_59 (by decide) (fun c15 => ?_) (fun c15 => ?_)
              · have dc15 : (mdB y5_4.toNatClampNeg).toInt ≠ x.toInt := neC rfl rfl c15
                refine lv_iconst (v := 0) hx hb dX10_areJoined_66 (by decide) ?_
                refine lv_istore_n (lv' := [(3, .int 0), (0, .ref (b 39)), (1, .int x), (2, .int y), (4, .int y5_4)]) hx hb dX10_areJoined_67 rfl hl (by decide) rfl (fun ls hl => ?_)
                obtain ⟨z16, ez16⟩ : ∃ y : Int32, y = y5_4 + 1 := ⟨_, rfl⟩
                have iz16 : z16.toInt = y5_4.toInt + 1 := by rw [ez16]; exact addC rfl rfl (by omega) (by omega)
                refine lv_iinc (v := z16) (lv' := [(4, .int z16), (3, .int 0), (0, .ref (b 39)), (1, .int x), (2, .int y)]) hx hb dX10_areJoined_68 hl (k := 4) rfl (by rw [ez16]; rfl) (by decide) rfl (fun ls hl => ?_)
                refine lv_goto (tgt := 5) hx hb dX10_areJoined_71 (by decide) ?_
                have kc17 : (0 : Int32).toInt = 0 := rfl
                exact ih5 0 z16 _ (by omega) (by omega) (by (first | exact jk_was i5_2 (by assumption) (by first | rfl | assumption) (by omega) | exact jk_miss (c := y5_4) i5_2 (by assumption) (by omega) (by omega) (by first | rfl | assumption) (by omega) | exact jk_init (by first | rfl | omega) (by first | rfl | assumption) | exact jk_hit (c := y5_4) (by omega) (by omega) (by first | rfl | assumption) (by omega))) (by omega) (by omega) (lv_sub hl [2, 3, 4, 1, 0] rfl)
              · have dc15 : (mdB y5_4.toNatClampNeg).toInt = x.toInt := eqC rfl rfl c15
                refine lv_iconst (v := 1) hx hb dX10_areJoined_62 (by decide) ?_
                refine lv_goto (tgt := 67) hx hb dX10_areJoined_63 (by decide) ?_
                refine lv_istore_n (lv' := [(3, .int 1), (0, .ref (b 39)), (1, .int x), (2, .int y), (4, .int y5_4)]) hx hb dX10_areJoined_67 rfl hl (by decide) rfl (fun ls hl => ?_)
                obtain ⟨z18, ez18⟩ : ∃ y : Int32, y = y5_4 + 1 := ⟨_, rfl⟩
                have iz18 : z18.toInt = y5_4.toInt + 1 := by rw [ez18]; exact addC rfl rfl (by omega) (by omega)
                refine lv_iinc (v := z18) (lv' := [(4, .int z18), (3, .int 1), (0, .ref (b 39)), (1, .int x), (2, .int y)]) hx hb dX10_areJoined_68 hl (k := 4) rfl (by rw [ez18]; rfl) (by decide) rfl (fun ls hl => ?_)
                refine lv_goto (tgt := 5) hx hb dX10_areJoined_71 (by decide) ?_
                have kc19 : (1 : Int32).toInt = 1 := rfl
                exact ih5 1 z18 _ (by omega) (by omega) (by (first | exact jk_was i5_2 (by assumption) (by first | rfl | assumption) (by omega) | exact jk_miss (c := y5_4) i5_2 (by assumption) (by omega) (by omega) (by first | rfl | assumption) (by omega) | exact jk_init (by first | rfl | omega) (by first | rfl | assumption) | exact jk_hit (c := y5_4) (by omega) (by omega) (by first | rfl | assumption) (by omega))) (by omega) (by omega) (lv_sub hl [2, 3, 4, 1, 0] rfl)
          · have dc7 : (mdA y5_4.toNatClampNeg).toInt = x.toInt := eqC rfl rfl c7
            refine lv_aload_n hx hb dX10_areJoined_29 rfl (lv_at hl 0 rfl) ?_
            refine va_get (D := (dC, dI)) (ci := 10) (v := .ref (b 3)) (C := RX10) (T := TX10) (N := 39) hx hb hts inX10 hown hK hP 0 rfl rfl 3 (by decide) lf13 (fun _ h9 => h9) rfl dX10_areJoined_30 ?_
            refine lv_iload hx hb dX10_areJoined_33 (lv_at hl 4 rfl) ?_
            have b20 : vp_in y5_4 14 := inC rfl (by omega) (by omega)
            refine va_iald hx hb hK hP 2 0 rfl rfl b20 dX10_areJoined_35 ?_
            have g21 : 0 ≤ (mdB y5_4.toNatClampNeg).toInt ∧ (mdB y5_4.toNatClampNeg).toInt ≤ 7 := rg_at r_mdB b20
            refine lv_iload_n hx hb dX10_areJoined_36 rfl (lv_at hl 2 rfl) ?_
            refine lv_icmp_eq (tgt := 62) hx hb dX10_areJoined_37 (by decide) (fun c22 => ?_) (fun c22 => ?_)
            · have dc22 : (mdB y5_4.toNatClampNeg).toInt = y.toInt := eqC rfl rfl c22
              refine lv_iconst (v := 1) hx hb dX10_areJoined_62 (by decide) ?_
              refine lv_goto (tgt := 67) hx hb dX10_areJoined_63 (by decide) ?_
              refine lv_istore_n (lv' := [(3, .int 1), (0, .ref (b 39)), (1, .int x), (2, .int y), (4, .int y5_4)]) hx hb dX10_areJoined_67 rfl hl (by decide) rfl (fun ls hl => ?_)
              obtain ⟨z23, ez23⟩ : ∃ y : Int32, y = y5_4 + 1 := ⟨_, rfl⟩
              have iz23 : z23.toInt = y5_4.toInt + 1 := by rw [ez23]; exact addC rfl rfl (by omega) (by omega)
              refine lv_iinc (v := z23) (lv' := [(4, .int z23), (3, .int 1), (0, .ref (b 39)), (1, .int x), (2, .int y)]) hx hb dX10_areJoined_68 hl (k := 4) rfl (by rw [ez23]; rfl) (by decide) rfl (fun ls hl => ?_)
              refine lv_goto (tgt := 5) hx hb dX10_areJoined_71 (by decide) ?_
              have kc24 : (1 : Int32).toInt = 1 := rfl
              exact ih5 1 z23 _ (by omega) (by omega) (by (first | exact jk_was i5_2 (by assumption) (by first | rfl | assumption) (by omega) | exact jk_miss (c := y5_4) i5_2 (by assumption) (by omega) (by omega) (by first | rfl | assumption) (by omega) | exact jk_init (by first | rfl | omega) (by first | rfl | assumption) | exact jk_hit (c := y5_4) (by omega) (by omega) (by first | rfl | assumption) (by omega))) (by omega) (by omega) (lv_sub hl [2, 3, 4, 1, 0] rfl)
            · have dc22 : (mdB y5_4.toNatClampNeg).toInt ≠ y.toInt := neC rfl rfl c22
              refine lv_aload_n hx hb dX10_areJoined_40 rfl (lv_at hl 0 rfl) ?_
              refine va_get (D := (dC, dI)) (ci := 10) (v := .ref (b 2)) (C := RX10) (T := TX10) (N := 39) hx hb hts inX10 hown hK hP 0 rfl rfl 2 (by decide) lf7 (fun _ h9 => h9) rfl dX10_areJoined_41 ?_
              refine lv_iload hx hb dX10_areJoined_44 (lv_at hl 4 rfl) ?_
              have b25 : vp_in y5_4 14 := inC rfl (by omega) (by omega)
              refine va_iald hx hb hK hP 1 0 rfl rfl b25 dX10_areJoined_46 ?_
              have g26 : 0 ≤ (mdA y5_4.toNatClampNeg).toInt ∧ (mdA y5_4.toNatClampNeg).toInt ≤ 7 := rg_at r_mdA b25
              refine lv_iload_n hx hb dX10_areJoined_47 rfl (lv_at hl 2 rfl) ?_
              refine lv_icmp_ne (tgt := 66) hx hb dX10_areJoined_48 (by decide) (fun c27 => ?_) (fun c27 => ?_)
              · have dc27 : (mdA y5_4.toNatClampNeg).toInt ≠ y.toInt := neC rfl rfl c27
                refine lv_iconst (v := 0) hx hb dX10_areJoined_66 (by decide) ?_
                refine lv_istore_n (lv' := [(3, .int 0), (0, .ref (b 39)), (1, .int x), (2, .int y), (4, .int y5_4)]) hx hb dX10_areJoined_67 rfl hl (by decide) rfl (fun ls hl => ?_)
                obtain ⟨z28, ez28⟩ : ∃ y : Int32, y = y5_4 + 1 := ⟨_, rfl⟩
                have iz28 : z28.toInt = y5_4.toInt + 1 := by rw [ez28]; exact addC rfl rfl (by omega) (by omega)
                refine lv_iinc (v := z28) (lv' := [(4, .int z28), (3, .int 0), (0, .ref (b 39)), (1, .int x), (2, .int y)]) hx hb dX10_areJoined_68 hl (k := 4) rfl (by rw [ez28]; rfl) (by decide) rfl (fun ls hl => ?_)
                refine lv_goto (tgt := 5) hx hb dX10_areJoined_71 (by decide) ?_
                have kc29 : (0 : Int32).toInt = 0 := rfl
                exact ih5 0 z28 _ (by omega) (by omega) (by (first | exact jk_was i5_2 (by assumption) (by first | rfl | assumption) (by omega) | exact jk_miss (c := y5_4) i5_2 (by assumption) (by omega) (by omega) (by first | rfl | assumption) (by omega) | exact jk_init (by first | rfl | omega) (by first | rfl | assumption) | exact jk_hit (c := y5_4) (by omega) (by omega) (by first | rfl | assumption) (by omega))) (by omega) (by omega) (lv_sub hl [2, 3, 4, 1, 0] rfl)
              · have dc27 : (mdA y5_4.toNatClampNeg).toInt = y.toInt := eqC rfl rfl c27
                refine lv_aload_n hx hb dX10_areJoined_51 rfl (lv_at hl 0 rfl) ?_
                refine va_get (D := (dC, dI)) (ci := 10) (v := .ref (b 3)) (C := RX10) (T := TX10) (N := 39) hx hb hts inX10 hown hK hP 0 rfl rfl 3 (by decide) lf13 (fun _ h9 => h9) rfl dX10_areJoined_52 ?_
                refine lv_iload hx hb dX10_areJoined_55 (lv_at hl 4 rfl) ?_
                have b30 : vp_in y5_4 14 := inC rfl (by omega) (by omega)
                refine va_iald hx hb hK hP 2 0 rfl rfl b30 dX10_areJoined_57 ?_
                have g31 : 0 ≤ (mdB y5_4.toNatClampNeg).toInt ∧ (mdB y5_4.toNatClampNeg).toInt ≤ 7 := rg_at r_mdB b30
                refine lv_iload_n hx hb dX10_areJoined_58 rfl (lv_at hl 1 rfl) ?_
                refine lv_icmp_ne (tgt := 66) hx hb dX10_areJoined_59 (by decide) (fun c32 => ?_) (fun c32 => ?_)
                · have dc32 : (mdB y5_4.toNatClampNeg).toInt ≠ x.toInt := neC rfl rfl c32
                  refine lv_iconst (v := 0) hx hb dX10_areJoined_66 (by decide) ?_
                  refine lv_istore_n (lv' := [(3, .int 0), (0, .ref (b 39)), (1, .int x), (2, .int y), (4, .int y5_4)]) hx hb dX10_areJoined_67 rfl hl (by decide) rfl (fun ls hl => ?_)
                  obtain ⟨z33, ez33⟩ : ∃ y : Int32, y = y5_4 + 1 := ⟨_, rfl⟩
                  have iz33 : z33.toInt = y5_4.toInt + 1 := by rw [ez33]; exact addC rfl rfl (by omega) (by omega)
                  refine lv_iinc (v := z33) (lv' := [(4, .int z33), (3, .int 0), (0, .ref (b 39)), (1, .int x), (2, .int y)]) hx hb dX10_areJoined_68 hl (k := 4) rfl (by rw [ez33]; rfl) (by decide) rfl (fun ls hl => ?_)
                  refine lv_goto (tgt := 5) hx hb dX10_areJoined_71 (by decide) ?_
                  have kc34 : (0 : Int32).toInt = 0 := rfl
                  exact ih5 0 z33 _ (by omega) (by omega) (by (first | exact jk_was i5_2 (by assumption) (by first | rfl | assumption) (by omega) | exact jk_miss (c := y5_4) i5_2 (by assumption) (by omega) (by omega) (by first | rfl | assumption) (by omega) | exact jk_init (by first | rfl | omega) (by first | rfl | assumption) | exact jk_hit (c := y5_4) (by omega) (by omega) (by first | rfl | assumption) (by omega))) (by omega) (by omega) (lv_sub hl [2, 3, 4, 1, 0] rfl)
                · have dc32 : (mdB y5_4.toNatClampNeg).toInt = x.toInt := eqC rfl rfl c32
                  refine lv_iconst (v := 1) hx hb dX10_areJoined_62 (by decide) ?_
                  refine lv_goto (tgt := 67) hx hb dX10_areJoined_63 (by decide) ?_
                  refine lv_istore_n (lv' := [(3, .int 1), (0, .ref (b 39)), (1, .int x), (2, .int y), (4, .int y5_4)]) hx hb dX10_areJoined_67 rfl hl (by decide) rfl (fun ls hl => ?_)
                  obtain ⟨z35, ez35⟩ : ∃ y : Int32, y = y5_4 + 1 := ⟨_, rfl⟩
                  have iz35 : z35.toInt = y5_4.toInt + 1 := by rw [ez35]; exact addC rfl rfl (by omega) (by omega)
                  refine lv_iinc (v := z35) (lv' := [(4, .int z35), (3, .int 1), (0, .ref (b 39)), (1, .int x), (2, .int y)]) hx hb dX10_areJoined_68 hl (k := 4) rfl (by rw [ez35]; rfl) (by decide) rfl (fun ls hl => ?_)
                  refine lv_goto (tgt := 5) hx hb dX10_areJoined_71 (by decide) ?_
                  have kc36 : (1 : Int32).toInt = 1 := rfl
                  exact ih5 1 z35 _ (by omega) (by omega) (by (first | exact jk_was i5_2 (by assumption) (by first | rfl | assumption) (by omega) | exact jk_miss (c := y5_4) i5_2 (by assumption) (by omega) (by omega) (by first | rfl | assumption) (by omega) | exact jk_init (by first | rfl | omega) (by first | rfl | assumption) | exact jk_hit (c := y5_4) (by omega) (by omega) (by first | rfl | assumption) (by omega))) (by omega) (by omega) (lv_sub hl [2, 3, 4, 1, 0] rfl)
  have kc37 : (0 : Int32).toInt = 0 := rfl
  exact L5 _ 0 0 _ (by omega) (by omega) (by (first | exact jk_init (by first | rfl | omega) (by first | rfl | assumption) | exact jk_was i5_2 (by assumption) (by first | rfl | assumption) (by omega) | exact jk_hit (c := y5_4) (by omega) (by omega) (by first | rfl | assumption) (by omega) | exact jk_miss (c := y5_4) i5_2 (by assumption) (by omega) (by omega) (by first | rfl | assumption) (by omega))) (by omega) (Nat.lt_succ_self _) (lv_sub hl [2, 3, 4, 1, 0] rfl)
set_option maxHeartbeats 4000000 in
set_option maxRecDepth 100000 in
theorem k_X10_door2 (l : Launch) (dC : Nat → ClassId) (dI : Nat → Nat → Nat) (cI cZ cQ : ClassId) (b : Nat → Nat) (mday : Int32) (mdoo : Int32) (mdA : Nat → Int32) (mdB : Nat → Int32) (mfar : Nat → Int32) (mmar : Nat → Int32) (mtel : Int32) (mgai : Int32) (mfal : Nat → Int32) (mtop : Nat → Int32) (mstr : Nat → Int32) (mgho : Nat → Int32) (mfai : Nat → Int32) (mpto : Nat → Int32) (mwal : Nat → Int32) (mahd : Nat → Int32) (mahf : Nat → Int32) (mcho : Nat → Int32) (mbes : Nat → Int32) (mbyt : Int32) (mtxt : Nat → Int32) (mpos : Int32) (mtka : Int32) (mtok : Int64) (mdig : Int32) (mnum : Int32) (mfau : Int32) (mrdm : Int32) (mrea : Nat → Int32) (mlin : Int32) (mlne : Nat → Int32) (mthg : Nat → Int32) (mord : Nat → Int32) (mbor : Nat → Int32) (mbsm : Int32) (mans : Nat → Int32) (mand : Nat → Int32) (manr : Nat → Int32) (mali : Nat → Int32) (sz : Nat) (x : Int32) (y : Int32) (r_mday : 0 ≤ mday.toInt ∧ mday.toInt ≤ 400) (r_mdoo : 0 ≤ mdoo.toInt ∧ mdoo.toInt ≤ 14) (r_mdA : rg 14 (0) (7) mdA) (r_mdB : rg 14 (0) (7) mdB) (r_mmar : rg 24 (0) (255) mmar) (r_mgai : 0 ≤ mgai.toInt ∧ mgai.toInt ≤ 100) (r_mfal : rg 11 (0) (30) mfal) (r_mtop : rg 48 (-1) (23) mtop) (r_mstr : rg 48 (0) (100) mstr) (r_mgho : rg 48 (-1) (23) mgho) (r_mfai : rg 48 (0) (100) mfai) (r_mahd : rg 240 (0) (100) mahd) (r_mahf : rg 240 (0) (100) mahf) (r_mcho : rg 5 (-1) (9) mcho) (r_mbyt : 0 ≤ mbyt.toInt ∧ mbyt.toInt ≤ 160) (r_mpos : 0 ≤ mpos.toInt ∧ mpos.toInt ≤ 160) (r_mrdm : 0 ≤ mrdm.toInt ∧ mrdm.toInt ≤ 10) (r_mlin : 0 ≤ mlin.toInt ∧ mlin.toInt ≤ 10) (r_mthg : rg 8 (0) (31) mthg) (r_mord : rg 8 (-1) (8) mord) (r_mans : rg 4 (0) (12) mans) : KW l yX10_door wsX10_door { frames := 2, cells := 0, slots := 0, locals := 42 } (dC, dI) (TY cI cZ cQ) (wMod cI cZ cQ b mday mdoo mdA mdB mfar mmar mtel mgai mfal mtop mstr mgho mfai mpto mwal mahd mahf mcho mbes mbyt mtxt mpos mtka mtok mdig mnum mfau mrdm mrea mlin mlne mthg mord mbor mbsm mans mand manr mali) [.ref (b 39), .int x, .int y] sz 0 0 (fun (r : Int32) (u : US) => (spDorM mdA mdB mdoo x y r (u.1 0) (u.1 1) (u.1 2 0)) ∧ (rg 14 (0) (7) (u.1 0)) ∧ (rg 14 (0) (7) (u.1 1)) ∧ (0 ≤ (u.1 2 0).toInt ∧ (u.1 2 0).toInt ≤ 14)) (fun u : US => (wMod cI cZ cQ b mday (u.1 2 0) (u.1 0) (u.1 1) mfar mmar mtel mgai mfal mtop mstr mgho mfai mpto mwal mahd mahf mcho mbes mbyt mtxt mpos mtka mtok mdig mnum mfau mrdm mrea mlin mlne mthg mord mbor mbsm mans mand manr mali)) := by
  refine Met.ofW (cc := cX10_door) (maxL := 3) (ret := (some .int)) (by decide) rfl ?_
  intro p e s m args below meth c s₁ B hml hv
  obtain ⟨rfl, hsz, hP, hK, hD0, hN⟩ := hv
  have hx := B.exec
  have hb := B.bytes
  have hr := B.returns
  have hts := atoms_spec (ws := wsX10_door) B.pre
  have hown : s.vm.findClass RX10 = some m.cls := findClass_of_methodNamed B.named
  have hlocks := B.notSynchronized
  have lf97 := hts (.fieldLink RX10 97 "PalaceOfRoomsModel" "doors" "I") (List.mem_cons_of_mem _ (List.mem_append_left _ (List.mem_of_getElem? (i := 0) rfl)))
  have inX10 : ∀ w ∈ wsX100, w ∈ wsX10_door := fun w h => List.mem_cons_of_mem _ (List.mem_append_right _ h)
  have lf7 := hts (.fieldLink RX10 7 "PalaceOfRoomsModel" "doorA" "[I") (List.mem_cons_of_mem _ (List.mem_append_left _ (List.mem_of_getElem? (i := 1) rfl)))
  have lf13 := hts (.fieldLink RX10 13 "PalaceOfRoomsModel" "doorB" "[I") (List.mem_cons_of_mem _ (List.mem_append_left _ (List.mem_of_getElem? (i := 2) rfl)))
  subst hsz
  have hD := hD0.self (sz := s.heap.size)
  generalize hAe : va_A (wMod cI cZ cQ b mday mdoo mdA mdB mfar mmar mtel mgai mfal mtop mstr mgho mfai mpto mwal mahd mahf mcho mbes mbyt mtxt mpos mtka mtok mdig mnum mfau mrdm mrea mlin mlne mthg mord mbor mbsm mans mand manr mali) s.heap.size = A at hD ⊢
  have hA : ∀ q : Nat, s.heap.size ≤ q → A q := fun q h => by rw [← hAe]; exact Or.inr h
  have hS : va_S A s.heap s.heap [] := va_S.rf
  have hl := lv_entry ([.ref (b 39), .int x, .int y]) (n := 3) (Nat.le_of_ble_eq_true rfl)
  rw [lg_entry_eq]
  generalize (lg_sl ([.ref (b 39), .int x, .int y]) ++ List.replicate (3 - (lg_sl ([.ref (b 39), .int x, .int y])).length) Slot.unset).toArray = ls at hl ⊢
  have hl : lv_has ls 3 [(0, .ref (b 39)), (1, .int x), (2, .int y)] := hl
  refine lv_iload_n hx hb dX10_door_0 rfl (lv_at hl 1 rfl) ?_
  refine rdS (As := [.int x]) (rest := []) ⟨hx, hb, hml, hown, hts⟩ (k_X10_isRoom l dC dI cI cZ cQ x) (va_cwS 1 hts gX10_door_X10_isRoom rfl rfl rfl (by decide +kernel) ⟨Nat.le_of_ble_eq_true rfl, Nat.le_of_ble_eq_true rfl⟩) hP hK hN [] rfl rfl hl.1 rfl (Nat.le_of_ble_eq_true rfl) dX10_door_1 ⟨Nat.le_of_ble_eq_true rfl, Nat.le_of_ble_eq_true rfl⟩ (fun r1 h2 => ?_)
  have h2 : ((((r1 = 1) ∧ (0 ≤ x.toInt) ∧ (x.toInt ≤ 7)) ∨ ((r1 = 0) ∧ (x.toInt < 0 ∨ 7 < x.toInt)))) := h2
  rcases h2 with (⟨rfl, h2_a0, h2_a1⟩ | ⟨rfl, h2_a0⟩)
  · refine lv_if_eq (tgt := 19) hx hb dX10_door_4 (by decide) (fun c9 => absurd c9 (by decide)) (fun _ => ?_)
    refine lv_iload_n hx hb dX10_door_7 rfl (lv_at hl 2 rfl) ?_
    refine rdS (As := [.int y]) (rest := []) ⟨hx, hb, hml, hown, hts⟩ (k_X10_isRoom l dC dI cI cZ cQ y) (va_cwS 1 hts gX10_door_X10_isRoom rfl rfl rfl (by decide +kernel) ⟨Nat.le_of_ble_eq_true rfl, Nat.le_of_ble_eq_true rfl⟩) hP hK hN [] rfl rfl hl.1 rfl (Nat.le_of_ble_eq_true rfl) dX10_door_8 ⟨Nat.le_of_ble_eq_true rfl, Nat.le_of_ble_eq_true rfl⟩ (fun r3 h4 => ?_)
    have h4 : ((((r3 = 1) ∧ (0 ≤ y.toInt) ∧ (y.toInt ≤ 7)) ∨ ((r3 = 0) ∧ (y.toInt < 0 ∨ 7 < y.toInt)))) := h4
    rcases h4 with (⟨rfl, h4_a0, h4_a1⟩ | ⟨rfl, h4_a0⟩)
    · refine lv_if_eq (tgt := 19) hx hb dX10_door_11 (by decide) (fun c9 => absurd c9 (by decide)) (fun _ => ?_)
      refine lv_iload_n hx hb dX10_door_14 rfl (lv_at hl 1 rfl) ?_
      refine lv_iload_n hx hb dX10_door_15 rfl (lv_at hl 2 rfl) ?_
      refine lv_icmp_ne (tgt := 22) hx hb dX10_door_16 (by decide) (fun c5 => ?_) (fun c5 => ?_)
      · have dc5 : x.toInt ≠ y.toInt := neC rfl rfl c5
        refine lv_aload_n hx hb dX10_door_22 rfl (lv_at hl 0 rfl) ?_
        refine lv_iload_n hx hb dX10_door_23 rfl (lv_at hl 1 rfl) ?_
        refine lv_iload_n hx hb dX10_door_24 rfl (lv_at hl 2 rfl) ?_
        refine rdV (As := [.int x, .int y]) (rest := []) ⟨hx, hb, hml, hown, hts⟩ (k_X10_areJoined2 l dC dI cI cZ cQ b mday mdoo mdA mdB mfar mmar mtel mgai mfal mtop mstr mgho mfai mpto mwal mahd mahf mcho mbes mbyt mtxt mpos mtka mtok mdig mnum mfau mrdm mrea mlin mlne mthg mord mbor mbsm mans mand manr mali x y r_mday r_mdoo r_mdA r_mdB r_mmar r_mgai r_mfal r_mtop r_mstr r_mgho r_mfai r_mahd r_mahf r_mcho r_mbyt r_mpos r_mrdm r_mlin r_mthg r_mord r_mans) (cwV 2 hts gX10_door_X10_areJoined rfl rfl rfl (by decide +kernel) ⟨Nat.le_of_ble_eq_true rfl, Nat.le_of_ble_eq_true rfl⟩) hP hK hN [0, 1, 2, 3, 4, 5, 6, 7, 8, 9, 10, 11, 12, 13, 14, 15, 16, 17, 18, 19, 20, 21, 22, 23, 24, 25] rfl 0 10 rfl rfl rfl hl.1 rfl (Nat.le_of_ble_eq_true rfl) dX10_door_25 ⟨Nat.le_of_ble_eq_true rfl, Nat.le_of_ble_eq_true rfl⟩ (fun r6 h7 => ?_)
        have h7 : ((((r6 = 1) ∧ (eD mdA mdB mdoo.toInt x.toInt y.toInt)) ∨ ((r6 = 0) ∧ (¬ eD mdA mdB mdoo.toInt x.toInt y.toInt)))) := h7
        rcases h7 with (⟨rfl, h7_a0⟩ | ⟨rfl, h7_a0⟩)
        · refine lv_if_eq (tgt := 34) hx hb dX10_door_28 (by decide) (fun c9 => absurd c9 (by decide)) (fun _ => ?_)
          refine lv_bipush (v := (-4)) hx hb dX10_door_31 (by decide) ?_
          exact W.iret (v := (-4)) hx hb hr (fun tq ht hW => ⟨⟨(-4), (uS [mdA, mdB, (fun _ => mdoo)] 0 (fun _ => 0)), rfl, ⟨(show spDorM mdA mdB mdoo x y ((-4) : Int32) mdA mdB mdoo from by (try rw [show ((-4) : Int32).toInt = (-4) from (show ((-4) : Int32).toInt = (-4) from rfl)]); (first | exact Or.inl ⟨by omega, rfl, rfl, rfl, rfl⟩ | exact Or.inr ⟨by omega, Or.inl ⟨by assumption, rfl, rfl, rfl, rfl⟩⟩ | exact Or.inr ⟨by omega, Or.inr ⟨by assumption, Or.inl ⟨by omega, rfl, rfl, rfl, rfl⟩⟩⟩ | exact Or.inr ⟨by omega, Or.inr ⟨by assumption, Or.inr ⟨by omega, by assumption, by assumption, by assumption, by assumption⟩⟩⟩)), r_mdA, r_mdB, r_mdoo⟩, by rw [ht]; exact hP, hD⟩, hS.F ht⟩) hS.2.2 dX10_door_33
        · refine lv_if_eq (tgt := 34) hx hb dX10_door_28 (by decide) (fun _ => ?_) (fun c9 => absurd (by decide) c9)
          refine lv_aload_n hx hb dX10_door_34 rfl (lv_at hl 0 rfl) ?_
          refine va_get (D := (dC, dI)) (ci := 10) (v := .int mdoo) (C := RX10) (T := TX10) (N := 39) hx hb hts inX10 hown hK hP 0 rfl rfl 1 (by decide) lf97 (fun _ h9 => h9) rfl dX10_door_35 ?_
          refine lv_bipush (v := 14) hx hb dX10_door_38 (by decide) ?_
          refine lv_icmp_ne (tgt := 46) hx hb dX10_door_40 (by decide) (fun c8 => ?_) (fun c8 => ?_)
          · have dc8 : mdoo.toInt ≤ 13 := ka_hi (by omega) (neC rfl (show (14 : Int32).toInt = 14 from rfl) c8)
            refine lv_aload_n hx hb dX10_door_46 rfl (lv_at hl 0 rfl) ?_
            refine va_get (D := (dC, dI)) (ci := 10) (v := .ref (b 2)) (C := RX10) (T := TX10) (N := 39) hx hb hts inX10 hown hK hP 0 rfl rfl 2 (by decide) lf7 (fun _ h9 => h9) rfl dX10_door_47 ?_
            refine lv_aload_n hx hb dX10_door_50 rfl (lv_at hl 0 rfl) ?_
            refine va_get (D := (dC, dI)) (ci := 10) (v := .int mdoo) (C := RX10) (T := TX10) (N := 39) hx hb hts inX10 hown hK hP 0 rfl rfl 1 (by decide) lf97 (fun _ h9 => h9) rfl dX10_door_51 ?_
            refine lv_iload_n hx hb dX10_door_54 rfl (lv_at hl 1 rfl) ?_
            have b9 : vp_in mdoo 14 := inC rfl (by omega) (by omega)
            have g10 : rg 14 (0) (7) (upd mdA mdoo.toNatClampNeg x) := rg_upd r_mdA rfl (by omega) (by omega)
            refine va_iast hx hb hK hP hD hS 1 0 rfl rfl b9 dX10_door_55 (fun H locs hP hD hS => ?_)
            obtain ⟨mdA_u11, emdA_u11⟩ : ∃ f : Nat → Int32, f = upd mdA mdoo.toNatClampNeg x := ⟨_, rfl⟩
            have rmdA_u11 : rg 14 (0) (7) mdA_u11 := by rw [emdA_u11]; exact g10
            have hP : va_P (dC, dI) vwCl (wMod cI cZ cQ b mday mdoo mdA_u11 mdB mfar mmar mtel mgai mfal mtop mstr mgho mfai mpto mwal mahd mahf mcho mbes mbyt mtxt mpos mtka mtok mdig mnum mfau mrdm mrea mlin mlne mthg mord mbor mbsm mans mand manr mali) H := by rw [emdA_u11]; exact hP
            have hD : va_D A (wMod cI cZ cQ b mday mdoo mdA_u11 mdB mfar mmar mtel mgai mfal mtop mstr mgho mfai mpto mwal mahd mahf mcho mbes mbyt mtxt mpos mtka mtok mdig mnum mfau mrdm mrea mlin mlne mthg mord mbor mbsm mans mand manr mali) := by rw [emdA_u11]; exact hD
            refine lv_aload_n hx hb dX10_door_56 rfl (lv_at hl 0 rfl) ?_
            refine va_get (D := (dC, dI)) (ci := 10) (v := .ref (b 3)) (C := RX10) (T := TX10) (N := 39) hx hb hts inX10 hown hK hP 0 rfl rfl 3 (by decide) lf13 (fun _ h9 => h9) rfl dX10_door_57 ?_
            refine lv_aload_n hx hb dX10_door_60 rfl (lv_at hl 0 rfl) ?_
            refine va_get (D := (dC, dI)) (ci := 10) (v := .int mdoo) (C := RX10) (T := TX10) (N := 39) hx hb hts inX10 hown hK hP 0 rfl rfl 1 (by decide) lf97 (fun _ h9 => h9) rfl dX10_door_61 ?_
            refine lv_iload_n hx hb dX10_door_64 rfl (lv_at hl 2 rfl) ?_
            have b12 : vp_in mdoo 14 := inC rfl (by omega) (by omega)
            have g13 : rg 14 (0) (7) (upd mdB mdoo.toNatClampNeg y) := rg_upd r_mdB rfl (by omega) (by omega)
            refine va_iast hx hb hK hP hD hS 2 0 rfl rfl b12 dX10_door_65 (fun H locs hP hD hS => ?_)
            obtain ⟨mdB_u14, emdB_u14⟩ : ∃ f : Nat → Int32, f = upd mdB mdoo.toNatClampNeg y := ⟨_, rfl⟩
            have rmdB_u14 : rg 14 (0) (7) mdB_u14 := by rw [emdB_u14]; exact g13
            have hP : va_P (dC, dI) vwCl (wMod cI cZ cQ b mday mdoo mdA_u11 mdB_u14 mfar mmar mtel mgai mfal mtop mstr mgho mfai mpto mwal mahd mahf mcho mbes mbyt mtxt mpos mtka mtok mdig mnum mfau mrdm mrea mlin mlne mthg mord mbor mbsm mans mand manr mali) H := by rw [emdB_u14]; exact hP
            have hD : va_D A (wMod cI cZ cQ b mday mdoo mdA_u11 mdB_u14 mfar mmar mtel mgai mfal mtop mstr mgho mfai mpto mwal mahd mahf mcho mbes mbyt mtxt mpos mtka mtok mdig mnum mfau mrdm mrea mlin mlne mthg mord mbor mbsm mans mand manr mali) := by rw [emdB_u14]; exact hD
            refine lv_aload_n hx hb dX10_door_66 rfl (lv_at hl 0 rfl) ?_
            refine lv_dup hx hb dX10_door_67 rfl ?_
            refine va_get (D := (dC, dI)) (ci := 10) (v := .int mdoo) (C := RX10) (T := TX10) (N := 39) hx hb hts inX10 hown hK hP 0 rfl rfl 1 (by decide) lf97 (fun _ h9 => h9) rfl dX10_door_68 ?_
            refine lv_iconst (v := 1) hx hb dX10_door_71 (by decide) ?_
            refine lv_iadd hx hb dX10_door_72 ?_
            have f15 : (mdoo + 1).toInt = (mdoo.toInt) + (1) := addC rfl (show (1 : Int32).toInt = 1 from rfl) (by omega) (by omega)
            refine lv_topi (fun x16 ex16 => ?_)
            have ix16 : x16.toInt = (mdoo.toInt) + (1) := by rw [ex16]; exact f15
            refine va_put (D := (dC, dI)) (ci := 10) (v := .int x16) (ty := .int) (C := RX10) (T := TX10) (N := 39) hx hb hts inX10 tyX10 tyX10_ok nmX10 hown hK hP hD hS 0 rfl rfl 1 (by decide) lf97 (fun _ h9 => h9) rfl (by decide +kernel) rfl rfl (Nat.le_of_ble_eq_true rfl) dX10_door_73 (fun H locs hP hD hS => ?_)
            have g17 : 0 ≤ x16.toInt ∧ x16.toInt ≤ 14 := by rw [show x16.toInt = x16.toInt from rfl]; exact ⟨by omega, by omega⟩
            have hP : va_P (dC, dI) vwCl (wMod cI cZ cQ b mday x16 mdA_u11 mdB_u14 mfar mmar mtel mgai mfal mtop mstr mgho mfai mpto mwal mahd mahf mcho mbes mbyt mtxt mpos mtka mtok mdig mnum mfau mrdm mrea mlin mlne mthg mord mbor mbsm mans mand manr mali) H := hP
            have hD : va_D A (wMod cI cZ cQ b mday x16 mdA_u11 mdB_u14 mfar mmar mtel mgai mfal mtop mstr mgho mfai mpto mwal mahd mahf mcho mbes mbyt mtxt mpos mtka mtok mdig mnum mfau mrdm mrea mlin mlne mthg mord mbor mbsm mans mand manr mali) := hD
            refine lv_aload_n hx hb dX10_door_76 rfl (lv_at hl 0 rfl) ?_
            refine va_get (D := (dC, dI)) (ci := 10) (v := .int x16) (C := RX10) (T := TX10) (N := 39) hx hb hts inX10 hown hK hP 0 rfl rfl 1 (by decide) lf97 (fun _ h9 => h9) rfl dX10_door_77 ?_
            exact W.iret (v := x16) hx hb hr (fun tq ht hW => ⟨⟨x16, (uS [mdA_u11, mdB_u14, (fun _ => x16)] 0 (fun _ => 0)), rfl, ⟨(show spDorM mdA mdB mdoo x y x16 mdA_u11 mdB_u14 x16 from by (first | exact Or.inl ⟨by omega, rfl, rfl, rfl, rfl⟩ | exact Or.inr ⟨by omega, Or.inl ⟨by assumption, rfl, rfl, rfl, rfl⟩⟩ | exact Or.inr ⟨by omega, Or.inr ⟨by assumption, Or.inl ⟨by omega, rfl, rfl, rfl, rfl⟩⟩⟩ | exact Or.inr ⟨by omega, Or.inr ⟨by assumption, Or.inr ⟨by omega, by assumption, by assumption, by assumption, by assumption⟩⟩⟩)), rmdA_u11, rmdB_u14, g17⟩, by rw [ht]; exact hP, hD⟩, hS.F ht⟩) hS.2.2 dX10_door_80
          · have dc8 : mdoo.toInt = 14 := eqC rfl (show (14 : Int32).toInt = 14 from rfl) c8
            refine lv_bipush (v := (-5)) hx hb dX10_door_43 (by decide) ?_
            exact W.iret (v := (-5)) hx hb hr (fun tq ht hW => ⟨⟨(-5), (uS [mdA, mdB, (fun _ => mdoo)] 0 (fun _ => 0)), rfl, ⟨(show spDorM mdA mdB mdoo x y ((-5) : Int32) mdA mdB mdoo from by (try rw [show ((-5) : Int32).toInt = (-5) from (show ((-5) : Int32).toInt = (-5) from rfl)]); (first | exact Or.inl ⟨by omega, rfl, rfl, rfl, rfl⟩ | exact Or.inr ⟨by omega, Or.inl ⟨by assumption, rfl, rfl, rfl, rfl⟩⟩ | exact Or.inr ⟨by omega, Or.inr ⟨by assumption, Or.inl ⟨by omega, rfl, rfl, rfl, rfl⟩⟩⟩ | exact Or.inr ⟨by omega, Or.inr ⟨by assumption, Or.inr ⟨by omega, by assumption, by assumption, by assumption, by assumption⟩⟩⟩)), r_mdA, r_mdB, r_mdoo⟩, by rw [ht]; exact hP, hD⟩, hS.F ht⟩) hS.2.2 dX10_door_45
      · have dc5 : x.toInt = y.toInt := eqC rfl rfl c5
        refine lv_bipush (v := (-2)) hx hb dX10_door_19 (by decide) ?_
        exact W.iret (v := (-2)) hx hb hr (fun tq ht hW => ⟨⟨(-2), (uS [mdA, mdB, (fun _ => mdoo)] 0 (fun _ => 0)), rfl, ⟨(show spDorM mdA mdB mdoo x y ((-2) : Int32) mdA mdB mdoo from by (try rw [show ((-2) : Int32).toInt = (-2) from (show ((-2) : Int32).toInt = (-2) from rfl)]); (first | exact Or.inl ⟨by omega, rfl, rfl, rfl, rfl⟩ | exact Or.inr ⟨by omega, Or.inl ⟨by assumption, rfl, rfl, rfl, rfl⟩⟩ | exact Or.inr ⟨by omega, Or.inr ⟨by assumption, Or.inl ⟨by omega, rfl, rfl, rfl, rfl⟩⟩⟩ | exact Or.inr ⟨by omega, Or.inr ⟨by assumption, Or.inr ⟨by omega, by assumption, by assumption, by assumption, by assumption⟩⟩⟩)), r_mdA, r_mdB, r_mdoo⟩, by rw [ht]; exact hP, hD⟩, hS.F ht⟩) hS.2.2 dX10_door_21
    · refine lv_if_eq (tgt := 19) hx hb dX10_door_11 (by decide) (fun _ => ?_) (fun c9 => absurd (by decide) c9)
      refine lv_bipush (v := (-2)) hx hb dX10_door_19 (by decide) ?_
      exact W.iret (v := (-2)) hx hb hr (fun tq ht hW => ⟨⟨(-2), (uS [mdA, mdB, (fun _ => mdoo)] 0 (fun _ => 0)), rfl, ⟨(show spDorM mdA mdB mdoo x y ((-2) : Int32) mdA mdB mdoo from by (try rw [show ((-2) : Int32).toInt = (-2) from (show ((-2) : Int32).toInt = (-2) from rfl)]); (first | exact Or.inl ⟨by omega, rfl, rfl, rfl, rfl⟩ | exact Or.inr ⟨by omega, Or.inl ⟨by assumption, rfl, rfl, rfl, rfl⟩⟩ | exact Or.inr ⟨by omega, Or.inr ⟨by assumption, Or.inl ⟨by omega, rfl, rfl, rfl, rfl⟩⟩⟩ | exact Or.inr ⟨by omega, Or.inr ⟨by assumption, Or.inr ⟨by omega, by assumption, by assumption, by assumption, by assumption⟩⟩⟩)), r_mdA, r_mdB, r_mdoo⟩, by rw [ht]; exact hP, hD⟩, hS.F ht⟩) hS.2.2 dX10_door_21
  · refine lv_if_eq (tgt := 19) hx hb dX10_door_4 (by decide) (fun _ => ?_) (fun c9 => absurd (by decide) c9)
    refine lv_bipush (v := (-2)) hx hb dX10_door_19 (by decide) ?_
    exact W.iret (v := (-2)) hx hb hr (fun tq ht hW => ⟨⟨(-2), (uS [mdA, mdB, (fun _ => mdoo)] 0 (fun _ => 0)), rfl, ⟨(show spDorM mdA mdB mdoo x y ((-2) : Int32) mdA mdB mdoo from by (try rw [show ((-2) : Int32).toInt = (-2) from (show ((-2) : Int32).toInt = (-2) from rfl)]); (first | exact Or.inl ⟨by omega, rfl, rfl, rfl, rfl⟩ | exact Or.inr ⟨by omega, Or.inl ⟨by assumption, rfl, rfl, rfl, rfl⟩⟩ | exact Or.inr ⟨by omega, Or.inr ⟨by assumption, Or.inl ⟨by omega, rfl, rfl, rfl, rfl⟩⟩⟩ | exact Or.inr ⟨by omega, Or.inr ⟨by assumption, Or.inr ⟨by omega, by assumption, by assumption, by assumption, by assumption⟩⟩⟩)), r_mdA, r_mdB, r_mdoo⟩, by rw [ht]; exact hP, hD⟩, hS.F ht⟩) hS.2.2 dX10_door_21
set_option maxHeartbeats 4000000 in
set_option maxRecDepth 100000 in
theorem k_X10_doorsTo2 (l : Launch) (dC : Nat → ClassId) (dI : Nat → Nat → Nat) (cI cZ cQ : ClassId) (b : Nat → Nat) (mday : Int32) (mdoo : Int32) (mdA : Nat → Int32) (mdB : Nat → Int32) (mfar : Nat → Int32) (mmar : Nat → Int32) (mtel : Int32) (mgai : Int32) (mfal : Nat → Int32) (mtop : Nat → Int32) (mstr : Nat → Int32) (mgho : Nat → Int32) (mfai : Nat → Int32) (mpto : Nat → Int32) (mwal : Nat → Int32) (mahd : Nat → Int32) (mahf : Nat → Int32) (mcho : Nat → Int32) (mbes : Nat → Int32) (mbyt : Int32) (mtxt : Nat → Int32) (mpos : Int32) (mtka : Int32) (mtok : Int64) (mdig : Int32) (mnum : Int32) (mfau : Int32) (mrdm : Int32) (mrea : Nat → Int32) (mlin : Int32) (mlne : Nat → Int32) (mthg : Nat → Int32) (mord : Nat → Int32) (mbor : Nat → Int32) (mbsm : Int32) (mans : Nat → Int32) (mand : Nat → Int32) (manr : Nat → Int32) (mali : Nat → Int32) (sz : Nat) (x : Int32) (y : Int32) (r_mday : 0 ≤ mday.toInt ∧ mday.toInt ≤ 400) (r_mdoo : 0 ≤ mdoo.toInt ∧ mdoo.toInt ≤ 14) (r_mdA : rg 14 (0) (7) mdA) (r_mdB : rg 14 (0) (7) mdB) (r_mmar : rg 24 (0) (255) mmar) (r_mgai : 0 ≤ mgai.toInt ∧ mgai.toInt ≤ 100) (r_mfal : rg 11 (0) (30) mfal) (r_mtop : rg 48 (-1) (23) mtop) (r_mstr : rg 48 (0) (100) mstr) (r_mgho : rg 48 (-1) (23) mgho) (r_mfai : rg 48 (0) (100) mfai) (r_mahd : rg 240 (0) (100) mahd) (r_mahf : rg 240 (0) (100) mahf) (r_mcho : rg 5 (-1) (9) mcho) (r_mbyt : 0 ≤ mbyt.toInt ∧ mbyt.toInt ≤ 160) (r_mpos : 0 ≤ mpos.toInt ∧ mpos.toInt ≤ 160) (r_mrdm : 0 ≤ mrdm.toInt ∧ mrdm.toInt ≤ 10) (r_mlin : 0 ≤ mlin.toInt ∧ mlin.toInt ≤ 10) (r_mthg : rg 8 (0) (31) mthg) (r_mord : rg 8 (-1) (8) mord) (r_mans : rg 4 (0) (12) mans) (q0 : 0 ≤ x.toInt) (q1 : x.toInt ≤ 7) (q2 : 0 ≤ y.toInt) (q3 : y.toInt ≤ 7) : KW l yX10_doorsTo wsX10_doorsTo { frames := 0, cells := 0, slots := 0, locals := 0 } (dC, dI) (TY cI cZ cQ) (wMod cI cZ cQ b mday mdoo mdA mdB mfar mmar mtel mgai mfal mtop mstr mgho mfai mpto mwal mahd mahf mcho mbes mbyt mtxt mpos mtka mtok mdig mnum mfau mrdm mrea mlin mlne mthg mord mbor mbsm mans mand manr mali) [.ref (b 39), .int x, .int y] sz 0 0 (fun (r : Int32) (u : US) => (dsR mdA mdB mdoo.toInt x y r) ∧ (-1 ≤ r.toInt) ∧ (r.toInt ≤ 99)) (fun u : US => (wMod cI cZ cQ b mday mdoo mdA mdB (u.1 0) mmar mtel mgai mfal mtop mstr mgho mfai mpto mwal mahd mahf mcho mbes mbyt mtxt mpos mtka mtok mdig mnum mfau mrdm mrea mlin mlne mthg mord mbor mbsm mans mand manr mali)) := by
  refine Met.ofW (cc := cX10_doorsTo) (maxL := 7) (ret := (some .int)) (by decide) rfl ?_
  intro p e s m args below meth c s₁ B hml hv
  obtain ⟨rfl, hsz, hP, hK, hD0, hN⟩ := hv
  have hx := B.exec
  have hb := B.bytes
  have hr := B.returns
  have hts := atoms_spec (ws := wsX10_doorsTo) B.pre
  have hown : s.vm.findClass RX10 = some m.cls := findClass_of_methodNamed B.named
  have hlocks := B.notSynchronized
  have lf16 := hts (.fieldLink RX10 16 "PalaceOfRoomsModel" "far" "[I") (List.mem_cons_of_mem _ (List.mem_append_left _ (List.mem_of_getElem? (i := 0) rfl)))
  have inX10 : ∀ w ∈ wsX100, w ∈ wsX10_doorsTo := fun w h => List.mem_cons_of_mem _ (List.mem_append_right _ h)
  have lf97 := hts (.fieldLink RX10 97 "PalaceOfRoomsModel" "doors" "I") (List.mem_cons_of_mem _ (List.mem_append_left _ (List.mem_of_getElem? (i := 1) rfl)))
  have lf7 := hts (.fieldLink RX10 7 "PalaceOfRoomsModel" "doorA" "[I") (List.mem_cons_of_mem _ (List.mem_append_left _ (List.mem_of_getElem? (i := 2) rfl)))
  have lf13 := hts (.fieldLink RX10 13 "PalaceOfRoomsModel" "doorB" "[I") (List.mem_cons_of_mem _ (List.mem_append_left _ (List.mem_of_getElem? (i := 3) rfl)))
  subst hsz
  have hD := hD0.self (sz := s.heap.size)
  generalize hAe : va_A (wMod cI cZ cQ b mday mdoo mdA mdB mfar mmar mtel mgai mfal mtop mstr mgho mfai mpto mwal mahd mahf mcho mbes mbyt mtxt mpos mtka mtok mdig mnum mfau mrdm mrea mlin mlne mthg mord mbor mbsm mans mand manr mali) s.heap.size = A at hD ⊢
  have hA : ∀ q : Nat, s.heap.size ≤ q → A q := fun q h => by rw [← hAe]; exact Or.inr h
  have hS : va_S A s.heap s.heap [] := va_S.rf
  have hl := lv_entry ([.ref (b 39), .int x, .int y]) (n := 7) (Nat.le_of_ble_eq_true rfl)
  rw [lg_entry_eq]
  generalize (lg_sl ([.ref (b 39), .int x, .int y]) ++ List.replicate (7 - (lg_sl ([.ref (b 39), .int x, .int y])).length) Slot.unset).toArray = ls at hl ⊢
  have hl : lv_has ls 7 [(0, .ref (b 39)), (1, .int x), (2, .int y)] := hl
  refine lv_iconst (v := 0) hx hb dX10_doorsTo_0 (by decide) ?_
  refine lv_istore_n (lv' := [(3, .int 0), (0, .ref (b 39)), (1, .int x), (2, .int y)]) hx hb dX10_doorsTo_1 rfl hl (by decide) rfl (fun ls hl => ?_)
  have L2 : ∀ (nn : Nat) (y2_3 : Int32) (mfar_2 : Nat → Int32) (H : Heap) (locs : List Loc) (ls : Array Slot), (0 ≤ (y2_3.toInt)) → ((y2_3.toInt) ≤ 8) → (fi8 x (y2_3.toInt) mfar_2) → (8 - (y2_3.toInt)).toNat < nn → va_P (dC, dI) vwCl (wMod cI cZ cQ b mday mdoo mdA mdB mfar_2 mmar mtel mgai mfal mtop mstr mgho mfai mpto mwal mahd mahf mcho mbes mbyt mtxt mpos mtka mtok mdig mnum mfau mrdm mrea mlin mlne mthg mord mbor mbsm mans mand manr mali) H → va_D A (wMod cI cZ cQ b mday mdoo mdA mdB mfar_2 mmar mtel mgai mfal mtop mstr mgho mfai mpto mwal mahd mahf mcho mbes mbyt mtxt mpos mtka mtok mdig mnum mfau mrdm mrea mlin mlne mthg mord mbor mbsm mans mand manr mali) → va_S A s.heap H locs → lv_has ls 7 [(0, .ref (b 39)), (1, .int x), (2, .int y), (3, .int y2_3)] → W p l e (headSpec wsX10_doorsTo { frames := 0, cells := 0, slots := 0, locals := 0 }).room s m ([.ref (b 39), .int x, .int y] : List Value).toArray below meth c H locs 0 0 (MQ below (va_Qi (fun (r : Int32) (u : US) => (dsR mdA mdB mdoo.toInt x y r) ∧ (-1 ≤ r.toInt) ∧ (r.toInt ≤ 99)) (Bw (dC, dI) A (fun u : US => (wMod cI cZ cQ b mday mdoo mdA mdB (u.1 0) mmar mtel mgai mfal mtop mstr mgho mfai mpto mwal mahd mahf mcho mbes mbyt mtxt mpos mtka mtok mdig mnum mfau mrdm mrea mlin mlne mthg mord mbor mbsm mans mand manr mali))) A) ([.ref (b 39), .int x, .int y] : List Value).toArray s 0 0 A) (F0 m 2 ls []) := by
    intro nn
    induction nn with
    | zero =>
      intro y2_3 mfar_2 H locs ls i2_0 i2_1 i2_2 hm2
      exact absurd hm2 (Nat.not_lt_zero _)
    | succ nn ih2 =>
      intro y2_3 mfar_2 H locs ls i2_0 i2_1 i2_2 hm2 hP hD hS hl
      refine lv_iload_n hx hb dX10_doorsTo_2 rfl (lv_at hl 3 rfl) ?_
      refine lv_bipush (v := 8) hx hb dX10_doorsTo_3 (by decide) ?_
      refine lv_icmp_ge (tgt := 31) hx hb dX10_doorsTo_5 (by decide) (fun c1 => ?_) (fun c1 => ?_)
      · have dc1 : 8 ≤ y2_3.toInt := leC (show (8 : Int32).toInt = 8 from rfl) rfl c1
        refine lv_iconst (v := 0) hx hb dX10_doorsTo_31 (by decide) ?_
        refine lv_istore_n (lv' := [(3, .int 0), (0, .ref (b 39)), (1, .int x), (2, .int y)]) hx hb dX10_doorsTo_32 rfl hl (by decide) rfl (fun ls hl => ?_)
        have L33 : ∀ (nn : Nat) (y33_3 : Int32) (mfar_33 : Nat → Int32) (H : Heap) (locs : List Loc) (ls : Array Slot), (0 ≤ (y33_3.toInt)) → ((y33_3.toInt) ≤ 8) → (dtI mdA mdB mdoo.toInt x.toInt.toNat (y33_3.toInt) mfar_33) → (8 - (y33_3.toInt)).toNat < nn → va_P (dC, dI) vwCl (wMod cI cZ cQ b mday mdoo mdA mdB mfar_33 mmar mtel mgai mfal mtop mstr mgho mfai mpto mwal mahd mahf mcho mbes mbyt mtxt mpos mtka mtok mdig mnum mfau mrdm mrea mlin mlne mthg mord mbor mbsm mans mand manr mali) H → va_D A (wMod cI cZ cQ b mday mdoo mdA mdB mfar_33 mmar mtel mgai mfal mtop mstr mgho mfai mpto mwal mahd mahf mcho mbes mbyt mtxt mpos mtka mtok mdig mnum mfau mrdm mrea mlin mlne mthg mord mbor mbsm mans mand manr mali) → va_S A s.heap H locs → lv_has ls 7 [(0, .ref (b 39)), (2, .int y), (3, .int y33_3)] → W p l e (headSpec wsX10_doorsTo { frames := 0, cells := 0, slots := 0, locals := 0 }).room s m ([.ref (b 39), .int x, .int y] : List Value).toArray below meth c H locs 0 0 (MQ below (va_Qi (fun (r : Int32) (u : US) => (dsR mdA mdB mdoo.toInt x y r) ∧ (-1 ≤ r.toInt) ∧ (r.toInt ≤ 99)) (Bw (dC, dI) A (fun u : US => (wMod cI cZ cQ b mday mdoo mdA mdB (u.1 0) mmar mtel mgai mfal mtop mstr mgho mfai mpto mwal mahd mahf mcho mbes mbyt mtxt mpos mtka mtok mdig mnum mfau mrdm mrea mlin mlne mthg mord mbor mbsm mans mand manr mali))) A) ([.ref (b 39), .int x, .int y] : List Value).toArray s 0 0 A) (F0 m 33 ls []) := by
          intro nn
          induction nn with
          | zero =>
            intro y33_3 mfar_33 H locs ls i33_0 i33_1 i33_2 hm33
            exact absurd hm33 (Nat.not_lt_zero _)
          | succ nn ih33 =>
            intro y33_3 mfar_33 H locs ls i33_0 i33_1 i33_2 hm33 hP hD hS hl
            refine lv_iload_n hx hb dX10_doorsTo_33 rfl (lv_at hl 2 rfl) ?_
            refine lv_bipush (v := 8) hx hb dX10_doorsTo_34 (by decide) ?_
            refine lv_icmp_ge (tgt := 171) hx hb dX10_doorsTo_36 (by decide) (fun c2 => ?_) (fun c2 => ?_)
            · have dc2 : 8 ≤ y33_3.toInt := leC (show (8 : Int32).toInt = 8 from rfl) rfl c2
              have wE := i33_2.1 y.toNatClampNeg (by rw [clC (x := y) rfl]; omega)
              refine lv_aload_n hx hb dX10_doorsTo_171 rfl (lv_at hl 0 rfl) ?_
              refine va_get (D := (dC, dI)) (ci := 10) (v := .ref (b 4)) (C := RX10) (T := TX10) (N := 39) hx hb hts inX10 hown hK hP 0 rfl rfl 4 (by decide) lf16 (fun _ h9 => h9) rfl dX10_doorsTo_172 ?_
              refine lv_iload_n hx hb dX10_doorsTo_175 rfl (lv_at hl 1 rfl) ?_
              have b3 : vp_in y 8 := inC rfl (by omega) (by omega)
              refine va_iald hx hb hK hP 3 0 rfl rfl b3 dX10_doorsTo_176 ?_
              refine lv_bipush (v := 100) hx hb dX10_doorsTo_177 (by decide) ?_
              refine lv_icmp_lt (tgt := 186) hx hb dX10_doorsTo_179 (by decide) (fun c4 => ?_) (fun c4 => ?_)
              · have dc4 : (mfar_33 y.toNatClampNeg).toInt < 100 := ltC rfl (show (100 : Int32).toInt = 100 from rfl) c4
                refine lv_aload_n hx hb dX10_doorsTo_186 rfl (lv_at hl 0 rfl) ?_
                refine va_get (D := (dC, dI)) (ci := 10) (v := .ref (b 4)) (C := RX10) (T := TX10) (N := 39) hx hb hts inX10 hown hK hP 0 rfl rfl 4 (by decide) lf16 (fun _ h9 => h9) rfl dX10_doorsTo_187 ?_
                refine lv_iload_n hx hb dX10_doorsTo_190 rfl (lv_at hl 1 rfl) ?_
                have b5 : vp_in y 8 := inC rfl (by omega) (by omega)
                refine va_iald hx hb hK hP 3 0 rfl rfl b5 dX10_doorsTo_191 ?_
                exact W.iret (v := mfar_33 y.toNatClampNeg) hx hb hr (fun tq ht hW => ⟨⟨mfar_33 y.toNatClampNeg, (uS [mfar_33] 0 (fun _ => 0)), rfl, ⟨(show dsR mdA mdB mdoo.toInt x y (mfar_33 y.toNatClampNeg) from by (first | exact ds_no i33_2 (by omega) (by omega) (by omega) (by omega) | exact ds_yes i33_2 (by omega) (by omega) (by omega) rfl (by omega))), (show -1 ≤ (mfar_33 y.toNatClampNeg).toInt from by omega), (show (mfar_33 y.toNatClampNeg).toInt ≤ 99 from by omega)⟩, by rw [ht]; exact hP, hD⟩, hS.F ht⟩) hS.2.2 dX10_doorsTo_192
              · have dc4 : 100 ≤ (mfar_33 y.toNatClampNeg).toInt := nltC rfl (show (100 : Int32).toInt = 100 from rfl) c4
                refine lv_iconst (v := (-1)) hx hb dX10_doorsTo_182 (by decide) ?_
                refine lv_goto (tgt := 192) hx hb dX10_doorsTo_183 (by decide) ?_
                exact W.iret (v := (-1)) hx hb hr (fun tq ht hW => ⟨⟨(-1), (uS [mfar_33] 0 (fun _ => 0)), rfl, ⟨(show dsR mdA mdB mdoo.toInt x y ((-1) : Int32) from by (try rw [show ((-1) : Int32).toInt = (-1) from (show ((-1) : Int32).toInt = (-1) from rfl)]); (first | exact ds_no i33_2 (by omega) (by omega) (by omega) (by omega) | exact ds_yes i33_2 (by omega) (by omega) (by omega) rfl (by omega))), (show -1 ≤ ((-1) : Int32).toInt from by (try rw [show ((-1) : Int32).toInt = (-1) from (show ((-1) : Int32).toInt = (-1) from rfl)]); omega), (show ((-1) : Int32).toInt ≤ 99 from by (try rw [show ((-1) : Int32).toInt = (-1) from (show ((-1) : Int32).toInt = (-1) from rfl)]); omega)⟩, by rw [ht]; exact hP, hD⟩, hS.F ht⟩) hS.2.2 dX10_doorsTo_192
            · have dc2 : y33_3.toInt < 8 := nleC (show (8 : Int32).toInt = 8 from rfl) rfl c2
              refine lv_iconst (v := 0) hx hb dX10_doorsTo_39 (by decide) ?_
              refine lv_istore (lv' := [(4, .int 0), (0, .ref (b 39)), (2, .int y), (3, .int y33_3)]) hx hb dX10_doorsTo_40 hl (by decide) rfl (fun ls hl => ?_)
              have L42 : ∀ (nn : Nat) (y42_4 : Int32) (mfar_42 : Nat → Int32) (H : Heap) (locs : List Loc) (ls : Array Slot), (0 ≤ (y42_4.toInt)) → ((y42_4.toInt) ≤ 14) → (dkI mdA mdB mdoo.toInt x.toInt.toNat (y42_4.toInt) mfar_33 mfar_42) → (14 - (y42_4.toInt)).toNat < nn → va_P (dC, dI) vwCl (wMod cI cZ cQ b mday mdoo mdA mdB mfar_42 mmar mtel mgai mfal mtop mstr mgho mfai mpto mwal mahd mahf mcho mbes mbyt mtxt mpos mtka mtok mdig mnum mfau mrdm mrea mlin mlne mthg mord mbor mbsm mans mand manr mali) H → va_D A (wMod cI cZ cQ b mday mdoo mdA mdB mfar_42 mmar mtel mgai mfal mtop mstr mgho mfai mpto mwal mahd mahf mcho mbes mbyt mtxt mpos mtka mtok mdig mnum mfau mrdm mrea mlin mlne mthg mord mbor mbsm mans mand manr mali) → va_S A s.heap H locs → lv_has ls 7 [(0, .ref (b 39)), (2, .int y), (3, .int y33_3), (4, .int y42_4)] → W p l e (headSpec wsX10_doorsTo { frames := 0, cells := 0, slots := 0, locals := 0 }).room s m ([.ref (b 39), .int x, .int y] : List Value).toArray below meth c H locs 0 0 (MQ below (va_Qi (fun (r : Int32) (u : US) => (dsR mdA mdB mdoo.toInt x y r) ∧ (-1 ≤ r.toInt) ∧ (r.toInt ≤ 99)) (Bw (dC, dI) A (fun u : US => (wMod cI cZ cQ b mday mdoo mdA mdB (u.1 0) mmar mtel mgai mfal mtop mstr mgho mfai mpto mwal mahd mahf mcho mbes mbyt mtxt mpos mtka mtok mdig mnum mfau mrdm mrea mlin mlne mthg mord mbor mbsm mans mand manr mali))) A) ([.ref (b 39), .int x, .int y] : List Value).toArray s 0 0 A) (F0 m 42 ls []) := by
                intro nn
                induction nn with
                | zero =>
                  intro y42_4 mfar_42 H locs ls i42_0 i42_1 i42_2 hm42
                  exact absurd hm42 (Nat.not_lt_zero _)
                | succ nn ih42 =>
                  intro y42_4 mfar_42 H locs ls i42_0 i42_1 i42_2 hm42 hP hD hS hl
                  refine lv_iload hx hb dX10_doorsTo_42 (lv_at hl 3 rfl) ?_
                  refine lv_aload_n hx hb dX10_doorsTo_44 rfl (lv_at hl 0 rfl) ?_
                  refine va_get (D := (dC, dI)) (ci := 10) (v := .int mdoo) (C := RX10) (T := TX10) (N := 39) hx hb hts inX10 hown hK hP 0 rfl rfl 1 (by decide) lf97 (fun _ h9 => h9) rfl dX10_doorsTo_45 ?_
                  refine lv_icmp_ge (tgt := 165) hx hb dX10_doorsTo_48 (by decide) (fun c6 => ?_) (fun c6 => ?_)
                  · have dc6 : mdoo.toInt ≤ y42_4.toInt := leC rfl rfl c6
                    obtain ⟨z7, ez7⟩ : ∃ y : Int32, y = y33_3 + 1 := ⟨_, rfl⟩
                    have iz7 : z7.toInt = y33_3.toInt + 1 := by rw [ez7]; exact addC rfl rfl (by omega) (by omega)
                    refine lv_iinc (v := z7) (lv' := [(3, .int z7), (0, .ref (b 39)), (2, .int y), (4, .int y42_4)]) hx hb dX10_doorsTo_165 hl (k := 2) rfl (by rw [ez7]; rfl) (by decide) rfl (fun ls hl => ?_)
                    refine lv_goto (tgt := 33) hx hb dX10_doorsTo_168 (by decide) ?_
                    exact ih33 z7 mfar_42 _ _ _ (by omega) (by omega) (by (first | exact dk_end (by omega) r_mdA r_mdB (by omega) i33_2 i42_2 (by omega) (by omega) (by omega) | exact dt_init i2_2 (by omega) (by omega) (by first | rfl | omega))) (by omega) hP hD hS (lv_sub hl [1, 2, 0] rfl)
                  · have dc6 : y42_4.toInt < mdoo.toInt := nleC rfl rfl c6
                    refine lv_aload_n hx hb dX10_doorsTo_51 rfl (lv_at hl 0 rfl) ?_
                    refine va_get (D := (dC, dI)) (ci := 10) (v := .ref (b 2)) (C := RX10) (T := TX10) (N := 39) hx hb hts inX10 hown hK hP 0 rfl rfl 2 (by decide) lf7 (fun _ h9 => h9) rfl dX10_doorsTo_52 ?_
                    refine lv_iload hx hb dX10_doorsTo_55 (lv_at hl 3 rfl) ?_
                    have b8 : vp_in y42_4 14 := inC rfl (by omega) (by omega)
                    refine va_iald hx hb hK hP 1 0 rfl rfl b8 dX10_doorsTo_57 ?_
                    have g9 : 0 ≤ (mdA y42_4.toNatClampNeg).toInt ∧ (mdA y42_4.toNatClampNeg).toInt ≤ 7 := rg_at r_mdA b8
                    refine lv_topi (fun x10 ex10 => ?_)
                    have ix10 : x10.toInt = (mdA y42_4.toNatClampNeg).toInt := by rw [ex10]
                    refine lv_istore (lv' := [(5, .int x10), (0, .ref (b 39)), (2, .int y), (3, .int y33_3), (4, .int y42_4)]) hx hb dX10_doorsTo_58 hl (by decide) rfl (fun ls hl => ?_)
                    refine lv_aload_n hx hb dX10_doorsTo_60 rfl (lv_at hl 1 rfl) ?_
                    refine va_get (D := (dC, dI)) (ci := 10) (v := .ref (b 3)) (C := RX10) (T := TX10) (N := 39) hx hb hts inX10 hown hK hP 0 rfl rfl 3 (by decide) lf13 (fun _ h9 => h9) rfl dX10_doorsTo_61 ?_
                    refine lv_iload hx hb dX10_doorsTo_64 (lv_at hl 4 rfl) ?_
                    have b11 : vp_in y42_4 14 := inC rfl (by omega) (by omega)
                    refine va_iald hx hb hK hP 2 0 rfl rfl b11 dX10_doorsTo_66 ?_
                    have g12 : 0 ≤ (mdB y42_4.toNatClampNeg).toInt ∧ (mdB y42_4.toNatClampNeg).toInt ≤ 7 := rg_at r_mdB b11
                    refine lv_topi (fun x13 ex13 => ?_)
                    have ix13 : x13.toInt = (mdB y42_4.toNatClampNeg).toInt := by rw [ex13]
                    refine lv_istore (lv' := [(6, .int x13), (5, .int x10), (0, .ref (b 39)), (2, .int y), (3, .int y33_3), (4, .int y42_4)]) hx hb dX10_doorsTo_67 hl (by decide) rfl (fun ls hl => ?_)
                    have wF := dk_rg i33_2 i42_2
                    have wx := wF x10.toNatClampNeg (by rw [clC (x := x10) rfl]; omega)
                    have wy := wF x13.toNatClampNeg (by rw [clC (x := x13) rfl]; omega)
                    refine lv_aload_n hx hb dX10_doorsTo_69 rfl (lv_at hl 2 rfl) ?_
                    refine va_get (D := (dC, dI)) (ci := 10) (v := .ref (b 4)) (C := RX10) (T := TX10) (N := 39) hx hb hts inX10 hown hK hP 0 rfl rfl 4 (by decide) lf16 (fun _ h9 => h9) rfl dX10_doorsTo_70 ?_
                    refine lv_iload hx hb dX10_doorsTo_73 (lv_at hl 1 rfl) ?_
                    refine lv_aload_n hx hb dX10_doorsTo_75 rfl (lv_at hl 2 rfl) ?_
                    refine va_get (D := (dC, dI)) (ci := 10) (v := .ref (b 4)) (C := RX10) (T := TX10) (N := 39) hx hb hts inX10 hown hK hP 0 rfl rfl 4 (by decide) lf16 (fun _ h9 => h9) rfl dX10_doorsTo_76 ?_
                    refine lv_iload hx hb dX10_doorsTo_79 (lv_at hl 0 rfl) ?_
                    have b14 : vp_in x13 8 := inC rfl (by omega) (by omega)
                    refine va_iald hx hb hK hP 3 0 rfl rfl b14 dX10_doorsTo_81 ?_
                    refine lv_iconst (v := 1) hx hb dX10_doorsTo_82 (by decide) ?_
                    refine lv_iadd hx hb dX10_doorsTo_83 ?_
                    have f15 : ((mfar_42 x13.toNatClampNeg) + 1).toInt = ((mfar_42 x13.toNatClampNeg).toInt) + (1) := addC rfl (show (1 : Int32).toInt = 1 from rfl) (by omega) (by omega)
                    refine lv_aload_n hx hb dX10_doorsTo_84 rfl (lv_at hl 2 rfl) ?_
                    refine va_get (D := (dC, dI)) (ci := 10) (v := .ref (b 4)) (C := RX10) (T := TX10) (N := 39) hx hb hts inX10 hown hK hP 0 rfl rfl 4 (by decide) lf16 (fun _ h9 => h9) rfl dX10_doorsTo_85 ?_
                    refine lv_iload hx hb dX10_doorsTo_88 (lv_at hl 1 rfl) ?_
                    have b16 : vp_in x10 8 := inC rfl (by omega) (by omega)
                    refine va_iald hx hb hK hP 3 0 rfl rfl b16 dX10_doorsTo_90 ?_
                    refine lv_icmp_ge (tgt := 106) hx hb dX10_doorsTo_91 (by decide) (fun c17 => ?_) (fun c17 => ?_)
                    · have dc17 : (mfar_42 x10.toNatClampNeg).toInt ≤ ((mfar_42 x13.toNatClampNeg).toInt) + (1) := leC rfl f15 c17
                      refine lv_aload_n hx hb dX10_doorsTo_106 rfl (lv_at hl 2 rfl) ?_
                      refine va_get (D := (dC, dI)) (ci := 10) (v := .ref (b 4)) (C := RX10) (T := TX10) (N := 39) hx hb hts inX10 hown hK hP 0 rfl rfl 4 (by decide) lf16 (fun _ h9 => h9) rfl dX10_doorsTo_107 ?_
                      refine lv_iload hx hb dX10_doorsTo_110 (lv_at hl 1 rfl) ?_
                      have b18 : vp_in x10 8 := inC rfl (by omega) (by omega)
                      refine va_iald hx hb hK hP 3 0 rfl rfl b18 dX10_doorsTo_112 ?_
                      refine lv_topi (fun x19 ex19 => ?_)
                      have ix19 : x19.toInt = (mfar_42 x10.toNatClampNeg).toInt := by rw [ex19]
                      have b20 : vp_in x10 8 := inC rfl (by omega) (by omega)
                      refine va_iast hx hb hK hP hD hS 3 0 rfl rfl b20 dX10_doorsTo_113 (fun H locs hP hD hS => ?_)
                      obtain ⟨mfar_u21, emfar_u21⟩ : ∃ f : Nat → Int32, f = upd mfar_42 x10.toNatClampNeg x19 := ⟨_, rfl⟩
                      have hP : va_P (dC, dI) vwCl (wMod cI cZ cQ b mday mdoo mdA mdB mfar_u21 mmar mtel mgai mfal mtop mstr mgho mfai mpto mwal mahd mahf mcho mbes mbyt mtxt mpos mtka mtok mdig mnum mfau mrdm mrea mlin mlne mthg mord mbor mbsm mans mand manr mali) H := by rw [emfar_u21]; exact hP
                      have hD : va_D A (wMod cI cZ cQ b mday mdoo mdA mdB mfar_u21 mmar mtel mgai mfal mtop mstr mgho mfai mpto mwal mahd mahf mcho mbes mbyt mtxt mpos mtka mtok mdig mnum mfau mrdm mrea mlin mlne mthg mord mbor mbsm mans mand manr mali) := by rw [emfar_u21]; exact hD
                      have wG := rg_of wF emfar_u21 (by omega) (by omega)
                      have vx := wG x10.toNatClampNeg (by rw [clC (x := x10) rfl]; omega)
                      have vy := wG x13.toNatClampNeg (by rw [clC (x := x13) rfl]; omega)
                      refine lv_aload_n hx hb dX10_doorsTo_114 rfl (lv_at hl 2 rfl) ?_
                      refine va_get (D := (dC, dI)) (ci := 10) (v := .ref (b 4)) (C := RX10) (T := TX10) (N := 39) hx hb hts inX10 hown hK hP 0 rfl rfl 4 (by decide) lf16 (fun _ h9 => h9) rfl dX10_doorsTo_115 ?_
                      refine lv_iload hx hb dX10_doorsTo_118 (lv_at hl 0 rfl) ?_
                      refine lv_aload_n hx hb dX10_doorsTo_120 rfl (lv_at hl 2 rfl) ?_
                      refine va_get (D := (dC, dI)) (ci := 10) (v := .ref (b 4)) (C := RX10) (T := TX10) (N := 39) hx hb hts inX10 hown hK hP 0 rfl rfl 4 (by decide) lf16 (fun _ h9 => h9) rfl dX10_doorsTo_121 ?_
                      refine lv_iload hx hb dX10_doorsTo_124 (lv_at hl 1 rfl) ?_
                      have b22 : vp_in x10 8 := inC rfl (by omega) (by omega)
                      refine va_iald hx hb hK hP 3 0 rfl rfl b22 dX10_doorsTo_126 ?_
                      have o23 : (mfar_u21 x10.toNatClampNeg).toInt = x19.toInt := by rw [emfar_u21, pk_us]
                      refine lv_iconst (v := 1) hx hb dX10_doorsTo_127 (by decide) ?_
                      refine lv_iadd hx hb dX10_doorsTo_128 ?_
                      have f24 : ((mfar_u21 x10.toNatClampNeg) + 1).toInt = ((mfar_u21 x10.toNatClampNeg).toInt) + (1) := addC rfl (show (1 : Int32).toInt = 1 from rfl) (by omega) (by omega)
                      refine lv_aload_n hx hb dX10_doorsTo_129 rfl (lv_at hl 2 rfl) ?_
                      refine va_get (D := (dC, dI)) (ci := 10) (v := .ref (b 4)) (C := RX10) (T := TX10) (N := 39) hx hb hts inX10 hown hK hP 0 rfl rfl 4 (by decide) lf16 (fun _ h9 => h9) rfl dX10_doorsTo_130 ?_
                      refine lv_iload hx hb dX10_doorsTo_133 (lv_at hl 0 rfl) ?_
                      have b25 : vp_in x13 8 := inC rfl (by omega) (by omega)
                      refine va_iald hx hb hK hP 3 0 rfl rfl b25 dX10_doorsTo_135 ?_
                      refine lv_icmp_ge (tgt := 151) hx hb dX10_doorsTo_136 (by decide) (fun c26 => ?_) (fun c26 => ?_)
                      · have dc26 : (mfar_u21 x13.toNatClampNeg).toInt ≤ ((mfar_u21 x10.toNatClampNeg).toInt) + (1) := leC rfl f24 c26
                        refine lv_aload_n hx hb dX10_doorsTo_151 rfl (lv_at hl 2 rfl) ?_
                        refine va_get (D := (dC, dI)) (ci := 10) (v := .ref (b 4)) (C := RX10) (T := TX10) (N := 39) hx hb hts inX10 hown hK hP 0 rfl rfl 4 (by decide) lf16 (fun _ h9 => h9) rfl dX10_doorsTo_152 ?_
                        refine lv_iload hx hb dX10_doorsTo_155 (lv_at hl 0 rfl) ?_
                        have b27 : vp_in x13 8 := inC rfl (by omega) (by omega)
                        refine va_iald hx hb hK hP 3 0 rfl rfl b27 dX10_doorsTo_157 ?_
                        refine lv_topi (fun x28 ex28 => ?_)
                        have ix28 : x28.toInt = (mfar_u21 x13.toNatClampNeg).toInt := by rw [ex28]
                        have b29 : vp_in x13 8 := inC rfl (by omega) (by omega)
                        refine va_iast hx hb hK hP hD hS 3 0 rfl rfl b29 dX10_doorsTo_158 (fun H locs hP hD hS => ?_)
                        obtain ⟨mfar_u30, emfar_u30⟩ : ∃ f : Nat → Int32, f = upd mfar_u21 x13.toNatClampNeg x28 := ⟨_, rfl⟩
                        have hP : va_P (dC, dI) vwCl (wMod cI cZ cQ b mday mdoo mdA mdB mfar_u30 mmar mtel mgai mfal mtop mstr mgho mfai mpto mwal mahd mahf mcho mbes mbyt mtxt mpos mtka mtok mdig mnum mfau mrdm mrea mlin mlne mthg mord mbor mbsm mans mand manr mali) H := by rw [emfar_u30]; exact hP
                        have hD : va_D A (wMod cI cZ cQ b mday mdoo mdA mdB mfar_u30 mmar mtel mgai mfal mtop mstr mgho mfai mpto mwal mahd mahf mcho mbes mbyt mtxt mpos mtka mtok mdig mnum mfau mrdm mrea mlin mlne mthg mord mbor mbsm mans mand manr mali) := by rw [emfar_u30]; exact hD
                        obtain ⟨z31, ez31⟩ : ∃ y : Int32, y = y42_4 + 1 := ⟨_, rfl⟩
                        have iz31 : z31.toInt = y42_4.toInt + 1 := by rw [ez31]; exact addC rfl rfl (by omega) (by omega)
                        refine lv_iinc (v := z31) (lv' := [(4, .int z31), (6, .int x13), (5, .int x10), (0, .ref (b 39)), (2, .int y), (3, .int y33_3)]) hx hb dX10_doorsTo_159 hl (k := 5) rfl (by rw [ez31]; rfl) (by decide) rfl (fun ls hl => ?_)
                        refine lv_goto (tgt := 42) hx hb dX10_doorsTo_162 (by decide) ?_
                        exact ih42 z31 mfar_u30 _ _ _ (by omega) (by omega) (by (first | exact dk_step (c := y42_4) (by omega) r_mdA r_mdB i33_2 i42_2 rfl (by omega) (by omega) (by omega) (by assumption) (by assumption) (by assumption) (by omega) (by assumption) (by omega) (by omega) | exact dk_init i33_2 (by first | rfl | omega))) (by omega) hP hD hS (lv_sub hl [3, 4, 5, 0] rfl)
                      · have dc26 : ((mfar_u21 x10.toNatClampNeg).toInt) + (1) < (mfar_u21 x13.toNatClampNeg).toInt := nleC rfl f24 c26
                        refine lv_aload_n hx hb dX10_doorsTo_139 rfl (lv_at hl 2 rfl) ?_
                        refine va_get (D := (dC, dI)) (ci := 10) (v := .ref (b 4)) (C := RX10) (T := TX10) (N := 39) hx hb hts inX10 hown hK hP 0 rfl rfl 4 (by decide) lf16 (fun _ h9 => h9) rfl dX10_doorsTo_140 ?_
                        refine lv_iload hx hb dX10_doorsTo_143 (lv_at hl 1 rfl) ?_
                        have b32 : vp_in x10 8 := inC rfl (by omega) (by omega)
                        refine va_iald hx hb hK hP 3 0 rfl rfl b32 dX10_doorsTo_145 ?_
                        have o33 : (mfar_u21 x10.toNatClampNeg).toInt = x19.toInt := by rw [emfar_u21, pk_us]
                        refine lv_iconst (v := 1) hx hb dX10_doorsTo_146 (by decide) ?_
                        refine lv_iadd hx hb dX10_doorsTo_147 ?_
                        have f34 : ((mfar_u21 x10.toNatClampNeg) + 1).toInt = ((mfar_u21 x10.toNatClampNeg).toInt) + (1) := addC rfl (show (1 : Int32).toInt = 1 from rfl) (by omega) (by omega)
                        refine lv_goto (tgt := 158) hx hb dX10_doorsTo_148 (by decide) ?_
                        refine lv_topi (fun x35 ex35 => ?_)
                        have ix35 : x35.toInt = ((mfar_u21 x10.toNatClampNeg).toInt) + (1) := by rw [ex35]; exact f34
                        have b36 : vp_in x13 8 := inC rfl (by omega) (by omega)
                        refine va_iast hx hb hK hP hD hS 3 0 rfl rfl b36 dX10_doorsTo_158 (fun H locs hP hD hS => ?_)
                        obtain ⟨mfar_u37, emfar_u37⟩ : ∃ f : Nat → Int32, f = upd mfar_u21 x13.toNatClampNeg x35 := ⟨_, rfl⟩
                        have hP : va_P (dC, dI) vwCl (wMod cI cZ cQ b mday mdoo mdA mdB mfar_u37 mmar mtel mgai mfal mtop mstr mgho mfai mpto mwal mahd mahf mcho mbes mbyt mtxt mpos mtka mtok mdig mnum mfau mrdm mrea mlin mlne mthg mord mbor mbsm mans mand manr mali) H := by rw [emfar_u37]; exact hP
                        have hD : va_D A (wMod cI cZ cQ b mday mdoo mdA mdB mfar_u37 mmar mtel mgai mfal mtop mstr mgho mfai mpto mwal mahd mahf mcho mbes mbyt mtxt mpos mtka mtok mdig mnum mfau mrdm mrea mlin mlne mthg mord mbor mbsm mans mand manr mali) := by rw [emfar_u37]; exact hD
                        obtain ⟨z38, ez38⟩ : ∃ y : Int32, y = y42_4 + 1 := ⟨_, rfl⟩
                        have iz38 : z38.toInt = y42_4.toInt + 1 := by rw [ez38]; exact addC rfl rfl (by omega) (by omega)
                        refine lv_iinc (v := z38) (lv' := [(4, .int z38), (6, .int x13), (5, .int x10), (0, .ref (b 39)), (2, .int y), (3, .int y33_3)]) hx hb dX10_doorsTo_159 hl (k := 5) rfl (by rw [ez38]; rfl) (by decide) rfl (fun ls hl => ?_)
                        refine lv_goto (tgt := 42) hx hb dX10_doorsTo_162 (by decide) ?_
                        exact ih42 z38 mfar_u37 _ _ _ (by omega) (by omega) (by (first | exact dk_step (c := y42_4) (by omega) r_mdA r_mdB i33_2 i42_2 rfl (by omega) (by omega) (by omega) (by assumption) (by assumption) (by assumption) (by omega) (by assumption) (by omega) (by omega) | exact dk_init i33_2 (by first | rfl | omega))) (by omega) hP hD hS (lv_sub hl [3, 4, 5, 0] rfl)
                    · have dc17 : ((mfar_42 x13.toNatClampNeg).toInt) + (1) < (mfar_42 x10.toNatClampNeg).toInt := nleC rfl f15 c17
                      refine lv_aload_n hx hb dX10_doorsTo_94 rfl (lv_at hl 2 rfl) ?_
                      refine va_get (D := (dC, dI)) (ci := 10) (v := .ref (b 4)) (C := RX10) (T := TX10) (N := 39) hx hb hts inX10 hown hK hP 0 rfl rfl 4 (by decide) lf16 (fun _ h9 => h9) rfl dX10_doorsTo_95 ?_
                      refine lv_iload hx hb dX10_doorsTo_98 (lv_at hl 0 rfl) ?_
                      have b39 : vp_in x13 8 := inC rfl (by omega) (by omega)
                      refine va_iald hx hb hK hP 3 0 rfl rfl b39 dX10_doorsTo_100 ?_
                      refine lv_iconst (v := 1) hx hb dX10_doorsTo_101 (by decide) ?_
                      refine lv_iadd hx hb dX10_doorsTo_102 ?_
                      have f40 : ((mfar_42 x13.toNatClampNeg) + 1).toInt = ((mfar_42 x13.toNatClampNeg).toInt) + (1) := addC rfl (show (1 : Int32).toInt = 1 from rfl) (by omega) (by omega)
                      refine lv_goto (tgt := 113) hx hb dX10_doorsTo_103 (by decide) ?_
                      refine lv_topi (fun x41 ex41 => ?_)
                      have ix41 : x41.toInt = ((mfar_42 x13.toNatClampNeg).toInt) + (1) := by rw [ex41]; exact f40
                      have b42 : vp_in x10 8 := inC rfl (by omega) (by omega)
                      refine va_iast hx hb hK hP hD hS 3 0 rfl rfl b42 dX10_doorsTo_113 (fun H locs hP hD hS => ?_)
                      obtain ⟨mfar_u43, emfar_u43⟩ : ∃ f : Nat → Int32, f = upd mfar_42 x10.toNatClampNeg x41 := ⟨_, rfl⟩
                      have hP : va_P (dC, dI) vwCl (wMod cI cZ cQ b mday mdoo mdA mdB mfar_u43 mmar mtel mgai mfal mtop mstr mgho mfai mpto mwal mahd mahf mcho mbes mbyt mtxt mpos mtka mtok mdig mnum mfau mrdm mrea mlin mlne mthg mord mbor mbsm mans mand manr mali) H := by rw [emfar_u43]; exact hP
                      have hD : va_D A (wMod cI cZ cQ b mday mdoo mdA mdB mfar_u43 mmar mtel mgai mfal mtop mstr mgho mfai mpto mwal mahd mahf mcho mbes mbyt mtxt mpos mtka mtok mdig mnum mfau mrdm mrea mlin mlne mthg mord mbor mbsm mans mand manr mali) := by rw [emfar_u43]; exact hD
                      have wG := rg_of wF emfar_u43 (by omega) (by omega)
                      have vx := wG x10.toNatClampNeg (by rw [clC (x := x10) rfl]; omega)
                      have vy := wG x13.toNatClampNeg (by rw [clC (x := x13) rfl]; omega)
                      refine lv_aload_n hx hb dX10_doorsTo_114 rfl (lv_at hl 2 rfl) ?_
                      refine va_get (D := (dC, dI)) (ci := 10) (v := .ref (b 4)) (C := RX10) (T := TX10) (N := 39) hx hb hts inX10 hown hK hP 0 rfl rfl 4 (by decide) lf16 (fun _ h9 => h9) rfl dX10_doorsTo_115 ?_
                      refine lv_iload hx hb dX10_doorsTo_118 (lv_at hl 0 rfl) ?_
                      refine lv_aload_n hx hb dX10_doorsTo_120 rfl (lv_at hl 2 rfl) ?_
                      refine va_get (D := (dC, dI)) (ci := 10) (v := .ref (b 4)) (C := RX10) (T := TX10) (N := 39) hx hb hts inX10 hown hK hP 0 rfl rfl 4 (by decide) lf16 (fun _ h9 => h9) rfl dX10_doorsTo_121 ?_
                      refine lv_iload hx hb dX10_doorsTo_124 (lv_at hl 1 rfl) ?_
                      have b44 : vp_in x10 8 := inC rfl (by omega) (by omega)
                      refine va_iald hx hb hK hP 3 0 rfl rfl b44 dX10_doorsTo_126 ?_
                      have o45 : (mfar_u43 x10.toNatClampNeg).toInt = x41.toInt := by rw [emfar_u43, pk_us]
                      refine lv_iconst (v := 1) hx hb dX10_doorsTo_127 (by decide) ?_
                      refine lv_iadd hx hb dX10_doorsTo_128 ?_
                      have f46 : ((mfar_u43 x10.toNatClampNeg) + 1).toInt = ((mfar_u43 x10.toNatClampNeg).toInt) + (1) := addC rfl (show (1 : Int32).toInt = 1 from rfl) (by omega) (by omega)
                      refine lv_aload_n hx hb dX10_doorsTo_129 rfl (lv_at hl 2 rfl) ?_
                      refine va_get (D := (dC, dI)) (ci := 10) (v := .ref (b 4)) (C := RX10) (T := TX10) (N := 39) hx hb hts inX10 hown hK hP 0 rfl rfl 4 (by decide) lf16 (fun _ h9 => h9) rfl dX10_doorsTo_130 ?_
                      refine lv_iload hx hb dX10_doorsTo_133 (lv_at hl 0 rfl) ?_
                      have b47 : vp_in x13 8 := inC rfl (by omega) (by omega)
                      refine va_iald hx hb hK hP 3 0 rfl rfl b47 dX10_doorsTo_135 ?_
                      refine lv_icmp_ge (tgt := 151) hx hb dX10_doorsTo_136 (by decide) (fun c48 => ?_) (fun c48 => ?_)
                      · have dc48 : (mfar_u43 x13.toNatClampNeg).toInt ≤ ((mfar_u43 x10.toNatClampNeg).toInt) + (1) := leC rfl f46 c48
                        refine lv_aload_n hx hb dX10_doorsTo_151 rfl (lv_at hl 2 rfl) ?_
                        refine va_get (D := (dC, dI)) (ci := 10) (v := .ref (b 4)) (C := RX10) (T := TX10) (N := 39) hx hb hts inX10 hown hK hP 0 rfl rfl 4 (by decide) lf16 (fun _ h9 => h9) rfl dX10_doorsTo_152 ?_
                        refine lv_iload hx hb dX10_doorsTo_155 (lv_at hl 0 rfl) ?_
                        have b49 : vp_in x13 8 := inC rfl (by omega) (by omega)
                        refine va_iald hx hb hK hP 3 0 rfl rfl b49 dX10_doorsTo_157 ?_
                        refine lv_topi (fun x50 ex50 => ?_)
                        have ix50 : x50.toInt = (mfar_u43 x13.toNatClampNeg).toInt := by rw [ex50]
                        have b51 : vp_in x13 8 := inC rfl (by omega) (by omega)
                        refine va_iast hx hb hK hP hD hS 3 0 rfl rfl b51 dX10_doorsTo_158 (fun H locs hP hD hS => ?_)
                        obtain ⟨mfar_u52, emfar_u52⟩ : ∃ f : Nat → Int32, f = upd mfar_u43 x13.toNatClampNeg x50 := ⟨_, rfl⟩
                        have hP : va_P (dC, dI) vwCl (wMod cI cZ cQ b mday mdoo mdA mdB mfar_u52 mmar mtel mgai mfal mtop mstr mgho mfai mpto mwal mahd mahf mcho mbes mbyt mtxt mpos mtka mtok mdig mnum mfau mrdm mrea mlin mlne mthg mord mbor mbsm mans mand manr mali) H := by rw [emfar_u52]; exact hP
                        have hD : va_D A (wMod cI cZ cQ b mday mdoo mdA mdB mfar_u52 mmar mtel mgai mfal mtop mstr mgho mfai mpto mwal mahd mahf mcho mbes mbyt mtxt mpos mtka mtok mdig mnum mfau mrdm mrea mlin mlne mthg mord mbor mbsm mans mand manr mali) := by rw [emfar_u52]; exact hD
                        obtain ⟨z53, ez53⟩ : ∃ y : Int32, y = y42_4 + 1 := ⟨_, rfl⟩
                        have iz53 : z53.toInt = y42_4.toInt + 1 := by rw [ez53]; exact addC rfl rfl (by omega) (by omega)
                        refine lv_iinc (v := z53) (lv' := [(4, .int z53), (6, .int x13), (5, .int x10), (0, .ref (b 39)), (2, .int y), (3, .int y33_3)]) hx hb dX10_doorsTo_159 hl (k := 5) rfl (by rw [ez53]; rfl) (by decide) rfl (fun ls hl => ?_)
                        refine lv_goto (tgt := 42) hx hb dX10_doorsTo_162 (by decide) ?_
                        exact ih42 z53 mfar_u52 _ _ _ (by omega) (by omega) (by (first | exact dk_step (c := y42_4) (by omega) r_mdA r_mdB i33_2 i42_2 rfl (by omega) (by omega) (by omega) (by assumption) (by assumption) (by assumption) (by omega) (by assumption) (by omega) (by omega) | exact dk_init i33_2 (by first | rfl | omega))) (by omega) hP hD hS (lv_sub hl [3, 4, 5, 0] rfl)
                      · have dc48 : ((mfar_u43 x10.toNatClampNeg).toInt) + (1) < (mfar_u43 x13.toNatClampNeg).toInt := nleC rfl f46 c48
                        refine lv_aload_n hx hb dX10_doorsTo_139 rfl (lv_at hl 2 rfl) ?_
                        refine va_get (D := (dC, dI)) (ci := 10) (v := .ref (b 4)) (C := RX10) (T := TX10) (N := 39) hx hb hts inX10 hown hK hP 0 rfl rfl 4 (by decide) lf16 (fun _ h9 => h9) rfl dX10_doorsTo_140 ?_
                        refine lv_iload hx hb dX10_doorsTo_143 (lv_at hl 1 rfl) ?_
                        have b54 : vp_in x10 8 := inC rfl (by omega) (by omega)
                        refine va_iald hx hb hK hP 3 0 rfl rfl b54 dX10_doorsTo_145 ?_
                        have o55 : (mfar_u43 x10.toNatClampNeg).toInt = x41.toInt := by rw [emfar_u43, pk_us]
                        refine lv_iconst (v := 1) hx hb dX10_doorsTo_146 (by decide) ?_
                        refine lv_iadd hx hb dX10_doorsTo_147 ?_
                        have f56 : ((mfar_u43 x10.toNatClampNeg) + 1).toInt = ((mfar_u43 x10.toNatClampNeg).toInt) + (1) := addC rfl (show (1 : Int32).toInt = 1 from rfl) (by omega) (by omega)
                        refine lv_goto (tgt := 158) hx hb dX10_doorsTo_148 (by decide) ?_
                        refine lv_topi (fun x57 ex57 => ?_)
                        have ix57 : x57.toInt = ((mfar_u43 x10.toNatClampNeg).toInt) + (1) := by rw [ex57]; exact f56
                        have b58 : vp_in x13 8 := inC rfl (by omega) (by omega)
                        refine va_iast hx hb hK hP hD hS 3 0 rfl rfl b58 dX10_doorsTo_158 (fun H locs hP hD hS => ?_)
                        obtain ⟨mfar_u59, emfar_u59⟩ : ∃ f : Nat → Int32, f = upd mfar_u43 x13.toNatClampNeg x57 := ⟨_, rfl⟩
                        have hP : va_P (dC, dI) vwCl (wMod cI cZ cQ b mday mdoo mdA mdB mfar_u59 mmar mtel mgai mfal mtop mstr mgho mfai mpto mwal mahd mahf mcho mbes mbyt mtxt mpos mtka mtok mdig mnum mfau mrdm mrea mlin mlne mthg mord mbor mbsm mans mand manr mali) H := by rw [emfar_u59]; exact hP
                        have hD : va_D A (wMod cI cZ cQ b mday mdoo mdA mdB mfar_u59 mmar mtel mgai mfal mtop mstr mgho mfai mpto mwal mahd mahf mcho mbes mbyt mtxt mpos mtka mtok mdig mnum mfau mrdm mrea mlin mlne mthg mord mbor mbsm mans mand manr mali) := by rw [emfar_u59]; exact hD
                        obtain ⟨z60, ez60⟩ : ∃ y : Int32, y = y42_4 + 1 := ⟨_, rfl⟩
                        have iz60 : z60.toInt = y42_4.toInt + 1 := by rw [ez60]; exact addC rfl rfl (by omega) (by omega)
                        refine lv_iinc (v := z60) (lv' := [(4, .int z60), (6, .int x13), (5, .int x10), (0, .ref (b 39)), (2, .int y), (3, .int y33_3)]) hx hb dX10_doorsTo_159 hl (k := 5) rfl (by rw [ez60]; rfl) (by decide) rfl (fun ls hl => ?_)
                        refine lv_goto (tgt := 42) hx hb dX10_doorsTo_162 (by decide) ?_
                        exact ih42 z60 mfar_u59 _ _ _ (by omega) (by omega) (by (first | exact dk_step (c := y42_4) (by omega) r_mdA r_mdB i33_2 i42_2 rfl (by omega) (by omega) (by omega) (by assumption) (by assumption) (by assumption) (by omega) (by assumption) (by omega) (by omega) | exact dk_init i33_2 (by first | rfl | omega))) (by omega) hP hD hS (lv_sub hl [3, 4, 5, 0] rfl)
              have kc61 : (0 : Int32).toInt = 0 := rfl
              exact L42 _ 0 mfar_33 _ _ _ (by omega) (by omega) (by (first | exact dk_init i33_2 (by first | rfl | omega) | exact dk_step (c := y42_4) (by omega) r_mdA r_mdB i33_2 i42_2 rfl (by omega) (by omega) (by omega) (by assumption) (by assumption) (by assumption) (by omega) (by assumption) (by omega) (by omega))) (Nat.lt_succ_self _) hP hD hS (lv_sub hl [1, 2, 3, 0] rfl)
        have kc62 : (0 : Int32).toInt = 0 := rfl
        exact L33 _ 0 mfar_2 _ _ _ (by omega) (by omega) (by (first | exact dt_init i2_2 (by omega) (by omega) (by first | rfl | omega) | exact dk_end (by omega) r_mdA r_mdB (by omega) i33_2 i42_2 (by omega) (by omega) (by omega))) (Nat.lt_succ_self _) hP hD hS (lv_sub hl [1, 3, 0] rfl)
      · have dc1 : y2_3.toInt < 8 := nleC (show (8 : Int32).toInt = 8 from rfl) rfl c1
        refine lv_aload_n hx hb dX10_doorsTo_8 rfl (lv_at hl 0 rfl) ?_
        refine va_get (D := (dC, dI)) (ci := 10) (v := .ref (b 4)) (C := RX10) (T := TX10) (N := 39) hx hb hts inX10 hown hK hP 0 rfl rfl 4 (by decide) lf16 (fun _ h9 => h9) rfl dX10_doorsTo_9 ?_
        refine lv_iload_n hx hb dX10_doorsTo_12 rfl (lv_at hl 3 rfl) ?_
        refine lv_iload_n hx hb dX10_doorsTo_13 rfl (lv_at hl 3 rfl) ?_
        refine lv_iload_n hx hb dX10_doorsTo_14 rfl (lv_at hl 1 rfl) ?_
        refine lv_icmp_ne (tgt := 22) hx hb dX10_doorsTo_15 (by decide) (fun c63 => ?_) (fun c63 => ?_)
        · have dc63 : y2_3.toInt ≠ x.toInt := neC rfl rfl c63
          refine lv_bipush (v := 100) hx hb dX10_doorsTo_22 (by decide) ?_
          have b64 : vp_in y2_3 8 := inC rfl (by omega) (by omega)
          refine va_iast hx hb hK hP hD hS 3 0 rfl rfl b64 dX10_doorsTo_24 (fun H locs hP hD hS => ?_)
          obtain ⟨mfar_u65, emfar_u65⟩ : ∃ f : Nat → Int32, f = upd mfar_2 y2_3.toNatClampNeg 100 := ⟨_, rfl⟩
          have hP : va_P (dC, dI) vwCl (wMod cI cZ cQ b mday mdoo mdA mdB mfar_u65 mmar mtel mgai mfal mtop mstr mgho mfai mpto mwal mahd mahf mcho mbes mbyt mtxt mpos mtka mtok mdig mnum mfau mrdm mrea mlin mlne mthg mord mbor mbsm mans mand manr mali) H := by rw [emfar_u65]; exact hP
          have hD : va_D A (wMod cI cZ cQ b mday mdoo mdA mdB mfar_u65 mmar mtel mgai mfal mtop mstr mgho mfai mpto mwal mahd mahf mcho mbes mbyt mtxt mpos mtka mtok mdig mnum mfau mrdm mrea mlin mlne mthg mord mbor mbsm mans mand manr mali) := by rw [emfar_u65]; exact hD
          obtain ⟨z66, ez66⟩ : ∃ y : Int32, y = y2_3 + 1 := ⟨_, rfl⟩
          have iz66 : z66.toInt = y2_3.toInt + 1 := by rw [ez66]; exact addC rfl rfl (by omega) (by omega)
          refine lv_iinc (v := z66) (lv' := [(3, .int z66), (0, .ref (b 39)), (1, .int x), (2, .int y)]) hx hb dX10_doorsTo_25 hl (k := 3) rfl (by rw [ez66]; rfl) (by decide) rfl (fun ls hl => ?_)
          refine lv_goto (tgt := 2) hx hb dX10_doorsTo_28 (by decide) ?_
          exact ih2 z66 mfar_u65 _ _ _ (by omega) (by omega) (by (first | exact fi8_step i2_2 (by assumption) (by omega) (by first | exact Or.inl ⟨by omega, rfl⟩ | exact Or.inr ⟨by omega, rfl⟩) (by omega) | exact fi8_init (by first | rfl | omega))) (by omega) hP hD hS (lv_sub hl [1, 2, 3, 0] rfl)
        · have dc63 : y2_3.toInt = x.toInt := eqC rfl rfl c63
          refine lv_iconst (v := 0) hx hb dX10_doorsTo_18 (by decide) ?_
          refine lv_goto (tgt := 24) hx hb dX10_doorsTo_19 (by decide) ?_
          have b67 : vp_in y2_3 8 := inC rfl (by omega) (by omega)
          refine va_iast hx hb hK hP hD hS 3 0 rfl rfl b67 dX10_doorsTo_24 (fun H locs hP hD hS => ?_)
          obtain ⟨mfar_u68, emfar_u68⟩ : ∃ f : Nat → Int32, f = upd mfar_2 y2_3.toNatClampNeg 0 := ⟨_, rfl⟩
          have hP : va_P (dC, dI) vwCl (wMod cI cZ cQ b mday mdoo mdA mdB mfar_u68 mmar mtel mgai mfal mtop mstr mgho mfai mpto mwal mahd mahf mcho mbes mbyt mtxt mpos mtka mtok mdig mnum mfau mrdm mrea mlin mlne mthg mord mbor mbsm mans mand manr mali) H := by rw [emfar_u68]; exact hP
          have hD : va_D A (wMod cI cZ cQ b mday mdoo mdA mdB mfar_u68 mmar mtel mgai mfal mtop mstr mgho mfai mpto mwal mahd mahf mcho mbes mbyt mtxt mpos mtka mtok mdig mnum mfau mrdm mrea mlin mlne mthg mord mbor mbsm mans mand manr mali) := by rw [emfar_u68]; exact hD
          obtain ⟨z69, ez69⟩ : ∃ y : Int32, y = y2_3 + 1 := ⟨_, rfl⟩
          have iz69 : z69.toInt = y2_3.toInt + 1 := by rw [ez69]; exact addC rfl rfl (by omega) (by omega)
          refine lv_iinc (v := z69) (lv' := [(3, .int z69), (0, .ref (b 39)), (1, .int x), (2, .int y)]) hx hb dX10_doorsTo_25 hl (k := 3) rfl (by rw [ez69]; rfl) (by decide) rfl (fun ls hl => ?_)
          refine lv_goto (tgt := 2) hx hb dX10_doorsTo_28 (by decide) ?_
          exact ih2 z69 mfar_u68 _ _ _ (by omega) (by omega) (by (first | exact fi8_step i2_2 (by assumption) (by omega) (by first | exact Or.inl ⟨by omega, rfl⟩ | exact Or.inr ⟨by omega, rfl⟩) (by omega) | exact fi8_init (by first | rfl | omega))) (by omega) hP hD hS (lv_sub hl [1, 2, 3, 0] rfl)
  have kc70 : (0 : Int32).toInt = 0 := rfl
  exact L2 _ 0 mfar _ _ _ (by omega) (by omega) (by (first | exact fi8_init (by first | rfl | omega) | exact fi8_step i2_2 (by assumption) (by omega) (by first | exact Or.inl ⟨by omega, rfl⟩ | exact Or.inr ⟨by omega, rfl⟩) (by omega))) (Nat.lt_succ_self _) hP hD hS (lv_sub hl [1, 2, 3, 0] rfl)
set_option maxHeartbeats 4000000 in
set_option maxRecDepth 100000 in
theorem k_X10_away2 (l : Launch) (dC : Nat → ClassId) (dI : Nat → Nat → Nat) (cI cZ cQ : ClassId) (b : Nat → Nat) (mday : Int32) (mdoo : Int32) (mdA : Nat → Int32) (mdB : Nat → Int32) (mfar : Nat → Int32) (mmar : Nat → Int32) (mtel : Int32) (mgai : Int32) (mfal : Nat → Int32) (mtop : Nat → Int32) (mstr : Nat → Int32) (mgho : Nat → Int32) (mfai : Nat → Int32) (mpto : Nat → Int32) (mwal : Nat → Int32) (mahd : Nat → Int32) (mahf : Nat → Int32) (mcho : Nat → Int32) (mbes : Nat → Int32) (mbyt : Int32) (mtxt : Nat → Int32) (mpos : Int32) (mtka : Int32) (mtok : Int64) (mdig : Int32) (mnum : Int32) (mfau : Int32) (mrdm : Int32) (mrea : Nat → Int32) (mlin : Int32) (mlne : Nat → Int32) (mthg : Nat → Int32) (mord : Nat → Int32) (mbor : Nat → Int32) (mbsm : Int32) (mans : Nat → Int32) (mand : Nat → Int32) (manr : Nat → Int32) (mali : Nat → Int32) (sz : Nat) (x : Int32) (y : Int32) (r_mday : 0 ≤ mday.toInt ∧ mday.toInt ≤ 400) (r_mdoo : 0 ≤ mdoo.toInt ∧ mdoo.toInt ≤ 14) (r_mdA : rg 14 (0) (7) mdA) (r_mdB : rg 14 (0) (7) mdB) (r_mmar : rg 24 (0) (255) mmar) (r_mgai : 0 ≤ mgai.toInt ∧ mgai.toInt ≤ 100) (r_mfal : rg 11 (0) (30) mfal) (r_mtop : rg 48 (-1) (23) mtop) (r_mstr : rg 48 (0) (100) mstr) (r_mgho : rg 48 (-1) (23) mgho) (r_mfai : rg 48 (0) (100) mfai) (r_mahd : rg 240 (0) (100) mahd) (r_mahf : rg 240 (0) (100) mahf) (r_mcho : rg 5 (-1) (9) mcho) (r_mbyt : 0 ≤ mbyt.toInt ∧ mbyt.toInt ≤ 160) (r_mpos : 0 ≤ mpos.toInt ∧ mpos.toInt ≤ 160) (r_mrdm : 0 ≤ mrdm.toInt ∧ mrdm.toInt ≤ 10) (r_mlin : 0 ≤ mlin.toInt ∧ mlin.toInt ≤ 10) (r_mthg : rg 8 (0) (31) mthg) (r_mord : rg 8 (-1) (8) mord) (r_mans : rg 4 (0) (12) mans) : KW l yX10_away wsX10_away { frames := 2, cells := 0, slots := 0, locals := 42 } (dC, dI) (TY cI cZ cQ) (wMod cI cZ cQ b mday mdoo mdA mdB mfar mmar mtel mgai mfal mtop mstr mgho mfai mpto mwal mahd mahf mcho mbes mbyt mtxt mpos mtka mtok mdig mnum mfau mrdm mrea mlin mlne mthg mord mbor mbsm mans mand manr mali) [.ref (b 39), .int x, .int y] sz 0 0 (fun (r : Int32) (u : US) => (spAwyM mdA mdB mdoo x y r)) (fun u : US => (wMod cI cZ cQ b mday mdoo mdA mdB (u.1 0) mmar mtel mgai mfal mtop mstr mgho mfai mpto mwal mahd mahf mcho mbes mbyt mtxt mpos mtka mtok mdig mnum mfau mrdm mrea mlin mlne mthg mord mbor mbsm mans mand manr mali)) := by
  refine Met.ofW (cc := cX10_away) (maxL := 3) (ret := (some .int)) (by decide) rfl ?_
  intro p e s m args below meth c s₁ B hml hv
  obtain ⟨rfl, hsz, hP, hK, hD0, hN⟩ := hv
  have hx := B.exec
  have hb := B.bytes
  have hr := B.returns
  have hts := atoms_spec (ws := wsX10_away) B.pre
  have hown : s.vm.findClass RX10 = some m.cls := findClass_of_methodNamed B.named
  have hlocks := B.notSynchronized
  subst hsz
  have hD := hD0.self (sz := s.heap.size)
  generalize hAe : va_A (wMod cI cZ cQ b mday mdoo mdA mdB mfar mmar mtel mgai mfal mtop mstr mgho mfai mpto mwal mahd mahf mcho mbes mbyt mtxt mpos mtka mtok mdig mnum mfau mrdm mrea mlin mlne mthg mord mbor mbsm mans mand manr mali) s.heap.size = A at hD ⊢
  have hA : ∀ q : Nat, s.heap.size ≤ q → A q := fun q h => by rw [← hAe]; exact Or.inr h
  have hS : va_S A s.heap s.heap [] := va_S.rf
  have hl := lv_entry ([.ref (b 39), .int x, .int y]) (n := 3) (Nat.le_of_ble_eq_true rfl)
  rw [lg_entry_eq]
  generalize (lg_sl ([.ref (b 39), .int x, .int y]) ++ List.replicate (3 - (lg_sl ([.ref (b 39), .int x, .int y])).length) Slot.unset).toArray = ls at hl ⊢
  have hl : lv_has ls 3 [(0, .ref (b 39)), (1, .int x), (2, .int y)] := hl
  refine lv_iload_n hx hb dX10_away_0 rfl (lv_at hl 1 rfl) ?_
  refine rdS (As := [.int x]) (rest := []) ⟨hx, hb, hml, hown, hts⟩ (k_X10_isRoom l dC dI cI cZ cQ x) (va_cwS 1 hts gX10_away_X10_isRoom rfl rfl rfl (by decide +kernel) ⟨Nat.le_of_ble_eq_true rfl, Nat.le_of_ble_eq_true rfl⟩) hP hK hN [] rfl rfl hl.1 rfl (Nat.le_of_ble_eq_true rfl) dX10_away_1 ⟨Nat.le_of_ble_eq_true rfl, Nat.le_of_ble_eq_true rfl⟩ (fun r1 h2 => ?_)
  have h2 : ((((r1 = 1) ∧ (0 ≤ x.toInt) ∧ (x.toInt ≤ 7)) ∨ ((r1 = 0) ∧ (x.toInt < 0 ∨ 7 < x.toInt)))) := h2
  rcases h2 with (⟨rfl, h2_a0, h2_a1⟩ | ⟨rfl, h2_a0⟩)
  · refine lv_if_eq (tgt := 23) hx hb dX10_away_4 (by decide) (fun c9 => absurd c9 (by decide)) (fun _ => ?_)
    refine lv_iload_n hx hb dX10_away_7 rfl (lv_at hl 2 rfl) ?_
    refine rdS (As := [.int y]) (rest := []) ⟨hx, hb, hml, hown, hts⟩ (k_X10_isRoom l dC dI cI cZ cQ y) (va_cwS 1 hts gX10_away_X10_isRoom rfl rfl rfl (by decide +kernel) ⟨Nat.le_of_ble_eq_true rfl, Nat.le_of_ble_eq_true rfl⟩) hP hK hN [] rfl rfl hl.1 rfl (Nat.le_of_ble_eq_true rfl) dX10_away_8 ⟨Nat.le_of_ble_eq_true rfl, Nat.le_of_ble_eq_true rfl⟩ (fun r3 h4 => ?_)
    have h4 : ((((r3 = 1) ∧ (0 ≤ y.toInt) ∧ (y.toInt ≤ 7)) ∨ ((r3 = 0) ∧ (y.toInt < 0 ∨ 7 < y.toInt)))) := h4
    rcases h4 with (⟨rfl, h4_a0, h4_a1⟩ | ⟨rfl, h4_a0⟩)
    · refine lv_if_eq (tgt := 23) hx hb dX10_away_11 (by decide) (fun c9 => absurd c9 (by decide)) (fun _ => ?_)
      refine lv_aload_n hx hb dX10_away_14 rfl (lv_at hl 0 rfl) ?_
      refine lv_iload_n hx hb dX10_away_15 rfl (lv_at hl 1 rfl) ?_
      refine lv_iload_n hx hb dX10_away_16 rfl (lv_at hl 2 rfl) ?_
      refine wrV (As := [.int x, .int y]) (rest := []) (wr := []) (w2 := (fun u : US => (wMod cI cZ cQ b mday mdoo mdA mdB (u.1 0) mmar mtel mgai mfal mtop mstr mgho mfai mpto mwal mahd mahf mcho mbes mbyt mtxt mpos mtka mtok mdig mnum mfau mrdm mrea mlin mlne mthg mord mbor mbsm mans mand manr mali))) ⟨hx, hb, hml, hown, hts⟩ (k_X10_doorsTo2 l dC dI cI cZ cQ b mday mdoo mdA mdB mfar mmar mtel mgai mfal mtop mstr mgho mfai mpto mwal mahd mahf mcho mbes mbyt mtxt mpos mtka mtok mdig mnum mfau mrdm mrea mlin mlne mthg mord mbor mbsm mans mand manr mali _ x y r_mday r_mdoo r_mdA r_mdB r_mmar r_mgai r_mfal r_mtop r_mstr r_mgho r_mfai r_mahd r_mahf r_mcho r_mbyt r_mpos r_mrdm r_mlin r_mthg r_mord r_mans (by omega) (by omega) (by omega) (by omega)) (cwV 2 hts gX10_away_X10_doorsTo rfl rfl rfl (by decide +kernel) ⟨Nat.le_of_ble_eq_true rfl, Nat.le_of_ble_eq_true rfl⟩) hP hD hS hA hK hN [0, 1, 2, 3, 4, 5, 6, 7, 8, 9, 10, 11, 12, 13, 14, 15, 16, 17, 18, 19, 20, 21, 22, 23, 24, 25] [] [0, 1, 2, 3, 4, 5, 6, 7, 8, 9, 10, 11, 12, 13, 14, 15, 16, 17, 18, 19, 20, 21, 22, 23, 24, 25] rfl rfl (by decide) (by decide) (by decide) (fun _ => rfl) (by decide) 0 10 rfl rfl rfl hl.1 rfl (Nat.le_of_ble_eq_true rfl) dX10_away_17 ⟨Nat.le_of_ble_eq_true rfl, Nat.le_of_ble_eq_true rfl⟩ (fun r5 u7 H locs h6 hP hD hS => ?_)
      obtain ⟨mfar_c8, emfar_c8⟩ : ∃ f : Nat → Int32, f = (u7.1 0) := ⟨_, rfl⟩
      have hP : va_P (dC, dI) vwCl (wMod cI cZ cQ b mday mdoo mdA mdB mfar_c8 mmar mtel mgai mfal mtop mstr mgho mfai mpto mwal mahd mahf mcho mbes mbyt mtxt mpos mtka mtok mdig mnum mfau mrdm mrea mlin mlne mthg mord mbor mbsm mans mand manr mali) H := by rw [emfar_c8]; exact hP
      have hD : va_D A (wMod cI cZ cQ b mday mdoo mdA mdB mfar_c8 mmar mtel mgai mfal mtop mstr mgho mfai mpto mwal mahd mahf mcho mbes mbyt mtxt mpos mtka mtok mdig mnum mfau mrdm mrea mlin mlne mthg mord mbor mbsm mans mand manr mali) := by rw [emfar_c8]; exact hD
      have h6 : (dsR mdA mdB mdoo.toInt x y r5) ∧ (-1 ≤ r5.toInt) ∧ (r5.toInt ≤ 99) := by (try rw [emfar_c8]); exact h6
      obtain ⟨h6_0, h6_1, h6_2⟩ := h6
      refine lv_goto (tgt := 25) hx hb dX10_away_20 (by decide) ?_
      exact W.iret (v := r5) hx hb hr (fun tq ht hW => ⟨⟨r5, (uS [mfar_c8] 0 (fun _ => 0)), rfl, (show spAwyM mdA mdB mdoo x y r5 from by (first | exact Or.inl ⟨by omega, rfl⟩ | exact Or.inr ⟨by omega, by assumption⟩)), by rw [ht]; exact hP, hD⟩, hS.F ht⟩) hS.2.2 dX10_away_25
    · refine lv_if_eq (tgt := 23) hx hb dX10_away_11 (by decide) (fun _ => ?_) (fun c9 => absurd (by decide) c9)
      refine lv_bipush (v := (-2)) hx hb dX10_away_23 (by decide) ?_
      exact W.iret (v := (-2)) hx hb hr (fun tq ht hW => ⟨⟨(-2), (uS [mfar] 0 (fun _ => 0)), rfl, (show spAwyM mdA mdB mdoo x y ((-2) : Int32) from by (try rw [show ((-2) : Int32).toInt = (-2) from (show ((-2) : Int32).toInt = (-2) from rfl)]); (first | exact Or.inl ⟨by omega, rfl⟩ | exact Or.inr ⟨by omega, by assumption⟩)), by rw [ht]; exact hP, hD⟩, hS.F ht⟩) hS.2.2 dX10_away_25
  · refine lv_if_eq (tgt := 23) hx hb dX10_away_4 (by decide) (fun _ => ?_) (fun c9 => absurd (by decide) c9)
    refine lv_bipush (v := (-2)) hx hb dX10_away_23 (by decide) ?_
    exact W.iret (v := (-2)) hx hb hr (fun tq ht hW => ⟨⟨(-2), (uS [mfar] 0 (fun _ => 0)), rfl, (show spAwyM mdA mdB mdoo x y ((-2) : Int32) from by (try rw [show ((-2) : Int32).toInt = (-2) from (show ((-2) : Int32).toInt = (-2) from rfl)]); (first | exact Or.inl ⟨by omega, rfl⟩ | exact Or.inr ⟨by omega, by assumption⟩)), by rw [ht]; exact hP, hD⟩, hS.F ht⟩) hS.2.2 dX10_away_25
end
section
set_option maxHeartbeats 4000000 in
set_option maxRecDepth 100000 in
theorem k_X9_asked2 (l : Launch) (dC : Nat → ClassId) (dI : Nat → Nat → Nat) (cI cZ cQ : ClassId) (a : Nat → Nat) (rb0 : Nat) (rb1 : Nat) (rb2 : Nat) (db0 : Nat) (db1 : Nat) (db2 : Nat) (top : Nat → Int32) (str : Nat → Int32) (gho : Nat → Int32) (ghs : Nat → Int32) (pto : Nat → Int32) (cro : Nat → Int32) (pla : Nat → Int32) (wal : Nat → Int32) (fal : Nat → Int32) (tel : Int32) (gai : Int32) (day : Int32) (mar : Nat → Int32) (few : Nat → Int32) (doo : Int32) (t : Int32) (ro : Int32) (r_top : rg 48 (-1) (23) top) (r_str : rg 48 (0) (100) str) (r_gho : rg 48 (-1) (23) gho) (r_ghs : rg 48 (0) (100) ghs) (r_cro : rg 48 (0) (6) cro) (r_pla : rg 24 (-1) (47) pla) (r_fal : rg 11 (0) (30) fal) (r_gai : 0 ≤ gai.toInt ∧ gai.toInt ≤ 100) (r_day : 0 ≤ day.toInt ∧ day.toInt ≤ 400) (r_mar : rg 24 (0) (255) mar) (q0 : plOK top pla) (q1 : mtOK few) : KR l yX9_asked wsX9_asked { frames := 2, cells := 0, slots := 0, locals := 42 } (dC, dI) (TY cI cZ cQ) (wsCW cI cZ cQ a rb0 rb1 rb2 db0 db1 db2 top str gho ghs pto cro pla wal fal tel gai day mar few doo) [.ref (a 43), .int t, .int ro] (fun r : Int32 => (spAskC few top t ro r)) := by
  refine Met.ofW (cc := cX9_asked) (maxL := 5) (ret := (some .int)) (by decide) rfl ?_
  intro p e s m args below meth c s₁ B hml hv
  obtain ⟨rfl, hP, hK, hN⟩ := hv
  have hx := B.exec
  have hb := B.bytes
  have hr := B.returns
  have hts := atoms_spec (ws := wsX9_asked) B.pre
  have hown : s.vm.findClass RX9 = some m.cls := findClass_of_methodNamed B.named
  have hlocks := B.notSynchronized
  have lf28 := hts (.fieldLink RX9 28 "PalaceOfRooms" "corners" "LPalaceOfRooms$Corners;") (List.mem_cons_of_mem _ (List.mem_append_left _ (List.mem_append_left _ (List.mem_append_left _ (List.mem_of_getElem? (i := 0) rfl)))))
  have inX9 : ∀ w ∈ wsX90, w ∈ wsX9_asked := fun w h => List.mem_cons_of_mem _ (List.mem_append_left _ (List.mem_append_left _ (List.mem_append_right _ h)))
  have lf128 := hN.use (w := .fieldLinkNest "PalaceOfRooms" 128 "PalaceOfRooms$Corners" "placeOf" "[I" "PalaceOfRooms") (List.mem_of_getElem? (i := 8) rfl) ([.ref (a 43), .int t, .int ro] : List Value).toArray
  have inX1 : ∀ w ∈ wsX10, w ∈ wsX9_asked := fun w h => List.mem_cons_of_mem _ (List.mem_append_left _ (List.mem_append_right _ h))
  have lf12 := hts (.fieldLink RX9 12 "PalaceOfRooms" "ways" "LPalaceOfRooms$Ways;") (List.mem_cons_of_mem _ (List.mem_append_left _ (List.mem_append_left _ (List.mem_append_left _ (List.mem_of_getElem? (i := 1) rfl)))))
  have hl := lv_entry ([.ref (a 43), .int t, .int ro]) (n := 5) (Nat.le_of_ble_eq_true rfl)
  rw [lg_entry_eq]
  generalize (lg_sl ([.ref (a 43), .int t, .int ro]) ++ List.replicate (5 - (lg_sl ([.ref (a 43), .int t, .int ro])).length) Slot.unset).toArray = ls at hl ⊢
  have hl : lv_has ls 5 [(0, .ref (a 43)), (1, .int t), (2, .int ro)] := hl
  refine lv_iload_n hx hb dX9_asked_0 rfl (lv_at hl 1 rfl) ?_
  refine rdS (As := [.int t]) (rest := []) ⟨hx, hb, hml, hown, hts⟩ (k_X9_isThing l dC dI cI cZ cQ t) (va_cwS 1 hts gX9_asked_X9_isThing rfl rfl rfl (by decide +kernel) ⟨Nat.le_of_ble_eq_true rfl, Nat.le_of_ble_eq_true rfl⟩) hP hK hN [] rfl rfl hl.1 rfl (Nat.le_of_ble_eq_true rfl) dX9_asked_1 ⟨Nat.le_of_ble_eq_true rfl, Nat.le_of_ble_eq_true rfl⟩ (fun r1 h2 => ?_)
  have h2 : ((((r1 = 1) ∧ (0 ≤ t.toInt) ∧ (t.toInt ≤ 23)) ∨ ((r1 = 0) ∧ (t.toInt < 0 ∨ 23 < t.toInt)))) := h2
  rcases h2 with (⟨rfl, h2_a0, h2_a1⟩ | ⟨rfl, h2_a0⟩)
  · refine lv_if_eq (tgt := 14) hx hb dX9_asked_4 (by decide) (fun c9 => absurd c9 (by decide)) (fun _ => ?_)
    refine lv_iload_n hx hb dX9_asked_7 rfl (lv_at hl 2 rfl) ?_
    refine rdS (As := [.int ro]) (rest := []) ⟨hx, hb, hml, hown, hts⟩ (k_X9_isRoom l dC dI cI cZ cQ ro) (va_cwS 1 hts gX9_asked_X9_isRoom rfl rfl rfl (by decide +kernel) ⟨Nat.le_of_ble_eq_true rfl, Nat.le_of_ble_eq_true rfl⟩) hP hK hN [] rfl rfl hl.1 rfl (Nat.le_of_ble_eq_true rfl) dX9_asked_8 ⟨Nat.le_of_ble_eq_true rfl, Nat.le_of_ble_eq_true rfl⟩ (fun r3 h4 => ?_)
    have h4 : ((((r3 = 1) ∧ (0 ≤ ro.toInt) ∧ (ro.toInt ≤ 7)) ∨ ((r3 = 0) ∧ (ro.toInt < 0 ∨ 7 < ro.toInt)))) := h4
    rcases h4 with (⟨rfl, h4_a0, h4_a1⟩ | ⟨rfl, h4_a0⟩)
    · refine lv_if_ne (tgt := 17) hx hb dX9_asked_11 (by decide) (fun _ => ?_) (fun c9 => absurd c9 (by decide))
      refine lv_aload_n hx hb dX9_asked_17 rfl (lv_at hl 0 rfl) ?_
      refine va_get (D := (dC, dI)) (ci := 9) (v := .ref (a 4)) (C := RX9) (T := TX9) (N := 11) hx hb hts inX9 hown hK hP 0 rfl rfl 2 (by decide) lf28 (fun _ h9 => h9) rfl dX9_asked_18 ?_
      refine va_getN (D := (dC, dI)) (ci := 1) (v := .ref (a 11)) (C := RX1) (T := TX1) (N := 13) hx hb hts inX1 hown hK hP 1 rfl rfl 7 (by decide) lf128 (fun _ h9 => h9) rfl dX9_asked_21 ?_
      refine lv_iload_n hx hb dX9_asked_24 rfl (lv_at hl 1 rfl) ?_
      have b5 : vp_in t 24 := inC rfl (by omega) (by omega)
      refine va_iald hx hb hK hP 8 0 rfl rfl b5 dX9_asked_25 ?_
      have g6 : -1 ≤ (pla t.toNatClampNeg).toInt ∧ (pla t.toNatClampNeg).toInt ≤ 47 := rg_at r_pla b5
      refine lv_topi (fun x7 ex7 => ?_)
      have ix7 : x7.toInt = (pla t.toNatClampNeg).toInt := by rw [ex7]
      refine lv_istore_n (lv' := [(3, .int x7), (0, .ref (a 43)), (1, .int t), (2, .int ro)]) hx hb dX9_asked_26 rfl hl (by decide) rfl (fun ls hl => ?_)
      refine lv_iload_n hx hb dX9_asked_27 rfl (lv_at hl 0 rfl) ?_
      refine lv_iconst (v := (-1)) hx hb dX9_asked_28 (by decide) ?_
      refine lv_icmp_ne (tgt := 34) hx hb dX9_asked_29 (by decide) (fun c8 => ?_) (fun c8 => ?_)
      · have dc8 : 0 ≤ x7.toInt := ka_lo (by omega) (neC rfl (show ((-1) : Int32).toInt = (-1) from rfl) c8)
        refine lv_aload_n hx hb dX9_asked_34 rfl (lv_at hl 1 rfl) ?_
        refine va_get (D := (dC, dI)) (ci := 9) (v := .ref (a 0)) (C := RX9) (T := TX9) (N := 11) hx hb hts inX9 hown hK hP 0 rfl rfl 0 (by decide) lf12 (fun _ h9 => h9) rfl dX9_asked_35 ?_
        refine lv_iload_n hx hb dX9_asked_38 rfl (lv_at hl 3 rfl) ?_
        refine lv_iload_n hx hb dX9_asked_39 rfl (lv_at hl 0 rfl) ?_
        refine lv_bipush (v := 6) hx hb dX9_asked_40 (by decide) ?_
        refine lv_idiv hx hb dX9_asked_42 (by decide) ?_
        have f9 : (x7 / 6).toInt = (x7.toInt) / (6) := divC rfl (show (6 : Int32).toInt = 6 from rfl) (by omega) (by omega)
        refine rdV (As := [.int ro, .int (x7 / 6)]) (rest := []) ⟨hx, hb, hml, hown, hts⟩ (k_X8_between3 l dC dI cI cZ cQ a few doo ro (x7 / 6) (by omega) (by omega) (by omega) (by omega) (by exact q1)) (cwV 2 hts gX9_asked_X8_between rfl rfl rfl (by decide +kernel) ⟨Nat.le_of_ble_eq_true rfl, Nat.le_of_ble_eq_true rfl⟩) hP hK hN [13, 14] rfl 13 8 rfl rfl rfl hl.1 rfl (Nat.le_of_ble_eq_true rfl) dX9_asked_43 ⟨Nat.le_of_ble_eq_true rfl, Nat.le_of_ble_eq_true rfl⟩ (fun r10 h11 => ?_)
        have h11 : (r10 = few (ro.toInt * 8 + (x7 / 6).toInt).toNat) ∧ (-1 ≤ r10.toInt) ∧ (r10.toInt ≤ 7) := h11
        obtain ⟨h11_0, h11_1, h11_2⟩ := h11
        refine lv_istore (lv' := [(4, .int r10), (3, .int x7), (0, .ref (a 43)), (1, .int t), (2, .int ro)]) hx hb dX9_asked_46 hl (by decide) rfl (fun ls hl => ?_)
        refine lv_iload hx hb dX9_asked_48 (lv_at hl 0 rfl) ?_
        refine lv_iconst (v := (-1)) hx hb dX9_asked_50 (by decide) ?_
        refine lv_icmp_ne (tgt := 58) hx hb dX9_asked_51 (by decide) (fun c12 => ?_) (fun c12 => ?_)
        · have dc12 : 0 ≤ r10.toInt := ka_lo (by omega) (neC rfl (show ((-1) : Int32).toInt = (-1) from rfl) c12)
          refine lv_iload hx hb dX9_asked_58 (lv_at hl 0 rfl) ?_
          refine lv_iload_n hx hb dX9_asked_60 rfl (lv_at hl 1 rfl) ?_
          refine lv_bipush (v := 6) hx hb dX9_asked_61 (by decide) ?_
          refine lv_irem hx hb dX9_asked_63 (by decide) ?_
          have f13 : (x7 - x7 / 6 * 6).toInt = (x7.toInt) % (6) := remC rfl (show (6 : Int32).toInt = 6 from rfl) (by omega) (by omega)
          refine lv_iadd hx hb dX9_asked_64 ?_
          have f14 : (r10 + (x7 - x7 / 6 * 6)).toInt = (r10.toInt) + ((x7.toInt) % (6)) := addC rfl f13 (by omega) (by omega)
          refine lv_iconst (v := 1) hx hb dX9_asked_65 (by decide) ?_
          refine lv_iadd hx hb dX9_asked_66 ?_
          have f15 : ((r10 + (x7 - x7 / 6 * 6)) + 1).toInt = ((r10.toInt) + ((x7.toInt) % (6))) + (1) := addC f14 (show (1 : Int32).toInt = 1 from rfl) (by omega) (by omega)
          exact W.iret (v := (r10 + (x7 - x7 / 6 * 6)) + 1) hx hb hr (fun tq ht hW => ⟨(r10 + (x7 - x7 / 6 * 6)) + 1, rfl, (show spAskC few top t ro ((r10 + (x7 - x7 / 6 * 6)) + 1) from by (try rw [show ((r10 + (x7 - x7 / 6 * 6)) + 1).toInt = ((r10.toInt) + ((x7.toInt) % (6))) + (1) from f15]); (first | exact Or.inl ⟨by omega, rfl⟩ | exact askC_n (by omega) (pl_ux q0 (by omega) (by omega) (by assumption)) (by assumption) | exact askC_no (by omega) (pl_ux q0 (by omega) (by omega) (by assumption)) (by omega) (by assumption) (by assumption) (by assumption) | exact askC_ok (by omega) (pl_ux q0 (by omega) (by omega) (by assumption)) (by omega) (by assumption) (by assumption) (by assumption) (by omega))), ht⟩) (fun q h => by cases h) dX9_asked_67
        · have dc12 : r10.toInt = (-1) := eqC rfl (show ((-1) : Int32).toInt = (-1) from rfl) c12
          refine lv_iconst (v := (-1)) hx hb dX9_asked_54 (by decide) ?_
          refine lv_goto (tgt := 67) hx hb dX9_asked_55 (by decide) ?_
          exact W.iret (v := (-1)) hx hb hr (fun tq ht hW => ⟨(-1), rfl, (show spAskC few top t ro ((-1) : Int32) from by (try rw [show ((-1) : Int32).toInt = (-1) from (show ((-1) : Int32).toInt = (-1) from rfl)]); (first | exact Or.inl ⟨by omega, rfl⟩ | exact askC_n (by omega) (pl_ux q0 (by omega) (by omega) (by assumption)) (by assumption) | exact askC_no (by omega) (pl_ux q0 (by omega) (by omega) (by assumption)) (by omega) (by assumption) (by assumption) (by assumption) | exact askC_ok (by omega) (pl_ux q0 (by omega) (by omega) (by assumption)) (by omega) (by assumption) (by assumption) (by assumption) (by omega))), ht⟩) (fun q h => by cases h) dX9_asked_67
      · have dc8 : x7.toInt = (-1) := eqC rfl (show ((-1) : Int32).toInt = (-1) from rfl) c8
        refine lv_iconst (v := (-1)) hx hb dX9_asked_32 (by decide) ?_
        exact W.iret (v := (-1)) hx hb hr (fun tq ht hW => ⟨(-1), rfl, (show spAskC few top t ro ((-1) : Int32) from by (try rw [show ((-1) : Int32).toInt = (-1) from (show ((-1) : Int32).toInt = (-1) from rfl)]); (first | exact Or.inl ⟨by omega, rfl⟩ | exact askC_n (by omega) (pl_ux q0 (by omega) (by omega) (by assumption)) (by assumption) | exact askC_no (by omega) (pl_ux q0 (by omega) (by omega) (by assumption)) (by omega) (by assumption) (by assumption) (by assumption) | exact askC_ok (by omega) (pl_ux q0 (by omega) (by omega) (by assumption)) (by omega) (by assumption) (by assumption) (by assumption) (by omega))), ht⟩) (fun q h => by cases h) dX9_asked_33
    · refine lv_if_ne (tgt := 17) hx hb dX9_asked_11 (by decide) (fun c9 => absurd (by decide) c9) (fun _ => ?_)
      refine lv_bipush (v := (-2)) hx hb dX9_asked_14 (by decide) ?_
      exact W.iret (v := (-2)) hx hb hr (fun tq ht hW => ⟨(-2), rfl, (show spAskC few top t ro ((-2) : Int32) from by (try rw [show ((-2) : Int32).toInt = (-2) from (show ((-2) : Int32).toInt = (-2) from rfl)]); (first | exact Or.inl ⟨by omega, rfl⟩ | exact askC_n (by omega) (pl_ux q0 (by omega) (by omega) (by assumption)) (by assumption) | exact askC_no (by omega) (pl_ux q0 (by omega) (by omega) (by assumption)) (by omega) (by assumption) (by assumption) (by assumption) | exact askC_ok (by omega) (pl_ux q0 (by omega) (by omega) (by assumption)) (by omega) (by assumption) (by assumption) (by assumption) (by omega))), ht⟩) (fun q h => by cases h) dX9_asked_16
  · refine lv_if_eq (tgt := 14) hx hb dX9_asked_4 (by decide) (fun _ => ?_) (fun c9 => absurd (by decide) c9)
    refine lv_bipush (v := (-2)) hx hb dX9_asked_14 (by decide) ?_
    exact W.iret (v := (-2)) hx hb hr (fun tq ht hW => ⟨(-2), rfl, (show spAskC few top t ro ((-2) : Int32) from by (try rw [show ((-2) : Int32).toInt = (-2) from (show ((-2) : Int32).toInt = (-2) from rfl)]); (first | exact Or.inl ⟨by omega, rfl⟩ | exact askC_n (by omega) (pl_ux q0 (by omega) (by omega) (by assumption)) (by assumption) | exact askC_no (by omega) (pl_ux q0 (by omega) (by omega) (by assumption)) (by omega) (by assumption) (by assumption) (by assumption) | exact askC_ok (by omega) (pl_ux q0 (by omega) (by omega) (by assumption)) (by omega) (by assumption) (by assumption) (by assumption) (by omega))), ht⟩) (fun q h => by cases h) dX9_asked_16
set_option maxHeartbeats 4000000 in
set_option maxRecDepth 100000 in
theorem k_X10_asked2 (l : Launch) (dC : Nat → ClassId) (dI : Nat → Nat → Nat) (cI cZ cQ : ClassId) (b : Nat → Nat) (mday : Int32) (mdoo : Int32) (mdA : Nat → Int32) (mdB : Nat → Int32) (mfar : Nat → Int32) (mmar : Nat → Int32) (mtel : Int32) (mgai : Int32) (mfal : Nat → Int32) (mtop : Nat → Int32) (mstr : Nat → Int32) (mgho : Nat → Int32) (mfai : Nat → Int32) (mpto : Nat → Int32) (mwal : Nat → Int32) (mahd : Nat → Int32) (mahf : Nat → Int32) (mcho : Nat → Int32) (mbes : Nat → Int32) (mbyt : Int32) (mtxt : Nat → Int32) (mpos : Int32) (mtka : Int32) (mtok : Int64) (mdig : Int32) (mnum : Int32) (mfau : Int32) (mrdm : Int32) (mrea : Nat → Int32) (mlin : Int32) (mlne : Nat → Int32) (mthg : Nat → Int32) (mord : Nat → Int32) (mbor : Nat → Int32) (mbsm : Int32) (mans : Nat → Int32) (mand : Nat → Int32) (manr : Nat → Int32) (mali : Nat → Int32) (sz : Nat) (t : Int32) (ro : Int32) (r_mday : 0 ≤ mday.toInt ∧ mday.toInt ≤ 400) (r_mdoo : 0 ≤ mdoo.toInt ∧ mdoo.toInt ≤ 14) (r_mdA : rg 14 (0) (7) mdA) (r_mdB : rg 14 (0) (7) mdB) (r_mmar : rg 24 (0) (255) mmar) (r_mgai : 0 ≤ mgai.toInt ∧ mgai.toInt ≤ 100) (r_mfal : rg 11 (0) (30) mfal) (r_mtop : rg 48 (-1) (23) mtop) (r_mstr : rg 48 (0) (100) mstr) (r_mgho : rg 48 (-1) (23) mgho) (r_mfai : rg 48 (0) (100) mfai) (r_mahd : rg 240 (0) (100) mahd) (r_mahf : rg 240 (0) (100) mahf) (r_mcho : rg 5 (-1) (9) mcho) (r_mbyt : 0 ≤ mbyt.toInt ∧ mbyt.toInt ≤ 160) (r_mpos : 0 ≤ mpos.toInt ∧ mpos.toInt ≤ 160) (r_mrdm : 0 ≤ mrdm.toInt ∧ mrdm.toInt ≤ 10) (r_mlin : 0 ≤ mlin.toInt ∧ mlin.toInt ≤ 10) (r_mthg : rg 8 (0) (31) mthg) (r_mord : rg 8 (-1) (8) mord) (r_mans : rg 4 (0) (12) mans) : KW l yX10_asked wsX10_asked { frames := 2, cells := 0, slots := 0, locals := 42 } (dC, dI) (TY cI cZ cQ) (wMod cI cZ cQ b mday mdoo mdA mdB mfar mmar mtel mgai mfal mtop mstr mgho mfai mpto mwal mahd mahf mcho mbes mbyt mtxt mpos mtka mtok mdig mnum mfau mrdm mrea mlin mlne mthg mord mbor mbsm mans mand manr mali) [.ref (b 39), .int t, .int ro] sz 0 0 (fun (r : Int32) (u : US) => (spAskM mdA mdB mdoo mtop t ro r)) (fun u : US => (wMod cI cZ cQ b mday mdoo mdA mdB (u.1 0) mmar mtel mgai mfal mtop mstr mgho mfai mpto mwal mahd mahf mcho mbes mbyt mtxt mpos mtka mtok mdig mnum mfau mrdm mrea mlin mlne mthg mord mbor mbsm mans mand manr mali)) := by
  refine Met.ofW (cc := cX10_asked) (maxL := 5) (ret := (some .int)) (by decide) rfl ?_
  intro p e s m args below meth c s₁ B hml hv
  obtain ⟨rfl, hsz, hP, hK, hD0, hN⟩ := hv
  have hx := B.exec
  have hb := B.bytes
  have hr := B.returns
  have hts := atoms_spec (ws := wsX10_asked) B.pre
  have hown : s.vm.findClass RX10 = some m.cls := findClass_of_methodNamed B.named
  have hlocks := B.notSynchronized
  subst hsz
  have hD := hD0.self (sz := s.heap.size)
  generalize hAe : va_A (wMod cI cZ cQ b mday mdoo mdA mdB mfar mmar mtel mgai mfal mtop mstr mgho mfai mpto mwal mahd mahf mcho mbes mbyt mtxt mpos mtka mtok mdig mnum mfau mrdm mrea mlin mlne mthg mord mbor mbsm mans mand manr mali) s.heap.size = A at hD ⊢
  have hA : ∀ q : Nat, s.heap.size ≤ q → A q := fun q h => by rw [← hAe]; exact Or.inr h
  have hS : va_S A s.heap s.heap [] := va_S.rf
  have hl := lv_entry ([.ref (b 39), .int t, .int ro]) (n := 5) (Nat.le_of_ble_eq_true rfl)
  rw [lg_entry_eq]
  generalize (lg_sl ([.ref (b 39), .int t, .int ro]) ++ List.replicate (5 - (lg_sl ([.ref (b 39), .int t, .int ro])).length) Slot.unset).toArray = ls at hl ⊢
  have hl : lv_has ls 5 [(0, .ref (b 39)), (1, .int t), (2, .int ro)] := hl
  refine lv_iload_n hx hb dX10_asked_0 rfl (lv_at hl 1 rfl) ?_
  refine rdS (As := [.int t]) (rest := []) ⟨hx, hb, hml, hown, hts⟩ (k_X10_isThing l dC dI cI cZ cQ t) (va_cwS 1 hts gX10_asked_X10_isThing rfl rfl rfl (by decide +kernel) ⟨Nat.le_of_ble_eq_true rfl, Nat.le_of_ble_eq_true rfl⟩) hP hK hN [] rfl rfl hl.1 rfl (Nat.le_of_ble_eq_true rfl) dX10_asked_1 ⟨Nat.le_of_ble_eq_true rfl, Nat.le_of_ble_eq_true rfl⟩ (fun r1 h2 => ?_)
  have h2 : ((((r1 = 1) ∧ (0 ≤ t.toInt) ∧ (t.toInt ≤ 23)) ∨ ((r1 = 0) ∧ (t.toInt < 0 ∨ 23 < t.toInt)))) := h2
  rcases h2 with (⟨rfl, h2_a0, h2_a1⟩ | ⟨rfl, h2_a0⟩)
  · refine lv_if_eq (tgt := 14) hx hb dX10_asked_4 (by decide) (fun c9 => absurd c9 (by decide)) (fun _ => ?_)
    refine lv_iload_n hx hb dX10_asked_7 rfl (lv_at hl 2 rfl) ?_
    refine rdS (As := [.int ro]) (rest := []) ⟨hx, hb, hml, hown, hts⟩ (k_X10_isRoom l dC dI cI cZ cQ ro) (va_cwS 1 hts gX10_asked_X10_isRoom rfl rfl rfl (by decide +kernel) ⟨Nat.le_of_ble_eq_true rfl, Nat.le_of_ble_eq_true rfl⟩) hP hK hN [] rfl rfl hl.1 rfl (Nat.le_of_ble_eq_true rfl) dX10_asked_8 ⟨Nat.le_of_ble_eq_true rfl, Nat.le_of_ble_eq_true rfl⟩ (fun r3 h4 => ?_)
    have h4 : ((((r3 = 1) ∧ (0 ≤ ro.toInt) ∧ (ro.toInt ≤ 7)) ∨ ((r3 = 0) ∧ (ro.toInt < 0 ∨ 7 < ro.toInt)))) := h4
    rcases h4 with (⟨rfl, h4_a0, h4_a1⟩ | ⟨rfl, h4_a0⟩)
    · refine lv_if_ne (tgt := 17) hx hb dX10_asked_11 (by decide) (fun _ => ?_) (fun c9 => absurd c9 (by decide))
      refine lv_aload_n hx hb dX10_asked_17 rfl (lv_at hl 0 rfl) ?_
      refine lv_iload_n hx hb dX10_asked_18 rfl (lv_at hl 1 rfl) ?_
      refine rdV (As := [.int t]) (rest := []) ⟨hx, hb, hml, hown, hts⟩ (k_X10_cornerOf2 l dC dI cI cZ cQ b mday mdoo mdA mdB mfar mmar mtel mgai mfal mtop mstr mgho mfai mpto mwal mahd mahf mcho mbes mbyt mtxt mpos mtka mtok mdig mnum mfau mrdm mrea mlin mlne mthg mord mbor mbsm mans mand manr mali t r_mday r_mdoo r_mdA r_mdB r_mmar r_mgai r_mfal r_mtop r_mstr r_mgho r_mfai r_mahd r_mahf r_mcho r_mbyt r_mpos r_mrdm r_mlin r_mthg r_mord r_mans) (cwV 1 hts gX10_asked_X10_cornerOf rfl rfl rfl (by decide +kernel) ⟨Nat.le_of_ble_eq_true rfl, Nat.le_of_ble_eq_true rfl⟩) hP hK hN [0, 1, 2, 3, 4, 5, 6, 7, 8, 9, 10, 11, 12, 13, 14, 15, 16, 17, 18, 19, 20, 21, 22, 23, 24, 25] rfl 0 10 rfl rfl rfl hl.1 rfl (Nat.le_of_ble_eq_true rfl) dX10_asked_19 ⟨Nat.le_of_ble_eq_true rfl, Nat.le_of_ble_eq_true rfl⟩ (fun r5 h6 => ?_)
      have h6 : (-1 ≤ r5.toInt) ∧ (r5.toInt ≤ 47) ∧ (whr mtop t r5) := h6
      obtain ⟨h6_0, h6_1, h6_2⟩ := h6
      refine lv_istore_n (lv' := [(3, .int r5), (0, .ref (b 39)), (1, .int t), (2, .int ro)]) hx hb dX10_asked_22 rfl hl (by decide) rfl (fun ls hl => ?_)
      refine lv_iload_n hx hb dX10_asked_23 rfl (lv_at hl 0 rfl) ?_
      refine lv_iconst (v := (-1)) hx hb dX10_asked_24 (by decide) ?_
      refine lv_icmp_ne (tgt := 32) hx hb dX10_asked_25 (by decide) (fun c7 => ?_) (fun c7 => ?_)
      · have dc7 : 0 ≤ r5.toInt := ka_lo (by omega) (neC rfl (show ((-1) : Int32).toInt = (-1) from rfl) c7)
        refine lv_aload_n hx hb dX10_asked_32 rfl (lv_at hl 1 rfl) ?_
        refine lv_iload_n hx hb dX10_asked_33 rfl (lv_at hl 3 rfl) ?_
        refine lv_iload_n hx hb dX10_asked_34 rfl (lv_at hl 0 rfl) ?_
        refine lv_bipush (v := 6) hx hb dX10_asked_35 (by decide) ?_
        refine lv_idiv hx hb dX10_asked_37 (by decide) ?_
        have f8 : (r5 / 6).toInt = (r5.toInt) / (6) := divC rfl (show (6 : Int32).toInt = 6 from rfl) (by omega) (by omega)
        refine wrV (As := [.int ro, .int (r5 / 6)]) (rest := []) (wr := []) (w2 := (fun u : US => (wMod cI cZ cQ b mday mdoo mdA mdB (u.1 0) mmar mtel mgai mfal mtop mstr mgho mfai mpto mwal mahd mahf mcho mbes mbyt mtxt mpos mtka mtok mdig mnum mfau mrdm mrea mlin mlne mthg mord mbor mbsm mans mand manr mali))) ⟨hx, hb, hml, hown, hts⟩ (k_X10_doorsTo2 l dC dI cI cZ cQ b mday mdoo mdA mdB mfar mmar mtel mgai mfal mtop mstr mgho mfai mpto mwal mahd mahf mcho mbes mbyt mtxt mpos mtka mtok mdig mnum mfau mrdm mrea mlin mlne mthg mord mbor mbsm mans mand manr mali _ ro (r5 / 6) r_mday r_mdoo r_mdA r_mdB r_mmar r_mgai r_mfal r_mtop r_mstr r_mgho r_mfai r_mahd r_mahf r_mcho r_mbyt r_mpos r_mrdm r_mlin r_mthg r_mord r_mans (by omega) (by omega) (by omega) (by omega)) (cwV 2 hts gX10_asked_X10_doorsTo rfl rfl rfl (by decide +kernel) ⟨Nat.le_of_ble_eq_true rfl, Nat.le_of_ble_eq_true rfl⟩) hP hD hS hA hK hN [0, 1, 2, 3, 4, 5, 6, 7, 8, 9, 10, 11, 12, 13, 14, 15, 16, 17, 18, 19, 20, 21, 22, 23, 24, 25] [] [0, 1, 2, 3, 4, 5, 6, 7, 8, 9, 10, 11, 12, 13, 14, 15, 16, 17, 18, 19, 20, 21, 22, 23, 24, 25] rfl rfl (by decide) (by decide) (by decide) (fun _ => rfl) (by decide) 0 10 rfl rfl rfl hl.1 rfl (Nat.le_of_ble_eq_true rfl) dX10_asked_38 ⟨Nat.le_of_ble_eq_true rfl, Nat.le_of_ble_eq_true rfl⟩ (fun r9 u11 H locs h10 hP hD hS => ?_)
        obtain ⟨mfar_c12, emfar_c12⟩ : ∃ f : Nat → Int32, f = (u11.1 0) := ⟨_, rfl⟩
        have hP : va_P (dC, dI) vwCl (wMod cI cZ cQ b mday mdoo mdA mdB mfar_c12 mmar mtel mgai mfal mtop mstr mgho mfai mpto mwal mahd mahf mcho mbes mbyt mtxt mpos mtka mtok mdig mnum mfau mrdm mrea mlin mlne mthg mord mbor mbsm mans mand manr mali) H := by rw [emfar_c12]; exact hP
        have hD : va_D A (wMod cI cZ cQ b mday mdoo mdA mdB mfar_c12 mmar mtel mgai mfal mtop mstr mgho mfai mpto mwal mahd mahf mcho mbes mbyt mtxt mpos mtka mtok mdig mnum mfau mrdm mrea mlin mlne mthg mord mbor mbsm mans mand manr mali) := by rw [emfar_c12]; exact hD
        have h10 : (dsR mdA mdB mdoo.toInt ro (r5 / 6) r9) ∧ (-1 ≤ r9.toInt) ∧ (r9.toInt ≤ 99) := by (try rw [emfar_c12]); exact h10
        obtain ⟨h10_0, h10_1, h10_2⟩ := h10
        refine lv_istore (lv' := [(4, .int r9), (3, .int r5), (0, .ref (b 39)), (1, .int t), (2, .int ro)]) hx hb dX10_asked_41 hl (by decide) rfl (fun ls hl => ?_)
        refine lv_iload hx hb dX10_asked_43 (lv_at hl 0 rfl) ?_
        refine lv_iconst (v := (-1)) hx hb dX10_asked_45 (by decide) ?_
        refine lv_icmp_ne (tgt := 53) hx hb dX10_asked_46 (by decide) (fun c13 => ?_) (fun c13 => ?_)
        · have dc13 : 0 ≤ r9.toInt := ka_lo (by omega) (neC rfl (show ((-1) : Int32).toInt = (-1) from rfl) c13)
          refine lv_iload hx hb dX10_asked_53 (lv_at hl 0 rfl) ?_
          refine lv_iload_n hx hb dX10_asked_55 rfl (lv_at hl 1 rfl) ?_
          refine lv_bipush (v := 6) hx hb dX10_asked_56 (by decide) ?_
          refine lv_irem hx hb dX10_asked_58 (by decide) ?_
          have f14 : (r5 - r5 / 6 * 6).toInt = (r5.toInt) % (6) := remC rfl (show (6 : Int32).toInt = 6 from rfl) (by omega) (by omega)
          refine lv_iadd hx hb dX10_asked_59 ?_
          have f15 : (r9 + (r5 - r5 / 6 * 6)).toInt = (r9.toInt) + ((r5.toInt) % (6)) := addC rfl f14 (by omega) (by omega)
          refine lv_iconst (v := 1) hx hb dX10_asked_60 (by decide) ?_
          refine lv_iadd hx hb dX10_asked_61 ?_
          have f16 : ((r9 + (r5 - r5 / 6 * 6)) + 1).toInt = ((r9.toInt) + ((r5.toInt) % (6))) + (1) := addC f15 (show (1 : Int32).toInt = 1 from rfl) (by omega) (by omega)
          exact W.iret (v := (r9 + (r5 - r5 / 6 * 6)) + 1) hx hb hr (fun tq ht hW => ⟨⟨(r9 + (r5 - r5 / 6 * 6)) + 1, (uS [mfar_c12] 0 (fun _ => 0)), rfl, (show spAskM mdA mdB mdoo mtop t ro ((r9 + (r5 - r5 / 6 * 6)) + 1) from by (try rw [show ((r9 + (r5 - r5 / 6 * 6)) + 1).toInt = ((r9.toInt) + ((r5.toInt) % (6))) + (1) from f16]); (first | exact Or.inl ⟨by omega, rfl⟩ | exact askM_n (by omega) (by assumption) (by assumption) | exact askM_no (by omega) (by assumption) (by omega) (by assumption) (by assumption) (by assumption) | exact askM_ok (by omega) (by assumption) (by omega) (by assumption) (by assumption) (by assumption) (by omega))), by rw [ht]; exact hP, hD⟩, hS.F ht⟩) hS.2.2 dX10_asked_62
        · have dc13 : r9.toInt = (-1) := eqC rfl (show ((-1) : Int32).toInt = (-1) from rfl) c13
          refine lv_iconst (v := (-1)) hx hb dX10_asked_49 (by decide) ?_
          refine lv_goto (tgt := 62) hx hb dX10_asked_50 (by decide) ?_
          exact W.iret (v := (-1)) hx hb hr (fun tq ht hW => ⟨⟨(-1), (uS [mfar_c12] 0 (fun _ => 0)), rfl, (show spAskM mdA mdB mdoo mtop t ro ((-1) : Int32) from by (try rw [show ((-1) : Int32).toInt = (-1) from (show ((-1) : Int32).toInt = (-1) from rfl)]); (first | exact Or.inl ⟨by omega, rfl⟩ | exact askM_n (by omega) (by assumption) (by assumption) | exact askM_no (by omega) (by assumption) (by omega) (by assumption) (by assumption) (by assumption) | exact askM_ok (by omega) (by assumption) (by omega) (by assumption) (by assumption) (by assumption) (by omega))), by rw [ht]; exact hP, hD⟩, hS.F ht⟩) hS.2.2 dX10_asked_62
      · have dc7 : r5.toInt = (-1) := eqC rfl (show ((-1) : Int32).toInt = (-1) from rfl) c7
        refine lv_iconst (v := (-1)) hx hb dX10_asked_28 (by decide) ?_
        refine lv_goto (tgt := 41) hx hb dX10_asked_29 (by decide) ?_
        refine lv_istore (lv' := [(4, .int (-1)), (3, .int r5), (0, .ref (b 39)), (1, .int t), (2, .int ro)]) hx hb dX10_asked_41 hl (by decide) rfl (fun ls hl => ?_)
        refine lv_iload hx hb dX10_asked_43 (lv_at hl 0 rfl) ?_
        refine lv_iconst (v := (-1)) hx hb dX10_asked_45 (by decide) ?_
        refine lv_icmp_ne (tgt := 53) hx hb dX10_asked_46 (by decide) (fun c9 => absurd (by decide) c9) (fun _ => ?_)
        refine lv_iconst (v := (-1)) hx hb dX10_asked_49 (by decide) ?_
        refine lv_goto (tgt := 62) hx hb dX10_asked_50 (by decide) ?_
        exact W.iret (v := (-1)) hx hb hr (fun tq ht hW => ⟨⟨(-1), (uS [mfar] 0 (fun _ => 0)), rfl, (show spAskM mdA mdB mdoo mtop t ro ((-1) : Int32) from by (try rw [show ((-1) : Int32).toInt = (-1) from (show ((-1) : Int32).toInt = (-1) from rfl)]); (first | exact Or.inl ⟨by omega, rfl⟩ | exact askM_n (by omega) (by assumption) (by assumption) | exact askM_no (by omega) (by assumption) (by omega) (by assumption) (by assumption) (by assumption) | exact askM_ok (by omega) (by assumption) (by omega) (by assumption) (by assumption) (by assumption) (by omega))), by rw [ht]; exact hP, hD⟩, hS.F ht⟩) hS.2.2 dX10_asked_62
    · refine lv_if_ne (tgt := 17) hx hb dX10_asked_11 (by decide) (fun c9 => absurd (by decide) c9) (fun _ => ?_)
      refine lv_bipush (v := (-2)) hx hb dX10_asked_14 (by decide) ?_
      exact W.iret (v := (-2)) hx hb hr (fun tq ht hW => ⟨⟨(-2), (uS [mfar] 0 (fun _ => 0)), rfl, (show spAskM mdA mdB mdoo mtop t ro ((-2) : Int32) from by (try rw [show ((-2) : Int32).toInt = (-2) from (show ((-2) : Int32).toInt = (-2) from rfl)]); (first | exact Or.inl ⟨by omega, rfl⟩ | exact askM_n (by omega) (by assumption) (by assumption) | exact askM_no (by omega) (by assumption) (by omega) (by assumption) (by assumption) (by assumption) | exact askM_ok (by omega) (by assumption) (by omega) (by assumption) (by assumption) (by assumption) (by omega))), by rw [ht]; exact hP, hD⟩, hS.F ht⟩) hS.2.2 dX10_asked_16
  · refine lv_if_eq (tgt := 14) hx hb dX10_asked_4 (by decide) (fun _ => ?_) (fun c9 => absurd (by decide) c9)
    refine lv_bipush (v := (-2)) hx hb dX10_asked_14 (by decide) ?_
    exact W.iret (v := (-2)) hx hb hr (fun tq ht hW => ⟨⟨(-2), (uS [mfar] 0 (fun _ => 0)), rfl, (show spAskM mdA mdB mdoo mtop t ro ((-2) : Int32) from by (try rw [show ((-2) : Int32).toInt = (-2) from (show ((-2) : Int32).toInt = (-2) from rfl)]); (first | exact Or.inl ⟨by omega, rfl⟩ | exact askM_n (by omega) (by assumption) (by assumption) | exact askM_no (by omega) (by assumption) (by omega) (by assumption) (by assumption) (by assumption) | exact askM_ok (by omega) (by assumption) (by omega) (by assumption) (by assumption) (by assumption) (by omega))), by rw [ht]; exact hP, hD⟩, hS.F ht⟩) hS.2.2 dX10_asked_16
set_option maxHeartbeats 4000000 in
set_option maxRecDepth 100000 in
theorem k_X1_standingIn2 (l : Launch) (dC : Nat → ClassId) (dI : Nat → Nat → Nat) (cI cZ cQ : ClassId) (a : Nat → Nat) (top : Nat → Int32) (str : Nat → Int32) (gho : Nat → Int32) (ghs : Nat → Int32) (pto : Nat → Int32) (cro : Nat → Int32) (pla : Nat → Int32) (wal : Nat → Int32) (fal : Nat → Int32) (tel : Int32) (gai : Int32) (day : Int32) (mar : Nat → Int32) (ro : Int32) (r_top : rg 48 (-1) (23) top) (r_str : rg 48 (0) (100) str) (r_gho : rg 48 (-1) (23) gho) (r_ghs : rg 48 (0) (100) ghs) (r_cro : rg 48 (0) (6) cro) (r_pla : rg 24 (-1) (47) pla) (r_fal : rg 11 (0) (30) fal) (r_gai : 0 ≤ gai.toInt ∧ gai.toInt ≤ 100) (r_day : 0 ≤ day.toInt ∧ day.toInt ≤ 400) (r_mar : rg 24 (0) (255) mar) (q0 : 0 ≤ ro.toInt) (q1 : ro.toInt ≤ 7) : KR l yX1_standingIn wsX1_standingIn { frames := 0, cells := 0, slots := 0, locals := 0 } (dC, dI) (TY cI cZ cQ) (wCor cI cZ cQ a top str gho ghs pto cro pla wal fal tel gai day mar) [.ref (a 4), .int ro] (fun r : Int32 => (0 ≤ r.toInt) ∧ (r.toInt ≤ 6) ∧ (r.toInt = stF top (ro.toInt * 6).toNat 6)) := by
  refine Met.ofW (cc := cX1_standingIn) (maxL := 5) (ret := (some .int)) (by decide) rfl ?_
  intro p e s m args below meth c s₁ B hml hv
  obtain ⟨rfl, hP, hK, hN⟩ := hv
  have hx := B.exec
  have hb := B.bytes
  have hr := B.returns
  have hts := atoms_spec (ws := wsX1_standingIn) B.pre
  have hown : s.vm.findClass RX1 = some m.cls := findClass_of_methodNamed B.named
  have hlocks := B.notSynchronized
  have lf9 := hts (.fieldLink RX1 9 "PalaceOfRooms$Corners" "top" "[I") (List.mem_cons_of_mem _ (List.mem_append_left _ (List.mem_of_getElem? (i := 0) rfl)))
  have inX1 : ∀ w ∈ wsX10, w ∈ wsX1_standingIn := fun w h => List.mem_cons_of_mem _ (List.mem_append_right _ h)
  have hl := lv_entry ([.ref (a 4), .int ro]) (n := 5) (Nat.le_of_ble_eq_true rfl)
  rw [lg_entry_eq]
  generalize (lg_sl ([.ref (a 4), .int ro]) ++ List.replicate (5 - (lg_sl ([.ref (a 4), .int ro])).length) Slot.unset).toArray = ls at hl ⊢
  have hl : lv_has ls 5 [(0, .ref (a 4)), (1, .int ro)] := hl
  refine lv_iconst (v := 0) hx hb dX1_standingIn_0 (by decide) ?_
  refine lv_istore_n (lv' := [(2, .int 0), (0, .ref (a 4)), (1, .int ro)]) hx hb dX1_standingIn_1 rfl hl (by decide) rfl (fun ls hl => ?_)
  refine lv_iload_n hx hb dX1_standingIn_2 rfl (lv_at hl 2 rfl) ?_
  refine lv_bipush (v := 6) hx hb dX1_standingIn_3 (by decide) ?_
  refine lv_imul hx hb dX1_standingIn_5 ?_
  have f1 : (ro * 6).toInt = (ro.toInt) * (6) := mulC rfl (show (6 : Int32).toInt = 6 from rfl) (by omega) (by omega)
  refine lv_topi (fun x2 ex2 => ?_)
  have ix2 : x2.toInt = (ro.toInt) * (6) := by rw [ex2]; exact f1
  refine lv_istore_n (lv' := [(3, .int x2), (2, .int 0), (0, .ref (a 4)), (1, .int ro)]) hx hb dX1_standingIn_6 rfl hl (by decide) rfl (fun ls hl => ?_)
  refine lv_iload_n hx hb dX1_standingIn_7 rfl (lv_at hl 0 rfl) ?_
  refine lv_istore (lv' := [(4, .int x2), (3, .int x2), (2, .int 0), (0, .ref (a 4)), (1, .int ro)]) hx hb dX1_standingIn_8 hl (by decide) rfl (fun ls hl => ?_)
  have L10 : ∀ (nn : Nat) (y10_2 : Int32) (y10_4 : Int32) (ls : Array Slot), (0 ≤ (y10_4.toInt)) → ((y10_4.toInt) ≤ 48) → ((x2.toInt) ≤ (y10_4.toInt)) → ((y10_4.toInt) ≤ (x2.toInt) + 6) → (0 ≤ (y10_2.toInt)) → ((y10_2.toInt) ≤ 6) → ((y10_2.toInt) ≤ (y10_4.toInt) - (x2.toInt)) → ((y10_2.toInt) = stF top ((x2.toInt)).toNat ((y10_4.toInt) - (x2.toInt)).toNat) → (48 - (y10_4.toInt)).toNat < nn → lv_has ls 5 [(0, .ref (a 4)), (2, .int y10_2), (3, .int x2), (4, .int y10_4)] → W p l e (headSpec wsX1_standingIn { frames := 0, cells := 0, slots := 0, locals := 0 }).room s m ([.ref (a 4), .int ro] : List Value).toArray below meth c s.heap [] 0 0 (MQ below (QR (fun r : Int32 => (0 ≤ r.toInt) ∧ (r.toInt ≤ 6) ∧ (r.toInt = stF top (ro.toInt * 6).toNat 6))) ([.ref (a 4), .int ro] : List Value).toArray s 0 0 (fun _ => False)) (F0 m 10 ls []) := by
    intro nn
    induction nn with
    | zero =>
      intro y10_2 y10_4 ls i10_0 i10_1 i10_2 i10_3 i10_4 i10_5 i10_6 i10_7 hm10
      exact absurd hm10 (Nat.not_lt_zero _)
    | succ nn ih10 =>
      intro y10_2 y10_4 ls i10_0 i10_1 i10_2 i10_3 i10_4 i10_5 i10_6 i10_7 hm10 hl
      refine lv_iload hx hb dX1_standingIn_10 (lv_at hl 3 rfl) ?_
      refine lv_iload_n hx hb dX1_standingIn_12 rfl (lv_at hl 2 rfl) ?_
      refine lv_bipush (v := 6) hx hb dX1_standingIn_13 (by decide) ?_
      refine lv_iadd hx hb dX1_standingIn_15 ?_
      have f3 : (x2 + 6).toInt = (x2.toInt) + (6) := addC rfl (show (6 : Int32).toInt = 6 from rfl) (by omega) (by omega)
      refine lv_icmp_ge (tgt := 39) hx hb dX1_standingIn_16 (by decide) (fun c4 => ?_) (fun c4 => ?_)
      · have dc4 : (x2.toInt) + (6) ≤ y10_4.toInt := leC f3 rfl c4
        refine lv_iload_n hx hb dX1_standingIn_39 rfl (lv_at hl 1 rfl) ?_
        exact W.iret (v := y10_2) hx hb hr (fun tq ht hW => ⟨y10_2, rfl, ⟨(show 0 ≤ y10_2.toInt from by omega), (show y10_2.toInt ≤ 6 from by omega), (show y10_2.toInt = stF top (ro.toInt * 6).toNat 6 from by exact st_end i10_7 (by omega) (by omega))⟩, ht⟩) (fun q h => by cases h) dX1_standingIn_40
      · have dc4 : y10_4.toInt < (x2.toInt) + (6) := nleC f3 rfl c4
        refine lv_aload_n hx hb dX1_standingIn_19 rfl (lv_at hl 0 rfl) ?_
        refine va_get (D := (dC, dI)) (ci := 1) (v := .ref (a 5)) (C := RX1) (T := TX1) (N := 13) hx hb hts inX1 hown hK hP 0 rfl rfl 1 (by decide) lf9 (fun _ h9 => h9) rfl dX1_standingIn_20 ?_
        refine lv_iload hx hb dX1_standingIn_23 (lv_at hl 3 rfl) ?_
        have b5 : vp_in y10_4 48 := inC rfl (by omega) (by omega)
        refine va_iald hx hb hK hP 1 0 rfl rfl b5 dX1_standingIn_25 ?_
        have g6 : -1 ≤ (top y10_4.toNatClampNeg).toInt ∧ (top y10_4.toNatClampNeg).toInt ≤ 23 := rg_at r_top b5
        refine lv_iconst (v := (-1)) hx hb dX1_standingIn_26 (by decide) ?_
        refine lv_icmp_eq (tgt := 33) hx hb dX1_standingIn_27 (by decide) (fun c7 => ?_) (fun c7 => ?_)
        · have dc7 : (top y10_4.toNatClampNeg).toInt = (-1) := eqC rfl (show ((-1) : Int32).toInt = (-1) from rfl) c7
          obtain ⟨z8, ez8⟩ : ∃ y : Int32, y = y10_4 + 1 := ⟨_, rfl⟩
          have iz8 : z8.toInt = y10_4.toInt + 1 := by rw [ez8]; exact addC rfl rfl (by omega) (by omega)
          refine lv_iinc (v := z8) (lv' := [(4, .int z8), (0, .ref (a 4)), (2, .int y10_2), (3, .int x2)]) hx hb dX1_standingIn_33 hl (k := 3) rfl (by rw [ez8]; rfl) (by decide) rfl (fun ls hl => ?_)
          refine lv_goto (tgt := 10) hx hb dX1_standingIn_36 (by decide) ?_
          exact ih10 y10_2 z8 _ (by omega) (by omega) (by omega) (by omega) (by omega) (by omega) (by omega) (by (first | exact st_step (o := y10_4) i10_7 (by rw [clC (x := y10_4) rfl]; omega) (by first | exact Or.inl ⟨by assumption, by first | rfl | omega⟩ | exact Or.inr ⟨by assumption, by omega⟩) (by omega) | exact st_init (by first | rfl | omega) (by omega))) (by omega) (lv_sub hl [1, 2, 3, 0] rfl)
        · have dc7 : 0 ≤ (top y10_4.toNatClampNeg).toInt := ka_lo (by omega) (neC rfl (show ((-1) : Int32).toInt = (-1) from rfl) c7)
          obtain ⟨z9, ez9⟩ : ∃ y : Int32, y = y10_2 + 1 := ⟨_, rfl⟩
          have iz9 : z9.toInt = y10_2.toInt + 1 := by rw [ez9]; exact addC rfl rfl (by omega) (by omega)
          refine lv_iinc (v := z9) (lv' := [(2, .int z9), (0, .ref (a 4)), (3, .int x2), (4, .int y10_4)]) hx hb dX1_standingIn_30 hl (k := 1) rfl (by rw [ez9]; rfl) (by decide) rfl (fun ls hl => ?_)
          obtain ⟨z10, ez10⟩ : ∃ y : Int32, y = y10_4 + 1 := ⟨_, rfl⟩
          have iz10 : z10.toInt = y10_4.toInt + 1 := by rw [ez10]; exact addC rfl rfl (by omega) (by omega)
          refine lv_iinc (v := z10) (lv' := [(4, .int z10), (2, .int z9), (0, .ref (a 4)), (3, .int x2)]) hx hb dX1_standingIn_33 hl (k := 3) rfl (by rw [ez10]; rfl) (by decide) rfl (fun ls hl => ?_)
          refine lv_goto (tgt := 10) hx hb dX1_standingIn_36 (by decide) ?_
          exact ih10 z9 z10 _ (by omega) (by omega) (by omega) (by omega) (by omega) (by omega) (by omega) (by (first | exact st_step (o := y10_4) i10_7 (by rw [clC (x := y10_4) rfl]; omega) (by first | exact Or.inl ⟨by assumption, by first | rfl | omega⟩ | exact Or.inr ⟨by assumption, by omega⟩) (by omega) | exact st_init (by first | rfl | omega) (by omega))) (by omega) (lv_sub hl [2, 1, 3, 0] rfl)
  have kc11 : (0 : Int32).toInt = 0 := rfl
  exact L10 _ 0 x2 _ (by omega) (by omega) (by omega) (by omega) (by omega) (by omega) (by omega) (by (first | exact st_init (by first | rfl | omega) (by omega) | exact st_step (o := y10_4) i10_7 (by rw [clC (x := y10_4) rfl]; omega) (by first | exact Or.inl ⟨by assumption, by first | rfl | omega⟩ | exact Or.inr ⟨by assumption, by omega⟩) (by omega))) (Nat.lt_succ_self _) (lv_sub hl [3, 2, 1, 0] rfl)
set_option maxHeartbeats 4000000 in
set_option maxRecDepth 100000 in
theorem k_X10_standIn2 (l : Launch) (dC : Nat → ClassId) (dI : Nat → Nat → Nat) (cI cZ cQ : ClassId) (b : Nat → Nat) (mday : Int32) (mdoo : Int32) (mdA : Nat → Int32) (mdB : Nat → Int32) (mfar : Nat → Int32) (mmar : Nat → Int32) (mtel : Int32) (mgai : Int32) (mfal : Nat → Int32) (mtop : Nat → Int32) (mstr : Nat → Int32) (mgho : Nat → Int32) (mfai : Nat → Int32) (mpto : Nat → Int32) (mwal : Nat → Int32) (mahd : Nat → Int32) (mahf : Nat → Int32) (mcho : Nat → Int32) (mbes : Nat → Int32) (mbyt : Int32) (mtxt : Nat → Int32) (mpos : Int32) (mtka : Int32) (mtok : Int64) (mdig : Int32) (mnum : Int32) (mfau : Int32) (mrdm : Int32) (mrea : Nat → Int32) (mlin : Int32) (mlne : Nat → Int32) (mthg : Nat → Int32) (mord : Nat → Int32) (mbor : Nat → Int32) (mbsm : Int32) (mans : Nat → Int32) (mand : Nat → Int32) (manr : Nat → Int32) (mali : Nat → Int32) (ro : Int32) (r_mday : 0 ≤ mday.toInt ∧ mday.toInt ≤ 400) (r_mdoo : 0 ≤ mdoo.toInt ∧ mdoo.toInt ≤ 14) (r_mdA : rg 14 (0) (7) mdA) (r_mdB : rg 14 (0) (7) mdB) (r_mmar : rg 24 (0) (255) mmar) (r_mgai : 0 ≤ mgai.toInt ∧ mgai.toInt ≤ 100) (r_mfal : rg 11 (0) (30) mfal) (r_mtop : rg 48 (-1) (23) mtop) (r_mstr : rg 48 (0) (100) mstr) (r_mgho : rg 48 (-1) (23) mgho) (r_mfai : rg 48 (0) (100) mfai) (r_mahd : rg 240 (0) (100) mahd) (r_mahf : rg 240 (0) (100) mahf) (r_mcho : rg 5 (-1) (9) mcho) (r_mbyt : 0 ≤ mbyt.toInt ∧ mbyt.toInt ≤ 160) (r_mpos : 0 ≤ mpos.toInt ∧ mpos.toInt ≤ 160) (r_mrdm : 0 ≤ mrdm.toInt ∧ mrdm.toInt ≤ 10) (r_mlin : 0 ≤ mlin.toInt ∧ mlin.toInt ≤ 10) (r_mthg : rg 8 (0) (31) mthg) (r_mord : rg 8 (-1) (8) mord) (r_mans : rg 4 (0) (12) mans) (q0 : 0 ≤ ro.toInt) (q1 : ro.toInt ≤ 7) : KR l yX10_standIn wsX10_standIn { frames := 0, cells := 0, slots := 0, locals := 0 } (dC, dI) (TY cI cZ cQ) (wMod cI cZ cQ b mday mdoo mdA mdB mfar mmar mtel mgai mfal mtop mstr mgho mfai mpto mwal mahd mahf mcho mbes mbyt mtxt mpos mtka mtok mdig mnum mfau mrdm mrea mlin mlne mthg mord mbor mbsm mans mand manr mali) [.ref (b 39), .int ro] (fun r : Int32 => (0 ≤ r.toInt) ∧ (r.toInt ≤ 6) ∧ (r.toInt = stF mtop (ro.toInt * 6).toNat 6)) := by
  refine Met.ofW (cc := cX10_standIn) (maxL := 4) (ret := (some .int)) (by decide) rfl ?_
  intro p e s m args below meth c s₁ B hml hv
  obtain ⟨rfl, hP, hK, hN⟩ := hv
  have hx := B.exec
  have hb := B.bytes
  have hr := B.returns
  have hts := atoms_spec (ws := wsX10_standIn) B.pre
  have hown : s.vm.findClass RX10 = some m.cls := findClass_of_methodNamed B.named
  have hlocks := B.notSynchronized
  have lf32 := hts (.fieldLink RX10 32 "PalaceOfRoomsModel" "top" "[I") (List.mem_cons_of_mem _ (List.mem_append_left _ (List.mem_of_getElem? (i := 0) rfl)))
  have inX10 : ∀ w ∈ wsX100, w ∈ wsX10_standIn := fun w h => List.mem_cons_of_mem _ (List.mem_append_right _ h)
  have hl := lv_entry ([.ref (b 39), .int ro]) (n := 4) (Nat.le_of_ble_eq_true rfl)
  rw [lg_entry_eq]
  generalize (lg_sl ([.ref (b 39), .int ro]) ++ List.replicate (4 - (lg_sl ([.ref (b 39), .int ro])).length) Slot.unset).toArray = ls at hl ⊢
  have hl : lv_has ls 4 [(0, .ref (b 39)), (1, .int ro)] := hl
  refine lv_iconst (v := 0) hx hb dX10_standIn_0 (by decide) ?_
  refine lv_istore_n (lv' := [(2, .int 0), (0, .ref (b 39)), (1, .int ro)]) hx hb dX10_standIn_1 rfl hl (by decide) rfl (fun ls hl => ?_)
  refine lv_bipush (v := 6) hx hb dX10_standIn_2 (by decide) ?_
  refine lv_iload_n hx hb dX10_standIn_4 rfl (lv_at hl 2 rfl) ?_
  refine lv_imul hx hb dX10_standIn_5 ?_
  have f1 : (6 * ro).toInt = (6) * (ro.toInt) := mulC (show (6 : Int32).toInt = 6 from rfl) rfl (by omega) (by omega)
  refine lv_topi (fun x2 ex2 => ?_)
  have ix2 : x2.toInt = (6) * (ro.toInt) := by rw [ex2]; exact f1
  refine lv_istore_n (lv' := [(3, .int x2), (2, .int 0), (0, .ref (b 39)), (1, .int ro)]) hx hb dX10_standIn_6 rfl hl (by decide) rfl (fun ls hl => ?_)
  have L7 : ∀ (nn : Nat) (y7_2 : Int32) (y7_3 : Int32) (ls : Array Slot), (0 ≤ (y7_3.toInt)) → ((y7_3.toInt) ≤ 48) → (6 * ro.toInt ≤ (y7_3.toInt)) → ((y7_3.toInt) ≤ 6 * ro.toInt + 6) → (0 ≤ (y7_2.toInt)) → ((y7_2.toInt) ≤ 6) → ((y7_2.toInt) ≤ (y7_3.toInt) - 6 * ro.toInt) → ((y7_2.toInt) = stF mtop (6 * ro.toInt).toNat ((y7_3.toInt) - 6 * ro.toInt).toNat) → (48 - (y7_3.toInt)).toNat < nn → lv_has ls 4 [(0, .ref (b 39)), (1, .int ro), (2, .int y7_2), (3, .int y7_3)] → W p l e (headSpec wsX10_standIn { frames := 0, cells := 0, slots := 0, locals := 0 }).room s m ([.ref (b 39), .int ro] : List Value).toArray below meth c s.heap [] 0 0 (MQ below (QR (fun r : Int32 => (0 ≤ r.toInt) ∧ (r.toInt ≤ 6) ∧ (r.toInt = stF mtop (ro.toInt * 6).toNat 6))) ([.ref (b 39), .int ro] : List Value).toArray s 0 0 (fun _ => False)) (F0 m 7 ls []) := by
    intro nn
    induction nn with
    | zero =>
      intro y7_2 y7_3 ls i7_0 i7_1 i7_2 i7_3 i7_4 i7_5 i7_6 i7_7 hm7
      exact absurd hm7 (Nat.not_lt_zero _)
    | succ nn ih7 =>
      intro y7_2 y7_3 ls i7_0 i7_1 i7_2 i7_3 i7_4 i7_5 i7_6 i7_7 hm7 hl
      refine lv_iload_n hx hb dX10_standIn_7 rfl (lv_at hl 3 rfl) ?_
      refine lv_bipush (v := 6) hx hb dX10_standIn_8 (by decide) ?_
      refine lv_iload_n hx hb dX10_standIn_10 rfl (lv_at hl 1 rfl) ?_
      refine lv_imul hx hb dX10_standIn_11 ?_
      have f3 : (6 * ro).toInt = (6) * (ro.toInt) := mulC (show (6 : Int32).toInt = 6 from rfl) rfl (by omega) (by omega)
      refine lv_bipush (v := 6) hx hb dX10_standIn_12 (by decide) ?_
      refine lv_iadd hx hb dX10_standIn_14 ?_
      have f4 : ((6 * ro) + 6).toInt = ((6) * (ro.toInt)) + (6) := addC f3 (show (6 : Int32).toInt = 6 from rfl) (by omega) (by omega)
      refine lv_icmp_ge (tgt := 42) hx hb dX10_standIn_15 (by decide) (fun c5 => ?_) (fun c5 => ?_)
      · have dc5 : ((6) * (ro.toInt)) + (6) ≤ y7_3.toInt := leC f4 rfl c5
        refine lv_iload_n hx hb dX10_standIn_42 rfl (lv_at hl 2 rfl) ?_
        exact W.iret (v := y7_2) hx hb hr (fun tq ht hW => ⟨y7_2, rfl, ⟨(show 0 ≤ y7_2.toInt from by omega), (show y7_2.toInt ≤ 6 from by omega), (show y7_2.toInt = stF mtop (ro.toInt * 6).toNat 6 from by exact st_end i7_7 (by omega) (by omega))⟩, ht⟩) (fun q h => by cases h) dX10_standIn_43
      · have dc5 : y7_3.toInt < ((6) * (ro.toInt)) + (6) := nleC f4 rfl c5
        refine lv_iload_n hx hb dX10_standIn_18 rfl (lv_at hl 2 rfl) ?_
        refine lv_aload_n hx hb dX10_standIn_19 rfl (lv_at hl 0 rfl) ?_
        refine va_get (D := (dC, dI)) (ci := 10) (v := .ref (b 9)) (C := RX10) (T := TX10) (N := 39) hx hb hts inX10 hown hK hP 0 rfl rfl 9 (by decide) lf32 (fun _ h9 => h9) rfl dX10_standIn_20 ?_
        refine lv_iload_n hx hb dX10_standIn_23 rfl (lv_at hl 3 rfl) ?_
        have b6 : vp_in y7_3 48 := inC rfl (by omega) (by omega)
        refine va_iald hx hb hK hP 6 0 rfl rfl b6 dX10_standIn_24 ?_
        have g7 : -1 ≤ (mtop y7_3.toNatClampNeg).toInt ∧ (mtop y7_3.toNatClampNeg).toInt ≤ 23 := rg_at r_mtop b6
        refine lv_iconst (v := (-1)) hx hb dX10_standIn_25 (by decide) ?_
        refine lv_icmp_ne (tgt := 33) hx hb dX10_standIn_26 (by decide) (fun c8 => ?_) (fun c8 => ?_)
        · have dc8 : 0 ≤ (mtop y7_3.toNatClampNeg).toInt := ka_lo (by omega) (neC rfl (show ((-1) : Int32).toInt = (-1) from rfl) c8)
          refine lv_iconst (v := 1) hx hb dX10_standIn_33 (by decide) ?_
          refine lv_iadd hx hb dX10_standIn_34 ?_
          have f9 : (y7_2 + 1).toInt = (y7_2.toInt) + (1) := addC rfl (show (1 : Int32).toInt = 1 from rfl) (by omega) (by omega)
          refine lv_topi (fun x10 ex10 => ?_)
          have ix10 : x10.toInt = (y7_2.toInt) + (1) := by rw [ex10]; exact f9
          refine lv_istore_n (lv' := [(2, .int x10), (0, .ref (b 39)), (1, .int ro), (3, .int y7_3)]) hx hb dX10_standIn_35 rfl hl (by decide) rfl (fun ls hl => ?_)
          obtain ⟨z11, ez11⟩ : ∃ y : Int32, y = y7_3 + 1 := ⟨_, rfl⟩
          have iz11 : z11.toInt = y7_3.toInt + 1 := by rw [ez11]; exact addC rfl rfl (by omega) (by omega)
          refine lv_iinc (v := z11) (lv' := [(3, .int z11), (2, .int x10), (0, .ref (b 39)), (1, .int ro)]) hx hb dX10_standIn_36 hl (k := 3) rfl (by rw [ez11]; rfl) (by decide) rfl (fun ls hl => ?_)
          refine lv_goto (tgt := 7) hx hb dX10_standIn_39 (by decide) ?_
          exact ih7 x10 z11 _ (by omega) (by omega) (by omega) (by omega) (by omega) (by omega) (by omega) (by (first | exact st_step (o := y7_3) i7_7 (by rw [clC (x := y7_3) rfl]; omega) (by first | exact Or.inl ⟨by assumption, by first | rfl | omega⟩ | exact Or.inr ⟨by assumption, by omega⟩) (by omega) | exact st_init (by first | rfl | omega) (by omega))) (by omega) (lv_sub hl [2, 3, 1, 0] rfl)
        · have dc8 : (mtop y7_3.toNatClampNeg).toInt = (-1) := eqC rfl (show ((-1) : Int32).toInt = (-1) from rfl) c8
          refine lv_iconst (v := 0) hx hb dX10_standIn_29 (by decide) ?_
          refine lv_goto (tgt := 34) hx hb dX10_standIn_30 (by decide) ?_
          refine lv_iadd hx hb dX10_standIn_34 ?_
          have f12 : (y7_2 + 0).toInt = (y7_2.toInt) + (0) := addC rfl (show (0 : Int32).toInt = 0 from rfl) (by omega) (by omega)
          refine lv_topi (fun x13 ex13 => ?_)
          have ix13 : x13.toInt = (y7_2.toInt) + (0) := by rw [ex13]; exact f12
          refine lv_istore_n (lv' := [(2, .int x13), (0, .ref (b 39)), (1, .int ro), (3, .int y7_3)]) hx hb dX10_standIn_35 rfl hl (by decide) rfl (fun ls hl => ?_)
          obtain ⟨z14, ez14⟩ : ∃ y : Int32, y = y7_3 + 1 := ⟨_, rfl⟩
          have iz14 : z14.toInt = y7_3.toInt + 1 := by rw [ez14]; exact addC rfl rfl (by omega) (by omega)
          refine lv_iinc (v := z14) (lv' := [(3, .int z14), (2, .int x13), (0, .ref (b 39)), (1, .int ro)]) hx hb dX10_standIn_36 hl (k := 3) rfl (by rw [ez14]; rfl) (by decide) rfl (fun ls hl => ?_)
          refine lv_goto (tgt := 7) hx hb dX10_standIn_39 (by decide) ?_
          exact ih7 x13 z14 _ (by omega) (by omega) (by omega) (by omega) (by omega) (by omega) (by omega) (by (first | exact st_step (o := y7_3) i7_7 (by rw [clC (x := y7_3) rfl]; omega) (by first | exact Or.inl ⟨by assumption, by first | rfl | omega⟩ | exact Or.inr ⟨by assumption, by omega⟩) (by omega) | exact st_init (by first | rfl | omega) (by omega))) (by omega) (lv_sub hl [2, 3, 1, 0] rfl)
  have kc15 : (0 : Int32).toInt = 0 := rfl
  exact L7 _ 0 x2 _ (by omega) (by omega) (by omega) (by omega) (by omega) (by omega) (by omega) (by (first | exact st_init (by first | rfl | omega) (by omega) | exact st_step (o := y7_3) i7_7 (by rw [clC (x := y7_3) rfl]; omega) (by first | exact Or.inl ⟨by assumption, by first | rfl | omega⟩ | exact Or.inr ⟨by assumption, by omega⟩) (by omega))) (Nat.lt_succ_self _) (lv_sub hl [2, 3, 1, 0] rfl)
set_option maxHeartbeats 4000000 in
set_option maxRecDepth 100000 in
theorem k_X3_costOf2 (l : Launch) (dC : Nat → ClassId) (dI : Nat → Nat → Nat) (cI cZ cQ : ClassId) (a : Nat → Nat) (min : Nat → Int32) (tri : Nat → Int32) (bes : Nat → Int32) (wkd : Nat → Int32) (cos : Nat → Int32) (rst : Nat → Int32) (bst : Int32) (top : Nat → Int32) (str : Nat → Int32) (gho : Nat → Int32) (ghs : Nat → Int32) (pto : Nat → Int32) (cro : Nat → Int32) (pla : Nat → Int32) (wal : Nat → Int32) (fal : Nat → Int32) (tel : Int32) (gai : Int32) (day : Int32) (mar : Nat → Int32) (few : Nat → Int32) (doo : Int32) (ro : Int32) (r_wkd : rg 8 (0) (15) wkd) (r_top : rg 48 (-1) (23) top) (r_str : rg 48 (0) (100) str) (r_gho : rg 48 (-1) (23) gho) (r_ghs : rg 48 (0) (100) ghs) (r_cro : rg 48 (0) (6) cro) (r_pla : rg 24 (-1) (47) pla) (r_fal : rg 11 (0) (30) fal) (r_gai : 0 ≤ gai.toInt ∧ gai.toInt ≤ 100) (r_day : 0 ≤ day.toInt ∧ day.toInt ≤ 400) (r_mar : rg 24 (0) (255) mar) (q0 : 0 ≤ ro.toInt) (q1 : ro.toInt ≤ 7) (q2 : mtOK few) : KR l yX3_costOf wsX3_costOf { frames := 1, cells := 0, slots := 0, locals := 24 } (dC, dI) (TY cI cZ cQ) (wPln cI cZ cQ a min tri bes wkd cos rst bst top str gho ghs pto cro pla wal fal tel gai day mar few doo) [.ref (a 16), .int ro] (fun r : Int32 => (-1 ≤ r.toInt) ∧ (r.toInt ≤ 20) ∧ (coC few top ro r)) := by
  refine Met.ofW (cc := cX3_costOf) (maxL := 3) (ret := (some .int)) (by decide) rfl ?_
  intro p e s m args below meth c s₁ B hml hv
  obtain ⟨rfl, hP, hK, hN⟩ := hv
  have hx := B.exec
  have hb := B.bytes
  have hr := B.returns
  have hts := atoms_spec (ws := wsX3_costOf) B.pre
  have hown : s.vm.findClass RX3 = some m.cls := findClass_of_methodNamed B.named
  have hlocks := B.notSynchronized
  have lf34 := hts (.fieldLink RX3 34 "PalaceOfRooms$Planner" "ways" "LPalaceOfRooms$Ways;") (List.mem_cons_of_mem _ (List.mem_append_left _ (List.mem_append_left _ (List.mem_append_left _ (List.mem_of_getElem? (i := 0) rfl)))))
  have inX3 : ∀ w ∈ wsX30, w ∈ wsX3_costOf := fun w h => List.mem_cons_of_mem _ (List.mem_append_left _ (List.mem_append_left _ (List.mem_append_right _ h)))
  have lf30 := hts (.fieldLink RX3 30 "PalaceOfRooms$Planner" "corners" "LPalaceOfRooms$Corners;") (List.mem_cons_of_mem _ (List.mem_append_left _ (List.mem_append_left _ (List.mem_append_left _ (List.mem_of_getElem? (i := 1) rfl)))))
  have hl := lv_entry ([.ref (a 16), .int ro]) (n := 3) (Nat.le_of_ble_eq_true rfl)
  rw [lg_entry_eq]
  generalize (lg_sl ([.ref (a 16), .int ro]) ++ List.replicate (3 - (lg_sl ([.ref (a 16), .int ro])).length) Slot.unset).toArray = ls at hl ⊢
  have hl : lv_has ls 3 [(0, .ref (a 16)), (1, .int ro)] := hl
  refine lv_aload_n hx hb dX3_costOf_0 rfl (lv_at hl 0 rfl) ?_
  refine va_get (D := (dC, dI)) (ci := 3) (v := .ref (a 0)) (C := RX3) (T := TX3) (N := 9) hx hb hts inX3 hown hK hP 0 rfl rfl 1 (by decide) lf34 (fun _ h9 => h9) rfl dX3_costOf_1 ?_
  refine lv_iconst (v := 0) hx hb dX3_costOf_4 (by decide) ?_
  refine lv_iload_n hx hb dX3_costOf_5 rfl (lv_at hl 1 rfl) ?_
  have kc0 : (0 : Int32).toInt = 0 := rfl
  refine rdV (As := [.int 0, .int ro]) (rest := []) ⟨hx, hb, hml, hown, hts⟩ (k_X8_between3 l dC dI cI cZ cQ a few doo (0 : Int32) ro (by omega) (by omega) (by omega) (by omega) (by exact q2)) (cwV 2 hts gX3_costOf_X8_between rfl rfl rfl (by decide +kernel) ⟨Nat.le_of_ble_eq_true rfl, Nat.le_of_ble_eq_true rfl⟩) hP hK hN [19, 20] rfl 19 8 rfl rfl rfl hl.1 rfl (Nat.le_of_ble_eq_true rfl) dX3_costOf_6 ⟨Nat.le_of_ble_eq_true rfl, Nat.le_of_ble_eq_true rfl⟩ (fun r1 h2 => ?_)
  have h2 : (r1 = few ((0) * 8 + ro.toInt).toNat) ∧ (-1 ≤ r1.toInt) ∧ (r1.toInt ≤ 7) := h2
  obtain ⟨h2_0, h2_1, h2_2⟩ := h2
  refine lv_istore_n (lv' := [(2, .int r1), (0, .ref (a 16)), (1, .int ro)]) hx hb dX3_costOf_9 rfl hl (by decide) rfl (fun ls hl => ?_)
  refine lv_iload_n hx hb dX3_costOf_10 rfl (lv_at hl 0 rfl) ?_
  refine lv_iconst (v := (-1)) hx hb dX3_costOf_11 (by decide) ?_
  refine lv_icmp_ne (tgt := 19) hx hb dX3_costOf_12 (by decide) (fun c3 => ?_) (fun c3 => ?_)
  · have dc3 : 0 ≤ r1.toInt := ka_lo (by omega) (neC rfl (show ((-1) : Int32).toInt = (-1) from rfl) c3)
    refine lv_iconst (v := 2) hx hb dX3_costOf_19 (by decide) ?_
    refine lv_iload_n hx hb dX3_costOf_20 rfl (lv_at hl 0 rfl) ?_
    refine lv_imul hx hb dX3_costOf_21 ?_
    have f4 : (2 * r1).toInt = (2) * (r1.toInt) := mulC (show (2 : Int32).toInt = 2 from rfl) rfl (by omega) (by omega)
    refine lv_aload_n hx hb dX3_costOf_22 rfl (lv_at hl 1 rfl) ?_
    refine va_get (D := (dC, dI)) (ci := 3) (v := .ref (a 4)) (C := RX3) (T := TX3) (N := 9) hx hb hts inX3 hown hK hP 0 rfl rfl 0 (by decide) lf30 (fun _ h9 => h9) rfl dX3_costOf_23 ?_
    refine lv_iload_n hx hb dX3_costOf_26 rfl (lv_at hl 2 rfl) ?_
    refine rdV (As := [.int ro]) (rest := [.int (2 * r1)]) ⟨hx, hb, hml, hown, hts⟩ (k_X1_standingIn2 l dC dI cI cZ cQ a top str gho ghs pto cro pla wal fal tel gai day mar ro r_top r_str r_gho r_ghs r_cro r_pla r_fal r_gai r_day r_mar (by omega) (by omega)) (cwV 1 hts gX3_costOf_X1_standingIn rfl rfl rfl (by decide +kernel) ⟨Nat.le_of_ble_eq_true rfl, Nat.le_of_ble_eq_true rfl⟩) hP hK hN [7, 8, 9, 10, 11, 12, 13, 14, 15, 16, 17, 18] rfl 7 1 rfl rfl rfl hl.1 rfl (Nat.le_of_ble_eq_true rfl) dX3_costOf_27 ⟨Nat.le_of_ble_eq_true rfl, Nat.le_of_ble_eq_true rfl⟩ (fun r5 h6 => ?_)
    have h6 : (0 ≤ r5.toInt) ∧ (r5.toInt ≤ 6) ∧ (r5.toInt = stF top (ro.toInt * 6).toNat 6) := h6
    obtain ⟨h6_0, h6_1, h6_2⟩ := h6
    refine lv_iadd hx hb dX3_costOf_30 ?_
    have f7 : ((2 * r1) + r5).toInt = ((2) * (r1.toInt)) + (r5.toInt) := addC f4 rfl (by omega) (by omega)
    exact W.iret (v := (2 * r1) + r5) hx hb hr (fun tq ht hW => ⟨(2 * r1) + r5, rfl, ⟨(show -1 ≤ ((2 * r1) + r5).toInt from by (try rw [show ((2 * r1) + r5).toInt = ((2) * (r1.toInt)) + (r5.toInt) from f7]); omega), (show ((2 * r1) + r5).toInt ≤ 20 from by (try rw [show ((2 * r1) + r5).toInt = ((2) * (r1.toInt)) + (r5.toInt) from f7]); omega), (show coC few top ro ((2 * r1) + r5) from by (try rw [show ((2 * r1) + r5).toInt = ((2) * (r1.toInt)) + (r5.toInt) from f7]); (first | exact coC_no (by assumption) (by first | rfl | omega) (by assumption) | exact coC_ok (by assumption) (by first | rfl | omega) (by assumption) (by assumption) (by omega)))⟩, ht⟩) (fun q h => by cases h) dX3_costOf_31
  · have dc3 : r1.toInt = (-1) := eqC rfl (show ((-1) : Int32).toInt = (-1) from rfl) c3
    refine lv_iconst (v := (-1)) hx hb dX3_costOf_15 (by decide) ?_
    refine lv_goto (tgt := 31) hx hb dX3_costOf_16 (by decide) ?_
    exact W.iret (v := (-1)) hx hb hr (fun tq ht hW => ⟨(-1), rfl, ⟨(show -1 ≤ ((-1) : Int32).toInt from by (try rw [show ((-1) : Int32).toInt = (-1) from (show ((-1) : Int32).toInt = (-1) from rfl)]); omega), (show ((-1) : Int32).toInt ≤ 20 from by (try rw [show ((-1) : Int32).toInt = (-1) from (show ((-1) : Int32).toInt = (-1) from rfl)]); omega), (show coC few top ro ((-1) : Int32) from by (try rw [show ((-1) : Int32).toInt = (-1) from (show ((-1) : Int32).toInt = (-1) from rfl)]); (first | exact coC_no (by assumption) (by first | rfl | omega) (by assumption) | exact coC_ok (by assumption) (by first | rfl | omega) (by assumption) (by assumption) (by omega)))⟩, ht⟩) (fun q h => by cases h) dX3_costOf_31
set_option maxHeartbeats 4000000 in
set_option maxRecDepth 100000 in
theorem k_X9_cost2 (l : Launch) (dC : Nat → ClassId) (dI : Nat → Nat → Nat) (cI cZ cQ : ClassId) (a : Nat → Nat) (rb0 : Nat) (rb1 : Nat) (rb2 : Nat) (db0 : Nat) (db1 : Nat) (db2 : Nat) (min : Nat → Int32) (tri : Nat → Int32) (bes : Nat → Int32) (wkd : Nat → Int32) (cos : Nat → Int32) (rst : Nat → Int32) (bst : Int32) (top : Nat → Int32) (str : Nat → Int32) (gho : Nat → Int32) (ghs : Nat → Int32) (pto : Nat → Int32) (cro : Nat → Int32) (pla : Nat → Int32) (wal : Nat → Int32) (fal : Nat → Int32) (tel : Int32) (gai : Int32) (day : Int32) (mar : Nat → Int32) (few : Nat → Int32) (doo : Int32) (ro : Int32) (r_wkd : rg 8 (0) (15) wkd) (r_top : rg 48 (-1) (23) top) (r_str : rg 48 (0) (100) str) (r_gho : rg 48 (-1) (23) gho) (r_ghs : rg 48 (0) (100) ghs) (r_cro : rg 48 (0) (6) cro) (r_pla : rg 24 (-1) (47) pla) (r_fal : rg 11 (0) (30) fal) (r_gai : 0 ≤ gai.toInt ∧ gai.toInt ≤ 100) (r_day : 0 ≤ day.toInt ∧ day.toInt ≤ 400) (r_mar : rg 24 (0) (255) mar) (q0 : mtOK few) : KR l yX9_cost wsX9_cost { frames := 2, cells := 0, slots := 0, locals := 46 } (dC, dI) (TY cI cZ cQ) (wsPl cI cZ cQ a rb0 rb1 rb2 db0 db1 db2 min tri bes wkd cos rst bst top str gho ghs pto cro pla wal fal tel gai day mar few doo) [.ref (a 43), .int ro] (fun r : Int32 => (spCstC few top ro r)) := by
  refine Met.ofW (cc := cX9_cost) (maxL := 2) (ret := (some .int)) (by decide) rfl ?_
  intro p e s m args below meth c s₁ B hml hv
  obtain ⟨rfl, hP, hK, hN⟩ := hv
  have hx := B.exec
  have hb := B.bytes
  have hr := B.returns
  have hts := atoms_spec (ws := wsX9_cost) B.pre
  have hown : s.vm.findClass RX9 = some m.cls := findClass_of_methodNamed B.named
  have hlocks := B.notSynchronized
  have lf44 := hts (.fieldLink RX9 44 "PalaceOfRooms" "planner" "LPalaceOfRooms$Planner;") (List.mem_cons_of_mem _ (List.mem_append_left _ (List.mem_append_left _ (List.mem_append_left _ (List.mem_append_left _ (List.mem_append_left _ (List.mem_of_getElem? (i := 0) rfl)))))))
  have inX9 : ∀ w ∈ wsX90, w ∈ wsX9_cost := fun w h => List.mem_cons_of_mem _ (List.mem_append_left _ (List.mem_append_left _ (List.mem_append_left _ (List.mem_append_right _ h))))
  have hl := lv_entry ([.ref (a 43), .int ro]) (n := 2) (Nat.le_of_ble_eq_true rfl)
  rw [lg_entry_eq]
  generalize (lg_sl ([.ref (a 43), .int ro]) ++ List.replicate (2 - (lg_sl ([.ref (a 43), .int ro])).length) Slot.unset).toArray = ls at hl ⊢
  have hl : lv_has ls 2 [(0, .ref (a 43)), (1, .int ro)] := hl
  refine lv_iload_n hx hb dX9_cost_0 rfl (lv_at hl 1 rfl) ?_
  refine rdS (As := [.int ro]) (rest := []) ⟨hx, hb, hml, hown, hts⟩ (k_X9_isRoom l dC dI cI cZ cQ ro) (va_cwS 1 hts gX9_cost_X9_isRoom rfl rfl rfl (by decide +kernel) ⟨Nat.le_of_ble_eq_true rfl, Nat.le_of_ble_eq_true rfl⟩) hP hK hN [] rfl rfl hl.1 rfl (Nat.le_of_ble_eq_true rfl) dX9_cost_1 ⟨Nat.le_of_ble_eq_true rfl, Nat.le_of_ble_eq_true rfl⟩ (fun r1 h2 => ?_)
  have h2 : ((((r1 = 1) ∧ (0 ≤ ro.toInt) ∧ (ro.toInt ≤ 7)) ∨ ((r1 = 0) ∧ (ro.toInt < 0 ∨ 7 < ro.toInt)))) := h2
  rcases h2 with (⟨rfl, h2_a0, h2_a1⟩ | ⟨rfl, h2_a0⟩)
  · refine lv_if_eq (tgt := 18) hx hb dX9_cost_4 (by decide) (fun c9 => absurd c9 (by decide)) (fun _ => ?_)
    refine lv_aload_n hx hb dX9_cost_7 rfl (lv_at hl 0 rfl) ?_
    refine va_get (D := (dC, dI)) (ci := 9) (v := .ref (a 16)) (C := RX9) (T := TX9) (N := 11) hx hb hts inX9 hown hK hP 0 rfl rfl 4 (by decide) lf44 (fun _ h9 => h9) rfl dX9_cost_8 ?_
    refine lv_iload_n hx hb dX9_cost_11 rfl (lv_at hl 1 rfl) ?_
    refine rdV (As := [.int ro]) (rest := []) ⟨hx, hb, hml, hown, hts⟩ (k_X3_costOf2 l dC dI cI cZ cQ a min tri bes wkd cos rst bst top str gho ghs pto cro pla wal fal tel gai day mar few doo ro r_wkd r_top r_str r_gho r_ghs r_cro r_pla r_fal r_gai r_day r_mar (by omega) (by omega) (by exact q0)) (cwV 1 hts gX9_cost_X3_costOf rfl rfl rfl (by decide +kernel) ⟨Nat.le_of_ble_eq_true rfl, Nat.le_of_ble_eq_true rfl⟩) hP hK hN [1, 2, 3, 4, 5, 6, 7, 8, 9, 10, 11, 12, 13, 14, 15, 16, 17, 18, 19, 20, 21] rfl 1 3 rfl rfl rfl hl.1 rfl (Nat.le_of_ble_eq_true rfl) dX9_cost_12 ⟨Nat.le_of_ble_eq_true rfl, Nat.le_of_ble_eq_true rfl⟩ (fun r3 h4 => ?_)
    have h4 : (-1 ≤ r3.toInt) ∧ (r3.toInt ≤ 20) ∧ (coC few top ro r3) := h4
    obtain ⟨h4_0, h4_1, h4_2⟩ := h4
    refine lv_goto (tgt := 20) hx hb dX9_cost_15 (by decide) ?_
    exact W.iret (v := r3) hx hb hr (fun tq ht hW => ⟨r3, rfl, (show spCstC few top ro r3 from by (first | exact Or.inl ⟨by omega, rfl⟩ | exact Or.inr ⟨by omega, by assumption⟩)), ht⟩) (fun q h => by cases h) dX9_cost_20
  · refine lv_if_eq (tgt := 18) hx hb dX9_cost_4 (by decide) (fun _ => ?_) (fun c9 => absurd (by decide) c9)
    refine lv_bipush (v := (-2)) hx hb dX9_cost_18 (by decide) ?_
    exact W.iret (v := (-2)) hx hb hr (fun tq ht hW => ⟨(-2), rfl, (show spCstC few top ro ((-2) : Int32) from by (try rw [show ((-2) : Int32).toInt = (-2) from (show ((-2) : Int32).toInt = (-2) from rfl)]); (first | exact Or.inl ⟨by omega, rfl⟩ | exact Or.inr ⟨by omega, by assumption⟩)), ht⟩) (fun q h => by cases h) dX9_cost_20
set_option maxHeartbeats 4000000 in
set_option maxRecDepth 100000 in
theorem k_X10_costOf2 (l : Launch) (dC : Nat → ClassId) (dI : Nat → Nat → Nat) (cI cZ cQ : ClassId) (b : Nat → Nat) (mday : Int32) (mdoo : Int32) (mdA : Nat → Int32) (mdB : Nat → Int32) (mfar : Nat → Int32) (mmar : Nat → Int32) (mtel : Int32) (mgai : Int32) (mfal : Nat → Int32) (mtop : Nat → Int32) (mstr : Nat → Int32) (mgho : Nat → Int32) (mfai : Nat → Int32) (mpto : Nat → Int32) (mwal : Nat → Int32) (mahd : Nat → Int32) (mahf : Nat → Int32) (mcho : Nat → Int32) (mbes : Nat → Int32) (mbyt : Int32) (mtxt : Nat → Int32) (mpos : Int32) (mtka : Int32) (mtok : Int64) (mdig : Int32) (mnum : Int32) (mfau : Int32) (mrdm : Int32) (mrea : Nat → Int32) (mlin : Int32) (mlne : Nat → Int32) (mthg : Nat → Int32) (mord : Nat → Int32) (mbor : Nat → Int32) (mbsm : Int32) (mans : Nat → Int32) (mand : Nat → Int32) (manr : Nat → Int32) (mali : Nat → Int32) (sz : Nat) (ro : Int32) (r_mday : 0 ≤ mday.toInt ∧ mday.toInt ≤ 400) (r_mdoo : 0 ≤ mdoo.toInt ∧ mdoo.toInt ≤ 14) (r_mdA : rg 14 (0) (7) mdA) (r_mdB : rg 14 (0) (7) mdB) (r_mmar : rg 24 (0) (255) mmar) (r_mgai : 0 ≤ mgai.toInt ∧ mgai.toInt ≤ 100) (r_mfal : rg 11 (0) (30) mfal) (r_mtop : rg 48 (-1) (23) mtop) (r_mstr : rg 48 (0) (100) mstr) (r_mgho : rg 48 (-1) (23) mgho) (r_mfai : rg 48 (0) (100) mfai) (r_mahd : rg 240 (0) (100) mahd) (r_mahf : rg 240 (0) (100) mahf) (r_mcho : rg 5 (-1) (9) mcho) (r_mbyt : 0 ≤ mbyt.toInt ∧ mbyt.toInt ≤ 160) (r_mpos : 0 ≤ mpos.toInt ∧ mpos.toInt ≤ 160) (r_mrdm : 0 ≤ mrdm.toInt ∧ mrdm.toInt ≤ 10) (r_mlin : 0 ≤ mlin.toInt ∧ mlin.toInt ≤ 10) (r_mthg : rg 8 (0) (31) mthg) (r_mord : rg 8 (-1) (8) mord) (r_mans : rg 4 (0) (12) mans) (q0 : 0 ≤ ro.toInt) (q1 : ro.toInt ≤ 7) : KW l yX10_costOf wsX10_costOf { frames := 1, cells := 0, slots := 0, locals := 26 } (dC, dI) (TY cI cZ cQ) (wMod cI cZ cQ b mday mdoo mdA mdB mfar mmar mtel mgai mfal mtop mstr mgho mfai mpto mwal mahd mahf mcho mbes mbyt mtxt mpos mtka mtok mdig mnum mfau mrdm mrea mlin mlne mthg mord mbor mbsm mans mand manr mali) [.ref (b 39), .int ro] sz 0 0 (fun (r : Int32) (u : US) => (coM mdA mdB mdoo.toInt mtop ro r) ∧ (-1 ≤ r.toInt) ∧ (r.toInt ≤ 204)) (fun u : US => (wMod cI cZ cQ b mday mdoo mdA mdB (u.1 0) mmar mtel mgai mfal mtop mstr mgho mfai mpto mwal mahd mahf mcho mbes mbyt mtxt mpos mtka mtok mdig mnum mfau mrdm mrea mlin mlne mthg mord mbor mbsm mans mand manr mali)) := by
  refine Met.ofW (cc := cX10_costOf) (maxL := 3) (ret := (some .int)) (by decide) rfl ?_
  intro p e s m args below meth c s₁ B hml hv
  obtain ⟨rfl, hsz, hP, hK, hD0, hN⟩ := hv
  have hx := B.exec
  have hb := B.bytes
  have hr := B.returns
  have hts := atoms_spec (ws := wsX10_costOf) B.pre
  have hown : s.vm.findClass RX10 = some m.cls := findClass_of_methodNamed B.named
  have hlocks := B.notSynchronized
  subst hsz
  have hD := hD0.self (sz := s.heap.size)
  generalize hAe : va_A (wMod cI cZ cQ b mday mdoo mdA mdB mfar mmar mtel mgai mfal mtop mstr mgho mfai mpto mwal mahd mahf mcho mbes mbyt mtxt mpos mtka mtok mdig mnum mfau mrdm mrea mlin mlne mthg mord mbor mbsm mans mand manr mali) s.heap.size = A at hD ⊢
  have hA : ∀ q : Nat, s.heap.size ≤ q → A q := fun q h => by rw [← hAe]; exact Or.inr h
  have hS : va_S A s.heap s.heap [] := va_S.rf
  have hl := lv_entry ([.ref (b 39), .int ro]) (n := 3) (Nat.le_of_ble_eq_true rfl)
  rw [lg_entry_eq]
  generalize (lg_sl ([.ref (b 39), .int ro]) ++ List.replicate (3 - (lg_sl ([.ref (b 39), .int ro])).length) Slot.unset).toArray = ls at hl ⊢
  have hl : lv_has ls 3 [(0, .ref (b 39)), (1, .int ro)] := hl
  refine lv_aload_n hx hb dX10_costOf_0 rfl (lv_at hl 0 rfl) ?_
  refine lv_iconst (v := 0) hx hb dX10_costOf_1 (by decide) ?_
  refine lv_iload_n hx hb dX10_costOf_2 rfl (lv_at hl 1 rfl) ?_
  have kc0 : (0 : Int32).toInt = 0 := rfl
  refine wrV (As := [.int 0, .int ro]) (rest := []) (wr := []) (w2 := (fun u : US => (wMod cI cZ cQ b mday mdoo mdA mdB (u.1 0) mmar mtel mgai mfal mtop mstr mgho mfai mpto mwal mahd mahf mcho mbes mbyt mtxt mpos mtka mtok mdig mnum mfau mrdm mrea mlin mlne mthg mord mbor mbsm mans mand manr mali))) ⟨hx, hb, hml, hown, hts⟩ (k_X10_doorsTo2 l dC dI cI cZ cQ b mday mdoo mdA mdB mfar mmar mtel mgai mfal mtop mstr mgho mfai mpto mwal mahd mahf mcho mbes mbyt mtxt mpos mtka mtok mdig mnum mfau mrdm mrea mlin mlne mthg mord mbor mbsm mans mand manr mali _ (0 : Int32) ro r_mday r_mdoo r_mdA r_mdB r_mmar r_mgai r_mfal r_mtop r_mstr r_mgho r_mfai r_mahd r_mahf r_mcho r_mbyt r_mpos r_mrdm r_mlin r_mthg r_mord r_mans (by omega) (by omega) (by omega) (by omega)) (cwV 2 hts gX10_costOf_X10_doorsTo rfl rfl rfl (by decide +kernel) ⟨Nat.le_of_ble_eq_true rfl, Nat.le_of_ble_eq_true rfl⟩) hP hD hS hA hK hN [0, 1, 2, 3, 4, 5, 6, 7, 8, 9, 10, 11, 12, 13, 14, 15, 16, 17, 18, 19, 20, 21, 22, 23, 24, 25] [] [0, 1, 2, 3, 4, 5, 6, 7, 8, 9, 10, 11, 12, 13, 14, 15, 16, 17, 18, 19, 20, 21, 22, 23, 24, 25] rfl rfl (by decide) (by decide) (by decide) (fun _ => rfl) (by decide) 0 10 rfl rfl rfl hl.1 rfl (Nat.le_of_ble_eq_true rfl) dX10_costOf_3 ⟨Nat.le_of_ble_eq_true rfl, Nat.le_of_ble_eq_true rfl⟩ (fun r1 u3 H locs h2 hP hD hS => ?_)
  obtain ⟨mfar_c4, emfar_c4⟩ : ∃ f : Nat → Int32, f = (u3.1 0) := ⟨_, rfl⟩
  have hP : va_P (dC, dI) vwCl (wMod cI cZ cQ b mday mdoo mdA mdB mfar_c4 mmar mtel mgai mfal mtop mstr mgho mfai mpto mwal mahd mahf mcho mbes mbyt mtxt mpos mtka mtok mdig mnum mfau mrdm mrea mlin mlne mthg mord mbor mbsm mans mand manr mali) H := by rw [emfar_c4]; exact hP
  have hD : va_D A (wMod cI cZ cQ b mday mdoo mdA mdB mfar_c4 mmar mtel mgai mfal mtop mstr mgho mfai mpto mwal mahd mahf mcho mbes mbyt mtxt mpos mtka mtok mdig mnum mfau mrdm mrea mlin mlne mthg mord mbor mbsm mans mand manr mali) := by rw [emfar_c4]; exact hD
  have h2 : (dsR mdA mdB mdoo.toInt (0 : Int32) ro r1) ∧ (-1 ≤ r1.toInt) ∧ (r1.toInt ≤ 99) := by (try rw [emfar_c4]); exact h2
  obtain ⟨h2_0, h2_1, h2_2⟩ := h2
  refine lv_istore_n (lv' := [(2, .int r1), (0, .ref (b 39)), (1, .int ro)]) hx hb dX10_costOf_6 rfl hl (by decide) rfl (fun ls hl => ?_)
  refine lv_iload_n hx hb dX10_costOf_7 rfl (lv_at hl 0 rfl) ?_
  refine lv_iconst (v := (-1)) hx hb dX10_costOf_8 (by decide) ?_
  refine lv_icmp_ne (tgt := 16) hx hb dX10_costOf_9 (by decide) (fun c5 => ?_) (fun c5 => ?_)
  · have dc5 : 0 ≤ r1.toInt := ka_lo (by omega) (neC rfl (show ((-1) : Int32).toInt = (-1) from rfl) c5)
    refine lv_iconst (v := 2) hx hb dX10_costOf_16 (by decide) ?_
    refine lv_iload_n hx hb dX10_costOf_17 rfl (lv_at hl 0 rfl) ?_
    refine lv_imul hx hb dX10_costOf_18 ?_
    have f6 : (2 * r1).toInt = (2) * (r1.toInt) := mulC (show (2 : Int32).toInt = 2 from rfl) rfl (by omega) (by omega)
    refine lv_aload_n hx hb dX10_costOf_19 rfl (lv_at hl 1 rfl) ?_
    refine lv_iload_n hx hb dX10_costOf_20 rfl (lv_at hl 2 rfl) ?_
    refine rdV (As := [.int ro]) (rest := [.int (2 * r1)]) ⟨hx, hb, hml, hown, hts⟩ (k_X10_standIn2 l dC dI cI cZ cQ b mday mdoo mdA mdB mfar_c4 mmar mtel mgai mfal mtop mstr mgho mfai mpto mwal mahd mahf mcho mbes mbyt mtxt mpos mtka mtok mdig mnum mfau mrdm mrea mlin mlne mthg mord mbor mbsm mans mand manr mali ro r_mday r_mdoo r_mdA r_mdB r_mmar r_mgai r_mfal r_mtop r_mstr r_mgho r_mfai r_mahd r_mahf r_mcho r_mbyt r_mpos r_mrdm r_mlin r_mthg r_mord r_mans (by omega) (by omega)) (cwV 1 hts gX10_costOf_X10_standIn rfl rfl rfl (by decide +kernel) ⟨Nat.le_of_ble_eq_true rfl, Nat.le_of_ble_eq_true rfl⟩) hP hK hN [0, 1, 2, 3, 4, 5, 6, 7, 8, 9, 10, 11, 12, 13, 14, 15, 16, 17, 18, 19, 20, 21, 22, 23, 24, 25] rfl 0 10 rfl rfl rfl hl.1 rfl (Nat.le_of_ble_eq_true rfl) dX10_costOf_21 ⟨Nat.le_of_ble_eq_true rfl, Nat.le_of_ble_eq_true rfl⟩ (fun r7 h8 => ?_)
    have h8 : (0 ≤ r7.toInt) ∧ (r7.toInt ≤ 6) ∧ (r7.toInt = stF mtop (ro.toInt * 6).toNat 6) := h8
    obtain ⟨h8_0, h8_1, h8_2⟩ := h8
    refine lv_iadd hx hb dX10_costOf_24 ?_
    have f9 : ((2 * r1) + r7).toInt = ((2) * (r1.toInt)) + (r7.toInt) := addC f6 rfl (by omega) (by omega)
    exact W.iret (v := (2 * r1) + r7) hx hb hr (fun tq ht hW => ⟨⟨(2 * r1) + r7, (uS [mfar_c4] 0 (fun _ => 0)), rfl, ⟨(show coM mdA mdB mdoo.toInt mtop ro ((2 * r1) + r7) from by (try rw [show ((2 * r1) + r7).toInt = ((2) * (r1.toInt)) + (r7.toInt) from f9]); (first | exact coM_no (by assumption) (by assumption) | exact coM_ok (by assumption) (by assumption) (by assumption) (by omega))), (show -1 ≤ ((2 * r1) + r7).toInt from by (try rw [show ((2 * r1) + r7).toInt = ((2) * (r1.toInt)) + (r7.toInt) from f9]); omega), (show ((2 * r1) + r7).toInt ≤ 204 from by (try rw [show ((2 * r1) + r7).toInt = ((2) * (r1.toInt)) + (r7.toInt) from f9]); omega)⟩, by rw [ht]; exact hP, hD⟩, hS.F ht⟩) hS.2.2 dX10_costOf_25
  · have dc5 : r1.toInt = (-1) := eqC rfl (show ((-1) : Int32).toInt = (-1) from rfl) c5
    refine lv_iconst (v := (-1)) hx hb dX10_costOf_12 (by decide) ?_
    refine lv_goto (tgt := 25) hx hb dX10_costOf_13 (by decide) ?_
    exact W.iret (v := (-1)) hx hb hr (fun tq ht hW => ⟨⟨(-1), (uS [mfar_c4] 0 (fun _ => 0)), rfl, ⟨(show coM mdA mdB mdoo.toInt mtop ro ((-1) : Int32) from by (try rw [show ((-1) : Int32).toInt = (-1) from (show ((-1) : Int32).toInt = (-1) from rfl)]); (first | exact coM_no (by assumption) (by assumption) | exact coM_ok (by assumption) (by assumption) (by assumption) (by omega))), (show -1 ≤ ((-1) : Int32).toInt from by (try rw [show ((-1) : Int32).toInt = (-1) from (show ((-1) : Int32).toInt = (-1) from rfl)]); omega), (show ((-1) : Int32).toInt ≤ 204 from by (try rw [show ((-1) : Int32).toInt = (-1) from (show ((-1) : Int32).toInt = (-1) from rfl)]); omega)⟩, by rw [ht]; exact hP, hD⟩, hS.F ht⟩) hS.2.2 dX10_costOf_25
set_option maxHeartbeats 4000000 in
set_option maxRecDepth 100000 in
theorem k_X10_cost2 (l : Launch) (dC : Nat → ClassId) (dI : Nat → Nat → Nat) (cI cZ cQ : ClassId) (b : Nat → Nat) (mday : Int32) (mdoo : Int32) (mdA : Nat → Int32) (mdB : Nat → Int32) (mfar : Nat → Int32) (mmar : Nat → Int32) (mtel : Int32) (mgai : Int32) (mfal : Nat → Int32) (mtop : Nat → Int32) (mstr : Nat → Int32) (mgho : Nat → Int32) (mfai : Nat → Int32) (mpto : Nat → Int32) (mwal : Nat → Int32) (mahd : Nat → Int32) (mahf : Nat → Int32) (mcho : Nat → Int32) (mbes : Nat → Int32) (mbyt : Int32) (mtxt : Nat → Int32) (mpos : Int32) (mtka : Int32) (mtok : Int64) (mdig : Int32) (mnum : Int32) (mfau : Int32) (mrdm : Int32) (mrea : Nat → Int32) (mlin : Int32) (mlne : Nat → Int32) (mthg : Nat → Int32) (mord : Nat → Int32) (mbor : Nat → Int32) (mbsm : Int32) (mans : Nat → Int32) (mand : Nat → Int32) (manr : Nat → Int32) (mali : Nat → Int32) (sz : Nat) (ro : Int32) (r_mday : 0 ≤ mday.toInt ∧ mday.toInt ≤ 400) (r_mdoo : 0 ≤ mdoo.toInt ∧ mdoo.toInt ≤ 14) (r_mdA : rg 14 (0) (7) mdA) (r_mdB : rg 14 (0) (7) mdB) (r_mmar : rg 24 (0) (255) mmar) (r_mgai : 0 ≤ mgai.toInt ∧ mgai.toInt ≤ 100) (r_mfal : rg 11 (0) (30) mfal) (r_mtop : rg 48 (-1) (23) mtop) (r_mstr : rg 48 (0) (100) mstr) (r_mgho : rg 48 (-1) (23) mgho) (r_mfai : rg 48 (0) (100) mfai) (r_mahd : rg 240 (0) (100) mahd) (r_mahf : rg 240 (0) (100) mahf) (r_mcho : rg 5 (-1) (9) mcho) (r_mbyt : 0 ≤ mbyt.toInt ∧ mbyt.toInt ≤ 160) (r_mpos : 0 ≤ mpos.toInt ∧ mpos.toInt ≤ 160) (r_mrdm : 0 ≤ mrdm.toInt ∧ mrdm.toInt ≤ 10) (r_mlin : 0 ≤ mlin.toInt ∧ mlin.toInt ≤ 10) (r_mthg : rg 8 (0) (31) mthg) (r_mord : rg 8 (-1) (8) mord) (r_mans : rg 4 (0) (12) mans) : KW l yX10_cost wsX10_cost { frames := 2, cells := 0, slots := 0, locals := 48 } (dC, dI) (TY cI cZ cQ) (wMod cI cZ cQ b mday mdoo mdA mdB mfar mmar mtel mgai mfal mtop mstr mgho mfai mpto mwal mahd mahf mcho mbes mbyt mtxt mpos mtka mtok mdig mnum mfau mrdm mrea mlin mlne mthg mord mbor mbsm mans mand manr mali) [.ref (b 39), .int ro] sz 0 0 (fun (r : Int32) (u : US) => (spCstM mdA mdB mdoo mtop ro r)) (fun u : US => (wMod cI cZ cQ b mday mdoo mdA mdB (u.1 0) mmar mtel mgai mfal mtop mstr mgho mfai mpto mwal mahd mahf mcho mbes mbyt mtxt mpos mtka mtok mdig mnum mfau mrdm mrea mlin mlne mthg mord mbor mbsm mans mand manr mali)) := by
  refine Met.ofW (cc := cX10_cost) (maxL := 2) (ret := (some .int)) (by decide) rfl ?_
  intro p e s m args below meth c s₁ B hml hv
  obtain ⟨rfl, hsz, hP, hK, hD0, hN⟩ := hv
  have hx := B.exec
  have hb := B.bytes
  have hr := B.returns
  have hts := atoms_spec (ws := wsX10_cost) B.pre
  have hown : s.vm.findClass RX10 = some m.cls := findClass_of_methodNamed B.named
  have hlocks := B.notSynchronized
  subst hsz
  have hD := hD0.self (sz := s.heap.size)
  generalize hAe : va_A (wMod cI cZ cQ b mday mdoo mdA mdB mfar mmar mtel mgai mfal mtop mstr mgho mfai mpto mwal mahd mahf mcho mbes mbyt mtxt mpos mtka mtok mdig mnum mfau mrdm mrea mlin mlne mthg mord mbor mbsm mans mand manr mali) s.heap.size = A at hD ⊢
  have hA : ∀ q : Nat, s.heap.size ≤ q → A q := fun q h => by rw [← hAe]; exact Or.inr h
  have hS : va_S A s.heap s.heap [] := va_S.rf
  have hl := lv_entry ([.ref (b 39), .int ro]) (n := 2) (Nat.le_of_ble_eq_true rfl)
  rw [lg_entry_eq]
  generalize (lg_sl ([.ref (b 39), .int ro]) ++ List.replicate (2 - (lg_sl ([.ref (b 39), .int ro])).length) Slot.unset).toArray = ls at hl ⊢
  have hl : lv_has ls 2 [(0, .ref (b 39)), (1, .int ro)] := hl
  refine lv_iload_n hx hb dX10_cost_0 rfl (lv_at hl 1 rfl) ?_
  refine rdS (As := [.int ro]) (rest := []) ⟨hx, hb, hml, hown, hts⟩ (k_X10_isRoom l dC dI cI cZ cQ ro) (va_cwS 1 hts gX10_cost_X10_isRoom rfl rfl rfl (by decide +kernel) ⟨Nat.le_of_ble_eq_true rfl, Nat.le_of_ble_eq_true rfl⟩) hP hK hN [] rfl rfl hl.1 rfl (Nat.le_of_ble_eq_true rfl) dX10_cost_1 ⟨Nat.le_of_ble_eq_true rfl, Nat.le_of_ble_eq_true rfl⟩ (fun r1 h2 => ?_)
  have h2 : ((((r1 = 1) ∧ (0 ≤ ro.toInt) ∧ (ro.toInt ≤ 7)) ∨ ((r1 = 0) ∧ (ro.toInt < 0 ∨ 7 < ro.toInt)))) := h2
  rcases h2 with (⟨rfl, h2_a0, h2_a1⟩ | ⟨rfl, h2_a0⟩)
  · refine lv_if_eq (tgt := 15) hx hb dX10_cost_4 (by decide) (fun c9 => absurd c9 (by decide)) (fun _ => ?_)
    refine lv_aload_n hx hb dX10_cost_7 rfl (lv_at hl 0 rfl) ?_
    refine lv_iload_n hx hb dX10_cost_8 rfl (lv_at hl 1 rfl) ?_
    refine wrV (As := [.int ro]) (rest := []) (wr := []) (w2 := (fun u : US => (wMod cI cZ cQ b mday mdoo mdA mdB (u.1 0) mmar mtel mgai mfal mtop mstr mgho mfai mpto mwal mahd mahf mcho mbes mbyt mtxt mpos mtka mtok mdig mnum mfau mrdm mrea mlin mlne mthg mord mbor mbsm mans mand manr mali))) ⟨hx, hb, hml, hown, hts⟩ (k_X10_costOf2 l dC dI cI cZ cQ b mday mdoo mdA mdB mfar mmar mtel mgai mfal mtop mstr mgho mfai mpto mwal mahd mahf mcho mbes mbyt mtxt mpos mtka mtok mdig mnum mfau mrdm mrea mlin mlne mthg mord mbor mbsm mans mand manr mali _ ro r_mday r_mdoo r_mdA r_mdB r_mmar r_mgai r_mfal r_mtop r_mstr r_mgho r_mfai r_mahd r_mahf r_mcho r_mbyt r_mpos r_mrdm r_mlin r_mthg r_mord r_mans (by omega) (by omega)) (cwV 1 hts gX10_cost_X10_costOf rfl rfl rfl (by decide +kernel) ⟨Nat.le_of_ble_eq_true rfl, Nat.le_of_ble_eq_true rfl⟩) hP hD hS hA hK hN [0, 1, 2, 3, 4, 5, 6, 7, 8, 9, 10, 11, 12, 13, 14, 15, 16, 17, 18, 19, 20, 21, 22, 23, 24, 25] [] [0, 1, 2, 3, 4, 5, 6, 7, 8, 9, 10, 11, 12, 13, 14, 15, 16, 17, 18, 19, 20, 21, 22, 23, 24, 25] rfl rfl (by decide) (by decide) (by decide) (fun _ => rfl) (by decide) 0 10 rfl rfl rfl hl.1 rfl (Nat.le_of_ble_eq_true rfl) dX10_cost_9 ⟨Nat.le_of_ble_eq_true rfl, Nat.le_of_ble_eq_true rfl⟩ (fun r3 u5 H locs h4 hP hD hS => ?_)
    obtain ⟨mfar_c6, emfar_c6⟩ : ∃ f : Nat → Int32, f = (u5.1 0) := ⟨_, rfl⟩
    have hP : va_P (dC, dI) vwCl (wMod cI cZ cQ b mday mdoo mdA mdB mfar_c6 mmar mtel mgai mfal mtop mstr mgho mfai mpto mwal mahd mahf mcho mbes mbyt mtxt mpos mtka mtok mdig mnum mfau mrdm mrea mlin mlne mthg mord mbor mbsm mans mand manr mali) H := by rw [emfar_c6]; exact hP
    have hD : va_D A (wMod cI cZ cQ b mday mdoo mdA mdB mfar_c6 mmar mtel mgai mfal mtop mstr mgho mfai mpto mwal mahd mahf mcho mbes mbyt mtxt mpos mtka mtok mdig mnum mfau mrdm mrea mlin mlne mthg mord mbor mbsm mans mand manr mali) := by rw [emfar_c6]; exact hD
    have h4 : (coM mdA mdB mdoo.toInt mtop ro r3) ∧ (-1 ≤ r3.toInt) ∧ (r3.toInt ≤ 204) := by (try rw [emfar_c6]); exact h4
    obtain ⟨h4_0, h4_1, h4_2⟩ := h4
    refine lv_goto (tgt := 17) hx hb dX10_cost_12 (by decide) ?_
    exact W.iret (v := r3) hx hb hr (fun tq ht hW => ⟨⟨r3, (uS [mfar_c6] 0 (fun _ => 0)), rfl, (show spCstM mdA mdB mdoo mtop ro r3 from by (first | exact Or.inl ⟨by omega, rfl⟩ | exact Or.inr ⟨by omega, by assumption⟩)), by rw [ht]; exact hP, hD⟩, hS.F ht⟩) hS.2.2 dX10_cost_17
  · refine lv_if_eq (tgt := 15) hx hb dX10_cost_4 (by decide) (fun _ => ?_) (fun c9 => absurd (by decide) c9)
    refine lv_bipush (v := (-2)) hx hb dX10_cost_15 (by decide) ?_
    exact W.iret (v := (-2)) hx hb hr (fun tq ht hW => ⟨⟨(-2), (uS [mfar] 0 (fun _ => 0)), rfl, (show spCstM mdA mdB mdoo mtop ro ((-2) : Int32) from by (try rw [show ((-2) : Int32).toInt = (-2) from (show ((-2) : Int32).toInt = (-2) from rfl)]); (first | exact Or.inl ⟨by omega, rfl⟩ | exact Or.inr ⟨by omega, by assumption⟩)), by rw [ht]; exact hP, hD⟩, hS.F ht⟩) hS.2.2 dX10_cost_17
end
section
-- ===== CAUSES =====
def alk (mar : Nat → Int32) (tel x y : Int32) : Prop := tel.toInt ≤ (bc (mar x.toNatClampNeg &&& mar y.toNatClampNeg)).toInt
theorem alk_comm {mar : Nat → Int32} {tel x y : Int32} : alk mar tel x y ↔ alk mar tel y x := by unfold alk; rw [Int32.and_comm]
theorem alk_y {mar : Nat → Int32} {tel x T s : Int32} (e : x = T) (h : tel.toInt ≤ (bc (mar x.toNatClampNeg &&& mar s.toNatClampNeg)).toInt) : alk mar tel T s := by subst e; exact h
theorem alk_n {mar : Nat → Int32} {tel x T s : Int32} (e : x = T) (h : (bc (mar x.toNatClampNeg &&& mar s.toNatClampNeg)).toInt < tel.toInt) : ¬ alk mar tel T s := by subst e; exact Int.not_le.mpr h
theorem alkM_y {mar : Nat → Int32} {tel x y r : Int32} (e : r = bc (mar x.toNatClampNeg &&& mar y.toNatClampNeg)) (h : tel.toInt ≤ r.toInt) : alk mar tel x y := by subst e; exact h
theorem alkM_n {mar : Nat → Int32} {tel x y r : Int32} (e : r = bc (mar x.toNatClampNeg &&& mar y.toNatClampNeg)) (h : r.toInt < tel.toInt) : ¬ alk mar tel x y := by subst e; exact Int.not_le.mpr h
def thP (few : Nat → Int32) (c p : Int32) : Prop := (0 ≤ p.toInt ∧ p.toInt ≤ 47) ∧ p.toInt % 6 = c.toInt % 6 ∧ (few (p.toInt / 6 * 8 + c.toInt / 6).toNat).toInt = 1
def thQ (A B : Nat → Int32) (n : Int) (c p : Int32) : Prop := (0 ≤ p.toInt ∧ p.toInt ≤ 47) ∧ p.toInt % 6 = c.toInt % 6 ∧ eD A B n (p.toInt / 6) (c.toInt / 6)
theorem thP_y {few : Nat → Int32} {c p P u v : Int32} (e : p = P) (hp : 0 ≤ p.toInt ∧ p.toInt ≤ 47) (hm : p.toInt % 6 = c.toInt % 6) (hj : (few (u.toInt * 8 + v.toInt).toNat).toInt = 1) (hu : u.toInt = p.toInt / 6) (hv : v.toInt = c.toInt / 6) : thP few c P := by
  subst e; exact ⟨hp, hm, by rw [← hu, ← hv]; exact hj⟩
theorem thP_n1 {few : Nat → Int32} {c p P : Int32} (e : p = P) (hp : p.toInt < 0) : ¬ thP few c P := by
  subst e; intro h; have := h.1; omega
theorem thP_n2 {few : Nat → Int32} {c p P : Int32} (e : p = P) (hm : p.toInt % 6 ≠ c.toInt % 6) : ¬ thP few c P := by
  subst e; intro h; exact hm h.2.1
theorem thP_n3 {few : Nat → Int32} {c p P u v : Int32} (e : p = P) (hj : (few (u.toInt * 8 + v.toInt).toNat).toInt ≠ 1) (hu : u.toInt = p.toInt / 6) (hv : v.toInt = c.toInt / 6) : ¬ thP few c P := by
  subst e; intro h; have := h.2.2; rw [← hu, ← hv] at this; exact hj this
theorem thQ_y {A B : Nat → Int32} {n : Int} {c p u v : Int32} (hj : eD A B n u.toInt v.toInt) (hu : u.toInt = p.toInt / 6) (hv : v.toInt = c.toInt / 6) (hp : 0 ≤ p.toInt ∧ p.toInt ≤ 47) (hm : p.toInt % 6 = c.toInt % 6) : thQ A B n c p := ⟨hp, hm, by rw [← hu, ← hv]; exact hj⟩
theorem thQ_n {A B : Nat → Int32} {n : Int} {c p : Int32} (h : p.toInt < 0 ∨ p.toInt % 6 ≠ c.toInt % 6) : ¬ thQ A B n c p := fun q => by have := q.1; have := q.2.1; omega
theorem thQ_n3 {A B : Nat → Int32} {n : Int} {c p u v : Int32} (hj : ¬ eD A B n u.toInt v.toInt) (hu : u.toInt = p.toInt / 6) (hv : v.toInt = c.toInt / 6) : ¬ thQ A B n c p := fun q => by have := q.2.2; rw [← hu, ← hv] at this; exact hj this
/-- one cause: its weight where it holds -/
def wgt (P : Prop) (w a : Int) : Prop := (P ∧ a = w) ∨ (¬ P ∧ a = 0)
def cau (W : Int32 → Prop) (L G : Prop) (D : Int32 → Prop) (r : Int32) : Prop := ∃ p : Int32, W p ∧ ∃ a b d : Int, wgt L 1 a ∧ wgt G 2 b ∧ wgt (D p) 4 d ∧ r.toInt = a + b + d
def spCau (W : Int32 → Prop) (L G : Prop) (D : Int32 → Prop) (top : Nat → Int32) (c s r : Int32) : Prop := ((c.toInt < 0 ∨ 47 < c.toInt ∨ s.toInt < 0 ∨ 23 < s.toInt) ∧ r = -2) ∨ ((0 ≤ c.toInt ∧ c.toInt ≤ 47 ∧ 0 ≤ s.toInt ∧ s.toInt ≤ 23) ∧ (((top c.toNatClampNeg = -1 ∨ top c.toNatClampNeg = s) ∧ r = -4) ∨ ((top c.toNatClampNeg ≠ -1 ∧ top c.toNatClampNeg ≠ s) ∧ cau W L G D r)))
theorem cau2 {L G : Prop} {a b r : Int} (h : wgt L 1 a) (h2 : wgt G 2 b) (e : r = a + b) : ∃ a b : Int, wgt L 1 a ∧ wgt G 2 b ∧ r = a + b := ⟨a, b, h, h2, e⟩
theorem cau3 {W : Int32 → Prop} {L G : Prop} {D : Int32 → Prop} {p r : Int32} {q d : Int} (w : W p) (h : ∃ a b : Int, wgt L 1 a ∧ wgt G 2 b ∧ q = a + b) (h3 : wgt (D p) 4 d) (e : r.toInt = q + d) : cau W L G D r := by
  obtain ⟨a, b, x, y, z⟩ := h; exact ⟨p, w, a, b, d, x, y, h3, by omega⟩
theorem wgt_one {P Q : Prop} {w a b : Int} (h : P ↔ Q) (h1 : wgt P w a) (h2 : wgt Q w b) : a = b := by
  rcases h1 with ⟨p, e⟩ | ⟨p, e⟩ <;> rcases h2 with ⟨q, f⟩ | ⟨q, f⟩
  · rw [e, f]
  · exact absurd (h.mp p) q
  · exact absurd (h.mpr q) p
  · rw [e, f]
theorem spCau_rel {few A B mar mm top mt gho ghs str pto wal ms mg mf mp mw : Nat → Int32} {doo n tel mtel c s r r2 : Int32} (R : crR top str gho ghs pto wal mt ms mg mf mp mw) (em : mar = mm) (et : tel = mtel) (Rd : doR few doo A B n) (h1 : spCau (whu top s) (alk mar tel (top c.toNatClampNeg) s) (gho c.toNatClampNeg = s) (thP few c) top c s r) (h2 : spCau (whr mt s) (alk mm mtel s (mt c.toNatClampNeg)) (mg c.toNatClampNeg = s) (thQ A B n.toInt c) mt c s r2) : r = r2 := by
  subst em; subst et
  rcases h1 with ⟨a, b⟩ | ⟨a, b⟩
  · rcases h2 with ⟨a2, b2⟩ | ⟨a2, b2⟩
    · rw [b, b2]
    · exfalso; omega
  · rcases h2 with ⟨a2, b2⟩ | ⟨a2, b2⟩
    · exfalso; omega
    · have R1 := R.1 c.toNatClampNeg (by rw [clC (x := c) rfl]; omega)
      rw [← R1.1, ← R1.2.1] at b2
      rcases b with ⟨t, b⟩ | ⟨t, b⟩
      · rcases b2 with ⟨-, b2⟩ | ⟨u, -⟩
        · rw [b, b2]
        · rcases t with t | t
          · exact absurd t u.1
          · exact absurd t u.2
      · rcases b2 with ⟨u, -⟩ | ⟨-, b2⟩
        · rcases u with u | u
          · exact absurd u t.1
          · exact absurd u t.2
        · obtain ⟨p, wp, x, y, z, wx, wy, wz, b⟩ := b
          obtain ⟨p2, wp2, x2, y2, z2, vx, vy, vz, b2⟩ := b2
          have ep := wh_same (fun j hj => (R.1 j hj).1) wp wp2
          subst ep
          have key : thP few c p ↔ thQ A B n.toInt c p := by
            refine ⟨fun h => ⟨h.1, h.2.1, ?_⟩, fun h => ⟨h.1, h.2.1, ?_⟩⟩
            · have hp := h.1
              have e := (one_dd (few := few) (x := p / 6) (y := c / 6) ⟨by rw [divC rfl (show (6 : Int32).toInt = 6 from rfl) hp.1 (by decide)]; omega, by rw [divC rfl (show (6 : Int32).toInt = 6 from rfl) a.1 (by decide)]; omega⟩)
              rw [divC rfl (show (6 : Int32).toInt = 6 from rfl) hp.1 (by decide), divC rfl (show (6 : Int32).toInt = 6 from rfl) a.1 (by decide)] at e
              have := (Rd.2 _ _ (by omega) (by omega)).mp (e.mp h.2.2)
              rw [show (((p.toInt / 6).toNat : Nat) : Int) = p.toInt / 6 by omega, show (((c.toInt / 6).toNat : Nat) : Int) = c.toInt / 6 by omega] at this
              exact this
            · have hp := h.1
              have e := (one_dd (few := few) (x := p / 6) (y := c / 6) ⟨by rw [divC rfl (show (6 : Int32).toInt = 6 from rfl) hp.1 (by decide)]; omega, by rw [divC rfl (show (6 : Int32).toInt = 6 from rfl) a.1 (by decide)]; omega⟩)
              rw [divC rfl (show (6 : Int32).toInt = 6 from rfl) hp.1 (by decide), divC rfl (show (6 : Int32).toInt = 6 from rfl) a.1 (by decide)] at e
              refine e.mpr ((Rd.2 _ _ (by omega) (by omega)).mpr ?_)
              rw [show (((p.toInt / 6).toNat : Nat) : Int) = p.toInt / 6 by omega, show (((c.toInt / 6).toNat : Nat) : Int) = c.toInt / 6 by omega]
              exact h.2.2
          rw [wgt_one alk_comm wx vx, wgt_one Iff.rfl wy vy, wgt_one key wz vz] at b
          exact Int32.toInt_inj.mp (b.trans b2.symm)
set_option maxHeartbeats 4000000 in
set_option maxRecDepth 100000 in
theorem k_X9_standsThroughDoor2 (l : Launch) (dC : Nat → ClassId) (dI : Nat → Nat → Nat) (cI cZ cQ : ClassId) (a : Nat → Nat) (rb0 : Nat) (rb1 : Nat) (rb2 : Nat) (db0 : Nat) (db1 : Nat) (db2 : Nat) (top : Nat → Int32) (str : Nat → Int32) (gho : Nat → Int32) (ghs : Nat → Int32) (pto : Nat → Int32) (cro : Nat → Int32) (pla : Nat → Int32) (wal : Nat → Int32) (fal : Nat → Int32) (tel : Int32) (gai : Int32) (day : Int32) (mar : Nat → Int32) (few : Nat → Int32) (doo : Int32) (co : Int32) (th : Int32) (r_top : rg 48 (-1) (23) top) (r_str : rg 48 (0) (100) str) (r_gho : rg 48 (-1) (23) gho) (r_ghs : rg 48 (0) (100) ghs) (r_cro : rg 48 (0) (6) cro) (r_pla : rg 24 (-1) (47) pla) (r_fal : rg 11 (0) (30) fal) (r_gai : 0 ≤ gai.toInt ∧ gai.toInt ≤ 100) (r_day : 0 ≤ day.toInt ∧ day.toInt ≤ 400) (r_mar : rg 24 (0) (255) mar) (q0 : 0 ≤ co.toInt) (q1 : co.toInt ≤ 47) (q2 : 0 ≤ th.toInt) (q3 : th.toInt ≤ 23) : KR l yX9_standsThroughDoor wsX9_standsThroughDoor { frames := 2, cells := 0, slots := 0, locals := 44 } (dC, dI) (TY cI cZ cQ) (wsCW cI cZ cQ a rb0 rb1 rb2 db0 db1 db2 top str gho ghs pto cro pla wal fal tel gai day mar few doo) [.ref (a 43), .int co, .int th] (fun r : Int32 => ((((r = 1) ∧ (thP few co (pla th.toNatClampNeg))) ∨ ((r = 0) ∧ (¬ thP few co (pla th.toNatClampNeg)))))) := by
  refine Met.ofW (cc := cX9_standsThroughDoor) (maxL := 4) (ret := (some .boolean)) (by decide) rfl ?_
  intro p e s m args below meth c s₁ B hml hv
  obtain ⟨rfl, hP, hK, hN⟩ := hv
  have hx := B.exec
  have hb := B.bytes
  have hr := B.returns
  have hts := atoms_spec (ws := wsX9_standsThroughDoor) B.pre
  have hown : s.vm.findClass RX9 = some m.cls := findClass_of_methodNamed B.named
  have hlocks := B.notSynchronized
  have lf28 := hts (.fieldLink RX9 28 "PalaceOfRooms" "corners" "LPalaceOfRooms$Corners;") (List.mem_cons_of_mem _ (List.mem_append_left _ (List.mem_append_left _ (List.mem_append_left _ (List.mem_of_getElem? (i := 0) rfl)))))
  have inX9 : ∀ w ∈ wsX90, w ∈ wsX9_standsThroughDoor := fun w h => List.mem_cons_of_mem _ (List.mem_append_left _ (List.mem_append_left _ (List.mem_append_right _ h)))
  have lf128 := hN.use (w := .fieldLinkNest "PalaceOfRooms" 128 "PalaceOfRooms$Corners" "placeOf" "[I" "PalaceOfRooms") (List.mem_of_getElem? (i := 8) rfl) ([.ref (a 43), .int co, .int th] : List Value).toArray
  have inX1 : ∀ w ∈ wsX10, w ∈ wsX9_standsThroughDoor := fun w h => List.mem_cons_of_mem _ (List.mem_append_left _ (List.mem_append_right _ h))
  have lf12 := hts (.fieldLink RX9 12 "PalaceOfRooms" "ways" "LPalaceOfRooms$Ways;") (List.mem_cons_of_mem _ (List.mem_append_left _ (List.mem_append_left _ (List.mem_append_left _ (List.mem_of_getElem? (i := 1) rfl)))))
  have hl := lv_entry ([.ref (a 43), .int co, .int th]) (n := 4) (Nat.le_of_ble_eq_true rfl)
  rw [lg_entry_eq]
  generalize (lg_sl ([.ref (a 43), .int co, .int th]) ++ List.replicate (4 - (lg_sl ([.ref (a 43), .int co, .int th])).length) Slot.unset).toArray = ls at hl ⊢
  have hl : lv_has ls 4 [(0, .ref (a 43)), (1, .int co), (2, .int th)] := hl
  refine lv_aload_n hx hb dX9_standsThroughDoor_0 rfl (lv_at hl 0 rfl) ?_
  refine va_get (D := (dC, dI)) (ci := 9) (v := .ref (a 4)) (C := RX9) (T := TX9) (N := 11) hx hb hts inX9 hown hK hP 0 rfl rfl 2 (by decide) lf28 (fun _ h9 => h9) rfl dX9_standsThroughDoor_1 ?_
  refine va_getN (D := (dC, dI)) (ci := 1) (v := .ref (a 11)) (C := RX1) (T := TX1) (N := 13) hx hb hts inX1 hown hK hP 1 rfl rfl 7 (by decide) lf128 (fun _ h9 => h9) rfl dX9_standsThroughDoor_4 ?_
  refine lv_iload_n hx hb dX9_standsThroughDoor_7 rfl (lv_at hl 2 rfl) ?_
  have b1 : vp_in th 24 := inC rfl (by omega) (by omega)
  refine va_iald hx hb hK hP 8 0 rfl rfl b1 dX9_standsThroughDoor_8 ?_
  have g2 : -1 ≤ (pla th.toNatClampNeg).toInt ∧ (pla th.toNatClampNeg).toInt ≤ 47 := rg_at r_pla b1
  refine lv_topi (fun x3 ex3 => ?_)
  have ix3 : x3.toInt = (pla th.toNatClampNeg).toInt := by rw [ex3]
  refine lv_istore_n (lv' := [(3, .int x3), (0, .ref (a 43)), (1, .int co), (2, .int th)]) hx hb dX9_standsThroughDoor_9 rfl hl (by decide) rfl (fun ls hl => ?_)
  refine lv_iload_n hx hb dX9_standsThroughDoor_10 rfl (lv_at hl 0 rfl) ?_
  refine lv_iconst (v := (-1)) hx hb dX9_standsThroughDoor_11 (by decide) ?_
  refine lv_icmp_eq (tgt := 48) hx hb dX9_standsThroughDoor_12 (by decide) (fun c4 => ?_) (fun c4 => ?_)
  · have dc4 : x3.toInt = (-1) := eqC rfl (show ((-1) : Int32).toInt = (-1) from rfl) c4
    refine lv_iconst (v := 0) hx hb dX9_standsThroughDoor_48 (by decide) ?_
    exact W.zret (v := 0) hx hb hr (by decide) (fun tq ht hW => ⟨0, rfl, (Or.inr (⟨rfl, (show ¬ thP few co (pla th.toNatClampNeg) from by (try rw [show (0 : Int32).toInt = 0 from (show (0 : Int32).toInt = 0 from rfl)]); (first | exact thP_y (by assumption) (by omega) (by omega) (by assumption) (by assumption) (by assumption) | exact thP_n1 (by assumption) (by omega) | exact thP_n2 (by assumption) (by omega) | exact thP_n3 (by assumption) (by assumption) (by assumption) (by assumption)))⟩)), ht⟩) (fun q h => by cases h) dX9_standsThroughDoor_49
  · have dc4 : 0 ≤ x3.toInt := ka_lo (by omega) (neC rfl (show ((-1) : Int32).toInt = (-1) from rfl) c4)
    refine lv_iload_n hx hb dX9_standsThroughDoor_15 rfl (lv_at hl 0 rfl) ?_
    refine lv_bipush (v := 6) hx hb dX9_standsThroughDoor_16 (by decide) ?_
    refine lv_irem hx hb dX9_standsThroughDoor_18 (by decide) ?_
    have f5 : (x3 - x3 / 6 * 6).toInt = (x3.toInt) % (6) := remC rfl (show (6 : Int32).toInt = 6 from rfl) (by omega) (by omega)
    refine lv_iload_n hx hb dX9_standsThroughDoor_19 rfl (lv_at hl 2 rfl) ?_
    refine lv_bipush (v := 6) hx hb dX9_standsThroughDoor_20 (by decide) ?_
    refine lv_irem hx hb dX9_standsThroughDoor_22 (by decide) ?_
    have f6 : (co - co / 6 * 6).toInt = (co.toInt) % (6) := remC rfl (show (6 : Int32).toInt = 6 from rfl) (by omega) (by omega)
    refine lv_icmp_ne (tgt := 48) hx hb dX9_standsThroughDoor_23 (by decide) (fun c7 => ?_) (fun c7 => ?_)
    · have dc7 : (x3.toInt) % (6) ≠ (co.toInt) % (6) := neC f5 f6 c7
      refine lv_iconst (v := 0) hx hb dX9_standsThroughDoor_48 (by decide) ?_
      exact W.zret (v := 0) hx hb hr (by decide) (fun tq ht hW => ⟨0, rfl, (Or.inr (⟨rfl, (show ¬ thP few co (pla th.toNatClampNeg) from by (try rw [show (0 : Int32).toInt = 0 from (show (0 : Int32).toInt = 0 from rfl)]); (first | exact thP_y (by assumption) (by omega) (by omega) (by assumption) (by assumption) (by assumption) | exact thP_n1 (by assumption) (by omega) | exact thP_n2 (by assumption) (by omega) | exact thP_n3 (by assumption) (by assumption) (by assumption) (by assumption)))⟩)), ht⟩) (fun q h => by cases h) dX9_standsThroughDoor_49
    · have dc7 : (x3.toInt) % (6) = (co.toInt) % (6) := eqC f5 f6 c7
      refine lv_aload_n hx hb dX9_standsThroughDoor_26 rfl (lv_at hl 1 rfl) ?_
      refine va_get (D := (dC, dI)) (ci := 9) (v := .ref (a 0)) (C := RX9) (T := TX9) (N := 11) hx hb hts inX9 hown hK hP 0 rfl rfl 0 (by decide) lf12 (fun _ h9 => h9) rfl dX9_standsThroughDoor_27 ?_
      refine lv_iload_n hx hb dX9_standsThroughDoor_30 rfl (lv_at hl 0 rfl) ?_
      refine lv_bipush (v := 6) hx hb dX9_standsThroughDoor_31 (by decide) ?_
      refine lv_idiv hx hb dX9_standsThroughDoor_33 (by decide) ?_
      have f8 : (x3 / 6).toInt = (x3.toInt) / (6) := divC rfl (show (6 : Int32).toInt = 6 from rfl) (by omega) (by omega)
      refine lv_iload_n hx hb dX9_standsThroughDoor_34 rfl (lv_at hl 2 rfl) ?_
      refine lv_bipush (v := 6) hx hb dX9_standsThroughDoor_35 (by decide) ?_
      refine lv_idiv hx hb dX9_standsThroughDoor_37 (by decide) ?_
      have f9 : (co / 6).toInt = (co.toInt) / (6) := divC rfl (show (6 : Int32).toInt = 6 from rfl) (by omega) (by omega)
      refine rdV (As := [.int (x3 / 6), .int (co / 6)]) (rest := []) ⟨hx, hb, hml, hown, hts⟩ (k_X8_joined2 l dC dI cI cZ cQ a few doo (x3 / 6) (co / 6) (by omega) (by omega) (by omega) (by omega)) (cwV 2 hts gX9_standsThroughDoor_X8_joined rfl rfl rfl (by decide +kernel) ⟨Nat.le_of_ble_eq_true rfl, Nat.le_of_ble_eq_true rfl⟩) hP hK hN [13, 14] rfl 13 8 rfl rfl rfl hl.1 rfl (Nat.le_of_ble_eq_true rfl) dX9_standsThroughDoor_38 ⟨Nat.le_of_ble_eq_true rfl, Nat.le_of_ble_eq_true rfl⟩ (fun r10 h11 => ?_)
      have h11 : ((((r10 = 1) ∧ ((few ((x3 / 6).toInt * 8 + (co / 6).toInt).toNat).toInt = 1)) ∨ ((r10 = 0) ∧ ((few ((x3 / 6).toInt * 8 + (co / 6).toInt).toNat).toInt ≠ 1)))) := h11
      rcases h11 with (⟨rfl, h11_a0⟩ | ⟨rfl, h11_a0⟩)
      · refine lv_if_eq (tgt := 48) hx hb dX9_standsThroughDoor_41 (by decide) (fun c9 => absurd c9 (by decide)) (fun _ => ?_)
        refine lv_iconst (v := 1) hx hb dX9_standsThroughDoor_44 (by decide) ?_
        refine lv_goto (tgt := 49) hx hb dX9_standsThroughDoor_45 (by decide) ?_
        exact W.zret (v := 1) hx hb hr (by decide) (fun tq ht hW => ⟨1, rfl, (Or.inl (⟨rfl, (show thP few co (pla th.toNatClampNeg) from by (try rw [show (1 : Int32).toInt = 1 from (show (1 : Int32).toInt = 1 from rfl)]); (first | exact thP_y (by assumption) (by omega) (by omega) (by assumption) (by assumption) (by assumption) | exact thP_n1 (by assumption) (by omega) | exact thP_n2 (by assumption) (by omega) | exact thP_n3 (by assumption) (by assumption) (by assumption) (by assumption)))⟩)), ht⟩) (fun q h => by cases h) dX9_standsThroughDoor_49
      · refine lv_if_eq (tgt := 48) hx hb dX9_standsThroughDoor_41 (by decide) (fun _ => ?_) (fun c9 => absurd (by decide) c9)
        refine lv_iconst (v := 0) hx hb dX9_standsThroughDoor_48 (by decide) ?_
        exact W.zret (v := 0) hx hb hr (by decide) (fun tq ht hW => ⟨0, rfl, (Or.inr (⟨rfl, (show ¬ thP few co (pla th.toNatClampNeg) from by (try rw [show (0 : Int32).toInt = 0 from (show (0 : Int32).toInt = 0 from rfl)]); (first | exact thP_y (by assumption) (by omega) (by omega) (by assumption) (by assumption) (by assumption) | exact thP_n1 (by assumption) (by omega) | exact thP_n2 (by assumption) (by omega) | exact thP_n3 (by assumption) (by assumption) (by assumption) (by assumption)))⟩)), ht⟩) (fun q h => by cases h) dX9_standsThroughDoor_49
set_option maxHeartbeats 4000000 in
set_option maxRecDepth 100000 in
theorem k_X9_causes2 (l : Launch) (dC : Nat → ClassId) (dI : Nat → Nat → Nat) (cI cZ cQ : ClassId) (a : Nat → Nat) (rb0 : Nat) (rb1 : Nat) (rb2 : Nat) (db0 : Nat) (db1 : Nat) (db2 : Nat) (top : Nat → Int32) (str : Nat → Int32) (gho : Nat → Int32) (ghs : Nat → Int32) (pto : Nat → Int32) (cro : Nat → Int32) (pla : Nat → Int32) (wal : Nat → Int32) (fal : Nat → Int32) (tel : Int32) (gai : Int32) (day : Int32) (mar : Nat → Int32) (few : Nat → Int32) (doo : Int32) (co : Int32) (sa : Int32) (r_top : rg 48 (-1) (23) top) (r_str : rg 48 (0) (100) str) (r_gho : rg 48 (-1) (23) gho) (r_ghs : rg 48 (0) (100) ghs) (r_cro : rg 48 (0) (6) cro) (r_pla : rg 24 (-1) (47) pla) (r_fal : rg 11 (0) (30) fal) (r_gai : 0 ≤ gai.toInt ∧ gai.toInt ≤ 100) (r_day : 0 ≤ day.toInt ∧ day.toInt ≤ 400) (r_mar : rg 24 (0) (255) mar) (q0 : plOK top pla) : KR l yX9_causes wsX9_causes { frames := 3, cells := 0, slots := 0, locals := 67 } (dC, dI) (TY cI cZ cQ) (wsCW cI cZ cQ a rb0 rb1 rb2 db0 db1 db2 top str gho ghs pto cro pla wal fal tel gai day mar few doo) [.ref (a 43), .int co, .int sa] (fun r : Int32 => (spCau (whu top sa) (alk mar tel (top co.toNatClampNeg) sa) (gho co.toNatClampNeg = sa) (thP few co) top co sa r)) := by
  refine Met.ofW (cc := cX9_causes) (maxL := 5) (ret := (some .int)) (by decide) rfl ?_
  intro p e s m args below meth c s₁ B hml hv
  obtain ⟨rfl, hP, hK, hN⟩ := hv
  have hx := B.exec
  have hb := B.bytes
  have hr := B.returns
  have hts := atoms_spec (ws := wsX9_causes) B.pre
  have hown : s.vm.findClass RX9 = some m.cls := findClass_of_methodNamed B.named
  have hlocks := B.notSynchronized
  have lf28 := hts (.fieldLink RX9 28 "PalaceOfRooms" "corners" "LPalaceOfRooms$Corners;") (List.mem_cons_of_mem _ (List.mem_append_left _ (List.mem_append_left _ (List.mem_append_left _ (List.mem_append_left _ (List.mem_append_left _ (List.mem_of_getElem? (i := 0) rfl)))))))
  have inX9 : ∀ w ∈ wsX90, w ∈ wsX9_causes := fun w h => List.mem_cons_of_mem _ (List.mem_append_left _ (List.mem_append_left _ (List.mem_append_left _ (List.mem_append_right _ h))))
  have lf131 := hN.use (w := .fieldLinkNest "PalaceOfRooms" 131 "PalaceOfRooms$Corners" "top" "[I" "PalaceOfRooms") (List.mem_of_getElem? (i := 2) rfl) ([.ref (a 43), .int co, .int sa] : List Value).toArray
  have inX1 : ∀ w ∈ wsX10, w ∈ wsX9_causes := fun w h => List.mem_cons_of_mem _ (List.mem_append_left _ (List.mem_append_left _ (List.mem_append_right _ h)))
  have lf144 := hN.use (w := .fieldLinkNest "PalaceOfRooms" 144 "PalaceOfRooms$Corners" "ghost" "[I" "PalaceOfRooms") (List.mem_of_getElem? (i := 5) rfl) ([.ref (a 43), .int co, .int sa] : List Value).toArray
  have hl := lv_entry ([.ref (a 43), .int co, .int sa]) (n := 5) (Nat.le_of_ble_eq_true rfl)
  rw [lg_entry_eq]
  generalize (lg_sl ([.ref (a 43), .int co, .int sa]) ++ List.replicate (5 - (lg_sl ([.ref (a 43), .int co, .int sa])).length) Slot.unset).toArray = ls at hl ⊢
  have hl : lv_has ls 5 [(0, .ref (a 43)), (1, .int co), (2, .int sa)] := hl
  refine lv_iload_n hx hb dX9_causes_0 rfl (lv_at hl 1 rfl) ?_
  refine rdS (As := [.int co]) (rest := []) ⟨hx, hb, hml, hown, hts⟩ (k_X9_isCorner l dC dI cI cZ cQ co) (va_cwS 1 hts gX9_causes_X9_isCorner rfl rfl rfl (by decide +kernel) ⟨Nat.le_of_ble_eq_true rfl, Nat.le_of_ble_eq_true rfl⟩) hP hK hN [] rfl rfl hl.1 rfl (Nat.le_of_ble_eq_true rfl) dX9_causes_1 ⟨Nat.le_of_ble_eq_true rfl, Nat.le_of_ble_eq_true rfl⟩ (fun r1 h2 => ?_)
  have h2 : ((((r1 = 1) ∧ (0 ≤ co.toInt) ∧ (co.toInt ≤ 47)) ∨ ((r1 = 0) ∧ (co.toInt < 0 ∨ 47 < co.toInt)))) := h2
  rcases h2 with (⟨rfl, h2_a0, h2_a1⟩ | ⟨rfl, h2_a0⟩)
  · refine lv_if_eq (tgt := 14) hx hb dX9_causes_4 (by decide) (fun c9 => absurd c9 (by decide)) (fun _ => ?_)
    refine lv_iload_n hx hb dX9_causes_7 rfl (lv_at hl 2 rfl) ?_
    refine rdS (As := [.int sa]) (rest := []) ⟨hx, hb, hml, hown, hts⟩ (k_X9_isThing l dC dI cI cZ cQ sa) (va_cwS 1 hts gX9_causes_X9_isThing rfl rfl rfl (by decide +kernel) ⟨Nat.le_of_ble_eq_true rfl, Nat.le_of_ble_eq_true rfl⟩) hP hK hN [] rfl rfl hl.1 rfl (Nat.le_of_ble_eq_true rfl) dX9_causes_8 ⟨Nat.le_of_ble_eq_true rfl, Nat.le_of_ble_eq_true rfl⟩ (fun r3 h4 => ?_)
    have h4 : ((((r3 = 1) ∧ (0 ≤ sa.toInt) ∧ (sa.toInt ≤ 23)) ∨ ((r3 = 0) ∧ (sa.toInt < 0 ∨ 23 < sa.toInt)))) := h4
    rcases h4 with (⟨rfl, h4_a0, h4_a1⟩ | ⟨rfl, h4_a0⟩)
    · refine lv_if_ne (tgt := 17) hx hb dX9_causes_11 (by decide) (fun _ => ?_) (fun c9 => absurd c9 (by decide))
      refine lv_aload_n hx hb dX9_causes_17 rfl (lv_at hl 0 rfl) ?_
      refine va_get (D := (dC, dI)) (ci := 9) (v := .ref (a 4)) (C := RX9) (T := TX9) (N := 11) hx hb hts inX9 hown hK hP 0 rfl rfl 2 (by decide) lf28 (fun _ h9 => h9) rfl dX9_causes_18 ?_
      refine va_getN (D := (dC, dI)) (ci := 1) (v := .ref (a 5)) (C := RX1) (T := TX1) (N := 13) hx hb hts inX1 hown hK hP 1 rfl rfl 1 (by decide) lf131 (fun _ h9 => h9) rfl dX9_causes_21 ?_
      refine lv_iload_n hx hb dX9_causes_24 rfl (lv_at hl 1 rfl) ?_
      have b5 : vp_in co 48 := inC rfl (by omega) (by omega)
      refine va_iald hx hb hK hP 2 0 rfl rfl b5 dX9_causes_25 ?_
      have g6 : -1 ≤ (top co.toNatClampNeg).toInt ∧ (top co.toNatClampNeg).toInt ≤ 23 := rg_at r_top b5
      refine lv_topi (fun x7 ex7 => ?_)
      have ix7 : x7.toInt = (top co.toNatClampNeg).toInt := by rw [ex7]
      refine lv_istore_n (lv' := [(3, .int x7), (0, .ref (a 43)), (1, .int co), (2, .int sa)]) hx hb dX9_causes_26 rfl hl (by decide) rfl (fun ls hl => ?_)
      refine lv_iload_n hx hb dX9_causes_27 rfl (lv_at hl 0 rfl) ?_
      refine lv_iconst (v := (-1)) hx hb dX9_causes_28 (by decide) ?_
      refine lv_icmp_eq (tgt := 37) hx hb dX9_causes_29 (by decide) (fun c8 => ?_) (fun c8 => ?_)
      · have dc8 : x7.toInt = (-1) := eqC rfl (show ((-1) : Int32).toInt = (-1) from rfl) c8
        refine lv_bipush (v := (-4)) hx hb dX9_causes_37 (by decide) ?_
        exact W.iret (v := (-4)) hx hb hr (fun tq ht hW => ⟨(-4), rfl, (show spCau (whu top sa) (alk mar tel (top co.toNatClampNeg) sa) (gho co.toNatClampNeg = sa) (thP few co) top co sa ((-4) : Int32) from by (try rw [show ((-4) : Int32).toInt = (-4) from (show ((-4) : Int32).toInt = (-4) from rfl)]); (first | exact Or.inl ⟨by omega, rfl⟩ | exact Or.inr ⟨by omega, Or.inl ⟨(by subst_vars; first | exact Or.inr rfl | exact Or.inl (by (first | assumption | exact Eq.symm (by assumption))) | exact Or.inr (by (first | assumption | exact Eq.symm (by assumption)))), rfl⟩⟩ | exact Or.inr ⟨by omega, Or.inr ⟨nt, cau3 (pl_u q0 (by omega) (by omega)) i74_2 (Or.inl ⟨by assumption, rfl⟩) (by omega)⟩⟩ | exact Or.inr ⟨by omega, Or.inr ⟨nt, cau3 (pl_u q0 (by omega) (by omega)) i74_2 (Or.inr ⟨by assumption, rfl⟩) (by omega)⟩⟩)), ht⟩) (fun q h => by cases h) dX9_causes_39
      · have dc8 : 0 ≤ x7.toInt := ka_lo (by omega) (neC rfl (show ((-1) : Int32).toInt = (-1) from rfl) c8)
        refine lv_iload_n hx hb dX9_causes_32 rfl (lv_at hl 0 rfl) ?_
        refine lv_iload_n hx hb dX9_causes_33 rfl (lv_at hl 3 rfl) ?_
        refine lv_icmp_ne (tgt := 40) hx hb dX9_causes_34 (by decide) (fun c9 => ?_) (fun c9 => ?_)
        · have dc9 : x7.toInt ≠ sa.toInt := neC rfl rfl c9
          have nt : top co.toNatClampNeg ≠ -1 ∧ top co.toNatClampNeg ≠ sa := (by subst_vars; exact ⟨by assumption, by assumption⟩)
          refine lv_iconst (v := 0) hx hb dX9_causes_40 (by decide) ?_
          refine lv_istore (lv' := [(4, .int 0), (3, .int x7), (0, .ref (a 43)), (1, .int co), (2, .int sa)]) hx hb dX9_causes_41 hl (by decide) rfl (fun ls hl => ?_)
          have L58 : ∀ (y58_4 : Int32) (ls : Array Slot), (0 ≤ (y58_4.toInt)) → ((y58_4.toInt) ≤ 1) → (wgt (alk mar tel (top co.toNatClampNeg) sa) 1 (y58_4.toInt)) → lv_has ls 5 [(0, .ref (a 43)), (1, .int co), (2, .int sa), (4, .int y58_4)] → W p l e (headSpec wsX9_causes { frames := 3, cells := 0, slots := 0, locals := 67 }).room s m ([.ref (a 43), .int co, .int sa] : List Value).toArray below meth c s.heap [] 0 0 (MQ below (QR (fun r : Int32 => (spCau (whu top sa) (alk mar tel (top co.toNatClampNeg) sa) (gho co.toNatClampNeg = sa) (thP few co) top co sa r))) ([.ref (a 43), .int co, .int sa] : List Value).toArray s 0 0 (fun _ => False)) (F0 m 58 ls []) := by
            intro y58_4 ls i58_0 i58_1 i58_2 hl
            have L74 : ∀ (y74_4 : Int32) (ls : Array Slot), (0 ≤ (y74_4.toInt)) → ((y74_4.toInt) ≤ 3) → (∃ a b : Int, wgt (alk mar tel (top co.toNatClampNeg) sa) 1 a ∧ wgt (gho co.toNatClampNeg = sa) 2 b ∧ (y74_4.toInt) = a + b) → lv_has ls 5 [(0, .ref (a 43)), (1, .int co), (2, .int sa), (4, .int y74_4)] → W p l e (headSpec wsX9_causes { frames := 3, cells := 0, slots := 0, locals := 67 }).room s m ([.ref (a 43), .int co, .int sa] : List Value).toArray below meth c s.heap [] 0 0 (MQ below (QR (fun r : Int32 => (spCau (whu top sa) (alk mar tel (top co.toNatClampNeg) sa) (gho co.toNatClampNeg = sa) (thP few co) top co sa r))) ([.ref (a 43), .int co, .int sa] : List Value).toArray s 0 0 (fun _ => False)) (F0 m 74 ls []) := by
              intro y74_4 ls i74_0 i74_1 i74_2 hl
              refine lv_aload_n hx hb dX9_causes_74 rfl (lv_at hl 0 rfl) ?_
              refine lv_iload_n hx hb dX9_causes_75 rfl (lv_at hl 1 rfl) ?_
              refine lv_iload_n hx hb dX9_causes_76 rfl (lv_at hl 2 rfl) ?_
              refine rdV (As := [.int co, .int sa]) (rest := []) ⟨hx, hb, hml, hown, hts⟩ (k_X9_standsThroughDoor2 l dC dI cI cZ cQ a rb0 rb1 rb2 db0 db1 db2 top str gho ghs pto cro pla wal fal tel gai day mar few doo co sa r_top r_str r_gho r_ghs r_cro r_pla r_fal r_gai r_day r_mar (by omega) (by omega) (by omega) (by omega)) (cwV 2 hts gX9_causes_X9_standsThroughDoor rfl rfl rfl (by decide +kernel) ⟨Nat.le_of_ble_eq_true rfl, Nat.le_of_ble_eq_true rfl⟩) hP hK hN [0, 1, 2, 3, 4, 5, 6, 7, 8, 9, 10, 11, 12, 13, 14] rfl 0 9 rfl rfl rfl hl.1 rfl (Nat.le_of_ble_eq_true rfl) dX9_causes_77 ⟨Nat.le_of_ble_eq_true rfl, Nat.le_of_ble_eq_true rfl⟩ (fun r10 h11 => ?_)
              have h11 : ((((r10 = 1) ∧ (thP few co (pla sa.toNatClampNeg))) ∨ ((r10 = 0) ∧ (¬ thP few co (pla sa.toNatClampNeg))))) := h11
              rcases h11 with (⟨rfl, h11_a0⟩ | ⟨rfl, h11_a0⟩)
              · refine lv_if_eq (tgt := 86) hx hb dX9_causes_80 (by decide) (fun c9 => absurd c9 (by decide)) (fun _ => ?_)
                obtain ⟨z12, ez12⟩ : ∃ y : Int32, y = y74_4 + 4 := ⟨_, rfl⟩
                have iz12 : z12.toInt = y74_4.toInt + 4 := by rw [ez12]; exact addC rfl rfl (by omega) (by omega)
                refine lv_iinc (v := z12) (lv' := [(4, .int z12), (0, .ref (a 43)), (1, .int co), (2, .int sa)]) hx hb dX9_causes_83 hl (k := 3) rfl (by rw [ez12]; rfl) (by decide) rfl (fun ls hl => ?_)
                refine lv_iload hx hb dX9_causes_86 (lv_at hl 0 rfl) ?_
                exact W.iret (v := z12) hx hb hr (fun tq ht hW => ⟨z12, rfl, (show spCau (whu top sa) (alk mar tel (top co.toNatClampNeg) sa) (gho co.toNatClampNeg = sa) (thP few co) top co sa z12 from by (first | exact Or.inl ⟨by omega, rfl⟩ | exact Or.inr ⟨by omega, Or.inl ⟨(by subst_vars; first | exact Or.inr rfl | exact Or.inl (by (first | assumption | exact Eq.symm (by assumption))) | exact Or.inr (by (first | assumption | exact Eq.symm (by assumption)))), rfl⟩⟩ | exact Or.inr ⟨by omega, Or.inr ⟨nt, cau3 (pl_u q0 (by omega) (by omega)) i74_2 (Or.inl ⟨by assumption, rfl⟩) (by omega)⟩⟩ | exact Or.inr ⟨by omega, Or.inr ⟨nt, cau3 (pl_u q0 (by omega) (by omega)) i74_2 (Or.inr ⟨by assumption, rfl⟩) (by omega)⟩⟩)), ht⟩) (fun q h => by cases h) dX9_causes_88
              · refine lv_if_eq (tgt := 86) hx hb dX9_causes_80 (by decide) (fun _ => ?_) (fun c9 => absurd (by decide) c9)
                refine lv_iload hx hb dX9_causes_86 (lv_at hl 3 rfl) ?_
                exact W.iret (v := y74_4) hx hb hr (fun tq ht hW => ⟨y74_4, rfl, (show spCau (whu top sa) (alk mar tel (top co.toNatClampNeg) sa) (gho co.toNatClampNeg = sa) (thP few co) top co sa y74_4 from by (first | exact Or.inl ⟨by omega, rfl⟩ | exact Or.inr ⟨by omega, Or.inl ⟨(by subst_vars; first | exact Or.inr rfl | exact Or.inl (by (first | assumption | exact Eq.symm (by assumption))) | exact Or.inr (by (first | assumption | exact Eq.symm (by assumption)))), rfl⟩⟩ | exact Or.inr ⟨by omega, Or.inr ⟨nt, cau3 (pl_u q0 (by omega) (by omega)) i74_2 (Or.inl ⟨by assumption, rfl⟩) (by omega)⟩⟩ | exact Or.inr ⟨by omega, Or.inr ⟨nt, cau3 (pl_u q0 (by omega) (by omega)) i74_2 (Or.inr ⟨by assumption, rfl⟩) (by omega)⟩⟩)), ht⟩) (fun q h => by cases h) dX9_causes_88
            refine lv_aload_n hx hb dX9_causes_58 rfl (lv_at hl 0 rfl) ?_
            refine va_get (D := (dC, dI)) (ci := 9) (v := .ref (a 4)) (C := RX9) (T := TX9) (N := 11) hx hb hts inX9 hown hK hP 0 rfl rfl 2 (by decide) lf28 (fun _ h9 => h9) rfl dX9_causes_59 ?_
            refine va_getN (D := (dC, dI)) (ci := 1) (v := .ref (a 7)) (C := RX1) (T := TX1) (N := 13) hx hb hts inX1 hown hK hP 1 rfl rfl 3 (by decide) lf144 (fun _ h9 => h9) rfl dX9_causes_62 ?_
            refine lv_iload_n hx hb dX9_causes_65 rfl (lv_at hl 1 rfl) ?_
            have b13 : vp_in co 48 := inC rfl (by omega) (by omega)
            refine va_iald hx hb hK hP 4 0 rfl rfl b13 dX9_causes_66 ?_
            have g14 : -1 ≤ (gho co.toNatClampNeg).toInt ∧ (gho co.toNatClampNeg).toInt ≤ 23 := rg_at r_gho b13
            refine lv_iload_n hx hb dX9_causes_67 rfl (lv_at hl 2 rfl) ?_
            refine lv_icmp_ne (tgt := 74) hx hb dX9_causes_68 (by decide) (fun c15 => ?_) (fun c15 => ?_)
            · have dc15 : (gho co.toNatClampNeg).toInt ≠ sa.toInt := neC rfl rfl c15
              exact L74 y58_4 _ (by omega) (by omega) (by (first | exact cau2 i58_2 (Or.inl ⟨by assumption, rfl⟩) (by omega) | exact cau2 i58_2 (Or.inr ⟨by assumption, rfl⟩) (by omega))) (lv_sub hl [0, 1, 2, 3] rfl)
            · have dc15 : (gho co.toNatClampNeg).toInt = sa.toInt := eqC rfl rfl c15
              obtain ⟨z16, ez16⟩ : ∃ y : Int32, y = y58_4 + 2 := ⟨_, rfl⟩
              have iz16 : z16.toInt = y58_4.toInt + 2 := by rw [ez16]; exact addC rfl rfl (by omega) (by omega)
              refine lv_iinc (v := z16) (lv' := [(4, .int z16), (0, .ref (a 43)), (1, .int co), (2, .int sa)]) hx hb dX9_causes_71 hl (k := 3) rfl (by rw [ez16]; rfl) (by decide) rfl (fun ls hl => ?_)
              exact L74 z16 _ (by omega) (by omega) (by (first | exact cau2 i58_2 (Or.inl ⟨by assumption, rfl⟩) (by omega) | exact cau2 i58_2 (Or.inr ⟨by assumption, rfl⟩) (by omega))) (lv_sub hl [1, 2, 3, 0] rfl)
          refine lv_aload_n hx hb dX9_causes_43 rfl (lv_at hl 2 rfl) ?_
          refine va_get (D := (dC, dI)) (ci := 9) (v := .ref (a 4)) (C := RX9) (T := TX9) (N := 11) hx hb hts inX9 hown hK hP 0 rfl rfl 2 (by decide) lf28 (fun _ h9 => h9) rfl dX9_causes_44 ?_
          refine lv_iload_n hx hb dX9_causes_47 rfl (lv_at hl 1 rfl) ?_
          refine lv_iload_n hx hb dX9_causes_48 rfl (lv_at hl 4 rfl) ?_
          refine rdV (As := [.int x7, .int sa]) (rest := []) ⟨hx, hb, hml, hown, hts⟩ (k_X1_muchAlike2 l dC dI cI cZ cQ a top str gho ghs pto cro pla wal fal tel gai day mar x7 sa r_top r_str r_gho r_ghs r_cro r_pla r_fal r_gai r_day r_mar (by omega) (by omega) (by omega) (by omega)) (cwV 2 hts gX9_causes_X1_muchAlike rfl rfl rfl (by decide +kernel) ⟨Nat.le_of_ble_eq_true rfl, Nat.le_of_ble_eq_true rfl⟩) hP hK hN [1, 2, 3, 4, 5, 6, 7, 8, 9, 10, 11, 12] rfl 1 1 rfl rfl rfl hl.1 rfl (Nat.le_of_ble_eq_true rfl) dX9_causes_49 ⟨Nat.le_of_ble_eq_true rfl, Nat.le_of_ble_eq_true rfl⟩ (fun r17 h18 => ?_)
          have h18 : ((((r17 = 1) ∧ (tel.toInt ≤ (bc (mar x7.toNatClampNeg &&& mar sa.toNatClampNeg)).toInt)) ∨ ((r17 = 0) ∧ ((bc (mar x7.toNatClampNeg &&& mar sa.toNatClampNeg)).toInt < tel.toInt)))) := h18
          rcases h18 with (⟨rfl, h18_a0⟩ | ⟨rfl, h18_a0⟩)
          · refine lv_if_eq (tgt := 58) hx hb dX9_causes_52 (by decide) (fun c9 => absurd c9 (by decide)) (fun _ => ?_)
            obtain ⟨z19, ez19⟩ : ∃ y : Int32, y = 0 + 1 := ⟨_, rfl⟩
            have iz19 : z19.toInt = 0 + 1 := by rw [ez19]; exact addC (show (0 : Int32).toInt = 0 from rfl) rfl (by omega) (by omega)
            refine lv_iinc (v := z19) (lv' := [(4, .int z19), (3, .int x7), (0, .ref (a 43)), (1, .int co), (2, .int sa)]) hx hb dX9_causes_55 hl (k := 0) rfl (by rw [ez19]; rfl) (by decide) rfl (fun ls hl => ?_)
            exact L58 z19 _ (by omega) (by omega) (by (first | exact Or.inl ⟨alk_y (by assumption) (by assumption), by first | rfl | omega⟩ | exact Or.inr ⟨alk_n (by assumption) (by assumption), by first | rfl | omega⟩)) (lv_sub hl [2, 3, 4, 0] rfl)
          · refine lv_if_eq (tgt := 58) hx hb dX9_causes_52 (by decide) (fun _ => ?_) (fun c9 => absurd (by decide) c9)
            have kc20 : (0 : Int32).toInt = 0 := rfl
            exact L58 0 _ (by omega) (by omega) (by (first | exact Or.inl ⟨alk_y (by assumption) (by assumption), by first | rfl | omega⟩ | exact Or.inr ⟨alk_n (by assumption) (by assumption), by first | rfl | omega⟩)) (lv_sub hl [2, 3, 4, 0] rfl)
        · have dc9 : x7.toInt = sa.toInt := eqC rfl rfl c9
          refine lv_bipush (v := (-4)) hx hb dX9_causes_37 (by decide) ?_
          exact W.iret (v := (-4)) hx hb hr (fun tq ht hW => ⟨(-4), rfl, (show spCau (whu top sa) (alk mar tel (top co.toNatClampNeg) sa) (gho co.toNatClampNeg = sa) (thP few co) top co sa ((-4) : Int32) from by (try rw [show ((-4) : Int32).toInt = (-4) from (show ((-4) : Int32).toInt = (-4) from rfl)]); (first | exact Or.inl ⟨by omega, rfl⟩ | exact Or.inr ⟨by omega, Or.inl ⟨(by subst_vars; first | exact Or.inr rfl | exact Or.inl (by (first | assumption | exact Eq.symm (by assumption))) | exact Or.inr (by (first | assumption | exact Eq.symm (by assumption)))), rfl⟩⟩ | exact Or.inr ⟨by omega, Or.inr ⟨nt, cau3 (pl_u q0 (by omega) (by omega)) i74_2 (Or.inl ⟨by assumption, rfl⟩) (by omega)⟩⟩ | exact Or.inr ⟨by omega, Or.inr ⟨nt, cau3 (pl_u q0 (by omega) (by omega)) i74_2 (Or.inr ⟨by assumption, rfl⟩) (by omega)⟩⟩)), ht⟩) (fun q h => by cases h) dX9_causes_39
    · refine lv_if_ne (tgt := 17) hx hb dX9_causes_11 (by decide) (fun c9 => absurd (by decide) c9) (fun _ => ?_)
      refine lv_bipush (v := (-2)) hx hb dX9_causes_14 (by decide) ?_
      exact W.iret (v := (-2)) hx hb hr (fun tq ht hW => ⟨(-2), rfl, (show spCau (whu top sa) (alk mar tel (top co.toNatClampNeg) sa) (gho co.toNatClampNeg = sa) (thP few co) top co sa ((-2) : Int32) from by (try rw [show ((-2) : Int32).toInt = (-2) from (show ((-2) : Int32).toInt = (-2) from rfl)]); (first | exact Or.inl ⟨by omega, rfl⟩ | exact Or.inr ⟨by omega, Or.inl ⟨(by subst_vars; first | exact Or.inr rfl | exact Or.inl (by (first | assumption | exact Eq.symm (by assumption))) | exact Or.inr (by (first | assumption | exact Eq.symm (by assumption)))), rfl⟩⟩ | exact Or.inr ⟨by omega, Or.inr ⟨nt, cau3 (pl_u q0 (by omega) (by omega)) i74_2 (Or.inl ⟨by assumption, rfl⟩) (by omega)⟩⟩ | exact Or.inr ⟨by omega, Or.inr ⟨nt, cau3 (pl_u q0 (by omega) (by omega)) i74_2 (Or.inr ⟨by assumption, rfl⟩) (by omega)⟩⟩)), ht⟩) (fun q h => by cases h) dX9_causes_16
  · refine lv_if_eq (tgt := 14) hx hb dX9_causes_4 (by decide) (fun _ => ?_) (fun c9 => absurd (by decide) c9)
    refine lv_bipush (v := (-2)) hx hb dX9_causes_14 (by decide) ?_
    exact W.iret (v := (-2)) hx hb hr (fun tq ht hW => ⟨(-2), rfl, (show spCau (whu top sa) (alk mar tel (top co.toNatClampNeg) sa) (gho co.toNatClampNeg = sa) (thP few co) top co sa ((-2) : Int32) from by (try rw [show ((-2) : Int32).toInt = (-2) from (show ((-2) : Int32).toInt = (-2) from rfl)]); (first | exact Or.inl ⟨by omega, rfl⟩ | exact Or.inr ⟨by omega, Or.inl ⟨(by subst_vars; first | exact Or.inr rfl | exact Or.inl (by (first | assumption | exact Eq.symm (by assumption))) | exact Or.inr (by (first | assumption | exact Eq.symm (by assumption)))), rfl⟩⟩ | exact Or.inr ⟨by omega, Or.inr ⟨nt, cau3 (pl_u q0 (by omega) (by omega)) i74_2 (Or.inl ⟨by assumption, rfl⟩) (by omega)⟩⟩ | exact Or.inr ⟨by omega, Or.inr ⟨nt, cau3 (pl_u q0 (by omega) (by omega)) i74_2 (Or.inr ⟨by assumption, rfl⟩) (by omega)⟩⟩)), ht⟩) (fun q h => by cases h) dX9_causes_16
set_option maxHeartbeats 4000000 in
set_option maxRecDepth 100000 in
theorem k_X10_causes2 (l : Launch) (dC : Nat → ClassId) (dI : Nat → Nat → Nat) (cI cZ cQ : ClassId) (b : Nat → Nat) (mday : Int32) (mdoo : Int32) (mdA : Nat → Int32) (mdB : Nat → Int32) (mfar : Nat → Int32) (mmar : Nat → Int32) (mtel : Int32) (mgai : Int32) (mfal : Nat → Int32) (mtop : Nat → Int32) (mstr : Nat → Int32) (mgho : Nat → Int32) (mfai : Nat → Int32) (mpto : Nat → Int32) (mwal : Nat → Int32) (mahd : Nat → Int32) (mahf : Nat → Int32) (mcho : Nat → Int32) (mbes : Nat → Int32) (mbyt : Int32) (mtxt : Nat → Int32) (mpos : Int32) (mtka : Int32) (mtok : Int64) (mdig : Int32) (mnum : Int32) (mfau : Int32) (mrdm : Int32) (mrea : Nat → Int32) (mlin : Int32) (mlne : Nat → Int32) (mthg : Nat → Int32) (mord : Nat → Int32) (mbor : Nat → Int32) (mbsm : Int32) (mans : Nat → Int32) (mand : Nat → Int32) (manr : Nat → Int32) (mali : Nat → Int32) (co : Int32) (sa : Int32) (r_mday : 0 ≤ mday.toInt ∧ mday.toInt ≤ 400) (r_mdoo : 0 ≤ mdoo.toInt ∧ mdoo.toInt ≤ 14) (r_mdA : rg 14 (0) (7) mdA) (r_mdB : rg 14 (0) (7) mdB) (r_mmar : rg 24 (0) (255) mmar) (r_mgai : 0 ≤ mgai.toInt ∧ mgai.toInt ≤ 100) (r_mfal : rg 11 (0) (30) mfal) (r_mtop : rg 48 (-1) (23) mtop) (r_mstr : rg 48 (0) (100) mstr) (r_mgho : rg 48 (-1) (23) mgho) (r_mfai : rg 48 (0) (100) mfai) (r_mahd : rg 240 (0) (100) mahd) (r_mahf : rg 240 (0) (100) mahf) (r_mcho : rg 5 (-1) (9) mcho) (r_mbyt : 0 ≤ mbyt.toInt ∧ mbyt.toInt ≤ 160) (r_mpos : 0 ≤ mpos.toInt ∧ mpos.toInt ≤ 160) (r_mrdm : 0 ≤ mrdm.toInt ∧ mrdm.toInt ≤ 10) (r_mlin : 0 ≤ mlin.toInt ∧ mlin.toInt ≤ 10) (r_mthg : rg 8 (0) (31) mthg) (r_mord : rg 8 (-1) (8) mord) (r_mans : rg 4 (0) (12) mans) : KR l yX10_causes wsX10_causes { frames := 2, cells := 0, slots := 0, locals := 42 } (dC, dI) (TY cI cZ cQ) (wMod cI cZ cQ b mday mdoo mdA mdB mfar mmar mtel mgai mfal mtop mstr mgho mfai mpto mwal mahd mahf mcho mbes mbyt mtxt mpos mtka mtok mdig mnum mfau mrdm mrea mlin mlne mthg mord mbor mbsm mans mand manr mali) [.ref (b 39), .int co, .int sa] (fun r : Int32 => (spCau (whr mtop sa) (alk mmar mtel sa (mtop co.toNatClampNeg)) (mgho co.toNatClampNeg = sa) (thQ mdA mdB mdoo.toInt co) mtop co sa r)) := by
  refine Met.ofW (cc := cX10_causes) (maxL := 5) (ret := (some .int)) (by decide) rfl ?_
  intro p e s m args below meth c s₁ B hml hv
  obtain ⟨rfl, hP, hK, hN⟩ := hv
  have hx := B.exec
  have hb := B.bytes
  have hr := B.returns
  have hts := atoms_spec (ws := wsX10_causes) B.pre
  have hown : s.vm.findClass RX10 = some m.cls := findClass_of_methodNamed B.named
  have hlocks := B.notSynchronized
  have lf32 := hts (.fieldLink RX10 32 "PalaceOfRoomsModel" "top" "[I") (List.mem_cons_of_mem _ (List.mem_append_left _ (List.mem_append_left _ (List.mem_of_getElem? (i := 0) rfl))))
  have inX10 : ∀ w ∈ wsX100, w ∈ wsX10_causes := fun w h => List.mem_cons_of_mem _ (List.mem_append_right _ h)
  have lf22 := hts (.fieldLink RX10 22 "PalaceOfRoomsModel" "tell" "I") (List.mem_cons_of_mem _ (List.mem_append_left _ (List.mem_append_left _ (List.mem_of_getElem? (i := 1) rfl))))
  have lf38 := hts (.fieldLink RX10 38 "PalaceOfRoomsModel" "ghost" "[I") (List.mem_cons_of_mem _ (List.mem_append_left _ (List.mem_append_left _ (List.mem_of_getElem? (i := 2) rfl))))
  have hl := lv_entry ([.ref (b 39), .int co, .int sa]) (n := 5) (Nat.le_of_ble_eq_true rfl)
  rw [lg_entry_eq]
  generalize (lg_sl ([.ref (b 39), .int co, .int sa]) ++ List.replicate (5 - (lg_sl ([.ref (b 39), .int co, .int sa])).length) Slot.unset).toArray = ls at hl ⊢
  have hl : lv_has ls 5 [(0, .ref (b 39)), (1, .int co), (2, .int sa)] := hl
  refine lv_iload_n hx hb dX10_causes_0 rfl (lv_at hl 1 rfl) ?_
  refine rdS (As := [.int co]) (rest := []) ⟨hx, hb, hml, hown, hts⟩ (k_X10_isCorner l dC dI cI cZ cQ co) (va_cwS 1 hts gX10_causes_X10_isCorner rfl rfl rfl (by decide +kernel) ⟨Nat.le_of_ble_eq_true rfl, Nat.le_of_ble_eq_true rfl⟩) hP hK hN [] rfl rfl hl.1 rfl (Nat.le_of_ble_eq_true rfl) dX10_causes_1 ⟨Nat.le_of_ble_eq_true rfl, Nat.le_of_ble_eq_true rfl⟩ (fun r1 h2 => ?_)
  have h2 : ((((r1 = 1) ∧ (0 ≤ co.toInt) ∧ (co.toInt ≤ 47)) ∨ ((r1 = 0) ∧ (co.toInt < 0 ∨ 47 < co.toInt)))) := h2
  rcases h2 with (⟨rfl, h2_a0, h2_a1⟩ | ⟨rfl, h2_a0⟩)
  · refine lv_if_eq (tgt := 14) hx hb dX10_causes_4 (by decide) (fun c9 => absurd c9 (by decide)) (fun _ => ?_)
    refine lv_iload_n hx hb dX10_causes_7 rfl (lv_at hl 2 rfl) ?_
    refine rdS (As := [.int sa]) (rest := []) ⟨hx, hb, hml, hown, hts⟩ (k_X10_isThing l dC dI cI cZ cQ sa) (va_cwS 1 hts gX10_causes_X10_isThing rfl rfl rfl (by decide +kernel) ⟨Nat.le_of_ble_eq_true rfl, Nat.le_of_ble_eq_true rfl⟩) hP hK hN [] rfl rfl hl.1 rfl (Nat.le_of_ble_eq_true rfl) dX10_causes_8 ⟨Nat.le_of_ble_eq_true rfl, Nat.le_of_ble_eq_true rfl⟩ (fun r3 h4 => ?_)
    have h4 : ((((r3 = 1) ∧ (0 ≤ sa.toInt) ∧ (sa.toInt ≤ 23)) ∨ ((r3 = 0) ∧ (sa.toInt < 0 ∨ 23 < sa.toInt)))) := h4
    rcases h4 with (⟨rfl, h4_a0, h4_a1⟩ | ⟨rfl, h4_a0⟩)
    · refine lv_if_ne (tgt := 17) hx hb dX10_causes_11 (by decide) (fun _ => ?_) (fun c9 => absurd c9 (by decide))
      refine lv_aload_n hx hb dX10_causes_17 rfl (lv_at hl 0 rfl) ?_
      refine va_get (D := (dC, dI)) (ci := 10) (v := .ref (b 9)) (C := RX10) (T := TX10) (N := 39) hx hb hts inX10 hown hK hP 0 rfl rfl 9 (by decide) lf32 (fun _ h9 => h9) rfl dX10_causes_18 ?_
      refine lv_iload_n hx hb dX10_causes_21 rfl (lv_at hl 1 rfl) ?_
      have b5 : vp_in co 48 := inC rfl (by omega) (by omega)
      refine va_iald hx hb hK hP 6 0 rfl rfl b5 dX10_causes_22 ?_
      have g6 : -1 ≤ (mtop co.toNatClampNeg).toInt ∧ (mtop co.toNatClampNeg).toInt ≤ 23 := rg_at r_mtop b5
      refine lv_iconst (v := (-1)) hx hb dX10_causes_23 (by decide) ?_
      refine lv_icmp_eq (tgt := 37) hx hb dX10_causes_24 (by decide) (fun c7 => ?_) (fun c7 => ?_)
      · have dc7 : (mtop co.toNatClampNeg).toInt = (-1) := eqC rfl (show ((-1) : Int32).toInt = (-1) from rfl) c7
        refine lv_bipush (v := (-4)) hx hb dX10_causes_37 (by decide) ?_
        exact W.iret (v := (-4)) hx hb hr (fun tq ht hW => ⟨(-4), rfl, (show spCau (whr mtop sa) (alk mmar mtel sa (mtop co.toNatClampNeg)) (mgho co.toNatClampNeg = sa) (thQ mdA mdB mdoo.toInt co) mtop co sa ((-4) : Int32) from by (try rw [show ((-4) : Int32).toInt = (-4) from (show ((-4) : Int32).toInt = (-4) from rfl)]); (first | exact Or.inl ⟨by omega, rfl⟩ | exact Or.inr ⟨by omega, Or.inl ⟨(by first | exact Or.inl (by assumption) | exact Or.inr (by assumption)), rfl⟩⟩ | exact Or.inr ⟨by omega, Or.inr ⟨⟨by assumption, by assumption⟩, _, by assumption, _, _, _, (by first | exact Or.inl ⟨alkM_y (by assumption) (by omega), rfl⟩ | exact Or.inr ⟨alkM_n (by assumption) (by omega), rfl⟩), (by first | exact Or.inl ⟨by assumption, rfl⟩ | exact Or.inr ⟨by assumption, rfl⟩), (by first | exact Or.inl ⟨thQ_y (by assumption) (by assumption) (by assumption) (by omega) (by omega), rfl⟩ | exact Or.inr ⟨thQ_n (by omega), rfl⟩ | exact Or.inr ⟨thQ_n3 (by assumption) (by assumption) (by assumption), rfl⟩), by first | rfl | omega⟩⟩)), ht⟩) (fun q h => by cases h) dX10_causes_39
      · have dc7 : 0 ≤ (mtop co.toNatClampNeg).toInt := ka_lo (by omega) (neC rfl (show ((-1) : Int32).toInt = (-1) from rfl) c7)
        refine lv_aload_n hx hb dX10_causes_27 rfl (lv_at hl 0 rfl) ?_
        refine va_get (D := (dC, dI)) (ci := 10) (v := .ref (b 9)) (C := RX10) (T := TX10) (N := 39) hx hb hts inX10 hown hK hP 0 rfl rfl 9 (by decide) lf32 (fun _ h9 => h9) rfl dX10_causes_28 ?_
        refine lv_iload_n hx hb dX10_causes_31 rfl (lv_at hl 1 rfl) ?_
        have b8 : vp_in co 48 := inC rfl (by omega) (by omega)
        refine va_iald hx hb hK hP 6 0 rfl rfl b8 dX10_causes_32 ?_
        have g9 : -1 ≤ (mtop co.toNatClampNeg).toInt ∧ (mtop co.toNatClampNeg).toInt ≤ 23 := rg_at r_mtop b8
        refine lv_iload_n hx hb dX10_causes_33 rfl (lv_at hl 2 rfl) ?_
        refine lv_icmp_ne (tgt := 40) hx hb dX10_causes_34 (by decide) (fun c10 => ?_) (fun c10 => ?_)
        · have dc10 : (mtop co.toNatClampNeg).toInt ≠ sa.toInt := neC rfl rfl c10
          refine lv_aload_n hx hb dX10_causes_40 rfl (lv_at hl 0 rfl) ?_
          refine lv_iload_n hx hb dX10_causes_41 rfl (lv_at hl 2 rfl) ?_
          refine rdV (As := [.int sa]) (rest := []) ⟨hx, hb, hml, hown, hts⟩ (k_X10_cornerOf2 l dC dI cI cZ cQ b mday mdoo mdA mdB mfar mmar mtel mgai mfal mtop mstr mgho mfai mpto mwal mahd mahf mcho mbes mbyt mtxt mpos mtka mtok mdig mnum mfau mrdm mrea mlin mlne mthg mord mbor mbsm mans mand manr mali sa r_mday r_mdoo r_mdA r_mdB r_mmar r_mgai r_mfal r_mtop r_mstr r_mgho r_mfai r_mahd r_mahf r_mcho r_mbyt r_mpos r_mrdm r_mlin r_mthg r_mord r_mans) (cwV 1 hts gX10_causes_X10_cornerOf rfl rfl rfl (by decide +kernel) ⟨Nat.le_of_ble_eq_true rfl, Nat.le_of_ble_eq_true rfl⟩) hP hK hN [0, 1, 2, 3, 4, 5, 6, 7, 8, 9, 10, 11, 12, 13, 14, 15, 16, 17, 18, 19, 20, 21, 22, 23, 24, 25] rfl 0 10 rfl rfl rfl hl.1 rfl (Nat.le_of_ble_eq_true rfl) dX10_causes_42 ⟨Nat.le_of_ble_eq_true rfl, Nat.le_of_ble_eq_true rfl⟩ (fun r11 h12 => ?_)
          have h12 : (-1 ≤ r11.toInt) ∧ (r11.toInt ≤ 47) ∧ (whr mtop sa r11) := h12
          obtain ⟨h12_0, h12_1, h12_2⟩ := h12
          refine lv_istore_n (lv' := [(3, .int r11), (0, .ref (b 39)), (1, .int co), (2, .int sa)]) hx hb dX10_causes_45 rfl hl (by decide) rfl (fun ls hl => ?_)
          refine lv_aload_n hx hb dX10_causes_46 rfl (lv_at hl 1 rfl) ?_
          refine lv_iload_n hx hb dX10_causes_47 rfl (lv_at hl 3 rfl) ?_
          refine lv_aload_n hx hb dX10_causes_48 rfl (lv_at hl 1 rfl) ?_
          refine va_get (D := (dC, dI)) (ci := 10) (v := .ref (b 9)) (C := RX10) (T := TX10) (N := 39) hx hb hts inX10 hown hK hP 0 rfl rfl 9 (by decide) lf32 (fun _ h9 => h9) rfl dX10_causes_49 ?_
          refine lv_iload_n hx hb dX10_causes_52 rfl (lv_at hl 2 rfl) ?_
          have b13 : vp_in co 48 := inC rfl (by omega) (by omega)
          refine va_iald hx hb hK hP 6 0 rfl rfl b13 dX10_causes_53 ?_
          have g14 : -1 ≤ (mtop co.toNatClampNeg).toInt ∧ (mtop co.toNatClampNeg).toInt ≤ 23 := rg_at r_mtop b13
          refine rdV (As := [.int sa, .int (mtop co.toNatClampNeg)]) (rest := []) ⟨hx, hb, hml, hown, hts⟩ (k_X10_likeness l dC dI cI cZ cQ b mday mdoo mdA mdB mfar mmar mtel mgai mfal mtop mstr mgho mfai mpto mwal mahd mahf mcho mbes mbyt mtxt mpos mtka mtok mdig mnum mfau mrdm mrea mlin mlne mthg mord mbor mbsm mans mand manr mali sa (mtop co.toNatClampNeg) r_mday r_mdoo r_mdA r_mdB r_mmar r_mgai r_mfal r_mtop r_mstr r_mgho r_mfai r_mahd r_mahf r_mcho r_mbyt r_mpos r_mrdm r_mlin r_mthg r_mord r_mans (by omega) (by omega) (by omega) (by omega)) (cwV 2 hts gX10_causes_X10_likeness rfl rfl rfl (by decide +kernel) ⟨Nat.le_of_ble_eq_true rfl, Nat.le_of_ble_eq_true rfl⟩) hP hK hN [0, 1, 2, 3, 4, 5, 6, 7, 8, 9, 10, 11, 12, 13, 14, 15, 16, 17, 18, 19, 20, 21, 22, 23, 24, 25] rfl 0 10 rfl rfl rfl hl.1 rfl (Nat.le_of_ble_eq_true rfl) dX10_causes_54 ⟨Nat.le_of_ble_eq_true rfl, Nat.le_of_ble_eq_true rfl⟩ (fun r15 h16 => ?_)
          have h16 : (r15 = bc (mmar sa.toNatClampNeg &&& mmar (mtop co.toNatClampNeg).toNatClampNeg)) := h16
          have h16_0 := h16
          refine lv_aload_n hx hb dX10_causes_57 rfl (lv_at hl 1 rfl) ?_
          refine va_get (D := (dC, dI)) (ci := 10) (v := .int mtel) (C := RX10) (T := TX10) (N := 39) hx hb hts inX10 hown hK hP 0 rfl rfl 6 (by decide) lf22 (fun _ h9 => h9) rfl dX10_causes_58 ?_
          refine lv_icmp_lt (tgt := 68) hx hb dX10_causes_61 (by decide) (fun c17 => ?_) (fun c17 => ?_)
          · have dc17 : r15.toInt < mtel.toInt := ltC rfl rfl c17
            refine lv_iconst (v := 0) hx hb dX10_causes_68 (by decide) ?_
            refine lv_istore (lv' := [(4, .int 0), (3, .int r11), (0, .ref (b 39)), (1, .int co), (2, .int sa)]) hx hb dX10_causes_69 hl (by decide) rfl (fun ls hl => ?_)
            refine lv_iload hx hb dX10_causes_71 (lv_at hl 0 rfl) ?_
            refine lv_aload_n hx hb dX10_causes_73 rfl (lv_at hl 2 rfl) ?_
            refine va_get (D := (dC, dI)) (ci := 10) (v := .ref (b 11)) (C := RX10) (T := TX10) (N := 39) hx hb hts inX10 hown hK hP 0 rfl rfl 11 (by decide) lf38 (fun _ h9 => h9) rfl dX10_causes_74 ?_
            refine lv_iload_n hx hb dX10_causes_77 rfl (lv_at hl 3 rfl) ?_
            have b18 : vp_in co 48 := inC rfl (by omega) (by omega)
            refine va_iald hx hb hK hP 8 0 rfl rfl b18 dX10_causes_78 ?_
            have g19 : -1 ≤ (mgho co.toNatClampNeg).toInt ∧ (mgho co.toNatClampNeg).toInt ≤ 23 := rg_at r_mgho b18
            refine lv_iload_n hx hb dX10_causes_79 rfl (lv_at hl 4 rfl) ?_
            refine lv_icmp_ne (tgt := 87) hx hb dX10_causes_80 (by decide) (fun c20 => ?_) (fun c20 => ?_)
            · have dc20 : (mgho co.toNatClampNeg).toInt ≠ sa.toInt := neC rfl rfl c20
              refine lv_iconst (v := 0) hx hb dX10_causes_87 (by decide) ?_
              refine lv_iadd hx hb dX10_causes_88 ?_
              refine W.eq (g2 := F0 m 89 ls [.int 0]) rfl ?_
              refine lv_istore (lv' := [(4, .int 0), (3, .int r11), (0, .ref (b 39)), (1, .int co), (2, .int sa)]) hx hb dX10_causes_89 hl (by decide) rfl (fun ls hl => ?_)
              refine lv_iload hx hb dX10_causes_91 (lv_at hl 0 rfl) ?_
              refine lv_iload_n hx hb dX10_causes_93 rfl (lv_at hl 1 rfl) ?_
              refine lv_iconst (v := (-1)) hx hb dX10_causes_94 (by decide) ?_
              refine lv_icmp_eq (tgt := 128) hx hb dX10_causes_95 (by decide) (fun c21 => ?_) (fun c21 => ?_)
              · have dc21 : r11.toInt = (-1) := eqC rfl (show ((-1) : Int32).toInt = (-1) from rfl) c21
                refine lv_iconst (v := 0) hx hb dX10_causes_128 (by decide) ?_
                refine lv_iadd hx hb dX10_causes_129 ?_
                refine W.eq (g2 := F0 m 130 ls [.int 0]) rfl ?_
                exact W.iret (v := 0) hx hb hr (fun tq ht hW => ⟨0, rfl, (show spCau (whr mtop sa) (alk mmar mtel sa (mtop co.toNatClampNeg)) (mgho co.toNatClampNeg = sa) (thQ mdA mdB mdoo.toInt co) mtop co sa (0 : Int32) from by (try rw [show (0 : Int32).toInt = 0 from (show (0 : Int32).toInt = 0 from rfl)]); (first | exact Or.inl ⟨by omega, rfl⟩ | exact Or.inr ⟨by omega, Or.inl ⟨(by first | exact Or.inl (by assumption) | exact Or.inr (by assumption)), rfl⟩⟩ | exact Or.inr ⟨by omega, Or.inr ⟨⟨by assumption, by assumption⟩, _, by assumption, _, _, _, (by first | exact Or.inl ⟨alkM_y (by assumption) (by omega), rfl⟩ | exact Or.inr ⟨alkM_n (by assumption) (by omega), rfl⟩), (by first | exact Or.inl ⟨by assumption, rfl⟩ | exact Or.inr ⟨by assumption, rfl⟩), (by first | exact Or.inl ⟨thQ_y (by assumption) (by assumption) (by assumption) (by omega) (by omega), rfl⟩ | exact Or.inr ⟨thQ_n (by omega), rfl⟩ | exact Or.inr ⟨thQ_n3 (by assumption) (by assumption) (by assumption), rfl⟩), by first | rfl | omega⟩⟩)), ht⟩) (fun q h => by cases h) dX10_causes_130
              · have dc21 : 0 ≤ r11.toInt := ka_lo (by omega) (neC rfl (show ((-1) : Int32).toInt = (-1) from rfl) c21)
                refine lv_iload_n hx hb dX10_causes_98 rfl (lv_at hl 1 rfl) ?_
                refine lv_bipush (v := 6) hx hb dX10_causes_99 (by decide) ?_
                refine lv_irem hx hb dX10_causes_101 (by decide) ?_
                have f22 : (r11 - r11 / 6 * 6).toInt = (r11.toInt) % (6) := remC rfl (show (6 : Int32).toInt = 6 from rfl) (by omega) (by omega)
                refine lv_iload_n hx hb dX10_causes_102 rfl (lv_at hl 3 rfl) ?_
                refine lv_bipush (v := 6) hx hb dX10_causes_103 (by decide) ?_
                refine lv_irem hx hb dX10_causes_105 (by decide) ?_
                have f23 : (co - co / 6 * 6).toInt = (co.toInt) % (6) := remC rfl (show (6 : Int32).toInt = 6 from rfl) (by omega) (by omega)
                refine lv_icmp_ne (tgt := 128) hx hb dX10_causes_106 (by decide) (fun c24 => ?_) (fun c24 => ?_)
                · have dc24 : (r11.toInt) % (6) ≠ (co.toInt) % (6) := neC f22 f23 c24
                  refine lv_iconst (v := 0) hx hb dX10_causes_128 (by decide) ?_
                  refine lv_iadd hx hb dX10_causes_129 ?_
                  refine W.eq (g2 := F0 m 130 ls [.int 0]) rfl ?_
                  exact W.iret (v := 0) hx hb hr (fun tq ht hW => ⟨0, rfl, (show spCau (whr mtop sa) (alk mmar mtel sa (mtop co.toNatClampNeg)) (mgho co.toNatClampNeg = sa) (thQ mdA mdB mdoo.toInt co) mtop co sa (0 : Int32) from by (try rw [show (0 : Int32).toInt = 0 from (show (0 : Int32).toInt = 0 from rfl)]); (first | exact Or.inl ⟨by omega, rfl⟩ | exact Or.inr ⟨by omega, Or.inl ⟨(by first | exact Or.inl (by assumption) | exact Or.inr (by assumption)), rfl⟩⟩ | exact Or.inr ⟨by omega, Or.inr ⟨⟨by assumption, by assumption⟩, _, by assumption, _, _, _, (by first | exact Or.inl ⟨alkM_y (by assumption) (by omega), rfl⟩ | exact Or.inr ⟨alkM_n (by assumption) (by omega), rfl⟩), (by first | exact Or.inl ⟨by assumption, rfl⟩ | exact Or.inr ⟨by assumption, rfl⟩), (by first | exact Or.inl ⟨thQ_y (by assumption) (by assumption) (by assumption) (by omega) (by omega), rfl⟩ | exact Or.inr ⟨thQ_n (by omega), rfl⟩ | exact Or.inr ⟨thQ_n3 (by assumption) (by assumption) (by assumption), rfl⟩), by first | rfl | omega⟩⟩)), ht⟩) (fun q h => by cases h) dX10_causes_130
                · have dc24 : (r11.toInt) % (6) = (co.toInt) % (6) := eqC f22 f23 c24
                  refine lv_aload_n hx hb dX10_causes_109 rfl (lv_at hl 2 rfl) ?_
                  refine lv_iload_n hx hb dX10_causes_110 rfl (lv_at hl 1 rfl) ?_
                  refine lv_bipush (v := 6) hx hb dX10_causes_111 (by decide) ?_
                  refine lv_idiv hx hb dX10_causes_113 (by decide) ?_
                  have f25 : (r11 / 6).toInt = (r11.toInt) / (6) := divC rfl (show (6 : Int32).toInt = 6 from rfl) (by omega) (by omega)
                  refine lv_iload_n hx hb dX10_causes_114 rfl (lv_at hl 3 rfl) ?_
                  refine lv_bipush (v := 6) hx hb dX10_causes_115 (by decide) ?_
                  refine lv_idiv hx hb dX10_causes_117 (by decide) ?_
                  have f26 : (co / 6).toInt = (co.toInt) / (6) := divC rfl (show (6 : Int32).toInt = 6 from rfl) (by omega) (by omega)
                  refine rdV (As := [.int (r11 / 6), .int (co / 6)]) (rest := [.int 0]) ⟨hx, hb, hml, hown, hts⟩ (k_X10_areJoined2 l dC dI cI cZ cQ b mday mdoo mdA mdB mfar mmar mtel mgai mfal mtop mstr mgho mfai mpto mwal mahd mahf mcho mbes mbyt mtxt mpos mtka mtok mdig mnum mfau mrdm mrea mlin mlne mthg mord mbor mbsm mans mand manr mali (r11 / 6) (co / 6) r_mday r_mdoo r_mdA r_mdB r_mmar r_mgai r_mfal r_mtop r_mstr r_mgho r_mfai r_mahd r_mahf r_mcho r_mbyt r_mpos r_mrdm r_mlin r_mthg r_mord r_mans) (cwV 2 hts gX10_causes_X10_areJoined rfl rfl rfl (by decide +kernel) ⟨Nat.le_of_ble_eq_true rfl, Nat.le_of_ble_eq_true rfl⟩) hP hK hN [0, 1, 2, 3, 4, 5, 6, 7, 8, 9, 10, 11, 12, 13, 14, 15, 16, 17, 18, 19, 20, 21, 22, 23, 24, 25] rfl 0 10 rfl rfl rfl hl.1 rfl (Nat.le_of_ble_eq_true rfl) dX10_causes_118 ⟨Nat.le_of_ble_eq_true rfl, Nat.le_of_ble_eq_true rfl⟩ (fun r27 h28 => ?_)
                  have h28 : ((((r27 = 1) ∧ (eD mdA mdB mdoo.toInt (r11 / 6).toInt (co / 6).toInt)) ∨ ((r27 = 0) ∧ (¬ eD mdA mdB mdoo.toInt (r11 / 6).toInt (co / 6).toInt)))) := h28
                  rcases h28 with (⟨rfl, h28_a0⟩ | ⟨rfl, h28_a0⟩)
                  · refine lv_if_eq (tgt := 128) hx hb dX10_causes_121 (by decide) (fun c9 => absurd c9 (by decide)) (fun _ => ?_)
                    refine lv_iconst (v := 4) hx hb dX10_causes_124 (by decide) ?_
                    refine lv_goto (tgt := 129) hx hb dX10_causes_125 (by decide) ?_
                    refine lv_iadd hx hb dX10_causes_129 ?_
                    refine W.eq (g2 := F0 m 130 ls [.int 4]) rfl ?_
                    exact W.iret (v := 4) hx hb hr (fun tq ht hW => ⟨4, rfl, (show spCau (whr mtop sa) (alk mmar mtel sa (mtop co.toNatClampNeg)) (mgho co.toNatClampNeg = sa) (thQ mdA mdB mdoo.toInt co) mtop co sa (4 : Int32) from by (try rw [show (4 : Int32).toInt = 4 from (show (4 : Int32).toInt = 4 from rfl)]); (first | exact Or.inl ⟨by omega, rfl⟩ | exact Or.inr ⟨by omega, Or.inl ⟨(by first | exact Or.inl (by assumption) | exact Or.inr (by assumption)), rfl⟩⟩ | exact Or.inr ⟨by omega, Or.inr ⟨⟨by assumption, by assumption⟩, _, by assumption, _, _, _, (by first | exact Or.inl ⟨alkM_y (by assumption) (by omega), rfl⟩ | exact Or.inr ⟨alkM_n (by assumption) (by omega), rfl⟩), (by first | exact Or.inl ⟨by assumption, rfl⟩ | exact Or.inr ⟨by assumption, rfl⟩), (by first | exact Or.inl ⟨thQ_y (by assumption) (by assumption) (by assumption) (by omega) (by omega), rfl⟩ | exact Or.inr ⟨thQ_n (by omega), rfl⟩ | exact Or.inr ⟨thQ_n3 (by assumption) (by assumption) (by assumption), rfl⟩), by first | rfl | omega⟩⟩)), ht⟩) (fun q h => by cases h) dX10_causes_130
                  · refine lv_if_eq (tgt := 128) hx hb dX10_causes_121 (by decide) (fun _ => ?_) (fun c9 => absurd (by decide) c9)
                    refine lv_iconst (v := 0) hx hb dX10_causes_128 (by decide) ?_
                    refine lv_iadd hx hb dX10_causes_129 ?_
                    refine W.eq (g2 := F0 m 130 ls [.int 0]) rfl ?_
                    exact W.iret (v := 0) hx hb hr (fun tq ht hW => ⟨0, rfl, (show spCau (whr mtop sa) (alk mmar mtel sa (mtop co.toNatClampNeg)) (mgho co.toNatClampNeg = sa) (thQ mdA mdB mdoo.toInt co) mtop co sa (0 : Int32) from by (try rw [show (0 : Int32).toInt = 0 from (show (0 : Int32).toInt = 0 from rfl)]); (first | exact Or.inl ⟨by omega, rfl⟩ | exact Or.inr ⟨by omega, Or.inl ⟨(by first | exact Or.inl (by assumption) | exact Or.inr (by assumption)), rfl⟩⟩ | exact Or.inr ⟨by omega, Or.inr ⟨⟨by assumption, by assumption⟩, _, by assumption, _, _, _, (by first | exact Or.inl ⟨alkM_y (by assumption) (by omega), rfl⟩ | exact Or.inr ⟨alkM_n (by assumption) (by omega), rfl⟩), (by first | exact Or.inl ⟨by assumption, rfl⟩ | exact Or.inr ⟨by assumption, rfl⟩), (by first | exact Or.inl ⟨thQ_y (by assumption) (by assumption) (by assumption) (by omega) (by omega), rfl⟩ | exact Or.inr ⟨thQ_n (by omega), rfl⟩ | exact Or.inr ⟨thQ_n3 (by assumption) (by assumption) (by assumption), rfl⟩), by first | rfl | omega⟩⟩)), ht⟩) (fun q h => by cases h) dX10_causes_130
            · have dc20 : (mgho co.toNatClampNeg).toInt = sa.toInt := eqC rfl rfl c20
              refine lv_iconst (v := 2) hx hb dX10_causes_83 (by decide) ?_
              refine lv_goto (tgt := 88) hx hb dX10_causes_84 (by decide) ?_
              refine lv_iadd hx hb dX10_causes_88 ?_
              refine W.eq (g2 := F0 m 89 ls [.int 2]) rfl ?_
              refine lv_istore (lv' := [(4, .int 2), (3, .int r11), (0, .ref (b 39)), (1, .int co), (2, .int sa)]) hx hb dX10_causes_89 hl (by decide) rfl (fun ls hl => ?_)
              refine lv_iload hx hb dX10_causes_91 (lv_at hl 0 rfl) ?_
              refine lv_iload_n hx hb dX10_causes_93 rfl (lv_at hl 1 rfl) ?_
              refine lv_iconst (v := (-1)) hx hb dX10_causes_94 (by decide) ?_
              refine lv_icmp_eq (tgt := 128) hx hb dX10_causes_95 (by decide) (fun c29 => ?_) (fun c29 => ?_)
              · have dc29 : r11.toInt = (-1) := eqC rfl (show ((-1) : Int32).toInt = (-1) from rfl) c29
                refine lv_iconst (v := 0) hx hb dX10_causes_128 (by decide) ?_
                refine lv_iadd hx hb dX10_causes_129 ?_
                refine W.eq (g2 := F0 m 130 ls [.int 2]) rfl ?_
                exact W.iret (v := 2) hx hb hr (fun tq ht hW => ⟨2, rfl, (show spCau (whr mtop sa) (alk mmar mtel sa (mtop co.toNatClampNeg)) (mgho co.toNatClampNeg = sa) (thQ mdA mdB mdoo.toInt co) mtop co sa (2 : Int32) from by (try rw [show (2 : Int32).toInt = 2 from (show (2 : Int32).toInt = 2 from rfl)]); (first | exact Or.inl ⟨by omega, rfl⟩ | exact Or.inr ⟨by omega, Or.inl ⟨(by first | exact Or.inl (by assumption) | exact Or.inr (by assumption)), rfl⟩⟩ | exact Or.inr ⟨by omega, Or.inr ⟨⟨by assumption, by assumption⟩, _, by assumption, _, _, _, (by first | exact Or.inl ⟨alkM_y (by assumption) (by omega), rfl⟩ | exact Or.inr ⟨alkM_n (by assumption) (by omega), rfl⟩), (by first | exact Or.inl ⟨by assumption, rfl⟩ | exact Or.inr ⟨by assumption, rfl⟩), (by first | exact Or.inl ⟨thQ_y (by assumption) (by assumption) (by assumption) (by omega) (by omega), rfl⟩ | exact Or.inr ⟨thQ_n (by omega), rfl⟩ | exact Or.inr ⟨thQ_n3 (by assumption) (by assumption) (by assumption), rfl⟩), by first | rfl | omega⟩⟩)), ht⟩) (fun q h => by cases h) dX10_causes_130
              · have dc29 : 0 ≤ r11.toInt := ka_lo (by omega) (neC rfl (show ((-1) : Int32).toInt = (-1) from rfl) c29)
                refine lv_iload_n hx hb dX10_causes_98 rfl (lv_at hl 1 rfl) ?_
                refine lv_bipush (v := 6) hx hb dX10_causes_99 (by decide) ?_
                refine lv_irem hx hb dX10_causes_101 (by decide) ?_
                have f30 : (r11 - r11 / 6 * 6).toInt = (r11.toInt) % (6) := remC rfl (show (6 : Int32).toInt = 6 from rfl) (by omega) (by omega)
                refine lv_iload_n hx hb dX10_causes_102 rfl (lv_at hl 3 rfl) ?_
                refine lv_bipush (v := 6) hx hb dX10_causes_103 (by decide) ?_
                refine lv_irem hx hb dX10_causes_105 (by decide) ?_
                have f31 : (co - co / 6 * 6).toInt = (co.toInt) % (6) := remC rfl (show (6 : Int32).toInt = 6 from rfl) (by omega) (by omega)
                refine lv_icmp_ne (tgt := 128) hx hb dX10_causes_106 (by decide) (fun c32 => ?_) (fun c32 => ?_)
                · have dc32 : (r11.toInt) % (6) ≠ (co.toInt) % (6) := neC f30 f31 c32
                  refine lv_iconst (v := 0) hx hb dX10_causes_128 (by decide) ?_
                  refine lv_iadd hx hb dX10_causes_129 ?_
                  refine W.eq (g2 := F0 m 130 ls [.int 2]) rfl ?_
                  exact W.iret (v := 2) hx hb hr (fun tq ht hW => ⟨2, rfl, (show spCau (whr mtop sa) (alk mmar mtel sa (mtop co.toNatClampNeg)) (mgho co.toNatClampNeg = sa) (thQ mdA mdB mdoo.toInt co) mtop co sa (2 : Int32) from by (try rw [show (2 : Int32).toInt = 2 from (show (2 : Int32).toInt = 2 from rfl)]); (first | exact Or.inl ⟨by omega, rfl⟩ | exact Or.inr ⟨by omega, Or.inl ⟨(by first | exact Or.inl (by assumption) | exact Or.inr (by assumption)), rfl⟩⟩ | exact Or.inr ⟨by omega, Or.inr ⟨⟨by assumption, by assumption⟩, _, by assumption, _, _, _, (by first | exact Or.inl ⟨alkM_y (by assumption) (by omega), rfl⟩ | exact Or.inr ⟨alkM_n (by assumption) (by omega), rfl⟩), (by first | exact Or.inl ⟨by assumption, rfl⟩ | exact Or.inr ⟨by assumption, rfl⟩), (by first | exact Or.inl ⟨thQ_y (by assumption) (by assumption) (by assumption) (by omega) (by omega), rfl⟩ | exact Or.inr ⟨thQ_n (by omega), rfl⟩ | exact Or.inr ⟨thQ_n3 (by assumption) (by assumption) (by assumption), rfl⟩), by first | rfl | omega⟩⟩)), ht⟩) (fun q h => by cases h) dX10_causes_130
                · have dc32 : (r11.toInt) % (6) = (co.toInt) % (6) := eqC f30 f31 c32
                  refine lv_aload_n hx hb dX10_causes_109 rfl (lv_at hl 2 rfl) ?_
                  refine lv_iload_n hx hb dX10_causes_110 rfl (lv_at hl 1 rfl) ?_
                  refine lv_bipush (v := 6) hx hb dX10_causes_111 (by decide) ?_
                  refine lv_idiv hx hb dX10_causes_113 (by decide) ?_
                  have f33 : (r11 / 6).toInt = (r11.toInt) / (6) := divC rfl (show (6 : Int32).toInt = 6 from rfl) (by omega) (by omega)
                  refine lv_iload_n hx hb dX10_causes_114 rfl (lv_at hl 3 rfl) ?_
                  refine lv_bipush (v := 6) hx hb dX10_causes_115 (by decide) ?_
                  refine lv_idiv hx hb dX10_causes_117 (by decide) ?_
                  have f34 : (co / 6).toInt = (co.toInt) / (6) := divC rfl (show (6 : Int32).toInt = 6 from rfl) (by omega) (by omega)
                  refine rdV (As := [.int (r11 / 6), .int (co / 6)]) (rest := [.int 2]) ⟨hx, hb, hml, hown, hts⟩ (k_X10_areJoined2 l dC dI cI cZ cQ b mday mdoo mdA mdB mfar mmar mtel mgai mfal mtop mstr mgho mfai mpto mwal mahd mahf mcho mbes mbyt mtxt mpos mtka mtok mdig mnum mfau mrdm mrea mlin mlne mthg mord mbor mbsm mans mand manr mali (r11 / 6) (co / 6) r_mday r_mdoo r_mdA r_mdB r_mmar r_mgai r_mfal r_mtop r_mstr r_mgho r_mfai r_mahd r_mahf r_mcho r_mbyt r_mpos r_mrdm r_mlin r_mthg r_mord r_mans) (cwV 2 hts gX10_causes_X10_areJoined rfl rfl rfl (by decide +kernel) ⟨Nat.le_of_ble_eq_true rfl, Nat.le_of_ble_eq_true rfl⟩) hP hK hN [0, 1, 2, 3, 4, 5, 6, 7, 8, 9, 10, 11, 12, 13, 14, 15, 16, 17, 18, 19, 20, 21, 22, 23, 24, 25] rfl 0 10 rfl rfl rfl hl.1 rfl (Nat.le_of_ble_eq_true rfl) dX10_causes_118 ⟨Nat.le_of_ble_eq_true rfl, Nat.le_of_ble_eq_true rfl⟩ (fun r35 h36 => ?_)
                  have h36 : ((((r35 = 1) ∧ (eD mdA mdB mdoo.toInt (r11 / 6).toInt (co / 6).toInt)) ∨ ((r35 = 0) ∧ (¬ eD mdA mdB mdoo.toInt (r11 / 6).toInt (co / 6).toInt)))) := h36
                  rcases h36 with (⟨rfl, h36_a0⟩ | ⟨rfl, h36_a0⟩)
                  · refine lv_if_eq (tgt := 128) hx hb dX10_causes_121 (by decide) (fun c9 => absurd c9 (by decide)) (fun _ => ?_)
                    refine lv_iconst (v := 4) hx hb dX10_causes_124 (by decide) ?_
                    refine lv_goto (tgt := 129) hx hb dX10_causes_125 (by decide) ?_
                    refine lv_iadd hx hb dX10_causes_129 ?_
                    refine W.eq (g2 := F0 m 130 ls [.int 6]) rfl ?_
                    exact W.iret (v := 6) hx hb hr (fun tq ht hW => ⟨6, rfl, (show spCau (whr mtop sa) (alk mmar mtel sa (mtop co.toNatClampNeg)) (mgho co.toNatClampNeg = sa) (thQ mdA mdB mdoo.toInt co) mtop co sa (6 : Int32) from by (try rw [show (6 : Int32).toInt = 6 from (show (6 : Int32).toInt = 6 from rfl)]); (first | exact Or.inl ⟨by omega, rfl⟩ | exact Or.inr ⟨by omega, Or.inl ⟨(by first | exact Or.inl (by assumption) | exact Or.inr (by assumption)), rfl⟩⟩ | exact Or.inr ⟨by omega, Or.inr ⟨⟨by assumption, by assumption⟩, _, by assumption, _, _, _, (by first | exact Or.inl ⟨alkM_y (by assumption) (by omega), rfl⟩ | exact Or.inr ⟨alkM_n (by assumption) (by omega), rfl⟩), (by first | exact Or.inl ⟨by assumption, rfl⟩ | exact Or.inr ⟨by assumption, rfl⟩), (by first | exact Or.inl ⟨thQ_y (by assumption) (by assumption) (by assumption) (by omega) (by omega), rfl⟩ | exact Or.inr ⟨thQ_n (by omega), rfl⟩ | exact Or.inr ⟨thQ_n3 (by assumption) (by assumption) (by assumption), rfl⟩), by first | rfl | omega⟩⟩)), ht⟩) (fun q h => by cases h) dX10_causes_130
                  · refine lv_if_eq (tgt := 128) hx hb dX10_causes_121 (by decide) (fun _ => ?_) (fun c9 => absurd (by decide) c9)
                    refine lv_iconst (v := 0) hx hb dX10_causes_128 (by decide) ?_
                    refine lv_iadd hx hb dX10_causes_129 ?_
                    refine W.eq (g2 := F0 m 130 ls [.int 2]) rfl ?_
                    exact W.iret (v := 2) hx hb hr (fun tq ht hW => ⟨2, rfl, (show spCau (whr mtop sa) (alk mmar mtel sa (mtop co.toNatClampNeg)) (mgho co.toNatClampNeg = sa) (thQ mdA mdB mdoo.toInt co) mtop co sa (2 : Int32) from by (try rw [show (2 : Int32).toInt = 2 from (show (2 : Int32).toInt = 2 from rfl)]); (first | exact Or.inl ⟨by omega, rfl⟩ | exact Or.inr ⟨by omega, Or.inl ⟨(by first | exact Or.inl (by assumption) | exact Or.inr (by assumption)), rfl⟩⟩ | exact Or.inr ⟨by omega, Or.inr ⟨⟨by assumption, by assumption⟩, _, by assumption, _, _, _, (by first | exact Or.inl ⟨alkM_y (by assumption) (by omega), rfl⟩ | exact Or.inr ⟨alkM_n (by assumption) (by omega), rfl⟩), (by first | exact Or.inl ⟨by assumption, rfl⟩ | exact Or.inr ⟨by assumption, rfl⟩), (by first | exact Or.inl ⟨thQ_y (by assumption) (by assumption) (by assumption) (by omega) (by omega), rfl⟩ | exact Or.inr ⟨thQ_n (by omega), rfl⟩ | exact Or.inr ⟨thQ_n3 (by assumption) (by assumption) (by assumption), rfl⟩), by first | rfl | omega⟩⟩)), ht⟩) (fun q h => by cases h) dX10_causes_130
          · have dc17 : mtel.toInt ≤ r15.toInt := nltC rfl rfl c17
            refine lv_iconst (v := 1) hx hb dX10_causes_64 (by decide) ?_
            refine lv_goto (tgt := 69) hx hb dX10_causes_65 (by decide) ?_
            refine lv_istore (lv' := [(4, .int 1), (3, .int r11), (0, .ref (b 39)), (1, .int co), (2, .int sa)]) hx hb dX10_causes_69 hl (by decide) rfl (fun ls hl => ?_)
            refine lv_iload hx hb dX10_causes_71 (lv_at hl 0 rfl) ?_
            refine lv_aload_n hx hb dX10_causes_73 rfl (lv_at hl 2 rfl) ?_
            refine va_get (D := (dC, dI)) (ci := 10) (v := .ref (b 11)) (C := RX10) (T := TX10) (N := 39) hx hb hts inX10 hown hK hP 0 rfl rfl 11 (by decide) lf38 (fun _ h9 => h9) rfl dX10_causes_74 ?_
            refine lv_iload_n hx hb dX10_causes_77 rfl (lv_at hl 3 rfl) ?_
            have b37 : vp_in co 48 := inC rfl (by omega) (by omega)
            refine va_iald hx hb hK hP 8 0 rfl rfl b37 dX10_causes_78 ?_
            have g38 : -1 ≤ (mgho co.toNatClampNeg).toInt ∧ (mgho co.toNatClampNeg).toInt ≤ 23 := rg_at r_mgho b37
            refine lv_iload_n hx hb dX10_causes_79 rfl (lv_at hl 4 rfl) ?_
            refine lv_icmp_ne (tgt := 87) hx hb dX10_causes_80 (by decide) (fun c39 => ?_) (fun c39 => ?_)
            · have dc39 : (mgho co.toNatClampNeg).toInt ≠ sa.toInt := neC rfl rfl c39
              refine lv_iconst (v := 0) hx hb dX10_causes_87 (by decide) ?_
              refine lv_iadd hx hb dX10_causes_88 ?_
              refine W.eq (g2 := F0 m 89 ls [.int 1]) rfl ?_
              refine lv_istore (lv' := [(4, .int 1), (3, .int r11), (0, .ref (b 39)), (1, .int co), (2, .int sa)]) hx hb dX10_causes_89 hl (by decide) rfl (fun ls hl => ?_)
              refine lv_iload hx hb dX10_causes_91 (lv_at hl 0 rfl) ?_
              refine lv_iload_n hx hb dX10_causes_93 rfl (lv_at hl 1 rfl) ?_
              refine lv_iconst (v := (-1)) hx hb dX10_causes_94 (by decide) ?_
              refine lv_icmp_eq (tgt := 128) hx hb dX10_causes_95 (by decide) (fun c40 => ?_) (fun c40 => ?_)
              · have dc40 : r11.toInt = (-1) := eqC rfl (show ((-1) : Int32).toInt = (-1) from rfl) c40
                refine lv_iconst (v := 0) hx hb dX10_causes_128 (by decide) ?_
                refine lv_iadd hx hb dX10_causes_129 ?_
                refine W.eq (g2 := F0 m 130 ls [.int 1]) rfl ?_
                exact W.iret (v := 1) hx hb hr (fun tq ht hW => ⟨1, rfl, (show spCau (whr mtop sa) (alk mmar mtel sa (mtop co.toNatClampNeg)) (mgho co.toNatClampNeg = sa) (thQ mdA mdB mdoo.toInt co) mtop co sa (1 : Int32) from by (try rw [show (1 : Int32).toInt = 1 from (show (1 : Int32).toInt = 1 from rfl)]); (first | exact Or.inl ⟨by omega, rfl⟩ | exact Or.inr ⟨by omega, Or.inl ⟨(by first | exact Or.inl (by assumption) | exact Or.inr (by assumption)), rfl⟩⟩ | exact Or.inr ⟨by omega, Or.inr ⟨⟨by assumption, by assumption⟩, _, by assumption, _, _, _, (by first | exact Or.inl ⟨alkM_y (by assumption) (by omega), rfl⟩ | exact Or.inr ⟨alkM_n (by assumption) (by omega), rfl⟩), (by first | exact Or.inl ⟨by assumption, rfl⟩ | exact Or.inr ⟨by assumption, rfl⟩), (by first | exact Or.inl ⟨thQ_y (by assumption) (by assumption) (by assumption) (by omega) (by omega), rfl⟩ | exact Or.inr ⟨thQ_n (by omega), rfl⟩ | exact Or.inr ⟨thQ_n3 (by assumption) (by assumption) (by assumption), rfl⟩), by first | rfl | omega⟩⟩)), ht⟩) (fun q h => by cases h) dX10_causes_130
              · have dc40 : 0 ≤ r11.toInt := ka_lo (by omega) (neC rfl (show ((-1) : Int32).toInt = (-1) from rfl) c40)
                refine lv_iload_n hx hb dX10_causes_98 rfl (lv_at hl 1 rfl) ?_
                refine lv_bipush (v := 6) hx hb dX10_causes_99 (by decide) ?_
                refine lv_irem hx hb dX10_causes_101 (by decide) ?_
                have f41 : (r11 - r11 / 6 * 6).toInt = (r11.toInt) % (6) := remC rfl (show (6 : Int32).toInt = 6 from rfl) (by omega) (by omega)
                refine lv_iload_n hx hb dX10_causes_102 rfl (lv_at hl 3 rfl) ?_
                refine lv_bipush (v := 6) hx hb dX10_causes_103 (by decide) ?_
                refine lv_irem hx hb dX10_causes_105 (by decide) ?_
                have f42 : (co - co / 6 * 6).toInt = (co.toInt) % (6) := remC rfl (show (6 : Int32).toInt = 6 from rfl) (by omega) (by omega)
                refine lv_icmp_ne (tgt := 128) hx hb dX10_causes_106 (by decide) (fun c43 => ?_) (fun c43 => ?_)
                · have dc43 : (r11.toInt) % (6) ≠ (co.toInt) % (6) := neC f41 f42 c43
                  refine lv_iconst (v := 0) hx hb dX10_causes_128 (by decide) ?_
                  refine lv_iadd hx hb dX10_causes_129 ?_
                  refine W.eq (g2 := F0 m 130 ls [.int 1]) rfl ?_
                  exact W.iret (v := 1) hx hb hr (fun tq ht hW => ⟨1, rfl, (show spCau (whr mtop sa) (alk mmar mtel sa (mtop co.toNatClampNeg)) (mgho co.toNatClampNeg = sa) (thQ mdA mdB mdoo.toInt co) mtop co sa (1 : Int32) from by (try rw [show (1 : Int32).toInt = 1 from (show (1 : Int32).toInt = 1 from rfl)]); (first | exact Or.inl ⟨by omega, rfl⟩ | exact Or.inr ⟨by omega, Or.inl ⟨(by first | exact Or.inl (by assumption) | exact Or.inr (by assumption)), rfl⟩⟩ | exact Or.inr ⟨by omega, Or.inr ⟨⟨by assumption, by assumption⟩, _, by assumption, _, _, _, (by first | exact Or.inl ⟨alkM_y (by assumption) (by omega), rfl⟩ | exact Or.inr ⟨alkM_n (by assumption) (by omega), rfl⟩), (by first | exact Or.inl ⟨by assumption, rfl⟩ | exact Or.inr ⟨by assumption, rfl⟩), (by first | exact Or.inl ⟨thQ_y (by assumption) (by assumption) (by assumption) (by omega) (by omega), rfl⟩ | exact Or.inr ⟨thQ_n (by omega), rfl⟩ | exact Or.inr ⟨thQ_n3 (by assumption) (by assumption) (by assumption), rfl⟩), by first | rfl | omega⟩⟩)), ht⟩) (fun q h => by cases h) dX10_causes_130
                · have dc43 : (r11.toInt) % (6) = (co.toInt) % (6) := eqC f41 f42 c43
                  refine lv_aload_n hx hb dX10_causes_109 rfl (lv_at hl 2 rfl) ?_
                  refine lv_iload_n hx hb dX10_causes_110 rfl (lv_at hl 1 rfl) ?_
                  refine lv_bipush (v := 6) hx hb dX10_causes_111 (by decide) ?_
                  refine lv_idiv hx hb dX10_causes_113 (by decide) ?_
                  have f44 : (r11 / 6).toInt = (r11.toInt) / (6) := divC rfl (show (6 : Int32).toInt = 6 from rfl) (by omega) (by omega)
                  refine lv_iload_n hx hb dX10_causes_114 rfl (lv_at hl 3 rfl) ?_
                  refine lv_bipush (v := 6) hx hb dX10_causes_115 (by decide) ?_
                  refine lv_idiv hx hb dX10_causes_117 (by decide) ?_
                  have f45 : (co / 6).toInt = (co.toInt) / (6) := divC rfl (show (6 : Int32).toInt = 6 from rfl) (by omega) (by omega)
                  refine rdV (As := [.int (r11 / 6), .int (co / 6)]) (rest := [.int 1]) ⟨hx, hb, hml, hown, hts⟩ (k_X10_areJoined2 l dC dI cI cZ cQ b mday mdoo mdA mdB mfar mmar mtel mgai mfal mtop mstr mgho mfai mpto mwal mahd mahf mcho mbes mbyt mtxt mpos mtka mtok mdig mnum mfau mrdm mrea mlin mlne mthg mord mbor mbsm mans mand manr mali (r11 / 6) (co / 6) r_mday r_mdoo r_mdA r_mdB r_mmar r_mgai r_mfal r_mtop r_mstr r_mgho r_mfai r_mahd r_mahf r_mcho r_mbyt r_mpos r_mrdm r_mlin r_mthg r_mord r_mans) (cwV 2 hts gX10_causes_X10_areJoined rfl rfl rfl (by decide +kernel) ⟨Nat.le_of_ble_eq_true rfl, Nat.le_of_ble_eq_true rfl⟩) hP hK hN [0, 1, 2, 3, 4, 5, 6, 7, 8, 9, 10, 11, 12, 13, 14, 15, 16, 17, 18, 19, 20, 21, 22, 23, 24, 25] rfl 0 10 rfl rfl rfl hl.1 rfl (Nat.le_of_ble_eq_true rfl) dX10_causes_118 ⟨Nat.le_of_ble_eq_true rfl, Nat.le_of_ble_eq_true rfl⟩ (fun r46 h47 => ?_)
                  have h47 : ((((r46 = 1) ∧ (eD mdA mdB mdoo.toInt (r11 / 6).toInt (co / 6).toInt)) ∨ ((r46 = 0) ∧ (¬ eD mdA mdB mdoo.toInt (r11 / 6).toInt (co / 6).toInt)))) := h47
                  rcases h47 with (⟨rfl, h47_a0⟩ | ⟨rfl, h47_a0⟩)
                  · refine lv_if_eq (tgt := 128) hx hb dX10_causes_121 (by decide) (fun c9 => absurd c9 (by decide)) (fun _ => ?_)
                    refine lv_iconst (v := 4) hx hb dX10_causes_124 (by decide) ?_
                    refine lv_goto (tgt := 129) hx hb dX10_causes_125 (by decide) ?_
                    refine lv_iadd hx hb dX10_causes_129 ?_
                    refine W.eq (g2 := F0 m 130 ls [.int 5]) rfl ?_
                    exact W.iret (v := 5) hx hb hr (fun tq ht hW => ⟨5, rfl, (show spCau (whr mtop sa) (alk mmar mtel sa (mtop co.toNatClampNeg)) (mgho co.toNatClampNeg = sa) (thQ mdA mdB mdoo.toInt co) mtop co sa (5 : Int32) from by (try rw [show (5 : Int32).toInt = 5 from (show (5 : Int32).toInt = 5 from rfl)]); (first | exact Or.inl ⟨by omega, rfl⟩ | exact Or.inr ⟨by omega, Or.inl ⟨(by first | exact Or.inl (by assumption) | exact Or.inr (by assumption)), rfl⟩⟩ | exact Or.inr ⟨by omega, Or.inr ⟨⟨by assumption, by assumption⟩, _, by assumption, _, _, _, (by first | exact Or.inl ⟨alkM_y (by assumption) (by omega), rfl⟩ | exact Or.inr ⟨alkM_n (by assumption) (by omega), rfl⟩), (by first | exact Or.inl ⟨by assumption, rfl⟩ | exact Or.inr ⟨by assumption, rfl⟩), (by first | exact Or.inl ⟨thQ_y (by assumption) (by assumption) (by assumption) (by omega) (by omega), rfl⟩ | exact Or.inr ⟨thQ_n (by omega), rfl⟩ | exact Or.inr ⟨thQ_n3 (by assumption) (by assumption) (by assumption), rfl⟩), by first | rfl | omega⟩⟩)), ht⟩) (fun q h => by cases h) dX10_causes_130
                  · refine lv_if_eq (tgt := 128) hx hb dX10_causes_121 (by decide) (fun _ => ?_) (fun c9 => absurd (by decide) c9)
                    refine lv_iconst (v := 0) hx hb dX10_causes_128 (by decide) ?_
                    refine lv_iadd hx hb dX10_causes_129 ?_
                    refine W.eq (g2 := F0 m 130 ls [.int 1]) rfl ?_
                    exact W.iret (v := 1) hx hb hr (fun tq ht hW => ⟨1, rfl, (show spCau (whr mtop sa) (alk mmar mtel sa (mtop co.toNatClampNeg)) (mgho co.toNatClampNeg = sa) (thQ mdA mdB mdoo.toInt co) mtop co sa (1 : Int32) from by (try rw [show (1 : Int32).toInt = 1 from (show (1 : Int32).toInt = 1 from rfl)]); (first | exact Or.inl ⟨by omega, rfl⟩ | exact Or.inr ⟨by omega, Or.inl ⟨(by first | exact Or.inl (by assumption) | exact Or.inr (by assumption)), rfl⟩⟩ | exact Or.inr ⟨by omega, Or.inr ⟨⟨by assumption, by assumption⟩, _, by assumption, _, _, _, (by first | exact Or.inl ⟨alkM_y (by assumption) (by omega), rfl⟩ | exact Or.inr ⟨alkM_n (by assumption) (by omega), rfl⟩), (by first | exact Or.inl ⟨by assumption, rfl⟩ | exact Or.inr ⟨by assumption, rfl⟩), (by first | exact Or.inl ⟨thQ_y (by assumption) (by assumption) (by assumption) (by omega) (by omega), rfl⟩ | exact Or.inr ⟨thQ_n (by omega), rfl⟩ | exact Or.inr ⟨thQ_n3 (by assumption) (by assumption) (by assumption), rfl⟩), by first | rfl | omega⟩⟩)), ht⟩) (fun q h => by cases h) dX10_causes_130
            · have dc39 : (mgho co.toNatClampNeg).toInt = sa.toInt := eqC rfl rfl c39
              refine lv_iconst (v := 2) hx hb dX10_causes_83 (by decide) ?_
              refine lv_goto (tgt := 88) hx hb dX10_causes_84 (by decide) ?_
              refine lv_iadd hx hb dX10_causes_88 ?_
              refine W.eq (g2 := F0 m 89 ls [.int 3]) rfl ?_
              refine lv_istore (lv' := [(4, .int 3), (3, .int r11), (0, .ref (b 39)), (1, .int co), (2, .int sa)]) hx hb dX10_causes_89 hl (by decide) rfl (fun ls hl => ?_)
              refine lv_iload hx hb dX10_causes_91 (lv_at hl 0 rfl) ?_
              refine lv_iload_n hx hb dX10_causes_93 rfl (lv_at hl 1 rfl) ?_
              refine lv_iconst (v := (-1)) hx hb dX10_causes_94 (by decide) ?_
              refine lv_icmp_eq (tgt := 128) hx hb dX10_causes_95 (by decide) (fun c48 => ?_) (fun c48 => ?_)
              · have dc48 : r11.toInt = (-1) := eqC rfl (show ((-1) : Int32).toInt = (-1) from rfl) c48
                refine lv_iconst (v := 0) hx hb dX10_causes_128 (by decide) ?_
                refine lv_iadd hx hb dX10_causes_129 ?_
                refine W.eq (g2 := F0 m 130 ls [.int 3]) rfl ?_
                exact W.iret (v := 3) hx hb hr (fun tq ht hW => ⟨3, rfl, (show spCau (whr mtop sa) (alk mmar mtel sa (mtop co.toNatClampNeg)) (mgho co.toNatClampNeg = sa) (thQ mdA mdB mdoo.toInt co) mtop co sa (3 : Int32) from by (try rw [show (3 : Int32).toInt = 3 from (show (3 : Int32).toInt = 3 from rfl)]); (first | exact Or.inl ⟨by omega, rfl⟩ | exact Or.inr ⟨by omega, Or.inl ⟨(by first | exact Or.inl (by assumption) | exact Or.inr (by assumption)), rfl⟩⟩ | exact Or.inr ⟨by omega, Or.inr ⟨⟨by assumption, by assumption⟩, _, by assumption, _, _, _, (by first | exact Or.inl ⟨alkM_y (by assumption) (by omega), rfl⟩ | exact Or.inr ⟨alkM_n (by assumption) (by omega), rfl⟩), (by first | exact Or.inl ⟨by assumption, rfl⟩ | exact Or.inr ⟨by assumption, rfl⟩), (by first | exact Or.inl ⟨thQ_y (by assumption) (by assumption) (by assumption) (by omega) (by omega), rfl⟩ | exact Or.inr ⟨thQ_n (by omega), rfl⟩ | exact Or.inr ⟨thQ_n3 (by assumption) (by assumption) (by assumption), rfl⟩), by first | rfl | omega⟩⟩)), ht⟩) (fun q h => by cases h) dX10_causes_130
              · have dc48 : 0 ≤ r11.toInt := ka_lo (by omega) (neC rfl (show ((-1) : Int32).toInt = (-1) from rfl) c48)
                refine lv_iload_n hx hb dX10_causes_98 rfl (lv_at hl 1 rfl) ?_
                refine lv_bipush (v := 6) hx hb dX10_causes_99 (by decide) ?_
                refine lv_irem hx hb dX10_causes_101 (by decide) ?_
                have f49 : (r11 - r11 / 6 * 6).toInt = (r11.toInt) % (6) := remC rfl (show (6 : Int32).toInt = 6 from rfl) (by omega) (by omega)
                refine lv_iload_n hx hb dX10_causes_102 rfl (lv_at hl 3 rfl) ?_
                refine lv_bipush (v := 6) hx hb dX10_causes_103 (by decide) ?_
                refine lv_irem hx hb dX10_causes_105 (by decide) ?_
                have f50 : (co - co / 6 * 6).toInt = (co.toInt) % (6) := remC rfl (show (6 : Int32).toInt = 6 from rfl) (by omega) (by omega)
                refine lv_icmp_ne (tgt := 128) hx hb dX10_causes_106 (by decide) (fun c51 => ?_) (fun c51 => ?_)
                · have dc51 : (r11.toInt) % (6) ≠ (co.toInt) % (6) := neC f49 f50 c51
                  refine lv_iconst (v := 0) hx hb dX10_causes_128 (by decide) ?_
                  refine lv_iadd hx hb dX10_causes_129 ?_
                  refine W.eq (g2 := F0 m 130 ls [.int 3]) rfl ?_
                  exact W.iret (v := 3) hx hb hr (fun tq ht hW => ⟨3, rfl, (show spCau (whr mtop sa) (alk mmar mtel sa (mtop co.toNatClampNeg)) (mgho co.toNatClampNeg = sa) (thQ mdA mdB mdoo.toInt co) mtop co sa (3 : Int32) from by (try rw [show (3 : Int32).toInt = 3 from (show (3 : Int32).toInt = 3 from rfl)]); (first | exact Or.inl ⟨by omega, rfl⟩ | exact Or.inr ⟨by omega, Or.inl ⟨(by first | exact Or.inl (by assumption) | exact Or.inr (by assumption)), rfl⟩⟩ | exact Or.inr ⟨by omega, Or.inr ⟨⟨by assumption, by assumption⟩, _, by assumption, _, _, _, (by first | exact Or.inl ⟨alkM_y (by assumption) (by omega), rfl⟩ | exact Or.inr ⟨alkM_n (by assumption) (by omega), rfl⟩), (by first | exact Or.inl ⟨by assumption, rfl⟩ | exact Or.inr ⟨by assumption, rfl⟩), (by first | exact Or.inl ⟨thQ_y (by assumption) (by assumption) (by assumption) (by omega) (by omega), rfl⟩ | exact Or.inr ⟨thQ_n (by omega), rfl⟩ | exact Or.inr ⟨thQ_n3 (by assumption) (by assumption) (by assumption), rfl⟩), by first | rfl | omega⟩⟩)), ht⟩) (fun q h => by cases h) dX10_causes_130
                · have dc51 : (r11.toInt) % (6) = (co.toInt) % (6) := eqC f49 f50 c51
                  refine lv_aload_n hx hb dX10_causes_109 rfl (lv_at hl 2 rfl) ?_
                  refine lv_iload_n hx hb dX10_causes_110 rfl (lv_at hl 1 rfl) ?_
                  refine lv_bipush (v := 6) hx hb dX10_causes_111 (by decide) ?_
                  refine lv_idiv hx hb dX10_causes_113 (by decide) ?_
                  have f52 : (r11 / 6).toInt = (r11.toInt) / (6) := divC rfl (show (6 : Int32).toInt = 6 from rfl) (by omega) (by omega)
                  refine lv_iload_n hx hb dX10_causes_114 rfl (lv_at hl 3 rfl) ?_
                  refine lv_bipush (v := 6) hx hb dX10_causes_115 (by decide) ?_
                  refine lv_idiv hx hb dX10_causes_117 (by decide) ?_
                  have f53 : (co / 6).toInt = (co.toInt) / (6) := divC rfl (show (6 : Int32).toInt = 6 from rfl) (by omega) (by omega)
                  refine rdV (As := [.int (r11 / 6), .int (co / 6)]) (rest := [.int 3]) ⟨hx, hb, hml, hown, hts⟩ (k_X10_areJoined2 l dC dI cI cZ cQ b mday mdoo mdA mdB mfar mmar mtel mgai mfal mtop mstr mgho mfai mpto mwal mahd mahf mcho mbes mbyt mtxt mpos mtka mtok mdig mnum mfau mrdm mrea mlin mlne mthg mord mbor mbsm mans mand manr mali (r11 / 6) (co / 6) r_mday r_mdoo r_mdA r_mdB r_mmar r_mgai r_mfal r_mtop r_mstr r_mgho r_mfai r_mahd r_mahf r_mcho r_mbyt r_mpos r_mrdm r_mlin r_mthg r_mord r_mans) (cwV 2 hts gX10_causes_X10_areJoined rfl rfl rfl (by decide +kernel) ⟨Nat.le_of_ble_eq_true rfl, Nat.le_of_ble_eq_true rfl⟩) hP hK hN [0, 1, 2, 3, 4, 5, 6, 7, 8, 9, 10, 11, 12, 13, 14, 15, 16, 17, 18, 19, 20, 21, 22, 23, 24, 25] rfl 0 10 rfl rfl rfl hl.1 rfl (Nat.le_of_ble_eq_true rfl) dX10_causes_118 ⟨Nat.le_of_ble_eq_true rfl, Nat.le_of_ble_eq_true rfl⟩ (fun r54 h55 => ?_)
                  have h55 : ((((r54 = 1) ∧ (eD mdA mdB mdoo.toInt (r11 / 6).toInt (co / 6).toInt)) ∨ ((r54 = 0) ∧ (¬ eD mdA mdB mdoo.toInt (r11 / 6).toInt (co / 6).toInt)))) := h55
                  rcases h55 with (⟨rfl, h55_a0⟩ | ⟨rfl, h55_a0⟩)
                  · refine lv_if_eq (tgt := 128) hx hb dX10_causes_121 (by decide) (fun c9 => absurd c9 (by decide)) (fun _ => ?_)
                    refine lv_iconst (v := 4) hx hb dX10_causes_124 (by decide) ?_
                    refine lv_goto (tgt := 129) hx hb dX10_causes_125 (by decide) ?_
                    refine lv_iadd hx hb dX10_causes_129 ?_
                    refine W.eq (g2 := F0 m 130 ls [.int 7]) rfl ?_
                    exact W.iret (v := 7) hx hb hr (fun tq ht hW => ⟨7, rfl, (show spCau (whr mtop sa) (alk mmar mtel sa (mtop co.toNatClampNeg)) (mgho co.toNatClampNeg = sa) (thQ mdA mdB mdoo.toInt co) mtop co sa (7 : Int32) from by (try rw [show (7 : Int32).toInt = 7 from (show (7 : Int32).toInt = 7 from rfl)]); (first | exact Or.inl ⟨by omega, rfl⟩ | exact Or.inr ⟨by omega, Or.inl ⟨(by first | exact Or.inl (by assumption) | exact Or.inr (by assumption)), rfl⟩⟩ | exact Or.inr ⟨by omega, Or.inr ⟨⟨by assumption, by assumption⟩, _, by assumption, _, _, _, (by first | exact Or.inl ⟨alkM_y (by assumption) (by omega), rfl⟩ | exact Or.inr ⟨alkM_n (by assumption) (by omega), rfl⟩), (by first | exact Or.inl ⟨by assumption, rfl⟩ | exact Or.inr ⟨by assumption, rfl⟩), (by first | exact Or.inl ⟨thQ_y (by assumption) (by assumption) (by assumption) (by omega) (by omega), rfl⟩ | exact Or.inr ⟨thQ_n (by omega), rfl⟩ | exact Or.inr ⟨thQ_n3 (by assumption) (by assumption) (by assumption), rfl⟩), by first | rfl | omega⟩⟩)), ht⟩) (fun q h => by cases h) dX10_causes_130
                  · refine lv_if_eq (tgt := 128) hx hb dX10_causes_121 (by decide) (fun _ => ?_) (fun c9 => absurd (by decide) c9)
                    refine lv_iconst (v := 0) hx hb dX10_causes_128 (by decide) ?_
                    refine lv_iadd hx hb dX10_causes_129 ?_
                    refine W.eq (g2 := F0 m 130 ls [.int 3]) rfl ?_
                    exact W.iret (v := 3) hx hb hr (fun tq ht hW => ⟨3, rfl, (show spCau (whr mtop sa) (alk mmar mtel sa (mtop co.toNatClampNeg)) (mgho co.toNatClampNeg = sa) (thQ mdA mdB mdoo.toInt co) mtop co sa (3 : Int32) from by (try rw [show (3 : Int32).toInt = 3 from (show (3 : Int32).toInt = 3 from rfl)]); (first | exact Or.inl ⟨by omega, rfl⟩ | exact Or.inr ⟨by omega, Or.inl ⟨(by first | exact Or.inl (by assumption) | exact Or.inr (by assumption)), rfl⟩⟩ | exact Or.inr ⟨by omega, Or.inr ⟨⟨by assumption, by assumption⟩, _, by assumption, _, _, _, (by first | exact Or.inl ⟨alkM_y (by assumption) (by omega), rfl⟩ | exact Or.inr ⟨alkM_n (by assumption) (by omega), rfl⟩), (by first | exact Or.inl ⟨by assumption, rfl⟩ | exact Or.inr ⟨by assumption, rfl⟩), (by first | exact Or.inl ⟨thQ_y (by assumption) (by assumption) (by assumption) (by omega) (by omega), rfl⟩ | exact Or.inr ⟨thQ_n (by omega), rfl⟩ | exact Or.inr ⟨thQ_n3 (by assumption) (by assumption) (by assumption), rfl⟩), by first | rfl | omega⟩⟩)), ht⟩) (fun q h => by cases h) dX10_causes_130
        · have dc10 : (mtop co.toNatClampNeg).toInt = sa.toInt := eqC rfl rfl c10
          refine lv_bipush (v := (-4)) hx hb dX10_causes_37 (by decide) ?_
          exact W.iret (v := (-4)) hx hb hr (fun tq ht hW => ⟨(-4), rfl, (show spCau (whr mtop sa) (alk mmar mtel sa (mtop co.toNatClampNeg)) (mgho co.toNatClampNeg = sa) (thQ mdA mdB mdoo.toInt co) mtop co sa ((-4) : Int32) from by (try rw [show ((-4) : Int32).toInt = (-4) from (show ((-4) : Int32).toInt = (-4) from rfl)]); (first | exact Or.inl ⟨by omega, rfl⟩ | exact Or.inr ⟨by omega, Or.inl ⟨(by first | exact Or.inl (by assumption) | exact Or.inr (by assumption)), rfl⟩⟩ | exact Or.inr ⟨by omega, Or.inr ⟨⟨by assumption, by assumption⟩, _, by assumption, _, _, _, (by first | exact Or.inl ⟨alkM_y (by assumption) (by omega), rfl⟩ | exact Or.inr ⟨alkM_n (by assumption) (by omega), rfl⟩), (by first | exact Or.inl ⟨by assumption, rfl⟩ | exact Or.inr ⟨by assumption, rfl⟩), (by first | exact Or.inl ⟨thQ_y (by assumption) (by assumption) (by assumption) (by omega) (by omega), rfl⟩ | exact Or.inr ⟨thQ_n (by omega), rfl⟩ | exact Or.inr ⟨thQ_n3 (by assumption) (by assumption) (by assumption), rfl⟩), by first | rfl | omega⟩⟩)), ht⟩) (fun q h => by cases h) dX10_causes_39
    · refine lv_if_ne (tgt := 17) hx hb dX10_causes_11 (by decide) (fun c9 => absurd (by decide) c9) (fun _ => ?_)
      refine lv_bipush (v := (-2)) hx hb dX10_causes_14 (by decide) ?_
      exact W.iret (v := (-2)) hx hb hr (fun tq ht hW => ⟨(-2), rfl, (show spCau (whr mtop sa) (alk mmar mtel sa (mtop co.toNatClampNeg)) (mgho co.toNatClampNeg = sa) (thQ mdA mdB mdoo.toInt co) mtop co sa ((-2) : Int32) from by (try rw [show ((-2) : Int32).toInt = (-2) from (show ((-2) : Int32).toInt = (-2) from rfl)]); (first | exact Or.inl ⟨by omega, rfl⟩ | exact Or.inr ⟨by omega, Or.inl ⟨(by first | exact Or.inl (by assumption) | exact Or.inr (by assumption)), rfl⟩⟩ | exact Or.inr ⟨by omega, Or.inr ⟨⟨by assumption, by assumption⟩, _, by assumption, _, _, _, (by first | exact Or.inl ⟨alkM_y (by assumption) (by omega), rfl⟩ | exact Or.inr ⟨alkM_n (by assumption) (by omega), rfl⟩), (by first | exact Or.inl ⟨by assumption, rfl⟩ | exact Or.inr ⟨by assumption, rfl⟩), (by first | exact Or.inl ⟨thQ_y (by assumption) (by assumption) (by assumption) (by omega) (by omega), rfl⟩ | exact Or.inr ⟨thQ_n (by omega), rfl⟩ | exact Or.inr ⟨thQ_n3 (by assumption) (by assumption) (by assumption), rfl⟩), by first | rfl | omega⟩⟩)), ht⟩) (fun q h => by cases h) dX10_causes_16
  · refine lv_if_eq (tgt := 14) hx hb dX10_causes_4 (by decide) (fun _ => ?_) (fun c9 => absurd (by decide) c9)
    refine lv_bipush (v := (-2)) hx hb dX10_causes_14 (by decide) ?_
    exact W.iret (v := (-2)) hx hb hr (fun tq ht hW => ⟨(-2), rfl, (show spCau (whr mtop sa) (alk mmar mtel sa (mtop co.toNatClampNeg)) (mgho co.toNatClampNeg = sa) (thQ mdA mdB mdoo.toInt co) mtop co sa ((-2) : Int32) from by (try rw [show ((-2) : Int32).toInt = (-2) from (show ((-2) : Int32).toInt = (-2) from rfl)]); (first | exact Or.inl ⟨by omega, rfl⟩ | exact Or.inr ⟨by omega, Or.inl ⟨(by first | exact Or.inl (by assumption) | exact Or.inr (by assumption)), rfl⟩⟩ | exact Or.inr ⟨by omega, Or.inr ⟨⟨by assumption, by assumption⟩, _, by assumption, _, _, _, (by first | exact Or.inl ⟨alkM_y (by assumption) (by omega), rfl⟩ | exact Or.inr ⟨alkM_n (by assumption) (by omega), rfl⟩), (by first | exact Or.inl ⟨by assumption, rfl⟩ | exact Or.inr ⟨by assumption, rfl⟩), (by first | exact Or.inl ⟨thQ_y (by assumption) (by assumption) (by assumption) (by omega) (by omega), rfl⟩ | exact Or.inr ⟨thQ_n (by omega), rfl⟩ | exact Or.inr ⟨thQ_n3 (by assumption) (by assumption) (by assumption), rfl⟩), by first | rfl | omega⟩⟩)), ht⟩) (fun q h => by cases h) dX10_causes_16
end
