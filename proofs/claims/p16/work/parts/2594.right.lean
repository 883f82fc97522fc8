-- ===== RIGHT: what may be told in its place =====
def agF (mar top str : Nat → Int32) (tel : Int32) (c lo : Nat) : Nat → Int
  | 0 => 0
  | k + 1 => agF mar top str tel c lo k + (if crdB mar top tel (lo + k) c then (str (lo + k)).toInt else 0)
theorem ag_init {mar top str gho ghs : Nat → Int32} {tel : Int32} {c lo N : Nat} {V : Int} (hV : V = (if gho c = -1 then 0 else (ghs c).toInt)) (hN : N = 0) : V = fnt gho ghs c + agF mar top str tel c lo N := by
  subst hN; subst hV
  show _ = fnt gho ghs c + 0
  unfold fnt; omega
theorem ag_yes {mar top str : Nat → Int32} {tel y o w : Int32} {F L R : Int} {N N' : Nat} (h : L = F + agF mar top str tel y.toNatClampNeg w.toNatClampNeg N) (hc : crdB mar top tel o.toNatClampNeg y.toNatClampNeg = true) (hR : R = L + (str o.toNatClampNeg).toInt) (h0 : 0 ≤ w.toInt) (h1 : w.toInt ≤ o.toInt) (hN : N = (o.toInt - w.toInt).toNat) (hN' : N' = N + 1) : R = F + agF mar top str tel y.toNatClampNeg w.toNatClampNeg N' := by
  subst hN'
  have eo : o.toNatClampNeg = w.toNatClampNeg + N := by rw [clC (x := o) rfl, clC (x := w) rfl]; omega
  rw [eo] at hc hR
  show _ = F + (agF mar top str tel y.toNatClampNeg w.toNatClampNeg N + (if crdB mar top tel (w.toNatClampNeg + N) y.toNatClampNeg then (str (w.toNatClampNeg + N)).toInt else 0))
  rw [hc, hR, h, if_pos rfl]; omega
theorem ag_no {mar top str : Nat → Int32} {tel y o w : Int32} {F L R : Int} {N N' : Nat} (h : L = F + agF mar top str tel y.toNatClampNeg w.toNatClampNeg N) (hc : crdB mar top tel o.toNatClampNeg y.toNatClampNeg = false) (hR : R = L) (h0 : 0 ≤ w.toInt) (h1 : w.toInt ≤ o.toInt) (hN : N = (o.toInt - w.toInt).toNat) (hN' : N' = N + 1) : R = F + agF mar top str tel y.toNatClampNeg w.toNatClampNeg N' := by
  subst hN'
  have eo : o.toNatClampNeg = w.toNatClampNeg + N := by rw [clC (x := o) rfl, clC (x := w) rfl]; omega
  rw [eo] at hc
  show _ = F + (agF mar top str tel y.toNatClampNeg w.toNatClampNeg N + (if crdB mar top tel (w.toNatClampNeg + N) y.toNatClampNeg then (str (w.toNatClampNeg + N)).toInt else 0))
  rw [hc, hR, h, if_neg (by decide)]; omega
theorem ag_end {mar top str : Nat → Int32} {tel y w : Int32} {F R : Int} {N : Nat} (h : R = F + agF mar top str tel y.toNatClampNeg w.toNatClampNeg N) (hN : N = 6) (h0 : 0 ≤ y.toInt) (hw : w.toInt = y.toInt - y.toInt % 6) : R = F + agF mar top str tel y.toNatClampNeg (y.toNatClampNeg - y.toNatClampNeg % 6) 6 := by
  subst hN
  rw [h, clC (x := y) rfl, clC (x := w) rfl, show w.toInt.toNat = y.toInt.toNat - y.toInt.toNat % 6 by omega]
def raF (mar top str gho ghs : Nat → Int32) (tel : Int32) (c : Nat) : Int := (str c).toInt + (fnt gho ghs c + agF mar top str tel c (c - c % 6) 6)
def gcF (a b : Int) : Int := ((Nat.gcd a.toNat b.toNat : Nat) : Int)
def rgA (mar top str gho ghs : Nat → Int32) (tel : Int32) (c : Nat) (p r : Int32) : Prop :=
  (raF mar top str gho ghs tel c = 0 ∧ r = -4) ∨ (0 < raF mar top str gho ghs tel c ∧ ((p.toInt = 0 ∧ r.toInt = (str c).toInt / gcF (str c).toInt (raF mar top str gho ghs tel c)) ∨ (p.toInt = 1 ∧ r.toInt = raF mar top str gho ghs tel c / gcF (str c).toInt (raF mar top str gho ghs tel c))))
def spRgt (mar top str gho ghs : Nat → Int32) (tel c p r : Int32) : Prop := ((c.toInt < 0 ∨ 47 < c.toInt) ∧ r = -2) ∨ ((0 ≤ c.toInt ∧ c.toInt ≤ 47) ∧ (p.toInt < 0 ∨ 1 < p.toInt) ∧ r = -3) ∨ ((0 ≤ c.toInt ∧ c.toInt ≤ 47) ∧ (0 ≤ p.toInt ∧ p.toInt ≤ 1) ∧ top c.toNatClampNeg = -1 ∧ r = -4) ∨ ((0 ≤ c.toInt ∧ c.toInt ≤ 47) ∧ (0 ≤ p.toInt ∧ p.toInt ≤ 1) ∧ top c.toNatClampNeg ≠ -1 ∧ rgA mar top str gho ghs tel c.toNatClampNeg p r)
-- greatest common divisor
def gcI (X Y L S k : Int) : Prop := gcF L S = gcF X Y ∧ 0 ≤ S ∧ S ≤ L ∧ L.toNat * S.toNat * 2 ^ k.toNat ≤ 1000000
theorem gc_comm {a b : Int} : gcF a b = gcF b a := by unfold gcF; rw [Nat.gcd_comm]
theorem gc_init {X Y L S k : Int} (hL : L = max X Y) (hS : S = min X Y) (h0 : 0 ≤ X) (h1 : 0 ≤ Y) (h2 : X ≤ 1000) (h3 : Y ≤ 1000) (hk : k = 0) : gcI X Y L S k := by
  subst hk
  refine ⟨?_, by omega, by omega, ?_⟩
  · rcases Int.le_total X Y with h | h
    · rw [hL, hS, Int.max_eq_right h, Int.min_eq_left h, gc_comm]
    · rw [hL, hS, Int.max_eq_left h, Int.min_eq_right h]
  · show L.toNat * S.toNat * 1 ≤ 1000000
    have e : L.toNat * S.toNat ≤ 1000 * 1000 := Nat.mul_le_mul (by omega) (by omega)
    omega
theorem gc_mod {L S : Int} (hS : 0 < S) (hL : 0 ≤ L) : gcF S (L % S) = gcF L S := by
  unfold gcF
  have e : (L % S).toNat = L.toNat % S.toNat := by
    obtain ⟨l, rfl⟩ := Int.eq_ofNat_of_zero_le hL
    obtain ⟨s, rfl⟩ := Int.eq_ofNat_of_zero_le (Int.le_of_lt hS)
    show ((l : Int) % (s : Int)).toNat = l % s
    rw [← Int.natCast_emod]; rfl
  rw [e, Nat.gcd_comm S.toNat, ← Nat.gcd_rec, Nat.gcd_comm]
theorem gc_step {X Y L S L' S' k k' : Int} (q : gcI X Y L S k) (hS : 0 < S) (hL : L' = S) (hS' : S' = L % S) (h0 : 0 ≤ k) (hk : k' = k + 1) : gcI X Y L' S' k' := by
  subst hL; subst hS'; subst hk
  obtain ⟨q1, q2, q3, q4⟩ := q
  have m1 := Int.emod_nonneg L (b := L') (by omega)
  have m2 := Int.emod_lt_of_pos L hS
  refine ⟨by rw [gc_mod hS (by omega)]; exact q1, m1, by omega, ?_⟩
  have h2 : 2 * (L % L').toNat ≤ L.toNat := by
    have e := Int.emod_add_mul_ediv L L'
    have d1 : 1 ≤ L / L' := by
      have := Int.ediv_le_ediv hS q3
      rwa [Int.ediv_self (by omega)] at this
    have d2 : L' ≤ L' * (L / L') := by
      have := Int.mul_le_mul_of_nonneg_left d1 (show 0 ≤ L' by omega)
      omega
    omega
  rw [show (k + 1).toNat = k.toNat + 1 by omega, Nat.pow_succ]
  have e3 : L'.toNat * (L % L').toNat * (2 ^ k.toNat * 2) = L'.toNat * (2 * (L % L').toNat) * 2 ^ k.toNat := by
    rw [Nat.mul_comm (2 ^ k.toNat) 2, ← Nat.mul_assoc, Nat.mul_assoc L'.toNat, Nat.mul_comm (L % L').toNat 2]
  rw [e3]
  refine Nat.le_trans (Nat.mul_le_mul_right _ (Nat.mul_le_mul_left _ h2)) ?_
  rw [Nat.mul_comm L'.toNat]; exact q4
theorem gc_end {X Y L S k : Int} (q : gcI X Y L S k) (h : S ≤ 0 ∨ 64 ≤ k) : L = gcF X Y := by
  obtain ⟨q1, q2, q3, q4⟩ := q
  have hS : S = 0 := by
    rcases h with h | h
    · omega
    · refine Classical.byContradiction fun c => ?_
      have a1 : 1 ≤ L.toNat * S.toNat := Nat.mul_pos (by omega) (by omega)
      have a2 : 2 ^ 64 ≤ 2 ^ k.toNat := Nat.pow_le_pow_right (by decide) (by omega)
      have a3 := Nat.mul_le_mul a1 a2
      omega
  rw [← q1, hS]
  unfold gcF
  show L = ((Nat.gcd L.toNat 0 : Nat) : Int)
  rw [Nat.gcd_zero_right]; omega
theorem gc_pos {a b : Int} (ha : 0 ≤ a) (hb : a ≤ b) (h : 0 < gcF a b) : 0 < b := by
  refine Classical.byContradiction fun c => ?_
  have e1 : b = 0 := by omega
  have e2 : a = 0 := by omega
  subst e1; subst e2
  exact absurd h (by decide)
theorem gc_zero {a b : Int} (h0 : 0 ≤ b) (h : gcF a b ≤ 0) : b = 0 := by
  have e : Nat.gcd a.toNat b.toNat = 0 := by unfold gcF at h; omega
  have := (Nat.gcd_eq_zero_iff.mp e).2
  omega
theorem rg_zero {mar top str gho ghs : Nat → Int32} {tel p r g : Int32} {c : Nat} {A B : Int} (eA : A = (str c).toInt) (eB : B = raF mar top str gho ghs tel c) (eg : g.toInt = gcF A B) (hg : g.toInt ≤ 0) (h0 : 0 ≤ A) (h1 : A ≤ B) (hr : r = -4) : rgA mar top str gho ghs tel c p r := by
  refine .inl ⟨?_, hr⟩
  rw [← eB]; exact gc_zero (by omega) (eg ▸ hg)
theorem rg_one {mar top str gho ghs : Nat → Int32} {tel p r g : Int32} {c : Nat} {A B R : Int} (eA : A = (str c).toInt) (eB : B = raF mar top str gho ghs tel c) (eg : g.toInt = gcF A B) (hg : 0 < g.toInt) (h0 : 0 ≤ A) (h1 : A ≤ B) (hR : r.toInt = R) (hr : (p.toInt = 0 ∧ R = A / g.toInt) ∨ (p.toInt = 1 ∧ R = B / g.toInt)) : rgA mar top str gho ghs tel c p r := by
  refine .inr ⟨?_, ?_⟩
  · rw [← eB]; exact gc_pos h0 h1 (eg ▸ hg)
  · rw [← eB, ← eA, ← eg, hR]; exact hr
-- the model's
def arI (mar top str gho ghs : Nat → Int32) (tel co : Int32) (i L : Int) : Prop := L = (str co.toNatClampNeg).toInt + (fnt gho ghs co.toNatClampNeg + agF mar top str tel co.toNatClampNeg (co.toNatClampNeg - co.toNatClampNeg % 6) (i - co.toInt / 6 * 6).toNat)
theorem ar_init {mar top str gho ghs : Nat → Int32} {tel co : Int32} {i L : Int} (hL : L = (str co.toNatClampNeg).toInt + (if gho co.toNatClampNeg = -1 then 0 else (ghs co.toNatClampNeg).toInt)) (hi : i = co.toInt / 6 * 6) : arI mar top str gho ghs tel co i L := by
  unfold arI
  rw [show (i - co.toInt / 6 * 6).toNat = 0 by omega]
  show L = _ + (fnt gho ghs co.toNatClampNeg + 0)
  rw [hL]; unfold fnt; omega
theorem ar_no {mar top str gho ghs : Nat → Int32} {tel co o : Int32} {i L R : Int} (q : arI mar top str gho ghs tel co o.toInt L) (hb : crdB mar top tel o.toNatClampNeg co.toNatClampNeg = false) (h0 : 0 ≤ co.toInt) (h1 : co.toInt / 6 * 6 ≤ o.toInt) (hi : i = o.toInt + 1) (hR : R = L) : arI mar top str gho ghs tel co i R := by
  have e := clC (x := co) rfl
  have e2 := clC (x := o) rfl
  unfold arI at q ⊢
  rw [show (i - co.toInt / 6 * 6).toNat = (o.toInt - co.toInt / 6 * 6).toNat + 1 by omega]
  show R = (str co.toNatClampNeg).toInt + (fnt gho ghs co.toNatClampNeg + (agF mar top str tel co.toNatClampNeg (co.toNatClampNeg - co.toNatClampNeg % 6) (o.toInt - co.toInt / 6 * 6).toNat + (if crdB mar top tel (co.toNatClampNeg - co.toNatClampNeg % 6 + (o.toInt - co.toInt / 6 * 6).toNat) co.toNatClampNeg then (str (co.toNatClampNeg - co.toNatClampNeg % 6 + (o.toInt - co.toInt / 6 * 6).toNat)).toInt else 0)))
  rw [show co.toNatClampNeg - co.toNatClampNeg % 6 + (o.toInt - co.toInt / 6 * 6).toNat = o.toNatClampNeg by omega, hb, hR, q, if_neg (by decide)]; omega
theorem ar_yes {mar top str gho ghs : Nat → Int32} {tel co o : Int32} {i L R : Int} (q : arI mar top str gho ghs tel co o.toInt L) (hb : crdB mar top tel o.toNatClampNeg co.toNatClampNeg = true) (h0 : 0 ≤ co.toInt) (h1 : co.toInt / 6 * 6 ≤ o.toInt) (hi : i = o.toInt + 1) (hR : R = L + (str o.toNatClampNeg).toInt) : arI mar top str gho ghs tel co i R := by
  have e := clC (x := co) rfl
  have e2 := clC (x := o) rfl
  unfold arI at q ⊢
  rw [show (i - co.toInt / 6 * 6).toNat = (o.toInt - co.toInt / 6 * 6).toNat + 1 by omega]
  show R = (str co.toNatClampNeg).toInt + (fnt gho ghs co.toNatClampNeg + (agF mar top str tel co.toNatClampNeg (co.toNatClampNeg - co.toNatClampNeg % 6) (o.toInt - co.toInt / 6 * 6).toNat + (if crdB mar top tel (co.toNatClampNeg - co.toNatClampNeg % 6 + (o.toInt - co.toInt / 6 * 6).toNat) co.toNatClampNeg then (str (co.toNatClampNeg - co.toNatClampNeg % 6 + (o.toInt - co.toInt / 6 * 6).toNat)).toInt else 0)))
  rw [show co.toNatClampNeg - co.toNatClampNeg % 6 + (o.toInt - co.toInt / 6 * 6).toNat = o.toNatClampNeg by omega, hb, hR, q, if_pos rfl]; omega
theorem ar_end {mar top str gho ghs : Nat → Int32} {tel co : Int32} {i L : Int} (q : arI mar top str gho ghs tel co i L) (hi : i = co.toInt / 6 * 6 + 6) : L = raF mar top str gho ghs tel co.toNatClampNeg := by
  unfold arI at q; rw [show (i - co.toInt / 6 * 6).toNat = 6 by omega] at q; exact q
theorem gm_init {x y Y : Int} (h : y = Y) : gcF x y = gcF x Y := by rw [h]
theorem ar_cast {mar top str gho ghs : Nat → Int32} {tel co : Int32} {i i' L : Int} (q : arI mar top str gho ghs tel co i L) (h : i' = i) : arI mar top str gho ghs tel co i' L := by subst h; exact q
theorem gm_step {X Y x y x' y' : Int} (q : gcF x y = gcF X Y) (hy : 0 < y) (hx : 0 ≤ x) (h1 : x' = y) (h2 : y' = x % y) : gcF x' y' = gcF X Y := by
  subst h1; subst h2; rw [gc_mod hy hx]; exact q
theorem gm_end {X Y x y : Int} (q : gcF x y = gcF Y X) (hx : 0 ≤ x) (hy : y = 0) : x = gcF X Y := by
  subst hy
  rw [gc_comm, ← q]
  unfold gcF
  show x = ((Nat.gcd x.toNat 0 : Nat) : Int)
  rw [Nat.gcd_zero_right]; omega
theorem crd_top {mar top : Nat → Int32} {tel : Int32} {o c : Nat} (h : crdB mar top tel o c = true) : top o ≠ -1 := by
  intro q
  unfold crdB at h
  rw [decide_eq_false (p := top o ≠ -1) (fun z => z q), Bool.and_false, Bool.false_and, Bool.false_and] at h
  exact absurd h (by decide)
theorem ag_eq {mar t t2 s s2 : Nat → Int32} {tel : Int32} {c lo : Nat} (h : ∀ j : Nat, j < 48 → t j = t2 j) (hs : ∀ j : Nat, j < 48 → t j ≠ -1 → s j = s2 j) (hc : c < 48) : ∀ k, lo + k ≤ 48 → agF mar t s tel c lo k = agF mar t2 s2 tel c lo k
  | 0, _ => rfl
  | k + 1, hk => by
    show agF mar t s tel c lo k + (if crdB mar t tel (lo + k) c then (s (lo + k)).toInt else 0) = agF mar t2 s2 tel c lo k + (if crdB mar t2 tel (lo + k) c then (s2 (lo + k)).toInt else 0)
    have e : crdB mar t2 tel (lo + k) c = crdB mar t tel (lo + k) c := by unfold crdB; rw [h (lo + k) (by omega), h c hc]
    rw [ag_eq h hs hc k (by omega), e]
    by_cases z : crdB mar t tel (lo + k) c = true
    · rw [if_pos z, if_pos z, hs (lo + k) (by omega) (crd_top z)]
    · rw [if_neg z, if_neg z]
theorem spRgt_rel {mar mm top str gho ghs pto wal mt ms mg mf mp mw : Nat → Int32} {tel mtel c p r r2 : Int32} (R : crR top str gho ghs pto wal mt ms mg mf mp mw) (em : mar = mm) (et : tel = mtel) (h1 : spRgt mar top str gho ghs tel c p r) (h2 : spRgt mm mt ms mg mf mtel c p r2) : r = r2 := by
  subst em; subst et
  rcases h1 with ⟨a, b⟩ | ⟨a, a1, b⟩ | ⟨a, a1, t, b⟩ | ⟨a, a1, t, b⟩
  · rcases h2 with ⟨d, e⟩ | ⟨d, d1, e⟩ | ⟨d, d1, u, e⟩ | ⟨d, d1, u, e⟩
    · rw [b, e]
    all_goals (exfalso; omega)
  · rcases h2 with ⟨d, e⟩ | ⟨d, d1, e⟩ | ⟨d, d1, u, e⟩ | ⟨d, d1, u, e⟩
    · exfalso; omega
    · rw [b, e]
    all_goals (exfalso; omega)
  · have R1 := R.1 c.toNatClampNeg (by rw [clC (x := c) rfl]; omega)
    rcases h2 with ⟨d, e⟩ | ⟨d, d1, e⟩ | ⟨d, d1, u, e⟩ | ⟨d, d1, u, e⟩
    · exfalso; omega
    · exfalso; omega
    · rw [b, e]
    · exact absurd (R1.1.symm.trans t) u
  · have hc : c.toNatClampNeg < 48 := by rw [clC (x := c) rfl]; omega
    have R1 := R.1 c.toNatClampNeg hc
    rcases h2 with ⟨d, e⟩ | ⟨d, d1, e⟩ | ⟨d, d1, u, e⟩ | ⟨d, d1, u, e⟩
    · exfalso; omega
    · exfalso; omega
    · exact absurd (R1.1.trans u) t
    · have es := R1.2.2.2.1 t
      have ef : fnt gho ghs c.toNatClampNeg = fnt mg mf c.toNatClampNeg := by
        unfold fnt
        rw [← R1.2.1]
        by_cases z : gho c.toNatClampNeg = -1
        · rw [if_pos z, if_pos z]
        · rw [if_neg z, if_neg z, R1.2.2.2.2 z]
      have er : raF mar mt ms mg mf tel c.toNatClampNeg = raF mar top str gho ghs tel c.toNatClampNeg := by
        unfold raF
        rw [es, ef, ag_eq (fun j hj => (R.1 j hj).1) (fun j hj => (R.1 j hj).2.2.2.1) hc 6 (by omega)]
      unfold rgA at b e
      rw [er, ← es] at e
      rcases b with ⟨z, b⟩ | ⟨z, b⟩
      · rcases e with ⟨w, e⟩ | ⟨w, e⟩
        · rw [b, e]
        · exfalso; omega
      · rcases e with ⟨w, e⟩ | ⟨w, e⟩
        · exfalso; omega
        · rcases b with ⟨p1, b⟩ | ⟨p1, b⟩
          · rcases e with ⟨p2, e⟩ | ⟨p2, e⟩
            · exact Int32.toInt_inj.mp (b.trans e.symm)
            · exfalso; omega
          · rcases e with ⟨p2, e⟩ | ⟨p2, e⟩
            · exfalso; omega
            · exact Int32.toInt_inj.mp (b.trans e.symm)
theorem sx_pos {c : Int32} {V S X : Int} (h : c = -1) (hV : V = S) : V = S + (if c = -1 then 0 else X) := by rw [if_pos h, hV]; omega
theorem sx_neg {c : Int32} {V S X : Int} (h : ¬ c = -1) (hV : V = S + X) : V = S + (if c = -1 then 0 else X) := by rw [if_neg h, hV]
set_option maxHeartbeats 4000000 in
set_option maxRecDepth 100000 in
theorem k_X9_commonDivisor2 (l : Launch) (dC : Nat → ClassId) (dI : Nat → Nat → Nat) (cI cZ cQ : ClassId) (x : Int32) (y : Int32) (q0 : 0 ≤ x.toInt) (q1 : x.toInt ≤ 1000) (q2 : 0 ≤ y.toInt) (q3 : y.toInt ≤ 1000) : KR l yX9_commonDivisor wsX9_commonDivisor { frames := 1, cells := 0, slots := 0, locals := 24 } (dC, dI) (TY cI cZ cQ) (wNil cI cZ cQ) [.int x, .int y] (fun r : Int32 => (r.toInt = gcF x.toInt y.toInt) ∧ (0 ≤ r.toInt) ∧ (r.toInt ≤ 1000)) := by
  refine Met.ofW (cc := cX9_commonDivisor) (maxL := 6) (ret := (some .int)) (by decide) rfl ?_
  intro p e s m args below meth c s₁ B hml hv
  obtain ⟨rfl, hP, hK, hN⟩ := hv
  have hx := B.exec
  have hb := B.bytes
  have hr := B.returns
  have hts := atoms_spec (ws := wsX9_commonDivisor) B.pre
  have hown : s.vm.findClass RX9 = some m.cls := findClass_of_methodNamed B.named
  have hlocks := B.notSynchronized
  have hl := lv_entry ([.int x, .int y]) (n := 6) (Nat.le_of_ble_eq_true rfl)
  rw [lg_entry_eq]
  generalize (lg_sl ([.int x, .int y]) ++ List.replicate (6 - (lg_sl ([.int x, .int y])).length) Slot.unset).toArray = ls at hl ⊢
  have hl : lv_has ls 6 [(0, .int x), (1, .int y)] := hl
  refine lv_iload_n hx hb dX9_commonDivisor_0 rfl (lv_at hl 0 rfl) ?_
  refine lv_iload_n hx hb dX9_commonDivisor_1 rfl (lv_at hl 1 rfl) ?_
  refine va_mmax hx hb (by rw [hml]; exact hl.1.symm) hown (hts (.methodLink RX9 280 Lib.Math.max.name) (List.mem_cons_of_mem _ (List.mem_of_getElem? (i := 0) rfl))) (hts (.static Lib.Math.max.name) (List.mem_cons_of_mem _ (List.mem_of_getElem? (i := 1) rfl))) (hts (.initialized "java/lang/Math") (List.mem_cons_of_mem _ (List.mem_of_getElem? (i := 2) rfl))) (hts (.code Lib.Math.max.name Lib.Math.max.code 2 (some .int)) (List.mem_cons_of_mem _ (List.mem_of_getElem? (i := 3) rfl))) (Nat.le_of_ble_eq_true rfl) (Nat.le_of_ble_eq_true rfl) (Nat.le_of_ble_eq_true rfl) (Nat.le_of_ble_eq_true rfl) dX9_commonDivisor_2 ?_
  have f1 : (if x < y then y else x : Int32).toInt = max (x.toInt) (y.toInt) := maxC rfl rfl
  refine lv_topi (fun x2 ex2 => ?_)
  have ix2 : x2.toInt = max (x.toInt) (y.toInt) := by rw [ex2]; exact f1
  refine lv_istore_n (lv' := [(2, .int x2), (0, .int x), (1, .int y)]) hx hb dX9_commonDivisor_5 rfl hl (by decide) rfl (fun ls hl => ?_)
  refine lv_iload_n hx hb dX9_commonDivisor_6 rfl (lv_at hl 1 rfl) ?_
  refine lv_iload_n hx hb dX9_commonDivisor_7 rfl (lv_at hl 2 rfl) ?_
  refine va_mmin hx hb (by rw [hml]; exact hl.1.symm) hown (hts (.methodLink RX9 285 Lib.Math.min.name) (List.mem_cons_of_mem _ (List.mem_of_getElem? (i := 4) rfl))) (hts (.static Lib.Math.min.name) (List.mem_cons_of_mem _ (List.mem_of_getElem? (i := 5) rfl))) (hts (.initialized "java/lang/Math") (List.mem_cons_of_mem _ (List.mem_of_getElem? (i := 2) rfl))) (hts (.code Lib.Math.min.name Lib.Math.min.code 2 (some .int)) (List.mem_cons_of_mem _ (List.mem_of_getElem? (i := 6) rfl))) (Nat.le_of_ble_eq_true rfl) (Nat.le_of_ble_eq_true rfl) (Nat.le_of_ble_eq_true rfl) (Nat.le_of_ble_eq_true rfl) dX9_commonDivisor_8 ?_
  have f3 : (if y < x then y else x : Int32).toInt = min (x.toInt) (y.toInt) := minC rfl rfl
  refine lv_topi (fun x4 ex4 => ?_)
  have ix4 : x4.toInt = min (x.toInt) (y.toInt) := by rw [ex4]; exact f3
  refine lv_istore_n (lv' := [(3, .int x4), (2, .int x2), (0, .int x), (1, .int y)]) hx hb dX9_commonDivisor_11 rfl hl (by decide) rfl (fun ls hl => ?_)
  refine lv_iconst (v := 0) hx hb dX9_commonDivisor_12 (by decide) ?_
  refine lv_istore (lv' := [(4, .int 0), (3, .int x4), (2, .int x2), (0, .int x), (1, .int y)]) hx hb dX9_commonDivisor_13 hl (by decide) rfl (fun ls hl => ?_)
  have L15 : ∀ (nn : Nat) (y15_2 : Int32) (y15_3 : Int32) (y15_4 : Int32) (ls : Array Slot), (0 ≤ (y15_4.toInt)) → ((y15_4.toInt) ≤ 64) → (0 ≤ (y15_2.toInt)) → ((y15_2.toInt) ≤ 1000) → (0 ≤ (y15_3.toInt)) → ((y15_3.toInt) ≤ 1000) → (gcI x.toInt y.toInt (y15_2.toInt) (y15_3.toInt) (y15_4.toInt)) → (64 - (y15_4.toInt)).toNat < nn → lv_has ls 6 [(2, .int y15_2), (3, .int y15_3), (4, .int y15_4)] → W p l e (headSpec wsX9_commonDivisor { frames := 1, cells := 0, slots := 0, locals := 24 }).room s m ([.int x, .int y] : List Value).toArray below meth c s.heap [] 0 0 (MQ below (QR (fun r : Int32 => (r.toInt = gcF x.toInt y.toInt) ∧ (0 ≤ r.toInt) ∧ (r.toInt ≤ 1000))) ([.int x, .int y] : List Value).toArray s 0 0 (fun _ => False)) (F0 m 15 ls []) := by
    intro nn
    induction nn with
    | zero =>
      intro y15_2 y15_3 y15_4 ls i15_0 i15_1 i15_2 i15_3 i15_4 i15_5 i15_6 hm15
      exact absurd hm15 (Nat.not_lt_zero _)
    | succ nn ih15 =>
      intro y15_2 y15_3 y15_4 ls i15_0 i15_1 i15_2 i15_3 i15_4 i15_5 i15_6 hm15 hl
      refine lv_iload hx hb dX9_commonDivisor_15 (lv_at hl 2 rfl) ?_
      refine lv_bipush (v := 64) hx hb dX9_commonDivisor_17 (by decide) ?_
      refine lv_icmp_ge (tgt := 42) hx hb dX9_commonDivisor_19 (by decide) (fun c5 => ?_) (fun c5 => ?_)
      · have dc5 : 64 ≤ y15_4.toInt := leC (show (64 : Int32).toInt = 64 from rfl) rfl c5
        refine lv_iload_n hx hb dX9_commonDivisor_42 rfl (lv_at hl 0 rfl) ?_
        exact W.iret (v := y15_2) hx hb hr (fun tq ht hW => ⟨y15_2, rfl, ⟨(show y15_2.toInt = gcF x.toInt y.toInt from by (exact gc_end i15_6 (by omega))), (show 0 ≤ y15_2.toInt from by omega), (show y15_2.toInt ≤ 1000 from by omega)⟩, ht⟩) (fun q h => by cases h) dX9_commonDivisor_43
      · have dc5 : y15_4.toInt < 64 := nleC (show (64 : Int32).toInt = 64 from rfl) rfl c5
        refine lv_iload_n hx hb dX9_commonDivisor_22 rfl (lv_at hl 1 rfl) ?_
        refine lv_if_le (tgt := 42) hx hb dX9_commonDivisor_23 (by decide) (fun c6 => ?_) (fun c6 => ?_)
        · have dc6 : y15_3.toInt ≤ 0 := leC rfl (show (0 : Int32).toInt = 0 from rfl) c6
          refine lv_iload_n hx hb dX9_commonDivisor_42 rfl (lv_at hl 0 rfl) ?_
          exact W.iret (v := y15_2) hx hb hr (fun tq ht hW => ⟨y15_2, rfl, ⟨(show y15_2.toInt = gcF x.toInt y.toInt from by (exact gc_end i15_6 (by omega))), (show 0 ≤ y15_2.toInt from by omega), (show y15_2.toInt ≤ 1000 from by omega)⟩, ht⟩) (fun q h => by cases h) dX9_commonDivisor_43
        · have dc6 : 0 < y15_3.toInt := nleC rfl (show (0 : Int32).toInt = 0 from rfl) c6
          refine lv_iload_n hx hb dX9_commonDivisor_26 rfl (lv_at hl 0 rfl) ?_
          refine lv_iload_n hx hb dX9_commonDivisor_27 rfl (lv_at hl 1 rfl) ?_
          refine lv_irem hx hb dX9_commonDivisor_28 (n0C rfl (by omega)) ?_
          have f7 : (y15_2 - y15_2 / y15_3 * y15_3).toInt = (y15_2.toInt) % (y15_3.toInt) := remC rfl rfl (by omega) (by omega)
          have f8 : 0 ≤ (y15_2.toInt) % (y15_3.toInt) := Int.emod_nonneg _ (by omega)
          have f9 : (y15_2.toInt) % (y15_3.toInt) < y15_3.toInt := Int.emod_lt_of_pos _ (by omega)
          refine lv_topi (fun x10 ex10 => ?_)
          have ix10 : x10.toInt = (y15_2.toInt) % (y15_3.toInt) := by rw [ex10]; exact f7
          refine lv_istore (lv' := [(5, .int x10), (2, .int y15_2), (3, .int y15_3), (4, .int y15_4)]) hx hb dX9_commonDivisor_29 hl (by decide) rfl (fun ls hl => ?_)
          refine lv_iload_n hx hb dX9_commonDivisor_31 rfl (lv_at hl 2 rfl) ?_
          refine lv_istore_n (lv' := [(2, .int y15_3), (5, .int x10), (3, .int y15_3), (4, .int y15_4)]) hx hb dX9_commonDivisor_32 rfl hl (by decide) rfl (fun ls hl => ?_)
          refine lv_iload hx hb dX9_commonDivisor_33 (lv_at hl 1 rfl) ?_
          refine lv_istore_n (lv' := [(3, .int x10), (2, .int y15_3), (5, .int x10), (4, .int y15_4)]) hx hb dX9_commonDivisor_35 rfl hl (by decide) rfl (fun ls hl => ?_)
          obtain ⟨z11, ez11⟩ : ∃ y : Int32, y = y15_4 + 1 := ⟨_, rfl⟩
          have iz11 : z11.toInt = y15_4.toInt + 1 := by rw [ez11]; exact addC rfl rfl (by omega) (by omega)
          refine lv_iinc (v := z11) (lv' := [(4, .int z11), (3, .int x10), (2, .int y15_3), (5, .int x10)]) hx hb dX9_commonDivisor_36 hl (k := 3) rfl (by rw [ez11]; rfl) (by decide) rfl (fun ls hl => ?_)
          refine lv_goto (tgt := 15) hx hb dX9_commonDivisor_39 (by decide) ?_
          exact ih15 y15_3 x10 z11 _ (by omega) (by omega) (by omega) (by omega) (by omega) (by omega) (by (first | exact gc_step i15_6 (by omega) (by first | rfl | omega) (by omega) (by omega) (by omega) | exact gc_init (by assumption) (by assumption) (by omega) (by omega) (by omega) (by omega) (by first | rfl | omega))) (by omega) (lv_sub hl [2, 1, 0] rfl)
  have kc12 : (0 : Int32).toInt = 0 := rfl
  exact L15 _ x2 x4 0 _ (by omega) (by omega) (by omega) (by omega) (by omega) (by omega) (by (first | exact gc_init (by assumption) (by assumption) (by omega) (by omega) (by omega) (by omega) (by first | rfl | omega) | exact gc_step i15_6 (by omega) (by first | rfl | omega) (by omega) (by omega) (by omega))) (Nat.lt_succ_self _) (lv_sub hl [2, 1, 0] rfl)
set_option maxHeartbeats 4000000 in
set_option maxRecDepth 100000 in
theorem k_X1_strengthAgainst2 (l : Launch) (dC : Nat → ClassId) (dI : Nat → Nat → Nat) (cI cZ cQ : ClassId) (a : Nat → Nat) (top : Nat → Int32) (str : Nat → Int32) (gho : Nat → Int32) (ghs : Nat → Int32) (pto : Nat → Int32) (cro : Nat → Int32) (pla : Nat → Int32) (wal : Nat → Int32) (fal : Nat → Int32) (tel : Int32) (gai : Int32) (day : Int32) (mar : Nat → Int32) (co : Int32) (r_top : rg 48 (-1) (23) top) (r_str : rg 48 (0) (100) str) (r_gho : rg 48 (-1) (23) gho) (r_ghs : rg 48 (0) (100) ghs) (r_cro : rg 48 (0) (6) cro) (r_pla : rg 24 (-1) (47) pla) (r_fal : rg 11 (0) (30) fal) (r_gai : 0 ≤ gai.toInt ∧ gai.toInt ≤ 100) (r_day : 0 ≤ day.toInt ∧ day.toInt ≤ 400) (r_mar : rg 24 (0) (255) mar) (q0 : 0 ≤ co.toInt) (q1 : co.toInt ≤ 47) : KR l yX1_strengthAgainst wsX1_strengthAgainst { frames := 4, cells := 0, slots := 0, locals := 86 } (dC, dI) (TY cI cZ cQ) (wCor cI cZ cQ a top str gho ghs pto cro pla wal fal tel gai day mar) [.ref (a 4), .int co] (fun r : Int32 => (0 ≤ r.toInt) ∧ (r.toInt ≤ 700) ∧ (r.toInt = fnt gho ghs co.toNatClampNeg + agF mar top str tel co.toNatClampNeg (co.toNatClampNeg - co.toNatClampNeg % 6) 6)) := by
  refine Met.ofW (cc := cX1_strengthAgainst) (maxL := 5) (ret := (some .int)) (by decide) rfl ?_
  intro p e s m args below meth c s₁ B hml hv
  obtain ⟨rfl, hP, hK, hN⟩ := hv
  have hx := B.exec
  have hb := B.bytes
  have hr := B.returns
  have hts := atoms_spec (ws := wsX1_strengthAgainst) B.pre
  have hown : s.vm.findClass RX1 = some m.cls := findClass_of_methodNamed B.named
  have hlocks := B.notSynchronized
  have lf18 := hts (.fieldLink RX1 18 "PalaceOfRooms$Corners" "ghost" "[I") (List.mem_cons_of_mem _ (List.mem_append_left _ (List.mem_append_left _ (List.mem_append_left _ (List.mem_of_getElem? (i := 0) rfl)))))
  have inX1 : ∀ w ∈ wsX10, w ∈ wsX1_strengthAgainst := fun w h => List.mem_cons_of_mem _ (List.mem_append_left _ (List.mem_append_right _ h))
  have lf21 := hts (.fieldLink RX1 21 "PalaceOfRooms$Corners" "ghostStrength" "[I") (List.mem_cons_of_mem _ (List.mem_append_left _ (List.mem_append_left _ (List.mem_append_left _ (List.mem_of_getElem? (i := 1) rfl)))))
  have lf15 := hts (.fieldLink RX1 15 "PalaceOfRooms$Corners" "strength" "[I") (List.mem_cons_of_mem _ (List.mem_append_left _ (List.mem_append_left _ (List.mem_append_left _ (List.mem_of_getElem? (i := 2) rfl)))))
  have hl := lv_entry ([.ref (a 4), .int co]) (n := 5) (Nat.le_of_ble_eq_true rfl)
  rw [lg_entry_eq]
  generalize (lg_sl ([.ref (a 4), .int co]) ++ List.replicate (5 - (lg_sl ([.ref (a 4), .int co])).length) Slot.unset).toArray = ls at hl ⊢
  have hl : lv_has ls 5 [(0, .ref (a 4)), (1, .int co)] := hl
  refine lv_aload_n hx hb dX1_strengthAgainst_0 rfl (lv_at hl 0 rfl) ?_
  refine va_get (D := (dC, dI)) (ci := 1) (v := .ref (a 7)) (C := RX1) (T := TX1) (N := 13) hx hb hts inX1 hown hK hP 0 rfl rfl 3 (by decide) lf18 (fun _ h9 => h9) rfl dX1_strengthAgainst_1 ?_
  refine lv_iload_n hx hb dX1_strengthAgainst_4 rfl (lv_at hl 1 rfl) ?_
  have b1 : vp_in co 48 := inC rfl (by omega) (by omega)
  refine va_iald hx hb hK hP 3 0 rfl rfl b1 dX1_strengthAgainst_5 ?_
  have g2 : -1 ≤ (gho co.toNatClampNeg).toInt ∧ (gho co.toNatClampNeg).toInt ≤ 23 := rg_at r_gho b1
  refine lv_iconst (v := (-1)) hx hb dX1_strengthAgainst_6 (by decide) ?_
  refine lv_icmp_ne (tgt := 14) hx hb dX1_strengthAgainst_7 (by decide) (fun c3 => ?_) (fun c3 => ?_)
  · have dc3 : 0 ≤ (gho co.toNatClampNeg).toInt := ka_lo (by omega) (neC rfl (show ((-1) : Int32).toInt = (-1) from rfl) c3)
    refine lv_aload_n hx hb dX1_strengthAgainst_14 rfl (lv_at hl 0 rfl) ?_
    refine va_get (D := (dC, dI)) (ci := 1) (v := .ref (a 8)) (C := RX1) (T := TX1) (N := 13) hx hb hts inX1 hown hK hP 0 rfl rfl 4 (by decide) lf21 (fun _ h9 => h9) rfl dX1_strengthAgainst_15 ?_
    refine lv_iload_n hx hb dX1_strengthAgainst_18 rfl (lv_at hl 1 rfl) ?_
    have b4 : vp_in co 48 := inC rfl (by omega) (by omega)
    refine va_iald hx hb hK hP 4 0 rfl rfl b4 dX1_strengthAgainst_19 ?_
    have g5 : 0 ≤ (ghs co.toNatClampNeg).toInt ∧ (ghs co.toNatClampNeg).toInt ≤ 100 := rg_at r_ghs b4
    refine lv_topi (fun x6 ex6 => ?_)
    have ix6 : x6.toInt = (ghs co.toNatClampNeg).toInt := by rw [ex6]
    refine lv_istore_n (lv' := [(2, .int x6), (0, .ref (a 4)), (1, .int co)]) hx hb dX1_strengthAgainst_20 rfl hl (by decide) rfl (fun ls hl => ?_)
    refine lv_iload_n hx hb dX1_strengthAgainst_21 rfl (lv_at hl 2 rfl) ?_
    refine lv_iload_n hx hb dX1_strengthAgainst_22 rfl (lv_at hl 2 rfl) ?_
    refine lv_bipush (v := 6) hx hb dX1_strengthAgainst_23 (by decide) ?_
    refine lv_irem hx hb dX1_strengthAgainst_25 (by decide) ?_
    have f7 : (co - co / 6 * 6).toInt = (co.toInt) % (6) := remC rfl (show (6 : Int32).toInt = 6 from rfl) (by omega) (by omega)
    refine lv_isub hx hb dX1_strengthAgainst_26 ?_
    have f8 : (co - (co - co / 6 * 6)).toInt = (co.toInt) - ((co.toInt) % (6)) := subC rfl f7 (by omega) (by omega)
    refine lv_topi (fun x9 ex9 => ?_)
    have ix9 : x9.toInt = (co.toInt) - ((co.toInt) % (6)) := by rw [ex9]; exact f8
    refine lv_istore_n (lv' := [(3, .int x9), (2, .int x6), (0, .ref (a 4)), (1, .int co)]) hx hb dX1_strengthAgainst_27 rfl hl (by decide) rfl (fun ls hl => ?_)
    refine lv_iload_n hx hb dX1_strengthAgainst_28 rfl (lv_at hl 0 rfl) ?_
    refine lv_istore (lv' := [(4, .int x9), (3, .int x9), (2, .int x6), (0, .ref (a 4)), (1, .int co)]) hx hb dX1_strengthAgainst_29 hl (by decide) rfl (fun ls hl => ?_)
    have L31 : ∀ (nn : Nat) (y31_2 : Int32) (y31_4 : Int32) (ls : Array Slot), (-5 ≤ (y31_4.toInt)) → ((y31_4.toInt) ≤ 53) → ((x9.toInt) ≤ (y31_4.toInt)) → ((y31_4.toInt) ≤ (x9.toInt) + 6) → (0 ≤ (y31_2.toInt)) → ((y31_2.toInt) ≤ 100 + 100 * ((y31_4.toInt) - (x9.toInt))) → ((y31_2.toInt) ≤ 700) → ((y31_2.toInt) = fnt gho ghs co.toNatClampNeg + agF mar top str tel co.toNatClampNeg x9.toNatClampNeg ((y31_4.toInt) - (x9.toInt)).toNat) → (53 - (y31_4.toInt)).toNat < nn → lv_has ls 5 [(0, .ref (a 4)), (1, .int co), (2, .int y31_2), (3, .int x9), (4, .int y31_4)] → W p l e (headSpec wsX1_strengthAgainst { frames := 4, cells := 0, slots := 0, locals := 86 }).room s m ([.ref (a 4), .int co] : List Value).toArray below meth c s.heap [] 0 0 (MQ below (QR (fun r : Int32 => (0 ≤ r.toInt) ∧ (r.toInt ≤ 700) ∧ (r.toInt = fnt gho ghs co.toNatClampNeg + agF mar top str tel co.toNatClampNeg (co.toNatClampNeg - co.toNatClampNeg % 6) 6))) ([.ref (a 4), .int co] : List Value).toArray s 0 0 (fun _ => False)) (F0 m 31 ls []) := by
      intro nn
      induction nn with
      | zero =>
        intro y31_2 y31_4 ls i31_0 i31_1 i31_2 i31_3 i31_4 i31_5 i31_6 i31_7 hm31
        exact absurd hm31 (Nat.not_lt_zero _)
      | succ nn ih31 =>
        intro y31_2 y31_4 ls i31_0 i31_1 i31_2 i31_3 i31_4 i31_5 i31_6 i31_7 hm31 hl
        refine lv_iload hx hb dX1_strengthAgainst_31 (lv_at hl 4 rfl) ?_
        refine lv_iload_n hx hb dX1_strengthAgainst_33 rfl (lv_at hl 3 rfl) ?_
        refine lv_bipush (v := 6) hx hb dX1_strengthAgainst_34 (by decide) ?_
        refine lv_iadd hx hb dX1_strengthAgainst_36 ?_
        have f10 : (x9 + 6).toInt = (x9.toInt) + (6) := addC rfl (show (6 : Int32).toInt = 6 from rfl) (by omega) (by omega)
        refine lv_icmp_ge (tgt := 66) hx hb dX1_strengthAgainst_37 (by decide) (fun c11 => ?_) (fun c11 => ?_)
        · have dc11 : (x9.toInt) + (6) ≤ y31_4.toInt := leC f10 rfl c11
          refine lv_iload_n hx hb dX1_strengthAgainst_66 rfl (lv_at hl 2 rfl) ?_
          exact W.iret (v := y31_2) hx hb hr (fun tq ht hW => ⟨y31_2, rfl, ⟨(show 0 ≤ y31_2.toInt from by omega), (show y31_2.toInt ≤ 700 from by omega), (show y31_2.toInt = fnt gho ghs co.toNatClampNeg + agF mar top str tel co.toNatClampNeg (co.toNatClampNeg - co.toNatClampNeg % 6) 6 from by (exact ag_end i31_7 (by omega) (by omega) (by omega)))⟩, ht⟩) (fun q h => by cases h) dX1_strengthAgainst_67
        · have dc11 : y31_4.toInt < (x9.toInt) + (6) := nleC f10 rfl c11
          refine lv_aload_n hx hb dX1_strengthAgainst_40 rfl (lv_at hl 0 rfl) ?_
          refine lv_iload hx hb dX1_strengthAgainst_41 (lv_at hl 4 rfl) ?_
          refine lv_iload_n hx hb dX1_strengthAgainst_43 rfl (lv_at hl 1 rfl) ?_
          refine rdV (As := [.int y31_4, .int co]) (rest := []) ⟨hx, hb, hml, hown, hts⟩ (k_X1_crowds2 l dC dI cI cZ cQ a top str gho ghs pto cro pla wal fal tel gai day mar y31_4 co r_top r_str r_gho r_ghs r_cro r_pla r_fal r_gai r_day r_mar (by omega) (by omega) (by omega) (by omega)) (cwV 2 hts gX1_strengthAgainst_X1_crowds rfl rfl rfl (by decide +kernel) ⟨Nat.le_of_ble_eq_true rfl, Nat.le_of_ble_eq_true rfl⟩) hP hK hN [0, 1, 2, 3, 4, 5, 6, 7, 8, 9, 10, 11] rfl 0 1 rfl rfl rfl hl.1 rfl (Nat.le_of_ble_eq_true rfl) dX1_strengthAgainst_44 ⟨Nat.le_of_ble_eq_true rfl, Nat.le_of_ble_eq_true rfl⟩ (fun r12 h13 => ?_)
          have h13 : ((((r12 = 1) ∧ (crdB mar top tel y31_4.toNatClampNeg co.toNatClampNeg = true)) ∨ ((r12 = 0) ∧ (crdB mar top tel y31_4.toNatClampNeg co.toNatClampNeg = false)))) := h13
          rcases h13 with (⟨rfl, h13_a0⟩ | ⟨rfl, h13_a0⟩)
          · refine lv_if_eq (tgt := 60) hx hb dX1_strengthAgainst_47 (by decide) (fun c9 => absurd c9 (by decide)) (fun _ => ?_)
            refine lv_iload_n hx hb dX1_strengthAgainst_50 rfl (lv_at hl 2 rfl) ?_
            refine lv_aload_n hx hb dX1_strengthAgainst_51 rfl (lv_at hl 0 rfl) ?_
            refine va_get (D := (dC, dI)) (ci := 1) (v := .ref (a 6)) (C := RX1) (T := TX1) (N := 13) hx hb hts inX1 hown hK hP 0 rfl rfl 2 (by decide) lf15 (fun _ h9 => h9) rfl dX1_strengthAgainst_52 ?_
            refine lv_iload hx hb dX1_strengthAgainst_55 (lv_at hl 4 rfl) ?_
            have b14 : vp_in y31_4 48 := inC rfl (by omega) (by omega)
            refine va_iald hx hb hK hP 2 0 rfl rfl b14 dX1_strengthAgainst_57 ?_
            have g15 : 0 ≤ (str y31_4.toNatClampNeg).toInt ∧ (str y31_4.toNatClampNeg).toInt ≤ 100 := rg_at r_str b14
            refine lv_iadd hx hb dX1_strengthAgainst_58 ?_
            have f16 : (y31_2 + (str y31_4.toNatClampNeg)).toInt = (y31_2.toInt) + ((str y31_4.toNatClampNeg).toInt) := addC rfl rfl (by omega) (by omega)
            refine lv_topi (fun x17 ex17 => ?_)
            have ix17 : x17.toInt = (y31_2.toInt) + ((str y31_4.toNatClampNeg).toInt) := by rw [ex17]; exact f16
            refine lv_istore_n (lv' := [(2, .int x17), (0, .ref (a 4)), (1, .int co), (3, .int x9), (4, .int y31_4)]) hx hb dX1_strengthAgainst_59 rfl hl (by decide) rfl (fun ls hl => ?_)
            obtain ⟨z18, ez18⟩ : ∃ y : Int32, y = y31_4 + 1 := ⟨_, rfl⟩
            have iz18 : z18.toInt = y31_4.toInt + 1 := by rw [ez18]; exact addC rfl rfl (by omega) (by omega)
            refine lv_iinc (v := z18) (lv' := [(4, .int z18), (2, .int x17), (0, .ref (a 4)), (1, .int co), (3, .int x9)]) hx hb dX1_strengthAgainst_60 hl (k := 4) rfl (by rw [ez18]; rfl) (by decide) rfl (fun ls hl => ?_)
            refine lv_goto (tgt := 31) hx hb dX1_strengthAgainst_63 (by decide) ?_
            exact ih31 x17 z18 _ (by omega) (by omega) (by omega) (by omega) (by omega) (by omega) (by omega) (by (first | exact ag_yes i31_7 (by assumption) (by omega) (by omega) (by omega) (by omega) (by omega) | exact ag_no i31_7 (by assumption) (by first | rfl | omega) (by omega) (by omega) (by omega) (by omega) | exact ag_init (by first | exact it_pos (by assumption) (by first | rfl | omega) | exact it_neg (by assumption) (by first | assumption | omega)) (by omega))) (by omega) (lv_sub hl [2, 3, 1, 4, 0] rfl)
          · refine lv_if_eq (tgt := 60) hx hb dX1_strengthAgainst_47 (by decide) (fun _ => ?_) (fun c9 => absurd (by decide) c9)
            obtain ⟨z19, ez19⟩ : ∃ y : Int32, y = y31_4 + 1 := ⟨_, rfl⟩
            have iz19 : z19.toInt = y31_4.toInt + 1 := by rw [ez19]; exact addC rfl rfl (by omega) (by omega)
            refine lv_iinc (v := z19) (lv' := [(4, .int z19), (0, .ref (a 4)), (1, .int co), (2, .int y31_2), (3, .int x9)]) hx hb dX1_strengthAgainst_60 hl (k := 4) rfl (by rw [ez19]; rfl) (by decide) rfl (fun ls hl => ?_)
            refine lv_goto (tgt := 31) hx hb dX1_strengthAgainst_63 (by decide) ?_
            exact ih31 y31_2 z19 _ (by omega) (by omega) (by omega) (by omega) (by omega) (by omega) (by omega) (by (first | exact ag_yes i31_7 (by assumption) (by omega) (by omega) (by omega) (by omega) (by omega) | exact ag_no i31_7 (by assumption) (by first | rfl | omega) (by omega) (by omega) (by omega) (by omega) | exact ag_init (by first | exact it_pos (by assumption) (by first | rfl | omega) | exact it_neg (by assumption) (by first | assumption | omega)) (by omega))) (by omega) (lv_sub hl [1, 2, 3, 4, 0] rfl)
    exact L31 _ x6 x9 _ (by omega) (by omega) (by omega) (by omega) (by omega) (by omega) (by omega) (by (first | exact ag_init (by first | exact it_pos (by assumption) (by first | rfl | omega) | exact it_neg (by assumption) (by first | assumption | omega)) (by omega) | exact ag_yes i31_7 (by assumption) (by omega) (by omega) (by omega) (by omega) (by omega) | exact ag_no i31_7 (by assumption) (by first | rfl | omega) (by omega) (by omega) (by omega) (by omega))) (Nat.lt_succ_self _) (lv_sub hl [3, 4, 2, 1, 0] rfl)
  · have dc3 : (gho co.toNatClampNeg).toInt = (-1) := eqC rfl (show ((-1) : Int32).toInt = (-1) from rfl) c3
    refine lv_iconst (v := 0) hx hb dX1_strengthAgainst_10 (by decide) ?_
    refine lv_goto (tgt := 20) hx hb dX1_strengthAgainst_11 (by decide) ?_
    refine lv_istore_n (lv' := [(2, .int 0), (0, .ref (a 4)), (1, .int co)]) hx hb dX1_strengthAgainst_20 rfl hl (by decide) rfl (fun ls hl => ?_)
    refine lv_iload_n hx hb dX1_strengthAgainst_21 rfl (lv_at hl 2 rfl) ?_
    refine lv_iload_n hx hb dX1_strengthAgainst_22 rfl (lv_at hl 2 rfl) ?_
    refine lv_bipush (v := 6) hx hb dX1_strengthAgainst_23 (by decide) ?_
    refine lv_irem hx hb dX1_strengthAgainst_25 (by decide) ?_
    have f20 : (co - co / 6 * 6).toInt = (co.toInt) % (6) := remC rfl (show (6 : Int32).toInt = 6 from rfl) (by omega) (by omega)
    refine lv_isub hx hb dX1_strengthAgainst_26 ?_
    have f21 : (co - (co - co / 6 * 6)).toInt = (co.toInt) - ((co.toInt) % (6)) := subC rfl f20 (by omega) (by omega)
    refine lv_topi (fun x22 ex22 => ?_)
    have ix22 : x22.toInt = (co.toInt) - ((co.toInt) % (6)) := by rw [ex22]; exact f21
    refine lv_istore_n (lv' := [(3, .int x22), (2, .int 0), (0, .ref (a 4)), (1, .int co)]) hx hb dX1_strengthAgainst_27 rfl hl (by decide) rfl (fun ls hl => ?_)
    refine lv_iload_n hx hb dX1_strengthAgainst_28 rfl (lv_at hl 0 rfl) ?_
    refine lv_istore (lv' := [(4, .int x22), (3, .int x22), (2, .int 0), (0, .ref (a 4)), (1, .int co)]) hx hb dX1_strengthAgainst_29 hl (by decide) rfl (fun ls hl => ?_)
    have L31 : ∀ (nn : Nat) (y31_2 : Int32) (y31_4 : Int32) (ls : Array Slot), (-5 ≤ (y31_4.toInt)) → ((y31_4.toInt) ≤ 53) → ((x22.toInt) ≤ (y31_4.toInt)) → ((y31_4.toInt) ≤ (x22.toInt) + 6) → (0 ≤ (y31_2.toInt)) → ((y31_2.toInt) ≤ 100 + 100 * ((y31_4.toInt) - (x22.toInt))) → ((y31_2.toInt) ≤ 700) → ((y31_2.toInt) = fnt gho ghs co.toNatClampNeg + agF mar top str tel co.toNatClampNeg x22.toNatClampNeg ((y31_4.toInt) - (x22.toInt)).toNat) → (53 - (y31_4.toInt)).toNat < nn → lv_has ls 5 [(0, .ref (a 4)), (1, .int co), (2, .int y31_2), (3, .int x22), (4, .int y31_4)] → W p l e (headSpec wsX1_strengthAgainst { frames := 4, cells := 0, slots := 0, locals := 86 }).room s m ([.ref (a 4), .int co] : List Value).toArray below meth c s.heap [] 0 0 (MQ below (QR (fun r : Int32 => (0 ≤ r.toInt) ∧ (r.toInt ≤ 700) ∧ (r.toInt = fnt gho ghs co.toNatClampNeg + agF mar top str tel co.toNatClampNeg (co.toNatClampNeg - co.toNatClampNeg % 6) 6))) ([.ref (a 4), .int co] : List Value).toArray s 0 0 (fun _ => False)) (F0 m 31 ls []) := by
      intro nn
      induction nn with
      | zero =>
        intro y31_2 y31_4 ls i31_0 i31_1 i31_2 i31_3 i31_4 i31_5 i31_6 i31_7 hm31
        exact absurd hm31 (Nat.not_lt_zero _)
      | succ nn ih31 =>
        intro y31_2 y31_4 ls i31_0 i31_1 i31_2 i31_3 i31_4 i31_5 i31_6 i31_7 hm31 hl
        refine lv_iload hx hb dX1_strengthAgainst_31 (lv_at hl 4 rfl) ?_
        refine lv_iload_n hx hb dX1_strengthAgainst_33 rfl (lv_at hl 3 rfl) ?_
        refine lv_bipush (v := 6) hx hb dX1_strengthAgainst_34 (by decide) ?_
        refine lv_iadd hx hb dX1_strengthAgainst_36 ?_
        have f23 : (x22 + 6).toInt = (x22.toInt) + (6) := addC rfl (show (6 : Int32).toInt = 6 from rfl) (by omega) (by omega)
        refine lv_icmp_ge (tgt := 66) hx hb dX1_strengthAgainst_37 (by decide) (fun c24 => ?_) (fun c24 => ?_)
        · have dc24 : (x22.toInt) + (6) ≤ y31_4.toInt := leC f23 rfl c24
          refine lv_iload_n hx hb dX1_strengthAgainst_66 rfl (lv_at hl 2 rfl) ?_
          exact W.iret (v := y31_2) hx hb hr (fun tq ht hW => ⟨y31_2, rfl, ⟨(show 0 ≤ y31_2.toInt from by omega), (show y31_2.toInt ≤ 700 from by omega), (show y31_2.toInt = fnt gho ghs co.toNatClampNeg + agF mar top str tel co.toNatClampNeg (co.toNatClampNeg - co.toNatClampNeg % 6) 6 from by (exact ag_end i31_7 (by omega) (by omega) (by omega)))⟩, ht⟩) (fun q h => by cases h) dX1_strengthAgainst_67
        · have dc24 : y31_4.toInt < (x22.toInt) + (6) := nleC f23 rfl c24
          refine lv_aload_n hx hb dX1_strengthAgainst_40 rfl (lv_at hl 0 rfl) ?_
          refine lv_iload hx hb dX1_strengthAgainst_41 (lv_at hl 4 rfl) ?_
          refine lv_iload_n hx hb dX1_strengthAgainst_43 rfl (lv_at hl 1 rfl) ?_
          refine rdV (As := [.int y31_4, .int co]) (rest := []) ⟨hx, hb, hml, hown, hts⟩ (k_X1_crowds2 l dC dI cI cZ cQ a top str gho ghs pto cro pla wal fal tel gai day mar y31_4 co r_top r_str r_gho r_ghs r_cro r_pla r_fal r_gai r_day r_mar (by omega) (by omega) (by omega) (by omega)) (cwV 2 hts gX1_strengthAgainst_X1_crowds rfl rfl rfl (by decide +kernel) ⟨Nat.le_of_ble_eq_true rfl, Nat.le_of_ble_eq_true rfl⟩) hP hK hN [0, 1, 2, 3, 4, 5, 6, 7, 8, 9, 10, 11] rfl 0 1 rfl rfl rfl hl.1 rfl (Nat.le_of_ble_eq_true rfl) dX1_strengthAgainst_44 ⟨Nat.le_of_ble_eq_true rfl, Nat.le_of_ble_eq_true rfl⟩ (fun r25 h26 => ?_)
          have h26 : ((((r25 = 1) ∧ (crdB mar top tel y31_4.toNatClampNeg co.toNatClampNeg = true)) ∨ ((r25 = 0) ∧ (crdB mar top tel y31_4.toNatClampNeg co.toNatClampNeg = false)))) := h26
          rcases h26 with (⟨rfl, h26_a0⟩ | ⟨rfl, h26_a0⟩)
          · refine lv_if_eq (tgt := 60) hx hb dX1_strengthAgainst_47 (by decide) (fun c9 => absurd c9 (by decide)) (fun _ => ?_)
            refine lv_iload_n hx hb dX1_strengthAgainst_50 rfl (lv_at hl 2 rfl) ?_
            refine lv_aload_n hx hb dX1_strengthAgainst_51 rfl (lv_at hl 0 rfl) ?_
            refine va_get (D := (dC, dI)) (ci := 1) (v := .ref (a 6)) (C := RX1) (T := TX1) (N := 13) hx hb hts inX1 hown hK hP 0 rfl rfl 2 (by decide) lf15 (fun _ h9 => h9) rfl dX1_strengthAgainst_52 ?_
            refine lv_iload hx hb dX1_strengthAgainst_55 (lv_at hl 4 rfl) ?_
            have b27 : vp_in y31_4 48 := inC rfl (by omega) (by omega)
            refine va_iald hx hb hK hP 2 0 rfl rfl b27 dX1_strengthAgainst_57 ?_
            have g28 : 0 ≤ (str y31_4.toNatClampNeg).toInt ∧ (str y31_4.toNatClampNeg).toInt ≤ 100 := rg_at r_str b27
            refine lv_iadd hx hb dX1_strengthAgainst_58 ?_
            have f29 : (y31_2 + (str y31_4.toNatClampNeg)).toInt = (y31_2.toInt) + ((str y31_4.toNatClampNeg).toInt) := addC rfl rfl (by omega) (by omega)
            refine lv_topi (fun x30 ex30 => ?_)
            have ix30 : x30.toInt = (y31_2.toInt) + ((str y31_4.toNatClampNeg).toInt) := by rw [ex30]; exact f29
            refine lv_istore_n (lv' := [(2, .int x30), (0, .ref (a 4)), (1, .int co), (3, .int x22), (4, .int y31_4)]) hx hb dX1_strengthAgainst_59 rfl hl (by decide) rfl (fun ls hl => ?_)
            obtain ⟨z31, ez31⟩ : ∃ y : Int32, y = y31_4 + 1 := ⟨_, rfl⟩
            have iz31 : z31.toInt = y31_4.toInt + 1 := by rw [ez31]; exact addC rfl rfl (by omega) (by omega)
            refine lv_iinc (v := z31) (lv' := [(4, .int z31), (2, .int x30), (0, .ref (a 4)), (1, .int co), (3, .int x22)]) hx hb dX1_strengthAgainst_60 hl (k := 4) rfl (by rw [ez31]; rfl) (by decide) rfl (fun ls hl => ?_)
            refine lv_goto (tgt := 31) hx hb dX1_strengthAgainst_63 (by decide) ?_
            exact ih31 x30 z31 _ (by omega) (by omega) (by omega) (by omega) (by omega) (by omega) (by omega) (by (first | exact ag_yes i31_7 (by assumption) (by omega) (by omega) (by omega) (by omega) (by omega) | exact ag_no i31_7 (by assumption) (by first | rfl | omega) (by omega) (by omega) (by omega) (by omega) | exact ag_init (by first | exact it_pos (by assumption) (by first | rfl | omega) | exact it_neg (by assumption) (by first | assumption | omega)) (by omega))) (by omega) (lv_sub hl [2, 3, 1, 4, 0] rfl)
          · refine lv_if_eq (tgt := 60) hx hb dX1_strengthAgainst_47 (by decide) (fun _ => ?_) (fun c9 => absurd (by decide) c9)
            obtain ⟨z32, ez32⟩ : ∃ y : Int32, y = y31_4 + 1 := ⟨_, rfl⟩
            have iz32 : z32.toInt = y31_4.toInt + 1 := by rw [ez32]; exact addC rfl rfl (by omega) (by omega)
            refine lv_iinc (v := z32) (lv' := [(4, .int z32), (0, .ref (a 4)), (1, .int co), (2, .int y31_2), (3, .int x22)]) hx hb dX1_strengthAgainst_60 hl (k := 4) rfl (by rw [ez32]; rfl) (by decide) rfl (fun ls hl => ?_)
            refine lv_goto (tgt := 31) hx hb dX1_strengthAgainst_63 (by decide) ?_
            exact ih31 y31_2 z32 _ (by omega) (by omega) (by omega) (by omega) (by omega) (by omega) (by omega) (by (first | exact ag_yes i31_7 (by assumption) (by omega) (by omega) (by omega) (by omega) (by omega) | exact ag_no i31_7 (by assumption) (by first | rfl | omega) (by omega) (by omega) (by omega) (by omega) | exact ag_init (by first | exact it_pos (by assumption) (by first | rfl | omega) | exact it_neg (by assumption) (by first | assumption | omega)) (by omega))) (by omega) (lv_sub hl [1, 2, 3, 4, 0] rfl)
    have kc33 : (0 : Int32).toInt = 0 := rfl
    exact L31 _ 0 x22 _ (by omega) (by omega) (by omega) (by omega) (by omega) (by omega) (by omega) (by (first | exact ag_init (by first | exact it_pos (by assumption) (by first | rfl | omega) | exact it_neg (by assumption) (by first | assumption | omega)) (by omega) | exact ag_yes i31_7 (by assumption) (by omega) (by omega) (by omega) (by omega) (by omega) | exact ag_no i31_7 (by assumption) (by first | rfl | omega) (by omega) (by omega) (by omega) (by omega))) (Nat.lt_succ_self _) (lv_sub hl [3, 4, 2, 1, 0] rfl)
set_option maxHeartbeats 4000000 in
set_option maxRecDepth 100000 in
theorem k_X9_right2 (l : Launch) (dC : Nat → ClassId) (dI : Nat → Nat → Nat) (cI cZ cQ : ClassId) (a : Nat → Nat) (rb0 : Nat) (rb1 : Nat) (rb2 : Nat) (db0 : Nat) (db1 : Nat) (db2 : Nat) (top : Nat → Int32) (str : Nat → Int32) (gho : Nat → Int32) (ghs : Nat → Int32) (pto : Nat → Int32) (cro : Nat → Int32) (pla : Nat → Int32) (wal : Nat → Int32) (fal : Nat → Int32) (tel : Int32) (gai : Int32) (day : Int32) (mar : Nat → Int32) (co : Int32) (pt : Int32) (r_top : rg 48 (-1) (23) top) (r_str : rg 48 (0) (100) str) (r_gho : rg 48 (-1) (23) gho) (r_ghs : rg 48 (0) (100) ghs) (r_cro : rg 48 (0) (6) cro) (r_pla : rg 24 (-1) (47) pla) (r_fal : rg 11 (0) (30) fal) (r_gai : 0 ≤ gai.toInt ∧ gai.toInt ≤ 100) (r_day : 0 ≤ day.toInt ∧ day.toInt ≤ 400) (r_mar : rg 24 (0) (255) mar) : KR l yX9_right wsX9_right { frames := 5, cells := 0, slots := 0, locals := 110 } (dC, dI) (TY cI cZ cQ) (wsC cI cZ cQ a rb0 rb1 rb2 db0 db1 db2 top str gho ghs pto cro pla wal fal tel gai day mar) [.ref (a 43), .int co, .int pt] (fun r : Int32 => (spRgt mar top str gho ghs tel co pt r)) := by
  refine Met.ofW (cc := cX9_right) (maxL := 6) (ret := (some .int)) (by decide) rfl ?_
  intro p e s m args below meth c s₁ B hml hv
  obtain ⟨rfl, hP, hK, hN⟩ := hv
  have hx := B.exec
  have hb := B.bytes
  have hr := B.returns
  have hts := atoms_spec (ws := wsX9_right) B.pre
  have hown : s.vm.findClass RX9 = some m.cls := findClass_of_methodNamed B.named
  have hlocks := B.notSynchronized
  have lf28 := hts (.fieldLink RX9 28 "PalaceOfRooms" "corners" "LPalaceOfRooms$Corners;") (List.mem_cons_of_mem _ (List.mem_append_left _ (List.mem_append_left _ (List.mem_append_left _ (List.mem_append_left _ (List.mem_of_getElem? (i := 0) rfl))))))
  have inX9 : ∀ w ∈ wsX90, w ∈ wsX9_right := fun w h => List.mem_cons_of_mem _ (List.mem_append_left _ (List.mem_append_left _ (List.mem_append_right _ h)))
  have lf131 := hN.use (w := .fieldLinkNest "PalaceOfRooms" 131 "PalaceOfRooms$Corners" "top" "[I" "PalaceOfRooms") (List.mem_of_getElem? (i := 2) rfl) ([.ref (a 43), .int co, .int pt] : List Value).toArray
  have inX1 : ∀ w ∈ wsX10, w ∈ wsX9_right := fun w h => List.mem_cons_of_mem _ (List.mem_append_left _ (List.mem_append_right _ h))
  have lf141 := hN.use (w := .fieldLinkNest "PalaceOfRooms" 141 "PalaceOfRooms$Corners" "strength" "[I" "PalaceOfRooms") (List.mem_of_getElem? (i := 4) rfl) ([.ref (a 43), .int co, .int pt] : List Value).toArray
  have hl := lv_entry ([.ref (a 43), .int co, .int pt]) (n := 6) (Nat.le_of_ble_eq_true rfl)
  rw [lg_entry_eq]
  generalize (lg_sl ([.ref (a 43), .int co, .int pt]) ++ List.replicate (6 - (lg_sl ([.ref (a 43), .int co, .int pt])).length) Slot.unset).toArray = ls at hl ⊢
  have hl : lv_has ls 6 [(0, .ref (a 43)), (1, .int co), (2, .int pt)] := hl
  refine lv_iload_n hx hb dX9_right_0 rfl (lv_at hl 1 rfl) ?_
  refine rdS (As := [.int co]) (rest := []) ⟨hx, hb, hml, hown, hts⟩ (k_X9_isCorner l dC dI cI cZ cQ co) (va_cwS 1 hts gX9_right_X9_isCorner rfl rfl rfl (by decide +kernel) ⟨Nat.le_of_ble_eq_true rfl, Nat.le_of_ble_eq_true rfl⟩) hP hK hN [] rfl rfl hl.1 rfl (Nat.le_of_ble_eq_true rfl) dX9_right_1 ⟨Nat.le_of_ble_eq_true rfl, Nat.le_of_ble_eq_true rfl⟩ (fun r1 h2 => ?_)
  have h2 : ((((r1 = 1) ∧ (0 ≤ co.toInt) ∧ (co.toInt ≤ 47)) ∨ ((r1 = 0) ∧ (co.toInt < 0 ∨ 47 < co.toInt)))) := h2
  rcases h2 with (⟨rfl, h2_a0, h2_a1⟩ | ⟨rfl, h2_a0⟩)
  · refine lv_if_ne (tgt := 10) hx hb dX9_right_4 (by decide) (fun _ => ?_) (fun c9 => absurd c9 (by decide))
    refine lv_iload_n hx hb dX9_right_10 rfl (lv_at hl 2 rfl) ?_
    refine lv_iconst (v := 0) hx hb dX9_right_11 (by decide) ?_
    refine lv_iconst (v := 1) hx hb dX9_right_12 (by decide) ?_
    refine rdS (As := [.int pt, .int 0, .int 1]) (rest := []) ⟨hx, hb, hml, hown, hts⟩ (k_X9_within l dC dI cI cZ cQ pt (0 : Int32) (1 : Int32)) (va_cwS 3 hts gX9_right_X9_within rfl rfl rfl (by decide +kernel) ⟨Nat.le_of_ble_eq_true rfl, Nat.le_of_ble_eq_true rfl⟩) hP hK hN [] rfl rfl hl.1 rfl (Nat.le_of_ble_eq_true rfl) dX9_right_13 ⟨Nat.le_of_ble_eq_true rfl, Nat.le_of_ble_eq_true rfl⟩ (fun r3 h4 => ?_)
    have h4 : ((((r3 = 1) ∧ ((0) ≤ pt.toInt) ∧ (pt.toInt ≤ (1))) ∨ ((r3 = 0) ∧ (pt.toInt < (0) ∨ (1) < pt.toInt)))) := h4
    rcases h4 with (⟨rfl, h4_a0, h4_a1⟩ | ⟨rfl, h4_a0⟩)
    · refine lv_if_ne (tgt := 22) hx hb dX9_right_16 (by decide) (fun _ => ?_) (fun c9 => absurd c9 (by decide))
      refine lv_aload_n hx hb dX9_right_22 rfl (lv_at hl 0 rfl) ?_
      refine va_get (D := (dC, dI)) (ci := 9) (v := .ref (a 4)) (C := RX9) (T := TX9) (N := 11) hx hb hts inX9 hown hK hP 0 rfl rfl 2 (by decide) lf28 (fun _ h9 => h9) rfl dX9_right_23 ?_
      refine va_getN (D := (dC, dI)) (ci := 1) (v := .ref (a 5)) (C := RX1) (T := TX1) (N := 13) hx hb hts inX1 hown hK hP 1 rfl rfl 1 (by decide) lf131 (fun _ h9 => h9) rfl dX9_right_26 ?_
      refine lv_iload_n hx hb dX9_right_29 rfl (lv_at hl 1 rfl) ?_
      have b5 : vp_in co 48 := inC rfl (by omega) (by omega)
      refine va_iald hx hb hK hP 2 0 rfl rfl b5 dX9_right_30 ?_
      have g6 : -1 ≤ (top co.toNatClampNeg).toInt ∧ (top co.toNatClampNeg).toInt ≤ 23 := rg_at r_top b5
      refine lv_iconst (v := (-1)) hx hb dX9_right_31 (by decide) ?_
      refine lv_icmp_ne (tgt := 38) hx hb dX9_right_32 (by decide) (fun c7 => ?_) (fun c7 => ?_)
      · have dc7 : 0 ≤ (top co.toNatClampNeg).toInt := ka_lo (by omega) (neC rfl (show ((-1) : Int32).toInt = (-1) from rfl) c7)
        refine lv_aload_n hx hb dX9_right_38 rfl (lv_at hl 0 rfl) ?_
        refine va_get (D := (dC, dI)) (ci := 9) (v := .ref (a 4)) (C := RX9) (T := TX9) (N := 11) hx hb hts inX9 hown hK hP 0 rfl rfl 2 (by decide) lf28 (fun _ h9 => h9) rfl dX9_right_39 ?_
        refine va_getN (D := (dC, dI)) (ci := 1) (v := .ref (a 6)) (C := RX1) (T := TX1) (N := 13) hx hb hts inX1 hown hK hP 1 rfl rfl 2 (by decide) lf141 (fun _ h9 => h9) rfl dX9_right_42 ?_
        refine lv_iload_n hx hb dX9_right_45 rfl (lv_at hl 1 rfl) ?_
        have b8 : vp_in co 48 := inC rfl (by omega) (by omega)
        refine va_iald hx hb hK hP 3 0 rfl rfl b8 dX9_right_46 ?_
        have g9 : 0 ≤ (str co.toNatClampNeg).toInt ∧ (str co.toNatClampNeg).toInt ≤ 100 := rg_at r_str b8
        refine lv_topi (fun x10 ex10 => ?_)
        have ix10 : x10.toInt = (str co.toNatClampNeg).toInt := by rw [ex10]
        refine lv_istore_n (lv' := [(3, .int x10), (0, .ref (a 43)), (1, .int co), (2, .int pt)]) hx hb dX9_right_47 rfl hl (by decide) rfl (fun ls hl => ?_)
        refine lv_iload_n hx hb dX9_right_48 rfl (lv_at hl 0 rfl) ?_
        refine lv_aload_n hx hb dX9_right_49 rfl (lv_at hl 1 rfl) ?_
        refine va_get (D := (dC, dI)) (ci := 9) (v := .ref (a 4)) (C := RX9) (T := TX9) (N := 11) hx hb hts inX9 hown hK hP 0 rfl rfl 2 (by decide) lf28 (fun _ h9 => h9) rfl dX9_right_50 ?_
        refine lv_iload_n hx hb dX9_right_53 rfl (lv_at hl 2 rfl) ?_
        refine rdV (As := [.int co]) (rest := [.int x10]) ⟨hx, hb, hml, hown, hts⟩ (k_X1_strengthAgainst2 l dC dI cI cZ cQ a top str gho ghs pto cro pla wal fal tel gai day mar co r_top r_str r_gho r_ghs r_cro r_pla r_fal r_gai r_day r_mar (by omega) (by omega)) (cwV 1 hts gX9_right_X1_strengthAgainst rfl rfl rfl (by decide +kernel) ⟨Nat.le_of_ble_eq_true rfl, Nat.le_of_ble_eq_true rfl⟩) hP hK hN [1, 2, 3, 4, 5, 6, 7, 8, 9, 10, 11, 12] rfl 1 1 rfl rfl rfl hl.1 rfl (Nat.le_of_ble_eq_true rfl) dX9_right_54 ⟨Nat.le_of_ble_eq_true rfl, Nat.le_of_ble_eq_true rfl⟩ (fun r11 h12 => ?_)
        have h12 : (0 ≤ r11.toInt) ∧ (r11.toInt ≤ 700) ∧ (r11.toInt = fnt gho ghs co.toNatClampNeg + agF mar top str tel co.toNatClampNeg (co.toNatClampNeg - co.toNatClampNeg % 6) 6) := h12
        obtain ⟨h12_0, h12_1, h12_2⟩ := h12
        refine lv_iadd hx hb dX9_right_57 ?_
        have f13 : (x10 + r11).toInt = (x10.toInt) + (r11.toInt) := addC rfl rfl (by omega) (by omega)
        refine lv_topi (fun x14 ex14 => ?_)
        have ix14 : x14.toInt = (x10.toInt) + (r11.toInt) := by rw [ex14]; exact f13
        refine lv_istore (lv' := [(4, .int x14), (3, .int x10), (0, .ref (a 43)), (1, .int co), (2, .int pt)]) hx hb dX9_right_58 hl (by decide) rfl (fun ls hl => ?_)
        have hB : (x14.toInt) = raF mar top str gho ghs tel co.toNatClampNeg := (by unfold raF; omega)
        refine lv_iload_n hx hb dX9_right_60 rfl (lv_at hl 1 rfl) ?_
        refine lv_iload hx hb dX9_right_61 (lv_at hl 0 rfl) ?_
        refine rdS (As := [.int x10, .int x14]) (rest := []) ⟨hx, hb, hml, hown, hts⟩ (k_X9_commonDivisor2 l dC dI cI cZ cQ x10 x14 (by omega) (by omega) (by omega) (by omega)) (va_cwS 2 hts gX9_right_X9_commonDivisor rfl rfl rfl (by decide +kernel) ⟨Nat.le_of_ble_eq_true rfl, Nat.le_of_ble_eq_true rfl⟩) hP hK hN [] rfl rfl hl.1 rfl (Nat.le_of_ble_eq_true rfl) dX9_right_63 ⟨Nat.le_of_ble_eq_true rfl, Nat.le_of_ble_eq_true rfl⟩ (fun r15 h16 => ?_)
        have h16 : (r15.toInt = gcF x10.toInt x14.toInt) ∧ (0 ≤ r15.toInt) ∧ (r15.toInt ≤ 1000) := h16
        obtain ⟨h16_0, h16_1, h16_2⟩ := h16
        refine lv_istore (lv' := [(5, .int r15), (4, .int x14), (3, .int x10), (0, .ref (a 43)), (1, .int co), (2, .int pt)]) hx hb dX9_right_66 hl (by decide) rfl (fun ls hl => ?_)
        refine lv_iload hx hb dX9_right_68 (lv_at hl 0 rfl) ?_
        refine lv_if_gt (tgt := 76) hx hb dX9_right_70 (by decide) (fun c17 => ?_) (fun c17 => ?_)
        · have dc17 : 0 < r15.toInt := ltC (show (0 : Int32).toInt = 0 from rfl) rfl c17
          refine lv_iload_n hx hb dX9_right_76 rfl (lv_at hl 5 rfl) ?_
          refine lv_if_ne (tgt := 84) hx hb dX9_right_77 (by decide) (fun c18 => ?_) (fun c18 => ?_)
          · have dc18 : 1 ≤ pt.toInt := ka_lo (by omega) (neC rfl (show (0 : Int32).toInt = 0 from rfl) c18)
            refine lv_iload hx hb dX9_right_84 (lv_at hl 1 rfl) ?_
            refine lv_iload hx hb dX9_right_86 (lv_at hl 0 rfl) ?_
            refine lv_idiv hx hb dX9_right_88 (n0C rfl (by omega)) ?_
            have f19 : (x14 / r15).toInt = (x14.toInt) / (r15.toInt) := divC rfl rfl (by omega) (by omega)
            exact W.iret (v := x14 / r15) hx hb hr (fun tq ht hW => ⟨x14 / r15, rfl, (show spRgt mar top str gho ghs tel co pt (x14 / r15) from by (try rw [show (x14 / r15).toInt = (x14.toInt) / (r15.toInt) from f19]); (first | exact Or.inl ⟨by omega, rfl⟩ | exact Or.inr (Or.inl ⟨by omega, by omega, rfl⟩) | exact Or.inr (Or.inr (Or.inl ⟨by omega, by omega, by assumption, rfl⟩)) | exact Or.inr (Or.inr (Or.inr ⟨by omega, by omega, by assumption, rg_zero (by assumption) hB (by assumption) (by omega) (by omega) (by omega) rfl⟩)) | exact Or.inr (Or.inr (Or.inr ⟨by omega, by omega, by assumption, rg_one (by assumption) hB (by assumption) (by omega) (by omega) (by omega) (by assumption) (by first | exact Or.inl ⟨by omega, rfl⟩ | exact Or.inr ⟨by omega, rfl⟩)⟩)))), ht⟩) (fun q h => by cases h) dX9_right_89
          · have dc18 : pt.toInt = 0 := eqC rfl (show (0 : Int32).toInt = 0 from rfl) c18
            refine lv_iload_n hx hb dX9_right_80 rfl (lv_at hl 2 rfl) ?_
            refine lv_goto (tgt := 86) hx hb dX9_right_81 (by decide) ?_
            refine lv_iload hx hb dX9_right_86 (lv_at hl 0 rfl) ?_
            refine lv_idiv hx hb dX9_right_88 (n0C rfl (by omega)) ?_
            have f20 : (x10 / r15).toInt = (x10.toInt) / (r15.toInt) := divC rfl rfl (by omega) (by omega)
            exact W.iret (v := x10 / r15) hx hb hr (fun tq ht hW => ⟨x10 / r15, rfl, (show spRgt mar top str gho ghs tel co pt (x10 / r15) from by (try rw [show (x10 / r15).toInt = (x10.toInt) / (r15.toInt) from f20]); (first | exact Or.inl ⟨by omega, rfl⟩ | exact Or.inr (Or.inl ⟨by omega, by omega, rfl⟩) | exact Or.inr (Or.inr (Or.inl ⟨by omega, by omega, by assumption, rfl⟩)) | exact Or.inr (Or.inr (Or.inr ⟨by omega, by omega, by assumption, rg_zero (by assumption) hB (by assumption) (by omega) (by omega) (by omega) rfl⟩)) | exact Or.inr (Or.inr (Or.inr ⟨by omega, by omega, by assumption, rg_one (by assumption) hB (by assumption) (by omega) (by omega) (by omega) (by assumption) (by first | exact Or.inl ⟨by omega, rfl⟩ | exact Or.inr ⟨by omega, rfl⟩)⟩)))), ht⟩) (fun q h => by cases h) dX9_right_89
        · have dc17 : r15.toInt ≤ 0 := nltC (show (0 : Int32).toInt = 0 from rfl) rfl c17
          refine lv_bipush (v := (-4)) hx hb dX9_right_73 (by decide) ?_
          exact W.iret (v := (-4)) hx hb hr (fun tq ht hW => ⟨(-4), rfl, (show spRgt mar top str gho ghs tel co pt ((-4) : Int32) from by (try rw [show ((-4) : Int32).toInt = (-4) from (show ((-4) : Int32).toInt = (-4) from rfl)]); (first | exact Or.inl ⟨by omega, rfl⟩ | exact Or.inr (Or.inl ⟨by omega, by omega, rfl⟩) | exact Or.inr (Or.inr (Or.inl ⟨by omega, by omega, by assumption, rfl⟩)) | exact Or.inr (Or.inr (Or.inr ⟨by omega, by omega, by assumption, rg_zero (by assumption) hB (by assumption) (by omega) (by omega) (by omega) rfl⟩)) | exact Or.inr (Or.inr (Or.inr ⟨by omega, by omega, by assumption, rg_one (by assumption) hB (by assumption) (by omega) (by omega) (by omega) (by assumption) (by first | exact Or.inl ⟨by omega, rfl⟩ | exact Or.inr ⟨by omega, rfl⟩)⟩)))), ht⟩) (fun q h => by cases h) dX9_right_75
      · have dc7 : (top co.toNatClampNeg).toInt = (-1) := eqC rfl (show ((-1) : Int32).toInt = (-1) from rfl) c7
        refine lv_bipush (v := (-4)) hx hb dX9_right_35 (by decide) ?_
        exact W.iret (v := (-4)) hx hb hr (fun tq ht hW => ⟨(-4), rfl, (show spRgt mar top str gho ghs tel co pt ((-4) : Int32) from by (try rw [show ((-4) : Int32).toInt = (-4) from (show ((-4) : Int32).toInt = (-4) from rfl)]); (first | exact Or.inl ⟨by omega, rfl⟩ | exact Or.inr (Or.inl ⟨by omega, by omega, rfl⟩) | exact Or.inr (Or.inr (Or.inl ⟨by omega, by omega, by assumption, rfl⟩)) | exact Or.inr (Or.inr (Or.inr ⟨by omega, by omega, by assumption, rg_zero (by assumption) hB (by assumption) (by omega) (by omega) (by omega) rfl⟩)) | exact Or.inr (Or.inr (Or.inr ⟨by omega, by omega, by assumption, rg_one (by assumption) hB (by assumption) (by omega) (by omega) (by omega) (by assumption) (by first | exact Or.inl ⟨by omega, rfl⟩ | exact Or.inr ⟨by omega, rfl⟩)⟩)))), ht⟩) (fun q h => by cases h) dX9_right_37
    · refine lv_if_ne (tgt := 22) hx hb dX9_right_16 (by decide) (fun c9 => absurd (by decide) c9) (fun _ => ?_)
      refine lv_bipush (v := (-3)) hx hb dX9_right_19 (by decide) ?_
      exact W.iret (v := (-3)) hx hb hr (fun tq ht hW => ⟨(-3), rfl, (show spRgt mar top str gho ghs tel co pt ((-3) : Int32) from by (try rw [show ((-3) : Int32).toInt = (-3) from (show ((-3) : Int32).toInt = (-3) from rfl)]); (first | exact Or.inl ⟨by omega, rfl⟩ | exact Or.inr (Or.inl ⟨by omega, by omega, rfl⟩) | exact Or.inr (Or.inr (Or.inl ⟨by omega, by omega, by assumption, rfl⟩)) | exact Or.inr (Or.inr (Or.inr ⟨by omega, by omega, by assumption, rg_zero (by assumption) hB (by assumption) (by omega) (by omega) (by omega) rfl⟩)) | exact Or.inr (Or.inr (Or.inr ⟨by omega, by omega, by assumption, rg_one (by assumption) hB (by assumption) (by omega) (by omega) (by omega) (by assumption) (by first | exact Or.inl ⟨by omega, rfl⟩ | exact Or.inr ⟨by omega, rfl⟩)⟩)))), ht⟩) (fun q h => by cases h) dX9_right_21
  · refine lv_if_ne (tgt := 10) hx hb dX9_right_4 (by decide) (fun c9 => absurd (by decide) c9) (fun _ => ?_)
    refine lv_bipush (v := (-2)) hx hb dX9_right_7 (by decide) ?_
    exact W.iret (v := (-2)) hx hb hr (fun tq ht hW => ⟨(-2), rfl, (show spRgt mar top str gho ghs tel co pt ((-2) : Int32) from by (try rw [show ((-2) : Int32).toInt = (-2) from (show ((-2) : Int32).toInt = (-2) from rfl)]); (first | exact Or.inl ⟨by omega, rfl⟩ | exact Or.inr (Or.inl ⟨by omega, by omega, rfl⟩) | exact Or.inr (Or.inr (Or.inl ⟨by omega, by omega, by assumption, rfl⟩)) | exact Or.inr (Or.inr (Or.inr ⟨by omega, by omega, by assumption, rg_zero (by assumption) hB (by assumption) (by omega) (by omega) (by omega) rfl⟩)) | exact Or.inr (Or.inr (Or.inr ⟨by omega, by omega, by assumption, rg_one (by assumption) hB (by assumption) (by omega) (by omega) (by omega) (by assumption) (by first | exact Or.inl ⟨by omega, rfl⟩ | exact Or.inr ⟨by omega, rfl⟩)⟩)))), ht⟩) (fun q h => by cases h) dX9_right_9
set_option maxHeartbeats 4000000 in
set_option maxRecDepth 100000 in
theorem k_X10_right2 (l : Launch) (dC : Nat → ClassId) (dI : Nat → Nat → Nat) (cI cZ cQ : ClassId) (b : Nat → Nat) (mday : Int32) (mdoo : Int32) (mdA : Nat → Int32) (mdB : Nat → Int32) (mfar : Nat → Int32) (mmar : Nat → Int32) (mtel : Int32) (mgai : Int32) (mfal : Nat → Int32) (mtop : Nat → Int32) (mstr : Nat → Int32) (mgho : Nat → Int32) (mfai : Nat → Int32) (mpto : Nat → Int32) (mwal : Nat → Int32) (mahd : Nat → Int32) (mahf : Nat → Int32) (mcho : Nat → Int32) (mbes : Nat → Int32) (mbyt : Int32) (mtxt : Nat → Int32) (mpos : Int32) (mtka : Int32) (mtok : Int64) (mdig : Int32) (mnum : Int32) (mfau : Int32) (mrdm : Int32) (mrea : Nat → Int32) (mlin : Int32) (mlne : Nat → Int32) (mthg : Nat → Int32) (mord : Nat → Int32) (mbor : Nat → Int32) (mbsm : Int32) (mans : Nat → Int32) (mand : Nat → Int32) (manr : Nat → Int32) (mali : Nat → Int32) (co : Int32) (pt : Int32) (r_mday : 0 ≤ mday.toInt ∧ mday.toInt ≤ 400) (r_mdoo : 0 ≤ mdoo.toInt ∧ mdoo.toInt ≤ 14) (r_mdA : rg 14 (0) (7) mdA) (r_mdB : rg 14 (0) (7) mdB) (r_mmar : rg 24 (0) (255) mmar) (r_mgai : 0 ≤ mgai.toInt ∧ mgai.toInt ≤ 100) (r_mfal : rg 11 (0) (30) mfal) (r_mtop : rg 48 (-1) (23) mtop) (r_mstr : rg 48 (0) (100) mstr) (r_mgho : rg 48 (-1) (23) mgho) (r_mfai : rg 48 (0) (100) mfai) (r_mahd : rg 240 (0) (100) mahd) (r_mahf : rg 240 (0) (100) mahf) (r_mcho : rg 5 (-1) (9) mcho) (r_mbyt : 0 ≤ mbyt.toInt ∧ mbyt.toInt ≤ 160) (r_mpos : 0 ≤ mpos.toInt ∧ mpos.toInt ≤ 160) (r_mrdm : 0 ≤ mrdm.toInt ∧ mrdm.toInt ≤ 10) (r_mlin : 0 ≤ mlin.toInt ∧ mlin.toInt ≤ 10) (r_mthg : rg 8 (0) (31) mthg) (r_mord : rg 8 (-1) (8) mord) (r_mans : rg 4 (0) (12) mans) : KR l yX10_right wsX10_right { frames := 2, cells := 0, slots := 0, locals := 42 } (dC, dI) (TY cI cZ cQ) (wMod cI cZ cQ b mday mdoo mdA mdB mfar mmar mtel mgai mfal mtop mstr mgho mfai mpto mwal mahd mahf mcho mbes mbyt mtxt mpos mtka mtok mdig mnum mfau mrdm mrea mlin mlne mthg mord mbor mbsm mans mand manr mali) [.ref (b 39), .int co, .int pt] (fun r : Int32 => (spRgt mmar mtop mstr mgho mfai mtel co pt r)) := by
  refine Met.ofW (cc := cX10_right) (maxL := 7) (ret := (some .int)) (by decide) rfl ?_
  intro p e s m args below meth c s₁ B hml hv
  obtain ⟨rfl, hP, hK, hN⟩ := hv
  have hx := B.exec
  have hb := B.bytes
  have hr := B.returns
  have hts := atoms_spec (ws := wsX10_right) B.pre
  have hown : s.vm.findClass RX10 = some m.cls := findClass_of_methodNamed B.named
  have hlocks := B.notSynchronized
  have lf32 := hts (.fieldLink RX10 32 "PalaceOfRoomsModel" "top" "[I") (List.mem_cons_of_mem _ (List.mem_append_left _ (List.mem_of_getElem? (i := 0) rfl)))
  have inX10 : ∀ w ∈ wsX100, w ∈ wsX10_right := fun w h => List.mem_cons_of_mem _ (List.mem_append_right _ h)
  have lf35 := hts (.fieldLink RX10 35 "PalaceOfRoomsModel" "strength" "[I") (List.mem_cons_of_mem _ (List.mem_append_left _ (List.mem_of_getElem? (i := 1) rfl)))
  have lf22 := hts (.fieldLink RX10 22 "PalaceOfRoomsModel" "tell" "I") (List.mem_cons_of_mem _ (List.mem_append_left _ (List.mem_of_getElem? (i := 4) rfl)))
  have lf38 := hts (.fieldLink RX10 38 "PalaceOfRoomsModel" "ghost" "[I") (List.mem_cons_of_mem _ (List.mem_append_left _ (List.mem_of_getElem? (i := 2) rfl)))
  have lf41 := hts (.fieldLink RX10 41 "PalaceOfRoomsModel" "faint" "[I") (List.mem_cons_of_mem _ (List.mem_append_left _ (List.mem_of_getElem? (i := 3) rfl)))
  have hl := lv_entry ([.ref (b 39), .int co, .int pt]) (n := 7) (Nat.le_of_ble_eq_true rfl)
  rw [lg_entry_eq]
  generalize (lg_sl ([.ref (b 39), .int co, .int pt]) ++ List.replicate (7 - (lg_sl ([.ref (b 39), .int co, .int pt])).length) Slot.unset).toArray = ls at hl ⊢
  have hl : lv_has ls 7 [(0, .ref (b 39)), (1, .int co), (2, .int pt)] := hl
  refine lv_iload_n hx hb dX10_right_0 rfl (lv_at hl 1 rfl) ?_
  refine rdS (As := [.int co]) (rest := []) ⟨hx, hb, hml, hown, hts⟩ (k_X10_isCorner l dC dI cI cZ cQ co) (va_cwS 1 hts gX10_right_X10_isCorner rfl rfl rfl (by decide +kernel) ⟨Nat.le_of_ble_eq_true rfl, Nat.le_of_ble_eq_true rfl⟩) hP hK hN [] rfl rfl hl.1 rfl (Nat.le_of_ble_eq_true rfl) dX10_right_1 ⟨Nat.le_of_ble_eq_true rfl, Nat.le_of_ble_eq_true rfl⟩ (fun r1 h2 => ?_)
  have h2 : ((((r1 = 1) ∧ (0 ≤ co.toInt) ∧ (co.toInt ≤ 47)) ∨ ((r1 = 0) ∧ (co.toInt < 0 ∨ 47 < co.toInt)))) := h2
  rcases h2 with (⟨rfl, h2_a0, h2_a1⟩ | ⟨rfl, h2_a0⟩)
  · refine lv_if_ne (tgt := 10) hx hb dX10_right_4 (by decide) (fun _ => ?_) (fun c9 => absurd c9 (by decide))
    refine lv_iload_n hx hb dX10_right_10 rfl (lv_at hl 2 rfl) ?_
    refine lv_iconst (v := 0) hx hb dX10_right_11 (by decide) ?_
    refine lv_iconst (v := 1) hx hb dX10_right_12 (by decide) ?_
    refine rdS (As := [.int pt, .int 0, .int 1]) (rest := []) ⟨hx, hb, hml, hown, hts⟩ (k_X10_in l dC dI cI cZ cQ pt (0 : Int32) (1 : Int32)) (va_cwS 3 hts gX10_right_X10_in rfl rfl rfl (by decide +kernel) ⟨Nat.le_of_ble_eq_true rfl, Nat.le_of_ble_eq_true rfl⟩) hP hK hN [] rfl rfl hl.1 rfl (Nat.le_of_ble_eq_true rfl) dX10_right_13 ⟨Nat.le_of_ble_eq_true rfl, Nat.le_of_ble_eq_true rfl⟩ (fun r3 h4 => ?_)
    have h4 : ((((r3 = 1) ∧ ((0) ≤ pt.toInt) ∧ (pt.toInt ≤ (1))) ∨ ((r3 = 0) ∧ (pt.toInt < (0) ∨ (1) < pt.toInt)))) := h4
    rcases h4 with (⟨rfl, h4_a0, h4_a1⟩ | ⟨rfl, h4_a0⟩)
    · refine lv_if_ne (tgt := 22) hx hb dX10_right_16 (by decide) (fun _ => ?_) (fun c9 => absurd c9 (by decide))
      refine lv_aload_n hx hb dX10_right_22 rfl (lv_at hl 0 rfl) ?_
      refine va_get (D := (dC, dI)) (ci := 10) (v := .ref (b 9)) (C := RX10) (T := TX10) (N := 39) hx hb hts inX10 hown hK hP 0 rfl rfl 9 (by decide) lf32 (fun _ h9 => h9) rfl dX10_right_23 ?_
      refine lv_iload_n hx hb dX10_right_26 rfl (lv_at hl 1 rfl) ?_
      have b5 : vp_in co 48 := inC rfl (by omega) (by omega)
      refine va_iald hx hb hK hP 6 0 rfl rfl b5 dX10_right_27 ?_
      have g6 : -1 ≤ (mtop co.toNatClampNeg).toInt ∧ (mtop co.toNatClampNeg).toInt ≤ 23 := rg_at r_mtop b5
      refine lv_iconst (v := (-1)) hx hb dX10_right_28 (by decide) ?_
      refine lv_icmp_ne (tgt := 35) hx hb dX10_right_29 (by decide) (fun c7 => ?_) (fun c7 => ?_)
      · have dc7 : 0 ≤ (mtop co.toNatClampNeg).toInt := ka_lo (by omega) (neC rfl (show ((-1) : Int32).toInt = (-1) from rfl) c7)
        have L63 : ∀ (y63_3 : Int32) (ls : Array Slot), (0 ≤ (y63_3.toInt)) → ((y63_3.toInt) ≤ 200) → ((y63_3.toInt) = (mstr co.toNatClampNeg).toInt + (if mgho co.toNatClampNeg = -1 then 0 else (mfai co.toNatClampNeg).toInt)) → ((mstr co.toNatClampNeg).toInt ≤ (y63_3.toInt)) → lv_has ls 7 [(0, .ref (b 39)), (1, .int co), (2, .int pt), (3, .int y63_3)] → W p l e (headSpec wsX10_right { frames := 2, cells := 0, slots := 0, locals := 42 }).room s m ([.ref (b 39), .int co, .int pt] : List Value).toArray below meth c s.heap [] 0 0 (MQ below (QR (fun r : Int32 => (spRgt mmar mtop mstr mgho mfai mtel co pt r))) ([.ref (b 39), .int co, .int pt] : List Value).toArray s 0 0 (fun _ => False)) (F0 m 63 ls []) := by
          intro y63_3 ls i63_0 i63_1 i63_2 i63_3 hl
          refine lv_iload_n hx hb dX10_right_63 rfl (lv_at hl 1 rfl) ?_
          refine lv_bipush (v := 6) hx hb dX10_right_64 (by decide) ?_
          refine lv_idiv hx hb dX10_right_66 (by decide) ?_
          have f8 : (co / 6).toInt = (co.toInt) / (6) := divC rfl (show (6 : Int32).toInt = 6 from rfl) (by omega) (by omega)
          refine lv_bipush (v := 6) hx hb dX10_right_67 (by decide) ?_
          refine lv_imul hx hb dX10_right_69 ?_
          have f9 : ((co / 6) * 6).toInt = ((co.toInt) / (6)) * (6) := mulC f8 (show (6 : Int32).toInt = 6 from rfl) (by omega) (by omega)
          refine lv_topi (fun x10 ex10 => ?_)
          have ix10 : x10.toInt = ((co.toInt) / (6)) * (6) := by rw [ex10]; exact f9
          refine lv_istore (lv' := [(4, .int x10), (0, .ref (b 39)), (1, .int co), (2, .int pt), (3, .int y63_3)]) hx hb dX10_right_70 hl (by decide) rfl (fun ls hl => ?_)
          have L72 : ∀ (nn : Nat) (y72_3 : Int32) (y72_4 : Int32) (ls : Array Slot), (0 ≤ (y72_4.toInt)) → ((y72_4.toInt) ≤ 48) → (0 ≤ (y72_3.toInt)) → ((y72_3.toInt) ≤ 200 + 100 * ((y72_4.toInt) - (co.toInt) / 6 * 6)) → ((y72_3.toInt) ≤ 900) → ((co.toInt) / 6 * 6 ≤ (y72_4.toInt)) → ((y72_4.toInt) ≤ (co.toInt) / 6 * 6 + 6) → (arI mmar mtop mstr mgho mfai mtel co (y72_4.toInt) (y72_3.toInt)) → ((mstr co.toNatClampNeg).toInt ≤ (y72_3.toInt)) → (48 - (y72_4.toInt)).toNat < nn → lv_has ls 7 [(0, .ref (b 39)), (1, .int co), (2, .int pt), (3, .int y72_3), (4, .int y72_4)] → W p l e (headSpec wsX10_right { frames := 2, cells := 0, slots := 0, locals := 42 }).room s m ([.ref (b 39), .int co, .int pt] : List Value).toArray below meth c s.heap [] 0 0 (MQ below (QR (fun r : Int32 => (spRgt mmar mtop mstr mgho mfai mtel co pt r))) ([.ref (b 39), .int co, .int pt] : List Value).toArray s 0 0 (fun _ => False)) (F0 m 72 ls []) := by
            intro nn
            induction nn with
            | zero =>
              intro y72_3 y72_4 ls i72_0 i72_1 i72_2 i72_3 i72_4 i72_5 i72_6 i72_7 i72_8 hm72
              exact absurd hm72 (Nat.not_lt_zero _)
            | succ nn ih72 =>
              intro y72_3 y72_4 ls i72_0 i72_1 i72_2 i72_3 i72_4 i72_5 i72_6 i72_7 i72_8 hm72 hl
              refine lv_iload hx hb dX10_right_72 (lv_at hl 4 rfl) ?_
              refine lv_iload_n hx hb dX10_right_74 rfl (lv_at hl 1 rfl) ?_
              refine lv_bipush (v := 6) hx hb dX10_right_75 (by decide) ?_
              refine lv_idiv hx hb dX10_right_77 (by decide) ?_
              have f11 : (co / 6).toInt = (co.toInt) / (6) := divC rfl (show (6 : Int32).toInt = 6 from rfl) (by omega) (by omega)
              refine lv_bipush (v := 6) hx hb dX10_right_78 (by decide) ?_
              refine lv_imul hx hb dX10_right_80 ?_
              have f12 : ((co / 6) * 6).toInt = ((co.toInt) / (6)) * (6) := mulC f11 (show (6 : Int32).toInt = 6 from rfl) (by omega) (by omega)
              refine lv_bipush (v := 6) hx hb dX10_right_81 (by decide) ?_
              refine lv_iadd hx hb dX10_right_83 ?_
              have f13 : (((co / 6) * 6) + 6).toInt = (((co.toInt) / (6)) * (6)) + (6) := addC f12 (show (6 : Int32).toInt = 6 from rfl) (by omega) (by omega)
              refine lv_icmp_ge (tgt := 148) hx hb dX10_right_84 (by decide) (fun c14 => ?_) (fun c14 => ?_)
              · have dc14 : (((co.toInt) / (6)) * (6)) + (6) ≤ y72_4.toInt := leC f13 rfl c14
                refine lv_iload_n hx hb dX10_right_148 rfl (lv_at hl 3 rfl) ?_
                refine lv_if_ne (tgt := 155) hx hb dX10_right_149 (by decide) (fun c15 => ?_) (fun c15 => ?_)
                · have dc15 : 1 ≤ y72_3.toInt := ka_lo (by omega) (neC rfl (show (0 : Int32).toInt = 0 from rfl) c15)
                  refine lv_iload_n hx hb dX10_right_155 rfl (lv_at hl 3 rfl) ?_
                  refine lv_istore (lv' := [(4, .int y72_3), (0, .ref (b 39)), (1, .int co), (2, .int pt), (3, .int y72_3)]) hx hb dX10_right_156 hl (by decide) rfl (fun ls hl => ?_)
                  refine lv_aload_n hx hb dX10_right_158 rfl (lv_at hl 1 rfl) ?_
                  refine va_get (D := (dC, dI)) (ci := 10) (v := .ref (b 10)) (C := RX10) (T := TX10) (N := 39) hx hb hts inX10 hown hK hP 0 rfl rfl 10 (by decide) lf35 (fun _ h9 => h9) rfl dX10_right_159 ?_
                  refine lv_iload_n hx hb dX10_right_162 rfl (lv_at hl 2 rfl) ?_
                  have b16 : vp_in co 48 := inC rfl (by omega) (by omega)
                  refine va_iald hx hb hK hP 7 0 rfl rfl b16 dX10_right_163 ?_
                  have g17 : 0 ≤ (mstr co.toNatClampNeg).toInt ∧ (mstr co.toNatClampNeg).toInt ≤ 100 := rg_at r_mstr b16
                  refine lv_topi (fun x18 ex18 => ?_)
                  have ix18 : x18.toInt = (mstr co.toNatClampNeg).toInt := by rw [ex18]
                  refine lv_istore (lv' := [(5, .int x18), (4, .int y72_3), (0, .ref (b 39)), (1, .int co), (2, .int pt), (3, .int y72_3)]) hx hb dX10_right_164 hl (by decide) rfl (fun ls hl => ?_)
                  have L166 : ∀ (nn : Nat) (y166_4 : Int32) (y166_5 : Int32) (ls : Array Slot), (0 < (y166_4.toInt)) → ((y166_4.toInt) ≤ 900) → (0 ≤ (y166_5.toInt)) → ((y166_5.toInt) ≤ 900) → (gcF (y166_4.toInt) (y166_5.toInt) = gcF (y72_3.toInt) (mstr co.toNatClampNeg).toInt) → ((y166_5.toInt)).toNat < nn → lv_has ls 7 [(0, .ref (b 39)), (1, .int co), (2, .int pt), (3, .int y72_3), (4, .int y166_4), (5, .int y166_5)] → W p l e (headSpec wsX10_right { frames := 2, cells := 0, slots := 0, locals := 42 }).room s m ([.ref (b 39), .int co, .int pt] : List Value).toArray below meth c s.heap [] 0 0 (MQ below (QR (fun r : Int32 => (spRgt mmar mtop mstr mgho mfai mtel co pt r))) ([.ref (b 39), .int co, .int pt] : List Value).toArray s 0 0 (fun _ => False)) (F0 m 166 ls []) := by
                    intro nn
                    induction nn with
                    | zero =>
                      intro y166_4 y166_5 ls i166_0 i166_1 i166_2 i166_3 i166_4 hm166
                      exact absurd hm166 (Nat.not_lt_zero _)
                    | succ nn ih166 =>
                      intro y166_4 y166_5 ls i166_0 i166_1 i166_2 i166_3 i166_4 hm166 hl
                      refine lv_iload hx hb dX10_right_166 (lv_at hl 5 rfl) ?_
                      refine lv_if_eq (tgt := 189) hx hb dX10_right_168 (by decide) (fun c19 => ?_) (fun c19 => ?_)
                      · have dc19 : y166_5.toInt = 0 := eqC rfl (show (0 : Int32).toInt = 0 from rfl) c19
                        refine lv_iload_n hx hb dX10_right_189 rfl (lv_at hl 2 rfl) ?_
                        refine lv_if_ne (tgt := 205) hx hb dX10_right_190 (by decide) (fun c20 => ?_) (fun c20 => ?_)
                        · have dc20 : 1 ≤ pt.toInt := ka_lo (by omega) (neC rfl (show (0 : Int32).toInt = 0 from rfl) c20)
                          refine lv_iload_n hx hb dX10_right_205 rfl (lv_at hl 3 rfl) ?_
                          refine lv_iload hx hb dX10_right_206 (lv_at hl 4 rfl) ?_
                          refine lv_idiv hx hb dX10_right_208 (n0C rfl (by omega)) ?_
                          have f21 : (y72_3 / y166_4).toInt = (y72_3.toInt) / (y166_4.toInt) := divC rfl rfl (by omega) (by omega)
                          exact W.iret (v := y72_3 / y166_4) hx hb hr (fun tq ht hW => ⟨y72_3 / y166_4, rfl, (show spRgt mmar mtop mstr mgho mfai mtel co pt (y72_3 / y166_4) from by (try rw [show (y72_3 / y166_4).toInt = (y72_3.toInt) / (y166_4.toInt) from f21]); (first | exact Or.inr (Or.inr (Or.inr ⟨by omega, by omega, by assumption, Or.inl ⟨(ar_end i72_7 (by omega)).symm.trans (by omega), rfl⟩⟩)) | exact Or.inr (Or.inr (Or.inr ⟨by omega, by omega, by assumption, rg_one rfl (ar_end i72_7 (by omega)) (gm_end i166_4 (by omega) (by omega)) (by omega) (by omega) (by omega) (by assumption) (by first | exact Or.inl ⟨by omega, rfl⟩ | exact Or.inr ⟨by omega, rfl⟩)⟩)) | exact Or.inl ⟨by omega, rfl⟩ | exact Or.inr (Or.inl ⟨by omega, by omega, rfl⟩) | exact Or.inr (Or.inr (Or.inl ⟨by omega, by omega, by assumption, rfl⟩)))), ht⟩) (fun q h => by cases h) dX10_right_209
                        · have dc20 : pt.toInt = 0 := eqC rfl (show (0 : Int32).toInt = 0 from rfl) c20
                          refine lv_aload_n hx hb dX10_right_193 rfl (lv_at hl 0 rfl) ?_
                          refine va_get (D := (dC, dI)) (ci := 10) (v := .ref (b 10)) (C := RX10) (T := TX10) (N := 39) hx hb hts inX10 hown hK hP 0 rfl rfl 10 (by decide) lf35 (fun _ h9 => h9) rfl dX10_right_194 ?_
                          refine lv_iload_n hx hb dX10_right_197 rfl (lv_at hl 1 rfl) ?_
                          have b22 : vp_in co 48 := inC rfl (by omega) (by omega)
                          refine va_iald hx hb hK hP 7 0 rfl rfl b22 dX10_right_198 ?_
                          have g23 : 0 ≤ (mstr co.toNatClampNeg).toInt ∧ (mstr co.toNatClampNeg).toInt ≤ 100 := rg_at r_mstr b22
                          refine lv_iload hx hb dX10_right_199 (lv_at hl 4 rfl) ?_
                          refine lv_idiv hx hb dX10_right_201 (n0C rfl (by omega)) ?_
                          have f24 : ((mstr co.toNatClampNeg) / y166_4).toInt = ((mstr co.toNatClampNeg).toInt) / (y166_4.toInt) := divC rfl rfl (by omega) (by omega)
                          refine lv_goto (tgt := 209) hx hb dX10_right_202 (by decide) ?_
                          exact W.iret (v := (mstr co.toNatClampNeg) / y166_4) hx hb hr (fun tq ht hW => ⟨(mstr co.toNatClampNeg) / y166_4, rfl, (show spRgt mmar mtop mstr mgho mfai mtel co pt ((mstr co.toNatClampNeg) / y166_4) from by (try rw [show ((mstr co.toNatClampNeg) / y166_4).toInt = ((mstr co.toNatClampNeg).toInt) / (y166_4.toInt) from f24]); (first | exact Or.inr (Or.inr (Or.inr ⟨by omega, by omega, by assumption, Or.inl ⟨(ar_end i72_7 (by omega)).symm.trans (by omega), rfl⟩⟩)) | exact Or.inr (Or.inr (Or.inr ⟨by omega, by omega, by assumption, rg_one rfl (ar_end i72_7 (by omega)) (gm_end i166_4 (by omega) (by omega)) (by omega) (by omega) (by omega) (by assumption) (by first | exact Or.inl ⟨by omega, rfl⟩ | exact Or.inr ⟨by omega, rfl⟩)⟩)) | exact Or.inl ⟨by omega, rfl⟩ | exact Or.inr (Or.inl ⟨by omega, by omega, rfl⟩) | exact Or.inr (Or.inr (Or.inl ⟨by omega, by omega, by assumption, rfl⟩)))), ht⟩) (fun q h => by cases h) dX10_right_209
                      · have dc19 : 1 ≤ y166_5.toInt := ka_lo (by omega) (neC rfl (show (0 : Int32).toInt = 0 from rfl) c19)
                        refine lv_iload hx hb dX10_right_171 (lv_at hl 4 rfl) ?_
                        refine lv_iload hx hb dX10_right_173 (lv_at hl 5 rfl) ?_
                        refine lv_irem hx hb dX10_right_175 (n0C rfl (by omega)) ?_
                        have f25 : (y166_4 - y166_4 / y166_5 * y166_5).toInt = (y166_4.toInt) % (y166_5.toInt) := remC rfl rfl (by omega) (by omega)
                        have f26 : 0 ≤ (y166_4.toInt) % (y166_5.toInt) := Int.emod_nonneg _ (by omega)
                        have f27 : (y166_4.toInt) % (y166_5.toInt) < y166_5.toInt := Int.emod_lt_of_pos _ (by omega)
                        refine lv_topi (fun x28 ex28 => ?_)
                        have ix28 : x28.toInt = (y166_4.toInt) % (y166_5.toInt) := by rw [ex28]; exact f25
                        refine lv_istore (lv' := [(6, .int x28), (0, .ref (b 39)), (1, .int co), (2, .int pt), (3, .int y72_3), (4, .int y166_4), (5, .int y166_5)]) hx hb dX10_right_176 hl (by decide) rfl (fun ls hl => ?_)
                        refine lv_iload hx hb dX10_right_178 (lv_at hl 6 rfl) ?_
                        refine lv_istore (lv' := [(4, .int y166_5), (6, .int x28), (0, .ref (b 39)), (1, .int co), (2, .int pt), (3, .int y72_3), (5, .int y166_5)]) hx hb dX10_right_180 hl (by decide) rfl (fun ls hl => ?_)
                        refine lv_iload hx hb dX10_right_182 (lv_at hl 1 rfl) ?_
                        refine lv_istore (lv' := [(5, .int x28), (4, .int y166_5), (6, .int x28), (0, .ref (b 39)), (1, .int co), (2, .int pt), (3, .int y72_3)]) hx hb dX10_right_184 hl (by decide) rfl (fun ls hl => ?_)
                        refine lv_goto (tgt := 166) hx hb dX10_right_186 (by decide) ?_
                        exact ih166 y166_5 x28 _ (by omega) (by omega) (by omega) (by omega) (by (first | exact gm_step i166_4 (by omega) (by omega) (by first | rfl | omega) (by first | assumption | omega) | exact gm_init (by first | assumption | omega))) (by omega) (lv_sub hl [3, 4, 5, 6, 1, 0] rfl)
                  exact L166 _ y72_3 x18 _ (by omega) (by omega) (by omega) (by omega) (by (first | exact gm_init (by first | assumption | omega) | exact gm_step i166_4 (by omega) (by omega) (by first | rfl | omega) (by first | assumption | omega))) (Nat.lt_succ_self _) (lv_sub hl [2, 3, 4, 5, 1, 0] rfl)
                · have dc15 : y72_3.toInt = 0 := eqC rfl (show (0 : Int32).toInt = 0 from rfl) c15
                  refine lv_bipush (v := (-4)) hx hb dX10_right_152 (by decide) ?_
                  exact W.iret (v := (-4)) hx hb hr (fun tq ht hW => ⟨(-4), rfl, (show spRgt mmar mtop mstr mgho mfai mtel co pt ((-4) : Int32) from by (try rw [show ((-4) : Int32).toInt = (-4) from (show ((-4) : Int32).toInt = (-4) from rfl)]); (first | exact Or.inr (Or.inr (Or.inr ⟨by omega, by omega, by assumption, Or.inl ⟨(ar_end i72_7 (by omega)).symm.trans (by omega), rfl⟩⟩)) | exact Or.inr (Or.inr (Or.inr ⟨by omega, by omega, by assumption, rg_one rfl (ar_end i72_7 (by omega)) (gm_end i166_4 (by omega) (by omega)) (by omega) (by omega) (by omega) (by assumption) (by first | exact Or.inl ⟨by omega, rfl⟩ | exact Or.inr ⟨by omega, rfl⟩)⟩)) | exact Or.inl ⟨by omega, rfl⟩ | exact Or.inr (Or.inl ⟨by omega, by omega, rfl⟩) | exact Or.inr (Or.inr (Or.inl ⟨by omega, by omega, by assumption, rfl⟩)))), ht⟩) (fun q h => by cases h) dX10_right_154
              · have dc14 : y72_4.toInt < (((co.toInt) / (6)) * (6)) + (6) := nleC f13 rfl c14
                have L142 : ∀ (y142_3 : Int32) (ls : Array Slot), (0 ≤ (y142_3.toInt)) → ((y142_3.toInt) ≤ 300 + 100 * ((y72_4.toInt) - (co.toInt) / 6 * 6)) → ((y142_3.toInt) ≤ 1000) → (arI mmar mtop mstr mgho mfai mtel co ((y72_4.toInt) + 1) (y142_3.toInt)) → ((mstr co.toNatClampNeg).toInt ≤ (y142_3.toInt)) → lv_has ls 7 [(0, .ref (b 39)), (1, .int co), (2, .int pt), (3, .int y142_3), (4, .int y72_4)] → W p l e (headSpec wsX10_right { frames := 2, cells := 0, slots := 0, locals := 42 }).room s m ([.ref (b 39), .int co, .int pt] : List Value).toArray below meth c s.heap [] 0 0 (MQ below (QR (fun r : Int32 => (spRgt mmar mtop mstr mgho mfai mtel co pt r))) ([.ref (b 39), .int co, .int pt] : List Value).toArray s 0 0 (fun _ => False)) (F0 m 142 ls []) := by
                  intro y142_3 ls i142_0 i142_1 i142_2 i142_3 i142_4 hl
                  obtain ⟨z29, ez29⟩ : ∃ y : Int32, y = y72_4 + 1 := ⟨_, rfl⟩
                  have iz29 : z29.toInt = y72_4.toInt + 1 := by rw [ez29]; exact addC rfl rfl (by omega) (by omega)
                  refine lv_iinc (v := z29) (lv' := [(4, .int z29), (0, .ref (b 39)), (1, .int co), (2, .int pt), (3, .int y142_3)]) hx hb dX10_right_142 hl (k := 4) rfl (by rw [ez29]; rfl) (by decide) rfl (fun ls hl => ?_)
                  refine lv_goto (tgt := 72) hx hb dX10_right_145 (by decide) ?_
                  exact ih72 y142_3 z29 _ (by omega) (by omega) (by omega) (by omega) (by omega) (by omega) (by omega) (by (first | exact ar_init i63_2 (by omega) | exact ar_cast i142_3 (by omega))) (by omega) (by omega) (lv_sub hl [1, 2, 3, 4, 0] rfl)
                refine lv_iload_n hx hb dX10_right_87 rfl (lv_at hl 3 rfl) ?_
                refine lv_iload hx hb dX10_right_88 (lv_at hl 4 rfl) ?_
                refine lv_iload_n hx hb dX10_right_90 rfl (lv_at hl 1 rfl) ?_
                refine lv_icmp_eq (tgt := 139) hx hb dX10_right_91 (by decide) (fun c30 => ?_) (fun c30 => ?_)
                · have dc30 : y72_4.toInt = co.toInt := eqC rfl rfl c30
                  refine lv_iconst (v := 0) hx hb dX10_right_139 (by decide) ?_
                  refine lv_iadd hx hb dX10_right_140 ?_
                  have f31 : (y72_3 + 0).toInt = (y72_3.toInt) + (0) := addC rfl (show (0 : Int32).toInt = 0 from rfl) (by omega) (by omega)
                  refine lv_topi (fun x32 ex32 => ?_)
                  have ix32 : x32.toInt = (y72_3.toInt) + (0) := by rw [ex32]; exact f31
                  refine lv_istore_n (lv' := [(3, .int x32), (0, .ref (b 39)), (1, .int co), (2, .int pt), (4, .int y72_4)]) hx hb dX10_right_141 rfl hl (by decide) rfl (fun ls hl => ?_)
                  exact L142 x32 _ (by omega) (by omega) (by omega) (by (first | exact ar_yes i72_7 (crd_yesR (by assumption) (by omega) (by omega) (by omega) (by omega) (by assumption) (by omega)) (by omega) (by omega) rfl (by omega) | exact ar_no i72_7 (by first | exact crd_eq (by assumption) | exact crd_t1 (by assumption) | exact crd_noR (by assumption) (by omega)) (by omega) (by omega) rfl (by omega))) (by omega) (lv_sub hl [1, 2, 3, 0, 4] rfl)
                · have dc30 : y72_4.toInt ≠ co.toInt := neC rfl rfl c30
                  refine lv_aload_n hx hb dX10_right_94 rfl (lv_at hl 0 rfl) ?_
                  refine va_get (D := (dC, dI)) (ci := 10) (v := .ref (b 9)) (C := RX10) (T := TX10) (N := 39) hx hb hts inX10 hown hK hP 0 rfl rfl 9 (by decide) lf32 (fun _ h9 => h9) rfl dX10_right_95 ?_
                  refine lv_iload hx hb dX10_right_98 (lv_at hl 4 rfl) ?_
                  have b33 : vp_in y72_4 48 := inC rfl (by omega) (by omega)
                  refine va_iald hx hb hK hP 6 0 rfl rfl b33 dX10_right_100 ?_
                  have g34 : -1 ≤ (mtop y72_4.toNatClampNeg).toInt ∧ (mtop y72_4.toNatClampNeg).toInt ≤ 23 := rg_at r_mtop b33
                  refine lv_iconst (v := (-1)) hx hb dX10_right_101 (by decide) ?_
                  refine lv_icmp_eq (tgt := 139) hx hb dX10_right_102 (by decide) (fun c35 => ?_) (fun c35 => ?_)
                  · have dc35 : (mtop y72_4.toNatClampNeg).toInt = (-1) := eqC rfl (show ((-1) : Int32).toInt = (-1) from rfl) c35
                    refine lv_iconst (v := 0) hx hb dX10_right_139 (by decide) ?_
                    refine lv_iadd hx hb dX10_right_140 ?_
                    have f36 : (y72_3 + 0).toInt = (y72_3.toInt) + (0) := addC rfl (show (0 : Int32).toInt = 0 from rfl) (by omega) (by omega)
                    refine lv_topi (fun x37 ex37 => ?_)
                    have ix37 : x37.toInt = (y72_3.toInt) + (0) := by rw [ex37]; exact f36
                    refine lv_istore_n (lv' := [(3, .int x37), (0, .ref (b 39)), (1, .int co), (2, .int pt), (4, .int y72_4)]) hx hb dX10_right_141 rfl hl (by decide) rfl (fun ls hl => ?_)
                    exact L142 x37 _ (by omega) (by omega) (by omega) (by (first | exact ar_yes i72_7 (crd_yesR (by assumption) (by omega) (by omega) (by omega) (by omega) (by assumption) (by omega)) (by omega) (by omega) rfl (by omega) | exact ar_no i72_7 (by first | exact crd_eq (by assumption) | exact crd_t1 (by assumption) | exact crd_noR (by assumption) (by omega)) (by omega) (by omega) rfl (by omega))) (by omega) (lv_sub hl [1, 2, 3, 0, 4] rfl)
                  · have dc35 : 0 ≤ (mtop y72_4.toNatClampNeg).toInt := ka_lo (by omega) (neC rfl (show ((-1) : Int32).toInt = (-1) from rfl) c35)
                    refine lv_aload_n hx hb dX10_right_105 rfl (lv_at hl 0 rfl) ?_
                    refine lv_aload_n hx hb dX10_right_106 rfl (lv_at hl 0 rfl) ?_
                    refine va_get (D := (dC, dI)) (ci := 10) (v := .ref (b 9)) (C := RX10) (T := TX10) (N := 39) hx hb hts inX10 hown hK hP 0 rfl rfl 9 (by decide) lf32 (fun _ h9 => h9) rfl dX10_right_107 ?_
                    refine lv_iload hx hb dX10_right_110 (lv_at hl 4 rfl) ?_
                    have b38 : vp_in y72_4 48 := inC rfl (by omega) (by omega)
                    refine va_iald hx hb hK hP 6 0 rfl rfl b38 dX10_right_112 ?_
                    have g39 : -1 ≤ (mtop y72_4.toNatClampNeg).toInt ∧ (mtop y72_4.toNatClampNeg).toInt ≤ 23 := rg_at r_mtop b38
                    refine lv_aload_n hx hb dX10_right_113 rfl (lv_at hl 0 rfl) ?_
                    refine va_get (D := (dC, dI)) (ci := 10) (v := .ref (b 9)) (C := RX10) (T := TX10) (N := 39) hx hb hts inX10 hown hK hP 0 rfl rfl 9 (by decide) lf32 (fun _ h9 => h9) rfl dX10_right_114 ?_
                    refine lv_iload_n hx hb dX10_right_117 rfl (lv_at hl 1 rfl) ?_
                    have b40 : vp_in co 48 := inC rfl (by omega) (by omega)
                    refine va_iald hx hb hK hP 6 0 rfl rfl b40 dX10_right_118 ?_
                    have g41 : -1 ≤ (mtop co.toNatClampNeg).toInt ∧ (mtop co.toNatClampNeg).toInt ≤ 23 := rg_at r_mtop b40
                    refine rdV (As := [.int (mtop y72_4.toNatClampNeg), .int (mtop co.toNatClampNeg)]) (rest := [.int y72_3]) ⟨hx, hb, hml, hown, hts⟩ (k_X10_likeness l dC dI cI cZ cQ b mday mdoo mdA mdB mfar mmar mtel mgai mfal mtop mstr mgho mfai mpto mwal mahd mahf mcho mbes mbyt mtxt mpos mtka mtok mdig mnum mfau mrdm mrea mlin mlne mthg mord mbor mbsm mans mand manr mali (mtop y72_4.toNatClampNeg) (mtop co.toNatClampNeg) r_mday r_mdoo r_mdA r_mdB r_mmar r_mgai r_mfal r_mtop r_mstr r_mgho r_mfai r_mahd r_mahf r_mcho r_mbyt r_mpos r_mrdm r_mlin r_mthg r_mord r_mans (by omega) (by omega) (by omega) (by omega)) (cwV 2 hts gX10_right_X10_likeness rfl rfl rfl (by decide +kernel) ⟨Nat.le_of_ble_eq_true rfl, Nat.le_of_ble_eq_true rfl⟩) hP hK hN [0, 1, 2, 3, 4, 5, 6, 7, 8, 9, 10, 11, 12, 13, 14, 15, 16, 17, 18, 19, 20, 21, 22, 23, 24, 25] rfl 0 10 rfl rfl rfl hl.1 rfl (Nat.le_of_ble_eq_true rfl) dX10_right_119 ⟨Nat.le_of_ble_eq_true rfl, Nat.le_of_ble_eq_true rfl⟩ (fun r42 h43 => ?_)
                    have h43 : (r42 = bc (mmar (mtop y72_4.toNatClampNeg).toNatClampNeg &&& mmar (mtop co.toNatClampNeg).toNatClampNeg)) := h43
                    have h43_0 := h43
                    refine lv_aload_n hx hb dX10_right_122 rfl (lv_at hl 0 rfl) ?_
                    refine va_get (D := (dC, dI)) (ci := 10) (v := .int mtel) (C := RX10) (T := TX10) (N := 39) hx hb hts inX10 hown hK hP 0 rfl rfl 6 (by decide) lf22 (fun _ h9 => h9) rfl dX10_right_123 ?_
                    refine lv_icmp_lt (tgt := 139) hx hb dX10_right_126 (by decide) (fun c44 => ?_) (fun c44 => ?_)
                    · have dc44 : r42.toInt < mtel.toInt := ltC rfl rfl c44
                      refine lv_iconst (v := 0) hx hb dX10_right_139 (by decide) ?_
                      refine lv_iadd hx hb dX10_right_140 ?_
                      have f45 : (y72_3 + 0).toInt = (y72_3.toInt) + (0) := addC rfl (show (0 : Int32).toInt = 0 from rfl) (by omega) (by omega)
                      refine lv_topi (fun x46 ex46 => ?_)
                      have ix46 : x46.toInt = (y72_3.toInt) + (0) := by rw [ex46]; exact f45
                      refine lv_istore_n (lv' := [(3, .int x46), (0, .ref (b 39)), (1, .int co), (2, .int pt), (4, .int y72_4)]) hx hb dX10_right_141 rfl hl (by decide) rfl (fun ls hl => ?_)
                      exact L142 x46 _ (by omega) (by omega) (by omega) (by (first | exact ar_yes i72_7 (crd_yesR (by assumption) (by omega) (by omega) (by omega) (by omega) (by assumption) (by omega)) (by omega) (by omega) rfl (by omega) | exact ar_no i72_7 (by first | exact crd_eq (by assumption) | exact crd_t1 (by assumption) | exact crd_noR (by assumption) (by omega)) (by omega) (by omega) rfl (by omega))) (by omega) (lv_sub hl [1, 2, 3, 0, 4] rfl)
                    · have dc44 : mtel.toInt ≤ r42.toInt := nltC rfl rfl c44
                      refine lv_aload_n hx hb dX10_right_129 rfl (lv_at hl 0 rfl) ?_
                      refine va_get (D := (dC, dI)) (ci := 10) (v := .ref (b 10)) (C := RX10) (T := TX10) (N := 39) hx hb hts inX10 hown hK hP 0 rfl rfl 10 (by decide) lf35 (fun _ h9 => h9) rfl dX10_right_130 ?_
                      refine lv_iload hx hb dX10_right_133 (lv_at hl 4 rfl) ?_
                      have b47 : vp_in y72_4 48 := inC rfl (by omega) (by omega)
                      refine va_iald hx hb hK hP 7 0 rfl rfl b47 dX10_right_135 ?_
                      have g48 : 0 ≤ (mstr y72_4.toNatClampNeg).toInt ∧ (mstr y72_4.toNatClampNeg).toInt ≤ 100 := rg_at r_mstr b47
                      refine lv_goto (tgt := 140) hx hb dX10_right_136 (by decide) ?_
                      refine lv_iadd hx hb dX10_right_140 ?_
                      have f49 : (y72_3 + (mstr y72_4.toNatClampNeg)).toInt = (y72_3.toInt) + ((mstr y72_4.toNatClampNeg).toInt) := addC rfl rfl (by omega) (by omega)
                      refine lv_topi (fun x50 ex50 => ?_)
                      have ix50 : x50.toInt = (y72_3.toInt) + ((mstr y72_4.toNatClampNeg).toInt) := by rw [ex50]; exact f49
                      refine lv_istore_n (lv' := [(3, .int x50), (0, .ref (b 39)), (1, .int co), (2, .int pt), (4, .int y72_4)]) hx hb dX10_right_141 rfl hl (by decide) rfl (fun ls hl => ?_)
                      exact L142 x50 _ (by omega) (by omega) (by omega) (by (first | exact ar_yes i72_7 (crd_yesR (by assumption) (by omega) (by omega) (by omega) (by omega) (by assumption) (by omega)) (by omega) (by omega) rfl (by omega) | exact ar_no i72_7 (by first | exact crd_eq (by assumption) | exact crd_t1 (by assumption) | exact crd_noR (by assumption) (by omega)) (by omega) (by omega) rfl (by omega))) (by omega) (lv_sub hl [1, 2, 3, 0, 4] rfl)
          exact L72 _ y63_3 x10 _ (by omega) (by omega) (by omega) (by omega) (by omega) (by omega) (by omega) (by (first | exact ar_init i63_2 (by omega) | exact ar_cast i142_3 (by omega))) (by omega) (Nat.lt_succ_self _) (lv_sub hl [1, 2, 3, 4, 0] rfl)
        refine lv_aload_n hx hb dX10_right_35 rfl (lv_at hl 0 rfl) ?_
        refine va_get (D := (dC, dI)) (ci := 10) (v := .ref (b 10)) (C := RX10) (T := TX10) (N := 39) hx hb hts inX10 hown hK hP 0 rfl rfl 10 (by decide) lf35 (fun _ h9 => h9) rfl dX10_right_36 ?_
        refine lv_iload_n hx hb dX10_right_39 rfl (lv_at hl 1 rfl) ?_
        have b51 : vp_in co 48 := inC rfl (by omega) (by omega)
        refine va_iald hx hb hK hP 7 0 rfl rfl b51 dX10_right_40 ?_
        have g52 : 0 ≤ (mstr co.toNatClampNeg).toInt ∧ (mstr co.toNatClampNeg).toInt ≤ 100 := rg_at r_mstr b51
        refine lv_aload_n hx hb dX10_right_41 rfl (lv_at hl 0 rfl) ?_
        refine va_get (D := (dC, dI)) (ci := 10) (v := .ref (b 11)) (C := RX10) (T := TX10) (N := 39) hx hb hts inX10 hown hK hP 0 rfl rfl 11 (by decide) lf38 (fun _ h9 => h9) rfl dX10_right_42 ?_
        refine lv_iload_n hx hb dX10_right_45 rfl (lv_at hl 1 rfl) ?_
        have b53 : vp_in co 48 := inC rfl (by omega) (by omega)
        refine va_iald hx hb hK hP 8 0 rfl rfl b53 dX10_right_46 ?_
        have g54 : -1 ≤ (mgho co.toNatClampNeg).toInt ∧ (mgho co.toNatClampNeg).toInt ≤ 23 := rg_at r_mgho b53
        refine lv_iconst (v := (-1)) hx hb dX10_right_47 (by decide) ?_
        refine lv_icmp_ne (tgt := 55) hx hb dX10_right_48 (by decide) (fun c55 => ?_) (fun c55 => ?_)
        · have dc55 : 0 ≤ (mgho co.toNatClampNeg).toInt := ka_lo (by omega) (neC rfl (show ((-1) : Int32).toInt = (-1) from rfl) c55)
          refine lv_aload_n hx hb dX10_right_55 rfl (lv_at hl 0 rfl) ?_
          refine va_get (D := (dC, dI)) (ci := 10) (v := .ref (b 12)) (C := RX10) (T := TX10) (N := 39) hx hb hts inX10 hown hK hP 0 rfl rfl 12 (by decide) lf41 (fun _ h9 => h9) rfl dX10_right_56 ?_
          refine lv_iload_n hx hb dX10_right_59 rfl (lv_at hl 1 rfl) ?_
          have b56 : vp_in co 48 := inC rfl (by omega) (by omega)
          refine va_iald hx hb hK hP 9 0 rfl rfl b56 dX10_right_60 ?_
          have g57 : 0 ≤ (mfai co.toNatClampNeg).toInt ∧ (mfai co.toNatClampNeg).toInt ≤ 100 := rg_at r_mfai b56
          refine lv_iadd hx hb dX10_right_61 ?_
          have f58 : ((mstr co.toNatClampNeg) + (mfai co.toNatClampNeg)).toInt = ((mstr co.toNatClampNeg).toInt) + ((mfai co.toNatClampNeg).toInt) := addC rfl rfl (by omega) (by omega)
          refine lv_topi (fun x59 ex59 => ?_)
          have ix59 : x59.toInt = ((mstr co.toNatClampNeg).toInt) + ((mfai co.toNatClampNeg).toInt) := by rw [ex59]; exact f58
          refine lv_istore_n (lv' := [(3, .int x59), (0, .ref (b 39)), (1, .int co), (2, .int pt)]) hx hb dX10_right_62 rfl hl (by decide) rfl (fun ls hl => ?_)
          exact L63 x59 _ (by omega) (by omega) (by (first | exact sx_pos (by assumption) (by omega) | exact sx_neg (by assumption) (by omega))) (by omega) (lv_sub hl [1, 2, 3, 0] rfl)
        · have dc55 : (mgho co.toNatClampNeg).toInt = (-1) := eqC rfl (show ((-1) : Int32).toInt = (-1) from rfl) c55
          refine lv_iconst (v := 0) hx hb dX10_right_51 (by decide) ?_
          refine lv_goto (tgt := 61) hx hb dX10_right_52 (by decide) ?_
          refine lv_iadd hx hb dX10_right_61 ?_
          have f60 : ((mstr co.toNatClampNeg) + 0).toInt = ((mstr co.toNatClampNeg).toInt) + (0) := addC rfl (show (0 : Int32).toInt = 0 from rfl) (by omega) (by omega)
          refine lv_topi (fun x61 ex61 => ?_)
          have ix61 : x61.toInt = ((mstr co.toNatClampNeg).toInt) + (0) := by rw [ex61]; exact f60
          refine lv_istore_n (lv' := [(3, .int x61), (0, .ref (b 39)), (1, .int co), (2, .int pt)]) hx hb dX10_right_62 rfl hl (by decide) rfl (fun ls hl => ?_)
          exact L63 x61 _ (by omega) (by omega) (by (first | exact sx_pos (by assumption) (by omega) | exact sx_neg (by assumption) (by omega))) (by omega) (lv_sub hl [1, 2, 3, 0] rfl)
      · have dc7 : (mtop co.toNatClampNeg).toInt = (-1) := eqC rfl (show ((-1) : Int32).toInt = (-1) from rfl) c7
        refine lv_bipush (v := (-4)) hx hb dX10_right_32 (by decide) ?_
        exact W.iret (v := (-4)) hx hb hr (fun tq ht hW => ⟨(-4), rfl, (show spRgt mmar mtop mstr mgho mfai mtel co pt ((-4) : Int32) from by (try rw [show ((-4) : Int32).toInt = (-4) from (show ((-4) : Int32).toInt = (-4) from rfl)]); (first | exact Or.inr (Or.inr (Or.inr ⟨by omega, by omega, by assumption, Or.inl ⟨(ar_end i72_7 (by omega)).symm.trans (by omega), rfl⟩⟩)) | exact Or.inr (Or.inr (Or.inr ⟨by omega, by omega, by assumption, rg_one rfl (ar_end i72_7 (by omega)) (gm_end i166_4 (by omega) (by omega)) (by omega) (by omega) (by omega) (by assumption) (by first | exact Or.inl ⟨by omega, rfl⟩ | exact Or.inr ⟨by omega, rfl⟩)⟩)) | exact Or.inl ⟨by omega, rfl⟩ | exact Or.inr (Or.inl ⟨by omega, by omega, rfl⟩) | exact Or.inr (Or.inr (Or.inl ⟨by omega, by omega, by assumption, rfl⟩)))), ht⟩) (fun q h => by cases h) dX10_right_34
    · refine lv_if_ne (tgt := 22) hx hb dX10_right_16 (by decide) (fun c9 => absurd (by decide) c9) (fun _ => ?_)
      refine lv_bipush (v := (-3)) hx hb dX10_right_19 (by decide) ?_
      exact W.iret (v := (-3)) hx hb hr (fun tq ht hW => ⟨(-3), rfl, (show spRgt mmar mtop mstr mgho mfai mtel co pt ((-3) : Int32) from by (try rw [show ((-3) : Int32).toInt = (-3) from (show ((-3) : Int32).toInt = (-3) from rfl)]); (first | exact Or.inr (Or.inr (Or.inr ⟨by omega, by omega, by assumption, Or.inl ⟨(ar_end i72_7 (by omega)).symm.trans (by omega), rfl⟩⟩)) | exact Or.inr (Or.inr (Or.inr ⟨by omega, by omega, by assumption, rg_one rfl (ar_end i72_7 (by omega)) (gm_end i166_4 (by omega) (by omega)) (by omega) (by omega) (by omega) (by assumption) (by first | exact Or.inl ⟨by omega, rfl⟩ | exact Or.inr ⟨by omega, rfl⟩)⟩)) | exact Or.inl ⟨by omega, rfl⟩ | exact Or.inr (Or.inl ⟨by omega, by omega, rfl⟩) | exact Or.inr (Or.inr (Or.inl ⟨by omega, by omega, by assumption, rfl⟩)))), ht⟩) (fun q h => by cases h) dX10_right_21
  · refine lv_if_ne (tgt := 10) hx hb dX10_right_4 (by decide) (fun c9 => absurd (by decide) c9) (fun _ => ?_)
    refine lv_bipush (v := (-2)) hx hb dX10_right_7 (by decide) ?_
    exact W.iret (v := (-2)) hx hb hr (fun tq ht hW => ⟨(-2), rfl, (show spRgt mmar mtop mstr mgho mfai mtel co pt ((-2) : Int32) from by (try rw [show ((-2) : Int32).toInt = (-2) from (show ((-2) : Int32).toInt = (-2) from rfl)]); (first | exact Or.inr (Or.inr (Or.inr ⟨by omega, by omega, by assumption, Or.inl ⟨(ar_end i72_7 (by omega)).symm.trans (by omega), rfl⟩⟩)) | exact Or.inr (Or.inr (Or.inr ⟨by omega, by omega, by assumption, rg_one rfl (ar_end i72_7 (by omega)) (gm_end i166_4 (by omega) (by omega)) (by omega) (by omega) (by omega) (by assumption) (by first | exact Or.inl ⟨by omega, rfl⟩ | exact Or.inr ⟨by omega, rfl⟩)⟩)) | exact Or.inl ⟨by omega, rfl⟩ | exact Or.inr (Or.inl ⟨by omega, by omega, rfl⟩) | exact Or.inr (Or.inr (Or.inl ⟨by omega, by omega, by assumption, rfl⟩)))), ht⟩) (fun q h => by cases h) dX10_right_9
