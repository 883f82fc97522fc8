section
-- ===== BEST PLANS: plans by their numbers (base 9) =====
def dgN (n c i : Nat) : Nat := c / 9 ^ (n - 1 - i) % 9
def plN (n c : Nat) : Nat → Int32 := fun i => nI (dgN n c i)
def preN (T : Nat → Int32) : Nat → Nat
  | 0 => 0
  | i + 1 => 9 * preN T i + (T i).toInt.toNat
theorem pre_eq {T T2 : Nat → Int32} : ∀ i : Nat, (∀ j, j < i → T2 j = T j) → preN T2 i = preN T i
  | 0, _ => rfl
  | i + 1, h => by
    show 9 * preN T2 i + (T2 i).toInt.toNat = 9 * preN T i + (T i).toInt.toNat
    rw [pre_eq i (fun j hj => h j (by omega)), h i (by omega)]
/-- the numbers whose first i figures are those of T -/
theorem dg_pre {T : Nat → Int32} {n d : Nat} : ∀ i : Nat, i ≤ n → (∀ j, j < i → 0 ≤ (T j).toInt ∧ (T j).toInt ≤ 8) → preN T i * 9 ^ (n - i) ≤ d → d < (preN T i + 1) * 9 ^ (n - i) → ∀ j, j < i → dgN n d j = (T j).toInt.toNat
  | 0, _, _, _, _, j, hj => absurd hj (Nat.not_lt_zero j)
  | i + 1, hi, ht, h1, h2, j, hj => by
    have e9 : (9 : Nat) ^ (n - i) = 9 * 9 ^ (n - (i + 1)) := by
      rw [show n - i = (n - (i + 1)) + 1 by omega, Nat.pow_succ, Nat.mul_comm]
    have hti := ht i (by omega)
    have hp : 0 < 9 ^ (n - (i + 1)) := Nat.pow_pos (by omega)
    have q1 : (9 * preN T i + (T i).toInt.toNat) * 9 ^ (n - (i + 1)) ≤ d := h1
    have q2 : d < (9 * preN T i + (T i).toInt.toNat + 1) * 9 ^ (n - (i + 1)) := h2
    have ed : d / 9 ^ (n - (i + 1)) = 9 * preN T i + (T i).toInt.toNat := Nat.div_eq_of_lt_le q1 q2
    by_cases c : j = i
    · subst c
      unfold dgN
      rw [show n - 1 - j = n - (j + 1) by omega, ed]; omega
    · refine dg_pre i (by omega) (fun k hk => ht k (by omega)) ?_ ?_ j (by omega)
      · rw [e9]
        refine Nat.le_trans ?_ q1
        rw [← Nat.mul_assoc, Nat.mul_comm (preN T i) 9]
        exact Nat.mul_le_mul_right _ (by omega)
      · rw [e9]
        refine Nat.lt_of_lt_of_le q2 ?_
        rw [← Nat.mul_assoc]
        exact Nat.mul_le_mul_right _ (by omega)
def pbI (ok : Nat → Prop) (V : Nat → Int) (n K : Nat) (s : Int) (B : Nat → Int32) : Prop := (s = -1 ∧ ∀ d, d < K → ¬ ok d) ∨ ∃ c, c < K ∧ ok c ∧ s = V c ∧ (∀ d, d < K → ok d → V d ≤ s) ∧ (∀ d, d < c → ok d → V d < s) ∧ ∀ i, i < n → B i = plN n c i
theorem pb_0 {ok : Nat → Prop} {V : Nat → Int} {n K : Nat} {s : Int} {B : Nat → Int32} (hs : s = -1) (hK : K = 0) : pbI ok V n K s B := .inl ⟨hs, fun d hd => by omega⟩
theorem pb_e {ok : Nat → Prop} {V : Nat → Int} {n K K' : Nat} {s : Int} {B : Nat → Int32} (q : pbI ok V n K s B) (e : K' = K) : pbI ok V n K' s B := by subst e; exact q
theorem pb_skip {ok : Nat → Prop} {V : Nat → Int} {n K K' : Nat} {s : Int} {B : Nat → Int32} (q : pbI ok V n K s B) (h : K ≤ K') (no : ∀ d, K ≤ d → d < K' → ¬ ok d) : pbI ok V n K' s B := by
  rcases q with ⟨a, b⟩ | ⟨c, c1, c2, c3, c4, c5, c6⟩
  · refine .inl ⟨a, fun d hd => ?_⟩
    by_cases z : d < K
    · exact b d z
    · exact no d (by omega) hd
  · refine .inr ⟨c, by omega, c2, c3, fun d hd o => ?_, c5, c6⟩
    by_cases z : d < K
    · exact c4 d z o
    · exact absurd o (no d (by omega) hd)
theorem pb_le {ok : Nat → Prop} {V : Nat → Int} {n K K' : Nat} {s : Int} {B : Nat → Int32} (q : pbI ok V n K s B) (h0 : 0 ≤ V K) (h : V K ≤ s) (hK : K' = K + 1) : pbI ok V n K' s B := by
  subst hK
  rcases q with ⟨a, b⟩ | ⟨c, c1, c2, c3, c4, c5, c6⟩
  · omega
  · refine .inr ⟨c, by omega, c2, c3, fun d hd o => ?_, c5, c6⟩
    by_cases z : d = K
    · subst z; exact h
    · exact c4 d (by omega) o
theorem pb_gt {ok : Nat → Prop} {V : Nat → Int} {n K K' : Nat} {s s2 : Int} {B B2 : Nat → Int32} (q : pbI ok V n K s B) (o : ok K) (h : s < V K) (e : s2 = V K) (eB : ∀ i, i < n → B2 i = plN n K i) (hK : K' = K + 1) : pbI ok V n K' s2 B2 := by
  subst hK; subst e
  have lt : ∀ d, d < K → ok d → V d < V K := by
    intro d hd od
    rcases q with ⟨a, b⟩ | ⟨c, c1, c2, c3, c4, c5, c6⟩
    · exact absurd od (b d hd)
    · have := c4 d hd od; omega
  refine .inr ⟨K, by omega, o, rfl, fun d hd od => ?_, lt, eB⟩
  by_cases z : d = K
  · subst z; exact Int.le_refl _
  · have := lt d (by omega) od; omega
theorem pb_det {ok ok2 : Nat → Prop} {V V2 : Nat → Int} {n K : Nat} {s s2 : Int} {B B2 : Nat → Int32} (q : pbI ok V n K s B) (q2 : pbI ok2 V2 n K s2 B2) (eo : ∀ d, d < K → (ok d ↔ ok2 d)) (eV : ∀ d, d < K → V d = V2 d) (ex : ∃ d, d < K ∧ ok d) : s = s2 ∧ ∀ i, i < n → B i = B2 i := by
  obtain ⟨x, x1, x2⟩ := ex
  rcases q with ⟨a, b⟩ | ⟨c, c1, c2, c3, c4, c5, c6⟩
  · exact absurd x2 (b x x1)
  rcases q2 with ⟨a, b⟩ | ⟨d, d1, d2, d3, d4, d5, d6⟩
  · exact absurd ((eo x x1).mp x2) (b x x1)
  have l1 := c4 d d1 ((eo d d1).mpr d2)
  have l2 := d4 c c1 ((eo c c1).mp c2)
  rw [← eV c c1] at l2
  rw [eV d d1] at l1
  have es : s = s2 := by omega
  have ecd : c = d := by
    rcases Nat.lt_trichotomy c d with z | z | z
    · have := d5 c z ((eo c c1).mp c2); rw [← eV c c1] at this; omega
    · exact z
    · have := c5 d z ((eo d d1).mpr d2); rw [eV d d1] at this; omega
  subst ecd
  exact ⟨es, fun i hi => by rw [c6 i hi, d6 i hi]⟩
theorem sr_eqk {t : Nat → Int32} {V V2 : Nat → Int} {lo : Nat} : ∀ k : Nat, (∀ c, lo ≤ c → c < lo + k → V c = V2 c) → srF t V lo k = srF t V2 lo k
  | 0, _ => rfl
  | k + 1, h => by
    show srF t V lo k + (if t (lo + k) = -1 then 0 else V (lo + k)) = srF t V2 lo k + (if t (lo + k) = -1 then 0 else V2 (lo + k))
    rw [sr_eqk k (fun c a b => h c a (by omega)), h (lo + k) (by omega) (by omega)]
-- the class's search
def okC (cos mi : Nat → Int32) (n d : Nat) : Prop := ∀ i, i < n → dgN n d i ≤ 7 → wkb (cos (dgN n d i)) (mi i)
def vlC (mar f top str : Nat → Int32) (tel : Int32) (g : Int) (n d : Nat) : Int := srF top (plU mar f top str tel g (plN n d) n) 0 48
def s8F (g : Nat → Int) : Nat → Int
  | 0 => 0
  | k + 1 => s8F g k + g k
theorem s8_eq {g h : Nat → Int} : ∀ k : Nat, (∀ q, q < k → g q = h q) → s8F g k = s8F h k
  | 0, _ => rfl
  | k + 1, e => by
    show s8F g k + g k = s8F h k + h k
    rw [s8_eq k (fun q hq => e q (by omega)), e k (by omega)]
theorem s8_up {g h : Nat → Int} {x : Nat} (e : ∀ q, q ≠ x → h q = g q) : ∀ k : Nat, s8F h k = s8F g k + (if x < k then h x - g x else 0)
  | 0 => by rw [if_neg (by omega)]; show (0 : Int) = 0 + 0; rfl
  | k + 1 => by
    show s8F h k + h k = s8F g k + g k + _
    rw [s8_up e k]
    by_cases z : x = k
    · subst z; rw [if_neg (by omega), if_pos (by omega)]; omega
    · rw [e k (fun w => z w.symm)]
      by_cases y : x < k
      · rw [if_pos y, if_pos (by omega)]; omega
      · rw [if_neg y, if_neg (by omega)]; omega
theorem s8_rg {g : Nat → Int} : ∀ k : Nat, (∀ q, q < k → 0 ≤ g q ∧ g q ≤ 600) → 0 ≤ s8F g k ∧ s8F g k ≤ 600 * k
  | 0, _ => ⟨Int.le_refl _, by show (0 : Int) ≤ 600 * (0 : Nat); omega⟩
  | k + 1, h => by
    have i := s8_rg k (fun q hq => h q (by omega))
    have j := h k (by omega)
    show 0 ≤ s8F g k + g k ∧ s8F g k + g k ≤ 600 * ((k + 1 : Nat) : Int)
    omega
def rwF (mar f top str : Nat → Int32) (tel : Int32) (g : Int) (n q d : Nat) : Int := srF top (fun c => svF f (cwF mar top tel c (c - c % 6) 6) g (bitW (nI d)) (str c).toInt n) (6 * q) 6
def rsI (rst mar f top str : Nat → Int32) (tel : Int32) (g : Int) (n : Nat) : Prop := ∀ q, q < 8 → ∀ d, d < 2 ^ n → 0 ≤ (rst (16 * q + d)).toInt ∧ (rst (16 * q + d)).toInt ≤ 600 ∧ (rst (16 * q + d)).toInt = rwF mar f top str tel g n q d
def wsF (rst wk : Nat → Int32) (q : Nat) : Int := (rst (16 * q + (wk q).toInt.toNat)).toInt
/-- where the search stands at day i: the figures so far, the days by rooms, all walkable, the sum -/
def skI (cos mi rst : Nat → Int32) (n : Nat) (i al : Int) (tri wk : Nat → Int32) : Prop := (0 ≤ i ∧ i ≤ (n : Int) ∧ 1 ≤ n ∧ n ≤ 4) ∧ (∀ j : Nat, (j : Int) < i → 0 ≤ (tri j).toInt ∧ (tri j).toInt ≤ 8) ∧ wdI tri wk i ∧ wkA tri mi cos i ∧ al = s8F (wsF rst wk) 8
theorem bit_lt : ∀ n, n ≤ 4 → ∀ x, x < 16 → (∀ j, j < 4 → n ≤ j → bitW (nI x) j = false) → x < 2 ^ n := by decide +kernel
theorem wd_lt {tri wk : Nat → Int32} {i : Int} {n q : Nat} (w : wdI tri wk i) (r : rg 8 0 15 wk) (hq : q < 8) (hi : i ≤ (n : Int)) (hn : n ≤ 4) : (wk q).toInt.toNat < 2 ^ n := by
  have rq := r q hq
  refine bit_lt n hn _ (by omega) (fun j hj hnj => ?_)
  rw [nI_toNat rq.1, w q hq j hj, decide_eq_false (by omega)]; rfl
theorem skA_rg {cos mi rst mar f top str tri wk : Nat → Int32} {tel : Int32} {g i al : Int} {n : Nat} (k : skI cos mi rst n i al tri wk) (R : rsI rst mar f top str tel g n) (r : rg 8 0 15 wk) : 0 ≤ al ∧ al ≤ 4800 := by
  obtain ⟨h, _, w, _, e⟩ := k
  have := s8_rg (g := wsF rst wk) 8 (fun q hq => by
    have := R q hq (wk q).toInt.toNat (wd_lt w r hq h.2.1 h.2.2.2)
    exact ⟨this.1, this.2.1⟩)
  rw [← e] at this; omega
def ksI (i : Int) (tri wk tri2 wk2 : Nat → Int32) : Prop := (∀ j : Nat, (j : Int) < i → tri2 j = tri j) ∧ ∀ q : Nat, q < 8 → wk2 q = wk q
theorem ks_0 {i : Int} {tri wk : Nat → Int32} : ksI i tri wk tri wk := ⟨fun _ _ => rfl, fun _ _ => rfl⟩
theorem wd_eq {tri wk tri2 wk2 : Nat → Int32} {i : Int} (w : wdI tri wk i) (k : ksI i tri wk tri2 wk2) : wdI tri2 wk2 i := by
  intro q hq j hj
  rw [k.2 q hq, w q hq j hj]
  by_cases z : (j : Int) < i
  · rw [k.1 j z]
  · rw [decide_eq_false z, Bool.false_and, Bool.false_and]
theorem wa_eq {tri mi cos tri2 wk wk2 : Nat → Int32} {i : Int} (w : wkA tri mi cos i) (k : ksI i tri wk tri2 wk2) : wkA tri2 mi cos i := fun j hj l => by
  rw [k.1 j hj] at l ⊢; exact w j hj l
theorem sk_eq {cos mi rst tri wk tri2 wk2 : Nat → Int32} {i al : Int} {n : Nat} (s : skI cos mi rst n i al tri wk) (k : ksI i tri wk tri2 wk2) : skI cos mi rst n i al tri2 wk2 := by
  obtain ⟨a, b, c, d, e⟩ := s
  refine ⟨a, fun j hj => by rw [k.1 j hj]; exact b j hj, wd_eq c k, wa_eq d k, ?_⟩
  rw [e]
  exact s8_eq 8 (fun q hq => by unfold wsF; rw [k.2 q hq])
/-- a room walked on day i -/
theorem sk_y {cos mi rst mar f top str tri wk tri2 wk2 tri3 wk3 : Nat → Int32} {tel : Int32} {g al al2 ch i2 : Int} {i y b h : Int32} {n : Nat} (s : skI cos mi rst n i.toInt al tri wk) (R : rsI rst mar f top str tel g n) (k : ksI i.toInt tri wk tri2 wk2) (r : rg 8 0 15 wk2) (e1 : tri3 = upd tri2 i.toNatClampNeg y) (e2 : wk3 = upd wk2 y.toNatClampNeg h) (hw : wkb (cos y.toNatClampNeg) (mi i.toNatClampNeg)) (hb : b = wk2 y.toNatClampNeg) (hh : h = b ||| ((1 : Int32) <<< (i &&& 31))) (hh2 : 0 ≤ h.toInt ∧ h.toInt ≤ 15) (hin : i.toInt < (n : Int)) (hy0 : 0 ≤ y.toInt) (hy7 : y.toInt ≤ 7) (hc : ch = (rst (16 * y.toInt.toNat + h.toInt.toNat)).toInt - (rst (16 * y.toInt.toNat + b.toInt.toNat)).toInt) (ha : al2 = al + ch) (hi2 : i2 = i.toInt + 1) : skI cos mi rst n i2 al2 tri3 wk3 := by
  obtain ⟨a, t, w, wa, e⟩ := sk_eq s k
  subst hi2
  have ci := clC (x := i) rfl
  have cy := clC (x := y) rfl
  have tn : ∀ j : Nat, (j : Int) < i.toInt → tri3 j = tri2 j := fun j hj => by rw [e1, pk_un (by omega)]
  have ti : tri3 i.toNatClampNeg = y := by rw [e1, pk_us]
  have w1 : wdI tri3 wk2 i.toInt := wd_eq w ⟨tn, fun _ _ => rfl⟩
  have wa1 : wkA tri3 mi cos i.toInt := wa_eq (wk := wk2) (wk2 := wk2) wa ⟨tn, fun _ _ => rfl⟩
  refine ⟨⟨by omega, by omega, a.2.2.1, a.2.2.2⟩, fun j hj => ?_, wd_y (x := y) w1 r e2 ti.symm ⟨hy0, hy7⟩ (by rw [← hb]; exact hh) (by omega) (by omega) rfl, wa_y (x := y) wa1 ti.symm hw (by omega) rfl, ?_⟩
  · by_cases z : j = i.toNatClampNeg
    · subst z; rw [ti]; omega
    · rw [tn j (by omega)]; exact t j (by omega)
  · rw [ha, e, s8_up (g := wsF rst wk2) (h := wsF rst wk3) (x := y.toInt.toNat) (fun q hq => by unfold wsF; rw [e2, pk_un (by omega)]) 8, if_pos (by omega), hc]
    have z1 : wsF rst wk3 y.toInt.toNat = (rst (16 * y.toInt.toNat + h.toInt.toNat)).toInt := by unfold wsF; rw [e2, ← cy, pk_us]
    have z2 : wsF rst wk2 y.toInt.toNat = (rst (16 * y.toInt.toNat + b.toInt.toNat)).toInt := by unfold wsF; rw [hb, cy]
    rw [z1, z2]
theorem sk_8 {cos mi rst tri wk tri2 wk2 tri3 : Nat → Int32} {al i2 : Int} {i : Int32} {n : Nat} (s : skI cos mi rst n i.toInt al tri wk) (k : ksI i.toInt tri wk tri2 wk2) (e1 : tri3 = upd tri2 i.toNatClampNeg 8) (hin : i.toInt < (n : Int)) (hi2 : i2 = i.toInt + 1) : skI cos mi rst n i2 al tri3 wk2 := by
  obtain ⟨a, t, w, wa, e⟩ := sk_eq s k
  subst hi2
  have ci := clC (x := i) rfl
  have tn : ∀ j : Nat, (j : Int) < i.toInt → tri3 j = tri2 j := fun j hj => by rw [e1, pk_un (by omega)]
  have ti : tri3 i.toNatClampNeg = 8 := by rw [e1, pk_us]
  have e8 : (8 : Int32).toInt = 8 := rfl
  have w1 : wdI tri3 wk2 i.toInt := wd_eq w ⟨tn, fun _ _ => rfl⟩
  have wa1 : wkA tri3 mi cos i.toInt := wa_eq (wk := wk2) (wk2 := wk2) wa ⟨tn, fun _ _ => rfl⟩
  refine ⟨⟨by omega, by omega, a.2.2.1, a.2.2.2⟩, fun j hj => ?_, wd_n (x := 8) w1 ti.symm (by omega) (by omega) rfl, wa_n (x := 8) wa1 ti.symm (by omega) (by omega) rfl, e⟩
  by_cases z : j = i.toNatClampNeg
  · subst z; rw [ti, e8]; omega
  · rw [tn j (by omega)]; exact t j (by omega)
/-- the number at which the plans begin that have T's first i figures -/
def atN (T : Nat → Int32) (n : Nat) (i : Int) : Nat := preN T i.toNat * 9 ^ (n - i.toNat)
/-- the same, and room y behind them -/
def atY (T : Nat → Int32) (n : Nat) (i y : Int) : Nat := (9 * preN T i.toNat + y.toNat) * 9 ^ (n - i.toNat - 1)
def toN (T : Nat → Int32) (n : Nat) (i : Int) : Nat := (preN T i.toNat + 1) * 9 ^ (n - i.toNat)
theorem at_0 {T : Nat → Int32} {n : Nat} {i y : Int} (h : i < (n : Int)) (h0 : 0 ≤ i) (hy : y = 0) : atY T n i y = atN T n i := by
  subst hy
  unfold atY atN
  rw [show n - i.toNat = (n - i.toNat - 1) + 1 by omega, Nat.pow_succ, show n - i.toNat - 1 + 1 - 1 = n - i.toNat - 1 by omega, Nat.mul_comm (9 ^ (n - i.toNat - 1)) 9, ← Nat.mul_assoc, Nat.mul_comm 9 (preN T i.toNat)]; rfl
theorem at_9 {T : Nat → Int32} {n : Nat} {i y : Int} (h : i < (n : Int)) (h0 : 0 ≤ i) (hy : y = 9) : atY T n i y = toN T n i := by
  subst hy
  unfold atY toN
  rw [show n - i.toNat = (n - i.toNat - 1) + 1 by omega, Nat.pow_succ, show n - i.toNat - 1 + 1 - 1 = n - i.toNat - 1 by omega, Nat.mul_comm (9 ^ (n - i.toNat - 1)) 9, ← Nat.mul_assoc]
  congr 1
  show 9 * preN T i.toNat + 9 = (preN T i.toNat + 1) * 9
  omega
theorem pre_s {T T2 T3 : Nat → Int32} {i y : Int32} (k : ∀ j : Nat, (j : Int) < i.toInt → T2 j = T j) (e : T3 = upd T2 i.toNatClampNeg y) (h0 : 0 ≤ i.toInt) : preN T3 (i.toInt + 1).toNat = 9 * preN T i.toInt.toNat + y.toInt.toNat := by
  have ci := clC (x := i) rfl
  rw [show (i.toInt + 1).toNat = i.toInt.toNat + 1 by omega]
  show 9 * preN T3 i.toInt.toNat + (T3 i.toInt.toNat).toInt.toNat = _
  rw [pre_eq (T := T) i.toInt.toNat (fun j hj => by rw [e, pk_un (by omega)]; exact k j (by omega)), e, ← ci, pk_us]
theorem at_d {T wk T2 wk2 T3 : Nat → Int32} {n : Nat} {i y : Int32} {i2 : Int} (k : ksI i.toInt T wk T2 wk2) (e : T3 = upd T2 i.toNatClampNeg y) (h0 : 0 ≤ i.toInt) (h : i.toInt < (n : Int)) (hy : 0 ≤ y.toInt) (hi : i2 = i.toInt + 1) : atN T3 n i2 = atY T n i.toInt y.toInt := by
  subst hi
  unfold atN atY
  rw [pre_s k.1 e h0, show n - (i.toInt + 1).toNat = n - i.toInt.toNat - 1 by omega]
theorem at_u {T wk T2 wk2 T3 : Nat → Int32} {n : Nat} {i y : Int32} {i2 y2 : Int} (k : ksI i.toInt T wk T2 wk2) (e : T3 = upd T2 i.toNatClampNeg y) (h0 : 0 ≤ i.toInt) (h : i.toInt < (n : Int)) (hy : 0 ≤ y.toInt) (hi : i2 = i.toInt + 1) (hy2 : y2 = y.toInt + 1) : toN T3 n i2 = atY T n i.toInt y2 := by
  subst hi; subst hy2
  unfold toN atY
  rw [pre_s k.1 e h0, show n - (i.toInt + 1).toNat = n - i.toInt.toNat - 1 by omega, show (y.toInt + 1).toNat = y.toInt.toNat + 1 by omega, Nat.add_assoc]
/-- what comes behind a room that can't be walked is no plan -/
theorem pb_no {cos mi rst tri wk tri2 wk2 B : Nat → Int32} {V : Nat → Int} {al s y2 : Int} {i y : Int32} {n : Nat} (q : pbI (okC cos mi n) V n (atY tri n i.toInt y.toInt) s B) (k : skI cos mi rst n i.toInt al tri wk) (hk : ksI i.toInt tri wk tri2 wk2) (hw : ¬ wkb (cos y.toNatClampNeg) (mi i.toNatClampNeg)) (h : i.toInt < (n : Int)) (hy : 0 ≤ y.toInt) (hy7 : y.toInt ≤ 7) (hy2 : y2 = y.toInt + 1) : pbI (okC cos mi n) V n (atY tri n i.toInt y2) s B := by
  have h0 := k.1.1
  have ci := clC (x := i) rfl
  have cy := clC (x := y) rfl
  refine pb_skip q ?_ (fun d d1 d2 o => ?_)
  · subst hy2; unfold atY; exact Nat.mul_le_mul_right _ (by omega)
  · have e1 := at_d (n := n) (T3 := upd tri i.toNatClampNeg y) (ks_0 (i := i.toInt) (tri := tri) (wk := wk)) rfl h0 h hy rfl
    have e2 := at_u (n := n) (T3 := upd tri i.toNatClampNeg y) (ks_0 (i := i.toInt) (tri := tri) (wk := wk)) rfl h0 h hy rfl hy2
    rw [← e1] at d1
    rw [← e2] at d2
    have g := dg_pre (T := upd tri i.toNatClampNeg y) (n := n) (d := d) (i.toInt + 1).toNat (by omega) (fun j hj => by
      by_cases z : j = i.toNatClampNeg
      · subst z; rw [pk_us]; omega
      · rw [pk_un z]; exact k.2.1 j (by omega)) d1 d2 i.toNatClampNeg (by omega)
    rw [pk_us] at g
    have := o i.toNatClampNeg (by omega) (by omega)
    rw [g, ← cy] at this
    exact hw this
theorem ks_y {tri wk tri2 wk2 tri3 wk3 tri4 wk4 wk5 : Nat → Int32} {i y h b : Int32} {i2 : Int} (k : ksI i.toInt tri wk tri2 wk2) (e1 : tri3 = upd tri2 i.toNatClampNeg y) (e2 : wk3 = upd wk2 y.toNatClampNeg h) (k2 : ksI i2 tri3 wk3 tri4 wk4) (e5 : wk5 = upd wk4 y.toNatClampNeg b) (hb : b = wk2 y.toNatClampNeg) (h0 : 0 ≤ i.toInt) (hi2 : i2 = i.toInt + 1) : ksI i.toInt tri wk tri4 wk5 := by
  subst hi2
  have ci := clC (x := i) rfl
  refine ⟨fun j hj => ?_, fun q hq => ?_⟩
  · rw [k2.1 j (by omega), e1, pk_un (by omega)]; exact k.1 j hj
  · rw [← k.2 q hq]
    by_cases z : q = y.toNatClampNeg
    · subst z; rw [e5, pk_us]; exact hb
    · rw [e5, pk_un z, k2.2 q hq, e2, pk_un z]
theorem ks_8 {tri wk tri2 wk2 tri3 tri4 wk4 : Nat → Int32} {i y : Int32} {i2 : Int} (k : ksI i.toInt tri wk tri2 wk2) (e1 : tri3 = upd tri2 i.toNatClampNeg y) (k2 : ksI i2 tri3 wk2 tri4 wk4) (h0 : 0 ≤ i.toInt) (hi2 : i2 = i.toInt + 1) : ksI i.toInt tri wk tri4 wk4 := by
  subst hi2
  have ci := clC (x := i) rfl
  refine ⟨fun j hj => ?_, fun q hq => by rw [k2.2 q hq]; exact k.2 q hq⟩
  rw [k2.1 j (by omega), e1, pk_un (by omega)]; exact k.1 j hj
/-- the whole sum is the sum over all corners -/
theorem sk_V {cos mi rst mar f top str tri wk : Nat → Int32} {tel : Int32} {g al : Int} {n : Nat} {T : Nat → Int32} (k : skI cos mi rst n (n : Int) al tri wk) (R : rsI rst mar f top str tel g n) (r : rg 8 0 15 wk) (hT : ∀ j, j < n → T j = tri j) : al = srF top (plU mar f top str tel g T n) 0 48 := by
  obtain ⟨h, t, w, _, e⟩ := k
  have key : ∀ q : Nat, q ≤ 8 → s8F (wsF rst wk) q = srF top (plU mar f top str tel g T n) 0 (6 * q) := by
    intro q
    induction q with
    | zero => intro _; rfl
    | succ q ih =>
      intro hq
      show s8F (wsF rst wk) q + wsF rst wk q = _
      rw [ih (by omega), show 6 * (q + 1) = 6 * q + 6 by omega, sr_add]
      congr 1
      have rq := r q (by omega)
      have := (R q (by omega) (wk q).toInt.toNat (wd_lt w r (by omega) (by omega) h.2.2.2)).2.2
      unfold wsF
      rw [this]
      unfold rwF
      rw [nI_toNat rq.1]
      refine sr_eqk 6 (fun c c1 c2 => ?_)
      unfold plU
      refine sv_w (N := n) (fun i hi => ?_) n (Nat.le_refl n)
      rw [w q (by omega) i (by omega), decide_eq_true (p := (i : Int) < (n : Int)) (by omega), Bool.true_and, hT i hi, show c / 6 = q by omega]
  rw [e]; exact key 8 (Nat.le_refl 8)
theorem sk_leaf {cos mi rst mar f top str tri wk bes bes2 : Nat → Int32} {tel bst bst2 : Int32} {g i : Int} {al : Int32} {n : Nat} (q : pbI (okC cos mi n) (vlC mar f top str tel g n) n (atN tri n i) bst.toInt bes) (k : skI cos mi rst n i al.toInt tri wk) (R : rsI rst mar f top str tel g n) (r : rg 8 0 15 wk) (hi : (n : Int) ≤ i ∨ 4 ≤ i) (hk : (bst.toInt < al.toInt → bst2 = al ∧ ∀ j : Nat, j < 4 → bes2 j = tri j) ∧ (al.toInt ≤ bst.toInt → bst2 = bst ∧ bes2 = bes)) : pbI (okC cos mi n) (vlC mar f top str tel g n) n (toN tri n i) bst2.toInt bes2 := by
  have hin : i = (n : Int) := by have := k.1; omega
  subst hin
  have en : ((n : Int)).toNat = n := by omega
  have ea : atN tri n (n : Int) = preN tri n := by unfold atN; rw [en, Nat.sub_self, Nat.pow_zero, Nat.mul_one]
  have et : toN tri n (n : Int) = preN tri n + 1 := by unfold toN; rw [en, Nat.sub_self, Nat.pow_zero, Nat.mul_one]
  have dg : ∀ j, j < n → dgN n (preN tri n) j = (tri j).toInt.toNat := dg_pre (T := tri) (n := n) n (Nat.le_refl n) (fun j hj => k.2.1 j (by omega)) (by rw [Nat.sub_self, Nat.pow_zero, Nat.mul_one]; exact Nat.le_refl _) (by rw [Nat.sub_self, Nat.pow_zero, Nat.mul_one]; omega)
  have pl : ∀ j, j < n → plN n (preN tri n) j = tri j := fun j hj => by
    show nI (dgN n (preN tri n) j) = tri j
    rw [dg j hj]; exact nI_toNat (k.2.1 j (by omega)).1
  have eV : vlC mar f top str tel g n (preN tri n) = al.toInt := (sk_V k R r pl).symm
  have o : okC cos mi n (preN tri n) := fun j hj l => by
    have w := k.2.2.2.1 j (by omega)
    have b := k.2.1 j (by omega)
    rw [dg j hj] at l ⊢
    have := w (by omega)
    rw [clC (x := tri j) rfl] at this
    exact this
  have h0 := (skA_rg k R r).1
  rw [ea] at q
  by_cases c : bst.toInt < al.toInt
  · obtain ⟨c1, c2⟩ := hk.1 c
    exact pb_gt q o (by rw [eV]; exact c) (by rw [eV, c1]) (fun j hj => by rw [c2 j (by have := k.1; omega), pl j hj]) et
  · obtain ⟨c1, c2⟩ := hk.2 (by omega)
    rw [c1, c2]
    exact pb_le q (by rw [eV]; exact h0) (by rw [eV]; omega) et
-- findBest: the rooms' strengths by the days walked
theorem sh1_pow {n : Int32} (h1 : 1 ≤ n.toInt) (h4 : n.toInt ≤ 4) : ((1 : Int32) <<< (n &&& 31)).toInt = 2 ^ n.toInt.toNat := by
  have key : ∀ k : Nat, k < 5 → ((1 : Int32) <<< (nI k &&& 31)).toInt = 2 ^ k := by decide +kernel
  have := key n.toInt.toNat (by omega)
  rw [nI_toNat (by omega)] at this; exact this
def rsQ (rst mar f top str : Nat → Int32) (tel : Int32) (g : Int) (n : Nat) (q m : Int) : Prop := ∀ a d : Nat, a < 8 → d < 16 → (((a : Int) < q ∧ d < 2 ^ n) ∨ ((a : Int) = q ∧ (d : Int) < m)) → 0 ≤ (rst (16 * a + d)).toInt ∧ (rst (16 * a + d)).toInt ≤ 600 ∧ (rst (16 * a + d)).toInt = rwF mar f top str tel g n a d
theorem rq_0 {rst mar f top str : Nat → Int32} {tel : Int32} {g q m : Int} {n : Nat} (hq : q = 0) (hm : m = 0) : rsQ rst mar f top str tel g n q m := fun a d _ _ h => by omega
theorem rq_s {rst rst2 mar f top str cro : Nat → Int32} {tel x r y z : Int32} {g m q : Int} {n : Nat} (w : rsQ rst mar f top str tel g n q z.toInt) (e : rst2 = upd rst x.toNatClampNeg r) (hr : r.toInt = srF top (fun c => svF f (cro c).toInt g (bitW z) (str c).toInt n) (y.toInt * 6).toNat 6) (hr0 : 0 ≤ r.toInt) (hr1 : r.toInt ≤ 600) (hc : ∀ j : Nat, j < 48 → (cro j).toInt = cwF mar top tel j (j - j % 6) 6) (hq : q = y.toInt) (hx : x.toInt = y.toInt * 16 + z.toInt) (hy : 0 ≤ y.toInt) (hy7 : y.toInt ≤ 7) (hz : 0 ≤ z.toInt) (hz15 : z.toInt ≤ 15) (hm : m = z.toInt + 1) : rsQ rst2 mar f top str tel g n q m := by
  subst hm; subst hq
  have cx := clC hx
  intro a d ha hd16 h
  by_cases c : 16 * a + d = x.toNatClampNeg
  · have ea : a = y.toInt.toNat := by omega
    have ed : d = z.toInt.toNat := by omega
    rw [c, e, pk_us]
    refine ⟨hr0, hr1, ?_⟩
    rw [hr]
    unfold rwF
    rw [ed, nI_toNat hz, show (y.toInt * 6).toNat = 6 * a by omega]
    refine sr_eqk 6 (fun k k1 k2 => ?_)
    show svF f (cro k).toInt g (bitW z) (str k).toInt n = _
    rw [hc k (by omega)]
  · rw [e, pk_un c]
    exact w a d ha hd16 (by omega)
theorem rq_o {rst mar f top str : Nat → Int32} {tel : Int32} {g q m q2 m2 : Int} {n : Nat} (w : rsQ rst mar f top str tel g n q m) (hm : (2 ^ n : Nat) ≤ m) (hq2 : q2 = q + 1) (hm2 : m2 = 0) : rsQ rst mar f top str tel g n q2 m2 := by
  subst hq2; subst hm2
  intro a d ha hd h
  refine w a d ha hd ?_
  rcases h with ⟨h1, h2⟩ | ⟨_, h2⟩
  · by_cases z : (a : Int) = q
    · exact .inr ⟨z, by have : (d : Int) < ((2 ^ n : Nat) : Int) := Int.ofNat_lt.mpr h2; omega⟩
    · exact .inl ⟨by omega, h2⟩
  · omega
theorem rq_c {rst mar f top str : Nat → Int32} {tel : Int32} {g q m q2 m2 : Int} {n : Nat} (w : rsQ rst mar f top str tel g n q m) (e1 : q2 = q) (e2 : m2 = m) : rsQ rst mar f top str tel g n q2 m2 := by subst e1; subst e2; exact w
theorem rq_I {rst mar f top str : Nat → Int32} {tel : Int32} {g q m : Int} {n : Nat} (w : rsQ rst mar f top str tel g n q m) (hq : 8 ≤ q) (hn : n ≤ 4) : rsI rst mar f top str tel g n := by
  intro a ha d hd
  have : 2 ^ n ≤ 16 := Nat.pow_le_pow_right (n := 2) (by omega) (show n ≤ 4 from hn)
  exact w a d ha (by omega) (.inl ⟨by omega, hd⟩)
def suQ (rst : Nat → Int32) (q S : Int) : Prop := S = s8F (fun a => (rst (16 * a)).toInt) q.toNat
theorem sq_0 {rst : Nat → Int32} {q S : Int} (hq : q = 0) (hS : S = 0) : suQ rst q S := by subst hq; exact hS
theorem sq_k {rst rst2 : Nat → Int32} {q S : Int} {x r : Int32} (w : suQ rst q S) (e : rst2 = upd rst x.toNatClampNeg r) (hx : 16 * q ≤ x.toInt) (h0 : 0 ≤ q) : suQ rst2 q S := by
  have cx := clC (x := x) rfl
  unfold suQ
  rw [w]
  exact s8_eq _ (fun a ha => by show (rst (16 * a)).toInt = (rst2 (16 * a)).toInt; rw [e, pk_un (by omega)])
theorem sq_s {rst : Nat → Int32} {q q2 S S2 : Int} {x : Int32} (w : suQ rst q S) (hS : S2 = S + (rst x.toNatClampNeg).toInt) (hx : x.toInt = 16 * q) (h0 : 0 ≤ q) (hq : q2 = q + 1) : suQ rst q2 S2 := by
  subst hq
  have cx := clC (x := x) rfl
  unfold suQ
  rw [show (q + 1).toNat = q.toNat + 1 by omega]
  show S2 = s8F (fun a => (rst (16 * a)).toInt) q.toNat + (rst (16 * q.toNat)).toInt
  rw [hS, ← w, show x.toNatClampNeg = 16 * q.toNat by omega]
theorem sk_0 {few top cos mi rst tri wk : Nat → Int32} {n : Nat} {i q S : Int} (p : prI few top 8 cos wk) (w : suQ rst q S) (hq : q = 8) (hi : i = 0) (h1 : 1 ≤ n) (h4 : n ≤ 4) : skI cos mi rst n i S tri wk := by
  subst hi; subst hq
  refine ⟨⟨by omega, by omega, h1, h4⟩, fun j hj => by omega, wd_P p rfl, fun j hj => by omega, ?_⟩
  have w' : S = s8F (fun a => (rst (16 * a)).toInt) 8 := w
  rw [w']
  refine s8_eq 8 (fun a ha => ?_)
  show (rst (16 * a)).toInt = (rst (16 * a + (wk a).toInt.toNat)).toInt
  rw [(p a (by omega)).2]; rfl
theorem at_00 {T : Nat → Int32} {n : Nat} {i : Int} (h : i = 0) : atN T n i = 0 := by subst h; show 0 * 9 ^ (n - 0) = 0; exact Nat.zero_mul _
theorem to_00 {T : Nat → Int32} {n : Nat} {i : Int} (h : i = 0) : toN T n i = 9 ^ n := by subst h; show (0 + 1) * 9 ^ (n - 0) = 9 ^ n; rw [Nat.sub_zero, Nat.zero_add, Nat.one_mul]
def okL (n mi wh : Int32) : Prop := (1 ≤ n.toInt ∧ n.toInt ≤ 4) ∧ (-1 ≤ wh.toInt ∧ wh.toInt < n.toInt) ∧ ∀ j : Nat, (j : Int) < n.toInt → (mnW mi j).toInt < 100
def bdL (n mi wh : Int32) : Prop := (n.toInt < 1 ∨ 4 < n.toInt) ∨ (wh.toInt < -1 ∨ n.toInt ≤ wh.toInt) ∨ ∃ j : Nat, (j : Int) < n.toInt ∧ 99 < (mnW mi j).toInt
theorem ob_L {n mi wh : Int32} (h : bdL n mi wh) (k : okL n mi wh) : False := by
  obtain ⟨k1, k2, k3⟩ := k
  rcases h with h | h | ⟨j, a, b⟩
  · omega
  · omega
  · have := k3 j a; omega
def anL (wh r s : Int32) (B : Nat → Int32) : Prop := (wh.toInt < 0 ∧ r = s) ∨ (0 ≤ wh.toInt ∧ r = B wh.toInt.toNat)
def spPlnC (few mar f top str : Nat → Int32) (tel : Int32) (g : Int) (n mi wh r : Int32) : Prop := (bdL n mi wh ∧ r = -3) ∨ (okL n mi wh ∧ ∃ (cos B : Nat → Int32) (s : Int32), (∀ j : Nat, j < 8 → coC few top (nI j) (cos j)) ∧ pbI (okC cos (mnW mi) n.toInt.toNat) (vlC mar f top str tel g n.toInt.toNat) n.toInt.toNat (9 ^ n.toInt.toNat) s.toInt B ∧ anL wh r s B)
theorem ok_mi {cos mi mi2 : Nat → Int32} {n d : Nat} (e : ∀ j, j < n → mi j = mi2 j) (o : okC cos mi n d) : okC cos mi2 n d := fun i hi l => by rw [← e i hi]; exact o i hi l
theorem pb_mi {cos mi mi2 B : Nat → Int32} {V : Nat → Int} {n K : Nat} {s : Int} (e : ∀ j, j < n → mi j = mi2 j) (q : pbI (okC cos mi n) V n K s B) : pbI (okC cos mi2 n) V n K s B := by
  have e2 : ∀ j, j < n → mi2 j = mi j := fun j hj => (e j hj).symm
  rcases q with ⟨a, b⟩ | ⟨c, c1, c2, c3, c4, c5, c6⟩
  · exact .inl ⟨a, fun d hd o => b d hd (ok_mi e2 o)⟩
  · exact .inr ⟨c, c1, ok_mi e c2, c3, fun d hd o => c4 d hd (ok_mi e2 o), fun d hd o => c5 d hd (ok_mi e2 o), c6⟩
theorem pl_cE {few mar f top str cos B M : Nat → Int32} {tel n mi wh r s : Int32} {g : Int} (hn : 1 ≤ n.toInt ∧ n.toInt ≤ 4) (hw : -1 ≤ wh.toInt ∧ wh.toInt < n.toInt) (t : twI (mnW mi) 99 n.toInt M) (hc : ∀ j : Nat, j < 8 → coC few top (nI j) (cos j)) (q : pbI (okC cos M n.toInt.toNat) (vlC mar f top str tel g n.toInt.toNat) n.toInt.toNat (9 ^ n.toInt.toNat) s.toInt B) (a : anL wh r s B) : spPlnC few mar f top str tel g n mi wh r := by
  refine .inr ⟨⟨hn, hw, fun j hj => by have := t j hj; rw [this.1] at this; have := this.2; omega⟩, cos, B, s, hc, pb_mi (fun j hj => (t j (by omega)).1) q, a⟩
theorem an_s {wh s : Int32} {B : Nat → Int32} (h : wh.toInt < 0) : anL wh s s B := .inl ⟨h, rfl⟩
theorem an_b {wh s r : Int32} {B : Nat → Int32} (h : 0 ≤ wh.toInt) (e : r = B wh.toNatClampNeg) : anL wh r s B := .inr ⟨h, by rw [e, clC (x := wh) rfl]⟩
theorem or_lt {x h i : Int32} {n : Nat} (hl : x.toInt.toNat < 2 ^ n) (e : h = x ||| ((1 : Int32) <<< (i &&& 31))) (hx : 0 ≤ x.toInt) (hi0 : 0 ≤ i.toInt) (hi : i.toInt < (n : Int)) (hn : n ≤ 4) : h.toInt.toNat < 2 ^ n := by
  have key : ∀ n, n ≤ 4 → ∀ x, x < 2 ^ n → ∀ i, i < n → (nI x ||| ((1 : Int32) <<< (nI i &&& 31))).toInt.toNat < 2 ^ n := by decide +kernel
  have := key n hn x.toInt.toNat hl i.toInt.toNat (by omega)
  rw [nI_toNat hx, nI_toNat hi0, ← e] at this; exact this
theorem rs_rg {rst mar f top str : Nat → Int32} {tel x y w : Int32} {g : Int} {n : Nat} (R : rsI rst mar f top str tel g n) (hy : 0 ≤ y.toInt) (hy7 : y.toInt ≤ 7) (hx : x.toInt = y.toInt * 16 + w.toInt) (hw : 0 ≤ w.toInt) (hl : w.toInt.toNat < 2 ^ n) : 0 ≤ (rst x.toNatClampNeg).toInt ∧ (rst x.toNatClampNeg).toInt ≤ 600 ∧ x.toNatClampNeg = 16 * y.toInt.toNat + w.toInt.toNat := by
  have cx := clC hx
  have e : x.toNatClampNeg = 16 * y.toInt.toNat + w.toInt.toNat := by omega
  have := R y.toInt.toNat (by omega) w.toInt.toNat hl
  rw [e]; exact ⟨this.1, this.2.1, rfl⟩
theorem at_8 {T wk T2 wk2 T3 : Nat → Int32} {n : Nat} {i : Int32} {i2 y : Int} (k : ksI i.toInt T wk T2 wk2) (e : T3 = upd T2 i.toNatClampNeg 8) (h0 : 0 ≤ i.toInt) (h : i.toInt < (n : Int)) (hy : y = 8) (hi : i2 = i.toInt + 1) : atN T3 n i2 = atY T n i.toInt y := by
  rw [hy]; exact at_d k e h0 h (by decide) hi
theorem to_8 {T wk T2 wk2 T3 : Nat → Int32} {n : Nat} {i : Int32} {i2 : Int} (k : ksI i.toInt T wk T2 wk2) (e : T3 = upd T2 i.toNatClampNeg 8) (h0 : 0 ≤ i.toInt) (h : i.toInt < (n : Int)) (hi : i2 = i.toInt + 1) : toN T n i.toInt = toN T3 n i2 := by
  rw [at_u (y := 8) (y2 := 9) k e h0 h (by decide) hi (by decide)]; exact (at_9 h h0 rfl).symm
theorem pw16 {n : Int32} (h1 : 1 ≤ n.toInt) (h4 : n.toInt ≤ 4) : (2 : Int) ^ n.toInt.toNat ≤ 16 ∧ ((2 ^ n.toInt.toNat : Nat) : Int) = (2 : Int) ^ n.toInt.toNat := by
  have key : ∀ k : Nat, k < 5 → (2 : Int) ^ k ≤ 16 ∧ ((2 ^ k : Nat) : Int) = (2 : Int) ^ k := by decide +kernel
  exact key n.toInt.toNat (by omega)
theorem cpy_4 {f g h : Nat → Int32} (e : h = va_cpy f g 0 0 4) : ∀ j : Nat, j < 4 → h j = f j := by
  intro j hj; subst e; unfold va_cpy
  rw [if_pos ⟨Nat.zero_le _, by omega⟩]; congr 1; omega
set_option maxHeartbeats 4000000 in
set_option maxRecDepth 100000 in
theorem k_X3_keepIfStronger2 (l : Launch) (dC : Nat → ClassId) (dI : Nat → Nat → Nat) (cI cZ cQ : ClassId) (a : Nat → Nat) (min : Nat → Int32) (tri : Nat → Int32) (bes : Nat → Int32) (wkd : Nat → Int32) (cos : Nat → Int32) (rst : Nat → Int32) (bst : Int32) (top : Nat → Int32) (str : Nat → Int32) (gho : Nat → Int32) (ghs : Nat → Int32) (pto : Nat → Int32) (cro : Nat → Int32) (pla : Nat → Int32) (wal : Nat → Int32) (fal : Nat → Int32) (tel : Int32) (gai : Int32) (day : Int32) (mar : Nat → Int32) (few : Nat → Int32) (doo : Int32) (sz : Nat) (al : Int32) (r_wkd : rg 8 (0) (15) wkd) (r_top : rg 48 (-1) (23) top) (r_str : rg 48 (0) (100) str) (r_gho : rg 48 (-1) (23) gho) (r_ghs : rg 48 (0) (100) ghs) (r_cro : rg 48 (0) (6) cro) (r_pla : rg 24 (-1) (47) pla) (r_fal : rg 11 (0) (30) fal) (r_gai : 0 ≤ gai.toInt ∧ gai.toInt ≤ 100) (r_day : 0 ≤ day.toInt ∧ day.toInt ≤ 400) (r_mar : rg 24 (0) (255) mar) : KV l yX3_keepIfStronger wsX3_keepIfStronger { frames := 1, cells := 0, slots := 0, locals := 40 } (dC, dI) (TY cI cZ cQ) (wPln cI cZ cQ a min tri bes wkd cos rst bst top str gho ghs pto cro pla wal fal tel gai day mar few doo) [.ref (a 16), .int al] sz 0 0 (fun (u : US) => ((bst.toInt < al.toInt → (u.1 0 0) = al ∧ ∀ j : Nat, j < 4 → (u.1 1) j = tri j) ∧ (al.toInt ≤ bst.toInt → (u.1 0 0) = bst ∧ (u.1 1) = bes))) (fun u : US => (wPln cI cZ cQ a min tri (u.1 1) wkd cos rst (u.1 0 0) top str gho ghs pto cro pla wal fal tel gai day mar few doo)) := by
  refine Met.ofW (cc := cX3_keepIfStronger) (maxL := 2) (ret := none) (by decide) rfl ?_
  intro p e s m args below meth c s₁ B hml hv
  obtain ⟨rfl, hsz, hP, hK, hD0, hN⟩ := hv
  have hx := B.exec
  have hb := B.bytes
  have hr := B.returns
  have hts := atoms_spec (ws := wsX3_keepIfStronger) B.pre
  have hown : s.vm.findClass RX3 = some m.cls := findClass_of_methodNamed B.named
  have hlocks := B.notSynchronized
  have lf65 := hts (.fieldLink RX3 65 "PalaceOfRooms$Planner" "bestStrength" "I") (List.mem_cons_of_mem _ (List.mem_append_left _ (List.mem_of_getElem? (i := 0) rfl)))
  have inX3 : ∀ w ∈ wsX30, w ∈ wsX3_keepIfStronger := fun w h => List.mem_cons_of_mem _ (List.mem_append_right _ h)
  have lf15 := hts (.fieldLink RX3 15 "PalaceOfRooms$Planner" "trial" "[I") (List.mem_cons_of_mem _ (List.mem_append_left _ (List.mem_of_getElem? (i := 1) rfl)))
  have lf18 := hts (.fieldLink RX3 18 "PalaceOfRooms$Planner" "best" "[I") (List.mem_cons_of_mem _ (List.mem_append_left _ (List.mem_of_getElem? (i := 2) rfl)))
  subst hsz
  have hD := hD0.self (sz := s.heap.size)
  generalize hAe : va_A (wPln cI cZ cQ a min tri bes wkd cos rst bst top str gho ghs pto cro pla wal fal tel gai day mar few doo) s.heap.size = A at hD ⊢
  have hA : ∀ q : Nat, s.heap.size ≤ q → A q := fun q h => by rw [← hAe]; exact Or.inr h
  have hS : va_S A s.heap s.heap [] := va_S.rf
  have hl := lv_entry ([.ref (a 16), .int al]) (n := 2) (Nat.le_of_ble_eq_true rfl)
  rw [lg_entry_eq]
  generalize (lg_sl ([.ref (a 16), .int al]) ++ List.replicate (2 - (lg_sl ([.ref (a 16), .int al])).length) Slot.unset).toArray = ls at hl ⊢
  have hl : lv_has ls 2 [(0, .ref (a 16)), (1, .int al)] := hl
  refine lv_iload_n hx hb dX3_keepIfStronger_0 rfl (lv_at hl 1 rfl) ?_
  refine lv_aload_n hx hb dX3_keepIfStronger_1 rfl (lv_at hl 0 rfl) ?_
  refine va_get (D := (dC, dI)) (ci := 3) (v := .int bst) (C := RX3) (T := TX3) (N := 9) hx hb hts inX3 hown hK hP 0 rfl rfl 8 (by decide) lf65 (fun _ h9 => h9) rfl dX3_keepIfStronger_2 ?_
  refine lv_icmp_le (tgt := 27) hx hb dX3_keepIfStronger_5 (by decide) (fun c1 => ?_) (fun c1 => ?_)
  · have dc1 : al.toInt ≤ bst.toInt := leC rfl rfl c1
    exact W.vret hx hb hr (fun tq ht hW => ⟨⟨(uS [(fun _ => bst), bes] 0 (fun _ => 0)), rfl, (show (bst.toInt < al.toInt → bst = al ∧ ∀ j : Nat, j < 4 → bes j = tri j) ∧ (al.toInt ≤ bst.toInt → bst = bst ∧ bes = bes) from by (first | exact ⟨fun h => absurd h (by omega), fun _ => ⟨rfl, rfl⟩⟩ | exact ⟨fun _ => ⟨rfl, cpy_4 (by assumption)⟩, fun h => absurd h (by omega)⟩)), by rw [ht]; exact hP, hD⟩, hS.F ht⟩) hS.2.2 dX3_keepIfStronger_27
  · have dc1 : bst.toInt < al.toInt := nleC rfl rfl c1
    refine lv_aload_n hx hb dX3_keepIfStronger_8 rfl (lv_at hl 0 rfl) ?_
    refine lv_iload_n hx hb dX3_keepIfStronger_9 rfl (lv_at hl 1 rfl) ?_
    refine va_put (D := (dC, dI)) (ci := 3) (v := .int al) (ty := .int) (C := RX3) (T := TX3) (N := 9) hx hb hts inX3 tyX3 tyX3_ok nmX3 hown hK hP hD hS 0 rfl rfl 8 (by decide) lf65 (fun _ h9 => h9) rfl (by decide +kernel) rfl rfl (Nat.le_of_ble_eq_true rfl) dX3_keepIfStronger_10 (fun H locs hP hD hS => ?_)
    have hP : va_P (dC, dI) vwCl (wPln cI cZ cQ a min tri bes wkd cos rst al top str gho ghs pto cro pla wal fal tel gai day mar few doo) H := hP
    have hD : va_D A (wPln cI cZ cQ a min tri bes wkd cos rst al top str gho ghs pto cro pla wal fal tel gai day mar few doo) := hD
    refine lv_aload_n hx hb dX3_keepIfStronger_13 rfl (lv_at hl 0 rfl) ?_
    refine va_get (D := (dC, dI)) (ci := 3) (v := .ref (a 18)) (C := RX3) (T := TX3) (N := 9) hx hb hts inX3 hown hK hP 0 rfl rfl 3 (by decide) lf15 (fun _ h9 => h9) rfl dX3_keepIfStronger_14 ?_
    refine lv_iconst (v := 0) hx hb dX3_keepIfStronger_17 (by decide) ?_
    refine lv_aload_n hx hb dX3_keepIfStronger_18 rfl (lv_at hl 0 rfl) ?_
    refine va_get (D := (dC, dI)) (ci := 3) (v := .ref (a 19)) (C := RX3) (T := TX3) (N := 9) hx hb hts inX3 hown hK hP 0 rfl rfl 4 (by decide) lf18 (fun _ h9 => h9) rfl dX3_keepIfStronger_19 ?_
    refine lv_iconst (v := 0) hx hb dX3_keepIfStronger_22 (by decide) ?_
    refine lv_iconst (v := 4) hx hb dX3_keepIfStronger_23 (by decide) ?_
    refine va_copyi (ty := .int) (n := 4) hx hb (by rw [hml]; exact hl.1.symm) hown (hts (.methodLink RX3 89 arraycopyName) (List.mem_cons_of_mem _ (List.mem_append_left _ (List.mem_of_getElem? (i := 3) rfl)))) (hts (.native arraycopyName) (List.mem_cons_of_mem _ (List.mem_append_left _ (List.mem_of_getElem? (i := 4) rfl)))) (hts (.static arraycopyName) (List.mem_cons_of_mem _ (List.mem_append_left _ (List.mem_of_getElem? (i := 5) rfl)))) (hts (.initialized "java/lang/System") (List.mem_cons_of_mem _ (List.mem_append_left _ (List.mem_of_getElem? (i := 6) rfl)))) hK hP hD hS 2 3 0 0 rfl rfl rfl rfl rfl (by decide) (by decide) (by decide) (by decide) (by decide) (fun _ _ => rfl) (Nat.le_of_ble_eq_true rfl) (Nat.le_of_ble_eq_true rfl) dX3_keepIfStronger_24 (fun H locs hP hD hS => ?_)
    obtain ⟨bes_u2, ebes_u2⟩ : ∃ f : Nat → Int32, f = va_cpy tri bes 0 0 4 := ⟨_, rfl⟩
    have hP : va_P (dC, dI) vwCl (wPln cI cZ cQ a min tri bes_u2 wkd cos rst al top str gho ghs pto cro pla wal fal tel gai day mar few doo) H := by rw [ebes_u2]; exact hP
    have hD : va_D A (wPln cI cZ cQ a min tri bes_u2 wkd cos rst al top str gho ghs pto cro pla wal fal tel gai day mar few doo) := by rw [ebes_u2]; exact hD
    exact W.vret hx hb hr (fun tq ht hW => ⟨⟨(uS [(fun _ => al), bes_u2] 0 (fun _ => 0)), rfl, (show (bst.toInt < al.toInt → al = al ∧ ∀ j : Nat, j < 4 → bes_u2 j = tri j) ∧ (al.toInt ≤ bst.toInt → al = bst ∧ bes_u2 = bes) from by (first | exact ⟨fun h => absurd h (by omega), fun _ => ⟨rfl, rfl⟩⟩ | exact ⟨fun _ => ⟨rfl, cpy_4 (by assumption)⟩, fun h => absurd h (by omega)⟩)), by rw [ht]; exact hP, hD⟩, hS.F ht⟩) hS.2.2 dX3_keepIfStronger_27
set_option maxHeartbeats 4000000 in
set_option maxRecDepth 100000 in
theorem k_X3_seek2_0 (l : Launch) (dC : Nat → ClassId) (dI : Nat → Nat → Nat) (cI cZ cQ : ClassId) (a : Nat → Nat) (min : Nat → Int32) (tri : Nat → Int32) (bes : Nat → Int32) (wkd : Nat → Int32) (cos : Nat → Int32) (rst : Nat → Int32) (bst : Int32) (top : Nat → Int32) (str : Nat → Int32) (gho : Nat → Int32) (ghs : Nat → Int32) (pto : Nat → Int32) (cro : Nat → Int32) (pla : Nat → Int32) (wal : Nat → Int32) (fal : Nat → Int32) (tel : Int32) (gai : Int32) (day : Int32) (mar : Nat → Int32) (few : Nat → Int32) (doo : Int32) (sz : Nat) (i : Int32) (n : Int32) (al : Int32) (r_wkd : rg 8 (0) (15) wkd) (r_top : rg 48 (-1) (23) top) (r_str : rg 48 (0) (100) str) (r_gho : rg 48 (-1) (23) gho) (r_ghs : rg 48 (0) (100) ghs) (r_cro : rg 48 (0) (6) cro) (r_pla : rg 24 (-1) (47) pla) (r_fal : rg 11 (0) (30) fal) (r_gai : 0 ≤ gai.toInt ∧ gai.toInt ≤ 100) (r_day : 0 ≤ day.toInt ∧ day.toInt ≤ 400) (r_mar : rg 24 (0) (255) mar) (q0 : 4 ≤ i.toInt) (q1 : i.toInt ≤ 4) (q2 : 1 ≤ n.toInt) (q3 : n.toInt ≤ 4) (q4 : rsI rst mar fal top str tel gai.toInt n.toInt.toNat) (q5 : skI cos min rst n.toInt.toNat i.toInt al.toInt tri wkd) (q6 : pbI (okC cos min n.toInt.toNat) (vlC mar fal top str tel gai.toInt n.toInt.toNat) n.toInt.toNat (atN tri n.toInt.toNat i.toInt) bst.toInt bes) : KV l yX3_seek wsX3_seek { frames := 2, cells := 0, slots := 0, locals := 61 } (dC, dI) (TY cI cZ cQ) (wPln cI cZ cQ a min tri bes wkd cos rst bst top str gho ghs pto cro pla wal fal tel gai day mar few doo) [.ref (a 16), .int i, .int n, .int al] sz 0 0 (fun (u : US) => (ksI i.toInt tri wkd (u.1 0) (u.1 2)) ∧ (pbI (okC cos min n.toInt.toNat) (vlC mar fal top str tel gai.toInt n.toInt.toNat) n.toInt.toNat (toN tri n.toInt.toNat i.toInt) (u.1 3 0).toInt (u.1 1)) ∧ (rg 8 (0) (15) (u.1 2))) (fun u : US => (wPln cI cZ cQ a min (u.1 0) (u.1 1) (u.1 2) cos rst (u.1 3 0) top str gho ghs pto cro pla wal fal tel gai day mar few doo)) := by
  refine Met.ofW (cc := cX3_seek) (maxL := 8) (ret := none) (by decide) rfl ?_
  intro p e s m args below meth c s₁ B hml hv
  obtain ⟨rfl, hsz, hP, hK, hD0, hN⟩ := hv
  have hx := B.exec
  have hb := B.bytes
  have hr := B.returns
  have hts := atoms_spec (ws := wsX3_seek) B.pre
  have hown : s.vm.findClass RX3 = some m.cls := findClass_of_methodNamed B.named
  have hlocks := B.notSynchronized
  subst hsz
  have hD := hD0.self (sz := s.heap.size)
  generalize hAe : va_A (wPln cI cZ cQ a min tri bes wkd cos rst bst top str gho ghs pto cro pla wal fal tel gai day mar few doo) s.heap.size = A at hD ⊢
  have hA : ∀ q : Nat, s.heap.size ≤ q → A q := fun q h => by rw [← hAe]; exact Or.inr h
  have hS : va_S A s.heap s.heap [] := va_S.rf
  have hl := lv_entry ([.ref (a 16), .int i, .int n, .int al]) (n := 8) (Nat.le_of_ble_eq_true rfl)
  rw [lg_entry_eq]
  generalize (lg_sl ([.ref (a 16), .int i, .int n, .int al]) ++ List.replicate (8 - (lg_sl ([.ref (a 16), .int i, .int n, .int al])).length) Slot.unset).toArray = ls at hl ⊢
  have hl : lv_has ls 8 [(0, .ref (a 16)), (1, .int i), (2, .int n), (3, .int al)] := hl
  refine lv_iload_n hx hb dX3_seek_0 rfl (lv_at hl 1 rfl) ?_
  refine lv_iload_n hx hb dX3_seek_1 rfl (lv_at hl 2 rfl) ?_
  refine lv_icmp_ge (tgt := 10) hx hb dX3_seek_2 (by decide) (fun c1 => ?_) (fun c1 => ?_)
  · have dc1 : n.toInt ≤ i.toInt := leC rfl rfl c1
    refine lv_aload_n hx hb dX3_seek_10 rfl (lv_at hl 0 rfl) ?_
    refine lv_iload_n hx hb dX3_seek_11 rfl (lv_at hl 3 rfl) ?_
    refine wvV (As := [.int al]) (rest := []) (wr := []) (w2 := (fun u : US => (wPln cI cZ cQ a min tri (u.1 1) wkd cos rst (u.1 0 0) top str gho ghs pto cro pla wal fal tel gai day mar few doo))) ⟨hx, hb, hml, hown, hts⟩ (k_X3_keepIfStronger2 l dC dI cI cZ cQ a min tri bes wkd cos rst bst top str gho ghs pto cro pla wal fal tel gai day mar few doo _ al r_wkd r_top r_str r_gho r_ghs r_cro r_pla r_fal r_gai r_day r_mar) (cwV 1 hts gX3_seek_X3_keepIfStronger rfl rfl rfl (by decide +kernel) ⟨Nat.le_of_ble_eq_true rfl, Nat.le_of_ble_eq_true rfl⟩) hP hD hS hA hK hN [0, 1, 2, 3, 4, 5, 6, 7, 8, 9, 10, 11, 12, 13, 14, 15, 16, 17, 18, 19, 20] [] [0, 1, 2, 3, 4, 5, 6, 7, 8, 9, 10, 11, 12, 13, 14, 15, 16, 17, 18, 19, 20] rfl rfl (by decide) (by decide) (by decide) (fun _ => rfl) (by decide) 0 3 rfl rfl rfl hl.1 rfl (Nat.le_of_ble_eq_true rfl) dX3_seek_12 ⟨Nat.le_of_ble_eq_true rfl, Nat.le_of_ble_eq_true rfl⟩ (fun u4 H locs h3 hP hD hS => ?_)
    obtain ⟨bst_c5, ebst_c5⟩ : ∃ f : Int32, f = (u4.1 0 0) := ⟨_, rfl⟩
    obtain ⟨bes_c6, ebes_c6⟩ : ∃ f : Nat → Int32, f = (u4.1 1) := ⟨_, rfl⟩
    have hP : va_P (dC, dI) vwCl (wPln cI cZ cQ a min tri bes_c6 wkd cos rst bst_c5 top str gho ghs pto cro pla wal fal tel gai day mar few doo) H := by rw [ebst_c5, ebes_c6]; exact hP
    have hD : va_D A (wPln cI cZ cQ a min tri bes_c6 wkd cos rst bst_c5 top str gho ghs pto cro pla wal fal tel gai day mar few doo) := by rw [ebst_c5, ebes_c6]; exact hD
    have h3 : ((bst.toInt < al.toInt → bst_c5 = al ∧ ∀ j : Nat, j < 4 → bes_c6 j = tri j) ∧ (al.toInt ≤ bst.toInt → bst_c5 = bst ∧ bes_c6 = bes)) := by (try rw [ebst_c5]); (try rw [ebes_c6]); exact h3
    have h3_0 := h3
    exact W.vret hx hb hr (fun tq ht hW => ⟨⟨(uS [tri, bes_c6, wkd, (fun _ => bst_c5)] 0 (fun _ => 0)), rfl, ⟨(show ksI i.toInt tri wkd tri wkd from by (first | exact ks_0 | exact ks_8 i19_2 (by assumption) (by assumption) (by omega) (by omega))), (show pbI (okC cos min n.toInt.toNat) (vlC mar fal top str tel gai.toInt n.toInt.toNat) n.toInt.toNat (toN tri n.toInt.toNat i.toInt) bst_c5.toInt bes_c6 from by (first | exact sk_leaf q6 q5 q4 r_wkd (by omega) (by assumption) | exact pb_e (by assumption) (to_8 i19_2 (by assumption) (by omega) (by omega) (by omega)))), r_wkd⟩, by rw [ht]; exact hP, hD⟩, hS.F ht⟩) hS.2.2 dX3_seek_15
  · have dc1 : i.toInt < n.toInt := nleC rfl rfl c1
    exfalso
    omega
set_option maxHeartbeats 4000000 in
set_option maxRecDepth 100000 in
theorem k_X3_seek2_1 (l : Launch) (dC : Nat → ClassId) (dI : Nat → Nat → Nat) (cI cZ cQ : ClassId) (a : Nat → Nat) (min : Nat → Int32) (tri : Nat → Int32) (bes : Nat → Int32) (wkd : Nat → Int32) (cos : Nat → Int32) (rst : Nat → Int32) (bst : Int32) (top : Nat → Int32) (str : Nat → Int32) (gho : Nat → Int32) (ghs : Nat → Int32) (pto : Nat → Int32) (cro : Nat → Int32) (pla : Nat → Int32) (wal : Nat → Int32) (fal : Nat → Int32) (tel : Int32) (gai : Int32) (day : Int32) (mar : Nat → Int32) (few : Nat → Int32) (doo : Int32) (sz : Nat) (i : Int32) (n : Int32) (al : Int32) (r_wkd : rg 8 (0) (15) wkd) (r_top : rg 48 (-1) (23) top) (r_str : rg 48 (0) (100) str) (r_gho : rg 48 (-1) (23) gho) (r_ghs : rg 48 (0) (100) ghs) (r_cro : rg 48 (0) (6) cro) (r_pla : rg 24 (-1) (47) pla) (r_fal : rg 11 (0) (30) fal) (r_gai : 0 ≤ gai.toInt ∧ gai.toInt ≤ 100) (r_day : 0 ≤ day.toInt ∧ day.toInt ≤ 400) (r_mar : rg 24 (0) (255) mar) (q0 : 3 ≤ i.toInt) (q1 : i.toInt ≤ 4) (q2 : 1 ≤ n.toInt) (q3 : n.toInt ≤ 4) (q4 : rsI rst mar fal top str tel gai.toInt n.toInt.toNat) (q5 : skI cos min rst n.toInt.toNat i.toInt al.toInt tri wkd) (q6 : pbI (okC cos min n.toInt.toNat) (vlC mar fal top str tel gai.toInt n.toInt.toNat) n.toInt.toNat (atN tri n.toInt.toNat i.toInt) bst.toInt bes) : KV l yX3_seek wsX3_seek { frames := 3, cells := 0, slots := 0, locals := 88 } (dC, dI) (TY cI cZ cQ) (wPln cI cZ cQ a min tri bes wkd cos rst bst top str gho ghs pto cro pla wal fal tel gai day mar few doo) [.ref (a 16), .int i, .int n, .int al] sz 0 0 (fun (u : US) => (ksI i.toInt tri wkd (u.1 0) (u.1 2)) ∧ (pbI (okC cos min n.toInt.toNat) (vlC mar fal top str tel gai.toInt n.toInt.toNat) n.toInt.toNat (toN tri n.toInt.toNat i.toInt) (u.1 3 0).toInt (u.1 1)) ∧ (rg 8 (0) (15) (u.1 2))) (fun u : US => (wPln cI cZ cQ a min (u.1 0) (u.1 1) (u.1 2) cos rst (u.1 3 0) top str gho ghs pto cro pla wal fal tel gai day mar few doo)) := by
  refine Met.ofW (cc := cX3_seek) (maxL := 8) (ret := none) (by decide) rfl ?_
  intro p e s m args below meth c s₁ B hml hv
  obtain ⟨rfl, hsz, hP, hK, hD0, hN⟩ := hv
  have hx := B.exec
  have hb := B.bytes
  have hr := B.returns
  have hts := atoms_spec (ws := wsX3_seek) B.pre
  have hown : s.vm.findClass RX3 = some m.cls := findClass_of_methodNamed B.named
  have hlocks := B.notSynchronized
  have lf15 := hts (.fieldLink RX3 15 "PalaceOfRooms$Planner" "trial" "[I") (List.mem_cons_of_mem _ (List.mem_append_left _ (List.mem_of_getElem? (i := 2) rfl)))
  have inX3 : ∀ w ∈ wsX30, w ∈ wsX3_seek := fun w h => List.mem_cons_of_mem _ (List.mem_append_right _ h)
  have lf21 := hts (.fieldLink RX3 21 "PalaceOfRooms$Planner" "walkedDays" "[I") (List.mem_cons_of_mem _ (List.mem_append_left _ (List.mem_of_getElem? (i := 0) rfl)))
  have lf27 := hts (.fieldLink RX3 27 "PalaceOfRooms$Planner" "roomStrength" "[I") (List.mem_cons_of_mem _ (List.mem_append_left _ (List.mem_of_getElem? (i := 1) rfl)))
  subst hsz
  have hD := hD0.self (sz := s.heap.size)
  generalize hAe : va_A (wPln cI cZ cQ a min tri bes wkd cos rst bst top str gho ghs pto cro pla wal fal tel gai day mar few doo) s.heap.size = A at hD ⊢
  have hA : ∀ q : Nat, s.heap.size ≤ q → A q := fun q h => by rw [← hAe]; exact Or.inr h
  have hS : va_S A s.heap s.heap [] := va_S.rf
  have hl := lv_entry ([.ref (a 16), .int i, .int n, .int al]) (n := 8) (Nat.le_of_ble_eq_true rfl)
  rw [lg_entry_eq]
  generalize (lg_sl ([.ref (a 16), .int i, .int n, .int al]) ++ List.replicate (8 - (lg_sl ([.ref (a 16), .int i, .int n, .int al])).length) Slot.unset).toArray = ls at hl ⊢
  have hl : lv_has ls 8 [(0, .ref (a 16)), (1, .int i), (2, .int n), (3, .int al)] := hl
  refine lv_iload_n hx hb dX3_seek_0 rfl (lv_at hl 1 rfl) ?_
  refine lv_iload_n hx hb dX3_seek_1 rfl (lv_at hl 2 rfl) ?_
  refine lv_icmp_ge (tgt := 10) hx hb dX3_seek_2 (by decide) (fun c1 => ?_) (fun c1 => ?_)
  · have dc1 : n.toInt ≤ i.toInt := leC rfl rfl c1
    refine lv_aload_n hx hb dX3_seek_10 rfl (lv_at hl 0 rfl) ?_
    refine lv_iload_n hx hb dX3_seek_11 rfl (lv_at hl 3 rfl) ?_
    refine wvV (As := [.int al]) (rest := []) (wr := []) (w2 := (fun u : US => (wPln cI cZ cQ a min tri (u.1 1) wkd cos rst (u.1 0 0) top str gho ghs pto cro pla wal fal tel gai day mar few doo))) ⟨hx, hb, hml, hown, hts⟩ (k_X3_keepIfStronger2 l dC dI cI cZ cQ a min tri bes wkd cos rst bst top str gho ghs pto cro pla wal fal tel gai day mar few doo _ al r_wkd r_top r_str r_gho r_ghs r_cro r_pla r_fal r_gai r_day r_mar) (cwV 1 hts gX3_seek_X3_keepIfStronger rfl rfl rfl (by decide +kernel) ⟨Nat.le_of_ble_eq_true rfl, Nat.le_of_ble_eq_true rfl⟩) hP hD hS hA hK hN [0, 1, 2, 3, 4, 5, 6, 7, 8, 9, 10, 11, 12, 13, 14, 15, 16, 17, 18, 19, 20] [] [0, 1, 2, 3, 4, 5, 6, 7, 8, 9, 10, 11, 12, 13, 14, 15, 16, 17, 18, 19, 20] rfl rfl (by decide) (by decide) (by decide) (fun _ => rfl) (by decide) 0 3 rfl rfl rfl hl.1 rfl (Nat.le_of_ble_eq_true rfl) dX3_seek_12 ⟨Nat.le_of_ble_eq_true rfl, Nat.le_of_ble_eq_true rfl⟩ (fun u4 H locs h3 hP hD hS => ?_)
    obtain ⟨bst_c5, ebst_c5⟩ : ∃ f : Int32, f = (u4.1 0 0) := ⟨_, rfl⟩
    obtain ⟨bes_c6, ebes_c6⟩ : ∃ f : Nat → Int32, f = (u4.1 1) := ⟨_, rfl⟩
    have hP : va_P (dC, dI) vwCl (wPln cI cZ cQ a min tri bes_c6 wkd cos rst bst_c5 top str gho ghs pto cro pla wal fal tel gai day mar few doo) H := by rw [ebst_c5, ebes_c6]; exact hP
    have hD : va_D A (wPln cI cZ cQ a min tri bes_c6 wkd cos rst bst_c5 top str gho ghs pto cro pla wal fal tel gai day mar few doo) := by rw [ebst_c5, ebes_c6]; exact hD
    have h3 : ((bst.toInt < al.toInt → bst_c5 = al ∧ ∀ j : Nat, j < 4 → bes_c6 j = tri j) ∧ (al.toInt ≤ bst.toInt → bst_c5 = bst ∧ bes_c6 = bes)) := by (try rw [ebst_c5]); (try rw [ebes_c6]); exact h3
    have h3_0 := h3
    exact W.vret hx hb hr (fun tq ht hW => ⟨⟨(uS [tri, bes_c6, wkd, (fun _ => bst_c5)] 0 (fun _ => 0)), rfl, ⟨(show ksI i.toInt tri wkd tri wkd from by (first | exact ks_0 | exact ks_8 i19_2 (by assumption) (by assumption) (by omega) (by omega))), (show pbI (okC cos min n.toInt.toNat) (vlC mar fal top str tel gai.toInt n.toInt.toNat) n.toInt.toNat (toN tri n.toInt.toNat i.toInt) bst_c5.toInt bes_c6 from by (first | exact sk_leaf q6 q5 q4 r_wkd (by omega) (by assumption) | exact pb_e (by assumption) (to_8 i19_2 (by assumption) (by omega) (by omega) (by omega)))), r_wkd⟩, by rw [ht]; exact hP, hD⟩, hS.F ht⟩) hS.2.2 dX3_seek_15
  · have dc1 : i.toInt < n.toInt := nleC rfl rfl c1
    refine lv_iload_n hx hb dX3_seek_5 rfl (lv_at hl 1 rfl) ?_
    refine lv_iconst (v := 4) hx hb dX3_seek_6 (by decide) ?_
    refine lv_icmp_lt (tgt := 16) hx hb dX3_seek_7 (by decide) (fun c7 => ?_) (fun c7 => ?_)
    · have dc7 : i.toInt < 4 := ltC rfl (show (4 : Int32).toInt = 4 from rfl) c7
      refine lv_iconst (v := 0) hx hb dX3_seek_16 (by decide) ?_
      refine lv_istore (lv' := [(4, .int 0), (0, .ref (a 16)), (1, .int i), (2, .int n), (3, .int al)]) hx hb dX3_seek_17 hl (by decide) rfl (fun ls hl => ?_)
      have L19 : ∀ (nn : Nat) (y19_4 : Int32) (tri_19 : Nat → Int32) (bes_19 : Nat → Int32) (wkd_19 : Nat → Int32) (bst_19 : Int32) (H : Heap) (locs : List Loc) (ls : Array Slot), (rg 8 (0) (15) wkd_19) → (0 ≤ (y19_4.toInt)) → ((y19_4.toInt) ≤ 8) → (ksI i.toInt tri wkd tri_19 wkd_19) → (pbI (okC cos min n.toInt.toNat) (vlC mar fal top str tel gai.toInt n.toInt.toNat) n.toInt.toNat (atY tri n.toInt.toNat i.toInt (y19_4.toInt)) bst_19.toInt bes_19) → (8 - (y19_4.toInt)).toNat < nn → va_P (dC, dI) vwCl (wPln cI cZ cQ a min tri_19 bes_19 wkd_19 cos rst bst_19 top str gho ghs pto cro pla wal fal tel gai day mar few doo) H → va_D A (wPln cI cZ cQ a min tri_19 bes_19 wkd_19 cos rst bst_19 top str gho ghs pto cro pla wal fal tel gai day mar few doo) → va_S A s.heap H locs → lv_has ls 8 [(0, .ref (a 16)), (1, .int i), (2, .int n), (3, .int al), (4, .int y19_4)] → W p l e (headSpec wsX3_seek { frames := 3, cells := 0, slots := 0, locals := 88 }).room s m ([.ref (a 16), .int i, .int n, .int al] : List Value).toArray below meth c H locs 0 0 (MQ below (va_Qv (fun (u : US) => (ksI i.toInt tri wkd (u.1 0) (u.1 2)) ∧ (pbI (okC cos min n.toInt.toNat) (vlC mar fal top str tel gai.toInt n.toInt.toNat) n.toInt.toNat (toN tri n.toInt.toNat i.toInt) (u.1 3 0).toInt (u.1 1)) ∧ (rg 8 (0) (15) (u.1 2))) (Bw (dC, dI) A (fun u : US => (wPln cI cZ cQ a min (u.1 0) (u.1 1) (u.1 2) cos rst (u.1 3 0) top str gho ghs pto cro pla wal fal tel gai day mar few doo))) A) ([.ref (a 16), .int i, .int n, .int al] : List Value).toArray s 0 0 A) (F0 m 19 ls []) := by
        intro nn
        induction nn with
        | zero =>
          intro y19_4 tri_19 bes_19 wkd_19 bst_19 H locs ls r_wkd_19 i19_0 i19_1 i19_2 i19_3 hm19
          exact absurd hm19 (Nat.not_lt_zero _)
        | succ nn ih19 =>
          intro y19_4 tri_19 bes_19 wkd_19 bst_19 H locs ls r_wkd_19 i19_0 i19_1 i19_2 i19_3 hm19 hP hD hS hl
          refine lv_iload hx hb dX3_seek_19 (lv_at hl 4 rfl) ?_
          refine lv_bipush (v := 8) hx hb dX3_seek_21 (by decide) ?_
          refine lv_icmp_ge (tgt := 126) hx hb dX3_seek_23 (by decide) (fun c8 => ?_) (fun c8 => ?_)
          · have dc8 : 8 ≤ y19_4.toInt := leC (show (8 : Int32).toInt = 8 from rfl) rfl c8
            refine lv_aload_n hx hb dX3_seek_126 rfl (lv_at hl 0 rfl) ?_
            refine va_get (D := (dC, dI)) (ci := 3) (v := .ref (a 18)) (C := RX3) (T := TX3) (N := 9) hx hb hts inX3 hown hK hP 0 rfl rfl 3 (by decide) lf15 (fun _ h9 => h9) rfl dX3_seek_127 ?_
            refine lv_iload_n hx hb dX3_seek_130 rfl (lv_at hl 1 rfl) ?_
            refine lv_bipush (v := 8) hx hb dX3_seek_131 (by decide) ?_
            have b9 : vp_in i 4 := inC rfl (by omega) (by omega)
            refine va_iast hx hb hK hP hD hS 2 0 rfl rfl b9 dX3_seek_133 (fun H locs hP hD hS => ?_)
            obtain ⟨tri_u10, etri_u10⟩ : ∃ f : Nat → Int32, f = upd tri_19 i.toNatClampNeg 8 := ⟨_, rfl⟩
            have hP : va_P (dC, dI) vwCl (wPln cI cZ cQ a min tri_u10 bes_19 wkd_19 cos rst bst_19 top str gho ghs pto cro pla wal fal tel gai day mar few doo) H := by rw [etri_u10]; exact hP
            have hD : va_D A (wPln cI cZ cQ a min tri_u10 bes_19 wkd_19 cos rst bst_19 top str gho ghs pto cro pla wal fal tel gai day mar few doo) := by rw [etri_u10]; exact hD
            refine lv_aload_n hx hb dX3_seek_134 rfl (lv_at hl 0 rfl) ?_
            refine lv_iload_n hx hb dX3_seek_135 rfl (lv_at hl 1 rfl) ?_
            refine lv_iconst (v := 1) hx hb dX3_seek_136 (by decide) ?_
            refine lv_iadd hx hb dX3_seek_137 ?_
            have f11 : (i + 1).toInt = (i.toInt) + (1) := addC rfl (show (1 : Int32).toInt = 1 from rfl) (by omega) (by omega)
            refine lv_iload_n hx hb dX3_seek_138 rfl (lv_at hl 2 rfl) ?_
            refine lv_iload_n hx hb dX3_seek_139 rfl (lv_at hl 3 rfl) ?_
            refine wvV (As := [.int (i + 1), .int n, .int al]) (rest := []) (wr := []) (w2 := (fun u : US => (wPln cI cZ cQ a min (u.1 0) (u.1 1) (u.1 2) cos rst (u.1 3 0) top str gho ghs pto cro pla wal fal tel gai day mar few doo))) ⟨hx, hb, hml, hown, hts⟩ (k_X3_seek2_0 l dC dI cI cZ cQ a min tri_u10 bes_19 wkd_19 cos rst bst_19 top str gho ghs pto cro pla wal fal tel gai day mar few doo _ (i + 1) n al r_wkd_19 r_top r_str r_gho r_ghs r_cro r_pla r_fal r_gai r_day r_mar (by omega) (by omega) (by omega) (by omega) (by exact q4) (by exact sk_8 q5 i19_2 (by assumption) (by omega) (by omega)) (by exact pb_e i19_3 (at_8 i19_2 (by assumption) (by omega) (by omega) (by omega) (by omega)))) (cwV 3 hts gX3_seek_X3_seek rfl rfl rfl (by decide +kernel) ⟨Nat.le_of_ble_eq_true rfl, Nat.le_of_ble_eq_true rfl⟩) hP hD hS hA hK hN [0, 1, 2, 3, 4, 5, 6, 7, 8, 9, 10, 11, 12, 13, 14, 15, 16, 17, 18, 19, 20] [] [0, 1, 2, 3, 4, 5, 6, 7, 8, 9, 10, 11, 12, 13, 14, 15, 16, 17, 18, 19, 20] rfl rfl (by decide) (by decide) (by decide) (fun _ => rfl) (by decide) 0 3 rfl rfl rfl hl.1 rfl (Nat.le_of_ble_eq_true rfl) dX3_seek_140 ⟨Nat.le_of_ble_eq_true rfl, Nat.le_of_ble_eq_true rfl⟩ (fun u14 H locs h13 hP hD hS => ?_)
            obtain ⟨tri_c15, etri_c15⟩ : ∃ f : Nat → Int32, f = (u14.1 0) := ⟨_, rfl⟩
            obtain ⟨bes_c16, ebes_c16⟩ : ∃ f : Nat → Int32, f = (u14.1 1) := ⟨_, rfl⟩
            obtain ⟨wkd_c17, ewkd_c17⟩ : ∃ f : Nat → Int32, f = (u14.1 2) := ⟨_, rfl⟩
            obtain ⟨bst_c18, ebst_c18⟩ : ∃ f : Int32, f = (u14.1 3 0) := ⟨_, rfl⟩
            have hP : va_P (dC, dI) vwCl (wPln cI cZ cQ a min tri_c15 bes_c16 wkd_c17 cos rst bst_c18 top str gho ghs pto cro pla wal fal tel gai day mar few doo) H := by rw [etri_c15, ebes_c16, ewkd_c17, ebst_c18]; exact hP
            have hD : va_D A (wPln cI cZ cQ a min tri_c15 bes_c16 wkd_c17 cos rst bst_c18 top str gho ghs pto cro pla wal fal tel gai day mar few doo) := by rw [etri_c15, ebes_c16, ewkd_c17, ebst_c18]; exact hD
            have h13 : (ksI (i + 1).toInt tri_u10 wkd_19 tri_c15 wkd_c17) ∧ (pbI (okC cos min n.toInt.toNat) (vlC mar fal top str tel gai.toInt n.toInt.toNat) n.toInt.toNat (toN tri_u10 n.toInt.toNat (i + 1).toInt) bst_c18.toInt bes_c16) ∧ (rg 8 (0) (15) wkd_c17) := by (try rw [etri_c15]); (try rw [ebes_c16]); (try rw [ewkd_c17]); (try rw [ebst_c18]); exact h13
            obtain ⟨h13_0, h13_1, h13_2⟩ := h13
            exact W.vret hx hb hr (fun tq ht hW => ⟨⟨(uS [tri_c15, bes_c16, wkd_c17, (fun _ => bst_c18)] 0 (fun _ => 0)), rfl, ⟨(show ksI i.toInt tri wkd tri_c15 wkd_c17 from by (first | exact ks_0 | exact ks_8 i19_2 (by assumption) (by assumption) (by omega) (by omega))), (show pbI (okC cos min n.toInt.toNat) (vlC mar fal top str tel gai.toInt n.toInt.toNat) n.toInt.toNat (toN tri n.toInt.toNat i.toInt) bst_c18.toInt bes_c16 from by (first | exact sk_leaf q6 q5 q4 r_wkd (by omega) (by assumption) | exact pb_e (by assumption) (to_8 i19_2 (by assumption) (by omega) (by omega) (by omega)))), h13_2⟩, by rw [ht]; exact hP, hD⟩, hS.F ht⟩) hS.2.2 dX3_seek_143
          · have dc8 : y19_4.toInt < 8 := nleC (show (8 : Int32).toInt = 8 from rfl) rfl c8
            refine lv_aload_n hx hb dX3_seek_26 rfl (lv_at hl 0 rfl) ?_
            refine lv_iload hx hb dX3_seek_27 (lv_at hl 4 rfl) ?_
            refine lv_iload_n hx hb dX3_seek_29 rfl (lv_at hl 1 rfl) ?_
            refine rdV (As := [.int y19_4, .int i]) (rest := []) ⟨hx, hb, hml, hown, hts⟩ (k_X3_walkable2 l dC dI cI cZ cQ a min tri_19 bes_19 wkd_19 cos rst bst_19 top str gho ghs pto cro pla wal fal tel gai day mar few doo y19_4 i r_wkd_19 r_top r_str r_gho r_ghs r_cro r_pla r_fal r_gai r_day r_mar (by omega) (by omega) (by omega) (by omega)) (cwV 2 hts gX3_seek_X3_walkable rfl rfl rfl (by decide +kernel) ⟨Nat.le_of_ble_eq_true rfl, Nat.le_of_ble_eq_true rfl⟩) hP hK hN [0, 1, 2, 3, 4, 5, 6, 7, 8, 9, 10, 11, 12, 13, 14, 15, 16, 17, 18, 19, 20] rfl 0 3 rfl rfl rfl hl.1 rfl (Nat.le_of_ble_eq_true rfl) dX3_seek_30 ⟨Nat.le_of_ble_eq_true rfl, Nat.le_of_ble_eq_true rfl⟩ (fun r19 h20 => ?_)
            have h20 : ((((r19 = 1) ∧ (wkb (cos y19_4.toNatClampNeg) (min i.toNatClampNeg))) ∨ ((r19 = 0) ∧ (¬ wkb (cos y19_4.toNatClampNeg) (min i.toNatClampNeg))))) := h20
            rcases h20 with (⟨rfl, h20_a0⟩ | ⟨rfl, h20_a0⟩)
            · refine lv_if_eq (tgt := 120) hx hb dX3_seek_33 (by decide) (fun c9 => absurd c9 (by decide)) (fun _ => ?_)
              refine lv_aload_n hx hb dX3_seek_36 rfl (lv_at hl 0 rfl) ?_
              refine va_get (D := (dC, dI)) (ci := 3) (v := .ref (a 20)) (C := RX3) (T := TX3) (N := 9) hx hb hts inX3 hown hK hP 0 rfl rfl 5 (by decide) lf21 (fun _ h9 => h9) rfl dX3_seek_37 ?_
              refine lv_iload hx hb dX3_seek_40 (lv_at hl 4 rfl) ?_
              have b21 : vp_in y19_4 8 := inC rfl (by omega) (by omega)
              refine va_iald hx hb hK hP 4 0 rfl rfl b21 dX3_seek_42 ?_
              have g22 : 0 ≤ (wkd_19 y19_4.toNatClampNeg).toInt ∧ (wkd_19 y19_4.toNatClampNeg).toInt ≤ 15 := rg_at r_wkd_19 b21
              refine lv_topi (fun x23 ex23 => ?_)
              have ix23 : x23.toInt = (wkd_19 y19_4.toNatClampNeg).toInt := by rw [ex23]
              refine lv_istore (lv' := [(5, .int x23), (0, .ref (a 16)), (1, .int i), (2, .int n), (3, .int al), (4, .int y19_4)]) hx hb dX3_seek_43 hl (by decide) rfl (fun ls hl => ?_)
              refine lv_iload hx hb dX3_seek_45 (lv_at hl 0 rfl) ?_
              refine lv_iconst (v := 1) hx hb dX3_seek_47 (by decide) ?_
              refine lv_iload_n hx hb dX3_seek_48 rfl (lv_at hl 2 rfl) ?_
              refine lv_ishl hx hb dX3_seek_49 ?_
              have f24 : 1 ≤ ((1 : Int32) <<< (i &&& 31)).toInt ∧ ((1 : Int32) <<< (i &&& 31)).toInt ≤ 8 := shl1 rfl (by omega) 3 (by omega) (by decide)
              refine lv_ior hx hb dX3_seek_50 ?_
              have f25 : 0 ≤ (x23 ||| ((1 : Int32) <<< (i &&& 31))).toInt ∧ (x23 ||| ((1 : Int32) <<< (i &&& 31))).toInt ≤ 15 := orB rfl rfl 4 (by omega) (by omega) (by omega) (by omega) (by decide)
              refine lv_topi (fun x26 ex26 => ?_)
              have ix26 : x26.toInt = (x23 ||| ((1 : Int32) <<< (i &&& 31))).toInt := by rw [ex26]
              refine lv_istore (lv' := [(6, .int x26), (5, .int x23), (0, .ref (a 16)), (1, .int i), (2, .int n), (3, .int al), (4, .int y19_4)]) hx hb dX3_seek_51 hl (by decide) rfl (fun ls hl => ?_)
              have wal_ := skA_rg q5 q4 r_wkd
              have wsk := sk_eq q5 i19_2
              have wlt := wd_lt wsk.2.2.1 r_wkd_19 (q := y19_4.toNatClampNeg) (n := n.toInt.toNat) (by rw [clC (x := y19_4) rfl]; omega) (by omega) (by omega)
              refine lv_aload_n hx hb dX3_seek_53 rfl (lv_at hl 2 rfl) ?_
              refine va_get (D := (dC, dI)) (ci := 3) (v := .ref (a 22)) (C := RX3) (T := TX3) (N := 9) hx hb hts inX3 hown hK hP 0 rfl rfl 7 (by decide) lf27 (fun _ h9 => h9) rfl dX3_seek_54 ?_
              refine lv_iload hx hb dX3_seek_57 (lv_at hl 6 rfl) ?_
              refine lv_bipush (v := 16) hx hb dX3_seek_59 (by decide) ?_
              refine lv_imul hx hb dX3_seek_61 ?_
              have f27 : (y19_4 * 16).toInt = (y19_4.toInt) * (16) := mulC rfl (show (16 : Int32).toInt = 16 from rfl) (by omega) (by omega)
              refine lv_iload hx hb dX3_seek_62 (lv_at hl 0 rfl) ?_
              refine lv_iadd hx hb dX3_seek_64 ?_
              have f28 : ((y19_4 * 16) + x26).toInt = ((y19_4.toInt) * (16)) + (x26.toInt) := addC f27 rfl (by omega) (by omega)
              have b29 : vp_in ((y19_4 * 16) + x26) 128 := inC f28 (by omega) (by omega)
              refine va_iald hx hb hK hP 6 0 rfl rfl b29 dX3_seek_65 ?_
              refine lv_aload_n hx hb dX3_seek_66 rfl (lv_at hl 2 rfl) ?_
              refine va_get (D := (dC, dI)) (ci := 3) (v := .ref (a 22)) (C := RX3) (T := TX3) (N := 9) hx hb hts inX3 hown hK hP 0 rfl rfl 7 (by decide) lf27 (fun _ h9 => h9) rfl dX3_seek_67 ?_
              refine lv_iload hx hb dX3_seek_70 (lv_at hl 6 rfl) ?_
              refine lv_bipush (v := 16) hx hb dX3_seek_72 (by decide) ?_
              refine lv_imul hx hb dX3_seek_74 ?_
              have f30 : (y19_4 * 16).toInt = (y19_4.toInt) * (16) := mulC rfl (show (16 : Int32).toInt = 16 from rfl) (by omega) (by omega)
              refine lv_iload hx hb dX3_seek_75 (lv_at hl 1 rfl) ?_
              refine lv_iadd hx hb dX3_seek_77 ?_
              have f31 : ((y19_4 * 16) + x23).toInt = ((y19_4.toInt) * (16)) + (x23.toInt) := addC f30 rfl (by omega) (by omega)
              have b32 : vp_in ((y19_4 * 16) + x23) 128 := inC f31 (by omega) (by omega)
              refine va_iald hx hb hK hP 6 0 rfl rfl b32 dX3_seek_78 ?_
              have wl5 : x23.toInt.toNat < 2 ^ n.toInt.toNat := by have e : x23.toInt = (wkd_19 y19_4.toNatClampNeg).toInt := (by omega); rw [e]; exact wlt
              have wl6 : x26.toInt.toNat < 2 ^ n.toInt.toNat := or_lt wl5 (by assumption) (by omega) (by omega) (by omega) (by omega)
              have wr5 := rs_rg q4 (x := (y19_4 * 16) + x23) (y := y19_4) (w := x23) (by omega) (by omega) (by omega) (by omega) wl5
              have wr6 := rs_rg q4 (x := (y19_4 * 16) + x26) (y := y19_4) (w := x26) (by omega) (by omega) (by omega) (by omega) wl6
              refine lv_isub hx hb dX3_seek_79 ?_
              have f33 : ((rst ((y19_4 * 16) + x26).toNatClampNeg) - (rst ((y19_4 * 16) + x23).toNatClampNeg)).toInt = ((rst ((y19_4 * 16) + x26).toNatClampNeg).toInt) - ((rst ((y19_4 * 16) + x23).toNatClampNeg).toInt) := subC rfl rfl (by omega) (by omega)
              refine lv_topi (fun x34 ex34 => ?_)
              have ix34 : x34.toInt = ((rst ((y19_4 * 16) + x26).toNatClampNeg).toInt) - ((rst ((y19_4 * 16) + x23).toNatClampNeg).toInt) := by rw [ex34]; exact f33
              refine lv_istore (lv' := [(7, .int x34), (6, .int x26), (5, .int x23), (0, .ref (a 16)), (1, .int i), (2, .int n), (3, .int al), (4, .int y19_4)]) hx hb dX3_seek_80 hl (by decide) rfl (fun ls hl => ?_)
              have wch : x34.toInt = (rst (16 * y19_4.toInt.toNat + x26.toInt.toNat)).toInt - (rst (16 * y19_4.toInt.toNat + x23.toInt.toNat)).toInt := by rw [← wr6.2.2, ← wr5.2.2]; omega
              refine lv_aload_n hx hb dX3_seek_82 rfl (lv_at hl 3 rfl) ?_
              refine va_get (D := (dC, dI)) (ci := 3) (v := .ref (a 18)) (C := RX3) (T := TX3) (N := 9) hx hb hts inX3 hown hK hP 0 rfl rfl 3 (by decide) lf15 (fun _ h9 => h9) rfl dX3_seek_83 ?_
              refine lv_iload_n hx hb dX3_seek_86 rfl (lv_at hl 4 rfl) ?_
              refine lv_iload hx hb dX3_seek_87 (lv_at hl 7 rfl) ?_
              have b35 : vp_in i 4 := inC rfl (by omega) (by omega)
              refine va_iast hx hb hK hP hD hS 2 0 rfl rfl b35 dX3_seek_89 (fun H locs hP hD hS => ?_)
              obtain ⟨tri_u36, etri_u36⟩ : ∃ f : Nat → Int32, f = upd tri_19 i.toNatClampNeg y19_4 := ⟨_, rfl⟩
              have hP : va_P (dC, dI) vwCl (wPln cI cZ cQ a min tri_u36 bes_19 wkd_19 cos rst bst_19 top str gho ghs pto cro pla wal fal tel gai day mar few doo) H := by rw [etri_u36]; exact hP
              have hD : va_D A (wPln cI cZ cQ a min tri_u36 bes_19 wkd_19 cos rst bst_19 top str gho ghs pto cro pla wal fal tel gai day mar few doo) := by rw [etri_u36]; exact hD
              refine lv_aload_n hx hb dX3_seek_90 rfl (lv_at hl 3 rfl) ?_
              refine va_get (D := (dC, dI)) (ci := 3) (v := .ref (a 20)) (C := RX3) (T := TX3) (N := 9) hx hb hts inX3 hown hK hP 0 rfl rfl 5 (by decide) lf21 (fun _ h9 => h9) rfl dX3_seek_91 ?_
              refine lv_iload hx hb dX3_seek_94 (lv_at hl 7 rfl) ?_
              refine lv_iload hx hb dX3_seek_96 (lv_at hl 1 rfl) ?_
              have b37 : vp_in y19_4 8 := inC rfl (by omega) (by omega)
              have g38 : rg 8 (0) (15) (upd wkd_19 y19_4.toNatClampNeg x26) := rg_upd r_wkd_19 rfl (by omega) (by omega)
              refine va_iast hx hb hK hP hD hS 4 0 rfl rfl b37 dX3_seek_98 (fun H locs hP hD hS => ?_)
              obtain ⟨wkd_u39, ewkd_u39⟩ : ∃ f : Nat → Int32, f = upd wkd_19 y19_4.toNatClampNeg x26 := ⟨_, rfl⟩
              have rwkd_u39 : rg 8 (0) (15) wkd_u39 := by rw [ewkd_u39]; exact g38
              have hP : va_P (dC, dI) vwCl (wPln cI cZ cQ a min tri_u36 bes_19 wkd_u39 cos rst bst_19 top str gho ghs pto cro pla wal fal tel gai day mar few doo) H := by rw [ewkd_u39]; exact hP
              have hD : va_D A (wPln cI cZ cQ a min tri_u36 bes_19 wkd_u39 cos rst bst_19 top str gho ghs pto cro pla wal fal tel gai day mar few doo) := by rw [ewkd_u39]; exact hD
              refine lv_aload_n hx hb dX3_seek_99 rfl (lv_at hl 3 rfl) ?_
              refine lv_iload_n hx hb dX3_seek_100 rfl (lv_at hl 4 rfl) ?_
              refine lv_iconst (v := 1) hx hb dX3_seek_101 (by decide) ?_
              refine lv_iadd hx hb dX3_seek_102 ?_
              have f40 : (i + 1).toInt = (i.toInt) + (1) := addC rfl (show (1 : Int32).toInt = 1 from rfl) (by omega) (by omega)
              refine lv_iload_n hx hb dX3_seek_103 rfl (lv_at hl 5 rfl) ?_
              refine lv_iload_n hx hb dX3_seek_104 rfl (lv_at hl 6 rfl) ?_
              refine lv_iload hx hb dX3_seek_105 (lv_at hl 0 rfl) ?_
              refine lv_iadd hx hb dX3_seek_107 ?_
              have f41 : (al + x34).toInt = (al.toInt) + (x34.toInt) := addC rfl rfl (by omega) (by omega)
              refine wvV (As := [.int (i + 1), .int n, .int (al + x34)]) (rest := []) (wr := []) (w2 := (fun u : US => (wPln cI cZ cQ a min (u.1 0) (u.1 1) (u.1 2) cos rst (u.1 3 0) top str gho ghs pto cro pla wal fal tel gai day mar few doo))) ⟨hx, hb, hml, hown, hts⟩ (k_X3_seek2_0 l dC dI cI cZ cQ a min tri_u36 bes_19 wkd_u39 cos rst bst_19 top str gho ghs pto cro pla wal fal tel gai day mar few doo _ (i + 1) n (al + x34) rwkd_u39 r_top r_str r_gho r_ghs r_cro r_pla r_fal r_gai r_day r_mar (by omega) (by omega) (by omega) (by omega) (by exact q4) (by exact sk_y q5 q4 i19_2 r_wkd_19 (by assumption) (by assumption) (by assumption) (by assumption) (by assumption) ⟨by omega, by omega⟩ (by omega) (by omega) (by omega) wch (by omega) (by omega)) (by exact pb_e i19_3 (at_d i19_2 (by assumption) (by omega) (by omega) (by omega) (by omega)))) (cwV 3 hts gX3_seek_X3_seek rfl rfl rfl (by decide +kernel) ⟨Nat.le_of_ble_eq_true rfl, Nat.le_of_ble_eq_true rfl⟩) hP hD hS hA hK hN [0, 1, 2, 3, 4, 5, 6, 7, 8, 9, 10, 11, 12, 13, 14, 15, 16, 17, 18, 19, 20] [] [0, 1, 2, 3, 4, 5, 6, 7, 8, 9, 10, 11, 12, 13, 14, 15, 16, 17, 18, 19, 20] rfl rfl (by decide) (by decide) (by decide) (fun _ => rfl) (by decide) 0 3 rfl rfl rfl hl.1 rfl (Nat.le_of_ble_eq_true rfl) dX3_seek_108 ⟨Nat.le_of_ble_eq_true rfl, Nat.le_of_ble_eq_true rfl⟩ (fun u44 H locs h43 hP hD hS => ?_)
              obtain ⟨tri_c45, etri_c45⟩ : ∃ f : Nat → Int32, f = (u44.1 0) := ⟨_, rfl⟩
              obtain ⟨bes_c46, ebes_c46⟩ : ∃ f : Nat → Int32, f = (u44.1 1) := ⟨_, rfl⟩
              obtain ⟨wkd_c47, ewkd_c47⟩ : ∃ f : Nat → Int32, f = (u44.1 2) := ⟨_, rfl⟩
              obtain ⟨bst_c48, ebst_c48⟩ : ∃ f : Int32, f = (u44.1 3 0) := ⟨_, rfl⟩
              have hP : va_P (dC, dI) vwCl (wPln cI cZ cQ a min tri_c45 bes_c46 wkd_c47 cos rst bst_c48 top str gho ghs pto cro pla wal fal tel gai day mar few doo) H := by rw [etri_c45, ebes_c46, ewkd_c47, ebst_c48]; exact hP
              have hD : va_D A (wPln cI cZ cQ a min tri_c45 bes_c46 wkd_c47 cos rst bst_c48 top str gho ghs pto cro pla wal fal tel gai day mar few doo) := by rw [etri_c45, ebes_c46, ewkd_c47, ebst_c48]; exact hD
              have h43 : (ksI (i + 1).toInt tri_u36 wkd_u39 tri_c45 wkd_c47) ∧ (pbI (okC cos min n.toInt.toNat) (vlC mar fal top str tel gai.toInt n.toInt.toNat) n.toInt.toNat (toN tri_u36 n.toInt.toNat (i + 1).toInt) bst_c48.toInt bes_c46) ∧ (rg 8 (0) (15) wkd_c47) := by (try rw [etri_c45]); (try rw [ebes_c46]); (try rw [ewkd_c47]); (try rw [ebst_c48]); exact h43
              obtain ⟨h43_0, h43_1, h43_2⟩ := h43
              refine lv_aload_n hx hb dX3_seek_111 rfl (lv_at hl 3 rfl) ?_
              refine va_get (D := (dC, dI)) (ci := 3) (v := .ref (a 20)) (C := RX3) (T := TX3) (N := 9) hx hb hts inX3 hown hK hP 0 rfl rfl 5 (by decide) lf21 (fun _ h9 => h9) rfl dX3_seek_112 ?_
              refine lv_iload hx hb dX3_seek_115 (lv_at hl 7 rfl) ?_
              refine lv_iload hx hb dX3_seek_117 (lv_at hl 2 rfl) ?_
              have b49 : vp_in y19_4 8 := inC rfl (by omega) (by omega)
              have g50 : rg 8 (0) (15) (upd wkd_c47 y19_4.toNatClampNeg x23) := rg_upd h43_2 rfl (by omega) (by omega)
              refine va_iast hx hb hK hP hD hS 4 0 rfl rfl b49 dX3_seek_119 (fun H locs hP hD hS => ?_)
              obtain ⟨wkd_u51, ewkd_u51⟩ : ∃ f : Nat → Int32, f = upd wkd_c47 y19_4.toNatClampNeg x23 := ⟨_, rfl⟩
              have rwkd_u51 : rg 8 (0) (15) wkd_u51 := by rw [ewkd_u51]; exact g50
              have hP : va_P (dC, dI) vwCl (wPln cI cZ cQ a min tri_c45 bes_c46 wkd_u51 cos rst bst_c48 top str gho ghs pto cro pla wal fal tel gai day mar few doo) H := by rw [ewkd_u51]; exact hP
              have hD : va_D A (wPln cI cZ cQ a min tri_c45 bes_c46 wkd_u51 cos rst bst_c48 top str gho ghs pto cro pla wal fal tel gai day mar few doo) := by rw [ewkd_u51]; exact hD
              obtain ⟨z52, ez52⟩ : ∃ y : Int32, y = y19_4 + 1 := ⟨_, rfl⟩
              have iz52 : z52.toInt = y19_4.toInt + 1 := by rw [ez52]; exact addC rfl rfl (by omega) (by omega)
              refine lv_iinc (v := z52) (lv' := [(4, .int z52), (7, .int x34), (6, .int x26), (5, .int x23), (0, .ref (a 16)), (1, .int i), (2, .int n), (3, .int al)]) hx hb dX3_seek_120 hl (k := 7) rfl (by rw [ez52]; rfl) (by decide) rfl (fun ls hl => ?_)
              refine lv_goto (tgt := 19) hx hb dX3_seek_123 (by decide) ?_
              exact ih19 z52 tri_c45 bes_c46 wkd_u51 bst_c48 _ _ _ rwkd_u51 (by omega) (by omega) (by (first | exact ks_y i19_2 (by assumption) (by assumption) (by assumption) (by assumption) (by assumption) (by omega) (by omega) | exact i19_2 | exact ks_0)) (by (first | exact pb_e (by assumption) (at_u i19_2 (by assumption) (by omega) (by omega) (by omega) (by omega) (by omega)).symm | exact pb_no (y := y19_4) i19_3 q5 i19_2 (by assumption) (by omega) (by omega) (by omega) (by omega) | exact pb_e q6 (at_0 (by omega) (by omega) rfl))) (by omega) hP hD hS (lv_sub hl [4, 5, 6, 7, 0] rfl)
            · refine lv_if_eq (tgt := 120) hx hb dX3_seek_33 (by decide) (fun _ => ?_) (fun c9 => absurd (by decide) c9)
              obtain ⟨z53, ez53⟩ : ∃ y : Int32, y = y19_4 + 1 := ⟨_, rfl⟩
              have iz53 : z53.toInt = y19_4.toInt + 1 := by rw [ez53]; exact addC rfl rfl (by omega) (by omega)
              refine lv_iinc (v := z53) (lv' := [(4, .int z53), (0, .ref (a 16)), (1, .int i), (2, .int n), (3, .int al)]) hx hb dX3_seek_120 hl (k := 4) rfl (by rw [ez53]; rfl) (by decide) rfl (fun ls hl => ?_)
              refine lv_goto (tgt := 19) hx hb dX3_seek_123 (by decide) ?_
              exact ih19 z53 tri_19 bes_19 wkd_19 bst_19 _ _ _ r_wkd_19 (by omega) (by omega) (by (first | exact ks_y i19_2 (by assumption) (by assumption) (by assumption) (by assumption) (by assumption) (by omega) (by omega) | exact i19_2 | exact ks_0)) (by (first | exact pb_e (by assumption) (at_u i19_2 (by assumption) (by omega) (by omega) (by omega) (by omega) (by omega)).symm | exact pb_no (y := y19_4) i19_3 q5 i19_2 (by assumption) (by omega) (by omega) (by omega) (by omega) | exact pb_e q6 (at_0 (by omega) (by omega) rfl))) (by omega) hP hD hS (lv_sub hl [1, 2, 3, 4, 0] rfl)
      have kc54 : (0 : Int32).toInt = 0 := rfl
      exact L19 _ 0 tri bes wkd bst _ _ _ r_wkd (by omega) (by omega) (by (first | exact ks_y i19_2 (by assumption) (by assumption) (by assumption) (by assumption) (by assumption) (by omega) (by omega) | exact i19_2 | exact ks_0)) (by (first | exact pb_e (by assumption) (at_u i19_2 (by assumption) (by omega) (by omega) (by omega) (by omega) (by omega)).symm | exact pb_no (y := y19_4) i19_3 q5 i19_2 (by assumption) (by omega) (by omega) (by omega) (by omega) | exact pb_e q6 (at_0 (by omega) (by omega) rfl))) (Nat.lt_succ_self _) hP hD hS (lv_sub hl [1, 2, 3, 4, 0] rfl)
    · have dc7 : 4 ≤ i.toInt := nltC rfl (show (4 : Int32).toInt = 4 from rfl) c7
      exfalso
      omega
set_option maxHeartbeats 4000000 in
set_option maxRecDepth 100000 in
theorem k_X3_seek2_2 (l : Launch) (dC : Nat → ClassId) (dI : Nat → Nat → Nat) (cI cZ cQ : ClassId) (a : Nat → Nat) (min : Nat → Int32) (tri : Nat → Int32) (bes : Nat → Int32) (wkd : Nat → Int32) (cos : Nat → Int32) (rst : Nat → Int32) (bst : Int32) (top : Nat → Int32) (str : Nat → Int32) (gho : Nat → Int32) (ghs : Nat → Int32) (pto : Nat → Int32) (cro : Nat → Int32) (pla : Nat → Int32) (wal : Nat → Int32) (fal : Nat → Int32) (tel : Int32) (gai : Int32) (day : Int32) (mar : Nat → Int32) (few : Nat → Int32) (doo : Int32) (sz : Nat) (i : Int32) (n : Int32) (al : Int32) (r_wkd : rg 8 (0) (15) wkd) (r_top : rg 48 (-1) (23) top) (r_str : rg 48 (0) (100) str) (r_gho : rg 48 (-1) (23) gho) (r_ghs : rg 48 (0) (100) ghs) (r_cro : rg 48 (0) (6) cro) (r_pla : rg 24 (-1) (47) pla) (r_fal : rg 11 (0) (30) fal) (r_gai : 0 ≤ gai.toInt ∧ gai.toInt ≤ 100) (r_day : 0 ≤ day.toInt ∧ day.toInt ≤ 400) (r_mar : rg 24 (0) (255) mar) (q0 : 2 ≤ i.toInt) (q1 : i.toInt ≤ 4) (q2 : 1 ≤ n.toInt) (q3 : n.toInt ≤ 4) (q4 : rsI rst mar fal top str tel gai.toInt n.toInt.toNat) (q5 : skI cos min rst n.toInt.toNat i.toInt al.toInt tri wkd) (q6 : pbI (okC cos min n.toInt.toNat) (vlC mar fal top str tel gai.toInt n.toInt.toNat) n.toInt.toNat (atN tri n.toInt.toNat i.toInt) bst.toInt bes) : KV l yX3_seek wsX3_seek { frames := 4, cells := 0, slots := 0, locals := 115 } (dC, dI) (TY cI cZ cQ) (wPln cI cZ cQ a min tri bes wkd cos rst bst top str gho ghs pto cro pla wal fal tel gai day mar few doo) [.ref (a 16), .int i, .int n, .int al] sz 0 0 (fun (u : US) => (ksI i.toInt tri wkd (u.1 0) (u.1 2)) ∧ (pbI (okC cos min n.toInt.toNat) (vlC mar fal top str tel gai.toInt n.toInt.toNat) n.toInt.toNat (toN tri n.toInt.toNat i.toInt) (u.1 3 0).toInt (u.1 1)) ∧ (rg 8 (0) (15) (u.1 2))) (fun u : US => (wPln cI cZ cQ a min (u.1 0) (u.1 1) (u.1 2) cos rst (u.1 3 0) top str gho ghs pto cro pla wal fal tel gai day mar few doo)) := by
  refine Met.ofW (cc := cX3_seek) (maxL := 8) (ret := none) (by decide) rfl ?_
  intro p e s m args below meth c s₁ B hml hv
  obtain ⟨rfl, hsz, hP, hK, hD0, hN⟩ := hv
  have hx := B.exec
  have hb := B.bytes
  have hr := B.returns
  have hts := atoms_spec (ws := wsX3_seek) B.pre
  have hown : s.vm.findClass RX3 = some m.cls := findClass_of_methodNamed B.named
  have hlocks := B.notSynchronized
  have lf15 := hts (.fieldLink RX3 15 "PalaceOfRooms$Planner" "trial" "[I") (List.mem_cons_of_mem _ (List.mem_append_left _ (List.mem_of_getElem? (i := 2) rfl)))
  have inX3 : ∀ w ∈ wsX30, w ∈ wsX3_seek := fun w h => List.mem_cons_of_mem _ (List.mem_append_right _ h)
  have lf21 := hts (.fieldLink RX3 21 "PalaceOfRooms$Planner" "walkedDays" "[I") (List.mem_cons_of_mem _ (List.mem_append_left _ (List.mem_of_getElem? (i := 0) rfl)))
  have lf27 := hts (.fieldLink RX3 27 "PalaceOfRooms$Planner" "roomStrength" "[I") (List.mem_cons_of_mem _ (List.mem_append_left _ (List.mem_of_getElem? (i := 1) rfl)))
  subst hsz
  have hD := hD0.self (sz := s.heap.size)
  generalize hAe : va_A (wPln cI cZ cQ a min tri bes wkd cos rst bst top str gho ghs pto cro pla wal fal tel gai day mar few doo) s.heap.size = A at hD ⊢
  have hA : ∀ q : Nat, s.heap.size ≤ q → A q := fun q h => by rw [← hAe]; exact Or.inr h
  have hS : va_S A s.heap s.heap [] := va_S.rf
  have hl := lv_entry ([.ref (a 16), .int i, .int n, .int al]) (n := 8) (Nat.le_of_ble_eq_true rfl)
  rw [lg_entry_eq]
  generalize (lg_sl ([.ref (a 16), .int i, .int n, .int al]) ++ List.replicate (8 - (lg_sl ([.ref (a 16), .int i, .int n, .int al])).length) Slot.unset).toArray = ls at hl ⊢
  have hl : lv_has ls 8 [(0, .ref (a 16)), (1, .int i), (2, .int n), (3, .int al)] := hl
  refine lv_iload_n hx hb dX3_seek_0 rfl (lv_at hl 1 rfl) ?_
  refine lv_iload_n hx hb dX3_seek_1 rfl (lv_at hl 2 rfl) ?_
  refine lv_icmp_ge (tgt := 10) hx hb dX3_seek_2 (by decide) (fun c1 => ?_) (fun c1 => ?_)
  · have dc1 : n.toInt ≤ i.toInt := leC rfl rfl c1
    refine lv_aload_n hx hb dX3_seek_10 rfl (lv_at hl 0 rfl) ?_
    refine lv_iload_n hx hb dX3_seek_11 rfl (lv_at hl 3 rfl) ?_
    refine wvV (As := [.int al]) (rest := []) (wr := []) (w2 := (fun u : US => (wPln cI cZ cQ a min tri (u.1 1) wkd cos rst (u.1 0 0) top str gho ghs pto cro pla wal fal tel gai day mar few doo))) ⟨hx, hb, hml, hown, hts⟩ (k_X3_keepIfStronger2 l dC dI cI cZ cQ a min tri bes wkd cos rst bst top str gho ghs pto cro pla wal fal tel gai day mar few doo _ al r_wkd r_top r_str r_gho r_ghs r_cro r_pla r_fal r_gai r_day r_mar) (cwV 1 hts gX3_seek_X3_keepIfStronger rfl rfl rfl (by decide +kernel) ⟨Nat.le_of_ble_eq_true rfl, Nat.le_of_ble_eq_true rfl⟩) hP hD hS hA hK hN [0, 1, 2, 3, 4, 5, 6, 7, 8, 9, 10, 11, 12, 13, 14, 15, 16, 17, 18, 19, 20] [] [0, 1, 2, 3, 4, 5, 6, 7, 8, 9, 10, 11, 12, 13, 14, 15, 16, 17, 18, 19, 20] rfl rfl (by decide) (by decide) (by decide) (fun _ => rfl) (by decide) 0 3 rfl rfl rfl hl.1 rfl (Nat.le_of_ble_eq_true rfl) dX3_seek_12 ⟨Nat.le_of_ble_eq_true rfl, Nat.le_of_ble_eq_true rfl⟩ (fun u4 H locs h3 hP hD hS => ?_)
    obtain ⟨bst_c5, ebst_c5⟩ : ∃ f : Int32, f = (u4.1 0 0) := ⟨_, rfl⟩
    obtain ⟨bes_c6, ebes_c6⟩ : ∃ f : Nat → Int32, f = (u4.1 1) := ⟨_, rfl⟩
    have hP : va_P (dC, dI) vwCl (wPln cI cZ cQ a min tri bes_c6 wkd cos rst bst_c5 top str gho ghs pto cro pla wal fal tel gai day mar few doo) H := by rw [ebst_c5, ebes_c6]; exact hP
    have hD : va_D A (wPln cI cZ cQ a min tri bes_c6 wkd cos rst bst_c5 top str gho ghs pto cro pla wal fal tel gai day mar few doo) := by rw [ebst_c5, ebes_c6]; exact hD
    have h3 : ((bst.toInt < al.toInt → bst_c5 = al ∧ ∀ j : Nat, j < 4 → bes_c6 j = tri j) ∧ (al.toInt ≤ bst.toInt → bst_c5 = bst ∧ bes_c6 = bes)) := by (try rw [ebst_c5]); (try rw [ebes_c6]); exact h3
    have h3_0 := h3
    exact W.vret hx hb hr (fun tq ht hW => ⟨⟨(uS [tri, bes_c6, wkd, (fun _ => bst_c5)] 0 (fun _ => 0)), rfl, ⟨(show ksI i.toInt tri wkd tri wkd from by (first | exact ks_0 | exact ks_8 i19_2 (by assumption) (by assumption) (by omega) (by omega))), (show pbI (okC cos min n.toInt.toNat) (vlC mar fal top str tel gai.toInt n.toInt.toNat) n.toInt.toNat (toN tri n.toInt.toNat i.toInt) bst_c5.toInt bes_c6 from by (first | exact sk_leaf q6 q5 q4 r_wkd (by omega) (by assumption) | exact pb_e (by assumption) (to_8 i19_2 (by assumption) (by omega) (by omega) (by omega)))), r_wkd⟩, by rw [ht]; exact hP, hD⟩, hS.F ht⟩) hS.2.2 dX3_seek_15
  · have dc1 : i.toInt < n.toInt := nleC rfl rfl c1
    refine lv_iload_n hx hb dX3_seek_5 rfl (lv_at hl 1 rfl) ?_
    refine lv_iconst (v := 4) hx hb dX3_seek_6 (by decide) ?_
    refine lv_icmp_lt (tgt := 16) hx hb dX3_seek_7 (by decide) (fun c7 => ?_) (fun c7 => ?_)
    · have dc7 : i.toInt < 4 := ltC rfl (show (4 : Int32).toInt = 4 from rfl) c7
      refine lv_iconst (v := 0) hx hb dX3_seek_16 (by decide) ?_
      refine lv_istore (lv' := [(4, .int 0), (0, .ref (a 16)), (1, .int i), (2, .int n), (3, .int al)]) hx hb dX3_seek_17 hl (by decide) rfl (fun ls hl => ?_)
      have L19 : ∀ (nn : Nat) (y19_4 : Int32) (tri_19 : Nat → Int32) (bes_19 : Nat → Int32) (wkd_19 : Nat → Int32) (bst_19 : Int32) (H : Heap) (locs : List Loc) (ls : Array Slot), (rg 8 (0) (15) wkd_19) → (0 ≤ (y19_4.toInt)) → ((y19_4.toInt) ≤ 8) → (ksI i.toInt tri wkd tri_19 wkd_19) → (pbI (okC cos min n.toInt.toNat) (vlC mar fal top str tel gai.toInt n.toInt.toNat) n.toInt.toNat (atY tri n.toInt.toNat i.toInt (y19_4.toInt)) bst_19.toInt bes_19) → (8 - (y19_4.toInt)).toNat < nn → va_P (dC, dI) vwCl (wPln cI cZ cQ a min tri_19 bes_19 wkd_19 cos rst bst_19 top str gho ghs pto cro pla wal fal tel gai day mar few doo) H → va_D A (wPln cI cZ cQ a min tri_19 bes_19 wkd_19 cos rst bst_19 top str gho ghs pto cro pla wal fal tel gai day mar few doo) → va_S A s.heap H locs → lv_has ls 8 [(0, .ref (a 16)), (1, .int i), (2, .int n), (3, .int al), (4, .int y19_4)] → W p l e (headSpec wsX3_seek { frames := 4, cells := 0, slots := 0, locals := 115 }).room s m ([.ref (a 16), .int i, .int n, .int al] : List Value).toArray below meth c H locs 0 0 (MQ below (va_Qv (fun (u : US) => (ksI i.toInt tri wkd (u.1 0) (u.1 2)) ∧ (pbI (okC cos min n.toInt.toNat) (vlC mar fal top str tel gai.toInt n.toInt.toNat) n.toInt.toNat (toN tri n.toInt.toNat i.toInt) (u.1 3 0).toInt (u.1 1)) ∧ (rg 8 (0) (15) (u.1 2))) (Bw (dC, dI) A (fun u : US => (wPln cI cZ cQ a min (u.1 0) (u.1 1) (u.1 2) cos rst (u.1 3 0) top str gho ghs pto cro pla wal fal tel gai day mar few doo))) A) ([.ref (a 16), .int i, .int n, .int al] : List Value).toArray s 0 0 A) (F0 m 19 ls []) := by
        intro nn
        induction nn with
        | zero =>
          intro y19_4 tri_19 bes_19 wkd_19 bst_19 H locs ls r_wkd_19 i19_0 i19_1 i19_2 i19_3 hm19
          exact absurd hm19 (Nat.not_lt_zero _)
        | succ nn ih19 =>
          intro y19_4 tri_19 bes_19 wkd_19 bst_19 H locs ls r_wkd_19 i19_0 i19_1 i19_2 i19_3 hm19 hP hD hS hl
          refine lv_iload hx hb dX3_seek_19 (lv_at hl 4 rfl) ?_
          refine lv_bipush (v := 8) hx hb dX3_seek_21 (by decide) ?_
          refine lv_icmp_ge (tgt := 126) hx hb dX3_seek_23 (by decide) (fun c8 => ?_) (fun c8 => ?_)
          · have dc8 : 8 ≤ y19_4.toInt := leC (show (8 : Int32).toInt = 8 from rfl) rfl c8
            refine lv_aload_n hx hb dX3_seek_126 rfl (lv_at hl 0 rfl) ?_
            refine va_get (D := (dC, dI)) (ci := 3) (v := .ref (a 18)) (C := RX3) (T := TX3) (N := 9) hx hb hts inX3 hown hK hP 0 rfl rfl 3 (by decide) lf15 (fun _ h9 => h9) rfl dX3_seek_127 ?_
            refine lv_iload_n hx hb dX3_seek_130 rfl (lv_at hl 1 rfl) ?_
            refine lv_bipush (v := 8) hx hb dX3_seek_131 (by decide) ?_
            have b9 : vp_in i 4 := inC rfl (by omega) (by omega)
            refine va_iast hx hb hK hP hD hS 2 0 rfl rfl b9 dX3_seek_133 (fun H locs hP hD hS => ?_)
            obtain ⟨tri_u10, etri_u10⟩ : ∃ f : Nat → Int32, f = upd tri_19 i.toNatClampNeg 8 := ⟨_, rfl⟩
            have hP : va_P (dC, dI) vwCl (wPln cI cZ cQ a min tri_u10 bes_19 wkd_19 cos rst bst_19 top str gho ghs pto cro pla wal fal tel gai day mar few doo) H := by rw [etri_u10]; exact hP
            have hD : va_D A (wPln cI cZ cQ a min tri_u10 bes_19 wkd_19 cos rst bst_19 top str gho ghs pto cro pla wal fal tel gai day mar few doo) := by rw [etri_u10]; exact hD
            refine lv_aload_n hx hb dX3_seek_134 rfl (lv_at hl 0 rfl) ?_
            refine lv_iload_n hx hb dX3_seek_135 rfl (lv_at hl 1 rfl) ?_
            refine lv_iconst (v := 1) hx hb dX3_seek_136 (by decide) ?_
            refine lv_iadd hx hb dX3_seek_137 ?_
            have f11 : (i + 1).toInt = (i.toInt) + (1) := addC rfl (show (1 : Int32).toInt = 1 from rfl) (by omega) (by omega)
            refine lv_iload_n hx hb dX3_seek_138 rfl (lv_at hl 2 rfl) ?_
            refine lv_iload_n hx hb dX3_seek_139 rfl (lv_at hl 3 rfl) ?_
            refine wvV (As := [.int (i + 1), .int n, .int al]) (rest := []) (wr := []) (w2 := (fun u : US => (wPln cI cZ cQ a min (u.1 0) (u.1 1) (u.1 2) cos rst (u.1 3 0) top str gho ghs pto cro pla wal fal tel gai day mar few doo))) ⟨hx, hb, hml, hown, hts⟩ (k_X3_seek2_1 l dC dI cI cZ cQ a min tri_u10 bes_19 wkd_19 cos rst bst_19 top str gho ghs pto cro pla wal fal tel gai day mar few doo _ (i + 1) n al r_wkd_19 r_top r_str r_gho r_ghs r_cro r_pla r_fal r_gai r_day r_mar (by omega) (by omega) (by omega) (by omega) (by exact q4) (by exact sk_8 q5 i19_2 (by assumption) (by omega) (by omega)) (by exact pb_e i19_3 (at_8 i19_2 (by assumption) (by omega) (by omega) (by omega) (by omega)))) (cwV 3 hts gX3_seek_X3_seek rfl rfl rfl (by decide +kernel) ⟨Nat.le_of_ble_eq_true rfl, Nat.le_of_ble_eq_true rfl⟩) hP hD hS hA hK hN [0, 1, 2, 3, 4, 5, 6, 7, 8, 9, 10, 11, 12, 13, 14, 15, 16, 17, 18, 19, 20] [] [0, 1, 2, 3, 4, 5, 6, 7, 8, 9, 10, 11, 12, 13, 14, 15, 16, 17, 18, 19, 20] rfl rfl (by decide) (by decide) (by decide) (fun _ => rfl) (by decide) 0 3 rfl rfl rfl hl.1 rfl (Nat.le_of_ble_eq_true rfl) dX3_seek_140 ⟨Nat.le_of_ble_eq_true rfl, Nat.le_of_ble_eq_true rfl⟩ (fun u14 H locs h13 hP hD hS => ?_)
            obtain ⟨tri_c15, etri_c15⟩ : ∃ f : Nat → Int32, f = (u14.1 0) := ⟨_, rfl⟩
            obtain ⟨bes_c16, ebes_c16⟩ : ∃ f : Nat → Int32, f = (u14.1 1) := ⟨_, rfl⟩
            obtain ⟨wkd_c17, ewkd_c17⟩ : ∃ f : Nat → Int32, f = (u14.1 2) := ⟨_, rfl⟩
            obtain ⟨bst_c18, ebst_c18⟩ : ∃ f : Int32, f = (u14.1 3 0) := ⟨_, rfl⟩
            have hP : va_P (dC, dI) vwCl (wPln cI cZ cQ a min tri_c15 bes_c16 wkd_c17 cos rst bst_c18 top str gho ghs pto cro pla wal fal tel gai day mar few doo) H := by rw [etri_c15, ebes_c16, ewkd_c17, ebst_c18]; exact hP
            have hD : va_D A (wPln cI cZ cQ a min tri_c15 bes_c16 wkd_c17 cos rst bst_c18 top str gho ghs pto cro pla wal fal tel gai day mar few doo) := by rw [etri_c15, ebes_c16, ewkd_c17, ebst_c18]; exact hD
            have h13 : (ksI (i + 1).toInt tri_u10 wkd_19 tri_c15 wkd_c17) ∧ (pbI (okC cos min n.toInt.toNat) (vlC mar fal top str tel gai.toInt n.toInt.toNat) n.toInt.toNat (toN tri_u10 n.toInt.toNat (i + 1).toInt) bst_c18.toInt bes_c16) ∧ (rg 8 (0) (15) wkd_c17) := by (try rw [etri_c15]); (try rw [ebes_c16]); (try rw [ewkd_c17]); (try rw [ebst_c18]); exact h13
            obtain ⟨h13_0, h13_1, h13_2⟩ := h13
            exact W.vret hx hb hr (fun tq ht hW => ⟨⟨(uS [tri_c15, bes_c16, wkd_c17, (fun _ => bst_c18)] 0 (fun _ => 0)), rfl, ⟨(show ksI i.toInt tri wkd tri_c15 wkd_c17 from by (first | exact ks_0 | exact ks_8 i19_2 (by assumption) (by assumption) (by omega) (by omega))), (show pbI (okC cos min n.toInt.toNat) (vlC mar fal top str tel gai.toInt n.toInt.toNat) n.toInt.toNat (toN tri n.toInt.toNat i.toInt) bst_c18.toInt bes_c16 from by (first | exact sk_leaf q6 q5 q4 r_wkd (by omega) (by assumption) | exact pb_e (by assumption) (to_8 i19_2 (by assumption) (by omega) (by omega) (by omega)))), h13_2⟩, by rw [ht]; exact hP, hD⟩, hS.F ht⟩) hS.2.2 dX3_seek_143
          · have dc8 : y19_4.toInt < 8 := nleC (show (8 : Int32).toInt = 8 from rfl) rfl c8
            refine lv_aload_n hx hb dX3_seek_26 rfl (lv_at hl 0 rfl) ?_
            refine lv_iload hx hb dX3_seek_27 (lv_at hl 4 rfl) ?_
            refine lv_iload_n hx hb dX3_seek_29 rfl (lv_at hl 1 rfl) ?_
            refine rdV (As := [.int y19_4, .int i]) (rest := []) ⟨hx, hb, hml, hown, hts⟩ (k_X3_walkable2 l dC dI cI cZ cQ a min tri_19 bes_19 wkd_19 cos rst bst_19 top str gho ghs pto cro pla wal fal tel gai day mar few doo y19_4 i r_wkd_19 r_top r_str r_gho r_ghs r_cro r_pla r_fal r_gai r_day r_mar (by omega) (by omega) (by omega) (by omega)) (cwV 2 hts gX3_seek_X3_walkable rfl rfl rfl (by decide +kernel) ⟨Nat.le_of_ble_eq_true rfl, Nat.le_of_ble_eq_true rfl⟩) hP hK hN [0, 1, 2, 3, 4, 5, 6, 7, 8, 9, 10, 11, 12, 13, 14, 15, 16, 17, 18, 19, 20] rfl 0 3 rfl rfl rfl hl.1 rfl (Nat.le_of_ble_eq_true rfl) dX3_seek_30 ⟨Nat.le_of_ble_eq_true rfl, Nat.le_of_ble_eq_true rfl⟩ (fun r19 h20 => ?_)
            have h20 : ((((r19 = 1) ∧ (wkb (cos y19_4.toNatClampNeg) (min i.toNatClampNeg))) ∨ ((r19 = 0) ∧ (¬ wkb (cos y19_4.toNatClampNeg) (min i.toNatClampNeg))))) := h20
            rcases h20 with (⟨rfl, h20_a0⟩ | ⟨rfl, h20_a0⟩)
            · refine lv_if_eq (tgt := 120) hx hb dX3_seek_33 (by decide) (fun c9 => absurd c9 (by decide)) (fun _ => ?_)
              refine lv_aload_n hx hb dX3_seek_36 rfl (lv_at hl 0 rfl) ?_
              refine va_get (D := (dC, dI)) (ci := 3) (v := .ref (a 20)) (C := RX3) (T := TX3) (N := 9) hx hb hts inX3 hown hK hP 0 rfl rfl 5 (by decide) lf21 (fun _ h9 => h9) rfl dX3_seek_37 ?_
              refine lv_iload hx hb dX3_seek_40 (lv_at hl 4 rfl) ?_
              have b21 : vp_in y19_4 8 := inC rfl (by omega) (by omega)
              refine va_iald hx hb hK hP 4 0 rfl rfl b21 dX3_seek_42 ?_
              have g22 : 0 ≤ (wkd_19 y19_4.toNatClampNeg).toInt ∧ (wkd_19 y19_4.toNatClampNeg).toInt ≤ 15 := rg_at r_wkd_19 b21
              refine lv_topi (fun x23 ex23 => ?_)
              have ix23 : x23.toInt = (wkd_19 y19_4.toNatClampNeg).toInt := by rw [ex23]
              refine lv_istore (lv' := [(5, .int x23), (0, .ref (a 16)), (1, .int i), (2, .int n), (3, .int al), (4, .int y19_4)]) hx hb dX3_seek_43 hl (by decide) rfl (fun ls hl => ?_)
              refine lv_iload hx hb dX3_seek_45 (lv_at hl 0 rfl) ?_
              refine lv_iconst (v := 1) hx hb dX3_seek_47 (by decide) ?_
              refine lv_iload_n hx hb dX3_seek_48 rfl (lv_at hl 2 rfl) ?_
              refine lv_ishl hx hb dX3_seek_49 ?_
              have f24 : 1 ≤ ((1 : Int32) <<< (i &&& 31)).toInt ∧ ((1 : Int32) <<< (i &&& 31)).toInt ≤ 8 := shl1 rfl (by omega) 3 (by omega) (by decide)
              refine lv_ior hx hb dX3_seek_50 ?_
              have f25 : 0 ≤ (x23 ||| ((1 : Int32) <<< (i &&& 31))).toInt ∧ (x23 ||| ((1 : Int32) <<< (i &&& 31))).toInt ≤ 15 := orB rfl rfl 4 (by omega) (by omega) (by omega) (by omega) (by decide)
              refine lv_topi (fun x26 ex26 => ?_)
              have ix26 : x26.toInt = (x23 ||| ((1 : Int32) <<< (i &&& 31))).toInt := by rw [ex26]
              refine lv_istore (lv' := [(6, .int x26), (5, .int x23), (0, .ref (a 16)), (1, .int i), (2, .int n), (3, .int al), (4, .int y19_4)]) hx hb dX3_seek_51 hl (by decide) rfl (fun ls hl => ?_)
              have wal_ := skA_rg q5 q4 r_wkd
              have wsk := sk_eq q5 i19_2
              have wlt := wd_lt wsk.2.2.1 r_wkd_19 (q := y19_4.toNatClampNeg) (n := n.toInt.toNat) (by rw [clC (x := y19_4) rfl]; omega) (by omega) (by omega)
              refine lv_aload_n hx hb dX3_seek_53 rfl (lv_at hl 2 rfl) ?_
              refine va_get (D := (dC, dI)) (ci := 3) (v := .ref (a 22)) (C := RX3) (T := TX3) (N := 9) hx hb hts inX3 hown hK hP 0 rfl rfl 7 (by decide) lf27 (fun _ h9 => h9) rfl dX3_seek_54 ?_
              refine lv_iload hx hb dX3_seek_57 (lv_at hl 6 rfl) ?_
              refine lv_bipush (v := 16) hx hb dX3_seek_59 (by decide) ?_
              refine lv_imul hx hb dX3_seek_61 ?_
              have f27 : (y19_4 * 16).toInt = (y19_4.toInt) * (16) := mulC rfl (show (16 : Int32).toInt = 16 from rfl) (by omega) (by omega)
              refine lv_iload hx hb dX3_seek_62 (lv_at hl 0 rfl) ?_
              refine lv_iadd hx hb dX3_seek_64 ?_
              have f28 : ((y19_4 * 16) + x26).toInt = ((y19_4.toInt) * (16)) + (x26.toInt) := addC f27 rfl (by omega) (by omega)
              have b29 : vp_in ((y19_4 * 16) + x26) 128 := inC f28 (by omega) (by omega)
              refine va_iald hx hb hK hP 6 0 rfl rfl b29 dX3_seek_65 ?_
              refine lv_aload_n hx hb dX3_seek_66 rfl (lv_at hl 2 rfl) ?_
              refine va_get (D := (dC, dI)) (ci := 3) (v := .ref (a 22)) (C := RX3) (T := TX3) (N := 9) hx hb hts inX3 hown hK hP 0 rfl rfl 7 (by decide) lf27 (fun _ h9 => h9) rfl dX3_seek_67 ?_
              refine lv_iload hx hb dX3_seek_70 (lv_at hl 6 rfl) ?_
              refine lv_bipush (v := 16) hx hb dX3_seek_72 (by decide) ?_
              refine lv_imul hx hb dX3_seek_74 ?_
              have f30 : (y19_4 * 16).toInt = (y19_4.toInt) * (16) := mulC rfl (show (16 : Int32).toInt = 16 from rfl) (by omega) (by omega)
              refine lv_iload hx hb dX3_seek_75 (lv_at hl 1 rfl) ?_
              refine lv_iadd hx hb dX3_seek_77 ?_
              have f31 : ((y19_4 * 16) + x23).toInt = ((y19_4.toInt) * (16)) + (x23.toInt) := addC f30 rfl (by omega) (by omega)
              have b32 : vp_in ((y19_4 * 16) + x23) 128 := inC f31 (by omega) (by omega)
              refine va_iald hx hb hK hP 6 0 rfl rfl b32 dX3_seek_78 ?_
              have wl5 : x23.toInt.toNat < 2 ^ n.toInt.toNat := by have e : x23.toInt = (wkd_19 y19_4.toNatClampNeg).toInt := (by omega); rw [e]; exact wlt
              have wl6 : x26.toInt.toNat < 2 ^ n.toInt.toNat := or_lt wl5 (by assumption) (by omega) (by omega) (by omega) (by omega)
              have wr5 := rs_rg q4 (x := (y19_4 * 16) + x23) (y := y19_4) (w := x23) (by omega) (by omega) (by omega) (by omega) wl5
              have wr6 := rs_rg q4 (x := (y19_4 * 16) + x26) (y := y19_4) (w := x26) (by omega) (by omega) (by omega) (by omega) wl6
              refine lv_isub hx hb dX3_seek_79 ?_
              have f33 : ((rst ((y19_4 * 16) + x26).toNatClampNeg) - (rst ((y19_4 * 16) + x23).toNatClampNeg)).toInt = ((rst ((y19_4 * 16) + x26).toNatClampNeg).toInt) - ((rst ((y19_4 * 16) + x23).toNatClampNeg).toInt) := subC rfl rfl (by omega) (by omega)
              refine lv_topi (fun x34 ex34 => ?_)
              have ix34 : x34.toInt = ((rst ((y19_4 * 16) + x26).toNatClampNeg).toInt) - ((rst ((y19_4 * 16) + x23).toNatClampNeg).toInt) := by rw [ex34]; exact f33
              refine lv_istore (lv' := [(7, .int x34), (6, .int x26), (5, .int x23), (0, .ref (a 16)), (1, .int i), (2, .int n), (3, .int al), (4, .int y19_4)]) hx hb dX3_seek_80 hl (by decide) rfl (fun ls hl => ?_)
              have wch : x34.toInt = (rst (16 * y19_4.toInt.toNat + x26.toInt.toNat)).toInt - (rst (16 * y19_4.toInt.toNat + x23.toInt.toNat)).toInt := by rw [← wr6.2.2, ← wr5.2.2]; omega
              refine lv_aload_n hx hb dX3_seek_82 rfl (lv_at hl 3 rfl) ?_
              refine va_get (D := (dC, dI)) (ci := 3) (v := .ref (a 18)) (C := RX3) (T := TX3) (N := 9) hx hb hts inX3 hown hK hP 0 rfl rfl 3 (by decide) lf15 (fun _ h9 => h9) rfl dX3_seek_83 ?_
              refine lv_iload_n hx hb dX3_seek_86 rfl (lv_at hl 4 rfl) ?_
              refine lv_iload hx hb dX3_seek_87 (lv_at hl 7 rfl) ?_
              have b35 : vp_in i 4 := inC rfl (by omega) (by omega)
              refine va_iast hx hb hK hP hD hS 2 0 rfl rfl b35 dX3_seek_89 (fun H locs hP hD hS => ?_)
              obtain ⟨tri_u36, etri_u36⟩ : ∃ f : Nat → Int32, f = upd tri_19 i.toNatClampNeg y19_4 := ⟨_, rfl⟩
              have hP : va_P (dC, dI) vwCl (wPln cI cZ cQ a min tri_u36 bes_19 wkd_19 cos rst bst_19 top str gho ghs pto cro pla wal fal tel gai day mar few doo) H := by rw [etri_u36]; exact hP
              have hD : va_D A (wPln cI cZ cQ a min tri_u36 bes_19 wkd_19 cos rst bst_19 top str gho ghs pto cro pla wal fal tel gai day mar few doo) := by rw [etri_u36]; exact hD
              refine lv_aload_n hx hb dX3_seek_90 rfl (lv_at hl 3 rfl) ?_
              refine va_get (D := (dC, dI)) (ci := 3) (v := .ref (a 20)) (C := RX3) (T := TX3) (N := 9) hx hb hts inX3 hown hK hP 0 rfl rfl 5 (by decide) lf21 (fun _ h9 => h9) rfl dX3_seek_91 ?_
              refine lv_iload hx hb dX3_seek_94 (lv_at hl 7 rfl) ?_
              refine lv_iload hx hb dX3_seek_96 (lv_at hl 1 rfl) ?_
              have b37 : vp_in y19_4 8 := inC rfl (by omega) (by omega)
              have g38 : rg 8 (0) (15) (upd wkd_19 y19_4.toNatClampNeg x26) := rg_upd r_wkd_19 rfl (by omega) (by omega)
              refine va_iast hx hb hK hP hD hS 4 0 rfl rfl b37 dX3_seek_98 (fun H locs hP hD hS => ?_)
              obtain ⟨wkd_u39, ewkd_u39⟩ : ∃ f : Nat → Int32, f = upd wkd_19 y19_4.toNatClampNeg x26 := ⟨_, rfl⟩
              have rwkd_u39 : rg 8 (0) (15) wkd_u39 := by rw [ewkd_u39]; exact g38
              have hP : va_P (dC, dI) vwCl (wPln cI cZ cQ a min tri_u36 bes_19 wkd_u39 cos rst bst_19 top str gho ghs pto cro pla wal fal tel gai day mar few doo) H := by rw [ewkd_u39]; exact hP
              have hD : va_D A (wPln cI cZ cQ a min tri_u36 bes_19 wkd_u39 cos rst bst_19 top str gho ghs pto cro pla wal fal tel gai day mar few doo) := by rw [ewkd_u39]; exact hD
              refine lv_aload_n hx hb dX3_seek_99 rfl (lv_at hl 3 rfl) ?_
              refine lv_iload_n hx hb dX3_seek_100 rfl (lv_at hl 4 rfl) ?_
              refine lv_iconst (v := 1) hx hb dX3_seek_101 (by decide) ?_
              refine lv_iadd hx hb dX3_seek_102 ?_
              have f40 : (i + 1).toInt = (i.toInt) + (1) := addC rfl (show (1 : Int32).toInt = 1 from rfl) (by omega) (by omega)
              refine lv_iload_n hx hb dX3_seek_103 rfl (lv_at hl 5 rfl) ?_
              refine lv_iload_n hx hb dX3_seek_104 rfl (lv_at hl 6 rfl) ?_
              refine lv_iload hx hb dX3_seek_105 (lv_at hl 0 rfl) ?_
              refine lv_iadd hx hb dX3_seek_107 ?_
              have f41 : (al + x34).toInt = (al.toInt) + (x34.toInt) := addC rfl rfl (by omega) (by omega)
              refine wvV (As := [.int (i + 1), .int n, .int (al + x34)]) (rest := []) (wr := []) (w2 := (fun u : US => (wPln cI cZ cQ a min (u.1 0) (u.1 1) (u.1 2) cos rst (u.1 3 0) top str gho ghs pto cro pla wal fal tel gai day mar few doo))) ⟨hx, hb, hml, hown, hts⟩ (k_X3_seek2_1 l dC dI cI cZ cQ a min tri_u36 bes_19 wkd_u39 cos rst bst_19 top str gho ghs pto cro pla wal fal tel gai day mar few doo _ (i + 1) n (al + x34) rwkd_u39 r_top r_str r_gho r_ghs r_cro r_pla r_fal r_gai r_day r_mar (by omega) (by omega) (by omega) (by omega) (by exact q4) (by exact sk_y q5 q4 i19_2 r_wkd_19 (by assumption) (by assumption) (by assumption) (by assumption) (by assumption) ⟨by omega, by omega⟩ (by omega) (by omega) (by omega) wch (by omega) (by omega)) (by exact pb_e i19_3 (at_d i19_2 (by assumption) (by omega) (by omega) (by omega) (by omega)))) (cwV 3 hts gX3_seek_X3_seek rfl rfl rfl (by decide +kernel) ⟨Nat.le_of_ble_eq_true rfl, Nat.le_of_ble_eq_true rfl⟩) hP hD hS hA hK hN [0, 1, 2, 3, 4, 5, 6, 7, 8, 9, 10, 11, 12, 13, 14, 15, 16, 17, 18, 19, 20] [] [0, 1, 2, 3, 4, 5, 6, 7, 8, 9, 10, 11, 12, 13, 14, 15, 16, 17, 18, 19, 20] rfl rfl (by decide) (by decide) (by decide) (fun _ => rfl) (by decide) 0 3 rfl rfl rfl hl.1 rfl (Nat.le_of_ble_eq_true rfl) dX3_seek_108 ⟨Nat.le_of_ble_eq_true rfl, Nat.le_of_ble_eq_true rfl⟩ (fun u44 H locs h43 hP hD hS => ?_)
              obtain ⟨tri_c45, etri_c45⟩ : ∃ f : Nat → Int32, f = (u44.1 0) := ⟨_, rfl⟩
              obtain ⟨bes_c46, ebes_c46⟩ : ∃ f : Nat → Int32, f = (u44.1 1) := ⟨_, rfl⟩
              obtain ⟨wkd_c47, ewkd_c47⟩ : ∃ f : Nat → Int32, f = (u44.1 2) := ⟨_, rfl⟩
              obtain ⟨bst_c48, ebst_c48⟩ : ∃ f : Int32, f = (u44.1 3 0) := ⟨_, rfl⟩
              have hP : va_P (dC, dI) vwCl (wPln cI cZ cQ a min tri_c45 bes_c46 wkd_c47 cos rst bst_c48 top str gho ghs pto cro pla wal fal tel gai day mar few doo) H := by rw [etri_c45, ebes_c46, ewkd_c47, ebst_c48]; exact hP
              have hD : va_D A (wPln cI cZ cQ a min tri_c45 bes_c46 wkd_c47 cos rst bst_c48 top str gho ghs pto cro pla wal fal tel gai day mar few doo) := by rw [etri_c45, ebes_c46, ewkd_c47, ebst_c48]; exact hD
              have h43 : (ksI (i + 1).toInt tri_u36 wkd_u39 tri_c45 wkd_c47) ∧ (pbI (okC cos min n.toInt.toNat) (vlC mar fal top str tel gai.toInt n.toInt.toNat) n.toInt.toNat (toN tri_u36 n.toInt.toNat (i + 1).toInt) bst_c48.toInt bes_c46) ∧ (rg 8 (0) (15) wkd_c47) := by (try rw [etri_c45]); (try rw [ebes_c46]); (try rw [ewkd_c47]); (try rw [ebst_c48]); exact h43
              obtain ⟨h43_0, h43_1, h43_2⟩ := h43
              refine lv_aload_n hx hb dX3_seek_111 rfl (lv_at hl 3 rfl) ?_
              refine va_get (D := (dC, dI)) (ci := 3) (v := .ref (a 20)) (C := RX3) (T := TX3) (N := 9) hx hb hts inX3 hown hK hP 0 rfl rfl 5 (by decide) lf21 (fun _ h9 => h9) rfl dX3_seek_112 ?_
              refine lv_iload hx hb dX3_seek_115 (lv_at hl 7 rfl) ?_
              refine lv_iload hx hb dX3_seek_117 (lv_at hl 2 rfl) ?_
              have b49 : vp_in y19_4 8 := inC rfl (by omega) (by omega)
              have g50 : rg 8 (0) (15) (upd wkd_c47 y19_4.toNatClampNeg x23) := rg_upd h43_2 rfl (by omega) (by omega)
              refine va_iast hx hb hK hP hD hS 4 0 rfl rfl b49 dX3_seek_119 (fun H locs hP hD hS => ?_)
              obtain ⟨wkd_u51, ewkd_u51⟩ : ∃ f : Nat → Int32, f = upd wkd_c47 y19_4.toNatClampNeg x23 := ⟨_, rfl⟩
              have rwkd_u51 : rg 8 (0) (15) wkd_u51 := by rw [ewkd_u51]; exact g50
              have hP : va_P (dC, dI) vwCl (wPln cI cZ cQ a min tri_c45 bes_c46 wkd_u51 cos rst bst_c48 top str gho ghs pto cro pla wal fal tel gai day mar few doo) H := by rw [ewkd_u51]; exact hP
              have hD : va_D A (wPln cI cZ cQ a min tri_c45 bes_c46 wkd_u51 cos rst bst_c48 top str gho ghs pto cro pla wal fal tel gai day mar few doo) := by rw [ewkd_u51]; exact hD
              obtain ⟨z52, ez52⟩ : ∃ y : Int32, y = y19_4 + 1 := ⟨_, rfl⟩
              have iz52 : z52.toInt = y19_4.toInt + 1 := by rw [ez52]; exact addC rfl rfl (by omega) (by omega)
              refine lv_iinc (v := z52) (lv' := [(4, .int z52), (7, .int x34), (6, .int x26), (5, .int x23), (0, .ref (a 16)), (1, .int i), (2, .int n), (3, .int al)]) hx hb dX3_seek_120 hl (k := 7) rfl (by rw [ez52]; rfl) (by decide) rfl (fun ls hl => ?_)
              refine lv_goto (tgt := 19) hx hb dX3_seek_123 (by decide) ?_
              exact ih19 z52 tri_c45 bes_c46 wkd_u51 bst_c48 _ _ _ rwkd_u51 (by omega) (by omega) (by (first | exact ks_y i19_2 (by assumption) (by assumption) (by assumption) (by assumption) (by assumption) (by omega) (by omega) | exact i19_2 | exact ks_0)) (by (first | exact pb_e (by assumption) (at_u i19_2 (by assumption) (by omega) (by omega) (by omega) (by omega) (by omega)).symm | exact pb_no (y := y19_4) i19_3 q5 i19_2 (by assumption) (by omega) (by omega) (by omega) (by omega) | exact pb_e q6 (at_0 (by omega) (by omega) rfl))) (by omega) hP hD hS (lv_sub hl [4, 5, 6, 7, 0] rfl)
            · refine lv_if_eq (tgt := 120) hx hb dX3_seek_33 (by decide) (fun _ => ?_) (fun c9 => absurd (by decide) c9)
              obtain ⟨z53, ez53⟩ : ∃ y : Int32, y = y19_4 + 1 := ⟨_, rfl⟩
              have iz53 : z53.toInt = y19_4.toInt + 1 := by rw [ez53]; exact addC rfl rfl (by omega) (by omega)
              refine lv_iinc (v := z53) (lv' := [(4, .int z53), (0, .ref (a 16)), (1, .int i), (2, .int n), (3, .int al)]) hx hb dX3_seek_120 hl (k := 4) rfl (by rw [ez53]; rfl) (by decide) rfl (fun ls hl => ?_)
              refine lv_goto (tgt := 19) hx hb dX3_seek_123 (by decide) ?_
              exact ih19 z53 tri_19 bes_19 wkd_19 bst_19 _ _ _ r_wkd_19 (by omega) (by omega) (by (first | exact ks_y i19_2 (by assumption) (by assumption) (by assumption) (by assumption) (by assumption) (by omega) (by omega) | exact i19_2 | exact ks_0)) (by (first | exact pb_e (by assumption) (at_u i19_2 (by assumption) (by omega) (by omega) (by omega) (by omega) (by omega)).symm | exact pb_no (y := y19_4) i19_3 q5 i19_2 (by assumption) (by omega) (by omega) (by omega) (by omega) | exact pb_e q6 (at_0 (by omega) (by omega) rfl))) (by omega) hP hD hS (lv_sub hl [1, 2, 3, 4, 0] rfl)
      have kc54 : (0 : Int32).toInt = 0 := rfl
      exact L19 _ 0 tri bes wkd bst _ _ _ r_wkd (by omega) (by omega) (by (first | exact ks_y i19_2 (by assumption) (by assumption) (by assumption) (by assumption) (by assumption) (by omega) (by omega) | exact i19_2 | exact ks_0)) (by (first | exact pb_e (by assumption) (at_u i19_2 (by assumption) (by omega) (by omega) (by omega) (by omega) (by omega)).symm | exact pb_no (y := y19_4) i19_3 q5 i19_2 (by assumption) (by omega) (by omega) (by omega) (by omega) | exact pb_e q6 (at_0 (by omega) (by omega) rfl))) (Nat.lt_succ_self _) hP hD hS (lv_sub hl [1, 2, 3, 4, 0] rfl)
    · have dc7 : 4 ≤ i.toInt := nltC rfl (show (4 : Int32).toInt = 4 from rfl) c7
      exfalso
      omega
set_option maxHeartbeats 4000000 in
set_option maxRecDepth 100000 in
theorem k_X3_seek2_3 (l : Launch) (dC : Nat → ClassId) (dI : Nat → Nat → Nat) (cI cZ cQ : ClassId) (a : Nat → Nat) (min : Nat → Int32) (tri : Nat → Int32) (bes : Nat → Int32) (wkd : Nat → Int32) (cos : Nat → Int32) (rst : Nat → Int32) (bst : Int32) (top : Nat → Int32) (str : Nat → Int32) (gho : Nat → Int32) (ghs : Nat → Int32) (pto : Nat → Int32) (cro : Nat → Int32) (pla : Nat → Int32) (wal : Nat → Int32) (fal : Nat → Int32) (tel : Int32) (gai : Int32) (day : Int32) (mar : Nat → Int32) (few : Nat → Int32) (doo : Int32) (sz : Nat) (i : Int32) (n : Int32) (al : Int32) (r_wkd : rg 8 (0) (15) wkd) (r_top : rg 48 (-1) (23) top) (r_str : rg 48 (0) (100) str) (r_gho : rg 48 (-1) (23) gho) (r_ghs : rg 48 (0) (100) ghs) (r_cro : rg 48 (0) (6) cro) (r_pla : rg 24 (-1) (47) pla) (r_fal : rg 11 (0) (30) fal) (r_gai : 0 ≤ gai.toInt ∧ gai.toInt ≤ 100) (r_day : 0 ≤ day.toInt ∧ day.toInt ≤ 400) (r_mar : rg 24 (0) (255) mar) (q0 : 1 ≤ i.toInt) (q1 : i.toInt ≤ 4) (q2 : 1 ≤ n.toInt) (q3 : n.toInt ≤ 4) (q4 : rsI rst mar fal top str tel gai.toInt n.toInt.toNat) (q5 : skI cos min rst n.toInt.toNat i.toInt al.toInt tri wkd) (q6 : pbI (okC cos min n.toInt.toNat) (vlC mar fal top str tel gai.toInt n.toInt.toNat) n.toInt.toNat (atN tri n.toInt.toNat i.toInt) bst.toInt bes) : KV l yX3_seek wsX3_seek { frames := 5, cells := 0, slots := 0, locals := 142 } (dC, dI) (TY cI cZ cQ) (wPln cI cZ cQ a min tri bes wkd cos rst bst top str gho ghs pto cro pla wal fal tel gai day mar few doo) [.ref (a 16), .int i, .int n, .int al] sz 0 0 (fun (u : US) => (ksI i.toInt tri wkd (u.1 0) (u.1 2)) ∧ (pbI (okC cos min n.toInt.toNat) (vlC mar fal top str tel gai.toInt n.toInt.toNat) n.toInt.toNat (toN tri n.toInt.toNat i.toInt) (u.1 3 0).toInt (u.1 1)) ∧ (rg 8 (0) (15) (u.1 2))) (fun u : US => (wPln cI cZ cQ a min (u.1 0) (u.1 1) (u.1 2) cos rst (u.1 3 0) top str gho ghs pto cro pla wal fal tel gai day mar few doo)) := by
  refine Met.ofW (cc := cX3_seek) (maxL := 8) (ret := none) (by decide) rfl ?_
  intro p e s m args below meth c s₁ B hml hv
  obtain ⟨rfl, hsz, hP, hK, hD0, hN⟩ := hv
  have hx := B.exec
  have hb := B.bytes
  have hr := B.returns
  have hts := atoms_spec (ws := wsX3_seek) B.pre
  have hown : s.vm.findClass RX3 = some m.cls := findClass_of_methodNamed B.named
  have hlocks := B.notSynchronized
  have lf15 := hts (.fieldLink RX3 15 "PalaceOfRooms$Planner" "trial" "[I") (List.mem_cons_of_mem _ (List.mem_append_left _ (List.mem_of_getElem? (i := 2) rfl)))
  have inX3 : ∀ w ∈ wsX30, w ∈ wsX3_seek := fun w h => List.mem_cons_of_mem _ (List.mem_append_right _ h)
  have lf21 := hts (.fieldLink RX3 21 "PalaceOfRooms$Planner" "walkedDays" "[I") (List.mem_cons_of_mem _ (List.mem_append_left _ (List.mem_of_getElem? (i := 0) rfl)))
  have lf27 := hts (.fieldLink RX3 27 "PalaceOfRooms$Planner" "roomStrength" "[I") (List.mem_cons_of_mem _ (List.mem_append_left _ (List.mem_of_getElem? (i := 1) rfl)))
  subst hsz
  have hD := hD0.self (sz := s.heap.size)
  generalize hAe : va_A (wPln cI cZ cQ a min tri bes wkd cos rst bst top str gho ghs pto cro pla wal fal tel gai day mar few doo) s.heap.size = A at hD ⊢
  have hA : ∀ q : Nat, s.heap.size ≤ q → A q := fun q h => by rw [← hAe]; exact Or.inr h
  have hS : va_S A s.heap s.heap [] := va_S.rf
  have hl := lv_entry ([.ref (a 16), .int i, .int n, .int al]) (n := 8) (Nat.le_of_ble_eq_true rfl)
  rw [lg_entry_eq]
  generalize (lg_sl ([.ref (a 16), .int i, .int n, .int al]) ++ List.replicate (8 - (lg_sl ([.ref (a 16), .int i, .int n, .int al])).length) Slot.unset).toArray = ls at hl ⊢
  have hl : lv_has ls 8 [(0, .ref (a 16)), (1, .int i), (2, .int n), (3, .int al)] := hl
  refine lv_iload_n hx hb dX3_seek_0 rfl (lv_at hl 1 rfl) ?_
  refine lv_iload_n hx hb dX3_seek_1 rfl (lv_at hl 2 rfl) ?_
  refine lv_icmp_ge (tgt := 10) hx hb dX3_seek_2 (by decide) (fun c1 => ?_) (fun c1 => ?_)
  · have dc1 : n.toInt ≤ i.toInt := leC rfl rfl c1
    refine lv_aload_n hx hb dX3_seek_10 rfl (lv_at hl 0 rfl) ?_
    refine lv_iload_n hx hb dX3_seek_11 rfl (lv_at hl 3 rfl) ?_
    refine wvV (As := [.int al]) (rest := []) (wr := []) (w2 := (fun u : US => (wPln cI cZ cQ a min tri (u.1 1) wkd cos rst (u.1 0 0) top str gho ghs pto cro pla wal fal tel gai day mar few doo))) ⟨hx, hb, hml, hown, hts⟩ (k_X3_keepIfStronger2 l dC dI cI cZ cQ a min tri bes wkd cos rst bst top str gho ghs pto cro pla wal fal tel gai day mar few doo _ al r_wkd r_top r_str r_gho r_ghs r_cro r_pla r_fal r_gai r_day r_mar) (cwV 1 hts gX3_seek_X3_keepIfStronger rfl rfl rfl (by decide +kernel) ⟨Nat.le_of_ble_eq_true rfl, Nat.le_of_ble_eq_true rfl⟩) hP hD hS hA hK hN [0, 1, 2, 3, 4, 5, 6, 7, 8, 9, 10, 11, 12, 13, 14, 15, 16, 17, 18, 19, 20] [] [0, 1, 2, 3, 4, 5, 6, 7, 8, 9, 10, 11, 12, 13, 14, 15, 16, 17, 18, 19, 20] rfl rfl (by decide) (by decide) (by decide) (fun _ => rfl) (by decide) 0 3 rfl rfl rfl hl.1 rfl (Nat.le_of_ble_eq_true rfl) dX3_seek_12 ⟨Nat.le_of_ble_eq_true rfl, Nat.le_of_ble_eq_true rfl⟩ (fun u4 H locs h3 hP hD hS => ?_)
    obtain ⟨bst_c5, ebst_c5⟩ : ∃ f : Int32, f = (u4.1 0 0) := ⟨_, rfl⟩
    obtain ⟨bes_c6, ebes_c6⟩ : ∃ f : Nat → Int32, f = (u4.1 1) := ⟨_, rfl⟩
    have hP : va_P (dC, dI) vwCl (wPln cI cZ cQ a min tri bes_c6 wkd cos rst bst_c5 top str gho ghs pto cro pla wal fal tel gai day mar few doo) H := by rw [ebst_c5, ebes_c6]; exact hP
    have hD : va_D A (wPln cI cZ cQ a min tri bes_c6 wkd cos rst bst_c5 top str gho ghs pto cro pla wal fal tel gai day mar few doo) := by rw [ebst_c5, ebes_c6]; exact hD
    have h3 : ((bst.toInt < al.toInt → bst_c5 = al ∧ ∀ j : Nat, j < 4 → bes_c6 j = tri j) ∧ (al.toInt ≤ bst.toInt → bst_c5 = bst ∧ bes_c6 = bes)) := by (try rw [ebst_c5]); (try rw [ebes_c6]); exact h3
    have h3_0 := h3
    exact W.vret hx hb hr (fun tq ht hW => ⟨⟨(uS [tri, bes_c6, wkd, (fun _ => bst_c5)] 0 (fun _ => 0)), rfl, ⟨(show ksI i.toInt tri wkd tri wkd from by (first | exact ks_0 | exact ks_8 i19_2 (by assumption) (by assumption) (by omega) (by omega))), (show pbI (okC cos min n.toInt.toNat) (vlC mar fal top str tel gai.toInt n.toInt.toNat) n.toInt.toNat (toN tri n.toInt.toNat i.toInt) bst_c5.toInt bes_c6 from by (first | exact sk_leaf q6 q5 q4 r_wkd (by omega) (by assumption) | exact pb_e (by assumption) (to_8 i19_2 (by assumption) (by omega) (by omega) (by omega)))), r_wkd⟩, by rw [ht]; exact hP, hD⟩, hS.F ht⟩) hS.2.2 dX3_seek_15
  · have dc1 : i.toInt < n.toInt := nleC rfl rfl c1
    refine lv_iload_n hx hb dX3_seek_5 rfl (lv_at hl 1 rfl) ?_
    refine lv_iconst (v := 4) hx hb dX3_seek_6 (by decide) ?_
    refine lv_icmp_lt (tgt := 16) hx hb dX3_seek_7 (by decide) (fun c7 => ?_) (fun c7 => ?_)
    · have dc7 : i.toInt < 4 := ltC rfl (show (4 : Int32).toInt = 4 from rfl) c7
      refine lv_iconst (v := 0) hx hb dX3_seek_16 (by decide) ?_
      refine lv_istore (lv' := [(4, .int 0), (0, .ref (a 16)), (1, .int i), (2, .int n), (3, .int al)]) hx hb dX3_seek_17 hl (by decide) rfl (fun ls hl => ?_)
      have L19 : ∀ (nn : Nat) (y19_4 : Int32) (tri_19 : Nat → Int32) (bes_19 : Nat → Int32) (wkd_19 : Nat → Int32) (bst_19 : Int32) (H : Heap) (locs : List Loc) (ls : Array Slot), (rg 8 (0) (15) wkd_19) → (0 ≤ (y19_4.toInt)) → ((y19_4.toInt) ≤ 8) → (ksI i.toInt tri wkd tri_19 wkd_19) → (pbI (okC cos min n.toInt.toNat) (vlC mar fal top str tel gai.toInt n.toInt.toNat) n.toInt.toNat (atY tri n.toInt.toNat i.toInt (y19_4.toInt)) bst_19.toInt bes_19) → (8 - (y19_4.toInt)).toNat < nn → va_P (dC, dI) vwCl (wPln cI cZ cQ a min tri_19 bes_19 wkd_19 cos rst bst_19 top str gho ghs pto cro pla wal fal tel gai day mar few doo) H → va_D A (wPln cI cZ cQ a min tri_19 bes_19 wkd_19 cos rst bst_19 top str gho ghs pto cro pla wal fal tel gai day mar few doo) → va_S A s.heap H locs → lv_has ls 8 [(0, .ref (a 16)), (1, .int i), (2, .int n), (3, .int al), (4, .int y19_4)] → W p l e (headSpec wsX3_seek { frames := 5, cells := 0, slots := 0, locals := 142 }).room s m ([.ref (a 16), .int i, .int n, .int al] : List Value).toArray below meth c H locs 0 0 (MQ below (va_Qv (fun (u : US) => (ksI i.toInt tri wkd (u.1 0) (u.1 2)) ∧ (pbI (okC cos min n.toInt.toNat) (vlC mar fal top str tel gai.toInt n.toInt.toNat) n.toInt.toNat (toN tri n.toInt.toNat i.toInt) (u.1 3 0).toInt (u.1 1)) ∧ (rg 8 (0) (15) (u.1 2))) (Bw (dC, dI) A (fun u : US => (wPln cI cZ cQ a min (u.1 0) (u.1 1) (u.1 2) cos rst (u.1 3 0) top str gho ghs pto cro pla wal fal tel gai day mar few doo))) A) ([.ref (a 16), .int i, .int n, .int al] : List Value).toArray s 0 0 A) (F0 m 19 ls []) := by
        intro nn
        induction nn with
        | zero =>
          intro y19_4 tri_19 bes_19 wkd_19 bst_19 H locs ls r_wkd_19 i19_0 i19_1 i19_2 i19_3 hm19
          exact absurd hm19 (Nat.not_lt_zero _)
        | succ nn ih19 =>
          intro y19_4 tri_19 bes_19 wkd_19 bst_19 H locs ls r_wkd_19 i19_0 i19_1 i19_2 i19_3 hm19 hP hD hS hl
          refine lv_iload hx hb dX3_seek_19 (lv_at hl 4 rfl) ?_
          refine lv_bipush (v := 8) hx hb dX3_seek_21 (by decide) ?_
          refine lv_icmp_ge (tgt := 126) hx hb dX3_seek_23 (by decide) (fun c8 => ?_) (fun c8 => ?_)
          · have dc8 : 8 ≤ y19_4.toInt := leC (show (8 : Int32).toInt = 8 from rfl) rfl c8
            refine lv_aload_n hx hb dX3_seek_126 rfl (lv_at hl 0 rfl) ?_
            refine va_get (D := (dC, dI)) (ci := 3) (v := .ref (a 18)) (C := RX3) (T := TX3) (N := 9) hx hb hts inX3 hown hK hP 0 rfl rfl 3 (by decide) lf15 (fun _ h9 => h9) rfl dX3_seek_127 ?_
            refine lv_iload_n hx hb dX3_seek_130 rfl (lv_at hl 1 rfl) ?_
            refine lv_bipush (v := 8) hx hb dX3_seek_131 (by decide) ?_
            have b9 : vp_in i 4 := inC rfl (by omega) (by omega)
            refine va_iast hx hb hK hP hD hS 2 0 rfl rfl b9 dX3_seek_133 (fun H locs hP hD hS => ?_)
            obtain ⟨tri_u10, etri_u10⟩ : ∃ f : Nat → Int32, f = upd tri_19 i.toNatClampNeg 8 := ⟨_, rfl⟩
            have hP : va_P (dC, dI) vwCl (wPln cI cZ cQ a min tri_u10 bes_19 wkd_19 cos rst bst_19 top str gho ghs pto cro pla wal fal tel gai day mar few doo) H := by rw [etri_u10]; exact hP
            have hD : va_D A (wPln cI cZ cQ a min tri_u10 bes_19 wkd_19 cos rst bst_19 top str gho ghs pto cro pla wal fal tel gai day mar few doo) := by rw [etri_u10]; exact hD
            refine lv_aload_n hx hb dX3_seek_134 rfl (lv_at hl 0 rfl) ?_
            refine lv_iload_n hx hb dX3_seek_135 rfl (lv_at hl 1 rfl) ?_
            refine lv_iconst (v := 1) hx hb dX3_seek_136 (by decide) ?_
            refine lv_iadd hx hb dX3_seek_137 ?_
            have f11 : (i + 1).toInt = (i.toInt) + (1) := addC rfl (show (1 : Int32).toInt = 1 from rfl) (by omega) (by omega)
            refine lv_iload_n hx hb dX3_seek_138 rfl (lv_at hl 2 rfl) ?_
            refine lv_iload_n hx hb dX3_seek_139 rfl (lv_at hl 3 rfl) ?_
            refine wvV (As := [.int (i + 1), .int n, .int al]) (rest := []) (wr := []) (w2 := (fun u : US => (wPln cI cZ cQ a min (u.1 0) (u.1 1) (u.1 2) cos rst (u.1 3 0) top str gho ghs pto cro pla wal fal tel gai day mar few doo))) ⟨hx, hb, hml, hown, hts⟩ (k_X3_seek2_2 l dC dI cI cZ cQ a min tri_u10 bes_19 wkd_19 cos rst bst_19 top str gho ghs pto cro pla wal fal tel gai day mar few doo _ (i + 1) n al r_wkd_19 r_top r_str r_gho r_ghs r_cro r_pla r_fal r_gai r_day r_mar (by omega) (by omega) (by omega) (by omega) (by exact q4) (by exact sk_8 q5 i19_2 (by assumption) (by omega) (by omega)) (by exact pb_e i19_3 (at_8 i19_2 (by assumption) (by omega) (by omega) (by omega) (by omega)))) (cwV 3 hts gX3_seek_X3_seek rfl rfl rfl (by decide +kernel) ⟨Nat.le_of_ble_eq_true rfl, Nat.le_of_ble_eq_true rfl⟩) hP hD hS hA hK hN [0, 1, 2, 3, 4, 5, 6, 7, 8, 9, 10, 11, 12, 13, 14, 15, 16, 17, 18, 19, 20] [] [0, 1, 2, 3, 4, 5, 6, 7, 8, 9, 10, 11, 12, 13, 14, 15, 16, 17, 18, 19, 20] rfl rfl (by decide) (by decide) (by decide) (fun _ => rfl) (by decide) 0 3 rfl rfl rfl hl.1 rfl (Nat.le_of_ble_eq_true rfl) dX3_seek_140 ⟨Nat.le_of_ble_eq_true rfl, Nat.le_of_ble_eq_true rfl⟩ (fun u14 H locs h13 hP hD hS => ?_)
            obtain ⟨tri_c15, etri_c15⟩ : ∃ f : Nat → Int32, f = (u14.1 0) := ⟨_, rfl⟩
            obtain ⟨bes_c16, ebes_c16⟩ : ∃ f : Nat → Int32, f = (u14.1 1) := ⟨_, rfl⟩
            obtain ⟨wkd_c17, ewkd_c17⟩ : ∃ f : Nat → Int32, f = (u14.1 2) := ⟨_, rfl⟩
            obtain ⟨bst_c18, ebst_c18⟩ : ∃ f : Int32, f = (u14.1 3 0) := ⟨_, rfl⟩
            have hP : va_P (dC, dI) vwCl (wPln cI cZ cQ a min tri_c15 bes_c16 wkd_c17 cos rst bst_c18 top str gho ghs pto cro pla wal fal tel gai day mar few doo) H := by rw [etri_c15, ebes_c16, ewkd_c17, ebst_c18]; exact hP
            have hD : va_D A (wPln cI cZ cQ a min tri_c15 bes_c16 wkd_c17 cos rst bst_c18 top str gho ghs pto cro pla wal fal tel gai day mar few doo) := by rw [etri_c15, ebes_c16, ewkd_c17, ebst_c18]; exact hD
            have h13 : (ksI (i + 1).toInt tri_u10 wkd_19 tri_c15 wkd_c17) ∧ (pbI (okC cos min n.toInt.toNat) (vlC mar fal top str tel gai.toInt n.toInt.toNat) n.toInt.toNat (toN tri_u10 n.toInt.toNat (i + 1).toInt) bst_c18.toInt bes_c16) ∧ (rg 8 (0) (15) wkd_c17) := by (try rw [etri_c15]); (try rw [ebes_c16]); (try rw [ewkd_c17]); (try rw [ebst_c18]); exact h13
            obtain ⟨h13_0, h13_1, h13_2⟩ := h13
            exact W.vret hx hb hr (fun tq ht hW => ⟨⟨(uS [tri_c15, bes_c16, wkd_c17, (fun _ => bst_c18)] 0 (fun _ => 0)), rfl, ⟨(show ksI i.toInt tri wkd tri_c15 wkd_c17 from by (first | exact ks_0 | exact ks_8 i19_2 (by assumption) (by assumption) (by omega) (by omega))), (show pbI (okC cos min n.toInt.toNat) (vlC mar fal top str tel gai.toInt n.toInt.toNat) n.toInt.toNat (toN tri n.toInt.toNat i.toInt) bst_c18.toInt bes_c16 from by (first | exact sk_leaf q6 q5 q4 r_wkd (by omega) (by assumption) | exact pb_e (by assumption) (to_8 i19_2 (by assumption) (by omega) (by omega) (by omega)))), h13_2⟩, by rw [ht]; exact hP, hD⟩, hS.F ht⟩) hS.2.2 dX3_seek_143
          · have dc8 : y19_4.toInt < 8 := nleC (show (8 : Int32).toInt = 8 from rfl) rfl c8
            refine lv_aload_n hx hb dX3_seek_26 rfl (lv_at hl 0 rfl) ?_
            refine lv_iload hx hb dX3_seek_27 (lv_at hl 4 rfl) ?_
            refine lv_iload_n hx hb dX3_seek_29 rfl (lv_at hl 1 rfl) ?_
            refine rdV (As := [.int y19_4, .int i]) (rest := []) ⟨hx, hb, hml, hown, hts⟩ (k_X3_walkable2 l dC dI cI cZ cQ a min tri_19 bes_19 wkd_19 cos rst bst_19 top str gho ghs pto cro pla wal fal tel gai day mar few doo y19_4 i r_wkd_19 r_top r_str r_gho r_ghs r_cro r_pla r_fal r_gai r_day r_mar (by omega) (by omega) (by omega) (by omega)) (cwV 2 hts gX3_seek_X3_walkable rfl rfl rfl (by decide +kernel) ⟨Nat.le_of_ble_eq_true rfl, Nat.le_of_ble_eq_true rfl⟩) hP hK hN [0, 1, 2, 3, 4, 5, 6, 7, 8, 9, 10, 11, 12, 13, 14, 15, 16, 17, 18, 19, 20] rfl 0 3 rfl rfl rfl hl.1 rfl (Nat.le_of_ble_eq_true rfl) dX3_seek_30 ⟨Nat.le_of_ble_eq_true rfl, Nat.le_of_ble_eq_true rfl⟩ (fun r19 h20 => ?_)
            have h20 : ((((r19 = 1) ∧ (wkb (cos y19_4.toNatClampNeg) (min i.toNatClampNeg))) ∨ ((r19 = 0) ∧ (¬ wkb (cos y19_4.toNatClampNeg) (min i.toNatClampNeg))))) := h20
            rcases h20 with (⟨rfl, h20_a0⟩ | ⟨rfl, h20_a0⟩)
            · refine lv_if_eq (tgt := 120) hx hb dX3_seek_33 (by decide) (fun c9 => absurd c9 (by decide)) (fun _ => ?_)
              refine lv_aload_n hx hb dX3_seek_36 rfl (lv_at hl 0 rfl) ?_
              refine va_get (D := (dC, dI)) (ci := 3) (v := .ref (a 20)) (C := RX3) (T := TX3) (N := 9) hx hb hts inX3 hown hK hP 0 rfl rfl 5 (by decide) lf21 (fun _ h9 => h9) rfl dX3_seek_37 ?_
              refine lv_iload hx hb dX3_seek_40 (lv_at hl 4 rfl) ?_
              have b21 : vp_in y19_4 8 := inC rfl (by omega) (by omega)
              refine va_iald hx hb hK hP 4 0 rfl rfl b21 dX3_seek_42 ?_
              have g22 : 0 ≤ (wkd_19 y19_4.toNatClampNeg).toInt ∧ (wkd_19 y19_4.toNatClampNeg).toInt ≤ 15 := rg_at r_wkd_19 b21
              refine lv_topi (fun x23 ex23 => ?_)
              have ix23 : x23.toInt = (wkd_19 y19_4.toNatClampNeg).toInt := by rw [ex23]
              refine lv_istore (lv' := [(5, .int x23), (0, .ref (a 16)), (1, .int i), (2, .int n), (3, .int al), (4, .int y19_4)]) hx hb dX3_seek_43 hl (by decide) rfl (fun ls hl => ?_)
              refine lv_iload hx hb dX3_seek_45 (lv_at hl 0 rfl) ?_
              refine lv_iconst (v := 1) hx hb dX3_seek_47 (by decide) ?_
              refine lv_iload_n hx hb dX3_seek_48 rfl (lv_at hl 2 rfl) ?_
              refine lv_ishl hx hb dX3_seek_49 ?_
              have f24 : 1 ≤ ((1 : Int32) <<< (i &&& 31)).toInt ∧ ((1 : Int32) <<< (i &&& 31)).toInt ≤ 8 := shl1 rfl (by omega) 3 (by omega) (by decide)
              refine lv_ior hx hb dX3_seek_50 ?_
              have f25 : 0 ≤ (x23 ||| ((1 : Int32) <<< (i &&& 31))).toInt ∧ (x23 ||| ((1 : Int32) <<< (i &&& 31))).toInt ≤ 15 := orB rfl rfl 4 (by omega) (by omega) (by omega) (by omega) (by decide)
              refine lv_topi (fun x26 ex26 => ?_)
              have ix26 : x26.toInt = (x23 ||| ((1 : Int32) <<< (i &&& 31))).toInt := by rw [ex26]
              refine lv_istore (lv' := [(6, .int x26), (5, .int x23), (0, .ref (a 16)), (1, .int i), (2, .int n), (3, .int al), (4, .int y19_4)]) hx hb dX3_seek_51 hl (by decide) rfl (fun ls hl => ?_)
              have wal_ := skA_rg q5 q4 r_wkd
              have wsk := sk_eq q5 i19_2
              have wlt := wd_lt wsk.2.2.1 r_wkd_19 (q := y19_4.toNatClampNeg) (n := n.toInt.toNat) (by rw [clC (x := y19_4) rfl]; omega) (by omega) (by omega)
              refine lv_aload_n hx hb dX3_seek_53 rfl (lv_at hl 2 rfl) ?_
              refine va_get (D := (dC, dI)) (ci := 3) (v := .ref (a 22)) (C := RX3) (T := TX3) (N := 9) hx hb hts inX3 hown hK hP 0 rfl rfl 7 (by decide) lf27 (fun _ h9 => h9) rfl dX3_seek_54 ?_
              refine lv_iload hx hb dX3_seek_57 (lv_at hl 6 rfl) ?_
              refine lv_bipush (v := 16) hx hb dX3_seek_59 (by decide) ?_
              refine lv_imul hx hb dX3_seek_61 ?_
              have f27 : (y19_4 * 16).toInt = (y19_4.toInt) * (16) := mulC rfl (show (16 : Int32).toInt = 16 from rfl) (by omega) (by omega)
              refine lv_iload hx hb dX3_seek_62 (lv_at hl 0 rfl) ?_
              refine lv_iadd hx hb dX3_seek_64 ?_
              have f28 : ((y19_4 * 16) + x26).toInt = ((y19_4.toInt) * (16)) + (x26.toInt) := addC f27 rfl (by omega) (by omega)
              have b29 : vp_in ((y19_4 * 16) + x26) 128 := inC f28 (by omega) (by omega)
              refine va_iald hx hb hK hP 6 0 rfl rfl b29 dX3_seek_65 ?_
              refine lv_aload_n hx hb dX3_seek_66 rfl (lv_at hl 2 rfl) ?_
              refine va_get (D := (dC, dI)) (ci := 3) (v := .ref (a 22)) (C := RX3) (T := TX3) (N := 9) hx hb hts inX3 hown hK hP 0 rfl rfl 7 (by decide) lf27 (fun _ h9 => h9) rfl dX3_seek_67 ?_
              refine lv_iload hx hb dX3_seek_70 (lv_at hl 6 rfl) ?_
              refine lv_bipush (v := 16) hx hb dX3_seek_72 (by decide) ?_
              refine lv_imul hx hb dX3_seek_74 ?_
              have f30 : (y19_4 * 16).toInt = (y19_4.toInt) * (16) := mulC rfl (show (16 : Int32).toInt = 16 from rfl) (by omega) (by omega)
              refine lv_iload hx hb dX3_seek_75 (lv_at hl 1 rfl) ?_
              refine lv_iadd hx hb dX3_seek_77 ?_
              have f31 : ((y19_4 * 16) + x23).toInt = ((y19_4.toInt) * (16)) + (x23.toInt) := addC f30 rfl (by omega) (by omega)
              have b32 : vp_in ((y19_4 * 16) + x23) 128 := inC f31 (by omega) (by omega)
              refine va_iald hx hb hK hP 6 0 rfl rfl b32 dX3_seek_78 ?_
              have wl5 : x23.toInt.toNat < 2 ^ n.toInt.toNat := by have e : x23.toInt = (wkd_19 y19_4.toNatClampNeg).toInt := (by omega); rw [e]; exact wlt
              have wl6 : x26.toInt.toNat < 2 ^ n.toInt.toNat := or_lt wl5 (by assumption) (by omega) (by omega) (by omega) (by omega)
              have wr5 := rs_rg q4 (x := (y19_4 * 16) + x23) (y := y19_4) (w := x23) (by omega) (by omega) (by omega) (by omega) wl5
              have wr6 := rs_rg q4 (x := (y19_4 * 16) + x26) (y := y19_4) (w := x26) (by omega) (by omega) (by omega) (by omega) wl6
              refine lv_isub hx hb dX3_seek_79 ?_
              have f33 : ((rst ((y19_4 * 16) + x26).toNatClampNeg) - (rst ((y19_4 * 16) + x23).toNatClampNeg)).toInt = ((rst ((y19_4 * 16) + x26).toNatClampNeg).toInt) - ((rst ((y19_4 * 16) + x23).toNatClampNeg).toInt) := subC rfl rfl (by omega) (by omega)
              refine lv_topi (fun x34 ex34 => ?_)
              have ix34 : x34.toInt = ((rst ((y19_4 * 16) + x26).toNatClampNeg).toInt) - ((rst ((y19_4 * 16) + x23).toNatClampNeg).toInt) := by rw [ex34]; exact f33
              refine lv_istore (lv' := [(7, .int x34), (6, .int x26), (5, .int x23), (0, .ref (a 16)), (1, .int i), (2, .int n), (3, .int al), (4, .int y19_4)]) hx hb dX3_seek_80 hl (by decide) rfl (fun ls hl => ?_)
              have wch : x34.toInt = (rst (16 * y19_4.toInt.toNat + x26.toInt.toNat)).toInt - (rst (16 * y19_4.toInt.toNat + x23.toInt.toNat)).toInt := by rw [← wr6.2.2, ← wr5.2.2]; omega
              refine lv_aload_n hx hb dX3_seek_82 rfl (lv_at hl 3 rfl) ?_
              refine va_get (D := (dC, dI)) (ci := 3) (v := .ref (a 18)) (C := RX3) (T := TX3) (N := 9) hx hb hts inX3 hown hK hP 0 rfl rfl 3 (by decide) lf15 (fun _ h9 => h9) rfl dX3_seek_83 ?_
              refine lv_iload_n hx hb dX3_seek_86 rfl (lv_at hl 4 rfl) ?_
              refine lv_iload hx hb dX3_seek_87 (lv_at hl 7 rfl) ?_
              have b35 : vp_in i 4 := inC rfl (by omega) (by omega)
              refine va_iast hx hb hK hP hD hS 2 0 rfl rfl b35 dX3_seek_89 (fun H locs hP hD hS => ?_)
              obtain ⟨tri_u36, etri_u36⟩ : ∃ f : Nat → Int32, f = upd tri_19 i.toNatClampNeg y19_4 := ⟨_, rfl⟩
              have hP : va_P (dC, dI) vwCl (wPln cI cZ cQ a min tri_u36 bes_19 wkd_19 cos rst bst_19 top str gho ghs pto cro pla wal fal tel gai day mar few doo) H := by rw [etri_u36]; exact hP
              have hD : va_D A (wPln cI cZ cQ a min tri_u36 bes_19 wkd_19 cos rst bst_19 top str gho ghs pto cro pla wal fal tel gai day mar few doo) := by rw [etri_u36]; exact hD
              refine lv_aload_n hx hb dX3_seek_90 rfl (lv_at hl 3 rfl) ?_
              refine va_get (D := (dC, dI)) (ci := 3) (v := .ref (a 20)) (C := RX3) (T := TX3) (N := 9) hx hb hts inX3 hown hK hP 0 rfl rfl 5 (by decide) lf21 (fun _ h9 => h9) rfl dX3_seek_91 ?_
              refine lv_iload hx hb dX3_seek_94 (lv_at hl 7 rfl) ?_
              refine lv_iload hx hb dX3_seek_96 (lv_at hl 1 rfl) ?_
              have b37 : vp_in y19_4 8 := inC rfl (by omega) (by omega)
              have g38 : rg 8 (0) (15) (upd wkd_19 y19_4.toNatClampNeg x26) := rg_upd r_wkd_19 rfl (by omega) (by omega)
              refine va_iast hx hb hK hP hD hS 4 0 rfl rfl b37 dX3_seek_98 (fun H locs hP hD hS => ?_)
              obtain ⟨wkd_u39, ewkd_u39⟩ : ∃ f : Nat → Int32, f = upd wkd_19 y19_4.toNatClampNeg x26 := ⟨_, rfl⟩
              have rwkd_u39 : rg 8 (0) (15) wkd_u39 := by rw [ewkd_u39]; exact g38
              have hP : va_P (dC, dI) vwCl (wPln cI cZ cQ a min tri_u36 bes_19 wkd_u39 cos rst bst_19 top str gho ghs pto cro pla wal fal tel gai day mar few doo) H := by rw [ewkd_u39]; exact hP
              have hD : va_D A (wPln cI cZ cQ a min tri_u36 bes_19 wkd_u39 cos rst bst_19 top str gho ghs pto cro pla wal fal tel gai day mar few doo) := by rw [ewkd_u39]; exact hD
              refine lv_aload_n hx hb dX3_seek_99 rfl (lv_at hl 3 rfl) ?_
              refine lv_iload_n hx hb dX3_seek_100 rfl (lv_at hl 4 rfl) ?_
              refine lv_iconst (v := 1) hx hb dX3_seek_101 (by decide) ?_
              refine lv_iadd hx hb dX3_seek_102 ?_
              have f40 : (i + 1).toInt = (i.toInt) + (1) := addC rfl (show (1 : Int32).toInt = 1 from rfl) (by omega) (by omega)
              refine lv_iload_n hx hb dX3_seek_103 rfl (lv_at hl 5 rfl) ?_
              refine lv_iload_n hx hb dX3_seek_104 rfl (lv_at hl 6 rfl) ?_
              refine lv_iload hx hb dX3_seek_105 (lv_at hl 0 rfl) ?_
              refine lv_iadd hx hb dX3_seek_107 ?_
              have f41 : (al + x34).toInt = (al.toInt) + (x34.toInt) := addC rfl rfl (by omega) (by omega)
              refine wvV (As := [.int (i + 1), .int n, .int (al + x34)]) (rest := []) (wr := []) (w2 := (fun u : US => (wPln cI cZ cQ a min (u.1 0) (u.1 1) (u.1 2) cos rst (u.1 3 0) top str gho ghs pto cro pla wal fal tel gai day mar few doo))) ⟨hx, hb, hml, hown, hts⟩ (k_X3_seek2_2 l dC dI cI cZ cQ a min tri_u36 bes_19 wkd_u39 cos rst bst_19 top str gho ghs pto cro pla wal fal tel gai day mar few doo _ (i + 1) n (al + x34) rwkd_u39 r_top r_str r_gho r_ghs r_cro r_pla r_fal r_gai r_day r_mar (by omega) (by omega) (by omega) (by omega) (by exact q4) (by exact sk_y q5 q4 i19_2 r_wkd_19 (by assumption) (by assumption) (by assumption) (by assumption) (by assumption) ⟨by omega, by omega⟩ (by omega) (by omega) (by omega) wch (by omega) (by omega)) (by exact pb_e i19_3 (at_d i19_2 (by assumption) (by omega) (by omega) (by omega) (by omega)))) (cwV 3 hts gX3_seek_X3_seek rfl rfl rfl (by decide +kernel) ⟨Nat.le_of_ble_eq_true rfl, Nat.le_of_ble_eq_true rfl⟩) hP hD hS hA hK hN [0, 1, 2, 3, 4, 5, 6, 7, 8, 9, 10, 11, 12, 13, 14, 15, 16, 17, 18, 19, 20] [] [0, 1, 2, 3, 4, 5, 6, 7, 8, 9, 10, 11, 12, 13, 14, 15, 16, 17, 18, 19, 20] rfl rfl (by decide) (by decide) (by decide) (fun _ => rfl) (by decide) 0 3 rfl rfl rfl hl.1 rfl (Nat.le_of_ble_eq_true rfl) dX3_seek_108 ⟨Nat.le_of_ble_eq_true rfl, Nat.le_of_ble_eq_true rfl⟩ (fun u44 H locs h43 hP hD hS => ?_)
              obtain ⟨tri_c45, etri_c45⟩ : ∃ f : Nat → Int32, f = (u44.1 0) := ⟨_, rfl⟩
              obtain ⟨bes_c46, ebes_c46⟩ : ∃ f : Nat → Int32, f = (u44.1 1) := ⟨_, rfl⟩
              obtain ⟨wkd_c47, ewkd_c47⟩ : ∃ f : Nat → Int32, f = (u44.1 2) := ⟨_, rfl⟩
              obtain ⟨bst_c48, ebst_c48⟩ : ∃ f : Int32, f = (u44.1 3 0) := ⟨_, rfl⟩
              have hP : va_P (dC, dI) vwCl (wPln cI cZ cQ a min tri_c45 bes_c46 wkd_c47 cos rst bst_c48 top str gho ghs pto cro pla wal fal tel gai day mar few doo) H := by rw [etri_c45, ebes_c46, ewkd_c47, ebst_c48]; exact hP
              have hD : va_D A (wPln cI cZ cQ a min tri_c45 bes_c46 wkd_c47 cos rst bst_c48 top str gho ghs pto cro pla wal fal tel gai day mar few doo) := by rw [etri_c45, ebes_c46, ewkd_c47, ebst_c48]; exact hD
              have h43 : (ksI (i + 1).toInt tri_u36 wkd_u39 tri_c45 wkd_c47) ∧ (pbI (okC cos min n.toInt.toNat) (vlC mar fal top str tel gai.toInt n.toInt.toNat) n.toInt.toNat (toN tri_u36 n.toInt.toNat (i + 1).toInt) bst_c48.toInt bes_c46) ∧ (rg 8 (0) (15) wkd_c47) := by (try rw [etri_c45]); (try rw [ebes_c46]); (try rw [ewkd_c47]); (try rw [ebst_c48]); exact h43
              obtain ⟨h43_0, h43_1, h43_2⟩ := h43
              refine lv_aload_n hx hb dX3_seek_111 rfl (lv_at hl 3 rfl) ?_
              refine va_get (D := (dC, dI)) (ci := 3) (v := .ref (a 20)) (C := RX3) (T := TX3) (N := 9) hx hb hts inX3 hown hK hP 0 rfl rfl 5 (by decide) lf21 (fun _ h9 => h9) rfl dX3_seek_112 ?_
              refine lv_iload hx hb dX3_seek_115 (lv_at hl 7 rfl) ?_
              refine lv_iload hx hb dX3_seek_117 (lv_at hl 2 rfl) ?_
              have b49 : vp_in y19_4 8 := inC rfl (by omega) (by omega)
              have g50 : rg 8 (0) (15) (upd wkd_c47 y19_4.toNatClampNeg x23) := rg_upd h43_2 rfl (by omega) (by omega)
              refine va_iast hx hb hK hP hD hS 4 0 rfl rfl b49 dX3_seek_119 (fun H locs hP hD hS => ?_)
              obtain ⟨wkd_u51, ewkd_u51⟩ : ∃ f : Nat → Int32, f = upd wkd_c47 y19_4.toNatClampNeg x23 := ⟨_, rfl⟩
              have rwkd_u51 : rg 8 (0) (15) wkd_u51 := by rw [ewkd_u51]; exact g50
              have hP : va_P (dC, dI) vwCl (wPln cI cZ cQ a min tri_c45 bes_c46 wkd_u51 cos rst bst_c48 top str gho ghs pto cro pla wal fal tel gai day mar few doo) H := by rw [ewkd_u51]; exact hP
              have hD : va_D A (wPln cI cZ cQ a min tri_c45 bes_c46 wkd_u51 cos rst bst_c48 top str gho ghs pto cro pla wal fal tel gai day mar few doo) := by rw [ewkd_u51]; exact hD
              obtain ⟨z52, ez52⟩ : ∃ y : Int32, y = y19_4 + 1 := ⟨_, rfl⟩
              have iz52 : z52.toInt = y19_4.toInt + 1 := by rw [ez52]; exact addC rfl rfl (by omega) (by omega)
              refine lv_iinc (v := z52) (lv' := [(4, .int z52), (7, .int x34), (6, .int x26), (5, .int x23), (0, .ref (a 16)), (1, .int i), (2, .int n), (3, .int al)]) hx hb dX3_seek_120 hl (k := 7) rfl (by rw [ez52]; rfl) (by decide) rfl (fun ls hl => ?_)
              refine lv_goto (tgt := 19) hx hb dX3_seek_123 (by decide) ?_
              exact ih19 z52 tri_c45 bes_c46 wkd_u51 bst_c48 _ _ _ rwkd_u51 (by omega) (by omega) (by (first | exact ks_y i19_2 (by assumption) (by assumption) (by assumption) (by assumption) (by assumption) (by omega) (by omega) | exact i19_2 | exact ks_0)) (by (first | exact pb_e (by assumption) (at_u i19_2 (by assumption) (by omega) (by omega) (by omega) (by omega) (by omega)).symm | exact pb_no (y := y19_4) i19_3 q5 i19_2 (by assumption) (by omega) (by omega) (by omega) (by omega) | exact pb_e q6 (at_0 (by omega) (by omega) rfl))) (by omega) hP hD hS (lv_sub hl [4, 5, 6, 7, 0] rfl)
            · refine lv_if_eq (tgt := 120) hx hb dX3_seek_33 (by decide) (fun _ => ?_) (fun c9 => absurd (by decide) c9)
              obtain ⟨z53, ez53⟩ : ∃ y : Int32, y = y19_4 + 1 := ⟨_, rfl⟩
              have iz53 : z53.toInt = y19_4.toInt + 1 := by rw [ez53]; exact addC rfl rfl (by omega) (by omega)
              refine lv_iinc (v := z53) (lv' := [(4, .int z53), (0, .ref (a 16)), (1, .int i), (2, .int n), (3, .int al)]) hx hb dX3_seek_120 hl (k := 4) rfl (by rw [ez53]; rfl) (by decide) rfl (fun ls hl => ?_)
              refine lv_goto (tgt := 19) hx hb dX3_seek_123 (by decide) ?_
              exact ih19 z53 tri_19 bes_19 wkd_19 bst_19 _ _ _ r_wkd_19 (by omega) (by omega) (by (first | exact ks_y i19_2 (by assumption) (by assumption) (by assumption) (by assumption) (by assumption) (by omega) (by omega) | exact i19_2 | exact ks_0)) (by (first | exact pb_e (by assumption) (at_u i19_2 (by assumption) (by omega) (by omega) (by omega) (by omega) (by omega)).symm | exact pb_no (y := y19_4) i19_3 q5 i19_2 (by assumption) (by omega) (by omega) (by omega) (by omega) | exact pb_e q6 (at_0 (by omega) (by omega) rfl))) (by omega) hP hD hS (lv_sub hl [1, 2, 3, 4, 0] rfl)
      have kc54 : (0 : Int32).toInt = 0 := rfl
      exact L19 _ 0 tri bes wkd bst _ _ _ r_wkd (by omega) (by omega) (by (first | exact ks_y i19_2 (by assumption) (by assumption) (by assumption) (by assumption) (by assumption) (by omega) (by omega) | exact i19_2 | exact ks_0)) (by (first | exact pb_e (by assumption) (at_u i19_2 (by assumption) (by omega) (by omega) (by omega) (by omega) (by omega)).symm | exact pb_no (y := y19_4) i19_3 q5 i19_2 (by assumption) (by omega) (by omega) (by omega) (by omega) | exact pb_e q6 (at_0 (by omega) (by omega) rfl))) (Nat.lt_succ_self _) hP hD hS (lv_sub hl [1, 2, 3, 4, 0] rfl)
    · have dc7 : 4 ≤ i.toInt := nltC rfl (show (4 : Int32).toInt = 4 from rfl) c7
      exfalso
      omega
set_option maxHeartbeats 4000000 in
set_option maxRecDepth 100000 in
theorem k_X3_seek2_4 (l : Launch) (dC : Nat → ClassId) (dI : Nat → Nat → Nat) (cI cZ cQ : ClassId) (a : Nat → Nat) (min : Nat → Int32) (tri : Nat → Int32) (bes : Nat → Int32) (wkd : Nat → Int32) (cos : Nat → Int32) (rst : Nat → Int32) (bst : Int32) (top : Nat → Int32) (str : Nat → Int32) (gho : Nat → Int32) (ghs : Nat → Int32) (pto : Nat → Int32) (cro : Nat → Int32) (pla : Nat → Int32) (wal : Nat → Int32) (fal : Nat → Int32) (tel : Int32) (gai : Int32) (day : Int32) (mar : Nat → Int32) (few : Nat → Int32) (doo : Int32) (sz : Nat) (i : Int32) (n : Int32) (al : Int32) (r_wkd : rg 8 (0) (15) wkd) (r_top : rg 48 (-1) (23) top) (r_str : rg 48 (0) (100) str) (r_gho : rg 48 (-1) (23) gho) (r_ghs : rg 48 (0) (100) ghs) (r_cro : rg 48 (0) (6) cro) (r_pla : rg 24 (-1) (47) pla) (r_fal : rg 11 (0) (30) fal) (r_gai : 0 ≤ gai.toInt ∧ gai.toInt ≤ 100) (r_day : 0 ≤ day.toInt ∧ day.toInt ≤ 400) (r_mar : rg 24 (0) (255) mar) (q0 : 0 ≤ i.toInt) (q1 : i.toInt ≤ 4) (q2 : 1 ≤ n.toInt) (q3 : n.toInt ≤ 4) (q4 : rsI rst mar fal top str tel gai.toInt n.toInt.toNat) (q5 : skI cos min rst n.toInt.toNat i.toInt al.toInt tri wkd) (q6 : pbI (okC cos min n.toInt.toNat) (vlC mar fal top str tel gai.toInt n.toInt.toNat) n.toInt.toNat (atN tri n.toInt.toNat i.toInt) bst.toInt bes) : KV l yX3_seek wsX3_seek { frames := 6, cells := 0, slots := 0, locals := 169 } (dC, dI) (TY cI cZ cQ) (wPln cI cZ cQ a min tri bes wkd cos rst bst top str gho ghs pto cro pla wal fal tel gai day mar few doo) [.ref (a 16), .int i, .int n, .int al] sz 0 0 (fun (u : US) => (ksI i.toInt tri wkd (u.1 0) (u.1 2)) ∧ (pbI (okC cos min n.toInt.toNat) (vlC mar fal top str tel gai.toInt n.toInt.toNat) n.toInt.toNat (toN tri n.toInt.toNat i.toInt) (u.1 3 0).toInt (u.1 1)) ∧ (rg 8 (0) (15) (u.1 2))) (fun u : US => (wPln cI cZ cQ a min (u.1 0) (u.1 1) (u.1 2) cos rst (u.1 3 0) top str gho ghs pto cro pla wal fal tel gai day mar few doo)) := by
  refine Met.ofW (cc := cX3_seek) (maxL := 8) (ret := none) (by decide) rfl ?_
  intro p e s m args below meth c s₁ B hml hv
  obtain ⟨rfl, hsz, hP, hK, hD0, hN⟩ := hv
  have hx := B.exec
  have hb := B.bytes
  have hr := B.returns
  have hts := atoms_spec (ws := wsX3_seek) B.pre
  have hown : s.vm.findClass RX3 = some m.cls := findClass_of_methodNamed B.named
  have hlocks := B.notSynchronized
  have lf15 := hts (.fieldLink RX3 15 "PalaceOfRooms$Planner" "trial" "[I") (List.mem_cons_of_mem _ (List.mem_append_left _ (List.mem_of_getElem? (i := 2) rfl)))
  have inX3 : ∀ w ∈ wsX30, w ∈ wsX3_seek := fun w h => List.mem_cons_of_mem _ (List.mem_append_right _ h)
  have lf21 := hts (.fieldLink RX3 21 "PalaceOfRooms$Planner" "walkedDays" "[I") (List.mem_cons_of_mem _ (List.mem_append_left _ (List.mem_of_getElem? (i := 0) rfl)))
  have lf27 := hts (.fieldLink RX3 27 "PalaceOfRooms$Planner" "roomStrength" "[I") (List.mem_cons_of_mem _ (List.mem_append_left _ (List.mem_of_getElem? (i := 1) rfl)))
  subst hsz
  have hD := hD0.self (sz := s.heap.size)
  generalize hAe : va_A (wPln cI cZ cQ a min tri bes wkd cos rst bst top str gho ghs pto cro pla wal fal tel gai day mar few doo) s.heap.size = A at hD ⊢
  have hA : ∀ q : Nat, s.heap.size ≤ q → A q := fun q h => by rw [← hAe]; exact Or.inr h
  have hS : va_S A s.heap s.heap [] := va_S.rf
  have hl := lv_entry ([.ref (a 16), .int i, .int n, .int al]) (n := 8) (Nat.le_of_ble_eq_true rfl)
  rw [lg_entry_eq]
  generalize (lg_sl ([.ref (a 16), .int i, .int n, .int al]) ++ List.replicate (8 - (lg_sl ([.ref (a 16), .int i, .int n, .int al])).length) Slot.unset).toArray = ls at hl ⊢
  have hl : lv_has ls 8 [(0, .ref (a 16)), (1, .int i), (2, .int n), (3, .int al)] := hl
  refine lv_iload_n hx hb dX3_seek_0 rfl (lv_at hl 1 rfl) ?_
  refine lv_iload_n hx hb dX3_seek_1 rfl (lv_at hl 2 rfl) ?_
  refine lv_icmp_ge (tgt := 10) hx hb dX3_seek_2 (by decide) (fun c1 => ?_) (fun c1 => ?_)
  · have dc1 : n.toInt ≤ i.toInt := leC rfl rfl c1
    refine lv_aload_n hx hb dX3_seek_10 rfl (lv_at hl 0 rfl) ?_
    refine lv_iload_n hx hb dX3_seek_11 rfl (lv_at hl 3 rfl) ?_
    refine wvV (As := [.int al]) (rest := []) (wr := []) (w2 := (fun u : US => (wPln cI cZ cQ a min tri (u.1 1) wkd cos rst (u.1 0 0) top str gho ghs pto cro pla wal fal tel gai day mar few doo))) ⟨hx, hb, hml, hown, hts⟩ (k_X3_keepIfStronger2 l dC dI cI cZ cQ a min tri bes wkd cos rst bst top str gho ghs pto cro pla wal fal tel gai day mar few doo _ al r_wkd r_top r_str r_gho r_ghs r_cro r_pla r_fal r_gai r_day r_mar) (cwV 1 hts gX3_seek_X3_keepIfStronger rfl rfl rfl (by decide +kernel) ⟨Nat.le_of_ble_eq_true rfl, Nat.le_of_ble_eq_true rfl⟩) hP hD hS hA hK hN [0, 1, 2, 3, 4, 5, 6, 7, 8, 9, 10, 11, 12, 13, 14, 15, 16, 17, 18, 19, 20] [] [0, 1, 2, 3, 4, 5, 6, 7, 8, 9, 10, 11, 12, 13, 14, 15, 16, 17, 18, 19, 20] rfl rfl (by decide) (by decide) (by decide) (fun _ => rfl) (by decide) 0 3 rfl rfl rfl hl.1 rfl (Nat.le_of_ble_eq_true rfl) dX3_seek_12 ⟨Nat.le_of_ble_eq_true rfl, Nat.le_of_ble_eq_true rfl⟩ (fun u4 H locs h3 hP hD hS => ?_)
    obtain ⟨bst_c5, ebst_c5⟩ : ∃ f : Int32, f = (u4.1 0 0) := ⟨_, rfl⟩
    obtain ⟨bes_c6, ebes_c6⟩ : ∃ f : Nat → Int32, f = (u4.1 1) := ⟨_, rfl⟩
    have hP : va_P (dC, dI) vwCl (wPln cI cZ cQ a min tri bes_c6 wkd cos rst bst_c5 top str gho ghs pto cro pla wal fal tel gai day mar few doo) H := by rw [ebst_c5, ebes_c6]; exact hP
    have hD : va_D A (wPln cI cZ cQ a min tri bes_c6 wkd cos rst bst_c5 top str gho ghs pto cro pla wal fal tel gai day mar few doo) := by rw [ebst_c5, ebes_c6]; exact hD
    have h3 : ((bst.toInt < al.toInt → bst_c5 = al ∧ ∀ j : Nat, j < 4 → bes_c6 j = tri j) ∧ (al.toInt ≤ bst.toInt → bst_c5 = bst ∧ bes_c6 = bes)) := by (try rw [ebst_c5]); (try rw [ebes_c6]); exact h3
    have h3_0 := h3
    exact W.vret hx hb hr (fun tq ht hW => ⟨⟨(uS [tri, bes_c6, wkd, (fun _ => bst_c5)] 0 (fun _ => 0)), rfl, ⟨(show ksI i.toInt tri wkd tri wkd from by (first | exact ks_0 | exact ks_8 i19_2 (by assumption) (by assumption) (by omega) (by omega))), (show pbI (okC cos min n.toInt.toNat) (vlC mar fal top str tel gai.toInt n.toInt.toNat) n.toInt.toNat (toN tri n.toInt.toNat i.toInt) bst_c5.toInt bes_c6 from by (first | exact sk_leaf q6 q5 q4 r_wkd (by omega) (by assumption) | exact pb_e (by assumption) (to_8 i19_2 (by assumption) (by omega) (by omega) (by omega)))), r_wkd⟩, by rw [ht]; exact hP, hD⟩, hS.F ht⟩) hS.2.2 dX3_seek_15
  · have dc1 : i.toInt < n.toInt := nleC rfl rfl c1
    refine lv_iload_n hx hb dX3_seek_5 rfl (lv_at hl 1 rfl) ?_
    refine lv_iconst (v := 4) hx hb dX3_seek_6 (by decide) ?_
    refine lv_icmp_lt (tgt := 16) hx hb dX3_seek_7 (by decide) (fun c7 => ?_) (fun c7 => ?_)
    · have dc7 : i.toInt < 4 := ltC rfl (show (4 : Int32).toInt = 4 from rfl) c7
      refine lv_iconst (v := 0) hx hb dX3_seek_16 (by decide) ?_
      refine lv_istore (lv' := [(4, .int 0), (0, .ref (a 16)), (1, .int i), (2, .int n), (3, .int al)]) hx hb dX3_seek_17 hl (by decide) rfl (fun ls hl => ?_)
      have L19 : ∀ (nn : Nat) (y19_4 : Int32) (tri_19 : Nat → Int32) (bes_19 : Nat → Int32) (wkd_19 : Nat → Int32) (bst_19 : Int32) (H : Heap) (locs : List Loc) (ls : Array Slot), (rg 8 (0) (15) wkd_19) → (0 ≤ (y19_4.toInt)) → ((y19_4.toInt) ≤ 8) → (ksI i.toInt tri wkd tri_19 wkd_19) → (pbI (okC cos min n.toInt.toNat) (vlC mar fal top str tel gai.toInt n.toInt.toNat) n.toInt.toNat (atY tri n.toInt.toNat i.toInt (y19_4.toInt)) bst_19.toInt bes_19) → (8 - (y19_4.toInt)).toNat < nn → va_P (dC, dI) vwCl (wPln cI cZ cQ a min tri_19 bes_19 wkd_19 cos rst bst_19 top str gho ghs pto cro pla wal fal tel gai day mar few doo) H → va_D A (wPln cI cZ cQ a min tri_19 bes_19 wkd_19 cos rst bst_19 top str gho ghs pto cro pla wal fal tel gai day mar few doo) → va_S A s.heap H locs → lv_has ls 8 [(0, .ref (a 16)), (1, .int i), (2, .int n), (3, .int al), (4, .int y19_4)] → W p l e (headSpec wsX3_seek { frames := 6, cells := 0, slots := 0, locals := 169 }).room s m ([.ref (a 16), .int i, .int n, .int al] : List Value).toArray below meth c H locs 0 0 (MQ below (va_Qv (fun (u : US) => (ksI i.toInt tri wkd (u.1 0) (u.1 2)) ∧ (pbI (okC cos min n.toInt.toNat) (vlC mar fal top str tel gai.toInt n.toInt.toNat) n.toInt.toNat (toN tri n.toInt.toNat i.toInt) (u.1 3 0).toInt (u.1 1)) ∧ (rg 8 (0) (15) (u.1 2))) (Bw (dC, dI) A (fun u : US => (wPln cI cZ cQ a min (u.1 0) (u.1 1) (u.1 2) cos rst (u.1 3 0) top str gho ghs pto cro pla wal fal tel gai day mar few doo))) A) ([.ref (a 16), .int i, .int n, .int al] : List Value).toArray s 0 0 A) (F0 m 19 ls []) := by
        intro nn
        induction nn with
        | zero =>
          intro y19_4 tri_19 bes_19 wkd_19 bst_19 H locs ls r_wkd_19 i19_0 i19_1 i19_2 i19_3 hm19
          exact absurd hm19 (Nat.not_lt_zero _)
        | succ nn ih19 =>
          intro y19_4 tri_19 bes_19 wkd_19 bst_19 H locs ls r_wkd_19 i19_0 i19_1 i19_2 i19_3 hm19 hP hD hS hl
          refine lv_iload hx hb dX3_seek_19 (lv_at hl 4 rfl) ?_
          refine lv_bipush (v := 8) hx hb dX3_seek_21 (by decide) ?_
          refine lv_icmp_ge (tgt := 126) hx hb dX3_seek_23 (by decide) (fun c8 => ?_) (fun c8 => ?_)
          · have dc8 : 8 ≤ y19_4.toInt := leC (show (8 : Int32).toInt = 8 from rfl) rfl c8
            refine lv_aload_n hx hb dX3_seek_126 rfl (lv_at hl 0 rfl) ?_
            refine va_get (D := (dC, dI)) (ci := 3) (v := .ref (a 18)) (C := RX3) (T := TX3) (N := 9) hx hb hts inX3 hown hK hP 0 rfl rfl 3 (by decide) lf15 (fun _ h9 => h9) rfl dX3_seek_127 ?_
            refine lv_iload_n hx hb dX3_seek_130 rfl (lv_at hl 1 rfl) ?_
            refine lv_bipush (v := 8) hx hb dX3_seek_131 (by decide) ?_
            have b9 : vp_in i 4 := inC rfl (by omega) (by omega)
            refine va_iast hx hb hK hP hD hS 2 0 rfl rfl b9 dX3_seek_133 (fun H locs hP hD hS => ?_)
            obtain ⟨tri_u10, etri_u10⟩ : ∃ f : Nat → Int32, f = upd tri_19 i.toNatClampNeg 8 := ⟨_, rfl⟩
            have hP : va_P (dC, dI) vwCl (wPln cI cZ cQ a min tri_u10 bes_19 wkd_19 cos rst bst_19 top str gho ghs pto cro pla wal fal tel gai day mar few doo) H := by rw [etri_u10]; exact hP
            have hD : va_D A (wPln cI cZ cQ a min tri_u10 bes_19 wkd_19 cos rst bst_19 top str gho ghs pto cro pla wal fal tel gai day mar few doo) := by rw [etri_u10]; exact hD
            refine lv_aload_n hx hb dX3_seek_134 rfl (lv_at hl 0 rfl) ?_
            refine lv_iload_n hx hb dX3_seek_135 rfl (lv_at hl 1 rfl) ?_
            refine lv_iconst (v := 1) hx hb dX3_seek_136 (by decide) ?_
            refine lv_iadd hx hb dX3_seek_137 ?_
            have f11 : (i + 1).toInt = (i.toInt) + (1) := addC rfl (show (1 : Int32).toInt = 1 from rfl) (by omega) (by omega)
            refine lv_iload_n hx hb dX3_seek_138 rfl (lv_at hl 2 rfl) ?_
            refine lv_iload_n hx hb dX3_seek_139 rfl (lv_at hl 3 rfl) ?_
            refine wvV (As := [.int (i + 1), .int n, .int al]) (rest := []) (wr := []) (w2 := (fun u : US => (wPln cI cZ cQ a min (u.1 0) (u.1 1) (u.1 2) cos rst (u.1 3 0) top str gho ghs pto cro pla wal fal tel gai day mar few doo))) ⟨hx, hb, hml, hown, hts⟩ (k_X3_seek2_3 l dC dI cI cZ cQ a min tri_u10 bes_19 wkd_19 cos rst bst_19 top str gho ghs pto cro pla wal fal tel gai day mar few doo _ (i + 1) n al r_wkd_19 r_top r_str r_gho r_ghs r_cro r_pla r_fal r_gai r_day r_mar (by omega) (by omega) (by omega) (by omega) (by exact q4) (by exact sk_8 q5 i19_2 (by assumption) (by omega) (by omega)) (by exact pb_e i19_3 (at_8 i19_2 (by assumption) (by omega) (by omega) (by omega) (by omega)))) (cwV 3 hts gX3_seek_X3_seek rfl rfl rfl (by decide +kernel) ⟨Nat.le_of_ble_eq_true rfl, Nat.le_of_ble_eq_true rfl⟩) hP hD hS hA hK hN [0, 1, 2, 3, 4, 5, 6, 7, 8, 9, 10, 11, 12, 13, 14, 15, 16, 17, 18, 19, 20] [] [0, 1, 2, 3, 4, 5, 6, 7, 8, 9, 10, 11, 12, 13, 14, 15, 16, 17, 18, 19, 20] rfl rfl (by decide) (by decide) (by decide) (fun _ => rfl) (by decide) 0 3 rfl rfl rfl hl.1 rfl (Nat.le_of_ble_eq_true rfl) dX3_seek_140 ⟨Nat.le_of_ble_eq_true rfl, Nat.le_of_ble_eq_true rfl⟩ (fun u14 H locs h13 hP hD hS => ?_)
            obtain ⟨tri_c15, etri_c15⟩ : ∃ f : Nat → Int32, f = (u14.1 0) := ⟨_, rfl⟩
            obtain ⟨bes_c16, ebes_c16⟩ : ∃ f : Nat → Int32, f = (u14.1 1) := ⟨_, rfl⟩
            obtain ⟨wkd_c17, ewkd_c17⟩ : ∃ f : Nat → Int32, f = (u14.1 2) := ⟨_, rfl⟩
            obtain ⟨bst_c18, ebst_c18⟩ : ∃ f : Int32, f = (u14.1 3 0) := ⟨_, rfl⟩
            have hP : va_P (dC, dI) vwCl (wPln cI cZ cQ a min tri_c15 bes_c16 wkd_c17 cos rst bst_c18 top str gho ghs pto cro pla wal fal tel gai day mar few doo) H := by rw [etri_c15, ebes_c16, ewkd_c17, ebst_c18]; exact hP
            have hD : va_D A (wPln cI cZ cQ a min tri_c15 bes_c16 wkd_c17 cos rst bst_c18 top str gho ghs pto cro pla wal fal tel gai day mar few doo) := by rw [etri_c15, ebes_c16, ewkd_c17, ebst_c18]; exact hD
            have h13 : (ksI (i + 1).toInt tri_u10 wkd_19 tri_c15 wkd_c17) ∧ (pbI (okC cos min n.toInt.toNat) (vlC mar fal top str tel gai.toInt n.toInt.toNat) n.toInt.toNat (toN tri_u10 n.toInt.toNat (i + 1).toInt) bst_c18.toInt bes_c16) ∧ (rg 8 (0) (15) wkd_c17) := by (try rw [etri_c15]); (try rw [ebes_c16]); (try rw [ewkd_c17]); (try rw [ebst_c18]); exact h13
            obtain ⟨h13_0, h13_1, h13_2⟩ := h13
            exact W.vret hx hb hr (fun tq ht hW => ⟨⟨(uS [tri_c15, bes_c16, wkd_c17, (fun _ => bst_c18)] 0 (fun _ => 0)), rfl, ⟨(show ksI i.toInt tri wkd tri_c15 wkd_c17 from by (first | exact ks_0 | exact ks_8 i19_2 (by assumption) (by assumption) (by omega) (by omega))), (show pbI (okC cos min n.toInt.toNat) (vlC mar fal top str tel gai.toInt n.toInt.toNat) n.toInt.toNat (toN tri n.toInt.toNat i.toInt) bst_c18.toInt bes_c16 from by (first | exact sk_leaf q6 q5 q4 r_wkd (by omega) (by assumption) | exact pb_e (by assumption) (to_8 i19_2 (by assumption) (by omega) (by omega) (by omega)))), h13_2⟩, by rw [ht]; exact hP, hD⟩, hS.F ht⟩) hS.2.2 dX3_seek_143
          · have dc8 : y19_4.toInt < 8 := nleC (show (8 : Int32).toInt = 8 from rfl) rfl c8
            refine lv_aload_n hx hb dX3_seek_26 rfl (lv_at hl 0 rfl) ?_
            refine lv_iload hx hb dX3_seek_27 (lv_at hl 4 rfl) ?_
            refine lv_iload_n hx hb dX3_seek_29 rfl (lv_at hl 1 rfl) ?_
            refine rdV (As := [.int y19_4, .int i]) (rest := []) ⟨hx, hb, hml, hown, hts⟩ (k_X3_walkable2 l dC dI cI cZ cQ a min tri_19 bes_19 wkd_19 cos rst bst_19 top str gho ghs pto cro pla wal fal tel gai day mar few doo y19_4 i r_wkd_19 r_top r_str r_gho r_ghs r_cro r_pla r_fal r_gai r_day r_mar (by omega) (by omega) (by omega) (by omega)) (cwV 2 hts gX3_seek_X3_walkable rfl rfl rfl (by decide +kernel) ⟨Nat.le_of_ble_eq_true rfl, Nat.le_of_ble_eq_true rfl⟩) hP hK hN [0, 1, 2, 3, 4, 5, 6, 7, 8, 9, 10, 11, 12, 13, 14, 15, 16, 17, 18, 19, 20] rfl 0 3 rfl rfl rfl hl.1 rfl (Nat.le_of_ble_eq_true rfl) dX3_seek_30 ⟨Nat.le_of_ble_eq_true rfl, Nat.le_of_ble_eq_true rfl⟩ (fun r19 h20 => ?_)
            have h20 : ((((r19 = 1) ∧ (wkb (cos y19_4.toNatClampNeg) (min i.toNatClampNeg))) ∨ ((r19 = 0) ∧ (¬ wkb (cos y19_4.toNatClampNeg) (min i.toNatClampNeg))))) := h20
            rcases h20 with (⟨rfl, h20_a0⟩ | ⟨rfl, h20_a0⟩)
            · refine lv_if_eq (tgt := 120) hx hb dX3_seek_33 (by decide) (fun c9 => absurd c9 (by decide)) (fun _ => ?_)
              refine lv_aload_n hx hb dX3_seek_36 rfl (lv_at hl 0 rfl) ?_
              refine va_get (D := (dC, dI)) (ci := 3) (v := .ref (a 20)) (C := RX3) (T := TX3) (N := 9) hx hb hts inX3 hown hK hP 0 rfl rfl 5 (by decide) lf21 (fun _ h9 => h9) rfl dX3_seek_37 ?_
              refine lv_iload hx hb dX3_seek_40 (lv_at hl 4 rfl) ?_
              have b21 : vp_in y19_4 8 := inC rfl (by omega) (by omega)
              refine va_iald hx hb hK hP 4 0 rfl rfl b21 dX3_seek_42 ?_
              have g22 : 0 ≤ (wkd_19 y19_4.toNatClampNeg).toInt ∧ (wkd_19 y19_4.toNatClampNeg).toInt ≤ 15 := rg_at r_wkd_19 b21
              refine lv_topi (fun x23 ex23 => ?_)
              have ix23 : x23.toInt = (wkd_19 y19_4.toNatClampNeg).toInt := by rw [ex23]
              refine lv_istore (lv' := [(5, .int x23), (0, .ref (a 16)), (1, .int i), (2, .int n), (3, .int al), (4, .int y19_4)]) hx hb dX3_seek_43 hl (by decide) rfl (fun ls hl => ?_)
              refine lv_iload hx hb dX3_seek_45 (lv_at hl 0 rfl) ?_
              refine lv_iconst (v := 1) hx hb dX3_seek_47 (by decide) ?_
              refine lv_iload_n hx hb dX3_seek_48 rfl (lv_at hl 2 rfl) ?_
              refine lv_ishl hx hb dX3_seek_49 ?_
              have f24 : 1 ≤ ((1 : Int32) <<< (i &&& 31)).toInt ∧ ((1 : Int32) <<< (i &&& 31)).toInt ≤ 8 := shl1 rfl (by omega) 3 (by omega) (by decide)
              refine lv_ior hx hb dX3_seek_50 ?_
              have f25 : 0 ≤ (x23 ||| ((1 : Int32) <<< (i &&& 31))).toInt ∧ (x23 ||| ((1 : Int32) <<< (i &&& 31))).toInt ≤ 15 := orB rfl rfl 4 (by omega) (by omega) (by omega) (by omega) (by decide)
              refine lv_topi (fun x26 ex26 => ?_)
              have ix26 : x26.toInt = (x23 ||| ((1 : Int32) <<< (i &&& 31))).toInt := by rw [ex26]
              refine lv_istore (lv' := [(6, .int x26), (5, .int x23), (0, .ref (a 16)), (1, .int i), (2, .int n), (3, .int al), (4, .int y19_4)]) hx hb dX3_seek_51 hl (by decide) rfl (fun ls hl => ?_)
              have wal_ := skA_rg q5 q4 r_wkd
              have wsk := sk_eq q5 i19_2
              have wlt := wd_lt wsk.2.2.1 r_wkd_19 (q := y19_4.toNatClampNeg) (n := n.toInt.toNat) (by rw [clC (x := y19_4) rfl]; omega) (by omega) (by omega)
              refine lv_aload_n hx hb dX3_seek_53 rfl (lv_at hl 2 rfl) ?_
              refine va_get (D := (dC, dI)) (ci := 3) (v := .ref (a 22)) (C := RX3) (T := TX3) (N := 9) hx hb hts inX3 hown hK hP 0 rfl rfl 7 (by decide) lf27 (fun _ h9 => h9) rfl dX3_seek_54 ?_
              refine lv_iload hx hb dX3_seek_57 (lv_at hl 6 rfl) ?_
              refine lv_bipush (v := 16) hx hb dX3_seek_59 (by decide) ?_
              refine lv_imul hx hb dX3_seek_61 ?_
              have f27 : (y19_4 * 16).toInt = (y19_4.toInt) * (16) := mulC rfl (show (16 : Int32).toInt = 16 from rfl) (by omega) (by omega)
              refine lv_iload hx hb dX3_seek_62 (lv_at hl 0 rfl) ?_
              refine lv_iadd hx hb dX3_seek_64 ?_
              have f28 : ((y19_4 * 16) + x26).toInt = ((y19_4.toInt) * (16)) + (x26.toInt) := addC f27 rfl (by omega) (by omega)
              have b29 : vp_in ((y19_4 * 16) + x26) 128 := inC f28 (by omega) (by omega)
              refine va_iald hx hb hK hP 6 0 rfl rfl b29 dX3_seek_65 ?_
              refine lv_aload_n hx hb dX3_seek_66 rfl (lv_at hl 2 rfl) ?_
              refine va_get (D := (dC, dI)) (ci := 3) (v := .ref (a 22)) (C := RX3) (T := TX3) (N := 9) hx hb hts inX3 hown hK hP 0 rfl rfl 7 (by decide) lf27 (fun _ h9 => h9) rfl dX3_seek_67 ?_
              refine lv_iload hx hb dX3_seek_70 (lv_at hl 6 rfl) ?_
              refine lv_bipush (v := 16) hx hb dX3_seek_72 (by decide) ?_
              refine lv_imul hx hb dX3_seek_74 ?_
              have f30 : (y19_4 * 16).toInt = (y19_4.toInt) * (16) := mulC rfl (show (16 : Int32).toInt = 16 from rfl) (by omega) (by omega)
              refine lv_iload hx hb dX3_seek_75 (lv_at hl 1 rfl) ?_
              refine lv_iadd hx hb dX3_seek_77 ?_
              have f31 : ((y19_4 * 16) + x23).toInt = ((y19_4.toInt) * (16)) + (x23.toInt) := addC f30 rfl (by omega) (by omega)
              have b32 : vp_in ((y19_4 * 16) + x23) 128 := inC f31 (by omega) (by omega)
              refine va_iald hx hb hK hP 6 0 rfl rfl b32 dX3_seek_78 ?_
              have wl5 : x23.toInt.toNat < 2 ^ n.toInt.toNat := by have e : x23.toInt = (wkd_19 y19_4.toNatClampNeg).toInt := (by omega); rw [e]; exact wlt
              have wl6 : x26.toInt.toNat < 2 ^ n.toInt.toNat := or_lt wl5 (by assumption) (by omega) (by omega) (by omega) (by omega)
              have wr5 := rs_rg q4 (x := (y19_4 * 16) + x23) (y := y19_4) (w := x23) (by omega) (by omega) (by omega) (by omega) wl5
              have wr6 := rs_rg q4 (x := (y19_4 * 16) + x26) (y := y19_4) (w := x26) (by omega) (by omega) (by omega) (by omega) wl6
              refine lv_isub hx hb dX3_seek_79 ?_
              have f33 : ((rst ((y19_4 * 16) + x26).toNatClampNeg) - (rst ((y19_4 * 16) + x23).toNatClampNeg)).toInt = ((rst ((y19_4 * 16) + x26).toNatClampNeg).toInt) - ((rst ((y19_4 * 16) + x23).toNatClampNeg).toInt) := subC rfl rfl (by omega) (by omega)
              refine lv_topi (fun x34 ex34 => ?_)
              have ix34 : x34.toInt = ((rst ((y19_4 * 16) + x26).toNatClampNeg).toInt) - ((rst ((y19_4 * 16) + x23).toNatClampNeg).toInt) := by rw [ex34]; exact f33
              refine lv_istore (lv' := [(7, .int x34), (6, .int x26), (5, .int x23), (0, .ref (a 16)), (1, .int i), (2, .int n), (3, .int al), (4, .int y19_4)]) hx hb dX3_seek_80 hl (by decide) rfl (fun ls hl => ?_)
              have wch : x34.toInt = (rst (16 * y19_4.toInt.toNat + x26.toInt.toNat)).toInt - (rst (16 * y19_4.toInt.toNat + x23.toInt.toNat)).toInt := by rw [← wr6.2.2, ← wr5.2.2]; omega
              refine lv_aload_n hx hb dX3_seek_82 rfl (lv_at hl 3 rfl) ?_
              refine va_get (D := (dC, dI)) (ci := 3) (v := .ref (a 18)) (C := RX3) (T := TX3) (N := 9) hx hb hts inX3 hown hK hP 0 rfl rfl 3 (by decide) lf15 (fun _ h9 => h9) rfl dX3_seek_83 ?_
              refine lv_iload_n hx hb dX3_seek_86 rfl (lv_at hl 4 rfl) ?_
              refine lv_iload hx hb dX3_seek_87 (lv_at hl 7 rfl) ?_
              have b35 : vp_in i 4 := inC rfl (by omega) (by omega)
              refine va_iast hx hb hK hP hD hS 2 0 rfl rfl b35 dX3_seek_89 (fun H locs hP hD hS => ?_)
              obtain ⟨tri_u36, etri_u36⟩ : ∃ f : Nat → Int32, f = upd tri_19 i.toNatClampNeg y19_4 := ⟨_, rfl⟩
              have hP : va_P (dC, dI) vwCl (wPln cI cZ cQ a min tri_u36 bes_19 wkd_19 cos rst bst_19 top str gho ghs pto cro pla wal fal tel gai day mar few doo) H := by rw [etri_u36]; exact hP
              have hD : va_D A (wPln cI cZ cQ a min tri_u36 bes_19 wkd_19 cos rst bst_19 top str gho ghs pto cro pla wal fal tel gai day mar few doo) := by rw [etri_u36]; exact hD
              refine lv_aload_n hx hb dX3_seek_90 rfl (lv_at hl 3 rfl) ?_
              refine va_get (D := (dC, dI)) (ci := 3) (v := .ref (a 20)) (C := RX3) (T := TX3) (N := 9) hx hb hts inX3 hown hK hP 0 rfl rfl 5 (by decide) lf21 (fun _ h9 => h9) rfl dX3_seek_91 ?_
              refine lv_iload hx hb dX3_seek_94 (lv_at hl 7 rfl) ?_
              refine lv_iload hx hb dX3_seek_96 (lv_at hl 1 rfl) ?_
              have b37 : vp_in y19_4 8 := inC rfl (by omega) (by omega)
              have g38 : rg 8 (0) (15) (upd wkd_19 y19_4.toNatClampNeg x26) := rg_upd r_wkd_19 rfl (by omega) (by omega)
              refine va_iast hx hb hK hP hD hS 4 0 rfl rfl b37 dX3_seek_98 (fun H locs hP hD hS => ?_)
              obtain ⟨wkd_u39, ewkd_u39⟩ : ∃ f : Nat → Int32, f = upd wkd_19 y19_4.toNatClampNeg x26 := ⟨_, rfl⟩
              have rwkd_u39 : rg 8 (0) (15) wkd_u39 := by rw [ewkd_u39]; exact g38
              have hP : va_P (dC, dI) vwCl (wPln cI cZ cQ a min tri_u36 bes_19 wkd_u39 cos rst bst_19 top str gho ghs pto cro pla wal fal tel gai day mar few doo) H := by rw [ewkd_u39]; exact hP
              have hD : va_D A (wPln cI cZ cQ a min tri_u36 bes_19 wkd_u39 cos rst bst_19 top str gho ghs pto cro pla wal fal tel gai day mar few doo) := by rw [ewkd_u39]; exact hD
              refine lv_aload_n hx hb dX3_seek_99 rfl (lv_at hl 3 rfl) ?_
              refine lv_iload_n hx hb dX3_seek_100 rfl (lv_at hl 4 rfl) ?_
              refine lv_iconst (v := 1) hx hb dX3_seek_101 (by decide) ?_
              refine lv_iadd hx hb dX3_seek_102 ?_
              have f40 : (i + 1).toInt = (i.toInt) + (1) := addC rfl (show (1 : Int32).toInt = 1 from rfl) (by omega) (by omega)
              refine lv_iload_n hx hb dX3_seek_103 rfl (lv_at hl 5 rfl) ?_
              refine lv_iload_n hx hb dX3_seek_104 rfl (lv_at hl 6 rfl) ?_
              refine lv_iload hx hb dX3_seek_105 (lv_at hl 0 rfl) ?_
              refine lv_iadd hx hb dX3_seek_107 ?_
              have f41 : (al + x34).toInt = (al.toInt) + (x34.toInt) := addC rfl rfl (by omega) (by omega)
              refine wvV (As := [.int (i + 1), .int n, .int (al + x34)]) (rest := []) (wr := []) (w2 := (fun u : US => (wPln cI cZ cQ a min (u.1 0) (u.1 1) (u.1 2) cos rst (u.1 3 0) top str gho ghs pto cro pla wal fal tel gai day mar few doo))) ⟨hx, hb, hml, hown, hts⟩ (k_X3_seek2_3 l dC dI cI cZ cQ a min tri_u36 bes_19 wkd_u39 cos rst bst_19 top str gho ghs pto cro pla wal fal tel gai day mar few doo _ (i + 1) n (al + x34) rwkd_u39 r_top r_str r_gho r_ghs r_cro r_pla r_fal r_gai r_day r_mar (by omega) (by omega) (by omega) (by omega) (by exact q4) (by exact sk_y q5 q4 i19_2 r_wkd_19 (by assumption) (by assumption) (by assumption) (by assumption) (by assumption) ⟨by omega, by omega⟩ (by omega) (by omega) (by omega) wch (by omega) (by omega)) (by exact pb_e i19_3 (at_d i19_2 (by assumption) (by omega) (by omega) (by omega) (by omega)))) (cwV 3 hts gX3_seek_X3_seek rfl rfl rfl (by decide +kernel) ⟨Nat.le_of_ble_eq_true rfl, Nat.le_of_ble_eq_true rfl⟩) hP hD hS hA hK hN [0, 1, 2, 3, 4, 5, 6, 7, 8, 9, 10, 11, 12, 13, 14, 15, 16, 17, 18, 19, 20] [] [0, 1, 2, 3, 4, 5, 6, 7, 8, 9, 10, 11, 12, 13, 14, 15, 16, 17, 18, 19, 20] rfl rfl (by decide) (by decide) (by decide) (fun _ => rfl) (by decide) 0 3 rfl rfl rfl hl.1 rfl (Nat.le_of_ble_eq_true rfl) dX3_seek_108 ⟨Nat.le_of_ble_eq_true rfl, Nat.le_of_ble_eq_true rfl⟩ (fun u44 H locs h43 hP hD hS => ?_)
              obtain ⟨tri_c45, etri_c45⟩ : ∃ f : Nat → Int32, f = (u44.1 0) := ⟨_, rfl⟩
              obtain ⟨bes_c46, ebes_c46⟩ : ∃ f : Nat → Int32, f = (u44.1 1) := ⟨_, rfl⟩
              obtain ⟨wkd_c47, ewkd_c47⟩ : ∃ f : Nat → Int32, f = (u44.1 2) := ⟨_, rfl⟩
              obtain ⟨bst_c48, ebst_c48⟩ : ∃ f : Int32, f = (u44.1 3 0) := ⟨_, rfl⟩
              have hP : va_P (dC, dI) vwCl (wPln cI cZ cQ a min tri_c45 bes_c46 wkd_c47 cos rst bst_c48 top str gho ghs pto cro pla wal fal tel gai day mar few doo) H := by rw [etri_c45, ebes_c46, ewkd_c47, ebst_c48]; exact hP
              have hD : va_D A (wPln cI cZ cQ a min tri_c45 bes_c46 wkd_c47 cos rst bst_c48 top str gho ghs pto cro pla wal fal tel gai day mar few doo) := by rw [etri_c45, ebes_c46, ewkd_c47, ebst_c48]; exact hD
              have h43 : (ksI (i + 1).toInt tri_u36 wkd_u39 tri_c45 wkd_c47) ∧ (pbI (okC cos min n.toInt.toNat) (vlC mar fal top str tel gai.toInt n.toInt.toNat) n.toInt.toNat (toN tri_u36 n.toInt.toNat (i + 1).toInt) bst_c48.toInt bes_c46) ∧ (rg 8 (0) (15) wkd_c47) := by (try rw [etri_c45]); (try rw [ebes_c46]); (try rw [ewkd_c47]); (try rw [ebst_c48]); exact h43
              obtain ⟨h43_0, h43_1, h43_2⟩ := h43
              refine lv_aload_n hx hb dX3_seek_111 rfl (lv_at hl 3 rfl) ?_
              refine va_get (D := (dC, dI)) (ci := 3) (v := .ref (a 20)) (C := RX3) (T := TX3) (N := 9) hx hb hts inX3 hown hK hP 0 rfl rfl 5 (by decide) lf21 (fun _ h9 => h9) rfl dX3_seek_112 ?_
              refine lv_iload hx hb dX3_seek_115 (lv_at hl 7 rfl) ?_
              refine lv_iload hx hb dX3_seek_117 (lv_at hl 2 rfl) ?_
              have b49 : vp_in y19_4 8 := inC rfl (by omega) (by omega)
              have g50 : rg 8 (0) (15) (upd wkd_c47 y19_4.toNatClampNeg x23) := rg_upd h43_2 rfl (by omega) (by omega)
              refine va_iast hx hb hK hP hD hS 4 0 rfl rfl b49 dX3_seek_119 (fun H locs hP hD hS => ?_)
              obtain ⟨wkd_u51, ewkd_u51⟩ : ∃ f : Nat → Int32, f = upd wkd_c47 y19_4.toNatClampNeg x23 := ⟨_, rfl⟩
              have rwkd_u51 : rg 8 (0) (15) wkd_u51 := by rw [ewkd_u51]; exact g50
              have hP : va_P (dC, dI) vwCl (wPln cI cZ cQ a min tri_c45 bes_c46 wkd_u51 cos rst bst_c48 top str gho ghs pto cro pla wal fal tel gai day mar few doo) H := by rw [ewkd_u51]; exact hP
              have hD : va_D A (wPln cI cZ cQ a min tri_c45 bes_c46 wkd_u51 cos rst bst_c48 top str gho ghs pto cro pla wal fal tel gai day mar few doo) := by rw [ewkd_u51]; exact hD
              obtain ⟨z52, ez52⟩ : ∃ y : Int32, y = y19_4 + 1 := ⟨_, rfl⟩
              have iz52 : z52.toInt = y19_4.toInt + 1 := by rw [ez52]; exact addC rfl rfl (by omega) (by omega)
              refine lv_iinc (v := z52) (lv' := [(4, .int z52), (7, .int x34), (6, .int x26), (5, .int x23), (0, .ref (a 16)), (1, .int i), (2, .int n), (3, .int al)]) hx hb dX3_seek_120 hl (k := 7) rfl (by rw [ez52]; rfl) (by decide) rfl (fun ls hl => ?_)
              refine lv_goto (tgt := 19) hx hb dX3_seek_123 (by decide) ?_
              exact ih19 z52 tri_c45 bes_c46 wkd_u51 bst_c48 _ _ _ rwkd_u51 (by omega) (by omega) (by (first | exact ks_y i19_2 (by assumption) (by assumption) (by assumption) (by assumption) (by assumption) (by omega) (by omega) | exact i19_2 | exact ks_0)) (by (first | exact pb_e (by assumption) (at_u i19_2 (by assumption) (by omega) (by omega) (by omega) (by omega) (by omega)).symm | exact pb_no (y := y19_4) i19_3 q5 i19_2 (by assumption) (by omega) (by omega) (by omega) (by omega) | exact pb_e q6 (at_0 (by omega) (by omega) rfl))) (by omega) hP hD hS (lv_sub hl [4, 5, 6, 7, 0] rfl)
            · refine lv_if_eq (tgt := 120) hx hb dX3_seek_33 (by decide) (fun _ => ?_) (fun c9 => absurd (by decide) c9)
              obtain ⟨z53, ez53⟩ : ∃ y : Int32, y = y19_4 + 1 := ⟨_, rfl⟩
              have iz53 : z53.toInt = y19_4.toInt + 1 := by rw [ez53]; exact addC rfl rfl (by omega) (by omega)
              refine lv_iinc (v := z53) (lv' := [(4, .int z53), (0, .ref (a 16)), (1, .int i), (2, .int n), (3, .int al)]) hx hb dX3_seek_120 hl (k := 4) rfl (by rw [ez53]; rfl) (by decide) rfl (fun ls hl => ?_)
              refine lv_goto (tgt := 19) hx hb dX3_seek_123 (by decide) ?_
              exact ih19 z53 tri_19 bes_19 wkd_19 bst_19 _ _ _ r_wkd_19 (by omega) (by omega) (by (first | exact ks_y i19_2 (by assumption) (by assumption) (by assumption) (by assumption) (by assumption) (by omega) (by omega) | exact i19_2 | exact ks_0)) (by (first | exact pb_e (by assumption) (at_u i19_2 (by assumption) (by omega) (by omega) (by omega) (by omega) (by omega)).symm | exact pb_no (y := y19_4) i19_3 q5 i19_2 (by assumption) (by omega) (by omega) (by omega) (by omega) | exact pb_e q6 (at_0 (by omega) (by omega) rfl))) (by omega) hP hD hS (lv_sub hl [1, 2, 3, 4, 0] rfl)
      have kc54 : (0 : Int32).toInt = 0 := rfl
      exact L19 _ 0 tri bes wkd bst _ _ _ r_wkd (by omega) (by omega) (by (first | exact ks_y i19_2 (by assumption) (by assumption) (by assumption) (by assumption) (by assumption) (by omega) (by omega) | exact i19_2 | exact ks_0)) (by (first | exact pb_e (by assumption) (at_u i19_2 (by assumption) (by omega) (by omega) (by omega) (by omega) (by omega)).symm | exact pb_no (y := y19_4) i19_3 q5 i19_2 (by assumption) (by omega) (by omega) (by omega) (by omega) | exact pb_e q6 (at_0 (by omega) (by omega) rfl))) (Nat.lt_succ_self _) hP hD hS (lv_sub hl [1, 2, 3, 4, 0] rfl)
    · have dc7 : 4 ≤ i.toInt := nltC rfl (show (4 : Int32).toInt = 4 from rfl) c7
      exfalso
      omega
set_option maxHeartbeats 4000000 in
set_option maxRecDepth 100000 in
theorem k_X3_findBest2 (l : Launch) (dC : Nat → ClassId) (dI : Nat → Nat → Nat) (cI cZ cQ : ClassId) (a : Nat → Nat) (min : Nat → Int32) (tri : Nat → Int32) (bes : Nat → Int32) (wkd : Nat → Int32) (cos : Nat → Int32) (rst : Nat → Int32) (bst : Int32) (top : Nat → Int32) (str : Nat → Int32) (gho : Nat → Int32) (ghs : Nat → Int32) (pto : Nat → Int32) (cro : Nat → Int32) (pla : Nat → Int32) (wal : Nat → Int32) (fal : Nat → Int32) (tel : Int32) (gai : Int32) (day : Int32) (mar : Nat → Int32) (few : Nat → Int32) (doo : Int32) (sz : Nat) (n : Int32) (r_wkd : rg 8 (0) (15) wkd) (r_top : rg 48 (-1) (23) top) (r_str : rg 48 (0) (100) str) (r_gho : rg 48 (-1) (23) gho) (r_ghs : rg 48 (0) (100) ghs) (r_cro : rg 48 (0) (6) cro) (r_pla : rg 24 (-1) (47) pla) (r_fal : rg 11 (0) (30) fal) (r_gai : 0 ≤ gai.toInt ∧ gai.toInt ≤ 100) (r_day : 0 ≤ day.toInt ∧ day.toInt ≤ 400) (r_mar : rg 24 (0) (255) mar) (q0 : 1 ≤ n.toInt) (q1 : n.toInt ≤ 4) (q2 : mtOK few) : KV l yX3_findBest wsX3_findBest { frames := 7, cells := 0, slots := 0, locals := 196 } (dC, dI) (TY cI cZ cQ) (wPln cI cZ cQ a min tri bes wkd cos rst bst top str gho ghs pto cro pla wal fal tel gai day mar few doo) [.ref (a 16), .int n] sz 0 0 (fun (u : US) => (∀ j : Nat, j < 8 → coC few top (nI j) ((u.1 1) j)) ∧ (pbI (okC (u.1 1) min n.toInt.toNat) (vlC mar fal top str tel gai.toInt n.toInt.toNat) n.toInt.toNat (9 ^ n.toInt.toNat) (u.1 6 0).toInt (u.1 5)) ∧ (rg 48 (0) (6) (u.1 0)) ∧ (rg 8 (0) (15) (u.1 2))) (fun u : US => (wPln cI cZ cQ a min (u.1 4) (u.1 5) (u.1 2) (u.1 1) (u.1 3) (u.1 6 0) top str gho ghs pto (u.1 0) pla wal fal tel gai day mar few doo)) := by
  refine Met.ofW (cc := cX3_findBest) (maxL := 5) (ret := none) (by decide) rfl ?_
  intro p e s m args below meth c s₁ B hml hv
  obtain ⟨rfl, hsz, hP, hK, hD0, hN⟩ := hv
  have hx := B.exec
  have hb := B.bytes
  have hr := B.returns
  have hts := atoms_spec (ws := wsX3_findBest) B.pre
  have hown : s.vm.findClass RX3 = some m.cls := findClass_of_methodNamed B.named
  have hlocks := B.notSynchronized
  have lf65 := hts (.fieldLink RX3 65 "PalaceOfRooms$Planner" "bestStrength" "I") (List.mem_cons_of_mem _ (List.mem_append_left _ (List.mem_append_left _ (List.mem_append_left _ (List.mem_append_left _ (List.mem_append_left _ (List.mem_of_getElem? (i := 1) rfl)))))))
  have inX3 : ∀ w ∈ wsX30, w ∈ wsX3_findBest := fun w h => List.mem_cons_of_mem _ (List.mem_append_left _ (List.mem_append_left _ (List.mem_append_left _ (List.mem_append_right _ h))))
  have lf27 := hts (.fieldLink RX3 27 "PalaceOfRooms$Planner" "roomStrength" "[I") (List.mem_cons_of_mem _ (List.mem_append_left _ (List.mem_append_left _ (List.mem_append_left _ (List.mem_append_left _ (List.mem_append_left _ (List.mem_of_getElem? (i := 0) rfl)))))))
  subst hsz
  have hD := hD0.self (sz := s.heap.size)
  generalize hAe : va_A (wPln cI cZ cQ a min tri bes wkd cos rst bst top str gho ghs pto cro pla wal fal tel gai day mar few doo) s.heap.size = A at hD ⊢
  have hA : ∀ q : Nat, s.heap.size ≤ q → A q := fun q h => by rw [← hAe]; exact Or.inr h
  have hS : va_S A s.heap s.heap [] := va_S.rf
  have hl := lv_entry ([.ref (a 16), .int n]) (n := 5) (Nat.le_of_ble_eq_true rfl)
  rw [lg_entry_eq]
  generalize (lg_sl ([.ref (a 16), .int n]) ++ List.replicate (5 - (lg_sl ([.ref (a 16), .int n])).length) Slot.unset).toArray = ls at hl ⊢
  have hl : lv_has ls 5 [(0, .ref (a 16)), (1, .int n)] := hl
  refine lv_aload_n hx hb dX3_findBest_0 rfl (lv_at hl 0 rfl) ?_
  refine wvV (As := []) (rest := []) (wr := []) (w2 := (fun u : US => (wPln cI cZ cQ a min tri bes (u.1 2) (u.1 1) rst bst top str gho ghs pto (u.1 0) pla wal fal tel gai day mar few doo))) ⟨hx, hb, hml, hown, hts⟩ (k_X3_prepare2 l dC dI cI cZ cQ a min tri bes wkd cos rst bst top str gho ghs pto cro pla wal fal tel gai day mar few doo _ r_wkd r_top r_str r_gho r_ghs r_cro r_pla r_fal r_gai r_day r_mar (by exact q2)) (cwV 0 hts gX3_findBest_X3_prepare rfl rfl rfl (by decide +kernel) ⟨Nat.le_of_ble_eq_true rfl, Nat.le_of_ble_eq_true rfl⟩) hP hD hS hA hK hN [0, 1, 2, 3, 4, 5, 6, 7, 8, 9, 10, 11, 12, 13, 14, 15, 16, 17, 18, 19, 20] [] [0, 1, 2, 3, 4, 5, 6, 7, 8, 9, 10, 11, 12, 13, 14, 15, 16, 17, 18, 19, 20] rfl rfl (by decide) (by decide) (by decide) (fun _ => rfl) (by decide) 0 3 rfl rfl rfl hl.1 rfl (Nat.le_of_ble_eq_true rfl) dX3_findBest_1 ⟨Nat.le_of_ble_eq_true rfl, Nat.le_of_ble_eq_true rfl⟩ (fun u3 H locs h2 hP hD hS => ?_)
  obtain ⟨cro_c4, ecro_c4⟩ : ∃ f : Nat → Int32, f = (u3.1 0) := ⟨_, rfl⟩
  obtain ⟨cos_c5, ecos_c5⟩ : ∃ f : Nat → Int32, f = (u3.1 1) := ⟨_, rfl⟩
  obtain ⟨wkd_c6, ewkd_c6⟩ : ∃ f : Nat → Int32, f = (u3.1 2) := ⟨_, rfl⟩
  have hP : va_P (dC, dI) vwCl (wPln cI cZ cQ a min tri bes wkd_c6 cos_c5 rst bst top str gho ghs pto cro_c4 pla wal fal tel gai day mar few doo) H := by rw [ecro_c4, ecos_c5, ewkd_c6]; exact hP
  have hD : va_D A (wPln cI cZ cQ a min tri bes wkd_c6 cos_c5 rst bst top str gho ghs pto cro_c4 pla wal fal tel gai day mar few doo) := by rw [ecro_c4, ecos_c5, ewkd_c6]; exact hD
  have h2 : (∀ j : Nat, j < 48 → (cro_c4 j).toInt = cwF mar top tel j (j - j % 6) 6) ∧ (prI few top 8 cos_c5 wkd_c6) ∧ (rg 48 (0) (6) cro_c4) ∧ (rg 8 (0) (15) wkd_c6) := by (try rw [ecro_c4]); (try rw [ecos_c5]); (try rw [ewkd_c6]); exact h2
  obtain ⟨h2_0, h2_1, h2_2, h2_3⟩ := h2
  refine lv_iconst (v := 0) hx hb dX3_findBest_4 (by decide) ?_
  refine lv_istore_n (lv' := [(2, .int 0), (0, .ref (a 16)), (1, .int n)]) hx hb dX3_findBest_5 rfl hl (by decide) rfl (fun ls hl => ?_)
  refine lv_iconst (v := 0) hx hb dX3_findBest_6 (by decide) ?_
  refine lv_istore_n (lv' := [(3, .int 0), (2, .int 0), (0, .ref (a 16)), (1, .int n)]) hx hb dX3_findBest_7 rfl hl (by decide) rfl (fun ls hl => ?_)
  have L8 : ∀ (nn : Nat) (y8_2 : Int32) (y8_3 : Int32) (rst_8 : Nat → Int32) (H : Heap) (locs : List Loc) (ls : Array Slot), (0 ≤ (y8_3.toInt)) → ((y8_3.toInt) ≤ 8) → (0 ≤ (y8_2.toInt)) → ((y8_2.toInt) ≤ 600 * (y8_3.toInt)) → (rsQ rst_8 mar fal top str tel gai.toInt n.toInt.toNat (y8_3.toInt) 0) → (suQ rst_8 (y8_3.toInt) (y8_2.toInt)) → (8 - (y8_3.toInt)).toNat < nn → va_P (dC, dI) vwCl (wPln cI cZ cQ a min tri bes wkd_c6 cos_c5 rst_8 bst top str gho ghs pto cro_c4 pla wal fal tel gai day mar few doo) H → va_D A (wPln cI cZ cQ a min tri bes wkd_c6 cos_c5 rst_8 bst top str gho ghs pto cro_c4 pla wal fal tel gai day mar few doo) → va_S A s.heap H locs → lv_has ls 5 [(0, .ref (a 16)), (1, .int n), (2, .int y8_2), (3, .int y8_3)] → W p l e (headSpec wsX3_findBest { frames := 7, cells := 0, slots := 0, locals := 196 }).room s m ([.ref (a 16), .int n] : List Value).toArray below meth c H locs 0 0 (MQ below (va_Qv (fun (u : US) => (∀ j : Nat, j < 8 → coC few top (nI j) ((u.1 1) j)) ∧ (pbI (okC (u.1 1) min n.toInt.toNat) (vlC mar fal top str tel gai.toInt n.toInt.toNat) n.toInt.toNat (9 ^ n.toInt.toNat) (u.1 6 0).toInt (u.1 5)) ∧ (rg 48 (0) (6) (u.1 0)) ∧ (rg 8 (0) (15) (u.1 2))) (Bw (dC, dI) A (fun u : US => (wPln cI cZ cQ a min (u.1 4) (u.1 5) (u.1 2) (u.1 1) (u.1 3) (u.1 6 0) top str gho ghs pto (u.1 0) pla wal fal tel gai day mar few doo))) A) ([.ref (a 16), .int n] : List Value).toArray s 0 0 A) (F0 m 8 ls []) := by
    intro nn
    induction nn with
    | zero =>
      intro y8_2 y8_3 rst_8 H locs ls i8_0 i8_1 i8_2 i8_3 i8_4 i8_5 hm8
      exact absurd hm8 (Nat.not_lt_zero _)
    | succ nn ih8 =>
      intro y8_2 y8_3 rst_8 H locs ls i8_0 i8_1 i8_2 i8_3 i8_4 i8_5 hm8 hP hD hS hl
      refine lv_iload_n hx hb dX3_findBest_8 rfl (lv_at hl 3 rfl) ?_
      refine lv_bipush (v := 8) hx hb dX3_findBest_9 (by decide) ?_
      refine lv_icmp_ge (tgt := 69) hx hb dX3_findBest_11 (by decide) (fun c7 => ?_) (fun c7 => ?_)
      · have dc7 : 8 ≤ y8_3.toInt := leC (show (8 : Int32).toInt = 8 from rfl) rfl c7
        refine lv_aload_n hx hb dX3_findBest_69 rfl (lv_at hl 0 rfl) ?_
        refine lv_iconst (v := (-1)) hx hb dX3_findBest_70 (by decide) ?_
        refine va_put (D := (dC, dI)) (ci := 3) (v := .int (-1)) (ty := .int) (C := RX3) (T := TX3) (N := 9) hx hb hts inX3 tyX3 tyX3_ok nmX3 hown hK hP hD hS 0 rfl rfl 8 (by decide) lf65 (fun _ h9 => h9) rfl (by decide +kernel) rfl rfl (Nat.le_of_ble_eq_true rfl) dX3_findBest_71 (fun H locs hP hD hS => ?_)
        have hP : va_P (dC, dI) vwCl (wPln cI cZ cQ a min tri bes wkd_c6 cos_c5 rst_8 (-1) top str gho ghs pto cro_c4 pla wal fal tel gai day mar few doo) H := hP
        have hD : va_D A (wPln cI cZ cQ a min tri bes wkd_c6 cos_c5 rst_8 (-1) top str gho ghs pto cro_c4 pla wal fal tel gai day mar few doo) := hD
        refine lv_aload_n hx hb dX3_findBest_74 rfl (lv_at hl 0 rfl) ?_
        refine lv_iconst (v := 0) hx hb dX3_findBest_75 (by decide) ?_
        refine lv_iload_n hx hb dX3_findBest_76 rfl (lv_at hl 1 rfl) ?_
        refine lv_iload_n hx hb dX3_findBest_77 rfl (lv_at hl 2 rfl) ?_
        have kc0 : (0 : Int32).toInt = 0 := rfl
        refine wvV (As := [.int 0, .int n, .int y8_2]) (rest := []) (wr := []) (w2 := (fun u : US => (wPln cI cZ cQ a min (u.1 0) (u.1 1) (u.1 2) cos_c5 rst_8 (u.1 3 0) top str gho ghs pto cro_c4 pla wal fal tel gai day mar few doo))) ⟨hx, hb, hml, hown, hts⟩ (k_X3_seek2_4 l dC dI cI cZ cQ a min tri bes wkd_c6 cos_c5 rst_8 (-1) top str gho ghs pto cro_c4 pla wal fal tel gai day mar few doo _ (0 : Int32) n y8_2 h2_3 r_top r_str r_gho r_ghs h2_2 r_pla r_fal r_gai r_day r_mar (by omega) (by omega) (by omega) (by omega) (by exact rq_I i8_4 (by omega) (by omega)) (by exact sk_0 (by assumption) i8_5 (by omega) (by first | rfl | omega) (by omega) (by omega)) (by exact pb_0 rfl (at_00 (by first | rfl | omega)))) (cwV 3 hts gX3_findBest_X3_seek rfl rfl rfl (by decide +kernel) ⟨Nat.le_of_ble_eq_true rfl, Nat.le_of_ble_eq_true rfl⟩) hP hD hS hA hK hN [0, 1, 2, 3, 4, 5, 6, 7, 8, 9, 10, 11, 12, 13, 14, 15, 16, 17, 18, 19, 20] [] [0, 1, 2, 3, 4, 5, 6, 7, 8, 9, 10, 11, 12, 13, 14, 15, 16, 17, 18, 19, 20] rfl rfl (by decide) (by decide) (by decide) (fun _ => rfl) (by decide) 0 3 rfl rfl rfl hl.1 rfl (Nat.le_of_ble_eq_true rfl) dX3_findBest_78 ⟨Nat.le_of_ble_eq_true rfl, Nat.le_of_ble_eq_true rfl⟩ (fun u10 H locs h9 hP hD hS => ?_)
        obtain ⟨tri_c11, etri_c11⟩ : ∃ f : Nat → Int32, f = (u10.1 0) := ⟨_, rfl⟩
        obtain ⟨bes_c12, ebes_c12⟩ : ∃ f : Nat → Int32, f = (u10.1 1) := ⟨_, rfl⟩
        obtain ⟨wkd_c13, ewkd_c13⟩ : ∃ f : Nat → Int32, f = (u10.1 2) := ⟨_, rfl⟩
        obtain ⟨bst_c14, ebst_c14⟩ : ∃ f : Int32, f = (u10.1 3 0) := ⟨_, rfl⟩
        have hP : va_P (dC, dI) vwCl (wPln cI cZ cQ a min tri_c11 bes_c12 wkd_c13 cos_c5 rst_8 bst_c14 top str gho ghs pto cro_c4 pla wal fal tel gai day mar few doo) H := by rw [etri_c11, ebes_c12, ewkd_c13, ebst_c14]; exact hP
        have hD : va_D A (wPln cI cZ cQ a min tri_c11 bes_c12 wkd_c13 cos_c5 rst_8 bst_c14 top str gho ghs pto cro_c4 pla wal fal tel gai day mar few doo) := by rw [etri_c11, ebes_c12, ewkd_c13, ebst_c14]; exact hD
        have h9 : (ksI (0) tri wkd_c6 tri_c11 wkd_c13) ∧ (pbI (okC cos_c5 min n.toInt.toNat) (vlC mar fal top str tel gai.toInt n.toInt.toNat) n.toInt.toNat (toN tri n.toInt.toNat (0)) bst_c14.toInt bes_c12) ∧ (rg 8 (0) (15) wkd_c13) := by (try rw [etri_c11]); (try rw [ebes_c12]); (try rw [ewkd_c13]); (try rw [ebst_c14]); exact h9
        obtain ⟨h9_0, h9_1, h9_2⟩ := h9
        exact W.vret hx hb hr (fun tq ht hW => ⟨⟨(uS [cro_c4, cos_c5, wkd_c13, rst_8, tri_c11, bes_c12, (fun _ => bst_c14)] 0 (fun _ => 0)), rfl, ⟨(show ∀ j : Nat, j < 8 → coC few top (nI j) (cos_c5 j) from by exact pr_co (by assumption)), (show pbI (okC cos_c5 min n.toInt.toNat) (vlC mar fal top str tel gai.toInt n.toInt.toNat) n.toInt.toNat (9 ^ n.toInt.toNat) bst_c14.toInt bes_c12 from by exact pb_e (by assumption) (to_00 (by first | rfl | omega)).symm), h2_2, h9_2⟩, by rw [ht]; exact hP, hD⟩, hS.F ht⟩) hS.2.2 dX3_findBest_81
      · have dc7 : y8_3.toInt < 8 := nleC (show (8 : Int32).toInt = 8 from rfl) rfl c7
        refine lv_iconst (v := 0) hx hb dX3_findBest_14 (by decide) ?_
        refine lv_istore (lv' := [(4, .int 0), (0, .ref (a 16)), (1, .int n), (2, .int y8_2), (3, .int y8_3)]) hx hb dX3_findBest_15 hl (by decide) rfl (fun ls hl => ?_)
        have L17 : ∀ (nn : Nat) (y17_4 : Int32) (rst_17 : Nat → Int32) (H : Heap) (locs : List Loc) (ls : Array Slot), (0 ≤ (y17_4.toInt)) → ((y17_4.toInt) ≤ 16) → (rsQ rst_17 mar fal top str tel gai.toInt n.toInt.toNat (y8_3.toInt) (y17_4.toInt)) → (suQ rst_17 (y8_3.toInt) (y8_2.toInt)) → (16 - (y17_4.toInt)).toNat < nn → va_P (dC, dI) vwCl (wPln cI cZ cQ a min tri bes wkd_c6 cos_c5 rst_17 bst top str gho ghs pto cro_c4 pla wal fal tel gai day mar few doo) H → va_D A (wPln cI cZ cQ a min tri bes wkd_c6 cos_c5 rst_17 bst top str gho ghs pto cro_c4 pla wal fal tel gai day mar few doo) → va_S A s.heap H locs → lv_has ls 5 [(0, .ref (a 16)), (1, .int n), (2, .int y8_2), (3, .int y8_3), (4, .int y17_4)] → W p l e (headSpec wsX3_findBest { frames := 7, cells := 0, slots := 0, locals := 196 }).room s m ([.ref (a 16), .int n] : List Value).toArray below meth c H locs 0 0 (MQ below (va_Qv (fun (u : US) => (∀ j : Nat, j < 8 → coC few top (nI j) ((u.1 1) j)) ∧ (pbI (okC (u.1 1) min n.toInt.toNat) (vlC mar fal top str tel gai.toInt n.toInt.toNat) n.toInt.toNat (9 ^ n.toInt.toNat) (u.1 6 0).toInt (u.1 5)) ∧ (rg 48 (0) (6) (u.1 0)) ∧ (rg 8 (0) (15) (u.1 2))) (Bw (dC, dI) A (fun u : US => (wPln cI cZ cQ a min (u.1 4) (u.1 5) (u.1 2) (u.1 1) (u.1 3) (u.1 6 0) top str gho ghs pto (u.1 0) pla wal fal tel gai day mar few doo))) A) ([.ref (a 16), .int n] : List Value).toArray s 0 0 A) (F0 m 17 ls []) := by
          intro nn
          induction nn with
          | zero =>
            intro y17_4 rst_17 H locs ls i17_0 i17_1 i17_2 i17_3 hm17
            exact absurd hm17 (Nat.not_lt_zero _)
          | succ nn ih17 =>
            intro y17_4 rst_17 H locs ls i17_0 i17_1 i17_2 i17_3 hm17 hP hD hS hl
            refine lv_iload hx hb dX3_findBest_17 (lv_at hl 4 rfl) ?_
            refine lv_iconst (v := 1) hx hb dX3_findBest_19 (by decide) ?_
            refine lv_iload_n hx hb dX3_findBest_20 rfl (lv_at hl 1 rfl) ?_
            refine lv_ishl hx hb dX3_findBest_21 ?_
            have f15 : 1 ≤ ((1 : Int32) <<< (n &&& 31)).toInt ∧ ((1 : Int32) <<< (n &&& 31)).toInt ≤ 16 := shl1 rfl (by omega) 4 (by omega) (by decide)
            have wpw := sh1_pow (n := n) (by omega) (by omega)
            have wp16 := pw16 (n := n) (by omega) (by omega)
            refine lv_icmp_ge (tgt := 51) hx hb dX3_findBest_22 (by decide) (fun c16 => ?_) (fun c16 => ?_)
            · have dc16 : ((1 : Int32) <<< (n &&& 31)).toInt ≤ y17_4.toInt := leC rfl rfl c16
              refine lv_iload_n hx hb dX3_findBest_51 rfl (lv_at hl 2 rfl) ?_
              refine lv_aload_n hx hb dX3_findBest_52 rfl (lv_at hl 0 rfl) ?_
              refine va_get (D := (dC, dI)) (ci := 3) (v := .ref (a 22)) (C := RX3) (T := TX3) (N := 9) hx hb hts inX3 hown hK hP 0 rfl rfl 7 (by decide) lf27 (fun _ h9 => h9) rfl dX3_findBest_53 ?_
              refine lv_iload_n hx hb dX3_findBest_56 rfl (lv_at hl 3 rfl) ?_
              refine lv_bipush (v := 16) hx hb dX3_findBest_57 (by decide) ?_
              refine lv_imul hx hb dX3_findBest_59 ?_
              have f17 : (y8_3 * 16).toInt = (y8_3.toInt) * (16) := mulC rfl (show (16 : Int32).toInt = 16 from rfl) (by omega) (by omega)
              have b18 : vp_in (y8_3 * 16) 128 := inC f17 (by omega) (by omega)
              refine va_iald hx hb hK hP 6 0 rfl rfl b18 dX3_findBest_60 ?_
              have w60 := i17_2 y8_3.toInt.toNat 0 (by omega) (by omega) (Or.inr ⟨by omega, by omega⟩)
              rw [show 16 * y8_3.toInt.toNat + 0 = (y8_3 * 16).toNatClampNeg by rw [clC (x := y8_3 * 16) (X := y8_3.toInt * 16) (by omega)]; omega] at w60
              refine lv_iadd hx hb dX3_findBest_61 ?_
              have f19 : (y8_2 + (rst_17 (y8_3 * 16).toNatClampNeg)).toInt = (y8_2.toInt) + ((rst_17 (y8_3 * 16).toNatClampNeg).toInt) := addC rfl rfl (by omega) (by omega)
              refine lv_topi (fun x20 ex20 => ?_)
              have ix20 : x20.toInt = (y8_2.toInt) + ((rst_17 (y8_3 * 16).toNatClampNeg).toInt) := by rw [ex20]; exact f19
              refine lv_istore_n (lv' := [(2, .int x20), (0, .ref (a 16)), (1, .int n), (3, .int y8_3), (4, .int y17_4)]) hx hb dX3_findBest_62 rfl hl (by decide) rfl (fun ls hl => ?_)
              obtain ⟨z21, ez21⟩ : ∃ y : Int32, y = y8_3 + 1 := ⟨_, rfl⟩
              have iz21 : z21.toInt = y8_3.toInt + 1 := by rw [ez21]; exact addC rfl rfl (by omega) (by omega)
              refine lv_iinc (v := z21) (lv' := [(3, .int z21), (2, .int x20), (0, .ref (a 16)), (1, .int n), (4, .int y17_4)]) hx hb dX3_findBest_63 hl (k := 3) rfl (by rw [ez21]; rfl) (by decide) rfl (fun ls hl => ?_)
              refine lv_goto (tgt := 8) hx hb dX3_findBest_66 (by decide) ?_
              exact ih8 x20 z21 rst_17 _ _ _ (by omega) (by omega) (by omega) (by omega) (by (first | exact rq_o i17_2 (by omega) (by omega) rfl | exact rq_0 (by first | rfl | omega) rfl)) (by (first | exact sq_s (x := y8_3 * 16) i17_3 (by omega) (by omega) (by omega) (by omega) | exact sq_0 (by first | rfl | omega) (by first | rfl | omega))) (by omega) hP hD hS (lv_sub hl [2, 3, 1, 0] rfl)
            · have dc16 : y17_4.toInt < ((1 : Int32) <<< (n &&& 31)).toInt := nleC rfl rfl c16
              refine lv_aload_n hx hb dX3_findBest_25 rfl (lv_at hl 0 rfl) ?_
              refine va_get (D := (dC, dI)) (ci := 3) (v := .ref (a 22)) (C := RX3) (T := TX3) (N := 9) hx hb hts inX3 hown hK hP 0 rfl rfl 7 (by decide) lf27 (fun _ h9 => h9) rfl dX3_findBest_26 ?_
              refine lv_iload_n hx hb dX3_findBest_29 rfl (lv_at hl 3 rfl) ?_
              refine lv_bipush (v := 16) hx hb dX3_findBest_30 (by decide) ?_
              refine lv_imul hx hb dX3_findBest_32 ?_
              have f22 : (y8_3 * 16).toInt = (y8_3.toInt) * (16) := mulC rfl (show (16 : Int32).toInt = 16 from rfl) (by omega) (by omega)
              refine lv_iload hx hb dX3_findBest_33 (lv_at hl 4 rfl) ?_
              refine lv_iadd hx hb dX3_findBest_35 ?_
              have f23 : ((y8_3 * 16) + y17_4).toInt = ((y8_3.toInt) * (16)) + (y17_4.toInt) := addC f22 rfl (by omega) (by omega)
              refine lv_aload_n hx hb dX3_findBest_36 rfl (lv_at hl 0 rfl) ?_
              refine lv_iload_n hx hb dX3_findBest_37 rfl (lv_at hl 3 rfl) ?_
              refine lv_iload_n hx hb dX3_findBest_38 rfl (lv_at hl 1 rfl) ?_
              refine lv_iload hx hb dX3_findBest_39 (lv_at hl 4 rfl) ?_
              refine rdV (As := [.int y8_3, .int n, .int y17_4]) (rest := [.int ((y8_3 * 16) + y17_4), .ref (a 22)]) ⟨hx, hb, hml, hown, hts⟩ (k_X3_strengthOfRoom2 l dC dI cI cZ cQ a min tri bes wkd_c6 cos_c5 rst_17 bst top str gho ghs pto cro_c4 pla wal fal tel gai day mar few doo y8_3 n y17_4 h2_3 r_top r_str r_gho r_ghs h2_2 r_pla r_fal r_gai r_day r_mar (by omega) (by omega) (by omega) (by omega)) (cwV 3 hts gX3_findBest_X3_strengthOfRoom rfl rfl rfl (by decide +kernel) ⟨Nat.le_of_ble_eq_true rfl, Nat.le_of_ble_eq_true rfl⟩) hP hK hN [0, 1, 2, 3, 4, 5, 6, 7, 8, 9, 10, 11, 12, 13, 14, 15, 16, 17, 18, 19, 20] rfl 0 3 rfl rfl rfl hl.1 rfl (Nat.le_of_ble_eq_true rfl) dX3_findBest_41 ⟨Nat.le_of_ble_eq_true rfl, Nat.le_of_ble_eq_true rfl⟩ (fun r24 h25 => ?_)
              have h25 : (0 ≤ r24.toInt) ∧ (r24.toInt ≤ 600) ∧ (r24.toInt = srF top (fun c => svF fal (cro_c4 c).toInt gai.toInt (bitW y17_4) (str c).toInt n.toInt.toNat) (y8_3.toInt * 6).toNat 6) := h25
              obtain ⟨h25_0, h25_1, h25_2⟩ := h25
              have b26 : vp_in ((y8_3 * 16) + y17_4) 128 := inC f23 (by omega) (by omega)
              refine va_iast hx hb hK hP hD hS 6 0 rfl rfl b26 dX3_findBest_44 (fun H locs hP hD hS => ?_)
              obtain ⟨rst_u27, erst_u27⟩ : ∃ f : Nat → Int32, f = upd rst_17 ((y8_3 * 16) + y17_4).toNatClampNeg r24 := ⟨_, rfl⟩
              have hP : va_P (dC, dI) vwCl (wPln cI cZ cQ a min tri bes wkd_c6 cos_c5 rst_u27 bst top str gho ghs pto cro_c4 pla wal fal tel gai day mar few doo) H := by rw [erst_u27]; exact hP
              have hD : va_D A (wPln cI cZ cQ a min tri bes wkd_c6 cos_c5 rst_u27 bst top str gho ghs pto cro_c4 pla wal fal tel gai day mar few doo) := by rw [erst_u27]; exact hD
              obtain ⟨z28, ez28⟩ : ∃ y : Int32, y = y17_4 + 1 := ⟨_, rfl⟩
              have iz28 : z28.toInt = y17_4.toInt + 1 := by rw [ez28]; exact addC rfl rfl (by omega) (by omega)
              refine lv_iinc (v := z28) (lv' := [(4, .int z28), (0, .ref (a 16)), (1, .int n), (2, .int y8_2), (3, .int y8_3)]) hx hb dX3_findBest_45 hl (k := 4) rfl (by rw [ez28]; rfl) (by decide) rfl (fun ls hl => ?_)
              refine lv_goto (tgt := 17) hx hb dX3_findBest_48 (by decide) ?_
              exact ih17 z28 rst_u27 _ _ _ (by omega) (by omega) (by (first | exact rq_s (y := y8_3) (z := y17_4) i17_2 (by assumption) (by assumption) (by omega) (by omega) (by assumption) rfl (by omega) (by omega) (by omega) (by omega) (by omega) (by omega) | exact rq_c i8_4 rfl (by first | rfl | omega))) (by (first | exact sq_k i17_3 (by assumption) (by omega) (by omega) | exact i8_5)) (by omega) hP hD hS (lv_sub hl [1, 2, 3, 4, 0] rfl)
        have kc29 : (0 : Int32).toInt = 0 := rfl
        exact L17 _ 0 rst_8 _ _ _ (by omega) (by omega) (by (first | exact rq_s (y := y8_3) (z := y17_4) i17_2 (by assumption) (by assumption) (by omega) (by omega) (by assumption) rfl (by omega) (by omega) (by omega) (by omega) (by omega) (by omega) | exact rq_c i8_4 rfl (by first | rfl | omega))) (by (first | exact sq_k i17_3 (by assumption) (by omega) (by omega) | exact i8_5)) (Nat.lt_succ_self _) hP hD hS (lv_sub hl [1, 2, 3, 4, 0] rfl)
  have kc30 : (0 : Int32).toInt = 0 := rfl
  exact L8 _ 0 0 rst _ _ _ (by omega) (by omega) (by omega) (by omega) (by (first | exact rq_o i17_2 (by omega) (by omega) rfl | exact rq_0 (by first | rfl | omega) rfl)) (by (first | exact sq_s (x := y8_3 * 16) i17_3 (by omega) (by omega) (by omega) (by omega) | exact sq_0 (by first | rfl | omega) (by first | rfl | omega))) (Nat.lt_succ_self _) hP hD hS (lv_sub hl [2, 3, 1, 0] rfl)
set_option maxHeartbeats 4000000 in
set_option maxRecDepth 100000 in
theorem k_X9_plan2 (l : Launch) (dC : Nat → ClassId) (dI : Nat → Nat → Nat) (cI cZ cQ : ClassId) (a : Nat → Nat) (rb0 : Nat) (rb1 : Nat) (rb2 : Nat) (db0 : Nat) (db1 : Nat) (db2 : Nat) (min : Nat → Int32) (tri : Nat → Int32) (bes : Nat → Int32) (wkd : Nat → Int32) (cos : Nat → Int32) (rst : Nat → Int32) (bst : Int32) (top : Nat → Int32) (str : Nat → Int32) (gho : Nat → Int32) (ghs : Nat → Int32) (pto : Nat → Int32) (cro : Nat → Int32) (pla : Nat → Int32) (wal : Nat → Int32) (fal : Nat → Int32) (tel : Int32) (gai : Int32) (day : Int32) (mar : Nat → Int32) (few : Nat → Int32) (doo : Int32) (sz : Nat) (n : Int32) (mi : Int32) (wh : Int32) (r_wkd : rg 8 (0) (15) wkd) (r_top : rg 48 (-1) (23) top) (r_str : rg 48 (0) (100) str) (r_gho : rg 48 (-1) (23) gho) (r_ghs : rg 48 (0) (100) ghs) (r_cro : rg 48 (0) (6) cro) (r_pla : rg 24 (-1) (47) pla) (r_fal : rg 11 (0) (30) fal) (r_gai : 0 ≤ gai.toInt ∧ gai.toInt ≤ 100) (r_day : 0 ≤ day.toInt ∧ day.toInt ≤ 400) (r_mar : rg 24 (0) (255) mar) (q0 : mtOK few) : KW l yX9_plan wsX9_plan { frames := 8, cells := 0, slots := 0, locals := 220 } (dC, dI) (TY cI cZ cQ) (wsPl cI cZ cQ a rb0 rb1 rb2 db0 db1 db2 min tri bes wkd cos rst bst top str gho ghs pto cro pla wal fal tel gai day mar few doo) [.ref (a 43), .int n, .int mi, .int wh] sz 0 0 (fun (r : Int32) (u : US) => (spPlnC few mar fal top str tel gai.toInt n mi wh r) ∧ (rg 48 (0) (6) (u.1 1)) ∧ (rg 8 (0) (15) (u.1 3))) (fun u : US => (wsPl cI cZ cQ a rb0 rb1 rb2 db0 db1 db2 (u.1 0) (u.1 5) (u.1 6) (u.1 3) (u.1 2) (u.1 4) (u.1 7 0) top str gho ghs pto (u.1 1) pla wal fal tel gai day mar few doo)) := by
  refine Met.ofW (cc := cX9_plan) (maxL := 4) (ret := (some .int)) (by decide) rfl ?_
  intro p e s m args below meth c s₁ B hml hv
  obtain ⟨rfl, hsz, hP, hK, hD0, hN⟩ := hv
  have hx := B.exec
  have hb := B.bytes
  have hr := B.returns
  have hts := atoms_spec (ws := wsX9_plan) B.pre
  have hown : s.vm.findClass RX9 = some m.cls := findClass_of_methodNamed B.named
  have hlocks := B.notSynchronized
  have lf44 := hts (.fieldLink RX9 44 "PalaceOfRooms" "planner" "LPalaceOfRooms$Planner;") (List.mem_cons_of_mem _ (List.mem_append_left _ (List.mem_append_left _ (List.mem_append_left _ (List.mem_append_left _ (List.mem_append_left _ (List.mem_append_left _ (List.mem_of_getElem? (i := 0) rfl))))))))
  have inX9 : ∀ w ∈ wsX90, w ∈ wsX9_plan := fun w h => List.mem_cons_of_mem _ (List.mem_append_left _ (List.mem_append_left _ (List.mem_append_left _ (List.mem_append_left _ (List.mem_append_right _ h)))))
  have lf212 := hN.use (w := .fieldLinkNest "PalaceOfRooms" 212 "PalaceOfRooms$Planner" "best" "[I" "PalaceOfRooms") (List.mem_of_getElem? (i := 15) rfl) ([.ref (a 43), .int n, .int mi, .int wh] : List Value).toArray
  have inX3 : ∀ w ∈ wsX30, w ∈ wsX9_plan := fun w h => List.mem_cons_of_mem _ (List.mem_append_left _ (List.mem_append_left _ (List.mem_append_left _ (List.mem_append_right _ h))))
  have lf209 := hN.use (w := .fieldLinkNest "PalaceOfRooms" 209 "PalaceOfRooms$Planner" "bestStrength" "I" "PalaceOfRooms") (List.mem_of_getElem? (i := 16) rfl) ([.ref (a 43), .int n, .int mi, .int wh] : List Value).toArray
  subst hsz
  have hD := hD0.self (sz := s.heap.size)
  generalize hAe : va_A (wsPl cI cZ cQ a rb0 rb1 rb2 db0 db1 db2 min tri bes wkd cos rst bst top str gho ghs pto cro pla wal fal tel gai day mar few doo) s.heap.size = A at hD ⊢
  have hA : ∀ q : Nat, s.heap.size ≤ q → A q := fun q h => by rw [← hAe]; exact Or.inr h
  have hS : va_S A s.heap s.heap [] := va_S.rf
  have hl := lv_entry ([.ref (a 43), .int n, .int mi, .int wh]) (n := 4) (Nat.le_of_ble_eq_true rfl)
  rw [lg_entry_eq]
  generalize (lg_sl ([.ref (a 43), .int n, .int mi, .int wh]) ++ List.replicate (4 - (lg_sl ([.ref (a 43), .int n, .int mi, .int wh])).length) Slot.unset).toArray = ls at hl ⊢
  have hl : lv_has ls 4 [(0, .ref (a 43)), (1, .int n), (2, .int mi), (3, .int wh)] := hl
  refine lv_iload_n hx hb dX9_plan_0 rfl (lv_at hl 1 rfl) ?_
  refine lv_iconst (v := 1) hx hb dX9_plan_1 (by decide) ?_
  refine lv_iconst (v := 4) hx hb dX9_plan_2 (by decide) ?_
  refine rdS (As := [.int n, .int 1, .int 4]) (rest := []) ⟨hx, hb, hml, hown, hts⟩ (k_X9_within l dC dI cI cZ cQ n (1 : Int32) (4 : Int32)) (va_cwS 3 hts gX9_plan_X9_within rfl rfl rfl (by decide +kernel) ⟨Nat.le_of_ble_eq_true rfl, Nat.le_of_ble_eq_true rfl⟩) hP hK hN [] rfl rfl hl.1 rfl (Nat.le_of_ble_eq_true rfl) dX9_plan_3 ⟨Nat.le_of_ble_eq_true rfl, Nat.le_of_ble_eq_true rfl⟩ (fun r1 h2 => ?_)
  have h2 : ((((r1 = 1) ∧ ((1) ≤ n.toInt) ∧ (n.toInt ≤ (4))) ∨ ((r1 = 0) ∧ (n.toInt < (1) ∨ (4) < n.toInt)))) := h2
  rcases h2 with (⟨rfl, h2_a0, h2_a1⟩ | ⟨rfl, h2_a0⟩)
  · refine lv_if_eq (tgt := 32) hx hb dX9_plan_6 (by decide) (fun c9 => absurd c9 (by decide)) (fun _ => ?_)
    refine lv_iload_n hx hb dX9_plan_9 rfl (lv_at hl 3 rfl) ?_
    refine lv_iconst (v := (-1)) hx hb dX9_plan_10 (by decide) ?_
    refine lv_iload_n hx hb dX9_plan_11 rfl (lv_at hl 1 rfl) ?_
    refine lv_iconst (v := 1) hx hb dX9_plan_12 (by decide) ?_
    refine lv_isub hx hb dX9_plan_13 ?_
    have f3 : (n - 1).toInt = (n.toInt) - (1) := subC rfl (show (1 : Int32).toInt = 1 from rfl) (by omega) (by omega)
    refine rdS (As := [.int wh, .int (-1), .int (n - 1)]) (rest := []) ⟨hx, hb, hml, hown, hts⟩ (k_X9_within l dC dI cI cZ cQ wh ((-1) : Int32) (n - 1)) (va_cwS 3 hts gX9_plan_X9_within rfl rfl rfl (by decide +kernel) ⟨Nat.le_of_ble_eq_true rfl, Nat.le_of_ble_eq_true rfl⟩) hP hK hN [] rfl rfl hl.1 rfl (Nat.le_of_ble_eq_true rfl) dX9_plan_14 ⟨Nat.le_of_ble_eq_true rfl, Nat.le_of_ble_eq_true rfl⟩ (fun r4 h5 => ?_)
    have h5 : ((((r4 = 1) ∧ ((-1) ≤ wh.toInt) ∧ (wh.toInt ≤ (n - 1).toInt)) ∨ ((r4 = 0) ∧ (wh.toInt < (-1) ∨ (n - 1).toInt < wh.toInt)))) := h5
    rcases h5 with (⟨rfl, h5_a0, h5_a1⟩ | ⟨rfl, h5_a0⟩)
    · refine lv_if_eq (tgt := 32) hx hb dX9_plan_17 (by decide) (fun c9 => absurd c9 (by decide)) (fun _ => ?_)
      refine lv_aload_n hx hb dX9_plan_20 rfl (lv_at hl 0 rfl) ?_
      refine va_get (D := (dC, dI)) (ci := 9) (v := .ref (a 16)) (C := RX9) (T := TX9) (N := 11) hx hb hts inX9 hown hK hP 0 rfl rfl 4 (by decide) lf44 (fun _ h9 => h9) rfl dX9_plan_21 ?_
      refine lv_iload_n hx hb dX9_plan_24 rfl (lv_at hl 2 rfl) ?_
      refine lv_iload_n hx hb dX9_plan_25 rfl (lv_at hl 1 rfl) ?_
      refine wrV (As := [.int mi, .int n]) (rest := []) (wr := [((a 43), .inr (9, [.ref (a 0), .ref (a 2), .ref (a 4), .ref (a 14), .ref (a 16), .ref (a 23), .ref (a 28), .ref (a 33), .ref (a 42), .ref rb0, .ref db0]))]) (w2 := (fun u : US => (wsPl cI cZ cQ a rb0 rb1 rb2 db0 db1 db2 (u.1 0) tri bes wkd cos rst bst top str gho ghs pto cro pla wal fal tel gai day mar few doo))) ⟨hx, hb, hml, hown, hts⟩ (k_X3_takeMinutes2 l dC dI cI cZ cQ a min tri bes wkd cos rst bst top str gho ghs pto cro pla wal fal tel gai day mar few doo _ mi n r_wkd r_top r_str r_gho r_ghs r_cro r_pla r_fal r_gai r_day r_mar (by omega) (by omega)) (cwV 2 hts gX9_plan_X3_takeMinutes rfl rfl rfl (by decide +kernel) ⟨Nat.le_of_ble_eq_true rfl, Nat.le_of_ble_eq_true rfl⟩) hP hD hS hA hK hN [1, 2, 3, 4, 5, 6, 7, 8, 9, 10, 11, 12, 13, 14, 15, 16, 17, 18, 19, 20, 21] [0] [0, 1, 2, 3, 4, 5, 6, 7, 8, 9, 10, 11, 12, 13, 14, 15, 16, 17, 18, 19, 20, 21] rfl rfl (by decide) (by decide) (by decide) (fun _ => rfl) (by decide) 1 3 rfl rfl rfl hl.1 rfl (Nat.le_of_ble_eq_true rfl) dX9_plan_26 ⟨Nat.le_of_ble_eq_true rfl, Nat.le_of_ble_eq_true rfl⟩ (fun r6 u8 H locs h7 hP hD hS => ?_)
      obtain ⟨min_c9, emin_c9⟩ : ∃ f : Nat → Int32, f = (u8.1 0) := ⟨_, rfl⟩
      have hP : va_P (dC, dI) vwCl (wsPl cI cZ cQ a rb0 rb1 rb2 db0 db1 db2 min_c9 tri bes wkd cos rst bst top str gho ghs pto cro pla wal fal tel gai day mar few doo) H := by rw [emin_c9]; exact hP
      have hD : va_D A (wsPl cI cZ cQ a rb0 rb1 rb2 db0 db1 db2 min_c9 tri bes wkd cos rst bst top str gho ghs pto cro pla wal fal tel gai day mar few doo) := by rw [emin_c9]; exact hD
      have h7 : ((((r6 = 1) ∧ (twI (mnW mi) 99 n.toInt min_c9)) ∨ ((r6 = 0) ∧ (∃ j : Nat, (j : Int) < n.toInt ∧ 99 < (mnW mi j).toInt)))) := by (try rw [emin_c9]); exact h7
      rcases h7 with (⟨rfl, h7_a0⟩ | ⟨rfl, h7_a0⟩)
      · refine lv_if_ne (tgt := 35) hx hb dX9_plan_29 (by decide) (fun _ => ?_) (fun c9 => absurd c9 (by decide))
        refine lv_aload_n hx hb dX9_plan_35 rfl (lv_at hl 0 rfl) ?_
        refine va_get (D := (dC, dI)) (ci := 9) (v := .ref (a 16)) (C := RX9) (T := TX9) (N := 11) hx hb hts inX9 hown hK hP 0 rfl rfl 4 (by decide) lf44 (fun _ h9 => h9) rfl dX9_plan_36 ?_
        refine lv_iload_n hx hb dX9_plan_39 rfl (lv_at hl 1 rfl) ?_
        refine wvV (As := [.int n]) (rest := []) (wr := [((a 43), .inr (9, [.ref (a 0), .ref (a 2), .ref (a 4), .ref (a 14), .ref (a 16), .ref (a 23), .ref (a 28), .ref (a 33), .ref (a 42), .ref rb0, .ref db0]))]) (w2 := (fun u : US => (wsPl cI cZ cQ a rb0 rb1 rb2 db0 db1 db2 min_c9 (u.1 4) (u.1 5) (u.1 2) (u.1 1) (u.1 3) (u.1 6 0) top str gho ghs pto (u.1 0) pla wal fal tel gai day mar few doo))) ⟨hx, hb, hml, hown, hts⟩ (k_X3_findBest2 l dC dI cI cZ cQ a min_c9 tri bes wkd cos rst bst top str gho ghs pto cro pla wal fal tel gai day mar few doo _ n r_wkd r_top r_str r_gho r_ghs r_cro r_pla r_fal r_gai r_day r_mar (by omega) (by omega) (by exact q0)) (cwV 1 hts gX9_plan_X3_findBest rfl rfl rfl (by decide +kernel) ⟨Nat.le_of_ble_eq_true rfl, Nat.le_of_ble_eq_true rfl⟩) hP hD hS hA hK hN [1, 2, 3, 4, 5, 6, 7, 8, 9, 10, 11, 12, 13, 14, 15, 16, 17, 18, 19, 20, 21] [0] [0, 1, 2, 3, 4, 5, 6, 7, 8, 9, 10, 11, 12, 13, 14, 15, 16, 17, 18, 19, 20, 21] rfl rfl (by decide) (by decide) (by decide) (fun _ => rfl) (by decide) 1 3 rfl rfl rfl hl.1 rfl (Nat.le_of_ble_eq_true rfl) dX9_plan_40 ⟨Nat.le_of_ble_eq_true rfl, Nat.le_of_ble_eq_true rfl⟩ (fun u12 H locs h11 hP hD hS => ?_)
        obtain ⟨cro_c13, ecro_c13⟩ : ∃ f : Nat → Int32, f = (u12.1 0) := ⟨_, rfl⟩
        obtain ⟨cos_c14, ecos_c14⟩ : ∃ f : Nat → Int32, f = (u12.1 1) := ⟨_, rfl⟩
        obtain ⟨wkd_c15, ewkd_c15⟩ : ∃ f : Nat → Int32, f = (u12.1 2) := ⟨_, rfl⟩
        obtain ⟨rst_c16, erst_c16⟩ : ∃ f : Nat → Int32, f = (u12.1 3) := ⟨_, rfl⟩
        obtain ⟨tri_c17, etri_c17⟩ : ∃ f : Nat → Int32, f = (u12.1 4) := ⟨_, rfl⟩
        obtain ⟨bes_c18, ebes_c18⟩ : ∃ f : Nat → Int32, f = (u12.1 5) := ⟨_, rfl⟩
        obtain ⟨bst_c19, ebst_c19⟩ : ∃ f : Int32, f = (u12.1 6 0) := ⟨_, rfl⟩
        have hP : va_P (dC, dI) vwCl (wsPl cI cZ cQ a rb0 rb1 rb2 db0 db1 db2 min_c9 tri_c17 bes_c18 wkd_c15 cos_c14 rst_c16 bst_c19 top str gho ghs pto cro_c13 pla wal fal tel gai day mar few doo) H := by rw [ecro_c13, ecos_c14, ewkd_c15, erst_c16, etri_c17, ebes_c18, ebst_c19]; exact hP
        have hD : va_D A (wsPl cI cZ cQ a rb0 rb1 rb2 db0 db1 db2 min_c9 tri_c17 bes_c18 wkd_c15 cos_c14 rst_c16 bst_c19 top str gho ghs pto cro_c13 pla wal fal tel gai day mar few doo) := by rw [ecro_c13, ecos_c14, ewkd_c15, erst_c16, etri_c17, ebes_c18, ebst_c19]; exact hD
        have h11 : (∀ j : Nat, j < 8 → coC few top (nI j) (cos_c14 j)) ∧ (pbI (okC cos_c14 min_c9 n.toInt.toNat) (vlC mar fal top str tel gai.toInt n.toInt.toNat) n.toInt.toNat (9 ^ n.toInt.toNat) bst_c19.toInt bes_c18) ∧ (rg 48 (0) (6) cro_c13) ∧ (rg 8 (0) (15) wkd_c15) := by (try rw [ecro_c13]); (try rw [ecos_c14]); (try rw [ewkd_c15]); (try rw [erst_c16]); (try rw [etri_c17]); (try rw [ebes_c18]); (try rw [ebst_c19]); exact h11
        obtain ⟨h11_0, h11_1, h11_2, h11_3⟩ := h11
        refine lv_iload_n hx hb dX9_plan_43 rfl (lv_at hl 3 rfl) ?_
        refine lv_if_ge (tgt := 57) hx hb dX9_plan_44 (by decide) (fun c20 => ?_) (fun c20 => ?_)
        · have dc20 : 0 ≤ wh.toInt := leC (show (0 : Int32).toInt = 0 from rfl) rfl c20
          refine lv_aload_n hx hb dX9_plan_57 rfl (lv_at hl 0 rfl) ?_
          refine va_get (D := (dC, dI)) (ci := 9) (v := .ref (a 16)) (C := RX9) (T := TX9) (N := 11) hx hb hts inX9 hown hK hP 0 rfl rfl 4 (by decide) lf44 (fun _ h9 => h9) rfl dX9_plan_58 ?_
          refine va_getN (D := (dC, dI)) (ci := 3) (v := .ref (a 19)) (C := RX3) (T := TX3) (N := 9) hx hb hts inX3 hown hK hP 1 rfl rfl 4 (by decide) lf212 (fun _ h9 => h9) rfl dX9_plan_61 ?_
          refine lv_iload_n hx hb dX9_plan_64 rfl (lv_at hl 3 rfl) ?_
          have b21 : vp_in wh 4 := inC rfl (by omega) (by omega)
          refine va_iald hx hb hK hP 4 0 rfl rfl b21 dX9_plan_65 ?_
          exact W.iret (v := bes_c18 wh.toNatClampNeg) hx hb hr (fun tq ht hW => ⟨⟨bes_c18 wh.toNatClampNeg, (uS [min_c9, cro_c13, cos_c14, wkd_c15, rst_c16, tri_c17, bes_c18, (fun _ => bst_c19)] 0 (fun _ => 0)), rfl, ⟨(show spPlnC few mar fal top str tel gai.toInt n mi wh (bes_c18 wh.toNatClampNeg) from by (first | exact Or.inl ⟨Or.inl (by omega), rfl⟩ | exact Or.inl ⟨Or.inr (Or.inl (by omega)), rfl⟩ | exact Or.inl ⟨Or.inr (Or.inr (by assumption)), rfl⟩ | exact pl_cE ⟨by omega, by omega⟩ ⟨by omega, by omega⟩ (by assumption) (by assumption) (by assumption) (an_s (by omega)) | exact pl_cE ⟨by omega, by omega⟩ ⟨by omega, by omega⟩ (by assumption) (by assumption) (by assumption) (an_b (by omega) (by first | rfl | assumption)))), h11_2, h11_3⟩, by rw [ht]; exact hP, hD⟩, hS.F ht⟩) hS.2.2 dX9_plan_66
        · have dc20 : wh.toInt < 0 := nleC (show (0 : Int32).toInt = 0 from rfl) rfl c20
          refine lv_aload_n hx hb dX9_plan_47 rfl (lv_at hl 0 rfl) ?_
          refine va_get (D := (dC, dI)) (ci := 9) (v := .ref (a 16)) (C := RX9) (T := TX9) (N := 11) hx hb hts inX9 hown hK hP 0 rfl rfl 4 (by decide) lf44 (fun _ h9 => h9) rfl dX9_plan_48 ?_
          refine va_getN (D := (dC, dI)) (ci := 3) (v := .int bst_c19) (C := RX3) (T := TX3) (N := 9) hx hb hts inX3 hown hK hP 1 rfl rfl 8 (by decide) lf209 (fun _ h9 => h9) rfl dX9_plan_51 ?_
          refine lv_goto (tgt := 66) hx hb dX9_plan_54 (by decide) ?_
          exact W.iret (v := bst_c19) hx hb hr (fun tq ht hW => ⟨⟨bst_c19, (uS [min_c9, cro_c13, cos_c14, wkd_c15, rst_c16, tri_c17, bes_c18, (fun _ => bst_c19)] 0 (fun _ => 0)), rfl, ⟨(show spPlnC few mar fal top str tel gai.toInt n mi wh bst_c19 from by (first | exact Or.inl ⟨Or.inl (by omega), rfl⟩ | exact Or.inl ⟨Or.inr (Or.inl (by omega)), rfl⟩ | exact Or.inl ⟨Or.inr (Or.inr (by assumption)), rfl⟩ | exact pl_cE ⟨by omega, by omega⟩ ⟨by omega, by omega⟩ (by assumption) (by assumption) (by assumption) (an_s (by omega)) | exact pl_cE ⟨by omega, by omega⟩ ⟨by omega, by omega⟩ (by assumption) (by assumption) (by assumption) (an_b (by omega) (by first | rfl | assumption)))), h11_2, h11_3⟩, by rw [ht]; exact hP, hD⟩, hS.F ht⟩) hS.2.2 dX9_plan_66
      · refine lv_if_ne (tgt := 35) hx hb dX9_plan_29 (by decide) (fun c9 => absurd (by decide) c9) (fun _ => ?_)
        refine lv_bipush (v := (-3)) hx hb dX9_plan_32 (by decide) ?_
        exact W.iret (v := (-3)) hx hb hr (fun tq ht hW => ⟨⟨(-3), (uS [min_c9, cro, cos, wkd, rst, tri, bes, (fun _ => bst)] 0 (fun _ => 0)), rfl, ⟨(show spPlnC few mar fal top str tel gai.toInt n mi wh ((-3) : Int32) from by (try rw [show ((-3) : Int32).toInt = (-3) from (show ((-3) : Int32).toInt = (-3) from rfl)]); (first | exact Or.inl ⟨Or.inl (by omega), rfl⟩ | exact Or.inl ⟨Or.inr (Or.inl (by omega)), rfl⟩ | exact Or.inl ⟨Or.inr (Or.inr (by assumption)), rfl⟩ | exact pl_cE ⟨by omega, by omega⟩ ⟨by omega, by omega⟩ (by assumption) (by assumption) (by assumption) (an_s (by omega)) | exact pl_cE ⟨by omega, by omega⟩ ⟨by omega, by omega⟩ (by assumption) (by assumption) (by assumption) (an_b (by omega) (by first | rfl | assumption)))), r_cro, r_wkd⟩, by rw [ht]; exact hP, hD⟩, hS.F ht⟩) hS.2.2 dX9_plan_34
    · refine lv_if_eq (tgt := 32) hx hb dX9_plan_17 (by decide) (fun _ => ?_) (fun c9 => absurd (by decide) c9)
      refine lv_bipush (v := (-3)) hx hb dX9_plan_32 (by decide) ?_
      exact W.iret (v := (-3)) hx hb hr (fun tq ht hW => ⟨⟨(-3), (uS [min, cro, cos, wkd, rst, tri, bes, (fun _ => bst)] 0 (fun _ => 0)), rfl, ⟨(show spPlnC few mar fal top str tel gai.toInt n mi wh ((-3) : Int32) from by (try rw [show ((-3) : Int32).toInt = (-3) from (show ((-3) : Int32).toInt = (-3) from rfl)]); (first | exact Or.inl ⟨Or.inl (by omega), rfl⟩ | exact Or.inl ⟨Or.inr (Or.inl (by omega)), rfl⟩ | exact Or.inl ⟨Or.inr (Or.inr (by assumption)), rfl⟩ | exact pl_cE ⟨by omega, by omega⟩ ⟨by omega, by omega⟩ (by assumption) (by assumption) (by assumption) (an_s (by omega)) | exact pl_cE ⟨by omega, by omega⟩ ⟨by omega, by omega⟩ (by assumption) (by assumption) (by assumption) (an_b (by omega) (by first | rfl | assumption)))), r_cro, r_wkd⟩, by rw [ht]; exact hP, hD⟩, hS.F ht⟩) hS.2.2 dX9_plan_34
  · refine lv_if_eq (tgt := 32) hx hb dX9_plan_6 (by decide) (fun _ => ?_) (fun c9 => absurd (by decide) c9)
    refine lv_bipush (v := (-3)) hx hb dX9_plan_32 (by decide) ?_
    exact W.iret (v := (-3)) hx hb hr (fun tq ht hW => ⟨⟨(-3), (uS [min, cro, cos, wkd, rst, tri, bes, (fun _ => bst)] 0 (fun _ => 0)), rfl, ⟨(show spPlnC few mar fal top str tel gai.toInt n mi wh ((-3) : Int32) from by (try rw [show ((-3) : Int32).toInt = (-3) from (show ((-3) : Int32).toInt = (-3) from rfl)]); (first | exact Or.inl ⟨Or.inl (by omega), rfl⟩ | exact Or.inl ⟨Or.inr (Or.inl (by omega)), rfl⟩ | exact Or.inl ⟨Or.inr (Or.inr (by assumption)), rfl⟩ | exact pl_cE ⟨by omega, by omega⟩ ⟨by omega, by omega⟩ (by assumption) (by assumption) (by assumption) (an_s (by omega)) | exact pl_cE ⟨by omega, by omega⟩ ⟨by omega, by omega⟩ (by assumption) (by assumption) (by assumption) (an_b (by omega) (by first | rfl | assumption)))), r_cro, r_wkd⟩, by rw [ht]; exact hP, hD⟩, hS.F ht⟩) hS.2.2 dX9_plan_34
end
section
-- ===== BEST PLANS, the model's search =====
def ckM (A B top : Nat → Int32) (dn : Int) (cos : Nat → Int32) : Prop := ∀ q : Nat, q < 8 → ∀ c : Int32, coM A B dn top (nI q) c → cos q = c
def chT (T : Nat → Int32) (d : Int) : Prop := (∀ j : Nat, (j : Int) < d → 0 ≤ (T j).toInt ∧ (T j).toInt ≤ 8) ∧ (0 ≤ d → -1 ≤ (T d.toNat).toInt ∧ (T d.toNat).toInt ≤ 8)
def lyT (f mar top str : Nat → Int32) (tel : Int32) (g : Int) (T : Nat → Int32) (d : Int) (L : Nat → Int32) : Prop := ∀ k : Nat, (k : Int) ≤ d → ∀ c : Nat, c < 48 → top c ≠ -1 → (L (48 * k + c)).toInt = plU mar f top str tel g T k c
def kkN (T : Nat → Int32) (n : Nat) (d : Int) : Nat := if d < 0 then 9 ^ n else atY T n d ((T d.toNat).toInt + 1)
def plQ (A B mar f top str : Nat → Int32) (dn : Int) (tel : Int32) (g : Int) (mi : Int32) (n : Nat) (d s : Int) (T L Bs : Nat → Int32) : Prop := chT T d ∧ lyT f mar top str tel g T d L ∧ ∀ cos : Nat → Int32, ckM A B top dn cos → wkA T (mnW mi) cos d ∧ pbI (okC cos (mnW mi) n) (vlC mar f top str tel g n) n (kkN T n d) s Bs
def plR (A B mar f top str : Nat → Int32) (dn : Int) (tel : Int32) (g : Int) (mi : Int32) (n : Nat) (d s : Int) (T L Bs : Nat → Int32) : Prop := (∀ j : Nat, (j : Int) < d → 0 ≤ (T j).toInt ∧ (T j).toInt ≤ 8) ∧ lyT f mar top str tel g T d L ∧ ∀ cos : Nat → Int32, ckM A B top dn cos → wkA T (mnW mi) cos d ∧ pbI (okC cos (mnW mi) n) (vlC mar f top str tel g n) n (atN T n d) s Bs
theorem plU_T {mar f top str T T2 : Nat → Int32} {tel : Int32} {g : Int} {k c : Nat} (h : ∀ j, j < k → T j = T2 j) : plU mar f top str tel g T k c = plU mar f top str tel g T2 k c := by
  unfold plU
  refine sv_w (N := k) (fun i hi => ?_) k (Nat.le_refl k)
  show decide (T i = nI (c / 6)) = decide (T2 i = nI (c / 6))
  rw [h i hi]
theorem pl_step {mar f top str T T2 : Nat → Int32} {tel v : Int32} {g : Int} {k c : Nat} (tn : ∀ j, j < k → T2 j = T j) (tk : T2 k = v) (hv : 0 ≤ v.toInt ∧ v.toInt ≤ 8) (hc : c < 48) : fl f (if (c : Int) / 6 = v.toInt then plU mar f top str tel g T k c + gn g (plU mar f top str tel g T k c) else plU mar f top str tel g T k c) (cwF mar top tel c (c - c % 6) 6) = plU mar f top str tel g T2 (k + 1) c := by
  rw [plU_T (mar := mar) (f := f) (top := top) (str := str) (tel := tel) (g := g) (c := c) (T := T) (T2 := T2) (fun j hj => (tn j hj).symm)]
  have e : ((c : Int) / 6 = v.toInt) ↔ (T2 k = nI (c / 6)) := by
    rw [tk]
    refine ⟨fun z => ?_, fun z => ?_⟩
    · have := nI_toNat (y := v) hv.1
      rw [← this]; congr 1; omega
    · have := congrArg Int32.toInt z
      rw [nI_toInt (by omega)] at this; omega
  show _ = fl f (if decide (T2 k = nI (c / 6)) then plU mar f top str tel g T2 k c + gn g (plU mar f top str tel g T2 k c) else plU mar f top str tel g T2 k c) (cwF mar top tel c (c - c % 6) 6)
  by_cases z : (c : Int) / 6 = v.toInt
  · rw [if_pos z, decide_eq_true (e.mp z), if_pos rfl]
  · rw [if_neg z, decide_eq_false (fun w => z (e.mpr w)), if_neg (by decide)]
theorem kk_back {T T1 : Nat → Int32} {n : Nat} {i : Int} (tn : ∀ j : Nat, (j : Int) < i → T1 j = T j) (h : ∀ j : Nat, (j : Int) < i → 0 ≤ (T j).toInt ∧ (T j).toInt ≤ 8) (h0 : 0 ≤ i) : kkN T1 n (i - 1) = toN T n i := by
  unfold kkN toN
  by_cases z : i = 0
  · subst z
    rw [if_pos (by decide)]
    show 9 ^ n = (0 + 1) * 9 ^ (n - 0)
    rw [Nat.zero_add, Nat.one_mul, Nat.sub_zero]
  · rw [if_neg (by omega), show i.toNat = (i - 1).toNat + 1 by omega]
    unfold atY
    show (9 * preN T1 (i - 1).toNat + ((T1 (i - 1).toNat).toInt + 1).toNat) * 9 ^ (n - (i - 1).toNat - 1) = (9 * preN T (i - 1).toNat + (T (i - 1).toNat).toInt.toNat + 1) * 9 ^ (n - ((i - 1).toNat + 1))
    have hh := h (i - 1).toNat (by omega)
    rw [pre_eq (T := T) (i - 1).toNat (fun j hj => tn j (by omega)), tn (i - 1).toNat (by omega), show ((T (i - 1).toNat).toInt + 1).toNat = (T (i - 1).toNat).toInt.toNat + 1 by omega, Nat.sub_sub, Nat.add_assoc]
theorem pb_nM {cos mi B T : Nat → Int32} {V : Nat → Int} {s y2 : Int} {i y : Int32} {n : Nat} (q : pbI (okC cos mi n) V n (atY T n i.toInt y.toInt) s B) (ht : ∀ j : Nat, (j : Int) < i.toInt → 0 ≤ (T j).toInt ∧ (T j).toInt ≤ 8) (hw : ¬ wkb (cos y.toInt.toNat) (mi i.toInt.toNat)) (h0 : 0 ≤ i.toInt) (h : i.toInt < (n : Int)) (hy : 0 ≤ y.toInt) (hy7 : y.toInt ≤ 7) (hy2 : y2 = y.toInt + 1) : pbI (okC cos mi n) V n (atY T n i.toInt y2) s B := by
  have ci := clC (x := i) rfl
  refine pb_skip q ?_ (fun d d1 d2 o => ?_)
  · subst hy2; unfold atY; exact Nat.mul_le_mul_right _ (by omega)
  · have e1 := at_d (n := n) (T3 := upd T i.toNatClampNeg y) (ks_0 (i := i.toInt) (tri := T) (wk := T)) rfl h0 h hy rfl
    have e2 := at_u (n := n) (T3 := upd T i.toNatClampNeg y) (ks_0 (i := i.toInt) (tri := T) (wk := T)) rfl h0 h hy rfl hy2
    rw [← e1] at d1
    rw [← e2] at d2
    have g := dg_pre (T := upd T i.toNatClampNeg y) (n := n) (d := d) (i.toInt + 1).toNat (by omega) (fun j hj => by
      by_cases z : j = i.toNatClampNeg
      · subst z; rw [pk_us]; omega
      · rw [pk_un z]; exact ht j (by omega)) d1 d2 i.toNatClampNeg (by omega)
    rw [pk_us] at g
    have := o i.toNatClampNeg (by omega) (by omega)
    rw [g, ci] at this
    exact hw this
theorem pq_0 {A B mar f top str gho fai T T0 L F Bs : Nat → Int32} {tel mi : Int32} {dn g d s i : Int} {n : Nat} (q : laI top str gho fai i L F) (hi : 48 ≤ i) (e : T = upd T0 (0 : Int32).toNatClampNeg (-1)) (hd : d = 0) (hs : s = -1) : plQ A B mar f top str dn tel g mi n d s T L Bs := by
  subst hd
  have e0 : T 0 = -1 := by
    rw [e]
    show upd T0 (0 : Int32).toNatClampNeg (-1) (0 : Int32).toNatClampNeg = -1
    exact pk_us
  refine ⟨⟨fun j hj => by omega, fun _ => ?_⟩, fun k hk c hc t => ?_, fun cos _ => ⟨wa_0 rfl, pb_0 hs ?_⟩⟩
  · show -1 ≤ (T 0).toInt ∧ (T 0).toInt ≤ 8
    rw [e0]; decide
  · have k0 : k = 0 := by omega
    subst k0
    have w := (q c (by omega)).1
    rw [if_neg t] at w
    rw [show 48 * 0 + c = c by omega, w]; rfl
  · show (if (0 : Int) < 0 then 9 ^ n else atY T n 0 ((T 0).toInt + 1)) = 0
    rw [if_neg (by decide), e0]
    show (9 * 0 + 0) * 9 ^ (n - 0 - 1) = 0
    rw [Nat.mul_zero, Nat.zero_add, Nat.zero_mul]
theorem pq_a {A B mar f top str T T1 L Bs : Nat → Int32} {tel mi i v : Int32} {dn g d2 s : Int} {n : Nat} (q : plQ A B mar f top str dn tel g mi n i.toInt s T L Bs) (e : T1 = upd T i.toNatClampNeg v) (hv : v.toInt = (T i.toNatClampNeg).toInt + 1) (h8 : 8 < v.toInt) (h0 : 0 ≤ i.toInt) (hn : i.toInt < (n : Int)) (hd : d2 = i.toInt - 1) : plQ A B mar f top str dn tel g mi n d2 s T1 L Bs := by
  subst hd
  have ci := clC (x := i) rfl
  obtain ⟨c1, l1, p1⟩ := q
  have td := c1.2 h0
  rw [← ci] at td
  have tn : ∀ j : Nat, (j : Int) < i.toInt → T1 j = T j := fun j hj => by rw [e, pk_un (by omega)]
  refine ⟨⟨fun j hj => by rw [tn j (by omega)]; exact c1.1 j (by omega), fun hz => ?_⟩, fun k hk c hc t => ?_, fun cos hc => ?_⟩
  · have := c1.1 (i.toInt - 1).toNat (by omega)
    rw [tn _ (by omega)]; omega
  · rw [l1 k (by omega) c hc t]; exact plU_T (fun j hj => (tn j (by omega)).symm)
  · obtain ⟨w, p⟩ := p1 cos hc
    refine ⟨fun j hj l => ?_, pb_e p ?_⟩
    · rw [tn j (by omega)] at l ⊢; exact w j (by omega) l
    · have e1 : kkN T n i.toInt = toN T n i.toInt := by
        unfold kkN
        rw [if_neg (by omega)]
        exact at_9 hn h0 (by rw [← ci]; omega)
      rw [e1]
      exact kk_back tn c1.1 h0
theorem pq_n {A B mar f top str T T1 L L2 Bs : Nat → Int32} {tel mi i v : Int32} {dn g s : Int} {n : Nat} (q : plQ A B mar f top str dn tel g mi n i.toInt s T L Bs) (e : T1 = upd T i.toNatClampNeg v) (hv : v.toInt = (T i.toNatClampNeg).toInt + 1) (h : igN A B top dn i (T1 i.toNatClampNeg) mi) (st : ∀ j : Nat, (j : Int) < 48 * i.toInt + 48 → L2 j = L j) (h0 : 0 ≤ i.toInt) (hn : i.toInt < (n : Int)) : plQ A B mar f top str dn tel g mi n i.toInt s T1 L2 Bs := by
  have ci := clC (x := i) rfl
  have er : T1 i.toNatClampNeg = v := by rw [e]; exact pk_us
  rw [er] at h
  obtain ⟨c1, l1, p1⟩ := q
  have td := c1.2 h0
  rw [← ci] at td
  have tn : ∀ j : Nat, (j : Int) < i.toInt → T1 j = T j := fun j hj => by rw [e, pk_un (by omega)]
  obtain ⟨h7, x, hx, hw⟩ := h
  refine ⟨⟨fun j hj => by rw [tn j hj]; exact c1.1 j hj, fun _ => ?_⟩, fun k hk c hc t => ?_, fun cos hck => ?_⟩
  · rw [← ci, er]; omega
  · rw [st (48 * k + c) (by omega), l1 k hk c hc t]; exact plU_T (fun j hj => (tn j (by omega)).symm)
  · obtain ⟨w, p⟩ := p1 cos hck
    have wv : cos v.toInt.toNat = x := hck v.toInt.toNat (by omega) x (by rw [nI_toNat (by omega)]; exact hx)
    refine ⟨fun j hj l => by rw [tn j hj] at l ⊢; exact w j hj l, ?_⟩
    have k1 : kkN T n i.toInt = atY T n i.toInt v.toInt := by
      unfold kkN
      rw [if_neg (by omega), ← ci, ← hv]
    have k2 : kkN T1 n i.toInt = atY T n i.toInt (v.toInt + 1) := by
      unfold kkN
      rw [if_neg (by omega), ← ci, er]
      unfold atY
      rw [pre_eq (T := T) i.toInt.toNat (fun j hj => tn j (by omega))]
    rw [k1] at p
    rw [k2]
    exact pb_nM p c1.1 (by rw [wv]; exact hw) h0 hn (by omega) h7 rfl
theorem pq_R {A B mar f top str T T1 T2 L L2 Bs : Nat → Int32} {tel mi i v z : Int32} {dn g s d2 : Int} {n : Nat} (q : plQ A B mar f top str dn tel g mi n i.toInt s T L Bs) (e : T1 = upd T i.toNatClampNeg v) (e2 : T2 = upd T1 z.toNatClampNeg (-1)) (hv : v.toInt = (T i.toNatClampNeg).toInt + 1) (h8 : v.toInt ≤ 8) (h : igT A B top f mar dn tel g i (T1 i.toNatClampNeg) mi L L2) (h0 : 0 ≤ i.toInt) (hn : i.toInt < (n : Int)) (hz : z.toInt = i.toInt + 1) (hd : d2 = i.toInt + 1) : plR A B mar f top str dn tel g mi n d2 s T2 L2 Bs := by
  subst hd
  have ci := clC (x := i) rfl
  have cz := clC hz
  have er : T1 i.toNatClampNeg = v := by rw [e]; exact pk_us
  rw [er] at h
  obtain ⟨c1, l1, p1⟩ := q
  obtain ⟨hw, hl⟩ := h
  have td := c1.2 h0
  rw [← ci] at td
  have ti : T2 i.toNatClampNeg = v := by rw [e2, pk_un (by omega)]; exact er
  have tn : ∀ j : Nat, (j : Int) < i.toInt → T2 j = T j := fun j hj => by rw [e2, pk_un (by omega), e, pk_un (by omega)]
  have tb : ∀ j : Nat, (j : Int) < i.toInt + 1 → 0 ≤ (T2 j).toInt ∧ (T2 j).toInt ≤ 8 := fun j hj => by
    by_cases c : j = i.toNatClampNeg
    · subst c; rw [ti]; omega
    · rw [tn j (by omega)]; exact c1.1 j (by omega)
  refine ⟨tb, fun k hk c hc t => ?_, fun cos hck => ?_⟩
  · by_cases z1 : (k : Int) = i.toInt + 1
    · have ek : k = i.toInt.toNat + 1 := by omega
      have a := hl.1 c hc t
      have b0 := l1 i.toInt.toNat (by omega) c hc t
      rw [show (48 * i.toInt).toNat + 48 + c = 48 * k + c by omega, show (48 * i.toInt).toNat + c = 48 * i.toInt.toNat + c by omega, b0] at a
      rw [a, ek]
      exact pl_step (fun j hj => tn j (by omega)) (by rw [← ci]; exact ti) ⟨by omega, h8⟩ hc
    · rw [hl.2 (48 * k + c) (by omega), l1 k (by omega) c hc t]; exact plU_T (fun j hj => (tn j (by omega)).symm)
  · obtain ⟨w, p⟩ := p1 cos hck
    refine ⟨fun j hj l => ?_, pb_e p ?_⟩
    · by_cases c : j = i.toNatClampNeg
      · subst c
        rw [ti] at l ⊢
        rcases hw with hw | ⟨x, hx, hk⟩
        · omega
        · have wv : cos v.toInt.toNat = x := hck v.toInt.toNat (by omega) x (by rw [nI_toNat (by omega)]; exact hx)
          rw [clC (x := v) rfl, wv, ci]; exact hk
      · rw [tn j (by omega)] at l ⊢; exact w j (by omega) l
    · have k1 : kkN T n i.toInt = atY T n i.toInt v.toInt := by
        unfold kkN
        rw [if_neg (by omega), ← ci, ← hv]
      rw [k1]
      unfold atN atY
      rw [show (i.toInt + 1).toNat = i.toInt.toNat + 1 by omega]
      show (9 * preN T2 i.toInt.toNat + (T2 i.toInt.toNat).toInt.toNat) * 9 ^ (n - (i.toInt.toNat + 1)) = (9 * preN T i.toInt.toNat + v.toInt.toNat) * 9 ^ (n - i.toInt.toNat - 1)
      rw [pre_eq (T := T) i.toInt.toNat (fun j hj => tn j (by omega)), ← ci, ti, Nat.sub_sub]
theorem pq_d {A B mar f top str T1 T2 L2 Bs : Nat → Int32} {tel mi z : Int32} {dn g s d d2 : Int} {n : Nat} (r : plR A B mar f top str dn tel g mi n d s T2 L2 Bs) (e2 : T2 = upd T1 z.toNatClampNeg (-1)) (hz : z.toInt = d) (h0 : 0 ≤ d) (hn : d < (n : Int)) (hd : d2 = d) : plQ A B mar f top str dn tel g mi n d2 s T2 L2 Bs := by
  subst hd
  have cz := clC hz
  have tz : T2 d2.toNat = -1 := by rw [← cz, e2]; exact pk_us
  obtain ⟨t, l, p⟩ := r
  refine ⟨⟨t, fun _ => by rw [tz]; decide⟩, l, fun cos hck => ⟨(p cos hck).1, pb_e (p cos hck).2 ?_⟩⟩
  unfold kkN
  rw [if_neg (by omega), tz]
  exact at_0 hn h0 (by decide)
def bcI (T B0 B : Nat → Int32) (k m v : Int) : Prop := (k = 0 ∧ B = B0) ∨ (0 < k ∧ m < v ∧ ∀ j : Nat, (j : Int) < k → B j = T j)
def bcX (T B0 B : Nat → Int32) (n m v : Int) : Prop := (m < v ∧ ∀ j : Nat, (j : Int) < n → B j = T j) ∨ (v ≤ m ∧ B = B0)
theorem bc_0 {T B : Nat → Int32} {k m v : Int} (hk : k = 0) : bcI T B B k m v := .inl ⟨hk, rfl⟩
theorem bc_s {T B0 B B2 : Nat → Int32} {k m v : Int} {y x : Int32} (q : bcI T B0 B y.toInt m v) (e : B2 = upd B y.toNatClampNeg x) (hx : x = T y.toNatClampNeg) (c : m < v) (h0 : 0 ≤ y.toInt) (hk : k = y.toInt + 1) : bcI T B0 B2 k m v := by
  subst hk
  have cy := clC (x := y) rfl
  refine .inr ⟨by omega, c, fun j hj => ?_⟩
  by_cases z : j = y.toNatClampNeg
  · subst z; rw [e, pk_us]; exact hx
  · rw [e, pk_un z]
    rcases q with ⟨a, _⟩ | ⟨_, _, b⟩
    · omega
    · exact b j (by omega)
theorem bc_n {T B0 B : Nat → Int32} {k m v n : Int} (q : bcI T B0 B k m v) (h : n ≤ k) (hn : 1 ≤ n) : bcX T B0 B n m v := by
  rcases q with ⟨a, _⟩ | ⟨_, a, b⟩
  · omega
  · exact .inl ⟨a, fun j hj => b j (by omega)⟩
theorem bc_q {T B0 B : Nat → Int32} {k m v n : Int} (q : bcI T B0 B k m v) (h : v ≤ m) : bcX T B0 B n m v := by
  rcases q with ⟨_, a⟩ | ⟨_, a, _⟩
  · exact .inr ⟨h, a⟩
  · omega
def mxX (m v x : Int32) : Prop := (m.toInt < v.toInt ∧ x = v) ∨ (v.toInt ≤ m.toInt ∧ x = m)
theorem mx_v {m v : Int32} (h : m.toInt < v.toInt) : mxX m v v := .inl ⟨h, rfl⟩
theorem mx_m {m v : Int32} (h : v.toInt ≤ m.toInt) : mxX m v m := .inr ⟨h, rfl⟩
theorem pq_l {A B mar f top str T L B0 B2 : Nat → Int32} {tel mi m v x a : Int32} {dn g d d2 N : Int} {n : Nat} (r : plR A B mar f top str dn tel g mi n d m.toInt T L B0) (hd : d = (n : Int)) (hv : v.toInt = srF top (fun c => (L (a.toInt.toNat + c)).toInt) 0 48) (ha : a.toInt = 48 * d) (hv0 : 0 ≤ v.toInt) (b : bcX T B0 B2 N m.toInt v.toInt) (hN : N = d) (hx : mxX m v x) (hd2 : d2 = d - 1) (h1 : 1 ≤ n) : plQ A B mar f top str dn tel g mi n d2 x.toInt T L B2 := by
  rw [hN] at b
  subst hd2; subst hd
  obtain ⟨t, l, p⟩ := r
  have en : ((n : Int)).toNat = n := by omega
  have dg : ∀ j, j < n → dgN n (preN T n) j = (T j).toInt.toNat := dg_pre (T := T) (n := n) n (Nat.le_refl n) (fun j hj => t j (by omega)) (by rw [Nat.sub_self, Nat.pow_zero, Nat.mul_one]; exact Nat.le_refl _) (by rw [Nat.sub_self, Nat.pow_zero, Nat.mul_one]; omega)
  have pl : ∀ j, j < n → plN n (preN T n) j = T j := fun j hj => by
    show nI (dgN n (preN T n) j) = T j
    rw [dg j hj]; exact nI_toNat (t j (by omega)).1
  have eV : vlC mar f top str tel g n (preN T n) = v.toInt := by
    rw [hv]
    unfold vlC
    refine sr_eq (fun _ _ => rfl) (fun c hc z => ?_) 48 (by omega)
    show plU mar f top str tel g (plN n (preN T n)) n c = (L (a.toInt.toNat + c)).toInt
    rw [show a.toInt.toNat + c = 48 * n + c by omega, l n (by omega) c hc z]
    exact plU_T pl
  have ea : atN T n (n : Int) = preN T n := by unfold atN; rw [en, Nat.sub_self, Nat.pow_zero, Nat.mul_one]
  have et : toN T n (n : Int) = preN T n + 1 := by unfold toN; rw [en, Nat.sub_self, Nat.pow_zero, Nat.mul_one]
  have ek : kkN T n ((n : Int) - 1) = preN T n + 1 := (kk_back (fun _ _ => rfl) t (by omega)).trans et
  refine ⟨⟨fun j hj => t j (by omega), fun _ => ?_⟩, fun k hk => l k (by omega), fun cos hck => ?_⟩
  · have := t ((n : Int) - 1).toNat (by omega); omega
  · obtain ⟨w, q⟩ := p cos hck
    rw [ea] at q
    have o : okC cos (mnW mi) n (preN T n) := fun j hj z => by
      have w1 := w j (by omega)
      rw [dg j hj] at z ⊢
      have tj := t j (by omega)
      have := w1 (by omega)
      rw [clC (x := T j) rfl] at this
      exact this
    refine ⟨fun j hj => w j (by omega), ?_⟩
    rcases hx with ⟨c1, c2⟩ | ⟨c1, c2⟩
    · rcases b with ⟨_, b2⟩ | ⟨b1, _⟩
      · exact pb_gt q o (by rw [eV]; exact c1) (by rw [eV, c2]) (fun j hj => by rw [b2 j (by omega), pl j hj]) ek
      · omega
    · rcases b with ⟨b1, _⟩ | ⟨_, b2⟩
      · omega
      · rw [c2, b2]
        exact pb_le q (by rw [eV]; exact hv0) (by rw [eV]; exact c1) ek
def spPlnM (A B mar f top str : Nat → Int32) (dn : Int) (tel : Int32) (g : Int) (n mi wh r : Int32) : Prop := (bdL n mi wh ∧ r = -3) ∨ (okL n mi wh ∧ ∃ (Bs : Nat → Int32) (s : Int32), (∀ cos : Nat → Int32, ckM A B top dn cos → pbI (okC cos (mnW mi) n.toInt.toNat) (vlC mar f top str tel g n.toInt.toNat) n.toInt.toNat (9 ^ n.toInt.toNat) s.toInt Bs) ∧ anL wh r s Bs)
theorem bl_m {n mi wh : Int32} (h : n.toInt < 1 ∨ 4 < n.toInt ∨ ∃ j : Nat, (j : Int) < n.toInt ∧ 99 < (mnW mi j).toInt) : bdL n mi wh := by
  rcases h with h | h | h
  · exact .inl (.inl h)
  · exact .inl (.inr h)
  · exact .inr (.inr h)
theorem pl_mE {A B mar f top str T L Bs : Nat → Int32} {tel n mi wh r s : Int32} {dn g d : Int} (hn : 1 ≤ n.toInt ∧ n.toInt ≤ 4) (hw : -1 ≤ wh.toInt ∧ wh.toInt < n.toInt) (hm : ∀ j : Nat, (j : Int) < n.toInt → (mnW mi j).toInt < 100) (q : plQ A B mar f top str dn tel g mi n.toInt.toNat d s.toInt T L Bs) (h : d < 0) (a : anL wh r s Bs) : spPlnM A B mar f top str dn tel g n mi wh r := by
  refine .inr ⟨⟨hn, hw, hm⟩, Bs, s, fun cos hck => pb_e (q.2.2 cos hck).2 ?_, a⟩
  unfold kkN
  rw [if_pos h]
theorem dg_8 : ∀ n, n ≤ 4 → ∀ i, i < n → dgN n (9 ^ n - 1) i = 8 := by decide +kernel
theorem spPln_rel {few A B mar mm f mfl top str gho ghs pto wal mt ms mg mf mp mw : Nat → Int32} {doo dn tel mtel gai mgai n mi wh r r2 : Int32} (R : crR top str gho ghs pto wal mt ms mg mf mp mw) (Rd : doR few doo A B dn) (hm : mtOK few) (em : mar = mm) (et : tel = mtel) (eg : gai = mgai) (ef : ∀ j, j < 11 → f j = mfl j) (hf : rg 11 0 30 f) (hs : rg 48 0 100 str) (hg : 0 ≤ gai.toInt ∧ gai.toInt ≤ 100) (h1 : spPlnC few mar f top str tel gai.toInt n mi wh r) (h2 : spPlnM A B mm mfl mt ms dn.toInt mtel mgai.toInt n mi wh r2) : r = r2 := by
  subst em; subst et; subst eg
  rcases h1 with ⟨a, b⟩ | ⟨a, cos, Bc, s, hc, q, an⟩
  · rcases h2 with ⟨_, d⟩ | ⟨c, _⟩
    · rw [b, d]
    · exact (ob_L a c).elim
  · rcases h2 with ⟨c, _⟩ | ⟨_, Bm, s2, qm, an2⟩
    · exact (ob_L c a).elim
    · have ht : ∀ j, j < 48 → top j = mt j := fun j hj => (R.1 j hj).1
      have ck : ckM A B mt dn.toInt cos := fun y hy c hcm => by
        have nn : (nI y).toInt = (y : Int) := nI_toInt (by omega)
        exact co_rel hm Rd.2 ht ⟨by omega, by omega⟩ (hc y hy) hcm
      have eV : ∀ d, d < 9 ^ n.toInt.toNat → vlC mar f top str tel gai.toInt n.toInt.toNat d = vlC mar mfl mt ms tel gai.toInt n.toInt.toNat d := by
        intro d _
        unfold vlC
        refine sr_eq ht (fun c hc2 t => ?_) 48 (by omega)
        unfold plU
        have es := (R.1 c hc2).2.2.2.1 t
        have hsc := hs c hc2
        rw [← es, ← cw_eq ht hc2 6 (by omega)]
        exact sv_f ef hf (cw_nn 6) hg.1 hg.2 hsc.1 hsc.2 _
      have hp : 0 < 9 ^ n.toInt.toNat := Nat.pow_pos (by omega)
      have key := pb_det q (qm cos ck) (fun _ _ => Iff.rfl) eV ⟨9 ^ n.toInt.toNat - 1, by omega, fun i hi l => by
        have := dg_8 n.toInt.toNat (by have := a.1; omega) i hi
        rw [this] at l; omega⟩
      have e1 : s = s2 := Int32.toInt_inj.mp key.1
      have aw := a.2.1
      rcases an with ⟨x1, x2⟩ | ⟨x1, x2⟩
      · rcases an2 with ⟨_, y2⟩ | ⟨y1, _⟩
        · rw [x2, y2, e1]
        · omega
      · rcases an2 with ⟨y1, _⟩ | ⟨_, y2⟩
        · omega
        · rw [x2, y2]; exact key.2 wh.toInt.toNat (by omega)
set_option maxHeartbeats 4000000 in
set_option maxRecDepth 100000 in
theorem k_X10_plan2 (l : Launch) (dC : Nat → ClassId) (dI : Nat → Nat → Nat) (cI cZ cQ : ClassId) (b : Nat → Nat) (mday : Int32) (mdoo : Int32) (mdA : Nat → Int32) (mdB : Nat → Int32) (mfar : Nat → Int32) (mmar : Nat → Int32) (mtel : Int32) (mgai : Int32) (mfal : Nat → Int32) (mtop : Nat → Int32) (mstr : Nat → Int32) (mgho : Nat → Int32) (mfai : Nat → Int32) (mpto : Nat → Int32) (mwal : Nat → Int32) (mahd : Nat → Int32) (mahf : Nat → Int32) (mcho : Nat → Int32) (mbes : Nat → Int32) (mbyt : Int32) (mtxt : Nat → Int32) (mpos : Int32) (mtka : Int32) (mtok : Int64) (mdig : Int32) (mnum : Int32) (mfau : Int32) (mrdm : Int32) (mrea : Nat → Int32) (mlin : Int32) (mlne : Nat → Int32) (mthg : Nat → Int32) (mord : Nat → Int32) (mbor : Nat → Int32) (mbsm : Int32) (mans : Nat → Int32) (mand : Nat → Int32) (manr : Nat → Int32) (mali : Nat → Int32) (sz : Nat) (n : Int32) (mi : Int32) (wh : Int32) (r_mday : 0 ≤ mday.toInt ∧ mday.toInt ≤ 400) (r_mdoo : 0 ≤ mdoo.toInt ∧ mdoo.toInt ≤ 14) (r_mdA : rg 14 (0) (7) mdA) (r_mdB : rg 14 (0) (7) mdB) (r_mmar : rg 24 (0) (255) mmar) (r_mgai : 0 ≤ mgai.toInt ∧ mgai.toInt ≤ 100) (r_mfal : rg 11 (0) (30) mfal) (r_mtop : rg 48 (-1) (23) mtop) (r_mstr : rg 48 (0) (100) mstr) (r_mgho : rg 48 (-1) (23) mgho) (r_mfai : rg 48 (0) (100) mfai) (r_mahd : rg 240 (0) (100) mahd) (r_mahf : rg 240 (0) (100) mahf) (r_mcho : rg 5 (-1) (9) mcho) (r_mbyt : 0 ≤ mbyt.toInt ∧ mbyt.toInt ≤ 160) (r_mpos : 0 ≤ mpos.toInt ∧ mpos.toInt ≤ 160) (r_mrdm : 0 ≤ mrdm.toInt ∧ mrdm.toInt ≤ 10) (r_mlin : 0 ≤ mlin.toInt ∧ mlin.toInt ≤ 10) (r_mthg : rg 8 (0) (31) mthg) (r_mord : rg 8 (-1) (8) mord) (r_mans : rg 4 (0) (12) mans) : KW l yX10_plan wsX10_plan { frames := 4, cells := 0, slots := 0, locals := 97 } (dC, dI) (TY cI cZ cQ) (wMod cI cZ cQ b mday mdoo mdA mdB mfar mmar mtel mgai mfal mtop mstr mgho mfai mpto mwal mahd mahf mcho mbes mbyt mtxt mpos mtka mtok mdig mnum mfau mrdm mrea mlin mlne mthg mord mbor mbsm mans mand manr mali) [.ref (b 39), .int n, .int mi, .int wh] sz 0 0 (fun (r : Int32) (u : US) => (spPlnM mdA mdB mmar mfal mtop mstr mdoo.toInt mtel mgai.toInt n mi wh r) ∧ (rg 240 (0) (100) (u.1 0)) ∧ (rg 240 (0) (100) (u.1 1)) ∧ (rg 5 (-1) (9) (u.1 3))) (fun u : US => (wMod cI cZ cQ b mday mdoo mdA mdB (u.1 2) mmar mtel mgai mfal mtop mstr mgho mfai mpto mwal (u.1 0) (u.1 1) (u.1 3) (u.1 4) mbyt mtxt mpos mtka mtok mdig mnum mfau mrdm mrea mlin mlne mthg mord mbor mbsm mans mand manr mali)) := by
  refine Met.ofW (cc := cX10_plan) (maxL := 8) (ret := (some .int)) (by decide) rfl ?_
  intro p e s m args below meth c s₁ B hml hv
  obtain ⟨rfl, hsz, hP, hK, hD0, hN⟩ := hv
  have hx := B.exec
  have hb := B.bytes
  have hr := B.returns
  have hts := atoms_spec (ws := wsX10_plan) B.pre
  have hown : s.vm.findClass RX10 = some m.cls := findClass_of_methodNamed B.named
  have hlocks := B.notSynchronized
  have lf56 := hts (.fieldLink RX10 56 "PalaceOfRoomsModel" "chosen" "[I") (List.mem_cons_of_mem _ (List.mem_append_left _ (List.mem_append_left _ (List.mem_of_getElem? (i := 0) rfl))))
  have inX10 : ∀ w ∈ wsX100, w ∈ wsX10_plan := fun w h => List.mem_cons_of_mem _ (List.mem_append_right _ h)
  have lf59 := hts (.fieldLink RX10 59 "PalaceOfRoomsModel" "best" "[I") (List.mem_cons_of_mem _ (List.mem_append_left _ (List.mem_append_left _ (List.mem_of_getElem? (i := 1) rfl))))
  subst hsz
  have hD := hD0.self (sz := s.heap.size)
  generalize hAe : va_A (wMod cI cZ cQ b mday mdoo mdA mdB mfar mmar mtel mgai mfal mtop mstr mgho mfai mpto mwal mahd mahf mcho mbes mbyt mtxt mpos mtka mtok mdig mnum mfau mrdm mrea mlin mlne mthg mord mbor mbsm mans mand manr mali) s.heap.size = A at hD ⊢
  have hA : ∀ q : Nat, s.heap.size ≤ q → A q := fun q h => by rw [← hAe]; exact Or.inr h
  have hS : va_S A s.heap s.heap [] := va_S.rf
  have hl := lv_entry ([.ref (b 39), .int n, .int mi, .int wh]) (n := 8) (Nat.le_of_ble_eq_true rfl)
  rw [lg_entry_eq]
  generalize (lg_sl ([.ref (b 39), .int n, .int mi, .int wh]) ++ List.replicate (8 - (lg_sl ([.ref (b 39), .int n, .int mi, .int wh])).length) Slot.unset).toArray = ls at hl ⊢
  have hl : lv_has ls 8 [(0, .ref (b 39)), (1, .int n), (2, .int mi), (3, .int wh)] := hl
  refine lv_iload_n hx hb dX10_plan_0 rfl (lv_at hl 1 rfl) ?_
  refine lv_iload_n hx hb dX10_plan_1 rfl (lv_at hl 2 rfl) ?_
  refine rdS (As := [.int n, .int mi]) (rest := []) ⟨hx, hb, hml, hown, hts⟩ (k_X10_areMinutes2 l dC dI cI cZ cQ n mi) (va_cwS 2 hts gX10_plan_X10_areMinutes rfl rfl rfl (by decide +kernel) ⟨Nat.le_of_ble_eq_true rfl, Nat.le_of_ble_eq_true rfl⟩) hP hK hN [] rfl rfl hl.1 rfl (Nat.le_of_ble_eq_true rfl) dX10_plan_2 ⟨Nat.le_of_ble_eq_true rfl, Nat.le_of_ble_eq_true rfl⟩ (fun r1 h2 => ?_)
  have h2 : ((((r1 = 1) ∧ (1 ≤ n.toInt) ∧ (n.toInt ≤ 4) ∧ (∀ j : Nat, (j : Int) < n.toInt → (mnW mi j).toInt < 100)) ∨ ((r1 = 0) ∧ (n.toInt < 1 ∨ 4 < n.toInt ∨ ∃ j : Nat, (j : Int) < n.toInt ∧ 99 < (mnW mi j).toInt)))) := h2
  rcases h2 with (⟨rfl, h2_a0, h2_a1, h2_a2⟩ | ⟨rfl, h2_a0⟩)
  · refine lv_if_eq (tgt := 19) hx hb dX10_plan_5 (by decide) (fun c9 => absurd c9 (by decide)) (fun _ => ?_)
    refine lv_iload_n hx hb dX10_plan_8 rfl (lv_at hl 3 rfl) ?_
    refine lv_iconst (v := (-1)) hx hb dX10_plan_9 (by decide) ?_
    refine lv_iload_n hx hb dX10_plan_10 rfl (lv_at hl 1 rfl) ?_
    refine lv_iconst (v := 1) hx hb dX10_plan_11 (by decide) ?_
    refine lv_isub hx hb dX10_plan_12 ?_
    have f3 : (n - 1).toInt = (n.toInt) - (1) := subC rfl (show (1 : Int32).toInt = 1 from rfl) (by omega) (by omega)
    refine rdS (As := [.int wh, .int (-1), .int (n - 1)]) (rest := []) ⟨hx, hb, hml, hown, hts⟩ (k_X10_in l dC dI cI cZ cQ wh ((-1) : Int32) (n - 1)) (va_cwS 3 hts gX10_plan_X10_in rfl rfl rfl (by decide +kernel) ⟨Nat.le_of_ble_eq_true rfl, Nat.le_of_ble_eq_true rfl⟩) hP hK hN [] rfl rfl hl.1 rfl (Nat.le_of_ble_eq_true rfl) dX10_plan_13 ⟨Nat.le_of_ble_eq_true rfl, Nat.le_of_ble_eq_true rfl⟩ (fun r4 h5 => ?_)
    have h5 : ((((r4 = 1) ∧ ((-1) ≤ wh.toInt) ∧ (wh.toInt ≤ (n - 1).toInt)) ∨ ((r4 = 0) ∧ (wh.toInt < (-1) ∨ (n - 1).toInt < wh.toInt)))) := h5
    rcases h5 with (⟨rfl, h5_a0, h5_a1⟩ | ⟨rfl, h5_a0⟩)
    · refine lv_if_ne (tgt := 22) hx hb dX10_plan_16 (by decide) (fun _ => ?_) (fun c9 => absurd c9 (by decide))
      refine lv_aload_n hx hb dX10_plan_22 rfl (lv_at hl 0 rfl) ?_
      refine wvV (As := []) (rest := []) (wr := []) (w2 := (fun u : US => (wMod cI cZ cQ b mday mdoo mdA mdB mfar mmar mtel mgai mfal mtop mstr mgho mfai mpto mwal (u.1 0) (u.1 1) mcho mbes mbyt mtxt mpos mtka mtok mdig mnum mfau mrdm mrea mlin mlne mthg mord mbor mbsm mans mand manr mali))) ⟨hx, hb, hml, hown, hts⟩ (k_X10_lookAhead2 l dC dI cI cZ cQ b mday mdoo mdA mdB mfar mmar mtel mgai mfal mtop mstr mgho mfai mpto mwal mahd mahf mcho mbes mbyt mtxt mpos mtka mtok mdig mnum mfau mrdm mrea mlin mlne mthg mord mbor mbsm mans mand manr mali _ r_mday r_mdoo r_mdA r_mdB r_mmar r_mgai r_mfal r_mtop r_mstr r_mgho r_mfai r_mahd r_mahf r_mcho r_mbyt r_mpos r_mrdm r_mlin r_mthg r_mord r_mans) (cwV 0 hts gX10_plan_X10_lookAhead rfl rfl rfl (by decide +kernel) ⟨Nat.le_of_ble_eq_true rfl, Nat.le_of_ble_eq_true rfl⟩) hP hD hS hA hK hN [0, 1, 2, 3, 4, 5, 6, 7, 8, 9, 10, 11, 12, 13, 14, 15, 16, 17, 18, 19, 20, 21, 22, 23, 24, 25] [] [0, 1, 2, 3, 4, 5, 6, 7, 8, 9, 10, 11, 12, 13, 14, 15, 16, 17, 18, 19, 20, 21, 22, 23, 24, 25] rfl rfl (by decide) (by decide) (by decide) (fun _ => rfl) (by decide) 0 10 rfl rfl rfl hl.1 rfl (Nat.le_of_ble_eq_true rfl) dX10_plan_23 ⟨Nat.le_of_ble_eq_true rfl, Nat.le_of_ble_eq_true rfl⟩ (fun u8 H locs h7 hP hD hS => ?_)
      obtain ⟨mahd_c9, emahd_c9⟩ : ∃ f : Nat → Int32, f = (u8.1 0) := ⟨_, rfl⟩
      obtain ⟨mahf_c10, emahf_c10⟩ : ∃ f : Nat → Int32, f = (u8.1 1) := ⟨_, rfl⟩
      have hP : va_P (dC, dI) vwCl (wMod cI cZ cQ b mday mdoo mdA mdB mfar mmar mtel mgai mfal mtop mstr mgho mfai mpto mwal mahd_c9 mahf_c10 mcho mbes mbyt mtxt mpos mtka mtok mdig mnum mfau mrdm mrea mlin mlne mthg mord mbor mbsm mans mand manr mali) H := by rw [emahd_c9, emahf_c10]; exact hP
      have hD : va_D A (wMod cI cZ cQ b mday mdoo mdA mdB mfar mmar mtel mgai mfal mtop mstr mgho mfai mpto mwal mahd_c9 mahf_c10 mcho mbes mbyt mtxt mpos mtka mtok mdig mnum mfau mrdm mrea mlin mlne mthg mord mbor mbsm mans mand manr mali) := by rw [emahd_c9, emahf_c10]; exact hD
      have h7 : (laI mtop mstr mgho mfai 48 mahd_c9 mahf_c10) ∧ (rg 240 (0) (100) mahd_c9) ∧ (rg 240 (0) (100) mahf_c10) := by (try rw [emahd_c9]); (try rw [emahf_c10]); exact h7
      obtain ⟨h7_0, h7_1, h7_2⟩ := h7
      refine lv_iconst (v := (-1)) hx hb dX10_plan_26 (by decide) ?_
      refine lv_istore (lv' := [(4, .int (-1)), (0, .ref (b 39)), (1, .int n), (2, .int mi), (3, .int wh)]) hx hb dX10_plan_27 hl (by decide) rfl (fun ls hl => ?_)
      refine lv_iconst (v := 0) hx hb dX10_plan_29 (by decide) ?_
      refine lv_istore (lv' := [(5, .int 0), (4, .int (-1)), (0, .ref (b 39)), (1, .int n), (2, .int mi), (3, .int wh)]) hx hb dX10_plan_30 hl (by decide) rfl (fun ls hl => ?_)
      refine lv_aload_n hx hb dX10_plan_32 rfl (lv_at hl 2 rfl) ?_
      refine va_get (D := (dC, dI)) (ci := 10) (v := .ref (b 17)) (C := RX10) (T := TX10) (N := 39) hx hb hts inX10 hown hK hP 0 rfl rfl 17 (by decide) lf56 (fun _ h9 => h9) rfl dX10_plan_33 ?_
      refine lv_iconst (v := 0) hx hb dX10_plan_36 (by decide) ?_
      refine lv_iconst (v := (-1)) hx hb dX10_plan_37 (by decide) ?_
      have b11 : vp_in 0 5 := (show ¬ _ from by decide)
      have g12 : rg 5 (-1) (9) (upd mcho (0 : Int32).toNatClampNeg (-1)) := rg_upd r_mcho (show ((-1) : Int32).toInt = (-1) from rfl) (by omega) (by omega)
      refine va_iast hx hb hK hP hD hS 14 0 rfl rfl b11 dX10_plan_38 (fun H locs hP hD hS => ?_)
      obtain ⟨mcho_u13, emcho_u13⟩ : ∃ f : Nat → Int32, f = upd mcho (0 : Int32).toNatClampNeg (-1) := ⟨_, rfl⟩
      have rmcho_u13 : rg 5 (-1) (9) mcho_u13 := by rw [emcho_u13]; exact g12
      have hP : va_P (dC, dI) vwCl (wMod cI cZ cQ b mday mdoo mdA mdB mfar mmar mtel mgai mfal mtop mstr mgho mfai mpto mwal mahd_c9 mahf_c10 mcho_u13 mbes mbyt mtxt mpos mtka mtok mdig mnum mfau mrdm mrea mlin mlne mthg mord mbor mbsm mans mand manr mali) H := by rw [emcho_u13]; exact hP
      have hD : va_D A (wMod cI cZ cQ b mday mdoo mdA mdB mfar mmar mtel mgai mfal mtop mstr mgho mfai mpto mwal mahd_c9 mahf_c10 mcho_u13 mbes mbyt mtxt mpos mtka mtok mdig mnum mfau mrdm mrea mlin mlne mthg mord mbor mbsm mans mand manr mali) := by rw [emcho_u13]; exact hD
      have L39 : ∀ (nn : Nat) (y39_4 : Int32) (y39_5 : Int32) (mahd_39 : Nat → Int32) (mahf_39 : Nat → Int32) (mfar_39 : Nat → Int32) (mcho_39 : Nat → Int32) (mbes_39 : Nat → Int32) (H : Heap) (locs : List Loc) (ls : Array Slot), (rg 240 (0) (100) mahd_39) → (rg 240 (0) (100) mahf_39) → (rg 5 (-1) (9) mcho_39) → (-1 ≤ (y39_5.toInt)) → ((y39_5.toInt) ≤ 3) → ((y39_5.toInt) < n.toInt) → (ordOK 9 (y39_5.toInt) mcho_39) → (plQ mdA mdB mmar mfal mtop mstr mdoo.toInt mtel mgai.toInt mi n.toInt.toNat (y39_5.toInt) (y39_4.toInt) mcho_39 mahd_39 mbes_39) → omM 9 11 4 mcho_39 ((y39_5.toInt) + 1).toNat < nn → va_P (dC, dI) vwCl (wMod cI cZ cQ b mday mdoo mdA mdB mfar_39 mmar mtel mgai mfal mtop mstr mgho mfai mpto mwal mahd_39 mahf_39 mcho_39 mbes_39 mbyt mtxt mpos mtka mtok mdig mnum mfau mrdm mrea mlin mlne mthg mord mbor mbsm mans mand manr mali) H → va_D A (wMod cI cZ cQ b mday mdoo mdA mdB mfar_39 mmar mtel mgai mfal mtop mstr mgho mfai mpto mwal mahd_39 mahf_39 mcho_39 mbes_39 mbyt mtxt mpos mtka mtok mdig mnum mfau mrdm mrea mlin mlne mthg mord mbor mbsm mans mand manr mali) → va_S A s.heap H locs → lv_has ls 8 [(0, .ref (b 39)), (1, .int n), (2, .int mi), (3, .int wh), (4, .int y39_4), (5, .int y39_5)] → W p l e (headSpec wsX10_plan { frames := 4, cells := 0, slots := 0, locals := 97 }).room s m ([.ref (b 39), .int n, .int mi, .int wh] : List Value).toArray below meth c H locs 0 0 (MQ below (va_Qi (fun (r : Int32) (u : US) => (spPlnM mdA mdB mmar mfal mtop mstr mdoo.toInt mtel mgai.toInt n mi wh r) ∧ (rg 240 (0) (100) (u.1 0)) ∧ (rg 240 (0) (100) (u.1 1)) ∧ (rg 5 (-1) (9) (u.1 3))) (Bw (dC, dI) A (fun u : US => (wMod cI cZ cQ b mday mdoo mdA mdB (u.1 2) mmar mtel mgai mfal mtop mstr mgho mfai mpto mwal (u.1 0) (u.1 1) (u.1 3) (u.1 4) mbyt mtxt mpos mtka mtok mdig mnum mfau mrdm mrea mlin mlne mthg mord mbor mbsm mans mand manr mali))) A) ([.ref (b 39), .int n, .int mi, .int wh] : List Value).toArray s 0 0 A) (F0 m 39 ls []) := by
        intro nn
        induction nn with
        | zero =>
          intro y39_4 y39_5 mahd_39 mahf_39 mfar_39 mcho_39 mbes_39 H locs ls r_mahd_39 r_mahf_39 r_mcho_39 i39_0 i39_1 i39_2 i39_3 i39_4 hm39
          exact absurd hm39 (Nat.not_lt_zero _)
        | succ nn ih39 =>
          intro y39_4 y39_5 mahd_39 mahf_39 mfar_39 mcho_39 mbes_39 H locs ls r_mahd_39 r_mahf_39 r_mcho_39 i39_0 i39_1 i39_2 i39_3 i39_4 hm39 hP hD hS hl
          refine lv_iload hx hb dX10_plan_39 (lv_at hl 5 rfl) ?_
          refine lv_if_lt (tgt := 175) hx hb dX10_plan_41 (by decide) (fun c14 => ?_) (fun c14 => ?_)
          · have dc14 : y39_5.toInt < 0 := ltC rfl (show (0 : Int32).toInt = 0 from rfl) c14
            refine lv_iload_n hx hb dX10_plan_175 rfl (lv_at hl 3 rfl) ?_
            refine lv_iconst (v := (-1)) hx hb dX10_plan_176 (by decide) ?_
            refine lv_icmp_ne (tgt := 185) hx hb dX10_plan_177 (by decide) (fun c15 => ?_) (fun c15 => ?_)
            · have dc15 : 0 ≤ wh.toInt := ka_lo (by omega) (neC rfl (show ((-1) : Int32).toInt = (-1) from rfl) c15)
              refine lv_aload_n hx hb dX10_plan_185 rfl (lv_at hl 0 rfl) ?_
              refine va_get (D := (dC, dI)) (ci := 10) (v := .ref (b 18)) (C := RX10) (T := TX10) (N := 39) hx hb hts inX10 hown hK hP 0 rfl rfl 18 (by decide) lf59 (fun _ h9 => h9) rfl dX10_plan_186 ?_
              refine lv_iload_n hx hb dX10_plan_189 rfl (lv_at hl 3 rfl) ?_
              have b16 : vp_in wh 4 := inC rfl (by omega) (by omega)
              refine va_iald hx hb hK hP 15 0 rfl rfl b16 dX10_plan_190 ?_
              exact W.iret (v := mbes_39 wh.toNatClampNeg) hx hb hr (fun tq ht hW => ⟨⟨mbes_39 wh.toNatClampNeg, (uS [mahd_39, mahf_39, mfar_39, mcho_39, mbes_39] 0 (fun _ => 0)), rfl, ⟨(show spPlnM mdA mdB mmar mfal mtop mstr mdoo.toInt mtel mgai.toInt n mi wh (mbes_39 wh.toNatClampNeg) from by (first | exact Or.inl ⟨bl_m (by assumption), rfl⟩ | exact Or.inl ⟨Or.inr (Or.inl (by omega)), rfl⟩ | exact pl_mE ⟨by omega, by omega⟩ ⟨by omega, by omega⟩ (by assumption) i39_4 (by omega) (an_s (by omega)) | exact pl_mE ⟨by omega, by omega⟩ ⟨by omega, by omega⟩ (by assumption) i39_4 (by omega) (an_b (by omega) rfl))), r_mahd_39, r_mahf_39, r_mcho_39⟩, by rw [ht]; exact hP, hD⟩, hS.F ht⟩) hS.2.2 dX10_plan_191
            · have dc15 : wh.toInt = (-1) := eqC rfl (show ((-1) : Int32).toInt = (-1) from rfl) c15
              refine lv_iload hx hb dX10_plan_180 (lv_at hl 4 rfl) ?_
              refine lv_goto (tgt := 191) hx hb dX10_plan_182 (by decide) ?_
              exact W.iret (v := y39_4) hx hb hr (fun tq ht hW => ⟨⟨y39_4, (uS [mahd_39, mahf_39, mfar_39, mcho_39, mbes_39] 0 (fun _ => 0)), rfl, ⟨(show spPlnM mdA mdB mmar mfal mtop mstr mdoo.toInt mtel mgai.toInt n mi wh y39_4 from by (first | exact Or.inl ⟨bl_m (by assumption), rfl⟩ | exact Or.inl ⟨Or.inr (Or.inl (by omega)), rfl⟩ | exact pl_mE ⟨by omega, by omega⟩ ⟨by omega, by omega⟩ (by assumption) i39_4 (by omega) (an_s (by omega)) | exact pl_mE ⟨by omega, by omega⟩ ⟨by omega, by omega⟩ (by assumption) i39_4 (by omega) (an_b (by omega) rfl))), r_mahd_39, r_mahf_39, r_mcho_39⟩, by rw [ht]; exact hP, hD⟩, hS.F ht⟩) hS.2.2 dX10_plan_191
          · have dc14 : 0 ≤ y39_5.toInt := nltC rfl (show (0 : Int32).toInt = 0 from rfl) c14
            have wo := ord_at i39_3 (rfl) (by omega)
            refine lv_aload_n hx hb dX10_plan_44 rfl (lv_at hl 0 rfl) ?_
            refine va_get (D := (dC, dI)) (ci := 10) (v := .ref (b 17)) (C := RX10) (T := TX10) (N := 39) hx hb hts inX10 hown hK hP 0 rfl rfl 17 (by decide) lf56 (fun _ h9 => h9) rfl dX10_plan_45 ?_
            refine lv_iload hx hb dX10_plan_48 (lv_at hl 5 rfl) ?_
            refine lv_dup2_11 hx hb dX10_plan_50 rfl rfl ?_
            have b17 : vp_in y39_5 5 := inC rfl (by omega) (by omega)
            refine va_iald hx hb hK hP 14 0 rfl rfl b17 dX10_plan_51 ?_
            have g18 : -1 ≤ (mcho_39 y39_5.toNatClampNeg).toInt ∧ (mcho_39 y39_5.toNatClampNeg).toInt ≤ 9 := rg_at r_mcho_39 b17
            refine lv_iconst (v := 1) hx hb dX10_plan_52 (by decide) ?_
            refine lv_iadd hx hb dX10_plan_53 ?_
            have f19 : ((mcho_39 y39_5.toNatClampNeg) + 1).toInt = ((mcho_39 y39_5.toNatClampNeg).toInt) + (1) := addC rfl (show (1 : Int32).toInt = 1 from rfl) (by omega) (by omega)
            refine lv_topi (fun x20 ex20 => ?_)
            have ix20 : x20.toInt = ((mcho_39 y39_5.toNatClampNeg).toInt) + (1) := by rw [ex20]; exact f19
            have b21 : vp_in y39_5 5 := inC rfl (by omega) (by omega)
            have g22 : rg 5 (-1) (9) (upd mcho_39 y39_5.toNatClampNeg x20) := rg_upd r_mcho_39 rfl (by omega) (by omega)
            refine va_iast hx hb hK hP hD hS 14 0 rfl rfl b21 dX10_plan_54 (fun H locs hP hD hS => ?_)
            obtain ⟨mcho_u23, emcho_u23⟩ : ∃ f : Nat → Int32, f = upd mcho_39 y39_5.toNatClampNeg x20 := ⟨_, rfl⟩
            have rmcho_u23 : rg 5 (-1) (9) mcho_u23 := by rw [emcho_u23]; exact g22
            have hP : va_P (dC, dI) vwCl (wMod cI cZ cQ b mday mdoo mdA mdB mfar_39 mmar mtel mgai mfal mtop mstr mgho mfai mpto mwal mahd_39 mahf_39 mcho_u23 mbes_39 mbyt mtxt mpos mtka mtok mdig mnum mfau mrdm mrea mlin mlne mthg mord mbor mbsm mans mand manr mali) H := by rw [emcho_u23]; exact hP
            have hD : va_D A (wMod cI cZ cQ b mday mdoo mdA mdB mfar_39 mmar mtel mgai mfal mtop mstr mgho mfai mpto mwal mahd_39 mahf_39 mcho_u23 mbes_39 mbyt mtxt mpos mtka mtok mdig mnum mfau mrdm mrea mlin mlne mthg mord mbor mbsm mans mand manr mali) := by rw [emcho_u23]; exact hD
            refine lv_aload_n hx hb dX10_plan_55 rfl (lv_at hl 0 rfl) ?_
            refine va_get (D := (dC, dI)) (ci := 10) (v := .ref (b 17)) (C := RX10) (T := TX10) (N := 39) hx hb hts inX10 hown hK hP 0 rfl rfl 17 (by decide) lf56 (fun _ h9 => h9) rfl dX10_plan_56 ?_
            refine lv_iload hx hb dX10_plan_59 (lv_at hl 5 rfl) ?_
            have b24 : vp_in y39_5 5 := inC rfl (by omega) (by omega)
            refine va_iald hx hb hK hP 14 0 rfl rfl b24 dX10_plan_61 ?_
            have g25 : -1 ≤ (mcho_u23 y39_5.toNatClampNeg).toInt ∧ (mcho_u23 y39_5.toNatClampNeg).toInt ≤ 9 := rg_at rmcho_u23 b24
            have o26 : (mcho_u23 y39_5.toNatClampNeg).toInt = x20.toInt := by rw [emcho_u23, pk_us]
            refine lv_bipush (v := 8) hx hb dX10_plan_62 (by decide) ?_
            refine lv_icmp_le (tgt := 73) hx hb dX10_plan_64 (by decide) (fun c27 => ?_) (fun c27 => ?_)
            · have dc27 : (mcho_u23 y39_5.toNatClampNeg).toInt ≤ 8 := leC rfl (show (8 : Int32).toInt = 8 from rfl) c27
              refine lv_aload_n hx hb dX10_plan_73 rfl (lv_at hl 0 rfl) ?_
              refine lv_iload hx hb dX10_plan_74 (lv_at hl 5 rfl) ?_
              refine lv_aload_n hx hb dX10_plan_76 rfl (lv_at hl 0 rfl) ?_
              refine va_get (D := (dC, dI)) (ci := 10) (v := .ref (b 17)) (C := RX10) (T := TX10) (N := 39) hx hb hts inX10 hown hK hP 0 rfl rfl 17 (by decide) lf56 (fun _ h9 => h9) rfl dX10_plan_77 ?_
              refine lv_iload hx hb dX10_plan_80 (lv_at hl 5 rfl) ?_
              have b28 : vp_in y39_5 5 := inC rfl (by omega) (by omega)
              refine va_iald hx hb hK hP 14 0 rfl rfl b28 dX10_plan_82 ?_
              have g29 : -1 ≤ (mcho_u23 y39_5.toNatClampNeg).toInt ∧ (mcho_u23 y39_5.toNatClampNeg).toInt ≤ 9 := rg_at rmcho_u23 b28
              have o30 : (mcho_u23 y39_5.toNatClampNeg).toInt = x20.toInt := by rw [emcho_u23, pk_us]
              refine lv_iload_n hx hb dX10_plan_83 rfl (lv_at hl 2 rfl) ?_
              refine wrV (As := [.int y39_5, .int (mcho_u23 y39_5.toNatClampNeg), .int mi]) (rest := []) (wr := []) (w2 := (fun u : US => (wMod cI cZ cQ b mday mdoo mdA mdB (u.1 2) mmar mtel mgai mfal mtop mstr mgho mfai mpto mwal (u.1 0) (u.1 1) mcho_u23 mbes_39 mbyt mtxt mpos mtka mtok mdig mnum mfau mrdm mrea mlin mlne mthg mord mbor mbsm mans mand manr mali))) ⟨hx, hb, hml, hown, hts⟩ (k_X10_isGone2 l dC dI cI cZ cQ b mday mdoo mdA mdB mfar_39 mmar mtel mgai mfal mtop mstr mgho mfai mpto mwal mahd_39 mahf_39 mcho_u23 mbes_39 mbyt mtxt mpos mtka mtok mdig mnum mfau mrdm mrea mlin mlne mthg mord mbor mbsm mans mand manr mali _ y39_5 (mcho_u23 y39_5.toNatClampNeg) mi r_mday r_mdoo r_mdA r_mdB r_mmar r_mgai r_mfal r_mtop r_mstr r_mgho r_mfai r_mahd_39 r_mahf_39 rmcho_u23 r_mbyt r_mpos r_mrdm r_mlin r_mthg r_mord r_mans (by omega) (by omega) (by omega) (by omega)) (cwV 3 hts gX10_plan_X10_isGone rfl rfl rfl (by decide +kernel) ⟨Nat.le_of_ble_eq_true rfl, Nat.le_of_ble_eq_true rfl⟩) hP hD hS hA hK hN [0, 1, 2, 3, 4, 5, 6, 7, 8, 9, 10, 11, 12, 13, 14, 15, 16, 17, 18, 19, 20, 21, 22, 23, 24, 25] [] [0, 1, 2, 3, 4, 5, 6, 7, 8, 9, 10, 11, 12, 13, 14, 15, 16, 17, 18, 19, 20, 21, 22, 23, 24, 25] rfl rfl (by decide) (by decide) (by decide) (fun _ => rfl) (by decide) 0 10 rfl rfl rfl hl.1 rfl (Nat.le_of_ble_eq_true rfl) dX10_plan_84 ⟨Nat.le_of_ble_eq_true rfl, Nat.le_of_ble_eq_true rfl⟩ (fun r31 u33 H locs h32 hP hD hS => ?_)
              obtain ⟨mahd_c34, emahd_c34⟩ : ∃ f : Nat → Int32, f = (u33.1 0) := ⟨_, rfl⟩
              obtain ⟨mahf_c35, emahf_c35⟩ : ∃ f : Nat → Int32, f = (u33.1 1) := ⟨_, rfl⟩
              obtain ⟨mfar_c36, emfar_c36⟩ : ∃ f : Nat → Int32, f = (u33.1 2) := ⟨_, rfl⟩
              have hP : va_P (dC, dI) vwCl (wMod cI cZ cQ b mday mdoo mdA mdB mfar_c36 mmar mtel mgai mfal mtop mstr mgho mfai mpto mwal mahd_c34 mahf_c35 mcho_u23 mbes_39 mbyt mtxt mpos mtka mtok mdig mnum mfau mrdm mrea mlin mlne mthg mord mbor mbsm mans mand manr mali) H := by rw [emahd_c34, emahf_c35, emfar_c36]; exact hP
              have hD : va_D A (wMod cI cZ cQ b mday mdoo mdA mdB mfar_c36 mmar mtel mgai mfal mtop mstr mgho mfai mpto mwal mahd_c34 mahf_c35 mcho_u23 mbes_39 mbyt mtxt mpos mtka mtok mdig mnum mfau mrdm mrea mlin mlne mthg mord mbor mbsm mans mand manr mali) := by rw [emahd_c34, emahf_c35, emfar_c36]; exact hD
              have h32 : ((((r31 = 1) ∧ (igT mdA mdB mtop mfal mmar mdoo.toInt mtel mgai.toInt y39_5 (mcho_u23 y39_5.toNatClampNeg) mi mahd_39 mahd_c34)) ∨ ((r31 = 0) ∧ (igN mdA mdB mtop mdoo.toInt y39_5 (mcho_u23 y39_5.toNatClampNeg) mi) ∧ (∀ j : Nat, (j : Int) < 48 * y39_5.toInt + 48 → mahd_c34 j = mahd_39 j)))) ∧ (rg 240 (0) (100) mahd_c34) ∧ (rg 240 (0) (100) mahf_c35) := by (try rw [emahd_c34]); (try rw [emahf_c35]); (try rw [emfar_c36]); exact h32
              rcases h32 with ⟨(⟨rfl, h32_a0⟩ | ⟨rfl, h32_a0, h32_a1⟩), h32_0, h32_1⟩
              · refine lv_if_eq (tgt := 39) hx hb dX10_plan_87 (by decide) (fun c9 => absurd c9 (by decide)) (fun _ => ?_)
                obtain ⟨z37, ez37⟩ : ∃ y : Int32, y = y39_5 + 1 := ⟨_, rfl⟩
                have iz37 : z37.toInt = y39_5.toInt + 1 := by rw [ez37]; exact addC rfl rfl (by omega) (by omega)
                refine lv_iinc (v := z37) (lv' := [(5, .int z37), (0, .ref (b 39)), (1, .int n), (2, .int mi), (3, .int wh), (4, .int y39_4)]) hx hb dX10_plan_90 hl (k := 5) rfl (by rw [ez37]; rfl) (by decide) rfl (fun ls hl => ?_)
                refine lv_aload_n hx hb dX10_plan_93 rfl (lv_at hl 1 rfl) ?_
                refine va_get (D := (dC, dI)) (ci := 10) (v := .ref (b 17)) (C := RX10) (T := TX10) (N := 39) hx hb hts inX10 hown hK hP 0 rfl rfl 17 (by decide) lf56 (fun _ h9 => h9) rfl dX10_plan_94 ?_
                refine lv_iload hx hb dX10_plan_97 (lv_at hl 0 rfl) ?_
                refine lv_iconst (v := (-1)) hx hb dX10_plan_99 (by decide) ?_
                have b38 : vp_in z37 5 := inC rfl (by omega) (by omega)
                have g39 : rg 5 (-1) (9) (upd mcho_u23 z37.toNatClampNeg (-1)) := rg_upd rmcho_u23 (show ((-1) : Int32).toInt = (-1) from rfl) (by omega) (by omega)
                refine va_iast hx hb hK hP hD hS 14 0 rfl rfl b38 dX10_plan_100 (fun H locs hP hD hS => ?_)
                obtain ⟨mcho_u40, emcho_u40⟩ : ∃ f : Nat → Int32, f = upd mcho_u23 z37.toNatClampNeg (-1) := ⟨_, rfl⟩
                have rmcho_u40 : rg 5 (-1) (9) mcho_u40 := by rw [emcho_u40]; exact g39
                have hP : va_P (dC, dI) vwCl (wMod cI cZ cQ b mday mdoo mdA mdB mfar_c36 mmar mtel mgai mfal mtop mstr mgho mfai mpto mwal mahd_c34 mahf_c35 mcho_u40 mbes_39 mbyt mtxt mpos mtka mtok mdig mnum mfau mrdm mrea mlin mlne mthg mord mbor mbsm mans mand manr mali) H := by rw [emcho_u40]; exact hP
                have hD : va_D A (wMod cI cZ cQ b mday mdoo mdA mdB mfar_c36 mmar mtel mgai mfal mtop mstr mgho mfai mpto mwal mahd_c34 mahf_c35 mcho_u40 mbes_39 mbyt mtxt mpos mtka mtok mdig mnum mfau mrdm mrea mlin mlne mthg mord mbor mbsm mans mand manr mali) := by rw [emcho_u40]; exact hD
                refine lv_iload hx hb dX10_plan_101 (lv_at hl 0 rfl) ?_
                refine lv_iload_n hx hb dX10_plan_103 rfl (lv_at hl 2 rfl) ?_
                refine lv_icmp_ne (tgt := 39) hx hb dX10_plan_104 (by decide) (fun c41 => ?_) (fun c41 => ?_)
                · have dc41 : z37.toInt ≠ n.toInt := neC rfl rfl c41
                  exact ih39 y39_4 z37 mahd_c34 mahf_c35 mfar_c36 mcho_u40 mbes_39 _ _ _ h32_0 h32_1 rmcho_u40 (by omega) (by omega) (by omega) (by (first | exact ok_down3 emcho_u40 i39_3 rfl (by omega) (by omega) | exact ok_same3 emcho_u40 i39_3 rfl (by omega) (by omega) (by omega) | exact ok_up3 emcho_u40 (by assumption) i39_3 (by omega) rfl (by omega) (by omega) (by omega) (by omega) rfl (by omega) | exact ok_back3 emcho_u40 (by assumption) i39_3 rfl (by omega) (by omega) (by omega) (by omega) (by omega) | exact ok_init3 emcho_u40 rfl rfl (by omega))) (by (first | exact pq_l (pq_R i39_4 (by assumption) (by assumption) (by omega) (by omega) (by assumption) (by omega) (by omega) (by omega) rfl) (by omega) (by assumption) (by omega) (by omega) i153_0 (by omega) i169_0 (by omega) (by omega) | exact pq_d (pq_R i39_4 (by assumption) (by assumption) (by omega) (by omega) (by assumption) (by omega) (by omega) (by omega) rfl) (by assumption) (by omega) (by omega) (by omega) (by omega) | exact pq_n i39_4 (by assumption) (by omega) (by assumption) (by assumption) (by omega) (by omega) | exact pq_a i39_4 (by assumption) (by omega) (by omega) (by omega) (by omega) (by omega) | exact pq_0 (by assumption) (by omega) (by assumption) (by first | rfl | omega) (by first | rfl | omega))) (by (refine Nat.lt_of_lt_of_le ?_ (Nat.le_of_lt_succ hm39); first | exact om_down3 emcho_u40 (by decide) rfl (by omega) (by omega) (by omega) | exact om_same3 emcho_u40 (by decide) rfl (by omega) (by omega) (by omega) | exact om_up3 emcho_u40 (by assumption) (by omega) rfl (by omega) (by omega) (by omega) (by omega) (by omega) rfl (by omega) | exact om_back3 emcho_u40 (by assumption) (by decide) rfl (by omega) (by omega) (by omega) (by omega) (by omega))) hP hD hS (lv_sub hl [1, 2, 3, 4, 5, 0] rfl)
                · have dc41 : z37.toInt = n.toInt := eqC rfl rfl c41
                  refine lv_aload_n hx hb dX10_plan_107 rfl (lv_at hl 1 rfl) ?_
                  refine lv_bipush (v := 48) hx hb dX10_plan_108 (by decide) ?_
                  refine lv_iload_n hx hb dX10_plan_110 rfl (lv_at hl 2 rfl) ?_
                  refine lv_imul hx hb dX10_plan_111 ?_
                  have f42 : (48 * n).toInt = (48) * (n.toInt) := mulC (show (48 : Int32).toInt = 48 from rfl) rfl (by omega) (by omega)
                  refine rdV (As := [.int (48 * n)]) (rest := []) ⟨hx, hb, hml, hown, hts⟩ (k_X10_allAt2 l dC dI cI cZ cQ b mday mdoo mdA mdB mfar_c36 mmar mtel mgai mfal mtop mstr mgho mfai mpto mwal mahd_c34 mahf_c35 mcho_u40 mbes_39 mbyt mtxt mpos mtka mtok mdig mnum mfau mrdm mrea mlin mlne mthg mord mbor mbsm mans mand manr mali (48 * n) r_mday r_mdoo r_mdA r_mdB r_mmar r_mgai r_mfal r_mtop r_mstr r_mgho r_mfai h32_0 h32_1 rmcho_u40 r_mbyt r_mpos r_mrdm r_mlin r_mthg r_mord r_mans (by omega) (by omega)) (cwV 1 hts gX10_plan_X10_allAt rfl rfl rfl (by decide +kernel) ⟨Nat.le_of_ble_eq_true rfl, Nat.le_of_ble_eq_true rfl⟩) hP hK hN [0, 1, 2, 3, 4, 5, 6, 7, 8, 9, 10, 11, 12, 13, 14, 15, 16, 17, 18, 19, 20, 21, 22, 23, 24, 25] rfl 0 10 rfl rfl rfl hl.1 rfl (Nat.le_of_ble_eq_true rfl) dX10_plan_112 ⟨Nat.le_of_ble_eq_true rfl, Nat.le_of_ble_eq_true rfl⟩ (fun r43 h44 => ?_)
                  have h44 : (r43.toInt = srF mtop (fun c => (mahd_c34 ((48 * n).toInt.toNat + c)).toInt) 0 48) ∧ (0 ≤ r43.toInt) := h44
                  obtain ⟨h44_0, h44_1⟩ := h44
                  refine lv_istore (lv' := [(6, .int r43), (5, .int z37), (0, .ref (b 39)), (1, .int n), (2, .int mi), (3, .int wh), (4, .int y39_4)]) hx hb dX10_plan_115 hl (by decide) rfl (fun ls hl => ?_)
                  have L153 : ∀ (mbes_153 : Nat → Int32) (H : Heap) (locs : List Loc) (ls : Array Slot), (bcX mcho_u40 mbes_39 mbes_153 n.toInt y39_4.toInt (r43.toInt)) → va_P (dC, dI) vwCl (wMod cI cZ cQ b mday mdoo mdA mdB mfar_c36 mmar mtel mgai mfal mtop mstr mgho mfai mpto mwal mahd_c34 mahf_c35 mcho_u40 mbes_153 mbyt mtxt mpos mtka mtok mdig mnum mfau mrdm mrea mlin mlne mthg mord mbor mbsm mans mand manr mali) H → va_D A (wMod cI cZ cQ b mday mdoo mdA mdB mfar_c36 mmar mtel mgai mfal mtop mstr mgho mfai mpto mwal mahd_c34 mahf_c35 mcho_u40 mbes_153 mbyt mtxt mpos mtka mtok mdig mnum mfau mrdm mrea mlin mlne mthg mord mbor mbsm mans mand manr mali) → va_S A s.heap H locs → lv_has ls 8 [(0, .ref (b 39)), (1, .int n), (2, .int mi), (3, .int wh), (4, .int y39_4), (5, .int z37), (6, .int r43)] → W p l e (headSpec wsX10_plan { frames := 4, cells := 0, slots := 0, locals := 97 }).room s m ([.ref (b 39), .int n, .int mi, .int wh] : List Value).toArray below meth c H locs 0 0 (MQ below (va_Qi (fun (r : Int32) (u : US) => (spPlnM mdA mdB mmar mfal mtop mstr mdoo.toInt mtel mgai.toInt n mi wh r) ∧ (rg 240 (0) (100) (u.1 0)) ∧ (rg 240 (0) (100) (u.1 1)) ∧ (rg 5 (-1) (9) (u.1 3))) (Bw (dC, dI) A (fun u : US => (wMod cI cZ cQ b mday mdoo mdA mdB (u.1 2) mmar mtel mgai mfal mtop mstr mgho mfai mpto mwal (u.1 0) (u.1 1) (u.1 3) (u.1 4) mbyt mtxt mpos mtka mtok mdig mnum mfau mrdm mrea mlin mlne mthg mord mbor mbsm mans mand manr mali))) A) ([.ref (b 39), .int n, .int mi, .int wh] : List Value).toArray s 0 0 A) (F0 m 153 ls []) := by
                    intro mbes_153 H locs ls i153_0 hP hD hS hl
                    have L169 : ∀ (y169_4 : Int32) (H : Heap) (locs : List Loc) (ls : Array Slot), (mxX y39_4 r43 y169_4) → va_P (dC, dI) vwCl (wMod cI cZ cQ b mday mdoo mdA mdB mfar_c36 mmar mtel mgai mfal mtop mstr mgho mfai mpto mwal mahd_c34 mahf_c35 mcho_u40 mbes_153 mbyt mtxt mpos mtka mtok mdig mnum mfau mrdm mrea mlin mlne mthg mord mbor mbsm mans mand manr mali) H → va_D A (wMod cI cZ cQ b mday mdoo mdA mdB mfar_c36 mmar mtel mgai mfal mtop mstr mgho mfai mpto mwal mahd_c34 mahf_c35 mcho_u40 mbes_153 mbyt mtxt mpos mtka mtok mdig mnum mfau mrdm mrea mlin mlne mthg mord mbor mbsm mans mand manr mali) → va_S A s.heap H locs → lv_has ls 8 [(0, .ref (b 39)), (1, .int n), (2, .int mi), (3, .int wh), (4, .int y169_4), (5, .int z37)] → W p l e (headSpec wsX10_plan { frames := 4, cells := 0, slots := 0, locals := 97 }).room s m ([.ref (b 39), .int n, .int mi, .int wh] : List Value).toArray below meth c H locs 0 0 (MQ below (va_Qi (fun (r : Int32) (u : US) => (spPlnM mdA mdB mmar mfal mtop mstr mdoo.toInt mtel mgai.toInt n mi wh r) ∧ (rg 240 (0) (100) (u.1 0)) ∧ (rg 240 (0) (100) (u.1 1)) ∧ (rg 5 (-1) (9) (u.1 3))) (Bw (dC, dI) A (fun u : US => (wMod cI cZ cQ b mday mdoo mdA mdB (u.1 2) mmar mtel mgai mfal mtop mstr mgho mfai mpto mwal (u.1 0) (u.1 1) (u.1 3) (u.1 4) mbyt mtxt mpos mtka mtok mdig mnum mfau mrdm mrea mlin mlne mthg mord mbor mbsm mans mand manr mali))) A) ([.ref (b 39), .int n, .int mi, .int wh] : List Value).toArray s 0 0 A) (F0 m 169 ls []) := by
                      intro y169_4 H locs ls i169_0 hP hD hS hl
                      obtain ⟨z45, ez45⟩ : ∃ y : Int32, y = z37 + (-1) := ⟨_, rfl⟩
                      have iz45 : z45.toInt = z37.toInt + (-1) := by rw [ez45]; exact addC rfl rfl (by omega) (by omega)
                      refine lv_iinc (v := z45) (lv' := [(5, .int z45), (0, .ref (b 39)), (1, .int n), (2, .int mi), (3, .int wh), (4, .int y169_4)]) hx hb dX10_plan_169 hl (k := 5) rfl (by rw [ez45]; rfl) (by decide) rfl (fun ls hl => ?_)
                      refine lv_goto (tgt := 39) hx hb dX10_plan_172 (by decide) ?_
                      exact ih39 y169_4 z45 mahd_c34 mahf_c35 mfar_c36 mcho_u40 mbes_153 _ _ _ h32_0 h32_1 rmcho_u40 (by omega) (by omega) (by omega) (by (first | exact ok_down3 emcho_u40 i39_3 rfl (by omega) (by omega) | exact ok_same3 emcho_u40 i39_3 rfl (by omega) (by omega) (by omega) | exact ok_up3 emcho_u40 (by assumption) i39_3 (by omega) rfl (by omega) (by omega) (by omega) (by omega) rfl (by omega) | exact ok_back3 emcho_u40 (by assumption) i39_3 rfl (by omega) (by omega) (by omega) (by omega) (by omega) | exact ok_init3 emcho_u40 rfl rfl (by omega))) (by (first | exact pq_l (pq_R i39_4 (by assumption) (by assumption) (by omega) (by omega) (by assumption) (by omega) (by omega) (by omega) rfl) (by omega) (by assumption) (by omega) (by omega) i153_0 (by omega) i169_0 (by omega) (by omega) | exact pq_d (pq_R i39_4 (by assumption) (by assumption) (by omega) (by omega) (by assumption) (by omega) (by omega) (by omega) rfl) (by assumption) (by omega) (by omega) (by omega) (by omega) | exact pq_n i39_4 (by assumption) (by omega) (by assumption) (by assumption) (by omega) (by omega) | exact pq_a i39_4 (by assumption) (by omega) (by omega) (by omega) (by omega) (by omega) | exact pq_0 (by assumption) (by omega) (by assumption) (by first | rfl | omega) (by first | rfl | omega))) (by (refine Nat.lt_of_lt_of_le ?_ (Nat.le_of_lt_succ hm39); first | exact om_down3 emcho_u40 (by decide) rfl (by omega) (by omega) (by omega) | exact om_same3 emcho_u40 (by decide) rfl (by omega) (by omega) (by omega) | exact om_up3 emcho_u40 (by assumption) (by omega) rfl (by omega) (by omega) (by omega) (by omega) (by omega) rfl (by omega) | exact om_back3 emcho_u40 (by assumption) (by decide) rfl (by omega) (by omega) (by omega) (by omega) (by omega))) hP hD hS (lv_sub hl [1, 2, 3, 4, 5, 0] rfl)
                    refine lv_iload hx hb dX10_plan_153 (lv_at hl 6 rfl) ?_
                    refine lv_iload hx hb dX10_plan_155 (lv_at hl 4 rfl) ?_
                    refine lv_icmp_le (tgt := 165) hx hb dX10_plan_157 (by decide) (fun c46 => ?_) (fun c46 => ?_)
                    · have dc46 : r43.toInt ≤ y39_4.toInt := leC rfl rfl c46
                      refine lv_iload hx hb dX10_plan_165 (lv_at hl 4 rfl) ?_
                      refine lv_istore (lv' := [(4, .int y39_4), (0, .ref (b 39)), (1, .int n), (2, .int mi), (3, .int wh), (5, .int z37), (6, .int r43)]) hx hb dX10_plan_167 hl (by decide) rfl (fun ls hl => ?_)
                      exact L169 y39_4 _ _ _ (by (first | exact mx_v (by omega) | exact mx_m (by omega))) hP hD hS (lv_sub hl [1, 2, 3, 4, 0, 5] rfl)
                    · have dc46 : y39_4.toInt < r43.toInt := nleC rfl rfl c46
                      refine lv_iload hx hb dX10_plan_160 (lv_at hl 6 rfl) ?_
                      refine lv_goto (tgt := 167) hx hb dX10_plan_162 (by decide) ?_
                      refine lv_istore (lv' := [(4, .int r43), (0, .ref (b 39)), (1, .int n), (2, .int mi), (3, .int wh), (5, .int z37), (6, .int r43)]) hx hb dX10_plan_167 hl (by decide) rfl (fun ls hl => ?_)
                      exact L169 r43 _ _ _ (by (first | exact mx_v (by omega) | exact mx_m (by omega))) hP hD hS (lv_sub hl [1, 2, 3, 4, 0, 5] rfl)
                  refine lv_iconst (v := 0) hx hb dX10_plan_117 (by decide) ?_
                  refine lv_istore (lv' := [(7, .int 0), (6, .int r43), (5, .int z37), (0, .ref (b 39)), (1, .int n), (2, .int mi), (3, .int wh), (4, .int y39_4)]) hx hb dX10_plan_118 hl (by decide) rfl (fun ls hl => ?_)
                  have L120 : ∀ (nn : Nat) (y120_7 : Int32) (mbes_120 : Nat → Int32) (H : Heap) (locs : List Loc) (ls : Array Slot), (0 ≤ (y120_7.toInt)) → ((y120_7.toInt) ≤ 4) → (bcI mcho_u40 mbes_39 mbes_120 (y120_7.toInt) y39_4.toInt (r43.toInt)) → (4 - (y120_7.toInt)).toNat < nn → va_P (dC, dI) vwCl (wMod cI cZ cQ b mday mdoo mdA mdB mfar_c36 mmar mtel mgai mfal mtop mstr mgho mfai mpto mwal mahd_c34 mahf_c35 mcho_u40 mbes_120 mbyt mtxt mpos mtka mtok mdig mnum mfau mrdm mrea mlin mlne mthg mord mbor mbsm mans mand manr mali) H → va_D A (wMod cI cZ cQ b mday mdoo mdA mdB mfar_c36 mmar mtel mgai mfal mtop mstr mgho mfai mpto mwal mahd_c34 mahf_c35 mcho_u40 mbes_120 mbyt mtxt mpos mtka mtok mdig mnum mfau mrdm mrea mlin mlne mthg mord mbor mbsm mans mand manr mali) → va_S A s.heap H locs → lv_has ls 8 [(0, .ref (b 39)), (1, .int n), (2, .int mi), (3, .int wh), (4, .int y39_4), (5, .int z37), (6, .int r43), (7, .int y120_7)] → W p l e (headSpec wsX10_plan { frames := 4, cells := 0, slots := 0, locals := 97 }).room s m ([.ref (b 39), .int n, .int mi, .int wh] : List Value).toArray below meth c H locs 0 0 (MQ below (va_Qi (fun (r : Int32) (u : US) => (spPlnM mdA mdB mmar mfal mtop mstr mdoo.toInt mtel mgai.toInt n mi wh r) ∧ (rg 240 (0) (100) (u.1 0)) ∧ (rg 240 (0) (100) (u.1 1)) ∧ (rg 5 (-1) (9) (u.1 3))) (Bw (dC, dI) A (fun u : US => (wMod cI cZ cQ b mday mdoo mdA mdB (u.1 2) mmar mtel mgai mfal mtop mstr mgho mfai mpto mwal (u.1 0) (u.1 1) (u.1 3) (u.1 4) mbyt mtxt mpos mtka mtok mdig mnum mfau mrdm mrea mlin mlne mthg mord mbor mbsm mans mand manr mali))) A) ([.ref (b 39), .int n, .int mi, .int wh] : List Value).toArray s 0 0 A) (F0 m 120 ls []) := by
                    intro nn
                    induction nn with
                    | zero =>
                      intro y120_7 mbes_120 H locs ls i120_0 i120_1 i120_2 hm120
                      exact absurd hm120 (Nat.not_lt_zero _)
                    | succ nn ih120 =>
                      intro y120_7 mbes_120 H locs ls i120_0 i120_1 i120_2 hm120 hP hD hS hl
                      refine lv_iload hx hb dX10_plan_120 (lv_at hl 7 rfl) ?_
                      refine lv_iload_n hx hb dX10_plan_122 rfl (lv_at hl 1 rfl) ?_
                      refine lv_icmp_ge (tgt := 153) hx hb dX10_plan_123 (by decide) (fun c47 => ?_) (fun c47 => ?_)
                      · have dc47 : n.toInt ≤ y120_7.toInt := leC rfl rfl c47
                        exact L153 mbes_120 _ _ _ (by (first | exact bc_n i120_2 (by omega) (by omega) | exact bc_q i120_2 (by omega))) hP hD hS (lv_sub hl [0, 1, 2, 3, 4, 5, 6] rfl)
                      · have dc47 : y120_7.toInt < n.toInt := nleC rfl rfl c47
                        refine lv_iload hx hb dX10_plan_126 (lv_at hl 6 rfl) ?_
                        refine lv_iload hx hb dX10_plan_128 (lv_at hl 4 rfl) ?_
                        refine lv_icmp_le (tgt := 153) hx hb dX10_plan_130 (by decide) (fun c48 => ?_) (fun c48 => ?_)
                        · have dc48 : r43.toInt ≤ y39_4.toInt := leC rfl rfl c48
                          exact L153 mbes_120 _ _ _ (by (first | exact bc_n i120_2 (by omega) (by omega) | exact bc_q i120_2 (by omega))) hP hD hS (lv_sub hl [0, 1, 2, 3, 4, 5, 6] rfl)
                        · have dc48 : y39_4.toInt < r43.toInt := nleC rfl rfl c48
                          refine lv_aload_n hx hb dX10_plan_133 rfl (lv_at hl 0 rfl) ?_
                          refine va_get (D := (dC, dI)) (ci := 10) (v := .ref (b 18)) (C := RX10) (T := TX10) (N := 39) hx hb hts inX10 hown hK hP 0 rfl rfl 18 (by decide) lf59 (fun _ h9 => h9) rfl dX10_plan_134 ?_
                          refine lv_iload hx hb dX10_plan_137 (lv_at hl 7 rfl) ?_
                          refine lv_aload_n hx hb dX10_plan_139 rfl (lv_at hl 0 rfl) ?_
                          refine va_get (D := (dC, dI)) (ci := 10) (v := .ref (b 17)) (C := RX10) (T := TX10) (N := 39) hx hb hts inX10 hown hK hP 0 rfl rfl 17 (by decide) lf56 (fun _ h9 => h9) rfl dX10_plan_140 ?_
                          refine lv_iload hx hb dX10_plan_143 (lv_at hl 7 rfl) ?_
                          have b49 : vp_in y120_7 5 := inC rfl (by omega) (by omega)
                          refine va_iald hx hb hK hP 14 0 rfl rfl b49 dX10_plan_145 ?_
                          have g50 : -1 ≤ (mcho_u40 y120_7.toNatClampNeg).toInt ∧ (mcho_u40 y120_7.toNatClampNeg).toInt ≤ 9 := rg_at rmcho_u40 b49
                          refine lv_topi (fun x51 ex51 => ?_)
                          have ix51 : x51.toInt = (mcho_u40 y120_7.toNatClampNeg).toInt := by rw [ex51]
                          have b52 : vp_in y120_7 4 := inC rfl (by omega) (by omega)
                          refine va_iast hx hb hK hP hD hS 15 0 rfl rfl b52 dX10_plan_146 (fun H locs hP hD hS => ?_)
                          obtain ⟨mbes_u53, embes_u53⟩ : ∃ f : Nat → Int32, f = upd mbes_120 y120_7.toNatClampNeg x51 := ⟨_, rfl⟩
                          have hP : va_P (dC, dI) vwCl (wMod cI cZ cQ b mday mdoo mdA mdB mfar_c36 mmar mtel mgai mfal mtop mstr mgho mfai mpto mwal mahd_c34 mahf_c35 mcho_u40 mbes_u53 mbyt mtxt mpos mtka mtok mdig mnum mfau mrdm mrea mlin mlne mthg mord mbor mbsm mans mand manr mali) H := by rw [embes_u53]; exact hP
                          have hD : va_D A (wMod cI cZ cQ b mday mdoo mdA mdB mfar_c36 mmar mtel mgai mfal mtop mstr mgho mfai mpto mwal mahd_c34 mahf_c35 mcho_u40 mbes_u53 mbyt mtxt mpos mtka mtok mdig mnum mfau mrdm mrea mlin mlne mthg mord mbor mbsm mans mand manr mali) := by rw [embes_u53]; exact hD
                          obtain ⟨z54, ez54⟩ : ∃ y : Int32, y = y120_7 + 1 := ⟨_, rfl⟩
                          have iz54 : z54.toInt = y120_7.toInt + 1 := by rw [ez54]; exact addC rfl rfl (by omega) (by omega)
                          refine lv_iinc (v := z54) (lv' := [(7, .int z54), (0, .ref (b 39)), (1, .int n), (2, .int mi), (3, .int wh), (4, .int y39_4), (5, .int z37), (6, .int r43)]) hx hb dX10_plan_147 hl (k := 7) rfl (by rw [ez54]; rfl) (by decide) rfl (fun ls hl => ?_)
                          refine lv_goto (tgt := 120) hx hb dX10_plan_150 (by decide) ?_
                          exact ih120 z54 mbes_u53 _ _ _ (by omega) (by omega) (by (first | exact bc_s i120_2 (by assumption) (by assumption) (by omega) (by omega) (by omega) | exact bc_0 (by first | rfl | omega))) (by omega) hP hD hS (lv_sub hl [1, 2, 3, 4, 5, 6, 7, 0] rfl)
                  have kc55 : (0 : Int32).toInt = 0 := rfl
                  exact L120 _ 0 mbes_39 _ _ _ (by omega) (by omega) (by (first | exact bc_s i120_2 (by assumption) (by assumption) (by omega) (by omega) (by omega) | exact bc_0 (by first | rfl | omega))) (Nat.lt_succ_self _) hP hD hS (lv_sub hl [3, 4, 5, 6, 7, 2, 1, 0] rfl)
              · refine lv_if_eq (tgt := 39) hx hb dX10_plan_87 (by decide) (fun _ => ?_) (fun c9 => absurd (by decide) c9)
                exact ih39 y39_4 y39_5 mahd_c34 mahf_c35 mfar_c36 mcho_u23 mbes_39 _ _ _ h32_0 h32_1 rmcho_u23 (by omega) (by omega) (by omega) (by (first | exact ok_down3 emcho_u23 i39_3 rfl (by omega) (by omega) | exact ok_same3 emcho_u23 i39_3 rfl (by omega) (by omega) (by omega) | exact ok_up3 emcho_u23 (by assumption) i39_3 (by omega) rfl (by omega) (by omega) (by omega) (by omega) rfl (by omega) | exact ok_back3 emcho_u23 (by assumption) i39_3 rfl (by omega) (by omega) (by omega) (by omega) (by omega) | exact ok_init3 emcho_u23 rfl rfl (by omega))) (by (first | exact pq_l (pq_R i39_4 (by assumption) (by assumption) (by omega) (by omega) (by assumption) (by omega) (by omega) (by omega) rfl) (by omega) (by assumption) (by omega) (by omega) i153_0 (by omega) i169_0 (by omega) (by omega) | exact pq_d (pq_R i39_4 (by assumption) (by assumption) (by omega) (by omega) (by assumption) (by omega) (by omega) (by omega) rfl) (by assumption) (by omega) (by omega) (by omega) (by omega) | exact pq_n i39_4 (by assumption) (by omega) (by assumption) (by assumption) (by omega) (by omega) | exact pq_a i39_4 (by assumption) (by omega) (by omega) (by omega) (by omega) (by omega) | exact pq_0 (by assumption) (by omega) (by assumption) (by first | rfl | omega) (by first | rfl | omega))) (by (refine Nat.lt_of_lt_of_le ?_ (Nat.le_of_lt_succ hm39); first | exact om_down3 emcho_u23 (by decide) rfl (by omega) (by omega) (by omega) | exact om_same3 emcho_u23 (by decide) rfl (by omega) (by omega) (by omega) | exact om_up3 emcho_u23 (by assumption) (by omega) rfl (by omega) (by omega) (by omega) (by omega) (by omega) rfl (by omega) | exact om_back3 emcho_u23 (by assumption) (by decide) rfl (by omega) (by omega) (by omega) (by omega) (by omega))) hP hD hS (lv_sub hl [0, 1, 2, 3, 4, 5] rfl)
            · have dc27 : 8 < (mcho_u23 y39_5.toNatClampNeg).toInt := nleC rfl (show (8 : Int32).toInt = 8 from rfl) c27
              obtain ⟨z56, ez56⟩ : ∃ y : Int32, y = y39_5 + (-1) := ⟨_, rfl⟩
              have iz56 : z56.toInt = y39_5.toInt + (-1) := by rw [ez56]; exact addC rfl rfl (by omega) (by omega)
              refine lv_iinc (v := z56) (lv' := [(5, .int z56), (0, .ref (b 39)), (1, .int n), (2, .int mi), (3, .int wh), (4, .int y39_4)]) hx hb dX10_plan_67 hl (k := 5) rfl (by rw [ez56]; rfl) (by decide) rfl (fun ls hl => ?_)
              refine lv_goto (tgt := 39) hx hb dX10_plan_70 (by decide) ?_
              exact ih39 y39_4 z56 mahd_39 mahf_39 mfar_39 mcho_u23 mbes_39 _ _ _ r_mahd_39 r_mahf_39 rmcho_u23 (by omega) (by omega) (by omega) (by (first | exact ok_down3 emcho_u23 i39_3 rfl (by omega) (by omega) | exact ok_same3 emcho_u23 i39_3 rfl (by omega) (by omega) (by omega) | exact ok_up3 emcho_u23 (by assumption) i39_3 (by omega) rfl (by omega) (by omega) (by omega) (by omega) rfl (by omega) | exact ok_back3 emcho_u23 (by assumption) i39_3 rfl (by omega) (by omega) (by omega) (by omega) (by omega) | exact ok_init3 emcho_u23 rfl rfl (by omega))) (by (first | exact pq_l (pq_R i39_4 (by assumption) (by assumption) (by omega) (by omega) (by assumption) (by omega) (by omega) (by omega) rfl) (by omega) (by assumption) (by omega) (by omega) i153_0 (by omega) i169_0 (by omega) (by omega) | exact pq_d (pq_R i39_4 (by assumption) (by assumption) (by omega) (by omega) (by assumption) (by omega) (by omega) (by omega) rfl) (by assumption) (by omega) (by omega) (by omega) (by omega) | exact pq_n i39_4 (by assumption) (by omega) (by assumption) (by assumption) (by omega) (by omega) | exact pq_a i39_4 (by assumption) (by omega) (by omega) (by omega) (by omega) (by omega) | exact pq_0 (by assumption) (by omega) (by assumption) (by first | rfl | omega) (by first | rfl | omega))) (by (refine Nat.lt_of_lt_of_le ?_ (Nat.le_of_lt_succ hm39); first | exact om_down3 emcho_u23 (by decide) rfl (by omega) (by omega) (by omega) | exact om_same3 emcho_u23 (by decide) rfl (by omega) (by omega) (by omega) | exact om_up3 emcho_u23 (by assumption) (by omega) rfl (by omega) (by omega) (by omega) (by omega) (by omega) rfl (by omega) | exact om_back3 emcho_u23 (by assumption) (by decide) rfl (by omega) (by omega) (by omega) (by omega) (by omega))) hP hD hS (lv_sub hl [1, 2, 3, 4, 5, 0] rfl)
      have kc57 : ((-1) : Int32).toInt = -1 := rfl
      have kc58 : (0 : Int32).toInt = 0 := rfl
      exact L39 _ (-1) 0 mahd_c9 mahf_c10 mfar mcho_u13 mbes _ _ _ h7_1 h7_2 rmcho_u13 (by omega) (by omega) (by omega) (by (first | exact ok_init3 emcho_u13 rfl rfl (by omega) | exact ok_down3 emcho_u13 i39_3 rfl (by omega) (by omega) | exact ok_same3 emcho_u13 i39_3 rfl (by omega) (by omega) (by omega) | exact ok_up3 emcho_u13 (by assumption) i39_3 (by omega) rfl (by omega) (by omega) (by omega) (by omega) rfl (by omega) | exact ok_back3 emcho_u13 (by assumption) i39_3 rfl (by omega) (by omega) (by omega) (by omega) (by omega))) (by (first | exact pq_l (pq_R i39_4 (by assumption) (by assumption) (by omega) (by omega) (by assumption) (by omega) (by omega) (by omega) rfl) (by omega) (by assumption) (by omega) (by omega) i153_0 (by omega) i169_0 (by omega) (by omega) | exact pq_d (pq_R i39_4 (by assumption) (by assumption) (by omega) (by omega) (by assumption) (by omega) (by omega) (by omega) rfl) (by assumption) (by omega) (by omega) (by omega) (by omega) | exact pq_n i39_4 (by assumption) (by omega) (by assumption) (by assumption) (by omega) (by omega) | exact pq_a i39_4 (by assumption) (by omega) (by omega) (by omega) (by omega) (by omega) | exact pq_0 (by assumption) (by omega) (by assumption) (by first | rfl | omega) (by first | rfl | omega))) (Nat.lt_succ_self _) hP hD hS (lv_sub hl [2, 3, 4, 5, 1, 0] rfl)
    · refine lv_if_ne (tgt := 22) hx hb dX10_plan_16 (by decide) (fun c9 => absurd (by decide) c9) (fun _ => ?_)
      refine lv_bipush (v := (-3)) hx hb dX10_plan_19 (by decide) ?_
      exact W.iret (v := (-3)) hx hb hr (fun tq ht hW => ⟨⟨(-3), (uS [mahd, mahf, mfar, mcho, mbes] 0 (fun _ => 0)), rfl, ⟨(show spPlnM mdA mdB mmar mfal mtop mstr mdoo.toInt mtel mgai.toInt n mi wh ((-3) : Int32) from by (try rw [show ((-3) : Int32).toInt = (-3) from (show ((-3) : Int32).toInt = (-3) from rfl)]); (first | exact Or.inl ⟨bl_m (by assumption), rfl⟩ | exact Or.inl ⟨Or.inr (Or.inl (by omega)), rfl⟩ | exact pl_mE ⟨by omega, by omega⟩ ⟨by omega, by omega⟩ (by assumption) i39_4 (by omega) (an_s (by omega)) | exact pl_mE ⟨by omega, by omega⟩ ⟨by omega, by omega⟩ (by assumption) i39_4 (by omega) (an_b (by omega) rfl))), r_mahd, r_mahf, r_mcho⟩, by rw [ht]; exact hP, hD⟩, hS.F ht⟩) hS.2.2 dX10_plan_21
  · refine lv_if_eq (tgt := 19) hx hb dX10_plan_5 (by decide) (fun _ => ?_) (fun c9 => absurd (by decide) c9)
    refine lv_bipush (v := (-3)) hx hb dX10_plan_19 (by decide) ?_
    exact W.iret (v := (-3)) hx hb hr (fun tq ht hW => ⟨⟨(-3), (uS [mahd, mahf, mfar, mcho, mbes] 0 (fun _ => 0)), rfl, ⟨(show spPlnM mdA mdB mmar mfal mtop mstr mdoo.toInt mtel mgai.toInt n mi wh ((-3) : Int32) from by (try rw [show ((-3) : Int32).toInt = (-3) from (show ((-3) : Int32).toInt = (-3) from rfl)]); (first | exact Or.inl ⟨bl_m (by assumption), rfl⟩ | exact Or.inl ⟨Or.inr (Or.inl (by omega)), rfl⟩ | exact pl_mE ⟨by omega, by omega⟩ ⟨by omega, by omega⟩ (by assumption) i39_4 (by omega) (an_s (by omega)) | exact pl_mE ⟨by omega, by omega⟩ ⟨by omega, by omega⟩ (by assumption) i39_4 (by omega) (an_b (by omega) rfl))), r_mahd, r_mahf, r_mcho⟩, by rw [ht]; exact hP, hD⟩, hS.F ht⟩) hS.2.2 dX10_plan_21
end
