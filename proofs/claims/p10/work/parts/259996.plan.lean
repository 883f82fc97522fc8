-- ===== BEST PLANS: plans by their numbers (base 9) =====
def dgN (n c i : Nat) : Nat := c / 9 ^ (n - 1 - i) % 9
def plN (n c : Nat) : Nat → Int32 := fun i => nI (dgN n c i)
def preN (T : Nat → Int32) : Nat → Nat
  | 0 => 0
  | i + 1 => 9 * preN T i + (T i).toInt.toNat
theorem pre_eq {T T2 : Nat → Int32} : ∀ i : Nat, (∀ j, j < i → T2 j = T j) → preN T2 i = preN T i
  | 0, _ => rfl
  | i + 1, h => by
    show 9 * preN T2 i + (T2 i).toInt.toNat = 9 * preN T i + (T i).toInt.toNat
    rw [pre_eq i (fun j hj => h j (by omega)), h i (by omega)]
/-- the numbers whose first i figures are those of T -/
theorem dg_pre {T : Nat → Int32} {n d : Nat} : ∀ i : Nat, i ≤ n → (∀ j, j < i → 0 ≤ (T j).toInt ∧ (T j).toInt ≤ 8) → preN T i * 9 ^ (n - i) ≤ d → d < (preN T i + 1) * 9 ^ (n - i) → ∀ j, j < i → dgN n d j = (T j).toInt.toNat
  | 0, _, _, _, _, j, hj => absurd hj (Nat.not_lt_zero j)
  | i + 1, hi, ht, h1, h2, j, hj => by
    have e9 : (9 : Nat) ^ (n - i) = 9 * 9 ^ (n - (i + 1)) := by
      rw [show n - i = (n - (i + 1)) + 1 by omega, Nat.pow_succ, Nat.mul_comm]
    have hti := ht i (by omega)
    have hp : 0 < 9 ^ (n - (i + 1)) := Nat.pow_pos (by omega)
    have q1 : (9 * preN T i + (T i).toInt.toNat) * 9 ^ (n - (i + 1)) ≤ d := h1
    have q2 : d < (9 * preN T i + (T i).toInt.toNat + 1) * 9 ^ (n - (i + 1)) := h2
    have ed : d / 9 ^ (n - (i + 1)) = 9 * preN T i + (T i).toInt.toNat := Nat.div_eq_of_lt_le q1 q2
    by_cases c : j = i
    · subst c
      unfold dgN
      rw [show n - 1 - j = n - (j + 1) by omega, ed]; omega
    · refine dg_pre i (by omega) (fun k hk => ht k (by omega)) ?_ ?_ j (by omega)
      · rw [e9]
        refine Nat.le_trans ?_ q1
        rw [← Nat.mul_assoc, Nat.mul_comm (preN T i) 9]
        exact Nat.mul_le_mul_right _ (by omega)
      · rw [e9]
        refine Nat.lt_of_lt_of_le q2 ?_
        rw [← Nat.mul_assoc]
        exact Nat.mul_le_mul_right _ (by omega)
def pbI (ok : Nat → Prop) (V : Nat → Int) (n K : Nat) (s : Int) (B : Nat → Int32) : Prop := (s = -1 ∧ ∀ d, d < K → ¬ ok d) ∨ ∃ c, c < K ∧ ok c ∧ s = V c ∧ (∀ d, d < K → ok d → V d ≤ s) ∧ (∀ d, d < c → ok d → V d < s) ∧ ∀ i, i < n → B i = plN n c i
theorem pb_0 {ok : Nat → Prop} {V : Nat → Int} {n K : Nat} {s : Int} {B : Nat → Int32} (hs : s = -1) (hK : K = 0) : pbI ok V n K s B := .inl ⟨hs, fun d hd => by omega⟩
theorem pb_e {ok : Nat → Prop} {V : Nat → Int} {n K K' : Nat} {s : Int} {B : Nat → Int32} (q : pbI ok V n K s B) (e : K' = K) : pbI ok V n K' s B := by subst e; exact q
theorem pb_skip {ok : Nat → Prop} {V : Nat → Int} {n K K' : Nat} {s : Int} {B : Nat → Int32} (q : pbI ok V n K s B) (h : K ≤ K') (no : ∀ d, K ≤ d → d < K' → ¬ ok d) : pbI ok V n K' s B := by
  rcases q with ⟨a, b⟩ | ⟨c, c1, c2, c3, c4, c5, c6⟩
  · refine .inl ⟨a, fun d hd => ?_⟩
    by_cases z : d < K
    · exact b d z
    · exact no d (by omega) hd
  · refine .inr ⟨c, by omega, c2, c3, fun d hd o => ?_, c5, c6⟩
    by_cases z : d < K
    · exact c4 d z o
    · exact absurd o (no d (by omega) hd)
theorem pb_le {ok : Nat → Prop} {V : Nat → Int} {n K K' : Nat} {s : Int} {B : Nat → Int32} (q : pbI ok V n K s B) (h0 : 0 ≤ V K) (h : V K ≤ s) (hK : K' = K + 1) : pbI ok V n K' s B := by
  subst hK
  rcases q with ⟨a, b⟩ | ⟨c, c1, c2, c3, c4, c5, c6⟩
  · omega
  · refine .inr ⟨c, by omega, c2, c3, fun d hd o => ?_, c5, c6⟩
    by_cases z : d = K
    · subst z; exact h
    · exact c4 d (by omega) o
theorem pb_gt {ok : Nat → Prop} {V : Nat → Int} {n K K' : Nat} {s s2 : Int} {B B2 : Nat → Int32} (q : pbI ok V n K s B) (o : ok K) (h : s < V K) (e : s2 = V K) (eB : ∀ i, i < n → B2 i = plN n K i) (hK : K' = K + 1) : pbI ok V n K' s2 B2 := by
  subst hK; subst e
  have lt : ∀ d, d < K → ok d → V d < V K := by
    intro d hd od
    rcases q with ⟨a, b⟩ | ⟨c, c1, c2, c3, c4, c5, c6⟩
    · exact absurd od (b d hd)
    · have := c4 d hd od; omega
  refine .inr ⟨K, by omega, o, rfl, fun d hd od => ?_, lt, eB⟩
  by_cases z : d = K
  · subst z; exact Int.le_refl _
  · have := lt d (by omega) od; omega
theorem pb_det {ok ok2 : Nat → Prop} {V V2 : Nat → Int} {n K : Nat} {s s2 : Int} {B B2 : Nat → Int32} (q : pbI ok V n K s B) (q2 : pbI ok2 V2 n K s2 B2) (eo : ∀ d, d < K → (ok d ↔ ok2 d)) (eV : ∀ d, d < K → V d = V2 d) (ex : ∃ d, d < K ∧ ok d) : s = s2 ∧ ∀ i, i < n → B i = B2 i := by
  obtain ⟨x, x1, x2⟩ := ex
  rcases q with ⟨a, b⟩ | ⟨c, c1, c2, c3, c4, c5, c6⟩
  · exact absurd x2 (b x x1)
  rcases q2 with ⟨a, b⟩ | ⟨d, d1, d2, d3, d4, d5, d6⟩
  · exact absurd ((eo x x1).mp x2) (b x x1)
  have l1 := c4 d d1 ((eo d d1).mpr d2)
  have l2 := d4 c c1 ((eo c c1).mp c2)
  rw [← eV c c1] at l2
  rw [eV d d1] at l1
  have es : s = s2 := by omega
  have ecd : c = d := by
    rcases Nat.lt_trichotomy c d with z | z | z
    · have := d5 c z ((eo c c1).mp c2); rw [← eV c c1] at this; omega
    · exact z
    · have := c5 d z ((eo d d1).mpr d2); rw [eV d d1] at this; omega
  subst ecd
  exact ⟨es, fun i hi => by rw [c6 i hi, d6 i hi]⟩
theorem sr_eqk {t : Nat → Int32} {V V2 : Nat → Int} {lo : Nat} : ∀ k : Nat, (∀ c, lo ≤ c → c < lo + k → V c = V2 c) → srF t V lo k = srF t V2 lo k
  | 0, _ => rfl
  | k + 1, h => by
    show srF t V lo k + (if t (lo + k) = -1 then 0 else V (lo + k)) = srF t V2 lo k + (if t (lo + k) = -1 then 0 else V2 (lo + k))
    rw [sr_eqk k (fun c a b => h c a (by omega)), h (lo + k) (by omega) (by omega)]
-- the class's search
def okC (cos mi : Nat → Int32) (n d : Nat) : Prop := ∀ i, i < n → dgN n d i ≤ 7 → wkb (cos (dgN n d i)) (mi i)
def vlC (mar f top str : Nat → Int32) (tel : Int32) (g : Int) (n d : Nat) : Int := srF top (plU mar f top str tel g (plN n d) n) 0 48
def s8F (g : Nat → Int) : Nat → Int
  | 0 => 0
  | k + 1 => s8F g k + g k
theorem s8_eq {g h : Nat → Int} : ∀ k : Nat, (∀ q, q < k → g q = h q) → s8F g k = s8F h k
  | 0, _ => rfl
  | k + 1, e => by
    show s8F g k + g k = s8F h k + h k
    rw [s8_eq k (fun q hq => e q (by omega)), e k (by omega)]
theorem s8_up {g h : Nat → Int} {x : Nat} (e : ∀ q, q ≠ x → h q = g q) : ∀ k : Nat, s8F h k = s8F g k + (if x < k then h x - g x else 0)
  | 0 => by rw [if_neg (by omega)]; show (0 : Int) = 0 + 0; rfl
  | k + 1 => by
    show s8F h k + h k = s8F g k + g k + _
    rw [s8_up e k]
    by_cases z : x = k
    · subst z; rw [if_neg (by omega), if_pos (by omega)]; omega
    · rw [e k (fun w => z w.symm)]
      by_cases y : x < k
      · rw [if_pos y, if_pos (by omega)]; omega
      · rw [if_neg y, if_neg (by omega)]; omega
theorem s8_rg {g : Nat → Int} : ∀ k : Nat, (∀ q, q < k → 0 ≤ g q ∧ g q ≤ 600) → 0 ≤ s8F g k ∧ s8F g k ≤ 600 * k
  | 0, _ => ⟨Int.le_refl _, by show (0 : Int) ≤ 600 * (0 : Nat); omega⟩
  | k + 1, h => by
    have i := s8_rg k (fun q hq => h q (by omega))
    have j := h k (by omega)
    show 0 ≤ s8F g k + g k ∧ s8F g k + g k ≤ 600 * ((k + 1 : Nat) : Int)
    omega
def rwF (mar f top str : Nat → Int32) (tel : Int32) (g : Int) (n q d : Nat) : Int := srF top (fun c => svF f (cwF mar top tel c (c - c % 6) 6) g (bitW (nI d)) (str c).toInt n) (6 * q) 6
def rsI (rst mar f top str : Nat → Int32) (tel : Int32) (g : Int) (n : Nat) : Prop := ∀ q, q < 8 → ∀ d, d < 2 ^ n → 0 ≤ (rst (16 * q + d)).toInt ∧ (rst (16 * q + d)).toInt ≤ 600 ∧ (rst (16 * q + d)).toInt = rwF mar f top str tel g n q d
def wsF (rst wk : Nat → Int32) (q : Nat) : Int := (rst (16 * q + (wk q).toInt.toNat)).toInt
/-- where the search stands at day i: the figures so far, the days by rooms, all walkable, the sum -/
def skI (cos mi rst : Nat → Int32) (n : Nat) (i al : Int) (tri wk : Nat → Int32) : Prop := (0 ≤ i ∧ i ≤ (n : Int) ∧ 1 ≤ n ∧ n ≤ 4) ∧ (∀ j : Nat, (j : Int) < i → 0 ≤ (tri j).toInt ∧ (tri j).toInt ≤ 8) ∧ wdI tri wk i ∧ wkA tri mi cos i ∧ al = s8F (wsF rst wk) 8
theorem bit_lt : ∀ n, n ≤ 4 → ∀ x, x < 16 → (∀ j, j < 4 → n ≤ j → bitW (nI x) j = false) → x < 2 ^ n := by decide +kernel
theorem wd_lt {tri wk : Nat → Int32} {i : Int} {n q : Nat} (w : wdI tri wk i) (r : rg 8 0 15 wk) (hq : q < 8) (hi : i ≤ (n : Int)) (hn : n ≤ 4) : (wk q).toInt.toNat < 2 ^ n := by
  have rq := r q hq
  refine bit_lt n hn _ (by omega) (fun j hj hnj => ?_)
  rw [nI_toNat rq.1, w q hq j hj, decide_eq_false (by omega)]; rfl
theorem skA_rg {cos mi rst mar f top str tri wk : Nat → Int32} {tel : Int32} {g i al : Int} {n : Nat} (k : skI cos mi rst n i al tri wk) (R : rsI rst mar f top str tel g n) (r : rg 8 0 15 wk) : 0 ≤ al ∧ al ≤ 4800 := by
  obtain ⟨h, _, w, _, e⟩ := k
  have := s8_rg (g := wsF rst wk) 8 (fun q hq => by
    have := R q hq (wk q).toInt.toNat (wd_lt w r hq h.2.1 h.2.2.2)
    exact ⟨this.1, this.2.1⟩)
  rw [← e] at this; omega
def ksI (i : Int) (tri wk tri2 wk2 : Nat → Int32) : Prop := (∀ j : Nat, (j : Int) < i → tri2 j = tri j) ∧ ∀ q : Nat, q < 8 → wk2 q = wk q
theorem ks_0 {i : Int} {tri wk : Nat → Int32} : ksI i tri wk tri wk := ⟨fun _ _ => rfl, fun _ _ => rfl⟩
theorem wd_eq {tri wk tri2 wk2 : Nat → Int32} {i : Int} (w : wdI tri wk i) (k : ksI i tri wk tri2 wk2) : wdI tri2 wk2 i := by
  intro q hq j hj
  rw [k.2 q hq, w q hq j hj]
  by_cases z : (j : Int) < i
  · rw [k.1 j z]
  · rw [decide_eq_false z, Bool.false_and, Bool.false_and]
theorem wa_eq {tri mi cos tri2 wk wk2 : Nat → Int32} {i : Int} (w : wkA tri mi cos i) (k : ksI i tri wk tri2 wk2) : wkA tri2 mi cos i := fun j hj l => by
  rw [k.1 j hj] at l ⊢; exact w j hj l
theorem sk_eq {cos mi rst tri wk tri2 wk2 : Nat → Int32} {i al : Int} {n : Nat} (s : skI cos mi rst n i al tri wk) (k : ksI i tri wk tri2 wk2) : skI cos mi rst n i al tri2 wk2 := by
  obtain ⟨a, b, c, d, e⟩ := s
  refine ⟨a, fun j hj => by rw [k.1 j hj]; exact b j hj, wd_eq c k, wa_eq d k, ?_⟩
  rw [e]
  exact s8_eq 8 (fun q hq => by unfold wsF; rw [k.2 q hq])
/-- a room walked on day i -/
theorem sk_y {cos mi rst mar f top str tri wk tri2 wk2 tri3 wk3 : Nat → Int32} {tel : Int32} {g al al2 ch i2 : Int} {i y b h : Int32} {n : Nat} (s : skI cos mi rst n i.toInt al tri wk) (R : rsI rst mar f top str tel g n) (k : ksI i.toInt tri wk tri2 wk2) (r : rg 8 0 15 wk2) (e1 : tri3 = upd tri2 i.toNatClampNeg y) (e2 : wk3 = upd wk2 y.toNatClampNeg h) (hw : wkb (cos y.toNatClampNeg) (mi i.toNatClampNeg)) (hb : b = wk2 y.toNatClampNeg) (hh : h = b ||| ((1 : Int32) <<< (i &&& 31))) (hh2 : 0 ≤ h.toInt ∧ h.toInt ≤ 15) (hin : i.toInt < (n : Int)) (hy0 : 0 ≤ y.toInt) (hy7 : y.toInt ≤ 7) (hc : ch = (rst (16 * y.toInt.toNat + h.toInt.toNat)).toInt - (rst (16 * y.toInt.toNat + b.toInt.toNat)).toInt) (ha : al2 = al + ch) (hi2 : i2 = i.toInt + 1) : skI cos mi rst n i2 al2 tri3 wk3 := by
  obtain ⟨a, t, w, wa, e⟩ := sk_eq s k
  subst hi2
  have ci := clC (x := i) rfl
  have cy := clC (x := y) rfl
  have tn : ∀ j : Nat, (j : Int) < i.toInt → tri3 j = tri2 j := fun j hj => by rw [e1, pk_un (by omega)]
  have ti : tri3 i.toNatClampNeg = y := by rw [e1, pk_us]
  have w1 : wdI tri3 wk2 i.toInt := wd_eq w ⟨tn, fun _ _ => rfl⟩
  have wa1 : wkA tri3 mi cos i.toInt := wa_eq (wk := wk2) (wk2 := wk2) wa ⟨tn, fun _ _ => rfl⟩
  refine ⟨⟨by omega, by omega, a.2.2.1, a.2.2.2⟩, fun j hj => ?_, wd_y (x := y) w1 r e2 ti.symm ⟨hy0, hy7⟩ (by rw [← hb]; exact hh) (by omega) (by omega) rfl, wa_y (x := y) wa1 ti.symm hw (by omega) rfl, ?_⟩
  · by_cases z : j = i.toNatClampNeg
    · subst z; rw [ti]; omega
    · rw [tn j (by omega)]; exact t j (by omega)
  · rw [ha, e, s8_up (g := wsF rst wk2) (h := wsF rst wk3) (x := y.toInt.toNat) (fun q hq => by unfold wsF; rw [e2, pk_un (by omega)]) 8, if_pos (by omega), hc]
    have z1 : wsF rst wk3 y.toInt.toNat = (rst (16 * y.toInt.toNat + h.toInt.toNat)).toInt := by unfold wsF; rw [e2, ← cy, pk_us]
    have z2 : wsF rst wk2 y.toInt.toNat = (rst (16 * y.toInt.toNat + b.toInt.toNat)).toInt := by unfold wsF; rw [hb, cy]
    rw [z1, z2]
theorem sk_8 {cos mi rst tri wk tri2 wk2 tri3 : Nat → Int32} {al i2 : Int} {i : Int32} {n : Nat} (s : skI cos mi rst n i.toInt al tri wk) (k : ksI i.toInt tri wk tri2 wk2) (e1 : tri3 = upd tri2 i.toNatClampNeg 8) (hin : i.toInt < (n : Int)) (hi2 : i2 = i.toInt + 1) : skI cos mi rst n i2 al tri3 wk2 := by
  obtain ⟨a, t, w, wa, e⟩ := sk_eq s k
  subst hi2
  have ci := clC (x := i) rfl
  have tn : ∀ j : Nat, (j : Int) < i.toInt → tri3 j = tri2 j := fun j hj => by rw [e1, pk_un (by omega)]
  have ti : tri3 i.toNatClampNeg = 8 := by rw [e1, pk_us]
  have e8 : (8 : Int32).toInt = 8 := rfl
  have w1 : wdI tri3 wk2 i.toInt := wd_eq w ⟨tn, fun _ _ => rfl⟩
  have wa1 : wkA tri3 mi cos i.toInt := wa_eq (wk := wk2) (wk2 := wk2) wa ⟨tn, fun _ _ => rfl⟩
  refine ⟨⟨by omega, by omega, a.2.2.1, a.2.2.2⟩, fun j hj => ?_, wd_n (x := 8) w1 ti.symm (by omega) (by omega) rfl, wa_n (x := 8) wa1 ti.symm (by omega) (by omega) rfl, e⟩
  by_cases z : j = i.toNatClampNeg
  · subst z; rw [ti, e8]; omega
  · rw [tn j (by omega)]; exact t j (by omega)
/-- the number at which the plans begin that have T's first i figures -/
def atN (T : Nat → Int32) (n : Nat) (i : Int) : Nat := preN T i.toNat * 9 ^ (n - i.toNat)
/-- the same, and room y behind them -/
def atY (T : Nat → Int32) (n : Nat) (i y : Int) : Nat := (9 * preN T i.toNat + y.toNat) * 9 ^ (n - i.toNat - 1)
def toN (T : Nat → Int32) (n : Nat) (i : Int) : Nat := (preN T i.toNat + 1) * 9 ^ (n - i.toNat)
theorem at_0 {T : Nat → Int32} {n : Nat} {i y : Int} (h : i < (n : Int)) (h0 : 0 ≤ i) (hy : y = 0) : atY T n i y = atN T n i := by
  subst hy
  unfold atY atN
  rw [show n - i.toNat = (n - i.toNat - 1) + 1 by omega, Nat.pow_succ, show n - i.toNat - 1 + 1 - 1 = n - i.toNat - 1 by omega, Nat.mul_comm (9 ^ (n - i.toNat - 1)) 9, ← Nat.mul_assoc, Nat.mul_comm 9 (preN T i.toNat)]; rfl
theorem at_9 {T : Nat → Int32} {n : Nat} {i y : Int} (h : i < (n : Int)) (h0 : 0 ≤ i) (hy : y = 9) : atY T n i y = toN T n i := by
  subst hy
  unfold atY toN
  rw [show n - i.toNat = (n - i.toNat - 1) + 1 by omega, Nat.pow_succ, show n - i.toNat - 1 + 1 - 1 = n - i.toNat - 1 by omega, Nat.mul_comm (9 ^ (n - i.toNat - 1)) 9, ← Nat.mul_assoc]
  congr 1
  show 9 * preN T i.toNat + 9 = (preN T i.toNat + 1) * 9
  omega
theorem pre_s {T T2 T3 : Nat → Int32} {i y : Int32} (k : ∀ j : Nat, (j : Int) < i.toInt → T2 j = T j) (e : T3 = upd T2 i.toNatClampNeg y) (h0 : 0 ≤ i.toInt) : preN T3 (i.toInt + 1).toNat = 9 * preN T i.toInt.toNat + y.toInt.toNat := by
  have ci := clC (x := i) rfl
  rw [show (i.toInt + 1).toNat = i.toInt.toNat + 1 by omega]
  show 9 * preN T3 i.toInt.toNat + (T3 i.toInt.toNat).toInt.toNat = _
  rw [pre_eq (T := T) i.toInt.toNat (fun j hj => by rw [e, pk_un (by omega)]; exact k j (by omega)), e, ← ci, pk_us]
theorem at_d {T wk T2 wk2 T3 : Nat → Int32} {n : Nat} {i y : Int32} {i2 : Int} (k : ksI i.toInt T wk T2 wk2) (e : T3 = upd T2 i.toNatClampNeg y) (h0 : 0 ≤ i.toInt) (h : i.toInt < (n : Int)) (hy : 0 ≤ y.toInt) (hi : i2 = i.toInt + 1) : atN T3 n i2 = atY T n i.toInt y.toInt := by
  subst hi
  unfold atN atY
  rw [pre_s k.1 e h0, show n - (i.toInt + 1).toNat = n - i.toInt.toNat - 1 by omega]
theorem at_u {T wk T2 wk2 T3 : Nat → Int32} {n : Nat} {i y : Int32} {i2 y2 : Int} (k : ksI i.toInt T wk T2 wk2) (e : T3 = upd T2 i.toNatClampNeg y) (h0 : 0 ≤ i.toInt) (h : i.toInt < (n : Int)) (hy : 0 ≤ y.toInt) (hi : i2 = i.toInt + 1) (hy2 : y2 = y.toInt + 1) : toN T3 n i2 = atY T n i.toInt y2 := by
  subst hi; subst hy2
  unfold toN atY
  rw [pre_s k.1 e h0, show n - (i.toInt + 1).toNat = n - i.toInt.toNat - 1 by omega, show (y.toInt + 1).toNat = y.toInt.toNat + 1 by omega, Nat.add_assoc]
/-- what comes behind a room that can't be walked is no plan -/
theorem pb_no {cos mi rst tri wk tri2 wk2 B : Nat → Int32} {V : Nat → Int} {al s y2 : Int} {i y : Int32} {n : Nat} (q : pbI (okC cos mi n) V n (atY tri n i.toInt y.toInt) s B) (k : skI cos mi rst n i.toInt al tri wk) (hk : ksI i.toInt tri wk tri2 wk2) (hw : ¬ wkb (cos y.toNatClampNeg) (mi i.toNatClampNeg)) (h : i.toInt < (n : Int)) (hy : 0 ≤ y.toInt) (hy7 : y.toInt ≤ 7) (hy2 : y2 = y.toInt + 1) : pbI (okC cos mi n) V n (atY tri n i.toInt y2) s B := by
  have h0 := k.1.1
  have ci := clC (x := i) rfl
  have cy := clC (x := y) rfl
  refine pb_skip q ?_ (fun d d1 d2 o => ?_)
  · subst hy2; unfold atY; exact Nat.mul_le_mul_right _ (by omega)
  · have e1 := at_d (n := n) (T3 := upd tri i.toNatClampNeg y) (ks_0 (i := i.toInt) (tri := tri) (wk := wk)) rfl h0 h hy rfl
    have e2 := at_u (n := n) (T3 := upd tri i.toNatClampNeg y) (ks_0 (i := i.toInt) (tri := tri) (wk := wk)) rfl h0 h hy rfl hy2
    rw [← e1] at d1
    rw [← e2] at d2
    have g := dg_pre (T := upd tri i.toNatClampNeg y) (n := n) (d := d) (i.toInt + 1).toNat (by omega) (fun j hj => by
      by_cases z : j = i.toNatClampNeg
      · subst z; rw [pk_us]; omega
      · rw [pk_un z]; exact k.2.1 j (by omega)) d1 d2 i.toNatClampNeg (by omega)
    rw [pk_us] at g
    have := o i.toNatClampNeg (by omega) (by omega)
    rw [g, ← cy] at this
    exact hw this
theorem ks_y {tri wk tri2 wk2 tri3 wk3 tri4 wk4 wk5 : Nat → Int32} {i y h b : Int32} {i2 : Int} (k : ksI i.toInt tri wk tri2 wk2) (e1 : tri3 = upd tri2 i.toNatClampNeg y) (e2 : wk3 = upd wk2 y.toNatClampNeg h) (k2 : ksI i2 tri3 wk3 tri4 wk4) (e5 : wk5 = upd wk4 y.toNatClampNeg b) (hb : b = wk2 y.toNatClampNeg) (h0 : 0 ≤ i.toInt) (hi2 : i2 = i.toInt + 1) : ksI i.toInt tri wk tri4 wk5 := by
  subst hi2
  have ci := clC (x := i) rfl
  refine ⟨fun j hj => ?_, fun q hq => ?_⟩
  · rw [k2.1 j (by omega), e1, pk_un (by omega)]; exact k.1 j hj
  · rw [← k.2 q hq]
    by_cases z : q = y.toNatClampNeg
    · subst z; rw [e5, pk_us]; exact hb
    · rw [e5, pk_un z, k2.2 q hq, e2, pk_un z]
theorem ks_8 {tri wk tri2 wk2 tri3 tri4 wk4 : Nat → Int32} {i y : Int32} {i2 : Int} (k : ksI i.toInt tri wk tri2 wk2) (e1 : tri3 = upd tri2 i.toNatClampNeg y) (k2 : ksI i2 tri3 wk2 tri4 wk4) (h0 : 0 ≤ i.toInt) (hi2 : i2 = i.toInt + 1) : ksI i.toInt tri wk tri4 wk4 := by
  subst hi2
  have ci := clC (x := i) rfl
  refine ⟨fun j hj => ?_, fun q hq => by rw [k2.2 q hq]; exact k.2 q hq⟩
  rw [k2.1 j (by omega), e1, pk_un (by omega)]; exact k.1 j hj
/-- the whole sum is the sum over all corners -/
theorem sk_V {cos mi rst mar f top str tri wk : Nat → Int32} {tel : Int32} {g al : Int} {n : Nat} {T : Nat → Int32} (k : skI cos mi rst n (n : Int) al tri wk) (R : rsI rst mar f top str tel g n) (r : rg 8 0 15 wk) (hT : ∀ j, j < n → T j = tri j) : al = srF top (plU mar f top str tel g T n) 0 48 := by
  obtain ⟨h, t, w, _, e⟩ := k
  have key : ∀ q : Nat, q ≤ 8 → s8F (wsF rst wk) q = srF top (plU mar f top str tel g T n) 0 (6 * q) := by
    intro q
    induction q with
    | zero => intro _; rfl
    | succ q ih =>
      intro hq
      show s8F (wsF rst wk) q + wsF rst wk q = _
      rw [ih (by omega), show 6 * (q + 1) = 6 * q + 6 by omega, sr_add]
      congr 1
      have rq := r q (by omega)
      have := (R q (by omega) (wk q).toInt.toNat (wd_lt w r (by omega) (by omega) h.2.2.2)).2.2
      unfold wsF
      rw [this]
      unfold rwF
      rw [nI_toNat rq.1]
      refine sr_eqk 6 (fun c c1 c2 => ?_)
      unfold plU
      refine sv_w (N := n) (fun i hi => ?_) n (Nat.le_refl n)
      rw [w q (by omega) i (by omega), decide_eq_true (p := (i : Int) < (n : Int)) (by omega), Bool.true_and, hT i hi, show c / 6 = q by omega]
  rw [e]; exact key 8 (Nat.le_refl 8)
theorem sk_leaf {cos mi rst mar f top str tri wk bes bes2 : Nat → Int32} {tel bst bst2 : Int32} {g i : Int} {al : Int32} {n : Nat} (q : pbI (okC cos mi n) (vlC mar f top str tel g n) n (atN tri n i) bst.toInt bes) (k : skI cos mi rst n i al.toInt tri wk) (R : rsI rst mar f top str tel g n) (r : rg 8 0 15 wk) (hi : (n : Int) ≤ i ∨ 4 ≤ i) (hk : (bst.toInt < al.toInt → bst2 = al ∧ ∀ j : Nat, j < 4 → bes2 j = tri j) ∧ (al.toInt ≤ bst.toInt → bst2 = bst ∧ bes2 = bes)) : pbI (okC cos mi n) (vlC mar f top str tel g n) n (toN tri n i) bst2.toInt bes2 := by
  have hin : i = (n : Int) := by have := k.1; omega
  subst hin
  have en : ((n : Int)).toNat = n := by omega
  have ea : atN tri n (n : Int) = preN tri n := by unfold atN; rw [en, Nat.sub_self, Nat.pow_zero, Nat.mul_one]
  have et : toN tri n (n : Int) = preN tri n + 1 := by unfold toN; rw [en, Nat.sub_self, Nat.pow_zero, Nat.mul_one]
  have dg : ∀ j, j < n → dgN n (preN tri n) j = (tri j).toInt.toNat := dg_pre (T := tri) (n := n) n (Nat.le_refl n) (fun j hj => k.2.1 j (by omega)) (by rw [Nat.sub_self, Nat.pow_zero, Nat.mul_one]; exact Nat.le_refl _) (by rw [Nat.sub_self, Nat.pow_zero, Nat.mul_one]; omega)
  have pl : ∀ j, j < n → plN n (preN tri n) j = tri j := fun j hj => by
    show nI (dgN n (preN tri n) j) = tri j
    rw [dg j hj]; exact nI_toNat (k.2.1 j (by omega)).1
  have eV : vlC mar f top str tel g n (preN tri n) = al.toInt := (sk_V k R r pl).symm
  have o : okC cos mi n (preN tri n) := fun j hj l => by
    have w := k.2.2.2.1 j (by omega)
    have b := k.2.1 j (by omega)
    rw [dg j hj] at l ⊢
    have := w (by omega)
    rw [clC (x := tri j) rfl] at this
    exact this
  have h0 := (skA_rg k R r).1
  rw [ea] at q
  by_cases c : bst.toInt < al.toInt
  · obtain ⟨c1, c2⟩ := hk.1 c
    exact pb_gt q o (by rw [eV]; exact c) (by rw [eV, c1]) (fun j hj => by rw [c2 j (by have := k.1; omega), pl j hj]) et
  · obtain ⟨c1, c2⟩ := hk.2 (by omega)
    rw [c1, c2]
    exact pb_le q (by rw [eV]; exact h0) (by rw [eV]; omega) et
-- findBest: the rooms' strengths by the days walked
theorem sh1_pow {n : Int32} (h1 : 1 ≤ n.toInt) (h4 : n.toInt ≤ 4) : ((1 : Int32) <<< (n &&& 31)).toInt = 2 ^ n.toInt.toNat := by
  have key : ∀ k : Nat, k < 5 → ((1 : Int32) <<< (nI k &&& 31)).toInt = 2 ^ k := by decide +kernel
  have := key n.toInt.toNat (by omega)
  rw [nI_toNat (by omega)] at this; exact this
def rsQ (rst mar f top str : Nat → Int32) (tel : Int32) (g : Int) (n : Nat) (q m : Int) : Prop := ∀ a d : Nat, a < 8 → d < 16 → (((a : Int) < q ∧ d < 2 ^ n) ∨ ((a : Int) = q ∧ (d : Int) < m)) → 0 ≤ (rst (16 * a + d)).toInt ∧ (rst (16 * a + d)).toInt ≤ 600 ∧ (rst (16 * a + d)).toInt = rwF mar f top str tel g n a d
theorem rq_0 {rst mar f top str : Nat → Int32} {tel : Int32} {g q m : Int} {n : Nat} (hq : q = 0) (hm : m = 0) : rsQ rst mar f top str tel g n q m := fun a d _ _ h => by omega
theorem rq_s {rst rst2 mar f top str cro : Nat → Int32} {tel x r y z : Int32} {g m q : Int} {n : Nat} (w : rsQ rst mar f top str tel g n q z.toInt) (e : rst2 = upd rst x.toNatClampNeg r) (hr : r.toInt = srF top (fun c => svF f (cro c).toInt g (bitW z) (str c).toInt n) (y.toInt * 6).toNat 6) (hr0 : 0 ≤ r.toInt) (hr1 : r.toInt ≤ 600) (hc : ∀ j : Nat, j < 48 → (cro j).toInt = cwF mar top tel j (j - j % 6) 6) (hq : q = y.toInt) (hx : x.toInt = y.toInt * 16 + z.toInt) (hy : 0 ≤ y.toInt) (hy7 : y.toInt ≤ 7) (hz : 0 ≤ z.toInt) (hz15 : z.toInt ≤ 15) (hm : m = z.toInt + 1) : rsQ rst2 mar f top str tel g n q m := by
  subst hm; subst hq
  have cx := clC hx
  intro a d ha hd16 h
  by_cases c : 16 * a + d = x.toNatClampNeg
  · have ea : a = y.toInt.toNat := by omega
    have ed : d = z.toInt.toNat := by omega
    rw [c, e, pk_us]
    refine ⟨hr0, hr1, ?_⟩
    rw [hr]
    unfold rwF
    rw [ed, nI_toNat hz, show (y.toInt * 6).toNat = 6 * a by omega]
    refine sr_eqk 6 (fun k k1 k2 => ?_)
    show svF f (cro k).toInt g (bitW z) (str k).toInt n = _
    rw [hc k (by omega)]
  · rw [e, pk_un c]
    exact w a d ha hd16 (by omega)
theorem rq_o {rst mar f top str : Nat → Int32} {tel : Int32} {g q m q2 m2 : Int} {n : Nat} (w : rsQ rst mar f top str tel g n q m) (hm : (2 ^ n : Nat) ≤ m) (hq2 : q2 = q + 1) (hm2 : m2 = 0) : rsQ rst mar f top str tel g n q2 m2 := by
  subst hq2; subst hm2
  intro a d ha hd h
  refine w a d ha hd ?_
  rcases h with ⟨h1, h2⟩ | ⟨_, h2⟩
  · by_cases z : (a : Int) = q
    · exact .inr ⟨z, by have : (d : Int) < ((2 ^ n : Nat) : Int) := Int.ofNat_lt.mpr h2; omega⟩
    · exact .inl ⟨by omega, h2⟩
  · omega
theorem rq_c {rst mar f top str : Nat → Int32} {tel : Int32} {g q m q2 m2 : Int} {n : Nat} (w : rsQ rst mar f top str tel g n q m) (e1 : q2 = q) (e2 : m2 = m) : rsQ rst mar f top str tel g n q2 m2 := by subst e1; subst e2; exact w
theorem rq_I {rst mar f top str : Nat → Int32} {tel : Int32} {g q m : Int} {n : Nat} (w : rsQ rst mar f top str tel g n q m) (hq : 8 ≤ q) (hn : n ≤ 4) : rsI rst mar f top str tel g n := by
  intro a ha d hd
  have : 2 ^ n ≤ 16 := Nat.pow_le_pow_right (n := 2) (by omega) (show n ≤ 4 from hn)
  exact w a d ha (by omega) (.inl ⟨by omega, hd⟩)
def suQ (rst : Nat → Int32) (q S : Int) : Prop := S = s8F (fun a => (rst (16 * a)).toInt) q.toNat
theorem sq_0 {rst : Nat → Int32} {q S : Int} (hq : q = 0) (hS : S = 0) : suQ rst q S := by subst hq; exact hS
theorem sq_k {rst rst2 : Nat → Int32} {q S : Int} {x r : Int32} (w : suQ rst q S) (e : rst2 = upd rst x.toNatClampNeg r) (hx : 16 * q ≤ x.toInt) (h0 : 0 ≤ q) : suQ rst2 q S := by
  have cx := clC (x := x) rfl
  unfold suQ
  rw [w]
  exact s8_eq _ (fun a ha => by show (rst (16 * a)).toInt = (rst2 (16 * a)).toInt; rw [e, pk_un (by omega)])
theorem sq_s {rst : Nat → Int32} {q q2 S S2 : Int} {x : Int32} (w : suQ rst q S) (hS : S2 = S + (rst x.toNatClampNeg).toInt) (hx : x.toInt = 16 * q) (h0 : 0 ≤ q) (hq : q2 = q + 1) : suQ rst q2 S2 := by
  subst hq
  have cx := clC (x := x) rfl
  unfold suQ
  rw [show (q + 1).toNat = q.toNat + 1 by omega]
  show S2 = s8F (fun a => (rst (16 * a)).toInt) q.toNat + (rst (16 * q.toNat)).toInt
  rw [hS, ← w, show x.toNatClampNeg = 16 * q.toNat by omega]
theorem sk_0 {few top cos mi rst tri wk : Nat → Int32} {n : Nat} {i q S : Int} (p : prI few top 8 cos wk) (w : suQ rst q S) (hq : q = 8) (hi : i = 0) (h1 : 1 ≤ n) (h4 : n ≤ 4) : skI cos mi rst n i S tri wk := by
  subst hi; subst hq
  refine ⟨⟨by omega, by omega, h1, h4⟩, fun j hj => by omega, wd_P p rfl, fun j hj => by omega, ?_⟩
  have w' : S = s8F (fun a => (rst (16 * a)).toInt) 8 := w
  rw [w']
  refine s8_eq 8 (fun a ha => ?_)
  show (rst (16 * a)).toInt = (rst (16 * a + (wk a).toInt.toNat)).toInt
  rw [(p a (by omega)).2]; rfl
theorem at_00 {T : Nat → Int32} {n : Nat} {i : Int} (h : i = 0) : atN T n i = 0 := by subst h; show 0 * 9 ^ (n - 0) = 0; exact Nat.zero_mul _
theorem to_00 {T : Nat → Int32} {n : Nat} {i : Int} (h : i = 0) : toN T n i = 9 ^ n := by subst h; show (0 + 1) * 9 ^ (n - 0) = 9 ^ n; rw [Nat.sub_zero, Nat.zero_add, Nat.one_mul]
def okL (n mi wh : Int32) : Prop := (1 ≤ n.toInt ∧ n.toInt ≤ 4) ∧ (-1 ≤ wh.toInt ∧ wh.toInt < n.toInt) ∧ ∀ j : Nat, (j : Int) < n.toInt → (mnW mi j).toInt < 100
def bdL (n mi wh : Int32) : Prop := (n.toInt < 1 ∨ 4 < n.toInt) ∨ (wh.toInt < -1 ∨ n.toInt ≤ wh.toInt) ∨ ∃ j : Nat, (j : Int) < n.toInt ∧ 99 < (mnW mi j).toInt
theorem ob_L {n mi wh : Int32} (h : bdL n mi wh) (k : okL n mi wh) : False := by
  obtain ⟨k1, k2, k3⟩ := k
  rcases h with h | h | ⟨j, a, b⟩
  · omega
  · omega
  · have := k3 j a; omega
def anL (wh r s : Int32) (B : Nat → Int32) : Prop := (wh.toInt < 0 ∧ r = s) ∨ (0 ≤ wh.toInt ∧ r = B wh.toInt.toNat)
def spPlnC (few mar f top str : Nat → Int32) (tel : Int32) (g : Int) (n mi wh r : Int32) : Prop := (bdL n mi wh ∧ r = -3) ∨ (okL n mi wh ∧ ∃ (cos B : Nat → Int32) (s : Int32), (∀ j : Nat, j < 8 → coC few top (nI j) (cos j)) ∧ pbI (okC cos (mnW mi) n.toInt.toNat) (vlC mar f top str tel g n.toInt.toNat) n.toInt.toNat (9 ^ n.toInt.toNat) s.toInt B ∧ anL wh r s B)
theorem ok_mi {cos mi mi2 : Nat → Int32} {n d : Nat} (e : ∀ j, j < n → mi j = mi2 j) (o : okC cos mi n d) : okC cos mi2 n d := fun i hi l => by rw [← e i hi]; exact o i hi l
theorem pb_mi {cos mi mi2 B : Nat → Int32} {V : Nat → Int} {n K : Nat} {s : Int} (e : ∀ j, j < n → mi j = mi2 j) (q : pbI (okC cos mi n) V n K s B) : pbI (okC cos mi2 n) V n K s B := by
  have e2 : ∀ j, j < n → mi2 j = mi j := fun j hj => (e j hj).symm
  rcases q with ⟨a, b⟩ | ⟨c, c1, c2, c3, c4, c5, c6⟩
  · exact .inl ⟨a, fun d hd o => b d hd (ok_mi e2 o)⟩
  · exact .inr ⟨c, c1, ok_mi e c2, c3, fun d hd o => c4 d hd (ok_mi e2 o), fun d hd o => c5 d hd (ok_mi e2 o), c6⟩
theorem pl_cE {few mar f top str cos B M : Nat → Int32} {tel n mi wh r s : Int32} {g : Int} (hn : 1 ≤ n.toInt ∧ n.toInt ≤ 4) (hw : -1 ≤ wh.toInt ∧ wh.toInt < n.toInt) (t : twI (mnW mi) 99 n.toInt M) (hc : ∀ j : Nat, j < 8 → coC few top (nI j) (cos j)) (q : pbI (okC cos M n.toInt.toNat) (vlC mar f top str tel g n.toInt.toNat) n.toInt.toNat (9 ^ n.toInt.toNat) s.toInt B) (a : anL wh r s B) : spPlnC few mar f top str tel g n mi wh r := by
  refine .inr ⟨⟨hn, hw, fun j hj => by have := t j hj; rw [this.1] at this; have := this.2; omega⟩, cos, B, s, hc, pb_mi (fun j hj => (t j (by omega)).1) q, a⟩
theorem an_s {wh s : Int32} {B : Nat → Int32} (h : wh.toInt < 0) : anL wh s s B := .inl ⟨h, rfl⟩
theorem an_b {wh s r : Int32} {B : Nat → Int32} (h : 0 ≤ wh.toInt) (e : r = B wh.toNatClampNeg) : anL wh r s B := .inr ⟨h, by rw [e, clC (x := wh) rfl]⟩
theorem or_lt {x h i : Int32} {n : Nat} (hl : x.toInt.toNat < 2 ^ n) (e : h = x ||| ((1 : Int32) <<< (i &&& 31))) (hx : 0 ≤ x.toInt) (hi0 : 0 ≤ i.toInt) (hi : i.toInt < (n : Int)) (hn : n ≤ 4) : h.toInt.toNat < 2 ^ n := by
  have key : ∀ n, n ≤ 4 → ∀ x, x < 2 ^ n → ∀ i, i < n → (nI x ||| ((1 : Int32) <<< (nI i &&& 31))).toInt.toNat < 2 ^ n := by decide +kernel
  have := key n hn x.toInt.toNat hl i.toInt.toNat (by omega)
  rw [nI_toNat hx, nI_toNat hi0, ← e] at this; exact this
theorem rs_rg {rst mar f top str : Nat → Int32} {tel x y w : Int32} {g : Int} {n : Nat} (R : rsI rst mar f top str tel g n) (hy : 0 ≤ y.toInt) (hy7 : y.toInt ≤ 7) (hx : x.toInt = y.toInt * 16 + w.toInt) (hw : 0 ≤ w.toInt) (hl : w.toInt.toNat < 2 ^ n) : 0 ≤ (rst x.toNatClampNeg).toInt ∧ (rst x.toNatClampNeg).toInt ≤ 600 ∧ x.toNatClampNeg = 16 * y.toInt.toNat + w.toInt.toNat := by
  have cx := clC hx
  have e : x.toNatClampNeg = 16 * y.toInt.toNat + w.toInt.toNat := by omega
  have := R y.toInt.toNat (by omega) w.toInt.toNat hl
  rw [e]; exact ⟨this.1, this.2.1, rfl⟩
theorem at_8 {T wk T2 wk2 T3 : Nat → Int32} {n : Nat} {i : Int32} {i2 y : Int} (k : ksI i.toInt T wk T2 wk2) (e : T3 = upd T2 i.toNatClampNeg 8) (h0 : 0 ≤ i.toInt) (h : i.toInt < (n : Int)) (hy : y = 8) (hi : i2 = i.toInt + 1) : atN T3 n i2 = atY T n i.toInt y := by
  rw [hy]; exact at_d k e h0 h (by decide) hi
theorem to_8 {T wk T2 wk2 T3 : Nat → Int32} {n : Nat} {i : Int32} {i2 : Int} (k : ksI i.toInt T wk T2 wk2) (e : T3 = upd T2 i.toNatClampNeg 8) (h0 : 0 ≤ i.toInt) (h : i.toInt < (n : Int)) (hi : i2 = i.toInt + 1) : toN T n i.toInt = toN T3 n i2 := by
  rw [at_u (y := 8) (y2 := 9) k e h0 h (by decide) hi (by decide)]; exact (at_9 h h0 rfl).symm
theorem pw16 {n : Int32} (h1 : 1 ≤ n.toInt) (h4 : n.toInt ≤ 4) : (2 : Int) ^ n.toInt.toNat ≤ 16 ∧ ((2 ^ n.toInt.toNat : Nat) : Int) = (2 : Int) ^ n.toInt.toNat := by
  have key : ∀ k : Nat, k < 5 → (2 : Int) ^ k ≤ 16 ∧ ((2 ^ k : Nat) : Int) = (2 : Int) ^ k := by decide +kernel
  exact key n.toInt.toNat (by omega)
theorem cpy_4 {f g h : Nat → Int32} (e : h = va_cpy f g 0 0 4) : ∀ j : Nat, j < 4 → h j = f j := by
  intro j hj; subst e; unfold va_cpy
  rw [if_pos ⟨Nat.zero_le _, by omega⟩]; congr 1; omega
set_option maxHeartbeats 4000000 in
set_option maxRecDepth 100000 in
theorem k_X3_keepIfStronger2 (l : Launch) (dC : Nat → ClassId) (dI : Nat → Nat → Nat) (cI cZ cQ : ClassId) (a : Nat → Nat) (min : Nat → Int32) (tri : Nat → Int32) (bes : Nat → Int32) (wkd : Nat → Int32) (cos : Nat → Int32) (rst : Nat → Int32) (bst : Int32) (top : Nat → Int32) (str : Nat → Int32) (gho : Nat → Int32) (ghs : Nat → Int32) (pto : Nat → Int32) (cro : Nat → Int32) (pla : Nat → Int32) (wal : Nat → Int32) (fal : Nat → Int32) (tel : Int32) (gai : Int32) (day : Int32) (mar : Nat → Int32) (few : Nat → Int32) (doo : Int32) (sz : Nat) (al : Int32) (r_wkd : rg 8 (0) (15) wkd) (r_top : rg 48 (-1) (23) top) (r_str : rg 48 (0) (100) str) (r_gho : rg 48 (-1) (23) gho) (r_ghs : rg 48 (0) (100) ghs) (r_cro : rg 48 (0) (6) cro) (r_pla : rg 24 (-1) (47) pla) (r_fal : rg 11 (0) (30) fal) (r_gai : 0 ≤ gai.toInt ∧ gai.toInt ≤ 100) (r_day : 0 ≤ day.toInt ∧ day.toInt ≤ 400) (r_mar : rg 24 (0) (255) mar) : KV l yX3_keepIfStronger wsX3_keepIfStronger { frames := 1, cells := 0, slots := 0, locals := 40 } (dC, dI) (TY cI cZ cQ) (wPln cI cZ cQ a min tri bes wkd cos rst bst top str gho ghs pto cro pla wal fal tel gai day mar few doo) [.ref (a 16), .int al] sz 0 0 (fun (u : US) => ((bst.toInt < al.toInt → (u.1 0 0) = al ∧ ∀ j : Nat, j < 4 → (u.1 1) j = tri j) ∧ (al.toInt ≤ bst.toInt → (u.1 0 0) = bst ∧ (u.1 1) = bes))) (fun u : US => (wPln cI cZ cQ a min tri (u.1 1) wkd cos rst (u.1 0 0) top str gho ghs pto cro pla wal fal tel gai day mar few doo)) := by
  refine Met.ofW (cc := cX3_keepIfStronger) (maxL := 2) (ret := none) (by decide) rfl ?_
  intro p e s m args below meth c s₁ B hml hv
  obtain ⟨rfl, hsz, hP, hK, hD0, hN⟩ := hv
  have hx := B.exec
  have hb := B.bytes
  have hr := B.returns
  have hts := atoms_spec (ws := wsX3_keepIfStronger) B.pre
  have hown : s.vm.findClass RX3 = some m.cls := findClass_of_methodNamed B.named
  have hlocks := B.notSynchronized
  have lf65 := hts (.fieldLink RX3 65 "PalaceOfRooms$Planner" "bestStrength" "I") (by decide +kernel)
  have inX3 : ∀ w ∈ wsX30, w ∈ wsX3_keepIfStronger := by decide +kernel
  have lf15 := hts (.fieldLink RX3 15 "PalaceOfRooms$Planner" "trial" "[I") (by decide +kernel)
  have lf18 := hts (.fieldLink RX3 18 "PalaceOfRooms$Planner" "best" "[I") (by decide +kernel)
  subst hsz
  have hD := hD0.self (sz := s.heap.size)
  generalize hAe : va_A (wPln cI cZ cQ a min tri bes wkd cos rst bst top str gho ghs pto cro pla wal fal tel gai day mar few doo) s.heap.size = A at hD ⊢
  have hA : ∀ q : Nat, s.heap.size ≤ q → A q := fun q h => by rw [← hAe]; exact Or.inr h
  have hS : va_S A s.heap s.heap [] := va_S.rf
  have hl := lv_entry ([.ref (a 16), .int al]) (n := 2) (Nat.le_of_ble_eq_true rfl)
  rw [lg_entry_eq]
  generalize (lg_sl ([.ref (a 16), .int al]) ++ List.replicate (2 - (lg_sl ([.ref (a 16), .int al])).length) Slot.unset).toArray = ls at hl ⊢
  have hl : lv_has ls 2 [(0, .ref (a 16)), (1, .int al)] := hl
  refine lv_iload_n hx hb dX3_keepIfStronger_0 rfl (lv_at hl 1 rfl) ?_
  refine lv_aload_n hx hb dX3_keepIfStronger_1 rfl (lv_at hl 0 rfl) ?_
  refine va_get (D := (dC, dI)) (ci := 3) (v := .int bst) (C := RX3) (T := TX3) (N := 9) hx hb hts inX3 hown hK hP 0 rfl rfl 8 (by decide) lf65 (fun _ h9 => h9) rfl dX3_keepIfStronger_2 ?_
  refine lv_icmp_le (tgt := 27) hx hb dX3_keepIfStronger_5 (by decide) (fun c1 => ?_) (fun c1 => ?_)
  · have dc1 : al.toInt ≤ bst.toInt := leC rfl rfl c1
    exact W.vret hx hb hr (fun tq ht hW => ⟨⟨(uS [(fun _ => bst), bes] 0 (fun _ => 0)), rfl, (show (bst.toInt < al.toInt → bst = al ∧ ∀ j : Nat, j < 4 → bes j = tri j) ∧ (al.toInt ≤ bst.toInt → bst = bst ∧ bes = bes) from by (first | exact ⟨fun h => absurd h (by omega), fun _ => ⟨rfl, rfl⟩⟩ | exact ⟨fun _ => ⟨rfl, cpy_4 (by assumption)⟩, fun h => absurd h (by omega)⟩)), by rw [ht]; exact hP, hD⟩, hS.F ht⟩) hS.2.2 dX3_keepIfStronger_27
  · have dc1 : bst.toInt < al.toInt := nleC rfl rfl c1
    refine lv_aload_n hx hb dX3_keepIfStronger_8 rfl (lv_at hl 0 rfl) ?_
    refine lv_iload_n hx hb dX3_keepIfStronger_9 rfl (lv_at hl 1 rfl) ?_
    refine va_put (D := (dC, dI)) (ci := 3) (v := .int al) (ty := .int) (C := RX3) (T := TX3) (N := 9) hx hb hts inX3 tyX3 tyX3_ok nmX3 hown hK hP hD hS 0 rfl rfl 8 (by decide) lf65 (fun _ h9 => h9) rfl (by decide +kernel) rfl rfl (Nat.le_of_ble_eq_true rfl) dX3_keepIfStronger_10 (fun H locs hP hD hS => ?_)
    have hP : va_P (dC, dI) vwCl (wPln cI cZ cQ a min tri bes wkd cos rst al top str gho ghs pto cro pla wal fal tel gai day mar few doo) H := hP
    have hD : va_D A (wPln cI cZ cQ a min tri bes wkd cos rst al top str gho ghs pto cro pla wal fal tel gai day mar few doo) := hD
    refine lv_aload_n hx hb dX3_keepIfStronger_13 rfl (lv_at hl 0 rfl) ?_
    refine va_get (D := (dC, dI)) (ci := 3) (v := .ref (a 18)) (C := RX3) (T := TX3) (N := 9) hx hb hts inX3 hown hK hP 0 rfl rfl 3 (by decide) lf15 (fun _ h9 => h9) rfl dX3_keepIfStronger_14 ?_
    refine lv_iconst (v := 0) hx hb dX3_keepIfStronger_17 (by decide) ?_
    refine lv_aload_n hx hb dX3_keepIfStronger_18 rfl (lv_at hl 0 rfl) ?_
    refine va_get (D := (dC, dI)) (ci := 3) (v := .ref (a 19)) (C := RX3) (T := TX3) (N := 9) hx hb hts inX3 hown hK hP 0 rfl rfl 4 (by decide) lf18 (fun _ h9 => h9) rfl dX3_keepIfStronger_19 ?_
    refine lv_iconst (v := 0) hx hb dX3_keepIfStronger_22 (by decide) ?_
    refine lv_iconst (v := 4) hx hb dX3_keepIfStronger_23 (by decide) ?_
    refine va_copyi (ty := .int) (n := 4) hx hb (by rw [hml]; exact hl.1.symm) hown (hts (.methodLink RX3 89 arraycopyName) (by decide +kernel)) (hts (.native arraycopyName) (by decide +kernel)) (hts (.static arraycopyName) (by decide +kernel)) (hts (.initialized "java/lang/System") (by decide +kernel)) hK hP hD hS 2 3 0 0 rfl rfl rfl rfl rfl (by decide) (by decide) (by decide) (by decide) (by decide) (fun _ _ => rfl) (Nat.le_of_ble_eq_true rfl) (Nat.le_of_ble_eq_true rfl) dX3_keepIfStronger_24 (fun H locs hP hD hS => ?_)
    obtain ⟨bes_u2, ebes_u2⟩ : ∃ f : Nat → Int32, f = va_cpy tri bes 0 0 4 := ⟨_, rfl⟩
    have hP : va_P (dC, dI) vwCl (wPln cI cZ cQ a min tri bes_u2 wkd cos rst al top str gho ghs pto cro pla wal fal tel gai day mar few doo) H := by rw [ebes_u2]; exact hP
    have hD : va_D A (wPln cI cZ cQ a min tri bes_u2 wkd cos rst al top str gho ghs pto cro pla wal fal tel gai day mar few doo) := by rw [ebes_u2]; exact hD
    exact W.vret hx hb hr (fun tq ht hW => ⟨⟨(uS [(fun _ => al), bes_u2] 0 (fun _ => 0)), rfl, (show (bst.toInt < al.toInt → al = al ∧ ∀ j : Nat, j < 4 → bes_u2 j = tri j) ∧ (al.toInt ≤ bst.toInt → al = bst ∧ bes_u2 = bes) from by (first | exact ⟨fun h => absurd h (by omega), fun _ => ⟨rfl, rfl⟩⟩ | exact ⟨fun _ => ⟨rfl, cpy_4 (by assumption)⟩, fun h => absurd h (by omega)⟩)), by rw [ht]; exact hP, hD⟩, hS.F ht⟩) hS.2.2 dX3_keepIfStronger_27
