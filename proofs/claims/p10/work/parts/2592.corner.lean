-- ===== CORNERS: the class's and the model's =====
theorem it_pos {c : Int32} {V X : Int} (h : c = -1) (hV : V = 0) : V = (if c = -1 then 0 else X) := by rw [if_pos h]; exact hV
theorem it_neg {c : Int32} {V X : Int} (h : ¬ c = -1) (hV : V = X) : V = (if c = -1 then 0 else X) := by rw [if_neg h]; exact hV
def fnt (gho fai : Nat → Int32) (j : Nat) : Int := if gho j = -1 then 0 else (fai j).toInt
def laI (top str gho fai : Nat → Int32) (i : Int) (A F : Nat → Int32) : Prop := ∀ j : Nat, (j : Int) < i → (A j).toInt = (if top j = -1 then 0 else (str j).toInt) ∧ (F j).toInt = (if gho j = -1 then 0 else (fai j).toInt)
theorem la_init {top str gho fai A F : Nat → Int32} {i : Int} (hi : i = 0) : laI top str gho fai i A F := fun j hj => by omega
theorem la_step {top str gho fai A F A2 F2 : Nat → Int32} {y v w : Int32} {i : Int} (q : laI top str gho fai y.toInt A F) (eA : A2 = upd A y.toNatClampNeg v) (eF : F2 = upd F y.toNatClampNeg w) (hy : 0 ≤ y.toInt) (hv : v.toInt = (if top y.toNatClampNeg = -1 then 0 else (str y.toNatClampNeg).toInt)) (hw : w.toInt = (if gho y.toNatClampNeg = -1 then 0 else (fai y.toNatClampNeg).toInt)) (hi : i = y.toInt + 1) : laI top str gho fai i A2 F2 := by
  subst hi; subst eA; subst eF
  have ey := clC (x := y) rfl
  intro j hj
  by_cases c : j = y.toNatClampNeg
  · subst c; rw [pk_us, pk_us]; exact ⟨hv, hw⟩
  · rw [pk_un c, pk_un c]; exact q j (by omega)
def laS (f mar top str gho fai : Nat → Int32) (tel : Int32) (n : Nat) (A F : Nat → Int32) : Prop := ∀ j : Nat, j < 48 → (top j ≠ -1 → (A j).toInt = itf f (cwF mar top tel j (j - j % 6) 6) (str j).toInt n) ∧ (F j).toInt = itf f 0 (fnt gho fai j) n
theorem la_zero {f mar top str gho fai A F : Nat → Int32} {tel : Int32} {i : Int} {n : Nat} (q : laI top str gho fai i A F) (hi : 48 ≤ i) (hn : n = 0) : laS f mar top str gho fai tel n A F := by
  subst hn
  intro j hj
  have w := q j (by omega)
  refine ⟨fun z => ?_, w.2⟩
  have := w.1; rw [if_neg z] at this; exact this
theorem la_day {f mar top str gho fai A F A2 F2 : Nat → Int32} {tel : Int32} {n n2 : Nat} {o : Int} (q : laS f mar top str gho fai tel n A F) (g : gdS f mar top tel o 48 A F A2 F2) (ho : o = 0) (hn : n2 = n + 1) : laS f mar top str gho fai tel n2 A2 F2 := by
  subst hn; subst ho
  intro j hj
  have w := (g j (by omega)).1 ⟨by omega, by omega⟩
  have z := q j hj
  refine ⟨fun t => ?_, ?_⟩
  · have w1 := w.1
    unfold gdV at w1
    rw [show j - (0 : Int).toNat = j from rfl, if_neg t, z.1 t] at w1
    exact w1
  · have w2 := w.2
    rw [z.2] at w2
    exact w2
def dyI (gho A F : Nat → Int32) (i : Int) (S Fa G : Nat → Int32) : Prop := ∀ j : Nat, j < 48 → ((j : Int) < i → S j = A j ∧ Fa j = F j ∧ ((F j).toInt = 0 → G j = -1) ∧ ((F j).toInt ≠ 0 → G j = gho j)) ∧ (i ≤ j → G j = gho j)
theorem dy_init {gho A F S Fa : Nat → Int32} {i : Int} (hi : i = 0) : dyI gho A F i S Fa gho := fun j _ => ⟨fun q => by omega, fun _ => rfl⟩
theorem dy_step {gho A F S Fa G S2 Fa2 G2 : Nat → Int32} {y x w g : Int32} {i : Int} (q : dyI gho A F y.toInt S Fa G) (eS : S2 = upd S y.toNatClampNeg x) (hx : x = A y.toNatClampNeg) (eF : Fa2 = upd Fa y.toNatClampNeg w) (hw : w = F y.toNatClampNeg) (eG : G2 = upd G y.toNatClampNeg g) (hy : 0 ≤ y.toInt) (hy2 : y.toInt < 48) (hg : ((Fa2 y.toNatClampNeg).toInt = 0 ∧ g = -1) ∨ ((Fa2 y.toNatClampNeg).toInt ≠ 0 ∧ g = G y.toNatClampNeg)) (hi : i = y.toInt + 1) : dyI gho A F i S2 Fa2 G2 := by
  subst hi; subst eS; subst eF; subst eG; subst hx; subst hw
  have ey := clC (x := y) rfl
  rw [pk_us] at hg
  have w0 := (q y.toNatClampNeg (by omega)).2 (by omega)
  intro j hj
  by_cases c : j = y.toNatClampNeg
  · subst c
    refine ⟨fun _ => ⟨pk_us, pk_us, fun z => ?_, fun z => ?_⟩, fun z => by omega⟩
    · rcases hg with h | h
      · rw [pk_us]; exact h.2
      · exact absurd z h.1
    · rcases hg with h | h
      · exact absurd h.1 z
      · rw [pk_us, h.2]; exact w0
  · rw [pk_un c, pk_un c, pk_un c]
    exact ⟨fun z => (q j hj).1 (by omega), fun z => (q j hj).2 (by omega)⟩
def dyM (mar f top str gho fai : Nat → Int32) (tel : Int32) (n : Nat) (S G Fa : Nat → Int32) : Prop := ∀ j : Nat, j < 48 → (top j ≠ -1 → (S j).toInt = itf f (cwF mar top tel j (j - j % 6) 6) (str j).toInt n) ∧ (Fa j).toInt = itf f 0 (fnt gho fai j) n ∧ ((Fa j).toInt = 0 → G j = -1) ∧ ((Fa j).toInt ≠ 0 → G j = gho j)
theorem dy_end {mar f top str gho fai A F S Fa G : Nat → Int32} {tel : Int32} {n m : Nat} {i : Int} (q : laS f mar top str gho fai tel n A F) (d : dyI gho A F i S Fa G) (hi : 48 ≤ i) (hn : m = n) : dyM mar f top str gho fai tel m S G Fa := by
  subst hn
  intro j hj
  have w := (d j hj).1 (by omega)
  have z := q j hj
  rw [w.1, w.2.1]
  exact ⟨z.1, z.2, w.2.2⟩
-- walking
def gwF (top A : Nat → Int32) (g : Int) (o lo : Nat) : Nat → Int
  | 0 => 0
  | k + 1 => gwF top A g o lo k + (if top (lo + k) = -1 then 0 else gn g (A (o + (lo + k))).toInt)
def gwS (top : Nat → Int32) (g o lo i : Int) (A A2 : Nat → Int32) (came : Int) : Prop :=
  (∀ k : Nat, k < 240 → (o + lo ≤ k ∧ (k : Int) < o + i ∧ top (k - o.toNat) ≠ -1 → (A2 k).toInt = (A k).toInt + gn g (A k).toInt) ∧ (¬ (o + lo ≤ k ∧ (k : Int) < o + i ∧ top (k - o.toNat) ≠ -1) → A2 k = A k)) ∧ came = gwF top A g o.toNat lo.toNat (i - lo).toNat
theorem gw_init {top A : Nat → Int32} {g o lo i c : Int} (hi : i = lo) (hc : c = 0) : gwS top g o lo i A A c := by
  subst hi; subst hc
  refine ⟨fun j _ => ⟨fun q => by omega, fun _ => rfl⟩, ?_⟩
  rw [show (i - i).toNat = 0 by omega]; rfl
theorem gw_step {top A A1 A2 : Nat → Int32} {g o lo i c c2 r : Int} {y x xr : Int32} (q : gwS top g o lo y.toInt A A1 c) (ho : 0 ≤ o) (ho2 : o ≤ 192) (h0 : 0 ≤ lo) (h1 : lo ≤ y.toInt) (h2 : y.toInt < 48) (hxr : xr.toInt = o + y.toInt) (es : A2 = upd A1 xr.toNatClampNeg x) (hr : r = (if top y.toNatClampNeg = -1 then 0 else gn g (A1 xr.toNatClampNeg).toInt)) (hx : x.toInt = (A1 xr.toNatClampNeg).toInt + r) (hc : c2 = c + r) (hi : i = y.toInt + 1) : gwS top g o lo i A A2 c2 := by
  subst hi; subst es
  have e := clC (x := y) rfl
  have ex := clC hxr
  rw [ex] at hr hx ⊢
  have w0 := (q.1 (o + y.toInt).toNat (by omega)).2 (fun z => by omega)
  rw [w0] at hr hx
  refine ⟨fun j hj => ?_, ?_⟩
  · have w := q.1 j hj
    by_cases c : j = (o + y.toInt).toNat
    · subst c
      have et : (o + y.toInt).toNat - o.toNat = y.toNatClampNeg := by omega
      rw [et, pk_us]
      by_cases t : top y.toNatClampNeg = -1
      · rw [if_pos t] at hr
        refine ⟨fun z => absurd t z.2.2, fun _ => ?_⟩
        apply Int32.toInt_inj.mp; rw [hx, hr]; omega
      · rw [if_neg t] at hr
        exact ⟨fun _ => by rw [hx, hr], fun z => absurd ⟨by omega, by omega, t⟩ z⟩
    · rw [pk_un c]
      exact ⟨fun z => w.1 ⟨z.1, by omega, z.2.2⟩, fun z => w.2 (fun t => z ⟨t.1, by omega, t.2.2⟩)⟩
  · have w := q.2
    rw [show (y.toInt + 1 - lo).toNat = (y.toInt - lo).toNat + 1 by omega]
    show _ = gwF top A g o.toNat lo.toNat (y.toInt - lo).toNat + (if top (lo.toNat + (y.toInt - lo).toNat) = -1 then 0 else gn g (A (o.toNat + (lo.toNat + (y.toInt - lo).toNat))).toInt)
    rw [show o.toNat + (lo.toNat + (y.toInt - lo).toNat) = (o + y.toInt).toNat by omega, show lo.toNat + (y.toInt - lo).toNat = y.toNatClampNeg by omega, ← w, hc, hr]
theorem gw_end {top A A2 : Nat → Int32} {g o lo i lo' i' c : Int} (q : gwS top g o lo i A A2 c) (h : lo' = lo) (hi : i' = i) : gwS top g o lo' i' A A2 c := by
  subst h; subst hi; exact q
def wlI (str A : Nat → Int32) (lo i : Int) (S : Nat → Int32) : Prop := ∀ j : Nat, j < 48 → (lo ≤ j ∧ (j : Int) < i → S j = A j) ∧ (¬ (lo ≤ j ∧ (j : Int) < i) → S j = str j)
theorem wl_init {str A : Nat → Int32} {lo i : Int} (hi : i = lo) : wlI str A lo i str := fun j _ => ⟨fun q => by omega, fun _ => rfl⟩
theorem wl_step {str A S S2 : Nat → Int32} {lo i : Int} {y x : Int32} (q : wlI str A lo y.toInt S) (es : S2 = upd S y.toNatClampNeg x) (hx : x = A y.toNatClampNeg) (h0 : 0 ≤ lo) (h1 : lo ≤ y.toInt) (hi : i = y.toInt + 1) : wlI str A lo i S2 := by
  subst hi; subst es; subst hx
  have e := clC (x := y) rfl
  intro j hj
  by_cases c : j = y.toNatClampNeg
  · subst c; exact ⟨fun _ => pk_us, fun z => absurd ⟨by omega, by omega⟩ z⟩
  · rw [pk_un c]; exact ⟨fun z => (q j hj).1 (by omega), fun z => (q j hj).2 (by omega)⟩
def wkM (top str : Nat → Int32) (g lo i : Int) (S : Nat → Int32) (came : Int) : Prop :=
  (∀ j : Nat, j < 48 → top j ≠ -1 → (lo ≤ j ∧ (j : Int) < i → (S j).toInt = (str j).toInt + gn g (str j).toInt) ∧ (¬ (lo ≤ j ∧ (j : Int) < i) → S j = str j)) ∧ came = wkF top str g lo.toNat (i - lo).toNat
theorem gwF_eq {top str gho fai A F : Nat → Int32} {g : Int} {lo : Nat} {i : Int} (q : laI top str gho fai i A F) (hi : 48 ≤ i) : ∀ k, lo + k ≤ 48 → gwF top A g 0 lo k = wkF top str g lo k
  | 0, _ => rfl
  | k + 1, hk => by
    show gwF top A g 0 lo k + (if top (lo + k) = -1 then 0 else gn g (A (0 + (lo + k))).toInt) = wkF top str g lo k + (if top (lo + k) = -1 then 0 else gn g (str (lo + k)).toInt)
    rw [gwF_eq q hi k (by omega), Nat.zero_add]
    by_cases t : top (lo + k) = -1
    · rw [if_pos t, if_pos t]
    · have w := (q (lo + k) (by omega)).1
      rw [if_neg t] at w
      rw [if_neg t, if_neg t, w]
theorem wl_end {top str gho fai A F A2 S : Nat → Int32} {g o lo lo2 i i0 i2 : Int} {c : Int} (q : laI top str gho fai i A F) (hi : 48 ≤ i) (g1 : gwS top g o lo i0 A A2 c) (ho : o = 0) (h0 : 0 ≤ lo) (h1 : i0 = lo + 6) (h2 : i0 ≤ 48) (w : wlI str A2 lo2 i2 S) (e1 : lo2 = lo) (e2 : i2 = i0) : wkM top str g lo i0 S c := by
  subst ho; subst e1; subst e2
  refine ⟨fun j hj t => ?_, ?_⟩
  · have a := q j (by omega)
    have b := g1.1 j (by omega)
    rw [show j - (0 : Int).toNat = j from rfl] at b
    have d := w j hj
    have a1 := a.1; rw [if_neg t] at a1
    refine ⟨fun z => ?_, fun z => d.2 z⟩
    rw [d.1 z, b.1 ⟨by omega, by omega, t⟩, a1]
  · rw [g1.2]; exact gwF_eq q hi _ (by omega)
-- ===== the relation of the CORNERS =====
def crR (top str gho ghs pto wal mt ms mg mf mp mw : Nat → Int32) : Prop :=
  (∀ j : Nat, j < 48 → top j = mt j ∧ gho j = mg j ∧ pto j = mp j ∧ (top j ≠ -1 → str j = ms j) ∧ (gho j ≠ -1 → ghs j = mf j)) ∧ (∀ j : Nat, j < 8 → wal j = mw j)
def crI (top gho ghs : Nat → Int32) : Prop := ∀ j : Nat, j < 48 → (top j = -1 → gho j = -1) ∧ (gho j = -1 ∨ 0 < (ghs j).toInt)
theorem cr_init {top gho ghs : Nat → Int32} (h : ∀ j, j < 48 → gho j = -1) : crI top gho ghs := fun j hj => ⟨fun _ => h j hj, .inl (h j hj)⟩
theorem nn_m1 {t : Int32} (ht : 0 ≤ t.toInt) : ¬ t = -1 := fun e => by rw [e] at ht; exact absurd ht (by decide)
-- put
def cvC (top str gho ghs pto : Nat → Int32) (day c : Int32) (str' gho' ghs' pto' : Nat → Int32) : Prop :=
  str' = upd str c.toNatClampNeg 100 ∧ pto' = upd pto c.toNatClampNeg day ∧ ((top c.toNatClampNeg = -1 ∧ gho' = gho ∧ ghs' = ghs) ∨ (top c.toNatClampNeg ≠ -1 ∧ 0 < (str c.toNatClampNeg).toInt ∧ gho' = upd gho c.toNatClampNeg (top c.toNatClampNeg) ∧ ghs' = upd ghs c.toNatClampNeg (str c.toNatClampNeg)) ∨ (top c.toNatClampNeg ≠ -1 ∧ (str c.toNatClampNeg).toInt ≤ 0 ∧ gho' = upd gho c.toNatClampNeg (-1) ∧ ghs' = upd ghs c.toNatClampNeg (str c.toNatClampNeg)))
def cvM (mt ms mg mf mp : Nat → Int32) (day c : Int32) (ms' mg' mf' mp' : Nat → Int32) : Prop :=
  ms' = upd ms c.toNatClampNeg 100 ∧ mp' = upd mp c.toNatClampNeg day ∧ ((mt c.toNatClampNeg ≠ -1 ∧ 0 < (ms c.toNatClampNeg).toInt ∧ mg' = upd mg c.toNatClampNeg (mt c.toNatClampNeg) ∧ mf' = upd mf c.toNatClampNeg (ms c.toNatClampNeg)) ∨ ((mt c.toNatClampNeg = -1 ∨ (ms c.toNatClampNeg).toInt ≤ 0) ∧ mg' = upd mg c.toNatClampNeg (-1) ∧ mf' = upd mf c.toNatClampNeg 0))
def spPutC (top str gho ghs pto : Nat → Int32) (day t c r : Int32) (top' str' gho' ghs' pto' : Nat → Int32) : Prop :=
  ((t.toInt < 0 ∨ 23 < t.toInt ∨ c.toInt < 0 ∨ 47 < c.toInt) ∧ r = -2 ∧ top' = top ∧ str' = str ∧ gho' = gho ∧ ghs' = ghs ∧ pto' = pto) ∨ ((0 ≤ t.toInt ∧ t.toInt ≤ 23 ∧ 0 ≤ c.toInt ∧ c.toInt ≤ 47) ∧ (∃ j : Nat, j < 48 ∧ top j = t) ∧ r = -4 ∧ top' = top ∧ str' = str ∧ gho' = gho ∧ ghs' = ghs ∧ pto' = pto) ∨ ((0 ≤ t.toInt ∧ t.toInt ≤ 23 ∧ 0 ≤ c.toInt ∧ c.toInt ≤ 47) ∧ (∀ j : Nat, j < 48 → top j ≠ t) ∧ r = top c.toNatClampNeg ∧ top' = upd top c.toNatClampNeg t ∧ cvC top str gho ghs pto day c str' gho' ghs' pto')
def spPutM (mt ms mg mf mp : Nat → Int32) (day t c r : Int32) (mt' ms' mg' mf' mp' : Nat → Int32) : Prop :=
  ((t.toInt < 0 ∨ 23 < t.toInt ∨ c.toInt < 0 ∨ 47 < c.toInt) ∧ r = -2 ∧ mt' = mt ∧ ms' = ms ∧ mg' = mg ∧ mf' = mf ∧ mp' = mp) ∨ ((0 ≤ t.toInt ∧ t.toInt ≤ 23 ∧ 0 ≤ c.toInt ∧ c.toInt ≤ 47) ∧ (∃ j : Nat, j < 48 ∧ mt j = t) ∧ r = -4 ∧ mt' = mt ∧ ms' = ms ∧ mg' = mg ∧ mf' = mf ∧ mp' = mp) ∨ ((0 ≤ t.toInt ∧ t.toInt ≤ 23 ∧ 0 ≤ c.toInt ∧ c.toInt ≤ 47) ∧ (∀ j : Nat, j < 48 → mt j ≠ t) ∧ r = mt c.toNatClampNeg ∧ mt' = upd mt c.toNatClampNeg t ∧ cvM mt ms mg mf mp day c ms' mg' mf' mp')
theorem putC_bad {top str gho ghs pto : Nat → Int32} {day t c : Int32} (h : t.toInt < 0 ∨ 23 < t.toInt ∨ c.toInt < 0 ∨ 47 < c.toInt) : spPutC top str gho ghs pto day t c (-2) top str gho ghs pto := Or.inl ⟨h, rfl, rfl, rfl, rfl, rfl, rfl⟩
theorem putC_no {top str gho ghs pto pla : Nat → Int32} {day t c : Int32} (h : plOK top pla) (h0 : 0 ≤ t.toInt ∧ t.toInt ≤ 23 ∧ 0 ≤ c.toInt ∧ c.toInt ≤ 47) (hp : ¬ pla t.toNatClampNeg = -1) : spPutC top str gho ghs pto day t c (-4) top str gho ghs pto := Or.inr (Or.inl ⟨h0, whu_y (pl_u h h0.1 h0.2.1) hp, rfl, rfl, rfl, rfl, rfl, rfl⟩)
theorem putC_ok {top str gho ghs pto pla top' str' gho' ghs' pto' : Nat → Int32} {day t c r : Int32} (h : plOK top pla) (h0 : 0 ≤ t.toInt ∧ t.toInt ≤ 23 ∧ 0 ≤ c.toInt ∧ c.toInt ≤ 47) (hp : pla t.toNatClampNeg = -1) (hr : r = top c.toNatClampNeg) (h1 : top' = upd top c.toNatClampNeg t) (h2 : cvC top str gho ghs pto day c str' gho' ghs' pto') : spPutC top str gho ghs pto day t c r top' str' gho' ghs' pto' := Or.inr (Or.inr ⟨h0, whu_n (pl_u h h0.1 h0.2.1) hp, hr, h1, h2⟩)
theorem putM_bad {top str gho ghs pto : Nat → Int32} {day t c : Int32} (h : t.toInt < 0 ∨ 23 < t.toInt ∨ c.toInt < 0 ∨ 47 < c.toInt) : spPutM top str gho ghs pto day t c (-2) top str gho ghs pto := Or.inl ⟨h, rfl, rfl, rfl, rfl, rfl, rfl⟩
theorem putM_no {top str gho ghs pto : Nat → Int32} {day t c q : Int32} (h : whr top t q) (h0 : 0 ≤ t.toInt ∧ t.toInt ≤ 23 ∧ 0 ≤ c.toInt ∧ c.toInt ≤ 47) (hp : ¬ q = -1) : spPutM top str gho ghs pto day t c (-4) top str gho ghs pto := Or.inr (Or.inl ⟨h0, whr_y h hp, rfl, rfl, rfl, rfl, rfl, rfl⟩)
theorem putM_ok {top str gho ghs pto top' str' gho' ghs' pto' : Nat → Int32} {day t c r q : Int32} (h : whr top t q) (h0 : 0 ≤ t.toInt ∧ t.toInt ≤ 23 ∧ 0 ≤ c.toInt ∧ c.toInt ≤ 47) (hp : q = -1) (hr : r = top c.toNatClampNeg) (h1 : top' = upd top c.toNatClampNeg t) (h2 : cvM top str gho ghs pto day c str' gho' ghs' pto') : spPutM top str gho ghs pto day t c r top' str' gho' ghs' pto' := Or.inr (Or.inr ⟨h0, whr_n h hp, hr, h1, h2⟩)
theorem crI_put {top str gho ghs pto top' str' gho' ghs' pto' : Nat → Int32} {day t c : Int32} (h : crI top gho ghs) (ht : 0 ≤ t.toInt) (et : top' = upd top c.toNatClampNeg t) (q : cvC top str gho ghs pto day c str' gho' ghs' pto') : crI top' gho' ghs' := by
  subst et
  obtain ⟨-, -, q⟩ := q
  intro j hj
  by_cases e : j = c.toNatClampNeg
  · subst e
    refine ⟨fun z => absurd (pk_us.symm.trans z) (nn_m1 ht), ?_⟩
    rcases q with ⟨a, b, d⟩ | ⟨a, b, d, f⟩ | ⟨a, b, d, f⟩
    · rw [b]; exact .inl ((h _ hj).1 a)
    · rw [f, pk_us]; exact .inr b
    · rw [d]; exact .inl pk_us
  · rcases q with ⟨a, b, d⟩ | ⟨a, b, d, f⟩ | ⟨a, b, d, f⟩
    · rw [b, d, pk_un e]; exact h j hj
    · rw [d, f, pk_un e, pk_un e, pk_un e]; exact h j hj
    · rw [d, f, pk_un e, pk_un e, pk_un e]; exact h j hj
theorem cv_rel {top str gho ghs pto mt ms mg mf mp str' gho' ghs' pto' ms' mg' mf' mp' : Nat → Int32} {day t c : Int32} (R : ∀ j : Nat, j < 48 → top j = mt j ∧ gho j = mg j ∧ pto j = mp j ∧ (top j ≠ -1 → str j = ms j) ∧ (gho j ≠ -1 → ghs j = mf j)) (I : crI top gho ghs) (hc : c.toNatClampNeg < 48) (h1 : cvC top str gho ghs pto day c str' gho' ghs' pto') (h2 : cvM mt ms mg mf mp day c ms' mg' mf' mp') : ∀ j : Nat, j < 48 → upd top c.toNatClampNeg t j = upd mt c.toNatClampNeg t j ∧ gho' j = mg' j ∧ pto' j = mp' j ∧ (upd top c.toNatClampNeg t j ≠ -1 → str' j = ms' j) ∧ (gho' j ≠ -1 → ghs' j = mf' j) := by
  obtain ⟨e1, e2, q1⟩ := h1
  obtain ⟨d1, d2, q2⟩ := h2
  subst e1; subst e2; subst d1; subst d2
  have rc := R _ hc
  intro j hj
  by_cases e : j = c.toNatClampNeg
  · subst e
    rw [pk_us, pk_us, pk_us, pk_us, pk_us, pk_us]
    refine ⟨rfl, ?_, rfl, fun _ => rfl, ?_⟩
    · rcases q1 with ⟨a, b, d⟩ | ⟨a, b, d, f⟩ | ⟨a, b, d, f⟩
      · rw [b, (I _ hc).1 a]
        rcases q2 with ⟨z, -, w, -⟩ | ⟨-, w, -⟩
        · exact absurd (rc.1.symm.trans a) z
        · rw [w, pk_us]
      · rw [d, pk_us]
        rcases q2 with ⟨z, z2, w, -⟩ | ⟨z, w, -⟩
        · rw [w, pk_us]; exact rc.1
        · exfalso
          rcases z with z | z
          · exact a (rc.1.trans z)
          · rw [rc.2.2.2.1 a] at b; omega
      · rw [d, pk_us]
        rcases q2 with ⟨z, z2, w, -⟩ | ⟨z, w, -⟩
        · exfalso; rw [rc.2.2.2.1 a] at b; omega
        · rw [w, pk_us]
    · rcases q1 with ⟨a, b, d⟩ | ⟨a, b, d, f⟩ | ⟨a, b, d, f⟩
      · intro z; rw [b] at z; exact absurd ((I _ hc).1 a) z
      · intro _
        rw [f, pk_us]
        rcases q2 with ⟨z, z2, -, w⟩ | ⟨z, w, -⟩
        · rw [w, pk_us]; exact rc.2.2.2.1 a
        · exfalso
          rcases z with z | z
          · exact a (rc.1.trans z)
          · rw [rc.2.2.2.1 a] at b; omega
      · intro z; rw [d, pk_us] at z; exact absurd rfl z
  · rw [pk_un e, pk_un e, pk_un e, pk_un e, pk_un e, pk_un e]
    have r := R j hj
    have g1 : gho' j = gho j ∧ ghs' j = ghs j := by
      rcases q1 with ⟨a, b, d⟩ | ⟨a, b, d, f⟩ | ⟨a, b, d, f⟩
      · rw [b, d]; exact ⟨rfl, rfl⟩
      · rw [d, f, pk_un e, pk_un e]; exact ⟨rfl, rfl⟩
      · rw [d, f, pk_un e, pk_un e]; exact ⟨rfl, rfl⟩
    have g2 : mg' j = mg j ∧ mf' j = mf j := by
      rcases q2 with ⟨z, z2, w, w2⟩ | ⟨z, w, w2⟩
      · rw [w, w2, pk_un e, pk_un e]; exact ⟨rfl, rfl⟩
      · rw [w, w2, pk_un e, pk_un e]; exact ⟨rfl, rfl⟩
    rw [g1.1, g1.2, g2.1, g2.2]; exact r
theorem spPutC_rel {top str gho ghs pto wal mt ms mg mf mp mw top' str' gho' ghs' pto' mt' ms' mg' mf' mp' : Nat → Int32} {day mday t c r r2 : Int32} (R : crR top str gho ghs pto wal mt ms mg mf mp mw) (I : crI top gho ghs) (ed : day = mday) (h1 : spPutC top str gho ghs pto day t c r top' str' gho' ghs' pto') (h2 : spPutM mt ms mg mf mp mday t c r2 mt' ms' mg' mf' mp') : r = r2 ∧ crR top' str' gho' ghs' pto' wal mt' ms' mg' mf' mp' mw := by
  subst ed
  have h := fun j hj => (R.1 j hj).1
  rcases h1 with ⟨a, b, e1, e2, e3, e4, e5⟩ | ⟨a, ⟨k, hk, ek⟩, b, e1, e2, e3, e4, e5⟩ | ⟨a, f, b, e1, v1⟩
  · rcases h2 with ⟨a2, b2, d1, d2, d3, d4, d5⟩ | ⟨a2, b2⟩ | ⟨a2, b2⟩
    · rw [b, b2, e1, e2, e3, e4, e5, d1, d2, d3, d4, d5]; exact ⟨rfl, R⟩
    · exfalso; omega
    · exfalso; omega
  · rcases h2 with ⟨a2, b2⟩ | ⟨a2, -, b2, d1, d2, d3, d4, d5⟩ | ⟨a2, f2, -⟩
    · exfalso; omega
    · rw [b, b2, e1, e2, e3, e4, e5, d1, d2, d3, d4, d5]; exact ⟨rfl, R⟩
    · exact absurd ((h k hk).symm.trans ek) (f2 k hk)
  · rcases h2 with ⟨a2, b2⟩ | ⟨a2, ⟨k, hk, ek⟩, -⟩ | ⟨a2, f2, b2, d1, v2⟩
    · exfalso; omega
    · exact absurd ((h k hk).trans ek) (f k hk)
    · have hc : c.toNatClampNeg < 48 := by rw [clC (x := c) rfl]; omega
      rw [b, b2, e1, d1]
      exact ⟨h _ hc, cv_rel R.1 I hc v1 v2, R.2⟩
-- clear
def spClrC (top gho : Nat → Int32) (c r : Int32) (top' gho' : Nat → Int32) : Prop := ((c.toInt < 0 ∨ 47 < c.toInt) ∧ r = -2 ∧ top' = top ∧ gho' = gho) ∨ ((0 ≤ c.toInt ∧ c.toInt ≤ 47) ∧ top c.toNatClampNeg = -1 ∧ r = -4 ∧ top' = top ∧ gho' = gho) ∨ ((0 ≤ c.toInt ∧ c.toInt ≤ 47) ∧ top c.toNatClampNeg ≠ -1 ∧ r = top c.toNatClampNeg ∧ top' = upd top c.toNatClampNeg (-1) ∧ gho' = upd gho c.toNatClampNeg (-1))
