-- ===== CORNERS: the class's and the model's =====
theorem it_pos {c : Int32} {V X : Int} (h : c = -1) (hV : V = 0) : V = (if c = -1 then 0 else X) := by rw [if_pos h]; exact hV
theorem it_neg {c : Int32} {V X : Int} (h : ¬ c = -1) (hV : V = X) : V = (if c = -1 then 0 else X) := by rw [if_neg h]; exact hV
def fnt (gho fai : Nat → Int32) (j : Nat) : Int := if gho j = -1 then 0 else (fai j).toInt
def laI (top str gho fai : Nat → Int32) (i : Int) (A F : Nat → Int32) : Prop := ∀ j : Nat, (j : Int) < i → (A j).toInt = (if top j = -1 then 0 else (str j).toInt) ∧ (F j).toInt = (if gho j = -1 then 0 else (fai j).toInt)
theorem la_init {top str gho fai A F : Nat → Int32} {i : Int} (hi : i = 0) : laI top str gho fai i A F := fun j hj => by omega
theorem la_step {top str gho fai A F A2 F2 : Nat → Int32} {y v w : Int32} {i : Int} (q : laI top str gho fai y.toInt A F) (eA : A2 = upd A y.toNatClampNeg v) (eF : F2 = upd F y.toNatClampNeg w) (hy : 0 ≤ y.toInt) (hv : v.toInt = (if top y.toNatClampNeg = -1 then 0 else (str y.toNatClampNeg).toInt)) (hw : w.toInt = (if gho y.toNatClampNeg = -1 then 0 else (fai y.toNatClampNeg).toInt)) (hi : i = y.toInt + 1) : laI top str gho fai i A2 F2 := by
  subst hi; subst eA; subst eF
  have ey := clC (x := y) rfl
  intro j hj
  by_cases c : j = y.toNatClampNeg
  · subst c; rw [pk_us, pk_us]; exact ⟨hv, hw⟩
  · rw [pk_un c, pk_un c]; exact q j (by omega)
def laS (f mar top str gho fai : Nat → Int32) (tel : Int32) (n : Nat) (A F : Nat → Int32) : Prop := ∀ j : Nat, j < 48 → (top j ≠ -1 → (A j).toInt = itf f (cwF mar top tel j (j - j % 6) 6) (str j).toInt n) ∧ (F j).toInt = itf f 0 (fnt gho fai j) n
theorem la_zero {f mar top str gho fai A F : Nat → Int32} {tel : Int32} {i : Int} {n : Nat} (q : laI top str gho fai i A F) (hi : 48 ≤ i) (hn : n = 0) : laS f mar top str gho fai tel n A F := by
  subst hn
  intro j hj
  have w := q j (by omega)
  refine ⟨fun z => ?_, w.2⟩
  have := w.1; rw [if_neg z] at this; exact this
theorem la_day {f mar top str gho fai A F A2 F2 : Nat → Int32} {tel : Int32} {n n2 : Nat} {o : Int} (q : laS f mar top str gho fai tel n A F) (g : gdS f mar top tel o 48 A F A2 F2) (ho : o = 0) (hn : n2 = n + 1) : laS f mar top str gho fai tel n2 A2 F2 := by
  subst hn; subst ho
  intro j hj
  have w := (g j (by omega)).1 ⟨by omega, by omega⟩
  have z := q j hj
  refine ⟨fun t => ?_, ?_⟩
  · have w1 := w.1
    unfold gdV at w1
    rw [show j - (0 : Int).toNat = j from rfl, if_neg t, z.1 t] at w1
    exact w1
  · have w2 := w.2
    rw [z.2] at w2
    exact w2
def dyI (gho A F : Nat → Int32) (i : Int) (S Fa G : Nat → Int32) : Prop := ∀ j : Nat, j < 48 → ((j : Int) < i → S j = A j ∧ Fa j = F j ∧ ((F j).toInt = 0 → G j = -1) ∧ ((F j).toInt ≠ 0 → G j = gho j)) ∧ (i ≤ j → G j = gho j)
theorem dy_init {gho A F S Fa : Nat → Int32} {i : Int} (hi : i = 0) : dyI gho A F i S Fa gho := fun j _ => ⟨fun q => by omega, fun _ => rfl⟩
theorem dy_step {gho A F S Fa G S2 Fa2 G2 : Nat → Int32} {y x w g : Int32} {i : Int} (q : dyI gho A F y.toInt S Fa G) (eS : S2 = upd S y.toNatClampNeg x) (hx : x = A y.toNatClampNeg) (eF : Fa2 = upd Fa y.toNatClampNeg w) (hw : w = F y.toNatClampNeg) (eG : G2 = upd G y.toNatClampNeg g) (hy : 0 ≤ y.toInt) (hy2 : y.toInt < 48) (hg : ((Fa2 y.toNatClampNeg).toInt = 0 ∧ g = -1) ∨ ((Fa2 y.toNatClampNeg).toInt ≠ 0 ∧ g = G y.toNatClampNeg)) (hi : i = y.toInt + 1) : dyI gho A F i S2 Fa2 G2 := by
  subst hi; subst eS; subst eF; subst eG; subst hx; subst hw
  have ey := clC (x := y) rfl
  rw [pk_us] at hg
  have w0 := (q y.toNatClampNeg (by omega)).2 (by omega)
  intro j hj
  by_cases c : j = y.toNatClampNeg
  · subst c
    refine ⟨fun _ => ⟨pk_us, pk_us, fun z => ?_, fun z => ?_⟩, fun z => by omega⟩
    · rcases hg with h | h
      · rw [pk_us]; exact h.2
      · exact absurd z h.1
    · rcases hg with h | h
      · exact absurd h.1 z
      · rw [pk_us, h.2]; exact w0
  · rw [pk_un c, pk_un c, pk_un c]
    exact ⟨fun z => (q j hj).1 (by omega), fun z => (q j hj).2 (by omega)⟩
def dyM (mar f top str gho fai : Nat → Int32) (tel : Int32) (n : Nat) (S G Fa : Nat → Int32) : Prop := ∀ j : Nat, j < 48 → (top j ≠ -1 → (S j).toInt = itf f (cwF mar top tel j (j - j % 6) 6) (str j).toInt n) ∧ (Fa j).toInt = itf f 0 (fnt gho fai j) n ∧ ((Fa j).toInt = 0 → G j = -1) ∧ ((Fa j).toInt ≠ 0 → G j = gho j)
theorem dy_end {mar f top str gho fai A F S Fa G : Nat → Int32} {tel : Int32} {n m : Nat} {i : Int} (q : laS f mar top str gho fai tel n A F) (d : dyI gho A F i S Fa G) (hi : 48 ≤ i) (hn : m = n) : dyM mar f top str gho fai tel m S G Fa := by
  subst hn
  intro j hj
  have w := (d j hj).1 (by omega)
  have z := q j hj
  rw [w.1, w.2.1]
  exact ⟨z.1, z.2, w.2.2⟩
-- walking
def gwF (top A : Nat → Int32) (g : Int) (o lo : Nat) : Nat → Int
  | 0 => 0
  | k + 1 => gwF top A g o lo k + (if top (lo + k) = -1 then 0 else gn g (A (o + (lo + k))).toInt)
def gwS (top : Nat → Int32) (g o lo i : Int) (A A2 : Nat → Int32) (came : Int) : Prop :=
  (∀ k : Nat, k < 240 → (o + lo ≤ k ∧ (k : Int) < o + i ∧ top (k - o.toNat) ≠ -1 → (A2 k).toInt = (A k).toInt + gn g (A k).toInt) ∧ (¬ (o + lo ≤ k ∧ (k : Int) < o + i ∧ top (k - o.toNat) ≠ -1) → A2 k = A k)) ∧ came = gwF top A g o.toNat lo.toNat (i - lo).toNat
theorem gw_init {top A : Nat → Int32} {g o lo i c : Int} (hi : i = lo) (hc : c = 0) : gwS top g o lo i A A c := by
  subst hi; subst hc
  refine ⟨fun j _ => ⟨fun q => by omega, fun _ => rfl⟩, ?_⟩
  rw [show (i - i).toNat = 0 by omega]; rfl
theorem gw_step {top A A1 A2 : Nat → Int32} {g o lo i c c2 r : Int} {y x xr : Int32} (q : gwS top g o lo y.toInt A A1 c) (ho : 0 ≤ o) (ho2 : o ≤ 192) (h0 : 0 ≤ lo) (h1 : lo ≤ y.toInt) (h2 : y.toInt < 48) (hxr : xr.toInt = o + y.toInt) (es : A2 = upd A1 xr.toNatClampNeg x) (hr : r = (if top y.toNatClampNeg = -1 then 0 else gn g (A1 xr.toNatClampNeg).toInt)) (hx : x.toInt = (A1 xr.toNatClampNeg).toInt + r) (hc : c2 = c + r) (hi : i = y.toInt + 1) : gwS top g o lo i A A2 c2 := by
  subst hi; subst es
  have e := clC (x := y) rfl
  have ex := clC hxr
  rw [ex] at hr hx ⊢
  have w0 := (q.1 (o + y.toInt).toNat (by omega)).2 (fun z => by omega)
  rw [w0] at hr hx
  refine ⟨fun j hj => ?_, ?_⟩
  · have w := q.1 j hj
    by_cases c : j = (o + y.toInt).toNat
    · subst c
      have et : (o + y.toInt).toNat - o.toNat = y.toNatClampNeg := by omega
      rw [et, pk_us]
      by_cases t : top y.toNatClampNeg = -1
      · rw [if_pos t] at hr
        refine ⟨fun z => absurd t z.2.2, fun _ => ?_⟩
        apply Int32.toInt_inj.mp; rw [hx, hr]; omega
      · rw [if_neg t] at hr
        exact ⟨fun _ => by rw [hx, hr], fun z => absurd ⟨by omega, by omega, t⟩ z⟩
    · rw [pk_un c]
      exact ⟨fun z => w.1 ⟨z.1, by omega, z.2.2⟩, fun z => w.2 (fun t => z ⟨t.1, by omega, t.2.2⟩)⟩
  · have w := q.2
    rw [show (y.toInt + 1 - lo).toNat = (y.toInt - lo).toNat + 1 by omega]
    show _ = gwF top A g o.toNat lo.toNat (y.toInt - lo).toNat + (if top (lo.toNat + (y.toInt - lo).toNat) = -1 then 0 else gn g (A (o.toNat + (lo.toNat + (y.toInt - lo).toNat))).toInt)
    rw [show o.toNat + (lo.toNat + (y.toInt - lo).toNat) = (o + y.toInt).toNat by omega, show lo.toNat + (y.toInt - lo).toNat = y.toNatClampNeg by omega, ← w, hc, hr]
theorem gw_end {top A A2 : Nat → Int32} {g o lo i lo' i' c : Int} (q : gwS top g o lo i A A2 c) (h : lo' = lo) (hi : i' = i) : gwS top g o lo' i' A A2 c := by
  subst h; subst hi; exact q
def wlI (str A : Nat → Int32) (lo i : Int) (S : Nat → Int32) : Prop := ∀ j : Nat, j < 48 → (lo ≤ j ∧ (j : Int) < i → S j = A j) ∧ (¬ (lo ≤ j ∧ (j : Int) < i) → S j = str j)
theorem wl_init {str A : Nat → Int32} {lo i : Int} (hi : i = lo) : wlI str A lo i str := fun j _ => ⟨fun q => by omega, fun _ => rfl⟩
theorem wl_step {str A S S2 : Nat → Int32} {lo i : Int} {y x : Int32} (q : wlI str A lo y.toInt S) (es : S2 = upd S y.toNatClampNeg x) (hx : x = A y.toNatClampNeg) (h0 : 0 ≤ lo) (h1 : lo ≤ y.toInt) (hi : i = y.toInt + 1) : wlI str A lo i S2 := by
  subst hi; subst es; subst hx
  have e := clC (x := y) rfl
  intro j hj
  by_cases c : j = y.toNatClampNeg
  · subst c; exact ⟨fun _ => pk_us, fun z => absurd ⟨by omega, by omega⟩ z⟩
  · rw [pk_un c]; exact ⟨fun z => (q j hj).1 (by omega), fun z => (q j hj).2 (by omega)⟩
def wkM (top str : Nat → Int32) (g lo i : Int) (S : Nat → Int32) (came : Int) : Prop :=
  (∀ j : Nat, j < 48 → top j ≠ -1 → (lo ≤ j ∧ (j : Int) < i → (S j).toInt = (str j).toInt + gn g (str j).toInt) ∧ (¬ (lo ≤ j ∧ (j : Int) < i) → S j = str j)) ∧ came = wkF top str g lo.toNat (i - lo).toNat
theorem gwF_eq {top str gho fai A F : Nat → Int32} {g : Int} {lo : Nat} {i : Int} (q : laI top str gho fai i A F) (hi : 48 ≤ i) : ∀ k, lo + k ≤ 48 → gwF top A g 0 lo k = wkF top str g lo k
  | 0, _ => rfl
  | k + 1, hk => by
    show gwF top A g 0 lo k + (if top (lo + k) = -1 then 0 else gn g (A (0 + (lo + k))).toInt) = wkF top str g lo k + (if top (lo + k) = -1 then 0 else gn g (str (lo + k)).toInt)
    rw [gwF_eq q hi k (by omega), Nat.zero_add]
    by_cases t : top (lo + k) = -1
    · rw [if_pos t, if_pos t]
    · have w := (q (lo + k) (by omega)).1
      rw [if_neg t] at w
      rw [if_neg t, if_neg t, w]
theorem wl_end {top str gho fai A F A2 S : Nat → Int32} {g o lo lo2 i i0 i2 : Int} {c : Int} (q : laI top str gho fai i A F) (hi : 48 ≤ i) (g1 : gwS top g o lo i0 A A2 c) (ho : o = 0) (h0 : 0 ≤ lo) (h1 : i0 = lo + 6) (h2 : i0 ≤ 48) (w : wlI str A2 lo2 i2 S) (e1 : lo2 = lo) (e2 : i2 = i0) : wkM top str g lo i0 S c := by
  subst ho; subst e1; subst e2
  refine ⟨fun j hj t => ?_, ?_⟩
  · have a := q j (by omega)
    have b := g1.1 j (by omega)
    rw [show j - (0 : Int).toNat = j from rfl] at b
    have d := w j hj
    have a1 := a.1; rw [if_neg t] at a1
    refine ⟨fun z => ?_, fun z => d.2 z⟩
    rw [d.1 z, b.1 ⟨by omega, by omega, t⟩, a1]
  · rw [g1.2]; exact gwF_eq q hi _ (by omega)
-- ===== the relation of the CORNERS =====
def crR (top str gho ghs pto wal mt ms mg mf mp mw : Nat → Int32) : Prop :=
  (∀ j : Nat, j < 48 → top j = mt j ∧ gho j = mg j ∧ pto j = mp j ∧ (top j ≠ -1 → str j = ms j) ∧ (gho j ≠ -1 → ghs j = mf j)) ∧ (∀ j : Nat, j < 8 → wal j = mw j)
def crI (top gho ghs : Nat → Int32) : Prop := ∀ j : Nat, j < 48 → (top j = -1 → gho j = -1) ∧ (gho j = -1 ∨ 0 < (ghs j).toInt)
theorem cr_init {top gho ghs : Nat → Int32} (h : ∀ j, j < 48 → gho j = -1) : crI top gho ghs := fun j hj => ⟨fun _ => h j hj, .inl (h j hj)⟩
theorem nn_m1 {t : Int32} (ht : 0 ≤ t.toInt) : ¬ t = -1 := fun e => by rw [e] at ht; exact absurd ht (by decide)
-- put
def cvC (top str gho ghs pto : Nat → Int32) (day c : Int32) (str' gho' ghs' pto' : Nat → Int32) : Prop :=
  str' = upd str c.toNatClampNeg 100 ∧ pto' = upd pto c.toNatClampNeg day ∧ ((top c.toNatClampNeg = -1 ∧ gho' = gho ∧ ghs' = ghs) ∨ (top c.toNatClampNeg ≠ -1 ∧ 0 < (str c.toNatClampNeg).toInt ∧ gho' = upd gho c.toNatClampNeg (top c.toNatClampNeg) ∧ ghs' = upd ghs c.toNatClampNeg (str c.toNatClampNeg)) ∨ (top c.toNatClampNeg ≠ -1 ∧ (str c.toNatClampNeg).toInt ≤ 0 ∧ gho' = upd gho c.toNatClampNeg (-1) ∧ ghs' = upd ghs c.toNatClampNeg (str c.toNatClampNeg)))
def cvM (mt ms mg mf mp : Nat → Int32) (day c : Int32) (ms' mg' mf' mp' : Nat → Int32) : Prop :=
  ms' = upd ms c.toNatClampNeg 100 ∧ mp' = upd mp c.toNatClampNeg day ∧ ((mt c.toNatClampNeg ≠ -1 ∧ 0 < (ms c.toNatClampNeg).toInt ∧ mg' = upd mg c.toNatClampNeg (mt c.toNatClampNeg) ∧ mf' = upd mf c.toNatClampNeg (ms c.toNatClampNeg)) ∨ ((mt c.toNatClampNeg = -1 ∨ (ms c.toNatClampNeg).toInt ≤ 0) ∧ mg' = upd mg c.toNatClampNeg (-1) ∧ mf' = upd mf c.toNatClampNeg 0))
def spPutC (top str gho ghs pto : Nat → Int32) (day t c r : Int32) (top' str' gho' ghs' pto' : Nat → Int32) : Prop :=
  ((t.toInt < 0 ∨ 23 < t.toInt ∨ c.toInt < 0 ∨ 47 < c.toInt) ∧ r = -2 ∧ top' = top ∧ str' = str ∧ gho' = gho ∧ ghs' = ghs ∧ pto' = pto) ∨ ((0 ≤ t.toInt ∧ t.toInt ≤ 23 ∧ 0 ≤ c.toInt ∧ c.toInt ≤ 47) ∧ (∃ j : Nat, j < 48 ∧ top j = t) ∧ r = -4 ∧ top' = top ∧ str' = str ∧ gho' = gho ∧ ghs' = ghs ∧ pto' = pto) ∨ ((0 ≤ t.toInt ∧ t.toInt ≤ 23 ∧ 0 ≤ c.toInt ∧ c.toInt ≤ 47) ∧ (∀ j : Nat, j < 48 → top j ≠ t) ∧ r = top c.toNatClampNeg ∧ top' = upd top c.toNatClampNeg t ∧ cvC top str gho ghs pto day c str' gho' ghs' pto')
def spPutM (mt ms mg mf mp : Nat → Int32) (day t c r : Int32) (mt' ms' mg' mf' mp' : Nat → Int32) : Prop :=
  ((t.toInt < 0 ∨ 23 < t.toInt ∨ c.toInt < 0 ∨ 47 < c.toInt) ∧ r = -2 ∧ mt' = mt ∧ ms' = ms ∧ mg' = mg ∧ mf' = mf ∧ mp' = mp) ∨ ((0 ≤ t.toInt ∧ t.toInt ≤ 23 ∧ 0 ≤ c.toInt ∧ c.toInt ≤ 47) ∧ (∃ j : Nat, j < 48 ∧ mt j = t) ∧ r = -4 ∧ mt' = mt ∧ ms' = ms ∧ mg' = mg ∧ mf' = mf ∧ mp' = mp) ∨ ((0 ≤ t.toInt ∧ t.toInt ≤ 23 ∧ 0 ≤ c.toInt ∧ c.toInt ≤ 47) ∧ (∀ j : Nat, j < 48 → mt j ≠ t) ∧ r = mt c.toNatClampNeg ∧ mt' = upd mt c.toNatClampNeg t ∧ cvM mt ms mg mf mp day c ms' mg' mf' mp')
theorem putC_bad {top str gho ghs pto : Nat → Int32} {day t c : Int32} (h : t.toInt < 0 ∨ 23 < t.toInt ∨ c.toInt < 0 ∨ 47 < c.toInt) : spPutC top str gho ghs pto day t c (-2) top str gho ghs pto := Or.inl ⟨h, rfl, rfl, rfl, rfl, rfl, rfl⟩
theorem putC_no {top str gho ghs pto pla : Nat → Int32} {day t c : Int32} (h : plOK top pla) (h0 : 0 ≤ t.toInt ∧ t.toInt ≤ 23 ∧ 0 ≤ c.toInt ∧ c.toInt ≤ 47) (hp : ¬ pla t.toNatClampNeg = -1) : spPutC top str gho ghs pto day t c (-4) top str gho ghs pto := Or.inr (Or.inl ⟨h0, whu_y (pl_u h h0.1 h0.2.1) hp, rfl, rfl, rfl, rfl, rfl, rfl⟩)
theorem putC_ok {top str gho ghs pto pla top' str' gho' ghs' pto' : Nat → Int32} {day t c r : Int32} (h : plOK top pla) (h0 : 0 ≤ t.toInt ∧ t.toInt ≤ 23 ∧ 0 ≤ c.toInt ∧ c.toInt ≤ 47) (hp : pla t.toNatClampNeg = -1) (hr : r = top c.toNatClampNeg) (h1 : top' = upd top c.toNatClampNeg t) (h2 : cvC top str gho ghs pto day c str' gho' ghs' pto') : spPutC top str gho ghs pto day t c r top' str' gho' ghs' pto' := Or.inr (Or.inr ⟨h0, whu_n (pl_u h h0.1 h0.2.1) hp, hr, h1, h2⟩)
theorem putM_bad {top str gho ghs pto : Nat → Int32} {day t c : Int32} (h : t.toInt < 0 ∨ 23 < t.toInt ∨ c.toInt < 0 ∨ 47 < c.toInt) : spPutM top str gho ghs pto day t c (-2) top str gho ghs pto := Or.inl ⟨h, rfl, rfl, rfl, rfl, rfl, rfl⟩
theorem putM_no {top str gho ghs pto : Nat → Int32} {day t c q : Int32} (h : whr top t q) (h0 : 0 ≤ t.toInt ∧ t.toInt ≤ 23 ∧ 0 ≤ c.toInt ∧ c.toInt ≤ 47) (hp : ¬ q = -1) : spPutM top str gho ghs pto day t c (-4) top str gho ghs pto := Or.inr (Or.inl ⟨h0, whr_y h hp, rfl, rfl, rfl, rfl, rfl, rfl⟩)
theorem putM_ok {top str gho ghs pto top' str' gho' ghs' pto' : Nat → Int32} {day t c r q : Int32} (h : whr top t q) (h0 : 0 ≤ t.toInt ∧ t.toInt ≤ 23 ∧ 0 ≤ c.toInt ∧ c.toInt ≤ 47) (hp : q = -1) (hr : r = top c.toNatClampNeg) (h1 : top' = upd top c.toNatClampNeg t) (h2 : cvM top str gho ghs pto day c str' gho' ghs' pto') : spPutM top str gho ghs pto day t c r top' str' gho' ghs' pto' := Or.inr (Or.inr ⟨h0, whr_n h hp, hr, h1, h2⟩)
theorem crI_put {top str gho ghs pto top' str' gho' ghs' pto' : Nat → Int32} {day t c : Int32} (h : crI top gho ghs) (ht : 0 ≤ t.toInt) (et : top' = upd top c.toNatClampNeg t) (q : cvC top str gho ghs pto day c str' gho' ghs' pto') : crI top' gho' ghs' := by
  subst et
  obtain ⟨-, -, q⟩ := q
  intro j hj
  by_cases e : j = c.toNatClampNeg
  · subst e
    refine ⟨fun z => absurd (pk_us.symm.trans z) (nn_m1 ht), ?_⟩
    rcases q with ⟨a, b, d⟩ | ⟨a, b, d, f⟩ | ⟨a, b, d, f⟩
    · rw [b]; exact .inl ((h _ hj).1 a)
    · rw [f, pk_us]; exact .inr b
    · rw [d]; exact .inl pk_us
  · rcases q with ⟨a, b, d⟩ | ⟨a, b, d, f⟩ | ⟨a, b, d, f⟩
    · rw [b, d, pk_un e]; exact h j hj
    · rw [d, f, pk_un e, pk_un e, pk_un e]; exact h j hj
    · rw [d, f, pk_un e, pk_un e, pk_un e]; exact h j hj
theorem cv_rel {top str gho ghs pto mt ms mg mf mp str' gho' ghs' pto' ms' mg' mf' mp' : Nat → Int32} {day t c : Int32} (R : ∀ j : Nat, j < 48 → top j = mt j ∧ gho j = mg j ∧ pto j = mp j ∧ (top j ≠ -1 → str j = ms j) ∧ (gho j ≠ -1 → ghs j = mf j)) (I : crI top gho ghs) (hc : c.toNatClampNeg < 48) (h1 : cvC top str gho ghs pto day c str' gho' ghs' pto') (h2 : cvM mt ms mg mf mp day c ms' mg' mf' mp') : ∀ j : Nat, j < 48 → upd top c.toNatClampNeg t j = upd mt c.toNatClampNeg t j ∧ gho' j = mg' j ∧ pto' j = mp' j ∧ (upd top c.toNatClampNeg t j ≠ -1 → str' j = ms' j) ∧ (gho' j ≠ -1 → ghs' j = mf' j) := by
  obtain ⟨e1, e2, q1⟩ := h1
  obtain ⟨d1, d2, q2⟩ := h2
  subst e1; subst e2; subst d1; subst d2
  have rc := R _ hc
  intro j hj
  by_cases e : j = c.toNatClampNeg
  · subst e
    rw [pk_us, pk_us, pk_us, pk_us, pk_us, pk_us]
    refine ⟨rfl, ?_, rfl, fun _ => rfl, ?_⟩
    · rcases q1 with ⟨a, b, d⟩ | ⟨a, b, d, f⟩ | ⟨a, b, d, f⟩
      · rw [b, (I _ hc).1 a]
        rcases q2 with ⟨z, -, w, -⟩ | ⟨-, w, -⟩
        · exact absurd (rc.1.symm.trans a) z
        · rw [w, pk_us]
      · rw [d, pk_us]
        rcases q2 with ⟨z, z2, w, -⟩ | ⟨z, w, -⟩
        · rw [w, pk_us]; exact rc.1
        · exfalso
          rcases z with z | z
          · exact a (rc.1.trans z)
          · rw [rc.2.2.2.1 a] at b; omega
      · rw [d, pk_us]
        rcases q2 with ⟨z, z2, w, -⟩ | ⟨z, w, -⟩
        · exfalso; rw [rc.2.2.2.1 a] at b; omega
        · rw [w, pk_us]
    · rcases q1 with ⟨a, b, d⟩ | ⟨a, b, d, f⟩ | ⟨a, b, d, f⟩
      · intro z; rw [b] at z; exact absurd ((I _ hc).1 a) z
      · intro _
        rw [f, pk_us]
        rcases q2 with ⟨z, z2, -, w⟩ | ⟨z, w, -⟩
        · rw [w, pk_us]; exact rc.2.2.2.1 a
        · exfalso
          rcases z with z | z
          · exact a (rc.1.trans z)
          · rw [rc.2.2.2.1 a] at b; omega
      · intro z; rw [d, pk_us] at z; exact absurd rfl z
  · rw [pk_un e, pk_un e, pk_un e, pk_un e, pk_un e, pk_un e]
    have r := R j hj
    have g1 : gho' j = gho j ∧ ghs' j = ghs j := by
      rcases q1 with ⟨a, b, d⟩ | ⟨a, b, d, f⟩ | ⟨a, b, d, f⟩
      · rw [b, d]; exact ⟨rfl, rfl⟩
      · rw [d, f, pk_un e, pk_un e]; exact ⟨rfl, rfl⟩
      · rw [d, f, pk_un e, pk_un e]; exact ⟨rfl, rfl⟩
    have g2 : mg' j = mg j ∧ mf' j = mf j := by
      rcases q2 with ⟨z, z2, w, w2⟩ | ⟨z, w, w2⟩
      · rw [w, w2, pk_un e, pk_un e]; exact ⟨rfl, rfl⟩
      · rw [w, w2, pk_un e, pk_un e]; exact ⟨rfl, rfl⟩
    rw [g1.1, g1.2, g2.1, g2.2]; exact r
theorem spPutC_rel {top str gho ghs pto wal mt ms mg mf mp mw top' str' gho' ghs' pto' mt' ms' mg' mf' mp' : Nat → Int32} {day mday t c r r2 : Int32} (R : crR top str gho ghs pto wal mt ms mg mf mp mw) (I : crI top gho ghs) (ed : day = mday) (h1 : spPutC top str gho ghs pto day t c r top' str' gho' ghs' pto') (h2 : spPutM mt ms mg mf mp mday t c r2 mt' ms' mg' mf' mp') : r = r2 ∧ crR top' str' gho' ghs' pto' wal mt' ms' mg' mf' mp' mw := by
  subst ed
  have h := fun j hj => (R.1 j hj).1
  rcases h1 with ⟨a, b, e1, e2, e3, e4, e5⟩ | ⟨a, ⟨k, hk, ek⟩, b, e1, e2, e3, e4, e5⟩ | ⟨a, f, b, e1, v1⟩
  · rcases h2 with ⟨a2, b2, d1, d2, d3, d4, d5⟩ | ⟨a2, b2⟩ | ⟨a2, b2⟩
    · rw [b, b2, e1, e2, e3, e4, e5, d1, d2, d3, d4, d5]; exact ⟨rfl, R⟩
    · exfalso; omega
    · exfalso; omega
  · rcases h2 with ⟨a2, b2⟩ | ⟨a2, -, b2, d1, d2, d3, d4, d5⟩ | ⟨a2, f2, -⟩
    · exfalso; omega
    · rw [b, b2, e1, e2, e3, e4, e5, d1, d2, d3, d4, d5]; exact ⟨rfl, R⟩
    · exact absurd ((h k hk).symm.trans ek) (f2 k hk)
  · rcases h2 with ⟨a2, b2⟩ | ⟨a2, ⟨k, hk, ek⟩, -⟩ | ⟨a2, f2, b2, d1, v2⟩
    · exfalso; omega
    · exact absurd ((h k hk).trans ek) (f k hk)
    · have hc : c.toNatClampNeg < 48 := by rw [clC (x := c) rfl]; omega
      rw [b, b2, e1, d1]
      exact ⟨h _ hc, cv_rel R.1 I hc v1 v2, R.2⟩
-- clear
def spClrC (top gho : Nat → Int32) (c r : Int32) (top' gho' : Nat → Int32) : Prop := ((c.toInt < 0 ∨ 47 < c.toInt) ∧ r = -2 ∧ top' = top ∧ gho' = gho) ∨ ((0 ≤ c.toInt ∧ c.toInt ≤ 47) ∧ top c.toNatClampNeg = -1 ∧ r = -4 ∧ top' = top ∧ gho' = gho) ∨ ((0 ≤ c.toInt ∧ c.toInt ≤ 47) ∧ top c.toNatClampNeg ≠ -1 ∧ r = top c.toNatClampNeg ∧ top' = upd top c.toNatClampNeg (-1) ∧ gho' = upd gho c.toNatClampNeg (-1))
def spClrM (mt ms mg mf : Nat → Int32) (c r : Int32) (mt' ms' mg' mf' : Nat → Int32) : Prop := ((c.toInt < 0 ∨ 47 < c.toInt) ∧ r = -2 ∧ mt' = mt ∧ ms' = ms ∧ mg' = mg ∧ mf' = mf) ∨ ((0 ≤ c.toInt ∧ c.toInt ≤ 47) ∧ mt c.toNatClampNeg = -1 ∧ r = -4 ∧ mt' = mt ∧ ms' = ms ∧ mg' = mg ∧ mf' = mf) ∨ ((0 ≤ c.toInt ∧ c.toInt ≤ 47) ∧ mt c.toNatClampNeg ≠ -1 ∧ r = mt c.toNatClampNeg ∧ mt' = upd mt c.toNatClampNeg (-1) ∧ ms' = upd ms c.toNatClampNeg 0 ∧ mg' = upd mg c.toNatClampNeg (-1) ∧ mf' = upd mf c.toNatClampNeg 0)
theorem clrC_no {top gho : Nat → Int32} {c x : Int32} (h0 : 0 ≤ c.toInt ∧ c.toInt ≤ 47) (hx : x = top c.toNatClampNeg) (hc : x = -1) : spClrC top gho c (-4) top gho := Or.inr (Or.inl ⟨h0, hx.symm.trans hc, rfl, rfl, rfl⟩)
theorem clrC_ok {top gho top' gho' : Nat → Int32} {c r : Int32} (h0 : 0 ≤ c.toInt ∧ c.toInt ≤ 47) (hx : r = top c.toNatClampNeg) (hc : ¬ r = -1) (h1 : top' = upd top c.toNatClampNeg (-1)) (h2 : gho' = upd gho c.toNatClampNeg (-1)) : spClrC top gho c r top' gho' := Or.inr (Or.inr ⟨h0, fun q => hc (hx.trans q), hx, h1, h2⟩)
theorem clrM_no {mt ms mg mf : Nat → Int32} {c : Int32} (h0 : 0 ≤ c.toInt ∧ c.toInt ≤ 47) (hc : mt c.toNatClampNeg = -1) : spClrM mt ms mg mf c (-4) mt ms mg mf := Or.inr (Or.inl ⟨h0, hc, rfl, rfl, rfl, rfl, rfl⟩)
theorem clrM_ok {mt ms mg mf mt' ms' mg' mf' : Nat → Int32} {c r : Int32} (h0 : 0 ≤ c.toInt ∧ c.toInt ≤ 47) (hx : r = mt c.toNatClampNeg) (hc : ¬ mt c.toNatClampNeg = -1) (h1 : mt' = upd mt c.toNatClampNeg (-1)) (h2 : ms' = upd ms c.toNatClampNeg 0) (h3 : mg' = upd mg c.toNatClampNeg (-1)) (h4 : mf' = upd mf c.toNatClampNeg 0) : spClrM mt ms mg mf c r mt' ms' mg' mf' := Or.inr (Or.inr ⟨h0, hc, hx, h1, h2, h3, h4⟩)
theorem crI_clr {top gho ghs top' gho' : Nat → Int32} {c : Int32} (h : crI top gho ghs) (et : top' = upd top c.toNatClampNeg (-1)) (eg : gho' = upd gho c.toNatClampNeg (-1)) : crI top' gho' ghs := by
  subst et; subst eg
  intro j hj
  by_cases e : j = c.toNatClampNeg
  · subst e; rw [pk_us, pk_us]; exact ⟨fun _ => rfl, .inl rfl⟩
  · rw [pk_un e, pk_un e]; exact h j hj
theorem spClrC_rel {top str gho ghs pto wal mt ms mg mf mp mw top' gho' mt' ms' mg' mf' : Nat → Int32} {c r r2 : Int32} (R : crR top str gho ghs pto wal mt ms mg mf mp mw) (h1 : spClrC top gho c r top' gho') (h2 : spClrM mt ms mg mf c r2 mt' ms' mg' mf') : r = r2 ∧ crR top' str gho' ghs pto wal mt' ms' mg' mf' mp mw := by
  have hc : (0 ≤ c.toInt ∧ c.toInt ≤ 47) → c.toNatClampNeg < 48 := fun q => by rw [clC (x := c) rfl]; omega
  rcases h1 with ⟨a, b, e1, e2⟩ | ⟨a, f, b, e1, e2⟩ | ⟨a, f, b, e1, e2⟩
  · rcases h2 with ⟨a2, b2, d1, d2, d3, d4⟩ | ⟨a2, b2⟩ | ⟨a2, b2⟩
    · rw [b, b2, e1, e2, d1, d2, d3, d4]; exact ⟨rfl, R⟩
    · exfalso; omega
    · exfalso; omega
  · rcases h2 with ⟨a2, b2⟩ | ⟨a2, f2, b2, d1, d2, d3, d4⟩ | ⟨a2, f2, -⟩
    · exfalso; omega
    · rw [b, b2, e1, e2, d1, d2, d3, d4]; exact ⟨rfl, R⟩
    · exact absurd ((R.1 _ (hc a)).1.symm.trans f) f2
  · rcases h2 with ⟨a2, b2⟩ | ⟨a2, f2, -⟩ | ⟨a2, f2, b2, d1, d2, d3, d4⟩
    · exfalso; omega
    · exact absurd ((R.1 _ (hc a)).1.trans f2) f
    · rw [b, b2, e1, e2, d1, d2, d3, d4]
      refine ⟨(R.1 _ (hc a)).1, fun j hj => ?_, R.2⟩
      by_cases e : j = c.toNatClampNeg
      · subst e
        rw [pk_us, pk_us, pk_us, pk_us, pk_us, pk_us]
        exact ⟨rfl, rfl, (R.1 _ hj).2.2.1, fun z => absurd rfl z, fun z => absurd rfl z⟩
      · rw [pk_un e, pk_un e, pk_un e, pk_un e, pk_un e, pk_un e]; exact R.1 j hj
-- days
def spDysC (mar f top str gho ghs : Nat → Int32) (tel day n r day' : Int32) (str' gho' ghs' : Nat → Int32) : Prop := spDays day n r day' ∧ (((n.toInt < 1 ∨ 60 < n.toInt ∨ 400 < day.toInt + n.toInt) ∧ str' = str ∧ gho' = gho ∧ ghs' = ghs) ∨ ((1 ≤ n.toInt ∧ n.toInt ≤ 60 ∧ day.toInt + n.toInt ≤ 400) ∧ dyC mar f top str gho ghs tel n.toInt.toNat str' gho' ghs'))
def spDysM (mar f top str gho fai : Nat → Int32) (tel day n r day' : Int32) (str' gho' fai' : Nat → Int32) : Prop := spDays day n r day' ∧ (((n.toInt < 1 ∨ 60 < n.toInt ∨ 400 < day.toInt + n.toInt) ∧ str' = str ∧ gho' = gho ∧ fai' = fai) ∨ ((1 ≤ n.toInt ∧ n.toInt ≤ 60 ∧ day.toInt + n.toInt ≤ 400) ∧ dyM mar f top str gho fai tel n.toInt.toNat str' gho' fai'))
theorem cw_nn {mar top : Nat → Int32} {tel : Int32} {c lo : Nat} : ∀ k, 0 ≤ cwF mar top tel c lo k
  | 0 => Int.le_refl 0
  | k + 1 => by
    have := cw_nn (mar := mar) (top := top) (tel := tel) (c := c) (lo := lo) k
    show 0 ≤ cwF mar top tel c lo k + (if crdB mar top tel (lo + k) c then 1 else 0)
    cases crdB mar top tel (lo + k) c
    · show 0 ≤ cwF mar top tel c lo k + 0
      omega
    · show 0 ≤ cwF mar top tel c lo k + 1
      omega
theorem cw_eq {mar t t2 : Nat → Int32} {tel : Int32} {c lo : Nat} (h : ∀ j : Nat, j < 48 → t j = t2 j) (hc : c < 48) : ∀ k, lo + k ≤ 48 → cwF mar t tel c lo k = cwF mar t2 tel c lo k
  | 0, _ => rfl
  | k + 1, hk => by
    show cwF mar t tel c lo k + (if crdB mar t tel (lo + k) c then 1 else 0) = cwF mar t2 tel c lo k + (if crdB mar t2 tel (lo + k) c then 1 else 0)
    have e : crdB mar t tel (lo + k) c = crdB mar t2 tel (lo + k) c := by unfold crdB; rw [h (lo + k) (by omega), h c hc]
    rw [cw_eq h hc k (by omega), e]
theorem crI_days {mar f top str gho ghs str' gho' ghs' : Nat → Int32} {tel : Int32} {n : Nat} (h : crI top gho ghs) (q : dyC mar f top str gho ghs tel n str' gho' ghs') : crI top gho' ghs' := by
  intro j hj
  rcases (q j hj).2 with ⟨a, b⟩ | ⟨a, b, -⟩ | ⟨a, b, d, e⟩
  · exact ⟨fun _ => b, .inl b⟩
  · exact ⟨fun _ => b, .inl b⟩
  · exact ⟨fun z => absurd ((h j hj).1 z) a, .inr (by rw [e]; exact d)⟩
theorem spDays_one {d n r d' r2 d2 : Int32} (h1 : spDays d n r d') (h2 : spDays d n r2 d2) : r = r2 ∧ d' = d2 := by
  unfold spDays at h1 h2
  rcases h1 with ⟨a, rfl, rfl⟩ | ⟨a, rfl, rfl⟩ <;> rcases h2 with ⟨c, rfl, rfl⟩ | ⟨c, rfl, rfl⟩ <;> first | exact ⟨rfl, rfl⟩ | (exfalso; omega)
theorem spDysC_rel {mar mm f mfl top str gho ghs pto wal mt ms mg mf mp mw str' gho' ghs' ms' mg' mf' : Nat → Int32} {tel mtel day mday n r r2 day' mday' : Int32} (R : crR top str gho ghs pto wal mt ms mg mf mp mw) (em : mar = mm) (et : tel = mtel) (ed : day = mday) (ef : ∀ j, j < 11 → f j = mfl j) (hf : rg 11 0 30 f) (hs : rg 48 0 100 str) (hg : rg 48 0 100 ghs) (h1 : spDysC mar f top str gho ghs tel day n r day' str' gho' ghs') (h2 : spDysM mm mfl mt ms mg mf mtel mday n r2 mday' ms' mg' mf') : r = r2 ∧ day' = mday' ∧ crR top str' gho' ghs' pto wal mt ms' mg' mf' mp mw := by
  subst em; subst et; subst ed
  have d := spDays_one h1.1 h2.1
  refine ⟨d.1, d.2, fun j hj => ?_, R.2⟩
  have R1 := R.1 j hj
  rcases h1.2 with ⟨a, e1, e2, e3⟩ | ⟨a, q1⟩
  · rcases h2.2 with ⟨-, d1, d2, d3⟩ | ⟨b, -⟩
    · rw [e1, e2, e3, d1, d2, d3]; exact R1
    · exfalso; omega
  · rcases h2.2 with ⟨b, -⟩ | ⟨-, q2⟩
    · exfalso; omega
    · have w1 := q1 j hj
      have w2 := q2 j hj
      have hsj := hs j hj
      have hgj := hg j hj
      refine ⟨R1.1, ?_, R1.2.2.1, fun t => ?_, fun z => ?_⟩
      · rcases w1.2 with ⟨u1, u2⟩ | ⟨u1, u2, u3⟩ | ⟨u1, u2, u3, u4⟩
        · rw [u2, w2.2.2.1]
          rw [w2.2.1]
          unfold fnt
          rw [if_pos (R1.2.1.symm.trans u1)]
          exact itf_zero (fun k hk => by rw [← ef k hk]; exact hf k hk) _
        · rw [u2, w2.2.2.1]
          rw [w2.2.1]
          unfold fnt
          rw [if_neg (fun z => u1 (R1.2.1.trans z)), ← R1.2.2.2.2 u1, ← itf_eq ef hf hgj.1 hgj.2 (Int.le_refl 0)]
          exact u3
        · rw [u2, w2.2.2.2]
          · exact R1.2.1
          · rw [w2.2.1]
            unfold fnt
            rw [if_neg (fun z => u1 (R1.2.1.trans z)), ← R1.2.2.2.2 u1, ← itf_eq ef hf hgj.1 hgj.2 (Int.le_refl 0)]
            omega
      · apply Int32.toInt_inj.mp
        have t2 : mt j ≠ -1 := fun z => t (R1.1.trans z)
        rw [w1.1 t, w2.1 t2, ← R1.2.2.2.1 t, itf_eq ef hf hsj.1 hsj.2 (cw_nn 6), cw_eq (fun j hj => (R.1 j hj).1) hj 6 (by omega)]
      · apply Int32.toInt_inj.mp
        rcases w1.2 with ⟨u1, u2⟩ | ⟨u1, u2, u3⟩ | ⟨u1, u2, u3, u4⟩
        · exact absurd u2 z
        · exact absurd u2 z
        · rw [u4, w2.2.1]
          unfold fnt
          rw [if_neg (fun z => u1 (R1.2.1.trans z)), ← R1.2.2.2.2 u1, ← itf_eq ef hf hgj.1 hgj.2 (Int.le_refl 0)]
-- walk
def spWlkC (top str wal : Nat → Int32) (gai day ro r : Int32) (str' wal' : Nat → Int32) : Prop := ((ro.toInt < 0 ∨ 7 < ro.toInt) ∧ r = -2 ∧ str' = str ∧ wal' = wal) ∨ ((0 ≤ ro.toInt ∧ ro.toInt ≤ 7) ∧ wkS top str gai.toInt (ro.toInt * 6) (ro.toInt * 6 + 6) str' r.toInt ∧ wal' = upd wal ro.toNatClampNeg day)
def spWlkM (top str wal : Nat → Int32) (gai day ro r : Int32) (str' wal' : Nat → Int32) : Prop := ((ro.toInt < 0 ∨ 7 < ro.toInt) ∧ r = -2 ∧ str' = str ∧ wal' = wal) ∨ ((0 ≤ ro.toInt ∧ ro.toInt ≤ 7) ∧ wkM top str gai.toInt (ro.toInt * 6) (ro.toInt * 6 + 6) str' r.toInt ∧ wal' = upd wal ro.toNatClampNeg day)
theorem wkF_eq {t t2 s s2 : Nat → Int32} {g : Int} {lo : Nat} (h : ∀ j : Nat, j < 48 → t j = t2 j) (hs : ∀ j : Nat, j < 48 → t j ≠ -1 → s j = s2 j) : ∀ k, lo + k ≤ 48 → wkF t s g lo k = wkF t2 s2 g lo k
  | 0, _ => rfl
  | k + 1, hk => by
    show wkF t s g lo k + (if t (lo + k) = -1 then 0 else gn g (s (lo + k)).toInt) = wkF t2 s2 g lo k + (if t2 (lo + k) = -1 then 0 else gn g (s2 (lo + k)).toInt)
    rw [wkF_eq h hs k (by omega), ← h (lo + k) (by omega)]
    by_cases z : t (lo + k) = -1
    · rw [if_pos z, if_pos z]
    · rw [if_neg z, if_neg z, hs (lo + k) (by omega) z]
theorem spWlkC_rel {top str gho ghs pto wal mt ms mg mf mp mw str' wal' ms' mw' : Nat → Int32} {gai mgai day mday ro r r2 : Int32} (R : crR top str gho ghs pto wal mt ms mg mf mp mw) (eg : gai = mgai) (ed : day = mday) (h1 : spWlkC top str wal gai day ro r str' wal') (h2 : spWlkM mt ms mw mgai mday ro r2 ms' mw') : r = r2 ∧ crR top str' gho ghs pto wal' mt ms' mg mf mp mw' := by
  subst eg; subst ed
  rcases h1 with ⟨a, b, e1, e2⟩ | ⟨a, q1, e1⟩
  · rcases h2 with ⟨-, b2, d1, d2⟩ | ⟨a2, -⟩
    · rw [b, b2, e1, e2, d1, d2]; exact ⟨rfl, R⟩
    · exfalso; omega
  · rcases h2 with ⟨a2, -⟩ | ⟨a2, q2, d1⟩
    · exfalso; omega
    · refine ⟨?_, fun j hj => ?_, fun j hj => ?_⟩
      · apply Int32.toInt_inj.mp
        rw [q1.2, q2.2]
        exact wkF_eq (fun j hj => (R.1 j hj).1) (fun j hj => (R.1 j hj).2.2.2.1) _ (by omega)
      · have r := R.1 j hj
        refine ⟨r.1, r.2.1, r.2.2.1, fun t => ?_, r.2.2.2.2⟩
        have t2 : mt j ≠ -1 := fun z => t (r.1.trans z)
        have w1 := q1.1 j hj
        have w2 := q2.1 j hj t2
        by_cases c : ro.toInt * 6 ≤ (j : Int) ∧ (j : Int) < ro.toInt * 6 + 6
        · apply Int32.toInt_inj.mp
          rw [w1.1 ⟨c.1, c.2, t⟩, w2.1 c, r.2.2.2.1 t]
        · rw [w1.2 (fun z => c ⟨z.1, z.2.1⟩), w2.2 c]; exact r.2.2.2.1 t
      · rw [e1, d1]
        by_cases e : j = ro.toNatClampNeg
        · subst e; rw [pk_us, pk_us]
        · rw [pk_un e, pk_un e]; exact R.2 j hj
-- corner
def spCor (top str gho ghs pto : Nat → Int32) (c w r : Int32) : Prop :=
  ((c.toInt < 0 ∨ 47 < c.toInt) ∧ r = -2) ∨ ((0 ≤ c.toInt ∧ c.toInt ≤ 47) ∧ ((w.toInt = 0 ∧ r = top c.toNatClampNeg) ∨ (w.toInt = 1 ∧ ((top c.toNatClampNeg = -1 ∧ r = -1) ∨ (top c.toNatClampNeg ≠ -1 ∧ r = str c.toNatClampNeg))) ∨ (w.toInt = 2 ∧ r = gho c.toNatClampNeg) ∨ (w.toInt = 3 ∧ ((gho c.toNatClampNeg = -1 ∧ r = -1) ∨ (gho c.toNatClampNeg ≠ -1 ∧ r = ghs c.toNatClampNeg))) ∨ (w.toInt = 4 ∧ r = pto c.toNatClampNeg) ∨ ((w.toInt < 0 ∨ 4 < w.toInt) ∧ r = -3)))
theorem spCor_det {top str gho ghs pto : Nat → Int32} {c w r r2 : Int32} (h1 : spCor top str gho ghs pto c w r) (h2 : spCor top str gho ghs pto c w r2) : r = r2 := by
  rcases h1 with ⟨a, b⟩ | ⟨a, b⟩
  · rcases h2 with ⟨a2, b2⟩ | ⟨a2, b2⟩
    · rw [b, b2]
    · exfalso; omega
  · rcases h2 with ⟨a2, b2⟩ | ⟨a2, b2⟩
    · exfalso; omega
    · rcases b with ⟨w1, b⟩ | ⟨w1, b⟩ | ⟨w1, b⟩ | ⟨w1, b⟩ | ⟨w1, b⟩ | ⟨w1, b⟩ <;> rcases b2 with ⟨w2, b2⟩ | ⟨w2, b2⟩ | ⟨w2, b2⟩ | ⟨w2, b2⟩ | ⟨w2, b2⟩ | ⟨w2, b2⟩ <;> first | (exfalso; omega) | (rw [b, b2]) | skip
      · rcases b with ⟨p, b⟩ | ⟨p, b⟩ <;> rcases b2 with ⟨p2, b2⟩ | ⟨p2, b2⟩ <;> first | exact absurd p p2 | exact absurd p2 p | rw [b, b2]
      · rcases b with ⟨p, b⟩ | ⟨p, b⟩ <;> rcases b2 with ⟨p2, b2⟩ | ⟨p2, b2⟩ <;> first | exact absurd p p2 | exact absurd p2 p | rw [b, b2]
theorem spCor_rel {top str gho ghs pto wal mt ms mg mf mp mw : Nat → Int32} {c w r r2 : Int32} (R : crR top str gho ghs pto wal mt ms mg mf mp mw) (h1 : spCor top str gho ghs pto c w r) (h2 : spCor mt ms mg mf mp c w r2) : r = r2 := by
  refine spCor_det h1 ?_
  rcases h2 with h | ⟨a, h⟩
  · exact .inl h
  · have R1 := R.1 c.toNatClampNeg (by rw [clC (x := c) rfl]; omega)
    refine .inr ⟨a, ?_⟩
    rw [R1.1, R1.2.1, R1.2.2.1]
    rcases h with h | ⟨h, k⟩ | h | ⟨h, k⟩ | h
    · exact .inl h
    · refine .inr (.inl ⟨h, ?_⟩)
      rcases k with k | ⟨k, l⟩
      · exact .inl k
      · exact .inr ⟨k, l.trans (R1.2.2.2.1 (fun z => k (R1.1.symm.trans z))).symm⟩
    · exact .inr (.inr (.inl h))
    · refine .inr (.inr (.inr (.inl ⟨h, ?_⟩)))
      rcases k with k | ⟨k, l⟩
      · exact .inl k
      · exact .inr ⟨k, l.trans (R1.2.2.2.2 (fun z => k (R1.2.1.symm.trans z))).symm⟩
    · exact .inr (.inr (.inr (.inr h)))
set_option maxHeartbeats 4000000 in
set_option maxRecDepth 100000 in
theorem k_X10_lookAhead2 (l : Launch) (dC : Nat → ClassId) (dI : Nat → Nat → Nat) (cI cZ cQ : ClassId) (b : Nat → Nat) (mday : Int32) (mdoo : Int32) (mdA : Nat → Int32) (mdB : Nat → Int32) (mfar : Nat → Int32) (mmar : Nat → Int32) (mtel : Int32) (mgai : Int32) (mfal : Nat → Int32) (mtop : Nat → Int32) (mstr : Nat → Int32) (mgho : Nat → Int32) (mfai : Nat → Int32) (mpto : Nat → Int32) (mwal : Nat → Int32) (mahd : Nat → Int32) (mahf : Nat → Int32) (mcho : Nat → Int32) (mbes : Nat → Int32) (mbyt : Int32) (mtxt : Nat → Int32) (mpos : Int32) (mtka : Int32) (mtok : Int64) (mdig : Int32) (mnum : Int32) (mfau : Int32) (mrdm : Int32) (mrea : Nat → Int32) (mlin : Int32) (mlne : Nat → Int32) (mthg : Nat → Int32) (mord : Nat → Int32) (mbor : Nat → Int32) (mbsm : Int32) (mans : Nat → Int32) (mand : Nat → Int32) (manr : Nat → Int32) (mali : Nat → Int32) (sz : Nat) (r_mday : 0 ≤ mday.toInt ∧ mday.toInt ≤ 400) (r_mdoo : 0 ≤ mdoo.toInt ∧ mdoo.toInt ≤ 14) (r_mdA : rg 14 (0) (7) mdA) (r_mdB : rg 14 (0) (7) mdB) (r_mmar : rg 24 (0) (255) mmar) (r_mgai : 0 ≤ mgai.toInt ∧ mgai.toInt ≤ 100) (r_mfal : rg 11 (0) (30) mfal) (r_mtop : rg 48 (-1) (23) mtop) (r_mstr : rg 48 (0) (100) mstr) (r_mgho : rg 48 (-1) (23) mgho) (r_mfai : rg 48 (0) (100) mfai) (r_mahd : rg 240 (0) (100) mahd) (r_mahf : rg 240 (0) (100) mahf) (r_mcho : rg 5 (-1) (9) mcho) (r_mbyt : 0 ≤ mbyt.toInt ∧ mbyt.toInt ≤ 160) (r_mpos : 0 ≤ mpos.toInt ∧ mpos.toInt ≤ 160) (r_mrdm : 0 ≤ mrdm.toInt ∧ mrdm.toInt ≤ 10) (r_mlin : 0 ≤ mlin.toInt ∧ mlin.toInt ≤ 10) (r_mthg : rg 8 (0) (31) mthg) (r_mord : rg 8 (-1) (8) mord) (r_mans : rg 4 (0) (12) mans) : KV l yX10_lookAhead wsX10_lookAhead { frames := 0, cells := 0, slots := 0, locals := 0 } (dC, dI) (TY cI cZ cQ) (wMod cI cZ cQ b mday mdoo mdA mdB mfar mmar mtel mgai mfal mtop mstr mgho mfai mpto mwal mahd mahf mcho mbes mbyt mtxt mpos mtka mtok mdig mnum mfau mrdm mrea mlin mlne mthg mord mbor mbsm mans mand manr mali) [.ref (b 39)] sz 0 0 (fun (u : US) => (laI mtop mstr mgho mfai 48 (u.1 0) (u.1 1)) ∧ (rg 240 (0) (100) (u.1 0)) ∧ (rg 240 (0) (100) (u.1 1))) (fun u : US => (wMod cI cZ cQ b mday mdoo mdA mdB mfar mmar mtel mgai mfal mtop mstr mgho mfai mpto mwal (u.1 0) (u.1 1) mcho mbes mbyt mtxt mpos mtka mtok mdig mnum mfau mrdm mrea mlin mlne mthg mord mbor mbsm mans mand manr mali)) := by
  refine Met.ofW (cc := cX10_lookAhead) (maxL := 2) (ret := none) (by decide) rfl ?_
  intro p e s m args below meth c s₁ B hml hv
  obtain ⟨rfl, hsz, hP, hK, hD0, hN⟩ := hv
  have hx := B.exec
  have hb := B.bytes
  have hr := B.returns
  have hts := atoms_spec (ws := wsX10_lookAhead) B.pre
  have hown : s.vm.findClass RX10 = some m.cls := findClass_of_methodNamed B.named
  have hlocks := B.notSynchronized
  have lf50 := hts (.fieldLink RX10 50 "PalaceOfRoomsModel" "ahead" "[I") (List.mem_cons_of_mem _ (List.mem_append_left _ (List.mem_of_getElem? (i := 0) rfl)))
  have inX10 : ∀ w ∈ wsX100, w ∈ wsX10_lookAhead := fun w h => List.mem_cons_of_mem _ (List.mem_append_right _ h)
  have lf32 := hts (.fieldLink RX10 32 "PalaceOfRoomsModel" "top" "[I") (List.mem_cons_of_mem _ (List.mem_append_left _ (List.mem_of_getElem? (i := 1) rfl)))
  have lf35 := hts (.fieldLink RX10 35 "PalaceOfRoomsModel" "strength" "[I") (List.mem_cons_of_mem _ (List.mem_append_left _ (List.mem_of_getElem? (i := 2) rfl)))
  have lf53 := hts (.fieldLink RX10 53 "PalaceOfRoomsModel" "aheadFaint" "[I") (List.mem_cons_of_mem _ (List.mem_append_left _ (List.mem_of_getElem? (i := 3) rfl)))
  have lf38 := hts (.fieldLink RX10 38 "PalaceOfRoomsModel" "ghost" "[I") (List.mem_cons_of_mem _ (List.mem_append_left _ (List.mem_of_getElem? (i := 4) rfl)))
  have lf41 := hts (.fieldLink RX10 41 "PalaceOfRoomsModel" "faint" "[I") (List.mem_cons_of_mem _ (List.mem_append_left _ (List.mem_of_getElem? (i := 5) rfl)))
  subst hsz
  have hD := hD0.self (sz := s.heap.size)
  generalize hAe : va_A (wMod cI cZ cQ b mday mdoo mdA mdB mfar mmar mtel mgai mfal mtop mstr mgho mfai mpto mwal mahd mahf mcho mbes mbyt mtxt mpos mtka mtok mdig mnum mfau mrdm mrea mlin mlne mthg mord mbor mbsm mans mand manr mali) s.heap.size = A at hD ⊢
  have hA : ∀ q : Nat, s.heap.size ≤ q → A q := fun q h => by rw [← hAe]; exact Or.inr h
  have hS : va_S A s.heap s.heap [] := va_S.rf
  have hl := lv_entry ([.ref (b 39)]) (n := 2) (Nat.le_of_ble_eq_true rfl)
  rw [lg_entry_eq]
  generalize (lg_sl ([.ref (b 39)]) ++ List.replicate (2 - (lg_sl ([.ref (b 39)])).length) Slot.unset).toArray = ls at hl ⊢
  have hl : lv_has ls 2 [(0, .ref (b 39))] := hl
  refine lv_iconst (v := 0) hx hb dX10_lookAhead_0 (by decide) ?_
  refine lv_istore_n (lv' := [(1, .int 0), (0, .ref (b 39))]) hx hb dX10_lookAhead_1 rfl hl (by decide) rfl (fun ls hl => ?_)
  have L2 : ∀ (nn : Nat) (y2_1 : Int32) (mahd_2 : Nat → Int32) (mahf_2 : Nat → Int32) (H : Heap) (locs : List Loc) (ls : Array Slot), (rg 240 (0) (100) mahd_2) → (rg 240 (0) (100) mahf_2) → (0 ≤ (y2_1.toInt)) → ((y2_1.toInt) ≤ 48) → (laI mtop mstr mgho mfai (y2_1.toInt) mahd_2 mahf_2) → (48 - (y2_1.toInt)).toNat < nn → va_P (dC, dI) vwCl (wMod cI cZ cQ b mday mdoo mdA mdB mfar mmar mtel mgai mfal mtop mstr mgho mfai mpto mwal mahd_2 mahf_2 mcho mbes mbyt mtxt mpos mtka mtok mdig mnum mfau mrdm mrea mlin mlne mthg mord mbor mbsm mans mand manr mali) H → va_D A (wMod cI cZ cQ b mday mdoo mdA mdB mfar mmar mtel mgai mfal mtop mstr mgho mfai mpto mwal mahd_2 mahf_2 mcho mbes mbyt mtxt mpos mtka mtok mdig mnum mfau mrdm mrea mlin mlne mthg mord mbor mbsm mans mand manr mali) → va_S A s.heap H locs → lv_has ls 2 [(0, .ref (b 39)), (1, .int y2_1)] → W p l e (headSpec wsX10_lookAhead { frames := 0, cells := 0, slots := 0, locals := 0 }).room s m ([.ref (b 39)] : List Value).toArray below meth c H locs 0 0 (MQ below (va_Qv (fun (u : US) => (laI mtop mstr mgho mfai 48 (u.1 0) (u.1 1)) ∧ (rg 240 (0) (100) (u.1 0)) ∧ (rg 240 (0) (100) (u.1 1))) (Bw (dC, dI) A (fun u : US => (wMod cI cZ cQ b mday mdoo mdA mdB mfar mmar mtel mgai mfal mtop mstr mgho mfai mpto mwal (u.1 0) (u.1 1) mcho mbes mbyt mtxt mpos mtka mtok mdig mnum mfau mrdm mrea mlin mlne mthg mord mbor mbsm mans mand manr mali))) A) ([.ref (b 39)] : List Value).toArray s 0 0 A) (F0 m 2 ls []) := by
    intro nn
    induction nn with
    | zero =>
      intro y2_1 mahd_2 mahf_2 H locs ls r_mahd_2 r_mahf_2 i2_0 i2_1 i2_2 hm2
      exact absurd hm2 (Nat.not_lt_zero _)
    | succ nn ih2 =>
      intro y2_1 mahd_2 mahf_2 H locs ls r_mahd_2 r_mahf_2 i2_0 i2_1 i2_2 hm2 hP hD hS hl
      refine lv_iload_n hx hb dX10_lookAhead_2 rfl (lv_at hl 1 rfl) ?_
      refine lv_bipush (v := 48) hx hb dX10_lookAhead_3 (by decide) ?_
      refine lv_icmp_ge (tgt := 66) hx hb dX10_lookAhead_5 (by decide) (fun c1 => ?_) (fun c1 => ?_)
      · have dc1 : 48 ≤ y2_1.toInt := leC (show (48 : Int32).toInt = 48 from rfl) rfl c1
        exact W.vret hx hb hr (fun tq ht hW => ⟨⟨(uS [mahd_2, mahf_2] 0 (fun _ => 0)), rfl, ⟨(show laI mtop mstr mgho mfai 48 mahd_2 mahf_2 from by (have e48 : _ = (48 : Int) := Int.le_antisymm i2_1 (by assumption); rw [← e48]; exact i2_2)), r_mahd_2, r_mahf_2⟩, by rw [ht]; exact hP, hD⟩, hS.F ht⟩) hS.2.2 dX10_lookAhead_66
      · have dc1 : y2_1.toInt < 48 := nleC (show (48 : Int32).toInt = 48 from rfl) rfl c1
        refine lv_aload_n hx hb dX10_lookAhead_8 rfl (lv_at hl 0 rfl) ?_
        refine va_get (D := (dC, dI)) (ci := 10) (v := .ref (b 15)) (C := RX10) (T := TX10) (N := 39) hx hb hts inX10 hown hK hP 0 rfl rfl 15 (by decide) lf50 (fun _ h9 => h9) rfl dX10_lookAhead_9 ?_
        refine lv_iload_n hx hb dX10_lookAhead_12 rfl (lv_at hl 1 rfl) ?_
        refine lv_aload_n hx hb dX10_lookAhead_13 rfl (lv_at hl 0 rfl) ?_
        refine va_get (D := (dC, dI)) (ci := 10) (v := .ref (b 9)) (C := RX10) (T := TX10) (N := 39) hx hb hts inX10 hown hK hP 0 rfl rfl 9 (by decide) lf32 (fun _ h9 => h9) rfl dX10_lookAhead_14 ?_
        refine lv_iload_n hx hb dX10_lookAhead_17 rfl (lv_at hl 1 rfl) ?_
        have b2 : vp_in y2_1 48 := inC rfl (by omega) (by omega)
        refine va_iald hx hb hK hP 6 0 rfl rfl b2 dX10_lookAhead_18 ?_
        have g3 : -1 ≤ (mtop y2_1.toNatClampNeg).toInt ∧ (mtop y2_1.toNatClampNeg).toInt ≤ 23 := rg_at r_mtop b2
        refine lv_iconst (v := (-1)) hx hb dX10_lookAhead_19 (by decide) ?_
        refine lv_icmp_ne (tgt := 27) hx hb dX10_lookAhead_20 (by decide) (fun c4 => ?_) (fun c4 => ?_)
        · have dc4 : 0 ≤ (mtop y2_1.toNatClampNeg).toInt := ka_lo (by omega) (neC rfl (show ((-1) : Int32).toInt = (-1) from rfl) c4)
          refine lv_aload_n hx hb dX10_lookAhead_27 rfl (lv_at hl 0 rfl) ?_
          refine va_get (D := (dC, dI)) (ci := 10) (v := .ref (b 10)) (C := RX10) (T := TX10) (N := 39) hx hb hts inX10 hown hK hP 0 rfl rfl 10 (by decide) lf35 (fun _ h9 => h9) rfl dX10_lookAhead_28 ?_
          refine lv_iload_n hx hb dX10_lookAhead_31 rfl (lv_at hl 1 rfl) ?_
          have b5 : vp_in y2_1 48 := inC rfl (by omega) (by omega)
          refine va_iald hx hb hK hP 7 0 rfl rfl b5 dX10_lookAhead_32 ?_
          have g6 : 0 ≤ (mstr y2_1.toNatClampNeg).toInt ∧ (mstr y2_1.toNatClampNeg).toInt ≤ 100 := rg_at r_mstr b5
          refine lv_topi (fun x7 ex7 => ?_)
          have ix7 : x7.toInt = (mstr y2_1.toNatClampNeg).toInt := by rw [ex7]
          have b8 : vp_in y2_1 240 := inC rfl (by omega) (by omega)
          have g9 : rg 240 (0) (100) (upd mahd_2 y2_1.toNatClampNeg x7) := rg_upd r_mahd_2 rfl (by omega) (by omega)
          refine va_iast hx hb hK hP hD hS 12 0 rfl rfl b8 dX10_lookAhead_33 (fun H locs hP hD hS => ?_)
          obtain ⟨mahd_u10, emahd_u10⟩ : ∃ f : Nat → Int32, f = upd mahd_2 y2_1.toNatClampNeg x7 := ⟨_, rfl⟩
          have rmahd_u10 : rg 240 (0) (100) mahd_u10 := by rw [emahd_u10]; exact g9
          have hP : va_P (dC, dI) vwCl (wMod cI cZ cQ b mday mdoo mdA mdB mfar mmar mtel mgai mfal mtop mstr mgho mfai mpto mwal mahd_u10 mahf_2 mcho mbes mbyt mtxt mpos mtka mtok mdig mnum mfau mrdm mrea mlin mlne mthg mord mbor mbsm mans mand manr mali) H := by rw [emahd_u10]; exact hP
          have hD : va_D A (wMod cI cZ cQ b mday mdoo mdA mdB mfar mmar mtel mgai mfal mtop mstr mgho mfai mpto mwal mahd_u10 mahf_2 mcho mbes mbyt mtxt mpos mtka mtok mdig mnum mfau mrdm mrea mlin mlne mthg mord mbor mbsm mans mand manr mali) := by rw [emahd_u10]; exact hD
          refine lv_aload_n hx hb dX10_lookAhead_34 rfl (lv_at hl 0 rfl) ?_
          refine va_get (D := (dC, dI)) (ci := 10) (v := .ref (b 16)) (C := RX10) (T := TX10) (N := 39) hx hb hts inX10 hown hK hP 0 rfl rfl 16 (by decide) lf53 (fun _ h9 => h9) rfl dX10_lookAhead_35 ?_
          refine lv_iload_n hx hb dX10_lookAhead_38 rfl (lv_at hl 1 rfl) ?_
          refine lv_aload_n hx hb dX10_lookAhead_39 rfl (lv_at hl 0 rfl) ?_
          refine va_get (D := (dC, dI)) (ci := 10) (v := .ref (b 11)) (C := RX10) (T := TX10) (N := 39) hx hb hts inX10 hown hK hP 0 rfl rfl 11 (by decide) lf38 (fun _ h9 => h9) rfl dX10_lookAhead_40 ?_
          refine lv_iload_n hx hb dX10_lookAhead_43 rfl (lv_at hl 1 rfl) ?_
          have b11 : vp_in y2_1 48 := inC rfl (by omega) (by omega)
          refine va_iald hx hb hK hP 8 0 rfl rfl b11 dX10_lookAhead_44 ?_
          have g12 : -1 ≤ (mgho y2_1.toNatClampNeg).toInt ∧ (mgho y2_1.toNatClampNeg).toInt ≤ 23 := rg_at r_mgho b11
          refine lv_iconst (v := (-1)) hx hb dX10_lookAhead_45 (by decide) ?_
          refine lv_icmp_ne (tgt := 53) hx hb dX10_lookAhead_46 (by decide) (fun c13 => ?_) (fun c13 => ?_)
          · have dc13 : 0 ≤ (mgho y2_1.toNatClampNeg).toInt := ka_lo (by omega) (neC rfl (show ((-1) : Int32).toInt = (-1) from rfl) c13)
            refine lv_aload_n hx hb dX10_lookAhead_53 rfl (lv_at hl 0 rfl) ?_
            refine va_get (D := (dC, dI)) (ci := 10) (v := .ref (b 12)) (C := RX10) (T := TX10) (N := 39) hx hb hts inX10 hown hK hP 0 rfl rfl 12 (by decide) lf41 (fun _ h9 => h9) rfl dX10_lookAhead_54 ?_
            refine lv_iload_n hx hb dX10_lookAhead_57 rfl (lv_at hl 1 rfl) ?_
            have b14 : vp_in y2_1 48 := inC rfl (by omega) (by omega)
            refine va_iald hx hb hK hP 9 0 rfl rfl b14 dX10_lookAhead_58 ?_
            have g15 : 0 ≤ (mfai y2_1.toNatClampNeg).toInt ∧ (mfai y2_1.toNatClampNeg).toInt ≤ 100 := rg_at r_mfai b14
            refine lv_topi (fun x16 ex16 => ?_)
            have ix16 : x16.toInt = (mfai y2_1.toNatClampNeg).toInt := by rw [ex16]
            have b17 : vp_in y2_1 240 := inC rfl (by omega) (by omega)
            have g18 : rg 240 (0) (100) (upd mahf_2 y2_1.toNatClampNeg x16) := rg_upd r_mahf_2 rfl (by omega) (by omega)
            refine va_iast hx hb hK hP hD hS 13 0 rfl rfl b17 dX10_lookAhead_59 (fun H locs hP hD hS => ?_)
            obtain ⟨mahf_u19, emahf_u19⟩ : ∃ f : Nat → Int32, f = upd mahf_2 y2_1.toNatClampNeg x16 := ⟨_, rfl⟩
            have rmahf_u19 : rg 240 (0) (100) mahf_u19 := by rw [emahf_u19]; exact g18
            have hP : va_P (dC, dI) vwCl (wMod cI cZ cQ b mday mdoo mdA mdB mfar mmar mtel mgai mfal mtop mstr mgho mfai mpto mwal mahd_u10 mahf_u19 mcho mbes mbyt mtxt mpos mtka mtok mdig mnum mfau mrdm mrea mlin mlne mthg mord mbor mbsm mans mand manr mali) H := by rw [emahf_u19]; exact hP
            have hD : va_D A (wMod cI cZ cQ b mday mdoo mdA mdB mfar mmar mtel mgai mfal mtop mstr mgho mfai mpto mwal mahd_u10 mahf_u19 mcho mbes mbyt mtxt mpos mtka mtok mdig mnum mfau mrdm mrea mlin mlne mthg mord mbor mbsm mans mand manr mali) := by rw [emahf_u19]; exact hD
            obtain ⟨z20, ez20⟩ : ∃ y : Int32, y = y2_1 + 1 := ⟨_, rfl⟩
            have iz20 : z20.toInt = y2_1.toInt + 1 := by rw [ez20]; exact addC rfl rfl (by omega) (by omega)
            refine lv_iinc (v := z20) (lv' := [(1, .int z20), (0, .ref (b 39))]) hx hb dX10_lookAhead_60 hl (k := 1) rfl (by rw [ez20]; rfl) (by decide) rfl (fun ls hl => ?_)
            refine lv_goto (tgt := 2) hx hb dX10_lookAhead_63 (by decide) ?_
            exact ih2 z20 mahd_u10 mahf_u19 _ _ _ rmahd_u10 rmahf_u19 (by omega) (by omega) (by (first | exact la_step i2_2 (by assumption) (by assumption) (by omega) (by first | exact it_pos (by assumption) (by first | rfl | omega) | exact it_neg (by assumption) (by first | assumption | omega)) (by first | exact it_pos (by assumption) (by first | rfl | omega) | exact it_neg (by assumption) (by first | assumption | omega)) (by omega) | exact la_init (by first | rfl | omega))) (by omega) hP hD hS (lv_sub hl [1, 0] rfl)
          · have dc13 : (mgho y2_1.toNatClampNeg).toInt = (-1) := eqC rfl (show ((-1) : Int32).toInt = (-1) from rfl) c13
            refine lv_iconst (v := 0) hx hb dX10_lookAhead_49 (by decide) ?_
            refine lv_goto (tgt := 59) hx hb dX10_lookAhead_50 (by decide) ?_
            have b21 : vp_in y2_1 240 := inC rfl (by omega) (by omega)
            have g22 : rg 240 (0) (100) (upd mahf_2 y2_1.toNatClampNeg 0) := rg_upd r_mahf_2 (show (0 : Int32).toInt = 0 from rfl) (by omega) (by omega)
            refine va_iast hx hb hK hP hD hS 13 0 rfl rfl b21 dX10_lookAhead_59 (fun H locs hP hD hS => ?_)
            obtain ⟨mahf_u23, emahf_u23⟩ : ∃ f : Nat → Int32, f = upd mahf_2 y2_1.toNatClampNeg 0 := ⟨_, rfl⟩
            have rmahf_u23 : rg 240 (0) (100) mahf_u23 := by rw [emahf_u23]; exact g22
            have hP : va_P (dC, dI) vwCl (wMod cI cZ cQ b mday mdoo mdA mdB mfar mmar mtel mgai mfal mtop mstr mgho mfai mpto mwal mahd_u10 mahf_u23 mcho mbes mbyt mtxt mpos mtka mtok mdig mnum mfau mrdm mrea mlin mlne mthg mord mbor mbsm mans mand manr mali) H := by rw [emahf_u23]; exact hP
            have hD : va_D A (wMod cI cZ cQ b mday mdoo mdA mdB mfar mmar mtel mgai mfal mtop mstr mgho mfai mpto mwal mahd_u10 mahf_u23 mcho mbes mbyt mtxt mpos mtka mtok mdig mnum mfau mrdm mrea mlin mlne mthg mord mbor mbsm mans mand manr mali) := by rw [emahf_u23]; exact hD
            obtain ⟨z24, ez24⟩ : ∃ y : Int32, y = y2_1 + 1 := ⟨_, rfl⟩
            have iz24 : z24.toInt = y2_1.toInt + 1 := by rw [ez24]; exact addC rfl rfl (by omega) (by omega)
            refine lv_iinc (v := z24) (lv' := [(1, .int z24), (0, .ref (b 39))]) hx hb dX10_lookAhead_60 hl (k := 1) rfl (by rw [ez24]; rfl) (by decide) rfl (fun ls hl => ?_)
            refine lv_goto (tgt := 2) hx hb dX10_lookAhead_63 (by decide) ?_
            exact ih2 z24 mahd_u10 mahf_u23 _ _ _ rmahd_u10 rmahf_u23 (by omega) (by omega) (by (first | exact la_step i2_2 (by assumption) (by assumption) (by omega) (by first | exact it_pos (by assumption) (by first | rfl | omega) | exact it_neg (by assumption) (by first | assumption | omega)) (by first | exact it_pos (by assumption) (by first | rfl | omega) | exact it_neg (by assumption) (by first | assumption | omega)) (by omega) | exact la_init (by first | rfl | omega))) (by omega) hP hD hS (lv_sub hl [1, 0] rfl)
        · have dc4 : (mtop y2_1.toNatClampNeg).toInt = (-1) := eqC rfl (show ((-1) : Int32).toInt = (-1) from rfl) c4
          refine lv_iconst (v := 0) hx hb dX10_lookAhead_23 (by decide) ?_
          refine lv_goto (tgt := 33) hx hb dX10_lookAhead_24 (by decide) ?_
          have b25 : vp_in y2_1 240 := inC rfl (by omega) (by omega)
          have g26 : rg 240 (0) (100) (upd mahd_2 y2_1.toNatClampNeg 0) := rg_upd r_mahd_2 (show (0 : Int32).toInt = 0 from rfl) (by omega) (by omega)
          refine va_iast hx hb hK hP hD hS 12 0 rfl rfl b25 dX10_lookAhead_33 (fun H locs hP hD hS => ?_)
          obtain ⟨mahd_u27, emahd_u27⟩ : ∃ f : Nat → Int32, f = upd mahd_2 y2_1.toNatClampNeg 0 := ⟨_, rfl⟩
          have rmahd_u27 : rg 240 (0) (100) mahd_u27 := by rw [emahd_u27]; exact g26
          have hP : va_P (dC, dI) vwCl (wMod cI cZ cQ b mday mdoo mdA mdB mfar mmar mtel mgai mfal mtop mstr mgho mfai mpto mwal mahd_u27 mahf_2 mcho mbes mbyt mtxt mpos mtka mtok mdig mnum mfau mrdm mrea mlin mlne mthg mord mbor mbsm mans mand manr mali) H := by rw [emahd_u27]; exact hP
          have hD : va_D A (wMod cI cZ cQ b mday mdoo mdA mdB mfar mmar mtel mgai mfal mtop mstr mgho mfai mpto mwal mahd_u27 mahf_2 mcho mbes mbyt mtxt mpos mtka mtok mdig mnum mfau mrdm mrea mlin mlne mthg mord mbor mbsm mans mand manr mali) := by rw [emahd_u27]; exact hD
          refine lv_aload_n hx hb dX10_lookAhead_34 rfl (lv_at hl 0 rfl) ?_
          refine va_get (D := (dC, dI)) (ci := 10) (v := .ref (b 16)) (C := RX10) (T := TX10) (N := 39) hx hb hts inX10 hown hK hP 0 rfl rfl 16 (by decide) lf53 (fun _ h9 => h9) rfl dX10_lookAhead_35 ?_
          refine lv_iload_n hx hb dX10_lookAhead_38 rfl (lv_at hl 1 rfl) ?_
          refine lv_aload_n hx hb dX10_lookAhead_39 rfl (lv_at hl 0 rfl) ?_
          refine va_get (D := (dC, dI)) (ci := 10) (v := .ref (b 11)) (C := RX10) (T := TX10) (N := 39) hx hb hts inX10 hown hK hP 0 rfl rfl 11 (by decide) lf38 (fun _ h9 => h9) rfl dX10_lookAhead_40 ?_
          refine lv_iload_n hx hb dX10_lookAhead_43 rfl (lv_at hl 1 rfl) ?_
          have b28 : vp_in y2_1 48 := inC rfl (by omega) (by omega)
          refine va_iald hx hb hK hP 8 0 rfl rfl b28 dX10_lookAhead_44 ?_
          have g29 : -1 ≤ (mgho y2_1.toNatClampNeg).toInt ∧ (mgho y2_1.toNatClampNeg).toInt ≤ 23 := rg_at r_mgho b28
          refine lv_iconst (v := (-1)) hx hb dX10_lookAhead_45 (by decide) ?_
          refine lv_icmp_ne (tgt := 53) hx hb dX10_lookAhead_46 (by decide) (fun c30 => ?_) (fun c30 => ?_)
          · have dc30 : 0 ≤ (mgho y2_1.toNatClampNeg).toInt := ka_lo (by omega) (neC rfl (show ((-1) : Int32).toInt = (-1) from rfl) c30)
            refine lv_aload_n hx hb dX10_lookAhead_53 rfl (lv_at hl 0 rfl) ?_
            refine va_get (D := (dC, dI)) (ci := 10) (v := .ref (b 12)) (C := RX10) (T := TX10) (N := 39) hx hb hts inX10 hown hK hP 0 rfl rfl 12 (by decide) lf41 (fun _ h9 => h9) rfl dX10_lookAhead_54 ?_
            refine lv_iload_n hx hb dX10_lookAhead_57 rfl (lv_at hl 1 rfl) ?_
            have b31 : vp_in y2_1 48 := inC rfl (by omega) (by omega)
            refine va_iald hx hb hK hP 9 0 rfl rfl b31 dX10_lookAhead_58 ?_
            have g32 : 0 ≤ (mfai y2_1.toNatClampNeg).toInt ∧ (mfai y2_1.toNatClampNeg).toInt ≤ 100 := rg_at r_mfai b31
            refine lv_topi (fun x33 ex33 => ?_)
            have ix33 : x33.toInt = (mfai y2_1.toNatClampNeg).toInt := by rw [ex33]
            have b34 : vp_in y2_1 240 := inC rfl (by omega) (by omega)
            have g35 : rg 240 (0) (100) (upd mahf_2 y2_1.toNatClampNeg x33) := rg_upd r_mahf_2 rfl (by omega) (by omega)
            refine va_iast hx hb hK hP hD hS 13 0 rfl rfl b34 dX10_lookAhead_59 (fun H locs hP hD hS => ?_)
            obtain ⟨mahf_u36, emahf_u36⟩ : ∃ f : Nat → Int32, f = upd mahf_2 y2_1.toNatClampNeg x33 := ⟨_, rfl⟩
            have rmahf_u36 : rg 240 (0) (100) mahf_u36 := by rw [emahf_u36]; exact g35
            have hP : va_P (dC, dI) vwCl (wMod cI cZ cQ b mday mdoo mdA mdB mfar mmar mtel mgai mfal mtop mstr mgho mfai mpto mwal mahd_u27 mahf_u36 mcho mbes mbyt mtxt mpos mtka mtok mdig mnum mfau mrdm mrea mlin mlne mthg mord mbor mbsm mans mand manr mali) H := by rw [emahf_u36]; exact hP
            have hD : va_D A (wMod cI cZ cQ b mday mdoo mdA mdB mfar mmar mtel mgai mfal mtop mstr mgho mfai mpto mwal mahd_u27 mahf_u36 mcho mbes mbyt mtxt mpos mtka mtok mdig mnum mfau mrdm mrea mlin mlne mthg mord mbor mbsm mans mand manr mali) := by rw [emahf_u36]; exact hD
            obtain ⟨z37, ez37⟩ : ∃ y : Int32, y = y2_1 + 1 := ⟨_, rfl⟩
            have iz37 : z37.toInt = y2_1.toInt + 1 := by rw [ez37]; exact addC rfl rfl (by omega) (by omega)
            refine lv_iinc (v := z37) (lv' := [(1, .int z37), (0, .ref (b 39))]) hx hb dX10_lookAhead_60 hl (k := 1) rfl (by rw [ez37]; rfl) (by decide) rfl (fun ls hl => ?_)
            refine lv_goto (tgt := 2) hx hb dX10_lookAhead_63 (by decide) ?_
            exact ih2 z37 mahd_u27 mahf_u36 _ _ _ rmahd_u27 rmahf_u36 (by omega) (by omega) (by (first | exact la_step i2_2 (by assumption) (by assumption) (by omega) (by first | exact it_pos (by assumption) (by first | rfl | omega) | exact it_neg (by assumption) (by first | assumption | omega)) (by first | exact it_pos (by assumption) (by first | rfl | omega) | exact it_neg (by assumption) (by first | assumption | omega)) (by omega) | exact la_init (by first | rfl | omega))) (by omega) hP hD hS (lv_sub hl [1, 0] rfl)
          · have dc30 : (mgho y2_1.toNatClampNeg).toInt = (-1) := eqC rfl (show ((-1) : Int32).toInt = (-1) from rfl) c30
            refine lv_iconst (v := 0) hx hb dX10_lookAhead_49 (by decide) ?_
            refine lv_goto (tgt := 59) hx hb dX10_lookAhead_50 (by decide) ?_
            have b38 : vp_in y2_1 240 := inC rfl (by omega) (by omega)
            have g39 : rg 240 (0) (100) (upd mahf_2 y2_1.toNatClampNeg 0) := rg_upd r_mahf_2 (show (0 : Int32).toInt = 0 from rfl) (by omega) (by omega)
            refine va_iast hx hb hK hP hD hS 13 0 rfl rfl b38 dX10_lookAhead_59 (fun H locs hP hD hS => ?_)
            obtain ⟨mahf_u40, emahf_u40⟩ : ∃ f : Nat → Int32, f = upd mahf_2 y2_1.toNatClampNeg 0 := ⟨_, rfl⟩
            have rmahf_u40 : rg 240 (0) (100) mahf_u40 := by rw [emahf_u40]; exact g39
            have hP : va_P (dC, dI) vwCl (wMod cI cZ cQ b mday mdoo mdA mdB mfar mmar mtel mgai mfal mtop mstr mgho mfai mpto mwal mahd_u27 mahf_u40 mcho mbes mbyt mtxt mpos mtka mtok mdig mnum mfau mrdm mrea mlin mlne mthg mord mbor mbsm mans mand manr mali) H := by rw [emahf_u40]; exact hP
            have hD : va_D A (wMod cI cZ cQ b mday mdoo mdA mdB mfar mmar mtel mgai mfal mtop mstr mgho mfai mpto mwal mahd_u27 mahf_u40 mcho mbes mbyt mtxt mpos mtka mtok mdig mnum mfau mrdm mrea mlin mlne mthg mord mbor mbsm mans mand manr mali) := by rw [emahf_u40]; exact hD
            obtain ⟨z41, ez41⟩ : ∃ y : Int32, y = y2_1 + 1 := ⟨_, rfl⟩
            have iz41 : z41.toInt = y2_1.toInt + 1 := by rw [ez41]; exact addC rfl rfl (by omega) (by omega)
            refine lv_iinc (v := z41) (lv' := [(1, .int z41), (0, .ref (b 39))]) hx hb dX10_lookAhead_60 hl (k := 1) rfl (by rw [ez41]; rfl) (by decide) rfl (fun ls hl => ?_)
            refine lv_goto (tgt := 2) hx hb dX10_lookAhead_63 (by decide) ?_
            exact ih2 z41 mahd_u27 mahf_u40 _ _ _ rmahd_u27 rmahf_u40 (by omega) (by omega) (by (first | exact la_step i2_2 (by assumption) (by assumption) (by omega) (by first | exact it_pos (by assumption) (by first | rfl | omega) | exact it_neg (by assumption) (by first | assumption | omega)) (by first | exact it_pos (by assumption) (by first | rfl | omega) | exact it_neg (by assumption) (by first | assumption | omega)) (by omega) | exact la_init (by first | rfl | omega))) (by omega) hP hD hS (lv_sub hl [1, 0] rfl)
  have kc42 : (0 : Int32).toInt = 0 := rfl
  exact L2 _ 0 mahd mahf _ _ _ r_mahd r_mahf (by omega) (by omega) (by (first | exact la_init (by first | rfl | omega) | exact la_step i2_2 (by assumption) (by assumption) (by omega) (by first | exact it_pos (by assumption) (by first | rfl | omega) | exact it_neg (by assumption) (by first | assumption | omega)) (by first | exact it_pos (by assumption) (by first | rfl | omega) | exact it_neg (by assumption) (by first | assumption | omega)) (by omega))) (Nat.lt_succ_self _) hP hD hS (lv_sub hl [1, 0] rfl)
set_option maxHeartbeats 4000000 in
set_option maxRecDepth 100000 in
theorem k_X10_days2 (l : Launch) (dC : Nat → ClassId) (dI : Nat → Nat → Nat) (cI cZ cQ : ClassId) (b : Nat → Nat) (mday : Int32) (mdoo : Int32) (mdA : Nat → Int32) (mdB : Nat → Int32) (mfar : Nat → Int32) (mmar : Nat → Int32) (mtel : Int32) (mgai : Int32) (mfal : Nat → Int32) (mtop : Nat → Int32) (mstr : Nat → Int32) (mgho : Nat → Int32) (mfai : Nat → Int32) (mpto : Nat → Int32) (mwal : Nat → Int32) (mahd : Nat → Int32) (mahf : Nat → Int32) (mcho : Nat → Int32) (mbes : Nat → Int32) (mbyt : Int32) (mtxt : Nat → Int32) (mpos : Int32) (mtka : Int32) (mtok : Int64) (mdig : Int32) (mnum : Int32) (mfau : Int32) (mrdm : Int32) (mrea : Nat → Int32) (mlin : Int32) (mlne : Nat → Int32) (mthg : Nat → Int32) (mord : Nat → Int32) (mbor : Nat → Int32) (mbsm : Int32) (mans : Nat → Int32) (mand : Nat → Int32) (manr : Nat → Int32) (mali : Nat → Int32) (sz : Nat) (n : Int32) (r_mday : 0 ≤ mday.toInt ∧ mday.toInt ≤ 400) (r_mdoo : 0 ≤ mdoo.toInt ∧ mdoo.toInt ≤ 14) (r_mdA : rg 14 (0) (7) mdA) (r_mdB : rg 14 (0) (7) mdB) (r_mmar : rg 24 (0) (255) mmar) (r_mgai : 0 ≤ mgai.toInt ∧ mgai.toInt ≤ 100) (r_mfal : rg 11 (0) (30) mfal) (r_mtop : rg 48 (-1) (23) mtop) (r_mstr : rg 48 (0) (100) mstr) (r_mgho : rg 48 (-1) (23) mgho) (r_mfai : rg 48 (0) (100) mfai) (r_mahd : rg 240 (0) (100) mahd) (r_mahf : rg 240 (0) (100) mahf) (r_mcho : rg 5 (-1) (9) mcho) (r_mbyt : 0 ≤ mbyt.toInt ∧ mbyt.toInt ≤ 160) (r_mpos : 0 ≤ mpos.toInt ∧ mpos.toInt ≤ 160) (r_mrdm : 0 ≤ mrdm.toInt ∧ mrdm.toInt ≤ 10) (r_mlin : 0 ≤ mlin.toInt ∧ mlin.toInt ≤ 10) (r_mthg : rg 8 (0) (31) mthg) (r_mord : rg 8 (-1) (8) mord) (r_mans : rg 4 (0) (12) mans) : KW l yX10_days wsX10_days { frames := 3, cells := 0, slots := 0, locals := 73 } (dC, dI) (TY cI cZ cQ) (wMod cI cZ cQ b mday mdoo mdA mdB mfar mmar mtel mgai mfal mtop mstr mgho mfai mpto mwal mahd mahf mcho mbes mbyt mtxt mpos mtka mtok mdig mnum mfau mrdm mrea mlin mlne mthg mord mbor mbsm mans mand manr mali) [.ref (b 39), .int n] sz 0 0 (fun (r : Int32) (u : US) => (spDysM mmar mfal mtop mstr mgho mfai mtel mday n r (u.1 5 0) (u.1 2) (u.1 4) (u.1 3)) ∧ (rg 240 (0) (100) (u.1 0)) ∧ (rg 240 (0) (100) (u.1 1)) ∧ (rg 48 (0) (100) (u.1 2)) ∧ (rg 48 (0) (100) (u.1 3)) ∧ (rg 48 (-1) (23) (u.1 4)) ∧ (0 ≤ (u.1 5 0).toInt ∧ (u.1 5 0).toInt ≤ 400)) (fun u : US => (wMod cI cZ cQ b (u.1 5 0) mdoo mdA mdB mfar mmar mtel mgai mfal mtop (u.1 2) (u.1 4) (u.1 3) mpto mwal (u.1 0) (u.1 1) mcho mbes mbyt mtxt mpos mtka mtok mdig mnum mfau mrdm mrea mlin mlne mthg mord mbor mbsm mans mand manr mali)) := by
  refine Met.ofW (cc := cX10_days) (maxL := 3) (ret := (some .int)) (by decide) rfl ?_
  intro p e s m args below meth c s₁ B hml hv
  obtain ⟨rfl, hsz, hP, hK, hD0, hN⟩ := hv
  have hx := B.exec
  have hb := B.bytes
  have hr := B.returns
  have hts := atoms_spec (ws := wsX10_days) B.pre
  have hown : s.vm.findClass RX10 = some m.cls := findClass_of_methodNamed B.named
  have hlocks := B.notSynchronized
  have lf125 := hts (.fieldLink RX10 125 "PalaceOfRoomsModel" "day" "I") (List.mem_cons_of_mem _ (List.mem_append_left _ (List.mem_append_left _ (List.mem_of_getElem? (i := 0) rfl))))
  have inX10 : ∀ w ∈ wsX100, w ∈ wsX10_days := fun w h => List.mem_cons_of_mem _ (List.mem_append_right _ h)
  have lf35 := hts (.fieldLink RX10 35 "PalaceOfRoomsModel" "strength" "[I") (List.mem_cons_of_mem _ (List.mem_append_left _ (List.mem_append_left _ (List.mem_of_getElem? (i := 1) rfl))))
  have lf50 := hts (.fieldLink RX10 50 "PalaceOfRoomsModel" "ahead" "[I") (List.mem_cons_of_mem _ (List.mem_append_left _ (List.mem_append_left _ (List.mem_of_getElem? (i := 2) rfl))))
  have lf41 := hts (.fieldLink RX10 41 "PalaceOfRoomsModel" "faint" "[I") (List.mem_cons_of_mem _ (List.mem_append_left _ (List.mem_append_left _ (List.mem_of_getElem? (i := 3) rfl))))
  have lf53 := hts (.fieldLink RX10 53 "PalaceOfRoomsModel" "aheadFaint" "[I") (List.mem_cons_of_mem _ (List.mem_append_left _ (List.mem_append_left _ (List.mem_of_getElem? (i := 4) rfl))))
  have lf38 := hts (.fieldLink RX10 38 "PalaceOfRoomsModel" "ghost" "[I") (List.mem_cons_of_mem _ (List.mem_append_left _ (List.mem_append_left _ (List.mem_of_getElem? (i := 5) rfl))))
  subst hsz
  have hD := hD0.self (sz := s.heap.size)
  generalize hAe : va_A (wMod cI cZ cQ b mday mdoo mdA mdB mfar mmar mtel mgai mfal mtop mstr mgho mfai mpto mwal mahd mahf mcho mbes mbyt mtxt mpos mtka mtok mdig mnum mfau mrdm mrea mlin mlne mthg mord mbor mbsm mans mand manr mali) s.heap.size = A at hD ⊢
  have hA : ∀ q : Nat, s.heap.size ≤ q → A q := fun q h => by rw [← hAe]; exact Or.inr h
  have hS : va_S A s.heap s.heap [] := va_S.rf
  have hl := lv_entry ([.ref (b 39), .int n]) (n := 3) (Nat.le_of_ble_eq_true rfl)
  rw [lg_entry_eq]
  generalize (lg_sl ([.ref (b 39), .int n]) ++ List.replicate (3 - (lg_sl ([.ref (b 39), .int n])).length) Slot.unset).toArray = ls at hl ⊢
  have hl : lv_has ls 3 [(0, .ref (b 39)), (1, .int n)] := hl
  refine lv_iload_n hx hb dX10_days_0 rfl (lv_at hl 1 rfl) ?_
  refine lv_iconst (v := 1) hx hb dX10_days_1 (by decide) ?_
  refine lv_bipush (v := 60) hx hb dX10_days_2 (by decide) ?_
  refine rdS (As := [.int n, .int 1, .int 60]) (rest := []) ⟨hx, hb, hml, hown, hts⟩ (k_X10_in l dC dI cI cZ cQ n (1 : Int32) (60 : Int32)) (va_cwS 3 hts gX10_days_X10_in rfl rfl rfl (by decide +kernel) ⟨Nat.le_of_ble_eq_true rfl, Nat.le_of_ble_eq_true rfl⟩) hP hK hN [] rfl rfl hl.1 rfl (Nat.le_of_ble_eq_true rfl) dX10_days_4 ⟨Nat.le_of_ble_eq_true rfl, Nat.le_of_ble_eq_true rfl⟩ (fun r1 h2 => ?_)
  have h2 : ((((r1 = 1) ∧ ((1) ≤ n.toInt) ∧ (n.toInt ≤ (60))) ∨ ((r1 = 0) ∧ (n.toInt < (1) ∨ (60) < n.toInt)))) := h2
  rcases h2 with (⟨rfl, h2_a0, h2_a1⟩ | ⟨rfl, h2_a0⟩)
  · refine lv_if_eq (tgt := 22) hx hb dX10_days_7 (by decide) (fun c9 => absurd c9 (by decide)) (fun _ => ?_)
    refine lv_aload_n hx hb dX10_days_10 rfl (lv_at hl 0 rfl) ?_
    refine va_get (D := (dC, dI)) (ci := 10) (v := .int mday) (C := RX10) (T := TX10) (N := 39) hx hb hts inX10 hown hK hP 0 rfl rfl 0 (by decide) lf125 (fun _ h9 => h9) rfl dX10_days_11 ?_
    refine lv_iload_n hx hb dX10_days_14 rfl (lv_at hl 1 rfl) ?_
    refine lv_iadd hx hb dX10_days_15 ?_
    have f3 : (mday + n).toInt = (mday.toInt) + (n.toInt) := addC rfl rfl (by omega) (by omega)
    refine lv_sipush (v := 400) hx hb dX10_days_16 (by decide) ?_
    refine lv_icmp_le (tgt := 25) hx hb dX10_days_19 (by decide) (fun c4 => ?_) (fun c4 => ?_)
    · have dc4 : (mday.toInt) + (n.toInt) ≤ 400 := leC f3 (show (400 : Int32).toInt = 400 from rfl) c4
      refine lv_aload_n hx hb dX10_days_25 rfl (lv_at hl 0 rfl) ?_
      refine wvV (As := []) (rest := []) (wr := []) (w2 := (fun u : US => (wMod cI cZ cQ b mday mdoo mdA mdB mfar mmar mtel mgai mfal mtop mstr mgho mfai mpto mwal (u.1 0) (u.1 1) mcho mbes mbyt mtxt mpos mtka mtok mdig mnum mfau mrdm mrea mlin mlne mthg mord mbor mbsm mans mand manr mali))) ⟨hx, hb, hml, hown, hts⟩ (k_X10_lookAhead2 l dC dI cI cZ cQ b mday mdoo mdA mdB mfar mmar mtel mgai mfal mtop mstr mgho mfai mpto mwal mahd mahf mcho mbes mbyt mtxt mpos mtka mtok mdig mnum mfau mrdm mrea mlin mlne mthg mord mbor mbsm mans mand manr mali _ r_mday r_mdoo r_mdA r_mdB r_mmar r_mgai r_mfal r_mtop r_mstr r_mgho r_mfai r_mahd r_mahf r_mcho r_mbyt r_mpos r_mrdm r_mlin r_mthg r_mord r_mans) (cwV 0 hts gX10_days_X10_lookAhead rfl rfl rfl (by decide +kernel) ⟨Nat.le_of_ble_eq_true rfl, Nat.le_of_ble_eq_true rfl⟩) hP hD hS hA hK hN [0, 1, 2, 3, 4, 5, 6, 7, 8, 9, 10, 11, 12, 13, 14, 15, 16, 17, 18, 19, 20, 21, 22, 23, 24, 25] [] [0, 1, 2, 3, 4, 5, 6, 7, 8, 9, 10, 11, 12, 13, 14, 15, 16, 17, 18, 19, 20, 21, 22, 23, 24, 25] rfl rfl (by decide) (by decide) (by decide) (fun _ => rfl) (by decide) 0 10 rfl rfl rfl hl.1 rfl (Nat.le_of_ble_eq_true rfl) dX10_days_26 ⟨Nat.le_of_ble_eq_true rfl, Nat.le_of_ble_eq_true rfl⟩ (fun u7 H locs h6 hP hD hS => ?_)
      obtain ⟨mahd_c8, emahd_c8⟩ : ∃ f : Nat → Int32, f = (u7.1 0) := ⟨_, rfl⟩
      obtain ⟨mahf_c9, emahf_c9⟩ : ∃ f : Nat → Int32, f = (u7.1 1) := ⟨_, rfl⟩
      have hP : va_P (dC, dI) vwCl (wMod cI cZ cQ b mday mdoo mdA mdB mfar mmar mtel mgai mfal mtop mstr mgho mfai mpto mwal mahd_c8 mahf_c9 mcho mbes mbyt mtxt mpos mtka mtok mdig mnum mfau mrdm mrea mlin mlne mthg mord mbor mbsm mans mand manr mali) H := by rw [emahd_c8, emahf_c9]; exact hP
      have hD : va_D A (wMod cI cZ cQ b mday mdoo mdA mdB mfar mmar mtel mgai mfal mtop mstr mgho mfai mpto mwal mahd_c8 mahf_c9 mcho mbes mbyt mtxt mpos mtka mtok mdig mnum mfau mrdm mrea mlin mlne mthg mord mbor mbsm mans mand manr mali) := by rw [emahd_c8, emahf_c9]; exact hD
      have h6 : (laI mtop mstr mgho mfai 48 mahd_c8 mahf_c9) ∧ (rg 240 (0) (100) mahd_c8) ∧ (rg 240 (0) (100) mahf_c9) := by (try rw [emahd_c8]); (try rw [emahf_c9]); exact h6
      obtain ⟨h6_0, h6_1, h6_2⟩ := h6
      refine lv_iconst (v := 0) hx hb dX10_days_29 (by decide) ?_
      refine lv_istore_n (lv' := [(2, .int 0), (0, .ref (b 39)), (1, .int n)]) hx hb dX10_days_30 rfl hl (by decide) rfl (fun ls hl => ?_)
      have L31 : ∀ (nn : Nat) (y31_2 : Int32) (mahd_31 : Nat → Int32) (mahf_31 : Nat → Int32) (H : Heap) (locs : List Loc) (ls : Array Slot), (rg 240 (0) (100) mahd_31) → (rg 240 (0) (100) mahf_31) → (0 ≤ (y31_2.toInt)) → ((y31_2.toInt) ≤ 60) → (laS mfal mmar mtop mstr mgho mfai mtel ((y31_2.toInt)).toNat mahd_31 mahf_31) → ((y31_2.toInt) ≤ n.toInt) → (60 - (y31_2.toInt)).toNat < nn → va_P (dC, dI) vwCl (wMod cI cZ cQ b mday mdoo mdA mdB mfar mmar mtel mgai mfal mtop mstr mgho mfai mpto mwal mahd_31 mahf_31 mcho mbes mbyt mtxt mpos mtka mtok mdig mnum mfau mrdm mrea mlin mlne mthg mord mbor mbsm mans mand manr mali) H → va_D A (wMod cI cZ cQ b mday mdoo mdA mdB mfar mmar mtel mgai mfal mtop mstr mgho mfai mpto mwal mahd_31 mahf_31 mcho mbes mbyt mtxt mpos mtka mtok mdig mnum mfau mrdm mrea mlin mlne mthg mord mbor mbsm mans mand manr mali) → va_S A s.heap H locs → lv_has ls 3 [(0, .ref (b 39)), (1, .int n), (2, .int y31_2)] → W p l e (headSpec wsX10_days { frames := 3, cells := 0, slots := 0, locals := 73 }).room s m ([.ref (b 39), .int n] : List Value).toArray below meth c H locs 0 0 (MQ below (va_Qi (fun (r : Int32) (u : US) => (spDysM mmar mfal mtop mstr mgho mfai mtel mday n r (u.1 5 0) (u.1 2) (u.1 4) (u.1 3)) ∧ (rg 240 (0) (100) (u.1 0)) ∧ (rg 240 (0) (100) (u.1 1)) ∧ (rg 48 (0) (100) (u.1 2)) ∧ (rg 48 (0) (100) (u.1 3)) ∧ (rg 48 (-1) (23) (u.1 4)) ∧ (0 ≤ (u.1 5 0).toInt ∧ (u.1 5 0).toInt ≤ 400)) (Bw (dC, dI) A (fun u : US => (wMod cI cZ cQ b (u.1 5 0) mdoo mdA mdB mfar mmar mtel mgai mfal mtop (u.1 2) (u.1 4) (u.1 3) mpto mwal (u.1 0) (u.1 1) mcho mbes mbyt mtxt mpos mtka mtok mdig mnum mfau mrdm mrea mlin mlne mthg mord mbor mbsm mans mand manr mali))) A) ([.ref (b 39), .int n] : List Value).toArray s 0 0 A) (F0 m 31 ls []) := by
        intro nn
        induction nn with
        | zero =>
          intro y31_2 mahd_31 mahf_31 H locs ls r_mahd_31 r_mahf_31 i31_0 i31_1 i31_2 i31_3 hm31
          exact absurd hm31 (Nat.not_lt_zero _)
        | succ nn ih31 =>
          intro y31_2 mahd_31 mahf_31 H locs ls r_mahd_31 r_mahf_31 i31_0 i31_1 i31_2 i31_3 hm31 hP hD hS hl
          refine lv_iload_n hx hb dX10_days_31 rfl (lv_at hl 2 rfl) ?_
          refine lv_iload_n hx hb dX10_days_32 rfl (lv_at hl 1 rfl) ?_
          refine lv_icmp_ge (tgt := 48) hx hb dX10_days_33 (by decide) (fun c10 => ?_) (fun c10 => ?_)
          · have dc10 : n.toInt ≤ y31_2.toInt := leC rfl rfl c10
            refine lv_iconst (v := 0) hx hb dX10_days_48 (by decide) ?_
            refine lv_istore_n (lv' := [(2, .int 0), (0, .ref (b 39)), (1, .int n)]) hx hb dX10_days_49 rfl hl (by decide) rfl (fun ls hl => ?_)
            have L50 : ∀ (nn : Nat) (y50_2 : Int32) (mstr_50 : Nat → Int32) (mfai_50 : Nat → Int32) (mgho_50 : Nat → Int32) (H : Heap) (locs : List Loc) (ls : Array Slot), (rg 48 (0) (100) mstr_50) → (rg 48 (0) (100) mfai_50) → (rg 48 (-1) (23) mgho_50) → (0 ≤ (y50_2.toInt)) → ((y50_2.toInt) ≤ 48) → (dyI mgho mahd_31 mahf_31 (y50_2.toInt) mstr_50 mfai_50 mgho_50) → (48 - (y50_2.toInt)).toNat < nn → va_P (dC, dI) vwCl (wMod cI cZ cQ b mday mdoo mdA mdB mfar mmar mtel mgai mfal mtop mstr_50 mgho_50 mfai_50 mpto mwal mahd_31 mahf_31 mcho mbes mbyt mtxt mpos mtka mtok mdig mnum mfau mrdm mrea mlin mlne mthg mord mbor mbsm mans mand manr mali) H → va_D A (wMod cI cZ cQ b mday mdoo mdA mdB mfar mmar mtel mgai mfal mtop mstr_50 mgho_50 mfai_50 mpto mwal mahd_31 mahf_31 mcho mbes mbyt mtxt mpos mtka mtok mdig mnum mfau mrdm mrea mlin mlne mthg mord mbor mbsm mans mand manr mali) → va_S A s.heap H locs → lv_has ls 3 [(0, .ref (b 39)), (1, .int n), (2, .int y50_2)] → W p l e (headSpec wsX10_days { frames := 3, cells := 0, slots := 0, locals := 73 }).room s m ([.ref (b 39), .int n] : List Value).toArray below meth c H locs 0 0 (MQ below (va_Qi (fun (r : Int32) (u : US) => (spDysM mmar mfal mtop mstr mgho mfai mtel mday n r (u.1 5 0) (u.1 2) (u.1 4) (u.1 3)) ∧ (rg 240 (0) (100) (u.1 0)) ∧ (rg 240 (0) (100) (u.1 1)) ∧ (rg 48 (0) (100) (u.1 2)) ∧ (rg 48 (0) (100) (u.1 3)) ∧ (rg 48 (-1) (23) (u.1 4)) ∧ (0 ≤ (u.1 5 0).toInt ∧ (u.1 5 0).toInt ≤ 400)) (Bw (dC, dI) A (fun u : US => (wMod cI cZ cQ b (u.1 5 0) mdoo mdA mdB mfar mmar mtel mgai mfal mtop (u.1 2) (u.1 4) (u.1 3) mpto mwal (u.1 0) (u.1 1) mcho mbes mbyt mtxt mpos mtka mtok mdig mnum mfau mrdm mrea mlin mlne mthg mord mbor mbsm mans mand manr mali))) A) ([.ref (b 39), .int n] : List Value).toArray s 0 0 A) (F0 m 50 ls []) := by
              intro nn
              induction nn with
              | zero =>
                intro y50_2 mstr_50 mfai_50 mgho_50 H locs ls r_mstr_50 r_mfai_50 r_mgho_50 i50_0 i50_1 i50_2 hm50
                exact absurd hm50 (Nat.not_lt_zero _)
              | succ nn ih50 =>
                intro y50_2 mstr_50 mfai_50 mgho_50 H locs ls r_mstr_50 r_mfai_50 r_mgho_50 i50_0 i50_1 i50_2 hm50 hP hD hS hl
                refine lv_iload_n hx hb dX10_days_50 rfl (lv_at hl 2 rfl) ?_
                refine lv_bipush (v := 48) hx hb dX10_days_51 (by decide) ?_
                refine lv_icmp_ge (tgt := 111) hx hb dX10_days_53 (by decide) (fun c11 => ?_) (fun c11 => ?_)
                · have dc11 : 48 ≤ y50_2.toInt := leC (show (48 : Int32).toInt = 48 from rfl) rfl c11
                  refine lv_aload_n hx hb dX10_days_111 rfl (lv_at hl 0 rfl) ?_
                  refine lv_dup hx hb dX10_days_112 rfl ?_
                  refine va_get (D := (dC, dI)) (ci := 10) (v := .int mday) (C := RX10) (T := TX10) (N := 39) hx hb hts inX10 hown hK hP 0 rfl rfl 0 (by decide) lf125 (fun _ h9 => h9) rfl dX10_days_113 ?_
                  refine lv_iload_n hx hb dX10_days_116 rfl (lv_at hl 1 rfl) ?_
                  refine lv_iadd hx hb dX10_days_117 ?_
                  have f12 : (mday + n).toInt = (mday.toInt) + (n.toInt) := addC rfl rfl (by omega) (by omega)
                  refine lv_topi (fun x13 ex13 => ?_)
                  have ix13 : x13.toInt = (mday.toInt) + (n.toInt) := by rw [ex13]; exact f12
                  refine va_put (D := (dC, dI)) (ci := 10) (v := .int x13) (ty := .int) (C := RX10) (T := TX10) (N := 39) hx hb hts inX10 tyX10 tyX10_ok nmX10 hown hK hP hD hS 0 rfl rfl 0 (by decide) lf125 (fun _ h9 => h9) rfl (by decide +kernel) rfl rfl (Nat.le_of_ble_eq_true rfl) dX10_days_118 (fun H locs hP hD hS => ?_)
                  have g14 : 0 ≤ x13.toInt ∧ x13.toInt ≤ 400 := by rw [show x13.toInt = x13.toInt from rfl]; exact ⟨by omega, by omega⟩
                  have hP : va_P (dC, dI) vwCl (wMod cI cZ cQ b x13 mdoo mdA mdB mfar mmar mtel mgai mfal mtop mstr_50 mgho_50 mfai_50 mpto mwal mahd_31 mahf_31 mcho mbes mbyt mtxt mpos mtka mtok mdig mnum mfau mrdm mrea mlin mlne mthg mord mbor mbsm mans mand manr mali) H := hP
                  have hD : va_D A (wMod cI cZ cQ b x13 mdoo mdA mdB mfar mmar mtel mgai mfal mtop mstr_50 mgho_50 mfai_50 mpto mwal mahd_31 mahf_31 mcho mbes mbyt mtxt mpos mtka mtok mdig mnum mfau mrdm mrea mlin mlne mthg mord mbor mbsm mans mand manr mali) := hD
                  refine lv_aload_n hx hb dX10_days_121 rfl (lv_at hl 0 rfl) ?_
                  refine va_get (D := (dC, dI)) (ci := 10) (v := .int x13) (C := RX10) (T := TX10) (N := 39) hx hb hts inX10 hown hK hP 0 rfl rfl 0 (by decide) lf125 (fun _ h9 => h9) rfl dX10_days_122 ?_
                  exact W.iret (v := x13) hx hb hr (fun tq ht hW => ⟨⟨x13, (uS [mahd_31, mahf_31, mstr_50, mfai_50, mgho_50, (fun _ => x13)] 0 (fun _ => 0)), rfl, ⟨(show spDysM mmar mfal mtop mstr mgho mfai mtel mday n x13 x13 mstr_50 mgho_50 mfai_50 from by (first | exact ⟨Or.inr ⟨by omega, rfl, rfl⟩, Or.inl ⟨by omega, rfl, rfl, rfl⟩⟩ | exact ⟨Or.inl ⟨by omega, by assumption, by assumption⟩, Or.inr ⟨by omega, dy_end i31_2 i50_2 (by omega) (by omega)⟩⟩)), r_mahd_31, r_mahf_31, r_mstr_50, r_mfai_50, r_mgho_50, g14⟩, by rw [ht]; exact hP, hD⟩, hS.F ht⟩) hS.2.2 dX10_days_125
                · have dc11 : y50_2.toInt < 48 := nleC (show (48 : Int32).toInt = 48 from rfl) rfl c11
                  refine lv_aload_n hx hb dX10_days_56 rfl (lv_at hl 0 rfl) ?_
                  refine va_get (D := (dC, dI)) (ci := 10) (v := .ref (b 10)) (C := RX10) (T := TX10) (N := 39) hx hb hts inX10 hown hK hP 0 rfl rfl 10 (by decide) lf35 (fun _ h9 => h9) rfl dX10_days_57 ?_
                  refine lv_iload_n hx hb dX10_days_60 rfl (lv_at hl 2 rfl) ?_
                  refine lv_aload_n hx hb dX10_days_61 rfl (lv_at hl 0 rfl) ?_
                  refine va_get (D := (dC, dI)) (ci := 10) (v := .ref (b 15)) (C := RX10) (T := TX10) (N := 39) hx hb hts inX10 hown hK hP 0 rfl rfl 15 (by decide) lf50 (fun _ h9 => h9) rfl dX10_days_62 ?_
                  refine lv_iload_n hx hb dX10_days_65 rfl (lv_at hl 2 rfl) ?_
                  have b15 : vp_in y50_2 240 := inC rfl (by omega) (by omega)
                  refine va_iald hx hb hK hP 12 0 rfl rfl b15 dX10_days_66 ?_
                  have g16 : 0 ≤ (mahd_31 y50_2.toNatClampNeg).toInt ∧ (mahd_31 y50_2.toNatClampNeg).toInt ≤ 100 := rg_at r_mahd_31 b15
                  refine lv_topi (fun x17 ex17 => ?_)
                  have ix17 : x17.toInt = (mahd_31 y50_2.toNatClampNeg).toInt := by rw [ex17]
                  have b18 : vp_in y50_2 48 := inC rfl (by omega) (by omega)
                  have g19 : rg 48 (0) (100) (upd mstr_50 y50_2.toNatClampNeg x17) := rg_upd r_mstr_50 rfl (by omega) (by omega)
                  refine va_iast hx hb hK hP hD hS 7 0 rfl rfl b18 dX10_days_67 (fun H locs hP hD hS => ?_)
                  obtain ⟨mstr_u20, emstr_u20⟩ : ∃ f : Nat → Int32, f = upd mstr_50 y50_2.toNatClampNeg x17 := ⟨_, rfl⟩
                  have rmstr_u20 : rg 48 (0) (100) mstr_u20 := by rw [emstr_u20]; exact g19
                  have hP : va_P (dC, dI) vwCl (wMod cI cZ cQ b mday mdoo mdA mdB mfar mmar mtel mgai mfal mtop mstr_u20 mgho_50 mfai_50 mpto mwal mahd_31 mahf_31 mcho mbes mbyt mtxt mpos mtka mtok mdig mnum mfau mrdm mrea mlin mlne mthg mord mbor mbsm mans mand manr mali) H := by rw [emstr_u20]; exact hP
                  have hD : va_D A (wMod cI cZ cQ b mday mdoo mdA mdB mfar mmar mtel mgai mfal mtop mstr_u20 mgho_50 mfai_50 mpto mwal mahd_31 mahf_31 mcho mbes mbyt mtxt mpos mtka mtok mdig mnum mfau mrdm mrea mlin mlne mthg mord mbor mbsm mans mand manr mali) := by rw [emstr_u20]; exact hD
                  refine lv_aload_n hx hb dX10_days_68 rfl (lv_at hl 0 rfl) ?_
                  refine va_get (D := (dC, dI)) (ci := 10) (v := .ref (b 12)) (C := RX10) (T := TX10) (N := 39) hx hb hts inX10 hown hK hP 0 rfl rfl 12 (by decide) lf41 (fun _ h9 => h9) rfl dX10_days_69 ?_
                  refine lv_iload_n hx hb dX10_days_72 rfl (lv_at hl 2 rfl) ?_
                  refine lv_aload_n hx hb dX10_days_73 rfl (lv_at hl 0 rfl) ?_
                  refine va_get (D := (dC, dI)) (ci := 10) (v := .ref (b 16)) (C := RX10) (T := TX10) (N := 39) hx hb hts inX10 hown hK hP 0 rfl rfl 16 (by decide) lf53 (fun _ h9 => h9) rfl dX10_days_74 ?_
                  refine lv_iload_n hx hb dX10_days_77 rfl (lv_at hl 2 rfl) ?_
                  have b21 : vp_in y50_2 240 := inC rfl (by omega) (by omega)
                  refine va_iald hx hb hK hP 13 0 rfl rfl b21 dX10_days_78 ?_
                  have g22 : 0 ≤ (mahf_31 y50_2.toNatClampNeg).toInt ∧ (mahf_31 y50_2.toNatClampNeg).toInt ≤ 100 := rg_at r_mahf_31 b21
                  refine lv_topi (fun x23 ex23 => ?_)
                  have ix23 : x23.toInt = (mahf_31 y50_2.toNatClampNeg).toInt := by rw [ex23]
                  have b24 : vp_in y50_2 48 := inC rfl (by omega) (by omega)
                  have g25 : rg 48 (0) (100) (upd mfai_50 y50_2.toNatClampNeg x23) := rg_upd r_mfai_50 rfl (by omega) (by omega)
                  refine va_iast hx hb hK hP hD hS 9 0 rfl rfl b24 dX10_days_79 (fun H locs hP hD hS => ?_)
                  obtain ⟨mfai_u26, emfai_u26⟩ : ∃ f : Nat → Int32, f = upd mfai_50 y50_2.toNatClampNeg x23 := ⟨_, rfl⟩
                  have rmfai_u26 : rg 48 (0) (100) mfai_u26 := by rw [emfai_u26]; exact g25
                  have hP : va_P (dC, dI) vwCl (wMod cI cZ cQ b mday mdoo mdA mdB mfar mmar mtel mgai mfal mtop mstr_u20 mgho_50 mfai_u26 mpto mwal mahd_31 mahf_31 mcho mbes mbyt mtxt mpos mtka mtok mdig mnum mfau mrdm mrea mlin mlne mthg mord mbor mbsm mans mand manr mali) H := by rw [emfai_u26]; exact hP
                  have hD : va_D A (wMod cI cZ cQ b mday mdoo mdA mdB mfar mmar mtel mgai mfal mtop mstr_u20 mgho_50 mfai_u26 mpto mwal mahd_31 mahf_31 mcho mbes mbyt mtxt mpos mtka mtok mdig mnum mfau mrdm mrea mlin mlne mthg mord mbor mbsm mans mand manr mali) := by rw [emfai_u26]; exact hD
                  refine lv_aload_n hx hb dX10_days_80 rfl (lv_at hl 0 rfl) ?_
                  refine va_get (D := (dC, dI)) (ci := 10) (v := .ref (b 11)) (C := RX10) (T := TX10) (N := 39) hx hb hts inX10 hown hK hP 0 rfl rfl 11 (by decide) lf38 (fun _ h9 => h9) rfl dX10_days_81 ?_
                  refine lv_iload_n hx hb dX10_days_84 rfl (lv_at hl 2 rfl) ?_
                  refine lv_aload_n hx hb dX10_days_85 rfl (lv_at hl 0 rfl) ?_
                  refine va_get (D := (dC, dI)) (ci := 10) (v := .ref (b 12)) (C := RX10) (T := TX10) (N := 39) hx hb hts inX10 hown hK hP 0 rfl rfl 12 (by decide) lf41 (fun _ h9 => h9) rfl dX10_days_86 ?_
                  refine lv_iload_n hx hb dX10_days_89 rfl (lv_at hl 2 rfl) ?_
                  have b27 : vp_in y50_2 48 := inC rfl (by omega) (by omega)
                  refine va_iald hx hb hK hP 9 0 rfl rfl b27 dX10_days_90 ?_
                  have g28 : 0 ≤ (mfai_u26 y50_2.toNatClampNeg).toInt ∧ (mfai_u26 y50_2.toNatClampNeg).toInt ≤ 100 := rg_at rmfai_u26 b27
                  have o29 : (mfai_u26 y50_2.toNatClampNeg).toInt = x23.toInt := by rw [emfai_u26, pk_us]
                  refine lv_if_ne (tgt := 98) hx hb dX10_days_91 (by decide) (fun c30 => ?_) (fun c30 => ?_)
                  · have dc30 : 1 ≤ (mfai_u26 y50_2.toNatClampNeg).toInt := ka_lo (by omega) (neC rfl (show (0 : Int32).toInt = 0 from rfl) c30)
                    refine lv_aload_n hx hb dX10_days_98 rfl (lv_at hl 0 rfl) ?_
                    refine va_get (D := (dC, dI)) (ci := 10) (v := .ref (b 11)) (C := RX10) (T := TX10) (N := 39) hx hb hts inX10 hown hK hP 0 rfl rfl 11 (by decide) lf38 (fun _ h9 => h9) rfl dX10_days_99 ?_
                    refine lv_iload_n hx hb dX10_days_102 rfl (lv_at hl 2 rfl) ?_
                    have b31 : vp_in y50_2 48 := inC rfl (by omega) (by omega)
                    refine va_iald hx hb hK hP 8 0 rfl rfl b31 dX10_days_103 ?_
                    have g32 : -1 ≤ (mgho_50 y50_2.toNatClampNeg).toInt ∧ (mgho_50 y50_2.toNatClampNeg).toInt ≤ 23 := rg_at r_mgho_50 b31
                    refine lv_topi (fun x33 ex33 => ?_)
                    have ix33 : x33.toInt = (mgho_50 y50_2.toNatClampNeg).toInt := by rw [ex33]
                    have b34 : vp_in y50_2 48 := inC rfl (by omega) (by omega)
                    have g35 : rg 48 (-1) (23) (upd mgho_50 y50_2.toNatClampNeg x33) := rg_upd r_mgho_50 rfl (by omega) (by omega)
                    refine va_iast hx hb hK hP hD hS 8 0 rfl rfl b34 dX10_days_104 (fun H locs hP hD hS => ?_)
                    obtain ⟨mgho_u36, emgho_u36⟩ : ∃ f : Nat → Int32, f = upd mgho_50 y50_2.toNatClampNeg x33 := ⟨_, rfl⟩
                    have rmgho_u36 : rg 48 (-1) (23) mgho_u36 := by rw [emgho_u36]; exact g35
                    have hP : va_P (dC, dI) vwCl (wMod cI cZ cQ b mday mdoo mdA mdB mfar mmar mtel mgai mfal mtop mstr_u20 mgho_u36 mfai_u26 mpto mwal mahd_31 mahf_31 mcho mbes mbyt mtxt mpos mtka mtok mdig mnum mfau mrdm mrea mlin mlne mthg mord mbor mbsm mans mand manr mali) H := by rw [emgho_u36]; exact hP
                    have hD : va_D A (wMod cI cZ cQ b mday mdoo mdA mdB mfar mmar mtel mgai mfal mtop mstr_u20 mgho_u36 mfai_u26 mpto mwal mahd_31 mahf_31 mcho mbes mbyt mtxt mpos mtka mtok mdig mnum mfau mrdm mrea mlin mlne mthg mord mbor mbsm mans mand manr mali) := by rw [emgho_u36]; exact hD
                    obtain ⟨z37, ez37⟩ : ∃ y : Int32, y = y50_2 + 1 := ⟨_, rfl⟩
                    have iz37 : z37.toInt = y50_2.toInt + 1 := by rw [ez37]; exact addC rfl rfl (by omega) (by omega)
                    refine lv_iinc (v := z37) (lv' := [(2, .int z37), (0, .ref (b 39)), (1, .int n)]) hx hb dX10_days_105 hl (k := 2) rfl (by rw [ez37]; rfl) (by decide) rfl (fun ls hl => ?_)
                    refine lv_goto (tgt := 50) hx hb dX10_days_108 (by decide) ?_
                    exact ih50 z37 mstr_u20 mfai_u26 mgho_u36 _ _ _ rmstr_u20 rmfai_u26 rmgho_u36 (by omega) (by omega) (by (first | exact dy_step i50_2 (by assumption) (by assumption) (by assumption) (by assumption) (by assumption) (by omega) (by omega) (by first | exact Or.inl ⟨by omega, rfl⟩ | exact Or.inr ⟨by omega, by assumption⟩) (by omega) | exact dy_init (by first | rfl | omega))) (by omega) hP hD hS (lv_sub hl [1, 2, 0] rfl)
                  · have dc30 : (mfai_u26 y50_2.toNatClampNeg).toInt = 0 := eqC rfl (show (0 : Int32).toInt = 0 from rfl) c30
                    refine lv_iconst (v := (-1)) hx hb dX10_days_94 (by decide) ?_
                    refine lv_goto (tgt := 104) hx hb dX10_days_95 (by decide) ?_
                    have b38 : vp_in y50_2 48 := inC rfl (by omega) (by omega)
                    have g39 : rg 48 (-1) (23) (upd mgho_50 y50_2.toNatClampNeg (-1)) := rg_upd r_mgho_50 (show ((-1) : Int32).toInt = (-1) from rfl) (by omega) (by omega)
                    refine va_iast hx hb hK hP hD hS 8 0 rfl rfl b38 dX10_days_104 (fun H locs hP hD hS => ?_)
                    obtain ⟨mgho_u40, emgho_u40⟩ : ∃ f : Nat → Int32, f = upd mgho_50 y50_2.toNatClampNeg (-1) := ⟨_, rfl⟩
                    have rmgho_u40 : rg 48 (-1) (23) mgho_u40 := by rw [emgho_u40]; exact g39
                    have hP : va_P (dC, dI) vwCl (wMod cI cZ cQ b mday mdoo mdA mdB mfar mmar mtel mgai mfal mtop mstr_u20 mgho_u40 mfai_u26 mpto mwal mahd_31 mahf_31 mcho mbes mbyt mtxt mpos mtka mtok mdig mnum mfau mrdm mrea mlin mlne mthg mord mbor mbsm mans mand manr mali) H := by rw [emgho_u40]; exact hP
                    have hD : va_D A (wMod cI cZ cQ b mday mdoo mdA mdB mfar mmar mtel mgai mfal mtop mstr_u20 mgho_u40 mfai_u26 mpto mwal mahd_31 mahf_31 mcho mbes mbyt mtxt mpos mtka mtok mdig mnum mfau mrdm mrea mlin mlne mthg mord mbor mbsm mans mand manr mali) := by rw [emgho_u40]; exact hD
                    obtain ⟨z41, ez41⟩ : ∃ y : Int32, y = y50_2 + 1 := ⟨_, rfl⟩
                    have iz41 : z41.toInt = y50_2.toInt + 1 := by rw [ez41]; exact addC rfl rfl (by omega) (by omega)
                    refine lv_iinc (v := z41) (lv' := [(2, .int z41), (0, .ref (b 39)), (1, .int n)]) hx hb dX10_days_105 hl (k := 2) rfl (by rw [ez41]; rfl) (by decide) rfl (fun ls hl => ?_)
                    refine lv_goto (tgt := 50) hx hb dX10_days_108 (by decide) ?_
                    exact ih50 z41 mstr_u20 mfai_u26 mgho_u40 _ _ _ rmstr_u20 rmfai_u26 rmgho_u40 (by omega) (by omega) (by (first | exact dy_step i50_2 (by assumption) (by assumption) (by assumption) (by assumption) (by assumption) (by omega) (by omega) (by first | exact Or.inl ⟨by omega, rfl⟩ | exact Or.inr ⟨by omega, by assumption⟩) (by omega) | exact dy_init (by first | rfl | omega))) (by omega) hP hD hS (lv_sub hl [1, 2, 0] rfl)
            have kc42 : (0 : Int32).toInt = 0 := rfl
            exact L50 _ 0 mstr mfai mgho _ _ _ r_mstr r_mfai r_mgho (by omega) (by omega) (by (first | exact dy_init (by first | rfl | omega) | exact dy_step i50_2 (by assumption) (by assumption) (by assumption) (by assumption) (by assumption) (by omega) (by omega) (by first | exact Or.inl ⟨by omega, rfl⟩ | exact Or.inr ⟨by omega, by assumption⟩) (by omega))) (Nat.lt_succ_self _) hP hD hS (lv_sub hl [1, 2, 0] rfl)
          · have dc10 : y31_2.toInt < n.toInt := nleC rfl rfl c10
            refine lv_aload_n hx hb dX10_days_36 rfl (lv_at hl 0 rfl) ?_
            refine lv_iconst (v := 0) hx hb dX10_days_37 (by decide) ?_
            refine lv_iconst (v := 0) hx hb dX10_days_38 (by decide) ?_
            have kc0 : (0 : Int32).toInt = 0 := rfl
            refine wvV (As := [.int 0, .int 0]) (rest := []) (wr := []) (w2 := (fun u : US => (wMod cI cZ cQ b mday mdoo mdA mdB mfar mmar mtel mgai mfal mtop mstr mgho mfai mpto mwal (u.1 0) (u.1 1) mcho mbes mbyt mtxt mpos mtka mtok mdig mnum mfau mrdm mrea mlin mlne mthg mord mbor mbsm mans mand manr mali))) ⟨hx, hb, hml, hown, hts⟩ (k_X10_goDay2 l dC dI cI cZ cQ b mday mdoo mdA mdB mfar mmar mtel mgai mfal mtop mstr mgho mfai mpto mwal mahd_31 mahf_31 mcho mbes mbyt mtxt mpos mtka mtok mdig mnum mfau mrdm mrea mlin mlne mthg mord mbor mbsm mans mand manr mali _ (0 : Int32) (0 : Int32) r_mday r_mdoo r_mdA r_mdB r_mmar r_mgai r_mfal r_mtop r_mstr r_mgho r_mfai r_mahd_31 r_mahf_31 r_mcho r_mbyt r_mpos r_mrdm r_mlin r_mthg r_mord r_mans (by omega) (by omega) (by omega) (by omega) (by omega)) (cwV 2 hts gX10_days_X10_goDay rfl rfl rfl (by decide +kernel) ⟨Nat.le_of_ble_eq_true rfl, Nat.le_of_ble_eq_true rfl⟩) hP hD hS hA hK hN [0, 1, 2, 3, 4, 5, 6, 7, 8, 9, 10, 11, 12, 13, 14, 15, 16, 17, 18, 19, 20, 21, 22, 23, 24, 25] [] [0, 1, 2, 3, 4, 5, 6, 7, 8, 9, 10, 11, 12, 13, 14, 15, 16, 17, 18, 19, 20, 21, 22, 23, 24, 25] rfl rfl (by decide) (by decide) (by decide) (fun _ => rfl) (by decide) 0 10 rfl rfl rfl hl.1 rfl (Nat.le_of_ble_eq_true rfl) dX10_days_39 ⟨Nat.le_of_ble_eq_true rfl, Nat.le_of_ble_eq_true rfl⟩ (fun u45 H locs h44 hP hD hS => ?_)
            obtain ⟨mahd_c46, emahd_c46⟩ : ∃ f : Nat → Int32, f = (u45.1 0) := ⟨_, rfl⟩
            obtain ⟨mahf_c47, emahf_c47⟩ : ∃ f : Nat → Int32, f = (u45.1 1) := ⟨_, rfl⟩
            have hP : va_P (dC, dI) vwCl (wMod cI cZ cQ b mday mdoo mdA mdB mfar mmar mtel mgai mfal mtop mstr mgho mfai mpto mwal mahd_c46 mahf_c47 mcho mbes mbyt mtxt mpos mtka mtok mdig mnum mfau mrdm mrea mlin mlne mthg mord mbor mbsm mans mand manr mali) H := by rw [emahd_c46, emahf_c47]; exact hP
            have hD : va_D A (wMod cI cZ cQ b mday mdoo mdA mdB mfar mmar mtel mgai mfal mtop mstr mgho mfai mpto mwal mahd_c46 mahf_c47 mcho mbes mbyt mtxt mpos mtka mtok mdig mnum mfau mrdm mrea mlin mlne mthg mord mbor mbsm mans mand manr mali) := by rw [emahd_c46, emahf_c47]; exact hD
            have h44 : (gdS mfal mmar mtop mtel (0) 48 mahd_31 mahf_31 mahd_c46 mahf_c47) ∧ (rg 240 (0) (100) mahd_c46) ∧ (rg 240 (0) (100) mahf_c47) := by (try rw [emahd_c46]); (try rw [emahf_c47]); exact h44
            obtain ⟨h44_0, h44_1, h44_2⟩ := h44
            obtain ⟨z48, ez48⟩ : ∃ y : Int32, y = y31_2 + 1 := ⟨_, rfl⟩
            have iz48 : z48.toInt = y31_2.toInt + 1 := by rw [ez48]; exact addC rfl rfl (by omega) (by omega)
            refine lv_iinc (v := z48) (lv' := [(2, .int z48), (0, .ref (b 39)), (1, .int n)]) hx hb dX10_days_42 hl (k := 2) rfl (by rw [ez48]; rfl) (by decide) rfl (fun ls hl => ?_)
            refine lv_goto (tgt := 31) hx hb dX10_days_45 (by decide) ?_
            exact ih31 z48 mahd_c46 mahf_c47 _ _ _ h44_1 h44_2 (by omega) (by omega) (by (first | exact la_day i31_2 (by assumption) (by first | rfl | omega) (by omega) | exact la_zero (by assumption) (by omega) (by first | rfl | omega))) (by omega) (by omega) hP hD hS (lv_sub hl [1, 2, 0] rfl)
      have kc49 : (0 : Int32).toInt = 0 := rfl
      exact L31 _ 0 mahd_c8 mahf_c9 _ _ _ h6_1 h6_2 (by omega) (by omega) (by (first | exact la_zero (by assumption) (by omega) (by first | rfl | omega) | exact la_day i31_2 (by assumption) (by first | rfl | omega) (by omega))) (by omega) (Nat.lt_succ_self _) hP hD hS (lv_sub hl [1, 2, 0] rfl)
    · have dc4 : 400 < (mday.toInt) + (n.toInt) := nleC f3 (show (400 : Int32).toInt = 400 from rfl) c4
      refine lv_bipush (v := (-3)) hx hb dX10_days_22 (by decide) ?_
      exact W.iret (v := (-3)) hx hb hr (fun tq ht hW => ⟨⟨(-3), (uS [mahd, mahf, mstr, mfai, mgho, (fun _ => mday)] 0 (fun _ => 0)), rfl, ⟨(show spDysM mmar mfal mtop mstr mgho mfai mtel mday n ((-3) : Int32) mday mstr mgho mfai from by (try rw [show ((-3) : Int32).toInt = (-3) from (show ((-3) : Int32).toInt = (-3) from rfl)]); (first | exact ⟨Or.inr ⟨by omega, rfl, rfl⟩, Or.inl ⟨by omega, rfl, rfl, rfl⟩⟩ | exact ⟨Or.inl ⟨by omega, by assumption, by assumption⟩, Or.inr ⟨by omega, dy_end i31_2 i50_2 (by omega) (by omega)⟩⟩)), r_mahd, r_mahf, r_mstr, r_mfai, r_mgho, r_mday⟩, by rw [ht]; exact hP, hD⟩, hS.F ht⟩) hS.2.2 dX10_days_24
  · refine lv_if_eq (tgt := 22) hx hb dX10_days_7 (by decide) (fun _ => ?_) (fun c9 => absurd (by decide) c9)
    refine lv_bipush (v := (-3)) hx hb dX10_days_22 (by decide) ?_
    exact W.iret (v := (-3)) hx hb hr (fun tq ht hW => ⟨⟨(-3), (uS [mahd, mahf, mstr, mfai, mgho, (fun _ => mday)] 0 (fun _ => 0)), rfl, ⟨(show spDysM mmar mfal mtop mstr mgho mfai mtel mday n ((-3) : Int32) mday mstr mgho mfai from by (try rw [show ((-3) : Int32).toInt = (-3) from (show ((-3) : Int32).toInt = (-3) from rfl)]); (first | exact ⟨Or.inr ⟨by omega, rfl, rfl⟩, Or.inl ⟨by omega, rfl, rfl, rfl⟩⟩ | exact ⟨Or.inl ⟨by omega, by assumption, by assumption⟩, Or.inr ⟨by omega, dy_end i31_2 i50_2 (by omega) (by omega)⟩⟩)), r_mahd, r_mahf, r_mstr, r_mfai, r_mgho, r_mday⟩, by rw [ht]; exact hP, hD⟩, hS.F ht⟩) hS.2.2 dX10_days_24
set_option maxHeartbeats 4000000 in
set_option maxRecDepth 100000 in
theorem k_X10_goWalk2 (l : Launch) (dC : Nat → ClassId) (dI : Nat → Nat → Nat) (cI cZ cQ : ClassId) (b : Nat → Nat) (mday : Int32) (mdoo : Int32) (mdA : Nat → Int32) (mdB : Nat → Int32) (mfar : Nat → Int32) (mmar : Nat → Int32) (mtel : Int32) (mgai : Int32) (mfal : Nat → Int32) (mtop : Nat → Int32) (mstr : Nat → Int32) (mgho : Nat → Int32) (mfai : Nat → Int32) (mpto : Nat → Int32) (mwal : Nat → Int32) (mahd : Nat → Int32) (mahf : Nat → Int32) (mcho : Nat → Int32) (mbes : Nat → Int32) (mbyt : Int32) (mtxt : Nat → Int32) (mpos : Int32) (mtka : Int32) (mtok : Int64) (mdig : Int32) (mnum : Int32) (mfau : Int32) (mrdm : Int32) (mrea : Nat → Int32) (mlin : Int32) (mlne : Nat → Int32) (mthg : Nat → Int32) (mord : Nat → Int32) (mbor : Nat → Int32) (mbsm : Int32) (mans : Nat → Int32) (mand : Nat → Int32) (manr : Nat → Int32) (mali : Nat → Int32) (sz : Nat) (ro : Int32) (at_ : Int32) (r_mday : 0 ≤ mday.toInt ∧ mday.toInt ≤ 400) (r_mdoo : 0 ≤ mdoo.toInt ∧ mdoo.toInt ≤ 14) (r_mdA : rg 14 (0) (7) mdA) (r_mdB : rg 14 (0) (7) mdB) (r_mmar : rg 24 (0) (255) mmar) (r_mgai : 0 ≤ mgai.toInt ∧ mgai.toInt ≤ 100) (r_mfal : rg 11 (0) (30) mfal) (r_mtop : rg 48 (-1) (23) mtop) (r_mstr : rg 48 (0) (100) mstr) (r_mgho : rg 48 (-1) (23) mgho) (r_mfai : rg 48 (0) (100) mfai) (r_mahd : rg 240 (0) (100) mahd) (r_mahf : rg 240 (0) (100) mahf) (r_mcho : rg 5 (-1) (9) mcho) (r_mbyt : 0 ≤ mbyt.toInt ∧ mbyt.toInt ≤ 160) (r_mpos : 0 ≤ mpos.toInt ∧ mpos.toInt ≤ 160) (r_mrdm : 0 ≤ mrdm.toInt ∧ mrdm.toInt ≤ 10) (r_mlin : 0 ≤ mlin.toInt ∧ mlin.toInt ≤ 10) (r_mthg : rg 8 (0) (31) mthg) (r_mord : rg 8 (-1) (8) mord) (r_mans : rg 4 (0) (12) mans) (q0 : 0 ≤ ro.toInt) (q1 : ro.toInt ≤ 7) (q2 : 0 ≤ at_.toInt) (q3 : at_.toInt ≤ 192) : KW l yX10_goWalk wsX10_goWalk { frames := 0, cells := 0, slots := 0, locals := 0 } (dC, dI) (TY cI cZ cQ) (wMod cI cZ cQ b mday mdoo mdA mdB mfar mmar mtel mgai mfal mtop mstr mgho mfai mpto mwal mahd mahf mcho mbes mbyt mtxt mpos mtka mtok mdig mnum mfau mrdm mrea mlin mlne mthg mord mbor mbsm mans mand manr mali) [.ref (b 39), .int ro, .int at_] sz 0 0 (fun (r : Int32) (u : US) => (gwS mtop mgai.toInt at_.toInt (ro.toInt * 6) (ro.toInt * 6 + 6) mahd (u.1 0) r.toInt) ∧ (rg 240 (0) (100) (u.1 0))) (fun u : US => (wMod cI cZ cQ b mday mdoo mdA mdB mfar mmar mtel mgai mfal mtop mstr mgho mfai mpto mwal (u.1 0) mahf mcho mbes mbyt mtxt mpos mtka mtok mdig mnum mfau mrdm mrea mlin mlne mthg mord mbor mbsm mans mand manr mali)) := by
  refine Met.ofW (cc := cX10_goWalk) (maxL := 6) (ret := (some .int)) (by decide) rfl ?_
  intro p e s m args below meth c s₁ B hml hv
  obtain ⟨rfl, hsz, hP, hK, hD0, hN⟩ := hv
  have hx := B.exec
  have hb := B.bytes
  have hr := B.returns
  have hts := atoms_spec (ws := wsX10_goWalk) B.pre
  have hown : s.vm.findClass RX10 = some m.cls := findClass_of_methodNamed B.named
  have hlocks := B.notSynchronized
  have lf32 := hts (.fieldLink RX10 32 "PalaceOfRoomsModel" "top" "[I") (List.mem_cons_of_mem _ (List.mem_append_left _ (List.mem_of_getElem? (i := 0) rfl)))
  have inX10 : ∀ w ∈ wsX100, w ∈ wsX10_goWalk := fun w h => List.mem_cons_of_mem _ (List.mem_append_right _ h)
  have lf50 := hts (.fieldLink RX10 50 "PalaceOfRoomsModel" "ahead" "[I") (List.mem_cons_of_mem _ (List.mem_append_left _ (List.mem_of_getElem? (i := 1) rfl)))
  have lf26 := hts (.fieldLink RX10 26 "PalaceOfRoomsModel" "gain" "I") (List.mem_cons_of_mem _ (List.mem_append_left _ (List.mem_of_getElem? (i := 2) rfl)))
  subst hsz
  have hD := hD0.self (sz := s.heap.size)
  generalize hAe : va_A (wMod cI cZ cQ b mday mdoo mdA mdB mfar mmar mtel mgai mfal mtop mstr mgho mfai mpto mwal mahd mahf mcho mbes mbyt mtxt mpos mtka mtok mdig mnum mfau mrdm mrea mlin mlne mthg mord mbor mbsm mans mand manr mali) s.heap.size = A at hD ⊢
  have hA : ∀ q : Nat, s.heap.size ≤ q → A q := fun q h => by rw [← hAe]; exact Or.inr h
  have hS : va_S A s.heap s.heap [] := va_S.rf
  have hl := lv_entry ([.ref (b 39), .int ro, .int at_]) (n := 6) (Nat.le_of_ble_eq_true rfl)
  rw [lg_entry_eq]
  generalize (lg_sl ([.ref (b 39), .int ro, .int at_]) ++ List.replicate (6 - (lg_sl ([.ref (b 39), .int ro, .int at_])).length) Slot.unset).toArray = ls at hl ⊢
  have hl : lv_has ls 6 [(0, .ref (b 39)), (1, .int ro), (2, .int at_)] := hl
  refine lv_iconst (v := 0) hx hb dX10_goWalk_0 (by decide) ?_
  refine lv_istore_n (lv' := [(3, .int 0), (0, .ref (b 39)), (1, .int ro), (2, .int at_)]) hx hb dX10_goWalk_1 rfl hl (by decide) rfl (fun ls hl => ?_)
  refine lv_bipush (v := 6) hx hb dX10_goWalk_2 (by decide) ?_
  refine lv_iload_n hx hb dX10_goWalk_4 rfl (lv_at hl 2 rfl) ?_
  refine lv_imul hx hb dX10_goWalk_5 ?_
  have f1 : (6 * ro).toInt = (6) * (ro.toInt) := mulC (show (6 : Int32).toInt = 6 from rfl) rfl (by omega) (by omega)
  refine lv_topi (fun x2 ex2 => ?_)
  have ix2 : x2.toInt = (6) * (ro.toInt) := by rw [ex2]; exact f1
  refine lv_istore (lv' := [(4, .int x2), (3, .int 0), (0, .ref (b 39)), (1, .int ro), (2, .int at_)]) hx hb dX10_goWalk_6 hl (by decide) rfl (fun ls hl => ?_)
  have L8 : ∀ (nn : Nat) (y8_3 : Int32) (y8_4 : Int32) (mahd_8 : Nat → Int32) (H : Heap) (locs : List Loc) (ls : Array Slot), (rg 240 (0) (100) mahd_8) → (0 ≤ (y8_4.toInt)) → ((y8_4.toInt) ≤ 48) → (6 * ro.toInt ≤ (y8_4.toInt)) → ((y8_4.toInt) ≤ 6 * ro.toInt + 6) → (0 ≤ (y8_3.toInt)) → ((y8_3.toInt) ≤ 100 * ((y8_4.toInt) - 6 * ro.toInt)) → (gwS mtop mgai.toInt at_.toInt (6 * ro.toInt) (y8_4.toInt) mahd mahd_8 (y8_3.toInt)) → (48 - (y8_4.toInt)).toNat < nn → va_P (dC, dI) vwCl (wMod cI cZ cQ b mday mdoo mdA mdB mfar mmar mtel mgai mfal mtop mstr mgho mfai mpto mwal mahd_8 mahf mcho mbes mbyt mtxt mpos mtka mtok mdig mnum mfau mrdm mrea mlin mlne mthg mord mbor mbsm mans mand manr mali) H → va_D A (wMod cI cZ cQ b mday mdoo mdA mdB mfar mmar mtel mgai mfal mtop mstr mgho mfai mpto mwal mahd_8 mahf mcho mbes mbyt mtxt mpos mtka mtok mdig mnum mfau mrdm mrea mlin mlne mthg mord mbor mbsm mans mand manr mali) → va_S A s.heap H locs → lv_has ls 6 [(0, .ref (b 39)), (1, .int ro), (2, .int at_), (3, .int y8_3), (4, .int y8_4)] → W p l e (headSpec wsX10_goWalk { frames := 0, cells := 0, slots := 0, locals := 0 }).room s m ([.ref (b 39), .int ro, .int at_] : List Value).toArray below meth c H locs 0 0 (MQ below (va_Qi (fun (r : Int32) (u : US) => (gwS mtop mgai.toInt at_.toInt (ro.toInt * 6) (ro.toInt * 6 + 6) mahd (u.1 0) r.toInt) ∧ (rg 240 (0) (100) (u.1 0))) (Bw (dC, dI) A (fun u : US => (wMod cI cZ cQ b mday mdoo mdA mdB mfar mmar mtel mgai mfal mtop mstr mgho mfai mpto mwal (u.1 0) mahf mcho mbes mbyt mtxt mpos mtka mtok mdig mnum mfau mrdm mrea mlin mlne mthg mord mbor mbsm mans mand manr mali))) A) ([.ref (b 39), .int ro, .int at_] : List Value).toArray s 0 0 A) (F0 m 8 ls []) := by
    intro nn
    induction nn with
    | zero =>
      intro y8_3 y8_4 mahd_8 H locs ls r_mahd_8 i8_0 i8_1 i8_2 i8_3 i8_4 i8_5 i8_6 hm8
      exact absurd hm8 (Nat.not_lt_zero _)
    | succ nn ih8 =>
      intro y8_3 y8_4 mahd_8 H locs ls r_mahd_8 i8_0 i8_1 i8_2 i8_3 i8_4 i8_5 i8_6 hm8 hP hD hS hl
      refine lv_iload hx hb dX10_goWalk_8 (lv_at hl 4 rfl) ?_
      refine lv_bipush (v := 6) hx hb dX10_goWalk_10 (by decide) ?_
      refine lv_iload_n hx hb dX10_goWalk_12 rfl (lv_at hl 1 rfl) ?_
      refine lv_imul hx hb dX10_goWalk_13 ?_
      have f3 : (6 * ro).toInt = (6) * (ro.toInt) := mulC (show (6 : Int32).toInt = 6 from rfl) rfl (by omega) (by omega)
      refine lv_bipush (v := 6) hx hb dX10_goWalk_14 (by decide) ?_
      refine lv_iadd hx hb dX10_goWalk_16 ?_
      have f4 : ((6 * ro) + 6).toInt = ((6) * (ro.toInt)) + (6) := addC f3 (show (6 : Int32).toInt = 6 from rfl) (by omega) (by omega)
      refine lv_icmp_ge (tgt := 82) hx hb dX10_goWalk_17 (by decide) (fun c5 => ?_) (fun c5 => ?_)
      · have dc5 : ((6) * (ro.toInt)) + (6) ≤ y8_4.toInt := leC f4 rfl c5
        refine lv_iload_n hx hb dX10_goWalk_82 rfl (lv_at hl 3 rfl) ?_
        exact W.iret (v := y8_3) hx hb hr (fun tq ht hW => ⟨⟨y8_3, (uS [mahd_8] 0 (fun _ => 0)), rfl, ⟨(show gwS mtop mgai.toInt at_.toInt (ro.toInt * 6) (ro.toInt * 6 + 6) mahd mahd_8 y8_3.toInt from by exact gw_end i8_6 (by omega) (by omega)), r_mahd_8⟩, by rw [ht]; exact hP, hD⟩, hS.F ht⟩) hS.2.2 dX10_goWalk_83
      · have dc5 : y8_4.toInt < ((6) * (ro.toInt)) + (6) := nleC f4 rfl c5
        refine lv_aload_n hx hb dX10_goWalk_20 rfl (lv_at hl 0 rfl) ?_
        refine va_get (D := (dC, dI)) (ci := 10) (v := .ref (b 9)) (C := RX10) (T := TX10) (N := 39) hx hb hts inX10 hown hK hP 0 rfl rfl 9 (by decide) lf32 (fun _ h9 => h9) rfl dX10_goWalk_21 ?_
        refine lv_iload hx hb dX10_goWalk_24 (lv_at hl 4 rfl) ?_
        have b6 : vp_in y8_4 48 := inC rfl (by omega) (by omega)
        refine va_iald hx hb hK hP 6 0 rfl rfl b6 dX10_goWalk_26 ?_
        have g7 : -1 ≤ (mtop y8_4.toNatClampNeg).toInt ∧ (mtop y8_4.toNatClampNeg).toInt ≤ 23 := rg_at r_mtop b6
        refine lv_iconst (v := (-1)) hx hb dX10_goWalk_27 (by decide) ?_
        refine lv_icmp_ne (tgt := 35) hx hb dX10_goWalk_28 (by decide) (fun c8 => ?_) (fun c8 => ?_)
        · have dc8 : 0 ≤ (mtop y8_4.toNatClampNeg).toInt := ka_lo (by omega) (neC rfl (show ((-1) : Int32).toInt = (-1) from rfl) c8)
          refine lv_bipush (v := 100) hx hb dX10_goWalk_35 (by decide) ?_
          refine lv_aload_n hx hb dX10_goWalk_37 rfl (lv_at hl 0 rfl) ?_
          refine va_get (D := (dC, dI)) (ci := 10) (v := .ref (b 15)) (C := RX10) (T := TX10) (N := 39) hx hb hts inX10 hown hK hP 0 rfl rfl 15 (by decide) lf50 (fun _ h9 => h9) rfl dX10_goWalk_38 ?_
          refine lv_iload_n hx hb dX10_goWalk_41 rfl (lv_at hl 2 rfl) ?_
          refine lv_iload hx hb dX10_goWalk_42 (lv_at hl 4 rfl) ?_
          refine lv_iadd hx hb dX10_goWalk_44 ?_
          have f9 : (at_ + y8_4).toInt = (at_.toInt) + (y8_4.toInt) := addC rfl rfl (by omega) (by omega)
          have b10 : vp_in (at_ + y8_4) 240 := inC f9 (by omega) (by omega)
          refine va_iald hx hb hK hP 12 0 rfl rfl b10 dX10_goWalk_45 ?_
          have g11 : 0 ≤ (mahd_8 (at_ + y8_4).toNatClampNeg).toInt ∧ (mahd_8 (at_ + y8_4).toNatClampNeg).toInt ≤ 100 := rg_at r_mahd_8 b10
          refine lv_isub hx hb dX10_goWalk_46 ?_
          have f12 : (100 - (mahd_8 (at_ + y8_4).toNatClampNeg)).toInt = (100) - ((mahd_8 (at_ + y8_4).toNatClampNeg).toInt) := subC (show (100 : Int32).toInt = 100 from rfl) rfl (by omega) (by omega)
          refine lv_aload_n hx hb dX10_goWalk_47 rfl (lv_at hl 0 rfl) ?_
          refine va_get (D := (dC, dI)) (ci := 10) (v := .int mgai) (C := RX10) (T := TX10) (N := 39) hx hb hts inX10 hown hK hP 0 rfl rfl 7 (by decide) lf26 (fun _ h9 => h9) rfl dX10_goWalk_48 ?_
          refine lv_imul hx hb dX10_goWalk_51 ?_
          obtain ⟨f13, f13_1, f13_2⟩ := mulB (a := (100 - (mahd_8 (at_ + y8_4).toNatClampNeg))) (b := mgai) (A := (100) - ((mahd_8 (at_ + y8_4).toNatClampNeg).toInt)) (B := mgai.toInt) (p := 100) (q := 100) f12 rfl (by omega) (by omega) (by omega) (by omega) (by decide)
          refine lv_bipush (v := 100) hx hb dX10_goWalk_52 (by decide) ?_
          refine lv_idiv hx hb dX10_goWalk_54 (by decide) ?_
          have f14 : (((100 - (mahd_8 (at_ + y8_4).toNatClampNeg)) * mgai) / 100).toInt = (((100) - ((mahd_8 (at_ + y8_4).toNatClampNeg).toInt)) * (mgai.toInt)) / (100) := divC f13 (show (100 : Int32).toInt = 100 from rfl) (by omega) (by omega)
          refine lv_topi (fun x15 ex15 => ?_)
          have ix15 : x15.toInt = (((100) - ((mahd_8 (at_ + y8_4).toNatClampNeg).toInt)) * (mgai.toInt)) / (100) := by rw [ex15]; exact f14
          refine lv_istore (lv' := [(5, .int x15), (0, .ref (b 39)), (1, .int ro), (2, .int at_), (3, .int y8_3), (4, .int y8_4)]) hx hb dX10_goWalk_55 hl (by decide) rfl (fun ls hl => ?_)
          refine lv_aload_n hx hb dX10_goWalk_57 rfl (lv_at hl 1 rfl) ?_
          refine va_get (D := (dC, dI)) (ci := 10) (v := .ref (b 15)) (C := RX10) (T := TX10) (N := 39) hx hb hts inX10 hown hK hP 0 rfl rfl 15 (by decide) lf50 (fun _ h9 => h9) rfl dX10_goWalk_58 ?_
          refine lv_iload_n hx hb dX10_goWalk_61 rfl (lv_at hl 3 rfl) ?_
          refine lv_iload hx hb dX10_goWalk_62 (lv_at hl 5 rfl) ?_
          refine lv_iadd hx hb dX10_goWalk_64 ?_
          have f16 : (at_ + y8_4).toInt = (at_.toInt) + (y8_4.toInt) := addC rfl rfl (by omega) (by omega)
          refine lv_dup2_11 hx hb dX10_goWalk_65 rfl rfl ?_
          have b17 : vp_in (at_ + y8_4) 240 := inC f16 (by omega) (by omega)
          refine va_iald hx hb hK hP 12 0 rfl rfl b17 dX10_goWalk_66 ?_
          have g18 : 0 ≤ (mahd_8 (at_ + y8_4).toNatClampNeg).toInt ∧ (mahd_8 (at_ + y8_4).toNatClampNeg).toInt ≤ 100 := rg_at r_mahd_8 b17
          refine lv_iload hx hb dX10_goWalk_67 (lv_at hl 0 rfl) ?_
          refine lv_iadd hx hb dX10_goWalk_69 ?_
          have f19 : ((mahd_8 (at_ + y8_4).toNatClampNeg) + x15).toInt = ((mahd_8 (at_ + y8_4).toNatClampNeg).toInt) + (x15.toInt) := addC rfl rfl (by omega) (by omega)
          refine lv_topi (fun x20 ex20 => ?_)
          have ix20 : x20.toInt = ((mahd_8 (at_ + y8_4).toNatClampNeg).toInt) + (x15.toInt) := by rw [ex20]; exact f19
          have b21 : vp_in (at_ + y8_4) 240 := inC f16 (by omega) (by omega)
          have g22 : rg 240 (0) (100) (upd mahd_8 (at_ + y8_4).toNatClampNeg x20) := rg_upd r_mahd_8 rfl (by omega) (by omega)
          refine va_iast hx hb hK hP hD hS 12 0 rfl rfl b21 dX10_goWalk_70 (fun H locs hP hD hS => ?_)
          obtain ⟨mahd_u23, emahd_u23⟩ : ∃ f : Nat → Int32, f = upd mahd_8 (at_ + y8_4).toNatClampNeg x20 := ⟨_, rfl⟩
          have rmahd_u23 : rg 240 (0) (100) mahd_u23 := by rw [emahd_u23]; exact g22
          have hP : va_P (dC, dI) vwCl (wMod cI cZ cQ b mday mdoo mdA mdB mfar mmar mtel mgai mfal mtop mstr mgho mfai mpto mwal mahd_u23 mahf mcho mbes mbyt mtxt mpos mtka mtok mdig mnum mfau mrdm mrea mlin mlne mthg mord mbor mbsm mans mand manr mali) H := by rw [emahd_u23]; exact hP
          have hD : va_D A (wMod cI cZ cQ b mday mdoo mdA mdB mfar mmar mtel mgai mfal mtop mstr mgho mfai mpto mwal mahd_u23 mahf mcho mbes mbyt mtxt mpos mtka mtok mdig mnum mfau mrdm mrea mlin mlne mthg mord mbor mbsm mans mand manr mali) := by rw [emahd_u23]; exact hD
          refine lv_iload_n hx hb dX10_goWalk_71 rfl (lv_at hl 4 rfl) ?_
          refine lv_iload hx hb dX10_goWalk_72 (lv_at hl 0 rfl) ?_
          refine lv_iadd hx hb dX10_goWalk_74 ?_
          have f24 : (y8_3 + x15).toInt = (y8_3.toInt) + (x15.toInt) := addC rfl rfl (by omega) (by omega)
          refine lv_topi (fun x25 ex25 => ?_)
          have ix25 : x25.toInt = (y8_3.toInt) + (x15.toInt) := by rw [ex25]; exact f24
          refine lv_istore_n (lv' := [(3, .int x25), (5, .int x15), (0, .ref (b 39)), (1, .int ro), (2, .int at_), (4, .int y8_4)]) hx hb dX10_goWalk_75 rfl hl (by decide) rfl (fun ls hl => ?_)
          obtain ⟨z26, ez26⟩ : ∃ y : Int32, y = y8_4 + 1 := ⟨_, rfl⟩
          have iz26 : z26.toInt = y8_4.toInt + 1 := by rw [ez26]; exact addC rfl rfl (by omega) (by omega)
          refine lv_iinc (v := z26) (lv' := [(4, .int z26), (3, .int x25), (5, .int x15), (0, .ref (b 39)), (1, .int ro), (2, .int at_)]) hx hb dX10_goWalk_76 hl (k := 5) rfl (by rw [ez26]; rfl) (by decide) rfl (fun ls hl => ?_)
          refine lv_goto (tgt := 8) hx hb dX10_goWalk_79 (by decide) ?_
          exact ih8 x25 z26 mahd_u23 _ _ _ rmahd_u23 (by omega) (by omega) (by omega) (by omega) (by omega) (by omega) (by (first | exact gw_step i8_6 (by omega) (by omega) (by omega) (by omega) (by omega) (by assumption) (by assumption) (by first | exact it_pos (by assumption) (by first | rfl | omega) | exact it_neg (by assumption) (by assumption)) (by omega) (by omega) (by omega) | exact gw_init (by omega) (by first | rfl | omega))) (by omega) hP hD hS (lv_sub hl [3, 4, 5, 1, 0] rfl)
        · have dc8 : (mtop y8_4.toNatClampNeg).toInt = (-1) := eqC rfl (show ((-1) : Int32).toInt = (-1) from rfl) c8
          refine lv_iconst (v := 0) hx hb dX10_goWalk_31 (by decide) ?_
          refine lv_goto (tgt := 55) hx hb dX10_goWalk_32 (by decide) ?_
          refine lv_istore (lv' := [(5, .int 0), (0, .ref (b 39)), (1, .int ro), (2, .int at_), (3, .int y8_3), (4, .int y8_4)]) hx hb dX10_goWalk_55 hl (by decide) rfl (fun ls hl => ?_)
          refine lv_aload_n hx hb dX10_goWalk_57 rfl (lv_at hl 1 rfl) ?_
          refine va_get (D := (dC, dI)) (ci := 10) (v := .ref (b 15)) (C := RX10) (T := TX10) (N := 39) hx hb hts inX10 hown hK hP 0 rfl rfl 15 (by decide) lf50 (fun _ h9 => h9) rfl dX10_goWalk_58 ?_
          refine lv_iload_n hx hb dX10_goWalk_61 rfl (lv_at hl 3 rfl) ?_
          refine lv_iload hx hb dX10_goWalk_62 (lv_at hl 5 rfl) ?_
          refine lv_iadd hx hb dX10_goWalk_64 ?_
          have f27 : (at_ + y8_4).toInt = (at_.toInt) + (y8_4.toInt) := addC rfl rfl (by omega) (by omega)
          refine lv_dup2_11 hx hb dX10_goWalk_65 rfl rfl ?_
          have b28 : vp_in (at_ + y8_4) 240 := inC f27 (by omega) (by omega)
          refine va_iald hx hb hK hP 12 0 rfl rfl b28 dX10_goWalk_66 ?_
          have g29 : 0 ≤ (mahd_8 (at_ + y8_4).toNatClampNeg).toInt ∧ (mahd_8 (at_ + y8_4).toNatClampNeg).toInt ≤ 100 := rg_at r_mahd_8 b28
          refine lv_iload hx hb dX10_goWalk_67 (lv_at hl 0 rfl) ?_
          refine lv_iadd hx hb dX10_goWalk_69 ?_
          have f30 : ((mahd_8 (at_ + y8_4).toNatClampNeg) + 0).toInt = ((mahd_8 (at_ + y8_4).toNatClampNeg).toInt) + (0) := addC rfl (show (0 : Int32).toInt = 0 from rfl) (by omega) (by omega)
          refine lv_topi (fun x31 ex31 => ?_)
          have ix31 : x31.toInt = ((mahd_8 (at_ + y8_4).toNatClampNeg).toInt) + (0) := by rw [ex31]; exact f30
          have b32 : vp_in (at_ + y8_4) 240 := inC f27 (by omega) (by omega)
          have g33 : rg 240 (0) (100) (upd mahd_8 (at_ + y8_4).toNatClampNeg x31) := rg_upd r_mahd_8 rfl (by omega) (by omega)
          refine va_iast hx hb hK hP hD hS 12 0 rfl rfl b32 dX10_goWalk_70 (fun H locs hP hD hS => ?_)
          obtain ⟨mahd_u34, emahd_u34⟩ : ∃ f : Nat → Int32, f = upd mahd_8 (at_ + y8_4).toNatClampNeg x31 := ⟨_, rfl⟩
          have rmahd_u34 : rg 240 (0) (100) mahd_u34 := by rw [emahd_u34]; exact g33
          have hP : va_P (dC, dI) vwCl (wMod cI cZ cQ b mday mdoo mdA mdB mfar mmar mtel mgai mfal mtop mstr mgho mfai mpto mwal mahd_u34 mahf mcho mbes mbyt mtxt mpos mtka mtok mdig mnum mfau mrdm mrea mlin mlne mthg mord mbor mbsm mans mand manr mali) H := by rw [emahd_u34]; exact hP
          have hD : va_D A (wMod cI cZ cQ b mday mdoo mdA mdB mfar mmar mtel mgai mfal mtop mstr mgho mfai mpto mwal mahd_u34 mahf mcho mbes mbyt mtxt mpos mtka mtok mdig mnum mfau mrdm mrea mlin mlne mthg mord mbor mbsm mans mand manr mali) := by rw [emahd_u34]; exact hD
          refine lv_iload_n hx hb dX10_goWalk_71 rfl (lv_at hl 4 rfl) ?_
          refine lv_iload hx hb dX10_goWalk_72 (lv_at hl 0 rfl) ?_
          refine lv_iadd hx hb dX10_goWalk_74 ?_
          have f35 : (y8_3 + 0).toInt = (y8_3.toInt) + (0) := addC rfl (show (0 : Int32).toInt = 0 from rfl) (by omega) (by omega)
          refine lv_topi (fun x36 ex36 => ?_)
          have ix36 : x36.toInt = (y8_3.toInt) + (0) := by rw [ex36]; exact f35
          refine lv_istore_n (lv' := [(3, .int x36), (5, .int 0), (0, .ref (b 39)), (1, .int ro), (2, .int at_), (4, .int y8_4)]) hx hb dX10_goWalk_75 rfl hl (by decide) rfl (fun ls hl => ?_)
          obtain ⟨z37, ez37⟩ : ∃ y : Int32, y = y8_4 + 1 := ⟨_, rfl⟩
          have iz37 : z37.toInt = y8_4.toInt + 1 := by rw [ez37]; exact addC rfl rfl (by omega) (by omega)
          refine lv_iinc (v := z37) (lv' := [(4, .int z37), (3, .int x36), (5, .int 0), (0, .ref (b 39)), (1, .int ro), (2, .int at_)]) hx hb dX10_goWalk_76 hl (k := 5) rfl (by rw [ez37]; rfl) (by decide) rfl (fun ls hl => ?_)
          refine lv_goto (tgt := 8) hx hb dX10_goWalk_79 (by decide) ?_
          exact ih8 x36 z37 mahd_u34 _ _ _ rmahd_u34 (by omega) (by omega) (by omega) (by omega) (by omega) (by omega) (by (first | exact gw_step i8_6 (by omega) (by omega) (by omega) (by omega) (by omega) (by assumption) (by assumption) (by first | exact it_pos (by assumption) (by first | rfl | omega) | exact it_neg (by assumption) (by assumption)) (by omega) (by omega) (by omega) | exact gw_init (by omega) (by first | rfl | omega))) (by omega) hP hD hS (lv_sub hl [3, 4, 5, 1, 0] rfl)
  have kc38 : (0 : Int32).toInt = 0 := rfl
  exact L8 _ 0 x2 mahd _ _ _ r_mahd (by omega) (by omega) (by omega) (by omega) (by omega) (by omega) (by (first | exact gw_init (by omega) (by first | rfl | omega) | exact gw_step i8_6 (by omega) (by omega) (by omega) (by omega) (by omega) (by assumption) (by assumption) (by first | exact it_pos (by assumption) (by first | rfl | omega) | exact it_neg (by assumption) (by assumption)) (by omega) (by omega) (by omega))) (Nat.lt_succ_self _) hP hD hS (lv_sub hl [2, 3, 4, 1, 0] rfl)
set_option maxHeartbeats 4000000 in
set_option maxRecDepth 100000 in
theorem k_X10_walk2 (l : Launch) (dC : Nat → ClassId) (dI : Nat → Nat → Nat) (cI cZ cQ : ClassId) (b : Nat → Nat) (mday : Int32) (mdoo : Int32) (mdA : Nat → Int32) (mdB : Nat → Int32) (mfar : Nat → Int32) (mmar : Nat → Int32) (mtel : Int32) (mgai : Int32) (mfal : Nat → Int32) (mtop : Nat → Int32) (mstr : Nat → Int32) (mgho : Nat → Int32) (mfai : Nat → Int32) (mpto : Nat → Int32) (mwal : Nat → Int32) (mahd : Nat → Int32) (mahf : Nat → Int32) (mcho : Nat → Int32) (mbes : Nat → Int32) (mbyt : Int32) (mtxt : Nat → Int32) (mpos : Int32) (mtka : Int32) (mtok : Int64) (mdig : Int32) (mnum : Int32) (mfau : Int32) (mrdm : Int32) (mrea : Nat → Int32) (mlin : Int32) (mlne : Nat → Int32) (mthg : Nat → Int32) (mord : Nat → Int32) (mbor : Nat → Int32) (mbsm : Int32) (mans : Nat → Int32) (mand : Nat → Int32) (manr : Nat → Int32) (mali : Nat → Int32) (sz : Nat) (ro : Int32) (r_mday : 0 ≤ mday.toInt ∧ mday.toInt ≤ 400) (r_mdoo : 0 ≤ mdoo.toInt ∧ mdoo.toInt ≤ 14) (r_mdA : rg 14 (0) (7) mdA) (r_mdB : rg 14 (0) (7) mdB) (r_mmar : rg 24 (0) (255) mmar) (r_mgai : 0 ≤ mgai.toInt ∧ mgai.toInt ≤ 100) (r_mfal : rg 11 (0) (30) mfal) (r_mtop : rg 48 (-1) (23) mtop) (r_mstr : rg 48 (0) (100) mstr) (r_mgho : rg 48 (-1) (23) mgho) (r_mfai : rg 48 (0) (100) mfai) (r_mahd : rg 240 (0) (100) mahd) (r_mahf : rg 240 (0) (100) mahf) (r_mcho : rg 5 (-1) (9) mcho) (r_mbyt : 0 ≤ mbyt.toInt ∧ mbyt.toInt ≤ 160) (r_mpos : 0 ≤ mpos.toInt ∧ mpos.toInt ≤ 160) (r_mrdm : 0 ≤ mrdm.toInt ∧ mrdm.toInt ≤ 10) (r_mlin : 0 ≤ mlin.toInt ∧ mlin.toInt ≤ 10) (r_mthg : rg 8 (0) (31) mthg) (r_mord : rg 8 (-1) (8) mord) (r_mans : rg 4 (0) (12) mans) : KW l yX10_walk wsX10_walk { frames := 2, cells := 0, slots := 0, locals := 42 } (dC, dI) (TY cI cZ cQ) (wMod cI cZ cQ b mday mdoo mdA mdB mfar mmar mtel mgai mfal mtop mstr mgho mfai mpto mwal mahd mahf mcho mbes mbyt mtxt mpos mtka mtok mdig mnum mfau mrdm mrea mlin mlne mthg mord mbor mbsm mans mand manr mali) [.ref (b 39), .int ro] sz 0 0 (fun (r : Int32) (u : US) => (spWlkM mtop mstr mwal mgai mday ro r (u.1 2) (u.1 3)) ∧ (rg 240 (0) (100) (u.1 0)) ∧ (rg 240 (0) (100) (u.1 1)) ∧ (rg 48 (0) (100) (u.1 2))) (fun u : US => (wMod cI cZ cQ b mday mdoo mdA mdB mfar mmar mtel mgai mfal mtop (u.1 2) mgho mfai mpto (u.1 3) (u.1 0) (u.1 1) mcho mbes mbyt mtxt mpos mtka mtok mdig mnum mfau mrdm mrea mlin mlne mthg mord mbor mbsm mans mand manr mali)) := by
  refine Met.ofW (cc := cX10_walk) (maxL := 4) (ret := (some .int)) (by decide) rfl ?_
  intro p e s m args below meth c s₁ B hml hv
  obtain ⟨rfl, hsz, hP, hK, hD0, hN⟩ := hv
  have hx := B.exec
  have hb := B.bytes
  have hr := B.returns
  have hts := atoms_spec (ws := wsX10_walk) B.pre
  have hown : s.vm.findClass RX10 = some m.cls := findClass_of_methodNamed B.named
  have hlocks := B.notSynchronized
  have lf47 := hts (.fieldLink RX10 47 "PalaceOfRoomsModel" "walkedOn" "[I") (List.mem_cons_of_mem _ (List.mem_append_left _ (List.mem_of_getElem? (i := 2) rfl)))
  have inX10 : ∀ w ∈ wsX100, w ∈ wsX10_walk := fun w h => List.mem_cons_of_mem _ (List.mem_append_right _ h)
  have lf125 := hts (.fieldLink RX10 125 "PalaceOfRoomsModel" "day" "I") (List.mem_cons_of_mem _ (List.mem_append_left _ (List.mem_of_getElem? (i := 3) rfl)))
  have lf35 := hts (.fieldLink RX10 35 "PalaceOfRoomsModel" "strength" "[I") (List.mem_cons_of_mem _ (List.mem_append_left _ (List.mem_of_getElem? (i := 0) rfl)))
  have lf50 := hts (.fieldLink RX10 50 "PalaceOfRoomsModel" "ahead" "[I") (List.mem_cons_of_mem _ (List.mem_append_left _ (List.mem_of_getElem? (i := 1) rfl)))
  subst hsz
  have hD := hD0.self (sz := s.heap.size)
  generalize hAe : va_A (wMod cI cZ cQ b mday mdoo mdA mdB mfar mmar mtel mgai mfal mtop mstr mgho mfai mpto mwal mahd mahf mcho mbes mbyt mtxt mpos mtka mtok mdig mnum mfau mrdm mrea mlin mlne mthg mord mbor mbsm mans mand manr mali) s.heap.size = A at hD ⊢
  have hA : ∀ q : Nat, s.heap.size ≤ q → A q := fun q h => by rw [← hAe]; exact Or.inr h
  have hS : va_S A s.heap s.heap [] := va_S.rf
  have hl := lv_entry ([.ref (b 39), .int ro]) (n := 4) (Nat.le_of_ble_eq_true rfl)
  rw [lg_entry_eq]
  generalize (lg_sl ([.ref (b 39), .int ro]) ++ List.replicate (4 - (lg_sl ([.ref (b 39), .int ro])).length) Slot.unset).toArray = ls at hl ⊢
  have hl : lv_has ls 4 [(0, .ref (b 39)), (1, .int ro)] := hl
  refine lv_iload_n hx hb dX10_walk_0 rfl (lv_at hl 1 rfl) ?_
  refine rdS (As := [.int ro]) (rest := []) ⟨hx, hb, hml, hown, hts⟩ (k_X10_isRoom l dC dI cI cZ cQ ro) (va_cwS 1 hts gX10_walk_X10_isRoom rfl rfl rfl (by decide +kernel) ⟨Nat.le_of_ble_eq_true rfl, Nat.le_of_ble_eq_true rfl⟩) hP hK hN [] rfl rfl hl.1 rfl (Nat.le_of_ble_eq_true rfl) dX10_walk_1 ⟨Nat.le_of_ble_eq_true rfl, Nat.le_of_ble_eq_true rfl⟩ (fun r1 h2 => ?_)
  have h2 : ((((r1 = 1) ∧ (0 ≤ ro.toInt) ∧ (ro.toInt ≤ 7)) ∨ ((r1 = 0) ∧ (ro.toInt < 0 ∨ 7 < ro.toInt)))) := h2
  rcases h2 with (⟨rfl, h2_a0, h2_a1⟩ | ⟨rfl, h2_a0⟩)
  · refine lv_if_ne (tgt := 10) hx hb dX10_walk_4 (by decide) (fun _ => ?_) (fun c9 => absurd c9 (by decide))
    refine lv_aload_n hx hb dX10_walk_10 rfl (lv_at hl 0 rfl) ?_
    refine wvV (As := []) (rest := []) (wr := []) (w2 := (fun u : US => (wMod cI cZ cQ b mday mdoo mdA mdB mfar mmar mtel mgai mfal mtop mstr mgho mfai mpto mwal (u.1 0) (u.1 1) mcho mbes mbyt mtxt mpos mtka mtok mdig mnum mfau mrdm mrea mlin mlne mthg mord mbor mbsm mans mand manr mali))) ⟨hx, hb, hml, hown, hts⟩ (k_X10_lookAhead2 l dC dI cI cZ cQ b mday mdoo mdA mdB mfar mmar mtel mgai mfal mtop mstr mgho mfai mpto mwal mahd mahf mcho mbes mbyt mtxt mpos mtka mtok mdig mnum mfau mrdm mrea mlin mlne mthg mord mbor mbsm mans mand manr mali _ r_mday r_mdoo r_mdA r_mdB r_mmar r_mgai r_mfal r_mtop r_mstr r_mgho r_mfai r_mahd r_mahf r_mcho r_mbyt r_mpos r_mrdm r_mlin r_mthg r_mord r_mans) (cwV 0 hts gX10_walk_X10_lookAhead rfl rfl rfl (by decide +kernel) ⟨Nat.le_of_ble_eq_true rfl, Nat.le_of_ble_eq_true rfl⟩) hP hD hS hA hK hN [0, 1, 2, 3, 4, 5, 6, 7, 8, 9, 10, 11, 12, 13, 14, 15, 16, 17, 18, 19, 20, 21, 22, 23, 24, 25] [] [0, 1, 2, 3, 4, 5, 6, 7, 8, 9, 10, 11, 12, 13, 14, 15, 16, 17, 18, 19, 20, 21, 22, 23, 24, 25] rfl rfl (by decide) (by decide) (by decide) (fun _ => rfl) (by decide) 0 10 rfl rfl rfl hl.1 rfl (Nat.le_of_ble_eq_true rfl) dX10_walk_11 ⟨Nat.le_of_ble_eq_true rfl, Nat.le_of_ble_eq_true rfl⟩ (fun u5 H locs h4 hP hD hS => ?_)
    obtain ⟨mahd_c6, emahd_c6⟩ : ∃ f : Nat → Int32, f = (u5.1 0) := ⟨_, rfl⟩
    obtain ⟨mahf_c7, emahf_c7⟩ : ∃ f : Nat → Int32, f = (u5.1 1) := ⟨_, rfl⟩
    have hP : va_P (dC, dI) vwCl (wMod cI cZ cQ b mday mdoo mdA mdB mfar mmar mtel mgai mfal mtop mstr mgho mfai mpto mwal mahd_c6 mahf_c7 mcho mbes mbyt mtxt mpos mtka mtok mdig mnum mfau mrdm mrea mlin mlne mthg mord mbor mbsm mans mand manr mali) H := by rw [emahd_c6, emahf_c7]; exact hP
    have hD : va_D A (wMod cI cZ cQ b mday mdoo mdA mdB mfar mmar mtel mgai mfal mtop mstr mgho mfai mpto mwal mahd_c6 mahf_c7 mcho mbes mbyt mtxt mpos mtka mtok mdig mnum mfau mrdm mrea mlin mlne mthg mord mbor mbsm mans mand manr mali) := by rw [emahd_c6, emahf_c7]; exact hD
    have h4 : (laI mtop mstr mgho mfai 48 mahd_c6 mahf_c7) ∧ (rg 240 (0) (100) mahd_c6) ∧ (rg 240 (0) (100) mahf_c7) := by (try rw [emahd_c6]); (try rw [emahf_c7]); exact h4
    obtain ⟨h4_0, h4_1, h4_2⟩ := h4
    refine lv_aload_n hx hb dX10_walk_14 rfl (lv_at hl 0 rfl) ?_
    refine lv_iload_n hx hb dX10_walk_15 rfl (lv_at hl 1 rfl) ?_
    refine lv_iconst (v := 0) hx hb dX10_walk_16 (by decide) ?_
    have kc0 : (0 : Int32).toInt = 0 := rfl
    refine wrV (As := [.int ro, .int 0]) (rest := []) (wr := []) (w2 := (fun u : US => (wMod cI cZ cQ b mday mdoo mdA mdB mfar mmar mtel mgai mfal mtop mstr mgho mfai mpto mwal (u.1 0) mahf_c7 mcho mbes mbyt mtxt mpos mtka mtok mdig mnum mfau mrdm mrea mlin mlne mthg mord mbor mbsm mans mand manr mali))) ⟨hx, hb, hml, hown, hts⟩ (k_X10_goWalk2 l dC dI cI cZ cQ b mday mdoo mdA mdB mfar mmar mtel mgai mfal mtop mstr mgho mfai mpto mwal mahd_c6 mahf_c7 mcho mbes mbyt mtxt mpos mtka mtok mdig mnum mfau mrdm mrea mlin mlne mthg mord mbor mbsm mans mand manr mali _ ro (0 : Int32) r_mday r_mdoo r_mdA r_mdB r_mmar r_mgai r_mfal r_mtop r_mstr r_mgho r_mfai h4_1 h4_2 r_mcho r_mbyt r_mpos r_mrdm r_mlin r_mthg r_mord r_mans (by omega) (by omega) (by omega) (by omega)) (cwV 2 hts gX10_walk_X10_goWalk rfl rfl rfl (by decide +kernel) ⟨Nat.le_of_ble_eq_true rfl, Nat.le_of_ble_eq_true rfl⟩) hP hD hS hA hK hN [0, 1, 2, 3, 4, 5, 6, 7, 8, 9, 10, 11, 12, 13, 14, 15, 16, 17, 18, 19, 20, 21, 22, 23, 24, 25] [] [0, 1, 2, 3, 4, 5, 6, 7, 8, 9, 10, 11, 12, 13, 14, 15, 16, 17, 18, 19, 20, 21, 22, 23, 24, 25] rfl rfl (by decide) (by decide) (by decide) (fun _ => rfl) (by decide) 0 10 rfl rfl rfl hl.1 rfl (Nat.le_of_ble_eq_true rfl) dX10_walk_17 ⟨Nat.le_of_ble_eq_true rfl, Nat.le_of_ble_eq_true rfl⟩ (fun r8 u10 H locs h9 hP hD hS => ?_)
    obtain ⟨mahd_c11, emahd_c11⟩ : ∃ f : Nat → Int32, f = (u10.1 0) := ⟨_, rfl⟩
    have hP : va_P (dC, dI) vwCl (wMod cI cZ cQ b mday mdoo mdA mdB mfar mmar mtel mgai mfal mtop mstr mgho mfai mpto mwal mahd_c11 mahf_c7 mcho mbes mbyt mtxt mpos mtka mtok mdig mnum mfau mrdm mrea mlin mlne mthg mord mbor mbsm mans mand manr mali) H := by rw [emahd_c11]; exact hP
    have hD : va_D A (wMod cI cZ cQ b mday mdoo mdA mdB mfar mmar mtel mgai mfal mtop mstr mgho mfai mpto mwal mahd_c11 mahf_c7 mcho mbes mbyt mtxt mpos mtka mtok mdig mnum mfau mrdm mrea mlin mlne mthg mord mbor mbsm mans mand manr mali) := by rw [emahd_c11]; exact hD
    have h9 : (gwS mtop mgai.toInt (0) (ro.toInt * 6) (ro.toInt * 6 + 6) mahd_c6 mahd_c11 r8.toInt) ∧ (rg 240 (0) (100) mahd_c11) := by (try rw [emahd_c11]); exact h9
    obtain ⟨h9_0, h9_1⟩ := h9
    refine lv_istore_n (lv' := [(2, .int r8), (0, .ref (b 39)), (1, .int ro)]) hx hb dX10_walk_20 rfl hl (by decide) rfl (fun ls hl => ?_)
    refine lv_bipush (v := 6) hx hb dX10_walk_21 (by decide) ?_
    refine lv_iload_n hx hb dX10_walk_23 rfl (lv_at hl 2 rfl) ?_
    refine lv_imul hx hb dX10_walk_24 ?_
    have f12 : (6 * ro).toInt = (6) * (ro.toInt) := mulC (show (6 : Int32).toInt = 6 from rfl) rfl (by omega) (by omega)
    refine lv_topi (fun x13 ex13 => ?_)
    have ix13 : x13.toInt = (6) * (ro.toInt) := by rw [ex13]; exact f12
    refine lv_istore_n (lv' := [(3, .int x13), (2, .int r8), (0, .ref (b 39)), (1, .int ro)]) hx hb dX10_walk_25 rfl hl (by decide) rfl (fun ls hl => ?_)
    have L26 : ∀ (nn : Nat) (y26_3 : Int32) (mstr_26 : Nat → Int32) (H : Heap) (locs : List Loc) (ls : Array Slot), (rg 48 (0) (100) mstr_26) → (0 ≤ (y26_3.toInt)) → ((y26_3.toInt) ≤ 48) → (6 * ro.toInt ≤ (y26_3.toInt)) → ((y26_3.toInt) ≤ 6 * ro.toInt + 6) → (wlI mstr mahd_c11 (6 * ro.toInt) (y26_3.toInt) mstr_26) → (48 - (y26_3.toInt)).toNat < nn → va_P (dC, dI) vwCl (wMod cI cZ cQ b mday mdoo mdA mdB mfar mmar mtel mgai mfal mtop mstr_26 mgho mfai mpto mwal mahd_c11 mahf_c7 mcho mbes mbyt mtxt mpos mtka mtok mdig mnum mfau mrdm mrea mlin mlne mthg mord mbor mbsm mans mand manr mali) H → va_D A (wMod cI cZ cQ b mday mdoo mdA mdB mfar mmar mtel mgai mfal mtop mstr_26 mgho mfai mpto mwal mahd_c11 mahf_c7 mcho mbes mbyt mtxt mpos mtka mtok mdig mnum mfau mrdm mrea mlin mlne mthg mord mbor mbsm mans mand manr mali) → va_S A s.heap H locs → lv_has ls 4 [(0, .ref (b 39)), (1, .int ro), (2, .int r8), (3, .int y26_3)] → W p l e (headSpec wsX10_walk { frames := 2, cells := 0, slots := 0, locals := 42 }).room s m ([.ref (b 39), .int ro] : List Value).toArray below meth c H locs 0 0 (MQ below (va_Qi (fun (r : Int32) (u : US) => (spWlkM mtop mstr mwal mgai mday ro r (u.1 2) (u.1 3)) ∧ (rg 240 (0) (100) (u.1 0)) ∧ (rg 240 (0) (100) (u.1 1)) ∧ (rg 48 (0) (100) (u.1 2))) (Bw (dC, dI) A (fun u : US => (wMod cI cZ cQ b mday mdoo mdA mdB mfar mmar mtel mgai mfal mtop (u.1 2) mgho mfai mpto (u.1 3) (u.1 0) (u.1 1) mcho mbes mbyt mtxt mpos mtka mtok mdig mnum mfau mrdm mrea mlin mlne mthg mord mbor mbsm mans mand manr mali))) A) ([.ref (b 39), .int ro] : List Value).toArray s 0 0 A) (F0 m 26 ls []) := by
      intro nn
      induction nn with
      | zero =>
        intro y26_3 mstr_26 H locs ls r_mstr_26 i26_0 i26_1 i26_2 i26_3 i26_4 hm26
        exact absurd hm26 (Nat.not_lt_zero _)
      | succ nn ih26 =>
        intro y26_3 mstr_26 H locs ls r_mstr_26 i26_0 i26_1 i26_2 i26_3 i26_4 hm26 hP hD hS hl
        refine lv_iload_n hx hb dX10_walk_26 rfl (lv_at hl 3 rfl) ?_
        refine lv_bipush (v := 6) hx hb dX10_walk_27 (by decide) ?_
        refine lv_iload_n hx hb dX10_walk_29 rfl (lv_at hl 1 rfl) ?_
        refine lv_imul hx hb dX10_walk_30 ?_
        have f14 : (6 * ro).toInt = (6) * (ro.toInt) := mulC (show (6 : Int32).toInt = 6 from rfl) rfl (by omega) (by omega)
        refine lv_bipush (v := 6) hx hb dX10_walk_31 (by decide) ?_
        refine lv_iadd hx hb dX10_walk_33 ?_
        have f15 : ((6 * ro) + 6).toInt = ((6) * (ro.toInt)) + (6) := addC f14 (show (6 : Int32).toInt = 6 from rfl) (by omega) (by omega)
        refine lv_icmp_ge (tgt := 55) hx hb dX10_walk_34 (by decide) (fun c16 => ?_) (fun c16 => ?_)
        · have dc16 : ((6) * (ro.toInt)) + (6) ≤ y26_3.toInt := leC f15 rfl c16
          refine lv_aload_n hx hb dX10_walk_55 rfl (lv_at hl 0 rfl) ?_
          refine va_get (D := (dC, dI)) (ci := 10) (v := .ref (b 14)) (C := RX10) (T := TX10) (N := 39) hx hb hts inX10 hown hK hP 0 rfl rfl 14 (by decide) lf47 (fun _ h9 => h9) rfl dX10_walk_56 ?_
          refine lv_iload_n hx hb dX10_walk_59 rfl (lv_at hl 1 rfl) ?_
          refine lv_aload_n hx hb dX10_walk_60 rfl (lv_at hl 0 rfl) ?_
          refine va_get (D := (dC, dI)) (ci := 10) (v := .int mday) (C := RX10) (T := TX10) (N := 39) hx hb hts inX10 hown hK hP 0 rfl rfl 0 (by decide) lf125 (fun _ h9 => h9) rfl dX10_walk_61 ?_
          have b17 : vp_in ro 8 := inC rfl (by omega) (by omega)
          refine va_iast hx hb hK hP hD hS 11 0 rfl rfl b17 dX10_walk_64 (fun H locs hP hD hS => ?_)
          obtain ⟨mwal_u18, emwal_u18⟩ : ∃ f : Nat → Int32, f = upd mwal ro.toNatClampNeg mday := ⟨_, rfl⟩
          have hP : va_P (dC, dI) vwCl (wMod cI cZ cQ b mday mdoo mdA mdB mfar mmar mtel mgai mfal mtop mstr_26 mgho mfai mpto mwal_u18 mahd_c11 mahf_c7 mcho mbes mbyt mtxt mpos mtka mtok mdig mnum mfau mrdm mrea mlin mlne mthg mord mbor mbsm mans mand manr mali) H := by rw [emwal_u18]; exact hP
          have hD : va_D A (wMod cI cZ cQ b mday mdoo mdA mdB mfar mmar mtel mgai mfal mtop mstr_26 mgho mfai mpto mwal_u18 mahd_c11 mahf_c7 mcho mbes mbyt mtxt mpos mtka mtok mdig mnum mfau mrdm mrea mlin mlne mthg mord mbor mbsm mans mand manr mali) := by rw [emwal_u18]; exact hD
          refine lv_iload_n hx hb dX10_walk_65 rfl (lv_at hl 2 rfl) ?_
          exact W.iret (v := r8) hx hb hr (fun tq ht hW => ⟨⟨r8, (uS [mahd_c11, mahf_c7, mstr_26, mwal_u18] 0 (fun _ => 0)), rfl, ⟨(show spWlkM mtop mstr mwal mgai mday ro r8 mstr_26 mwal_u18 from by (first | exact Or.inl ⟨by omega, rfl, rfl, rfl⟩ | exact Or.inr ⟨by omega, wl_end (by assumption) (by omega) (by assumption) (by first | rfl | omega) (by omega) (by omega) (by omega) i26_4 (by omega) (by omega), by first | assumption | rfl⟩)), h9_1, h4_2, r_mstr_26⟩, by rw [ht]; exact hP, hD⟩, hS.F ht⟩) hS.2.2 dX10_walk_66
        · have dc16 : y26_3.toInt < ((6) * (ro.toInt)) + (6) := nleC f15 rfl c16
          refine lv_aload_n hx hb dX10_walk_37 rfl (lv_at hl 0 rfl) ?_
          refine va_get (D := (dC, dI)) (ci := 10) (v := .ref (b 10)) (C := RX10) (T := TX10) (N := 39) hx hb hts inX10 hown hK hP 0 rfl rfl 10 (by decide) lf35 (fun _ h9 => h9) rfl dX10_walk_38 ?_
          refine lv_iload_n hx hb dX10_walk_41 rfl (lv_at hl 3 rfl) ?_
          refine lv_aload_n hx hb dX10_walk_42 rfl (lv_at hl 0 rfl) ?_
          refine va_get (D := (dC, dI)) (ci := 10) (v := .ref (b 15)) (C := RX10) (T := TX10) (N := 39) hx hb hts inX10 hown hK hP 0 rfl rfl 15 (by decide) lf50 (fun _ h9 => h9) rfl dX10_walk_43 ?_
          refine lv_iload_n hx hb dX10_walk_46 rfl (lv_at hl 3 rfl) ?_
          have b19 : vp_in y26_3 240 := inC rfl (by omega) (by omega)
          refine va_iald hx hb hK hP 12 0 rfl rfl b19 dX10_walk_47 ?_
          have g20 : 0 ≤ (mahd_c11 y26_3.toNatClampNeg).toInt ∧ (mahd_c11 y26_3.toNatClampNeg).toInt ≤ 100 := rg_at h9_1 b19
          refine lv_topi (fun x21 ex21 => ?_)
          have ix21 : x21.toInt = (mahd_c11 y26_3.toNatClampNeg).toInt := by rw [ex21]
          have b22 : vp_in y26_3 48 := inC rfl (by omega) (by omega)
          have g23 : rg 48 (0) (100) (upd mstr_26 y26_3.toNatClampNeg x21) := rg_upd r_mstr_26 rfl (by omega) (by omega)
          refine va_iast hx hb hK hP hD hS 7 0 rfl rfl b22 dX10_walk_48 (fun H locs hP hD hS => ?_)
          obtain ⟨mstr_u24, emstr_u24⟩ : ∃ f : Nat → Int32, f = upd mstr_26 y26_3.toNatClampNeg x21 := ⟨_, rfl⟩
          have rmstr_u24 : rg 48 (0) (100) mstr_u24 := by rw [emstr_u24]; exact g23
          have hP : va_P (dC, dI) vwCl (wMod cI cZ cQ b mday mdoo mdA mdB mfar mmar mtel mgai mfal mtop mstr_u24 mgho mfai mpto mwal mahd_c11 mahf_c7 mcho mbes mbyt mtxt mpos mtka mtok mdig mnum mfau mrdm mrea mlin mlne mthg mord mbor mbsm mans mand manr mali) H := by rw [emstr_u24]; exact hP
          have hD : va_D A (wMod cI cZ cQ b mday mdoo mdA mdB mfar mmar mtel mgai mfal mtop mstr_u24 mgho mfai mpto mwal mahd_c11 mahf_c7 mcho mbes mbyt mtxt mpos mtka mtok mdig mnum mfau mrdm mrea mlin mlne mthg mord mbor mbsm mans mand manr mali) := by rw [emstr_u24]; exact hD
          obtain ⟨z25, ez25⟩ : ∃ y : Int32, y = y26_3 + 1 := ⟨_, rfl⟩
          have iz25 : z25.toInt = y26_3.toInt + 1 := by rw [ez25]; exact addC rfl rfl (by omega) (by omega)
          refine lv_iinc (v := z25) (lv' := [(3, .int z25), (0, .ref (b 39)), (1, .int ro), (2, .int r8)]) hx hb dX10_walk_49 hl (k := 3) rfl (by rw [ez25]; rfl) (by decide) rfl (fun ls hl => ?_)
          refine lv_goto (tgt := 26) hx hb dX10_walk_52 (by decide) ?_
          exact ih26 z25 mstr_u24 _ _ _ rmstr_u24 (by omega) (by omega) (by omega) (by omega) (by (first | exact wl_step i26_4 (by assumption) (by assumption) (by omega) (by omega) (by omega) | exact wl_init (by omega))) (by omega) hP hD hS (lv_sub hl [1, 2, 3, 0] rfl)
    exact L26 _ x13 mstr _ _ _ r_mstr (by omega) (by omega) (by omega) (by omega) (by (first | exact wl_init (by omega) | exact wl_step i26_4 (by assumption) (by assumption) (by omega) (by omega) (by omega))) (Nat.lt_succ_self _) hP hD hS (lv_sub hl [2, 3, 1, 0] rfl)
  · refine lv_if_ne (tgt := 10) hx hb dX10_walk_4 (by decide) (fun c9 => absurd (by decide) c9) (fun _ => ?_)
    refine lv_bipush (v := (-2)) hx hb dX10_walk_7 (by decide) ?_
    exact W.iret (v := (-2)) hx hb hr (fun tq ht hW => ⟨⟨(-2), (uS [mahd, mahf, mstr, mwal] 0 (fun _ => 0)), rfl, ⟨(show spWlkM mtop mstr mwal mgai mday ro ((-2) : Int32) mstr mwal from by (try rw [show ((-2) : Int32).toInt = (-2) from (show ((-2) : Int32).toInt = (-2) from rfl)]); (first | exact Or.inl ⟨by omega, rfl, rfl, rfl⟩ | exact Or.inr ⟨by omega, wl_end (by assumption) (by omega) (by assumption) (by first | rfl | omega) (by omega) (by omega) (by omega) i26_4 (by omega) (by omega), by first | assumption | rfl⟩)), r_mahd, r_mahf, r_mstr⟩, by rw [ht]; exact hP, hD⟩, hS.F ht⟩) hS.2.2 dX10_walk_9
