def spClrM (mt ms mg mf : Nat → Int32) (c r : Int32) (mt' ms' mg' mf' : Nat → Int32) : Prop := ((c.toInt < 0 ∨ 47 < c.toInt) ∧ r = -2 ∧ mt' = mt ∧ ms' = ms ∧ mg' = mg ∧ mf' = mf) ∨ ((0 ≤ c.toInt ∧ c.toInt ≤ 47) ∧ mt c.toNatClampNeg = -1 ∧ r = -4 ∧ mt' = mt ∧ ms' = ms ∧ mg' = mg ∧ mf' = mf) ∨ ((0 ≤ c.toInt ∧ c.toInt ≤ 47) ∧ mt c.toNatClampNeg ≠ -1 ∧ r = mt c.toNatClampNeg ∧ mt' = upd mt c.toNatClampNeg (-1) ∧ ms' = upd ms c.toNatClampNeg 0 ∧ mg' = upd mg c.toNatClampNeg (-1) ∧ mf' = upd mf c.toNatClampNeg 0)
theorem clrC_no {top gho : Nat → Int32} {c x : Int32} (h0 : 0 ≤ c.toInt ∧ c.toInt ≤ 47) (hx : x = top c.toNatClampNeg) (hc : x = -1) : spClrC top gho c (-4) top gho := Or.inr (Or.inl ⟨h0, hx.symm.trans hc, rfl, rfl, rfl⟩)
theorem clrC_ok {top gho top' gho' : Nat → Int32} {c r : Int32} (h0 : 0 ≤ c.toInt ∧ c.toInt ≤ 47) (hx : r = top c.toNatClampNeg) (hc : ¬ r = -1) (h1 : top' = upd top c.toNatClampNeg (-1)) (h2 : gho' = upd gho c.toNatClampNeg (-1)) : spClrC top gho c r top' gho' := Or.inr (Or.inr ⟨h0, fun q => hc (hx.trans q), hx, h1, h2⟩)
theorem clrM_no {mt ms mg mf : Nat → Int32} {c : Int32} (h0 : 0 ≤ c.toInt ∧ c.toInt ≤ 47) (hc : mt c.toNatClampNeg = -1) : spClrM mt ms mg mf c (-4) mt ms mg mf := Or.inr (Or.inl ⟨h0, hc, rfl, rfl, rfl, rfl, rfl⟩)
theorem clrM_ok {mt ms mg mf mt' ms' mg' mf' : Nat → Int32} {c r : Int32} (h0 : 0 ≤ c.toInt ∧ c.toInt ≤ 47) (hx : r = mt c.toNatClampNeg) (hc : ¬ mt c.toNatClampNeg = -1) (h1 : mt' = upd mt c.toNatClampNeg (-1)) (h2 : ms' = upd ms c.toNatClampNeg 0) (h3 : mg' = upd mg c.toNatClampNeg (-1)) (h4 : mf' = upd mf c.toNatClampNeg 0) : spClrM mt ms mg mf c r mt' ms' mg' mf' := Or.inr (Or.inr ⟨h0, hc, hx, h1, h2, h3, h4⟩)
theorem crI_clr {top gho ghs top' gho' : Nat → Int32} {c : Int32} (h : crI top gho ghs) (et : top' = upd top c.toNatClampNeg (-1)) (eg : gho' = upd gho c.toNatClampNeg (-1)) : crI top' gho' ghs := by
  subst et; subst eg
  intro j hj
  by_cases e : j = c.toNatClampNeg
  · subst e; rw [pk_us, pk_us]; exact ⟨fun _ => rfl, .inl rfl⟩
  · rw [pk_un e, pk_un e]; exact h j hj
theorem spClrC_rel {top str gho ghs pto wal mt ms mg mf mp mw top' gho' mt' ms' mg' mf' : Nat → Int32} {c r r2 : Int32} (R : crR top str gho ghs pto wal mt ms mg mf mp mw) (h1 : spClrC top gho c r top' gho') (h2 : spClrM mt ms mg mf c r2 mt' ms' mg' mf') : r = r2 ∧ crR top' str gho' ghs pto wal mt' ms' mg' mf' mp mw := by
  have hc : (0 ≤ c.toInt ∧ c.toInt ≤ 47) → c.toNatClampNeg < 48 := fun q => by rw [clC (x := c) rfl]; omega
  rcases h1 with ⟨a, b, e1, e2⟩ | ⟨a, f, b, e1, e2⟩ | ⟨a, f, b, e1, e2⟩
  · rcases h2 with ⟨a2, b2, d1, d2, d3, d4⟩ | ⟨a2, b2⟩ | ⟨a2, b2⟩
    · rw [b, b2, e1, e2, d1, d2, d3, d4]; exact ⟨rfl, R⟩
    · exfalso; omega
    · exfalso; omega
  · rcases h2 with ⟨a2, b2⟩ | ⟨a2, f2, b2, d1, d2, d3, d4⟩ | ⟨a2, f2, -⟩
    · exfalso; omega
    · rw [b, b2, e1, e2, d1, d2, d3, d4]; exact ⟨rfl, R⟩
    · exact absurd ((R.1 _ (hc a)).1.symm.trans f) f2
  · rcases h2 with ⟨a2, b2⟩ | ⟨a2, f2, -⟩ | ⟨a2, f2, b2, d1, d2, d3, d4⟩
    · exfalso; omega
    · exact absurd ((R.1 _ (hc a)).1.trans f2) f
    · rw [b, b2, e1, e2, d1, d2, d3, d4]
      refine ⟨(R.1 _ (hc a)).1, fun j hj => ?_, R.2⟩
      by_cases e : j = c.toNatClampNeg
      · subst e
        rw [pk_us, pk_us, pk_us, pk_us, pk_us, pk_us]
        exact ⟨rfl, rfl, (R.1 _ hj).2.2.1, fun z => absurd rfl z, fun z => absurd rfl z⟩
      · rw [pk_un e, pk_un e, pk_un e, pk_un e, pk_un e, pk_un e]; exact R.1 j hj
-- days
def spDysC (mar f top str gho ghs : Nat → Int32) (tel day n r day' : Int32) (str' gho' ghs' : Nat → Int32) : Prop := spDays day n r day' ∧ (((n.toInt < 1 ∨ 60 < n.toInt ∨ 400 < day.toInt + n.toInt) ∧ str' = str ∧ gho' = gho ∧ ghs' = ghs) ∨ ((1 ≤ n.toInt ∧ n.toInt ≤ 60 ∧ day.toInt + n.toInt ≤ 400) ∧ dyC mar f top str gho ghs tel n.toInt.toNat str' gho' ghs'))
def spDysM (mar f top str gho fai : Nat → Int32) (tel day n r day' : Int32) (str' gho' fai' : Nat → Int32) : Prop := spDays day n r day' ∧ (((n.toInt < 1 ∨ 60 < n.toInt ∨ 400 < day.toInt + n.toInt) ∧ str' = str ∧ gho' = gho ∧ fai' = fai) ∨ ((1 ≤ n.toInt ∧ n.toInt ≤ 60 ∧ day.toInt + n.toInt ≤ 400) ∧ dyM mar f top str gho fai tel n.toInt.toNat str' gho' fai'))
theorem cw_nn {mar top : Nat → Int32} {tel : Int32} {c lo : Nat} : ∀ k, 0 ≤ cwF mar top tel c lo k
  | 0 => Int.le_refl 0
  | k + 1 => by
    have := cw_nn (mar := mar) (top := top) (tel := tel) (c := c) (lo := lo) k
    show 0 ≤ cwF mar top tel c lo k + (if crdB mar top tel (lo + k) c then 1 else 0)
    cases crdB mar top tel (lo + k) c
    · show 0 ≤ cwF mar top tel c lo k + 0
      omega
    · show 0 ≤ cwF mar top tel c lo k + 1
      omega
theorem cw_eq {mar t t2 : Nat → Int32} {tel : Int32} {c lo : Nat} (h : ∀ j : Nat, j < 48 → t j = t2 j) (hc : c < 48) : ∀ k, lo + k ≤ 48 → cwF mar t tel c lo k = cwF mar t2 tel c lo k
  | 0, _ => rfl
  | k + 1, hk => by
    show cwF mar t tel c lo k + (if crdB mar t tel (lo + k) c then 1 else 0) = cwF mar t2 tel c lo k + (if crdB mar t2 tel (lo + k) c then 1 else 0)
    have e : crdB mar t tel (lo + k) c = crdB mar t2 tel (lo + k) c := by unfold crdB; rw [h (lo + k) (by omega), h c hc]
    rw [cw_eq h hc k (by omega), e]
theorem crI_days {mar f top str gho ghs str' gho' ghs' : Nat → Int32} {tel : Int32} {n : Nat} (h : crI top gho ghs) (q : dyC mar f top str gho ghs tel n str' gho' ghs') : crI top gho' ghs' := by
  intro j hj
  rcases (q j hj).2 with ⟨a, b⟩ | ⟨a, b, -⟩ | ⟨a, b, d, e⟩
  · exact ⟨fun _ => b, .inl b⟩
  · exact ⟨fun _ => b, .inl b⟩
  · exact ⟨fun z => absurd ((h j hj).1 z) a, .inr (by rw [e]; exact d)⟩
theorem spDays_one {d n r d' r2 d2 : Int32} (h1 : spDays d n r d') (h2 : spDays d n r2 d2) : r = r2 ∧ d' = d2 := by
  unfold spDays at h1 h2
  rcases h1 with ⟨a, rfl, rfl⟩ | ⟨a, rfl, rfl⟩ <;> rcases h2 with ⟨c, rfl, rfl⟩ | ⟨c, rfl, rfl⟩ <;> first | exact ⟨rfl, rfl⟩ | (exfalso; omega)
theorem spDysC_rel {mar mm f mfl top str gho ghs pto wal mt ms mg mf mp mw str' gho' ghs' ms' mg' mf' : Nat → Int32} {tel mtel day mday n r r2 day' mday' : Int32} (R : crR top str gho ghs pto wal mt ms mg mf mp mw) (em : mar = mm) (et : tel = mtel) (ed : day = mday) (ef : ∀ j, j < 11 → f j = mfl j) (hf : rg 11 0 30 f) (hs : rg 48 0 100 str) (hg : rg 48 0 100 ghs) (h1 : spDysC mar f top str gho ghs tel day n r day' str' gho' ghs') (h2 : spDysM mm mfl mt ms mg mf mtel mday n r2 mday' ms' mg' mf') : r = r2 ∧ day' = mday' ∧ crR top str' gho' ghs' pto wal mt ms' mg' mf' mp mw := by
  subst em; subst et; subst ed
  have d := spDays_one h1.1 h2.1
  refine ⟨d.1, d.2, fun j hj => ?_, R.2⟩
  have R1 := R.1 j hj
  rcases h1.2 with ⟨a, e1, e2, e3⟩ | ⟨a, q1⟩
  · rcases h2.2 with ⟨-, d1, d2, d3⟩ | ⟨b, -⟩
    · rw [e1, e2, e3, d1, d2, d3]; exact R1
    · exfalso; omega
  · rcases h2.2 with ⟨b, -⟩ | ⟨-, q2⟩
    · exfalso; omega
    · have w1 := q1 j hj
      have w2 := q2 j hj
      have hsj := hs j hj
      have hgj := hg j hj
      refine ⟨R1.1, ?_, R1.2.2.1, fun t => ?_, fun z => ?_⟩
      · rcases w1.2 with ⟨u1, u2⟩ | ⟨u1, u2, u3⟩ | ⟨u1, u2, u3, u4⟩
        · rw [u2, w2.2.2.1]
          rw [w2.2.1]
          unfold fnt
          rw [if_pos (R1.2.1.symm.trans u1)]
          exact itf_zero (fun k hk => by rw [← ef k hk]; exact hf k hk) _
        · rw [u2, w2.2.2.1]
          rw [w2.2.1]
          unfold fnt
          rw [if_neg (fun z => u1 (R1.2.1.trans z)), ← R1.2.2.2.2 u1, ← itf_eq ef hf hgj.1 hgj.2 (Int.le_refl 0)]
          exact u3
        · rw [u2, w2.2.2.2]
          · exact R1.2.1
          · rw [w2.2.1]
            unfold fnt
            rw [if_neg (fun z => u1 (R1.2.1.trans z)), ← R1.2.2.2.2 u1, ← itf_eq ef hf hgj.1 hgj.2 (Int.le_refl 0)]
            omega
      · apply Int32.toInt_inj.mp
        have t2 : mt j ≠ -1 := fun z => t (R1.1.trans z)
        rw [w1.1 t, w2.1 t2, ← R1.2.2.2.1 t, itf_eq ef hf hsj.1 hsj.2 (cw_nn 6), cw_eq (fun j hj => (R.1 j hj).1) hj 6 (by omega)]
      · apply Int32.toInt_inj.mp
        rcases w1.2 with ⟨u1, u2⟩ | ⟨u1, u2, u3⟩ | ⟨u1, u2, u3, u4⟩
        · exact absurd u2 z
        · exact absurd u2 z
        · rw [u4, w2.2.1]
          unfold fnt
          rw [if_neg (fun z => u1 (R1.2.1.trans z)), ← R1.2.2.2.2 u1, ← itf_eq ef hf hgj.1 hgj.2 (Int.le_refl 0)]
-- walk
def spWlkC (top str wal : Nat → Int32) (gai day ro r : Int32) (str' wal' : Nat → Int32) : Prop := ((ro.toInt < 0 ∨ 7 < ro.toInt) ∧ r = -2 ∧ str' = str ∧ wal' = wal) ∨ ((0 ≤ ro.toInt ∧ ro.toInt ≤ 7) ∧ wkS top str gai.toInt (ro.toInt * 6) (ro.toInt * 6 + 6) str' r.toInt ∧ wal' = upd wal ro.toNatClampNeg day)
def spWlkM (top str wal : Nat → Int32) (gai day ro r : Int32) (str' wal' : Nat → Int32) : Prop := ((ro.toInt < 0 ∨ 7 < ro.toInt) ∧ r = -2 ∧ str' = str ∧ wal' = wal) ∨ ((0 ≤ ro.toInt ∧ ro.toInt ≤ 7) ∧ wkM top str gai.toInt (ro.toInt * 6) (ro.toInt * 6 + 6) str' r.toInt ∧ wal' = upd wal ro.toNatClampNeg day)
theorem wkF_eq {t t2 s s2 : Nat → Int32} {g : Int} {lo : Nat} (h : ∀ j : Nat, j < 48 → t j = t2 j) (hs : ∀ j : Nat, j < 48 → t j ≠ -1 → s j = s2 j) : ∀ k, lo + k ≤ 48 → wkF t s g lo k = wkF t2 s2 g lo k
  | 0, _ => rfl
  | k + 1, hk => by
    show wkF t s g lo k + (if t (lo + k) = -1 then 0 else gn g (s (lo + k)).toInt) = wkF t2 s2 g lo k + (if t2 (lo + k) = -1 then 0 else gn g (s2 (lo + k)).toInt)
    rw [wkF_eq h hs k (by omega), ← h (lo + k) (by omega)]
    by_cases z : t (lo + k) = -1
    · rw [if_pos z, if_pos z]
    · rw [if_neg z, if_neg z, hs (lo + k) (by omega) z]
theorem spWlkC_rel {top str gho ghs pto wal mt ms mg mf mp mw str' wal' ms' mw' : Nat → Int32} {gai mgai day mday ro r r2 : Int32} (R : crR top str gho ghs pto wal mt ms mg mf mp mw) (eg : gai = mgai) (ed : day = mday) (h1 : spWlkC top str wal gai day ro r str' wal') (h2 : spWlkM mt ms mw mgai mday ro r2 ms' mw') : r = r2 ∧ crR top str' gho ghs pto wal' mt ms' mg mf mp mw' := by
  subst eg; subst ed
  rcases h1 with ⟨a, b, e1, e2⟩ | ⟨a, q1, e1⟩
  · rcases h2 with ⟨-, b2, d1, d2⟩ | ⟨a2, -⟩
    · rw [b, b2, e1, e2, d1, d2]; exact ⟨rfl, R⟩
    · exfalso; omega
  · rcases h2 with ⟨a2, -⟩ | ⟨a2, q2, d1⟩
    · exfalso; omega
    · refine ⟨?_, fun j hj => ?_, fun j hj => ?_⟩
      · apply Int32.toInt_inj.mp
        rw [q1.2, q2.2]
        exact wkF_eq (fun j hj => (R.1 j hj).1) (fun j hj => (R.1 j hj).2.2.2.1) _ (by omega)
      · have r := R.1 j hj
        refine ⟨r.1, r.2.1, r.2.2.1, fun t => ?_, r.2.2.2.2⟩
        have t2 : mt j ≠ -1 := fun z => t (r.1.trans z)
        have w1 := q1.1 j hj
        have w2 := q2.1 j hj t2
        by_cases c : ro.toInt * 6 ≤ (j : Int) ∧ (j : Int) < ro.toInt * 6 + 6
        · apply Int32.toInt_inj.mp
          rw [w1.1 ⟨c.1, c.2, t⟩, w2.1 c, r.2.2.2.1 t]
        · rw [w1.2 (fun z => c ⟨z.1, z.2.1⟩), w2.2 c]; exact r.2.2.2.1 t
      · rw [e1, d1]
        by_cases e : j = ro.toNatClampNeg
        · subst e; rw [pk_us, pk_us]
        · rw [pk_un e, pk_un e]; exact R.2 j hj
-- corner
def spCor (top str gho ghs pto : Nat → Int32) (c w r : Int32) : Prop :=
  ((c.toInt < 0 ∨ 47 < c.toInt) ∧ r = -2) ∨ ((0 ≤ c.toInt ∧ c.toInt ≤ 47) ∧ ((w.toInt = 0 ∧ r = top c.toNatClampNeg) ∨ (w.toInt = 1 ∧ ((top c.toNatClampNeg = -1 ∧ r = -1) ∨ (top c.toNatClampNeg ≠ -1 ∧ r = str c.toNatClampNeg))) ∨ (w.toInt = 2 ∧ r = gho c.toNatClampNeg) ∨ (w.toInt = 3 ∧ ((gho c.toNatClampNeg = -1 ∧ r = -1) ∨ (gho c.toNatClampNeg ≠ -1 ∧ r = ghs c.toNatClampNeg))) ∨ (w.toInt = 4 ∧ r = pto c.toNatClampNeg) ∨ ((w.toInt < 0 ∨ 4 < w.toInt) ∧ r = -3)))
theorem spCor_det {top str gho ghs pto : Nat → Int32} {c w r r2 : Int32} (h1 : spCor top str gho ghs pto c w r) (h2 : spCor top str gho ghs pto c w r2) : r = r2 := by
  rcases h1 with ⟨a, b⟩ | ⟨a, b⟩
  · rcases h2 with ⟨a2, b2⟩ | ⟨a2, b2⟩
    · rw [b, b2]
    · exfalso; omega
  · rcases h2 with ⟨a2, b2⟩ | ⟨a2, b2⟩
    · exfalso; omega
    · rcases b with ⟨w1, b⟩ | ⟨w1, b⟩ | ⟨w1, b⟩ | ⟨w1, b⟩ | ⟨w1, b⟩ | ⟨w1, b⟩ <;> rcases b2 with ⟨w2, b2⟩ | ⟨w2, b2⟩ | ⟨w2, b2⟩ | ⟨w2, b2⟩ | ⟨w2, b2⟩ | ⟨w2, b2⟩ <;> first | (exfalso; omega) | (rw [b, b2]) | skip
      · rcases b with ⟨p, b⟩ | ⟨p, b⟩ <;> rcases b2 with ⟨p2, b2⟩ | ⟨p2, b2⟩ <;> first | exact absurd p p2 | exact absurd p2 p | rw [b, b2]
      · rcases b with ⟨p, b⟩ | ⟨p, b⟩ <;> rcases b2 with ⟨p2, b2⟩ | ⟨p2, b2⟩ <;> first | exact absurd p p2 | exact absurd p2 p | rw [b, b2]
theorem spCor_rel {top str gho ghs pto wal mt ms mg mf mp mw : Nat → Int32} {c w r r2 : Int32} (R : crR top str gho ghs pto wal mt ms mg mf mp mw) (h1 : spCor top str gho ghs pto c w r) (h2 : spCor mt ms mg mf mp c w r2) : r = r2 := by
  refine spCor_det h1 ?_
  rcases h2 with h | ⟨a, h⟩
  · exact .inl h
  · have R1 := R.1 c.toNatClampNeg (by rw [clC (x := c) rfl]; omega)
    refine .inr ⟨a, ?_⟩
    rw [R1.1, R1.2.1, R1.2.2.1]
    rcases h with h | ⟨h, k⟩ | h | ⟨h, k⟩ | h
    · exact .inl h
    · refine .inr (.inl ⟨h, ?_⟩)
      rcases k with k | ⟨k, l⟩
      · exact .inl k
      · exact .inr ⟨k, l.trans (R1.2.2.2.1 (fun z => k (R1.1.symm.trans z))).symm⟩
    · exact .inr (.inr (.inl h))
    · refine .inr (.inr (.inr (.inl ⟨h, ?_⟩)))
      rcases k with k | ⟨k, l⟩
      · exact .inl k
      · exact .inr ⟨k, l.trans (R1.2.2.2.2 (fun z => k (R1.2.1.symm.trans z))).symm⟩
    · exact .inr (.inr (.inr (.inr h)))
