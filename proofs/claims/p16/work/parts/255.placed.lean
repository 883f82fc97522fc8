-- ===== which THING stands where: the row of CORNERS and its reverse =====
def plOK (top pla : Nat → Int32) : Prop := ∀ t : Nat, t < 24 → ((pla t = -1 ∧ ∀ c : Nat, c < 48 → top c ≠ nI t) ∨ (∃ c : Nat, c < 48 ∧ pla t = nI c ∧ top c = nI t ∧ ∀ d : Nat, d < 48 → top d = nI t → d = c))
def whr (T : Nat → Int32) (t r : Int32) : Prop := (r = -1 ∧ ∀ j : Nat, j < 48 → T j ≠ t) ∨ (∃ j : Nat, j < 48 ∧ r = nI j ∧ T j = t)
def whu (T : Nat → Int32) (t r : Int32) : Prop := (r = -1 ∧ ∀ j : Nat, j < 48 → T j ≠ t) ∨ (∃ j : Nat, j < 48 ∧ r = nI j ∧ T j = t ∧ ∀ d : Nat, d < 48 → T d = t → d = j)
def whk (T : Nat → Int32) (t r : Int32) (n : Int) : Prop := (r = -1 ∧ ∀ j : Nat, (j : Int) < n → T j ≠ t) ∨ (∃ j : Nat, j < 48 ∧ r = nI j ∧ T j = t)
def spWhere (T : Nat → Int32) (t r : Int32) : Prop := ((t.toInt < 0 ∨ 23 < t.toInt) ∧ r = -2) ∨ ((0 ≤ t.toInt ∧ t.toInt ≤ 23) ∧ whu T t r)
def spWhereM (T : Nat → Int32) (t r : Int32) : Prop := ((t.toInt < 0 ∨ 23 < t.toInt) ∧ r = -2) ∨ ((0 ≤ t.toInt ∧ t.toInt ≤ 23) ∧ whr T t r)
theorem nI_nm1 {k : Nat} (h : k < 48) : nI k ≠ -1 := by
  intro q
  have h1 := congrArg Int32.toInt q
  rw [nI_toInt (by omega), show ((-1 : Int32)).toInt = -1 from rfl] at h1
  omega
theorem nI_inj {a b : Nat} (ha : a < 48) (hb : b < 48) (h : nI a = nI b) : a = b := (nI_eq (by omega) (by omega)).mp h
theorem pl_u {top pla : Nat → Int32} (h : plOK top pla) {t : Int32} (h0 : 0 ≤ t.toInt) (h1 : t.toInt ≤ 23) : whu top t (pla t.toNatClampNeg) := by
  have e : nI t.toInt.toNat = t := nI_toNat h0
  have := h t.toInt.toNat (by omega)
  rw [e] at this
  rw [clC (x := t) rfl]
  exact this
theorem whu_n {T : Nat → Int32} {t r : Int32} (h : whu T t r) (hr : r = -1) : ∀ j : Nat, j < 48 → T j ≠ t := by
  rcases h with ⟨-, h⟩ | ⟨j, hj, e, -⟩
  · exact h
  · rw [hr] at e; exact absurd e.symm (nI_nm1 hj)
theorem whu_y {T : Nat → Int32} {t r : Int32} (h : whu T t r) (hr : ¬ r = -1) : ∃ j : Nat, j < 48 ∧ T j = t := by
  rcases h with ⟨e, -⟩ | ⟨j, hj, -, e, -⟩
  · exact absurd e hr
  · exact ⟨j, hj, e⟩
theorem whr_n {T : Nat → Int32} {t r : Int32} (h : whr T t r) (hr : r = -1) : ∀ j : Nat, j < 48 → T j ≠ t := by
  rcases h with ⟨-, h⟩ | ⟨j, hj, e, -⟩
  · exact h
  · rw [hr] at e; exact absurd e.symm (nI_nm1 hj)
theorem whr_y {T : Nat → Int32} {t r : Int32} (h : whr T t r) (hr : ¬ r = -1) : ∃ j : Nat, j < 48 ∧ T j = t := by
  rcases h with ⟨e, -⟩ | ⟨j, hj, -, e⟩
  · exact absurd e hr
  · exact ⟨j, hj, e⟩
theorem whk_0 {T : Nat → Int32} {t : Int32} : whk T t (-1) 0 := Or.inl ⟨rfl, fun j hj => absurd hj (by omega)⟩
theorem whk_hit {T : Nat → Int32} {t y : Int32} {Z : Int} (h : T y.toNatClampNeg = t) (h0 : 0 ≤ y.toInt) (h1 : y.toInt ≤ 47) : whk T t y Z := by
  refine Or.inr ⟨y.toInt.toNat, by omega, (nI_toNat h0).symm, ?_⟩
  rw [← clC (x := y) rfl]; exact h
theorem whk_miss {T : Nat → Int32} {t r y : Int32} {Z : Int} (h : whk T t r y.toInt) (hn : ¬ T y.toNatClampNeg = t) (h0 : 0 ≤ y.toInt) (hz : Z = y.toInt + 1) : whk T t r Z := by
  rcases h with ⟨e, h⟩ | h
  · refine Or.inl ⟨e, fun j hj => ?_⟩
    by_cases q : j = y.toInt.toNat
    · subst q; rw [← clC (x := y) rfl]; exact hn
    · exact h j (by omega)
  · exact Or.inr h
theorem whk_fin {T : Nat → Int32} {t r : Int32} {Z : Int} (h : whk T t r Z) (hz : 48 ≤ Z) : whr T t r := by
  rcases h with ⟨e, h⟩ | h
  · exact Or.inl ⟨e, fun j hj => h j (by omega)⟩
  · exact Or.inr h
theorem pl_top {T : Nat → Int32} {cn : Nat} (hr : rg 48 (-1) 23 T) (hc : cn < 48) (hv : T cn ≠ -1) : ∃ vn : Nat, vn < 24 ∧ T cn = nI vn ∧ (T cn).toNatClampNeg = vn := by
  obtain ⟨h1, h2⟩ := hr cn hc
  have h3 : (T cn).toInt ≠ -1 := fun q => hv (Int32.toInt_inj.mp q)
  refine ⟨(T cn).toInt.toNat, by omega, (nI_toNat (by omega)).symm, clC rfl⟩
theorem pl_put {T pla T' pla' : Nat → Int32} {t c : Int32} (h : plOK T pla) (h0 : 0 ≤ t.toInt ∧ t.toInt ≤ 23 ∧ 0 ≤ c.toInt ∧ c.toInt ≤ 47) (hp : pla t.toNatClampNeg = -1) (hr : rg 48 (-1) 23 T) (h1 : T' = upd T c.toNatClampNeg t) (h2 : (T c.toNatClampNeg = -1 ∧ pla' = upd pla t.toNatClampNeg c) ∨ (T c.toNatClampNeg ≠ -1 ∧ pla' = upd (upd pla (T c.toNatClampNeg).toNatClampNeg (-1)) t.toNatClampNeg c)) : plOK T' pla' := by
  have hno := whu_n (pl_u h h0.1 h0.2.1) hp
  obtain ⟨tn, htn, et⟩ : ∃ tn : Nat, tn < 24 ∧ t = nI tn := ⟨t.toInt.toNat, by omega, (nI_toNat h0.1).symm⟩
  obtain ⟨cn, hcn, ec⟩ : ∃ cn : Nat, cn < 48 ∧ c = nI cn := ⟨c.toInt.toNat, by omega, (nI_toNat h0.2.2.1).symm⟩
  subst et; subst ec
  rw [nI_clamp (by omega)] at h1 h2 hp
  rw [nI_clamp (by omega)] at h2
  subst h1
  intro s hs
  by_cases e : s = tn
  · subst e
    refine Or.inr ⟨cn, hcn, ?_, pk_us, fun d hd q => ?_⟩
    · rcases h2 with ⟨-, h2⟩ | ⟨-, h2⟩ <;> rw [h2, pk_us]
    · by_cases q2 : d = cn
      · exact q2
      · rw [pk_un q2] at q; exact absurd q (hno d hd)
  · have ets : nI tn ≠ nI s := fun q => e (nI_inj (by omega) (by omega) q).symm
    have keep : (pla' s = pla s ∧ T cn ≠ nI s) ∨ (pla' s = -1 ∧ T cn = nI s) := by
      rcases h2 with ⟨hv, h2⟩ | ⟨hv, h2⟩
      · refine Or.inl ⟨by rw [h2, pk_un e], fun q => ?_⟩
        rw [hv] at q; exact nI_nm1 (by omega) q.symm
      · obtain ⟨vn, hvn, e1, e2⟩ := pl_top hr hcn hv
        rw [e2] at h2
        by_cases q : s = vn
        · subst q; exact Or.inr ⟨by rw [h2, pk_un e, pk_us], e1⟩
        · exact Or.inl ⟨by rw [h2, pk_un e, pk_un q], fun q2 => q (nI_inj (by omega) (by omega) (e1.symm.trans q2)).symm⟩
    rcases keep with ⟨k1, k2⟩ | ⟨k1, k2⟩
    · rw [k1]
      rcases h s hs with ⟨p1, p2⟩ | ⟨c0, p0, p1, p2, p3⟩
      · refine Or.inl ⟨p1, fun d hd => ?_⟩
        by_cases q : d = cn
        · subst q; rw [pk_us]; exact ets
        · rw [pk_un q]; exact p2 d hd
      · have hc0 : c0 ≠ cn := fun q => by subst q; exact k2 p2
        refine Or.inr ⟨c0, p0, p1, by rw [pk_un hc0]; exact p2, fun d hd q => ?_⟩
        by_cases q2 : d = cn
        · subst q2; rw [pk_us] at q; exact absurd q ets
        · rw [pk_un q2] at q; exact p3 d hd q
    · rw [k1]
      refine Or.inl ⟨rfl, fun d hd => ?_⟩
      by_cases q : d = cn
      · subst q; rw [pk_us]; exact ets
      · rw [pk_un q]
        intro q2
        rcases h s hs with ⟨-, p2⟩ | ⟨c0, p0, p1, p2, p3⟩
        · exact p2 cn hcn k2
        · exact q ((p3 d hd q2).trans (p3 cn hcn k2).symm)
theorem pl_clear {T pla T' pla' : Nat → Int32} {c x : Int32} (h : plOK T pla) (h0 : 0 ≤ c.toInt ∧ c.toInt ≤ 47) (hr : rg 48 (-1) 23 T) (hx : x = T c.toNatClampNeg) (hv : ¬ x = -1) (h1 : T' = upd T c.toNatClampNeg (-1)) (h2 : (T c.toNatClampNeg = -1 ∧ pla' = pla) ∨ (T c.toNatClampNeg ≠ -1 ∧ pla' = upd pla (T c.toNatClampNeg).toNatClampNeg (-1))) : plOK T' pla' := by
  obtain ⟨cn, hcn, ec⟩ : ∃ cn : Nat, cn < 48 ∧ c = nI cn := ⟨c.toInt.toNat, by omega, (nI_toNat h0.1).symm⟩
  subst ec
  rw [nI_clamp (by omega)] at h1 h2 hx
  subst h1; subst hx
  rcases h2 with ⟨q, -⟩ | ⟨-, h2⟩
  · exact absurd q hv
  obtain ⟨vn, hvn, e1, e2⟩ := pl_top hr hcn hv
  rw [e2] at h2
  subst h2
  intro s hs
  have em : (-1 : Int32) ≠ nI s := fun q => nI_nm1 (by omega) q.symm
  by_cases e : s = vn
  · subst e
    refine Or.inl ⟨pk_us, fun d hd => ?_⟩
    by_cases q : d = cn
    · subst q; rw [pk_us]; exact em
    · rw [pk_un q]
      intro q2
      rcases h s hs with ⟨-, p2⟩ | ⟨c0, p0, p1, p2, p3⟩
      · exact p2 cn hcn e1
      · exact q ((p3 d hd q2).trans (p3 cn hcn e1).symm)
  · rw [pk_un e]
    rcases h s hs with ⟨p1, p2⟩ | ⟨c0, p0, p1, p2, p3⟩
    · refine Or.inl ⟨p1, fun d hd => ?_⟩
      by_cases q : d = cn
      · subst q; rw [pk_us]; exact em
      · rw [pk_un q]; exact p2 d hd
    · have hc0 : c0 ≠ cn := fun q => by subst q; exact e (nI_inj (by omega) (by omega) (p2.symm.trans e1))
      refine Or.inr ⟨c0, p0, p1, by rw [pk_un hc0]; exact p2, fun d hd q => ?_⟩
      by_cases q2 : d = cn
      · subst q2; rw [pk_us] at q; exact absurd q em
      · rw [pk_un q2] at q; exact p3 d hd q
theorem pl_init {T pla : Nat → Int32} (h1 : ∀ j, j < 48 → T j = -1) (h2 : ∀ j, j < 24 → pla j = -1) : plOK T pla := fun t ht => Or.inl ⟨h2 t ht, fun c hc q => by rw [h1 c hc] at q; exact nI_nm1 (by omega) q.symm⟩
theorem spWhere_rel {f g : Nat → Int32} {t r r2 : Int32} (h : ∀ j, j < 48 → f j = g j) (h1 : spWhere f t r) (h2 : spWhereM g t r2) : r = r2 := by
  unfold spWhere at h1
  unfold spWhereM at h2
  rcases h1 with ⟨a, rfl⟩ | ⟨a, b⟩
  · rcases h2 with ⟨a2, rfl⟩ | ⟨a2, b2⟩
    · rfl
    · exfalso; omega
  · rcases h2 with ⟨a2, rfl⟩ | ⟨a2, b2⟩
    · exfalso; omega
    · rcases b with ⟨rfl, b⟩ | ⟨j, hj, rfl, e, hu⟩
      · rcases b2 with ⟨rfl, b2⟩ | ⟨j, hj, rfl, e⟩
        · rfl
        · exact absurd ((h j hj).trans e) (b j hj)
      · rcases b2 with ⟨rfl, b2⟩ | ⟨k, hk, rfl, e2⟩
        · exact absurd ((h j hj).symm.trans e) (b2 j hj)
        · rw [hu k hk ((h k hk).trans e2)]
