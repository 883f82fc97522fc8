section
-- ===== which THING stands where: the row of CORNERS and its reverse =====
def plOK (top pla : Nat → Int32) : Prop := ∀ t : Nat, t < 24 → ((pla t = -1 ∧ ∀ c : Nat, c < 48 → top c ≠ nI t) ∨ (∃ c : Nat, c < 48 ∧ pla t = nI c ∧ top c = nI t ∧ ∀ d : Nat, d < 48 → top d = nI t → d = c))
def whr (T : Nat → Int32) (t r : Int32) : Prop := (r = -1 ∧ ∀ j : Nat, j < 48 → T j ≠ t) ∨ (∃ j : Nat, j < 48 ∧ r = nI j ∧ T j = t)
def whu (T : Nat → Int32) (t r : Int32) : Prop := (r = -1 ∧ ∀ j : Nat, j < 48 → T j ≠ t) ∨ (∃ j : Nat, j < 48 ∧ r = nI j ∧ T j = t ∧ ∀ d : Nat, d < 48 → T d = t → d = j)
def whk (T : Nat → Int32) (t r : Int32) (n : Int) : Prop := (r = -1 ∧ ∀ j : Nat, (j : Int) < n → T j ≠ t) ∨ (∃ j : Nat, j < 48 ∧ r = nI j ∧ T j = t)
def spWhere (T : Nat → Int32) (t r : Int32) : Prop := ((t.toInt < 0 ∨ 23 < t.toInt) ∧ r = -2) ∨ ((0 ≤ t.toInt ∧ t.toInt ≤ 23) ∧ whu T t r)
def spWhereM (T : Nat → Int32) (t r : Int32) : Prop := ((t.toInt < 0 ∨ 23 < t.toInt) ∧ r = -2) ∨ ((0 ≤ t.toInt ∧ t.toInt ≤ 23) ∧ whr T t r)
theorem nI_nm1 {k : Nat} (h : k < 48) : nI k ≠ -1 := by
  intro q
  have h1 := congrArg Int32.toInt q
  rw [nI_toInt (by omega), show ((-1 : Int32)).toInt = -1 from rfl] at h1
  omega
theorem nI_inj {a b : Nat} (ha : a < 48) (hb : b < 48) (h : nI a = nI b) : a = b := (nI_eq (by omega) (by omega)).mp h
theorem pl_u {top pla : Nat → Int32} (h : plOK top pla) {t : Int32} (h0 : 0 ≤ t.toInt) (h1 : t.toInt ≤ 23) : whu top t (pla t.toNatClampNeg) := by
  have e : nI t.toInt.toNat = t := nI_toNat h0
  have := h t.toInt.toNat (by omega)
  rw [e] at this
  rw [clC (x := t) rfl]
  exact this
theorem whu_n {T : Nat → Int32} {t r : Int32} (h : whu T t r) (hr : r = -1) : ∀ j : Nat, j < 48 → T j ≠ t := by
  rcases h with ⟨-, h⟩ | ⟨j, hj, e, -⟩
  · exact h
  · rw [hr] at e; exact absurd e.symm (nI_nm1 hj)
theorem whu_y {T : Nat → Int32} {t r : Int32} (h : whu T t r) (hr : ¬ r = -1) : ∃ j : Nat, j < 48 ∧ T j = t := by
  rcases h with ⟨e, -⟩ | ⟨j, hj, -, e, -⟩
  · exact absurd e hr
  · exact ⟨j, hj, e⟩
theorem whr_n {T : Nat → Int32} {t r : Int32} (h : whr T t r) (hr : r = -1) : ∀ j : Nat, j < 48 → T j ≠ t := by
  rcases h with ⟨-, h⟩ | ⟨j, hj, e, -⟩
  · exact h
  · rw [hr] at e; exact absurd e.symm (nI_nm1 hj)
theorem whr_y {T : Nat → Int32} {t r : Int32} (h : whr T t r) (hr : ¬ r = -1) : ∃ j : Nat, j < 48 ∧ T j = t := by
  rcases h with ⟨e, -⟩ | ⟨j, hj, -, e⟩
  · exact absurd e hr
  · exact ⟨j, hj, e⟩
theorem whk_0 {T : Nat → Int32} {t : Int32} : whk T t (-1) 0 := Or.inl ⟨rfl, fun j hj => absurd hj (by omega)⟩
theorem whk_hit {T : Nat → Int32} {t y : Int32} {Z : Int} (h : T y.toNatClampNeg = t) (h0 : 0 ≤ y.toInt) (h1 : y.toInt ≤ 47) : whk T t y Z := by
  refine Or.inr ⟨y.toInt.toNat, by omega, (nI_toNat h0).symm, ?_⟩
  rw [← clC (x := y) rfl]; exact h
theorem whk_miss {T : Nat → Int32} {t r y : Int32} {Z : Int} (h : whk T t r y.toInt) (hn : ¬ T y.toNatClampNeg = t) (h0 : 0 ≤ y.toInt) (hz : Z = y.toInt + 1) : whk T t r Z := by
  rcases h with ⟨e, h⟩ | h
  · refine Or.inl ⟨e, fun j hj => ?_⟩
    by_cases q : j = y.toInt.toNat
    · subst q; rw [← clC (x := y) rfl]; exact hn
    · exact h j (by omega)
  · exact Or.inr h
theorem whk_fin {T : Nat → Int32} {t r : Int32} {Z : Int} (h : whk T t r Z) (hz : 48 ≤ Z) : whr T t r := by
  rcases h with ⟨e, h⟩ | h
  · exact Or.inl ⟨e, fun j hj => h j (by omega)⟩
  · exact Or.inr h
theorem pl_top {T : Nat → Int32} {cn : Nat} (hr : rg 48 (-1) 23 T) (hc : cn < 48) (hv : T cn ≠ -1) : ∃ vn : Nat, vn < 24 ∧ T cn = nI vn ∧ (T cn).toNatClampNeg = vn := by
  obtain ⟨h1, h2⟩ := hr cn hc
  have h3 : (T cn).toInt ≠ -1 := fun q => hv (Int32.toInt_inj.mp q)
  refine ⟨(T cn).toInt.toNat, by omega, (nI_toNat (by omega)).symm, clC rfl⟩
theorem pl_put {T pla T' pla' : Nat → Int32} {t c : Int32} (h : plOK T pla) (h0 : 0 ≤ t.toInt ∧ t.toInt ≤ 23 ∧ 0 ≤ c.toInt ∧ c.toInt ≤ 47) (hp : pla t.toNatClampNeg = -1) (hr : rg 48 (-1) 23 T) (h1 : T' = upd T c.toNatClampNeg t) (h2 : (T c.toNatClampNeg = -1 ∧ pla' = upd pla t.toNatClampNeg c) ∨ (T c.toNatClampNeg ≠ -1 ∧ pla' = upd (upd pla (T c.toNatClampNeg).toNatClampNeg (-1)) t.toNatClampNeg c)) : plOK T' pla' := by
  have hno := whu_n (pl_u h h0.1 h0.2.1) hp
  obtain ⟨tn, htn, et⟩ : ∃ tn : Nat, tn < 24 ∧ t = nI tn := ⟨t.toInt.toNat, by omega, (nI_toNat h0.1).symm⟩
  obtain ⟨cn, hcn, ec⟩ : ∃ cn : Nat, cn < 48 ∧ c = nI cn := ⟨c.toInt.toNat, by omega, (nI_toNat h0.2.2.1).symm⟩
  subst et; subst ec
  rw [nI_clamp (by omega)] at h1 h2 hp
  rw [nI_clamp (by omega)] at h2
  subst h1
  intro s hs
  by_cases e : s = tn
  · subst e
    refine Or.inr ⟨cn, hcn, ?_, pk_us, fun d hd q => ?_⟩
    · rcases h2 with ⟨-, h2⟩ | ⟨-, h2⟩ <;> rw [h2, pk_us]
    · by_cases q2 : d = cn
      · exact q2
      · rw [pk_un q2] at q; exact absurd q (hno d hd)
  · have ets : nI tn ≠ nI s := fun q => e (nI_inj (by omega) (by omega) q).symm
    have keep : (pla' s = pla s ∧ T cn ≠ nI s) ∨ (pla' s = -1 ∧ T cn = nI s) := by
      rcases h2 with ⟨hv, h2⟩ | ⟨hv, h2⟩
      · refine Or.inl ⟨by rw [h2, pk_un e], fun q => ?_⟩
        rw [hv] at q; exact nI_nm1 (by omega) q.symm
      · obtain ⟨vn, hvn, e1, e2⟩ := pl_top hr hcn hv
        rw [e2] at h2
        by_cases q : s = vn
        · subst q; exact Or.inr ⟨by rw [h2, pk_un e, pk_us], e1⟩
        · exact Or.inl ⟨by rw [h2, pk_un e, pk_un q], fun q2 => q (nI_inj (by omega) (by omega) (e1.symm.trans q2)).symm⟩
    rcases keep with ⟨k1, k2⟩ | ⟨k1, k2⟩
    · rw [k1]
      rcases h s hs with ⟨p1, p2⟩ | ⟨c0, p0, p1, p2, p3⟩
      · refine Or.inl ⟨p1, fun d hd => ?_⟩
        by_cases q : d = cn
        · subst q; rw [pk_us]; exact ets
        · rw [pk_un q]; exact p2 d hd
      · have hc0 : c0 ≠ cn := fun q => by subst q; exact k2 p2
        refine Or.inr ⟨c0, p0, p1, by rw [pk_un hc0]; exact p2, fun d hd q => ?_⟩
        by_cases q2 : d = cn
        · subst q2; rw [pk_us] at q; exact absurd q ets
        · rw [pk_un q2] at q; exact p3 d hd q
    · rw [k1]
      refine Or.inl ⟨rfl, fun d hd => ?_⟩
      by_cases q : d = cn
      · subst q; rw [pk_us]; exact ets
      · rw [pk_un q]
        intro q2
        rcases h s hs with ⟨-, p2⟩ | ⟨c0, p0, p1, p2, p3⟩
        · exact p2 cn hcn k2
        · exact q ((p3 d hd q2).trans (p3 cn hcn k2).symm)
theorem pl_clear {T pla T' pla' : Nat → Int32} {c x : Int32} (h : plOK T pla) (h0 : 0 ≤ c.toInt ∧ c.toInt ≤ 47) (hr : rg 48 (-1) 23 T) (hx : x = T c.toNatClampNeg) (hv : ¬ x = -1) (h1 : T' = upd T c.toNatClampNeg (-1)) (h2 : (T c.toNatClampNeg = -1 ∧ pla' = pla) ∨ (T c.toNatClampNeg ≠ -1 ∧ pla' = upd pla (T c.toNatClampNeg).toNatClampNeg (-1))) : plOK T' pla' := by
  obtain ⟨cn, hcn, ec⟩ : ∃ cn : Nat, cn < 48 ∧ c = nI cn := ⟨c.toInt.toNat, by omega, (nI_toNat h0.1).symm⟩
  subst ec
  rw [nI_clamp (by omega)] at h1 h2 hx
  subst h1; subst hx
  rcases h2 with ⟨q, -⟩ | ⟨-, h2⟩
  · exact absurd q hv
  obtain ⟨vn, hvn, e1, e2⟩ := pl_top hr hcn hv
  rw [e2] at h2
  subst h2
  intro s hs
  have em : (-1 : Int32) ≠ nI s := fun q => nI_nm1 (by omega) q.symm
  by_cases e : s = vn
  · subst e
    refine Or.inl ⟨pk_us, fun d hd => ?_⟩
    by_cases q : d = cn
    · subst q; rw [pk_us]; exact em
    · rw [pk_un q]
      intro q2
      rcases h s hs with ⟨-, p2⟩ | ⟨c0, p0, p1, p2, p3⟩
      · exact p2 cn hcn e1
      · exact q ((p3 d hd q2).trans (p3 cn hcn e1).symm)
  · rw [pk_un e]
    rcases h s hs with ⟨p1, p2⟩ | ⟨c0, p0, p1, p2, p3⟩
    · refine Or.inl ⟨p1, fun d hd => ?_⟩
      by_cases q : d = cn
      · subst q; rw [pk_us]; exact em
      · rw [pk_un q]; exact p2 d hd
    · have hc0 : c0 ≠ cn := fun q => by subst q; exact e (nI_inj (by omega) (by omega) (p2.symm.trans e1))
      refine Or.inr ⟨c0, p0, p1, by rw [pk_un hc0]; exact p2, fun d hd q => ?_⟩
      by_cases q2 : d = cn
      · subst q2; rw [pk_us] at q; exact absurd q em
      · rw [pk_un q2] at q; exact p3 d hd q
theorem pl_init {T pla : Nat → Int32} (h1 : ∀ j, j < 48 → T j = -1) (h2 : ∀ j, j < 24 → pla j = -1) : plOK T pla := fun t ht => Or.inl ⟨h2 t ht, fun c hc q => by rw [h1 c hc] at q; exact nI_nm1 (by omega) q.symm⟩
theorem spWhere_rel {f g : Nat → Int32} {t r r2 : Int32} (h : ∀ j, j < 48 → f j = g j) (h1 : spWhere f t r) (h2 : spWhereM g t r2) : r = r2 := by
  unfold spWhere at h1
  unfold spWhereM at h2
  rcases h1 with ⟨a, rfl⟩ | ⟨a, b⟩
  · rcases h2 with ⟨a2, rfl⟩ | ⟨a2, b2⟩
    · rfl
    · exfalso; omega
  · rcases h2 with ⟨a2, rfl⟩ | ⟨a2, b2⟩
    · exfalso; omega
    · rcases b with ⟨rfl, b⟩ | ⟨j, hj, rfl, e, hu⟩
      · rcases b2 with ⟨rfl, b2⟩ | ⟨j, hj, rfl, e⟩
        · rfl
        · exact absurd ((h j hj).trans e) (b j hj)
      · rcases b2 with ⟨rfl, b2⟩ | ⟨k, hk, rfl, e2⟩
        · exact absurd ((h j hj).symm.trans e) (b2 j hj)
        · rw [hu k hk ((h k hk).trans e2)]
end
section
set_option maxHeartbeats 4000000 in
set_option maxRecDepth 100000 in
theorem k_X9_where2 (l : Launch) (dC : Nat → ClassId) (dI : Nat → Nat → Nat) (cI cZ cQ : ClassId) (a : Nat → Nat) (rb0 : Nat) (rb1 : Nat) (rb2 : Nat) (db0 : Nat) (db1 : Nat) (db2 : Nat) (top : Nat → Int32) (str : Nat → Int32) (gho : Nat → Int32) (ghs : Nat → Int32) (pto : Nat → Int32) (cro : Nat → Int32) (pla : Nat → Int32) (wal : Nat → Int32) (fal : Nat → Int32) (tel : Int32) (gai : Int32) (day : Int32) (mar : Nat → Int32) (t : Int32) (r_top : rg 48 (-1) (23) top) (r_str : rg 48 (0) (100) str) (r_gho : rg 48 (-1) (23) gho) (r_ghs : rg 48 (0) (100) ghs) (r_cro : rg 48 (0) (6) cro) (r_pla : rg 24 (-1) (47) pla) (r_fal : rg 11 (0) (30) fal) (r_gai : 0 ≤ gai.toInt ∧ gai.toInt ≤ 100) (r_day : 0 ≤ day.toInt ∧ day.toInt ≤ 400) (r_mar : rg 24 (0) (255) mar) (q0 : plOK top pla) : KR l yX9_where wsX9_where { frames := 2, cells := 0, slots := 0, locals := 42 } (dC, dI) (TY cI cZ cQ) (wsC cI cZ cQ a rb0 rb1 rb2 db0 db1 db2 top str gho ghs pto cro pla wal fal tel gai day mar) [.ref (a 43), .int t] (fun r : Int32 => (spWhere top t r)) := by
  refine Met.ofW (cc := cX9_where) (maxL := 2) (ret := (some .int)) (by decide) rfl ?_
  intro p e s m args below meth c s₁ B hml hv
  obtain ⟨rfl, hP, hK, hN⟩ := hv
  have hx := B.exec
  have hb := B.bytes
  have hr := B.returns
  have hts := atoms_spec (ws := wsX9_where) B.pre
  have hown : s.vm.findClass RX9 = some m.cls := findClass_of_methodNamed B.named
  have hlocks := B.notSynchronized
  have lf28 := hts (.fieldLink RX9 28 "PalaceOfRooms" "corners" "LPalaceOfRooms$Corners;") (List.mem_cons_of_mem _ (List.mem_append_left _ (List.mem_append_left _ (List.mem_of_getElem? (i := 0) rfl))))
  have inX9 : ∀ w ∈ wsX90, w ∈ wsX9_where := fun w h => List.mem_cons_of_mem _ (List.mem_append_left _ (List.mem_append_right _ h))
  have lf128 := hN.use (w := .fieldLinkNest "PalaceOfRooms" 128 "PalaceOfRooms$Corners" "placeOf" "[I" "PalaceOfRooms") (List.mem_of_getElem? (i := 8) rfl) ([.ref (a 43), .int t] : List Value).toArray
  have inX1 : ∀ w ∈ wsX10, w ∈ wsX9_where := fun w h => List.mem_cons_of_mem _ (List.mem_append_right _ h)
  have hl := lv_entry ([.ref (a 43), .int t]) (n := 2) (Nat.le_of_ble_eq_true rfl)
  rw [lg_entry_eq]
  generalize (lg_sl ([.ref (a 43), .int t]) ++ List.replicate (2 - (lg_sl ([.ref (a 43), .int t])).length) Slot.unset).toArray = ls at hl ⊢
  have hl : lv_has ls 2 [(0, .ref (a 43)), (1, .int t)] := hl
  refine lv_iload_n hx hb dX9_where_0 rfl (lv_at hl 1 rfl) ?_
  refine rdS (As := [.int t]) (rest := []) ⟨hx, hb, hml, hown, hts⟩ (k_X9_isThing l dC dI cI cZ cQ t) (va_cwS 1 hts gX9_where_X9_isThing rfl rfl rfl (by decide +kernel) ⟨Nat.le_of_ble_eq_true rfl, Nat.le_of_ble_eq_true rfl⟩) hP hK hN [] rfl rfl hl.1 rfl (Nat.le_of_ble_eq_true rfl) dX9_where_1 ⟨Nat.le_of_ble_eq_true rfl, Nat.le_of_ble_eq_true rfl⟩ (fun r1 h2 => ?_)
  have h2 : ((((r1 = 1) ∧ (0 ≤ t.toInt) ∧ (t.toInt ≤ 23)) ∨ ((r1 = 0) ∧ (t.toInt < 0 ∨ 23 < t.toInt)))) := h2
  rcases h2 with (⟨rfl, h2_a0, h2_a1⟩ | ⟨rfl, h2_a0⟩)
  · refine lv_if_eq (tgt := 19) hx hb dX9_where_4 (by decide) (fun c9 => absurd c9 (by decide)) (fun _ => ?_)
    refine lv_aload_n hx hb dX9_where_7 rfl (lv_at hl 0 rfl) ?_
    refine va_get (D := (dC, dI)) (ci := 9) (v := .ref (a 4)) (C := RX9) (T := TX9) (N := 11) hx hb hts inX9 hown hK hP 0 rfl rfl 2 (by decide) lf28 (fun _ h9 => h9) rfl dX9_where_8 ?_
    refine va_getN (D := (dC, dI)) (ci := 1) (v := .ref (a 11)) (C := RX1) (T := TX1) (N := 13) hx hb hts inX1 hown hK hP 1 rfl rfl 7 (by decide) lf128 (fun _ h9 => h9) rfl dX9_where_11 ?_
    refine lv_iload_n hx hb dX9_where_14 rfl (lv_at hl 1 rfl) ?_
    have b3 : vp_in t 24 := inC rfl (by omega) (by omega)
    refine va_iald hx hb hK hP 8 0 rfl rfl b3 dX9_where_15 ?_
    have g4 : -1 ≤ (pla t.toNatClampNeg).toInt ∧ (pla t.toNatClampNeg).toInt ≤ 47 := rg_at r_pla b3
    refine lv_goto (tgt := 21) hx hb dX9_where_16 (by decide) ?_
    exact W.iret (v := pla t.toNatClampNeg) hx hb hr (fun tq ht hW => ⟨pla t.toNatClampNeg, rfl, (show spWhere top t (pla t.toNatClampNeg) from by (first | exact Or.inl ⟨by omega, rfl⟩ | exact Or.inr ⟨by omega, pl_u q0 (by omega) (by omega)⟩)), ht⟩) (fun q h => by cases h) dX9_where_21
  · refine lv_if_eq (tgt := 19) hx hb dX9_where_4 (by decide) (fun _ => ?_) (fun c9 => absurd (by decide) c9)
    refine lv_bipush (v := (-2)) hx hb dX9_where_19 (by decide) ?_
    exact W.iret (v := (-2)) hx hb hr (fun tq ht hW => ⟨(-2), rfl, (show spWhere top t ((-2) : Int32) from by (try rw [show ((-2) : Int32).toInt = (-2) from (show ((-2) : Int32).toInt = (-2) from rfl)]); (first | exact Or.inl ⟨by omega, rfl⟩ | exact Or.inr ⟨by omega, pl_u q0 (by omega) (by omega)⟩)), ht⟩) (fun q h => by cases h) dX9_where_21
set_option maxHeartbeats 4000000 in
set_option maxRecDepth 100000 in
theorem k_X10_cornerOf2 (l : Launch) (dC : Nat → ClassId) (dI : Nat → Nat → Nat) (cI cZ cQ : ClassId) (b : Nat → Nat) (mday : Int32) (mdoo : Int32) (mdA : Nat → Int32) (mdB : Nat → Int32) (mfar : Nat → Int32) (mmar : Nat → Int32) (mtel : Int32) (mgai : Int32) (mfal : Nat → Int32) (mtop : Nat → Int32) (mstr : Nat → Int32) (mgho : Nat → Int32) (mfai : Nat → Int32) (mpto : Nat → Int32) (mwal : Nat → Int32) (mahd : Nat → Int32) (mahf : Nat → Int32) (mcho : Nat → Int32) (mbes : Nat → Int32) (mbyt : Int32) (mtxt : Nat → Int32) (mpos : Int32) (mtka : Int32) (mtok : Int64) (mdig : Int32) (mnum : Int32) (mfau : Int32) (mrdm : Int32) (mrea : Nat → Int32) (mlin : Int32) (mlne : Nat → Int32) (mthg : Nat → Int32) (mord : Nat → Int32) (mbor : Nat → Int32) (mbsm : Int32) (mans : Nat → Int32) (mand : Nat → Int32) (manr : Nat → Int32) (mali : Nat → Int32) (t : Int32) (r_mday : 0 ≤ mday.toInt ∧ mday.toInt ≤ 400) (r_mdoo : 0 ≤ mdoo.toInt ∧ mdoo.toInt ≤ 14) (r_mdA : rg 14 (0) (7) mdA) (r_mdB : rg 14 (0) (7) mdB) (r_mmar : rg 24 (0) (255) mmar) (r_mgai : 0 ≤ mgai.toInt ∧ mgai.toInt ≤ 100) (r_mfal : rg 11 (0) (30) mfal) (r_mtop : rg 48 (-1) (23) mtop) (r_mstr : rg 48 (0) (100) mstr) (r_mgho : rg 48 (-1) (23) mgho) (r_mfai : rg 48 (0) (100) mfai) (r_mahd : rg 240 (0) (100) mahd) (r_mahf : rg 240 (0) (100) mahf) (r_mcho : rg 5 (-1) (9) mcho) (r_mbyt : 0 ≤ mbyt.toInt ∧ mbyt.toInt ≤ 160) (r_mpos : 0 ≤ mpos.toInt ∧ mpos.toInt ≤ 160) (r_mrdm : 0 ≤ mrdm.toInt ∧ mrdm.toInt ≤ 10) (r_mlin : 0 ≤ mlin.toInt ∧ mlin.toInt ≤ 10) (r_mthg : rg 8 (0) (31) mthg) (r_mord : rg 8 (-1) (8) mord) (r_mans : rg 4 (0) (12) mans) : KR l yX10_cornerOf wsX10_cornerOf { frames := 0, cells := 0, slots := 0, locals := 0 } (dC, dI) (TY cI cZ cQ) (wMod cI cZ cQ b mday mdoo mdA mdB mfar mmar mtel mgai mfal mtop mstr mgho mfai mpto mwal mahd mahf mcho mbes mbyt mtxt mpos mtka mtok mdig mnum mfau mrdm mrea mlin mlne mthg mord mbor mbsm mans mand manr mali) [.ref (b 39), .int t] (fun r : Int32 => (-1 ≤ r.toInt) ∧ (r.toInt ≤ 47) ∧ (whr mtop t r)) := by
  refine Met.ofW (cc := cX10_cornerOf) (maxL := 4) (ret := (some .int)) (by decide) rfl ?_
  intro p e s m args below meth c s₁ B hml hv
  obtain ⟨rfl, hP, hK, hN⟩ := hv
  have hx := B.exec
  have hb := B.bytes
  have hr := B.returns
  have hts := atoms_spec (ws := wsX10_cornerOf) B.pre
  have hown : s.vm.findClass RX10 = some m.cls := findClass_of_methodNamed B.named
  have hlocks := B.notSynchronized
  have lf32 := hts (.fieldLink RX10 32 "PalaceOfRoomsModel" "top" "[I") (List.mem_cons_of_mem _ (List.mem_append_left _ (List.mem_of_getElem? (i := 0) rfl)))
  have inX10 : ∀ w ∈ wsX100, w ∈ wsX10_cornerOf := fun w h => List.mem_cons_of_mem _ (List.mem_append_right _ h)
  have hl := lv_entry ([.ref (b 39), .int t]) (n := 4) (Nat.le_of_ble_eq_true rfl)
  rw [lg_entry_eq]
  generalize (lg_sl ([.ref (b 39), .int t]) ++ List.replicate (4 - (lg_sl ([.ref (b 39), .int t])).length) Slot.unset).toArray = ls at hl ⊢
  have hl : lv_has ls 4 [(0, .ref (b 39)), (1, .int t)] := hl
  refine lv_iconst (v := (-1)) hx hb dX10_cornerOf_0 (by decide) ?_
  refine lv_istore_n (lv' := [(2, .int (-1)), (0, .ref (b 39)), (1, .int t)]) hx hb dX10_cornerOf_1 rfl hl (by decide) rfl (fun ls hl => ?_)
  refine lv_iconst (v := 0) hx hb dX10_cornerOf_2 (by decide) ?_
  refine lv_istore_n (lv' := [(3, .int 0), (2, .int (-1)), (0, .ref (b 39)), (1, .int t)]) hx hb dX10_cornerOf_3 rfl hl (by decide) rfl (fun ls hl => ?_)
  have L4 : ∀ (nn : Nat) (y4_2 : Int32) (y4_3 : Int32) (ls : Array Slot), (0 ≤ (y4_3.toInt)) → ((y4_3.toInt) ≤ 48) → (-1 ≤ (y4_2.toInt)) → ((y4_2.toInt) ≤ 47) → (whk mtop t y4_2 (y4_3.toInt)) → (48 - (y4_3.toInt)).toNat < nn → lv_has ls 4 [(0, .ref (b 39)), (1, .int t), (2, .int y4_2), (3, .int y4_3)] → W p l e (headSpec wsX10_cornerOf { frames := 0, cells := 0, slots := 0, locals := 0 }).room s m ([.ref (b 39), .int t] : List Value).toArray below meth c s.heap [] 0 0 (MQ below (QR (fun r : Int32 => (-1 ≤ r.toInt) ∧ (r.toInt ≤ 47) ∧ (whr mtop t r))) ([.ref (b 39), .int t] : List Value).toArray s 0 0 (fun _ => False)) (F0 m 4 ls []) := by
    intro nn
    induction nn with
    | zero =>
      intro y4_2 y4_3 ls i4_0 i4_1 i4_2 i4_3 i4_4 hm4
      exact absurd hm4 (Nat.not_lt_zero _)
    | succ nn ih4 =>
      intro y4_2 y4_3 ls i4_0 i4_1 i4_2 i4_3 i4_4 hm4 hl
      refine lv_iload_n hx hb dX10_cornerOf_4 rfl (lv_at hl 3 rfl) ?_
      refine lv_bipush (v := 48) hx hb dX10_cornerOf_5 (by decide) ?_
      refine lv_icmp_ge (tgt := 32) hx hb dX10_cornerOf_7 (by decide) (fun c1 => ?_) (fun c1 => ?_)
      · have dc1 : 48 ≤ y4_3.toInt := leC (show (48 : Int32).toInt = 48 from rfl) rfl c1
        refine lv_iload_n hx hb dX10_cornerOf_32 rfl (lv_at hl 2 rfl) ?_
        exact W.iret (v := y4_2) hx hb hr (fun tq ht hW => ⟨y4_2, rfl, ⟨(show -1 ≤ y4_2.toInt from by omega), (show y4_2.toInt ≤ 47 from by omega), (show whr mtop t y4_2 from by (exact whk_fin i4_4 (by omega)))⟩, ht⟩) (fun q h => by cases h) dX10_cornerOf_33
      · have dc1 : y4_3.toInt < 48 := nleC (show (48 : Int32).toInt = 48 from rfl) rfl c1
        refine lv_aload_n hx hb dX10_cornerOf_10 rfl (lv_at hl 0 rfl) ?_
        refine va_get (D := (dC, dI)) (ci := 10) (v := .ref (b 9)) (C := RX10) (T := TX10) (N := 39) hx hb hts inX10 hown hK hP 0 rfl rfl 9 (by decide) lf32 (fun _ h9 => h9) rfl dX10_cornerOf_11 ?_
        refine lv_iload_n hx hb dX10_cornerOf_14 rfl (lv_at hl 3 rfl) ?_
        have b2 : vp_in y4_3 48 := inC rfl (by omega) (by omega)
        refine va_iald hx hb hK hP 6 0 rfl rfl b2 dX10_cornerOf_15 ?_
        have g3 : -1 ≤ (mtop y4_3.toNatClampNeg).toInt ∧ (mtop y4_3.toNatClampNeg).toInt ≤ 23 := rg_at r_mtop b2
        refine lv_iload_n hx hb dX10_cornerOf_16 rfl (lv_at hl 1 rfl) ?_
        refine lv_icmp_ne (tgt := 24) hx hb dX10_cornerOf_17 (by decide) (fun c4 => ?_) (fun c4 => ?_)
        · have dc4 : (mtop y4_3.toNatClampNeg).toInt ≠ t.toInt := neC rfl rfl c4
          refine lv_iload_n hx hb dX10_cornerOf_24 rfl (lv_at hl 2 rfl) ?_
          refine lv_istore_n (lv' := [(2, .int y4_2), (0, .ref (b 39)), (1, .int t), (3, .int y4_3)]) hx hb dX10_cornerOf_25 rfl hl (by decide) rfl (fun ls hl => ?_)
          obtain ⟨z5, ez5⟩ : ∃ y : Int32, y = y4_3 + 1 := ⟨_, rfl⟩
          have iz5 : z5.toInt = y4_3.toInt + 1 := by rw [ez5]; exact addC rfl rfl (by omega) (by omega)
          refine lv_iinc (v := z5) (lv' := [(3, .int z5), (2, .int y4_2), (0, .ref (b 39)), (1, .int t)]) hx hb dX10_cornerOf_26 hl (k := 3) rfl (by rw [ez5]; rfl) (by decide) rfl (fun ls hl => ?_)
          refine lv_goto (tgt := 4) hx hb dX10_cornerOf_29 (by decide) ?_
          exact ih4 y4_2 z5 _ (by omega) (by omega) (by omega) (by omega) (by (first | exact whk_miss i4_4 (by assumption) (by omega) (by omega) | exact whk_0 | exact whk_hit (by assumption) (by omega) (by omega))) (by omega) (lv_sub hl [2, 3, 1, 0] rfl)
        · have dc4 : (mtop y4_3.toNatClampNeg).toInt = t.toInt := eqC rfl rfl c4
          refine lv_iload_n hx hb dX10_cornerOf_20 rfl (lv_at hl 3 rfl) ?_
          refine lv_goto (tgt := 25) hx hb dX10_cornerOf_21 (by decide) ?_
          refine lv_istore_n (lv' := [(2, .int y4_3), (0, .ref (b 39)), (1, .int t), (3, .int y4_3)]) hx hb dX10_cornerOf_25 rfl hl (by decide) rfl (fun ls hl => ?_)
          obtain ⟨z6, ez6⟩ : ∃ y : Int32, y = y4_3 + 1 := ⟨_, rfl⟩
          have iz6 : z6.toInt = y4_3.toInt + 1 := by rw [ez6]; exact addC rfl rfl (by omega) (by omega)
          refine lv_iinc (v := z6) (lv' := [(3, .int z6), (2, .int y4_3), (0, .ref (b 39)), (1, .int t)]) hx hb dX10_cornerOf_26 hl (k := 3) rfl (by rw [ez6]; rfl) (by decide) rfl (fun ls hl => ?_)
          refine lv_goto (tgt := 4) hx hb dX10_cornerOf_29 (by decide) ?_
          exact ih4 y4_3 z6 _ (by omega) (by omega) (by omega) (by omega) (by (first | exact whk_miss i4_4 (by assumption) (by omega) (by omega) | exact whk_0 | exact whk_hit (by assumption) (by omega) (by omega))) (by omega) (lv_sub hl [2, 3, 1, 0] rfl)
  have kc7 : ((-1) : Int32).toInt = -1 := rfl
  have kc8 : (0 : Int32).toInt = 0 := rfl
  exact L4 _ (-1) 0 _ (by omega) (by omega) (by omega) (by omega) (by (first | exact whk_0 | exact whk_hit (by assumption) (by omega) (by omega) | exact whk_miss i4_4 (by assumption) (by omega) (by omega))) (Nat.lt_succ_self _) (lv_sub hl [2, 3, 1, 0] rfl)
set_option maxHeartbeats 4000000 in
set_option maxRecDepth 100000 in
theorem k_X10_where2 (l : Launch) (dC : Nat → ClassId) (dI : Nat → Nat → Nat) (cI cZ cQ : ClassId) (b : Nat → Nat) (mday : Int32) (mdoo : Int32) (mdA : Nat → Int32) (mdB : Nat → Int32) (mfar : Nat → Int32) (mmar : Nat → Int32) (mtel : Int32) (mgai : Int32) (mfal : Nat → Int32) (mtop : Nat → Int32) (mstr : Nat → Int32) (mgho : Nat → Int32) (mfai : Nat → Int32) (mpto : Nat → Int32) (mwal : Nat → Int32) (mahd : Nat → Int32) (mahf : Nat → Int32) (mcho : Nat → Int32) (mbes : Nat → Int32) (mbyt : Int32) (mtxt : Nat → Int32) (mpos : Int32) (mtka : Int32) (mtok : Int64) (mdig : Int32) (mnum : Int32) (mfau : Int32) (mrdm : Int32) (mrea : Nat → Int32) (mlin : Int32) (mlne : Nat → Int32) (mthg : Nat → Int32) (mord : Nat → Int32) (mbor : Nat → Int32) (mbsm : Int32) (mans : Nat → Int32) (mand : Nat → Int32) (manr : Nat → Int32) (mali : Nat → Int32) (t : Int32) (r_mday : 0 ≤ mday.toInt ∧ mday.toInt ≤ 400) (r_mdoo : 0 ≤ mdoo.toInt ∧ mdoo.toInt ≤ 14) (r_mdA : rg 14 (0) (7) mdA) (r_mdB : rg 14 (0) (7) mdB) (r_mmar : rg 24 (0) (255) mmar) (r_mgai : 0 ≤ mgai.toInt ∧ mgai.toInt ≤ 100) (r_mfal : rg 11 (0) (30) mfal) (r_mtop : rg 48 (-1) (23) mtop) (r_mstr : rg 48 (0) (100) mstr) (r_mgho : rg 48 (-1) (23) mgho) (r_mfai : rg 48 (0) (100) mfai) (r_mahd : rg 240 (0) (100) mahd) (r_mahf : rg 240 (0) (100) mahf) (r_mcho : rg 5 (-1) (9) mcho) (r_mbyt : 0 ≤ mbyt.toInt ∧ mbyt.toInt ≤ 160) (r_mpos : 0 ≤ mpos.toInt ∧ mpos.toInt ≤ 160) (r_mrdm : 0 ≤ mrdm.toInt ∧ mrdm.toInt ≤ 10) (r_mlin : 0 ≤ mlin.toInt ∧ mlin.toInt ≤ 10) (r_mthg : rg 8 (0) (31) mthg) (r_mord : rg 8 (-1) (8) mord) (r_mans : rg 4 (0) (12) mans) : KR l yX10_where wsX10_where { frames := 2, cells := 0, slots := 0, locals := 42 } (dC, dI) (TY cI cZ cQ) (wMod cI cZ cQ b mday mdoo mdA mdB mfar mmar mtel mgai mfal mtop mstr mgho mfai mpto mwal mahd mahf mcho mbes mbyt mtxt mpos mtka mtok mdig mnum mfau mrdm mrea mlin mlne mthg mord mbor mbsm mans mand manr mali) [.ref (b 39), .int t] (fun r : Int32 => (spWhereM mtop t r)) := by
  refine Met.ofW (cc := cX10_where) (maxL := 2) (ret := (some .int)) (by decide) rfl ?_
  intro p e s m args below meth c s₁ B hml hv
  obtain ⟨rfl, hP, hK, hN⟩ := hv
  have hx := B.exec
  have hb := B.bytes
  have hr := B.returns
  have hts := atoms_spec (ws := wsX10_where) B.pre
  have hown : s.vm.findClass RX10 = some m.cls := findClass_of_methodNamed B.named
  have hlocks := B.notSynchronized
  have hl := lv_entry ([.ref (b 39), .int t]) (n := 2) (Nat.le_of_ble_eq_true rfl)
  rw [lg_entry_eq]
  generalize (lg_sl ([.ref (b 39), .int t]) ++ List.replicate (2 - (lg_sl ([.ref (b 39), .int t])).length) Slot.unset).toArray = ls at hl ⊢
  have hl : lv_has ls 2 [(0, .ref (b 39)), (1, .int t)] := hl
  refine lv_iload_n hx hb dX10_where_0 rfl (lv_at hl 1 rfl) ?_
  refine rdS (As := [.int t]) (rest := []) ⟨hx, hb, hml, hown, hts⟩ (k_X10_isThing l dC dI cI cZ cQ t) (va_cwS 1 hts gX10_where_X10_isThing rfl rfl rfl (by decide +kernel) ⟨Nat.le_of_ble_eq_true rfl, Nat.le_of_ble_eq_true rfl⟩) hP hK hN [] rfl rfl hl.1 rfl (Nat.le_of_ble_eq_true rfl) dX10_where_1 ⟨Nat.le_of_ble_eq_true rfl, Nat.le_of_ble_eq_true rfl⟩ (fun r1 h2 => ?_)
  have h2 : ((((r1 = 1) ∧ (0 ≤ t.toInt) ∧ (t.toInt ≤ 23)) ∨ ((r1 = 0) ∧ (t.toInt < 0 ∨ 23 < t.toInt)))) := h2
  rcases h2 with (⟨rfl, h2_a0, h2_a1⟩ | ⟨rfl, h2_a0⟩)
  · refine lv_if_eq (tgt := 15) hx hb dX10_where_4 (by decide) (fun c9 => absurd c9 (by decide)) (fun _ => ?_)
    refine lv_aload_n hx hb dX10_where_7 rfl (lv_at hl 0 rfl) ?_
    refine lv_iload_n hx hb dX10_where_8 rfl (lv_at hl 1 rfl) ?_
    refine rdV (As := [.int t]) (rest := []) ⟨hx, hb, hml, hown, hts⟩ (k_X10_cornerOf2 l dC dI cI cZ cQ b mday mdoo mdA mdB mfar mmar mtel mgai mfal mtop mstr mgho mfai mpto mwal mahd mahf mcho mbes mbyt mtxt mpos mtka mtok mdig mnum mfau mrdm mrea mlin mlne mthg mord mbor mbsm mans mand manr mali t r_mday r_mdoo r_mdA r_mdB r_mmar r_mgai r_mfal r_mtop r_mstr r_mgho r_mfai r_mahd r_mahf r_mcho r_mbyt r_mpos r_mrdm r_mlin r_mthg r_mord r_mans) (cwV 1 hts gX10_where_X10_cornerOf rfl rfl rfl (by decide +kernel) ⟨Nat.le_of_ble_eq_true rfl, Nat.le_of_ble_eq_true rfl⟩) hP hK hN [0, 1, 2, 3, 4, 5, 6, 7, 8, 9, 10, 11, 12, 13, 14, 15, 16, 17, 18, 19, 20, 21, 22, 23, 24, 25] rfl 0 10 rfl rfl rfl hl.1 rfl (Nat.le_of_ble_eq_true rfl) dX10_where_9 ⟨Nat.le_of_ble_eq_true rfl, Nat.le_of_ble_eq_true rfl⟩ (fun r3 h4 => ?_)
    have h4 : (-1 ≤ r3.toInt) ∧ (r3.toInt ≤ 47) ∧ (whr mtop t r3) := h4
    obtain ⟨h4_0, h4_1, h4_2⟩ := h4
    refine lv_goto (tgt := 17) hx hb dX10_where_12 (by decide) ?_
    exact W.iret (v := r3) hx hb hr (fun tq ht hW => ⟨r3, rfl, (show spWhereM mtop t r3 from by (first | exact Or.inl ⟨by omega, rfl⟩ | exact Or.inr ⟨by omega, by assumption⟩)), ht⟩) (fun q h => by cases h) dX10_where_17
  · refine lv_if_eq (tgt := 15) hx hb dX10_where_4 (by decide) (fun _ => ?_) (fun c9 => absurd (by decide) c9)
    refine lv_bipush (v := (-2)) hx hb dX10_where_15 (by decide) ?_
    exact W.iret (v := (-2)) hx hb hr (fun tq ht hW => ⟨(-2), rfl, (show spWhereM mtop t ((-2) : Int32) from by (try rw [show ((-2) : Int32).toInt = (-2) from (show ((-2) : Int32).toInt = (-2) from rfl)]); (first | exact Or.inl ⟨by omega, rfl⟩ | exact Or.inr ⟨by omega, by assumption⟩)), ht⟩) (fun q h => by cases h) dX10_where_17
end
section
-- ===== the next THING beside: a scan of one ROOM =====
def scn (T : Nat → Int32) (lo s : Int) : Nat → Int → Int32
  | 0, _ => -1
  | n + 1, k => if k < lo ∨ lo + 6 ≤ k then -1 else if T k.toNat = -1 then scn T lo s n (k + s) else T k.toNat
theorem scn_out {T : Nat → Int32} {lo s k : Int} {N : Nat} {R : Int32} (h : scn T lo s N k = R) (hN : 1 ≤ N) (ho : k < lo ∨ lo + 6 ≤ k) : -1 = R := by
  obtain ⟨n, rfl⟩ : ∃ n, N = n + 1 := ⟨N - 1, by omega⟩
  rw [← h]; show _ = if _ then _ else _
  rw [if_pos ho]
theorem scn_end {T : Nat → Int32} {lo s k : Int} {N : Nat} {R : Int32} (h : scn T lo s N k = R) (hN : N = 0) : -1 = R := by
  subst hN; exact h
theorem scn_hit {T : Nat → Int32} {lo s : Int} {N : Nat} {R y v : Int32} (h : scn T lo s N y.toInt = R) (hN : 1 ≤ N) (h1 : lo ≤ y.toInt) (h2 : y.toInt < lo + 6) (hv : v = T y.toNatClampNeg) (hn : ¬ v = -1) : v = R := by
  obtain ⟨n, rfl⟩ : ∃ n, N = n + 1 := ⟨N - 1, by omega⟩
  rw [← h]; show _ = if _ then _ else _
  rw [clC (x := y) rfl] at hv
  rw [if_neg (by omega), ← hv, if_neg hn]
theorem scn_step {T : Nat → Int32} {lo s k' : Int} {N N' : Nat} {R y : Int32} (h : scn T lo s N y.toInt = R) (hN : N = N' + 1) (h1 : lo ≤ y.toInt) (h2 : y.toInt < lo + 6) (hv : T y.toNatClampNeg = -1) (hk : k' = y.toInt + s) : scn T lo s N' k' = R := by
  subst hN; subst hk
  rw [← h]; show _ = if _ then _ else _
  rw [clC (x := y) rfl] at hv
  rw [if_neg (by omega), if_pos hv]
theorem scn_eq {T G : Nat → Int32} {lo s : Int} (h : ∀ j, j < 48 → T j = G j) (h0 : 0 ≤ lo) (h1 : lo + 6 ≤ 48) : ∀ (n : Nat) (k : Int), scn T lo s n k = scn G lo s n k
  | 0, _ => rfl
  | n + 1, k => by
    show (if _ then _ else _) = (if _ then _ else _)
    by_cases q : k < lo ∨ lo + 6 ≤ k
    · rw [if_pos q, if_pos q]
    · rw [if_neg q, if_neg q, h k.toNat (by omega), scn_eq h h0 h1 n]
def bes (T : Nat → Int32) (c s r : Int32) : Prop := (c = -1 ∧ r = -1) ∨ (c ≠ -1 ∧ r = scn T (c.toInt - c.toInt % 6) (if s = 1 then 1 else -1) 6 (c.toInt + (if s = 1 then 1 else -1)))
def spBeside (T : Nat → Int32) (t s r : Int32) : Prop := ((t.toInt < 0 ∨ 23 < t.toInt) ∧ r = -2) ∨ ((0 ≤ t.toInt ∧ t.toInt ≤ 23) ∧ (s.toInt < 0 ∨ 1 < s.toInt) ∧ r = -3) ∨ ((0 ≤ t.toInt ∧ t.toInt ≤ 23) ∧ (0 ≤ s.toInt ∧ s.toInt ≤ 1) ∧ ∃ c : Int32, whu T t c ∧ bes T c s r)
def spBesideM (T : Nat → Int32) (t s r : Int32) : Prop := ((t.toInt < 0 ∨ 23 < t.toInt) ∧ r = -2) ∨ ((0 ≤ t.toInt ∧ t.toInt ≤ 23) ∧ (s.toInt < 0 ∨ 1 < s.toInt) ∧ r = -3) ∨ ((0 ≤ t.toInt ∧ t.toInt ≤ 23) ∧ (0 ≤ s.toInt ∧ s.toInt ≤ 1) ∧ ∃ c : Int32, whr T t c ∧ bes T c s r)
theorem whu_whr {f g : Nat → Int32} {t c d : Int32} (h : ∀ j, j < 48 → f j = g j) (h1 : whu f t c) (h2 : whr g t d) : c = d ∧ (c = -1 ∨ (0 ≤ c.toInt ∧ c.toInt ≤ 47)) := by
  rcases h1 with ⟨rfl, b⟩ | ⟨j, hj, rfl, e, hu⟩
  · rcases h2 with ⟨rfl, b2⟩ | ⟨j, hj, rfl, e⟩
    · exact ⟨rfl, Or.inl rfl⟩
    · exact absurd ((h j hj).trans e) (b j hj)
  · have hb : (nI j).toInt = j := nI_toInt (by omega)
    rcases h2 with ⟨rfl, b2⟩ | ⟨k, hk, rfl, e2⟩
    · exact absurd ((h j hj).symm.trans e) (b2 j hj)
    · rw [hu k hk ((h k hk).trans e2)]
      exact ⟨rfl, Or.inr (by omega)⟩
theorem spBeside_rel {f g : Nat → Int32} {t s r r2 : Int32} (h : ∀ j, j < 48 → f j = g j) (h1 : spBeside f t s r) (h2 : spBesideM g t s r2) : r = r2 := by
  unfold spBeside at h1
  unfold spBesideM at h2
  rcases h1 with ⟨a, rfl⟩ | ⟨a, b, rfl⟩ | ⟨a, b, c, hc, hb⟩
  · rcases h2 with ⟨a2, rfl⟩ | ⟨a2, b2, rfl⟩ | ⟨a2, b2, -⟩ <;> first | rfl | (exfalso; omega)
  · rcases h2 with ⟨a2, rfl⟩ | ⟨a2, b2, rfl⟩ | ⟨a2, b2, -⟩ <;> first | rfl | (exfalso; omega)
  · rcases h2 with ⟨a2, rfl⟩ | ⟨a2, b2, rfl⟩ | ⟨a2, b2, d, hd, hb2⟩
    · exfalso; omega
    · exfalso; omega
    · obtain ⟨e, hr⟩ := whu_whr h hc hd
      subst e
      unfold bes at hb hb2
      rcases hb with ⟨e1, rfl⟩ | ⟨e1, rfl⟩
      · rcases hb2 with ⟨-, rfl⟩ | ⟨e2, -⟩
        · rfl
        · exact absurd e1 e2
      · rcases hb2 with ⟨e2, -⟩ | ⟨-, rfl⟩
        · exact absurd e2 e1
        · rcases hr with hr | hr
          · exact absurd hr e1
          · exact scn_eq h (by omega) (by omega) _ _
theorem bes_at {T : Nat → Int32} {c s w r : Int32} (hc : ¬ c = -1) (hs : (s = 1 ∧ w.toInt = 1) ∨ (¬ s = 1 ∧ w.toInt = -1)) (h : r = scn T (c.toInt - c.toInt % 6) w.toInt 6 (c.toInt + w.toInt)) : bes T c s r := by
  refine Or.inr ⟨hc, ?_⟩
  rcases hs with ⟨e, e2⟩ | ⟨e, e2⟩
  · rw [e2] at h; rw [if_pos e]; exact h
  · rw [e2] at h; rw [if_neg e]; exact h
/-- the model's loop: found already, or still to be found -/
def bsk (T : Nat → Int32) (lo s : Int) (N : Nat) (k : Int) (f R : Int32) : Prop := (f = -1 ∧ scn T lo s N k = R) ∨ (¬ f = -1 ∧ f = R)
theorem bsk_step {T : Nat → Int32} {lo s k' : Int} {N N' : Nat} {R y v f : Int32} (h : bsk T lo s N y.toInt f R) (hf : f = -1) (hN : N = N' + 1) (h1 : lo ≤ y.toInt) (h2 : y.toInt < lo + 6) (hv : v = T y.toNatClampNeg) (hk : k' = y.toInt + s) : bsk T lo s N' k' v R := by
  rcases h with ⟨-, h⟩ | ⟨q, -⟩
  · by_cases e : v = -1
    · exact Or.inl ⟨e, scn_step h hN h1 h2 (hv.symm.trans e) hk⟩
    · exact Or.inr ⟨e, scn_hit h (by omega) h1 h2 hv e⟩
  · exact absurd hf q
theorem bsk_end {T : Nat → Int32} {lo s k : Int} {N : Nat} {R f : Int32} (h : bsk T lo s N k f R) (hN : 1 ≤ N) (ho : k < lo ∨ lo + 6 ≤ k ∨ ¬ f = -1) : f = R := by
  rcases h with ⟨e, h⟩ | ⟨-, e⟩
  · rw [e]
    exact scn_out h hN (by rcases ho with q | q | q <;> first | exact Or.inl q | exact Or.inr q | exact absurd e q)
  · exact e
theorem pl_ux {top pla : Nat → Int32} {x t : Int32} (h : plOK top pla) (h0 : 0 ≤ t.toInt) (h1 : t.toInt ≤ 23) (hx : x = pla t.toNatClampNeg) : whu top t x := by rw [hx]; exact pl_u h h0 h1
theorem bsk_0 {T : Nat → Int32} {lo s k k0 : Int} {N : Nat} (hk : k = k0) (hN : N = 6) : bsk T lo s N k (-1) (scn T lo s 6 k0) := Or.inl ⟨rfl, by rw [hk, hN]⟩
theorem bes_0 {T : Nat → Int32} {c r : Int32} (hc : ¬ c = -1) (h : r = scn T (c.toInt - c.toInt % 6) (-1) 6 (c.toInt + (-1))) : bes T c 0 r := Or.inr ⟨hc, by rw [if_neg (by decide)]; exact h⟩
theorem bes_1 {T : Nat → Int32} {c r : Int32} (hc : ¬ c = -1) (h : r = scn T (c.toInt - c.toInt % 6) 1 6 (c.toInt + 1)) : bes T c 1 r := Or.inr ⟨hc, by rw [if_pos rfl]; exact h⟩
theorem d66e {r : Int32} (h0 : 0 ≤ r.toInt) (h1 : r.toInt ≤ 47) : (r / 6 * 6).toInt = r.toInt - r.toInt % 6 := by
  have f := divC (a := r) (b := 6) rfl (show (6 : Int32).toInt = 6 from rfl) h0 (by decide)
  have g := mulC f (show (6 : Int32).toInt = 6 from rfl) (by omega) (by omega)
  rw [g]; omega
theorem d66 {r : Int32} (h0 : 0 ≤ r.toInt) (h1 : r.toInt ≤ 47) : 0 ≤ (r / 6 * 6).toInt ∧ (r / 6 * 6).toInt ≤ 42 := by
  have f := divC (a := r) (b := 6) rfl (show (6 : Int32).toInt = 6 from rfl) h0 (by decide)
  have g := mulC f (show (6 : Int32).toInt = 6 from rfl) (by omega) (by omega)
  rw [g]; omega
set_option maxHeartbeats 4000000 in
set_option maxRecDepth 100000 in
theorem k_X1_nextOnTop2 (l : Launch) (dC : Nat → ClassId) (dI : Nat → Nat → Nat) (cI cZ cQ : ClassId) (a : Nat → Nat) (top : Nat → Int32) (str : Nat → Int32) (gho : Nat → Int32) (ghs : Nat → Int32) (pto : Nat → Int32) (cro : Nat → Int32) (pla : Nat → Int32) (wal : Nat → Int32) (fal : Nat → Int32) (tel : Int32) (gai : Int32) (day : Int32) (mar : Nat → Int32) (pl : Int32) (st : Int32) (r_top : rg 48 (-1) (23) top) (r_str : rg 48 (0) (100) str) (r_gho : rg 48 (-1) (23) gho) (r_ghs : rg 48 (0) (100) ghs) (r_cro : rg 48 (0) (6) cro) (r_pla : rg 24 (-1) (47) pla) (r_fal : rg 11 (0) (30) fal) (r_gai : 0 ≤ gai.toInt ∧ gai.toInt ≤ 100) (r_day : 0 ≤ day.toInt ∧ day.toInt ≤ 400) (r_mar : rg 24 (0) (255) mar) (q0 : 0 ≤ pl.toInt) (q1 : pl.toInt ≤ 47) (q2 : st.toInt = 1 ∨ st.toInt = -1) (q3 : -1 ≤ st.toInt) (q4 : st.toInt ≤ 1) : KR l yX1_nextOnTop wsX1_nextOnTop { frames := 0, cells := 0, slots := 0, locals := 0 } (dC, dI) (TY cI cZ cQ) (wCor cI cZ cQ a top str gho ghs pto cro pla wal fal tel gai day mar) [.ref (a 4), .int pl, .int st] (fun r : Int32 => (-1 ≤ r.toInt) ∧ (r.toInt ≤ 23) ∧ (r = scn top (pl.toInt - pl.toInt % 6) st.toInt 6 (pl.toInt + st.toInt))) := by
  refine Met.ofW (cc := cX1_nextOnTop) (maxL := 6) (ret := (some .int)) (by decide) rfl ?_
  intro p e s m args below meth c s₁ B hml hv
  obtain ⟨rfl, hP, hK, hN⟩ := hv
  have hx := B.exec
  have hb := B.bytes
  have hr := B.returns
  have hts := atoms_spec (ws := wsX1_nextOnTop) B.pre
  have hown : s.vm.findClass RX1 = some m.cls := findClass_of_methodNamed B.named
  have hlocks := B.notSynchronized
  have lf9 := hts (.fieldLink RX1 9 "PalaceOfRooms$Corners" "top" "[I") (List.mem_cons_of_mem _ (List.mem_append_left _ (List.mem_of_getElem? (i := 0) rfl)))
  have inX1 : ∀ w ∈ wsX10, w ∈ wsX1_nextOnTop := fun w h => List.mem_cons_of_mem _ (List.mem_append_right _ h)
  have hl := lv_entry ([.ref (a 4), .int pl, .int st]) (n := 6) (Nat.le_of_ble_eq_true rfl)
  rw [lg_entry_eq]
  generalize (lg_sl ([.ref (a 4), .int pl, .int st]) ++ List.replicate (6 - (lg_sl ([.ref (a 4), .int pl, .int st])).length) Slot.unset).toArray = ls at hl ⊢
  have hl : lv_has ls 6 [(0, .ref (a 4)), (1, .int pl), (2, .int st)] := hl
  refine lv_iload_n hx hb dX1_nextOnTop_0 rfl (lv_at hl 1 rfl) ?_
  refine lv_iload_n hx hb dX1_nextOnTop_1 rfl (lv_at hl 1 rfl) ?_
  refine lv_bipush (v := 6) hx hb dX1_nextOnTop_2 (by decide) ?_
  refine lv_irem hx hb dX1_nextOnTop_4 (by decide) ?_
  have f1 : (pl - pl / 6 * 6).toInt = (pl.toInt) % (6) := remC rfl (show (6 : Int32).toInt = 6 from rfl) (by omega) (by omega)
  refine lv_isub hx hb dX1_nextOnTop_5 ?_
  have f2 : (pl - (pl - pl / 6 * 6)).toInt = (pl.toInt) - ((pl.toInt) % (6)) := subC rfl f1 (by omega) (by omega)
  refine lv_topi (fun x3 ex3 => ?_)
  have ix3 : x3.toInt = (pl.toInt) - ((pl.toInt) % (6)) := by rw [ex3]; exact f2
  refine lv_istore_n (lv' := [(3, .int x3), (0, .ref (a 4)), (1, .int pl), (2, .int st)]) hx hb dX1_nextOnTop_6 rfl hl (by decide) rfl (fun ls hl => ?_)
  refine lv_iload_n hx hb dX1_nextOnTop_7 rfl (lv_at hl 2 rfl) ?_
  refine lv_iload_n hx hb dX1_nextOnTop_8 rfl (lv_at hl 3 rfl) ?_
  refine lv_iadd hx hb dX1_nextOnTop_9 ?_
  have f4 : (pl + st).toInt = (pl.toInt) + (st.toInt) := addC rfl rfl (by omega) (by omega)
  refine lv_topi (fun x5 ex5 => ?_)
  have ix5 : x5.toInt = (pl.toInt) + (st.toInt) := by rw [ex5]; exact f4
  refine lv_istore (lv' := [(4, .int x5), (3, .int x3), (0, .ref (a 4)), (1, .int pl), (2, .int st)]) hx hb dX1_nextOnTop_10 hl (by decide) rfl (fun ls hl => ?_)
  refine lv_iconst (v := 0) hx hb dX1_nextOnTop_12 (by decide) ?_
  refine lv_istore (lv' := [(5, .int 0), (4, .int x5), (3, .int x3), (0, .ref (a 4)), (1, .int pl), (2, .int st)]) hx hb dX1_nextOnTop_13 hl (by decide) rfl (fun ls hl => ?_)
  have L15 : ∀ (nn : Nat) (y15_4 : Int32) (y15_5 : Int32) (ls : Array Slot), (0 ≤ (y15_5.toInt)) → ((y15_5.toInt) ≤ 6) → (-1 ≤ (y15_4.toInt)) → ((y15_4.toInt) ≤ 48) → (scn top (pl.toInt - pl.toInt % 6) st.toInt (6 - (y15_5.toInt)).toNat (y15_4.toInt) = scn top (pl.toInt - pl.toInt % 6) st.toInt 6 (pl.toInt + st.toInt)) → (6 - (y15_5.toInt)).toNat < nn → lv_has ls 6 [(0, .ref (a 4)), (2, .int st), (3, .int x3), (4, .int y15_4), (5, .int y15_5)] → W p l e (headSpec wsX1_nextOnTop { frames := 0, cells := 0, slots := 0, locals := 0 }).room s m ([.ref (a 4), .int pl, .int st] : List Value).toArray below meth c s.heap [] 0 0 (MQ below (QR (fun r : Int32 => (-1 ≤ r.toInt) ∧ (r.toInt ≤ 23) ∧ (r = scn top (pl.toInt - pl.toInt % 6) st.toInt 6 (pl.toInt + st.toInt)))) ([.ref (a 4), .int pl, .int st] : List Value).toArray s 0 0 (fun _ => False)) (F0 m 15 ls []) := by
    intro nn
    induction nn with
    | zero =>
      intro y15_4 y15_5 ls i15_0 i15_1 i15_2 i15_3 i15_4 hm15
      exact absurd hm15 (Nat.not_lt_zero _)
    | succ nn ih15 =>
      intro y15_4 y15_5 ls i15_0 i15_1 i15_2 i15_3 i15_4 hm15 hl
      refine lv_iload hx hb dX1_nextOnTop_15 (lv_at hl 4 rfl) ?_
      refine lv_bipush (v := 6) hx hb dX1_nextOnTop_17 (by decide) ?_
      refine lv_icmp_ge (tgt := 70) hx hb dX1_nextOnTop_19 (by decide) (fun c6 => ?_) (fun c6 => ?_)
      · have dc6 : 6 ≤ y15_5.toInt := leC (show (6 : Int32).toInt = 6 from rfl) rfl c6
        refine lv_iconst (v := (-1)) hx hb dX1_nextOnTop_70 (by decide) ?_
        exact W.iret (v := (-1)) hx hb hr (fun tq ht hW => ⟨(-1), rfl, ⟨(show -1 ≤ ((-1) : Int32).toInt from by (try rw [show ((-1) : Int32).toInt = (-1) from (show ((-1) : Int32).toInt = (-1) from rfl)]); omega), (show ((-1) : Int32).toInt ≤ 23 from by (try rw [show ((-1) : Int32).toInt = (-1) from (show ((-1) : Int32).toInt = (-1) from rfl)]); omega), (show ((-1) : Int32) = scn top (pl.toInt - pl.toInt % 6) st.toInt 6 (pl.toInt + st.toInt) from by (try rw [show ((-1) : Int32).toInt = (-1) from (show ((-1) : Int32).toInt = (-1) from rfl)]); (first | exact scn_out i15_4 (by omega) (by omega) | exact scn_hit i15_4 (by omega) (by omega) (by omega) rfl (by assumption) | exact scn_end i15_4 (by omega)))⟩, ht⟩) (fun q h => by cases h) dX1_nextOnTop_71
      · have dc6 : y15_5.toInt < 6 := nleC (show (6 : Int32).toInt = 6 from rfl) rfl c6
        refine lv_iload hx hb dX1_nextOnTop_22 (lv_at hl 3 rfl) ?_
        refine lv_iload_n hx hb dX1_nextOnTop_24 rfl (lv_at hl 2 rfl) ?_
        refine lv_icmp_lt (tgt := 37) hx hb dX1_nextOnTop_25 (by decide) (fun c7 => ?_) (fun c7 => ?_)
        · have dc7 : y15_4.toInt < x3.toInt := ltC rfl rfl c7
          refine lv_iconst (v := (-1)) hx hb dX1_nextOnTop_37 (by decide) ?_
          exact W.iret (v := (-1)) hx hb hr (fun tq ht hW => ⟨(-1), rfl, ⟨(show -1 ≤ ((-1) : Int32).toInt from by (try rw [show ((-1) : Int32).toInt = (-1) from (show ((-1) : Int32).toInt = (-1) from rfl)]); omega), (show ((-1) : Int32).toInt ≤ 23 from by (try rw [show ((-1) : Int32).toInt = (-1) from (show ((-1) : Int32).toInt = (-1) from rfl)]); omega), (show ((-1) : Int32) = scn top (pl.toInt - pl.toInt % 6) st.toInt 6 (pl.toInt + st.toInt) from by (try rw [show ((-1) : Int32).toInt = (-1) from (show ((-1) : Int32).toInt = (-1) from rfl)]); (first | exact scn_out i15_4 (by omega) (by omega) | exact scn_hit i15_4 (by omega) (by omega) (by omega) rfl (by assumption) | exact scn_end i15_4 (by omega)))⟩, ht⟩) (fun q h => by cases h) dX1_nextOnTop_38
        · have dc7 : x3.toInt ≤ y15_4.toInt := nltC rfl rfl c7
          refine lv_iload hx hb dX1_nextOnTop_28 (lv_at hl 3 rfl) ?_
          refine lv_iload_n hx hb dX1_nextOnTop_30 rfl (lv_at hl 2 rfl) ?_
          refine lv_bipush (v := 6) hx hb dX1_nextOnTop_31 (by decide) ?_
          refine lv_iadd hx hb dX1_nextOnTop_33 ?_
          have f8 : (x3 + 6).toInt = (x3.toInt) + (6) := addC rfl (show (6 : Int32).toInt = 6 from rfl) (by omega) (by omega)
          refine lv_icmp_lt (tgt := 39) hx hb dX1_nextOnTop_34 (by decide) (fun c9 => ?_) (fun c9 => ?_)
          · have dc9 : y15_4.toInt < (x3.toInt) + (6) := ltC rfl f8 c9
            refine lv_aload_n hx hb dX1_nextOnTop_39 rfl (lv_at hl 0 rfl) ?_
            refine va_get (D := (dC, dI)) (ci := 1) (v := .ref (a 5)) (C := RX1) (T := TX1) (N := 13) hx hb hts inX1 hown hK hP 0 rfl rfl 1 (by decide) lf9 (fun _ h9 => h9) rfl dX1_nextOnTop_40 ?_
            refine lv_iload hx hb dX1_nextOnTop_43 (lv_at hl 3 rfl) ?_
            have b10 : vp_in y15_4 48 := inC rfl (by omega) (by omega)
            refine va_iald hx hb hK hP 1 0 rfl rfl b10 dX1_nextOnTop_45 ?_
            have g11 : -1 ≤ (top y15_4.toNatClampNeg).toInt ∧ (top y15_4.toNatClampNeg).toInt ≤ 23 := rg_at r_top b10
            refine lv_iconst (v := (-1)) hx hb dX1_nextOnTop_46 (by decide) ?_
            refine lv_icmp_eq (tgt := 58) hx hb dX1_nextOnTop_47 (by decide) (fun c12 => ?_) (fun c12 => ?_)
            · have dc12 : (top y15_4.toNatClampNeg).toInt = (-1) := eqC rfl (show ((-1) : Int32).toInt = (-1) from rfl) c12
              refine lv_iload hx hb dX1_nextOnTop_58 (lv_at hl 3 rfl) ?_
              refine lv_iload_n hx hb dX1_nextOnTop_60 rfl (lv_at hl 1 rfl) ?_
              refine lv_iadd hx hb dX1_nextOnTop_61 ?_
              have f13 : (y15_4 + st).toInt = (y15_4.toInt) + (st.toInt) := addC rfl rfl (by omega) (by omega)
              refine lv_topi (fun x14 ex14 => ?_)
              have ix14 : x14.toInt = (y15_4.toInt) + (st.toInt) := by rw [ex14]; exact f13
              refine lv_istore (lv' := [(4, .int x14), (0, .ref (a 4)), (2, .int st), (3, .int x3), (5, .int y15_5)]) hx hb dX1_nextOnTop_62 hl (by decide) rfl (fun ls hl => ?_)
              obtain ⟨z15, ez15⟩ : ∃ y : Int32, y = y15_5 + 1 := ⟨_, rfl⟩
              have iz15 : z15.toInt = y15_5.toInt + 1 := by rw [ez15]; exact addC rfl rfl (by omega) (by omega)
              refine lv_iinc (v := z15) (lv' := [(5, .int z15), (4, .int x14), (0, .ref (a 4)), (2, .int st), (3, .int x3)]) hx hb dX1_nextOnTop_64 hl (k := 4) rfl (by rw [ez15]; rfl) (by decide) rfl (fun ls hl => ?_)
              refine lv_goto (tgt := 15) hx hb dX1_nextOnTop_67 (by decide) ?_
              exact ih15 x14 z15 _ (by omega) (by omega) (by omega) (by omega) (by (first | exact scn_step i15_4 (by omega) (by omega) (by omega) (by assumption) (by omega) | (rw [show (x14.toInt) = pl.toInt + st.toInt from by omega]; rfl))) (by omega) (lv_sub hl [2, 3, 4, 1, 0] rfl)
            · have dc12 : 0 ≤ (top y15_4.toNatClampNeg).toInt := ka_lo (by omega) (neC rfl (show ((-1) : Int32).toInt = (-1) from rfl) c12)
              refine lv_aload_n hx hb dX1_nextOnTop_50 rfl (lv_at hl 0 rfl) ?_
              refine va_get (D := (dC, dI)) (ci := 1) (v := .ref (a 5)) (C := RX1) (T := TX1) (N := 13) hx hb hts inX1 hown hK hP 0 rfl rfl 1 (by decide) lf9 (fun _ h9 => h9) rfl dX1_nextOnTop_51 ?_
              refine lv_iload hx hb dX1_nextOnTop_54 (lv_at hl 3 rfl) ?_
              have b16 : vp_in y15_4 48 := inC rfl (by omega) (by omega)
              refine va_iald hx hb hK hP 1 0 rfl rfl b16 dX1_nextOnTop_56 ?_
              have g17 : -1 ≤ (top y15_4.toNatClampNeg).toInt ∧ (top y15_4.toNatClampNeg).toInt ≤ 23 := rg_at r_top b16
              exact W.iret (v := top y15_4.toNatClampNeg) hx hb hr (fun tq ht hW => ⟨top y15_4.toNatClampNeg, rfl, ⟨(show -1 ≤ (top y15_4.toNatClampNeg).toInt from by omega), (show (top y15_4.toNatClampNeg).toInt ≤ 23 from by omega), (show (top y15_4.toNatClampNeg) = scn top (pl.toInt - pl.toInt % 6) st.toInt 6 (pl.toInt + st.toInt) from by (first | exact scn_out i15_4 (by omega) (by omega) | exact scn_hit i15_4 (by omega) (by omega) (by omega) rfl (by assumption) | exact scn_end i15_4 (by omega)))⟩, ht⟩) (fun q h => by cases h) dX1_nextOnTop_57
          · have dc9 : (x3.toInt) + (6) ≤ y15_4.toInt := nltC rfl f8 c9
            refine lv_iconst (v := (-1)) hx hb dX1_nextOnTop_37 (by decide) ?_
            exact W.iret (v := (-1)) hx hb hr (fun tq ht hW => ⟨(-1), rfl, ⟨(show -1 ≤ ((-1) : Int32).toInt from by (try rw [show ((-1) : Int32).toInt = (-1) from (show ((-1) : Int32).toInt = (-1) from rfl)]); omega), (show ((-1) : Int32).toInt ≤ 23 from by (try rw [show ((-1) : Int32).toInt = (-1) from (show ((-1) : Int32).toInt = (-1) from rfl)]); omega), (show ((-1) : Int32) = scn top (pl.toInt - pl.toInt % 6) st.toInt 6 (pl.toInt + st.toInt) from by (try rw [show ((-1) : Int32).toInt = (-1) from (show ((-1) : Int32).toInt = (-1) from rfl)]); (first | exact scn_out i15_4 (by omega) (by omega) | exact scn_hit i15_4 (by omega) (by omega) (by omega) rfl (by assumption) | exact scn_end i15_4 (by omega)))⟩, ht⟩) (fun q h => by cases h) dX1_nextOnTop_38
  have kc18 : (0 : Int32).toInt = 0 := rfl
  exact L15 _ x5 0 _ (by omega) (by omega) (by omega) (by omega) (by (first | exact scn_step i15_4 (by omega) (by omega) (by omega) (by assumption) (by omega) | (rw [show (x5.toInt) = pl.toInt + st.toInt from by omega]; rfl))) (Nat.lt_succ_self _) (lv_sub hl [3, 5, 2, 1, 0] rfl)
set_option maxHeartbeats 4000000 in
set_option maxRecDepth 100000 in
theorem k_X9_beside2 (l : Launch) (dC : Nat → ClassId) (dI : Nat → Nat → Nat) (cI cZ cQ : ClassId) (a : Nat → Nat) (rb0 : Nat) (rb1 : Nat) (rb2 : Nat) (db0 : Nat) (db1 : Nat) (db2 : Nat) (top : Nat → Int32) (str : Nat → Int32) (gho : Nat → Int32) (ghs : Nat → Int32) (pto : Nat → Int32) (cro : Nat → Int32) (pla : Nat → Int32) (wal : Nat → Int32) (fal : Nat → Int32) (tel : Int32) (gai : Int32) (day : Int32) (mar : Nat → Int32) (t : Int32) (si : Int32) (r_top : rg 48 (-1) (23) top) (r_str : rg 48 (0) (100) str) (r_gho : rg 48 (-1) (23) gho) (r_ghs : rg 48 (0) (100) ghs) (r_cro : rg 48 (0) (6) cro) (r_pla : rg 24 (-1) (47) pla) (r_fal : rg 11 (0) (30) fal) (r_gai : 0 ≤ gai.toInt ∧ gai.toInt ≤ 100) (r_day : 0 ≤ day.toInt ∧ day.toInt ≤ 400) (r_mar : rg 24 (0) (255) mar) (q0 : plOK top pla) : KR l yX9_beside wsX9_beside { frames := 2, cells := 0, slots := 0, locals := 42 } (dC, dI) (TY cI cZ cQ) (wsC cI cZ cQ a rb0 rb1 rb2 db0 db1 db2 top str gho ghs pto cro pla wal fal tel gai day mar) [.ref (a 43), .int t, .int si] (fun r : Int32 => (spBeside top t si r)) := by
  refine Met.ofW (cc := cX9_beside) (maxL := 4) (ret := (some .int)) (by decide) rfl ?_
  intro p e s m args below meth c s₁ B hml hv
  obtain ⟨rfl, hP, hK, hN⟩ := hv
  have hx := B.exec
  have hb := B.bytes
  have hr := B.returns
  have hts := atoms_spec (ws := wsX9_beside) B.pre
  have hown : s.vm.findClass RX9 = some m.cls := findClass_of_methodNamed B.named
  have hlocks := B.notSynchronized
  have lf28 := hts (.fieldLink RX9 28 "PalaceOfRooms" "corners" "LPalaceOfRooms$Corners;") (List.mem_cons_of_mem _ (List.mem_append_left _ (List.mem_append_left _ (List.mem_of_getElem? (i := 0) rfl))))
  have inX9 : ∀ w ∈ wsX90, w ∈ wsX9_beside := fun w h => List.mem_cons_of_mem _ (List.mem_append_left _ (List.mem_append_right _ h))
  have lf128 := hN.use (w := .fieldLinkNest "PalaceOfRooms" 128 "PalaceOfRooms$Corners" "placeOf" "[I" "PalaceOfRooms") (List.mem_of_getElem? (i := 8) rfl) ([.ref (a 43), .int t, .int si] : List Value).toArray
  have inX1 : ∀ w ∈ wsX10, w ∈ wsX9_beside := fun w h => List.mem_cons_of_mem _ (List.mem_append_right _ h)
  have hl := lv_entry ([.ref (a 43), .int t, .int si]) (n := 4) (Nat.le_of_ble_eq_true rfl)
  rw [lg_entry_eq]
  generalize (lg_sl ([.ref (a 43), .int t, .int si]) ++ List.replicate (4 - (lg_sl ([.ref (a 43), .int t, .int si])).length) Slot.unset).toArray = ls at hl ⊢
  have hl : lv_has ls 4 [(0, .ref (a 43)), (1, .int t), (2, .int si)] := hl
  refine lv_iload_n hx hb dX9_beside_0 rfl (lv_at hl 1 rfl) ?_
  refine rdS (As := [.int t]) (rest := []) ⟨hx, hb, hml, hown, hts⟩ (k_X9_isThing l dC dI cI cZ cQ t) (va_cwS 1 hts gX9_beside_X9_isThing rfl rfl rfl (by decide +kernel) ⟨Nat.le_of_ble_eq_true rfl, Nat.le_of_ble_eq_true rfl⟩) hP hK hN [] rfl rfl hl.1 rfl (Nat.le_of_ble_eq_true rfl) dX9_beside_1 ⟨Nat.le_of_ble_eq_true rfl, Nat.le_of_ble_eq_true rfl⟩ (fun r1 h2 => ?_)
  have h2 : ((((r1 = 1) ∧ (0 ≤ t.toInt) ∧ (t.toInt ≤ 23)) ∨ ((r1 = 0) ∧ (t.toInt < 0 ∨ 23 < t.toInt)))) := h2
  rcases h2 with (⟨rfl, h2_a0, h2_a1⟩ | ⟨rfl, h2_a0⟩)
  · refine lv_if_ne (tgt := 10) hx hb dX9_beside_4 (by decide) (fun _ => ?_) (fun c9 => absurd c9 (by decide))
    refine lv_iload_n hx hb dX9_beside_10 rfl (lv_at hl 2 rfl) ?_
    refine lv_iconst (v := 0) hx hb dX9_beside_11 (by decide) ?_
    refine lv_iconst (v := 1) hx hb dX9_beside_12 (by decide) ?_
    refine rdS (As := [.int si, .int 0, .int 1]) (rest := []) ⟨hx, hb, hml, hown, hts⟩ (k_X9_within l dC dI cI cZ cQ si (0 : Int32) (1 : Int32)) (va_cwS 3 hts gX9_beside_X9_within rfl rfl rfl (by decide +kernel) ⟨Nat.le_of_ble_eq_true rfl, Nat.le_of_ble_eq_true rfl⟩) hP hK hN [] rfl rfl hl.1 rfl (Nat.le_of_ble_eq_true rfl) dX9_beside_13 ⟨Nat.le_of_ble_eq_true rfl, Nat.le_of_ble_eq_true rfl⟩ (fun r3 h4 => ?_)
    have h4 : ((((r3 = 1) ∧ ((0) ≤ si.toInt) ∧ (si.toInt ≤ (1))) ∨ ((r3 = 0) ∧ (si.toInt < (0) ∨ (1) < si.toInt)))) := h4
    rcases h4 with (⟨rfl, h4_a0, h4_a1⟩ | ⟨rfl, h4_a0⟩)
    · refine lv_if_ne (tgt := 22) hx hb dX9_beside_16 (by decide) (fun _ => ?_) (fun c9 => absurd c9 (by decide))
      refine lv_aload_n hx hb dX9_beside_22 rfl (lv_at hl 0 rfl) ?_
      refine va_get (D := (dC, dI)) (ci := 9) (v := .ref (a 4)) (C := RX9) (T := TX9) (N := 11) hx hb hts inX9 hown hK hP 0 rfl rfl 2 (by decide) lf28 (fun _ h9 => h9) rfl dX9_beside_23 ?_
      refine va_getN (D := (dC, dI)) (ci := 1) (v := .ref (a 11)) (C := RX1) (T := TX1) (N := 13) hx hb hts inX1 hown hK hP 1 rfl rfl 7 (by decide) lf128 (fun _ h9 => h9) rfl dX9_beside_26 ?_
      refine lv_iload_n hx hb dX9_beside_29 rfl (lv_at hl 1 rfl) ?_
      have b5 : vp_in t 24 := inC rfl (by omega) (by omega)
      refine va_iald hx hb hK hP 8 0 rfl rfl b5 dX9_beside_30 ?_
      have g6 : -1 ≤ (pla t.toNatClampNeg).toInt ∧ (pla t.toNatClampNeg).toInt ≤ 47 := rg_at r_pla b5
      refine lv_topi (fun x7 ex7 => ?_)
      have ix7 : x7.toInt = (pla t.toNatClampNeg).toInt := by rw [ex7]
      refine lv_istore_n (lv' := [(3, .int x7), (0, .ref (a 43)), (1, .int t), (2, .int si)]) hx hb dX9_beside_31 rfl hl (by decide) rfl (fun ls hl => ?_)
      refine lv_iload_n hx hb dX9_beside_32 rfl (lv_at hl 0 rfl) ?_
      refine lv_iconst (v := (-1)) hx hb dX9_beside_33 (by decide) ?_
      refine lv_icmp_ne (tgt := 41) hx hb dX9_beside_34 (by decide) (fun c8 => ?_) (fun c8 => ?_)
      · have dc8 : 0 ≤ x7.toInt := ka_lo (by omega) (neC rfl (show ((-1) : Int32).toInt = (-1) from rfl) c8)
        refine lv_aload_n hx hb dX9_beside_41 rfl (lv_at hl 1 rfl) ?_
        refine va_get (D := (dC, dI)) (ci := 9) (v := .ref (a 4)) (C := RX9) (T := TX9) (N := 11) hx hb hts inX9 hown hK hP 0 rfl rfl 2 (by decide) lf28 (fun _ h9 => h9) rfl dX9_beside_42 ?_
        refine lv_iload_n hx hb dX9_beside_45 rfl (lv_at hl 0 rfl) ?_
        have L56 : ∀ (t56_0 : Int32) (ls : Array Slot), ((t56_0.toInt) = 1 ∨ (t56_0.toInt) = -1) → (-1 ≤ (t56_0.toInt)) → ((t56_0.toInt) ≤ 1) → ((si = 1 ∧ (t56_0.toInt) = 1) ∨ (¬ si = 1 ∧ (t56_0.toInt) = -1)) → lv_has ls 4 [] → W p l e (headSpec wsX9_beside { frames := 2, cells := 0, slots := 0, locals := 42 }).room s m ([.ref (a 43), .int t, .int si] : List Value).toArray below meth c s.heap [] 0 0 (MQ below (QR (fun r : Int32 => (spBeside top t si r))) ([.ref (a 43), .int t, .int si] : List Value).toArray s 0 0 (fun _ => False)) (F0 m 56 ls [.int t56_0, .int x7, .ref (a 4)]) := by
          intro t56_0 ls i56_0 i56_1 i56_2 i56_3 hl
          refine rdV (As := [.int x7, .int t56_0]) (rest := []) ⟨hx, hb, hml, hown, hts⟩ (k_X1_nextOnTop2 l dC dI cI cZ cQ a top str gho ghs pto cro pla wal fal tel gai day mar x7 t56_0 r_top r_str r_gho r_ghs r_cro r_pla r_fal r_gai r_day r_mar (by omega) (by omega) (by omega) (by omega) (by omega)) (cwV 2 hts gX9_beside_X1_nextOnTop rfl rfl rfl (by decide +kernel) ⟨Nat.le_of_ble_eq_true rfl, Nat.le_of_ble_eq_true rfl⟩) hP hK hN [1, 2, 3, 4, 5, 6, 7, 8, 9, 10, 11, 12] rfl 1 1 rfl rfl rfl hl.1 rfl (Nat.le_of_ble_eq_true rfl) dX9_beside_56 ⟨Nat.le_of_ble_eq_true rfl, Nat.le_of_ble_eq_true rfl⟩ (fun r9 h10 => ?_)
          have h10 : (-1 ≤ r9.toInt) ∧ (r9.toInt ≤ 23) ∧ (r9 = scn top (x7.toInt - x7.toInt % 6) t56_0.toInt 6 (x7.toInt + t56_0.toInt)) := h10
          obtain ⟨h10_0, h10_1, h10_2⟩ := h10
          exact W.iret (v := r9) hx hb hr (fun tq ht hW => ⟨r9, rfl, (show spBeside top t si r9 from by (first | exact Or.inl ⟨by omega, rfl⟩ | exact Or.inr (Or.inl ⟨by omega, by omega, rfl⟩) | exact Or.inr (Or.inr ⟨by omega, by omega, _, pl_ux q0 (by omega) (by omega) (by assumption), Or.inl ⟨by assumption, rfl⟩⟩) | exact Or.inr (Or.inr ⟨by omega, by omega, _, pl_ux q0 (by omega) (by omega) (by assumption), bes_at (by assumption) (by assumption) (by assumption)⟩))), ht⟩) (fun q h => by cases h) dX9_beside_59
        refine lv_iload_n hx hb dX9_beside_46 rfl (lv_at hl 3 rfl) ?_
        refine lv_iconst (v := 1) hx hb dX9_beside_47 (by decide) ?_
        refine lv_icmp_ne (tgt := 55) hx hb dX9_beside_48 (by decide) (fun c11 => ?_) (fun c11 => ?_)
        · have dc11 : si.toInt ≤ 0 := ka_hi (by omega) (neC rfl (show (1 : Int32).toInt = 1 from rfl) c11)
          refine lv_iconst (v := (-1)) hx hb dX9_beside_55 (by decide) ?_
          have kc12 : ((-1) : Int32).toInt = -1 := rfl
          exact L56 (-1) _ (by omega) (by omega) (by omega) (by (first | exact Or.inl ⟨by assumption, rfl⟩ | exact Or.inr ⟨by assumption, rfl⟩)) (lv_sub hl [] rfl)
        · have dc11 : si.toInt = 1 := eqC rfl (show (1 : Int32).toInt = 1 from rfl) c11
          refine lv_iconst (v := 1) hx hb dX9_beside_51 (by decide) ?_
          refine lv_goto (tgt := 56) hx hb dX9_beside_52 (by decide) ?_
          have kc13 : (1 : Int32).toInt = 1 := rfl
          exact L56 1 _ (by omega) (by omega) (by omega) (by (first | exact Or.inl ⟨by assumption, rfl⟩ | exact Or.inr ⟨by assumption, rfl⟩)) (lv_sub hl [] rfl)
      · have dc8 : x7.toInt = (-1) := eqC rfl (show ((-1) : Int32).toInt = (-1) from rfl) c8
        refine lv_iconst (v := (-1)) hx hb dX9_beside_37 (by decide) ?_
        refine lv_goto (tgt := 59) hx hb dX9_beside_38 (by decide) ?_
        exact W.iret (v := (-1)) hx hb hr (fun tq ht hW => ⟨(-1), rfl, (show spBeside top t si ((-1) : Int32) from by (try rw [show ((-1) : Int32).toInt = (-1) from (show ((-1) : Int32).toInt = (-1) from rfl)]); (first | exact Or.inl ⟨by omega, rfl⟩ | exact Or.inr (Or.inl ⟨by omega, by omega, rfl⟩) | exact Or.inr (Or.inr ⟨by omega, by omega, _, pl_ux q0 (by omega) (by omega) (by assumption), Or.inl ⟨by assumption, rfl⟩⟩) | exact Or.inr (Or.inr ⟨by omega, by omega, _, pl_ux q0 (by omega) (by omega) (by assumption), bes_at (by assumption) (by assumption) (by assumption)⟩))), ht⟩) (fun q h => by cases h) dX9_beside_59
    · refine lv_if_ne (tgt := 22) hx hb dX9_beside_16 (by decide) (fun c9 => absurd (by decide) c9) (fun _ => ?_)
      refine lv_bipush (v := (-3)) hx hb dX9_beside_19 (by decide) ?_
      exact W.iret (v := (-3)) hx hb hr (fun tq ht hW => ⟨(-3), rfl, (show spBeside top t si ((-3) : Int32) from by (try rw [show ((-3) : Int32).toInt = (-3) from (show ((-3) : Int32).toInt = (-3) from rfl)]); (first | exact Or.inl ⟨by omega, rfl⟩ | exact Or.inr (Or.inl ⟨by omega, by omega, rfl⟩) | exact Or.inr (Or.inr ⟨by omega, by omega, _, pl_ux q0 (by omega) (by omega) (by assumption), Or.inl ⟨by assumption, rfl⟩⟩) | exact Or.inr (Or.inr ⟨by omega, by omega, _, pl_ux q0 (by omega) (by omega) (by assumption), bes_at (by assumption) (by assumption) (by assumption)⟩))), ht⟩) (fun q h => by cases h) dX9_beside_21
  · refine lv_if_ne (tgt := 10) hx hb dX9_beside_4 (by decide) (fun c9 => absurd (by decide) c9) (fun _ => ?_)
    refine lv_bipush (v := (-2)) hx hb dX9_beside_7 (by decide) ?_
    exact W.iret (v := (-2)) hx hb hr (fun tq ht hW => ⟨(-2), rfl, (show spBeside top t si ((-2) : Int32) from by (try rw [show ((-2) : Int32).toInt = (-2) from (show ((-2) : Int32).toInt = (-2) from rfl)]); (first | exact Or.inl ⟨by omega, rfl⟩ | exact Or.inr (Or.inl ⟨by omega, by omega, rfl⟩) | exact Or.inr (Or.inr ⟨by omega, by omega, _, pl_ux q0 (by omega) (by omega) (by assumption), Or.inl ⟨by assumption, rfl⟩⟩) | exact Or.inr (Or.inr ⟨by omega, by omega, _, pl_ux q0 (by omega) (by omega) (by assumption), bes_at (by assumption) (by assumption) (by assumption)⟩))), ht⟩) (fun q h => by cases h) dX9_beside_9
set_option maxHeartbeats 4000000 in
set_option maxRecDepth 100000 in
theorem k_X10_beside2 (l : Launch) (dC : Nat → ClassId) (dI : Nat → Nat → Nat) (cI cZ cQ : ClassId) (b : Nat → Nat) (mday : Int32) (mdoo : Int32) (mdA : Nat → Int32) (mdB : Nat → Int32) (mfar : Nat → Int32) (mmar : Nat → Int32) (mtel : Int32) (mgai : Int32) (mfal : Nat → Int32) (mtop : Nat → Int32) (mstr : Nat → Int32) (mgho : Nat → Int32) (mfai : Nat → Int32) (mpto : Nat → Int32) (mwal : Nat → Int32) (mahd : Nat → Int32) (mahf : Nat → Int32) (mcho : Nat → Int32) (mbes : Nat → Int32) (mbyt : Int32) (mtxt : Nat → Int32) (mpos : Int32) (mtka : Int32) (mtok : Int64) (mdig : Int32) (mnum : Int32) (mfau : Int32) (mrdm : Int32) (mrea : Nat → Int32) (mlin : Int32) (mlne : Nat → Int32) (mthg : Nat → Int32) (mord : Nat → Int32) (mbor : Nat → Int32) (mbsm : Int32) (mans : Nat → Int32) (mand : Nat → Int32) (manr : Nat → Int32) (mali : Nat → Int32) (t : Int32) (si : Int32) (r_mday : 0 ≤ mday.toInt ∧ mday.toInt ≤ 400) (r_mdoo : 0 ≤ mdoo.toInt ∧ mdoo.toInt ≤ 14) (r_mdA : rg 14 (0) (7) mdA) (r_mdB : rg 14 (0) (7) mdB) (r_mmar : rg 24 (0) (255) mmar) (r_mgai : 0 ≤ mgai.toInt ∧ mgai.toInt ≤ 100) (r_mfal : rg 11 (0) (30) mfal) (r_mtop : rg 48 (-1) (23) mtop) (r_mstr : rg 48 (0) (100) mstr) (r_mgho : rg 48 (-1) (23) mgho) (r_mfai : rg 48 (0) (100) mfai) (r_mahd : rg 240 (0) (100) mahd) (r_mahf : rg 240 (0) (100) mahf) (r_mcho : rg 5 (-1) (9) mcho) (r_mbyt : 0 ≤ mbyt.toInt ∧ mbyt.toInt ≤ 160) (r_mpos : 0 ≤ mpos.toInt ∧ mpos.toInt ≤ 160) (r_mrdm : 0 ≤ mrdm.toInt ∧ mrdm.toInt ≤ 10) (r_mlin : 0 ≤ mlin.toInt ∧ mlin.toInt ≤ 10) (r_mthg : rg 8 (0) (31) mthg) (r_mord : rg 8 (-1) (8) mord) (r_mans : rg 4 (0) (12) mans) : KR l yX10_beside wsX10_beside { frames := 2, cells := 0, slots := 0, locals := 42 } (dC, dI) (TY cI cZ cQ) (wMod cI cZ cQ b mday mdoo mdA mdB mfar mmar mtel mgai mfal mtop mstr mgho mfai mpto mwal mahd mahf mcho mbes mbyt mtxt mpos mtka mtok mdig mnum mfau mrdm mrea mlin mlne mthg mord mbor mbsm mans mand manr mali) [.ref (b 39), .int t, .int si] (fun r : Int32 => (spBesideM mtop t si r)) := by
  refine Met.ofW (cc := cX10_beside) (maxL := 6) (ret := (some .int)) (by decide) rfl ?_
  intro p e s m args below meth c s₁ B hml hv
  obtain ⟨rfl, hP, hK, hN⟩ := hv
  have hx := B.exec
  have hb := B.bytes
  have hr := B.returns
  have hts := atoms_spec (ws := wsX10_beside) B.pre
  have hown : s.vm.findClass RX10 = some m.cls := findClass_of_methodNamed B.named
  have hlocks := B.notSynchronized
  have lf32 := hts (.fieldLink RX10 32 "PalaceOfRoomsModel" "top" "[I") (List.mem_cons_of_mem _ (List.mem_append_left _ (List.mem_of_getElem? (i := 0) rfl)))
  have inX10 : ∀ w ∈ wsX100, w ∈ wsX10_beside := fun w h => List.mem_cons_of_mem _ (List.mem_append_right _ h)
  have hl := lv_entry ([.ref (b 39), .int t, .int si]) (n := 6) (Nat.le_of_ble_eq_true rfl)
  rw [lg_entry_eq]
  generalize (lg_sl ([.ref (b 39), .int t, .int si]) ++ List.replicate (6 - (lg_sl ([.ref (b 39), .int t, .int si])).length) Slot.unset).toArray = ls at hl ⊢
  have hl : lv_has ls 6 [(0, .ref (b 39)), (1, .int t), (2, .int si)] := hl
  refine lv_iload_n hx hb dX10_beside_0 rfl (lv_at hl 1 rfl) ?_
  refine rdS (As := [.int t]) (rest := []) ⟨hx, hb, hml, hown, hts⟩ (k_X10_isThing l dC dI cI cZ cQ t) (va_cwS 1 hts gX10_beside_X10_isThing rfl rfl rfl (by decide +kernel) ⟨Nat.le_of_ble_eq_true rfl, Nat.le_of_ble_eq_true rfl⟩) hP hK hN [] rfl rfl hl.1 rfl (Nat.le_of_ble_eq_true rfl) dX10_beside_1 ⟨Nat.le_of_ble_eq_true rfl, Nat.le_of_ble_eq_true rfl⟩ (fun r1 h2 => ?_)
  have h2 : ((((r1 = 1) ∧ (0 ≤ t.toInt) ∧ (t.toInt ≤ 23)) ∨ ((r1 = 0) ∧ (t.toInt < 0 ∨ 23 < t.toInt)))) := h2
  rcases h2 with (⟨rfl, h2_a0, h2_a1⟩ | ⟨rfl, h2_a0⟩)
  · refine lv_if_ne (tgt := 10) hx hb dX10_beside_4 (by decide) (fun _ => ?_) (fun c9 => absurd c9 (by decide))
    refine lv_iload_n hx hb dX10_beside_10 rfl (lv_at hl 2 rfl) ?_
    refine lv_iconst (v := 0) hx hb dX10_beside_11 (by decide) ?_
    refine lv_iconst (v := 1) hx hb dX10_beside_12 (by decide) ?_
    refine rdS (As := [.int si, .int 0, .int 1]) (rest := []) ⟨hx, hb, hml, hown, hts⟩ (k_X10_in l dC dI cI cZ cQ si (0 : Int32) (1 : Int32)) (va_cwS 3 hts gX10_beside_X10_in rfl rfl rfl (by decide +kernel) ⟨Nat.le_of_ble_eq_true rfl, Nat.le_of_ble_eq_true rfl⟩) hP hK hN [] rfl rfl hl.1 rfl (Nat.le_of_ble_eq_true rfl) dX10_beside_13 ⟨Nat.le_of_ble_eq_true rfl, Nat.le_of_ble_eq_true rfl⟩ (fun r3 h4 => ?_)
    have h4 : ((((r3 = 1) ∧ ((0) ≤ si.toInt) ∧ (si.toInt ≤ (1))) ∨ ((r3 = 0) ∧ (si.toInt < (0) ∨ (1) < si.toInt)))) := h4
    rcases h4 with (⟨rfl, h4_a0, h4_a1⟩ | ⟨rfl, h4_a0⟩)
    · refine lv_if_ne (tgt := 22) hx hb dX10_beside_16 (by decide) (fun _ => ?_) (fun c9 => absurd c9 (by decide))
      refine lv_aload_n hx hb dX10_beside_22 rfl (lv_at hl 0 rfl) ?_
      refine lv_iload_n hx hb dX10_beside_23 rfl (lv_at hl 1 rfl) ?_
      refine rdV (As := [.int t]) (rest := []) ⟨hx, hb, hml, hown, hts⟩ (k_X10_cornerOf2 l dC dI cI cZ cQ b mday mdoo mdA mdB mfar mmar mtel mgai mfal mtop mstr mgho mfai mpto mwal mahd mahf mcho mbes mbyt mtxt mpos mtka mtok mdig mnum mfau mrdm mrea mlin mlne mthg mord mbor mbsm mans mand manr mali t r_mday r_mdoo r_mdA r_mdB r_mmar r_mgai r_mfal r_mtop r_mstr r_mgho r_mfai r_mahd r_mahf r_mcho r_mbyt r_mpos r_mrdm r_mlin r_mthg r_mord r_mans) (cwV 1 hts gX10_beside_X10_cornerOf rfl rfl rfl (by decide +kernel) ⟨Nat.le_of_ble_eq_true rfl, Nat.le_of_ble_eq_true rfl⟩) hP hK hN [0, 1, 2, 3, 4, 5, 6, 7, 8, 9, 10, 11, 12, 13, 14, 15, 16, 17, 18, 19, 20, 21, 22, 23, 24, 25] rfl 0 10 rfl rfl rfl hl.1 rfl (Nat.le_of_ble_eq_true rfl) dX10_beside_24 ⟨Nat.le_of_ble_eq_true rfl, Nat.le_of_ble_eq_true rfl⟩ (fun r5 h6 => ?_)
      have h6 : (-1 ≤ r5.toInt) ∧ (r5.toInt ≤ 47) ∧ (whr mtop t r5) := h6
      obtain ⟨h6_0, h6_1, h6_2⟩ := h6
      refine lv_istore_n (lv' := [(3, .int r5), (0, .ref (b 39)), (1, .int t), (2, .int si)]) hx hb dX10_beside_27 rfl hl (by decide) rfl (fun ls hl => ?_)
      refine lv_iconst (v := (-1)) hx hb dX10_beside_28 (by decide) ?_
      refine lv_istore (lv' := [(4, .int (-1)), (3, .int r5), (0, .ref (b 39)), (1, .int t), (2, .int si)]) hx hb dX10_beside_29 hl (by decide) rfl (fun ls hl => ?_)
      refine lv_iload_n hx hb dX10_beside_31 rfl (lv_at hl 1 rfl) ?_
      refine lv_iconst (v := (-1)) hx hb dX10_beside_32 (by decide) ?_
      refine lv_icmp_eq (tgt := 108) hx hb dX10_beside_33 (by decide) (fun c7 => ?_) (fun c7 => ?_)
      · have dc7 : r5.toInt = (-1) := eqC rfl (show ((-1) : Int32).toInt = (-1) from rfl) c7
        refine lv_iload hx hb dX10_beside_108 (lv_at hl 0 rfl) ?_
        exact W.iret (v := (-1)) hx hb hr (fun tq ht hW => ⟨(-1), rfl, (show spBesideM mtop t si ((-1) : Int32) from by (try rw [show ((-1) : Int32).toInt = (-1) from (show ((-1) : Int32).toInt = (-1) from rfl)]); (first | exact Or.inl ⟨by omega, rfl⟩ | exact Or.inr (Or.inl ⟨by omega, by omega, rfl⟩) | exact Or.inr (Or.inr ⟨by omega, by omega, _, by assumption, Or.inl ⟨by assumption, rfl⟩⟩) | exact Or.inr (Or.inr ⟨by omega, by omega, _, by assumption, bes_0 (by assumption) (bsk_end i49_6 (by omega) (by first | exact Or.inl (by omega) | exact Or.inr (Or.inl (by omega)) | exact Or.inr (Or.inr (by assumption))))⟩) | exact Or.inr (Or.inr ⟨by omega, by omega, _, by assumption, bes_1 (by assumption) (bsk_end i49_6 (by omega) (by first | exact Or.inl (by omega) | exact Or.inr (Or.inl (by omega)) | exact Or.inr (Or.inr (by assumption))))⟩))), ht⟩) (fun q h => by cases h) dX10_beside_110
      · have dc7 : 0 ≤ r5.toInt := ka_lo (by omega) (neC rfl (show ((-1) : Int32).toInt = (-1) from rfl) c7)
        have hc8 : si = 0 ∨ si = 1 := by exact ci2 rfl (by omega)
        rcases hc8 with rfl | rfl
        · have kc9 : (0 : Int32).toInt = 0 := rfl
          refine lv_iload_n hx hb dX10_beside_36 rfl (lv_at hl 1 rfl) ?_
          refine lv_iload_n hx hb dX10_beside_37 rfl (lv_at hl 4 rfl) ?_
          refine lv_if_ne (tgt := 45) hx hb dX10_beside_38 (by decide) (fun c9 => absurd (by decide) c9) (fun _ => ?_)
          refine lv_iconst (v := (-1)) hx hb dX10_beside_41 (by decide) ?_
          refine lv_goto (tgt := 46) hx hb dX10_beside_42 (by decide) ?_
          refine lv_iadd hx hb dX10_beside_46 ?_
          refine lv_topi (fun x10 ex10 => ?_)
          have ix10 : x10.toInt = (r5.toInt) + ((-1)) := by rw [ex10]; exact addC rfl (show ((-1) : Int32).toInt = (-1) from rfl) (by omega) (by omega)
          refine lv_istore (lv' := [(5, .int x10), (4, .int (-1)), (3, .int r5), (0, .ref (b 39)), (1, .int t), (2, .int 0)]) hx hb dX10_beside_47 hl (by decide) rfl (fun ls hl => ?_)
          have L49 : ∀ (nn : Nat) (y49_4 : Int32) (y49_5 : Int32) (ls : Array Slot), (-1 ≤ (y49_5.toInt)) → ((y49_5.toInt) ≤ 48) → (-1 ≤ (y49_4.toInt)) → ((y49_4.toInt) ≤ 23) → ((r5.toInt) - (r5.toInt) % 6 - 1 ≤ (y49_5.toInt)) → ((y49_5.toInt) ≤ (r5.toInt) - 1) → (bsk mtop ((r5.toInt) - (r5.toInt) % 6) (-1) ((y49_5.toInt) - (r5.toInt) + 7).toNat (y49_5.toInt) y49_4 (scn mtop ((r5.toInt) - (r5.toInt) % 6) (-1) 6 ((r5.toInt) + (-1)))) → ((y49_5.toInt) + 1).toNat < nn → lv_has ls 6 [(0, .ref (b 39)), (2, .int 0), (3, .int r5), (4, .int y49_4), (5, .int y49_5)] → W p l e (headSpec wsX10_beside { frames := 2, cells := 0, slots := 0, locals := 42 }).room s m ([.ref (b 39), .int t, .int (0 : Int32)] : List Value).toArray below meth c s.heap [] 0 0 (MQ below (QR (fun r : Int32 => (spBesideM mtop t (0 : Int32) r))) ([.ref (b 39), .int t, .int (0 : Int32)] : List Value).toArray s 0 0 (fun _ => False)) (F0 m 49 ls []) := by
            intro nn
            induction nn with
            | zero =>
              intro y49_4 y49_5 ls i49_0 i49_1 i49_2 i49_3 i49_4 i49_5 i49_6 hm49
              exact absurd hm49 (Nat.not_lt_zero _)
            | succ nn ih49 =>
              intro y49_4 y49_5 ls i49_0 i49_1 i49_2 i49_3 i49_4 i49_5 i49_6 hm49 hl
              refine lv_iload hx hb dX10_beside_49 (lv_at hl 4 rfl) ?_
              refine lv_iload_n hx hb dX10_beside_51 rfl (lv_at hl 2 rfl) ?_
              refine lv_bipush (v := 6) hx hb dX10_beside_52 (by decide) ?_
              refine lv_idiv hx hb dX10_beside_54 (by decide) ?_
              refine lv_bipush (v := 6) hx hb dX10_beside_55 (by decide) ?_
              refine lv_imul hx hb dX10_beside_57 ?_
              refine lv_topi (fun x11 ex11 => ?_)
              have ix11 : 0 ≤ x11.toInt ∧ x11.toInt ≤ 42 := by rw [ex11]; exact d66 dc7 h6_1
              have jx11 : x11.toInt = (r5.toInt) - (r5.toInt) % 6 := by rw [ex11]; exact d66e dc7 h6_1
              refine lv_icmp_lt (tgt := 108) hx hb dX10_beside_58 (by decide) (fun c12 => ?_) (fun c12 => ?_)
              · have dc12 : y49_5.toInt < x11.toInt := ltC rfl rfl c12
                refine lv_iload hx hb dX10_beside_108 (lv_at hl 3 rfl) ?_
                exact W.iret (v := y49_4) hx hb hr (fun tq ht hW => ⟨y49_4, rfl, (show spBesideM mtop t (0 : Int32) y49_4 from by (first | exact Or.inl ⟨by omega, rfl⟩ | exact Or.inr (Or.inl ⟨by omega, by omega, rfl⟩) | exact Or.inr (Or.inr ⟨by omega, by omega, _, by assumption, Or.inl ⟨by assumption, rfl⟩⟩) | exact Or.inr (Or.inr ⟨by omega, by omega, _, by assumption, bes_0 (by assumption) (bsk_end i49_6 (by omega) (by first | exact Or.inl (by omega) | exact Or.inr (Or.inl (by omega)) | exact Or.inr (Or.inr (by assumption))))⟩) | exact Or.inr (Or.inr ⟨by omega, by omega, _, by assumption, bes_1 (by assumption) (bsk_end i49_6 (by omega) (by first | exact Or.inl (by omega) | exact Or.inr (Or.inl (by omega)) | exact Or.inr (Or.inr (by assumption))))⟩))), ht⟩) (fun q h => by cases h) dX10_beside_110
              · have dc12 : x11.toInt ≤ y49_5.toInt := nltC rfl rfl c12
                refine lv_iload hx hb dX10_beside_61 (lv_at hl 4 rfl) ?_
                refine lv_iload_n hx hb dX10_beside_63 rfl (lv_at hl 2 rfl) ?_
                refine lv_bipush (v := 6) hx hb dX10_beside_64 (by decide) ?_
                refine lv_idiv hx hb dX10_beside_66 (by decide) ?_
                refine lv_bipush (v := 6) hx hb dX10_beside_67 (by decide) ?_
                refine lv_imul hx hb dX10_beside_69 ?_
                refine lv_topi (fun x13 ex13 => ?_)
                have ix13 : 0 ≤ x13.toInt ∧ x13.toInt ≤ 42 := by rw [ex13]; exact d66 dc7 h6_1
                have jx13 : x13.toInt = (r5.toInt) - (r5.toInt) % 6 := by rw [ex13]; exact d66e dc7 h6_1
                refine lv_bipush (v := 6) hx hb dX10_beside_70 (by decide) ?_
                refine lv_iadd hx hb dX10_beside_72 ?_
                have f14 : (x13 + 6).toInt = (x13.toInt) + (6) := addC rfl (show (6 : Int32).toInt = 6 from rfl) (by omega) (by omega)
                refine lv_icmp_ge (tgt := 108) hx hb dX10_beside_73 (by decide) (fun c15 => ?_) (fun c15 => ?_)
                · have dc15 : (x13.toInt) + (6) ≤ y49_5.toInt := leC f14 rfl c15
                  refine lv_iload hx hb dX10_beside_108 (lv_at hl 3 rfl) ?_
                  exact W.iret (v := y49_4) hx hb hr (fun tq ht hW => ⟨y49_4, rfl, (show spBesideM mtop t (0 : Int32) y49_4 from by (first | exact Or.inl ⟨by omega, rfl⟩ | exact Or.inr (Or.inl ⟨by omega, by omega, rfl⟩) | exact Or.inr (Or.inr ⟨by omega, by omega, _, by assumption, Or.inl ⟨by assumption, rfl⟩⟩) | exact Or.inr (Or.inr ⟨by omega, by omega, _, by assumption, bes_0 (by assumption) (bsk_end i49_6 (by omega) (by first | exact Or.inl (by omega) | exact Or.inr (Or.inl (by omega)) | exact Or.inr (Or.inr (by assumption))))⟩) | exact Or.inr (Or.inr ⟨by omega, by omega, _, by assumption, bes_1 (by assumption) (bsk_end i49_6 (by omega) (by first | exact Or.inl (by omega) | exact Or.inr (Or.inl (by omega)) | exact Or.inr (Or.inr (by assumption))))⟩))), ht⟩) (fun q h => by cases h) dX10_beside_110
                · have dc15 : y49_5.toInt < (x13.toInt) + (6) := nleC f14 rfl c15
                  refine lv_iload hx hb dX10_beside_76 (lv_at hl 3 rfl) ?_
                  refine lv_iconst (v := (-1)) hx hb dX10_beside_78 (by decide) ?_
                  refine lv_icmp_ne (tgt := 108) hx hb dX10_beside_79 (by decide) (fun c16 => ?_) (fun c16 => ?_)
                  · have dc16 : 0 ≤ y49_4.toInt := ka_lo (by omega) (neC rfl (show ((-1) : Int32).toInt = (-1) from rfl) c16)
                    refine lv_iload hx hb dX10_beside_108 (lv_at hl 3 rfl) ?_
                    exact W.iret (v := y49_4) hx hb hr (fun tq ht hW => ⟨y49_4, rfl, (show spBesideM mtop t (0 : Int32) y49_4 from by (first | exact Or.inl ⟨by omega, rfl⟩ | exact Or.inr (Or.inl ⟨by omega, by omega, rfl⟩) | exact Or.inr (Or.inr ⟨by omega, by omega, _, by assumption, Or.inl ⟨by assumption, rfl⟩⟩) | exact Or.inr (Or.inr ⟨by omega, by omega, _, by assumption, bes_0 (by assumption) (bsk_end i49_6 (by omega) (by first | exact Or.inl (by omega) | exact Or.inr (Or.inl (by omega)) | exact Or.inr (Or.inr (by assumption))))⟩) | exact Or.inr (Or.inr ⟨by omega, by omega, _, by assumption, bes_1 (by assumption) (bsk_end i49_6 (by omega) (by first | exact Or.inl (by omega) | exact Or.inr (Or.inl (by omega)) | exact Or.inr (Or.inr (by assumption))))⟩))), ht⟩) (fun q h => by cases h) dX10_beside_110
                  · have dc16 : y49_4.toInt = (-1) := eqC rfl (show ((-1) : Int32).toInt = (-1) from rfl) c16
                    refine lv_aload_n hx hb dX10_beside_82 rfl (lv_at hl 0 rfl) ?_
                    refine va_get (D := (dC, dI)) (ci := 10) (v := .ref (b 9)) (C := RX10) (T := TX10) (N := 39) hx hb hts inX10 hown hK hP 0 rfl rfl 9 (by decide) lf32 (fun _ h9 => h9) rfl dX10_beside_83 ?_
                    refine lv_iload hx hb dX10_beside_86 (lv_at hl 4 rfl) ?_
                    have b17 : vp_in y49_5 48 := inC rfl (by omega) (by omega)
                    refine va_iald hx hb hK hP 6 0 rfl rfl b17 dX10_beside_88 ?_
                    have g18 : -1 ≤ (mtop y49_5.toNatClampNeg).toInt ∧ (mtop y49_5.toNatClampNeg).toInt ≤ 23 := rg_at r_mtop b17
                    refine lv_topi (fun x19 ex19 => ?_)
                    have ix19 : x19.toInt = (mtop y49_5.toNatClampNeg).toInt := by rw [ex19]
                    refine lv_istore (lv' := [(4, .int x19), (0, .ref (b 39)), (2, .int 0), (3, .int r5), (5, .int y49_5)]) hx hb dX10_beside_89 hl (by decide) rfl (fun ls hl => ?_)
                    refine lv_iload hx hb dX10_beside_91 (lv_at hl 4 rfl) ?_
                    refine lv_iload_n hx hb dX10_beside_93 rfl (lv_at hl 2 rfl) ?_
                    refine lv_if_ne (tgt := 101) hx hb dX10_beside_94 (by decide) (fun c9 => absurd (by decide) c9) (fun _ => ?_)
                    refine lv_iconst (v := (-1)) hx hb dX10_beside_97 (by decide) ?_
                    refine lv_goto (tgt := 102) hx hb dX10_beside_98 (by decide) ?_
                    refine lv_iadd hx hb dX10_beside_102 ?_
                    refine lv_topi (fun x20 ex20 => ?_)
                    have ix20 : x20.toInt = (y49_5.toInt) + ((-1)) := by rw [ex20]; exact addC rfl (show ((-1) : Int32).toInt = (-1) from rfl) (by omega) (by omega)
                    refine lv_istore (lv' := [(5, .int x20), (4, .int x19), (0, .ref (b 39)), (2, .int 0), (3, .int r5)]) hx hb dX10_beside_103 hl (by decide) rfl (fun ls hl => ?_)
                    refine lv_goto (tgt := 49) hx hb dX10_beside_105 (by decide) ?_
                    exact ih49 x19 x20 _ (by omega) (by omega) (by omega) (by omega) (by omega) (by omega) (by (first | exact bsk_step i49_6 (by assumption) (by omega) (by omega) (by omega) (by assumption) (by omega) | exact bsk_0 (by omega) (by omega))) (by omega) (lv_sub hl [2, 3, 4, 1, 0] rfl)
          have kc21 : ((-1) : Int32).toInt = -1 := rfl
          exact L49 _ (-1) x10 _ (by omega) (by omega) (by omega) (by omega) (by omega) (by omega) (by (first | exact bsk_step i49_6 (by assumption) (by omega) (by omega) (by omega) (by assumption) (by omega) | exact bsk_0 (by omega) (by omega))) (Nat.lt_succ_self _) (lv_sub hl [3, 5, 2, 1, 0] rfl)
        · have kc22 : (1 : Int32).toInt = 1 := rfl
          refine lv_iload_n hx hb dX10_beside_36 rfl (lv_at hl 1 rfl) ?_
          refine lv_iload_n hx hb dX10_beside_37 rfl (lv_at hl 4 rfl) ?_
          refine lv_if_ne (tgt := 45) hx hb dX10_beside_38 (by decide) (fun _ => ?_) (fun c9 => absurd c9 (by decide))
          refine lv_iconst (v := 1) hx hb dX10_beside_45 (by decide) ?_
          refine lv_iadd hx hb dX10_beside_46 ?_
          have f23 : (r5 + 1).toInt = (r5.toInt) + (1) := addC rfl (show (1 : Int32).toInt = 1 from rfl) (by omega) (by omega)
          refine lv_topi (fun x24 ex24 => ?_)
          have ix24 : x24.toInt = (r5.toInt) + (1) := by rw [ex24]; exact f23
          refine lv_istore (lv' := [(5, .int x24), (4, .int (-1)), (3, .int r5), (0, .ref (b 39)), (1, .int t), (2, .int 1)]) hx hb dX10_beside_47 hl (by decide) rfl (fun ls hl => ?_)
          have L49 : ∀ (nn : Nat) (y49_4 : Int32) (y49_5 : Int32) (ls : Array Slot), (-1 ≤ (y49_5.toInt)) → ((y49_5.toInt) ≤ 48) → (-1 ≤ (y49_4.toInt)) → ((y49_4.toInt) ≤ 23) → ((r5.toInt) + 1 ≤ (y49_5.toInt)) → ((y49_5.toInt) ≤ (r5.toInt) - (r5.toInt) % 6 + 6) → (bsk mtop ((r5.toInt) - (r5.toInt) % 6) 1 (7 + (r5.toInt) - (y49_5.toInt)).toNat (y49_5.toInt) y49_4 (scn mtop ((r5.toInt) - (r5.toInt) % 6) 1 6 ((r5.toInt) + 1))) → (48 - (y49_5.toInt)).toNat < nn → lv_has ls 6 [(0, .ref (b 39)), (2, .int 1), (3, .int r5), (4, .int y49_4), (5, .int y49_5)] → W p l e (headSpec wsX10_beside { frames := 2, cells := 0, slots := 0, locals := 42 }).room s m ([.ref (b 39), .int t, .int (1 : Int32)] : List Value).toArray below meth c s.heap [] 0 0 (MQ below (QR (fun r : Int32 => (spBesideM mtop t (1 : Int32) r))) ([.ref (b 39), .int t, .int (1 : Int32)] : List Value).toArray s 0 0 (fun _ => False)) (F0 m 49 ls []) := by
            intro nn
            induction nn with
            | zero =>
              intro y49_4 y49_5 ls i49_0 i49_1 i49_2 i49_3 i49_4 i49_5 i49_6 hm49
              exact absurd hm49 (Nat.not_lt_zero _)
            | succ nn ih49 =>
              intro y49_4 y49_5 ls i49_0 i49_1 i49_2 i49_3 i49_4 i49_5 i49_6 hm49 hl
              refine lv_iload hx hb dX10_beside_49 (lv_at hl 4 rfl) ?_
              refine lv_iload_n hx hb dX10_beside_51 rfl (lv_at hl 2 rfl) ?_
              refine lv_bipush (v := 6) hx hb dX10_beside_52 (by decide) ?_
              refine lv_idiv hx hb dX10_beside_54 (by decide) ?_
              refine lv_bipush (v := 6) hx hb dX10_beside_55 (by decide) ?_
              refine lv_imul hx hb dX10_beside_57 ?_
              refine lv_topi (fun x25 ex25 => ?_)
              have ix25 : 0 ≤ x25.toInt ∧ x25.toInt ≤ 42 := by rw [ex25]; exact d66 dc7 h6_1
              have jx25 : x25.toInt = (r5.toInt) - (r5.toInt) % 6 := by rw [ex25]; exact d66e dc7 h6_1
              refine lv_icmp_lt (tgt := 108) hx hb dX10_beside_58 (by decide) (fun c26 => ?_) (fun c26 => ?_)
              · have dc26 : y49_5.toInt < x25.toInt := ltC rfl rfl c26
                refine lv_iload hx hb dX10_beside_108 (lv_at hl 3 rfl) ?_
                exact W.iret (v := y49_4) hx hb hr (fun tq ht hW => ⟨y49_4, rfl, (show spBesideM mtop t (1 : Int32) y49_4 from by (first | exact Or.inl ⟨by omega, rfl⟩ | exact Or.inr (Or.inl ⟨by omega, by omega, rfl⟩) | exact Or.inr (Or.inr ⟨by omega, by omega, _, by assumption, Or.inl ⟨by assumption, rfl⟩⟩) | exact Or.inr (Or.inr ⟨by omega, by omega, _, by assumption, bes_0 (by assumption) (bsk_end i49_6 (by omega) (by first | exact Or.inl (by omega) | exact Or.inr (Or.inl (by omega)) | exact Or.inr (Or.inr (by assumption))))⟩) | exact Or.inr (Or.inr ⟨by omega, by omega, _, by assumption, bes_1 (by assumption) (bsk_end i49_6 (by omega) (by first | exact Or.inl (by omega) | exact Or.inr (Or.inl (by omega)) | exact Or.inr (Or.inr (by assumption))))⟩))), ht⟩) (fun q h => by cases h) dX10_beside_110
              · have dc26 : x25.toInt ≤ y49_5.toInt := nltC rfl rfl c26
                refine lv_iload hx hb dX10_beside_61 (lv_at hl 4 rfl) ?_
                refine lv_iload_n hx hb dX10_beside_63 rfl (lv_at hl 2 rfl) ?_
                refine lv_bipush (v := 6) hx hb dX10_beside_64 (by decide) ?_
                refine lv_idiv hx hb dX10_beside_66 (by decide) ?_
                refine lv_bipush (v := 6) hx hb dX10_beside_67 (by decide) ?_
                refine lv_imul hx hb dX10_beside_69 ?_
                refine lv_topi (fun x27 ex27 => ?_)
                have ix27 : 0 ≤ x27.toInt ∧ x27.toInt ≤ 42 := by rw [ex27]; exact d66 dc7 h6_1
                have jx27 : x27.toInt = (r5.toInt) - (r5.toInt) % 6 := by rw [ex27]; exact d66e dc7 h6_1
                refine lv_bipush (v := 6) hx hb dX10_beside_70 (by decide) ?_
                refine lv_iadd hx hb dX10_beside_72 ?_
                have f28 : (x27 + 6).toInt = (x27.toInt) + (6) := addC rfl (show (6 : Int32).toInt = 6 from rfl) (by omega) (by omega)
                refine lv_icmp_ge (tgt := 108) hx hb dX10_beside_73 (by decide) (fun c29 => ?_) (fun c29 => ?_)
                · have dc29 : (x27.toInt) + (6) ≤ y49_5.toInt := leC f28 rfl c29
                  refine lv_iload hx hb dX10_beside_108 (lv_at hl 3 rfl) ?_
                  exact W.iret (v := y49_4) hx hb hr (fun tq ht hW => ⟨y49_4, rfl, (show spBesideM mtop t (1 : Int32) y49_4 from by (first | exact Or.inl ⟨by omega, rfl⟩ | exact Or.inr (Or.inl ⟨by omega, by omega, rfl⟩) | exact Or.inr (Or.inr ⟨by omega, by omega, _, by assumption, Or.inl ⟨by assumption, rfl⟩⟩) | exact Or.inr (Or.inr ⟨by omega, by omega, _, by assumption, bes_0 (by assumption) (bsk_end i49_6 (by omega) (by first | exact Or.inl (by omega) | exact Or.inr (Or.inl (by omega)) | exact Or.inr (Or.inr (by assumption))))⟩) | exact Or.inr (Or.inr ⟨by omega, by omega, _, by assumption, bes_1 (by assumption) (bsk_end i49_6 (by omega) (by first | exact Or.inl (by omega) | exact Or.inr (Or.inl (by omega)) | exact Or.inr (Or.inr (by assumption))))⟩))), ht⟩) (fun q h => by cases h) dX10_beside_110
                · have dc29 : y49_5.toInt < (x27.toInt) + (6) := nleC f28 rfl c29
                  refine lv_iload hx hb dX10_beside_76 (lv_at hl 3 rfl) ?_
                  refine lv_iconst (v := (-1)) hx hb dX10_beside_78 (by decide) ?_
                  refine lv_icmp_ne (tgt := 108) hx hb dX10_beside_79 (by decide) (fun c30 => ?_) (fun c30 => ?_)
                  · have dc30 : 0 ≤ y49_4.toInt := ka_lo (by omega) (neC rfl (show ((-1) : Int32).toInt = (-1) from rfl) c30)
                    refine lv_iload hx hb dX10_beside_108 (lv_at hl 3 rfl) ?_
                    exact W.iret (v := y49_4) hx hb hr (fun tq ht hW => ⟨y49_4, rfl, (show spBesideM mtop t (1 : Int32) y49_4 from by (first | exact Or.inl ⟨by omega, rfl⟩ | exact Or.inr (Or.inl ⟨by omega, by omega, rfl⟩) | exact Or.inr (Or.inr ⟨by omega, by omega, _, by assumption, Or.inl ⟨by assumption, rfl⟩⟩) | exact Or.inr (Or.inr ⟨by omega, by omega, _, by assumption, bes_0 (by assumption) (bsk_end i49_6 (by omega) (by first | exact Or.inl (by omega) | exact Or.inr (Or.inl (by omega)) | exact Or.inr (Or.inr (by assumption))))⟩) | exact Or.inr (Or.inr ⟨by omega, by omega, _, by assumption, bes_1 (by assumption) (bsk_end i49_6 (by omega) (by first | exact Or.inl (by omega) | exact Or.inr (Or.inl (by omega)) | exact Or.inr (Or.inr (by assumption))))⟩))), ht⟩) (fun q h => by cases h) dX10_beside_110
                  · have dc30 : y49_4.toInt = (-1) := eqC rfl (show ((-1) : Int32).toInt = (-1) from rfl) c30
                    refine lv_aload_n hx hb dX10_beside_82 rfl (lv_at hl 0 rfl) ?_
                    refine va_get (D := (dC, dI)) (ci := 10) (v := .ref (b 9)) (C := RX10) (T := TX10) (N := 39) hx hb hts inX10 hown hK hP 0 rfl rfl 9 (by decide) lf32 (fun _ h9 => h9) rfl dX10_beside_83 ?_
                    refine lv_iload hx hb dX10_beside_86 (lv_at hl 4 rfl) ?_
                    have b31 : vp_in y49_5 48 := inC rfl (by omega) (by omega)
                    refine va_iald hx hb hK hP 6 0 rfl rfl b31 dX10_beside_88 ?_
                    have g32 : -1 ≤ (mtop y49_5.toNatClampNeg).toInt ∧ (mtop y49_5.toNatClampNeg).toInt ≤ 23 := rg_at r_mtop b31
                    refine lv_topi (fun x33 ex33 => ?_)
                    have ix33 : x33.toInt = (mtop y49_5.toNatClampNeg).toInt := by rw [ex33]
                    refine lv_istore (lv' := [(4, .int x33), (0, .ref (b 39)), (2, .int 1), (3, .int r5), (5, .int y49_5)]) hx hb dX10_beside_89 hl (by decide) rfl (fun ls hl => ?_)
                    refine lv_iload hx hb dX10_beside_91 (lv_at hl 4 rfl) ?_
                    refine lv_iload_n hx hb dX10_beside_93 rfl (lv_at hl 2 rfl) ?_
                    refine lv_if_ne (tgt := 101) hx hb dX10_beside_94 (by decide) (fun _ => ?_) (fun c9 => absurd c9 (by decide))
                    refine lv_iconst (v := 1) hx hb dX10_beside_101 (by decide) ?_
                    refine lv_iadd hx hb dX10_beside_102 ?_
                    have f34 : (y49_5 + 1).toInt = (y49_5.toInt) + (1) := addC rfl (show (1 : Int32).toInt = 1 from rfl) (by omega) (by omega)
                    refine lv_topi (fun x35 ex35 => ?_)
                    have ix35 : x35.toInt = (y49_5.toInt) + (1) := by rw [ex35]; exact f34
                    refine lv_istore (lv' := [(5, .int x35), (4, .int x33), (0, .ref (b 39)), (2, .int 1), (3, .int r5)]) hx hb dX10_beside_103 hl (by decide) rfl (fun ls hl => ?_)
                    refine lv_goto (tgt := 49) hx hb dX10_beside_105 (by decide) ?_
                    exact ih49 x33 x35 _ (by omega) (by omega) (by omega) (by omega) (by omega) (by omega) (by (first | exact bsk_step i49_6 (by assumption) (by omega) (by omega) (by omega) (by assumption) (by omega) | exact bsk_0 (by omega) (by omega))) (by omega) (lv_sub hl [2, 3, 4, 1, 0] rfl)
          have kc36 : ((-1) : Int32).toInt = -1 := rfl
          exact L49 _ (-1) x24 _ (by omega) (by omega) (by omega) (by omega) (by omega) (by omega) (by (first | exact bsk_step i49_6 (by assumption) (by omega) (by omega) (by omega) (by assumption) (by omega) | exact bsk_0 (by omega) (by omega))) (Nat.lt_succ_self _) (lv_sub hl [3, 5, 2, 1, 0] rfl)
    · refine lv_if_ne (tgt := 22) hx hb dX10_beside_16 (by decide) (fun c9 => absurd (by decide) c9) (fun _ => ?_)
      refine lv_bipush (v := (-3)) hx hb dX10_beside_19 (by decide) ?_
      exact W.iret (v := (-3)) hx hb hr (fun tq ht hW => ⟨(-3), rfl, (show spBesideM mtop t si ((-3) : Int32) from by (try rw [show ((-3) : Int32).toInt = (-3) from (show ((-3) : Int32).toInt = (-3) from rfl)]); (first | exact Or.inl ⟨by omega, rfl⟩ | exact Or.inr (Or.inl ⟨by omega, by omega, rfl⟩) | exact Or.inr (Or.inr ⟨by omega, by omega, _, by assumption, Or.inl ⟨by assumption, rfl⟩⟩) | exact Or.inr (Or.inr ⟨by omega, by omega, _, by assumption, bes_0 (by assumption) (bsk_end i49_6 (by omega) (by first | exact Or.inl (by omega) | exact Or.inr (Or.inl (by omega)) | exact Or.inr (Or.inr (by assumption))))⟩) | exact Or.inr (Or.inr ⟨by omega, by omega, _, by assumption, bes_1 (by assumption) (bsk_end i49_6 (by omega) (by first | exact Or.inl (by omega) | exact Or.inr (Or.inl (by omega)) | exact Or.inr (Or.inr (by assumption))))⟩))), ht⟩) (fun q h => by cases h) dX10_beside_21
  · refine lv_if_ne (tgt := 10) hx hb dX10_beside_4 (by decide) (fun c9 => absurd (by decide) c9) (fun _ => ?_)
    refine lv_bipush (v := (-2)) hx hb dX10_beside_7 (by decide) ?_
    exact W.iret (v := (-2)) hx hb hr (fun tq ht hW => ⟨(-2), rfl, (show spBesideM mtop t si ((-2) : Int32) from by (try rw [show ((-2) : Int32).toInt = (-2) from (show ((-2) : Int32).toInt = (-2) from rfl)]); (first | exact Or.inl ⟨by omega, rfl⟩ | exact Or.inr (Or.inl ⟨by omega, by omega, rfl⟩) | exact Or.inr (Or.inr ⟨by omega, by omega, _, by assumption, Or.inl ⟨by assumption, rfl⟩⟩) | exact Or.inr (Or.inr ⟨by omega, by omega, _, by assumption, bes_0 (by assumption) (bsk_end i49_6 (by omega) (by first | exact Or.inl (by omega) | exact Or.inr (Or.inl (by omega)) | exact Or.inr (Or.inr (by assumption))))⟩) | exact Or.inr (Or.inr ⟨by omega, by omega, _, by assumption, bes_1 (by assumption) (bsk_end i49_6 (by omega) (by first | exact Or.inl (by omega) | exact Or.inr (Or.inl (by omega)) | exact Or.inr (Or.inr (by assumption))))⟩))), ht⟩) (fun q h => by cases h) dX10_beside_9
end
section
-- ===== STRENGTH day by day (draft, untested) =====
def fl (f : Nat → Int32) (v m : Int) : Int := max 0 (v - (f (v / 10).toNat).toInt - m)
def itf (f : Nat → Int32) (m v : Int) : Nat → Int
  | 0 => v
  | n + 1 => fl f (itf f m v n) m
theorem fl_rg {f : Nat → Int32} {v m : Int} (hf : rg 11 0 30 f) (h0 : 0 ≤ v) (h1 : v ≤ 100) (hm : 0 ≤ m) : 0 ≤ fl f v m ∧ fl f v m ≤ v := by
  have := hf (v / 10).toNat (by omega)
  unfold fl; omega
theorem itf_rg {f : Nat → Int32} {v m : Int} (hf : rg 11 0 30 f) (h0 : 0 ≤ v) (h1 : v ≤ 100) (hm : 0 ≤ m) : ∀ n, 0 ≤ itf f m v n ∧ itf f m v n ≤ 100
  | 0 => ⟨h0, h1⟩
  | n + 1 => by
    have h := itf_rg hf h0 h1 hm n
    have h2 := fl_rg (m := m) hf h.1 h.2 hm
    show 0 ≤ fl f (itf f m v n) m ∧ fl f (itf f m v n) m ≤ 100
    omega
theorem fl_zero {f : Nat → Int32} (hf : rg 11 0 30 f) : fl f 0 0 = 0 := by
  have := hf 0 (by omega)
  show max 0 (0 - (f ((0 : Int) / 10).toNat).toInt - 0) = 0
  rw [show ((0 : Int) / 10).toNat = 0 from rfl]; omega
theorem itf_zero {f : Nat → Int32} (hf : rg 11 0 30 f) : ∀ n, itf f 0 0 n = 0
  | 0 => rfl
  | n + 1 => by show fl f (itf f 0 0 n) 0 = 0; rw [itf_zero hf n, fl_zero hf]
theorem fl_eq {f g : Nat → Int32} {v m : Int} (h : ∀ j, j < 11 → f j = g j) (h0 : 0 ≤ v) (h1 : v ≤ 100) : fl f v m = fl g v m := by
  unfold fl; rw [h (v / 10).toNat (by omega)]
theorem itf_eq {f g : Nat → Int32} {v m : Int} (h : ∀ j, j < 11 → f j = g j) (hf : rg 11 0 30 f) (h0 : 0 ≤ v) (h1 : v ≤ 100) (hm : 0 ≤ m) : ∀ n, itf f m v n = itf g m v n
  | 0 => rfl
  | n + 1 => by
    show fl f (itf f m v n) m = fl g (itf g m v n) m
    have hr := itf_rg hf h0 h1 hm n
    rw [← itf_eq h hf h0 h1 hm n]; exact fl_eq h hr.1 hr.2
/-- how many others in the ROOM make it fall faster -/
def crdB (mar top : Nat → Int32) (tel : Int32) (o c : Nat) : Bool := decide (o ≠ c) && decide (top o ≠ -1) && decide (top c ≠ -1) && decide (tel.toInt ≤ (bc (mar (top o).toNatClampNeg &&& mar (top c).toNatClampNeg)).toInt)
def cwF (mar top : Nat → Int32) (tel : Int32) (c lo : Nat) : Nat → Int
  | 0 => 0
  | k + 1 => cwF mar top tel c lo k + (if crdB mar top tel (lo + k) c then 1 else 0)
theorem crd_yes {mar top : Nat → Int32} {tel o c : Int32} (h0 : o.toInt ≠ c.toInt) (h1 : 0 ≤ o.toInt) (h2 : 0 ≤ c.toInt) (t1 : ¬ top o.toNatClampNeg = -1) (t2 : ¬ top c.toNatClampNeg = -1) (h3 : tel.toInt ≤ (bc (mar (top o.toNatClampNeg).toNatClampNeg &&& mar (top c.toNatClampNeg).toNatClampNeg)).toInt) : crdB mar top tel o.toNatClampNeg c.toNatClampNeg = true := by
  have e : o.toNatClampNeg ≠ c.toNatClampNeg := by rw [clC (x := o) rfl, clC (x := c) rfl]; omega
  unfold crdB
  rw [decide_eq_true e, decide_eq_true t1, decide_eq_true t2, decide_eq_true h3]; rfl
theorem crd_eq {mar top : Nat → Int32} {tel o c : Int32} (h : o = c) : crdB mar top tel o.toNatClampNeg c.toNatClampNeg = false := by
  subst h; unfold crdB; rw [decide_eq_false (fun q => q rfl)]; rfl
theorem crd_t1 {mar top : Nat → Int32} {tel o c : Int32} (h : top o.toNatClampNeg = -1) : crdB mar top tel o.toNatClampNeg c.toNatClampNeg = false := by
  unfold crdB; rw [decide_eq_false (p := top o.toNatClampNeg ≠ -1) (fun q => q h), Bool.and_false]; rfl
theorem crd_t2 {mar top : Nat → Int32} {tel o c : Int32} (h : top c.toNatClampNeg = -1) : crdB mar top tel o.toNatClampNeg c.toNatClampNeg = false := by
  unfold crdB; rw [decide_eq_false (p := top c.toNatClampNeg ≠ -1) (fun q => q h), Bool.and_false]; rfl
theorem crd_no {mar top : Nat → Int32} {tel o c : Int32} (h : (bc (mar (top o.toNatClampNeg).toNatClampNeg &&& mar (top c.toNatClampNeg).toNatClampNeg)).toInt < tel.toInt) : crdB mar top tel o.toNatClampNeg c.toNatClampNeg = false := by
  unfold crdB; rw [decide_eq_false (p := tel.toInt ≤ _) (by omega), Bool.and_false]
theorem cw_keep {mar top f g : Nat → Int32} {tel y v : Int32} (e : g = upd f y.toNatClampNeg v) (h0 : 0 ≤ y.toInt) (h : ∀ j : Nat, (j : Int) < y.toInt → (f j).toInt = cwF mar top tel j (j - j % 6) 6) : ∀ j : Nat, (j : Int) < y.toInt → (g j).toInt = cwF mar top tel j (j - j % 6) 6 := by
  subst e; intro j hj
  rw [clC (x := y) rfl, pk_un (by omega)]; exact h j hj
theorem cw_zero {mar top f g : Nat → Int32} {tel y v : Int32} {lo N : Nat} (e : g = upd f y.toNatClampNeg v) (hv : v.toInt = 0) (hN : N = 0) : (g y.toNatClampNeg).toInt = cwF mar top tel y.toNatClampNeg lo N := by
  subst e; subst hN; rw [pk_us, hv]; rfl
theorem cw_yes {mar top f g : Nat → Int32} {tel y v o w : Int32} {N N' : Nat} (e : g = upd f y.toNatClampNeg v) (hv : v.toInt = (f y.toNatClampNeg).toInt + 1) (h : (f y.toNatClampNeg).toInt = cwF mar top tel y.toNatClampNeg w.toNatClampNeg N) (hc : crdB mar top tel o.toNatClampNeg y.toNatClampNeg = true) (h0 : 0 ≤ w.toInt) (h1 : w.toInt ≤ o.toInt) (hN : N = (o.toInt - w.toInt).toNat) (hN' : N' = N + 1) : (g y.toNatClampNeg).toInt = cwF mar top tel y.toNatClampNeg w.toNatClampNeg N' := by
  subst e; subst hN'
  have eo : o.toNatClampNeg = w.toNatClampNeg + N := by rw [clC (x := o) rfl, clC (x := w) rfl]; omega
  rw [eo] at hc
  rw [pk_us, hv, h]
  show _ = cwF mar top tel y.toNatClampNeg w.toNatClampNeg N + (if crdB mar top tel (w.toNatClampNeg + N) y.toNatClampNeg then 1 else 0)
  rw [hc]; rfl
theorem cw_no {mar top f : Nat → Int32} {tel y o w : Int32} {N N' : Nat} (h : (f y.toNatClampNeg).toInt = cwF mar top tel y.toNatClampNeg w.toNatClampNeg N) (hc : crdB mar top tel o.toNatClampNeg y.toNatClampNeg = false) (h0 : 0 ≤ w.toInt) (h1 : w.toInt ≤ o.toInt) (hN : N = (o.toInt - w.toInt).toNat) (hN' : N' = N + 1) : (f y.toNatClampNeg).toInt = cwF mar top tel y.toNatClampNeg w.toNatClampNeg N' := by
  subst hN'
  have eo : o.toNatClampNeg = w.toNatClampNeg + N := by rw [clC (x := o) rfl, clC (x := w) rfl]; omega
  rw [eo] at hc
  rw [h]
  show _ = cwF mar top tel y.toNatClampNeg w.toNatClampNeg N + (if crdB mar top tel (w.toNatClampNeg + N) y.toNatClampNeg then 1 else 0)
  rw [hc]; simp
theorem cw_next {mar top f : Nat → Int32} {tel y w : Int32} {N : Nat} {Z : Int} (h : ∀ j : Nat, (j : Int) < y.toInt → (f j).toInt = cwF mar top tel j (j - j % 6) 6) (h2 : (f y.toNatClampNeg).toInt = cwF mar top tel y.toNatClampNeg w.toNatClampNeg N) (hN : N = 6) (h0 : 0 ≤ y.toInt) (hw : w.toInt = y.toInt - y.toInt % 6) (hz : Z = y.toInt + 1) : ∀ j : Nat, (j : Int) < Z → (f j).toInt = cwF mar top tel j (j - j % 6) 6 := by
  intro j hj
  by_cases q : j = y.toInt.toNat
  · subst q
    subst hN
    rw [clC (x := y) rfl, clC (x := w) rfl] at h2
    rw [h2, show w.toInt.toNat = y.toInt.toNat - y.toInt.toNat % 6 by omega]
  · exact h j (by omega)
theorem sh_zero {w s : Int32} (h : w.toInt = 0) : ((w >>> s) &&& 1).toInt = 0 := by
  have e : w = 0 := Int32.toInt_inj.mp h
  subst e
  have : ((0 : Int32) >>> s) = 0 := by
    apply Int32.toBitVec_inj.mp
    show (0 : BitVec 32).sshiftRight _ = 0
    simp
  rw [this]; rfl
theorem itf_next {f : Nat → Int32} {m v L R : Int} {n n' : Nat} (h : L = itf f m v n) (hr : R = fl f L m) (hn : n' = n + 1) : R = itf f m v n' := by
  subst hn; subst h; exact hr
set_option maxHeartbeats 4000000 in
set_option maxRecDepth 100000 in
theorem k_X2_shared2 (l : Launch) (dC : Nat → ClassId) (dI : Nat → Nat → Nat) (cI cZ cQ : ClassId) (a : Nat → Nat) (mar : Nat → Int32) (one : Int32) (two : Int32) (r_mar : rg 24 (0) (255) mar) (q0 : 0 ≤ one.toInt) (q1 : one.toInt ≤ 23) (q2 : 0 ≤ two.toInt) (q3 : two.toInt ≤ 23) : KR l yX2_shared wsX2_shared { frames := 1, cells := 0, slots := 0, locals := 20 } (dC, dI) (TY cI cZ cQ) (wPic cI cZ cQ a mar) [.ref (a 2), .int one, .int two] (fun r : Int32 => (r = bc (mar one.toNatClampNeg &&& mar two.toNatClampNeg)) ∧ ((bc (mar one.toNatClampNeg &&& mar two.toNatClampNeg)).toInt = r.toInt)) := by
  refine Met.ofW (cc := cX2_shared) (maxL := 3) (ret := (some .int)) (by decide) rfl ?_
  intro p e s m args below meth c s₁ B hml hv
  obtain ⟨rfl, hP, hK, hN⟩ := hv
  have hx := B.exec
  have hb := B.bytes
  have hr := B.returns
  have hts := atoms_spec (ws := wsX2_shared) B.pre
  have hown : s.vm.findClass RX2 = some m.cls := findClass_of_methodNamed B.named
  have hlocks := B.notSynchronized
  have lf9 := hts (.fieldLink RX2 9 "PalaceOfRooms$Pictures" "marksOf" "[I") (List.mem_cons_of_mem _ (List.mem_append_left _ (List.mem_of_getElem? (i := 0) rfl)))
  have inX2 : ∀ w ∈ wsX20, w ∈ wsX2_shared := fun w h => List.mem_cons_of_mem _ (List.mem_append_right _ h)
  have hl := lv_entry ([.ref (a 2), .int one, .int two]) (n := 3) (Nat.le_of_ble_eq_true rfl)
  rw [lg_entry_eq]
  generalize (lg_sl ([.ref (a 2), .int one, .int two]) ++ List.replicate (3 - (lg_sl ([.ref (a 2), .int one, .int two])).length) Slot.unset).toArray = ls at hl ⊢
  have hl : lv_has ls 3 [(0, .ref (a 2)), (1, .int one), (2, .int two)] := hl
  refine lv_aload_n hx hb dX2_shared_0 rfl (lv_at hl 0 rfl) ?_
  refine va_get (D := (dC, dI)) (ci := 2) (v := .ref (a 3)) (C := RX2) (T := TX2) (N := 1) hx hb hts inX2 hown hK hP 0 rfl rfl 0 (by decide) lf9 (fun _ h9 => h9) rfl dX2_shared_1 ?_
  refine lv_iload_n hx hb dX2_shared_4 rfl (lv_at hl 1 rfl) ?_
  have b1 : vp_in one 24 := inC rfl (by omega) (by omega)
  refine va_iald hx hb hK hP 1 0 rfl rfl b1 dX2_shared_5 ?_
  have g2 : 0 ≤ (mar one.toNatClampNeg).toInt ∧ (mar one.toNatClampNeg).toInt ≤ 255 := rg_at r_mar b1
  refine lv_aload_n hx hb dX2_shared_6 rfl (lv_at hl 0 rfl) ?_
  refine va_get (D := (dC, dI)) (ci := 2) (v := .ref (a 3)) (C := RX2) (T := TX2) (N := 1) hx hb hts inX2 hown hK hP 0 rfl rfl 0 (by decide) lf9 (fun _ h9 => h9) rfl dX2_shared_7 ?_
  refine lv_iload_n hx hb dX2_shared_10 rfl (lv_at hl 2 rfl) ?_
  have b3 : vp_in two 24 := inC rfl (by omega) (by omega)
  refine va_iald hx hb hK hP 1 0 rfl rfl b3 dX2_shared_11 ?_
  have g4 : 0 ≤ (mar two.toNatClampNeg).toInt ∧ (mar two.toNatClampNeg).toInt ≤ 255 := rg_at r_mar b3
  refine lv_iand hx hb dX2_shared_12 ?_
  refine rdS (As := [.int ((mar one.toNatClampNeg) &&& (mar two.toNatClampNeg))]) (rest := []) ⟨hx, hb, hml, hown, hts⟩ (k_J6_bitCount_0f7a4 l dC dI cI cZ cQ ((mar one.toNatClampNeg) &&& (mar two.toNatClampNeg))) (va_cwS 1 hts gX2_shared_J6_bitCount_0f7a4 rfl rfl rfl (by decide +kernel) ⟨Nat.le_of_ble_eq_true rfl, Nat.le_of_ble_eq_true rfl⟩) hP hK hN [] rfl rfl hl.1 rfl (Nat.le_of_ble_eq_true rfl) dX2_shared_13 ⟨Nat.le_of_ble_eq_true rfl, Nat.le_of_ble_eq_true rfl⟩ (fun r5 h6 => ?_)
  have h6 : (r5 = bc ((mar one.toNatClampNeg) &&& (mar two.toNatClampNeg))) := h6
  have h6_0 := h6
  exact W.iret (v := r5) hx hb hr (fun tq ht hW => ⟨r5, rfl, ⟨(show r5 = bc (mar one.toNatClampNeg &&& mar two.toNatClampNeg) from by assumption), (show (bc (mar one.toNatClampNeg &&& mar two.toNatClampNeg)).toInt = r5.toInt from by (rw [show (r5) = bc (mar one.toNatClampNeg &&& mar two.toNatClampNeg) from by assumption]))⟩, ht⟩) (fun q h => by cases h) dX2_shared_16
set_option maxHeartbeats 4000000 in
set_option maxRecDepth 100000 in
theorem k_X1_muchAlike2 (l : Launch) (dC : Nat → ClassId) (dI : Nat → Nat → Nat) (cI cZ cQ : ClassId) (a : Nat → Nat) (top : Nat → Int32) (str : Nat → Int32) (gho : Nat → Int32) (ghs : Nat → Int32) (pto : Nat → Int32) (cro : Nat → Int32) (pla : Nat → Int32) (wal : Nat → Int32) (fal : Nat → Int32) (tel : Int32) (gai : Int32) (day : Int32) (mar : Nat → Int32) (one : Int32) (two : Int32) (r_top : rg 48 (-1) (23) top) (r_str : rg 48 (0) (100) str) (r_gho : rg 48 (-1) (23) gho) (r_ghs : rg 48 (0) (100) ghs) (r_cro : rg 48 (0) (6) cro) (r_pla : rg 24 (-1) (47) pla) (r_fal : rg 11 (0) (30) fal) (r_gai : 0 ≤ gai.toInt ∧ gai.toInt ≤ 100) (r_day : 0 ≤ day.toInt ∧ day.toInt ≤ 400) (r_mar : rg 24 (0) (255) mar) (q0 : 0 ≤ one.toInt) (q1 : one.toInt ≤ 23) (q2 : 0 ≤ two.toInt) (q3 : two.toInt ≤ 23) : KR l yX1_muchAlike wsX1_muchAlike { frames := 2, cells := 0, slots := 0, locals := 42 } (dC, dI) (TY cI cZ cQ) (wCor cI cZ cQ a top str gho ghs pto cro pla wal fal tel gai day mar) [.ref (a 4), .int one, .int two] (fun r : Int32 => ((((r = 1) ∧ (tel.toInt ≤ (bc (mar one.toNatClampNeg &&& mar two.toNatClampNeg)).toInt)) ∨ ((r = 0) ∧ ((bc (mar one.toNatClampNeg &&& mar two.toNatClampNeg)).toInt < tel.toInt))))) := by
  refine Met.ofW (cc := cX1_muchAlike) (maxL := 3) (ret := (some .boolean)) (by decide) rfl ?_
  intro p e s m args below meth c s₁ B hml hv
  obtain ⟨rfl, hP, hK, hN⟩ := hv
  have hx := B.exec
  have hb := B.bytes
  have hr := B.returns
  have hts := atoms_spec (ws := wsX1_muchAlike) B.pre
  have hown : s.vm.findClass RX1 = some m.cls := findClass_of_methodNamed B.named
  have hlocks := B.notSynchronized
  have lf46 := hts (.fieldLink RX1 46 "PalaceOfRooms$Corners" "pictures" "LPalaceOfRooms$Pictures;") (List.mem_cons_of_mem _ (List.mem_append_left _ (List.mem_append_left _ (List.mem_of_getElem? (i := 0) rfl))))
  have inX1 : ∀ w ∈ wsX10, w ∈ wsX1_muchAlike := fun w h => List.mem_cons_of_mem _ (List.mem_append_left _ (List.mem_append_right _ h))
  have lf39 := hts (.fieldLink RX1 39 "PalaceOfRooms$Corners" "tell" "I") (List.mem_cons_of_mem _ (List.mem_append_left _ (List.mem_append_left _ (List.mem_of_getElem? (i := 1) rfl))))
  have hl := lv_entry ([.ref (a 4), .int one, .int two]) (n := 3) (Nat.le_of_ble_eq_true rfl)
  rw [lg_entry_eq]
  generalize (lg_sl ([.ref (a 4), .int one, .int two]) ++ List.replicate (3 - (lg_sl ([.ref (a 4), .int one, .int two])).length) Slot.unset).toArray = ls at hl ⊢
  have hl : lv_has ls 3 [(0, .ref (a 4)), (1, .int one), (2, .int two)] := hl
  refine lv_aload_n hx hb dX1_muchAlike_0 rfl (lv_at hl 0 rfl) ?_
  refine va_get (D := (dC, dI)) (ci := 1) (v := .ref (a 2)) (C := RX1) (T := TX1) (N := 13) hx hb hts inX1 hown hK hP 0 rfl rfl 0 (by decide) lf46 (fun _ h9 => h9) rfl dX1_muchAlike_1 ?_
  refine lv_iload_n hx hb dX1_muchAlike_4 rfl (lv_at hl 1 rfl) ?_
  refine lv_iload_n hx hb dX1_muchAlike_5 rfl (lv_at hl 2 rfl) ?_
  refine rdV (As := [.int one, .int two]) (rest := []) ⟨hx, hb, hml, hown, hts⟩ (k_X2_shared2 l dC dI cI cZ cQ a mar one two r_mar (by omega) (by omega) (by omega) (by omega)) (cwV 2 hts gX1_muchAlike_X2_shared rfl rfl rfl (by decide +kernel) ⟨Nat.le_of_ble_eq_true rfl, Nat.le_of_ble_eq_true rfl⟩) hP hK hN [10, 11] rfl 10 2 rfl rfl rfl hl.1 rfl (Nat.le_of_ble_eq_true rfl) dX1_muchAlike_6 ⟨Nat.le_of_ble_eq_true rfl, Nat.le_of_ble_eq_true rfl⟩ (fun r1 h2 => ?_)
  have h2 : (r1 = bc (mar one.toNatClampNeg &&& mar two.toNatClampNeg)) ∧ ((bc (mar one.toNatClampNeg &&& mar two.toNatClampNeg)).toInt = r1.toInt) := h2
  obtain ⟨h2_0, h2_1⟩ := h2
  refine lv_aload_n hx hb dX1_muchAlike_9 rfl (lv_at hl 0 rfl) ?_
  refine va_get (D := (dC, dI)) (ci := 1) (v := .int tel) (C := RX1) (T := TX1) (N := 13) hx hb hts inX1 hown hK hP 0 rfl rfl 10 (by decide) lf39 (fun _ h9 => h9) rfl dX1_muchAlike_10 ?_
  refine lv_icmp_lt (tgt := 20) hx hb dX1_muchAlike_13 (by decide) (fun c3 => ?_) (fun c3 => ?_)
  · have dc3 : r1.toInt < tel.toInt := ltC rfl rfl c3
    refine lv_iconst (v := 0) hx hb dX1_muchAlike_20 (by decide) ?_
    exact W.zret (v := 0) hx hb hr (by decide) (fun tq ht hW => ⟨0, rfl, (Or.inr (⟨rfl, (show (bc (mar one.toNatClampNeg &&& mar two.toNatClampNeg)).toInt < tel.toInt from by (try rw [show (0 : Int32).toInt = 0 from (show (0 : Int32).toInt = 0 from rfl)]); omega)⟩)), ht⟩) (fun q h => by cases h) dX1_muchAlike_21
  · have dc3 : tel.toInt ≤ r1.toInt := nltC rfl rfl c3
    refine lv_iconst (v := 1) hx hb dX1_muchAlike_16 (by decide) ?_
    refine lv_goto (tgt := 21) hx hb dX1_muchAlike_17 (by decide) ?_
    exact W.zret (v := 1) hx hb hr (by decide) (fun tq ht hW => ⟨1, rfl, (Or.inl (⟨rfl, (show tel.toInt ≤ (bc (mar one.toNatClampNeg &&& mar two.toNatClampNeg)).toInt from by (try rw [show (1 : Int32).toInt = 1 from (show (1 : Int32).toInt = 1 from rfl)]); omega)⟩)), ht⟩) (fun q h => by cases h) dX1_muchAlike_21
set_option maxHeartbeats 4000000 in
set_option maxRecDepth 100000 in
theorem k_X1_crowds2 (l : Launch) (dC : Nat → ClassId) (dI : Nat → Nat → Nat) (cI cZ cQ : ClassId) (a : Nat → Nat) (top : Nat → Int32) (str : Nat → Int32) (gho : Nat → Int32) (ghs : Nat → Int32) (pto : Nat → Int32) (cro : Nat → Int32) (pla : Nat → Int32) (wal : Nat → Int32) (fal : Nat → Int32) (tel : Int32) (gai : Int32) (day : Int32) (mar : Nat → Int32) (ot : Int32) (co : Int32) (r_top : rg 48 (-1) (23) top) (r_str : rg 48 (0) (100) str) (r_gho : rg 48 (-1) (23) gho) (r_ghs : rg 48 (0) (100) ghs) (r_cro : rg 48 (0) (6) cro) (r_pla : rg 24 (-1) (47) pla) (r_fal : rg 11 (0) (30) fal) (r_gai : 0 ≤ gai.toInt ∧ gai.toInt ≤ 100) (r_day : 0 ≤ day.toInt ∧ day.toInt ≤ 400) (r_mar : rg 24 (0) (255) mar) (q0 : 0 ≤ ot.toInt) (q1 : ot.toInt ≤ 47) (q2 : 0 ≤ co.toInt) (q3 : co.toInt ≤ 47) : KR l yX1_crowds wsX1_crowds { frames := 3, cells := 0, slots := 0, locals := 64 } (dC, dI) (TY cI cZ cQ) (wCor cI cZ cQ a top str gho ghs pto cro pla wal fal tel gai day mar) [.ref (a 4), .int ot, .int co] (fun r : Int32 => ((((r = 1) ∧ (crdB mar top tel ot.toNatClampNeg co.toNatClampNeg = true)) ∨ ((r = 0) ∧ (crdB mar top tel ot.toNatClampNeg co.toNatClampNeg = false))))) := by
  refine Met.ofW (cc := cX1_crowds) (maxL := 3) (ret := (some .boolean)) (by decide) rfl ?_
  intro p e s m args below meth c s₁ B hml hv
  obtain ⟨rfl, hP, hK, hN⟩ := hv
  have hx := B.exec
  have hb := B.bytes
  have hr := B.returns
  have hts := atoms_spec (ws := wsX1_crowds) B.pre
  have hown : s.vm.findClass RX1 = some m.cls := findClass_of_methodNamed B.named
  have hlocks := B.notSynchronized
  have lf9 := hts (.fieldLink RX1 9 "PalaceOfRooms$Corners" "top" "[I") (List.mem_cons_of_mem _ (List.mem_append_left _ (List.mem_append_left _ (List.mem_of_getElem? (i := 0) rfl))))
  have inX1 : ∀ w ∈ wsX10, w ∈ wsX1_crowds := fun w h => List.mem_cons_of_mem _ (List.mem_append_left _ (List.mem_append_right _ h))
  have hl := lv_entry ([.ref (a 4), .int ot, .int co]) (n := 3) (Nat.le_of_ble_eq_true rfl)
  rw [lg_entry_eq]
  generalize (lg_sl ([.ref (a 4), .int ot, .int co]) ++ List.replicate (3 - (lg_sl ([.ref (a 4), .int ot, .int co])).length) Slot.unset).toArray = ls at hl ⊢
  have hl : lv_has ls 3 [(0, .ref (a 4)), (1, .int ot), (2, .int co)] := hl
  refine lv_iload_n hx hb dX1_crowds_0 rfl (lv_at hl 1 rfl) ?_
  refine lv_iload_n hx hb dX1_crowds_1 rfl (lv_at hl 2 rfl) ?_
  refine lv_icmp_eq (tgt := 48) hx hb dX1_crowds_2 (by decide) (fun c1 => ?_) (fun c1 => ?_)
  · have dc1 : ot.toInt = co.toInt := eqC rfl rfl c1
    refine lv_iconst (v := 0) hx hb dX1_crowds_48 (by decide) ?_
    exact W.zret (v := 0) hx hb hr (by decide) (fun tq ht hW => ⟨0, rfl, (Or.inr (⟨rfl, (show crdB mar top tel ot.toNatClampNeg co.toNatClampNeg = false from by (try rw [show (0 : Int32).toInt = 0 from (show (0 : Int32).toInt = 0 from rfl)]); (first | exact crd_yes (by omega) (by omega) (by omega) (by assumption) (by assumption) (by omega) | exact crd_eq (by assumption) | exact crd_t1 (by assumption) | exact crd_t2 (by assumption) | exact crd_no (by omega)))⟩)), ht⟩) (fun q h => by cases h) dX1_crowds_49
  · have dc1 : ot.toInt ≠ co.toInt := neC rfl rfl c1
    refine lv_aload_n hx hb dX1_crowds_5 rfl (lv_at hl 0 rfl) ?_
    refine va_get (D := (dC, dI)) (ci := 1) (v := .ref (a 5)) (C := RX1) (T := TX1) (N := 13) hx hb hts inX1 hown hK hP 0 rfl rfl 1 (by decide) lf9 (fun _ h9 => h9) rfl dX1_crowds_6 ?_
    refine lv_iload_n hx hb dX1_crowds_9 rfl (lv_at hl 1 rfl) ?_
    have b2 : vp_in ot 48 := inC rfl (by omega) (by omega)
    refine va_iald hx hb hK hP 1 0 rfl rfl b2 dX1_crowds_10 ?_
    have g3 : -1 ≤ (top ot.toNatClampNeg).toInt ∧ (top ot.toNatClampNeg).toInt ≤ 23 := rg_at r_top b2
    refine lv_iconst (v := (-1)) hx hb dX1_crowds_11 (by decide) ?_
    refine lv_icmp_eq (tgt := 48) hx hb dX1_crowds_12 (by decide) (fun c4 => ?_) (fun c4 => ?_)
    · have dc4 : (top ot.toNatClampNeg).toInt = (-1) := eqC rfl (show ((-1) : Int32).toInt = (-1) from rfl) c4
      refine lv_iconst (v := 0) hx hb dX1_crowds_48 (by decide) ?_
      exact W.zret (v := 0) hx hb hr (by decide) (fun tq ht hW => ⟨0, rfl, (Or.inr (⟨rfl, (show crdB mar top tel ot.toNatClampNeg co.toNatClampNeg = false from by (try rw [show (0 : Int32).toInt = 0 from (show (0 : Int32).toInt = 0 from rfl)]); (first | exact crd_yes (by omega) (by omega) (by omega) (by assumption) (by assumption) (by omega) | exact crd_eq (by assumption) | exact crd_t1 (by assumption) | exact crd_t2 (by assumption) | exact crd_no (by omega)))⟩)), ht⟩) (fun q h => by cases h) dX1_crowds_49
    · have dc4 : 0 ≤ (top ot.toNatClampNeg).toInt := ka_lo (by omega) (neC rfl (show ((-1) : Int32).toInt = (-1) from rfl) c4)
      refine lv_aload_n hx hb dX1_crowds_15 rfl (lv_at hl 0 rfl) ?_
      refine va_get (D := (dC, dI)) (ci := 1) (v := .ref (a 5)) (C := RX1) (T := TX1) (N := 13) hx hb hts inX1 hown hK hP 0 rfl rfl 1 (by decide) lf9 (fun _ h9 => h9) rfl dX1_crowds_16 ?_
      refine lv_iload_n hx hb dX1_crowds_19 rfl (lv_at hl 2 rfl) ?_
      have b5 : vp_in co 48 := inC rfl (by omega) (by omega)
      refine va_iald hx hb hK hP 1 0 rfl rfl b5 dX1_crowds_20 ?_
      have g6 : -1 ≤ (top co.toNatClampNeg).toInt ∧ (top co.toNatClampNeg).toInt ≤ 23 := rg_at r_top b5
      refine lv_iconst (v := (-1)) hx hb dX1_crowds_21 (by decide) ?_
      refine lv_icmp_eq (tgt := 48) hx hb dX1_crowds_22 (by decide) (fun c7 => ?_) (fun c7 => ?_)
      · have dc7 : (top co.toNatClampNeg).toInt = (-1) := eqC rfl (show ((-1) : Int32).toInt = (-1) from rfl) c7
        refine lv_iconst (v := 0) hx hb dX1_crowds_48 (by decide) ?_
        exact W.zret (v := 0) hx hb hr (by decide) (fun tq ht hW => ⟨0, rfl, (Or.inr (⟨rfl, (show crdB mar top tel ot.toNatClampNeg co.toNatClampNeg = false from by (try rw [show (0 : Int32).toInt = 0 from (show (0 : Int32).toInt = 0 from rfl)]); (first | exact crd_yes (by omega) (by omega) (by omega) (by assumption) (by assumption) (by omega) | exact crd_eq (by assumption) | exact crd_t1 (by assumption) | exact crd_t2 (by assumption) | exact crd_no (by omega)))⟩)), ht⟩) (fun q h => by cases h) dX1_crowds_49
      · have dc7 : 0 ≤ (top co.toNatClampNeg).toInt := ka_lo (by omega) (neC rfl (show ((-1) : Int32).toInt = (-1) from rfl) c7)
        refine lv_aload_n hx hb dX1_crowds_25 rfl (lv_at hl 0 rfl) ?_
        refine lv_aload_n hx hb dX1_crowds_26 rfl (lv_at hl 0 rfl) ?_
        refine va_get (D := (dC, dI)) (ci := 1) (v := .ref (a 5)) (C := RX1) (T := TX1) (N := 13) hx hb hts inX1 hown hK hP 0 rfl rfl 1 (by decide) lf9 (fun _ h9 => h9) rfl dX1_crowds_27 ?_
        refine lv_iload_n hx hb dX1_crowds_30 rfl (lv_at hl 1 rfl) ?_
        have b8 : vp_in ot 48 := inC rfl (by omega) (by omega)
        refine va_iald hx hb hK hP 1 0 rfl rfl b8 dX1_crowds_31 ?_
        have g9 : -1 ≤ (top ot.toNatClampNeg).toInt ∧ (top ot.toNatClampNeg).toInt ≤ 23 := rg_at r_top b8
        refine lv_aload_n hx hb dX1_crowds_32 rfl (lv_at hl 0 rfl) ?_
        refine va_get (D := (dC, dI)) (ci := 1) (v := .ref (a 5)) (C := RX1) (T := TX1) (N := 13) hx hb hts inX1 hown hK hP 0 rfl rfl 1 (by decide) lf9 (fun _ h9 => h9) rfl dX1_crowds_33 ?_
        refine lv_iload_n hx hb dX1_crowds_36 rfl (lv_at hl 2 rfl) ?_
        have b10 : vp_in co 48 := inC rfl (by omega) (by omega)
        refine va_iald hx hb hK hP 1 0 rfl rfl b10 dX1_crowds_37 ?_
        have g11 : -1 ≤ (top co.toNatClampNeg).toInt ∧ (top co.toNatClampNeg).toInt ≤ 23 := rg_at r_top b10
        refine rdV (As := [.int (top ot.toNatClampNeg), .int (top co.toNatClampNeg)]) (rest := []) ⟨hx, hb, hml, hown, hts⟩ (k_X1_muchAlike2 l dC dI cI cZ cQ a top str gho ghs pto cro pla wal fal tel gai day mar (top ot.toNatClampNeg) (top co.toNatClampNeg) r_top r_str r_gho r_ghs r_cro r_pla r_fal r_gai r_day r_mar (by omega) (by omega) (by omega) (by omega)) (cwV 2 hts gX1_crowds_X1_muchAlike rfl rfl rfl (by decide +kernel) ⟨Nat.le_of_ble_eq_true rfl, Nat.le_of_ble_eq_true rfl⟩) hP hK hN [0, 1, 2, 3, 4, 5, 6, 7, 8, 9, 10, 11] rfl 0 1 rfl rfl rfl hl.1 rfl (Nat.le_of_ble_eq_true rfl) dX1_crowds_38 ⟨Nat.le_of_ble_eq_true rfl, Nat.le_of_ble_eq_true rfl⟩ (fun r12 h13 => ?_)
        have h13 : ((((r12 = 1) ∧ (tel.toInt ≤ (bc (mar (top ot.toNatClampNeg).toNatClampNeg &&& mar (top co.toNatClampNeg).toNatClampNeg)).toInt)) ∨ ((r12 = 0) ∧ ((bc (mar (top ot.toNatClampNeg).toNatClampNeg &&& mar (top co.toNatClampNeg).toNatClampNeg)).toInt < tel.toInt)))) := h13
        rcases h13 with (⟨rfl, h13_a0⟩ | ⟨rfl, h13_a0⟩)
        · refine lv_if_eq (tgt := 48) hx hb dX1_crowds_41 (by decide) (fun c9 => absurd c9 (by decide)) (fun _ => ?_)
          refine lv_iconst (v := 1) hx hb dX1_crowds_44 (by decide) ?_
          refine lv_goto (tgt := 49) hx hb dX1_crowds_45 (by decide) ?_
          exact W.zret (v := 1) hx hb hr (by decide) (fun tq ht hW => ⟨1, rfl, (Or.inl (⟨rfl, (show crdB mar top tel ot.toNatClampNeg co.toNatClampNeg = true from by (try rw [show (1 : Int32).toInt = 1 from (show (1 : Int32).toInt = 1 from rfl)]); (first | exact crd_yes (by omega) (by omega) (by omega) (by assumption) (by assumption) (by omega) | exact crd_eq (by assumption) | exact crd_t1 (by assumption) | exact crd_t2 (by assumption) | exact crd_no (by omega)))⟩)), ht⟩) (fun q h => by cases h) dX1_crowds_49
        · refine lv_if_eq (tgt := 48) hx hb dX1_crowds_41 (by decide) (fun _ => ?_) (fun c9 => absurd (by decide) c9)
          refine lv_iconst (v := 0) hx hb dX1_crowds_48 (by decide) ?_
          exact W.zret (v := 0) hx hb hr (by decide) (fun tq ht hW => ⟨0, rfl, (Or.inr (⟨rfl, (show crdB mar top tel ot.toNatClampNeg co.toNatClampNeg = false from by (try rw [show (0 : Int32).toInt = 0 from (show (0 : Int32).toInt = 0 from rfl)]); (first | exact crd_yes (by omega) (by omega) (by omega) (by assumption) (by assumption) (by omega) | exact crd_eq (by assumption) | exact crd_t1 (by assumption) | exact crd_t2 (by assumption) | exact crd_no (by omega)))⟩)), ht⟩) (fun q h => by cases h) dX1_crowds_49
set_option maxHeartbeats 4000000 in
set_option maxRecDepth 100000 in
theorem k_X1_countCrowds2 (l : Launch) (dC : Nat → ClassId) (dI : Nat → Nat → Nat) (cI cZ cQ : ClassId) (a : Nat → Nat) (top : Nat → Int32) (str : Nat → Int32) (gho : Nat → Int32) (ghs : Nat → Int32) (pto : Nat → Int32) (cro : Nat → Int32) (pla : Nat → Int32) (wal : Nat → Int32) (fal : Nat → Int32) (tel : Int32) (gai : Int32) (day : Int32) (mar : Nat → Int32) (sz : Nat) (r_top : rg 48 (-1) (23) top) (r_str : rg 48 (0) (100) str) (r_gho : rg 48 (-1) (23) gho) (r_ghs : rg 48 (0) (100) ghs) (r_cro : rg 48 (0) (6) cro) (r_pla : rg 24 (-1) (47) pla) (r_fal : rg 11 (0) (30) fal) (r_gai : 0 ≤ gai.toInt ∧ gai.toInt ≤ 100) (r_day : 0 ≤ day.toInt ∧ day.toInt ≤ 400) (r_mar : rg 24 (0) (255) mar) : KV l yX1_countCrowds wsX1_countCrowds { frames := 4, cells := 0, slots := 0, locals := 86 } (dC, dI) (TY cI cZ cQ) (wCor cI cZ cQ a top str gho ghs pto cro pla wal fal tel gai day mar) [.ref (a 4)] sz 0 0 (fun (u : US) => (∀ j : Nat, j < 48 → ((u.1 0) j).toInt = cwF mar top tel j (j - j % 6) 6) ∧ (rg 48 (0) (6) (u.1 0))) (fun u : US => (wCor cI cZ cQ a top str gho ghs pto (u.1 0) pla wal fal tel gai day mar)) := by
  refine Met.ofW (cc := cX1_countCrowds) (maxL := 4) (ret := none) (by decide) rfl ?_
  intro p e s m args below meth c s₁ B hml hv
  obtain ⟨rfl, hsz, hP, hK, hD0, hN⟩ := hv
  have hx := B.exec
  have hb := B.bytes
  have hr := B.returns
  have hts := atoms_spec (ws := wsX1_countCrowds) B.pre
  have hown : s.vm.findClass RX1 = some m.cls := findClass_of_methodNamed B.named
  have hlocks := B.notSynchronized
  have lf27 := hts (.fieldLink RX1 27 "PalaceOfRooms$Corners" "crowd" "[I") (List.mem_cons_of_mem _ (List.mem_append_left _ (List.mem_append_left _ (List.mem_append_left _ (List.mem_of_getElem? (i := 0) rfl)))))
  have inX1 : ∀ w ∈ wsX10, w ∈ wsX1_countCrowds := fun w h => List.mem_cons_of_mem _ (List.mem_append_left _ (List.mem_append_right _ h))
  subst hsz
  have hD := hD0.self (sz := s.heap.size)
  generalize hAe : va_A (wCor cI cZ cQ a top str gho ghs pto cro pla wal fal tel gai day mar) s.heap.size = A at hD ⊢
  have hA : ∀ q : Nat, s.heap.size ≤ q → A q := fun q h => by rw [← hAe]; exact Or.inr h
  have hS : va_S A s.heap s.heap [] := va_S.rf
  have hl := lv_entry ([.ref (a 4)]) (n := 4) (Nat.le_of_ble_eq_true rfl)
  rw [lg_entry_eq]
  generalize (lg_sl ([.ref (a 4)]) ++ List.replicate (4 - (lg_sl ([.ref (a 4)])).length) Slot.unset).toArray = ls at hl ⊢
  have hl : lv_has ls 4 [(0, .ref (a 4))] := hl
  refine lv_iconst (v := 0) hx hb dX1_countCrowds_0 (by decide) ?_
  refine lv_istore_n (lv' := [(1, .int 0), (0, .ref (a 4))]) hx hb dX1_countCrowds_1 rfl hl (by decide) rfl (fun ls hl => ?_)
  have L2 : ∀ (nn : Nat) (y2_1 : Int32) (cro_2 : Nat → Int32) (H : Heap) (locs : List Loc) (ls : Array Slot), (rg 48 (0) (6) cro_2) → (0 ≤ (y2_1.toInt)) → ((y2_1.toInt) ≤ 48) → (∀ j : Nat, (j : Int) < (y2_1.toInt) → (cro_2 j).toInt = cwF mar top tel j (j - j % 6) 6) → (48 - (y2_1.toInt)).toNat < nn → va_P (dC, dI) vwCl (wCor cI cZ cQ a top str gho ghs pto cro_2 pla wal fal tel gai day mar) H → va_D A (wCor cI cZ cQ a top str gho ghs pto cro_2 pla wal fal tel gai day mar) → va_S A s.heap H locs → lv_has ls 4 [(0, .ref (a 4)), (1, .int y2_1)] → W p l e (headSpec wsX1_countCrowds { frames := 4, cells := 0, slots := 0, locals := 86 }).room s m ([.ref (a 4)] : List Value).toArray below meth c H locs 0 0 (MQ below (va_Qv (fun (u : US) => (∀ j : Nat, j < 48 → ((u.1 0) j).toInt = cwF mar top tel j (j - j % 6) 6) ∧ (rg 48 (0) (6) (u.1 0))) (Bw (dC, dI) A (fun u : US => (wCor cI cZ cQ a top str gho ghs pto (u.1 0) pla wal fal tel gai day mar))) A) ([.ref (a 4)] : List Value).toArray s 0 0 A) (F0 m 2 ls []) := by
    intro nn
    induction nn with
    | zero =>
      intro y2_1 cro_2 H locs ls r_cro_2 i2_0 i2_1 i2_2 hm2
      exact absurd hm2 (Nat.not_lt_zero _)
    | succ nn ih2 =>
      intro y2_1 cro_2 H locs ls r_cro_2 i2_0 i2_1 i2_2 hm2 hP hD hS hl
      refine lv_iload_n hx hb dX1_countCrowds_2 rfl (lv_at hl 1 rfl) ?_
      refine lv_bipush (v := 48) hx hb dX1_countCrowds_3 (by decide) ?_
      refine lv_icmp_ge (tgt := 63) hx hb dX1_countCrowds_5 (by decide) (fun c1 => ?_) (fun c1 => ?_)
      · have dc1 : 48 ≤ y2_1.toInt := leC (show (48 : Int32).toInt = 48 from rfl) rfl c1
        exact W.vret hx hb hr (fun tq ht hW => ⟨⟨(uS [cro_2] 0 (fun _ => 0)), rfl, ⟨(show ∀ j : Nat, j < 48 → (cro_2 j).toInt = cwF mar top tel j (j - j % 6) 6 from by (intro j hj; exact i2_2 j (by omega))), r_cro_2⟩, by rw [ht]; exact hP, hD⟩, hS.F ht⟩) hS.2.2 dX1_countCrowds_63
      · have dc1 : y2_1.toInt < 48 := nleC (show (48 : Int32).toInt = 48 from rfl) rfl c1
        refine lv_aload_n hx hb dX1_countCrowds_8 rfl (lv_at hl 0 rfl) ?_
        refine va_get (D := (dC, dI)) (ci := 1) (v := .ref (a 10)) (C := RX1) (T := TX1) (N := 13) hx hb hts inX1 hown hK hP 0 rfl rfl 6 (by decide) lf27 (fun _ h9 => h9) rfl dX1_countCrowds_9 ?_
        refine lv_iload_n hx hb dX1_countCrowds_12 rfl (lv_at hl 1 rfl) ?_
        refine lv_iconst (v := 0) hx hb dX1_countCrowds_13 (by decide) ?_
        have b2 : vp_in y2_1 48 := inC rfl (by omega) (by omega)
        have g3 : rg 48 (0) (6) (upd cro_2 y2_1.toNatClampNeg 0) := rg_upd r_cro_2 (show (0 : Int32).toInt = 0 from rfl) (by omega) (by omega)
        refine va_iast hx hb hK hP hD hS 6 0 rfl rfl b2 dX1_countCrowds_14 (fun H locs hP hD hS => ?_)
        obtain ⟨cro_u4, ecro_u4⟩ : ∃ f : Nat → Int32, f = upd cro_2 y2_1.toNatClampNeg 0 := ⟨_, rfl⟩
        have rcro_u4 : rg 48 (0) (6) cro_u4 := by rw [ecro_u4]; exact g3
        have hP : va_P (dC, dI) vwCl (wCor cI cZ cQ a top str gho ghs pto cro_u4 pla wal fal tel gai day mar) H := by rw [ecro_u4]; exact hP
        have hD : va_D A (wCor cI cZ cQ a top str gho ghs pto cro_u4 pla wal fal tel gai day mar) := by rw [ecro_u4]; exact hD
        refine lv_iload_n hx hb dX1_countCrowds_15 rfl (lv_at hl 1 rfl) ?_
        refine lv_iload_n hx hb dX1_countCrowds_16 rfl (lv_at hl 1 rfl) ?_
        refine lv_bipush (v := 6) hx hb dX1_countCrowds_17 (by decide) ?_
        refine lv_irem hx hb dX1_countCrowds_19 (by decide) ?_
        have f5 : (y2_1 - y2_1 / 6 * 6).toInt = (y2_1.toInt) % (6) := remC rfl (show (6 : Int32).toInt = 6 from rfl) (by omega) (by omega)
        refine lv_isub hx hb dX1_countCrowds_20 ?_
        have f6 : (y2_1 - (y2_1 - y2_1 / 6 * 6)).toInt = (y2_1.toInt) - ((y2_1.toInt) % (6)) := subC rfl f5 (by omega) (by omega)
        refine lv_topi (fun x7 ex7 => ?_)
        have ix7 : x7.toInt = (y2_1.toInt) - ((y2_1.toInt) % (6)) := by rw [ex7]; exact f6
        refine lv_istore_n (lv' := [(2, .int x7), (0, .ref (a 4)), (1, .int y2_1)]) hx hb dX1_countCrowds_21 rfl hl (by decide) rfl (fun ls hl => ?_)
        refine lv_iload_n hx hb dX1_countCrowds_22 rfl (lv_at hl 0 rfl) ?_
        refine lv_istore_n (lv' := [(3, .int x7), (2, .int x7), (0, .ref (a 4)), (1, .int y2_1)]) hx hb dX1_countCrowds_23 rfl hl (by decide) rfl (fun ls hl => ?_)
        have L24 : ∀ (nn : Nat) (y24_3 : Int32) (cro_24 : Nat → Int32) (H : Heap) (locs : List Loc) (ls : Array Slot), (rg 48 (0) (6) cro_24) → (-5 ≤ (y24_3.toInt)) → ((y24_3.toInt) ≤ 53) → ((cro_24 y2_1.toNatClampNeg).toInt ≤ (y24_3.toInt) - (x7.toInt)) → ((x7.toInt) ≤ (y24_3.toInt)) → (∀ j : Nat, (j : Int) < (y2_1.toInt) → (cro_24 j).toInt = cwF mar top tel j (j - j % 6) 6) → ((cro_24 y2_1.toNatClampNeg).toInt = cwF mar top tel y2_1.toNatClampNeg x7.toNatClampNeg ((y24_3.toInt) - (x7.toInt)).toNat) → ((y24_3.toInt) ≤ (x7.toInt) + 6) → (53 - (y24_3.toInt)).toNat < nn → va_P (dC, dI) vwCl (wCor cI cZ cQ a top str gho ghs pto cro_24 pla wal fal tel gai day mar) H → va_D A (wCor cI cZ cQ a top str gho ghs pto cro_24 pla wal fal tel gai day mar) → va_S A s.heap H locs → lv_has ls 4 [(0, .ref (a 4)), (1, .int y2_1), (2, .int x7), (3, .int y24_3)] → W p l e (headSpec wsX1_countCrowds { frames := 4, cells := 0, slots := 0, locals := 86 }).room s m ([.ref (a 4)] : List Value).toArray below meth c H locs 0 0 (MQ below (va_Qv (fun (u : US) => (∀ j : Nat, j < 48 → ((u.1 0) j).toInt = cwF mar top tel j (j - j % 6) 6) ∧ (rg 48 (0) (6) (u.1 0))) (Bw (dC, dI) A (fun u : US => (wCor cI cZ cQ a top str gho ghs pto (u.1 0) pla wal fal tel gai day mar))) A) ([.ref (a 4)] : List Value).toArray s 0 0 A) (F0 m 24 ls []) := by
          intro nn
          induction nn with
          | zero =>
            intro y24_3 cro_24 H locs ls r_cro_24 i24_0 i24_1 i24_2 i24_3 i24_4 i24_5 i24_6 hm24
            exact absurd hm24 (Nat.not_lt_zero _)
          | succ nn ih24 =>
            intro y24_3 cro_24 H locs ls r_cro_24 i24_0 i24_1 i24_2 i24_3 i24_4 i24_5 i24_6 hm24 hP hD hS hl
            refine lv_iload_n hx hb dX1_countCrowds_24 rfl (lv_at hl 3 rfl) ?_
            refine lv_iload_n hx hb dX1_countCrowds_25 rfl (lv_at hl 2 rfl) ?_
            refine lv_bipush (v := 6) hx hb dX1_countCrowds_26 (by decide) ?_
            refine lv_iadd hx hb dX1_countCrowds_28 ?_
            have f8 : (x7 + 6).toInt = (x7.toInt) + (6) := addC rfl (show (6 : Int32).toInt = 6 from rfl) (by omega) (by omega)
            refine lv_icmp_ge (tgt := 57) hx hb dX1_countCrowds_29 (by decide) (fun c9 => ?_) (fun c9 => ?_)
            · have dc9 : (x7.toInt) + (6) ≤ y24_3.toInt := leC f8 rfl c9
              obtain ⟨z10, ez10⟩ : ∃ y : Int32, y = y2_1 + 1 := ⟨_, rfl⟩
              have iz10 : z10.toInt = y2_1.toInt + 1 := by rw [ez10]; exact addC rfl rfl (by omega) (by omega)
              refine lv_iinc (v := z10) (lv' := [(1, .int z10), (0, .ref (a 4)), (2, .int x7), (3, .int y24_3)]) hx hb dX1_countCrowds_57 hl (k := 1) rfl (by rw [ez10]; rfl) (by decide) rfl (fun ls hl => ?_)
              refine lv_goto (tgt := 2) hx hb dX1_countCrowds_60 (by decide) ?_
              exact ih2 z10 cro_24 _ _ _ r_cro_24 (by omega) (by omega) (by (first | (intro j hj; omega) | exact cw_next i24_4 i24_5 (by omega) (by omega) (by omega) (by omega))) (by omega) hP hD hS (lv_sub hl [1, 0] rfl)
            · have dc9 : y24_3.toInt < (x7.toInt) + (6) := nleC f8 rfl c9
              refine lv_aload_n hx hb dX1_countCrowds_32 rfl (lv_at hl 0 rfl) ?_
              refine lv_iload_n hx hb dX1_countCrowds_33 rfl (lv_at hl 3 rfl) ?_
              refine lv_iload_n hx hb dX1_countCrowds_34 rfl (lv_at hl 1 rfl) ?_
              refine rdV (As := [.int y24_3, .int y2_1]) (rest := []) ⟨hx, hb, hml, hown, hts⟩ (k_X1_crowds2 l dC dI cI cZ cQ a top str gho ghs pto cro_24 pla wal fal tel gai day mar y24_3 y2_1 r_top r_str r_gho r_ghs r_cro_24 r_pla r_fal r_gai r_day r_mar (by omega) (by omega) (by omega) (by omega)) (cwV 2 hts gX1_countCrowds_X1_crowds rfl rfl rfl (by decide +kernel) ⟨Nat.le_of_ble_eq_true rfl, Nat.le_of_ble_eq_true rfl⟩) hP hK hN [0, 1, 2, 3, 4, 5, 6, 7, 8, 9, 10, 11] rfl 0 1 rfl rfl rfl hl.1 rfl (Nat.le_of_ble_eq_true rfl) dX1_countCrowds_35 ⟨Nat.le_of_ble_eq_true rfl, Nat.le_of_ble_eq_true rfl⟩ (fun r11 h12 => ?_)
              have h12 : ((((r11 = 1) ∧ (crdB mar top tel y24_3.toNatClampNeg y2_1.toNatClampNeg = true)) ∨ ((r11 = 0) ∧ (crdB mar top tel y24_3.toNatClampNeg y2_1.toNatClampNeg = false)))) := h12
              rcases h12 with (⟨rfl, h12_a0⟩ | ⟨rfl, h12_a0⟩)
              · refine lv_if_eq (tgt := 51) hx hb dX1_countCrowds_38 (by decide) (fun c9 => absurd c9 (by decide)) (fun _ => ?_)
                refine lv_aload_n hx hb dX1_countCrowds_41 rfl (lv_at hl 0 rfl) ?_
                refine va_get (D := (dC, dI)) (ci := 1) (v := .ref (a 10)) (C := RX1) (T := TX1) (N := 13) hx hb hts inX1 hown hK hP 0 rfl rfl 6 (by decide) lf27 (fun _ h9 => h9) rfl dX1_countCrowds_42 ?_
                refine lv_iload_n hx hb dX1_countCrowds_45 rfl (lv_at hl 1 rfl) ?_
                refine lv_dup2_11 hx hb dX1_countCrowds_46 rfl rfl ?_
                have b13 : vp_in y2_1 48 := inC rfl (by omega) (by omega)
                refine va_iald hx hb hK hP 6 0 rfl rfl b13 dX1_countCrowds_47 ?_
                have g14 : 0 ≤ (cro_24 y2_1.toNatClampNeg).toInt ∧ (cro_24 y2_1.toNatClampNeg).toInt ≤ 6 := rg_at r_cro_24 b13
                refine lv_iconst (v := 1) hx hb dX1_countCrowds_48 (by decide) ?_
                refine lv_iadd hx hb dX1_countCrowds_49 ?_
                have f15 : ((cro_24 y2_1.toNatClampNeg) + 1).toInt = ((cro_24 y2_1.toNatClampNeg).toInt) + (1) := addC rfl (show (1 : Int32).toInt = 1 from rfl) (by omega) (by omega)
                refine lv_topi (fun x16 ex16 => ?_)
                have ix16 : x16.toInt = ((cro_24 y2_1.toNatClampNeg).toInt) + (1) := by rw [ex16]; exact f15
                have b17 : vp_in y2_1 48 := inC rfl (by omega) (by omega)
                have g18 : rg 48 (0) (6) (upd cro_24 y2_1.toNatClampNeg x16) := rg_upd r_cro_24 rfl (by omega) (by omega)
                refine va_iast hx hb hK hP hD hS 6 0 rfl rfl b17 dX1_countCrowds_50 (fun H locs hP hD hS => ?_)
                obtain ⟨cro_u19, ecro_u19⟩ : ∃ f : Nat → Int32, f = upd cro_24 y2_1.toNatClampNeg x16 := ⟨_, rfl⟩
                have rcro_u19 : rg 48 (0) (6) cro_u19 := by rw [ecro_u19]; exact g18
                have hP : va_P (dC, dI) vwCl (wCor cI cZ cQ a top str gho ghs pto cro_u19 pla wal fal tel gai day mar) H := by rw [ecro_u19]; exact hP
                have hD : va_D A (wCor cI cZ cQ a top str gho ghs pto cro_u19 pla wal fal tel gai day mar) := by rw [ecro_u19]; exact hD
                obtain ⟨z20, ez20⟩ : ∃ y : Int32, y = y24_3 + 1 := ⟨_, rfl⟩
                have iz20 : z20.toInt = y24_3.toInt + 1 := by rw [ez20]; exact addC rfl rfl (by omega) (by omega)
                refine lv_iinc (v := z20) (lv' := [(3, .int z20), (0, .ref (a 4)), (1, .int y2_1), (2, .int x7)]) hx hb dX1_countCrowds_51 hl (k := 3) rfl (by rw [ez20]; rfl) (by decide) rfl (fun ls hl => ?_)
                refine lv_goto (tgt := 24) hx hb dX1_countCrowds_54 (by decide) ?_
                exact ih24 z20 cro_u19 _ _ _ rcro_u19 (by omega) (by omega) (by (first | omega | (subst_vars; simp only [pk_us, Int32.toInt_zero]; omega))) (by omega) (by (first | exact cw_keep (by assumption) (by omega) i24_4 | exact i24_4 | exact cw_keep (by assumption) (by omega) i2_2)) (by (first | exact cw_yes (by assumption) (by omega) i24_5 (by assumption) (by omega) (by omega) (by omega) (by omega) | exact cw_no i24_5 (by assumption) (by omega) (by omega) (by omega) (by omega) | exact cw_zero (by assumption) (by first | rfl | assumption) (by omega))) (by omega) (by omega) hP hD hS (lv_sub hl [1, 2, 3, 0] rfl)
              · refine lv_if_eq (tgt := 51) hx hb dX1_countCrowds_38 (by decide) (fun _ => ?_) (fun c9 => absurd (by decide) c9)
                obtain ⟨z21, ez21⟩ : ∃ y : Int32, y = y24_3 + 1 := ⟨_, rfl⟩
                have iz21 : z21.toInt = y24_3.toInt + 1 := by rw [ez21]; exact addC rfl rfl (by omega) (by omega)
                refine lv_iinc (v := z21) (lv' := [(3, .int z21), (0, .ref (a 4)), (1, .int y2_1), (2, .int x7)]) hx hb dX1_countCrowds_51 hl (k := 3) rfl (by rw [ez21]; rfl) (by decide) rfl (fun ls hl => ?_)
                refine lv_goto (tgt := 24) hx hb dX1_countCrowds_54 (by decide) ?_
                exact ih24 z21 cro_24 _ _ _ r_cro_24 (by omega) (by omega) (by (first | omega | (subst_vars; simp only [pk_us, Int32.toInt_zero]; omega))) (by omega) (by (first | exact cw_keep (by assumption) (by omega) i24_4 | exact i24_4 | exact cw_keep (by assumption) (by omega) i2_2)) (by (first | exact cw_yes (by assumption) (by omega) i24_5 (by assumption) (by omega) (by omega) (by omega) (by omega) | exact cw_no i24_5 (by assumption) (by omega) (by omega) (by omega) (by omega) | exact cw_zero (by assumption) (by first | rfl | assumption) (by omega))) (by omega) (by omega) hP hD hS (lv_sub hl [1, 2, 3, 0] rfl)
        exact L24 _ x7 cro_u4 _ _ _ rcro_u4 (by omega) (by omega) (by (first | omega | (subst_vars; simp only [pk_us, Int32.toInt_zero]; omega))) (by omega) (by (first | exact cw_keep (by assumption) (by omega) i24_4 | exact i24_4 | exact cw_keep (by assumption) (by omega) i2_2)) (by (first | exact cw_zero (by assumption) (by first | rfl | assumption) (by omega) | exact cw_yes (by assumption) (by omega) i24_5 (by assumption) (by omega) (by omega) (by omega) (by omega) | exact cw_no i24_5 (by assumption) (by omega) (by omega) (by omega) (by omega))) (by omega) (Nat.lt_succ_self _) hP hD hS (lv_sub hl [2, 3, 1, 0] rfl)
  have kc22 : (0 : Int32).toInt = 0 := rfl
  exact L2 _ 0 cro _ _ _ r_cro (by omega) (by omega) (by (first | (intro j hj; omega) | exact cw_next i24_4 i24_5 (by omega) (by omega) (by omega) (by omega))) (Nat.lt_succ_self _) hP hD hS (lv_sub hl [1, 0] rfl)
set_option maxHeartbeats 4000000 in
set_option maxRecDepth 100000 in
theorem k_X1_fallen2 (l : Launch) (dC : Nat → ClassId) (dI : Nat → Nat → Nat) (cI cZ cQ : ClassId) (a : Nat → Nat) (top : Nat → Int32) (str : Nat → Int32) (gho : Nat → Int32) (ghs : Nat → Int32) (pto : Nat → Int32) (cro : Nat → Int32) (pla : Nat → Int32) (wal : Nat → Int32) (fal : Nat → Int32) (tel : Int32) (gai : Int32) (day : Int32) (mar : Nat → Int32) (fr : Int32) (mo : Int32) (r_top : rg 48 (-1) (23) top) (r_str : rg 48 (0) (100) str) (r_gho : rg 48 (-1) (23) gho) (r_ghs : rg 48 (0) (100) ghs) (r_cro : rg 48 (0) (6) cro) (r_pla : rg 24 (-1) (47) pla) (r_fal : rg 11 (0) (30) fal) (r_gai : 0 ≤ gai.toInt ∧ gai.toInt ≤ 100) (r_day : 0 ≤ day.toInt ∧ day.toInt ≤ 400) (r_mar : rg 24 (0) (255) mar) (q0 : 0 ≤ fr.toInt) (q1 : fr.toInt ≤ 100) (q2 : 0 ≤ mo.toInt) (q3 : mo.toInt ≤ 6) : KR l yX1_fallen wsX1_fallen { frames := 1, cells := 0, slots := 0, locals := 24 } (dC, dI) (TY cI cZ cQ) (wCor cI cZ cQ a top str gho ghs pto cro pla wal fal tel gai day mar) [.ref (a 4), .int fr, .int mo] (fun r : Int32 => (0 ≤ r.toInt) ∧ (r.toInt ≤ fr.toInt) ∧ (r.toInt ≤ 100) ∧ (r.toInt = fl fal fr.toInt mo.toInt)) := by
  refine Met.ofW (cc := cX1_fallen) (maxL := 3) (ret := (some .int)) (by decide) rfl ?_
  intro p e s m args below meth c s₁ B hml hv
  obtain ⟨rfl, hP, hK, hN⟩ := hv
  have hx := B.exec
  have hb := B.bytes
  have hr := B.returns
  have hts := atoms_spec (ws := wsX1_fallen) B.pre
  have hown : s.vm.findClass RX1 = some m.cls := findClass_of_methodNamed B.named
  have hlocks := B.notSynchronized
  have lf36 := hts (.fieldLink RX1 36 "PalaceOfRooms$Corners" "fallOf" "[I") (List.mem_cons_of_mem _ (List.mem_append_left _ (List.mem_of_getElem? (i := 0) rfl)))
  have inX1 : ∀ w ∈ wsX10, w ∈ wsX1_fallen := fun w h => List.mem_cons_of_mem _ (List.mem_append_right _ h)
  have hl := lv_entry ([.ref (a 4), .int fr, .int mo]) (n := 3) (Nat.le_of_ble_eq_true rfl)
  rw [lg_entry_eq]
  generalize (lg_sl ([.ref (a 4), .int fr, .int mo]) ++ List.replicate (3 - (lg_sl ([.ref (a 4), .int fr, .int mo])).length) Slot.unset).toArray = ls at hl ⊢
  have hl : lv_has ls 3 [(0, .ref (a 4)), (1, .int fr), (2, .int mo)] := hl
  refine lv_iconst (v := 0) hx hb dX1_fallen_0 (by decide) ?_
  refine lv_iload_n hx hb dX1_fallen_1 rfl (lv_at hl 1 rfl) ?_
  refine lv_aload_n hx hb dX1_fallen_2 rfl (lv_at hl 0 rfl) ?_
  refine va_get (D := (dC, dI)) (ci := 1) (v := .ref (a 13)) (C := RX1) (T := TX1) (N := 13) hx hb hts inX1 hown hK hP 0 rfl rfl 9 (by decide) lf36 (fun _ h9 => h9) rfl dX1_fallen_3 ?_
  refine lv_iload_n hx hb dX1_fallen_6 rfl (lv_at hl 1 rfl) ?_
  refine lv_bipush (v := 10) hx hb dX1_fallen_7 (by decide) ?_
  refine lv_idiv hx hb dX1_fallen_9 (by decide) ?_
  have f1 : (fr / 10).toInt = (fr.toInt) / (10) := divC rfl (show (10 : Int32).toInt = 10 from rfl) (by omega) (by omega)
  have b2 : vp_in (fr / 10) 11 := inC f1 (by omega) (by omega)
  refine va_iald hx hb hK hP 9 0 rfl rfl b2 dX1_fallen_10 ?_
  have g3 : 0 ≤ (fal (fr / 10).toNatClampNeg).toInt ∧ (fal (fr / 10).toNatClampNeg).toInt ≤ 30 := rg_at r_fal b2
  refine lv_isub hx hb dX1_fallen_11 ?_
  have f4 : (fr - (fal (fr / 10).toNatClampNeg)).toInt = (fr.toInt) - ((fal (fr / 10).toNatClampNeg).toInt) := subC rfl rfl (by omega) (by omega)
  refine lv_iload_n hx hb dX1_fallen_12 rfl (lv_at hl 2 rfl) ?_
  refine lv_isub hx hb dX1_fallen_13 ?_
  have f5 : ((fr - (fal (fr / 10).toNatClampNeg)) - mo).toInt = ((fr.toInt) - ((fal (fr / 10).toNatClampNeg).toInt)) - (mo.toInt) := subC f4 rfl (by omega) (by omega)
  refine va_mmax hx hb (by rw [hml]; exact hl.1.symm) hown (hts (.methodLink RX1 90 Lib.Math.max.name) (List.mem_cons_of_mem _ (List.mem_append_left _ (List.mem_of_getElem? (i := 1) rfl)))) (hts (.static Lib.Math.max.name) (List.mem_cons_of_mem _ (List.mem_append_left _ (List.mem_of_getElem? (i := 2) rfl)))) (hts (.initialized "java/lang/Math") (List.mem_cons_of_mem _ (List.mem_append_left _ (List.mem_of_getElem? (i := 3) rfl)))) (hts (.code Lib.Math.max.name Lib.Math.max.code 2 (some .int)) (List.mem_cons_of_mem _ (List.mem_append_left _ (List.mem_of_getElem? (i := 4) rfl)))) (Nat.le_of_ble_eq_true rfl) (Nat.le_of_ble_eq_true rfl) (Nat.le_of_ble_eq_true rfl) (Nat.le_of_ble_eq_true rfl) dX1_fallen_14 ?_
  have f6 : (if (0 : Int32) < (fr - (fal (fr / 10).toNatClampNeg)) - mo then (fr - (fal (fr / 10).toNatClampNeg)) - mo else 0 : Int32).toInt = max (0) (((fr.toInt) - ((fal (fr / 10).toNatClampNeg).toInt)) - (mo.toInt)) := maxC (show (0 : Int32).toInt = 0 from rfl) f5
  refine lv_topi (fun x7 ex7 => ?_)
  have ix7 : x7.toInt = max (0) (((fr.toInt) - ((fal (fr / 10).toNatClampNeg).toInt)) - (mo.toInt)) := by rw [ex7]; exact f6
  exact W.iret (v := x7) hx hb hr (fun tq ht hW => ⟨x7, rfl, ⟨(show 0 ≤ x7.toInt from by omega), (show x7.toInt ≤ fr.toInt from by omega), (show x7.toInt ≤ 100 from by omega), (show x7.toInt = fl fal fr.toInt mo.toInt from by (unfold fl; rw [← clC (x := fr / 10) (X := fr.toInt / 10) (by assumption)]; omega))⟩, ht⟩) (fun q h => by cases h) dX1_fallen_17
set_option maxHeartbeats 4000000 in
set_option maxRecDepth 100000 in
theorem k_X1_strengthBehind2 (l : Launch) (dC : Nat → ClassId) (dI : Nat → Nat → Nat) (cI cZ cQ : ClassId) (a : Nat → Nat) (top : Nat → Int32) (str : Nat → Int32) (gho : Nat → Int32) (ghs : Nat → Int32) (pto : Nat → Int32) (cro : Nat → Int32) (pla : Nat → Int32) (wal : Nat → Int32) (fal : Nat → Int32) (tel : Int32) (gai : Int32) (day : Int32) (mar : Nat → Int32) (co : Int32) (n : Int32) (wd : Int32) (r_top : rg 48 (-1) (23) top) (r_str : rg 48 (0) (100) str) (r_gho : rg 48 (-1) (23) gho) (r_ghs : rg 48 (0) (100) ghs) (r_cro : rg 48 (0) (6) cro) (r_pla : rg 24 (-1) (47) pla) (r_fal : rg 11 (0) (30) fal) (r_gai : 0 ≤ gai.toInt ∧ gai.toInt ≤ 100) (r_day : 0 ≤ day.toInt ∧ day.toInt ≤ 400) (r_mar : rg 24 (0) (255) mar) (q0 : 0 ≤ co.toInt) (q1 : co.toInt ≤ 47) (q2 : 0 ≤ n.toInt) (q3 : n.toInt ≤ 60) (q4 : wd.toInt = 0) : KR l yX1_strengthBehind wsX1_strengthBehind { frames := 2, cells := 0, slots := 0, locals := 46 } (dC, dI) (TY cI cZ cQ) (wCor cI cZ cQ a top str gho ghs pto cro pla wal fal tel gai day mar) [.ref (a 4), .int co, .int n, .int wd] (fun r : Int32 => (0 ≤ r.toInt) ∧ (r.toInt ≤ 100) ∧ (r.toInt = itf fal (cro co.toNatClampNeg).toInt (str co.toNatClampNeg).toInt n.toInt.toNat)) := by
  refine Met.ofW (cc := cX1_strengthBehind) (maxL := 6) (ret := (some .int)) (by decide) rfl ?_
  intro p e s m args below meth c s₁ B hml hv
  obtain ⟨rfl, hP, hK, hN⟩ := hv
  have hx := B.exec
  have hb := B.bytes
  have hr := B.returns
  have hts := atoms_spec (ws := wsX1_strengthBehind) B.pre
  have hown : s.vm.findClass RX1 = some m.cls := findClass_of_methodNamed B.named
  have hlocks := B.notSynchronized
  have lf15 := hts (.fieldLink RX1 15 "PalaceOfRooms$Corners" "strength" "[I") (List.mem_cons_of_mem _ (List.mem_append_left _ (List.mem_of_getElem? (i := 0) rfl)))
  have inX1 : ∀ w ∈ wsX10, w ∈ wsX1_strengthBehind := fun w h => List.mem_cons_of_mem _ (List.mem_append_right _ h)
  have lf27 := hts (.fieldLink RX1 27 "PalaceOfRooms$Corners" "crowd" "[I") (List.mem_cons_of_mem _ (List.mem_append_left _ (List.mem_of_getElem? (i := 1) rfl)))
  have hl := lv_entry ([.ref (a 4), .int co, .int n, .int wd]) (n := 6) (Nat.le_of_ble_eq_true rfl)
  rw [lg_entry_eq]
  generalize (lg_sl ([.ref (a 4), .int co, .int n, .int wd]) ++ List.replicate (6 - (lg_sl ([.ref (a 4), .int co, .int n, .int wd])).length) Slot.unset).toArray = ls at hl ⊢
  have hl : lv_has ls 6 [(0, .ref (a 4)), (1, .int co), (2, .int n), (3, .int wd)] := hl
  refine lv_aload_n hx hb dX1_strengthBehind_0 rfl (lv_at hl 0 rfl) ?_
  refine va_get (D := (dC, dI)) (ci := 1) (v := .ref (a 6)) (C := RX1) (T := TX1) (N := 13) hx hb hts inX1 hown hK hP 0 rfl rfl 2 (by decide) lf15 (fun _ h9 => h9) rfl dX1_strengthBehind_1 ?_
  refine lv_iload_n hx hb dX1_strengthBehind_4 rfl (lv_at hl 1 rfl) ?_
  have b1 : vp_in co 48 := inC rfl (by omega) (by omega)
  refine va_iald hx hb hK hP 2 0 rfl rfl b1 dX1_strengthBehind_5 ?_
  have g2 : 0 ≤ (str co.toNatClampNeg).toInt ∧ (str co.toNatClampNeg).toInt ≤ 100 := rg_at r_str b1
  refine lv_topi (fun x3 ex3 => ?_)
  have ix3 : x3.toInt = (str co.toNatClampNeg).toInt := by rw [ex3]
  refine lv_istore (lv' := [(4, .int x3), (0, .ref (a 4)), (1, .int co), (2, .int n), (3, .int wd)]) hx hb dX1_strengthBehind_6 hl (by decide) rfl (fun ls hl => ?_)
  refine lv_iconst (v := 0) hx hb dX1_strengthBehind_8 (by decide) ?_
  refine lv_istore (lv' := [(5, .int 0), (4, .int x3), (0, .ref (a 4)), (1, .int co), (2, .int n), (3, .int wd)]) hx hb dX1_strengthBehind_9 hl (by decide) rfl (fun ls hl => ?_)
  have L11 : ∀ (nn : Nat) (y11_4 : Int32) (y11_5 : Int32) (ls : Array Slot), (0 ≤ (y11_5.toInt)) → ((y11_5.toInt) ≤ 60) → (0 ≤ (y11_4.toInt)) → ((y11_4.toInt) ≤ 100) → ((y11_4.toInt) = itf fal (cro co.toNatClampNeg).toInt (str co.toNatClampNeg).toInt ((y11_5.toInt)).toNat) → ((y11_5.toInt) ≤ n.toInt) → (60 - (y11_5.toInt)).toNat < nn → lv_has ls 6 [(0, .ref (a 4)), (1, .int co), (2, .int n), (3, .int wd), (4, .int y11_4), (5, .int y11_5)] → W p l e (headSpec wsX1_strengthBehind { frames := 2, cells := 0, slots := 0, locals := 46 }).room s m ([.ref (a 4), .int co, .int n, .int wd] : List Value).toArray below meth c s.heap [] 0 0 (MQ below (QR (fun r : Int32 => (0 ≤ r.toInt) ∧ (r.toInt ≤ 100) ∧ (r.toInt = itf fal (cro co.toNatClampNeg).toInt (str co.toNatClampNeg).toInt n.toInt.toNat))) ([.ref (a 4), .int co, .int n, .int wd] : List Value).toArray s 0 0 (fun _ => False)) (F0 m 11 ls []) := by
    intro nn
    induction nn with
    | zero =>
      intro y11_4 y11_5 ls i11_0 i11_1 i11_2 i11_3 i11_4 i11_5 hm11
      exact absurd hm11 (Nat.not_lt_zero _)
    | succ nn ih11 =>
      intro y11_4 y11_5 ls i11_0 i11_1 i11_2 i11_3 i11_4 i11_5 hm11 hl
      refine lv_iload hx hb dX1_strengthBehind_11 (lv_at hl 5 rfl) ?_
      refine lv_iload_n hx hb dX1_strengthBehind_13 rfl (lv_at hl 2 rfl) ?_
      refine lv_icmp_ge (tgt := 58) hx hb dX1_strengthBehind_14 (by decide) (fun c4 => ?_) (fun c4 => ?_)
      · have dc4 : n.toInt ≤ y11_5.toInt := leC rfl rfl c4
        refine lv_iload hx hb dX1_strengthBehind_58 (lv_at hl 4 rfl) ?_
        exact W.iret (v := y11_4) hx hb hr (fun tq ht hW => ⟨y11_4, rfl, ⟨(show 0 ≤ y11_4.toInt from by omega), (show y11_4.toInt ≤ 100 from by omega), (show y11_4.toInt = itf fal (cro co.toNatClampNeg).toInt (str co.toNatClampNeg).toInt n.toInt.toNat from by (rw [i11_4]; congr 1; omega))⟩, ht⟩) (fun q h => by cases h) dX1_strengthBehind_60
      · have dc4 : y11_5.toInt < n.toInt := nleC rfl rfl c4
        refine lv_iload_n hx hb dX1_strengthBehind_17 rfl (lv_at hl 3 rfl) ?_
        refine lv_iload hx hb dX1_strengthBehind_18 (lv_at hl 5 rfl) ?_
        refine lv_ishr hx hb dX1_strengthBehind_20 ?_
        refine lv_iconst (v := 1) hx hb dX1_strengthBehind_21 (by decide) ?_
        have sz0 := sh_zero (s := y11_5 &&& 31) q4
        refine lv_iand hx hb dX1_strengthBehind_22 ?_
        have f5 := andR (a := (wd >>> (y11_5 &&& 31))) (m := 1) (M := 1) rfl (by decide)
        refine lv_iconst (v := 1) hx hb dX1_strengthBehind_23 (by decide) ?_
        refine lv_icmp_ne (tgt := 38) hx hb dX1_strengthBehind_24 (by decide) (fun c6 => ?_) (fun c6 => ?_)
        · have dc6 : ((wd >>> (y11_5 &&& 31)) &&& 1).toInt ≤ 0 := ka_hi (by omega) (neC rfl (show (1 : Int32).toInt = 1 from rfl) c6)
          refine lv_aload_n hx hb dX1_strengthBehind_38 rfl (lv_at hl 0 rfl) ?_
          refine lv_iload hx hb dX1_strengthBehind_39 (lv_at hl 4 rfl) ?_
          refine lv_aload_n hx hb dX1_strengthBehind_41 rfl (lv_at hl 0 rfl) ?_
          refine va_get (D := (dC, dI)) (ci := 1) (v := .ref (a 10)) (C := RX1) (T := TX1) (N := 13) hx hb hts inX1 hown hK hP 0 rfl rfl 6 (by decide) lf27 (fun _ h9 => h9) rfl dX1_strengthBehind_42 ?_
          refine lv_iload_n hx hb dX1_strengthBehind_45 rfl (lv_at hl 1 rfl) ?_
          have b7 : vp_in co 48 := inC rfl (by omega) (by omega)
          refine va_iald hx hb hK hP 6 0 rfl rfl b7 dX1_strengthBehind_46 ?_
          have g8 : 0 ≤ (cro co.toNatClampNeg).toInt ∧ (cro co.toNatClampNeg).toInt ≤ 6 := rg_at r_cro b7
          refine rdV (As := [.int y11_4, .int (cro co.toNatClampNeg)]) (rest := []) ⟨hx, hb, hml, hown, hts⟩ (k_X1_fallen2 l dC dI cI cZ cQ a top str gho ghs pto cro pla wal fal tel gai day mar y11_4 (cro co.toNatClampNeg) r_top r_str r_gho r_ghs r_cro r_pla r_fal r_gai r_day r_mar (by omega) (by omega) (by omega) (by omega)) (cwV 2 hts gX1_strengthBehind_X1_fallen rfl rfl rfl (by decide +kernel) ⟨Nat.le_of_ble_eq_true rfl, Nat.le_of_ble_eq_true rfl⟩) hP hK hN [0, 1, 2, 3, 4, 5, 6, 7, 8, 9, 10, 11] rfl 0 1 rfl rfl rfl hl.1 rfl (Nat.le_of_ble_eq_true rfl) dX1_strengthBehind_47 ⟨Nat.le_of_ble_eq_true rfl, Nat.le_of_ble_eq_true rfl⟩ (fun r9 h10 => ?_)
          have h10 : (0 ≤ r9.toInt) ∧ (r9.toInt ≤ y11_4.toInt) ∧ (r9.toInt ≤ 100) ∧ (r9.toInt = fl fal y11_4.toInt (cro co.toNatClampNeg).toInt) := h10
          obtain ⟨h10_0, h10_1, h10_2, h10_3⟩ := h10
          refine lv_istore (lv' := [(4, .int r9), (0, .ref (a 4)), (1, .int co), (2, .int n), (3, .int wd), (5, .int y11_5)]) hx hb dX1_strengthBehind_50 hl (by decide) rfl (fun ls hl => ?_)
          obtain ⟨z11, ez11⟩ : ∃ y : Int32, y = y11_5 + 1 := ⟨_, rfl⟩
          have iz11 : z11.toInt = y11_5.toInt + 1 := by rw [ez11]; exact addC rfl rfl (by omega) (by omega)
          refine lv_iinc (v := z11) (lv' := [(5, .int z11), (4, .int r9), (0, .ref (a 4)), (1, .int co), (2, .int n), (3, .int wd)]) hx hb dX1_strengthBehind_52 hl (k := 5) rfl (by rw [ez11]; rfl) (by decide) rfl (fun ls hl => ?_)
          refine lv_goto (tgt := 11) hx hb dX1_strengthBehind_55 (by decide) ?_
          exact ih11 r9 z11 _ (by omega) (by omega) (by omega) (by omega) (by (first | exact itf_next i11_4 (by assumption) (by omega) | (show _ = (str co.toNatClampNeg).toInt; omega) | (exfalso; omega))) (by omega) (by omega) (lv_sub hl [2, 3, 4, 5, 1, 0] rfl)
        · have dc6 : ((wd >>> (y11_5 &&& 31)) &&& 1).toInt = 1 := eqC rfl (show (1 : Int32).toInt = 1 from rfl) c6
          refine lv_iload hx hb dX1_strengthBehind_27 (lv_at hl 4 rfl) ?_
          refine lv_aload_n hx hb dX1_strengthBehind_29 rfl (lv_at hl 0 rfl) ?_
          refine lv_iload hx hb dX1_strengthBehind_30 (lv_at hl 4 rfl) ?_
          refine rdV (As := [.int y11_4]) (rest := [.int y11_4]) ⟨hx, hb, hml, hown, hts⟩ (k_X1_gainOf l dC dI cI cZ cQ a top str gho ghs pto cro pla wal fal tel gai day mar y11_4 r_top r_str r_gho r_ghs r_cro r_pla r_fal r_gai r_day r_mar (by omega) (by omega)) (cwV 1 hts gX1_strengthBehind_X1_gainOf rfl rfl rfl (by decide +kernel) ⟨Nat.le_of_ble_eq_true rfl, Nat.le_of_ble_eq_true rfl⟩) hP hK hN [0, 1, 2, 3, 4, 5, 6, 7, 8, 9, 10, 11] rfl 0 1 rfl rfl rfl hl.1 rfl (Nat.le_of_ble_eq_true rfl) dX1_strengthBehind_32 ⟨Nat.le_of_ble_eq_true rfl, Nat.le_of_ble_eq_true rfl⟩ (fun r12 h13 => ?_)
          have h13 : (0 ≤ r12.toInt) ∧ (r12.toInt ≤ 100 - y11_4.toInt) ∧ (r12.toInt ≤ 100) := h13
          obtain ⟨h13_0, h13_1, h13_2⟩ := h13
          refine lv_iadd hx hb dX1_strengthBehind_35 ?_
          have f14 : (y11_4 + r12).toInt = (y11_4.toInt) + (r12.toInt) := addC rfl rfl (by omega) (by omega)
          refine lv_topi (fun x15 ex15 => ?_)
          have ix15 : x15.toInt = (y11_4.toInt) + (r12.toInt) := by rw [ex15]; exact f14
          refine lv_istore (lv' := [(4, .int x15), (0, .ref (a 4)), (1, .int co), (2, .int n), (3, .int wd), (5, .int y11_5)]) hx hb dX1_strengthBehind_36 hl (by decide) rfl (fun ls hl => ?_)
          refine lv_aload_n hx hb dX1_strengthBehind_38 rfl (lv_at hl 1 rfl) ?_
          refine lv_iload hx hb dX1_strengthBehind_39 (lv_at hl 0 rfl) ?_
          refine lv_aload_n hx hb dX1_strengthBehind_41 rfl (lv_at hl 1 rfl) ?_
          refine va_get (D := (dC, dI)) (ci := 1) (v := .ref (a 10)) (C := RX1) (T := TX1) (N := 13) hx hb hts inX1 hown hK hP 0 rfl rfl 6 (by decide) lf27 (fun _ h9 => h9) rfl dX1_strengthBehind_42 ?_
          refine lv_iload_n hx hb dX1_strengthBehind_45 rfl (lv_at hl 2 rfl) ?_
          have b16 : vp_in co 48 := inC rfl (by omega) (by omega)
          refine va_iald hx hb hK hP 6 0 rfl rfl b16 dX1_strengthBehind_46 ?_
          have g17 : 0 ≤ (cro co.toNatClampNeg).toInt ∧ (cro co.toNatClampNeg).toInt ≤ 6 := rg_at r_cro b16
          refine rdV (As := [.int x15, .int (cro co.toNatClampNeg)]) (rest := []) ⟨hx, hb, hml, hown, hts⟩ (k_X1_fallen2 l dC dI cI cZ cQ a top str gho ghs pto cro pla wal fal tel gai day mar x15 (cro co.toNatClampNeg) r_top r_str r_gho r_ghs r_cro r_pla r_fal r_gai r_day r_mar (by omega) (by omega) (by omega) (by omega)) (cwV 2 hts gX1_strengthBehind_X1_fallen rfl rfl rfl (by decide +kernel) ⟨Nat.le_of_ble_eq_true rfl, Nat.le_of_ble_eq_true rfl⟩) hP hK hN [0, 1, 2, 3, 4, 5, 6, 7, 8, 9, 10, 11] rfl 0 1 rfl rfl rfl hl.1 rfl (Nat.le_of_ble_eq_true rfl) dX1_strengthBehind_47 ⟨Nat.le_of_ble_eq_true rfl, Nat.le_of_ble_eq_true rfl⟩ (fun r18 h19 => ?_)
          have h19 : (0 ≤ r18.toInt) ∧ (r18.toInt ≤ x15.toInt) ∧ (r18.toInt ≤ 100) ∧ (r18.toInt = fl fal x15.toInt (cro co.toNatClampNeg).toInt) := h19
          obtain ⟨h19_0, h19_1, h19_2, h19_3⟩ := h19
          refine lv_istore (lv' := [(4, .int r18), (0, .ref (a 4)), (1, .int co), (2, .int n), (3, .int wd), (5, .int y11_5)]) hx hb dX1_strengthBehind_50 hl (by decide) rfl (fun ls hl => ?_)
          obtain ⟨z20, ez20⟩ : ∃ y : Int32, y = y11_5 + 1 := ⟨_, rfl⟩
          have iz20 : z20.toInt = y11_5.toInt + 1 := by rw [ez20]; exact addC rfl rfl (by omega) (by omega)
          refine lv_iinc (v := z20) (lv' := [(5, .int z20), (4, .int r18), (0, .ref (a 4)), (1, .int co), (2, .int n), (3, .int wd)]) hx hb dX1_strengthBehind_52 hl (k := 5) rfl (by rw [ez20]; rfl) (by decide) rfl (fun ls hl => ?_)
          refine lv_goto (tgt := 11) hx hb dX1_strengthBehind_55 (by decide) ?_
          exact ih11 r18 z20 _ (by omega) (by omega) (by omega) (by omega) (by (first | exact itf_next i11_4 (by assumption) (by omega) | (show _ = (str co.toNatClampNeg).toInt; omega) | (exfalso; omega))) (by omega) (by omega) (lv_sub hl [2, 3, 4, 5, 1, 0] rfl)
  have kc21 : (0 : Int32).toInt = 0 := rfl
  exact L11 _ x3 0 _ (by omega) (by omega) (by omega) (by omega) (by (first | (show _ = (str co.toNatClampNeg).toInt; omega) | (exfalso; omega) | exact itf_next i11_4 (by assumption) (by omega))) (by omega) (Nat.lt_succ_self _) (lv_sub hl [2, 3, 4, 5, 1, 0] rfl)
end
section
-- ===== a GHOST fades =====
def fgS (f gho ghs : Nat → Int32) (c n : Nat) (g s : Nat → Int32) : Prop :=
  (∀ j, j ≠ c → g j = gho j ∧ s j = ghs j) ∧ ((gho c = -1 ∧ g c = -1) ∨ (gho c ≠ -1 ∧ g c = -1 ∧ itf f 0 (ghs c).toInt n = 0) ∨ (gho c ≠ -1 ∧ g c = gho c ∧ 0 < itf f 0 (ghs c).toInt n ∧ (s c).toInt = itf f 0 (ghs c).toInt n))
theorem fg_init {f gho ghs : Nat → Int32} {c n : Nat} (h : gho c = -1 ∨ 0 < (ghs c).toInt) (hn : n = 0) : fgS f gho ghs c n gho ghs := by
  subst hn
  refine ⟨fun j _ => ⟨rfl, rfl⟩, ?_⟩
  by_cases q : gho c = -1
  · exact .inl ⟨q, q⟩
  · exact .inr (.inr ⟨q, rfl, by rcases h with h | h; exact absurd h q; exact h, rfl⟩)
theorem fg_pos {f gho ghs g s s' : Nat → Int32} {c n n' : Nat} {v : Int32} {z : Int} (h : fgS f gho ghs c n g s) (hg : ¬ g c = -1) (e : s' = upd s c v) (hv : v.toInt = fl f (s c).toInt z) (hz : z = 0) (h0 : 0 < v.toInt) (hn : n' = n + 1) : fgS f gho ghs c n' g s' := by
  subst e; subst hz; subst hn
  refine ⟨fun j hj => ⟨(h.1 j hj).1, by rw [pk_un hj]; exact (h.1 j hj).2⟩, ?_⟩
  rcases h.2 with q | q | q
  · exact absurd q.2 hg
  · exact absurd q.2.1 hg
  · refine .inr (.inr ⟨q.1, q.2.1, ?_, ?_⟩)
    · show 0 < fl f (itf f 0 (ghs c).toInt n) 0
      rw [← q.2.2.2, ← hv]; exact h0
    · show _ = fl f (itf f 0 (ghs c).toInt n) 0
      rw [pk_us, ← q.2.2.2, ← hv]
theorem fg_zero {f gho ghs g g' s s' : Nat → Int32} {c n n' : Nat} {v w : Int32} {z : Int} (h : fgS f gho ghs c n g s) (hg : ¬ g c = -1) (e : s' = upd s c v) (e2 : g' = upd g c w) (hw : w = -1) (hv : v.toInt = fl f (s c).toInt z) (hz : z = 0) (h0 : v.toInt = 0) (hn : n' = n + 1) : fgS f gho ghs c n' g' s' := by
  subst e; subst e2; subst hw; subst hz; subst hn
  refine ⟨fun j hj => ⟨by rw [pk_un hj]; exact (h.1 j hj).1, by rw [pk_un hj]; exact (h.1 j hj).2⟩, ?_⟩
  rcases h.2 with q | q | q
  · exact absurd q.2 hg
  · exact absurd q.2.1 hg
  · refine .inr (.inl ⟨q.1, pk_us .., ?_⟩)
    show fl f (itf f 0 (ghs c).toInt n) 0 = 0
    rw [← q.2.2.2, ← hv]; exact h0
theorem itf_stay {f : Nat → Int32} {v : Int} (hf : rg 11 0 30 f) {n : Nat} (h : itf f 0 v n = 0) : ∀ k, itf f 0 v (n + k) = 0
  | 0 => h
  | k + 1 => by show fl f (itf f 0 v (n + k)) 0 = 0; rw [itf_stay hf h k, fl_zero hf]
theorem fg_end {f gho ghs g s : Nat → Int32} {c n m : Nat} (h : fgS f gho ghs c n g s) (hf : rg 11 0 30 f) (hn : n ≤ m) (hg : g c = -1 ∨ n = m) : fgS f gho ghs c m g s := by
  rcases hg with hg | hg
  · refine ⟨h.1, ?_⟩
    rcases h.2 with q | q | q
    · exact .inl q
    · refine .inr (.inl ⟨q.1, q.2.1, ?_⟩)
      rw [show m = n + (m - n) by omega]; exact itf_stay hf q.2.2 _
    · exact absurd (q.2.1.symm.trans hg) q.1
  · subst hg; exact h
/-- what a GHOST is behind n DAYS -/
def gfd (f : Nat → Int32) (n : Nat) (a s a' s' : Int32) : Prop := (a = -1 ∧ a' = -1) ∨ (a ≠ -1 ∧ a' = -1 ∧ itf f 0 s.toInt n = 0) ∨ (a ≠ -1 ∧ a' = a ∧ 0 < itf f 0 s.toInt n ∧ s'.toInt = itf f 0 s.toInt n)
def pdS (f top cro str gho ghs : Nat → Int32) (n : Nat) (i : Int) (s g h : Nat → Int32) : Prop :=
  ∀ j : Nat, j < 48 → (i ≤ j → s j = str j ∧ g j = gho j ∧ h j = ghs j) ∧ ((j : Int) < i → (top j ≠ -1 → (s j).toInt = itf f (cro j).toInt (str j).toInt n) ∧ gfd f n (gho j) (ghs j) (g j) (h j))
theorem pd_init {f top cro str gho ghs : Nat → Int32} {n : Nat} {i : Int} (hi : i = 0) : pdS f top cro str gho ghs n i str gho ghs := fun j _ => ⟨fun _ => ⟨rfl, rfl, rfl⟩, fun q => by omega⟩
theorem pd_pre {f top cro str gho ghs s g h : Nat → Int32} {n : Nat} {y : Int32} (q : pdS f top cro str gho ghs n y.toInt s g h) (hg : ∀ j : Nat, j < 48 → gho j = -1 ∨ 0 < (ghs j).toInt) (h0 : 0 ≤ y.toInt) (h1 : y.toInt < 48) : g y.toNatClampNeg = -1 ∨ 0 < (h y.toNatClampNeg).toInt := by
  have e := clC (x := y) rfl
  have w := ((q y.toNatClampNeg (by omega)).1 (by omega)).2
  rw [w.1, w.2]; exact hg _ (by omega)
theorem pd_none {f top cro str gho ghs s g h g' h' : Nat → Int32} {n : Nat} {y : Int32} {i : Int} (q : pdS f top cro str gho ghs n y.toInt s g h) (h0 : 0 ≤ y.toInt) (h1 : y.toInt < 48) (ht : top y.toNatClampNeg = -1) (hf : fgS f g h y.toNatClampNeg n g' h') (hi : i = y.toInt + 1) : pdS f top cro str gho ghs n i s g' h' := by
  subst hi
  have e := clC (x := y) rfl
  have w := (q y.toNatClampNeg (by omega)).1 (by omega)
  intro j hj
  by_cases c : j = y.toNatClampNeg
  · subst c
    refine ⟨fun z => by omega, fun _ => ⟨fun z => absurd ht z, ?_⟩⟩
    have z := hf.2; rw [w.2.1, w.2.2] at z; exact z
  · have z := hf.1 j c
    refine ⟨fun z1 => ?_, fun z1 => ?_⟩
    · rw [z.1, z.2]; exact (q j hj).1 (by omega)
    · rw [z.1, z.2]; exact (q j hj).2 (by omega)
theorem pd_top {f top cro str gho ghs s s' g h g' h' : Nat → Int32} {n : Nat} {y v : Int32} {i : Int} (q : pdS f top cro str gho ghs n y.toInt s g h) (h0 : 0 ≤ y.toInt) (h1 : y.toInt < 48) (es : s' = upd s y.toNatClampNeg v) (hv : v.toInt = itf f (cro y.toNatClampNeg).toInt (s y.toNatClampNeg).toInt n) (hf : fgS f g h y.toNatClampNeg n g' h') (hi : i = y.toInt + 1) : pdS f top cro str gho ghs n i s' g' h' := by
  subst hi; subst es
  have e := clC (x := y) rfl
  have w := (q y.toNatClampNeg (by omega)).1 (by omega)
  intro j hj
  by_cases c : j = y.toNatClampNeg
  · subst c
    refine ⟨fun z => by omega, fun _ => ⟨fun _ => by rw [pk_us, hv, w.1], ?_⟩⟩
    have z := hf.2; rw [w.2.1, w.2.2] at z; exact z
  · have z := hf.1 j c
    refine ⟨fun z1 => ?_, fun z1 => ?_⟩
    · rw [z.1, z.2, pk_un c]; exact (q j hj).1 (by omega)
    · rw [z.1, z.2, pk_un c]; exact (q j hj).2 (by omega)
/-- days(n) -/
def dyC (mar f top str gho ghs : Nat → Int32) (tel : Int32) (n : Nat) (s g h : Nat → Int32) : Prop :=
  ∀ j : Nat, j < 48 → (top j ≠ -1 → (s j).toInt = itf f (cwF mar top tel j (j - j % 6) 6) (str j).toInt n) ∧ gfd f n (gho j) (ghs j) (g j) (h j)
theorem pd_end {mar f top cro str gho ghs s g h : Nat → Int32} {tel : Int32} {n : Nat} {i : Int} (q : pdS f top cro str gho ghs n i s g h) (hi : 48 ≤ i) (hc : ∀ j : Nat, j < 48 → (cro j).toInt = cwF mar top tel j (j - j % 6) 6) : dyC mar f top str gho ghs tel n s g h := by
  intro j hj
  have w := (q j hj).2 (by omega)
  rw [hc j hj] at w; exact w
-- ===== WALK past =====
def gn (g v : Int) : Int := (100 - v) * g / 100
def wkF (top str : Nat → Int32) (g : Int) (lo : Nat) : Nat → Int
  | 0 => 0
  | k + 1 => wkF top str g lo k + (if top (lo + k) = -1 then 0 else gn g (str (lo + k)).toInt)
def wkS (top str : Nat → Int32) (g lo i : Int) (s : Nat → Int32) (came : Int) : Prop :=
  (∀ j : Nat, j < 48 → (lo ≤ j ∧ (j : Int) < i ∧ top j ≠ -1 → (s j).toInt = (str j).toInt + gn g (str j).toInt) ∧ (¬ (lo ≤ j ∧ (j : Int) < i ∧ top j ≠ -1) → s j = str j)) ∧ came = wkF top str g lo.toNat (i - lo).toNat
theorem wk_init {top str : Nat → Int32} {g lo i c : Int} (hi : i = lo) (hc : c = 0) : wkS top str g lo i str c := by
  subst hi; subst hc
  refine ⟨fun j _ => ⟨fun q => by omega, fun _ => rfl⟩, ?_⟩
  rw [show (i - i).toNat = 0 by omega]; rfl
theorem wk_none {top str s : Nat → Int32} {g lo i c : Int} {y : Int32} (q : wkS top str g lo y.toInt s c) (h0 : 0 ≤ lo) (h1 : lo ≤ y.toInt) (h2 : y.toInt < 48) (ht : top y.toNatClampNeg = -1) (hi : i = y.toInt + 1) : wkS top str g lo i s c := by
  subst hi
  have e := clC (x := y) rfl
  refine ⟨fun j hj => ?_, ?_⟩
  · have w := q.1 j hj
    by_cases c : j = y.toNatClampNeg
    · subst c
      exact ⟨fun z => absurd ht z.2.2, fun _ => w.2 (fun z => z.2.2 ht)⟩
    · exact ⟨fun z => w.1 ⟨z.1, by omega, z.2.2⟩, fun z => w.2 (fun t => z ⟨t.1, by omega, t.2.2⟩)⟩
  · have w := q.2
    rw [show (y.toInt + 1 - lo).toNat = (y.toInt - lo).toNat + 1 by omega]
    show _ = wkF top str g lo.toNat (y.toInt - lo).toNat + (if top (lo.toNat + (y.toInt - lo).toNat) = -1 then 0 else _)
    rw [show lo.toNat + (y.toInt - lo).toNat = y.toNatClampNeg by omega, if_pos ht, ← w]; omega
theorem wk_top {top str s s' : Nat → Int32} {g lo i c c' r : Int} {y x : Int32} (q : wkS top str g lo y.toInt s c) (h0 : 0 ≤ lo) (h1 : lo ≤ y.toInt) (h2 : y.toInt < 48) (ht : ¬ top y.toNatClampNeg = -1) (es : s' = upd s y.toNatClampNeg x) (hr : r = gn g (s y.toNatClampNeg).toInt) (hx : x.toInt = (s y.toNatClampNeg).toInt + r) (hc : c' = c + r) (hi : i = y.toInt + 1) : wkS top str g lo i s' c' := by
  subst hi; subst es
  have e := clC (x := y) rfl
  have w0 := (q.1 y.toNatClampNeg (by omega)).2 (fun z => by omega)
  rw [w0] at hr hx
  refine ⟨fun j hj => ?_, ?_⟩
  · have w := q.1 j hj
    by_cases c : j = y.toNatClampNeg
    · subst c
      exact ⟨fun _ => by rw [pk_us, hx, hr], fun z => absurd ⟨by omega, by omega, ht⟩ z⟩
    · rw [pk_un c]
      exact ⟨fun z => w.1 ⟨z.1, by omega, z.2.2⟩, fun z => w.2 (fun t => z ⟨t.1, by omega, t.2.2⟩)⟩
  · have w := q.2
    rw [show (y.toInt + 1 - lo).toNat = (y.toInt - lo).toNat + 1 by omega]
    show _ = wkF top str g lo.toNat (y.toInt - lo).toNat + (if top (lo.toNat + (y.toInt - lo).toNat) = -1 then 0 else _)
    rw [show lo.toNat + (y.toInt - lo).toNat = y.toNatClampNeg by omega, if_neg ht, ← w, hc, hr]
theorem wk_end {top str s : Nat → Int32} {g lo i lo' i' c : Int} (q : wkS top str g lo i s c) (h : lo' = lo) (hi : i' = i) : wkS top str g lo' i' s c := by
  subst h; subst hi; exact q
set_option maxHeartbeats 4000000 in
set_option maxRecDepth 100000 in
theorem k_X1_fadeGhost2 (l : Launch) (dC : Nat → ClassId) (dI : Nat → Nat → Nat) (cI cZ cQ : ClassId) (a : Nat → Nat) (top : Nat → Int32) (str : Nat → Int32) (gho : Nat → Int32) (ghs : Nat → Int32) (pto : Nat → Int32) (cro : Nat → Int32) (pla : Nat → Int32) (wal : Nat → Int32) (fal : Nat → Int32) (tel : Int32) (gai : Int32) (day : Int32) (mar : Nat → Int32) (sz : Nat) (co : Int32) (n : Int32) (r_top : rg 48 (-1) (23) top) (r_str : rg 48 (0) (100) str) (r_gho : rg 48 (-1) (23) gho) (r_ghs : rg 48 (0) (100) ghs) (r_cro : rg 48 (0) (6) cro) (r_pla : rg 24 (-1) (47) pla) (r_fal : rg 11 (0) (30) fal) (r_gai : 0 ≤ gai.toInt ∧ gai.toInt ≤ 100) (r_day : 0 ≤ day.toInt ∧ day.toInt ≤ 400) (r_mar : rg 24 (0) (255) mar) (q0 : 0 ≤ co.toInt) (q1 : co.toInt ≤ 47) (q2 : 0 ≤ n.toInt) (q3 : n.toInt ≤ 60) (q4 : gho co.toNatClampNeg = -1 ∨ 0 < (ghs co.toNatClampNeg).toInt) : KV l yX1_fadeGhost wsX1_fadeGhost { frames := 2, cells := 0, slots := 0, locals := 46 } (dC, dI) (TY cI cZ cQ) (wCor cI cZ cQ a top str gho ghs pto cro pla wal fal tel gai day mar) [.ref (a 4), .int co, .int n] sz 0 0 (fun (u : US) => (fgS fal gho ghs co.toNatClampNeg n.toInt.toNat (u.1 0) (u.1 1)) ∧ (rg 48 (-1) (23) (u.1 0)) ∧ (rg 48 (0) (100) (u.1 1))) (fun u : US => (wCor cI cZ cQ a top str (u.1 0) (u.1 1) pto cro pla wal fal tel gai day mar)) := by
  refine Met.ofW (cc := cX1_fadeGhost) (maxL := 4) (ret := none) (by decide) rfl ?_
  intro p e s m args below meth c s₁ B hml hv
  obtain ⟨rfl, hsz, hP, hK, hD0, hN⟩ := hv
  have hx := B.exec
  have hb := B.bytes
  have hr := B.returns
  have hts := atoms_spec (ws := wsX1_fadeGhost) B.pre
  have hown : s.vm.findClass RX1 = some m.cls := findClass_of_methodNamed B.named
  have hlocks := B.notSynchronized
  have lf18 := hts (.fieldLink RX1 18 "PalaceOfRooms$Corners" "ghost" "[I") (List.mem_cons_of_mem _ (List.mem_append_left _ (List.mem_of_getElem? (i := 0) rfl)))
  have inX1 : ∀ w ∈ wsX10, w ∈ wsX1_fadeGhost := fun w h => List.mem_cons_of_mem _ (List.mem_append_right _ h)
  have lf21 := hts (.fieldLink RX1 21 "PalaceOfRooms$Corners" "ghostStrength" "[I") (List.mem_cons_of_mem _ (List.mem_append_left _ (List.mem_of_getElem? (i := 1) rfl)))
  subst hsz
  have hD := hD0.self (sz := s.heap.size)
  generalize hAe : va_A (wCor cI cZ cQ a top str gho ghs pto cro pla wal fal tel gai day mar) s.heap.size = A at hD ⊢
  have hA : ∀ q : Nat, s.heap.size ≤ q → A q := fun q h => by rw [← hAe]; exact Or.inr h
  have hS : va_S A s.heap s.heap [] := va_S.rf
  have hl := lv_entry ([.ref (a 4), .int co, .int n]) (n := 4) (Nat.le_of_ble_eq_true rfl)
  rw [lg_entry_eq]
  generalize (lg_sl ([.ref (a 4), .int co, .int n]) ++ List.replicate (4 - (lg_sl ([.ref (a 4), .int co, .int n])).length) Slot.unset).toArray = ls at hl ⊢
  have hl : lv_has ls 4 [(0, .ref (a 4)), (1, .int co), (2, .int n)] := hl
  refine lv_iconst (v := 0) hx hb dX1_fadeGhost_0 (by decide) ?_
  refine lv_istore_n (lv' := [(3, .int 0), (0, .ref (a 4)), (1, .int co), (2, .int n)]) hx hb dX1_fadeGhost_1 rfl hl (by decide) rfl (fun ls hl => ?_)
  have L2 : ∀ (nn : Nat) (y2_3 : Int32) (gho_2 : Nat → Int32) (ghs_2 : Nat → Int32) (H : Heap) (locs : List Loc) (ls : Array Slot), (rg 48 (-1) (23) gho_2) → (rg 48 (0) (100) ghs_2) → (0 ≤ (y2_3.toInt)) → ((y2_3.toInt) ≤ 60) → (fgS fal gho ghs co.toNatClampNeg ((y2_3.toInt)).toNat gho_2 ghs_2) → ((y2_3.toInt) ≤ n.toInt) → (60 - (y2_3.toInt)).toNat < nn → va_P (dC, dI) vwCl (wCor cI cZ cQ a top str gho_2 ghs_2 pto cro pla wal fal tel gai day mar) H → va_D A (wCor cI cZ cQ a top str gho_2 ghs_2 pto cro pla wal fal tel gai day mar) → va_S A s.heap H locs → lv_has ls 4 [(0, .ref (a 4)), (1, .int co), (2, .int n), (3, .int y2_3)] → W p l e (headSpec wsX1_fadeGhost { frames := 2, cells := 0, slots := 0, locals := 46 }).room s m ([.ref (a 4), .int co, .int n] : List Value).toArray below meth c H locs 0 0 (MQ below (va_Qv (fun (u : US) => (fgS fal gho ghs co.toNatClampNeg n.toInt.toNat (u.1 0) (u.1 1)) ∧ (rg 48 (-1) (23) (u.1 0)) ∧ (rg 48 (0) (100) (u.1 1))) (Bw (dC, dI) A (fun u : US => (wCor cI cZ cQ a top str (u.1 0) (u.1 1) pto cro pla wal fal tel gai day mar))) A) ([.ref (a 4), .int co, .int n] : List Value).toArray s 0 0 A) (F0 m 2 ls []) := by
    intro nn
    induction nn with
    | zero =>
      intro y2_3 gho_2 ghs_2 H locs ls r_gho_2 r_ghs_2 i2_0 i2_1 i2_2 i2_3 hm2
      exact absurd hm2 (Nat.not_lt_zero _)
    | succ nn ih2 =>
      intro y2_3 gho_2 ghs_2 H locs ls r_gho_2 r_ghs_2 i2_0 i2_1 i2_2 i2_3 hm2 hP hD hS hl
      refine lv_iload_n hx hb dX1_fadeGhost_2 rfl (lv_at hl 3 rfl) ?_
      refine lv_iload_n hx hb dX1_fadeGhost_3 rfl (lv_at hl 2 rfl) ?_
      refine lv_icmp_ge (tgt := 56) hx hb dX1_fadeGhost_4 (by decide) (fun c1 => ?_) (fun c1 => ?_)
      · have dc1 : n.toInt ≤ y2_3.toInt := leC rfl rfl c1
        exact W.vret hx hb hr (fun tq ht hW => ⟨⟨(uS [gho_2, ghs_2] 0 (fun _ => 0)), rfl, ⟨(show fgS fal gho ghs co.toNatClampNeg n.toInt.toNat gho_2 ghs_2 from by (first | exact fg_end i2_2 (by assumption) (by omega) (Or.inl (by assumption)) | exact fg_end i2_2 (by assumption) (by omega) (Or.inr (by omega)))), r_gho_2, r_ghs_2⟩, by rw [ht]; exact hP, hD⟩, hS.F ht⟩) hS.2.2 dX1_fadeGhost_56
      · have dc1 : y2_3.toInt < n.toInt := nleC rfl rfl c1
        refine lv_aload_n hx hb dX1_fadeGhost_7 rfl (lv_at hl 0 rfl) ?_
        refine va_get (D := (dC, dI)) (ci := 1) (v := .ref (a 7)) (C := RX1) (T := TX1) (N := 13) hx hb hts inX1 hown hK hP 0 rfl rfl 3 (by decide) lf18 (fun _ h9 => h9) rfl dX1_fadeGhost_8 ?_
        refine lv_iload_n hx hb dX1_fadeGhost_11 rfl (lv_at hl 1 rfl) ?_
        have b2 : vp_in co 48 := inC rfl (by omega) (by omega)
        refine va_iald hx hb hK hP 3 0 rfl rfl b2 dX1_fadeGhost_12 ?_
        have g3 : -1 ≤ (gho_2 co.toNatClampNeg).toInt ∧ (gho_2 co.toNatClampNeg).toInt ≤ 23 := rg_at r_gho_2 b2
        refine lv_iconst (v := (-1)) hx hb dX1_fadeGhost_13 (by decide) ?_
        refine lv_icmp_eq (tgt := 56) hx hb dX1_fadeGhost_14 (by decide) (fun c4 => ?_) (fun c4 => ?_)
        · have dc4 : (gho_2 co.toNatClampNeg).toInt = (-1) := eqC rfl (show ((-1) : Int32).toInt = (-1) from rfl) c4
          exact W.vret hx hb hr (fun tq ht hW => ⟨⟨(uS [gho_2, ghs_2] 0 (fun _ => 0)), rfl, ⟨(show fgS fal gho ghs co.toNatClampNeg n.toInt.toNat gho_2 ghs_2 from by (first | exact fg_end i2_2 (by assumption) (by omega) (Or.inl (by assumption)) | exact fg_end i2_2 (by assumption) (by omega) (Or.inr (by omega)))), r_gho_2, r_ghs_2⟩, by rw [ht]; exact hP, hD⟩, hS.F ht⟩) hS.2.2 dX1_fadeGhost_56
        · have dc4 : 0 ≤ (gho_2 co.toNatClampNeg).toInt := ka_lo (by omega) (neC rfl (show ((-1) : Int32).toInt = (-1) from rfl) c4)
          refine lv_aload_n hx hb dX1_fadeGhost_17 rfl (lv_at hl 0 rfl) ?_
          refine va_get (D := (dC, dI)) (ci := 1) (v := .ref (a 8)) (C := RX1) (T := TX1) (N := 13) hx hb hts inX1 hown hK hP 0 rfl rfl 4 (by decide) lf21 (fun _ h9 => h9) rfl dX1_fadeGhost_18 ?_
          refine lv_iload_n hx hb dX1_fadeGhost_21 rfl (lv_at hl 1 rfl) ?_
          refine lv_aload_n hx hb dX1_fadeGhost_22 rfl (lv_at hl 0 rfl) ?_
          refine lv_aload_n hx hb dX1_fadeGhost_23 rfl (lv_at hl 0 rfl) ?_
          refine va_get (D := (dC, dI)) (ci := 1) (v := .ref (a 8)) (C := RX1) (T := TX1) (N := 13) hx hb hts inX1 hown hK hP 0 rfl rfl 4 (by decide) lf21 (fun _ h9 => h9) rfl dX1_fadeGhost_24 ?_
          refine lv_iload_n hx hb dX1_fadeGhost_27 rfl (lv_at hl 1 rfl) ?_
          have b5 : vp_in co 48 := inC rfl (by omega) (by omega)
          refine va_iald hx hb hK hP 4 0 rfl rfl b5 dX1_fadeGhost_28 ?_
          have g6 : 0 ≤ (ghs_2 co.toNatClampNeg).toInt ∧ (ghs_2 co.toNatClampNeg).toInt ≤ 100 := rg_at r_ghs_2 b5
          refine lv_iconst (v := 0) hx hb dX1_fadeGhost_29 (by decide) ?_
          have kc0 : (0 : Int32).toInt = 0 := rfl
          refine rdV (As := [.int (ghs_2 co.toNatClampNeg), .int 0]) (rest := [.int co, .ref (a 8)]) ⟨hx, hb, hml, hown, hts⟩ (k_X1_fallen2 l dC dI cI cZ cQ a top str gho_2 ghs_2 pto cro pla wal fal tel gai day mar (ghs_2 co.toNatClampNeg) (0 : Int32) r_top r_str r_gho_2 r_ghs_2 r_cro r_pla r_fal r_gai r_day r_mar (by omega) (by omega) (by omega) (by omega)) (cwV 2 hts gX1_fadeGhost_X1_fallen rfl rfl rfl (by decide +kernel) ⟨Nat.le_of_ble_eq_true rfl, Nat.le_of_ble_eq_true rfl⟩) hP hK hN [0, 1, 2, 3, 4, 5, 6, 7, 8, 9, 10, 11] rfl 0 1 rfl rfl rfl hl.1 rfl (Nat.le_of_ble_eq_true rfl) dX1_fadeGhost_30 ⟨Nat.le_of_ble_eq_true rfl, Nat.le_of_ble_eq_true rfl⟩ (fun r7 h8 => ?_)
          have h8 : (0 ≤ r7.toInt) ∧ (r7.toInt ≤ (ghs_2 co.toNatClampNeg).toInt) ∧ (r7.toInt ≤ 100) ∧ (r7.toInt = fl fal (ghs_2 co.toNatClampNeg).toInt (0)) := h8
          obtain ⟨h8_0, h8_1, h8_2, h8_3⟩ := h8
          have b9 : vp_in co 48 := inC rfl (by omega) (by omega)
          have g10 : rg 48 (0) (100) (upd ghs_2 co.toNatClampNeg r7) := rg_upd r_ghs_2 rfl (by omega) (by omega)
          refine va_iast hx hb hK hP hD hS 4 0 rfl rfl b9 dX1_fadeGhost_33 (fun H locs hP hD hS => ?_)
          obtain ⟨ghs_u11, eghs_u11⟩ : ∃ f : Nat → Int32, f = upd ghs_2 co.toNatClampNeg r7 := ⟨_, rfl⟩
          have rghs_u11 : rg 48 (0) (100) ghs_u11 := by rw [eghs_u11]; exact g10
          have hP : va_P (dC, dI) vwCl (wCor cI cZ cQ a top str gho_2 ghs_u11 pto cro pla wal fal tel gai day mar) H := by rw [eghs_u11]; exact hP
          have hD : va_D A (wCor cI cZ cQ a top str gho_2 ghs_u11 pto cro pla wal fal tel gai day mar) := by rw [eghs_u11]; exact hD
          refine lv_aload_n hx hb dX1_fadeGhost_34 rfl (lv_at hl 0 rfl) ?_
          refine va_get (D := (dC, dI)) (ci := 1) (v := .ref (a 8)) (C := RX1) (T := TX1) (N := 13) hx hb hts inX1 hown hK hP 0 rfl rfl 4 (by decide) lf21 (fun _ h9 => h9) rfl dX1_fadeGhost_35 ?_
          refine lv_iload_n hx hb dX1_fadeGhost_38 rfl (lv_at hl 1 rfl) ?_
          have b12 : vp_in co 48 := inC rfl (by omega) (by omega)
          refine va_iald hx hb hK hP 4 0 rfl rfl b12 dX1_fadeGhost_39 ?_
          have g13 : 0 ≤ (ghs_u11 co.toNatClampNeg).toInt ∧ (ghs_u11 co.toNatClampNeg).toInt ≤ 100 := rg_at rghs_u11 b12
          have o14 : (ghs_u11 co.toNatClampNeg).toInt = r7.toInt := by rw [eghs_u11, pk_us]
          refine lv_if_ne (tgt := 50) hx hb dX1_fadeGhost_40 (by decide) (fun c15 => ?_) (fun c15 => ?_)
          · have dc15 : 1 ≤ (ghs_u11 co.toNatClampNeg).toInt := ka_lo (by omega) (neC rfl (show (0 : Int32).toInt = 0 from rfl) c15)
            obtain ⟨z16, ez16⟩ : ∃ y : Int32, y = y2_3 + 1 := ⟨_, rfl⟩
            have iz16 : z16.toInt = y2_3.toInt + 1 := by rw [ez16]; exact addC rfl rfl (by omega) (by omega)
            refine lv_iinc (v := z16) (lv' := [(3, .int z16), (0, .ref (a 4)), (1, .int co), (2, .int n)]) hx hb dX1_fadeGhost_50 hl (k := 3) rfl (by rw [ez16]; rfl) (by decide) rfl (fun ls hl => ?_)
            refine lv_goto (tgt := 2) hx hb dX1_fadeGhost_53 (by decide) ?_
            exact ih2 z16 gho_2 ghs_u11 _ _ _ r_gho_2 rghs_u11 (by omega) (by omega) (by (first | exact fg_pos i2_2 (by assumption) (by assumption) (by assumption) (by rfl) (by omega) (by omega) | exact fg_zero i2_2 (by assumption) (by assumption) (by assumption) (by rfl) (by assumption) (by rfl) (by omega) (by omega) | exact fg_init (by assumption) (by omega))) (by omega) (by omega) hP hD hS (lv_sub hl [1, 2, 3, 0] rfl)
          · have dc15 : (ghs_u11 co.toNatClampNeg).toInt = 0 := eqC rfl (show (0 : Int32).toInt = 0 from rfl) c15
            refine lv_aload_n hx hb dX1_fadeGhost_43 rfl (lv_at hl 0 rfl) ?_
            refine va_get (D := (dC, dI)) (ci := 1) (v := .ref (a 7)) (C := RX1) (T := TX1) (N := 13) hx hb hts inX1 hown hK hP 0 rfl rfl 3 (by decide) lf18 (fun _ h9 => h9) rfl dX1_fadeGhost_44 ?_
            refine lv_iload_n hx hb dX1_fadeGhost_47 rfl (lv_at hl 1 rfl) ?_
            refine lv_iconst (v := (-1)) hx hb dX1_fadeGhost_48 (by decide) ?_
            have b17 : vp_in co 48 := inC rfl (by omega) (by omega)
            have g18 : rg 48 (-1) (23) (upd gho_2 co.toNatClampNeg (-1)) := rg_upd r_gho_2 (show ((-1) : Int32).toInt = (-1) from rfl) (by omega) (by omega)
            refine va_iast hx hb hK hP hD hS 3 0 rfl rfl b17 dX1_fadeGhost_49 (fun H locs hP hD hS => ?_)
            obtain ⟨gho_u19, egho_u19⟩ : ∃ f : Nat → Int32, f = upd gho_2 co.toNatClampNeg (-1) := ⟨_, rfl⟩
            have rgho_u19 : rg 48 (-1) (23) gho_u19 := by rw [egho_u19]; exact g18
            have hP : va_P (dC, dI) vwCl (wCor cI cZ cQ a top str gho_u19 ghs_u11 pto cro pla wal fal tel gai day mar) H := by rw [egho_u19]; exact hP
            have hD : va_D A (wCor cI cZ cQ a top str gho_u19 ghs_u11 pto cro pla wal fal tel gai day mar) := by rw [egho_u19]; exact hD
            obtain ⟨z20, ez20⟩ : ∃ y : Int32, y = y2_3 + 1 := ⟨_, rfl⟩
            have iz20 : z20.toInt = y2_3.toInt + 1 := by rw [ez20]; exact addC rfl rfl (by omega) (by omega)
            refine lv_iinc (v := z20) (lv' := [(3, .int z20), (0, .ref (a 4)), (1, .int co), (2, .int n)]) hx hb dX1_fadeGhost_50 hl (k := 3) rfl (by rw [ez20]; rfl) (by decide) rfl (fun ls hl => ?_)
            refine lv_goto (tgt := 2) hx hb dX1_fadeGhost_53 (by decide) ?_
            exact ih2 z20 gho_u19 ghs_u11 _ _ _ rgho_u19 rghs_u11 (by omega) (by omega) (by (first | exact fg_pos i2_2 (by assumption) (by assumption) (by assumption) (by rfl) (by omega) (by omega) | exact fg_zero i2_2 (by assumption) (by assumption) (by assumption) (by rfl) (by assumption) (by rfl) (by omega) (by omega) | exact fg_init (by assumption) (by omega))) (by omega) (by omega) hP hD hS (lv_sub hl [1, 2, 3, 0] rfl)
  have kc21 : (0 : Int32).toInt = 0 := rfl
  exact L2 _ 0 gho ghs _ _ _ r_gho r_ghs (by omega) (by omega) (by (first | exact fg_init (by assumption) (by omega) | exact fg_pos i2_2 (by assumption) (by assumption) (by assumption) (by rfl) (by omega) (by omega) | exact fg_zero i2_2 (by assumption) (by assumption) (by assumption) (by rfl) (by assumption) (by rfl) (by omega) (by omega))) (by omega) (Nat.lt_succ_self _) hP hD hS (lv_sub hl [1, 2, 3, 0] rfl)
set_option maxHeartbeats 4000000 in
set_option maxRecDepth 100000 in
theorem k_X1_passDays2 (l : Launch) (dC : Nat → ClassId) (dI : Nat → Nat → Nat) (cI cZ cQ : ClassId) (a : Nat → Nat) (top : Nat → Int32) (str : Nat → Int32) (gho : Nat → Int32) (ghs : Nat → Int32) (pto : Nat → Int32) (cro : Nat → Int32) (pla : Nat → Int32) (wal : Nat → Int32) (fal : Nat → Int32) (tel : Int32) (gai : Int32) (day : Int32) (mar : Nat → Int32) (sz : Nat) (n : Int32) (r_top : rg 48 (-1) (23) top) (r_str : rg 48 (0) (100) str) (r_gho : rg 48 (-1) (23) gho) (r_ghs : rg 48 (0) (100) ghs) (r_cro : rg 48 (0) (6) cro) (r_pla : rg 24 (-1) (47) pla) (r_fal : rg 11 (0) (30) fal) (r_gai : 0 ≤ gai.toInt ∧ gai.toInt ≤ 100) (r_day : 0 ≤ day.toInt ∧ day.toInt ≤ 400) (r_mar : rg 24 (0) (255) mar) (q0 : 1 ≤ n.toInt) (q1 : n.toInt ≤ 60) (q2 : day.toInt + n.toInt ≤ 400) (q3 : ∀ j : Nat, j < 48 → gho j = -1 ∨ 0 < (ghs j).toInt) : KV l yX1_passDays wsX1_passDays { frames := 5, cells := 0, slots := 0, locals := 109 } (dC, dI) (TY cI cZ cQ) (wCor cI cZ cQ a top str gho ghs pto cro pla wal fal tel gai day mar) [.ref (a 4), .int n] sz 0 0 (fun (u : US) => ((u.1 4 0) = day + n) ∧ (dyC mar fal top str gho ghs tel n.toInt.toNat (u.1 0) (u.1 1) (u.1 2)) ∧ (rg 48 (0) (100) (u.1 0)) ∧ (rg 48 (-1) (23) (u.1 1)) ∧ (rg 48 (0) (100) (u.1 2)) ∧ (rg 48 (0) (6) (u.1 3)) ∧ (0 ≤ (u.1 4 0).toInt ∧ (u.1 4 0).toInt ≤ 400)) (fun u : US => (wCor cI cZ cQ a top (u.1 0) (u.1 1) (u.1 2) pto (u.1 3) pla wal fal tel gai (u.1 4 0) mar)) := by
  refine Met.ofW (cc := cX1_passDays) (maxL := 3) (ret := none) (by decide) rfl ?_
  intro p e s m args below meth c s₁ B hml hv
  obtain ⟨rfl, hsz, hP, hK, hD0, hN⟩ := hv
  have hx := B.exec
  have hb := B.bytes
  have hr := B.returns
  have hts := atoms_spec (ws := wsX1_passDays) B.pre
  have hown : s.vm.findClass RX1 = some m.cls := findClass_of_methodNamed B.named
  have hlocks := B.notSynchronized
  have lf62 := hts (.fieldLink RX1 62 "PalaceOfRooms$Corners" "day" "I") (List.mem_cons_of_mem _ (List.mem_append_left _ (List.mem_append_left _ (List.mem_append_left _ (List.mem_of_getElem? (i := 2) rfl)))))
  have inX1 : ∀ w ∈ wsX10, w ∈ wsX1_passDays := fun w h => List.mem_cons_of_mem _ (List.mem_append_left _ (List.mem_append_right _ h))
  have lf9 := hts (.fieldLink RX1 9 "PalaceOfRooms$Corners" "top" "[I") (List.mem_cons_of_mem _ (List.mem_append_left _ (List.mem_append_left _ (List.mem_append_left _ (List.mem_of_getElem? (i := 0) rfl)))))
  have lf15 := hts (.fieldLink RX1 15 "PalaceOfRooms$Corners" "strength" "[I") (List.mem_cons_of_mem _ (List.mem_append_left _ (List.mem_append_left _ (List.mem_append_left _ (List.mem_of_getElem? (i := 1) rfl)))))
  subst hsz
  have hD := hD0.self (sz := s.heap.size)
  generalize hAe : va_A (wCor cI cZ cQ a top str gho ghs pto cro pla wal fal tel gai day mar) s.heap.size = A at hD ⊢
  have hA : ∀ q : Nat, s.heap.size ≤ q → A q := fun q h => by rw [← hAe]; exact Or.inr h
  have hS : va_S A s.heap s.heap [] := va_S.rf
  have hl := lv_entry ([.ref (a 4), .int n]) (n := 3) (Nat.le_of_ble_eq_true rfl)
  rw [lg_entry_eq]
  generalize (lg_sl ([.ref (a 4), .int n]) ++ List.replicate (3 - (lg_sl ([.ref (a 4), .int n])).length) Slot.unset).toArray = ls at hl ⊢
  have hl : lv_has ls 3 [(0, .ref (a 4)), (1, .int n)] := hl
  refine lv_aload_n hx hb dX1_passDays_0 rfl (lv_at hl 0 rfl) ?_
  refine wvV (As := []) (rest := []) (wr := []) (w2 := (fun u : US => (wCor cI cZ cQ a top str gho ghs pto (u.1 0) pla wal fal tel gai day mar))) ⟨hx, hb, hml, hown, hts⟩ (k_X1_countCrowds2 l dC dI cI cZ cQ a top str gho ghs pto cro pla wal fal tel gai day mar _ r_top r_str r_gho r_ghs r_cro r_pla r_fal r_gai r_day r_mar) (cwV 0 hts gX1_passDays_X1_countCrowds rfl rfl rfl (by decide +kernel) ⟨Nat.le_of_ble_eq_true rfl, Nat.le_of_ble_eq_true rfl⟩) hP hD hS hA hK hN [0, 1, 2, 3, 4, 5, 6, 7, 8, 9, 10, 11] [] [0, 1, 2, 3, 4, 5, 6, 7, 8, 9, 10, 11] rfl rfl (by decide) (by decide) (by decide) (fun _ => rfl) (by decide) 0 1 rfl rfl rfl hl.1 rfl (Nat.le_of_ble_eq_true rfl) dX1_passDays_1 ⟨Nat.le_of_ble_eq_true rfl, Nat.le_of_ble_eq_true rfl⟩ (fun u3 H locs h2 hP hD hS => ?_)
  obtain ⟨cro_c4, ecro_c4⟩ : ∃ f : Nat → Int32, f = (u3.1 0) := ⟨_, rfl⟩
  have hP : va_P (dC, dI) vwCl (wCor cI cZ cQ a top str gho ghs pto cro_c4 pla wal fal tel gai day mar) H := by rw [ecro_c4]; exact hP
  have hD : va_D A (wCor cI cZ cQ a top str gho ghs pto cro_c4 pla wal fal tel gai day mar) := by rw [ecro_c4]; exact hD
  have h2 : (∀ j : Nat, j < 48 → (cro_c4 j).toInt = cwF mar top tel j (j - j % 6) 6) ∧ (rg 48 (0) (6) cro_c4) := by (try rw [ecro_c4]); exact h2
  obtain ⟨h2_0, h2_1⟩ := h2
  refine lv_iconst (v := 0) hx hb dX1_passDays_4 (by decide) ?_
  refine lv_istore_n (lv' := [(2, .int 0), (0, .ref (a 4)), (1, .int n)]) hx hb dX1_passDays_5 rfl hl (by decide) rfl (fun ls hl => ?_)
  have L6 : ∀ (nn : Nat) (y6_2 : Int32) (str_6 : Nat → Int32) (gho_6 : Nat → Int32) (ghs_6 : Nat → Int32) (H : Heap) (locs : List Loc) (ls : Array Slot), (rg 48 (0) (100) str_6) → (rg 48 (-1) (23) gho_6) → (rg 48 (0) (100) ghs_6) → (0 ≤ (y6_2.toInt)) → ((y6_2.toInt) ≤ 48) → (pdS fal top cro_c4 str gho ghs n.toInt.toNat (y6_2.toInt) str_6 gho_6 ghs_6) → (48 - (y6_2.toInt)).toNat < nn → va_P (dC, dI) vwCl (wCor cI cZ cQ a top str_6 gho_6 ghs_6 pto cro_c4 pla wal fal tel gai day mar) H → va_D A (wCor cI cZ cQ a top str_6 gho_6 ghs_6 pto cro_c4 pla wal fal tel gai day mar) → va_S A s.heap H locs → lv_has ls 3 [(0, .ref (a 4)), (1, .int n), (2, .int y6_2)] → W p l e (headSpec wsX1_passDays { frames := 5, cells := 0, slots := 0, locals := 109 }).room s m ([.ref (a 4), .int n] : List Value).toArray below meth c H locs 0 0 (MQ below (va_Qv (fun (u : US) => ((u.1 4 0) = day + n) ∧ (dyC mar fal top str gho ghs tel n.toInt.toNat (u.1 0) (u.1 1) (u.1 2)) ∧ (rg 48 (0) (100) (u.1 0)) ∧ (rg 48 (-1) (23) (u.1 1)) ∧ (rg 48 (0) (100) (u.1 2)) ∧ (rg 48 (0) (6) (u.1 3)) ∧ (0 ≤ (u.1 4 0).toInt ∧ (u.1 4 0).toInt ≤ 400)) (Bw (dC, dI) A (fun u : US => (wCor cI cZ cQ a top (u.1 0) (u.1 1) (u.1 2) pto (u.1 3) pla wal fal tel gai (u.1 4 0) mar))) A) ([.ref (a 4), .int n] : List Value).toArray s 0 0 A) (F0 m 6 ls []) := by
    intro nn
    induction nn with
    | zero =>
      intro y6_2 str_6 gho_6 ghs_6 H locs ls r_str_6 r_gho_6 r_ghs_6 i6_0 i6_1 i6_2 hm6
      exact absurd hm6 (Nat.not_lt_zero _)
    | succ nn ih6 =>
      intro y6_2 str_6 gho_6 ghs_6 H locs ls r_str_6 r_gho_6 r_ghs_6 i6_0 i6_1 i6_2 hm6 hP hD hS hl
      refine lv_iload_n hx hb dX1_passDays_6 rfl (lv_at hl 2 rfl) ?_
      refine lv_bipush (v := 48) hx hb dX1_passDays_7 (by decide) ?_
      refine lv_icmp_ge (tgt := 47) hx hb dX1_passDays_9 (by decide) (fun c5 => ?_) (fun c5 => ?_)
      · have dc5 : 48 ≤ y6_2.toInt := leC (show (48 : Int32).toInt = 48 from rfl) rfl c5
        refine lv_aload_n hx hb dX1_passDays_47 rfl (lv_at hl 0 rfl) ?_
        refine lv_dup hx hb dX1_passDays_48 rfl ?_
        refine va_get (D := (dC, dI)) (ci := 1) (v := .int day) (C := RX1) (T := TX1) (N := 13) hx hb hts inX1 hown hK hP 0 rfl rfl 12 (by decide) lf62 (fun _ h9 => h9) rfl dX1_passDays_49 ?_
        refine lv_iload_n hx hb dX1_passDays_52 rfl (lv_at hl 1 rfl) ?_
        refine lv_iadd hx hb dX1_passDays_53 ?_
        have f6 : (day + n).toInt = (day.toInt) + (n.toInt) := addC rfl rfl (by omega) (by omega)
        refine lv_topi (fun x7 ex7 => ?_)
        have ix7 : x7.toInt = (day.toInt) + (n.toInt) := by rw [ex7]; exact f6
        refine va_put (D := (dC, dI)) (ci := 1) (v := .int x7) (ty := .int) (C := RX1) (T := TX1) (N := 13) hx hb hts inX1 tyX1 tyX1_ok nmX1 hown hK hP hD hS 0 rfl rfl 12 (by decide) lf62 (fun _ h9 => h9) rfl (by decide +kernel) rfl rfl (Nat.le_of_ble_eq_true rfl) dX1_passDays_54 (fun H locs hP hD hS => ?_)
        have g8 : 0 ≤ x7.toInt ∧ x7.toInt ≤ 400 := by rw [show x7.toInt = x7.toInt from rfl]; exact ⟨by omega, by omega⟩
        have hP : va_P (dC, dI) vwCl (wCor cI cZ cQ a top str_6 gho_6 ghs_6 pto cro_c4 pla wal fal tel gai x7 mar) H := hP
        have hD : va_D A (wCor cI cZ cQ a top str_6 gho_6 ghs_6 pto cro_c4 pla wal fal tel gai x7 mar) := hD
        exact W.vret hx hb hr (fun tq ht hW => ⟨⟨(uS [str_6, gho_6, ghs_6, cro_c4, (fun _ => x7)] 0 (fun _ => 0)), rfl, ⟨(show x7 = day + n from by (subst_vars; rfl)), (show dyC mar fal top str gho ghs tel n.toInt.toNat str_6 gho_6 ghs_6 from by exact pd_end i6_2 (by omega) (by assumption)), r_str_6, r_gho_6, r_ghs_6, h2_1, g8⟩, by rw [ht]; exact hP, hD⟩, hS.F ht⟩) hS.2.2 dX1_passDays_57
      · have dc5 : y6_2.toInt < 48 := nleC (show (48 : Int32).toInt = 48 from rfl) rfl c5
        refine lv_aload_n hx hb dX1_passDays_12 rfl (lv_at hl 0 rfl) ?_
        refine va_get (D := (dC, dI)) (ci := 1) (v := .ref (a 5)) (C := RX1) (T := TX1) (N := 13) hx hb hts inX1 hown hK hP 0 rfl rfl 1 (by decide) lf9 (fun _ h9 => h9) rfl dX1_passDays_13 ?_
        refine lv_iload_n hx hb dX1_passDays_16 rfl (lv_at hl 2 rfl) ?_
        have b9 : vp_in y6_2 48 := inC rfl (by omega) (by omega)
        refine va_iald hx hb hK hP 1 0 rfl rfl b9 dX1_passDays_17 ?_
        have g10 : -1 ≤ (top y6_2.toNatClampNeg).toInt ∧ (top y6_2.toNatClampNeg).toInt ≤ 23 := rg_at r_top b9
        refine lv_iconst (v := (-1)) hx hb dX1_passDays_18 (by decide) ?_
        refine lv_icmp_eq (tgt := 35) hx hb dX1_passDays_19 (by decide) (fun c11 => ?_) (fun c11 => ?_)
        · have dc11 : (top y6_2.toNatClampNeg).toInt = (-1) := eqC rfl (show ((-1) : Int32).toInt = (-1) from rfl) c11
          refine lv_aload_n hx hb dX1_passDays_35 rfl (lv_at hl 0 rfl) ?_
          refine lv_iload_n hx hb dX1_passDays_36 rfl (lv_at hl 2 rfl) ?_
          refine lv_iload_n hx hb dX1_passDays_37 rfl (lv_at hl 1 rfl) ?_
          refine wvV (As := [.int y6_2, .int n]) (rest := []) (wr := []) (w2 := (fun u : US => (wCor cI cZ cQ a top str_6 (u.1 0) (u.1 1) pto cro_c4 pla wal fal tel gai day mar))) ⟨hx, hb, hml, hown, hts⟩ (k_X1_fadeGhost2 l dC dI cI cZ cQ a top str_6 gho_6 ghs_6 pto cro_c4 pla wal fal tel gai day mar _ y6_2 n r_top r_str_6 r_gho_6 r_ghs_6 h2_1 r_pla r_fal r_gai r_day r_mar (by omega) (by omega) (by omega) (by omega) (by exact pd_pre i6_2 (by assumption) (by omega) (by omega))) (cwV 2 hts gX1_passDays_X1_fadeGhost rfl rfl rfl (by decide +kernel) ⟨Nat.le_of_ble_eq_true rfl, Nat.le_of_ble_eq_true rfl⟩) hP hD hS hA hK hN [0, 1, 2, 3, 4, 5, 6, 7, 8, 9, 10, 11] [] [0, 1, 2, 3, 4, 5, 6, 7, 8, 9, 10, 11] rfl rfl (by decide) (by decide) (by decide) (fun _ => rfl) (by decide) 0 1 rfl rfl rfl hl.1 rfl (Nat.le_of_ble_eq_true rfl) dX1_passDays_38 ⟨Nat.le_of_ble_eq_true rfl, Nat.le_of_ble_eq_true rfl⟩ (fun u14 H locs h13 hP hD hS => ?_)
          obtain ⟨gho_c15, egho_c15⟩ : ∃ f : Nat → Int32, f = (u14.1 0) := ⟨_, rfl⟩
          obtain ⟨ghs_c16, eghs_c16⟩ : ∃ f : Nat → Int32, f = (u14.1 1) := ⟨_, rfl⟩
          have hP : va_P (dC, dI) vwCl (wCor cI cZ cQ a top str_6 gho_c15 ghs_c16 pto cro_c4 pla wal fal tel gai day mar) H := by rw [egho_c15, eghs_c16]; exact hP
          have hD : va_D A (wCor cI cZ cQ a top str_6 gho_c15 ghs_c16 pto cro_c4 pla wal fal tel gai day mar) := by rw [egho_c15, eghs_c16]; exact hD
          have h13 : (fgS fal gho_6 ghs_6 y6_2.toNatClampNeg n.toInt.toNat gho_c15 ghs_c16) ∧ (rg 48 (-1) (23) gho_c15) ∧ (rg 48 (0) (100) ghs_c16) := by (try rw [egho_c15]); (try rw [eghs_c16]); exact h13
          obtain ⟨h13_0, h13_1, h13_2⟩ := h13
          obtain ⟨z17, ez17⟩ : ∃ y : Int32, y = y6_2 + 1 := ⟨_, rfl⟩
          have iz17 : z17.toInt = y6_2.toInt + 1 := by rw [ez17]; exact addC rfl rfl (by omega) (by omega)
          refine lv_iinc (v := z17) (lv' := [(2, .int z17), (0, .ref (a 4)), (1, .int n)]) hx hb dX1_passDays_41 hl (k := 2) rfl (by rw [ez17]; rfl) (by decide) rfl (fun ls hl => ?_)
          refine lv_goto (tgt := 6) hx hb dX1_passDays_44 (by decide) ?_
          exact ih6 z17 str_6 gho_c15 ghs_c16 _ _ _ r_str_6 h13_1 h13_2 (by omega) (by omega) (by (first | exact pd_none i6_2 (by omega) (by omega) (by assumption) (by assumption) (by omega) | exact pd_top i6_2 (by omega) (by omega) (by assumption) (by assumption) (by assumption) (by omega) | exact pd_init (by first | rfl | omega))) (by omega) hP hD hS (lv_sub hl [1, 2, 0] rfl)
        · have dc11 : 0 ≤ (top y6_2.toNatClampNeg).toInt := ka_lo (by omega) (neC rfl (show ((-1) : Int32).toInt = (-1) from rfl) c11)
          refine lv_aload_n hx hb dX1_passDays_22 rfl (lv_at hl 0 rfl) ?_
          refine va_get (D := (dC, dI)) (ci := 1) (v := .ref (a 6)) (C := RX1) (T := TX1) (N := 13) hx hb hts inX1 hown hK hP 0 rfl rfl 2 (by decide) lf15 (fun _ h9 => h9) rfl dX1_passDays_23 ?_
          refine lv_iload_n hx hb dX1_passDays_26 rfl (lv_at hl 2 rfl) ?_
          refine lv_aload_n hx hb dX1_passDays_27 rfl (lv_at hl 0 rfl) ?_
          refine lv_iload_n hx hb dX1_passDays_28 rfl (lv_at hl 2 rfl) ?_
          refine lv_iload_n hx hb dX1_passDays_29 rfl (lv_at hl 1 rfl) ?_
          refine lv_iconst (v := 0) hx hb dX1_passDays_30 (by decide) ?_
          have kc0 : (0 : Int32).toInt = 0 := rfl
          refine rdV (As := [.int y6_2, .int n, .int 0]) (rest := [.int y6_2, .ref (a 6)]) ⟨hx, hb, hml, hown, hts⟩ (k_X1_strengthBehind2 l dC dI cI cZ cQ a top str_6 gho_6 ghs_6 pto cro_c4 pla wal fal tel gai day mar y6_2 n (0 : Int32) r_top r_str_6 r_gho_6 r_ghs_6 h2_1 r_pla r_fal r_gai r_day r_mar (by omega) (by omega) (by omega) (by omega) (by rfl)) (cwV 3 hts gX1_passDays_X1_strengthBehind rfl rfl rfl (by decide +kernel) ⟨Nat.le_of_ble_eq_true rfl, Nat.le_of_ble_eq_true rfl⟩) hP hK hN [0, 1, 2, 3, 4, 5, 6, 7, 8, 9, 10, 11] rfl 0 1 rfl rfl rfl hl.1 rfl (Nat.le_of_ble_eq_true rfl) dX1_passDays_31 ⟨Nat.le_of_ble_eq_true rfl, Nat.le_of_ble_eq_true rfl⟩ (fun r18 h19 => ?_)
          have h19 : (0 ≤ r18.toInt) ∧ (r18.toInt ≤ 100) ∧ (r18.toInt = itf fal (cro_c4 y6_2.toNatClampNeg).toInt (str_6 y6_2.toNatClampNeg).toInt n.toInt.toNat) := h19
          obtain ⟨h19_0, h19_1, h19_2⟩ := h19
          have b20 : vp_in y6_2 48 := inC rfl (by omega) (by omega)
          have g21 : rg 48 (0) (100) (upd str_6 y6_2.toNatClampNeg r18) := rg_upd r_str_6 rfl (by omega) (by omega)
          refine va_iast hx hb hK hP hD hS 2 0 rfl rfl b20 dX1_passDays_34 (fun H locs hP hD hS => ?_)
          obtain ⟨str_u22, estr_u22⟩ : ∃ f : Nat → Int32, f = upd str_6 y6_2.toNatClampNeg r18 := ⟨_, rfl⟩
          have rstr_u22 : rg 48 (0) (100) str_u22 := by rw [estr_u22]; exact g21
          have hP : va_P (dC, dI) vwCl (wCor cI cZ cQ a top str_u22 gho_6 ghs_6 pto cro_c4 pla wal fal tel gai day mar) H := by rw [estr_u22]; exact hP
          have hD : va_D A (wCor cI cZ cQ a top str_u22 gho_6 ghs_6 pto cro_c4 pla wal fal tel gai day mar) := by rw [estr_u22]; exact hD
          refine lv_aload_n hx hb dX1_passDays_35 rfl (lv_at hl 0 rfl) ?_
          refine lv_iload_n hx hb dX1_passDays_36 rfl (lv_at hl 2 rfl) ?_
          refine lv_iload_n hx hb dX1_passDays_37 rfl (lv_at hl 1 rfl) ?_
          refine wvV (As := [.int y6_2, .int n]) (rest := []) (wr := []) (w2 := (fun u : US => (wCor cI cZ cQ a top str_u22 (u.1 0) (u.1 1) pto cro_c4 pla wal fal tel gai day mar))) ⟨hx, hb, hml, hown, hts⟩ (k_X1_fadeGhost2 l dC dI cI cZ cQ a top str_u22 gho_6 ghs_6 pto cro_c4 pla wal fal tel gai day mar _ y6_2 n r_top rstr_u22 r_gho_6 r_ghs_6 h2_1 r_pla r_fal r_gai r_day r_mar (by omega) (by omega) (by omega) (by omega) (by exact pd_pre i6_2 (by assumption) (by omega) (by omega))) (cwV 2 hts gX1_passDays_X1_fadeGhost rfl rfl rfl (by decide +kernel) ⟨Nat.le_of_ble_eq_true rfl, Nat.le_of_ble_eq_true rfl⟩) hP hD hS hA hK hN [0, 1, 2, 3, 4, 5, 6, 7, 8, 9, 10, 11] [] [0, 1, 2, 3, 4, 5, 6, 7, 8, 9, 10, 11] rfl rfl (by decide) (by decide) (by decide) (fun _ => rfl) (by decide) 0 1 rfl rfl rfl hl.1 rfl (Nat.le_of_ble_eq_true rfl) dX1_passDays_38 ⟨Nat.le_of_ble_eq_true rfl, Nat.le_of_ble_eq_true rfl⟩ (fun u25 H locs h24 hP hD hS => ?_)
          obtain ⟨gho_c26, egho_c26⟩ : ∃ f : Nat → Int32, f = (u25.1 0) := ⟨_, rfl⟩
          obtain ⟨ghs_c27, eghs_c27⟩ : ∃ f : Nat → Int32, f = (u25.1 1) := ⟨_, rfl⟩
          have hP : va_P (dC, dI) vwCl (wCor cI cZ cQ a top str_u22 gho_c26 ghs_c27 pto cro_c4 pla wal fal tel gai day mar) H := by rw [egho_c26, eghs_c27]; exact hP
          have hD : va_D A (wCor cI cZ cQ a top str_u22 gho_c26 ghs_c27 pto cro_c4 pla wal fal tel gai day mar) := by rw [egho_c26, eghs_c27]; exact hD
          have h24 : (fgS fal gho_6 ghs_6 y6_2.toNatClampNeg n.toInt.toNat gho_c26 ghs_c27) ∧ (rg 48 (-1) (23) gho_c26) ∧ (rg 48 (0) (100) ghs_c27) := by (try rw [egho_c26]); (try rw [eghs_c27]); exact h24
          obtain ⟨h24_0, h24_1, h24_2⟩ := h24
          obtain ⟨z28, ez28⟩ : ∃ y : Int32, y = y6_2 + 1 := ⟨_, rfl⟩
          have iz28 : z28.toInt = y6_2.toInt + 1 := by rw [ez28]; exact addC rfl rfl (by omega) (by omega)
          refine lv_iinc (v := z28) (lv' := [(2, .int z28), (0, .ref (a 4)), (1, .int n)]) hx hb dX1_passDays_41 hl (k := 2) rfl (by rw [ez28]; rfl) (by decide) rfl (fun ls hl => ?_)
          refine lv_goto (tgt := 6) hx hb dX1_passDays_44 (by decide) ?_
          exact ih6 z28 str_u22 gho_c26 ghs_c27 _ _ _ rstr_u22 h24_1 h24_2 (by omega) (by omega) (by (first | exact pd_none i6_2 (by omega) (by omega) (by assumption) (by assumption) (by omega) | exact pd_top i6_2 (by omega) (by omega) (by assumption) (by assumption) (by assumption) (by omega) | exact pd_init (by first | rfl | omega))) (by omega) hP hD hS (lv_sub hl [1, 2, 0] rfl)
  have kc29 : (0 : Int32).toInt = 0 := rfl
  exact L6 _ 0 str gho ghs _ _ _ r_str r_gho r_ghs (by omega) (by omega) (by (first | exact pd_init (by first | rfl | omega) | exact pd_none i6_2 (by omega) (by omega) (by assumption) (by assumption) (by omega) | exact pd_top i6_2 (by omega) (by omega) (by assumption) (by assumption) (by assumption) (by omega))) (Nat.lt_succ_self _) hP hD hS (lv_sub hl [1, 2, 0] rfl)
set_option maxHeartbeats 4000000 in
set_option maxRecDepth 100000 in
theorem k_X1_gainOf2 (l : Launch) (dC : Nat → ClassId) (dI : Nat → Nat → Nat) (cI cZ cQ : ClassId) (a : Nat → Nat) (top : Nat → Int32) (str : Nat → Int32) (gho : Nat → Int32) (ghs : Nat → Int32) (pto : Nat → Int32) (cro : Nat → Int32) (pla : Nat → Int32) (wal : Nat → Int32) (fal : Nat → Int32) (tel : Int32) (gai : Int32) (day : Int32) (mar : Nat → Int32) (fr : Int32) (r_top : rg 48 (-1) (23) top) (r_str : rg 48 (0) (100) str) (r_gho : rg 48 (-1) (23) gho) (r_ghs : rg 48 (0) (100) ghs) (r_cro : rg 48 (0) (6) cro) (r_pla : rg 24 (-1) (47) pla) (r_fal : rg 11 (0) (30) fal) (r_gai : 0 ≤ gai.toInt ∧ gai.toInt ≤ 100) (r_day : 0 ≤ day.toInt ∧ day.toInt ≤ 400) (r_mar : rg 24 (0) (255) mar) (q0 : 0 ≤ fr.toInt) (q1 : fr.toInt ≤ 100) : KR l yX1_gainOf wsX1_gainOf { frames := 0, cells := 0, slots := 0, locals := 0 } (dC, dI) (TY cI cZ cQ) (wCor cI cZ cQ a top str gho ghs pto cro pla wal fal tel gai day mar) [.ref (a 4), .int fr] (fun r : Int32 => (0 ≤ r.toInt) ∧ (r.toInt ≤ 100 - fr.toInt) ∧ (r.toInt ≤ 100) ∧ (r.toInt = gn gai.toInt fr.toInt)) := by
  refine Met.ofW (cc := cX1_gainOf) (maxL := 2) (ret := (some .int)) (by decide) rfl ?_
  intro p e s m args below meth c s₁ B hml hv
  obtain ⟨rfl, hP, hK, hN⟩ := hv
  have hx := B.exec
  have hb := B.bytes
  have hr := B.returns
  have hts := atoms_spec (ws := wsX1_gainOf) B.pre
  have hown : s.vm.findClass RX1 = some m.cls := findClass_of_methodNamed B.named
  have hlocks := B.notSynchronized
  have lf43 := hts (.fieldLink RX1 43 "PalaceOfRooms$Corners" "gain" "I") (List.mem_cons_of_mem _ (List.mem_append_left _ (List.mem_of_getElem? (i := 0) rfl)))
  have inX1 : ∀ w ∈ wsX10, w ∈ wsX1_gainOf := fun w h => List.mem_cons_of_mem _ (List.mem_append_right _ h)
  have hl := lv_entry ([.ref (a 4), .int fr]) (n := 2) (Nat.le_of_ble_eq_true rfl)
  rw [lg_entry_eq]
  generalize (lg_sl ([.ref (a 4), .int fr]) ++ List.replicate (2 - (lg_sl ([.ref (a 4), .int fr])).length) Slot.unset).toArray = ls at hl ⊢
  have hl : lv_has ls 2 [(0, .ref (a 4)), (1, .int fr)] := hl
  refine lv_bipush (v := 100) hx hb dX1_gainOf_0 (by decide) ?_
  refine lv_iload_n hx hb dX1_gainOf_2 rfl (lv_at hl 1 rfl) ?_
  refine lv_isub hx hb dX1_gainOf_3 ?_
  have f1 : (100 - fr).toInt = (100) - (fr.toInt) := subC (show (100 : Int32).toInt = 100 from rfl) rfl (by omega) (by omega)
  refine lv_aload_n hx hb dX1_gainOf_4 rfl (lv_at hl 0 rfl) ?_
  refine va_get (D := (dC, dI)) (ci := 1) (v := .int gai) (C := RX1) (T := TX1) (N := 13) hx hb hts inX1 hown hK hP 0 rfl rfl 11 (by decide) lf43 (fun _ h9 => h9) rfl dX1_gainOf_5 ?_
  refine lv_imul hx hb dX1_gainOf_8 ?_
  obtain ⟨f2, f2_1, f2_2⟩ := mulB (a := (100 - fr)) (b := gai) (A := (100) - (fr.toInt)) (B := gai.toInt) (p := 100) (q := 100) f1 rfl (by omega) (by omega) (by omega) (by omega) (by decide)
  refine lv_bipush (v := 100) hx hb dX1_gainOf_9 (by decide) ?_
  refine lv_idiv hx hb dX1_gainOf_11 (by decide) ?_
  have f3 : (((100 - fr) * gai) / 100).toInt = (((100) - (fr.toInt)) * (gai.toInt)) / (100) := divC f2 (show (100 : Int32).toInt = 100 from rfl) (by omega) (by omega)
  exact W.iret (v := ((100 - fr) * gai) / 100) hx hb hr (fun tq ht hW => ⟨((100 - fr) * gai) / 100, rfl, ⟨(show 0 ≤ (((100 - fr) * gai) / 100).toInt from by (try rw [show (((100 - fr) * gai) / 100).toInt = (((100) - (fr.toInt)) * (gai.toInt)) / (100) from f3]); omega), (show (((100 - fr) * gai) / 100).toInt ≤ 100 - fr.toInt from by (try rw [show (((100 - fr) * gai) / 100).toInt = (((100) - (fr.toInt)) * (gai.toInt)) / (100) from f3]); omega), (show (((100 - fr) * gai) / 100).toInt ≤ 100 from by (try rw [show (((100 - fr) * gai) / 100).toInt = (((100) - (fr.toInt)) * (gai.toInt)) / (100) from f3]); omega), (show (((100 - fr) * gai) / 100).toInt = gn gai.toInt fr.toInt from by (try rw [show (((100 - fr) * gai) / 100).toInt = (((100) - (fr.toInt)) * (gai.toInt)) / (100) from f3]); rfl)⟩, ht⟩) (fun q h => by cases h) dX1_gainOf_12
set_option maxHeartbeats 4000000 in
set_option maxRecDepth 100000 in
theorem k_X1_walkPast2 (l : Launch) (dC : Nat → ClassId) (dI : Nat → Nat → Nat) (cI cZ cQ : ClassId) (a : Nat → Nat) (top : Nat → Int32) (str : Nat → Int32) (gho : Nat → Int32) (ghs : Nat → Int32) (pto : Nat → Int32) (cro : Nat → Int32) (pla : Nat → Int32) (wal : Nat → Int32) (fal : Nat → Int32) (tel : Int32) (gai : Int32) (day : Int32) (mar : Nat → Int32) (sz : Nat) (ro : Int32) (r_top : rg 48 (-1) (23) top) (r_str : rg 48 (0) (100) str) (r_gho : rg 48 (-1) (23) gho) (r_ghs : rg 48 (0) (100) ghs) (r_cro : rg 48 (0) (6) cro) (r_pla : rg 24 (-1) (47) pla) (r_fal : rg 11 (0) (30) fal) (r_gai : 0 ≤ gai.toInt ∧ gai.toInt ≤ 100) (r_day : 0 ≤ day.toInt ∧ day.toInt ≤ 400) (r_mar : rg 24 (0) (255) mar) (q0 : 0 ≤ ro.toInt) (q1 : ro.toInt ≤ 7) : KW l yX1_walkPast wsX1_walkPast { frames := 1, cells := 0, slots := 0, locals := 21 } (dC, dI) (TY cI cZ cQ) (wCor cI cZ cQ a top str gho ghs pto cro pla wal fal tel gai day mar) [.ref (a 4), .int ro] sz 0 0 (fun (r : Int32) (u : US) => (wkS top str gai.toInt (ro.toInt * 6) (ro.toInt * 6 + 6) (u.1 0) r.toInt) ∧ ((u.1 1) = upd wal ro.toNatClampNeg day) ∧ (rg 48 (0) (100) (u.1 0))) (fun u : US => (wCor cI cZ cQ a top (u.1 0) gho ghs pto cro pla (u.1 1) fal tel gai day mar)) := by
  refine Met.ofW (cc := cX1_walkPast) (maxL := 6) (ret := (some .int)) (by decide) rfl ?_
  intro p e s m args below meth c s₁ B hml hv
  obtain ⟨rfl, hsz, hP, hK, hD0, hN⟩ := hv
  have hx := B.exec
  have hb := B.bytes
  have hr := B.returns
  have hts := atoms_spec (ws := wsX1_walkPast) B.pre
  have hown : s.vm.findClass RX1 = some m.cls := findClass_of_methodNamed B.named
  have hlocks := B.notSynchronized
  have lf33 := hts (.fieldLink RX1 33 "PalaceOfRooms$Corners" "walkedOn" "[I") (List.mem_cons_of_mem _ (List.mem_append_left _ (List.mem_of_getElem? (i := 2) rfl)))
  have inX1 : ∀ w ∈ wsX10, w ∈ wsX1_walkPast := fun w h => List.mem_cons_of_mem _ (List.mem_append_right _ h)
  have lf62 := hts (.fieldLink RX1 62 "PalaceOfRooms$Corners" "day" "I") (List.mem_cons_of_mem _ (List.mem_append_left _ (List.mem_of_getElem? (i := 3) rfl)))
  have lf9 := hts (.fieldLink RX1 9 "PalaceOfRooms$Corners" "top" "[I") (List.mem_cons_of_mem _ (List.mem_append_left _ (List.mem_of_getElem? (i := 0) rfl)))
  have lf15 := hts (.fieldLink RX1 15 "PalaceOfRooms$Corners" "strength" "[I") (List.mem_cons_of_mem _ (List.mem_append_left _ (List.mem_of_getElem? (i := 1) rfl)))
  subst hsz
  have hD := hD0.self (sz := s.heap.size)
  generalize hAe : va_A (wCor cI cZ cQ a top str gho ghs pto cro pla wal fal tel gai day mar) s.heap.size = A at hD ⊢
  have hA : ∀ q : Nat, s.heap.size ≤ q → A q := fun q h => by rw [← hAe]; exact Or.inr h
  have hS : va_S A s.heap s.heap [] := va_S.rf
  have hl := lv_entry ([.ref (a 4), .int ro]) (n := 6) (Nat.le_of_ble_eq_true rfl)
  rw [lg_entry_eq]
  generalize (lg_sl ([.ref (a 4), .int ro]) ++ List.replicate (6 - (lg_sl ([.ref (a 4), .int ro])).length) Slot.unset).toArray = ls at hl ⊢
  have hl : lv_has ls 6 [(0, .ref (a 4)), (1, .int ro)] := hl
  refine lv_iconst (v := 0) hx hb dX1_walkPast_0 (by decide) ?_
  refine lv_istore_n (lv' := [(2, .int 0), (0, .ref (a 4)), (1, .int ro)]) hx hb dX1_walkPast_1 rfl hl (by decide) rfl (fun ls hl => ?_)
  refine lv_iload_n hx hb dX1_walkPast_2 rfl (lv_at hl 2 rfl) ?_
  refine lv_bipush (v := 6) hx hb dX1_walkPast_3 (by decide) ?_
  refine lv_imul hx hb dX1_walkPast_5 ?_
  have f1 : (ro * 6).toInt = (ro.toInt) * (6) := mulC rfl (show (6 : Int32).toInt = 6 from rfl) (by omega) (by omega)
  refine lv_topi (fun x2 ex2 => ?_)
  have ix2 : x2.toInt = (ro.toInt) * (6) := by rw [ex2]; exact f1
  refine lv_istore_n (lv' := [(3, .int x2), (2, .int 0), (0, .ref (a 4)), (1, .int ro)]) hx hb dX1_walkPast_6 rfl hl (by decide) rfl (fun ls hl => ?_)
  refine lv_iload_n hx hb dX1_walkPast_7 rfl (lv_at hl 0 rfl) ?_
  refine lv_istore (lv' := [(4, .int x2), (3, .int x2), (2, .int 0), (0, .ref (a 4)), (1, .int ro)]) hx hb dX1_walkPast_8 hl (by decide) rfl (fun ls hl => ?_)
  have L10 : ∀ (nn : Nat) (y10_2 : Int32) (y10_4 : Int32) (str_10 : Nat → Int32) (H : Heap) (locs : List Loc) (ls : Array Slot), (rg 48 (0) (100) str_10) → (0 ≤ (y10_4.toInt)) → ((y10_4.toInt) ≤ 48) → ((x2.toInt) ≤ (y10_4.toInt)) → ((y10_4.toInt) ≤ (x2.toInt) + 6) → (0 ≤ (y10_2.toInt)) → ((y10_2.toInt) ≤ 100 * ((y10_4.toInt) - (x2.toInt))) → (wkS top str gai.toInt (x2.toInt) (y10_4.toInt) str_10 (y10_2.toInt)) → (48 - (y10_4.toInt)).toNat < nn → va_P (dC, dI) vwCl (wCor cI cZ cQ a top str_10 gho ghs pto cro pla wal fal tel gai day mar) H → va_D A (wCor cI cZ cQ a top str_10 gho ghs pto cro pla wal fal tel gai day mar) → va_S A s.heap H locs → lv_has ls 6 [(0, .ref (a 4)), (1, .int ro), (2, .int y10_2), (3, .int x2), (4, .int y10_4)] → W p l e (headSpec wsX1_walkPast { frames := 1, cells := 0, slots := 0, locals := 21 }).room s m ([.ref (a 4), .int ro] : List Value).toArray below meth c H locs 0 0 (MQ below (va_Qi (fun (r : Int32) (u : US) => (wkS top str gai.toInt (ro.toInt * 6) (ro.toInt * 6 + 6) (u.1 0) r.toInt) ∧ ((u.1 1) = upd wal ro.toNatClampNeg day) ∧ (rg 48 (0) (100) (u.1 0))) (Bw (dC, dI) A (fun u : US => (wCor cI cZ cQ a top (u.1 0) gho ghs pto cro pla (u.1 1) fal tel gai day mar))) A) ([.ref (a 4), .int ro] : List Value).toArray s 0 0 A) (F0 m 10 ls []) := by
    intro nn
    induction nn with
    | zero =>
      intro y10_2 y10_4 str_10 H locs ls r_str_10 i10_0 i10_1 i10_2 i10_3 i10_4 i10_5 i10_6 hm10
      exact absurd hm10 (Nat.not_lt_zero _)
    | succ nn ih10 =>
      intro y10_2 y10_4 str_10 H locs ls r_str_10 i10_0 i10_1 i10_2 i10_3 i10_4 i10_5 i10_6 hm10 hP hD hS hl
      refine lv_iload hx hb dX1_walkPast_10 (lv_at hl 4 rfl) ?_
      refine lv_iload_n hx hb dX1_walkPast_12 rfl (lv_at hl 3 rfl) ?_
      refine lv_bipush (v := 6) hx hb dX1_walkPast_13 (by decide) ?_
      refine lv_iadd hx hb dX1_walkPast_15 ?_
      have f3 : (x2 + 6).toInt = (x2.toInt) + (6) := addC rfl (show (6 : Int32).toInt = 6 from rfl) (by omega) (by omega)
      refine lv_icmp_ge (tgt := 66) hx hb dX1_walkPast_16 (by decide) (fun c4 => ?_) (fun c4 => ?_)
      · have dc4 : (x2.toInt) + (6) ≤ y10_4.toInt := leC f3 rfl c4
        refine lv_aload_n hx hb dX1_walkPast_66 rfl (lv_at hl 0 rfl) ?_
        refine va_get (D := (dC, dI)) (ci := 1) (v := .ref (a 12)) (C := RX1) (T := TX1) (N := 13) hx hb hts inX1 hown hK hP 0 rfl rfl 8 (by decide) lf33 (fun _ h9 => h9) rfl dX1_walkPast_67 ?_
        refine lv_iload_n hx hb dX1_walkPast_70 rfl (lv_at hl 1 rfl) ?_
        refine lv_aload_n hx hb dX1_walkPast_71 rfl (lv_at hl 0 rfl) ?_
        refine va_get (D := (dC, dI)) (ci := 1) (v := .int day) (C := RX1) (T := TX1) (N := 13) hx hb hts inX1 hown hK hP 0 rfl rfl 12 (by decide) lf62 (fun _ h9 => h9) rfl dX1_walkPast_72 ?_
        have b5 : vp_in ro 8 := inC rfl (by omega) (by omega)
        refine va_iast hx hb hK hP hD hS 8 0 rfl rfl b5 dX1_walkPast_75 (fun H locs hP hD hS => ?_)
        obtain ⟨wal_u6, ewal_u6⟩ : ∃ f : Nat → Int32, f = upd wal ro.toNatClampNeg day := ⟨_, rfl⟩
        have hP : va_P (dC, dI) vwCl (wCor cI cZ cQ a top str_10 gho ghs pto cro pla wal_u6 fal tel gai day mar) H := by rw [ewal_u6]; exact hP
        have hD : va_D A (wCor cI cZ cQ a top str_10 gho ghs pto cro pla wal_u6 fal tel gai day mar) := by rw [ewal_u6]; exact hD
        refine lv_iload_n hx hb dX1_walkPast_76 rfl (lv_at hl 2 rfl) ?_
        exact W.iret (v := y10_2) hx hb hr (fun tq ht hW => ⟨⟨y10_2, (uS [str_10, wal_u6] 0 (fun _ => 0)), rfl, ⟨(show wkS top str gai.toInt (ro.toInt * 6) (ro.toInt * 6 + 6) str_10 y10_2.toInt from by exact wk_end i10_6 (by omega) (by omega)), (show wal_u6 = upd wal ro.toNatClampNeg day from by (first | assumption | (subst_vars; rfl))), r_str_10⟩, by rw [ht]; exact hP, hD⟩, hS.F ht⟩) hS.2.2 dX1_walkPast_77
      · have dc4 : y10_4.toInt < (x2.toInt) + (6) := nleC f3 rfl c4
        refine lv_aload_n hx hb dX1_walkPast_19 rfl (lv_at hl 0 rfl) ?_
        refine va_get (D := (dC, dI)) (ci := 1) (v := .ref (a 5)) (C := RX1) (T := TX1) (N := 13) hx hb hts inX1 hown hK hP 0 rfl rfl 1 (by decide) lf9 (fun _ h9 => h9) rfl dX1_walkPast_20 ?_
        refine lv_iload hx hb dX1_walkPast_23 (lv_at hl 4 rfl) ?_
        have b7 : vp_in y10_4 48 := inC rfl (by omega) (by omega)
        refine va_iald hx hb hK hP 1 0 rfl rfl b7 dX1_walkPast_25 ?_
        have g8 : -1 ≤ (top y10_4.toNatClampNeg).toInt ∧ (top y10_4.toNatClampNeg).toInt ≤ 23 := rg_at r_top b7
        refine lv_iconst (v := (-1)) hx hb dX1_walkPast_26 (by decide) ?_
        refine lv_icmp_eq (tgt := 60) hx hb dX1_walkPast_27 (by decide) (fun c9 => ?_) (fun c9 => ?_)
        · have dc9 : (top y10_4.toNatClampNeg).toInt = (-1) := eqC rfl (show ((-1) : Int32).toInt = (-1) from rfl) c9
          obtain ⟨z10, ez10⟩ : ∃ y : Int32, y = y10_4 + 1 := ⟨_, rfl⟩
          have iz10 : z10.toInt = y10_4.toInt + 1 := by rw [ez10]; exact addC rfl rfl (by omega) (by omega)
          refine lv_iinc (v := z10) (lv' := [(4, .int z10), (0, .ref (a 4)), (1, .int ro), (2, .int y10_2), (3, .int x2)]) hx hb dX1_walkPast_60 hl (k := 4) rfl (by rw [ez10]; rfl) (by decide) rfl (fun ls hl => ?_)
          refine lv_goto (tgt := 10) hx hb dX1_walkPast_63 (by decide) ?_
          exact ih10 y10_2 z10 str_10 _ _ _ r_str_10 (by omega) (by omega) (by omega) (by omega) (by omega) (by omega) (by (first | exact wk_none i10_6 (by omega) (by omega) (by omega) (by assumption) (by omega) | exact wk_top i10_6 (by omega) (by omega) (by omega) (by assumption) (by assumption) (by assumption) (by omega) (by omega) (by omega) | exact wk_init (by omega) (by first | rfl | omega))) (by omega) hP hD hS (lv_sub hl [1, 2, 3, 4, 0] rfl)
        · have dc9 : 0 ≤ (top y10_4.toNatClampNeg).toInt := ka_lo (by omega) (neC rfl (show ((-1) : Int32).toInt = (-1) from rfl) c9)
          refine lv_aload_n hx hb dX1_walkPast_30 rfl (lv_at hl 0 rfl) ?_
          refine lv_aload_n hx hb dX1_walkPast_31 rfl (lv_at hl 0 rfl) ?_
          refine va_get (D := (dC, dI)) (ci := 1) (v := .ref (a 6)) (C := RX1) (T := TX1) (N := 13) hx hb hts inX1 hown hK hP 0 rfl rfl 2 (by decide) lf15 (fun _ h9 => h9) rfl dX1_walkPast_32 ?_
          refine lv_iload hx hb dX1_walkPast_35 (lv_at hl 4 rfl) ?_
          have b11 : vp_in y10_4 48 := inC rfl (by omega) (by omega)
          refine va_iald hx hb hK hP 2 0 rfl rfl b11 dX1_walkPast_37 ?_
          have g12 : 0 ≤ (str_10 y10_4.toNatClampNeg).toInt ∧ (str_10 y10_4.toNatClampNeg).toInt ≤ 100 := rg_at r_str_10 b11
          refine rdV (As := [.int (str_10 y10_4.toNatClampNeg)]) (rest := []) ⟨hx, hb, hml, hown, hts⟩ (k_X1_gainOf2 l dC dI cI cZ cQ a top str_10 gho ghs pto cro pla wal fal tel gai day mar (str_10 y10_4.toNatClampNeg) r_top r_str_10 r_gho r_ghs r_cro r_pla r_fal r_gai r_day r_mar (by omega) (by omega)) (cwV 1 hts gX1_walkPast_X1_gainOf rfl rfl rfl (by decide +kernel) ⟨Nat.le_of_ble_eq_true rfl, Nat.le_of_ble_eq_true rfl⟩) hP hK hN [0, 1, 2, 3, 4, 5, 6, 7, 8, 9, 10, 11] rfl 0 1 rfl rfl rfl hl.1 rfl (Nat.le_of_ble_eq_true rfl) dX1_walkPast_38 ⟨Nat.le_of_ble_eq_true rfl, Nat.le_of_ble_eq_true rfl⟩ (fun r13 h14 => ?_)
          have h14 : (0 ≤ r13.toInt) ∧ (r13.toInt ≤ 100 - (str_10 y10_4.toNatClampNeg).toInt) ∧ (r13.toInt ≤ 100) ∧ (r13.toInt = gn gai.toInt (str_10 y10_4.toNatClampNeg).toInt) := h14
          obtain ⟨h14_0, h14_1, h14_2, h14_3⟩ := h14
          refine lv_istore (lv' := [(5, .int r13), (0, .ref (a 4)), (1, .int ro), (2, .int y10_2), (3, .int x2), (4, .int y10_4)]) hx hb dX1_walkPast_41 hl (by decide) rfl (fun ls hl => ?_)
          refine lv_aload_n hx hb dX1_walkPast_43 rfl (lv_at hl 1 rfl) ?_
          refine va_get (D := (dC, dI)) (ci := 1) (v := .ref (a 6)) (C := RX1) (T := TX1) (N := 13) hx hb hts inX1 hown hK hP 0 rfl rfl 2 (by decide) lf15 (fun _ h9 => h9) rfl dX1_walkPast_44 ?_
          refine lv_iload hx hb dX1_walkPast_47 (lv_at hl 5 rfl) ?_
          refine lv_dup2_11 hx hb dX1_walkPast_49 rfl rfl ?_
          have b15 : vp_in y10_4 48 := inC rfl (by omega) (by omega)
          refine va_iald hx hb hK hP 2 0 rfl rfl b15 dX1_walkPast_50 ?_
          have g16 : 0 ≤ (str_10 y10_4.toNatClampNeg).toInt ∧ (str_10 y10_4.toNatClampNeg).toInt ≤ 100 := rg_at r_str_10 b15
          refine lv_iload hx hb dX1_walkPast_51 (lv_at hl 0 rfl) ?_
          refine lv_iadd hx hb dX1_walkPast_53 ?_
          have f17 : ((str_10 y10_4.toNatClampNeg) + r13).toInt = ((str_10 y10_4.toNatClampNeg).toInt) + (r13.toInt) := addC rfl rfl (by omega) (by omega)
          refine lv_topi (fun x18 ex18 => ?_)
          have ix18 : x18.toInt = ((str_10 y10_4.toNatClampNeg).toInt) + (r13.toInt) := by rw [ex18]; exact f17
          have b19 : vp_in y10_4 48 := inC rfl (by omega) (by omega)
          have g20 : rg 48 (0) (100) (upd str_10 y10_4.toNatClampNeg x18) := rg_upd r_str_10 rfl (by omega) (by omega)
          refine va_iast hx hb hK hP hD hS 2 0 rfl rfl b19 dX1_walkPast_54 (fun H locs hP hD hS => ?_)
          obtain ⟨str_u21, estr_u21⟩ : ∃ f : Nat → Int32, f = upd str_10 y10_4.toNatClampNeg x18 := ⟨_, rfl⟩
          have rstr_u21 : rg 48 (0) (100) str_u21 := by rw [estr_u21]; exact g20
          have hP : va_P (dC, dI) vwCl (wCor cI cZ cQ a top str_u21 gho ghs pto cro pla wal fal tel gai day mar) H := by rw [estr_u21]; exact hP
          have hD : va_D A (wCor cI cZ cQ a top str_u21 gho ghs pto cro pla wal fal tel gai day mar) := by rw [estr_u21]; exact hD
          refine lv_iload_n hx hb dX1_walkPast_55 rfl (lv_at hl 3 rfl) ?_
          refine lv_iload hx hb dX1_walkPast_56 (lv_at hl 0 rfl) ?_
          refine lv_iadd hx hb dX1_walkPast_58 ?_
          have f22 : (y10_2 + r13).toInt = (y10_2.toInt) + (r13.toInt) := addC rfl rfl (by omega) (by omega)
          refine lv_topi (fun x23 ex23 => ?_)
          have ix23 : x23.toInt = (y10_2.toInt) + (r13.toInt) := by rw [ex23]; exact f22
          refine lv_istore_n (lv' := [(2, .int x23), (5, .int r13), (0, .ref (a 4)), (1, .int ro), (3, .int x2), (4, .int y10_4)]) hx hb dX1_walkPast_59 rfl hl (by decide) rfl (fun ls hl => ?_)
          obtain ⟨z24, ez24⟩ : ∃ y : Int32, y = y10_4 + 1 := ⟨_, rfl⟩
          have iz24 : z24.toInt = y10_4.toInt + 1 := by rw [ez24]; exact addC rfl rfl (by omega) (by omega)
          refine lv_iinc (v := z24) (lv' := [(4, .int z24), (2, .int x23), (5, .int r13), (0, .ref (a 4)), (1, .int ro), (3, .int x2)]) hx hb dX1_walkPast_60 hl (k := 5) rfl (by rw [ez24]; rfl) (by decide) rfl (fun ls hl => ?_)
          refine lv_goto (tgt := 10) hx hb dX1_walkPast_63 (by decide) ?_
          exact ih10 x23 z24 str_u21 _ _ _ rstr_u21 (by omega) (by omega) (by omega) (by omega) (by omega) (by omega) (by (first | exact wk_none i10_6 (by omega) (by omega) (by omega) (by assumption) (by omega) | exact wk_top i10_6 (by omega) (by omega) (by omega) (by assumption) (by assumption) (by assumption) (by omega) (by omega) (by omega) | exact wk_init (by omega) (by first | rfl | omega))) (by omega) hP hD hS (lv_sub hl [3, 4, 1, 5, 0] rfl)
  have kc25 : (0 : Int32).toInt = 0 := rfl
  exact L10 _ 0 x2 str _ _ _ r_str (by omega) (by omega) (by omega) (by omega) (by omega) (by omega) (by (first | exact wk_init (by omega) (by first | rfl | omega) | exact wk_none i10_6 (by omega) (by omega) (by omega) (by assumption) (by omega) | exact wk_top i10_6 (by omega) (by omega) (by omega) (by assumption) (by assumption) (by assumption) (by omega) (by omega) (by omega))) (Nat.lt_succ_self _) hP hD hS (lv_sub hl [3, 4, 2, 1, 0] rfl)
end
