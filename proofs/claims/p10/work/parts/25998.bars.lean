-- ===== BARS =====
def ptI (pto : Nat → Int32) (day : Int32) : Prop := ∀ j : Nat, j < 48 → pto j = -1 ∨ (0 ≤ (pto j).toInt ∧ (pto j).toInt ≤ day.toInt)
theorem pt_init {pto : Nat → Int32} {day : Int32} (h : ∀ j, j < 48 → pto j = -1) : ptI pto day := fun j hj => .inl (h j hj)
theorem pt_put {top str gho ghs pto str' gho' ghs' pto' : Nat → Int32} {day c : Int32} (h : ptI pto day) (hd : 0 ≤ day.toInt) (q : cvC top str gho ghs pto day c str' gho' ghs' pto') : ptI pto' day := by
  intro j hj
  rw [q.2.1]
  by_cases e : j = c.toNatClampNeg
  · subst e; rw [pk_us]; exact .inr ⟨hd, Int.le_refl _⟩
  · rw [pk_un e]; exact h j hj
theorem pt_days {pto : Nat → Int32} {day day' : Int32} (h : ptI pto day) (hd : day.toInt ≤ day'.toInt) : ptI pto day' := fun j hj => (h j hj).imp id (fun q => ⟨q.1, by omega⟩)
def baR (mo top : Nat → Int32) (c : Int32) : Prop := mo (c.toInt / 6).toNat ≠ -1 ∧ (mo (c.toInt / 6).toNat).toInt ≤ stF top (c.toInt / 6 * 6).toNat 6
theorem ba_y {mo top : Nat → Int32} {c x m r : Int32} (e2 : x.toInt = c.toInt / 6) (e3 : m = mo x.toNatClampNeg) (h : ¬ m = -1) (s : r.toInt = stF top (x.toInt * 6).toNat 6) (l : m.toInt ≤ r.toInt) : baR mo top c := by
  unfold baR
  rw [clC e2] at e3
  rw [e2] at s
  rw [← e3, ← s]; exact ⟨h, l⟩
theorem ba_n1 {mo top : Nat → Int32} {c x m : Int32} (e2 : x.toInt = c.toInt / 6) (e3 : m = mo x.toNatClampNeg) (h : m = -1) : ¬ baR mo top c := by
  rw [clC e2] at e3
  intro q
  exact q.1 (e3.symm.trans h)
theorem ba_n2 {mo top : Nat → Int32} {c x m r : Int32} (e2 : x.toInt = c.toInt / 6) (e3 : m = mo x.toNatClampNeg) (s : r.toInt = stF top (x.toInt * 6).toNat 6) (l : r.toInt < m.toInt) : ¬ baR mo top c := by
  rw [clC e2] at e3
  rw [e2] at s
  intro q
  have := q.2
  rw [← e3, ← s] at this; omega
def baA (pto : Nat → Int32) (ag day c : Int32) : Prop := ¬ ag = -1 ∧ ¬ pto c.toNatClampNeg = -1 ∧ day - pto c.toNatClampNeg < ag
theorem bg_y {pto : Nat → Int32} {ag day c x : Int32} (e : x = pto c.toNatClampNeg) (h1 : ¬ ag = -1) (h2 : ¬ x = -1) (h3 : ¬ ag ≤ day - x) : baA pto ag day c := by
  subst e; exact ⟨h1, h2, Int32.not_le.mp h3⟩
theorem bg_n1 {pto : Nat → Int32} {ag day c : Int32} (h1 : ag = -1) : ¬ baA pto ag day c := fun q => q.1 h1
theorem bg_n2 {pto : Nat → Int32} {ag day c x : Int32} (e : x = pto c.toNatClampNeg) (h2 : x = -1) : ¬ baA pto ag day c := fun q => q.2.1 (e.symm.trans h2)
theorem bg_n3 {pto : Nat → Int32} {ag day c x : Int32} (e : x = pto c.toNatClampNeg) (h3 : ag ≤ day - x) : ¬ baA pto ag day c := by
  subst e; exact fun q => absurd q.2.2 (Int32.not_lt.mpr h3)
def tlP (mar : Nat → Int32) (th ne ap : Int32) : Prop := ¬ ne = -1 ∧ ap.toInt < (bc (mar th.toNatClampNeg &&& mar ne.toNatClampNeg)).toInt
def baP (mar top : Nat → Int32) (ap th c : Int32) : Prop := ¬ ap = -1 ∧ ((0 < c.toInt % 6 ∧ tlP mar th (top (c.toInt - 1).toNat) ap) ∨ (c.toInt % 6 < 5 ∧ tlP mar th (top (c.toInt + 1).toNat) ap))
theorem bp_ix {top : Nat → Int32} {d : Int32} {D : Int} (h : d.toInt = D) : top d.toNatClampNeg = top D.toNat := by rw [clC h]
def spBar (RP AP PP : Prop) (t c r : Int32) : Prop := ((t.toInt < 0 ∨ 23 < t.toInt ∨ c.toInt < 0 ∨ 47 < c.toInt) ∧ r = -2) ∨ ((0 ≤ t.toInt ∧ t.toInt ≤ 23 ∧ 0 ≤ c.toInt ∧ c.toInt ≤ 47) ∧ ∃ a b d : Int, wgt RP 1 a ∧ wgt AP 2 b ∧ wgt PP 4 d ∧ r.toInt = a + b + d)
theorem br3 {L G D : Prop} {q d : Int} {r : Int32} (h : ∃ a b : Int, wgt L 1 a ∧ wgt G 2 b ∧ q = a + b) (h3 : wgt D 4 d) (e : r.toInt = q + d) : ∃ a b d : Int, wgt L 1 a ∧ wgt G 2 b ∧ wgt D 4 d ∧ r.toInt = a + b + d := by
  obtain ⟨a, b, x, y, z⟩ := h; exact ⟨a, b, d, x, y, h3, by omega⟩
theorem spBar_one {RP AP PP RQ AQ PQ : Prop} {t c r r2 : Int32} (hh : (0 ≤ t.toInt ∧ t.toInt ≤ 23 ∧ 0 ≤ c.toInt ∧ c.toInt ≤ 47) → (RP ↔ RQ) ∧ (AP ↔ AQ) ∧ (PP ↔ PQ)) (h1 : spBar RP AP PP t c r) (h2 : spBar RQ AQ PQ t c r2) : r = r2 := by
  rcases h1 with ⟨a, b⟩ | ⟨a, x, y, z, wx, wy, wz, b⟩
  · rcases h2 with ⟨_, d⟩ | ⟨a2, _⟩
    · rw [b, d]
    · exfalso; omega
  · rcases h2 with ⟨a2, _⟩ | ⟨_, x2, y2, z2, vx, vy, vz, d⟩
    · exfalso; omega
    · obtain ⟨i1, i2, i3⟩ := hh a
      rw [wgt_one i1 wx vx, wgt_one i2 wy vy, wgt_one i3 wz vz] at b
      exact Int32.toInt_inj.mp (b.trans d.symm)
-- the model's
def mbR (L mt : Nat → Int32) (ls c : Int32) : Prop := (laF L 0 (nI (c.toInt / 6).toNat) 100 ls.toInt.toNat).toInt ≤ stF mt (c.toInt / 6 * 6).toNat 6
def mbA (L mp : Nat → Int32) (ls day c : Int32) : Prop := ¬ mp c.toNatClampNeg = -1 ∧ day - mp c.toNatClampNeg < laF L 1 0 0 ls.toInt.toNat
def tlM (mar mt : Nat → Int32) (th : Int32) (x : Nat) (ap : Int32) : Prop := ¬ mt x = -1 ∧ ap.toInt < (bc (mar (mt x).toNatClampNeg &&& mar th.toNatClampNeg)).toInt
def mbP (mar mt : Nat → Int32) (ap th c : Int32) : Prop := (0 < c.toInt % 6 ∧ tlM mar mt th (c.toInt - 1).toNat ap) ∨ (c.toInt % 6 < 5 ∧ tlM mar mt th (c.toInt + 1).toNat ap)
theorem st_6 {t : Nat → Int32} {lo : Nat} : ∀ k : Nat, 0 ≤ stF t lo k ∧ stF t lo k ≤ k
  | 0 => ⟨Int.le_refl 0, Int.le_refl 0⟩
  | k + 1 => by
    have := st_6 (t := t) (lo := lo) k
    show 0 ≤ stF t lo k + (if t (lo + k) = -1 then 0 else 1) ∧ stF t lo k + (if t (lo + k) = -1 then 0 else 1) ≤ ((k + 1 : Nat) : Int)
    by_cases c : t (lo + k) = -1
    · rw [if_pos c]; omega
    · rw [if_neg c]; omega
theorem bc_8 : ∀ j, j < 256 → (bc (nI j)).toInt ≤ 8 := by decide +kernel
theorem bc_le {a b : Int32} (h0 : 0 ≤ a.toInt) (h1 : a.toInt ≤ 255) (g0 : 0 ≤ b.toInt) (g1 : b.toInt ≤ 255) : (bc (a &&& b)).toInt ≤ 8 := by
  have r := andR (a := a) (m := b) rfl g0
  have := bc_8 (a &&& b).toInt.toNat (by omega)
  rwa [nI_toNat r.1] at this
theorem spBar_rel {mar mm top str gho ghs pto wal mt ms mg mf mp mw mo we L : Nat → Int32} {day mday ag ap li ls t c r r2 : Int32} (R : crR top str gho ghs pto wal mt ms mg mf mp mw) (em : mar = mm) (ed : day = mday) (Rb : bkR mo we ag ap li L ls) (pt : ptI pto day) (hd : 0 ≤ day.toInt ∧ day.toInt ≤ 400) (hm : rg 24 0 255 mar) (ht : rg 48 (-1) 23 top) (h1 : spBar (baR mo top c) (baA pto ag day c) (baP mar top ap t c) t c r) (h2 : spBar (mbR L mt ls c) (mbA L mp ls mday c) (mbP mm mt (laF L 2 0 100 ls.toInt.toNat) t c) t c r2) : r = r2 := by
  subst em; subst ed
  have B := bk_i Rb
  refine spBar_one (fun a => ⟨?_, ?_, ?_⟩) h1 h2
  · unfold baR mbR
    rw [B.1 (c.toInt / 6).toNat (by omega), st_eq (fun j hj => (R.1 j hj).1) 6 (by omega)]
    have s6 := st_6 (t := mt) (lo := (c.toInt / 6 * 6).toNat) 6
    rcases la_wi (r := L) (so := 0) (ro := nI (c.toInt / 6).toNat) (wi := 100) _ B.2.2.2.2 with ⟨x, y⟩ | ⟨x, y⟩
    · rw [x, y, show ((100 : Int32)).toInt = 100 from rfl]
      exact ⟨fun q => absurd rfl q.1, fun q => by omega⟩
    · rw [x]
      exact ⟨fun q => q.2, fun q => ⟨nn_m1 y.1.1, q⟩⟩
  · have hc : c.toNatClampNeg < 48 := by rw [clC (x := c) rfl]; omega
    unfold baA mbA
    rw [← (R.1 _ hc).2.2.1, B.2.2.1]
    rcases la_wi (r := L) (so := 1) (ro := 0) (wi := 0) _ B.2.2.2.2 with ⟨x, y⟩ | ⟨x, y⟩
    · rw [x, y]
      refine ⟨fun q => absurd rfl q.1, fun q => ?_⟩
      exfalso
      rcases pt _ hc with z | z
      · exact q.1 z
      · have := ltC (subC rfl rfl (by omega) (by omega)) (show ((0 : Int32)).toInt = 0 from rfl) q.2
        omega
    · rw [x]
      exact ⟨fun q => q.2, fun q => ⟨nn_m1 y.1.1, q⟩⟩
  · have key : ∀ x : Nat, x < 48 → ∀ ap2 : Int32, tlP mar t (top x) ap2 ↔ tlM mar mt t x ap2 := by
      intro x hx ap2
      unfold tlP tlM
      rw [← (R.1 x hx).1, Int32.and_comm]
    unfold baP mbP
    rw [B.2.2.2.1]
    rcases la_wi (r := L) (so := 2) (ro := 0) (wi := 100) _ B.2.2.2.2 with ⟨x, y⟩ | ⟨x, y⟩
    · rw [x, y]
      have no : ∀ z : Nat, z < 48 → ¬ tlM mar mt t z 100 := by
        intro z hz q
        have q2 := q.2
        rw [show ((100 : Int32)).toInt = 100 from rfl] at q2
        have tz := ht z hz
        rw [(R.1 z hz).1] at tz
        have q1 : (mt z).toInt ≠ -1 := fun w => q.1 (Int32.toInt_inj.mp w)
        have m1 := hm (mt z).toNatClampNeg (by rw [clC (x := mt z) rfl]; omega)
        have m2 := hm t.toNatClampNeg (by rw [clC (x := t) rfl]; omega)
        have := bc_le m1.1 m1.2 m2.1 m2.2
        omega
      refine ⟨fun q => absurd rfl q.1, fun q => ?_⟩
      exfalso
      rcases q with q | q
      · exact no _ (by omega) q.2
      · exact no _ (by omega) q.2
    · rw [x]
      refine ⟨fun q => ?_, fun q => ⟨nn_m1 y.1.1, ?_⟩⟩
      · rcases q.2 with z | z
        · exact .inl ⟨z.1, (key _ (by omega) _).mp z.2⟩
        · exact .inr ⟨z.1, (key _ (by omega) _).mp z.2⟩
      · rcases q with z | z
        · exact .inl ⟨z.1, (key _ (by omega) _).mpr z.2⟩
        · exact .inr ⟨z.1, (key _ (by omega) _).mpr z.2⟩
theorem tlm_y {mar mt : Nat → Int32} {th ap r : Int32} {x : Nat} (h : ¬ mt x = -1) (e : r = bc (mar (mt x).toNatClampNeg &&& mar th.toNatClampNeg)) (l : ap.toInt < r.toInt) : tlM mar mt th x ap := by subst e; exact ⟨h, l⟩
theorem tlm_n {mar mt : Nat → Int32} {th ap r : Int32} {x : Nat} (e : r = bc (mar (mt x).toNatClampNeg &&& mar th.toNatClampNeg)) (l : r.toInt ≤ ap.toInt) : ¬ tlM mar mt th x ap := by subst e; exact fun q => absurd q.2 (by omega)
theorem nI_div {c d : Int32} (e : d.toInt = c.toInt / 6) (h0 : 0 ≤ c.toInt) : nI (c.toInt / 6).toNat = d := by rw [← e]; exact nI_toNat (by omega)
theorem mr_y {L mt : Nat → Int32} {ls c d r1 r2 : Int32} (e : d.toInt = c.toInt / 6) (h0 : 0 ≤ c.toInt) (s : r1.toInt = stF mt (d.toInt * 6).toNat 6) (l : r2 = laF L 0 d 100 ls.toInt.toNat) (h : r2.toInt ≤ r1.toInt) : mbR L mt ls c := by
  unfold mbR; rw [nI_div e h0, ← l, ← e, ← s]; exact h
theorem mr_n {L mt : Nat → Int32} {ls c d r1 r2 : Int32} (e : d.toInt = c.toInt / 6) (h0 : 0 ≤ c.toInt) (s : r1.toInt = stF mt (d.toInt * 6).toNat 6) (l : r2 = laF L 0 d 100 ls.toInt.toNat) (h : r1.toInt < r2.toInt) : ¬ mbR L mt ls c := by
  unfold mbR; rw [nI_div e h0, ← l, ← e, ← s]; omega
theorem ma_y {L mp : Nat → Int32} {ls day c r : Int32} (h1 : ¬ mp c.toNatClampNeg = -1) (l : r = laF L 1 0 0 ls.toInt.toNat) (h : ¬ r ≤ day - mp c.toNatClampNeg) : mbA L mp ls day c := by subst l; exact ⟨h1, Int32.not_le.mp h⟩
theorem ma_n {L mp : Nat → Int32} {ls day c r : Int32} (l : r = laF L 1 0 0 ls.toInt.toNat) (h : r ≤ day - mp c.toNatClampNeg) : ¬ mbA L mp ls day c := by subst l; exact fun q => absurd q.2 (Int32.not_lt.mpr h)
def mbQ (mar mt : Nat → Int32) (ap th c f : Int32) : Prop := (f = 1 ∧ mbP mar mt ap th c) ∨ (f = 0 ∧ ¬ mbP mar mt ap th c)
theorem mq_y1 {mar mt : Nat → Int32} {ap th c d : Int32} (h : 0 < c.toInt % 6) (e : d.toInt = c.toInt - 1) (t : tlM mar mt th d.toNatClampNeg ap) : mbQ mar mt ap th c 1 := .inl ⟨rfl, .inl ⟨h, by rw [← clC e]; exact t⟩⟩
theorem mq_y2 {mar mt : Nat → Int32} {ap th c d : Int32} (h : c.toInt % 6 < 5) (e : d.toInt = c.toInt + 1) (t : tlM mar mt th d.toNatClampNeg ap) : mbQ mar mt ap th c 1 := .inl ⟨rfl, .inr ⟨h, by rw [← clC e]; exact t⟩⟩
theorem mq_n {mar mt : Nat → Int32} {ap th c : Int32} (h1 : c.toInt % 6 ≤ 0 ∨ ∃ d : Int32, d.toInt = c.toInt - 1 ∧ ¬ tlM mar mt th d.toNatClampNeg ap) (h2 : 5 ≤ c.toInt % 6 ∨ ∃ d : Int32, d.toInt = c.toInt + 1 ∧ ¬ tlM mar mt th d.toNatClampNeg ap) : mbQ mar mt ap th c 0 := by
  refine .inr ⟨rfl, fun q => ?_⟩
  rcases q with ⟨a, b⟩ | ⟨a, b⟩
  · rcases h1 with h1 | ⟨d, e, n⟩
    · omega
    · rw [← clC e] at b; exact n b
  · rcases h2 with h2 | ⟨d, e, n⟩
    · omega
    · rw [← clC e] at b; exact n b
theorem mq_w {mar mt : Nat → Int32} {ap ap2 th c f : Int32} (q : mbQ mar mt ap th c f) (e : ap = ap2) : (¬ f = 0 → wgt (mbP mar mt ap2 th c) 4 4) ∧ (f = 0 → wgt (mbP mar mt ap2 th c) 4 0) := by
  subst e
  rcases q with ⟨a, b⟩ | ⟨a, b⟩
  · exact ⟨fun _ => .inl ⟨b, rfl⟩, fun z => by rw [a] at z; exact absurd z (by decide)⟩
  · exact ⟨fun z => absurd a z, fun _ => .inr ⟨b, rfl⟩⟩
theorem dd_le {d d' n : Int32} (e : d' = d + n) (h0 : 0 ≤ d.toInt) (h1 : 1 ≤ n.toInt) (h2 : d.toInt + n.toInt ≤ 400) : d.toInt ≤ d'.toInt := by
  rw [e, addC rfl rfl (by omega) (by omega)]; omega
set_option maxHeartbeats 4000000 in
set_option maxRecDepth 100000 in
theorem k_X9_tooLike2 (l : Launch) (dC : Nat → ClassId) (dI : Nat → Nat → Nat) (cI cZ cQ : ClassId) (a : Nat → Nat) (rb0 : Nat) (rb1 : Nat) (rb2 : Nat) (db0 : Nat) (db1 : Nat) (db2 : Nat) (mar : Nat → Int32) (mos : Nat → Int32) (wev : Nat → Int32) (aga : Int32) (apa : Int32) (lin : Int32) (th : Int32) (ne : Int32) (r_mar : rg 24 (0) (255) mar) (q0 : 0 ≤ th.toInt) (q1 : th.toInt ≤ 23) (q2 : -1 ≤ ne.toInt) (q3 : ne.toInt ≤ 23) : KR l yX9_tooLike wsX9_tooLike { frames := 2, cells := 0, slots := 0, locals := 42 } (dC, dI) (TY cI cZ cQ) (wsPR cI cZ cQ a rb0 rb1 rb2 db0 db1 db2 mar mos wev aga apa lin) [.ref (a 43), .int th, .int ne] (fun r : Int32 => ((((r = 1) ∧ (tlP mar th ne apa)) ∨ ((r = 0) ∧ (¬ tlP mar th ne apa))))) := by
  refine Met.ofW (cc := cX9_tooLike) (maxL := 3) (ret := (some .boolean)) (by decide) rfl ?_
  intro p e s m args below meth c s₁ B hml hv
  obtain ⟨rfl, hP, hK, hN⟩ := hv
  have hx := B.exec
  have hb := B.bytes
  have hr := B.returns
  have hts := atoms_spec (ws := wsX9_tooLike) B.pre
  have hown : s.vm.findClass RX9 = some m.cls := findClass_of_methodNamed B.named
  have hlocks := B.notSynchronized
  have lf19 := hts (.fieldLink RX9 19 "PalaceOfRooms" "pictures" "LPalaceOfRooms$Pictures;") (by decide +kernel)
  have inX9 : ∀ w ∈ wsX90, w ∈ wsX9_tooLike := by decide +kernel
  have lf76 := hts (.fieldLink RX9 76 "PalaceOfRooms" "rules" "LPalaceOfRooms$RuleBook;") (by decide +kernel)
  have lf297 := hN.use (w := .fieldLinkNest "PalaceOfRooms" 297 "PalaceOfRooms$RuleBook" "apart" "I" "PalaceOfRooms") (by decide +kernel) ([.ref (a 43), .int th, .int ne] : List Value).toArray
  have inX5 : ∀ w ∈ wsX50, w ∈ wsX9_tooLike := by decide +kernel
  have hl := lv_entry ([.ref (a 43), .int th, .int ne]) (n := 3) (Nat.le_of_ble_eq_true rfl)
  rw [lg_entry_eq]
  generalize (lg_sl ([.ref (a 43), .int th, .int ne]) ++ List.replicate (3 - (lg_sl ([.ref (a 43), .int th, .int ne])).length) Slot.unset).toArray = ls at hl ⊢
  have hl : lv_has ls 3 [(0, .ref (a 43)), (1, .int th), (2, .int ne)] := hl
  refine lv_iload_n hx hb dX9_tooLike_0 rfl (lv_at hl 2 rfl) ?_
  refine lv_iconst (v := (-1)) hx hb dX9_tooLike_1 (by decide) ?_
  refine lv_icmp_eq (tgt := 28) hx hb dX9_tooLike_2 (by decide) (fun c1 => ?_) (fun c1 => ?_)
  · have dc1 : ne.toInt = (-1) := eqC rfl (show ((-1) : Int32).toInt = (-1) from rfl) c1
    refine lv_iconst (v := 0) hx hb dX9_tooLike_28 (by decide) ?_
    exact W.zret (v := 0) hx hb hr (by decide) (fun tq ht hW => ⟨0, rfl, (Or.inr (⟨rfl, (show ¬ tlP mar th ne apa from by (try rw [show (0 : Int32).toInt = 0 from (show (0 : Int32).toInt = 0 from rfl)]); (first | exact ⟨by assumption, by omega⟩ | exact fun q => q.1 (by assumption) | exact fun q => absurd q.2 (by omega)))⟩)), ht⟩) (fun q h => by cases h) dX9_tooLike_29
  · have dc1 : 0 ≤ ne.toInt := ka_lo (by omega) (neC rfl (show ((-1) : Int32).toInt = (-1) from rfl) c1)
    refine lv_aload_n hx hb dX9_tooLike_5 rfl (lv_at hl 0 rfl) ?_
    refine va_get (D := (dC, dI)) (ci := 9) (v := .ref (a 2)) (C := RX9) (T := TX9) (N := 11) hx hb hts inX9 hown hK hP 0 rfl rfl 1 (by decide) lf19 (fun _ h9 => h9) rfl dX9_tooLike_6 ?_
    refine lv_iload_n hx hb dX9_tooLike_9 rfl (lv_at hl 1 rfl) ?_
    refine lv_iload_n hx hb dX9_tooLike_10 rfl (lv_at hl 2 rfl) ?_
    refine rdV (As := [.int th, .int ne]) (rest := []) ⟨hx, hb, hml, hown, hts⟩ (k_X2_shared2 l dC dI cI cZ cQ a mar th ne r_mar (by omega) (by omega) (by omega) (by omega)) (cwV 2 hts gX9_tooLike_X2_shared rfl rfl rfl (by decide +kernel) ⟨Nat.le_of_ble_eq_true rfl, Nat.le_of_ble_eq_true rfl⟩) hP hK hN [1, 2] rfl 1 2 rfl rfl rfl hl.1 rfl (Nat.le_of_ble_eq_true rfl) dX9_tooLike_11 ⟨Nat.le_of_ble_eq_true rfl, Nat.le_of_ble_eq_true rfl⟩ (fun r2 h3 => ?_)
    have h3 : (r2 = bc (mar th.toNatClampNeg &&& mar ne.toNatClampNeg)) ∧ ((bc (mar th.toNatClampNeg &&& mar ne.toNatClampNeg)).toInt = r2.toInt) := h3
    obtain ⟨h3_0, h3_1⟩ := h3
    refine lv_aload_n hx hb dX9_tooLike_14 rfl (lv_at hl 0 rfl) ?_
    refine va_get (D := (dC, dI)) (ci := 9) (v := .ref rb0) (C := RX9) (T := TX9) (N := 11) hx hb hts inX9 hown hK hP 0 rfl rfl 9 (by decide) lf76 (fun _ h9 => h9) rfl dX9_tooLike_15 ?_
    refine va_getN (D := (dC, dI)) (ci := 5) (v := .int apa) (C := RX5) (T := TX5) (N := 5) hx hb hts inX5 hown hK hP 3 rfl rfl 3 (by decide) lf297 (fun _ h9 => h9) rfl dX9_tooLike_18 ?_
    refine lv_icmp_le (tgt := 28) hx hb dX9_tooLike_21 (by decide) (fun c4 => ?_) (fun c4 => ?_)
    · have dc4 : r2.toInt ≤ apa.toInt := leC rfl rfl c4
      refine lv_iconst (v := 0) hx hb dX9_tooLike_28 (by decide) ?_
      exact W.zret (v := 0) hx hb hr (by decide) (fun tq ht hW => ⟨0, rfl, (Or.inr (⟨rfl, (show ¬ tlP mar th ne apa from by (try rw [show (0 : Int32).toInt = 0 from (show (0 : Int32).toInt = 0 from rfl)]); (first | exact ⟨by assumption, by omega⟩ | exact fun q => q.1 (by assumption) | exact fun q => absurd q.2 (by omega)))⟩)), ht⟩) (fun q h => by cases h) dX9_tooLike_29
    · have dc4 : apa.toInt < r2.toInt := nleC rfl rfl c4
      refine lv_iconst (v := 1) hx hb dX9_tooLike_24 (by decide) ?_
      refine lv_goto (tgt := 29) hx hb dX9_tooLike_25 (by decide) ?_
      exact W.zret (v := 1) hx hb hr (by decide) (fun tq ht hW => ⟨1, rfl, (Or.inl (⟨rfl, (show tlP mar th ne apa from by (try rw [show (1 : Int32).toInt = 1 from (show (1 : Int32).toInt = 1 from rfl)]); (first | exact ⟨by assumption, by omega⟩ | exact fun q => q.1 (by assumption) | exact fun q => absurd q.2 (by omega)))⟩)), ht⟩) (fun q h => by cases h) dX9_tooLike_29
set_option maxHeartbeats 4000000 in
set_option maxRecDepth 100000 in
theorem k_X9_barredByRoom2 (l : Launch) (dC : Nat → ClassId) (dI : Nat → Nat → Nat) (cI cZ cQ : ClassId) (a : Nat → Nat) (rb0 : Nat) (rb1 : Nat) (rb2 : Nat) (db0 : Nat) (db1 : Nat) (db2 : Nat) (top : Nat → Int32) (str : Nat → Int32) (gho : Nat → Int32) (ghs : Nat → Int32) (pto : Nat → Int32) (cro : Nat → Int32) (pla : Nat → Int32) (wal : Nat → Int32) (fal : Nat → Int32) (tel : Int32) (gai : Int32) (day : Int32) (mar : Nat → Int32) (mos : Nat → Int32) (wev : Nat → Int32) (aga : Int32) (apa : Int32) (lin : Int32) (co : Int32) (r_top : rg 48 (-1) (23) top) (r_str : rg 48 (0) (100) str) (r_gho : rg 48 (-1) (23) gho) (r_ghs : rg 48 (0) (100) ghs) (r_cro : rg 48 (0) (6) cro) (r_pla : rg 24 (-1) (47) pla) (r_fal : rg 11 (0) (30) fal) (r_gai : 0 ≤ gai.toInt ∧ gai.toInt ≤ 100) (r_day : 0 ≤ day.toInt ∧ day.toInt ≤ 400) (r_mar : rg 24 (0) (255) mar) (q0 : 0 ≤ co.toInt) (q1 : co.toInt ≤ 47) : KR l yX9_barredByRoom wsX9_barredByRoom { frames := 1, cells := 0, slots := 0, locals := 24 } (dC, dI) (TY cI cZ cQ) (wsCR cI cZ cQ a rb0 rb1 rb2 db0 db1 db2 top str gho ghs pto cro pla wal fal tel gai day mar mos wev aga apa lin) [.ref (a 43), .int co] (fun r : Int32 => ((((r = 1) ∧ (baR mos top co)) ∨ ((r = 0) ∧ (¬ baR mos top co))))) := by
  refine Met.ofW (cc := cX9_barredByRoom) (maxL := 4) (ret := (some .boolean)) (by decide) rfl ?_
  intro p e s m args below meth c s₁ B hml hv
  obtain ⟨rfl, hP, hK, hN⟩ := hv
  have hx := B.exec
  have hb := B.bytes
  have hr := B.returns
  have hts := atoms_spec (ws := wsX9_barredByRoom) B.pre
  have hown : s.vm.findClass RX9 = some m.cls := findClass_of_methodNamed B.named
  have hlocks := B.notSynchronized
  have lf76 := hts (.fieldLink RX9 76 "PalaceOfRooms" "rules" "LPalaceOfRooms$RuleBook;") (by decide +kernel)
  have inX9 : ∀ w ∈ wsX90, w ∈ wsX9_barredByRoom := by decide +kernel
  have lf288 := hN.use (w := .fieldLinkNest "PalaceOfRooms" 288 "PalaceOfRooms$RuleBook" "mostIn" "[I" "PalaceOfRooms") (by decide +kernel) ([.ref (a 43), .int co] : List Value).toArray
  have inX5 : ∀ w ∈ wsX50, w ∈ wsX9_barredByRoom := by decide +kernel
  have lf28 := hts (.fieldLink RX9 28 "PalaceOfRooms" "corners" "LPalaceOfRooms$Corners;") (by decide +kernel)
  have hl := lv_entry ([.ref (a 43), .int co]) (n := 4) (Nat.le_of_ble_eq_true rfl)
  rw [lg_entry_eq]
  generalize (lg_sl ([.ref (a 43), .int co]) ++ List.replicate (4 - (lg_sl ([.ref (a 43), .int co])).length) Slot.unset).toArray = ls at hl ⊢
  have hl : lv_has ls 4 [(0, .ref (a 43)), (1, .int co)] := hl
  refine lv_iload_n hx hb dX9_barredByRoom_0 rfl (lv_at hl 1 rfl) ?_
  refine lv_bipush (v := 6) hx hb dX9_barredByRoom_1 (by decide) ?_
  refine lv_idiv hx hb dX9_barredByRoom_3 (by decide) ?_
  have f1 : (co / 6).toInt = (co.toInt) / (6) := divC rfl (show (6 : Int32).toInt = 6 from rfl) (by omega) (by omega)
  refine lv_topi (fun x2 ex2 => ?_)
  have ix2 : x2.toInt = (co.toInt) / (6) := by rw [ex2]; exact f1
  refine lv_istore_n (lv' := [(2, .int x2), (0, .ref (a 43)), (1, .int co)]) hx hb dX9_barredByRoom_4 rfl hl (by decide) rfl (fun ls hl => ?_)
  refine lv_aload_n hx hb dX9_barredByRoom_5 rfl (lv_at hl 1 rfl) ?_
  refine va_get (D := (dC, dI)) (ci := 9) (v := .ref rb0) (C := RX9) (T := TX9) (N := 11) hx hb hts inX9 hown hK hP 0 rfl rfl 9 (by decide) lf76 (fun _ h9 => h9) rfl dX9_barredByRoom_6 ?_
  refine va_getN (D := (dC, dI)) (ci := 5) (v := .ref rb1) (C := RX5) (T := TX5) (N := 5) hx hb hts inX5 hown hK hP 13 rfl rfl 0 (by decide) lf288 (fun _ h9 => h9) rfl dX9_barredByRoom_9 ?_
  refine lv_iload_n hx hb dX9_barredByRoom_12 rfl (lv_at hl 0 rfl) ?_
  have b3 : vp_in x2 8 := inC rfl (by omega) (by omega)
  refine va_iald hx hb hK hP 14 0 rfl rfl b3 dX9_barredByRoom_13 ?_
  refine lv_topi (fun x4 ex4 => ?_)
  have ix4 : x4.toInt = (mos x2.toNatClampNeg).toInt := by rw [ex4]
  refine lv_istore_n (lv' := [(3, .int x4), (2, .int x2), (0, .ref (a 43)), (1, .int co)]) hx hb dX9_barredByRoom_14 rfl hl (by decide) rfl (fun ls hl => ?_)
  refine lv_iload_n hx hb dX9_barredByRoom_15 rfl (lv_at hl 0 rfl) ?_
  refine lv_iconst (v := (-1)) hx hb dX9_barredByRoom_16 (by decide) ?_
  refine lv_icmp_eq (tgt := 36) hx hb dX9_barredByRoom_17 (by decide) (fun c5 => ?_) (fun c5 => ?_)
  · have dc5 : x4.toInt = (-1) := eqC rfl (show ((-1) : Int32).toInt = (-1) from rfl) c5
    refine lv_iconst (v := 0) hx hb dX9_barredByRoom_36 (by decide) ?_
    exact W.zret (v := 0) hx hb hr (by decide) (fun tq ht hW => ⟨0, rfl, (Or.inr (⟨rfl, (show ¬ baR mos top co from by (try rw [show (0 : Int32).toInt = 0 from (show (0 : Int32).toInt = 0 from rfl)]); (first | exact ba_y (by assumption) (by assumption) (by assumption) (by assumption) (by omega) | exact ba_n1 (by assumption) (by assumption) (by assumption) | exact ba_n2 (by assumption) (by assumption) (by assumption) (by omega)))⟩)), ht⟩) (fun q h => by cases h) dX9_barredByRoom_37
  · have dc5 : x4.toInt ≠ (-1) := neC rfl (show ((-1) : Int32).toInt = (-1) from rfl) c5
    refine lv_aload_n hx hb dX9_barredByRoom_20 rfl (lv_at hl 2 rfl) ?_
    refine va_get (D := (dC, dI)) (ci := 9) (v := .ref (a 4)) (C := RX9) (T := TX9) (N := 11) hx hb hts inX9 hown hK hP 0 rfl rfl 2 (by decide) lf28 (fun _ h9 => h9) rfl dX9_barredByRoom_21 ?_
    refine lv_iload_n hx hb dX9_barredByRoom_24 rfl (lv_at hl 1 rfl) ?_
    refine rdV (As := [.int x2]) (rest := []) ⟨hx, hb, hml, hown, hts⟩ (k_X1_standingIn2 l dC dI cI cZ cQ a top str gho ghs pto cro pla wal fal tel gai day mar x2 r_top r_str r_gho r_ghs r_cro r_pla r_fal r_gai r_day r_mar (by omega) (by omega)) (cwV 1 hts gX9_barredByRoom_X1_standingIn rfl rfl rfl (by decide +kernel) ⟨Nat.le_of_ble_eq_true rfl, Nat.le_of_ble_eq_true rfl⟩) hP hK hN [1, 2, 3, 4, 5, 6, 7, 8, 9, 10, 11, 12] rfl 1 1 rfl rfl rfl hl.1 rfl (Nat.le_of_ble_eq_true rfl) dX9_barredByRoom_25 ⟨Nat.le_of_ble_eq_true rfl, Nat.le_of_ble_eq_true rfl⟩ (fun r6 h7 => ?_)
    have h7 : (0 ≤ r6.toInt) ∧ (r6.toInt ≤ 6) ∧ (r6.toInt = stF top (x2.toInt * 6).toNat 6) := h7
    obtain ⟨h7_0, h7_1, h7_2⟩ := h7
    refine lv_iload_n hx hb dX9_barredByRoom_28 rfl (lv_at hl 0 rfl) ?_
    refine lv_icmp_lt (tgt := 36) hx hb dX9_barredByRoom_29 (by decide) (fun c8 => ?_) (fun c8 => ?_)
    · have dc8 : r6.toInt < x4.toInt := ltC rfl rfl c8
      refine lv_iconst (v := 0) hx hb dX9_barredByRoom_36 (by decide) ?_
      exact W.zret (v := 0) hx hb hr (by decide) (fun tq ht hW => ⟨0, rfl, (Or.inr (⟨rfl, (show ¬ baR mos top co from by (try rw [show (0 : Int32).toInt = 0 from (show (0 : Int32).toInt = 0 from rfl)]); (first | exact ba_y (by assumption) (by assumption) (by assumption) (by assumption) (by omega) | exact ba_n1 (by assumption) (by assumption) (by assumption) | exact ba_n2 (by assumption) (by assumption) (by assumption) (by omega)))⟩)), ht⟩) (fun q h => by cases h) dX9_barredByRoom_37
    · have dc8 : x4.toInt ≤ r6.toInt := nltC rfl rfl c8
      refine lv_iconst (v := 1) hx hb dX9_barredByRoom_32 (by decide) ?_
      refine lv_goto (tgt := 37) hx hb dX9_barredByRoom_33 (by decide) ?_
      exact W.zret (v := 1) hx hb hr (by decide) (fun tq ht hW => ⟨1, rfl, (Or.inl (⟨rfl, (show baR mos top co from by (try rw [show (1 : Int32).toInt = 1 from (show (1 : Int32).toInt = 1 from rfl)]); (first | exact ba_y (by assumption) (by assumption) (by assumption) (by assumption) (by omega) | exact ba_n1 (by assumption) (by assumption) (by assumption) | exact ba_n2 (by assumption) (by assumption) (by assumption) (by omega)))⟩)), ht⟩) (fun q h => by cases h) dX9_barredByRoom_37
