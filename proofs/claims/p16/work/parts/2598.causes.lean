-- ===== CAUSES =====
def alk (mar : Nat → Int32) (tel x y : Int32) : Prop := tel.toInt ≤ (bc (mar x.toNatClampNeg &&& mar y.toNatClampNeg)).toInt
theorem alk_comm {mar : Nat → Int32} {tel x y : Int32} : alk mar tel x y ↔ alk mar tel y x := by unfold alk; rw [Int32.and_comm]
theorem alk_y {mar : Nat → Int32} {tel x T s : Int32} (e : x = T) (h : tel.toInt ≤ (bc (mar x.toNatClampNeg &&& mar s.toNatClampNeg)).toInt) : alk mar tel T s := by subst e; exact h
theorem alk_n {mar : Nat → Int32} {tel x T s : Int32} (e : x = T) (h : (bc (mar x.toNatClampNeg &&& mar s.toNatClampNeg)).toInt < tel.toInt) : ¬ alk mar tel T s := by subst e; exact Int.not_le.mpr h
theorem alkM_y {mar : Nat → Int32} {tel x y r : Int32} (e : r = bc (mar x.toNatClampNeg &&& mar y.toNatClampNeg)) (h : tel.toInt ≤ r.toInt) : alk mar tel x y := by subst e; exact h
theorem alkM_n {mar : Nat → Int32} {tel x y r : Int32} (e : r = bc (mar x.toNatClampNeg &&& mar y.toNatClampNeg)) (h : r.toInt < tel.toInt) : ¬ alk mar tel x y := by subst e; exact Int.not_le.mpr h
def thP (few : Nat → Int32) (c p : Int32) : Prop := (0 ≤ p.toInt ∧ p.toInt ≤ 47) ∧ p.toInt % 6 = c.toInt % 6 ∧ (few (p.toInt / 6 * 8 + c.toInt / 6).toNat).toInt = 1
def thQ (A B : Nat → Int32) (n : Int) (c p : Int32) : Prop := (0 ≤ p.toInt ∧ p.toInt ≤ 47) ∧ p.toInt % 6 = c.toInt % 6 ∧ eD A B n (p.toInt / 6) (c.toInt / 6)
theorem thP_y {few : Nat → Int32} {c p P u v : Int32} (e : p = P) (hp : 0 ≤ p.toInt ∧ p.toInt ≤ 47) (hm : p.toInt % 6 = c.toInt % 6) (hj : (few (u.toInt * 8 + v.toInt).toNat).toInt = 1) (hu : u.toInt = p.toInt / 6) (hv : v.toInt = c.toInt / 6) : thP few c P := by
  subst e; exact ⟨hp, hm, by rw [← hu, ← hv]; exact hj⟩
theorem thP_n1 {few : Nat → Int32} {c p P : Int32} (e : p = P) (hp : p.toInt < 0) : ¬ thP few c P := by
  subst e; intro h; have := h.1; omega
theorem thP_n2 {few : Nat → Int32} {c p P : Int32} (e : p = P) (hm : p.toInt % 6 ≠ c.toInt % 6) : ¬ thP few c P := by
  subst e; intro h; exact hm h.2.1
theorem thP_n3 {few : Nat → Int32} {c p P u v : Int32} (e : p = P) (hj : (few (u.toInt * 8 + v.toInt).toNat).toInt ≠ 1) (hu : u.toInt = p.toInt / 6) (hv : v.toInt = c.toInt / 6) : ¬ thP few c P := by
  subst e; intro h; have := h.2.2; rw [← hu, ← hv] at this; exact hj this
theorem thQ_y {A B : Nat → Int32} {n : Int} {c p u v : Int32} (hj : eD A B n u.toInt v.toInt) (hu : u.toInt = p.toInt / 6) (hv : v.toInt = c.toInt / 6) (hp : 0 ≤ p.toInt ∧ p.toInt ≤ 47) (hm : p.toInt % 6 = c.toInt % 6) : thQ A B n c p := ⟨hp, hm, by rw [← hu, ← hv]; exact hj⟩
theorem thQ_n {A B : Nat → Int32} {n : Int} {c p : Int32} (h : p.toInt < 0 ∨ p.toInt % 6 ≠ c.toInt % 6) : ¬ thQ A B n c p := fun q => by have := q.1; have := q.2.1; omega
theorem thQ_n3 {A B : Nat → Int32} {n : Int} {c p u v : Int32} (hj : ¬ eD A B n u.toInt v.toInt) (hu : u.toInt = p.toInt / 6) (hv : v.toInt = c.toInt / 6) : ¬ thQ A B n c p := fun q => by have := q.2.2; rw [← hu, ← hv] at this; exact hj this
/-- one cause: its weight where it holds -/
def wgt (P : Prop) (w a : Int) : Prop := (P ∧ a = w) ∨ (¬ P ∧ a = 0)
def cau (W : Int32 → Prop) (L G : Prop) (D : Int32 → Prop) (r : Int32) : Prop := ∃ p : Int32, W p ∧ ∃ a b d : Int, wgt L 1 a ∧ wgt G 2 b ∧ wgt (D p) 4 d ∧ r.toInt = a + b + d
def spCau (W : Int32 → Prop) (L G : Prop) (D : Int32 → Prop) (top : Nat → Int32) (c s r : Int32) : Prop := ((c.toInt < 0 ∨ 47 < c.toInt ∨ s.toInt < 0 ∨ 23 < s.toInt) ∧ r = -2) ∨ ((0 ≤ c.toInt ∧ c.toInt ≤ 47 ∧ 0 ≤ s.toInt ∧ s.toInt ≤ 23) ∧ (((top c.toNatClampNeg = -1 ∨ top c.toNatClampNeg = s) ∧ r = -4) ∨ ((top c.toNatClampNeg ≠ -1 ∧ top c.toNatClampNeg ≠ s) ∧ cau W L G D r)))
theorem cau2 {L G : Prop} {a b r : Int} (h : wgt L 1 a) (h2 : wgt G 2 b) (e : r = a + b) : ∃ a b : Int, wgt L 1 a ∧ wgt G 2 b ∧ r = a + b := ⟨a, b, h, h2, e⟩
theorem cau3 {W : Int32 → Prop} {L G : Prop} {D : Int32 → Prop} {p r : Int32} {q d : Int} (w : W p) (h : ∃ a b : Int, wgt L 1 a ∧ wgt G 2 b ∧ q = a + b) (h3 : wgt (D p) 4 d) (e : r.toInt = q + d) : cau W L G D r := by
  obtain ⟨a, b, x, y, z⟩ := h; exact ⟨p, w, a, b, d, x, y, h3, by omega⟩
theorem wgt_one {P Q : Prop} {w a b : Int} (h : P ↔ Q) (h1 : wgt P w a) (h2 : wgt Q w b) : a = b := by
  rcases h1 with ⟨p, e⟩ | ⟨p, e⟩ <;> rcases h2 with ⟨q, f⟩ | ⟨q, f⟩
  · rw [e, f]
  · exact absurd (h.mp p) q
  · exact absurd (h.mpr q) p
  · rw [e, f]
theorem spCau_rel {few A B mar mm top mt gho ghs str pto wal ms mg mf mp mw : Nat → Int32} {doo n tel mtel c s r r2 : Int32} (R : crR top str gho ghs pto wal mt ms mg mf mp mw) (em : mar = mm) (et : tel = mtel) (Rd : doR few doo A B n) (h1 : spCau (whu top s) (alk mar tel (top c.toNatClampNeg) s) (gho c.toNatClampNeg = s) (thP few c) top c s r) (h2 : spCau (whr mt s) (alk mm mtel s (mt c.toNatClampNeg)) (mg c.toNatClampNeg = s) (thQ A B n.toInt c) mt c s r2) : r = r2 := by
  subst em; subst et
  rcases h1 with ⟨a, b⟩ | ⟨a, b⟩
  · rcases h2 with ⟨a2, b2⟩ | ⟨a2, b2⟩
    · rw [b, b2]
    · exfalso; omega
  · rcases h2 with ⟨a2, b2⟩ | ⟨a2, b2⟩
    · exfalso; omega
    · have R1 := R.1 c.toNatClampNeg (by rw [clC (x := c) rfl]; omega)
      rw [← R1.1, ← R1.2.1] at b2
      rcases b with ⟨t, b⟩ | ⟨t, b⟩
      · rcases b2 with ⟨-, b2⟩ | ⟨u, -⟩
        · rw [b, b2]
        · rcases t with t | t
          · exact absurd t u.1
          · exact absurd t u.2
      · rcases b2 with ⟨u, -⟩ | ⟨-, b2⟩
        · rcases u with u | u
          · exact absurd u t.1
          · exact absurd u t.2
        · obtain ⟨p, wp, x, y, z, wx, wy, wz, b⟩ := b
          obtain ⟨p2, wp2, x2, y2, z2, vx, vy, vz, b2⟩ := b2
          have ep := wh_same (fun j hj => (R.1 j hj).1) wp wp2
          subst ep
          have key : thP few c p ↔ thQ A B n.toInt c p := by
            refine ⟨fun h => ⟨h.1, h.2.1, ?_⟩, fun h => ⟨h.1, h.2.1, ?_⟩⟩
            · have hp := h.1
              have e := (one_dd (few := few) (x := p / 6) (y := c / 6) ⟨by rw [divC rfl (show (6 : Int32).toInt = 6 from rfl) hp.1 (by decide)]; omega, by rw [divC rfl (show (6 : Int32).toInt = 6 from rfl) a.1 (by decide)]; omega⟩)
              rw [divC rfl (show (6 : Int32).toInt = 6 from rfl) hp.1 (by decide), divC rfl (show (6 : Int32).toInt = 6 from rfl) a.1 (by decide)] at e
              have := (Rd.2 _ _ (by omega) (by omega)).mp (e.mp h.2.2)
              rw [show (((p.toInt / 6).toNat : Nat) : Int) = p.toInt / 6 by omega, show (((c.toInt / 6).toNat : Nat) : Int) = c.toInt / 6 by omega] at this
              exact this
            · have hp := h.1
              have e := (one_dd (few := few) (x := p / 6) (y := c / 6) ⟨by rw [divC rfl (show (6 : Int32).toInt = 6 from rfl) hp.1 (by decide)]; omega, by rw [divC rfl (show (6 : Int32).toInt = 6 from rfl) a.1 (by decide)]; omega⟩)
              rw [divC rfl (show (6 : Int32).toInt = 6 from rfl) hp.1 (by decide), divC rfl (show (6 : Int32).toInt = 6 from rfl) a.1 (by decide)] at e
              refine e.mpr ((Rd.2 _ _ (by omega) (by omega)).mpr ?_)
              rw [show (((p.toInt / 6).toNat : Nat) : Int) = p.toInt / 6 by omega, show (((c.toInt / 6).toNat : Nat) : Int) = c.toInt / 6 by omega]
              exact h.2.2
          rw [wgt_one alk_comm wx vx, wgt_one Iff.rfl wy vy, wgt_one key wz vz] at b
          exact Int32.toInt_inj.mp (b.trans b2.symm)
set_option maxHeartbeats 4000000 in
set_option maxRecDepth 100000 in
theorem k_X9_standsThroughDoor2 (l : Launch) (dC : Nat → ClassId) (dI : Nat → Nat → Nat) (cI cZ cQ : ClassId) (a : Nat → Nat) (rb0 : Nat) (rb1 : Nat) (rb2 : Nat) (db0 : Nat) (db1 : Nat) (db2 : Nat) (top : Nat → Int32) (str : Nat → Int32) (gho : Nat → Int32) (ghs : Nat → Int32) (pto : Nat → Int32) (cro : Nat → Int32) (pla : Nat → Int32) (wal : Nat → Int32) (fal : Nat → Int32) (tel : Int32) (gai : Int32) (day : Int32) (mar : Nat → Int32) (few : Nat → Int32) (doo : Int32) (co : Int32) (th : Int32) (r_top : rg 48 (-1) (23) top) (r_str : rg 48 (0) (100) str) (r_gho : rg 48 (-1) (23) gho) (r_ghs : rg 48 (0) (100) ghs) (r_cro : rg 48 (0) (6) cro) (r_pla : rg 24 (-1) (47) pla) (r_fal : rg 11 (0) (30) fal) (r_gai : 0 ≤ gai.toInt ∧ gai.toInt ≤ 100) (r_day : 0 ≤ day.toInt ∧ day.toInt ≤ 400) (r_mar : rg 24 (0) (255) mar) (q0 : 0 ≤ co.toInt) (q1 : co.toInt ≤ 47) (q2 : 0 ≤ th.toInt) (q3 : th.toInt ≤ 23) : KR l yX9_standsThroughDoor wsX9_standsThroughDoor { frames := 2, cells := 0, slots := 0, locals := 44 } (dC, dI) (TY cI cZ cQ) (wsCW cI cZ cQ a rb0 rb1 rb2 db0 db1 db2 top str gho ghs pto cro pla wal fal tel gai day mar few doo) [.ref (a 43), .int co, .int th] (fun r : Int32 => ((((r = 1) ∧ (thP few co (pla th.toNatClampNeg))) ∨ ((r = 0) ∧ (¬ thP few co (pla th.toNatClampNeg)))))) := by
  refine Met.ofW (cc := cX9_standsThroughDoor) (maxL := 4) (ret := (some .boolean)) (by decide) rfl ?_
  intro p e s m args below meth c s₁ B hml hv
  obtain ⟨rfl, hP, hK, hN⟩ := hv
  have hx := B.exec
  have hb := B.bytes
  have hr := B.returns
  have hts := atoms_spec (ws := wsX9_standsThroughDoor) B.pre
  have hown : s.vm.findClass RX9 = some m.cls := findClass_of_methodNamed B.named
  have hlocks := B.notSynchronized
  have lf28 := hts (.fieldLink RX9 28 "PalaceOfRooms" "corners" "LPalaceOfRooms$Corners;") (List.mem_cons_of_mem _ (List.mem_append_left _ (List.mem_append_left _ (List.mem_append_left _ (List.mem_of_getElem? (i := 0) rfl)))))
  have inX9 : ∀ w ∈ wsX90, w ∈ wsX9_standsThroughDoor := fun w h => List.mem_cons_of_mem _ (List.mem_append_left _ (List.mem_append_left _ (List.mem_append_right _ h)))
  have lf128 := hN.use (w := .fieldLinkNest "PalaceOfRooms" 128 "PalaceOfRooms$Corners" "placeOf" "[I" "PalaceOfRooms") (List.mem_of_getElem? (i := 8) rfl) ([.ref (a 43), .int co, .int th] : List Value).toArray
  have inX1 : ∀ w ∈ wsX10, w ∈ wsX9_standsThroughDoor := fun w h => List.mem_cons_of_mem _ (List.mem_append_left _ (List.mem_append_right _ h))
  have lf12 := hts (.fieldLink RX9 12 "PalaceOfRooms" "ways" "LPalaceOfRooms$Ways;") (List.mem_cons_of_mem _ (List.mem_append_left _ (List.mem_append_left _ (List.mem_append_left _ (List.mem_of_getElem? (i := 1) rfl)))))
  have hl := lv_entry ([.ref (a 43), .int co, .int th]) (n := 4) (Nat.le_of_ble_eq_true rfl)
  rw [lg_entry_eq]
  generalize (lg_sl ([.ref (a 43), .int co, .int th]) ++ List.replicate (4 - (lg_sl ([.ref (a 43), .int co, .int th])).length) Slot.unset).toArray = ls at hl ⊢
  have hl : lv_has ls 4 [(0, .ref (a 43)), (1, .int co), (2, .int th)] := hl
  refine lv_aload_n hx hb dX9_standsThroughDoor_0 rfl (lv_at hl 0 rfl) ?_
  refine va_get (D := (dC, dI)) (ci := 9) (v := .ref (a 4)) (C := RX9) (T := TX9) (N := 11) hx hb hts inX9 hown hK hP 0 rfl rfl 2 (by decide) lf28 (fun _ h9 => h9) rfl dX9_standsThroughDoor_1 ?_
  refine va_getN (D := (dC, dI)) (ci := 1) (v := .ref (a 11)) (C := RX1) (T := TX1) (N := 13) hx hb hts inX1 hown hK hP 1 rfl rfl 7 (by decide) lf128 (fun _ h9 => h9) rfl dX9_standsThroughDoor_4 ?_
  refine lv_iload_n hx hb dX9_standsThroughDoor_7 rfl (lv_at hl 2 rfl) ?_
  have b1 : vp_in th 24 := inC rfl (by omega) (by omega)
  refine va_iald hx hb hK hP 8 0 rfl rfl b1 dX9_standsThroughDoor_8 ?_
  have g2 : -1 ≤ (pla th.toNatClampNeg).toInt ∧ (pla th.toNatClampNeg).toInt ≤ 47 := rg_at r_pla b1
  refine lv_topi (fun x3 ex3 => ?_)
  have ix3 : x3.toInt = (pla th.toNatClampNeg).toInt := by rw [ex3]
  refine lv_istore_n (lv' := [(3, .int x3), (0, .ref (a 43)), (1, .int co), (2, .int th)]) hx hb dX9_standsThroughDoor_9 rfl hl (by decide) rfl (fun ls hl => ?_)
  refine lv_iload_n hx hb dX9_standsThroughDoor_10 rfl (lv_at hl 0 rfl) ?_
  refine lv_iconst (v := (-1)) hx hb dX9_standsThroughDoor_11 (by decide) ?_
  refine lv_icmp_eq (tgt := 48) hx hb dX9_standsThroughDoor_12 (by decide) (fun c4 => ?_) (fun c4 => ?_)
  · have dc4 : x3.toInt = (-1) := eqC rfl (show ((-1) : Int32).toInt = (-1) from rfl) c4
    refine lv_iconst (v := 0) hx hb dX9_standsThroughDoor_48 (by decide) ?_
    exact W.zret (v := 0) hx hb hr (by decide) (fun tq ht hW => ⟨0, rfl, (Or.inr (⟨rfl, (show ¬ thP few co (pla th.toNatClampNeg) from by (try rw [show (0 : Int32).toInt = 0 from (show (0 : Int32).toInt = 0 from rfl)]); (first | exact thP_y (by assumption) (by omega) (by omega) (by assumption) (by assumption) (by assumption) | exact thP_n1 (by assumption) (by omega) | exact thP_n2 (by assumption) (by omega) | exact thP_n3 (by assumption) (by assumption) (by assumption) (by assumption)))⟩)), ht⟩) (fun q h => by cases h) dX9_standsThroughDoor_49
  · have dc4 : 0 ≤ x3.toInt := ka_lo (by omega) (neC rfl (show ((-1) : Int32).toInt = (-1) from rfl) c4)
    refine lv_iload_n hx hb dX9_standsThroughDoor_15 rfl (lv_at hl 0 rfl) ?_
    refine lv_bipush (v := 6) hx hb dX9_standsThroughDoor_16 (by decide) ?_
    refine lv_irem hx hb dX9_standsThroughDoor_18 (by decide) ?_
    have f5 : (x3 - x3 / 6 * 6).toInt = (x3.toInt) % (6) := remC rfl (show (6 : Int32).toInt = 6 from rfl) (by omega) (by omega)
    refine lv_iload_n hx hb dX9_standsThroughDoor_19 rfl (lv_at hl 2 rfl) ?_
    refine lv_bipush (v := 6) hx hb dX9_standsThroughDoor_20 (by decide) ?_
    refine lv_irem hx hb dX9_standsThroughDoor_22 (by decide) ?_
    have f6 : (co - co / 6 * 6).toInt = (co.toInt) % (6) := remC rfl (show (6 : Int32).toInt = 6 from rfl) (by omega) (by omega)
    refine lv_icmp_ne (tgt := 48) hx hb dX9_standsThroughDoor_23 (by decide) (fun c7 => ?_) (fun c7 => ?_)
    · have dc7 : (x3.toInt) % (6) ≠ (co.toInt) % (6) := neC f5 f6 c7
      refine lv_iconst (v := 0) hx hb dX9_standsThroughDoor_48 (by decide) ?_
      exact W.zret (v := 0) hx hb hr (by decide) (fun tq ht hW => ⟨0, rfl, (Or.inr (⟨rfl, (show ¬ thP few co (pla th.toNatClampNeg) from by (try rw [show (0 : Int32).toInt = 0 from (show (0 : Int32).toInt = 0 from rfl)]); (first | exact thP_y (by assumption) (by omega) (by omega) (by assumption) (by assumption) (by assumption) | exact thP_n1 (by assumption) (by omega) | exact thP_n2 (by assumption) (by omega) | exact thP_n3 (by assumption) (by assumption) (by assumption) (by assumption)))⟩)), ht⟩) (fun q h => by cases h) dX9_standsThroughDoor_49
    · have dc7 : (x3.toInt) % (6) = (co.toInt) % (6) := eqC f5 f6 c7
      refine lv_aload_n hx hb dX9_standsThroughDoor_26 rfl (lv_at hl 1 rfl) ?_
      refine va_get (D := (dC, dI)) (ci := 9) (v := .ref (a 0)) (C := RX9) (T := TX9) (N := 11) hx hb hts inX9 hown hK hP 0 rfl rfl 0 (by decide) lf12 (fun _ h9 => h9) rfl dX9_standsThroughDoor_27 ?_
      refine lv_iload_n hx hb dX9_standsThroughDoor_30 rfl (lv_at hl 0 rfl) ?_
      refine lv_bipush (v := 6) hx hb dX9_standsThroughDoor_31 (by decide) ?_
      refine lv_idiv hx hb dX9_standsThroughDoor_33 (by decide) ?_
      have f8 : (x3 / 6).toInt = (x3.toInt) / (6) := divC rfl (show (6 : Int32).toInt = 6 from rfl) (by omega) (by omega)
      refine lv_iload_n hx hb dX9_standsThroughDoor_34 rfl (lv_at hl 2 rfl) ?_
      refine lv_bipush (v := 6) hx hb dX9_standsThroughDoor_35 (by decide) ?_
      refine lv_idiv hx hb dX9_standsThroughDoor_37 (by decide) ?_
      have f9 : (co / 6).toInt = (co.toInt) / (6) := divC rfl (show (6 : Int32).toInt = 6 from rfl) (by omega) (by omega)
      refine rdV (As := [.int (x3 / 6), .int (co / 6)]) (rest := []) ⟨hx, hb, hml, hown, hts⟩ (k_X8_joined2 l dC dI cI cZ cQ a few doo (x3 / 6) (co / 6) (by omega) (by omega) (by omega) (by omega)) (cwV 2 hts gX9_standsThroughDoor_X8_joined rfl rfl rfl (by decide +kernel) ⟨Nat.le_of_ble_eq_true rfl, Nat.le_of_ble_eq_true rfl⟩) hP hK hN [13, 14] rfl 13 8 rfl rfl rfl hl.1 rfl (Nat.le_of_ble_eq_true rfl) dX9_standsThroughDoor_38 ⟨Nat.le_of_ble_eq_true rfl, Nat.le_of_ble_eq_true rfl⟩ (fun r10 h11 => ?_)
      have h11 : ((((r10 = 1) ∧ ((few ((x3 / 6).toInt * 8 + (co / 6).toInt).toNat).toInt = 1)) ∨ ((r10 = 0) ∧ ((few ((x3 / 6).toInt * 8 + (co / 6).toInt).toNat).toInt ≠ 1)))) := h11
      rcases h11 with (⟨rfl, h11_a0⟩ | ⟨rfl, h11_a0⟩)
      · refine lv_if_eq (tgt := 48) hx hb dX9_standsThroughDoor_41 (by decide) (fun c9 => absurd c9 (by decide)) (fun _ => ?_)
        refine lv_iconst (v := 1) hx hb dX9_standsThroughDoor_44 (by decide) ?_
        refine lv_goto (tgt := 49) hx hb dX9_standsThroughDoor_45 (by decide) ?_
        exact W.zret (v := 1) hx hb hr (by decide) (fun tq ht hW => ⟨1, rfl, (Or.inl (⟨rfl, (show thP few co (pla th.toNatClampNeg) from by (try rw [show (1 : Int32).toInt = 1 from (show (1 : Int32).toInt = 1 from rfl)]); (first | exact thP_y (by assumption) (by omega) (by omega) (by assumption) (by assumption) (by assumption) | exact thP_n1 (by assumption) (by omega) | exact thP_n2 (by assumption) (by omega) | exact thP_n3 (by assumption) (by assumption) (by assumption) (by assumption)))⟩)), ht⟩) (fun q h => by cases h) dX9_standsThroughDoor_49
      · refine lv_if_eq (tgt := 48) hx hb dX9_standsThroughDoor_41 (by decide) (fun _ => ?_) (fun c9 => absurd (by decide) c9)
        refine lv_iconst (v := 0) hx hb dX9_standsThroughDoor_48 (by decide) ?_
        exact W.zret (v := 0) hx hb hr (by decide) (fun tq ht hW => ⟨0, rfl, (Or.inr (⟨rfl, (show ¬ thP few co (pla th.toNatClampNeg) from by (try rw [show (0 : Int32).toInt = 0 from (show (0 : Int32).toInt = 0 from rfl)]); (first | exact thP_y (by assumption) (by omega) (by omega) (by assumption) (by assumption) (by assumption) | exact thP_n1 (by assumption) (by omega) | exact thP_n2 (by assumption) (by omega) | exact thP_n3 (by assumption) (by assumption) (by assumption) (by assumption)))⟩)), ht⟩) (fun q h => by cases h) dX9_standsThroughDoor_49
set_option maxHeartbeats 4000000 in
set_option maxRecDepth 100000 in
theorem k_X9_causes2 (l : Launch) (dC : Nat → ClassId) (dI : Nat → Nat → Nat) (cI cZ cQ : ClassId) (a : Nat → Nat) (rb0 : Nat) (rb1 : Nat) (rb2 : Nat) (db0 : Nat) (db1 : Nat) (db2 : Nat) (top : Nat → Int32) (str : Nat → Int32) (gho : Nat → Int32) (ghs : Nat → Int32) (pto : Nat → Int32) (cro : Nat → Int32) (pla : Nat → Int32) (wal : Nat → Int32) (fal : Nat → Int32) (tel : Int32) (gai : Int32) (day : Int32) (mar : Nat → Int32) (few : Nat → Int32) (doo : Int32) (co : Int32) (sa : Int32) (r_top : rg 48 (-1) (23) top) (r_str : rg 48 (0) (100) str) (r_gho : rg 48 (-1) (23) gho) (r_ghs : rg 48 (0) (100) ghs) (r_cro : rg 48 (0) (6) cro) (r_pla : rg 24 (-1) (47) pla) (r_fal : rg 11 (0) (30) fal) (r_gai : 0 ≤ gai.toInt ∧ gai.toInt ≤ 100) (r_day : 0 ≤ day.toInt ∧ day.toInt ≤ 400) (r_mar : rg 24 (0) (255) mar) (q0 : plOK top pla) : KR l yX9_causes wsX9_causes { frames := 3, cells := 0, slots := 0, locals := 67 } (dC, dI) (TY cI cZ cQ) (wsCW cI cZ cQ a rb0 rb1 rb2 db0 db1 db2 top str gho ghs pto cro pla wal fal tel gai day mar few doo) [.ref (a 43), .int co, .int sa] (fun r : Int32 => (spCau (whu top sa) (alk mar tel (top co.toNatClampNeg) sa) (gho co.toNatClampNeg = sa) (thP few co) top co sa r)) := by
  refine Met.ofW (cc := cX9_causes) (maxL := 5) (ret := (some .int)) (by decide) rfl ?_
  intro p e s m args below meth c s₁ B hml hv
  obtain ⟨rfl, hP, hK, hN⟩ := hv
  have hx := B.exec
  have hb := B.bytes
  have hr := B.returns
  have hts := atoms_spec (ws := wsX9_causes) B.pre
  have hown : s.vm.findClass RX9 = some m.cls := findClass_of_methodNamed B.named
  have hlocks := B.notSynchronized
  have lf28 := hts (.fieldLink RX9 28 "PalaceOfRooms" "corners" "LPalaceOfRooms$Corners;") (List.mem_cons_of_mem _ (List.mem_append_left _ (List.mem_append_left _ (List.mem_append_left _ (List.mem_append_left _ (List.mem_append_left _ (List.mem_of_getElem? (i := 0) rfl)))))))
  have inX9 : ∀ w ∈ wsX90, w ∈ wsX9_causes := fun w h => List.mem_cons_of_mem _ (List.mem_append_left _ (List.mem_append_left _ (List.mem_append_left _ (List.mem_append_right _ h))))
  have lf131 := hN.use (w := .fieldLinkNest "PalaceOfRooms" 131 "PalaceOfRooms$Corners" "top" "[I" "PalaceOfRooms") (List.mem_of_getElem? (i := 2) rfl) ([.ref (a 43), .int co, .int sa] : List Value).toArray
  have inX1 : ∀ w ∈ wsX10, w ∈ wsX9_causes := fun w h => List.mem_cons_of_mem _ (List.mem_append_left _ (List.mem_append_left _ (List.mem_append_right _ h)))
  have lf144 := hN.use (w := .fieldLinkNest "PalaceOfRooms" 144 "PalaceOfRooms$Corners" "ghost" "[I" "PalaceOfRooms") (List.mem_of_getElem? (i := 5) rfl) ([.ref (a 43), .int co, .int sa] : List Value).toArray
  have hl := lv_entry ([.ref (a 43), .int co, .int sa]) (n := 5) (Nat.le_of_ble_eq_true rfl)
  rw [lg_entry_eq]
  generalize (lg_sl ([.ref (a 43), .int co, .int sa]) ++ List.replicate (5 - (lg_sl ([.ref (a 43), .int co, .int sa])).length) Slot.unset).toArray = ls at hl ⊢
  have hl : lv_has ls 5 [(0, .ref (a 43)), (1, .int co), (2, .int sa)] := hl
  refine lv_iload_n hx hb dX9_causes_0 rfl (lv_at hl 1 rfl) ?_
  refine rdS (As := [.int co]) (rest := []) ⟨hx, hb, hml, hown, hts⟩ (k_X9_isCorner l dC dI cI cZ cQ co) (va_cwS 1 hts gX9_causes_X9_isCorner rfl rfl rfl (by decide +kernel) ⟨Nat.le_of_ble_eq_true rfl, Nat.le_of_ble_eq_true rfl⟩) hP hK hN [] rfl rfl hl.1 rfl (Nat.le_of_ble_eq_true rfl) dX9_causes_1 ⟨Nat.le_of_ble_eq_true rfl, Nat.le_of_ble_eq_true rfl⟩ (fun r1 h2 => ?_)
  have h2 : ((((r1 = 1) ∧ (0 ≤ co.toInt) ∧ (co.toInt ≤ 47)) ∨ ((r1 = 0) ∧ (co.toInt < 0 ∨ 47 < co.toInt)))) := h2
  rcases h2 with (⟨rfl, h2_a0, h2_a1⟩ | ⟨rfl, h2_a0⟩)
  · refine lv_if_eq (tgt := 14) hx hb dX9_causes_4 (by decide) (fun c9 => absurd c9 (by decide)) (fun _ => ?_)
    refine lv_iload_n hx hb dX9_causes_7 rfl (lv_at hl 2 rfl) ?_
    refine rdS (As := [.int sa]) (rest := []) ⟨hx, hb, hml, hown, hts⟩ (k_X9_isThing l dC dI cI cZ cQ sa) (va_cwS 1 hts gX9_causes_X9_isThing rfl rfl rfl (by decide +kernel) ⟨Nat.le_of_ble_eq_true rfl, Nat.le_of_ble_eq_true rfl⟩) hP hK hN [] rfl rfl hl.1 rfl (Nat.le_of_ble_eq_true rfl) dX9_causes_8 ⟨Nat.le_of_ble_eq_true rfl, Nat.le_of_ble_eq_true rfl⟩ (fun r3 h4 => ?_)
    have h4 : ((((r3 = 1) ∧ (0 ≤ sa.toInt) ∧ (sa.toInt ≤ 23)) ∨ ((r3 = 0) ∧ (sa.toInt < 0 ∨ 23 < sa.toInt)))) := h4
    rcases h4 with (⟨rfl, h4_a0, h4_a1⟩ | ⟨rfl, h4_a0⟩)
    · refine lv_if_ne (tgt := 17) hx hb dX9_causes_11 (by decide) (fun _ => ?_) (fun c9 => absurd c9 (by decide))
      refine lv_aload_n hx hb dX9_causes_17 rfl (lv_at hl 0 rfl) ?_
      refine va_get (D := (dC, dI)) (ci := 9) (v := .ref (a 4)) (C := RX9) (T := TX9) (N := 11) hx hb hts inX9 hown hK hP 0 rfl rfl 2 (by decide) lf28 (fun _ h9 => h9) rfl dX9_causes_18 ?_
      refine va_getN (D := (dC, dI)) (ci := 1) (v := .ref (a 5)) (C := RX1) (T := TX1) (N := 13) hx hb hts inX1 hown hK hP 1 rfl rfl 1 (by decide) lf131 (fun _ h9 => h9) rfl dX9_causes_21 ?_
      refine lv_iload_n hx hb dX9_causes_24 rfl (lv_at hl 1 rfl) ?_
      have b5 : vp_in co 48 := inC rfl (by omega) (by omega)
      refine va_iald hx hb hK hP 2 0 rfl rfl b5 dX9_causes_25 ?_
      have g6 : -1 ≤ (top co.toNatClampNeg).toInt ∧ (top co.toNatClampNeg).toInt ≤ 23 := rg_at r_top b5
      refine lv_topi (fun x7 ex7 => ?_)
      have ix7 : x7.toInt = (top co.toNatClampNeg).toInt := by rw [ex7]
      refine lv_istore_n (lv' := [(3, .int x7), (0, .ref (a 43)), (1, .int co), (2, .int sa)]) hx hb dX9_causes_26 rfl hl (by decide) rfl (fun ls hl => ?_)
      refine lv_iload_n hx hb dX9_causes_27 rfl (lv_at hl 0 rfl) ?_
      refine lv_iconst (v := (-1)) hx hb dX9_causes_28 (by decide) ?_
      refine lv_icmp_eq (tgt := 37) hx hb dX9_causes_29 (by decide) (fun c8 => ?_) (fun c8 => ?_)
      · have dc8 : x7.toInt = (-1) := eqC rfl (show ((-1) : Int32).toInt = (-1) from rfl) c8
        refine lv_bipush (v := (-4)) hx hb dX9_causes_37 (by decide) ?_
        exact W.iret (v := (-4)) hx hb hr (fun tq ht hW => ⟨(-4), rfl, (show spCau (whu top sa) (alk mar tel (top co.toNatClampNeg) sa) (gho co.toNatClampNeg = sa) (thP few co) top co sa ((-4) : Int32) from by (try rw [show ((-4) : Int32).toInt = (-4) from (show ((-4) : Int32).toInt = (-4) from rfl)]); (first | exact Or.inr ⟨by omega, Or.inr ⟨nt, cau3 (pl_u q0 (by omega) (by omega)) i74_2 (Or.inl ⟨by assumption, rfl⟩) (by omega)⟩⟩ | exact Or.inr ⟨by omega, Or.inr ⟨nt, cau3 (pl_u q0 (by omega) (by omega)) i74_2 (Or.inr ⟨by assumption, rfl⟩) (by omega)⟩⟩ | exact Or.inl ⟨by omega, rfl⟩ | exact Or.inr ⟨by omega, Or.inl ⟨(by subst_vars; first | exact Or.inr rfl | exact Or.inl (by (first | assumption | exact Eq.symm (by assumption))) | exact Or.inr (by (first | assumption | exact Eq.symm (by assumption)))), rfl⟩⟩)), ht⟩) (fun q h => by cases h) dX9_causes_39
      · have dc8 : 0 ≤ x7.toInt := ka_lo (by omega) (neC rfl (show ((-1) : Int32).toInt = (-1) from rfl) c8)
        refine lv_iload_n hx hb dX9_causes_32 rfl (lv_at hl 0 rfl) ?_
        refine lv_iload_n hx hb dX9_causes_33 rfl (lv_at hl 3 rfl) ?_
        refine lv_icmp_ne (tgt := 40) hx hb dX9_causes_34 (by decide) (fun c9 => ?_) (fun c9 => ?_)
        · have dc9 : x7.toInt ≠ sa.toInt := neC rfl rfl c9
          have nt : top co.toNatClampNeg ≠ -1 ∧ top co.toNatClampNeg ≠ sa := (by subst_vars; exact ⟨by assumption, by assumption⟩)
          refine lv_iconst (v := 0) hx hb dX9_causes_40 (by decide) ?_
          refine lv_istore (lv' := [(4, .int 0), (3, .int x7), (0, .ref (a 43)), (1, .int co), (2, .int sa)]) hx hb dX9_causes_41 hl (by decide) rfl (fun ls hl => ?_)
          have L58 : ∀ (y58_4 : Int32) (ls : Array Slot), (0 ≤ (y58_4.toInt)) → ((y58_4.toInt) ≤ 1) → (wgt (alk mar tel (top co.toNatClampNeg) sa) 1 (y58_4.toInt)) → lv_has ls 5 [(0, .ref (a 43)), (1, .int co), (2, .int sa), (4, .int y58_4)] → W p l e (headSpec wsX9_causes { frames := 3, cells := 0, slots := 0, locals := 67 }).room s m ([.ref (a 43), .int co, .int sa] : List Value).toArray below meth c s.heap [] 0 0 (MQ below (QR (fun r : Int32 => (spCau (whu top sa) (alk mar tel (top co.toNatClampNeg) sa) (gho co.toNatClampNeg = sa) (thP few co) top co sa r))) ([.ref (a 43), .int co, .int sa] : List Value).toArray s 0 0 (fun _ => False)) (F0 m 58 ls []) := by
            intro y58_4 ls i58_0 i58_1 i58_2 hl
            have L74 : ∀ (y74_4 : Int32) (ls : Array Slot), (0 ≤ (y74_4.toInt)) → ((y74_4.toInt) ≤ 3) → (∃ a b : Int, wgt (alk mar tel (top co.toNatClampNeg) sa) 1 a ∧ wgt (gho co.toNatClampNeg = sa) 2 b ∧ (y74_4.toInt) = a + b) → lv_has ls 5 [(0, .ref (a 43)), (1, .int co), (2, .int sa), (4, .int y74_4)] → W p l e (headSpec wsX9_causes { frames := 3, cells := 0, slots := 0, locals := 67 }).room s m ([.ref (a 43), .int co, .int sa] : List Value).toArray below meth c s.heap [] 0 0 (MQ below (QR (fun r : Int32 => (spCau (whu top sa) (alk mar tel (top co.toNatClampNeg) sa) (gho co.toNatClampNeg = sa) (thP few co) top co sa r))) ([.ref (a 43), .int co, .int sa] : List Value).toArray s 0 0 (fun _ => False)) (F0 m 74 ls []) := by
              intro y74_4 ls i74_0 i74_1 i74_2 hl
              refine lv_aload_n hx hb dX9_causes_74 rfl (lv_at hl 0 rfl) ?_
              refine lv_iload_n hx hb dX9_causes_75 rfl (lv_at hl 1 rfl) ?_
              refine lv_iload_n hx hb dX9_causes_76 rfl (lv_at hl 2 rfl) ?_
              refine rdV (As := [.int co, .int sa]) (rest := []) ⟨hx, hb, hml, hown, hts⟩ (k_X9_standsThroughDoor2 l dC dI cI cZ cQ a rb0 rb1 rb2 db0 db1 db2 top str gho ghs pto cro pla wal fal tel gai day mar few doo co sa r_top r_str r_gho r_ghs r_cro r_pla r_fal r_gai r_day r_mar (by omega) (by omega) (by omega) (by omega)) (cwV 2 hts gX9_causes_X9_standsThroughDoor rfl rfl rfl (by decide +kernel) ⟨Nat.le_of_ble_eq_true rfl, Nat.le_of_ble_eq_true rfl⟩) hP hK hN [0, 1, 2, 3, 4, 5, 6, 7, 8, 9, 10, 11, 12, 13, 14] rfl 0 9 rfl rfl rfl hl.1 rfl (Nat.le_of_ble_eq_true rfl) dX9_causes_77 ⟨Nat.le_of_ble_eq_true rfl, Nat.le_of_ble_eq_true rfl⟩ (fun r10 h11 => ?_)
              have h11 : ((((r10 = 1) ∧ (thP few co (pla sa.toNatClampNeg))) ∨ ((r10 = 0) ∧ (¬ thP few co (pla sa.toNatClampNeg))))) := h11
              rcases h11 with (⟨rfl, h11_a0⟩ | ⟨rfl, h11_a0⟩)
              · refine lv_if_eq (tgt := 86) hx hb dX9_causes_80 (by decide) (fun c9 => absurd c9 (by decide)) (fun _ => ?_)
                obtain ⟨z12, ez12⟩ : ∃ y : Int32, y = y74_4 + 4 := ⟨_, rfl⟩
                have iz12 : z12.toInt = y74_4.toInt + 4 := by rw [ez12]; exact addC rfl rfl (by omega) (by omega)
                refine lv_iinc (v := z12) (lv' := [(4, .int z12), (0, .ref (a 43)), (1, .int co), (2, .int sa)]) hx hb dX9_causes_83 hl (k := 3) rfl (by rw [ez12]; rfl) (by decide) rfl (fun ls hl => ?_)
                refine lv_iload hx hb dX9_causes_86 (lv_at hl 0 rfl) ?_
                exact W.iret (v := z12) hx hb hr (fun tq ht hW => ⟨z12, rfl, (show spCau (whu top sa) (alk mar tel (top co.toNatClampNeg) sa) (gho co.toNatClampNeg = sa) (thP few co) top co sa z12 from by (first | exact Or.inr ⟨by omega, Or.inr ⟨nt, cau3 (pl_u q0 (by omega) (by omega)) i74_2 (Or.inl ⟨by assumption, rfl⟩) (by omega)⟩⟩ | exact Or.inr ⟨by omega, Or.inr ⟨nt, cau3 (pl_u q0 (by omega) (by omega)) i74_2 (Or.inr ⟨by assumption, rfl⟩) (by omega)⟩⟩ | exact Or.inl ⟨by omega, rfl⟩ | exact Or.inr ⟨by omega, Or.inl ⟨(by subst_vars; first | exact Or.inr rfl | exact Or.inl (by (first | assumption | exact Eq.symm (by assumption))) | exact Or.inr (by (first | assumption | exact Eq.symm (by assumption)))), rfl⟩⟩)), ht⟩) (fun q h => by cases h) dX9_causes_88
              · refine lv_if_eq (tgt := 86) hx hb dX9_causes_80 (by decide) (fun _ => ?_) (fun c9 => absurd (by decide) c9)
                refine lv_iload hx hb dX9_causes_86 (lv_at hl 3 rfl) ?_
                exact W.iret (v := y74_4) hx hb hr (fun tq ht hW => ⟨y74_4, rfl, (show spCau (whu top sa) (alk mar tel (top co.toNatClampNeg) sa) (gho co.toNatClampNeg = sa) (thP few co) top co sa y74_4 from by (first | exact Or.inr ⟨by omega, Or.inr ⟨nt, cau3 (pl_u q0 (by omega) (by omega)) i74_2 (Or.inl ⟨by assumption, rfl⟩) (by omega)⟩⟩ | exact Or.inr ⟨by omega, Or.inr ⟨nt, cau3 (pl_u q0 (by omega) (by omega)) i74_2 (Or.inr ⟨by assumption, rfl⟩) (by omega)⟩⟩ | exact Or.inl ⟨by omega, rfl⟩ | exact Or.inr ⟨by omega, Or.inl ⟨(by subst_vars; first | exact Or.inr rfl | exact Or.inl (by (first | assumption | exact Eq.symm (by assumption))) | exact Or.inr (by (first | assumption | exact Eq.symm (by assumption)))), rfl⟩⟩)), ht⟩) (fun q h => by cases h) dX9_causes_88
            refine lv_aload_n hx hb dX9_causes_58 rfl (lv_at hl 0 rfl) ?_
            refine va_get (D := (dC, dI)) (ci := 9) (v := .ref (a 4)) (C := RX9) (T := TX9) (N := 11) hx hb hts inX9 hown hK hP 0 rfl rfl 2 (by decide) lf28 (fun _ h9 => h9) rfl dX9_causes_59 ?_
            refine va_getN (D := (dC, dI)) (ci := 1) (v := .ref (a 7)) (C := RX1) (T := TX1) (N := 13) hx hb hts inX1 hown hK hP 1 rfl rfl 3 (by decide) lf144 (fun _ h9 => h9) rfl dX9_causes_62 ?_
            refine lv_iload_n hx hb dX9_causes_65 rfl (lv_at hl 1 rfl) ?_
            have b13 : vp_in co 48 := inC rfl (by omega) (by omega)
            refine va_iald hx hb hK hP 4 0 rfl rfl b13 dX9_causes_66 ?_
            have g14 : -1 ≤ (gho co.toNatClampNeg).toInt ∧ (gho co.toNatClampNeg).toInt ≤ 23 := rg_at r_gho b13
            refine lv_iload_n hx hb dX9_causes_67 rfl (lv_at hl 2 rfl) ?_
            refine lv_icmp_ne (tgt := 74) hx hb dX9_causes_68 (by decide) (fun c15 => ?_) (fun c15 => ?_)
            · have dc15 : (gho co.toNatClampNeg).toInt ≠ sa.toInt := neC rfl rfl c15
              exact L74 y58_4 _ (by omega) (by omega) (by (first | exact cau2 i58_2 (Or.inl ⟨by assumption, rfl⟩) (by omega) | exact cau2 i58_2 (Or.inr ⟨by assumption, rfl⟩) (by omega))) (lv_sub hl [0, 1, 2, 3] rfl)
            · have dc15 : (gho co.toNatClampNeg).toInt = sa.toInt := eqC rfl rfl c15
              obtain ⟨z16, ez16⟩ : ∃ y : Int32, y = y58_4 + 2 := ⟨_, rfl⟩
              have iz16 : z16.toInt = y58_4.toInt + 2 := by rw [ez16]; exact addC rfl rfl (by omega) (by omega)
              refine lv_iinc (v := z16) (lv' := [(4, .int z16), (0, .ref (a 43)), (1, .int co), (2, .int sa)]) hx hb dX9_causes_71 hl (k := 3) rfl (by rw [ez16]; rfl) (by decide) rfl (fun ls hl => ?_)
              exact L74 z16 _ (by omega) (by omega) (by (first | exact cau2 i58_2 (Or.inl ⟨by assumption, rfl⟩) (by omega) | exact cau2 i58_2 (Or.inr ⟨by assumption, rfl⟩) (by omega))) (lv_sub hl [1, 2, 3, 0] rfl)
          refine lv_aload_n hx hb dX9_causes_43 rfl (lv_at hl 2 rfl) ?_
          refine va_get (D := (dC, dI)) (ci := 9) (v := .ref (a 4)) (C := RX9) (T := TX9) (N := 11) hx hb hts inX9 hown hK hP 0 rfl rfl 2 (by decide) lf28 (fun _ h9 => h9) rfl dX9_causes_44 ?_
          refine lv_iload_n hx hb dX9_causes_47 rfl (lv_at hl 1 rfl) ?_
          refine lv_iload_n hx hb dX9_causes_48 rfl (lv_at hl 4 rfl) ?_
          refine rdV (As := [.int x7, .int sa]) (rest := []) ⟨hx, hb, hml, hown, hts⟩ (k_X1_muchAlike2 l dC dI cI cZ cQ a top str gho ghs pto cro pla wal fal tel gai day mar x7 sa r_top r_str r_gho r_ghs r_cro r_pla r_fal r_gai r_day r_mar (by omega) (by omega) (by omega) (by omega)) (cwV 2 hts gX9_causes_X1_muchAlike rfl rfl rfl (by decide +kernel) ⟨Nat.le_of_ble_eq_true rfl, Nat.le_of_ble_eq_true rfl⟩) hP hK hN [1, 2, 3, 4, 5, 6, 7, 8, 9, 10, 11, 12] rfl 1 1 rfl rfl rfl hl.1 rfl (Nat.le_of_ble_eq_true rfl) dX9_causes_49 ⟨Nat.le_of_ble_eq_true rfl, Nat.le_of_ble_eq_true rfl⟩ (fun r17 h18 => ?_)
          have h18 : ((((r17 = 1) ∧ (tel.toInt ≤ (bc (mar x7.toNatClampNeg &&& mar sa.toNatClampNeg)).toInt)) ∨ ((r17 = 0) ∧ ((bc (mar x7.toNatClampNeg &&& mar sa.toNatClampNeg)).toInt < tel.toInt)))) := h18
          rcases h18 with (⟨rfl, h18_a0⟩ | ⟨rfl, h18_a0⟩)
          · refine lv_if_eq (tgt := 58) hx hb dX9_causes_52 (by decide) (fun c9 => absurd c9 (by decide)) (fun _ => ?_)
            obtain ⟨z19, ez19⟩ : ∃ y : Int32, y = 0 + 1 := ⟨_, rfl⟩
            have iz19 : z19.toInt = 0 + 1 := by rw [ez19]; exact addC (show (0 : Int32).toInt = 0 from rfl) rfl (by omega) (by omega)
            refine lv_iinc (v := z19) (lv' := [(4, .int z19), (3, .int x7), (0, .ref (a 43)), (1, .int co), (2, .int sa)]) hx hb dX9_causes_55 hl (k := 0) rfl (by rw [ez19]; rfl) (by decide) rfl (fun ls hl => ?_)
            exact L58 z19 _ (by omega) (by omega) (by (first | exact Or.inl ⟨alk_y (by assumption) (by assumption), by first | rfl | omega⟩ | exact Or.inr ⟨alk_n (by assumption) (by assumption), by first | rfl | omega⟩)) (lv_sub hl [2, 3, 4, 0] rfl)
          · refine lv_if_eq (tgt := 58) hx hb dX9_causes_52 (by decide) (fun _ => ?_) (fun c9 => absurd (by decide) c9)
            have kc20 : (0 : Int32).toInt = 0 := rfl
            exact L58 0 _ (by omega) (by omega) (by (first | exact Or.inl ⟨alk_y (by assumption) (by assumption), by first | rfl | omega⟩ | exact Or.inr ⟨alk_n (by assumption) (by assumption), by first | rfl | omega⟩)) (lv_sub hl [2, 3, 4, 0] rfl)
        · have dc9 : x7.toInt = sa.toInt := eqC rfl rfl c9
          refine lv_bipush (v := (-4)) hx hb dX9_causes_37 (by decide) ?_
          exact W.iret (v := (-4)) hx hb hr (fun tq ht hW => ⟨(-4), rfl, (show spCau (whu top sa) (alk mar tel (top co.toNatClampNeg) sa) (gho co.toNatClampNeg = sa) (thP few co) top co sa ((-4) : Int32) from by (try rw [show ((-4) : Int32).toInt = (-4) from (show ((-4) : Int32).toInt = (-4) from rfl)]); (first | exact Or.inr ⟨by omega, Or.inr ⟨nt, cau3 (pl_u q0 (by omega) (by omega)) i74_2 (Or.inl ⟨by assumption, rfl⟩) (by omega)⟩⟩ | exact Or.inr ⟨by omega, Or.inr ⟨nt, cau3 (pl_u q0 (by omega) (by omega)) i74_2 (Or.inr ⟨by assumption, rfl⟩) (by omega)⟩⟩ | exact Or.inl ⟨by omega, rfl⟩ | exact Or.inr ⟨by omega, Or.inl ⟨(by subst_vars; first | exact Or.inr rfl | exact Or.inl (by (first | assumption | exact Eq.symm (by assumption))) | exact Or.inr (by (first | assumption | exact Eq.symm (by assumption)))), rfl⟩⟩)), ht⟩) (fun q h => by cases h) dX9_causes_39
    · refine lv_if_ne (tgt := 17) hx hb dX9_causes_11 (by decide) (fun c9 => absurd (by decide) c9) (fun _ => ?_)
      refine lv_bipush (v := (-2)) hx hb dX9_causes_14 (by decide) ?_
      exact W.iret (v := (-2)) hx hb hr (fun tq ht hW => ⟨(-2), rfl, (show spCau (whu top sa) (alk mar tel (top co.toNatClampNeg) sa) (gho co.toNatClampNeg = sa) (thP few co) top co sa ((-2) : Int32) from by (try rw [show ((-2) : Int32).toInt = (-2) from (show ((-2) : Int32).toInt = (-2) from rfl)]); (first | exact Or.inr ⟨by omega, Or.inr ⟨nt, cau3 (pl_u q0 (by omega) (by omega)) i74_2 (Or.inl ⟨by assumption, rfl⟩) (by omega)⟩⟩ | exact Or.inr ⟨by omega, Or.inr ⟨nt, cau3 (pl_u q0 (by omega) (by omega)) i74_2 (Or.inr ⟨by assumption, rfl⟩) (by omega)⟩⟩ | exact Or.inl ⟨by omega, rfl⟩ | exact Or.inr ⟨by omega, Or.inl ⟨(by subst_vars; first | exact Or.inr rfl | exact Or.inl (by (first | assumption | exact Eq.symm (by assumption))) | exact Or.inr (by (first | assumption | exact Eq.symm (by assumption)))), rfl⟩⟩)), ht⟩) (fun q h => by cases h) dX9_causes_16
  · refine lv_if_eq (tgt := 14) hx hb dX9_causes_4 (by decide) (fun _ => ?_) (fun c9 => absurd (by decide) c9)
    refine lv_bipush (v := (-2)) hx hb dX9_causes_14 (by decide) ?_
    exact W.iret (v := (-2)) hx hb hr (fun tq ht hW => ⟨(-2), rfl, (show spCau (whu top sa) (alk mar tel (top co.toNatClampNeg) sa) (gho co.toNatClampNeg = sa) (thP few co) top co sa ((-2) : Int32) from by (try rw [show ((-2) : Int32).toInt = (-2) from (show ((-2) : Int32).toInt = (-2) from rfl)]); (first | exact Or.inr ⟨by omega, Or.inr ⟨nt, cau3 (pl_u q0 (by omega) (by omega)) i74_2 (Or.inl ⟨by assumption, rfl⟩) (by omega)⟩⟩ | exact Or.inr ⟨by omega, Or.inr ⟨nt, cau3 (pl_u q0 (by omega) (by omega)) i74_2 (Or.inr ⟨by assumption, rfl⟩) (by omega)⟩⟩ | exact Or.inl ⟨by omega, rfl⟩ | exact Or.inr ⟨by omega, Or.inl ⟨(by subst_vars; first | exact Or.inr rfl | exact Or.inl (by (first | assumption | exact Eq.symm (by assumption))) | exact Or.inr (by (first | assumption | exact Eq.symm (by assumption)))), rfl⟩⟩)), ht⟩) (fun q h => by cases h) dX9_causes_16
set_option maxHeartbeats 4000000 in
set_option maxRecDepth 100000 in
theorem k_X10_causes2 (l : Launch) (dC : Nat → ClassId) (dI : Nat → Nat → Nat) (cI cZ cQ : ClassId) (b : Nat → Nat) (mday : Int32) (mdoo : Int32) (mdA : Nat → Int32) (mdB : Nat → Int32) (mfar : Nat → Int32) (mmar : Nat → Int32) (mtel : Int32) (mgai : Int32) (mfal : Nat → Int32) (mtop : Nat → Int32) (mstr : Nat → Int32) (mgho : Nat → Int32) (mfai : Nat → Int32) (mpto : Nat → Int32) (mwal : Nat → Int32) (mahd : Nat → Int32) (mahf : Nat → Int32) (mcho : Nat → Int32) (mbes : Nat → Int32) (mbyt : Int32) (mtxt : Nat → Int32) (mpos : Int32) (mtka : Int32) (mtok : Int64) (mdig : Int32) (mnum : Int32) (mfau : Int32) (mrdm : Int32) (mrea : Nat → Int32) (mlin : Int32) (mlne : Nat → Int32) (mthg : Nat → Int32) (mord : Nat → Int32) (mbor : Nat → Int32) (mbsm : Int32) (mans : Nat → Int32) (mand : Nat → Int32) (manr : Nat → Int32) (mali : Nat → Int32) (co : Int32) (sa : Int32) (r_mday : 0 ≤ mday.toInt ∧ mday.toInt ≤ 400) (r_mdoo : 0 ≤ mdoo.toInt ∧ mdoo.toInt ≤ 14) (r_mdA : rg 14 (0) (7) mdA) (r_mdB : rg 14 (0) (7) mdB) (r_mmar : rg 24 (0) (255) mmar) (r_mgai : 0 ≤ mgai.toInt ∧ mgai.toInt ≤ 100) (r_mfal : rg 11 (0) (30) mfal) (r_mtop : rg 48 (-1) (23) mtop) (r_mstr : rg 48 (0) (100) mstr) (r_mgho : rg 48 (-1) (23) mgho) (r_mfai : rg 48 (0) (100) mfai) (r_mahd : rg 240 (0) (100) mahd) (r_mahf : rg 240 (0) (100) mahf) (r_mcho : rg 5 (-1) (9) mcho) (r_mbyt : 0 ≤ mbyt.toInt ∧ mbyt.toInt ≤ 160) (r_mpos : 0 ≤ mpos.toInt ∧ mpos.toInt ≤ 160) (r_mrdm : 0 ≤ mrdm.toInt ∧ mrdm.toInt ≤ 10) (r_mlin : 0 ≤ mlin.toInt ∧ mlin.toInt ≤ 10) (r_mthg : rg 8 (0) (31) mthg) (r_mord : rg 8 (-1) (8) mord) (r_mans : rg 4 (0) (12) mans) : KR l yX10_causes wsX10_causes { frames := 2, cells := 0, slots := 0, locals := 42 } (dC, dI) (TY cI cZ cQ) (wMod cI cZ cQ b mday mdoo mdA mdB mfar mmar mtel mgai mfal mtop mstr mgho mfai mpto mwal mahd mahf mcho mbes mbyt mtxt mpos mtka mtok mdig mnum mfau mrdm mrea mlin mlne mthg mord mbor mbsm mans mand manr mali) [.ref (b 39), .int co, .int sa] (fun r : Int32 => (spCau (whr mtop sa) (alk mmar mtel sa (mtop co.toNatClampNeg)) (mgho co.toNatClampNeg = sa) (thQ mdA mdB mdoo.toInt co) mtop co sa r)) := by
  refine Met.ofW (cc := cX10_causes) (maxL := 5) (ret := (some .int)) (by decide) rfl ?_
  intro p e s m args below meth c s₁ B hml hv
  obtain ⟨rfl, hP, hK, hN⟩ := hv
  have hx := B.exec
  have hb := B.bytes
  have hr := B.returns
  have hts := atoms_spec (ws := wsX10_causes) B.pre
  have hown : s.vm.findClass RX10 = some m.cls := findClass_of_methodNamed B.named
  have hlocks := B.notSynchronized
  have lf32 := hts (.fieldLink RX10 32 "PalaceOfRoomsModel" "top" "[I") (List.mem_cons_of_mem _ (List.mem_append_left _ (List.mem_append_left _ (List.mem_of_getElem? (i := 0) rfl))))
  have inX10 : ∀ w ∈ wsX100, w ∈ wsX10_causes := fun w h => List.mem_cons_of_mem _ (List.mem_append_right _ h)
  have lf22 := hts (.fieldLink RX10 22 "PalaceOfRoomsModel" "tell" "I") (List.mem_cons_of_mem _ (List.mem_append_left _ (List.mem_append_left _ (List.mem_of_getElem? (i := 1) rfl))))
  have lf38 := hts (.fieldLink RX10 38 "PalaceOfRoomsModel" "ghost" "[I") (List.mem_cons_of_mem _ (List.mem_append_left _ (List.mem_append_left _ (List.mem_of_getElem? (i := 2) rfl))))
  have hl := lv_entry ([.ref (b 39), .int co, .int sa]) (n := 5) (Nat.le_of_ble_eq_true rfl)
  rw [lg_entry_eq]
  generalize (lg_sl ([.ref (b 39), .int co, .int sa]) ++ List.replicate (5 - (lg_sl ([.ref (b 39), .int co, .int sa])).length) Slot.unset).toArray = ls at hl ⊢
  have hl : lv_has ls 5 [(0, .ref (b 39)), (1, .int co), (2, .int sa)] := hl
  refine lv_iload_n hx hb dX10_causes_0 rfl (lv_at hl 1 rfl) ?_
  refine rdS (As := [.int co]) (rest := []) ⟨hx, hb, hml, hown, hts⟩ (k_X10_isCorner l dC dI cI cZ cQ co) (va_cwS 1 hts gX10_causes_X10_isCorner rfl rfl rfl (by decide +kernel) ⟨Nat.le_of_ble_eq_true rfl, Nat.le_of_ble_eq_true rfl⟩) hP hK hN [] rfl rfl hl.1 rfl (Nat.le_of_ble_eq_true rfl) dX10_causes_1 ⟨Nat.le_of_ble_eq_true rfl, Nat.le_of_ble_eq_true rfl⟩ (fun r1 h2 => ?_)
  have h2 : ((((r1 = 1) ∧ (0 ≤ co.toInt) ∧ (co.toInt ≤ 47)) ∨ ((r1 = 0) ∧ (co.toInt < 0 ∨ 47 < co.toInt)))) := h2
  rcases h2 with (⟨rfl, h2_a0, h2_a1⟩ | ⟨rfl, h2_a0⟩)
  · refine lv_if_eq (tgt := 14) hx hb dX10_causes_4 (by decide) (fun c9 => absurd c9 (by decide)) (fun _ => ?_)
    refine lv_iload_n hx hb dX10_causes_7 rfl (lv_at hl 2 rfl) ?_
    refine rdS (As := [.int sa]) (rest := []) ⟨hx, hb, hml, hown, hts⟩ (k_X10_isThing l dC dI cI cZ cQ sa) (va_cwS 1 hts gX10_causes_X10_isThing rfl rfl rfl (by decide +kernel) ⟨Nat.le_of_ble_eq_true rfl, Nat.le_of_ble_eq_true rfl⟩) hP hK hN [] rfl rfl hl.1 rfl (Nat.le_of_ble_eq_true rfl) dX10_causes_8 ⟨Nat.le_of_ble_eq_true rfl, Nat.le_of_ble_eq_true rfl⟩ (fun r3 h4 => ?_)
    have h4 : ((((r3 = 1) ∧ (0 ≤ sa.toInt) ∧ (sa.toInt ≤ 23)) ∨ ((r3 = 0) ∧ (sa.toInt < 0 ∨ 23 < sa.toInt)))) := h4
    rcases h4 with (⟨rfl, h4_a0, h4_a1⟩ | ⟨rfl, h4_a0⟩)
    · refine lv_if_ne (tgt := 17) hx hb dX10_causes_11 (by decide) (fun _ => ?_) (fun c9 => absurd c9 (by decide))
      refine lv_aload_n hx hb dX10_causes_17 rfl (lv_at hl 0 rfl) ?_
      refine va_get (D := (dC, dI)) (ci := 10) (v := .ref (b 9)) (C := RX10) (T := TX10) (N := 39) hx hb hts inX10 hown hK hP 0 rfl rfl 9 (by decide) lf32 (fun _ h9 => h9) rfl dX10_causes_18 ?_
      refine lv_iload_n hx hb dX10_causes_21 rfl (lv_at hl 1 rfl) ?_
      have b5 : vp_in co 48 := inC rfl (by omega) (by omega)
      refine va_iald hx hb hK hP 6 0 rfl rfl b5 dX10_causes_22 ?_
      have g6 : -1 ≤ (mtop co.toNatClampNeg).toInt ∧ (mtop co.toNatClampNeg).toInt ≤ 23 := rg_at r_mtop b5
      refine lv_iconst (v := (-1)) hx hb dX10_causes_23 (by decide) ?_
      refine lv_icmp_eq (tgt := 37) hx hb dX10_causes_24 (by decide) (fun c7 => ?_) (fun c7 => ?_)
      · have dc7 : (mtop co.toNatClampNeg).toInt = (-1) := eqC rfl (show ((-1) : Int32).toInt = (-1) from rfl) c7
        refine lv_bipush (v := (-4)) hx hb dX10_causes_37 (by decide) ?_
        exact W.iret (v := (-4)) hx hb hr (fun tq ht hW => ⟨(-4), rfl, (show spCau (whr mtop sa) (alk mmar mtel sa (mtop co.toNatClampNeg)) (mgho co.toNatClampNeg = sa) (thQ mdA mdB mdoo.toInt co) mtop co sa ((-4) : Int32) from by (try rw [show ((-4) : Int32).toInt = (-4) from (show ((-4) : Int32).toInt = (-4) from rfl)]); (first | exact Or.inl ⟨by omega, rfl⟩ | exact Or.inr ⟨by omega, Or.inl ⟨(by first | exact Or.inl (by assumption) | exact Or.inr (by assumption)), rfl⟩⟩ | exact Or.inr ⟨by omega, Or.inr ⟨⟨by assumption, by assumption⟩, _, by assumption, _, _, _, (by first | exact Or.inl ⟨alkM_y (by assumption) (by omega), rfl⟩ | exact Or.inr ⟨alkM_n (by assumption) (by omega), rfl⟩), (by first | exact Or.inl ⟨by assumption, rfl⟩ | exact Or.inr ⟨by assumption, rfl⟩), (by first | exact Or.inl ⟨thQ_y (by assumption) (by assumption) (by assumption) (by omega) (by omega), rfl⟩ | exact Or.inr ⟨thQ_n (by omega), rfl⟩ | exact Or.inr ⟨thQ_n3 (by assumption) (by assumption) (by assumption), rfl⟩), by first | rfl | omega⟩⟩)), ht⟩) (fun q h => by cases h) dX10_causes_39
      · have dc7 : 0 ≤ (mtop co.toNatClampNeg).toInt := ka_lo (by omega) (neC rfl (show ((-1) : Int32).toInt = (-1) from rfl) c7)
        refine lv_aload_n hx hb dX10_causes_27 rfl (lv_at hl 0 rfl) ?_
        refine va_get (D := (dC, dI)) (ci := 10) (v := .ref (b 9)) (C := RX10) (T := TX10) (N := 39) hx hb hts inX10 hown hK hP 0 rfl rfl 9 (by decide) lf32 (fun _ h9 => h9) rfl dX10_causes_28 ?_
        refine lv_iload_n hx hb dX10_causes_31 rfl (lv_at hl 1 rfl) ?_
        have b8 : vp_in co 48 := inC rfl (by omega) (by omega)
        refine va_iald hx hb hK hP 6 0 rfl rfl b8 dX10_causes_32 ?_
        have g9 : -1 ≤ (mtop co.toNatClampNeg).toInt ∧ (mtop co.toNatClampNeg).toInt ≤ 23 := rg_at r_mtop b8
        refine lv_iload_n hx hb dX10_causes_33 rfl (lv_at hl 2 rfl) ?_
        refine lv_icmp_ne (tgt := 40) hx hb dX10_causes_34 (by decide) (fun c10 => ?_) (fun c10 => ?_)
        · have dc10 : (mtop co.toNatClampNeg).toInt ≠ sa.toInt := neC rfl rfl c10
          refine lv_aload_n hx hb dX10_causes_40 rfl (lv_at hl 0 rfl) ?_
          refine lv_iload_n hx hb dX10_causes_41 rfl (lv_at hl 2 rfl) ?_
          refine rdV (As := [.int sa]) (rest := []) ⟨hx, hb, hml, hown, hts⟩ (k_X10_cornerOf2 l dC dI cI cZ cQ b mday mdoo mdA mdB mfar mmar mtel mgai mfal mtop mstr mgho mfai mpto mwal mahd mahf mcho mbes mbyt mtxt mpos mtka mtok mdig mnum mfau mrdm mrea mlin mlne mthg mord mbor mbsm mans mand manr mali sa r_mday r_mdoo r_mdA r_mdB r_mmar r_mgai r_mfal r_mtop r_mstr r_mgho r_mfai r_mahd r_mahf r_mcho r_mbyt r_mpos r_mrdm r_mlin r_mthg r_mord r_mans) (cwV 1 hts gX10_causes_X10_cornerOf rfl rfl rfl (by decide +kernel) ⟨Nat.le_of_ble_eq_true rfl, Nat.le_of_ble_eq_true rfl⟩) hP hK hN [0, 1, 2, 3, 4, 5, 6, 7, 8, 9, 10, 11, 12, 13, 14, 15, 16, 17, 18, 19, 20, 21, 22, 23, 24, 25] rfl 0 10 rfl rfl rfl hl.1 rfl (Nat.le_of_ble_eq_true rfl) dX10_causes_42 ⟨Nat.le_of_ble_eq_true rfl, Nat.le_of_ble_eq_true rfl⟩ (fun r11 h12 => ?_)
          have h12 : (-1 ≤ r11.toInt) ∧ (r11.toInt ≤ 47) ∧ (whr mtop sa r11) := h12
          obtain ⟨h12_0, h12_1, h12_2⟩ := h12
          refine lv_istore_n (lv' := [(3, .int r11), (0, .ref (b 39)), (1, .int co), (2, .int sa)]) hx hb dX10_causes_45 rfl hl (by decide) rfl (fun ls hl => ?_)
          refine lv_aload_n hx hb dX10_causes_46 rfl (lv_at hl 1 rfl) ?_
          refine lv_iload_n hx hb dX10_causes_47 rfl (lv_at hl 3 rfl) ?_
          refine lv_aload_n hx hb dX10_causes_48 rfl (lv_at hl 1 rfl) ?_
          refine va_get (D := (dC, dI)) (ci := 10) (v := .ref (b 9)) (C := RX10) (T := TX10) (N := 39) hx hb hts inX10 hown hK hP 0 rfl rfl 9 (by decide) lf32 (fun _ h9 => h9) rfl dX10_causes_49 ?_
          refine lv_iload_n hx hb dX10_causes_52 rfl (lv_at hl 2 rfl) ?_
          have b13 : vp_in co 48 := inC rfl (by omega) (by omega)
          refine va_iald hx hb hK hP 6 0 rfl rfl b13 dX10_causes_53 ?_
          have g14 : -1 ≤ (mtop co.toNatClampNeg).toInt ∧ (mtop co.toNatClampNeg).toInt ≤ 23 := rg_at r_mtop b13
          refine rdV (As := [.int sa, .int (mtop co.toNatClampNeg)]) (rest := []) ⟨hx, hb, hml, hown, hts⟩ (k_X10_likeness l dC dI cI cZ cQ b mday mdoo mdA mdB mfar mmar mtel mgai mfal mtop mstr mgho mfai mpto mwal mahd mahf mcho mbes mbyt mtxt mpos mtka mtok mdig mnum mfau mrdm mrea mlin mlne mthg mord mbor mbsm mans mand manr mali sa (mtop co.toNatClampNeg) r_mday r_mdoo r_mdA r_mdB r_mmar r_mgai r_mfal r_mtop r_mstr r_mgho r_mfai r_mahd r_mahf r_mcho r_mbyt r_mpos r_mrdm r_mlin r_mthg r_mord r_mans (by omega) (by omega) (by omega) (by omega)) (cwV 2 hts gX10_causes_X10_likeness rfl rfl rfl (by decide +kernel) ⟨Nat.le_of_ble_eq_true rfl, Nat.le_of_ble_eq_true rfl⟩) hP hK hN [0, 1, 2, 3, 4, 5, 6, 7, 8, 9, 10, 11, 12, 13, 14, 15, 16, 17, 18, 19, 20, 21, 22, 23, 24, 25] rfl 0 10 rfl rfl rfl hl.1 rfl (Nat.le_of_ble_eq_true rfl) dX10_causes_54 ⟨Nat.le_of_ble_eq_true rfl, Nat.le_of_ble_eq_true rfl⟩ (fun r15 h16 => ?_)
          have h16 : (r15 = bc (mmar sa.toNatClampNeg &&& mmar (mtop co.toNatClampNeg).toNatClampNeg)) := h16
          have h16_0 := h16
          refine lv_aload_n hx hb dX10_causes_57 rfl (lv_at hl 1 rfl) ?_
          refine va_get (D := (dC, dI)) (ci := 10) (v := .int mtel) (C := RX10) (T := TX10) (N := 39) hx hb hts inX10 hown hK hP 0 rfl rfl 6 (by decide) lf22 (fun _ h9 => h9) rfl dX10_causes_58 ?_
          refine lv_icmp_lt (tgt := 68) hx hb dX10_causes_61 (by decide) (fun c17 => ?_) (fun c17 => ?_)
          · have dc17 : r15.toInt < mtel.toInt := ltC rfl rfl c17
            refine lv_iconst (v := 0) hx hb dX10_causes_68 (by decide) ?_
            refine lv_istore (lv' := [(4, .int 0), (3, .int r11), (0, .ref (b 39)), (1, .int co), (2, .int sa)]) hx hb dX10_causes_69 hl (by decide) rfl (fun ls hl => ?_)
            refine lv_iload hx hb dX10_causes_71 (lv_at hl 0 rfl) ?_
            refine lv_aload_n hx hb dX10_causes_73 rfl (lv_at hl 2 rfl) ?_
            refine va_get (D := (dC, dI)) (ci := 10) (v := .ref (b 11)) (C := RX10) (T := TX10) (N := 39) hx hb hts inX10 hown hK hP 0 rfl rfl 11 (by decide) lf38 (fun _ h9 => h9) rfl dX10_causes_74 ?_
            refine lv_iload_n hx hb dX10_causes_77 rfl (lv_at hl 3 rfl) ?_
            have b18 : vp_in co 48 := inC rfl (by omega) (by omega)
            refine va_iald hx hb hK hP 8 0 rfl rfl b18 dX10_causes_78 ?_
            have g19 : -1 ≤ (mgho co.toNatClampNeg).toInt ∧ (mgho co.toNatClampNeg).toInt ≤ 23 := rg_at r_mgho b18
            refine lv_iload_n hx hb dX10_causes_79 rfl (lv_at hl 4 rfl) ?_
            refine lv_icmp_ne (tgt := 87) hx hb dX10_causes_80 (by decide) (fun c20 => ?_) (fun c20 => ?_)
            · have dc20 : (mgho co.toNatClampNeg).toInt ≠ sa.toInt := neC rfl rfl c20
              refine lv_iconst (v := 0) hx hb dX10_causes_87 (by decide) ?_
              refine lv_iadd hx hb dX10_causes_88 ?_
              refine W.eq (g2 := F0 m 89 ls [.int 0]) rfl ?_
              refine lv_istore (lv' := [(4, .int 0), (3, .int r11), (0, .ref (b 39)), (1, .int co), (2, .int sa)]) hx hb dX10_causes_89 hl (by decide) rfl (fun ls hl => ?_)
              refine lv_iload hx hb dX10_causes_91 (lv_at hl 0 rfl) ?_
              refine lv_iload_n hx hb dX10_causes_93 rfl (lv_at hl 1 rfl) ?_
              refine lv_iconst (v := (-1)) hx hb dX10_causes_94 (by decide) ?_
              refine lv_icmp_eq (tgt := 128) hx hb dX10_causes_95 (by decide) (fun c21 => ?_) (fun c21 => ?_)
              · have dc21 : r11.toInt = (-1) := eqC rfl (show ((-1) : Int32).toInt = (-1) from rfl) c21
                refine lv_iconst (v := 0) hx hb dX10_causes_128 (by decide) ?_
                refine lv_iadd hx hb dX10_causes_129 ?_
                refine W.eq (g2 := F0 m 130 ls [.int 0]) rfl ?_
                exact W.iret (v := 0) hx hb hr (fun tq ht hW => ⟨0, rfl, (show spCau (whr mtop sa) (alk mmar mtel sa (mtop co.toNatClampNeg)) (mgho co.toNatClampNeg = sa) (thQ mdA mdB mdoo.toInt co) mtop co sa (0 : Int32) from by (try rw [show (0 : Int32).toInt = 0 from (show (0 : Int32).toInt = 0 from rfl)]); (first | exact Or.inl ⟨by omega, rfl⟩ | exact Or.inr ⟨by omega, Or.inl ⟨(by first | exact Or.inl (by assumption) | exact Or.inr (by assumption)), rfl⟩⟩ | exact Or.inr ⟨by omega, Or.inr ⟨⟨by assumption, by assumption⟩, _, by assumption, _, _, _, (by first | exact Or.inl ⟨alkM_y (by assumption) (by omega), rfl⟩ | exact Or.inr ⟨alkM_n (by assumption) (by omega), rfl⟩), (by first | exact Or.inl ⟨by assumption, rfl⟩ | exact Or.inr ⟨by assumption, rfl⟩), (by first | exact Or.inl ⟨thQ_y (by assumption) (by assumption) (by assumption) (by omega) (by omega), rfl⟩ | exact Or.inr ⟨thQ_n (by omega), rfl⟩ | exact Or.inr ⟨thQ_n3 (by assumption) (by assumption) (by assumption), rfl⟩), by first | rfl | omega⟩⟩)), ht⟩) (fun q h => by cases h) dX10_causes_130
              · have dc21 : 0 ≤ r11.toInt := ka_lo (by omega) (neC rfl (show ((-1) : Int32).toInt = (-1) from rfl) c21)
                refine lv_iload_n hx hb dX10_causes_98 rfl (lv_at hl 1 rfl) ?_
                refine lv_bipush (v := 6) hx hb dX10_causes_99 (by decide) ?_
                refine lv_irem hx hb dX10_causes_101 (by decide) ?_
                have f22 : (r11 - r11 / 6 * 6).toInt = (r11.toInt) % (6) := remC rfl (show (6 : Int32).toInt = 6 from rfl) (by omega) (by omega)
                refine lv_iload_n hx hb dX10_causes_102 rfl (lv_at hl 3 rfl) ?_
                refine lv_bipush (v := 6) hx hb dX10_causes_103 (by decide) ?_
                refine lv_irem hx hb dX10_causes_105 (by decide) ?_
                have f23 : (co - co / 6 * 6).toInt = (co.toInt) % (6) := remC rfl (show (6 : Int32).toInt = 6 from rfl) (by omega) (by omega)
                refine lv_icmp_ne (tgt := 128) hx hb dX10_causes_106 (by decide) (fun c24 => ?_) (fun c24 => ?_)
                · have dc24 : (r11.toInt) % (6) ≠ (co.toInt) % (6) := neC f22 f23 c24
                  refine lv_iconst (v := 0) hx hb dX10_causes_128 (by decide) ?_
                  refine lv_iadd hx hb dX10_causes_129 ?_
                  refine W.eq (g2 := F0 m 130 ls [.int 0]) rfl ?_
                  exact W.iret (v := 0) hx hb hr (fun tq ht hW => ⟨0, rfl, (show spCau (whr mtop sa) (alk mmar mtel sa (mtop co.toNatClampNeg)) (mgho co.toNatClampNeg = sa) (thQ mdA mdB mdoo.toInt co) mtop co sa (0 : Int32) from by (try rw [show (0 : Int32).toInt = 0 from (show (0 : Int32).toInt = 0 from rfl)]); (first | exact Or.inl ⟨by omega, rfl⟩ | exact Or.inr ⟨by omega, Or.inl ⟨(by first | exact Or.inl (by assumption) | exact Or.inr (by assumption)), rfl⟩⟩ | exact Or.inr ⟨by omega, Or.inr ⟨⟨by assumption, by assumption⟩, _, by assumption, _, _, _, (by first | exact Or.inl ⟨alkM_y (by assumption) (by omega), rfl⟩ | exact Or.inr ⟨alkM_n (by assumption) (by omega), rfl⟩), (by first | exact Or.inl ⟨by assumption, rfl⟩ | exact Or.inr ⟨by assumption, rfl⟩), (by first | exact Or.inl ⟨thQ_y (by assumption) (by assumption) (by assumption) (by omega) (by omega), rfl⟩ | exact Or.inr ⟨thQ_n (by omega), rfl⟩ | exact Or.inr ⟨thQ_n3 (by assumption) (by assumption) (by assumption), rfl⟩), by first | rfl | omega⟩⟩)), ht⟩) (fun q h => by cases h) dX10_causes_130
                · have dc24 : (r11.toInt) % (6) = (co.toInt) % (6) := eqC f22 f23 c24
                  refine lv_aload_n hx hb dX10_causes_109 rfl (lv_at hl 2 rfl) ?_
                  refine lv_iload_n hx hb dX10_causes_110 rfl (lv_at hl 1 rfl) ?_
                  refine lv_bipush (v := 6) hx hb dX10_causes_111 (by decide) ?_
                  refine lv_idiv hx hb dX10_causes_113 (by decide) ?_
                  have f25 : (r11 / 6).toInt = (r11.toInt) / (6) := divC rfl (show (6 : Int32).toInt = 6 from rfl) (by omega) (by omega)
                  refine lv_iload_n hx hb dX10_causes_114 rfl (lv_at hl 3 rfl) ?_
                  refine lv_bipush (v := 6) hx hb dX10_causes_115 (by decide) ?_
                  refine lv_idiv hx hb dX10_causes_117 (by decide) ?_
                  have f26 : (co / 6).toInt = (co.toInt) / (6) := divC rfl (show (6 : Int32).toInt = 6 from rfl) (by omega) (by omega)
                  refine rdV (As := [.int (r11 / 6), .int (co / 6)]) (rest := [.int 0]) ⟨hx, hb, hml, hown, hts⟩ (k_X10_areJoined2 l dC dI cI cZ cQ b mday mdoo mdA mdB mfar mmar mtel mgai mfal mtop mstr mgho mfai mpto mwal mahd mahf mcho mbes mbyt mtxt mpos mtka mtok mdig mnum mfau mrdm mrea mlin mlne mthg mord mbor mbsm mans mand manr mali (r11 / 6) (co / 6) r_mday r_mdoo r_mdA r_mdB r_mmar r_mgai r_mfal r_mtop r_mstr r_mgho r_mfai r_mahd r_mahf r_mcho r_mbyt r_mpos r_mrdm r_mlin r_mthg r_mord r_mans) (cwV 2 hts gX10_causes_X10_areJoined rfl rfl rfl (by decide +kernel) ⟨Nat.le_of_ble_eq_true rfl, Nat.le_of_ble_eq_true rfl⟩) hP hK hN [0, 1, 2, 3, 4, 5, 6, 7, 8, 9, 10, 11, 12, 13, 14, 15, 16, 17, 18, 19, 20, 21, 22, 23, 24, 25] rfl 0 10 rfl rfl rfl hl.1 rfl (Nat.le_of_ble_eq_true rfl) dX10_causes_118 ⟨Nat.le_of_ble_eq_true rfl, Nat.le_of_ble_eq_true rfl⟩ (fun r27 h28 => ?_)
                  have h28 : ((((r27 = 1) ∧ (eD mdA mdB mdoo.toInt (r11 / 6).toInt (co / 6).toInt)) ∨ ((r27 = 0) ∧ (¬ eD mdA mdB mdoo.toInt (r11 / 6).toInt (co / 6).toInt)))) := h28
                  rcases h28 with (⟨rfl, h28_a0⟩ | ⟨rfl, h28_a0⟩)
                  · refine lv_if_eq (tgt := 128) hx hb dX10_causes_121 (by decide) (fun c9 => absurd c9 (by decide)) (fun _ => ?_)
                    refine lv_iconst (v := 4) hx hb dX10_causes_124 (by decide) ?_
                    refine lv_goto (tgt := 129) hx hb dX10_causes_125 (by decide) ?_
                    refine lv_iadd hx hb dX10_causes_129 ?_
                    refine W.eq (g2 := F0 m 130 ls [.int 4]) rfl ?_
                    exact W.iret (v := 4) hx hb hr (fun tq ht hW => ⟨4, rfl, (show spCau (whr mtop sa) (alk mmar mtel sa (mtop co.toNatClampNeg)) (mgho co.toNatClampNeg = sa) (thQ mdA mdB mdoo.toInt co) mtop co sa (4 : Int32) from by (try rw [show (4 : Int32).toInt = 4 from (show (4 : Int32).toInt = 4 from rfl)]); (first | exact Or.inl ⟨by omega, rfl⟩ | exact Or.inr ⟨by omega, Or.inl ⟨(by first | exact Or.inl (by assumption) | exact Or.inr (by assumption)), rfl⟩⟩ | exact Or.inr ⟨by omega, Or.inr ⟨⟨by assumption, by assumption⟩, _, by assumption, _, _, _, (by first | exact Or.inl ⟨alkM_y (by assumption) (by omega), rfl⟩ | exact Or.inr ⟨alkM_n (by assumption) (by omega), rfl⟩), (by first | exact Or.inl ⟨by assumption, rfl⟩ | exact Or.inr ⟨by assumption, rfl⟩), (by first | exact Or.inl ⟨thQ_y (by assumption) (by assumption) (by assumption) (by omega) (by omega), rfl⟩ | exact Or.inr ⟨thQ_n (by omega), rfl⟩ | exact Or.inr ⟨thQ_n3 (by assumption) (by assumption) (by assumption), rfl⟩), by first | rfl | omega⟩⟩)), ht⟩) (fun q h => by cases h) dX10_causes_130
                  · refine lv_if_eq (tgt := 128) hx hb dX10_causes_121 (by decide) (fun _ => ?_) (fun c9 => absurd (by decide) c9)
                    refine lv_iconst (v := 0) hx hb dX10_causes_128 (by decide) ?_
                    refine lv_iadd hx hb dX10_causes_129 ?_
                    refine W.eq (g2 := F0 m 130 ls [.int 0]) rfl ?_
                    exact W.iret (v := 0) hx hb hr (fun tq ht hW => ⟨0, rfl, (show spCau (whr mtop sa) (alk mmar mtel sa (mtop co.toNatClampNeg)) (mgho co.toNatClampNeg = sa) (thQ mdA mdB mdoo.toInt co) mtop co sa (0 : Int32) from by (try rw [show (0 : Int32).toInt = 0 from (show (0 : Int32).toInt = 0 from rfl)]); (first | exact Or.inl ⟨by omega, rfl⟩ | exact Or.inr ⟨by omega, Or.inl ⟨(by first | exact Or.inl (by assumption) | exact Or.inr (by assumption)), rfl⟩⟩ | exact Or.inr ⟨by omega, Or.inr ⟨⟨by assumption, by assumption⟩, _, by assumption, _, _, _, (by first | exact Or.inl ⟨alkM_y (by assumption) (by omega), rfl⟩ | exact Or.inr ⟨alkM_n (by assumption) (by omega), rfl⟩), (by first | exact Or.inl ⟨by assumption, rfl⟩ | exact Or.inr ⟨by assumption, rfl⟩), (by first | exact Or.inl ⟨thQ_y (by assumption) (by assumption) (by assumption) (by omega) (by omega), rfl⟩ | exact Or.inr ⟨thQ_n (by omega), rfl⟩ | exact Or.inr ⟨thQ_n3 (by assumption) (by assumption) (by assumption), rfl⟩), by first | rfl | omega⟩⟩)), ht⟩) (fun q h => by cases h) dX10_causes_130
            · have dc20 : (mgho co.toNatClampNeg).toInt = sa.toInt := eqC rfl rfl c20
              refine lv_iconst (v := 2) hx hb dX10_causes_83 (by decide) ?_
              refine lv_goto (tgt := 88) hx hb dX10_causes_84 (by decide) ?_
              refine lv_iadd hx hb dX10_causes_88 ?_
              refine W.eq (g2 := F0 m 89 ls [.int 2]) rfl ?_
              refine lv_istore (lv' := [(4, .int 2), (3, .int r11), (0, .ref (b 39)), (1, .int co), (2, .int sa)]) hx hb dX10_causes_89 hl (by decide) rfl (fun ls hl => ?_)
              refine lv_iload hx hb dX10_causes_91 (lv_at hl 0 rfl) ?_
              refine lv_iload_n hx hb dX10_causes_93 rfl (lv_at hl 1 rfl) ?_
              refine lv_iconst (v := (-1)) hx hb dX10_causes_94 (by decide) ?_
              refine lv_icmp_eq (tgt := 128) hx hb dX10_causes_95 (by decide) (fun c29 => ?_) (fun c29 => ?_)
              · have dc29 : r11.toInt = (-1) := eqC rfl (show ((-1) : Int32).toInt = (-1) from rfl) c29
                refine lv_iconst (v := 0) hx hb dX10_causes_128 (by decide) ?_
                refine lv_iadd hx hb dX10_causes_129 ?_
                refine W.eq (g2 := F0 m 130 ls [.int 2]) rfl ?_
                exact W.iret (v := 2) hx hb hr (fun tq ht hW => ⟨2, rfl, (show spCau (whr mtop sa) (alk mmar mtel sa (mtop co.toNatClampNeg)) (mgho co.toNatClampNeg = sa) (thQ mdA mdB mdoo.toInt co) mtop co sa (2 : Int32) from by (try rw [show (2 : Int32).toInt = 2 from (show (2 : Int32).toInt = 2 from rfl)]); (first | exact Or.inl ⟨by omega, rfl⟩ | exact Or.inr ⟨by omega, Or.inl ⟨(by first | exact Or.inl (by assumption) | exact Or.inr (by assumption)), rfl⟩⟩ | exact Or.inr ⟨by omega, Or.inr ⟨⟨by assumption, by assumption⟩, _, by assumption, _, _, _, (by first | exact Or.inl ⟨alkM_y (by assumption) (by omega), rfl⟩ | exact Or.inr ⟨alkM_n (by assumption) (by omega), rfl⟩), (by first | exact Or.inl ⟨by assumption, rfl⟩ | exact Or.inr ⟨by assumption, rfl⟩), (by first | exact Or.inl ⟨thQ_y (by assumption) (by assumption) (by assumption) (by omega) (by omega), rfl⟩ | exact Or.inr ⟨thQ_n (by omega), rfl⟩ | exact Or.inr ⟨thQ_n3 (by assumption) (by assumption) (by assumption), rfl⟩), by first | rfl | omega⟩⟩)), ht⟩) (fun q h => by cases h) dX10_causes_130
              · have dc29 : 0 ≤ r11.toInt := ka_lo (by omega) (neC rfl (show ((-1) : Int32).toInt = (-1) from rfl) c29)
                refine lv_iload_n hx hb dX10_causes_98 rfl (lv_at hl 1 rfl) ?_
                refine lv_bipush (v := 6) hx hb dX10_causes_99 (by decide) ?_
                refine lv_irem hx hb dX10_causes_101 (by decide) ?_
                have f30 : (r11 - r11 / 6 * 6).toInt = (r11.toInt) % (6) := remC rfl (show (6 : Int32).toInt = 6 from rfl) (by omega) (by omega)
                refine lv_iload_n hx hb dX10_causes_102 rfl (lv_at hl 3 rfl) ?_
                refine lv_bipush (v := 6) hx hb dX10_causes_103 (by decide) ?_
                refine lv_irem hx hb dX10_causes_105 (by decide) ?_
                have f31 : (co - co / 6 * 6).toInt = (co.toInt) % (6) := remC rfl (show (6 : Int32).toInt = 6 from rfl) (by omega) (by omega)
                refine lv_icmp_ne (tgt := 128) hx hb dX10_causes_106 (by decide) (fun c32 => ?_) (fun c32 => ?_)
                · have dc32 : (r11.toInt) % (6) ≠ (co.toInt) % (6) := neC f30 f31 c32
                  refine lv_iconst (v := 0) hx hb dX10_causes_128 (by decide) ?_
                  refine lv_iadd hx hb dX10_causes_129 ?_
                  refine W.eq (g2 := F0 m 130 ls [.int 2]) rfl ?_
                  exact W.iret (v := 2) hx hb hr (fun tq ht hW => ⟨2, rfl, (show spCau (whr mtop sa) (alk mmar mtel sa (mtop co.toNatClampNeg)) (mgho co.toNatClampNeg = sa) (thQ mdA mdB mdoo.toInt co) mtop co sa (2 : Int32) from by (try rw [show (2 : Int32).toInt = 2 from (show (2 : Int32).toInt = 2 from rfl)]); (first | exact Or.inl ⟨by omega, rfl⟩ | exact Or.inr ⟨by omega, Or.inl ⟨(by first | exact Or.inl (by assumption) | exact Or.inr (by assumption)), rfl⟩⟩ | exact Or.inr ⟨by omega, Or.inr ⟨⟨by assumption, by assumption⟩, _, by assumption, _, _, _, (by first | exact Or.inl ⟨alkM_y (by assumption) (by omega), rfl⟩ | exact Or.inr ⟨alkM_n (by assumption) (by omega), rfl⟩), (by first | exact Or.inl ⟨by assumption, rfl⟩ | exact Or.inr ⟨by assumption, rfl⟩), (by first | exact Or.inl ⟨thQ_y (by assumption) (by assumption) (by assumption) (by omega) (by omega), rfl⟩ | exact Or.inr ⟨thQ_n (by omega), rfl⟩ | exact Or.inr ⟨thQ_n3 (by assumption) (by assumption) (by assumption), rfl⟩), by first | rfl | omega⟩⟩)), ht⟩) (fun q h => by cases h) dX10_causes_130
                · have dc32 : (r11.toInt) % (6) = (co.toInt) % (6) := eqC f30 f31 c32
                  refine lv_aload_n hx hb dX10_causes_109 rfl (lv_at hl 2 rfl) ?_
                  refine lv_iload_n hx hb dX10_causes_110 rfl (lv_at hl 1 rfl) ?_
                  refine lv_bipush (v := 6) hx hb dX10_causes_111 (by decide) ?_
                  refine lv_idiv hx hb dX10_causes_113 (by decide) ?_
                  have f33 : (r11 / 6).toInt = (r11.toInt) / (6) := divC rfl (show (6 : Int32).toInt = 6 from rfl) (by omega) (by omega)
                  refine lv_iload_n hx hb dX10_causes_114 rfl (lv_at hl 3 rfl) ?_
                  refine lv_bipush (v := 6) hx hb dX10_causes_115 (by decide) ?_
                  refine lv_idiv hx hb dX10_causes_117 (by decide) ?_
                  have f34 : (co / 6).toInt = (co.toInt) / (6) := divC rfl (show (6 : Int32).toInt = 6 from rfl) (by omega) (by omega)
                  refine rdV (As := [.int (r11 / 6), .int (co / 6)]) (rest := [.int 2]) ⟨hx, hb, hml, hown, hts⟩ (k_X10_areJoined2 l dC dI cI cZ cQ b mday mdoo mdA mdB mfar mmar mtel mgai mfal mtop mstr mgho mfai mpto mwal mahd mahf mcho mbes mbyt mtxt mpos mtka mtok mdig mnum mfau mrdm mrea mlin mlne mthg mord mbor mbsm mans mand manr mali (r11 / 6) (co / 6) r_mday r_mdoo r_mdA r_mdB r_mmar r_mgai r_mfal r_mtop r_mstr r_mgho r_mfai r_mahd r_mahf r_mcho r_mbyt r_mpos r_mrdm r_mlin r_mthg r_mord r_mans) (cwV 2 hts gX10_causes_X10_areJoined rfl rfl rfl (by decide +kernel) ⟨Nat.le_of_ble_eq_true rfl, Nat.le_of_ble_eq_true rfl⟩) hP hK hN [0, 1, 2, 3, 4, 5, 6, 7, 8, 9, 10, 11, 12, 13, 14, 15, 16, 17, 18, 19, 20, 21, 22, 23, 24, 25] rfl 0 10 rfl rfl rfl hl.1 rfl (Nat.le_of_ble_eq_true rfl) dX10_causes_118 ⟨Nat.le_of_ble_eq_true rfl, Nat.le_of_ble_eq_true rfl⟩ (fun r35 h36 => ?_)
                  have h36 : ((((r35 = 1) ∧ (eD mdA mdB mdoo.toInt (r11 / 6).toInt (co / 6).toInt)) ∨ ((r35 = 0) ∧ (¬ eD mdA mdB mdoo.toInt (r11 / 6).toInt (co / 6).toInt)))) := h36
                  rcases h36 with (⟨rfl, h36_a0⟩ | ⟨rfl, h36_a0⟩)
                  · refine lv_if_eq (tgt := 128) hx hb dX10_causes_121 (by decide) (fun c9 => absurd c9 (by decide)) (fun _ => ?_)
                    refine lv_iconst (v := 4) hx hb dX10_causes_124 (by decide) ?_
                    refine lv_goto (tgt := 129) hx hb dX10_causes_125 (by decide) ?_
                    refine lv_iadd hx hb dX10_causes_129 ?_
                    refine W.eq (g2 := F0 m 130 ls [.int 6]) rfl ?_
                    exact W.iret (v := 6) hx hb hr (fun tq ht hW => ⟨6, rfl, (show spCau (whr mtop sa) (alk mmar mtel sa (mtop co.toNatClampNeg)) (mgho co.toNatClampNeg = sa) (thQ mdA mdB mdoo.toInt co) mtop co sa (6 : Int32) from by (try rw [show (6 : Int32).toInt = 6 from (show (6 : Int32).toInt = 6 from rfl)]); (first | exact Or.inl ⟨by omega, rfl⟩ | exact Or.inr ⟨by omega, Or.inl ⟨(by first | exact Or.inl (by assumption) | exact Or.inr (by assumption)), rfl⟩⟩ | exact Or.inr ⟨by omega, Or.inr ⟨⟨by assumption, by assumption⟩, _, by assumption, _, _, _, (by first | exact Or.inl ⟨alkM_y (by assumption) (by omega), rfl⟩ | exact Or.inr ⟨alkM_n (by assumption) (by omega), rfl⟩), (by first | exact Or.inl ⟨by assumption, rfl⟩ | exact Or.inr ⟨by assumption, rfl⟩), (by first | exact Or.inl ⟨thQ_y (by assumption) (by assumption) (by assumption) (by omega) (by omega), rfl⟩ | exact Or.inr ⟨thQ_n (by omega), rfl⟩ | exact Or.inr ⟨thQ_n3 (by assumption) (by assumption) (by assumption), rfl⟩), by first | rfl | omega⟩⟩)), ht⟩) (fun q h => by cases h) dX10_causes_130
                  · refine lv_if_eq (tgt := 128) hx hb dX10_causes_121 (by decide) (fun _ => ?_) (fun c9 => absurd (by decide) c9)
                    refine lv_iconst (v := 0) hx hb dX10_causes_128 (by decide) ?_
                    refine lv_iadd hx hb dX10_causes_129 ?_
                    refine W.eq (g2 := F0 m 130 ls [.int 2]) rfl ?_
                    exact W.iret (v := 2) hx hb hr (fun tq ht hW => ⟨2, rfl, (show spCau (whr mtop sa) (alk mmar mtel sa (mtop co.toNatClampNeg)) (mgho co.toNatClampNeg = sa) (thQ mdA mdB mdoo.toInt co) mtop co sa (2 : Int32) from by (try rw [show (2 : Int32).toInt = 2 from (show (2 : Int32).toInt = 2 from rfl)]); (first | exact Or.inl ⟨by omega, rfl⟩ | exact Or.inr ⟨by omega, Or.inl ⟨(by first | exact Or.inl (by assumption) | exact Or.inr (by assumption)), rfl⟩⟩ | exact Or.inr ⟨by omega, Or.inr ⟨⟨by assumption, by assumption⟩, _, by assumption, _, _, _, (by first | exact Or.inl ⟨alkM_y (by assumption) (by omega), rfl⟩ | exact Or.inr ⟨alkM_n (by assumption) (by omega), rfl⟩), (by first | exact Or.inl ⟨by assumption, rfl⟩ | exact Or.inr ⟨by assumption, rfl⟩), (by first | exact Or.inl ⟨thQ_y (by assumption) (by assumption) (by assumption) (by omega) (by omega), rfl⟩ | exact Or.inr ⟨thQ_n (by omega), rfl⟩ | exact Or.inr ⟨thQ_n3 (by assumption) (by assumption) (by assumption), rfl⟩), by first | rfl | omega⟩⟩)), ht⟩) (fun q h => by cases h) dX10_causes_130
          · have dc17 : mtel.toInt ≤ r15.toInt := nltC rfl rfl c17
            refine lv_iconst (v := 1) hx hb dX10_causes_64 (by decide) ?_
            refine lv_goto (tgt := 69) hx hb dX10_causes_65 (by decide) ?_
            refine lv_istore (lv' := [(4, .int 1), (3, .int r11), (0, .ref (b 39)), (1, .int co), (2, .int sa)]) hx hb dX10_causes_69 hl (by decide) rfl (fun ls hl => ?_)
            refine lv_iload hx hb dX10_causes_71 (lv_at hl 0 rfl) ?_
            refine lv_aload_n hx hb dX10_causes_73 rfl (lv_at hl 2 rfl) ?_
            refine va_get (D := (dC, dI)) (ci := 10) (v := .ref (b 11)) (C := RX10) (T := TX10) (N := 39) hx hb hts inX10 hown hK hP 0 rfl rfl 11 (by decide) lf38 (fun _ h9 => h9) rfl dX10_causes_74 ?_
            refine lv_iload_n hx hb dX10_causes_77 rfl (lv_at hl 3 rfl) ?_
            have b37 : vp_in co 48 := inC rfl (by omega) (by omega)
            refine va_iald hx hb hK hP 8 0 rfl rfl b37 dX10_causes_78 ?_
            have g38 : -1 ≤ (mgho co.toNatClampNeg).toInt ∧ (mgho co.toNatClampNeg).toInt ≤ 23 := rg_at r_mgho b37
            refine lv_iload_n hx hb dX10_causes_79 rfl (lv_at hl 4 rfl) ?_
            refine lv_icmp_ne (tgt := 87) hx hb dX10_causes_80 (by decide) (fun c39 => ?_) (fun c39 => ?_)
            · have dc39 : (mgho co.toNatClampNeg).toInt ≠ sa.toInt := neC rfl rfl c39
              refine lv_iconst (v := 0) hx hb dX10_causes_87 (by decide) ?_
              refine lv_iadd hx hb dX10_causes_88 ?_
              refine W.eq (g2 := F0 m 89 ls [.int 1]) rfl ?_
              refine lv_istore (lv' := [(4, .int 1), (3, .int r11), (0, .ref (b 39)), (1, .int co), (2, .int sa)]) hx hb dX10_causes_89 hl (by decide) rfl (fun ls hl => ?_)
              refine lv_iload hx hb dX10_causes_91 (lv_at hl 0 rfl) ?_
              refine lv_iload_n hx hb dX10_causes_93 rfl (lv_at hl 1 rfl) ?_
              refine lv_iconst (v := (-1)) hx hb dX10_causes_94 (by decide) ?_
              refine lv_icmp_eq (tgt := 128) hx hb dX10_causes_95 (by decide) (fun c40 => ?_) (fun c40 => ?_)
              · have dc40 : r11.toInt = (-1) := eqC rfl (show ((-1) : Int32).toInt = (-1) from rfl) c40
                refine lv_iconst (v := 0) hx hb dX10_causes_128 (by decide) ?_
                refine lv_iadd hx hb dX10_causes_129 ?_
                refine W.eq (g2 := F0 m 130 ls [.int 1]) rfl ?_
                exact W.iret (v := 1) hx hb hr (fun tq ht hW => ⟨1, rfl, (show spCau (whr mtop sa) (alk mmar mtel sa (mtop co.toNatClampNeg)) (mgho co.toNatClampNeg = sa) (thQ mdA mdB mdoo.toInt co) mtop co sa (1 : Int32) from by (try rw [show (1 : Int32).toInt = 1 from (show (1 : Int32).toInt = 1 from rfl)]); (first | exact Or.inl ⟨by omega, rfl⟩ | exact Or.inr ⟨by omega, Or.inl ⟨(by first | exact Or.inl (by assumption) | exact Or.inr (by assumption)), rfl⟩⟩ | exact Or.inr ⟨by omega, Or.inr ⟨⟨by assumption, by assumption⟩, _, by assumption, _, _, _, (by first | exact Or.inl ⟨alkM_y (by assumption) (by omega), rfl⟩ | exact Or.inr ⟨alkM_n (by assumption) (by omega), rfl⟩), (by first | exact Or.inl ⟨by assumption, rfl⟩ | exact Or.inr ⟨by assumption, rfl⟩), (by first | exact Or.inl ⟨thQ_y (by assumption) (by assumption) (by assumption) (by omega) (by omega), rfl⟩ | exact Or.inr ⟨thQ_n (by omega), rfl⟩ | exact Or.inr ⟨thQ_n3 (by assumption) (by assumption) (by assumption), rfl⟩), by first | rfl | omega⟩⟩)), ht⟩) (fun q h => by cases h) dX10_causes_130
              · have dc40 : 0 ≤ r11.toInt := ka_lo (by omega) (neC rfl (show ((-1) : Int32).toInt = (-1) from rfl) c40)
                refine lv_iload_n hx hb dX10_causes_98 rfl (lv_at hl 1 rfl) ?_
                refine lv_bipush (v := 6) hx hb dX10_causes_99 (by decide) ?_
                refine lv_irem hx hb dX10_causes_101 (by decide) ?_
                have f41 : (r11 - r11 / 6 * 6).toInt = (r11.toInt) % (6) := remC rfl (show (6 : Int32).toInt = 6 from rfl) (by omega) (by omega)
                refine lv_iload_n hx hb dX10_causes_102 rfl (lv_at hl 3 rfl) ?_
                refine lv_bipush (v := 6) hx hb dX10_causes_103 (by decide) ?_
                refine lv_irem hx hb dX10_causes_105 (by decide) ?_
                have f42 : (co - co / 6 * 6).toInt = (co.toInt) % (6) := remC rfl (show (6 : Int32).toInt = 6 from rfl) (by omega) (by omega)
                refine lv_icmp_ne (tgt := 128) hx hb dX10_causes_106 (by decide) (fun c43 => ?_) (fun c43 => ?_)
                · have dc43 : (r11.toInt) % (6) ≠ (co.toInt) % (6) := neC f41 f42 c43
                  refine lv_iconst (v := 0) hx hb dX10_causes_128 (by decide) ?_
                  refine lv_iadd hx hb dX10_causes_129 ?_
                  refine W.eq (g2 := F0 m 130 ls [.int 1]) rfl ?_
                  exact W.iret (v := 1) hx hb hr (fun tq ht hW => ⟨1, rfl, (show spCau (whr mtop sa) (alk mmar mtel sa (mtop co.toNatClampNeg)) (mgho co.toNatClampNeg = sa) (thQ mdA mdB mdoo.toInt co) mtop co sa (1 : Int32) from by (try rw [show (1 : Int32).toInt = 1 from (show (1 : Int32).toInt = 1 from rfl)]); (first | exact Or.inl ⟨by omega, rfl⟩ | exact Or.inr ⟨by omega, Or.inl ⟨(by first | exact Or.inl (by assumption) | exact Or.inr (by assumption)), rfl⟩⟩ | exact Or.inr ⟨by omega, Or.inr ⟨⟨by assumption, by assumption⟩, _, by assumption, _, _, _, (by first | exact Or.inl ⟨alkM_y (by assumption) (by omega), rfl⟩ | exact Or.inr ⟨alkM_n (by assumption) (by omega), rfl⟩), (by first | exact Or.inl ⟨by assumption, rfl⟩ | exact Or.inr ⟨by assumption, rfl⟩), (by first | exact Or.inl ⟨thQ_y (by assumption) (by assumption) (by assumption) (by omega) (by omega), rfl⟩ | exact Or.inr ⟨thQ_n (by omega), rfl⟩ | exact Or.inr ⟨thQ_n3 (by assumption) (by assumption) (by assumption), rfl⟩), by first | rfl | omega⟩⟩)), ht⟩) (fun q h => by cases h) dX10_causes_130
                · have dc43 : (r11.toInt) % (6) = (co.toInt) % (6) := eqC f41 f42 c43
                  refine lv_aload_n hx hb dX10_causes_109 rfl (lv_at hl 2 rfl) ?_
                  refine lv_iload_n hx hb dX10_causes_110 rfl (lv_at hl 1 rfl) ?_
                  refine lv_bipush (v := 6) hx hb dX10_causes_111 (by decide) ?_
                  refine lv_idiv hx hb dX10_causes_113 (by decide) ?_
                  have f44 : (r11 / 6).toInt = (r11.toInt) / (6) := divC rfl (show (6 : Int32).toInt = 6 from rfl) (by omega) (by omega)
                  refine lv_iload_n hx hb dX10_causes_114 rfl (lv_at hl 3 rfl) ?_
                  refine lv_bipush (v := 6) hx hb dX10_causes_115 (by decide) ?_
                  refine lv_idiv hx hb dX10_causes_117 (by decide) ?_
                  have f45 : (co / 6).toInt = (co.toInt) / (6) := divC rfl (show (6 : Int32).toInt = 6 from rfl) (by omega) (by omega)
                  refine rdV (As := [.int (r11 / 6), .int (co / 6)]) (rest := [.int 1]) ⟨hx, hb, hml, hown, hts⟩ (k_X10_areJoined2 l dC dI cI cZ cQ b mday mdoo mdA mdB mfar mmar mtel mgai mfal mtop mstr mgho mfai mpto mwal mahd mahf mcho mbes mbyt mtxt mpos mtka mtok mdig mnum mfau mrdm mrea mlin mlne mthg mord mbor mbsm mans mand manr mali (r11 / 6) (co / 6) r_mday r_mdoo r_mdA r_mdB r_mmar r_mgai r_mfal r_mtop r_mstr r_mgho r_mfai r_mahd r_mahf r_mcho r_mbyt r_mpos r_mrdm r_mlin r_mthg r_mord r_mans) (cwV 2 hts gX10_causes_X10_areJoined rfl rfl rfl (by decide +kernel) ⟨Nat.le_of_ble_eq_true rfl, Nat.le_of_ble_eq_true rfl⟩) hP hK hN [0, 1, 2, 3, 4, 5, 6, 7, 8, 9, 10, 11, 12, 13, 14, 15, 16, 17, 18, 19, 20, 21, 22, 23, 24, 25] rfl 0 10 rfl rfl rfl hl.1 rfl (Nat.le_of_ble_eq_true rfl) dX10_causes_118 ⟨Nat.le_of_ble_eq_true rfl, Nat.le_of_ble_eq_true rfl⟩ (fun r46 h47 => ?_)
                  have h47 : ((((r46 = 1) ∧ (eD mdA mdB mdoo.toInt (r11 / 6).toInt (co / 6).toInt)) ∨ ((r46 = 0) ∧ (¬ eD mdA mdB mdoo.toInt (r11 / 6).toInt (co / 6).toInt)))) := h47
                  rcases h47 with (⟨rfl, h47_a0⟩ | ⟨rfl, h47_a0⟩)
                  · refine lv_if_eq (tgt := 128) hx hb dX10_causes_121 (by decide) (fun c9 => absurd c9 (by decide)) (fun _ => ?_)
                    refine lv_iconst (v := 4) hx hb dX10_causes_124 (by decide) ?_
                    refine lv_goto (tgt := 129) hx hb dX10_causes_125 (by decide) ?_
                    refine lv_iadd hx hb dX10_causes_129 ?_
                    refine W.eq (g2 := F0 m 130 ls [.int 5]) rfl ?_
                    exact W.iret (v := 5) hx hb hr (fun tq ht hW => ⟨5, rfl, (show spCau (whr mtop sa) (alk mmar mtel sa (mtop co.toNatClampNeg)) (mgho co.toNatClampNeg = sa) (thQ mdA mdB mdoo.toInt co) mtop co sa (5 : Int32) from by (try rw [show (5 : Int32).toInt = 5 from (show (5 : Int32).toInt = 5 from rfl)]); (first | exact Or.inl ⟨by omega, rfl⟩ | exact Or.inr ⟨by omega, Or.inl ⟨(by first | exact Or.inl (by assumption) | exact Or.inr (by assumption)), rfl⟩⟩ | exact Or.inr ⟨by omega, Or.inr ⟨⟨by assumption, by assumption⟩, _, by assumption, _, _, _, (by first | exact Or.inl ⟨alkM_y (by assumption) (by omega), rfl⟩ | exact Or.inr ⟨alkM_n (by assumption) (by omega), rfl⟩), (by first | exact Or.inl ⟨by assumption, rfl⟩ | exact Or.inr ⟨by assumption, rfl⟩), (by first | exact Or.inl ⟨thQ_y (by assumption) (by assumption) (by assumption) (by omega) (by omega), rfl⟩ | exact Or.inr ⟨thQ_n (by omega), rfl⟩ | exact Or.inr ⟨thQ_n3 (by assumption) (by assumption) (by assumption), rfl⟩), by first | rfl | omega⟩⟩)), ht⟩) (fun q h => by cases h) dX10_causes_130
                  · refine lv_if_eq (tgt := 128) hx hb dX10_causes_121 (by decide) (fun _ => ?_) (fun c9 => absurd (by decide) c9)
                    refine lv_iconst (v := 0) hx hb dX10_causes_128 (by decide) ?_
                    refine lv_iadd hx hb dX10_causes_129 ?_
                    refine W.eq (g2 := F0 m 130 ls [.int 1]) rfl ?_
                    exact W.iret (v := 1) hx hb hr (fun tq ht hW => ⟨1, rfl, (show spCau (whr mtop sa) (alk mmar mtel sa (mtop co.toNatClampNeg)) (mgho co.toNatClampNeg = sa) (thQ mdA mdB mdoo.toInt co) mtop co sa (1 : Int32) from by (try rw [show (1 : Int32).toInt = 1 from (show (1 : Int32).toInt = 1 from rfl)]); (first | exact Or.inl ⟨by omega, rfl⟩ | exact Or.inr ⟨by omega, Or.inl ⟨(by first | exact Or.inl (by assumption) | exact Or.inr (by assumption)), rfl⟩⟩ | exact Or.inr ⟨by omega, Or.inr ⟨⟨by assumption, by assumption⟩, _, by assumption, _, _, _, (by first | exact Or.inl ⟨alkM_y (by assumption) (by omega), rfl⟩ | exact Or.inr ⟨alkM_n (by assumption) (by omega), rfl⟩), (by first | exact Or.inl ⟨by assumption, rfl⟩ | exact Or.inr ⟨by assumption, rfl⟩), (by first | exact Or.inl ⟨thQ_y (by assumption) (by assumption) (by assumption) (by omega) (by omega), rfl⟩ | exact Or.inr ⟨thQ_n (by omega), rfl⟩ | exact Or.inr ⟨thQ_n3 (by assumption) (by assumption) (by assumption), rfl⟩), by first | rfl | omega⟩⟩)), ht⟩) (fun q h => by cases h) dX10_causes_130
            · have dc39 : (mgho co.toNatClampNeg).toInt = sa.toInt := eqC rfl rfl c39
              refine lv_iconst (v := 2) hx hb dX10_causes_83 (by decide) ?_
              refine lv_goto (tgt := 88) hx hb dX10_causes_84 (by decide) ?_
              refine lv_iadd hx hb dX10_causes_88 ?_
              refine W.eq (g2 := F0 m 89 ls [.int 3]) rfl ?_
              refine lv_istore (lv' := [(4, .int 3), (3, .int r11), (0, .ref (b 39)), (1, .int co), (2, .int sa)]) hx hb dX10_causes_89 hl (by decide) rfl (fun ls hl => ?_)
              refine lv_iload hx hb dX10_causes_91 (lv_at hl 0 rfl) ?_
              refine lv_iload_n hx hb dX10_causes_93 rfl (lv_at hl 1 rfl) ?_
              refine lv_iconst (v := (-1)) hx hb dX10_causes_94 (by decide) ?_
              refine lv_icmp_eq (tgt := 128) hx hb dX10_causes_95 (by decide) (fun c48 => ?_) (fun c48 => ?_)
              · have dc48 : r11.toInt = (-1) := eqC rfl (show ((-1) : Int32).toInt = (-1) from rfl) c48
                refine lv_iconst (v := 0) hx hb dX10_causes_128 (by decide) ?_
                refine lv_iadd hx hb dX10_causes_129 ?_
                refine W.eq (g2 := F0 m 130 ls [.int 3]) rfl ?_
                exact W.iret (v := 3) hx hb hr (fun tq ht hW => ⟨3, rfl, (show spCau (whr mtop sa) (alk mmar mtel sa (mtop co.toNatClampNeg)) (mgho co.toNatClampNeg = sa) (thQ mdA mdB mdoo.toInt co) mtop co sa (3 : Int32) from by (try rw [show (3 : Int32).toInt = 3 from (show (3 : Int32).toInt = 3 from rfl)]); (first | exact Or.inl ⟨by omega, rfl⟩ | exact Or.inr ⟨by omega, Or.inl ⟨(by first | exact Or.inl (by assumption) | exact Or.inr (by assumption)), rfl⟩⟩ | exact Or.inr ⟨by omega, Or.inr ⟨⟨by assumption, by assumption⟩, _, by assumption, _, _, _, (by first | exact Or.inl ⟨alkM_y (by assumption) (by omega), rfl⟩ | exact Or.inr ⟨alkM_n (by assumption) (by omega), rfl⟩), (by first | exact Or.inl ⟨by assumption, rfl⟩ | exact Or.inr ⟨by assumption, rfl⟩), (by first | exact Or.inl ⟨thQ_y (by assumption) (by assumption) (by assumption) (by omega) (by omega), rfl⟩ | exact Or.inr ⟨thQ_n (by omega), rfl⟩ | exact Or.inr ⟨thQ_n3 (by assumption) (by assumption) (by assumption), rfl⟩), by first | rfl | omega⟩⟩)), ht⟩) (fun q h => by cases h) dX10_causes_130
              · have dc48 : 0 ≤ r11.toInt := ka_lo (by omega) (neC rfl (show ((-1) : Int32).toInt = (-1) from rfl) c48)
                refine lv_iload_n hx hb dX10_causes_98 rfl (lv_at hl 1 rfl) ?_
                refine lv_bipush (v := 6) hx hb dX10_causes_99 (by decide) ?_
                refine lv_irem hx hb dX10_causes_101 (by decide) ?_
                have f49 : (r11 - r11 / 6 * 6).toInt = (r11.toInt) % (6) := remC rfl (show (6 : Int32).toInt = 6 from rfl) (by omega) (by omega)
                refine lv_iload_n hx hb dX10_causes_102 rfl (lv_at hl 3 rfl) ?_
                refine lv_bipush (v := 6) hx hb dX10_causes_103 (by decide) ?_
                refine lv_irem hx hb dX10_causes_105 (by decide) ?_
                have f50 : (co - co / 6 * 6).toInt = (co.toInt) % (6) := remC rfl (show (6 : Int32).toInt = 6 from rfl) (by omega) (by omega)
                refine lv_icmp_ne (tgt := 128) hx hb dX10_causes_106 (by decide) (fun c51 => ?_) (fun c51 => ?_)
                · have dc51 : (r11.toInt) % (6) ≠ (co.toInt) % (6) := neC f49 f50 c51
                  refine lv_iconst (v := 0) hx hb dX10_causes_128 (by decide) ?_
                  refine lv_iadd hx hb dX10_causes_129 ?_
                  refine W.eq (g2 := F0 m 130 ls [.int 3]) rfl ?_
                  exact W.iret (v := 3) hx hb hr (fun tq ht hW => ⟨3, rfl, (show spCau (whr mtop sa) (alk mmar mtel sa (mtop co.toNatClampNeg)) (mgho co.toNatClampNeg = sa) (thQ mdA mdB mdoo.toInt co) mtop co sa (3 : Int32) from by (try rw [show (3 : Int32).toInt = 3 from (show (3 : Int32).toInt = 3 from rfl)]); (first | exact Or.inl ⟨by omega, rfl⟩ | exact Or.inr ⟨by omega, Or.inl ⟨(by first | exact Or.inl (by assumption) | exact Or.inr (by assumption)), rfl⟩⟩ | exact Or.inr ⟨by omega, Or.inr ⟨⟨by assumption, by assumption⟩, _, by assumption, _, _, _, (by first | exact Or.inl ⟨alkM_y (by assumption) (by omega), rfl⟩ | exact Or.inr ⟨alkM_n (by assumption) (by omega), rfl⟩), (by first | exact Or.inl ⟨by assumption, rfl⟩ | exact Or.inr ⟨by assumption, rfl⟩), (by first | exact Or.inl ⟨thQ_y (by assumption) (by assumption) (by assumption) (by omega) (by omega), rfl⟩ | exact Or.inr ⟨thQ_n (by omega), rfl⟩ | exact Or.inr ⟨thQ_n3 (by assumption) (by assumption) (by assumption), rfl⟩), by first | rfl | omega⟩⟩)), ht⟩) (fun q h => by cases h) dX10_causes_130
                · have dc51 : (r11.toInt) % (6) = (co.toInt) % (6) := eqC f49 f50 c51
                  refine lv_aload_n hx hb dX10_causes_109 rfl (lv_at hl 2 rfl) ?_
                  refine lv_iload_n hx hb dX10_causes_110 rfl (lv_at hl 1 rfl) ?_
                  refine lv_bipush (v := 6) hx hb dX10_causes_111 (by decide) ?_
                  refine lv_idiv hx hb dX10_causes_113 (by decide) ?_
                  have f52 : (r11 / 6).toInt = (r11.toInt) / (6) := divC rfl (show (6 : Int32).toInt = 6 from rfl) (by omega) (by omega)
                  refine lv_iload_n hx hb dX10_causes_114 rfl (lv_at hl 3 rfl) ?_
                  refine lv_bipush (v := 6) hx hb dX10_causes_115 (by decide) ?_
                  refine lv_idiv hx hb dX10_causes_117 (by decide) ?_
                  have f53 : (co / 6).toInt = (co.toInt) / (6) := divC rfl (show (6 : Int32).toInt = 6 from rfl) (by omega) (by omega)
                  refine rdV (As := [.int (r11 / 6), .int (co / 6)]) (rest := [.int 3]) ⟨hx, hb, hml, hown, hts⟩ (k_X10_areJoined2 l dC dI cI cZ cQ b mday mdoo mdA mdB mfar mmar mtel mgai mfal mtop mstr mgho mfai mpto mwal mahd mahf mcho mbes mbyt mtxt mpos mtka mtok mdig mnum mfau mrdm mrea mlin mlne mthg mord mbor mbsm mans mand manr mali (r11 / 6) (co / 6) r_mday r_mdoo r_mdA r_mdB r_mmar r_mgai r_mfal r_mtop r_mstr r_mgho r_mfai r_mahd r_mahf r_mcho r_mbyt r_mpos r_mrdm r_mlin r_mthg r_mord r_mans) (cwV 2 hts gX10_causes_X10_areJoined rfl rfl rfl (by decide +kernel) ⟨Nat.le_of_ble_eq_true rfl, Nat.le_of_ble_eq_true rfl⟩) hP hK hN [0, 1, 2, 3, 4, 5, 6, 7, 8, 9, 10, 11, 12, 13, 14, 15, 16, 17, 18, 19, 20, 21, 22, 23, 24, 25] rfl 0 10 rfl rfl rfl hl.1 rfl (Nat.le_of_ble_eq_true rfl) dX10_causes_118 ⟨Nat.le_of_ble_eq_true rfl, Nat.le_of_ble_eq_true rfl⟩ (fun r54 h55 => ?_)
                  have h55 : ((((r54 = 1) ∧ (eD mdA mdB mdoo.toInt (r11 / 6).toInt (co / 6).toInt)) ∨ ((r54 = 0) ∧ (¬ eD mdA mdB mdoo.toInt (r11 / 6).toInt (co / 6).toInt)))) := h55
                  rcases h55 with (⟨rfl, h55_a0⟩ | ⟨rfl, h55_a0⟩)
                  · refine lv_if_eq (tgt := 128) hx hb dX10_causes_121 (by decide) (fun c9 => absurd c9 (by decide)) (fun _ => ?_)
                    refine lv_iconst (v := 4) hx hb dX10_causes_124 (by decide) ?_
                    refine lv_goto (tgt := 129) hx hb dX10_causes_125 (by decide) ?_
                    refine lv_iadd hx hb dX10_causes_129 ?_
                    refine W.eq (g2 := F0 m 130 ls [.int 7]) rfl ?_
                    exact W.iret (v := 7) hx hb hr (fun tq ht hW => ⟨7, rfl, (show spCau (whr mtop sa) (alk mmar mtel sa (mtop co.toNatClampNeg)) (mgho co.toNatClampNeg = sa) (thQ mdA mdB mdoo.toInt co) mtop co sa (7 : Int32) from by (try rw [show (7 : Int32).toInt = 7 from (show (7 : Int32).toInt = 7 from rfl)]); (first | exact Or.inl ⟨by omega, rfl⟩ | exact Or.inr ⟨by omega, Or.inl ⟨(by first | exact Or.inl (by assumption) | exact Or.inr (by assumption)), rfl⟩⟩ | exact Or.inr ⟨by omega, Or.inr ⟨⟨by assumption, by assumption⟩, _, by assumption, _, _, _, (by first | exact Or.inl ⟨alkM_y (by assumption) (by omega), rfl⟩ | exact Or.inr ⟨alkM_n (by assumption) (by omega), rfl⟩), (by first | exact Or.inl ⟨by assumption, rfl⟩ | exact Or.inr ⟨by assumption, rfl⟩), (by first | exact Or.inl ⟨thQ_y (by assumption) (by assumption) (by assumption) (by omega) (by omega), rfl⟩ | exact Or.inr ⟨thQ_n (by omega), rfl⟩ | exact Or.inr ⟨thQ_n3 (by assumption) (by assumption) (by assumption), rfl⟩), by first | rfl | omega⟩⟩)), ht⟩) (fun q h => by cases h) dX10_causes_130
                  · refine lv_if_eq (tgt := 128) hx hb dX10_causes_121 (by decide) (fun _ => ?_) (fun c9 => absurd (by decide) c9)
                    refine lv_iconst (v := 0) hx hb dX10_causes_128 (by decide) ?_
                    refine lv_iadd hx hb dX10_causes_129 ?_
                    refine W.eq (g2 := F0 m 130 ls [.int 3]) rfl ?_
                    exact W.iret (v := 3) hx hb hr (fun tq ht hW => ⟨3, rfl, (show spCau (whr mtop sa) (alk mmar mtel sa (mtop co.toNatClampNeg)) (mgho co.toNatClampNeg = sa) (thQ mdA mdB mdoo.toInt co) mtop co sa (3 : Int32) from by (try rw [show (3 : Int32).toInt = 3 from (show (3 : Int32).toInt = 3 from rfl)]); (first | exact Or.inl ⟨by omega, rfl⟩ | exact Or.inr ⟨by omega, Or.inl ⟨(by first | exact Or.inl (by assumption) | exact Or.inr (by assumption)), rfl⟩⟩ | exact Or.inr ⟨by omega, Or.inr ⟨⟨by assumption, by assumption⟩, _, by assumption, _, _, _, (by first | exact Or.inl ⟨alkM_y (by assumption) (by omega), rfl⟩ | exact Or.inr ⟨alkM_n (by assumption) (by omega), rfl⟩), (by first | exact Or.inl ⟨by assumption, rfl⟩ | exact Or.inr ⟨by assumption, rfl⟩), (by first | exact Or.inl ⟨thQ_y (by assumption) (by assumption) (by assumption) (by omega) (by omega), rfl⟩ | exact Or.inr ⟨thQ_n (by omega), rfl⟩ | exact Or.inr ⟨thQ_n3 (by assumption) (by assumption) (by assumption), rfl⟩), by first | rfl | omega⟩⟩)), ht⟩) (fun q h => by cases h) dX10_causes_130
        · have dc10 : (mtop co.toNatClampNeg).toInt = sa.toInt := eqC rfl rfl c10
          refine lv_bipush (v := (-4)) hx hb dX10_causes_37 (by decide) ?_
          exact W.iret (v := (-4)) hx hb hr (fun tq ht hW => ⟨(-4), rfl, (show spCau (whr mtop sa) (alk mmar mtel sa (mtop co.toNatClampNeg)) (mgho co.toNatClampNeg = sa) (thQ mdA mdB mdoo.toInt co) mtop co sa ((-4) : Int32) from by (try rw [show ((-4) : Int32).toInt = (-4) from (show ((-4) : Int32).toInt = (-4) from rfl)]); (first | exact Or.inl ⟨by omega, rfl⟩ | exact Or.inr ⟨by omega, Or.inl ⟨(by first | exact Or.inl (by assumption) | exact Or.inr (by assumption)), rfl⟩⟩ | exact Or.inr ⟨by omega, Or.inr ⟨⟨by assumption, by assumption⟩, _, by assumption, _, _, _, (by first | exact Or.inl ⟨alkM_y (by assumption) (by omega), rfl⟩ | exact Or.inr ⟨alkM_n (by assumption) (by omega), rfl⟩), (by first | exact Or.inl ⟨by assumption, rfl⟩ | exact Or.inr ⟨by assumption, rfl⟩), (by first | exact Or.inl ⟨thQ_y (by assumption) (by assumption) (by assumption) (by omega) (by omega), rfl⟩ | exact Or.inr ⟨thQ_n (by omega), rfl⟩ | exact Or.inr ⟨thQ_n3 (by assumption) (by assumption) (by assumption), rfl⟩), by first | rfl | omega⟩⟩)), ht⟩) (fun q h => by cases h) dX10_causes_39
    · refine lv_if_ne (tgt := 17) hx hb dX10_causes_11 (by decide) (fun c9 => absurd (by decide) c9) (fun _ => ?_)
      refine lv_bipush (v := (-2)) hx hb dX10_causes_14 (by decide) ?_
      exact W.iret (v := (-2)) hx hb hr (fun tq ht hW => ⟨(-2), rfl, (show spCau (whr mtop sa) (alk mmar mtel sa (mtop co.toNatClampNeg)) (mgho co.toNatClampNeg = sa) (thQ mdA mdB mdoo.toInt co) mtop co sa ((-2) : Int32) from by (try rw [show ((-2) : Int32).toInt = (-2) from (show ((-2) : Int32).toInt = (-2) from rfl)]); (first | exact Or.inl ⟨by omega, rfl⟩ | exact Or.inr ⟨by omega, Or.inl ⟨(by first | exact Or.inl (by assumption) | exact Or.inr (by assumption)), rfl⟩⟩ | exact Or.inr ⟨by omega, Or.inr ⟨⟨by assumption, by assumption⟩, _, by assumption, _, _, _, (by first | exact Or.inl ⟨alkM_y (by assumption) (by omega), rfl⟩ | exact Or.inr ⟨alkM_n (by assumption) (by omega), rfl⟩), (by first | exact Or.inl ⟨by assumption, rfl⟩ | exact Or.inr ⟨by assumption, rfl⟩), (by first | exact Or.inl ⟨thQ_y (by assumption) (by assumption) (by assumption) (by omega) (by omega), rfl⟩ | exact Or.inr ⟨thQ_n (by omega), rfl⟩ | exact Or.inr ⟨thQ_n3 (by assumption) (by assumption) (by assumption), rfl⟩), by first | rfl | omega⟩⟩)), ht⟩) (fun q h => by cases h) dX10_causes_16
  · refine lv_if_eq (tgt := 14) hx hb dX10_causes_4 (by decide) (fun _ => ?_) (fun c9 => absurd (by decide) c9)
    refine lv_bipush (v := (-2)) hx hb dX10_causes_14 (by decide) ?_
    exact W.iret (v := (-2)) hx hb hr (fun tq ht hW => ⟨(-2), rfl, (show spCau (whr mtop sa) (alk mmar mtel sa (mtop co.toNatClampNeg)) (mgho co.toNatClampNeg = sa) (thQ mdA mdB mdoo.toInt co) mtop co sa ((-2) : Int32) from by (try rw [show ((-2) : Int32).toInt = (-2) from (show ((-2) : Int32).toInt = (-2) from rfl)]); (first | exact Or.inl ⟨by omega, rfl⟩ | exact Or.inr ⟨by omega, Or.inl ⟨(by first | exact Or.inl (by assumption) | exact Or.inr (by assumption)), rfl⟩⟩ | exact Or.inr ⟨by omega, Or.inr ⟨⟨by assumption, by assumption⟩, _, by assumption, _, _, _, (by first | exact Or.inl ⟨alkM_y (by assumption) (by omega), rfl⟩ | exact Or.inr ⟨alkM_n (by assumption) (by omega), rfl⟩), (by first | exact Or.inl ⟨by assumption, rfl⟩ | exact Or.inr ⟨by assumption, rfl⟩), (by first | exact Or.inl ⟨thQ_y (by assumption) (by assumption) (by assumption) (by omega) (by omega), rfl⟩ | exact Or.inr ⟨thQ_n (by omega), rfl⟩ | exact Or.inr ⟨thQ_n3 (by assumption) (by assumption) (by assumption), rfl⟩), by first | rfl | omega⟩⟩)), ht⟩) (fun q h => by cases h) dX10_causes_16
