-- ===== ENOUGH =====
def cuW (m : Int32) : Int32 := if m = -1 then 6 else (if 6 < m then 6 else m)
def enS (D : Nat → Int) (Mm : Nat → Int32) (C : Int) : Nat → Int32 × Int32
  | 0 => (0, 0)
  | s + 1 => if (enS D Mm C s).1.toInt < C ∧ D (s % 8) = ((s / 8 : Nat) : Int) then ((enS D Mm C s).1 + Mm (s % 8), (enS D Mm C s).2 + 1) else enS D Mm C s
theorem en_0 {D : Nat → Int} {Mm : Nat → Int32} {C : Int} {h r : Int32} {s : Nat} (h0 : h = 0) (r0 : r = 0) (hs : s = 0) : (h, r) = enS D Mm C s := by subst hs; subst h0; subst r0; rfl
theorem en_y {D : Nat → Int} {Mm : Nat → Int32} {C : Int} {h r h' r' f y : Int32} {s s' : Nat} (q : (h, r) = enS D Mm C s) (hs : (s : Int) = 8 * f.toInt + y.toInt) (hf : 0 ≤ f.toInt) (hy : 0 ≤ y.toInt) (hy7 : y.toInt ≤ 7) (c : h.toInt < C) (d : D y.toInt.toNat = f.toInt) (eh : h' = h + Mm y.toInt.toNat) (er : r' = r + 1) (e : s' = s + 1) : (h', r') = enS D Mm C s' := by
  subst e
  show _ = if (enS D Mm C s).1.toInt < C ∧ D (s % 8) = ((s / 8 : Nat) : Int) then ((enS D Mm C s).1 + Mm (s % 8), (enS D Mm C s).2 + 1) else enS D Mm C s
  rw [← q, show s % 8 = y.toInt.toNat by omega, if_pos ⟨c, by rw [d]; omega⟩, eh, er]
theorem en_n {D : Nat → Int} {Mm : Nat → Int32} {C : Int} {h r f y : Int32} {s s' : Nat} (q : (h, r) = enS D Mm C s) (hs : (s : Int) = 8 * f.toInt + y.toInt) (hf : 0 ≤ f.toInt) (hy : 0 ≤ y.toInt) (hy7 : y.toInt ≤ 7) (c : C ≤ h.toInt ∨ D y.toInt.toNat ≠ f.toInt) (e : s' = s + 1) : (h, r) = enS D Mm C s' := by
  subst e
  show _ = if (enS D Mm C s).1.toInt < C ∧ D (s % 8) = ((s / 8 : Nat) : Int) then ((enS D Mm C s).1 + Mm (s % 8), (enS D Mm C s).2 + 1) else enS D Mm C s
  rw [← q, show s % 8 = y.toInt.toNat by omega, if_neg ?_]
  intro z
  rcases c with c | c
  · have := z.1; have : h.toInt < C := this; omega
  · exact c (z.2.trans (by omega))
theorem en_c {D : Nat → Int} {Mm : Nat → Int32} {C : Int} {h r : Int32} {s s' : Nat} (q : (h, r) = enS D Mm C s) (e : s' = s) : (h, r) = enS D Mm C s' := by subst e; exact q
theorem en_stay {D : Nat → Int} {Mm : Nat → Int32} {C : Int} {h r : Int32} {s : Nat} (q : (h, r) = enS D Mm C s) (c : C ≤ h.toInt) : ∀ k : Nat, (h, r) = enS D Mm C (s + k)
  | 0 => q
  | k + 1 => by
    have i := en_stay q c k
    show _ = if (enS D Mm C (s + k)).1.toInt < C ∧ D ((s + k) % 8) = (((s + k) / 8 : Nat) : Int) then ((enS D Mm C (s + k)).1 + Mm ((s + k) % 8), (enS D Mm C (s + k)).2 + 1) else enS D Mm C (s + k)
    rw [← i, if_neg (fun z => by have : h.toInt < C := z.1; omega)]
theorem en_eq {D D2 : Nat → Int} {Mm M2 : Nat → Int32} {C : Int} (h1 : ∀ j, j < 8 → D j = D2 j) (h2 : ∀ j, j < 8 → Mm j = M2 j) : ∀ s, enS D Mm C s = enS D2 M2 C s
  | 0 => rfl
  | s + 1 => by
    show (if (enS D Mm C s).1.toInt < C ∧ D (s % 8) = ((s / 8 : Nat) : Int) then ((enS D Mm C s).1 + Mm (s % 8), (enS D Mm C s).2 + 1) else enS D Mm C s) = (if (enS D2 M2 C s).1.toInt < C ∧ D2 (s % 8) = ((s / 8 : Nat) : Int) then ((enS D2 M2 C s).1 + M2 (s % 8), (enS D2 M2 C s).2 + 1) else enS D2 M2 C s)
    rw [en_eq h1 h2 s, h1 (s % 8) (by omega), h2 (s % 8) (by omega)]
def enR (p : Int32 × Int32) (C : Int) (r : Int32) : Prop := (p.1.toInt < C ∧ r = -1) ∨ (C ≤ p.1.toInt ∧ r = p.2)
theorem er_n {p : Int32 × Int32} {C : Int} {h r : Int32} (q : (h, r) = p) (c : h.toInt < C) : enR p C (-1) := by subst q; exact .inl ⟨c, rfl⟩
theorem er_y {p : Int32 × Int32} {C : Int} {h r : Int32} (q : (h, r) = p) (c : C ≤ h.toInt) : enR p C r := by subst q; exact .inr ⟨c, rfl⟩
def dw0 (few : Nat → Int32) : Nat → Int := fun j => (few j).toInt
def spEnoC (few mo : Nat → Int32) (co r : Int32) : Prop := ((co.toInt < 0 ∨ 48 < co.toInt) ∧ r = -3) ∨ ((0 ≤ co.toInt ∧ co.toInt ≤ 48) ∧ enR (enS (dw0 few) (fun j => cuW (mo j)) co.toInt 64) co.toInt r)
def mcW (L : Nat → Int32) (n : Nat) : Nat → Int32 := fun j => if 6 < laF L 0 (nI j) 6 n then 6 else laF L 0 (nI j) 6 n
def spEnoM (A B L : Nat → Int32) (n ls co r : Int32) : Prop := ((co.toInt < 0 ∨ 48 < co.toInt) ∧ r = -3) ∨ ((0 ≤ co.toInt ∧ co.toInt ≤ 48) ∧ ∀ few : Nat → Int32, mtOK few → edR few A B n.toInt → enR (enS (dw0 few) (mcW L ls.toInt.toNat) co.toInt 64) co.toInt r)
theorem spEno_rel {few A B mo we L : Nat → Int32} {doo n ag ap li ls co r r2 : Int32} (hm : mtOK few) (R : doR few doo A B n) (Rb : bkR mo we ag ap li L ls) (h1 : spEnoC few mo co r) (h2 : spEnoM A B L n ls co r2) : r = r2 := by
  have Bk := bk_i Rb
  rcases h1 with ⟨a, b⟩ | ⟨a, b⟩
  · rcases h2 with ⟨_, d⟩ | ⟨c, _⟩
    · rw [b, d]
    · exfalso; omega
  · rcases h2 with ⟨c, _⟩ | ⟨_, d⟩
    · exfalso; omega
    · have d2 := d few hm R.2
      have e : enS (dw0 few) (fun j => cuW (mo j)) co.toInt 64 = enS (dw0 few) (mcW L ls.toInt.toNat) co.toInt 64 := by
        refine en_eq (fun _ _ => rfl) (fun j hj => ?_) 64
        show cuW (mo j) = (if 6 < laF L 0 (nI j) 6 ls.toInt.toNat then 6 else laF L 0 (nI j) 6 ls.toInt.toNat)
        rw [Bk.1 j hj]
        unfold cuW
        rcases la_wi (r := L) (so := 0) (ro := nI j) (wi := 6) _ Bk.2.2.2.2 with ⟨x, y⟩ | ⟨x, y⟩
        · rw [x, y, if_pos rfl, if_neg (by decide)]
        · rw [x, if_neg (nn_m1 y.1.1)]
      rw [e] at b
      rcases b with ⟨x, b⟩ | ⟨x, b⟩ <;> rcases d2 with ⟨y, d2⟩ | ⟨y, d2⟩
      · rw [b, d2]
      · exfalso; omega
      · exfalso; omega
      · rw [b, d2]
/-- the model's, for every metric that keeps its doors -/
def emI (A B L : Nat → Int32) (n ls : Int) (C : Int) (h r : Int32) (s : Nat) : Prop := ∀ few : Nat → Int32, mtOK few → edR few A B n → (h, r) = enS (dw0 few) (mcW L ls.toNat) C s
theorem em_0 {A B L : Nat → Int32} {n ls C : Int} {h r : Int32} {s : Nat} (h0 : h = 0) (r0 : r = 0) (hs : s = 0) : emI A B L n ls C h r s := fun _ _ _ => en_0 h0 r0 hs
theorem em_c {A B L : Nat → Int32} {n ls C : Int} {h r : Int32} {s s' : Nat} (q : emI A B L n ls C h r s) (e : s' = s) : emI A B L n ls C h r s' := fun w a b => en_c (q w a b) e
theorem em_d {few A B : Nat → Int32} {n : Int} {y v : Int32} (d : dsR A B n 0 y v) (a : mtOK few) (b : edR few A B n) : dw0 few y.toInt.toNat = v.toInt := by
  have := d few a b
  rw [show (((0 : Int32)).toInt * 8 + y.toInt).toNat = y.toInt.toNat from by rw [Int32.toInt_zero]; omega] at this
  show (few y.toInt.toNat).toInt = v.toInt
  rw [this]
theorem em_y {A B L : Nat → Int32} {n ls C : Int} {h r h' r' f y v so m : Int32} {s s' : Nat} (q : emI A B L n ls C h r s) (d : dsR A B n 0 y v) (l : so = laF L 0 y 6 ls.toNat) (hm : m = if 6 < so then 6 else so) (hs : (s : Int) = 8 * f.toInt + y.toInt) (hf : 0 ≤ f.toInt) (hy : 0 ≤ y.toInt) (hy7 : y.toInt ≤ 7) (c : h.toInt < C) (dv : v.toInt = f.toInt) (eh : h' = h + m) (er : r' = r + 1) (e : s' = s + 1) : emI A B L n ls C h' r' s' := by
  intro w a b
  refine en_y (q w a b) hs hf hy hy7 c ((em_d d a b).trans dv) ?_ er e
  rw [eh, hm, l]
  show _ = h + (if 6 < laF L 0 (nI y.toInt.toNat) 6 ls.toNat then 6 else laF L 0 (nI y.toInt.toNat) 6 ls.toNat)
  rw [nI_toNat hy]
theorem em_n {A B L : Nat → Int32} {n ls C : Int} {h r f y v : Int32} {s s' : Nat} (q : emI A B L n ls C h r s) (d : dsR A B n 0 y v) (hs : (s : Int) = 8 * f.toInt + y.toInt) (hf : 0 ≤ f.toInt) (hy : 0 ≤ y.toInt) (hy7 : y.toInt ≤ 7) (dv : v.toInt ≠ f.toInt) (e : s' = s + 1) : emI A B L n ls C h r s' := fun w a b => en_n (q w a b) hs hf hy hy7 (.inr (by rw [em_d d a b]; exact dv)) e
theorem em_s {A B L : Nat → Int32} {n ls C : Int} {h r : Int32} {s s' : Nat} (q : emI A B L n ls C h r s) (c : s' = s ∨ (C ≤ h.toInt ∧ s ≤ s')) : emI A B L n ls C h r s' := by
  rcases c with c | ⟨c, e⟩
  · exact em_c q c
  · intro w a b
    have := en_stay (q w a b) c (s' - s)
    rwa [show s + (s' - s) = s' by omega] at this
theorem mi_1 {so : Int32} (h : 6 < so) : (6 : Int32) = if 6 < so then 6 else so := by rw [if_pos h]
theorem mi_2 {so : Int32} (h : so ≤ 6) : so = if 6 < so then 6 else so := by rw [if_neg (Int32.not_lt.mpr h)]
theorem mi_3 {so : Int32} (h : ¬ so ≤ 6) : (6 : Int32) = if 6 < so then 6 else so := mi_1 (Int32.not_le.mp h)
theorem cu_1 {m : Int32} (h : m = -1) : (6 : Int32) = cuW m := by unfold cuW; rw [if_pos h]
theorem cu_2 {m x : Int32} (h : ¬ m = -1) (e : x = if (6 : Int32) < m then 6 else m) : x = cuW m := by unfold cuW; rw [if_neg h]; exact e
theorem dw_of {few : Nat → Int32} {y r : Int32} {z : Int} (e : r.toInt = (few (z * 8 + y.toInt).toNat).toInt) (hz : z = 0) : dw0 few y.toInt.toNat = r.toInt := by
  subst hz; rw [show ((0 : Int) * 8 + y.toInt) = y.toInt by omega] at e; exact e.symm
theorem en_yC {few mo : Nat → Int32} {C z : Int} {h r h' r' f y v m : Int32} {s s' : Nat} (q : (h, r) = enS (dw0 few) (fun j => cuW (mo j)) C s) (e1 : v.toInt = (few (z * 8 + y.toInt).toNat).toInt) (hz : z = 0) (l : m = cuW (mo y.toNatClampNeg)) (hs : (s : Int) = 8 * f.toInt + y.toInt) (hf : 0 ≤ f.toInt) (hy : 0 ≤ y.toInt) (hy7 : y.toInt ≤ 7) (c : h.toInt < C) (dv : v.toInt = f.toInt) (eh : h' = h + m) (er : r' = r + 1) (e : s' = s + 1) : (h', r') = enS (dw0 few) (fun j => cuW (mo j)) C s' :=
  en_y q hs hf hy hy7 c ((dw_of e1 hz).trans dv) (by rw [eh, l, clC (x := y) rfl]) er e
theorem en_nC {few : Nat → Int32} {Mm : Nat → Int32} {C z : Int} {h r f y v : Int32} {s s' : Nat} (q : (h, r) = enS (dw0 few) Mm C s) (e1 : v.toInt = (few (z * 8 + y.toInt).toNat).toInt) (hz : z = 0) (hs : (s : Int) = 8 * f.toInt + y.toInt) (hf : 0 ≤ f.toInt) (hy : 0 ≤ y.toInt) (hy7 : y.toInt ≤ 7) (dv : v.toInt ≠ f.toInt) (e : s' = s + 1) : (h, r) = enS (dw0 few) Mm C s' :=
  en_n q hs hf hy hy7 (.inr (by rw [dw_of e1 hz]; exact dv)) e
set_option maxHeartbeats 4000000 in
set_option maxRecDepth 100000 in
theorem k_X5_cornersToUse2 (l : Launch) (dC : Nat → ClassId) (dI : Nat → Nat → Nat) (cI cZ cQ : ClassId) (rb0 : Nat) (rb1 : Nat) (rb2 : Nat) (mos : Nat → Int32) (wev : Nat → Int32) (aga : Int32) (apa : Int32) (lin : Int32) (ro : Int32) (q0 : 0 ≤ ro.toInt) (q1 : ro.toInt ≤ 7) : KR l yX5_cornersToUse wsX5_cornersToUse { frames := 1, cells := 0, slots := 0, locals := 24 } (dC, dI) (TY cI cZ cQ) (wRul cI cZ cQ rb0 rb1 rb2 mos wev aga apa lin) [.ref rb0, .int ro] (fun r : Int32 => (r = cuW (mos ro.toNatClampNeg))) := by
  refine Met.ofW (cc := cX5_cornersToUse) (maxL := 2) (ret := (some .int)) (by decide) rfl ?_
  intro p e s m args below meth c s₁ B hml hv
  obtain ⟨rfl, hP, hK, hN⟩ := hv
  have hx := B.exec
  have hb := B.bytes
  have hr := B.returns
  have hts := atoms_spec (ws := wsX5_cornersToUse) B.pre
  have hown : s.vm.findClass RX5 = some m.cls := findClass_of_methodNamed B.named
  have hlocks := B.notSynchronized
  have lf9 := hts (.fieldLink RX5 9 "PalaceOfRooms$RuleBook" "mostIn" "[I") (List.mem_cons_of_mem _ (List.mem_append_left _ (List.mem_of_getElem? (i := 0) rfl)))
  have inX5 : ∀ w ∈ wsX50, w ∈ wsX5_cornersToUse := fun w h => List.mem_cons_of_mem _ (List.mem_append_right _ h)
  have hl := lv_entry ([.ref rb0, .int ro]) (n := 2) (Nat.le_of_ble_eq_true rfl)
  rw [lg_entry_eq]
  generalize (lg_sl ([.ref rb0, .int ro]) ++ List.replicate (2 - (lg_sl ([.ref rb0, .int ro])).length) Slot.unset).toArray = ls at hl ⊢
  have hl : lv_has ls 2 [(0, .ref rb0), (1, .int ro)] := hl
  refine lv_aload_n hx hb dX5_cornersToUse_0 rfl (lv_at hl 0 rfl) ?_
  refine va_get (D := (dC, dI)) (ci := 5) (v := .ref rb1) (C := RX5) (T := TX5) (N := 5) hx hb hts inX5 hown hK hP 0 rfl rfl 0 (by decide) lf9 (fun _ h9 => h9) rfl dX5_cornersToUse_1 ?_
  refine lv_iload_n hx hb dX5_cornersToUse_4 rfl (lv_at hl 1 rfl) ?_
  have b1 : vp_in ro 8 := inC rfl (by omega) (by omega)
  refine va_iald hx hb hK hP 1 0 rfl rfl b1 dX5_cornersToUse_5 ?_
  refine lv_iconst (v := (-1)) hx hb dX5_cornersToUse_6 (by decide) ?_
  refine lv_icmp_ne (tgt := 15) hx hb dX5_cornersToUse_7 (by decide) (fun c2 => ?_) (fun c2 => ?_)
  · have dc2 : (mos ro.toNatClampNeg).toInt ≠ (-1) := neC rfl (show ((-1) : Int32).toInt = (-1) from rfl) c2
    refine lv_aload_n hx hb dX5_cornersToUse_15 rfl (lv_at hl 0 rfl) ?_
    refine va_get (D := (dC, dI)) (ci := 5) (v := .ref rb1) (C := RX5) (T := TX5) (N := 5) hx hb hts inX5 hown hK hP 0 rfl rfl 0 (by decide) lf9 (fun _ h9 => h9) rfl dX5_cornersToUse_16 ?_
    refine lv_iload_n hx hb dX5_cornersToUse_19 rfl (lv_at hl 1 rfl) ?_
    have b3 : vp_in ro 8 := inC rfl (by omega) (by omega)
    refine va_iald hx hb hK hP 1 0 rfl rfl b3 dX5_cornersToUse_20 ?_
    refine lv_bipush (v := 6) hx hb dX5_cornersToUse_21 (by decide) ?_
    refine va_mmin hx hb (by rw [hml]; exact hl.1.symm) hown (hts (.methodLink RX5 37 Lib.Math.min.name) (List.mem_cons_of_mem _ (List.mem_append_left _ (List.mem_of_getElem? (i := 1) rfl)))) (hts (.static Lib.Math.min.name) (List.mem_cons_of_mem _ (List.mem_append_left _ (List.mem_of_getElem? (i := 2) rfl)))) (hts (.initialized "java/lang/Math") (List.mem_cons_of_mem _ (List.mem_append_left _ (List.mem_of_getElem? (i := 3) rfl)))) (hts (.code Lib.Math.min.name Lib.Math.min.code 2 (some .int)) (List.mem_cons_of_mem _ (List.mem_append_left _ (List.mem_of_getElem? (i := 4) rfl)))) (Nat.le_of_ble_eq_true rfl) (Nat.le_of_ble_eq_true rfl) (Nat.le_of_ble_eq_true rfl) (Nat.le_of_ble_eq_true rfl) dX5_cornersToUse_23 ?_
    have f4 : (if (6 : Int32) < mos ro.toNatClampNeg then 6 else mos ro.toNatClampNeg : Int32).toInt = min ((mos ro.toNatClampNeg).toInt) (6) := minC rfl (show (6 : Int32).toInt = 6 from rfl)
    refine lv_topi (fun x5 ex5 => ?_)
    have ix5 : x5.toInt = min ((mos ro.toNatClampNeg).toInt) (6) := by rw [ex5]; exact f4
    exact W.iret (v := x5) hx hb hr (fun tq ht hW => ⟨x5, rfl, (show x5 = cuW (mos ro.toNatClampNeg) from by (first | exact cu_1 (by assumption) | exact cu_2 (by assumption) (by assumption))), ht⟩) (fun q h => by cases h) dX5_cornersToUse_26
  · have dc2 : (mos ro.toNatClampNeg).toInt = (-1) := eqC rfl (show ((-1) : Int32).toInt = (-1) from rfl) c2
    refine lv_bipush (v := 6) hx hb dX5_cornersToUse_10 (by decide) ?_
    refine lv_goto (tgt := 26) hx hb dX5_cornersToUse_12 (by decide) ?_
    exact W.iret (v := 6) hx hb hr (fun tq ht hW => ⟨6, rfl, (show (6 : Int32) = cuW (mos ro.toNatClampNeg) from by (try rw [show (6 : Int32).toInt = 6 from (show (6 : Int32).toInt = 6 from rfl)]); (first | exact cu_1 (by assumption) | exact cu_2 (by assumption) (by assumption))), ht⟩) (fun q h => by cases h) dX5_cornersToUse_26
set_option maxHeartbeats 4000000 in
set_option maxRecDepth 100000 in
theorem k_X9_enough2 (l : Launch) (dC : Nat → ClassId) (dI : Nat → Nat → Nat) (cI cZ cQ : ClassId) (a : Nat → Nat) (rb0 : Nat) (rb1 : Nat) (rb2 : Nat) (db0 : Nat) (db1 : Nat) (db2 : Nat) (few : Nat → Int32) (doo : Int32) (mos : Nat → Int32) (wev : Nat → Int32) (aga : Int32) (apa : Int32) (lin : Int32) (co : Int32)  : KR l yX9_enough wsX9_enough { frames := 2, cells := 0, slots := 0, locals := 45 } (dC, dI) (TY cI cZ cQ) (wsWR cI cZ cQ a rb0 rb1 rb2 db0 db1 db2 few doo mos wev aga apa lin) [.ref (a 43), .int co] (fun r : Int32 => (spEnoC few mos co r)) := by
  refine Met.ofW (cc := cX9_enough) (maxL := 6) (ret := (some .int)) (by decide) rfl ?_
  intro p e s m args below meth c s₁ B hml hv
  obtain ⟨rfl, hP, hK, hN⟩ := hv
  have hx := B.exec
  have hb := B.bytes
  have hr := B.returns
  have hts := atoms_spec (ws := wsX9_enough) B.pre
  have hown : s.vm.findClass RX9 = some m.cls := findClass_of_methodNamed B.named
  have hlocks := B.notSynchronized
  have lf12 := hts (.fieldLink RX9 12 "PalaceOfRooms" "ways" "LPalaceOfRooms$Ways;") (List.mem_cons_of_mem _ (List.mem_append_left _ (List.mem_append_left _ (List.mem_append_left _ (List.mem_of_getElem? (i := 0) rfl)))))
  have inX9 : ∀ w ∈ wsX90, w ∈ wsX9_enough := fun w h => List.mem_cons_of_mem _ (List.mem_append_left _ (List.mem_append_left _ (List.mem_append_right _ h)))
  have lf76 := hts (.fieldLink RX9 76 "PalaceOfRooms" "rules" "LPalaceOfRooms$RuleBook;") (List.mem_cons_of_mem _ (List.mem_append_left _ (List.mem_append_left _ (List.mem_append_left _ (List.mem_of_getElem? (i := 1) rfl)))))
  have hl := lv_entry ([.ref (a 43), .int co]) (n := 6) (Nat.le_of_ble_eq_true rfl)
  rw [lg_entry_eq]
  generalize (lg_sl ([.ref (a 43), .int co]) ++ List.replicate (6 - (lg_sl ([.ref (a 43), .int co])).length) Slot.unset).toArray = ls at hl ⊢
  have hl : lv_has ls 6 [(0, .ref (a 43)), (1, .int co)] := hl
  refine lv_iload_n hx hb dX9_enough_0 rfl (lv_at hl 1 rfl) ?_
  refine lv_iconst (v := 0) hx hb dX9_enough_1 (by decide) ?_
  refine lv_bipush (v := 48) hx hb dX9_enough_2 (by decide) ?_
  refine rdS (As := [.int co, .int 0, .int 48]) (rest := []) ⟨hx, hb, hml, hown, hts⟩ (k_X9_within l dC dI cI cZ cQ co (0 : Int32) (48 : Int32)) (va_cwS 3 hts gX9_enough_X9_within rfl rfl rfl (by decide +kernel) ⟨Nat.le_of_ble_eq_true rfl, Nat.le_of_ble_eq_true rfl⟩) hP hK hN [] rfl rfl hl.1 rfl (Nat.le_of_ble_eq_true rfl) dX9_enough_4 ⟨Nat.le_of_ble_eq_true rfl, Nat.le_of_ble_eq_true rfl⟩ (fun r1 h2 => ?_)
  have h2 : ((((r1 = 1) ∧ ((0) ≤ co.toInt) ∧ (co.toInt ≤ (48))) ∨ ((r1 = 0) ∧ (co.toInt < (0) ∨ (48) < co.toInt)))) := h2
  rcases h2 with (⟨rfl, h2_a0, h2_a1⟩ | ⟨rfl, h2_a0⟩)
  · refine lv_if_ne (tgt := 13) hx hb dX9_enough_7 (by decide) (fun _ => ?_) (fun c9 => absurd c9 (by decide))
    refine lv_iconst (v := 0) hx hb dX9_enough_13 (by decide) ?_
    refine lv_istore_n (lv' := [(2, .int 0), (0, .ref (a 43)), (1, .int co)]) hx hb dX9_enough_14 rfl hl (by decide) rfl (fun ls hl => ?_)
    refine lv_iconst (v := 0) hx hb dX9_enough_15 (by decide) ?_
    refine lv_istore_n (lv' := [(3, .int 0), (2, .int 0), (0, .ref (a 43)), (1, .int co)]) hx hb dX9_enough_16 rfl hl (by decide) rfl (fun ls hl => ?_)
    refine lv_iconst (v := 0) hx hb dX9_enough_17 (by decide) ?_
    refine lv_istore (lv' := [(4, .int 0), (3, .int 0), (2, .int 0), (0, .ref (a 43)), (1, .int co)]) hx hb dX9_enough_18 hl (by decide) rfl (fun ls hl => ?_)
    have L20 : ∀ (nn : Nat) (y20_2 : Int32) (y20_3 : Int32) (y20_4 : Int32) (ls : Array Slot), (0 ≤ (y20_4.toInt)) → ((y20_4.toInt) ≤ 8) → ((y20_2, y20_3) = enS (dw0 few) (fun j => cuW (mos j)) co.toInt (8 * (y20_4.toInt)).toNat) → (8 - (y20_4.toInt)).toNat < nn → lv_has ls 6 [(0, .ref (a 43)), (1, .int co), (2, .int y20_2), (3, .int y20_3), (4, .int y20_4)] → W p l e (headSpec wsX9_enough { frames := 2, cells := 0, slots := 0, locals := 45 }).room s m ([.ref (a 43), .int co] : List Value).toArray below meth c s.heap [] 0 0 (MQ below (QR (fun r : Int32 => (spEnoC few mos co r))) ([.ref (a 43), .int co] : List Value).toArray s 0 0 (fun _ => False)) (F0 m 20 ls []) := by
      intro nn
      induction nn with
      | zero =>
        intro y20_2 y20_3 y20_4 ls i20_0 i20_1 i20_2 hm20
        exact absurd hm20 (Nat.not_lt_zero _)
      | succ nn ih20 =>
        intro y20_2 y20_3 y20_4 ls i20_0 i20_1 i20_2 hm20 hl
        refine lv_iload hx hb dX9_enough_20 (lv_at hl 4 rfl) ?_
        refine lv_bipush (v := 8) hx hb dX9_enough_22 (by decide) ?_
        refine lv_icmp_ge (tgt := 84) hx hb dX9_enough_24 (by decide) (fun c3 => ?_) (fun c3 => ?_)
        · have dc3 : 8 ≤ y20_4.toInt := leC (show (8 : Int32).toInt = 8 from rfl) rfl c3
          refine lv_iload_n hx hb dX9_enough_84 rfl (lv_at hl 2 rfl) ?_
          refine lv_iload_n hx hb dX9_enough_85 rfl (lv_at hl 1 rfl) ?_
          refine lv_icmp_ge (tgt := 93) hx hb dX9_enough_86 (by decide) (fun c4 => ?_) (fun c4 => ?_)
          · have dc4 : co.toInt ≤ y20_2.toInt := leC rfl rfl c4
            refine lv_iload_n hx hb dX9_enough_93 rfl (lv_at hl 3 rfl) ?_
            exact W.iret (v := y20_3) hx hb hr (fun tq ht hW => ⟨y20_3, rfl, (show spEnoC few mos co y20_3 from by (first | exact Or.inr ⟨by omega, er_n (en_c i20_2 (by omega)) (by omega)⟩ | exact Or.inr ⟨by omega, er_y (en_c i20_2 (by omega)) (by omega)⟩ | exact Or.inl ⟨by omega, rfl⟩)), ht⟩) (fun q h => by cases h) dX9_enough_94
          · have dc4 : y20_2.toInt < co.toInt := nleC rfl rfl c4
            refine lv_iconst (v := (-1)) hx hb dX9_enough_89 (by decide) ?_
            refine lv_goto (tgt := 94) hx hb dX9_enough_90 (by decide) ?_
            exact W.iret (v := (-1)) hx hb hr (fun tq ht hW => ⟨(-1), rfl, (show spEnoC few mos co ((-1) : Int32) from by (try rw [show ((-1) : Int32).toInt = (-1) from (show ((-1) : Int32).toInt = (-1) from rfl)]); (first | exact Or.inr ⟨by omega, er_n (en_c i20_2 (by omega)) (by omega)⟩ | exact Or.inr ⟨by omega, er_y (en_c i20_2 (by omega)) (by omega)⟩ | exact Or.inl ⟨by omega, rfl⟩)), ht⟩) (fun q h => by cases h) dX9_enough_94
        · have dc3 : y20_4.toInt < 8 := nleC (show (8 : Int32).toInt = 8 from rfl) rfl c3
          refine lv_iconst (v := 0) hx hb dX9_enough_27 (by decide) ?_
          refine lv_istore (lv' := [(5, .int 0), (0, .ref (a 43)), (1, .int co), (2, .int y20_2), (3, .int y20_3), (4, .int y20_4)]) hx hb dX9_enough_28 hl (by decide) rfl (fun ls hl => ?_)
          have L30 : ∀ (nn : Nat) (y30_2 : Int32) (y30_3 : Int32) (y30_5 : Int32) (ls : Array Slot), (0 ≤ (y30_5.toInt)) → ((y30_5.toInt) ≤ 8) → ((y30_2, y30_3) = enS (dw0 few) (fun j => cuW (mos j)) co.toInt (8 * (y20_4.toInt) + (y30_5.toInt)).toNat) → (8 - (y30_5.toInt)).toNat < nn → lv_has ls 6 [(0, .ref (a 43)), (1, .int co), (2, .int y30_2), (3, .int y30_3), (4, .int y20_4), (5, .int y30_5)] → W p l e (headSpec wsX9_enough { frames := 2, cells := 0, slots := 0, locals := 45 }).room s m ([.ref (a 43), .int co] : List Value).toArray below meth c s.heap [] 0 0 (MQ below (QR (fun r : Int32 => (spEnoC few mos co r))) ([.ref (a 43), .int co] : List Value).toArray s 0 0 (fun _ => False)) (F0 m 30 ls []) := by
            intro nn
            induction nn with
            | zero =>
              intro y30_2 y30_3 y30_5 ls i30_0 i30_1 i30_2 hm30
              exact absurd hm30 (Nat.not_lt_zero _)
            | succ nn ih30 =>
              intro y30_2 y30_3 y30_5 ls i30_0 i30_1 i30_2 hm30 hl
              refine lv_iload hx hb dX9_enough_30 (lv_at hl 5 rfl) ?_
              refine lv_bipush (v := 8) hx hb dX9_enough_32 (by decide) ?_
              refine lv_icmp_ge (tgt := 78) hx hb dX9_enough_34 (by decide) (fun c5 => ?_) (fun c5 => ?_)
              · have dc5 : 8 ≤ y30_5.toInt := leC (show (8 : Int32).toInt = 8 from rfl) rfl c5
                obtain ⟨z6, ez6⟩ : ∃ y : Int32, y = y20_4 + 1 := ⟨_, rfl⟩
                have iz6 : z6.toInt = y20_4.toInt + 1 := by rw [ez6]; exact addC rfl rfl (by omega) (by omega)
                refine lv_iinc (v := z6) (lv' := [(4, .int z6), (0, .ref (a 43)), (1, .int co), (2, .int y30_2), (3, .int y30_3), (5, .int y30_5)]) hx hb dX9_enough_78 hl (k := 4) rfl (by rw [ez6]; rfl) (by decide) rfl (fun ls hl => ?_)
                refine lv_goto (tgt := 20) hx hb dX9_enough_81 (by decide) ?_
                exact ih20 y30_2 y30_3 z6 _ (by omega) (by omega) (by (first | exact en_c i30_2 (by omega) | exact en_0 rfl rfl (by first | rfl | omega))) (by omega) (lv_sub hl [1, 2, 3, 4, 0] rfl)
              · have dc5 : y30_5.toInt < 8 := nleC (show (8 : Int32).toInt = 8 from rfl) rfl c5
                refine lv_iload_n hx hb dX9_enough_37 rfl (lv_at hl 2 rfl) ?_
                refine lv_iload_n hx hb dX9_enough_38 rfl (lv_at hl 1 rfl) ?_
                refine lv_icmp_ge (tgt := 72) hx hb dX9_enough_39 (by decide) (fun c7 => ?_) (fun c7 => ?_)
                · have dc7 : co.toInt ≤ y30_2.toInt := leC rfl rfl c7
                  obtain ⟨z8, ez8⟩ : ∃ y : Int32, y = y30_5 + 1 := ⟨_, rfl⟩
                  have iz8 : z8.toInt = y30_5.toInt + 1 := by rw [ez8]; exact addC rfl rfl (by omega) (by omega)
                  refine lv_iinc (v := z8) (lv' := [(5, .int z8), (0, .ref (a 43)), (1, .int co), (2, .int y30_2), (3, .int y30_3), (4, .int y20_4)]) hx hb dX9_enough_72 hl (k := 5) rfl (by rw [ez8]; rfl) (by decide) rfl (fun ls hl => ?_)
                  refine lv_goto (tgt := 30) hx hb dX9_enough_75 (by decide) ?_
                  exact ih30 y30_2 y30_3 z8 _ (by omega) (by omega) (by (first | exact en_yC (f := y20_4) (y := y30_5) i30_2 (by assumption) (by first | rfl | omega) (by assumption) (by omega) (by omega) (by omega) (by omega) (by omega) (by omega) (by assumption) (by assumption) (by omega) | exact en_nC (f := y20_4) (y := y30_5) i30_2 (by assumption) (by first | rfl | omega) (by omega) (by omega) (by omega) (by omega) (by omega) (by omega) | exact en_n (f := y20_4) (y := y30_5) i30_2 (by omega) (by omega) (by omega) (by omega) (Or.inl (by omega)) (by omega) | exact en_c i20_2 (by omega))) (by omega) (lv_sub hl [1, 2, 3, 4, 5, 0] rfl)
                · have dc7 : y30_2.toInt < co.toInt := nleC rfl rfl c7
                  refine lv_aload_n hx hb dX9_enough_42 rfl (lv_at hl 0 rfl) ?_
                  refine va_get (D := (dC, dI)) (ci := 9) (v := .ref (a 0)) (C := RX9) (T := TX9) (N := 11) hx hb hts inX9 hown hK hP 0 rfl rfl 0 (by decide) lf12 (fun _ h9 => h9) rfl dX9_enough_43 ?_
                  refine lv_iconst (v := 0) hx hb dX9_enough_46 (by decide) ?_
                  refine lv_iload hx hb dX9_enough_47 (lv_at hl 5 rfl) ?_
                  have kc0 : (0 : Int32).toInt = 0 := rfl
                  refine rdV (As := [.int 0, .int y30_5]) (rest := []) ⟨hx, hb, hml, hown, hts⟩ (k_X8_between2 l dC dI cI cZ cQ a few doo (0 : Int32) y30_5 (by omega) (by omega) (by omega) (by omega)) (cwV 2 hts gX9_enough_X8_between rfl rfl rfl (by decide +kernel) ⟨Nat.le_of_ble_eq_true rfl, Nat.le_of_ble_eq_true rfl⟩) hP hK hN [1, 2] rfl 1 8 rfl rfl rfl hl.1 rfl (Nat.le_of_ble_eq_true rfl) dX9_enough_49 ⟨Nat.le_of_ble_eq_true rfl, Nat.le_of_ble_eq_true rfl⟩ (fun r9 h10 => ?_)
                  have h10 : (r9 = few ((0) * 8 + y30_5.toInt).toNat) ∧ (r9.toInt = (few ((0) * 8 + y30_5.toInt).toNat).toInt) := h10
                  obtain ⟨h10_0, h10_1⟩ := h10
                  refine lv_iload hx hb dX9_enough_52 (lv_at hl 4 rfl) ?_
                  refine lv_icmp_ne (tgt := 72) hx hb dX9_enough_54 (by decide) (fun c11 => ?_) (fun c11 => ?_)
                  · have dc11 : r9.toInt ≠ y20_4.toInt := neC rfl rfl c11
                    obtain ⟨z12, ez12⟩ : ∃ y : Int32, y = y30_5 + 1 := ⟨_, rfl⟩
                    have iz12 : z12.toInt = y30_5.toInt + 1 := by rw [ez12]; exact addC rfl rfl (by omega) (by omega)
                    refine lv_iinc (v := z12) (lv' := [(5, .int z12), (0, .ref (a 43)), (1, .int co), (2, .int y30_2), (3, .int y30_3), (4, .int y20_4)]) hx hb dX9_enough_72 hl (k := 5) rfl (by rw [ez12]; rfl) (by decide) rfl (fun ls hl => ?_)
                    refine lv_goto (tgt := 30) hx hb dX9_enough_75 (by decide) ?_
                    exact ih30 y30_2 y30_3 z12 _ (by omega) (by omega) (by (first | exact en_yC (f := y20_4) (y := y30_5) i30_2 (by assumption) (by first | rfl | omega) (by assumption) (by omega) (by omega) (by omega) (by omega) (by omega) (by omega) (by assumption) (by assumption) (by omega) | exact en_nC (f := y20_4) (y := y30_5) i30_2 (by assumption) (by first | rfl | omega) (by omega) (by omega) (by omega) (by omega) (by omega) (by omega) | exact en_n (f := y20_4) (y := y30_5) i30_2 (by omega) (by omega) (by omega) (by omega) (Or.inl (by omega)) (by omega) | exact en_c i20_2 (by omega))) (by omega) (lv_sub hl [1, 2, 3, 4, 5, 0] rfl)
                  · have dc11 : r9.toInt = y20_4.toInt := eqC rfl rfl c11
                    refine lv_iload_n hx hb dX9_enough_57 rfl (lv_at hl 2 rfl) ?_
                    refine lv_aload_n hx hb dX9_enough_58 rfl (lv_at hl 0 rfl) ?_
                    refine va_get (D := (dC, dI)) (ci := 9) (v := .ref rb0) (C := RX9) (T := TX9) (N := 11) hx hb hts inX9 hown hK hP 0 rfl rfl 9 (by decide) lf76 (fun _ h9 => h9) rfl dX9_enough_59 ?_
                    refine lv_iload hx hb dX9_enough_62 (lv_at hl 5 rfl) ?_
                    refine rdV (As := [.int y30_5]) (rest := [.int y30_2]) ⟨hx, hb, hml, hown, hts⟩ (k_X5_cornersToUse2 l dC dI cI cZ cQ rb0 rb1 rb2 mos wev aga apa lin y30_5 (by omega) (by omega)) (cwV 1 hts gX9_enough_X5_cornersToUse rfl rfl rfl (by decide +kernel) ⟨Nat.le_of_ble_eq_true rfl, Nat.le_of_ble_eq_true rfl⟩) hP hK hN [3, 4, 5] rfl 3 5 rfl rfl rfl hl.1 rfl (Nat.le_of_ble_eq_true rfl) dX9_enough_64 ⟨Nat.le_of_ble_eq_true rfl, Nat.le_of_ble_eq_true rfl⟩ (fun r13 h14 => ?_)
                    have h14 : (r13 = cuW (mos y30_5.toNatClampNeg)) := h14
                    have h14_0 := h14
                    refine lv_iadd hx hb dX9_enough_67 ?_
                    refine lv_topi (fun x15 ex15 => ?_)
                    have ix15 : x15.toInt = (y30_2 + r13).toInt := by rw [ex15]
                    refine lv_istore_n (lv' := [(2, .int x15), (0, .ref (a 43)), (1, .int co), (3, .int y30_3), (4, .int y20_4), (5, .int y30_5)]) hx hb dX9_enough_68 rfl hl (by decide) rfl (fun ls hl => ?_)
                    obtain ⟨z16, ez16⟩ : ∃ y : Int32, y = y30_3 + 1 := ⟨_, rfl⟩
                    refine lv_iinc (v := z16) (lv' := [(3, .int z16), (2, .int x15), (0, .ref (a 43)), (1, .int co), (4, .int y20_4), (5, .int y30_5)]) hx hb dX9_enough_69 hl (k := 3) rfl (by rw [ez16]; rfl) (by decide) rfl (fun ls hl => ?_)
                    obtain ⟨z17, ez17⟩ : ∃ y : Int32, y = y30_5 + 1 := ⟨_, rfl⟩
                    have iz17 : z17.toInt = y30_5.toInt + 1 := by rw [ez17]; exact addC rfl rfl (by omega) (by omega)
                    refine lv_iinc (v := z17) (lv' := [(5, .int z17), (3, .int z16), (2, .int x15), (0, .ref (a 43)), (1, .int co), (4, .int y20_4)]) hx hb dX9_enough_72 hl (k := 5) rfl (by rw [ez17]; rfl) (by decide) rfl (fun ls hl => ?_)
                    refine lv_goto (tgt := 30) hx hb dX9_enough_75 (by decide) ?_
                    exact ih30 x15 z16 z17 _ (by omega) (by omega) (by (first | exact en_yC (f := y20_4) (y := y30_5) i30_2 (by assumption) (by first | rfl | omega) (by assumption) (by omega) (by omega) (by omega) (by omega) (by omega) (by omega) (by assumption) (by assumption) (by omega) | exact en_nC (f := y20_4) (y := y30_5) i30_2 (by assumption) (by first | rfl | omega) (by omega) (by omega) (by omega) (by omega) (by omega) (by omega) | exact en_n (f := y20_4) (y := y30_5) i30_2 (by omega) (by omega) (by omega) (by omega) (Or.inl (by omega)) (by omega) | exact en_c i20_2 (by omega))) (by omega) (lv_sub hl [3, 4, 2, 1, 5, 0] rfl)
          have kc18 : (0 : Int32).toInt = 0 := rfl
          exact L30 _ y20_2 y20_3 0 _ (by omega) (by omega) (by (first | exact en_yC (f := y20_4) (y := y30_5) i30_2 (by assumption) (by first | rfl | omega) (by assumption) (by omega) (by omega) (by omega) (by omega) (by omega) (by omega) (by assumption) (by assumption) (by omega) | exact en_nC (f := y20_4) (y := y30_5) i30_2 (by assumption) (by first | rfl | omega) (by omega) (by omega) (by omega) (by omega) (by omega) (by omega) | exact en_n (f := y20_4) (y := y30_5) i30_2 (by omega) (by omega) (by omega) (by omega) (Or.inl (by omega)) (by omega) | exact en_c i20_2 (by omega))) (Nat.lt_succ_self _) (lv_sub hl [1, 2, 3, 4, 5, 0] rfl)
    have kc19 : (0 : Int32).toInt = 0 := rfl
    exact L20 _ 0 0 0 _ (by omega) (by omega) (by (first | exact en_c i30_2 (by omega) | exact en_0 rfl rfl (by first | rfl | omega))) (Nat.lt_succ_self _) (lv_sub hl [3, 4, 2, 1, 0] rfl)
  · refine lv_if_ne (tgt := 13) hx hb dX9_enough_7 (by decide) (fun c9 => absurd (by decide) c9) (fun _ => ?_)
    refine lv_bipush (v := (-3)) hx hb dX9_enough_10 (by decide) ?_
    exact W.iret (v := (-3)) hx hb hr (fun tq ht hW => ⟨(-3), rfl, (show spEnoC few mos co ((-3) : Int32) from by (try rw [show ((-3) : Int32).toInt = (-3) from (show ((-3) : Int32).toInt = (-3) from rfl)]); (first | exact Or.inr ⟨by omega, er_n (en_c i20_2 (by omega)) (by omega)⟩ | exact Or.inr ⟨by omega, er_y (en_c i20_2 (by omega)) (by omega)⟩ | exact Or.inl ⟨by omega, rfl⟩)), ht⟩) (fun q h => by cases h) dX9_enough_12
set_option maxHeartbeats 4000000 in
set_option maxRecDepth 100000 in
theorem k_X10_enough2 (l : Launch) (dC : Nat → ClassId) (dI : Nat → Nat → Nat) (cI cZ cQ : ClassId) (b : Nat → Nat) (mday : Int32) (mdoo : Int32) (mdA : Nat → Int32) (mdB : Nat → Int32) (mfar : Nat → Int32) (mmar : Nat → Int32) (mtel : Int32) (mgai : Int32) (mfal : Nat → Int32) (mtop : Nat → Int32) (mstr : Nat → Int32) (mgho : Nat → Int32) (mfai : Nat → Int32) (mpto : Nat → Int32) (mwal : Nat → Int32) (mahd : Nat → Int32) (mahf : Nat → Int32) (mcho : Nat → Int32) (mbes : Nat → Int32) (mbyt : Int32) (mtxt : Nat → Int32) (mpos : Int32) (mtka : Int32) (mtok : Int64) (mdig : Int32) (mnum : Int32) (mfau : Int32) (mrdm : Int32) (mrea : Nat → Int32) (mlin : Int32) (mlne : Nat → Int32) (mthg : Nat → Int32) (mord : Nat → Int32) (mbor : Nat → Int32) (mbsm : Int32) (mans : Nat → Int32) (mand : Nat → Int32) (manr : Nat → Int32) (mali : Nat → Int32) (sz : Nat) (co : Int32) (r_mday : 0 ≤ mday.toInt ∧ mday.toInt ≤ 400) (r_mdoo : 0 ≤ mdoo.toInt ∧ mdoo.toInt ≤ 14) (r_mdA : rg 14 (0) (7) mdA) (r_mdB : rg 14 (0) (7) mdB) (r_mmar : rg 24 (0) (255) mmar) (r_mgai : 0 ≤ mgai.toInt ∧ mgai.toInt ≤ 100) (r_mfal : rg 11 (0) (30) mfal) (r_mtop : rg 48 (-1) (23) mtop) (r_mstr : rg 48 (0) (100) mstr) (r_mgho : rg 48 (-1) (23) mgho) (r_mfai : rg 48 (0) (100) mfai) (r_mahd : rg 240 (0) (100) mahd) (r_mahf : rg 240 (0) (100) mahf) (r_mcho : rg 5 (-1) (9) mcho) (r_mbyt : 0 ≤ mbyt.toInt ∧ mbyt.toInt ≤ 160) (r_mpos : 0 ≤ mpos.toInt ∧ mpos.toInt ≤ 160) (r_mrdm : 0 ≤ mrdm.toInt ∧ mrdm.toInt ≤ 10) (r_mlin : 0 ≤ mlin.toInt ∧ mlin.toInt ≤ 10) (r_mthg : rg 8 (0) (31) mthg) (r_mord : rg 8 (-1) (8) mord) (r_mans : rg 4 (0) (12) mans) : KW l yX10_enough wsX10_enough { frames := 1, cells := 0, slots := 0, locals := 26 } (dC, dI) (TY cI cZ cQ) (wMod cI cZ cQ b mday mdoo mdA mdB mfar mmar mtel mgai mfal mtop mstr mgho mfai mpto mwal mahd mahf mcho mbes mbyt mtxt mpos mtka mtok mdig mnum mfau mrdm mrea mlin mlne mthg mord mbor mbsm mans mand manr mali) [.ref (b 39), .int co] sz 0 0 (fun (r : Int32) (u : US) => (spEnoM mdA mdB mlne mdoo mlin co r)) (fun u : US => (wMod cI cZ cQ b mday mdoo mdA mdB (u.1 0) mmar mtel mgai mfal mtop mstr mgho mfai mpto mwal mahd mahf mcho mbes mbyt mtxt mpos mtka mtok mdig mnum mfau mrdm mrea mlin mlne mthg mord mbor mbsm mans mand manr mali)) := by
  refine Met.ofW (cc := cX10_enough) (maxL := 7) (ret := (some .int)) (by decide) rfl ?_
  intro p e s m args below meth c s₁ B hml hv
  obtain ⟨rfl, hsz, hP, hK, hD0, hN⟩ := hv
  have hx := B.exec
  have hb := B.bytes
  have hr := B.returns
  have hts := atoms_spec (ws := wsX10_enough) B.pre
  have hown : s.vm.findClass RX10 = some m.cls := findClass_of_methodNamed B.named
  have hlocks := B.notSynchronized
  subst hsz
  have hD := hD0.self (sz := s.heap.size)
  generalize hAe : va_A (wMod cI cZ cQ b mday mdoo mdA mdB mfar mmar mtel mgai mfal mtop mstr mgho mfai mpto mwal mahd mahf mcho mbes mbyt mtxt mpos mtka mtok mdig mnum mfau mrdm mrea mlin mlne mthg mord mbor mbsm mans mand manr mali) s.heap.size = A at hD ⊢
  have hA : ∀ q : Nat, s.heap.size ≤ q → A q := fun q h => by rw [← hAe]; exact Or.inr h
  have hS : va_S A s.heap s.heap [] := va_S.rf
  have hl := lv_entry ([.ref (b 39), .int co]) (n := 7) (Nat.le_of_ble_eq_true rfl)
  rw [lg_entry_eq]
  generalize (lg_sl ([.ref (b 39), .int co]) ++ List.replicate (7 - (lg_sl ([.ref (b 39), .int co])).length) Slot.unset).toArray = ls at hl ⊢
  have hl : lv_has ls 7 [(0, .ref (b 39)), (1, .int co)] := hl
  refine lv_iload_n hx hb dX10_enough_0 rfl (lv_at hl 1 rfl) ?_
  refine lv_iconst (v := 0) hx hb dX10_enough_1 (by decide) ?_
  refine lv_bipush (v := 48) hx hb dX10_enough_2 (by decide) ?_
  refine rdS (As := [.int co, .int 0, .int 48]) (rest := []) ⟨hx, hb, hml, hown, hts⟩ (k_X10_in l dC dI cI cZ cQ co (0 : Int32) (48 : Int32)) (va_cwS 3 hts gX10_enough_X10_in rfl rfl rfl (by decide +kernel) ⟨Nat.le_of_ble_eq_true rfl, Nat.le_of_ble_eq_true rfl⟩) hP hK hN [] rfl rfl hl.1 rfl (Nat.le_of_ble_eq_true rfl) dX10_enough_4 ⟨Nat.le_of_ble_eq_true rfl, Nat.le_of_ble_eq_true rfl⟩ (fun r1 h2 => ?_)
  have h2 : ((((r1 = 1) ∧ ((0) ≤ co.toInt) ∧ (co.toInt ≤ (48))) ∨ ((r1 = 0) ∧ (co.toInt < (0) ∨ (48) < co.toInt)))) := h2
  rcases h2 with (⟨rfl, h2_a0, h2_a1⟩ | ⟨rfl, h2_a0⟩)
  · refine lv_if_ne (tgt := 13) hx hb dX10_enough_7 (by decide) (fun _ => ?_) (fun c9 => absurd c9 (by decide))
    refine lv_iconst (v := 0) hx hb dX10_enough_13 (by decide) ?_
    refine lv_istore_n (lv' := [(2, .int 0), (0, .ref (b 39)), (1, .int co)]) hx hb dX10_enough_14 rfl hl (by decide) rfl (fun ls hl => ?_)
    refine lv_iconst (v := 0) hx hb dX10_enough_15 (by decide) ?_
    refine lv_istore_n (lv' := [(3, .int 0), (2, .int 0), (0, .ref (b 39)), (1, .int co)]) hx hb dX10_enough_16 rfl hl (by decide) rfl (fun ls hl => ?_)
    refine lv_iconst (v := 0) hx hb dX10_enough_17 (by decide) ?_
    refine lv_istore (lv' := [(4, .int 0), (3, .int 0), (2, .int 0), (0, .ref (b 39)), (1, .int co)]) hx hb dX10_enough_18 hl (by decide) rfl (fun ls hl => ?_)
    have L20 : ∀ (nn : Nat) (y20_2 : Int32) (y20_3 : Int32) (y20_4 : Int32) (mfar_20 : Nat → Int32) (H : Heap) (locs : List Loc) (ls : Array Slot), (0 ≤ (y20_4.toInt)) → ((y20_4.toInt) ≤ 8) → (emI mdA mdB mlne mdoo.toInt mlin.toInt co.toInt y20_2 y20_3 (8 * (y20_4.toInt)).toNat) → (8 - (y20_4.toInt)).toNat < nn → va_P (dC, dI) vwCl (wMod cI cZ cQ b mday mdoo mdA mdB mfar_20 mmar mtel mgai mfal mtop mstr mgho mfai mpto mwal mahd mahf mcho mbes mbyt mtxt mpos mtka mtok mdig mnum mfau mrdm mrea mlin mlne mthg mord mbor mbsm mans mand manr mali) H → va_D A (wMod cI cZ cQ b mday mdoo mdA mdB mfar_20 mmar mtel mgai mfal mtop mstr mgho mfai mpto mwal mahd mahf mcho mbes mbyt mtxt mpos mtka mtok mdig mnum mfau mrdm mrea mlin mlne mthg mord mbor mbsm mans mand manr mali) → va_S A s.heap H locs → lv_has ls 7 [(0, .ref (b 39)), (1, .int co), (2, .int y20_2), (3, .int y20_3), (4, .int y20_4)] → W p l e (headSpec wsX10_enough { frames := 1, cells := 0, slots := 0, locals := 26 }).room s m ([.ref (b 39), .int co] : List Value).toArray below meth c H locs 0 0 (MQ below (va_Qi (fun (r : Int32) (u : US) => (spEnoM mdA mdB mlne mdoo mlin co r)) (Bw (dC, dI) A (fun u : US => (wMod cI cZ cQ b mday mdoo mdA mdB (u.1 0) mmar mtel mgai mfal mtop mstr mgho mfai mpto mwal mahd mahf mcho mbes mbyt mtxt mpos mtka mtok mdig mnum mfau mrdm mrea mlin mlne mthg mord mbor mbsm mans mand manr mali))) A) ([.ref (b 39), .int co] : List Value).toArray s 0 0 A) (F0 m 20 ls []) := by
      intro nn
      induction nn with
      | zero =>
        intro y20_2 y20_3 y20_4 mfar_20 H locs ls i20_0 i20_1 i20_2 hm20
        exact absurd hm20 (Nat.not_lt_zero _)
      | succ nn ih20 =>
        intro y20_2 y20_3 y20_4 mfar_20 H locs ls i20_0 i20_1 i20_2 hm20 hP hD hS hl
        refine lv_iload hx hb dX10_enough_20 (lv_at hl 4 rfl) ?_
        refine lv_bipush (v := 8) hx hb dX10_enough_22 (by decide) ?_
        refine lv_icmp_ge (tgt := 102) hx hb dX10_enough_24 (by decide) (fun c3 => ?_) (fun c3 => ?_)
        · have dc3 : 8 ≤ y20_4.toInt := leC (show (8 : Int32).toInt = 8 from rfl) rfl c3
          refine lv_iload_n hx hb dX10_enough_102 rfl (lv_at hl 2 rfl) ?_
          refine lv_iload_n hx hb dX10_enough_103 rfl (lv_at hl 1 rfl) ?_
          refine lv_icmp_ge (tgt := 111) hx hb dX10_enough_104 (by decide) (fun c4 => ?_) (fun c4 => ?_)
          · have dc4 : co.toInt ≤ y20_2.toInt := leC rfl rfl c4
            refine lv_iload_n hx hb dX10_enough_111 rfl (lv_at hl 3 rfl) ?_
            exact W.iret (v := y20_3) hx hb hr (fun tq ht hW => ⟨⟨y20_3, (uS [mfar_20] 0 (fun _ => 0)), rfl, (show spEnoM mdA mdB mlne mdoo mlin co y20_3 from by (first | exact Or.inr ⟨by omega, fun w a b => er_n (em_s i20_2 (by first | exact Or.inl (by omega) | exact Or.inr ⟨by omega, by omega⟩) w a b) (by omega)⟩ | exact Or.inr ⟨by omega, fun w a b => er_y (em_s i20_2 (by first | exact Or.inl (by omega) | exact Or.inr ⟨by omega, by omega⟩) w a b) (by omega)⟩ | exact Or.inl ⟨by omega, rfl⟩)), by rw [ht]; exact hP, hD⟩, hS.F ht⟩) hS.2.2 dX10_enough_112
          · have dc4 : y20_2.toInt < co.toInt := nleC rfl rfl c4
            refine lv_iconst (v := (-1)) hx hb dX10_enough_107 (by decide) ?_
            refine lv_goto (tgt := 112) hx hb dX10_enough_108 (by decide) ?_
            exact W.iret (v := (-1)) hx hb hr (fun tq ht hW => ⟨⟨(-1), (uS [mfar_20] 0 (fun _ => 0)), rfl, (show spEnoM mdA mdB mlne mdoo mlin co ((-1) : Int32) from by (try rw [show ((-1) : Int32).toInt = (-1) from (show ((-1) : Int32).toInt = (-1) from rfl)]); (first | exact Or.inr ⟨by omega, fun w a b => er_n (em_s i20_2 (by first | exact Or.inl (by omega) | exact Or.inr ⟨by omega, by omega⟩) w a b) (by omega)⟩ | exact Or.inr ⟨by omega, fun w a b => er_y (em_s i20_2 (by first | exact Or.inl (by omega) | exact Or.inr ⟨by omega, by omega⟩) w a b) (by omega)⟩ | exact Or.inl ⟨by omega, rfl⟩)), by rw [ht]; exact hP, hD⟩, hS.F ht⟩) hS.2.2 dX10_enough_112
        · have dc3 : y20_4.toInt < 8 := nleC (show (8 : Int32).toInt = 8 from rfl) rfl c3
          refine lv_iload_n hx hb dX10_enough_27 rfl (lv_at hl 2 rfl) ?_
          refine lv_iload_n hx hb dX10_enough_28 rfl (lv_at hl 1 rfl) ?_
          refine lv_icmp_ge (tgt := 102) hx hb dX10_enough_29 (by decide) (fun c5 => ?_) (fun c5 => ?_)
          · have dc5 : co.toInt ≤ y20_2.toInt := leC rfl rfl c5
            refine lv_iload_n hx hb dX10_enough_102 rfl (lv_at hl 2 rfl) ?_
            refine lv_iload_n hx hb dX10_enough_103 rfl (lv_at hl 1 rfl) ?_
            refine lv_icmp_ge (tgt := 111) hx hb dX10_enough_104 (by decide) (fun c6 => ?_) (fun c6 => ?_)
            · have dc6 : co.toInt ≤ y20_2.toInt := leC rfl rfl c6
              refine lv_iload_n hx hb dX10_enough_111 rfl (lv_at hl 3 rfl) ?_
              exact W.iret (v := y20_3) hx hb hr (fun tq ht hW => ⟨⟨y20_3, (uS [mfar_20] 0 (fun _ => 0)), rfl, (show spEnoM mdA mdB mlne mdoo mlin co y20_3 from by (first | exact Or.inr ⟨by omega, fun w a b => er_n (em_s i20_2 (by first | exact Or.inl (by omega) | exact Or.inr ⟨by omega, by omega⟩) w a b) (by omega)⟩ | exact Or.inr ⟨by omega, fun w a b => er_y (em_s i20_2 (by first | exact Or.inl (by omega) | exact Or.inr ⟨by omega, by omega⟩) w a b) (by omega)⟩ | exact Or.inl ⟨by omega, rfl⟩)), by rw [ht]; exact hP, hD⟩, hS.F ht⟩) hS.2.2 dX10_enough_112
            · have dc6 : y20_2.toInt < co.toInt := nleC rfl rfl c6
              refine lv_iconst (v := (-1)) hx hb dX10_enough_107 (by decide) ?_
              refine lv_goto (tgt := 112) hx hb dX10_enough_108 (by decide) ?_
              exact W.iret (v := (-1)) hx hb hr (fun tq ht hW => ⟨⟨(-1), (uS [mfar_20] 0 (fun _ => 0)), rfl, (show spEnoM mdA mdB mlne mdoo mlin co ((-1) : Int32) from by (try rw [show ((-1) : Int32).toInt = (-1) from (show ((-1) : Int32).toInt = (-1) from rfl)]); (first | exact Or.inr ⟨by omega, fun w a b => er_n (em_s i20_2 (by first | exact Or.inl (by omega) | exact Or.inr ⟨by omega, by omega⟩) w a b) (by omega)⟩ | exact Or.inr ⟨by omega, fun w a b => er_y (em_s i20_2 (by first | exact Or.inl (by omega) | exact Or.inr ⟨by omega, by omega⟩) w a b) (by omega)⟩ | exact Or.inl ⟨by omega, rfl⟩)), by rw [ht]; exact hP, hD⟩, hS.F ht⟩) hS.2.2 dX10_enough_112
          · have dc5 : y20_2.toInt < co.toInt := nleC rfl rfl c5
            refine lv_iconst (v := 0) hx hb dX10_enough_32 (by decide) ?_
            refine lv_istore (lv' := [(5, .int 0), (0, .ref (b 39)), (1, .int co), (2, .int y20_2), (3, .int y20_3), (4, .int y20_4)]) hx hb dX10_enough_33 hl (by decide) rfl (fun ls hl => ?_)
            have L35 : ∀ (nn : Nat) (y35_2 : Int32) (y35_3 : Int32) (y35_5 : Int32) (mfar_35 : Nat → Int32) (H : Heap) (locs : List Loc) (ls : Array Slot), (0 ≤ (y35_5.toInt)) → ((y35_5.toInt) ≤ 8) → (emI mdA mdB mlne mdoo.toInt mlin.toInt co.toInt y35_2 y35_3 (8 * (y20_4.toInt) + (y35_5.toInt)).toNat) → (8 - (y35_5.toInt)).toNat < nn → va_P (dC, dI) vwCl (wMod cI cZ cQ b mday mdoo mdA mdB mfar_35 mmar mtel mgai mfal mtop mstr mgho mfai mpto mwal mahd mahf mcho mbes mbyt mtxt mpos mtka mtok mdig mnum mfau mrdm mrea mlin mlne mthg mord mbor mbsm mans mand manr mali) H → va_D A (wMod cI cZ cQ b mday mdoo mdA mdB mfar_35 mmar mtel mgai mfal mtop mstr mgho mfai mpto mwal mahd mahf mcho mbes mbyt mtxt mpos mtka mtok mdig mnum mfau mrdm mrea mlin mlne mthg mord mbor mbsm mans mand manr mali) → va_S A s.heap H locs → lv_has ls 7 [(0, .ref (b 39)), (1, .int co), (2, .int y35_2), (3, .int y35_3), (4, .int y20_4), (5, .int y35_5)] → W p l e (headSpec wsX10_enough { frames := 1, cells := 0, slots := 0, locals := 26 }).room s m ([.ref (b 39), .int co] : List Value).toArray below meth c H locs 0 0 (MQ below (va_Qi (fun (r : Int32) (u : US) => (spEnoM mdA mdB mlne mdoo mlin co r)) (Bw (dC, dI) A (fun u : US => (wMod cI cZ cQ b mday mdoo mdA mdB (u.1 0) mmar mtel mgai mfal mtop mstr mgho mfai mpto mwal mahd mahf mcho mbes mbyt mtxt mpos mtka mtok mdig mnum mfau mrdm mrea mlin mlne mthg mord mbor mbsm mans mand manr mali))) A) ([.ref (b 39), .int co] : List Value).toArray s 0 0 A) (F0 m 35 ls []) := by
              intro nn
              induction nn with
              | zero =>
                intro y35_2 y35_3 y35_5 mfar_35 H locs ls i35_0 i35_1 i35_2 hm35
                exact absurd hm35 (Nat.not_lt_zero _)
              | succ nn ih35 =>
                intro y35_2 y35_3 y35_5 mfar_35 H locs ls i35_0 i35_1 i35_2 hm35 hP hD hS hl
                refine lv_iload hx hb dX10_enough_35 (lv_at hl 5 rfl) ?_
                refine lv_bipush (v := 8) hx hb dX10_enough_37 (by decide) ?_
                refine lv_icmp_ge (tgt := 96) hx hb dX10_enough_39 (by decide) (fun c7 => ?_) (fun c7 => ?_)
                · have dc7 : 8 ≤ y35_5.toInt := leC (show (8 : Int32).toInt = 8 from rfl) rfl c7
                  obtain ⟨z8, ez8⟩ : ∃ y : Int32, y = y20_4 + 1 := ⟨_, rfl⟩
                  have iz8 : z8.toInt = y20_4.toInt + 1 := by rw [ez8]; exact addC rfl rfl (by omega) (by omega)
                  refine lv_iinc (v := z8) (lv' := [(4, .int z8), (0, .ref (b 39)), (1, .int co), (2, .int y35_2), (3, .int y35_3), (5, .int y35_5)]) hx hb dX10_enough_96 hl (k := 4) rfl (by rw [ez8]; rfl) (by decide) rfl (fun ls hl => ?_)
                  refine lv_goto (tgt := 20) hx hb dX10_enough_99 (by decide) ?_
                  exact ih20 y35_2 y35_3 z8 mfar_35 _ _ _ (by omega) (by omega) (by (first | exact em_s i35_2 (by first | exact Or.inl (by omega) | exact Or.inr ⟨by omega, by omega⟩) | exact em_0 rfl rfl (by first | rfl | omega))) (by omega) hP hD hS (lv_sub hl [1, 2, 3, 4, 0] rfl)
                · have dc7 : y35_5.toInt < 8 := nleC (show (8 : Int32).toInt = 8 from rfl) rfl c7
                  refine lv_iload_n hx hb dX10_enough_42 rfl (lv_at hl 2 rfl) ?_
                  refine lv_iload_n hx hb dX10_enough_43 rfl (lv_at hl 1 rfl) ?_
                  refine lv_icmp_ge (tgt := 96) hx hb dX10_enough_44 (by decide) (fun c9 => ?_) (fun c9 => ?_)
                  · have dc9 : co.toInt ≤ y35_2.toInt := leC rfl rfl c9
                    obtain ⟨z10, ez10⟩ : ∃ y : Int32, y = y20_4 + 1 := ⟨_, rfl⟩
                    have iz10 : z10.toInt = y20_4.toInt + 1 := by rw [ez10]; exact addC rfl rfl (by omega) (by omega)
                    refine lv_iinc (v := z10) (lv' := [(4, .int z10), (0, .ref (b 39)), (1, .int co), (2, .int y35_2), (3, .int y35_3), (5, .int y35_5)]) hx hb dX10_enough_96 hl (k := 4) rfl (by rw [ez10]; rfl) (by decide) rfl (fun ls hl => ?_)
                    refine lv_goto (tgt := 20) hx hb dX10_enough_99 (by decide) ?_
                    exact ih20 y35_2 y35_3 z10 mfar_35 _ _ _ (by omega) (by omega) (by (first | exact em_s i35_2 (by first | exact Or.inl (by omega) | exact Or.inr ⟨by omega, by omega⟩) | exact em_0 rfl rfl (by first | rfl | omega))) (by omega) hP hD hS (lv_sub hl [1, 2, 3, 4, 0] rfl)
                  · have dc9 : y35_2.toInt < co.toInt := nleC rfl rfl c9
                    refine lv_aload_n hx hb dX10_enough_47 rfl (lv_at hl 0 rfl) ?_
                    refine lv_iconst (v := 0) hx hb dX10_enough_48 (by decide) ?_
                    refine lv_iload hx hb dX10_enough_49 (lv_at hl 5 rfl) ?_
                    have kc0 : (0 : Int32).toInt = 0 := rfl
                    refine wrV (As := [.int 0, .int y35_5]) (rest := []) (wr := []) (w2 := (fun u : US => (wMod cI cZ cQ b mday mdoo mdA mdB (u.1 0) mmar mtel mgai mfal mtop mstr mgho mfai mpto mwal mahd mahf mcho mbes mbyt mtxt mpos mtka mtok mdig mnum mfau mrdm mrea mlin mlne mthg mord mbor mbsm mans mand manr mali))) ⟨hx, hb, hml, hown, hts⟩ (k_X10_doorsTo2 l dC dI cI cZ cQ b mday mdoo mdA mdB mfar_35 mmar mtel mgai mfal mtop mstr mgho mfai mpto mwal mahd mahf mcho mbes mbyt mtxt mpos mtka mtok mdig mnum mfau mrdm mrea mlin mlne mthg mord mbor mbsm mans mand manr mali _ (0 : Int32) y35_5 r_mday r_mdoo r_mdA r_mdB r_mmar r_mgai r_mfal r_mtop r_mstr r_mgho r_mfai r_mahd r_mahf r_mcho r_mbyt r_mpos r_mrdm r_mlin r_mthg r_mord r_mans (by omega) (by omega) (by omega) (by omega)) (cwV 2 hts gX10_enough_X10_doorsTo rfl rfl rfl (by decide +kernel) ⟨Nat.le_of_ble_eq_true rfl, Nat.le_of_ble_eq_true rfl⟩) hP hD hS hA hK hN [0, 1, 2, 3, 4, 5, 6, 7, 8, 9, 10, 11, 12, 13, 14, 15, 16, 17, 18, 19, 20, 21, 22, 23, 24, 25] [] [0, 1, 2, 3, 4, 5, 6, 7, 8, 9, 10, 11, 12, 13, 14, 15, 16, 17, 18, 19, 20, 21, 22, 23, 24, 25] rfl rfl (by decide) (by decide) (by decide) (fun _ => rfl) (by decide) 0 10 rfl rfl rfl hl.1 rfl (Nat.le_of_ble_eq_true rfl) dX10_enough_51 ⟨Nat.le_of_ble_eq_true rfl, Nat.le_of_ble_eq_true rfl⟩ (fun r11 u13 H locs h12 hP hD hS => ?_)
                    obtain ⟨mfar_c14, emfar_c14⟩ : ∃ f : Nat → Int32, f = (u13.1 0) := ⟨_, rfl⟩
                    have hP : va_P (dC, dI) vwCl (wMod cI cZ cQ b mday mdoo mdA mdB mfar_c14 mmar mtel mgai mfal mtop mstr mgho mfai mpto mwal mahd mahf mcho mbes mbyt mtxt mpos mtka mtok mdig mnum mfau mrdm mrea mlin mlne mthg mord mbor mbsm mans mand manr mali) H := by rw [emfar_c14]; exact hP
                    have hD : va_D A (wMod cI cZ cQ b mday mdoo mdA mdB mfar_c14 mmar mtel mgai mfal mtop mstr mgho mfai mpto mwal mahd mahf mcho mbes mbyt mtxt mpos mtka mtok mdig mnum mfau mrdm mrea mlin mlne mthg mord mbor mbsm mans mand manr mali) := by rw [emfar_c14]; exact hD
                    have h12 : (dsR mdA mdB mdoo.toInt (0 : Int32) y35_5 r11) ∧ (-1 ≤ r11.toInt) ∧ (r11.toInt ≤ 99) := by (try rw [emfar_c14]); exact h12
                    obtain ⟨h12_0, h12_1, h12_2⟩ := h12
                    refine lv_iload hx hb dX10_enough_54 (lv_at hl 4 rfl) ?_
                    refine lv_icmp_ne (tgt := 90) hx hb dX10_enough_56 (by decide) (fun c15 => ?_) (fun c15 => ?_)
                    · have dc15 : r11.toInt ≠ y20_4.toInt := neC rfl rfl c15
                      obtain ⟨z16, ez16⟩ : ∃ y : Int32, y = y35_5 + 1 := ⟨_, rfl⟩
                      have iz16 : z16.toInt = y35_5.toInt + 1 := by rw [ez16]; exact addC rfl rfl (by omega) (by omega)
                      refine lv_iinc (v := z16) (lv' := [(5, .int z16), (0, .ref (b 39)), (1, .int co), (2, .int y35_2), (3, .int y35_3), (4, .int y20_4)]) hx hb dX10_enough_90 hl (k := 5) rfl (by rw [ez16]; rfl) (by decide) rfl (fun ls hl => ?_)
                      refine lv_goto (tgt := 35) hx hb dX10_enough_93 (by decide) ?_
                      exact ih35 y35_2 y35_3 z16 mfar_c14 _ _ _ (by omega) (by omega) (by (first | exact em_y (f := y20_4) (y := y35_5) i35_2 (by assumption) (by assumption) (by first | exact mi_3 (by assumption) | exact mi_2 (by assumption)) (by omega) (by omega) (by omega) (by omega) (by omega) (by omega) (by assumption) (by assumption) (by omega) | exact em_n (f := y20_4) (y := y35_5) i35_2 (by assumption) (by omega) (by omega) (by omega) (by omega) (by omega) (by omega) | exact em_c i20_2 (by omega))) (by omega) hP hD hS (lv_sub hl [1, 2, 3, 4, 5, 0] rfl)
                    · have dc15 : r11.toInt = y20_4.toInt := eqC rfl rfl c15
                      refine lv_aload_n hx hb dX10_enough_59 rfl (lv_at hl 0 rfl) ?_
                      refine lv_iconst (v := 0) hx hb dX10_enough_60 (by decide) ?_
                      refine lv_iload hx hb dX10_enough_61 (lv_at hl 5 rfl) ?_
                      refine lv_bipush (v := 6) hx hb dX10_enough_63 (by decide) ?_
                      refine rdV (As := [.int 0, .int y35_5, .int 6]) (rest := []) ⟨hx, hb, hml, hown, hts⟩ (k_X10_lastOf2 l dC dI cI cZ cQ b mday mdoo mdA mdB mfar_c14 mmar mtel mgai mfal mtop mstr mgho mfai mpto mwal mahd mahf mcho mbes mbyt mtxt mpos mtka mtok mdig mnum mfau mrdm mrea mlin mlne mthg mord mbor mbsm mans mand manr mali (0 : Int32) y35_5 (6 : Int32) r_mday r_mdoo r_mdA r_mdB r_mmar r_mgai r_mfal r_mtop r_mstr r_mgho r_mfai r_mahd r_mahf r_mcho r_mbyt r_mpos r_mrdm r_mlin r_mthg r_mord r_mans) (cwV 3 hts gX10_enough_X10_lastOf rfl rfl rfl (by decide +kernel) ⟨Nat.le_of_ble_eq_true rfl, Nat.le_of_ble_eq_true rfl⟩) hP hK hN [0, 1, 2, 3, 4, 5, 6, 7, 8, 9, 10, 11, 12, 13, 14, 15, 16, 17, 18, 19, 20, 21, 22, 23, 24, 25] rfl 0 10 rfl rfl rfl hl.1 rfl (Nat.le_of_ble_eq_true rfl) dX10_enough_65 ⟨Nat.le_of_ble_eq_true rfl, Nat.le_of_ble_eq_true rfl⟩ (fun r17 h18 => ?_)
                      have h18 : (r17 = laF mlne (0 : Int32) y35_5 (6 : Int32) mlin.toInt.toNat) := h18
                      have h18_0 := h18
                      refine lv_istore (lv' := [(6, .int r17), (0, .ref (b 39)), (1, .int co), (2, .int y35_2), (3, .int y35_3), (4, .int y20_4), (5, .int y35_5)]) hx hb dX10_enough_68 hl (by decide) rfl (fun ls hl => ?_)
                      refine lv_iload_n hx hb dX10_enough_70 rfl (lv_at hl 3 rfl) ?_
                      refine lv_iload hx hb dX10_enough_71 (lv_at hl 0 rfl) ?_
                      refine lv_bipush (v := 6) hx hb dX10_enough_73 (by decide) ?_
                      refine lv_icmp_le (tgt := 83) hx hb dX10_enough_75 (by decide) (fun c19 => ?_) (fun c19 => ?_)
                      · have dc19 : r17.toInt ≤ 6 := leC rfl (show (6 : Int32).toInt = 6 from rfl) c19
                        refine lv_iload hx hb dX10_enough_83 (lv_at hl 0 rfl) ?_
                        refine lv_iadd hx hb dX10_enough_85 ?_
                        refine lv_topi (fun x20 ex20 => ?_)
                        have ix20 : x20.toInt = (y35_2 + r17).toInt := by rw [ex20]
                        refine lv_istore_n (lv' := [(2, .int x20), (6, .int r17), (0, .ref (b 39)), (1, .int co), (3, .int y35_3), (4, .int y20_4), (5, .int y35_5)]) hx hb dX10_enough_86 rfl hl (by decide) rfl (fun ls hl => ?_)
                        obtain ⟨z21, ez21⟩ : ∃ y : Int32, y = y35_3 + 1 := ⟨_, rfl⟩
                        refine lv_iinc (v := z21) (lv' := [(3, .int z21), (2, .int x20), (6, .int r17), (0, .ref (b 39)), (1, .int co), (4, .int y20_4), (5, .int y35_5)]) hx hb dX10_enough_87 hl (k := 4) rfl (by rw [ez21]; rfl) (by decide) rfl (fun ls hl => ?_)
                        obtain ⟨z22, ez22⟩ : ∃ y : Int32, y = y35_5 + 1 := ⟨_, rfl⟩
                        have iz22 : z22.toInt = y35_5.toInt + 1 := by rw [ez22]; exact addC rfl rfl (by omega) (by omega)
                        refine lv_iinc (v := z22) (lv' := [(5, .int z22), (3, .int z21), (2, .int x20), (6, .int r17), (0, .ref (b 39)), (1, .int co), (4, .int y20_4)]) hx hb dX10_enough_90 hl (k := 6) rfl (by rw [ez22]; rfl) (by decide) rfl (fun ls hl => ?_)
                        refine lv_goto (tgt := 35) hx hb dX10_enough_93 (by decide) ?_
                        exact ih35 x20 z21 z22 mfar_c14 _ _ _ (by omega) (by omega) (by (first | exact em_y (f := y20_4) (y := y35_5) i35_2 (by assumption) (by assumption) (by first | exact mi_3 (by assumption) | exact mi_2 (by assumption)) (by omega) (by omega) (by omega) (by omega) (by omega) (by omega) (by assumption) (by assumption) (by omega) | exact em_n (f := y20_4) (y := y35_5) i35_2 (by assumption) (by omega) (by omega) (by omega) (by omega) (by omega) (by omega) | exact em_c i20_2 (by omega))) (by omega) hP hD hS (lv_sub hl [4, 5, 2, 1, 6, 0] rfl)
                      · have dc19 : 6 < r17.toInt := nleC rfl (show (6 : Int32).toInt = 6 from rfl) c19
                        refine lv_bipush (v := 6) hx hb dX10_enough_78 (by decide) ?_
                        refine lv_goto (tgt := 85) hx hb dX10_enough_80 (by decide) ?_
                        refine lv_iadd hx hb dX10_enough_85 ?_
                        refine lv_topi (fun x23 ex23 => ?_)
                        have ix23 : x23.toInt = (y35_2 + 6).toInt := by rw [ex23]
                        refine lv_istore_n (lv' := [(2, .int x23), (6, .int r17), (0, .ref (b 39)), (1, .int co), (3, .int y35_3), (4, .int y20_4), (5, .int y35_5)]) hx hb dX10_enough_86 rfl hl (by decide) rfl (fun ls hl => ?_)
                        obtain ⟨z24, ez24⟩ : ∃ y : Int32, y = y35_3 + 1 := ⟨_, rfl⟩
                        refine lv_iinc (v := z24) (lv' := [(3, .int z24), (2, .int x23), (6, .int r17), (0, .ref (b 39)), (1, .int co), (4, .int y20_4), (5, .int y35_5)]) hx hb dX10_enough_87 hl (k := 4) rfl (by rw [ez24]; rfl) (by decide) rfl (fun ls hl => ?_)
                        obtain ⟨z25, ez25⟩ : ∃ y : Int32, y = y35_5 + 1 := ⟨_, rfl⟩
                        have iz25 : z25.toInt = y35_5.toInt + 1 := by rw [ez25]; exact addC rfl rfl (by omega) (by omega)
                        refine lv_iinc (v := z25) (lv' := [(5, .int z25), (3, .int z24), (2, .int x23), (6, .int r17), (0, .ref (b 39)), (1, .int co), (4, .int y20_4)]) hx hb dX10_enough_90 hl (k := 6) rfl (by rw [ez25]; rfl) (by decide) rfl (fun ls hl => ?_)
                        refine lv_goto (tgt := 35) hx hb dX10_enough_93 (by decide) ?_
                        exact ih35 x23 z24 z25 mfar_c14 _ _ _ (by omega) (by omega) (by (first | exact em_y (f := y20_4) (y := y35_5) i35_2 (by assumption) (by assumption) (by first | exact mi_3 (by assumption) | exact mi_2 (by assumption)) (by omega) (by omega) (by omega) (by omega) (by omega) (by omega) (by assumption) (by assumption) (by omega) | exact em_n (f := y20_4) (y := y35_5) i35_2 (by assumption) (by omega) (by omega) (by omega) (by omega) (by omega) (by omega) | exact em_c i20_2 (by omega))) (by omega) hP hD hS (lv_sub hl [4, 5, 2, 1, 6, 0] rfl)
            have kc26 : (0 : Int32).toInt = 0 := rfl
            exact L35 _ y20_2 y20_3 0 mfar_20 _ _ _ (by omega) (by omega) (by (first | exact em_y (f := y20_4) (y := y35_5) i35_2 (by assumption) (by assumption) (by first | exact mi_3 (by assumption) | exact mi_2 (by assumption)) (by omega) (by omega) (by omega) (by omega) (by omega) (by omega) (by assumption) (by assumption) (by omega) | exact em_n (f := y20_4) (y := y35_5) i35_2 (by assumption) (by omega) (by omega) (by omega) (by omega) (by omega) (by omega) | exact em_c i20_2 (by omega))) (Nat.lt_succ_self _) hP hD hS (lv_sub hl [1, 2, 3, 4, 5, 0] rfl)
    have kc27 : (0 : Int32).toInt = 0 := rfl
    exact L20 _ 0 0 0 mfar _ _ _ (by omega) (by omega) (by (first | exact em_s i35_2 (by first | exact Or.inl (by omega) | exact Or.inr ⟨by omega, by omega⟩) | exact em_0 rfl rfl (by first | rfl | omega))) (Nat.lt_succ_self _) hP hD hS (lv_sub hl [3, 4, 2, 1, 0] rfl)
  · refine lv_if_ne (tgt := 13) hx hb dX10_enough_7 (by decide) (fun c9 => absurd (by decide) c9) (fun _ => ?_)
    refine lv_bipush (v := (-3)) hx hb dX10_enough_10 (by decide) ?_
    exact W.iret (v := (-3)) hx hb hr (fun tq ht hW => ⟨⟨(-3), (uS [mfar] 0 (fun _ => 0)), rfl, (show spEnoM mdA mdB mlne mdoo mlin co ((-3) : Int32) from by (try rw [show ((-3) : Int32).toInt = (-3) from (show ((-3) : Int32).toInt = (-3) from rfl)]); (first | exact Or.inr ⟨by omega, fun w a b => er_n (em_s i20_2 (by first | exact Or.inl (by omega) | exact Or.inr ⟨by omega, by omega⟩) w a b) (by omega)⟩ | exact Or.inr ⟨by omega, fun w a b => er_y (em_s i20_2 (by first | exact Or.inl (by omega) | exact Or.inr ⟨by omega, by omega⟩) w a b) (by omega)⟩ | exact Or.inl ⟨by omega, rfl⟩)), by rw [ht]; exact hP, hD⟩, hS.F ht⟩) hS.2.2 dX10_enough_12
