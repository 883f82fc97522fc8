set_option maxHeartbeats 4000000 in
set_option maxRecDepth 100000 in
theorem k_X9_put4 (l : Launch) (dC : Nat → ClassId) (dI : Nat → Nat → Nat) (cI cZ cQ : ClassId) (a : Nat → Nat) (rb0 : Nat) (rb1 : Nat) (rb2 : Nat) (db0 : Nat) (db1 : Nat) (db2 : Nat) (top : Nat → Int32) (str : Nat → Int32) (gho : Nat → Int32) (ghs : Nat → Int32) (pto : Nat → Int32) (cro : Nat → Int32) (pla : Nat → Int32) (wal : Nat → Int32) (fal : Nat → Int32) (tel : Int32) (gai : Int32) (day : Int32) (mar : Nat → Int32) (sz : Nat) (t : Int32) (co : Int32) (r_top : rg 48 (-1) (23) top) (r_str : rg 48 (0) (100) str) (r_gho : rg 48 (-1) (23) gho) (r_ghs : rg 48 (0) (100) ghs) (r_cro : rg 48 (0) (6) cro) (r_pla : rg 24 (-1) (47) pla) (r_fal : rg 11 (0) (30) fal) (r_gai : 0 ≤ gai.toInt ∧ gai.toInt ≤ 100) (r_day : 0 ≤ day.toInt ∧ day.toInt ≤ 400) (r_mar : rg 24 (0) (255) mar) (q0 : plOK top pla) (q1 : crI top gho ghs) (q2 : ptI pto day) : KW l yX9_put wsX9_put { frames := 2, cells := 0, slots := 0, locals := 42 } (dC, dI) (TY cI cZ cQ) (wsC cI cZ cQ a rb0 rb1 rb2 db0 db1 db2 top str gho ghs pto cro pla wal fal tel gai day mar) [.ref (a 43), .int t, .int co] sz 0 0 (fun (r : Int32) (u : US) => (spPutC top str gho ghs pto day t co r (u.1 0) (u.1 1) (u.1 2) (u.1 3) (u.1 4)) ∧ (plOK (u.1 0) (u.1 5)) ∧ (crI (u.1 0) (u.1 2) (u.1 3)) ∧ (ptI (u.1 4) day) ∧ (rg 48 (-1) (23) (u.1 0)) ∧ (rg 48 (0) (100) (u.1 1)) ∧ (rg 48 (-1) (23) (u.1 2)) ∧ (rg 48 (0) (100) (u.1 3)) ∧ (rg 24 (-1) (47) (u.1 5))) (fun u : US => (wsC cI cZ cQ a rb0 rb1 rb2 db0 db1 db2 (u.1 0) (u.1 1) (u.1 2) (u.1 3) (u.1 4) cro (u.1 5) wal fal tel gai day mar)) := by
  refine Met.ofW (cc := cX9_put) (maxL := 4) (ret := (some .int)) (by decide) rfl ?_
  intro p e s m args below meth c s₁ B hml hv
  obtain ⟨rfl, hsz, hP, hK, hD0, hN⟩ := hv
  have hx := B.exec
  have hb := B.bytes
  have hr := B.returns
  have hts := atoms_spec (ws := wsX9_put) B.pre
  have hown : s.vm.findClass RX9 = some m.cls := findClass_of_methodNamed B.named
  have hlocks := B.notSynchronized
  have lf28 := hts (.fieldLink RX9 28 "PalaceOfRooms" "corners" "LPalaceOfRooms$Corners;") (by decide +kernel)
  have inX9 : ∀ w ∈ wsX90, w ∈ wsX9_put := by decide +kernel
  have lf128 := hN.use (w := .fieldLinkNest "PalaceOfRooms" 128 "PalaceOfRooms$Corners" "placeOf" "[I" "PalaceOfRooms") (by decide +kernel) ([.ref (a 43), .int t, .int co] : List Value).toArray
  have inX1 : ∀ w ∈ wsX10, w ∈ wsX9_put := by decide +kernel
  have lf131 := hN.use (w := .fieldLinkNest "PalaceOfRooms" 131 "PalaceOfRooms$Corners" "top" "[I" "PalaceOfRooms") (by decide +kernel) ([.ref (a 43), .int t, .int co] : List Value).toArray
  subst hsz
  have hD := hD0.self (sz := s.heap.size)
  generalize hAe : va_A (wsC cI cZ cQ a rb0 rb1 rb2 db0 db1 db2 top str gho ghs pto cro pla wal fal tel gai day mar) s.heap.size = A at hD ⊢
  have hA : ∀ q : Nat, s.heap.size ≤ q → A q := fun q h => by rw [← hAe]; exact Or.inr h
  have hS : va_S A s.heap s.heap [] := va_S.rf
  have hl := lv_entry ([.ref (a 43), .int t, .int co]) (n := 4) (Nat.le_of_ble_eq_true rfl)
  rw [lg_entry_eq]
  generalize (lg_sl ([.ref (a 43), .int t, .int co]) ++ List.replicate (4 - (lg_sl ([.ref (a 43), .int t, .int co])).length) Slot.unset).toArray = ls at hl ⊢
  have hl : lv_has ls 4 [(0, .ref (a 43)), (1, .int t), (2, .int co)] := hl
  refine lv_iload_n hx hb dX9_put_0 rfl (lv_at hl 1 rfl) ?_
  refine rdS (As := [.int t]) (rest := []) ⟨hx, hb, hml, hown, hts⟩ (k_X9_isThing l dC dI cI cZ cQ t) (va_cwS 1 hts gX9_put_X9_isThing rfl rfl rfl (by decide +kernel) ⟨Nat.le_of_ble_eq_true rfl, Nat.le_of_ble_eq_true rfl⟩) hP hK hN [] rfl rfl hl.1 rfl (Nat.le_of_ble_eq_true rfl) dX9_put_1 ⟨Nat.le_of_ble_eq_true rfl, Nat.le_of_ble_eq_true rfl⟩ (fun r1 h2 => ?_)
  have h2 : ((((r1 = 1) ∧ (0 ≤ t.toInt) ∧ (t.toInt ≤ 23)) ∨ ((r1 = 0) ∧ (t.toInt < 0 ∨ 23 < t.toInt)))) := h2
  rcases h2 with (⟨rfl, h2_a0, h2_a1⟩ | ⟨rfl, h2_a0⟩)
  · refine lv_if_eq (tgt := 14) hx hb dX9_put_4 (by decide) (fun c9 => absurd c9 (by decide)) (fun _ => ?_)
    refine lv_iload_n hx hb dX9_put_7 rfl (lv_at hl 2 rfl) ?_
    refine rdS (As := [.int co]) (rest := []) ⟨hx, hb, hml, hown, hts⟩ (k_X9_isCorner l dC dI cI cZ cQ co) (va_cwS 1 hts gX9_put_X9_isCorner rfl rfl rfl (by decide +kernel) ⟨Nat.le_of_ble_eq_true rfl, Nat.le_of_ble_eq_true rfl⟩) hP hK hN [] rfl rfl hl.1 rfl (Nat.le_of_ble_eq_true rfl) dX9_put_8 ⟨Nat.le_of_ble_eq_true rfl, Nat.le_of_ble_eq_true rfl⟩ (fun r3 h4 => ?_)
    have h4 : ((((r3 = 1) ∧ (0 ≤ co.toInt) ∧ (co.toInt ≤ 47)) ∨ ((r3 = 0) ∧ (co.toInt < 0 ∨ 47 < co.toInt)))) := h4
    rcases h4 with (⟨rfl, h4_a0, h4_a1⟩ | ⟨rfl, h4_a0⟩)
    · refine lv_if_ne (tgt := 17) hx hb dX9_put_11 (by decide) (fun _ => ?_) (fun c9 => absurd c9 (by decide))
      refine lv_aload_n hx hb dX9_put_17 rfl (lv_at hl 0 rfl) ?_
      refine va_get (D := (dC, dI)) (ci := 9) (v := .ref (a 4)) (C := RX9) (T := TX9) (N := 11) hx hb hts inX9 hown hK hP 0 rfl rfl 2 (by decide) lf28 (fun _ h9 => h9) rfl dX9_put_18 ?_
      refine va_getN (D := (dC, dI)) (ci := 1) (v := .ref (a 11)) (C := RX1) (T := TX1) (N := 13) hx hb hts inX1 hown hK hP 1 rfl rfl 7 (by decide) lf128 (fun _ h9 => h9) rfl dX9_put_21 ?_
      refine lv_iload_n hx hb dX9_put_24 rfl (lv_at hl 1 rfl) ?_
      have b5 : vp_in t 24 := inC rfl (by omega) (by omega)
      refine va_iald hx hb hK hP 8 0 rfl rfl b5 dX9_put_25 ?_
      have g6 : -1 ≤ (pla t.toNatClampNeg).toInt ∧ (pla t.toNatClampNeg).toInt ≤ 47 := rg_at r_pla b5
      refine lv_iconst (v := (-1)) hx hb dX9_put_26 (by decide) ?_
      refine lv_icmp_eq (tgt := 33) hx hb dX9_put_27 (by decide) (fun c7 => ?_) (fun c7 => ?_)
      · have dc7 : (pla t.toNatClampNeg).toInt = (-1) := eqC rfl (show ((-1) : Int32).toInt = (-1) from rfl) c7
        refine lv_aload_n hx hb dX9_put_33 rfl (lv_at hl 0 rfl) ?_
        refine va_get (D := (dC, dI)) (ci := 9) (v := .ref (a 4)) (C := RX9) (T := TX9) (N := 11) hx hb hts inX9 hown hK hP 0 rfl rfl 2 (by decide) lf28 (fun _ h9 => h9) rfl dX9_put_34 ?_
        refine va_getN (D := (dC, dI)) (ci := 1) (v := .ref (a 5)) (C := RX1) (T := TX1) (N := 13) hx hb hts inX1 hown hK hP 1 rfl rfl 1 (by decide) lf131 (fun _ h9 => h9) rfl dX9_put_37 ?_
        refine lv_iload_n hx hb dX9_put_40 rfl (lv_at hl 2 rfl) ?_
        have b8 : vp_in co 48 := inC rfl (by omega) (by omega)
        refine va_iald hx hb hK hP 2 0 rfl rfl b8 dX9_put_41 ?_
        have g9 : -1 ≤ (top co.toNatClampNeg).toInt ∧ (top co.toNatClampNeg).toInt ≤ 23 := rg_at r_top b8
        refine lv_topi (fun x10 ex10 => ?_)
        have ix10 : x10.toInt = (top co.toNatClampNeg).toInt := by rw [ex10]
        refine lv_istore_n (lv' := [(3, .int x10), (0, .ref (a 43)), (1, .int t), (2, .int co)]) hx hb dX9_put_42 rfl hl (by decide) rfl (fun ls hl => ?_)
        refine lv_aload_n hx hb dX9_put_43 rfl (lv_at hl 1 rfl) ?_
        refine va_get (D := (dC, dI)) (ci := 9) (v := .ref (a 4)) (C := RX9) (T := TX9) (N := 11) hx hb hts inX9 hown hK hP 0 rfl rfl 2 (by decide) lf28 (fun _ h9 => h9) rfl dX9_put_44 ?_
        refine lv_iload_n hx hb dX9_put_47 rfl (lv_at hl 3 rfl) ?_
        refine lv_iload_n hx hb dX9_put_48 rfl (lv_at hl 2 rfl) ?_
        refine wvV (As := [.int co, .int t]) (rest := []) (wr := [((a 43), .inr (9, [.ref (a 0), .ref (a 2), .ref (a 4), .ref (a 14), .ref (a 16), .ref (a 23), .ref (a 28), .ref (a 33), .ref (a 42), .ref rb0, .ref db0]))]) (w2 := (fun u : US => (wsC cI cZ cQ a rb0 rb1 rb2 db0 db1 db2 (u.1 0) (u.1 1) (u.1 2) (u.1 3) (u.1 4) cro (u.1 5) wal fal tel gai day mar))) ⟨hx, hb, hml, hown, hts⟩ (k_X1_cover3 l dC dI cI cZ cQ a top str gho ghs pto cro pla wal fal tel gai day mar _ co t r_top r_str r_gho r_ghs r_cro r_pla r_fal r_gai r_day r_mar (by omega) (by omega) (by omega) (by omega)) (cwV 2 hts gX9_put_X1_cover rfl rfl rfl (by decide +kernel) ⟨Nat.le_of_ble_eq_true rfl, Nat.le_of_ble_eq_true rfl⟩) hP hD hS hA hK hN [1, 2, 3, 4, 5, 6, 7, 8, 9, 10, 11, 12] [0] [0, 1, 2, 3, 4, 5, 6, 7, 8, 9, 10, 11, 12] rfl rfl (by decide) (by decide) (by decide) (fun _ => rfl) (by decide) 1 1 rfl rfl rfl hl.1 rfl (Nat.le_of_ble_eq_true rfl) dX9_put_49 ⟨Nat.le_of_ble_eq_true rfl, Nat.le_of_ble_eq_true rfl⟩ (fun u13 H locs h12 hP hD hS => ?_)
        obtain ⟨top_c14, etop_c14⟩ : ∃ f : Nat → Int32, f = (u13.1 0) := ⟨_, rfl⟩
        obtain ⟨str_c15, estr_c15⟩ : ∃ f : Nat → Int32, f = (u13.1 1) := ⟨_, rfl⟩
        obtain ⟨gho_c16, egho_c16⟩ : ∃ f : Nat → Int32, f = (u13.1 2) := ⟨_, rfl⟩
        obtain ⟨ghs_c17, eghs_c17⟩ : ∃ f : Nat → Int32, f = (u13.1 3) := ⟨_, rfl⟩
        obtain ⟨pto_c18, epto_c18⟩ : ∃ f : Nat → Int32, f = (u13.1 4) := ⟨_, rfl⟩
        obtain ⟨pla_c19, epla_c19⟩ : ∃ f : Nat → Int32, f = (u13.1 5) := ⟨_, rfl⟩
        have hP : va_P (dC, dI) vwCl (wsC cI cZ cQ a rb0 rb1 rb2 db0 db1 db2 top_c14 str_c15 gho_c16 ghs_c17 pto_c18 cro pla_c19 wal fal tel gai day mar) H := by rw [etop_c14, estr_c15, egho_c16, eghs_c17, epto_c18, epla_c19]; exact hP
        have hD : va_D A (wsC cI cZ cQ a rb0 rb1 rb2 db0 db1 db2 top_c14 str_c15 gho_c16 ghs_c17 pto_c18 cro pla_c19 wal fal tel gai day mar) := by rw [etop_c14, estr_c15, egho_c16, eghs_c17, epto_c18, epla_c19]; exact hD
        have h12 : (top_c14 = upd top co.toNatClampNeg t) ∧ ((top co.toNatClampNeg = -1 ∧ pla_c19 = upd pla t.toNatClampNeg co) ∨ (top co.toNatClampNeg ≠ -1 ∧ pla_c19 = upd (upd pla (top co.toNatClampNeg).toNatClampNeg (-1)) t.toNatClampNeg co)) ∧ (cvC top str gho ghs pto day co str_c15 gho_c16 ghs_c17 pto_c18) ∧ (rg 48 (-1) (23) top_c14) ∧ (rg 48 (0) (100) str_c15) ∧ (rg 48 (-1) (23) gho_c16) ∧ (rg 48 (0) (100) ghs_c17) ∧ (rg 24 (-1) (47) pla_c19) := by (try rw [etop_c14]); (try rw [estr_c15]); (try rw [egho_c16]); (try rw [eghs_c17]); (try rw [epto_c18]); (try rw [epla_c19]); exact h12
        obtain ⟨h12_0, h12_1, h12_2, h12_3, h12_4, h12_5, h12_6, h12_7⟩ := h12
        refine lv_iload_n hx hb dX9_put_52 rfl (lv_at hl 0 rfl) ?_
        exact W.iret (v := x10) hx hb hr (fun tq ht hW => ⟨⟨x10, (uS [top_c14, str_c15, gho_c16, ghs_c17, pto_c18, pla_c19] 0 (fun _ => 0)), rfl, ⟨(show spPutC top str gho ghs pto day t co x10 top_c14 str_c15 gho_c16 ghs_c17 pto_c18 from by (first | exact putC_bad (by omega) | exact putC_no q0 (by omega) (by assumption) | exact putC_ok q0 (by omega) (by assumption) (by assumption) (by assumption) (by assumption))), (show plOK top_c14 pla_c19 from by (first | exact q0 | exact pl_put (t := t) (c := co) q0 (by omega) (by assumption) r_top (by assumption) (by assumption))), (show crI top_c14 gho_c16 ghs_c17 from by (first | exact q1 | exact crI_put (t := t) (c := co) q1 (by omega) (by assumption) (by assumption))), (show ptI pto_c18 day from by (first | exact q2 | exact pt_put q2 (by omega) (by assumption))), h12_3, h12_4, h12_5, h12_6, h12_7⟩, by rw [ht]; exact hP, hD⟩, hS.F ht⟩) hS.2.2 dX9_put_53
      · have dc7 : 0 ≤ (pla t.toNatClampNeg).toInt := ka_lo (by omega) (neC rfl (show ((-1) : Int32).toInt = (-1) from rfl) c7)
        refine lv_bipush (v := (-4)) hx hb dX9_put_30 (by decide) ?_
        exact W.iret (v := (-4)) hx hb hr (fun tq ht hW => ⟨⟨(-4), (uS [top, str, gho, ghs, pto, pla] 0 (fun _ => 0)), rfl, ⟨(show spPutC top str gho ghs pto day t co ((-4) : Int32) top str gho ghs pto from by (try rw [show ((-4) : Int32).toInt = (-4) from (show ((-4) : Int32).toInt = (-4) from rfl)]); (first | exact putC_bad (by omega) | exact putC_no q0 (by omega) (by assumption) | exact putC_ok q0 (by omega) (by assumption) (by assumption) (by assumption) (by assumption))), (show plOK top pla from by (try rw [show ((-4) : Int32).toInt = (-4) from (show ((-4) : Int32).toInt = (-4) from rfl)]); (first | exact q0 | exact pl_put (t := t) (c := co) q0 (by omega) (by assumption) r_top (by assumption) (by assumption))), (show crI top gho ghs from by (try rw [show ((-4) : Int32).toInt = (-4) from (show ((-4) : Int32).toInt = (-4) from rfl)]); (first | exact q1 | exact crI_put (t := t) (c := co) q1 (by omega) (by assumption) (by assumption))), (show ptI pto day from by (try rw [show ((-4) : Int32).toInt = (-4) from (show ((-4) : Int32).toInt = (-4) from rfl)]); (first | exact q2 | exact pt_put q2 (by omega) (by assumption))), r_top, r_str, r_gho, r_ghs, r_pla⟩, by rw [ht]; exact hP, hD⟩, hS.F ht⟩) hS.2.2 dX9_put_32
    · refine lv_if_ne (tgt := 17) hx hb dX9_put_11 (by decide) (fun c9 => absurd (by decide) c9) (fun _ => ?_)
      refine lv_bipush (v := (-2)) hx hb dX9_put_14 (by decide) ?_
      exact W.iret (v := (-2)) hx hb hr (fun tq ht hW => ⟨⟨(-2), (uS [top, str, gho, ghs, pto, pla] 0 (fun _ => 0)), rfl, ⟨(show spPutC top str gho ghs pto day t co ((-2) : Int32) top str gho ghs pto from by (try rw [show ((-2) : Int32).toInt = (-2) from (show ((-2) : Int32).toInt = (-2) from rfl)]); (first | exact putC_bad (by omega) | exact putC_no q0 (by omega) (by assumption) | exact putC_ok q0 (by omega) (by assumption) (by assumption) (by assumption) (by assumption))), (show plOK top pla from by (try rw [show ((-2) : Int32).toInt = (-2) from (show ((-2) : Int32).toInt = (-2) from rfl)]); (first | exact q0 | exact pl_put (t := t) (c := co) q0 (by omega) (by assumption) r_top (by assumption) (by assumption))), (show crI top gho ghs from by (try rw [show ((-2) : Int32).toInt = (-2) from (show ((-2) : Int32).toInt = (-2) from rfl)]); (first | exact q1 | exact crI_put (t := t) (c := co) q1 (by omega) (by assumption) (by assumption))), (show ptI pto day from by (try rw [show ((-2) : Int32).toInt = (-2) from (show ((-2) : Int32).toInt = (-2) from rfl)]); (first | exact q2 | exact pt_put q2 (by omega) (by assumption))), r_top, r_str, r_gho, r_ghs, r_pla⟩, by rw [ht]; exact hP, hD⟩, hS.F ht⟩) hS.2.2 dX9_put_16
  · refine lv_if_eq (tgt := 14) hx hb dX9_put_4 (by decide) (fun _ => ?_) (fun c9 => absurd (by decide) c9)
    refine lv_bipush (v := (-2)) hx hb dX9_put_14 (by decide) ?_
    exact W.iret (v := (-2)) hx hb hr (fun tq ht hW => ⟨⟨(-2), (uS [top, str, gho, ghs, pto, pla] 0 (fun _ => 0)), rfl, ⟨(show spPutC top str gho ghs pto day t co ((-2) : Int32) top str gho ghs pto from by (try rw [show ((-2) : Int32).toInt = (-2) from (show ((-2) : Int32).toInt = (-2) from rfl)]); (first | exact putC_bad (by omega) | exact putC_no q0 (by omega) (by assumption) | exact putC_ok q0 (by omega) (by assumption) (by assumption) (by assumption) (by assumption))), (show plOK top pla from by (try rw [show ((-2) : Int32).toInt = (-2) from (show ((-2) : Int32).toInt = (-2) from rfl)]); (first | exact q0 | exact pl_put (t := t) (c := co) q0 (by omega) (by assumption) r_top (by assumption) (by assumption))), (show crI top gho ghs from by (try rw [show ((-2) : Int32).toInt = (-2) from (show ((-2) : Int32).toInt = (-2) from rfl)]); (first | exact q1 | exact crI_put (t := t) (c := co) q1 (by omega) (by assumption) (by assumption))), (show ptI pto day from by (try rw [show ((-2) : Int32).toInt = (-2) from (show ((-2) : Int32).toInt = (-2) from rfl)]); (first | exact q2 | exact pt_put q2 (by omega) (by assumption))), r_top, r_str, r_gho, r_ghs, r_pla⟩, by rw [ht]; exact hP, hD⟩, hS.F ht⟩) hS.2.2 dX9_put_16
set_option maxHeartbeats 4000000 in
set_option maxRecDepth 100000 in
theorem k_X9_days3 (l : Launch) (dC : Nat → ClassId) (dI : Nat → Nat → Nat) (cI cZ cQ : ClassId) (a : Nat → Nat) (rb0 : Nat) (rb1 : Nat) (rb2 : Nat) (db0 : Nat) (db1 : Nat) (db2 : Nat) (top : Nat → Int32) (str : Nat → Int32) (gho : Nat → Int32) (ghs : Nat → Int32) (pto : Nat → Int32) (cro : Nat → Int32) (pla : Nat → Int32) (wal : Nat → Int32) (fal : Nat → Int32) (tel : Int32) (gai : Int32) (day : Int32) (mar : Nat → Int32) (sz : Nat) (n : Int32) (r_top : rg 48 (-1) (23) top) (r_str : rg 48 (0) (100) str) (r_gho : rg 48 (-1) (23) gho) (r_ghs : rg 48 (0) (100) ghs) (r_cro : rg 48 (0) (6) cro) (r_pla : rg 24 (-1) (47) pla) (r_fal : rg 11 (0) (30) fal) (r_gai : 0 ≤ gai.toInt ∧ gai.toInt ≤ 100) (r_day : 0 ≤ day.toInt ∧ day.toInt ≤ 400) (r_mar : rg 24 (0) (255) mar) (q0 : crI top gho ghs) (q1 : ptI pto day) : KW l yX9_days wsX9_days { frames := 6, cells := 0, slots := 0, locals := 131 } (dC, dI) (TY cI cZ cQ) (wsC cI cZ cQ a rb0 rb1 rb2 db0 db1 db2 top str gho ghs pto cro pla wal fal tel gai day mar) [.ref (a 43), .int n] sz 0 0 (fun (r : Int32) (u : US) => (spDysC mar fal top str gho ghs tel day n r (u.1 4 0) (u.1 0) (u.1 1) (u.1 2)) ∧ (crI top (u.1 1) (u.1 2)) ∧ (ptI pto (u.1 4 0)) ∧ (rg 48 (0) (100) (u.1 0)) ∧ (rg 48 (-1) (23) (u.1 1)) ∧ (rg 48 (0) (100) (u.1 2)) ∧ (rg 48 (0) (6) (u.1 3)) ∧ (0 ≤ (u.1 4 0).toInt ∧ (u.1 4 0).toInt ≤ 400)) (fun u : US => (wsC cI cZ cQ a rb0 rb1 rb2 db0 db1 db2 top (u.1 0) (u.1 1) (u.1 2) pto (u.1 3) pla wal fal tel gai (u.1 4 0) mar)) := by
  refine Met.ofW (cc := cX9_days) (maxL := 2) (ret := (some .int)) (by decide) rfl ?_
  intro p e s m args below meth c s₁ B hml hv
  obtain ⟨rfl, hsz, hP, hK, hD0, hN⟩ := hv
  have hx := B.exec
  have hb := B.bytes
  have hr := B.returns
  have hts := atoms_spec (ws := wsX9_days) B.pre
  have hown : s.vm.findClass RX9 = some m.cls := findClass_of_methodNamed B.named
  have hlocks := B.notSynchronized
  have lf28 := hts (.fieldLink RX9 28 "PalaceOfRooms" "corners" "LPalaceOfRooms$Corners;") (by decide +kernel)
  have inX9 : ∀ w ∈ wsX90, w ∈ wsX9_days := fun w h => List.mem_cons_of_mem _ (List.mem_append_left _ (List.mem_append_left _ (List.mem_append_right _ h)))
  have lf153 := hN.use (w := .fieldLinkNest "PalaceOfRooms" 153 "PalaceOfRooms$Corners" "day" "I" "PalaceOfRooms") (by decide +kernel) ([.ref (a 43), .int n] : List Value).toArray
  have inX1 : ∀ w ∈ wsX10, w ∈ wsX9_days := fun w h => List.mem_cons_of_mem _ (List.mem_append_left _ (List.mem_append_right _ h))
  subst hsz
  have hD := hD0.self (sz := s.heap.size)
  generalize hAe : va_A (wsC cI cZ cQ a rb0 rb1 rb2 db0 db1 db2 top str gho ghs pto cro pla wal fal tel gai day mar) s.heap.size = A at hD ⊢
  have hA : ∀ q : Nat, s.heap.size ≤ q → A q := fun q h => by rw [← hAe]; exact Or.inr h
  have hS : va_S A s.heap s.heap [] := va_S.rf
  have hl := lv_entry ([.ref (a 43), .int n]) (n := 2) (Nat.le_of_ble_eq_true rfl)
  rw [lg_entry_eq]
  generalize (lg_sl ([.ref (a 43), .int n]) ++ List.replicate (2 - (lg_sl ([.ref (a 43), .int n])).length) Slot.unset).toArray = ls at hl ⊢
  have hl : lv_has ls 2 [(0, .ref (a 43)), (1, .int n)] := hl
  refine lv_iload_n hx hb dX9_days_0 rfl (lv_at hl 1 rfl) ?_
  refine lv_iconst (v := 1) hx hb dX9_days_1 (by decide) ?_
  refine lv_bipush (v := 60) hx hb dX9_days_2 (by decide) ?_
  refine rdS (As := [.int n, .int 1, .int 60]) (rest := []) ⟨hx, hb, hml, hown, hts⟩ (k_X9_within l dC dI cI cZ cQ n (1 : Int32) (60 : Int32)) (va_cwS 3 hts gX9_days_X9_within rfl rfl rfl (by decide +kernel) ⟨Nat.le_of_ble_eq_true rfl, Nat.le_of_ble_eq_true rfl⟩) hP hK hN [] rfl rfl hl.1 rfl (Nat.le_of_ble_eq_true rfl) dX9_days_4 ⟨Nat.le_of_ble_eq_true rfl, Nat.le_of_ble_eq_true rfl⟩ (fun r1 h2 => ?_)
  have h2 : ((((r1 = 1) ∧ ((1) ≤ n.toInt) ∧ (n.toInt ≤ (60))) ∨ ((r1 = 0) ∧ (n.toInt < (1) ∨ (60) < n.toInt)))) := h2
  rcases h2 with (⟨rfl, h2_a0, h2_a1⟩ | ⟨rfl, h2_a0⟩)
  · refine lv_if_eq (tgt := 25) hx hb dX9_days_7 (by decide) (fun c9 => absurd c9 (by decide)) (fun _ => ?_)
    refine lv_aload_n hx hb dX9_days_10 rfl (lv_at hl 0 rfl) ?_
    refine va_get (D := (dC, dI)) (ci := 9) (v := .ref (a 4)) (C := RX9) (T := TX9) (N := 11) hx hb hts inX9 hown hK hP 0 rfl rfl 2 (by decide) lf28 (fun _ h9 => h9) rfl dX9_days_11 ?_
    refine va_getN (D := (dC, dI)) (ci := 1) (v := .int day) (C := RX1) (T := TX1) (N := 13) hx hb hts inX1 hown hK hP 1 rfl rfl 12 (by decide) lf153 (fun _ h9 => h9) rfl dX9_days_14 ?_
    refine lv_iload_n hx hb dX9_days_17 rfl (lv_at hl 1 rfl) ?_
    refine lv_iadd hx hb dX9_days_18 ?_
    have f3 : (day + n).toInt = (day.toInt) + (n.toInt) := addC rfl rfl (by omega) (by omega)
    refine lv_sipush (v := 400) hx hb dX9_days_19 (by decide) ?_
    refine lv_icmp_le (tgt := 28) hx hb dX9_days_22 (by decide) (fun c4 => ?_) (fun c4 => ?_)
    · have dc4 : (day.toInt) + (n.toInt) ≤ 400 := leC f3 (show (400 : Int32).toInt = 400 from rfl) c4
      refine lv_aload_n hx hb dX9_days_28 rfl (lv_at hl 0 rfl) ?_
      refine va_get (D := (dC, dI)) (ci := 9) (v := .ref (a 4)) (C := RX9) (T := TX9) (N := 11) hx hb hts inX9 hown hK hP 0 rfl rfl 2 (by decide) lf28 (fun _ h9 => h9) rfl dX9_days_29 ?_
      refine lv_iload_n hx hb dX9_days_32 rfl (lv_at hl 1 rfl) ?_
      refine wvV (As := [.int n]) (rest := []) (wr := [((a 43), .inr (9, [.ref (a 0), .ref (a 2), .ref (a 4), .ref (a 14), .ref (a 16), .ref (a 23), .ref (a 28), .ref (a 33), .ref (a 42), .ref rb0, .ref db0]))]) (w2 := (fun u : US => (wsC cI cZ cQ a rb0 rb1 rb2 db0 db1 db2 top (u.1 0) (u.1 1) (u.1 2) pto (u.1 3) pla wal fal tel gai (u.1 4 0) mar))) ⟨hx, hb, hml, hown, hts⟩ (k_X1_passDays2 l dC dI cI cZ cQ a top str gho ghs pto cro pla wal fal tel gai day mar _ n r_top r_str r_gho r_ghs r_cro r_pla r_fal r_gai r_day r_mar (by omega) (by omega) (by omega) (by exact fun j hj => (q0 j hj).2)) (cwV 1 hts gX9_days_X1_passDays rfl rfl rfl (by decide +kernel) ⟨Nat.le_of_ble_eq_true rfl, Nat.le_of_ble_eq_true rfl⟩) hP hD hS hA hK hN [1, 2, 3, 4, 5, 6, 7, 8, 9, 10, 11, 12] [0] [0, 1, 2, 3, 4, 5, 6, 7, 8, 9, 10, 11, 12] rfl rfl (by decide) (by decide) (by decide) (fun _ => rfl) (by decide) 1 1 rfl rfl rfl hl.1 rfl (Nat.le_of_ble_eq_true rfl) dX9_days_33 ⟨Nat.le_of_ble_eq_true rfl, Nat.le_of_ble_eq_true rfl⟩ (fun u7 H locs h6 hP hD hS => ?_)
      obtain ⟨str_c8, estr_c8⟩ : ∃ f : Nat → Int32, f = (u7.1 0) := ⟨_, rfl⟩
      obtain ⟨gho_c9, egho_c9⟩ : ∃ f : Nat → Int32, f = (u7.1 1) := ⟨_, rfl⟩
      obtain ⟨ghs_c10, eghs_c10⟩ : ∃ f : Nat → Int32, f = (u7.1 2) := ⟨_, rfl⟩
      obtain ⟨cro_c11, ecro_c11⟩ : ∃ f : Nat → Int32, f = (u7.1 3) := ⟨_, rfl⟩
      obtain ⟨day_c12, eday_c12⟩ : ∃ f : Int32, f = (u7.1 4 0) := ⟨_, rfl⟩
      have hP : va_P (dC, dI) vwCl (wsC cI cZ cQ a rb0 rb1 rb2 db0 db1 db2 top str_c8 gho_c9 ghs_c10 pto cro_c11 pla wal fal tel gai day_c12 mar) H := by rw [estr_c8, egho_c9, eghs_c10, ecro_c11, eday_c12]; exact hP
      have hD : va_D A (wsC cI cZ cQ a rb0 rb1 rb2 db0 db1 db2 top str_c8 gho_c9 ghs_c10 pto cro_c11 pla wal fal tel gai day_c12 mar) := by rw [estr_c8, egho_c9, eghs_c10, ecro_c11, eday_c12]; exact hD
      have h6 : (day_c12 = day + n) ∧ (dyC mar fal top str gho ghs tel n.toInt.toNat str_c8 gho_c9 ghs_c10) ∧ (rg 48 (0) (100) str_c8) ∧ (rg 48 (-1) (23) gho_c9) ∧ (rg 48 (0) (100) ghs_c10) ∧ (rg 48 (0) (6) cro_c11) ∧ (0 ≤ day_c12.toInt ∧ day_c12.toInt ≤ 400) := by (try rw [estr_c8]); (try rw [egho_c9]); (try rw [eghs_c10]); (try rw [ecro_c11]); (try rw [eday_c12]); exact h6
      obtain ⟨h6_0, h6_1, h6_2, h6_3, h6_4, h6_5, h6_6⟩ := h6
      refine lv_aload_n hx hb dX9_days_36 rfl (lv_at hl 0 rfl) ?_
      refine va_get (D := (dC, dI)) (ci := 9) (v := .ref (a 4)) (C := RX9) (T := TX9) (N := 11) hx hb hts inX9 hown hK hP 0 rfl rfl 2 (by decide) lf28 (fun _ h9 => h9) rfl dX9_days_37 ?_
      refine va_getN (D := (dC, dI)) (ci := 1) (v := .int day_c12) (C := RX1) (T := TX1) (N := 13) hx hb hts inX1 hown hK hP 1 rfl rfl 12 (by decide) lf153 (fun _ h9 => h9) rfl dX9_days_40 ?_
      exact W.iret (v := day_c12) hx hb hr (fun tq ht hW => ⟨⟨day_c12, (uS [str_c8, gho_c9, ghs_c10, cro_c11, (fun _ => day_c12)] 0 (fun _ => 0)), rfl, ⟨(show spDysC mar fal top str gho ghs tel day n day_c12 day_c12 str_c8 gho_c9 ghs_c10 from by (first | exact ⟨Or.inr ⟨by omega, rfl, rfl⟩, Or.inl ⟨by omega, rfl, rfl, rfl⟩⟩ | exact ⟨Or.inl ⟨⟨by omega, by omega, by omega⟩, by assumption, by assumption⟩, Or.inr ⟨by omega, by assumption⟩⟩)), (show crI top gho_c9 ghs_c10 from by (first | exact q0 | exact crI_days q0 (by assumption))), (show ptI pto day_c12 from by (first | exact q1 | exact pt_days q1 (dd_le (by assumption) (by omega) (by omega) (by omega)))), h6_2, h6_3, h6_4, h6_5, h6_6⟩, by rw [ht]; exact hP, hD⟩, hS.F ht⟩) hS.2.2 dX9_days_43
    · have dc4 : 400 < (day.toInt) + (n.toInt) := nleC f3 (show (400 : Int32).toInt = 400 from rfl) c4
      refine lv_bipush (v := (-3)) hx hb dX9_days_25 (by decide) ?_
      exact W.iret (v := (-3)) hx hb hr (fun tq ht hW => ⟨⟨(-3), (uS [str, gho, ghs, cro, (fun _ => day)] 0 (fun _ => 0)), rfl, ⟨(show spDysC mar fal top str gho ghs tel day n ((-3) : Int32) day str gho ghs from by (try rw [show ((-3) : Int32).toInt = (-3) from (show ((-3) : Int32).toInt = (-3) from rfl)]); (first | exact ⟨Or.inr ⟨by omega, rfl, rfl⟩, Or.inl ⟨by omega, rfl, rfl, rfl⟩⟩ | exact ⟨Or.inl ⟨⟨by omega, by omega, by omega⟩, by assumption, by assumption⟩, Or.inr ⟨by omega, by assumption⟩⟩)), (show crI top gho ghs from by (try rw [show ((-3) : Int32).toInt = (-3) from (show ((-3) : Int32).toInt = (-3) from rfl)]); (first | exact q0 | exact crI_days q0 (by assumption))), (show ptI pto day from by (try rw [show ((-3) : Int32).toInt = (-3) from (show ((-3) : Int32).toInt = (-3) from rfl)]); (first | exact q1 | exact pt_days q1 (dd_le (by assumption) (by omega) (by omega) (by omega)))), r_str, r_gho, r_ghs, r_cro, r_day⟩, by rw [ht]; exact hP, hD⟩, hS.F ht⟩) hS.2.2 dX9_days_27
  · refine lv_if_eq (tgt := 25) hx hb dX9_days_7 (by decide) (fun _ => ?_) (fun c9 => absurd (by decide) c9)
    refine lv_bipush (v := (-3)) hx hb dX9_days_25 (by decide) ?_
    exact W.iret (v := (-3)) hx hb hr (fun tq ht hW => ⟨⟨(-3), (uS [str, gho, ghs, cro, (fun _ => day)] 0 (fun _ => 0)), rfl, ⟨(show spDysC mar fal top str gho ghs tel day n ((-3) : Int32) day str gho ghs from by (try rw [show ((-3) : Int32).toInt = (-3) from (show ((-3) : Int32).toInt = (-3) from rfl)]); (first | exact ⟨Or.inr ⟨by omega, rfl, rfl⟩, Or.inl ⟨by omega, rfl, rfl, rfl⟩⟩ | exact ⟨Or.inl ⟨⟨by omega, by omega, by omega⟩, by assumption, by assumption⟩, Or.inr ⟨by omega, by assumption⟩⟩)), (show crI top gho ghs from by (try rw [show ((-3) : Int32).toInt = (-3) from (show ((-3) : Int32).toInt = (-3) from rfl)]); (first | exact q0 | exact crI_days q0 (by assumption))), (show ptI pto day from by (try rw [show ((-3) : Int32).toInt = (-3) from (show ((-3) : Int32).toInt = (-3) from rfl)]); (first | exact q1 | exact pt_days q1 (dd_le (by assumption) (by omega) (by omega) (by omega)))), r_str, r_gho, r_ghs, r_cro, r_day⟩, by rw [ht]; exact hP, hD⟩, hS.F ht⟩) hS.2.2 dX9_days_27

