set_option maxHeartbeats 4000000 in
set_option maxRecDepth 100000 in
theorem k_X9_asked2 (l : Launch) (dC : Nat → ClassId) (dI : Nat → Nat → Nat) (cI cZ cQ : ClassId) (a : Nat → Nat) (rb0 : Nat) (rb1 : Nat) (rb2 : Nat) (db0 : Nat) (db1 : Nat) (db2 : Nat) (top : Nat → Int32) (str : Nat → Int32) (gho : Nat → Int32) (ghs : Nat → Int32) (pto : Nat → Int32) (cro : Nat → Int32) (pla : Nat → Int32) (wal : Nat → Int32) (fal : Nat → Int32) (tel : Int32) (gai : Int32) (day : Int32) (mar : Nat → Int32) (few : Nat → Int32) (doo : Int32) (t : Int32) (ro : Int32) (r_top : rg 48 (-1) (23) top) (r_str : rg 48 (0) (100) str) (r_gho : rg 48 (-1) (23) gho) (r_ghs : rg 48 (0) (100) ghs) (r_cro : rg 48 (0) (6) cro) (r_pla : rg 24 (-1) (47) pla) (r_fal : rg 11 (0) (30) fal) (r_gai : 0 ≤ gai.toInt ∧ gai.toInt ≤ 100) (r_day : 0 ≤ day.toInt ∧ day.toInt ≤ 400) (r_mar : rg 24 (0) (255) mar) (q0 : plOK top pla) (q1 : mtOK few) : KR l yX9_asked wsX9_asked { frames := 2, cells := 0, slots := 0, locals := 42 } (dC, dI) (TY cI cZ cQ) (wsCW cI cZ cQ a rb0 rb1 rb2 db0 db1 db2 top str gho ghs pto cro pla wal fal tel gai day mar few doo) [.ref (a 43), .int t, .int ro] (fun r : Int32 => (spAskC few top t ro r)) := by
  refine Met.ofW (cc := cX9_asked) (maxL := 5) (ret := (some .int)) (by decide) rfl ?_
  intro p e s m args below meth c s₁ B hml hv
  obtain ⟨rfl, hP, hK, hN⟩ := hv
  have hx := B.exec
  have hb := B.bytes
  have hr := B.returns
  have hts := atoms_spec (ws := wsX9_asked) B.pre
  have hown : s.vm.findClass RX9 = some m.cls := findClass_of_methodNamed B.named
  have hlocks := B.notSynchronized
  have lf28 := hts (.fieldLink RX9 28 "PalaceOfRooms" "corners" "LPalaceOfRooms$Corners;") (List.mem_cons_of_mem _ (List.mem_append_left _ (List.mem_append_left _ (List.mem_append_left _ (List.mem_of_getElem? (i := 0) rfl)))))
  have inX9 : ∀ w ∈ wsX90, w ∈ wsX9_asked := fun w h => List.mem_cons_of_mem _ (List.mem_append_left _ (List.mem_append_left _ (List.mem_append_right _ h)))
  have lf128 := hN.use (w := .fieldLinkNest "PalaceOfRooms" 128 "PalaceOfRooms$Corners" "placeOf" "[I" "PalaceOfRooms") (List.mem_of_getElem? (i := 8) rfl) ([.ref (a 43), .int t, .int ro] : List Value).toArray
  have inX1 : ∀ w ∈ wsX10, w ∈ wsX9_asked := fun w h => List.mem_cons_of_mem _ (List.mem_append_left _ (List.mem_append_right _ h))
  have lf12 := hts (.fieldLink RX9 12 "PalaceOfRooms" "ways" "LPalaceOfRooms$Ways;") (List.mem_cons_of_mem _ (List.mem_append_left _ (List.mem_append_left _ (List.mem_append_left _ (List.mem_of_getElem? (i := 1) rfl)))))
  have hl := lv_entry ([.ref (a 43), .int t, .int ro]) (n := 5) (Nat.le_of_ble_eq_true rfl)
  rw [lg_entry_eq]
  generalize (lg_sl ([.ref (a 43), .int t, .int ro]) ++ List.replicate (5 - (lg_sl ([.ref (a 43), .int t, .int ro])).length) Slot.unset).toArray = ls at hl ⊢
  have hl : lv_has ls 5 [(0, .ref (a 43)), (1, .int t), (2, .int ro)] := hl
  refine lv_iload_n hx hb dX9_asked_0 rfl (lv_at hl 1 rfl) ?_
  refine rdS (As := [.int t]) (rest := []) ⟨hx, hb, hml, hown, hts⟩ (k_X9_isThing l dC dI cI cZ cQ t) (va_cwS 1 hts gX9_asked_X9_isThing rfl rfl rfl (by decide +kernel) ⟨Nat.le_of_ble_eq_true rfl, Nat.le_of_ble_eq_true rfl⟩) hP hK hN [] rfl rfl hl.1 rfl (Nat.le_of_ble_eq_true rfl) dX9_asked_1 ⟨Nat.le_of_ble_eq_true rfl, Nat.le_of_ble_eq_true rfl⟩ (fun r1 h2 => ?_)
  have h2 : ((((r1 = 1) ∧ (0 ≤ t.toInt) ∧ (t.toInt ≤ 23)) ∨ ((r1 = 0) ∧ (t.toInt < 0 ∨ 23 < t.toInt)))) := h2
  rcases h2 with (⟨rfl, h2_a0, h2_a1⟩ | ⟨rfl, h2_a0⟩)
  · refine lv_if_eq (tgt := 14) hx hb dX9_asked_4 (by decide) (fun c9 => absurd c9 (by decide)) (fun _ => ?_)
    refine lv_iload_n hx hb dX9_asked_7 rfl (lv_at hl 2 rfl) ?_
    refine rdS (As := [.int ro]) (rest := []) ⟨hx, hb, hml, hown, hts⟩ (k_X9_isRoom l dC dI cI cZ cQ ro) (va_cwS 1 hts gX9_asked_X9_isRoom rfl rfl rfl (by decide +kernel) ⟨Nat.le_of_ble_eq_true rfl, Nat.le_of_ble_eq_true rfl⟩) hP hK hN [] rfl rfl hl.1 rfl (Nat.le_of_ble_eq_true rfl) dX9_asked_8 ⟨Nat.le_of_ble_eq_true rfl, Nat.le_of_ble_eq_true rfl⟩ (fun r3 h4 => ?_)
    have h4 : ((((r3 = 1) ∧ (0 ≤ ro.toInt) ∧ (ro.toInt ≤ 7)) ∨ ((r3 = 0) ∧ (ro.toInt < 0 ∨ 7 < ro.toInt)))) := h4
    rcases h4 with (⟨rfl, h4_a0, h4_a1⟩ | ⟨rfl, h4_a0⟩)
    · refine lv_if_ne (tgt := 17) hx hb dX9_asked_11 (by decide) (fun _ => ?_) (fun c9 => absurd c9 (by decide))
      refine lv_aload_n hx hb dX9_asked_17 rfl (lv_at hl 0 rfl) ?_
      refine va_get (D := (dC, dI)) (ci := 9) (v := .ref (a 4)) (C := RX9) (T := TX9) (N := 11) hx hb hts inX9 hown hK hP 0 rfl rfl 2 (by decide) lf28 (fun _ h9 => h9) rfl dX9_asked_18 ?_
      refine va_getN (D := (dC, dI)) (ci := 1) (v := .ref (a 11)) (C := RX1) (T := TX1) (N := 13) hx hb hts inX1 hown hK hP 1 rfl rfl 7 (by decide) lf128 (fun _ h9 => h9) rfl dX9_asked_21 ?_
      refine lv_iload_n hx hb dX9_asked_24 rfl (lv_at hl 1 rfl) ?_
      have b5 : vp_in t 24 := inC rfl (by omega) (by omega)
      refine va_iald hx hb hK hP 8 0 rfl rfl b5 dX9_asked_25 ?_
      have g6 : -1 ≤ (pla t.toNatClampNeg).toInt ∧ (pla t.toNatClampNeg).toInt ≤ 47 := rg_at r_pla b5
      refine lv_topi (fun x7 ex7 => ?_)
      have ix7 : x7.toInt = (pla t.toNatClampNeg).toInt := by rw [ex7]
      refine lv_istore_n (lv' := [(3, .int x7), (0, .ref (a 43)), (1, .int t), (2, .int ro)]) hx hb dX9_asked_26 rfl hl (by decide) rfl (fun ls hl => ?_)
      refine lv_iload_n hx hb dX9_asked_27 rfl (lv_at hl 0 rfl) ?_
      refine lv_iconst (v := (-1)) hx hb dX9_asked_28 (by decide) ?_
      refine lv_icmp_ne (tgt := 34) hx hb dX9_asked_29 (by decide) (fun c8 => ?_) (fun c8 => ?_)
      · have dc8 : 0 ≤ x7.toInt := ka_lo (by omega) (neC rfl (show ((-1) : Int32).toInt = (-1) from rfl) c8)
        refine lv_aload_n hx hb dX9_asked_34 rfl (lv_at hl 1 rfl) ?_
        refine va_get (D := (dC, dI)) (ci := 9) (v := .ref (a 0)) (C := RX9) (T := TX9) (N := 11) hx hb hts inX9 hown hK hP 0 rfl rfl 0 (by decide) lf12 (fun _ h9 => h9) rfl dX9_asked_35 ?_
        refine lv_iload_n hx hb dX9_asked_38 rfl (lv_at hl 3 rfl) ?_
        refine lv_iload_n hx hb dX9_asked_39 rfl (lv_at hl 0 rfl) ?_
        refine lv_bipush (v := 6) hx hb dX9_asked_40 (by decide) ?_
        refine lv_idiv hx hb dX9_asked_42 (by decide) ?_
        have f9 : (x7 / 6).toInt = (x7.toInt) / (6) := divC rfl (show (6 : Int32).toInt = 6 from rfl) (by omega) (by omega)
        refine rdV (As := [.int ro, .int (x7 / 6)]) (rest := []) ⟨hx, hb, hml, hown, hts⟩ (k_X8_between3 l dC dI cI cZ cQ a few doo ro (x7 / 6) (by omega) (by omega) (by omega) (by omega) (by exact q1)) (cwV 2 hts gX9_asked_X8_between rfl rfl rfl (by decide +kernel) ⟨Nat.le_of_ble_eq_true rfl, Nat.le_of_ble_eq_true rfl⟩) hP hK hN [13, 14] rfl 13 8 rfl rfl rfl hl.1 rfl (Nat.le_of_ble_eq_true rfl) dX9_asked_43 ⟨Nat.le_of_ble_eq_true rfl, Nat.le_of_ble_eq_true rfl⟩ (fun r10 h11 => ?_)
        have h11 : (r10 = few (ro.toInt * 8 + (x7 / 6).toInt).toNat) ∧ (-1 ≤ r10.toInt) ∧ (r10.toInt ≤ 7) := h11
        obtain ⟨h11_0, h11_1, h11_2⟩ := h11
        refine lv_istore (lv' := [(4, .int r10), (3, .int x7), (0, .ref (a 43)), (1, .int t), (2, .int ro)]) hx hb dX9_asked_46 hl (by decide) rfl (fun ls hl => ?_)
        refine lv_iload hx hb dX9_asked_48 (lv_at hl 0 rfl) ?_
        refine lv_iconst (v := (-1)) hx hb dX9_asked_50 (by decide) ?_
        refine lv_icmp_ne (tgt := 58) hx hb dX9_asked_51 (by decide) (fun c12 => ?_) (fun c12 => ?_)
        · have dc12 : 0 ≤ r10.toInt := ka_lo (by omega) (neC rfl (show ((-1) : Int32).toInt = (-1) from rfl) c12)
          refine lv_iload hx hb dX9_asked_58 (lv_at hl 0 rfl) ?_
          refine lv_iload_n hx hb dX9_asked_60 rfl (lv_at hl 1 rfl) ?_
          refine lv_bipush (v := 6) hx hb dX9_asked_61 (by decide) ?_
          refine lv_irem hx hb dX9_asked_63 (by decide) ?_
          have f13 : (x7 - x7 / 6 * 6).toInt = (x7.toInt) % (6) := remC rfl (show (6 : Int32).toInt = 6 from rfl) (by omega) (by omega)
          refine lv_iadd hx hb dX9_asked_64 ?_
          have f14 : (r10 + (x7 - x7 / 6 * 6)).toInt = (r10.toInt) + ((x7.toInt) % (6)) := addC rfl f13 (by omega) (by omega)
          refine lv_iconst (v := 1) hx hb dX9_asked_65 (by decide) ?_
          refine lv_iadd hx hb dX9_asked_66 ?_
          have f15 : ((r10 + (x7 - x7 / 6 * 6)) + 1).toInt = ((r10.toInt) + ((x7.toInt) % (6))) + (1) := addC f14 (show (1 : Int32).toInt = 1 from rfl) (by omega) (by omega)
          exact W.iret (v := (r10 + (x7 - x7 / 6 * 6)) + 1) hx hb hr (fun tq ht hW => ⟨(r10 + (x7 - x7 / 6 * 6)) + 1, rfl, (show spAskC few top t ro ((r10 + (x7 - x7 / 6 * 6)) + 1) from by (try rw [show ((r10 + (x7 - x7 / 6 * 6)) + 1).toInt = ((r10.toInt) + ((x7.toInt) % (6))) + (1) from f15]); (first | exact Or.inl ⟨by omega, rfl⟩ | exact askC_n (by omega) (pl_ux q0 (by omega) (by omega) (by assumption)) (by assumption) | exact askC_no (by omega) (pl_ux q0 (by omega) (by omega) (by assumption)) (by omega) (by assumption) (by assumption) (by assumption) | exact askC_ok (by omega) (pl_ux q0 (by omega) (by omega) (by assumption)) (by omega) (by assumption) (by assumption) (by assumption) (by omega))), ht⟩) (fun q h => by cases h) dX9_asked_67
        · have dc12 : r10.toInt = (-1) := eqC rfl (show ((-1) : Int32).toInt = (-1) from rfl) c12
          refine lv_iconst (v := (-1)) hx hb dX9_asked_54 (by decide) ?_
          refine lv_goto (tgt := 67) hx hb dX9_asked_55 (by decide) ?_
          exact W.iret (v := (-1)) hx hb hr (fun tq ht hW => ⟨(-1), rfl, (show spAskC few top t ro ((-1) : Int32) from by (try rw [show ((-1) : Int32).toInt = (-1) from (show ((-1) : Int32).toInt = (-1) from rfl)]); (first | exact Or.inl ⟨by omega, rfl⟩ | exact askC_n (by omega) (pl_ux q0 (by omega) (by omega) (by assumption)) (by assumption) | exact askC_no (by omega) (pl_ux q0 (by omega) (by omega) (by assumption)) (by omega) (by assumption) (by assumption) (by assumption) | exact askC_ok (by omega) (pl_ux q0 (by omega) (by omega) (by assumption)) (by omega) (by assumption) (by assumption) (by assumption) (by omega))), ht⟩) (fun q h => by cases h) dX9_asked_67
      · have dc8 : x7.toInt = (-1) := eqC rfl (show ((-1) : Int32).toInt = (-1) from rfl) c8
        refine lv_iconst (v := (-1)) hx hb dX9_asked_32 (by decide) ?_
        exact W.iret (v := (-1)) hx hb hr (fun tq ht hW => ⟨(-1), rfl, (show spAskC few top t ro ((-1) : Int32) from by (try rw [show ((-1) : Int32).toInt = (-1) from (show ((-1) : Int32).toInt = (-1) from rfl)]); (first | exact Or.inl ⟨by omega, rfl⟩ | exact askC_n (by omega) (pl_ux q0 (by omega) (by omega) (by assumption)) (by assumption) | exact askC_no (by omega) (pl_ux q0 (by omega) (by omega) (by assumption)) (by omega) (by assumption) (by assumption) (by assumption) | exact askC_ok (by omega) (pl_ux q0 (by omega) (by omega) (by assumption)) (by omega) (by assumption) (by assumption) (by assumption) (by omega))), ht⟩) (fun q h => by cases h) dX9_asked_33
    · refine lv_if_ne (tgt := 17) hx hb dX9_asked_11 (by decide) (fun c9 => absurd (by decide) c9) (fun _ => ?_)
      refine lv_bipush (v := (-2)) hx hb dX9_asked_14 (by decide) ?_
      exact W.iret (v := (-2)) hx hb hr (fun tq ht hW => ⟨(-2), rfl, (show spAskC few top t ro ((-2) : Int32) from by (try rw [show ((-2) : Int32).toInt = (-2) from (show ((-2) : Int32).toInt = (-2) from rfl)]); (first | exact Or.inl ⟨by omega, rfl⟩ | exact askC_n (by omega) (pl_ux q0 (by omega) (by omega) (by assumption)) (by assumption) | exact askC_no (by omega) (pl_ux q0 (by omega) (by omega) (by assumption)) (by omega) (by assumption) (by assumption) (by assumption) | exact askC_ok (by omega) (pl_ux q0 (by omega) (by omega) (by assumption)) (by omega) (by assumption) (by assumption) (by assumption) (by omega))), ht⟩) (fun q h => by cases h) dX9_asked_16
  · refine lv_if_eq (tgt := 14) hx hb dX9_asked_4 (by decide) (fun _ => ?_) (fun c9 => absurd (by decide) c9)
    refine lv_bipush (v := (-2)) hx hb dX9_asked_14 (by decide) ?_
    exact W.iret (v := (-2)) hx hb hr (fun tq ht hW => ⟨(-2), rfl, (show spAskC few top t ro ((-2) : Int32) from by (try rw [show ((-2) : Int32).toInt = (-2) from (show ((-2) : Int32).toInt = (-2) from rfl)]); (first | exact Or.inl ⟨by omega, rfl⟩ | exact askC_n (by omega) (pl_ux q0 (by omega) (by omega) (by assumption)) (by assumption) | exact askC_no (by omega) (pl_ux q0 (by omega) (by omega) (by assumption)) (by omega) (by assumption) (by assumption) (by assumption) | exact askC_ok (by omega) (pl_ux q0 (by omega) (by omega) (by assumption)) (by omega) (by assumption) (by assumption) (by assumption) (by omega))), ht⟩) (fun q h => by cases h) dX9_asked_16
set_option maxHeartbeats 4000000 in
set_option maxRecDepth 100000 in
theorem k_X10_asked2 (l : Launch) (dC : Nat → ClassId) (dI : Nat → Nat → Nat) (cI cZ cQ : ClassId) (b : Nat → Nat) (mday : Int32) (mdoo : Int32) (mdA : Nat → Int32) (mdB : Nat → Int32) (mfar : Nat → Int32) (mmar : Nat → Int32) (mtel : Int32) (mgai : Int32) (mfal : Nat → Int32) (mtop : Nat → Int32) (mstr : Nat → Int32) (mgho : Nat → Int32) (mfai : Nat → Int32) (mpto : Nat → Int32) (mwal : Nat → Int32) (mahd : Nat → Int32) (mahf : Nat → Int32) (mcho : Nat → Int32) (mbes : Nat → Int32) (mbyt : Int32) (mtxt : Nat → Int32) (mpos : Int32) (mtka : Int32) (mtok : Int64) (mdig : Int32) (mnum : Int32) (mfau : Int32) (mrdm : Int32) (mrea : Nat → Int32) (mlin : Int32) (mlne : Nat → Int32) (mthg : Nat → Int32) (mord : Nat → Int32) (mbor : Nat → Int32) (mbsm : Int32) (mans : Nat → Int32) (mand : Nat → Int32) (manr : Nat → Int32) (mali : Nat → Int32) (sz : Nat) (t : Int32) (ro : Int32) (r_mday : 0 ≤ mday.toInt ∧ mday.toInt ≤ 400) (r_mdoo : 0 ≤ mdoo.toInt ∧ mdoo.toInt ≤ 14) (r_mdA : rg 14 (0) (7) mdA) (r_mdB : rg 14 (0) (7) mdB) (r_mmar : rg 24 (0) (255) mmar) (r_mgai : 0 ≤ mgai.toInt ∧ mgai.toInt ≤ 100) (r_mfal : rg 11 (0) (30) mfal) (r_mtop : rg 48 (-1) (23) mtop) (r_mstr : rg 48 (0) (100) mstr) (r_mgho : rg 48 (-1) (23) mgho) (r_mfai : rg 48 (0) (100) mfai) (r_mahd : rg 240 (0) (100) mahd) (r_mahf : rg 240 (0) (100) mahf) (r_mcho : rg 5 (-1) (9) mcho) (r_mbyt : 0 ≤ mbyt.toInt ∧ mbyt.toInt ≤ 160) (r_mpos : 0 ≤ mpos.toInt ∧ mpos.toInt ≤ 160) (r_mrdm : 0 ≤ mrdm.toInt ∧ mrdm.toInt ≤ 10) (r_mlin : 0 ≤ mlin.toInt ∧ mlin.toInt ≤ 10) (r_mthg : rg 8 (0) (31) mthg) (r_mord : rg 8 (-1) (8) mord) (r_mans : rg 4 (0) (12) mans) : KW l yX10_asked wsX10_asked { frames := 2, cells := 0, slots := 0, locals := 42 } (dC, dI) (TY cI cZ cQ) (wMod cI cZ cQ b mday mdoo mdA mdB mfar mmar mtel mgai mfal mtop mstr mgho mfai mpto mwal mahd mahf mcho mbes mbyt mtxt mpos mtka mtok mdig mnum mfau mrdm mrea mlin mlne mthg mord mbor mbsm mans mand manr mali) [.ref (b 39), .int t, .int ro] sz 0 0 (fun (r : Int32) (u : US) => (spAskM mdA mdB mdoo mtop t ro r)) (fun u : US => (wMod cI cZ cQ b mday mdoo mdA mdB (u.1 0) mmar mtel mgai mfal mtop mstr mgho mfai mpto mwal mahd mahf mcho mbes mbyt mtxt mpos mtka mtok mdig mnum mfau mrdm mrea mlin mlne mthg mord mbor mbsm mans mand manr mali)) := by
  refine Met.ofW (cc := cX10_asked) (maxL := 5) (ret := (some .int)) (by decide) rfl ?_
  intro p e s m args below meth c s₁ B hml hv
  obtain ⟨rfl, hsz, hP, hK, hD0, hN⟩ := hv
  have hx := B.exec
  have hb := B.bytes
  have hr := B.returns
  have hts := atoms_spec (ws := wsX10_asked) B.pre
  have hown : s.vm.findClass RX10 = some m.cls := findClass_of_methodNamed B.named
  have hlocks := B.notSynchronized
  subst hsz
  have hD := hD0.self (sz := s.heap.size)
  generalize hAe : va_A (wMod cI cZ cQ b mday mdoo mdA mdB mfar mmar mtel mgai mfal mtop mstr mgho mfai mpto mwal mahd mahf mcho mbes mbyt mtxt mpos mtka mtok mdig mnum mfau mrdm mrea mlin mlne mthg mord mbor mbsm mans mand manr mali) s.heap.size = A at hD ⊢
  have hA : ∀ q : Nat, s.heap.size ≤ q → A q := fun q h => by rw [← hAe]; exact Or.inr h
  have hS : va_S A s.heap s.heap [] := va_S.rf
  have hl := lv_entry ([.ref (b 39), .int t, .int ro]) (n := 5) (Nat.le_of_ble_eq_true rfl)
  rw [lg_entry_eq]
  generalize (lg_sl ([.ref (b 39), .int t, .int ro]) ++ List.replicate (5 - (lg_sl ([.ref (b 39), .int t, .int ro])).length) Slot.unset).toArray = ls at hl ⊢
  have hl : lv_has ls 5 [(0, .ref (b 39)), (1, .int t), (2, .int ro)] := hl
  refine lv_iload_n hx hb dX10_asked_0 rfl (lv_at hl 1 rfl) ?_
  refine rdS (As := [.int t]) (rest := []) ⟨hx, hb, hml, hown, hts⟩ (k_X10_isThing l dC dI cI cZ cQ t) (va_cwS 1 hts gX10_asked_X10_isThing rfl rfl rfl (by decide +kernel) ⟨Nat.le_of_ble_eq_true rfl, Nat.le_of_ble_eq_true rfl⟩) hP hK hN [] rfl rfl hl.1 rfl (Nat.le_of_ble_eq_true rfl) dX10_asked_1 ⟨Nat.le_of_ble_eq_true rfl, Nat.le_of_ble_eq_true rfl⟩ (fun r1 h2 => ?_)
  have h2 : ((((r1 = 1) ∧ (0 ≤ t.toInt) ∧ (t.toInt ≤ 23)) ∨ ((r1 = 0) ∧ (t.toInt < 0 ∨ 23 < t.toInt)))) := h2
  rcases h2 with (⟨rfl, h2_a0, h2_a1⟩ | ⟨rfl, h2_a0⟩)
  · refine lv_if_eq (tgt := 14) hx hb dX10_asked_4 (by decide) (fun c9 => absurd c9 (by decide)) (fun _ => ?_)
    refine lv_iload_n hx hb dX10_asked_7 rfl (lv_at hl 2 rfl) ?_
    refine rdS (As := [.int ro]) (rest := []) ⟨hx, hb, hml, hown, hts⟩ (k_X10_isRoom l dC dI cI cZ cQ ro) (va_cwS 1 hts gX10_asked_X10_isRoom rfl rfl rfl (by decide +kernel) ⟨Nat.le_of_ble_eq_true rfl, Nat.le_of_ble_eq_true rfl⟩) hP hK hN [] rfl rfl hl.1 rfl (Nat.le_of_ble_eq_true rfl) dX10_asked_8 ⟨Nat.le_of_ble_eq_true rfl, Nat.le_of_ble_eq_true rfl⟩ (fun r3 h4 => ?_)
    have h4 : ((((r3 = 1) ∧ (0 ≤ ro.toInt) ∧ (ro.toInt ≤ 7)) ∨ ((r3 = 0) ∧ (ro.toInt < 0 ∨ 7 < ro.toInt)))) := h4
    rcases h4 with (⟨rfl, h4_a0, h4_a1⟩ | ⟨rfl, h4_a0⟩)
    · refine lv_if_ne (tgt := 17) hx hb dX10_asked_11 (by decide) (fun _ => ?_) (fun c9 => absurd c9 (by decide))
      refine lv_aload_n hx hb dX10_asked_17 rfl (lv_at hl 0 rfl) ?_
      refine lv_iload_n hx hb dX10_asked_18 rfl (lv_at hl 1 rfl) ?_
      refine rdV (As := [.int t]) (rest := []) ⟨hx, hb, hml, hown, hts⟩ (k_X10_cornerOf2 l dC dI cI cZ cQ b mday mdoo mdA mdB mfar mmar mtel mgai mfal mtop mstr mgho mfai mpto mwal mahd mahf mcho mbes mbyt mtxt mpos mtka mtok mdig mnum mfau mrdm mrea mlin mlne mthg mord mbor mbsm mans mand manr mali t r_mday r_mdoo r_mdA r_mdB r_mmar r_mgai r_mfal r_mtop r_mstr r_mgho r_mfai r_mahd r_mahf r_mcho r_mbyt r_mpos r_mrdm r_mlin r_mthg r_mord r_mans) (cwV 1 hts gX10_asked_X10_cornerOf rfl rfl rfl (by decide +kernel) ⟨Nat.le_of_ble_eq_true rfl, Nat.le_of_ble_eq_true rfl⟩) hP hK hN [0, 1, 2, 3, 4, 5, 6, 7, 8, 9, 10, 11, 12, 13, 14, 15, 16, 17, 18, 19, 20, 21, 22, 23, 24, 25] rfl 0 10 rfl rfl rfl hl.1 rfl (Nat.le_of_ble_eq_true rfl) dX10_asked_19 ⟨Nat.le_of_ble_eq_true rfl, Nat.le_of_ble_eq_true rfl⟩ (fun r5 h6 => ?_)
      have h6 : (-1 ≤ r5.toInt) ∧ (r5.toInt ≤ 47) ∧ (whr mtop t r5) := h6
      obtain ⟨h6_0, h6_1, h6_2⟩ := h6
      refine lv_istore_n (lv' := [(3, .int r5), (0, .ref (b 39)), (1, .int t), (2, .int ro)]) hx hb dX10_asked_22 rfl hl (by decide) rfl (fun ls hl => ?_)
      refine lv_iload_n hx hb dX10_asked_23 rfl (lv_at hl 0 rfl) ?_
      refine lv_iconst (v := (-1)) hx hb dX10_asked_24 (by decide) ?_
      refine lv_icmp_ne (tgt := 32) hx hb dX10_asked_25 (by decide) (fun c7 => ?_) (fun c7 => ?_)
      · have dc7 : 0 ≤ r5.toInt := ka_lo (by omega) (neC rfl (show ((-1) : Int32).toInt = (-1) from rfl) c7)
        refine lv_aload_n hx hb dX10_asked_32 rfl (lv_at hl 1 rfl) ?_
        refine lv_iload_n hx hb dX10_asked_33 rfl (lv_at hl 3 rfl) ?_
        refine lv_iload_n hx hb dX10_asked_34 rfl (lv_at hl 0 rfl) ?_
        refine lv_bipush (v := 6) hx hb dX10_asked_35 (by decide) ?_
        refine lv_idiv hx hb dX10_asked_37 (by decide) ?_
        have f8 : (r5 / 6).toInt = (r5.toInt) / (6) := divC rfl (show (6 : Int32).toInt = 6 from rfl) (by omega) (by omega)
        refine wrV (As := [.int ro, .int (r5 / 6)]) (rest := []) (wr := []) (w2 := (fun u : US => (wMod cI cZ cQ b mday mdoo mdA mdB (u.1 0) mmar mtel mgai mfal mtop mstr mgho mfai mpto mwal mahd mahf mcho mbes mbyt mtxt mpos mtka mtok mdig mnum mfau mrdm mrea mlin mlne mthg mord mbor mbsm mans mand manr mali))) ⟨hx, hb, hml, hown, hts⟩ (k_X10_doorsTo2 l dC dI cI cZ cQ b mday mdoo mdA mdB mfar mmar mtel mgai mfal mtop mstr mgho mfai mpto mwal mahd mahf mcho mbes mbyt mtxt mpos mtka mtok mdig mnum mfau mrdm mrea mlin mlne mthg mord mbor mbsm mans mand manr mali _ ro (r5 / 6) r_mday r_mdoo r_mdA r_mdB r_mmar r_mgai r_mfal r_mtop r_mstr r_mgho r_mfai r_mahd r_mahf r_mcho r_mbyt r_mpos r_mrdm r_mlin r_mthg r_mord r_mans (by omega) (by omega) (by omega) (by omega)) (cwV 2 hts gX10_asked_X10_doorsTo rfl rfl rfl (by decide +kernel) ⟨Nat.le_of_ble_eq_true rfl, Nat.le_of_ble_eq_true rfl⟩) hP hD hS hA hK hN [0, 1, 2, 3, 4, 5, 6, 7, 8, 9, 10, 11, 12, 13, 14, 15, 16, 17, 18, 19, 20, 21, 22, 23, 24, 25] [] [0, 1, 2, 3, 4, 5, 6, 7, 8, 9, 10, 11, 12, 13, 14, 15, 16, 17, 18, 19, 20, 21, 22, 23, 24, 25] rfl rfl (by decide) (by decide) (by decide) (fun _ => rfl) (by decide) 0 10 rfl rfl rfl hl.1 rfl (Nat.le_of_ble_eq_true rfl) dX10_asked_38 ⟨Nat.le_of_ble_eq_true rfl, Nat.le_of_ble_eq_true rfl⟩ (fun r9 u11 H locs h10 hP hD hS => ?_)
        obtain ⟨mfar_c12, emfar_c12⟩ : ∃ f : Nat → Int32, f = (u11.1 0) := ⟨_, rfl⟩
        have hP : va_P (dC, dI) vwCl (wMod cI cZ cQ b mday mdoo mdA mdB mfar_c12 mmar mtel mgai mfal mtop mstr mgho mfai mpto mwal mahd mahf mcho mbes mbyt mtxt mpos mtka mtok mdig mnum mfau mrdm mrea mlin mlne mthg mord mbor mbsm mans mand manr mali) H := by rw [emfar_c12]; exact hP
        have hD : va_D A (wMod cI cZ cQ b mday mdoo mdA mdB mfar_c12 mmar mtel mgai mfal mtop mstr mgho mfai mpto mwal mahd mahf mcho mbes mbyt mtxt mpos mtka mtok mdig mnum mfau mrdm mrea mlin mlne mthg mord mbor mbsm mans mand manr mali) := by rw [emfar_c12]; exact hD
        have h10 : (dsR mdA mdB mdoo.toInt ro (r5 / 6) r9) ∧ (-1 ≤ r9.toInt) ∧ (r9.toInt ≤ 99) := by (try rw [emfar_c12]); exact h10
        obtain ⟨h10_0, h10_1, h10_2⟩ := h10
        refine lv_istore (lv' := [(4, .int r9), (3, .int r5), (0, .ref (b 39)), (1, .int t), (2, .int ro)]) hx hb dX10_asked_41 hl (by decide) rfl (fun ls hl => ?_)
        refine lv_iload hx hb dX10_asked_43 (lv_at hl 0 rfl) ?_
        refine lv_iconst (v := (-1)) hx hb dX10_asked_45 (by decide) ?_
        refine lv_icmp_ne (tgt := 53) hx hb dX10_asked_46 (by decide) (fun c13 => ?_) (fun c13 => ?_)
        · have dc13 : 0 ≤ r9.toInt := ka_lo (by omega) (neC rfl (show ((-1) : Int32).toInt = (-1) from rfl) c13)
          refine lv_iload hx hb dX10_asked_53 (lv_at hl 0 rfl) ?_
          refine lv_iload_n hx hb dX10_asked_55 rfl (lv_at hl 1 rfl) ?_
          refine lv_bipush (v := 6) hx hb dX10_asked_56 (by decide) ?_
          refine lv_irem hx hb dX10_asked_58 (by decide) ?_
          have f14 : (r5 - r5 / 6 * 6).toInt = (r5.toInt) % (6) := remC rfl (show (6 : Int32).toInt = 6 from rfl) (by omega) (by omega)
          refine lv_iadd hx hb dX10_asked_59 ?_
          have f15 : (r9 + (r5 - r5 / 6 * 6)).toInt = (r9.toInt) + ((r5.toInt) % (6)) := addC rfl f14 (by omega) (by omega)
          refine lv_iconst (v := 1) hx hb dX10_asked_60 (by decide) ?_
          refine lv_iadd hx hb dX10_asked_61 ?_
          have f16 : ((r9 + (r5 - r5 / 6 * 6)) + 1).toInt = ((r9.toInt) + ((r5.toInt) % (6))) + (1) := addC f15 (show (1 : Int32).toInt = 1 from rfl) (by omega) (by omega)
          exact W.iret (v := (r9 + (r5 - r5 / 6 * 6)) + 1) hx hb hr (fun tq ht hW => ⟨⟨(r9 + (r5 - r5 / 6 * 6)) + 1, (uS [mfar_c12] 0 (fun _ => 0)), rfl, (show spAskM mdA mdB mdoo mtop t ro ((r9 + (r5 - r5 / 6 * 6)) + 1) from by (try rw [show ((r9 + (r5 - r5 / 6 * 6)) + 1).toInt = ((r9.toInt) + ((r5.toInt) % (6))) + (1) from f16]); (first | exact Or.inl ⟨by omega, rfl⟩ | exact askM_n (by omega) (by assumption) (by assumption) | exact askM_no (by omega) (by assumption) (by omega) (by assumption) (by assumption) (by assumption) | exact askM_ok (by omega) (by assumption) (by omega) (by assumption) (by assumption) (by assumption) (by omega))), by rw [ht]; exact hP, hD⟩, hS.F ht⟩) hS.2.2 dX10_asked_62
        · have dc13 : r9.toInt = (-1) := eqC rfl (show ((-1) : Int32).toInt = (-1) from rfl) c13
          refine lv_iconst (v := (-1)) hx hb dX10_asked_49 (by decide) ?_
          refine lv_goto (tgt := 62) hx hb dX10_asked_50 (by decide) ?_
          exact W.iret (v := (-1)) hx hb hr (fun tq ht hW => ⟨⟨(-1), (uS [mfar_c12] 0 (fun _ => 0)), rfl, (show spAskM mdA mdB mdoo mtop t ro ((-1) : Int32) from by (try rw [show ((-1) : Int32).toInt = (-1) from (show ((-1) : Int32).toInt = (-1) from rfl)]); (first | exact Or.inl ⟨by omega, rfl⟩ | exact askM_n (by omega) (by assumption) (by assumption) | exact askM_no (by omega) (by assumption) (by omega) (by assumption) (by assumption) (by assumption) | exact askM_ok (by omega) (by assumption) (by omega) (by assumption) (by assumption) (by assumption) (by omega))), by rw [ht]; exact hP, hD⟩, hS.F ht⟩) hS.2.2 dX10_asked_62
      · have dc7 : r5.toInt = (-1) := eqC rfl (show ((-1) : Int32).toInt = (-1) from rfl) c7
        refine lv_iconst (v := (-1)) hx hb dX10_asked_28 (by decide) ?_
        refine lv_goto (tgt := 41) hx hb dX10_asked_29 (by decide) ?_
        refine lv_istore (lv' := [(4, .int (-1)), (3, .int r5), (0, .ref (b 39)), (1, .int t), (2, .int ro)]) hx hb dX10_asked_41 hl (by decide) rfl (fun ls hl => ?_)
        refine lv_iload hx hb dX10_asked_43 (lv_at hl 0 rfl) ?_
        refine lv_iconst (v := (-1)) hx hb dX10_asked_45 (by decide) ?_
        refine lv_icmp_ne (tgt := 53) hx hb dX10_asked_46 (by decide) (fun c9 => absurd (by decide) c9) (fun _ => ?_)
        refine lv_iconst (v := (-1)) hx hb dX10_asked_49 (by decide) ?_
        refine lv_goto (tgt := 62) hx hb dX10_asked_50 (by decide) ?_
        exact W.iret (v := (-1)) hx hb hr (fun tq ht hW => ⟨⟨(-1), (uS [mfar] 0 (fun _ => 0)), rfl, (show spAskM mdA mdB mdoo mtop t ro ((-1) : Int32) from by (try rw [show ((-1) : Int32).toInt = (-1) from (show ((-1) : Int32).toInt = (-1) from rfl)]); (first | exact Or.inl ⟨by omega, rfl⟩ | exact askM_n (by omega) (by assumption) (by assumption) | exact askM_no (by omega) (by assumption) (by omega) (by assumption) (by assumption) (by assumption) | exact askM_ok (by omega) (by assumption) (by omega) (by assumption) (by assumption) (by assumption) (by omega))), by rw [ht]; exact hP, hD⟩, hS.F ht⟩) hS.2.2 dX10_asked_62
    · refine lv_if_ne (tgt := 17) hx hb dX10_asked_11 (by decide) (fun c9 => absurd (by decide) c9) (fun _ => ?_)
      refine lv_bipush (v := (-2)) hx hb dX10_asked_14 (by decide) ?_
      exact W.iret (v := (-2)) hx hb hr (fun tq ht hW => ⟨⟨(-2), (uS [mfar] 0 (fun _ => 0)), rfl, (show spAskM mdA mdB mdoo mtop t ro ((-2) : Int32) from by (try rw [show ((-2) : Int32).toInt = (-2) from (show ((-2) : Int32).toInt = (-2) from rfl)]); (first | exact Or.inl ⟨by omega, rfl⟩ | exact askM_n (by omega) (by assumption) (by assumption) | exact askM_no (by omega) (by assumption) (by omega) (by assumption) (by assumption) (by assumption) | exact askM_ok (by omega) (by assumption) (by omega) (by assumption) (by assumption) (by assumption) (by omega))), by rw [ht]; exact hP, hD⟩, hS.F ht⟩) hS.2.2 dX10_asked_16
  · refine lv_if_eq (tgt := 14) hx hb dX10_asked_4 (by decide) (fun _ => ?_) (fun c9 => absurd (by decide) c9)
    refine lv_bipush (v := (-2)) hx hb dX10_asked_14 (by decide) ?_
    exact W.iret (v := (-2)) hx hb hr (fun tq ht hW => ⟨⟨(-2), (uS [mfar] 0 (fun _ => 0)), rfl, (show spAskM mdA mdB mdoo mtop t ro ((-2) : Int32) from by (try rw [show ((-2) : Int32).toInt = (-2) from (show ((-2) : Int32).toInt = (-2) from rfl)]); (first | exact Or.inl ⟨by omega, rfl⟩ | exact askM_n (by omega) (by assumption) (by assumption) | exact askM_no (by omega) (by assumption) (by omega) (by assumption) (by assumption) (by assumption) | exact askM_ok (by omega) (by assumption) (by omega) (by assumption) (by assumption) (by assumption) (by omega))), by rw [ht]; exact hP, hD⟩, hS.F ht⟩) hS.2.2 dX10_asked_16
set_option maxHeartbeats 4000000 in
set_option maxRecDepth 100000 in
theorem k_X1_standingIn2 (l : Launch) (dC : Nat → ClassId) (dI : Nat → Nat → Nat) (cI cZ cQ : ClassId) (a : Nat → Nat) (top : Nat → Int32) (str : Nat → Int32) (gho : Nat → Int32) (ghs : Nat → Int32) (pto : Nat → Int32) (cro : Nat → Int32) (pla : Nat → Int32) (wal : Nat → Int32) (fal : Nat → Int32) (tel : Int32) (gai : Int32) (day : Int32) (mar : Nat → Int32) (ro : Int32) (r_top : rg 48 (-1) (23) top) (r_str : rg 48 (0) (100) str) (r_gho : rg 48 (-1) (23) gho) (r_ghs : rg 48 (0) (100) ghs) (r_cro : rg 48 (0) (6) cro) (r_pla : rg 24 (-1) (47) pla) (r_fal : rg 11 (0) (30) fal) (r_gai : 0 ≤ gai.toInt ∧ gai.toInt ≤ 100) (r_day : 0 ≤ day.toInt ∧ day.toInt ≤ 400) (r_mar : rg 24 (0) (255) mar) (q0 : 0 ≤ ro.toInt) (q1 : ro.toInt ≤ 7) : KR l yX1_standingIn wsX1_standingIn { frames := 0, cells := 0, slots := 0, locals := 0 } (dC, dI) (TY cI cZ cQ) (wCor cI cZ cQ a top str gho ghs pto cro pla wal fal tel gai day mar) [.ref (a 4), .int ro] (fun r : Int32 => (0 ≤ r.toInt) ∧ (r.toInt ≤ 6) ∧ (r.toInt = stF top (ro.toInt * 6).toNat 6)) := by
  refine Met.ofW (cc := cX1_standingIn) (maxL := 5) (ret := (some .int)) (by decide) rfl ?_
  intro p e s m args below meth c s₁ B hml hv
  obtain ⟨rfl, hP, hK, hN⟩ := hv
  have hx := B.exec
  have hb := B.bytes
  have hr := B.returns
  have hts := atoms_spec (ws := wsX1_standingIn) B.pre
  have hown : s.vm.findClass RX1 = some m.cls := findClass_of_methodNamed B.named
  have hlocks := B.notSynchronized
  have lf9 := hts (.fieldLink RX1 9 "PalaceOfRooms$Corners" "top" "[I") (List.mem_cons_of_mem _ (List.mem_append_left _ (List.mem_of_getElem? (i := 0) rfl)))
  have inX1 : ∀ w ∈ wsX10, w ∈ wsX1_standingIn := fun w h => List.mem_cons_of_mem _ (List.mem_append_right _ h)
  have hl := lv_entry ([.ref (a 4), .int ro]) (n := 5) (Nat.le_of_ble_eq_true rfl)
  rw [lg_entry_eq]
  generalize (lg_sl ([.ref (a 4), .int ro]) ++ List.replicate (5 - (lg_sl ([.ref (a 4), .int ro])).length) Slot.unset).toArray = ls at hl ⊢
  have hl : lv_has ls 5 [(0, .ref (a 4)), (1, .int ro)] := hl
  refine lv_iconst (v := 0) hx hb dX1_standingIn_0 (by decide) ?_
  refine lv_istore_n (lv' := [(2, .int 0), (0, .ref (a 4)), (1, .int ro)]) hx hb dX1_standingIn_1 rfl hl (by decide) rfl (fun ls hl => ?_)
  refine lv_iload_n hx hb dX1_standingIn_2 rfl (lv_at hl 2 rfl) ?_
  refine lv_bipush (v := 6) hx hb dX1_standingIn_3 (by decide) ?_
  refine lv_imul hx hb dX1_standingIn_5 ?_
  have f1 : (ro * 6).toInt = (ro.toInt) * (6) := mulC rfl (show (6 : Int32).toInt = 6 from rfl) (by omega) (by omega)
  refine lv_topi (fun x2 ex2 => ?_)
  have ix2 : x2.toInt = (ro.toInt) * (6) := by rw [ex2]; exact f1
  refine lv_istore_n (lv' := [(3, .int x2), (2, .int 0), (0, .ref (a 4)), (1, .int ro)]) hx hb dX1_standingIn_6 rfl hl (by decide) rfl (fun ls hl => ?_)
  refine lv_iload_n hx hb dX1_standingIn_7 rfl (lv_at hl 0 rfl) ?_
  refine lv_istore (lv' := [(4, .int x2), (3, .int x2), (2, .int 0), (0, .ref (a 4)), (1, .int ro)]) hx hb dX1_standingIn_8 hl (by decide) rfl (fun ls hl => ?_)
  have L10 : ∀ (nn : Nat) (y10_2 : Int32) (y10_4 : Int32) (ls : Array Slot), (0 ≤ (y10_4.toInt)) → ((y10_4.toInt) ≤ 48) → ((x2.toInt) ≤ (y10_4.toInt)) → ((y10_4.toInt) ≤ (x2.toInt) + 6) → (0 ≤ (y10_2.toInt)) → ((y10_2.toInt) ≤ 6) → ((y10_2.toInt) ≤ (y10_4.toInt) - (x2.toInt)) → ((y10_2.toInt) = stF top ((x2.toInt)).toNat ((y10_4.toInt) - (x2.toInt)).toNat) → (48 - (y10_4.toInt)).toNat < nn → lv_has ls 5 [(0, .ref (a 4)), (2, .int y10_2), (3, .int x2), (4, .int y10_4)] → W p l e (headSpec wsX1_standingIn { frames := 0, cells := 0, slots := 0, locals := 0 }).room s m ([.ref (a 4), .int ro] : List Value).toArray below meth c s.heap [] 0 0 (MQ below (QR (fun r : Int32 => (0 ≤ r.toInt) ∧ (r.toInt ≤ 6) ∧ (r.toInt = stF top (ro.toInt * 6).toNat 6))) ([.ref (a 4), .int ro] : List Value).toArray s 0 0 (fun _ => False)) (F0 m 10 ls []) := by
    intro nn
    induction nn with
    | zero =>
      intro y10_2 y10_4 ls i10_0 i10_1 i10_2 i10_3 i10_4 i10_5 i10_6 i10_7 hm10
      exact absurd hm10 (Nat.not_lt_zero _)
    | succ nn ih10 =>
      intro y10_2 y10_4 ls i10_0 i10_1 i10_2 i10_3 i10_4 i10_5 i10_6 i10_7 hm10 hl
      refine lv_iload hx hb dX1_standingIn_10 (lv_at hl 3 rfl) ?_
      refine lv_iload_n hx hb dX1_standingIn_12 rfl (lv_at hl 2 rfl) ?_
      refine lv_bipush (v := 6) hx hb dX1_standingIn_13 (by decide) ?_
      refine lv_iadd hx hb dX1_standingIn_15 ?_
      have f3 : (x2 + 6).toInt = (x2.toInt) + (6) := addC rfl (show (6 : Int32).toInt = 6 from rfl) (by omega) (by omega)
      refine lv_icmp_ge (tgt := 39) hx hb dX1_standingIn_16 (by decide) (fun c4 => ?_) (fun c4 => ?_)
      · have dc4 : (x2.toInt) + (6) ≤ y10_4.toInt := leC f3 rfl c4
        refine lv_iload_n hx hb dX1_standingIn_39 rfl (lv_at hl 1 rfl) ?_
        exact W.iret (v := y10_2) hx hb hr (fun tq ht hW => ⟨y10_2, rfl, ⟨(show 0 ≤ y10_2.toInt from by omega), (show y10_2.toInt ≤ 6 from by omega), (show y10_2.toInt = stF top (ro.toInt * 6).toNat 6 from by exact st_end i10_7 (by omega) (by omega))⟩, ht⟩) (fun q h => by cases h) dX1_standingIn_40
      · have dc4 : y10_4.toInt < (x2.toInt) + (6) := nleC f3 rfl c4
        refine lv_aload_n hx hb dX1_standingIn_19 rfl (lv_at hl 0 rfl) ?_
        refine va_get (D := (dC, dI)) (ci := 1) (v := .ref (a 5)) (C := RX1) (T := TX1) (N := 13) hx hb hts inX1 hown hK hP 0 rfl rfl 1 (by decide) lf9 (fun _ h9 => h9) rfl dX1_standingIn_20 ?_
        refine lv_iload hx hb dX1_standingIn_23 (lv_at hl 3 rfl) ?_
        have b5 : vp_in y10_4 48 := inC rfl (by omega) (by omega)
        refine va_iald hx hb hK hP 1 0 rfl rfl b5 dX1_standingIn_25 ?_
        have g6 : -1 ≤ (top y10_4.toNatClampNeg).toInt ∧ (top y10_4.toNatClampNeg).toInt ≤ 23 := rg_at r_top b5
        refine lv_iconst (v := (-1)) hx hb dX1_standingIn_26 (by decide) ?_
        refine lv_icmp_eq (tgt := 33) hx hb dX1_standingIn_27 (by decide) (fun c7 => ?_) (fun c7 => ?_)
        · have dc7 : (top y10_4.toNatClampNeg).toInt = (-1) := eqC rfl (show ((-1) : Int32).toInt = (-1) from rfl) c7
          obtain ⟨z8, ez8⟩ : ∃ y : Int32, y = y10_4 + 1 := ⟨_, rfl⟩
          have iz8 : z8.toInt = y10_4.toInt + 1 := by rw [ez8]; exact addC rfl rfl (by omega) (by omega)
          refine lv_iinc (v := z8) (lv' := [(4, .int z8), (0, .ref (a 4)), (2, .int y10_2), (3, .int x2)]) hx hb dX1_standingIn_33 hl (k := 3) rfl (by rw [ez8]; rfl) (by decide) rfl (fun ls hl => ?_)
          refine lv_goto (tgt := 10) hx hb dX1_standingIn_36 (by decide) ?_
          exact ih10 y10_2 z8 _ (by omega) (by omega) (by omega) (by omega) (by omega) (by omega) (by omega) (by (first | exact st_step (o := y10_4) i10_7 (by rw [clC (x := y10_4) rfl]; omega) (by first | exact Or.inl ⟨by assumption, by first | rfl | omega⟩ | exact Or.inr ⟨by assumption, by omega⟩) (by omega) | exact st_init (by first | rfl | omega) (by omega))) (by omega) (lv_sub hl [1, 2, 3, 0] rfl)
        · have dc7 : 0 ≤ (top y10_4.toNatClampNeg).toInt := ka_lo (by omega) (neC rfl (show ((-1) : Int32).toInt = (-1) from rfl) c7)
          obtain ⟨z9, ez9⟩ : ∃ y : Int32, y = y10_2 + 1 := ⟨_, rfl⟩
          have iz9 : z9.toInt = y10_2.toInt + 1 := by rw [ez9]; exact addC rfl rfl (by omega) (by omega)
          refine lv_iinc (v := z9) (lv' := [(2, .int z9), (0, .ref (a 4)), (3, .int x2), (4, .int y10_4)]) hx hb dX1_standingIn_30 hl (k := 1) rfl (by rw [ez9]; rfl) (by decide) rfl (fun ls hl => ?_)
          obtain ⟨z10, ez10⟩ : ∃ y : Int32, y = y10_4 + 1 := ⟨_, rfl⟩
          have iz10 : z10.toInt = y10_4.toInt + 1 := by rw [ez10]; exact addC rfl rfl (by omega) (by omega)
          refine lv_iinc (v := z10) (lv' := [(4, .int z10), (2, .int z9), (0, .ref (a 4)), (3, .int x2)]) hx hb dX1_standingIn_33 hl (k := 3) rfl (by rw [ez10]; rfl) (by decide) rfl (fun ls hl => ?_)
          refine lv_goto (tgt := 10) hx hb dX1_standingIn_36 (by decide) ?_
          exact ih10 z9 z10 _ (by omega) (by omega) (by omega) (by omega) (by omega) (by omega) (by omega) (by (first | exact st_step (o := y10_4) i10_7 (by rw [clC (x := y10_4) rfl]; omega) (by first | exact Or.inl ⟨by assumption, by first | rfl | omega⟩ | exact Or.inr ⟨by assumption, by omega⟩) (by omega) | exact st_init (by first | rfl | omega) (by omega))) (by omega) (lv_sub hl [2, 1, 3, 0] rfl)
  have kc11 : (0 : Int32).toInt = 0 := rfl
  exact L10 _ 0 x2 _ (by omega) (by omega) (by omega) (by omega) (by omega) (by omega) (by omega) (by (first | exact st_init (by first | rfl | omega) (by omega) | exact st_step (o := y10_4) i10_7 (by rw [clC (x := y10_4) rfl]; omega) (by first | exact Or.inl ⟨by assumption, by first | rfl | omega⟩ | exact Or.inr ⟨by assumption, by omega⟩) (by omega))) (Nat.lt_succ_self _) (lv_sub hl [3, 2, 1, 0] rfl)
set_option maxHeartbeats 4000000 in
set_option maxRecDepth 100000 in
theorem k_X10_standIn2 (l : Launch) (dC : Nat → ClassId) (dI : Nat → Nat → Nat) (cI cZ cQ : ClassId) (b : Nat → Nat) (mday : Int32) (mdoo : Int32) (mdA : Nat → Int32) (mdB : Nat → Int32) (mfar : Nat → Int32) (mmar : Nat → Int32) (mtel : Int32) (mgai : Int32) (mfal : Nat → Int32) (mtop : Nat → Int32) (mstr : Nat → Int32) (mgho : Nat → Int32) (mfai : Nat → Int32) (mpto : Nat → Int32) (mwal : Nat → Int32) (mahd : Nat → Int32) (mahf : Nat → Int32) (mcho : Nat → Int32) (mbes : Nat → Int32) (mbyt : Int32) (mtxt : Nat → Int32) (mpos : Int32) (mtka : Int32) (mtok : Int64) (mdig : Int32) (mnum : Int32) (mfau : Int32) (mrdm : Int32) (mrea : Nat → Int32) (mlin : Int32) (mlne : Nat → Int32) (mthg : Nat → Int32) (mord : Nat → Int32) (mbor : Nat → Int32) (mbsm : Int32) (mans : Nat → Int32) (mand : Nat → Int32) (manr : Nat → Int32) (mali : Nat → Int32) (ro : Int32) (r_mday : 0 ≤ mday.toInt ∧ mday.toInt ≤ 400) (r_mdoo : 0 ≤ mdoo.toInt ∧ mdoo.toInt ≤ 14) (r_mdA : rg 14 (0) (7) mdA) (r_mdB : rg 14 (0) (7) mdB) (r_mmar : rg 24 (0) (255) mmar) (r_mgai : 0 ≤ mgai.toInt ∧ mgai.toInt ≤ 100) (r_mfal : rg 11 (0) (30) mfal) (r_mtop : rg 48 (-1) (23) mtop) (r_mstr : rg 48 (0) (100) mstr) (r_mgho : rg 48 (-1) (23) mgho) (r_mfai : rg 48 (0) (100) mfai) (r_mahd : rg 240 (0) (100) mahd) (r_mahf : rg 240 (0) (100) mahf) (r_mcho : rg 5 (-1) (9) mcho) (r_mbyt : 0 ≤ mbyt.toInt ∧ mbyt.toInt ≤ 160) (r_mpos : 0 ≤ mpos.toInt ∧ mpos.toInt ≤ 160) (r_mrdm : 0 ≤ mrdm.toInt ∧ mrdm.toInt ≤ 10) (r_mlin : 0 ≤ mlin.toInt ∧ mlin.toInt ≤ 10) (r_mthg : rg 8 (0) (31) mthg) (r_mord : rg 8 (-1) (8) mord) (r_mans : rg 4 (0) (12) mans) (q0 : 0 ≤ ro.toInt) (q1 : ro.toInt ≤ 7) : KR l yX10_standIn wsX10_standIn { frames := 0, cells := 0, slots := 0, locals := 0 } (dC, dI) (TY cI cZ cQ) (wMod cI cZ cQ b mday mdoo mdA mdB mfar mmar mtel mgai mfal mtop mstr mgho mfai mpto mwal mahd mahf mcho mbes mbyt mtxt mpos mtka mtok mdig mnum mfau mrdm mrea mlin mlne mthg mord mbor mbsm mans mand manr mali) [.ref (b 39), .int ro] (fun r : Int32 => (0 ≤ r.toInt) ∧ (r.toInt ≤ 6) ∧ (r.toInt = stF mtop (ro.toInt * 6).toNat 6)) := by
  refine Met.ofW (cc := cX10_standIn) (maxL := 4) (ret := (some .int)) (by decide) rfl ?_
  intro p e s m args below meth c s₁ B hml hv
  obtain ⟨rfl, hP, hK, hN⟩ := hv
  have hx := B.exec
  have hb := B.bytes
  have hr := B.returns
  have hts := atoms_spec (ws := wsX10_standIn) B.pre
  have hown : s.vm.findClass RX10 = some m.cls := findClass_of_methodNamed B.named
  have hlocks := B.notSynchronized
  have lf32 := hts (.fieldLink RX10 32 "PalaceOfRoomsModel" "top" "[I") (List.mem_cons_of_mem _ (List.mem_append_left _ (List.mem_of_getElem? (i := 0) rfl)))
  have inX10 : ∀ w ∈ wsX100, w ∈ wsX10_standIn := fun w h => List.mem_cons_of_mem _ (List.mem_append_right _ h)
  have hl := lv_entry ([.ref (b 39), .int ro]) (n := 4) (Nat.le_of_ble_eq_true rfl)
  rw [lg_entry_eq]
  generalize (lg_sl ([.ref (b 39), .int ro]) ++ List.replicate (4 - (lg_sl ([.ref (b 39), .int ro])).length) Slot.unset).toArray = ls at hl ⊢
  have hl : lv_has ls 4 [(0, .ref (b 39)), (1, .int ro)] := hl
  refine lv_iconst (v := 0) hx hb dX10_standIn_0 (by decide) ?_
  refine lv_istore_n (lv' := [(2, .int 0), (0, .ref (b 39)), (1, .int ro)]) hx hb dX10_standIn_1 rfl hl (by decide) rfl (fun ls hl => ?_)
  refine lv_bipush (v := 6) hx hb dX10_standIn_2 (by decide) ?_
  refine lv_iload_n hx hb dX10_standIn_4 rfl (lv_at hl 2 rfl) ?_
  refine lv_imul hx hb dX10_standIn_5 ?_
  have f1 : (6 * ro).toInt = (6) * (ro.toInt) := mulC (show (6 : Int32).toInt = 6 from rfl) rfl (by omega) (by omega)
  refine lv_topi (fun x2 ex2 => ?_)
  have ix2 : x2.toInt = (6) * (ro.toInt) := by rw [ex2]; exact f1
  refine lv_istore_n (lv' := [(3, .int x2), (2, .int 0), (0, .ref (b 39)), (1, .int ro)]) hx hb dX10_standIn_6 rfl hl (by decide) rfl (fun ls hl => ?_)
  have L7 : ∀ (nn : Nat) (y7_2 : Int32) (y7_3 : Int32) (ls : Array Slot), (0 ≤ (y7_3.toInt)) → ((y7_3.toInt) ≤ 48) → (6 * ro.toInt ≤ (y7_3.toInt)) → ((y7_3.toInt) ≤ 6 * ro.toInt + 6) → (0 ≤ (y7_2.toInt)) → ((y7_2.toInt) ≤ 6) → ((y7_2.toInt) ≤ (y7_3.toInt) - 6 * ro.toInt) → ((y7_2.toInt) = stF mtop (6 * ro.toInt).toNat ((y7_3.toInt) - 6 * ro.toInt).toNat) → (48 - (y7_3.toInt)).toNat < nn → lv_has ls 4 [(0, .ref (b 39)), (1, .int ro), (2, .int y7_2), (3, .int y7_3)] → W p l e (headSpec wsX10_standIn { frames := 0, cells := 0, slots := 0, locals := 0 }).room s m ([.ref (b 39), .int ro] : List Value).toArray below meth c s.heap [] 0 0 (MQ below (QR (fun r : Int32 => (0 ≤ r.toInt) ∧ (r.toInt ≤ 6) ∧ (r.toInt = stF mtop (ro.toInt * 6).toNat 6))) ([.ref (b 39), .int ro] : List Value).toArray s 0 0 (fun _ => False)) (F0 m 7 ls []) := by
    intro nn
    induction nn with
    | zero =>
      intro y7_2 y7_3 ls i7_0 i7_1 i7_2 i7_3 i7_4 i7_5 i7_6 i7_7 hm7
      exact absurd hm7 (Nat.not_lt_zero _)
    | succ nn ih7 =>
      intro y7_2 y7_3 ls i7_0 i7_1 i7_2 i7_3 i7_4 i7_5 i7_6 i7_7 hm7 hl
      refine lv_iload_n hx hb dX10_standIn_7 rfl (lv_at hl 3 rfl) ?_
      refine lv_bipush (v := 6) hx hb dX10_standIn_8 (by decide) ?_
      refine lv_iload_n hx hb dX10_standIn_10 rfl (lv_at hl 1 rfl) ?_
      refine lv_imul hx hb dX10_standIn_11 ?_
      have f3 : (6 * ro).toInt = (6) * (ro.toInt) := mulC (show (6 : Int32).toInt = 6 from rfl) rfl (by omega) (by omega)
      refine lv_bipush (v := 6) hx hb dX10_standIn_12 (by decide) ?_
      refine lv_iadd hx hb dX10_standIn_14 ?_
      have f4 : ((6 * ro) + 6).toInt = ((6) * (ro.toInt)) + (6) := addC f3 (show (6 : Int32).toInt = 6 from rfl) (by omega) (by omega)
      refine lv_icmp_ge (tgt := 42) hx hb dX10_standIn_15 (by decide) (fun c5 => ?_) (fun c5 => ?_)
      · have dc5 : ((6) * (ro.toInt)) + (6) ≤ y7_3.toInt := leC f4 rfl c5
        refine lv_iload_n hx hb dX10_standIn_42 rfl (lv_at hl 2 rfl) ?_
        exact W.iret (v := y7_2) hx hb hr (fun tq ht hW => ⟨y7_2, rfl, ⟨(show 0 ≤ y7_2.toInt from by omega), (show y7_2.toInt ≤ 6 from by omega), (show y7_2.toInt = stF mtop (ro.toInt * 6).toNat 6 from by exact st_end i7_7 (by omega) (by omega))⟩, ht⟩) (fun q h => by cases h) dX10_standIn_43
      · have dc5 : y7_3.toInt < ((6) * (ro.toInt)) + (6) := nleC f4 rfl c5
        refine lv_iload_n hx hb dX10_standIn_18 rfl (lv_at hl 2 rfl) ?_
        refine lv_aload_n hx hb dX10_standIn_19 rfl (lv_at hl 0 rfl) ?_
        refine va_get (D := (dC, dI)) (ci := 10) (v := .ref (b 9)) (C := RX10) (T := TX10) (N := 39) hx hb hts inX10 hown hK hP 0 rfl rfl 9 (by decide) lf32 (fun _ h9 => h9) rfl dX10_standIn_20 ?_
        refine lv_iload_n hx hb dX10_standIn_23 rfl (lv_at hl 3 rfl) ?_
        have b6 : vp_in y7_3 48 := inC rfl (by omega) (by omega)
        refine va_iald hx hb hK hP 6 0 rfl rfl b6 dX10_standIn_24 ?_
        have g7 : -1 ≤ (mtop y7_3.toNatClampNeg).toInt ∧ (mtop y7_3.toNatClampNeg).toInt ≤ 23 := rg_at r_mtop b6
        refine lv_iconst (v := (-1)) hx hb dX10_standIn_25 (by decide) ?_
        refine lv_icmp_ne (tgt := 33) hx hb dX10_standIn_26 (by decide) (fun c8 => ?_) (fun c8 => ?_)
        · have dc8 : 0 ≤ (mtop y7_3.toNatClampNeg).toInt := ka_lo (by omega) (neC rfl (show ((-1) : Int32).toInt = (-1) from rfl) c8)
          refine lv_iconst (v := 1) hx hb dX10_standIn_33 (by decide) ?_
          refine lv_iadd hx hb dX10_standIn_34 ?_
          have f9 : (y7_2 + 1).toInt = (y7_2.toInt) + (1) := addC rfl (show (1 : Int32).toInt = 1 from rfl) (by omega) (by omega)
          refine lv_topi (fun x10 ex10 => ?_)
          have ix10 : x10.toInt = (y7_2.toInt) + (1) := by rw [ex10]; exact f9
          refine lv_istore_n (lv' := [(2, .int x10), (0, .ref (b 39)), (1, .int ro), (3, .int y7_3)]) hx hb dX10_standIn_35 rfl hl (by decide) rfl (fun ls hl => ?_)
          obtain ⟨z11, ez11⟩ : ∃ y : Int32, y = y7_3 + 1 := ⟨_, rfl⟩
          have iz11 : z11.toInt = y7_3.toInt + 1 := by rw [ez11]; exact addC rfl rfl (by omega) (by omega)
          refine lv_iinc (v := z11) (lv' := [(3, .int z11), (2, .int x10), (0, .ref (b 39)), (1, .int ro)]) hx hb dX10_standIn_36 hl (k := 3) rfl (by rw [ez11]; rfl) (by decide) rfl (fun ls hl => ?_)
          refine lv_goto (tgt := 7) hx hb dX10_standIn_39 (by decide) ?_
          exact ih7 x10 z11 _ (by omega) (by omega) (by omega) (by omega) (by omega) (by omega) (by omega) (by (first | exact st_step (o := y7_3) i7_7 (by rw [clC (x := y7_3) rfl]; omega) (by first | exact Or.inl ⟨by assumption, by first | rfl | omega⟩ | exact Or.inr ⟨by assumption, by omega⟩) (by omega) | exact st_init (by first | rfl | omega) (by omega))) (by omega) (lv_sub hl [2, 3, 1, 0] rfl)
        · have dc8 : (mtop y7_3.toNatClampNeg).toInt = (-1) := eqC rfl (show ((-1) : Int32).toInt = (-1) from rfl) c8
          refine lv_iconst (v := 0) hx hb dX10_standIn_29 (by decide) ?_
          refine lv_goto (tgt := 34) hx hb dX10_standIn_30 (by decide) ?_
          refine lv_iadd hx hb dX10_standIn_34 ?_
          have f12 : (y7_2 + 0).toInt = (y7_2.toInt) + (0) := addC rfl (show (0 : Int32).toInt = 0 from rfl) (by omega) (by omega)
          refine lv_topi (fun x13 ex13 => ?_)
          have ix13 : x13.toInt = (y7_2.toInt) + (0) := by rw [ex13]; exact f12
          refine lv_istore_n (lv' := [(2, .int x13), (0, .ref (b 39)), (1, .int ro), (3, .int y7_3)]) hx hb dX10_standIn_35 rfl hl (by decide) rfl (fun ls hl => ?_)
          obtain ⟨z14, ez14⟩ : ∃ y : Int32, y = y7_3 + 1 := ⟨_, rfl⟩
          have iz14 : z14.toInt = y7_3.toInt + 1 := by rw [ez14]; exact addC rfl rfl (by omega) (by omega)
          refine lv_iinc (v := z14) (lv' := [(3, .int z14), (2, .int x13), (0, .ref (b 39)), (1, .int ro)]) hx hb dX10_standIn_36 hl (k := 3) rfl (by rw [ez14]; rfl) (by decide) rfl (fun ls hl => ?_)
          refine lv_goto (tgt := 7) hx hb dX10_standIn_39 (by decide) ?_
          exact ih7 x13 z14 _ (by omega) (by omega) (by omega) (by omega) (by omega) (by omega) (by omega) (by (first | exact st_step (o := y7_3) i7_7 (by rw [clC (x := y7_3) rfl]; omega) (by first | exact Or.inl ⟨by assumption, by first | rfl | omega⟩ | exact Or.inr ⟨by assumption, by omega⟩) (by omega) | exact st_init (by first | rfl | omega) (by omega))) (by omega) (lv_sub hl [2, 3, 1, 0] rfl)
  have kc15 : (0 : Int32).toInt = 0 := rfl
  exact L7 _ 0 x2 _ (by omega) (by omega) (by omega) (by omega) (by omega) (by omega) (by omega) (by (first | exact st_init (by first | rfl | omega) (by omega) | exact st_step (o := y7_3) i7_7 (by rw [clC (x := y7_3) rfl]; omega) (by first | exact Or.inl ⟨by assumption, by first | rfl | omega⟩ | exact Or.inr ⟨by assumption, by omega⟩) (by omega))) (Nat.lt_succ_self _) (lv_sub hl [2, 3, 1, 0] rfl)
set_option maxHeartbeats 4000000 in
set_option maxRecDepth 100000 in
theorem k_X3_costOf2 (l : Launch) (dC : Nat → ClassId) (dI : Nat → Nat → Nat) (cI cZ cQ : ClassId) (a : Nat → Nat) (min : Nat → Int32) (tri : Nat → Int32) (bes : Nat → Int32) (wkd : Nat → Int32) (cos : Nat → Int32) (rst : Nat → Int32) (bst : Int32) (top : Nat → Int32) (str : Nat → Int32) (gho : Nat → Int32) (ghs : Nat → Int32) (pto : Nat → Int32) (cro : Nat → Int32) (pla : Nat → Int32) (wal : Nat → Int32) (fal : Nat → Int32) (tel : Int32) (gai : Int32) (day : Int32) (mar : Nat → Int32) (few : Nat → Int32) (doo : Int32) (ro : Int32) (r_wkd : rg 8 (0) (15) wkd) (r_top : rg 48 (-1) (23) top) (r_str : rg 48 (0) (100) str) (r_gho : rg 48 (-1) (23) gho) (r_ghs : rg 48 (0) (100) ghs) (r_cro : rg 48 (0) (6) cro) (r_pla : rg 24 (-1) (47) pla) (r_fal : rg 11 (0) (30) fal) (r_gai : 0 ≤ gai.toInt ∧ gai.toInt ≤ 100) (r_day : 0 ≤ day.toInt ∧ day.toInt ≤ 400) (r_mar : rg 24 (0) (255) mar) (q0 : 0 ≤ ro.toInt) (q1 : ro.toInt ≤ 7) (q2 : mtOK few) : KR l yX3_costOf wsX3_costOf { frames := 1, cells := 0, slots := 0, locals := 24 } (dC, dI) (TY cI cZ cQ) (wPln cI cZ cQ a min tri bes wkd cos rst bst top str gho ghs pto cro pla wal fal tel gai day mar few doo) [.ref (a 16), .int ro] (fun r : Int32 => (-1 ≤ r.toInt) ∧ (r.toInt ≤ 20) ∧ (coC few top ro r)) := by
  refine Met.ofW (cc := cX3_costOf) (maxL := 3) (ret := (some .int)) (by decide) rfl ?_
  intro p e s m args below meth c s₁ B hml hv
  obtain ⟨rfl, hP, hK, hN⟩ := hv
  have hx := B.exec
  have hb := B.bytes
  have hr := B.returns
  have hts := atoms_spec (ws := wsX3_costOf) B.pre
  have hown : s.vm.findClass RX3 = some m.cls := findClass_of_methodNamed B.named
  have hlocks := B.notSynchronized
  have lf34 := hts (.fieldLink RX3 34 "PalaceOfRooms$Planner" "ways" "LPalaceOfRooms$Ways;") (List.mem_cons_of_mem _ (List.mem_append_left _ (List.mem_append_left _ (List.mem_append_left _ (List.mem_of_getElem? (i := 0) rfl)))))
  have inX3 : ∀ w ∈ wsX30, w ∈ wsX3_costOf := fun w h => List.mem_cons_of_mem _ (List.mem_append_left _ (List.mem_append_left _ (List.mem_append_right _ h)))
  have lf30 := hts (.fieldLink RX3 30 "PalaceOfRooms$Planner" "corners" "LPalaceOfRooms$Corners;") (List.mem_cons_of_mem _ (List.mem_append_left _ (List.mem_append_left _ (List.mem_append_left _ (List.mem_of_getElem? (i := 1) rfl)))))
  have hl := lv_entry ([.ref (a 16), .int ro]) (n := 3) (Nat.le_of_ble_eq_true rfl)
  rw [lg_entry_eq]
  generalize (lg_sl ([.ref (a 16), .int ro]) ++ List.replicate (3 - (lg_sl ([.ref (a 16), .int ro])).length) Slot.unset).toArray = ls at hl ⊢
  have hl : lv_has ls 3 [(0, .ref (a 16)), (1, .int ro)] := hl
  refine lv_aload_n hx hb dX3_costOf_0 rfl (lv_at hl 0 rfl) ?_
  refine va_get (D := (dC, dI)) (ci := 3) (v := .ref (a 0)) (C := RX3) (T := TX3) (N := 9) hx hb hts inX3 hown hK hP 0 rfl rfl 1 (by decide) lf34 (fun _ h9 => h9) rfl dX3_costOf_1 ?_
  refine lv_iconst (v := 0) hx hb dX3_costOf_4 (by decide) ?_
  refine lv_iload_n hx hb dX3_costOf_5 rfl (lv_at hl 1 rfl) ?_
  have kc0 : (0 : Int32).toInt = 0 := rfl
  refine rdV (As := [.int 0, .int ro]) (rest := []) ⟨hx, hb, hml, hown, hts⟩ (k_X8_between3 l dC dI cI cZ cQ a few doo (0 : Int32) ro (by omega) (by omega) (by omega) (by omega) (by exact q2)) (cwV 2 hts gX3_costOf_X8_between rfl rfl rfl (by decide +kernel) ⟨Nat.le_of_ble_eq_true rfl, Nat.le_of_ble_eq_true rfl⟩) hP hK hN [19, 20] rfl 19 8 rfl rfl rfl hl.1 rfl (Nat.le_of_ble_eq_true rfl) dX3_costOf_6 ⟨Nat.le_of_ble_eq_true rfl, Nat.le_of_ble_eq_true rfl⟩ (fun r1 h2 => ?_)
  have h2 : (r1 = few ((0) * 8 + ro.toInt).toNat) ∧ (-1 ≤ r1.toInt) ∧ (r1.toInt ≤ 7) := h2
  obtain ⟨h2_0, h2_1, h2_2⟩ := h2
  refine lv_istore_n (lv' := [(2, .int r1), (0, .ref (a 16)), (1, .int ro)]) hx hb dX3_costOf_9 rfl hl (by decide) rfl (fun ls hl => ?_)
  refine lv_iload_n hx hb dX3_costOf_10 rfl (lv_at hl 0 rfl) ?_
  refine lv_iconst (v := (-1)) hx hb dX3_costOf_11 (by decide) ?_
  refine lv_icmp_ne (tgt := 19) hx hb dX3_costOf_12 (by decide) (fun c3 => ?_) (fun c3 => ?_)
  · have dc3 : 0 ≤ r1.toInt := ka_lo (by omega) (neC rfl (show ((-1) : Int32).toInt = (-1) from rfl) c3)
    refine lv_iconst (v := 2) hx hb dX3_costOf_19 (by decide) ?_
    refine lv_iload_n hx hb dX3_costOf_20 rfl (lv_at hl 0 rfl) ?_
    refine lv_imul hx hb dX3_costOf_21 ?_
    have f4 : (2 * r1).toInt = (2) * (r1.toInt) := mulC (show (2 : Int32).toInt = 2 from rfl) rfl (by omega) (by omega)
    refine lv_aload_n hx hb dX3_costOf_22 rfl (lv_at hl 1 rfl) ?_
    refine va_get (D := (dC, dI)) (ci := 3) (v := .ref (a 4)) (C := RX3) (T := TX3) (N := 9) hx hb hts inX3 hown hK hP 0 rfl rfl 0 (by decide) lf30 (fun _ h9 => h9) rfl dX3_costOf_23 ?_
    refine lv_iload_n hx hb dX3_costOf_26 rfl (lv_at hl 2 rfl) ?_
    refine rdV (As := [.int ro]) (rest := [.int (2 * r1)]) ⟨hx, hb, hml, hown, hts⟩ (k_X1_standingIn2 l dC dI cI cZ cQ a top str gho ghs pto cro pla wal fal tel gai day mar ro r_top r_str r_gho r_ghs r_cro r_pla r_fal r_gai r_day r_mar (by omega) (by omega)) (cwV 1 hts gX3_costOf_X1_standingIn rfl rfl rfl (by decide +kernel) ⟨Nat.le_of_ble_eq_true rfl, Nat.le_of_ble_eq_true rfl⟩) hP hK hN [7, 8, 9, 10, 11, 12, 13, 14, 15, 16, 17, 18] rfl 7 1 rfl rfl rfl hl.1 rfl (Nat.le_of_ble_eq_true rfl) dX3_costOf_27 ⟨Nat.le_of_ble_eq_true rfl, Nat.le_of_ble_eq_true rfl⟩ (fun r5 h6 => ?_)
    have h6 : (0 ≤ r5.toInt) ∧ (r5.toInt ≤ 6) ∧ (r5.toInt = stF top (ro.toInt * 6).toNat 6) := h6
    obtain ⟨h6_0, h6_1, h6_2⟩ := h6
    refine lv_iadd hx hb dX3_costOf_30 ?_
    have f7 : ((2 * r1) + r5).toInt = ((2) * (r1.toInt)) + (r5.toInt) := addC f4 rfl (by omega) (by omega)
    exact W.iret (v := (2 * r1) + r5) hx hb hr (fun tq ht hW => ⟨(2 * r1) + r5, rfl, ⟨(show -1 ≤ ((2 * r1) + r5).toInt from by (try rw [show ((2 * r1) + r5).toInt = ((2) * (r1.toInt)) + (r5.toInt) from f7]); omega), (show ((2 * r1) + r5).toInt ≤ 20 from by (try rw [show ((2 * r1) + r5).toInt = ((2) * (r1.toInt)) + (r5.toInt) from f7]); omega), (show coC few top ro ((2 * r1) + r5) from by (try rw [show ((2 * r1) + r5).toInt = ((2) * (r1.toInt)) + (r5.toInt) from f7]); (first | exact coC_no (by assumption) (by first | rfl | omega) (by assumption) | exact coC_ok (by assumption) (by first | rfl | omega) (by assumption) (by assumption) (by omega)))⟩, ht⟩) (fun q h => by cases h) dX3_costOf_31
  · have dc3 : r1.toInt = (-1) := eqC rfl (show ((-1) : Int32).toInt = (-1) from rfl) c3
    refine lv_iconst (v := (-1)) hx hb dX3_costOf_15 (by decide) ?_
    refine lv_goto (tgt := 31) hx hb dX3_costOf_16 (by decide) ?_
    exact W.iret (v := (-1)) hx hb hr (fun tq ht hW => ⟨(-1), rfl, ⟨(show -1 ≤ ((-1) : Int32).toInt from by (try rw [show ((-1) : Int32).toInt = (-1) from (show ((-1) : Int32).toInt = (-1) from rfl)]); omega), (show ((-1) : Int32).toInt ≤ 20 from by (try rw [show ((-1) : Int32).toInt = (-1) from (show ((-1) : Int32).toInt = (-1) from rfl)]); omega), (show coC few top ro ((-1) : Int32) from by (try rw [show ((-1) : Int32).toInt = (-1) from (show ((-1) : Int32).toInt = (-1) from rfl)]); (first | exact coC_no (by assumption) (by first | rfl | omega) (by assumption) | exact coC_ok (by assumption) (by first | rfl | omega) (by assumption) (by assumption) (by omega)))⟩, ht⟩) (fun q h => by cases h) dX3_costOf_31
set_option maxHeartbeats 4000000 in
set_option maxRecDepth 100000 in
theorem k_X9_cost2 (l : Launch) (dC : Nat → ClassId) (dI : Nat → Nat → Nat) (cI cZ cQ : ClassId) (a : Nat → Nat) (rb0 : Nat) (rb1 : Nat) (rb2 : Nat) (db0 : Nat) (db1 : Nat) (db2 : Nat) (min : Nat → Int32) (tri : Nat → Int32) (bes : Nat → Int32) (wkd : Nat → Int32) (cos : Nat → Int32) (rst : Nat → Int32) (bst : Int32) (top : Nat → Int32) (str : Nat → Int32) (gho : Nat → Int32) (ghs : Nat → Int32) (pto : Nat → Int32) (cro : Nat → Int32) (pla : Nat → Int32) (wal : Nat → Int32) (fal : Nat → Int32) (tel : Int32) (gai : Int32) (day : Int32) (mar : Nat → Int32) (few : Nat → Int32) (doo : Int32) (ro : Int32) (r_wkd : rg 8 (0) (15) wkd) (r_top : rg 48 (-1) (23) top) (r_str : rg 48 (0) (100) str) (r_gho : rg 48 (-1) (23) gho) (r_ghs : rg 48 (0) (100) ghs) (r_cro : rg 48 (0) (6) cro) (r_pla : rg 24 (-1) (47) pla) (r_fal : rg 11 (0) (30) fal) (r_gai : 0 ≤ gai.toInt ∧ gai.toInt ≤ 100) (r_day : 0 ≤ day.toInt ∧ day.toInt ≤ 400) (r_mar : rg 24 (0) (255) mar) (q0 : mtOK few) : KR l yX9_cost wsX9_cost { frames := 2, cells := 0, slots := 0, locals := 46 } (dC, dI) (TY cI cZ cQ) (wsPl cI cZ cQ a rb0 rb1 rb2 db0 db1 db2 min tri bes wkd cos rst bst top str gho ghs pto cro pla wal fal tel gai day mar few doo) [.ref (a 43), .int ro] (fun r : Int32 => (spCstC few top ro r)) := by
  refine Met.ofW (cc := cX9_cost) (maxL := 2) (ret := (some .int)) (by decide) rfl ?_
  intro p e s m args below meth c s₁ B hml hv
  obtain ⟨rfl, hP, hK, hN⟩ := hv
  have hx := B.exec
  have hb := B.bytes
  have hr := B.returns
  have hts := atoms_spec (ws := wsX9_cost) B.pre
  have hown : s.vm.findClass RX9 = some m.cls := findClass_of_methodNamed B.named
  have hlocks := B.notSynchronized
  have lf44 := hts (.fieldLink RX9 44 "PalaceOfRooms" "planner" "LPalaceOfRooms$Planner;") (List.mem_cons_of_mem _ (List.mem_append_left _ (List.mem_append_left _ (List.mem_append_left _ (List.mem_append_left _ (List.mem_append_left _ (List.mem_of_getElem? (i := 0) rfl)))))))
  have inX9 : ∀ w ∈ wsX90, w ∈ wsX9_cost := fun w h => List.mem_cons_of_mem _ (List.mem_append_left _ (List.mem_append_left _ (List.mem_append_left _ (List.mem_append_right _ h))))
  have hl := lv_entry ([.ref (a 43), .int ro]) (n := 2) (Nat.le_of_ble_eq_true rfl)
  rw [lg_entry_eq]
  generalize (lg_sl ([.ref (a 43), .int ro]) ++ List.replicate (2 - (lg_sl ([.ref (a 43), .int ro])).length) Slot.unset).toArray = ls at hl ⊢
  have hl : lv_has ls 2 [(0, .ref (a 43)), (1, .int ro)] := hl
  refine lv_iload_n hx hb dX9_cost_0 rfl (lv_at hl 1 rfl) ?_
  refine rdS (As := [.int ro]) (rest := []) ⟨hx, hb, hml, hown, hts⟩ (k_X9_isRoom l dC dI cI cZ cQ ro) (va_cwS 1 hts gX9_cost_X9_isRoom rfl rfl rfl (by decide +kernel) ⟨Nat.le_of_ble_eq_true rfl, Nat.le_of_ble_eq_true rfl⟩) hP hK hN [] rfl rfl hl.1 rfl (Nat.le_of_ble_eq_true rfl) dX9_cost_1 ⟨Nat.le_of_ble_eq_true rfl, Nat.le_of_ble_eq_true rfl⟩ (fun r1 h2 => ?_)
  have h2 : ((((r1 = 1) ∧ (0 ≤ ro.toInt) ∧ (ro.toInt ≤ 7)) ∨ ((r1 = 0) ∧ (ro.toInt < 0 ∨ 7 < ro.toInt)))) := h2
  rcases h2 with (⟨rfl, h2_a0, h2_a1⟩ | ⟨rfl, h2_a0⟩)
  · refine lv_if_eq (tgt := 18) hx hb dX9_cost_4 (by decide) (fun c9 => absurd c9 (by decide)) (fun _ => ?_)
    refine lv_aload_n hx hb dX9_cost_7 rfl (lv_at hl 0 rfl) ?_
    refine va_get (D := (dC, dI)) (ci := 9) (v := .ref (a 16)) (C := RX9) (T := TX9) (N := 11) hx hb hts inX9 hown hK hP 0 rfl rfl 4 (by decide) lf44 (fun _ h9 => h9) rfl dX9_cost_8 ?_
    refine lv_iload_n hx hb dX9_cost_11 rfl (lv_at hl 1 rfl) ?_
    refine rdV (As := [.int ro]) (rest := []) ⟨hx, hb, hml, hown, hts⟩ (k_X3_costOf2 l dC dI cI cZ cQ a min tri bes wkd cos rst bst top str gho ghs pto cro pla wal fal tel gai day mar few doo ro r_wkd r_top r_str r_gho r_ghs r_cro r_pla r_fal r_gai r_day r_mar (by omega) (by omega) (by exact q0)) (cwV 1 hts gX9_cost_X3_costOf rfl rfl rfl (by decide +kernel) ⟨Nat.le_of_ble_eq_true rfl, Nat.le_of_ble_eq_true rfl⟩) hP hK hN [1, 2, 3, 4, 5, 6, 7, 8, 9, 10, 11, 12, 13, 14, 15, 16, 17, 18, 19, 20, 21] rfl 1 3 rfl rfl rfl hl.1 rfl (Nat.le_of_ble_eq_true rfl) dX9_cost_12 ⟨Nat.le_of_ble_eq_true rfl, Nat.le_of_ble_eq_true rfl⟩ (fun r3 h4 => ?_)
    have h4 : (-1 ≤ r3.toInt) ∧ (r3.toInt ≤ 20) ∧ (coC few top ro r3) := h4
    obtain ⟨h4_0, h4_1, h4_2⟩ := h4
    refine lv_goto (tgt := 20) hx hb dX9_cost_15 (by decide) ?_
    exact W.iret (v := r3) hx hb hr (fun tq ht hW => ⟨r3, rfl, (show spCstC few top ro r3 from by (first | exact Or.inl ⟨by omega, rfl⟩ | exact Or.inr ⟨by omega, by assumption⟩)), ht⟩) (fun q h => by cases h) dX9_cost_20
  · refine lv_if_eq (tgt := 18) hx hb dX9_cost_4 (by decide) (fun _ => ?_) (fun c9 => absurd (by decide) c9)
    refine lv_bipush (v := (-2)) hx hb dX9_cost_18 (by decide) ?_
    exact W.iret (v := (-2)) hx hb hr (fun tq ht hW => ⟨(-2), rfl, (show spCstC few top ro ((-2) : Int32) from by (try rw [show ((-2) : Int32).toInt = (-2) from (show ((-2) : Int32).toInt = (-2) from rfl)]); (first | exact Or.inl ⟨by omega, rfl⟩ | exact Or.inr ⟨by omega, by assumption⟩)), ht⟩) (fun q h => by cases h) dX9_cost_20
set_option maxHeartbeats 4000000 in
set_option maxRecDepth 100000 in
theorem k_X10_costOf2 (l : Launch) (dC : Nat → ClassId) (dI : Nat → Nat → Nat) (cI cZ cQ : ClassId) (b : Nat → Nat) (mday : Int32) (mdoo : Int32) (mdA : Nat → Int32) (mdB : Nat → Int32) (mfar : Nat → Int32) (mmar : Nat → Int32) (mtel : Int32) (mgai : Int32) (mfal : Nat → Int32) (mtop : Nat → Int32) (mstr : Nat → Int32) (mgho : Nat → Int32) (mfai : Nat → Int32) (mpto : Nat → Int32) (mwal : Nat → Int32) (mahd : Nat → Int32) (mahf : Nat → Int32) (mcho : Nat → Int32) (mbes : Nat → Int32) (mbyt : Int32) (mtxt : Nat → Int32) (mpos : Int32) (mtka : Int32) (mtok : Int64) (mdig : Int32) (mnum : Int32) (mfau : Int32) (mrdm : Int32) (mrea : Nat → Int32) (mlin : Int32) (mlne : Nat → Int32) (mthg : Nat → Int32) (mord : Nat → Int32) (mbor : Nat → Int32) (mbsm : Int32) (mans : Nat → Int32) (mand : Nat → Int32) (manr : Nat → Int32) (mali : Nat → Int32) (sz : Nat) (ro : Int32) (r_mday : 0 ≤ mday.toInt ∧ mday.toInt ≤ 400) (r_mdoo : 0 ≤ mdoo.toInt ∧ mdoo.toInt ≤ 14) (r_mdA : rg 14 (0) (7) mdA) (r_mdB : rg 14 (0) (7) mdB) (r_mmar : rg 24 (0) (255) mmar) (r_mgai : 0 ≤ mgai.toInt ∧ mgai.toInt ≤ 100) (r_mfal : rg 11 (0) (30) mfal) (r_mtop : rg 48 (-1) (23) mtop) (r_mstr : rg 48 (0) (100) mstr) (r_mgho : rg 48 (-1) (23) mgho) (r_mfai : rg 48 (0) (100) mfai) (r_mahd : rg 240 (0) (100) mahd) (r_mahf : rg 240 (0) (100) mahf) (r_mcho : rg 5 (-1) (9) mcho) (r_mbyt : 0 ≤ mbyt.toInt ∧ mbyt.toInt ≤ 160) (r_mpos : 0 ≤ mpos.toInt ∧ mpos.toInt ≤ 160) (r_mrdm : 0 ≤ mrdm.toInt ∧ mrdm.toInt ≤ 10) (r_mlin : 0 ≤ mlin.toInt ∧ mlin.toInt ≤ 10) (r_mthg : rg 8 (0) (31) mthg) (r_mord : rg 8 (-1) (8) mord) (r_mans : rg 4 (0) (12) mans) (q0 : 0 ≤ ro.toInt) (q1 : ro.toInt ≤ 7) : KW l yX10_costOf wsX10_costOf { frames := 1, cells := 0, slots := 0, locals := 26 } (dC, dI) (TY cI cZ cQ) (wMod cI cZ cQ b mday mdoo mdA mdB mfar mmar mtel mgai mfal mtop mstr mgho mfai mpto mwal mahd mahf mcho mbes mbyt mtxt mpos mtka mtok mdig mnum mfau mrdm mrea mlin mlne mthg mord mbor mbsm mans mand manr mali) [.ref (b 39), .int ro] sz 0 0 (fun (r : Int32) (u : US) => (coM mdA mdB mdoo.toInt mtop ro r) ∧ (-1 ≤ r.toInt) ∧ (r.toInt ≤ 204)) (fun u : US => (wMod cI cZ cQ b mday mdoo mdA mdB (u.1 0) mmar mtel mgai mfal mtop mstr mgho mfai mpto mwal mahd mahf mcho mbes mbyt mtxt mpos mtka mtok mdig mnum mfau mrdm mrea mlin mlne mthg mord mbor mbsm mans mand manr mali)) := by
  refine Met.ofW (cc := cX10_costOf) (maxL := 3) (ret := (some .int)) (by decide) rfl ?_
  intro p e s m args below meth c s₁ B hml hv
  obtain ⟨rfl, hsz, hP, hK, hD0, hN⟩ := hv
  have hx := B.exec
  have hb := B.bytes
  have hr := B.returns
  have hts := atoms_spec (ws := wsX10_costOf) B.pre
  have hown : s.vm.findClass RX10 = some m.cls := findClass_of_methodNamed B.named
  have hlocks := B.notSynchronized
  subst hsz
  have hD := hD0.self (sz := s.heap.size)
  generalize hAe : va_A (wMod cI cZ cQ b mday mdoo mdA mdB mfar mmar mtel mgai mfal mtop mstr mgho mfai mpto mwal mahd mahf mcho mbes mbyt mtxt mpos mtka mtok mdig mnum mfau mrdm mrea mlin mlne mthg mord mbor mbsm mans mand manr mali) s.heap.size = A at hD ⊢
  have hA : ∀ q : Nat, s.heap.size ≤ q → A q := fun q h => by rw [← hAe]; exact Or.inr h
  have hS : va_S A s.heap s.heap [] := va_S.rf
  have hl := lv_entry ([.ref (b 39), .int ro]) (n := 3) (Nat.le_of_ble_eq_true rfl)
  rw [lg_entry_eq]
  generalize (lg_sl ([.ref (b 39), .int ro]) ++ List.replicate (3 - (lg_sl ([.ref (b 39), .int ro])).length) Slot.unset).toArray = ls at hl ⊢
  have hl : lv_has ls 3 [(0, .ref (b 39)), (1, .int ro)] := hl
  refine lv_aload_n hx hb dX10_costOf_0 rfl (lv_at hl 0 rfl) ?_
  refine lv_iconst (v := 0) hx hb dX10_costOf_1 (by decide) ?_
  refine lv_iload_n hx hb dX10_costOf_2 rfl (lv_at hl 1 rfl) ?_
  have kc0 : (0 : Int32).toInt = 0 := rfl
  refine wrV (As := [.int 0, .int ro]) (rest := []) (wr := []) (w2 := (fun u : US => (wMod cI cZ cQ b mday mdoo mdA mdB (u.1 0) mmar mtel mgai mfal mtop mstr mgho mfai mpto mwal mahd mahf mcho mbes mbyt mtxt mpos mtka mtok mdig mnum mfau mrdm mrea mlin mlne mthg mord mbor mbsm mans mand manr mali))) ⟨hx, hb, hml, hown, hts⟩ (k_X10_doorsTo2 l dC dI cI cZ cQ b mday mdoo mdA mdB mfar mmar mtel mgai mfal mtop mstr mgho mfai mpto mwal mahd mahf mcho mbes mbyt mtxt mpos mtka mtok mdig mnum mfau mrdm mrea mlin mlne mthg mord mbor mbsm mans mand manr mali _ (0 : Int32) ro r_mday r_mdoo r_mdA r_mdB r_mmar r_mgai r_mfal r_mtop r_mstr r_mgho r_mfai r_mahd r_mahf r_mcho r_mbyt r_mpos r_mrdm r_mlin r_mthg r_mord r_mans (by omega) (by omega) (by omega) (by omega)) (cwV 2 hts gX10_costOf_X10_doorsTo rfl rfl rfl (by decide +kernel) ⟨Nat.le_of_ble_eq_true rfl, Nat.le_of_ble_eq_true rfl⟩) hP hD hS hA hK hN [0, 1, 2, 3, 4, 5, 6, 7, 8, 9, 10, 11, 12, 13, 14, 15, 16, 17, 18, 19, 20, 21, 22, 23, 24, 25] [] [0, 1, 2, 3, 4, 5, 6, 7, 8, 9, 10, 11, 12, 13, 14, 15, 16, 17, 18, 19, 20, 21, 22, 23, 24, 25] rfl rfl (by decide) (by decide) (by decide) (fun _ => rfl) (by decide) 0 10 rfl rfl rfl hl.1 rfl (Nat.le_of_ble_eq_true rfl) dX10_costOf_3 ⟨Nat.le_of_ble_eq_true rfl, Nat.le_of_ble_eq_true rfl⟩ (fun r1 u3 H locs h2 hP hD hS => ?_)
  obtain ⟨mfar_c4, emfar_c4⟩ : ∃ f : Nat → Int32, f = (u3.1 0) := ⟨_, rfl⟩
  have hP : va_P (dC, dI) vwCl (wMod cI cZ cQ b mday mdoo mdA mdB mfar_c4 mmar mtel mgai mfal mtop mstr mgho mfai mpto mwal mahd mahf mcho mbes mbyt mtxt mpos mtka mtok mdig mnum mfau mrdm mrea mlin mlne mthg mord mbor mbsm mans mand manr mali) H := by rw [emfar_c4]; exact hP
  have hD : va_D A (wMod cI cZ cQ b mday mdoo mdA mdB mfar_c4 mmar mtel mgai mfal mtop mstr mgho mfai mpto mwal mahd mahf mcho mbes mbyt mtxt mpos mtka mtok mdig mnum mfau mrdm mrea mlin mlne mthg mord mbor mbsm mans mand manr mali) := by rw [emfar_c4]; exact hD
  have h2 : (dsR mdA mdB mdoo.toInt (0 : Int32) ro r1) ∧ (-1 ≤ r1.toInt) ∧ (r1.toInt ≤ 99) := by (try rw [emfar_c4]); exact h2
  obtain ⟨h2_0, h2_1, h2_2⟩ := h2
  refine lv_istore_n (lv' := [(2, .int r1), (0, .ref (b 39)), (1, .int ro)]) hx hb dX10_costOf_6 rfl hl (by decide) rfl (fun ls hl => ?_)
  refine lv_iload_n hx hb dX10_costOf_7 rfl (lv_at hl 0 rfl) ?_
  refine lv_iconst (v := (-1)) hx hb dX10_costOf_8 (by decide) ?_
  refine lv_icmp_ne (tgt := 16) hx hb dX10_costOf_9 (by decide) (fun c5 => ?_) (fun c5 => ?_)
  · have dc5 : 0 ≤ r1.toInt := ka_lo (by omega) (neC rfl (show ((-1) : Int32).toInt = (-1) from rfl) c5)
    refine lv_iconst (v := 2) hx hb dX10_costOf_16 (by decide) ?_
    refine lv_iload_n hx hb dX10_costOf_17 rfl (lv_at hl 0 rfl) ?_
    refine lv_imul hx hb dX10_costOf_18 ?_
    have f6 : (2 * r1).toInt = (2) * (r1.toInt) := mulC (show (2 : Int32).toInt = 2 from rfl) rfl (by omega) (by omega)
    refine lv_aload_n hx hb dX10_costOf_19 rfl (lv_at hl 1 rfl) ?_
    refine lv_iload_n hx hb dX10_costOf_20 rfl (lv_at hl 2 rfl) ?_
    refine rdV (As := [.int ro]) (rest := [.int (2 * r1)]) ⟨hx, hb, hml, hown, hts⟩ (k_X10_standIn2 l dC dI cI cZ cQ b mday mdoo mdA mdB mfar_c4 mmar mtel mgai mfal mtop mstr mgho mfai mpto mwal mahd mahf mcho mbes mbyt mtxt mpos mtka mtok mdig mnum mfau mrdm mrea mlin mlne mthg mord mbor mbsm mans mand manr mali ro r_mday r_mdoo r_mdA r_mdB r_mmar r_mgai r_mfal r_mtop r_mstr r_mgho r_mfai r_mahd r_mahf r_mcho r_mbyt r_mpos r_mrdm r_mlin r_mthg r_mord r_mans (by omega) (by omega)) (cwV 1 hts gX10_costOf_X10_standIn rfl rfl rfl (by decide +kernel) ⟨Nat.le_of_ble_eq_true rfl, Nat.le_of_ble_eq_true rfl⟩) hP hK hN [0, 1, 2, 3, 4, 5, 6, 7, 8, 9, 10, 11, 12, 13, 14, 15, 16, 17, 18, 19, 20, 21, 22, 23, 24, 25] rfl 0 10 rfl rfl rfl hl.1 rfl (Nat.le_of_ble_eq_true rfl) dX10_costOf_21 ⟨Nat.le_of_ble_eq_true rfl, Nat.le_of_ble_eq_true rfl⟩ (fun r7 h8 => ?_)
    have h8 : (0 ≤ r7.toInt) ∧ (r7.toInt ≤ 6) ∧ (r7.toInt = stF mtop (ro.toInt * 6).toNat 6) := h8
    obtain ⟨h8_0, h8_1, h8_2⟩ := h8
    refine lv_iadd hx hb dX10_costOf_24 ?_
    have f9 : ((2 * r1) + r7).toInt = ((2) * (r1.toInt)) + (r7.toInt) := addC f6 rfl (by omega) (by omega)
    exact W.iret (v := (2 * r1) + r7) hx hb hr (fun tq ht hW => ⟨⟨(2 * r1) + r7, (uS [mfar_c4] 0 (fun _ => 0)), rfl, ⟨(show coM mdA mdB mdoo.toInt mtop ro ((2 * r1) + r7) from by (try rw [show ((2 * r1) + r7).toInt = ((2) * (r1.toInt)) + (r7.toInt) from f9]); (first | exact coM_no (by assumption) (by assumption) | exact coM_ok (by assumption) (by assumption) (by assumption) (by omega))), (show -1 ≤ ((2 * r1) + r7).toInt from by (try rw [show ((2 * r1) + r7).toInt = ((2) * (r1.toInt)) + (r7.toInt) from f9]); omega), (show ((2 * r1) + r7).toInt ≤ 204 from by (try rw [show ((2 * r1) + r7).toInt = ((2) * (r1.toInt)) + (r7.toInt) from f9]); omega)⟩, by rw [ht]; exact hP, hD⟩, hS.F ht⟩) hS.2.2 dX10_costOf_25
  · have dc5 : r1.toInt = (-1) := eqC rfl (show ((-1) : Int32).toInt = (-1) from rfl) c5
    refine lv_iconst (v := (-1)) hx hb dX10_costOf_12 (by decide) ?_
    refine lv_goto (tgt := 25) hx hb dX10_costOf_13 (by decide) ?_
    exact W.iret (v := (-1)) hx hb hr (fun tq ht hW => ⟨⟨(-1), (uS [mfar_c4] 0 (fun _ => 0)), rfl, ⟨(show coM mdA mdB mdoo.toInt mtop ro ((-1) : Int32) from by (try rw [show ((-1) : Int32).toInt = (-1) from (show ((-1) : Int32).toInt = (-1) from rfl)]); (first | exact coM_no (by assumption) (by assumption) | exact coM_ok (by assumption) (by assumption) (by assumption) (by omega))), (show -1 ≤ ((-1) : Int32).toInt from by (try rw [show ((-1) : Int32).toInt = (-1) from (show ((-1) : Int32).toInt = (-1) from rfl)]); omega), (show ((-1) : Int32).toInt ≤ 204 from by (try rw [show ((-1) : Int32).toInt = (-1) from (show ((-1) : Int32).toInt = (-1) from rfl)]); omega)⟩, by rw [ht]; exact hP, hD⟩, hS.F ht⟩) hS.2.2 dX10_costOf_25
set_option maxHeartbeats 4000000 in
set_option maxRecDepth 100000 in
theorem k_X10_cost2 (l : Launch) (dC : Nat → ClassId) (dI : Nat → Nat → Nat) (cI cZ cQ : ClassId) (b : Nat → Nat) (mday : Int32) (mdoo : Int32) (mdA : Nat → Int32) (mdB : Nat → Int32) (mfar : Nat → Int32) (mmar : Nat → Int32) (mtel : Int32) (mgai : Int32) (mfal : Nat → Int32) (mtop : Nat → Int32) (mstr : Nat → Int32) (mgho : Nat → Int32) (mfai : Nat → Int32) (mpto : Nat → Int32) (mwal : Nat → Int32) (mahd : Nat → Int32) (mahf : Nat → Int32) (mcho : Nat → Int32) (mbes : Nat → Int32) (mbyt : Int32) (mtxt : Nat → Int32) (mpos : Int32) (mtka : Int32) (mtok : Int64) (mdig : Int32) (mnum : Int32) (mfau : Int32) (mrdm : Int32) (mrea : Nat → Int32) (mlin : Int32) (mlne : Nat → Int32) (mthg : Nat → Int32) (mord : Nat → Int32) (mbor : Nat → Int32) (mbsm : Int32) (mans : Nat → Int32) (mand : Nat → Int32) (manr : Nat → Int32) (mali : Nat → Int32) (sz : Nat) (ro : Int32) (r_mday : 0 ≤ mday.toInt ∧ mday.toInt ≤ 400) (r_mdoo : 0 ≤ mdoo.toInt ∧ mdoo.toInt ≤ 14) (r_mdA : rg 14 (0) (7) mdA) (r_mdB : rg 14 (0) (7) mdB) (r_mmar : rg 24 (0) (255) mmar) (r_mgai : 0 ≤ mgai.toInt ∧ mgai.toInt ≤ 100) (r_mfal : rg 11 (0) (30) mfal) (r_mtop : rg 48 (-1) (23) mtop) (r_mstr : rg 48 (0) (100) mstr) (r_mgho : rg 48 (-1) (23) mgho) (r_mfai : rg 48 (0) (100) mfai) (r_mahd : rg 240 (0) (100) mahd) (r_mahf : rg 240 (0) (100) mahf) (r_mcho : rg 5 (-1) (9) mcho) (r_mbyt : 0 ≤ mbyt.toInt ∧ mbyt.toInt ≤ 160) (r_mpos : 0 ≤ mpos.toInt ∧ mpos.toInt ≤ 160) (r_mrdm : 0 ≤ mrdm.toInt ∧ mrdm.toInt ≤ 10) (r_mlin : 0 ≤ mlin.toInt ∧ mlin.toInt ≤ 10) (r_mthg : rg 8 (0) (31) mthg) (r_mord : rg 8 (-1) (8) mord) (r_mans : rg 4 (0) (12) mans) : KW l yX10_cost wsX10_cost { frames := 2, cells := 0, slots := 0, locals := 48 } (dC, dI) (TY cI cZ cQ) (wMod cI cZ cQ b mday mdoo mdA mdB mfar mmar mtel mgai mfal mtop mstr mgho mfai mpto mwal mahd mahf mcho mbes mbyt mtxt mpos mtka mtok mdig mnum mfau mrdm mrea mlin mlne mthg mord mbor mbsm mans mand manr mali) [.ref (b 39), .int ro] sz 0 0 (fun (r : Int32) (u : US) => (spCstM mdA mdB mdoo mtop ro r)) (fun u : US => (wMod cI cZ cQ b mday mdoo mdA mdB (u.1 0) mmar mtel mgai mfal mtop mstr mgho mfai mpto mwal mahd mahf mcho mbes mbyt mtxt mpos mtka mtok mdig mnum mfau mrdm mrea mlin mlne mthg mord mbor mbsm mans mand manr mali)) := by
  refine Met.ofW (cc := cX10_cost) (maxL := 2) (ret := (some .int)) (by decide) rfl ?_
  intro p e s m args below meth c s₁ B hml hv
  obtain ⟨rfl, hsz, hP, hK, hD0, hN⟩ := hv
  have hx := B.exec
  have hb := B.bytes
  have hr := B.returns
  have hts := atoms_spec (ws := wsX10_cost) B.pre
  have hown : s.vm.findClass RX10 = some m.cls := findClass_of_methodNamed B.named
  have hlocks := B.notSynchronized
  subst hsz
  have hD := hD0.self (sz := s.heap.size)
  generalize hAe : va_A (wMod cI cZ cQ b mday mdoo mdA mdB mfar mmar mtel mgai mfal mtop mstr mgho mfai mpto mwal mahd mahf mcho mbes mbyt mtxt mpos mtka mtok mdig mnum mfau mrdm mrea mlin mlne mthg mord mbor mbsm mans mand manr mali) s.heap.size = A at hD ⊢
  have hA : ∀ q : Nat, s.heap.size ≤ q → A q := fun q h => by rw [← hAe]; exact Or.inr h
  have hS : va_S A s.heap s.heap [] := va_S.rf
  have hl := lv_entry ([.ref (b 39), .int ro]) (n := 2) (Nat.le_of_ble_eq_true rfl)
  rw [lg_entry_eq]
  generalize (lg_sl ([.ref (b 39), .int ro]) ++ List.replicate (2 - (lg_sl ([.ref (b 39), .int ro])).length) Slot.unset).toArray = ls at hl ⊢
  have hl : lv_has ls 2 [(0, .ref (b 39)), (1, .int ro)] := hl
  refine lv_iload_n hx hb dX10_cost_0 rfl (lv_at hl 1 rfl) ?_
  refine rdS (As := [.int ro]) (rest := []) ⟨hx, hb, hml, hown, hts⟩ (k_X10_isRoom l dC dI cI cZ cQ ro) (va_cwS 1 hts gX10_cost_X10_isRoom rfl rfl rfl (by decide +kernel) ⟨Nat.le_of_ble_eq_true rfl, Nat.le_of_ble_eq_true rfl⟩) hP hK hN [] rfl rfl hl.1 rfl (Nat.le_of_ble_eq_true rfl) dX10_cost_1 ⟨Nat.le_of_ble_eq_true rfl, Nat.le_of_ble_eq_true rfl⟩ (fun r1 h2 => ?_)
  have h2 : ((((r1 = 1) ∧ (0 ≤ ro.toInt) ∧ (ro.toInt ≤ 7)) ∨ ((r1 = 0) ∧ (ro.toInt < 0 ∨ 7 < ro.toInt)))) := h2
  rcases h2 with (⟨rfl, h2_a0, h2_a1⟩ | ⟨rfl, h2_a0⟩)
  · refine lv_if_eq (tgt := 15) hx hb dX10_cost_4 (by decide) (fun c9 => absurd c9 (by decide)) (fun _ => ?_)
    refine lv_aload_n hx hb dX10_cost_7 rfl (lv_at hl 0 rfl) ?_
    refine lv_iload_n hx hb dX10_cost_8 rfl (lv_at hl 1 rfl) ?_
    refine wrV (As := [.int ro]) (rest := []) (wr := []) (w2 := (fun u : US => (wMod cI cZ cQ b mday mdoo mdA mdB (u.1 0) mmar mtel mgai mfal mtop mstr mgho mfai mpto mwal mahd mahf mcho mbes mbyt mtxt mpos mtka mtok mdig mnum mfau mrdm mrea mlin mlne mthg mord mbor mbsm mans mand manr mali))) ⟨hx, hb, hml, hown, hts⟩ (k_X10_costOf2 l dC dI cI cZ cQ b mday mdoo mdA mdB mfar mmar mtel mgai mfal mtop mstr mgho mfai mpto mwal mahd mahf mcho mbes mbyt mtxt mpos mtka mtok mdig mnum mfau mrdm mrea mlin mlne mthg mord mbor mbsm mans mand manr mali _ ro r_mday r_mdoo r_mdA r_mdB r_mmar r_mgai r_mfal r_mtop r_mstr r_mgho r_mfai r_mahd r_mahf r_mcho r_mbyt r_mpos r_mrdm r_mlin r_mthg r_mord r_mans (by omega) (by omega)) (cwV 1 hts gX10_cost_X10_costOf rfl rfl rfl (by decide +kernel) ⟨Nat.le_of_ble_eq_true rfl, Nat.le_of_ble_eq_true rfl⟩) hP hD hS hA hK hN [0, 1, 2, 3, 4, 5, 6, 7, 8, 9, 10, 11, 12, 13, 14, 15, 16, 17, 18, 19, 20, 21, 22, 23, 24, 25] [] [0, 1, 2, 3, 4, 5, 6, 7, 8, 9, 10, 11, 12, 13, 14, 15, 16, 17, 18, 19, 20, 21, 22, 23, 24, 25] rfl rfl (by decide) (by decide) (by decide) (fun _ => rfl) (by decide) 0 10 rfl rfl rfl hl.1 rfl (Nat.le_of_ble_eq_true rfl) dX10_cost_9 ⟨Nat.le_of_ble_eq_true rfl, Nat.le_of_ble_eq_true rfl⟩ (fun r3 u5 H locs h4 hP hD hS => ?_)
    obtain ⟨mfar_c6, emfar_c6⟩ : ∃ f : Nat → Int32, f = (u5.1 0) := ⟨_, rfl⟩
    have hP : va_P (dC, dI) vwCl (wMod cI cZ cQ b mday mdoo mdA mdB mfar_c6 mmar mtel mgai mfal mtop mstr mgho mfai mpto mwal mahd mahf mcho mbes mbyt mtxt mpos mtka mtok mdig mnum mfau mrdm mrea mlin mlne mthg mord mbor mbsm mans mand manr mali) H := by rw [emfar_c6]; exact hP
    have hD : va_D A (wMod cI cZ cQ b mday mdoo mdA mdB mfar_c6 mmar mtel mgai mfal mtop mstr mgho mfai mpto mwal mahd mahf mcho mbes mbyt mtxt mpos mtka mtok mdig mnum mfau mrdm mrea mlin mlne mthg mord mbor mbsm mans mand manr mali) := by rw [emfar_c6]; exact hD
    have h4 : (coM mdA mdB mdoo.toInt mtop ro r3) ∧ (-1 ≤ r3.toInt) ∧ (r3.toInt ≤ 204) := by (try rw [emfar_c6]); exact h4
    obtain ⟨h4_0, h4_1, h4_2⟩ := h4
    refine lv_goto (tgt := 17) hx hb dX10_cost_12 (by decide) ?_
    exact W.iret (v := r3) hx hb hr (fun tq ht hW => ⟨⟨r3, (uS [mfar_c6] 0 (fun _ => 0)), rfl, (show spCstM mdA mdB mdoo mtop ro r3 from by (first | exact Or.inl ⟨by omega, rfl⟩ | exact Or.inr ⟨by omega, by assumption⟩)), by rw [ht]; exact hP, hD⟩, hS.F ht⟩) hS.2.2 dX10_cost_17
  · refine lv_if_eq (tgt := 15) hx hb dX10_cost_4 (by decide) (fun _ => ?_) (fun c9 => absurd (by decide) c9)
    refine lv_bipush (v := (-2)) hx hb dX10_cost_15 (by decide) ?_
    exact W.iret (v := (-2)) hx hb hr (fun tq ht hW => ⟨⟨(-2), (uS [mfar] 0 (fun _ => 0)), rfl, (show spCstM mdA mdB mdoo mtop ro ((-2) : Int32) from by (try rw [show ((-2) : Int32).toInt = (-2) from (show ((-2) : Int32).toInt = (-2) from rfl)]); (first | exact Or.inl ⟨by omega, rfl⟩ | exact Or.inr ⟨by omega, by assumption⟩)), by rw [ht]; exact hP, hD⟩, hS.F ht⟩) hS.2.2 dX10_cost_17
