set_option maxHeartbeats 4000000 in
set_option maxRecDepth 100000 in
theorem k_X10_away2 (l : Launch) (dC : Nat → ClassId) (dI : Nat → Nat → Nat) (cI cZ cQ : ClassId) (b : Nat → Nat) (mday : Int32) (mdoo : Int32) (mdA : Nat → Int32) (mdB : Nat → Int32) (mfar : Nat → Int32) (mmar : Nat → Int32) (mtel : Int32) (mgai : Int32) (mfal : Nat → Int32) (mtop : Nat → Int32) (mstr : Nat → Int32) (mgho : Nat → Int32) (mfai : Nat → Int32) (mpto : Nat → Int32) (mwal : Nat → Int32) (mahd : Nat → Int32) (mahf : Nat → Int32) (mcho : Nat → Int32) (mbes : Nat → Int32) (mbyt : Int32) (mtxt : Nat → Int32) (mpos : Int32) (mtka : Int32) (mtok : Int64) (mdig : Int32) (mnum : Int32) (mfau : Int32) (mrdm : Int32) (mrea : Nat → Int32) (mlin : Int32) (mlne : Nat → Int32) (mthg : Nat → Int32) (mord : Nat → Int32) (mbor : Nat → Int32) (mbsm : Int32) (mans : Nat → Int32) (mand : Nat → Int32) (manr : Nat → Int32) (mali : Nat → Int32) (sz : Nat) (x : Int32) (y : Int32) (r_mday : 0 ≤ mday.toInt ∧ mday.toInt ≤ 400) (r_mdoo : 0 ≤ mdoo.toInt ∧ mdoo.toInt ≤ 14) (r_mdA : rg 14 (0) (7) mdA) (r_mdB : rg 14 (0) (7) mdB) (r_mmar : rg 24 (0) (255) mmar) (r_mgai : 0 ≤ mgai.toInt ∧ mgai.toInt ≤ 100) (r_mfal : rg 11 (0) (30) mfal) (r_mtop : rg 48 (-1) (23) mtop) (r_mstr : rg 48 (0) (100) mstr) (r_mgho : rg 48 (-1) (23) mgho) (r_mfai : rg 48 (0) (100) mfai) (r_mahd : rg 240 (0) (100) mahd) (r_mahf : rg 240 (0) (100) mahf) (r_mcho : rg 5 (-1) (9) mcho) (r_mbyt : 0 ≤ mbyt.toInt ∧ mbyt.toInt ≤ 160) (r_mpos : 0 ≤ mpos.toInt ∧ mpos.toInt ≤ 160) (r_mrdm : 0 ≤ mrdm.toInt ∧ mrdm.toInt ≤ 10) (r_mlin : 0 ≤ mlin.toInt ∧ mlin.toInt ≤ 10) (r_mthg : rg 8 (0) (31) mthg) (r_mord : rg 8 (-1) (8) mord) (r_mans : rg 4 (0) (12) mans) : KW l yX10_away wsX10_away { frames := 2, cells := 0, slots := 0, locals := 42 } (dC, dI) (TY cI cZ cQ) (wMod cI cZ cQ b mday mdoo mdA mdB mfar mmar mtel mgai mfal mtop mstr mgho mfai mpto mwal mahd mahf mcho mbes mbyt mtxt mpos mtka mtok mdig mnum mfau mrdm mrea mlin mlne mthg mord mbor mbsm mans mand manr mali) [.ref (b 39), .int x, .int y] sz 0 0 (fun (r : Int32) (u : US) => (spAwyM mdA mdB mdoo x y r)) (fun u : US => (wMod cI cZ cQ b mday mdoo mdA mdB (u.1 0) mmar mtel mgai mfal mtop mstr mgho mfai mpto mwal mahd mahf mcho mbes mbyt mtxt mpos mtka mtok mdig mnum mfau mrdm mrea mlin mlne mthg mord mbor mbsm mans mand manr mali)) := by
  refine Met.ofW (cc := cX10_away) (maxL := 3) (ret := (some .int)) (by decide) rfl ?_
  intro p e s m args below meth c s₁ B hml hv
  obtain ⟨rfl, hsz, hP, hK, hD0, hN⟩ := hv
  have hx := B.exec
  have hb := B.bytes
  have hr := B.returns
  have hts := atoms_spec (ws := wsX10_away) B.pre
  have hown : s.vm.findClass RX10 = some m.cls := findClass_of_methodNamed B.named
  have hlocks := B.notSynchronized
  subst hsz
  have hD := hD0.self (sz := s.heap.size)
  generalize hAe : va_A (wMod cI cZ cQ b mday mdoo mdA mdB mfar mmar mtel mgai mfal mtop mstr mgho mfai mpto mwal mahd mahf mcho mbes mbyt mtxt mpos mtka mtok mdig mnum mfau mrdm mrea mlin mlne mthg mord mbor mbsm mans mand manr mali) s.heap.size = A at hD ⊢
  have hA : ∀ q : Nat, s.heap.size ≤ q → A q := fun q h => by rw [← hAe]; exact Or.inr h
  have hS : va_S A s.heap s.heap [] := va_S.rf
  have hl := lv_entry ([.ref (b 39), .int x, .int y]) (n := 3) (Nat.le_of_ble_eq_true rfl)
  rw [lg_entry_eq]
  generalize (lg_sl ([.ref (b 39), .int x, .int y]) ++ List.replicate (3 - (lg_sl ([.ref (b 39), .int x, .int y])).length) Slot.unset).toArray = ls at hl ⊢
  have hl : lv_has ls 3 [(0, .ref (b 39)), (1, .int x), (2, .int y)] := hl
  refine lv_iload_n hx hb dX10_away_0 rfl (lv_at hl 1 rfl) ?_
  refine rdS (As := [.int x]) (rest := []) ⟨hx, hb, hml, hown, hts⟩ (k_X10_isRoom l dC dI cI cZ cQ x) (va_cwS 1 hts gX10_away_X10_isRoom rfl rfl rfl (by decide +kernel) ⟨Nat.le_of_ble_eq_true rfl, Nat.le_of_ble_eq_true rfl⟩) hP hK hN [] rfl rfl hl.1 rfl (Nat.le_of_ble_eq_true rfl) dX10_away_1 ⟨Nat.le_of_ble_eq_true rfl, Nat.le_of_ble_eq_true rfl⟩ (fun r1 h2 => ?_)
  have h2 : ((((r1 = 1) ∧ (0 ≤ x.toInt) ∧ (x.toInt ≤ 7)) ∨ ((r1 = 0) ∧ (x.toInt < 0 ∨ 7 < x.toInt)))) := h2
  rcases h2 with (⟨rfl, h2_a0, h2_a1⟩ | ⟨rfl, h2_a0⟩)
  · refine lv_if_eq (tgt := 23) hx hb dX10_away_4 (by decide) (fun c9 => absurd c9 (by decide)) (fun _ => ?_)
    refine lv_iload_n hx hb dX10_away_7 rfl (lv_at hl 2 rfl) ?_
    refine rdS (As := [.int y]) (rest := []) ⟨hx, hb, hml, hown, hts⟩ (k_X10_isRoom l dC dI cI cZ cQ y) (va_cwS 1 hts gX10_away_X10_isRoom rfl rfl rfl (by decide +kernel) ⟨Nat.le_of_ble_eq_true rfl, Nat.le_of_ble_eq_true rfl⟩) hP hK hN [] rfl rfl hl.1 rfl (Nat.le_of_ble_eq_true rfl) dX10_away_8 ⟨Nat.le_of_ble_eq_true rfl, Nat.le_of_ble_eq_true rfl⟩ (fun r3 h4 => ?_)
    have h4 : ((((r3 = 1) ∧ (0 ≤ y.toInt) ∧ (y.toInt ≤ 7)) ∨ ((r3 = 0) ∧ (y.toInt < 0 ∨ 7 < y.toInt)))) := h4
    rcases h4 with (⟨rfl, h4_a0, h4_a1⟩ | ⟨rfl, h4_a0⟩)
    · refine lv_if_eq (tgt := 23) hx hb dX10_away_11 (by decide) (fun c9 => absurd c9 (by decide)) (fun _ => ?_)
      refine lv_aload_n hx hb dX10_away_14 rfl (lv_at hl 0 rfl) ?_
      refine lv_iload_n hx hb dX10_away_15 rfl (lv_at hl 1 rfl) ?_
      refine lv_iload_n hx hb dX10_away_16 rfl (lv_at hl 2 rfl) ?_
      refine wrV (As := [.int x, .int y]) (rest := []) (wr := []) (w2 := (fun u : US => (wMod cI cZ cQ b mday mdoo mdA mdB (u.1 0) mmar mtel mgai mfal mtop mstr mgho mfai mpto mwal mahd mahf mcho mbes mbyt mtxt mpos mtka mtok mdig mnum mfau mrdm mrea mlin mlne mthg mord mbor mbsm mans mand manr mali))) ⟨hx, hb, hml, hown, hts⟩ (k_X10_doorsTo2 l dC dI cI cZ cQ b mday mdoo mdA mdB mfar mmar mtel mgai mfal mtop mstr mgho mfai mpto mwal mahd mahf mcho mbes mbyt mtxt mpos mtka mtok mdig mnum mfau mrdm mrea mlin mlne mthg mord mbor mbsm mans mand manr mali _ x y r_mday r_mdoo r_mdA r_mdB r_mmar r_mgai r_mfal r_mtop r_mstr r_mgho r_mfai r_mahd r_mahf r_mcho r_mbyt r_mpos r_mrdm r_mlin r_mthg r_mord r_mans (by omega) (by omega) (by omega) (by omega)) (cwV 2 hts gX10_away_X10_doorsTo rfl rfl rfl (by decide +kernel) ⟨Nat.le_of_ble_eq_true rfl, Nat.le_of_ble_eq_true rfl⟩) hP hD hS hA hK hN [0, 1, 2, 3, 4, 5, 6, 7, 8, 9, 10, 11, 12, 13, 14, 15, 16, 17, 18, 19, 20, 21, 22, 23, 24, 25] [] [0, 1, 2, 3, 4, 5, 6, 7, 8, 9, 10, 11, 12, 13, 14, 15, 16, 17, 18, 19, 20, 21, 22, 23, 24, 25] rfl rfl (by decide) (by decide) (by decide) (fun _ => rfl) (by decide) 0 10 rfl rfl rfl hl.1 rfl (Nat.le_of_ble_eq_true rfl) dX10_away_17 ⟨Nat.le_of_ble_eq_true rfl, Nat.le_of_ble_eq_true rfl⟩ (fun r5 u7 H locs h6 hP hD hS => ?_)
      obtain ⟨mfar_c8, emfar_c8⟩ : ∃ f : Nat → Int32, f = (u7.1 0) := ⟨_, rfl⟩
      have hP : va_P (dC, dI) vwCl (wMod cI cZ cQ b mday mdoo mdA mdB mfar_c8 mmar mtel mgai mfal mtop mstr mgho mfai mpto mwal mahd mahf mcho mbes mbyt mtxt mpos mtka mtok mdig mnum mfau mrdm mrea mlin mlne mthg mord mbor mbsm mans mand manr mali) H := by rw [emfar_c8]; exact hP
      have hD : va_D A (wMod cI cZ cQ b mday mdoo mdA mdB mfar_c8 mmar mtel mgai mfal mtop mstr mgho mfai mpto mwal mahd mahf mcho mbes mbyt mtxt mpos mtka mtok mdig mnum mfau mrdm mrea mlin mlne mthg mord mbor mbsm mans mand manr mali) := by rw [emfar_c8]; exact hD
      have h6 : (dsR mdA mdB mdoo.toInt x y r5) ∧ (-1 ≤ r5.toInt) ∧ (r5.toInt ≤ 99) := by (try rw [emfar_c8]); exact h6
      obtain ⟨h6_0, h6_1, h6_2⟩ := h6
      refine lv_goto (tgt := 25) hx hb dX10_away_20 (by decide) ?_
      exact W.iret (v := r5) hx hb hr (fun tq ht hW => ⟨⟨r5, (uS [mfar_c8] 0 (fun _ => 0)), rfl, (show spAwyM mdA mdB mdoo x y r5 from by (first | exact Or.inl ⟨by omega, rfl⟩ | exact Or.inr ⟨by omega, by assumption⟩)), by rw [ht]; exact hP, hD⟩, hS.F ht⟩) hS.2.2 dX10_away_25
    · refine lv_if_eq (tgt := 23) hx hb dX10_away_11 (by decide) (fun _ => ?_) (fun c9 => absurd (by decide) c9)
      refine lv_bipush (v := (-2)) hx hb dX10_away_23 (by decide) ?_
      exact W.iret (v := (-2)) hx hb hr (fun tq ht hW => ⟨⟨(-2), (uS [mfar] 0 (fun _ => 0)), rfl, (show spAwyM mdA mdB mdoo x y ((-2) : Int32) from by (try rw [show ((-2) : Int32).toInt = (-2) from (show ((-2) : Int32).toInt = (-2) from rfl)]); (first | exact Or.inl ⟨by omega, rfl⟩ | exact Or.inr ⟨by omega, by assumption⟩)), by rw [ht]; exact hP, hD⟩, hS.F ht⟩) hS.2.2 dX10_away_25
  · refine lv_if_eq (tgt := 23) hx hb dX10_away_4 (by decide) (fun _ => ?_) (fun c9 => absurd (by decide) c9)
    refine lv_bipush (v := (-2)) hx hb dX10_away_23 (by decide) ?_
    exact W.iret (v := (-2)) hx hb hr (fun tq ht hW => ⟨⟨(-2), (uS [mfar] 0 (fun _ => 0)), rfl, (show spAwyM mdA mdB mdoo x y ((-2) : Int32) from by (try rw [show ((-2) : Int32).toInt = (-2) from (show ((-2) : Int32).toInt = (-2) from rfl)]); (first | exact Or.inl ⟨by omega, rfl⟩ | exact Or.inr ⟨by omega, by assumption⟩)), by rw [ht]; exact hP, hD⟩, hS.F ht⟩) hS.2.2 dX10_away_25

