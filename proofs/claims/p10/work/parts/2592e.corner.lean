set_option maxHeartbeats 4000000 in
set_option maxRecDepth 100000 in
theorem k_X10_walk2 (l : Launch) (dC : Nat → ClassId) (dI : Nat → Nat → Nat) (cI cZ cQ : ClassId) (b : Nat → Nat) (mday : Int32) (mdoo : Int32) (mdA : Nat → Int32) (mdB : Nat → Int32) (mfar : Nat → Int32) (mmar : Nat → Int32) (mtel : Int32) (mgai : Int32) (mfal : Nat → Int32) (mtop : Nat → Int32) (mstr : Nat → Int32) (mgho : Nat → Int32) (mfai : Nat → Int32) (mpto : Nat → Int32) (mwal : Nat → Int32) (mahd : Nat → Int32) (mahf : Nat → Int32) (mcho : Nat → Int32) (mbes : Nat → Int32) (mbyt : Int32) (mtxt : Nat → Int32) (mpos : Int32) (mtka : Int32) (mtok : Int64) (mdig : Int32) (mnum : Int32) (mfau : Int32) (mrdm : Int32) (mrea : Nat → Int32) (mlin : Int32) (mlne : Nat → Int32) (mthg : Nat → Int32) (mord : Nat → Int32) (mbor : Nat → Int32) (mbsm : Int32) (mans : Nat → Int32) (mand : Nat → Int32) (manr : Nat → Int32) (mali : Nat → Int32) (sz : Nat) (ro : Int32) (r_mday : 0 ≤ mday.toInt ∧ mday.toInt ≤ 400) (r_mdoo : 0 ≤ mdoo.toInt ∧ mdoo.toInt ≤ 14) (r_mdA : rg 14 (0) (7) mdA) (r_mdB : rg 14 (0) (7) mdB) (r_mmar : rg 24 (0) (255) mmar) (r_mgai : 0 ≤ mgai.toInt ∧ mgai.toInt ≤ 100) (r_mfal : rg 11 (0) (30) mfal) (r_mtop : rg 48 (-1) (23) mtop) (r_mstr : rg 48 (0) (100) mstr) (r_mgho : rg 48 (-1) (23) mgho) (r_mfai : rg 48 (0) (100) mfai) (r_mahd : rg 240 (0) (100) mahd) (r_mahf : rg 240 (0) (100) mahf) (r_mcho : rg 5 (-1) (9) mcho) (r_mbyt : 0 ≤ mbyt.toInt ∧ mbyt.toInt ≤ 160) (r_mpos : 0 ≤ mpos.toInt ∧ mpos.toInt ≤ 160) (r_mrdm : 0 ≤ mrdm.toInt ∧ mrdm.toInt ≤ 10) (r_mlin : 0 ≤ mlin.toInt ∧ mlin.toInt ≤ 10) (r_mthg : rg 8 (0) (31) mthg) (r_mord : rg 8 (-1) (8) mord) (r_mans : rg 4 (0) (12) mans) : KW l yX10_walk wsX10_walk { frames := 2, cells := 0, slots := 0, locals := 42 } (dC, dI) (TY cI cZ cQ) (wMod cI cZ cQ b mday mdoo mdA mdB mfar mmar mtel mgai mfal mtop mstr mgho mfai mpto mwal mahd mahf mcho mbes mbyt mtxt mpos mtka mtok mdig mnum mfau mrdm mrea mlin mlne mthg mord mbor mbsm mans mand manr mali) [.ref (b 39), .int ro] sz 0 0 (fun (r : Int32) (u : US) => (spWlkM mtop mstr mwal mgai mday ro r (u.1 2) (u.1 3)) ∧ (rg 240 (0) (100) (u.1 0)) ∧ (rg 240 (0) (100) (u.1 1)) ∧ (rg 48 (0) (100) (u.1 2))) (fun u : US => (wMod cI cZ cQ b mday mdoo mdA mdB mfar mmar mtel mgai mfal mtop (u.1 2) mgho mfai mpto (u.1 3) (u.1 0) (u.1 1) mcho mbes mbyt mtxt mpos mtka mtok mdig mnum mfau mrdm mrea mlin mlne mthg mord mbor mbsm mans mand manr mali)) := by
  refine Met.ofW (cc := cX10_walk) (maxL := 4) (ret := (some .int)) (by decide) rfl ?_
  intro p e s m args below meth c s₁ B hml hv
  obtain ⟨rfl, hsz, hP, hK, hD0, hN⟩ := hv
  have hx := B.exec
  have hb := B.bytes
  have hr := B.returns
  have hts := atoms_spec (ws := wsX10_walk) B.pre
  have hown : s.vm.findClass RX10 = some m.cls := findClass_of_methodNamed B.named
  have hlocks := B.notSynchronized
  have lf47 := hts (.fieldLink RX10 47 "PalaceOfRoomsModel" "walkedOn" "[I") (by decide +kernel)
  have inX10 : ∀ w ∈ wsX100, w ∈ wsX10_walk := by decide +kernel
  have lf125 := hts (.fieldLink RX10 125 "PalaceOfRoomsModel" "day" "I") (by decide +kernel)
  have lf35 := hts (.fieldLink RX10 35 "PalaceOfRoomsModel" "strength" "[I") (by decide +kernel)
  have lf50 := hts (.fieldLink RX10 50 "PalaceOfRoomsModel" "ahead" "[I") (by decide +kernel)
  subst hsz
  have hD := hD0.self (sz := s.heap.size)
  generalize hAe : va_A (wMod cI cZ cQ b mday mdoo mdA mdB mfar mmar mtel mgai mfal mtop mstr mgho mfai mpto mwal mahd mahf mcho mbes mbyt mtxt mpos mtka mtok mdig mnum mfau mrdm mrea mlin mlne mthg mord mbor mbsm mans mand manr mali) s.heap.size = A at hD ⊢
  have hA : ∀ q : Nat, s.heap.size ≤ q → A q := fun q h => by rw [← hAe]; exact Or.inr h
  have hS : va_S A s.heap s.heap [] := va_S.rf
  have hl := lv_entry ([.ref (b 39), .int ro]) (n := 4) (Nat.le_of_ble_eq_true rfl)
  rw [lg_entry_eq]
  generalize (lg_sl ([.ref (b 39), .int ro]) ++ List.replicate (4 - (lg_sl ([.ref (b 39), .int ro])).length) Slot.unset).toArray = ls at hl ⊢
  have hl : lv_has ls 4 [(0, .ref (b 39)), (1, .int ro)] := hl
  refine lv_iload_n hx hb dX10_walk_0 rfl (lv_at hl 1 rfl) ?_
  refine rdS (As := [.int ro]) (rest := []) ⟨hx, hb, hml, hown, hts⟩ (k_X10_isRoom l dC dI cI cZ cQ ro) (va_cwS 1 hts gX10_walk_X10_isRoom rfl rfl rfl (by decide +kernel) ⟨Nat.le_of_ble_eq_true rfl, Nat.le_of_ble_eq_true rfl⟩) hP hK hN [] rfl rfl hl.1 rfl (Nat.le_of_ble_eq_true rfl) dX10_walk_1 ⟨Nat.le_of_ble_eq_true rfl, Nat.le_of_ble_eq_true rfl⟩ (fun r1 h2 => ?_)
  have h2 : ((((r1 = 1) ∧ (0 ≤ ro.toInt) ∧ (ro.toInt ≤ 7)) ∨ ((r1 = 0) ∧ (ro.toInt < 0 ∨ 7 < ro.toInt)))) := h2
  rcases h2 with (⟨rfl, h2_a0, h2_a1⟩ | ⟨rfl, h2_a0⟩)
  · refine lv_if_ne (tgt := 10) hx hb dX10_walk_4 (by decide) (fun _ => ?_) (fun c9 => absurd c9 (by decide))
    refine lv_aload_n hx hb dX10_walk_10 rfl (lv_at hl 0 rfl) ?_
    refine wvV (As := []) (rest := []) (wr := []) (w2 := (fun u : US => (wMod cI cZ cQ b mday mdoo mdA mdB mfar mmar mtel mgai mfal mtop mstr mgho mfai mpto mwal (u.1 0) (u.1 1) mcho mbes mbyt mtxt mpos mtka mtok mdig mnum mfau mrdm mrea mlin mlne mthg mord mbor mbsm mans mand manr mali))) ⟨hx, hb, hml, hown, hts⟩ (k_X10_lookAhead2 l dC dI cI cZ cQ b mday mdoo mdA mdB mfar mmar mtel mgai mfal mtop mstr mgho mfai mpto mwal mahd mahf mcho mbes mbyt mtxt mpos mtka mtok mdig mnum mfau mrdm mrea mlin mlne mthg mord mbor mbsm mans mand manr mali _ r_mday r_mdoo r_mdA r_mdB r_mmar r_mgai r_mfal r_mtop r_mstr r_mgho r_mfai r_mahd r_mahf r_mcho r_mbyt r_mpos r_mrdm r_mlin r_mthg r_mord r_mans) (cwV 0 hts gX10_walk_X10_lookAhead rfl rfl rfl (by decide +kernel) ⟨Nat.le_of_ble_eq_true rfl, Nat.le_of_ble_eq_true rfl⟩) hP hD hS hA hK hN [0, 1, 2, 3, 4, 5, 6, 7, 8, 9, 10, 11, 12, 13, 14, 15, 16, 17, 18, 19, 20, 21, 22, 23, 24, 25] [] [0, 1, 2, 3, 4, 5, 6, 7, 8, 9, 10, 11, 12, 13, 14, 15, 16, 17, 18, 19, 20, 21, 22, 23, 24, 25] rfl rfl (by decide) (by decide) (by decide) (fun _ => rfl) (by decide) 0 10 rfl rfl rfl hl.1 rfl (Nat.le_of_ble_eq_true rfl) dX10_walk_11 ⟨Nat.le_of_ble_eq_true rfl, Nat.le_of_ble_eq_true rfl⟩ (fun u5 H locs h4 hP hD hS => ?_)
    obtain ⟨mahd_c6, emahd_c6⟩ : ∃ f : Nat → Int32, f = (u5.1 0) := ⟨_, rfl⟩
    obtain ⟨mahf_c7, emahf_c7⟩ : ∃ f : Nat → Int32, f = (u5.1 1) := ⟨_, rfl⟩
    have hP : va_P (dC, dI) vwCl (wMod cI cZ cQ b mday mdoo mdA mdB mfar mmar mtel mgai mfal mtop mstr mgho mfai mpto mwal mahd_c6 mahf_c7 mcho mbes mbyt mtxt mpos mtka mtok mdig mnum mfau mrdm mrea mlin mlne mthg mord mbor mbsm mans mand manr mali) H := by rw [emahd_c6, emahf_c7]; exact hP
    have hD : va_D A (wMod cI cZ cQ b mday mdoo mdA mdB mfar mmar mtel mgai mfal mtop mstr mgho mfai mpto mwal mahd_c6 mahf_c7 mcho mbes mbyt mtxt mpos mtka mtok mdig mnum mfau mrdm mrea mlin mlne mthg mord mbor mbsm mans mand manr mali) := by rw [emahd_c6, emahf_c7]; exact hD
    have h4 : (laI mtop mstr mgho mfai 48 mahd_c6 mahf_c7) ∧ (rg 240 (0) (100) mahd_c6) ∧ (rg 240 (0) (100) mahf_c7) := by (try rw [emahd_c6]); (try rw [emahf_c7]); exact h4
    obtain ⟨h4_0, h4_1, h4_2⟩ := h4
    refine lv_aload_n hx hb dX10_walk_14 rfl (lv_at hl 0 rfl) ?_
    refine lv_iload_n hx hb dX10_walk_15 rfl (lv_at hl 1 rfl) ?_
    refine lv_iconst (v := 0) hx hb dX10_walk_16 (by decide) ?_
    have kc0 : (0 : Int32).toInt = 0 := rfl
    refine wrV (As := [.int ro, .int 0]) (rest := []) (wr := []) (w2 := (fun u : US => (wMod cI cZ cQ b mday mdoo mdA mdB mfar mmar mtel mgai mfal mtop mstr mgho mfai mpto mwal (u.1 0) mahf_c7 mcho mbes mbyt mtxt mpos mtka mtok mdig mnum mfau mrdm mrea mlin mlne mthg mord mbor mbsm mans mand manr mali))) ⟨hx, hb, hml, hown, hts⟩ (k_X10_goWalk2 l dC dI cI cZ cQ b mday mdoo mdA mdB mfar mmar mtel mgai mfal mtop mstr mgho mfai mpto mwal mahd_c6 mahf_c7 mcho mbes mbyt mtxt mpos mtka mtok mdig mnum mfau mrdm mrea mlin mlne mthg mord mbor mbsm mans mand manr mali _ ro (0 : Int32) r_mday r_mdoo r_mdA r_mdB r_mmar r_mgai r_mfal r_mtop r_mstr r_mgho r_mfai h4_1 h4_2 r_mcho r_mbyt r_mpos r_mrdm r_mlin r_mthg r_mord r_mans (by omega) (by omega) (by omega) (by omega)) (cwV 2 hts gX10_walk_X10_goWalk rfl rfl rfl (by decide +kernel) ⟨Nat.le_of_ble_eq_true rfl, Nat.le_of_ble_eq_true rfl⟩) hP hD hS hA hK hN [0, 1, 2, 3, 4, 5, 6, 7, 8, 9, 10, 11, 12, 13, 14, 15, 16, 17, 18, 19, 20, 21, 22, 23, 24, 25] [] [0, 1, 2, 3, 4, 5, 6, 7, 8, 9, 10, 11, 12, 13, 14, 15, 16, 17, 18, 19, 20, 21, 22, 23, 24, 25] rfl rfl (by decide) (by decide) (by decide) (fun _ => rfl) (by decide) 0 10 rfl rfl rfl hl.1 rfl (Nat.le_of_ble_eq_true rfl) dX10_walk_17 ⟨Nat.le_of_ble_eq_true rfl, Nat.le_of_ble_eq_true rfl⟩ (fun r8 u10 H locs h9 hP hD hS => ?_)
    obtain ⟨mahd_c11, emahd_c11⟩ : ∃ f : Nat → Int32, f = (u10.1 0) := ⟨_, rfl⟩
    have hP : va_P (dC, dI) vwCl (wMod cI cZ cQ b mday mdoo mdA mdB mfar mmar mtel mgai mfal mtop mstr mgho mfai mpto mwal mahd_c11 mahf_c7 mcho mbes mbyt mtxt mpos mtka mtok mdig mnum mfau mrdm mrea mlin mlne mthg mord mbor mbsm mans mand manr mali) H := by rw [emahd_c11]; exact hP
    have hD : va_D A (wMod cI cZ cQ b mday mdoo mdA mdB mfar mmar mtel mgai mfal mtop mstr mgho mfai mpto mwal mahd_c11 mahf_c7 mcho mbes mbyt mtxt mpos mtka mtok mdig mnum mfau mrdm mrea mlin mlne mthg mord mbor mbsm mans mand manr mali) := by rw [emahd_c11]; exact hD
    have h9 : (gwS mtop mgai.toInt (0) (ro.toInt * 6) (ro.toInt * 6 + 6) mahd_c6 mahd_c11 r8.toInt) ∧ (rg 240 (0) (100) mahd_c11) := by (try rw [emahd_c11]); exact h9
    obtain ⟨h9_0, h9_1⟩ := h9
    refine lv_istore_n (lv' := [(2, .int r8), (0, .ref (b 39)), (1, .int ro)]) hx hb dX10_walk_20 rfl hl (by decide) rfl (fun ls hl => ?_)
    refine lv_bipush (v := 6) hx hb dX10_walk_21 (by decide) ?_
    refine lv_iload_n hx hb dX10_walk_23 rfl (lv_at hl 2 rfl) ?_
    refine lv_imul hx hb dX10_walk_24 ?_
    have f12 : (6 * ro).toInt = (6) * (ro.toInt) := mulC (show (6 : Int32).toInt = 6 from rfl) rfl (by omega) (by omega)
    refine lv_topi (fun x13 ex13 => ?_)
    have ix13 : x13.toInt = (6) * (ro.toInt) := by rw [ex13]; exact f12
    refine lv_istore_n (lv' := [(3, .int x13), (2, .int r8), (0, .ref (b 39)), (1, .int ro)]) hx hb dX10_walk_25 rfl hl (by decide) rfl (fun ls hl => ?_)
    have L26 : ∀ (nn : Nat) (y26_3 : Int32) (mstr_26 : Nat → Int32) (H : Heap) (locs : List Loc) (ls : Array Slot), (rg 48 (0) (100) mstr_26) → (0 ≤ (y26_3.toInt)) → ((y26_3.toInt) ≤ 48) → (6 * ro.toInt ≤ (y26_3.toInt)) → ((y26_3.toInt) ≤ 6 * ro.toInt + 6) → (wlI mstr mahd_c11 (6 * ro.toInt) (y26_3.toInt) mstr_26) → (48 - (y26_3.toInt)).toNat < nn → va_P (dC, dI) vwCl (wMod cI cZ cQ b mday mdoo mdA mdB mfar mmar mtel mgai mfal mtop mstr_26 mgho mfai mpto mwal mahd_c11 mahf_c7 mcho mbes mbyt mtxt mpos mtka mtok mdig mnum mfau mrdm mrea mlin mlne mthg mord mbor mbsm mans mand manr mali) H → va_D A (wMod cI cZ cQ b mday mdoo mdA mdB mfar mmar mtel mgai mfal mtop mstr_26 mgho mfai mpto mwal mahd_c11 mahf_c7 mcho mbes mbyt mtxt mpos mtka mtok mdig mnum mfau mrdm mrea mlin mlne mthg mord mbor mbsm mans mand manr mali) → va_S A s.heap H locs → lv_has ls 4 [(0, .ref (b 39)), (1, .int ro), (2, .int r8), (3, .int y26_3)] → W p l e (headSpec wsX10_walk { frames := 2, cells := 0, slots := 0, locals := 42 }).room s m ([.ref (b 39), .int ro] : List Value).toArray below meth c H locs 0 0 (MQ below (va_Qi (fun (r : Int32) (u : US) => (spWlkM mtop mstr mwal mgai mday ro r (u.1 2) (u.1 3)) ∧ (rg 240 (0) (100) (u.1 0)) ∧ (rg 240 (0) (100) (u.1 1)) ∧ (rg 48 (0) (100) (u.1 2))) (Bw (dC, dI) A (fun u : US => (wMod cI cZ cQ b mday mdoo mdA mdB mfar mmar mtel mgai mfal mtop (u.1 2) mgho mfai mpto (u.1 3) (u.1 0) (u.1 1) mcho mbes mbyt mtxt mpos mtka mtok mdig mnum mfau mrdm mrea mlin mlne mthg mord mbor mbsm mans mand manr mali))) A) ([.ref (b 39), .int ro] : List Value).toArray s 0 0 A) (F0 m 26 ls []) := by
      intro nn
      induction nn with
      | zero =>
        intro y26_3 mstr_26 H locs ls r_mstr_26 i26_0 i26_1 i26_2 i26_3 i26_4 hm26
        exact absurd hm26 (Nat.not_lt_zero _)
      | succ nn ih26 =>
        intro y26_3 mstr_26 H locs ls r_mstr_26 i26_0 i26_1 i26_2 i26_3 i26_4 hm26 hP hD hS hl
        refine lv_iload_n hx hb dX10_walk_26 rfl (lv_at hl 3 rfl) ?_
        refine lv_bipush (v := 6) hx hb dX10_walk_27 (by decide) ?_
        refine lv_iload_n hx hb dX10_walk_29 rfl (lv_at hl 1 rfl) ?_
        refine lv_imul hx hb dX10_walk_30 ?_
        have f14 : (6 * ro).toInt = (6) * (ro.toInt) := mulC (show (6 : Int32).toInt = 6 from rfl) rfl (by omega) (by omega)
        refine lv_bipush (v := 6) hx hb dX10_walk_31 (by decide) ?_
        refine lv_iadd hx hb dX10_walk_33 ?_
        have f15 : ((6 * ro) + 6).toInt = ((6) * (ro.toInt)) + (6) := addC f14 (show (6 : Int32).toInt = 6 from rfl) (by omega) (by omega)
        refine lv_icmp_ge (tgt := 55) hx hb dX10_walk_34 (by decide) (fun c16 => ?_) (fun c16 => ?_)
        · have dc16 : ((6) * (ro.toInt)) + (6) ≤ y26_3.toInt := leC f15 rfl c16
          refine lv_aload_n hx hb dX10_walk_55 rfl (lv_at hl 0 rfl) ?_
          refine va_get (D := (dC, dI)) (ci := 10) (v := .ref (b 14)) (C := RX10) (T := TX10) (N := 39) hx hb hts inX10 hown hK hP 0 rfl rfl 14 (by decide) lf47 (fun _ h9 => h9) rfl dX10_walk_56 ?_
          refine lv_iload_n hx hb dX10_walk_59 rfl (lv_at hl 1 rfl) ?_
          refine lv_aload_n hx hb dX10_walk_60 rfl (lv_at hl 0 rfl) ?_
          refine va_get (D := (dC, dI)) (ci := 10) (v := .int mday) (C := RX10) (T := TX10) (N := 39) hx hb hts inX10 hown hK hP 0 rfl rfl 0 (by decide) lf125 (fun _ h9 => h9) rfl dX10_walk_61 ?_
          have b17 : vp_in ro 8 := inC rfl (by omega) (by omega)
          refine va_iast hx hb hK hP hD hS 11 0 rfl rfl b17 dX10_walk_64 (fun H locs hP hD hS => ?_)
          obtain ⟨mwal_u18, emwal_u18⟩ : ∃ f : Nat → Int32, f = upd mwal ro.toNatClampNeg mday := ⟨_, rfl⟩
          have hP : va_P (dC, dI) vwCl (wMod cI cZ cQ b mday mdoo mdA mdB mfar mmar mtel mgai mfal mtop mstr_26 mgho mfai mpto mwal_u18 mahd_c11 mahf_c7 mcho mbes mbyt mtxt mpos mtka mtok mdig mnum mfau mrdm mrea mlin mlne mthg mord mbor mbsm mans mand manr mali) H := by rw [emwal_u18]; exact hP
          have hD : va_D A (wMod cI cZ cQ b mday mdoo mdA mdB mfar mmar mtel mgai mfal mtop mstr_26 mgho mfai mpto mwal_u18 mahd_c11 mahf_c7 mcho mbes mbyt mtxt mpos mtka mtok mdig mnum mfau mrdm mrea mlin mlne mthg mord mbor mbsm mans mand manr mali) := by rw [emwal_u18]; exact hD
          refine lv_iload_n hx hb dX10_walk_65 rfl (lv_at hl 2 rfl) ?_
          exact W.iret (v := r8) hx hb hr (fun tq ht hW => ⟨⟨r8, (uS [mahd_c11, mahf_c7, mstr_26, mwal_u18] 0 (fun _ => 0)), rfl, ⟨(show spWlkM mtop mstr mwal mgai mday ro r8 mstr_26 mwal_u18 from by (first | exact Or.inl ⟨by omega, rfl, rfl, rfl⟩ | exact Or.inr ⟨by omega, wl_end (by assumption) (by omega) (by assumption) (by first | rfl | omega) (by omega) (by omega) (by omega) i26_4 (by omega) (by omega), by first | assumption | rfl⟩)), h9_1, h4_2, r_mstr_26⟩, by rw [ht]; exact hP, hD⟩, hS.F ht⟩) hS.2.2 dX10_walk_66
        · have dc16 : y26_3.toInt < ((6) * (ro.toInt)) + (6) := nleC f15 rfl c16
          refine lv_aload_n hx hb dX10_walk_37 rfl (lv_at hl 0 rfl) ?_
          refine va_get (D := (dC, dI)) (ci := 10) (v := .ref (b 10)) (C := RX10) (T := TX10) (N := 39) hx hb hts inX10 hown hK hP 0 rfl rfl 10 (by decide) lf35 (fun _ h9 => h9) rfl dX10_walk_38 ?_
          refine lv_iload_n hx hb dX10_walk_41 rfl (lv_at hl 3 rfl) ?_
          refine lv_aload_n hx hb dX10_walk_42 rfl (lv_at hl 0 rfl) ?_
          refine va_get (D := (dC, dI)) (ci := 10) (v := .ref (b 15)) (C := RX10) (T := TX10) (N := 39) hx hb hts inX10 hown hK hP 0 rfl rfl 15 (by decide) lf50 (fun _ h9 => h9) rfl dX10_walk_43 ?_
          refine lv_iload_n hx hb dX10_walk_46 rfl (lv_at hl 3 rfl) ?_
          have b19 : vp_in y26_3 240 := inC rfl (by omega) (by omega)
          refine va_iald hx hb hK hP 12 0 rfl rfl b19 dX10_walk_47 ?_
          have g20 : 0 ≤ (mahd_c11 y26_3.toNatClampNeg).toInt ∧ (mahd_c11 y26_3.toNatClampNeg).toInt ≤ 100 := rg_at h9_1 b19
          refine lv_topi (fun x21 ex21 => ?_)
          have ix21 : x21.toInt = (mahd_c11 y26_3.toNatClampNeg).toInt := by rw [ex21]
          have b22 : vp_in y26_3 48 := inC rfl (by omega) (by omega)
          have g23 : rg 48 (0) (100) (upd mstr_26 y26_3.toNatClampNeg x21) := rg_upd r_mstr_26 rfl (by omega) (by omega)
          refine va_iast hx hb hK hP hD hS 7 0 rfl rfl b22 dX10_walk_48 (fun H locs hP hD hS => ?_)
          obtain ⟨mstr_u24, emstr_u24⟩ : ∃ f : Nat → Int32, f = upd mstr_26 y26_3.toNatClampNeg x21 := ⟨_, rfl⟩
          have rmstr_u24 : rg 48 (0) (100) mstr_u24 := by rw [emstr_u24]; exact g23
          have hP : va_P (dC, dI) vwCl (wMod cI cZ cQ b mday mdoo mdA mdB mfar mmar mtel mgai mfal mtop mstr_u24 mgho mfai mpto mwal mahd_c11 mahf_c7 mcho mbes mbyt mtxt mpos mtka mtok mdig mnum mfau mrdm mrea mlin mlne mthg mord mbor mbsm mans mand manr mali) H := by rw [emstr_u24]; exact hP
          have hD : va_D A (wMod cI cZ cQ b mday mdoo mdA mdB mfar mmar mtel mgai mfal mtop mstr_u24 mgho mfai mpto mwal mahd_c11 mahf_c7 mcho mbes mbyt mtxt mpos mtka mtok mdig mnum mfau mrdm mrea mlin mlne mthg mord mbor mbsm mans mand manr mali) := by rw [emstr_u24]; exact hD
          obtain ⟨z25, ez25⟩ : ∃ y : Int32, y = y26_3 + 1 := ⟨_, rfl⟩
          have iz25 : z25.toInt = y26_3.toInt + 1 := by rw [ez25]; exact addC rfl rfl (by omega) (by omega)
          refine lv_iinc (v := z25) (lv' := [(3, .int z25), (0, .ref (b 39)), (1, .int ro), (2, .int r8)]) hx hb dX10_walk_49 hl (k := 3) rfl (by rw [ez25]; rfl) (by decide) rfl (fun ls hl => ?_)
          refine lv_goto (tgt := 26) hx hb dX10_walk_52 (by decide) ?_
          exact ih26 z25 mstr_u24 _ _ _ rmstr_u24 (by omega) (by omega) (by omega) (by omega) (by (first | exact wl_init (by omega) | exact wl_step i26_4 (by assumption) (by assumption) (by omega) (by omega) (by omega))) (by omega) hP hD hS (lv_sub hl [1, 2, 3, 0] rfl)
    exact L26 _ x13 mstr _ _ _ r_mstr (by omega) (by omega) (by omega) (by omega) (by (first | exact wl_init (by omega) | exact wl_step i26_4 (by assumption) (by assumption) (by omega) (by omega) (by omega))) (Nat.lt_succ_self _) hP hD hS (lv_sub hl [2, 3, 1, 0] rfl)
  · refine lv_if_ne (tgt := 10) hx hb dX10_walk_4 (by decide) (fun c9 => absurd (by decide) c9) (fun _ => ?_)
    refine lv_bipush (v := (-2)) hx hb dX10_walk_7 (by decide) ?_
    exact W.iret (v := (-2)) hx hb hr (fun tq ht hW => ⟨⟨(-2), (uS [mahd, mahf, mstr, mwal] 0 (fun _ => 0)), rfl, ⟨(show spWlkM mtop mstr mwal mgai mday ro ((-2) : Int32) mstr mwal from by (try rw [show ((-2) : Int32).toInt = (-2) from (show ((-2) : Int32).toInt = (-2) from rfl)]); (first | exact Or.inl ⟨by omega, rfl, rfl, rfl⟩ | exact Or.inr ⟨by omega, wl_end (by assumption) (by omega) (by assumption) (by first | rfl | omega) (by omega) (by omega) (by omega) i26_4 (by omega) (by omega), by first | assumption | rfl⟩)), r_mahd, r_mahf, r_mstr⟩, by rw [ht]; exact hP, hD⟩, hS.F ht⟩) hS.2.2 dX10_walk_9

