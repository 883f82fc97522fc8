set_option maxHeartbeats 4000000 in
set_option maxRecDepth 100000 in
theorem k_X10_code (l : Launch) (dC : Nat → ClassId) (dI : Nat → Nat → Nat) (cI cZ cQ : ClassId) (b : Nat → Nat) (mday : Int32) (mdoo : Int32) (mdA : Nat → Int32) (mdB : Nat → Int32) (mfar : Nat → Int32) (mmar : Nat → Int32) (mtel : Int32) (mgai : Int32) (mfal : Nat → Int32) (mtop : Nat → Int32) (mstr : Nat → Int32) (mgho : Nat → Int32) (mfai : Nat → Int32) (mpto : Nat → Int32) (mwal : Nat → Int32) (mahd : Nat → Int32) (mahf : Nat → Int32) (mcho : Nat → Int32) (mbes : Nat → Int32) (mbyt : Int32) (mtxt : Nat → Int32) (mpos : Int32) (mtka : Int32) (mtok : Int64) (mdig : Int32) (mnum : Int32) (mfau : Int32) (mrdm : Int32) (mrea : Nat → Int32) (mlin : Int32) (mlne : Nat → Int32) (mthg : Nat → Int32) (mord : Nat → Int32) (mbor : Nat → Int32) (mbsm : Int32) (mans : Nat → Int32) (mand : Nat → Int32) (manr : Nat → Int32) (mali : Nat → Int32) (sz : Nat) (row : Int64) (n : Int32) (i : Int32) (r_mday : 0 ≤ mday.toInt ∧ mday.toInt ≤ 400) (r_mdoo : 0 ≤ mdoo.toInt ∧ mdoo.toInt ≤ 14) (r_mdA : rg 14 (0) (7) mdA) (r_mdB : rg 14 (0) (7) mdB) (r_mmar : rg 24 (0) (255) mmar) (r_mgai : 0 ≤ mgai.toInt ∧ mgai.toInt ≤ 100) (r_mfal : rg 11 (0) (30) mfal) (r_mtop : rg 48 (-1) (23) mtop) (r_mstr : rg 48 (0) (100) mstr) (r_mgho : rg 48 (-1) (23) mgho) (r_mfai : rg 48 (0) (100) mfai) (r_mahd : rg 240 (0) (100) mahd) (r_mahf : rg 240 (0) (100) mahf) (r_mcho : rg 5 (-1) (9) mcho) (r_mbyt : 0 ≤ mbyt.toInt ∧ mbyt.toInt ≤ 160) (r_mpos : 0 ≤ mpos.toInt ∧ mpos.toInt ≤ 160) (r_mrdm : 0 ≤ mrdm.toInt ∧ mrdm.toInt ≤ 10) (r_mlin : 0 ≤ mlin.toInt ∧ mlin.toInt ≤ 10) (r_mthg : rg 8 (0) (31) mthg) (r_mord : rg 8 (-1) (8) mord) (r_mans : rg 4 (0) (12) mans) : KW l yX10_code wsX10_code { frames := 3, cells := 0, slots := 0, locals := 75 } (dC, dI) (TY cI cZ cQ) (wMod cI cZ cQ b mday mdoo mdA mdB mfar mmar mtel mgai mfal mtop mstr mgho mfai mpto mwal mahd mahf mcho mbes mbyt mtxt mpos mtka mtok mdig mnum mfau mrdm mrea mlin mlne mthg mord mbor mbsm mans mand manr mali) [.ref (b 39), .long row, .int n, .int i] sz 0 0 (fun (r : Int32) (u : US) => (rg 8 (0) (31) (u.1 0)) ∧ (rg 8 (-1) (8) (u.1 2))) (fun u : US => (wMod cI cZ cQ b mday mdoo mdA mdB mfar mmar mtel mgai mfal mtop mstr mgho mfai mpto mwal mahd mahf mcho mbes mbyt mtxt mpos mtka mtok mdig mnum mfau mrdm mrea mlin mlne (u.1 0) (u.1 2) (u.1 3) (u.1 1 0) mans mand manr mali)) := by
  refine Met.ofW (cc := cX10_code) (maxL := 6) (ret := (some .int)) (by decide) rfl ?_
  intro p e s m args below meth c s₁ B hml hv
  obtain ⟨rfl, hsz, hP, hK, hD0, hN⟩ := hv
  have hx := B.exec
  have hb := B.bytes
  have hr := B.returns
  have hts := atoms_spec (ws := wsX10_code) B.pre
  have hown : s.vm.findClass RX10 = some m.cls := findClass_of_methodNamed B.named
  have hlocks := B.notSynchronized
  have lf77 := hts (.fieldLink RX10 77 "PalaceOfRoomsModel" "bestOrder" "[I") (by decide +kernel)
  have inX10 : ∀ w ∈ wsX100, w ∈ wsX10_code := fun w h => List.mem_cons_of_mem _ (List.mem_append_right _ h)
  have lf225 := hts (.fieldLink RX10 225 "PalaceOfRoomsModel" "bestSum" "I") (by decide +kernel)
  subst hsz
  have hD := hD0.self (sz := s.heap.size)
  generalize hAe : va_A (wMod cI cZ cQ b mday mdoo mdA mdB mfar mmar mtel mgai mfal mtop mstr mgho mfai mpto mwal mahd mahf mcho mbes mbyt mtxt mpos mtka mtok mdig mnum mfau mrdm mrea mlin mlne mthg mord mbor mbsm mans mand manr mali) s.heap.size = A at hD ⊢
  have hA : ∀ q : Nat, s.heap.size ≤ q → A q := fun q h => by rw [← hAe]; exact Or.inr h
  have hS : va_S A s.heap s.heap [] := va_S.rf
  have hl := lv_entry ([.ref (b 39), .long row, .int n, .int i]) (n := 6) (Nat.le_of_ble_eq_true rfl)
  rw [lg_entry_eq]
  generalize (lg_sl ([.ref (b 39), .long row, .int n, .int i]) ++ List.replicate (6 - (lg_sl ([.ref (b 39), .long row, .int n, .int i])).length) Slot.unset).toArray = ls at hl ⊢
  have hl : lv_has ls 6 [(0, .ref (b 39)), (1, .long row), (3, .int n), (4, .int i)] := hl
  refine lv_iload_n hx hb dX10_code_0 rfl (lv_at hl 2 rfl) ?_
  refine lv_iconst (v := 2) hx hb dX10_code_1 (by decide) ?_
  refine lv_bipush (v := 6) hx hb dX10_code_2 (by decide) ?_
  refine rdS (As := [.int n, .int 2, .int 6]) (rest := []) ⟨hx, hb, hml, hown, hts⟩ (k_X10_in l dC dI cI cZ cQ n (2 : Int32) (6 : Int32)) (va_cwS 3 hts gX10_code_X10_in rfl rfl rfl (by decide +kernel) ⟨Nat.le_of_ble_eq_true rfl, Nat.le_of_ble_eq_true rfl⟩) hP hK hN [] rfl rfl hl.1 rfl (Nat.le_of_ble_eq_true rfl) dX10_code_4 ⟨Nat.le_of_ble_eq_true rfl, Nat.le_of_ble_eq_true rfl⟩ (fun r1 h2 => ?_)
  have h2 : ((((r1 = 1) ∧ ((2) ≤ n.toInt) ∧ (n.toInt ≤ (6))) ∨ ((r1 = 0) ∧ (n.toInt < (2) ∨ (6) < n.toInt)))) := h2
  rcases h2 with (⟨rfl, h2_a0, h2_a1⟩ | ⟨rfl, h2_a0⟩)
  · refine lv_if_ne (tgt := 13) hx hb dX10_code_7 (by decide) (fun _ => ?_) (fun c9 => absurd c9 (by decide))
    refine lv_aload_n hx hb dX10_code_13 rfl (lv_at hl 0 rfl) ?_
    refine lv_lload_n hx hb dX10_code_14 rfl (lv_at hl 1 rfl) ?_
    refine lv_iload_n hx hb dX10_code_15 rfl (lv_at hl 2 rfl) ?_
    refine wrV (As := [.long row, .int n]) (rest := []) (wr := []) (w2 := (fun u : US => (wMod cI cZ cQ b mday mdoo mdA mdB mfar mmar mtel mgai mfal mtop mstr mgho mfai mpto mwal mahd mahf mcho mbes mbyt mtxt mpos mtka mtok mdig mnum mfau mrdm mrea mlin mlne (u.1 0) mord mbor mbsm mans mand manr mali))) ⟨hx, hb, hml, hown, hts⟩ (k_X10_take l dC dI cI cZ cQ b mday mdoo mdA mdB mfar mmar mtel mgai mfal mtop mstr mgho mfai mpto mwal mahd mahf mcho mbes mbyt mtxt mpos mtka mtok mdig mnum mfau mrdm mrea mlin mlne mthg mord mbor mbsm mans mand manr mali _ row n r_mday r_mdoo r_mdA r_mdB r_mmar r_mgai r_mfal r_mtop r_mstr r_mgho r_mfai r_mahd r_mahf r_mcho r_mbyt r_mpos r_mrdm r_mlin r_mthg r_mord r_mans (by omega) (by omega)) (cwV 2 hts gX10_code_X10_take rfl rfl rfl (by decide +kernel) ⟨Nat.le_of_ble_eq_true rfl, Nat.le_of_ble_eq_true rfl⟩) hP hD hS hA hK hN [0, 1, 2, 3, 4, 5, 6, 7, 8, 9, 10, 11, 12, 13, 14, 15, 16, 17, 18, 19, 20, 21, 22, 23, 24, 25] [] [0, 1, 2, 3, 4, 5, 6, 7, 8, 9, 10, 11, 12, 13, 14, 15, 16, 17, 18, 19, 20, 21, 22, 23, 24, 25] rfl rfl (by decide) (by decide) (by decide) (fun _ => rfl) (by decide) 0 10 rfl rfl rfl hl.1 rfl (Nat.le_of_ble_eq_true rfl) dX10_code_16 ⟨Nat.le_of_ble_eq_true rfl, Nat.le_of_ble_eq_true rfl⟩ (fun r3 u5 H locs h4 hP hD hS => ?_)
    obtain ⟨mthg_c6, emthg_c6⟩ : ∃ f : Nat → Int32, f = (u5.1 0) := ⟨_, rfl⟩
    have hP : va_P (dC, dI) vwCl (wMod cI cZ cQ b mday mdoo mdA mdB mfar mmar mtel mgai mfal mtop mstr mgho mfai mpto mwal mahd mahf mcho mbes mbyt mtxt mpos mtka mtok mdig mnum mfau mrdm mrea mlin mlne mthg_c6 mord mbor mbsm mans mand manr mali) H := by rw [emthg_c6]; exact hP
    have hD : va_D A (wMod cI cZ cQ b mday mdoo mdA mdB mfar mmar mtel mgai mfal mtop mstr mgho mfai mpto mwal mahd mahf mcho mbes mbyt mtxt mpos mtka mtok mdig mnum mfau mrdm mrea mlin mlne mthg_c6 mord mbor mbsm mans mand manr mali) := by rw [emthg_c6]; exact hD
    have h4 : ((((r3 = 1) ∧ (∀ j : Nat, (j : Int) < n.toInt → (mthg_c6 j).toInt ≤ 23)) ∨ ((r3 = (-2))) ∨ ((r3 = (-3))))) ∧ (rg 8 (0) (31) mthg_c6) := by (try rw [emthg_c6]); exact h4
    rcases h4 with ⟨(⟨rfl, h4_a0⟩ | rfl | rfl), h4_0⟩
    · refine lv_istore (lv' := [(5, .int 1), (0, .ref (b 39)), (1, .long row), (3, .int n), (4, .int i)]) hx hb dX10_code_19 hl (by decide) rfl (fun ls hl => ?_)
      refine lv_iload hx hb dX10_code_21 (lv_at hl 0 rfl) ?_
      refine lv_iconst (v := 1) hx hb dX10_code_23 (by decide) ?_
      refine lv_icmp_eq (tgt := 30) hx hb dX10_code_24 (by decide) (fun _ => ?_) (fun c9 => absurd (by decide) c9)
      refine lv_iload hx hb dX10_code_30 (lv_at hl 4 rfl) ?_
      refine lv_iconst (v := (-1)) hx hb dX10_code_32 (by decide) ?_
      refine lv_icmp_ge (tgt := 39) hx hb dX10_code_33 (by decide) (fun c7 => ?_) (fun c7 => ?_)
      · have dc7 : (-1) ≤ i.toInt := leC (show ((-1) : Int32).toInt = (-1) from rfl) rfl c7
        refine lv_aload_n hx hb dX10_code_39 rfl (lv_at hl 1 rfl) ?_
        refine lv_iload_n hx hb dX10_code_40 rfl (lv_at hl 3 rfl) ?_
        refine lv_iconst (v := 0) hx hb dX10_code_41 (by decide) ?_
        refine wvV (As := [.int n, .int 0]) (rest := []) (wr := []) (w2 := (fun u : US => (wMod cI cZ cQ b mday mdoo mdA mdB mfar mmar mtel mgai mfal mtop mstr mgho mfai mpto mwal mahd mahf mcho mbes mbyt mtxt mpos mtka mtok mdig mnum mfau mrdm mrea mlin mlne mthg_c6 (u.1 1) (u.1 2) (u.1 0 0) mans mand manr mali))) ⟨hx, hb, hml, hown, hts⟩ (k_X10_findOrder l dC dI cI cZ cQ b mday mdoo mdA mdB mfar mmar mtel mgai mfal mtop mstr mgho mfai mpto mwal mahd mahf mcho mbes mbyt mtxt mpos mtka mtok mdig mnum mfau mrdm mrea mlin mlne mthg_c6 mord mbor mbsm mans mand manr mali _ n (0 : Int32) r_mday r_mdoo r_mdA r_mdB r_mmar r_mgai r_mfal r_mtop r_mstr r_mgho r_mfai r_mahd r_mahf r_mcho r_mbyt r_mpos r_mrdm r_mlin h4_0 r_mord r_mans (by omega) (by omega) (by assumption)) (cwV 2 hts gX10_code_X10_findOrder rfl rfl rfl (by decide +kernel) ⟨Nat.le_of_ble_eq_true rfl, Nat.le_of_ble_eq_true rfl⟩) hP hD hS hA hK hN [0, 1, 2, 3, 4, 5, 6, 7, 8, 9, 10, 11, 12, 13, 14, 15, 16, 17, 18, 19, 20, 21, 22, 23, 24, 25] [] [0, 1, 2, 3, 4, 5, 6, 7, 8, 9, 10, 11, 12, 13, 14, 15, 16, 17, 18, 19, 20, 21, 22, 23, 24, 25] rfl rfl (by decide) (by decide) (by decide) (fun _ => rfl) (by decide) 0 10 rfl rfl rfl hl.1 rfl (Nat.le_of_ble_eq_true rfl) dX10_code_42 ⟨Nat.le_of_ble_eq_true rfl, Nat.le_of_ble_eq_true rfl⟩ (fun u10 H locs h9 hP hD hS => ?_)
        obtain ⟨mbsm_c11, embsm_c11⟩ : ∃ f : Int32, f = (u10.1 0 0) := ⟨_, rfl⟩
        obtain ⟨mord_c12, emord_c12⟩ : ∃ f : Nat → Int32, f = (u10.1 1) := ⟨_, rfl⟩
        obtain ⟨mbor_c13, embor_c13⟩ : ∃ f : Nat → Int32, f = (u10.1 2) := ⟨_, rfl⟩
        have hP : va_P (dC, dI) vwCl (wMod cI cZ cQ b mday mdoo mdA mdB mfar mmar mtel mgai mfal mtop mstr mgho mfai mpto mwal mahd mahf mcho mbes mbyt mtxt mpos mtka mtok mdig mnum mfau mrdm mrea mlin mlne mthg_c6 mord_c12 mbor_c13 mbsm_c11 mans mand manr mali) H := by rw [embsm_c11, emord_c12, embor_c13]; exact hP
        have hD : va_D A (wMod cI cZ cQ b mday mdoo mdA mdB mfar mmar mtel mgai mfal mtop mstr mgho mfai mpto mwal mahd mahf mcho mbes mbyt mtxt mpos mtka mtok mdig mnum mfau mrdm mrea mlin mlne mthg_c6 mord_c12 mbor_c13 mbsm_c11 mans mand manr mali) := by rw [embsm_c11, emord_c12, embor_c13]; exact hD
        have h9 : (rg 8 (-1) (8) mord_c12) := by (try rw [embsm_c11]); (try rw [emord_c12]); (try rw [embor_c13]); exact h9
        have h9_0 := h9
        refine lv_iload hx hb dX10_code_45 (lv_at hl 4 rfl) ?_
        refine lv_iconst (v := (-1)) hx hb dX10_code_47 (by decide) ?_
        refine lv_icmp_ne (tgt := 58) hx hb dX10_code_48 (by decide) (fun c14 => ?_) (fun c14 => ?_)
        · have dc14 : 0 ≤ i.toInt := ka_lo (by omega) (neC rfl (show ((-1) : Int32).toInt = (-1) from rfl) c14)
          refine lv_iload hx hb dX10_code_58 (lv_at hl 4 rfl) ?_
          refine lv_iload_n hx hb dX10_code_60 rfl (lv_at hl 3 rfl) ?_
          refine lv_icmp_ge (tgt := 74) hx hb dX10_code_61 (by decide) (fun c15 => ?_) (fun c15 => ?_)
          · have dc15 : n.toInt ≤ i.toInt := leC rfl rfl c15
            refine lv_iconst (v := (-1)) hx hb dX10_code_74 (by decide) ?_
            exact W.iret (v := (-1)) hx hb hr (fun tq ht hW => ⟨⟨(-1), (uS [mthg_c6, (fun _ => mbsm_c11), mord_c12, mbor_c13] 0 (fun _ => 0)), rfl, ⟨h4_0, h9_0⟩, by rw [ht]; exact hP, hD⟩, hS.F ht⟩) hS.2.2 dX10_code_75
          · have dc15 : i.toInt < n.toInt := nleC rfl rfl c15
            refine lv_aload_n hx hb dX10_code_64 rfl (lv_at hl 1 rfl) ?_
            refine va_get (D := (dC, dI)) (ci := 10) (v := .ref (b 33)) (C := RX10) (T := TX10) (N := 39) hx hb hts inX10 hown hK hP 0 rfl rfl 33 (by decide) lf77 (fun _ h9 => h9) rfl dX10_code_65 ?_
            refine lv_iload hx hb dX10_code_68 (lv_at hl 4 rfl) ?_
            have b16 : vp_in i 8 := inC rfl (by omega) (by omega)
            refine va_iald hx hb hK hP 21 0 rfl rfl b16 dX10_code_70 ?_
            refine lv_goto (tgt := 75) hx hb dX10_code_71 (by decide) ?_
            exact W.iret (v := mbor_c13 i.toNatClampNeg) hx hb hr (fun tq ht hW => ⟨⟨mbor_c13 i.toNatClampNeg, (uS [mthg_c6, (fun _ => mbsm_c11), mord_c12, mbor_c13] 0 (fun _ => 0)), rfl, ⟨h4_0, h9_0⟩, by rw [ht]; exact hP, hD⟩, hS.F ht⟩) hS.2.2 dX10_code_75
        · have dc14 : i.toInt = (-1) := eqC rfl (show ((-1) : Int32).toInt = (-1) from rfl) c14
          refine lv_aload_n hx hb dX10_code_51 rfl (lv_at hl 1 rfl) ?_
          refine va_get (D := (dC, dI)) (ci := 10) (v := .int mbsm_c11) (C := RX10) (T := TX10) (N := 39) hx hb hts inX10 hown hK hP 0 rfl rfl 34 (by decide) lf225 (fun _ h9 => h9) rfl dX10_code_52 ?_
          refine lv_goto (tgt := 75) hx hb dX10_code_55 (by decide) ?_
          exact W.iret (v := mbsm_c11) hx hb hr (fun tq ht hW => ⟨⟨mbsm_c11, (uS [mthg_c6, (fun _ => mbsm_c11), mord_c12, mbor_c13] 0 (fun _ => 0)), rfl, ⟨h4_0, h9_0⟩, by rw [ht]; exact hP, hD⟩, hS.F ht⟩) hS.2.2 dX10_code_75
      · have dc7 : i.toInt < (-1) := nleC (show ((-1) : Int32).toInt = (-1) from rfl) rfl c7
        refine lv_bipush (v := (-3)) hx hb dX10_code_36 (by decide) ?_
        exact W.iret (v := (-3)) hx hb hr (fun tq ht hW => ⟨⟨(-3), (uS [mthg_c6, (fun _ => mbsm), mord, mbor] 0 (fun _ => 0)), rfl, ⟨h4_0, r_mord⟩, by rw [ht]; exact hP, hD⟩, hS.F ht⟩) hS.2.2 dX10_code_38
    · refine lv_istore (lv' := [(5, .int (-2)), (0, .ref (b 39)), (1, .long row), (3, .int n), (4, .int i)]) hx hb dX10_code_19 hl (by decide) rfl (fun ls hl => ?_)
      refine lv_iload hx hb dX10_code_21 (lv_at hl 0 rfl) ?_
      refine lv_iconst (v := 1) hx hb dX10_code_23 (by decide) ?_
      refine lv_icmp_eq (tgt := 30) hx hb dX10_code_24 (by decide) (fun c9 => absurd c9 (by decide)) (fun _ => ?_)
      refine lv_iload hx hb dX10_code_27 (lv_at hl 0 rfl) ?_
      exact W.iret (v := (-2)) hx hb hr (fun tq ht hW => ⟨⟨(-2), (uS [mthg_c6, (fun _ => mbsm), mord, mbor] 0 (fun _ => 0)), rfl, ⟨h4_0, r_mord⟩, by rw [ht]; exact hP, hD⟩, hS.F ht⟩) hS.2.2 dX10_code_29
    · refine lv_istore (lv' := [(5, .int (-3)), (0, .ref (b 39)), (1, .long row), (3, .int n), (4, .int i)]) hx hb dX10_code_19 hl (by decide) rfl (fun ls hl => ?_)
      refine lv_iload hx hb dX10_code_21 (lv_at hl 0 rfl) ?_
      refine lv_iconst (v := 1) hx hb dX10_code_23 (by decide) ?_
      refine lv_icmp_eq (tgt := 30) hx hb dX10_code_24 (by decide) (fun c9 => absurd c9 (by decide)) (fun _ => ?_)
      refine lv_iload hx hb dX10_code_27 (lv_at hl 0 rfl) ?_
      exact W.iret (v := (-3)) hx hb hr (fun tq ht hW => ⟨⟨(-3), (uS [mthg_c6, (fun _ => mbsm), mord, mbor] 0 (fun _ => 0)), rfl, ⟨h4_0, r_mord⟩, by rw [ht]; exact hP, hD⟩, hS.F ht⟩) hS.2.2 dX10_code_29
  · refine lv_if_ne (tgt := 13) hx hb dX10_code_7 (by decide) (fun c9 => absurd (by decide) c9) (fun _ => ?_)
    refine lv_bipush (v := (-3)) hx hb dX10_code_10 (by decide) ?_
    exact W.iret (v := (-3)) hx hb hr (fun tq ht hW => ⟨⟨(-3), (uS [mthg, (fun _ => mbsm), mord, mbor] 0 (fun _ => 0)), rfl, ⟨r_mthg, r_mord⟩, by rw [ht]; exact hP, hD⟩, hS.F ht⟩) hS.2.2 dX10_code_12

