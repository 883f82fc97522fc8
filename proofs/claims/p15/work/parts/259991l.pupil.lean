set_option maxHeartbeats 4000000 in
set_option maxRecDepth 100000 in
theorem k_X10_answer2 (l : Launch) (dC : Nat → ClassId) (dI : Nat → Nat → Nat) (cI cZ cQ : ClassId) (b : Nat → Nat) (mday : Int32) (mdoo : Int32) (mdA : Nat → Int32) (mdB : Nat → Int32) (mfar : Nat → Int32) (mmar : Nat → Int32) (mtel : Int32) (mgai : Int32) (mfal : Nat → Int32) (mtop : Nat → Int32) (mstr : Nat → Int32) (mgho : Nat → Int32) (mfai : Nat → Int32) (mpto : Nat → Int32) (mwal : Nat → Int32) (mahd : Nat → Int32) (mahf : Nat → Int32) (mcho : Nat → Int32) (mbes : Nat → Int32) (mbyt : Int32) (mtxt : Nat → Int32) (mpos : Int32) (mtka : Int32) (mtok : Int64) (mdig : Int32) (mnum : Int32) (mfau : Int32) (mrdm : Int32) (mrea : Nat → Int32) (mlin : Int32) (mlne : Nat → Int32) (mthg : Nat → Int32) (mord : Nat → Int32) (mbor : Nat → Int32) (mbsm : Int32) (mans : Nat → Int32) (mand : Nat → Int32) (manr : Nat → Int32) (mali : Nat → Int32) (sz : Nat) (pp : Int32) (dd : Int32) (ri : Int32) (r_mday : 0 ≤ mday.toInt ∧ mday.toInt ≤ 400) (r_mdoo : 0 ≤ mdoo.toInt ∧ mdoo.toInt ≤ 14) (r_mdA : rg 14 (0) (7) mdA) (r_mdB : rg 14 (0) (7) mdB) (r_mmar : rg 24 (0) (255) mmar) (r_mgai : 0 ≤ mgai.toInt ∧ mgai.toInt ≤ 100) (r_mfal : rg 11 (0) (30) mfal) (r_mtop : rg 48 (-1) (23) mtop) (r_mstr : rg 48 (0) (100) mstr) (r_mgho : rg 48 (-1) (23) mgho) (r_mfai : rg 48 (0) (100) mfai) (r_mahd : rg 240 (0) (100) mahd) (r_mahf : rg 240 (0) (100) mahf) (r_mcho : rg 5 (-1) (9) mcho) (r_mbyt : 0 ≤ mbyt.toInt ∧ mbyt.toInt ≤ 160) (r_mpos : 0 ≤ mpos.toInt ∧ mpos.toInt ≤ 160) (r_mrdm : 0 ≤ mrdm.toInt ∧ mrdm.toInt ≤ 10) (r_mlin : 0 ≤ mlin.toInt ∧ mlin.toInt ≤ 10) (r_mthg : rg 8 (0) (31) mthg) (r_mord : rg 8 (-1) (8) mord) (r_mans : rg 4 (0) (12) mans) : KW l yX10_answer wsX10_answer { frames := 2, cells := 0, slots := 0, locals := 42 } (dC, dI) (TY cI cZ cQ) (wMod cI cZ cQ b mday mdoo mdA mdB mfar mmar mtel mgai mfal mtop mstr mgho mfai mpto mwal mahd mahf mcho mbes mbyt mtxt mpos mtka mtok mdig mnum mfau mrdm mrea mlin mlne mthg mord mbor mbsm mans mand manr mali) [.ref (b 39), .int pp, .int dd, .int ri] sz 0 0 (fun (r : Int32) (u : US) => (spAnM mans mand manr pp dd ri r (u.1 0) (u.1 1) (u.1 2)) ∧ (rg 4 (0) (12) (u.1 0))) (fun u : US => (wMod cI cZ cQ b mday mdoo mdA mdB mfar mmar mtel mgai mfal mtop mstr mgho mfai mpto mwal mahd mahf mcho mbes mbyt mtxt mpos mtka mtok mdig mnum mfau mrdm mrea mlin mlne mthg mord mbor mbsm (u.1 0) (u.1 1) (u.1 2) mali)) := by
  refine Met.ofW (cc := cX10_answer) (maxL := 4) (ret := (some .int)) (by decide) rfl ?_
  intro p e s m args below meth c s₁ B hml hv
  obtain ⟨rfl, hsz, hP, hK, hD0, hN⟩ := hv
  have hx := B.exec
  have hb := B.bytes
  have hr := B.returns
  have hts := atoms_spec (ws := wsX10_answer) B.pre
  have hown : s.vm.findClass RX10 = some m.cls := findClass_of_methodNamed B.named
  have hlocks := B.notSynchronized
  have lf80 := hts (.fieldLink RX10 80 "PalaceOfRoomsModel" "answers" "[I") (List.mem_cons_of_mem _ (List.mem_append_left _ (List.mem_of_getElem? (i := 0) rfl)))
  have inX10 : ∀ w ∈ wsX100, w ∈ wsX10_answer := fun w h => List.mem_cons_of_mem _ (List.mem_append_right _ h)
  have lf83 := hts (.fieldLink RX10 83 "PalaceOfRoomsModel" "answerDay" "[I") (List.mem_cons_of_mem _ (List.mem_append_left _ (List.mem_of_getElem? (i := 1) rfl)))
  have lf86 := hts (.fieldLink RX10 86 "PalaceOfRoomsModel" "answerRight" "[Z") (List.mem_cons_of_mem _ (List.mem_append_left _ (List.mem_of_getElem? (i := 2) rfl)))
  subst hsz
  have hD := hD0.self (sz := s.heap.size)
  generalize hAe : va_A (wMod cI cZ cQ b mday mdoo mdA mdB mfar mmar mtel mgai mfal mtop mstr mgho mfai mpto mwal mahd mahf mcho mbes mbyt mtxt mpos mtka mtok mdig mnum mfau mrdm mrea mlin mlne mthg mord mbor mbsm mans mand manr mali) s.heap.size = A at hD ⊢
  have hA : ∀ q : Nat, s.heap.size ≤ q → A q := fun q h => by rw [← hAe]; exact Or.inr h
  have hS : va_S A s.heap s.heap [] := va_S.rf
  have hl := lv_entry ([.ref (b 39), .int pp, .int dd, .int ri]) (n := 4) (Nat.le_of_ble_eq_true rfl)
  rw [lg_entry_eq]
  generalize (lg_sl ([.ref (b 39), .int pp, .int dd, .int ri]) ++ List.replicate (4 - (lg_sl ([.ref (b 39), .int pp, .int dd, .int ri])).length) Slot.unset).toArray = ls at hl ⊢
  have hl : lv_has ls 4 [(0, .ref (b 39)), (1, .int pp), (2, .int dd), (3, .int ri)] := hl
  refine lv_iload_n hx hb dX10_answer_0 rfl (lv_at hl 1 rfl) ?_
  refine rdS (As := [.int pp]) (rest := []) ⟨hx, hb, hml, hown, hts⟩ (k_X10_isPupil l dC dI cI cZ cQ pp) (va_cwS 1 hts gX10_answer_X10_isPupil rfl rfl rfl (by decide +kernel) ⟨Nat.le_of_ble_eq_true rfl, Nat.le_of_ble_eq_true rfl⟩) hP hK hN [] rfl rfl hl.1 rfl (Nat.le_of_ble_eq_true rfl) dX10_answer_1 ⟨Nat.le_of_ble_eq_true rfl, Nat.le_of_ble_eq_true rfl⟩ (fun r1 h2 => ?_)
  have h2 : ((((r1 = 1) ∧ (0 ≤ pp.toInt) ∧ (pp.toInt ≤ 3)) ∨ ((r1 = 0) ∧ (pp.toInt < 0 ∨ 3 < pp.toInt)))) := h2
  rcases h2 with (⟨rfl, h2_a0, h2_a1⟩ | ⟨rfl, h2_a0⟩)
  · refine lv_if_ne (tgt := 10) hx hb dX10_answer_4 (by decide) (fun _ => ?_) (fun c9 => absurd c9 (by decide))
    refine lv_iload_n hx hb dX10_answer_10 rfl (lv_at hl 2 rfl) ?_
    refine lv_iconst (v := 1) hx hb dX10_answer_11 (by decide) ?_
    refine lv_bipush (v := 60) hx hb dX10_answer_12 (by decide) ?_
    refine rdS (As := [.int dd, .int 1, .int 60]) (rest := []) ⟨hx, hb, hml, hown, hts⟩ (k_X10_in l dC dI cI cZ cQ dd (1 : Int32) (60 : Int32)) (va_cwS 3 hts gX10_answer_X10_in rfl rfl rfl (by decide +kernel) ⟨Nat.le_of_ble_eq_true rfl, Nat.le_of_ble_eq_true rfl⟩) hP hK hN [] rfl rfl hl.1 rfl (Nat.le_of_ble_eq_true rfl) dX10_answer_14 ⟨Nat.le_of_ble_eq_true rfl, Nat.le_of_ble_eq_true rfl⟩ (fun r3 h4 => ?_)
    have h4 : ((((r3 = 1) ∧ ((1) ≤ dd.toInt) ∧ (dd.toInt ≤ (60))) ∨ ((r3 = 0) ∧ (dd.toInt < (1) ∨ (60) < dd.toInt)))) := h4
    rcases h4 with (⟨rfl, h4_a0, h4_a1⟩ | ⟨rfl, h4_a0⟩)
    · refine lv_if_ne (tgt := 23) hx hb dX10_answer_17 (by decide) (fun _ => ?_) (fun c9 => absurd c9 (by decide))
      refine lv_aload_n hx hb dX10_answer_23 rfl (lv_at hl 0 rfl) ?_
      refine va_get (D := (dC, dI)) (ci := 10) (v := .ref (b 35)) (C := RX10) (T := TX10) (N := 39) hx hb hts inX10 hown hK hP 0 rfl rfl 35 (by decide) lf80 (fun _ h9 => h9) rfl dX10_answer_24 ?_
      refine lv_iload_n hx hb dX10_answer_27 rfl (lv_at hl 1 rfl) ?_
      have b5 : vp_in pp 4 := inC rfl (by omega) (by omega)
      refine va_iald hx hb hK hP 22 0 rfl rfl b5 dX10_answer_28 ?_
      have g6 : 0 ≤ (mans pp.toNatClampNeg).toInt ∧ (mans pp.toNatClampNeg).toInt ≤ 12 := rg_at r_mans b5
      refine lv_bipush (v := 12) hx hb dX10_answer_29 (by decide) ?_
      refine lv_icmp_ne (tgt := 37) hx hb dX10_answer_31 (by decide) (fun c7 => ?_) (fun c7 => ?_)
      · have dc7 : (mans pp.toNatClampNeg).toInt ≤ 11 := ka_hi (by omega) (neC rfl (show (12 : Int32).toInt = 12 from rfl) c7)
        refine lv_aload_n hx hb dX10_answer_37 rfl (lv_at hl 0 rfl) ?_
        refine va_get (D := (dC, dI)) (ci := 10) (v := .ref (b 36)) (C := RX10) (T := TX10) (N := 39) hx hb hts inX10 hown hK hP 0 rfl rfl 36 (by decide) lf83 (fun _ h9 => h9) rfl dX10_answer_38 ?_
        refine lv_bipush (v := 12) hx hb dX10_answer_41 (by decide) ?_
        refine lv_iload_n hx hb dX10_answer_43 rfl (lv_at hl 1 rfl) ?_
        refine lv_imul hx hb dX10_answer_44 ?_
        have f8 : (12 * pp).toInt = (12) * (pp.toInt) := mulC (show (12 : Int32).toInt = 12 from rfl) rfl (by omega) (by omega)
        refine lv_aload_n hx hb dX10_answer_45 rfl (lv_at hl 0 rfl) ?_
        refine va_get (D := (dC, dI)) (ci := 10) (v := .ref (b 35)) (C := RX10) (T := TX10) (N := 39) hx hb hts inX10 hown hK hP 0 rfl rfl 35 (by decide) lf80 (fun _ h9 => h9) rfl dX10_answer_46 ?_
        refine lv_iload_n hx hb dX10_answer_49 rfl (lv_at hl 1 rfl) ?_
        have b9 : vp_in pp 4 := inC rfl (by omega) (by omega)
        refine va_iald hx hb hK hP 22 0 rfl rfl b9 dX10_answer_50 ?_
        have g10 : 0 ≤ (mans pp.toNatClampNeg).toInt ∧ (mans pp.toNatClampNeg).toInt ≤ 12 := rg_at r_mans b9
        refine lv_iadd hx hb dX10_answer_51 ?_
        have f11 : ((12 * pp) + (mans pp.toNatClampNeg)).toInt = ((12) * (pp.toInt)) + ((mans pp.toNatClampNeg).toInt) := addC f8 rfl (by omega) (by omega)
        refine lv_iload_n hx hb dX10_answer_52 rfl (lv_at hl 2 rfl) ?_
        have b12 : vp_in ((12 * pp) + (mans pp.toNatClampNeg)) 48 := inC f11 (by omega) (by omega)
        refine va_iast hx hb hK hP hD hS 23 0 rfl rfl b12 dX10_answer_53 (fun H locs hP hD hS => ?_)
        obtain ⟨mand_u13, emand_u13⟩ : ∃ f : Nat → Int32, f = upd mand ((12 * pp) + (mans pp.toNatClampNeg)).toNatClampNeg dd := ⟨_, rfl⟩
        have hP : va_P (dC, dI) vwCl (wMod cI cZ cQ b mday mdoo mdA mdB mfar mmar mtel mgai mfal mtop mstr mgho mfai mpto mwal mahd mahf mcho mbes mbyt mtxt mpos mtka mtok mdig mnum mfau mrdm mrea mlin mlne mthg mord mbor mbsm mans mand_u13 manr mali) H := by rw [emand_u13]; exact hP
        have hD : va_D A (wMod cI cZ cQ b mday mdoo mdA mdB mfar mmar mtel mgai mfal mtop mstr mgho mfai mpto mwal mahd mahf mcho mbes mbyt mtxt mpos mtka mtok mdig mnum mfau mrdm mrea mlin mlne mthg mord mbor mbsm mans mand_u13 manr mali) := by rw [emand_u13]; exact hD
        refine lv_aload_n hx hb dX10_answer_54 rfl (lv_at hl 0 rfl) ?_
        refine va_get (D := (dC, dI)) (ci := 10) (v := .ref (b 37)) (C := RX10) (T := TX10) (N := 39) hx hb hts inX10 hown hK hP 0 rfl rfl 37 (by decide) lf86 (fun _ h9 => h9) rfl dX10_answer_55 ?_
        refine lv_bipush (v := 12) hx hb dX10_answer_58 (by decide) ?_
        refine lv_iload_n hx hb dX10_answer_60 rfl (lv_at hl 1 rfl) ?_
        refine lv_imul hx hb dX10_answer_61 ?_
        have f14 : (12 * pp).toInt = (12) * (pp.toInt) := mulC (show (12 : Int32).toInt = 12 from rfl) rfl (by omega) (by omega)
        refine lv_aload_n hx hb dX10_answer_62 rfl (lv_at hl 0 rfl) ?_
        refine va_get (D := (dC, dI)) (ci := 10) (v := .ref (b 35)) (C := RX10) (T := TX10) (N := 39) hx hb hts inX10 hown hK hP 0 rfl rfl 35 (by decide) lf80 (fun _ h9 => h9) rfl dX10_answer_63 ?_
        refine lv_iload_n hx hb dX10_answer_66 rfl (lv_at hl 1 rfl) ?_
        have b15 : vp_in pp 4 := inC rfl (by omega) (by omega)
        refine va_iald hx hb hK hP 22 0 rfl rfl b15 dX10_answer_67 ?_
        have g16 : 0 ≤ (mans pp.toNatClampNeg).toInt ∧ (mans pp.toNatClampNeg).toInt ≤ 12 := rg_at r_mans b15
        refine lv_iadd hx hb dX10_answer_68 ?_
        have f17 : ((12 * pp) + (mans pp.toNatClampNeg)).toInt = ((12) * (pp.toInt)) + ((mans pp.toNatClampNeg).toInt) := addC f14 rfl (by omega) (by omega)
        refine lv_iload_n hx hb dX10_answer_69 rfl (lv_at hl 3 rfl) ?_
        have b18 : vp_in ((12 * pp) + (mans pp.toNatClampNeg)) 48 := inC f17 (by omega) (by omega)
        refine va_zast hx hb hK hP hD hS 24 1 rfl rfl b18 dX10_answer_70 (fun H locs hP hD hS => ?_)
        obtain ⟨manr_u19, emanr_u19⟩ : ∃ f : Nat → Int32, f = upd manr ((12 * pp) + (mans pp.toNatClampNeg)).toNatClampNeg (vp_nar .boolean ri) := ⟨_, rfl⟩
        have hP : va_P (dC, dI) vwCl (wMod cI cZ cQ b mday mdoo mdA mdB mfar mmar mtel mgai mfal mtop mstr mgho mfai mpto mwal mahd mahf mcho mbes mbyt mtxt mpos mtka mtok mdig mnum mfau mrdm mrea mlin mlne mthg mord mbor mbsm mans mand_u13 manr_u19 mali) H := by rw [emanr_u19]; exact hP
        have hD : va_D A (wMod cI cZ cQ b mday mdoo mdA mdB mfar mmar mtel mgai mfal mtop mstr mgho mfai mpto mwal mahd mahf mcho mbes mbyt mtxt mpos mtka mtok mdig mnum mfau mrdm mrea mlin mlne mthg mord mbor mbsm mans mand_u13 manr_u19 mali) := by rw [emanr_u19]; exact hD
        refine lv_aload_n hx hb dX10_answer_71 rfl (lv_at hl 0 rfl) ?_
        refine va_get (D := (dC, dI)) (ci := 10) (v := .ref (b 35)) (C := RX10) (T := TX10) (N := 39) hx hb hts inX10 hown hK hP 0 rfl rfl 35 (by decide) lf80 (fun _ h9 => h9) rfl dX10_answer_72 ?_
        refine lv_iload_n hx hb dX10_answer_75 rfl (lv_at hl 1 rfl) ?_
        refine lv_dup2_11 hx hb dX10_answer_76 rfl rfl ?_
        have b20 : vp_in pp 4 := inC rfl (by omega) (by omega)
        refine va_iald hx hb hK hP 22 0 rfl rfl b20 dX10_answer_77 ?_
        have g21 : 0 ≤ (mans pp.toNatClampNeg).toInt ∧ (mans pp.toNatClampNeg).toInt ≤ 12 := rg_at r_mans b20
        refine lv_iconst (v := 1) hx hb dX10_answer_78 (by decide) ?_
        refine lv_iadd hx hb dX10_answer_79 ?_
        have f22 : ((mans pp.toNatClampNeg) + 1).toInt = ((mans pp.toNatClampNeg).toInt) + (1) := addC rfl (show (1 : Int32).toInt = 1 from rfl) (by omega) (by omega)
        refine lv_topi (fun x23 ex23 => ?_)
        have ix23 : x23.toInt = ((mans pp.toNatClampNeg).toInt) + (1) := by rw [ex23]; exact f22
        have b24 : vp_in pp 4 := inC rfl (by omega) (by omega)
        have g25 : rg 4 (0) (12) (upd mans pp.toNatClampNeg x23) := rg_upd r_mans rfl (by omega) (by omega)
        refine va_iast hx hb hK hP hD hS 22 0 rfl rfl b24 dX10_answer_80 (fun H locs hP hD hS => ?_)
        obtain ⟨mans_u26, emans_u26⟩ : ∃ f : Nat → Int32, f = upd mans pp.toNatClampNeg x23 := ⟨_, rfl⟩
        have rmans_u26 : rg 4 (0) (12) mans_u26 := by rw [emans_u26]; exact g25
        have hP : va_P (dC, dI) vwCl (wMod cI cZ cQ b mday mdoo mdA mdB mfar mmar mtel mgai mfal mtop mstr mgho mfai mpto mwal mahd mahf mcho mbes mbyt mtxt mpos mtka mtok mdig mnum mfau mrdm mrea mlin mlne mthg mord mbor mbsm mans_u26 mand_u13 manr_u19 mali) H := by rw [emans_u26]; exact hP
        have hD : va_D A (wMod cI cZ cQ b mday mdoo mdA mdB mfar mmar mtel mgai mfal mtop mstr mgho mfai mpto mwal mahd mahf mcho mbes mbyt mtxt mpos mtka mtok mdig mnum mfau mrdm mrea mlin mlne mthg mord mbor mbsm mans_u26 mand_u13 manr_u19 mali) := by rw [emans_u26]; exact hD
        refine lv_aload_n hx hb dX10_answer_81 rfl (lv_at hl 0 rfl) ?_
        refine va_get (D := (dC, dI)) (ci := 10) (v := .ref (b 35)) (C := RX10) (T := TX10) (N := 39) hx hb hts inX10 hown hK hP 0 rfl rfl 35 (by decide) lf80 (fun _ h9 => h9) rfl dX10_answer_82 ?_
        refine lv_iload_n hx hb dX10_answer_85 rfl (lv_at hl 1 rfl) ?_
        have b27 : vp_in pp 4 := inC rfl (by omega) (by omega)
        refine va_iald hx hb hK hP 22 0 rfl rfl b27 dX10_answer_86 ?_
        have g28 : 0 ≤ (mans_u26 pp.toNatClampNeg).toInt ∧ (mans_u26 pp.toNatClampNeg).toInt ≤ 12 := rg_at rmans_u26 b27
        have o29 : (mans_u26 pp.toNatClampNeg).toInt = x23.toInt := by rw [emans_u26, pk_us]
        exact W.iret (v := mans_u26 pp.toNatClampNeg) hx hb hr (fun tq ht hW => ⟨⟨mans_u26 pp.toNatClampNeg, (uS [mans_u26, mand_u13, manr_u19] 0 (fun _ => 0)), rfl, ⟨(show spAnM mans mand manr pp dd ri (mans_u26 pp.toNatClampNeg) mans_u26 mand_u13 manr_u19 from by exact ⟨by (unfold spAns; subst_vars; first | exact Or.inl ⟨by omega, rfl, rfl⟩ | exact Or.inr (Or.inl ⟨by omega, by omega, rfl, rfl⟩) | exact Or.inr (Or.inr (Or.inl ⟨by omega, by omega, by omega, rfl, rfl⟩)) | exact Or.inr (Or.inr (Or.inr ⟨by omega, by omega, by omega, by (first | rfl | exact pk_us), rfl⟩))), by (first | exact Or.inl ⟨by decide, rfl, rfl⟩ | exact Or.inr ⟨by omega, by (first | exact an_ix (by assumption) (by assumption) | assumption), by (first | exact an_ix (by assumption) (by assumption) | assumption)⟩)⟩), rmans_u26⟩, by rw [ht]; exact hP, hD⟩, hS.F ht⟩) hS.2.2 dX10_answer_87
      · have dc7 : (mans pp.toNatClampNeg).toInt = 12 := eqC rfl (show (12 : Int32).toInt = 12 from rfl) c7
        refine lv_bipush (v := (-5)) hx hb dX10_answer_34 (by decide) ?_
        exact W.iret (v := (-5)) hx hb hr (fun tq ht hW => ⟨⟨(-5), (uS [mans, mand, manr] 0 (fun _ => 0)), rfl, ⟨(show spAnM mans mand manr pp dd ri ((-5) : Int32) mans mand manr from by (try rw [show ((-5) : Int32).toInt = (-5) from (show ((-5) : Int32).toInt = (-5) from rfl)]); exact ⟨by (unfold spAns; subst_vars; first | exact Or.inl ⟨by omega, rfl, rfl⟩ | exact Or.inr (Or.inl ⟨by omega, by omega, rfl, rfl⟩) | exact Or.inr (Or.inr (Or.inl ⟨by omega, by omega, by omega, rfl, rfl⟩)) | exact Or.inr (Or.inr (Or.inr ⟨by omega, by omega, by omega, by (first | rfl | exact pk_us), rfl⟩))), by (first | exact Or.inl ⟨by decide, rfl, rfl⟩ | exact Or.inr ⟨by omega, by (first | exact an_ix (by assumption) (by assumption) | assumption), by (first | exact an_ix (by assumption) (by assumption) | assumption)⟩)⟩), r_mans⟩, by rw [ht]; exact hP, hD⟩, hS.F ht⟩) hS.2.2 dX10_answer_36
    · refine lv_if_ne (tgt := 23) hx hb dX10_answer_17 (by decide) (fun c9 => absurd (by decide) c9) (fun _ => ?_)
      refine lv_bipush (v := (-3)) hx hb dX10_answer_20 (by decide) ?_
      exact W.iret (v := (-3)) hx hb hr (fun tq ht hW => ⟨⟨(-3), (uS [mans, mand, manr] 0 (fun _ => 0)), rfl, ⟨(show spAnM mans mand manr pp dd ri ((-3) : Int32) mans mand manr from by (try rw [show ((-3) : Int32).toInt = (-3) from (show ((-3) : Int32).toInt = (-3) from rfl)]); exact ⟨by (unfold spAns; subst_vars; first | exact Or.inl ⟨by omega, rfl, rfl⟩ | exact Or.inr (Or.inl ⟨by omega, by omega, rfl, rfl⟩) | exact Or.inr (Or.inr (Or.inl ⟨by omega, by omega, by omega, rfl, rfl⟩)) | exact Or.inr (Or.inr (Or.inr ⟨by omega, by omega, by omega, by (first | rfl | exact pk_us), rfl⟩))), by (first | exact Or.inl ⟨by decide, rfl, rfl⟩ | exact Or.inr ⟨by omega, by (first | exact an_ix (by assumption) (by assumption) | assumption), by (first | exact an_ix (by assumption) (by assumption) | assumption)⟩)⟩), r_mans⟩, by rw [ht]; exact hP, hD⟩, hS.F ht⟩) hS.2.2 dX10_answer_22
  · refine lv_if_ne (tgt := 10) hx hb dX10_answer_4 (by decide) (fun c9 => absurd (by decide) c9) (fun _ => ?_)
    refine lv_bipush (v := (-2)) hx hb dX10_answer_7 (by decide) ?_
    exact W.iret (v := (-2)) hx hb hr (fun tq ht hW => ⟨⟨(-2), (uS [mans, mand, manr] 0 (fun _ => 0)), rfl, ⟨(show spAnM mans mand manr pp dd ri ((-2) : Int32) mans mand manr from by (try rw [show ((-2) : Int32).toInt = (-2) from (show ((-2) : Int32).toInt = (-2) from rfl)]); exact ⟨by (unfold spAns; subst_vars; first | exact Or.inl ⟨by omega, rfl, rfl⟩ | exact Or.inr (Or.inl ⟨by omega, by omega, rfl, rfl⟩) | exact Or.inr (Or.inr (Or.inl ⟨by omega, by omega, by omega, rfl, rfl⟩)) | exact Or.inr (Or.inr (Or.inr ⟨by omega, by omega, by omega, by (first | rfl | exact pk_us), rfl⟩))), by (first | exact Or.inl ⟨by decide, rfl, rfl⟩ | exact Or.inr ⟨by omega, by (first | exact an_ix (by assumption) (by assumption) | assumption), by (first | exact an_ix (by assumption) (by assumption) | assumption)⟩)⟩), r_mans⟩, by rw [ht]; exact hP, hD⟩, hS.F ht⟩) hS.2.2 dX10_answer_9

