set_option maxHeartbeats 4000000 in
set_option maxRecDepth 100000 in
theorem k_X10_door2 (l : Launch) (dC : Nat → ClassId) (dI : Nat → Nat → Nat) (cI cZ cQ : ClassId) (b : Nat → Nat) (mday : Int32) (mdoo : Int32) (mdA : Nat → Int32) (mdB : Nat → Int32) (mfar : Nat → Int32) (mmar : Nat → Int32) (mtel : Int32) (mgai : Int32) (mfal : Nat → Int32) (mtop : Nat → Int32) (mstr : Nat → Int32) (mgho : Nat → Int32) (mfai : Nat → Int32) (mpto : Nat → Int32) (mwal : Nat → Int32) (mahd : Nat → Int32) (mahf : Nat → Int32) (mcho : Nat → Int32) (mbes : Nat → Int32) (mbyt : Int32) (mtxt : Nat → Int32) (mpos : Int32) (mtka : Int32) (mtok : Int64) (mdig : Int32) (mnum : Int32) (mfau : Int32) (mrdm : Int32) (mrea : Nat → Int32) (mlin : Int32) (mlne : Nat → Int32) (mthg : Nat → Int32) (mord : Nat → Int32) (mbor : Nat → Int32) (mbsm : Int32) (mans : Nat → Int32) (mand : Nat → Int32) (manr : Nat → Int32) (mali : Nat → Int32) (sz : Nat) (x : Int32) (y : Int32) (r_mday : 0 ≤ mday.toInt ∧ mday.toInt ≤ 400) (r_mdoo : 0 ≤ mdoo.toInt ∧ mdoo.toInt ≤ 14) (r_mdA : rg 14 (0) (7) mdA) (r_mdB : rg 14 (0) (7) mdB) (r_mmar : rg 24 (0) (255) mmar) (r_mgai : 0 ≤ mgai.toInt ∧ mgai.toInt ≤ 100) (r_mfal : rg 11 (0) (30) mfal) (r_mtop : rg 48 (-1) (23) mtop) (r_mstr : rg 48 (0) (100) mstr) (r_mgho : rg 48 (-1) (23) mgho) (r_mfai : rg 48 (0) (100) mfai) (r_mahd : rg 240 (0) (100) mahd) (r_mahf : rg 240 (0) (100) mahf) (r_mcho : rg 5 (-1) (9) mcho) (r_mbyt : 0 ≤ mbyt.toInt ∧ mbyt.toInt ≤ 160) (r_mpos : 0 ≤ mpos.toInt ∧ mpos.toInt ≤ 160) (r_mrdm : 0 ≤ mrdm.toInt ∧ mrdm.toInt ≤ 10) (r_mlin : 0 ≤ mlin.toInt ∧ mlin.toInt ≤ 10) (r_mthg : rg 8 (0) (31) mthg) (r_mord : rg 8 (-1) (8) mord) (r_mans : rg 4 (0) (12) mans) : KW l yX10_door wsX10_door { frames := 2, cells := 0, slots := 0, locals := 42 } (dC, dI) (TY cI cZ cQ) (wMod cI cZ cQ b mday mdoo mdA mdB mfar mmar mtel mgai mfal mtop mstr mgho mfai mpto mwal mahd mahf mcho mbes mbyt mtxt mpos mtka mtok mdig mnum mfau mrdm mrea mlin mlne mthg mord mbor mbsm mans mand manr mali) [.ref (b 39), .int x, .int y] sz 0 0 (fun (r : Int32) (u : US) => (spDorM mdA mdB mdoo x y r (u.1 0) (u.1 1) (u.1 2 0)) ∧ (rg 14 (0) (7) (u.1 0)) ∧ (rg 14 (0) (7) (u.1 1)) ∧ (0 ≤ (u.1 2 0).toInt ∧ (u.1 2 0).toInt ≤ 14)) (fun u : US => (wMod cI cZ cQ b mday (u.1 2 0) (u.1 0) (u.1 1) mfar mmar mtel mgai mfal mtop mstr mgho mfai mpto mwal mahd mahf mcho mbes mbyt mtxt mpos mtka mtok mdig mnum mfau mrdm mrea mlin mlne mthg mord mbor mbsm mans mand manr mali)) := by
  refine Met.ofW (cc := cX10_door) (maxL := 3) (ret := (some .int)) (by decide) rfl ?_
  intro p e s m args below meth c s₁ B hml hv
  obtain ⟨rfl, hsz, hP, hK, hD0, hN⟩ := hv
  have hx := B.exec
  have hb := B.bytes
  have hr := B.returns
  have hts := atoms_spec (ws := wsX10_door) B.pre
  have hown : s.vm.findClass RX10 = some m.cls := findClass_of_methodNamed B.named
  have hlocks := B.notSynchronized
  have lf97 := hts (.fieldLink RX10 97 "PalaceOfRoomsModel" "doors" "I") (by decide +kernel)
  have inX10 : ∀ w ∈ wsX100, w ∈ wsX10_door := by decide +kernel
  have lf7 := hts (.fieldLink RX10 7 "PalaceOfRoomsModel" "doorA" "[I") (by decide +kernel)
  have lf13 := hts (.fieldLink RX10 13 "PalaceOfRoomsModel" "doorB" "[I") (by decide +kernel)
  subst hsz
  have hD := hD0.self (sz := s.heap.size)
  generalize hAe : va_A (wMod cI cZ cQ b mday mdoo mdA mdB mfar mmar mtel mgai mfal mtop mstr mgho mfai mpto mwal mahd mahf mcho mbes mbyt mtxt mpos mtka mtok mdig mnum mfau mrdm mrea mlin mlne mthg mord mbor mbsm mans mand manr mali) s.heap.size = A at hD ⊢
  have hA : ∀ q : Nat, s.heap.size ≤ q → A q := fun q h => by rw [← hAe]; exact Or.inr h
  have hS : va_S A s.heap s.heap [] := va_S.rf
  have hl := lv_entry ([.ref (b 39), .int x, .int y]) (n := 3) (Nat.le_of_ble_eq_true rfl)
  rw [lg_entry_eq]
  generalize (lg_sl ([.ref (b 39), .int x, .int y]) ++ List.replicate (3 - (lg_sl ([.ref (b 39), .int x, .int y])).length) Slot.unset).toArray = ls at hl ⊢
  have hl : lv_has ls 3 [(0, .ref (b 39)), (1, .int x), (2, .int y)] := hl
  refine lv_iload_n hx hb dX10_door_0 rfl (lv_at hl 1 rfl) ?_
  refine rdS (As := [.int x]) (rest := []) ⟨hx, hb, hml, hown, hts⟩ (k_X10_isRoom l dC dI cI cZ cQ x) (va_cwS 1 hts gX10_door_X10_isRoom rfl rfl rfl (by decide +kernel) ⟨Nat.le_of_ble_eq_true rfl, Nat.le_of_ble_eq_true rfl⟩) hP hK hN [] rfl rfl hl.1 rfl (Nat.le_of_ble_eq_true rfl) dX10_door_1 ⟨Nat.le_of_ble_eq_true rfl, Nat.le_of_ble_eq_true rfl⟩ (fun r1 h2 => ?_)
  have h2 : ((((r1 = 1) ∧ (0 ≤ x.toInt) ∧ (x.toInt ≤ 7)) ∨ ((r1 = 0) ∧ (x.toInt < 0 ∨ 7 < x.toInt)))) := h2
  rcases h2 with (⟨rfl, h2_a0, h2_a1⟩ | ⟨rfl, h2_a0⟩)
  · refine lv_if_eq (tgt := 19) hx hb dX10_door_4 (by decide) (fun c9 => absurd c9 (by decide)) (fun _ => ?_)
    refine lv_iload_n hx hb dX10_door_7 rfl (lv_at hl 2 rfl) ?_
    refine rdS (As := [.int y]) (rest := []) ⟨hx, hb, hml, hown, hts⟩ (k_X10_isRoom l dC dI cI cZ cQ y) (va_cwS 1 hts gX10_door_X10_isRoom rfl rfl rfl (by decide +kernel) ⟨Nat.le_of_ble_eq_true rfl, Nat.le_of_ble_eq_true rfl⟩) hP hK hN [] rfl rfl hl.1 rfl (Nat.le_of_ble_eq_true rfl) dX10_door_8 ⟨Nat.le_of_ble_eq_true rfl, Nat.le_of_ble_eq_true rfl⟩ (fun r3 h4 => ?_)
    have h4 : ((((r3 = 1) ∧ (0 ≤ y.toInt) ∧ (y.toInt ≤ 7)) ∨ ((r3 = 0) ∧ (y.toInt < 0 ∨ 7 < y.toInt)))) := h4
    rcases h4 with (⟨rfl, h4_a0, h4_a1⟩ | ⟨rfl, h4_a0⟩)
    · refine lv_if_eq (tgt := 19) hx hb dX10_door_11 (by decide) (fun c9 => absurd c9 (by decide)) (fun _ => ?_)
      refine lv_iload_n hx hb dX10_door_14 rfl (lv_at hl 1 rfl) ?_
      refine lv_iload_n hx hb dX10_door_15 rfl (lv_at hl 2 rfl) ?_
      refine lv_icmp_ne (tgt := 22) hx hb dX10_door_16 (by decide) (fun c5 => ?_) (fun c5 => ?_)
      · have dc5 : x.toInt ≠ y.toInt := neC rfl rfl c5
        refine lv_aload_n hx hb dX10_door_22 rfl (lv_at hl 0 rfl) ?_
        refine lv_iload_n hx hb dX10_door_23 rfl (lv_at hl 1 rfl) ?_
        refine lv_iload_n hx hb dX10_door_24 rfl (lv_at hl 2 rfl) ?_
        refine rdV (As := [.int x, .int y]) (rest := []) ⟨hx, hb, hml, hown, hts⟩ (k_X10_areJoined2 l dC dI cI cZ cQ b mday mdoo mdA mdB mfar mmar mtel mgai mfal mtop mstr mgho mfai mpto mwal mahd mahf mcho mbes mbyt mtxt mpos mtka mtok mdig mnum mfau mrdm mrea mlin mlne mthg mord mbor mbsm mans mand manr mali x y r_mday r_mdoo r_mdA r_mdB r_mmar r_mgai r_mfal r_mtop r_mstr r_mgho r_mfai r_mahd r_mahf r_mcho r_mbyt r_mpos r_mrdm r_mlin r_mthg r_mord r_mans) (cwV 2 hts gX10_door_X10_areJoined rfl rfl rfl (by decide +kernel) ⟨Nat.le_of_ble_eq_true rfl, Nat.le_of_ble_eq_true rfl⟩) hP hK hN [0, 1, 2, 3, 4, 5, 6, 7, 8, 9, 10, 11, 12, 13, 14, 15, 16, 17, 18, 19, 20, 21, 22, 23, 24, 25] rfl 0 10 rfl rfl rfl hl.1 rfl (Nat.le_of_ble_eq_true rfl) dX10_door_25 ⟨Nat.le_of_ble_eq_true rfl, Nat.le_of_ble_eq_true rfl⟩ (fun r6 h7 => ?_)
        have h7 : ((((r6 = 1) ∧ (eD mdA mdB mdoo.toInt x.toInt y.toInt)) ∨ ((r6 = 0) ∧ (¬ eD mdA mdB mdoo.toInt x.toInt y.toInt)))) := h7
        rcases h7 with (⟨rfl, h7_a0⟩ | ⟨rfl, h7_a0⟩)
        · refine lv_if_eq (tgt := 34) hx hb dX10_door_28 (by decide) (fun c9 => absurd c9 (by decide)) (fun _ => ?_)
          refine lv_bipush (v := (-4)) hx hb dX10_door_31 (by decide) ?_
          exact W.iret (v := (-4)) hx hb hr (fun tq ht hW => ⟨⟨(-4), (uS [mdA, mdB, (fun _ => mdoo)] 0 (fun _ => 0)), rfl, ⟨(show spDorM mdA mdB mdoo x y ((-4) : Int32) mdA mdB mdoo from by (try rw [show ((-4) : Int32).toInt = (-4) from (show ((-4) : Int32).toInt = (-4) from rfl)]); (first | exact Or.inl ⟨by omega, rfl, rfl, rfl, rfl⟩ | exact Or.inr ⟨by omega, Or.inl ⟨by assumption, rfl, rfl, rfl, rfl⟩⟩ | exact Or.inr ⟨by omega, Or.inr ⟨by assumption, Or.inl ⟨by omega, rfl, rfl, rfl, rfl⟩⟩⟩ | exact Or.inr ⟨by omega, Or.inr ⟨by assumption, Or.inr ⟨by omega, by assumption, by assumption, by assumption, by assumption⟩⟩⟩)), r_mdA, r_mdB, r_mdoo⟩, by rw [ht]; exact hP, hD⟩, hS.F ht⟩) hS.2.2 dX10_door_33
        · refine lv_if_eq (tgt := 34) hx hb dX10_door_28 (by decide) (fun _ => ?_) (fun c9 => absurd (by decide) c9)
          refine lv_aload_n hx hb dX10_door_34 rfl (lv_at hl 0 rfl) ?_
          refine va_get (D := (dC, dI)) (ci := 10) (v := .int mdoo) (C := RX10) (T := TX10) (N := 39) hx hb hts inX10 hown hK hP 0 rfl rfl 1 (by decide) lf97 (fun _ h9 => h9) rfl dX10_door_35 ?_
          refine lv_bipush (v := 14) hx hb dX10_door_38 (by decide) ?_
          refine lv_icmp_ne (tgt := 46) hx hb dX10_door_40 (by decide) (fun c8 => ?_) (fun c8 => ?_)
          · have dc8 : mdoo.toInt ≤ 13 := ka_hi (by omega) (neC rfl (show (14 : Int32).toInt = 14 from rfl) c8)
            refine lv_aload_n hx hb dX10_door_46 rfl (lv_at hl 0 rfl) ?_
            refine va_get (D := (dC, dI)) (ci := 10) (v := .ref (b 2)) (C := RX10) (T := TX10) (N := 39) hx hb hts inX10 hown hK hP 0 rfl rfl 2 (by decide) lf7 (fun _ h9 => h9) rfl dX10_door_47 ?_
            refine lv_aload_n hx hb dX10_door_50 rfl (lv_at hl 0 rfl) ?_
            refine va_get (D := (dC, dI)) (ci := 10) (v := .int mdoo) (C := RX10) (T := TX10) (N := 39) hx hb hts inX10 hown hK hP 0 rfl rfl 1 (by decide) lf97 (fun _ h9 => h9) rfl dX10_door_51 ?_
            refine lv_iload_n hx hb dX10_door_54 rfl (lv_at hl 1 rfl) ?_
            have b9 : vp_in mdoo 14 := inC rfl (by omega) (by omega)
            have g10 : rg 14 (0) (7) (upd mdA mdoo.toNatClampNeg x) := rg_upd r_mdA rfl (by omega) (by omega)
            refine va_iast hx hb hK hP hD hS 1 0 rfl rfl b9 dX10_door_55 (fun H locs hP hD hS => ?_)
            obtain ⟨mdA_u11, emdA_u11⟩ : ∃ f : Nat → Int32, f = upd mdA mdoo.toNatClampNeg x := ⟨_, rfl⟩
            have rmdA_u11 : rg 14 (0) (7) mdA_u11 := by rw [emdA_u11]; exact g10
            have hP : va_P (dC, dI) vwCl (wMod cI cZ cQ b mday mdoo mdA_u11 mdB mfar mmar mtel mgai mfal mtop mstr mgho mfai mpto mwal mahd mahf mcho mbes mbyt mtxt mpos mtka mtok mdig mnum mfau mrdm mrea mlin mlne mthg mord mbor mbsm mans mand manr mali) H := by rw [emdA_u11]; exact hP
            have hD : va_D A (wMod cI cZ cQ b mday mdoo mdA_u11 mdB mfar mmar mtel mgai mfal mtop mstr mgho mfai mpto mwal mahd mahf mcho mbes mbyt mtxt mpos mtka mtok mdig mnum mfau mrdm mrea mlin mlne mthg mord mbor mbsm mans mand manr mali) := by rw [emdA_u11]; exact hD
            refine lv_aload_n hx hb dX10_door_56 rfl (lv_at hl 0 rfl) ?_
            refine va_get (D := (dC, dI)) (ci := 10) (v := .ref (b 3)) (C := RX10) (T := TX10) (N := 39) hx hb hts inX10 hown hK hP 0 rfl rfl 3 (by decide) lf13 (fun _ h9 => h9) rfl dX10_door_57 ?_
            refine lv_aload_n hx hb dX10_door_60 rfl (lv_at hl 0 rfl) ?_
            refine va_get (D := (dC, dI)) (ci := 10) (v := .int mdoo) (C := RX10) (T := TX10) (N := 39) hx hb hts inX10 hown hK hP 0 rfl rfl 1 (by decide) lf97 (fun _ h9 => h9) rfl dX10_door_61 ?_
            refine lv_iload_n hx hb dX10_door_64 rfl (lv_at hl 2 rfl) ?_
            have b12 : vp_in mdoo 14 := inC rfl (by omega) (by omega)
            have g13 : rg 14 (0) (7) (upd mdB mdoo.toNatClampNeg y) := rg_upd r_mdB rfl (by omega) (by omega)
            refine va_iast hx hb hK hP hD hS 2 0 rfl rfl b12 dX10_door_65 (fun H locs hP hD hS => ?_)
            obtain ⟨mdB_u14, emdB_u14⟩ : ∃ f : Nat → Int32, f = upd mdB mdoo.toNatClampNeg y := ⟨_, rfl⟩
            have rmdB_u14 : rg 14 (0) (7) mdB_u14 := by rw [emdB_u14]; exact g13
            have hP : va_P (dC, dI) vwCl (wMod cI cZ cQ b mday mdoo mdA_u11 mdB_u14 mfar mmar mtel mgai mfal mtop mstr mgho mfai mpto mwal mahd mahf mcho mbes mbyt mtxt mpos mtka mtok mdig mnum mfau mrdm mrea mlin mlne mthg mord mbor mbsm mans mand manr mali) H := by rw [emdB_u14]; exact hP
            have hD : va_D A (wMod cI cZ cQ b mday mdoo mdA_u11 mdB_u14 mfar mmar mtel mgai mfal mtop mstr mgho mfai mpto mwal mahd mahf mcho mbes mbyt mtxt mpos mtka mtok mdig mnum mfau mrdm mrea mlin mlne mthg mord mbor mbsm mans mand manr mali) := by rw [emdB_u14]; exact hD
            refine lv_aload_n hx hb dX10_door_66 rfl (lv_at hl 0 rfl) ?_
            refine lv_dup hx hb dX10_door_67 rfl ?_
            refine va_get (D := (dC, dI)) (ci := 10) (v := .int mdoo) (C := RX10) (T := TX10) (N := 39) hx hb hts inX10 hown hK hP 0 rfl rfl 1 (by decide) lf97 (fun _ h9 => h9) rfl dX10_door_68 ?_
            refine lv_iconst (v := 1) hx hb dX10_door_71 (by decide) ?_
            refine lv_iadd hx hb dX10_door_72 ?_
            have f15 : (mdoo + 1).toInt = (mdoo.toInt) + (1) := addC rfl (show (1 : Int32).toInt = 1 from rfl) (by omega) (by omega)
            refine lv_topi (fun x16 ex16 => ?_)
            have ix16 : x16.toInt = (mdoo.toInt) + (1) := by rw [ex16]; exact f15
            refine va_put (D := (dC, dI)) (ci := 10) (v := .int x16) (ty := .int) (C := RX10) (T := TX10) (N := 39) hx hb hts inX10 tyX10 tyX10_ok nmX10 hown hK hP hD hS 0 rfl rfl 1 (by decide) lf97 (fun _ h9 => h9) rfl (by decide +kernel) rfl rfl (Nat.le_of_ble_eq_true rfl) dX10_door_73 (fun H locs hP hD hS => ?_)
            have g17 : 0 ≤ x16.toInt ∧ x16.toInt ≤ 14 := by rw [show x16.toInt = x16.toInt from rfl]; exact ⟨by omega, by omega⟩
            have hP : va_P (dC, dI) vwCl (wMod cI cZ cQ b mday x16 mdA_u11 mdB_u14 mfar mmar mtel mgai mfal mtop mstr mgho mfai mpto mwal mahd mahf mcho mbes mbyt mtxt mpos mtka mtok mdig mnum mfau mrdm mrea mlin mlne mthg mord mbor mbsm mans mand manr mali) H := hP
            have hD : va_D A (wMod cI cZ cQ b mday x16 mdA_u11 mdB_u14 mfar mmar mtel mgai mfal mtop mstr mgho mfai mpto mwal mahd mahf mcho mbes mbyt mtxt mpos mtka mtok mdig mnum mfau mrdm mrea mlin mlne mthg mord mbor mbsm mans mand manr mali) := hD
            refine lv_aload_n hx hb dX10_door_76 rfl (lv_at hl 0 rfl) ?_
            refine va_get (D := (dC, dI)) (ci := 10) (v := .int x16) (C := RX10) (T := TX10) (N := 39) hx hb hts inX10 hown hK hP 0 rfl rfl 1 (by decide) lf97 (fun _ h9 => h9) rfl dX10_door_77 ?_
            exact W.iret (v := x16) hx hb hr (fun tq ht hW => ⟨⟨x16, (uS [mdA_u11, mdB_u14, (fun _ => x16)] 0 (fun _ => 0)), rfl, ⟨(show spDorM mdA mdB mdoo x y x16 mdA_u11 mdB_u14 x16 from by (first | exact Or.inl ⟨by omega, rfl, rfl, rfl, rfl⟩ | exact Or.inr ⟨by omega, Or.inl ⟨by assumption, rfl, rfl, rfl, rfl⟩⟩ | exact Or.inr ⟨by omega, Or.inr ⟨by assumption, Or.inl ⟨by omega, rfl, rfl, rfl, rfl⟩⟩⟩ | exact Or.inr ⟨by omega, Or.inr ⟨by assumption, Or.inr ⟨by omega, by assumption, by assumption, by assumption, by assumption⟩⟩⟩)), rmdA_u11, rmdB_u14, g17⟩, by rw [ht]; exact hP, hD⟩, hS.F ht⟩) hS.2.2 dX10_door_80
          · have dc8 : mdoo.toInt = 14 := eqC rfl (show (14 : Int32).toInt = 14 from rfl) c8
            refine lv_bipush (v := (-5)) hx hb dX10_door_43 (by decide) ?_
            exact W.iret (v := (-5)) hx hb hr (fun tq ht hW => ⟨⟨(-5), (uS [mdA, mdB, (fun _ => mdoo)] 0 (fun _ => 0)), rfl, ⟨(show spDorM mdA mdB mdoo x y ((-5) : Int32) mdA mdB mdoo from by (try rw [show ((-5) : Int32).toInt = (-5) from (show ((-5) : Int32).toInt = (-5) from rfl)]); (first | exact Or.inl ⟨by omega, rfl, rfl, rfl, rfl⟩ | exact Or.inr ⟨by omega, Or.inl ⟨by assumption, rfl, rfl, rfl, rfl⟩⟩ | exact Or.inr ⟨by omega, Or.inr ⟨by assumption, Or.inl ⟨by omega, rfl, rfl, rfl, rfl⟩⟩⟩ | exact Or.inr ⟨by omega, Or.inr ⟨by assumption, Or.inr ⟨by omega, by assumption, by assumption, by assumption, by assumption⟩⟩⟩)), r_mdA, r_mdB, r_mdoo⟩, by rw [ht]; exact hP, hD⟩, hS.F ht⟩) hS.2.2 dX10_door_45
      · have dc5 : x.toInt = y.toInt := eqC rfl rfl c5
        refine lv_bipush (v := (-2)) hx hb dX10_door_19 (by decide) ?_
        exact W.iret (v := (-2)) hx hb hr (fun tq ht hW => ⟨⟨(-2), (uS [mdA, mdB, (fun _ => mdoo)] 0 (fun _ => 0)), rfl, ⟨(show spDorM mdA mdB mdoo x y ((-2) : Int32) mdA mdB mdoo from by (try rw [show ((-2) : Int32).toInt = (-2) from (show ((-2) : Int32).toInt = (-2) from rfl)]); (first | exact Or.inl ⟨by omega, rfl, rfl, rfl, rfl⟩ | exact Or.inr ⟨by omega, Or.inl ⟨by assumption, rfl, rfl, rfl, rfl⟩⟩ | exact Or.inr ⟨by omega, Or.inr ⟨by assumption, Or.inl ⟨by omega, rfl, rfl, rfl, rfl⟩⟩⟩ | exact Or.inr ⟨by omega, Or.inr ⟨by assumption, Or.inr ⟨by omega, by assumption, by assumption, by assumption, by assumption⟩⟩⟩)), r_mdA, r_mdB, r_mdoo⟩, by rw [ht]; exact hP, hD⟩, hS.F ht⟩) hS.2.2 dX10_door_21
    · refine lv_if_eq (tgt := 19) hx hb dX10_door_11 (by decide) (fun _ => ?_) (fun c9 => absurd (by decide) c9)
      refine lv_bipush (v := (-2)) hx hb dX10_door_19 (by decide) ?_
      exact W.iret (v := (-2)) hx hb hr (fun tq ht hW => ⟨⟨(-2), (uS [mdA, mdB, (fun _ => mdoo)] 0 (fun _ => 0)), rfl, ⟨(show spDorM mdA mdB mdoo x y ((-2) : Int32) mdA mdB mdoo from by (try rw [show ((-2) : Int32).toInt = (-2) from (show ((-2) : Int32).toInt = (-2) from rfl)]); (first | exact Or.inl ⟨by omega, rfl, rfl, rfl, rfl⟩ | exact Or.inr ⟨by omega, Or.inl ⟨by assumption, rfl, rfl, rfl, rfl⟩⟩ | exact Or.inr ⟨by omega, Or.inr ⟨by assumption, Or.inl ⟨by omega, rfl, rfl, rfl, rfl⟩⟩⟩ | exact Or.inr ⟨by omega, Or.inr ⟨by assumption, Or.inr ⟨by omega, by assumption, by assumption, by assumption, by assumption⟩⟩⟩)), r_mdA, r_mdB, r_mdoo⟩, by rw [ht]; exact hP, hD⟩, hS.F ht⟩) hS.2.2 dX10_door_21
  · refine lv_if_eq (tgt := 19) hx hb dX10_door_4 (by decide) (fun _ => ?_) (fun c9 => absurd (by decide) c9)
    refine lv_bipush (v := (-2)) hx hb dX10_door_19 (by decide) ?_
    exact W.iret (v := (-2)) hx hb hr (fun tq ht hW => ⟨⟨(-2), (uS [mdA, mdB, (fun _ => mdoo)] 0 (fun _ => 0)), rfl, ⟨(show spDorM mdA mdB mdoo x y ((-2) : Int32) mdA mdB mdoo from by (try rw [show ((-2) : Int32).toInt = (-2) from (show ((-2) : Int32).toInt = (-2) from rfl)]); (first | exact Or.inl ⟨by omega, rfl, rfl, rfl, rfl⟩ | exact Or.inr ⟨by omega, Or.inl ⟨by assumption, rfl, rfl, rfl, rfl⟩⟩ | exact Or.inr ⟨by omega, Or.inr ⟨by assumption, Or.inl ⟨by omega, rfl, rfl, rfl, rfl⟩⟩⟩ | exact Or.inr ⟨by omega, Or.inr ⟨by assumption, Or.inr ⟨by omega, by assumption, by assumption, by assumption, by assumption⟩⟩⟩)), r_mdA, r_mdB, r_mdoo⟩, by rw [ht]; exact hP, hD⟩, hS.F ht⟩) hS.2.2 dX10_door_21
