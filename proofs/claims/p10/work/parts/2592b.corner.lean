set_option maxHeartbeats 4000000 in
set_option maxRecDepth 100000 in
theorem k_X10_lookAhead2 (l : Launch) (dC : Nat → ClassId) (dI : Nat → Nat → Nat) (cI cZ cQ : ClassId) (b : Nat → Nat) (mday : Int32) (mdoo : Int32) (mdA : Nat → Int32) (mdB : Nat → Int32) (mfar : Nat → Int32) (mmar : Nat → Int32) (mtel : Int32) (mgai : Int32) (mfal : Nat → Int32) (mtop : Nat → Int32) (mstr : Nat → Int32) (mgho : Nat → Int32) (mfai : Nat → Int32) (mpto : Nat → Int32) (mwal : Nat → Int32) (mahd : Nat → Int32) (mahf : Nat → Int32) (mcho : Nat → Int32) (mbes : Nat → Int32) (mbyt : Int32) (mtxt : Nat → Int32) (mpos : Int32) (mtka : Int32) (mtok : Int64) (mdig : Int32) (mnum : Int32) (mfau : Int32) (mrdm : Int32) (mrea : Nat → Int32) (mlin : Int32) (mlne : Nat → Int32) (mthg : Nat → Int32) (mord : Nat → Int32) (mbor : Nat → Int32) (mbsm : Int32) (mans : Nat → Int32) (mand : Nat → Int32) (manr : Nat → Int32) (mali : Nat → Int32) (sz : Nat) (r_mday : 0 ≤ mday.toInt ∧ mday.toInt ≤ 400) (r_mdoo : 0 ≤ mdoo.toInt ∧ mdoo.toInt ≤ 14) (r_mdA : rg 14 (0) (7) mdA) (r_mdB : rg 14 (0) (7) mdB) (r_mmar : rg 24 (0) (255) mmar) (r_mgai : 0 ≤ mgai.toInt ∧ mgai.toInt ≤ 100) (r_mfal : rg 11 (0) (30) mfal) (r_mtop : rg 48 (-1) (23) mtop) (r_mstr : rg 48 (0) (100) mstr) (r_mgho : rg 48 (-1) (23) mgho) (r_mfai : rg 48 (0) (100) mfai) (r_mahd : rg 240 (0) (100) mahd) (r_mahf : rg 240 (0) (100) mahf) (r_mcho : rg 5 (-1) (9) mcho) (r_mbyt : 0 ≤ mbyt.toInt ∧ mbyt.toInt ≤ 160) (r_mpos : 0 ≤ mpos.toInt ∧ mpos.toInt ≤ 160) (r_mrdm : 0 ≤ mrdm.toInt ∧ mrdm.toInt ≤ 10) (r_mlin : 0 ≤ mlin.toInt ∧ mlin.toInt ≤ 10) (r_mthg : rg 8 (0) (31) mthg) (r_mord : rg 8 (-1) (8) mord) (r_mans : rg 4 (0) (12) mans) : KV l yX10_lookAhead wsX10_lookAhead { frames := 0, cells := 0, slots := 0, locals := 0 } (dC, dI) (TY cI cZ cQ) (wMod cI cZ cQ b mday mdoo mdA mdB mfar mmar mtel mgai mfal mtop mstr mgho mfai mpto mwal mahd mahf mcho mbes mbyt mtxt mpos mtka mtok mdig mnum mfau mrdm mrea mlin mlne mthg mord mbor mbsm mans mand manr mali) [.ref (b 39)] sz 0 0 (fun (u : US) => (laI mtop mstr mgho mfai 48 (u.1 0) (u.1 1)) ∧ (rg 240 (0) (100) (u.1 0)) ∧ (rg 240 (0) (100) (u.1 1))) (fun u : US => (wMod cI cZ cQ b mday mdoo mdA mdB mfar mmar mtel mgai mfal mtop mstr mgho mfai mpto mwal (u.1 0) (u.1 1) mcho mbes mbyt mtxt mpos mtka mtok mdig mnum mfau mrdm mrea mlin mlne mthg mord mbor mbsm mans mand manr mali)) := by
  refine Met.ofW (cc := cX10_lookAhead) (maxL := 2) (ret := none) (by decide) rfl ?_
  intro p e s m args below meth c s₁ B hml hv
  obtain ⟨rfl, hsz, hP, hK, hD0, hN⟩ := hv
  have hx := B.exec
  have hb := B.bytes
  have hr := B.returns
  have hts := atoms_spec (ws := wsX10_lookAhead) B.pre
  have hown : s.vm.findClass RX10 = some m.cls := findClass_of_methodNamed B.named
  have hlocks := B.notSynchronized
  have lf50 := hts (.fieldLink RX10 50 "PalaceOfRoomsModel" "ahead" "[I") (by decide +kernel)
  have inX10 : ∀ w ∈ wsX100, w ∈ wsX10_lookAhead := by decide +kernel
  have lf32 := hts (.fieldLink RX10 32 "PalaceOfRoomsModel" "top" "[I") (by decide +kernel)
  have lf35 := hts (.fieldLink RX10 35 "PalaceOfRoomsModel" "strength" "[I") (by decide +kernel)
  have lf53 := hts (.fieldLink RX10 53 "PalaceOfRoomsModel" "aheadFaint" "[I") (by decide +kernel)
  have lf38 := hts (.fieldLink RX10 38 "PalaceOfRoomsModel" "ghost" "[I") (by decide +kernel)
  have lf41 := hts (.fieldLink RX10 41 "PalaceOfRoomsModel" "faint" "[I") (by decide +kernel)
  subst hsz
  have hD := hD0.self (sz := s.heap.size)
  generalize hAe : va_A (wMod cI cZ cQ b mday mdoo mdA mdB mfar mmar mtel mgai mfal mtop mstr mgho mfai mpto mwal mahd mahf mcho mbes mbyt mtxt mpos mtka mtok mdig mnum mfau mrdm mrea mlin mlne mthg mord mbor mbsm mans mand manr mali) s.heap.size = A at hD ⊢
  have hA : ∀ q : Nat, s.heap.size ≤ q → A q := fun q h => by rw [← hAe]; exact Or.inr h
  have hS : va_S A s.heap s.heap [] := va_S.rf
  have hl := lv_entry ([.ref (b 39)]) (n := 2) (Nat.le_of_ble_eq_true rfl)
  rw [lg_entry_eq]
  generalize (lg_sl ([.ref (b 39)]) ++ List.replicate (2 - (lg_sl ([.ref (b 39)])).length) Slot.unset).toArray = ls at hl ⊢
  have hl : lv_has ls 2 [(0, .ref (b 39))] := hl
  refine lv_iconst (v := 0) hx hb dX10_lookAhead_0 (by decide) ?_
  refine lv_istore_n (lv' := [(1, .int 0), (0, .ref (b 39))]) hx hb dX10_lookAhead_1 rfl hl (by decide) rfl (fun ls hl => ?_)
  have L2 : ∀ (nn : Nat) (y2_1 : Int32) (mahd_2 : Nat → Int32) (mahf_2 : Nat → Int32) (H : Heap) (locs : List Loc) (ls : Array Slot), (rg 240 (0) (100) mahd_2) → (rg 240 (0) (100) mahf_2) → (0 ≤ (y2_1.toInt)) → ((y2_1.toInt) ≤ 48) → (laI mtop mstr mgho mfai (y2_1.toInt) mahd_2 mahf_2) → (48 - (y2_1.toInt)).toNat < nn → va_P (dC, dI) vwCl (wMod cI cZ cQ b mday mdoo mdA mdB mfar mmar mtel mgai mfal mtop mstr mgho mfai mpto mwal mahd_2 mahf_2 mcho mbes mbyt mtxt mpos mtka mtok mdig mnum mfau mrdm mrea mlin mlne mthg mord mbor mbsm mans mand manr mali) H → va_D A (wMod cI cZ cQ b mday mdoo mdA mdB mfar mmar mtel mgai mfal mtop mstr mgho mfai mpto mwal mahd_2 mahf_2 mcho mbes mbyt mtxt mpos mtka mtok mdig mnum mfau mrdm mrea mlin mlne mthg mord mbor mbsm mans mand manr mali) → va_S A s.heap H locs → lv_has ls 2 [(0, .ref (b 39)), (1, .int y2_1)] → W p l e (headSpec wsX10_lookAhead { frames := 0, cells := 0, slots := 0, locals := 0 }).room s m ([.ref (b 39)] : List Value).toArray below meth c H locs 0 0 (MQ below (va_Qv (fun (u : US) => (laI mtop mstr mgho mfai 48 (u.1 0) (u.1 1)) ∧ (rg 240 (0) (100) (u.1 0)) ∧ (rg 240 (0) (100) (u.1 1))) (Bw (dC, dI) A (fun u : US => (wMod cI cZ cQ b mday mdoo mdA mdB mfar mmar mtel mgai mfal mtop mstr mgho mfai mpto mwal (u.1 0) (u.1 1) mcho mbes mbyt mtxt mpos mtka mtok mdig mnum mfau mrdm mrea mlin mlne mthg mord mbor mbsm mans mand manr mali))) A) ([.ref (b 39)] : List Value).toArray s 0 0 A) (F0 m 2 ls []) := by
    intro nn
    induction nn with
    | zero =>
      intro y2_1 mahd_2 mahf_2 H locs ls r_mahd_2 r_mahf_2 i2_0 i2_1 i2_2 hm2
      exact absurd hm2 (Nat.not_lt_zero _)
    | succ nn ih2 =>
      intro y2_1 mahd_2 mahf_2 H locs ls r_mahd_2 r_mahf_2 i2_0 i2_1 i2_2 hm2 hP hD hS hl
      refine lv_iload_n hx hb dX10_lookAhead_2 rfl (lv_at hl 1 rfl) ?_
      refine lv_bipush (v := 48) hx hb dX10_lookAhead_3 (by decide) ?_
      refine lv_icmp_ge (tgt := 66) hx hb dX10_lookAhead_5 (by decide) (fun c1 => ?_) (fun c1 => ?_)
      · have dc1 : 48 ≤ y2_1.toInt := leC (show (48 : Int32).toInt = 48 from rfl) rfl c1
        exact W.vret hx hb hr (fun tq ht hW => ⟨⟨(uS [mahd_2, mahf_2] 0 (fun _ => 0)), rfl, ⟨(show laI mtop mstr mgho mfai 48 mahd_2 mahf_2 from by (have e48 : _ = (48 : Int) := Int.le_antisymm i2_1 (by assumption); rw [← e48]; exact i2_2)), r_mahd_2, r_mahf_2⟩, by rw [ht]; exact hP, hD⟩, hS.F ht⟩) hS.2.2 dX10_lookAhead_66
      · have dc1 : y2_1.toInt < 48 := nleC (show (48 : Int32).toInt = 48 from rfl) rfl c1
        refine lv_aload_n hx hb dX10_lookAhead_8 rfl (lv_at hl 0 rfl) ?_
        refine va_get (D := (dC, dI)) (ci := 10) (v := .ref (b 15)) (C := RX10) (T := TX10) (N := 39) hx hb hts inX10 hown hK hP 0 rfl rfl 15 (by decide) lf50 (fun _ h9 => h9) rfl dX10_lookAhead_9 ?_
        refine lv_iload_n hx hb dX10_lookAhead_12 rfl (lv_at hl 1 rfl) ?_
        refine lv_aload_n hx hb dX10_lookAhead_13 rfl (lv_at hl 0 rfl) ?_
        refine va_get (D := (dC, dI)) (ci := 10) (v := .ref (b 9)) (C := RX10) (T := TX10) (N := 39) hx hb hts inX10 hown hK hP 0 rfl rfl 9 (by decide) lf32 (fun _ h9 => h9) rfl dX10_lookAhead_14 ?_
        refine lv_iload_n hx hb dX10_lookAhead_17 rfl (lv_at hl 1 rfl) ?_
        have b2 : vp_in y2_1 48 := inC rfl (by omega) (by omega)
        refine va_iald hx hb hK hP 6 0 rfl rfl b2 dX10_lookAhead_18 ?_
        have g3 : -1 ≤ (mtop y2_1.toNatClampNeg).toInt ∧ (mtop y2_1.toNatClampNeg).toInt ≤ 23 := rg_at r_mtop b2
        refine lv_iconst (v := (-1)) hx hb dX10_lookAhead_19 (by decide) ?_
        refine lv_icmp_ne (tgt := 27) hx hb dX10_lookAhead_20 (by decide) (fun c4 => ?_) (fun c4 => ?_)
        · have dc4 : 0 ≤ (mtop y2_1.toNatClampNeg).toInt := ka_lo (by omega) (neC rfl (show ((-1) : Int32).toInt = (-1) from rfl) c4)
          refine lv_aload_n hx hb dX10_lookAhead_27 rfl (lv_at hl 0 rfl) ?_
          refine va_get (D := (dC, dI)) (ci := 10) (v := .ref (b 10)) (C := RX10) (T := TX10) (N := 39) hx hb hts inX10 hown hK hP 0 rfl rfl 10 (by decide) lf35 (fun _ h9 => h9) rfl dX10_lookAhead_28 ?_
          refine lv_iload_n hx hb dX10_lookAhead_31 rfl (lv_at hl 1 rfl) ?_
          have b5 : vp_in y2_1 48 := inC rfl (by omega) (by omega)
          refine va_iald hx hb hK hP 7 0 rfl rfl b5 dX10_lookAhead_32 ?_
          have g6 : 0 ≤ (mstr y2_1.toNatClampNeg).toInt ∧ (mstr y2_1.toNatClampNeg).toInt ≤ 100 := rg_at r_mstr b5
          refine lv_topi (fun x7 ex7 => ?_)
          have ix7 : x7.toInt = (mstr y2_1.toNatClampNeg).toInt := by rw [ex7]
          have b8 : vp_in y2_1 240 := inC rfl (by omega) (by omega)
          have g9 : rg 240 (0) (100) (upd mahd_2 y2_1.toNatClampNeg x7) := rg_upd r_mahd_2 rfl (by omega) (by omega)
          refine va_iast hx hb hK hP hD hS 12 0 rfl rfl b8 dX10_lookAhead_33 (fun H locs hP hD hS => ?_)
          obtain ⟨mahd_u10, emahd_u10⟩ : ∃ f : Nat → Int32, f = upd mahd_2 y2_1.toNatClampNeg x7 := ⟨_, rfl⟩
          have rmahd_u10 : rg 240 (0) (100) mahd_u10 := by rw [emahd_u10]; exact g9
          have hP : va_P (dC, dI) vwCl (wMod cI cZ cQ b mday mdoo mdA mdB mfar mmar mtel mgai mfal mtop mstr mgho mfai mpto mwal mahd_u10 mahf_2 mcho mbes mbyt mtxt mpos mtka mtok mdig mnum mfau mrdm mrea mlin mlne mthg mord mbor mbsm mans mand manr mali) H := by rw [emahd_u10]; exact hP
          have hD : va_D A (wMod cI cZ cQ b mday mdoo mdA mdB mfar mmar mtel mgai mfal mtop mstr mgho mfai mpto mwal mahd_u10 mahf_2 mcho mbes mbyt mtxt mpos mtka mtok mdig mnum mfau mrdm mrea mlin mlne mthg mord mbor mbsm mans mand manr mali) := by rw [emahd_u10]; exact hD
          refine lv_aload_n hx hb dX10_lookAhead_34 rfl (lv_at hl 0 rfl) ?_
          refine va_get (D := (dC, dI)) (ci := 10) (v := .ref (b 16)) (C := RX10) (T := TX10) (N := 39) hx hb hts inX10 hown hK hP 0 rfl rfl 16 (by decide) lf53 (fun _ h9 => h9) rfl dX10_lookAhead_35 ?_
          refine lv_iload_n hx hb dX10_lookAhead_38 rfl (lv_at hl 1 rfl) ?_
          refine lv_aload_n hx hb dX10_lookAhead_39 rfl (lv_at hl 0 rfl) ?_
          refine va_get (D := (dC, dI)) (ci := 10) (v := .ref (b 11)) (C := RX10) (T := TX10) (N := 39) hx hb hts inX10 hown hK hP 0 rfl rfl 11 (by decide) lf38 (fun _ h9 => h9) rfl dX10_lookAhead_40 ?_
          refine lv_iload_n hx hb dX10_lookAhead_43 rfl (lv_at hl 1 rfl) ?_
          have b11 : vp_in y2_1 48 := inC rfl (by omega) (by omega)
          refine va_iald hx hb hK hP 8 0 rfl rfl b11 dX10_lookAhead_44 ?_
          have g12 : -1 ≤ (mgho y2_1.toNatClampNeg).toInt ∧ (mgho y2_1.toNatClampNeg).toInt ≤ 23 := rg_at r_mgho b11
          refine lv_iconst (v := (-1)) hx hb dX10_lookAhead_45 (by decide) ?_
          refine lv_icmp_ne (tgt := 53) hx hb dX10_lookAhead_46 (by decide) (fun c13 => ?_) (fun c13 => ?_)
          · have dc13 : 0 ≤ (mgho y2_1.toNatClampNeg).toInt := ka_lo (by omega) (neC rfl (show ((-1) : Int32).toInt = (-1) from rfl) c13)
            refine lv_aload_n hx hb dX10_lookAhead_53 rfl (lv_at hl 0 rfl) ?_
            refine va_get (D := (dC, dI)) (ci := 10) (v := .ref (b 12)) (C := RX10) (T := TX10) (N := 39) hx hb hts inX10 hown hK hP 0 rfl rfl 12 (by decide) lf41 (fun _ h9 => h9) rfl dX10_lookAhead_54 ?_
            refine lv_iload_n hx hb dX10_lookAhead_57 rfl (lv_at hl 1 rfl) ?_
            have b14 : vp_in y2_1 48 := inC rfl (by omega) (by omega)
            refine va_iald hx hb hK hP 9 0 rfl rfl b14 dX10_lookAhead_58 ?_
            have g15 : 0 ≤ (mfai y2_1.toNatClampNeg).toInt ∧ (mfai y2_1.toNatClampNeg).toInt ≤ 100 := rg_at r_mfai b14
            refine lv_topi (fun x16 ex16 => ?_)
            have ix16 : x16.toInt = (mfai y2_1.toNatClampNeg).toInt := by rw [ex16]
            have b17 : vp_in y2_1 240 := inC rfl (by omega) (by omega)
            have g18 : rg 240 (0) (100) (upd mahf_2 y2_1.toNatClampNeg x16) := rg_upd r_mahf_2 rfl (by omega) (by omega)
            refine va_iast hx hb hK hP hD hS 13 0 rfl rfl b17 dX10_lookAhead_59 (fun H locs hP hD hS => ?_)
            obtain ⟨mahf_u19, emahf_u19⟩ : ∃ f : Nat → Int32, f = upd mahf_2 y2_1.toNatClampNeg x16 := ⟨_, rfl⟩
            have rmahf_u19 : rg 240 (0) (100) mahf_u19 := by rw [emahf_u19]; exact g18
            have hP : va_P (dC, dI) vwCl (wMod cI cZ cQ b mday mdoo mdA mdB mfar mmar mtel mgai mfal mtop mstr mgho mfai mpto mwal mahd_u10 mahf_u19 mcho mbes mbyt mtxt mpos mtka mtok mdig mnum mfau mrdm mrea mlin mlne mthg mord mbor mbsm mans mand manr mali) H := by rw [emahf_u19]; exact hP
            have hD : va_D A (wMod cI cZ cQ b mday mdoo mdA mdB mfar mmar mtel mgai mfal mtop mstr mgho mfai mpto mwal mahd_u10 mahf_u19 mcho mbes mbyt mtxt mpos mtka mtok mdig mnum mfau mrdm mrea mlin mlne mthg mord mbor mbsm mans mand manr mali) := by rw [emahf_u19]; exact hD
            obtain ⟨z20, ez20⟩ : ∃ y : Int32, y = y2_1 + 1 := ⟨_, rfl⟩
            have iz20 : z20.toInt = y2_1.toInt + 1 := by rw [ez20]; exact addC rfl rfl (by omega) (by omega)
            refine lv_iinc (v := z20) (lv' := [(1, .int z20), (0, .ref (b 39))]) hx hb dX10_lookAhead_60 hl (k := 1) rfl (by rw [ez20]; rfl) (by decide) rfl (fun ls hl => ?_)
            refine lv_goto (tgt := 2) hx hb dX10_lookAhead_63 (by decide) ?_
            exact ih2 z20 mahd_u10 mahf_u19 _ _ _ rmahd_u10 rmahf_u19 (by omega) (by omega) (by (first | exact la_init (by first | rfl | omega) | exact la_step i2_2 (by assumption) (by assumption) (by omega) (by first | exact it_pos (by assumption) (by first | rfl | omega) | exact it_neg (by assumption) (by first | assumption | omega)) (by first | exact it_pos (by assumption) (by first | rfl | omega) | exact it_neg (by assumption) (by first | assumption | omega)) (by omega))) (by omega) hP hD hS (lv_sub hl [1, 0] rfl)
          · have dc13 : (mgho y2_1.toNatClampNeg).toInt = (-1) := eqC rfl (show ((-1) : Int32).toInt = (-1) from rfl) c13
            refine lv_iconst (v := 0) hx hb dX10_lookAhead_49 (by decide) ?_
            refine lv_goto (tgt := 59) hx hb dX10_lookAhead_50 (by decide) ?_
            have b21 : vp_in y2_1 240 := inC rfl (by omega) (by omega)
            have g22 : rg 240 (0) (100) (upd mahf_2 y2_1.toNatClampNeg 0) := rg_upd r_mahf_2 (show (0 : Int32).toInt = 0 from rfl) (by omega) (by omega)
            refine va_iast hx hb hK hP hD hS 13 0 rfl rfl b21 dX10_lookAhead_59 (fun H locs hP hD hS => ?_)
            obtain ⟨mahf_u23, emahf_u23⟩ : ∃ f : Nat → Int32, f = upd mahf_2 y2_1.toNatClampNeg 0 := ⟨_, rfl⟩
            have rmahf_u23 : rg 240 (0) (100) mahf_u23 := by rw [emahf_u23]; exact g22
            have hP : va_P (dC, dI) vwCl (wMod cI cZ cQ b mday mdoo mdA mdB mfar mmar mtel mgai mfal mtop mstr mgho mfai mpto mwal mahd_u10 mahf_u23 mcho mbes mbyt mtxt mpos mtka mtok mdig mnum mfau mrdm mrea mlin mlne mthg mord mbor mbsm mans mand manr mali) H := by rw [emahf_u23]; exact hP
            have hD : va_D A (wMod cI cZ cQ b mday mdoo mdA mdB mfar mmar mtel mgai mfal mtop mstr mgho mfai mpto mwal mahd_u10 mahf_u23 mcho mbes mbyt mtxt mpos mtka mtok mdig mnum mfau mrdm mrea mlin mlne mthg mord mbor mbsm mans mand manr mali) := by rw [emahf_u23]; exact hD
            obtain ⟨z24, ez24⟩ : ∃ y : Int32, y = y2_1 + 1 := ⟨_, rfl⟩
            have iz24 : z24.toInt = y2_1.toInt + 1 := by rw [ez24]; exact addC rfl rfl (by omega) (by omega)
            refine lv_iinc (v := z24) (lv' := [(1, .int z24), (0, .ref (b 39))]) hx hb dX10_lookAhead_60 hl (k := 1) rfl (by rw [ez24]; rfl) (by decide) rfl (fun ls hl => ?_)
            refine lv_goto (tgt := 2) hx hb dX10_lookAhead_63 (by decide) ?_
            exact ih2 z24 mahd_u10 mahf_u23 _ _ _ rmahd_u10 rmahf_u23 (by omega) (by omega) (by (first | exact la_init (by first | rfl | omega) | exact la_step i2_2 (by assumption) (by assumption) (by omega) (by first | exact it_pos (by assumption) (by first | rfl | omega) | exact it_neg (by assumption) (by first | assumption | omega)) (by first | exact it_pos (by assumption) (by first | rfl | omega) | exact it_neg (by assumption) (by first | assumption | omega)) (by omega))) (by omega) hP hD hS (lv_sub hl [1, 0] rfl)
        · have dc4 : (mtop y2_1.toNatClampNeg).toInt = (-1) := eqC rfl (show ((-1) : Int32).toInt = (-1) from rfl) c4
          refine lv_iconst (v := 0) hx hb dX10_lookAhead_23 (by decide) ?_
          refine lv_goto (tgt := 33) hx hb dX10_lookAhead_24 (by decide) ?_
          have b25 : vp_in y2_1 240 := inC rfl (by omega) (by omega)
          have g26 : rg 240 (0) (100) (upd mahd_2 y2_1.toNatClampNeg 0) := rg_upd r_mahd_2 (show (0 : Int32).toInt = 0 from rfl) (by omega) (by omega)
          refine va_iast hx hb hK hP hD hS 12 0 rfl rfl b25 dX10_lookAhead_33 (fun H locs hP hD hS => ?_)
          obtain ⟨mahd_u27, emahd_u27⟩ : ∃ f : Nat → Int32, f = upd mahd_2 y2_1.toNatClampNeg 0 := ⟨_, rfl⟩
          have rmahd_u27 : rg 240 (0) (100) mahd_u27 := by rw [emahd_u27]; exact g26
          have hP : va_P (dC, dI) vwCl (wMod cI cZ cQ b mday mdoo mdA mdB mfar mmar mtel mgai mfal mtop mstr mgho mfai mpto mwal mahd_u27 mahf_2 mcho mbes mbyt mtxt mpos mtka mtok mdig mnum mfau mrdm mrea mlin mlne mthg mord mbor mbsm mans mand manr mali) H := by rw [emahd_u27]; exact hP
          have hD : va_D A (wMod cI cZ cQ b mday mdoo mdA mdB mfar mmar mtel mgai mfal mtop mstr mgho mfai mpto mwal mahd_u27 mahf_2 mcho mbes mbyt mtxt mpos mtka mtok mdig mnum mfau mrdm mrea mlin mlne mthg mord mbor mbsm mans mand manr mali) := by rw [emahd_u27]; exact hD
          refine lv_aload_n hx hb dX10_lookAhead_34 rfl (lv_at hl 0 rfl) ?_
          refine va_get (D := (dC, dI)) (ci := 10) (v := .ref (b 16)) (C := RX10) (T := TX10) (N := 39) hx hb hts inX10 hown hK hP 0 rfl rfl 16 (by decide) lf53 (fun _ h9 => h9) rfl dX10_lookAhead_35 ?_
          refine lv_iload_n hx hb dX10_lookAhead_38 rfl (lv_at hl 1 rfl) ?_
          refine lv_aload_n hx hb dX10_lookAhead_39 rfl (lv_at hl 0 rfl) ?_
          refine va_get (D := (dC, dI)) (ci := 10) (v := .ref (b 11)) (C := RX10) (T := TX10) (N := 39) hx hb hts inX10 hown hK hP 0 rfl rfl 11 (by decide) lf38 (fun _ h9 => h9) rfl dX10_lookAhead_40 ?_
          refine lv_iload_n hx hb dX10_lookAhead_43 rfl (lv_at hl 1 rfl) ?_
          have b28 : vp_in y2_1 48 := inC rfl (by omega) (by omega)
          refine va_iald hx hb hK hP 8 0 rfl rfl b28 dX10_lookAhead_44 ?_
          have g29 : -1 ≤ (mgho y2_1.toNatClampNeg).toInt ∧ (mgho y2_1.toNatClampNeg).toInt ≤ 23 := rg_at r_mgho b28
          refine lv_iconst (v := (-1)) hx hb dX10_lookAhead_45 (by decide) ?_
          refine lv_icmp_ne (tgt := 53) hx hb dX10_lookAhead_46 (by decide) (fun c30 => ?_) (fun c30 => ?_)
          · have dc30 : 0 ≤ (mgho y2_1.toNatClampNeg).toInt := ka_lo (by omega) (neC rfl (show ((-1) : Int32).toInt = (-1) from rfl) c30)
            refine lv_aload_n hx hb dX10_lookAhead_53 rfl (lv_at hl 0 rfl) ?_
            refine va_get (D := (dC, dI)) (ci := 10) (v := .ref (b 12)) (C := RX10) (T := TX10) (N := 39) hx hb hts inX10 hown hK hP 0 rfl rfl 12 (by decide) lf41 (fun _ h9 => h9) rfl dX10_lookAhead_54 ?_
            refine lv_iload_n hx hb dX10_lookAhead_57 rfl (lv_at hl 1 rfl) ?_
            have b31 : vp_in y2_1 48 := inC rfl (by omega) (by omega)
            refine va_iald hx hb hK hP 9 0 rfl rfl b31 dX10_lookAhead_58 ?_
            have g32 : 0 ≤ (mfai y2_1.toNatClampNeg).toInt ∧ (mfai y2_1.toNatClampNeg).toInt ≤ 100 := rg_at r_mfai b31
            refine lv_topi (fun x33 ex33 => ?_)
            have ix33 : x33.toInt = (mfai y2_1.toNatClampNeg).toInt := by rw [ex33]
            have b34 : vp_in y2_1 240 := inC rfl (by omega) (by omega)
            have g35 : rg 240 (0) (100) (upd mahf_2 y2_1.toNatClampNeg x33) := rg_upd r_mahf_2 rfl (by omega) (by omega)
            refine va_iast hx hb hK hP hD hS 13 0 rfl rfl b34 dX10_lookAhead_59 (fun H locs hP hD hS => ?_)
            obtain ⟨mahf_u36, emahf_u36⟩ : ∃ f : Nat → Int32, f = upd mahf_2 y2_1.toNatClampNeg x33 := ⟨_, rfl⟩
            have rmahf_u36 : rg 240 (0) (100) mahf_u36 := by rw [emahf_u36]; exact g35
            have hP : va_P (dC, dI) vwCl (wMod cI cZ cQ b mday mdoo mdA mdB mfar mmar mtel mgai mfal mtop mstr mgho mfai mpto mwal mahd_u27 mahf_u36 mcho mbes mbyt mtxt mpos mtka mtok mdig mnum mfau mrdm mrea mlin mlne mthg mord mbor mbsm mans mand manr mali) H := by rw [emahf_u36]; exact hP
            have hD : va_D A (wMod cI cZ cQ b mday mdoo mdA mdB mfar mmar mtel mgai mfal mtop mstr mgho mfai mpto mwal mahd_u27 mahf_u36 mcho mbes mbyt mtxt mpos mtka mtok mdig mnum mfau mrdm mrea mlin mlne mthg mord mbor mbsm mans mand manr mali) := by rw [emahf_u36]; exact hD
            obtain ⟨z37, ez37⟩ : ∃ y : Int32, y = y2_1 + 1 := ⟨_, rfl⟩
            have iz37 : z37.toInt = y2_1.toInt + 1 := by rw [ez37]; exact addC rfl rfl (by omega) (by omega)
            refine lv_iinc (v := z37) (lv' := [(1, .int z37), (0, .ref (b 39))]) hx hb dX10_lookAhead_60 hl (k := 1) rfl (by rw [ez37]; rfl) (by decide) rfl (fun ls hl => ?_)
            refine lv_goto (tgt := 2) hx hb dX10_lookAhead_63 (by decide) ?_
            exact ih2 z37 mahd_u27 mahf_u36 _ _ _ rmahd_u27 rmahf_u36 (by omega) (by omega) (by (first | exact la_init (by first | rfl | omega) | exact la_step i2_2 (by assumption) (by assumption) (by omega) (by first | exact it_pos (by assumption) (by first | rfl | omega) | exact it_neg (by assumption) (by first | assumption | omega)) (by first | exact it_pos (by assumption) (by first | rfl | omega) | exact it_neg (by assumption) (by first | assumption | omega)) (by omega))) (by omega) hP hD hS (lv_sub hl [1, 0] rfl)
          · have dc30 : (mgho y2_1.toNatClampNeg).toInt = (-1) := eqC rfl (show ((-1) : Int32).toInt = (-1) from rfl) c30
            refine lv_iconst (v := 0) hx hb dX10_lookAhead_49 (by decide) ?_
            refine lv_goto (tgt := 59) hx hb dX10_lookAhead_50 (by decide) ?_
            have b38 : vp_in y2_1 240 := inC rfl (by omega) (by omega)
            have g39 : rg 240 (0) (100) (upd mahf_2 y2_1.toNatClampNeg 0) := rg_upd r_mahf_2 (show (0 : Int32).toInt = 0 from rfl) (by omega) (by omega)
            refine va_iast hx hb hK hP hD hS 13 0 rfl rfl b38 dX10_lookAhead_59 (fun H locs hP hD hS => ?_)
            obtain ⟨mahf_u40, emahf_u40⟩ : ∃ f : Nat → Int32, f = upd mahf_2 y2_1.toNatClampNeg 0 := ⟨_, rfl⟩
            have rmahf_u40 : rg 240 (0) (100) mahf_u40 := by rw [emahf_u40]; exact g39
            have hP : va_P (dC, dI) vwCl (wMod cI cZ cQ b mday mdoo mdA mdB mfar mmar mtel mgai mfal mtop mstr mgho mfai mpto mwal mahd_u27 mahf_u40 mcho mbes mbyt mtxt mpos mtka mtok mdig mnum mfau mrdm mrea mlin mlne mthg mord mbor mbsm mans mand manr mali) H := by rw [emahf_u40]; exact hP
            have hD : va_D A (wMod cI cZ cQ b mday mdoo mdA mdB mfar mmar mtel mgai mfal mtop mstr mgho mfai mpto mwal mahd_u27 mahf_u40 mcho mbes mbyt mtxt mpos mtka mtok mdig mnum mfau mrdm mrea mlin mlne mthg mord mbor mbsm mans mand manr mali) := by rw [emahf_u40]; exact hD
            obtain ⟨z41, ez41⟩ : ∃ y : Int32, y = y2_1 + 1 := ⟨_, rfl⟩
            have iz41 : z41.toInt = y2_1.toInt + 1 := by rw [ez41]; exact addC rfl rfl (by omega) (by omega)
            refine lv_iinc (v := z41) (lv' := [(1, .int z41), (0, .ref (b 39))]) hx hb dX10_lookAhead_60 hl (k := 1) rfl (by rw [ez41]; rfl) (by decide) rfl (fun ls hl => ?_)
            refine lv_goto (tgt := 2) hx hb dX10_lookAhead_63 (by decide) ?_
            exact ih2 z41 mahd_u27 mahf_u40 _ _ _ rmahd_u27 rmahf_u40 (by omega) (by omega) (by (first | exact la_init (by first | rfl | omega) | exact la_step i2_2 (by assumption) (by assumption) (by omega) (by first | exact it_pos (by assumption) (by first | rfl | omega) | exact it_neg (by assumption) (by first | assumption | omega)) (by first | exact it_pos (by assumption) (by first | rfl | omega) | exact it_neg (by assumption) (by first | assumption | omega)) (by omega))) (by omega) hP hD hS (lv_sub hl [1, 0] rfl)
  have kc42 : (0 : Int32).toInt = 0 := rfl
  exact L2 _ 0 mahd mahf _ _ _ r_mahd r_mahf (by omega) (by omega) (by (first | exact la_init (by first | rfl | omega) | exact la_step i2_2 (by assumption) (by assumption) (by omega) (by first | exact it_pos (by assumption) (by first | rfl | omega) | exact it_neg (by assumption) (by first | assumption | omega)) (by first | exact it_pos (by assumption) (by first | rfl | omega) | exact it_neg (by assumption) (by first | assumption | omega)) (by omega))) (Nat.lt_succ_self _) hP hD hS (lv_sub hl [1, 0] rfl)
