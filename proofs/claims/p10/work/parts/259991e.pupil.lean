set_option maxHeartbeats 4000000 in
set_option maxRecDepth 100000 in
theorem k_X10_agrees2 (l : Launch) (dC : Nat → ClassId) (dI : Nat → Nat → Nat) (cI cZ cQ : ClassId) (b : Nat → Nat) (mday : Int32) (mdoo : Int32) (mdA : Nat → Int32) (mdB : Nat → Int32) (mfar : Nat → Int32) (mmar : Nat → Int32) (mtel : Int32) (mgai : Int32) (mfal : Nat → Int32) (mtop : Nat → Int32) (mstr : Nat → Int32) (mgho : Nat → Int32) (mfai : Nat → Int32) (mpto : Nat → Int32) (mwal : Nat → Int32) (mahd : Nat → Int32) (mahf : Nat → Int32) (mcho : Nat → Int32) (mbes : Nat → Int32) (mbyt : Int32) (mtxt : Nat → Int32) (mpos : Int32) (mtka : Int32) (mtok : Int64) (mdig : Int32) (mnum : Int32) (mfau : Int32) (mrdm : Int32) (mrea : Nat → Int32) (mlin : Int32) (mlne : Nat → Int32) (mthg : Nat → Int32) (mord : Nat → Int32) (mbor : Nat → Int32) (mbsm : Int32) (mans : Nat → Int32) (mand : Nat → Int32) (manr : Nat → Int32) (mali : Nat → Int32) (pp : Int32) (tb : Int32) (r_mday : 0 ≤ mday.toInt ∧ mday.toInt ≤ 400) (r_mdoo : 0 ≤ mdoo.toInt ∧ mdoo.toInt ≤ 14) (r_mdA : rg 14 (0) (7) mdA) (r_mdB : rg 14 (0) (7) mdB) (r_mmar : rg 24 (0) (255) mmar) (r_mgai : 0 ≤ mgai.toInt ∧ mgai.toInt ≤ 100) (r_mfal : rg 11 (0) (30) mfal) (r_mtop : rg 48 (-1) (23) mtop) (r_mstr : rg 48 (0) (100) mstr) (r_mgho : rg 48 (-1) (23) mgho) (r_mfai : rg 48 (0) (100) mfai) (r_mahd : rg 240 (0) (100) mahd) (r_mahf : rg 240 (0) (100) mahf) (r_mcho : rg 5 (-1) (9) mcho) (r_mbyt : 0 ≤ mbyt.toInt ∧ mbyt.toInt ≤ 160) (r_mpos : 0 ≤ mpos.toInt ∧ mpos.toInt ≤ 160) (r_mrdm : 0 ≤ mrdm.toInt ∧ mrdm.toInt ≤ 10) (r_mlin : 0 ≤ mlin.toInt ∧ mlin.toInt ≤ 10) (r_mthg : rg 8 (0) (31) mthg) (r_mord : rg 8 (-1) (8) mord) (r_mans : rg 4 (0) (12) mans) (q0 : 0 ≤ pp.toInt) (q1 : pp.toInt ≤ 3) (q2 : 0 ≤ tb.toInt) (q3 : tb.toInt ≤ 80) : KR l yX10_agrees wsX10_agrees { frames := 1, cells := 0, slots := 0, locals := 21 } (dC, dI) (TY cI cZ cQ) (wMod cI cZ cQ b mday mdoo mdA mdB mfar mmar mtel mgai mfal mtop mstr mgho mfai mpto mwal mahd mahf mcho mbes mbyt mtxt mpos mtka mtok mdig mnum mfau mrdm mrea mlin mlne mthg mord mbor mbsm mans mand manr mali) [.ref (b 39), .int pp, .int tb] (fun r : Int32 => (r = agW mand manr tb (12 * pp.toInt).toNat (mans pp.toNatClampNeg).toInt.toNat)) := by
  refine Met.ofW (cc := cX10_agrees) (maxL := 5) (ret := (some .int)) (by decide) rfl ?_
  intro p e s m args below meth c s₁ B hml hv
  obtain ⟨rfl, hP, hK, hN⟩ := hv
  have hx := B.exec
  have hb := B.bytes
  have hr := B.returns
  have hts := atoms_spec (ws := wsX10_agrees) B.pre
  have hown : s.vm.findClass RX10 = some m.cls := findClass_of_methodNamed B.named
  have hlocks := B.notSynchronized
  have lf80 := hts (.fieldLink RX10 80 "PalaceOfRoomsModel" "answers" "[I") (by decide +kernel)
  have inX10 : ∀ w ∈ wsX100, w ∈ wsX10_agrees := by decide +kernel
  have lf83 := hts (.fieldLink RX10 83 "PalaceOfRoomsModel" "answerDay" "[I") (by decide +kernel)
  have lf86 := hts (.fieldLink RX10 86 "PalaceOfRoomsModel" "answerRight" "[Z") (by decide +kernel)
  have hl := lv_entry ([.ref (b 39), .int pp, .int tb]) (n := 5) (Nat.le_of_ble_eq_true rfl)
  rw [lg_entry_eq]
  generalize (lg_sl ([.ref (b 39), .int pp, .int tb]) ++ List.replicate (5 - (lg_sl ([.ref (b 39), .int pp, .int tb])).length) Slot.unset).toArray = ls at hl ⊢
  have hl : lv_has ls 5 [(0, .ref (b 39)), (1, .int pp), (2, .int tb)] := hl
  have wma := r_mans pp.toNatClampNeg (by rw [clC (x := pp) rfl]; omega)
  refine lv_iconst (v := 0) hx hb dX10_agrees_0 (by decide) ?_
  refine lv_istore_n (lv' := [(3, .int 0), (0, .ref (b 39)), (1, .int pp), (2, .int tb)]) hx hb dX10_agrees_1 rfl hl (by decide) rfl (fun ls hl => ?_)
  refine lv_iconst (v := 0) hx hb dX10_agrees_2 (by decide) ?_
  refine lv_istore (lv' := [(4, .int 0), (3, .int 0), (0, .ref (b 39)), (1, .int pp), (2, .int tb)]) hx hb dX10_agrees_3 hl (by decide) rfl (fun ls hl => ?_)
  have L5 : ∀ (nn : Nat) (y5_3 : Int32) (y5_4 : Int32) (ls : Array Slot), (0 ≤ (y5_4.toInt)) → ((y5_4.toInt) ≤ 12) → (y5_3 = agW mand manr tb (12 * pp.toInt).toNat ((y5_4.toInt)).toNat) → ((y5_4.toInt) ≤ (mans pp.toNatClampNeg).toInt) → (12 - (y5_4.toInt)).toNat < nn → lv_has ls 5 [(0, .ref (b 39)), (1, .int pp), (2, .int tb), (3, .int y5_3), (4, .int y5_4)] → W p l e (headSpec wsX10_agrees { frames := 1, cells := 0, slots := 0, locals := 21 }).room s m ([.ref (b 39), .int pp, .int tb] : List Value).toArray below meth c s.heap [] 0 0 (MQ below (QR (fun r : Int32 => (r = agW mand manr tb (12 * pp.toInt).toNat (mans pp.toNatClampNeg).toInt.toNat))) ([.ref (b 39), .int pp, .int tb] : List Value).toArray s 0 0 (fun _ => False)) (F0 m 5 ls []) := by
    intro nn
    induction nn with
    | zero =>
      intro y5_3 y5_4 ls i5_0 i5_1 i5_2 i5_3 hm5
      exact absurd hm5 (Nat.not_lt_zero _)
    | succ nn ih5 =>
      intro y5_3 y5_4 ls i5_0 i5_1 i5_2 i5_3 hm5 hl
      refine lv_iload hx hb dX10_agrees_5 (lv_at hl 4 rfl) ?_
      refine lv_aload_n hx hb dX10_agrees_7 rfl (lv_at hl 0 rfl) ?_
      refine va_get (D := (dC, dI)) (ci := 10) (v := .ref (b 35)) (C := RX10) (T := TX10) (N := 39) hx hb hts inX10 hown hK hP 0 rfl rfl 35 (by decide) lf80 (fun _ h9 => h9) rfl dX10_agrees_8 ?_
      refine lv_iload_n hx hb dX10_agrees_11 rfl (lv_at hl 1 rfl) ?_
      have b1 : vp_in pp 4 := inC rfl (by omega) (by omega)
      refine va_iald hx hb hK hP 22 0 rfl rfl b1 dX10_agrees_12 ?_
      have g2 : 0 ≤ (mans pp.toNatClampNeg).toInt ∧ (mans pp.toNatClampNeg).toInt ≤ 12 := rg_at r_mans b1
      refine lv_icmp_ge (tgt := 61) hx hb dX10_agrees_13 (by decide) (fun c3 => ?_) (fun c3 => ?_)
      · have dc3 : (mans pp.toNatClampNeg).toInt ≤ y5_4.toInt := leC rfl rfl c3
        refine lv_iload_n hx hb dX10_agrees_61 rfl (lv_at hl 3 rfl) ?_
        exact W.iret (v := y5_3) hx hb hr (fun tq ht hW => ⟨y5_3, rfl, (show y5_3 = agW mand manr tb (12 * pp.toInt).toNat (mans pp.toNatClampNeg).toInt.toNat from by exact aw_e i5_2 rfl (by omega)), ht⟩) (fun q h => by cases h) dX10_agrees_62
      · have dc3 : y5_4.toInt < (mans pp.toNatClampNeg).toInt := nleC rfl rfl c3
        refine lv_iload_n hx hb dX10_agrees_16 rfl (lv_at hl 3 rfl) ?_
        refine lv_iload_n hx hb dX10_agrees_17 rfl (lv_at hl 2 rfl) ?_
        refine lv_aload_n hx hb dX10_agrees_18 rfl (lv_at hl 0 rfl) ?_
        refine va_get (D := (dC, dI)) (ci := 10) (v := .ref (b 36)) (C := RX10) (T := TX10) (N := 39) hx hb hts inX10 hown hK hP 0 rfl rfl 36 (by decide) lf83 (fun _ h9 => h9) rfl dX10_agrees_19 ?_
        refine lv_bipush (v := 12) hx hb dX10_agrees_22 (by decide) ?_
        refine lv_iload_n hx hb dX10_agrees_24 rfl (lv_at hl 1 rfl) ?_
        refine lv_imul hx hb dX10_agrees_25 ?_
        have f4 : (12 * pp).toInt = (12) * (pp.toInt) := mulC (show (12 : Int32).toInt = 12 from rfl) rfl (by omega) (by omega)
        refine lv_iload hx hb dX10_agrees_26 (lv_at hl 4 rfl) ?_
        refine lv_iadd hx hb dX10_agrees_28 ?_
        have f5 : ((12 * pp) + y5_4).toInt = ((12) * (pp.toInt)) + (y5_4.toInt) := addC f4 rfl (by omega) (by omega)
        have b6 : vp_in ((12 * pp) + y5_4) 48 := inC f5 (by omega) (by omega)
        refine va_iald hx hb hK hP 23 0 rfl rfl b6 dX10_agrees_29 ?_
        refine rdS (As := [.int tb, .int (mand ((12 * pp) + y5_4).toNatClampNeg)]) (rest := [.int y5_3]) ⟨hx, hb, hml, hown, hts⟩ (k_X10_isRight2 l dC dI cI cZ cQ tb (mand ((12 * pp) + y5_4).toNatClampNeg) (by omega) (by omega)) (va_cwS 2 hts gX10_agrees_X10_isRight rfl rfl rfl (by decide +kernel) ⟨Nat.le_of_ble_eq_true rfl, Nat.le_of_ble_eq_true rfl⟩) hP hK hN [] rfl rfl hl.1 rfl (Nat.le_of_ble_eq_true rfl) dX10_agrees_30 ⟨Nat.le_of_ble_eq_true rfl, Nat.le_of_ble_eq_true rfl⟩ (fun r7 h8 => ?_)
        have h8 : ((((r7 = 1) ∧ (sayW tb (mand ((12 * pp) + y5_4).toNatClampNeg) = true)) ∨ ((r7 = 0) ∧ (sayW tb (mand ((12 * pp) + y5_4).toNatClampNeg) = false)))) := h8
        rcases h8 with (⟨rfl, h8_a0⟩ | ⟨rfl, h8_a0⟩)
        · refine lv_aload_n hx hb dX10_agrees_33 rfl (lv_at hl 0 rfl) ?_
          refine va_get (D := (dC, dI)) (ci := 10) (v := .ref (b 37)) (C := RX10) (T := TX10) (N := 39) hx hb hts inX10 hown hK hP 0 rfl rfl 37 (by decide) lf86 (fun _ h9 => h9) rfl dX10_agrees_34 ?_
          refine lv_bipush (v := 12) hx hb dX10_agrees_37 (by decide) ?_
          refine lv_iload_n hx hb dX10_agrees_39 rfl (lv_at hl 1 rfl) ?_
          refine lv_imul hx hb dX10_agrees_40 ?_
          have f9 : (12 * pp).toInt = (12) * (pp.toInt) := mulC (show (12 : Int32).toInt = 12 from rfl) rfl (by omega) (by omega)
          refine lv_iload hx hb dX10_agrees_41 (lv_at hl 4 rfl) ?_
          refine lv_iadd hx hb dX10_agrees_43 ?_
          have f10 : ((12 * pp) + y5_4).toInt = ((12) * (pp.toInt)) + (y5_4.toInt) := addC f9 rfl (by omega) (by omega)
          have b11 : vp_in ((12 * pp) + y5_4) 48 := inC f10 (by omega) (by omega)
          refine va_zald hx hb hK hP 24 1 rfl rfl b11 dX10_agrees_44 ?_
          refine lv_icmp_ne (tgt := 52) hx hb dX10_agrees_45 (by decide) (fun c12 => ?_) (fun c12 => ?_)
          · have dc12 : 1 ≠ (manr ((12 * pp) + y5_4).toNatClampNeg).toInt := neC (show (1 : Int32).toInt = 1 from rfl) rfl c12
            refine lv_iconst (v := 0) hx hb dX10_agrees_52 (by decide) ?_
            refine lv_iadd hx hb dX10_agrees_53 ?_
            refine lv_topi (fun x13 ex13 => ?_)
            have ix13 : x13.toInt = (y5_3 + 0).toInt := by rw [ex13]
            refine lv_istore_n (lv' := [(3, .int x13), (0, .ref (b 39)), (1, .int pp), (2, .int tb), (4, .int y5_4)]) hx hb dX10_agrees_54 rfl hl (by decide) rfl (fun ls hl => ?_)
            obtain ⟨z14, ez14⟩ : ∃ y : Int32, y = y5_4 + 1 := ⟨_, rfl⟩
            have iz14 : z14.toInt = y5_4.toInt + 1 := by rw [ez14]; exact addC rfl rfl (by omega) (by omega)
            refine lv_iinc (v := z14) (lv' := [(4, .int z14), (3, .int x13), (0, .ref (b 39)), (1, .int pp), (2, .int tb)]) hx hb dX10_agrees_55 hl (k := 4) rfl (by rw [ez14]; rfl) (by decide) rfl (fun ls hl => ?_)
            refine lv_goto (tgt := 5) hx hb dX10_agrees_58 (by decide) ?_
            exact ih5 x13 z14 _ (by omega) (by omega) (by (first | exact aw_y (x := 12 * pp + y5_4) i5_2 (by first | exact sw1 (by assumption) (by assumption) | exact sw0 (by assumption) (by assumption)) (by omega) (by assumption) (by omega) | exact aw_n (x := 12 * pp + y5_4) i5_2 (by first | exact nw1 (by assumption) (by assumption) | exact nw0 (by assumption) (by assumption)) (by omega) (by assumption) (by omega) | exact aw_0 rfl (by first | rfl | omega))) (by omega) (by omega) (lv_sub hl [2, 3, 4, 1, 0] rfl)
          · have dc12 : 1 = (manr ((12 * pp) + y5_4).toNatClampNeg).toInt := eqC (show (1 : Int32).toInt = 1 from rfl) rfl c12
            refine lv_iconst (v := 1) hx hb dX10_agrees_48 (by decide) ?_
            refine lv_goto (tgt := 53) hx hb dX10_agrees_49 (by decide) ?_
            refine lv_iadd hx hb dX10_agrees_53 ?_
            refine lv_topi (fun x15 ex15 => ?_)
            have ix15 : x15.toInt = (y5_3 + 1).toInt := by rw [ex15]
            refine lv_istore_n (lv' := [(3, .int x15), (0, .ref (b 39)), (1, .int pp), (2, .int tb), (4, .int y5_4)]) hx hb dX10_agrees_54 rfl hl (by decide) rfl (fun ls hl => ?_)
            obtain ⟨z16, ez16⟩ : ∃ y : Int32, y = y5_4 + 1 := ⟨_, rfl⟩
            have iz16 : z16.toInt = y5_4.toInt + 1 := by rw [ez16]; exact addC rfl rfl (by omega) (by omega)
            refine lv_iinc (v := z16) (lv' := [(4, .int z16), (3, .int x15), (0, .ref (b 39)), (1, .int pp), (2, .int tb)]) hx hb dX10_agrees_55 hl (k := 4) rfl (by rw [ez16]; rfl) (by decide) rfl (fun ls hl => ?_)
            refine lv_goto (tgt := 5) hx hb dX10_agrees_58 (by decide) ?_
            exact ih5 x15 z16 _ (by omega) (by omega) (by (first | exact aw_y (x := 12 * pp + y5_4) i5_2 (by first | exact sw1 (by assumption) (by assumption) | exact sw0 (by assumption) (by assumption)) (by omega) (by assumption) (by omega) | exact aw_n (x := 12 * pp + y5_4) i5_2 (by first | exact nw1 (by assumption) (by assumption) | exact nw0 (by assumption) (by assumption)) (by omega) (by assumption) (by omega) | exact aw_0 rfl (by first | rfl | omega))) (by omega) (by omega) (lv_sub hl [2, 3, 4, 1, 0] rfl)
        · refine lv_aload_n hx hb dX10_agrees_33 rfl (lv_at hl 0 rfl) ?_
          refine va_get (D := (dC, dI)) (ci := 10) (v := .ref (b 37)) (C := RX10) (T := TX10) (N := 39) hx hb hts inX10 hown hK hP 0 rfl rfl 37 (by decide) lf86 (fun _ h9 => h9) rfl dX10_agrees_34 ?_
          refine lv_bipush (v := 12) hx hb dX10_agrees_37 (by decide) ?_
          refine lv_iload_n hx hb dX10_agrees_39 rfl (lv_at hl 1 rfl) ?_
          refine lv_imul hx hb dX10_agrees_40 ?_
          have f17 : (12 * pp).toInt = (12) * (pp.toInt) := mulC (show (12 : Int32).toInt = 12 from rfl) rfl (by omega) (by omega)
          refine lv_iload hx hb dX10_agrees_41 (lv_at hl 4 rfl) ?_
          refine lv_iadd hx hb dX10_agrees_43 ?_
          have f18 : ((12 * pp) + y5_4).toInt = ((12) * (pp.toInt)) + (y5_4.toInt) := addC f17 rfl (by omega) (by omega)
          have b19 : vp_in ((12 * pp) + y5_4) 48 := inC f18 (by omega) (by omega)
          refine va_zald hx hb hK hP 24 1 rfl rfl b19 dX10_agrees_44 ?_
          refine lv_icmp_ne (tgt := 52) hx hb dX10_agrees_45 (by decide) (fun c20 => ?_) (fun c20 => ?_)
          · have dc20 : 0 ≠ (manr ((12 * pp) + y5_4).toNatClampNeg).toInt := neC (show (0 : Int32).toInt = 0 from rfl) rfl c20
            refine lv_iconst (v := 0) hx hb dX10_agrees_52 (by decide) ?_
            refine lv_iadd hx hb dX10_agrees_53 ?_
            refine lv_topi (fun x21 ex21 => ?_)
            have ix21 : x21.toInt = (y5_3 + 0).toInt := by rw [ex21]
            refine lv_istore_n (lv' := [(3, .int x21), (0, .ref (b 39)), (1, .int pp), (2, .int tb), (4, .int y5_4)]) hx hb dX10_agrees_54 rfl hl (by decide) rfl (fun ls hl => ?_)
            obtain ⟨z22, ez22⟩ : ∃ y : Int32, y = y5_4 + 1 := ⟨_, rfl⟩
            have iz22 : z22.toInt = y5_4.toInt + 1 := by rw [ez22]; exact addC rfl rfl (by omega) (by omega)
            refine lv_iinc (v := z22) (lv' := [(4, .int z22), (3, .int x21), (0, .ref (b 39)), (1, .int pp), (2, .int tb)]) hx hb dX10_agrees_55 hl (k := 4) rfl (by rw [ez22]; rfl) (by decide) rfl (fun ls hl => ?_)
            refine lv_goto (tgt := 5) hx hb dX10_agrees_58 (by decide) ?_
            exact ih5 x21 z22 _ (by omega) (by omega) (by (first | exact aw_y (x := 12 * pp + y5_4) i5_2 (by first | exact sw1 (by assumption) (by assumption) | exact sw0 (by assumption) (by assumption)) (by omega) (by assumption) (by omega) | exact aw_n (x := 12 * pp + y5_4) i5_2 (by first | exact nw1 (by assumption) (by assumption) | exact nw0 (by assumption) (by assumption)) (by omega) (by assumption) (by omega) | exact aw_0 rfl (by first | rfl | omega))) (by omega) (by omega) (lv_sub hl [2, 3, 4, 1, 0] rfl)
          · have dc20 : 0 = (manr ((12 * pp) + y5_4).toNatClampNeg).toInt := eqC (show (0 : Int32).toInt = 0 from rfl) rfl c20
            refine lv_iconst (v := 1) hx hb dX10_agrees_48 (by decide) ?_
            refine lv_goto (tgt := 53) hx hb dX10_agrees_49 (by decide) ?_
            refine lv_iadd hx hb dX10_agrees_53 ?_
            refine lv_topi (fun x23 ex23 => ?_)
            have ix23 : x23.toInt = (y5_3 + 1).toInt := by rw [ex23]
            refine lv_istore_n (lv' := [(3, .int x23), (0, .ref (b 39)), (1, .int pp), (2, .int tb), (4, .int y5_4)]) hx hb dX10_agrees_54 rfl hl (by decide) rfl (fun ls hl => ?_)
            obtain ⟨z24, ez24⟩ : ∃ y : Int32, y = y5_4 + 1 := ⟨_, rfl⟩
            have iz24 : z24.toInt = y5_4.toInt + 1 := by rw [ez24]; exact addC rfl rfl (by omega) (by omega)
            refine lv_iinc (v := z24) (lv' := [(4, .int z24), (3, .int x23), (0, .ref (b 39)), (1, .int pp), (2, .int tb)]) hx hb dX10_agrees_55 hl (k := 4) rfl (by rw [ez24]; rfl) (by decide) rfl (fun ls hl => ?_)
            refine lv_goto (tgt := 5) hx hb dX10_agrees_58 (by decide) ?_
            exact ih5 x23 z24 _ (by omega) (by omega) (by (first | exact aw_y (x := 12 * pp + y5_4) i5_2 (by first | exact sw1 (by assumption) (by assumption) | exact sw0 (by assumption) (by assumption)) (by omega) (by assumption) (by omega) | exact aw_n (x := 12 * pp + y5_4) i5_2 (by first | exact nw1 (by assumption) (by assumption) | exact nw0 (by assumption) (by assumption)) (by omega) (by assumption) (by omega) | exact aw_0 rfl (by first | rfl | omega))) (by omega) (by omega) (lv_sub hl [2, 3, 4, 1, 0] rfl)
  have kc25 : (0 : Int32).toInt = 0 := rfl
  exact L5 _ 0 0 _ (by omega) (by omega) (by (first | exact aw_y (x := 12 * pp + y5_4) i5_2 (by first | exact sw1 (by assumption) (by assumption) | exact sw0 (by assumption) (by assumption)) (by omega) (by assumption) (by omega) | exact aw_n (x := 12 * pp + y5_4) i5_2 (by first | exact nw1 (by assumption) (by assumption) | exact nw0 (by assumption) (by assumption)) (by omega) (by assumption) (by omega) | exact aw_0 rfl (by first | rfl | omega))) (by omega) (Nat.lt_succ_self _) (lv_sub hl [2, 3, 4, 1, 0] rfl)
set_option maxHeartbeats 4000000 in
set_option maxRecDepth 100000 in
theorem k_X10_answer2 (l : Launch) (dC : Nat → ClassId) (dI : Nat → Nat → Nat) (cI cZ cQ : ClassId) (b : Nat → Nat) (mday : Int32) (mdoo : Int32) (mdA : Nat → Int32) (mdB : Nat → Int32) (mfar : Nat → Int32) (mmar : Nat → Int32) (mtel : Int32) (mgai : Int32) (mfal : Nat → Int32) (mtop : Nat → Int32) (mstr : Nat → Int32) (mgho : Nat → Int32) (mfai : Nat → Int32) (mpto : Nat → Int32) (mwal : Nat → Int32) (mahd : Nat → Int32) (mahf : Nat → Int32) (mcho : Nat → Int32) (mbes : Nat → Int32) (mbyt : Int32) (mtxt : Nat → Int32) (mpos : Int32) (mtka : Int32) (mtok : Int64) (mdig : Int32) (mnum : Int32) (mfau : Int32) (mrdm : Int32) (mrea : Nat → Int32) (mlin : Int32) (mlne : Nat → Int32) (mthg : Nat → Int32) (mord : Nat → Int32) (mbor : Nat → Int32) (mbsm : Int32) (mans : Nat → Int32) (mand : Nat → Int32) (manr : Nat → Int32) (mali : Nat → Int32) (sz : Nat) (pp : Int32) (dd : Int32) (ri : Int32) (r_mday : 0 ≤ mday.toInt ∧ mday.toInt ≤ 400) (r_mdoo : 0 ≤ mdoo.toInt ∧ mdoo.toInt ≤ 14) (r_mdA : rg 14 (0) (7) mdA) (r_mdB : rg 14 (0) (7) mdB) (r_mmar : rg 24 (0) (255) mmar) (r_mgai : 0 ≤ mgai.toInt ∧ mgai.toInt ≤ 100) (r_mfal : rg 11 (0) (30) mfal) (r_mtop : rg 48 (-1) (23) mtop) (r_mstr : rg 48 (0) (100) mstr) (r_mgho : rg 48 (-1) (23) mgho) (r_mfai : rg 48 (0) (100) mfai) (r_mahd : rg 240 (0) (100) mahd) (r_mahf : rg 240 (0) (100) mahf) (r_mcho : rg 5 (-1) (9) mcho) (r_mbyt : 0 ≤ mbyt.toInt ∧ mbyt.toInt ≤ 160) (r_mpos : 0 ≤ mpos.toInt ∧ mpos.toInt ≤ 160) (r_mrdm : 0 ≤ mrdm.toInt ∧ mrdm.toInt ≤ 10) (r_mlin : 0 ≤ mlin.toInt ∧ mlin.toInt ≤ 10) (r_mthg : rg 8 (0) (31) mthg) (r_mord : rg 8 (-1) (8) mord) (r_mans : rg 4 (0) (12) mans) : KW l yX10_answer wsX10_answer { frames := 2, cells := 0, slots := 0, locals := 42 } (dC, dI) (TY cI cZ cQ) (wMod cI cZ cQ b mday mdoo mdA mdB mfar mmar mtel mgai mfal mtop mstr mgho mfai mpto mwal mahd mahf mcho mbes mbyt mtxt mpos mtka mtok mdig mnum mfau mrdm mrea mlin mlne mthg mord mbor mbsm mans mand manr mali) [.ref (b 39), .int pp, .int dd, .int ri] sz 0 0 (fun (r : Int32) (u : US) => (spAnM mans mand manr pp dd ri r (u.1 0) (u.1 1) (u.1 2)) ∧ (rg 4 (0) (12) (u.1 0))) (fun u : US => (wMod cI cZ cQ b mday mdoo mdA mdB mfar mmar mtel mgai mfal mtop mstr mgho mfai mpto mwal mahd mahf mcho mbes mbyt mtxt mpos mtka mtok mdig mnum mfau mrdm mrea mlin mlne mthg mord mbor mbsm (u.1 0) (u.1 1) (u.1 2) mali)) := by
  refine Met.ofW (cc := cX10_answer) (maxL := 4) (ret := (some .int)) (by decide) rfl ?_
  intro p e s m args below meth c s₁ B hml hv
  obtain ⟨rfl, hsz, hP, hK, hD0, hN⟩ := hv
  have hx := B.exec
  have hb := B.bytes
  have hr := B.returns
  have hts := atoms_spec (ws := wsX10_answer) B.pre
  have hown : s.vm.findClass RX10 = some m.cls := findClass_of_methodNamed B.named
  have hlocks := B.notSynchronized
  have lf80 := hts (.fieldLink RX10 80 "PalaceOfRoomsModel" "answers" "[I") (by decide +kernel)
  have inX10 : ∀ w ∈ wsX100, w ∈ wsX10_answer := by decide +kernel
  have lf83 := hts (.fieldLink RX10 83 "PalaceOfRoomsModel" "answerDay" "[I") (by decide +kernel)
  have lf86 := hts (.fieldLink RX10 86 "PalaceOfRoomsModel" "answerRight" "[Z") (by decide +kernel)
  subst hsz
  have hD := hD0.self (sz := s.heap.size)
  generalize hAe : va_A (wMod cI cZ cQ b mday mdoo mdA mdB mfar mmar mtel mgai mfal mtop mstr mgho mfai mpto mwal mahd mahf mcho mbes mbyt mtxt mpos mtka mtok mdig mnum mfau mrdm mrea mlin mlne mthg mord mbor mbsm mans mand manr mali) s.heap.size = A at hD ⊢
  have hA : ∀ q : Nat, s.heap.size ≤ q → A q := fun q h => by rw [← hAe]; exact Or.inr h
  have hS : va_S A s.heap s.heap [] := va_S.rf
  have hl := lv_entry ([.ref (b 39), .int pp, .int dd, .int ri]) (n := 4) (Nat.le_of_ble_eq_true rfl)
  rw [lg_entry_eq]
  generalize (lg_sl ([.ref (b 39), .int pp, .int dd, .int ri]) ++ List.replicate (4 - (lg_sl ([.ref (b 39), .int pp, .int dd, .int ri])).length) Slot.unset).toArray = ls at hl ⊢
  have hl : lv_has ls 4 [(0, .ref (b 39)), (1, .int pp), (2, .int dd), (3, .int ri)] := hl
  refine lv_iload_n hx hb dX10_answer_0 rfl (lv_at hl 1 rfl) ?_
  refine rdS (As := [.int pp]) (rest := []) ⟨hx, hb, hml, hown, hts⟩ (k_X10_isPupil l dC dI cI cZ cQ pp) (va_cwS 1 hts gX10_answer_X10_isPupil rfl rfl rfl (by decide +kernel) ⟨Nat.le_of_ble_eq_true rfl, Nat.le_of_ble_eq_true rfl⟩) hP hK hN [] rfl rfl hl.1 rfl (Nat.le_of_ble_eq_true rfl) dX10_answer_1 ⟨Nat.le_of_ble_eq_true rfl, Nat.le_of_ble_eq_true rfl⟩ (fun r1 h2 => ?_)
  have h2 : ((((r1 = 1) ∧ (0 ≤ pp.toInt) ∧ (pp.toInt ≤ 3)) ∨ ((r1 = 0) ∧ (pp.toInt < 0 ∨ 3 < pp.toInt)))) := h2
  rcases h2 with (⟨rfl, h2_a0, h2_a1⟩ | ⟨rfl, h2_a0⟩)
  · refine lv_if_ne (tgt := 10) hx hb dX10_answer_4 (by decide) (fun _ => ?_) (fun c9 => absurd c9 (by decide))
    refine lv_iload_n hx hb dX10_answer_10 rfl (lv_at hl 2 rfl) ?_
    refine lv_iconst (v := 1) hx hb dX10_answer_11 (by decide) ?_
    refine lv_bipush (v := 60) hx hb dX10_answer_12 (by decide) ?_
    refine rdS (As := [.int dd, .int 1, .int 60]) (rest := []) ⟨hx, hb, hml, hown, hts⟩ (k_X10_in l dC dI cI cZ cQ dd (1 : Int32) (60 : Int32)) (va_cwS 3 hts gX10_answer_X10_in rfl rfl rfl (by decide +kernel) ⟨Nat.le_of_ble_eq_true rfl, Nat.le_of_ble_eq_true rfl⟩) hP hK hN [] rfl rfl hl.1 rfl (Nat.le_of_ble_eq_true rfl) dX10_answer_14 ⟨Nat.le_of_ble_eq_true rfl, Nat.le_of_ble_eq_true rfl⟩ (fun r3 h4 => ?_)
    have h4 : ((((r3 = 1) ∧ ((1) ≤ dd.toInt) ∧ (dd.toInt ≤ (60))) ∨ ((r3 = 0) ∧ (dd.toInt < (1) ∨ (60) < dd.toInt)))) := h4
    rcases h4 with (⟨rfl, h4_a0, h4_a1⟩ | ⟨rfl, h4_a0⟩)
    · refine lv_if_ne (tgt := 23) hx hb dX10_answer_17 (by decide) (fun _ => ?_) (fun c9 => absurd c9 (by decide))
      refine lv_aload_n hx hb dX10_answer_23 rfl (lv_at hl 0 rfl) ?_
      refine va_get (D := (dC, dI)) (ci := 10) (v := .ref (b 35)) (C := RX10) (T := TX10) (N := 39) hx hb hts inX10 hown hK hP 0 rfl rfl 35 (by decide) lf80 (fun _ h9 => h9) rfl dX10_answer_24 ?_
      refine lv_iload_n hx hb dX10_answer_27 rfl (lv_at hl 1 rfl) ?_
      have b5 : vp_in pp 4 := inC rfl (by omega) (by omega)
      refine va_iald hx hb hK hP 22 0 rfl rfl b5 dX10_answer_28 ?_
      have g6 : 0 ≤ (mans pp.toNatClampNeg).toInt ∧ (mans pp.toNatClampNeg).toInt ≤ 12 := rg_at r_mans b5
      refine lv_bipush (v := 12) hx hb dX10_answer_29 (by decide) ?_
      refine lv_icmp_ne (tgt := 37) hx hb dX10_answer_31 (by decide) (fun c7 => ?_) (fun c7 => ?_)
      · have dc7 : (mans pp.toNatClampNeg).toInt ≤ 11 := ka_hi (by omega) (neC rfl (show (12 : Int32).toInt = 12 from rfl) c7)
        refine lv_aload_n hx hb dX10_answer_37 rfl (lv_at hl 0 rfl) ?_
        refine va_get (D := (dC, dI)) (ci := 10) (v := .ref (b 36)) (C := RX10) (T := TX10) (N := 39) hx hb hts inX10 hown hK hP 0 rfl rfl 36 (by decide) lf83 (fun _ h9 => h9) rfl dX10_answer_38 ?_
        refine lv_bipush (v := 12) hx hb dX10_answer_41 (by decide) ?_
        refine lv_iload_n hx hb dX10_answer_43 rfl (lv_at hl 1 rfl) ?_
        refine lv_imul hx hb dX10_answer_44 ?_
        have f8 : (12 * pp).toInt = (12) * (pp.toInt) := mulC (show (12 : Int32).toInt = 12 from rfl) rfl (by omega) (by omega)
        refine lv_aload_n hx hb dX10_answer_45 rfl (lv_at hl 0 rfl) ?_
        refine va_get (D := (dC, dI)) (ci := 10) (v := .ref (b 35)) (C := RX10) (T := TX10) (N := 39) hx hb hts inX10 hown hK hP 0 rfl rfl 35 (by decide) lf80 (fun _ h9 => h9) rfl dX10_answer_46 ?_
        refine lv_iload_n hx hb dX10_answer_49 rfl (lv_at hl 1 rfl) ?_
        have b9 : vp_in pp 4 := inC rfl (by omega) (by omega)
        refine va_iald hx hb hK hP 22 0 rfl rfl b9 dX10_answer_50 ?_
        have g10 : 0 ≤ (mans pp.toNatClampNeg).toInt ∧ (mans pp.toNatClampNeg).toInt ≤ 12 := rg_at r_mans b9
        refine lv_iadd hx hb dX10_answer_51 ?_
        have f11 : ((12 * pp) + (mans pp.toNatClampNeg)).toInt = ((12) * (pp.toInt)) + ((mans pp.toNatClampNeg).toInt) := addC f8 rfl (by omega) (by omega)
        refine lv_iload_n hx hb dX10_answer_52 rfl (lv_at hl 2 rfl) ?_
        have b12 : vp_in ((12 * pp) + (mans pp.toNatClampNeg)) 48 := inC f11 (by omega) (by omega)
        refine va_iast hx hb hK hP hD hS 23 0 rfl rfl b12 dX10_answer_53 (fun H locs hP hD hS => ?_)
        obtain ⟨mand_u13, emand_u13⟩ : ∃ f : Nat → Int32, f = upd mand ((12 * pp) + (mans pp.toNatClampNeg)).toNatClampNeg dd := ⟨_, rfl⟩
        have hP : va_P (dC, dI) vwCl (wMod cI cZ cQ b mday mdoo mdA mdB mfar mmar mtel mgai mfal mtop mstr mgho mfai mpto mwal mahd mahf mcho mbes mbyt mtxt mpos mtka mtok mdig mnum mfau mrdm mrea mlin mlne mthg mord mbor mbsm mans mand_u13 manr mali) H := by rw [emand_u13]; exact hP
        have hD : va_D A (wMod cI cZ cQ b mday mdoo mdA mdB mfar mmar mtel mgai mfal mtop mstr mgho mfai mpto mwal mahd mahf mcho mbes mbyt mtxt mpos mtka mtok mdig mnum mfau mrdm mrea mlin mlne mthg mord mbor mbsm mans mand_u13 manr mali) := by rw [emand_u13]; exact hD
        refine lv_aload_n hx hb dX10_answer_54 rfl (lv_at hl 0 rfl) ?_
        refine va_get (D := (dC, dI)) (ci := 10) (v := .ref (b 37)) (C := RX10) (T := TX10) (N := 39) hx hb hts inX10 hown hK hP 0 rfl rfl 37 (by decide) lf86 (fun _ h9 => h9) rfl dX10_answer_55 ?_
        refine lv_bipush (v := 12) hx hb dX10_answer_58 (by decide) ?_
        refine lv_iload_n hx hb dX10_answer_60 rfl (lv_at hl 1 rfl) ?_
        refine lv_imul hx hb dX10_answer_61 ?_
        have f14 : (12 * pp).toInt = (12) * (pp.toInt) := mulC (show (12 : Int32).toInt = 12 from rfl) rfl (by omega) (by omega)
        refine lv_aload_n hx hb dX10_answer_62 rfl (lv_at hl 0 rfl) ?_
        refine va_get (D := (dC, dI)) (ci := 10) (v := .ref (b 35)) (C := RX10) (T := TX10) (N := 39) hx hb hts inX10 hown hK hP 0 rfl rfl 35 (by decide) lf80 (fun _ h9 => h9) rfl dX10_answer_63 ?_
        refine lv_iload_n hx hb dX10_answer_66 rfl (lv_at hl 1 rfl) ?_
        have b15 : vp_in pp 4 := inC rfl (by omega) (by omega)
        refine va_iald hx hb hK hP 22 0 rfl rfl b15 dX10_answer_67 ?_
        have g16 : 0 ≤ (mans pp.toNatClampNeg).toInt ∧ (mans pp.toNatClampNeg).toInt ≤ 12 := rg_at r_mans b15
        refine lv_iadd hx hb dX10_answer_68 ?_
        have f17 : ((12 * pp) + (mans pp.toNatClampNeg)).toInt = ((12) * (pp.toInt)) + ((mans pp.toNatClampNeg).toInt) := addC f14 rfl (by omega) (by omega)
        refine lv_iload_n hx hb dX10_answer_69 rfl (lv_at hl 3 rfl) ?_
        have b18 : vp_in ((12 * pp) + (mans pp.toNatClampNeg)) 48 := inC f17 (by omega) (by omega)
        refine va_zast hx hb hK hP hD hS 24 1 rfl rfl b18 dX10_answer_70 (fun H locs hP hD hS => ?_)
        obtain ⟨manr_u19, emanr_u19⟩ : ∃ f : Nat → Int32, f = upd manr ((12 * pp) + (mans pp.toNatClampNeg)).toNatClampNeg (vp_nar .boolean ri) := ⟨_, rfl⟩
        have hP : va_P (dC, dI) vwCl (wMod cI cZ cQ b mday mdoo mdA mdB mfar mmar mtel mgai mfal mtop mstr mgho mfai mpto mwal mahd mahf mcho mbes mbyt mtxt mpos mtka mtok mdig mnum mfau mrdm mrea mlin mlne mthg mord mbor mbsm mans mand_u13 manr_u19 mali) H := by rw [emanr_u19]; exact hP
        have hD : va_D A (wMod cI cZ cQ b mday mdoo mdA mdB mfar mmar mtel mgai mfal mtop mstr mgho mfai mpto mwal mahd mahf mcho mbes mbyt mtxt mpos mtka mtok mdig mnum mfau mrdm mrea mlin mlne mthg mord mbor mbsm mans mand_u13 manr_u19 mali) := by rw [emanr_u19]; exact hD
        refine lv_aload_n hx hb dX10_answer_71 rfl (lv_at hl 0 rfl) ?_
        refine va_get (D := (dC, dI)) (ci := 10) (v := .ref (b 35)) (C := RX10) (T := TX10) (N := 39) hx hb hts inX10 hown hK hP 0 rfl rfl 35 (by decide) lf80 (fun _ h9 => h9) rfl dX10_answer_72 ?_
        refine lv_iload_n hx hb dX10_answer_75 rfl (lv_at hl 1 rfl) ?_
        refine lv_dup2_11 hx hb dX10_answer_76 rfl rfl ?_
        have b20 : vp_in pp 4 := inC rfl (by omega) (by omega)
        refine va_iald hx hb hK hP 22 0 rfl rfl b20 dX10_answer_77 ?_
        have g21 : 0 ≤ (mans pp.toNatClampNeg).toInt ∧ (mans pp.toNatClampNeg).toInt ≤ 12 := rg_at r_mans b20
        refine lv_iconst (v := 1) hx hb dX10_answer_78 (by decide) ?_
        refine lv_iadd hx hb dX10_answer_79 ?_
        have f22 : ((mans pp.toNatClampNeg) + 1).toInt = ((mans pp.toNatClampNeg).toInt) + (1) := addC rfl (show (1 : Int32).toInt = 1 from rfl) (by omega) (by omega)
        refine lv_topi (fun x23 ex23 => ?_)
        have ix23 : x23.toInt = ((mans pp.toNatClampNeg).toInt) + (1) := by rw [ex23]; exact f22
        have b24 : vp_in pp 4 := inC rfl (by omega) (by omega)
        have g25 : rg 4 (0) (12) (upd mans pp.toNatClampNeg x23) := rg_upd r_mans rfl (by omega) (by omega)
        refine va_iast hx hb hK hP hD hS 22 0 rfl rfl b24 dX10_answer_80 (fun H locs hP hD hS => ?_)
        obtain ⟨mans_u26, emans_u26⟩ : ∃ f : Nat → Int32, f = upd mans pp.toNatClampNeg x23 := ⟨_, rfl⟩
        have rmans_u26 : rg 4 (0) (12) mans_u26 := by rw [emans_u26]; exact g25
        have hP : va_P (dC, dI) vwCl (wMod cI cZ cQ b mday mdoo mdA mdB mfar mmar mtel mgai mfal mtop mstr mgho mfai mpto mwal mahd mahf mcho mbes mbyt mtxt mpos mtka mtok mdig mnum mfau mrdm mrea mlin mlne mthg mord mbor mbsm mans_u26 mand_u13 manr_u19 mali) H := by rw [emans_u26]; exact hP
        have hD : va_D A (wMod cI cZ cQ b mday mdoo mdA mdB mfar mmar mtel mgai mfal mtop mstr mgho mfai mpto mwal mahd mahf mcho mbes mbyt mtxt mpos mtka mtok mdig mnum mfau mrdm mrea mlin mlne mthg mord mbor mbsm mans_u26 mand_u13 manr_u19 mali) := by rw [emans_u26]; exact hD
        refine lv_aload_n hx hb dX10_answer_81 rfl (lv_at hl 0 rfl) ?_
        refine va_get (D := (dC, dI)) (ci := 10) (v := .ref (b 35)) (C := RX10) (T := TX10) (N := 39) hx hb hts inX10 hown hK hP 0 rfl rfl 35 (by decide) lf80 (fun _ h9 => h9) rfl dX10_answer_82 ?_
        refine lv_iload_n hx hb dX10_answer_85 rfl (lv_at hl 1 rfl) ?_
        have b27 : vp_in pp 4 := inC rfl (by omega) (by omega)
        refine va_iald hx hb hK hP 22 0 rfl rfl b27 dX10_answer_86 ?_
        have g28 : 0 ≤ (mans_u26 pp.toNatClampNeg).toInt ∧ (mans_u26 pp.toNatClampNeg).toInt ≤ 12 := rg_at rmans_u26 b27
        have o29 : (mans_u26 pp.toNatClampNeg).toInt = x23.toInt := by rw [emans_u26, pk_us]
        exact W.iret (v := mans_u26 pp.toNatClampNeg) hx hb hr (fun tq ht hW => ⟨⟨mans_u26 pp.toNatClampNeg, (uS [mans_u26, mand_u13, manr_u19] 0 (fun _ => 0)), rfl, ⟨(show spAnM mans mand manr pp dd ri (mans_u26 pp.toNatClampNeg) mans_u26 mand_u13 manr_u19 from by exact ⟨by (unfold spAns; subst_vars; first | exact Or.inl ⟨by omega, rfl, rfl⟩ | exact Or.inr (Or.inl ⟨by omega, by omega, rfl, rfl⟩) | exact Or.inr (Or.inr (Or.inl ⟨by omega, by omega, by omega, rfl, rfl⟩)) | exact Or.inr (Or.inr (Or.inr ⟨by omega, by omega, by omega, by (first | rfl | exact pk_us), rfl⟩))), by (first | exact Or.inl ⟨by decide, rfl, rfl⟩ | exact Or.inr ⟨by omega, by (first | exact an_ix (by assumption) (by assumption) | assumption), by (first | exact an_ix (by assumption) (by assumption) | assumption)⟩)⟩), rmans_u26⟩, by rw [ht]; exact hP, hD⟩, hS.F ht⟩) hS.2.2 dX10_answer_87
      · have dc7 : (mans pp.toNatClampNeg).toInt = 12 := eqC rfl (show (12 : Int32).toInt = 12 from rfl) c7
        refine lv_bipush (v := (-5)) hx hb dX10_answer_34 (by decide) ?_
        exact W.iret (v := (-5)) hx hb hr (fun tq ht hW => ⟨⟨(-5), (uS [mans, mand, manr] 0 (fun _ => 0)), rfl, ⟨(show spAnM mans mand manr pp dd ri ((-5) : Int32) mans mand manr from by (try rw [show ((-5) : Int32).toInt = (-5) from (show ((-5) : Int32).toInt = (-5) from rfl)]); exact ⟨by (unfold spAns; subst_vars; first | exact Or.inl ⟨by omega, rfl, rfl⟩ | exact Or.inr (Or.inl ⟨by omega, by omega, rfl, rfl⟩) | exact Or.inr (Or.inr (Or.inl ⟨by omega, by omega, by omega, rfl, rfl⟩)) | exact Or.inr (Or.inr (Or.inr ⟨by omega, by omega, by omega, by (first | rfl | exact pk_us), rfl⟩))), by (first | exact Or.inl ⟨by decide, rfl, rfl⟩ | exact Or.inr ⟨by omega, by (first | exact an_ix (by assumption) (by assumption) | assumption), by (first | exact an_ix (by assumption) (by assumption) | assumption)⟩)⟩), r_mans⟩, by rw [ht]; exact hP, hD⟩, hS.F ht⟩) hS.2.2 dX10_answer_36
    · refine lv_if_ne (tgt := 23) hx hb dX10_answer_17 (by decide) (fun c9 => absurd (by decide) c9) (fun _ => ?_)
      refine lv_bipush (v := (-3)) hx hb dX10_answer_20 (by decide) ?_
      exact W.iret (v := (-3)) hx hb hr (fun tq ht hW => ⟨⟨(-3), (uS [mans, mand, manr] 0 (fun _ => 0)), rfl, ⟨(show spAnM mans mand manr pp dd ri ((-3) : Int32) mans mand manr from by (try rw [show ((-3) : Int32).toInt = (-3) from (show ((-3) : Int32).toInt = (-3) from rfl)]); exact ⟨by (unfold spAns; subst_vars; first | exact Or.inl ⟨by omega, rfl, rfl⟩ | exact Or.inr (Or.inl ⟨by omega, by omega, rfl, rfl⟩) | exact Or.inr (Or.inr (Or.inl ⟨by omega, by omega, by omega, rfl, rfl⟩)) | exact Or.inr (Or.inr (Or.inr ⟨by omega, by omega, by omega, by (first | rfl | exact pk_us), rfl⟩))), by (first | exact Or.inl ⟨by decide, rfl, rfl⟩ | exact Or.inr ⟨by omega, by (first | exact an_ix (by assumption) (by assumption) | assumption), by (first | exact an_ix (by assumption) (by assumption) | assumption)⟩)⟩), r_mans⟩, by rw [ht]; exact hP, hD⟩, hS.F ht⟩) hS.2.2 dX10_answer_22
  · refine lv_if_ne (tgt := 10) hx hb dX10_answer_4 (by decide) (fun c9 => absurd (by decide) c9) (fun _ => ?_)
    refine lv_bipush (v := (-2)) hx hb dX10_answer_7 (by decide) ?_
    exact W.iret (v := (-2)) hx hb hr (fun tq ht hW => ⟨⟨(-2), (uS [mans, mand, manr] 0 (fun _ => 0)), rfl, ⟨(show spAnM mans mand manr pp dd ri ((-2) : Int32) mans mand manr from by (try rw [show ((-2) : Int32).toInt = (-2) from (show ((-2) : Int32).toInt = (-2) from rfl)]); exact ⟨by (unfold spAns; subst_vars; first | exact Or.inl ⟨by omega, rfl, rfl⟩ | exact Or.inr (Or.inl ⟨by omega, by omega, rfl, rfl⟩) | exact Or.inr (Or.inr (Or.inl ⟨by omega, by omega, by omega, rfl, rfl⟩)) | exact Or.inr (Or.inr (Or.inr ⟨by omega, by omega, by omega, by (first | rfl | exact pk_us), rfl⟩))), by (first | exact Or.inl ⟨by decide, rfl, rfl⟩ | exact Or.inr ⟨by omega, by (first | exact an_ix (by assumption) (by assumption) | assumption), by (first | exact an_ix (by assumption) (by assumption) | assumption)⟩)⟩), r_mans⟩, by rw [ht]; exact hP, hD⟩, hS.F ht⟩) hS.2.2 dX10_answer_9

