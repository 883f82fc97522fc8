set_option maxHeartbeats 4000000 in
set_option maxRecDepth 100000 in
theorem k_X10_agrees2 (l : Launch) (dC : Nat → ClassId) (dI : Nat → Nat → Nat) (cI cZ cQ : ClassId) (b : Nat → Nat) (mday : Int32) (mdoo : Int32) (mdA : Nat → Int32) (mdB : Nat → Int32) (mfar : Nat → Int32) (mmar : Nat → Int32) (mtel : Int32) (mgai : Int32) (mfal : Nat → Int32) (mtop : Nat → Int32) (mstr : Nat → Int32) (mgho : Nat → Int32) (mfai : Nat → Int32) (mpto : Nat → Int32) (mwal : Nat → Int32) (mahd : Nat → Int32) (mahf : Nat → Int32) (mcho : Nat → Int32) (mbes : Nat → Int32) (mbyt : Int32) (mtxt : Nat → Int32) (mpos : Int32) (mtka : Int32) (mtok : Int64) (mdig : Int32) (mnum : Int32) (mfau : Int32) (mrdm : Int32) (mrea : Nat → Int32) (mlin : Int32) (mlne : Nat → Int32) (mthg : Nat → Int32) (mord : Nat → Int32) (mbor : Nat → Int32) (mbsm : Int32) (mans : Nat → Int32) (mand : Nat → Int32) (manr : Nat → Int32) (mali : Nat → Int32) (pp : Int32) (tb : Int32) (r_mday : 0 ≤ mday.toInt ∧ mday.toInt ≤ 400) (r_mdoo : 0 ≤ mdoo.toInt ∧ mdoo.toInt ≤ 14) (r_mdA : rg 14 (0) (7) mdA) (r_mdB : rg 14 (0) (7) mdB) (r_mmar : rg 24 (0) (255) mmar) (r_mgai : 0 ≤ mgai.toInt ∧ mgai.toInt ≤ 100) (r_mfal : rg 11 (0) (30) mfal) (r_mtop : rg 48 (-1) (23) mtop) (r_mstr : rg 48 (0) (100) mstr) (r_mgho : rg 48 (-1) (23) mgho) (r_mfai : rg 48 (0) (100) mfai) (r_mahd : rg 240 (0) (100) mahd) (r_mahf : rg 240 (0) (100) mahf) (r_mcho : rg 5 (-1) (9) mcho) (r_mbyt : 0 ≤ mbyt.toInt ∧ mbyt.toInt ≤ 160) (r_mpos : 0 ≤ mpos.toInt ∧ mpos.toInt ≤ 160) (r_mrdm : 0 ≤ mrdm.toInt ∧ mrdm.toInt ≤ 10) (r_mlin : 0 ≤ mlin.toInt ∧ mlin.toInt ≤ 10) (r_mthg : rg 8 (0) (31) mthg) (r_mord : rg 8 (-1) (8) mord) (r_mans : rg 4 (0) (12) mans) (q0 : 0 ≤ pp.toInt) (q1 : pp.toInt ≤ 3) (q2 : 0 ≤ tb.toInt) (q3 : tb.toInt ≤ 80) : KR l yX10_agrees wsX10_agrees { frames := 1, cells := 0, slots := 0, locals := 21 } (dC, dI) (TY cI cZ cQ) (wMod cI cZ cQ b mday mdoo mdA mdB mfar mmar mtel mgai mfal mtop mstr mgho mfai mpto mwal mahd mahf mcho mbes mbyt mtxt mpos mtka mtok mdig mnum mfau mrdm mrea mlin mlne mthg mord mbor mbsm mans mand manr mali) [.ref (b 39), .int pp, .int tb] (fun r : Int32 => (r = agW mand manr tb (12 * pp.toInt).toNat (mans pp.toNatClampNeg).toInt.toNat)) := by
  refine Met.ofW (cc := cX10_agrees) (maxL := 5) (ret := (some .int)) (by decide) rfl ?_
  intro p e s m args below meth c s₁ B hml hv
  obtain ⟨rfl, hP, hK, hN⟩ := hv
  have hx := B.exec
  have hb := B.bytes
  have hr := B.returns
  have hts := atoms_spec (ws := wsX10_agrees) B.pre
  have hown : s.vm.findClass RX10 = some m.cls := findClass_of_methodNamed B.named
  have hlocks := B.notSynchronized
  have lf80 := hts (.fieldLink RX10 80 "PalaceOfRoomsModel" "answers" "[I") (List.mem_cons_of_mem _ (List.mem_append_left _ (List.mem_of_getElem? (i := 0) rfl)))
  have inX10 : ∀ w ∈ wsX100, w ∈ wsX10_agrees := fun w h => List.mem_cons_of_mem _ (List.mem_append_right _ h)
  have lf83 := hts (.fieldLink RX10 83 "PalaceOfRoomsModel" "answerDay" "[I") (List.mem_cons_of_mem _ (List.mem_append_left _ (List.mem_of_getElem? (i := 1) rfl)))
  have lf86 := hts (.fieldLink RX10 86 "PalaceOfRoomsModel" "answerRight" "[Z") (List.mem_cons_of_mem _ (List.mem_append_left _ (List.mem_of_getElem? (i := 2) rfl)))
  have hl := lv_entry ([.ref (b 39), .int pp, .int tb]) (n := 5) (Nat.le_of_ble_eq_true rfl)
  rw [lg_entry_eq]
  generalize (lg_sl ([.ref (b 39), .int pp, .int tb]) ++ List.replicate (5 - (lg_sl ([.ref (b 39), .int pp, .int tb])).length) Slot.unset).toArray = ls at hl ⊢
  have hl : lv_has ls 5 [(0, .ref (b 39)), (1, .int pp), (2, .int tb)] := hl
  have wma := r_mans pp.toNatClampNeg (by rw [clC (x := pp) rfl]; omega)
  refine lv_iconst (v := 0) hx hb dX10_agrees_0 (by decide) ?_
  refine lv_istore_n (lv' := [(3, .int 0), (0, .ref (b 39)), (1, .int pp), (2, .int tb)]) hx hb dX10_agrees_1 rfl hl (by decide) rfl (fun ls hl => ?_)
  refine lv_iconst (v := 0) hx hb dX10_agrees_2 (by decide) ?_
  refine lv_istore (lv' := [(4, .int 0), (3, .int 0), (0, .ref (b 39)), (1, .int pp), (2, .int tb)]) hx hb dX10_agrees_3 hl (by decide) rfl (fun ls hl => ?_)
  have L5 : ∀ (nn : Nat) (y5_3 : Int32) (y5_4 : Int32) (ls : Array Slot), (0 ≤ (y5_4.toInt)) → ((y5_4.toInt) ≤ 12) → (y5_3 = agW mand manr tb (12 * pp.toInt).toNat ((y5_4.toInt)).toNat) → ((y5_4.toInt) ≤ (mans pp.toNatClampNeg).toInt) → (12 - (y5_4.toInt)).toNat < nn → lv_has ls 5 [(0, .ref (b 39)), (1, .int pp), (2, .int tb), (3, .int y5_3), (4, .int y5_4)] → W p l e (headSpec wsX10_agrees { frames := 1, cells := 0, slots := 0, locals := 21 }).room s m ([.ref (b 39), .int pp, .int tb] : List Value).toArray below meth c s.heap [] 0 0 (MQ below (QR (fun r : Int32 => (r = agW mand manr tb (12 * pp.toInt).toNat (mans pp.toNatClampNeg).toInt.toNat))) ([.ref (b 39), .int pp, .int tb] : List Value).toArray s 0 0 (fun _ => False)) (F0 m 5 ls []) := by
    intro nn
    induction nn with
    | zero =>
      intro y5_3 y5_4 ls i5_0 i5_1 i5_2 i5_3 hm5
      exact absurd hm5 (Nat.not_lt_zero _)
    | succ nn ih5 =>
      intro y5_3 y5_4 ls i5_0 i5_1 i5_2 i5_3 hm5 hl
      refine lv_iload hx hb dX10_agrees_5 (lv_at hl 4 rfl) ?_
      refine lv_aload_n hx hb dX10_agrees_7 rfl (lv_at hl 0 rfl) ?_
      refine va_get (D := (dC, dI)) (ci := 10) (v := .ref (b 35)) (C := RX10) (T := TX10) (N := 39) hx hb hts inX10 hown hK hP 0 rfl rfl 35 (by decide) lf80 (fun _ h9 => h9) rfl dX10_agrees_8 ?_
      refine lv_iload_n hx hb dX10_agrees_11 rfl (lv_at hl 1 rfl) ?_
      have b1 : vp_in pp 4 := inC rfl (by omega) (by omega)
      refine va_iald hx hb hK hP 22 0 rfl rfl b1 dX10_agrees_12 ?_
      have g2 : 0 ≤ (mans pp.toNatClampNeg).toInt ∧ (mans pp.toNatClampNeg).toInt ≤ 12 := rg_at r_mans b1
      refine lv_icmp_ge (tgt := 61) hx hb dX10_agrees_13 (by decide) (fun c3 => ?_) (fun c3 => ?_)
      · have dc3 : (mans pp.toNatClampNeg).toInt ≤ y5_4.toInt := leC rfl rfl c3
        refine lv_iload_n hx hb dX10_agrees_61 rfl (lv_at hl 3 rfl) ?_
        exact W.iret (v := y5_3) hx hb hr (fun tq ht hW => ⟨y5_3, rfl, (show y5_3 = agW mand manr tb (12 * pp.toInt).toNat (mans pp.toNatClampNeg).toInt.toNat from by exact aw_e i5_2 rfl (by omega)), ht⟩) (fun q h => by cases h) dX10_agrees_62
      · have dc3 : y5_4.toInt < (mans pp.toNatClampNeg).toInt := nleC rfl rfl c3
        refine lv_iload_n hx hb dX10_agrees_16 rfl (lv_at hl 3 rfl) ?_
        refine lv_iload_n hx hb dX10_agrees_17 rfl (lv_at hl 2 rfl) ?_
        refine lv_aload_n hx hb dX10_agrees_18 rfl (lv_at hl 0 rfl) ?_
        refine va_get (D := (dC, dI)) (ci := 10) (v := .ref (b 36)) (C := RX10) (T := TX10) (N := 39) hx hb hts inX10 hown hK hP 0 rfl rfl 36 (by decide) lf83 (fun _ h9 => h9) rfl dX10_agrees_19 ?_
        refine lv_bipush (v := 12) hx hb dX10_agrees_22 (by decide) ?_
        refine lv_iload_n hx hb dX10_agrees_24 rfl (lv_at hl 1 rfl) ?_
        refine lv_imul hx hb dX10_agrees_25 ?_
        have f4 : (12 * pp).toInt = (12) * (pp.toInt) := mulC (show (12 : Int32).toInt = 12 from rfl) rfl (by omega) (by omega)
        refine lv_iload hx hb dX10_agrees_26 (lv_at hl 4 rfl) ?_
        refine lv_iadd hx hb dX10_agrees_28 ?_
        have f5 : ((12 * pp) + y5_4).toInt = ((12) * (pp.toInt)) + (y5_4.toInt) := addC f4 rfl (by omega) (by omega)
        have b6 : vp_in ((12 * pp) + y5_4) 48 := inC f5 (by omega) (by omega)
        refine va_iald hx hb hK hP 23 0 rfl rfl b6 dX10_agrees_29 ?_
        refine rdS (As := [.int tb, .int (mand ((12 * pp) + y5_4).toNatClampNeg)]) (rest := [.int y5_3]) ⟨hx, hb, hml, hown, hts⟩ (k_X10_isRight2 l dC dI cI cZ cQ tb (mand ((12 * pp) + y5_4).toNatClampNeg) (by omega) (by omega)) (va_cwS 2 hts gX10_agrees_X10_isRight rfl rfl rfl (by decide +kernel) ⟨Nat.le_of_ble_eq_true rfl, Nat.le_of_ble_eq_true rfl⟩) hP hK hN [] rfl rfl hl.1 rfl (Nat.le_of_ble_eq_true rfl) dX10_agrees_30 ⟨Nat.le_of_ble_eq_true rfl, Nat.le_of_ble_eq_true rfl⟩ (fun r7 h8 => ?_)
        have h8 : ((((r7 = 1) ∧ (sayW tb (mand ((12 * pp) + y5_4).toNatClampNeg) = true)) ∨ ((r7 = 0) ∧ (sayW tb (mand ((12 * pp) + y5_4).toNatClampNeg) = false)))) := h8
        rcases h8 with (⟨rfl, h8_a0⟩ | ⟨rfl, h8_a0⟩)
        · refine lv_aload_n hx hb dX10_agrees_33 rfl (lv_at hl 0 rfl) ?_
          refine va_get (D := (dC, dI)) (ci := 10) (v := .ref (b 37)) (C := RX10) (T := TX10) (N := 39) hx hb hts inX10 hown hK hP 0 rfl rfl 37 (by decide) lf86 (fun _ h9 => h9) rfl dX10_agrees_34 ?_
          refine lv_bipush (v := 12) hx hb dX10_agrees_37 (by decide) ?_
          refine lv_iload_n hx hb dX10_agrees_39 rfl (lv_at hl 1 rfl) ?_
          refine lv_imul hx hb dX10_agrees_40 ?_
          have f9 : (12 * pp).toInt = (12) * (pp.toInt) := mulC (show (12 : Int32).toInt = 12 from rfl) rfl (by omega) (by omega)
          refine lv_iload hx hb dX10_agrees_41 (lv_at hl 4 rfl) ?_
          refine lv_iadd hx hb dX10_agrees_43 ?_
          have f10 : ((12 * pp) + y5_4).toInt = ((12) * (pp.toInt)) + (y5_4.toInt) := addC f9 rfl (by omega) (by omega)
          have b11 : vp_in ((12 * pp) + y5_4) 48 := inC f10 (by omega) (by omega)
          refine va_zald hx hb hK hP 24 1 rfl rfl b11 dX10_agrees_44 ?_
          refine lv_icmp_ne (tgt := 52) hx hb dX10_agrees_45 (by decide) (fun c12 => ?_) (fun c12 => ?_)
          · have dc12 : 1 ≠ (manr ((12 * pp) + y5_4).toNatClampNeg).toInt := neC (show (1 : Int32).toInt = 1 from rfl) rfl c12
            refine lv_iconst (v := 0) hx hb dX10_agrees_52 (by decide) ?_
            refine lv_iadd hx hb dX10_agrees_53 ?_
            refine lv_topi (fun x13 ex13 => ?_)
            have ix13 : x13.toInt = (y5_3 + 0).toInt := by rw [ex13]
            refine lv_istore_n (lv' := [(3, .int x13), (0, .ref (b 39)), (1, .int pp), (2, .int tb), (4, .int y5_4)]) hx hb dX10_agrees_54 rfl hl (by decide) rfl (fun ls hl => ?_)
            obtain ⟨z14, ez14⟩ : ∃ y : Int32, y = y5_4 + 1 := ⟨_, rfl⟩
            have iz14 : z14.toInt = y5_4.toInt + 1 := by rw [ez14]; exact addC rfl rfl (by omega) (by omega)
            refine lv_iinc (v := z14) (lv' := [(4, .int z14), (3, .int x13), (0, .ref (b 39)), (1, .int pp), (2, .int tb)]) hx hb dX10_agrees_55 hl (k := 4) rfl (by rw [ez14]; rfl) (by decide) rfl (fun ls hl => ?_)
            refine lv_goto (tgt := 5) hx hb dX10_agrees_58 (by decide) ?_
            exact ih5 x13 z14 _ (by omega) (by omega) (by (first | exact aw_y (x := 12 * pp + y5_4) i5_2 (by first | exact sw1 (by assumption) (by assumption) | exact sw0 (by assumption) (by assumption)) (by omega) (by assumption) (by omega) | exact aw_n (x := 12 * pp + y5_4) i5_2 (by first | exact nw1 (by assumption) (by assumption) | exact nw0 (by assumption) (by assumption)) (by omega) (by assumption) (by omega) | exact aw_0 rfl (by first | rfl | omega))) (by omega) (by omega) (lv_sub hl [2, 3, 4, 1, 0] rfl)
          · have dc12 : 1 = (manr ((12 * pp) + y5_4).toNatClampNeg).toInt := eqC (show (1 : Int32).toInt = 1 from rfl) rfl c12
            refine lv_iconst (v := 1) hx hb dX10_agrees_48 (by decide) ?_
            refine lv_goto (tgt := 53) hx hb dX10_agrees_49 (by decide) ?_
            refine lv_iadd hx hb dX10_agrees_53 ?_
            refine lv_topi (fun x15 ex15 => ?_)
            have ix15 : x15.toInt = (y5_3 + 1).toInt := by rw [ex15]
            refine lv_istore_n (lv' := [(3, .int x15), (0, .ref (b 39)), (1, .int pp), (2, .int tb), (4, .int y5_4)]) hx hb dX10_agrees_54 rfl hl (by decide) rfl (fun ls hl => ?_)
            obtain ⟨z16, ez16⟩ : ∃ y : Int32, y = y5_4 + 1 := ⟨_, rfl⟩
            have iz16 : z16.toInt = y5_4.toInt + 1 := by rw [ez16]; exact addC rfl rfl (by omega) (by omega)
            refine lv_iinc (v := z16) (lv' := [(4, .int z16), (3, .int x15), (0, .ref (b 39)), (1, .int pp), (2, .int tb)]) hx hb dX10_agrees_55 hl (k := 4) rfl (by rw [ez16]; rfl) (by decide) rfl (fun ls hl => ?_)
            refine lv_goto (tgt := 5) hx hb dX10_agrees_58 (by decide) ?_
            exact ih5 x15 z16 _ (by omega) (by omega) (by (first | exact aw_y (x := 12 * pp + y5_4) i5_2 (by first | exact sw1 (by assumption) (by assumption) | exact sw0 (by assumption) (by assumption)) (by omega) (by assumption) (by omega) | exact aw_n (x := 12 * pp + y5_4) i5_2 (by first | exact nw1 (by assumption) (by assumption) | exact nw0 (by assumption) (by assumption)) (by omega) (by assumption) (by omega) | exact aw_0 rfl (by first | rfl | omega))) (by omega) (by omega) (lv_sub hl [2, 3, 4, 1, 0] rfl)
        · refine lv_aload_n hx hb dX10_agrees_33 rfl (lv_at hl 0 rfl) ?_
          refine va_get (D := (dC, dI)) (ci := 10) (v := .ref (b 37)) (C := RX10) (T := TX10) (N := 39) hx hb hts inX10 hown hK hP 0 rfl rfl 37 (by decide) lf86 (fun _ h9 => h9) rfl dX10_agrees_34 ?_
          refine lv_bipush (v := 12) hx hb dX10_agrees_37 (by decide) ?_
          refine lv_iload_n hx hb dX10_agrees_39 rfl (lv_at hl 1 rfl) ?_
          refine lv_imul hx hb dX10_agrees_40 ?_
          have f17 : (12 * pp).toInt = (12) * (pp.toInt) := mulC (show (12 : Int32).toInt = 12 from rfl) rfl (by omega) (by omega)
          refine lv_iload hx hb dX10_agrees_41 (lv_at hl 4 rfl) ?_
          refine lv_iadd hx hb dX10_agrees_43 ?_
          have f18 : ((12 * pp) + y5_4).toInt = ((12) * (pp.toInt)) + (y5_4.toInt) := addC f17 rfl (by omega) (by omega)
          have b19 : vp_in ((12 * pp) + y5_4) 48 := inC f18 (by omega) (by omega)
          refine va_zald hx hb hK hP 24 1 rfl rfl b19 dX10_agrees_44 ?_
          refine lv_icmp_ne (tgt := 52) hx hb dX10_agrees_45 (by decide) (fun c20 => ?_) (fun c20 => ?_)
          · have dc20 : 0 ≠ (manr ((12 * pp) + y5_4).toNatClampNeg).toInt := neC (show (0 : Int32).toInt = 0 from rfl) rfl c20
            refine lv_iconst (v := 0) hx hb dX10_agrees_52 (by decide) ?_
            refine lv_iadd hx hb dX10_agrees_53 ?_
            refine lv_topi (fun x21 ex21 => ?_)
            have ix21 : x21.toInt = (y5_3 + 0).toInt := by rw [ex21]
            refine lv_istore_n (lv' := [(3, .int x21), (0, .ref (b 39)), (1, .int pp), (2, .int tb), (4, .int y5_4)]) hx hb dX10_agrees_54 rfl hl (by decide) rfl (fun ls hl => ?_)
            obtain ⟨z22, ez22⟩ : ∃ y : Int32, y = y5_4 + 1 := ⟨_, rfl⟩
            have iz22 : z22.toInt = y5_4.toInt + 1 := by rw [ez22]; exact addC rfl rfl (by omega) (by omega)
            refine lv_iinc (v := z22) (lv' := [(4, .int z22), (3, .int x21), (0, .ref (b 39)), (1, .int pp), (2, .int tb)]) hx hb dX10_agrees_55 hl (k := 4) rfl (by rw [ez22]; rfl) (by decide) rfl (fun ls hl => ?_)
            refine lv_goto (tgt := 5) hx hb dX10_agrees_58 (by decide) ?_
            exact ih5 x21 z22 _ (by omega) (by omega) (by (first | exact aw_y (x := 12 * pp + y5_4) i5_2 (by first | exact sw1 (by assumption) (by assumption) | exact sw0 (by assumption) (by assumption)) (by omega) (by assumption) (by omega) | exact aw_n (x := 12 * pp + y5_4) i5_2 (by first | exact nw1 (by assumption) (by assumption) | exact nw0 (by assumption) (by assumption)) (by omega) (by assumption) (by omega) | exact aw_0 rfl (by first | rfl | omega))) (by omega) (by omega) (lv_sub hl [2, 3, 4, 1, 0] rfl)
          · have dc20 : 0 = (manr ((12 * pp) + y5_4).toNatClampNeg).toInt := eqC (show (0 : Int32).toInt = 0 from rfl) rfl c20
            refine lv_iconst (v := 1) hx hb dX10_agrees_48 (by decide) ?_
            refine lv_goto (tgt := 53) hx hb dX10_agrees_49 (by decide) ?_
            refine lv_iadd hx hb dX10_agrees_53 ?_
            refine lv_topi (fun x23 ex23 => ?_)
            have ix23 : x23.toInt = (y5_3 + 1).toInt := by rw [ex23]
            refine lv_istore_n (lv' := [(3, .int x23), (0, .ref (b 39)), (1, .int pp), (2, .int tb), (4, .int y5_4)]) hx hb dX10_agrees_54 rfl hl (by decide) rfl (fun ls hl => ?_)
            obtain ⟨z24, ez24⟩ : ∃ y : Int32, y = y5_4 + 1 := ⟨_, rfl⟩
            have iz24 : z24.toInt = y5_4.toInt + 1 := by rw [ez24]; exact addC rfl rfl (by omega) (by omega)
            refine lv_iinc (v := z24) (lv' := [(4, .int z24), (3, .int x23), (0, .ref (b 39)), (1, .int pp), (2, .int tb)]) hx hb dX10_agrees_55 hl (k := 4) rfl (by rw [ez24]; rfl) (by decide) rfl (fun ls hl => ?_)
            refine lv_goto (tgt := 5) hx hb dX10_agrees_58 (by decide) ?_
            exact ih5 x23 z24 _ (by omega) (by omega) (by (first | exact aw_y (x := 12 * pp + y5_4) i5_2 (by first | exact sw1 (by assumption) (by assumption) | exact sw0 (by assumption) (by assumption)) (by omega) (by assumption) (by omega) | exact aw_n (x := 12 * pp + y5_4) i5_2 (by first | exact nw1 (by assumption) (by assumption) | exact nw0 (by assumption) (by assumption)) (by omega) (by assumption) (by omega) | exact aw_0 rfl (by first | rfl | omega))) (by omega) (by omega) (lv_sub hl [2, 3, 4, 1, 0] rfl)
  have kc25 : (0 : Int32).toInt = 0 := rfl
  exact L5 _ 0 0 _ (by omega) (by omega) (by (first | exact aw_y (x := 12 * pp + y5_4) i5_2 (by first | exact sw1 (by assumption) (by assumption) | exact sw0 (by assumption) (by assumption)) (by omega) (by assumption) (by omega) | exact aw_n (x := 12 * pp + y5_4) i5_2 (by first | exact nw1 (by assumption) (by assumption) | exact nw0 (by assumption) (by assumption)) (by omega) (by assumption) (by omega) | exact aw_0 rfl (by first | rfl | omega))) (by omega) (Nat.lt_succ_self _) (lv_sub hl [2, 3, 4, 1, 0] rfl)
