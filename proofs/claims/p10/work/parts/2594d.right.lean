set_option maxHeartbeats 4000000 in
set_option maxRecDepth 100000 in
theorem k_X10_right2 (l : Launch) (dC : Nat → ClassId) (dI : Nat → Nat → Nat) (cI cZ cQ : ClassId) (b : Nat → Nat) (mday : Int32) (mdoo : Int32) (mdA : Nat → Int32) (mdB : Nat → Int32) (mfar : Nat → Int32) (mmar : Nat → Int32) (mtel : Int32) (mgai : Int32) (mfal : Nat → Int32) (mtop : Nat → Int32) (mstr : Nat → Int32) (mgho : Nat → Int32) (mfai : Nat → Int32) (mpto : Nat → Int32) (mwal : Nat → Int32) (mahd : Nat → Int32) (mahf : Nat → Int32) (mcho : Nat → Int32) (mbes : Nat → Int32) (mbyt : Int32) (mtxt : Nat → Int32) (mpos : Int32) (mtka : Int32) (mtok : Int64) (mdig : Int32) (mnum : Int32) (mfau : Int32) (mrdm : Int32) (mrea : Nat → Int32) (mlin : Int32) (mlne : Nat → Int32) (mthg : Nat → Int32) (mord : Nat → Int32) (mbor : Nat → Int32) (mbsm : Int32) (mans : Nat → Int32) (mand : Nat → Int32) (manr : Nat → Int32) (mali : Nat → Int32) (co : Int32) (pt : Int32) (r_mday : 0 ≤ mday.toInt ∧ mday.toInt ≤ 400) (r_mdoo : 0 ≤ mdoo.toInt ∧ mdoo.toInt ≤ 14) (r_mdA : rg 14 (0) (7) mdA) (r_mdB : rg 14 (0) (7) mdB) (r_mmar : rg 24 (0) (255) mmar) (r_mgai : 0 ≤ mgai.toInt ∧ mgai.toInt ≤ 100) (r_mfal : rg 11 (0) (30) mfal) (r_mtop : rg 48 (-1) (23) mtop) (r_mstr : rg 48 (0) (100) mstr) (r_mgho : rg 48 (-1) (23) mgho) (r_mfai : rg 48 (0) (100) mfai) (r_mahd : rg 240 (0) (100) mahd) (r_mahf : rg 240 (0) (100) mahf) (r_mcho : rg 5 (-1) (9) mcho) (r_mbyt : 0 ≤ mbyt.toInt ∧ mbyt.toInt ≤ 160) (r_mpos : 0 ≤ mpos.toInt ∧ mpos.toInt ≤ 160) (r_mrdm : 0 ≤ mrdm.toInt ∧ mrdm.toInt ≤ 10) (r_mlin : 0 ≤ mlin.toInt ∧ mlin.toInt ≤ 10) (r_mthg : rg 8 (0) (31) mthg) (r_mord : rg 8 (-1) (8) mord) (r_mans : rg 4 (0) (12) mans) : KR l yX10_right wsX10_right { frames := 2, cells := 0, slots := 0, locals := 42 } (dC, dI) (TY cI cZ cQ) (wMod cI cZ cQ b mday mdoo mdA mdB mfar mmar mtel mgai mfal mtop mstr mgho mfai mpto mwal mahd mahf mcho mbes mbyt mtxt mpos mtka mtok mdig mnum mfau mrdm mrea mlin mlne mthg mord mbor mbsm mans mand manr mali) [.ref (b 39), .int co, .int pt] (fun r : Int32 => (spRgt mmar mtop mstr mgho mfai mtel co pt r)) := by
  refine Met.ofW (cc := cX10_right) (maxL := 7) (ret := (some .int)) (by decide) rfl ?_
  intro p e s m args below meth c s₁ B hml hv
  obtain ⟨rfl, hP, hK, hN⟩ := hv
  have hx := B.exec
  have hb := B.bytes
  have hr := B.returns
  have hts := atoms_spec (ws := wsX10_right) B.pre
  have hown : s.vm.findClass RX10 = some m.cls := findClass_of_methodNamed B.named
  have hlocks := B.notSynchronized
  have lf32 := hts (.fieldLink RX10 32 "PalaceOfRoomsModel" "top" "[I") (by decide +kernel)
  have inX10 : ∀ w ∈ wsX100, w ∈ wsX10_right := by decide +kernel
  have lf35 := hts (.fieldLink RX10 35 "PalaceOfRoomsModel" "strength" "[I") (by decide +kernel)
  have lf22 := hts (.fieldLink RX10 22 "PalaceOfRoomsModel" "tell" "I") (by decide +kernel)
  have lf38 := hts (.fieldLink RX10 38 "PalaceOfRoomsModel" "ghost" "[I") (by decide +kernel)
  have lf41 := hts (.fieldLink RX10 41 "PalaceOfRoomsModel" "faint" "[I") (by decide +kernel)
  have hl := lv_entry ([.ref (b 39), .int co, .int pt]) (n := 7) (Nat.le_of_ble_eq_true rfl)
  rw [lg_entry_eq]
  generalize (lg_sl ([.ref (b 39), .int co, .int pt]) ++ List.replicate (7 - (lg_sl ([.ref (b 39), .int co, .int pt])).length) Slot.unset).toArray = ls at hl ⊢
  have hl : lv_has ls 7 [(0, .ref (b 39)), (1, .int co), (2, .int pt)] := hl
  refine lv_iload_n hx hb dX10_right_0 rfl (lv_at hl 1 rfl) ?_
  refine rdS (As := [.int co]) (rest := []) ⟨hx, hb, hml, hown, hts⟩ (k_X10_isCorner l dC dI cI cZ cQ co) (va_cwS 1 hts gX10_right_X10_isCorner rfl rfl rfl (by decide +kernel) ⟨Nat.le_of_ble_eq_true rfl, Nat.le_of_ble_eq_true rfl⟩) hP hK hN [] rfl rfl hl.1 rfl (Nat.le_of_ble_eq_true rfl) dX10_right_1 ⟨Nat.le_of_ble_eq_true rfl, Nat.le_of_ble_eq_true rfl⟩ (fun r1 h2 => ?_)
  have h2 : ((((r1 = 1) ∧ (0 ≤ co.toInt) ∧ (co.toInt ≤ 47)) ∨ ((r1 = 0) ∧ (co.toInt < 0 ∨ 47 < co.toInt)))) := h2
  rcases h2 with (⟨rfl, h2_a0, h2_a1⟩ | ⟨rfl, h2_a0⟩)
  · refine lv_if_ne (tgt := 10) hx hb dX10_right_4 (by decide) (fun _ => ?_) (fun c9 => absurd c9 (by decide))
    refine lv_iload_n hx hb dX10_right_10 rfl (lv_at hl 2 rfl) ?_
    refine lv_iconst (v := 0) hx hb dX10_right_11 (by decide) ?_
    refine lv_iconst (v := 1) hx hb dX10_right_12 (by decide) ?_
    refine rdS (As := [.int pt, .int 0, .int 1]) (rest := []) ⟨hx, hb, hml, hown, hts⟩ (k_X10_in l dC dI cI cZ cQ pt (0 : Int32) (1 : Int32)) (va_cwS 3 hts gX10_right_X10_in rfl rfl rfl (by decide +kernel) ⟨Nat.le_of_ble_eq_true rfl, Nat.le_of_ble_eq_true rfl⟩) hP hK hN [] rfl rfl hl.1 rfl (Nat.le_of_ble_eq_true rfl) dX10_right_13 ⟨Nat.le_of_ble_eq_true rfl, Nat.le_of_ble_eq_true rfl⟩ (fun r3 h4 => ?_)
    have h4 : ((((r3 = 1) ∧ ((0) ≤ pt.toInt) ∧ (pt.toInt ≤ (1))) ∨ ((r3 = 0) ∧ (pt.toInt < (0) ∨ (1) < pt.toInt)))) := h4
    rcases h4 with (⟨rfl, h4_a0, h4_a1⟩ | ⟨rfl, h4_a0⟩)
    · refine lv_if_ne (tgt := 22) hx hb dX10_right_16 (by decide) (fun _ => ?_) (fun c9 => absurd c9 (by decide))
      refine lv_aload_n hx hb dX10_right_22 rfl (lv_at hl 0 rfl) ?_
      refine va_get (D := (dC, dI)) (ci := 10) (v := .ref (b 9)) (C := RX10) (T := TX10) (N := 39) hx hb hts inX10 hown hK hP 0 rfl rfl 9 (by decide) lf32 (fun _ h9 => h9) rfl dX10_right_23 ?_
      refine lv_iload_n hx hb dX10_right_26 rfl (lv_at hl 1 rfl) ?_
      have b5 : vp_in co 48 := inC rfl (by omega) (by omega)
      refine va_iald hx hb hK hP 6 0 rfl rfl b5 dX10_right_27 ?_
      have g6 : -1 ≤ (mtop co.toNatClampNeg).toInt ∧ (mtop co.toNatClampNeg).toInt ≤ 23 := rg_at r_mtop b5
      refine lv_iconst (v := (-1)) hx hb dX10_right_28 (by decide) ?_
      refine lv_icmp_ne (tgt := 35) hx hb dX10_right_29 (by decide) (fun c7 => ?_) (fun c7 => ?_)
      · have dc7 : 0 ≤ (mtop co.toNatClampNeg).toInt := ka_lo (by omega) (neC rfl (show ((-1) : Int32).toInt = (-1) from rfl) c7)
        have L63 : ∀ (y63_3 : Int32) (ls : Array Slot), (0 ≤ (y63_3.toInt)) → ((y63_3.toInt) ≤ 200) → ((y63_3.toInt) = (mstr co.toNatClampNeg).toInt + (if mgho co.toNatClampNeg = -1 then 0 else (mfai co.toNatClampNeg).toInt)) → ((mstr co.toNatClampNeg).toInt ≤ (y63_3.toInt)) → lv_has ls 7 [(0, .ref (b 39)), (1, .int co), (2, .int pt), (3, .int y63_3)] → W p l e (headSpec wsX10_right { frames := 2, cells := 0, slots := 0, locals := 42 }).room s m ([.ref (b 39), .int co, .int pt] : List Value).toArray below meth c s.heap [] 0 0 (MQ below (QR (fun r : Int32 => (spRgt mmar mtop mstr mgho mfai mtel co pt r))) ([.ref (b 39), .int co, .int pt] : List Value).toArray s 0 0 (fun _ => False)) (F0 m 63 ls []) := by
          intro y63_3 ls i63_0 i63_1 i63_2 i63_3 hl
          refine lv_iload_n hx hb dX10_right_63 rfl (lv_at hl 1 rfl) ?_
          refine lv_bipush (v := 6) hx hb dX10_right_64 (by decide) ?_
          refine lv_idiv hx hb dX10_right_66 (by decide) ?_
          have f8 : (co / 6).toInt = (co.toInt) / (6) := divC rfl (show (6 : Int32).toInt = 6 from rfl) (by omega) (by omega)
          refine lv_bipush (v := 6) hx hb dX10_right_67 (by decide) ?_
          refine lv_imul hx hb dX10_right_69 ?_
          have f9 : ((co / 6) * 6).toInt = ((co.toInt) / (6)) * (6) := mulC f8 (show (6 : Int32).toInt = 6 from rfl) (by omega) (by omega)
          refine lv_topi (fun x10 ex10 => ?_)
          have ix10 : x10.toInt = ((co.toInt) / (6)) * (6) := by rw [ex10]; exact f9
          refine lv_istore (lv' := [(4, .int x10), (0, .ref (b 39)), (1, .int co), (2, .int pt), (3, .int y63_3)]) hx hb dX10_right_70 hl (by decide) rfl (fun ls hl => ?_)
          have L72 : ∀ (nn : Nat) (y72_3 : Int32) (y72_4 : Int32) (ls : Array Slot), (0 ≤ (y72_4.toInt)) → ((y72_4.toInt) ≤ 48) → (0 ≤ (y72_3.toInt)) → ((y72_3.toInt) ≤ 200 + 100 * ((y72_4.toInt) - (co.toInt) / 6 * 6)) → ((y72_3.toInt) ≤ 900) → ((co.toInt) / 6 * 6 ≤ (y72_4.toInt)) → ((y72_4.toInt) ≤ (co.toInt) / 6 * 6 + 6) → (arI mmar mtop mstr mgho mfai mtel co (y72_4.toInt) (y72_3.toInt)) → ((mstr co.toNatClampNeg).toInt ≤ (y72_3.toInt)) → (48 - (y72_4.toInt)).toNat < nn → lv_has ls 7 [(0, .ref (b 39)), (1, .int co), (2, .int pt), (3, .int y72_3), (4, .int y72_4)] → W p l e (headSpec wsX10_right { frames := 2, cells := 0, slots := 0, locals := 42 }).room s m ([.ref (b 39), .int co, .int pt] : List Value).toArray below meth c s.heap [] 0 0 (MQ below (QR (fun r : Int32 => (spRgt mmar mtop mstr mgho mfai mtel co pt r))) ([.ref (b 39), .int co, .int pt] : List Value).toArray s 0 0 (fun _ => False)) (F0 m 72 ls []) := by
            intro nn
            induction nn with
            | zero =>
              intro y72_3 y72_4 ls i72_0 i72_1 i72_2 i72_3 i72_4 i72_5 i72_6 i72_7 i72_8 hm72
              exact absurd hm72 (Nat.not_lt_zero _)
            | succ nn ih72 =>
              intro y72_3 y72_4 ls i72_0 i72_1 i72_2 i72_3 i72_4 i72_5 i72_6 i72_7 i72_8 hm72 hl
              refine lv_iload hx hb dX10_right_72 (lv_at hl 4 rfl) ?_
              refine lv_iload_n hx hb dX10_right_74 rfl (lv_at hl 1 rfl) ?_
              refine lv_bipush (v := 6) hx hb dX10_right_75 (by decide) ?_
              refine lv_idiv hx hb dX10_right_77 (by decide) ?_
              have f11 : (co / 6).toInt = (co.toInt) / (6) := divC rfl (show (6 : Int32).toInt = 6 from rfl) (by omega) (by omega)
              refine lv_bipush (v := 6) hx hb dX10_right_78 (by decide) ?_
              refine lv_imul hx hb dX10_right_80 ?_
              have f12 : ((co / 6) * 6).toInt = ((co.toInt) / (6)) * (6) := mulC f11 (show (6 : Int32).toInt = 6 from rfl) (by omega) (by omega)
              refine lv_bipush (v := 6) hx hb dX10_right_81 (by decide) ?_
              refine lv_iadd hx hb dX10_right_83 ?_
              have f13 : (((co / 6) * 6) + 6).toInt = (((co.toInt) / (6)) * (6)) + (6) := addC f12 (show (6 : Int32).toInt = 6 from rfl) (by omega) (by omega)
              refine lv_icmp_ge (tgt := 148) hx hb dX10_right_84 (by decide) (fun c14 => ?_) (fun c14 => ?_)
              · have dc14 : (((co.toInt) / (6)) * (6)) + (6) ≤ y72_4.toInt := leC f13 rfl c14
                refine lv_iload_n hx hb dX10_right_148 rfl (lv_at hl 3 rfl) ?_
                refine lv_if_ne (tgt := 155) hx hb dX10_right_149 (by decide) (fun c15 => ?_) (fun c15 => ?_)
                · have dc15 : 1 ≤ y72_3.toInt := ka_lo (by omega) (neC rfl (show (0 : Int32).toInt = 0 from rfl) c15)
                  refine lv_iload_n hx hb dX10_right_155 rfl (lv_at hl 3 rfl) ?_
                  refine lv_istore (lv' := [(4, .int y72_3), (0, .ref (b 39)), (1, .int co), (2, .int pt), (3, .int y72_3)]) hx hb dX10_right_156 hl (by decide) rfl (fun ls hl => ?_)
                  refine lv_aload_n hx hb dX10_right_158 rfl (lv_at hl 1 rfl) ?_
                  refine va_get (D := (dC, dI)) (ci := 10) (v := .ref (b 10)) (C := RX10) (T := TX10) (N := 39) hx hb hts inX10 hown hK hP 0 rfl rfl 10 (by decide) lf35 (fun _ h9 => h9) rfl dX10_right_159 ?_
                  refine lv_iload_n hx hb dX10_right_162 rfl (lv_at hl 2 rfl) ?_
                  have b16 : vp_in co 48 := inC rfl (by omega) (by omega)
                  refine va_iald hx hb hK hP 7 0 rfl rfl b16 dX10_right_163 ?_
                  have g17 : 0 ≤ (mstr co.toNatClampNeg).toInt ∧ (mstr co.toNatClampNeg).toInt ≤ 100 := rg_at r_mstr b16
                  refine lv_topi (fun x18 ex18 => ?_)
                  have ix18 : x18.toInt = (mstr co.toNatClampNeg).toInt := by rw [ex18]
                  refine lv_istore (lv' := [(5, .int x18), (4, .int y72_3), (0, .ref (b 39)), (1, .int co), (2, .int pt), (3, .int y72_3)]) hx hb dX10_right_164 hl (by decide) rfl (fun ls hl => ?_)
                  have L166 : ∀ (nn : Nat) (y166_4 : Int32) (y166_5 : Int32) (ls : Array Slot), (0 < (y166_4.toInt)) → ((y166_4.toInt) ≤ 900) → (0 ≤ (y166_5.toInt)) → ((y166_5.toInt) ≤ 900) → (gcF (y166_4.toInt) (y166_5.toInt) = gcF (y72_3.toInt) (mstr co.toNatClampNeg).toInt) → ((y166_5.toInt)).toNat < nn → lv_has ls 7 [(0, .ref (b 39)), (1, .int co), (2, .int pt), (3, .int y72_3), (4, .int y166_4), (5, .int y166_5)] → W p l e (headSpec wsX10_right { frames := 2, cells := 0, slots := 0, locals := 42 }).room s m ([.ref (b 39), .int co, .int pt] : List Value).toArray below meth c s.heap [] 0 0 (MQ below (QR (fun r : Int32 => (spRgt mmar mtop mstr mgho mfai mtel co pt r))) ([.ref (b 39), .int co, .int pt] : List Value).toArray s 0 0 (fun _ => False)) (F0 m 166 ls []) := by
                    intro nn
                    induction nn with
                    | zero =>
                      intro y166_4 y166_5 ls i166_0 i166_1 i166_2 i166_3 i166_4 hm166
                      exact absurd hm166 (Nat.not_lt_zero _)
                    | succ nn ih166 =>
                      intro y166_4 y166_5 ls i166_0 i166_1 i166_2 i166_3 i166_4 hm166 hl
                      refine lv_iload hx hb dX10_right_166 (lv_at hl 5 rfl) ?_
                      refine lv_if_eq (tgt := 189) hx hb dX10_right_168 (by decide) (fun c19 => ?_) (fun c19 => ?_)
                      · have dc19 : y166_5.toInt = 0 := eqC rfl (show (0 : Int32).toInt = 0 from rfl) c19
                        refine lv_iload_n hx hb dX10_right_189 rfl (lv_at hl 2 rfl) ?_
                        refine lv_if_ne (tgt := 205) hx hb dX10_right_190 (by decide) (fun c20 => ?_) (fun c20 => ?_)
                        · have dc20 : 1 ≤ pt.toInt := ka_lo (by omega) (neC rfl (show (0 : Int32).toInt = 0 from rfl) c20)
                          refine lv_iload_n hx hb dX10_right_205 rfl (lv_at hl 3 rfl) ?_
                          refine lv_iload hx hb dX10_right_206 (lv_at hl 4 rfl) ?_
                          refine lv_idiv hx hb dX10_right_208 (n0C rfl (by omega)) ?_
                          have f21 : (y72_3 / y166_4).toInt = (y72_3.toInt) / (y166_4.toInt) := divC rfl rfl (by omega) (by omega)
                          exact W.iret (v := y72_3 / y166_4) hx hb hr (fun tq ht hW => ⟨y72_3 / y166_4, rfl, (show spRgt mmar mtop mstr mgho mfai mtel co pt (y72_3 / y166_4) from by (try rw [show (y72_3 / y166_4).toInt = (y72_3.toInt) / (y166_4.toInt) from f21]); (first | exact Or.inl ⟨by omega, rfl⟩ | exact Or.inr (Or.inl ⟨by omega, by omega, rfl⟩) | exact Or.inr (Or.inr (Or.inl ⟨by omega, by omega, by assumption, rfl⟩)) | exact Or.inr (Or.inr (Or.inr ⟨by omega, by omega, by assumption, Or.inl ⟨(ar_end i72_7 (by omega)).symm.trans (by omega), rfl⟩⟩)) | exact Or.inr (Or.inr (Or.inr ⟨by omega, by omega, by assumption, rg_one rfl (ar_end i72_7 (by omega)) (gm_end i166_4 (by omega) (by omega)) (by omega) (by omega) (by omega) (by assumption) (by first | exact Or.inl ⟨by omega, rfl⟩ | exact Or.inr ⟨by omega, rfl⟩)⟩)))), ht⟩) (fun q h => by cases h) dX10_right_209
                        · have dc20 : pt.toInt = 0 := eqC rfl (show (0 : Int32).toInt = 0 from rfl) c20
                          refine lv_aload_n hx hb dX10_right_193 rfl (lv_at hl 0 rfl) ?_
                          refine va_get (D := (dC, dI)) (ci := 10) (v := .ref (b 10)) (C := RX10) (T := TX10) (N := 39) hx hb hts inX10 hown hK hP 0 rfl rfl 10 (by decide) lf35 (fun _ h9 => h9) rfl dX10_right_194 ?_
                          refine lv_iload_n hx hb dX10_right_197 rfl (lv_at hl 1 rfl) ?_
                          have b22 : vp_in co 48 := inC rfl (by omega) (by omega)
                          refine va_iald hx hb hK hP 7 0 rfl rfl b22 dX10_right_198 ?_
                          have g23 : 0 ≤ (mstr co.toNatClampNeg).toInt ∧ (mstr co.toNatClampNeg).toInt ≤ 100 := rg_at r_mstr b22
                          refine lv_iload hx hb dX10_right_199 (lv_at hl 4 rfl) ?_
                          refine lv_idiv hx hb dX10_right_201 (n0C rfl (by omega)) ?_
                          have f24 : ((mstr co.toNatClampNeg) / y166_4).toInt = ((mstr co.toNatClampNeg).toInt) / (y166_4.toInt) := divC rfl rfl (by omega) (by omega)
                          refine lv_goto (tgt := 209) hx hb dX10_right_202 (by decide) ?_
                          exact W.iret (v := (mstr co.toNatClampNeg) / y166_4) hx hb hr (fun tq ht hW => ⟨(mstr co.toNatClampNeg) / y166_4, rfl, (show spRgt mmar mtop mstr mgho mfai mtel co pt ((mstr co.toNatClampNeg) / y166_4) from by (try rw [show ((mstr co.toNatClampNeg) / y166_4).toInt = ((mstr co.toNatClampNeg).toInt) / (y166_4.toInt) from f24]); (first | exact Or.inl ⟨by omega, rfl⟩ | exact Or.inr (Or.inl ⟨by omega, by omega, rfl⟩) | exact Or.inr (Or.inr (Or.inl ⟨by omega, by omega, by assumption, rfl⟩)) | exact Or.inr (Or.inr (Or.inr ⟨by omega, by omega, by assumption, Or.inl ⟨(ar_end i72_7 (by omega)).symm.trans (by omega), rfl⟩⟩)) | exact Or.inr (Or.inr (Or.inr ⟨by omega, by omega, by assumption, rg_one rfl (ar_end i72_7 (by omega)) (gm_end i166_4 (by omega) (by omega)) (by omega) (by omega) (by omega) (by assumption) (by first | exact Or.inl ⟨by omega, rfl⟩ | exact Or.inr ⟨by omega, rfl⟩)⟩)))), ht⟩) (fun q h => by cases h) dX10_right_209
                      · have dc19 : 1 ≤ y166_5.toInt := ka_lo (by omega) (neC rfl (show (0 : Int32).toInt = 0 from rfl) c19)
                        refine lv_iload hx hb dX10_right_171 (lv_at hl 4 rfl) ?_
                        refine lv_iload hx hb dX10_right_173 (lv_at hl 5 rfl) ?_
                        refine lv_irem hx hb dX10_right_175 (n0C rfl (by omega)) ?_
                        have f25 : (y166_4 - y166_4 / y166_5 * y166_5).toInt = (y166_4.toInt) % (y166_5.toInt) := remC rfl rfl (by omega) (by omega)
                        have f26 : 0 ≤ (y166_4.toInt) % (y166_5.toInt) := Int.emod_nonneg _ (by omega)
                        have f27 : (y166_4.toInt) % (y166_5.toInt) < y166_5.toInt := Int.emod_lt_of_pos _ (by omega)
                        refine lv_topi (fun x28 ex28 => ?_)
                        have ix28 : x28.toInt = (y166_4.toInt) % (y166_5.toInt) := by rw [ex28]; exact f25
                        refine lv_istore (lv' := [(6, .int x28), (0, .ref (b 39)), (1, .int co), (2, .int pt), (3, .int y72_3), (4, .int y166_4), (5, .int y166_5)]) hx hb dX10_right_176 hl (by decide) rfl (fun ls hl => ?_)
                        refine lv_iload hx hb dX10_right_178 (lv_at hl 6 rfl) ?_
                        refine lv_istore (lv' := [(4, .int y166_5), (6, .int x28), (0, .ref (b 39)), (1, .int co), (2, .int pt), (3, .int y72_3), (5, .int y166_5)]) hx hb dX10_right_180 hl (by decide) rfl (fun ls hl => ?_)
                        refine lv_iload hx hb dX10_right_182 (lv_at hl 1 rfl) ?_
                        refine lv_istore (lv' := [(5, .int x28), (4, .int y166_5), (6, .int x28), (0, .ref (b 39)), (1, .int co), (2, .int pt), (3, .int y72_3)]) hx hb dX10_right_184 hl (by decide) rfl (fun ls hl => ?_)
                        refine lv_goto (tgt := 166) hx hb dX10_right_186 (by decide) ?_
                        exact ih166 y166_5 x28 _ (by omega) (by omega) (by omega) (by omega) (by (first | exact gm_init (by first | assumption | omega) | exact gm_step i166_4 (by omega) (by omega) (by first | rfl | omega) (by first | assumption | omega))) (by omega) (lv_sub hl [3, 4, 5, 6, 1, 0] rfl)
                  exact L166 _ y72_3 x18 _ (by omega) (by omega) (by omega) (by omega) (by (first | exact gm_init (by first | assumption | omega) | exact gm_step i166_4 (by omega) (by omega) (by first | rfl | omega) (by first | assumption | omega))) (Nat.lt_succ_self _) (lv_sub hl [2, 3, 4, 5, 1, 0] rfl)
                · have dc15 : y72_3.toInt = 0 := eqC rfl (show (0 : Int32).toInt = 0 from rfl) c15
                  refine lv_bipush (v := (-4)) hx hb dX10_right_152 (by decide) ?_
                  exact W.iret (v := (-4)) hx hb hr (fun tq ht hW => ⟨(-4), rfl, (show spRgt mmar mtop mstr mgho mfai mtel co pt ((-4) : Int32) from by (try rw [show ((-4) : Int32).toInt = (-4) from (show ((-4) : Int32).toInt = (-4) from rfl)]); (first | exact Or.inl ⟨by omega, rfl⟩ | exact Or.inr (Or.inl ⟨by omega, by omega, rfl⟩) | exact Or.inr (Or.inr (Or.inl ⟨by omega, by omega, by assumption, rfl⟩)) | exact Or.inr (Or.inr (Or.inr ⟨by omega, by omega, by assumption, Or.inl ⟨(ar_end i72_7 (by omega)).symm.trans (by omega), rfl⟩⟩)) | exact Or.inr (Or.inr (Or.inr ⟨by omega, by omega, by assumption, rg_one rfl (ar_end i72_7 (by omega)) (gm_end i166_4 (by omega) (by omega)) (by omega) (by omega) (by omega) (by assumption) (by first | exact Or.inl ⟨by omega, rfl⟩ | exact Or.inr ⟨by omega, rfl⟩)⟩)))), ht⟩) (fun q h => by cases h) dX10_right_154
              · have dc14 : y72_4.toInt < (((co.toInt) / (6)) * (6)) + (6) := nleC f13 rfl c14
                have L142 : ∀ (y142_3 : Int32) (ls : Array Slot), (0 ≤ (y142_3.toInt)) → ((y142_3.toInt) ≤ 300 + 100 * ((y72_4.toInt) - (co.toInt) / 6 * 6)) → ((y142_3.toInt) ≤ 1000) → (arI mmar mtop mstr mgho mfai mtel co ((y72_4.toInt) + 1) (y142_3.toInt)) → ((mstr co.toNatClampNeg).toInt ≤ (y142_3.toInt)) → lv_has ls 7 [(0, .ref (b 39)), (1, .int co), (2, .int pt), (3, .int y142_3), (4, .int y72_4)] → W p l e (headSpec wsX10_right { frames := 2, cells := 0, slots := 0, locals := 42 }).room s m ([.ref (b 39), .int co, .int pt] : List Value).toArray below meth c s.heap [] 0 0 (MQ below (QR (fun r : Int32 => (spRgt mmar mtop mstr mgho mfai mtel co pt r))) ([.ref (b 39), .int co, .int pt] : List Value).toArray s 0 0 (fun _ => False)) (F0 m 142 ls []) := by
                  intro y142_3 ls i142_0 i142_1 i142_2 i142_3 i142_4 hl
                  obtain ⟨z29, ez29⟩ : ∃ y : Int32, y = y72_4 + 1 := ⟨_, rfl⟩
                  have iz29 : z29.toInt = y72_4.toInt + 1 := by rw [ez29]; exact addC rfl rfl (by omega) (by omega)
                  refine lv_iinc (v := z29) (lv' := [(4, .int z29), (0, .ref (b 39)), (1, .int co), (2, .int pt), (3, .int y142_3)]) hx hb dX10_right_142 hl (k := 4) rfl (by rw [ez29]; rfl) (by decide) rfl (fun ls hl => ?_)
                  refine lv_goto (tgt := 72) hx hb dX10_right_145 (by decide) ?_
                  exact ih72 y142_3 z29 _ (by omega) (by omega) (by omega) (by omega) (by omega) (by omega) (by omega) (by (first | exact ar_init i63_2 (by omega) | exact ar_cast i142_3 (by omega))) (by omega) (by omega) (lv_sub hl [1, 2, 3, 4, 0] rfl)
                refine lv_iload_n hx hb dX10_right_87 rfl (lv_at hl 3 rfl) ?_
                refine lv_iload hx hb dX10_right_88 (lv_at hl 4 rfl) ?_
                refine lv_iload_n hx hb dX10_right_90 rfl (lv_at hl 1 rfl) ?_
                refine lv_icmp_eq (tgt := 139) hx hb dX10_right_91 (by decide) (fun c30 => ?_) (fun c30 => ?_)
                · have dc30 : y72_4.toInt = co.toInt := eqC rfl rfl c30
                  refine lv_iconst (v := 0) hx hb dX10_right_139 (by decide) ?_
                  refine lv_iadd hx hb dX10_right_140 ?_
                  have f31 : (y72_3 + 0).toInt = (y72_3.toInt) + (0) := addC rfl (show (0 : Int32).toInt = 0 from rfl) (by omega) (by omega)
                  refine lv_topi (fun x32 ex32 => ?_)
                  have ix32 : x32.toInt = (y72_3.toInt) + (0) := by rw [ex32]; exact f31
                  refine lv_istore_n (lv' := [(3, .int x32), (0, .ref (b 39)), (1, .int co), (2, .int pt), (4, .int y72_4)]) hx hb dX10_right_141 rfl hl (by decide) rfl (fun ls hl => ?_)
                  exact L142 x32 _ (by omega) (by omega) (by omega) (by (first | exact ar_yes i72_7 (crd_yesR (by assumption) (by omega) (by omega) (by omega) (by omega) (by assumption) (by omega)) (by omega) (by omega) rfl (by omega) | exact ar_no i72_7 (by first | exact crd_eq (by assumption) | exact crd_t1 (by assumption) | exact crd_noR (by assumption) (by omega)) (by omega) (by omega) rfl (by omega))) (by omega) (lv_sub hl [1, 2, 3, 0, 4] rfl)
                · have dc30 : y72_4.toInt ≠ co.toInt := neC rfl rfl c30
                  refine lv_aload_n hx hb dX10_right_94 rfl (lv_at hl 0 rfl) ?_
                  refine va_get (D := (dC, dI)) (ci := 10) (v := .ref (b 9)) (C := RX10) (T := TX10) (N := 39) hx hb hts inX10 hown hK hP 0 rfl rfl 9 (by decide) lf32 (fun _ h9 => h9) rfl dX10_right_95 ?_
                  refine lv_iload hx hb dX10_right_98 (lv_at hl 4 rfl) ?_
                  have b33 : vp_in y72_4 48 := inC rfl (by omega) (by omega)
                  refine va_iald hx hb hK hP 6 0 rfl rfl b33 dX10_right_100 ?_
                  have g34 : -1 ≤ (mtop y72_4.toNatClampNeg).toInt ∧ (mtop y72_4.toNatClampNeg).toInt ≤ 23 := rg_at r_mtop b33
                  refine lv_iconst (v := (-1)) hx hb dX10_right_101 (by decide) ?_
                  refine lv_icmp_eq (tgt := 139) hx hb dX10_right_102 (by decide) (fun c35 => ?_) (fun c35 => ?_)
                  · have dc35 : (mtop y72_4.toNatClampNeg).toInt = (-1) := eqC rfl (show ((-1) : Int32).toInt = (-1) from rfl) c35
                    refine lv_iconst (v := 0) hx hb dX10_right_139 (by decide) ?_
                    refine lv_iadd hx hb dX10_right_140 ?_
                    have f36 : (y72_3 + 0).toInt = (y72_3.toInt) + (0) := addC rfl (show (0 : Int32).toInt = 0 from rfl) (by omega) (by omega)
                    refine lv_topi (fun x37 ex37 => ?_)
                    have ix37 : x37.toInt = (y72_3.toInt) + (0) := by rw [ex37]; exact f36
                    refine lv_istore_n (lv' := [(3, .int x37), (0, .ref (b 39)), (1, .int co), (2, .int pt), (4, .int y72_4)]) hx hb dX10_right_141 rfl hl (by decide) rfl (fun ls hl => ?_)
                    exact L142 x37 _ (by omega) (by omega) (by omega) (by (first | exact ar_yes i72_7 (crd_yesR (by assumption) (by omega) (by omega) (by omega) (by omega) (by assumption) (by omega)) (by omega) (by omega) rfl (by omega) | exact ar_no i72_7 (by first | exact crd_eq (by assumption) | exact crd_t1 (by assumption) | exact crd_noR (by assumption) (by omega)) (by omega) (by omega) rfl (by omega))) (by omega) (lv_sub hl [1, 2, 3, 0, 4] rfl)
                  · have dc35 : 0 ≤ (mtop y72_4.toNatClampNeg).toInt := ka_lo (by omega) (neC rfl (show ((-1) : Int32).toInt = (-1) from rfl) c35)
                    refine lv_aload_n hx hb dX10_right_105 rfl (lv_at hl 0 rfl) ?_
                    refine lv_aload_n hx hb dX10_right_106 rfl (lv_at hl 0 rfl) ?_
                    refine va_get (D := (dC, dI)) (ci := 10) (v := .ref (b 9)) (C := RX10) (T := TX10) (N := 39) hx hb hts inX10 hown hK hP 0 rfl rfl 9 (by decide) lf32 (fun _ h9 => h9) rfl dX10_right_107 ?_
                    refine lv_iload hx hb dX10_right_110 (lv_at hl 4 rfl) ?_
                    have b38 : vp_in y72_4 48 := inC rfl (by omega) (by omega)
                    refine va_iald hx hb hK hP 6 0 rfl rfl b38 dX10_right_112 ?_
                    have g39 : -1 ≤ (mtop y72_4.toNatClampNeg).toInt ∧ (mtop y72_4.toNatClampNeg).toInt ≤ 23 := rg_at r_mtop b38
                    refine lv_aload_n hx hb dX10_right_113 rfl (lv_at hl 0 rfl) ?_
                    refine va_get (D := (dC, dI)) (ci := 10) (v := .ref (b 9)) (C := RX10) (T := TX10) (N := 39) hx hb hts inX10 hown hK hP 0 rfl rfl 9 (by decide) lf32 (fun _ h9 => h9) rfl dX10_right_114 ?_
                    refine lv_iload_n hx hb dX10_right_117 rfl (lv_at hl 1 rfl) ?_
                    have b40 : vp_in co 48 := inC rfl (by omega) (by omega)
                    refine va_iald hx hb hK hP 6 0 rfl rfl b40 dX10_right_118 ?_
                    have g41 : -1 ≤ (mtop co.toNatClampNeg).toInt ∧ (mtop co.toNatClampNeg).toInt ≤ 23 := rg_at r_mtop b40
                    refine rdV (As := [.int (mtop y72_4.toNatClampNeg), .int (mtop co.toNatClampNeg)]) (rest := [.int y72_3]) ⟨hx, hb, hml, hown, hts⟩ (k_X10_likeness l dC dI cI cZ cQ b mday mdoo mdA mdB mfar mmar mtel mgai mfal mtop mstr mgho mfai mpto mwal mahd mahf mcho mbes mbyt mtxt mpos mtka mtok mdig mnum mfau mrdm mrea mlin mlne mthg mord mbor mbsm mans mand manr mali (mtop y72_4.toNatClampNeg) (mtop co.toNatClampNeg) r_mday r_mdoo r_mdA r_mdB r_mmar r_mgai r_mfal r_mtop r_mstr r_mgho r_mfai r_mahd r_mahf r_mcho r_mbyt r_mpos r_mrdm r_mlin r_mthg r_mord r_mans (by omega) (by omega) (by omega) (by omega)) (cwV 2 hts gX10_right_X10_likeness rfl rfl rfl (by decide +kernel) ⟨Nat.le_of_ble_eq_true rfl, Nat.le_of_ble_eq_true rfl⟩) hP hK hN [0, 1, 2, 3, 4, 5, 6, 7, 8, 9, 10, 11, 12, 13, 14, 15, 16, 17, 18, 19, 20, 21, 22, 23, 24, 25] rfl 0 10 rfl rfl rfl hl.1 rfl (Nat.le_of_ble_eq_true rfl) dX10_right_119 ⟨Nat.le_of_ble_eq_true rfl, Nat.le_of_ble_eq_true rfl⟩ (fun r42 h43 => ?_)
                    have h43 : (r42 = bc (mmar (mtop y72_4.toNatClampNeg).toNatClampNeg &&& mmar (mtop co.toNatClampNeg).toNatClampNeg)) := h43
                    have h43_0 := h43
                    refine lv_aload_n hx hb dX10_right_122 rfl (lv_at hl 0 rfl) ?_
                    refine va_get (D := (dC, dI)) (ci := 10) (v := .int mtel) (C := RX10) (T := TX10) (N := 39) hx hb hts inX10 hown hK hP 0 rfl rfl 6 (by decide) lf22 (fun _ h9 => h9) rfl dX10_right_123 ?_
                    refine lv_icmp_lt (tgt := 139) hx hb dX10_right_126 (by decide) (fun c44 => ?_) (fun c44 => ?_)
                    · have dc44 : r42.toInt < mtel.toInt := ltC rfl rfl c44
                      refine lv_iconst (v := 0) hx hb dX10_right_139 (by decide) ?_
                      refine lv_iadd hx hb dX10_right_140 ?_
                      have f45 : (y72_3 + 0).toInt = (y72_3.toInt) + (0) := addC rfl (show (0 : Int32).toInt = 0 from rfl) (by omega) (by omega)
                      refine lv_topi (fun x46 ex46 => ?_)
                      have ix46 : x46.toInt = (y72_3.toInt) + (0) := by rw [ex46]; exact f45
                      refine lv_istore_n (lv' := [(3, .int x46), (0, .ref (b 39)), (1, .int co), (2, .int pt), (4, .int y72_4)]) hx hb dX10_right_141 rfl hl (by decide) rfl (fun ls hl => ?_)
                      exact L142 x46 _ (by omega) (by omega) (by omega) (by (first | exact ar_yes i72_7 (crd_yesR (by assumption) (by omega) (by omega) (by omega) (by omega) (by assumption) (by omega)) (by omega) (by omega) rfl (by omega) | exact ar_no i72_7 (by first | exact crd_eq (by assumption) | exact crd_t1 (by assumption) | exact crd_noR (by assumption) (by omega)) (by omega) (by omega) rfl (by omega))) (by omega) (lv_sub hl [1, 2, 3, 0, 4] rfl)
                    · have dc44 : mtel.toInt ≤ r42.toInt := nltC rfl rfl c44
                      refine lv_aload_n hx hb dX10_right_129 rfl (lv_at hl 0 rfl) ?_
                      refine va_get (D := (dC, dI)) (ci := 10) (v := .ref (b 10)) (C := RX10) (T := TX10) (N := 39) hx hb hts inX10 hown hK hP 0 rfl rfl 10 (by decide) lf35 (fun _ h9 => h9) rfl dX10_right_130 ?_
                      refine lv_iload hx hb dX10_right_133 (lv_at hl 4 rfl) ?_
                      have b47 : vp_in y72_4 48 := inC rfl (by omega) (by omega)
                      refine va_iald hx hb hK hP 7 0 rfl rfl b47 dX10_right_135 ?_
                      have g48 : 0 ≤ (mstr y72_4.toNatClampNeg).toInt ∧ (mstr y72_4.toNatClampNeg).toInt ≤ 100 := rg_at r_mstr b47
                      refine lv_goto (tgt := 140) hx hb dX10_right_136 (by decide) ?_
                      refine lv_iadd hx hb dX10_right_140 ?_
                      have f49 : (y72_3 + (mstr y72_4.toNatClampNeg)).toInt = (y72_3.toInt) + ((mstr y72_4.toNatClampNeg).toInt) := addC rfl rfl (by omega) (by omega)
                      refine lv_topi (fun x50 ex50 => ?_)
                      have ix50 : x50.toInt = (y72_3.toInt) + ((mstr y72_4.toNatClampNeg).toInt) := by rw [ex50]; exact f49
                      refine lv_istore_n (lv' := [(3, .int x50), (0, .ref (b 39)), (1, .int co), (2, .int pt), (4, .int y72_4)]) hx hb dX10_right_141 rfl hl (by decide) rfl (fun ls hl => ?_)
                      exact L142 x50 _ (by omega) (by omega) (by omega) (by (first | exact ar_yes i72_7 (crd_yesR (by assumption) (by omega) (by omega) (by omega) (by omega) (by assumption) (by omega)) (by omega) (by omega) rfl (by omega) | exact ar_no i72_7 (by first | exact crd_eq (by assumption) | exact crd_t1 (by assumption) | exact crd_noR (by assumption) (by omega)) (by omega) (by omega) rfl (by omega))) (by omega) (lv_sub hl [1, 2, 3, 0, 4] rfl)
          exact L72 _ y63_3 x10 _ (by omega) (by omega) (by omega) (by omega) (by omega) (by omega) (by omega) (by (first | exact ar_init i63_2 (by omega) | exact ar_cast i142_3 (by omega))) (by omega) (Nat.lt_succ_self _) (lv_sub hl [1, 2, 3, 4, 0] rfl)
        refine lv_aload_n hx hb dX10_right_35 rfl (lv_at hl 0 rfl) ?_
        refine va_get (D := (dC, dI)) (ci := 10) (v := .ref (b 10)) (C := RX10) (T := TX10) (N := 39) hx hb hts inX10 hown hK hP 0 rfl rfl 10 (by decide) lf35 (fun _ h9 => h9) rfl dX10_right_36 ?_
        refine lv_iload_n hx hb dX10_right_39 rfl (lv_at hl 1 rfl) ?_
        have b51 : vp_in co 48 := inC rfl (by omega) (by omega)
        refine va_iald hx hb hK hP 7 0 rfl rfl b51 dX10_right_40 ?_
        have g52 : 0 ≤ (mstr co.toNatClampNeg).toInt ∧ (mstr co.toNatClampNeg).toInt ≤ 100 := rg_at r_mstr b51
        refine lv_aload_n hx hb dX10_right_41 rfl (lv_at hl 0 rfl) ?_
        refine va_get (D := (dC, dI)) (ci := 10) (v := .ref (b 11)) (C := RX10) (T := TX10) (N := 39) hx hb hts inX10 hown hK hP 0 rfl rfl 11 (by decide) lf38 (fun _ h9 => h9) rfl dX10_right_42 ?_
        refine lv_iload_n hx hb dX10_right_45 rfl (lv_at hl 1 rfl) ?_
        have b53 : vp_in co 48 := inC rfl (by omega) (by omega)
        refine va_iald hx hb hK hP 8 0 rfl rfl b53 dX10_right_46 ?_
        have g54 : -1 ≤ (mgho co.toNatClampNeg).toInt ∧ (mgho co.toNatClampNeg).toInt ≤ 23 := rg_at r_mgho b53
        refine lv_iconst (v := (-1)) hx hb dX10_right_47 (by decide) ?_
        refine lv_icmp_ne (tgt := 55) hx hb dX10_right_48 (by decide) (fun c55 => ?_) (fun c55 => ?_)
        · have dc55 : 0 ≤ (mgho co.toNatClampNeg).toInt := ka_lo (by omega) (neC rfl (show ((-1) : Int32).toInt = (-1) from rfl) c55)
          refine lv_aload_n hx hb dX10_right_55 rfl (lv_at hl 0 rfl) ?_
          refine va_get (D := (dC, dI)) (ci := 10) (v := .ref (b 12)) (C := RX10) (T := TX10) (N := 39) hx hb hts inX10 hown hK hP 0 rfl rfl 12 (by decide) lf41 (fun _ h9 => h9) rfl dX10_right_56 ?_
          refine lv_iload_n hx hb dX10_right_59 rfl (lv_at hl 1 rfl) ?_
          have b56 : vp_in co 48 := inC rfl (by omega) (by omega)
          refine va_iald hx hb hK hP 9 0 rfl rfl b56 dX10_right_60 ?_
          have g57 : 0 ≤ (mfai co.toNatClampNeg).toInt ∧ (mfai co.toNatClampNeg).toInt ≤ 100 := rg_at r_mfai b56
          refine lv_iadd hx hb dX10_right_61 ?_
          have f58 : ((mstr co.toNatClampNeg) + (mfai co.toNatClampNeg)).toInt = ((mstr co.toNatClampNeg).toInt) + ((mfai co.toNatClampNeg).toInt) := addC rfl rfl (by omega) (by omega)
          refine lv_topi (fun x59 ex59 => ?_)
          have ix59 : x59.toInt = ((mstr co.toNatClampNeg).toInt) + ((mfai co.toNatClampNeg).toInt) := by rw [ex59]; exact f58
          refine lv_istore_n (lv' := [(3, .int x59), (0, .ref (b 39)), (1, .int co), (2, .int pt)]) hx hb dX10_right_62 rfl hl (by decide) rfl (fun ls hl => ?_)
          exact L63 x59 _ (by omega) (by omega) (by (first | exact sx_pos (by assumption) (by omega) | exact sx_neg (by assumption) (by omega))) (by omega) (lv_sub hl [1, 2, 3, 0] rfl)
        · have dc55 : (mgho co.toNatClampNeg).toInt = (-1) := eqC rfl (show ((-1) : Int32).toInt = (-1) from rfl) c55
          refine lv_iconst (v := 0) hx hb dX10_right_51 (by decide) ?_
          refine lv_goto (tgt := 61) hx hb dX10_right_52 (by decide) ?_
          refine lv_iadd hx hb dX10_right_61 ?_
          have f60 : ((mstr co.toNatClampNeg) + 0).toInt = ((mstr co.toNatClampNeg).toInt) + (0) := addC rfl (show (0 : Int32).toInt = 0 from rfl) (by omega) (by omega)
          refine lv_topi (fun x61 ex61 => ?_)
          have ix61 : x61.toInt = ((mstr co.toNatClampNeg).toInt) + (0) := by rw [ex61]; exact f60
          refine lv_istore_n (lv' := [(3, .int x61), (0, .ref (b 39)), (1, .int co), (2, .int pt)]) hx hb dX10_right_62 rfl hl (by decide) rfl (fun ls hl => ?_)
          exact L63 x61 _ (by omega) (by omega) (by (first | exact sx_pos (by assumption) (by omega) | exact sx_neg (by assumption) (by omega))) (by omega) (lv_sub hl [1, 2, 3, 0] rfl)
      · have dc7 : (mtop co.toNatClampNeg).toInt = (-1) := eqC rfl (show ((-1) : Int32).toInt = (-1) from rfl) c7
        refine lv_bipush (v := (-4)) hx hb dX10_right_32 (by decide) ?_
        exact W.iret (v := (-4)) hx hb hr (fun tq ht hW => ⟨(-4), rfl, (show spRgt mmar mtop mstr mgho mfai mtel co pt ((-4) : Int32) from by (try rw [show ((-4) : Int32).toInt = (-4) from (show ((-4) : Int32).toInt = (-4) from rfl)]); (first | exact Or.inl ⟨by omega, rfl⟩ | exact Or.inr (Or.inl ⟨by omega, by omega, rfl⟩) | exact Or.inr (Or.inr (Or.inl ⟨by omega, by omega, by assumption, rfl⟩)) | exact Or.inr (Or.inr (Or.inr ⟨by omega, by omega, by assumption, Or.inl ⟨(ar_end i72_7 (by omega)).symm.trans (by omega), rfl⟩⟩)) | exact Or.inr (Or.inr (Or.inr ⟨by omega, by omega, by assumption, rg_one rfl (ar_end i72_7 (by omega)) (gm_end i166_4 (by omega) (by omega)) (by omega) (by omega) (by omega) (by assumption) (by first | exact Or.inl ⟨by omega, rfl⟩ | exact Or.inr ⟨by omega, rfl⟩)⟩)))), ht⟩) (fun q h => by cases h) dX10_right_34
    · refine lv_if_ne (tgt := 22) hx hb dX10_right_16 (by decide) (fun c9 => absurd (by decide) c9) (fun _ => ?_)
      refine lv_bipush (v := (-3)) hx hb dX10_right_19 (by decide) ?_
      exact W.iret (v := (-3)) hx hb hr (fun tq ht hW => ⟨(-3), rfl, (show spRgt mmar mtop mstr mgho mfai mtel co pt ((-3) : Int32) from by (try rw [show ((-3) : Int32).toInt = (-3) from (show ((-3) : Int32).toInt = (-3) from rfl)]); (first | exact Or.inl ⟨by omega, rfl⟩ | exact Or.inr (Or.inl ⟨by omega, by omega, rfl⟩) | exact Or.inr (Or.inr (Or.inl ⟨by omega, by omega, by assumption, rfl⟩)) | exact Or.inr (Or.inr (Or.inr ⟨by omega, by omega, by assumption, Or.inl ⟨(ar_end i72_7 (by omega)).symm.trans (by omega), rfl⟩⟩)) | exact Or.inr (Or.inr (Or.inr ⟨by omega, by omega, by assumption, rg_one rfl (ar_end i72_7 (by omega)) (gm_end i166_4 (by omega) (by omega)) (by omega) (by omega) (by omega) (by assumption) (by first | exact Or.inl ⟨by omega, rfl⟩ | exact Or.inr ⟨by omega, rfl⟩)⟩)))), ht⟩) (fun q h => by cases h) dX10_right_21
  · refine lv_if_ne (tgt := 10) hx hb dX10_right_4 (by decide) (fun c9 => absurd (by decide) c9) (fun _ => ?_)
    refine lv_bipush (v := (-2)) hx hb dX10_right_7 (by decide) ?_
    exact W.iret (v := (-2)) hx hb hr (fun tq ht hW => ⟨(-2), rfl, (show spRgt mmar mtop mstr mgho mfai mtel co pt ((-2) : Int32) from by (try rw [show ((-2) : Int32).toInt = (-2) from (show ((-2) : Int32).toInt = (-2) from rfl)]); (first | exact Or.inl ⟨by omega, rfl⟩ | exact Or.inr (Or.inl ⟨by omega, by omega, rfl⟩) | exact Or.inr (Or.inr (Or.inl ⟨by omega, by omega, by assumption, rfl⟩)) | exact Or.inr (Or.inr (Or.inr ⟨by omega, by omega, by assumption, Or.inl ⟨(ar_end i72_7 (by omega)).symm.trans (by omega), rfl⟩⟩)) | exact Or.inr (Or.inr (Or.inr ⟨by omega, by omega, by assumption, rg_one rfl (ar_end i72_7 (by omega)) (gm_end i166_4 (by omega) (by omega)) (by omega) (by omega) (by omega) (by assumption) (by first | exact Or.inl ⟨by omega, rfl⟩ | exact Or.inr ⟨by omega, rfl⟩)⟩)))), ht⟩) (fun q h => by cases h) dX10_right_9

