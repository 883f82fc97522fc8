set_option maxHeartbeats 4000000 in
set_option maxRecDepth 100000 in
theorem k_X9_right2 (l : Launch) (dC : Nat → ClassId) (dI : Nat → Nat → Nat) (cI cZ cQ : ClassId) (a : Nat → Nat) (rb0 : Nat) (rb1 : Nat) (rb2 : Nat) (db0 : Nat) (db1 : Nat) (db2 : Nat) (top : Nat → Int32) (str : Nat → Int32) (gho : Nat → Int32) (ghs : Nat → Int32) (pto : Nat → Int32) (cro : Nat → Int32) (pla : Nat → Int32) (wal : Nat → Int32) (fal : Nat → Int32) (tel : Int32) (gai : Int32) (day : Int32) (mar : Nat → Int32) (co : Int32) (pt : Int32) (r_top : rg 48 (-1) (23) top) (r_str : rg 48 (0) (100) str) (r_gho : rg 48 (-1) (23) gho) (r_ghs : rg 48 (0) (100) ghs) (r_cro : rg 48 (0) (6) cro) (r_pla : rg 24 (-1) (47) pla) (r_fal : rg 11 (0) (30) fal) (r_gai : 0 ≤ gai.toInt ∧ gai.toInt ≤ 100) (r_day : 0 ≤ day.toInt ∧ day.toInt ≤ 400) (r_mar : rg 24 (0) (255) mar) : KR l yX9_right wsX9_right { frames := 5, cells := 0, slots := 0, locals := 110 } (dC, dI) (TY cI cZ cQ) (wsC cI cZ cQ a rb0 rb1 rb2 db0 db1 db2 top str gho ghs pto cro pla wal fal tel gai day mar) [.ref (a 43), .int co, .int pt] (fun r : Int32 => (spRgt mar top str gho ghs tel co pt r)) := by
  refine Met.ofW (cc := cX9_right) (maxL := 6) (ret := (some .int)) (by decide) rfl ?_
  intro p e s m args below meth c s₁ B hml hv
  obtain ⟨rfl, hP, hK, hN⟩ := hv
  have hx := B.exec
  have hb := B.bytes
  have hr := B.returns
  have hts := atoms_spec (ws := wsX9_right) B.pre
  have hown : s.vm.findClass RX9 = some m.cls := findClass_of_methodNamed B.named
  have hlocks := B.notSynchronized
  have lf28 := hts (.fieldLink RX9 28 "PalaceOfRooms" "corners" "LPalaceOfRooms$Corners;") (by decide +kernel)
  have inX9 : ∀ w ∈ wsX90, w ∈ wsX9_right := fun w h => List.mem_cons_of_mem _ (List.mem_append_left _ (List.mem_append_left _ (List.mem_append_right _ h)))
  have lf131 := hN.use (w := .fieldLinkNest "PalaceOfRooms" 131 "PalaceOfRooms$Corners" "top" "[I" "PalaceOfRooms") (by decide +kernel) ([.ref (a 43), .int co, .int pt] : List Value).toArray
  have inX1 : ∀ w ∈ wsX10, w ∈ wsX9_right := fun w h => List.mem_cons_of_mem _ (List.mem_append_left _ (List.mem_append_right _ h))
  have lf141 := hN.use (w := .fieldLinkNest "PalaceOfRooms" 141 "PalaceOfRooms$Corners" "strength" "[I" "PalaceOfRooms") (by decide +kernel) ([.ref (a 43), .int co, .int pt] : List Value).toArray
  have hl := lv_entry ([.ref (a 43), .int co, .int pt]) (n := 6) (Nat.le_of_ble_eq_true rfl)
  rw [lg_entry_eq]
  generalize (lg_sl ([.ref (a 43), .int co, .int pt]) ++ List.replicate (6 - (lg_sl ([.ref (a 43), .int co, .int pt])).length) Slot.unset).toArray = ls at hl ⊢
  have hl : lv_has ls 6 [(0, .ref (a 43)), (1, .int co), (2, .int pt)] := hl
  refine lv_iload_n hx hb dX9_right_0 rfl (lv_at hl 1 rfl) ?_
  refine rdS (As := [.int co]) (rest := []) ⟨hx, hb, hml, hown, hts⟩ (k_X9_isCorner l dC dI cI cZ cQ co) (va_cwS 1 hts gX9_right_X9_isCorner rfl rfl rfl (by decide +kernel) ⟨Nat.le_of_ble_eq_true rfl, Nat.le_of_ble_eq_true rfl⟩) hP hK hN [] rfl rfl hl.1 rfl (Nat.le_of_ble_eq_true rfl) dX9_right_1 ⟨Nat.le_of_ble_eq_true rfl, Nat.le_of_ble_eq_true rfl⟩ (fun r1 h2 => ?_)
  have h2 : ((((r1 = 1) ∧ (0 ≤ co.toInt) ∧ (co.toInt ≤ 47)) ∨ ((r1 = 0) ∧ (co.toInt < 0 ∨ 47 < co.toInt)))) := h2
  rcases h2 with (⟨rfl, h2_a0, h2_a1⟩ | ⟨rfl, h2_a0⟩)
  · refine lv_if_ne (tgt := 10) hx hb dX9_right_4 (by decide) (fun _ => ?_) (fun c9 => absurd c9 (by decide))
    refine lv_iload_n hx hb dX9_right_10 rfl (lv_at hl 2 rfl) ?_
    refine lv_iconst (v := 0) hx hb dX9_right_11 (by decide) ?_
    refine lv_iconst (v := 1) hx hb dX9_right_12 (by decide) ?_
    refine rdS (As := [.int pt, .int 0, .int 1]) (rest := []) ⟨hx, hb, hml, hown, hts⟩ (k_X9_within l dC dI cI cZ cQ pt (0 : Int32) (1 : Int32)) (va_cwS 3 hts gX9_right_X9_within rfl rfl rfl (by decide +kernel) ⟨Nat.le_of_ble_eq_true rfl, Nat.le_of_ble_eq_true rfl⟩) hP hK hN [] rfl rfl hl.1 rfl (Nat.le_of_ble_eq_true rfl) dX9_right_13 ⟨Nat.le_of_ble_eq_true rfl, Nat.le_of_ble_eq_true rfl⟩ (fun r3 h4 => ?_)
    have h4 : ((((r3 = 1) ∧ ((0) ≤ pt.toInt) ∧ (pt.toInt ≤ (1))) ∨ ((r3 = 0) ∧ (pt.toInt < (0) ∨ (1) < pt.toInt)))) := h4
    rcases h4 with (⟨rfl, h4_a0, h4_a1⟩ | ⟨rfl, h4_a0⟩)
    · refine lv_if_ne (tgt := 22) hx hb dX9_right_16 (by decide) (fun _ => ?_) (fun c9 => absurd c9 (by decide))
      refine lv_aload_n hx hb dX9_right_22 rfl (lv_at hl 0 rfl) ?_
      refine va_get (D := (dC, dI)) (ci := 9) (v := .ref (a 4)) (C := RX9) (T := TX9) (N := 11) hx hb hts inX9 hown hK hP 0 rfl rfl 2 (by decide) lf28 (fun _ h9 => h9) rfl dX9_right_23 ?_
      refine va_getN (D := (dC, dI)) (ci := 1) (v := .ref (a 5)) (C := RX1) (T := TX1) (N := 13) hx hb hts inX1 hown hK hP 1 rfl rfl 1 (by decide) lf131 (fun _ h9 => h9) rfl dX9_right_26 ?_
      refine lv_iload_n hx hb dX9_right_29 rfl (lv_at hl 1 rfl) ?_
      have b5 : vp_in co 48 := inC rfl (by omega) (by omega)
      refine va_iald hx hb hK hP 2 0 rfl rfl b5 dX9_right_30 ?_
      have g6 : -1 ≤ (top co.toNatClampNeg).toInt ∧ (top co.toNatClampNeg).toInt ≤ 23 := rg_at r_top b5
      refine lv_iconst (v := (-1)) hx hb dX9_right_31 (by decide) ?_
      refine lv_icmp_ne (tgt := 38) hx hb dX9_right_32 (by decide) (fun c7 => ?_) (fun c7 => ?_)
      · have dc7 : 0 ≤ (top co.toNatClampNeg).toInt := ka_lo (by omega) (neC rfl (show ((-1) : Int32).toInt = (-1) from rfl) c7)
        refine lv_aload_n hx hb dX9_right_38 rfl (lv_at hl 0 rfl) ?_
        refine va_get (D := (dC, dI)) (ci := 9) (v := .ref (a 4)) (C := RX9) (T := TX9) (N := 11) hx hb hts inX9 hown hK hP 0 rfl rfl 2 (by decide) lf28 (fun _ h9 => h9) rfl dX9_right_39 ?_
        refine va_getN (D := (dC, dI)) (ci := 1) (v := .ref (a 6)) (C := RX1) (T := TX1) (N := 13) hx hb hts inX1 hown hK hP 1 rfl rfl 2 (by decide) lf141 (fun _ h9 => h9) rfl dX9_right_42 ?_
        refine lv_iload_n hx hb dX9_right_45 rfl (lv_at hl 1 rfl) ?_
        have b8 : vp_in co 48 := inC rfl (by omega) (by omega)
        refine va_iald hx hb hK hP 3 0 rfl rfl b8 dX9_right_46 ?_
        have g9 : 0 ≤ (str co.toNatClampNeg).toInt ∧ (str co.toNatClampNeg).toInt ≤ 100 := rg_at r_str b8
        refine lv_topi (fun x10 ex10 => ?_)
        have ix10 : x10.toInt = (str co.toNatClampNeg).toInt := by rw [ex10]
        refine lv_istore_n (lv' := [(3, .int x10), (0, .ref (a 43)), (1, .int co), (2, .int pt)]) hx hb dX9_right_47 rfl hl (by decide) rfl (fun ls hl => ?_)
        refine lv_iload_n hx hb dX9_right_48 rfl (lv_at hl 0 rfl) ?_
        refine lv_aload_n hx hb dX9_right_49 rfl (lv_at hl 1 rfl) ?_
        refine va_get (D := (dC, dI)) (ci := 9) (v := .ref (a 4)) (C := RX9) (T := TX9) (N := 11) hx hb hts inX9 hown hK hP 0 rfl rfl 2 (by decide) lf28 (fun _ h9 => h9) rfl dX9_right_50 ?_
        refine lv_iload_n hx hb dX9_right_53 rfl (lv_at hl 2 rfl) ?_
        refine rdV (As := [.int co]) (rest := [.int x10]) ⟨hx, hb, hml, hown, hts⟩ (k_X1_strengthAgainst2 l dC dI cI cZ cQ a top str gho ghs pto cro pla wal fal tel gai day mar co r_top r_str r_gho r_ghs r_cro r_pla r_fal r_gai r_day r_mar (by omega) (by omega)) (cwV 1 hts gX9_right_X1_strengthAgainst rfl rfl rfl (by decide +kernel) ⟨Nat.le_of_ble_eq_true rfl, Nat.le_of_ble_eq_true rfl⟩) hP hK hN [1, 2, 3, 4, 5, 6, 7, 8, 9, 10, 11, 12] rfl 1 1 rfl rfl rfl hl.1 rfl (Nat.le_of_ble_eq_true rfl) dX9_right_54 ⟨Nat.le_of_ble_eq_true rfl, Nat.le_of_ble_eq_true rfl⟩ (fun r11 h12 => ?_)
        have h12 : (0 ≤ r11.toInt) ∧ (r11.toInt ≤ 700) ∧ (r11.toInt = fnt gho ghs co.toNatClampNeg + agF mar top str tel co.toNatClampNeg (co.toNatClampNeg - co.toNatClampNeg % 6) 6) := h12
        obtain ⟨h12_0, h12_1, h12_2⟩ := h12
        refine lv_iadd hx hb dX9_right_57 ?_
        have f13 : (x10 + r11).toInt = (x10.toInt) + (r11.toInt) := addC rfl rfl (by omega) (by omega)
        refine lv_topi (fun x14 ex14 => ?_)
        have ix14 : x14.toInt = (x10.toInt) + (r11.toInt) := by rw [ex14]; exact f13
        refine lv_istore (lv' := [(4, .int x14), (3, .int x10), (0, .ref (a 43)), (1, .int co), (2, .int pt)]) hx hb dX9_right_58 hl (by decide) rfl (fun ls hl => ?_)
        have hB : (x14.toInt) = raF mar top str gho ghs tel co.toNatClampNeg := (by unfold raF; omega)
        refine lv_iload_n hx hb dX9_right_60 rfl (lv_at hl 1 rfl) ?_
        refine lv_iload hx hb dX9_right_61 (lv_at hl 0 rfl) ?_
        refine rdS (As := [.int x10, .int x14]) (rest := []) ⟨hx, hb, hml, hown, hts⟩ (k_X9_commonDivisor2 l dC dI cI cZ cQ x10 x14 (by omega) (by omega) (by omega) (by omega)) (va_cwS 2 hts gX9_right_X9_commonDivisor rfl rfl rfl (by decide +kernel) ⟨Nat.le_of_ble_eq_true rfl, Nat.le_of_ble_eq_true rfl⟩) hP hK hN [] rfl rfl hl.1 rfl (Nat.le_of_ble_eq_true rfl) dX9_right_63 ⟨Nat.le_of_ble_eq_true rfl, Nat.le_of_ble_eq_true rfl⟩ (fun r15 h16 => ?_)
        have h16 : (r15.toInt = gcF x10.toInt x14.toInt) ∧ (0 ≤ r15.toInt) ∧ (r15.toInt ≤ 1000) := h16
        obtain ⟨h16_0, h16_1, h16_2⟩ := h16
        refine lv_istore (lv' := [(5, .int r15), (4, .int x14), (3, .int x10), (0, .ref (a 43)), (1, .int co), (2, .int pt)]) hx hb dX9_right_66 hl (by decide) rfl (fun ls hl => ?_)
        refine lv_iload hx hb dX9_right_68 (lv_at hl 0 rfl) ?_
        refine lv_if_gt (tgt := 76) hx hb dX9_right_70 (by decide) (fun c17 => ?_) (fun c17 => ?_)
        · have dc17 : 0 < r15.toInt := ltC (show (0 : Int32).toInt = 0 from rfl) rfl c17
          refine lv_iload_n hx hb dX9_right_76 rfl (lv_at hl 5 rfl) ?_
          refine lv_if_ne (tgt := 84) hx hb dX9_right_77 (by decide) (fun c18 => ?_) (fun c18 => ?_)
          · have dc18 : 1 ≤ pt.toInt := ka_lo (by omega) (neC rfl (show (0 : Int32).toInt = 0 from rfl) c18)
            refine lv_iload hx hb dX9_right_84 (lv_at hl 1 rfl) ?_
            refine lv_iload hx hb dX9_right_86 (lv_at hl 0 rfl) ?_
            refine lv_idiv hx hb dX9_right_88 (n0C rfl (by omega)) ?_
            have f19 : (x14 / r15).toInt = (x14.toInt) / (r15.toInt) := divC rfl rfl (by omega) (by omega)
            exact W.iret (v := x14 / r15) hx hb hr (fun tq ht hW => ⟨x14 / r15, rfl, (show spRgt mar top str gho ghs tel co pt (x14 / r15) from by (try rw [show (x14 / r15).toInt = (x14.toInt) / (r15.toInt) from f19]); (first | exact Or.inl ⟨by omega, rfl⟩ | exact Or.inr (Or.inl ⟨by omega, by omega, rfl⟩) | exact Or.inr (Or.inr (Or.inl ⟨by omega, by omega, by assumption, rfl⟩)) | exact Or.inr (Or.inr (Or.inr ⟨by omega, by omega, by assumption, rg_zero (by assumption) hB (by assumption) (by omega) (by omega) (by omega) rfl⟩)) | exact Or.inr (Or.inr (Or.inr ⟨by omega, by omega, by assumption, rg_one (by assumption) hB (by assumption) (by omega) (by omega) (by omega) (by assumption) (by first | exact Or.inl ⟨by omega, rfl⟩ | exact Or.inr ⟨by omega, rfl⟩)⟩)))), ht⟩) (fun q h => by cases h) dX9_right_89
          · have dc18 : pt.toInt = 0 := eqC rfl (show (0 : Int32).toInt = 0 from rfl) c18
            refine lv_iload_n hx hb dX9_right_80 rfl (lv_at hl 2 rfl) ?_
            refine lv_goto (tgt := 86) hx hb dX9_right_81 (by decide) ?_
            refine lv_iload hx hb dX9_right_86 (lv_at hl 0 rfl) ?_
            refine lv_idiv hx hb dX9_right_88 (n0C rfl (by omega)) ?_
            have f20 : (x10 / r15).toInt = (x10.toInt) / (r15.toInt) := divC rfl rfl (by omega) (by omega)
            exact W.iret (v := x10 / r15) hx hb hr (fun tq ht hW => ⟨x10 / r15, rfl, (show spRgt mar top str gho ghs tel co pt (x10 / r15) from by (try rw [show (x10 / r15).toInt = (x10.toInt) / (r15.toInt) from f20]); (first | exact Or.inl ⟨by omega, rfl⟩ | exact Or.inr (Or.inl ⟨by omega, by omega, rfl⟩) | exact Or.inr (Or.inr (Or.inl ⟨by omega, by omega, by assumption, rfl⟩)) | exact Or.inr (Or.inr (Or.inr ⟨by omega, by omega, by assumption, rg_zero (by assumption) hB (by assumption) (by omega) (by omega) (by omega) rfl⟩)) | exact Or.inr (Or.inr (Or.inr ⟨by omega, by omega, by assumption, rg_one (by assumption) hB (by assumption) (by omega) (by omega) (by omega) (by assumption) (by first | exact Or.inl ⟨by omega, rfl⟩ | exact Or.inr ⟨by omega, rfl⟩)⟩)))), ht⟩) (fun q h => by cases h) dX9_right_89
        · have dc17 : r15.toInt ≤ 0 := nltC (show (0 : Int32).toInt = 0 from rfl) rfl c17
          refine lv_bipush (v := (-4)) hx hb dX9_right_73 (by decide) ?_
          exact W.iret (v := (-4)) hx hb hr (fun tq ht hW => ⟨(-4), rfl, (show spRgt mar top str gho ghs tel co pt ((-4) : Int32) from by (try rw [show ((-4) : Int32).toInt = (-4) from (show ((-4) : Int32).toInt = (-4) from rfl)]); (first | exact Or.inl ⟨by omega, rfl⟩ | exact Or.inr (Or.inl ⟨by omega, by omega, rfl⟩) | exact Or.inr (Or.inr (Or.inl ⟨by omega, by omega, by assumption, rfl⟩)) | exact Or.inr (Or.inr (Or.inr ⟨by omega, by omega, by assumption, rg_zero (by assumption) hB (by assumption) (by omega) (by omega) (by omega) rfl⟩)) | exact Or.inr (Or.inr (Or.inr ⟨by omega, by omega, by assumption, rg_one (by assumption) hB (by assumption) (by omega) (by omega) (by omega) (by assumption) (by first | exact Or.inl ⟨by omega, rfl⟩ | exact Or.inr ⟨by omega, rfl⟩)⟩)))), ht⟩) (fun q h => by cases h) dX9_right_75
      · have dc7 : (top co.toNatClampNeg).toInt = (-1) := eqC rfl (show ((-1) : Int32).toInt = (-1) from rfl) c7
        refine lv_bipush (v := (-4)) hx hb dX9_right_35 (by decide) ?_
        exact W.iret (v := (-4)) hx hb hr (fun tq ht hW => ⟨(-4), rfl, (show spRgt mar top str gho ghs tel co pt ((-4) : Int32) from by (try rw [show ((-4) : Int32).toInt = (-4) from (show ((-4) : Int32).toInt = (-4) from rfl)]); (first | exact Or.inl ⟨by omega, rfl⟩ | exact Or.inr (Or.inl ⟨by omega, by omega, rfl⟩) | exact Or.inr (Or.inr (Or.inl ⟨by omega, by omega, by assumption, rfl⟩)) | exact Or.inr (Or.inr (Or.inr ⟨by omega, by omega, by assumption, rg_zero (by assumption) hB (by assumption) (by omega) (by omega) (by omega) rfl⟩)) | exact Or.inr (Or.inr (Or.inr ⟨by omega, by omega, by assumption, rg_one (by assumption) hB (by assumption) (by omega) (by omega) (by omega) (by assumption) (by first | exact Or.inl ⟨by omega, rfl⟩ | exact Or.inr ⟨by omega, rfl⟩)⟩)))), ht⟩) (fun q h => by cases h) dX9_right_37
    · refine lv_if_ne (tgt := 22) hx hb dX9_right_16 (by decide) (fun c9 => absurd (by decide) c9) (fun _ => ?_)
      refine lv_bipush (v := (-3)) hx hb dX9_right_19 (by decide) ?_
      exact W.iret (v := (-3)) hx hb hr (fun tq ht hW => ⟨(-3), rfl, (show spRgt mar top str gho ghs tel co pt ((-3) : Int32) from by (try rw [show ((-3) : Int32).toInt = (-3) from (show ((-3) : Int32).toInt = (-3) from rfl)]); (first | exact Or.inl ⟨by omega, rfl⟩ | exact Or.inr (Or.inl ⟨by omega, by omega, rfl⟩) | exact Or.inr (Or.inr (Or.inl ⟨by omega, by omega, by assumption, rfl⟩)) | exact Or.inr (Or.inr (Or.inr ⟨by omega, by omega, by assumption, rg_zero (by assumption) hB (by assumption) (by omega) (by omega) (by omega) rfl⟩)) | exact Or.inr (Or.inr (Or.inr ⟨by omega, by omega, by assumption, rg_one (by assumption) hB (by assumption) (by omega) (by omega) (by omega) (by assumption) (by first | exact Or.inl ⟨by omega, rfl⟩ | exact Or.inr ⟨by omega, rfl⟩)⟩)))), ht⟩) (fun q h => by cases h) dX9_right_21
  · refine lv_if_ne (tgt := 10) hx hb dX9_right_4 (by decide) (fun c9 => absurd (by decide) c9) (fun _ => ?_)
    refine lv_bipush (v := (-2)) hx hb dX9_right_7 (by decide) ?_
    exact W.iret (v := (-2)) hx hb hr (fun tq ht hW => ⟨(-2), rfl, (show spRgt mar top str gho ghs tel co pt ((-2) : Int32) from by (try rw [show ((-2) : Int32).toInt = (-2) from (show ((-2) : Int32).toInt = (-2) from rfl)]); (first | exact Or.inl ⟨by omega, rfl⟩ | exact Or.inr (Or.inl ⟨by omega, by omega, rfl⟩) | exact Or.inr (Or.inr (Or.inl ⟨by omega, by omega, by assumption, rfl⟩)) | exact Or.inr (Or.inr (Or.inr ⟨by omega, by omega, by assumption, rg_zero (by assumption) hB (by assumption) (by omega) (by omega) (by omega) rfl⟩)) | exact Or.inr (Or.inr (Or.inr ⟨by omega, by omega, by assumption, rg_one (by assumption) hB (by assumption) (by omega) (by omega) (by omega) (by assumption) (by first | exact Or.inl ⟨by omega, rfl⟩ | exact Or.inr ⟨by omega, rfl⟩)⟩)))), ht⟩) (fun q h => by cases h) dX9_right_9
