set_option maxHeartbeats 4000000 in
set_option maxRecDepth 100000 in
theorem k_X9_barredByAgain2 (l : Launch) (dC : Nat → ClassId) (dI : Nat → Nat → Nat) (cI cZ cQ : ClassId) (a : Nat → Nat) (rb0 : Nat) (rb1 : Nat) (rb2 : Nat) (db0 : Nat) (db1 : Nat) (db2 : Nat) (top : Nat → Int32) (str : Nat → Int32) (gho : Nat → Int32) (ghs : Nat → Int32) (pto : Nat → Int32) (cro : Nat → Int32) (pla : Nat → Int32) (wal : Nat → Int32) (fal : Nat → Int32) (tel : Int32) (gai : Int32) (day : Int32) (mar : Nat → Int32) (mos : Nat → Int32) (wev : Nat → Int32) (aga : Int32) (apa : Int32) (lin : Int32) (co : Int32) (r_top : rg 48 (-1) (23) top) (r_str : rg 48 (0) (100) str) (r_gho : rg 48 (-1) (23) gho) (r_ghs : rg 48 (0) (100) ghs) (r_cro : rg 48 (0) (6) cro) (r_pla : rg 24 (-1) (47) pla) (r_fal : rg 11 (0) (30) fal) (r_gai : 0 ≤ gai.toInt ∧ gai.toInt ≤ 100) (r_day : 0 ≤ day.toInt ∧ day.toInt ≤ 400) (r_mar : rg 24 (0) (255) mar) (q0 : 0 ≤ co.toInt) (q1 : co.toInt ≤ 47) : KR l yX9_barredByAgain wsX9_barredByAgain { frames := 0, cells := 0, slots := 0, locals := 0 } (dC, dI) (TY cI cZ cQ) (wsCR cI cZ cQ a rb0 rb1 rb2 db0 db1 db2 top str gho ghs pto cro pla wal fal tel gai day mar mos wev aga apa lin) [.ref (a 43), .int co] (fun r : Int32 => ((((r = 1) ∧ (baA pto aga day co)) ∨ ((r = 0) ∧ (¬ baA pto aga day co))))) := by
  refine Met.ofW (cc := cX9_barredByAgain) (maxL := 3) (ret := (some .boolean)) (by decide) rfl ?_
  intro p e s m args below meth c s₁ B hml hv
  obtain ⟨rfl, hP, hK, hN⟩ := hv
  have hx := B.exec
  have hb := B.bytes
  have hr := B.returns
  have hts := atoms_spec (ws := wsX9_barredByAgain) B.pre
  have hown : s.vm.findClass RX9 = some m.cls := findClass_of_methodNamed B.named
  have hlocks := B.notSynchronized
  have lf28 := hts (.fieldLink RX9 28 "PalaceOfRooms" "corners" "LPalaceOfRooms$Corners;") (by decide +kernel)
  have inX9 : ∀ w ∈ wsX90, w ∈ wsX9_barredByAgain := fun w h => List.mem_cons_of_mem _ (List.mem_append_left _ (List.mem_append_left _ (List.mem_append_right _ h)))
  have lf150 := hN.use (w := .fieldLinkNest "PalaceOfRooms" 150 "PalaceOfRooms$Corners" "putOn" "[I" "PalaceOfRooms") (by decide +kernel) ([.ref (a 43), .int co] : List Value).toArray
  have inX1 : ∀ w ∈ wsX10, w ∈ wsX9_barredByAgain := fun w h => List.mem_cons_of_mem _ (List.mem_append_left _ (List.mem_append_right _ h))
  have lf76 := hts (.fieldLink RX9 76 "PalaceOfRooms" "rules" "LPalaceOfRooms$RuleBook;") (by decide +kernel)
  have lf294 := hN.use (w := .fieldLinkNest "PalaceOfRooms" 294 "PalaceOfRooms$RuleBook" "again" "I" "PalaceOfRooms") (by decide +kernel) ([.ref (a 43), .int co] : List Value).toArray
  have inX5 : ∀ w ∈ wsX50, w ∈ wsX9_barredByAgain := fun w h => List.mem_cons_of_mem _ (List.mem_append_right _ h)
  have lf153 := hN.use (w := .fieldLinkNest "PalaceOfRooms" 153 "PalaceOfRooms$Corners" "day" "I" "PalaceOfRooms") (by decide +kernel) ([.ref (a 43), .int co] : List Value).toArray
  have hl := lv_entry ([.ref (a 43), .int co]) (n := 3) (Nat.le_of_ble_eq_true rfl)
  rw [lg_entry_eq]
  generalize (lg_sl ([.ref (a 43), .int co]) ++ List.replicate (3 - (lg_sl ([.ref (a 43), .int co])).length) Slot.unset).toArray = ls at hl ⊢
  have hl : lv_has ls 3 [(0, .ref (a 43)), (1, .int co)] := hl
  refine lv_aload_n hx hb dX9_barredByAgain_0 rfl (lv_at hl 0 rfl) ?_
  refine va_get (D := (dC, dI)) (ci := 9) (v := .ref (a 4)) (C := RX9) (T := TX9) (N := 11) hx hb hts inX9 hown hK hP 0 rfl rfl 2 (by decide) lf28 (fun _ h9 => h9) rfl dX9_barredByAgain_1 ?_
  refine va_getN (D := (dC, dI)) (ci := 1) (v := .ref (a 9)) (C := RX1) (T := TX1) (N := 13) hx hb hts inX1 hown hK hP 1 rfl rfl 5 (by decide) lf150 (fun _ h9 => h9) rfl dX9_barredByAgain_4 ?_
  refine lv_iload_n hx hb dX9_barredByAgain_7 rfl (lv_at hl 1 rfl) ?_
  have b1 : vp_in co 48 := inC rfl (by omega) (by omega)
  refine va_iald hx hb hK hP 6 0 rfl rfl b1 dX9_barredByAgain_8 ?_
  refine lv_topi (fun x2 ex2 => ?_)
  have ix2 : x2.toInt = (pto co.toNatClampNeg).toInt := by rw [ex2]
  refine lv_istore_n (lv' := [(2, .int x2), (0, .ref (a 43)), (1, .int co)]) hx hb dX9_barredByAgain_9 rfl hl (by decide) rfl (fun ls hl => ?_)
  refine lv_aload_n hx hb dX9_barredByAgain_10 rfl (lv_at hl 1 rfl) ?_
  refine va_get (D := (dC, dI)) (ci := 9) (v := .ref rb0) (C := RX9) (T := TX9) (N := 11) hx hb hts inX9 hown hK hP 0 rfl rfl 9 (by decide) lf76 (fun _ h9 => h9) rfl dX9_barredByAgain_11 ?_
  refine va_getN (D := (dC, dI)) (ci := 5) (v := .int aga) (C := RX5) (T := TX5) (N := 5) hx hb hts inX5 hown hK hP 13 rfl rfl 2 (by decide) lf294 (fun _ h9 => h9) rfl dX9_barredByAgain_14 ?_
  refine lv_iconst (v := (-1)) hx hb dX9_barredByAgain_17 (by decide) ?_
  refine lv_icmp_eq (tgt := 49) hx hb dX9_barredByAgain_18 (by decide) (fun c3 => ?_) (fun c3 => ?_)
  · have dc3 : aga.toInt = (-1) := eqC rfl (show ((-1) : Int32).toInt = (-1) from rfl) c3
    refine lv_iconst (v := 0) hx hb dX9_barredByAgain_49 (by decide) ?_
    exact W.zret (v := 0) hx hb hr (by decide) (fun tq ht hW => ⟨0, rfl, (Or.inr (⟨rfl, (show ¬ baA pto aga day co from by (try rw [show (0 : Int32).toInt = 0 from (show (0 : Int32).toInt = 0 from rfl)]); (first | exact bg_y (by assumption) (by assumption) (by assumption) (by assumption) | exact bg_n1 (by assumption) | exact bg_n2 (by assumption) (by assumption) | exact bg_n3 (by assumption) (by assumption)))⟩)), ht⟩) (fun q h => by cases h) dX9_barredByAgain_50
  · have dc3 : aga.toInt ≠ (-1) := neC rfl (show ((-1) : Int32).toInt = (-1) from rfl) c3
    refine lv_iload_n hx hb dX9_barredByAgain_21 rfl (lv_at hl 0 rfl) ?_
    refine lv_iconst (v := (-1)) hx hb dX9_barredByAgain_22 (by decide) ?_
    refine lv_icmp_eq (tgt := 49) hx hb dX9_barredByAgain_23 (by decide) (fun c4 => ?_) (fun c4 => ?_)
    · have dc4 : x2.toInt = (-1) := eqC rfl (show ((-1) : Int32).toInt = (-1) from rfl) c4
      refine lv_iconst (v := 0) hx hb dX9_barredByAgain_49 (by decide) ?_
      exact W.zret (v := 0) hx hb hr (by decide) (fun tq ht hW => ⟨0, rfl, (Or.inr (⟨rfl, (show ¬ baA pto aga day co from by (try rw [show (0 : Int32).toInt = 0 from (show (0 : Int32).toInt = 0 from rfl)]); (first | exact bg_y (by assumption) (by assumption) (by assumption) (by assumption) | exact bg_n1 (by assumption) | exact bg_n2 (by assumption) (by assumption) | exact bg_n3 (by assumption) (by assumption)))⟩)), ht⟩) (fun q h => by cases h) dX9_barredByAgain_50
    · have dc4 : x2.toInt ≠ (-1) := neC rfl (show ((-1) : Int32).toInt = (-1) from rfl) c4
      refine lv_aload_n hx hb dX9_barredByAgain_26 rfl (lv_at hl 1 rfl) ?_
      refine va_get (D := (dC, dI)) (ci := 9) (v := .ref (a 4)) (C := RX9) (T := TX9) (N := 11) hx hb hts inX9 hown hK hP 0 rfl rfl 2 (by decide) lf28 (fun _ h9 => h9) rfl dX9_barredByAgain_27 ?_
      refine va_getN (D := (dC, dI)) (ci := 1) (v := .int day) (C := RX1) (T := TX1) (N := 13) hx hb hts inX1 hown hK hP 1 rfl rfl 12 (by decide) lf153 (fun _ h9 => h9) rfl dX9_barredByAgain_30 ?_
      refine lv_iload_n hx hb dX9_barredByAgain_33 rfl (lv_at hl 0 rfl) ?_
      refine lv_isub hx hb dX9_barredByAgain_34 ?_
      refine lv_aload_n hx hb dX9_barredByAgain_35 rfl (lv_at hl 1 rfl) ?_
      refine va_get (D := (dC, dI)) (ci := 9) (v := .ref rb0) (C := RX9) (T := TX9) (N := 11) hx hb hts inX9 hown hK hP 0 rfl rfl 9 (by decide) lf76 (fun _ h9 => h9) rfl dX9_barredByAgain_36 ?_
      refine va_getN (D := (dC, dI)) (ci := 5) (v := .int aga) (C := RX5) (T := TX5) (N := 5) hx hb hts inX5 hown hK hP 13 rfl rfl 2 (by decide) lf294 (fun _ h9 => h9) rfl dX9_barredByAgain_39 ?_
      refine lv_icmp_ge (tgt := 49) hx hb dX9_barredByAgain_42 (by decide) (fun c5 => ?_) (fun c5 => ?_)
      · have dc5 : aga.toInt ≤ (day - x2).toInt := leC rfl rfl c5
        refine lv_iconst (v := 0) hx hb dX9_barredByAgain_49 (by decide) ?_
        exact W.zret (v := 0) hx hb hr (by decide) (fun tq ht hW => ⟨0, rfl, (Or.inr (⟨rfl, (show ¬ baA pto aga day co from by (try rw [show (0 : Int32).toInt = 0 from (show (0 : Int32).toInt = 0 from rfl)]); (first | exact bg_y (by assumption) (by assumption) (by assumption) (by assumption) | exact bg_n1 (by assumption) | exact bg_n2 (by assumption) (by assumption) | exact bg_n3 (by assumption) (by assumption)))⟩)), ht⟩) (fun q h => by cases h) dX9_barredByAgain_50
      · have dc5 : (day - x2).toInt < aga.toInt := nleC rfl rfl c5
        refine lv_iconst (v := 1) hx hb dX9_barredByAgain_45 (by decide) ?_
        refine lv_goto (tgt := 50) hx hb dX9_barredByAgain_46 (by decide) ?_
        exact W.zret (v := 1) hx hb hr (by decide) (fun tq ht hW => ⟨1, rfl, (Or.inl (⟨rfl, (show baA pto aga day co from by (try rw [show (1 : Int32).toInt = 1 from (show (1 : Int32).toInt = 1 from rfl)]); (first | exact bg_y (by assumption) (by assumption) (by assumption) (by assumption) | exact bg_n1 (by assumption) | exact bg_n2 (by assumption) (by assumption) | exact bg_n3 (by assumption) (by assumption)))⟩)), ht⟩) (fun q h => by cases h) dX9_barredByAgain_50
set_option maxHeartbeats 4000000 in
set_option maxRecDepth 100000 in
theorem k_X9_barredByApart2 (l : Launch) (dC : Nat → ClassId) (dI : Nat → Nat → Nat) (cI cZ cQ : ClassId) (a : Nat → Nat) (rb0 : Nat) (rb1 : Nat) (rb2 : Nat) (db0 : Nat) (db1 : Nat) (db2 : Nat) (top : Nat → Int32) (str : Nat → Int32) (gho : Nat → Int32) (ghs : Nat → Int32) (pto : Nat → Int32) (cro : Nat → Int32) (pla : Nat → Int32) (wal : Nat → Int32) (fal : Nat → Int32) (tel : Int32) (gai : Int32) (day : Int32) (mar : Nat → Int32) (mos : Nat → Int32) (wev : Nat → Int32) (aga : Int32) (apa : Int32) (lin : Int32) (th : Int32) (co : Int32) (r_top : rg 48 (-1) (23) top) (r_str : rg 48 (0) (100) str) (r_gho : rg 48 (-1) (23) gho) (r_ghs : rg 48 (0) (100) ghs) (r_cro : rg 48 (0) (6) cro) (r_pla : rg 24 (-1) (47) pla) (r_fal : rg 11 (0) (30) fal) (r_gai : 0 ≤ gai.toInt ∧ gai.toInt ≤ 100) (r_day : 0 ≤ day.toInt ∧ day.toInt ≤ 400) (r_mar : rg 24 (0) (255) mar) (q0 : 0 ≤ th.toInt) (q1 : th.toInt ≤ 23) (q2 : 0 ≤ co.toInt) (q3 : co.toInt ≤ 47) : KR l yX9_barredByApart wsX9_barredByApart { frames := 3, cells := 0, slots := 0, locals := 64 } (dC, dI) (TY cI cZ cQ) (wsCR cI cZ cQ a rb0 rb1 rb2 db0 db1 db2 top str gho ghs pto cro pla wal fal tel gai day mar mos wev aga apa lin) [.ref (a 43), .int th, .int co] (fun r : Int32 => ((((r = 1) ∧ (baP mar top apa th co)) ∨ ((r = 0) ∧ (¬ baP mar top apa th co))))) := by
  refine Met.ofW (cc := cX9_barredByApart) (maxL := 4) (ret := (some .boolean)) (by decide) rfl ?_
  intro p e s m args below meth c s₁ B hml hv
  obtain ⟨rfl, hP, hK, hN⟩ := hv
  have hx := B.exec
  have hb := B.bytes
  have hr := B.returns
  have hts := atoms_spec (ws := wsX9_barredByApart) B.pre
  have hown : s.vm.findClass RX9 = some m.cls := findClass_of_methodNamed B.named
  have hlocks := B.notSynchronized
  have lf76 := hts (.fieldLink RX9 76 "PalaceOfRooms" "rules" "LPalaceOfRooms$RuleBook;") (by decide +kernel)
  have inX9 : ∀ w ∈ wsX90, w ∈ wsX9_barredByApart := by decide +kernel
  have lf297 := hN.use (w := .fieldLinkNest "PalaceOfRooms" 297 "PalaceOfRooms$RuleBook" "apart" "I" "PalaceOfRooms") (by decide +kernel) ([.ref (a 43), .int th, .int co] : List Value).toArray
  have inX5 : ∀ w ∈ wsX50, w ∈ wsX9_barredByApart := by decide +kernel
  have lf28 := hts (.fieldLink RX9 28 "PalaceOfRooms" "corners" "LPalaceOfRooms$Corners;") (by decide +kernel)
  have lf131 := hN.use (w := .fieldLinkNest "PalaceOfRooms" 131 "PalaceOfRooms$Corners" "top" "[I" "PalaceOfRooms") (by decide +kernel) ([.ref (a 43), .int th, .int co] : List Value).toArray
  have inX1 : ∀ w ∈ wsX10, w ∈ wsX9_barredByApart := by decide +kernel
  have hl := lv_entry ([.ref (a 43), .int th, .int co]) (n := 4) (Nat.le_of_ble_eq_true rfl)
  rw [lg_entry_eq]
  generalize (lg_sl ([.ref (a 43), .int th, .int co]) ++ List.replicate (4 - (lg_sl ([.ref (a 43), .int th, .int co])).length) Slot.unset).toArray = ls at hl ⊢
  have hl : lv_has ls 4 [(0, .ref (a 43)), (1, .int th), (2, .int co)] := hl
  refine lv_aload_n hx hb dX9_barredByApart_0 rfl (lv_at hl 0 rfl) ?_
  refine va_get (D := (dC, dI)) (ci := 9) (v := .ref rb0) (C := RX9) (T := TX9) (N := 11) hx hb hts inX9 hown hK hP 0 rfl rfl 9 (by decide) lf76 (fun _ h9 => h9) rfl dX9_barredByApart_1 ?_
  refine va_getN (D := (dC, dI)) (ci := 5) (v := .int apa) (C := RX5) (T := TX5) (N := 5) hx hb hts inX5 hown hK hP 13 rfl rfl 3 (by decide) lf297 (fun _ h9 => h9) rfl dX9_barredByApart_4 ?_
  refine lv_iconst (v := (-1)) hx hb dX9_barredByApart_7 (by decide) ?_
  refine lv_icmp_ne (tgt := 13) hx hb dX9_barredByApart_8 (by decide) (fun c1 => ?_) (fun c1 => ?_)
  · have dc1 : apa.toInt ≠ (-1) := neC rfl (show ((-1) : Int32).toInt = (-1) from rfl) c1
    refine lv_iload_n hx hb dX9_barredByApart_13 rfl (lv_at hl 2 rfl) ?_
    refine lv_bipush (v := 6) hx hb dX9_barredByApart_14 (by decide) ?_
    refine lv_irem hx hb dX9_barredByApart_16 (by decide) ?_
    have f2 : (co - co / 6 * 6).toInt = (co.toInt) % (6) := remC rfl (show (6 : Int32).toInt = 6 from rfl) (by omega) (by omega)
    refine lv_topi (fun x3 ex3 => ?_)
    have ix3 : x3.toInt = (co.toInt) % (6) := by rw [ex3]; exact f2
    refine lv_istore_n (lv' := [(3, .int x3), (0, .ref (a 43)), (1, .int th), (2, .int co)]) hx hb dX9_barredByApart_17 rfl hl (by decide) rfl (fun ls hl => ?_)
    refine lv_iload_n hx hb dX9_barredByApart_18 rfl (lv_at hl 0 rfl) ?_
    refine lv_if_le (tgt := 41) hx hb dX9_barredByApart_19 (by decide) (fun c4 => ?_) (fun c4 => ?_)
    · have dc4 : x3.toInt ≤ 0 := leC rfl (show (0 : Int32).toInt = 0 from rfl) c4
      refine lv_iload_n hx hb dX9_barredByApart_41 rfl (lv_at hl 0 rfl) ?_
      refine lv_iconst (v := 5) hx hb dX9_barredByApart_42 (by decide) ?_
      refine lv_icmp_ge (tgt := 69) hx hb dX9_barredByApart_43 (by decide) (fun c5 => ?_) (fun c5 => ?_)
      · have dc5 : 5 ≤ x3.toInt := leC (show (5 : Int32).toInt = 5 from rfl) rfl c5
        exfalso
        omega
      · have dc5 : x3.toInt < 5 := nleC (show (5 : Int32).toInt = 5 from rfl) rfl c5
        refine lv_aload_n hx hb dX9_barredByApart_46 rfl (lv_at hl 1 rfl) ?_
        refine lv_iload_n hx hb dX9_barredByApart_47 rfl (lv_at hl 2 rfl) ?_
        refine lv_aload_n hx hb dX9_barredByApart_48 rfl (lv_at hl 1 rfl) ?_
        refine va_get (D := (dC, dI)) (ci := 9) (v := .ref (a 4)) (C := RX9) (T := TX9) (N := 11) hx hb hts inX9 hown hK hP 0 rfl rfl 2 (by decide) lf28 (fun _ h9 => h9) rfl dX9_barredByApart_49 ?_
        refine va_getN (D := (dC, dI)) (ci := 1) (v := .ref (a 5)) (C := RX1) (T := TX1) (N := 13) hx hb hts inX1 hown hK hP 1 rfl rfl 1 (by decide) lf131 (fun _ h9 => h9) rfl dX9_barredByApart_52 ?_
        refine lv_iload_n hx hb dX9_barredByApart_55 rfl (lv_at hl 3 rfl) ?_
        refine lv_iconst (v := 1) hx hb dX9_barredByApart_56 (by decide) ?_
        refine lv_iadd hx hb dX9_barredByApart_57 ?_
        have f6 : (co + 1).toInt = (co.toInt) + (1) := addC rfl (show (1 : Int32).toInt = 1 from rfl) (by omega) (by omega)
        have b7 : vp_in (co + 1) 48 := inC f6 (by omega) (by omega)
        refine va_iald hx hb hK hP 2 0 rfl rfl b7 dX9_barredByApart_58 ?_
        have g8 : -1 ≤ (top (co + 1).toNatClampNeg).toInt ∧ (top (co + 1).toNatClampNeg).toInt ≤ 23 := rg_at r_top b7
        refine rdV (As := [.int th, .int (top (co + 1).toNatClampNeg)]) (rest := []) ⟨hx, hb, hml, hown, hts⟩ (k_X9_tooLike2 l dC dI cI cZ cQ a rb0 rb1 rb2 db0 db1 db2 mar mos wev aga apa lin th (top (co + 1).toNatClampNeg) r_mar (by omega) (by omega) (by omega) (by omega)) (cwV 2 hts gX9_barredByApart_X9_tooLike rfl rfl rfl (by decide +kernel) ⟨Nat.le_of_ble_eq_true rfl, Nat.le_of_ble_eq_true rfl⟩) hP hK hN [0, 11, 12, 13, 14, 15] rfl 0 9 rfl rfl rfl hl.1 rfl (Nat.le_of_ble_eq_true rfl) dX9_barredByApart_59 ⟨Nat.le_of_ble_eq_true rfl, Nat.le_of_ble_eq_true rfl⟩ (fun r9 h10 => ?_)
        have h10 : ((((r9 = 1) ∧ (tlP mar th (top (co + 1).toNatClampNeg) apa)) ∨ ((r9 = 0) ∧ (¬ tlP mar th (top (co + 1).toNatClampNeg) apa)))) := h10
        rcases h10 with (⟨rfl, h10_a0⟩ | ⟨rfl, h10_a0⟩)
        · refine lv_if_eq (tgt := 69) hx hb dX9_barredByApart_62 (by decide) (fun c9 => absurd c9 (by decide)) (fun _ => ?_)
          refine lv_iconst (v := 1) hx hb dX9_barredByApart_65 (by decide) ?_
          refine lv_goto (tgt := 70) hx hb dX9_barredByApart_66 (by decide) ?_
          exact W.zret (v := 1) hx hb hr (by decide) (fun tq ht hW => ⟨1, rfl, (Or.inl (⟨rfl, (show baP mar top apa th co from by (try rw [show (1 : Int32).toInt = 1 from (show (1 : Int32).toInt = 1 from rfl)]); (first | exact fun q => q.1 (by assumption) | exact ⟨by assumption, Or.inl ⟨by omega, by rw [← bp_ix (top := top) (d := co - 1) (by assumption)]; assumption⟩⟩ | exact ⟨by assumption, Or.inr ⟨by omega, by rw [← bp_ix (top := top) (d := co + 1) (by assumption)]; assumption⟩⟩ | (intro q; rcases q.2 with z | z <;> first | (exfalso; have := z.1; omega) | (have w := z.2; rw [← bp_ix (top := top) (d := co - 1) (by assumption)] at w; exact absurd w (by assumption)) | (have w := z.2; rw [← bp_ix (top := top) (d := co + 1) (by assumption)] at w; exact absurd w (by assumption)))))⟩)), ht⟩) (fun q h => by cases h) dX9_barredByApart_70
        · refine lv_if_eq (tgt := 69) hx hb dX9_barredByApart_62 (by decide) (fun _ => ?_) (fun c9 => absurd (by decide) c9)
          refine lv_iconst (v := 0) hx hb dX9_barredByApart_69 (by decide) ?_
          exact W.zret (v := 0) hx hb hr (by decide) (fun tq ht hW => ⟨0, rfl, (Or.inr (⟨rfl, (show ¬ baP mar top apa th co from by (try rw [show (0 : Int32).toInt = 0 from (show (0 : Int32).toInt = 0 from rfl)]); (first | exact fun q => q.1 (by assumption) | exact ⟨by assumption, Or.inl ⟨by omega, by rw [← bp_ix (top := top) (d := co - 1) (by assumption)]; assumption⟩⟩ | exact ⟨by assumption, Or.inr ⟨by omega, by rw [← bp_ix (top := top) (d := co + 1) (by assumption)]; assumption⟩⟩ | (intro q; rcases q.2 with z | z <;> first | (exfalso; have := z.1; omega) | (have w := z.2; rw [← bp_ix (top := top) (d := co - 1) (by assumption)] at w; exact absurd w (by assumption)) | (have w := z.2; rw [← bp_ix (top := top) (d := co + 1) (by assumption)] at w; exact absurd w (by assumption)))))⟩)), ht⟩) (fun q h => by cases h) dX9_barredByApart_70
    · have dc4 : 0 < x3.toInt := nleC rfl (show (0 : Int32).toInt = 0 from rfl) c4
      refine lv_aload_n hx hb dX9_barredByApart_22 rfl (lv_at hl 1 rfl) ?_
      refine lv_iload_n hx hb dX9_barredByApart_23 rfl (lv_at hl 2 rfl) ?_
      refine lv_aload_n hx hb dX9_barredByApart_24 rfl (lv_at hl 1 rfl) ?_
      refine va_get (D := (dC, dI)) (ci := 9) (v := .ref (a 4)) (C := RX9) (T := TX9) (N := 11) hx hb hts inX9 hown hK hP 0 rfl rfl 2 (by decide) lf28 (fun _ h9 => h9) rfl dX9_barredByApart_25 ?_
      refine va_getN (D := (dC, dI)) (ci := 1) (v := .ref (a 5)) (C := RX1) (T := TX1) (N := 13) hx hb hts inX1 hown hK hP 1 rfl rfl 1 (by decide) lf131 (fun _ h9 => h9) rfl dX9_barredByApart_28 ?_
      refine lv_iload_n hx hb dX9_barredByApart_31 rfl (lv_at hl 3 rfl) ?_
      refine lv_iconst (v := 1) hx hb dX9_barredByApart_32 (by decide) ?_
      refine lv_isub hx hb dX9_barredByApart_33 ?_
      have f11 : (co - 1).toInt = (co.toInt) - (1) := subC rfl (show (1 : Int32).toInt = 1 from rfl) (by omega) (by omega)
      have b12 : vp_in (co - 1) 48 := inC f11 (by omega) (by omega)
      refine va_iald hx hb hK hP 2 0 rfl rfl b12 dX9_barredByApart_34 ?_
      have g13 : -1 ≤ (top (co - 1).toNatClampNeg).toInt ∧ (top (co - 1).toNatClampNeg).toInt ≤ 23 := rg_at r_top b12
      refine rdV (As := [.int th, .int (top (co - 1).toNatClampNeg)]) (rest := []) ⟨hx, hb, hml, hown, hts⟩ (k_X9_tooLike2 l dC dI cI cZ cQ a rb0 rb1 rb2 db0 db1 db2 mar mos wev aga apa lin th (top (co - 1).toNatClampNeg) r_mar (by omega) (by omega) (by omega) (by omega)) (cwV 2 hts gX9_barredByApart_X9_tooLike rfl rfl rfl (by decide +kernel) ⟨Nat.le_of_ble_eq_true rfl, Nat.le_of_ble_eq_true rfl⟩) hP hK hN [0, 11, 12, 13, 14, 15] rfl 0 9 rfl rfl rfl hl.1 rfl (Nat.le_of_ble_eq_true rfl) dX9_barredByApart_35 ⟨Nat.le_of_ble_eq_true rfl, Nat.le_of_ble_eq_true rfl⟩ (fun r14 h15 => ?_)
      have h15 : ((((r14 = 1) ∧ (tlP mar th (top (co - 1).toNatClampNeg) apa)) ∨ ((r14 = 0) ∧ (¬ tlP mar th (top (co - 1).toNatClampNeg) apa)))) := h15
      rcases h15 with (⟨rfl, h15_a0⟩ | ⟨rfl, h15_a0⟩)
      · refine lv_if_ne (tgt := 65) hx hb dX9_barredByApart_38 (by decide) (fun _ => ?_) (fun c9 => absurd c9 (by decide))
        refine lv_iconst (v := 1) hx hb dX9_barredByApart_65 (by decide) ?_
        refine lv_goto (tgt := 70) hx hb dX9_barredByApart_66 (by decide) ?_
        exact W.zret (v := 1) hx hb hr (by decide) (fun tq ht hW => ⟨1, rfl, (Or.inl (⟨rfl, (show baP mar top apa th co from by (try rw [show (1 : Int32).toInt = 1 from (show (1 : Int32).toInt = 1 from rfl)]); (first | exact fun q => q.1 (by assumption) | exact ⟨by assumption, Or.inl ⟨by omega, by rw [← bp_ix (top := top) (d := co - 1) (by assumption)]; assumption⟩⟩ | exact ⟨by assumption, Or.inr ⟨by omega, by rw [← bp_ix (top := top) (d := co + 1) (by assumption)]; assumption⟩⟩ | (intro q; rcases q.2 with z | z <;> first | (exfalso; have := z.1; omega) | (have w := z.2; rw [← bp_ix (top := top) (d := co - 1) (by assumption)] at w; exact absurd w (by assumption)) | (have w := z.2; rw [← bp_ix (top := top) (d := co + 1) (by assumption)] at w; exact absurd w (by assumption)))))⟩)), ht⟩) (fun q h => by cases h) dX9_barredByApart_70
      · refine lv_if_ne (tgt := 65) hx hb dX9_barredByApart_38 (by decide) (fun c9 => absurd (by decide) c9) (fun _ => ?_)
        refine lv_iload_n hx hb dX9_barredByApart_41 rfl (lv_at hl 0 rfl) ?_
        refine lv_iconst (v := 5) hx hb dX9_barredByApart_42 (by decide) ?_
        refine lv_icmp_ge (tgt := 69) hx hb dX9_barredByApart_43 (by decide) (fun c16 => ?_) (fun c16 => ?_)
        · have dc16 : 5 ≤ x3.toInt := leC (show (5 : Int32).toInt = 5 from rfl) rfl c16
          refine lv_iconst (v := 0) hx hb dX9_barredByApart_69 (by decide) ?_
          exact W.zret (v := 0) hx hb hr (by decide) (fun tq ht hW => ⟨0, rfl, (Or.inr (⟨rfl, (show ¬ baP mar top apa th co from by (try rw [show (0 : Int32).toInt = 0 from (show (0 : Int32).toInt = 0 from rfl)]); (first | exact fun q => q.1 (by assumption) | exact ⟨by assumption, Or.inl ⟨by omega, by rw [← bp_ix (top := top) (d := co - 1) (by assumption)]; assumption⟩⟩ | exact ⟨by assumption, Or.inr ⟨by omega, by rw [← bp_ix (top := top) (d := co + 1) (by assumption)]; assumption⟩⟩ | (intro q; rcases q.2 with z | z <;> first | (exfalso; have := z.1; omega) | (have w := z.2; rw [← bp_ix (top := top) (d := co - 1) (by assumption)] at w; exact absurd w (by assumption)) | (have w := z.2; rw [← bp_ix (top := top) (d := co + 1) (by assumption)] at w; exact absurd w (by assumption)))))⟩)), ht⟩) (fun q h => by cases h) dX9_barredByApart_70
        · have dc16 : x3.toInt < 5 := nleC (show (5 : Int32).toInt = 5 from rfl) rfl c16
          refine lv_aload_n hx hb dX9_barredByApart_46 rfl (lv_at hl 1 rfl) ?_
          refine lv_iload_n hx hb dX9_barredByApart_47 rfl (lv_at hl 2 rfl) ?_
          refine lv_aload_n hx hb dX9_barredByApart_48 rfl (lv_at hl 1 rfl) ?_
          refine va_get (D := (dC, dI)) (ci := 9) (v := .ref (a 4)) (C := RX9) (T := TX9) (N := 11) hx hb hts inX9 hown hK hP 0 rfl rfl 2 (by decide) lf28 (fun _ h9 => h9) rfl dX9_barredByApart_49 ?_
          refine va_getN (D := (dC, dI)) (ci := 1) (v := .ref (a 5)) (C := RX1) (T := TX1) (N := 13) hx hb hts inX1 hown hK hP 1 rfl rfl 1 (by decide) lf131 (fun _ h9 => h9) rfl dX9_barredByApart_52 ?_
          refine lv_iload_n hx hb dX9_barredByApart_55 rfl (lv_at hl 3 rfl) ?_
          refine lv_iconst (v := 1) hx hb dX9_barredByApart_56 (by decide) ?_
          refine lv_iadd hx hb dX9_barredByApart_57 ?_
          have f17 : (co + 1).toInt = (co.toInt) + (1) := addC rfl (show (1 : Int32).toInt = 1 from rfl) (by omega) (by omega)
          have b18 : vp_in (co + 1) 48 := inC f17 (by omega) (by omega)
          refine va_iald hx hb hK hP 2 0 rfl rfl b18 dX9_barredByApart_58 ?_
          have g19 : -1 ≤ (top (co + 1).toNatClampNeg).toInt ∧ (top (co + 1).toNatClampNeg).toInt ≤ 23 := rg_at r_top b18
          refine rdV (As := [.int th, .int (top (co + 1).toNatClampNeg)]) (rest := []) ⟨hx, hb, hml, hown, hts⟩ (k_X9_tooLike2 l dC dI cI cZ cQ a rb0 rb1 rb2 db0 db1 db2 mar mos wev aga apa lin th (top (co + 1).toNatClampNeg) r_mar (by omega) (by omega) (by omega) (by omega)) (cwV 2 hts gX9_barredByApart_X9_tooLike rfl rfl rfl (by decide +kernel) ⟨Nat.le_of_ble_eq_true rfl, Nat.le_of_ble_eq_true rfl⟩) hP hK hN [0, 11, 12, 13, 14, 15] rfl 0 9 rfl rfl rfl hl.1 rfl (Nat.le_of_ble_eq_true rfl) dX9_barredByApart_59 ⟨Nat.le_of_ble_eq_true rfl, Nat.le_of_ble_eq_true rfl⟩ (fun r20 h21 => ?_)
          have h21 : ((((r20 = 1) ∧ (tlP mar th (top (co + 1).toNatClampNeg) apa)) ∨ ((r20 = 0) ∧ (¬ tlP mar th (top (co + 1).toNatClampNeg) apa)))) := h21
          rcases h21 with (⟨rfl, h21_a0⟩ | ⟨rfl, h21_a0⟩)
          · refine lv_if_eq (tgt := 69) hx hb dX9_barredByApart_62 (by decide) (fun c9 => absurd c9 (by decide)) (fun _ => ?_)
            refine lv_iconst (v := 1) hx hb dX9_barredByApart_65 (by decide) ?_
            refine lv_goto (tgt := 70) hx hb dX9_barredByApart_66 (by decide) ?_
            exact W.zret (v := 1) hx hb hr (by decide) (fun tq ht hW => ⟨1, rfl, (Or.inl (⟨rfl, (show baP mar top apa th co from by (try rw [show (1 : Int32).toInt = 1 from (show (1 : Int32).toInt = 1 from rfl)]); (first | exact fun q => q.1 (by assumption) | exact ⟨by assumption, Or.inl ⟨by omega, by rw [← bp_ix (top := top) (d := co - 1) (by assumption)]; assumption⟩⟩ | exact ⟨by assumption, Or.inr ⟨by omega, by rw [← bp_ix (top := top) (d := co + 1) (by assumption)]; assumption⟩⟩ | (intro q; rcases q.2 with z | z <;> first | (exfalso; have := z.1; omega) | (have w := z.2; rw [← bp_ix (top := top) (d := co - 1) (by assumption)] at w; exact absurd w (by assumption)) | (have w := z.2; rw [← bp_ix (top := top) (d := co + 1) (by assumption)] at w; exact absurd w (by assumption)))))⟩)), ht⟩) (fun q h => by cases h) dX9_barredByApart_70
          · refine lv_if_eq (tgt := 69) hx hb dX9_barredByApart_62 (by decide) (fun _ => ?_) (fun c9 => absurd (by decide) c9)
            refine lv_iconst (v := 0) hx hb dX9_barredByApart_69 (by decide) ?_
            exact W.zret (v := 0) hx hb hr (by decide) (fun tq ht hW => ⟨0, rfl, (Or.inr (⟨rfl, (show ¬ baP mar top apa th co from by (try rw [show (0 : Int32).toInt = 0 from (show (0 : Int32).toInt = 0 from rfl)]); (first | exact fun q => q.1 (by assumption) | exact ⟨by assumption, Or.inl ⟨by omega, by rw [← bp_ix (top := top) (d := co - 1) (by assumption)]; assumption⟩⟩ | exact ⟨by assumption, Or.inr ⟨by omega, by rw [← bp_ix (top := top) (d := co + 1) (by assumption)]; assumption⟩⟩ | (intro q; rcases q.2 with z | z <;> first | (exfalso; have := z.1; omega) | (have w := z.2; rw [← bp_ix (top := top) (d := co - 1) (by assumption)] at w; exact absurd w (by assumption)) | (have w := z.2; rw [← bp_ix (top := top) (d := co + 1) (by assumption)] at w; exact absurd w (by assumption)))))⟩)), ht⟩) (fun q h => by cases h) dX9_barredByApart_70
  · have dc1 : apa.toInt = (-1) := eqC rfl (show ((-1) : Int32).toInt = (-1) from rfl) c1
    refine lv_iconst (v := 0) hx hb dX9_barredByApart_11 (by decide) ?_
    exact W.zret (v := 0) hx hb hr (by decide) (fun tq ht hW => ⟨0, rfl, (Or.inr (⟨rfl, (show ¬ baP mar top apa th co from by (try rw [show (0 : Int32).toInt = 0 from (show (0 : Int32).toInt = 0 from rfl)]); (first | exact fun q => q.1 (by assumption) | exact ⟨by assumption, Or.inl ⟨by omega, by rw [← bp_ix (top := top) (d := co - 1) (by assumption)]; assumption⟩⟩ | exact ⟨by assumption, Or.inr ⟨by omega, by rw [← bp_ix (top := top) (d := co + 1) (by assumption)]; assumption⟩⟩ | (intro q; rcases q.2 with z | z <;> first | (exfalso; have := z.1; omega) | (have w := z.2; rw [← bp_ix (top := top) (d := co - 1) (by assumption)] at w; exact absurd w (by assumption)) | (have w := z.2; rw [← bp_ix (top := top) (d := co + 1) (by assumption)] at w; exact absurd w (by assumption)))))⟩)), ht⟩) (fun q h => by cases h) dX9_barredByApart_12
