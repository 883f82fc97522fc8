set_option maxHeartbeats 4000000 in
set_option maxRecDepth 100000 in
theorem k_X9_tooLike (l : Launch) (dC : Nat → ClassId) (dI : Nat → Nat → Nat) (cI cZ cQ : ClassId) (a : Nat → Nat) (rb0 : Nat) (rb1 : Nat) (rb2 : Nat) (db0 : Nat) (db1 : Nat) (db2 : Nat) (mar : Nat → Int32) (mos : Nat → Int32) (wev : Nat → Int32) (aga : Int32) (apa : Int32) (lin : Int32) (th : Int32) (ne : Int32) (r_mar : rg 24 (0) (255) mar) (q0 : 0 ≤ th.toInt) (q1 : th.toInt ≤ 23) (q2 : -1 ≤ ne.toInt) (q3 : ne.toInt ≤ 23) : KR l yX9_tooLike wsX9_tooLike { frames := 2, cells := 0, slots := 0, locals := 42 } (dC, dI) (TY cI cZ cQ) (wsPR cI cZ cQ a rb0 rb1 rb2 db0 db1 db2 mar mos wev aga apa lin) [.ref (a 43), .int th, .int ne] (fun r : Int32 => ((((r = 1)) ∨ ((r = 0))))) := by
  refine Met.ofW (cc := cX9_tooLike) (maxL := 3) (ret := (some .boolean)) (by decide) rfl ?_
  intro p e s m args below meth c s₁ B hml hv
  obtain ⟨rfl, hP, hK, hN⟩ := hv
  have hx := B.exec
  have hb := B.bytes
  have hr := B.returns
  have hts := atoms_spec (ws := wsX9_tooLike) B.pre
  have hown : s.vm.findClass RX9 = some m.cls := findClass_of_methodNamed B.named
  have hlocks := B.notSynchronized
  have lf19 := hts (.fieldLink RX9 19 "PalaceOfRooms" "pictures" "LPalaceOfRooms$Pictures;") (by decide +kernel)
  have inX9 : ∀ w ∈ wsX90, w ∈ wsX9_tooLike := by decide +kernel
  have lf76 := hts (.fieldLink RX9 76 "PalaceOfRooms" "rules" "LPalaceOfRooms$RuleBook;") (by decide +kernel)
  have lf297 := hN.use (w := .fieldLinkNest "PalaceOfRooms" 297 "PalaceOfRooms$RuleBook" "apart" "I" "PalaceOfRooms") (by decide +kernel) ([.ref (a 43), .int th, .int ne] : List Value).toArray
  have inX5 : ∀ w ∈ wsX50, w ∈ wsX9_tooLike := by decide +kernel
  have hl := lv_entry ([.ref (a 43), .int th, .int ne]) (n := 3) (Nat.le_of_ble_eq_true rfl)
  rw [lg_entry_eq]
  generalize (lg_sl ([.ref (a 43), .int th, .int ne]) ++ List.replicate (3 - (lg_sl ([.ref (a 43), .int th, .int ne])).length) Slot.unset).toArray = ls at hl ⊢
  have hl : lv_has ls 3 [(0, .ref (a 43)), (1, .int th), (2, .int ne)] := hl
  refine lv_iload_n hx hb dX9_tooLike_0 rfl (lv_at hl 2 rfl) ?_
  refine lv_iconst (v := (-1)) hx hb dX9_tooLike_1 (by decide) ?_
  refine lv_icmp_eq (tgt := 28) hx hb dX9_tooLike_2 (by decide) (fun c1 => ?_) (fun c1 => ?_)
  · have dc1 : ne.toInt = (-1) := eqC rfl (show ((-1) : Int32).toInt = (-1) from rfl) c1
    refine lv_iconst (v := 0) hx hb dX9_tooLike_28 (by decide) ?_
    exact W.zret (v := 0) hx hb hr (by decide) (fun tq ht hW => ⟨0, rfl, (Or.inr rfl), ht⟩) (fun q h => by cases h) dX9_tooLike_29
  · have dc1 : 0 ≤ ne.toInt := ka_lo (by omega) (neC rfl (show ((-1) : Int32).toInt = (-1) from rfl) c1)
    refine lv_aload_n hx hb dX9_tooLike_5 rfl (lv_at hl 0 rfl) ?_
    refine va_get (D := (dC, dI)) (ci := 9) (v := .ref (a 2)) (C := RX9) (T := TX9) (N := 11) hx hb hts inX9 hown hK hP 0 rfl rfl 1 (by decide) lf19 (fun _ h9 => h9) rfl dX9_tooLike_6 ?_
    refine lv_iload_n hx hb dX9_tooLike_9 rfl (lv_at hl 1 rfl) ?_
    refine lv_iload_n hx hb dX9_tooLike_10 rfl (lv_at hl 2 rfl) ?_
    refine rdV (As := [.int th, .int ne]) (rest := []) ⟨hx, hb, hml, hown, hts⟩ (k_X2_shared l dC dI cI cZ cQ a mar th ne r_mar (by omega) (by omega) (by omega) (by omega)) (cwV 2 hts gX9_tooLike_X2_shared rfl rfl rfl (by decide +kernel) ⟨Nat.le_of_ble_eq_true rfl, Nat.le_of_ble_eq_true rfl⟩) hP hK hN [1, 2] rfl 1 2 rfl rfl rfl hl.1 rfl (Nat.le_of_ble_eq_true rfl) dX9_tooLike_11 ⟨Nat.le_of_ble_eq_true rfl, Nat.le_of_ble_eq_true rfl⟩ (fun r2 h3 => ?_)
    have h3 : (r2 = bc (mar th.toNatClampNeg &&& mar ne.toNatClampNeg)) := h3
    have h3_0 := h3
    refine lv_aload_n hx hb dX9_tooLike_14 rfl (lv_at hl 0 rfl) ?_
    refine va_get (D := (dC, dI)) (ci := 9) (v := .ref rb0) (C := RX9) (T := TX9) (N := 11) hx hb hts inX9 hown hK hP 0 rfl rfl 9 (by decide) lf76 (fun _ h9 => h9) rfl dX9_tooLike_15 ?_
    refine va_getN (D := (dC, dI)) (ci := 5) (v := .int apa) (C := RX5) (T := TX5) (N := 5) hx hb hts inX5 hown hK hP 3 rfl rfl 3 (by decide) lf297 (fun _ h9 => h9) rfl dX9_tooLike_18 ?_
    refine lv_icmp_le (tgt := 28) hx hb dX9_tooLike_21 (by decide) (fun c4 => ?_) (fun c4 => ?_)
    · have dc4 : r2.toInt ≤ apa.toInt := leC rfl rfl c4
      refine lv_iconst (v := 0) hx hb dX9_tooLike_28 (by decide) ?_
      exact W.zret (v := 0) hx hb hr (by decide) (fun tq ht hW => ⟨0, rfl, (Or.inr rfl), ht⟩) (fun q h => by cases h) dX9_tooLike_29
    · have dc4 : apa.toInt < r2.toInt := nleC rfl rfl c4
      refine lv_iconst (v := 1) hx hb dX9_tooLike_24 (by decide) ?_
      refine lv_goto (tgt := 29) hx hb dX9_tooLike_25 (by decide) ?_
      exact W.zret (v := 1) hx hb hr (by decide) (fun tq ht hW => ⟨1, rfl, (Or.inl rfl), ht⟩) (fun q h => by cases h) dX9_tooLike_29
set_option maxHeartbeats 4000000 in
set_option maxRecDepth 100000 in
theorem k_X9_barredByRoom (l : Launch) (dC : Nat → ClassId) (dI : Nat → Nat → Nat) (cI cZ cQ : ClassId) (a : Nat → Nat) (rb0 : Nat) (rb1 : Nat) (rb2 : Nat) (db0 : Nat) (db1 : Nat) (db2 : Nat) (top : Nat → Int32) (str : Nat → Int32) (gho : Nat → Int32) (ghs : Nat → Int32) (pto : Nat → Int32) (cro : Nat → Int32) (pla : Nat → Int32) (wal : Nat → Int32) (fal : Nat → Int32) (tel : Int32) (gai : Int32) (day : Int32) (mar : Nat → Int32) (mos : Nat → Int32) (wev : Nat → Int32) (aga : Int32) (apa : Int32) (lin : Int32) (co : Int32) (r_top : rg 48 (-1) (23) top) (r_str : rg 48 (0) (100) str) (r_gho : rg 48 (-1) (23) gho) (r_ghs : rg 48 (0) (100) ghs) (r_cro : rg 48 (0) (6) cro) (r_pla : rg 24 (-1) (47) pla) (r_fal : rg 11 (0) (30) fal) (r_gai : 0 ≤ gai.toInt ∧ gai.toInt ≤ 100) (r_day : 0 ≤ day.toInt ∧ day.toInt ≤ 400) (r_mar : rg 24 (0) (255) mar) (q0 : 0 ≤ co.toInt) (q1 : co.toInt ≤ 47) : KR l yX9_barredByRoom wsX9_barredByRoom { frames := 1, cells := 0, slots := 0, locals := 24 } (dC, dI) (TY cI cZ cQ) (wsCR cI cZ cQ a rb0 rb1 rb2 db0 db1 db2 top str gho ghs pto cro pla wal fal tel gai day mar mos wev aga apa lin) [.ref (a 43), .int co] (fun r : Int32 => ((((r = 1)) ∨ ((r = 0))))) := by
  refine Met.ofW (cc := cX9_barredByRoom) (maxL := 4) (ret := (some .boolean)) (by decide) rfl ?_
  intro p e s m args below meth c s₁ B hml hv
  obtain ⟨rfl, hP, hK, hN⟩ := hv
  have hx := B.exec
  have hb := B.bytes
  have hr := B.returns
  have hts := atoms_spec (ws := wsX9_barredByRoom) B.pre
  have hown : s.vm.findClass RX9 = some m.cls := findClass_of_methodNamed B.named
  have hlocks := B.notSynchronized
  have lf76 := hts (.fieldLink RX9 76 "PalaceOfRooms" "rules" "LPalaceOfRooms$RuleBook;") (by decide +kernel)
  have inX9 : ∀ w ∈ wsX90, w ∈ wsX9_barredByRoom := by decide +kernel
  have lf288 := hN.use (w := .fieldLinkNest "PalaceOfRooms" 288 "PalaceOfRooms$RuleBook" "mostIn" "[I" "PalaceOfRooms") (by decide +kernel) ([.ref (a 43), .int co] : List Value).toArray
  have inX5 : ∀ w ∈ wsX50, w ∈ wsX9_barredByRoom := by decide +kernel
  have lf28 := hts (.fieldLink RX9 28 "PalaceOfRooms" "corners" "LPalaceOfRooms$Corners;") (by decide +kernel)
  have hl := lv_entry ([.ref (a 43), .int co]) (n := 4) (Nat.le_of_ble_eq_true rfl)
  rw [lg_entry_eq]
  generalize (lg_sl ([.ref (a 43), .int co]) ++ List.replicate (4 - (lg_sl ([.ref (a 43), .int co])).length) Slot.unset).toArray = ls at hl ⊢
  have hl : lv_has ls 4 [(0, .ref (a 43)), (1, .int co)] := hl
  refine lv_iload_n hx hb dX9_barredByRoom_0 rfl (lv_at hl 1 rfl) ?_
  refine lv_bipush (v := 6) hx hb dX9_barredByRoom_1 (by decide) ?_
  refine lv_idiv hx hb dX9_barredByRoom_3 (by decide) ?_
  have f1 : (co / 6).toInt = (co.toInt) / (6) := divC rfl (show (6 : Int32).toInt = 6 from rfl) (by omega) (by omega)
  refine lv_topi (fun x2 ex2 => ?_)
  have ix2 : x2.toInt = (co.toInt) / (6) := by rw [ex2]; exact f1
  refine lv_istore_n (lv' := [(2, .int x2), (0, .ref (a 43)), (1, .int co)]) hx hb dX9_barredByRoom_4 rfl hl (by decide) rfl (fun ls hl => ?_)
  refine lv_aload_n hx hb dX9_barredByRoom_5 rfl (lv_at hl 1 rfl) ?_
  refine va_get (D := (dC, dI)) (ci := 9) (v := .ref rb0) (C := RX9) (T := TX9) (N := 11) hx hb hts inX9 hown hK hP 0 rfl rfl 9 (by decide) lf76 (fun _ h9 => h9) rfl dX9_barredByRoom_6 ?_
  refine va_getN (D := (dC, dI)) (ci := 5) (v := .ref rb1) (C := RX5) (T := TX5) (N := 5) hx hb hts inX5 hown hK hP 13 rfl rfl 0 (by decide) lf288 (fun _ h9 => h9) rfl dX9_barredByRoom_9 ?_
  refine lv_iload_n hx hb dX9_barredByRoom_12 rfl (lv_at hl 0 rfl) ?_
  have b3 : vp_in x2 8 := inC rfl (by omega) (by omega)
  refine va_iald hx hb hK hP 14 0 rfl rfl b3 dX9_barredByRoom_13 ?_
  refine lv_topi (fun x4 ex4 => ?_)
  have ix4 : x4.toInt = (mos x2.toNatClampNeg).toInt := by rw [ex4]
  refine lv_istore_n (lv' := [(3, .int x4), (2, .int x2), (0, .ref (a 43)), (1, .int co)]) hx hb dX9_barredByRoom_14 rfl hl (by decide) rfl (fun ls hl => ?_)
  refine lv_iload_n hx hb dX9_barredByRoom_15 rfl (lv_at hl 0 rfl) ?_
  refine lv_iconst (v := (-1)) hx hb dX9_barredByRoom_16 (by decide) ?_
  refine lv_icmp_eq (tgt := 36) hx hb dX9_barredByRoom_17 (by decide) (fun c5 => ?_) (fun c5 => ?_)
  · have dc5 : x4.toInt = (-1) := eqC rfl (show ((-1) : Int32).toInt = (-1) from rfl) c5
    refine lv_iconst (v := 0) hx hb dX9_barredByRoom_36 (by decide) ?_
    exact W.zret (v := 0) hx hb hr (by decide) (fun tq ht hW => ⟨0, rfl, (Or.inr rfl), ht⟩) (fun q h => by cases h) dX9_barredByRoom_37
  · have dc5 : x4.toInt ≠ (-1) := neC rfl (show ((-1) : Int32).toInt = (-1) from rfl) c5
    refine lv_aload_n hx hb dX9_barredByRoom_20 rfl (lv_at hl 2 rfl) ?_
    refine va_get (D := (dC, dI)) (ci := 9) (v := .ref (a 4)) (C := RX9) (T := TX9) (N := 11) hx hb hts inX9 hown hK hP 0 rfl rfl 2 (by decide) lf28 (fun _ h9 => h9) rfl dX9_barredByRoom_21 ?_
    refine lv_iload_n hx hb dX9_barredByRoom_24 rfl (lv_at hl 1 rfl) ?_
    refine rdV (As := [.int x2]) (rest := []) ⟨hx, hb, hml, hown, hts⟩ (k_X1_standingIn l dC dI cI cZ cQ a top str gho ghs pto cro pla wal fal tel gai day mar x2 r_top r_str r_gho r_ghs r_cro r_pla r_fal r_gai r_day r_mar (by omega) (by omega)) (cwV 1 hts gX9_barredByRoom_X1_standingIn rfl rfl rfl (by decide +kernel) ⟨Nat.le_of_ble_eq_true rfl, Nat.le_of_ble_eq_true rfl⟩) hP hK hN [1, 2, 3, 4, 5, 6, 7, 8, 9, 10, 11, 12] rfl 1 1 rfl rfl rfl hl.1 rfl (Nat.le_of_ble_eq_true rfl) dX9_barredByRoom_25 ⟨Nat.le_of_ble_eq_true rfl, Nat.le_of_ble_eq_true rfl⟩ (fun r6 h7 => ?_)
    have h7 : True := h7
    refine lv_iload_n hx hb dX9_barredByRoom_28 rfl (lv_at hl 0 rfl) ?_
    refine lv_icmp_lt (tgt := 36) hx hb dX9_barredByRoom_29 (by decide) (fun c8 => ?_) (fun c8 => ?_)
    · have dc8 : r6.toInt < x4.toInt := ltC rfl rfl c8
      refine lv_iconst (v := 0) hx hb dX9_barredByRoom_36 (by decide) ?_
      exact W.zret (v := 0) hx hb hr (by decide) (fun tq ht hW => ⟨0, rfl, (Or.inr rfl), ht⟩) (fun q h => by cases h) dX9_barredByRoom_37
    · have dc8 : x4.toInt ≤ r6.toInt := nltC rfl rfl c8
      refine lv_iconst (v := 1) hx hb dX9_barredByRoom_32 (by decide) ?_
      refine lv_goto (tgt := 37) hx hb dX9_barredByRoom_33 (by decide) ?_
      exact W.zret (v := 1) hx hb hr (by decide) (fun tq ht hW => ⟨1, rfl, (Or.inl rfl), ht⟩) (fun q h => by cases h) dX9_barredByRoom_37
set_option maxHeartbeats 4000000 in
set_option maxRecDepth 100000 in
theorem k_X9_barredByAgain (l : Launch) (dC : Nat → ClassId) (dI : Nat → Nat → Nat) (cI cZ cQ : ClassId) (a : Nat → Nat) (rb0 : Nat) (rb1 : Nat) (rb2 : Nat) (db0 : Nat) (db1 : Nat) (db2 : Nat) (top : Nat → Int32) (str : Nat → Int32) (gho : Nat → Int32) (ghs : Nat → Int32) (pto : Nat → Int32) (cro : Nat → Int32) (pla : Nat → Int32) (wal : Nat → Int32) (fal : Nat → Int32) (tel : Int32) (gai : Int32) (day : Int32) (mar : Nat → Int32) (mos : Nat → Int32) (wev : Nat → Int32) (aga : Int32) (apa : Int32) (lin : Int32) (co : Int32) (r_top : rg 48 (-1) (23) top) (r_str : rg 48 (0) (100) str) (r_gho : rg 48 (-1) (23) gho) (r_ghs : rg 48 (0) (100) ghs) (r_cro : rg 48 (0) (6) cro) (r_pla : rg 24 (-1) (47) pla) (r_fal : rg 11 (0) (30) fal) (r_gai : 0 ≤ gai.toInt ∧ gai.toInt ≤ 100) (r_day : 0 ≤ day.toInt ∧ day.toInt ≤ 400) (r_mar : rg 24 (0) (255) mar) (q0 : 0 ≤ co.toInt) (q1 : co.toInt ≤ 47) : KR l yX9_barredByAgain wsX9_barredByAgain { frames := 0, cells := 0, slots := 0, locals := 0 } (dC, dI) (TY cI cZ cQ) (wsCR cI cZ cQ a rb0 rb1 rb2 db0 db1 db2 top str gho ghs pto cro pla wal fal tel gai day mar mos wev aga apa lin) [.ref (a 43), .int co] (fun r : Int32 => ((((r = 1)) ∨ ((r = 0))))) := by
  refine Met.ofW (cc := cX9_barredByAgain) (maxL := 3) (ret := (some .boolean)) (by decide) rfl ?_
  intro p e s m args below meth c s₁ B hml hv
  obtain ⟨rfl, hP, hK, hN⟩ := hv
  have hx := B.exec
  have hb := B.bytes
  have hr := B.returns
  have hts := atoms_spec (ws := wsX9_barredByAgain) B.pre
  have hown : s.vm.findClass RX9 = some m.cls := findClass_of_methodNamed B.named
  have hlocks := B.notSynchronized
  have lf28 := hts (.fieldLink RX9 28 "PalaceOfRooms" "corners" "LPalaceOfRooms$Corners;") (by decide +kernel)
  have inX9 : ∀ w ∈ wsX90, w ∈ wsX9_barredByAgain := fun w h => List.mem_cons_of_mem _ (List.mem_append_left _ (List.mem_append_left _ (List.mem_append_right _ h)))
  have lf150 := hN.use (w := .fieldLinkNest "PalaceOfRooms" 150 "PalaceOfRooms$Corners" "putOn" "[I" "PalaceOfRooms") (by decide +kernel) ([.ref (a 43), .int co] : List Value).toArray
  have inX1 : ∀ w ∈ wsX10, w ∈ wsX9_barredByAgain := fun w h => List.mem_cons_of_mem _ (List.mem_append_left _ (List.mem_append_right _ h))
  have lf76 := hts (.fieldLink RX9 76 "PalaceOfRooms" "rules" "LPalaceOfRooms$RuleBook;") (by decide +kernel)
  have lf294 := hN.use (w := .fieldLinkNest "PalaceOfRooms" 294 "PalaceOfRooms$RuleBook" "again" "I" "PalaceOfRooms") (by decide +kernel) ([.ref (a 43), .int co] : List Value).toArray
  have inX5 : ∀ w ∈ wsX50, w ∈ wsX9_barredByAgain := fun w h => List.mem_cons_of_mem _ (List.mem_append_right _ h)
  have lf153 := hN.use (w := .fieldLinkNest "PalaceOfRooms" 153 "PalaceOfRooms$Corners" "day" "I" "PalaceOfRooms") (by decide +kernel) ([.ref (a 43), .int co] : List Value).toArray
  have hl := lv_entry ([.ref (a 43), .int co]) (n := 3) (Nat.le_of_ble_eq_true rfl)
  rw [lg_entry_eq]
  generalize (lg_sl ([.ref (a 43), .int co]) ++ List.replicate (3 - (lg_sl ([.ref (a 43), .int co])).length) Slot.unset).toArray = ls at hl ⊢
  have hl : lv_has ls 3 [(0, .ref (a 43)), (1, .int co)] := hl
  refine lv_aload_n hx hb dX9_barredByAgain_0 rfl (lv_at hl 0 rfl) ?_
  refine va_get (D := (dC, dI)) (ci := 9) (v := .ref (a 4)) (C := RX9) (T := TX9) (N := 11) hx hb hts inX9 hown hK hP 0 rfl rfl 2 (by decide) lf28 (fun _ h9 => h9) rfl dX9_barredByAgain_1 ?_
  refine va_getN (D := (dC, dI)) (ci := 1) (v := .ref (a 9)) (C := RX1) (T := TX1) (N := 13) hx hb hts inX1 hown hK hP 1 rfl rfl 5 (by decide) lf150 (fun _ h9 => h9) rfl dX9_barredByAgain_4 ?_
  refine lv_iload_n hx hb dX9_barredByAgain_7 rfl (lv_at hl 1 rfl) ?_
  have b1 : vp_in co 48 := inC rfl (by omega) (by omega)
  refine va_iald hx hb hK hP 6 0 rfl rfl b1 dX9_barredByAgain_8 ?_
  refine lv_topi (fun x2 ex2 => ?_)
  have ix2 : x2.toInt = (pto co.toNatClampNeg).toInt := by rw [ex2]
  refine lv_istore_n (lv' := [(2, .int x2), (0, .ref (a 43)), (1, .int co)]) hx hb dX9_barredByAgain_9 rfl hl (by decide) rfl (fun ls hl => ?_)
  refine lv_aload_n hx hb dX9_barredByAgain_10 rfl (lv_at hl 1 rfl) ?_
  refine va_get (D := (dC, dI)) (ci := 9) (v := .ref rb0) (C := RX9) (T := TX9) (N := 11) hx hb hts inX9 hown hK hP 0 rfl rfl 9 (by decide) lf76 (fun _ h9 => h9) rfl dX9_barredByAgain_11 ?_
  refine va_getN (D := (dC, dI)) (ci := 5) (v := .int aga) (C := RX5) (T := TX5) (N := 5) hx hb hts inX5 hown hK hP 13 rfl rfl 2 (by decide) lf294 (fun _ h9 => h9) rfl dX9_barredByAgain_14 ?_
  refine lv_iconst (v := (-1)) hx hb dX9_barredByAgain_17 (by decide) ?_
  refine lv_icmp_eq (tgt := 49) hx hb dX9_barredByAgain_18 (by decide) (fun c3 => ?_) (fun c3 => ?_)
  · have dc3 : aga.toInt = (-1) := eqC rfl (show ((-1) : Int32).toInt = (-1) from rfl) c3
    refine lv_iconst (v := 0) hx hb dX9_barredByAgain_49 (by decide) ?_
    exact W.zret (v := 0) hx hb hr (by decide) (fun tq ht hW => ⟨0, rfl, (Or.inr rfl), ht⟩) (fun q h => by cases h) dX9_barredByAgain_50
  · have dc3 : aga.toInt ≠ (-1) := neC rfl (show ((-1) : Int32).toInt = (-1) from rfl) c3
    refine lv_iload_n hx hb dX9_barredByAgain_21 rfl (lv_at hl 0 rfl) ?_
    refine lv_iconst (v := (-1)) hx hb dX9_barredByAgain_22 (by decide) ?_
    refine lv_icmp_eq (tgt := 49) hx hb dX9_barredByAgain_23 (by decide) (fun c4 => ?_) (fun c4 => ?_)
    · have dc4 : x2.toInt = (-1) := eqC rfl (show ((-1) : Int32).toInt = (-1) from rfl) c4
      refine lv_iconst (v := 0) hx hb dX9_barredByAgain_49 (by decide) ?_
      exact W.zret (v := 0) hx hb hr (by decide) (fun tq ht hW => ⟨0, rfl, (Or.inr rfl), ht⟩) (fun q h => by cases h) dX9_barredByAgain_50
    · have dc4 : x2.toInt ≠ (-1) := neC rfl (show ((-1) : Int32).toInt = (-1) from rfl) c4
      refine lv_aload_n hx hb dX9_barredByAgain_26 rfl (lv_at hl 1 rfl) ?_
      refine va_get (D := (dC, dI)) (ci := 9) (v := .ref (a 4)) (C := RX9) (T := TX9) (N := 11) hx hb hts inX9 hown hK hP 0 rfl rfl 2 (by decide) lf28 (fun _ h9 => h9) rfl dX9_barredByAgain_27 ?_
      refine va_getN (D := (dC, dI)) (ci := 1) (v := .int day) (C := RX1) (T := TX1) (N := 13) hx hb hts inX1 hown hK hP 1 rfl rfl 12 (by decide) lf153 (fun _ h9 => h9) rfl dX9_barredByAgain_30 ?_
      refine lv_iload_n hx hb dX9_barredByAgain_33 rfl (lv_at hl 0 rfl) ?_
      refine lv_isub hx hb dX9_barredByAgain_34 ?_
      refine lv_aload_n hx hb dX9_barredByAgain_35 rfl (lv_at hl 1 rfl) ?_
      refine va_get (D := (dC, dI)) (ci := 9) (v := .ref rb0) (C := RX9) (T := TX9) (N := 11) hx hb hts inX9 hown hK hP 0 rfl rfl 9 (by decide) lf76 (fun _ h9 => h9) rfl dX9_barredByAgain_36 ?_
      refine va_getN (D := (dC, dI)) (ci := 5) (v := .int aga) (C := RX5) (T := TX5) (N := 5) hx hb hts inX5 hown hK hP 13 rfl rfl 2 (by decide) lf294 (fun _ h9 => h9) rfl dX9_barredByAgain_39 ?_
      refine lv_icmp_ge (tgt := 49) hx hb dX9_barredByAgain_42 (by decide) (fun c5 => ?_) (fun c5 => ?_)
      · have dc5 : aga.toInt ≤ (day - x2).toInt := leC rfl rfl c5
        refine lv_iconst (v := 0) hx hb dX9_barredByAgain_49 (by decide) ?_
        exact W.zret (v := 0) hx hb hr (by decide) (fun tq ht hW => ⟨0, rfl, (Or.inr rfl), ht⟩) (fun q h => by cases h) dX9_barredByAgain_50
      · have dc5 : (day - x2).toInt < aga.toInt := nleC rfl rfl c5
        refine lv_iconst (v := 1) hx hb dX9_barredByAgain_45 (by decide) ?_
        refine lv_goto (tgt := 50) hx hb dX9_barredByAgain_46 (by decide) ?_
        exact W.zret (v := 1) hx hb hr (by decide) (fun tq ht hW => ⟨1, rfl, (Or.inl rfl), ht⟩) (fun q h => by cases h) dX9_barredByAgain_50
set_option maxHeartbeats 4000000 in
set_option maxRecDepth 100000 in
theorem k_X9_barredByApart (l : Launch) (dC : Nat → ClassId) (dI : Nat → Nat → Nat) (cI cZ cQ : ClassId) (a : Nat → Nat) (rb0 : Nat) (rb1 : Nat) (rb2 : Nat) (db0 : Nat) (db1 : Nat) (db2 : Nat) (top : Nat → Int32) (str : Nat → Int32) (gho : Nat → Int32) (ghs : Nat → Int32) (pto : Nat → Int32) (cro : Nat → Int32) (pla : Nat → Int32) (wal : Nat → Int32) (fal : Nat → Int32) (tel : Int32) (gai : Int32) (day : Int32) (mar : Nat → Int32) (mos : Nat → Int32) (wev : Nat → Int32) (aga : Int32) (apa : Int32) (lin : Int32) (th : Int32) (co : Int32) (r_top : rg 48 (-1) (23) top) (r_str : rg 48 (0) (100) str) (r_gho : rg 48 (-1) (23) gho) (r_ghs : rg 48 (0) (100) ghs) (r_cro : rg 48 (0) (6) cro) (r_pla : rg 24 (-1) (47) pla) (r_fal : rg 11 (0) (30) fal) (r_gai : 0 ≤ gai.toInt ∧ gai.toInt ≤ 100) (r_day : 0 ≤ day.toInt ∧ day.toInt ≤ 400) (r_mar : rg 24 (0) (255) mar) (q0 : 0 ≤ th.toInt) (q1 : th.toInt ≤ 23) (q2 : 0 ≤ co.toInt) (q3 : co.toInt ≤ 47) : KR l yX9_barredByApart wsX9_barredByApart { frames := 3, cells := 0, slots := 0, locals := 64 } (dC, dI) (TY cI cZ cQ) (wsCR cI cZ cQ a rb0 rb1 rb2 db0 db1 db2 top str gho ghs pto cro pla wal fal tel gai day mar mos wev aga apa lin) [.ref (a 43), .int th, .int co] (fun r : Int32 => ((((r = 1)) ∨ ((r = 0))))) := by
  refine Met.ofW (cc := cX9_barredByApart) (maxL := 4) (ret := (some .boolean)) (by decide) rfl ?_
  intro p e s m args below meth c s₁ B hml hv
  obtain ⟨rfl, hP, hK, hN⟩ := hv
  have hx := B.exec
  have hb := B.bytes
  have hr := B.returns
  have hts := atoms_spec (ws := wsX9_barredByApart) B.pre
  have hown : s.vm.findClass RX9 = some m.cls := findClass_of_methodNamed B.named
  have hlocks := B.notSynchronized
  have lf76 := hts (.fieldLink RX9 76 "PalaceOfRooms" "rules" "LPalaceOfRooms$RuleBook;") (by decide +kernel)
  have inX9 : ∀ w ∈ wsX90, w ∈ wsX9_barredByApart := by decide +kernel
  have lf297 := hN.use (w := .fieldLinkNest "PalaceOfRooms" 297 "PalaceOfRooms$RuleBook" "apart" "I" "PalaceOfRooms") (by decide +kernel) ([.ref (a 43), .int th, .int co] : List Value).toArray
  have inX5 : ∀ w ∈ wsX50, w ∈ wsX9_barredByApart := by decide +kernel
  have lf28 := hts (.fieldLink RX9 28 "PalaceOfRooms" "corners" "LPalaceOfRooms$Corners;") (by decide +kernel)
  have lf131 := hN.use (w := .fieldLinkNest "PalaceOfRooms" 131 "PalaceOfRooms$Corners" "top" "[I" "PalaceOfRooms") (by decide +kernel) ([.ref (a 43), .int th, .int co] : List Value).toArray
  have inX1 : ∀ w ∈ wsX10, w ∈ wsX9_barredByApart := by decide +kernel
  have hl := lv_entry ([.ref (a 43), .int th, .int co]) (n := 4) (Nat.le_of_ble_eq_true rfl)
  rw [lg_entry_eq]
  generalize (lg_sl ([.ref (a 43), .int th, .int co]) ++ List.replicate (4 - (lg_sl ([.ref (a 43), .int th, .int co])).length) Slot.unset).toArray = ls at hl ⊢
  have hl : lv_has ls 4 [(0, .ref (a 43)), (1, .int th), (2, .int co)] := hl
  refine lv_aload_n hx hb dX9_barredByApart_0 rfl (lv_at hl 0 rfl) ?_
  refine va_get (D := (dC, dI)) (ci := 9) (v := .ref rb0) (C := RX9) (T := TX9) (N := 11) hx hb hts inX9 hown hK hP 0 rfl rfl 9 (by decide) lf76 (fun _ h9 => h9) rfl dX9_barredByApart_1 ?_
  refine va_getN (D := (dC, dI)) (ci := 5) (v := .int apa) (C := RX5) (T := TX5) (N := 5) hx hb hts inX5 hown hK hP 13 rfl rfl 3 (by decide) lf297 (fun _ h9 => h9) rfl dX9_barredByApart_4 ?_
  refine lv_iconst (v := (-1)) hx hb dX9_barredByApart_7 (by decide) ?_
  refine lv_icmp_ne (tgt := 13) hx hb dX9_barredByApart_8 (by decide) (fun c1 => ?_) (fun c1 => ?_)
  · have dc1 : apa.toInt ≠ (-1) := neC rfl (show ((-1) : Int32).toInt = (-1) from rfl) c1
    refine lv_iload_n hx hb dX9_barredByApart_13 rfl (lv_at hl 2 rfl) ?_
    refine lv_bipush (v := 6) hx hb dX9_barredByApart_14 (by decide) ?_
    refine lv_irem hx hb dX9_barredByApart_16 (by decide) ?_
    have f2 : (co - co / 6 * 6).toInt = (co.toInt) % (6) := remC rfl (show (6 : Int32).toInt = 6 from rfl) (by omega) (by omega)
    refine lv_topi (fun x3 ex3 => ?_)
    have ix3 : x3.toInt = (co.toInt) % (6) := by rw [ex3]; exact f2
    refine lv_istore_n (lv' := [(3, .int x3), (0, .ref (a 43)), (1, .int th), (2, .int co)]) hx hb dX9_barredByApart_17 rfl hl (by decide) rfl (fun ls hl => ?_)
    refine lv_iload_n hx hb dX9_barredByApart_18 rfl (lv_at hl 0 rfl) ?_
    refine lv_if_le (tgt := 41) hx hb dX9_barredByApart_19 (by decide) (fun c4 => ?_) (fun c4 => ?_)
    · have dc4 : x3.toInt ≤ 0 := leC rfl (show (0 : Int32).toInt = 0 from rfl) c4
      refine lv_iload_n hx hb dX9_barredByApart_41 rfl (lv_at hl 0 rfl) ?_
      refine lv_iconst (v := 5) hx hb dX9_barredByApart_42 (by decide) ?_
      refine lv_icmp_ge (tgt := 69) hx hb dX9_barredByApart_43 (by decide) (fun c5 => ?_) (fun c5 => ?_)
      · have dc5 : 5 ≤ x3.toInt := leC (show (5 : Int32).toInt = 5 from rfl) rfl c5
        exfalso
        omega
      · have dc5 : x3.toInt < 5 := nleC (show (5 : Int32).toInt = 5 from rfl) rfl c5
        refine lv_aload_n hx hb dX9_barredByApart_46 rfl (lv_at hl 1 rfl) ?_
        refine lv_iload_n hx hb dX9_barredByApart_47 rfl (lv_at hl 2 rfl) ?_
        refine lv_aload_n hx hb dX9_barredByApart_48 rfl (lv_at hl 1 rfl) ?_
        refine va_get (D := (dC, dI)) (ci := 9) (v := .ref (a 4)) (C := RX9) (T := TX9) (N := 11) hx hb hts inX9 hown hK hP 0 rfl rfl 2 (by decide) lf28 (fun _ h9 => h9) rfl dX9_barredByApart_49 ?_
        refine va_getN (D := (dC, dI)) (ci := 1) (v := .ref (a 5)) (C := RX1) (T := TX1) (N := 13) hx hb hts inX1 hown hK hP 1 rfl rfl 1 (by decide) lf131 (fun _ h9 => h9) rfl dX9_barredByApart_52 ?_
        refine lv_iload_n hx hb dX9_barredByApart_55 rfl (lv_at hl 3 rfl) ?_
        refine lv_iconst (v := 1) hx hb dX9_barredByApart_56 (by decide) ?_
        refine lv_iadd hx hb dX9_barredByApart_57 ?_
        have f6 : (co + 1).toInt = (co.toInt) + (1) := addC rfl (show (1 : Int32).toInt = 1 from rfl) (by omega) (by omega)
        have b7 : vp_in (co + 1) 48 := inC f6 (by omega) (by omega)
        refine va_iald hx hb hK hP 2 0 rfl rfl b7 dX9_barredByApart_58 ?_
        have g8 : -1 ≤ (top (co + 1).toNatClampNeg).toInt ∧ (top (co + 1).toNatClampNeg).toInt ≤ 23 := rg_at r_top b7
        refine rdV (As := [.int th, .int (top (co + 1).toNatClampNeg)]) (rest := []) ⟨hx, hb, hml, hown, hts⟩ (k_X9_tooLike l dC dI cI cZ cQ a rb0 rb1 rb2 db0 db1 db2 mar mos wev aga apa lin th (top (co + 1).toNatClampNeg) r_mar (by omega) (by omega) (by omega) (by omega)) (cwV 2 hts gX9_barredByApart_X9_tooLike rfl rfl rfl (by decide +kernel) ⟨Nat.le_of_ble_eq_true rfl, Nat.le_of_ble_eq_true rfl⟩) hP hK hN [0, 11, 12, 13, 14, 15] rfl 0 9 rfl rfl rfl hl.1 rfl (Nat.le_of_ble_eq_true rfl) dX9_barredByApart_59 ⟨Nat.le_of_ble_eq_true rfl, Nat.le_of_ble_eq_true rfl⟩ (fun r9 h10 => ?_)
        have h10 : ((((r9 = 1)) ∨ ((r9 = 0)))) := h10
        rcases h10 with (rfl | rfl)
        · refine lv_if_eq (tgt := 69) hx hb dX9_barredByApart_62 (by decide) (fun c9 => absurd c9 (by decide)) (fun _ => ?_)
          refine lv_iconst (v := 1) hx hb dX9_barredByApart_65 (by decide) ?_
          refine lv_goto (tgt := 70) hx hb dX9_barredByApart_66 (by decide) ?_
          exact W.zret (v := 1) hx hb hr (by decide) (fun tq ht hW => ⟨1, rfl, (Or.inl rfl), ht⟩) (fun q h => by cases h) dX9_barredByApart_70
        · refine lv_if_eq (tgt := 69) hx hb dX9_barredByApart_62 (by decide) (fun _ => ?_) (fun c9 => absurd (by decide) c9)
          refine lv_iconst (v := 0) hx hb dX9_barredByApart_69 (by decide) ?_
          exact W.zret (v := 0) hx hb hr (by decide) (fun tq ht hW => ⟨0, rfl, (Or.inr rfl), ht⟩) (fun q h => by cases h) dX9_barredByApart_70
    · have dc4 : 0 < x3.toInt := nleC rfl (show (0 : Int32).toInt = 0 from rfl) c4
      refine lv_aload_n hx hb dX9_barredByApart_22 rfl (lv_at hl 1 rfl) ?_
      refine lv_iload_n hx hb dX9_barredByApart_23 rfl (lv_at hl 2 rfl) ?_
      refine lv_aload_n hx hb dX9_barredByApart_24 rfl (lv_at hl 1 rfl) ?_
      refine va_get (D := (dC, dI)) (ci := 9) (v := .ref (a 4)) (C := RX9) (T := TX9) (N := 11) hx hb hts inX9 hown hK hP 0 rfl rfl 2 (by decide) lf28 (fun _ h9 => h9) rfl dX9_barredByApart_25 ?_
      refine va_getN (D := (dC, dI)) (ci := 1) (v := .ref (a 5)) (C := RX1) (T := TX1) (N := 13) hx hb hts inX1 hown hK hP 1 rfl rfl 1 (by decide) lf131 (fun _ h9 => h9) rfl dX9_barredByApart_28 ?_
      refine lv_iload_n hx hb dX9_barredByApart_31 rfl (lv_at hl 3 rfl) ?_
      refine lv_iconst (v := 1) hx hb dX9_barredByApart_32 (by decide) ?_
      refine lv_isub hx hb dX9_barredByApart_33 ?_
      have f11 : (co - 1).toInt = (co.toInt) - (1) := subC rfl (show (1 : Int32).toInt = 1 from rfl) (by omega) (by omega)
      have b12 : vp_in (co - 1) 48 := inC f11 (by omega) (by omega)
      refine va_iald hx hb hK hP 2 0 rfl rfl b12 dX9_barredByApart_34 ?_
      have g13 : -1 ≤ (top (co - 1).toNatClampNeg).toInt ∧ (top (co - 1).toNatClampNeg).toInt ≤ 23 := rg_at r_top b12
      refine rdV (As := [.int th, .int (top (co - 1).toNatClampNeg)]) (rest := []) ⟨hx, hb, hml, hown, hts⟩ (k_X9_tooLike l dC dI cI cZ cQ a rb0 rb1 rb2 db0 db1 db2 mar mos wev aga apa lin th (top (co - 1).toNatClampNeg) r_mar (by omega) (by omega) (by omega) (by omega)) (cwV 2 hts gX9_barredByApart_X9_tooLike rfl rfl rfl (by decide +kernel) ⟨Nat.le_of_ble_eq_true rfl, Nat.le_of_ble_eq_true rfl⟩) hP hK hN [0, 11, 12, 13, 14, 15] rfl 0 9 rfl rfl rfl hl.1 rfl (Nat.le_of_ble_eq_true rfl) dX9_barredByApart_35 ⟨Nat.le_of_ble_eq_true rfl, Nat.le_of_ble_eq_true rfl⟩ (fun r14 h15 => ?_)
      have h15 : ((((r14 = 1)) ∨ ((r14 = 0)))) := h15
      rcases h15 with (rfl | rfl)
      · refine lv_if_ne (tgt := 65) hx hb dX9_barredByApart_38 (by decide) (fun _ => ?_) (fun c9 => absurd c9 (by decide))
        refine lv_iconst (v := 1) hx hb dX9_barredByApart_65 (by decide) ?_
        refine lv_goto (tgt := 70) hx hb dX9_barredByApart_66 (by decide) ?_
        exact W.zret (v := 1) hx hb hr (by decide) (fun tq ht hW => ⟨1, rfl, (Or.inl rfl), ht⟩) (fun q h => by cases h) dX9_barredByApart_70
      · refine lv_if_ne (tgt := 65) hx hb dX9_barredByApart_38 (by decide) (fun c9 => absurd (by decide) c9) (fun _ => ?_)
        refine lv_iload_n hx hb dX9_barredByApart_41 rfl (lv_at hl 0 rfl) ?_
        refine lv_iconst (v := 5) hx hb dX9_barredByApart_42 (by decide) ?_
        refine lv_icmp_ge (tgt := 69) hx hb dX9_barredByApart_43 (by decide) (fun c16 => ?_) (fun c16 => ?_)
        · have dc16 : 5 ≤ x3.toInt := leC (show (5 : Int32).toInt = 5 from rfl) rfl c16
          refine lv_iconst (v := 0) hx hb dX9_barredByApart_69 (by decide) ?_
          exact W.zret (v := 0) hx hb hr (by decide) (fun tq ht hW => ⟨0, rfl, (Or.inr rfl), ht⟩) (fun q h => by cases h) dX9_barredByApart_70
        · have dc16 : x3.toInt < 5 := nleC (show (5 : Int32).toInt = 5 from rfl) rfl c16
          refine lv_aload_n hx hb dX9_barredByApart_46 rfl (lv_at hl 1 rfl) ?_
          refine lv_iload_n hx hb dX9_barredByApart_47 rfl (lv_at hl 2 rfl) ?_
          refine lv_aload_n hx hb dX9_barredByApart_48 rfl (lv_at hl 1 rfl) ?_
          refine va_get (D := (dC, dI)) (ci := 9) (v := .ref (a 4)) (C := RX9) (T := TX9) (N := 11) hx hb hts inX9 hown hK hP 0 rfl rfl 2 (by decide) lf28 (fun _ h9 => h9) rfl dX9_barredByApart_49 ?_
          refine va_getN (D := (dC, dI)) (ci := 1) (v := .ref (a 5)) (C := RX1) (T := TX1) (N := 13) hx hb hts inX1 hown hK hP 1 rfl rfl 1 (by decide) lf131 (fun _ h9 => h9) rfl dX9_barredByApart_52 ?_
          refine lv_iload_n hx hb dX9_barredByApart_55 rfl (lv_at hl 3 rfl) ?_
          refine lv_iconst (v := 1) hx hb dX9_barredByApart_56 (by decide) ?_
          refine lv_iadd hx hb dX9_barredByApart_57 ?_
          have f17 : (co + 1).toInt = (co.toInt) + (1) := addC rfl (show (1 : Int32).toInt = 1 from rfl) (by omega) (by omega)
          have b18 : vp_in (co + 1) 48 := inC f17 (by omega) (by omega)
          refine va_iald hx hb hK hP 2 0 rfl rfl b18 dX9_barredByApart_58 ?_
          have g19 : -1 ≤ (top (co + 1).toNatClampNeg).toInt ∧ (top (co + 1).toNatClampNeg).toInt ≤ 23 := rg_at r_top b18
          refine rdV (As := [.int th, .int (top (co + 1).toNatClampNeg)]) (rest := []) ⟨hx, hb, hml, hown, hts⟩ (k_X9_tooLike l dC dI cI cZ cQ a rb0 rb1 rb2 db0 db1 db2 mar mos wev aga apa lin th (top (co + 1).toNatClampNeg) r_mar (by omega) (by omega) (by omega) (by omega)) (cwV 2 hts gX9_barredByApart_X9_tooLike rfl rfl rfl (by decide +kernel) ⟨Nat.le_of_ble_eq_true rfl, Nat.le_of_ble_eq_true rfl⟩) hP hK hN [0, 11, 12, 13, 14, 15] rfl 0 9 rfl rfl rfl hl.1 rfl (Nat.le_of_ble_eq_true rfl) dX9_barredByApart_59 ⟨Nat.le_of_ble_eq_true rfl, Nat.le_of_ble_eq_true rfl⟩ (fun r20 h21 => ?_)
          have h21 : ((((r20 = 1)) ∨ ((r20 = 0)))) := h21
          rcases h21 with (rfl | rfl)
          · refine lv_if_eq (tgt := 69) hx hb dX9_barredByApart_62 (by decide) (fun c9 => absurd c9 (by decide)) (fun _ => ?_)
            refine lv_iconst (v := 1) hx hb dX9_barredByApart_65 (by decide) ?_
            refine lv_goto (tgt := 70) hx hb dX9_barredByApart_66 (by decide) ?_
            exact W.zret (v := 1) hx hb hr (by decide) (fun tq ht hW => ⟨1, rfl, (Or.inl rfl), ht⟩) (fun q h => by cases h) dX9_barredByApart_70
          · refine lv_if_eq (tgt := 69) hx hb dX9_barredByApart_62 (by decide) (fun _ => ?_) (fun c9 => absurd (by decide) c9)
            refine lv_iconst (v := 0) hx hb dX9_barredByApart_69 (by decide) ?_
            exact W.zret (v := 0) hx hb hr (by decide) (fun tq ht hW => ⟨0, rfl, (Or.inr rfl), ht⟩) (fun q h => by cases h) dX9_barredByApart_70
  · have dc1 : apa.toInt = (-1) := eqC rfl (show ((-1) : Int32).toInt = (-1) from rfl) c1
    refine lv_iconst (v := 0) hx hb dX9_barredByApart_11 (by decide) ?_
    exact W.zret (v := 0) hx hb hr (by decide) (fun tq ht hW => ⟨0, rfl, (Or.inr rfl), ht⟩) (fun q h => by cases h) dX9_barredByApart_12
set_option maxHeartbeats 4000000 in
set_option maxRecDepth 100000 in
theorem k_X9_isDue (l : Launch) (dC : Nat → ClassId) (dI : Nat → Nat → Nat) (cI cZ cQ : ClassId) (a : Nat → Nat) (rb0 : Nat) (rb1 : Nat) (rb2 : Nat) (db0 : Nat) (db1 : Nat) (db2 : Nat) (top : Nat → Int32) (str : Nat → Int32) (gho : Nat → Int32) (ghs : Nat → Int32) (pto : Nat → Int32) (cro : Nat → Int32) (pla : Nat → Int32) (wal : Nat → Int32) (fal : Nat → Int32) (tel : Int32) (gai : Int32) (day : Int32) (mar : Nat → Int32) (mos : Nat → Int32) (wev : Nat → Int32) (aga : Int32) (apa : Int32) (lin : Int32) (ro : Int32) (r_top : rg 48 (-1) (23) top) (r_str : rg 48 (0) (100) str) (r_gho : rg 48 (-1) (23) gho) (r_ghs : rg 48 (0) (100) ghs) (r_cro : rg 48 (0) (6) cro) (r_pla : rg 24 (-1) (47) pla) (r_fal : rg 11 (0) (30) fal) (r_gai : 0 ≤ gai.toInt ∧ gai.toInt ≤ 100) (r_day : 0 ≤ day.toInt ∧ day.toInt ≤ 400) (r_mar : rg 24 (0) (255) mar) (q0 : 0 ≤ ro.toInt) (q1 : ro.toInt ≤ 7) : KR l yX9_isDue wsX9_isDue { frames := 0, cells := 0, slots := 0, locals := 0 } (dC, dI) (TY cI cZ cQ) (wsCR cI cZ cQ a rb0 rb1 rb2 db0 db1 db2 top str gho ghs pto cro pla wal fal tel gai day mar mos wev aga apa lin) [.ref (a 43), .int ro] (fun r : Int32 => ((((r = 1)) ∨ ((r = 0))))) := by
  refine Met.ofW (cc := cX9_isDue) (maxL := 4) (ret := (some .boolean)) (by decide) rfl ?_
  intro p e s m args below meth c s₁ B hml hv
  obtain ⟨rfl, hP, hK, hN⟩ := hv
  have hx := B.exec
  have hb := B.bytes
  have hr := B.returns
  have hts := atoms_spec (ws := wsX9_isDue) B.pre
  have hown : s.vm.findClass RX9 = some m.cls := findClass_of_methodNamed B.named
  have hlocks := B.notSynchronized
  have lf76 := hts (.fieldLink RX9 76 "PalaceOfRooms" "rules" "LPalaceOfRooms$RuleBook;") (by decide +kernel)
  have inX9 : ∀ w ∈ wsX90, w ∈ wsX9_isDue := fun w h => List.mem_cons_of_mem _ (List.mem_append_left _ (List.mem_append_left _ (List.mem_append_right _ h)))
  have lf303 := hN.use (w := .fieldLinkNest "PalaceOfRooms" 303 "PalaceOfRooms$RuleBook" "walkEvery" "[I" "PalaceOfRooms") (by decide +kernel) ([.ref (a 43), .int ro] : List Value).toArray
  have inX5 : ∀ w ∈ wsX50, w ∈ wsX9_isDue := fun w h => List.mem_cons_of_mem _ (List.mem_append_left _ (List.mem_append_right _ h))
  have lf28 := hts (.fieldLink RX9 28 "PalaceOfRooms" "corners" "LPalaceOfRooms$Corners;") (by decide +kernel)
  have lf306 := hN.use (w := .fieldLinkNest "PalaceOfRooms" 306 "PalaceOfRooms$Corners" "walkedOn" "[I" "PalaceOfRooms") (by decide +kernel) ([.ref (a 43), .int ro] : List Value).toArray
  have inX1 : ∀ w ∈ wsX10, w ∈ wsX9_isDue := fun w h => List.mem_cons_of_mem _ (List.mem_append_right _ h)
  have lf153 := hN.use (w := .fieldLinkNest "PalaceOfRooms" 153 "PalaceOfRooms$Corners" "day" "I" "PalaceOfRooms") (by decide +kernel) ([.ref (a 43), .int ro] : List Value).toArray
  have hl := lv_entry ([.ref (a 43), .int ro]) (n := 4) (Nat.le_of_ble_eq_true rfl)
  rw [lg_entry_eq]
  generalize (lg_sl ([.ref (a 43), .int ro]) ++ List.replicate (4 - (lg_sl ([.ref (a 43), .int ro])).length) Slot.unset).toArray = ls at hl ⊢
  have hl : lv_has ls 4 [(0, .ref (a 43)), (1, .int ro)] := hl
  refine lv_aload_n hx hb dX9_isDue_0 rfl (lv_at hl 0 rfl) ?_
  refine va_get (D := (dC, dI)) (ci := 9) (v := .ref rb0) (C := RX9) (T := TX9) (N := 11) hx hb hts inX9 hown hK hP 0 rfl rfl 9 (by decide) lf76 (fun _ h9 => h9) rfl dX9_isDue_1 ?_
  refine va_getN (D := (dC, dI)) (ci := 5) (v := .ref rb2) (C := RX5) (T := TX5) (N := 5) hx hb hts inX5 hown hK hP 13 rfl rfl 1 (by decide) lf303 (fun _ h9 => h9) rfl dX9_isDue_4 ?_
  refine lv_iload_n hx hb dX9_isDue_7 rfl (lv_at hl 1 rfl) ?_
  have b1 : vp_in ro 8 := inC rfl (by omega) (by omega)
  refine va_iald hx hb hK hP 15 0 rfl rfl b1 dX9_isDue_8 ?_
  refine lv_topi (fun x2 ex2 => ?_)
  have ix2 : x2.toInt = (wev ro.toNatClampNeg).toInt := by rw [ex2]
  refine lv_istore_n (lv' := [(2, .int x2), (0, .ref (a 43)), (1, .int ro)]) hx hb dX9_isDue_9 rfl hl (by decide) rfl (fun ls hl => ?_)
  refine lv_aload_n hx hb dX9_isDue_10 rfl (lv_at hl 1 rfl) ?_
  refine va_get (D := (dC, dI)) (ci := 9) (v := .ref (a 4)) (C := RX9) (T := TX9) (N := 11) hx hb hts inX9 hown hK hP 0 rfl rfl 2 (by decide) lf28 (fun _ h9 => h9) rfl dX9_isDue_11 ?_
  refine va_getN (D := (dC, dI)) (ci := 1) (v := .ref (a 12)) (C := RX1) (T := TX1) (N := 13) hx hb hts inX1 hown hK hP 1 rfl rfl 8 (by decide) lf306 (fun _ h9 => h9) rfl dX9_isDue_14 ?_
  refine lv_iload_n hx hb dX9_isDue_17 rfl (lv_at hl 2 rfl) ?_
  have b3 : vp_in ro 8 := inC rfl (by omega) (by omega)
  refine va_iald hx hb hK hP 9 0 rfl rfl b3 dX9_isDue_18 ?_
  refine lv_topi (fun x4 ex4 => ?_)
  have ix4 : x4.toInt = (wal ro.toNatClampNeg).toInt := by rw [ex4]
  refine lv_istore_n (lv' := [(3, .int x4), (2, .int x2), (0, .ref (a 43)), (1, .int ro)]) hx hb dX9_isDue_19 rfl hl (by decide) rfl (fun ls hl => ?_)
  refine lv_iload_n hx hb dX9_isDue_20 rfl (lv_at hl 1 rfl) ?_
  refine lv_iconst (v := (-1)) hx hb dX9_isDue_21 (by decide) ?_
  refine lv_icmp_eq (tgt := 47) hx hb dX9_isDue_22 (by decide) (fun c5 => ?_) (fun c5 => ?_)
  · have dc5 : x2.toInt = (-1) := eqC rfl (show ((-1) : Int32).toInt = (-1) from rfl) c5
    refine lv_iconst (v := 0) hx hb dX9_isDue_47 (by decide) ?_
    exact W.zret (v := 0) hx hb hr (by decide) (fun tq ht hW => ⟨0, rfl, (Or.inr rfl), ht⟩) (fun q h => by cases h) dX9_isDue_48
  · have dc5 : x2.toInt ≠ (-1) := neC rfl (show ((-1) : Int32).toInt = (-1) from rfl) c5
    refine lv_iload_n hx hb dX9_isDue_25 rfl (lv_at hl 0 rfl) ?_
    refine lv_iconst (v := (-1)) hx hb dX9_isDue_26 (by decide) ?_
    refine lv_icmp_eq (tgt := 43) hx hb dX9_isDue_27 (by decide) (fun c6 => ?_) (fun c6 => ?_)
    · have dc6 : x4.toInt = (-1) := eqC rfl (show ((-1) : Int32).toInt = (-1) from rfl) c6
      refine lv_iconst (v := 1) hx hb dX9_isDue_43 (by decide) ?_
      refine lv_goto (tgt := 48) hx hb dX9_isDue_44 (by decide) ?_
      exact W.zret (v := 1) hx hb hr (by decide) (fun tq ht hW => ⟨1, rfl, (Or.inl rfl), ht⟩) (fun q h => by cases h) dX9_isDue_48
    · have dc6 : x4.toInt ≠ (-1) := neC rfl (show ((-1) : Int32).toInt = (-1) from rfl) c6
      refine lv_aload_n hx hb dX9_isDue_30 rfl (lv_at hl 2 rfl) ?_
      refine va_get (D := (dC, dI)) (ci := 9) (v := .ref (a 4)) (C := RX9) (T := TX9) (N := 11) hx hb hts inX9 hown hK hP 0 rfl rfl 2 (by decide) lf28 (fun _ h9 => h9) rfl dX9_isDue_31 ?_
      refine va_getN (D := (dC, dI)) (ci := 1) (v := .int day) (C := RX1) (T := TX1) (N := 13) hx hb hts inX1 hown hK hP 1 rfl rfl 12 (by decide) lf153 (fun _ h9 => h9) rfl dX9_isDue_34 ?_
      refine lv_iload_n hx hb dX9_isDue_37 rfl (lv_at hl 0 rfl) ?_
      refine lv_isub hx hb dX9_isDue_38 ?_
      refine lv_iload_n hx hb dX9_isDue_39 rfl (lv_at hl 1 rfl) ?_
      refine lv_icmp_lt (tgt := 47) hx hb dX9_isDue_40 (by decide) (fun c7 => ?_) (fun c7 => ?_)
      · have dc7 : (day - x4).toInt < x2.toInt := ltC rfl rfl c7
        refine lv_iconst (v := 0) hx hb dX9_isDue_47 (by decide) ?_
        exact W.zret (v := 0) hx hb hr (by decide) (fun tq ht hW => ⟨0, rfl, (Or.inr rfl), ht⟩) (fun q h => by cases h) dX9_isDue_48
      · have dc7 : x2.toInt ≤ (day - x4).toInt := nltC rfl rfl c7
        refine lv_iconst (v := 1) hx hb dX9_isDue_43 (by decide) ?_
        refine lv_goto (tgt := 48) hx hb dX9_isDue_44 (by decide) ?_
        exact W.zret (v := 1) hx hb hr (by decide) (fun tq ht hW => ⟨1, rfl, (Or.inl rfl), ht⟩) (fun q h => by cases h) dX9_isDue_48
set_option maxHeartbeats 4000000 in
set_option maxRecDepth 100000 in
theorem k_X9_bars (l : Launch) (dC : Nat → ClassId) (dI : Nat → Nat → Nat) (cI cZ cQ : ClassId) (a : Nat → Nat) (rb0 : Nat) (rb1 : Nat) (rb2 : Nat) (db0 : Nat) (db1 : Nat) (db2 : Nat) (top : Nat → Int32) (str : Nat → Int32) (gho : Nat → Int32) (ghs : Nat → Int32) (pto : Nat → Int32) (cro : Nat → Int32) (pla : Nat → Int32) (wal : Nat → Int32) (fal : Nat → Int32) (tel : Int32) (gai : Int32) (day : Int32) (mar : Nat → Int32) (mos : Nat → Int32) (wev : Nat → Int32) (aga : Int32) (apa : Int32) (lin : Int32) (th : Int32) (co : Int32) (r_top : rg 48 (-1) (23) top) (r_str : rg 48 (0) (100) str) (r_gho : rg 48 (-1) (23) gho) (r_ghs : rg 48 (0) (100) ghs) (r_cro : rg 48 (0) (6) cro) (r_pla : rg 24 (-1) (47) pla) (r_fal : rg 11 (0) (30) fal) (r_gai : 0 ≤ gai.toInt ∧ gai.toInt ≤ 100) (r_day : 0 ≤ day.toInt ∧ day.toInt ≤ 400) (r_mar : rg 24 (0) (255) mar) : KR l yX9_bars wsX9_bars { frames := 4, cells := 0, slots := 0, locals := 87 } (dC, dI) (TY cI cZ cQ) (wsCR cI cZ cQ a rb0 rb1 rb2 db0 db1 db2 top str gho ghs pto cro pla wal fal tel gai day mar mos wev aga apa lin) [.ref (a 43), .int th, .int co] (fun r : Int32 => True) := by
  refine Met.ofW (cc := cX9_bars) (maxL := 4) (ret := (some .int)) (by decide) rfl ?_
  intro p e s m args below meth c s₁ B hml hv
  obtain ⟨rfl, hP, hK, hN⟩ := hv
  have hx := B.exec
  have hb := B.bytes
  have hr := B.returns
  have hts := atoms_spec (ws := wsX9_bars) B.pre
  have hown : s.vm.findClass RX9 = some m.cls := findClass_of_methodNamed B.named
  have hlocks := B.notSynchronized
  have hl := lv_entry ([.ref (a 43), .int th, .int co]) (n := 4) (Nat.le_of_ble_eq_true rfl)
  rw [lg_entry_eq]
  generalize (lg_sl ([.ref (a 43), .int th, .int co]) ++ List.replicate (4 - (lg_sl ([.ref (a 43), .int th, .int co])).length) Slot.unset).toArray = ls at hl ⊢
  have hl : lv_has ls 4 [(0, .ref (a 43)), (1, .int th), (2, .int co)] := hl
  refine lv_iload_n hx hb dX9_bars_0 rfl (lv_at hl 1 rfl) ?_
  refine rdS (As := [.int th]) (rest := []) ⟨hx, hb, hml, hown, hts⟩ (k_X9_isThing l dC dI cI cZ cQ th) (va_cwS 1 hts gX9_bars_X9_isThing rfl rfl rfl (by decide +kernel) ⟨Nat.le_of_ble_eq_true rfl, Nat.le_of_ble_eq_true rfl⟩) hP hK hN [] rfl rfl hl.1 rfl (Nat.le_of_ble_eq_true rfl) dX9_bars_1 ⟨Nat.le_of_ble_eq_true rfl, Nat.le_of_ble_eq_true rfl⟩ (fun r1 h2 => ?_)
  have h2 : ((((r1 = 1) ∧ (0 ≤ th.toInt) ∧ (th.toInt ≤ 23)) ∨ ((r1 = 0) ∧ (th.toInt < 0 ∨ 23 < th.toInt)))) := h2
  rcases h2 with (⟨rfl, h2_a0, h2_a1⟩ | ⟨rfl, h2_a0⟩)
  · refine lv_if_eq (tgt := 14) hx hb dX9_bars_4 (by decide) (fun c9 => absurd c9 (by decide)) (fun _ => ?_)
    refine lv_iload_n hx hb dX9_bars_7 rfl (lv_at hl 2 rfl) ?_
    refine rdS (As := [.int co]) (rest := []) ⟨hx, hb, hml, hown, hts⟩ (k_X9_isCorner l dC dI cI cZ cQ co) (va_cwS 1 hts gX9_bars_X9_isCorner rfl rfl rfl (by decide +kernel) ⟨Nat.le_of_ble_eq_true rfl, Nat.le_of_ble_eq_true rfl⟩) hP hK hN [] rfl rfl hl.1 rfl (Nat.le_of_ble_eq_true rfl) dX9_bars_8 ⟨Nat.le_of_ble_eq_true rfl, Nat.le_of_ble_eq_true rfl⟩ (fun r3 h4 => ?_)
    have h4 : ((((r3 = 1) ∧ (0 ≤ co.toInt) ∧ (co.toInt ≤ 47)) ∨ ((r3 = 0) ∧ (co.toInt < 0 ∨ 47 < co.toInt)))) := h4
    rcases h4 with (⟨rfl, h4_a0, h4_a1⟩ | ⟨rfl, h4_a0⟩)
    · refine lv_if_ne (tgt := 17) hx hb dX9_bars_11 (by decide) (fun _ => ?_) (fun c9 => absurd c9 (by decide))
      refine lv_iconst (v := 0) hx hb dX9_bars_17 (by decide) ?_
      refine lv_istore_n (lv' := [(3, .int 0), (0, .ref (a 43)), (1, .int th), (2, .int co)]) hx hb dX9_bars_18 rfl hl (by decide) rfl (fun ls hl => ?_)
      have L30 : ∀ (y30_3 : Int32) (ls : Array Slot), lv_has ls 4 [(0, .ref (a 43)), (1, .int th), (2, .int co), (3, .int y30_3)] → W p l e (headSpec wsX9_bars { frames := 4, cells := 0, slots := 0, locals := 87 }).room s m ([.ref (a 43), .int th, .int co] : List Value).toArray below meth c s.heap [] 0 0 (MQ below (QR (fun r : Int32 => True)) ([.ref (a 43), .int th, .int co] : List Value).toArray s 0 0 (fun _ => False)) (F0 m 30 ls []) := by
        intro y30_3 ls  hl
        have L41 : ∀ (y41_3 : Int32) (ls : Array Slot), lv_has ls 4 [(0, .ref (a 43)), (1, .int th), (2, .int co), (3, .int y41_3)] → W p l e (headSpec wsX9_bars { frames := 4, cells := 0, slots := 0, locals := 87 }).room s m ([.ref (a 43), .int th, .int co] : List Value).toArray below meth c s.heap [] 0 0 (MQ below (QR (fun r : Int32 => True)) ([.ref (a 43), .int th, .int co] : List Value).toArray s 0 0 (fun _ => False)) (F0 m 41 ls []) := by
          intro y41_3 ls  hl
          refine lv_aload_n hx hb dX9_bars_41 rfl (lv_at hl 0 rfl) ?_
          refine lv_iload_n hx hb dX9_bars_42 rfl (lv_at hl 1 rfl) ?_
          refine lv_iload_n hx hb dX9_bars_43 rfl (lv_at hl 2 rfl) ?_
          refine rdV (As := [.int th, .int co]) (rest := []) ⟨hx, hb, hml, hown, hts⟩ (k_X9_barredByApart l dC dI cI cZ cQ a rb0 rb1 rb2 db0 db1 db2 top str gho ghs pto cro pla wal fal tel gai day mar mos wev aga apa lin th co r_top r_str r_gho r_ghs r_cro r_pla r_fal r_gai r_day r_mar (by omega) (by omega) (by omega) (by omega)) (cwV 2 hts gX9_bars_X9_barredByApart rfl rfl rfl (by decide +kernel) ⟨Nat.le_of_ble_eq_true rfl, Nat.le_of_ble_eq_true rfl⟩) hP hK hN [0, 1, 2, 3, 4, 5, 6, 7, 8, 9, 10, 11, 12, 13, 14, 15] rfl 0 9 rfl rfl rfl hl.1 rfl (Nat.le_of_ble_eq_true rfl) dX9_bars_44 ⟨Nat.le_of_ble_eq_true rfl, Nat.le_of_ble_eq_true rfl⟩ (fun r5 h6 => ?_)
          have h6 : ((((r5 = 1)) ∨ ((r5 = 0)))) := h6
          rcases h6 with (rfl | rfl)
          · refine lv_if_eq (tgt := 53) hx hb dX9_bars_47 (by decide) (fun c9 => absurd c9 (by decide)) (fun _ => ?_)
            obtain ⟨z7, ez7⟩ : ∃ y : Int32, y = y41_3 + 4 := ⟨_, rfl⟩
            refine lv_iinc (v := z7) (lv' := [(3, .int z7), (0, .ref (a 43)), (1, .int th), (2, .int co)]) hx hb dX9_bars_50 hl (k := 3) rfl (by rw [ez7]; rfl) (by decide) rfl (fun ls hl => ?_)
            refine lv_iload_n hx hb dX9_bars_53 rfl (lv_at hl 0 rfl) ?_
            exact W.iret (v := z7) hx hb hr (fun tq ht hW => ⟨z7, rfl, trivial, ht⟩) (fun q h => by cases h) dX9_bars_54
          · refine lv_if_eq (tgt := 53) hx hb dX9_bars_47 (by decide) (fun _ => ?_) (fun c9 => absurd (by decide) c9)
            refine lv_iload_n hx hb dX9_bars_53 rfl (lv_at hl 3 rfl) ?_
            exact W.iret (v := y41_3) hx hb hr (fun tq ht hW => ⟨y41_3, rfl, trivial, ht⟩) (fun q h => by cases h) dX9_bars_54
        refine lv_aload_n hx hb dX9_bars_30 rfl (lv_at hl 0 rfl) ?_
        refine lv_iload_n hx hb dX9_bars_31 rfl (lv_at hl 2 rfl) ?_
        refine rdV (As := [.int co]) (rest := []) ⟨hx, hb, hml, hown, hts⟩ (k_X9_barredByAgain l dC dI cI cZ cQ a rb0 rb1 rb2 db0 db1 db2 top str gho ghs pto cro pla wal fal tel gai day mar mos wev aga apa lin co r_top r_str r_gho r_ghs r_cro r_pla r_fal r_gai r_day r_mar (by omega) (by omega)) (cwV 1 hts gX9_bars_X9_barredByAgain rfl rfl rfl (by decide +kernel) ⟨Nat.le_of_ble_eq_true rfl, Nat.le_of_ble_eq_true rfl⟩) hP hK hN [0, 1, 2, 3, 4, 5, 6, 7, 8, 9, 10, 11, 12, 13, 14, 15] rfl 0 9 rfl rfl rfl hl.1 rfl (Nat.le_of_ble_eq_true rfl) dX9_bars_32 ⟨Nat.le_of_ble_eq_true rfl, Nat.le_of_ble_eq_true rfl⟩ (fun r8 h9 => ?_)
        have h9 : ((((r8 = 1)) ∨ ((r8 = 0)))) := h9
        rcases h9 with (rfl | rfl)
        · refine lv_if_eq (tgt := 41) hx hb dX9_bars_35 (by decide) (fun c9 => absurd c9 (by decide)) (fun _ => ?_)
          obtain ⟨z10, ez10⟩ : ∃ y : Int32, y = y30_3 + 2 := ⟨_, rfl⟩
          refine lv_iinc (v := z10) (lv' := [(3, .int z10), (0, .ref (a 43)), (1, .int th), (2, .int co)]) hx hb dX9_bars_38 hl (k := 3) rfl (by rw [ez10]; rfl) (by decide) rfl (fun ls hl => ?_)
          exact L41 z10 _  (lv_sub hl [1, 2, 3, 0] rfl)
        · refine lv_if_eq (tgt := 41) hx hb dX9_bars_35 (by decide) (fun _ => ?_) (fun c9 => absurd (by decide) c9)
          exact L41 y30_3 _  (lv_sub hl [0, 1, 2, 3] rfl)
      refine lv_aload_n hx hb dX9_bars_19 rfl (lv_at hl 1 rfl) ?_
      refine lv_iload_n hx hb dX9_bars_20 rfl (lv_at hl 3 rfl) ?_
      refine rdV (As := [.int co]) (rest := []) ⟨hx, hb, hml, hown, hts⟩ (k_X9_barredByRoom l dC dI cI cZ cQ a rb0 rb1 rb2 db0 db1 db2 top str gho ghs pto cro pla wal fal tel gai day mar mos wev aga apa lin co r_top r_str r_gho r_ghs r_cro r_pla r_fal r_gai r_day r_mar (by omega) (by omega)) (cwV 1 hts gX9_bars_X9_barredByRoom rfl rfl rfl (by decide +kernel) ⟨Nat.le_of_ble_eq_true rfl, Nat.le_of_ble_eq_true rfl⟩) hP hK hN [0, 1, 2, 3, 4, 5, 6, 7, 8, 9, 10, 11, 12, 13, 14, 15] rfl 0 9 rfl rfl rfl hl.1 rfl (Nat.le_of_ble_eq_true rfl) dX9_bars_21 ⟨Nat.le_of_ble_eq_true rfl, Nat.le_of_ble_eq_true rfl⟩ (fun r11 h12 => ?_)
      have h12 : ((((r11 = 1)) ∨ ((r11 = 0)))) := h12
      rcases h12 with (rfl | rfl)
      · refine lv_if_eq (tgt := 30) hx hb dX9_bars_24 (by decide) (fun c9 => absurd c9 (by decide)) (fun _ => ?_)
        obtain ⟨z13, ez13⟩ : ∃ y : Int32, y = 0 + 1 := ⟨_, rfl⟩
        have iz13 : z13.toInt = 0 + 1 := by rw [ez13]; exact addC (show (0 : Int32).toInt = 0 from rfl) rfl (by omega) (by omega)
        refine lv_iinc (v := z13) (lv' := [(3, .int z13), (0, .ref (a 43)), (1, .int th), (2, .int co)]) hx hb dX9_bars_27 hl (k := 0) rfl (by rw [ez13]; rfl) (by decide) rfl (fun ls hl => ?_)
        exact L30 z13 _  (lv_sub hl [1, 2, 3, 0] rfl)
      · refine lv_if_eq (tgt := 30) hx hb dX9_bars_24 (by decide) (fun _ => ?_) (fun c9 => absurd (by decide) c9)
        have kc14 : (0 : Int32).toInt = 0 := rfl
        exact L30 0 _  (lv_sub hl [1, 2, 3, 0] rfl)
    · refine lv_if_ne (tgt := 17) hx hb dX9_bars_11 (by decide) (fun c9 => absurd (by decide) c9) (fun _ => ?_)
      refine lv_bipush (v := (-2)) hx hb dX9_bars_14 (by decide) ?_
      exact W.iret (v := (-2)) hx hb hr (fun tq ht hW => ⟨(-2), rfl, trivial, ht⟩) (fun q h => by cases h) dX9_bars_16
  · refine lv_if_eq (tgt := 14) hx hb dX9_bars_4 (by decide) (fun _ => ?_) (fun c9 => absurd (by decide) c9)
    refine lv_bipush (v := (-2)) hx hb dX9_bars_14 (by decide) ?_
    exact W.iret (v := (-2)) hx hb hr (fun tq ht hW => ⟨(-2), rfl, trivial, ht⟩) (fun q h => by cases h) dX9_bars_16
set_option maxHeartbeats 4000000 in
set_option maxRecDepth 100000 in
theorem k_X9_due (l : Launch) (dC : Nat → ClassId) (dI : Nat → Nat → Nat) (cI cZ cQ : ClassId) (a : Nat → Nat) (rb0 : Nat) (rb1 : Nat) (rb2 : Nat) (db0 : Nat) (db1 : Nat) (db2 : Nat) (top : Nat → Int32) (str : Nat → Int32) (gho : Nat → Int32) (ghs : Nat → Int32) (pto : Nat → Int32) (cro : Nat → Int32) (pla : Nat → Int32) (wal : Nat → Int32) (fal : Nat → Int32) (tel : Int32) (gai : Int32) (day : Int32) (mar : Nat → Int32) (mos : Nat → Int32) (wev : Nat → Int32) (aga : Int32) (apa : Int32) (lin : Int32) (r_top : rg 48 (-1) (23) top) (r_str : rg 48 (0) (100) str) (r_gho : rg 48 (-1) (23) gho) (r_ghs : rg 48 (0) (100) ghs) (r_cro : rg 48 (0) (6) cro) (r_pla : rg 24 (-1) (47) pla) (r_fal : rg 11 (0) (30) fal) (r_gai : 0 ≤ gai.toInt ∧ gai.toInt ≤ 100) (r_day : 0 ≤ day.toInt ∧ day.toInt ≤ 400) (r_mar : rg 24 (0) (255) mar) : KR l yX9_due wsX9_due { frames := 1, cells := 0, slots := 0, locals := 23 } (dC, dI) (TY cI cZ cQ) (wsCR cI cZ cQ a rb0 rb1 rb2 db0 db1 db2 top str gho ghs pto cro pla wal fal tel gai day mar mos wev aga apa lin) [.ref (a 43)] (fun r : Int32 => True) := by
  refine Met.ofW (cc := cX9_due) (maxL := 3) (ret := (some .int)) (by decide) rfl ?_
  intro p e s m args below meth c s₁ B hml hv
  obtain ⟨rfl, hP, hK, hN⟩ := hv
  have hx := B.exec
  have hb := B.bytes
  have hr := B.returns
  have hts := atoms_spec (ws := wsX9_due) B.pre
  have hown : s.vm.findClass RX9 = some m.cls := findClass_of_methodNamed B.named
  have hlocks := B.notSynchronized
  have hl := lv_entry ([.ref (a 43)]) (n := 3) (Nat.le_of_ble_eq_true rfl)
  rw [lg_entry_eq]
  generalize (lg_sl ([.ref (a 43)]) ++ List.replicate (3 - (lg_sl ([.ref (a 43)])).length) Slot.unset).toArray = ls at hl ⊢
  have hl : lv_has ls 3 [(0, .ref (a 43))] := hl
  refine lv_iconst (v := 0) hx hb dX9_due_0 (by decide) ?_
  refine lv_istore_n (lv' := [(1, .int 0), (0, .ref (a 43))]) hx hb dX9_due_1 rfl hl (by decide) rfl (fun ls hl => ?_)
  refine lv_iconst (v := 0) hx hb dX9_due_2 (by decide) ?_
  refine lv_istore_n (lv' := [(2, .int 0), (1, .int 0), (0, .ref (a 43))]) hx hb dX9_due_3 rfl hl (by decide) rfl (fun ls hl => ?_)
  have L4 : ∀ (nn : Nat) (y4_1 : Int32) (y4_2 : Int32) (ls : Array Slot), (0 ≤ (y4_2.toInt)) → ((y4_2.toInt) ≤ 8) → (8 - (y4_2.toInt)).toNat < nn → lv_has ls 3 [(0, .ref (a 43)), (1, .int y4_1), (2, .int y4_2)] → W p l e (headSpec wsX9_due { frames := 1, cells := 0, slots := 0, locals := 23 }).room s m ([.ref (a 43)] : List Value).toArray below meth c s.heap [] 0 0 (MQ below (QR (fun r : Int32 => True)) ([.ref (a 43)] : List Value).toArray s 0 0 (fun _ => False)) (F0 m 4 ls []) := by
    intro nn
    induction nn with
    | zero =>
      intro y4_1 y4_2 ls i4_0 i4_1 hm4
      exact absurd hm4 (Nat.not_lt_zero _)
    | succ nn ih4 =>
      intro y4_1 y4_2 ls i4_0 i4_1 hm4 hl
      refine lv_iload_n hx hb dX9_due_4 rfl (lv_at hl 2 rfl) ?_
      refine lv_bipush (v := 8) hx hb dX9_due_5 (by decide) ?_
      refine lv_icmp_ge (tgt := 30) hx hb dX9_due_7 (by decide) (fun c1 => ?_) (fun c1 => ?_)
      · have dc1 : 8 ≤ y4_2.toInt := leC (show (8 : Int32).toInt = 8 from rfl) rfl c1
        refine lv_iload_n hx hb dX9_due_30 rfl (lv_at hl 1 rfl) ?_
        exact W.iret (v := y4_1) hx hb hr (fun tq ht hW => ⟨y4_1, rfl, trivial, ht⟩) (fun q h => by cases h) dX9_due_31
      · have dc1 : y4_2.toInt < 8 := nleC (show (8 : Int32).toInt = 8 from rfl) rfl c1
        refine lv_aload_n hx hb dX9_due_10 rfl (lv_at hl 0 rfl) ?_
        refine lv_iload_n hx hb dX9_due_11 rfl (lv_at hl 2 rfl) ?_
        refine rdV (As := [.int y4_2]) (rest := []) ⟨hx, hb, hml, hown, hts⟩ (k_X9_isDue l dC dI cI cZ cQ a rb0 rb1 rb2 db0 db1 db2 top str gho ghs pto cro pla wal fal tel gai day mar mos wev aga apa lin y4_2 r_top r_str r_gho r_ghs r_cro r_pla r_fal r_gai r_day r_mar (by omega) (by omega)) (cwV 1 hts gX9_due_X9_isDue rfl rfl rfl (by decide +kernel) ⟨Nat.le_of_ble_eq_true rfl, Nat.le_of_ble_eq_true rfl⟩) hP hK hN [0, 1, 2, 3, 4, 5, 6, 7, 8, 9, 10, 11, 12, 13, 14, 15] rfl 0 9 rfl rfl rfl hl.1 rfl (Nat.le_of_ble_eq_true rfl) dX9_due_12 ⟨Nat.le_of_ble_eq_true rfl, Nat.le_of_ble_eq_true rfl⟩ (fun r2 h3 => ?_)
        have h3 : ((((r2 = 1)) ∨ ((r2 = 0)))) := h3
        rcases h3 with (rfl | rfl)
        · refine lv_if_eq (tgt := 24) hx hb dX9_due_15 (by decide) (fun c9 => absurd c9 (by decide)) (fun _ => ?_)
          refine lv_iload_n hx hb dX9_due_18 rfl (lv_at hl 1 rfl) ?_
          refine lv_iconst (v := 1) hx hb dX9_due_19 (by decide) ?_
          refine lv_iload_n hx hb dX9_due_20 rfl (lv_at hl 2 rfl) ?_
          refine lv_ishl hx hb dX9_due_21 ?_
          have f4 : 1 ≤ ((1 : Int32) <<< (y4_2 &&& 31)).toInt ∧ ((1 : Int32) <<< (y4_2 &&& 31)).toInt ≤ 128 := shl1 rfl (by omega) 7 (by omega) (by decide)
          refine lv_ior hx hb dX9_due_22 ?_
          refine lv_topi (fun x5 ex5 => ?_)
          have ix5 : x5.toInt = (y4_1 ||| ((1 : Int32) <<< (y4_2 &&& 31))).toInt := by rw [ex5]
          refine lv_istore_n (lv' := [(1, .int x5), (0, .ref (a 43)), (2, .int y4_2)]) hx hb dX9_due_23 rfl hl (by decide) rfl (fun ls hl => ?_)
          obtain ⟨z6, ez6⟩ : ∃ y : Int32, y = y4_2 + 1 := ⟨_, rfl⟩
          have iz6 : z6.toInt = y4_2.toInt + 1 := by rw [ez6]; exact addC rfl rfl (by omega) (by omega)
          refine lv_iinc (v := z6) (lv' := [(2, .int z6), (1, .int x5), (0, .ref (a 43))]) hx hb dX9_due_24 hl (k := 2) rfl (by rw [ez6]; rfl) (by decide) rfl (fun ls hl => ?_)
          refine lv_goto (tgt := 4) hx hb dX9_due_27 (by decide) ?_
          exact ih4 x5 z6 _ (by omega) (by omega) (by omega) (lv_sub hl [2, 1, 0] rfl)
        · refine lv_if_eq (tgt := 24) hx hb dX9_due_15 (by decide) (fun _ => ?_) (fun c9 => absurd (by decide) c9)
          obtain ⟨z7, ez7⟩ : ∃ y : Int32, y = y4_2 + 1 := ⟨_, rfl⟩
          have iz7 : z7.toInt = y4_2.toInt + 1 := by rw [ez7]; exact addC rfl rfl (by omega) (by omega)
          refine lv_iinc (v := z7) (lv' := [(2, .int z7), (0, .ref (a 43)), (1, .int y4_1)]) hx hb dX9_due_24 hl (k := 2) rfl (by rw [ez7]; rfl) (by decide) rfl (fun ls hl => ?_)
          refine lv_goto (tgt := 4) hx hb dX9_due_27 (by decide) ?_
          exact ih4 y4_1 z7 _ (by omega) (by omega) (by omega) (lv_sub hl [1, 2, 0] rfl)
  have kc8 : (0 : Int32).toInt = 0 := rfl
  exact L4 _ 0 0 _ (by omega) (by omega) (Nat.lt_succ_self _) (lv_sub hl [2, 1, 0] rfl)
set_option maxHeartbeats 4000000 in
set_option maxRecDepth 100000 in
theorem k_X9_thingOf (l : Launch) (dC : Nat → ClassId) (dI : Nat → Nat → Nat) (cI cZ cQ : ClassId) (row : Int64) (k : Int32)  : KR l yX9_thingOf wsX9_thingOf { frames := 0, cells := 0, slots := 0, locals := 0 } (dC, dI) (TY cI cZ cQ) (wNil cI cZ cQ) [.long row, .int k] (fun r : Int32 => ((thF row k).toInt = r.toInt) ∧ (0 ≤ r.toInt) ∧ (r.toInt ≤ 31)) := by
  refine Met.ofW (cc := cX9_thingOf) (maxL := 3) (ret := (some .int)) (by decide) rfl ?_
  intro p e s m args below meth c s₁ B hml hv
  obtain ⟨rfl, hP, hK, hN⟩ := hv
  have hx := B.exec
  have hb := B.bytes
  have hr := B.returns
  have hts := atoms_spec (ws := wsX9_thingOf) B.pre
  have hown : s.vm.findClass RX9 = some m.cls := findClass_of_methodNamed B.named
  have hlocks := B.notSynchronized
  have hl := lv_entry ([.long row, .int k]) (n := 3) (Nat.le_of_ble_eq_true rfl)
  rw [lg_entry_eq]
  generalize (lg_sl ([.long row, .int k]) ++ List.replicate (3 - (lg_sl ([.long row, .int k])).length) Slot.unset).toArray = ls at hl ⊢
  have hl : lv_has ls 3 [(0, .long row), (2, .int k)] := hl
  refine lv_lload_n hx hb dX9_thingOf_0 rfl (lv_at hl 0 rfl) ?_
  refine lv_iconst (v := 5) hx hb dX9_thingOf_1 (by decide) ?_
  refine lv_iload_n hx hb dX9_thingOf_2 rfl (lv_at hl 1 rfl) ?_
  refine lv_imul hx hb dX9_thingOf_3 ?_
  refine lv_lshr hx hb dX9_thingOf_4 rfl ?_
  refine lv_ldc2 (v := 31) hx hb hown (hts (.constantLong RX9 313 (31)) (by decide +kernel)) dX9_thingOf_5 ?_
  refine lv_land hx hb dX9_thingOf_8 ?_
  refine lv_l2i hx hb dX9_thingOf_9 rfl ?_
  have f1 : 0 ≤ (((row >>> ((5 * k).toInt64 &&& 63)) &&& 31).toInt32).toInt ∧ (((row >>> ((5 * k).toInt64 &&& 63)) &&& 31).toInt32).toInt ≤ 31 := l2iM31 _
  exact W.iret (v := ((row >>> ((5 * k).toInt64 &&& 63)) &&& 31).toInt32) hx hb hr (fun tq ht hW => ⟨((row >>> ((5 * k).toInt64 &&& 63)) &&& 31).toInt32, rfl, ⟨(show (thF row k).toInt = (((row >>> ((5 * k).toInt64 &&& 63)) &&& 31).toInt32).toInt from by rfl), (show 0 ≤ (((row >>> ((5 * k).toInt64 &&& 63)) &&& 31).toInt32).toInt from by omega), (show (((row >>> ((5 * k).toInt64 &&& 63)) &&& 31).toInt32).toInt ≤ 31 from by omega)⟩, ht⟩) (fun q h => by cases h) dX9_thingOf_10
set_option maxHeartbeats 4000000 in
set_option maxRecDepth 100000 in
theorem k_X9_rowRefusal (l : Launch) (dC : Nat → ClassId) (dI : Nat → Nat → Nat) (cI cZ cQ : ClassId) (a : Nat → Nat) (rb0 : Nat) (rb1 : Nat) (rb2 : Nat) (db0 : Nat) (db1 : Nat) (db2 : Nat) (tol : Nat → Int32) (sz : Nat) (row : Int64) (n : Int32) (i : Int32) (least : Int32) (most : Int32) (r_tol : rg 8 (0) (23) tol) (q0 : 1 ≤ least.toInt) (q1 : most.toInt ≤ 8) : KW l yX9_rowRefusal wsX9_rowRefusal { frames := 2, cells := 0, slots := 0, locals := 42 } (dC, dI) (TY cI cZ cQ) (wsTo cI cZ cQ a rb0 rb1 rb2 db0 db1 db2 tol) [.ref (a 43), .long row, .int n, .int i, .int least, .int most] sz 0 0 (fun (r : Int32) (u : US) => ((((r = 0) ∧ (least.toInt ≤ n.toInt) ∧ (n.toInt ≤ most.toInt) ∧ (-1 ≤ i.toInt)) ∨ ((r = (-2))) ∨ ((r = (-3))))) ∧ (rg 8 (0) (23) (u.1 0))) (fun u : US => (wsTo cI cZ cQ a rb0 rb1 rb2 db0 db1 db2 (u.1 0))) := by
  refine Met.ofW (cc := cX9_rowRefusal) (maxL := 11) (ret := (some .int)) (by decide) rfl ?_
  intro p e s m args below meth c s₁ B hml hv
  obtain ⟨rfl, hsz, hP, hK, hD0, hN⟩ := hv
  have hx := B.exec
  have hb := B.bytes
  have hr := B.returns
  have hts := atoms_spec (ws := wsX9_rowRefusal) B.pre
  have hown : s.vm.findClass RX9 = some m.cls := findClass_of_methodNamed B.named
  have hlocks := B.notSynchronized
  have lf69 := hts (.fieldLink RX9 69 "PalaceOfRooms" "told" "[I") (by decide +kernel)
  have inX9 : ∀ w ∈ wsX90, w ∈ wsX9_rowRefusal := by decide +kernel
  subst hsz
  have hD := hD0.self (sz := s.heap.size)
  generalize hAe : va_A (wsTo cI cZ cQ a rb0 rb1 rb2 db0 db1 db2 tol) s.heap.size = A at hD ⊢
  have hA : ∀ q : Nat, s.heap.size ≤ q → A q := fun q h => by rw [← hAe]; exact Or.inr h
  have hS : va_S A s.heap s.heap [] := va_S.rf
  have hl := lv_entry ([.ref (a 43), .long row, .int n, .int i, .int least, .int most]) (n := 11) (Nat.le_of_ble_eq_true rfl)
  rw [lg_entry_eq]
  generalize (lg_sl ([.ref (a 43), .long row, .int n, .int i, .int least, .int most]) ++ List.replicate (11 - (lg_sl ([.ref (a 43), .long row, .int n, .int i, .int least, .int most])).length) Slot.unset).toArray = ls at hl ⊢
  have hl : lv_has ls 11 [(0, .ref (a 43)), (1, .long row), (3, .int n), (4, .int i), (5, .int least), (6, .int most)] := hl
  refine lv_iload_n hx hb dX9_rowRefusal_0 rfl (lv_at hl 2 rfl) ?_
  refine lv_bipush (v := 12) hx hb dX9_rowRefusal_1 (by decide) ?_
  refine va_mmin hx hb (by rw [hml]; exact hl.1.symm) hown (hts (.methodLink RX9 285 Lib.Math.min.name) (by decide +kernel)) (hts (.static Lib.Math.min.name) (by decide +kernel)) (hts (.initialized "java/lang/Math") (by decide +kernel)) (hts (.code Lib.Math.min.name Lib.Math.min.code 2 (some .int)) (by decide +kernel)) (Nat.le_of_ble_eq_true rfl) (Nat.le_of_ble_eq_true rfl) (Nat.le_of_ble_eq_true rfl) (Nat.le_of_ble_eq_true rfl) dX9_rowRefusal_3 ?_
  have f1 : (if (12 : Int32) < n then 12 else n : Int32).toInt = min (n.toInt) (12) := minC rfl (show (12 : Int32).toInt = 12 from rfl)
  refine lv_topi (fun x2 ex2 => ?_)
  have ix2 : x2.toInt = min (n.toInt) (12) := by rw [ex2]; exact f1
  refine lv_istore (lv' := [(7, .int x2), (0, .ref (a 43)), (1, .long row), (3, .int n), (4, .int i), (5, .int least), (6, .int most)]) hx hb dX9_rowRefusal_6 hl (by decide) rfl (fun ls hl => ?_)
  refine lv_iconst (v := 0) hx hb dX9_rowRefusal_8 (by decide) ?_
  refine lv_istore (lv' := [(8, .int 0), (7, .int x2), (0, .ref (a 43)), (1, .long row), (3, .int n), (4, .int i), (5, .int least), (6, .int most)]) hx hb dX9_rowRefusal_9 hl (by decide) rfl (fun ls hl => ?_)
  have L11 : ∀ (nn : Nat) (y11_8 : Int32) (H : Heap) (locs : List Loc) (ls : Array Slot), (0 ≤ (y11_8.toInt)) → ((y11_8.toInt) ≤ 12) → (∀ j : Nat, (j : Int) < (y11_8.toInt) → (thF row (nI j)).toInt ≤ 23) → (12 - (y11_8.toInt)).toNat < nn → va_P (dC, dI) vwCl (wsTo cI cZ cQ a rb0 rb1 rb2 db0 db1 db2 tol) H → va_D A (wsTo cI cZ cQ a rb0 rb1 rb2 db0 db1 db2 tol) → va_S A s.heap H locs → lv_has ls 11 [(0, .ref (a 43)), (1, .long row), (3, .int n), (4, .int i), (5, .int least), (6, .int most), (7, .int x2), (8, .int y11_8)] → W p l e (headSpec wsX9_rowRefusal { frames := 2, cells := 0, slots := 0, locals := 42 }).room s m ([.ref (a 43), .long row, .int n, .int i, .int least, .int most] : List Value).toArray below meth c H locs 0 0 (MQ below (va_Qi (fun (r : Int32) (u : US) => ((((r = 0) ∧ (least.toInt ≤ n.toInt) ∧ (n.toInt ≤ most.toInt) ∧ (-1 ≤ i.toInt)) ∨ ((r = (-2))) ∨ ((r = (-3))))) ∧ (rg 8 (0) (23) (u.1 0))) (Bw (dC, dI) A (fun u : US => (wsTo cI cZ cQ a rb0 rb1 rb2 db0 db1 db2 (u.1 0)))) A) ([.ref (a 43), .long row, .int n, .int i, .int least, .int most] : List Value).toArray s 0 0 A) (F0 m 11 ls []) := by
    intro nn
    induction nn with
    | zero =>
      intro y11_8 H locs ls i11_0 i11_1 i11_2 hm11
      exact absurd hm11 (Nat.not_lt_zero _)
    | succ nn ih11 =>
      intro y11_8 H locs ls i11_0 i11_1 i11_2 hm11 hP hD hS hl
      refine lv_iload hx hb dX9_rowRefusal_11 (lv_at hl 7 rfl) ?_
      refine lv_iload hx hb dX9_rowRefusal_13 (lv_at hl 6 rfl) ?_
      refine lv_icmp_ge (tgt := 39) hx hb dX9_rowRefusal_15 (by decide) (fun c3 => ?_) (fun c3 => ?_)
      · have dc3 : x2.toInt ≤ y11_8.toInt := leC rfl rfl c3
        refine lv_iload_n hx hb dX9_rowRefusal_39 rfl (lv_at hl 2 rfl) ?_
        refine lv_iload hx hb dX9_rowRefusal_40 (lv_at hl 4 rfl) ?_
        refine lv_iload hx hb dX9_rowRefusal_42 (lv_at hl 5 rfl) ?_
        refine rdS (As := [.int n, .int least, .int most]) (rest := []) ⟨hx, hb, hml, hown, hts⟩ (k_X9_within l dC dI cI cZ cQ n least most) (va_cwS 3 hts gX9_rowRefusal_X9_within rfl rfl rfl (by decide +kernel) ⟨Nat.le_of_ble_eq_true rfl, Nat.le_of_ble_eq_true rfl⟩) hP hK hN [] rfl rfl hl.1 rfl (Nat.le_of_ble_eq_true rfl) dX9_rowRefusal_44 ⟨Nat.le_of_ble_eq_true rfl, Nat.le_of_ble_eq_true rfl⟩ (fun r4 h5 => ?_)
        have h5 : ((((r4 = 1) ∧ (least.toInt ≤ n.toInt) ∧ (n.toInt ≤ most.toInt)) ∨ ((r4 = 0) ∧ (n.toInt < least.toInt ∨ most.toInt < n.toInt)))) := h5
        rcases h5 with (⟨rfl, h5_a0, h5_a1⟩ | ⟨rfl, h5_a0⟩)
        · refine lv_if_eq (tgt := 65) hx hb dX9_rowRefusal_47 (by decide) (fun c9 => absurd c9 (by decide)) (fun _ => ?_)
          refine lv_iload_n hx hb dX9_rowRefusal_50 rfl (lv_at hl 2 rfl) ?_
          refine lv_aload_n hx hb dX9_rowRefusal_51 rfl (lv_at hl 0 rfl) ?_
          refine va_get (D := (dC, dI)) (ci := 9) (v := .ref (a 42)) (C := RX9) (T := TX9) (N := 11) hx hb hts inX9 hown hK hP 0 rfl rfl 8 (by decide) lf69 (fun _ h9 => h9) rfl dX9_rowRefusal_52 ?_
          refine va_alen (v := 8) hx hb hK hP 1 0 rfl rfl rfl dX9_rowRefusal_55 ?_
          refine lv_icmp_gt (tgt := 65) hx hb dX9_rowRefusal_56 (by decide) (fun c6 => ?_) (fun c6 => ?_)
          · have dc6 : 8 < n.toInt := ltC (show (8 : Int32).toInt = 8 from rfl) rfl c6
            refine lv_bipush (v := (-3)) hx hb dX9_rowRefusal_65 (by decide) ?_
            exact W.iret (v := (-3)) hx hb hr (fun tq ht hW => ⟨⟨(-3), (uS [tol] 0 (fun _ => 0)), rfl, ⟨(Or.inr (Or.inr rfl)), r_tol⟩, by rw [ht]; exact hP, hD⟩, hS.F ht⟩) hS.2.2 dX9_rowRefusal_67
          · have dc6 : n.toInt ≤ 8 := nltC (show (8 : Int32).toInt = 8 from rfl) rfl c6
            refine lv_iload hx hb dX9_rowRefusal_59 (lv_at hl 3 rfl) ?_
            refine lv_iconst (v := (-1)) hx hb dX9_rowRefusal_61 (by decide) ?_
            refine lv_icmp_ge (tgt := 68) hx hb dX9_rowRefusal_62 (by decide) (fun c7 => ?_) (fun c7 => ?_)
            · have dc7 : (-1) ≤ i.toInt := leC (show ((-1) : Int32).toInt = (-1) from rfl) rfl c7
              refine lv_iconst (v := 0) hx hb dX9_rowRefusal_68 (by decide) ?_
              refine lv_istore (lv' := [(8, .int 0), (0, .ref (a 43)), (1, .long row), (3, .int n), (4, .int i), (5, .int least), (6, .int most), (7, .int x2)]) hx hb dX9_rowRefusal_69 hl (by decide) rfl (fun ls hl => ?_)
              refine lv_iconst (v := 0) hx hb dX9_rowRefusal_71 (by decide) ?_
              refine lv_istore (lv' := [(9, .int 0), (8, .int 0), (0, .ref (a 43)), (1, .long row), (3, .int n), (4, .int i), (5, .int least), (6, .int most), (7, .int x2)]) hx hb dX9_rowRefusal_72 hl (by decide) rfl (fun ls hl => ?_)
              have L74 : ∀ (nn : Nat) (y74_8 : Int32) (y74_9 : Int32) (tol_74 : Nat → Int32) (H : Heap) (locs : List Loc) (ls : Array Slot), (rg 8 (0) (23) tol_74) → (0 ≤ (y74_9.toInt)) → ((y74_9.toInt) ≤ 8) → (8 - (y74_9.toInt)).toNat < nn → va_P (dC, dI) vwCl (wsTo cI cZ cQ a rb0 rb1 rb2 db0 db1 db2 tol_74) H → va_D A (wsTo cI cZ cQ a rb0 rb1 rb2 db0 db1 db2 tol_74) → va_S A s.heap H locs → lv_has ls 11 [(0, .ref (a 43)), (1, .long row), (3, .int n), (8, .int y74_8), (9, .int y74_9)] → W p l e (headSpec wsX9_rowRefusal { frames := 2, cells := 0, slots := 0, locals := 42 }).room s m ([.ref (a 43), .long row, .int n, .int i, .int least, .int most] : List Value).toArray below meth c H locs 0 0 (MQ below (va_Qi (fun (r : Int32) (u : US) => ((((r = 0) ∧ (least.toInt ≤ n.toInt) ∧ (n.toInt ≤ most.toInt) ∧ (-1 ≤ i.toInt)) ∨ ((r = (-2))) ∨ ((r = (-3))))) ∧ (rg 8 (0) (23) (u.1 0))) (Bw (dC, dI) A (fun u : US => (wsTo cI cZ cQ a rb0 rb1 rb2 db0 db1 db2 (u.1 0)))) A) ([.ref (a 43), .long row, .int n, .int i, .int least, .int most] : List Value).toArray s 0 0 A) (F0 m 74 ls []) := by
                intro nn
                induction nn with
                | zero =>
                  intro y74_8 y74_9 tol_74 H locs ls r_tol_74 i74_0 i74_1 hm74
                  exact absurd hm74 (Nat.not_lt_zero _)
                | succ nn ih74 =>
                  intro y74_8 y74_9 tol_74 H locs ls r_tol_74 i74_0 i74_1 hm74 hP hD hS hl
                  refine lv_iload hx hb dX9_rowRefusal_74 (lv_at hl 4 rfl) ?_
                  refine lv_iload_n hx hb dX9_rowRefusal_76 rfl (lv_at hl 2 rfl) ?_
                  refine lv_icmp_ge (tgt := 126) hx hb dX9_rowRefusal_77 (by decide) (fun c8 => ?_) (fun c8 => ?_)
                  · have dc8 : n.toInt ≤ y74_9.toInt := leC rfl rfl c8
                    refine lv_iconst (v := 0) hx hb dX9_rowRefusal_126 (by decide) ?_
                    exact W.iret (v := 0) hx hb hr (fun tq ht hW => ⟨⟨0, (uS [tol_74] 0 (fun _ => 0)), rfl, ⟨(Or.inl (⟨rfl, (show least.toInt ≤ n.toInt from by (try rw [show (0 : Int32).toInt = 0 from (show (0 : Int32).toInt = 0 from rfl)]); omega), (show n.toInt ≤ most.toInt from by (try rw [show (0 : Int32).toInt = 0 from (show (0 : Int32).toInt = 0 from rfl)]); omega), (show -1 ≤ i.toInt from by (try rw [show (0 : Int32).toInt = 0 from (show (0 : Int32).toInt = 0 from rfl)]); omega)⟩)), r_tol_74⟩, by rw [ht]; exact hP, hD⟩, hS.F ht⟩) hS.2.2 dX9_rowRefusal_127
                  · have dc8 : y74_9.toInt < n.toInt := nleC rfl rfl c8
                    refine lv_lload_n hx hb dX9_rowRefusal_80 rfl (lv_at hl 1 rfl) ?_
                    refine lv_iload hx hb dX9_rowRefusal_81 (lv_at hl 4 rfl) ?_
                    refine rdS (As := [.long row, .int y74_9]) (rest := []) ⟨hx, hb, hml, hown, hts⟩ (k_X9_thingOf l dC dI cI cZ cQ row y74_9) (va_cwS 2 hts gX9_rowRefusal_X9_thingOf rfl rfl rfl (by decide +kernel) ⟨Nat.le_of_ble_eq_true rfl, Nat.le_of_ble_eq_true rfl⟩) hP hK hN [] rfl rfl hl.1 rfl (Nat.le_of_ble_eq_true rfl) dX9_rowRefusal_83 ⟨Nat.le_of_ble_eq_true rfl, Nat.le_of_ble_eq_true rfl⟩ (fun r9 h10 => ?_)
                    have h10 : ((thF row y74_9).toInt = r9.toInt) ∧ (0 ≤ r9.toInt) ∧ (r9.toInt ≤ 31) := h10
                    obtain ⟨h10_0, h10_1, h10_2⟩ := h10
                    refine lv_istore (lv' := [(10, .int r9), (0, .ref (a 43)), (1, .long row), (3, .int n), (8, .int y74_8), (9, .int y74_9)]) hx hb dX9_rowRefusal_86 hl (by decide) rfl (fun ls hl => ?_)
                    have kk := i11_2 y74_9.toInt.toNat (by omega)
                    rw [nI_toNat (by omega)] at kk
                    refine lv_iload hx hb dX9_rowRefusal_88 (lv_at hl 4 rfl) ?_
                    refine lv_iload hx hb dX9_rowRefusal_90 (lv_at hl 0 rfl) ?_
                    refine lv_ishr hx hb dX9_rowRefusal_92 ?_
                    refine lv_iconst (v := 1) hx hb dX9_rowRefusal_93 (by decide) ?_
                    refine lv_iand hx hb dX9_rowRefusal_94 ?_
                    have f11 := andR (a := (y74_8 >>> (r9 &&& 31))) (m := 1) (M := 1) rfl (by decide)
                    refine lv_iconst (v := 1) hx hb dX9_rowRefusal_95 (by decide) ?_
                    refine lv_icmp_ne (tgt := 102) hx hb dX9_rowRefusal_96 (by decide) (fun c12 => ?_) (fun c12 => ?_)
                    · have dc12 : ((y74_8 >>> (r9 &&& 31)) &&& 1).toInt ≤ 0 := ka_hi (by omega) (neC rfl (show (1 : Int32).toInt = 1 from rfl) c12)
                      refine lv_iload hx hb dX9_rowRefusal_102 (lv_at hl 4 rfl) ?_
                      refine lv_iconst (v := 1) hx hb dX9_rowRefusal_104 (by decide) ?_
                      refine lv_iload hx hb dX9_rowRefusal_105 (lv_at hl 0 rfl) ?_
                      refine lv_ishl hx hb dX9_rowRefusal_107 ?_
                      refine lv_ior hx hb dX9_rowRefusal_108 ?_
                      refine lv_topi (fun x13 ex13 => ?_)
                      have ix13 : x13.toInt = (y74_8 ||| ((1 : Int32) <<< (r9 &&& 31))).toInt := by rw [ex13]
                      refine lv_istore (lv' := [(8, .int x13), (10, .int r9), (0, .ref (a 43)), (1, .long row), (3, .int n), (9, .int y74_9)]) hx hb dX9_rowRefusal_109 hl (by decide) rfl (fun ls hl => ?_)
                      refine lv_aload_n hx hb dX9_rowRefusal_111 rfl (lv_at hl 2 rfl) ?_
                      refine va_get (D := (dC, dI)) (ci := 9) (v := .ref (a 42)) (C := RX9) (T := TX9) (N := 11) hx hb hts inX9 hown hK hP 0 rfl rfl 8 (by decide) lf69 (fun _ h9 => h9) rfl dX9_rowRefusal_112 ?_
                      refine lv_iload hx hb dX9_rowRefusal_115 (lv_at hl 5 rfl) ?_
                      refine lv_iload hx hb dX9_rowRefusal_117 (lv_at hl 1 rfl) ?_
                      have b14 : vp_in y74_9 8 := inC rfl (by omega) (by omega)
                      have g15 : rg 8 (0) (23) (upd tol_74 y74_9.toNatClampNeg r9) := rg_upd r_tol_74 rfl (by omega) (by omega)
                      refine va_iast hx hb hK hP hD hS 1 0 rfl rfl b14 dX9_rowRefusal_119 (fun H locs hP hD hS => ?_)
                      obtain ⟨tol_u16, etol_u16⟩ : ∃ f : Nat → Int32, f = upd tol_74 y74_9.toNatClampNeg r9 := ⟨_, rfl⟩
                      have rtol_u16 : rg 8 (0) (23) tol_u16 := by rw [etol_u16]; exact g15
                      have hP : va_P (dC, dI) vwCl (wsTo cI cZ cQ a rb0 rb1 rb2 db0 db1 db2 tol_u16) H := by rw [etol_u16]; exact hP
                      have hD : va_D A (wsTo cI cZ cQ a rb0 rb1 rb2 db0 db1 db2 tol_u16) := by rw [etol_u16]; exact hD
                      obtain ⟨z17, ez17⟩ : ∃ y : Int32, y = y74_9 + 1 := ⟨_, rfl⟩
                      have iz17 : z17.toInt = y74_9.toInt + 1 := by rw [ez17]; exact addC rfl rfl (by omega) (by omega)
                      refine lv_iinc (v := z17) (lv' := [(9, .int z17), (8, .int x13), (10, .int r9), (0, .ref (a 43)), (1, .long row), (3, .int n)]) hx hb dX9_rowRefusal_120 hl (k := 5) rfl (by rw [ez17]; rfl) (by decide) rfl (fun ls hl => ?_)
                      refine lv_goto (tgt := 74) hx hb dX9_rowRefusal_123 (by decide) ?_
                      exact ih74 x13 z17 tol_u16 _ _ _ rtol_u16 (by omega) (by omega) (by omega) hP hD hS (lv_sub hl [3, 4, 5, 1, 0] rfl)
                    · have dc12 : ((y74_8 >>> (r9 &&& 31)) &&& 1).toInt = 1 := eqC rfl (show (1 : Int32).toInt = 1 from rfl) c12
                      refine lv_bipush (v := (-3)) hx hb dX9_rowRefusal_99 (by decide) ?_
                      exact W.iret (v := (-3)) hx hb hr (fun tq ht hW => ⟨⟨(-3), (uS [tol_74] 0 (fun _ => 0)), rfl, ⟨(Or.inr (Or.inr rfl)), r_tol_74⟩, by rw [ht]; exact hP, hD⟩, hS.F ht⟩) hS.2.2 dX9_rowRefusal_101
              have kc18 : (0 : Int32).toInt = 0 := rfl
              exact L74 _ 0 0 tol _ _ _ r_tol (by omega) (by omega) (Nat.lt_succ_self _) hP hD hS (lv_sub hl [2, 3, 4, 1, 0] rfl)
            · have dc7 : i.toInt < (-1) := nleC (show ((-1) : Int32).toInt = (-1) from rfl) rfl c7
              refine lv_bipush (v := (-3)) hx hb dX9_rowRefusal_65 (by decide) ?_
              exact W.iret (v := (-3)) hx hb hr (fun tq ht hW => ⟨⟨(-3), (uS [tol] 0 (fun _ => 0)), rfl, ⟨(Or.inr (Or.inr rfl)), r_tol⟩, by rw [ht]; exact hP, hD⟩, hS.F ht⟩) hS.2.2 dX9_rowRefusal_67
        · refine lv_if_eq (tgt := 65) hx hb dX9_rowRefusal_47 (by decide) (fun _ => ?_) (fun c9 => absurd (by decide) c9)
          refine lv_bipush (v := (-3)) hx hb dX9_rowRefusal_65 (by decide) ?_
          exact W.iret (v := (-3)) hx hb hr (fun tq ht hW => ⟨⟨(-3), (uS [tol] 0 (fun _ => 0)), rfl, ⟨(Or.inr (Or.inr rfl)), r_tol⟩, by rw [ht]; exact hP, hD⟩, hS.F ht⟩) hS.2.2 dX9_rowRefusal_67
      · have dc3 : y11_8.toInt < x2.toInt := nleC rfl rfl c3
        refine lv_lload_n hx hb dX9_rowRefusal_18 rfl (lv_at hl 1 rfl) ?_
        refine lv_iload hx hb dX9_rowRefusal_19 (lv_at hl 7 rfl) ?_
        refine rdS (As := [.long row, .int y11_8]) (rest := []) ⟨hx, hb, hml, hown, hts⟩ (k_X9_thingOf l dC dI cI cZ cQ row y11_8) (va_cwS 2 hts gX9_rowRefusal_X9_thingOf rfl rfl rfl (by decide +kernel) ⟨Nat.le_of_ble_eq_true rfl, Nat.le_of_ble_eq_true rfl⟩) hP hK hN [] rfl rfl hl.1 rfl (Nat.le_of_ble_eq_true rfl) dX9_rowRefusal_21 ⟨Nat.le_of_ble_eq_true rfl, Nat.le_of_ble_eq_true rfl⟩ (fun r19 h20 => ?_)
        have h20 : ((thF row y11_8).toInt = r19.toInt) ∧ (0 ≤ r19.toInt) ∧ (r19.toInt ≤ 31) := h20
        obtain ⟨h20_0, h20_1, h20_2⟩ := h20
        refine rdS (As := [.int r19]) (rest := []) ⟨hx, hb, hml, hown, hts⟩ (k_X9_isThing l dC dI cI cZ cQ r19) (va_cwS 1 hts gX9_rowRefusal_X9_isThing rfl rfl rfl (by decide +kernel) ⟨Nat.le_of_ble_eq_true rfl, Nat.le_of_ble_eq_true rfl⟩) hP hK hN [] rfl rfl hl.1 rfl (Nat.le_of_ble_eq_true rfl) dX9_rowRefusal_24 ⟨Nat.le_of_ble_eq_true rfl, Nat.le_of_ble_eq_true rfl⟩ (fun r21 h22 => ?_)
        have h22 : ((((r21 = 1) ∧ (0 ≤ r19.toInt) ∧ (r19.toInt ≤ 23)) ∨ ((r21 = 0) ∧ (r19.toInt < 0 ∨ 23 < r19.toInt)))) := h22
        rcases h22 with (⟨rfl, h22_a0, h22_a1⟩ | ⟨rfl, h22_a0⟩)
        · refine lv_if_ne (tgt := 33) hx hb dX9_rowRefusal_27 (by decide) (fun _ => ?_) (fun c9 => absurd c9 (by decide))
          obtain ⟨z23, ez23⟩ : ∃ y : Int32, y = y11_8 + 1 := ⟨_, rfl⟩
          have iz23 : z23.toInt = y11_8.toInt + 1 := by rw [ez23]; exact addC rfl rfl (by omega) (by omega)
          refine lv_iinc (v := z23) (lv' := [(8, .int z23), (0, .ref (a 43)), (1, .long row), (3, .int n), (4, .int i), (5, .int least), (6, .int most), (7, .int x2)]) hx hb dX9_rowRefusal_33 hl (k := 7) rfl (by rw [ez23]; rfl) (by decide) rfl (fun ls hl => ?_)
          refine lv_goto (tgt := 11) hx hb dX9_rowRefusal_36 (by decide) ?_
          exact ih11 z23 _ _ _ (by omega) (by omega) (by (first | (intro j hj; omega) | (intro j hj; by_cases e : (j : Int) = y11_8.toInt <;> first | exact i11_2 j (by omega) | (have ej : nI j = y11_8 := (by have := nI_toNat (y := y11_8) (by omega); rw [← this]; congr 1; omega); rw [ej]; omega)))) (by omega) hP hD hS (lv_sub hl [1, 2, 3, 4, 5, 6, 7, 0] rfl)
        · refine lv_if_ne (tgt := 33) hx hb dX9_rowRefusal_27 (by decide) (fun c9 => absurd (by decide) c9) (fun _ => ?_)
          refine lv_bipush (v := (-2)) hx hb dX9_rowRefusal_30 (by decide) ?_
          exact W.iret (v := (-2)) hx hb hr (fun tq ht hW => ⟨⟨(-2), (uS [tol] 0 (fun _ => 0)), rfl, ⟨(Or.inr (Or.inl rfl)), r_tol⟩, by rw [ht]; exact hP, hD⟩, hS.F ht⟩) hS.2.2 dX9_rowRefusal_32
  have kc24 : (0 : Int32).toInt = 0 := rfl
  exact L11 _ 0 _ _ _ (by omega) (by omega) (by (first | (intro j hj; omega) | (intro j hj; by_cases e : (j : Int) = y11_8.toInt <;> first | exact i11_2 j (by omega) | (have ej : nI j = y11_8 := (by have := nI_toNat (y := y11_8) (by omega); rw [← this]; congr 1; omega); rw [ej]; omega)))) (Nat.lt_succ_self _) hP hD hS (lv_sub hl [2, 3, 4, 5, 6, 7, 1, 0] rfl)
set_option maxHeartbeats 4000000 in
set_option maxRecDepth 100000 in
theorem k_X9_laid (l : Launch) (dC : Nat → ClassId) (dI : Nat → Nat → Nat) (cI cZ cQ : ClassId) (a : Nat → Nat) (rb0 : Nat) (rb1 : Nat) (rb2 : Nat) (db0 : Nat) (db1 : Nat) (db2 : Nat) (sor : Nat → Int32) (ord : Nat → Int32) (sha : Nat → Int32) (toc : Nat → Int32) (mar : Nat → Int32) (tol : Nat → Int32) (sz : Nat) (row : Int64) (n : Int32) (i : Int32) (r_sor : rg 8 (0) (23) sor) (r_mar : rg 24 (0) (255) mar) (r_tol : rg 8 (0) (23) tol) : KW l yX9_laid wsX9_laid { frames := 5, cells := 0, slots := 0, locals := 120 } (dC, dI) (TY cI cZ cQ) (wsSp cI cZ cQ a rb0 rb1 rb2 db0 db1 db2 sor ord sha toc mar tol) [.ref (a 43), .long row, .int n, .int i] sz 0 0 (fun (r : Int32) (u : US) => (rg 8 (0) (23) (u.1 0)) ∧ (rg 8 (0) (23) (u.1 1))) (fun u : US => (wsSp cI cZ cQ a rb0 rb1 rb2 db0 db1 db2 (u.1 1) (u.1 2) (u.1 3) (u.1 4) mar (u.1 0))) := by
  refine Met.ofW (cc := cX9_laid) (maxL := 7) (ret := (some .int)) (by decide) rfl ?_
  intro p e s m args below meth c s₁ B hml hv
  obtain ⟨rfl, hsz, hP, hK, hD0, hN⟩ := hv
  have hx := B.exec
  have hb := B.bytes
  have hr := B.returns
  have hts := atoms_spec (ws := wsX9_laid) B.pre
  have hown : s.vm.findClass RX9 = some m.cls := findClass_of_methodNamed B.named
  have hlocks := B.notSynchronized
  have lf51 := hts (.fieldLink RX9 51 "PalaceOfRooms" "speech" "LPalaceOfRooms$Speech;") (by decide +kernel)
  have inX9 : ∀ w ∈ wsX90, w ∈ wsX9_laid := fun w h => List.mem_cons_of_mem _ (List.mem_append_left _ (List.mem_append_left _ (List.mem_append_right _ h)))
  have lf69 := hts (.fieldLink RX9 69 "PalaceOfRooms" "told" "[I") (by decide +kernel)
  have lf197 := hN.use (w := .fieldLinkNest "PalaceOfRooms" 197 "PalaceOfRooms$Speech" "order" "[I" "PalaceOfRooms") (by decide +kernel) ([.ref (a 43), .long row, .int n, .int i] : List Value).toArray
  have inX6 : ∀ w ∈ wsX60, w ∈ wsX9_laid := fun w h => List.mem_cons_of_mem _ (List.mem_append_left _ (List.mem_append_right _ h))
  subst hsz
  have hD := hD0.self (sz := s.heap.size)
  generalize hAe : va_A (wsSp cI cZ cQ a rb0 rb1 rb2 db0 db1 db2 sor ord sha toc mar tol) s.heap.size = A at hD ⊢
  have hA : ∀ q : Nat, s.heap.size ≤ q → A q := fun q h => by rw [← hAe]; exact Or.inr h
  have hS : va_S A s.heap s.heap [] := va_S.rf
  have hl := lv_entry ([.ref (a 43), .long row, .int n, .int i]) (n := 7) (Nat.le_of_ble_eq_true rfl)
  rw [lg_entry_eq]
  generalize (lg_sl ([.ref (a 43), .long row, .int n, .int i]) ++ List.replicate (7 - (lg_sl ([.ref (a 43), .long row, .int n, .int i])).length) Slot.unset).toArray = ls at hl ⊢
  have hl : lv_has ls 7 [(0, .ref (a 43)), (1, .long row), (3, .int n), (4, .int i)] := hl
  refine lv_aload_n hx hb dX9_laid_0 rfl (lv_at hl 0 rfl) ?_
  refine lv_lload_n hx hb dX9_laid_1 rfl (lv_at hl 1 rfl) ?_
  refine lv_iload_n hx hb dX9_laid_2 rfl (lv_at hl 2 rfl) ?_
  refine lv_iload hx hb dX9_laid_3 (lv_at hl 3 rfl) ?_
  refine lv_iconst (v := 1) hx hb dX9_laid_5 (by decide) ?_
  refine lv_bipush (v := 8) hx hb dX9_laid_6 (by decide) ?_
  have kc1 : (1 : Int32).toInt = 1 := rfl
  have kc8 : (8 : Int32).toInt = 8 := rfl
  refine wrV (As := [.long row, .int n, .int i, .int 1, .int 8]) (rest := []) (wr := [((a 23), .inr (6, [.ref (a 2), .ref (a 24), .ref (a 25), .ref (a 26), .ref (a 27)])), ((a 24), .inl (cI, 8, .inl sor)), ((a 25), .inl (cI, 8, .inl ord)), ((a 26), .inl (cI, 64, .inl sha)), ((a 27), .inl (cI, 2048, .inl toc)), ((a 2), .inr (2, [.ref (a 3)])), ((a 3), .inl (cI, 24, .inl mar))]) (w2 := (fun u : US => (wsSp cI cZ cQ a rb0 rb1 rb2 db0 db1 db2 sor ord sha toc mar (u.1 0)))) ⟨hx, hb, hml, hown, hts⟩ (k_X9_rowRefusal l dC dI cI cZ cQ a rb0 rb1 rb2 db0 db1 db2 tol _ row n i (1 : Int32) (8 : Int32) r_tol (by omega) (by omega)) (cwV 5 hts gX9_laid_X9_rowRefusal rfl rfl rfl (by decide +kernel) ⟨Nat.le_of_ble_eq_true rfl, Nat.le_of_ble_eq_true rfl⟩) hP hD hS hA hK hN [0, 8] [1, 2, 3, 4, 5, 6, 7] [7, 0, 1, 2, 3, 4, 5, 6, 8] rfl rfl (by decide) (by decide) (by decide) (fun _ => rfl) (by decide) 0 9 rfl rfl rfl hl.1 rfl (Nat.le_of_ble_eq_true rfl) dX9_laid_8 ⟨Nat.le_of_ble_eq_true rfl, Nat.le_of_ble_eq_true rfl⟩ (fun r1 u3 H locs h2 hP hD hS => ?_)
  obtain ⟨tol_c4, etol_c4⟩ : ∃ f : Nat → Int32, f = (u3.1 0) := ⟨_, rfl⟩
  have hP : va_P (dC, dI) vwCl (wsSp cI cZ cQ a rb0 rb1 rb2 db0 db1 db2 sor ord sha toc mar tol_c4) H := by rw [etol_c4]; exact hP
  have hD : va_D A (wsSp cI cZ cQ a rb0 rb1 rb2 db0 db1 db2 sor ord sha toc mar tol_c4) := by rw [etol_c4]; exact hD
  have h2 : ((((r1 = 0) ∧ ((1) ≤ n.toInt) ∧ (n.toInt ≤ (8)) ∧ (-1 ≤ i.toInt)) ∨ ((r1 = (-2))) ∨ ((r1 = (-3))))) ∧ (rg 8 (0) (23) tol_c4) := by (try rw [etol_c4]); exact h2
  rcases h2 with ⟨(⟨rfl, h2_a0, h2_a1, h2_a2⟩ | rfl | rfl), h2_0⟩
  · refine lv_istore (lv' := [(5, .int 0), (0, .ref (a 43)), (1, .long row), (3, .int n), (4, .int i)]) hx hb dX9_laid_11 hl (by decide) rfl (fun ls hl => ?_)
    refine lv_iload hx hb dX9_laid_13 (lv_at hl 0 rfl) ?_
    refine lv_if_eq (tgt := 21) hx hb dX9_laid_15 (by decide) (fun _ => ?_) (fun c9 => absurd (by decide) c9)
    refine lv_iload hx hb dX9_laid_21 (lv_at hl 4 rfl) ?_
    refine lv_iload_n hx hb dX9_laid_23 rfl (lv_at hl 3 rfl) ?_
    refine lv_icmp_lt (tgt := 29) hx hb dX9_laid_24 (by decide) (fun c5 => ?_) (fun c5 => ?_)
    · have dc5 : i.toInt < n.toInt := ltC rfl rfl c5
      refine lv_aload_n hx hb dX9_laid_29 rfl (lv_at hl 1 rfl) ?_
      refine va_get (D := (dC, dI)) (ci := 9) (v := .ref (a 23)) (C := RX9) (T := TX9) (N := 11) hx hb hts inX9 hown hK hP 0 rfl rfl 5 (by decide) lf51 (fun _ h9 => h9) rfl dX9_laid_30 ?_
      refine lv_aload_n hx hb dX9_laid_33 rfl (lv_at hl 1 rfl) ?_
      refine va_get (D := (dC, dI)) (ci := 9) (v := .ref (a 42)) (C := RX9) (T := TX9) (N := 11) hx hb hts inX9 hown hK hP 0 rfl rfl 8 (by decide) lf69 (fun _ h9 => h9) rfl dX9_laid_34 ?_
      refine lv_iload_n hx hb dX9_laid_37 rfl (lv_at hl 3 rfl) ?_
      refine wrV (As := [.ref (a 42), .int n]) (rest := []) (wr := [((a 43), .inr (9, [.ref (a 0), .ref (a 2), .ref (a 4), .ref (a 14), .ref (a 16), .ref (a 23), .ref (a 28), .ref (a 33), .ref (a 42), .ref rb0, .ref db0]))]) (w2 := (fun u : US => (wsSp cI cZ cQ a rb0 rb1 rb2 db0 db1 db2 (u.1 0) (u.1 1) (u.1 2) (u.1 3) mar tol_c4))) ⟨hx, hb, hml, hown, hts⟩ (k_X6_layOut l dC dI cI cZ cQ a sor ord sha toc mar tol_c4 _ n r_sor r_mar h2_0 (by omega) (by omega)) (cwV 2 hts gX9_laid_X6_layOut rfl rfl rfl (by decide +kernel) ⟨Nat.le_of_ble_eq_true rfl, Nat.le_of_ble_eq_true rfl⟩) hP hD hS hA hK hN [1, 2, 3, 4, 5, 6, 7, 8] [0] [0, 1, 2, 3, 4, 5, 6, 7, 8] rfl rfl (by decide) (by decide) (by decide) (fun _ => rfl) (by decide) 1 6 rfl rfl rfl hl.1 rfl (Nat.le_of_ble_eq_true rfl) dX9_laid_38 ⟨Nat.le_of_ble_eq_true rfl, Nat.le_of_ble_eq_true rfl⟩ (fun r6 u8 H locs h7 hP hD hS => ?_)
      obtain ⟨sor_c9, esor_c9⟩ : ∃ f : Nat → Int32, f = (u8.1 0) := ⟨_, rfl⟩
      obtain ⟨ord_c10, eord_c10⟩ : ∃ f : Nat → Int32, f = (u8.1 1) := ⟨_, rfl⟩
      obtain ⟨sha_c11, esha_c11⟩ : ∃ f : Nat → Int32, f = (u8.1 2) := ⟨_, rfl⟩
      obtain ⟨toc_c12, etoc_c12⟩ : ∃ f : Nat → Int32, f = (u8.1 3) := ⟨_, rfl⟩
      have hP : va_P (dC, dI) vwCl (wsSp cI cZ cQ a rb0 rb1 rb2 db0 db1 db2 sor_c9 ord_c10 sha_c11 toc_c12 mar tol_c4) H := by rw [esor_c9, eord_c10, esha_c11, etoc_c12]; exact hP
      have hD : va_D A (wsSp cI cZ cQ a rb0 rb1 rb2 db0 db1 db2 sor_c9 ord_c10 sha_c11 toc_c12 mar tol_c4) := by rw [esor_c9, eord_c10, esha_c11, etoc_c12]; exact hD
      have h7 : (rg 8 (0) (23) sor_c9) := by (try rw [esor_c9]); (try rw [eord_c10]); (try rw [esha_c11]); (try rw [etoc_c12]); exact h7
      have h7_0 := h7
      refine lv_istore (lv' := [(6, .int r6), (5, .int 0), (0, .ref (a 43)), (1, .long row), (3, .int n), (4, .int i)]) hx hb dX9_laid_41 hl (by decide) rfl (fun ls hl => ?_)
      refine lv_iload hx hb dX9_laid_43 (lv_at hl 5 rfl) ?_
      refine lv_if_ge (tgt := 53) hx hb dX9_laid_45 (by decide) (fun c13 => ?_) (fun c13 => ?_)
      · have dc13 : 0 ≤ i.toInt := leC (show (0 : Int32).toInt = 0 from rfl) rfl c13
        refine lv_aload_n hx hb dX9_laid_53 rfl (lv_at hl 2 rfl) ?_
        refine va_get (D := (dC, dI)) (ci := 9) (v := .ref (a 23)) (C := RX9) (T := TX9) (N := 11) hx hb hts inX9 hown hK hP 0 rfl rfl 5 (by decide) lf51 (fun _ h9 => h9) rfl dX9_laid_54 ?_
        refine va_getN (D := (dC, dI)) (ci := 6) (v := .ref (a 25)) (C := RX6) (T := TX6) (N := 5) hx hb hts inX6 hown hK hP 1 rfl rfl 2 (by decide) lf197 (fun _ h9 => h9) rfl dX9_laid_57 ?_
        refine lv_iload hx hb dX9_laid_60 (lv_at hl 5 rfl) ?_
        have b14 : vp_in i 8 := inC rfl (by omega) (by omega)
        refine va_iald hx hb hK hP 3 0 rfl rfl b14 dX9_laid_62 ?_
        exact W.iret (v := ord_c10 i.toNatClampNeg) hx hb hr (fun tq ht hW => ⟨⟨ord_c10 i.toNatClampNeg, (uS [tol_c4, sor_c9, ord_c10, sha_c11, toc_c12] 0 (fun _ => 0)), rfl, ⟨h2_0, h7_0⟩, by rw [ht]; exact hP, hD⟩, hS.F ht⟩) hS.2.2 dX9_laid_63
      · have dc13 : i.toInt < 0 := nleC (show (0 : Int32).toInt = 0 from rfl) rfl c13
        refine lv_iload hx hb dX9_laid_48 (lv_at hl 0 rfl) ?_
        refine lv_goto (tgt := 63) hx hb dX9_laid_50 (by decide) ?_
        exact W.iret (v := r6) hx hb hr (fun tq ht hW => ⟨⟨r6, (uS [tol_c4, sor_c9, ord_c10, sha_c11, toc_c12] 0 (fun _ => 0)), rfl, ⟨h2_0, h7_0⟩, by rw [ht]; exact hP, hD⟩, hS.F ht⟩) hS.2.2 dX9_laid_63
    · have dc5 : n.toInt ≤ i.toInt := nltC rfl rfl c5
      refine lv_iconst (v := (-1)) hx hb dX9_laid_27 (by decide) ?_
      exact W.iret (v := (-1)) hx hb hr (fun tq ht hW => ⟨⟨(-1), (uS [tol_c4, sor, ord, sha, toc] 0 (fun _ => 0)), rfl, ⟨h2_0, r_sor⟩, by rw [ht]; exact hP, hD⟩, hS.F ht⟩) hS.2.2 dX9_laid_28
  · refine lv_istore (lv' := [(5, .int (-2)), (0, .ref (a 43)), (1, .long row), (3, .int n), (4, .int i)]) hx hb dX9_laid_11 hl (by decide) rfl (fun ls hl => ?_)
    refine lv_iload hx hb dX9_laid_13 (lv_at hl 0 rfl) ?_
    refine lv_if_eq (tgt := 21) hx hb dX9_laid_15 (by decide) (fun c9 => absurd c9 (by decide)) (fun _ => ?_)
    refine lv_iload hx hb dX9_laid_18 (lv_at hl 0 rfl) ?_
    exact W.iret (v := (-2)) hx hb hr (fun tq ht hW => ⟨⟨(-2), (uS [tol_c4, sor, ord, sha, toc] 0 (fun _ => 0)), rfl, ⟨h2_0, r_sor⟩, by rw [ht]; exact hP, hD⟩, hS.F ht⟩) hS.2.2 dX9_laid_20
  · refine lv_istore (lv' := [(5, .int (-3)), (0, .ref (a 43)), (1, .long row), (3, .int n), (4, .int i)]) hx hb dX9_laid_11 hl (by decide) rfl (fun ls hl => ?_)
    refine lv_iload hx hb dX9_laid_13 (lv_at hl 0 rfl) ?_
    refine lv_if_eq (tgt := 21) hx hb dX9_laid_15 (by decide) (fun c9 => absurd c9 (by decide)) (fun _ => ?_)
    refine lv_iload hx hb dX9_laid_18 (lv_at hl 0 rfl) ?_
    exact W.iret (v := (-3)) hx hb hr (fun tq ht hW => ⟨⟨(-3), (uS [tol_c4, sor, ord, sha, toc] 0 (fun _ => 0)), rfl, ⟨h2_0, r_sor⟩, by rw [ht]; exact hP, hD⟩, hS.F ht⟩) hS.2.2 dX9_laid_20
set_option maxHeartbeats 4000000 in
set_option maxRecDepth 100000 in
theorem k_X9_plan (l : Launch) (dC : Nat → ClassId) (dI : Nat → Nat → Nat) (cI cZ cQ : ClassId) (a : Nat → Nat) (rb0 : Nat) (rb1 : Nat) (rb2 : Nat) (db0 : Nat) (db1 : Nat) (db2 : Nat) (min : Nat → Int32) (tri : Nat → Int32) (bes : Nat → Int32) (wkd : Nat → Int32) (cos : Nat → Int32) (rst : Nat → Int32) (bst : Int32) (top : Nat → Int32) (str : Nat → Int32) (gho : Nat → Int32) (ghs : Nat → Int32) (pto : Nat → Int32) (cro : Nat → Int32) (pla : Nat → Int32) (wal : Nat → Int32) (fal : Nat → Int32) (tel : Int32) (gai : Int32) (day : Int32) (mar : Nat → Int32) (few : Nat → Int32) (doo : Int32) (sz : Nat) (n : Int32) (mi : Int32) (wh : Int32) (r_wkd : rg 8 (0) (15) wkd) (r_top : rg 48 (-1) (23) top) (r_str : rg 48 (0) (100) str) (r_gho : rg 48 (-1) (23) gho) (r_ghs : rg 48 (0) (100) ghs) (r_cro : rg 48 (0) (6) cro) (r_pla : rg 24 (-1) (47) pla) (r_fal : rg 11 (0) (30) fal) (r_gai : 0 ≤ gai.toInt ∧ gai.toInt ≤ 100) (r_day : 0 ≤ day.toInt ∧ day.toInt ≤ 400) (r_mar : rg 24 (0) (255) mar) : KW l yX9_plan wsX9_plan { frames := 8, cells := 0, slots := 0, locals := 220 } (dC, dI) (TY cI cZ cQ) (wsPl cI cZ cQ a rb0 rb1 rb2 db0 db1 db2 min tri bes wkd cos rst bst top str gho ghs pto cro pla wal fal tel gai day mar few doo) [.ref (a 43), .int n, .int mi, .int wh] sz 0 0 (fun (r : Int32) (u : US) => (rg 48 (0) (6) (u.1 1)) ∧ (rg 8 (0) (15) (u.1 3))) (fun u : US => (wsPl cI cZ cQ a rb0 rb1 rb2 db0 db1 db2 (u.1 0) (u.1 5) (u.1 6) (u.1 3) (u.1 2) (u.1 4) (u.1 7 0) top str gho ghs pto (u.1 1) pla wal fal tel gai day mar few doo)) := by
  refine Met.ofW (cc := cX9_plan) (maxL := 4) (ret := (some .int)) (by decide) rfl ?_
  intro p e s m args below meth c s₁ B hml hv
  obtain ⟨rfl, hsz, hP, hK, hD0, hN⟩ := hv
  have hx := B.exec
  have hb := B.bytes
  have hr := B.returns
  have hts := atoms_spec (ws := wsX9_plan) B.pre
  have hown : s.vm.findClass RX9 = some m.cls := findClass_of_methodNamed B.named
  have hlocks := B.notSynchronized
  have lf44 := hts (.fieldLink RX9 44 "PalaceOfRooms" "planner" "LPalaceOfRooms$Planner;") (by decide +kernel)
  have inX9 : ∀ w ∈ wsX90, w ∈ wsX9_plan := fun w h => List.mem_cons_of_mem _ (List.mem_append_left _ (List.mem_append_left _ (List.mem_append_left _ (List.mem_append_left _ (List.mem_append_right _ h)))))
  have lf212 := hN.use (w := .fieldLinkNest "PalaceOfRooms" 212 "PalaceOfRooms$Planner" "best" "[I" "PalaceOfRooms") (by decide +kernel) ([.ref (a 43), .int n, .int mi, .int wh] : List Value).toArray
  have inX3 : ∀ w ∈ wsX30, w ∈ wsX9_plan := fun w h => List.mem_cons_of_mem _ (List.mem_append_left _ (List.mem_append_left _ (List.mem_append_left _ (List.mem_append_right _ h))))
  have lf209 := hN.use (w := .fieldLinkNest "PalaceOfRooms" 209 "PalaceOfRooms$Planner" "bestStrength" "I" "PalaceOfRooms") (by decide +kernel) ([.ref (a 43), .int n, .int mi, .int wh] : List Value).toArray
  subst hsz
  have hD := hD0.self (sz := s.heap.size)
  generalize hAe : va_A (wsPl cI cZ cQ a rb0 rb1 rb2 db0 db1 db2 min tri bes wkd cos rst bst top str gho ghs pto cro pla wal fal tel gai day mar few doo) s.heap.size = A at hD ⊢
  have hA : ∀ q : Nat, s.heap.size ≤ q → A q := fun q h => by rw [← hAe]; exact Or.inr h
  have hS : va_S A s.heap s.heap [] := va_S.rf
  have hl := lv_entry ([.ref (a 43), .int n, .int mi, .int wh]) (n := 4) (Nat.le_of_ble_eq_true rfl)
  rw [lg_entry_eq]
  generalize (lg_sl ([.ref (a 43), .int n, .int mi, .int wh]) ++ List.replicate (4 - (lg_sl ([.ref (a 43), .int n, .int mi, .int wh])).length) Slot.unset).toArray = ls at hl ⊢
  have hl : lv_has ls 4 [(0, .ref (a 43)), (1, .int n), (2, .int mi), (3, .int wh)] := hl
  refine lv_iload_n hx hb dX9_plan_0 rfl (lv_at hl 1 rfl) ?_
  refine lv_iconst (v := 1) hx hb dX9_plan_1 (by decide) ?_
  refine lv_iconst (v := 4) hx hb dX9_plan_2 (by decide) ?_
  refine rdS (As := [.int n, .int 1, .int 4]) (rest := []) ⟨hx, hb, hml, hown, hts⟩ (k_X9_within l dC dI cI cZ cQ n (1 : Int32) (4 : Int32)) (va_cwS 3 hts gX9_plan_X9_within rfl rfl rfl (by decide +kernel) ⟨Nat.le_of_ble_eq_true rfl, Nat.le_of_ble_eq_true rfl⟩) hP hK hN [] rfl rfl hl.1 rfl (Nat.le_of_ble_eq_true rfl) dX9_plan_3 ⟨Nat.le_of_ble_eq_true rfl, Nat.le_of_ble_eq_true rfl⟩ (fun r1 h2 => ?_)
  have h2 : ((((r1 = 1) ∧ ((1) ≤ n.toInt) ∧ (n.toInt ≤ (4))) ∨ ((r1 = 0) ∧ (n.toInt < (1) ∨ (4) < n.toInt)))) := h2
  rcases h2 with (⟨rfl, h2_a0, h2_a1⟩ | ⟨rfl, h2_a0⟩)
  · refine lv_if_eq (tgt := 32) hx hb dX9_plan_6 (by decide) (fun c9 => absurd c9 (by decide)) (fun _ => ?_)
    refine lv_iload_n hx hb dX9_plan_9 rfl (lv_at hl 3 rfl) ?_
    refine lv_iconst (v := (-1)) hx hb dX9_plan_10 (by decide) ?_
    refine lv_iload_n hx hb dX9_plan_11 rfl (lv_at hl 1 rfl) ?_
    refine lv_iconst (v := 1) hx hb dX9_plan_12 (by decide) ?_
    refine lv_isub hx hb dX9_plan_13 ?_
    have f3 : (n - 1).toInt = (n.toInt) - (1) := subC rfl (show (1 : Int32).toInt = 1 from rfl) (by omega) (by omega)
    refine rdS (As := [.int wh, .int (-1), .int (n - 1)]) (rest := []) ⟨hx, hb, hml, hown, hts⟩ (k_X9_within l dC dI cI cZ cQ wh ((-1) : Int32) (n - 1)) (va_cwS 3 hts gX9_plan_X9_within rfl rfl rfl (by decide +kernel) ⟨Nat.le_of_ble_eq_true rfl, Nat.le_of_ble_eq_true rfl⟩) hP hK hN [] rfl rfl hl.1 rfl (Nat.le_of_ble_eq_true rfl) dX9_plan_14 ⟨Nat.le_of_ble_eq_true rfl, Nat.le_of_ble_eq_true rfl⟩ (fun r4 h5 => ?_)
    have h5 : ((((r4 = 1) ∧ ((-1) ≤ wh.toInt) ∧ (wh.toInt ≤ (n - 1).toInt)) ∨ ((r4 = 0) ∧ (wh.toInt < (-1) ∨ (n - 1).toInt < wh.toInt)))) := h5
    rcases h5 with (⟨rfl, h5_a0, h5_a1⟩ | ⟨rfl, h5_a0⟩)
    · refine lv_if_eq (tgt := 32) hx hb dX9_plan_17 (by decide) (fun c9 => absurd c9 (by decide)) (fun _ => ?_)
      refine lv_aload_n hx hb dX9_plan_20 rfl (lv_at hl 0 rfl) ?_
      refine va_get (D := (dC, dI)) (ci := 9) (v := .ref (a 16)) (C := RX9) (T := TX9) (N := 11) hx hb hts inX9 hown hK hP 0 rfl rfl 4 (by decide) lf44 (fun _ h9 => h9) rfl dX9_plan_21 ?_
      refine lv_iload_n hx hb dX9_plan_24 rfl (lv_at hl 2 rfl) ?_
      refine lv_iload_n hx hb dX9_plan_25 rfl (lv_at hl 1 rfl) ?_
      refine wrV (As := [.int mi, .int n]) (rest := []) (wr := [((a 43), .inr (9, [.ref (a 0), .ref (a 2), .ref (a 4), .ref (a 14), .ref (a 16), .ref (a 23), .ref (a 28), .ref (a 33), .ref (a 42), .ref rb0, .ref db0]))]) (w2 := (fun u : US => (wsPl cI cZ cQ a rb0 rb1 rb2 db0 db1 db2 (u.1 0) tri bes wkd cos rst bst top str gho ghs pto cro pla wal fal tel gai day mar few doo))) ⟨hx, hb, hml, hown, hts⟩ (k_X3_takeMinutes l dC dI cI cZ cQ a min tri bes wkd cos rst bst top str gho ghs pto cro pla wal fal tel gai day mar few doo _ mi n r_wkd r_top r_str r_gho r_ghs r_cro r_pla r_fal r_gai r_day r_mar (by omega) (by omega)) (cwV 2 hts gX9_plan_X3_takeMinutes rfl rfl rfl (by decide +kernel) ⟨Nat.le_of_ble_eq_true rfl, Nat.le_of_ble_eq_true rfl⟩) hP hD hS hA hK hN [1, 2, 3, 4, 5, 6, 7, 8, 9, 10, 11, 12, 13, 14, 15, 16, 17, 18, 19, 20, 21] [0] [0, 1, 2, 3, 4, 5, 6, 7, 8, 9, 10, 11, 12, 13, 14, 15, 16, 17, 18, 19, 20, 21] rfl rfl (by decide) (by decide) (by decide) (fun _ => rfl) (by decide) 1 3 rfl rfl rfl hl.1 rfl (Nat.le_of_ble_eq_true rfl) dX9_plan_26 ⟨Nat.le_of_ble_eq_true rfl, Nat.le_of_ble_eq_true rfl⟩ (fun r6 u8 H locs h7 hP hD hS => ?_)
      obtain ⟨min_c9, emin_c9⟩ : ∃ f : Nat → Int32, f = (u8.1 0) := ⟨_, rfl⟩
      have hP : va_P (dC, dI) vwCl (wsPl cI cZ cQ a rb0 rb1 rb2 db0 db1 db2 min_c9 tri bes wkd cos rst bst top str gho ghs pto cro pla wal fal tel gai day mar few doo) H := by rw [emin_c9]; exact hP
      have hD : va_D A (wsPl cI cZ cQ a rb0 rb1 rb2 db0 db1 db2 min_c9 tri bes wkd cos rst bst top str gho ghs pto cro pla wal fal tel gai day mar few doo) := by rw [emin_c9]; exact hD
      have h7 : ((((r6 = 1)) ∨ ((r6 = 0)))) := by (try rw [emin_c9]); exact h7
      rcases h7 with (rfl | rfl)
      · refine lv_if_ne (tgt := 35) hx hb dX9_plan_29 (by decide) (fun _ => ?_) (fun c9 => absurd c9 (by decide))
        refine lv_aload_n hx hb dX9_plan_35 rfl (lv_at hl 0 rfl) ?_
        refine va_get (D := (dC, dI)) (ci := 9) (v := .ref (a 16)) (C := RX9) (T := TX9) (N := 11) hx hb hts inX9 hown hK hP 0 rfl rfl 4 (by decide) lf44 (fun _ h9 => h9) rfl dX9_plan_36 ?_
        refine lv_iload_n hx hb dX9_plan_39 rfl (lv_at hl 1 rfl) ?_
        refine wvV (As := [.int n]) (rest := []) (wr := [((a 43), .inr (9, [.ref (a 0), .ref (a 2), .ref (a 4), .ref (a 14), .ref (a 16), .ref (a 23), .ref (a 28), .ref (a 33), .ref (a 42), .ref rb0, .ref db0]))]) (w2 := (fun u : US => (wsPl cI cZ cQ a rb0 rb1 rb2 db0 db1 db2 min_c9 (u.1 4) (u.1 5) (u.1 2) (u.1 1) (u.1 3) (u.1 6 0) top str gho ghs pto (u.1 0) pla wal fal tel gai day mar few doo))) ⟨hx, hb, hml, hown, hts⟩ (k_X3_findBest l dC dI cI cZ cQ a min_c9 tri bes wkd cos rst bst top str gho ghs pto cro pla wal fal tel gai day mar few doo _ n r_wkd r_top r_str r_gho r_ghs r_cro r_pla r_fal r_gai r_day r_mar (by omega) (by omega)) (cwV 1 hts gX9_plan_X3_findBest rfl rfl rfl (by decide +kernel) ⟨Nat.le_of_ble_eq_true rfl, Nat.le_of_ble_eq_true rfl⟩) hP hD hS hA hK hN [1, 2, 3, 4, 5, 6, 7, 8, 9, 10, 11, 12, 13, 14, 15, 16, 17, 18, 19, 20, 21] [0] [0, 1, 2, 3, 4, 5, 6, 7, 8, 9, 10, 11, 12, 13, 14, 15, 16, 17, 18, 19, 20, 21] rfl rfl (by decide) (by decide) (by decide) (fun _ => rfl) (by decide) 1 3 rfl rfl rfl hl.1 rfl (Nat.le_of_ble_eq_true rfl) dX9_plan_40 ⟨Nat.le_of_ble_eq_true rfl, Nat.le_of_ble_eq_true rfl⟩ (fun u12 H locs h11 hP hD hS => ?_)
        obtain ⟨cro_c13, ecro_c13⟩ : ∃ f : Nat → Int32, f = (u12.1 0) := ⟨_, rfl⟩
        obtain ⟨cos_c14, ecos_c14⟩ : ∃ f : Nat → Int32, f = (u12.1 1) := ⟨_, rfl⟩
        obtain ⟨wkd_c15, ewkd_c15⟩ : ∃ f : Nat → Int32, f = (u12.1 2) := ⟨_, rfl⟩
        obtain ⟨rst_c16, erst_c16⟩ : ∃ f : Nat → Int32, f = (u12.1 3) := ⟨_, rfl⟩
        obtain ⟨tri_c17, etri_c17⟩ : ∃ f : Nat → Int32, f = (u12.1 4) := ⟨_, rfl⟩
        obtain ⟨bes_c18, ebes_c18⟩ : ∃ f : Nat → Int32, f = (u12.1 5) := ⟨_, rfl⟩
        obtain ⟨bst_c19, ebst_c19⟩ : ∃ f : Int32, f = (u12.1 6 0) := ⟨_, rfl⟩
        have hP : va_P (dC, dI) vwCl (wsPl cI cZ cQ a rb0 rb1 rb2 db0 db1 db2 min_c9 tri_c17 bes_c18 wkd_c15 cos_c14 rst_c16 bst_c19 top str gho ghs pto cro_c13 pla wal fal tel gai day mar few doo) H := by rw [ecro_c13, ecos_c14, ewkd_c15, erst_c16, etri_c17, ebes_c18, ebst_c19]; exact hP
        have hD : va_D A (wsPl cI cZ cQ a rb0 rb1 rb2 db0 db1 db2 min_c9 tri_c17 bes_c18 wkd_c15 cos_c14 rst_c16 bst_c19 top str gho ghs pto cro_c13 pla wal fal tel gai day mar few doo) := by rw [ecro_c13, ecos_c14, ewkd_c15, erst_c16, etri_c17, ebes_c18, ebst_c19]; exact hD
        have h11 : (rg 48 (0) (6) cro_c13) ∧ (rg 8 (0) (15) wkd_c15) := by (try rw [ecro_c13]); (try rw [ecos_c14]); (try rw [ewkd_c15]); (try rw [erst_c16]); (try rw [etri_c17]); (try rw [ebes_c18]); (try rw [ebst_c19]); exact h11
        obtain ⟨h11_0, h11_1⟩ := h11
        refine lv_iload_n hx hb dX9_plan_43 rfl (lv_at hl 3 rfl) ?_
        refine lv_if_ge (tgt := 57) hx hb dX9_plan_44 (by decide) (fun c20 => ?_) (fun c20 => ?_)
        · have dc20 : 0 ≤ wh.toInt := leC (show (0 : Int32).toInt = 0 from rfl) rfl c20
          refine lv_aload_n hx hb dX9_plan_57 rfl (lv_at hl 0 rfl) ?_
          refine va_get (D := (dC, dI)) (ci := 9) (v := .ref (a 16)) (C := RX9) (T := TX9) (N := 11) hx hb hts inX9 hown hK hP 0 rfl rfl 4 (by decide) lf44 (fun _ h9 => h9) rfl dX9_plan_58 ?_
          refine va_getN (D := (dC, dI)) (ci := 3) (v := .ref (a 19)) (C := RX3) (T := TX3) (N := 9) hx hb hts inX3 hown hK hP 1 rfl rfl 4 (by decide) lf212 (fun _ h9 => h9) rfl dX9_plan_61 ?_
          refine lv_iload_n hx hb dX9_plan_64 rfl (lv_at hl 3 rfl) ?_
          have b21 : vp_in wh 4 := inC rfl (by omega) (by omega)
          refine va_iald hx hb hK hP 4 0 rfl rfl b21 dX9_plan_65 ?_
          exact W.iret (v := bes_c18 wh.toNatClampNeg) hx hb hr (fun tq ht hW => ⟨⟨bes_c18 wh.toNatClampNeg, (uS [min_c9, cro_c13, cos_c14, wkd_c15, rst_c16, tri_c17, bes_c18, (fun _ => bst_c19)] 0 (fun _ => 0)), rfl, ⟨h11_0, h11_1⟩, by rw [ht]; exact hP, hD⟩, hS.F ht⟩) hS.2.2 dX9_plan_66
        · have dc20 : wh.toInt < 0 := nleC (show (0 : Int32).toInt = 0 from rfl) rfl c20
          refine lv_aload_n hx hb dX9_plan_47 rfl (lv_at hl 0 rfl) ?_
          refine va_get (D := (dC, dI)) (ci := 9) (v := .ref (a 16)) (C := RX9) (T := TX9) (N := 11) hx hb hts inX9 hown hK hP 0 rfl rfl 4 (by decide) lf44 (fun _ h9 => h9) rfl dX9_plan_48 ?_
          refine va_getN (D := (dC, dI)) (ci := 3) (v := .int bst_c19) (C := RX3) (T := TX3) (N := 9) hx hb hts inX3 hown hK hP 1 rfl rfl 8 (by decide) lf209 (fun _ h9 => h9) rfl dX9_plan_51 ?_
          refine lv_goto (tgt := 66) hx hb dX9_plan_54 (by decide) ?_
          exact W.iret (v := bst_c19) hx hb hr (fun tq ht hW => ⟨⟨bst_c19, (uS [min_c9, cro_c13, cos_c14, wkd_c15, rst_c16, tri_c17, bes_c18, (fun _ => bst_c19)] 0 (fun _ => 0)), rfl, ⟨h11_0, h11_1⟩, by rw [ht]; exact hP, hD⟩, hS.F ht⟩) hS.2.2 dX9_plan_66
      · refine lv_if_ne (tgt := 35) hx hb dX9_plan_29 (by decide) (fun c9 => absurd (by decide) c9) (fun _ => ?_)
        refine lv_bipush (v := (-3)) hx hb dX9_plan_32 (by decide) ?_
        exact W.iret (v := (-3)) hx hb hr (fun tq ht hW => ⟨⟨(-3), (uS [min_c9, cro, cos, wkd, rst, tri, bes, (fun _ => bst)] 0 (fun _ => 0)), rfl, ⟨r_cro, r_wkd⟩, by rw [ht]; exact hP, hD⟩, hS.F ht⟩) hS.2.2 dX9_plan_34
    · refine lv_if_eq (tgt := 32) hx hb dX9_plan_17 (by decide) (fun _ => ?_) (fun c9 => absurd (by decide) c9)
      refine lv_bipush (v := (-3)) hx hb dX9_plan_32 (by decide) ?_
      exact W.iret (v := (-3)) hx hb hr (fun tq ht hW => ⟨⟨(-3), (uS [min, cro, cos, wkd, rst, tri, bes, (fun _ => bst)] 0 (fun _ => 0)), rfl, ⟨r_cro, r_wkd⟩, by rw [ht]; exact hP, hD⟩, hS.F ht⟩) hS.2.2 dX9_plan_34
  · refine lv_if_eq (tgt := 32) hx hb dX9_plan_6 (by decide) (fun _ => ?_) (fun c9 => absurd (by decide) c9)
    refine lv_bipush (v := (-3)) hx hb dX9_plan_32 (by decide) ?_
    exact W.iret (v := (-3)) hx hb hr (fun tq ht hW => ⟨⟨(-3), (uS [min, cro, cos, wkd, rst, tri, bes, (fun _ => bst)] 0 (fun _ => 0)), rfl, ⟨r_cro, r_wkd⟩, by rw [ht]; exact hP, hD⟩, hS.F ht⟩) hS.2.2 dX9_plan_34
set_option maxHeartbeats 4000000 in
set_option maxRecDepth 100000 in
theorem k_X9_judge (l : Launch) (dC : Nat → ClassId) (dI : Nat → Nat → Nat) (cI cZ cQ : ClassId) (a : Nat → Nat) (rb0 : Nat) (rb1 : Nat) (rb2 : Nat) (db0 : Nat) (db1 : Nat) (db2 : Nat) (min : Nat → Int32) (tri : Nat → Int32) (bes : Nat → Int32) (wkd : Nat → Int32) (cos : Nat → Int32) (rst : Nat → Int32) (bst : Int32) (top : Nat → Int32) (str : Nat → Int32) (gho : Nat → Int32) (ghs : Nat → Int32) (pto : Nat → Int32) (cro : Nat → Int32) (pla : Nat → Int32) (wal : Nat → Int32) (fal : Nat → Int32) (tel : Int32) (gai : Int32) (day : Int32) (mar : Nat → Int32) (few : Nat → Int32) (doo : Int32) (sz : Nat) (row : Int32) (n : Int32) (mi : Int32) (r_wkd : rg 8 (0) (15) wkd) (r_top : rg 48 (-1) (23) top) (r_str : rg 48 (0) (100) str) (r_gho : rg 48 (-1) (23) gho) (r_ghs : rg 48 (0) (100) ghs) (r_cro : rg 48 (0) (6) cro) (r_pla : rg 24 (-1) (47) pla) (r_fal : rg 11 (0) (30) fal) (r_gai : 0 ≤ gai.toInt ∧ gai.toInt ≤ 100) (r_day : 0 ≤ day.toInt ∧ day.toInt ≤ 400) (r_mar : rg 24 (0) (255) mar) : KW l yX9_judge wsX9_judge { frames := 7, cells := 0, slots := 0, locals := 153 } (dC, dI) (TY cI cZ cQ) (wsPl cI cZ cQ a rb0 rb1 rb2 db0 db1 db2 min tri bes wkd cos rst bst top str gho ghs pto cro pla wal fal tel gai day mar few doo) [.ref (a 43), .int row, .int n, .int mi] sz 0 0 (fun (r : Int32) (u : US) => (rg 48 (0) (6) (u.1 2)) ∧ (rg 8 (0) (15) (u.1 4))) (fun u : US => (wsPl cI cZ cQ a rb0 rb1 rb2 db0 db1 db2 (u.1 0) (u.1 1) bes (u.1 4) (u.1 3) rst bst top str gho ghs pto (u.1 2) pla wal fal tel gai day mar few doo)) := by
  refine Met.ofW (cc := cX9_judge) (maxL := 4) (ret := (some .int)) (by decide) rfl ?_
  intro p e s m args below meth c s₁ B hml hv
  obtain ⟨rfl, hsz, hP, hK, hD0, hN⟩ := hv
  have hx := B.exec
  have hb := B.bytes
  have hr := B.returns
  have hts := atoms_spec (ws := wsX9_judge) B.pre
  have hown : s.vm.findClass RX9 = some m.cls := findClass_of_methodNamed B.named
  have hlocks := B.notSynchronized
  have lf44 := hts (.fieldLink RX9 44 "PalaceOfRooms" "planner" "LPalaceOfRooms$Planner;") (by decide +kernel)
  have inX9 : ∀ w ∈ wsX90, w ∈ wsX9_judge := fun w h => List.mem_cons_of_mem _ (List.mem_append_left _ (List.mem_append_left _ (List.mem_append_left _ (List.mem_append_left _ (List.mem_append_right _ h)))))
  subst hsz
  have hD := hD0.self (sz := s.heap.size)
  generalize hAe : va_A (wsPl cI cZ cQ a rb0 rb1 rb2 db0 db1 db2 min tri bes wkd cos rst bst top str gho ghs pto cro pla wal fal tel gai day mar few doo) s.heap.size = A at hD ⊢
  have hA : ∀ q : Nat, s.heap.size ≤ q → A q := fun q h => by rw [← hAe]; exact Or.inr h
  have hS : va_S A s.heap s.heap [] := va_S.rf
  have hl := lv_entry ([.ref (a 43), .int row, .int n, .int mi]) (n := 4) (Nat.le_of_ble_eq_true rfl)
  rw [lg_entry_eq]
  generalize (lg_sl ([.ref (a 43), .int row, .int n, .int mi]) ++ List.replicate (4 - (lg_sl ([.ref (a 43), .int row, .int n, .int mi])).length) Slot.unset).toArray = ls at hl ⊢
  have hl : lv_has ls 4 [(0, .ref (a 43)), (1, .int row), (2, .int n), (3, .int mi)] := hl
  refine lv_iload_n hx hb dX9_judge_0 rfl (lv_at hl 2 rfl) ?_
  refine lv_iconst (v := 1) hx hb dX9_judge_1 (by decide) ?_
  refine lv_iconst (v := 4) hx hb dX9_judge_2 (by decide) ?_
  refine rdS (As := [.int n, .int 1, .int 4]) (rest := []) ⟨hx, hb, hml, hown, hts⟩ (k_X9_within l dC dI cI cZ cQ n (1 : Int32) (4 : Int32)) (va_cwS 3 hts gX9_judge_X9_within rfl rfl rfl (by decide +kernel) ⟨Nat.le_of_ble_eq_true rfl, Nat.le_of_ble_eq_true rfl⟩) hP hK hN [] rfl rfl hl.1 rfl (Nat.le_of_ble_eq_true rfl) dX9_judge_3 ⟨Nat.le_of_ble_eq_true rfl, Nat.le_of_ble_eq_true rfl⟩ (fun r1 h2 => ?_)
  have h2 : ((((r1 = 1) ∧ ((1) ≤ n.toInt) ∧ (n.toInt ≤ (4))) ∨ ((r1 = 0) ∧ (n.toInt < (1) ∨ (4) < n.toInt)))) := h2
  rcases h2 with (⟨rfl, h2_a0, h2_a1⟩ | ⟨rfl, h2_a0⟩)
  · refine lv_if_eq (tgt := 33) hx hb dX9_judge_6 (by decide) (fun c9 => absurd c9 (by decide)) (fun _ => ?_)
    refine lv_aload_n hx hb dX9_judge_9 rfl (lv_at hl 0 rfl) ?_
    refine va_get (D := (dC, dI)) (ci := 9) (v := .ref (a 16)) (C := RX9) (T := TX9) (N := 11) hx hb hts inX9 hown hK hP 0 rfl rfl 4 (by decide) lf44 (fun _ h9 => h9) rfl dX9_judge_10 ?_
    refine lv_iload_n hx hb dX9_judge_13 rfl (lv_at hl 1 rfl) ?_
    refine lv_iload_n hx hb dX9_judge_14 rfl (lv_at hl 2 rfl) ?_
    refine wrV (As := [.int row, .int n]) (rest := []) (wr := [((a 43), .inr (9, [.ref (a 0), .ref (a 2), .ref (a 4), .ref (a 14), .ref (a 16), .ref (a 23), .ref (a 28), .ref (a 33), .ref (a 42), .ref rb0, .ref db0]))]) (w2 := (fun u : US => (wsPl cI cZ cQ a rb0 rb1 rb2 db0 db1 db2 min (u.1 0) bes wkd cos rst bst top str gho ghs pto cro pla wal fal tel gai day mar few doo))) ⟨hx, hb, hml, hown, hts⟩ (k_X3_takeRooms l dC dI cI cZ cQ a min tri bes wkd cos rst bst top str gho ghs pto cro pla wal fal tel gai day mar few doo _ row n r_wkd r_top r_str r_gho r_ghs r_cro r_pla r_fal r_gai r_day r_mar (by omega) (by omega)) (cwV 2 hts gX9_judge_X3_takeRooms rfl rfl rfl (by decide +kernel) ⟨Nat.le_of_ble_eq_true rfl, Nat.le_of_ble_eq_true rfl⟩) hP hD hS hA hK hN [1, 2, 3, 4, 5, 6, 7, 8, 9, 10, 11, 12, 13, 14, 15, 16, 17, 18, 19, 20, 21] [0] [0, 1, 2, 3, 4, 5, 6, 7, 8, 9, 10, 11, 12, 13, 14, 15, 16, 17, 18, 19, 20, 21] rfl rfl (by decide) (by decide) (by decide) (fun _ => rfl) (by decide) 1 3 rfl rfl rfl hl.1 rfl (Nat.le_of_ble_eq_true rfl) dX9_judge_15 ⟨Nat.le_of_ble_eq_true rfl, Nat.le_of_ble_eq_true rfl⟩ (fun r3 u5 H locs h4 hP hD hS => ?_)
    obtain ⟨tri_c6, etri_c6⟩ : ∃ f : Nat → Int32, f = (u5.1 0) := ⟨_, rfl⟩
    have hP : va_P (dC, dI) vwCl (wsPl cI cZ cQ a rb0 rb1 rb2 db0 db1 db2 min tri_c6 bes wkd cos rst bst top str gho ghs pto cro pla wal fal tel gai day mar few doo) H := by rw [etri_c6]; exact hP
    have hD : va_D A (wsPl cI cZ cQ a rb0 rb1 rb2 db0 db1 db2 min tri_c6 bes wkd cos rst bst top str gho ghs pto cro pla wal fal tel gai day mar few doo) := by rw [etri_c6]; exact hD
    have h4 : ((((r3 = 1)) ∨ ((r3 = 0)))) := by (try rw [etri_c6]); exact h4
    rcases h4 with (rfl | rfl)
    · refine lv_if_eq (tgt := 33) hx hb dX9_judge_18 (by decide) (fun c9 => absurd c9 (by decide)) (fun _ => ?_)
      refine lv_aload_n hx hb dX9_judge_21 rfl (lv_at hl 0 rfl) ?_
      refine va_get (D := (dC, dI)) (ci := 9) (v := .ref (a 16)) (C := RX9) (T := TX9) (N := 11) hx hb hts inX9 hown hK hP 0 rfl rfl 4 (by decide) lf44 (fun _ h9 => h9) rfl dX9_judge_22 ?_
      refine lv_iload_n hx hb dX9_judge_25 rfl (lv_at hl 3 rfl) ?_
      refine lv_iload_n hx hb dX9_judge_26 rfl (lv_at hl 2 rfl) ?_
      refine wrV (As := [.int mi, .int n]) (rest := []) (wr := [((a 43), .inr (9, [.ref (a 0), .ref (a 2), .ref (a 4), .ref (a 14), .ref (a 16), .ref (a 23), .ref (a 28), .ref (a 33), .ref (a 42), .ref rb0, .ref db0]))]) (w2 := (fun u : US => (wsPl cI cZ cQ a rb0 rb1 rb2 db0 db1 db2 (u.1 0) tri_c6 bes wkd cos rst bst top str gho ghs pto cro pla wal fal tel gai day mar few doo))) ⟨hx, hb, hml, hown, hts⟩ (k_X3_takeMinutes l dC dI cI cZ cQ a min tri_c6 bes wkd cos rst bst top str gho ghs pto cro pla wal fal tel gai day mar few doo _ mi n r_wkd r_top r_str r_gho r_ghs r_cro r_pla r_fal r_gai r_day r_mar (by omega) (by omega)) (cwV 2 hts gX9_judge_X3_takeMinutes rfl rfl rfl (by decide +kernel) ⟨Nat.le_of_ble_eq_true rfl, Nat.le_of_ble_eq_true rfl⟩) hP hD hS hA hK hN [1, 2, 3, 4, 5, 6, 7, 8, 9, 10, 11, 12, 13, 14, 15, 16, 17, 18, 19, 20, 21] [0] [0, 1, 2, 3, 4, 5, 6, 7, 8, 9, 10, 11, 12, 13, 14, 15, 16, 17, 18, 19, 20, 21] rfl rfl (by decide) (by decide) (by decide) (fun _ => rfl) (by decide) 1 3 rfl rfl rfl hl.1 rfl (Nat.le_of_ble_eq_true rfl) dX9_judge_27 ⟨Nat.le_of_ble_eq_true rfl, Nat.le_of_ble_eq_true rfl⟩ (fun r7 u9 H locs h8 hP hD hS => ?_)
      obtain ⟨min_c10, emin_c10⟩ : ∃ f : Nat → Int32, f = (u9.1 0) := ⟨_, rfl⟩
      have hP : va_P (dC, dI) vwCl (wsPl cI cZ cQ a rb0 rb1 rb2 db0 db1 db2 min_c10 tri_c6 bes wkd cos rst bst top str gho ghs pto cro pla wal fal tel gai day mar few doo) H := by rw [emin_c10]; exact hP
      have hD : va_D A (wsPl cI cZ cQ a rb0 rb1 rb2 db0 db1 db2 min_c10 tri_c6 bes wkd cos rst bst top str gho ghs pto cro pla wal fal tel gai day mar few doo) := by rw [emin_c10]; exact hD
      have h8 : ((((r7 = 1)) ∨ ((r7 = 0)))) := by (try rw [emin_c10]); exact h8
      rcases h8 with (rfl | rfl)
      · refine lv_if_ne (tgt := 36) hx hb dX9_judge_30 (by decide) (fun _ => ?_) (fun c9 => absurd c9 (by decide))
        refine lv_aload_n hx hb dX9_judge_36 rfl (lv_at hl 0 rfl) ?_
        refine va_get (D := (dC, dI)) (ci := 9) (v := .ref (a 16)) (C := RX9) (T := TX9) (N := 11) hx hb hts inX9 hown hK hP 0 rfl rfl 4 (by decide) lf44 (fun _ h9 => h9) rfl dX9_judge_37 ?_
        refine lv_iload_n hx hb dX9_judge_40 rfl (lv_at hl 2 rfl) ?_
        refine wrV (As := [.int n]) (rest := []) (wr := [((a 43), .inr (9, [.ref (a 0), .ref (a 2), .ref (a 4), .ref (a 14), .ref (a 16), .ref (a 23), .ref (a 28), .ref (a 33), .ref (a 42), .ref rb0, .ref db0]))]) (w2 := (fun u : US => (wsPl cI cZ cQ a rb0 rb1 rb2 db0 db1 db2 min_c10 tri_c6 bes (u.1 2) (u.1 1) rst bst top str gho ghs pto (u.1 0) pla wal fal tel gai day mar few doo))) ⟨hx, hb, hml, hown, hts⟩ (k_X3_strengthBehindTrial l dC dI cI cZ cQ a min_c10 tri_c6 bes wkd cos rst bst top str gho ghs pto cro pla wal fal tel gai day mar few doo _ n r_wkd r_top r_str r_gho r_ghs r_cro r_pla r_fal r_gai r_day r_mar (by omega) (by omega)) (cwV 1 hts gX9_judge_X3_strengthBehindTrial rfl rfl rfl (by decide +kernel) ⟨Nat.le_of_ble_eq_true rfl, Nat.le_of_ble_eq_true rfl⟩) hP hD hS hA hK hN [1, 2, 3, 4, 5, 6, 7, 8, 9, 10, 11, 12, 13, 14, 15, 16, 17, 18, 19, 20, 21] [0] [0, 1, 2, 3, 4, 5, 6, 7, 8, 9, 10, 11, 12, 13, 14, 15, 16, 17, 18, 19, 20, 21] rfl rfl (by decide) (by decide) (by decide) (fun _ => rfl) (by decide) 1 3 rfl rfl rfl hl.1 rfl (Nat.le_of_ble_eq_true rfl) dX9_judge_41 ⟨Nat.le_of_ble_eq_true rfl, Nat.le_of_ble_eq_true rfl⟩ (fun r11 u13 H locs h12 hP hD hS => ?_)
        obtain ⟨cro_c14, ecro_c14⟩ : ∃ f : Nat → Int32, f = (u13.1 0) := ⟨_, rfl⟩
        obtain ⟨cos_c15, ecos_c15⟩ : ∃ f : Nat → Int32, f = (u13.1 1) := ⟨_, rfl⟩
        obtain ⟨wkd_c16, ewkd_c16⟩ : ∃ f : Nat → Int32, f = (u13.1 2) := ⟨_, rfl⟩
        have hP : va_P (dC, dI) vwCl (wsPl cI cZ cQ a rb0 rb1 rb2 db0 db1 db2 min_c10 tri_c6 bes wkd_c16 cos_c15 rst bst top str gho ghs pto cro_c14 pla wal fal tel gai day mar few doo) H := by rw [ecro_c14, ecos_c15, ewkd_c16]; exact hP
        have hD : va_D A (wsPl cI cZ cQ a rb0 rb1 rb2 db0 db1 db2 min_c10 tri_c6 bes wkd_c16 cos_c15 rst bst top str gho ghs pto cro_c14 pla wal fal tel gai day mar few doo) := by rw [ecro_c14, ecos_c15, ewkd_c16]; exact hD
        have h12 : (rg 48 (0) (6) cro_c14) ∧ (rg 8 (0) (15) wkd_c16) := by (try rw [ecro_c14]); (try rw [ecos_c15]); (try rw [ewkd_c16]); exact h12
        obtain ⟨h12_0, h12_1⟩ := h12
        exact W.iret (v := r11) hx hb hr (fun tq ht hW => ⟨⟨r11, (uS [min_c10, tri_c6, cro_c14, cos_c15, wkd_c16] 0 (fun _ => 0)), rfl, ⟨h12_0, h12_1⟩, by rw [ht]; exact hP, hD⟩, hS.F ht⟩) hS.2.2 dX9_judge_44
      · refine lv_if_ne (tgt := 36) hx hb dX9_judge_30 (by decide) (fun c9 => absurd (by decide) c9) (fun _ => ?_)
        refine lv_bipush (v := (-3)) hx hb dX9_judge_33 (by decide) ?_
        exact W.iret (v := (-3)) hx hb hr (fun tq ht hW => ⟨⟨(-3), (uS [min_c10, tri_c6, cro, cos, wkd] 0 (fun _ => 0)), rfl, ⟨r_cro, r_wkd⟩, by rw [ht]; exact hP, hD⟩, hS.F ht⟩) hS.2.2 dX9_judge_35
    · refine lv_if_eq (tgt := 33) hx hb dX9_judge_18 (by decide) (fun _ => ?_) (fun c9 => absurd (by decide) c9)
      refine lv_bipush (v := (-3)) hx hb dX9_judge_33 (by decide) ?_
      exact W.iret (v := (-3)) hx hb hr (fun tq ht hW => ⟨⟨(-3), (uS [min, tri_c6, cro, cos, wkd] 0 (fun _ => 0)), rfl, ⟨r_cro, r_wkd⟩, by rw [ht]; exact hP, hD⟩, hS.F ht⟩) hS.2.2 dX9_judge_35
  · refine lv_if_eq (tgt := 33) hx hb dX9_judge_6 (by decide) (fun _ => ?_) (fun c9 => absurd (by decide) c9)
    refine lv_bipush (v := (-3)) hx hb dX9_judge_33 (by decide) ?_
    exact W.iret (v := (-3)) hx hb hr (fun tq ht hW => ⟨⟨(-3), (uS [min, tri, cro, cos, wkd] 0 (fun _ => 0)), rfl, ⟨r_cro, r_wkd⟩, by rw [ht]; exact hP, hD⟩, hS.F ht⟩) hS.2.2 dX9_judge_35
