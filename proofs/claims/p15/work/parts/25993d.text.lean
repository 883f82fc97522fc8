set_option maxHeartbeats 4000000 in
set_option maxRecDepth 100000 in
theorem k_X7_readRoomLine2 (l : Launch) (dC : Nat → ClassId) (dI : Nat → Nat → Nat) (cI cZ cQ : ClassId) (a : Nat → Nat) (rb0 : Nat) (rb1 : Nat) (rb2 : Nat) (byt : Nat → Int32) (len : Int32) (tst : Int32) (ten : Int32) (mos : Nat → Int32) (wev : Nat → Int32) (aga : Int32) (apa : Int32) (lin : Int32) (sz : Nat) (r_len : 0 ≤ len.toInt ∧ len.toInt ≤ 160) (r_tst : 0 ≤ tst.toInt ∧ tst.toInt ≤ 160) (r_ten : 0 ≤ ten.toInt ∧ ten.toInt ≤ 160) (q0 : ten.toInt ≤ len.toInt) : KW l yX7_readRoomLine wsX7_readRoomLine { frames := 4, cells := 0, slots := 0, locals := 89 } (dC, dI) (TY cI cZ cQ) (wTxR cI cZ cQ a rb0 rb1 rb2 byt len tst ten mos wev aga apa lin) [.ref (a 14), .ref rb0] sz 0 0 (fun (r : Int32) (u : US) => ((((r = 1) ∧ (∃ x y : Int32, rmT byt len.toInt ten.toInt x y (u.1 0 0).toInt (u.1 1 0).toInt ∧ (u.1 2) = upd mos x.toNatClampNeg y)) ∨ ((r = 0) ∧ (rmN byt len.toInt ten.toInt (u.1 0 0).toInt)))) ∧ ((u.1 0 0).toInt ≤ (u.1 1 0).toInt) ∧ ((u.1 1 0).toInt ≤ len.toInt) ∧ (0 ≤ (u.1 0 0).toInt ∧ (u.1 0 0).toInt ≤ 160) ∧ (0 ≤ (u.1 1 0).toInt ∧ (u.1 1 0).toInt ≤ 160)) (fun u : US => (wTxR cI cZ cQ a rb0 rb1 rb2 byt len (u.1 0 0) (u.1 1 0) (u.1 2) wev aga apa lin)) := by
  refine Met.ofW (cc := cX7_readRoomLine) (maxL := 3) (ret := (some .boolean)) (by decide) rfl ?_
  intro p e s m args below meth c s₁ B hml hv
  obtain ⟨rfl, hsz, hP, hK, hD0, hN⟩ := hv
  have hx := B.exec
  have hb := B.bytes
  have hr := B.returns
  have hts := atoms_spec (ws := wsX7_readRoomLine) B.pre
  have hown : s.vm.findClass RX7 = some m.cls := findClass_of_methodNamed B.named
  have hlocks := B.notSynchronized
  have lf68 := hN.use (w := .fieldLinkNest "PalaceOfRooms$Text" 68 "PalaceOfRooms$RuleBook" "mostIn" "[I" "PalaceOfRooms") (List.mem_of_getElem? (i := 21) rfl) ([.ref (a 14), .ref rb0] : List Value).toArray
  have inX5 : ∀ w ∈ wsX50, w ∈ wsX7_readRoomLine := fun w h => List.mem_cons_of_mem _ (List.mem_append_left _ (List.mem_append_right _ h))
  subst hsz
  have hD := hD0.self (sz := s.heap.size)
  generalize hAe : va_A (wTxR cI cZ cQ a rb0 rb1 rb2 byt len tst ten mos wev aga apa lin) s.heap.size = A at hD ⊢
  have hA : ∀ q : Nat, s.heap.size ≤ q → A q := fun q h => by rw [← hAe]; exact Or.inr h
  have hS : va_S A s.heap s.heap [] := va_S.rf
  have hl := lv_entry ([.ref (a 14), .ref rb0]) (n := 3) (Nat.le_of_ble_eq_true rfl)
  rw [lg_entry_eq]
  generalize (lg_sl ([.ref (a 14), .ref rb0]) ++ List.replicate (3 - (lg_sl ([.ref (a 14), .ref rb0])).length) Slot.unset).toArray = ls at hl ⊢
  have hl : lv_has ls 3 [(0, .ref (a 14)), (1, .ref rb0)] := hl
  refine lv_aload_n hx hb dX7_readRoomLine_0 rfl (lv_at hl 0 rfl) ?_
  refine lv_iconst (v := 0) hx hb dX7_readRoomLine_1 (by decide) ?_
  refine lv_bipush (v := 7) hx hb dX7_readRoomLine_2 (by decide) ?_
  refine wrV (As := [.int 0, .int 7]) (rest := []) (wr := [(rb0, .inr (5, [.ref rb1, .ref rb2, .int aga, .int apa, .int lin])), (rb1, .inl (cI, 8, .inl mos)), (rb2, .inl (cI, 8, .inl wev))]) (w2 := (fun u : US => (wTxR cI cZ cQ a rb0 rb1 rb2 byt len (u.1 0 0) (u.1 1 0) mos wev aga apa lin))) ⟨hx, hb, hml, hown, hts⟩ (k_X7_readNumber2 l dC dI cI cZ cQ a byt len tst ten _ (0 : Int32) (7 : Int32) r_len r_tst r_ten (by omega)) (cwV 2 hts gX7_readRoomLine_X7_readNumber rfl rfl rfl (by decide +kernel) ⟨Nat.le_of_ble_eq_true rfl, Nat.le_of_ble_eq_true rfl⟩) hP hD hS hA hK hN [0, 1] [2, 3, 4] [3, 4, 0, 1, 2] rfl rfl (by decide) (by decide) (by decide) (fun _ => rfl) (by decide) 0 7 rfl rfl rfl hl.1 rfl (Nat.le_of_ble_eq_true rfl) dX7_readRoomLine_4 ⟨Nat.le_of_ble_eq_true rfl, Nat.le_of_ble_eq_true rfl⟩ (fun r1 u3 H locs h2 hP hD hS => ?_)
  obtain ⟨tst_c4, etst_c4⟩ : ∃ f : Int32, f = (u3.1 0 0) := ⟨_, rfl⟩
  obtain ⟨ten_c5, eten_c5⟩ : ∃ f : Int32, f = (u3.1 1 0) := ⟨_, rfl⟩
  have hP : va_P (dC, dI) vwCl (wTxR cI cZ cQ a rb0 rb1 rb2 byt len tst_c4 ten_c5 mos wev aga apa lin) H := by rw [etst_c4, eten_c5]; exact hP
  have hD : va_D A (wTxR cI cZ cQ a rb0 rb1 rb2 byt len tst_c4 ten_c5 mos wev aga apa lin) := by rw [etst_c4, eten_c5]; exact hD
  have h2 : (tst_c4.toInt ≤ ten_c5.toInt) ∧ (ten_c5.toInt ≤ len.toInt) ∧ (r1.toInt = -1 ∨ ((0) ≤ r1.toInt ∧ r1.toInt ≤ (7))) ∧ (tst_c4.toInt = tS byt len.toInt ten.toInt) ∧ (ten_c5.toInt = nx byt len.toInt ten.toInt) ∧ (nuP byt len.toInt ten.toInt (0) (7) r1) ∧ (0 ≤ tst_c4.toInt ∧ tst_c4.toInt ≤ 160) ∧ (0 ≤ ten_c5.toInt ∧ ten_c5.toInt ≤ 160) := by (try rw [etst_c4]); (try rw [eten_c5]); exact h2
  obtain ⟨h2_0, h2_1, h2_2, h2_3, h2_4, h2_5, h2_6, h2_7⟩ := h2
  refine lv_istore_n (lv' := [(2, .int r1), (0, .ref (a 14)), (1, .ref rb0)]) hx hb dX7_readRoomLine_7 rfl hl (by decide) rfl (fun ls hl => ?_)
  refine lv_iload_n hx hb dX7_readRoomLine_8 rfl (lv_at hl 0 rfl) ?_
  refine lv_iconst (v := (-1)) hx hb dX7_readRoomLine_9 (by decide) ?_
  refine lv_icmp_ne (tgt := 15) hx hb dX7_readRoomLine_10 (by decide) (fun c6 => ?_) (fun c6 => ?_)
  · have dc6 : r1.toInt ≠ (-1) := neC rfl (show ((-1) : Int32).toInt = (-1) from rfl) c6
    refine lv_aload_n hx hb dX7_readRoomLine_15 rfl (lv_at hl 2 rfl) ?_
    refine va_getN (D := (dC, dI)) (ci := 5) (v := .ref rb1) (C := RX5) (T := TX5) (N := 5) hx hb hts inX5 hown hK hP 2 rfl rfl 0 (by decide) lf68 (fun _ h9 => h9) rfl dX7_readRoomLine_16 ?_
    refine lv_iload_n hx hb dX7_readRoomLine_19 rfl (lv_at hl 0 rfl) ?_
    refine lv_aload_n hx hb dX7_readRoomLine_20 rfl (lv_at hl 1 rfl) ?_
    refine lv_iconst (v := 0) hx hb dX7_readRoomLine_21 (by decide) ?_
    refine lv_bipush (v := 8) hx hb dX7_readRoomLine_22 (by decide) ?_
    refine wrV (As := [.int 0, .int 8]) (rest := [.int r1, .ref rb1]) (wr := [(rb0, .inr (5, [.ref rb1, .ref rb2, .int aga, .int apa, .int lin])), (rb1, .inl (cI, 8, .inl mos)), (rb2, .inl (cI, 8, .inl wev))]) (w2 := (fun u : US => (wTxR cI cZ cQ a rb0 rb1 rb2 byt len (u.1 0 0) (u.1 1 0) mos wev aga apa lin))) ⟨hx, hb, hml, hown, hts⟩ (k_X7_readNumber2 l dC dI cI cZ cQ a byt len tst_c4 ten_c5 _ (0 : Int32) (8 : Int32) r_len h2_6 h2_7 (by omega)) (cwV 2 hts gX7_readRoomLine_X7_readNumber rfl rfl rfl (by decide +kernel) ⟨Nat.le_of_ble_eq_true rfl, Nat.le_of_ble_eq_true rfl⟩) hP hD hS hA hK hN [0, 1] [2, 3, 4] [3, 4, 0, 1, 2] rfl rfl (by decide) (by decide) (by decide) (fun _ => rfl) (by decide) 0 7 rfl rfl rfl hl.1 rfl (Nat.le_of_ble_eq_true rfl) dX7_readRoomLine_24 ⟨Nat.le_of_ble_eq_true rfl, Nat.le_of_ble_eq_true rfl⟩ (fun r7 u9 H locs h8 hP hD hS => ?_)
    obtain ⟨tst_c10, etst_c10⟩ : ∃ f : Int32, f = (u9.1 0 0) := ⟨_, rfl⟩
    obtain ⟨ten_c11, eten_c11⟩ : ∃ f : Int32, f = (u9.1 1 0) := ⟨_, rfl⟩
    have hP : va_P (dC, dI) vwCl (wTxR cI cZ cQ a rb0 rb1 rb2 byt len tst_c10 ten_c11 mos wev aga apa lin) H := by rw [etst_c10, eten_c11]; exact hP
    have hD : va_D A (wTxR cI cZ cQ a rb0 rb1 rb2 byt len tst_c10 ten_c11 mos wev aga apa lin) := by rw [etst_c10, eten_c11]; exact hD
    have h8 : (tst_c10.toInt ≤ ten_c11.toInt) ∧ (ten_c11.toInt ≤ len.toInt) ∧ (r7.toInt = -1 ∨ ((0) ≤ r7.toInt ∧ r7.toInt ≤ (8))) ∧ (tst_c10.toInt = tS byt len.toInt ten_c5.toInt) ∧ (ten_c11.toInt = nx byt len.toInt ten_c5.toInt) ∧ (nuP byt len.toInt ten_c5.toInt (0) (8) r7) ∧ (0 ≤ tst_c10.toInt ∧ tst_c10.toInt ≤ 160) ∧ (0 ≤ ten_c11.toInt ∧ ten_c11.toInt ≤ 160) := by (try rw [etst_c10]); (try rw [eten_c11]); exact h8
    obtain ⟨h8_0, h8_1, h8_2, h8_3, h8_4, h8_5, h8_6, h8_7⟩ := h8
    have b12 : vp_in r1 8 := inC rfl (by omega) (by omega)
    refine va_iast hx hb hK hP hD hS 3 0 rfl rfl b12 dX7_readRoomLine_27 (fun H locs hP hD hS => ?_)
    obtain ⟨mos_u13, emos_u13⟩ : ∃ f : Nat → Int32, f = upd mos r1.toNatClampNeg r7 := ⟨_, rfl⟩
    have hP : va_P (dC, dI) vwCl (wTxR cI cZ cQ a rb0 rb1 rb2 byt len tst_c10 ten_c11 mos_u13 wev aga apa lin) H := by rw [emos_u13]; exact hP
    have hD : va_D A (wTxR cI cZ cQ a rb0 rb1 rb2 byt len tst_c10 ten_c11 mos_u13 wev aga apa lin) := by rw [emos_u13]; exact hD
    refine lv_aload_n hx hb dX7_readRoomLine_28 rfl (lv_at hl 2 rfl) ?_
    refine va_getN (D := (dC, dI)) (ci := 5) (v := .ref rb1) (C := RX5) (T := TX5) (N := 5) hx hb hts inX5 hown hK hP 2 rfl rfl 0 (by decide) lf68 (fun _ h9 => h9) rfl dX7_readRoomLine_29 ?_
    refine lv_iload_n hx hb dX7_readRoomLine_32 rfl (lv_at hl 0 rfl) ?_
    have b14 : vp_in r1 8 := inC rfl (by omega) (by omega)
    refine va_iald hx hb hK hP 3 0 rfl rfl b14 dX7_readRoomLine_33 ?_
    have o15 : (mos_u13 r1.toNatClampNeg).toInt = r7.toInt := by rw [emos_u13, pk_us]
    refine lv_iconst (v := (-1)) hx hb dX7_readRoomLine_34 (by decide) ?_
    refine lv_icmp_eq (tgt := 42) hx hb dX7_readRoomLine_35 (by decide) (fun c16 => ?_) (fun c16 => ?_)
    · have dc16 : (mos_u13 r1.toNatClampNeg).toInt = (-1) := eqC rfl (show ((-1) : Int32).toInt = (-1) from rfl) c16
      refine lv_iconst (v := 0) hx hb dX7_readRoomLine_42 (by decide) ?_
      exact W.zret (v := 0) hx hb hr (by decide) (fun tq ht hW => ⟨⟨0, (uS [(fun _ => tst_c10), (fun _ => ten_c11), mos_u13] 0 (fun _ => 0)), rfl, ⟨(Or.inr (⟨rfl, (show rmN byt len.toInt ten.toInt tst_c10.toInt from by (try rw [show (0 : Int32).toInt = 0 from (show (0 : Int32).toInt = 0 from rfl)]); (first | exact ⟨_, _, rm_yes (by assumption) (by assumption) (by assumption) (by assumption) (ne_m1 (by omega)) (by assumption) (by assumption), by assumption⟩ | exact rm_n1 (by assumption) (by assumption) (by assumption) | exact rm_n2 (by assumption) (by assumption) (by assumption) (by assumption) (eq_m1 (by omega)) (by assumption)))⟩)), (show tst_c10.toInt ≤ ten_c11.toInt from by (try rw [show (0 : Int32).toInt = 0 from (show (0 : Int32).toInt = 0 from rfl)]); omega), (show ten_c11.toInt ≤ len.toInt from by (try rw [show (0 : Int32).toInt = 0 from (show (0 : Int32).toInt = 0 from rfl)]); omega), h8_6, h8_7⟩, by rw [ht]; exact hP, hD⟩, hS.F ht⟩) hS.2.2 dX7_readRoomLine_43
    · have dc16 : (mos_u13 r1.toNatClampNeg).toInt ≠ (-1) := neC rfl (show ((-1) : Int32).toInt = (-1) from rfl) c16
      refine lv_iconst (v := 1) hx hb dX7_readRoomLine_38 (by decide) ?_
      refine lv_goto (tgt := 43) hx hb dX7_readRoomLine_39 (by decide) ?_
      exact W.zret (v := 1) hx hb hr (by decide) (fun tq ht hW => ⟨⟨1, (uS [(fun _ => tst_c10), (fun _ => ten_c11), mos_u13] 0 (fun _ => 0)), rfl, ⟨(Or.inl (⟨rfl, (show ∃ x y : Int32, rmT byt len.toInt ten.toInt x y tst_c10.toInt ten_c11.toInt ∧ mos_u13 = upd mos x.toNatClampNeg y from by (try rw [show (1 : Int32).toInt = 1 from (show (1 : Int32).toInt = 1 from rfl)]); (first | exact ⟨_, _, rm_yes (by assumption) (by assumption) (by assumption) (by assumption) (ne_m1 (by omega)) (by assumption) (by assumption), by assumption⟩ | exact rm_n1 (by assumption) (by assumption) (by assumption) | exact rm_n2 (by assumption) (by assumption) (by assumption) (by assumption) (eq_m1 (by omega)) (by assumption)))⟩)), (show tst_c10.toInt ≤ ten_c11.toInt from by (try rw [show (1 : Int32).toInt = 1 from (show (1 : Int32).toInt = 1 from rfl)]); omega), (show ten_c11.toInt ≤ len.toInt from by (try rw [show (1 : Int32).toInt = 1 from (show (1 : Int32).toInt = 1 from rfl)]); omega), h8_6, h8_7⟩, by rw [ht]; exact hP, hD⟩, hS.F ht⟩) hS.2.2 dX7_readRoomLine_43
  · have dc6 : r1.toInt = (-1) := eqC rfl (show ((-1) : Int32).toInt = (-1) from rfl) c6
    refine lv_iconst (v := 0) hx hb dX7_readRoomLine_13 (by decide) ?_
    exact W.zret (v := 0) hx hb hr (by decide) (fun tq ht hW => ⟨⟨0, (uS [(fun _ => tst_c4), (fun _ => ten_c5), mos] 0 (fun _ => 0)), rfl, ⟨(Or.inr (⟨rfl, (show rmN byt len.toInt ten.toInt tst_c4.toInt from by (try rw [show (0 : Int32).toInt = 0 from (show (0 : Int32).toInt = 0 from rfl)]); (first | exact ⟨_, _, rm_yes (by assumption) (by assumption) (by assumption) (by assumption) (ne_m1 (by omega)) (by assumption) (by assumption), by assumption⟩ | exact rm_n1 (by assumption) (by assumption) (by assumption) | exact rm_n2 (by assumption) (by assumption) (by assumption) (by assumption) (eq_m1 (by omega)) (by assumption)))⟩)), (show tst_c4.toInt ≤ ten_c5.toInt from by (try rw [show (0 : Int32).toInt = 0 from (show (0 : Int32).toInt = 0 from rfl)]); omega), (show ten_c5.toInt ≤ len.toInt from by (try rw [show (0 : Int32).toInt = 0 from (show (0 : Int32).toInt = 0 from rfl)]); omega), h2_6, h2_7⟩, by rw [ht]; exact hP, hD⟩, hS.F ht⟩) hS.2.2 dX7_readRoomLine_14
