set_option maxHeartbeats 4000000 in
set_option maxRecDepth 100000 in
theorem k_X7_readWalkLine2 (l : Launch) (dC : Nat → ClassId) (dI : Nat → Nat → Nat) (cI cZ cQ : ClassId) (a : Nat → Nat) (rb0 : Nat) (rb1 : Nat) (rb2 : Nat) (byt : Nat → Int32) (len : Int32) (tst : Int32) (ten : Int32) (mos : Nat → Int32) (wev : Nat → Int32) (aga : Int32) (apa : Int32) (lin : Int32) (ak av : Nat → Nat) (sz : Nat) (r_len : 0 ≤ len.toInt ∧ len.toInt ≤ 160) (r_tst : 0 ≤ tst.toInt ∧ tst.toInt ≤ 160) (r_ten : 0 ≤ ten.toInt ∧ ten.toInt ≤ 160) (q0 : ten.toInt ≤ len.toInt) : KWS l yX7_readWalkLine wsX7_readWalkLine { frames := 5, cells := 0, slots := 0, locals := 107 } (dC, dI) (TY cI cZ cQ) (wTxR cI cZ cQ a rb0 rb1 rb2 byt len tst ten mos wev aga apa lin) ak av [.ref (a 14), .ref rb0] sz 0 0 (fun (r : Int32) (u : US) => ((((r = 1) ∧ (∃ x y : Int32, wkT byt len.toInt ten.toInt x y (u.1 0 0).toInt (u.1 1 0).toInt ∧ (u.1 2) = upd wev x.toNatClampNeg y)) ∨ ((r = 0) ∧ (wkN byt len.toInt ten.toInt (u.1 0 0).toInt)))) ∧ ((u.1 0 0).toInt ≤ (u.1 1 0).toInt) ∧ ((u.1 1 0).toInt ≤ len.toInt) ∧ (0 ≤ (u.1 0 0).toInt ∧ (u.1 0 0).toInt ≤ 160) ∧ (0 ≤ (u.1 1 0).toInt ∧ (u.1 1 0).toInt ≤ 160)) (fun u : US => (wTxR cI cZ cQ a rb0 rb1 rb2 byt len (u.1 0 0) (u.1 1 0) mos (u.1 2) aga apa lin)) := by
  refine Met.ofW (cc := cX7_readWalkLine) (maxL := 3) (ret := (some .boolean)) (by decide) rfl ?_
  intro p e s m args below meth c s₁ B hml hv
  obtain ⟨rfl, hsz, hP, hK, hD0, hN, hSV⟩ := hv
  have hx := B.exec
  have hb := B.bytes
  have hr := B.returns
  have hts := atoms_spec (ws := wsX7_readWalkLine) B.pre
  have hown : s.vm.findClass RX7 = some m.cls := findClass_of_methodNamed B.named
  have hlocks := B.notSynchronized
  have lf73 := hN.use (w := .fieldLinkNest "PalaceOfRooms$Text" 73 "PalaceOfRooms$RuleBook" "walkEvery" "[I" "PalaceOfRooms") (List.mem_of_getElem? (i := 23) rfl) ([.ref (a 14), .ref rb0] : List Value).toArray
  have inX5 : ∀ w ∈ wsX50, w ∈ wsX7_readWalkLine := fun w h => List.mem_cons_of_mem _ (List.mem_append_left _ (List.mem_append_right _ h))
  subst hsz
  have hD := hD0.self (sz := s.heap.size)
  generalize hAe : va_A (wTxR cI cZ cQ a rb0 rb1 rb2 byt len tst ten mos wev aga apa lin) s.heap.size = A at hD hSV ⊢
  have hA : ∀ q : Nat, s.heap.size ≤ q → A q := fun q h => by rw [← hAe]; exact Or.inr h
  have hS : va_S A s.heap s.heap [] := va_S.rf
  have hl := lv_entry ([.ref (a 14), .ref rb0]) (n := 3) (Nat.le_of_ble_eq_true rfl)
  rw [lg_entry_eq]
  generalize (lg_sl ([.ref (a 14), .ref rb0]) ++ List.replicate (3 - (lg_sl ([.ref (a 14), .ref rb0])).length) Slot.unset).toArray = ls at hl ⊢
  have hl : lv_has ls 3 [(0, .ref (a 14)), (1, .ref rb0)] := hl
  refine lv_aload_n hx hb dX7_readWalkLine_0 rfl (lv_at hl 0 rfl) ?_
  refine lv_iconst (v := 0) hx hb dX7_readWalkLine_1 (by decide) ?_
  refine lv_bipush (v := 7) hx hb dX7_readWalkLine_2 (by decide) ?_
  refine wrV (As := [.int 0, .int 7]) (rest := []) (wr := [(rb0, .inr (5, [.ref rb1, .ref rb2, .int aga, .int apa, .int lin])), (rb1, .inl (cI, 8, .inl mos)), (rb2, .inl (cI, 8, .inl wev))]) (w2 := (fun u : US => (wTxR cI cZ cQ a rb0 rb1 rb2 byt len (u.1 0 0) (u.1 1 0) mos wev aga apa lin))) ⟨hx, hb, hml, hown, hts⟩ (k_X7_readNumber2 l dC dI cI cZ cQ a byt len tst ten _ (0 : Int32) (7 : Int32) r_len r_tst r_ten (by omega)) (cwV 2 hts gX7_readWalkLine_X7_readNumber rfl rfl rfl (by decide +kernel) ⟨Nat.le_of_ble_eq_true rfl, Nat.le_of_ble_eq_true rfl⟩) hP hD hS hA hK hN [0, 1] [2, 3, 4] [3, 4, 0, 1, 2] rfl rfl (by decide) (by decide) (by decide) (fun _ => rfl) (by decide) 0 7 rfl rfl rfl hl.1 rfl (Nat.le_of_ble_eq_true rfl) dX7_readWalkLine_4 ⟨Nat.le_of_ble_eq_true rfl, Nat.le_of_ble_eq_true rfl⟩ (fun r1 u3 H locs h2 hP hD hS => ?_)
  obtain ⟨tst_c4, etst_c4⟩ : ∃ f : Int32, f = (u3.1 0 0) := ⟨_, rfl⟩
  obtain ⟨ten_c5, eten_c5⟩ : ∃ f : Int32, f = (u3.1 1 0) := ⟨_, rfl⟩
  have hP : va_P (dC, dI) vwCl (wTxR cI cZ cQ a rb0 rb1 rb2 byt len tst_c4 ten_c5 mos wev aga apa lin) H := by rw [etst_c4, eten_c5]; exact hP
  have hD : va_D A (wTxR cI cZ cQ a rb0 rb1 rb2 byt len tst_c4 ten_c5 mos wev aga apa lin) := by rw [etst_c4, eten_c5]; exact hD
  have h2 : (tst_c4.toInt ≤ ten_c5.toInt) ∧ (ten_c5.toInt ≤ len.toInt) ∧ (r1.toInt = -1 ∨ ((0) ≤ r1.toInt ∧ r1.toInt ≤ (7))) ∧ (tst_c4.toInt = tS byt len.toInt ten.toInt) ∧ (ten_c5.toInt = nx byt len.toInt ten.toInt) ∧ (nuP byt len.toInt ten.toInt (0) (7) r1) ∧ (0 ≤ tst_c4.toInt ∧ tst_c4.toInt ≤ 160) ∧ (0 ≤ ten_c5.toInt ∧ ten_c5.toInt ≤ 160) := by (try rw [etst_c4]); (try rw [eten_c5]); exact h2
  obtain ⟨h2_0, h2_1, h2_2, h2_3, h2_4, h2_5, h2_6, h2_7⟩ := h2
  refine lv_istore_n (lv' := [(2, .int r1), (0, .ref (a 14)), (1, .ref rb0)]) hx hb dX7_readWalkLine_7 rfl hl (by decide) rfl (fun ls hl => ?_)
  refine lv_iload_n hx hb dX7_readWalkLine_8 rfl (lv_at hl 0 rfl) ?_
  refine lv_iconst (v := (-1)) hx hb dX7_readWalkLine_9 (by decide) ?_
  refine lv_icmp_ne (tgt := 15) hx hb dX7_readWalkLine_10 (by decide) (fun c6 => ?_) (fun c6 => ?_)
  · have dc6 : r1.toInt ≠ (-1) := neC rfl (show ((-1) : Int32).toInt = (-1) from rfl) c6
    refine lv_aload_n hx hb dX7_readWalkLine_15 rfl (lv_at hl 1 rfl) ?_
    refine wvV (As := []) (rest := []) (wr := [(rb0, .inr (5, [.ref rb1, .ref rb2, .int aga, .int apa, .int lin])), (rb1, .inl (cI, 8, .inl mos)), (rb2, .inl (cI, 8, .inl wev))]) (w2 := (fun u : US => (wTxR cI cZ cQ a rb0 rb1 rb2 byt len (u.1 0 0) (u.1 1 0) mos wev aga apa lin))) ⟨hx, hb, hml, hown, hts⟩ (k_X7_nextToken2 l dC dI cI cZ cQ a byt len tst_c4 ten_c5 _ r_len h2_6 h2_7 (by omega)) (cwV 0 hts gX7_readWalkLine_X7_nextToken rfl rfl rfl (by decide +kernel) ⟨Nat.le_of_ble_eq_true rfl, Nat.le_of_ble_eq_true rfl⟩) hP hD hS hA hK hN [0, 1] [2, 3, 4] [3, 4, 0, 1, 2] rfl rfl (by decide) (by decide) (by decide) (fun _ => rfl) (by decide) 0 7 rfl rfl rfl hl.1 rfl (Nat.le_of_ble_eq_true rfl) dX7_readWalkLine_16 ⟨Nat.le_of_ble_eq_true rfl, Nat.le_of_ble_eq_true rfl⟩ (fun u9 H locs h8 hP hD hS => ?_)
    obtain ⟨tst_c10, etst_c10⟩ : ∃ f : Int32, f = (u9.1 0 0) := ⟨_, rfl⟩
    obtain ⟨ten_c11, eten_c11⟩ : ∃ f : Int32, f = (u9.1 1 0) := ⟨_, rfl⟩
    have hP : va_P (dC, dI) vwCl (wTxR cI cZ cQ a rb0 rb1 rb2 byt len tst_c10 ten_c11 mos wev aga apa lin) H := by rw [etst_c10, eten_c11]; exact hP
    have hD : va_D A (wTxR cI cZ cQ a rb0 rb1 rb2 byt len tst_c10 ten_c11 mos wev aga apa lin) := by rw [etst_c10, eten_c11]; exact hD
    have h8 : (tst_c10.toInt ≤ ten_c11.toInt) ∧ (ten_c11.toInt ≤ len.toInt) ∧ (tst_c10.toInt = tS byt len.toInt ten_c5.toInt) ∧ (ten_c11.toInt = tE byt len.toInt tst_c10.toInt) ∧ (0 ≤ tst_c10.toInt ∧ tst_c10.toInt ≤ 160) ∧ (0 ≤ ten_c11.toInt ∧ ten_c11.toInt ≤ 160) := by (try rw [etst_c10]); (try rw [eten_c11]); exact h8
    obtain ⟨h8_0, h8_1, h8_2, h8_3, h8_4, h8_5⟩ := h8
    refine lv_aload_n hx hb dX7_readWalkLine_19 rfl (lv_at hl 1 rfl) ?_
    refine va_ldcS hx hb hown hSV.2.2.2.2.2 dX7_readWalkLine_20 ?_
    refine rdVT (As := [.ref (ak 4)]) (rest := []) ⟨hx, hb, hml, hown, hts⟩ (k_X7_tokenIs2 l dC dI cI cZ cQ a byt len tst_c10 ten_c11 (ak 4) (av 4) (lenS.getD 4 0) (fS 4) r_len h8_4 h8_5 (by omega) (by decide)) (cwV 1 hts gX7_readWalkLine_X7_tokenIs rfl rfl rfl (by decide +kernel) ⟨Nat.le_of_ble_eq_true rfl, Nat.le_of_ble_eq_true rfl⟩) (((hSV.kept hS.2.1).1 4 (by decide)).narrow (fun _ h => h.elim)) hP hK hN [0, 1] rfl 0 7 rfl rfl rfl hl.1 rfl (Nat.le_of_ble_eq_true rfl) dX7_readWalkLine_22 ⟨Nat.le_of_ble_eq_true rfl, Nat.le_of_ble_eq_true rfl⟩ (fun r12 h13 => ?_)
    have h13 : ((((r12 = 1) ∧ (wdP byt tst_c10.toInt ten_c11.toInt (lenS.getD 4 0) (fS 4))) ∨ ((r12 = 0) ∧ (¬ wdP byt tst_c10.toInt ten_c11.toInt (lenS.getD 4 0) (fS 4))))) := h13
    rcases h13 with (⟨rfl, h13_a0⟩ | ⟨rfl, h13_a0⟩)
    · refine lv_if_ne (tgt := 30) hx hb dX7_readWalkLine_25 (by decide) (fun _ => ?_) (fun c9 => absurd c9 (by decide))
      refine lv_aload_n hx hb dX7_readWalkLine_30 rfl (lv_at hl 2 rfl) ?_
      refine va_getN (D := (dC, dI)) (ci := 5) (v := .ref rb2) (C := RX5) (T := TX5) (N := 5) hx hb hts inX5 hown hK hP 2 rfl rfl 1 (by decide) lf73 (fun _ h9 => h9) rfl dX7_readWalkLine_31 ?_
      refine lv_iload_n hx hb dX7_readWalkLine_34 rfl (lv_at hl 0 rfl) ?_
      refine lv_aload_n hx hb dX7_readWalkLine_35 rfl (lv_at hl 1 rfl) ?_
      refine lv_iconst (v := 1) hx hb dX7_readWalkLine_36 (by decide) ?_
      refine lv_bipush (v := 99) hx hb dX7_readWalkLine_37 (by decide) ?_
      refine wrV (As := [.int 1, .int 99]) (rest := [.int r1, .ref rb2]) (wr := [(rb0, .inr (5, [.ref rb1, .ref rb2, .int aga, .int apa, .int lin])), (rb1, .inl (cI, 8, .inl mos)), (rb2, .inl (cI, 8, .inl wev))]) (w2 := (fun u : US => (wTxR cI cZ cQ a rb0 rb1 rb2 byt len (u.1 0 0) (u.1 1 0) mos wev aga apa lin))) ⟨hx, hb, hml, hown, hts⟩ (k_X7_readNumber2 l dC dI cI cZ cQ a byt len tst_c10 ten_c11 _ (1 : Int32) (99 : Int32) r_len h8_4 h8_5 (by omega)) (cwV 2 hts gX7_readWalkLine_X7_readNumber rfl rfl rfl (by decide +kernel) ⟨Nat.le_of_ble_eq_true rfl, Nat.le_of_ble_eq_true rfl⟩) hP hD hS hA hK hN [0, 1] [2, 3, 4] [3, 4, 0, 1, 2] rfl rfl (by decide) (by decide) (by decide) (fun _ => rfl) (by decide) 0 7 rfl rfl rfl hl.1 rfl (Nat.le_of_ble_eq_true rfl) dX7_readWalkLine_39 ⟨Nat.le_of_ble_eq_true rfl, Nat.le_of_ble_eq_true rfl⟩ (fun r14 u16 H locs h15 hP hD hS => ?_)
      obtain ⟨tst_c17, etst_c17⟩ : ∃ f : Int32, f = (u16.1 0 0) := ⟨_, rfl⟩
      obtain ⟨ten_c18, eten_c18⟩ : ∃ f : Int32, f = (u16.1 1 0) := ⟨_, rfl⟩
      have hP : va_P (dC, dI) vwCl (wTxR cI cZ cQ a rb0 rb1 rb2 byt len tst_c17 ten_c18 mos wev aga apa lin) H := by rw [etst_c17, eten_c18]; exact hP
      have hD : va_D A (wTxR cI cZ cQ a rb0 rb1 rb2 byt len tst_c17 ten_c18 mos wev aga apa lin) := by rw [etst_c17, eten_c18]; exact hD
      have h15 : (tst_c17.toInt ≤ ten_c18.toInt) ∧ (ten_c18.toInt ≤ len.toInt) ∧ (r14.toInt = -1 ∨ ((1) ≤ r14.toInt ∧ r14.toInt ≤ (99))) ∧ (tst_c17.toInt = tS byt len.toInt ten_c11.toInt) ∧ (ten_c18.toInt = nx byt len.toInt ten_c11.toInt) ∧ (nuP byt len.toInt ten_c11.toInt (1) (99) r14) ∧ (0 ≤ tst_c17.toInt ∧ tst_c17.toInt ≤ 160) ∧ (0 ≤ ten_c18.toInt ∧ ten_c18.toInt ≤ 160) := by (try rw [etst_c17]); (try rw [eten_c18]); exact h15
      obtain ⟨h15_0, h15_1, h15_2, h15_3, h15_4, h15_5, h15_6, h15_7⟩ := h15
      have b19 : vp_in r1 8 := inC rfl (by omega) (by omega)
      refine va_iast hx hb hK hP hD hS 4 0 rfl rfl b19 dX7_readWalkLine_42 (fun H locs hP hD hS => ?_)
      obtain ⟨wev_u20, ewev_u20⟩ : ∃ f : Nat → Int32, f = upd wev r1.toNatClampNeg r14 := ⟨_, rfl⟩
      have hP : va_P (dC, dI) vwCl (wTxR cI cZ cQ a rb0 rb1 rb2 byt len tst_c17 ten_c18 mos wev_u20 aga apa lin) H := by rw [ewev_u20]; exact hP
      have hD : va_D A (wTxR cI cZ cQ a rb0 rb1 rb2 byt len tst_c17 ten_c18 mos wev_u20 aga apa lin) := by rw [ewev_u20]; exact hD
      refine lv_aload_n hx hb dX7_readWalkLine_43 rfl (lv_at hl 2 rfl) ?_
      refine va_getN (D := (dC, dI)) (ci := 5) (v := .ref rb2) (C := RX5) (T := TX5) (N := 5) hx hb hts inX5 hown hK hP 2 rfl rfl 1 (by decide) lf73 (fun _ h9 => h9) rfl dX7_readWalkLine_44 ?_
      refine lv_iload_n hx hb dX7_readWalkLine_47 rfl (lv_at hl 0 rfl) ?_
      have b21 : vp_in r1 8 := inC rfl (by omega) (by omega)
      refine va_iald hx hb hK hP 4 0 rfl rfl b21 dX7_readWalkLine_48 ?_
      have o22 : (wev_u20 r1.toNatClampNeg).toInt = r14.toInt := by rw [ewev_u20, pk_us]
      refine lv_iconst (v := (-1)) hx hb dX7_readWalkLine_49 (by decide) ?_
      refine lv_icmp_eq (tgt := 57) hx hb dX7_readWalkLine_50 (by decide) (fun c23 => ?_) (fun c23 => ?_)
      · have dc23 : (wev_u20 r1.toNatClampNeg).toInt = (-1) := eqC rfl (show ((-1) : Int32).toInt = (-1) from rfl) c23
        refine lv_iconst (v := 0) hx hb dX7_readWalkLine_57 (by decide) ?_
        exact W.zret (v := 0) hx hb hr (by decide) (fun tq ht hW => ⟨⟨0, (uS [(fun _ => tst_c17), (fun _ => ten_c18), wev_u20] 0 (fun _ => 0)), rfl, ⟨(Or.inr (⟨rfl, (show wkN byt len.toInt ten.toInt tst_c17.toInt from by (try rw [show (0 : Int32).toInt = 0 from (show (0 : Int32).toInt = 0 from rfl)]); (first | exact ⟨_, _, wk_yes (by assumption) (by assumption) (by assumption) (by assumption) (by assumption) (by omega) (by omega) (by assumption) (by assumption) (ne_m1 (by omega)) (by assumption) (by assumption), by assumption⟩ | exact wk_n1 (by assumption) (by assumption) (by assumption) | exact wk_n2 (by assumption) (by assumption) (by assumption) (by assumption) (by assumption) (by omega) (by omega) (by assumption) rfl | exact wk_n3 (by assumption) (by assumption) (by assumption) (by assumption) (by assumption) (by omega) (by omega) (by assumption) (by assumption) (eq_m1 (by omega)) (by assumption)))⟩)), (show tst_c17.toInt ≤ ten_c18.toInt from by (try rw [show (0 : Int32).toInt = 0 from (show (0 : Int32).toInt = 0 from rfl)]); omega), (show ten_c18.toInt ≤ len.toInt from by (try rw [show (0 : Int32).toInt = 0 from (show (0 : Int32).toInt = 0 from rfl)]); omega), h15_6, h15_7⟩, by rw [ht]; exact hP, hD⟩, hS.F ht⟩) hS.2.2 dX7_readWalkLine_58
      · have dc23 : (wev_u20 r1.toNatClampNeg).toInt ≠ (-1) := neC rfl (show ((-1) : Int32).toInt = (-1) from rfl) c23
        refine lv_iconst (v := 1) hx hb dX7_readWalkLine_53 (by decide) ?_
        refine lv_goto (tgt := 58) hx hb dX7_readWalkLine_54 (by decide) ?_
        exact W.zret (v := 1) hx hb hr (by decide) (fun tq ht hW => ⟨⟨1, (uS [(fun _ => tst_c17), (fun _ => ten_c18), wev_u20] 0 (fun _ => 0)), rfl, ⟨(Or.inl (⟨rfl, (show ∃ x y : Int32, wkT byt len.toInt ten.toInt x y tst_c17.toInt ten_c18.toInt ∧ wev_u20 = upd wev x.toNatClampNeg y from by (try rw [show (1 : Int32).toInt = 1 from (show (1 : Int32).toInt = 1 from rfl)]); (first | exact ⟨_, _, wk_yes (by assumption) (by assumption) (by assumption) (by assumption) (by assumption) (by omega) (by omega) (by assumption) (by assumption) (ne_m1 (by omega)) (by assumption) (by assumption), by assumption⟩ | exact wk_n1 (by assumption) (by assumption) (by assumption) | exact wk_n2 (by assumption) (by assumption) (by assumption) (by assumption) (by assumption) (by omega) (by omega) (by assumption) rfl | exact wk_n3 (by assumption) (by assumption) (by assumption) (by assumption) (by assumption) (by omega) (by omega) (by assumption) (by assumption) (eq_m1 (by omega)) (by assumption)))⟩)), (show tst_c17.toInt ≤ ten_c18.toInt from by (try rw [show (1 : Int32).toInt = 1 from (show (1 : Int32).toInt = 1 from rfl)]); omega), (show ten_c18.toInt ≤ len.toInt from by (try rw [show (1 : Int32).toInt = 1 from (show (1 : Int32).toInt = 1 from rfl)]); omega), h15_6, h15_7⟩, by rw [ht]; exact hP, hD⟩, hS.F ht⟩) hS.2.2 dX7_readWalkLine_58
    · refine lv_if_ne (tgt := 30) hx hb dX7_readWalkLine_25 (by decide) (fun c9 => absurd (by decide) c9) (fun _ => ?_)
      refine lv_iconst (v := 0) hx hb dX7_readWalkLine_28 (by decide) ?_
      exact W.zret (v := 0) hx hb hr (by decide) (fun tq ht hW => ⟨⟨0, (uS [(fun _ => tst_c10), (fun _ => ten_c11), wev] 0 (fun _ => 0)), rfl, ⟨(Or.inr (⟨rfl, (show wkN byt len.toInt ten.toInt tst_c10.toInt from by (try rw [show (0 : Int32).toInt = 0 from (show (0 : Int32).toInt = 0 from rfl)]); (first | exact ⟨_, _, wk_yes (by assumption) (by assumption) (by assumption) (by assumption) (by assumption) (by omega) (by omega) (by assumption) (by assumption) (ne_m1 (by omega)) (by assumption) (by assumption), by assumption⟩ | exact wk_n1 (by assumption) (by assumption) (by assumption) | exact wk_n2 (by assumption) (by assumption) (by assumption) (by assumption) (by assumption) (by omega) (by omega) (by assumption) rfl | exact wk_n3 (by assumption) (by assumption) (by assumption) (by assumption) (by assumption) (by omega) (by omega) (by assumption) (by assumption) (eq_m1 (by omega)) (by assumption)))⟩)), (show tst_c10.toInt ≤ ten_c11.toInt from by (try rw [show (0 : Int32).toInt = 0 from (show (0 : Int32).toInt = 0 from rfl)]); omega), (show ten_c11.toInt ≤ len.toInt from by (try rw [show (0 : Int32).toInt = 0 from (show (0 : Int32).toInt = 0 from rfl)]); omega), h8_4, h8_5⟩, by rw [ht]; exact hP, hD⟩, hS.F ht⟩) hS.2.2 dX7_readWalkLine_29
  · have dc6 : r1.toInt = (-1) := eqC rfl (show ((-1) : Int32).toInt = (-1) from rfl) c6
    refine lv_iconst (v := 0) hx hb dX7_readWalkLine_13 (by decide) ?_
    exact W.zret (v := 0) hx hb hr (by decide) (fun tq ht hW => ⟨⟨0, (uS [(fun _ => tst_c4), (fun _ => ten_c5), wev] 0 (fun _ => 0)), rfl, ⟨(Or.inr (⟨rfl, (show wkN byt len.toInt ten.toInt tst_c4.toInt from by (try rw [show (0 : Int32).toInt = 0 from (show (0 : Int32).toInt = 0 from rfl)]); (first | exact ⟨_, _, wk_yes (by assumption) (by assumption) (by assumption) (by assumption) (by assumption) (by omega) (by omega) (by assumption) (by assumption) (ne_m1 (by omega)) (by assumption) (by assumption), by assumption⟩ | exact wk_n1 (by assumption) (by assumption) (by assumption) | exact wk_n2 (by assumption) (by assumption) (by assumption) (by assumption) (by assumption) (by omega) (by omega) (by assumption) rfl | exact wk_n3 (by assumption) (by assumption) (by assumption) (by assumption) (by assumption) (by omega) (by omega) (by assumption) (by assumption) (eq_m1 (by omega)) (by assumption)))⟩)), (show tst_c4.toInt ≤ ten_c5.toInt from by (try rw [show (0 : Int32).toInt = 0 from (show (0 : Int32).toInt = 0 from rfl)]); omega), (show ten_c5.toInt ≤ len.toInt from by (try rw [show (0 : Int32).toInt = 0 from (show (0 : Int32).toInt = 0 from rfl)]); omega), h2_6, h2_7⟩, by rw [ht]; exact hP, hD⟩, hS.F ht⟩) hS.2.2 dX7_readWalkLine_14
