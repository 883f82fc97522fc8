set_option maxHeartbeats 4000000 in
set_option maxRecDepth 100000 in
theorem k_X9_rules (l : Launch) (dC : Nat → ClassId) (dI : Nat → Nat → Nat) (cI cZ cQ : ClassId) (a : Nat → Nat) (rb0 : Nat) (rb1 : Nat) (rb2 : Nat) (db0 : Nat) (db1 : Nat) (db2 : Nat) (byt : Nat → Int32) (len : Int32) (tst : Int32) (ten : Int32) (dmos : Nat → Int32) (dwev : Nat → Int32) (daga : Int32) (dapa : Int32) (dlin : Int32) (mos : Nat → Int32) (wev : Nat → Int32) (aga : Int32) (apa : Int32) (lin : Int32) (ak av : Nat → Nat) (sz : Nat) (r_len : 0 ≤ len.toInt ∧ len.toInt ≤ 160) (r_tst : 0 ≤ tst.toInt ∧ tst.toInt ≤ 160) (r_ten : 0 ≤ ten.toInt ∧ ten.toInt ≤ 160) : KWS l yX9_rules wsX9_rules { frames := 8, cells := 0, slots := 0, locals := 172 } (dC, dI) (TY cI cZ cQ) (wsTDR cI cZ cQ a rb0 rb1 rb2 db0 db1 db2 byt len tst ten dmos dwev daga dapa dlin mos wev aga apa lin) ak av [.ref (a 43)] sz 0 0 (fun (r : Int32) (u : US) => (0 ≤ (u.1 0 0).toInt ∧ (u.1 0 0).toInt ≤ 160) ∧ (0 ≤ (u.1 1 0).toInt ∧ (u.1 1 0).toInt ≤ 160) ∧ (0 ≤ (u.1 12 0).toInt ∧ (u.1 12 0).toInt ≤ 160)) (fun u : US => (wsTDR cI cZ cQ a (u.2.2 0) (u.2.2 1) (u.2.2 2) (u.2.2 3) (u.2.2 4) (u.2.2 5) byt (u.1 12 0) (u.1 0 0) (u.1 1 0) (u.1 2) (u.1 3) (u.1 4 0) (u.1 5 0) (u.1 6 0) (u.1 7) (u.1 8) (u.1 9 0) (u.1 10 0) (u.1 11 0))) := by
  refine Met.ofW (cc := cX9_rules) (maxL := 2) (ret := (some .int)) (by decide) rfl ?_
  intro p e s m args below meth c s₁ B hml hv
  obtain ⟨rfl, hsz, hP, hK, hD0, hN, hSV⟩ := hv
  have hx := B.exec
  have hb := B.bytes
  have hr := B.returns
  have hts := atoms_spec (ws := wsX9_rules) B.pre
  have hown : s.vm.findClass RX9 = some m.cls := findClass_of_methodNamed B.named
  have hlocks := B.notSynchronized
  have lf35 := hts (.fieldLink RX9 35 "PalaceOfRooms" "text" "LPalaceOfRooms$Text;") (by decide +kernel)
  have inX9 : ∀ w ∈ wsX90, w ∈ wsX9_rules := fun w h => List.mem_cons_of_mem _ (List.mem_append_left _ (List.mem_append_left _ (List.mem_append_right _ h)))
  have lf80 := hts (.fieldLink RX9 80 "PalaceOfRooms" "draft" "LPalaceOfRooms$RuleBook;") (by decide +kernel)
  have lf76 := hts (.fieldLink RX9 76 "PalaceOfRooms" "rules" "LPalaceOfRooms$RuleBook;") (by decide +kernel)
  have lf163 := hN.use (w := .fieldLinkNest "PalaceOfRooms" 163 "PalaceOfRooms$Text" "length" "I" "PalaceOfRooms") (by decide +kernel) ([.ref (a 43)] : List Value).toArray
  have inX7 : ∀ w ∈ wsX70, w ∈ wsX9_rules := fun w h => List.mem_cons_of_mem _ (List.mem_append_left _ (List.mem_append_right _ h))
  have lf174 := hN.use (w := .fieldLinkNest "PalaceOfRooms" 174 "PalaceOfRooms$RuleBook" "lines" "I" "PalaceOfRooms") (by decide +kernel) ([.ref (a 43)] : List Value).toArray
  have inX5 : ∀ w ∈ wsX50, w ∈ wsX9_rules := fun w h => List.mem_cons_of_mem _ (List.mem_append_right _ h)
  subst hsz
  have hD := hD0.self (sz := s.heap.size)
  generalize hAe : va_A (wsTDR cI cZ cQ a rb0 rb1 rb2 db0 db1 db2 byt len tst ten dmos dwev daga dapa dlin mos wev aga apa lin) s.heap.size = A at hD hSV ⊢
  have hA : ∀ q : Nat, s.heap.size ≤ q → A q := fun q h => by rw [← hAe]; exact Or.inr h
  have hS : va_S A s.heap s.heap [] := va_S.rf
  have hl := lv_entry ([.ref (a 43)]) (n := 2) (Nat.le_of_ble_eq_true rfl)
  rw [lg_entry_eq]
  generalize (lg_sl ([.ref (a 43)]) ++ List.replicate (2 - (lg_sl ([.ref (a 43)])).length) Slot.unset).toArray = ls at hl ⊢
  have hl : lv_has ls 2 [(0, .ref (a 43))] := hl
  refine lv_aload_n hx hb dX9_rules_0 rfl (lv_at hl 0 rfl) ?_
  refine va_get (D := (dC, dI)) (ci := 9) (v := .ref (a 14)) (C := RX9) (T := TX9) (N := 11) hx hb hts inX9 hown hK hP 0 rfl rfl 3 (by decide) lf35 (fun _ h9 => h9) rfl dX9_rules_1 ?_
  refine lv_aload_n hx hb dX9_rules_4 rfl (lv_at hl 0 rfl) ?_
  refine va_get (D := (dC, dI)) (ci := 9) (v := .ref db0) (C := RX9) (T := TX9) (N := 11) hx hb hts inX9 hown hK hP 0 rfl rfl 10 (by decide) lf80 (fun _ h9 => h9) rfl dX9_rules_5 ?_
  refine wrVS (As := [.ref db0]) (rest := []) (wr := [((a 43), .inr (9, [.ref (a 0), .ref (a 2), .ref (a 4), .ref (a 14), .ref (a 16), .ref (a 23), .ref (a 28), .ref (a 33), .ref (a 42), .ref rb0, .ref db0])), (rb0, .inr (5, [.ref rb1, .ref rb2, .int aga, .int apa, .int lin])), (rb1, .inl (cI, 8, .inl mos)), (rb2, .inl (cI, 8, .inl wev))]) (w2 := (fun u : US => (wsTDR cI cZ cQ a rb0 rb1 rb2 db0 db1 db2 byt len (u.1 0 0) (u.1 1 0) (u.1 2) (u.1 3) (u.1 4 0) (u.1 5 0) (u.1 6 0) mos wev aga apa lin))) ⟨hx, hb, hml, hown, hts⟩ (k_X7_readInto l dC dI cI cZ cQ a db0 db1 db2 byt len tst ten dmos dwev daga dapa dlin ak av _ r_len r_tst r_ten) (cwV 1 hts gX9_rules_X7_readInto rfl rfl rfl (by decide +kernel) ⟨Nat.le_of_ble_eq_true rfl, Nat.le_of_ble_eq_true rfl⟩) (hSV.kept hS.2.1) hP hD hS hA hK hN [1, 2, 3, 4, 5] [0, 6, 7, 8] [0, 4, 5, 6, 7, 8, 1, 2, 3] rfl rfl (by decide) (by decide) (by decide) (fun _ => rfl) (by decide) 1 7 rfl rfl rfl hl.1 rfl (Nat.le_of_ble_eq_true rfl) dX9_rules_8 ⟨Nat.le_of_ble_eq_true rfl, Nat.le_of_ble_eq_true rfl⟩ (fun r1 u3 H locs h2 hP hD hS => ?_)
  obtain ⟨tst_c4, etst_c4⟩ : ∃ f : Int32, f = (u3.1 0 0) := ⟨_, rfl⟩
  obtain ⟨ten_c5, eten_c5⟩ : ∃ f : Int32, f = (u3.1 1 0) := ⟨_, rfl⟩
  obtain ⟨dmos_c6, edmos_c6⟩ : ∃ f : Nat → Int32, f = (u3.1 2) := ⟨_, rfl⟩
  obtain ⟨dwev_c7, edwev_c7⟩ : ∃ f : Nat → Int32, f = (u3.1 3) := ⟨_, rfl⟩
  obtain ⟨daga_c8, edaga_c8⟩ : ∃ f : Int32, f = (u3.1 4 0) := ⟨_, rfl⟩
  obtain ⟨dapa_c9, edapa_c9⟩ : ∃ f : Int32, f = (u3.1 5 0) := ⟨_, rfl⟩
  obtain ⟨dlin_c10, edlin_c10⟩ : ∃ f : Int32, f = (u3.1 6 0) := ⟨_, rfl⟩
  have hP : va_P (dC, dI) vwCl (wsTDR cI cZ cQ a rb0 rb1 rb2 db0 db1 db2 byt len tst_c4 ten_c5 dmos_c6 dwev_c7 daga_c8 dapa_c9 dlin_c10 mos wev aga apa lin) H := by rw [etst_c4, eten_c5, edmos_c6, edwev_c7, edaga_c8, edapa_c9, edlin_c10]; exact hP
  have hD : va_D A (wsTDR cI cZ cQ a rb0 rb1 rb2 db0 db1 db2 byt len tst_c4 ten_c5 dmos_c6 dwev_c7 daga_c8 dapa_c9 dlin_c10 mos wev aga apa lin) := by rw [etst_c4, eten_c5, edmos_c6, edwev_c7, edaga_c8, edapa_c9, edlin_c10]; exact hD
  have h2 : (0 ≤ tst_c4.toInt ∧ tst_c4.toInt ≤ 160) ∧ (0 ≤ ten_c5.toInt ∧ ten_c5.toInt ≤ 160) := by (try rw [etst_c4]); (try rw [eten_c5]); (try rw [edmos_c6]); (try rw [edwev_c7]); (try rw [edaga_c8]); (try rw [edapa_c9]); (try rw [edlin_c10]); exact h2
  obtain ⟨h2_0, h2_1⟩ := h2
  refine lv_iconst (v := (-1)) hx hb dX9_rules_11 (by decide) ?_
  refine lv_icmp_eq (tgt := 18) hx hb dX9_rules_12 (by decide) (fun c11 => ?_) (fun c11 => ?_)
  · have dc11 : r1.toInt = (-1) := eqC rfl (show ((-1) : Int32).toInt = (-1) from rfl) c11
    refine lv_aload_n hx hb dX9_rules_18 rfl (lv_at hl 0 rfl) ?_
    refine va_get (D := (dC, dI)) (ci := 9) (v := .ref db0) (C := RX9) (T := TX9) (N := 11) hx hb hts inX9 hown hK hP 0 rfl rfl 10 (by decide) lf80 (fun _ h9 => h9) rfl dX9_rules_19 ?_
    refine lv_astore_n (lv' := [(1, .ref db0), (0, .ref (a 43))]) hx hb dX9_rules_22 rfl hl (by decide) rfl (fun ls hl => ?_)
    refine lv_aload_n hx hb dX9_rules_23 rfl (lv_at hl 1 rfl) ?_
    refine lv_aload_n hx hb dX9_rules_24 rfl (lv_at hl 1 rfl) ?_
    refine va_get (D := (dC, dI)) (ci := 9) (v := .ref rb0) (C := RX9) (T := TX9) (N := 11) hx hb hts inX9 hown hK hP 0 rfl rfl 9 (by decide) lf76 (fun _ h9 => h9) rfl dX9_rules_25 ?_
    refine va_put (D := (dC, dI)) (ci := 9) (v := .ref rb0) (ty := (.object "PalaceOfRooms$RuleBook")) (C := RX9) (T := TX9) (N := 11) hx hb hts inX9 tyX9 tyX9_ok nmX9 hown hK hP hD hS 0 rfl rfl 10 (by decide) lf80 (fun _ h9 => h9) rfl (by decide +kernel) rfl rfl (Nat.le_of_ble_eq_true rfl) dX9_rules_28 (fun H locs hP hD hS => ?_)
    have hP : va_P (dC, dI) vwCl [((a 43), .inr (9, [.ref (a 0), .ref (a 2), .ref (a 4), .ref (a 14), .ref (a 16), .ref (a 23), .ref (a 28), .ref (a 33), .ref (a 42), .ref rb0, .ref rb0])), ((a 14), .inr (7, [.ref (a 15), .int len, .int tst_c4, .int ten_c5])), ((a 15), .inl (cI, 160, .inl byt)), (db0, .inr (5, [.ref db1, .ref db2, .int daga_c8, .int dapa_c9, .int dlin_c10])), (db1, .inl (cI, 8, .inl dmos_c6)), (db2, .inl (cI, 8, .inl dwev_c7)), (rb0, .inr (5, [.ref rb1, .ref rb2, .int aga, .int apa, .int lin])), (rb1, .inl (cI, 8, .inl mos)), (rb2, .inl (cI, 8, .inl wev))] H := hP
    have hD : va_D A [((a 43), .inr (9, [.ref (a 0), .ref (a 2), .ref (a 4), .ref (a 14), .ref (a 16), .ref (a 23), .ref (a 28), .ref (a 33), .ref (a 42), .ref rb0, .ref rb0])), ((a 14), .inr (7, [.ref (a 15), .int len, .int tst_c4, .int ten_c5])), ((a 15), .inl (cI, 160, .inl byt)), (db0, .inr (5, [.ref db1, .ref db2, .int daga_c8, .int dapa_c9, .int dlin_c10])), (db1, .inl (cI, 8, .inl dmos_c6)), (db2, .inl (cI, 8, .inl dwev_c7)), (rb0, .inr (5, [.ref rb1, .ref rb2, .int aga, .int apa, .int lin])), (rb1, .inl (cI, 8, .inl mos)), (rb2, .inl (cI, 8, .inl wev))] := hD
    refine lv_aload_n hx hb dX9_rules_31 rfl (lv_at hl 1 rfl) ?_
    refine lv_aload_n hx hb dX9_rules_32 rfl (lv_at hl 0 rfl) ?_
    refine va_put (D := (dC, dI)) (ci := 9) (v := .ref db0) (ty := (.object "PalaceOfRooms$RuleBook")) (C := RX9) (T := TX9) (N := 11) hx hb hts inX9 tyX9 tyX9_ok nmX9 hown hK hP hD hS 0 rfl rfl 9 (by decide) lf76 (fun _ h9 => h9) rfl (by decide +kernel) rfl rfl (Nat.le_of_ble_eq_true rfl) dX9_rules_33 (fun H locs hP hD hS => ?_)
    have hP : va_P (dC, dI) vwCl [((a 43), .inr (9, [.ref (a 0), .ref (a 2), .ref (a 4), .ref (a 14), .ref (a 16), .ref (a 23), .ref (a 28), .ref (a 33), .ref (a 42), .ref db0, .ref rb0])), ((a 14), .inr (7, [.ref (a 15), .int len, .int tst_c4, .int ten_c5])), ((a 15), .inl (cI, 160, .inl byt)), (db0, .inr (5, [.ref db1, .ref db2, .int daga_c8, .int dapa_c9, .int dlin_c10])), (db1, .inl (cI, 8, .inl dmos_c6)), (db2, .inl (cI, 8, .inl dwev_c7)), (rb0, .inr (5, [.ref rb1, .ref rb2, .int aga, .int apa, .int lin])), (rb1, .inl (cI, 8, .inl mos)), (rb2, .inl (cI, 8, .inl wev))] H := hP
    have hD : va_D A [((a 43), .inr (9, [.ref (a 0), .ref (a 2), .ref (a 4), .ref (a 14), .ref (a 16), .ref (a 23), .ref (a 28), .ref (a 33), .ref (a 42), .ref db0, .ref rb0])), ((a 14), .inr (7, [.ref (a 15), .int len, .int tst_c4, .int ten_c5])), ((a 15), .inl (cI, 160, .inl byt)), (db0, .inr (5, [.ref db1, .ref db2, .int daga_c8, .int dapa_c9, .int dlin_c10])), (db1, .inl (cI, 8, .inl dmos_c6)), (db2, .inl (cI, 8, .inl dwev_c7)), (rb0, .inr (5, [.ref rb1, .ref rb2, .int aga, .int apa, .int lin])), (rb1, .inl (cI, 8, .inl mos)), (rb2, .inl (cI, 8, .inl wev))] := hD
    refine lv_aload_n hx hb dX9_rules_36 rfl (lv_at hl 1 rfl) ?_
    refine va_get (D := (dC, dI)) (ci := 9) (v := .ref (a 14)) (C := RX9) (T := TX9) (N := 11) hx hb hts inX9 hown hK hP 0 rfl rfl 3 (by decide) lf35 (fun _ h9 => h9) rfl dX9_rules_37 ?_
    refine lv_iconst (v := 0) hx hb dX9_rules_40 (by decide) ?_
    refine va_putN (D := (dC, dI)) (ci := 7) (v := .int 0) (ty := .int) (C := RX7) (T := TX7) (N := 4) hx hb hts inX7 tyX7 tyX7_ok nmX7 hown hK hP hD hS 1 rfl rfl 1 (by decide) lf163 (fun _ h9 => h9) rfl (by decide +kernel) rfl rfl (Nat.le_of_ble_eq_true rfl) dX9_rules_41 (fun H locs hP hD hS => ?_)
    have g12 : 0 ≤ (0 : Int32).toInt ∧ (0 : Int32).toInt ≤ 160 := by rw [show (0 : Int32).toInt = 0 from (show (0 : Int32).toInt = 0 from rfl)]; exact ⟨by omega, by omega⟩
    have hP : va_P (dC, dI) vwCl [((a 43), .inr (9, [.ref (a 0), .ref (a 2), .ref (a 4), .ref (a 14), .ref (a 16), .ref (a 23), .ref (a 28), .ref (a 33), .ref (a 42), .ref db0, .ref rb0])), ((a 14), .inr (7, [.ref (a 15), .int 0, .int tst_c4, .int ten_c5])), ((a 15), .inl (cI, 160, .inl byt)), (db0, .inr (5, [.ref db1, .ref db2, .int daga_c8, .int dapa_c9, .int dlin_c10])), (db1, .inl (cI, 8, .inl dmos_c6)), (db2, .inl (cI, 8, .inl dwev_c7)), (rb0, .inr (5, [.ref rb1, .ref rb2, .int aga, .int apa, .int lin])), (rb1, .inl (cI, 8, .inl mos)), (rb2, .inl (cI, 8, .inl wev))] H := hP
    have hD : va_D A [((a 43), .inr (9, [.ref (a 0), .ref (a 2), .ref (a 4), .ref (a 14), .ref (a 16), .ref (a 23), .ref (a 28), .ref (a 33), .ref (a 42), .ref db0, .ref rb0])), ((a 14), .inr (7, [.ref (a 15), .int 0, .int tst_c4, .int ten_c5])), ((a 15), .inl (cI, 160, .inl byt)), (db0, .inr (5, [.ref db1, .ref db2, .int daga_c8, .int dapa_c9, .int dlin_c10])), (db1, .inl (cI, 8, .inl dmos_c6)), (db2, .inl (cI, 8, .inl dwev_c7)), (rb0, .inr (5, [.ref rb1, .ref rb2, .int aga, .int apa, .int lin])), (rb1, .inl (cI, 8, .inl mos)), (rb2, .inl (cI, 8, .inl wev))] := hD
    refine lv_aload_n hx hb dX9_rules_44 rfl (lv_at hl 1 rfl) ?_
    refine va_get (D := (dC, dI)) (ci := 9) (v := .ref db0) (C := RX9) (T := TX9) (N := 11) hx hb hts inX9 hown hK hP 0 rfl rfl 9 (by decide) lf76 (fun _ h9 => h9) rfl dX9_rules_45 ?_
    refine va_getN (D := (dC, dI)) (ci := 5) (v := .int dlin_c10) (C := RX5) (T := TX5) (N := 5) hx hb hts inX5 hown hK hP 3 rfl rfl 4 (by decide) lf174 (fun _ h9 => h9) rfl dX9_rules_48 ?_
    have hP : va_P (dC, dI) vwCl (wsTDR cI cZ cQ a db0 db1 db2 rb0 rb1 rb2 byt 0 tst_c4 ten_c5 mos wev aga apa lin dmos_c6 dwev_c7 daga_c8 dapa_c9 dlin_c10) H := hP.sub [0, 1, 2, 6, 7, 8, 3, 4, 5] rfl
    have hD : va_D A (wsTDR cI cZ cQ a db0 db1 db2 rb0 rb1 rb2 byt 0 tst_c4 ten_c5 mos wev aga apa lin dmos_c6 dwev_c7 daga_c8 dapa_c9 dlin_c10) := hD.sub [0, 1, 2, 6, 7, 8, 3, 4, 5] (by decide) rfl
    exact W.iret (v := dlin_c10) hx hb hr (fun tq ht hW => ⟨⟨dlin_c10, (uS [(fun _ => tst_c4), (fun _ => ten_c5), mos, wev, (fun _ => aga), (fun _ => apa), (fun _ => lin), dmos_c6, dwev_c7, (fun _ => daga_c8), (fun _ => dapa_c9), (fun _ => dlin_c10), (fun _ => 0)] 0 (fun k => ([db0, db1, db2, rb0, rb1, rb2] : List Nat).getD k 0)), rfl, ⟨h2_0, h2_1, g12⟩, by rw [ht]; exact hP, hD⟩, hS.F ht⟩) hS.2.2 dX9_rules_51
  · have dc11 : r1.toInt ≠ (-1) := neC rfl (show ((-1) : Int32).toInt = (-1) from rfl) c11
    refine lv_bipush (v := (-4)) hx hb dX9_rules_15 (by decide) ?_
    exact W.iret (v := (-4)) hx hb hr (fun tq ht hW => ⟨⟨(-4), (uS [(fun _ => tst_c4), (fun _ => ten_c5), dmos_c6, dwev_c7, (fun _ => daga_c8), (fun _ => dapa_c9), (fun _ => dlin_c10), mos, wev, (fun _ => aga), (fun _ => apa), (fun _ => lin), (fun _ => len)] 0 (fun k => ([rb0, rb1, rb2, db0, db1, db2] : List Nat).getD k 0)), rfl, ⟨h2_0, h2_1, r_len⟩, by rw [ht]; exact hP, hD⟩, hS.F ht⟩) hS.2.2 dX9_rules_17
