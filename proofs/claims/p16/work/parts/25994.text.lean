set_option maxHeartbeats 4000000 in
set_option maxRecDepth 100000 in
theorem k_X9_fault2 (l : Launch) (dC : Nat → ClassId) (dI : Nat → Nat → Nat) (cI cZ cQ : ClassId) (a : Nat → Nat) (rb0 : Nat) (rb1 : Nat) (rb2 : Nat) (db0 : Nat) (db1 : Nat) (db2 : Nat) (byt : Nat → Int32) (len : Int32) (tst : Int32) (ten : Int32) (dmos : Nat → Int32) (dwev : Nat → Int32) (daga : Int32) (dapa : Int32) (dlin : Int32) (ak av : Nat → Nat) (sz : Nat) (r_len : 0 ≤ len.toInt ∧ len.toInt ≤ 160) (r_tst : 0 ≤ tst.toInt ∧ tst.toInt ≤ 160) (r_ten : 0 ≤ ten.toInt ∧ ten.toInt ≤ 160) : KWS l yX9_fault wsX9_fault { frames := 8, cells := 0, slots := 0, locals := 172 } (dC, dI) (TY cI cZ cQ) (wsTD cI cZ cQ a rb0 rb1 rb2 db0 db1 db2 byt len tst ten dmos dwev daga dapa dlin) ak av [.ref (a 43)] sz 0 0 (fun (r : Int32) (u : US) => (spFltC byt len r) ∧ (0 ≤ (u.1 0 0).toInt ∧ (u.1 0 0).toInt ≤ 160) ∧ (0 ≤ (u.1 1 0).toInt ∧ (u.1 1 0).toInt ≤ 160)) (fun u : US => (wsTD cI cZ cQ a rb0 rb1 rb2 db0 db1 db2 byt len (u.1 0 0) (u.1 1 0) (u.1 2) (u.1 3) (u.1 4 0) (u.1 5 0) (u.1 6 0))) := by
  refine Met.ofW (cc := cX9_fault) (maxL := 1) (ret := (some .int)) (by decide) rfl ?_
  intro p e s m args below meth c s₁ B hml hv
  obtain ⟨rfl, hsz, hP, hK, hD0, hN, hSV⟩ := hv
  have hx := B.exec
  have hb := B.bytes
  have hr := B.returns
  have hts := atoms_spec (ws := wsX9_fault) B.pre
  have hown : s.vm.findClass RX9 = some m.cls := findClass_of_methodNamed B.named
  have hlocks := B.notSynchronized
  have lf35 := hts (.fieldLink RX9 35 "PalaceOfRooms" "text" "LPalaceOfRooms$Text;") (List.mem_cons_of_mem _ (List.mem_append_left _ (List.mem_append_left _ (List.mem_append_left _ (List.mem_append_left _ (List.mem_of_getElem? (i := 0) rfl))))))
  have inX9 : ∀ w ∈ wsX90, w ∈ wsX9_fault := fun w h => List.mem_cons_of_mem _ (List.mem_append_left _ (List.mem_append_left _ (List.mem_append_right _ h)))
  have lf80 := hts (.fieldLink RX9 80 "PalaceOfRooms" "draft" "LPalaceOfRooms$RuleBook;") (List.mem_cons_of_mem _ (List.mem_append_left _ (List.mem_append_left _ (List.mem_append_left _ (List.mem_append_left _ (List.mem_of_getElem? (i := 1) rfl))))))
  subst hsz
  have hD := hD0.self (sz := s.heap.size)
  generalize hAe : va_A (wsTD cI cZ cQ a rb0 rb1 rb2 db0 db1 db2 byt len tst ten dmos dwev daga dapa dlin) s.heap.size = A at hD hSV ⊢
  have hA : ∀ q : Nat, s.heap.size ≤ q → A q := fun q h => by rw [← hAe]; exact Or.inr h
  have hS : va_S A s.heap s.heap [] := va_S.rf
  have hl := lv_entry ([.ref (a 43)]) (n := 1) (Nat.le_of_ble_eq_true rfl)
  rw [lg_entry_eq]
  generalize (lg_sl ([.ref (a 43)]) ++ List.replicate (1 - (lg_sl ([.ref (a 43)])).length) Slot.unset).toArray = ls at hl ⊢
  have hl : lv_has ls 1 [(0, .ref (a 43))] := hl
  refine lv_aload_n hx hb dX9_fault_0 rfl (lv_at hl 0 rfl) ?_
  refine va_get (D := (dC, dI)) (ci := 9) (v := .ref (a 14)) (C := RX9) (T := TX9) (N := 11) hx hb hts inX9 hown hK hP 0 rfl rfl 3 (by decide) lf35 (fun _ h9 => h9) rfl dX9_fault_1 ?_
  refine lv_aload_n hx hb dX9_fault_4 rfl (lv_at hl 0 rfl) ?_
  refine va_get (D := (dC, dI)) (ci := 9) (v := .ref db0) (C := RX9) (T := TX9) (N := 11) hx hb hts inX9 hown hK hP 0 rfl rfl 10 (by decide) lf80 (fun _ h9 => h9) rfl dX9_fault_5 ?_
  refine wrVS (As := [.ref db0]) (rest := []) (wr := [((a 43), .inr (9, [.ref (a 0), .ref (a 2), .ref (a 4), .ref (a 14), .ref (a 16), .ref (a 23), .ref (a 28), .ref (a 33), .ref (a 42), .ref rb0, .ref db0]))]) (w2 := (fun u : US => (wsTD cI cZ cQ a rb0 rb1 rb2 db0 db1 db2 byt len (u.1 0 0) (u.1 1 0) (u.1 2) (u.1 3) (u.1 4 0) (u.1 5 0) (u.1 6 0)))) ⟨hx, hb, hml, hown, hts⟩ (k_X7_readInto2 l dC dI cI cZ cQ a db0 db1 db2 byt len tst ten dmos dwev daga dapa dlin ak av _ r_len r_tst r_ten) (cwV 1 hts gX9_fault_X7_readInto rfl rfl rfl (by decide +kernel) ⟨Nat.le_of_ble_eq_true rfl, Nat.le_of_ble_eq_true rfl⟩) (hSV.kept hS.2.1) hP hD hS hA hK hN [1, 2, 3, 4, 5] [0] [0, 1, 2, 3, 4, 5] rfl rfl (by decide) (by decide) (by decide) (fun _ => rfl) (by decide) 1 7 rfl rfl rfl hl.1 rfl (Nat.le_of_ble_eq_true rfl) dX9_fault_8 ⟨Nat.le_of_ble_eq_true rfl, Nat.le_of_ble_eq_true rfl⟩ (fun r1 u3 H locs h2 hP hD hS => ?_)
  obtain ⟨tst_c4, etst_c4⟩ : ∃ f : Int32, f = (u3.1 0 0) := ⟨_, rfl⟩
  obtain ⟨ten_c5, eten_c5⟩ : ∃ f : Int32, f = (u3.1 1 0) := ⟨_, rfl⟩
  obtain ⟨dmos_c6, edmos_c6⟩ : ∃ f : Nat → Int32, f = (u3.1 2) := ⟨_, rfl⟩
  obtain ⟨dwev_c7, edwev_c7⟩ : ∃ f : Nat → Int32, f = (u3.1 3) := ⟨_, rfl⟩
  obtain ⟨daga_c8, edaga_c8⟩ : ∃ f : Int32, f = (u3.1 4 0) := ⟨_, rfl⟩
  obtain ⟨dapa_c9, edapa_c9⟩ : ∃ f : Int32, f = (u3.1 5 0) := ⟨_, rfl⟩
  obtain ⟨dlin_c10, edlin_c10⟩ : ∃ f : Int32, f = (u3.1 6 0) := ⟨_, rfl⟩
  have hP : va_P (dC, dI) vwCl (wsTD cI cZ cQ a rb0 rb1 rb2 db0 db1 db2 byt len tst_c4 ten_c5 dmos_c6 dwev_c7 daga_c8 dapa_c9 dlin_c10) H := by rw [etst_c4, eten_c5, edmos_c6, edwev_c7, edaga_c8, edapa_c9, edlin_c10]; exact hP
  have hD : va_D A (wsTD cI cZ cQ a rb0 rb1 rb2 db0 db1 db2 byt len tst_c4 ten_c5 dmos_c6 dwev_c7 daga_c8 dapa_c9 dlin_c10) := by rw [etst_c4, eten_c5, edmos_c6, edwev_c7, edaga_c8, edapa_c9, edlin_c10]; exact hD
  have h2 : (roC byt len.toInt r1 dmos_c6 dwev_c7 daga_c8 dapa_c9 dlin_c10) ∧ (0 ≤ tst_c4.toInt ∧ tst_c4.toInt ≤ 160) ∧ (0 ≤ ten_c5.toInt ∧ ten_c5.toInt ≤ 160) := by (try rw [etst_c4]); (try rw [eten_c5]); (try rw [edmos_c6]); (try rw [edwev_c7]); (try rw [edaga_c8]); (try rw [edapa_c9]); (try rw [edlin_c10]); exact h2
  obtain ⟨h2_0, h2_1, h2_2⟩ := h2
  exact W.iret (v := r1) hx hb hr (fun tq ht hW => ⟨⟨r1, (uS [(fun _ => tst_c4), (fun _ => ten_c5), dmos_c6, dwev_c7, (fun _ => daga_c8), (fun _ => dapa_c9), (fun _ => dlin_c10)] 0 (fun _ => 0)), rfl, ⟨(show spFltC byt len r1 from by exact ⟨_, _, _, _, _, by assumption⟩), h2_1, h2_2⟩, by rw [ht]; exact hP, hD⟩, hS.F ht⟩) hS.2.2 dX9_fault_11
set_option maxHeartbeats 4000000 in
set_option maxRecDepth 100000 in
theorem k_X9_rules2 (l : Launch) (dC : Nat → ClassId) (dI : Nat → Nat → Nat) (cI cZ cQ : ClassId) (a : Nat → Nat) (rb0 : Nat) (rb1 : Nat) (rb2 : Nat) (db0 : Nat) (db1 : Nat) (db2 : Nat) (byt : Nat → Int32) (len : Int32) (tst : Int32) (ten : Int32) (dmos : Nat → Int32) (dwev : Nat → Int32) (daga : Int32) (dapa : Int32) (dlin : Int32) (mos : Nat → Int32) (wev : Nat → Int32) (aga : Int32) (apa : Int32) (lin : Int32) (ak av : Nat → Nat) (sz : Nat) (r_len : 0 ≤ len.toInt ∧ len.toInt ≤ 160) (r_tst : 0 ≤ tst.toInt ∧ tst.toInt ≤ 160) (r_ten : 0 ≤ ten.toInt ∧ ten.toInt ≤ 160) : KWS l yX9_rules wsX9_rules { frames := 8, cells := 0, slots := 0, locals := 172 } (dC, dI) (TY cI cZ cQ) (wsTDR cI cZ cQ a rb0 rb1 rb2 db0 db1 db2 byt len tst ten dmos dwev daga dapa dlin mos wev aga apa lin) ak av [.ref (a 43)] sz 0 0 (fun (r : Int32) (u : US) => (spRulC byt len mos wev aga apa lin r (u.1 12 0) (u.1 7) (u.1 8) (u.1 9 0) (u.1 10 0) (u.1 11 0)) ∧ (0 ≤ (u.1 0 0).toInt ∧ (u.1 0 0).toInt ≤ 160) ∧ (0 ≤ (u.1 1 0).toInt ∧ (u.1 1 0).toInt ≤ 160) ∧ (0 ≤ (u.1 12 0).toInt ∧ (u.1 12 0).toInt ≤ 160)) (fun u : US => (wsTDR cI cZ cQ a (u.2.2 0) (u.2.2 1) (u.2.2 2) (u.2.2 3) (u.2.2 4) (u.2.2 5) byt (u.1 12 0) (u.1 0 0) (u.1 1 0) (u.1 2) (u.1 3) (u.1 4 0) (u.1 5 0) (u.1 6 0) (u.1 7) (u.1 8) (u.1 9 0) (u.1 10 0) (u.1 11 0))) := by
  refine Met.ofW (cc := cX9_rules) (maxL := 2) (ret := (some .int)) (by decide) rfl ?_
  intro p e s m args below meth c s₁ B hml hv
  obtain ⟨rfl, hsz, hP, hK, hD0, hN, hSV⟩ := hv
  have hx := B.exec
  have hb := B.bytes
  have hr := B.returns
  have hts := atoms_spec (ws := wsX9_rules) B.pre
  have hown : s.vm.findClass RX9 = some m.cls := findClass_of_methodNamed B.named
  have hlocks := B.notSynchronized
  have lf35 := hts (.fieldLink RX9 35 "PalaceOfRooms" "text" "LPalaceOfRooms$Text;") (List.mem_cons_of_mem _ (List.mem_append_left _ (List.mem_append_left _ (List.mem_append_left _ (List.mem_append_left _ (List.mem_of_getElem? (i := 0) rfl))))))
  have inX9 : ∀ w ∈ wsX90, w ∈ wsX9_rules := fun w h => List.mem_cons_of_mem _ (List.mem_append_left _ (List.mem_append_left _ (List.mem_append_right _ h)))
  have lf80 := hts (.fieldLink RX9 80 "PalaceOfRooms" "draft" "LPalaceOfRooms$RuleBook;") (List.mem_cons_of_mem _ (List.mem_append_left _ (List.mem_append_left _ (List.mem_append_left _ (List.mem_append_left _ (List.mem_of_getElem? (i := 1) rfl))))))
  have lf76 := hts (.fieldLink RX9 76 "PalaceOfRooms" "rules" "LPalaceOfRooms$RuleBook;") (List.mem_cons_of_mem _ (List.mem_append_left _ (List.mem_append_left _ (List.mem_append_left _ (List.mem_append_left _ (List.mem_of_getElem? (i := 2) rfl))))))
  have lf163 := hN.use (w := .fieldLinkNest "PalaceOfRooms" 163 "PalaceOfRooms$Text" "length" "I" "PalaceOfRooms") (List.mem_of_getElem? (i := 14) rfl) ([.ref (a 43)] : List Value).toArray
  have inX7 : ∀ w ∈ wsX70, w ∈ wsX9_rules := fun w h => List.mem_cons_of_mem _ (List.mem_append_left _ (List.mem_append_right _ h))
  have lf174 := hN.use (w := .fieldLinkNest "PalaceOfRooms" 174 "PalaceOfRooms$RuleBook" "lines" "I" "PalaceOfRooms") (List.mem_of_getElem? (i := 30) rfl) ([.ref (a 43)] : List Value).toArray
  have inX5 : ∀ w ∈ wsX50, w ∈ wsX9_rules := fun w h => List.mem_cons_of_mem _ (List.mem_append_right _ h)
  subst hsz
  have hD := hD0.self (sz := s.heap.size)
  generalize hAe : va_A (wsTDR cI cZ cQ a rb0 rb1 rb2 db0 db1 db2 byt len tst ten dmos dwev daga dapa dlin mos wev aga apa lin) s.heap.size = A at hD hSV ⊢
  have hA : ∀ q : Nat, s.heap.size ≤ q → A q := fun q h => by rw [← hAe]; exact Or.inr h
  have hS : va_S A s.heap s.heap [] := va_S.rf
  have hl := lv_entry ([.ref (a 43)]) (n := 2) (Nat.le_of_ble_eq_true rfl)
  rw [lg_entry_eq]
  generalize (lg_sl ([.ref (a 43)]) ++ List.replicate (2 - (lg_sl ([.ref (a 43)])).length) Slot.unset).toArray = ls at hl ⊢
  have hl : lv_has ls 2 [(0, .ref (a 43))] := hl
  refine lv_aload_n hx hb dX9_rules_0 rfl (lv_at hl 0 rfl) ?_
  refine va_get (D := (dC, dI)) (ci := 9) (v := .ref (a 14)) (C := RX9) (T := TX9) (N := 11) hx hb hts inX9 hown hK hP 0 rfl rfl 3 (by decide) lf35 (fun _ h9 => h9) rfl dX9_rules_1 ?_
  refine lv_aload_n hx hb dX9_rules_4 rfl (lv_at hl 0 rfl) ?_
  refine va_get (D := (dC, dI)) (ci := 9) (v := .ref db0) (C := RX9) (T := TX9) (N := 11) hx hb hts inX9 hown hK hP 0 rfl rfl 10 (by decide) lf80 (fun _ h9 => h9) rfl dX9_rules_5 ?_
  refine wrVS (As := [.ref db0]) (rest := []) (wr := [((a 43), .inr (9, [.ref (a 0), .ref (a 2), .ref (a 4), .ref (a 14), .ref (a 16), .ref (a 23), .ref (a 28), .ref (a 33), .ref (a 42), .ref rb0, .ref db0])), (rb0, .inr (5, [.ref rb1, .ref rb2, .int aga, .int apa, .int lin])), (rb1, .inl (cI, 8, .inl mos)), (rb2, .inl (cI, 8, .inl wev))]) (w2 := (fun u : US => (wsTDR cI cZ cQ a rb0 rb1 rb2 db0 db1 db2 byt len (u.1 0 0) (u.1 1 0) (u.1 2) (u.1 3) (u.1 4 0) (u.1 5 0) (u.1 6 0) mos wev aga apa lin))) ⟨hx, hb, hml, hown, hts⟩ (k_X7_readInto2 l dC dI cI cZ cQ a db0 db1 db2 byt len tst ten dmos dwev daga dapa dlin ak av _ r_len r_tst r_ten) (cwV 1 hts gX9_rules_X7_readInto rfl rfl rfl (by decide +kernel) ⟨Nat.le_of_ble_eq_true rfl, Nat.le_of_ble_eq_true rfl⟩) (hSV.kept hS.2.1) hP hD hS hA hK hN [1, 2, 3, 4, 5] [0, 6, 7, 8] [0, 4, 5, 6, 7, 8, 1, 2, 3] rfl rfl (by decide) (by decide) (by decide) (fun _ => rfl) (by decide) 1 7 rfl rfl rfl hl.1 rfl (Nat.le_of_ble_eq_true rfl) dX9_rules_8 ⟨Nat.le_of_ble_eq_true rfl, Nat.le_of_ble_eq_true rfl⟩ (fun r1 u3 H locs h2 hP hD hS => ?_)
  obtain ⟨tst_c4, etst_c4⟩ : ∃ f : Int32, f = (u3.1 0 0) := ⟨_, rfl⟩
  obtain ⟨ten_c5, eten_c5⟩ : ∃ f : Int32, f = (u3.1 1 0) := ⟨_, rfl⟩
  obtain ⟨dmos_c6, edmos_c6⟩ : ∃ f : Nat → Int32, f = (u3.1 2) := ⟨_, rfl⟩
  obtain ⟨dwev_c7, edwev_c7⟩ : ∃ f : Nat → Int32, f = (u3.1 3) := ⟨_, rfl⟩
  obtain ⟨daga_c8, edaga_c8⟩ : ∃ f : Int32, f = (u3.1 4 0) := ⟨_, rfl⟩
  obtain ⟨dapa_c9, edapa_c9⟩ : ∃ f : Int32, f = (u3.1 5 0) := ⟨_, rfl⟩
  obtain ⟨dlin_c10, edlin_c10⟩ : ∃ f : Int32, f = (u3.1 6 0) := ⟨_, rfl⟩
  have hP : va_P (dC, dI) vwCl (wsTDR cI cZ cQ a rb0 rb1 rb2 db0 db1 db2 byt len tst_c4 ten_c5 dmos_c6 dwev_c7 daga_c8 dapa_c9 dlin_c10 mos wev aga apa lin) H := by rw [etst_c4, eten_c5, edmos_c6, edwev_c7, edaga_c8, edapa_c9, edlin_c10]; exact hP
  have hD : va_D A (wsTDR cI cZ cQ a rb0 rb1 rb2 db0 db1 db2 byt len tst_c4 ten_c5 dmos_c6 dwev_c7 daga_c8 dapa_c9 dlin_c10 mos wev aga apa lin) := by rw [etst_c4, eten_c5, edmos_c6, edwev_c7, edaga_c8, edapa_c9, edlin_c10]; exact hD
  have h2 : (roC byt len.toInt r1 dmos_c6 dwev_c7 daga_c8 dapa_c9 dlin_c10) ∧ (0 ≤ tst_c4.toInt ∧ tst_c4.toInt ≤ 160) ∧ (0 ≤ ten_c5.toInt ∧ ten_c5.toInt ≤ 160) := by (try rw [etst_c4]); (try rw [eten_c5]); (try rw [edmos_c6]); (try rw [edwev_c7]); (try rw [edaga_c8]); (try rw [edapa_c9]); (try rw [edlin_c10]); exact h2
  obtain ⟨h2_0, h2_1, h2_2⟩ := h2
  refine lv_iconst (v := (-1)) hx hb dX9_rules_11 (by decide) ?_
  refine lv_icmp_eq (tgt := 18) hx hb dX9_rules_12 (by decide) (fun c11 => ?_) (fun c11 => ?_)
  · have dc11 : r1.toInt = (-1) := eqC rfl (show ((-1) : Int32).toInt = (-1) from rfl) c11
    refine lv_aload_n hx hb dX9_rules_18 rfl (lv_at hl 0 rfl) ?_
    refine va_get (D := (dC, dI)) (ci := 9) (v := .ref db0) (C := RX9) (T := TX9) (N := 11) hx hb hts inX9 hown hK hP 0 rfl rfl 10 (by decide) lf80 (fun _ h9 => h9) rfl dX9_rules_19 ?_
    refine lv_astore_n (lv' := [(1, .ref db0), (0, .ref (a 43))]) hx hb dX9_rules_22 rfl hl (by decide) rfl (fun ls hl => ?_)
    refine lv_aload_n hx hb dX9_rules_23 rfl (lv_at hl 1 rfl) ?_
    refine lv_aload_n hx hb dX9_rules_24 rfl (lv_at hl 1 rfl) ?_
    refine va_get (D := (dC, dI)) (ci := 9) (v := .ref rb0) (C := RX9) (T := TX9) (N := 11) hx hb hts inX9 hown hK hP 0 rfl rfl 9 (by decide) lf76 (fun _ h9 => h9) rfl dX9_rules_25 ?_
    refine va_put (D := (dC, dI)) (ci := 9) (v := .ref rb0) (ty := (.object "PalaceOfRooms$RuleBook")) (C := RX9) (T := TX9) (N := 11) hx hb hts inX9 tyX9 tyX9_ok nmX9 hown hK hP hD hS 0 rfl rfl 10 (by decide) lf80 (fun _ h9 => h9) rfl (by decide +kernel) rfl rfl (Nat.le_of_ble_eq_true rfl) dX9_rules_28 (fun H locs hP hD hS => ?_)
    have hP : va_P (dC, dI) vwCl [((a 43), .inr (9, [.ref (a 0), .ref (a 2), .ref (a 4), .ref (a 14), .ref (a 16), .ref (a 23), .ref (a 28), .ref (a 33), .ref (a 42), .ref rb0, .ref rb0])), ((a 14), .inr (7, [.ref (a 15), .int len, .int tst_c4, .int ten_c5])), ((a 15), .inl (cI, 160, .inl byt)), (db0, .inr (5, [.ref db1, .ref db2, .int daga_c8, .int dapa_c9, .int dlin_c10])), (db1, .inl (cI, 8, .inl dmos_c6)), (db2, .inl (cI, 8, .inl dwev_c7)), (rb0, .inr (5, [.ref rb1, .ref rb2, .int aga, .int apa, .int lin])), (rb1, .inl (cI, 8, .inl mos)), (rb2, .inl (cI, 8, .inl wev))] H := hP
    have hD : va_D A [((a 43), .inr (9, [.ref (a 0), .ref (a 2), .ref (a 4), .ref (a 14), .ref (a 16), .ref (a 23), .ref (a 28), .ref (a 33), .ref (a 42), .ref rb0, .ref rb0])), ((a 14), .inr (7, [.ref (a 15), .int len, .int tst_c4, .int ten_c5])), ((a 15), .inl (cI, 160, .inl byt)), (db0, .inr (5, [.ref db1, .ref db2, .int daga_c8, .int dapa_c9, .int dlin_c10])), (db1, .inl (cI, 8, .inl dmos_c6)), (db2, .inl (cI, 8, .inl dwev_c7)), (rb0, .inr (5, [.ref rb1, .ref rb2, .int aga, .int apa, .int lin])), (rb1, .inl (cI, 8, .inl mos)), (rb2, .inl (cI, 8, .inl wev))] := hD
    refine lv_aload_n hx hb dX9_rules_31 rfl (lv_at hl 1 rfl) ?_
    refine lv_aload_n hx hb dX9_rules_32 rfl (lv_at hl 0 rfl) ?_
    refine va_put (D := (dC, dI)) (ci := 9) (v := .ref db0) (ty := (.object "PalaceOfRooms$RuleBook")) (C := RX9) (T := TX9) (N := 11) hx hb hts inX9 tyX9 tyX9_ok nmX9 hown hK hP hD hS 0 rfl rfl 9 (by decide) lf76 (fun _ h9 => h9) rfl (by decide +kernel) rfl rfl (Nat.le_of_ble_eq_true rfl) dX9_rules_33 (fun H locs hP hD hS => ?_)
    have hP : va_P (dC, dI) vwCl [((a 43), .inr (9, [.ref (a 0), .ref (a 2), .ref (a 4), .ref (a 14), .ref (a 16), .ref (a 23), .ref (a 28), .ref (a 33), .ref (a 42), .ref db0, .ref rb0])), ((a 14), .inr (7, [.ref (a 15), .int len, .int tst_c4, .int ten_c5])), ((a 15), .inl (cI, 160, .inl byt)), (db0, .inr (5, [.ref db1, .ref db2, .int daga_c8, .int dapa_c9, .int dlin_c10])), (db1, .inl (cI, 8, .inl dmos_c6)), (db2, .inl (cI, 8, .inl dwev_c7)), (rb0, .inr (5, [.ref rb1, .ref rb2, .int aga, .int apa, .int lin])), (rb1, .inl (cI, 8, .inl mos)), (rb2, .inl (cI, 8, .inl wev))] H := hP
    have hD : va_D A [((a 43), .inr (9, [.ref (a 0), .ref (a 2), .ref (a 4), .ref (a 14), .ref (a 16), .ref (a 23), .ref (a 28), .ref (a 33), .ref (a 42), .ref db0, .ref rb0])), ((a 14), .inr (7, [.ref (a 15), .int len, .int tst_c4, .int ten_c5])), ((a 15), .inl (cI, 160, .inl byt)), (db0, .inr (5, [.ref db1, .ref db2, .int daga_c8, .int dapa_c9, .int dlin_c10])), (db1, .inl (cI, 8, .inl dmos_c6)), (db2, .inl (cI, 8, .inl dwev_c7)), (rb0, .inr (5, [.ref rb1, .ref rb2, .int aga, .int apa, .int lin])), (rb1, .inl (cI, 8, .inl mos)), (rb2, .inl (cI, 8, .inl wev))] := hD
    refine lv_aload_n hx hb dX9_rules_36 rfl (lv_at hl 1 rfl) ?_
    refine va_get (D := (dC, dI)) (ci := 9) (v := .ref (a 14)) (C := RX9) (T := TX9) (N := 11) hx hb hts inX9 hown hK hP 0 rfl rfl 3 (by decide) lf35 (fun _ h9 => h9) rfl dX9_rules_37 ?_
    refine lv_iconst (v := 0) hx hb dX9_rules_40 (by decide) ?_
    refine va_putN (D := (dC, dI)) (ci := 7) (v := .int 0) (ty := .int) (C := RX7) (T := TX7) (N := 4) hx hb hts inX7 tyX7 tyX7_ok nmX7 hown hK hP hD hS 1 rfl rfl 1 (by decide) lf163 (fun _ h9 => h9) rfl (by decide +kernel) rfl rfl (Nat.le_of_ble_eq_true rfl) dX9_rules_41 (fun H locs hP hD hS => ?_)
    have g12 : 0 ≤ (0 : Int32).toInt ∧ (0 : Int32).toInt ≤ 160 := by rw [show (0 : Int32).toInt = 0 from (show (0 : Int32).toInt = 0 from rfl)]; exact ⟨by omega, by omega⟩
    have hP : va_P (dC, dI) vwCl [((a 43), .inr (9, [.ref (a 0), .ref (a 2), .ref (a 4), .ref (a 14), .ref (a 16), .ref (a 23), .ref (a 28), .ref (a 33), .ref (a 42), .ref db0, .ref rb0])), ((a 14), .inr (7, [.ref (a 15), .int 0, .int tst_c4, .int ten_c5])), ((a 15), .inl (cI, 160, .inl byt)), (db0, .inr (5, [.ref db1, .ref db2, .int daga_c8, .int dapa_c9, .int dlin_c10])), (db1, .inl (cI, 8, .inl dmos_c6)), (db2, .inl (cI, 8, .inl dwev_c7)), (rb0, .inr (5, [.ref rb1, .ref rb2, .int aga, .int apa, .int lin])), (rb1, .inl (cI, 8, .inl mos)), (rb2, .inl (cI, 8, .inl wev))] H := hP
    have hD : va_D A [((a 43), .inr (9, [.ref (a 0), .ref (a 2), .ref (a 4), .ref (a 14), .ref (a 16), .ref (a 23), .ref (a 28), .ref (a 33), .ref (a 42), .ref db0, .ref rb0])), ((a 14), .inr (7, [.ref (a 15), .int 0, .int tst_c4, .int ten_c5])), ((a 15), .inl (cI, 160, .inl byt)), (db0, .inr (5, [.ref db1, .ref db2, .int daga_c8, .int dapa_c9, .int dlin_c10])), (db1, .inl (cI, 8, .inl dmos_c6)), (db2, .inl (cI, 8, .inl dwev_c7)), (rb0, .inr (5, [.ref rb1, .ref rb2, .int aga, .int apa, .int lin])), (rb1, .inl (cI, 8, .inl mos)), (rb2, .inl (cI, 8, .inl wev))] := hD
    refine lv_aload_n hx hb dX9_rules_44 rfl (lv_at hl 1 rfl) ?_
    refine va_get (D := (dC, dI)) (ci := 9) (v := .ref db0) (C := RX9) (T := TX9) (N := 11) hx hb hts inX9 hown hK hP 0 rfl rfl 9 (by decide) lf76 (fun _ h9 => h9) rfl dX9_rules_45 ?_
    refine va_getN (D := (dC, dI)) (ci := 5) (v := .int dlin_c10) (C := RX5) (T := TX5) (N := 5) hx hb hts inX5 hown hK hP 3 rfl rfl 4 (by decide) lf174 (fun _ h9 => h9) rfl dX9_rules_48 ?_
    have hP : va_P (dC, dI) vwCl (wsTDR cI cZ cQ a db0 db1 db2 rb0 rb1 rb2 byt 0 tst_c4 ten_c5 mos wev aga apa lin dmos_c6 dwev_c7 daga_c8 dapa_c9 dlin_c10) H := hP.sub [0, 1, 2, 6, 7, 8, 3, 4, 5] rfl
    have hD : va_D A (wsTDR cI cZ cQ a db0 db1 db2 rb0 rb1 rb2 byt 0 tst_c4 ten_c5 mos wev aga apa lin dmos_c6 dwev_c7 daga_c8 dapa_c9 dlin_c10) := hD.sub [0, 1, 2, 6, 7, 8, 3, 4, 5] (by decide) rfl
    exact W.iret (v := dlin_c10) hx hb hr (fun tq ht hW => ⟨⟨dlin_c10, (uS [(fun _ => tst_c4), (fun _ => ten_c5), mos, wev, (fun _ => aga), (fun _ => apa), (fun _ => lin), dmos_c6, dwev_c7, (fun _ => daga_c8), (fun _ => dapa_c9), (fun _ => dlin_c10), (fun _ => 0)] 0 (fun k => ([db0, db1, db2, rb0, rb1, rb2] : List Nat).getD k 0)), rfl, ⟨(show spRulC byt len mos wev aga apa lin dlin_c10 0 dmos_c6 dwev_c7 daga_c8 dapa_c9 dlin_c10 from by (first | exact Or.inl ⟨⟨_, ⟨_, _, _, _, _, by assumption⟩, by assumption⟩, rfl, rfl, rfl, rfl, rfl, rfl, rfl⟩ | exact Or.inr ⟨ro_cast (by assumption) (by assumption), rfl, rfl⟩)), h2_1, h2_2, g12⟩, by rw [ht]; exact hP, hD⟩, hS.F ht⟩) hS.2.2 dX9_rules_51
  · have dc11 : r1.toInt ≠ (-1) := neC rfl (show ((-1) : Int32).toInt = (-1) from rfl) c11
    refine lv_bipush (v := (-4)) hx hb dX9_rules_15 (by decide) ?_
    exact W.iret (v := (-4)) hx hb hr (fun tq ht hW => ⟨⟨(-4), (uS [(fun _ => tst_c4), (fun _ => ten_c5), dmos_c6, dwev_c7, (fun _ => daga_c8), (fun _ => dapa_c9), (fun _ => dlin_c10), mos, wev, (fun _ => aga), (fun _ => apa), (fun _ => lin), (fun _ => len)] 0 (fun k => ([rb0, rb1, rb2, db0, db1, db2] : List Nat).getD k 0)), rfl, ⟨(show spRulC byt len mos wev aga apa lin ((-4) : Int32) len mos wev aga apa lin from by (try rw [show ((-4) : Int32).toInt = (-4) from (show ((-4) : Int32).toInt = (-4) from rfl)]); (first | exact Or.inl ⟨⟨_, ⟨_, _, _, _, _, by assumption⟩, by assumption⟩, rfl, rfl, rfl, rfl, rfl, rfl, rfl⟩ | exact Or.inr ⟨ro_cast (by assumption) (by assumption), rfl, rfl⟩)), h2_1, h2_2, r_len⟩, by rw [ht]; exact hP, hD⟩, hS.F ht⟩) hS.2.2 dX9_rules_17
set_option maxHeartbeats 4000000 in
set_option maxRecDepth 100000 in
theorem k_X7_append2 (l : Launch) (dC : Nat → ClassId) (dI : Nat → Nat → Nat) (cI cZ cQ : ClassId) (a : Nat → Nat) (byt : Nat → Int32) (len : Int32) (tst : Int32) (ten : Int32) (sz : Nat) (mo : Int64) (n : Int32) (r_len : 0 ≤ len.toInt ∧ len.toInt ≤ 160) (r_tst : 0 ≤ tst.toInt ∧ tst.toInt ≤ 160) (r_ten : 0 ≤ ten.toInt ∧ ten.toInt ≤ 160) (q0 : 0 ≤ n.toInt) (q1 : n.toInt ≤ 8) (q2 : len.toInt + n.toInt ≤ 160) : KV l yX7_append wsX7_append { frames := 0, cells := 0, slots := 0, locals := 0 } (dC, dI) (TY cI cZ cQ) (wTxt cI cZ cQ a byt len tst ten) [.ref (a 14), .long mo, .int n] sz 0 0 (fun (u : US) => ((u.1 0) = wrF byt len.toInt mo n.toInt.toNat) ∧ ((u.1 1 0).toInt = len.toInt + n.toInt) ∧ (0 ≤ (u.1 1 0).toInt ∧ (u.1 1 0).toInt ≤ 160)) (fun u : US => (wTxt cI cZ cQ a (u.1 0) (u.1 1 0) tst ten)) := by
  refine Met.ofW (cc := cX7_append) (maxL := 5) (ret := none) (by decide) rfl ?_
  intro p e s m args below meth c s₁ B hml hv
  obtain ⟨rfl, hsz, hP, hK, hD0, hN⟩ := hv
  have hx := B.exec
  have hb := B.bytes
  have hr := B.returns
  have hts := atoms_spec (ws := wsX7_append) B.pre
  have hown : s.vm.findClass RX7 = some m.cls := findClass_of_methodNamed B.named
  have hlocks := B.notSynchronized
  have lf15 := hts (.fieldLink RX7 15 "PalaceOfRooms$Text" "length" "I") (List.mem_cons_of_mem _ (List.mem_append_left _ (List.mem_of_getElem? (i := 0) rfl)))
  have inX7 : ∀ w ∈ wsX70, w ∈ wsX7_append := fun w h => List.mem_cons_of_mem _ (List.mem_append_right _ h)
  have lf9 := hts (.fieldLink RX7 9 "PalaceOfRooms$Text" "bytes" "[I") (List.mem_cons_of_mem _ (List.mem_append_left _ (List.mem_of_getElem? (i := 1) rfl)))
  subst hsz
  have hD := hD0.self (sz := s.heap.size)
  generalize hAe : va_A (wTxt cI cZ cQ a byt len tst ten) s.heap.size = A at hD ⊢
  have hA : ∀ q : Nat, s.heap.size ≤ q → A q := fun q h => by rw [← hAe]; exact Or.inr h
  have hS : va_S A s.heap s.heap [] := va_S.rf
  have hl := lv_entry ([.ref (a 14), .long mo, .int n]) (n := 5) (Nat.le_of_ble_eq_true rfl)
  rw [lg_entry_eq]
  generalize (lg_sl ([.ref (a 14), .long mo, .int n]) ++ List.replicate (5 - (lg_sl ([.ref (a 14), .long mo, .int n])).length) Slot.unset).toArray = ls at hl ⊢
  have hl : lv_has ls 5 [(0, .ref (a 14)), (1, .long mo), (3, .int n)] := hl
  refine lv_iconst (v := 0) hx hb dX7_append_0 (by decide) ?_
  refine lv_istore (lv' := [(4, .int 0), (0, .ref (a 14)), (1, .long mo), (3, .int n)]) hx hb dX7_append_1 hl (by decide) rfl (fun ls hl => ?_)
  have L3 : ∀ (nn : Nat) (y3_4 : Int32) (byt_3 : Nat → Int32) (len_3 : Int32) (H : Heap) (locs : List Loc) (ls : Array Slot), (0 ≤ len_3.toInt ∧ len_3.toInt ≤ 160) → (0 ≤ (y3_4.toInt)) → ((y3_4.toInt) ≤ 8) → (byt_3 = wrF byt len.toInt mo ((y3_4.toInt)).toNat) → (len_3.toInt = len.toInt + (y3_4.toInt)) → ((y3_4.toInt) ≤ n.toInt) → (8 - (y3_4.toInt)).toNat < nn → va_P (dC, dI) vwCl (wTxt cI cZ cQ a byt_3 len_3 tst ten) H → va_D A (wTxt cI cZ cQ a byt_3 len_3 tst ten) → va_S A s.heap H locs → lv_has ls 5 [(0, .ref (a 14)), (1, .long mo), (3, .int n), (4, .int y3_4)] → W p l e (headSpec wsX7_append { frames := 0, cells := 0, slots := 0, locals := 0 }).room s m ([.ref (a 14), .long mo, .int n] : List Value).toArray below meth c H locs 0 0 (MQ below (va_Qv (fun (u : US) => ((u.1 0) = wrF byt len.toInt mo n.toInt.toNat) ∧ ((u.1 1 0).toInt = len.toInt + n.toInt) ∧ (0 ≤ (u.1 1 0).toInt ∧ (u.1 1 0).toInt ≤ 160)) (Bw (dC, dI) A (fun u : US => (wTxt cI cZ cQ a (u.1 0) (u.1 1 0) tst ten))) A) ([.ref (a 14), .long mo, .int n] : List Value).toArray s 0 0 A) (F0 m 3 ls []) := by
    intro nn
    induction nn with
    | zero =>
      intro y3_4 byt_3 len_3 H locs ls r_len_3 i3_0 i3_1 i3_2 i3_3 i3_4 hm3
      exact absurd hm3 (Nat.not_lt_zero _)
    | succ nn ih3 =>
      intro y3_4 byt_3 len_3 H locs ls r_len_3 i3_0 i3_1 i3_2 i3_3 i3_4 hm3 hP hD hS hl
      refine lv_iload hx hb dX7_append_3 (lv_at hl 3 rfl) ?_
      refine lv_iload_n hx hb dX7_append_5 rfl (lv_at hl 2 rfl) ?_
      refine lv_icmp_ge (tgt := 56) hx hb dX7_append_6 (by decide) (fun c1 => ?_) (fun c1 => ?_)
      · have dc1 : n.toInt ≤ y3_4.toInt := leC rfl rfl c1
        exact W.vret hx hb hr (fun tq ht hW => ⟨⟨(uS [byt_3, (fun _ => len_3)] 0 (fun _ => 0)), rfl, ⟨(show byt_3 = wrF byt len.toInt mo n.toInt.toNat from by exact wr_e i3_2 (by omega)), (show len_3.toInt = len.toInt + n.toInt from by omega), r_len_3⟩, by rw [ht]; exact hP, hD⟩, hS.F ht⟩) hS.2.2 dX7_append_56
      · have dc1 : y3_4.toInt < n.toInt := nleC rfl rfl c1
        refine lv_aload_n hx hb dX7_append_9 rfl (lv_at hl 0 rfl) ?_
        refine va_get (D := (dC, dI)) (ci := 7) (v := .int len_3) (C := RX7) (T := TX7) (N := 4) hx hb hts inX7 hown hK hP 0 rfl rfl 1 (by decide) lf15 (fun _ h9 => h9) rfl dX7_append_10 ?_
        refine lv_sipush (v := 160) hx hb dX7_append_13 (by decide) ?_
        refine lv_icmp_ge (tgt := 56) hx hb dX7_append_16 (by decide) (fun c2 => ?_) (fun c2 => ?_)
        · have dc2 : 160 ≤ len_3.toInt := leC (show (160 : Int32).toInt = 160 from rfl) rfl c2
          exact W.vret hx hb hr (fun tq ht hW => ⟨⟨(uS [byt_3, (fun _ => len_3)] 0 (fun _ => 0)), rfl, ⟨(show byt_3 = wrF byt len.toInt mo n.toInt.toNat from by exact wr_e i3_2 (by omega)), (show len_3.toInt = len.toInt + n.toInt from by omega), r_len_3⟩, by rw [ht]; exact hP, hD⟩, hS.F ht⟩) hS.2.2 dX7_append_56
        · have dc2 : len_3.toInt < 160 := nleC (show (160 : Int32).toInt = 160 from rfl) rfl c2
          refine lv_aload_n hx hb dX7_append_19 rfl (lv_at hl 0 rfl) ?_
          refine va_get (D := (dC, dI)) (ci := 7) (v := .ref (a 15)) (C := RX7) (T := TX7) (N := 4) hx hb hts inX7 hown hK hP 0 rfl rfl 0 (by decide) lf9 (fun _ h9 => h9) rfl dX7_append_20 ?_
          refine lv_aload_n hx hb dX7_append_23 rfl (lv_at hl 0 rfl) ?_
          refine va_get (D := (dC, dI)) (ci := 7) (v := .int len_3) (C := RX7) (T := TX7) (N := 4) hx hb hts inX7 hown hK hP 0 rfl rfl 1 (by decide) lf15 (fun _ h9 => h9) rfl dX7_append_24 ?_
          refine lv_lload_n hx hb dX7_append_27 rfl (lv_at hl 1 rfl) ?_
          refine lv_bipush (v := 8) hx hb dX7_append_28 (by decide) ?_
          refine lv_iload hx hb dX7_append_30 (lv_at hl 3 rfl) ?_
          refine lv_imul hx hb dX7_append_32 ?_
          have f3 : (8 * y3_4).toInt = (8) * (y3_4.toInt) := mulC (show (8 : Int32).toInt = 8 from rfl) rfl (by omega) (by omega)
          refine lv_lshr hx hb dX7_append_33 rfl ?_
          refine lv_ldc2 (v := 255) hx hb hown (hts (.constantLong RX7 19 (255)) (List.mem_cons_of_mem _ (List.mem_append_left _ (List.mem_of_getElem? (i := 2) rfl)))) dX7_append_34 ?_
          refine lv_land hx hb dX7_append_37 ?_
          refine lv_l2i hx hb dX7_append_38 rfl ?_
          have f4 : 0 ≤ (((mo >>> ((8 * y3_4).toInt64 &&& 63)) &&& 255).toInt32).toInt ∧ (((mo >>> ((8 * y3_4).toInt64 &&& 63)) &&& 255).toInt32).toInt ≤ 255 := l2iM255 _
          refine lv_topi (fun x5 ex5 => ?_)
          have ix5 : x5.toInt = (((mo >>> ((8 * y3_4).toInt64 &&& 63)) &&& 255).toInt32).toInt := by rw [ex5]
          have b6 : vp_in len_3 160 := inC rfl (by omega) (by omega)
          refine va_iast hx hb hK hP hD hS 1 0 rfl rfl b6 dX7_append_39 (fun H locs hP hD hS => ?_)
          obtain ⟨byt_u7, ebyt_u7⟩ : ∃ f : Nat → Int32, f = upd byt_3 len_3.toNatClampNeg x5 := ⟨_, rfl⟩
          have hP : va_P (dC, dI) vwCl (wTxt cI cZ cQ a byt_u7 len_3 tst ten) H := by rw [ebyt_u7]; exact hP
          have hD : va_D A (wTxt cI cZ cQ a byt_u7 len_3 tst ten) := by rw [ebyt_u7]; exact hD
          refine lv_aload_n hx hb dX7_append_40 rfl (lv_at hl 0 rfl) ?_
          refine lv_dup hx hb dX7_append_41 rfl ?_
          refine va_get (D := (dC, dI)) (ci := 7) (v := .int len_3) (C := RX7) (T := TX7) (N := 4) hx hb hts inX7 hown hK hP 0 rfl rfl 1 (by decide) lf15 (fun _ h9 => h9) rfl dX7_append_42 ?_
          refine lv_iconst (v := 1) hx hb dX7_append_45 (by decide) ?_
          refine lv_iadd hx hb dX7_append_46 ?_
          have f8 : (len_3 + 1).toInt = (len_3.toInt) + (1) := addC rfl (show (1 : Int32).toInt = 1 from rfl) (by omega) (by omega)
          refine lv_topi (fun x9 ex9 => ?_)
          have ix9 : x9.toInt = (len_3.toInt) + (1) := by rw [ex9]; exact f8
          refine va_put (D := (dC, dI)) (ci := 7) (v := .int x9) (ty := .int) (C := RX7) (T := TX7) (N := 4) hx hb hts inX7 tyX7 tyX7_ok nmX7 hown hK hP hD hS 0 rfl rfl 1 (by decide) lf15 (fun _ h9 => h9) rfl (by decide +kernel) rfl rfl (Nat.le_of_ble_eq_true rfl) dX7_append_47 (fun H locs hP hD hS => ?_)
          have g10 : 0 ≤ x9.toInt ∧ x9.toInt ≤ 160 := by rw [show x9.toInt = x9.toInt from rfl]; exact ⟨by omega, by omega⟩
          have hP : va_P (dC, dI) vwCl (wTxt cI cZ cQ a byt_u7 x9 tst ten) H := hP
          have hD : va_D A (wTxt cI cZ cQ a byt_u7 x9 tst ten) := hD
          obtain ⟨z11, ez11⟩ : ∃ y : Int32, y = y3_4 + 1 := ⟨_, rfl⟩
          have iz11 : z11.toInt = y3_4.toInt + 1 := by rw [ez11]; exact addC rfl rfl (by omega) (by omega)
          refine lv_iinc (v := z11) (lv' := [(4, .int z11), (0, .ref (a 14)), (1, .long mo), (3, .int n)]) hx hb dX7_append_50 hl (k := 3) rfl (by rw [ez11]; rfl) (by decide) rfl (fun ls hl => ?_)
          refine lv_goto (tgt := 3) hx hb dX7_append_53 (by decide) ?_
          exact ih3 z11 byt_u7 x9 _ _ _ g10 (by omega) (by omega) (by (first | exact wr_s i3_2 (by assumption) (by assumption) (by omega) (by omega) (by omega) | exact wr_0 (by first | rfl | omega))) (by omega) (by omega) (by omega) hP hD hS (lv_sub hl [1, 2, 3, 0] rfl)
  have kc12 : (0 : Int32).toInt = 0 := rfl
  exact L3 _ 0 byt len _ _ _ r_len (by omega) (by omega) (by (first | exact wr_s i3_2 (by assumption) (by assumption) (by omega) (by omega) (by omega) | exact wr_0 (by first | rfl | omega))) (by omega) (by omega) (Nat.lt_succ_self _) hP hD hS (lv_sub hl [1, 2, 3, 0] rfl)
set_option maxHeartbeats 4000000 in
set_option maxRecDepth 100000 in
theorem k_X9_write2 (l : Launch) (dC : Nat → ClassId) (dI : Nat → Nat → Nat) (cI cZ cQ : ClassId) (a : Nat → Nat) (rb0 : Nat) (rb1 : Nat) (rb2 : Nat) (db0 : Nat) (db1 : Nat) (db2 : Nat) (byt : Nat → Int32) (len : Int32) (tst : Int32) (ten : Int32) (sz : Nat) (so : Int64) (n : Int32) (r_len : 0 ≤ len.toInt ∧ len.toInt ≤ 160) (r_tst : 0 ≤ tst.toInt ∧ tst.toInt ≤ 160) (r_ten : 0 ≤ ten.toInt ∧ ten.toInt ≤ 160) : KW l yX9_write wsX9_write { frames := 1, cells := 0, slots := 0, locals := 24 } (dC, dI) (TY cI cZ cQ) (wsT cI cZ cQ a rb0 rb1 rb2 db0 db1 db2 byt len tst ten) [.ref (a 43), .long so, .int n] sz 0 0 (fun (r : Int32) (u : US) => (spWri byt len so n r (u.1 0) (u.1 1 0)) ∧ (0 ≤ (u.1 1 0).toInt ∧ (u.1 1 0).toInt ≤ 160)) (fun u : US => (wsT cI cZ cQ a rb0 rb1 rb2 db0 db1 db2 (u.1 0) (u.1 1 0) tst ten)) := by
  refine Met.ofW (cc := cX9_write) (maxL := 4) (ret := (some .int)) (by decide) rfl ?_
  intro p e s m args below meth c s₁ B hml hv
  obtain ⟨rfl, hsz, hP, hK, hD0, hN⟩ := hv
  have hx := B.exec
  have hb := B.bytes
  have hr := B.returns
  have hts := atoms_spec (ws := wsX9_write) B.pre
  have hown : s.vm.findClass RX9 = some m.cls := findClass_of_methodNamed B.named
  have hlocks := B.notSynchronized
  have lf35 := hts (.fieldLink RX9 35 "PalaceOfRooms" "text" "LPalaceOfRooms$Text;") (List.mem_cons_of_mem _ (List.mem_append_left _ (List.mem_append_left _ (List.mem_of_getElem? (i := 0) rfl))))
  have inX9 : ∀ w ∈ wsX90, w ∈ wsX9_write := fun w h => List.mem_cons_of_mem _ (List.mem_append_left _ (List.mem_append_right _ h))
  have lf163 := hN.use (w := .fieldLinkNest "PalaceOfRooms" 163 "PalaceOfRooms$Text" "length" "I" "PalaceOfRooms") (List.mem_of_getElem? (i := 14) rfl) ([.ref (a 43), .long so, .int n] : List Value).toArray
  have inX7 : ∀ w ∈ wsX70, w ∈ wsX9_write := fun w h => List.mem_cons_of_mem _ (List.mem_append_right _ h)
  subst hsz
  have hD := hD0.self (sz := s.heap.size)
  generalize hAe : va_A (wsT cI cZ cQ a rb0 rb1 rb2 db0 db1 db2 byt len tst ten) s.heap.size = A at hD ⊢
  have hA : ∀ q : Nat, s.heap.size ≤ q → A q := fun q h => by rw [← hAe]; exact Or.inr h
  have hS : va_S A s.heap s.heap [] := va_S.rf
  have hl := lv_entry ([.ref (a 43), .long so, .int n]) (n := 4) (Nat.le_of_ble_eq_true rfl)
  rw [lg_entry_eq]
  generalize (lg_sl ([.ref (a 43), .long so, .int n]) ++ List.replicate (4 - (lg_sl ([.ref (a 43), .long so, .int n])).length) Slot.unset).toArray = ls at hl ⊢
  have hl : lv_has ls 4 [(0, .ref (a 43)), (1, .long so), (3, .int n)] := hl
  refine lv_iload_n hx hb dX9_write_0 rfl (lv_at hl 2 rfl) ?_
  refine lv_iconst (v := 1) hx hb dX9_write_1 (by decide) ?_
  refine lv_bipush (v := 8) hx hb dX9_write_2 (by decide) ?_
  refine rdS (As := [.int n, .int 1, .int 8]) (rest := []) ⟨hx, hb, hml, hown, hts⟩ (k_X9_within l dC dI cI cZ cQ n (1 : Int32) (8 : Int32)) (va_cwS 3 hts gX9_write_X9_within rfl rfl rfl (by decide +kernel) ⟨Nat.le_of_ble_eq_true rfl, Nat.le_of_ble_eq_true rfl⟩) hP hK hN [] rfl rfl hl.1 rfl (Nat.le_of_ble_eq_true rfl) dX9_write_4 ⟨Nat.le_of_ble_eq_true rfl, Nat.le_of_ble_eq_true rfl⟩ (fun r1 h2 => ?_)
  have h2 : ((((r1 = 1) ∧ ((1) ≤ n.toInt) ∧ (n.toInt ≤ (8))) ∨ ((r1 = 0) ∧ (n.toInt < (1) ∨ (8) < n.toInt)))) := h2
  rcases h2 with (⟨rfl, h2_a0, h2_a1⟩ | ⟨rfl, h2_a0⟩)
  · refine lv_if_ne (tgt := 13) hx hb dX9_write_7 (by decide) (fun _ => ?_) (fun c9 => absurd c9 (by decide))
    refine lv_aload_n hx hb dX9_write_13 rfl (lv_at hl 0 rfl) ?_
    refine va_get (D := (dC, dI)) (ci := 9) (v := .ref (a 14)) (C := RX9) (T := TX9) (N := 11) hx hb hts inX9 hown hK hP 0 rfl rfl 3 (by decide) lf35 (fun _ h9 => h9) rfl dX9_write_14 ?_
    refine va_getN (D := (dC, dI)) (ci := 7) (v := .int len) (C := RX7) (T := TX7) (N := 4) hx hb hts inX7 hown hK hP 1 rfl rfl 1 (by decide) lf163 (fun _ h9 => h9) rfl dX9_write_17 ?_
    refine lv_iload_n hx hb dX9_write_20 rfl (lv_at hl 2 rfl) ?_
    refine lv_iadd hx hb dX9_write_21 ?_
    have f3 : (len + n).toInt = (len.toInt) + (n.toInt) := addC rfl rfl (by omega) (by omega)
    refine lv_sipush (v := 160) hx hb dX9_write_22 (by decide) ?_
    refine lv_icmp_le (tgt := 31) hx hb dX9_write_25 (by decide) (fun c4 => ?_) (fun c4 => ?_)
    · have dc4 : (len.toInt) + (n.toInt) ≤ 160 := leC f3 (show (160 : Int32).toInt = 160 from rfl) c4
      refine lv_aload_n hx hb dX9_write_31 rfl (lv_at hl 0 rfl) ?_
      refine va_get (D := (dC, dI)) (ci := 9) (v := .ref (a 14)) (C := RX9) (T := TX9) (N := 11) hx hb hts inX9 hown hK hP 0 rfl rfl 3 (by decide) lf35 (fun _ h9 => h9) rfl dX9_write_32 ?_
      refine lv_lload_n hx hb dX9_write_35 rfl (lv_at hl 1 rfl) ?_
      refine lv_iload_n hx hb dX9_write_36 rfl (lv_at hl 2 rfl) ?_
      refine wvV (As := [.long so, .int n]) (rest := []) (wr := [((a 43), .inr (9, [.ref (a 0), .ref (a 2), .ref (a 4), .ref (a 14), .ref (a 16), .ref (a 23), .ref (a 28), .ref (a 33), .ref (a 42), .ref rb0, .ref db0]))]) (w2 := (fun u : US => (wsT cI cZ cQ a rb0 rb1 rb2 db0 db1 db2 (u.1 0) (u.1 1 0) tst ten))) ⟨hx, hb, hml, hown, hts⟩ (k_X7_append2 l dC dI cI cZ cQ a byt len tst ten _ so n r_len r_tst r_ten (by omega) (by omega) (by omega)) (cwV 2 hts gX9_write_X7_append rfl rfl rfl (by decide +kernel) ⟨Nat.le_of_ble_eq_true rfl, Nat.le_of_ble_eq_true rfl⟩) hP hD hS hA hK hN [1, 2] [0] [0, 1, 2] rfl rfl (by decide) (by decide) (by decide) (fun _ => rfl) (by decide) 1 7 rfl rfl rfl hl.1 rfl (Nat.le_of_ble_eq_true rfl) dX9_write_37 ⟨Nat.le_of_ble_eq_true rfl, Nat.le_of_ble_eq_true rfl⟩ (fun u7 H locs h6 hP hD hS => ?_)
      obtain ⟨byt_c8, ebyt_c8⟩ : ∃ f : Nat → Int32, f = (u7.1 0) := ⟨_, rfl⟩
      obtain ⟨len_c9, elen_c9⟩ : ∃ f : Int32, f = (u7.1 1 0) := ⟨_, rfl⟩
      have hP : va_P (dC, dI) vwCl (wsT cI cZ cQ a rb0 rb1 rb2 db0 db1 db2 byt_c8 len_c9 tst ten) H := by rw [ebyt_c8, elen_c9]; exact hP
      have hD : va_D A (wsT cI cZ cQ a rb0 rb1 rb2 db0 db1 db2 byt_c8 len_c9 tst ten) := by rw [ebyt_c8, elen_c9]; exact hD
      have h6 : (byt_c8 = wrF byt len.toInt so n.toInt.toNat) ∧ (len_c9.toInt = len.toInt + n.toInt) ∧ (0 ≤ len_c9.toInt ∧ len_c9.toInt ≤ 160) := by (try rw [ebyt_c8]); (try rw [elen_c9]); exact h6
      obtain ⟨h6_0, h6_1, h6_2⟩ := h6
      refine lv_aload_n hx hb dX9_write_40 rfl (lv_at hl 0 rfl) ?_
      refine va_get (D := (dC, dI)) (ci := 9) (v := .ref (a 14)) (C := RX9) (T := TX9) (N := 11) hx hb hts inX9 hown hK hP 0 rfl rfl 3 (by decide) lf35 (fun _ h9 => h9) rfl dX9_write_41 ?_
      refine va_getN (D := (dC, dI)) (ci := 7) (v := .int len_c9) (C := RX7) (T := TX7) (N := 4) hx hb hts inX7 hown hK hP 1 rfl rfl 1 (by decide) lf163 (fun _ h9 => h9) rfl dX9_write_44 ?_
      exact W.iret (v := len_c9) hx hb hr (fun tq ht hW => ⟨⟨len_c9, (uS [byt_c8, (fun _ => len_c9)] 0 (fun _ => 0)), rfl, ⟨(show spWri byt len so n len_c9 byt_c8 len_c9 from by (first | exact Or.inl ⟨by omega, rfl, rfl, rfl⟩ | exact Or.inr (Or.inl ⟨by omega, by omega, rfl, rfl, rfl⟩) | exact Or.inr (Or.inr ⟨by omega, by omega, rfl, by assumption, by assumption⟩))), h6_2⟩, by rw [ht]; exact hP, hD⟩, hS.F ht⟩) hS.2.2 dX9_write_47
    · have dc4 : 160 < (len.toInt) + (n.toInt) := nleC f3 (show (160 : Int32).toInt = 160 from rfl) c4
      refine lv_bipush (v := (-5)) hx hb dX9_write_28 (by decide) ?_
      exact W.iret (v := (-5)) hx hb hr (fun tq ht hW => ⟨⟨(-5), (uS [byt, (fun _ => len)] 0 (fun _ => 0)), rfl, ⟨(show spWri byt len so n ((-5) : Int32) byt len from by (try rw [show ((-5) : Int32).toInt = (-5) from (show ((-5) : Int32).toInt = (-5) from rfl)]); (first | exact Or.inl ⟨by omega, rfl, rfl, rfl⟩ | exact Or.inr (Or.inl ⟨by omega, by omega, rfl, rfl, rfl⟩) | exact Or.inr (Or.inr ⟨by omega, by omega, rfl, by assumption, by assumption⟩))), r_len⟩, by rw [ht]; exact hP, hD⟩, hS.F ht⟩) hS.2.2 dX9_write_30
  · refine lv_if_ne (tgt := 13) hx hb dX9_write_7 (by decide) (fun c9 => absurd (by decide) c9) (fun _ => ?_)
    refine lv_bipush (v := (-3)) hx hb dX9_write_10 (by decide) ?_
    exact W.iret (v := (-3)) hx hb hr (fun tq ht hW => ⟨⟨(-3), (uS [byt, (fun _ => len)] 0 (fun _ => 0)), rfl, ⟨(show spWri byt len so n ((-3) : Int32) byt len from by (try rw [show ((-3) : Int32).toInt = (-3) from (show ((-3) : Int32).toInt = (-3) from rfl)]); (first | exact Or.inl ⟨by omega, rfl, rfl, rfl⟩ | exact Or.inr (Or.inl ⟨by omega, by omega, rfl, rfl, rfl⟩) | exact Or.inr (Or.inr ⟨by omega, by omega, rfl, by assumption, by assumption⟩))), r_len⟩, by rw [ht]; exact hP, hD⟩, hS.F ht⟩) hS.2.2 dX9_write_12
set_option maxHeartbeats 4000000 in
set_option maxRecDepth 100000 in
theorem k_X10_write2 (l : Launch) (dC : Nat → ClassId) (dI : Nat → Nat → Nat) (cI cZ cQ : ClassId) (b : Nat → Nat) (mday : Int32) (mdoo : Int32) (mtel : Int32) (mgai : Int32) (mbyt : Int32) (mtxt : Nat → Int32) (mpos : Int32) (mtka : Int32) (mtok : Int64) (mdig : Int32) (mnum : Int32) (mfau : Int32) (mrdm : Int32) (mlin : Int32) (mbsm : Int32) (sz : Nat) (so : Int64) (n : Int32) (r_mday : 0 ≤ mday.toInt ∧ mday.toInt ≤ 400) (r_mdoo : 0 ≤ mdoo.toInt ∧ mdoo.toInt ≤ 14) (r_mgai : 0 ≤ mgai.toInt ∧ mgai.toInt ≤ 100) (r_mbyt : 0 ≤ mbyt.toInt ∧ mbyt.toInt ≤ 160) (r_mpos : 0 ≤ mpos.toInt ∧ mpos.toInt ≤ 160) (r_mrdm : 0 ≤ mrdm.toInt ∧ mrdm.toInt ≤ 10) (r_mlin : 0 ≤ mlin.toInt ∧ mlin.toInt ≤ 10) : KW l yX10_write wsX10_write { frames := 1, cells := 0, slots := 0, locals := 22 } (dC, dI) (TY cI cZ cQ) (wMdT cI cZ cQ b mday mdoo mtel mgai mbyt mtxt mpos mtka mtok mdig mnum mfau mrdm mlin mbsm) [.ref (b 39), .long so, .int n] sz 0 0 (fun (r : Int32) (u : US) => (spWri mtxt mbyt so n r (u.1 0) (u.1 1 0)) ∧ (0 ≤ (u.1 1 0).toInt ∧ (u.1 1 0).toInt ≤ 160)) (fun u : US => (wMdT cI cZ cQ b mday mdoo mtel mgai (u.1 1 0) (u.1 0) mpos mtka mtok mdig mnum mfau mrdm mlin mbsm)) := by
  refine Met.ofW (cc := cX10_write) (maxL := 5) (ret := (some .int)) (by decide) rfl ?_
  intro p e s m args below meth c s₁ B hml hv
  obtain ⟨rfl, hsz, hP, hK, hD0, hN⟩ := hv
  have hx := B.exec
  have hb := B.bytes
  have hr := B.returns
  have hts := atoms_spec (ws := wsX10_write) B.pre
  have hown : s.vm.findClass RX10 = some m.cls := findClass_of_methodNamed B.named
  have hlocks := B.notSynchronized
  have lf141 := hts (.fieldLink RX10 141 "PalaceOfRoomsModel" "bytes" "I") (List.mem_cons_of_mem _ (List.mem_append_left _ (List.mem_of_getElem? (i := 0) rfl)))
  have inX10 : ∀ w ∈ wsX100, w ∈ wsX10_write := fun w h => List.mem_cons_of_mem _ (List.mem_append_right _ h)
  have lf62 := hts (.fieldLink RX10 62 "PalaceOfRoomsModel" "text" "[I") (List.mem_cons_of_mem _ (List.mem_append_left _ (List.mem_of_getElem? (i := 1) rfl)))
  subst hsz
  have hD := hD0.self (sz := s.heap.size)
  generalize hAe : va_A (wMdT cI cZ cQ b mday mdoo mtel mgai mbyt mtxt mpos mtka mtok mdig mnum mfau mrdm mlin mbsm) s.heap.size = A at hD ⊢
  have hA : ∀ q : Nat, s.heap.size ≤ q → A q := fun q h => by rw [← hAe]; exact Or.inr h
  have hS : va_S A s.heap s.heap [] := va_S.rf
  have hl := lv_entry ([.ref (b 39), .long so, .int n]) (n := 5) (Nat.le_of_ble_eq_true rfl)
  rw [lg_entry_eq]
  generalize (lg_sl ([.ref (b 39), .long so, .int n]) ++ List.replicate (5 - (lg_sl ([.ref (b 39), .long so, .int n])).length) Slot.unset).toArray = ls at hl ⊢
  have hl : lv_has ls 5 [(0, .ref (b 39)), (1, .long so), (3, .int n)] := hl
  refine lv_iload_n hx hb dX10_write_0 rfl (lv_at hl 2 rfl) ?_
  refine lv_iconst (v := 1) hx hb dX10_write_1 (by decide) ?_
  refine lv_bipush (v := 8) hx hb dX10_write_2 (by decide) ?_
  refine rdS (As := [.int n, .int 1, .int 8]) (rest := []) ⟨hx, hb, hml, hown, hts⟩ (k_X10_in l dC dI cI cZ cQ n (1 : Int32) (8 : Int32)) (va_cwS 3 hts gX10_write_X10_in rfl rfl rfl (by decide +kernel) ⟨Nat.le_of_ble_eq_true rfl, Nat.le_of_ble_eq_true rfl⟩) hP hK hN [] rfl rfl hl.1 rfl (Nat.le_of_ble_eq_true rfl) dX10_write_4 ⟨Nat.le_of_ble_eq_true rfl, Nat.le_of_ble_eq_true rfl⟩ (fun r1 h2 => ?_)
  have h2 : ((((r1 = 1) ∧ ((1) ≤ n.toInt) ∧ (n.toInt ≤ (8))) ∨ ((r1 = 0) ∧ (n.toInt < (1) ∨ (8) < n.toInt)))) := h2
  rcases h2 with (⟨rfl, h2_a0, h2_a1⟩ | ⟨rfl, h2_a0⟩)
  · refine lv_if_ne (tgt := 13) hx hb dX10_write_7 (by decide) (fun _ => ?_) (fun c9 => absurd c9 (by decide))
    refine lv_aload_n hx hb dX10_write_13 rfl (lv_at hl 0 rfl) ?_
    refine va_get (D := (dC, dI)) (ci := 10) (v := .int mbyt) (C := RX10) (T := TX10) (N := 39) hx hb hts inX10 hown hK hP 0 rfl rfl 19 (by decide) lf141 (fun _ h9 => h9) rfl dX10_write_14 ?_
    refine lv_iload_n hx hb dX10_write_17 rfl (lv_at hl 2 rfl) ?_
    refine lv_iadd hx hb dX10_write_18 ?_
    have f3 : (mbyt + n).toInt = (mbyt.toInt) + (n.toInt) := addC rfl rfl (by omega) (by omega)
    refine lv_sipush (v := 160) hx hb dX10_write_19 (by decide) ?_
    refine lv_icmp_le (tgt := 28) hx hb dX10_write_22 (by decide) (fun c4 => ?_) (fun c4 => ?_)
    · have dc4 : (mbyt.toInt) + (n.toInt) ≤ 160 := leC f3 (show (160 : Int32).toInt = 160 from rfl) c4
      refine lv_iconst (v := 0) hx hb dX10_write_28 (by decide) ?_
      refine lv_istore (lv' := [(4, .int 0), (0, .ref (b 39)), (1, .long so), (3, .int n)]) hx hb dX10_write_29 hl (by decide) rfl (fun ls hl => ?_)
      have L31 : ∀ (nn : Nat) (y31_4 : Int32) (mtxt_31 : Nat → Int32) (H : Heap) (locs : List Loc) (ls : Array Slot), (0 ≤ (y31_4.toInt)) → ((y31_4.toInt) ≤ 8) → (mtxt_31 = wrF mtxt mbyt.toInt so ((y31_4.toInt)).toNat) → ((y31_4.toInt) ≤ n.toInt) → (8 - (y31_4.toInt)).toNat < nn → va_P (dC, dI) vwCl (wMdT cI cZ cQ b mday mdoo mtel mgai mbyt mtxt_31 mpos mtka mtok mdig mnum mfau mrdm mlin mbsm) H → va_D A (wMdT cI cZ cQ b mday mdoo mtel mgai mbyt mtxt_31 mpos mtka mtok mdig mnum mfau mrdm mlin mbsm) → va_S A s.heap H locs → lv_has ls 5 [(0, .ref (b 39)), (1, .long so), (3, .int n), (4, .int y31_4)] → W p l e (headSpec wsX10_write { frames := 1, cells := 0, slots := 0, locals := 22 }).room s m ([.ref (b 39), .long so, .int n] : List Value).toArray below meth c H locs 0 0 (MQ below (va_Qi (fun (r : Int32) (u : US) => (spWri mtxt mbyt so n r (u.1 0) (u.1 1 0)) ∧ (0 ≤ (u.1 1 0).toInt ∧ (u.1 1 0).toInt ≤ 160)) (Bw (dC, dI) A (fun u : US => (wMdT cI cZ cQ b mday mdoo mtel mgai (u.1 1 0) (u.1 0) mpos mtka mtok mdig mnum mfau mrdm mlin mbsm))) A) ([.ref (b 39), .long so, .int n] : List Value).toArray s 0 0 A) (F0 m 31 ls []) := by
        intro nn
        induction nn with
        | zero =>
          intro y31_4 mtxt_31 H locs ls i31_0 i31_1 i31_2 i31_3 hm31
          exact absurd hm31 (Nat.not_lt_zero _)
        | succ nn ih31 =>
          intro y31_4 mtxt_31 H locs ls i31_0 i31_1 i31_2 i31_3 hm31 hP hD hS hl
          refine lv_iload hx hb dX10_write_31 (lv_at hl 3 rfl) ?_
          refine lv_iload_n hx hb dX10_write_33 rfl (lv_at hl 2 rfl) ?_
          refine lv_icmp_ge (tgt := 67) hx hb dX10_write_34 (by decide) (fun c5 => ?_) (fun c5 => ?_)
          · have dc5 : n.toInt ≤ y31_4.toInt := leC rfl rfl c5
            refine lv_aload_n hx hb dX10_write_67 rfl (lv_at hl 0 rfl) ?_
            refine lv_dup hx hb dX10_write_68 rfl ?_
            refine va_get (D := (dC, dI)) (ci := 10) (v := .int mbyt) (C := RX10) (T := TX10) (N := 39) hx hb hts inX10 hown hK hP 0 rfl rfl 19 (by decide) lf141 (fun _ h9 => h9) rfl dX10_write_69 ?_
            refine lv_iload_n hx hb dX10_write_72 rfl (lv_at hl 2 rfl) ?_
            refine lv_iadd hx hb dX10_write_73 ?_
            have f6 : (mbyt + n).toInt = (mbyt.toInt) + (n.toInt) := addC rfl rfl (by omega) (by omega)
            refine lv_topi (fun x7 ex7 => ?_)
            have ix7 : x7.toInt = (mbyt.toInt) + (n.toInt) := by rw [ex7]; exact f6
            refine va_put (D := (dC, dI)) (ci := 10) (v := .int x7) (ty := .int) (C := RX10) (T := TX10) (N := 39) hx hb hts inX10 tyX10 tyX10_ok nmX10 hown hK hP hD hS 0 rfl rfl 19 (by decide) lf141 (fun _ h9 => h9) rfl (by decide +kernel) rfl rfl (Nat.le_of_ble_eq_true rfl) dX10_write_74 (fun H locs hP hD hS => ?_)
            have g8 : 0 ≤ x7.toInt ∧ x7.toInt ≤ 160 := by rw [show x7.toInt = x7.toInt from rfl]; exact ⟨by omega, by omega⟩
            have hP : va_P (dC, dI) vwCl (wMdT cI cZ cQ b mday mdoo mtel mgai x7 mtxt_31 mpos mtka mtok mdig mnum mfau mrdm mlin mbsm) H := hP
            have hD : va_D A (wMdT cI cZ cQ b mday mdoo mtel mgai x7 mtxt_31 mpos mtka mtok mdig mnum mfau mrdm mlin mbsm) := hD
            refine lv_aload_n hx hb dX10_write_77 rfl (lv_at hl 0 rfl) ?_
            refine va_get (D := (dC, dI)) (ci := 10) (v := .int x7) (C := RX10) (T := TX10) (N := 39) hx hb hts inX10 hown hK hP 0 rfl rfl 19 (by decide) lf141 (fun _ h9 => h9) rfl dX10_write_78 ?_
            exact W.iret (v := x7) hx hb hr (fun tq ht hW => ⟨⟨x7, (uS [mtxt_31, (fun _ => x7)] 0 (fun _ => 0)), rfl, ⟨(show spWri mtxt mbyt so n x7 mtxt_31 x7 from by (first | exact Or.inl ⟨by omega, rfl, rfl, rfl⟩ | exact Or.inr (Or.inl ⟨by omega, by omega, rfl, rfl, rfl⟩) | exact Or.inr (Or.inr ⟨by omega, by omega, rfl, by assumption, wr_e i31_2 (by omega)⟩))), g8⟩, by rw [ht]; exact hP, hD⟩, hS.F ht⟩) hS.2.2 dX10_write_81
          · have dc5 : y31_4.toInt < n.toInt := nleC rfl rfl c5
            refine lv_aload_n hx hb dX10_write_37 rfl (lv_at hl 0 rfl) ?_
            refine va_get (D := (dC, dI)) (ci := 10) (v := .ref (b 20)) (C := RX10) (T := TX10) (N := 39) hx hb hts inX10 hown hK hP 0 rfl rfl 20 (by decide) lf62 (fun _ h9 => h9) rfl dX10_write_38 ?_
            refine lv_aload_n hx hb dX10_write_41 rfl (lv_at hl 0 rfl) ?_
            refine va_get (D := (dC, dI)) (ci := 10) (v := .int mbyt) (C := RX10) (T := TX10) (N := 39) hx hb hts inX10 hown hK hP 0 rfl rfl 19 (by decide) lf141 (fun _ h9 => h9) rfl dX10_write_42 ?_
            refine lv_iload hx hb dX10_write_45 (lv_at hl 3 rfl) ?_
            refine lv_iadd hx hb dX10_write_47 ?_
            have f9 : (mbyt + y31_4).toInt = (mbyt.toInt) + (y31_4.toInt) := addC rfl rfl (by omega) (by omega)
            refine lv_lload_n hx hb dX10_write_48 rfl (lv_at hl 1 rfl) ?_
            refine lv_bipush (v := 8) hx hb dX10_write_49 (by decide) ?_
            refine lv_iload hx hb dX10_write_51 (lv_at hl 3 rfl) ?_
            refine lv_imul hx hb dX10_write_53 ?_
            have f10 : (8 * y31_4).toInt = (8) * (y31_4.toInt) := mulC (show (8 : Int32).toInt = 8 from rfl) rfl (by omega) (by omega)
            refine lv_lshr hx hb dX10_write_54 rfl ?_
            refine lv_ldc2 (v := 255) hx hb hown (hts (.constantLong RX10 144 (255)) (List.mem_cons_of_mem _ (List.mem_append_left _ (List.mem_of_getElem? (i := 2) rfl)))) dX10_write_55 ?_
            refine lv_land hx hb dX10_write_58 ?_
            refine lv_l2i hx hb dX10_write_59 rfl ?_
            have f11 : 0 ≤ (((so >>> ((8 * y31_4).toInt64 &&& 63)) &&& 255).toInt32).toInt ∧ (((so >>> ((8 * y31_4).toInt64 &&& 63)) &&& 255).toInt32).toInt ≤ 255 := l2iM255 _
            refine lv_topi (fun x12 ex12 => ?_)
            have ix12 : x12.toInt = (((so >>> ((8 * y31_4).toInt64 &&& 63)) &&& 255).toInt32).toInt := by rw [ex12]
            have b13 : vp_in (mbyt + y31_4) 160 := inC f9 (by omega) (by omega)
            refine va_iast hx hb hK hP hD hS 1 0 rfl rfl b13 dX10_write_60 (fun H locs hP hD hS => ?_)
            obtain ⟨mtxt_u14, emtxt_u14⟩ : ∃ f : Nat → Int32, f = upd mtxt_31 (mbyt + y31_4).toNatClampNeg x12 := ⟨_, rfl⟩
            have hP : va_P (dC, dI) vwCl (wMdT cI cZ cQ b mday mdoo mtel mgai mbyt mtxt_u14 mpos mtka mtok mdig mnum mfau mrdm mlin mbsm) H := by rw [emtxt_u14]; exact hP
            have hD : va_D A (wMdT cI cZ cQ b mday mdoo mtel mgai mbyt mtxt_u14 mpos mtka mtok mdig mnum mfau mrdm mlin mbsm) := by rw [emtxt_u14]; exact hD
            obtain ⟨z15, ez15⟩ : ∃ y : Int32, y = y31_4 + 1 := ⟨_, rfl⟩
            have iz15 : z15.toInt = y31_4.toInt + 1 := by rw [ez15]; exact addC rfl rfl (by omega) (by omega)
            refine lv_iinc (v := z15) (lv' := [(4, .int z15), (0, .ref (b 39)), (1, .long so), (3, .int n)]) hx hb dX10_write_61 hl (k := 3) rfl (by rw [ez15]; rfl) (by decide) rfl (fun ls hl => ?_)
            refine lv_goto (tgt := 31) hx hb dX10_write_64 (by decide) ?_
            exact ih31 z15 mtxt_u14 _ _ _ (by omega) (by omega) (by (first | exact wr_s i31_2 (by assumption) (by assumption) (by omega) (by omega) (by omega) | exact wr_0 (by first | rfl | omega))) (by omega) (by omega) hP hD hS (lv_sub hl [1, 2, 3, 0] rfl)
      have kc16 : (0 : Int32).toInt = 0 := rfl
      exact L31 _ 0 mtxt _ _ _ (by omega) (by omega) (by (first | exact wr_s i31_2 (by assumption) (by assumption) (by omega) (by omega) (by omega) | exact wr_0 (by first | rfl | omega))) (by omega) (Nat.lt_succ_self _) hP hD hS (lv_sub hl [1, 2, 3, 0] rfl)
    · have dc4 : 160 < (mbyt.toInt) + (n.toInt) := nleC f3 (show (160 : Int32).toInt = 160 from rfl) c4
      refine lv_bipush (v := (-5)) hx hb dX10_write_25 (by decide) ?_
      exact W.iret (v := (-5)) hx hb hr (fun tq ht hW => ⟨⟨(-5), (uS [mtxt, (fun _ => mbyt)] 0 (fun _ => 0)), rfl, ⟨(show spWri mtxt mbyt so n ((-5) : Int32) mtxt mbyt from by (try rw [show ((-5) : Int32).toInt = (-5) from (show ((-5) : Int32).toInt = (-5) from rfl)]); (first | exact Or.inl ⟨by omega, rfl, rfl, rfl⟩ | exact Or.inr (Or.inl ⟨by omega, by omega, rfl, rfl, rfl⟩) | exact Or.inr (Or.inr ⟨by omega, by omega, rfl, by assumption, wr_e i31_2 (by omega)⟩))), r_mbyt⟩, by rw [ht]; exact hP, hD⟩, hS.F ht⟩) hS.2.2 dX10_write_27
  · refine lv_if_ne (tgt := 13) hx hb dX10_write_7 (by decide) (fun c9 => absurd (by decide) c9) (fun _ => ?_)
    refine lv_bipush (v := (-3)) hx hb dX10_write_10 (by decide) ?_
    exact W.iret (v := (-3)) hx hb hr (fun tq ht hW => ⟨⟨(-3), (uS [mtxt, (fun _ => mbyt)] 0 (fun _ => 0)), rfl, ⟨(show spWri mtxt mbyt so n ((-3) : Int32) mtxt mbyt from by (try rw [show ((-3) : Int32).toInt = (-3) from (show ((-3) : Int32).toInt = (-3) from rfl)]); (first | exact Or.inl ⟨by omega, rfl, rfl, rfl⟩ | exact Or.inr (Or.inl ⟨by omega, by omega, rfl, rfl, rfl⟩) | exact Or.inr (Or.inr ⟨by omega, by omega, rfl, by assumption, wr_e i31_2 (by omega)⟩))), r_mbyt⟩, by rw [ht]; exact hP, hD⟩, hS.F ht⟩) hS.2.2 dX10_write_12
set_option maxHeartbeats 4000000 in
set_option maxRecDepth 100000 in
theorem k_X9_erase2 (l : Launch) (dC : Nat → ClassId) (dI : Nat → Nat → Nat) (cI cZ cQ : ClassId) (a : Nat → Nat) (rb0 : Nat) (rb1 : Nat) (rb2 : Nat) (db0 : Nat) (db1 : Nat) (db2 : Nat) (byt : Nat → Int32) (len : Int32) (tst : Int32) (ten : Int32) (sz : Nat) (r_len : 0 ≤ len.toInt ∧ len.toInt ≤ 160) (r_tst : 0 ≤ tst.toInt ∧ tst.toInt ≤ 160) (r_ten : 0 ≤ ten.toInt ∧ ten.toInt ≤ 160) : KW l yX9_erase wsX9_erase { frames := 0, cells := 0, slots := 0, locals := 0 } (dC, dI) (TY cI cZ cQ) (wsT cI cZ cQ a rb0 rb1 rb2 db0 db1 db2 byt len tst ten) [.ref (a 43)] sz 0 0 (fun (r : Int32) (u : US) => (spEra len r (u.1 0 0)) ∧ (0 ≤ (u.1 0 0).toInt ∧ (u.1 0 0).toInt ≤ 160)) (fun u : US => (wsT cI cZ cQ a rb0 rb1 rb2 db0 db1 db2 byt (u.1 0 0) tst ten)) := by
  refine Met.ofW (cc := cX9_erase) (maxL := 2) (ret := (some .int)) (by decide) rfl ?_
  intro p e s m args below meth c s₁ B hml hv
  obtain ⟨rfl, hsz, hP, hK, hD0, hN⟩ := hv
  have hx := B.exec
  have hb := B.bytes
  have hr := B.returns
  have hts := atoms_spec (ws := wsX9_erase) B.pre
  have hown : s.vm.findClass RX9 = some m.cls := findClass_of_methodNamed B.named
  have hlocks := B.notSynchronized
  have lf35 := hts (.fieldLink RX9 35 "PalaceOfRooms" "text" "LPalaceOfRooms$Text;") (List.mem_cons_of_mem _ (List.mem_append_left _ (List.mem_append_left _ (List.mem_of_getElem? (i := 0) rfl))))
  have inX9 : ∀ w ∈ wsX90, w ∈ wsX9_erase := fun w h => List.mem_cons_of_mem _ (List.mem_append_left _ (List.mem_append_right _ h))
  have lf163 := hN.use (w := .fieldLinkNest "PalaceOfRooms" 163 "PalaceOfRooms$Text" "length" "I" "PalaceOfRooms") (List.mem_of_getElem? (i := 14) rfl) ([.ref (a 43)] : List Value).toArray
  have inX7 : ∀ w ∈ wsX70, w ∈ wsX9_erase := fun w h => List.mem_cons_of_mem _ (List.mem_append_right _ h)
  subst hsz
  have hD := hD0.self (sz := s.heap.size)
  generalize hAe : va_A (wsT cI cZ cQ a rb0 rb1 rb2 db0 db1 db2 byt len tst ten) s.heap.size = A at hD ⊢
  have hA : ∀ q : Nat, s.heap.size ≤ q → A q := fun q h => by rw [← hAe]; exact Or.inr h
  have hS : va_S A s.heap s.heap [] := va_S.rf
  have hl := lv_entry ([.ref (a 43)]) (n := 2) (Nat.le_of_ble_eq_true rfl)
  rw [lg_entry_eq]
  generalize (lg_sl ([.ref (a 43)]) ++ List.replicate (2 - (lg_sl ([.ref (a 43)])).length) Slot.unset).toArray = ls at hl ⊢
  have hl : lv_has ls 2 [(0, .ref (a 43))] := hl
  refine lv_aload_n hx hb dX9_erase_0 rfl (lv_at hl 0 rfl) ?_
  refine va_get (D := (dC, dI)) (ci := 9) (v := .ref (a 14)) (C := RX9) (T := TX9) (N := 11) hx hb hts inX9 hown hK hP 0 rfl rfl 3 (by decide) lf35 (fun _ h9 => h9) rfl dX9_erase_1 ?_
  refine va_getN (D := (dC, dI)) (ci := 7) (v := .int len) (C := RX7) (T := TX7) (N := 4) hx hb hts inX7 hown hK hP 1 rfl rfl 1 (by decide) lf163 (fun _ h9 => h9) rfl dX9_erase_4 ?_
  refine lv_istore_n (lv' := [(1, .int len), (0, .ref (a 43))]) hx hb dX9_erase_7 rfl hl (by decide) rfl (fun ls hl => ?_)
  refine lv_aload_n hx hb dX9_erase_8 rfl (lv_at hl 1 rfl) ?_
  refine va_get (D := (dC, dI)) (ci := 9) (v := .ref (a 14)) (C := RX9) (T := TX9) (N := 11) hx hb hts inX9 hown hK hP 0 rfl rfl 3 (by decide) lf35 (fun _ h9 => h9) rfl dX9_erase_9 ?_
  refine lv_iconst (v := 0) hx hb dX9_erase_12 (by decide) ?_
  refine va_putN (D := (dC, dI)) (ci := 7) (v := .int 0) (ty := .int) (C := RX7) (T := TX7) (N := 4) hx hb hts inX7 tyX7 tyX7_ok nmX7 hown hK hP hD hS 1 rfl rfl 1 (by decide) lf163 (fun _ h9 => h9) rfl (by decide +kernel) rfl rfl (Nat.le_of_ble_eq_true rfl) dX9_erase_13 (fun H locs hP hD hS => ?_)
  have g1 : 0 ≤ (0 : Int32).toInt ∧ (0 : Int32).toInt ≤ 160 := by rw [show (0 : Int32).toInt = 0 from (show (0 : Int32).toInt = 0 from rfl)]; exact ⟨by omega, by omega⟩
  have hP : va_P (dC, dI) vwCl (wsT cI cZ cQ a rb0 rb1 rb2 db0 db1 db2 byt 0 tst ten) H := hP
  have hD : va_D A (wsT cI cZ cQ a rb0 rb1 rb2 db0 db1 db2 byt 0 tst ten) := hD
  refine lv_iload_n hx hb dX9_erase_16 rfl (lv_at hl 0 rfl) ?_
  exact W.iret (v := len) hx hb hr (fun tq ht hW => ⟨⟨len, (uS [(fun _ => 0)] 0 (fun _ => 0)), rfl, ⟨(show spEra len len 0 from by exact ⟨by first | rfl | assumption, rfl⟩), g1⟩, by rw [ht]; exact hP, hD⟩, hS.F ht⟩) hS.2.2 dX9_erase_17
set_option maxHeartbeats 4000000 in
set_option maxRecDepth 100000 in
theorem k_X10_erase2 (l : Launch) (dC : Nat → ClassId) (dI : Nat → Nat → Nat) (cI cZ cQ : ClassId) (b : Nat → Nat) (mday : Int32) (mdoo : Int32) (mtel : Int32) (mgai : Int32) (mbyt : Int32) (mtxt : Nat → Int32) (mpos : Int32) (mtka : Int32) (mtok : Int64) (mdig : Int32) (mnum : Int32) (mfau : Int32) (mrdm : Int32) (mlin : Int32) (mbsm : Int32) (sz : Nat) (r_mday : 0 ≤ mday.toInt ∧ mday.toInt ≤ 400) (r_mdoo : 0 ≤ mdoo.toInt ∧ mdoo.toInt ≤ 14) (r_mgai : 0 ≤ mgai.toInt ∧ mgai.toInt ≤ 100) (r_mbyt : 0 ≤ mbyt.toInt ∧ mbyt.toInt ≤ 160) (r_mpos : 0 ≤ mpos.toInt ∧ mpos.toInt ≤ 160) (r_mrdm : 0 ≤ mrdm.toInt ∧ mrdm.toInt ≤ 10) (r_mlin : 0 ≤ mlin.toInt ∧ mlin.toInt ≤ 10) : KW l yX10_erase wsX10_erase { frames := 0, cells := 0, slots := 0, locals := 0 } (dC, dI) (TY cI cZ cQ) (wMdT cI cZ cQ b mday mdoo mtel mgai mbyt mtxt mpos mtka mtok mdig mnum mfau mrdm mlin mbsm) [.ref (b 39)] sz 0 0 (fun (r : Int32) (u : US) => (spEra mbyt r (u.1 0 0)) ∧ (0 ≤ (u.1 0 0).toInt ∧ (u.1 0 0).toInt ≤ 160)) (fun u : US => (wMdT cI cZ cQ b mday mdoo mtel mgai (u.1 0 0) mtxt mpos mtka mtok mdig mnum mfau mrdm mlin mbsm)) := by
  refine Met.ofW (cc := cX10_erase) (maxL := 2) (ret := (some .int)) (by decide) rfl ?_
  intro p e s m args below meth c s₁ B hml hv
  obtain ⟨rfl, hsz, hP, hK, hD0, hN⟩ := hv
  have hx := B.exec
  have hb := B.bytes
  have hr := B.returns
  have hts := atoms_spec (ws := wsX10_erase) B.pre
  have hown : s.vm.findClass RX10 = some m.cls := findClass_of_methodNamed B.named
  have hlocks := B.notSynchronized
  have lf141 := hts (.fieldLink RX10 141 "PalaceOfRoomsModel" "bytes" "I") (List.mem_cons_of_mem _ (List.mem_append_left _ (List.mem_of_getElem? (i := 0) rfl)))
  have inX10 : ∀ w ∈ wsX100, w ∈ wsX10_erase := fun w h => List.mem_cons_of_mem _ (List.mem_append_right _ h)
  subst hsz
  have hD := hD0.self (sz := s.heap.size)
  generalize hAe : va_A (wMdT cI cZ cQ b mday mdoo mtel mgai mbyt mtxt mpos mtka mtok mdig mnum mfau mrdm mlin mbsm) s.heap.size = A at hD ⊢
  have hA : ∀ q : Nat, s.heap.size ≤ q → A q := fun q h => by rw [← hAe]; exact Or.inr h
  have hS : va_S A s.heap s.heap [] := va_S.rf
  have hl := lv_entry ([.ref (b 39)]) (n := 2) (Nat.le_of_ble_eq_true rfl)
  rw [lg_entry_eq]
  generalize (lg_sl ([.ref (b 39)]) ++ List.replicate (2 - (lg_sl ([.ref (b 39)])).length) Slot.unset).toArray = ls at hl ⊢
  have hl : lv_has ls 2 [(0, .ref (b 39))] := hl
  refine lv_aload_n hx hb dX10_erase_0 rfl (lv_at hl 0 rfl) ?_
  refine va_get (D := (dC, dI)) (ci := 10) (v := .int mbyt) (C := RX10) (T := TX10) (N := 39) hx hb hts inX10 hown hK hP 0 rfl rfl 19 (by decide) lf141 (fun _ h9 => h9) rfl dX10_erase_1 ?_
  refine lv_istore_n (lv' := [(1, .int mbyt), (0, .ref (b 39))]) hx hb dX10_erase_4 rfl hl (by decide) rfl (fun ls hl => ?_)
  refine lv_aload_n hx hb dX10_erase_5 rfl (lv_at hl 1 rfl) ?_
  refine lv_iconst (v := 0) hx hb dX10_erase_6 (by decide) ?_
  refine va_put (D := (dC, dI)) (ci := 10) (v := .int 0) (ty := .int) (C := RX10) (T := TX10) (N := 39) hx hb hts inX10 tyX10 tyX10_ok nmX10 hown hK hP hD hS 0 rfl rfl 19 (by decide) lf141 (fun _ h9 => h9) rfl (by decide +kernel) rfl rfl (Nat.le_of_ble_eq_true rfl) dX10_erase_7 (fun H locs hP hD hS => ?_)
  have g1 : 0 ≤ (0 : Int32).toInt ∧ (0 : Int32).toInt ≤ 160 := by rw [show (0 : Int32).toInt = 0 from (show (0 : Int32).toInt = 0 from rfl)]; exact ⟨by omega, by omega⟩
  have hP : va_P (dC, dI) vwCl (wMdT cI cZ cQ b mday mdoo mtel mgai 0 mtxt mpos mtka mtok mdig mnum mfau mrdm mlin mbsm) H := hP
  have hD : va_D A (wMdT cI cZ cQ b mday mdoo mtel mgai 0 mtxt mpos mtka mtok mdig mnum mfau mrdm mlin mbsm) := hD
  refine lv_iload_n hx hb dX10_erase_10 rfl (lv_at hl 0 rfl) ?_
  exact W.iret (v := mbyt) hx hb hr (fun tq ht hW => ⟨⟨mbyt, (uS [(fun _ => 0)] 0 (fun _ => 0)), rfl, ⟨(show spEra mbyt mbyt 0 from by exact ⟨by first | rfl | assumption, rfl⟩), g1⟩, by rw [ht]; exact hP, hD⟩, hS.F ht⟩) hS.2.2 dX10_erase_11
