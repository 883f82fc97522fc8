set_option maxHeartbeats 4000000 in
set_option maxRecDepth 100000 in
theorem k_X7_readInto2 (l : Launch) (dC : Nat → ClassId) (dI : Nat → Nat → Nat) (cI cZ cQ : ClassId) (a : Nat → Nat) (rb0 : Nat) (rb1 : Nat) (rb2 : Nat) (byt : Nat → Int32) (len : Int32) (tst : Int32) (ten : Int32) (mos : Nat → Int32) (wev : Nat → Int32) (aga : Int32) (apa : Int32) (lin : Int32) (ak av : Nat → Nat) (sz : Nat) (r_len : 0 ≤ len.toInt ∧ len.toInt ≤ 160) (r_tst : 0 ≤ tst.toInt ∧ tst.toInt ≤ 160) (r_ten : 0 ≤ ten.toInt ∧ ten.toInt ≤ 160) : KWS l yX7_readInto wsX7_readInto { frames := 7, cells := 0, slots := 0, locals := 150 } (dC, dI) (TY cI cZ cQ) (wTxR cI cZ cQ a rb0 rb1 rb2 byt len tst ten mos wev aga apa lin) ak av [.ref (a 14), .ref rb0] sz 0 0 (fun (r : Int32) (u : US) => (roC byt len.toInt r (u.1 2) (u.1 3) (u.1 4 0) (u.1 5 0) (u.1 6 0)) ∧ (0 ≤ (u.1 0 0).toInt ∧ (u.1 0 0).toInt ≤ 160) ∧ (0 ≤ (u.1 1 0).toInt ∧ (u.1 1 0).toInt ≤ 160)) (fun u : US => (wTxR cI cZ cQ a rb0 rb1 rb2 byt len (u.1 0 0) (u.1 1 0) (u.1 2) (u.1 3) (u.1 4 0) (u.1 5 0) (u.1 6 0))) := by
  refine Met.ofW (cc := cX7_readInto) (maxL := 3) (ret := (some .int)) (by decide) rfl ?_
  intro p e s m args below meth c s₁ B hml hv
  obtain ⟨rfl, hsz, hP, hK, hD0, hN, hSV⟩ := hv
  have hx := B.exec
  have hb := B.bytes
  have hr := B.returns
  have hts := atoms_spec (ws := wsX7_readInto) B.pre
  have hown : s.vm.findClass RX7 = some m.cls := findClass_of_methodNamed B.named
  have hlocks := B.notSynchronized
  have lf26 := hts (.fieldLink RX7 26 "PalaceOfRooms$Text" "tokenEnd" "I") (List.mem_cons_of_mem _ (List.mem_append_left _ (List.mem_append_left _ (List.mem_append_left _ (List.mem_of_getElem? (i := 0) rfl)))))
  have inX7 : ∀ w ∈ wsX70, w ∈ wsX7_readInto := fun w h => List.mem_cons_of_mem _ (List.mem_append_left _ (List.mem_append_right _ h))
  have lf33 := hts (.fieldLink RX7 33 "PalaceOfRooms$Text" "tokenStart" "I") (List.mem_cons_of_mem _ (List.mem_append_left _ (List.mem_append_left _ (List.mem_append_left _ (List.mem_of_getElem? (i := 1) rfl)))))
  have lf36 := hN.use (w := .fieldLinkNest "PalaceOfRooms$Text" 36 "PalaceOfRooms$RuleBook" "lines" "I" "PalaceOfRooms") (List.mem_of_getElem? (i := 29) rfl) ([.ref (a 14), .ref rb0] : List Value).toArray
  have inX5 : ∀ w ∈ wsX50, w ∈ wsX7_readInto := fun w h => List.mem_cons_of_mem _ (List.mem_append_right _ h)
  have lf15 := hts (.fieldLink RX7 15 "PalaceOfRooms$Text" "length" "I") (List.mem_cons_of_mem _ (List.mem_append_left _ (List.mem_append_left _ (List.mem_append_left _ (List.mem_of_getElem? (i := 2) rfl)))))
  have lf9 := hts (.fieldLink RX7 9 "PalaceOfRooms$Text" "bytes" "[I") (List.mem_cons_of_mem _ (List.mem_append_left _ (List.mem_append_left _ (List.mem_append_left _ (List.mem_of_getElem? (i := 3) rfl)))))
  subst hsz
  have hD := hD0.self (sz := s.heap.size)
  generalize hAe : va_A (wTxR cI cZ cQ a rb0 rb1 rb2 byt len tst ten mos wev aga apa lin) s.heap.size = A at hD hSV ⊢
  have hA : ∀ q : Nat, s.heap.size ≤ q → A q := fun q h => by rw [← hAe]; exact Or.inr h
  have hS : va_S A s.heap s.heap [] := va_S.rf
  have hl := lv_entry ([.ref (a 14), .ref rb0]) (n := 3) (Nat.le_of_ble_eq_true rfl)
  rw [lg_entry_eq]
  generalize (lg_sl ([.ref (a 14), .ref rb0]) ++ List.replicate (3 - (lg_sl ([.ref (a 14), .ref rb0])).length) Slot.unset).toArray = ls at hl ⊢
  have hl : lv_has ls 3 [(0, .ref (a 14)), (1, .ref rb0)] := hl
  refine lv_aload_n hx hb dX7_readInto_0 rfl (lv_at hl 1 rfl) ?_
  refine wvV (As := []) (rest := []) (wr := [((a 14), .inr (7, [.ref (a 15), .int len, .int tst, .int ten])), ((a 15), .inl (cI, 160, .inl byt))]) (w2 := (fun u : US => (wTxR cI cZ cQ a rb0 rb1 rb2 byt len tst ten (u.1 0) (u.1 1) (u.1 2 0) (u.1 3 0) (u.1 4 0)))) ⟨hx, hb, hml, hown, hts⟩ (k_X5_forget l dC dI cI cZ cQ rb0 rb1 rb2 mos wev aga apa lin _) (cwV 0 hts gX7_readInto_X5_forget rfl rfl rfl (by decide +kernel) ⟨Nat.le_of_ble_eq_true rfl, Nat.le_of_ble_eq_true rfl⟩) hP hD hS hA hK hN [2, 3, 4] [0, 1] [0, 1, 2, 3, 4] rfl rfl (by decide) (by decide) (by decide) (fun _ => rfl) (by decide) 2 5 rfl rfl rfl hl.1 rfl (Nat.le_of_ble_eq_true rfl) dX7_readInto_1 ⟨Nat.le_of_ble_eq_true rfl, Nat.le_of_ble_eq_true rfl⟩ (fun u3 H locs h2 hP hD hS => ?_)
  obtain ⟨mos_c4, emos_c4⟩ : ∃ f : Nat → Int32, f = (u3.1 0) := ⟨_, rfl⟩
  obtain ⟨wev_c5, ewev_c5⟩ : ∃ f : Nat → Int32, f = (u3.1 1) := ⟨_, rfl⟩
  obtain ⟨aga_c6, eaga_c6⟩ : ∃ f : Int32, f = (u3.1 2 0) := ⟨_, rfl⟩
  obtain ⟨apa_c7, eapa_c7⟩ : ∃ f : Int32, f = (u3.1 3 0) := ⟨_, rfl⟩
  obtain ⟨lin_c8, elin_c8⟩ : ∃ f : Int32, f = (u3.1 4 0) := ⟨_, rfl⟩
  have hP : va_P (dC, dI) vwCl (wTxR cI cZ cQ a rb0 rb1 rb2 byt len tst ten mos_c4 wev_c5 aga_c6 apa_c7 lin_c8) H := by rw [emos_c4, ewev_c5, eaga_c6, eapa_c7, elin_c8]; exact hP
  have hD : va_D A (wTxR cI cZ cQ a rb0 rb1 rb2 byt len tst ten mos_c4 wev_c5 aga_c6 apa_c7 lin_c8) := by rw [emos_c4, ewev_c5, eaga_c6, eapa_c7, elin_c8]; exact hD
  have h2 : (∀ j, j < 8 → mos_c4 j = -1) ∧ (∀ j, j < 8 → wev_c5 j = -1) ∧ (aga_c6 = -1) ∧ (apa_c7 = -1) ∧ (lin_c8 = 0) := by (try rw [emos_c4]); (try rw [ewev_c5]); (try rw [eaga_c6]); (try rw [eapa_c7]); (try rw [elin_c8]); exact h2
  obtain ⟨h2_0, h2_1, h2_2, h2_3, h2_4⟩ := h2
  refine lv_aload_n hx hb dX7_readInto_4 rfl (lv_at hl 0 rfl) ?_
  refine lv_iconst (v := 0) hx hb dX7_readInto_5 (by decide) ?_
  refine va_put (D := (dC, dI)) (ci := 7) (v := .int 0) (ty := .int) (C := RX7) (T := TX7) (N := 4) hx hb hts inX7 tyX7 tyX7_ok nmX7 hown hK hP hD hS 0 rfl rfl 3 (by decide) lf26 (fun _ h9 => h9) rfl (by decide +kernel) rfl rfl (Nat.le_of_ble_eq_true rfl) dX7_readInto_6 (fun H locs hP hD hS => ?_)
  have g9 : 0 ≤ (0 : Int32).toInt ∧ (0 : Int32).toInt ≤ 160 := by rw [show (0 : Int32).toInt = 0 from (show (0 : Int32).toInt = 0 from rfl)]; exact ⟨by omega, by omega⟩
  have hP : va_P (dC, dI) vwCl (wTxR cI cZ cQ a rb0 rb1 rb2 byt len tst 0 mos_c4 wev_c5 aga_c6 apa_c7 lin_c8) H := hP
  have hD : va_D A (wTxR cI cZ cQ a rb0 rb1 rb2 byt len tst 0 mos_c4 wev_c5 aga_c6 apa_c7 lin_c8) := hD
  refine lv_iconst (v := 0) hx hb dX7_readInto_9 (by decide) ?_
  refine lv_istore_n (lv' := [(2, .int 0), (0, .ref (a 14)), (1, .ref rb0)]) hx hb dX7_readInto_10 rfl hl (by decide) rfl (fun ls hl => ?_)
  have L11 : ∀ (nn : Nat) (y11_2 : Int32) (tst_11 : Int32) (ten_11 : Int32) (mos_11 : Nat → Int32) (wev_11 : Nat → Int32) (aga_11 : Int32) (apa_11 : Int32) (lin_11 : Int32) (H : Heap) (locs : List Loc) (ls : Array Slot), (0 ≤ tst_11.toInt ∧ tst_11.toInt ≤ 160) → (0 ≤ ten_11.toInt ∧ ten_11.toInt ≤ 160) → (0 ≤ (y11_2.toInt)) → ((y11_2.toInt) ≤ 10) → (ten_11.toInt ≤ len.toInt) → (rdB byt len.toInt ((y11_2.toInt)).toNat ten_11.toInt mos_11 wev_11 aga_11 apa_11) → (lin_11 = nI ((y11_2.toInt)).toNat) → ((y11_2.toInt) ≤ 9 ∨ roX byt len.toInt tst_11.toInt) → (10 - (y11_2.toInt)).toNat < nn → va_P (dC, dI) vwCl (wTxR cI cZ cQ a rb0 rb1 rb2 byt len tst_11 ten_11 mos_11 wev_11 aga_11 apa_11 lin_11) H → va_D A (wTxR cI cZ cQ a rb0 rb1 rb2 byt len tst_11 ten_11 mos_11 wev_11 aga_11 apa_11 lin_11) → va_S A s.heap H locs → lv_has ls 3 [(0, .ref (a 14)), (1, .ref rb0), (2, .int y11_2)] → W p l e (headSpec wsX7_readInto { frames := 7, cells := 0, slots := 0, locals := 150 }).room s m ([.ref (a 14), .ref rb0] : List Value).toArray below meth c H locs 0 0 (MQ below (va_Qi (fun (r : Int32) (u : US) => (roC byt len.toInt r (u.1 2) (u.1 3) (u.1 4 0) (u.1 5 0) (u.1 6 0)) ∧ (0 ≤ (u.1 0 0).toInt ∧ (u.1 0 0).toInt ≤ 160) ∧ (0 ≤ (u.1 1 0).toInt ∧ (u.1 1 0).toInt ≤ 160)) (Bw (dC, dI) A (fun u : US => (wTxR cI cZ cQ a rb0 rb1 rb2 byt len (u.1 0 0) (u.1 1 0) (u.1 2) (u.1 3) (u.1 4 0) (u.1 5 0) (u.1 6 0)))) A) ([.ref (a 14), .ref rb0] : List Value).toArray s 0 0 A) (F0 m 11 ls []) := by
    intro nn
    induction nn with
    | zero =>
      intro y11_2 tst_11 ten_11 mos_11 wev_11 aga_11 apa_11 lin_11 H locs ls r_tst_11 r_ten_11 i11_0 i11_1 i11_2 i11_3 i11_4 i11_5 hm11
      exact absurd hm11 (Nat.not_lt_zero _)
    | succ nn ih11 =>
      intro y11_2 tst_11 ten_11 mos_11 wev_11 aga_11 apa_11 lin_11 H locs ls r_tst_11 r_ten_11 i11_0 i11_1 i11_2 i11_3 i11_4 i11_5 hm11 hP hD hS hl
      refine lv_iload_n hx hb dX7_readInto_11 rfl (lv_at hl 2 rfl) ?_
      refine lv_bipush (v := 10) hx hb dX7_readInto_12 (by decide) ?_
      refine lv_icmp_ge (tgt := 82) hx hb dX7_readInto_14 (by decide) (fun c10 => ?_) (fun c10 => ?_)
      · have dc10 : 10 ≤ y11_2.toInt := leC (show (10 : Int32).toInt = 10 from rfl) rfl c10
        refine lv_aload_n hx hb dX7_readInto_82 rfl (lv_at hl 0 rfl) ?_
        refine va_get (D := (dC, dI)) (ci := 7) (v := .int tst_11) (C := RX7) (T := TX7) (N := 4) hx hb hts inX7 hown hK hP 0 rfl rfl 2 (by decide) lf33 (fun _ h9 => h9) rfl dX7_readInto_83 ?_
        exact W.iret (v := tst_11) hx hb hr (fun tq ht hW => ⟨⟨tst_11, (uS [(fun _ => tst_11), (fun _ => ten_11), mos_11, wev_11, (fun _ => aga_11), (fun _ => apa_11), (fun _ => lin_11)] 0 (fun _ => 0)), rfl, ⟨(show roC byt len.toInt tst_11 mos_11 wev_11 aga_11 apa_11 lin_11 from by (first | exact ro_n i11_3 (by omega) (by assumption) | exact ro_ok i11_3 (by omega) (by assumption) (by assumption) (by omega) (by omega) rfl (li_s i11_4 (by assumption) (by omega) rfl) | exact ro_f i11_3 (by omega) (by assumption) (by assumption) (by omega) (Or.inl (by rw [← idx_eq]; omega)) rfl | exact (i11_5.resolve_left (by omega)) _ _ _ _ _ _ rfl)), r_tst_11, r_ten_11⟩, by rw [ht]; exact hP, hD⟩, hS.F ht⟩) hS.2.2 dX7_readInto_86
      · have dc10 : y11_2.toInt < 10 := nleC (show (10 : Int32).toInt = 10 from rfl) rfl c10
        refine lv_aload_n hx hb dX7_readInto_17 rfl (lv_at hl 0 rfl) ?_
        refine lv_aload_n hx hb dX7_readInto_18 rfl (lv_at hl 1 rfl) ?_
        refine wrVS (As := [.ref rb0]) (rest := []) (wr := []) (w2 := (fun u : US => (wTxR cI cZ cQ a rb0 rb1 rb2 byt len (u.1 0 0) (u.1 1 0) (u.1 2) (u.1 3) (u.1 4 0) (u.1 5 0) lin_11))) ⟨hx, hb, hml, hown, hts⟩ (k_X7_readLine2 l dC dI cI cZ cQ a rb0 rb1 rb2 byt len tst_11 ten_11 mos_11 wev_11 aga_11 apa_11 lin_11 ak av _ r_len r_tst_11 r_ten_11 (by omega)) (cwV 1 hts gX7_readInto_X7_readLine rfl rfl rfl (by decide +kernel) ⟨Nat.le_of_ble_eq_true rfl, Nat.le_of_ble_eq_true rfl⟩) (hSV.kept hS.2.1) hP hD hS hA hK hN [0, 1, 2, 3, 4] [] [0, 1, 2, 3, 4] rfl rfl (by decide) (by decide) (by decide) (fun _ => rfl) (by decide) 0 7 rfl rfl rfl hl.1 rfl (Nat.le_of_ble_eq_true rfl) dX7_readInto_19 ⟨Nat.le_of_ble_eq_true rfl, Nat.le_of_ble_eq_true rfl⟩ (fun r11 u13 H locs h12 hP hD hS => ?_)
        obtain ⟨tst_c14, etst_c14⟩ : ∃ f : Int32, f = (u13.1 0 0) := ⟨_, rfl⟩
        obtain ⟨ten_c15, eten_c15⟩ : ∃ f : Int32, f = (u13.1 1 0) := ⟨_, rfl⟩
        obtain ⟨mos_c16, emos_c16⟩ : ∃ f : Nat → Int32, f = (u13.1 2) := ⟨_, rfl⟩
        obtain ⟨wev_c17, ewev_c17⟩ : ∃ f : Nat → Int32, f = (u13.1 3) := ⟨_, rfl⟩
        obtain ⟨aga_c18, eaga_c18⟩ : ∃ f : Int32, f = (u13.1 4 0) := ⟨_, rfl⟩
        obtain ⟨apa_c19, eapa_c19⟩ : ∃ f : Int32, f = (u13.1 5 0) := ⟨_, rfl⟩
        have hP : va_P (dC, dI) vwCl (wTxR cI cZ cQ a rb0 rb1 rb2 byt len tst_c14 ten_c15 mos_c16 wev_c17 aga_c18 apa_c19 lin_11) H := by rw [etst_c14, eten_c15, emos_c16, ewev_c17, eaga_c18, eapa_c19]; exact hP
        have hD : va_D A (wTxR cI cZ cQ a rb0 rb1 rb2 byt len tst_c14 ten_c15 mos_c16 wev_c17 aga_c18 apa_c19 lin_11) := by rw [etst_c14, eten_c15, emos_c16, ewev_c17, eaga_c18, eapa_c19]; exact hD
        have h12 : ((((r11 = 1) ∧ (lnE byt len.toInt ten_11.toInt tst_c14.toInt ten_c15.toInt mos_11 wev_11 aga_11 apa_11 mos_c16 wev_c17 aga_c18 apa_c19)) ∨ ((r11 = 0) ∧ (lnN byt len.toInt ten_11.toInt tst_c14.toInt)))) ∧ (tst_c14.toInt ≤ ten_c15.toInt) ∧ (ten_c15.toInt ≤ len.toInt) ∧ (0 ≤ tst_c14.toInt ∧ tst_c14.toInt ≤ 160) ∧ (0 ≤ ten_c15.toInt ∧ ten_c15.toInt ≤ 160) := by (try rw [etst_c14]); (try rw [eten_c15]); (try rw [emos_c16]); (try rw [ewev_c17]); (try rw [eaga_c18]); (try rw [eapa_c19]); exact h12
        rcases h12 with ⟨(⟨rfl, h12_a0⟩ | ⟨rfl, h12_a0⟩), h12_0, h12_1, h12_2, h12_3⟩
        · refine lv_if_ne (tgt := 30) hx hb dX7_readInto_22 (by decide) (fun _ => ?_) (fun c9 => absurd c9 (by decide))
          refine lv_aload_n hx hb dX7_readInto_30 rfl (lv_at hl 1 rfl) ?_
          refine lv_dup hx hb dX7_readInto_31 rfl ?_
          refine va_getN (D := (dC, dI)) (ci := 5) (v := .int lin_11) (C := RX5) (T := TX5) (N := 5) hx hb hts inX5 hown hK hP 2 rfl rfl 4 (by decide) lf36 (fun _ h9 => h9) rfl dX7_readInto_32 ?_
          refine lv_iconst (v := 1) hx hb dX7_readInto_35 (by decide) ?_
          refine lv_iadd hx hb dX7_readInto_36 ?_
          refine lv_topi (fun x20 ex20 => ?_)
          have ix20 : x20.toInt = (lin_11 + 1).toInt := by rw [ex20]
          refine va_putN (D := (dC, dI)) (ci := 5) (v := .int x20) (ty := .int) (C := RX5) (T := TX5) (N := 5) hx hb hts inX5 tyX5 tyX5_ok nmX5 hown hK hP hD hS 2 rfl rfl 4 (by decide) lf36 (fun _ h9 => h9) rfl (by decide +kernel) rfl rfl (Nat.le_of_ble_eq_true rfl) dX7_readInto_37 (fun H locs hP hD hS => ?_)
          have hP : va_P (dC, dI) vwCl (wTxR cI cZ cQ a rb0 rb1 rb2 byt len tst_c14 ten_c15 mos_c16 wev_c17 aga_c18 apa_c19 x20) H := hP
          have hD : va_D A (wTxR cI cZ cQ a rb0 rb1 rb2 byt len tst_c14 ten_c15 mos_c16 wev_c17 aga_c18 apa_c19 x20) := hD
          refine lv_aload_n hx hb dX7_readInto_40 rfl (lv_at hl 0 rfl) ?_
          refine wvV (As := []) (rest := []) (wr := [(rb0, .inr (5, [.ref rb1, .ref rb2, .int aga_c18, .int apa_c19, .int x20])), (rb1, .inl (cI, 8, .inl mos_c16)), (rb2, .inl (cI, 8, .inl wev_c17))]) (w2 := (fun u : US => (wTxR cI cZ cQ a rb0 rb1 rb2 byt len (u.1 0 0) (u.1 1 0) mos_c16 wev_c17 aga_c18 apa_c19 x20))) ⟨hx, hb, hml, hown, hts⟩ (k_X7_nextToken2 l dC dI cI cZ cQ a byt len tst_c14 ten_c15 _ r_len h12_2 h12_3 (by omega)) (cwV 0 hts gX7_readInto_X7_nextToken rfl rfl rfl (by decide +kernel) ⟨Nat.le_of_ble_eq_true rfl, Nat.le_of_ble_eq_true rfl⟩) hP hD hS hA hK hN [0, 1] [2, 3, 4] [3, 4, 0, 1, 2] rfl rfl (by decide) (by decide) (by decide) (fun _ => rfl) (by decide) 0 7 rfl rfl rfl hl.1 rfl (Nat.le_of_ble_eq_true rfl) dX7_readInto_41 ⟨Nat.le_of_ble_eq_true rfl, Nat.le_of_ble_eq_true rfl⟩ (fun u23 H locs h22 hP hD hS => ?_)
          obtain ⟨tst_c24, etst_c24⟩ : ∃ f : Int32, f = (u23.1 0 0) := ⟨_, rfl⟩
          obtain ⟨ten_c25, eten_c25⟩ : ∃ f : Int32, f = (u23.1 1 0) := ⟨_, rfl⟩
          have hP : va_P (dC, dI) vwCl (wTxR cI cZ cQ a rb0 rb1 rb2 byt len tst_c24 ten_c25 mos_c16 wev_c17 aga_c18 apa_c19 x20) H := by rw [etst_c24, eten_c25]; exact hP
          have hD : va_D A (wTxR cI cZ cQ a rb0 rb1 rb2 byt len tst_c24 ten_c25 mos_c16 wev_c17 aga_c18 apa_c19 x20) := by rw [etst_c24, eten_c25]; exact hD
          have h22 : (tst_c24.toInt ≤ ten_c25.toInt) ∧ (ten_c25.toInt ≤ len.toInt) ∧ (tst_c24.toInt = tS byt len.toInt ten_c15.toInt) ∧ (ten_c25.toInt = tE byt len.toInt tst_c24.toInt) ∧ (0 ≤ tst_c24.toInt ∧ tst_c24.toInt ≤ 160) ∧ (0 ≤ ten_c25.toInt ∧ ten_c25.toInt ≤ 160) := by (try rw [etst_c24]); (try rw [eten_c25]); exact h22
          obtain ⟨h22_0, h22_1, h22_2, h22_3, h22_4, h22_5⟩ := h22
          refine lv_aload_n hx hb dX7_readInto_44 rfl (lv_at hl 0 rfl) ?_
          refine va_get (D := (dC, dI)) (ci := 7) (v := .int tst_c24) (C := RX7) (T := TX7) (N := 4) hx hb hts inX7 hown hK hP 0 rfl rfl 2 (by decide) lf33 (fun _ h9 => h9) rfl dX7_readInto_45 ?_
          refine lv_aload_n hx hb dX7_readInto_48 rfl (lv_at hl 0 rfl) ?_
          refine va_get (D := (dC, dI)) (ci := 7) (v := .int len) (C := RX7) (T := TX7) (N := 4) hx hb hts inX7 hown hK hP 0 rfl rfl 1 (by decide) lf15 (fun _ h9 => h9) rfl dX7_readInto_49 ?_
          refine lv_icmp_lt (tgt := 57) hx hb dX7_readInto_52 (by decide) (fun c26 => ?_) (fun c26 => ?_)
          · have dc26 : tst_c24.toInt < len.toInt := ltC rfl rfl c26
            refine lv_aload_n hx hb dX7_readInto_57 rfl (lv_at hl 0 rfl) ?_
            refine va_get (D := (dC, dI)) (ci := 7) (v := .ref (a 15)) (C := RX7) (T := TX7) (N := 4) hx hb hts inX7 hown hK hP 0 rfl rfl 0 (by decide) lf9 (fun _ h9 => h9) rfl dX7_readInto_58 ?_
            refine lv_aload_n hx hb dX7_readInto_61 rfl (lv_at hl 0 rfl) ?_
            refine va_get (D := (dC, dI)) (ci := 7) (v := .int tst_c24) (C := RX7) (T := TX7) (N := 4) hx hb hts inX7 hown hK hP 0 rfl rfl 2 (by decide) lf33 (fun _ h9 => h9) rfl dX7_readInto_62 ?_
            have b27 : vp_in tst_c24 160 := inC rfl (by omega) (by omega)
            refine va_iald hx hb hK hP 1 0 rfl rfl b27 dX7_readInto_65 ?_
            refine lv_bipush (v := 59) hx hb dX7_readInto_66 (by decide) ?_
            refine lv_icmp_eq (tgt := 76) hx hb dX7_readInto_68 (by decide) (fun c28 => ?_) (fun c28 => ?_)
            · have dc28 : (byt tst_c24.toNatClampNeg).toInt = 59 := eqC rfl (show (59 : Int32).toInt = 59 from rfl) c28
              obtain ⟨z29, ez29⟩ : ∃ y : Int32, y = y11_2 + 1 := ⟨_, rfl⟩
              have iz29 : z29.toInt = y11_2.toInt + 1 := by rw [ez29]; exact addC rfl rfl (by omega) (by omega)
              refine lv_iinc (v := z29) (lv' := [(2, .int z29), (0, .ref (a 14)), (1, .ref rb0)]) hx hb dX7_readInto_76 hl (k := 2) rfl (by rw [ez29]; rfl) (by decide) rfl (fun ls hl => ?_)
              refine lv_goto (tgt := 11) hx hb dX7_readInto_79 (by decide) ?_
              exact ih11 z29 tst_c24 ten_c25 mos_c16 wev_c17 aga_c18 apa_c19 x20 _ _ _ h22_4 h22_5 (by omega) (by omega) (by omega) (by (first | exact rb_step i11_3 (by assumption) (by assumption) (by assumption) (by omega) (by rw [← idx_eq]; omega) (by omega) | exact rb_init (by first | rfl | omega) (by assumption) (by assumption) (by assumption) (by assumption) (by first | rfl | omega))) (by (first | exact li_s i11_4 (by assumption) (by omega) (by omega) | exact li_0 (by assumption) (by first | rfl | omega))) (by (first | exact rx_step i11_3 (by omega) (by assumption) (by assumption) (by omega) (by omega) | exact Or.inl (by omega))) (by omega) hP hD hS (lv_sub hl [1, 2, 0] rfl)
            · have dc28 : (byt tst_c24.toNatClampNeg).toInt ≠ 59 := neC rfl (show (59 : Int32).toInt = 59 from rfl) c28
              refine lv_aload_n hx hb dX7_readInto_71 rfl (lv_at hl 0 rfl) ?_
              refine va_get (D := (dC, dI)) (ci := 7) (v := .int tst_c24) (C := RX7) (T := TX7) (N := 4) hx hb hts inX7 hown hK hP 0 rfl rfl 2 (by decide) lf33 (fun _ h9 => h9) rfl dX7_readInto_72 ?_
              exact W.iret (v := tst_c24) hx hb hr (fun tq ht hW => ⟨⟨tst_c24, (uS [(fun _ => tst_c24), (fun _ => ten_c25), mos_c16, wev_c17, (fun _ => aga_c18), (fun _ => apa_c19), (fun _ => x20)] 0 (fun _ => 0)), rfl, ⟨(show roC byt len.toInt tst_c24 mos_c16 wev_c17 aga_c18 apa_c19 x20 from by (first | exact ro_n i11_3 (by omega) (by assumption) | exact ro_ok i11_3 (by omega) (by assumption) (by assumption) (by omega) (by omega) rfl (li_s i11_4 (by assumption) (by omega) rfl) | exact ro_f i11_3 (by omega) (by assumption) (by assumption) (by omega) (Or.inl (by rw [← idx_eq]; omega)) rfl | exact (i11_5.resolve_left (by omega)) _ _ _ _ _ _ rfl)), h22_4, h22_5⟩, by rw [ht]; exact hP, hD⟩, hS.F ht⟩) hS.2.2 dX7_readInto_75
          · have dc26 : len.toInt ≤ tst_c24.toInt := nltC rfl rfl c26
            refine lv_iconst (v := (-1)) hx hb dX7_readInto_55 (by decide) ?_
            exact W.iret (v := (-1)) hx hb hr (fun tq ht hW => ⟨⟨(-1), (uS [(fun _ => tst_c24), (fun _ => ten_c25), mos_c16, wev_c17, (fun _ => aga_c18), (fun _ => apa_c19), (fun _ => x20)] 0 (fun _ => 0)), rfl, ⟨(show roC byt len.toInt ((-1) : Int32) mos_c16 wev_c17 aga_c18 apa_c19 x20 from by (try rw [show ((-1) : Int32).toInt = (-1) from (show ((-1) : Int32).toInt = (-1) from rfl)]); (first | exact ro_n i11_3 (by omega) (by assumption) | exact ro_ok i11_3 (by omega) (by assumption) (by assumption) (by omega) (by omega) rfl (li_s i11_4 (by assumption) (by omega) rfl) | exact ro_f i11_3 (by omega) (by assumption) (by assumption) (by omega) (Or.inl (by rw [← idx_eq]; omega)) rfl | exact (i11_5.resolve_left (by omega)) _ _ _ _ _ _ rfl)), h22_4, h22_5⟩, by rw [ht]; exact hP, hD⟩, hS.F ht⟩) hS.2.2 dX7_readInto_56
        · refine lv_if_ne (tgt := 30) hx hb dX7_readInto_22 (by decide) (fun c9 => absurd (by decide) c9) (fun _ => ?_)
          refine lv_aload_n hx hb dX7_readInto_25 rfl (lv_at hl 0 rfl) ?_
          refine va_get (D := (dC, dI)) (ci := 7) (v := .int tst_c14) (C := RX7) (T := TX7) (N := 4) hx hb hts inX7 hown hK hP 0 rfl rfl 2 (by decide) lf33 (fun _ h9 => h9) rfl dX7_readInto_26 ?_
          exact W.iret (v := tst_c14) hx hb hr (fun tq ht hW => ⟨⟨tst_c14, (uS [(fun _ => tst_c14), (fun _ => ten_c15), mos_c16, wev_c17, (fun _ => aga_c18), (fun _ => apa_c19), (fun _ => lin_11)] 0 (fun _ => 0)), rfl, ⟨(show roC byt len.toInt tst_c14 mos_c16 wev_c17 aga_c18 apa_c19 lin_11 from by (first | exact ro_n i11_3 (by omega) (by assumption) | exact ro_ok i11_3 (by omega) (by assumption) (by assumption) (by omega) (by omega) rfl (li_s i11_4 (by assumption) (by omega) rfl) | exact ro_f i11_3 (by omega) (by assumption) (by assumption) (by omega) (Or.inl (by rw [← idx_eq]; omega)) rfl | exact (i11_5.resolve_left (by omega)) _ _ _ _ _ _ rfl)), h12_2, h12_3⟩, by rw [ht]; exact hP, hD⟩, hS.F ht⟩) hS.2.2 dX7_readInto_29
  have kc30 : (0 : Int32).toInt = 0 := rfl
  exact L11 _ 0 tst 0 mos_c4 wev_c5 aga_c6 apa_c7 lin_c8 _ _ _ r_tst g9 (by omega) (by omega) (by omega) (by (first | exact rb_step i11_3 (by assumption) (by assumption) (by assumption) (by omega) (by rw [← idx_eq]; omega) (by omega) | exact rb_init (by first | rfl | omega) (by assumption) (by assumption) (by assumption) (by assumption) (by first | rfl | omega))) (by (first | exact li_s i11_4 (by assumption) (by omega) (by omega) | exact li_0 (by assumption) (by first | rfl | omega))) (by (first | exact rx_step i11_3 (by omega) (by assumption) (by assumption) (by omega) (by omega) | exact Or.inl (by omega))) (Nat.lt_succ_self _) hP hD hS (lv_sub hl [1, 2, 0] rfl)

