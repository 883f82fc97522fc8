set_option maxHeartbeats 4000000 in
set_option maxRecDepth 100000 in
theorem k_X7_readNumber2 (l : Launch) (dC : Nat → ClassId) (dI : Nat → Nat → Nat) (cI cZ cQ : ClassId) (a : Nat → Nat) (byt : Nat → Int32) (len : Int32) (tst : Int32) (ten : Int32) (sz : Nat) (least : Int32) (most : Int32) (r_len : 0 ≤ len.toInt ∧ len.toInt ≤ 160) (r_tst : 0 ≤ tst.toInt ∧ tst.toInt ≤ 160) (r_ten : 0 ≤ ten.toInt ∧ ten.toInt ≤ 160) (q0 : ten.toInt ≤ len.toInt) : KW l yX7_readNumber wsX7_readNumber { frames := 3, cells := 0, slots := 0, locals := 64 } (dC, dI) (TY cI cZ cQ) (wTxt cI cZ cQ a byt len tst ten) [.ref (a 14), .int least, .int most] sz 0 0 (fun (r : Int32) (u : US) => ((u.1 0 0).toInt ≤ (u.1 1 0).toInt) ∧ ((u.1 1 0).toInt ≤ len.toInt) ∧ (r.toInt = -1 ∨ (least.toInt ≤ r.toInt ∧ r.toInt ≤ most.toInt)) ∧ ((u.1 0 0).toInt = tS byt len.toInt ten.toInt) ∧ ((u.1 1 0).toInt = nx byt len.toInt ten.toInt) ∧ (nuP byt len.toInt ten.toInt least.toInt most.toInt r) ∧ (0 ≤ (u.1 0 0).toInt ∧ (u.1 0 0).toInt ≤ 160) ∧ (0 ≤ (u.1 1 0).toInt ∧ (u.1 1 0).toInt ≤ 160)) (fun u : US => (wTxt cI cZ cQ a byt len (u.1 0 0) (u.1 1 0))) := by
  refine Met.ofW (cc := cX7_readNumber) (maxL := 6) (ret := (some .int)) (by decide) rfl ?_
  intro p e s m args below meth c s₁ B hml hv
  obtain ⟨rfl, hsz, hP, hK, hD0, hN⟩ := hv
  have hx := B.exec
  have hb := B.bytes
  have hr := B.returns
  have hts := atoms_spec (ws := wsX7_readNumber) B.pre
  have hown : s.vm.findClass RX7 = some m.cls := findClass_of_methodNamed B.named
  have hlocks := B.notSynchronized
  have lf26 := hts (.fieldLink RX7 26 "PalaceOfRooms$Text" "tokenEnd" "I") (List.mem_cons_of_mem _ (List.mem_append_left _ (List.mem_of_getElem? (i := 0) rfl)))
  have inX7 : ∀ w ∈ wsX70, w ∈ wsX7_readNumber := fun w h => List.mem_cons_of_mem _ (List.mem_append_right _ h)
  have lf33 := hts (.fieldLink RX7 33 "PalaceOfRooms$Text" "tokenStart" "I") (List.mem_cons_of_mem _ (List.mem_append_left _ (List.mem_of_getElem? (i := 1) rfl)))
  have lf9 := hts (.fieldLink RX7 9 "PalaceOfRooms$Text" "bytes" "[I") (List.mem_cons_of_mem _ (List.mem_append_left _ (List.mem_of_getElem? (i := 2) rfl)))
  subst hsz
  have hD := hD0.self (sz := s.heap.size)
  generalize hAe : va_A (wTxt cI cZ cQ a byt len tst ten) s.heap.size = A at hD ⊢
  have hA : ∀ q : Nat, s.heap.size ≤ q → A q := fun q h => by rw [← hAe]; exact Or.inr h
  have hS : va_S A s.heap s.heap [] := va_S.rf
  have hl := lv_entry ([.ref (a 14), .int least, .int most]) (n := 6) (Nat.le_of_ble_eq_true rfl)
  rw [lg_entry_eq]
  generalize (lg_sl ([.ref (a 14), .int least, .int most]) ++ List.replicate (6 - (lg_sl ([.ref (a 14), .int least, .int most])).length) Slot.unset).toArray = ls at hl ⊢
  have hl : lv_has ls 6 [(0, .ref (a 14)), (1, .int least), (2, .int most)] := hl
  refine lv_aload_n hx hb dX7_readNumber_0 rfl (lv_at hl 0 rfl) ?_
  refine wvV (As := []) (rest := []) (wr := []) (w2 := (fun u : US => (wTxt cI cZ cQ a byt len (u.1 0 0) (u.1 1 0)))) ⟨hx, hb, hml, hown, hts⟩ (k_X7_nextToken2 l dC dI cI cZ cQ a byt len tst ten _ r_len r_tst r_ten (by omega)) (cwV 0 hts gX7_readNumber_X7_nextToken rfl rfl rfl (by decide +kernel) ⟨Nat.le_of_ble_eq_true rfl, Nat.le_of_ble_eq_true rfl⟩) hP hD hS hA hK hN [0, 1] [] [0, 1] rfl rfl (by decide) (by decide) (by decide) (fun _ => rfl) (by decide) 0 7 rfl rfl rfl hl.1 rfl (Nat.le_of_ble_eq_true rfl) dX7_readNumber_1 ⟨Nat.le_of_ble_eq_true rfl, Nat.le_of_ble_eq_true rfl⟩ (fun u3 H locs h2 hP hD hS => ?_)
  obtain ⟨tst_c4, etst_c4⟩ : ∃ f : Int32, f = (u3.1 0 0) := ⟨_, rfl⟩
  obtain ⟨ten_c5, eten_c5⟩ : ∃ f : Int32, f = (u3.1 1 0) := ⟨_, rfl⟩
  have hP : va_P (dC, dI) vwCl (wTxt cI cZ cQ a byt len tst_c4 ten_c5) H := by rw [etst_c4, eten_c5]; exact hP
  have hD : va_D A (wTxt cI cZ cQ a byt len tst_c4 ten_c5) := by rw [etst_c4, eten_c5]; exact hD
  have h2 : (tst_c4.toInt ≤ ten_c5.toInt) ∧ (ten_c5.toInt ≤ len.toInt) ∧ (tst_c4.toInt = tS byt len.toInt ten.toInt) ∧ (ten_c5.toInt = tE byt len.toInt tst_c4.toInt) ∧ (0 ≤ tst_c4.toInt ∧ tst_c4.toInt ≤ 160) ∧ (0 ≤ ten_c5.toInt ∧ ten_c5.toInt ≤ 160) := by (try rw [etst_c4]); (try rw [eten_c5]); exact h2
  obtain ⟨h2_0, h2_1, h2_2, h2_3, h2_4, h2_5⟩ := h2
  refine lv_aload_n hx hb dX7_readNumber_4 rfl (lv_at hl 0 rfl) ?_
  refine va_get (D := (dC, dI)) (ci := 7) (v := .int ten_c5) (C := RX7) (T := TX7) (N := 4) hx hb hts inX7 hown hK hP 0 rfl rfl 3 (by decide) lf26 (fun _ h9 => h9) rfl dX7_readNumber_5 ?_
  refine lv_aload_n hx hb dX7_readNumber_8 rfl (lv_at hl 0 rfl) ?_
  refine va_get (D := (dC, dI)) (ci := 7) (v := .int tst_c4) (C := RX7) (T := TX7) (N := 4) hx hb hts inX7 hown hK hP 0 rfl rfl 2 (by decide) lf33 (fun _ h9 => h9) rfl dX7_readNumber_9 ?_
  refine lv_isub hx hb dX7_readNumber_12 ?_
  have f6 : (ten_c5 - tst_c4).toInt = (ten_c5.toInt) - (tst_c4.toInt) := subC rfl rfl (by omega) (by omega)
  refine lv_topi (fun x7 ex7 => ?_)
  have ix7 : x7.toInt = (ten_c5.toInt) - (tst_c4.toInt) := by rw [ex7]; exact f6
  refine lv_istore_n (lv' := [(3, .int x7), (0, .ref (a 14)), (1, .int least), (2, .int most)]) hx hb dX7_readNumber_13 rfl hl (by decide) rfl (fun ls hl => ?_)
  refine lv_iload_n hx hb dX7_readNumber_14 rfl (lv_at hl 0 rfl) ?_
  refine lv_iconst (v := 1) hx hb dX7_readNumber_15 (by decide) ?_
  refine lv_icmp_lt (tgt := 40) hx hb dX7_readNumber_16 (by decide) (fun c8 => ?_) (fun c8 => ?_)
  · have dc8 : x7.toInt < 1 := ltC rfl (show (1 : Int32).toInt = 1 from rfl) c8
    refine lv_iconst (v := (-1)) hx hb dX7_readNumber_40 (by decide) ?_
    exact W.iret (v := (-1)) hx hb hr (fun tq ht hW => ⟨⟨(-1), (uS [(fun _ => tst_c4), (fun _ => ten_c5)] 0 (fun _ => 0)), rfl, ⟨(show tst_c4.toInt ≤ ten_c5.toInt from by (try rw [show ((-1) : Int32).toInt = (-1) from (show ((-1) : Int32).toInt = (-1) from rfl)]); omega), (show ten_c5.toInt ≤ len.toInt from by (try rw [show ((-1) : Int32).toInt = (-1) from (show ((-1) : Int32).toInt = (-1) from rfl)]); omega), (show ((-1) : Int32).toInt = -1 ∨ (least.toInt ≤ ((-1) : Int32).toInt ∧ ((-1) : Int32).toInt ≤ most.toInt) from by (try rw [show ((-1) : Int32).toInt = (-1) from (show ((-1) : Int32).toInt = (-1) from rfl)]); omega), (show tst_c4.toInt = tS byt len.toInt ten.toInt from by (try rw [show ((-1) : Int32).toInt = (-1) from (show ((-1) : Int32).toInt = (-1) from rfl)]); assumption), (show ten_c5.toInt = nx byt len.toInt ten.toInt from by (try rw [show ((-1) : Int32).toInt = (-1) from (show ((-1) : Int32).toInt = (-1) from rfl)]); exact nx_of (by assumption) (by assumption)), (show nuP byt len.toInt ten.toInt least.toInt most.toInt ((-1) : Int32) from by (try rw [show ((-1) : Int32).toInt = (-1) from (show ((-1) : Int32).toInt = (-1) from rfl)]); (first | exact nu_n1 (by assumption) (nx_of (by assumption) (by assumption)) (by omega) | exact nu_n2 (by assumption) (nx_of (by assumption) (by assumption)) (by assumption) (by omega) | exact nu_ok (by assumption) (nx_of (by assumption) (by assumption)) i51_2 (by omega) (by assumption) (by omega) (by omega) (by omega) | exact nu_n3 (by assumption) (nx_of (by assumption) (by assumption)) i51_2 (by omega) (by omega))), h2_4, h2_5⟩, by rw [ht]; exact hP, hD⟩, hS.F ht⟩) hS.2.2 dX7_readNumber_41
  · have dc8 : 1 ≤ x7.toInt := nltC rfl (show (1 : Int32).toInt = 1 from rfl) c8
    refine lv_iload_n hx hb dX7_readNumber_19 rfl (lv_at hl 0 rfl) ?_
    refine lv_iconst (v := 2) hx hb dX7_readNumber_20 (by decide) ?_
    refine lv_icmp_gt (tgt := 40) hx hb dX7_readNumber_21 (by decide) (fun c9 => ?_) (fun c9 => ?_)
    · have dc9 : 2 < x7.toInt := ltC (show (2 : Int32).toInt = 2 from rfl) rfl c9
      refine lv_iconst (v := (-1)) hx hb dX7_readNumber_40 (by decide) ?_
      exact W.iret (v := (-1)) hx hb hr (fun tq ht hW => ⟨⟨(-1), (uS [(fun _ => tst_c4), (fun _ => ten_c5)] 0 (fun _ => 0)), rfl, ⟨(show tst_c4.toInt ≤ ten_c5.toInt from by (try rw [show ((-1) : Int32).toInt = (-1) from (show ((-1) : Int32).toInt = (-1) from rfl)]); omega), (show ten_c5.toInt ≤ len.toInt from by (try rw [show ((-1) : Int32).toInt = (-1) from (show ((-1) : Int32).toInt = (-1) from rfl)]); omega), (show ((-1) : Int32).toInt = -1 ∨ (least.toInt ≤ ((-1) : Int32).toInt ∧ ((-1) : Int32).toInt ≤ most.toInt) from by (try rw [show ((-1) : Int32).toInt = (-1) from (show ((-1) : Int32).toInt = (-1) from rfl)]); omega), (show tst_c4.toInt = tS byt len.toInt ten.toInt from by (try rw [show ((-1) : Int32).toInt = (-1) from (show ((-1) : Int32).toInt = (-1) from rfl)]); assumption), (show ten_c5.toInt = nx byt len.toInt ten.toInt from by (try rw [show ((-1) : Int32).toInt = (-1) from (show ((-1) : Int32).toInt = (-1) from rfl)]); exact nx_of (by assumption) (by assumption)), (show nuP byt len.toInt ten.toInt least.toInt most.toInt ((-1) : Int32) from by (try rw [show ((-1) : Int32).toInt = (-1) from (show ((-1) : Int32).toInt = (-1) from rfl)]); (first | exact nu_n1 (by assumption) (nx_of (by assumption) (by assumption)) (by omega) | exact nu_n2 (by assumption) (nx_of (by assumption) (by assumption)) (by assumption) (by omega) | exact nu_ok (by assumption) (nx_of (by assumption) (by assumption)) i51_2 (by omega) (by assumption) (by omega) (by omega) (by omega) | exact nu_n3 (by assumption) (nx_of (by assumption) (by assumption)) i51_2 (by omega) (by omega))), h2_4, h2_5⟩, by rw [ht]; exact hP, hD⟩, hS.F ht⟩) hS.2.2 dX7_readNumber_41
    · have dc9 : x7.toInt ≤ 2 := nltC (show (2 : Int32).toInt = 2 from rfl) rfl c9
      refine lv_aload_n hx hb dX7_readNumber_24 rfl (lv_at hl 1 rfl) ?_
      refine va_get (D := (dC, dI)) (ci := 7) (v := .ref (a 15)) (C := RX7) (T := TX7) (N := 4) hx hb hts inX7 hown hK hP 0 rfl rfl 0 (by decide) lf9 (fun _ h9 => h9) rfl dX7_readNumber_25 ?_
      refine lv_aload_n hx hb dX7_readNumber_28 rfl (lv_at hl 1 rfl) ?_
      refine va_get (D := (dC, dI)) (ci := 7) (v := .int tst_c4) (C := RX7) (T := TX7) (N := 4) hx hb hts inX7 hown hK hP 0 rfl rfl 2 (by decide) lf33 (fun _ h9 => h9) rfl dX7_readNumber_29 ?_
      have b10 : vp_in tst_c4 160 := inC rfl (by omega) (by omega)
      refine va_iald hx hb hK hP 1 0 rfl rfl b10 dX7_readNumber_32 ?_
      refine rdS (As := [.int (byt tst_c4.toNatClampNeg)]) (rest := []) ⟨hx, hb, hml, hown, hts⟩ (k_X7_kindOf2 l dC dI cI cZ cQ (byt tst_c4.toNatClampNeg)) (va_cwS 1 hts gX7_readNumber_X7_kindOf rfl rfl rfl (by decide +kernel) ⟨Nat.le_of_ble_eq_true rfl, Nat.le_of_ble_eq_true rfl⟩) hP hK hN [] rfl rfl hl.1 rfl (Nat.le_of_ble_eq_true rfl) dX7_readNumber_33 ⟨Nat.le_of_ble_eq_true rfl, Nat.le_of_ble_eq_true rfl⟩ (fun r11 h12 => ?_)
      have h12 : (1 ≤ r11.toInt) ∧ (r11.toInt ≤ 3) ∧ (r11.toInt = knd (byt tst_c4.toNatClampNeg)) := h12
      obtain ⟨h12_0, h12_1, h12_2⟩ := h12
      refine lv_iconst (v := 2) hx hb dX7_readNumber_36 (by decide) ?_
      refine lv_icmp_eq (tgt := 42) hx hb dX7_readNumber_37 (by decide) (fun c13 => ?_) (fun c13 => ?_)
      · have dc13 : r11.toInt = 2 := eqC rfl (show (2 : Int32).toInt = 2 from rfl) c13
        refine lv_iconst (v := 0) hx hb dX7_readNumber_42 (by decide) ?_
        refine lv_istore (lv' := [(4, .int 0), (3, .int x7), (0, .ref (a 14)), (1, .int least), (2, .int most)]) hx hb dX7_readNumber_43 hl (by decide) rfl (fun ls hl => ?_)
        refine lv_aload_n hx hb dX7_readNumber_45 rfl (lv_at hl 2 rfl) ?_
        refine va_get (D := (dC, dI)) (ci := 7) (v := .int tst_c4) (C := RX7) (T := TX7) (N := 4) hx hb hts inX7 hown hK hP 0 rfl rfl 2 (by decide) lf33 (fun _ h9 => h9) rfl dX7_readNumber_46 ?_
        refine lv_istore (lv' := [(5, .int tst_c4), (4, .int 0), (3, .int x7), (0, .ref (a 14)), (1, .int least), (2, .int most)]) hx hb dX7_readNumber_49 hl (by decide) rfl (fun ls hl => ?_)
        have L51 : ∀ (nn : Nat) (y51_4 : Int32) (y51_5 : Int32) (H : Heap) (locs : List Loc) (ls : Array Slot), (0 ≤ (y51_5.toInt)) → ((y51_5.toInt) ≤ 160) → (y51_4 = nvF byt tst_c4.toInt ((y51_5.toInt) - tst_c4.toInt).toNat) → (tst_c4.toInt ≤ (y51_5.toInt)) → ((y51_5.toInt) ≤ ten_c5.toInt) → (160 - (y51_5.toInt)).toNat < nn → va_P (dC, dI) vwCl (wTxt cI cZ cQ a byt len tst_c4 ten_c5) H → va_D A (wTxt cI cZ cQ a byt len tst_c4 ten_c5) → va_S A s.heap H locs → lv_has ls 6 [(0, .ref (a 14)), (1, .int least), (2, .int most), (4, .int y51_4), (5, .int y51_5)] → W p l e (headSpec wsX7_readNumber { frames := 3, cells := 0, slots := 0, locals := 64 }).room s m ([.ref (a 14), .int least, .int most] : List Value).toArray below meth c H locs 0 0 (MQ below (va_Qi (fun (r : Int32) (u : US) => ((u.1 0 0).toInt ≤ (u.1 1 0).toInt) ∧ ((u.1 1 0).toInt ≤ len.toInt) ∧ (r.toInt = -1 ∨ (least.toInt ≤ r.toInt ∧ r.toInt ≤ most.toInt)) ∧ ((u.1 0 0).toInt = tS byt len.toInt ten.toInt) ∧ ((u.1 1 0).toInt = nx byt len.toInt ten.toInt) ∧ (nuP byt len.toInt ten.toInt least.toInt most.toInt r) ∧ (0 ≤ (u.1 0 0).toInt ∧ (u.1 0 0).toInt ≤ 160) ∧ (0 ≤ (u.1 1 0).toInt ∧ (u.1 1 0).toInt ≤ 160)) (Bw (dC, dI) A (fun u : US => (wTxt cI cZ cQ a byt len (u.1 0 0) (u.1 1 0)))) A) ([.ref (a 14), .int least, .int most] : List Value).toArray s 0 0 A) (F0 m 51 ls []) := by
          intro nn
          induction nn with
          | zero =>
            intro y51_4 y51_5 H locs ls i51_0 i51_1 i51_2 i51_3 i51_4 hm51
            exact absurd hm51 (Nat.not_lt_zero _)
          | succ nn ih51 =>
            intro y51_4 y51_5 H locs ls i51_0 i51_1 i51_2 i51_3 i51_4 hm51 hP hD hS hl
            refine lv_iload hx hb dX7_readNumber_51 (lv_at hl 4 rfl) ?_
            refine lv_aload_n hx hb dX7_readNumber_53 rfl (lv_at hl 0 rfl) ?_
            refine va_get (D := (dC, dI)) (ci := 7) (v := .int ten_c5) (C := RX7) (T := TX7) (N := 4) hx hb hts inX7 hown hK hP 0 rfl rfl 3 (by decide) lf26 (fun _ h9 => h9) rfl dX7_readNumber_54 ?_
            refine lv_icmp_ge (tgt := 84) hx hb dX7_readNumber_57 (by decide) (fun c14 => ?_) (fun c14 => ?_)
            · have dc14 : ten_c5.toInt ≤ y51_5.toInt := leC rfl rfl c14
              refine lv_iload hx hb dX7_readNumber_84 (lv_at hl 3 rfl) ?_
              refine lv_iload_n hx hb dX7_readNumber_86 rfl (lv_at hl 1 rfl) ?_
              refine lv_iload_n hx hb dX7_readNumber_87 rfl (lv_at hl 2 rfl) ?_
              refine rdSN (As := [.int y51_4, .int least, .int most]) (rest := []) ⟨hx, hb, hml, hown, hts⟩ (k_X9_within l dC dI cI cZ cQ y51_4 least most) ⟨va_cnB (host := "PalaceOfRooms") 3 hts gX7_readNumber_X9_within_n80 rfl rfl rfl (hN _ (by decide +kernel)) (hts (.initialized RX9) (List.mem_cons_of_mem _ (List.mem_append_left _ (List.mem_of_getElem? (i := 13) rfl)))) (by decide +kernel) ⟨Nat.le_of_ble_eq_true rfl, Nat.le_of_ble_eq_true rfl⟩, hts (.static yX9_within) (List.mem_cons_of_mem _ (List.mem_append_left _ (List.mem_of_getElem? (i := 12) rfl))), trivial⟩ hP hK hN [] rfl rfl hl.1 rfl (Nat.le_of_ble_eq_true rfl) dX7_readNumber_88 ⟨Nat.le_of_ble_eq_true rfl, Nat.le_of_ble_eq_true rfl⟩ (fun r15 h16 => ?_)
              have h16 : ((((r15 = 1) ∧ (least.toInt ≤ y51_4.toInt) ∧ (y51_4.toInt ≤ most.toInt)) ∨ ((r15 = 0) ∧ (y51_4.toInt < least.toInt ∨ most.toInt < y51_4.toInt)))) := h16
              rcases h16 with (⟨rfl, h16_a0, h16_a1⟩ | ⟨rfl, h16_a0⟩)
              · refine lv_if_eq (tgt := 99) hx hb dX7_readNumber_91 (by decide) (fun c9 => absurd c9 (by decide)) (fun _ => ?_)
                refine lv_iload hx hb dX7_readNumber_94 (lv_at hl 3 rfl) ?_
                refine lv_goto (tgt := 100) hx hb dX7_readNumber_96 (by decide) ?_
                exact W.iret (v := y51_4) hx hb hr (fun tq ht hW => ⟨⟨y51_4, (uS [(fun _ => tst_c4), (fun _ => ten_c5)] 0 (fun _ => 0)), rfl, ⟨(show tst_c4.toInt ≤ ten_c5.toInt from by omega), (show ten_c5.toInt ≤ len.toInt from by omega), (show y51_4.toInt = -1 ∨ (least.toInt ≤ y51_4.toInt ∧ y51_4.toInt ≤ most.toInt) from by omega), (show tst_c4.toInt = tS byt len.toInt ten.toInt from by assumption), (show ten_c5.toInt = nx byt len.toInt ten.toInt from by exact nx_of (by assumption) (by assumption)), (show nuP byt len.toInt ten.toInt least.toInt most.toInt y51_4 from by (first | exact nu_n1 (by assumption) (nx_of (by assumption) (by assumption)) (by omega) | exact nu_n2 (by assumption) (nx_of (by assumption) (by assumption)) (by assumption) (by omega) | exact nu_ok (by assumption) (nx_of (by assumption) (by assumption)) i51_2 (by omega) (by assumption) (by omega) (by omega) (by omega) | exact nu_n3 (by assumption) (nx_of (by assumption) (by assumption)) i51_2 (by omega) (by omega))), h2_4, h2_5⟩, by rw [ht]; exact hP, hD⟩, hS.F ht⟩) hS.2.2 dX7_readNumber_100
              · refine lv_if_eq (tgt := 99) hx hb dX7_readNumber_91 (by decide) (fun _ => ?_) (fun c9 => absurd (by decide) c9)
                refine lv_iconst (v := (-1)) hx hb dX7_readNumber_99 (by decide) ?_
                exact W.iret (v := (-1)) hx hb hr (fun tq ht hW => ⟨⟨(-1), (uS [(fun _ => tst_c4), (fun _ => ten_c5)] 0 (fun _ => 0)), rfl, ⟨(show tst_c4.toInt ≤ ten_c5.toInt from by (try rw [show ((-1) : Int32).toInt = (-1) from (show ((-1) : Int32).toInt = (-1) from rfl)]); omega), (show ten_c5.toInt ≤ len.toInt from by (try rw [show ((-1) : Int32).toInt = (-1) from (show ((-1) : Int32).toInt = (-1) from rfl)]); omega), (show ((-1) : Int32).toInt = -1 ∨ (least.toInt ≤ ((-1) : Int32).toInt ∧ ((-1) : Int32).toInt ≤ most.toInt) from by (try rw [show ((-1) : Int32).toInt = (-1) from (show ((-1) : Int32).toInt = (-1) from rfl)]); omega), (show tst_c4.toInt = tS byt len.toInt ten.toInt from by (try rw [show ((-1) : Int32).toInt = (-1) from (show ((-1) : Int32).toInt = (-1) from rfl)]); assumption), (show ten_c5.toInt = nx byt len.toInt ten.toInt from by (try rw [show ((-1) : Int32).toInt = (-1) from (show ((-1) : Int32).toInt = (-1) from rfl)]); exact nx_of (by assumption) (by assumption)), (show nuP byt len.toInt ten.toInt least.toInt most.toInt ((-1) : Int32) from by (try rw [show ((-1) : Int32).toInt = (-1) from (show ((-1) : Int32).toInt = (-1) from rfl)]); (first | exact nu_n1 (by assumption) (nx_of (by assumption) (by assumption)) (by omega) | exact nu_n2 (by assumption) (nx_of (by assumption) (by assumption)) (by assumption) (by omega) | exact nu_ok (by assumption) (nx_of (by assumption) (by assumption)) i51_2 (by omega) (by assumption) (by omega) (by omega) (by omega) | exact nu_n3 (by assumption) (nx_of (by assumption) (by assumption)) i51_2 (by omega) (by omega))), h2_4, h2_5⟩, by rw [ht]; exact hP, hD⟩, hS.F ht⟩) hS.2.2 dX7_readNumber_100
            · have dc14 : y51_5.toInt < ten_c5.toInt := nleC rfl rfl c14
              refine lv_iload hx hb dX7_readNumber_60 (lv_at hl 3 rfl) ?_
              refine lv_bipush (v := 10) hx hb dX7_readNumber_62 (by decide) ?_
              refine lv_imul hx hb dX7_readNumber_64 ?_
              refine lv_aload_n hx hb dX7_readNumber_65 rfl (lv_at hl 0 rfl) ?_
              refine va_get (D := (dC, dI)) (ci := 7) (v := .ref (a 15)) (C := RX7) (T := TX7) (N := 4) hx hb hts inX7 hown hK hP 0 rfl rfl 0 (by decide) lf9 (fun _ h9 => h9) rfl dX7_readNumber_66 ?_
              refine lv_iload hx hb dX7_readNumber_69 (lv_at hl 4 rfl) ?_
              have b17 : vp_in y51_5 160 := inC rfl (by omega) (by omega)
              refine va_iald hx hb hK hP 1 0 rfl rfl b17 dX7_readNumber_71 ?_
              refine lv_iadd hx hb dX7_readNumber_72 ?_
              refine lv_bipush (v := 48) hx hb dX7_readNumber_73 (by decide) ?_
              refine lv_isub hx hb dX7_readNumber_75 ?_
              refine lv_topi (fun x18 ex18 => ?_)
              have ix18 : x18.toInt = (((y51_4 * 10) + (byt y51_5.toNatClampNeg)) - 48).toInt := by rw [ex18]
              refine lv_istore (lv' := [(4, .int x18), (0, .ref (a 14)), (1, .int least), (2, .int most), (5, .int y51_5)]) hx hb dX7_readNumber_76 hl (by decide) rfl (fun ls hl => ?_)
              obtain ⟨z19, ez19⟩ : ∃ y : Int32, y = y51_5 + 1 := ⟨_, rfl⟩
              have iz19 : z19.toInt = y51_5.toInt + 1 := by rw [ez19]; exact addC rfl rfl (by omega) (by omega)
              refine lv_iinc (v := z19) (lv' := [(5, .int z19), (4, .int x18), (0, .ref (a 14)), (1, .int least), (2, .int most)]) hx hb dX7_readNumber_78 hl (k := 4) rfl (by rw [ez19]; rfl) (by decide) rfl (fun ls hl => ?_)
              refine lv_goto (tgt := 51) hx hb dX7_readNumber_81 (by decide) ?_
              exact ih51 x18 z19 _ _ _ (by omega) (by omega) (by (first | exact nv_stepC (y := y51_5) i51_2 (by omega) (by omega) (by assumption) | exact nv_zero (by omega))) (by omega) (by omega) (by omega) hP hD hS (lv_sub hl [2, 3, 4, 1, 0] rfl)
        have kc20 : (0 : Int32).toInt = 0 := rfl
        exact L51 _ 0 tst_c4 _ _ _ (by omega) (by omega) (by (first | exact nv_zero (by omega) | exact nv_stepC (y := y51_5) i51_2 (by omega) (by omega) (by assumption))) (by omega) (by omega) (Nat.lt_succ_self _) hP hD hS (lv_sub hl [3, 4, 5, 1, 0] rfl)
      · have dc13 : r11.toInt ≠ 2 := neC rfl (show (2 : Int32).toInt = 2 from rfl) c13
        refine lv_iconst (v := (-1)) hx hb dX7_readNumber_40 (by decide) ?_
        exact W.iret (v := (-1)) hx hb hr (fun tq ht hW => ⟨⟨(-1), (uS [(fun _ => tst_c4), (fun _ => ten_c5)] 0 (fun _ => 0)), rfl, ⟨(show tst_c4.toInt ≤ ten_c5.toInt from by (try rw [show ((-1) : Int32).toInt = (-1) from (show ((-1) : Int32).toInt = (-1) from rfl)]); omega), (show ten_c5.toInt ≤ len.toInt from by (try rw [show ((-1) : Int32).toInt = (-1) from (show ((-1) : Int32).toInt = (-1) from rfl)]); omega), (show ((-1) : Int32).toInt = -1 ∨ (least.toInt ≤ ((-1) : Int32).toInt ∧ ((-1) : Int32).toInt ≤ most.toInt) from by (try rw [show ((-1) : Int32).toInt = (-1) from (show ((-1) : Int32).toInt = (-1) from rfl)]); omega), (show tst_c4.toInt = tS byt len.toInt ten.toInt from by (try rw [show ((-1) : Int32).toInt = (-1) from (show ((-1) : Int32).toInt = (-1) from rfl)]); assumption), (show ten_c5.toInt = nx byt len.toInt ten.toInt from by (try rw [show ((-1) : Int32).toInt = (-1) from (show ((-1) : Int32).toInt = (-1) from rfl)]); exact nx_of (by assumption) (by assumption)), (show nuP byt len.toInt ten.toInt least.toInt most.toInt ((-1) : Int32) from by (try rw [show ((-1) : Int32).toInt = (-1) from (show ((-1) : Int32).toInt = (-1) from rfl)]); (first | exact nu_n1 (by assumption) (nx_of (by assumption) (by assumption)) (by omega) | exact nu_n2 (by assumption) (nx_of (by assumption) (by assumption)) (by assumption) (by omega) | exact nu_ok (by assumption) (nx_of (by assumption) (by assumption)) i51_2 (by omega) (by assumption) (by omega) (by omega) (by omega) | exact nu_n3 (by assumption) (nx_of (by assumption) (by assumption)) i51_2 (by omega) (by omega))), h2_4, h2_5⟩, by rw [ht]; exact hP, hD⟩, hS.F ht⟩) hS.2.2 dX7_readNumber_41
