set_option maxHeartbeats 4000000 in
set_option maxRecDepth 100000 in
theorem k_X7_kindOf2 (l : Launch) (dC : Nat → ClassId) (dI : Nat → Nat → Nat) (cI cZ cQ : ClassId) (sg : Int32)  : KR l yX7_kindOf wsX7_kindOf { frames := 1, cells := 0, slots := 0, locals := 22 } (dC, dI) (TY cI cZ cQ) (wNil cI cZ cQ) [.int sg] (fun r : Int32 => (1 ≤ r.toInt) ∧ (r.toInt ≤ 3) ∧ (r.toInt = knd sg)) := by
  refine Met.ofW (cc := cX7_kindOf) (maxL := 1) (ret := (some .int)) (by decide) rfl ?_
  intro p e s m args below meth c s₁ B hml hv
  obtain ⟨rfl, hP, hK, hN⟩ := hv
  have hx := B.exec
  have hb := B.bytes
  have hr := B.returns
  have hts := atoms_spec (ws := wsX7_kindOf) B.pre
  have hown : s.vm.findClass RX7 = some m.cls := findClass_of_methodNamed B.named
  have hlocks := B.notSynchronized
  have hl := lv_entry ([.int sg]) (n := 1) (Nat.le_of_ble_eq_true rfl)
  rw [lg_entry_eq]
  generalize (lg_sl ([.int sg]) ++ List.replicate (1 - (lg_sl ([.int sg])).length) Slot.unset).toArray = ls at hl ⊢
  have hl : lv_has ls 1 [(0, .int sg)] := hl
  refine lv_iload_n hx hb dX7_kindOf_0 rfl (lv_at hl 0 rfl) ?_
  refine lv_bipush (v := 97) hx hb dX7_kindOf_1 (by decide) ?_
  refine lv_bipush (v := 122) hx hb dX7_kindOf_3 (by decide) ?_
  refine rdSN (As := [.int sg, .int 97, .int 122]) (rest := []) ⟨hx, hb, hml, hown, hts⟩ (k_X9_within l dC dI cI cZ cQ sg (97 : Int32) (122 : Int32)) ⟨va_cnB (host := "PalaceOfRooms") 3 hts gX7_kindOf_X9_within_n80 rfl rfl rfl (hN _ (by decide +kernel)) (hts (.initialized RX9) (List.mem_cons_of_mem _ (List.mem_of_getElem? (i := 1) rfl))) (by decide +kernel) ⟨Nat.le_of_ble_eq_true rfl, Nat.le_of_ble_eq_true rfl⟩, hts (.static yX9_within) (List.mem_cons_of_mem _ (List.mem_of_getElem? (i := 0) rfl)), trivial⟩ hP hK hN [] rfl rfl hl.1 rfl (Nat.le_of_ble_eq_true rfl) dX7_kindOf_5 ⟨Nat.le_of_ble_eq_true rfl, Nat.le_of_ble_eq_true rfl⟩ (fun r1 h2 => ?_)
  have h2 : ((((r1 = 1) ∧ ((97) ≤ sg.toInt) ∧ (sg.toInt ≤ (122))) ∨ ((r1 = 0) ∧ (sg.toInt < (97) ∨ (122) < sg.toInt)))) := h2
  rcases h2 with (⟨rfl, h2_a0, h2_a1⟩ | ⟨rfl, h2_a0⟩)
  · refine lv_if_eq (tgt := 13) hx hb dX7_kindOf_8 (by decide) (fun c9 => absurd c9 (by decide)) (fun _ => ?_)
    refine lv_iconst (v := 1) hx hb dX7_kindOf_11 (by decide) ?_
    exact W.iret (v := 1) hx hb hr (fun tq ht hW => ⟨1, rfl, ⟨(show 1 ≤ (1 : Int32).toInt from by (try rw [show (1 : Int32).toInt = 1 from (show (1 : Int32).toInt = 1 from rfl)]); omega), (show (1 : Int32).toInt ≤ 3 from by (try rw [show (1 : Int32).toInt = 1 from (show (1 : Int32).toInt = 1 from rfl)]); omega), (show (1 : Int32).toInt = knd sg from by (try rw [show (1 : Int32).toInt = 1 from (show (1 : Int32).toInt = 1 from rfl)]); (first | exact (knd_1 (by omega)).symm | exact (knd_2 (by omega)).symm | exact (knd_3 (by omega) (by omega)).symm))⟩, ht⟩) (fun q h => by cases h) dX7_kindOf_12
  · refine lv_if_eq (tgt := 13) hx hb dX7_kindOf_8 (by decide) (fun _ => ?_) (fun c9 => absurd (by decide) c9)
    refine lv_iload_n hx hb dX7_kindOf_13 rfl (lv_at hl 0 rfl) ?_
    refine lv_bipush (v := 48) hx hb dX7_kindOf_14 (by decide) ?_
    refine lv_bipush (v := 57) hx hb dX7_kindOf_16 (by decide) ?_
    refine rdSN (As := [.int sg, .int 48, .int 57]) (rest := []) ⟨hx, hb, hml, hown, hts⟩ (k_X9_within l dC dI cI cZ cQ sg (48 : Int32) (57 : Int32)) ⟨va_cnB (host := "PalaceOfRooms") 3 hts gX7_kindOf_X9_within_n80 rfl rfl rfl (hN _ (by decide +kernel)) (hts (.initialized RX9) (List.mem_cons_of_mem _ (List.mem_of_getElem? (i := 1) rfl))) (by decide +kernel) ⟨Nat.le_of_ble_eq_true rfl, Nat.le_of_ble_eq_true rfl⟩, hts (.static yX9_within) (List.mem_cons_of_mem _ (List.mem_of_getElem? (i := 0) rfl)), trivial⟩ hP hK hN [] rfl rfl hl.1 rfl (Nat.le_of_ble_eq_true rfl) dX7_kindOf_18 ⟨Nat.le_of_ble_eq_true rfl, Nat.le_of_ble_eq_true rfl⟩ (fun r3 h4 => ?_)
    have h4 : ((((r3 = 1) ∧ ((48) ≤ sg.toInt) ∧ (sg.toInt ≤ (57))) ∨ ((r3 = 0) ∧ (sg.toInt < (48) ∨ (57) < sg.toInt)))) := h4
    rcases h4 with (⟨rfl, h4_a0, h4_a1⟩ | ⟨rfl, h4_a0⟩)
    · refine lv_if_eq (tgt := 28) hx hb dX7_kindOf_21 (by decide) (fun c9 => absurd c9 (by decide)) (fun _ => ?_)
      refine lv_iconst (v := 2) hx hb dX7_kindOf_24 (by decide) ?_
      refine lv_goto (tgt := 29) hx hb dX7_kindOf_25 (by decide) ?_
      exact W.iret (v := 2) hx hb hr (fun tq ht hW => ⟨2, rfl, ⟨(show 1 ≤ (2 : Int32).toInt from by (try rw [show (2 : Int32).toInt = 2 from (show (2 : Int32).toInt = 2 from rfl)]); omega), (show (2 : Int32).toInt ≤ 3 from by (try rw [show (2 : Int32).toInt = 2 from (show (2 : Int32).toInt = 2 from rfl)]); omega), (show (2 : Int32).toInt = knd sg from by (try rw [show (2 : Int32).toInt = 2 from (show (2 : Int32).toInt = 2 from rfl)]); (first | exact (knd_1 (by omega)).symm | exact (knd_2 (by omega)).symm | exact (knd_3 (by omega) (by omega)).symm))⟩, ht⟩) (fun q h => by cases h) dX7_kindOf_29
    · refine lv_if_eq (tgt := 28) hx hb dX7_kindOf_21 (by decide) (fun _ => ?_) (fun c9 => absurd (by decide) c9)
      refine lv_iconst (v := 3) hx hb dX7_kindOf_28 (by decide) ?_
      exact W.iret (v := 3) hx hb hr (fun tq ht hW => ⟨3, rfl, ⟨(show 1 ≤ (3 : Int32).toInt from by (try rw [show (3 : Int32).toInt = 3 from (show (3 : Int32).toInt = 3 from rfl)]); omega), (show (3 : Int32).toInt ≤ 3 from by (try rw [show (3 : Int32).toInt = 3 from (show (3 : Int32).toInt = 3 from rfl)]); omega), (show (3 : Int32).toInt = knd sg from by (try rw [show (3 : Int32).toInt = 3 from (show (3 : Int32).toInt = 3 from rfl)]); (first | exact (knd_1 (by omega)).symm | exact (knd_2 (by omega)).symm | exact (knd_3 (by omega) (by omega)).symm))⟩, ht⟩) (fun q h => by cases h) dX7_kindOf_29
set_option maxHeartbeats 4000000 in
set_option maxRecDepth 100000 in
theorem k_X7_nextToken2 (l : Launch) (dC : Nat → ClassId) (dI : Nat → Nat → Nat) (cI cZ cQ : ClassId) (a : Nat → Nat) (byt : Nat → Int32) (len : Int32) (tst : Int32) (ten : Int32) (sz : Nat) (r_len : 0 ≤ len.toInt ∧ len.toInt ≤ 160) (r_tst : 0 ≤ tst.toInt ∧ tst.toInt ≤ 160) (r_ten : 0 ≤ ten.toInt ∧ ten.toInt ≤ 160) (q0 : ten.toInt ≤ len.toInt) : KV l yX7_nextToken wsX7_nextToken { frames := 2, cells := 0, slots := 0, locals := 42 } (dC, dI) (TY cI cZ cQ) (wTxt cI cZ cQ a byt len tst ten) [.ref (a 14)] sz 0 0 (fun (u : US) => ((u.1 0 0).toInt ≤ (u.1 1 0).toInt) ∧ ((u.1 1 0).toInt ≤ len.toInt) ∧ ((u.1 0 0).toInt = tS byt len.toInt ten.toInt) ∧ ((u.1 1 0).toInt = tE byt len.toInt (u.1 0 0).toInt) ∧ (0 ≤ (u.1 0 0).toInt ∧ (u.1 0 0).toInt ≤ 160) ∧ (0 ≤ (u.1 1 0).toInt ∧ (u.1 1 0).toInt ≤ 160)) (fun u : US => (wTxt cI cZ cQ a byt len (u.1 0 0) (u.1 1 0))) := by
  refine Met.ofW (cc := cX7_nextToken) (maxL := 3) (ret := none) (by decide) rfl ?_
  intro p e s m args below meth c s₁ B hml hv
  obtain ⟨rfl, hsz, hP, hK, hD0, hN⟩ := hv
  have hx := B.exec
  have hb := B.bytes
  have hr := B.returns
  have hts := atoms_spec (ws := wsX7_nextToken) B.pre
  have hown : s.vm.findClass RX7 = some m.cls := findClass_of_methodNamed B.named
  have hlocks := B.notSynchronized
  have lf26 := hts (.fieldLink RX7 26 "PalaceOfRooms$Text" "tokenEnd" "I") (List.mem_cons_of_mem _ (List.mem_append_left _ (List.mem_of_getElem? (i := 0) rfl)))
  have inX7 : ∀ w ∈ wsX70, w ∈ wsX7_nextToken := fun w h => List.mem_cons_of_mem _ (List.mem_append_right _ h)
  have lf15 := hts (.fieldLink RX7 15 "PalaceOfRooms$Text" "length" "I") (List.mem_cons_of_mem _ (List.mem_append_left _ (List.mem_of_getElem? (i := 1) rfl)))
  have lf33 := hts (.fieldLink RX7 33 "PalaceOfRooms$Text" "tokenStart" "I") (List.mem_cons_of_mem _ (List.mem_append_left _ (List.mem_of_getElem? (i := 3) rfl)))
  have lf9 := hts (.fieldLink RX7 9 "PalaceOfRooms$Text" "bytes" "[I") (List.mem_cons_of_mem _ (List.mem_append_left _ (List.mem_of_getElem? (i := 2) rfl)))
  subst hsz
  have hD := hD0.self (sz := s.heap.size)
  generalize hAe : va_A (wTxt cI cZ cQ a byt len tst ten) s.heap.size = A at hD ⊢
  have hA : ∀ q : Nat, s.heap.size ≤ q → A q := fun q h => by rw [← hAe]; exact Or.inr h
  have hS : va_S A s.heap s.heap [] := va_S.rf
  have hl := lv_entry ([.ref (a 14)]) (n := 3) (Nat.le_of_ble_eq_true rfl)
  rw [lg_entry_eq]
  generalize (lg_sl ([.ref (a 14)]) ++ List.replicate (3 - (lg_sl ([.ref (a 14)])).length) Slot.unset).toArray = ls at hl ⊢
  have hl : lv_has ls 3 [(0, .ref (a 14))] := hl
  refine lv_aload_n hx hb dX7_nextToken_0 rfl (lv_at hl 0 rfl) ?_
  refine va_get (D := (dC, dI)) (ci := 7) (v := .int ten) (C := RX7) (T := TX7) (N := 4) hx hb hts inX7 hown hK hP 0 rfl rfl 3 (by decide) lf26 (fun _ h9 => h9) rfl dX7_nextToken_1 ?_
  refine lv_istore_n (lv' := [(1, .int ten), (0, .ref (a 14))]) hx hb dX7_nextToken_4 rfl hl (by decide) rfl (fun ls hl => ?_)
  have L5 : ∀ (nn : Nat) (y5_1 : Int32) (H : Heap) (locs : List Loc) (ls : Array Slot), (0 ≤ (y5_1.toInt)) → ((y5_1.toInt) ≤ 160) → ((y5_1.toInt) ≤ len.toInt) → (tS byt len.toInt (y5_1.toInt) = tS byt len.toInt ten.toInt) → (160 - (y5_1.toInt)).toNat < nn → va_P (dC, dI) vwCl (wTxt cI cZ cQ a byt len tst ten) H → va_D A (wTxt cI cZ cQ a byt len tst ten) → va_S A s.heap H locs → lv_has ls 3 [(0, .ref (a 14)), (1, .int y5_1)] → W p l e (headSpec wsX7_nextToken { frames := 2, cells := 0, slots := 0, locals := 42 }).room s m ([.ref (a 14)] : List Value).toArray below meth c H locs 0 0 (MQ below (va_Qv (fun (u : US) => ((u.1 0 0).toInt ≤ (u.1 1 0).toInt) ∧ ((u.1 1 0).toInt ≤ len.toInt) ∧ ((u.1 0 0).toInt = tS byt len.toInt ten.toInt) ∧ ((u.1 1 0).toInt = tE byt len.toInt (u.1 0 0).toInt) ∧ (0 ≤ (u.1 0 0).toInt ∧ (u.1 0 0).toInt ≤ 160) ∧ (0 ≤ (u.1 1 0).toInt ∧ (u.1 1 0).toInt ≤ 160)) (Bw (dC, dI) A (fun u : US => (wTxt cI cZ cQ a byt len (u.1 0 0) (u.1 1 0)))) A) ([.ref (a 14)] : List Value).toArray s 0 0 A) (F0 m 5 ls []) := by
    intro nn
    induction nn with
    | zero =>
      intro y5_1 H locs ls i5_0 i5_1 i5_2 i5_3 hm5
      exact absurd hm5 (Nat.not_lt_zero _)
    | succ nn ih5 =>
      intro y5_1 H locs ls i5_0 i5_1 i5_2 i5_3 hm5 hP hD hS hl
      refine lv_iload_n hx hb dX7_nextToken_5 rfl (lv_at hl 1 rfl) ?_
      refine lv_aload_n hx hb dX7_nextToken_6 rfl (lv_at hl 0 rfl) ?_
      refine va_get (D := (dC, dI)) (ci := 7) (v := .int len) (C := RX7) (T := TX7) (N := 4) hx hb hts inX7 hown hK hP 0 rfl rfl 1 (by decide) lf15 (fun _ h9 => h9) rfl dX7_nextToken_7 ?_
      refine lv_icmp_ge (tgt := 30) hx hb dX7_nextToken_10 (by decide) (fun c1 => ?_) (fun c1 => ?_)
      · have dc1 : len.toInt ≤ y5_1.toInt := leC rfl rfl c1
        refine lv_aload_n hx hb dX7_nextToken_30 rfl (lv_at hl 0 rfl) ?_
        refine lv_iload_n hx hb dX7_nextToken_31 rfl (lv_at hl 1 rfl) ?_
        refine va_put (D := (dC, dI)) (ci := 7) (v := .int y5_1) (ty := .int) (C := RX7) (T := TX7) (N := 4) hx hb hts inX7 tyX7 tyX7_ok nmX7 hown hK hP hD hS 0 rfl rfl 2 (by decide) lf33 (fun _ h9 => h9) rfl (by decide +kernel) rfl rfl (Nat.le_of_ble_eq_true rfl) dX7_nextToken_32 (fun H locs hP hD hS => ?_)
        have g2 : 0 ≤ y5_1.toInt ∧ y5_1.toInt ≤ 160 := by rw [show y5_1.toInt = y5_1.toInt from rfl]; exact ⟨by omega, by omega⟩
        have hP : va_P (dC, dI) vwCl (wTxt cI cZ cQ a byt len y5_1 ten) H := hP
        have hD : va_D A (wTxt cI cZ cQ a byt len y5_1 ten) := hD
        have L88 : ∀ (y88_1 : Int32) (H : Heap) (locs : List Loc) (ls : Array Slot), (y5_1.toInt ≤ (y88_1.toInt)) → ((y88_1.toInt) ≤ len.toInt) → (0 ≤ (y88_1.toInt)) → ((y88_1.toInt) ≤ 160) → ((y88_1.toInt) = tE byt len.toInt y5_1.toInt) → va_P (dC, dI) vwCl (wTxt cI cZ cQ a byt len y5_1 ten) H → va_D A (wTxt cI cZ cQ a byt len y5_1 ten) → va_S A s.heap H locs → lv_has ls 3 [(0, .ref (a 14)), (1, .int y88_1)] → W p l e (headSpec wsX7_nextToken { frames := 2, cells := 0, slots := 0, locals := 42 }).room s m ([.ref (a 14)] : List Value).toArray below meth c H locs 0 0 (MQ below (va_Qv (fun (u : US) => ((u.1 0 0).toInt ≤ (u.1 1 0).toInt) ∧ ((u.1 1 0).toInt ≤ len.toInt) ∧ ((u.1 0 0).toInt = tS byt len.toInt ten.toInt) ∧ ((u.1 1 0).toInt = tE byt len.toInt (u.1 0 0).toInt) ∧ (0 ≤ (u.1 0 0).toInt ∧ (u.1 0 0).toInt ≤ 160) ∧ (0 ≤ (u.1 1 0).toInt ∧ (u.1 1 0).toInt ≤ 160)) (Bw (dC, dI) A (fun u : US => (wTxt cI cZ cQ a byt len (u.1 0 0) (u.1 1 0)))) A) ([.ref (a 14)] : List Value).toArray s 0 0 A) (F0 m 88 ls []) := by
          intro y88_1 H locs ls i88_0 i88_1 i88_2 i88_3 i88_4 hP hD hS hl
          refine lv_aload_n hx hb dX7_nextToken_88 rfl (lv_at hl 0 rfl) ?_
          refine lv_iload_n hx hb dX7_nextToken_89 rfl (lv_at hl 1 rfl) ?_
          refine va_put (D := (dC, dI)) (ci := 7) (v := .int y88_1) (ty := .int) (C := RX7) (T := TX7) (N := 4) hx hb hts inX7 tyX7 tyX7_ok nmX7 hown hK hP hD hS 0 rfl rfl 3 (by decide) lf26 (fun _ h9 => h9) rfl (by decide +kernel) rfl rfl (Nat.le_of_ble_eq_true rfl) dX7_nextToken_90 (fun H locs hP hD hS => ?_)
          have g3 : 0 ≤ y88_1.toInt ∧ y88_1.toInt ≤ 160 := by rw [show y88_1.toInt = y88_1.toInt from rfl]; exact ⟨by omega, by omega⟩
          have hP : va_P (dC, dI) vwCl (wTxt cI cZ cQ a byt len y5_1 y88_1) H := hP
          have hD : va_D A (wTxt cI cZ cQ a byt len y5_1 y88_1) := hD
          exact W.vret hx hb hr (fun tq ht hW => ⟨⟨(uS [(fun _ => y5_1), (fun _ => y88_1)] 0 (fun _ => 0)), rfl, ⟨(show y5_1.toInt ≤ y88_1.toInt from by omega), (show y88_1.toInt ≤ len.toInt from by omega), (show y5_1.toInt = tS byt len.toInt ten.toInt from by exact sk_out i5_3 (by omega)), (show y88_1.toInt = tE byt len.toInt y5_1.toInt from by exact i88_4), g2, g3⟩, by rw [ht]; exact hP, hD⟩, hS.F ht⟩) hS.2.2 dX7_nextToken_93
        refine lv_iload_n hx hb dX7_nextToken_35 rfl (lv_at hl 1 rfl) ?_
        refine lv_aload_n hx hb dX7_nextToken_36 rfl (lv_at hl 0 rfl) ?_
        refine va_get (D := (dC, dI)) (ci := 7) (v := .int len) (C := RX7) (T := TX7) (N := 4) hx hb hts inX7 hown hK hP 0 rfl rfl 1 (by decide) lf15 (fun _ h9 => h9) rfl dX7_nextToken_37 ?_
        refine lv_icmp_ge (tgt := 88) hx hb dX7_nextToken_40 (by decide) (fun c4 => ?_) (fun c4 => ?_)
        · have dc4 : len.toInt ≤ y5_1.toInt := leC rfl rfl c4
          exact L88 y5_1 _ _ _ (by omega) (by omega) (by omega) (by omega) (by (first | exact tE_end (by omega) rfl | exact tE_oneC (by omega) (by assumption) (by omega) (by omega) | exact tE_runC (by omega) (by assumption) (by omega) i56_4 (by omega))) hP hD hS (lv_sub hl [0, 1] rfl)
        · have dc4 : y5_1.toInt < len.toInt := nleC rfl rfl c4
          refine lv_aload_n hx hb dX7_nextToken_43 rfl (lv_at hl 0 rfl) ?_
          refine va_get (D := (dC, dI)) (ci := 7) (v := .ref (a 15)) (C := RX7) (T := TX7) (N := 4) hx hb hts inX7 hown hK hP 0 rfl rfl 0 (by decide) lf9 (fun _ h9 => h9) rfl dX7_nextToken_44 ?_
          refine lv_iload_n hx hb dX7_nextToken_47 rfl (lv_at hl 1 rfl) ?_
          have b5 : vp_in y5_1 160 := inC rfl (by omega) (by omega)
          refine va_iald hx hb hK hP 1 0 rfl rfl b5 dX7_nextToken_48 ?_
          refine rdS (As := [.int (byt y5_1.toNatClampNeg)]) (rest := []) ⟨hx, hb, hml, hown, hts⟩ (k_X7_kindOf2 l dC dI cI cZ cQ (byt y5_1.toNatClampNeg)) (va_cwS 1 hts gX7_nextToken_X7_kindOf rfl rfl rfl (by decide +kernel) ⟨Nat.le_of_ble_eq_true rfl, Nat.le_of_ble_eq_true rfl⟩) hP hK hN [] rfl rfl hl.1 rfl (Nat.le_of_ble_eq_true rfl) dX7_nextToken_49 ⟨Nat.le_of_ble_eq_true rfl, Nat.le_of_ble_eq_true rfl⟩ (fun r6 h7 => ?_)
          have h7 : (1 ≤ r6.toInt) ∧ (r6.toInt ≤ 3) ∧ (r6.toInt = knd (byt y5_1.toNatClampNeg)) := h7
          obtain ⟨h7_0, h7_1, h7_2⟩ := h7
          refine lv_istore_n (lv' := [(2, .int r6), (0, .ref (a 14)), (1, .int y5_1)]) hx hb dX7_nextToken_52 rfl hl (by decide) rfl (fun ls hl => ?_)
          obtain ⟨z8, ez8⟩ : ∃ y : Int32, y = y5_1 + 1 := ⟨_, rfl⟩
          have iz8 : z8.toInt = y5_1.toInt + 1 := by rw [ez8]; exact addC rfl rfl (by omega) (by omega)
          refine lv_iinc (v := z8) (lv' := [(1, .int z8), (2, .int r6), (0, .ref (a 14))]) hx hb dX7_nextToken_53 hl (k := 2) rfl (by rw [ez8]; rfl) (by decide) rfl (fun ls hl => ?_)
          have L56 : ∀ (nn : Nat) (y56_1 : Int32) (H : Heap) (locs : List Loc) (ls : Array Slot), (0 ≤ (y56_1.toInt)) → ((y56_1.toInt) ≤ len.toInt) → (y5_1.toInt ≤ (y56_1.toInt)) → ((y56_1.toInt) ≤ 160) → (tR byt (r6.toInt) len.toInt (y56_1.toInt) = tR byt (r6.toInt) len.toInt (y5_1.toInt + 1)) → ((r6.toInt) ≠ 3 ∨ (y56_1.toInt) = y5_1.toInt + 1) → (len.toInt - (y56_1.toInt)).toNat < nn → va_P (dC, dI) vwCl (wTxt cI cZ cQ a byt len y5_1 ten) H → va_D A (wTxt cI cZ cQ a byt len y5_1 ten) → va_S A s.heap H locs → lv_has ls 3 [(0, .ref (a 14)), (1, .int y56_1), (2, .int r6)] → W p l e (headSpec wsX7_nextToken { frames := 2, cells := 0, slots := 0, locals := 42 }).room s m ([.ref (a 14)] : List Value).toArray below meth c H locs 0 0 (MQ below (va_Qv (fun (u : US) => ((u.1 0 0).toInt ≤ (u.1 1 0).toInt) ∧ ((u.1 1 0).toInt ≤ len.toInt) ∧ ((u.1 0 0).toInt = tS byt len.toInt ten.toInt) ∧ ((u.1 1 0).toInt = tE byt len.toInt (u.1 0 0).toInt) ∧ (0 ≤ (u.1 0 0).toInt ∧ (u.1 0 0).toInt ≤ 160) ∧ (0 ≤ (u.1 1 0).toInt ∧ (u.1 1 0).toInt ≤ 160)) (Bw (dC, dI) A (fun u : US => (wTxt cI cZ cQ a byt len (u.1 0 0) (u.1 1 0)))) A) ([.ref (a 14)] : List Value).toArray s 0 0 A) (F0 m 56 ls []) := by
            intro nn
            induction nn with
            | zero =>
              intro y56_1 H locs ls i56_0 i56_1 i56_2 i56_3 i56_4 i56_5 hm56
              exact absurd hm56 (Nat.not_lt_zero _)
            | succ nn ih56 =>
              intro y56_1 H locs ls i56_0 i56_1 i56_2 i56_3 i56_4 i56_5 hm56 hP hD hS hl
              refine lv_iload_n hx hb dX7_nextToken_56 rfl (lv_at hl 2 rfl) ?_
              refine lv_iconst (v := 3) hx hb dX7_nextToken_57 (by decide) ?_
              refine lv_icmp_eq (tgt := 88) hx hb dX7_nextToken_58 (by decide) (fun c9 => ?_) (fun c9 => ?_)
              · have dc9 : r6.toInt = 3 := eqC rfl (show (3 : Int32).toInt = 3 from rfl) c9
                exact L88 y56_1 _ _ _ (by omega) (by omega) (by omega) (by omega) (by (first | exact tE_end (by omega) rfl | exact tE_oneC (by omega) (by assumption) (by omega) (by omega) | exact tE_runC (by omega) (by assumption) (by omega) i56_4 (by omega))) hP hD hS (lv_sub hl [0, 1] rfl)
              · have dc9 : r6.toInt ≤ 2 := ka_hi (by omega) (neC rfl (show (3 : Int32).toInt = 3 from rfl) c9)
                refine lv_iload_n hx hb dX7_nextToken_61 rfl (lv_at hl 1 rfl) ?_
                refine lv_aload_n hx hb dX7_nextToken_62 rfl (lv_at hl 0 rfl) ?_
                refine va_get (D := (dC, dI)) (ci := 7) (v := .int len) (C := RX7) (T := TX7) (N := 4) hx hb hts inX7 hown hK hP 0 rfl rfl 1 (by decide) lf15 (fun _ h9 => h9) rfl dX7_nextToken_63 ?_
                refine lv_icmp_ge (tgt := 88) hx hb dX7_nextToken_66 (by decide) (fun c10 => ?_) (fun c10 => ?_)
                · have dc10 : len.toInt ≤ y56_1.toInt := leC rfl rfl c10
                  exact L88 y56_1 _ _ _ (by omega) (by omega) (by omega) (by omega) (by (first | exact tE_end (by omega) rfl | exact tE_oneC (by omega) (by assumption) (by omega) (by omega) | exact tE_runC (by omega) (by assumption) (by omega) i56_4 (by omega))) hP hD hS (lv_sub hl [0, 1] rfl)
                · have dc10 : y56_1.toInt < len.toInt := nleC rfl rfl c10
                  refine lv_aload_n hx hb dX7_nextToken_69 rfl (lv_at hl 0 rfl) ?_
                  refine va_get (D := (dC, dI)) (ci := 7) (v := .ref (a 15)) (C := RX7) (T := TX7) (N := 4) hx hb hts inX7 hown hK hP 0 rfl rfl 0 (by decide) lf9 (fun _ h9 => h9) rfl dX7_nextToken_70 ?_
                  refine lv_iload_n hx hb dX7_nextToken_73 rfl (lv_at hl 1 rfl) ?_
                  have b11 : vp_in y56_1 160 := inC rfl (by omega) (by omega)
                  refine va_iald hx hb hK hP 1 0 rfl rfl b11 dX7_nextToken_74 ?_
                  refine rdS (As := [.int (byt y56_1.toNatClampNeg)]) (rest := []) ⟨hx, hb, hml, hown, hts⟩ (k_X7_kindOf2 l dC dI cI cZ cQ (byt y56_1.toNatClampNeg)) (va_cwS 1 hts gX7_nextToken_X7_kindOf rfl rfl rfl (by decide +kernel) ⟨Nat.le_of_ble_eq_true rfl, Nat.le_of_ble_eq_true rfl⟩) hP hK hN [] rfl rfl hl.1 rfl (Nat.le_of_ble_eq_true rfl) dX7_nextToken_75 ⟨Nat.le_of_ble_eq_true rfl, Nat.le_of_ble_eq_true rfl⟩ (fun r12 h13 => ?_)
                  have h13 : (1 ≤ r12.toInt) ∧ (r12.toInt ≤ 3) ∧ (r12.toInt = knd (byt y56_1.toNatClampNeg)) := h13
                  obtain ⟨h13_0, h13_1, h13_2⟩ := h13
                  refine lv_iload_n hx hb dX7_nextToken_78 rfl (lv_at hl 2 rfl) ?_
                  refine lv_icmp_ne (tgt := 88) hx hb dX7_nextToken_79 (by decide) (fun c14 => ?_) (fun c14 => ?_)
                  · have dc14 : r12.toInt ≠ r6.toInt := neC rfl rfl c14
                    exact L88 y56_1 _ _ _ (by omega) (by omega) (by omega) (by omega) (by (first | exact tE_end (by omega) rfl | exact tE_oneC (by omega) (by assumption) (by omega) (by omega) | exact tE_runC (by omega) (by assumption) (by omega) i56_4 (by omega))) hP hD hS (lv_sub hl [0, 1] rfl)
                  · have dc14 : r12.toInt = r6.toInt := eqC rfl rfl c14
                    obtain ⟨z15, ez15⟩ : ∃ y : Int32, y = y56_1 + 1 := ⟨_, rfl⟩
                    have iz15 : z15.toInt = y56_1.toInt + 1 := by rw [ez15]; exact addC rfl rfl (by omega) (by omega)
                    refine lv_iinc (v := z15) (lv' := [(1, .int z15), (0, .ref (a 14)), (2, .int r6)]) hx hb dX7_nextToken_82 hl (k := 1) rfl (by rw [ez15]; rfl) (by decide) rfl (fun ls hl => ?_)
                    refine lv_goto (tgt := 56) hx hb dX7_nextToken_85 (by decide) ?_
                    exact ih56 z15 _ _ _ (by omega) (by omega) (by omega) (by omega) (by (first | exact rn_in i56_4 (by omega) (by omega) (by omega) | exact tR_cast (by omega))) (by omega) (by omega) hP hD hS (lv_sub hl [1, 0, 2] rfl)
          exact L56 _ z8 _ _ _ (by omega) (by omega) (by omega) (by omega) (by (first | exact rn_in i56_4 (by omega) (by omega) (by omega) | exact tR_cast (by omega))) (by omega) (Nat.lt_succ_self _) hP hD hS (lv_sub hl [2, 0, 1] rfl)
      · have dc1 : y5_1.toInt < len.toInt := nleC rfl rfl c1
        refine lv_aload_n hx hb dX7_nextToken_13 rfl (lv_at hl 0 rfl) ?_
        refine va_get (D := (dC, dI)) (ci := 7) (v := .ref (a 15)) (C := RX7) (T := TX7) (N := 4) hx hb hts inX7 hown hK hP 0 rfl rfl 0 (by decide) lf9 (fun _ h9 => h9) rfl dX7_nextToken_14 ?_
        refine lv_iload_n hx hb dX7_nextToken_17 rfl (lv_at hl 1 rfl) ?_
        have b16 : vp_in y5_1 160 := inC rfl (by omega) (by omega)
        refine va_iald hx hb hK hP 1 0 rfl rfl b16 dX7_nextToken_18 ?_
        refine lv_bipush (v := 32) hx hb dX7_nextToken_19 (by decide) ?_
        refine lv_icmp_ne (tgt := 30) hx hb dX7_nextToken_21 (by decide) (fun c17 => ?_) (fun c17 => ?_)
        · have dc17 : (byt y5_1.toNatClampNeg).toInt ≠ 32 := neC rfl (show (32 : Int32).toInt = 32 from rfl) c17
          refine lv_aload_n hx hb dX7_nextToken_30 rfl (lv_at hl 0 rfl) ?_
          refine lv_iload_n hx hb dX7_nextToken_31 rfl (lv_at hl 1 rfl) ?_
          refine va_put (D := (dC, dI)) (ci := 7) (v := .int y5_1) (ty := .int) (C := RX7) (T := TX7) (N := 4) hx hb hts inX7 tyX7 tyX7_ok nmX7 hown hK hP hD hS 0 rfl rfl 2 (by decide) lf33 (fun _ h9 => h9) rfl (by decide +kernel) rfl rfl (Nat.le_of_ble_eq_true rfl) dX7_nextToken_32 (fun H locs hP hD hS => ?_)
          have g18 : 0 ≤ y5_1.toInt ∧ y5_1.toInt ≤ 160 := by rw [show y5_1.toInt = y5_1.toInt from rfl]; exact ⟨by omega, by omega⟩
          have hP : va_P (dC, dI) vwCl (wTxt cI cZ cQ a byt len y5_1 ten) H := hP
          have hD : va_D A (wTxt cI cZ cQ a byt len y5_1 ten) := hD
          have L88 : ∀ (y88_1 : Int32) (H : Heap) (locs : List Loc) (ls : Array Slot), (y5_1.toInt ≤ (y88_1.toInt)) → ((y88_1.toInt) ≤ len.toInt) → (0 ≤ (y88_1.toInt)) → ((y88_1.toInt) ≤ 160) → ((y88_1.toInt) = tE byt len.toInt y5_1.toInt) → va_P (dC, dI) vwCl (wTxt cI cZ cQ a byt len y5_1 ten) H → va_D A (wTxt cI cZ cQ a byt len y5_1 ten) → va_S A s.heap H locs → lv_has ls 3 [(0, .ref (a 14)), (1, .int y88_1)] → W p l e (headSpec wsX7_nextToken { frames := 2, cells := 0, slots := 0, locals := 42 }).room s m ([.ref (a 14)] : List Value).toArray below meth c H locs 0 0 (MQ below (va_Qv (fun (u : US) => ((u.1 0 0).toInt ≤ (u.1 1 0).toInt) ∧ ((u.1 1 0).toInt ≤ len.toInt) ∧ ((u.1 0 0).toInt = tS byt len.toInt ten.toInt) ∧ ((u.1 1 0).toInt = tE byt len.toInt (u.1 0 0).toInt) ∧ (0 ≤ (u.1 0 0).toInt ∧ (u.1 0 0).toInt ≤ 160) ∧ (0 ≤ (u.1 1 0).toInt ∧ (u.1 1 0).toInt ≤ 160)) (Bw (dC, dI) A (fun u : US => (wTxt cI cZ cQ a byt len (u.1 0 0) (u.1 1 0)))) A) ([.ref (a 14)] : List Value).toArray s 0 0 A) (F0 m 88 ls []) := by
            intro y88_1 H locs ls i88_0 i88_1 i88_2 i88_3 i88_4 hP hD hS hl
            refine lv_aload_n hx hb dX7_nextToken_88 rfl (lv_at hl 0 rfl) ?_
            refine lv_iload_n hx hb dX7_nextToken_89 rfl (lv_at hl 1 rfl) ?_
            refine va_put (D := (dC, dI)) (ci := 7) (v := .int y88_1) (ty := .int) (C := RX7) (T := TX7) (N := 4) hx hb hts inX7 tyX7 tyX7_ok nmX7 hown hK hP hD hS 0 rfl rfl 3 (by decide) lf26 (fun _ h9 => h9) rfl (by decide +kernel) rfl rfl (Nat.le_of_ble_eq_true rfl) dX7_nextToken_90 (fun H locs hP hD hS => ?_)
            have g19 : 0 ≤ y88_1.toInt ∧ y88_1.toInt ≤ 160 := by rw [show y88_1.toInt = y88_1.toInt from rfl]; exact ⟨by omega, by omega⟩
            have hP : va_P (dC, dI) vwCl (wTxt cI cZ cQ a byt len y5_1 y88_1) H := hP
            have hD : va_D A (wTxt cI cZ cQ a byt len y5_1 y88_1) := hD
            exact W.vret hx hb hr (fun tq ht hW => ⟨⟨(uS [(fun _ => y5_1), (fun _ => y88_1)] 0 (fun _ => 0)), rfl, ⟨(show y5_1.toInt ≤ y88_1.toInt from by omega), (show y88_1.toInt ≤ len.toInt from by omega), (show y5_1.toInt = tS byt len.toInt ten.toInt from by exact sk_out i5_3 (by omega)), (show y88_1.toInt = tE byt len.toInt y5_1.toInt from by exact i88_4), g18, g19⟩, by rw [ht]; exact hP, hD⟩, hS.F ht⟩) hS.2.2 dX7_nextToken_93
          refine lv_iload_n hx hb dX7_nextToken_35 rfl (lv_at hl 1 rfl) ?_
          refine lv_aload_n hx hb dX7_nextToken_36 rfl (lv_at hl 0 rfl) ?_
          refine va_get (D := (dC, dI)) (ci := 7) (v := .int len) (C := RX7) (T := TX7) (N := 4) hx hb hts inX7 hown hK hP 0 rfl rfl 1 (by decide) lf15 (fun _ h9 => h9) rfl dX7_nextToken_37 ?_
          refine lv_icmp_ge (tgt := 88) hx hb dX7_nextToken_40 (by decide) (fun c20 => ?_) (fun c20 => ?_)
          · have dc20 : len.toInt ≤ y5_1.toInt := leC rfl rfl c20
            exact L88 y5_1 _ _ _ (by omega) (by omega) (by omega) (by omega) (by (first | exact tE_end (by omega) rfl | exact tE_oneC (by omega) (by assumption) (by omega) (by omega) | exact tE_runC (by omega) (by assumption) (by omega) i56_4 (by omega))) hP hD hS (lv_sub hl [0, 1] rfl)
          · have dc20 : y5_1.toInt < len.toInt := nleC rfl rfl c20
            refine lv_aload_n hx hb dX7_nextToken_43 rfl (lv_at hl 0 rfl) ?_
            refine va_get (D := (dC, dI)) (ci := 7) (v := .ref (a 15)) (C := RX7) (T := TX7) (N := 4) hx hb hts inX7 hown hK hP 0 rfl rfl 0 (by decide) lf9 (fun _ h9 => h9) rfl dX7_nextToken_44 ?_
            refine lv_iload_n hx hb dX7_nextToken_47 rfl (lv_at hl 1 rfl) ?_
            have b21 : vp_in y5_1 160 := inC rfl (by omega) (by omega)
            refine va_iald hx hb hK hP 1 0 rfl rfl b21 dX7_nextToken_48 ?_
            refine rdS (As := [.int (byt y5_1.toNatClampNeg)]) (rest := []) ⟨hx, hb, hml, hown, hts⟩ (k_X7_kindOf2 l dC dI cI cZ cQ (byt y5_1.toNatClampNeg)) (va_cwS 1 hts gX7_nextToken_X7_kindOf rfl rfl rfl (by decide +kernel) ⟨Nat.le_of_ble_eq_true rfl, Nat.le_of_ble_eq_true rfl⟩) hP hK hN [] rfl rfl hl.1 rfl (Nat.le_of_ble_eq_true rfl) dX7_nextToken_49 ⟨Nat.le_of_ble_eq_true rfl, Nat.le_of_ble_eq_true rfl⟩ (fun r22 h23 => ?_)
            have h23 : (1 ≤ r22.toInt) ∧ (r22.toInt ≤ 3) ∧ (r22.toInt = knd (byt y5_1.toNatClampNeg)) := h23
            obtain ⟨h23_0, h23_1, h23_2⟩ := h23
            refine lv_istore_n (lv' := [(2, .int r22), (0, .ref (a 14)), (1, .int y5_1)]) hx hb dX7_nextToken_52 rfl hl (by decide) rfl (fun ls hl => ?_)
            obtain ⟨z24, ez24⟩ : ∃ y : Int32, y = y5_1 + 1 := ⟨_, rfl⟩
            have iz24 : z24.toInt = y5_1.toInt + 1 := by rw [ez24]; exact addC rfl rfl (by omega) (by omega)
            refine lv_iinc (v := z24) (lv' := [(1, .int z24), (2, .int r22), (0, .ref (a 14))]) hx hb dX7_nextToken_53 hl (k := 2) rfl (by rw [ez24]; rfl) (by decide) rfl (fun ls hl => ?_)
            have L56 : ∀ (nn : Nat) (y56_1 : Int32) (H : Heap) (locs : List Loc) (ls : Array Slot), (0 ≤ (y56_1.toInt)) → ((y56_1.toInt) ≤ len.toInt) → (y5_1.toInt ≤ (y56_1.toInt)) → ((y56_1.toInt) ≤ 160) → (tR byt (r22.toInt) len.toInt (y56_1.toInt) = tR byt (r22.toInt) len.toInt (y5_1.toInt + 1)) → ((r22.toInt) ≠ 3 ∨ (y56_1.toInt) = y5_1.toInt + 1) → (len.toInt - (y56_1.toInt)).toNat < nn → va_P (dC, dI) vwCl (wTxt cI cZ cQ a byt len y5_1 ten) H → va_D A (wTxt cI cZ cQ a byt len y5_1 ten) → va_S A s.heap H locs → lv_has ls 3 [(0, .ref (a 14)), (1, .int y56_1), (2, .int r22)] → W p l e (headSpec wsX7_nextToken { frames := 2, cells := 0, slots := 0, locals := 42 }).room s m ([.ref (a 14)] : List Value).toArray below meth c H locs 0 0 (MQ below (va_Qv (fun (u : US) => ((u.1 0 0).toInt ≤ (u.1 1 0).toInt) ∧ ((u.1 1 0).toInt ≤ len.toInt) ∧ ((u.1 0 0).toInt = tS byt len.toInt ten.toInt) ∧ ((u.1 1 0).toInt = tE byt len.toInt (u.1 0 0).toInt) ∧ (0 ≤ (u.1 0 0).toInt ∧ (u.1 0 0).toInt ≤ 160) ∧ (0 ≤ (u.1 1 0).toInt ∧ (u.1 1 0).toInt ≤ 160)) (Bw (dC, dI) A (fun u : US => (wTxt cI cZ cQ a byt len (u.1 0 0) (u.1 1 0)))) A) ([.ref (a 14)] : List Value).toArray s 0 0 A) (F0 m 56 ls []) := by
              intro nn
              induction nn with
              | zero =>
                intro y56_1 H locs ls i56_0 i56_1 i56_2 i56_3 i56_4 i56_5 hm56
                exact absurd hm56 (Nat.not_lt_zero _)
              | succ nn ih56 =>
                intro y56_1 H locs ls i56_0 i56_1 i56_2 i56_3 i56_4 i56_5 hm56 hP hD hS hl
                refine lv_iload_n hx hb dX7_nextToken_56 rfl (lv_at hl 2 rfl) ?_
                refine lv_iconst (v := 3) hx hb dX7_nextToken_57 (by decide) ?_
                refine lv_icmp_eq (tgt := 88) hx hb dX7_nextToken_58 (by decide) (fun c25 => ?_) (fun c25 => ?_)
                · have dc25 : r22.toInt = 3 := eqC rfl (show (3 : Int32).toInt = 3 from rfl) c25
                  exact L88 y56_1 _ _ _ (by omega) (by omega) (by omega) (by omega) (by (first | exact tE_end (by omega) rfl | exact tE_oneC (by omega) (by assumption) (by omega) (by omega) | exact tE_runC (by omega) (by assumption) (by omega) i56_4 (by omega))) hP hD hS (lv_sub hl [0, 1] rfl)
                · have dc25 : r22.toInt ≤ 2 := ka_hi (by omega) (neC rfl (show (3 : Int32).toInt = 3 from rfl) c25)
                  refine lv_iload_n hx hb dX7_nextToken_61 rfl (lv_at hl 1 rfl) ?_
                  refine lv_aload_n hx hb dX7_nextToken_62 rfl (lv_at hl 0 rfl) ?_
                  refine va_get (D := (dC, dI)) (ci := 7) (v := .int len) (C := RX7) (T := TX7) (N := 4) hx hb hts inX7 hown hK hP 0 rfl rfl 1 (by decide) lf15 (fun _ h9 => h9) rfl dX7_nextToken_63 ?_
                  refine lv_icmp_ge (tgt := 88) hx hb dX7_nextToken_66 (by decide) (fun c26 => ?_) (fun c26 => ?_)
                  · have dc26 : len.toInt ≤ y56_1.toInt := leC rfl rfl c26
                    exact L88 y56_1 _ _ _ (by omega) (by omega) (by omega) (by omega) (by (first | exact tE_end (by omega) rfl | exact tE_oneC (by omega) (by assumption) (by omega) (by omega) | exact tE_runC (by omega) (by assumption) (by omega) i56_4 (by omega))) hP hD hS (lv_sub hl [0, 1] rfl)
                  · have dc26 : y56_1.toInt < len.toInt := nleC rfl rfl c26
                    refine lv_aload_n hx hb dX7_nextToken_69 rfl (lv_at hl 0 rfl) ?_
                    refine va_get (D := (dC, dI)) (ci := 7) (v := .ref (a 15)) (C := RX7) (T := TX7) (N := 4) hx hb hts inX7 hown hK hP 0 rfl rfl 0 (by decide) lf9 (fun _ h9 => h9) rfl dX7_nextToken_70 ?_
                    refine lv_iload_n hx hb dX7_nextToken_73 rfl (lv_at hl 1 rfl) ?_
                    have b27 : vp_in y56_1 160 := inC rfl (by omega) (by omega)
                    refine va_iald hx hb hK hP 1 0 rfl rfl b27 dX7_nextToken_74 ?_
                    refine rdS (As := [.int (byt y56_1.toNatClampNeg)]) (rest := []) ⟨hx, hb, hml, hown, hts⟩ (k_X7_kindOf2 l dC dI cI cZ cQ (byt y56_1.toNatClampNeg)) (va_cwS 1 hts gX7_nextToken_X7_kindOf rfl rfl rfl (by decide +kernel) ⟨Nat.le_of_ble_eq_true rfl, Nat.le_of_ble_eq_true rfl⟩) hP hK hN [] rfl rfl hl.1 rfl (Nat.le_of_ble_eq_true rfl) dX7_nextToken_75 ⟨Nat.le_of_ble_eq_true rfl, Nat.le_of_ble_eq_true rfl⟩ (fun r28 h29 => ?_)
                    have h29 : (1 ≤ r28.toInt) ∧ (r28.toInt ≤ 3) ∧ (r28.toInt = knd (byt y56_1.toNatClampNeg)) := h29
                    obtain ⟨h29_0, h29_1, h29_2⟩ := h29
                    refine lv_iload_n hx hb dX7_nextToken_78 rfl (lv_at hl 2 rfl) ?_
                    refine lv_icmp_ne (tgt := 88) hx hb dX7_nextToken_79 (by decide) (fun c30 => ?_) (fun c30 => ?_)
                    · have dc30 : r28.toInt ≠ r22.toInt := neC rfl rfl c30
                      exact L88 y56_1 _ _ _ (by omega) (by omega) (by omega) (by omega) (by (first | exact tE_end (by omega) rfl | exact tE_oneC (by omega) (by assumption) (by omega) (by omega) | exact tE_runC (by omega) (by assumption) (by omega) i56_4 (by omega))) hP hD hS (lv_sub hl [0, 1] rfl)
                    · have dc30 : r28.toInt = r22.toInt := eqC rfl rfl c30
                      obtain ⟨z31, ez31⟩ : ∃ y : Int32, y = y56_1 + 1 := ⟨_, rfl⟩
                      have iz31 : z31.toInt = y56_1.toInt + 1 := by rw [ez31]; exact addC rfl rfl (by omega) (by omega)
                      refine lv_iinc (v := z31) (lv' := [(1, .int z31), (0, .ref (a 14)), (2, .int r22)]) hx hb dX7_nextToken_82 hl (k := 1) rfl (by rw [ez31]; rfl) (by decide) rfl (fun ls hl => ?_)
                      refine lv_goto (tgt := 56) hx hb dX7_nextToken_85 (by decide) ?_
                      exact ih56 z31 _ _ _ (by omega) (by omega) (by omega) (by omega) (by (first | exact rn_in i56_4 (by omega) (by omega) (by omega) | exact tR_cast (by omega))) (by omega) (by omega) hP hD hS (lv_sub hl [1, 0, 2] rfl)
            exact L56 _ z24 _ _ _ (by omega) (by omega) (by omega) (by omega) (by (first | exact rn_in i56_4 (by omega) (by omega) (by omega) | exact tR_cast (by omega))) (by omega) (Nat.lt_succ_self _) hP hD hS (lv_sub hl [2, 0, 1] rfl)
        · have dc17 : (byt y5_1.toNatClampNeg).toInt = 32 := eqC rfl (show (32 : Int32).toInt = 32 from rfl) c17
          obtain ⟨z32, ez32⟩ : ∃ y : Int32, y = y5_1 + 1 := ⟨_, rfl⟩
          have iz32 : z32.toInt = y5_1.toInt + 1 := by rw [ez32]; exact addC rfl rfl (by omega) (by omega)
          refine lv_iinc (v := z32) (lv' := [(1, .int z32), (0, .ref (a 14))]) hx hb dX7_nextToken_24 hl (k := 1) rfl (by rw [ez32]; rfl) (by decide) rfl (fun ls hl => ?_)
          refine lv_goto (tgt := 5) hx hb dX7_nextToken_27 (by decide) ?_
          exact ih5 z32 _ _ _ (by omega) (by omega) (by omega) (by (first | exact sk_in i5_3 (by omega) (by omega) (by omega) | rfl)) (by omega) hP hD hS (lv_sub hl [1, 0] rfl)
  exact L5 _ ten _ _ _ (by omega) (by omega) (by omega) (by (first | exact sk_in i5_3 (by omega) (by omega) (by omega) | rfl)) (Nat.lt_succ_self _) hP hD hS (lv_sub hl [1, 0] rfl)
set_option maxHeartbeats 4000000 in
set_option maxRecDepth 100000 in
theorem k_X7_tokenIs2 (l : Launch) (dC : Nat → ClassId) (dI : Nat → Nat → Nat) (cI cZ cQ : ClassId) (a : Nat → Nat) (byt : Nat → Int32) (len : Int32) (tst : Int32) (ten : Int32) (sk sv sN : Nat) (sf : Nat → Int32) (r_len : 0 ≤ len.toInt ∧ len.toInt ≤ 160) (r_tst : 0 ≤ tst.toInt ∧ tst.toInt ≤ 160) (r_ten : 0 ≤ ten.toInt ∧ ten.toInt ≤ 160) (q0 : tst.toInt ≤ ten.toInt) (q1 : sN ≤ 5) : KRS l yX7_tokenIs wsX7_tokenIs { frames := 4, cells := 0, slots := 0, locals := 85 } (dC, dI) (TY cI cZ cQ) (wTxt cI cZ cQ a byt len tst ten) sk sv sN sf [.ref (a 14), .ref sk] (fun r : Int32 => ((((r = 1) ∧ (wdP byt tst.toInt ten.toInt sN sf)) ∨ ((r = 0) ∧ (¬ wdP byt tst.toInt ten.toInt sN sf))))) := by
  refine Met.ofW (cc := cX7_tokenIs) (maxL := 3) (ret := (some .boolean)) (by decide) rfl ?_
  intro p e s m args below meth c s₁ B hml hv
  obtain ⟨rfl, hP, hK, hN, hC⟩ := hv
  have hx := B.exec
  have hb := B.bytes
  have hr := B.returns
  have hts := atoms_spec (ws := wsX7_tokenIs) B.pre
  have hown : s.vm.findClass RX7 = some m.cls := findClass_of_methodNamed B.named
  have hlocks := B.notSynchronized
  have lf26 := hts (.fieldLink RX7 26 "PalaceOfRooms$Text" "tokenEnd" "I") (List.mem_cons_of_mem _ (List.mem_append_left _ (List.mem_append_left _ (List.mem_of_getElem? (i := 0) rfl))))
  have inX7 : ∀ w ∈ wsX70, w ∈ wsX7_tokenIs := fun w h => List.mem_cons_of_mem _ (List.mem_append_right _ h)
  have lf33 := hts (.fieldLink RX7 33 "PalaceOfRooms$Text" "tokenStart" "I") (List.mem_cons_of_mem _ (List.mem_append_left _ (List.mem_append_left _ (List.mem_of_getElem? (i := 1) rfl))))
  have lf9 := hts (.fieldLink RX7 9 "PalaceOfRooms$Text" "bytes" "[I") (List.mem_cons_of_mem _ (List.mem_append_left _ (List.mem_append_left _ (List.mem_of_getElem? (i := 2) rfl))))
  have hl := lv_entry ([.ref (a 14), .ref sk]) (n := 3) (Nat.le_of_ble_eq_true rfl)
  rw [lg_entry_eq]
  generalize (lg_sl ([.ref (a 14), .ref sk]) ++ List.replicate (3 - (lg_sl ([.ref (a 14), .ref sk])).length) Slot.unset).toArray = ls at hl ⊢
  have hl : lv_has ls 3 [(0, .ref (a 14)), (1, .ref sk)] := hl
  refine lv_aload_n hx hb dX7_tokenIs_0 rfl (lv_at hl 0 rfl) ?_
  refine va_get (D := (dC, dI)) (ci := 7) (v := .int ten) (C := RX7) (T := TX7) (N := 4) hx hb hts inX7 hown hK hP 0 rfl rfl 3 (by decide) lf26 (fun _ h9 => h9) rfl dX7_tokenIs_1 ?_
  refine lv_aload_n hx hb dX7_tokenIs_4 rfl (lv_at hl 0 rfl) ?_
  refine va_get (D := (dC, dI)) (ci := 7) (v := .int tst) (C := RX7) (T := TX7) (N := 4) hx hb hts inX7 hown hK hP 0 rfl rfl 2 (by decide) lf33 (fun _ h9 => h9) rfl dX7_tokenIs_5 ?_
  refine lv_isub hx hb dX7_tokenIs_8 ?_
  have f1 : (ten - tst).toInt = (ten.toInt) - (tst.toInt) := subC rfl rfl (by omega) (by omega)
  refine lv_aload_n hx hb dX7_tokenIs_9 rfl (lv_at hl 1 rfl) ?_
  refine rdVS (As := []) (rest := [.int (ten - tst)]) ⟨hx, hb, hml, hown, hts⟩ (k_J0_length_8abf5 l sk sv sN sf (by omega)) (cwV 0 hts gX7_tokenIs_J0_length_8abf5 rfl rfl rfl (by decide +kernel) ⟨Nat.le_of_ble_eq_true rfl, Nat.le_of_ble_eq_true rfl⟩) hC rfl hl.1 rfl (Nat.le_of_ble_eq_true rfl) dX7_tokenIs_10 ⟨Nat.le_of_ble_eq_true rfl, Nat.le_of_ble_eq_true rfl⟩ (fun r2 h3 => ?_)
  have i4 : r2.toInt = (sN : Int) := by rw [h3]; exact nI_toInt (by omega)
  refine lv_icmp_eq (tgt := 18) hx hb dX7_tokenIs_13 (by decide) (fun c5 => ?_) (fun c5 => ?_)
  · have dc5 : (ten.toInt) - (tst.toInt) = r2.toInt := eqC f1 rfl c5
    refine lv_iconst (v := 0) hx hb dX7_tokenIs_18 (by decide) ?_
    refine lv_istore_n (lv' := [(2, .int 0), (0, .ref (a 14)), (1, .ref sk)]) hx hb dX7_tokenIs_19 rfl hl (by decide) rfl (fun ls hl => ?_)
    have L20 : ∀ (nn : Nat) (y20_2 : Int32) (ls : Array Slot), (0 ≤ (y20_2.toInt)) → ((y20_2.toInt) ≤ 5) → (∀ j : Nat, (j : Int) < (y20_2.toInt) → byt (tst.toInt + j).toNat = chV (sf j)) → ((y20_2.toInt) ≤ sN) → (5 - (y20_2.toInt)).toNat < nn → lv_has ls 3 [(0, .ref (a 14)), (1, .ref sk), (2, .int y20_2)] → W p l e (headSpec wsX7_tokenIs { frames := 4, cells := 0, slots := 0, locals := 85 }).room s m ([.ref (a 14), .ref sk] : List Value).toArray below meth c s.heap [] 0 0 (MQ below (QR (fun r : Int32 => ((((r = 1) ∧ (wdP byt tst.toInt ten.toInt sN sf)) ∨ ((r = 0) ∧ (¬ wdP byt tst.toInt ten.toInt sN sf)))))) ([.ref (a 14), .ref sk] : List Value).toArray s 0 0 (fun _ => False)) (F0 m 20 ls []) := by
      intro nn
      induction nn with
      | zero =>
        intro y20_2 ls i20_0 i20_1 i20_2 i20_3 hm20
        exact absurd hm20 (Nat.not_lt_zero _)
      | succ nn ih20 =>
        intro y20_2 ls i20_0 i20_1 i20_2 i20_3 hm20 hl
        refine lv_iload_n hx hb dX7_tokenIs_20 rfl (lv_at hl 2 rfl) ?_
        refine lv_aload_n hx hb dX7_tokenIs_21 rfl (lv_at hl 1 rfl) ?_
        refine rdVS (As := []) (rest := [.int y20_2]) ⟨hx, hb, hml, hown, hts⟩ (k_J0_length_8abf5 l sk sv sN sf (by omega)) (cwV 0 hts gX7_tokenIs_J0_length_8abf5 rfl rfl rfl (by decide +kernel) ⟨Nat.le_of_ble_eq_true rfl, Nat.le_of_ble_eq_true rfl⟩) hC rfl hl.1 rfl (Nat.le_of_ble_eq_true rfl) dX7_tokenIs_22 ⟨Nat.le_of_ble_eq_true rfl, Nat.le_of_ble_eq_true rfl⟩ (fun r6 h7 => ?_)
        have i8 : r6.toInt = (sN : Int) := by rw [h7]; exact nI_toInt (by omega)
        refine lv_icmp_ge (tgt := 55) hx hb dX7_tokenIs_25 (by decide) (fun c9 => ?_) (fun c9 => ?_)
        · have dc9 : r6.toInt ≤ y20_2.toInt := leC rfl rfl c9
          refine lv_iconst (v := 1) hx hb dX7_tokenIs_55 (by decide) ?_
          exact W.zret (v := 1) hx hb hr (by decide) (fun tq ht hW => ⟨1, rfl, (Or.inl (⟨rfl, (show wdP byt tst.toInt ten.toInt sN sf from by (try rw [show (1 : Int32).toInt = 1 from (show (1 : Int32).toInt = 1 from rfl)]); (first | exact fun h => absurd h.1 (by omega) | exact tw_no (by assumption) (by assumption) (by assumption) (by omega) (by omega) | exact ⟨by omega, fun j hj => i20_2 j (by omega)⟩))⟩)), ht⟩) (fun q h => by cases h) dX7_tokenIs_56
        · have dc9 : y20_2.toInt < r6.toInt := nleC rfl rfl c9
          refine lv_aload_n hx hb dX7_tokenIs_28 rfl (lv_at hl 0 rfl) ?_
          refine va_get (D := (dC, dI)) (ci := 7) (v := .ref (a 15)) (C := RX7) (T := TX7) (N := 4) hx hb hts inX7 hown hK hP 0 rfl rfl 0 (by decide) lf9 (fun _ h9 => h9) rfl dX7_tokenIs_29 ?_
          refine lv_aload_n hx hb dX7_tokenIs_32 rfl (lv_at hl 0 rfl) ?_
          refine va_get (D := (dC, dI)) (ci := 7) (v := .int tst) (C := RX7) (T := TX7) (N := 4) hx hb hts inX7 hown hK hP 0 rfl rfl 2 (by decide) lf33 (fun _ h9 => h9) rfl dX7_tokenIs_33 ?_
          refine lv_iload_n hx hb dX7_tokenIs_36 rfl (lv_at hl 2 rfl) ?_
          refine lv_iadd hx hb dX7_tokenIs_37 ?_
          have f10 : (tst + y20_2).toInt = (tst.toInt) + (y20_2.toInt) := addC rfl rfl (by omega) (by omega)
          have b11 : vp_in (tst + y20_2) 160 := inC f10 (by omega) (by omega)
          refine va_iald hx hb hK hP 1 0 rfl rfl b11 dX7_tokenIs_38 ?_
          refine lv_aload_n hx hb dX7_tokenIs_39 rfl (lv_at hl 1 rfl) ?_
          refine lv_iload_n hx hb dX7_tokenIs_40 rfl (lv_at hl 2 rfl) ?_
          refine rdVS (As := [.int y20_2]) (rest := [.int (byt (tst + y20_2).toNatClampNeg)]) ⟨hx, hb, hml, hown, hts⟩ (k_J0_charAt_5068e l sk sv sN sf y20_2 (by omega) (by omega) (by omega)) (cwV 1 hts gX7_tokenIs_J0_charAt_5068e rfl rfl rfl (by decide +kernel) ⟨Nat.le_of_ble_eq_true rfl, Nat.le_of_ble_eq_true rfl⟩) hC rfl hl.1 rfl (Nat.le_of_ble_eq_true rfl) dX7_tokenIs_41 ⟨Nat.le_of_ble_eq_true rfl, Nat.le_of_ble_eq_true rfl⟩ (fun r12 h13 => ?_)
          refine lv_icmp_eq (tgt := 49) hx hb dX7_tokenIs_44 (by decide) (fun c14 => ?_) (fun c14 => ?_)
          · have dc14 : (byt (tst + y20_2).toNatClampNeg).toInt = r12.toInt := eqC rfl rfl c14
            obtain ⟨z15, ez15⟩ : ∃ y : Int32, y = y20_2 + 1 := ⟨_, rfl⟩
            have iz15 : z15.toInt = y20_2.toInt + 1 := by rw [ez15]; exact addC rfl rfl (by omega) (by omega)
            refine lv_iinc (v := z15) (lv' := [(2, .int z15), (0, .ref (a 14)), (1, .ref sk)]) hx hb dX7_tokenIs_49 hl (k := 2) rfl (by rw [ez15]; rfl) (by decide) rfl (fun ls hl => ?_)
            refine lv_goto (tgt := 20) hx hb dX7_tokenIs_52 (by decide) ?_
            exact ih20 z15 _ (by omega) (by omega) (by (first | exact tw_step i20_2 (by assumption) (by assumption) (by assumption) (by omega) (by omega) | (intro j hj; omega))) (by omega) (by omega) (lv_sub hl [1, 2, 0] rfl)
          · have dc14 : (byt (tst + y20_2).toNatClampNeg).toInt ≠ r12.toInt := neC rfl rfl c14
            refine lv_iconst (v := 0) hx hb dX7_tokenIs_47 (by decide) ?_
            exact W.zret (v := 0) hx hb hr (by decide) (fun tq ht hW => ⟨0, rfl, (Or.inr (⟨rfl, (show ¬ wdP byt tst.toInt ten.toInt sN sf from by (try rw [show (0 : Int32).toInt = 0 from (show (0 : Int32).toInt = 0 from rfl)]); (first | exact fun h => absurd h.1 (by omega) | exact tw_no (by assumption) (by assumption) (by assumption) (by omega) (by omega) | exact ⟨by omega, fun j hj => i20_2 j (by omega)⟩))⟩)), ht⟩) (fun q h => by cases h) dX7_tokenIs_48
    have kc16 : (0 : Int32).toInt = 0 := rfl
    exact L20 _ 0 _ (by omega) (by omega) (by (first | (intro j hj; omega) | exact tw_step i20_2 (by assumption) (by assumption) (by assumption) (by omega) (by omega))) (by omega) (Nat.lt_succ_self _) (lv_sub hl [1, 2, 0] rfl)
  · have dc5 : (ten.toInt) - (tst.toInt) ≠ r2.toInt := neC f1 rfl c5
    refine lv_iconst (v := 0) hx hb dX7_tokenIs_16 (by decide) ?_
    exact W.zret (v := 0) hx hb hr (by decide) (fun tq ht hW => ⟨0, rfl, (Or.inr (⟨rfl, (show ¬ wdP byt tst.toInt ten.toInt sN sf from by (try rw [show (0 : Int32).toInt = 0 from (show (0 : Int32).toInt = 0 from rfl)]); (first | exact fun h => absurd h.1 (by omega) | exact tw_no (by assumption) (by assumption) (by assumption) (by omega) (by omega) | exact ⟨by omega, fun j hj => i20_2 j (by omega)⟩))⟩)), ht⟩) (fun q h => by cases h) dX7_tokenIs_17
set_option maxHeartbeats 4000000 in
set_option maxRecDepth 100000 in
theorem k_X7_readNumber2 (l : Launch) (dC : Nat → ClassId) (dI : Nat → Nat → Nat) (cI cZ cQ : ClassId) (a : Nat → Nat) (byt : Nat → Int32) (len : Int32) (tst : Int32) (ten : Int32) (sz : Nat) (least : Int32) (most : Int32) (r_len : 0 ≤ len.toInt ∧ len.toInt ≤ 160) (r_tst : 0 ≤ tst.toInt ∧ tst.toInt ≤ 160) (r_ten : 0 ≤ ten.toInt ∧ ten.toInt ≤ 160) (q0 : ten.toInt ≤ len.toInt) : KW l yX7_readNumber wsX7_readNumber { frames := 3, cells := 0, slots := 0, locals := 64 } (dC, dI) (TY cI cZ cQ) (wTxt cI cZ cQ a byt len tst ten) [.ref (a 14), .int least, .int most] sz 0 0 (fun (r : Int32) (u : US) => ((u.1 0 0).toInt ≤ (u.1 1 0).toInt) ∧ ((u.1 1 0).toInt ≤ len.toInt) ∧ (r.toInt = -1 ∨ (least.toInt ≤ r.toInt ∧ r.toInt ≤ most.toInt)) ∧ ((u.1 0 0).toInt = tS byt len.toInt ten.toInt) ∧ ((u.1 1 0).toInt = nx byt len.toInt ten.toInt) ∧ (nuP byt len.toInt ten.toInt least.toInt most.toInt r) ∧ (0 ≤ (u.1 0 0).toInt ∧ (u.1 0 0).toInt ≤ 160) ∧ (0 ≤ (u.1 1 0).toInt ∧ (u.1 1 0).toInt ≤ 160)) (fun u : US => (wTxt cI cZ cQ a byt len (u.1 0 0) (u.1 1 0))) := by
  refine Met.ofW (cc := cX7_readNumber) (maxL := 6) (ret := (some .int)) (by decide) rfl ?_
  intro p e s m args below meth c s₁ B hml hv
  obtain ⟨rfl, hsz, hP, hK, hD0, hN⟩ := hv
  have hx := B.exec
  have hb := B.bytes
  have hr := B.returns
  have hts := atoms_spec (ws := wsX7_readNumber) B.pre
  have hown : s.vm.findClass RX7 = some m.cls := findClass_of_methodNamed B.named
  have hlocks := B.notSynchronized
  have lf26 := hts (.fieldLink RX7 26 "PalaceOfRooms$Text" "tokenEnd" "I") (List.mem_cons_of_mem _ (List.mem_append_left _ (List.mem_of_getElem? (i := 0) rfl)))
  have inX7 : ∀ w ∈ wsX70, w ∈ wsX7_readNumber := fun w h => List.mem_cons_of_mem _ (List.mem_append_right _ h)
  have lf33 := hts (.fieldLink RX7 33 "PalaceOfRooms$Text" "tokenStart" "I") (List.mem_cons_of_mem _ (List.mem_append_left _ (List.mem_of_getElem? (i := 1) rfl)))
  have lf9 := hts (.fieldLink RX7 9 "PalaceOfRooms$Text" "bytes" "[I") (List.mem_cons_of_mem _ (List.mem_append_left _ (List.mem_of_getElem? (i := 2) rfl)))
  subst hsz
  have hD := hD0.self (sz := s.heap.size)
  generalize hAe : va_A (wTxt cI cZ cQ a byt len tst ten) s.heap.size = A at hD ⊢
  have hA : ∀ q : Nat, s.heap.size ≤ q → A q := fun q h => by rw [← hAe]; exact Or.inr h
  have hS : va_S A s.heap s.heap [] := va_S.rf
  have hl := lv_entry ([.ref (a 14), .int least, .int most]) (n := 6) (Nat.le_of_ble_eq_true rfl)
  rw [lg_entry_eq]
  generalize (lg_sl ([.ref (a 14), .int least, .int most]) ++ List.replicate (6 - (lg_sl ([.ref (a 14), .int least, .int most])).length) Slot.unset).toArray = ls at hl ⊢
  have hl : lv_has ls 6 [(0, .ref (a 14)), (1, .int least), (2, .int most)] := hl
  refine lv_aload_n hx hb dX7_readNumber_0 rfl (lv_at hl 0 rfl) ?_
  refine wvV (As := []) (rest := []) (wr := []) (w2 := (fun u : US => (wTxt cI cZ cQ a byt len (u.1 0 0) (u.1 1 0)))) ⟨hx, hb, hml, hown, hts⟩ (k_X7_nextToken2 l dC dI cI cZ cQ a byt len tst ten _ r_len r_tst r_ten (by omega)) (cwV 0 hts gX7_readNumber_X7_nextToken rfl rfl rfl (by decide +kernel) ⟨Nat.le_of_ble_eq_true rfl, Nat.le_of_ble_eq_true rfl⟩) hP hD hS hA hK hN [0, 1] [] [0, 1] rfl rfl (by decide) (by decide) (by decide) (fun _ => rfl) (by decide) 0 7 rfl rfl rfl hl.1 rfl (Nat.le_of_ble_eq_true rfl) dX7_readNumber_1 ⟨Nat.le_of_ble_eq_true rfl, Nat.le_of_ble_eq_true rfl⟩ (fun u3 H locs h2 hP hD hS => ?_)
  obtain ⟨tst_c4, etst_c4⟩ : ∃ f : Int32, f = (u3.1 0 0) := ⟨_, rfl⟩
  obtain ⟨ten_c5, eten_c5⟩ : ∃ f : Int32, f = (u3.1 1 0) := ⟨_, rfl⟩
  have hP : va_P (dC, dI) vwCl (wTxt cI cZ cQ a byt len tst_c4 ten_c5) H := by rw [etst_c4, eten_c5]; exact hP
  have hD : va_D A (wTxt cI cZ cQ a byt len tst_c4 ten_c5) := by rw [etst_c4, eten_c5]; exact hD
  have h2 : (tst_c4.toInt ≤ ten_c5.toInt) ∧ (ten_c5.toInt ≤ len.toInt) ∧ (tst_c4.toInt = tS byt len.toInt ten.toInt) ∧ (ten_c5.toInt = tE byt len.toInt tst_c4.toInt) ∧ (0 ≤ tst_c4.toInt ∧ tst_c4.toInt ≤ 160) ∧ (0 ≤ ten_c5.toInt ∧ ten_c5.toInt ≤ 160) := by (try rw [etst_c4]); (try rw [eten_c5]); exact h2
  obtain ⟨h2_0, h2_1, h2_2, h2_3, h2_4, h2_5⟩ := h2
  refine lv_aload_n hx hb dX7_readNumber_4 rfl (lv_at hl 0 rfl) ?_
  refine va_get (D := (dC, dI)) (ci := 7) (v := .int ten_c5) (C := RX7) (T := TX7) (N := 4) hx hb hts inX7 hown hK hP 0 rfl rfl 3 (by decide) lf26 (fun _ h9 => h9) rfl dX7_readNumber_5 ?_
  refine lv_aload_n hx hb dX7_readNumber_8 rfl (lv_at hl 0 rfl) ?_
  refine va_get (D := (dC, dI)) (ci := 7) (v := .int tst_c4) (C := RX7) (T := TX7) (N := 4) hx hb hts inX7 hown hK hP 0 rfl rfl 2 (by decide) lf33 (fun _ h9 => h9) rfl dX7_readNumber_9 ?_
  refine lv_isub hx hb dX7_readNumber_12 ?_
  have f6 : (ten_c5 - tst_c4).toInt = (ten_c5.toInt) - (tst_c4.toInt) := subC rfl rfl (by omega) (by omega)
  refine lv_topi (fun x7 ex7 => ?_)
  have ix7 : x7.toInt = (ten_c5.toInt) - (tst_c4.toInt) := by rw [ex7]; exact f6
  refine lv_istore_n (lv' := [(3, .int x7), (0, .ref (a 14)), (1, .int least), (2, .int most)]) hx hb dX7_readNumber_13 rfl hl (by decide) rfl (fun ls hl => ?_)
  refine lv_iload_n hx hb dX7_readNumber_14 rfl (lv_at hl 0 rfl) ?_
  refine lv_iconst (v := 1) hx hb dX7_readNumber_15 (by decide) ?_
  refine lv_icmp_lt (tgt := 40) hx hb dX7_readNumber_16 (by decide) (fun c8 => ?_) (fun c8 => ?_)
  · have dc8 : x7.toInt < 1 := ltC rfl (show (1 : Int32).toInt = 1 from rfl) c8
    refine lv_iconst (v := (-1)) hx hb dX7_readNumber_40 (by decide) ?_
    exact W.iret (v := (-1)) hx hb hr (fun tq ht hW => ⟨⟨(-1), (uS [(fun _ => tst_c4), (fun _ => ten_c5)] 0 (fun _ => 0)), rfl, ⟨(show tst_c4.toInt ≤ ten_c5.toInt from by (try rw [show ((-1) : Int32).toInt = (-1) from (show ((-1) : Int32).toInt = (-1) from rfl)]); omega), (show ten_c5.toInt ≤ len.toInt from by (try rw [show ((-1) : Int32).toInt = (-1) from (show ((-1) : Int32).toInt = (-1) from rfl)]); omega), (show ((-1) : Int32).toInt = -1 ∨ (least.toInt ≤ ((-1) : Int32).toInt ∧ ((-1) : Int32).toInt ≤ most.toInt) from by (try rw [show ((-1) : Int32).toInt = (-1) from (show ((-1) : Int32).toInt = (-1) from rfl)]); omega), (show tst_c4.toInt = tS byt len.toInt ten.toInt from by (try rw [show ((-1) : Int32).toInt = (-1) from (show ((-1) : Int32).toInt = (-1) from rfl)]); assumption), (show ten_c5.toInt = nx byt len.toInt ten.toInt from by (try rw [show ((-1) : Int32).toInt = (-1) from (show ((-1) : Int32).toInt = (-1) from rfl)]); exact nx_of (by assumption) (by assumption)), (show nuP byt len.toInt ten.toInt least.toInt most.toInt ((-1) : Int32) from by (try rw [show ((-1) : Int32).toInt = (-1) from (show ((-1) : Int32).toInt = (-1) from rfl)]); (first | exact nu_n1 (by assumption) (nx_of (by assumption) (by assumption)) (by omega) | exact nu_n2 (by assumption) (nx_of (by assumption) (by assumption)) (by assumption) (by omega) | exact nu_ok (by assumption) (nx_of (by assumption) (by assumption)) i51_2 (by omega) (by assumption) (by omega) (by omega) (by omega) | exact nu_n3 (by assumption) (nx_of (by assumption) (by assumption)) i51_2 (by omega) (by omega))), h2_4, h2_5⟩, by rw [ht]; exact hP, hD⟩, hS.F ht⟩) hS.2.2 dX7_readNumber_41
  · have dc8 : 1 ≤ x7.toInt := nltC rfl (show (1 : Int32).toInt = 1 from rfl) c8
    refine lv_iload_n hx hb dX7_readNumber_19 rfl (lv_at hl 0 rfl) ?_
    refine lv_iconst (v := 2) hx hb dX7_readNumber_20 (by decide) ?_
    refine lv_icmp_gt (tgt := 40) hx hb dX7_readNumber_21 (by decide) (fun c9 => ?_) (fun c9 => ?_)
    · have dc9 : 2 < x7.toInt := ltC (show (2 : Int32).toInt = 2 from rfl) rfl c9
      refine lv_iconst (v := (-1)) hx hb dX7_readNumber_40 (by decide) ?_
      exact W.iret (v := (-1)) hx hb hr (fun tq ht hW => ⟨⟨(-1), (uS [(fun _ => tst_c4), (fun _ => ten_c5)] 0 (fun _ => 0)), rfl, ⟨(show tst_c4.toInt ≤ ten_c5.toInt from by (try rw [show ((-1) : Int32).toInt = (-1) from (show ((-1) : Int32).toInt = (-1) from rfl)]); omega), (show ten_c5.toInt ≤ len.toInt from by (try rw [show ((-1) : Int32).toInt = (-1) from (show ((-1) : Int32).toInt = (-1) from rfl)]); omega), (show ((-1) : Int32).toInt = -1 ∨ (least.toInt ≤ ((-1) : Int32).toInt ∧ ((-1) : Int32).toInt ≤ most.toInt) from by (try rw [show ((-1) : Int32).toInt = (-1) from (show ((-1) : Int32).toInt = (-1) from rfl)]); omega), (show tst_c4.toInt = tS byt len.toInt ten.toInt from by (try rw [show ((-1) : Int32).toInt = (-1) from (show ((-1) : Int32).toInt = (-1) from rfl)]); assumption), (show ten_c5.toInt = nx byt len.toInt ten.toInt from by (try rw [show ((-1) : Int32).toInt = (-1) from (show ((-1) : Int32).toInt = (-1) from rfl)]); exact nx_of (by assumption) (by assumption)), (show nuP byt len.toInt ten.toInt least.toInt most.toInt ((-1) : Int32) from by (try rw [show ((-1) : Int32).toInt = (-1) from (show ((-1) : Int32).toInt = (-1) from rfl)]); (first | exact nu_n1 (by assumption) (nx_of (by assumption) (by assumption)) (by omega) | exact nu_n2 (by assumption) (nx_of (by assumption) (by assumption)) (by assumption) (by omega) | exact nu_ok (by assumption) (nx_of (by assumption) (by assumption)) i51_2 (by omega) (by assumption) (by omega) (by omega) (by omega) | exact nu_n3 (by assumption) (nx_of (by assumption) (by assumption)) i51_2 (by omega) (by omega))), h2_4, h2_5⟩, by rw [ht]; exact hP, hD⟩, hS.F ht⟩) hS.2.2 dX7_readNumber_41
    · have dc9 : x7.toInt ≤ 2 := nltC (show (2 : Int32).toInt = 2 from rfl) rfl c9
      refine lv_aload_n hx hb dX7_readNumber_24 rfl (lv_at hl 1 rfl) ?_
      refine va_get (D := (dC, dI)) (ci := 7) (v := .ref (a 15)) (C := RX7) (T := TX7) (N := 4) hx hb hts inX7 hown hK hP 0 rfl rfl 0 (by decide) lf9 (fun _ h9 => h9) rfl dX7_readNumber_25 ?_
      refine lv_aload_n hx hb dX7_readNumber_28 rfl (lv_at hl 1 rfl) ?_
      refine va_get (D := (dC, dI)) (ci := 7) (v := .int tst_c4) (C := RX7) (T := TX7) (N := 4) hx hb hts inX7 hown hK hP 0 rfl rfl 2 (by decide) lf33 (fun _ h9 => h9) rfl dX7_readNumber_29 ?_
      have b10 : vp_in tst_c4 160 := inC rfl (by omega) (by omega)
      refine va_iald hx hb hK hP 1 0 rfl rfl b10 dX7_readNumber_32 ?_
      refine rdS (As := [.int (byt tst_c4.toNatClampNeg)]) (rest := []) ⟨hx, hb, hml, hown, hts⟩ (k_X7_kindOf2 l dC dI cI cZ cQ (byt tst_c4.toNatClampNeg)) (va_cwS 1 hts gX7_readNumber_X7_kindOf rfl rfl rfl (by decide +kernel) ⟨Nat.le_of_ble_eq_true rfl, Nat.le_of_ble_eq_true rfl⟩) hP hK hN [] rfl rfl hl.1 rfl (Nat.le_of_ble_eq_true rfl) dX7_readNumber_33 ⟨Nat.le_of_ble_eq_true rfl, Nat.le_of_ble_eq_true rfl⟩ (fun r11 h12 => ?_)
      have h12 : (1 ≤ r11.toInt) ∧ (r11.toInt ≤ 3) ∧ (r11.toInt = knd (byt tst_c4.toNatClampNeg)) := h12
      obtain ⟨h12_0, h12_1, h12_2⟩ := h12
      refine lv_iconst (v := 2) hx hb dX7_readNumber_36 (by decide) ?_
      refine lv_icmp_eq (tgt := 42) hx hb dX7_readNumber_37 (by decide) (fun c13 => ?_) (fun c13 => ?_)
      · have dc13 : r11.toInt = 2 := eqC rfl (show (2 : Int32).toInt = 2 from rfl) c13
        refine lv_iconst (v := 0) hx hb dX7_readNumber_42 (by decide) ?_
        refine lv_istore (lv' := [(4, .int 0), (3, .int x7), (0, .ref (a 14)), (1, .int least), (2, .int most)]) hx hb dX7_readNumber_43 hl (by decide) rfl (fun ls hl => ?_)
        refine lv_aload_n hx hb dX7_readNumber_45 rfl (lv_at hl 2 rfl) ?_
        refine va_get (D := (dC, dI)) (ci := 7) (v := .int tst_c4) (C := RX7) (T := TX7) (N := 4) hx hb hts inX7 hown hK hP 0 rfl rfl 2 (by decide) lf33 (fun _ h9 => h9) rfl dX7_readNumber_46 ?_
        refine lv_istore (lv' := [(5, .int tst_c4), (4, .int 0), (3, .int x7), (0, .ref (a 14)), (1, .int least), (2, .int most)]) hx hb dX7_readNumber_49 hl (by decide) rfl (fun ls hl => ?_)
        have L51 : ∀ (nn : Nat) (y51_4 : Int32) (y51_5 : Int32) (H : Heap) (locs : List Loc) (ls : Array Slot), (0 ≤ (y51_5.toInt)) → ((y51_5.toInt) ≤ 160) → (y51_4 = nvF byt tst_c4.toInt ((y51_5.toInt) - tst_c4.toInt).toNat) → (tst_c4.toInt ≤ (y51_5.toInt)) → ((y51_5.toInt) ≤ ten_c5.toInt) → (160 - (y51_5.toInt)).toNat < nn → va_P (dC, dI) vwCl (wTxt cI cZ cQ a byt len tst_c4 ten_c5) H → va_D A (wTxt cI cZ cQ a byt len tst_c4 ten_c5) → va_S A s.heap H locs → lv_has ls 6 [(0, .ref (a 14)), (1, .int least), (2, .int most), (4, .int y51_4), (5, .int y51_5)] → W p l e (headSpec wsX7_readNumber { frames := 3, cells := 0, slots := 0, locals := 64 }).room s m ([.ref (a 14), .int least, .int most] : List Value).toArray below meth c H locs 0 0 (MQ below (va_Qi (fun (r : Int32) (u : US) => ((u.1 0 0).toInt ≤ (u.1 1 0).toInt) ∧ ((u.1 1 0).toInt ≤ len.toInt) ∧ (r.toInt = -1 ∨ (least.toInt ≤ r.toInt ∧ r.toInt ≤ most.toInt)) ∧ ((u.1 0 0).toInt = tS byt len.toInt ten.toInt) ∧ ((u.1 1 0).toInt = nx byt len.toInt ten.toInt) ∧ (nuP byt len.toInt ten.toInt least.toInt most.toInt r) ∧ (0 ≤ (u.1 0 0).toInt ∧ (u.1 0 0).toInt ≤ 160) ∧ (0 ≤ (u.1 1 0).toInt ∧ (u.1 1 0).toInt ≤ 160)) (Bw (dC, dI) A (fun u : US => (wTxt cI cZ cQ a byt len (u.1 0 0) (u.1 1 0)))) A) ([.ref (a 14), .int least, .int most] : List Value).toArray s 0 0 A) (F0 m 51 ls []) := by
          intro nn
          induction nn with
          | zero =>
            intro y51_4 y51_5 H locs ls i51_0 i51_1 i51_2 i51_3 i51_4 hm51
            exact absurd hm51 (Nat.not_lt_zero _)
          | succ nn ih51 =>
            intro y51_4 y51_5 H locs ls i51_0 i51_1 i51_2 i51_3 i51_4 hm51 hP hD hS hl
            refine lv_iload hx hb dX7_readNumber_51 (lv_at hl 4 rfl) ?_
            refine lv_aload_n hx hb dX7_readNumber_53 rfl (lv_at hl 0 rfl) ?_
            refine va_get (D := (dC, dI)) (ci := 7) (v := .int ten_c5) (C := RX7) (T := TX7) (N := 4) hx hb hts inX7 hown hK hP 0 rfl rfl 3 (by decide) lf26 (fun _ h9 => h9) rfl dX7_readNumber_54 ?_
            refine lv_icmp_ge (tgt := 84) hx hb dX7_readNumber_57 (by decide) (fun c14 => ?_) (fun c14 => ?_)
            · have dc14 : ten_c5.toInt ≤ y51_5.toInt := leC rfl rfl c14
              refine lv_iload hx hb dX7_readNumber_84 (lv_at hl 3 rfl) ?_
              refine lv_iload_n hx hb dX7_readNumber_86 rfl (lv_at hl 1 rfl) ?_
              refine lv_iload_n hx hb dX7_readNumber_87 rfl (lv_at hl 2 rfl) ?_
              refine rdSN (As := [.int y51_4, .int least, .int most]) (rest := []) ⟨hx, hb, hml, hown, hts⟩ (k_X9_within l dC dI cI cZ cQ y51_4 least most) ⟨va_cnB (host := "PalaceOfRooms") 3 hts gX7_readNumber_X9_within_n80 rfl rfl rfl (hN _ (by decide +kernel)) (hts (.initialized RX9) (List.mem_cons_of_mem _ (List.mem_append_left _ (List.mem_of_getElem? (i := 13) rfl)))) (by decide +kernel) ⟨Nat.le_of_ble_eq_true rfl, Nat.le_of_ble_eq_true rfl⟩, hts (.static yX9_within) (List.mem_cons_of_mem _ (List.mem_append_left _ (List.mem_of_getElem? (i := 12) rfl))), trivial⟩ hP hK hN [] rfl rfl hl.1 rfl (Nat.le_of_ble_eq_true rfl) dX7_readNumber_88 ⟨Nat.le_of_ble_eq_true rfl, Nat.le_of_ble_eq_true rfl⟩ (fun r15 h16 => ?_)
              have h16 : ((((r15 = 1) ∧ (least.toInt ≤ y51_4.toInt) ∧ (y51_4.toInt ≤ most.toInt)) ∨ ((r15 = 0) ∧ (y51_4.toInt < least.toInt ∨ most.toInt < y51_4.toInt)))) := h16
              rcases h16 with (⟨rfl, h16_a0, h16_a1⟩ | ⟨rfl, h16_a0⟩)
              · refine lv_if_eq (tgt := 99) hx hb dX7_readNumber_91 (by decide) (fun c9 => absurd c9 (by decide)) (fun _ => ?_)
                refine lv_iload hx hb dX7_readNumber_94 (lv_at hl 3 rfl) ?_
                refine lv_goto (tgt := 100) hx hb dX7_readNumber_96 (by decide) ?_
                exact W.iret (v := y51_4) hx hb hr (fun tq ht hW => ⟨⟨y51_4, (uS [(fun _ => tst_c4), (fun _ => ten_c5)] 0 (fun _ => 0)), rfl, ⟨(show tst_c4.toInt ≤ ten_c5.toInt from by omega), (show ten_c5.toInt ≤ len.toInt from by omega), (show y51_4.toInt = -1 ∨ (least.toInt ≤ y51_4.toInt ∧ y51_4.toInt ≤ most.toInt) from by omega), (show tst_c4.toInt = tS byt len.toInt ten.toInt from by assumption), (show ten_c5.toInt = nx byt len.toInt ten.toInt from by exact nx_of (by assumption) (by assumption)), (show nuP byt len.toInt ten.toInt least.toInt most.toInt y51_4 from by (first | exact nu_n1 (by assumption) (nx_of (by assumption) (by assumption)) (by omega) | exact nu_n2 (by assumption) (nx_of (by assumption) (by assumption)) (by assumption) (by omega) | exact nu_ok (by assumption) (nx_of (by assumption) (by assumption)) i51_2 (by omega) (by assumption) (by omega) (by omega) (by omega) | exact nu_n3 (by assumption) (nx_of (by assumption) (by assumption)) i51_2 (by omega) (by omega))), h2_4, h2_5⟩, by rw [ht]; exact hP, hD⟩, hS.F ht⟩) hS.2.2 dX7_readNumber_100
              · refine lv_if_eq (tgt := 99) hx hb dX7_readNumber_91 (by decide) (fun _ => ?_) (fun c9 => absurd (by decide) c9)
                refine lv_iconst (v := (-1)) hx hb dX7_readNumber_99 (by decide) ?_
                exact W.iret (v := (-1)) hx hb hr (fun tq ht hW => ⟨⟨(-1), (uS [(fun _ => tst_c4), (fun _ => ten_c5)] 0 (fun _ => 0)), rfl, ⟨(show tst_c4.toInt ≤ ten_c5.toInt from by (try rw [show ((-1) : Int32).toInt = (-1) from (show ((-1) : Int32).toInt = (-1) from rfl)]); omega), (show ten_c5.toInt ≤ len.toInt from by (try rw [show ((-1) : Int32).toInt = (-1) from (show ((-1) : Int32).toInt = (-1) from rfl)]); omega), (show ((-1) : Int32).toInt = -1 ∨ (least.toInt ≤ ((-1) : Int32).toInt ∧ ((-1) : Int32).toInt ≤ most.toInt) from by (try rw [show ((-1) : Int32).toInt = (-1) from (show ((-1) : Int32).toInt = (-1) from rfl)]); omega), (show tst_c4.toInt = tS byt len.toInt ten.toInt from by (try rw [show ((-1) : Int32).toInt = (-1) from (show ((-1) : Int32).toInt = (-1) from rfl)]); assumption), (show ten_c5.toInt = nx byt len.toInt ten.toInt from by (try rw [show ((-1) : Int32).toInt = (-1) from (show ((-1) : Int32).toInt = (-1) from rfl)]); exact nx_of (by assumption) (by assumption)), (show nuP byt len.toInt ten.toInt least.toInt most.toInt ((-1) : Int32) from by (try rw [show ((-1) : Int32).toInt = (-1) from (show ((-1) : Int32).toInt = (-1) from rfl)]); (first | exact nu_n1 (by assumption) (nx_of (by assumption) (by assumption)) (by omega) | exact nu_n2 (by assumption) (nx_of (by assumption) (by assumption)) (by assumption) (by omega) | exact nu_ok (by assumption) (nx_of (by assumption) (by assumption)) i51_2 (by omega) (by assumption) (by omega) (by omega) (by omega) | exact nu_n3 (by assumption) (nx_of (by assumption) (by assumption)) i51_2 (by omega) (by omega))), h2_4, h2_5⟩, by rw [ht]; exact hP, hD⟩, hS.F ht⟩) hS.2.2 dX7_readNumber_100
            · have dc14 : y51_5.toInt < ten_c5.toInt := nleC rfl rfl c14
              refine lv_iload hx hb dX7_readNumber_60 (lv_at hl 3 rfl) ?_
              refine lv_bipush (v := 10) hx hb dX7_readNumber_62 (by decide) ?_
              refine lv_imul hx hb dX7_readNumber_64 ?_
              refine lv_aload_n hx hb dX7_readNumber_65 rfl (lv_at hl 0 rfl) ?_
              refine va_get (D := (dC, dI)) (ci := 7) (v := .ref (a 15)) (C := RX7) (T := TX7) (N := 4) hx hb hts inX7 hown hK hP 0 rfl rfl 0 (by decide) lf9 (fun _ h9 => h9) rfl dX7_readNumber_66 ?_
              refine lv_iload hx hb dX7_readNumber_69 (lv_at hl 4 rfl) ?_
              have b17 : vp_in y51_5 160 := inC rfl (by omega) (by omega)
              refine va_iald hx hb hK hP 1 0 rfl rfl b17 dX7_readNumber_71 ?_
              refine lv_iadd hx hb dX7_readNumber_72 ?_
              refine lv_bipush (v := 48) hx hb dX7_readNumber_73 (by decide) ?_
              refine lv_isub hx hb dX7_readNumber_75 ?_
              refine lv_topi (fun x18 ex18 => ?_)
              have ix18 : x18.toInt = (((y51_4 * 10) + (byt y51_5.toNatClampNeg)) - 48).toInt := by rw [ex18]
              refine lv_istore (lv' := [(4, .int x18), (0, .ref (a 14)), (1, .int least), (2, .int most), (5, .int y51_5)]) hx hb dX7_readNumber_76 hl (by decide) rfl (fun ls hl => ?_)
              obtain ⟨z19, ez19⟩ : ∃ y : Int32, y = y51_5 + 1 := ⟨_, rfl⟩
              have iz19 : z19.toInt = y51_5.toInt + 1 := by rw [ez19]; exact addC rfl rfl (by omega) (by omega)
              refine lv_iinc (v := z19) (lv' := [(5, .int z19), (4, .int x18), (0, .ref (a 14)), (1, .int least), (2, .int most)]) hx hb dX7_readNumber_78 hl (k := 4) rfl (by rw [ez19]; rfl) (by decide) rfl (fun ls hl => ?_)
              refine lv_goto (tgt := 51) hx hb dX7_readNumber_81 (by decide) ?_
              exact ih51 x18 z19 _ _ _ (by omega) (by omega) (by (first | exact nv_stepC (y := y51_5) i51_2 (by omega) (by omega) (by assumption) | exact nv_zero (by omega))) (by omega) (by omega) (by omega) hP hD hS (lv_sub hl [2, 3, 4, 1, 0] rfl)
        have kc20 : (0 : Int32).toInt = 0 := rfl
        exact L51 _ 0 tst_c4 _ _ _ (by omega) (by omega) (by (first | exact nv_zero (by omega) | exact nv_stepC (y := y51_5) i51_2 (by omega) (by omega) (by assumption))) (by omega) (by omega) (Nat.lt_succ_self _) hP hD hS (lv_sub hl [3, 4, 5, 1, 0] rfl)
      · have dc13 : r11.toInt ≠ 2 := neC rfl (show (2 : Int32).toInt = 2 from rfl) c13
        refine lv_iconst (v := (-1)) hx hb dX7_readNumber_40 (by decide) ?_
        exact W.iret (v := (-1)) hx hb hr (fun tq ht hW => ⟨⟨(-1), (uS [(fun _ => tst_c4), (fun _ => ten_c5)] 0 (fun _ => 0)), rfl, ⟨(show tst_c4.toInt ≤ ten_c5.toInt from by (try rw [show ((-1) : Int32).toInt = (-1) from (show ((-1) : Int32).toInt = (-1) from rfl)]); omega), (show ten_c5.toInt ≤ len.toInt from by (try rw [show ((-1) : Int32).toInt = (-1) from (show ((-1) : Int32).toInt = (-1) from rfl)]); omega), (show ((-1) : Int32).toInt = -1 ∨ (least.toInt ≤ ((-1) : Int32).toInt ∧ ((-1) : Int32).toInt ≤ most.toInt) from by (try rw [show ((-1) : Int32).toInt = (-1) from (show ((-1) : Int32).toInt = (-1) from rfl)]); omega), (show tst_c4.toInt = tS byt len.toInt ten.toInt from by (try rw [show ((-1) : Int32).toInt = (-1) from (show ((-1) : Int32).toInt = (-1) from rfl)]); assumption), (show ten_c5.toInt = nx byt len.toInt ten.toInt from by (try rw [show ((-1) : Int32).toInt = (-1) from (show ((-1) : Int32).toInt = (-1) from rfl)]); exact nx_of (by assumption) (by assumption)), (show nuP byt len.toInt ten.toInt least.toInt most.toInt ((-1) : Int32) from by (try rw [show ((-1) : Int32).toInt = (-1) from (show ((-1) : Int32).toInt = (-1) from rfl)]); (first | exact nu_n1 (by assumption) (nx_of (by assumption) (by assumption)) (by omega) | exact nu_n2 (by assumption) (nx_of (by assumption) (by assumption)) (by assumption) (by omega) | exact nu_ok (by assumption) (nx_of (by assumption) (by assumption)) i51_2 (by omega) (by assumption) (by omega) (by omega) (by omega) | exact nu_n3 (by assumption) (nx_of (by assumption) (by assumption)) i51_2 (by omega) (by omega))), h2_4, h2_5⟩, by rw [ht]; exact hP, hD⟩, hS.F ht⟩) hS.2.2 dX7_readNumber_41
set_option maxHeartbeats 4000000 in
set_option maxRecDepth 100000 in
theorem k_X7_readRoomLine2 (l : Launch) (dC : Nat → ClassId) (dI : Nat → Nat → Nat) (cI cZ cQ : ClassId) (a : Nat → Nat) (rb0 : Nat) (rb1 : Nat) (rb2 : Nat) (byt : Nat → Int32) (len : Int32) (tst : Int32) (ten : Int32) (mos : Nat → Int32) (wev : Nat → Int32) (aga : Int32) (apa : Int32) (lin : Int32) (sz : Nat) (r_len : 0 ≤ len.toInt ∧ len.toInt ≤ 160) (r_tst : 0 ≤ tst.toInt ∧ tst.toInt ≤ 160) (r_ten : 0 ≤ ten.toInt ∧ ten.toInt ≤ 160) (q0 : ten.toInt ≤ len.toInt) : KW l yX7_readRoomLine wsX7_readRoomLine { frames := 4, cells := 0, slots := 0, locals := 89 } (dC, dI) (TY cI cZ cQ) (wTxR cI cZ cQ a rb0 rb1 rb2 byt len tst ten mos wev aga apa lin) [.ref (a 14), .ref rb0] sz 0 0 (fun (r : Int32) (u : US) => ((((r = 1) ∧ (∃ x y : Int32, rmT byt len.toInt ten.toInt x y (u.1 0 0).toInt (u.1 1 0).toInt ∧ (u.1 2) = upd mos x.toNatClampNeg y)) ∨ ((r = 0) ∧ (rmN byt len.toInt ten.toInt (u.1 0 0).toInt)))) ∧ ((u.1 0 0).toInt ≤ (u.1 1 0).toInt) ∧ ((u.1 1 0).toInt ≤ len.toInt) ∧ (0 ≤ (u.1 0 0).toInt ∧ (u.1 0 0).toInt ≤ 160) ∧ (0 ≤ (u.1 1 0).toInt ∧ (u.1 1 0).toInt ≤ 160)) (fun u : US => (wTxR cI cZ cQ a rb0 rb1 rb2 byt len (u.1 0 0) (u.1 1 0) (u.1 2) wev aga apa lin)) := by
  refine Met.ofW (cc := cX7_readRoomLine) (maxL := 3) (ret := (some .boolean)) (by decide) rfl ?_
  intro p e s m args below meth c s₁ B hml hv
  obtain ⟨rfl, hsz, hP, hK, hD0, hN⟩ := hv
  have hx := B.exec
  have hb := B.bytes
  have hr := B.returns
  have hts := atoms_spec (ws := wsX7_readRoomLine) B.pre
  have hown : s.vm.findClass RX7 = some m.cls := findClass_of_methodNamed B.named
  have hlocks := B.notSynchronized
  have lf68 := hN.use (w := .fieldLinkNest "PalaceOfRooms$Text" 68 "PalaceOfRooms$RuleBook" "mostIn" "[I" "PalaceOfRooms") (List.mem_of_getElem? (i := 21) rfl) ([.ref (a 14), .ref rb0] : List Value).toArray
  have inX5 : ∀ w ∈ wsX50, w ∈ wsX7_readRoomLine := fun w h => List.mem_cons_of_mem _ (List.mem_append_left _ (List.mem_append_right _ h))
  subst hsz
  have hD := hD0.self (sz := s.heap.size)
  generalize hAe : va_A (wTxR cI cZ cQ a rb0 rb1 rb2 byt len tst ten mos wev aga apa lin) s.heap.size = A at hD ⊢
  have hA : ∀ q : Nat, s.heap.size ≤ q → A q := fun q h => by rw [← hAe]; exact Or.inr h
  have hS : va_S A s.heap s.heap [] := va_S.rf
  have hl := lv_entry ([.ref (a 14), .ref rb0]) (n := 3) (Nat.le_of_ble_eq_true rfl)
  rw [lg_entry_eq]
  generalize (lg_sl ([.ref (a 14), .ref rb0]) ++ List.replicate (3 - (lg_sl ([.ref (a 14), .ref rb0])).length) Slot.unset).toArray = ls at hl ⊢
  have hl : lv_has ls 3 [(0, .ref (a 14)), (1, .ref rb0)] := hl
  refine lv_aload_n hx hb dX7_readRoomLine_0 rfl (lv_at hl 0 rfl) ?_
  refine lv_iconst (v := 0) hx hb dX7_readRoomLine_1 (by decide) ?_
  refine lv_bipush (v := 7) hx hb dX7_readRoomLine_2 (by decide) ?_
  refine wrV (As := [.int 0, .int 7]) (rest := []) (wr := [(rb0, .inr (5, [.ref rb1, .ref rb2, .int aga, .int apa, .int lin])), (rb1, .inl (cI, 8, .inl mos)), (rb2, .inl (cI, 8, .inl wev))]) (w2 := (fun u : US => (wTxR cI cZ cQ a rb0 rb1 rb2 byt len (u.1 0 0) (u.1 1 0) mos wev aga apa lin))) ⟨hx, hb, hml, hown, hts⟩ (k_X7_readNumber2 l dC dI cI cZ cQ a byt len tst ten _ (0 : Int32) (7 : Int32) r_len r_tst r_ten (by omega)) (cwV 2 hts gX7_readRoomLine_X7_readNumber rfl rfl rfl (by decide +kernel) ⟨Nat.le_of_ble_eq_true rfl, Nat.le_of_ble_eq_true rfl⟩) hP hD hS hA hK hN [0, 1] [2, 3, 4] [3, 4, 0, 1, 2] rfl rfl (by decide) (by decide) (by decide) (fun _ => rfl) (by decide) 0 7 rfl rfl rfl hl.1 rfl (Nat.le_of_ble_eq_true rfl) dX7_readRoomLine_4 ⟨Nat.le_of_ble_eq_true rfl, Nat.le_of_ble_eq_true rfl⟩ (fun r1 u3 H locs h2 hP hD hS => ?_)
  obtain ⟨tst_c4, etst_c4⟩ : ∃ f : Int32, f = (u3.1 0 0) := ⟨_, rfl⟩
  obtain ⟨ten_c5, eten_c5⟩ : ∃ f : Int32, f = (u3.1 1 0) := ⟨_, rfl⟩
  have hP : va_P (dC, dI) vwCl (wTxR cI cZ cQ a rb0 rb1 rb2 byt len tst_c4 ten_c5 mos wev aga apa lin) H := by rw [etst_c4, eten_c5]; exact hP
  have hD : va_D A (wTxR cI cZ cQ a rb0 rb1 rb2 byt len tst_c4 ten_c5 mos wev aga apa lin) := by rw [etst_c4, eten_c5]; exact hD
  have h2 : (tst_c4.toInt ≤ ten_c5.toInt) ∧ (ten_c5.toInt ≤ len.toInt) ∧ (r1.toInt = -1 ∨ ((0) ≤ r1.toInt ∧ r1.toInt ≤ (7))) ∧ (tst_c4.toInt = tS byt len.toInt ten.toInt) ∧ (ten_c5.toInt = nx byt len.toInt ten.toInt) ∧ (nuP byt len.toInt ten.toInt (0) (7) r1) ∧ (0 ≤ tst_c4.toInt ∧ tst_c4.toInt ≤ 160) ∧ (0 ≤ ten_c5.toInt ∧ ten_c5.toInt ≤ 160) := by (try rw [etst_c4]); (try rw [eten_c5]); exact h2
  obtain ⟨h2_0, h2_1, h2_2, h2_3, h2_4, h2_5, h2_6, h2_7⟩ := h2
  refine lv_istore_n (lv' := [(2, .int r1), (0, .ref (a 14)), (1, .ref rb0)]) hx hb dX7_readRoomLine_7 rfl hl (by decide) rfl (fun ls hl => ?_)
  refine lv_iload_n hx hb dX7_readRoomLine_8 rfl (lv_at hl 0 rfl) ?_
  refine lv_iconst (v := (-1)) hx hb dX7_readRoomLine_9 (by decide) ?_
  refine lv_icmp_ne (tgt := 15) hx hb dX7_readRoomLine_10 (by decide) (fun c6 => ?_) (fun c6 => ?_)
  · have dc6 : r1.toInt ≠ (-1) := neC rfl (show ((-1) : Int32).toInt = (-1) from rfl) c6
    refine lv_aload_n hx hb dX7_readRoomLine_15 rfl (lv_at hl 2 rfl) ?_
    refine va_getN (D := (dC, dI)) (ci := 5) (v := .ref rb1) (C := RX5) (T := TX5) (N := 5) hx hb hts inX5 hown hK hP 2 rfl rfl 0 (by decide) lf68 (fun _ h9 => h9) rfl dX7_readRoomLine_16 ?_
    refine lv_iload_n hx hb dX7_readRoomLine_19 rfl (lv_at hl 0 rfl) ?_
    refine lv_aload_n hx hb dX7_readRoomLine_20 rfl (lv_at hl 1 rfl) ?_
    refine lv_iconst (v := 0) hx hb dX7_readRoomLine_21 (by decide) ?_
    refine lv_bipush (v := 8) hx hb dX7_readRoomLine_22 (by decide) ?_
    refine wrV (As := [.int 0, .int 8]) (rest := [.int r1, .ref rb1]) (wr := [(rb0, .inr (5, [.ref rb1, .ref rb2, .int aga, .int apa, .int lin])), (rb1, .inl (cI, 8, .inl mos)), (rb2, .inl (cI, 8, .inl wev))]) (w2 := (fun u : US => (wTxR cI cZ cQ a rb0 rb1 rb2 byt len (u.1 0 0) (u.1 1 0) mos wev aga apa lin))) ⟨hx, hb, hml, hown, hts⟩ (k_X7_readNumber2 l dC dI cI cZ cQ a byt len tst_c4 ten_c5 _ (0 : Int32) (8 : Int32) r_len h2_6 h2_7 (by omega)) (cwV 2 hts gX7_readRoomLine_X7_readNumber rfl rfl rfl (by decide +kernel) ⟨Nat.le_of_ble_eq_true rfl, Nat.le_of_ble_eq_true rfl⟩) hP hD hS hA hK hN [0, 1] [2, 3, 4] [3, 4, 0, 1, 2] rfl rfl (by decide) (by decide) (by decide) (fun _ => rfl) (by decide) 0 7 rfl rfl rfl hl.1 rfl (Nat.le_of_ble_eq_true rfl) dX7_readRoomLine_24 ⟨Nat.le_of_ble_eq_true rfl, Nat.le_of_ble_eq_true rfl⟩ (fun r7 u9 H locs h8 hP hD hS => ?_)
    obtain ⟨tst_c10, etst_c10⟩ : ∃ f : Int32, f = (u9.1 0 0) := ⟨_, rfl⟩
    obtain ⟨ten_c11, eten_c11⟩ : ∃ f : Int32, f = (u9.1 1 0) := ⟨_, rfl⟩
    have hP : va_P (dC, dI) vwCl (wTxR cI cZ cQ a rb0 rb1 rb2 byt len tst_c10 ten_c11 mos wev aga apa lin) H := by rw [etst_c10, eten_c11]; exact hP
    have hD : va_D A (wTxR cI cZ cQ a rb0 rb1 rb2 byt len tst_c10 ten_c11 mos wev aga apa lin) := by rw [etst_c10, eten_c11]; exact hD
    have h8 : (tst_c10.toInt ≤ ten_c11.toInt) ∧ (ten_c11.toInt ≤ len.toInt) ∧ (r7.toInt = -1 ∨ ((0) ≤ r7.toInt ∧ r7.toInt ≤ (8))) ∧ (tst_c10.toInt = tS byt len.toInt ten_c5.toInt) ∧ (ten_c11.toInt = nx byt len.toInt ten_c5.toInt) ∧ (nuP byt len.toInt ten_c5.toInt (0) (8) r7) ∧ (0 ≤ tst_c10.toInt ∧ tst_c10.toInt ≤ 160) ∧ (0 ≤ ten_c11.toInt ∧ ten_c11.toInt ≤ 160) := by (try rw [etst_c10]); (try rw [eten_c11]); exact h8
    obtain ⟨h8_0, h8_1, h8_2, h8_3, h8_4, h8_5, h8_6, h8_7⟩ := h8
    have b12 : vp_in r1 8 := inC rfl (by omega) (by omega)
    refine va_iast hx hb hK hP hD hS 3 0 rfl rfl b12 dX7_readRoomLine_27 (fun H locs hP hD hS => ?_)
    obtain ⟨mos_u13, emos_u13⟩ : ∃ f : Nat → Int32, f = upd mos r1.toNatClampNeg r7 := ⟨_, rfl⟩
    have hP : va_P (dC, dI) vwCl (wTxR cI cZ cQ a rb0 rb1 rb2 byt len tst_c10 ten_c11 mos_u13 wev aga apa lin) H := by rw [emos_u13]; exact hP
    have hD : va_D A (wTxR cI cZ cQ a rb0 rb1 rb2 byt len tst_c10 ten_c11 mos_u13 wev aga apa lin) := by rw [emos_u13]; exact hD
    refine lv_aload_n hx hb dX7_readRoomLine_28 rfl (lv_at hl 2 rfl) ?_
    refine va_getN (D := (dC, dI)) (ci := 5) (v := .ref rb1) (C := RX5) (T := TX5) (N := 5) hx hb hts inX5 hown hK hP 2 rfl rfl 0 (by decide) lf68 (fun _ h9 => h9) rfl dX7_readRoomLine_29 ?_
    refine lv_iload_n hx hb dX7_readRoomLine_32 rfl (lv_at hl 0 rfl) ?_
    have b14 : vp_in r1 8 := inC rfl (by omega) (by omega)
    refine va_iald hx hb hK hP 3 0 rfl rfl b14 dX7_readRoomLine_33 ?_
    have o15 : (mos_u13 r1.toNatClampNeg).toInt = r7.toInt := by rw [emos_u13, pk_us]
    refine lv_iconst (v := (-1)) hx hb dX7_readRoomLine_34 (by decide) ?_
    refine lv_icmp_eq (tgt := 42) hx hb dX7_readRoomLine_35 (by decide) (fun c16 => ?_) (fun c16 => ?_)
    · have dc16 : (mos_u13 r1.toNatClampNeg).toInt = (-1) := eqC rfl (show ((-1) : Int32).toInt = (-1) from rfl) c16
      refine lv_iconst (v := 0) hx hb dX7_readRoomLine_42 (by decide) ?_
      exact W.zret (v := 0) hx hb hr (by decide) (fun tq ht hW => ⟨⟨0, (uS [(fun _ => tst_c10), (fun _ => ten_c11), mos_u13] 0 (fun _ => 0)), rfl, ⟨(Or.inr (⟨rfl, (show rmN byt len.toInt ten.toInt tst_c10.toInt from by (try rw [show (0 : Int32).toInt = 0 from (show (0 : Int32).toInt = 0 from rfl)]); (first | exact ⟨_, _, rm_yes (by assumption) (by assumption) (by assumption) (by assumption) (ne_m1 (by omega)) (by assumption) (by assumption), by assumption⟩ | exact rm_n1 (by assumption) (by assumption) (by assumption) | exact rm_n2 (by assumption) (by assumption) (by assumption) (by assumption) (eq_m1 (by omega)) (by assumption)))⟩)), (show tst_c10.toInt ≤ ten_c11.toInt from by (try rw [show (0 : Int32).toInt = 0 from (show (0 : Int32).toInt = 0 from rfl)]); omega), (show ten_c11.toInt ≤ len.toInt from by (try rw [show (0 : Int32).toInt = 0 from (show (0 : Int32).toInt = 0 from rfl)]); omega), h8_6, h8_7⟩, by rw [ht]; exact hP, hD⟩, hS.F ht⟩) hS.2.2 dX7_readRoomLine_43
    · have dc16 : (mos_u13 r1.toNatClampNeg).toInt ≠ (-1) := neC rfl (show ((-1) : Int32).toInt = (-1) from rfl) c16
      refine lv_iconst (v := 1) hx hb dX7_readRoomLine_38 (by decide) ?_
      refine lv_goto (tgt := 43) hx hb dX7_readRoomLine_39 (by decide) ?_
      exact W.zret (v := 1) hx hb hr (by decide) (fun tq ht hW => ⟨⟨1, (uS [(fun _ => tst_c10), (fun _ => ten_c11), mos_u13] 0 (fun _ => 0)), rfl, ⟨(Or.inl (⟨rfl, (show ∃ x y : Int32, rmT byt len.toInt ten.toInt x y tst_c10.toInt ten_c11.toInt ∧ mos_u13 = upd mos x.toNatClampNeg y from by (try rw [show (1 : Int32).toInt = 1 from (show (1 : Int32).toInt = 1 from rfl)]); (first | exact ⟨_, _, rm_yes (by assumption) (by assumption) (by assumption) (by assumption) (ne_m1 (by omega)) (by assumption) (by assumption), by assumption⟩ | exact rm_n1 (by assumption) (by assumption) (by assumption) | exact rm_n2 (by assumption) (by assumption) (by assumption) (by assumption) (eq_m1 (by omega)) (by assumption)))⟩)), (show tst_c10.toInt ≤ ten_c11.toInt from by (try rw [show (1 : Int32).toInt = 1 from (show (1 : Int32).toInt = 1 from rfl)]); omega), (show ten_c11.toInt ≤ len.toInt from by (try rw [show (1 : Int32).toInt = 1 from (show (1 : Int32).toInt = 1 from rfl)]); omega), h8_6, h8_7⟩, by rw [ht]; exact hP, hD⟩, hS.F ht⟩) hS.2.2 dX7_readRoomLine_43
  · have dc6 : r1.toInt = (-1) := eqC rfl (show ((-1) : Int32).toInt = (-1) from rfl) c6
    refine lv_iconst (v := 0) hx hb dX7_readRoomLine_13 (by decide) ?_
    exact W.zret (v := 0) hx hb hr (by decide) (fun tq ht hW => ⟨⟨0, (uS [(fun _ => tst_c4), (fun _ => ten_c5), mos] 0 (fun _ => 0)), rfl, ⟨(Or.inr (⟨rfl, (show rmN byt len.toInt ten.toInt tst_c4.toInt from by (try rw [show (0 : Int32).toInt = 0 from (show (0 : Int32).toInt = 0 from rfl)]); (first | exact ⟨_, _, rm_yes (by assumption) (by assumption) (by assumption) (by assumption) (ne_m1 (by omega)) (by assumption) (by assumption), by assumption⟩ | exact rm_n1 (by assumption) (by assumption) (by assumption) | exact rm_n2 (by assumption) (by assumption) (by assumption) (by assumption) (eq_m1 (by omega)) (by assumption)))⟩)), (show tst_c4.toInt ≤ ten_c5.toInt from by (try rw [show (0 : Int32).toInt = 0 from (show (0 : Int32).toInt = 0 from rfl)]); omega), (show ten_c5.toInt ≤ len.toInt from by (try rw [show (0 : Int32).toInt = 0 from (show (0 : Int32).toInt = 0 from rfl)]); omega), h2_6, h2_7⟩, by rw [ht]; exact hP, hD⟩, hS.F ht⟩) hS.2.2 dX7_readRoomLine_14
set_option maxHeartbeats 4000000 in
set_option maxRecDepth 100000 in
theorem k_X7_readWalkLine2 (l : Launch) (dC : Nat → ClassId) (dI : Nat → Nat → Nat) (cI cZ cQ : ClassId) (a : Nat → Nat) (rb0 : Nat) (rb1 : Nat) (rb2 : Nat) (byt : Nat → Int32) (len : Int32) (tst : Int32) (ten : Int32) (mos : Nat → Int32) (wev : Nat → Int32) (aga : Int32) (apa : Int32) (lin : Int32) (ak av : Nat → Nat) (sz : Nat) (r_len : 0 ≤ len.toInt ∧ len.toInt ≤ 160) (r_tst : 0 ≤ tst.toInt ∧ tst.toInt ≤ 160) (r_ten : 0 ≤ ten.toInt ∧ ten.toInt ≤ 160) (q0 : ten.toInt ≤ len.toInt) : KWS l yX7_readWalkLine wsX7_readWalkLine { frames := 5, cells := 0, slots := 0, locals := 107 } (dC, dI) (TY cI cZ cQ) (wTxR cI cZ cQ a rb0 rb1 rb2 byt len tst ten mos wev aga apa lin) ak av [.ref (a 14), .ref rb0] sz 0 0 (fun (r : Int32) (u : US) => ((((r = 1) ∧ (∃ x y : Int32, wkT byt len.toInt ten.toInt x y (u.1 0 0).toInt (u.1 1 0).toInt ∧ (u.1 2) = upd wev x.toNatClampNeg y)) ∨ ((r = 0) ∧ (wkN byt len.toInt ten.toInt (u.1 0 0).toInt)))) ∧ ((u.1 0 0).toInt ≤ (u.1 1 0).toInt) ∧ ((u.1 1 0).toInt ≤ len.toInt) ∧ (0 ≤ (u.1 0 0).toInt ∧ (u.1 0 0).toInt ≤ 160) ∧ (0 ≤ (u.1 1 0).toInt ∧ (u.1 1 0).toInt ≤ 160)) (fun u : US => (wTxR cI cZ cQ a rb0 rb1 rb2 byt len (u.1 0 0) (u.1 1 0) mos (u.1 2) aga apa lin)) := by
  refine Met.ofW (cc := cX7_readWalkLine) (maxL := 3) (ret := (some .boolean)) (by decide) rfl ?_
  intro p e s m args below meth c s₁ B hml hv
  obtain ⟨rfl, hsz, hP, hK, hD0, hN, hSV⟩ := hv
  have hx := B.exec
  have hb := B.bytes
  have hr := B.returns
  have hts := atoms_spec (ws := wsX7_readWalkLine) B.pre
  have hown : s.vm.findClass RX7 = some m.cls := findClass_of_methodNamed B.named
  have hlocks := B.notSynchronized
  have lf73 := hN.use (w := .fieldLinkNest "PalaceOfRooms$Text" 73 "PalaceOfRooms$RuleBook" "walkEvery" "[I" "PalaceOfRooms") (List.mem_of_getElem? (i := 23) rfl) ([.ref (a 14), .ref rb0] : List Value).toArray
  have inX5 : ∀ w ∈ wsX50, w ∈ wsX7_readWalkLine := fun w h => List.mem_cons_of_mem _ (List.mem_append_left _ (List.mem_append_right _ h))
  subst hsz
  have hD := hD0.self (sz := s.heap.size)
  generalize hAe : va_A (wTxR cI cZ cQ a rb0 rb1 rb2 byt len tst ten mos wev aga apa lin) s.heap.size = A at hD hSV ⊢
  have hA : ∀ q : Nat, s.heap.size ≤ q → A q := fun q h => by rw [← hAe]; exact Or.inr h
  have hS : va_S A s.heap s.heap [] := va_S.rf
  have hl := lv_entry ([.ref (a 14), .ref rb0]) (n := 3) (Nat.le_of_ble_eq_true rfl)
  rw [lg_entry_eq]
  generalize (lg_sl ([.ref (a 14), .ref rb0]) ++ List.replicate (3 - (lg_sl ([.ref (a 14), .ref rb0])).length) Slot.unset).toArray = ls at hl ⊢
  have hl : lv_has ls 3 [(0, .ref (a 14)), (1, .ref rb0)] := hl
  refine lv_aload_n hx hb dX7_readWalkLine_0 rfl (lv_at hl 0 rfl) ?_
  refine lv_iconst (v := 0) hx hb dX7_readWalkLine_1 (by decide) ?_
  refine lv_bipush (v := 7) hx hb dX7_readWalkLine_2 (by decide) ?_
  refine wrV (As := [.int 0, .int 7]) (rest := []) (wr := [(rb0, .inr (5, [.ref rb1, .ref rb2, .int aga, .int apa, .int lin])), (rb1, .inl (cI, 8, .inl mos)), (rb2, .inl (cI, 8, .inl wev))]) (w2 := (fun u : US => (wTxR cI cZ cQ a rb0 rb1 rb2 byt len (u.1 0 0) (u.1 1 0) mos wev aga apa lin))) ⟨hx, hb, hml, hown, hts⟩ (k_X7_readNumber2 l dC dI cI cZ cQ a byt len tst ten _ (0 : Int32) (7 : Int32) r_len r_tst r_ten (by omega)) (cwV 2 hts gX7_readWalkLine_X7_readNumber rfl rfl rfl (by decide +kernel) ⟨Nat.le_of_ble_eq_true rfl, Nat.le_of_ble_eq_true rfl⟩) hP hD hS hA hK hN [0, 1] [2, 3, 4] [3, 4, 0, 1, 2] rfl rfl (by decide) (by decide) (by decide) (fun _ => rfl) (by decide) 0 7 rfl rfl rfl hl.1 rfl (Nat.le_of_ble_eq_true rfl) dX7_readWalkLine_4 ⟨Nat.le_of_ble_eq_true rfl, Nat.le_of_ble_eq_true rfl⟩ (fun r1 u3 H locs h2 hP hD hS => ?_)
  obtain ⟨tst_c4, etst_c4⟩ : ∃ f : Int32, f = (u3.1 0 0) := ⟨_, rfl⟩
  obtain ⟨ten_c5, eten_c5⟩ : ∃ f : Int32, f = (u3.1 1 0) := ⟨_, rfl⟩
  have hP : va_P (dC, dI) vwCl (wTxR cI cZ cQ a rb0 rb1 rb2 byt len tst_c4 ten_c5 mos wev aga apa lin) H := by rw [etst_c4, eten_c5]; exact hP
  have hD : va_D A (wTxR cI cZ cQ a rb0 rb1 rb2 byt len tst_c4 ten_c5 mos wev aga apa lin) := by rw [etst_c4, eten_c5]; exact hD
  have h2 : (tst_c4.toInt ≤ ten_c5.toInt) ∧ (ten_c5.toInt ≤ len.toInt) ∧ (r1.toInt = -1 ∨ ((0) ≤ r1.toInt ∧ r1.toInt ≤ (7))) ∧ (tst_c4.toInt = tS byt len.toInt ten.toInt) ∧ (ten_c5.toInt = nx byt len.toInt ten.toInt) ∧ (nuP byt len.toInt ten.toInt (0) (7) r1) ∧ (0 ≤ tst_c4.toInt ∧ tst_c4.toInt ≤ 160) ∧ (0 ≤ ten_c5.toInt ∧ ten_c5.toInt ≤ 160) := by (try rw [etst_c4]); (try rw [eten_c5]); exact h2
  obtain ⟨h2_0, h2_1, h2_2, h2_3, h2_4, h2_5, h2_6, h2_7⟩ := h2
  refine lv_istore_n (lv' := [(2, .int r1), (0, .ref (a 14)), (1, .ref rb0)]) hx hb dX7_readWalkLine_7 rfl hl (by decide) rfl (fun ls hl => ?_)
  refine lv_iload_n hx hb dX7_readWalkLine_8 rfl (lv_at hl 0 rfl) ?_
  refine lv_iconst (v := (-1)) hx hb dX7_readWalkLine_9 (by decide) ?_
  refine lv_icmp_ne (tgt := 15) hx hb dX7_readWalkLine_10 (by decide) (fun c6 => ?_) (fun c6 => ?_)
  · have dc6 : r1.toInt ≠ (-1) := neC rfl (show ((-1) : Int32).toInt = (-1) from rfl) c6
    refine lv_aload_n hx hb dX7_readWalkLine_15 rfl (lv_at hl 1 rfl) ?_
    refine wvV (As := []) (rest := []) (wr := [(rb0, .inr (5, [.ref rb1, .ref rb2, .int aga, .int apa, .int lin])), (rb1, .inl (cI, 8, .inl mos)), (rb2, .inl (cI, 8, .inl wev))]) (w2 := (fun u : US => (wTxR cI cZ cQ a rb0 rb1 rb2 byt len (u.1 0 0) (u.1 1 0) mos wev aga apa lin))) ⟨hx, hb, hml, hown, hts⟩ (k_X7_nextToken2 l dC dI cI cZ cQ a byt len tst_c4 ten_c5 _ r_len h2_6 h2_7 (by omega)) (cwV 0 hts gX7_readWalkLine_X7_nextToken rfl rfl rfl (by decide +kernel) ⟨Nat.le_of_ble_eq_true rfl, Nat.le_of_ble_eq_true rfl⟩) hP hD hS hA hK hN [0, 1] [2, 3, 4] [3, 4, 0, 1, 2] rfl rfl (by decide) (by decide) (by decide) (fun _ => rfl) (by decide) 0 7 rfl rfl rfl hl.1 rfl (Nat.le_of_ble_eq_true rfl) dX7_readWalkLine_16 ⟨Nat.le_of_ble_eq_true rfl, Nat.le_of_ble_eq_true rfl⟩ (fun u9 H locs h8 hP hD hS => ?_)
    obtain ⟨tst_c10, etst_c10⟩ : ∃ f : Int32, f = (u9.1 0 0) := ⟨_, rfl⟩
    obtain ⟨ten_c11, eten_c11⟩ : ∃ f : Int32, f = (u9.1 1 0) := ⟨_, rfl⟩
    have hP : va_P (dC, dI) vwCl (wTxR cI cZ cQ a rb0 rb1 rb2 byt len tst_c10 ten_c11 mos wev aga apa lin) H := by rw [etst_c10, eten_c11]; exact hP
    have hD : va_D A (wTxR cI cZ cQ a rb0 rb1 rb2 byt len tst_c10 ten_c11 mos wev aga apa lin) := by rw [etst_c10, eten_c11]; exact hD
    have h8 : (tst_c10.toInt ≤ ten_c11.toInt) ∧ (ten_c11.toInt ≤ len.toInt) ∧ (tst_c10.toInt = tS byt len.toInt ten_c5.toInt) ∧ (ten_c11.toInt = tE byt len.toInt tst_c10.toInt) ∧ (0 ≤ tst_c10.toInt ∧ tst_c10.toInt ≤ 160) ∧ (0 ≤ ten_c11.toInt ∧ ten_c11.toInt ≤ 160) := by (try rw [etst_c10]); (try rw [eten_c11]); exact h8
    obtain ⟨h8_0, h8_1, h8_2, h8_3, h8_4, h8_5⟩ := h8
    refine lv_aload_n hx hb dX7_readWalkLine_19 rfl (lv_at hl 1 rfl) ?_
    refine va_ldcS hx hb hown hSV.2.2.2.2.2 dX7_readWalkLine_20 ?_
    refine rdVT (As := [.ref (ak 4)]) (rest := []) ⟨hx, hb, hml, hown, hts⟩ (k_X7_tokenIs2 l dC dI cI cZ cQ a byt len tst_c10 ten_c11 (ak 4) (av 4) (lenS.getD 4 0) (fS 4) r_len h8_4 h8_5 (by omega) (by decide)) (cwV 1 hts gX7_readWalkLine_X7_tokenIs rfl rfl rfl (by decide +kernel) ⟨Nat.le_of_ble_eq_true rfl, Nat.le_of_ble_eq_true rfl⟩) (((hSV.kept hS.2.1).1 4 (by decide)).narrow (fun _ h => h.elim)) hP hK hN [0, 1] rfl 0 7 rfl rfl rfl hl.1 rfl (Nat.le_of_ble_eq_true rfl) dX7_readWalkLine_22 ⟨Nat.le_of_ble_eq_true rfl, Nat.le_of_ble_eq_true rfl⟩ (fun r12 h13 => ?_)
    have h13 : ((((r12 = 1) ∧ (wdP byt tst_c10.toInt ten_c11.toInt (lenS.getD 4 0) (fS 4))) ∨ ((r12 = 0) ∧ (¬ wdP byt tst_c10.toInt ten_c11.toInt (lenS.getD 4 0) (fS 4))))) := h13
    rcases h13 with (⟨rfl, h13_a0⟩ | ⟨rfl, h13_a0⟩)
    · refine lv_if_ne (tgt := 30) hx hb dX7_readWalkLine_25 (by decide) (fun _ => ?_) (fun c9 => absurd c9 (by decide))
      refine lv_aload_n hx hb dX7_readWalkLine_30 rfl (lv_at hl 2 rfl) ?_
      refine va_getN (D := (dC, dI)) (ci := 5) (v := .ref rb2) (C := RX5) (T := TX5) (N := 5) hx hb hts inX5 hown hK hP 2 rfl rfl 1 (by decide) lf73 (fun _ h9 => h9) rfl dX7_readWalkLine_31 ?_
      refine lv_iload_n hx hb dX7_readWalkLine_34 rfl (lv_at hl 0 rfl) ?_
      refine lv_aload_n hx hb dX7_readWalkLine_35 rfl (lv_at hl 1 rfl) ?_
      refine lv_iconst (v := 1) hx hb dX7_readWalkLine_36 (by decide) ?_
      refine lv_bipush (v := 99) hx hb dX7_readWalkLine_37 (by decide) ?_
      refine wrV (As := [.int 1, .int 99]) (rest := [.int r1, .ref rb2]) (wr := [(rb0, .inr (5, [.ref rb1, .ref rb2, .int aga, .int apa, .int lin])), (rb1, .inl (cI, 8, .inl mos)), (rb2, .inl (cI, 8, .inl wev))]) (w2 := (fun u : US => (wTxR cI cZ cQ a rb0 rb1 rb2 byt len (u.1 0 0) (u.1 1 0) mos wev aga apa lin))) ⟨hx, hb, hml, hown, hts⟩ (k_X7_readNumber2 l dC dI cI cZ cQ a byt len tst_c10 ten_c11 _ (1 : Int32) (99 : Int32) r_len h8_4 h8_5 (by omega)) (cwV 2 hts gX7_readWalkLine_X7_readNumber rfl rfl rfl (by decide +kernel) ⟨Nat.le_of_ble_eq_true rfl, Nat.le_of_ble_eq_true rfl⟩) hP hD hS hA hK hN [0, 1] [2, 3, 4] [3, 4, 0, 1, 2] rfl rfl (by decide) (by decide) (by decide) (fun _ => rfl) (by decide) 0 7 rfl rfl rfl hl.1 rfl (Nat.le_of_ble_eq_true rfl) dX7_readWalkLine_39 ⟨Nat.le_of_ble_eq_true rfl, Nat.le_of_ble_eq_true rfl⟩ (fun r14 u16 H locs h15 hP hD hS => ?_)
      obtain ⟨tst_c17, etst_c17⟩ : ∃ f : Int32, f = (u16.1 0 0) := ⟨_, rfl⟩
      obtain ⟨ten_c18, eten_c18⟩ : ∃ f : Int32, f = (u16.1 1 0) := ⟨_, rfl⟩
      have hP : va_P (dC, dI) vwCl (wTxR cI cZ cQ a rb0 rb1 rb2 byt len tst_c17 ten_c18 mos wev aga apa lin) H := by rw [etst_c17, eten_c18]; exact hP
      have hD : va_D A (wTxR cI cZ cQ a rb0 rb1 rb2 byt len tst_c17 ten_c18 mos wev aga apa lin) := by rw [etst_c17, eten_c18]; exact hD
      have h15 : (tst_c17.toInt ≤ ten_c18.toInt) ∧ (ten_c18.toInt ≤ len.toInt) ∧ (r14.toInt = -1 ∨ ((1) ≤ r14.toInt ∧ r14.toInt ≤ (99))) ∧ (tst_c17.toInt = tS byt len.toInt ten_c11.toInt) ∧ (ten_c18.toInt = nx byt len.toInt ten_c11.toInt) ∧ (nuP byt len.toInt ten_c11.toInt (1) (99) r14) ∧ (0 ≤ tst_c17.toInt ∧ tst_c17.toInt ≤ 160) ∧ (0 ≤ ten_c18.toInt ∧ ten_c18.toInt ≤ 160) := by (try rw [etst_c17]); (try rw [eten_c18]); exact h15
      obtain ⟨h15_0, h15_1, h15_2, h15_3, h15_4, h15_5, h15_6, h15_7⟩ := h15
      have b19 : vp_in r1 8 := inC rfl (by omega) (by omega)
      refine va_iast hx hb hK hP hD hS 4 0 rfl rfl b19 dX7_readWalkLine_42 (fun H locs hP hD hS => ?_)
      obtain ⟨wev_u20, ewev_u20⟩ : ∃ f : Nat → Int32, f = upd wev r1.toNatClampNeg r14 := ⟨_, rfl⟩
      have hP : va_P (dC, dI) vwCl (wTxR cI cZ cQ a rb0 rb1 rb2 byt len tst_c17 ten_c18 mos wev_u20 aga apa lin) H := by rw [ewev_u20]; exact hP
      have hD : va_D A (wTxR cI cZ cQ a rb0 rb1 rb2 byt len tst_c17 ten_c18 mos wev_u20 aga apa lin) := by rw [ewev_u20]; exact hD
      refine lv_aload_n hx hb dX7_readWalkLine_43 rfl (lv_at hl 2 rfl) ?_
      refine va_getN (D := (dC, dI)) (ci := 5) (v := .ref rb2) (C := RX5) (T := TX5) (N := 5) hx hb hts inX5 hown hK hP 2 rfl rfl 1 (by decide) lf73 (fun _ h9 => h9) rfl dX7_readWalkLine_44 ?_
      refine lv_iload_n hx hb dX7_readWalkLine_47 rfl (lv_at hl 0 rfl) ?_
      have b21 : vp_in r1 8 := inC rfl (by omega) (by omega)
      refine va_iald hx hb hK hP 4 0 rfl rfl b21 dX7_readWalkLine_48 ?_
      have o22 : (wev_u20 r1.toNatClampNeg).toInt = r14.toInt := by rw [ewev_u20, pk_us]
      refine lv_iconst (v := (-1)) hx hb dX7_readWalkLine_49 (by decide) ?_
      refine lv_icmp_eq (tgt := 57) hx hb dX7_readWalkLine_50 (by decide) (fun c23 => ?_) (fun c23 => ?_)
      · have dc23 : (wev_u20 r1.toNatClampNeg).toInt = (-1) := eqC rfl (show ((-1) : Int32).toInt = (-1) from rfl) c23
        refine lv_iconst (v := 0) hx hb dX7_readWalkLine_57 (by decide) ?_
        exact W.zret (v := 0) hx hb hr (by decide) (fun tq ht hW => ⟨⟨0, (uS [(fun _ => tst_c17), (fun _ => ten_c18), wev_u20] 0 (fun _ => 0)), rfl, ⟨(Or.inr (⟨rfl, (show wkN byt len.toInt ten.toInt tst_c17.toInt from by (try rw [show (0 : Int32).toInt = 0 from (show (0 : Int32).toInt = 0 from rfl)]); (first | exact ⟨_, _, wk_yes (by assumption) (by assumption) (by assumption) (by assumption) (by assumption) (by omega) (by omega) (by assumption) (by assumption) (ne_m1 (by omega)) (by assumption) (by assumption), by assumption⟩ | exact wk_n1 (by assumption) (by assumption) (by assumption) | exact wk_n2 (by assumption) (by assumption) (by assumption) (by assumption) (by assumption) (by omega) (by omega) (by assumption) rfl | exact wk_n3 (by assumption) (by assumption) (by assumption) (by assumption) (by assumption) (by omega) (by omega) (by assumption) (by assumption) (eq_m1 (by omega)) (by assumption)))⟩)), (show tst_c17.toInt ≤ ten_c18.toInt from by (try rw [show (0 : Int32).toInt = 0 from (show (0 : Int32).toInt = 0 from rfl)]); omega), (show ten_c18.toInt ≤ len.toInt from by (try rw [show (0 : Int32).toInt = 0 from (show (0 : Int32).toInt = 0 from rfl)]); omega), h15_6, h15_7⟩, by rw [ht]; exact hP, hD⟩, hS.F ht⟩) hS.2.2 dX7_readWalkLine_58
      · have dc23 : (wev_u20 r1.toNatClampNeg).toInt ≠ (-1) := neC rfl (show ((-1) : Int32).toInt = (-1) from rfl) c23
        refine lv_iconst (v := 1) hx hb dX7_readWalkLine_53 (by decide) ?_
        refine lv_goto (tgt := 58) hx hb dX7_readWalkLine_54 (by decide) ?_
        exact W.zret (v := 1) hx hb hr (by decide) (fun tq ht hW => ⟨⟨1, (uS [(fun _ => tst_c17), (fun _ => ten_c18), wev_u20] 0 (fun _ => 0)), rfl, ⟨(Or.inl (⟨rfl, (show ∃ x y : Int32, wkT byt len.toInt ten.toInt x y tst_c17.toInt ten_c18.toInt ∧ wev_u20 = upd wev x.toNatClampNeg y from by (try rw [show (1 : Int32).toInt = 1 from (show (1 : Int32).toInt = 1 from rfl)]); (first | exact ⟨_, _, wk_yes (by assumption) (by assumption) (by assumption) (by assumption) (by assumption) (by omega) (by omega) (by assumption) (by assumption) (ne_m1 (by omega)) (by assumption) (by assumption), by assumption⟩ | exact wk_n1 (by assumption) (by assumption) (by assumption) | exact wk_n2 (by assumption) (by assumption) (by assumption) (by assumption) (by assumption) (by omega) (by omega) (by assumption) rfl | exact wk_n3 (by assumption) (by assumption) (by assumption) (by assumption) (by assumption) (by omega) (by omega) (by assumption) (by assumption) (eq_m1 (by omega)) (by assumption)))⟩)), (show tst_c17.toInt ≤ ten_c18.toInt from by (try rw [show (1 : Int32).toInt = 1 from (show (1 : Int32).toInt = 1 from rfl)]); omega), (show ten_c18.toInt ≤ len.toInt from by (try rw [show (1 : Int32).toInt = 1 from (show (1 : Int32).toInt = 1 from rfl)]); omega), h15_6, h15_7⟩, by rw [ht]; exact hP, hD⟩, hS.F ht⟩) hS.2.2 dX7_readWalkLine_58
    · refine lv_if_ne (tgt := 30) hx hb dX7_readWalkLine_25 (by decide) (fun c9 => absurd (by decide) c9) (fun _ => ?_)
      refine lv_iconst (v := 0) hx hb dX7_readWalkLine_28 (by decide) ?_
      exact W.zret (v := 0) hx hb hr (by decide) (fun tq ht hW => ⟨⟨0, (uS [(fun _ => tst_c10), (fun _ => ten_c11), wev] 0 (fun _ => 0)), rfl, ⟨(Or.inr (⟨rfl, (show wkN byt len.toInt ten.toInt tst_c10.toInt from by (try rw [show (0 : Int32).toInt = 0 from (show (0 : Int32).toInt = 0 from rfl)]); (first | exact ⟨_, _, wk_yes (by assumption) (by assumption) (by assumption) (by assumption) (by assumption) (by omega) (by omega) (by assumption) (by assumption) (ne_m1 (by omega)) (by assumption) (by assumption), by assumption⟩ | exact wk_n1 (by assumption) (by assumption) (by assumption) | exact wk_n2 (by assumption) (by assumption) (by assumption) (by assumption) (by assumption) (by omega) (by omega) (by assumption) rfl | exact wk_n3 (by assumption) (by assumption) (by assumption) (by assumption) (by assumption) (by omega) (by omega) (by assumption) (by assumption) (eq_m1 (by omega)) (by assumption)))⟩)), (show tst_c10.toInt ≤ ten_c11.toInt from by (try rw [show (0 : Int32).toInt = 0 from (show (0 : Int32).toInt = 0 from rfl)]); omega), (show ten_c11.toInt ≤ len.toInt from by (try rw [show (0 : Int32).toInt = 0 from (show (0 : Int32).toInt = 0 from rfl)]); omega), h8_4, h8_5⟩, by rw [ht]; exact hP, hD⟩, hS.F ht⟩) hS.2.2 dX7_readWalkLine_29
  · have dc6 : r1.toInt = (-1) := eqC rfl (show ((-1) : Int32).toInt = (-1) from rfl) c6
    refine lv_iconst (v := 0) hx hb dX7_readWalkLine_13 (by decide) ?_
    exact W.zret (v := 0) hx hb hr (by decide) (fun tq ht hW => ⟨⟨0, (uS [(fun _ => tst_c4), (fun _ => ten_c5), wev] 0 (fun _ => 0)), rfl, ⟨(Or.inr (⟨rfl, (show wkN byt len.toInt ten.toInt tst_c4.toInt from by (try rw [show (0 : Int32).toInt = 0 from (show (0 : Int32).toInt = 0 from rfl)]); (first | exact ⟨_, _, wk_yes (by assumption) (by assumption) (by assumption) (by assumption) (by assumption) (by omega) (by omega) (by assumption) (by assumption) (ne_m1 (by omega)) (by assumption) (by assumption), by assumption⟩ | exact wk_n1 (by assumption) (by assumption) (by assumption) | exact wk_n2 (by assumption) (by assumption) (by assumption) (by assumption) (by assumption) (by omega) (by omega) (by assumption) rfl | exact wk_n3 (by assumption) (by assumption) (by assumption) (by assumption) (by assumption) (by omega) (by omega) (by assumption) (by assumption) (eq_m1 (by omega)) (by assumption)))⟩)), (show tst_c4.toInt ≤ ten_c5.toInt from by (try rw [show (0 : Int32).toInt = 0 from (show (0 : Int32).toInt = 0 from rfl)]); omega), (show ten_c5.toInt ≤ len.toInt from by (try rw [show (0 : Int32).toInt = 0 from (show (0 : Int32).toInt = 0 from rfl)]); omega), h2_6, h2_7⟩, by rw [ht]; exact hP, hD⟩, hS.F ht⟩) hS.2.2 dX7_readWalkLine_14
set_option maxHeartbeats 4000000 in
set_option maxRecDepth 100000 in
theorem k_X7_readLine2 (l : Launch) (dC : Nat → ClassId) (dI : Nat → Nat → Nat) (cI cZ cQ : ClassId) (a : Nat → Nat) (rb0 : Nat) (rb1 : Nat) (rb2 : Nat) (byt : Nat → Int32) (len : Int32) (tst : Int32) (ten : Int32) (mos : Nat → Int32) (wev : Nat → Int32) (aga : Int32) (apa : Int32) (lin : Int32) (ak av : Nat → Nat) (sz : Nat) (r_len : 0 ≤ len.toInt ∧ len.toInt ≤ 160) (r_tst : 0 ≤ tst.toInt ∧ tst.toInt ≤ 160) (r_ten : 0 ≤ ten.toInt ∧ ten.toInt ≤ 160) (q0 : ten.toInt ≤ len.toInt) : KWS l yX7_readLine wsX7_readLine { frames := 6, cells := 0, slots := 0, locals := 129 } (dC, dI) (TY cI cZ cQ) (wTxR cI cZ cQ a rb0 rb1 rb2 byt len tst ten mos wev aga apa lin) ak av [.ref (a 14), .ref rb0] sz 0 0 (fun (r : Int32) (u : US) => ((((r = 1) ∧ (lnE byt len.toInt ten.toInt (u.1 0 0).toInt (u.1 1 0).toInt mos wev aga apa (u.1 2) (u.1 3) (u.1 4 0) (u.1 5 0))) ∨ ((r = 0) ∧ (lnN byt len.toInt ten.toInt (u.1 0 0).toInt)))) ∧ ((u.1 0 0).toInt ≤ (u.1 1 0).toInt) ∧ ((u.1 1 0).toInt ≤ len.toInt) ∧ (0 ≤ (u.1 0 0).toInt ∧ (u.1 0 0).toInt ≤ 160) ∧ (0 ≤ (u.1 1 0).toInt ∧ (u.1 1 0).toInt ≤ 160)) (fun u : US => (wTxR cI cZ cQ a rb0 rb1 rb2 byt len (u.1 0 0) (u.1 1 0) (u.1 2) (u.1 3) (u.1 4 0) (u.1 5 0) lin)) := by
  refine Met.ofW (cc := cX7_readLine) (maxL := 2) (ret := (some .boolean)) (by decide) rfl ?_
  intro p e s m args below meth c s₁ B hml hv
  obtain ⟨rfl, hsz, hP, hK, hD0, hN, hSV⟩ := hv
  have hx := B.exec
  have hb := B.bytes
  have hr := B.returns
  have hts := atoms_spec (ws := wsX7_readLine) B.pre
  have hown : s.vm.findClass RX7 = some m.cls := findClass_of_methodNamed B.named
  have hlocks := B.notSynchronized
  have lf57 := hN.use (w := .fieldLinkNest "PalaceOfRooms$Text" 57 "PalaceOfRooms$RuleBook" "again" "I" "PalaceOfRooms") (List.mem_of_getElem? (i := 25) rfl) ([.ref (a 14), .ref rb0] : List Value).toArray
  have inX5 : ∀ w ∈ wsX50, w ∈ wsX7_readLine := fun w h => List.mem_cons_of_mem _ (List.mem_append_left _ (List.mem_append_right _ h))
  have lf61 := hN.use (w := .fieldLinkNest "PalaceOfRooms$Text" 61 "PalaceOfRooms$RuleBook" "apart" "I" "PalaceOfRooms") (List.mem_of_getElem? (i := 27) rfl) ([.ref (a 14), .ref rb0] : List Value).toArray
  subst hsz
  have hD := hD0.self (sz := s.heap.size)
  generalize hAe : va_A (wTxR cI cZ cQ a rb0 rb1 rb2 byt len tst ten mos wev aga apa lin) s.heap.size = A at hD hSV ⊢
  have hA : ∀ q : Nat, s.heap.size ≤ q → A q := fun q h => by rw [← hAe]; exact Or.inr h
  have hS : va_S A s.heap s.heap [] := va_S.rf
  have hl := lv_entry ([.ref (a 14), .ref rb0]) (n := 2) (Nat.le_of_ble_eq_true rfl)
  rw [lg_entry_eq]
  generalize (lg_sl ([.ref (a 14), .ref rb0]) ++ List.replicate (2 - (lg_sl ([.ref (a 14), .ref rb0])).length) Slot.unset).toArray = ls at hl ⊢
  have hl : lv_has ls 2 [(0, .ref (a 14)), (1, .ref rb0)] := hl
  refine lv_aload_n hx hb dX7_readLine_0 rfl (lv_at hl 0 rfl) ?_
  refine wvV (As := []) (rest := []) (wr := [(rb0, .inr (5, [.ref rb1, .ref rb2, .int aga, .int apa, .int lin])), (rb1, .inl (cI, 8, .inl mos)), (rb2, .inl (cI, 8, .inl wev))]) (w2 := (fun u : US => (wTxR cI cZ cQ a rb0 rb1 rb2 byt len (u.1 0 0) (u.1 1 0) mos wev aga apa lin))) ⟨hx, hb, hml, hown, hts⟩ (k_X7_nextToken2 l dC dI cI cZ cQ a byt len tst ten _ r_len r_tst r_ten (by omega)) (cwV 0 hts gX7_readLine_X7_nextToken rfl rfl rfl (by decide +kernel) ⟨Nat.le_of_ble_eq_true rfl, Nat.le_of_ble_eq_true rfl⟩) hP hD hS hA hK hN [0, 1] [2, 3, 4] [3, 4, 0, 1, 2] rfl rfl (by decide) (by decide) (by decide) (fun _ => rfl) (by decide) 0 7 rfl rfl rfl hl.1 rfl (Nat.le_of_ble_eq_true rfl) dX7_readLine_1 ⟨Nat.le_of_ble_eq_true rfl, Nat.le_of_ble_eq_true rfl⟩ (fun u3 H locs h2 hP hD hS => ?_)
  obtain ⟨tst_c4, etst_c4⟩ : ∃ f : Int32, f = (u3.1 0 0) := ⟨_, rfl⟩
  obtain ⟨ten_c5, eten_c5⟩ : ∃ f : Int32, f = (u3.1 1 0) := ⟨_, rfl⟩
  have hP : va_P (dC, dI) vwCl (wTxR cI cZ cQ a rb0 rb1 rb2 byt len tst_c4 ten_c5 mos wev aga apa lin) H := by rw [etst_c4, eten_c5]; exact hP
  have hD : va_D A (wTxR cI cZ cQ a rb0 rb1 rb2 byt len tst_c4 ten_c5 mos wev aga apa lin) := by rw [etst_c4, eten_c5]; exact hD
  have h2 : (tst_c4.toInt ≤ ten_c5.toInt) ∧ (ten_c5.toInt ≤ len.toInt) ∧ (tst_c4.toInt = tS byt len.toInt ten.toInt) ∧ (ten_c5.toInt = tE byt len.toInt tst_c4.toInt) ∧ (0 ≤ tst_c4.toInt ∧ tst_c4.toInt ≤ 160) ∧ (0 ≤ ten_c5.toInt ∧ ten_c5.toInt ≤ 160) := by (try rw [etst_c4]); (try rw [eten_c5]); exact h2
  obtain ⟨h2_0, h2_1, h2_2, h2_3, h2_4, h2_5⟩ := h2
  refine lv_aload_n hx hb dX7_readLine_4 rfl (lv_at hl 0 rfl) ?_
  refine va_ldcS hx hb hown hSV.2.1 dX7_readLine_5 ?_
  refine rdVT (As := [.ref (ak 0)]) (rest := []) ⟨hx, hb, hml, hown, hts⟩ (k_X7_tokenIs2 l dC dI cI cZ cQ a byt len tst_c4 ten_c5 (ak 0) (av 0) (lenS.getD 0 0) (fS 0) r_len h2_4 h2_5 (by omega) (by decide)) (cwV 1 hts gX7_readLine_X7_tokenIs rfl rfl rfl (by decide +kernel) ⟨Nat.le_of_ble_eq_true rfl, Nat.le_of_ble_eq_true rfl⟩) (((hSV.kept hS.2.1).1 0 (by decide)).narrow (fun _ h => h.elim)) hP hK hN [0, 1] rfl 0 7 rfl rfl rfl hl.1 rfl (Nat.le_of_ble_eq_true rfl) dX7_readLine_7 ⟨Nat.le_of_ble_eq_true rfl, Nat.le_of_ble_eq_true rfl⟩ (fun r6 h7 => ?_)
  have h7 : ((((r6 = 1) ∧ (wdP byt tst_c4.toInt ten_c5.toInt (lenS.getD 0 0) (fS 0))) ∨ ((r6 = 0) ∧ (¬ wdP byt tst_c4.toInt ten_c5.toInt (lenS.getD 0 0) (fS 0))))) := h7
  rcases h7 with (⟨rfl, h7_a0⟩ | ⟨rfl, h7_a0⟩)
  · refine lv_if_eq (tgt := 19) hx hb dX7_readLine_10 (by decide) (fun c9 => absurd c9 (by decide)) (fun _ => ?_)
    refine lv_aload_n hx hb dX7_readLine_13 rfl (lv_at hl 0 rfl) ?_
    refine lv_aload_n hx hb dX7_readLine_14 rfl (lv_at hl 1 rfl) ?_
    refine wrV (As := [.ref rb0]) (rest := []) (wr := []) (w2 := (fun u : US => (wTxR cI cZ cQ a rb0 rb1 rb2 byt len (u.1 0 0) (u.1 1 0) (u.1 2) wev aga apa lin))) ⟨hx, hb, hml, hown, hts⟩ (k_X7_readRoomLine2 l dC dI cI cZ cQ a rb0 rb1 rb2 byt len tst_c4 ten_c5 mos wev aga apa lin _ r_len h2_4 h2_5 (by omega)) (cwV 1 hts gX7_readLine_X7_readRoomLine rfl rfl rfl (by decide +kernel) ⟨Nat.le_of_ble_eq_true rfl, Nat.le_of_ble_eq_true rfl⟩) hP hD hS hA hK hN [0, 1, 2, 3, 4] [] [0, 1, 2, 3, 4] rfl rfl (by decide) (by decide) (by decide) (fun _ => rfl) (by decide) 0 7 rfl rfl rfl hl.1 rfl (Nat.le_of_ble_eq_true rfl) dX7_readLine_15 ⟨Nat.le_of_ble_eq_true rfl, Nat.le_of_ble_eq_true rfl⟩ (fun r8 u10 H locs h9 hP hD hS => ?_)
    obtain ⟨tst_c11, etst_c11⟩ : ∃ f : Int32, f = (u10.1 0 0) := ⟨_, rfl⟩
    obtain ⟨ten_c12, eten_c12⟩ : ∃ f : Int32, f = (u10.1 1 0) := ⟨_, rfl⟩
    obtain ⟨mos_c13, emos_c13⟩ : ∃ f : Nat → Int32, f = (u10.1 2) := ⟨_, rfl⟩
    have hP : va_P (dC, dI) vwCl (wTxR cI cZ cQ a rb0 rb1 rb2 byt len tst_c11 ten_c12 mos_c13 wev aga apa lin) H := by rw [etst_c11, eten_c12, emos_c13]; exact hP
    have hD : va_D A (wTxR cI cZ cQ a rb0 rb1 rb2 byt len tst_c11 ten_c12 mos_c13 wev aga apa lin) := by rw [etst_c11, eten_c12, emos_c13]; exact hD
    have h9 : ((((r8 = 1) ∧ (∃ x y : Int32, rmT byt len.toInt ten_c5.toInt x y tst_c11.toInt ten_c12.toInt ∧ mos_c13 = upd mos x.toNatClampNeg y)) ∨ ((r8 = 0) ∧ (rmN byt len.toInt ten_c5.toInt tst_c11.toInt)))) ∧ (tst_c11.toInt ≤ ten_c12.toInt) ∧ (ten_c12.toInt ≤ len.toInt) ∧ (0 ≤ tst_c11.toInt ∧ tst_c11.toInt ≤ 160) ∧ (0 ≤ ten_c12.toInt ∧ ten_c12.toInt ≤ 160) := by (try rw [etst_c11]); (try rw [eten_c12]); (try rw [emos_c13]); exact h9
    rcases h9 with ⟨(⟨rfl, h9_a0⟩ | ⟨rfl, h9_a0⟩), h9_0, h9_1, h9_2, h9_3⟩
    · exact W.zret (v := 1) hx hb hr (by decide) (fun tq ht hW => ⟨⟨1, (uS [(fun _ => tst_c11), (fun _ => ten_c12), mos_c13, wev, (fun _ => aga), (fun _ => apa)] 0 (fun _ => 0)), rfl, ⟨(Or.inl (⟨rfl, (show lnE byt len.toInt ten.toInt tst_c11.toInt ten_c12.toInt mos wev aga apa mos_c13 wev aga apa from by (try rw [show (1 : Int32).toInt = 1 from (show (1 : Int32).toInt = 1 from rfl)]); (first | exact le_room (by assumption) (by assumption) (by omega) (by omega) (by assumption) (by assumption) | exact ln_roomN (by assumption) (by assumption) (by omega) (by omega) (by assumption) (by assumption) | exact ⟨1, 0, _, ln_again (by assumption) (by assumption) (by omega) (by omega) (by assumption) (by assumption) (by assumption) (by assumption) (by assumption), Or.inr (Or.inl ⟨rfl, rfl, rfl, rfl, rfl⟩)⟩ | exact ln_againN (by assumption) (by assumption) (by omega) (by omega) (by assumption) (by assumption) (by assumption) (by assumption) | exact ⟨2, 0, _, ln_apart (by assumption) (by assumption) (by omega) (by omega) (by assumption) (by assumption) (by assumption) (by assumption) (by assumption), Or.inr (Or.inr (Or.inl ⟨rfl, rfl, rfl, rfl, rfl⟩))⟩ | exact ln_apartN (by assumption) (by assumption) (by omega) (by omega) (by assumption) (by assumption) (by assumption) (by assumption) | exact le_walk (by assumption) (by assumption) (by omega) (by omega) (by assumption) (by assumption) | exact ln_walkN (by assumption) (by assumption) (by omega) (by omega) (by assumption) (by assumption) | exact ln_none (by assumption) (by assumption) (by omega) (by omega) (by assumption) (by assumption) (by assumption) (by assumption) rfl))⟩)), (show tst_c11.toInt ≤ ten_c12.toInt from by (try rw [show (1 : Int32).toInt = 1 from (show (1 : Int32).toInt = 1 from rfl)]); omega), (show ten_c12.toInt ≤ len.toInt from by (try rw [show (1 : Int32).toInt = 1 from (show (1 : Int32).toInt = 1 from rfl)]); omega), h9_2, h9_3⟩, by rw [ht]; exact hP, hD⟩, hS.F ht⟩) hS.2.2 dX7_readLine_18
    · exact W.zret (v := 0) hx hb hr (by decide) (fun tq ht hW => ⟨⟨0, (uS [(fun _ => tst_c11), (fun _ => ten_c12), mos_c13, wev, (fun _ => aga), (fun _ => apa)] 0 (fun _ => 0)), rfl, ⟨(Or.inr (⟨rfl, (show lnN byt len.toInt ten.toInt tst_c11.toInt from by (try rw [show (0 : Int32).toInt = 0 from (show (0 : Int32).toInt = 0 from rfl)]); (first | exact le_room (by assumption) (by assumption) (by omega) (by omega) (by assumption) (by assumption) | exact ln_roomN (by assumption) (by assumption) (by omega) (by omega) (by assumption) (by assumption) | exact ⟨1, 0, _, ln_again (by assumption) (by assumption) (by omega) (by omega) (by assumption) (by assumption) (by assumption) (by assumption) (by assumption), Or.inr (Or.inl ⟨rfl, rfl, rfl, rfl, rfl⟩)⟩ | exact ln_againN (by assumption) (by assumption) (by omega) (by omega) (by assumption) (by assumption) (by assumption) (by assumption) | exact ⟨2, 0, _, ln_apart (by assumption) (by assumption) (by omega) (by omega) (by assumption) (by assumption) (by assumption) (by assumption) (by assumption), Or.inr (Or.inr (Or.inl ⟨rfl, rfl, rfl, rfl, rfl⟩))⟩ | exact ln_apartN (by assumption) (by assumption) (by omega) (by omega) (by assumption) (by assumption) (by assumption) (by assumption) | exact le_walk (by assumption) (by assumption) (by omega) (by omega) (by assumption) (by assumption) | exact ln_walkN (by assumption) (by assumption) (by omega) (by omega) (by assumption) (by assumption) | exact ln_none (by assumption) (by assumption) (by omega) (by omega) (by assumption) (by assumption) (by assumption) (by assumption) rfl))⟩)), (show tst_c11.toInt ≤ ten_c12.toInt from by (try rw [show (0 : Int32).toInt = 0 from (show (0 : Int32).toInt = 0 from rfl)]); omega), (show ten_c12.toInt ≤ len.toInt from by (try rw [show (0 : Int32).toInt = 0 from (show (0 : Int32).toInt = 0 from rfl)]); omega), h9_2, h9_3⟩, by rw [ht]; exact hP, hD⟩, hS.F ht⟩) hS.2.2 dX7_readLine_18
  · refine lv_if_eq (tgt := 19) hx hb dX7_readLine_10 (by decide) (fun _ => ?_) (fun c9 => absurd (by decide) c9)
    refine lv_aload_n hx hb dX7_readLine_19 rfl (lv_at hl 0 rfl) ?_
    refine va_ldcS hx hb hown hSV.2.2.1 dX7_readLine_20 ?_
    refine rdVT (As := [.ref (ak 1)]) (rest := []) ⟨hx, hb, hml, hown, hts⟩ (k_X7_tokenIs2 l dC dI cI cZ cQ a byt len tst_c4 ten_c5 (ak 1) (av 1) (lenS.getD 1 0) (fS 1) r_len h2_4 h2_5 (by omega) (by decide)) (cwV 1 hts gX7_readLine_X7_tokenIs rfl rfl rfl (by decide +kernel) ⟨Nat.le_of_ble_eq_true rfl, Nat.le_of_ble_eq_true rfl⟩) (((hSV.kept hS.2.1).1 1 (by decide)).narrow (fun _ h => h.elim)) hP hK hN [0, 1] rfl 0 7 rfl rfl rfl hl.1 rfl (Nat.le_of_ble_eq_true rfl) dX7_readLine_22 ⟨Nat.le_of_ble_eq_true rfl, Nat.le_of_ble_eq_true rfl⟩ (fun r14 h15 => ?_)
    have h15 : ((((r14 = 1) ∧ (wdP byt tst_c4.toInt ten_c5.toInt (lenS.getD 1 0) (fS 1))) ∨ ((r14 = 0) ∧ (¬ wdP byt tst_c4.toInt ten_c5.toInt (lenS.getD 1 0) (fS 1))))) := h15
    rcases h15 with (⟨rfl, h15_a0⟩ | ⟨rfl, h15_a0⟩)
    · refine lv_if_eq (tgt := 53) hx hb dX7_readLine_25 (by decide) (fun c9 => absurd c9 (by decide)) (fun _ => ?_)
      refine lv_aload_n hx hb dX7_readLine_28 rfl (lv_at hl 1 rfl) ?_
      refine lv_aload_n hx hb dX7_readLine_29 rfl (lv_at hl 0 rfl) ?_
      refine lv_iconst (v := 1) hx hb dX7_readLine_30 (by decide) ?_
      refine lv_bipush (v := 99) hx hb dX7_readLine_31 (by decide) ?_
      refine wrV (As := [.int 1, .int 99]) (rest := [.ref rb0]) (wr := [(rb0, .inr (5, [.ref rb1, .ref rb2, .int aga, .int apa, .int lin])), (rb1, .inl (cI, 8, .inl mos)), (rb2, .inl (cI, 8, .inl wev))]) (w2 := (fun u : US => (wTxR cI cZ cQ a rb0 rb1 rb2 byt len (u.1 0 0) (u.1 1 0) mos wev aga apa lin))) ⟨hx, hb, hml, hown, hts⟩ (k_X7_readNumber2 l dC dI cI cZ cQ a byt len tst_c4 ten_c5 _ (1 : Int32) (99 : Int32) r_len h2_4 h2_5 (by omega)) (cwV 2 hts gX7_readLine_X7_readNumber rfl rfl rfl (by decide +kernel) ⟨Nat.le_of_ble_eq_true rfl, Nat.le_of_ble_eq_true rfl⟩) hP hD hS hA hK hN [0, 1] [2, 3, 4] [3, 4, 0, 1, 2] rfl rfl (by decide) (by decide) (by decide) (fun _ => rfl) (by decide) 0 7 rfl rfl rfl hl.1 rfl (Nat.le_of_ble_eq_true rfl) dX7_readLine_33 ⟨Nat.le_of_ble_eq_true rfl, Nat.le_of_ble_eq_true rfl⟩ (fun r16 u18 H locs h17 hP hD hS => ?_)
      obtain ⟨tst_c19, etst_c19⟩ : ∃ f : Int32, f = (u18.1 0 0) := ⟨_, rfl⟩
      obtain ⟨ten_c20, eten_c20⟩ : ∃ f : Int32, f = (u18.1 1 0) := ⟨_, rfl⟩
      have hP : va_P (dC, dI) vwCl (wTxR cI cZ cQ a rb0 rb1 rb2 byt len tst_c19 ten_c20 mos wev aga apa lin) H := by rw [etst_c19, eten_c20]; exact hP
      have hD : va_D A (wTxR cI cZ cQ a rb0 rb1 rb2 byt len tst_c19 ten_c20 mos wev aga apa lin) := by rw [etst_c19, eten_c20]; exact hD
      have h17 : (tst_c19.toInt ≤ ten_c20.toInt) ∧ (ten_c20.toInt ≤ len.toInt) ∧ (r16.toInt = -1 ∨ ((1) ≤ r16.toInt ∧ r16.toInt ≤ (99))) ∧ (tst_c19.toInt = tS byt len.toInt ten_c5.toInt) ∧ (ten_c20.toInt = nx byt len.toInt ten_c5.toInt) ∧ (nuP byt len.toInt ten_c5.toInt (1) (99) r16) ∧ (0 ≤ tst_c19.toInt ∧ tst_c19.toInt ≤ 160) ∧ (0 ≤ ten_c20.toInt ∧ ten_c20.toInt ≤ 160) := by (try rw [etst_c19]); (try rw [eten_c20]); exact h17
      obtain ⟨h17_0, h17_1, h17_2, h17_3, h17_4, h17_5, h17_6, h17_7⟩ := h17
      refine va_putN (D := (dC, dI)) (ci := 5) (v := .int r16) (ty := .int) (C := RX5) (T := TX5) (N := 5) hx hb hts inX5 tyX5 tyX5_ok nmX5 hown hK hP hD hS 2 rfl rfl 2 (by decide) lf57 (fun _ h9 => h9) rfl (by decide +kernel) rfl rfl (Nat.le_of_ble_eq_true rfl) dX7_readLine_36 (fun H locs hP hD hS => ?_)
      have hP : va_P (dC, dI) vwCl (wTxR cI cZ cQ a rb0 rb1 rb2 byt len tst_c19 ten_c20 mos wev r16 apa lin) H := hP
      have hD : va_D A (wTxR cI cZ cQ a rb0 rb1 rb2 byt len tst_c19 ten_c20 mos wev r16 apa lin) := hD
      refine lv_aload_n hx hb dX7_readLine_39 rfl (lv_at hl 1 rfl) ?_
      refine va_getN (D := (dC, dI)) (ci := 5) (v := .int r16) (C := RX5) (T := TX5) (N := 5) hx hb hts inX5 hown hK hP 2 rfl rfl 2 (by decide) lf57 (fun _ h9 => h9) rfl dX7_readLine_40 ?_
      refine lv_iconst (v := (-1)) hx hb dX7_readLine_43 (by decide) ?_
      refine lv_icmp_eq (tgt := 51) hx hb dX7_readLine_44 (by decide) (fun c21 => ?_) (fun c21 => ?_)
      · have dc21 : r16.toInt = (-1) := eqC rfl (show ((-1) : Int32).toInt = (-1) from rfl) c21
        refine lv_iconst (v := 0) hx hb dX7_readLine_51 (by decide) ?_
        exact W.zret (v := 0) hx hb hr (by decide) (fun tq ht hW => ⟨⟨0, (uS [(fun _ => tst_c19), (fun _ => ten_c20), mos, wev, (fun _ => r16), (fun _ => apa)] 0 (fun _ => 0)), rfl, ⟨(Or.inr (⟨rfl, (show lnN byt len.toInt ten.toInt tst_c19.toInt from by (try rw [show (0 : Int32).toInt = 0 from (show (0 : Int32).toInt = 0 from rfl)]); (first | exact le_room (by assumption) (by assumption) (by omega) (by omega) (by assumption) (by assumption) | exact ln_roomN (by assumption) (by assumption) (by omega) (by omega) (by assumption) (by assumption) | exact ⟨1, 0, _, ln_again (by assumption) (by assumption) (by omega) (by omega) (by assumption) (by assumption) (by assumption) (by assumption) (by assumption), Or.inr (Or.inl ⟨rfl, rfl, rfl, rfl, rfl⟩)⟩ | exact ln_againN (by assumption) (by assumption) (by omega) (by omega) (by assumption) (by assumption) (by assumption) (by assumption) | exact ⟨2, 0, _, ln_apart (by assumption) (by assumption) (by omega) (by omega) (by assumption) (by assumption) (by assumption) (by assumption) (by assumption), Or.inr (Or.inr (Or.inl ⟨rfl, rfl, rfl, rfl, rfl⟩))⟩ | exact ln_apartN (by assumption) (by assumption) (by omega) (by omega) (by assumption) (by assumption) (by assumption) (by assumption) | exact le_walk (by assumption) (by assumption) (by omega) (by omega) (by assumption) (by assumption) | exact ln_walkN (by assumption) (by assumption) (by omega) (by omega) (by assumption) (by assumption) | exact ln_none (by assumption) (by assumption) (by omega) (by omega) (by assumption) (by assumption) (by assumption) (by assumption) rfl))⟩)), (show tst_c19.toInt ≤ ten_c20.toInt from by (try rw [show (0 : Int32).toInt = 0 from (show (0 : Int32).toInt = 0 from rfl)]); omega), (show ten_c20.toInt ≤ len.toInt from by (try rw [show (0 : Int32).toInt = 0 from (show (0 : Int32).toInt = 0 from rfl)]); omega), h17_6, h17_7⟩, by rw [ht]; exact hP, hD⟩, hS.F ht⟩) hS.2.2 dX7_readLine_52
      · have dc21 : r16.toInt ≠ (-1) := neC rfl (show ((-1) : Int32).toInt = (-1) from rfl) c21
        refine lv_iconst (v := 1) hx hb dX7_readLine_47 (by decide) ?_
        refine lv_goto (tgt := 52) hx hb dX7_readLine_48 (by decide) ?_
        exact W.zret (v := 1) hx hb hr (by decide) (fun tq ht hW => ⟨⟨1, (uS [(fun _ => tst_c19), (fun _ => ten_c20), mos, wev, (fun _ => r16), (fun _ => apa)] 0 (fun _ => 0)), rfl, ⟨(Or.inl (⟨rfl, (show lnE byt len.toInt ten.toInt tst_c19.toInt ten_c20.toInt mos wev aga apa mos wev r16 apa from by (try rw [show (1 : Int32).toInt = 1 from (show (1 : Int32).toInt = 1 from rfl)]); (first | exact le_room (by assumption) (by assumption) (by omega) (by omega) (by assumption) (by assumption) | exact ln_roomN (by assumption) (by assumption) (by omega) (by omega) (by assumption) (by assumption) | exact ⟨1, 0, _, ln_again (by assumption) (by assumption) (by omega) (by omega) (by assumption) (by assumption) (by assumption) (by assumption) (by assumption), Or.inr (Or.inl ⟨rfl, rfl, rfl, rfl, rfl⟩)⟩ | exact ln_againN (by assumption) (by assumption) (by omega) (by omega) (by assumption) (by assumption) (by assumption) (by assumption) | exact ⟨2, 0, _, ln_apart (by assumption) (by assumption) (by omega) (by omega) (by assumption) (by assumption) (by assumption) (by assumption) (by assumption), Or.inr (Or.inr (Or.inl ⟨rfl, rfl, rfl, rfl, rfl⟩))⟩ | exact ln_apartN (by assumption) (by assumption) (by omega) (by omega) (by assumption) (by assumption) (by assumption) (by assumption) | exact le_walk (by assumption) (by assumption) (by omega) (by omega) (by assumption) (by assumption) | exact ln_walkN (by assumption) (by assumption) (by omega) (by omega) (by assumption) (by assumption) | exact ln_none (by assumption) (by assumption) (by omega) (by omega) (by assumption) (by assumption) (by assumption) (by assumption) rfl))⟩)), (show tst_c19.toInt ≤ ten_c20.toInt from by (try rw [show (1 : Int32).toInt = 1 from (show (1 : Int32).toInt = 1 from rfl)]); omega), (show ten_c20.toInt ≤ len.toInt from by (try rw [show (1 : Int32).toInt = 1 from (show (1 : Int32).toInt = 1 from rfl)]); omega), h17_6, h17_7⟩, by rw [ht]; exact hP, hD⟩, hS.F ht⟩) hS.2.2 dX7_readLine_52
    · refine lv_if_eq (tgt := 53) hx hb dX7_readLine_25 (by decide) (fun _ => ?_) (fun c9 => absurd (by decide) c9)
      refine lv_aload_n hx hb dX7_readLine_53 rfl (lv_at hl 0 rfl) ?_
      refine va_ldcS hx hb hown hSV.2.2.2.1 dX7_readLine_54 ?_
      refine rdVT (As := [.ref (ak 2)]) (rest := []) ⟨hx, hb, hml, hown, hts⟩ (k_X7_tokenIs2 l dC dI cI cZ cQ a byt len tst_c4 ten_c5 (ak 2) (av 2) (lenS.getD 2 0) (fS 2) r_len h2_4 h2_5 (by omega) (by decide)) (cwV 1 hts gX7_readLine_X7_tokenIs rfl rfl rfl (by decide +kernel) ⟨Nat.le_of_ble_eq_true rfl, Nat.le_of_ble_eq_true rfl⟩) (((hSV.kept hS.2.1).1 2 (by decide)).narrow (fun _ h => h.elim)) hP hK hN [0, 1] rfl 0 7 rfl rfl rfl hl.1 rfl (Nat.le_of_ble_eq_true rfl) dX7_readLine_56 ⟨Nat.le_of_ble_eq_true rfl, Nat.le_of_ble_eq_true rfl⟩ (fun r22 h23 => ?_)
      have h23 : ((((r22 = 1) ∧ (wdP byt tst_c4.toInt ten_c5.toInt (lenS.getD 2 0) (fS 2))) ∨ ((r22 = 0) ∧ (¬ wdP byt tst_c4.toInt ten_c5.toInt (lenS.getD 2 0) (fS 2))))) := h23
      rcases h23 with (⟨rfl, h23_a0⟩ | ⟨rfl, h23_a0⟩)
      · refine lv_if_eq (tgt := 87) hx hb dX7_readLine_59 (by decide) (fun c9 => absurd c9 (by decide)) (fun _ => ?_)
        refine lv_aload_n hx hb dX7_readLine_62 rfl (lv_at hl 1 rfl) ?_
        refine lv_aload_n hx hb dX7_readLine_63 rfl (lv_at hl 0 rfl) ?_
        refine lv_iconst (v := 0) hx hb dX7_readLine_64 (by decide) ?_
        refine lv_bipush (v := 8) hx hb dX7_readLine_65 (by decide) ?_
        refine wrV (As := [.int 0, .int 8]) (rest := [.ref rb0]) (wr := [(rb0, .inr (5, [.ref rb1, .ref rb2, .int aga, .int apa, .int lin])), (rb1, .inl (cI, 8, .inl mos)), (rb2, .inl (cI, 8, .inl wev))]) (w2 := (fun u : US => (wTxR cI cZ cQ a rb0 rb1 rb2 byt len (u.1 0 0) (u.1 1 0) mos wev aga apa lin))) ⟨hx, hb, hml, hown, hts⟩ (k_X7_readNumber2 l dC dI cI cZ cQ a byt len tst_c4 ten_c5 _ (0 : Int32) (8 : Int32) r_len h2_4 h2_5 (by omega)) (cwV 2 hts gX7_readLine_X7_readNumber rfl rfl rfl (by decide +kernel) ⟨Nat.le_of_ble_eq_true rfl, Nat.le_of_ble_eq_true rfl⟩) hP hD hS hA hK hN [0, 1] [2, 3, 4] [3, 4, 0, 1, 2] rfl rfl (by decide) (by decide) (by decide) (fun _ => rfl) (by decide) 0 7 rfl rfl rfl hl.1 rfl (Nat.le_of_ble_eq_true rfl) dX7_readLine_67 ⟨Nat.le_of_ble_eq_true rfl, Nat.le_of_ble_eq_true rfl⟩ (fun r24 u26 H locs h25 hP hD hS => ?_)
        obtain ⟨tst_c27, etst_c27⟩ : ∃ f : Int32, f = (u26.1 0 0) := ⟨_, rfl⟩
        obtain ⟨ten_c28, eten_c28⟩ : ∃ f : Int32, f = (u26.1 1 0) := ⟨_, rfl⟩
        have hP : va_P (dC, dI) vwCl (wTxR cI cZ cQ a rb0 rb1 rb2 byt len tst_c27 ten_c28 mos wev aga apa lin) H := by rw [etst_c27, eten_c28]; exact hP
        have hD : va_D A (wTxR cI cZ cQ a rb0 rb1 rb2 byt len tst_c27 ten_c28 mos wev aga apa lin) := by rw [etst_c27, eten_c28]; exact hD
        have h25 : (tst_c27.toInt ≤ ten_c28.toInt) ∧ (ten_c28.toInt ≤ len.toInt) ∧ (r24.toInt = -1 ∨ ((0) ≤ r24.toInt ∧ r24.toInt ≤ (8))) ∧ (tst_c27.toInt = tS byt len.toInt ten_c5.toInt) ∧ (ten_c28.toInt = nx byt len.toInt ten_c5.toInt) ∧ (nuP byt len.toInt ten_c5.toInt (0) (8) r24) ∧ (0 ≤ tst_c27.toInt ∧ tst_c27.toInt ≤ 160) ∧ (0 ≤ ten_c28.toInt ∧ ten_c28.toInt ≤ 160) := by (try rw [etst_c27]); (try rw [eten_c28]); exact h25
        obtain ⟨h25_0, h25_1, h25_2, h25_3, h25_4, h25_5, h25_6, h25_7⟩ := h25
        refine va_putN (D := (dC, dI)) (ci := 5) (v := .int r24) (ty := .int) (C := RX5) (T := TX5) (N := 5) hx hb hts inX5 tyX5 tyX5_ok nmX5 hown hK hP hD hS 2 rfl rfl 3 (by decide) lf61 (fun _ h9 => h9) rfl (by decide +kernel) rfl rfl (Nat.le_of_ble_eq_true rfl) dX7_readLine_70 (fun H locs hP hD hS => ?_)
        have hP : va_P (dC, dI) vwCl (wTxR cI cZ cQ a rb0 rb1 rb2 byt len tst_c27 ten_c28 mos wev aga r24 lin) H := hP
        have hD : va_D A (wTxR cI cZ cQ a rb0 rb1 rb2 byt len tst_c27 ten_c28 mos wev aga r24 lin) := hD
        refine lv_aload_n hx hb dX7_readLine_73 rfl (lv_at hl 1 rfl) ?_
        refine va_getN (D := (dC, dI)) (ci := 5) (v := .int r24) (C := RX5) (T := TX5) (N := 5) hx hb hts inX5 hown hK hP 2 rfl rfl 3 (by decide) lf61 (fun _ h9 => h9) rfl dX7_readLine_74 ?_
        refine lv_iconst (v := (-1)) hx hb dX7_readLine_77 (by decide) ?_
        refine lv_icmp_eq (tgt := 85) hx hb dX7_readLine_78 (by decide) (fun c29 => ?_) (fun c29 => ?_)
        · have dc29 : r24.toInt = (-1) := eqC rfl (show ((-1) : Int32).toInt = (-1) from rfl) c29
          refine lv_iconst (v := 0) hx hb dX7_readLine_85 (by decide) ?_
          exact W.zret (v := 0) hx hb hr (by decide) (fun tq ht hW => ⟨⟨0, (uS [(fun _ => tst_c27), (fun _ => ten_c28), mos, wev, (fun _ => aga), (fun _ => r24)] 0 (fun _ => 0)), rfl, ⟨(Or.inr (⟨rfl, (show lnN byt len.toInt ten.toInt tst_c27.toInt from by (try rw [show (0 : Int32).toInt = 0 from (show (0 : Int32).toInt = 0 from rfl)]); (first | exact le_room (by assumption) (by assumption) (by omega) (by omega) (by assumption) (by assumption) | exact ln_roomN (by assumption) (by assumption) (by omega) (by omega) (by assumption) (by assumption) | exact ⟨1, 0, _, ln_again (by assumption) (by assumption) (by omega) (by omega) (by assumption) (by assumption) (by assumption) (by assumption) (by assumption), Or.inr (Or.inl ⟨rfl, rfl, rfl, rfl, rfl⟩)⟩ | exact ln_againN (by assumption) (by assumption) (by omega) (by omega) (by assumption) (by assumption) (by assumption) (by assumption) | exact ⟨2, 0, _, ln_apart (by assumption) (by assumption) (by omega) (by omega) (by assumption) (by assumption) (by assumption) (by assumption) (by assumption), Or.inr (Or.inr (Or.inl ⟨rfl, rfl, rfl, rfl, rfl⟩))⟩ | exact ln_apartN (by assumption) (by assumption) (by omega) (by omega) (by assumption) (by assumption) (by assumption) (by assumption) | exact le_walk (by assumption) (by assumption) (by omega) (by omega) (by assumption) (by assumption) | exact ln_walkN (by assumption) (by assumption) (by omega) (by omega) (by assumption) (by assumption) | exact ln_none (by assumption) (by assumption) (by omega) (by omega) (by assumption) (by assumption) (by assumption) (by assumption) rfl))⟩)), (show tst_c27.toInt ≤ ten_c28.toInt from by (try rw [show (0 : Int32).toInt = 0 from (show (0 : Int32).toInt = 0 from rfl)]); omega), (show ten_c28.toInt ≤ len.toInt from by (try rw [show (0 : Int32).toInt = 0 from (show (0 : Int32).toInt = 0 from rfl)]); omega), h25_6, h25_7⟩, by rw [ht]; exact hP, hD⟩, hS.F ht⟩) hS.2.2 dX7_readLine_86
        · have dc29 : r24.toInt ≠ (-1) := neC rfl (show ((-1) : Int32).toInt = (-1) from rfl) c29
          refine lv_iconst (v := 1) hx hb dX7_readLine_81 (by decide) ?_
          refine lv_goto (tgt := 86) hx hb dX7_readLine_82 (by decide) ?_
          exact W.zret (v := 1) hx hb hr (by decide) (fun tq ht hW => ⟨⟨1, (uS [(fun _ => tst_c27), (fun _ => ten_c28), mos, wev, (fun _ => aga), (fun _ => r24)] 0 (fun _ => 0)), rfl, ⟨(Or.inl (⟨rfl, (show lnE byt len.toInt ten.toInt tst_c27.toInt ten_c28.toInt mos wev aga apa mos wev aga r24 from by (try rw [show (1 : Int32).toInt = 1 from (show (1 : Int32).toInt = 1 from rfl)]); (first | exact le_room (by assumption) (by assumption) (by omega) (by omega) (by assumption) (by assumption) | exact ln_roomN (by assumption) (by assumption) (by omega) (by omega) (by assumption) (by assumption) | exact ⟨1, 0, _, ln_again (by assumption) (by assumption) (by omega) (by omega) (by assumption) (by assumption) (by assumption) (by assumption) (by assumption), Or.inr (Or.inl ⟨rfl, rfl, rfl, rfl, rfl⟩)⟩ | exact ln_againN (by assumption) (by assumption) (by omega) (by omega) (by assumption) (by assumption) (by assumption) (by assumption) | exact ⟨2, 0, _, ln_apart (by assumption) (by assumption) (by omega) (by omega) (by assumption) (by assumption) (by assumption) (by assumption) (by assumption), Or.inr (Or.inr (Or.inl ⟨rfl, rfl, rfl, rfl, rfl⟩))⟩ | exact ln_apartN (by assumption) (by assumption) (by omega) (by omega) (by assumption) (by assumption) (by assumption) (by assumption) | exact le_walk (by assumption) (by assumption) (by omega) (by omega) (by assumption) (by assumption) | exact ln_walkN (by assumption) (by assumption) (by omega) (by omega) (by assumption) (by assumption) | exact ln_none (by assumption) (by assumption) (by omega) (by omega) (by assumption) (by assumption) (by assumption) (by assumption) rfl))⟩)), (show tst_c27.toInt ≤ ten_c28.toInt from by (try rw [show (1 : Int32).toInt = 1 from (show (1 : Int32).toInt = 1 from rfl)]); omega), (show ten_c28.toInt ≤ len.toInt from by (try rw [show (1 : Int32).toInt = 1 from (show (1 : Int32).toInt = 1 from rfl)]); omega), h25_6, h25_7⟩, by rw [ht]; exact hP, hD⟩, hS.F ht⟩) hS.2.2 dX7_readLine_86
      · refine lv_if_eq (tgt := 87) hx hb dX7_readLine_59 (by decide) (fun _ => ?_) (fun c9 => absurd (by decide) c9)
        refine lv_aload_n hx hb dX7_readLine_87 rfl (lv_at hl 0 rfl) ?_
        refine va_ldcS hx hb hown hSV.2.2.2.2.1 dX7_readLine_88 ?_
        refine rdVT (As := [.ref (ak 3)]) (rest := []) ⟨hx, hb, hml, hown, hts⟩ (k_X7_tokenIs2 l dC dI cI cZ cQ a byt len tst_c4 ten_c5 (ak 3) (av 3) (lenS.getD 3 0) (fS 3) r_len h2_4 h2_5 (by omega) (by decide)) (cwV 1 hts gX7_readLine_X7_tokenIs rfl rfl rfl (by decide +kernel) ⟨Nat.le_of_ble_eq_true rfl, Nat.le_of_ble_eq_true rfl⟩) (((hSV.kept hS.2.1).1 3 (by decide)).narrow (fun _ h => h.elim)) hP hK hN [0, 1] rfl 0 7 rfl rfl rfl hl.1 rfl (Nat.le_of_ble_eq_true rfl) dX7_readLine_90 ⟨Nat.le_of_ble_eq_true rfl, Nat.le_of_ble_eq_true rfl⟩ (fun r30 h31 => ?_)
        have h31 : ((((r30 = 1) ∧ (wdP byt tst_c4.toInt ten_c5.toInt (lenS.getD 3 0) (fS 3))) ∨ ((r30 = 0) ∧ (¬ wdP byt tst_c4.toInt ten_c5.toInt (lenS.getD 3 0) (fS 3))))) := h31
        rcases h31 with (⟨rfl, h31_a0⟩ | ⟨rfl, h31_a0⟩)
        · refine lv_if_eq (tgt := 108) hx hb dX7_readLine_93 (by decide) (fun c9 => absurd c9 (by decide)) (fun _ => ?_)
          refine lv_aload_n hx hb dX7_readLine_96 rfl (lv_at hl 0 rfl) ?_
          refine lv_aload_n hx hb dX7_readLine_97 rfl (lv_at hl 1 rfl) ?_
          refine wrVS (As := [.ref rb0]) (rest := []) (wr := []) (w2 := (fun u : US => (wTxR cI cZ cQ a rb0 rb1 rb2 byt len (u.1 0 0) (u.1 1 0) mos (u.1 2) aga apa lin))) ⟨hx, hb, hml, hown, hts⟩ (k_X7_readWalkLine2 l dC dI cI cZ cQ a rb0 rb1 rb2 byt len tst_c4 ten_c5 mos wev aga apa lin ak av _ r_len h2_4 h2_5 (by omega)) (cwV 1 hts gX7_readLine_X7_readWalkLine rfl rfl rfl (by decide +kernel) ⟨Nat.le_of_ble_eq_true rfl, Nat.le_of_ble_eq_true rfl⟩) (hSV.kept hS.2.1) hP hD hS hA hK hN [0, 1, 2, 3, 4] [] [0, 1, 2, 3, 4] rfl rfl (by decide) (by decide) (by decide) (fun _ => rfl) (by decide) 0 7 rfl rfl rfl hl.1 rfl (Nat.le_of_ble_eq_true rfl) dX7_readLine_98 ⟨Nat.le_of_ble_eq_true rfl, Nat.le_of_ble_eq_true rfl⟩ (fun r32 u34 H locs h33 hP hD hS => ?_)
          obtain ⟨tst_c35, etst_c35⟩ : ∃ f : Int32, f = (u34.1 0 0) := ⟨_, rfl⟩
          obtain ⟨ten_c36, eten_c36⟩ : ∃ f : Int32, f = (u34.1 1 0) := ⟨_, rfl⟩
          obtain ⟨wev_c37, ewev_c37⟩ : ∃ f : Nat → Int32, f = (u34.1 2) := ⟨_, rfl⟩
          have hP : va_P (dC, dI) vwCl (wTxR cI cZ cQ a rb0 rb1 rb2 byt len tst_c35 ten_c36 mos wev_c37 aga apa lin) H := by rw [etst_c35, eten_c36, ewev_c37]; exact hP
          have hD : va_D A (wTxR cI cZ cQ a rb0 rb1 rb2 byt len tst_c35 ten_c36 mos wev_c37 aga apa lin) := by rw [etst_c35, eten_c36, ewev_c37]; exact hD
          have h33 : ((((r32 = 1) ∧ (∃ x y : Int32, wkT byt len.toInt ten_c5.toInt x y tst_c35.toInt ten_c36.toInt ∧ wev_c37 = upd wev x.toNatClampNeg y)) ∨ ((r32 = 0) ∧ (wkN byt len.toInt ten_c5.toInt tst_c35.toInt)))) ∧ (tst_c35.toInt ≤ ten_c36.toInt) ∧ (ten_c36.toInt ≤ len.toInt) ∧ (0 ≤ tst_c35.toInt ∧ tst_c35.toInt ≤ 160) ∧ (0 ≤ ten_c36.toInt ∧ ten_c36.toInt ≤ 160) := by (try rw [etst_c35]); (try rw [eten_c36]); (try rw [ewev_c37]); exact h33
          rcases h33 with ⟨(⟨rfl, h33_a0⟩ | ⟨rfl, h33_a0⟩), h33_0, h33_1, h33_2, h33_3⟩
          · refine lv_if_eq (tgt := 108) hx hb dX7_readLine_101 (by decide) (fun c9 => absurd c9 (by decide)) (fun _ => ?_)
            refine lv_iconst (v := 1) hx hb dX7_readLine_104 (by decide) ?_
            refine lv_goto (tgt := 109) hx hb dX7_readLine_105 (by decide) ?_
            exact W.zret (v := 1) hx hb hr (by decide) (fun tq ht hW => ⟨⟨1, (uS [(fun _ => tst_c35), (fun _ => ten_c36), mos, wev_c37, (fun _ => aga), (fun _ => apa)] 0 (fun _ => 0)), rfl, ⟨(Or.inl (⟨rfl, (show lnE byt len.toInt ten.toInt tst_c35.toInt ten_c36.toInt mos wev aga apa mos wev_c37 aga apa from by (try rw [show (1 : Int32).toInt = 1 from (show (1 : Int32).toInt = 1 from rfl)]); (first | exact le_room (by assumption) (by assumption) (by omega) (by omega) (by assumption) (by assumption) | exact ln_roomN (by assumption) (by assumption) (by omega) (by omega) (by assumption) (by assumption) | exact ⟨1, 0, _, ln_again (by assumption) (by assumption) (by omega) (by omega) (by assumption) (by assumption) (by assumption) (by assumption) (by assumption), Or.inr (Or.inl ⟨rfl, rfl, rfl, rfl, rfl⟩)⟩ | exact ln_againN (by assumption) (by assumption) (by omega) (by omega) (by assumption) (by assumption) (by assumption) (by assumption) | exact ⟨2, 0, _, ln_apart (by assumption) (by assumption) (by omega) (by omega) (by assumption) (by assumption) (by assumption) (by assumption) (by assumption), Or.inr (Or.inr (Or.inl ⟨rfl, rfl, rfl, rfl, rfl⟩))⟩ | exact ln_apartN (by assumption) (by assumption) (by omega) (by omega) (by assumption) (by assumption) (by assumption) (by assumption) | exact le_walk (by assumption) (by assumption) (by omega) (by omega) (by assumption) (by assumption) | exact ln_walkN (by assumption) (by assumption) (by omega) (by omega) (by assumption) (by assumption) | exact ln_none (by assumption) (by assumption) (by omega) (by omega) (by assumption) (by assumption) (by assumption) (by assumption) rfl))⟩)), (show tst_c35.toInt ≤ ten_c36.toInt from by (try rw [show (1 : Int32).toInt = 1 from (show (1 : Int32).toInt = 1 from rfl)]); omega), (show ten_c36.toInt ≤ len.toInt from by (try rw [show (1 : Int32).toInt = 1 from (show (1 : Int32).toInt = 1 from rfl)]); omega), h33_2, h33_3⟩, by rw [ht]; exact hP, hD⟩, hS.F ht⟩) hS.2.2 dX7_readLine_109
          · refine lv_if_eq (tgt := 108) hx hb dX7_readLine_101 (by decide) (fun _ => ?_) (fun c9 => absurd (by decide) c9)
            refine lv_iconst (v := 0) hx hb dX7_readLine_108 (by decide) ?_
            exact W.zret (v := 0) hx hb hr (by decide) (fun tq ht hW => ⟨⟨0, (uS [(fun _ => tst_c35), (fun _ => ten_c36), mos, wev_c37, (fun _ => aga), (fun _ => apa)] 0 (fun _ => 0)), rfl, ⟨(Or.inr (⟨rfl, (show lnN byt len.toInt ten.toInt tst_c35.toInt from by (try rw [show (0 : Int32).toInt = 0 from (show (0 : Int32).toInt = 0 from rfl)]); (first | exact le_room (by assumption) (by assumption) (by omega) (by omega) (by assumption) (by assumption) | exact ln_roomN (by assumption) (by assumption) (by omega) (by omega) (by assumption) (by assumption) | exact ⟨1, 0, _, ln_again (by assumption) (by assumption) (by omega) (by omega) (by assumption) (by assumption) (by assumption) (by assumption) (by assumption), Or.inr (Or.inl ⟨rfl, rfl, rfl, rfl, rfl⟩)⟩ | exact ln_againN (by assumption) (by assumption) (by omega) (by omega) (by assumption) (by assumption) (by assumption) (by assumption) | exact ⟨2, 0, _, ln_apart (by assumption) (by assumption) (by omega) (by omega) (by assumption) (by assumption) (by assumption) (by assumption) (by assumption), Or.inr (Or.inr (Or.inl ⟨rfl, rfl, rfl, rfl, rfl⟩))⟩ | exact ln_apartN (by assumption) (by assumption) (by omega) (by omega) (by assumption) (by assumption) (by assumption) (by assumption) | exact le_walk (by assumption) (by assumption) (by omega) (by omega) (by assumption) (by assumption) | exact ln_walkN (by assumption) (by assumption) (by omega) (by omega) (by assumption) (by assumption) | exact ln_none (by assumption) (by assumption) (by omega) (by omega) (by assumption) (by assumption) (by assumption) (by assumption) rfl))⟩)), (show tst_c35.toInt ≤ ten_c36.toInt from by (try rw [show (0 : Int32).toInt = 0 from (show (0 : Int32).toInt = 0 from rfl)]); omega), (show ten_c36.toInt ≤ len.toInt from by (try rw [show (0 : Int32).toInt = 0 from (show (0 : Int32).toInt = 0 from rfl)]); omega), h33_2, h33_3⟩, by rw [ht]; exact hP, hD⟩, hS.F ht⟩) hS.2.2 dX7_readLine_109
        · refine lv_if_eq (tgt := 108) hx hb dX7_readLine_93 (by decide) (fun _ => ?_) (fun c9 => absurd (by decide) c9)
          refine lv_iconst (v := 0) hx hb dX7_readLine_108 (by decide) ?_
          exact W.zret (v := 0) hx hb hr (by decide) (fun tq ht hW => ⟨⟨0, (uS [(fun _ => tst_c4), (fun _ => ten_c5), mos, wev, (fun _ => aga), (fun _ => apa)] 0 (fun _ => 0)), rfl, ⟨(Or.inr (⟨rfl, (show lnN byt len.toInt ten.toInt tst_c4.toInt from by (try rw [show (0 : Int32).toInt = 0 from (show (0 : Int32).toInt = 0 from rfl)]); (first | exact le_room (by assumption) (by assumption) (by omega) (by omega) (by assumption) (by assumption) | exact ln_roomN (by assumption) (by assumption) (by omega) (by omega) (by assumption) (by assumption) | exact ⟨1, 0, _, ln_again (by assumption) (by assumption) (by omega) (by omega) (by assumption) (by assumption) (by assumption) (by assumption) (by assumption), Or.inr (Or.inl ⟨rfl, rfl, rfl, rfl, rfl⟩)⟩ | exact ln_againN (by assumption) (by assumption) (by omega) (by omega) (by assumption) (by assumption) (by assumption) (by assumption) | exact ⟨2, 0, _, ln_apart (by assumption) (by assumption) (by omega) (by omega) (by assumption) (by assumption) (by assumption) (by assumption) (by assumption), Or.inr (Or.inr (Or.inl ⟨rfl, rfl, rfl, rfl, rfl⟩))⟩ | exact ln_apartN (by assumption) (by assumption) (by omega) (by omega) (by assumption) (by assumption) (by assumption) (by assumption) | exact le_walk (by assumption) (by assumption) (by omega) (by omega) (by assumption) (by assumption) | exact ln_walkN (by assumption) (by assumption) (by omega) (by omega) (by assumption) (by assumption) | exact ln_none (by assumption) (by assumption) (by omega) (by omega) (by assumption) (by assumption) (by assumption) (by assumption) rfl))⟩)), (show tst_c4.toInt ≤ ten_c5.toInt from by (try rw [show (0 : Int32).toInt = 0 from (show (0 : Int32).toInt = 0 from rfl)]); omega), (show ten_c5.toInt ≤ len.toInt from by (try rw [show (0 : Int32).toInt = 0 from (show (0 : Int32).toInt = 0 from rfl)]); omega), h2_4, h2_5⟩, by rw [ht]; exact hP, hD⟩, hS.F ht⟩) hS.2.2 dX7_readLine_109
set_option maxHeartbeats 4000000 in
set_option maxRecDepth 100000 in
theorem k_X7_readInto2 (l : Launch) (dC : Nat → ClassId) (dI : Nat → Nat → Nat) (cI cZ cQ : ClassId) (a : Nat → Nat) (rb0 : Nat) (rb1 : Nat) (rb2 : Nat) (byt : Nat → Int32) (len : Int32) (tst : Int32) (ten : Int32) (mos : Nat → Int32) (wev : Nat → Int32) (aga : Int32) (apa : Int32) (lin : Int32) (ak av : Nat → Nat) (sz : Nat) (r_len : 0 ≤ len.toInt ∧ len.toInt ≤ 160) (r_tst : 0 ≤ tst.toInt ∧ tst.toInt ≤ 160) (r_ten : 0 ≤ ten.toInt ∧ ten.toInt ≤ 160) : KWS l yX7_readInto wsX7_readInto { frames := 7, cells := 0, slots := 0, locals := 150 } (dC, dI) (TY cI cZ cQ) (wTxR cI cZ cQ a rb0 rb1 rb2 byt len tst ten mos wev aga apa lin) ak av [.ref (a 14), .ref rb0] sz 0 0 (fun (r : Int32) (u : US) => (roC byt len.toInt r (u.1 2) (u.1 3) (u.1 4 0) (u.1 5 0) (u.1 6 0)) ∧ (0 ≤ (u.1 0 0).toInt ∧ (u.1 0 0).toInt ≤ 160) ∧ (0 ≤ (u.1 1 0).toInt ∧ (u.1 1 0).toInt ≤ 160)) (fun u : US => (wTxR cI cZ cQ a rb0 rb1 rb2 byt len (u.1 0 0) (u.1 1 0) (u.1 2) (u.1 3) (u.1 4 0) (u.1 5 0) (u.1 6 0))) := by
  refine Met.ofW (cc := cX7_readInto) (maxL := 3) (ret := (some .int)) (by decide) rfl ?_
  intro p e s m args below meth c s₁ B hml hv
  obtain ⟨rfl, hsz, hP, hK, hD0, hN, hSV⟩ := hv
  have hx := B.exec
  have hb := B.bytes
  have hr := B.returns
  have hts := atoms_spec (ws := wsX7_readInto) B.pre
  have hown : s.vm.findClass RX7 = some m.cls := findClass_of_methodNamed B.named
  have hlocks := B.notSynchronized
  have lf26 := hts (.fieldLink RX7 26 "PalaceOfRooms$Text" "tokenEnd" "I") (List.mem_cons_of_mem _ (List.mem_append_left _ (List.mem_append_left _ (List.mem_append_left _ (List.mem_of_getElem? (i := 0) rfl)))))
  have inX7 : ∀ w ∈ wsX70, w ∈ wsX7_readInto := fun w h => List.mem_cons_of_mem _ (List.mem_append_left _ (List.mem_append_right _ h))
  have lf33 := hts (.fieldLink RX7 33 "PalaceOfRooms$Text" "tokenStart" "I") (List.mem_cons_of_mem _ (List.mem_append_left _ (List.mem_append_left _ (List.mem_append_left _ (List.mem_of_getElem? (i := 1) rfl)))))
  have lf36 := hN.use (w := .fieldLinkNest "PalaceOfRooms$Text" 36 "PalaceOfRooms$RuleBook" "lines" "I" "PalaceOfRooms") (List.mem_of_getElem? (i := 29) rfl) ([.ref (a 14), .ref rb0] : List Value).toArray
  have inX5 : ∀ w ∈ wsX50, w ∈ wsX7_readInto := fun w h => List.mem_cons_of_mem _ (List.mem_append_right _ h)
  have lf15 := hts (.fieldLink RX7 15 "PalaceOfRooms$Text" "length" "I") (List.mem_cons_of_mem _ (List.mem_append_left _ (List.mem_append_left _ (List.mem_append_left _ (List.mem_of_getElem? (i := 2) rfl)))))
  have lf9 := hts (.fieldLink RX7 9 "PalaceOfRooms$Text" "bytes" "[I") (List.mem_cons_of_mem _ (List.mem_append_left _ (List.mem_append_left _ (List.mem_append_left _ (List.mem_of_getElem? (i := 3) rfl)))))
  subst hsz
  have hD := hD0.self (sz := s.heap.size)
  generalize hAe : va_A (wTxR cI cZ cQ a rb0 rb1 rb2 byt len tst ten mos wev aga apa lin) s.heap.size = A at hD hSV ⊢
  have hA : ∀ q : Nat, s.heap.size ≤ q → A q := fun q h => by rw [← hAe]; exact Or.inr h
  have hS : va_S A s.heap s.heap [] := va_S.rf
  have hl := lv_entry ([.ref (a 14), .ref rb0]) (n := 3) (Nat.le_of_ble_eq_true rfl)
  rw [lg_entry_eq]
  generalize (lg_sl ([.ref (a 14), .ref rb0]) ++ List.replicate (3 - (lg_sl ([.ref (a 14), .ref rb0])).length) Slot.unset).toArray = ls at hl ⊢
  have hl : lv_has ls 3 [(0, .ref (a 14)), (1, .ref rb0)] := hl
  refine lv_aload_n hx hb dX7_readInto_0 rfl (lv_at hl 1 rfl) ?_
  refine wvV (As := []) (rest := []) (wr := [((a 14), .inr (7, [.ref (a 15), .int len, .int tst, .int ten])), ((a 15), .inl (cI, 160, .inl byt))]) (w2 := (fun u : US => (wTxR cI cZ cQ a rb0 rb1 rb2 byt len tst ten (u.1 0) (u.1 1) (u.1 2 0) (u.1 3 0) (u.1 4 0)))) ⟨hx, hb, hml, hown, hts⟩ (k_X5_forget l dC dI cI cZ cQ rb0 rb1 rb2 mos wev aga apa lin _) (cwV 0 hts gX7_readInto_X5_forget rfl rfl rfl (by decide +kernel) ⟨Nat.le_of_ble_eq_true rfl, Nat.le_of_ble_eq_true rfl⟩) hP hD hS hA hK hN [2, 3, 4] [0, 1] [0, 1, 2, 3, 4] rfl rfl (by decide) (by decide) (by decide) (fun _ => rfl) (by decide) 2 5 rfl rfl rfl hl.1 rfl (Nat.le_of_ble_eq_true rfl) dX7_readInto_1 ⟨Nat.le_of_ble_eq_true rfl, Nat.le_of_ble_eq_true rfl⟩ (fun u3 H locs h2 hP hD hS => ?_)
  obtain ⟨mos_c4, emos_c4⟩ : ∃ f : Nat → Int32, f = (u3.1 0) := ⟨_, rfl⟩
  obtain ⟨wev_c5, ewev_c5⟩ : ∃ f : Nat → Int32, f = (u3.1 1) := ⟨_, rfl⟩
  obtain ⟨aga_c6, eaga_c6⟩ : ∃ f : Int32, f = (u3.1 2 0) := ⟨_, rfl⟩
  obtain ⟨apa_c7, eapa_c7⟩ : ∃ f : Int32, f = (u3.1 3 0) := ⟨_, rfl⟩
  obtain ⟨lin_c8, elin_c8⟩ : ∃ f : Int32, f = (u3.1 4 0) := ⟨_, rfl⟩
  have hP : va_P (dC, dI) vwCl (wTxR cI cZ cQ a rb0 rb1 rb2 byt len tst ten mos_c4 wev_c5 aga_c6 apa_c7 lin_c8) H := by rw [emos_c4, ewev_c5, eaga_c6, eapa_c7, elin_c8]; exact hP
  have hD : va_D A (wTxR cI cZ cQ a rb0 rb1 rb2 byt len tst ten mos_c4 wev_c5 aga_c6 apa_c7 lin_c8) := by rw [emos_c4, ewev_c5, eaga_c6, eapa_c7, elin_c8]; exact hD
  have h2 : (∀ j, j < 8 → mos_c4 j = -1) ∧ (∀ j, j < 8 → wev_c5 j = -1) ∧ (aga_c6 = -1) ∧ (apa_c7 = -1) ∧ (lin_c8 = 0) := by (try rw [emos_c4]); (try rw [ewev_c5]); (try rw [eaga_c6]); (try rw [eapa_c7]); (try rw [elin_c8]); exact h2
  obtain ⟨h2_0, h2_1, h2_2, h2_3, h2_4⟩ := h2
  refine lv_aload_n hx hb dX7_readInto_4 rfl (lv_at hl 0 rfl) ?_
  refine lv_iconst (v := 0) hx hb dX7_readInto_5 (by decide) ?_
  refine va_put (D := (dC, dI)) (ci := 7) (v := .int 0) (ty := .int) (C := RX7) (T := TX7) (N := 4) hx hb hts inX7 tyX7 tyX7_ok nmX7 hown hK hP hD hS 0 rfl rfl 3 (by decide) lf26 (fun _ h9 => h9) rfl (by decide +kernel) rfl rfl (Nat.le_of_ble_eq_true rfl) dX7_readInto_6 (fun H locs hP hD hS => ?_)
  have g9 : 0 ≤ (0 : Int32).toInt ∧ (0 : Int32).toInt ≤ 160 := by rw [show (0 : Int32).toInt = 0 from (show (0 : Int32).toInt = 0 from rfl)]; exact ⟨by omega, by omega⟩
  have hP : va_P (dC, dI) vwCl (wTxR cI cZ cQ a rb0 rb1 rb2 byt len tst 0 mos_c4 wev_c5 aga_c6 apa_c7 lin_c8) H := hP
  have hD : va_D A (wTxR cI cZ cQ a rb0 rb1 rb2 byt len tst 0 mos_c4 wev_c5 aga_c6 apa_c7 lin_c8) := hD
  refine lv_iconst (v := 0) hx hb dX7_readInto_9 (by decide) ?_
  refine lv_istore_n (lv' := [(2, .int 0), (0, .ref (a 14)), (1, .ref rb0)]) hx hb dX7_readInto_10 rfl hl (by decide) rfl (fun ls hl => ?_)
  have L11 : ∀ (nn : Nat) (y11_2 : Int32) (tst_11 : Int32) (ten_11 : Int32) (mos_11 : Nat → Int32) (wev_11 : Nat → Int32) (aga_11 : Int32) (apa_11 : Int32) (lin_11 : Int32) (H : Heap) (locs : List Loc) (ls : Array Slot), (0 ≤ tst_11.toInt ∧ tst_11.toInt ≤ 160) → (0 ≤ ten_11.toInt ∧ ten_11.toInt ≤ 160) → (0 ≤ (y11_2.toInt)) → ((y11_2.toInt) ≤ 10) → (ten_11.toInt ≤ len.toInt) → (rdB byt len.toInt ((y11_2.toInt)).toNat ten_11.toInt mos_11 wev_11 aga_11 apa_11) → (lin_11 = nI ((y11_2.toInt)).toNat) → ((y11_2.toInt) ≤ 9 ∨ roX byt len.toInt tst_11.toInt) → (10 - (y11_2.toInt)).toNat < nn → va_P (dC, dI) vwCl (wTxR cI cZ cQ a rb0 rb1 rb2 byt len tst_11 ten_11 mos_11 wev_11 aga_11 apa_11 lin_11) H → va_D A (wTxR cI cZ cQ a rb0 rb1 rb2 byt len tst_11 ten_11 mos_11 wev_11 aga_11 apa_11 lin_11) → va_S A s.heap H locs → lv_has ls 3 [(0, .ref (a 14)), (1, .ref rb0), (2, .int y11_2)] → W p l e (headSpec wsX7_readInto { frames := 7, cells := 0, slots := 0, locals := 150 }).room s m ([.ref (a 14), .ref rb0] : List Value).toArray below meth c H locs 0 0 (MQ below (va_Qi (fun (r : Int32) (u : US) => (roC byt len.toInt r (u.1 2) (u.1 3) (u.1 4 0) (u.1 5 0) (u.1 6 0)) ∧ (0 ≤ (u.1 0 0).toInt ∧ (u.1 0 0).toInt ≤ 160) ∧ (0 ≤ (u.1 1 0).toInt ∧ (u.1 1 0).toInt ≤ 160)) (Bw (dC, dI) A (fun u : US => (wTxR cI cZ cQ a rb0 rb1 rb2 byt len (u.1 0 0) (u.1 1 0) (u.1 2) (u.1 3) (u.1 4 0) (u.1 5 0) (u.1 6 0)))) A) ([.ref (a 14), .ref rb0] : List Value).toArray s 0 0 A) (F0 m 11 ls []) := by
    intro nn
    induction nn with
    | zero =>
      intro y11_2 tst_11 ten_11 mos_11 wev_11 aga_11 apa_11 lin_11 H locs ls r_tst_11 r_ten_11 i11_0 i11_1 i11_2 i11_3 i11_4 i11_5 hm11
      exact absurd hm11 (Nat.not_lt_zero _)
    | succ nn ih11 =>
      intro y11_2 tst_11 ten_11 mos_11 wev_11 aga_11 apa_11 lin_11 H locs ls r_tst_11 r_ten_11 i11_0 i11_1 i11_2 i11_3 i11_4 i11_5 hm11 hP hD hS hl
      refine lv_iload_n hx hb dX7_readInto_11 rfl (lv_at hl 2 rfl) ?_
      refine lv_bipush (v := 10) hx hb dX7_readInto_12 (by decide) ?_
      refine lv_icmp_ge (tgt := 82) hx hb dX7_readInto_14 (by decide) (fun c10 => ?_) (fun c10 => ?_)
      · have dc10 : 10 ≤ y11_2.toInt := leC (show (10 : Int32).toInt = 10 from rfl) rfl c10
        refine lv_aload_n hx hb dX7_readInto_82 rfl (lv_at hl 0 rfl) ?_
        refine va_get (D := (dC, dI)) (ci := 7) (v := .int tst_11) (C := RX7) (T := TX7) (N := 4) hx hb hts inX7 hown hK hP 0 rfl rfl 2 (by decide) lf33 (fun _ h9 => h9) rfl dX7_readInto_83 ?_
        exact W.iret (v := tst_11) hx hb hr (fun tq ht hW => ⟨⟨tst_11, (uS [(fun _ => tst_11), (fun _ => ten_11), mos_11, wev_11, (fun _ => aga_11), (fun _ => apa_11), (fun _ => lin_11)] 0 (fun _ => 0)), rfl, ⟨(show roC byt len.toInt tst_11 mos_11 wev_11 aga_11 apa_11 lin_11 from by (first | exact ro_n i11_3 (by omega) (by assumption) | exact ro_ok i11_3 (by omega) (by assumption) (by assumption) (by omega) (by omega) rfl (li_s i11_4 (by assumption) (by omega) rfl) | exact ro_f i11_3 (by omega) (by assumption) (by assumption) (by omega) (Or.inl (by rw [← idx_eq]; omega)) rfl | exact (i11_5.resolve_left (by omega)) _ _ _ _ _ _ rfl)), r_tst_11, r_ten_11⟩, by rw [ht]; exact hP, hD⟩, hS.F ht⟩) hS.2.2 dX7_readInto_86
      · have dc10 : y11_2.toInt < 10 := nleC (show (10 : Int32).toInt = 10 from rfl) rfl c10
        refine lv_aload_n hx hb dX7_readInto_17 rfl (lv_at hl 0 rfl) ?_
        refine lv_aload_n hx hb dX7_readInto_18 rfl (lv_at hl 1 rfl) ?_
        refine wrVS (As := [.ref rb0]) (rest := []) (wr := []) (w2 := (fun u : US => (wTxR cI cZ cQ a rb0 rb1 rb2 byt len (u.1 0 0) (u.1 1 0) (u.1 2) (u.1 3) (u.1 4 0) (u.1 5 0) lin_11))) ⟨hx, hb, hml, hown, hts⟩ (k_X7_readLine2 l dC dI cI cZ cQ a rb0 rb1 rb2 byt len tst_11 ten_11 mos_11 wev_11 aga_11 apa_11 lin_11 ak av _ r_len r_tst_11 r_ten_11 (by omega)) (cwV 1 hts gX7_readInto_X7_readLine rfl rfl rfl (by decide +kernel) ⟨Nat.le_of_ble_eq_true rfl, Nat.le_of_ble_eq_true rfl⟩) (hSV.kept hS.2.1) hP hD hS hA hK hN [0, 1, 2, 3, 4] [] [0, 1, 2, 3, 4] rfl rfl (by decide) (by decide) (by decide) (fun _ => rfl) (by decide) 0 7 rfl rfl rfl hl.1 rfl (Nat.le_of_ble_eq_true rfl) dX7_readInto_19 ⟨Nat.le_of_ble_eq_true rfl, Nat.le_of_ble_eq_true rfl⟩ (fun r11 u13 H locs h12 hP hD hS => ?_)
        obtain ⟨tst_c14, etst_c14⟩ : ∃ f : Int32, f = (u13.1 0 0) := ⟨_, rfl⟩
        obtain ⟨ten_c15, eten_c15⟩ : ∃ f : Int32, f = (u13.1 1 0) := ⟨_, rfl⟩
        obtain ⟨mos_c16, emos_c16⟩ : ∃ f : Nat → Int32, f = (u13.1 2) := ⟨_, rfl⟩
        obtain ⟨wev_c17, ewev_c17⟩ : ∃ f : Nat → Int32, f = (u13.1 3) := ⟨_, rfl⟩
        obtain ⟨aga_c18, eaga_c18⟩ : ∃ f : Int32, f = (u13.1 4 0) := ⟨_, rfl⟩
        obtain ⟨apa_c19, eapa_c19⟩ : ∃ f : Int32, f = (u13.1 5 0) := ⟨_, rfl⟩
        have hP : va_P (dC, dI) vwCl (wTxR cI cZ cQ a rb0 rb1 rb2 byt len tst_c14 ten_c15 mos_c16 wev_c17 aga_c18 apa_c19 lin_11) H := by rw [etst_c14, eten_c15, emos_c16, ewev_c17, eaga_c18, eapa_c19]; exact hP
        have hD : va_D A (wTxR cI cZ cQ a rb0 rb1 rb2 byt len tst_c14 ten_c15 mos_c16 wev_c17 aga_c18 apa_c19 lin_11) := by rw [etst_c14, eten_c15, emos_c16, ewev_c17, eaga_c18, eapa_c19]; exact hD
        have h12 : ((((r11 = 1) ∧ (lnE byt len.toInt ten_11.toInt tst_c14.toInt ten_c15.toInt mos_11 wev_11 aga_11 apa_11 mos_c16 wev_c17 aga_c18 apa_c19)) ∨ ((r11 = 0) ∧ (lnN byt len.toInt ten_11.toInt tst_c14.toInt)))) ∧ (tst_c14.toInt ≤ ten_c15.toInt) ∧ (ten_c15.toInt ≤ len.toInt) ∧ (0 ≤ tst_c14.toInt ∧ tst_c14.toInt ≤ 160) ∧ (0 ≤ ten_c15.toInt ∧ ten_c15.toInt ≤ 160) := by (try rw [etst_c14]); (try rw [eten_c15]); (try rw [emos_c16]); (try rw [ewev_c17]); (try rw [eaga_c18]); (try rw [eapa_c19]); exact h12
        rcases h12 with ⟨(⟨rfl, h12_a0⟩ | ⟨rfl, h12_a0⟩), h12_0, h12_1, h12_2, h12_3⟩
        · refine lv_if_ne (tgt := 30) hx hb dX7_readInto_22 (by decide) (fun _ => ?_) (fun c9 => absurd c9 (by decide))
          refine lv_aload_n hx hb dX7_readInto_30 rfl (lv_at hl 1 rfl) ?_
          refine lv_dup hx hb dX7_readInto_31 rfl ?_
          refine va_getN (D := (dC, dI)) (ci := 5) (v := .int lin_11) (C := RX5) (T := TX5) (N := 5) hx hb hts inX5 hown hK hP 2 rfl rfl 4 (by decide) lf36 (fun _ h9 => h9) rfl dX7_readInto_32 ?_
          refine lv_iconst (v := 1) hx hb dX7_readInto_35 (by decide) ?_
          refine lv_iadd hx hb dX7_readInto_36 ?_
          refine lv_topi (fun x20 ex20 => ?_)
          have ix20 : x20.toInt = (lin_11 + 1).toInt := by rw [ex20]
          refine va_putN (D := (dC, dI)) (ci := 5) (v := .int x20) (ty := .int) (C := RX5) (T := TX5) (N := 5) hx hb hts inX5 tyX5 tyX5_ok nmX5 hown hK hP hD hS 2 rfl rfl 4 (by decide) lf36 (fun _ h9 => h9) rfl (by decide +kernel) rfl rfl (Nat.le_of_ble_eq_true rfl) dX7_readInto_37 (fun H locs hP hD hS => ?_)
          have hP : va_P (dC, dI) vwCl (wTxR cI cZ cQ a rb0 rb1 rb2 byt len tst_c14 ten_c15 mos_c16 wev_c17 aga_c18 apa_c19 x20) H := hP
          have hD : va_D A (wTxR cI cZ cQ a rb0 rb1 rb2 byt len tst_c14 ten_c15 mos_c16 wev_c17 aga_c18 apa_c19 x20) := hD
          refine lv_aload_n hx hb dX7_readInto_40 rfl (lv_at hl 0 rfl) ?_
          refine wvV (As := []) (rest := []) (wr := [(rb0, .inr (5, [.ref rb1, .ref rb2, .int aga_c18, .int apa_c19, .int x20])), (rb1, .inl (cI, 8, .inl mos_c16)), (rb2, .inl (cI, 8, .inl wev_c17))]) (w2 := (fun u : US => (wTxR cI cZ cQ a rb0 rb1 rb2 byt len (u.1 0 0) (u.1 1 0) mos_c16 wev_c17 aga_c18 apa_c19 x20))) ⟨hx, hb, hml, hown, hts⟩ (k_X7_nextToken2 l dC dI cI cZ cQ a byt len tst_c14 ten_c15 _ r_len h12_2 h12_3 (by omega)) (cwV 0 hts gX7_readInto_X7_nextToken rfl rfl rfl (by decide +kernel) ⟨Nat.le_of_ble_eq_true rfl, Nat.le_of_ble_eq_true rfl⟩) hP hD hS hA hK hN [0, 1] [2, 3, 4] [3, 4, 0, 1, 2] rfl rfl (by decide) (by decide) (by decide) (fun _ => rfl) (by decide) 0 7 rfl rfl rfl hl.1 rfl (Nat.le_of_ble_eq_true rfl) dX7_readInto_41 ⟨Nat.le_of_ble_eq_true rfl, Nat.le_of_ble_eq_true rfl⟩ (fun u23 H locs h22 hP hD hS => ?_)
          obtain ⟨tst_c24, etst_c24⟩ : ∃ f : Int32, f = (u23.1 0 0) := ⟨_, rfl⟩
          obtain ⟨ten_c25, eten_c25⟩ : ∃ f : Int32, f = (u23.1 1 0) := ⟨_, rfl⟩
          have hP : va_P (dC, dI) vwCl (wTxR cI cZ cQ a rb0 rb1 rb2 byt len tst_c24 ten_c25 mos_c16 wev_c17 aga_c18 apa_c19 x20) H := by rw [etst_c24, eten_c25]; exact hP
          have hD : va_D A (wTxR cI cZ cQ a rb0 rb1 rb2 byt len tst_c24 ten_c25 mos_c16 wev_c17 aga_c18 apa_c19 x20) := by rw [etst_c24, eten_c25]; exact hD
          have h22 : (tst_c24.toInt ≤ ten_c25.toInt) ∧ (ten_c25.toInt ≤ len.toInt) ∧ (tst_c24.toInt = tS byt len.toInt ten_c15.toInt) ∧ (ten_c25.toInt = tE byt len.toInt tst_c24.toInt) ∧ (0 ≤ tst_c24.toInt ∧ tst_c24.toInt ≤ 160) ∧ (0 ≤ ten_c25.toInt ∧ ten_c25.toInt ≤ 160) := by (try rw [etst_c24]); (try rw [eten_c25]); exact h22
          obtain ⟨h22_0, h22_1, h22_2, h22_3, h22_4, h22_5⟩ := h22
          refine lv_aload_n hx hb dX7_readInto_44 rfl (lv_at hl 0 rfl) ?_
          refine va_get (D := (dC, dI)) (ci := 7) (v := .int tst_c24) (C := RX7) (T := TX7) (N := 4) hx hb hts inX7 hown hK hP 0 rfl rfl 2 (by decide) lf33 (fun _ h9 => h9) rfl dX7_readInto_45 ?_
          refine lv_aload_n hx hb dX7_readInto_48 rfl (lv_at hl 0 rfl) ?_
          refine va_get (D := (dC, dI)) (ci := 7) (v := .int len) (C := RX7) (T := TX7) (N := 4) hx hb hts inX7 hown hK hP 0 rfl rfl 1 (by decide) lf15 (fun _ h9 => h9) rfl dX7_readInto_49 ?_
          refine lv_icmp_lt (tgt := 57) hx hb dX7_readInto_52 (by decide) (fun c26 => ?_) (fun c26 => ?_)
          · have dc26 : tst_c24.toInt < len.toInt := ltC rfl rfl c26
            refine lv_aload_n hx hb dX7_readInto_57 rfl (lv_at hl 0 rfl) ?_
            refine va_get (D := (dC, dI)) (ci := 7) (v := .ref (a 15)) (C := RX7) (T := TX7) (N := 4) hx hb hts inX7 hown hK hP 0 rfl rfl 0 (by decide) lf9 (fun _ h9 => h9) rfl dX7_readInto_58 ?_
            refine lv_aload_n hx hb dX7_readInto_61 rfl (lv_at hl 0 rfl) ?_
            refine va_get (D := (dC, dI)) (ci := 7) (v := .int tst_c24) (C := RX7) (T := TX7) (N := 4) hx hb hts inX7 hown hK hP 0 rfl rfl 2 (by decide) lf33 (fun _ h9 => h9) rfl dX7_readInto_62 ?_
            have b27 : vp_in tst_c24 160 := inC rfl (by omega) (by omega)
            refine va_iald hx hb hK hP 1 0 rfl rfl b27 dX7_readInto_65 ?_
            refine lv_bipush (v := 59) hx hb dX7_readInto_66 (by decide) ?_
            refine lv_icmp_eq (tgt := 76) hx hb dX7_readInto_68 (by decide) (fun c28 => ?_) (fun c28 => ?_)
            · have dc28 : (byt tst_c24.toNatClampNeg).toInt = 59 := eqC rfl (show (59 : Int32).toInt = 59 from rfl) c28
              obtain ⟨z29, ez29⟩ : ∃ y : Int32, y = y11_2 + 1 := ⟨_, rfl⟩
              have iz29 : z29.toInt = y11_2.toInt + 1 := by rw [ez29]; exact addC rfl rfl (by omega) (by omega)
              refine lv_iinc (v := z29) (lv' := [(2, .int z29), (0, .ref (a 14)), (1, .ref rb0)]) hx hb dX7_readInto_76 hl (k := 2) rfl (by rw [ez29]; rfl) (by decide) rfl (fun ls hl => ?_)
              refine lv_goto (tgt := 11) hx hb dX7_readInto_79 (by decide) ?_
              exact ih11 z29 tst_c24 ten_c25 mos_c16 wev_c17 aga_c18 apa_c19 x20 _ _ _ h22_4 h22_5 (by omega) (by omega) (by omega) (by (first | exact rb_step i11_3 (by assumption) (by assumption) (by assumption) (by omega) (by rw [← idx_eq]; omega) (by omega) | exact rb_init (by first | rfl | omega) (by assumption) (by assumption) (by assumption) (by assumption) (by first | rfl | omega))) (by (first | exact li_s i11_4 (by assumption) (by omega) (by omega) | exact li_0 (by assumption) (by first | rfl | omega))) (by (first | exact rx_step i11_3 (by omega) (by assumption) (by assumption) (by omega) (by omega) | exact Or.inl (by omega))) (by omega) hP hD hS (lv_sub hl [1, 2, 0] rfl)
            · have dc28 : (byt tst_c24.toNatClampNeg).toInt ≠ 59 := neC rfl (show (59 : Int32).toInt = 59 from rfl) c28
              refine lv_aload_n hx hb dX7_readInto_71 rfl (lv_at hl 0 rfl) ?_
              refine va_get (D := (dC, dI)) (ci := 7) (v := .int tst_c24) (C := RX7) (T := TX7) (N := 4) hx hb hts inX7 hown hK hP 0 rfl rfl 2 (by decide) lf33 (fun _ h9 => h9) rfl dX7_readInto_72 ?_
              exact W.iret (v := tst_c24) hx hb hr (fun tq ht hW => ⟨⟨tst_c24, (uS [(fun _ => tst_c24), (fun _ => ten_c25), mos_c16, wev_c17, (fun _ => aga_c18), (fun _ => apa_c19), (fun _ => x20)] 0 (fun _ => 0)), rfl, ⟨(show roC byt len.toInt tst_c24 mos_c16 wev_c17 aga_c18 apa_c19 x20 from by (first | exact ro_n i11_3 (by omega) (by assumption) | exact ro_ok i11_3 (by omega) (by assumption) (by assumption) (by omega) (by omega) rfl (li_s i11_4 (by assumption) (by omega) rfl) | exact ro_f i11_3 (by omega) (by assumption) (by assumption) (by omega) (Or.inl (by rw [← idx_eq]; omega)) rfl | exact (i11_5.resolve_left (by omega)) _ _ _ _ _ _ rfl)), h22_4, h22_5⟩, by rw [ht]; exact hP, hD⟩, hS.F ht⟩) hS.2.2 dX7_readInto_75
          · have dc26 : len.toInt ≤ tst_c24.toInt := nltC rfl rfl c26
            refine lv_iconst (v := (-1)) hx hb dX7_readInto_55 (by decide) ?_
            exact W.iret (v := (-1)) hx hb hr (fun tq ht hW => ⟨⟨(-1), (uS [(fun _ => tst_c24), (fun _ => ten_c25), mos_c16, wev_c17, (fun _ => aga_c18), (fun _ => apa_c19), (fun _ => x20)] 0 (fun _ => 0)), rfl, ⟨(show roC byt len.toInt ((-1) : Int32) mos_c16 wev_c17 aga_c18 apa_c19 x20 from by (try rw [show ((-1) : Int32).toInt = (-1) from (show ((-1) : Int32).toInt = (-1) from rfl)]); (first | exact ro_n i11_3 (by omega) (by assumption) | exact ro_ok i11_3 (by omega) (by assumption) (by assumption) (by omega) (by omega) rfl (li_s i11_4 (by assumption) (by omega) rfl) | exact ro_f i11_3 (by omega) (by assumption) (by assumption) (by omega) (Or.inl (by rw [← idx_eq]; omega)) rfl | exact (i11_5.resolve_left (by omega)) _ _ _ _ _ _ rfl)), h22_4, h22_5⟩, by rw [ht]; exact hP, hD⟩, hS.F ht⟩) hS.2.2 dX7_readInto_56
        · refine lv_if_ne (tgt := 30) hx hb dX7_readInto_22 (by decide) (fun c9 => absurd (by decide) c9) (fun _ => ?_)
          refine lv_aload_n hx hb dX7_readInto_25 rfl (lv_at hl 0 rfl) ?_
          refine va_get (D := (dC, dI)) (ci := 7) (v := .int tst_c14) (C := RX7) (T := TX7) (N := 4) hx hb hts inX7 hown hK hP 0 rfl rfl 2 (by decide) lf33 (fun _ h9 => h9) rfl dX7_readInto_26 ?_
          exact W.iret (v := tst_c14) hx hb hr (fun tq ht hW => ⟨⟨tst_c14, (uS [(fun _ => tst_c14), (fun _ => ten_c15), mos_c16, wev_c17, (fun _ => aga_c18), (fun _ => apa_c19), (fun _ => lin_11)] 0 (fun _ => 0)), rfl, ⟨(show roC byt len.toInt tst_c14 mos_c16 wev_c17 aga_c18 apa_c19 lin_11 from by (first | exact ro_n i11_3 (by omega) (by assumption) | exact ro_ok i11_3 (by omega) (by assumption) (by assumption) (by omega) (by omega) rfl (li_s i11_4 (by assumption) (by omega) rfl) | exact ro_f i11_3 (by omega) (by assumption) (by assumption) (by omega) (Or.inl (by rw [← idx_eq]; omega)) rfl | exact (i11_5.resolve_left (by omega)) _ _ _ _ _ _ rfl)), h12_2, h12_3⟩, by rw [ht]; exact hP, hD⟩, hS.F ht⟩) hS.2.2 dX7_readInto_29
  have kc30 : (0 : Int32).toInt = 0 := rfl
  exact L11 _ 0 tst 0 mos_c4 wev_c5 aga_c6 apa_c7 lin_c8 _ _ _ r_tst g9 (by omega) (by omega) (by omega) (by (first | exact rb_step i11_3 (by assumption) (by assumption) (by assumption) (by omega) (by rw [← idx_eq]; omega) (by omega) | exact rb_init (by first | rfl | omega) (by assumption) (by assumption) (by assumption) (by assumption) (by first | rfl | omega))) (by (first | exact li_s i11_4 (by assumption) (by omega) (by omega) | exact li_0 (by assumption) (by first | rfl | omega))) (by (first | exact rx_step i11_3 (by omega) (by assumption) (by assumption) (by omega) (by omega) | exact Or.inl (by omega))) (Nat.lt_succ_self _) hP hD hS (lv_sub hl [1, 2, 0] rfl)
