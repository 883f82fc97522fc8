set_option maxHeartbeats 4000000 in
set_option maxRecDepth 100000 in
theorem k_X7_nextToken2 (l : Launch) (dC : Nat → ClassId) (dI : Nat → Nat → Nat) (cI cZ cQ : ClassId) (a : Nat → Nat) (byt : Nat → Int32) (len : Int32) (tst : Int32) (ten : Int32) (sz : Nat) (r_len : 0 ≤ len.toInt ∧ len.toInt ≤ 160) (r_tst : 0 ≤ tst.toInt ∧ tst.toInt ≤ 160) (r_ten : 0 ≤ ten.toInt ∧ ten.toInt ≤ 160) (q0 : ten.toInt ≤ len.toInt) : KV l yX7_nextToken wsX7_nextToken { frames := 2, cells := 0, slots := 0, locals := 42 } (dC, dI) (TY cI cZ cQ) (wTxt cI cZ cQ a byt len tst ten) [.ref (a 14)] sz 0 0 (fun (u : US) => ((u.1 0 0).toInt ≤ (u.1 1 0).toInt) ∧ ((u.1 1 0).toInt ≤ len.toInt) ∧ ((u.1 0 0).toInt = tS byt len.toInt ten.toInt) ∧ ((u.1 1 0).toInt = tE byt len.toInt (u.1 0 0).toInt) ∧ (0 ≤ (u.1 0 0).toInt ∧ (u.1 0 0).toInt ≤ 160) ∧ (0 ≤ (u.1 1 0).toInt ∧ (u.1 1 0).toInt ≤ 160)) (fun u : US => (wTxt cI cZ cQ a byt len (u.1 0 0) (u.1 1 0))) := by
  refine Met.ofW (cc := cX7_nextToken) (maxL := 3) (ret := none) (by decide) rfl ?_
  intro p e s m args below meth c s₁ B hml hv
  obtain ⟨rfl, hsz, hP, hK, hD0, hN⟩ := hv
  have hx := B.exec
  have hb := B.bytes
  have hr := B.returns
  have hts := atoms_spec (ws := wsX7_nextToken) B.pre
  have hown : s.vm.findClass RX7 = some m.cls := findClass_of_methodNamed B.named
  have hlocks := B.notSynchronized
  have lf26 := hts (.fieldLink RX7 26 "PalaceOfRooms$Text" "tokenEnd" "I") (List.mem_cons_of_mem _ (List.mem_append_left _ (List.mem_of_getElem? (i := 0) rfl)))
  have inX7 : ∀ w ∈ wsX70, w ∈ wsX7_nextToken := fun w h => List.mem_cons_of_mem _ (List.mem_append_right _ h)
  have lf15 := hts (.fieldLink RX7 15 "PalaceOfRooms$Text" "length" "I") (List.mem_cons_of_mem _ (List.mem_append_left _ (List.mem_of_getElem? (i := 1) rfl)))
  have lf33 := hts (.fieldLink RX7 33 "PalaceOfRooms$Text" "tokenStart" "I") (List.mem_cons_of_mem _ (List.mem_append_left _ (List.mem_of_getElem? (i := 3) rfl)))
  have lf9 := hts (.fieldLink RX7 9 "PalaceOfRooms$Text" "bytes" "[I") (List.mem_cons_of_mem _ (List.mem_append_left _ (List.mem_of_getElem? (i := 2) rfl)))
  subst hsz
  have hD := hD0.self (sz := s.heap.size)
  generalize hAe : va_A (wTxt cI cZ cQ a byt len tst ten) s.heap.size = A at hD ⊢
  have hA : ∀ q : Nat, s.heap.size ≤ q → A q := fun q h => by rw [← hAe]; exact Or.inr h
  have hS : va_S A s.heap s.heap [] := va_S.rf
  have hl := lv_entry ([.ref (a 14)]) (n := 3) (Nat.le_of_ble_eq_true rfl)
  rw [lg_entry_eq]
  generalize (lg_sl ([.ref (a 14)]) ++ List.replicate (3 - (lg_sl ([.ref (a 14)])).length) Slot.unset).toArray = ls at hl ⊢
  have hl : lv_has ls 3 [(0, .ref (a 14))] := hl
  refine lv_aload_n hx hb dX7_nextToken_0 rfl (lv_at hl 0 rfl) ?_
  refine va_get (D := (dC, dI)) (ci := 7) (v := .int ten) (C := RX7) (T := TX7) (N := 4) hx hb hts inX7 hown hK hP 0 rfl rfl 3 (by decide) lf26 (fun _ h9 => h9) rfl dX7_nextToken_1 ?_
  refine lv_istore_n (lv' := [(1, .int ten), (0, .ref (a 14))]) hx hb dX7_nextToken_4 rfl hl (by decide) rfl (fun ls hl => ?_)
  have L5 : ∀ (nn : Nat) (y5_1 : Int32) (H : Heap) (locs : List Loc) (ls : Array Slot), (0 ≤ (y5_1.toInt)) → ((y5_1.toInt) ≤ 160) → ((y5_1.toInt) ≤ len.toInt) → (tS byt len.toInt (y5_1.toInt) = tS byt len.toInt ten.toInt) → (160 - (y5_1.toInt)).toNat < nn → va_P (dC, dI) vwCl (wTxt cI cZ cQ a byt len tst ten) H → va_D A (wTxt cI cZ cQ a byt len tst ten) → va_S A s.heap H locs → lv_has ls 3 [(0, .ref (a 14)), (1, .int y5_1)] → W p l e (headSpec wsX7_nextToken { frames := 2, cells := 0, slots := 0, locals := 42 }).room s m ([.ref (a 14)] : List Value).toArray below meth c H locs 0 0 (MQ below (va_Qv (fun (u : US) => ((u.1 0 0).toInt ≤ (u.1 1 0).toInt) ∧ ((u.1 1 0).toInt ≤ len.toInt) ∧ ((u.1 0 0).toInt = tS byt len.toInt ten.toInt) ∧ ((u.1 1 0).toInt = tE byt len.toInt (u.1 0 0).toInt) ∧ (0 ≤ (u.1 0 0).toInt ∧ (u.1 0 0).toInt ≤ 160) ∧ (0 ≤ (u.1 1 0).toInt ∧ (u.1 1 0).toInt ≤ 160)) (Bw (dC, dI) A (fun u : US => (wTxt cI cZ cQ a byt len (u.1 0 0) (u.1 1 0)))) A) ([.ref (a 14)] : List Value).toArray s 0 0 A) (F0 m 5 ls []) := by
    intro nn
    induction nn with
    | zero =>
      intro y5_1 H locs ls i5_0 i5_1 i5_2 i5_3 hm5
      exact absurd hm5 (Nat.not_lt_zero _)
    | succ nn ih5 =>
      intro y5_1 H locs ls i5_0 i5_1 i5_2 i5_3 hm5 hP hD hS hl
      refine lv_iload_n hx hb dX7_nextToken_5 rfl (lv_at hl 1 rfl) ?_
      refine lv_aload_n hx hb dX7_nextToken_6 rfl (lv_at hl 0 rfl) ?_
      refine va_get (D := (dC, dI)) (ci := 7) (v := .int len) (C := RX7) (T := TX7) (N := 4) hx hb hts inX7 hown hK hP 0 rfl rfl 1 (by decide) lf15 (fun _ h9 => h9) rfl dX7_nextToken_7 ?_
      refine lv_icmp_ge (tgt := 30) hx hb dX7_nextToken_10 (by decide) (fun c1 => ?_) (fun c1 => ?_)
      · have dc1 : len.toInt ≤ y5_1.toInt := leC rfl rfl c1
        refine lv_aload_n hx hb dX7_nextToken_30 rfl (lv_at hl 0 rfl) ?_
        refine lv_iload_n hx hb dX7_nextToken_31 rfl (lv_at hl 1 rfl) ?_
        refine va_put (D := (dC, dI)) (ci := 7) (v := .int y5_1) (ty := .int) (C := RX7) (T := TX7) (N := 4) hx hb hts inX7 tyX7 tyX7_ok nmX7 hown hK hP hD hS 0 rfl rfl 2 (by decide) lf33 (fun _ h9 => h9) rfl (by decide +kernel) rfl rfl (Nat.le_of_ble_eq_true rfl) dX7_nextToken_32 (fun H locs hP hD hS => ?_)
        have g2 : 0 ≤ y5_1.toInt ∧ y5_1.toInt ≤ 160 := by rw [show y5_1.toInt = y5_1.toInt from rfl]; exact ⟨by omega, by omega⟩
        have hP : va_P (dC, dI) vwCl (wTxt cI cZ cQ a byt len y5_1 ten) H := hP
        have hD : va_D A (wTxt cI cZ cQ a byt len y5_1 ten) := hD
        have L88 : ∀ (y88_1 : Int32) (H : Heap) (locs : List Loc) (ls : Array Slot), (y5_1.toInt ≤ (y88_1.toInt)) → ((y88_1.toInt) ≤ len.toInt) → (0 ≤ (y88_1.toInt)) → ((y88_1.toInt) ≤ 160) → ((y88_1.toInt) = tE byt len.toInt y5_1.toInt) → va_P (dC, dI) vwCl (wTxt cI cZ cQ a byt len y5_1 ten) H → va_D A (wTxt cI cZ cQ a byt len y5_1 ten) → va_S A s.heap H locs → lv_has ls 3 [(0, .ref (a 14)), (1, .int y88_1)] → W p l e (headSpec wsX7_nextToken { frames := 2, cells := 0, slots := 0, locals := 42 }).room s m ([.ref (a 14)] : List Value).toArray below meth c H locs 0 0 (MQ below (va_Qv (fun (u : US) => ((u.1 0 0).toInt ≤ (u.1 1 0).toInt) ∧ ((u.1 1 0).toInt ≤ len.toInt) ∧ ((u.1 0 0).toInt = tS byt len.toInt ten.toInt) ∧ ((u.1 1 0).toInt = tE byt len.toInt (u.1 0 0).toInt) ∧ (0 ≤ (u.1 0 0).toInt ∧ (u.1 0 0).toInt ≤ 160) ∧ (0 ≤ (u.1 1 0).toInt ∧ (u.1 1 0).toInt ≤ 160)) (Bw (dC, dI) A (fun u : US => (wTxt cI cZ cQ a byt len (u.1 0 0) (u.1 1 0)))) A) ([.ref (a 14)] : List Value).toArray s 0 0 A) (F0 m 88 ls []) := by
          intro y88_1 H locs ls i88_0 i88_1 i88_2 i88_3 i88_4 hP hD hS hl
          refine lv_aload_n hx hb dX7_nextToken_88 rfl (lv_at hl 0 rfl) ?_
          refine lv_iload_n hx hb dX7_nextToken_89 rfl (lv_at hl 1 rfl) ?_
          refine va_put (D := (dC, dI)) (ci := 7) (v := .int y88_1) (ty := .int) (C := RX7) (T := TX7) (N := 4) hx hb hts inX7 tyX7 tyX7_ok nmX7 hown hK hP hD hS 0 rfl rfl 3 (by decide) lf26 (fun _ h9 => h9) rfl (by decide +kernel) rfl rfl (Nat.le_of_ble_eq_true rfl) dX7_nextToken_90 (fun H locs hP hD hS => ?_)
          have g3 : 0 ≤ y88_1.toInt ∧ y88_1.toInt ≤ 160 := by rw [show y88_1.toInt = y88_1.toInt from rfl]; exact ⟨by omega, by omega⟩
          have hP : va_P (dC, dI) vwCl (wTxt cI cZ cQ a byt len y5_1 y88_1) H := hP
          have hD : va_D A (wTxt cI cZ cQ a byt len y5_1 y88_1) := hD
          exact W.vret hx hb hr (fun tq ht hW => ⟨⟨(uS [(fun _ => y5_1), (fun _ => y88_1)] 0 (fun _ => 0)), rfl, ⟨(show y5_1.toInt ≤ y88_1.toInt from by omega), (show y88_1.toInt ≤ len.toInt from by omega), (show y5_1.toInt = tS byt len.toInt ten.toInt from by exact sk_out i5_3 (by omega)), (show y88_1.toInt = tE byt len.toInt y5_1.toInt from by exact i88_4), g2, g3⟩, by rw [ht]; exact hP, hD⟩, hS.F ht⟩) hS.2.2 dX7_nextToken_93
        refine lv_iload_n hx hb dX7_nextToken_35 rfl (lv_at hl 1 rfl) ?_
        refine lv_aload_n hx hb dX7_nextToken_36 rfl (lv_at hl 0 rfl) ?_
        refine va_get (D := (dC, dI)) (ci := 7) (v := .int len) (C := RX7) (T := TX7) (N := 4) hx hb hts inX7 hown hK hP 0 rfl rfl 1 (by decide) lf15 (fun _ h9 => h9) rfl dX7_nextToken_37 ?_
        refine lv_icmp_ge (tgt := 88) hx hb dX7_nextToken_40 (by decide) (fun c4 => ?_) (fun c4 => ?_)
        · have dc4 : len.toInt ≤ y5_1.toInt := leC rfl rfl c4
          exact L88 y5_1 _ _ _ (by omega) (by omega) (by omega) (by omega) (by (first | exact tE_end (by omega) rfl | exact tE_oneC (by omega) (by assumption) (by omega) (by omega) | exact tE_runC (by omega) (by assumption) (by omega) i56_4 (by omega))) hP hD hS (lv_sub hl [0, 1] rfl)
        · have dc4 : y5_1.toInt < len.toInt := nleC rfl rfl c4
          refine lv_aload_n hx hb dX7_nextToken_43 rfl (lv_at hl 0 rfl) ?_
          refine va_get (D := (dC, dI)) (ci := 7) (v := .ref (a 15)) (C := RX7) (T := TX7) (N := 4) hx hb hts inX7 hown hK hP 0 rfl rfl 0 (by decide) lf9 (fun _ h9 => h9) rfl dX7_nextToken_44 ?_
          refine lv_iload_n hx hb dX7_nextToken_47 rfl (lv_at hl 1 rfl) ?_
          have b5 : vp_in y5_1 160 := inC rfl (by omega) (by omega)
          refine va_iald hx hb hK hP 1 0 rfl rfl b5 dX7_nextToken_48 ?_
          refine rdS (As := [.int (byt y5_1.toNatClampNeg)]) (rest := []) ⟨hx, hb, hml, hown, hts⟩ (k_X7_kindOf2 l dC dI cI cZ cQ (byt y5_1.toNatClampNeg)) (va_cwS 1 hts gX7_nextToken_X7_kindOf rfl rfl rfl (by decide +kernel) ⟨Nat.le_of_ble_eq_true rfl, Nat.le_of_ble_eq_true rfl⟩) hP hK hN [] rfl rfl hl.1 rfl (Nat.le_of_ble_eq_true rfl) dX7_nextToken_49 ⟨Nat.le_of_ble_eq_true rfl, Nat.le_of_ble_eq_true rfl⟩ (fun r6 h7 => ?_)
          have h7 : (1 ≤ r6.toInt) ∧ (r6.toInt ≤ 3) ∧ (r6.toInt = knd (byt y5_1.toNatClampNeg)) := h7
          obtain ⟨h7_0, h7_1, h7_2⟩ := h7
          refine lv_istore_n (lv' := [(2, .int r6), (0, .ref (a 14)), (1, .int y5_1)]) hx hb dX7_nextToken_52 rfl hl (by decide) rfl (fun ls hl => ?_)
          obtain ⟨z8, ez8⟩ : ∃ y : Int32, y = y5_1 + 1 := ⟨_, rfl⟩
          have iz8 : z8.toInt = y5_1.toInt + 1 := by rw [ez8]; exact addC rfl rfl (by omega) (by omega)
          refine lv_iinc (v := z8) (lv' := [(1, .int z8), (2, .int r6), (0, .ref (a 14))]) hx hb dX7_nextToken_53 hl (k := 2) rfl (by rw [ez8]; rfl) (by decide) rfl (fun ls hl => ?_)
          have L56 : ∀ (nn : Nat) (y56_1 : Int32) (H : Heap) (locs : List Loc) (ls : Array Slot), (0 ≤ (y56_1.toInt)) → ((y56_1.toInt) ≤ len.toInt) → (y5_1.toInt ≤ (y56_1.toInt)) → ((y56_1.toInt) ≤ 160) → (tR byt (r6.toInt) len.toInt (y56_1.toInt) = tR byt (r6.toInt) len.toInt (y5_1.toInt + 1)) → ((r6.toInt) ≠ 3 ∨ (y56_1.toInt) = y5_1.toInt + 1) → (len.toInt - (y56_1.toInt)).toNat < nn → va_P (dC, dI) vwCl (wTxt cI cZ cQ a byt len y5_1 ten) H → va_D A (wTxt cI cZ cQ a byt len y5_1 ten) → va_S A s.heap H locs → lv_has ls 3 [(0, .ref (a 14)), (1, .int y56_1), (2, .int r6)] → W p l e (headSpec wsX7_nextToken { frames := 2, cells := 0, slots := 0, locals := 42 }).room s m ([.ref (a 14)] : List Value).toArray below meth c H locs 0 0 (MQ below (va_Qv (fun (u : US) => ((u.1 0 0).toInt ≤ (u.1 1 0).toInt) ∧ ((u.1 1 0).toInt ≤ len.toInt) ∧ ((u.1 0 0).toInt = tS byt len.toInt ten.toInt) ∧ ((u.1 1 0).toInt = tE byt len.toInt (u.1 0 0).toInt) ∧ (0 ≤ (u.1 0 0).toInt ∧ (u.1 0 0).toInt ≤ 160) ∧ (0 ≤ (u.1 1 0).toInt ∧ (u.1 1 0).toInt ≤ 160)) (Bw (dC, dI) A (fun u : US => (wTxt cI cZ cQ a byt len (u.1 0 0) (u.1 1 0)))) A) ([.ref (a 14)] : List Value).toArray s 0 0 A) (F0 m 56 ls []) := by
            intro nn
            induction nn with
            | zero =>
              intro y56_1 H locs ls i56_0 i56_1 i56_2 i56_3 i56_4 i56_5 hm56
              exact absurd hm56 (Nat.not_lt_zero _)
            | succ nn ih56 =>
              intro y56_1 H locs ls i56_0 i56_1 i56_2 i56_3 i56_4 i56_5 hm56 hP hD hS hl
              refine lv_iload_n hx hb dX7_nextToken_56 rfl (lv_at hl 2 rfl) ?_
              refine lv_iconst (v := 3) hx hb dX7_nextToken_57 (by decide) ?_
              refine lv_icmp_eq (tgt := 88) hx hb dX7_nextToken_58 (by decide) (fun c9 => ?_) (fun c9 => ?_)
              · have dc9 : r6.toInt = 3 := eqC rfl (show (3 : Int32).toInt = 3 from rfl) c9
                exact L88 y56_1 _ _ _ (by omega) (by omega) (by omega) (by omega) (by (first | exact tE_end (by omega) rfl | exact tE_oneC (by omega) (by assumption) (by omega) (by omega) | exact tE_runC (by omega) (by assumption) (by omega) i56_4 (by omega))) hP hD hS (lv_sub hl [0, 1] rfl)
              · have dc9 : r6.toInt ≤ 2 := ka_hi (by omega) (neC rfl (show (3 : Int32).toInt = 3 from rfl) c9)
                refine lv_iload_n hx hb dX7_nextToken_61 rfl (lv_at hl 1 rfl) ?_
                refine lv_aload_n hx hb dX7_nextToken_62 rfl (lv_at hl 0 rfl) ?_
                refine va_get (D := (dC, dI)) (ci := 7) (v := .int len) (C := RX7) (T := TX7) (N := 4) hx hb hts inX7 hown hK hP 0 rfl rfl 1 (by decide) lf15 (fun _ h9 => h9) rfl dX7_nextToken_63 ?_
                refine lv_icmp_ge (tgt := 88) hx hb dX7_nextToken_66 (by decide) (fun c10 => ?_) (fun c10 => ?_)
                · have dc10 : len.toInt ≤ y56_1.toInt := leC rfl rfl c10
                  exact L88 y56_1 _ _ _ (by omega) (by omega) (by omega) (by omega) (by (first | exact tE_end (by omega) rfl | exact tE_oneC (by omega) (by assumption) (by omega) (by omega) | exact tE_runC (by omega) (by assumption) (by omega) i56_4 (by omega))) hP hD hS (lv_sub hl [0, 1] rfl)
                · have dc10 : y56_1.toInt < len.toInt := nleC rfl rfl c10
                  refine lv_aload_n hx hb dX7_nextToken_69 rfl (lv_at hl 0 rfl) ?_
                  refine va_get (D := (dC, dI)) (ci := 7) (v := .ref (a 15)) (C := RX7) (T := TX7) (N := 4) hx hb hts inX7 hown hK hP 0 rfl rfl 0 (by decide) lf9 (fun _ h9 => h9) rfl dX7_nextToken_70 ?_
                  refine lv_iload_n hx hb dX7_nextToken_73 rfl (lv_at hl 1 rfl) ?_
                  have b11 : vp_in y56_1 160 := inC rfl (by omega) (by omega)
                  refine va_iald hx hb hK hP 1 0 rfl rfl b11 dX7_nextToken_74 ?_
                  refine rdS (As := [.int (byt y56_1.toNatClampNeg)]) (rest := []) ⟨hx, hb, hml, hown, hts⟩ (k_X7_kindOf2 l dC dI cI cZ cQ (byt y56_1.toNatClampNeg)) (va_cwS 1 hts gX7_nextToken_X7_kindOf rfl rfl rfl (by decide +kernel) ⟨Nat.le_of_ble_eq_true rfl, Nat.le_of_ble_eq_true rfl⟩) hP hK hN [] rfl rfl hl.1 rfl (Nat.le_of_ble_eq_true rfl) dX7_nextToken_75 ⟨Nat.le_of_ble_eq_true rfl, Nat.le_of_ble_eq_true rfl⟩ (fun r12 h13 => ?_)
                  have h13 : (1 ≤ r12.toInt) ∧ (r12.toInt ≤ 3) ∧ (r12.toInt = knd (byt y56_1.toNatClampNeg)) := h13
                  obtain ⟨h13_0, h13_1, h13_2⟩ := h13
                  refine lv_iload_n hx hb dX7_nextToken_78 rfl (lv_at hl 2 rfl) ?_
                  refine lv_icmp_ne (tgt := 88) hx hb dX7_nextToken_79 (by decide) (fun c14 => ?_) (fun c14 => ?_)
                  · have dc14 : r12.toInt ≠ r6.toInt := neC rfl rfl c14
                    exact L88 y56_1 _ _ _ (by omega) (by omega) (by omega) (by omega) (by (first | exact tE_end (by omega) rfl | exact tE_oneC (by omega) (by assumption) (by omega) (by omega) | exact tE_runC (by omega) (by assumption) (by omega) i56_4 (by omega))) hP hD hS (lv_sub hl [0, 1] rfl)
                  · have dc14 : r12.toInt = r6.toInt := eqC rfl rfl c14
                    obtain ⟨z15, ez15⟩ : ∃ y : Int32, y = y56_1 + 1 := ⟨_, rfl⟩
                    have iz15 : z15.toInt = y56_1.toInt + 1 := by rw [ez15]; exact addC rfl rfl (by omega) (by omega)
                    refine lv_iinc (v := z15) (lv' := [(1, .int z15), (0, .ref (a 14)), (2, .int r6)]) hx hb dX7_nextToken_82 hl (k := 1) rfl (by rw [ez15]; rfl) (by decide) rfl (fun ls hl => ?_)
                    refine lv_goto (tgt := 56) hx hb dX7_nextToken_85 (by decide) ?_
                    exact ih56 z15 _ _ _ (by omega) (by omega) (by omega) (by omega) (by (first | exact rn_in i56_4 (by omega) (by omega) (by omega) | exact tR_cast (by omega))) (by omega) (by omega) hP hD hS (lv_sub hl [1, 0, 2] rfl)
          exact L56 _ z8 _ _ _ (by omega) (by omega) (by omega) (by omega) (by (first | exact rn_in i56_4 (by omega) (by omega) (by omega) | exact tR_cast (by omega))) (by omega) (Nat.lt_succ_self _) hP hD hS (lv_sub hl [2, 0, 1] rfl)
      · have dc1 : y5_1.toInt < len.toInt := nleC rfl rfl c1
        refine lv_aload_n hx hb dX7_nextToken_13 rfl (lv_at hl 0 rfl) ?_
        refine va_get (D := (dC, dI)) (ci := 7) (v := .ref (a 15)) (C := RX7) (T := TX7) (N := 4) hx hb hts inX7 hown hK hP 0 rfl rfl 0 (by decide) lf9 (fun _ h9 => h9) rfl dX7_nextToken_14 ?_
        refine lv_iload_n hx hb dX7_nextToken_17 rfl (lv_at hl 1 rfl) ?_
        have b16 : vp_in y5_1 160 := inC rfl (by omega) (by omega)
        refine va_iald hx hb hK hP 1 0 rfl rfl b16 dX7_nextToken_18 ?_
        refine lv_bipush (v := 32) hx hb dX7_nextToken_19 (by decide) ?_
        refine lv_icmp_ne (tgt := 30) hx hb dX7_nextToken_21 (by decide) (fun c17 => ?_) (fun c17 => ?_)
        · have dc17 : (byt y5_1.toNatClampNeg).toInt ≠ 32 := neC rfl (show (32 : Int32).toInt = 32 from rfl) c17
          refine lv_aload_n hx hb dX7_nextToken_30 rfl (lv_at hl 0 rfl) ?_
          refine lv_iload_n hx hb dX7_nextToken_31 rfl (lv_at hl 1 rfl) ?_
          refine va_put (D := (dC, dI)) (ci := 7) (v := .int y5_1) (ty := .int) (C := RX7) (T := TX7) (N := 4) hx hb hts inX7 tyX7 tyX7_ok nmX7 hown hK hP hD hS 0 rfl rfl 2 (by decide) lf33 (fun _ h9 => h9) rfl (by decide +kernel) rfl rfl (Nat.le_of_ble_eq_true rfl) dX7_nextToken_32 (fun H locs hP hD hS => ?_)
          have g18 : 0 ≤ y5_1.toInt ∧ y5_1.toInt ≤ 160 := by rw [show y5_1.toInt = y5_1.toInt from rfl]; exact ⟨by omega, by omega⟩
          have hP : va_P (dC, dI) vwCl (wTxt cI cZ cQ a byt len y5_1 ten) H := hP
          have hD : va_D A (wTxt cI cZ cQ a byt len y5_1 ten) := hD
          have L88 : ∀ (y88_1 : Int32) (H : Heap) (locs : List Loc) (ls : Array Slot), (y5_1.toInt ≤ (y88_1.toInt)) → ((y88_1.toInt) ≤ len.toInt) → (0 ≤ (y88_1.toInt)) → ((y88_1.toInt) ≤ 160) → ((y88_1.toInt) = tE byt len.toInt y5_1.toInt) → va_P (dC, dI) vwCl (wTxt cI cZ cQ a byt len y5_1 ten) H → va_D A (wTxt cI cZ cQ a byt len y5_1 ten) → va_S A s.heap H locs → lv_has ls 3 [(0, .ref (a 14)), (1, .int y88_1)] → W p l e (headSpec wsX7_nextToken { frames := 2, cells := 0, slots := 0, locals := 42 }).room s m ([.ref (a 14)] : List Value).toArray below meth c H locs 0 0 (MQ below (va_Qv (fun (u : US) => ((u.1 0 0).toInt ≤ (u.1 1 0).toInt) ∧ ((u.1 1 0).toInt ≤ len.toInt) ∧ ((u.1 0 0).toInt = tS byt len.toInt ten.toInt) ∧ ((u.1 1 0).toInt = tE byt len.toInt (u.1 0 0).toInt) ∧ (0 ≤ (u.1 0 0).toInt ∧ (u.1 0 0).toInt ≤ 160) ∧ (0 ≤ (u.1 1 0).toInt ∧ (u.1 1 0).toInt ≤ 160)) (Bw (dC, dI) A (fun u : US => (wTxt cI cZ cQ a byt len (u.1 0 0) (u.1 1 0)))) A) ([.ref (a 14)] : List Value).toArray s 0 0 A) (F0 m 88 ls []) := by
            intro y88_1 H locs ls i88_0 i88_1 i88_2 i88_3 i88_4 hP hD hS hl
            refine lv_aload_n hx hb dX7_nextToken_88 rfl (lv_at hl 0 rfl) ?_
            refine lv_iload_n hx hb dX7_nextToken_89 rfl (lv_at hl 1 rfl) ?_
            refine va_put (D := (dC, dI)) (ci := 7) (v := .int y88_1) (ty := .int) (C := RX7) (T := TX7) (N := 4) hx hb hts inX7 tyX7 tyX7_ok nmX7 hown hK hP hD hS 0 rfl rfl 3 (by decide) lf26 (fun _ h9 => h9) rfl (by decide +kernel) rfl rfl (Nat.le_of_ble_eq_true rfl) dX7_nextToken_90 (fun H locs hP hD hS => ?_)
            have g19 : 0 ≤ y88_1.toInt ∧ y88_1.toInt ≤ 160 := by rw [show y88_1.toInt = y88_1.toInt from rfl]; exact ⟨by omega, by omega⟩
            have hP : va_P (dC, dI) vwCl (wTxt cI cZ cQ a byt len y5_1 y88_1) H := hP
            have hD : va_D A (wTxt cI cZ cQ a byt len y5_1 y88_1) := hD
            exact W.vret hx hb hr (fun tq ht hW => ⟨⟨(uS [(fun _ => y5_1), (fun _ => y88_1)] 0 (fun _ => 0)), rfl, ⟨(show y5_1.toInt ≤ y88_1.toInt from by omega), (show y88_1.toInt ≤ len.toInt from by omega), (show y5_1.toInt = tS byt len.toInt ten.toInt from by exact sk_out i5_3 (by omega)), (show y88_1.toInt = tE byt len.toInt y5_1.toInt from by exact i88_4), g18, g19⟩, by rw [ht]; exact hP, hD⟩, hS.F ht⟩) hS.2.2 dX7_nextToken_93
          refine lv_iload_n hx hb dX7_nextToken_35 rfl (lv_at hl 1 rfl) ?_
          refine lv_aload_n hx hb dX7_nextToken_36 rfl (lv_at hl 0 rfl) ?_
          refine va_get (D := (dC, dI)) (ci := 7) (v := .int len) (C := RX7) (T := TX7) (N := 4) hx hb hts inX7 hown hK hP 0 rfl rfl 1 (by decide) lf15 (fun _ h9 => h9) rfl dX7_nextToken_37 ?_
          refine lv_icmp_ge (tgt := 88) hx hb dX7_nextToken_40 (by decide) (fun c20 => ?_) (fun c20 => ?_)
          · have dc20 : len.toInt ≤ y5_1.toInt := leC rfl rfl c20
            exact L88 y5_1 _ _ _ (by omega) (by omega) (by omega) (by omega) (by (first | exact tE_end (by omega) rfl | exact tE_oneC (by omega) (by assumption) (by omega) (by omega) | exact tE_runC (by omega) (by assumption) (by omega) i56_4 (by omega))) hP hD hS (lv_sub hl [0, 1] rfl)
          · have dc20 : y5_1.toInt < len.toInt := nleC rfl rfl c20
            refine lv_aload_n hx hb dX7_nextToken_43 rfl (lv_at hl 0 rfl) ?_
            refine va_get (D := (dC, dI)) (ci := 7) (v := .ref (a 15)) (C := RX7) (T := TX7) (N := 4) hx hb hts inX7 hown hK hP 0 rfl rfl 0 (by decide) lf9 (fun _ h9 => h9) rfl dX7_nextToken_44 ?_
            refine lv_iload_n hx hb dX7_nextToken_47 rfl (lv_at hl 1 rfl) ?_
            have b21 : vp_in y5_1 160 := inC rfl (by omega) (by omega)
            refine va_iald hx hb hK hP 1 0 rfl rfl b21 dX7_nextToken_48 ?_
            refine rdS (As := [.int (byt y5_1.toNatClampNeg)]) (rest := []) ⟨hx, hb, hml, hown, hts⟩ (k_X7_kindOf2 l dC dI cI cZ cQ (byt y5_1.toNatClampNeg)) (va_cwS 1 hts gX7_nextToken_X7_kindOf rfl rfl rfl (by decide +kernel) ⟨Nat.le_of_ble_eq_true rfl, Nat.le_of_ble_eq_true rfl⟩) hP hK hN [] rfl rfl hl.1 rfl (Nat.le_of_ble_eq_true rfl) dX7_nextToken_49 ⟨Nat.le_of_ble_eq_true rfl, Nat.le_of_ble_eq_true rfl⟩ (fun r22 h23 => ?_)
            have h23 : (1 ≤ r22.toInt) ∧ (r22.toInt ≤ 3) ∧ (r22.toInt = knd (byt y5_1.toNatClampNeg)) := h23
            obtain ⟨h23_0, h23_1, h23_2⟩ := h23
            refine lv_istore_n (lv' := [(2, .int r22), (0, .ref (a 14)), (1, .int y5_1)]) hx hb dX7_nextToken_52 rfl hl (by decide) rfl (fun ls hl => ?_)
            obtain ⟨z24, ez24⟩ : ∃ y : Int32, y = y5_1 + 1 := ⟨_, rfl⟩
            have iz24 : z24.toInt = y5_1.toInt + 1 := by rw [ez24]; exact addC rfl rfl (by omega) (by omega)
            refine lv_iinc (v := z24) (lv' := [(1, .int z24), (2, .int r22), (0, .ref (a 14))]) hx hb dX7_nextToken_53 hl (k := 2) rfl (by rw [ez24]; rfl) (by decide) rfl (fun ls hl => ?_)
            have L56 : ∀ (nn : Nat) (y56_1 : Int32) (H : Heap) (locs : List Loc) (ls : Array Slot), (0 ≤ (y56_1.toInt)) → ((y56_1.toInt) ≤ len.toInt) → (y5_1.toInt ≤ (y56_1.toInt)) → ((y56_1.toInt) ≤ 160) → (tR byt (r22.toInt) len.toInt (y56_1.toInt) = tR byt (r22.toInt) len.toInt (y5_1.toInt + 1)) → ((r22.toInt) ≠ 3 ∨ (y56_1.toInt) = y5_1.toInt + 1) → (len.toInt - (y56_1.toInt)).toNat < nn → va_P (dC, dI) vwCl (wTxt cI cZ cQ a byt len y5_1 ten) H → va_D A (wTxt cI cZ cQ a byt len y5_1 ten) → va_S A s.heap H locs → lv_has ls 3 [(0, .ref (a 14)), (1, .int y56_1), (2, .int r22)] → W p l e (headSpec wsX7_nextToken { frames := 2, cells := 0, slots := 0, locals := 42 }).room s m ([.ref (a 14)] : List Value).toArray below meth c H locs 0 0 (MQ below (va_Qv (fun (u : US) => ((u.1 0 0).toInt ≤ (u.1 1 0).toInt) ∧ ((u.1 1 0).toInt ≤ len.toInt) ∧ ((u.1 0 0).toInt = tS byt len.toInt ten.toInt) ∧ ((u.1 1 0).toInt = tE byt len.toInt (u.1 0 0).toInt) ∧ (0 ≤ (u.1 0 0).toInt ∧ (u.1 0 0).toInt ≤ 160) ∧ (0 ≤ (u.1 1 0).toInt ∧ (u.1 1 0).toInt ≤ 160)) (Bw (dC, dI) A (fun u : US => (wTxt cI cZ cQ a byt len (u.1 0 0) (u.1 1 0)))) A) ([.ref (a 14)] : List Value).toArray s 0 0 A) (F0 m 56 ls []) := by
              intro nn
              induction nn with
              | zero =>
                intro y56_1 H locs ls i56_0 i56_1 i56_2 i56_3 i56_4 i56_5 hm56
                exact absurd hm56 (Nat.not_lt_zero _)
              | succ nn ih56 =>
                intro y56_1 H locs ls i56_0 i56_1 i56_2 i56_3 i56_4 i56_5 hm56 hP hD hS hl
                refine lv_iload_n hx hb dX7_nextToken_56 rfl (lv_at hl 2 rfl) ?_
                refine lv_iconst (v := 3) hx hb dX7_nextToken_57 (by decide) ?_
                refine lv_icmp_eq (tgt := 88) hx hb dX7_nextToken_58 (by decide) (fun c25 => ?_) (fun c25 => ?_)
                · have dc25 : r22.toInt = 3 := eqC rfl (show (3 : Int32).toInt = 3 from rfl) c25
                  exact L88 y56_1 _ _ _ (by omega) (by omega) (by omega) (by omega) (by (first | exact tE_end (by omega) rfl | exact tE_oneC (by omega) (by assumption) (by omega) (by omega) | exact tE_runC (by omega) (by assumption) (by omega) i56_4 (by omega))) hP hD hS (lv_sub hl [0, 1] rfl)
                · have dc25 : r22.toInt ≤ 2 := ka_hi (by omega) (neC rfl (show (3 : Int32).toInt = 3 from rfl) c25)
                  refine lv_iload_n hx hb dX7_nextToken_61 rfl (lv_at hl 1 rfl) ?_
                  refine lv_aload_n hx hb dX7_nextToken_62 rfl (lv_at hl 0 rfl) ?_
                  refine va_get (D := (dC, dI)) (ci := 7) (v := .int len) (C := RX7) (T := TX7) (N := 4) hx hb hts inX7 hown hK hP 0 rfl rfl 1 (by decide) lf15 (fun _ h9 => h9) rfl dX7_nextToken_63 ?_
                  refine lv_icmp_ge (tgt := 88) hx hb dX7_nextToken_66 (by decide) (fun c26 => ?_) (fun c26 => ?_)
                  · have dc26 : len.toInt ≤ y56_1.toInt := leC rfl rfl c26
                    exact L88 y56_1 _ _ _ (by omega) (by omega) (by omega) (by omega) (by (first | exact tE_end (by omega) rfl | exact tE_oneC (by omega) (by assumption) (by omega) (by omega) | exact tE_runC (by omega) (by assumption) (by omega) i56_4 (by omega))) hP hD hS (lv_sub hl [0, 1] rfl)
                  · have dc26 : y56_1.toInt < len.toInt := nleC rfl rfl c26
                    refine lv_aload_n hx hb dX7_nextToken_69 rfl (lv_at hl 0 rfl) ?_
                    refine va_get (D := (dC, dI)) (ci := 7) (v := .ref (a 15)) (C := RX7) (T := TX7) (N := 4) hx hb hts inX7 hown hK hP 0 rfl rfl 0 (by decide) lf9 (fun _ h9 => h9) rfl dX7_nextToken_70 ?_
                    refine lv_iload_n hx hb dX7_nextToken_73 rfl (lv_at hl 1 rfl) ?_
                    have b27 : vp_in y56_1 160 := inC rfl (by omega) (by omega)
                    refine va_iald hx hb hK hP 1 0 rfl rfl b27 dX7_nextToken_74 ?_
                    refine rdS (As := [.int (byt y56_1.toNatClampNeg)]) (rest := []) ⟨hx, hb, hml, hown, hts⟩ (k_X7_kindOf2 l dC dI cI cZ cQ (byt y56_1.toNatClampNeg)) (va_cwS 1 hts gX7_nextToken_X7_kindOf rfl rfl rfl (by decide +kernel) ⟨Nat.le_of_ble_eq_true rfl, Nat.le_of_ble_eq_true rfl⟩) hP hK hN [] rfl rfl hl.1 rfl (Nat.le_of_ble_eq_true rfl) dX7_nextToken_75 ⟨Nat.le_of_ble_eq_true rfl, Nat.le_of_ble_eq_true rfl⟩ (fun r28 h29 => ?_)
                    have h29 : (1 ≤ r28.toInt) ∧ (r28.toInt ≤ 3) ∧ (r28.toInt = knd (byt y56_1.toNatClampNeg)) := h29
                    obtain ⟨h29_0, h29_1, h29_2⟩ := h29
                    refine lv_iload_n hx hb dX7_nextToken_78 rfl (lv_at hl 2 rfl) ?_
                    refine lv_icmp_ne (tgt := 88) hx hb dX7_nextToken_79 (by decide) (fun c30 => ?_) (fun c30 => ?_)
                    · have dc30 : r28.toInt ≠ r22.toInt := neC rfl rfl c30
                      exact L88 y56_1 _ _ _ (by omega) (by omega) (by omega) (by omega) (by (first | exact tE_end (by omega) rfl | exact tE_oneC (by omega) (by assumption) (by omega) (by omega) | exact tE_runC (by omega) (by assumption) (by omega) i56_4 (by omega))) hP hD hS (lv_sub hl [0, 1] rfl)
                    · have dc30 : r28.toInt = r22.toInt := eqC rfl rfl c30
                      obtain ⟨z31, ez31⟩ : ∃ y : Int32, y = y56_1 + 1 := ⟨_, rfl⟩
                      have iz31 : z31.toInt = y56_1.toInt + 1 := by rw [ez31]; exact addC rfl rfl (by omega) (by omega)
                      refine lv_iinc (v := z31) (lv' := [(1, .int z31), (0, .ref (a 14)), (2, .int r22)]) hx hb dX7_nextToken_82 hl (k := 1) rfl (by rw [ez31]; rfl) (by decide) rfl (fun ls hl => ?_)
                      refine lv_goto (tgt := 56) hx hb dX7_nextToken_85 (by decide) ?_
                      exact ih56 z31 _ _ _ (by omega) (by omega) (by omega) (by omega) (by (first | exact rn_in i56_4 (by omega) (by omega) (by omega) | exact tR_cast (by omega))) (by omega) (by omega) hP hD hS (lv_sub hl [1, 0, 2] rfl)
            exact L56 _ z24 _ _ _ (by omega) (by omega) (by omega) (by omega) (by (first | exact rn_in i56_4 (by omega) (by omega) (by omega) | exact tR_cast (by omega))) (by omega) (Nat.lt_succ_self _) hP hD hS (lv_sub hl [2, 0, 1] rfl)
        · have dc17 : (byt y5_1.toNatClampNeg).toInt = 32 := eqC rfl (show (32 : Int32).toInt = 32 from rfl) c17
          obtain ⟨z32, ez32⟩ : ∃ y : Int32, y = y5_1 + 1 := ⟨_, rfl⟩
          have iz32 : z32.toInt = y5_1.toInt + 1 := by rw [ez32]; exact addC rfl rfl (by omega) (by omega)
          refine lv_iinc (v := z32) (lv' := [(1, .int z32), (0, .ref (a 14))]) hx hb dX7_nextToken_24 hl (k := 1) rfl (by rw [ez32]; rfl) (by decide) rfl (fun ls hl => ?_)
          refine lv_goto (tgt := 5) hx hb dX7_nextToken_27 (by decide) ?_
          exact ih5 z32 _ _ _ (by omega) (by omega) (by omega) (by (first | exact sk_in i5_3 (by omega) (by omega) (by omega) | rfl)) (by omega) hP hD hS (lv_sub hl [1, 0] rfl)
  exact L5 _ ten _ _ _ (by omega) (by omega) (by omega) (by (first | exact sk_in i5_3 (by omega) (by omega) (by omega) | rfl)) (Nat.lt_succ_self _) hP hD hS (lv_sub hl [1, 0] rfl)
