set_option maxHeartbeats 4000000 in
set_option maxRecDepth 100000 in
theorem k_X7_tokenIs2 (l : Launch) (dC : Nat → ClassId) (dI : Nat → Nat → Nat) (cI cZ cQ : ClassId) (a : Nat → Nat) (byt : Nat → Int32) (len : Int32) (tst : Int32) (ten : Int32) (sk sv sN : Nat) (sf : Nat → Int32) (r_len : 0 ≤ len.toInt ∧ len.toInt ≤ 160) (r_tst : 0 ≤ tst.toInt ∧ tst.toInt ≤ 160) (r_ten : 0 ≤ ten.toInt ∧ ten.toInt ≤ 160) (q0 : tst.toInt ≤ ten.toInt) (q1 : sN ≤ 5) : KRS l yX7_tokenIs wsX7_tokenIs { frames := 4, cells := 0, slots := 0, locals := 85 } (dC, dI) (TY cI cZ cQ) (wTxt cI cZ cQ a byt len tst ten) sk sv sN sf [.ref (a 14), .ref sk] (fun r : Int32 => ((((r = 1) ∧ (wdP byt tst.toInt ten.toInt sN sf)) ∨ ((r = 0) ∧ (¬ wdP byt tst.toInt ten.toInt sN sf))))) := by
  refine Met.ofW (cc := cX7_tokenIs) (maxL := 3) (ret := (some .boolean)) (by decide) rfl ?_
  intro p e s m args below meth c s₁ B hml hv
  obtain ⟨rfl, hP, hK, hN, hC⟩ := hv
  have hx := B.exec
  have hb := B.bytes
  have hr := B.returns
  have hts := atoms_spec (ws := wsX7_tokenIs) B.pre
  have hown : s.vm.findClass RX7 = some m.cls := findClass_of_methodNamed B.named
  have hlocks := B.notSynchronized
  have lf26 := hts (.fieldLink RX7 26 "PalaceOfRooms$Text" "tokenEnd" "I") (List.mem_cons_of_mem _ (List.mem_append_left _ (List.mem_append_left _ (List.mem_of_getElem? (i := 0) rfl))))
  have inX7 : ∀ w ∈ wsX70, w ∈ wsX7_tokenIs := fun w h => List.mem_cons_of_mem _ (List.mem_append_right _ h)
  have lf33 := hts (.fieldLink RX7 33 "PalaceOfRooms$Text" "tokenStart" "I") (List.mem_cons_of_mem _ (List.mem_append_left _ (List.mem_append_left _ (List.mem_of_getElem? (i := 1) rfl))))
  have lf9 := hts (.fieldLink RX7 9 "PalaceOfRooms$Text" "bytes" "[I") (List.mem_cons_of_mem _ (List.mem_append_left _ (List.mem_append_left _ (List.mem_of_getElem? (i := 2) rfl))))
  have hl := lv_entry ([.ref (a 14), .ref sk]) (n := 3) (Nat.le_of_ble_eq_true rfl)
  rw [lg_entry_eq]
  generalize (lg_sl ([.ref (a 14), .ref sk]) ++ List.replicate (3 - (lg_sl ([.ref (a 14), .ref sk])).length) Slot.unset).toArray = ls at hl ⊢
  have hl : lv_has ls 3 [(0, .ref (a 14)), (1, .ref sk)] := hl
  refine lv_aload_n hx hb dX7_tokenIs_0 rfl (lv_at hl 0 rfl) ?_
  refine va_get (D := (dC, dI)) (ci := 7) (v := .int ten) (C := RX7) (T := TX7) (N := 4) hx hb hts inX7 hown hK hP 0 rfl rfl 3 (by decide) lf26 (fun _ h9 => h9) rfl dX7_tokenIs_1 ?_
  refine lv_aload_n hx hb dX7_tokenIs_4 rfl (lv_at hl 0 rfl) ?_
  refine va_get (D := (dC, dI)) (ci := 7) (v := .int tst) (C := RX7) (T := TX7) (N := 4) hx hb hts inX7 hown hK hP 0 rfl rfl 2 (by decide) lf33 (fun _ h9 => h9) rfl dX7_tokenIs_5 ?_
  refine lv_isub hx hb dX7_tokenIs_8 ?_
  have f1 : (ten - tst).toInt = (ten.toInt) - (tst.toInt) := subC rfl rfl (by omega) (by omega)
  refine lv_aload_n hx hb dX7_tokenIs_9 rfl (lv_at hl 1 rfl) ?_
  refine rdVS (As := []) (rest := [.int (ten - tst)]) ⟨hx, hb, hml, hown, hts⟩ (k_J0_length_8abf5 l sk sv sN sf (by omega)) (cwV 0 hts gX7_tokenIs_J0_length_8abf5 rfl rfl rfl (by decide +kernel) ⟨Nat.le_of_ble_eq_true rfl, Nat.le_of_ble_eq_true rfl⟩) hC rfl hl.1 rfl (Nat.le_of_ble_eq_true rfl) dX7_tokenIs_10 ⟨Nat.le_of_ble_eq_true rfl, Nat.le_of_ble_eq_true rfl⟩ (fun r2 h3 => ?_)
  have i4 : r2.toInt = (sN : Int) := by rw [h3]; exact nI_toInt (by omega)
  refine lv_icmp_eq (tgt := 18) hx hb dX7_tokenIs_13 (by decide) (fun c5 => ?_) (fun c5 => ?_)
  · have dc5 : (ten.toInt) - (tst.toInt) = r2.toInt := eqC f1 rfl c5
    refine lv_iconst (v := 0) hx hb dX7_tokenIs_18 (by decide) ?_
    refine lv_istore_n (lv' := [(2, .int 0), (0, .ref (a 14)), (1, .ref sk)]) hx hb dX7_tokenIs_19 rfl hl (by decide) rfl (fun ls hl => ?_)
    have L20 : ∀ (nn : Nat) (y20_2 : Int32) (ls : Array Slot), (0 ≤ (y20_2.toInt)) → ((y20_2.toInt) ≤ 5) → (∀ j : Nat, (j : Int) < (y20_2.toInt) → byt (tst.toInt + j).toNat = chV (sf j)) → ((y20_2.toInt) ≤ sN) → (5 - (y20_2.toInt)).toNat < nn → lv_has ls 3 [(0, .ref (a 14)), (1, .ref sk), (2, .int y20_2)] → W p l e (headSpec wsX7_tokenIs { frames := 4, cells := 0, slots := 0, locals := 85 }).room s m ([.ref (a 14), .ref sk] : List Value).toArray below meth c s.heap [] 0 0 (MQ below (QR (fun r : Int32 => ((((r = 1) ∧ (wdP byt tst.toInt ten.toInt sN sf)) ∨ ((r = 0) ∧ (¬ wdP byt tst.toInt ten.toInt sN sf)))))) ([.ref (a 14), .ref sk] : List Value).toArray s 0 0 (fun _ => False)) (F0 m 20 ls []) := by
      intro nn
      induction nn with
      | zero =>
        intro y20_2 ls i20_0 i20_1 i20_2 i20_3 hm20
        exact absurd hm20 (Nat.not_lt_zero _)
      | succ nn ih20 =>
        intro y20_2 ls i20_0 i20_1 i20_2 i20_3 hm20 hl
        refine lv_iload_n hx hb dX7_tokenIs_20 rfl (lv_at hl 2 rfl) ?_
        refine lv_aload_n hx hb dX7_tokenIs_21 rfl (lv_at hl 1 rfl) ?_
        refine rdVS (As := []) (rest := [.int y20_2]) ⟨hx, hb, hml, hown, hts⟩ (k_J0_length_8abf5 l sk sv sN sf (by omega)) (cwV 0 hts gX7_tokenIs_J0_length_8abf5 rfl rfl rfl (by decide +kernel) ⟨Nat.le_of_ble_eq_true rfl, Nat.le_of_ble_eq_true rfl⟩) hC rfl hl.1 rfl (Nat.le_of_ble_eq_true rfl) dX7_tokenIs_22 ⟨Nat.le_of_ble_eq_true rfl, Nat.le_of_ble_eq_true rfl⟩ (fun r6 h7 => ?_)
        have i8 : r6.toInt = (sN : Int) := by rw [h7]; exact nI_toInt (by omega)
        refine lv_icmp_ge (tgt := 55) hx hb dX7_tokenIs_25 (by decide) (fun c9 => ?_) (fun c9 => ?_)
        · have dc9 : r6.toInt ≤ y20_2.toInt := leC rfl rfl c9
          refine lv_iconst (v := 1) hx hb dX7_tokenIs_55 (by decide) ?_
          exact W.zret (v := 1) hx hb hr (by decide) (fun tq ht hW => ⟨1, rfl, (Or.inl (⟨rfl, (show wdP byt tst.toInt ten.toInt sN sf from by (try rw [show (1 : Int32).toInt = 1 from (show (1 : Int32).toInt = 1 from rfl)]); (first | exact fun h => absurd h.1 (by omega) | exact tw_no (by assumption) (by assumption) (by assumption) (by omega) (by omega) | exact ⟨by omega, fun j hj => i20_2 j (by omega)⟩))⟩)), ht⟩) (fun q h => by cases h) dX7_tokenIs_56
        · have dc9 : y20_2.toInt < r6.toInt := nleC rfl rfl c9
          refine lv_aload_n hx hb dX7_tokenIs_28 rfl (lv_at hl 0 rfl) ?_
          refine va_get (D := (dC, dI)) (ci := 7) (v := .ref (a 15)) (C := RX7) (T := TX7) (N := 4) hx hb hts inX7 hown hK hP 0 rfl rfl 0 (by decide) lf9 (fun _ h9 => h9) rfl dX7_tokenIs_29 ?_
          refine lv_aload_n hx hb dX7_tokenIs_32 rfl (lv_at hl 0 rfl) ?_
          refine va_get (D := (dC, dI)) (ci := 7) (v := .int tst) (C := RX7) (T := TX7) (N := 4) hx hb hts inX7 hown hK hP 0 rfl rfl 2 (by decide) lf33 (fun _ h9 => h9) rfl dX7_tokenIs_33 ?_
          refine lv_iload_n hx hb dX7_tokenIs_36 rfl (lv_at hl 2 rfl) ?_
          refine lv_iadd hx hb dX7_tokenIs_37 ?_
          have f10 : (tst + y20_2).toInt = (tst.toInt) + (y20_2.toInt) := addC rfl rfl (by omega) (by omega)
          have b11 : vp_in (tst + y20_2) 160 := inC f10 (by omega) (by omega)
          refine va_iald hx hb hK hP 1 0 rfl rfl b11 dX7_tokenIs_38 ?_
          refine lv_aload_n hx hb dX7_tokenIs_39 rfl (lv_at hl 1 rfl) ?_
          refine lv_iload_n hx hb dX7_tokenIs_40 rfl (lv_at hl 2 rfl) ?_
          refine rdVS (As := [.int y20_2]) (rest := [.int (byt (tst + y20_2).toNatClampNeg)]) ⟨hx, hb, hml, hown, hts⟩ (k_J0_charAt_5068e l sk sv sN sf y20_2 (by omega) (by omega) (by omega)) (cwV 1 hts gX7_tokenIs_J0_charAt_5068e rfl rfl rfl (by decide +kernel) ⟨Nat.le_of_ble_eq_true rfl, Nat.le_of_ble_eq_true rfl⟩) hC rfl hl.1 rfl (Nat.le_of_ble_eq_true rfl) dX7_tokenIs_41 ⟨Nat.le_of_ble_eq_true rfl, Nat.le_of_ble_eq_true rfl⟩ (fun r12 h13 => ?_)
          refine lv_icmp_eq (tgt := 49) hx hb dX7_tokenIs_44 (by decide) (fun c14 => ?_) (fun c14 => ?_)
          · have dc14 : (byt (tst + y20_2).toNatClampNeg).toInt = r12.toInt := eqC rfl rfl c14
            obtain ⟨z15, ez15⟩ : ∃ y : Int32, y = y20_2 + 1 := ⟨_, rfl⟩
            have iz15 : z15.toInt = y20_2.toInt + 1 := by rw [ez15]; exact addC rfl rfl (by omega) (by omega)
            refine lv_iinc (v := z15) (lv' := [(2, .int z15), (0, .ref (a 14)), (1, .ref sk)]) hx hb dX7_tokenIs_49 hl (k := 2) rfl (by rw [ez15]; rfl) (by decide) rfl (fun ls hl => ?_)
            refine lv_goto (tgt := 20) hx hb dX7_tokenIs_52 (by decide) ?_
            exact ih20 z15 _ (by omega) (by omega) (by (first | exact tw_step i20_2 (by assumption) (by assumption) (by assumption) (by omega) (by omega) | (intro j hj; omega))) (by omega) (by omega) (lv_sub hl [1, 2, 0] rfl)
          · have dc14 : (byt (tst + y20_2).toNatClampNeg).toInt ≠ r12.toInt := neC rfl rfl c14
            refine lv_iconst (v := 0) hx hb dX7_tokenIs_47 (by decide) ?_
            exact W.zret (v := 0) hx hb hr (by decide) (fun tq ht hW => ⟨0, rfl, (Or.inr (⟨rfl, (show ¬ wdP byt tst.toInt ten.toInt sN sf from by (try rw [show (0 : Int32).toInt = 0 from (show (0 : Int32).toInt = 0 from rfl)]); (first | exact fun h => absurd h.1 (by omega) | exact tw_no (by assumption) (by assumption) (by assumption) (by omega) (by omega) | exact ⟨by omega, fun j hj => i20_2 j (by omega)⟩))⟩)), ht⟩) (fun q h => by cases h) dX7_tokenIs_48
    have kc16 : (0 : Int32).toInt = 0 := rfl
    exact L20 _ 0 _ (by omega) (by omega) (by (first | (intro j hj; omega) | exact tw_step i20_2 (by assumption) (by assumption) (by assumption) (by omega) (by omega))) (by omega) (Nat.lt_succ_self _) (lv_sub hl [1, 2, 0] rfl)
  · have dc5 : (ten.toInt) - (tst.toInt) ≠ r2.toInt := neC f1 rfl c5
    refine lv_iconst (v := 0) hx hb dX7_tokenIs_16 (by decide) ?_
    exact W.zret (v := 0) hx hb hr (by decide) (fun tq ht hW => ⟨0, rfl, (Or.inr (⟨rfl, (show ¬ wdP byt tst.toInt ten.toInt sN sf from by (try rw [show (0 : Int32).toInt = 0 from (show (0 : Int32).toInt = 0 from rfl)]); (first | exact fun h => absurd h.1 (by omega) | exact tw_no (by assumption) (by assumption) (by assumption) (by omega) (by omega) | exact ⟨by omega, fun j hj => i20_2 j (by omega)⟩))⟩)), ht⟩) (fun q h => by cases h) dX7_tokenIs_17
