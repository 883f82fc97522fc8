set_option maxHeartbeats 4000000 in
set_option maxRecDepth 100000 in
theorem k_X9_answer2 (l : Launch) (dC : Nat → ClassId) (dI : Nat → Nat → Nat) (cI cZ cQ : ClassId) (a : Nat → Nat) (rb0 : Nat) (rb1 : Nat) (rb2 : Nat) (db0 : Nat) (db1 : Nat) (db2 : Nat) (agr0 : Nat → Int32) (ans0 : Int32) (agr1 : Nat → Int32) (ans1 : Int32) (agr2 : Nat → Int32) (ans2 : Int32) (agr3 : Nat → Int32) (ans3 : Int32) (sz : Nat) (pp : Int32) (dd : Int32) (ri : Int32) (r_ans0 : 0 ≤ ans0.toInt ∧ ans0.toInt ≤ 12) (r_ans1 : 0 ≤ ans1.toInt ∧ ans1.toInt ≤ 12) (r_ans2 : 0 ≤ ans2.toInt ∧ ans2.toInt ≤ 12) (r_ans3 : 0 ≤ ans3.toInt ∧ ans3.toInt ≤ 12) : KW l yX9_answer wsX9_answer { frames := 3, cells := 0, slots := 0, locals := 64 } (dC, dI) (TY cI cZ cQ) (wsPu cI cZ cQ a rb0 rb1 rb2 db0 db1 db2 agr0 ans0 agr1 ans1 agr2 ans2 agr3 ans3) [.ref (a 43), .int pp, .int dd, .int ri] sz 0 0 (fun (r : Int32) (u : US) => (spAnC (aF ans0 ans1 ans2 ans3) (gF agr0 agr1 agr2 agr3) pp dd ri r (aF (u.1 1 0) (u.1 3 0) (u.1 5 0) (u.1 7 0)) (gF (u.1 0) (u.1 2) (u.1 4) (u.1 6))) ∧ (0 ≤ (u.1 1 0).toInt ∧ (u.1 1 0).toInt ≤ 12) ∧ (0 ≤ (u.1 3 0).toInt ∧ (u.1 3 0).toInt ≤ 12) ∧ (0 ≤ (u.1 5 0).toInt ∧ (u.1 5 0).toInt ≤ 12) ∧ (0 ≤ (u.1 7 0).toInt ∧ (u.1 7 0).toInt ≤ 12)) (fun u : US => (wsPu cI cZ cQ a rb0 rb1 rb2 db0 db1 db2 (u.1 0) (u.1 1 0) (u.1 2) (u.1 3 0) (u.1 4) (u.1 5 0) (u.1 6) (u.1 7 0))) := by
  refine Met.ofW (cc := cX9_answer) (maxL := 5) (ret := (some .int)) (by decide) rfl ?_
  intro p e s m args below meth c s₁ B hml hv
  obtain ⟨rfl, hsz, hP, hK, hD0, hN⟩ := hv
  have hx := B.exec
  have hb := B.bytes
  have hr := B.returns
  have hts := atoms_spec (ws := wsX9_answer) B.pre
  have hown : s.vm.findClass RX9 = some m.cls := findClass_of_methodNamed B.named
  have hlocks := B.notSynchronized
  have lf64 := hts (.fieldLink RX9 64 "PalaceOfRooms" "pupils" "[LPalaceOfRooms$Pupil;") (by decide +kernel)
  have inX9 : ∀ w ∈ wsX90, w ∈ wsX9_answer := by decide +kernel
  have lf236 := hN.use (w := .fieldLinkNest "PalaceOfRooms" 236 "PalaceOfRooms$Pupil" "answers" "I" "PalaceOfRooms") (by decide +kernel) ([.ref (a 43), .int pp, .int dd, .int ri] : List Value).toArray
  have inX4 : ∀ w ∈ wsX40, w ∈ wsX9_answer := by decide +kernel
  subst hsz
  have hD := hD0.self (sz := s.heap.size)
  generalize hAe : va_A (wsPu cI cZ cQ a rb0 rb1 rb2 db0 db1 db2 agr0 ans0 agr1 ans1 agr2 ans2 agr3 ans3) s.heap.size = A at hD ⊢
  have hA : ∀ q : Nat, s.heap.size ≤ q → A q := fun q h => by rw [← hAe]; exact Or.inr h
  have hS : va_S A s.heap s.heap [] := va_S.rf
  have hl := lv_entry ([.ref (a 43), .int pp, .int dd, .int ri]) (n := 5) (Nat.le_of_ble_eq_true rfl)
  rw [lg_entry_eq]
  generalize (lg_sl ([.ref (a 43), .int pp, .int dd, .int ri]) ++ List.replicate (5 - (lg_sl ([.ref (a 43), .int pp, .int dd, .int ri])).length) Slot.unset).toArray = ls at hl ⊢
  have hl : lv_has ls 5 [(0, .ref (a 43)), (1, .int pp), (2, .int dd), (3, .int ri)] := hl
  refine lv_iload_n hx hb dX9_answer_0 rfl (lv_at hl 1 rfl) ?_
  refine lv_iconst (v := 0) hx hb dX9_answer_1 (by decide) ?_
  refine lv_iconst (v := 3) hx hb dX9_answer_2 (by decide) ?_
  refine rdS (As := [.int pp, .int 0, .int 3]) (rest := []) ⟨hx, hb, hml, hown, hts⟩ (k_X9_within l dC dI cI cZ cQ pp (0 : Int32) (3 : Int32)) (va_cwS 3 hts gX9_answer_X9_within rfl rfl rfl (by decide +kernel) ⟨Nat.le_of_ble_eq_true rfl, Nat.le_of_ble_eq_true rfl⟩) hP hK hN [] rfl rfl hl.1 rfl (Nat.le_of_ble_eq_true rfl) dX9_answer_3 ⟨Nat.le_of_ble_eq_true rfl, Nat.le_of_ble_eq_true rfl⟩ (fun r1 h2 => ?_)
  have h2 : ((((r1 = 1) ∧ ((0) ≤ pp.toInt) ∧ (pp.toInt ≤ (3))) ∨ ((r1 = 0) ∧ (pp.toInt < (0) ∨ (3) < pp.toInt)))) := h2
  rcases h2 with (⟨rfl, h2_a0, h2_a1⟩ | ⟨rfl, h2_a0⟩)
  · refine lv_if_ne (tgt := 12) hx hb dX9_answer_6 (by decide) (fun _ => ?_) (fun c9 => absurd c9 (by decide))
    refine lv_iload_n hx hb dX9_answer_12 rfl (lv_at hl 2 rfl) ?_
    refine lv_iconst (v := 1) hx hb dX9_answer_13 (by decide) ?_
    refine lv_bipush (v := 60) hx hb dX9_answer_14 (by decide) ?_
    refine rdS (As := [.int dd, .int 1, .int 60]) (rest := []) ⟨hx, hb, hml, hown, hts⟩ (k_X9_within l dC dI cI cZ cQ dd (1 : Int32) (60 : Int32)) (va_cwS 3 hts gX9_answer_X9_within rfl rfl rfl (by decide +kernel) ⟨Nat.le_of_ble_eq_true rfl, Nat.le_of_ble_eq_true rfl⟩) hP hK hN [] rfl rfl hl.1 rfl (Nat.le_of_ble_eq_true rfl) dX9_answer_16 ⟨Nat.le_of_ble_eq_true rfl, Nat.le_of_ble_eq_true rfl⟩ (fun r3 h4 => ?_)
    have h4 : ((((r3 = 1) ∧ ((1) ≤ dd.toInt) ∧ (dd.toInt ≤ (60))) ∨ ((r3 = 0) ∧ (dd.toInt < (1) ∨ (60) < dd.toInt)))) := h4
    rcases h4 with (⟨rfl, h4_a0, h4_a1⟩ | ⟨rfl, h4_a0⟩)
    · refine lv_if_ne (tgt := 25) hx hb dX9_answer_19 (by decide) (fun _ => ?_) (fun c9 => absurd c9 (by decide))
      have hc5 : pp = 0 ∨ pp = 1 ∨ pp = 2 ∨ pp = 3 := by exact ci4 rfl (by omega)
      rcases hc5 with rfl | rfl | rfl | rfl
      · have kc6 : (0 : Int32).toInt = 0 := rfl
        refine lv_aload_n hx hb dX9_answer_25 rfl (lv_at hl 0 rfl) ?_
        refine va_get (D := (dC, dI)) (ci := 9) (v := .ref (a 33)) (C := RX9) (T := TX9) (N := 11) hx hb hts inX9 hown hK hP 0 rfl rfl 7 (by decide) lf64 (fun _ h9 => h9) rfl dX9_answer_26 ?_
        refine lv_iload_n hx hb dX9_answer_29 rfl (lv_at hl 1 rfl) ?_
        have b7 : vp_in 0 4 := (show ¬ _ from by decide)
        refine va_aldq hx hb hK hP 1 2 rfl rfl b7 dX9_answer_30 ?_
        refine W.eq (g2 := F0 m 31 ls [.ref (a 34)]) rfl ?_
        refine lv_astore (lv' := [(4, .ref (a 34)), (0, .ref (a 43)), (1, .int 0), (2, .int dd), (3, .int ri)]) hx hb dX9_answer_31 hl (by decide) rfl (fun ls hl => ?_)
        refine lv_aload hx hb dX9_answer_33 (lv_at hl 0 rfl) ?_
        refine va_getN (D := (dC, dI)) (ci := 4) (v := .int ans0) (C := RX4) (T := TX4) (N := 2) hx hb hts inX4 hown hK hP 2 rfl rfl 1 (by decide) lf236 (fun _ h9 => h9) rfl dX9_answer_35 ?_
        refine lv_bipush (v := 12) hx hb dX9_answer_38 (by decide) ?_
        refine lv_icmp_lt (tgt := 46) hx hb dX9_answer_40 (by decide) (fun c8 => ?_) (fun c8 => ?_)
        · have dc8 : ans0.toInt < 12 := ltC rfl (show (12 : Int32).toInt = 12 from rfl) c8
          refine lv_aload hx hb dX9_answer_46 (lv_at hl 0 rfl) ?_
          refine lv_iload_n hx hb dX9_answer_48 rfl (lv_at hl 3 rfl) ?_
          refine lv_iload_n hx hb dX9_answer_49 rfl (lv_at hl 4 rfl) ?_
          refine wvV (As := [.int dd, .int ri]) (rest := []) (wr := [((a 43), .inr (9, [.ref (a 0), .ref (a 2), .ref (a 4), .ref (a 14), .ref (a 16), .ref (a 23), .ref (a 28), .ref (a 33), .ref (a 42), .ref rb0, .ref db0])), ((a 33), .inl (cQ, 4, .inr (.inr (.inr (.inr (puF a)))))), ((a 36), .inr (4, [.ref (a 37), .int ans1])), ((a 37), .inl (cI, 81, .inl agr1)), ((a 38), .inr (4, [.ref (a 39), .int ans2])), ((a 39), .inl (cI, 81, .inl agr2)), ((a 40), .inr (4, [.ref (a 41), .int ans3])), ((a 41), .inl (cI, 81, .inl agr3))]) (w2 := (fun u : US => (wsPu cI cZ cQ a rb0 rb1 rb2 db0 db1 db2 (u.1 0) (u.1 1 0) agr1 ans1 agr2 ans2 agr3 ans3))) ⟨hx, hb, hml, hown, hts⟩ (k_X4_note2 l dC dI cI cZ cQ (a 34) (a 35) agr0 ans0 _ dd ri r_ans0 (by omega) (by omega) (by omega)) (cwV 2 hts gX9_answer_X4_note rfl rfl rfl (by decide +kernel) ⟨Nat.le_of_ble_eq_true rfl, Nat.le_of_ble_eq_true rfl⟩) hP hD hS hA hK hN [2, 3] [0, 1, 4, 5, 6, 7, 8, 9] [0, 1, 8, 9, 2, 3, 4, 5, 6, 7] rfl rfl (by decide) (by decide) (by decide) (fun _ => rfl) (by decide) 2 4 rfl rfl rfl hl.1 rfl (Nat.le_of_ble_eq_true rfl) dX9_answer_50 ⟨Nat.le_of_ble_eq_true rfl, Nat.le_of_ble_eq_true rfl⟩ (fun u11 H locs h10 hP hD hS => ?_)
          obtain ⟨agr0_c12, eagr0_c12⟩ : ∃ f : Nat → Int32, f = (u11.1 0) := ⟨_, rfl⟩
          obtain ⟨ans0_c13, eans0_c13⟩ : ∃ f : Int32, f = (u11.1 1 0) := ⟨_, rfl⟩
          have hP : va_P (dC, dI) vwCl (wsPu cI cZ cQ a rb0 rb1 rb2 db0 db1 db2 agr0_c12 ans0_c13 agr1 ans1 agr2 ans2 agr3 ans3) H := by rw [eagr0_c12, eans0_c13]; exact hP
          have hD : va_D A (wsPu cI cZ cQ a rb0 rb1 rb2 db0 db1 db2 agr0_c12 ans0_c13 agr1 ans1 agr2 ans2 agr3 ans3) := by rw [eagr0_c12, eans0_c13]; exact hD
          have h10 : (ans0_c13 = ans0 + 1) ∧ (∀ j : Nat, j < 81 → agr0_c12 j = agr0 j + incW (nI j) dd ri) ∧ (0 ≤ ans0_c13.toInt ∧ ans0_c13.toInt ≤ 12) := by (try rw [eagr0_c12]); (try rw [eans0_c13]); exact h10
          obtain ⟨h10_0, h10_1, h10_2⟩ := h10
          refine lv_aload hx hb dX9_answer_53 (lv_at hl 0 rfl) ?_
          refine va_getN (D := (dC, dI)) (ci := 4) (v := .int ans0_c13) (C := RX4) (T := TX4) (N := 2) hx hb hts inX4 hown hK hP 2 rfl rfl 1 (by decide) lf236 (fun _ h9 => h9) rfl dX9_answer_55 ?_
          exact W.iret (v := ans0_c13) hx hb hr (fun tq ht hW => ⟨⟨ans0_c13, (uS [agr0_c12, (fun _ => ans0_c13), agr1, (fun _ => ans1), agr2, (fun _ => ans2), agr3, (fun _ => ans3)] 0 (fun _ => 0)), rfl, ⟨(show spAnC (aF ans0 ans1 ans2 ans3) (gF agr0 agr1 agr2 agr3) (0 : Int32) dd ri ans0_c13 (aF ans0_c13 ans1 ans2 ans3) (gF agr0_c12 agr1 agr2 agr3) from by exact ⟨by (unfold spAns; first | exact Or.inl ⟨by omega, rfl, rfl⟩ | exact Or.inr (Or.inl ⟨by omega, by omega, rfl, rfl⟩) | exact Or.inr (Or.inr (Or.inl ⟨by omega, by omega, by (first | (show 12 ≤ ans0.toInt; omega) | (show 12 ≤ ans1.toInt; omega) | (show 12 ≤ ans2.toInt; omega) | (show 12 ≤ ans3.toInt; omega)), rfl, rfl⟩)) | exact Or.inr (Or.inr (Or.inr ⟨by omega, by omega, by (first | (show ans0.toInt < 12; omega) | (show ans1.toInt < 12; omega) | (show ans2.toInt < 12; omega) | (show ans3.toInt < 12; omega)), by (first | assumption | (show _ = ans0 + 1; assumption) | (show _ = ans1 + 1; assumption) | (show _ = ans2 + 1; assumption) | (show _ = ans3 + 1; assumption)), by (first | exact aF_u0 (by assumption) | exact aF_u1 (by assumption) | exact aF_u2 (by assumption) | exact aF_u3 (by assumption))⟩))), by (first | exact Or.inl ⟨by decide, fun q hq t ht => rfl⟩ | exact an_u0 (by omega) (by assumption) | exact an_u1 (by omega) (by assumption) | exact an_u2 (by omega) (by assumption) | exact an_u3 (by omega) (by assumption))⟩), h10_2, r_ans1, r_ans2, r_ans3⟩, by rw [ht]; exact hP, hD⟩, hS.F ht⟩) hS.2.2 dX9_answer_58
        · have dc8 : 12 ≤ ans0.toInt := nltC rfl (show (12 : Int32).toInt = 12 from rfl) c8
          refine lv_bipush (v := (-5)) hx hb dX9_answer_43 (by decide) ?_
          exact W.iret (v := (-5)) hx hb hr (fun tq ht hW => ⟨⟨(-5), (uS [agr0, (fun _ => ans0), agr1, (fun _ => ans1), agr2, (fun _ => ans2), agr3, (fun _ => ans3)] 0 (fun _ => 0)), rfl, ⟨(show spAnC (aF ans0 ans1 ans2 ans3) (gF agr0 agr1 agr2 agr3) (0 : Int32) dd ri ((-5) : Int32) (aF ans0 ans1 ans2 ans3) (gF agr0 agr1 agr2 agr3) from by (try rw [show ((-5) : Int32).toInt = (-5) from (show ((-5) : Int32).toInt = (-5) from rfl)]); exact ⟨by (unfold spAns; first | exact Or.inl ⟨by omega, rfl, rfl⟩ | exact Or.inr (Or.inl ⟨by omega, by omega, rfl, rfl⟩) | exact Or.inr (Or.inr (Or.inl ⟨by omega, by omega, by (first | (show 12 ≤ ans0.toInt; omega) | (show 12 ≤ ans1.toInt; omega) | (show 12 ≤ ans2.toInt; omega) | (show 12 ≤ ans3.toInt; omega)), rfl, rfl⟩)) | exact Or.inr (Or.inr (Or.inr ⟨by omega, by omega, by (first | (show ans0.toInt < 12; omega) | (show ans1.toInt < 12; omega) | (show ans2.toInt < 12; omega) | (show ans3.toInt < 12; omega)), by (first | assumption | (show _ = ans0 + 1; assumption) | (show _ = ans1 + 1; assumption) | (show _ = ans2 + 1; assumption) | (show _ = ans3 + 1; assumption)), by (first | exact aF_u0 (by assumption) | exact aF_u1 (by assumption) | exact aF_u2 (by assumption) | exact aF_u3 (by assumption))⟩))), by (first | exact Or.inl ⟨by decide, fun q hq t ht => rfl⟩ | exact an_u0 (by omega) (by assumption) | exact an_u1 (by omega) (by assumption) | exact an_u2 (by omega) (by assumption) | exact an_u3 (by omega) (by assumption))⟩), r_ans0, r_ans1, r_ans2, r_ans3⟩, by rw [ht]; exact hP, hD⟩, hS.F ht⟩) hS.2.2 dX9_answer_45
      · have kc14 : (1 : Int32).toInt = 1 := rfl
        refine lv_aload_n hx hb dX9_answer_25 rfl (lv_at hl 0 rfl) ?_
        refine va_get (D := (dC, dI)) (ci := 9) (v := .ref (a 33)) (C := RX9) (T := TX9) (N := 11) hx hb hts inX9 hown hK hP 0 rfl rfl 7 (by decide) lf64 (fun _ h9 => h9) rfl dX9_answer_26 ?_
        refine lv_iload_n hx hb dX9_answer_29 rfl (lv_at hl 1 rfl) ?_
        have b15 : vp_in 1 4 := (show ¬ _ from by decide)
        refine va_aldq hx hb hK hP 1 2 rfl rfl b15 dX9_answer_30 ?_
        refine W.eq (g2 := F0 m 31 ls [.ref (a 36)]) rfl ?_
        refine lv_astore (lv' := [(4, .ref (a 36)), (0, .ref (a 43)), (1, .int 1), (2, .int dd), (3, .int ri)]) hx hb dX9_answer_31 hl (by decide) rfl (fun ls hl => ?_)
        refine lv_aload hx hb dX9_answer_33 (lv_at hl 0 rfl) ?_
        refine va_getN (D := (dC, dI)) (ci := 4) (v := .int ans1) (C := RX4) (T := TX4) (N := 2) hx hb hts inX4 hown hK hP 4 rfl rfl 1 (by decide) lf236 (fun _ h9 => h9) rfl dX9_answer_35 ?_
        refine lv_bipush (v := 12) hx hb dX9_answer_38 (by decide) ?_
        refine lv_icmp_lt (tgt := 46) hx hb dX9_answer_40 (by decide) (fun c16 => ?_) (fun c16 => ?_)
        · have dc16 : ans1.toInt < 12 := ltC rfl (show (12 : Int32).toInt = 12 from rfl) c16
          refine lv_aload hx hb dX9_answer_46 (lv_at hl 0 rfl) ?_
          refine lv_iload_n hx hb dX9_answer_48 rfl (lv_at hl 3 rfl) ?_
          refine lv_iload_n hx hb dX9_answer_49 rfl (lv_at hl 4 rfl) ?_
          refine wvV (As := [.int dd, .int ri]) (rest := []) (wr := [((a 43), .inr (9, [.ref (a 0), .ref (a 2), .ref (a 4), .ref (a 14), .ref (a 16), .ref (a 23), .ref (a 28), .ref (a 33), .ref (a 42), .ref rb0, .ref db0])), ((a 33), .inl (cQ, 4, .inr (.inr (.inr (.inr (puF a)))))), ((a 34), .inr (4, [.ref (a 35), .int ans0])), ((a 35), .inl (cI, 81, .inl agr0)), ((a 38), .inr (4, [.ref (a 39), .int ans2])), ((a 39), .inl (cI, 81, .inl agr2)), ((a 40), .inr (4, [.ref (a 41), .int ans3])), ((a 41), .inl (cI, 81, .inl agr3))]) (w2 := (fun u : US => (wsPu cI cZ cQ a rb0 rb1 rb2 db0 db1 db2 agr0 ans0 (u.1 0) (u.1 1 0) agr2 ans2 agr3 ans3))) ⟨hx, hb, hml, hown, hts⟩ (k_X4_note2 l dC dI cI cZ cQ (a 36) (a 37) agr1 ans1 _ dd ri r_ans1 (by omega) (by omega) (by omega)) (cwV 2 hts gX9_answer_X4_note rfl rfl rfl (by decide +kernel) ⟨Nat.le_of_ble_eq_true rfl, Nat.le_of_ble_eq_true rfl⟩) hP hD hS hA hK hN [4, 5] [0, 1, 2, 3, 6, 7, 8, 9] [0, 1, 2, 3, 8, 9, 4, 5, 6, 7] rfl rfl (by decide) (by decide) (by decide) (fun _ => rfl) (by decide) 4 4 rfl rfl rfl hl.1 rfl (Nat.le_of_ble_eq_true rfl) dX9_answer_50 ⟨Nat.le_of_ble_eq_true rfl, Nat.le_of_ble_eq_true rfl⟩ (fun u19 H locs h18 hP hD hS => ?_)
          obtain ⟨agr1_c20, eagr1_c20⟩ : ∃ f : Nat → Int32, f = (u19.1 0) := ⟨_, rfl⟩
          obtain ⟨ans1_c21, eans1_c21⟩ : ∃ f : Int32, f = (u19.1 1 0) := ⟨_, rfl⟩
          have hP : va_P (dC, dI) vwCl (wsPu cI cZ cQ a rb0 rb1 rb2 db0 db1 db2 agr0 ans0 agr1_c20 ans1_c21 agr2 ans2 agr3 ans3) H := by rw [eagr1_c20, eans1_c21]; exact hP
          have hD : va_D A (wsPu cI cZ cQ a rb0 rb1 rb2 db0 db1 db2 agr0 ans0 agr1_c20 ans1_c21 agr2 ans2 agr3 ans3) := by rw [eagr1_c20, eans1_c21]; exact hD
          have h18 : (ans1_c21 = ans1 + 1) ∧ (∀ j : Nat, j < 81 → agr1_c20 j = agr1 j + incW (nI j) dd ri) ∧ (0 ≤ ans1_c21.toInt ∧ ans1_c21.toInt ≤ 12) := by (try rw [eagr1_c20]); (try rw [eans1_c21]); exact h18
          obtain ⟨h18_0, h18_1, h18_2⟩ := h18
          refine lv_aload hx hb dX9_answer_53 (lv_at hl 0 rfl) ?_
          refine va_getN (D := (dC, dI)) (ci := 4) (v := .int ans1_c21) (C := RX4) (T := TX4) (N := 2) hx hb hts inX4 hown hK hP 4 rfl rfl 1 (by decide) lf236 (fun _ h9 => h9) rfl dX9_answer_55 ?_
          exact W.iret (v := ans1_c21) hx hb hr (fun tq ht hW => ⟨⟨ans1_c21, (uS [agr0, (fun _ => ans0), agr1_c20, (fun _ => ans1_c21), agr2, (fun _ => ans2), agr3, (fun _ => ans3)] 0 (fun _ => 0)), rfl, ⟨(show spAnC (aF ans0 ans1 ans2 ans3) (gF agr0 agr1 agr2 agr3) (1 : Int32) dd ri ans1_c21 (aF ans0 ans1_c21 ans2 ans3) (gF agr0 agr1_c20 agr2 agr3) from by exact ⟨by (unfold spAns; first | exact Or.inl ⟨by omega, rfl, rfl⟩ | exact Or.inr (Or.inl ⟨by omega, by omega, rfl, rfl⟩) | exact Or.inr (Or.inr (Or.inl ⟨by omega, by omega, by (first | (show 12 ≤ ans0.toInt; omega) | (show 12 ≤ ans1.toInt; omega) | (show 12 ≤ ans2.toInt; omega) | (show 12 ≤ ans3.toInt; omega)), rfl, rfl⟩)) | exact Or.inr (Or.inr (Or.inr ⟨by omega, by omega, by (first | (show ans0.toInt < 12; omega) | (show ans1.toInt < 12; omega) | (show ans2.toInt < 12; omega) | (show ans3.toInt < 12; omega)), by (first | assumption | (show _ = ans0 + 1; assumption) | (show _ = ans1 + 1; assumption) | (show _ = ans2 + 1; assumption) | (show _ = ans3 + 1; assumption)), by (first | exact aF_u0 (by assumption) | exact aF_u1 (by assumption) | exact aF_u2 (by assumption) | exact aF_u3 (by assumption))⟩))), by (first | exact Or.inl ⟨by decide, fun q hq t ht => rfl⟩ | exact an_u0 (by omega) (by assumption) | exact an_u1 (by omega) (by assumption) | exact an_u2 (by omega) (by assumption) | exact an_u3 (by omega) (by assumption))⟩), r_ans0, h18_2, r_ans2, r_ans3⟩, by rw [ht]; exact hP, hD⟩, hS.F ht⟩) hS.2.2 dX9_answer_58
        · have dc16 : 12 ≤ ans1.toInt := nltC rfl (show (12 : Int32).toInt = 12 from rfl) c16
          refine lv_bipush (v := (-5)) hx hb dX9_answer_43 (by decide) ?_
          exact W.iret (v := (-5)) hx hb hr (fun tq ht hW => ⟨⟨(-5), (uS [agr0, (fun _ => ans0), agr1, (fun _ => ans1), agr2, (fun _ => ans2), agr3, (fun _ => ans3)] 0 (fun _ => 0)), rfl, ⟨(show spAnC (aF ans0 ans1 ans2 ans3) (gF agr0 agr1 agr2 agr3) (1 : Int32) dd ri ((-5) : Int32) (aF ans0 ans1 ans2 ans3) (gF agr0 agr1 agr2 agr3) from by (try rw [show ((-5) : Int32).toInt = (-5) from (show ((-5) : Int32).toInt = (-5) from rfl)]); exact ⟨by (unfold spAns; first | exact Or.inl ⟨by omega, rfl, rfl⟩ | exact Or.inr (Or.inl ⟨by omega, by omega, rfl, rfl⟩) | exact Or.inr (Or.inr (Or.inl ⟨by omega, by omega, by (first | (show 12 ≤ ans0.toInt; omega) | (show 12 ≤ ans1.toInt; omega) | (show 12 ≤ ans2.toInt; omega) | (show 12 ≤ ans3.toInt; omega)), rfl, rfl⟩)) | exact Or.inr (Or.inr (Or.inr ⟨by omega, by omega, by (first | (show ans0.toInt < 12; omega) | (show ans1.toInt < 12; omega) | (show ans2.toInt < 12; omega) | (show ans3.toInt < 12; omega)), by (first | assumption | (show _ = ans0 + 1; assumption) | (show _ = ans1 + 1; assumption) | (show _ = ans2 + 1; assumption) | (show _ = ans3 + 1; assumption)), by (first | exact aF_u0 (by assumption) | exact aF_u1 (by assumption) | exact aF_u2 (by assumption) | exact aF_u3 (by assumption))⟩))), by (first | exact Or.inl ⟨by decide, fun q hq t ht => rfl⟩ | exact an_u0 (by omega) (by assumption) | exact an_u1 (by omega) (by assumption) | exact an_u2 (by omega) (by assumption) | exact an_u3 (by omega) (by assumption))⟩), r_ans0, r_ans1, r_ans2, r_ans3⟩, by rw [ht]; exact hP, hD⟩, hS.F ht⟩) hS.2.2 dX9_answer_45
      · have kc22 : (2 : Int32).toInt = 2 := rfl
        refine lv_aload_n hx hb dX9_answer_25 rfl (lv_at hl 0 rfl) ?_
        refine va_get (D := (dC, dI)) (ci := 9) (v := .ref (a 33)) (C := RX9) (T := TX9) (N := 11) hx hb hts inX9 hown hK hP 0 rfl rfl 7 (by decide) lf64 (fun _ h9 => h9) rfl dX9_answer_26 ?_
        refine lv_iload_n hx hb dX9_answer_29 rfl (lv_at hl 1 rfl) ?_
        have b23 : vp_in 2 4 := (show ¬ _ from by decide)
        refine va_aldq hx hb hK hP 1 2 rfl rfl b23 dX9_answer_30 ?_
        refine W.eq (g2 := F0 m 31 ls [.ref (a 38)]) rfl ?_
        refine lv_astore (lv' := [(4, .ref (a 38)), (0, .ref (a 43)), (1, .int 2), (2, .int dd), (3, .int ri)]) hx hb dX9_answer_31 hl (by decide) rfl (fun ls hl => ?_)
        refine lv_aload hx hb dX9_answer_33 (lv_at hl 0 rfl) ?_
        refine va_getN (D := (dC, dI)) (ci := 4) (v := .int ans2) (C := RX4) (T := TX4) (N := 2) hx hb hts inX4 hown hK hP 6 rfl rfl 1 (by decide) lf236 (fun _ h9 => h9) rfl dX9_answer_35 ?_
        refine lv_bipush (v := 12) hx hb dX9_answer_38 (by decide) ?_
        refine lv_icmp_lt (tgt := 46) hx hb dX9_answer_40 (by decide) (fun c24 => ?_) (fun c24 => ?_)
        · have dc24 : ans2.toInt < 12 := ltC rfl (show (12 : Int32).toInt = 12 from rfl) c24
          refine lv_aload hx hb dX9_answer_46 (lv_at hl 0 rfl) ?_
          refine lv_iload_n hx hb dX9_answer_48 rfl (lv_at hl 3 rfl) ?_
          refine lv_iload_n hx hb dX9_answer_49 rfl (lv_at hl 4 rfl) ?_
          refine wvV (As := [.int dd, .int ri]) (rest := []) (wr := [((a 43), .inr (9, [.ref (a 0), .ref (a 2), .ref (a 4), .ref (a 14), .ref (a 16), .ref (a 23), .ref (a 28), .ref (a 33), .ref (a 42), .ref rb0, .ref db0])), ((a 33), .inl (cQ, 4, .inr (.inr (.inr (.inr (puF a)))))), ((a 34), .inr (4, [.ref (a 35), .int ans0])), ((a 35), .inl (cI, 81, .inl agr0)), ((a 36), .inr (4, [.ref (a 37), .int ans1])), ((a 37), .inl (cI, 81, .inl agr1)), ((a 40), .inr (4, [.ref (a 41), .int ans3])), ((a 41), .inl (cI, 81, .inl agr3))]) (w2 := (fun u : US => (wsPu cI cZ cQ a rb0 rb1 rb2 db0 db1 db2 agr0 ans0 agr1 ans1 (u.1 0) (u.1 1 0) agr3 ans3))) ⟨hx, hb, hml, hown, hts⟩ (k_X4_note2 l dC dI cI cZ cQ (a 38) (a 39) agr2 ans2 _ dd ri r_ans2 (by omega) (by omega) (by omega)) (cwV 2 hts gX9_answer_X4_note rfl rfl rfl (by decide +kernel) ⟨Nat.le_of_ble_eq_true rfl, Nat.le_of_ble_eq_true rfl⟩) hP hD hS hA hK hN [6, 7] [0, 1, 2, 3, 4, 5, 8, 9] [0, 1, 2, 3, 4, 5, 8, 9, 6, 7] rfl rfl (by decide) (by decide) (by decide) (fun _ => rfl) (by decide) 6 4 rfl rfl rfl hl.1 rfl (Nat.le_of_ble_eq_true rfl) dX9_answer_50 ⟨Nat.le_of_ble_eq_true rfl, Nat.le_of_ble_eq_true rfl⟩ (fun u27 H locs h26 hP hD hS => ?_)
          obtain ⟨agr2_c28, eagr2_c28⟩ : ∃ f : Nat → Int32, f = (u27.1 0) := ⟨_, rfl⟩
          obtain ⟨ans2_c29, eans2_c29⟩ : ∃ f : Int32, f = (u27.1 1 0) := ⟨_, rfl⟩
          have hP : va_P (dC, dI) vwCl (wsPu cI cZ cQ a rb0 rb1 rb2 db0 db1 db2 agr0 ans0 agr1 ans1 agr2_c28 ans2_c29 agr3 ans3) H := by rw [eagr2_c28, eans2_c29]; exact hP
          have hD : va_D A (wsPu cI cZ cQ a rb0 rb1 rb2 db0 db1 db2 agr0 ans0 agr1 ans1 agr2_c28 ans2_c29 agr3 ans3) := by rw [eagr2_c28, eans2_c29]; exact hD
          have h26 : (ans2_c29 = ans2 + 1) ∧ (∀ j : Nat, j < 81 → agr2_c28 j = agr2 j + incW (nI j) dd ri) ∧ (0 ≤ ans2_c29.toInt ∧ ans2_c29.toInt ≤ 12) := by (try rw [eagr2_c28]); (try rw [eans2_c29]); exact h26
          obtain ⟨h26_0, h26_1, h26_2⟩ := h26
          refine lv_aload hx hb dX9_answer_53 (lv_at hl 0 rfl) ?_
          refine va_getN (D := (dC, dI)) (ci := 4) (v := .int ans2_c29) (C := RX4) (T := TX4) (N := 2) hx hb hts inX4 hown hK hP 6 rfl rfl 1 (by decide) lf236 (fun _ h9 => h9) rfl dX9_answer_55 ?_
          exact W.iret (v := ans2_c29) hx hb hr (fun tq ht hW => ⟨⟨ans2_c29, (uS [agr0, (fun _ => ans0), agr1, (fun _ => ans1), agr2_c28, (fun _ => ans2_c29), agr3, (fun _ => ans3)] 0 (fun _ => 0)), rfl, ⟨(show spAnC (aF ans0 ans1 ans2 ans3) (gF agr0 agr1 agr2 agr3) (2 : Int32) dd ri ans2_c29 (aF ans0 ans1 ans2_c29 ans3) (gF agr0 agr1 agr2_c28 agr3) from by exact ⟨by (unfold spAns; first | exact Or.inl ⟨by omega, rfl, rfl⟩ | exact Or.inr (Or.inl ⟨by omega, by omega, rfl, rfl⟩) | exact Or.inr (Or.inr (Or.inl ⟨by omega, by omega, by (first | (show 12 ≤ ans0.toInt; omega) | (show 12 ≤ ans1.toInt; omega) | (show 12 ≤ ans2.toInt; omega) | (show 12 ≤ ans3.toInt; omega)), rfl, rfl⟩)) | exact Or.inr (Or.inr (Or.inr ⟨by omega, by omega, by (first | (show ans0.toInt < 12; omega) | (show ans1.toInt < 12; omega) | (show ans2.toInt < 12; omega) | (show ans3.toInt < 12; omega)), by (first | assumption | (show _ = ans0 + 1; assumption) | (show _ = ans1 + 1; assumption) | (show _ = ans2 + 1; assumption) | (show _ = ans3 + 1; assumption)), by (first | exact aF_u0 (by assumption) | exact aF_u1 (by assumption) | exact aF_u2 (by assumption) | exact aF_u3 (by assumption))⟩))), by (first | exact Or.inl ⟨by decide, fun q hq t ht => rfl⟩ | exact an_u0 (by omega) (by assumption) | exact an_u1 (by omega) (by assumption) | exact an_u2 (by omega) (by assumption) | exact an_u3 (by omega) (by assumption))⟩), r_ans0, r_ans1, h26_2, r_ans3⟩, by rw [ht]; exact hP, hD⟩, hS.F ht⟩) hS.2.2 dX9_answer_58
        · have dc24 : 12 ≤ ans2.toInt := nltC rfl (show (12 : Int32).toInt = 12 from rfl) c24
          refine lv_bipush (v := (-5)) hx hb dX9_answer_43 (by decide) ?_
          exact W.iret (v := (-5)) hx hb hr (fun tq ht hW => ⟨⟨(-5), (uS [agr0, (fun _ => ans0), agr1, (fun _ => ans1), agr2, (fun _ => ans2), agr3, (fun _ => ans3)] 0 (fun _ => 0)), rfl, ⟨(show spAnC (aF ans0 ans1 ans2 ans3) (gF agr0 agr1 agr2 agr3) (2 : Int32) dd ri ((-5) : Int32) (aF ans0 ans1 ans2 ans3) (gF agr0 agr1 agr2 agr3) from by (try rw [show ((-5) : Int32).toInt = (-5) from (show ((-5) : Int32).toInt = (-5) from rfl)]); exact ⟨by (unfold spAns; first | exact Or.inl ⟨by omega, rfl, rfl⟩ | exact Or.inr (Or.inl ⟨by omega, by omega, rfl, rfl⟩) | exact Or.inr (Or.inr (Or.inl ⟨by omega, by omega, by (first | (show 12 ≤ ans0.toInt; omega) | (show 12 ≤ ans1.toInt; omega) | (show 12 ≤ ans2.toInt; omega) | (show 12 ≤ ans3.toInt; omega)), rfl, rfl⟩)) | exact Or.inr (Or.inr (Or.inr ⟨by omega, by omega, by (first | (show ans0.toInt < 12; omega) | (show ans1.toInt < 12; omega) | (show ans2.toInt < 12; omega) | (show ans3.toInt < 12; omega)), by (first | assumption | (show _ = ans0 + 1; assumption) | (show _ = ans1 + 1; assumption) | (show _ = ans2 + 1; assumption) | (show _ = ans3 + 1; assumption)), by (first | exact aF_u0 (by assumption) | exact aF_u1 (by assumption) | exact aF_u2 (by assumption) | exact aF_u3 (by assumption))⟩))), by (first | exact Or.inl ⟨by decide, fun q hq t ht => rfl⟩ | exact an_u0 (by omega) (by assumption) | exact an_u1 (by omega) (by assumption) | exact an_u2 (by omega) (by assumption) | exact an_u3 (by omega) (by assumption))⟩), r_ans0, r_ans1, r_ans2, r_ans3⟩, by rw [ht]; exact hP, hD⟩, hS.F ht⟩) hS.2.2 dX9_answer_45
      · have kc30 : (3 : Int32).toInt = 3 := rfl
        refine lv_aload_n hx hb dX9_answer_25 rfl (lv_at hl 0 rfl) ?_
        refine va_get (D := (dC, dI)) (ci := 9) (v := .ref (a 33)) (C := RX9) (T := TX9) (N := 11) hx hb hts inX9 hown hK hP 0 rfl rfl 7 (by decide) lf64 (fun _ h9 => h9) rfl dX9_answer_26 ?_
        refine lv_iload_n hx hb dX9_answer_29 rfl (lv_at hl 1 rfl) ?_
        have b31 : vp_in 3 4 := (show ¬ _ from by decide)
        refine va_aldq hx hb hK hP 1 2 rfl rfl b31 dX9_answer_30 ?_
        refine W.eq (g2 := F0 m 31 ls [.ref (a 40)]) rfl ?_
        refine lv_astore (lv' := [(4, .ref (a 40)), (0, .ref (a 43)), (1, .int 3), (2, .int dd), (3, .int ri)]) hx hb dX9_answer_31 hl (by decide) rfl (fun ls hl => ?_)
        refine lv_aload hx hb dX9_answer_33 (lv_at hl 0 rfl) ?_
        refine va_getN (D := (dC, dI)) (ci := 4) (v := .int ans3) (C := RX4) (T := TX4) (N := 2) hx hb hts inX4 hown hK hP 8 rfl rfl 1 (by decide) lf236 (fun _ h9 => h9) rfl dX9_answer_35 ?_
        refine lv_bipush (v := 12) hx hb dX9_answer_38 (by decide) ?_
        refine lv_icmp_lt (tgt := 46) hx hb dX9_answer_40 (by decide) (fun c32 => ?_) (fun c32 => ?_)
        · have dc32 : ans3.toInt < 12 := ltC rfl (show (12 : Int32).toInt = 12 from rfl) c32
          refine lv_aload hx hb dX9_answer_46 (lv_at hl 0 rfl) ?_
          refine lv_iload_n hx hb dX9_answer_48 rfl (lv_at hl 3 rfl) ?_
          refine lv_iload_n hx hb dX9_answer_49 rfl (lv_at hl 4 rfl) ?_
          refine wvV (As := [.int dd, .int ri]) (rest := []) (wr := [((a 43), .inr (9, [.ref (a 0), .ref (a 2), .ref (a 4), .ref (a 14), .ref (a 16), .ref (a 23), .ref (a 28), .ref (a 33), .ref (a 42), .ref rb0, .ref db0])), ((a 33), .inl (cQ, 4, .inr (.inr (.inr (.inr (puF a)))))), ((a 34), .inr (4, [.ref (a 35), .int ans0])), ((a 35), .inl (cI, 81, .inl agr0)), ((a 36), .inr (4, [.ref (a 37), .int ans1])), ((a 37), .inl (cI, 81, .inl agr1)), ((a 38), .inr (4, [.ref (a 39), .int ans2])), ((a 39), .inl (cI, 81, .inl agr2))]) (w2 := (fun u : US => (wsPu cI cZ cQ a rb0 rb1 rb2 db0 db1 db2 agr0 ans0 agr1 ans1 agr2 ans2 (u.1 0) (u.1 1 0)))) ⟨hx, hb, hml, hown, hts⟩ (k_X4_note2 l dC dI cI cZ cQ (a 40) (a 41) agr3 ans3 _ dd ri r_ans3 (by omega) (by omega) (by omega)) (cwV 2 hts gX9_answer_X4_note rfl rfl rfl (by decide +kernel) ⟨Nat.le_of_ble_eq_true rfl, Nat.le_of_ble_eq_true rfl⟩) hP hD hS hA hK hN [8, 9] [0, 1, 2, 3, 4, 5, 6, 7] [0, 1, 2, 3, 4, 5, 6, 7, 8, 9] rfl rfl (by decide) (by decide) (by decide) (fun _ => rfl) (by decide) 8 4 rfl rfl rfl hl.1 rfl (Nat.le_of_ble_eq_true rfl) dX9_answer_50 ⟨Nat.le_of_ble_eq_true rfl, Nat.le_of_ble_eq_true rfl⟩ (fun u35 H locs h34 hP hD hS => ?_)
          obtain ⟨agr3_c36, eagr3_c36⟩ : ∃ f : Nat → Int32, f = (u35.1 0) := ⟨_, rfl⟩
          obtain ⟨ans3_c37, eans3_c37⟩ : ∃ f : Int32, f = (u35.1 1 0) := ⟨_, rfl⟩
          have hP : va_P (dC, dI) vwCl (wsPu cI cZ cQ a rb0 rb1 rb2 db0 db1 db2 agr0 ans0 agr1 ans1 agr2 ans2 agr3_c36 ans3_c37) H := by rw [eagr3_c36, eans3_c37]; exact hP
          have hD : va_D A (wsPu cI cZ cQ a rb0 rb1 rb2 db0 db1 db2 agr0 ans0 agr1 ans1 agr2 ans2 agr3_c36 ans3_c37) := by rw [eagr3_c36, eans3_c37]; exact hD
          have h34 : (ans3_c37 = ans3 + 1) ∧ (∀ j : Nat, j < 81 → agr3_c36 j = agr3 j + incW (nI j) dd ri) ∧ (0 ≤ ans3_c37.toInt ∧ ans3_c37.toInt ≤ 12) := by (try rw [eagr3_c36]); (try rw [eans3_c37]); exact h34
          obtain ⟨h34_0, h34_1, h34_2⟩ := h34
          refine lv_aload hx hb dX9_answer_53 (lv_at hl 0 rfl) ?_
          refine va_getN (D := (dC, dI)) (ci := 4) (v := .int ans3_c37) (C := RX4) (T := TX4) (N := 2) hx hb hts inX4 hown hK hP 8 rfl rfl 1 (by decide) lf236 (fun _ h9 => h9) rfl dX9_answer_55 ?_
          exact W.iret (v := ans3_c37) hx hb hr (fun tq ht hW => ⟨⟨ans3_c37, (uS [agr0, (fun _ => ans0), agr1, (fun _ => ans1), agr2, (fun _ => ans2), agr3_c36, (fun _ => ans3_c37)] 0 (fun _ => 0)), rfl, ⟨(show spAnC (aF ans0 ans1 ans2 ans3) (gF agr0 agr1 agr2 agr3) (3 : Int32) dd ri ans3_c37 (aF ans0 ans1 ans2 ans3_c37) (gF agr0 agr1 agr2 agr3_c36) from by exact ⟨by (unfold spAns; first | exact Or.inl ⟨by omega, rfl, rfl⟩ | exact Or.inr (Or.inl ⟨by omega, by omega, rfl, rfl⟩) | exact Or.inr (Or.inr (Or.inl ⟨by omega, by omega, by (first | (show 12 ≤ ans0.toInt; omega) | (show 12 ≤ ans1.toInt; omega) | (show 12 ≤ ans2.toInt; omega) | (show 12 ≤ ans3.toInt; omega)), rfl, rfl⟩)) | exact Or.inr (Or.inr (Or.inr ⟨by omega, by omega, by (first | (show ans0.toInt < 12; omega) | (show ans1.toInt < 12; omega) | (show ans2.toInt < 12; omega) | (show ans3.toInt < 12; omega)), by (first | assumption | (show _ = ans0 + 1; assumption) | (show _ = ans1 + 1; assumption) | (show _ = ans2 + 1; assumption) | (show _ = ans3 + 1; assumption)), by (first | exact aF_u0 (by assumption) | exact aF_u1 (by assumption) | exact aF_u2 (by assumption) | exact aF_u3 (by assumption))⟩))), by (first | exact Or.inl ⟨by decide, fun q hq t ht => rfl⟩ | exact an_u0 (by omega) (by assumption) | exact an_u1 (by omega) (by assumption) | exact an_u2 (by omega) (by assumption) | exact an_u3 (by omega) (by assumption))⟩), r_ans0, r_ans1, r_ans2, h34_2⟩, by rw [ht]; exact hP, hD⟩, hS.F ht⟩) hS.2.2 dX9_answer_58
        · have dc32 : 12 ≤ ans3.toInt := nltC rfl (show (12 : Int32).toInt = 12 from rfl) c32
          refine lv_bipush (v := (-5)) hx hb dX9_answer_43 (by decide) ?_
          exact W.iret (v := (-5)) hx hb hr (fun tq ht hW => ⟨⟨(-5), (uS [agr0, (fun _ => ans0), agr1, (fun _ => ans1), agr2, (fun _ => ans2), agr3, (fun _ => ans3)] 0 (fun _ => 0)), rfl, ⟨(show spAnC (aF ans0 ans1 ans2 ans3) (gF agr0 agr1 agr2 agr3) (3 : Int32) dd ri ((-5) : Int32) (aF ans0 ans1 ans2 ans3) (gF agr0 agr1 agr2 agr3) from by (try rw [show ((-5) : Int32).toInt = (-5) from (show ((-5) : Int32).toInt = (-5) from rfl)]); exact ⟨by (unfold spAns; first | exact Or.inl ⟨by omega, rfl, rfl⟩ | exact Or.inr (Or.inl ⟨by omega, by omega, rfl, rfl⟩) | exact Or.inr (Or.inr (Or.inl ⟨by omega, by omega, by (first | (show 12 ≤ ans0.toInt; omega) | (show 12 ≤ ans1.toInt; omega) | (show 12 ≤ ans2.toInt; omega) | (show 12 ≤ ans3.toInt; omega)), rfl, rfl⟩)) | exact Or.inr (Or.inr (Or.inr ⟨by omega, by omega, by (first | (show ans0.toInt < 12; omega) | (show ans1.toInt < 12; omega) | (show ans2.toInt < 12; omega) | (show ans3.toInt < 12; omega)), by (first | assumption | (show _ = ans0 + 1; assumption) | (show _ = ans1 + 1; assumption) | (show _ = ans2 + 1; assumption) | (show _ = ans3 + 1; assumption)), by (first | exact aF_u0 (by assumption) | exact aF_u1 (by assumption) | exact aF_u2 (by assumption) | exact aF_u3 (by assumption))⟩))), by (first | exact Or.inl ⟨by decide, fun q hq t ht => rfl⟩ | exact an_u0 (by omega) (by assumption) | exact an_u1 (by omega) (by assumption) | exact an_u2 (by omega) (by assumption) | exact an_u3 (by omega) (by assumption))⟩), r_ans0, r_ans1, r_ans2, r_ans3⟩, by rw [ht]; exact hP, hD⟩, hS.F ht⟩) hS.2.2 dX9_answer_45
    · refine lv_if_ne (tgt := 25) hx hb dX9_answer_19 (by decide) (fun c9 => absurd (by decide) c9) (fun _ => ?_)
      refine lv_bipush (v := (-3)) hx hb dX9_answer_22 (by decide) ?_
      exact W.iret (v := (-3)) hx hb hr (fun tq ht hW => ⟨⟨(-3), (uS [agr0, (fun _ => ans0), agr1, (fun _ => ans1), agr2, (fun _ => ans2), agr3, (fun _ => ans3)] 0 (fun _ => 0)), rfl, ⟨(show spAnC (aF ans0 ans1 ans2 ans3) (gF agr0 agr1 agr2 agr3) pp dd ri ((-3) : Int32) (aF ans0 ans1 ans2 ans3) (gF agr0 agr1 agr2 agr3) from by (try rw [show ((-3) : Int32).toInt = (-3) from (show ((-3) : Int32).toInt = (-3) from rfl)]); exact ⟨by (unfold spAns; first | exact Or.inl ⟨by omega, rfl, rfl⟩ | exact Or.inr (Or.inl ⟨by omega, by omega, rfl, rfl⟩) | exact Or.inr (Or.inr (Or.inl ⟨by omega, by omega, by (first | (show 12 ≤ ans0.toInt; omega) | (show 12 ≤ ans1.toInt; omega) | (show 12 ≤ ans2.toInt; omega) | (show 12 ≤ ans3.toInt; omega)), rfl, rfl⟩)) | exact Or.inr (Or.inr (Or.inr ⟨by omega, by omega, by (first | (show ans0.toInt < 12; omega) | (show ans1.toInt < 12; omega) | (show ans2.toInt < 12; omega) | (show ans3.toInt < 12; omega)), by (first | assumption | (show _ = ans0 + 1; assumption) | (show _ = ans1 + 1; assumption) | (show _ = ans2 + 1; assumption) | (show _ = ans3 + 1; assumption)), by (first | exact aF_u0 (by assumption) | exact aF_u1 (by assumption) | exact aF_u2 (by assumption) | exact aF_u3 (by assumption))⟩))), by (first | exact Or.inl ⟨by decide, fun q hq t ht => rfl⟩ | exact an_u0 (by omega) (by assumption) | exact an_u1 (by omega) (by assumption) | exact an_u2 (by omega) (by assumption) | exact an_u3 (by omega) (by assumption))⟩), r_ans0, r_ans1, r_ans2, r_ans3⟩, by rw [ht]; exact hP, hD⟩, hS.F ht⟩) hS.2.2 dX9_answer_24
  · refine lv_if_ne (tgt := 12) hx hb dX9_answer_6 (by decide) (fun c9 => absurd (by decide) c9) (fun _ => ?_)
    refine lv_bipush (v := (-2)) hx hb dX9_answer_9 (by decide) ?_
    exact W.iret (v := (-2)) hx hb hr (fun tq ht hW => ⟨⟨(-2), (uS [agr0, (fun _ => ans0), agr1, (fun _ => ans1), agr2, (fun _ => ans2), agr3, (fun _ => ans3)] 0 (fun _ => 0)), rfl, ⟨(show spAnC (aF ans0 ans1 ans2 ans3) (gF agr0 agr1 agr2 agr3) pp dd ri ((-2) : Int32) (aF ans0 ans1 ans2 ans3) (gF agr0 agr1 agr2 agr3) from by (try rw [show ((-2) : Int32).toInt = (-2) from (show ((-2) : Int32).toInt = (-2) from rfl)]); exact ⟨by (unfold spAns; first | exact Or.inl ⟨by omega, rfl, rfl⟩ | exact Or.inr (Or.inl ⟨by omega, by omega, rfl, rfl⟩) | exact Or.inr (Or.inr (Or.inl ⟨by omega, by omega, by (first | (show 12 ≤ ans0.toInt; omega) | (show 12 ≤ ans1.toInt; omega) | (show 12 ≤ ans2.toInt; omega) | (show 12 ≤ ans3.toInt; omega)), rfl, rfl⟩)) | exact Or.inr (Or.inr (Or.inr ⟨by omega, by omega, by (first | (show ans0.toInt < 12; omega) | (show ans1.toInt < 12; omega) | (show ans2.toInt < 12; omega) | (show ans3.toInt < 12; omega)), by (first | assumption | (show _ = ans0 + 1; assumption) | (show _ = ans1 + 1; assumption) | (show _ = ans2 + 1; assumption) | (show _ = ans3 + 1; assumption)), by (first | exact aF_u0 (by assumption) | exact aF_u1 (by assumption) | exact aF_u2 (by assumption) | exact aF_u3 (by assumption))⟩))), by (first | exact Or.inl ⟨by decide, fun q hq t ht => rfl⟩ | exact an_u0 (by omega) (by assumption) | exact an_u1 (by omega) (by assumption) | exact an_u2 (by omega) (by assumption) | exact an_u3 (by omega) (by assumption))⟩), r_ans0, r_ans1, r_ans2, r_ans3⟩, by rw [ht]; exact hP, hD⟩, hS.F ht⟩) hS.2.2 dX9_answer_11
set_option maxHeartbeats 4000000 in
set_option maxRecDepth 100000 in
theorem k_X10_isRight2 (l : Launch) (dC : Nat → ClassId) (dI : Nat → Nat → Nat) (cI cZ cQ : ClassId) (tb : Int32) (dd : Int32) (q0 : 0 ≤ tb.toInt) (q1 : tb.toInt ≤ 80) : KR l yX10_isRight wsX10_isRight { frames := 0, cells := 0, slots := 0, locals := 0 } (dC, dI) (TY cI cZ cQ) (wNil cI cZ cQ) [.int tb, .int dd] (fun r : Int32 => ((((r = 1) ∧ (sayW tb dd = true)) ∨ ((r = 0) ∧ (sayW tb dd = false))))) := by
  refine Met.ofW (cc := cX10_isRight) (maxL := 2) (ret := (some .boolean)) (by decide) rfl ?_
  intro p e s m args below meth c s₁ B hml hv
  obtain ⟨rfl, hP, hK, hN⟩ := hv
  have hx := B.exec
  have hb := B.bytes
  have hr := B.returns
  have hts := atoms_spec (ws := wsX10_isRight) B.pre
  have hown : s.vm.findClass RX10 = some m.cls := findClass_of_methodNamed B.named
  have hlocks := B.notSynchronized
  have hl := lv_entry ([.int tb, .int dd]) (n := 2) (Nat.le_of_ble_eq_true rfl)
  rw [lg_entry_eq]
  generalize (lg_sl ([.int tb, .int dd]) ++ List.replicate (2 - (lg_sl ([.int tb, .int dd])).length) Slot.unset).toArray = ls at hl ⊢
  have hl : lv_has ls 2 [(0, .int tb), (1, .int dd)] := hl
  refine lv_bipush (v := 100) hx hb dX10_isRight_0 (by decide) ?_
  refine lv_iload_n hx hb dX10_isRight_2 rfl (lv_at hl 0 rfl) ?_
  refine lv_bipush (v := 9) hx hb dX10_isRight_3 (by decide) ?_
  refine lv_idiv hx hb dX10_isRight_5 (by decide) ?_
  have f1 : (tb / 9).toInt = (tb.toInt) / (9) := divC rfl (show (9 : Int32).toInt = 9 from rfl) (by omega) (by omega)
  refine lv_iconst (v := 1) hx hb dX10_isRight_6 (by decide) ?_
  refine lv_iadd hx hb dX10_isRight_7 ?_
  have f2 : ((tb / 9) + 1).toInt = ((tb.toInt) / (9)) + (1) := addC f1 (show (1 : Int32).toInt = 1 from rfl) (by omega) (by omega)
  refine lv_iload_n hx hb dX10_isRight_8 rfl (lv_at hl 1 rfl) ?_
  refine lv_imul hx hb dX10_isRight_9 ?_
  refine lv_isub hx hb dX10_isRight_10 ?_
  refine lv_bipush (v := 10) hx hb dX10_isRight_11 (by decide) ?_
  refine lv_iload_n hx hb dX10_isRight_13 rfl (lv_at hl 0 rfl) ?_
  refine lv_bipush (v := 9) hx hb dX10_isRight_14 (by decide) ?_
  refine lv_irem hx hb dX10_isRight_16 (by decide) ?_
  have f3 : (tb - tb / 9 * 9).toInt = (tb.toInt) % (9) := remC rfl (show (9 : Int32).toInt = 9 from rfl) (by omega) (by omega)
  refine lv_iconst (v := 1) hx hb dX10_isRight_17 (by decide) ?_
  refine lv_iadd hx hb dX10_isRight_18 ?_
  have f4 : ((tb - tb / 9 * 9) + 1).toInt = ((tb.toInt) % (9)) + (1) := addC f3 (show (1 : Int32).toInt = 1 from rfl) (by omega) (by omega)
  refine lv_imul hx hb dX10_isRight_19 ?_
  have f5 : (10 * ((tb - tb / 9 * 9) + 1)).toInt = (10) * (((tb.toInt) % (9)) + (1)) := mulC (show (10 : Int32).toInt = 10 from rfl) f4 (by omega) (by omega)
  refine lv_icmp_lt (tgt := 27) hx hb dX10_isRight_20 (by decide) (fun c6 => ?_) (fun c6 => ?_)
  · have dc6 : (100 - (((tb / 9) + 1) * dd)).toInt < (10) * (((tb.toInt) % (9)) + (1)) := ltC rfl f5 c6
    refine lv_iconst (v := 0) hx hb dX10_isRight_27 (by decide) ?_
    exact W.zret (v := 0) hx hb hr (by decide) (fun tq ht hW => ⟨0, rfl, (Or.inr (⟨rfl, (show sayW tb dd = false from by (try rw [show (0 : Int32).toInt = 0 from (show (0 : Int32).toInt = 0 from rfl)]); (first | exact sw_tM (by assumption) | exact sw_fM (by assumption)))⟩)), ht⟩) (fun q h => by cases h) dX10_isRight_28
  · have dc6 : (10) * (((tb.toInt) % (9)) + (1)) ≤ (100 - (((tb / 9) + 1) * dd)).toInt := nltC rfl f5 c6
    refine lv_iconst (v := 1) hx hb dX10_isRight_23 (by decide) ?_
    refine lv_goto (tgt := 28) hx hb dX10_isRight_24 (by decide) ?_
    exact W.zret (v := 1) hx hb hr (by decide) (fun tq ht hW => ⟨1, rfl, (Or.inl (⟨rfl, (show sayW tb dd = true from by (try rw [show (1 : Int32).toInt = 1 from (show (1 : Int32).toInt = 1 from rfl)]); (first | exact sw_tM (by assumption) | exact sw_fM (by assumption)))⟩)), ht⟩) (fun q h => by cases h) dX10_isRight_28
