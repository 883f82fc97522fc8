def aF (a0 a1 a2 a3 : Int32) : Nat → Int32 := fun j => ([a0, a1, a2, a3] : List Int32).getD j 0
theorem aF_u0 {a0 a1 a2 a3 z : Int32} (h : z = a0 + 1) : aF z a1 a2 a3 = upd (aF a0 a1 a2 a3) (0 : Int32).toNatClampNeg (aF a0 a1 a2 a3 (0 : Int32).toNatClampNeg + 1) := by
  subst h
  funext j
  rw [show (0 : Int32).toNatClampNeg = 0 from rfl]
  by_cases e : j = 0
  · subst e; rw [pk_us]; rfl
  · rw [pk_un e]
    match j, e with
    | 0, e => exact absurd rfl e
    | 1, e => rfl
    | 2, e => rfl
    | 3, e => rfl
    | k + 4, _ => rfl
theorem aF_u1 {a0 a1 a2 a3 z : Int32} (h : z = a1 + 1) : aF a0 z a2 a3 = upd (aF a0 a1 a2 a3) (1 : Int32).toNatClampNeg (aF a0 a1 a2 a3 (1 : Int32).toNatClampNeg + 1) := by
  subst h
  funext j
  rw [show (1 : Int32).toNatClampNeg = 1 from rfl]
  by_cases e : j = 1
  · subst e; rw [pk_us]; rfl
  · rw [pk_un e]
    match j, e with
    | 0, e => rfl
    | 1, e => exact absurd rfl e
    | 2, e => rfl
    | 3, e => rfl
    | k + 4, _ => rfl
theorem aF_u2 {a0 a1 a2 a3 z : Int32} (h : z = a2 + 1) : aF a0 a1 z a3 = upd (aF a0 a1 a2 a3) (2 : Int32).toNatClampNeg (aF a0 a1 a2 a3 (2 : Int32).toNatClampNeg + 1) := by
  subst h
  funext j
  rw [show (2 : Int32).toNatClampNeg = 2 from rfl]
  by_cases e : j = 2
  · subst e; rw [pk_us]; rfl
  · rw [pk_un e]
    match j, e with
    | 0, e => rfl
    | 1, e => rfl
    | 2, e => exact absurd rfl e
    | 3, e => rfl
    | k + 4, _ => rfl
theorem aF_u3 {a0 a1 a2 a3 z : Int32} (h : z = a3 + 1) : aF a0 a1 a2 z = upd (aF a0 a1 a2 a3) (3 : Int32).toNatClampNeg (aF a0 a1 a2 a3 (3 : Int32).toNatClampNeg + 1) := by
  subst h
  funext j
  rw [show (3 : Int32).toNatClampNeg = 3 from rfl]
  by_cases e : j = 3
  · subst e; rw [pk_us]; rfl
  · rw [pk_un e]
    match j, e with
    | 0, e => rfl
    | 1, e => rfl
    | 2, e => rfl
    | 3, e => exact absurd rfl e
    | k + 4, _ => rfl
set_option maxHeartbeats 4000000 in
set_option maxRecDepth 100000 in
theorem k_X9_answer (l : Launch) (dC : Nat → ClassId) (dI : Nat → Nat → Nat) (cI cZ cQ : ClassId) (a : Nat → Nat) (rb0 : Nat) (rb1 : Nat) (rb2 : Nat) (db0 : Nat) (db1 : Nat) (db2 : Nat) (agr0 : Nat → Int32) (ans0 : Int32) (agr1 : Nat → Int32) (ans1 : Int32) (agr2 : Nat → Int32) (ans2 : Int32) (agr3 : Nat → Int32) (ans3 : Int32) (sz : Nat) (pp : Int32) (dd : Int32) (ri : Int32) (r_ans0 : 0 ≤ ans0.toInt ∧ ans0.toInt ≤ 12) (r_ans1 : 0 ≤ ans1.toInt ∧ ans1.toInt ≤ 12) (r_ans2 : 0 ≤ ans2.toInt ∧ ans2.toInt ≤ 12) (r_ans3 : 0 ≤ ans3.toInt ∧ ans3.toInt ≤ 12) : KW l yX9_answer wsX9_answer { frames := 3, cells := 0, slots := 0, locals := 64 } (dC, dI) (TY cI cZ cQ) (wsPu cI cZ cQ a rb0 rb1 rb2 db0 db1 db2 agr0 ans0 agr1 ans1 agr2 ans2 agr3 ans3) [.ref (a 43), .int pp, .int dd, .int ri] sz 0 0 (fun (r : Int32) (u : US) => (spAns (aF ans0 ans1 ans2 ans3) pp dd r (aF (u.1 1 0) (u.1 3 0) (u.1 5 0) (u.1 7 0))) ∧ (0 ≤ (u.1 1 0).toInt ∧ (u.1 1 0).toInt ≤ 12) ∧ (0 ≤ (u.1 3 0).toInt ∧ (u.1 3 0).toInt ≤ 12) ∧ (0 ≤ (u.1 5 0).toInt ∧ (u.1 5 0).toInt ≤ 12) ∧ (0 ≤ (u.1 7 0).toInt ∧ (u.1 7 0).toInt ≤ 12)) (fun u : US => (wsPu cI cZ cQ a rb0 rb1 rb2 db0 db1 db2 (u.1 0) (u.1 1 0) (u.1 2) (u.1 3 0) (u.1 4) (u.1 5 0) (u.1 6) (u.1 7 0))) := by
  refine Met.ofW (cc := cX9_answer) (maxL := 5) (ret := (some .int)) (by decide) rfl ?_
  intro p e s m args below meth c s₁ B hml hv
  obtain ⟨rfl, hsz, hP, hK, hD0, hN⟩ := hv
  have hx := B.exec
  have hb := B.bytes
  have hr := B.returns
  have hts := atoms_spec (ws := wsX9_answer) B.pre
  have hown : s.vm.findClass RX9 = some m.cls := findClass_of_methodNamed B.named
  have hlocks := B.notSynchronized
  have lf64 := hts (.fieldLink RX9 64 "PalaceOfRooms" "pupils" "[LPalaceOfRooms$Pupil;") (by decide +kernel)
  have inX9 : ∀ w ∈ wsX90, w ∈ wsX9_answer := by decide +kernel
  have lf236 := hN.use (w := .fieldLinkNest "PalaceOfRooms" 236 "PalaceOfRooms$Pupil" "answers" "I" "PalaceOfRooms") (by decide +kernel) ([.ref (a 43), .int pp, .int dd, .int ri] : List Value).toArray
  have inX4 : ∀ w ∈ wsX40, w ∈ wsX9_answer := by decide +kernel
  subst hsz
  have hD := hD0.self (sz := s.heap.size)
  generalize hAe : va_A (wsPu cI cZ cQ a rb0 rb1 rb2 db0 db1 db2 agr0 ans0 agr1 ans1 agr2 ans2 agr3 ans3) s.heap.size = A at hD ⊢
  have hA : ∀ q : Nat, s.heap.size ≤ q → A q := fun q h => by rw [← hAe]; exact Or.inr h
  have hS : va_S A s.heap s.heap [] := va_S.rf
  have hl := lv_entry ([.ref (a 43), .int pp, .int dd, .int ri]) (n := 5) (Nat.le_of_ble_eq_true rfl)
  rw [lg_entry_eq]
  generalize (lg_sl ([.ref (a 43), .int pp, .int dd, .int ri]) ++ List.replicate (5 - (lg_sl ([.ref (a 43), .int pp, .int dd, .int ri])).length) Slot.unset).toArray = ls at hl ⊢
  have hl : lv_has ls 5 [(0, .ref (a 43)), (1, .int pp), (2, .int dd), (3, .int ri)] := hl
  refine lv_iload_n hx hb dX9_answer_0 rfl (lv_at hl 1 rfl) ?_
  refine lv_iconst (v := 0) hx hb dX9_answer_1 (by decide) ?_
  refine lv_iconst (v := 3) hx hb dX9_answer_2 (by decide) ?_
  refine rdS (As := [.int pp, .int 0, .int 3]) (rest := []) ⟨hx, hb, hml, hown, hts⟩ (k_X9_within l dC dI cI cZ cQ pp (0 : Int32) (3 : Int32)) (va_cwS 3 hts gX9_answer_X9_within rfl rfl rfl (by decide +kernel) ⟨Nat.le_of_ble_eq_true rfl, Nat.le_of_ble_eq_true rfl⟩) hP hK hN [] rfl rfl hl.1 rfl (Nat.le_of_ble_eq_true rfl) dX9_answer_3 ⟨Nat.le_of_ble_eq_true rfl, Nat.le_of_ble_eq_true rfl⟩ (fun r1 h2 => ?_)
  have h2 : ((((r1 = 1) ∧ ((0) ≤ pp.toInt) ∧ (pp.toInt ≤ (3))) ∨ ((r1 = 0) ∧ (pp.toInt < (0) ∨ (3) < pp.toInt)))) := h2
  rcases h2 with (⟨rfl, h2_a0, h2_a1⟩ | ⟨rfl, h2_a0⟩)
  · refine lv_if_ne (tgt := 12) hx hb dX9_answer_6 (by decide) (fun _ => ?_) (fun c9 => absurd c9 (by decide))
    refine lv_iload_n hx hb dX9_answer_12 rfl (lv_at hl 2 rfl) ?_
    refine lv_iconst (v := 1) hx hb dX9_answer_13 (by decide) ?_
    refine lv_bipush (v := 60) hx hb dX9_answer_14 (by decide) ?_
    refine rdS (As := [.int dd, .int 1, .int 60]) (rest := []) ⟨hx, hb, hml, hown, hts⟩ (k_X9_within l dC dI cI cZ cQ dd (1 : Int32) (60 : Int32)) (va_cwS 3 hts gX9_answer_X9_within rfl rfl rfl (by decide +kernel) ⟨Nat.le_of_ble_eq_true rfl, Nat.le_of_ble_eq_true rfl⟩) hP hK hN [] rfl rfl hl.1 rfl (Nat.le_of_ble_eq_true rfl) dX9_answer_16 ⟨Nat.le_of_ble_eq_true rfl, Nat.le_of_ble_eq_true rfl⟩ (fun r3 h4 => ?_)
    have h4 : ((((r3 = 1) ∧ ((1) ≤ dd.toInt) ∧ (dd.toInt ≤ (60))) ∨ ((r3 = 0) ∧ (dd.toInt < (1) ∨ (60) < dd.toInt)))) := h4
    rcases h4 with (⟨rfl, h4_a0, h4_a1⟩ | ⟨rfl, h4_a0⟩)
    · refine lv_if_ne (tgt := 25) hx hb dX9_answer_19 (by decide) (fun _ => ?_) (fun c9 => absurd c9 (by decide))
      have hc5 : pp = 0 ∨ pp = 1 ∨ pp = 2 ∨ pp = 3 := by exact ci4 rfl (by omega)
      rcases hc5 with rfl | rfl | rfl | rfl
      · have kc6 : (0 : Int32).toInt = 0 := rfl
        refine lv_aload_n hx hb dX9_answer_25 rfl (lv_at hl 0 rfl) ?_
        refine va_get (D := (dC, dI)) (ci := 9) (v := .ref (a 33)) (C := RX9) (T := TX9) (N := 11) hx hb hts inX9 hown hK hP 0 rfl rfl 7 (by decide) lf64 (fun _ h9 => h9) rfl dX9_answer_26 ?_
        refine lv_iload_n hx hb dX9_answer_29 rfl (lv_at hl 1 rfl) ?_
        have b7 : vp_in 0 4 := (show ¬ _ from by decide)
        refine va_aldq hx hb hK hP 1 2 rfl rfl b7 dX9_answer_30 ?_
        refine W.eq (g2 := F0 m 31 ls [.ref (a 34)]) rfl ?_
        refine lv_astore (lv' := [(4, .ref (a 34)), (0, .ref (a 43)), (1, .int 0), (2, .int dd), (3, .int ri)]) hx hb dX9_answer_31 hl (by decide) rfl (fun ls hl => ?_)
        refine lv_aload hx hb dX9_answer_33 (lv_at hl 0 rfl) ?_
        refine va_getN (D := (dC, dI)) (ci := 4) (v := .int ans0) (C := RX4) (T := TX4) (N := 2) hx hb hts inX4 hown hK hP 2 rfl rfl 1 (by decide) lf236 (fun _ h9 => h9) rfl dX9_answer_35 ?_
        refine lv_bipush (v := 12) hx hb dX9_answer_38 (by decide) ?_
        refine lv_icmp_lt (tgt := 46) hx hb dX9_answer_40 (by decide) (fun c8 => ?_) (fun c8 => ?_)
        · have dc8 : ans0.toInt < 12 := ltC rfl (show (12 : Int32).toInt = 12 from rfl) c8
          refine lv_aload hx hb dX9_answer_46 (lv_at hl 0 rfl) ?_
          refine lv_iload_n hx hb dX9_answer_48 rfl (lv_at hl 3 rfl) ?_
          refine lv_iload_n hx hb dX9_answer_49 rfl (lv_at hl 4 rfl) ?_
          refine wvV (As := [.int dd, .int ri]) (rest := []) (wr := [((a 43), .inr (9, [.ref (a 0), .ref (a 2), .ref (a 4), .ref (a 14), .ref (a 16), .ref (a 23), .ref (a 28), .ref (a 33), .ref (a 42), .ref rb0, .ref db0])), ((a 33), .inl (cQ, 4, .inr (.inr (.inr (.inr (puF a)))))), ((a 36), .inr (4, [.ref (a 37), .int ans1])), ((a 37), .inl (cI, 81, .inl agr1)), ((a 38), .inr (4, [.ref (a 39), .int ans2])), ((a 39), .inl (cI, 81, .inl agr2)), ((a 40), .inr (4, [.ref (a 41), .int ans3])), ((a 41), .inl (cI, 81, .inl agr3))]) (w2 := (fun u : US => (wsPu cI cZ cQ a rb0 rb1 rb2 db0 db1 db2 (u.1 0) (u.1 1 0) agr1 ans1 agr2 ans2 agr3 ans3))) ⟨hx, hb, hml, hown, hts⟩ (k_X4_note l dC dI cI cZ cQ (a 34) (a 35) agr0 ans0 _ dd ri r_ans0 (by omega) (by omega) (by omega)) (cwV 2 hts gX9_answer_X4_note rfl rfl rfl (by decide +kernel) ⟨Nat.le_of_ble_eq_true rfl, Nat.le_of_ble_eq_true rfl⟩) hP hD hS hA hK hN [2, 3] [0, 1, 4, 5, 6, 7, 8, 9] [0, 1, 8, 9, 2, 3, 4, 5, 6, 7] rfl rfl (by decide) (by decide) (by decide) (fun _ => rfl) (by decide) 2 4 rfl rfl rfl hl.1 rfl (Nat.le_of_ble_eq_true rfl) dX9_answer_50 ⟨Nat.le_of_ble_eq_true rfl, Nat.le_of_ble_eq_true rfl⟩ (fun u11 H locs h10 hP hD hS => ?_)
          obtain ⟨agr0_c12, eagr0_c12⟩ : ∃ f : Nat → Int32, f = (u11.1 0) := ⟨_, rfl⟩
          obtain ⟨ans0_c13, eans0_c13⟩ : ∃ f : Int32, f = (u11.1 1 0) := ⟨_, rfl⟩
          have hP : va_P (dC, dI) vwCl (wsPu cI cZ cQ a rb0 rb1 rb2 db0 db1 db2 agr0_c12 ans0_c13 agr1 ans1 agr2 ans2 agr3 ans3) H := by rw [eagr0_c12, eans0_c13]; exact hP
          have hD : va_D A (wsPu cI cZ cQ a rb0 rb1 rb2 db0 db1 db2 agr0_c12 ans0_c13 agr1 ans1 agr2 ans2 agr3 ans3) := by rw [eagr0_c12, eans0_c13]; exact hD
          have h10 : (ans0_c13 = ans0 + 1) ∧ (0 ≤ ans0_c13.toInt ∧ ans0_c13.toInt ≤ 12) := by (try rw [eagr0_c12]); (try rw [eans0_c13]); exact h10
          obtain ⟨h10_0, h10_1⟩ := h10
          refine lv_aload hx hb dX9_answer_53 (lv_at hl 0 rfl) ?_
          refine va_getN (D := (dC, dI)) (ci := 4) (v := .int ans0_c13) (C := RX4) (T := TX4) (N := 2) hx hb hts inX4 hown hK hP 2 rfl rfl 1 (by decide) lf236 (fun _ h9 => h9) rfl dX9_answer_55 ?_
          exact W.iret (v := ans0_c13) hx hb hr (fun tq ht hW => ⟨⟨ans0_c13, (uS [agr0_c12, (fun _ => ans0_c13), agr1, (fun _ => ans1), agr2, (fun _ => ans2), agr3, (fun _ => ans3)] 0 (fun _ => 0)), rfl, ⟨(show spAns (aF ans0 ans1 ans2 ans3) (0 : Int32) dd ans0_c13 (aF ans0_c13 ans1 ans2 ans3) from by (unfold spAns; first | exact Or.inl ⟨by omega, rfl, rfl⟩ | exact Or.inr (Or.inl ⟨by omega, by omega, rfl, rfl⟩) | exact Or.inr (Or.inr (Or.inl ⟨by omega, by omega, by (first | (show 12 ≤ ans0.toInt; omega) | (show 12 ≤ ans1.toInt; omega) | (show 12 ≤ ans2.toInt; omega) | (show 12 ≤ ans3.toInt; omega)), rfl, rfl⟩)) | exact Or.inr (Or.inr (Or.inr ⟨by omega, by omega, by (first | (show ans0.toInt < 12; omega) | (show ans1.toInt < 12; omega) | (show ans2.toInt < 12; omega) | (show ans3.toInt < 12; omega)), by (first | assumption | (show _ = ans0 + 1; assumption) | (show _ = ans1 + 1; assumption) | (show _ = ans2 + 1; assumption) | (show _ = ans3 + 1; assumption)), by (first | exact aF_u0 (by assumption) | exact aF_u1 (by assumption) | exact aF_u2 (by assumption) | exact aF_u3 (by assumption))⟩)))), h10_1, r_ans1, r_ans2, r_ans3⟩, by rw [ht]; exact hP, hD⟩, hS.F ht⟩) hS.2.2 dX9_answer_58
        · have dc8 : 12 ≤ ans0.toInt := nltC rfl (show (12 : Int32).toInt = 12 from rfl) c8
          refine lv_bipush (v := (-5)) hx hb dX9_answer_43 (by decide) ?_
          exact W.iret (v := (-5)) hx hb hr (fun tq ht hW => ⟨⟨(-5), (uS [agr0, (fun _ => ans0), agr1, (fun _ => ans1), agr2, (fun _ => ans2), agr3, (fun _ => ans3)] 0 (fun _ => 0)), rfl, ⟨(show spAns (aF ans0 ans1 ans2 ans3) (0 : Int32) dd ((-5) : Int32) (aF ans0 ans1 ans2 ans3) from by (try rw [show ((-5) : Int32).toInt = (-5) from (show ((-5) : Int32).toInt = (-5) from rfl)]); (unfold spAns; first | exact Or.inl ⟨by omega, rfl, rfl⟩ | exact Or.inr (Or.inl ⟨by omega, by omega, rfl, rfl⟩) | exact Or.inr (Or.inr (Or.inl ⟨by omega, by omega, by (first | (show 12 ≤ ans0.toInt; omega) | (show 12 ≤ ans1.toInt; omega) | (show 12 ≤ ans2.toInt; omega) | (show 12 ≤ ans3.toInt; omega)), rfl, rfl⟩)) | exact Or.inr (Or.inr (Or.inr ⟨by omega, by omega, by (first | (show ans0.toInt < 12; omega) | (show ans1.toInt < 12; omega) | (show ans2.toInt < 12; omega) | (show ans3.toInt < 12; omega)), by (first | assumption | (show _ = ans0 + 1; assumption) | (show _ = ans1 + 1; assumption) | (show _ = ans2 + 1; assumption) | (show _ = ans3 + 1; assumption)), by (first | exact aF_u0 (by assumption) | exact aF_u1 (by assumption) | exact aF_u2 (by assumption) | exact aF_u3 (by assumption))⟩)))), r_ans0, r_ans1, r_ans2, r_ans3⟩, by rw [ht]; exact hP, hD⟩, hS.F ht⟩) hS.2.2 dX9_answer_45
      · have kc14 : (1 : Int32).toInt = 1 := rfl
        refine lv_aload_n hx hb dX9_answer_25 rfl (lv_at hl 0 rfl) ?_
        refine va_get (D := (dC, dI)) (ci := 9) (v := .ref (a 33)) (C := RX9) (T := TX9) (N := 11) hx hb hts inX9 hown hK hP 0 rfl rfl 7 (by decide) lf64 (fun _ h9 => h9) rfl dX9_answer_26 ?_
        refine lv_iload_n hx hb dX9_answer_29 rfl (lv_at hl 1 rfl) ?_
        have b15 : vp_in 1 4 := (show ¬ _ from by decide)
        refine va_aldq hx hb hK hP 1 2 rfl rfl b15 dX9_answer_30 ?_
        refine W.eq (g2 := F0 m 31 ls [.ref (a 36)]) rfl ?_
        refine lv_astore (lv' := [(4, .ref (a 36)), (0, .ref (a 43)), (1, .int 1), (2, .int dd), (3, .int ri)]) hx hb dX9_answer_31 hl (by decide) rfl (fun ls hl => ?_)
        refine lv_aload hx hb dX9_answer_33 (lv_at hl 0 rfl) ?_
        refine va_getN (D := (dC, dI)) (ci := 4) (v := .int ans1) (C := RX4) (T := TX4) (N := 2) hx hb hts inX4 hown hK hP 4 rfl rfl 1 (by decide) lf236 (fun _ h9 => h9) rfl dX9_answer_35 ?_
        refine lv_bipush (v := 12) hx hb dX9_answer_38 (by decide) ?_
        refine lv_icmp_lt (tgt := 46) hx hb dX9_answer_40 (by decide) (fun c16 => ?_) (fun c16 => ?_)
        · have dc16 : ans1.toInt < 12 := ltC rfl (show (12 : Int32).toInt = 12 from rfl) c16
          refine lv_aload hx hb dX9_answer_46 (lv_at hl 0 rfl) ?_
          refine lv_iload_n hx hb dX9_answer_48 rfl (lv_at hl 3 rfl) ?_
          refine lv_iload_n hx hb dX9_answer_49 rfl (lv_at hl 4 rfl) ?_
          refine wvV (As := [.int dd, .int ri]) (rest := []) (wr := [((a 43), .inr (9, [.ref (a 0), .ref (a 2), .ref (a 4), .ref (a 14), .ref (a 16), .ref (a 23), .ref (a 28), .ref (a 33), .ref (a 42), .ref rb0, .ref db0])), ((a 33), .inl (cQ, 4, .inr (.inr (.inr (.inr (puF a)))))), ((a 34), .inr (4, [.ref (a 35), .int ans0])), ((a 35), .inl (cI, 81, .inl agr0)), ((a 38), .inr (4, [.ref (a 39), .int ans2])), ((a 39), .inl (cI, 81, .inl agr2)), ((a 40), .inr (4, [.ref (a 41), .int ans3])), ((a 41), .inl (cI, 81, .inl agr3))]) (w2 := (fun u : US => (wsPu cI cZ cQ a rb0 rb1 rb2 db0 db1 db2 agr0 ans0 (u.1 0) (u.1 1 0) agr2 ans2 agr3 ans3))) ⟨hx, hb, hml, hown, hts⟩ (k_X4_note l dC dI cI cZ cQ (a 36) (a 37) agr1 ans1 _ dd ri r_ans1 (by omega) (by omega) (by omega)) (cwV 2 hts gX9_answer_X4_note rfl rfl rfl (by decide +kernel) ⟨Nat.le_of_ble_eq_true rfl, Nat.le_of_ble_eq_true rfl⟩) hP hD hS hA hK hN [4, 5] [0, 1, 2, 3, 6, 7, 8, 9] [0, 1, 2, 3, 8, 9, 4, 5, 6, 7] rfl rfl (by decide) (by decide) (by decide) (fun _ => rfl) (by decide) 4 4 rfl rfl rfl hl.1 rfl (Nat.le_of_ble_eq_true rfl) dX9_answer_50 ⟨Nat.le_of_ble_eq_true rfl, Nat.le_of_ble_eq_true rfl⟩ (fun u19 H locs h18 hP hD hS => ?_)
          obtain ⟨agr1_c20, eagr1_c20⟩ : ∃ f : Nat → Int32, f = (u19.1 0) := ⟨_, rfl⟩
          obtain ⟨ans1_c21, eans1_c21⟩ : ∃ f : Int32, f = (u19.1 1 0) := ⟨_, rfl⟩
          have hP : va_P (dC, dI) vwCl (wsPu cI cZ cQ a rb0 rb1 rb2 db0 db1 db2 agr0 ans0 agr1_c20 ans1_c21 agr2 ans2 agr3 ans3) H := by rw [eagr1_c20, eans1_c21]; exact hP
          have hD : va_D A (wsPu cI cZ cQ a rb0 rb1 rb2 db0 db1 db2 agr0 ans0 agr1_c20 ans1_c21 agr2 ans2 agr3 ans3) := by rw [eagr1_c20, eans1_c21]; exact hD
          have h18 : (ans1_c21 = ans1 + 1) ∧ (0 ≤ ans1_c21.toInt ∧ ans1_c21.toInt ≤ 12) := by (try rw [eagr1_c20]); (try rw [eans1_c21]); exact h18
          obtain ⟨h18_0, h18_1⟩ := h18
          refine lv_aload hx hb dX9_answer_53 (lv_at hl 0 rfl) ?_
          refine va_getN (D := (dC, dI)) (ci := 4) (v := .int ans1_c21) (C := RX4) (T := TX4) (N := 2) hx hb hts inX4 hown hK hP 4 rfl rfl 1 (by decide) lf236 (fun _ h9 => h9) rfl dX9_answer_55 ?_
          exact W.iret (v := ans1_c21) hx hb hr (fun tq ht hW => ⟨⟨ans1_c21, (uS [agr0, (fun _ => ans0), agr1_c20, (fun _ => ans1_c21), agr2, (fun _ => ans2), agr3, (fun _ => ans3)] 0 (fun _ => 0)), rfl, ⟨(show spAns (aF ans0 ans1 ans2 ans3) (1 : Int32) dd ans1_c21 (aF ans0 ans1_c21 ans2 ans3) from by (unfold spAns; first | exact Or.inl ⟨by omega, rfl, rfl⟩ | exact Or.inr (Or.inl ⟨by omega, by omega, rfl, rfl⟩) | exact Or.inr (Or.inr (Or.inl ⟨by omega, by omega, by (first | (show 12 ≤ ans0.toInt; omega) | (show 12 ≤ ans1.toInt; omega) | (show 12 ≤ ans2.toInt; omega) | (show 12 ≤ ans3.toInt; omega)), rfl, rfl⟩)) | exact Or.inr (Or.inr (Or.inr ⟨by omega, by omega, by (first | (show ans0.toInt < 12; omega) | (show ans1.toInt < 12; omega) | (show ans2.toInt < 12; omega) | (show ans3.toInt < 12; omega)), by (first | assumption | (show _ = ans0 + 1; assumption) | (show _ = ans1 + 1; assumption) | (show _ = ans2 + 1; assumption) | (show _ = ans3 + 1; assumption)), by (first | exact aF_u0 (by assumption) | exact aF_u1 (by assumption) | exact aF_u2 (by assumption) | exact aF_u3 (by assumption))⟩)))), r_ans0, h18_1, r_ans2, r_ans3⟩, by rw [ht]; exact hP, hD⟩, hS.F ht⟩) hS.2.2 dX9_answer_58
        · have dc16 : 12 ≤ ans1.toInt := nltC rfl (show (12 : Int32).toInt = 12 from rfl) c16
          refine lv_bipush (v := (-5)) hx hb dX9_answer_43 (by decide) ?_
          exact W.iret (v := (-5)) hx hb hr (fun tq ht hW => ⟨⟨(-5), (uS [agr0, (fun _ => ans0), agr1, (fun _ => ans1), agr2, (fun _ => ans2), agr3, (fun _ => ans3)] 0 (fun _ => 0)), rfl, ⟨(show spAns (aF ans0 ans1 ans2 ans3) (1 : Int32) dd ((-5) : Int32) (aF ans0 ans1 ans2 ans3) from by (try rw [show ((-5) : Int32).toInt = (-5) from (show ((-5) : Int32).toInt = (-5) from rfl)]); (unfold spAns; first | exact Or.inl ⟨by omega, rfl, rfl⟩ | exact Or.inr (Or.inl ⟨by omega, by omega, rfl, rfl⟩) | exact Or.inr (Or.inr (Or.inl ⟨by omega, by omega, by (first | (show 12 ≤ ans0.toInt; omega) | (show 12 ≤ ans1.toInt; omega) | (show 12 ≤ ans2.toInt; omega) | (show 12 ≤ ans3.toInt; omega)), rfl, rfl⟩)) | exact Or.inr (Or.inr (Or.inr ⟨by omega, by omega, by (first | (show ans0.toInt < 12; omega) | (show ans1.toInt < 12; omega) | (show ans2.toInt < 12; omega) | (show ans3.toInt < 12; omega)), by (first | assumption | (show _ = ans0 + 1; assumption) | (show _ = ans1 + 1; assumption) | (show _ = ans2 + 1; assumption) | (show _ = ans3 + 1; assumption)), by (first | exact aF_u0 (by assumption) | exact aF_u1 (by assumption) | exact aF_u2 (by assumption) | exact aF_u3 (by assumption))⟩)))), r_ans0, r_ans1, r_ans2, r_ans3⟩, by rw [ht]; exact hP, hD⟩, hS.F ht⟩) hS.2.2 dX9_answer_45
      · have kc22 : (2 : Int32).toInt = 2 := rfl
        refine lv_aload_n hx hb dX9_answer_25 rfl (lv_at hl 0 rfl) ?_
        refine va_get (D := (dC, dI)) (ci := 9) (v := .ref (a 33)) (C := RX9) (T := TX9) (N := 11) hx hb hts inX9 hown hK hP 0 rfl rfl 7 (by decide) lf64 (fun _ h9 => h9) rfl dX9_answer_26 ?_
        refine lv_iload_n hx hb dX9_answer_29 rfl (lv_at hl 1 rfl) ?_
        have b23 : vp_in 2 4 := (show ¬ _ from by decide)
        refine va_aldq hx hb hK hP 1 2 rfl rfl b23 dX9_answer_30 ?_
        refine W.eq (g2 := F0 m 31 ls [.ref (a 38)]) rfl ?_
        refine lv_astore (lv' := [(4, .ref (a 38)), (0, .ref (a 43)), (1, .int 2), (2, .int dd), (3, .int ri)]) hx hb dX9_answer_31 hl (by decide) rfl (fun ls hl => ?_)
        refine lv_aload hx hb dX9_answer_33 (lv_at hl 0 rfl) ?_
        refine va_getN (D := (dC, dI)) (ci := 4) (v := .int ans2) (C := RX4) (T := TX4) (N := 2) hx hb hts inX4 hown hK hP 6 rfl rfl 1 (by decide) lf236 (fun _ h9 => h9) rfl dX9_answer_35 ?_
        refine lv_bipush (v := 12) hx hb dX9_answer_38 (by decide) ?_
        refine lv_icmp_lt (tgt := 46) hx hb dX9_answer_40 (by decide) (fun c24 => ?_) (fun c24 => ?_)
        · have dc24 : ans2.toInt < 12 := ltC rfl (show (12 : Int32).toInt = 12 from rfl) c24
          refine lv_aload hx hb dX9_answer_46 (lv_at hl 0 rfl) ?_
          refine lv_iload_n hx hb dX9_answer_48 rfl (lv_at hl 3 rfl) ?_
          refine lv_iload_n hx hb dX9_answer_49 rfl (lv_at hl 4 rfl) ?_
          refine wvV (As := [.int dd, .int ri]) (rest := []) (wr := [((a 43), .inr (9, [.ref (a 0), .ref (a 2), .ref (a 4), .ref (a 14), .ref (a 16), .ref (a 23), .ref (a 28), .ref (a 33), .ref (a 42), .ref rb0, .ref db0])), ((a 33), .inl (cQ, 4, .inr (.inr (.inr (.inr (puF a)))))), ((a 34), .inr (4, [.ref (a 35), .int ans0])), ((a 35), .inl (cI, 81, .inl agr0)), ((a 36), .inr (4, [.ref (a 37), .int ans1])), ((a 37), .inl (cI, 81, .inl agr1)), ((a 40), .inr (4, [.ref (a 41), .int ans3])), ((a 41), .inl (cI, 81, .inl agr3))]) (w2 := (fun u : US => (wsPu cI cZ cQ a rb0 rb1 rb2 db0 db1 db2 agr0 ans0 agr1 ans1 (u.1 0) (u.1 1 0) agr3 ans3))) ⟨hx, hb, hml, hown, hts⟩ (k_X4_note l dC dI cI cZ cQ (a 38) (a 39) agr2 ans2 _ dd ri r_ans2 (by omega) (by omega) (by omega)) (cwV 2 hts gX9_answer_X4_note rfl rfl rfl (by decide +kernel) ⟨Nat.le_of_ble_eq_true rfl, Nat.le_of_ble_eq_true rfl⟩) hP hD hS hA hK hN [6, 7] [0, 1, 2, 3, 4, 5, 8, 9] [0, 1, 2, 3, 4, 5, 8, 9, 6, 7] rfl rfl (by decide) (by decide) (by decide) (fun _ => rfl) (by decide) 6 4 rfl rfl rfl hl.1 rfl (Nat.le_of_ble_eq_true rfl) dX9_answer_50 ⟨Nat.le_of_ble_eq_true rfl, Nat.le_of_ble_eq_true rfl⟩ (fun u27 H locs h26 hP hD hS => ?_)
          obtain ⟨agr2_c28, eagr2_c28⟩ : ∃ f : Nat → Int32, f = (u27.1 0) := ⟨_, rfl⟩
          obtain ⟨ans2_c29, eans2_c29⟩ : ∃ f : Int32, f = (u27.1 1 0) := ⟨_, rfl⟩
          have hP : va_P (dC, dI) vwCl (wsPu cI cZ cQ a rb0 rb1 rb2 db0 db1 db2 agr0 ans0 agr1 ans1 agr2_c28 ans2_c29 agr3 ans3) H := by rw [eagr2_c28, eans2_c29]; exact hP
          have hD : va_D A (wsPu cI cZ cQ a rb0 rb1 rb2 db0 db1 db2 agr0 ans0 agr1 ans1 agr2_c28 ans2_c29 agr3 ans3) := by rw [eagr2_c28, eans2_c29]; exact hD
          have h26 : (ans2_c29 = ans2 + 1) ∧ (0 ≤ ans2_c29.toInt ∧ ans2_c29.toInt ≤ 12) := by (try rw [eagr2_c28]); (try rw [eans2_c29]); exact h26
          obtain ⟨h26_0, h26_1⟩ := h26
          refine lv_aload hx hb dX9_answer_53 (lv_at hl 0 rfl) ?_
          refine va_getN (D := (dC, dI)) (ci := 4) (v := .int ans2_c29) (C := RX4) (T := TX4) (N := 2) hx hb hts inX4 hown hK hP 6 rfl rfl 1 (by decide) lf236 (fun _ h9 => h9) rfl dX9_answer_55 ?_
          exact W.iret (v := ans2_c29) hx hb hr (fun tq ht hW => ⟨⟨ans2_c29, (uS [agr0, (fun _ => ans0), agr1, (fun _ => ans1), agr2_c28, (fun _ => ans2_c29), agr3, (fun _ => ans3)] 0 (fun _ => 0)), rfl, ⟨(show spAns (aF ans0 ans1 ans2 ans3) (2 : Int32) dd ans2_c29 (aF ans0 ans1 ans2_c29 ans3) from by (unfold spAns; first | exact Or.inl ⟨by omega, rfl, rfl⟩ | exact Or.inr (Or.inl ⟨by omega, by omega, rfl, rfl⟩) | exact Or.inr (Or.inr (Or.inl ⟨by omega, by omega, by (first | (show 12 ≤ ans0.toInt; omega) | (show 12 ≤ ans1.toInt; omega) | (show 12 ≤ ans2.toInt; omega) | (show 12 ≤ ans3.toInt; omega)), rfl, rfl⟩)) | exact Or.inr (Or.inr (Or.inr ⟨by omega, by omega, by (first | (show ans0.toInt < 12; omega) | (show ans1.toInt < 12; omega) | (show ans2.toInt < 12; omega) | (show ans3.toInt < 12; omega)), by (first | assumption | (show _ = ans0 + 1; assumption) | (show _ = ans1 + 1; assumption) | (show _ = ans2 + 1; assumption) | (show _ = ans3 + 1; assumption)), by (first | exact aF_u0 (by assumption) | exact aF_u1 (by assumption) | exact aF_u2 (by assumption) | exact aF_u3 (by assumption))⟩)))), r_ans0, r_ans1, h26_1, r_ans3⟩, by rw [ht]; exact hP, hD⟩, hS.F ht⟩) hS.2.2 dX9_answer_58
        · have dc24 : 12 ≤ ans2.toInt := nltC rfl (show (12 : Int32).toInt = 12 from rfl) c24
          refine lv_bipush (v := (-5)) hx hb dX9_answer_43 (by decide) ?_
          exact W.iret (v := (-5)) hx hb hr (fun tq ht hW => ⟨⟨(-5), (uS [agr0, (fun _ => ans0), agr1, (fun _ => ans1), agr2, (fun _ => ans2), agr3, (fun _ => ans3)] 0 (fun _ => 0)), rfl, ⟨(show spAns (aF ans0 ans1 ans2 ans3) (2 : Int32) dd ((-5) : Int32) (aF ans0 ans1 ans2 ans3) from by (try rw [show ((-5) : Int32).toInt = (-5) from (show ((-5) : Int32).toInt = (-5) from rfl)]); (unfold spAns; first | exact Or.inl ⟨by omega, rfl, rfl⟩ | exact Or.inr (Or.inl ⟨by omega, by omega, rfl, rfl⟩) | exact Or.inr (Or.inr (Or.inl ⟨by omega, by omega, by (first | (show 12 ≤ ans0.toInt; omega) | (show 12 ≤ ans1.toInt; omega) | (show 12 ≤ ans2.toInt; omega) | (show 12 ≤ ans3.toInt; omega)), rfl, rfl⟩)) | exact Or.inr (Or.inr (Or.inr ⟨by omega, by omega, by (first | (show ans0.toInt < 12; omega) | (show ans1.toInt < 12; omega) | (show ans2.toInt < 12; omega) | (show ans3.toInt < 12; omega)), by (first | assumption | (show _ = ans0 + 1; assumption) | (show _ = ans1 + 1; assumption) | (show _ = ans2 + 1; assumption) | (show _ = ans3 + 1; assumption)), by (first | exact aF_u0 (by assumption) | exact aF_u1 (by assumption) | exact aF_u2 (by assumption) | exact aF_u3 (by assumption))⟩)))), r_ans0, r_ans1, r_ans2, r_ans3⟩, by rw [ht]; exact hP, hD⟩, hS.F ht⟩) hS.2.2 dX9_answer_45
      · have kc30 : (3 : Int32).toInt = 3 := rfl
        refine lv_aload_n hx hb dX9_answer_25 rfl (lv_at hl 0 rfl) ?_
        refine va_get (D := (dC, dI)) (ci := 9) (v := .ref (a 33)) (C := RX9) (T := TX9) (N := 11) hx hb hts inX9 hown hK hP 0 rfl rfl 7 (by decide) lf64 (fun _ h9 => h9) rfl dX9_answer_26 ?_
        refine lv_iload_n hx hb dX9_answer_29 rfl (lv_at hl 1 rfl) ?_
        have b31 : vp_in 3 4 := (show ¬ _ from by decide)
        refine va_aldq hx hb hK hP 1 2 rfl rfl b31 dX9_answer_30 ?_
        refine W.eq (g2 := F0 m 31 ls [.ref (a 40)]) rfl ?_
        refine lv_astore (lv' := [(4, .ref (a 40)), (0, .ref (a 43)), (1, .int 3), (2, .int dd), (3, .int ri)]) hx hb dX9_answer_31 hl (by decide) rfl (fun ls hl => ?_)
        refine lv_aload hx hb dX9_answer_33 (lv_at hl 0 rfl) ?_
        refine va_getN (D := (dC, dI)) (ci := 4) (v := .int ans3) (C := RX4) (T := TX4) (N := 2) hx hb hts inX4 hown hK hP 8 rfl rfl 1 (by decide) lf236 (fun _ h9 => h9) rfl dX9_answer_35 ?_
        refine lv_bipush (v := 12) hx hb dX9_answer_38 (by decide) ?_
        refine lv_icmp_lt (tgt := 46) hx hb dX9_answer_40 (by decide) (fun c32 => ?_) (fun c32 => ?_)
        · have dc32 : ans3.toInt < 12 := ltC rfl (show (12 : Int32).toInt = 12 from rfl) c32
          refine lv_aload hx hb dX9_answer_46 (lv_at hl 0 rfl) ?_
          refine lv_iload_n hx hb dX9_answer_48 rfl (lv_at hl 3 rfl) ?_
          refine lv_iload_n hx hb dX9_answer_49 rfl (lv_at hl 4 rfl) ?_
          refine wvV (As := [.int dd, .int ri]) (rest := []) (wr := [((a 43), .inr (9, [.ref (a 0), .ref (a 2), .ref (a 4), .ref (a 14), .ref (a 16), .ref (a 23), .ref (a 28), .ref (a 33), .ref (a 42), .ref rb0, .ref db0])), ((a 33), .inl (cQ, 4, .inr (.inr (.inr (.inr (puF a)))))), ((a 34), .inr (4, [.ref (a 35), .int ans0])), ((a 35), .inl (cI, 81, .inl agr0)), ((a 36), .inr (4, [.ref (a 37), .int ans1])), ((a 37), .inl (cI, 81, .inl agr1)), ((a 38), .inr (4, [.ref (a 39), .int ans2])), ((a 39), .inl (cI, 81, .inl agr2))]) (w2 := (fun u : US => (wsPu cI cZ cQ a rb0 rb1 rb2 db0 db1 db2 agr0 ans0 agr1 ans1 agr2 ans2 (u.1 0) (u.1 1 0)))) ⟨hx, hb, hml, hown, hts⟩ (k_X4_note l dC dI cI cZ cQ (a 40) (a 41) agr3 ans3 _ dd ri r_ans3 (by omega) (by omega) (by omega)) (cwV 2 hts gX9_answer_X4_note rfl rfl rfl (by decide +kernel) ⟨Nat.le_of_ble_eq_true rfl, Nat.le_of_ble_eq_true rfl⟩) hP hD hS hA hK hN [8, 9] [0, 1, 2, 3, 4, 5, 6, 7] [0, 1, 2, 3, 4, 5, 6, 7, 8, 9] rfl rfl (by decide) (by decide) (by decide) (fun _ => rfl) (by decide) 8 4 rfl rfl rfl hl.1 rfl (Nat.le_of_ble_eq_true rfl) dX9_answer_50 ⟨Nat.le_of_ble_eq_true rfl, Nat.le_of_ble_eq_true rfl⟩ (fun u35 H locs h34 hP hD hS => ?_)
          obtain ⟨agr3_c36, eagr3_c36⟩ : ∃ f : Nat → Int32, f = (u35.1 0) := ⟨_, rfl⟩
          obtain ⟨ans3_c37, eans3_c37⟩ : ∃ f : Int32, f = (u35.1 1 0) := ⟨_, rfl⟩
          have hP : va_P (dC, dI) vwCl (wsPu cI cZ cQ a rb0 rb1 rb2 db0 db1 db2 agr0 ans0 agr1 ans1 agr2 ans2 agr3_c36 ans3_c37) H := by rw [eagr3_c36, eans3_c37]; exact hP
          have hD : va_D A (wsPu cI cZ cQ a rb0 rb1 rb2 db0 db1 db2 agr0 ans0 agr1 ans1 agr2 ans2 agr3_c36 ans3_c37) := by rw [eagr3_c36, eans3_c37]; exact hD
          have h34 : (ans3_c37 = ans3 + 1) ∧ (0 ≤ ans3_c37.toInt ∧ ans3_c37.toInt ≤ 12) := by (try rw [eagr3_c36]); (try rw [eans3_c37]); exact h34
          obtain ⟨h34_0, h34_1⟩ := h34
          refine lv_aload hx hb dX9_answer_53 (lv_at hl 0 rfl) ?_
          refine va_getN (D := (dC, dI)) (ci := 4) (v := .int ans3_c37) (C := RX4) (T := TX4) (N := 2) hx hb hts inX4 hown hK hP 8 rfl rfl 1 (by decide) lf236 (fun _ h9 => h9) rfl dX9_answer_55 ?_
          exact W.iret (v := ans3_c37) hx hb hr (fun tq ht hW => ⟨⟨ans3_c37, (uS [agr0, (fun _ => ans0), agr1, (fun _ => ans1), agr2, (fun _ => ans2), agr3_c36, (fun _ => ans3_c37)] 0 (fun _ => 0)), rfl, ⟨(show spAns (aF ans0 ans1 ans2 ans3) (3 : Int32) dd ans3_c37 (aF ans0 ans1 ans2 ans3_c37) from by (unfold spAns; first | exact Or.inl ⟨by omega, rfl, rfl⟩ | exact Or.inr (Or.inl ⟨by omega, by omega, rfl, rfl⟩) | exact Or.inr (Or.inr (Or.inl ⟨by omega, by omega, by (first | (show 12 ≤ ans0.toInt; omega) | (show 12 ≤ ans1.toInt; omega) | (show 12 ≤ ans2.toInt; omega) | (show 12 ≤ ans3.toInt; omega)), rfl, rfl⟩)) | exact Or.inr (Or.inr (Or.inr ⟨by omega, by omega, by (first | (show ans0.toInt < 12; omega) | (show ans1.toInt < 12; omega) | (show ans2.toInt < 12; omega) | (show ans3.toInt < 12; omega)), by (first | assumption | (show _ = ans0 + 1; assumption) | (show _ = ans1 + 1; assumption) | (show _ = ans2 + 1; assumption) | (show _ = ans3 + 1; assumption)), by (first | exact aF_u0 (by assumption) | exact aF_u1 (by assumption) | exact aF_u2 (by assumption) | exact aF_u3 (by assumption))⟩)))), r_ans0, r_ans1, r_ans2, h34_1⟩, by rw [ht]; exact hP, hD⟩, hS.F ht⟩) hS.2.2 dX9_answer_58
        · have dc32 : 12 ≤ ans3.toInt := nltC rfl (show (12 : Int32).toInt = 12 from rfl) c32
          refine lv_bipush (v := (-5)) hx hb dX9_answer_43 (by decide) ?_
          exact W.iret (v := (-5)) hx hb hr (fun tq ht hW => ⟨⟨(-5), (uS [agr0, (fun _ => ans0), agr1, (fun _ => ans1), agr2, (fun _ => ans2), agr3, (fun _ => ans3)] 0 (fun _ => 0)), rfl, ⟨(show spAns (aF ans0 ans1 ans2 ans3) (3 : Int32) dd ((-5) : Int32) (aF ans0 ans1 ans2 ans3) from by (try rw [show ((-5) : Int32).toInt = (-5) from (show ((-5) : Int32).toInt = (-5) from rfl)]); (unfold spAns; first | exact Or.inl ⟨by omega, rfl, rfl⟩ | exact Or.inr (Or.inl ⟨by omega, by omega, rfl, rfl⟩) | exact Or.inr (Or.inr (Or.inl ⟨by omega, by omega, by (first | (show 12 ≤ ans0.toInt; omega) | (show 12 ≤ ans1.toInt; omega) | (show 12 ≤ ans2.toInt; omega) | (show 12 ≤ ans3.toInt; omega)), rfl, rfl⟩)) | exact Or.inr (Or.inr (Or.inr ⟨by omega, by omega, by (first | (show ans0.toInt < 12; omega) | (show ans1.toInt < 12; omega) | (show ans2.toInt < 12; omega) | (show ans3.toInt < 12; omega)), by (first | assumption | (show _ = ans0 + 1; assumption) | (show _ = ans1 + 1; assumption) | (show _ = ans2 + 1; assumption) | (show _ = ans3 + 1; assumption)), by (first | exact aF_u0 (by assumption) | exact aF_u1 (by assumption) | exact aF_u2 (by assumption) | exact aF_u3 (by assumption))⟩)))), r_ans0, r_ans1, r_ans2, r_ans3⟩, by rw [ht]; exact hP, hD⟩, hS.F ht⟩) hS.2.2 dX9_answer_45
    · refine lv_if_ne (tgt := 25) hx hb dX9_answer_19 (by decide) (fun c9 => absurd (by decide) c9) (fun _ => ?_)
      refine lv_bipush (v := (-3)) hx hb dX9_answer_22 (by decide) ?_
      exact W.iret (v := (-3)) hx hb hr (fun tq ht hW => ⟨⟨(-3), (uS [agr0, (fun _ => ans0), agr1, (fun _ => ans1), agr2, (fun _ => ans2), agr3, (fun _ => ans3)] 0 (fun _ => 0)), rfl, ⟨(show spAns (aF ans0 ans1 ans2 ans3) pp dd ((-3) : Int32) (aF ans0 ans1 ans2 ans3) from by (try rw [show ((-3) : Int32).toInt = (-3) from (show ((-3) : Int32).toInt = (-3) from rfl)]); (unfold spAns; first | exact Or.inl ⟨by omega, rfl, rfl⟩ | exact Or.inr (Or.inl ⟨by omega, by omega, rfl, rfl⟩) | exact Or.inr (Or.inr (Or.inl ⟨by omega, by omega, by (first | (show 12 ≤ ans0.toInt; omega) | (show 12 ≤ ans1.toInt; omega) | (show 12 ≤ ans2.toInt; omega) | (show 12 ≤ ans3.toInt; omega)), rfl, rfl⟩)) | exact Or.inr (Or.inr (Or.inr ⟨by omega, by omega, by (first | (show ans0.toInt < 12; omega) | (show ans1.toInt < 12; omega) | (show ans2.toInt < 12; omega) | (show ans3.toInt < 12; omega)), by (first | assumption | (show _ = ans0 + 1; assumption) | (show _ = ans1 + 1; assumption) | (show _ = ans2 + 1; assumption) | (show _ = ans3 + 1; assumption)), by (first | exact aF_u0 (by assumption) | exact aF_u1 (by assumption) | exact aF_u2 (by assumption) | exact aF_u3 (by assumption))⟩)))), r_ans0, r_ans1, r_ans2, r_ans3⟩, by rw [ht]; exact hP, hD⟩, hS.F ht⟩) hS.2.2 dX9_answer_24
  · refine lv_if_ne (tgt := 12) hx hb dX9_answer_6 (by decide) (fun c9 => absurd (by decide) c9) (fun _ => ?_)
    refine lv_bipush (v := (-2)) hx hb dX9_answer_9 (by decide) ?_
    exact W.iret (v := (-2)) hx hb hr (fun tq ht hW => ⟨⟨(-2), (uS [agr0, (fun _ => ans0), agr1, (fun _ => ans1), agr2, (fun _ => ans2), agr3, (fun _ => ans3)] 0 (fun _ => 0)), rfl, ⟨(show spAns (aF ans0 ans1 ans2 ans3) pp dd ((-2) : Int32) (aF ans0 ans1 ans2 ans3) from by (try rw [show ((-2) : Int32).toInt = (-2) from (show ((-2) : Int32).toInt = (-2) from rfl)]); (unfold spAns; first | exact Or.inl ⟨by omega, rfl, rfl⟩ | exact Or.inr (Or.inl ⟨by omega, by omega, rfl, rfl⟩) | exact Or.inr (Or.inr (Or.inl ⟨by omega, by omega, by (first | (show 12 ≤ ans0.toInt; omega) | (show 12 ≤ ans1.toInt; omega) | (show 12 ≤ ans2.toInt; omega) | (show 12 ≤ ans3.toInt; omega)), rfl, rfl⟩)) | exact Or.inr (Or.inr (Or.inr ⟨by omega, by omega, by (first | (show ans0.toInt < 12; omega) | (show ans1.toInt < 12; omega) | (show ans2.toInt < 12; omega) | (show ans3.toInt < 12; omega)), by (first | assumption | (show _ = ans0 + 1; assumption) | (show _ = ans1 + 1; assumption) | (show _ = ans2 + 1; assumption) | (show _ = ans3 + 1; assumption)), by (first | exact aF_u0 (by assumption) | exact aF_u1 (by assumption) | exact aF_u2 (by assumption) | exact aF_u3 (by assumption))⟩)))), r_ans0, r_ans1, r_ans2, r_ans3⟩, by rw [ht]; exact hP, hD⟩, hS.F ht⟩) hS.2.2 dX9_answer_11
set_option maxHeartbeats 4000000 in
set_option maxRecDepth 100000 in
theorem k_X9_pupil (l : Launch) (dC : Nat → ClassId) (dI : Nat → Nat → Nat) (cI cZ cQ : ClassId) (a : Nat → Nat) (rb0 : Nat) (rb1 : Nat) (rb2 : Nat) (db0 : Nat) (db1 : Nat) (db2 : Nat) (agr0 : Nat → Int32) (ans0 : Int32) (agr1 : Nat → Int32) (ans1 : Int32) (agr2 : Nat → Int32) (ans2 : Int32) (agr3 : Nat → Int32) (ans3 : Int32) (pp : Int32) (wh : Int32) (r_ans0 : 0 ≤ ans0.toInt ∧ ans0.toInt ≤ 12) (r_ans1 : 0 ≤ ans1.toInt ∧ ans1.toInt ≤ 12) (r_ans2 : 0 ≤ ans2.toInt ∧ ans2.toInt ≤ 12) (r_ans3 : 0 ≤ ans3.toInt ∧ ans3.toInt ≤ 12) : KR l yX9_pupil wsX9_pupil { frames := 4, cells := 0, slots := 0, locals := 88 } (dC, dI) (TY cI cZ cQ) (wsPu cI cZ cQ a rb0 rb1 rb2 db0 db1 db2 agr0 ans0 agr1 ans1 agr2 ans2 agr3 ans3) [.ref (a 43), .int pp, .int wh] (fun r : Int32 => True) := by
  refine Met.ofW (cc := cX9_pupil) (maxL := 4) (ret := (some .int)) (by decide) rfl ?_
  intro p e s m args below meth c s₁ B hml hv
  obtain ⟨rfl, hP, hK, hN⟩ := hv
  have hx := B.exec
  have hb := B.bytes
  have hr := B.returns
  have hts := atoms_spec (ws := wsX9_pupil) B.pre
  have hown : s.vm.findClass RX9 = some m.cls := findClass_of_methodNamed B.named
  have hlocks := B.notSynchronized
  have lf64 := hts (.fieldLink RX9 64 "PalaceOfRooms" "pupils" "[LPalaceOfRooms$Pupil;") (by decide +kernel)
  have inX9 : ∀ w ∈ wsX90, w ∈ wsX9_pupil := fun w h => List.mem_cons_of_mem _ (List.mem_append_left _ (List.mem_append_right _ h))
  have hl := lv_entry ([.ref (a 43), .int pp, .int wh]) (n := 4) (Nat.le_of_ble_eq_true rfl)
  rw [lg_entry_eq]
  generalize (lg_sl ([.ref (a 43), .int pp, .int wh]) ++ List.replicate (4 - (lg_sl ([.ref (a 43), .int pp, .int wh])).length) Slot.unset).toArray = ls at hl ⊢
  have hl : lv_has ls 4 [(0, .ref (a 43)), (1, .int pp), (2, .int wh)] := hl
  refine lv_iload_n hx hb dX9_pupil_0 rfl (lv_at hl 1 rfl) ?_
  refine lv_iconst (v := 0) hx hb dX9_pupil_1 (by decide) ?_
  refine lv_iconst (v := 3) hx hb dX9_pupil_2 (by decide) ?_
  refine rdS (As := [.int pp, .int 0, .int 3]) (rest := []) ⟨hx, hb, hml, hown, hts⟩ (k_X9_within l dC dI cI cZ cQ pp (0 : Int32) (3 : Int32)) (va_cwS 3 hts gX9_pupil_X9_within rfl rfl rfl (by decide +kernel) ⟨Nat.le_of_ble_eq_true rfl, Nat.le_of_ble_eq_true rfl⟩) hP hK hN [] rfl rfl hl.1 rfl (Nat.le_of_ble_eq_true rfl) dX9_pupil_3 ⟨Nat.le_of_ble_eq_true rfl, Nat.le_of_ble_eq_true rfl⟩ (fun r1 h2 => ?_)
  have h2 : ((((r1 = 1) ∧ ((0) ≤ pp.toInt) ∧ (pp.toInt ≤ (3))) ∨ ((r1 = 0) ∧ (pp.toInt < (0) ∨ (3) < pp.toInt)))) := h2
  rcases h2 with (⟨rfl, h2_a0, h2_a1⟩ | ⟨rfl, h2_a0⟩)
  · refine lv_if_ne (tgt := 12) hx hb dX9_pupil_6 (by decide) (fun _ => ?_) (fun c9 => absurd c9 (by decide))
    have hc3 : pp = 0 ∨ pp = 1 ∨ pp = 2 ∨ pp = 3 := by exact ci4 rfl (by omega)
    rcases hc3 with rfl | rfl | rfl | rfl
    · have kc4 : (0 : Int32).toInt = 0 := rfl
      refine lv_aload_n hx hb dX9_pupil_12 rfl (lv_at hl 0 rfl) ?_
      refine va_get (D := (dC, dI)) (ci := 9) (v := .ref (a 33)) (C := RX9) (T := TX9) (N := 11) hx hb hts inX9 hown hK hP 0 rfl rfl 7 (by decide) lf64 (fun _ h9 => h9) rfl dX9_pupil_13 ?_
      refine lv_iload_n hx hb dX9_pupil_16 rfl (lv_at hl 1 rfl) ?_
      have b5 : vp_in 0 4 := (show ¬ _ from by decide)
      refine va_aldq hx hb hK hP 1 2 rfl rfl b5 dX9_pupil_17 ?_
      refine W.eq (g2 := F0 m 18 ls [.ref (a 34)]) rfl ?_
      refine lv_astore_n (lv' := [(3, .ref (a 34)), (0, .ref (a 43)), (1, .int 0), (2, .int wh)]) hx hb dX9_pupil_18 rfl hl (by decide) rfl (fun ls hl => ?_)
      refine lv_iload_n hx hb dX9_pupil_19 rfl (lv_at hl 3 rfl) ?_
      by_cases w6 : wh = 0
      · have dw6 : wh.toInt = 0 := eqC rfl rfl w6
        refine lv_tableIn (off := 32) (tgt := 52) hx hb dX9_pupil_20 (by rw [w6]; decide) (by rw [w6]; decide) (by rw [w6]; decide) (by decide) ?_
        refine lv_aload_n hx hb dX9_pupil_52 rfl (lv_at hl 0 rfl) ?_
        refine rdV (As := []) (rest := []) ⟨hx, hb, hml, hown, hts⟩ (k_X4_tablesThatMayBe l dC dI cI cZ cQ (a 34) (a 35) agr0 ans0 r_ans0) (cwV 0 hts gX9_pupil_X4_tablesThatMayBe rfl rfl rfl (by decide +kernel) ⟨Nat.le_of_ble_eq_true rfl, Nat.le_of_ble_eq_true rfl⟩) hP hK hN [2, 3] rfl 2 4 rfl rfl rfl hl.1 rfl (Nat.le_of_ble_eq_true rfl) dX9_pupil_53 ⟨Nat.le_of_ble_eq_true rfl, Nat.le_of_ble_eq_true rfl⟩ (fun r7 h8 => ?_)
        have h8 : True := h8
        exact W.iret (v := r7) hx hb hr (fun tq ht hW => ⟨r7, rfl, trivial, ht⟩) (fun q h => by cases h) dX9_pupil_56
      by_cases w9 : wh = 1
      · have dw9 : wh.toInt = 1 := eqC rfl rfl w9
        refine lv_tableIn (off := 37) (tgt := 57) hx hb dX9_pupil_20 (by rw [w9]; decide) (by rw [w9]; decide) (by rw [w9]; decide) (by decide) ?_
        refine lv_aload_n hx hb dX9_pupil_57 rfl (lv_at hl 0 rfl) ?_
        refine rdV (As := []) (rest := []) ⟨hx, hb, hml, hown, hts⟩ (k_X4_nameOfLikeliest l dC dI cI cZ cQ (a 34) (a 35) agr0 ans0 r_ans0) (cwV 0 hts gX9_pupil_X4_nameOfLikeliest rfl rfl rfl (by decide +kernel) ⟨Nat.le_of_ble_eq_true rfl, Nat.le_of_ble_eq_true rfl⟩) hP hK hN [2, 3] rfl 2 4 rfl rfl rfl hl.1 rfl (Nat.le_of_ble_eq_true rfl) dX9_pupil_58 ⟨Nat.le_of_ble_eq_true rfl, Nat.le_of_ble_eq_true rfl⟩ (fun r10 h11 => ?_)
        have h11 : True := h11
        exact W.iret (v := r10) hx hb hr (fun tq ht hW => ⟨r10, rfl, trivial, ht⟩) (fun q h => by cases h) dX9_pupil_61
      by_cases w12 : wh = 2
      · have dw12 : wh.toInt = 2 := eqC rfl rfl w12
        refine lv_tableIn (off := 42) (tgt := 62) hx hb dX9_pupil_20 (by rw [w12]; decide) (by rw [w12]; decide) (by rw [w12]; decide) (by decide) ?_
        refine lv_aload_n hx hb dX9_pupil_62 rfl (lv_at hl 0 rfl) ?_
        refine rdV (As := []) (rest := []) ⟨hx, hb, hml, hown, hts⟩ (k_X4_agreementOfLikeliest l dC dI cI cZ cQ (a 34) (a 35) agr0 ans0 r_ans0) (cwV 0 hts gX9_pupil_X4_agreementOfLikeliest rfl rfl rfl (by decide +kernel) ⟨Nat.le_of_ble_eq_true rfl, Nat.le_of_ble_eq_true rfl⟩) hP hK hN [2, 3] rfl 2 4 rfl rfl rfl hl.1 rfl (Nat.le_of_ble_eq_true rfl) dX9_pupil_63 ⟨Nat.le_of_ble_eq_true rfl, Nat.le_of_ble_eq_true rfl⟩ (fun r13 h14 => ?_)
        have h14 : True := h14
        exact W.iret (v := r13) hx hb hr (fun tq ht hW => ⟨r13, rfl, trivial, ht⟩) (fun q h => by cases h) dX9_pupil_66
      by_cases w15 : wh = 3
      · have dw15 : wh.toInt = 3 := eqC rfl rfl w15
        refine lv_tableIn (off := 47) (tgt := 67) hx hb dX9_pupil_20 (by rw [w15]; decide) (by rw [w15]; decide) (by rw [w15]; decide) (by decide) ?_
        refine lv_aload_n hx hb dX9_pupil_67 rfl (lv_at hl 0 rfl) ?_
        refine rdV (As := []) (rest := []) ⟨hx, hb, hml, hown, hts⟩ (k_X4_dayThatParts l dC dI cI cZ cQ (a 34) (a 35) agr0 ans0 r_ans0) (cwV 0 hts gX9_pupil_X4_dayThatParts rfl rfl rfl (by decide +kernel) ⟨Nat.le_of_ble_eq_true rfl, Nat.le_of_ble_eq_true rfl⟩) hP hK hN [2, 3] rfl 2 4 rfl rfl rfl hl.1 rfl (Nat.le_of_ble_eq_true rfl) dX9_pupil_68 ⟨Nat.le_of_ble_eq_true rfl, Nat.le_of_ble_eq_true rfl⟩ (fun r16 h17 => ?_)
        have h17 : True := h17
        exact W.iret (v := r16) hx hb hr (fun tq ht hW => ⟨r16, rfl, trivial, ht⟩) (fun q h => by cases h) dX9_pupil_71
      have nw6 : wh.toInt ≠ 0 := neC rfl rfl w6
      have nw9 : wh.toInt ≠ 1 := neC rfl rfl w9
      have nw12 : wh.toInt ≠ 2 := neC rfl rfl w12
      have nw15 : wh.toInt ≠ 3 := neC rfl rfl w15
      have o20 : wh.toInt < 0 ∨ 3 < wh.toInt := by rw [show wh.toInt = wh.toInt from rfl]; omega
      refine lv_tableOut (tgt := 72) hx hb dX9_pupil_20 o20 (by decide) ?_
      refine lv_bipush (v := (-3)) hx hb dX9_pupil_72 (by decide) ?_
      exact W.iret (v := (-3)) hx hb hr (fun tq ht hW => ⟨(-3), rfl, trivial, ht⟩) (fun q h => by cases h) dX9_pupil_74
    · have kc18 : (1 : Int32).toInt = 1 := rfl
      refine lv_aload_n hx hb dX9_pupil_12 rfl (lv_at hl 0 rfl) ?_
      refine va_get (D := (dC, dI)) (ci := 9) (v := .ref (a 33)) (C := RX9) (T := TX9) (N := 11) hx hb hts inX9 hown hK hP 0 rfl rfl 7 (by decide) lf64 (fun _ h9 => h9) rfl dX9_pupil_13 ?_
      refine lv_iload_n hx hb dX9_pupil_16 rfl (lv_at hl 1 rfl) ?_
      have b19 : vp_in 1 4 := (show ¬ _ from by decide)
      refine va_aldq hx hb hK hP 1 2 rfl rfl b19 dX9_pupil_17 ?_
      refine W.eq (g2 := F0 m 18 ls [.ref (a 36)]) rfl ?_
      refine lv_astore_n (lv' := [(3, .ref (a 36)), (0, .ref (a 43)), (1, .int 1), (2, .int wh)]) hx hb dX9_pupil_18 rfl hl (by decide) rfl (fun ls hl => ?_)
      refine lv_iload_n hx hb dX9_pupil_19 rfl (lv_at hl 3 rfl) ?_
      by_cases w20 : wh = 0
      · have dw20 : wh.toInt = 0 := eqC rfl rfl w20
        refine lv_tableIn (off := 32) (tgt := 52) hx hb dX9_pupil_20 (by rw [w20]; decide) (by rw [w20]; decide) (by rw [w20]; decide) (by decide) ?_
        refine lv_aload_n hx hb dX9_pupil_52 rfl (lv_at hl 0 rfl) ?_
        refine rdV (As := []) (rest := []) ⟨hx, hb, hml, hown, hts⟩ (k_X4_tablesThatMayBe l dC dI cI cZ cQ (a 36) (a 37) agr1 ans1 r_ans1) (cwV 0 hts gX9_pupil_X4_tablesThatMayBe rfl rfl rfl (by decide +kernel) ⟨Nat.le_of_ble_eq_true rfl, Nat.le_of_ble_eq_true rfl⟩) hP hK hN [4, 5] rfl 4 4 rfl rfl rfl hl.1 rfl (Nat.le_of_ble_eq_true rfl) dX9_pupil_53 ⟨Nat.le_of_ble_eq_true rfl, Nat.le_of_ble_eq_true rfl⟩ (fun r21 h22 => ?_)
        have h22 : True := h22
        exact W.iret (v := r21) hx hb hr (fun tq ht hW => ⟨r21, rfl, trivial, ht⟩) (fun q h => by cases h) dX9_pupil_56
      by_cases w23 : wh = 1
      · have dw23 : wh.toInt = 1 := eqC rfl rfl w23
        refine lv_tableIn (off := 37) (tgt := 57) hx hb dX9_pupil_20 (by rw [w23]; decide) (by rw [w23]; decide) (by rw [w23]; decide) (by decide) ?_
        refine lv_aload_n hx hb dX9_pupil_57 rfl (lv_at hl 0 rfl) ?_
        refine rdV (As := []) (rest := []) ⟨hx, hb, hml, hown, hts⟩ (k_X4_nameOfLikeliest l dC dI cI cZ cQ (a 36) (a 37) agr1 ans1 r_ans1) (cwV 0 hts gX9_pupil_X4_nameOfLikeliest rfl rfl rfl (by decide +kernel) ⟨Nat.le_of_ble_eq_true rfl, Nat.le_of_ble_eq_true rfl⟩) hP hK hN [4, 5] rfl 4 4 rfl rfl rfl hl.1 rfl (Nat.le_of_ble_eq_true rfl) dX9_pupil_58 ⟨Nat.le_of_ble_eq_true rfl, Nat.le_of_ble_eq_true rfl⟩ (fun r24 h25 => ?_)
        have h25 : True := h25
        exact W.iret (v := r24) hx hb hr (fun tq ht hW => ⟨r24, rfl, trivial, ht⟩) (fun q h => by cases h) dX9_pupil_61
      by_cases w26 : wh = 2
      · have dw26 : wh.toInt = 2 := eqC rfl rfl w26
        refine lv_tableIn (off := 42) (tgt := 62) hx hb dX9_pupil_20 (by rw [w26]; decide) (by rw [w26]; decide) (by rw [w26]; decide) (by decide) ?_
        refine lv_aload_n hx hb dX9_pupil_62 rfl (lv_at hl 0 rfl) ?_
        refine rdV (As := []) (rest := []) ⟨hx, hb, hml, hown, hts⟩ (k_X4_agreementOfLikeliest l dC dI cI cZ cQ (a 36) (a 37) agr1 ans1 r_ans1) (cwV 0 hts gX9_pupil_X4_agreementOfLikeliest rfl rfl rfl (by decide +kernel) ⟨Nat.le_of_ble_eq_true rfl, Nat.le_of_ble_eq_true rfl⟩) hP hK hN [4, 5] rfl 4 4 rfl rfl rfl hl.1 rfl (Nat.le_of_ble_eq_true rfl) dX9_pupil_63 ⟨Nat.le_of_ble_eq_true rfl, Nat.le_of_ble_eq_true rfl⟩ (fun r27 h28 => ?_)
        have h28 : True := h28
        exact W.iret (v := r27) hx hb hr (fun tq ht hW => ⟨r27, rfl, trivial, ht⟩) (fun q h => by cases h) dX9_pupil_66
      by_cases w29 : wh = 3
      · have dw29 : wh.toInt = 3 := eqC rfl rfl w29
        refine lv_tableIn (off := 47) (tgt := 67) hx hb dX9_pupil_20 (by rw [w29]; decide) (by rw [w29]; decide) (by rw [w29]; decide) (by decide) ?_
        refine lv_aload_n hx hb dX9_pupil_67 rfl (lv_at hl 0 rfl) ?_
        refine rdV (As := []) (rest := []) ⟨hx, hb, hml, hown, hts⟩ (k_X4_dayThatParts l dC dI cI cZ cQ (a 36) (a 37) agr1 ans1 r_ans1) (cwV 0 hts gX9_pupil_X4_dayThatParts rfl rfl rfl (by decide +kernel) ⟨Nat.le_of_ble_eq_true rfl, Nat.le_of_ble_eq_true rfl⟩) hP hK hN [4, 5] rfl 4 4 rfl rfl rfl hl.1 rfl (Nat.le_of_ble_eq_true rfl) dX9_pupil_68 ⟨Nat.le_of_ble_eq_true rfl, Nat.le_of_ble_eq_true rfl⟩ (fun r30 h31 => ?_)
        have h31 : True := h31
        exact W.iret (v := r30) hx hb hr (fun tq ht hW => ⟨r30, rfl, trivial, ht⟩) (fun q h => by cases h) dX9_pupil_71
      have nw20 : wh.toInt ≠ 0 := neC rfl rfl w20
      have nw23 : wh.toInt ≠ 1 := neC rfl rfl w23
      have nw26 : wh.toInt ≠ 2 := neC rfl rfl w26
      have nw29 : wh.toInt ≠ 3 := neC rfl rfl w29
      have o20 : wh.toInt < 0 ∨ 3 < wh.toInt := by rw [show wh.toInt = wh.toInt from rfl]; omega
      refine lv_tableOut (tgt := 72) hx hb dX9_pupil_20 o20 (by decide) ?_
      refine lv_bipush (v := (-3)) hx hb dX9_pupil_72 (by decide) ?_
      exact W.iret (v := (-3)) hx hb hr (fun tq ht hW => ⟨(-3), rfl, trivial, ht⟩) (fun q h => by cases h) dX9_pupil_74
    · have kc32 : (2 : Int32).toInt = 2 := rfl
      refine lv_aload_n hx hb dX9_pupil_12 rfl (lv_at hl 0 rfl) ?_
      refine va_get (D := (dC, dI)) (ci := 9) (v := .ref (a 33)) (C := RX9) (T := TX9) (N := 11) hx hb hts inX9 hown hK hP 0 rfl rfl 7 (by decide) lf64 (fun _ h9 => h9) rfl dX9_pupil_13 ?_
      refine lv_iload_n hx hb dX9_pupil_16 rfl (lv_at hl 1 rfl) ?_
      have b33 : vp_in 2 4 := (show ¬ _ from by decide)
      refine va_aldq hx hb hK hP 1 2 rfl rfl b33 dX9_pupil_17 ?_
      refine W.eq (g2 := F0 m 18 ls [.ref (a 38)]) rfl ?_
      refine lv_astore_n (lv' := [(3, .ref (a 38)), (0, .ref (a 43)), (1, .int 2), (2, .int wh)]) hx hb dX9_pupil_18 rfl hl (by decide) rfl (fun ls hl => ?_)
      refine lv_iload_n hx hb dX9_pupil_19 rfl (lv_at hl 3 rfl) ?_
      by_cases w34 : wh = 0
      · have dw34 : wh.toInt = 0 := eqC rfl rfl w34
        refine lv_tableIn (off := 32) (tgt := 52) hx hb dX9_pupil_20 (by rw [w34]; decide) (by rw [w34]; decide) (by rw [w34]; decide) (by decide) ?_
        refine lv_aload_n hx hb dX9_pupil_52 rfl (lv_at hl 0 rfl) ?_
        refine rdV (As := []) (rest := []) ⟨hx, hb, hml, hown, hts⟩ (k_X4_tablesThatMayBe l dC dI cI cZ cQ (a 38) (a 39) agr2 ans2 r_ans2) (cwV 0 hts gX9_pupil_X4_tablesThatMayBe rfl rfl rfl (by decide +kernel) ⟨Nat.le_of_ble_eq_true rfl, Nat.le_of_ble_eq_true rfl⟩) hP hK hN [6, 7] rfl 6 4 rfl rfl rfl hl.1 rfl (Nat.le_of_ble_eq_true rfl) dX9_pupil_53 ⟨Nat.le_of_ble_eq_true rfl, Nat.le_of_ble_eq_true rfl⟩ (fun r35 h36 => ?_)
        have h36 : True := h36
        exact W.iret (v := r35) hx hb hr (fun tq ht hW => ⟨r35, rfl, trivial, ht⟩) (fun q h => by cases h) dX9_pupil_56
      by_cases w37 : wh = 1
      · have dw37 : wh.toInt = 1 := eqC rfl rfl w37
        refine lv_tableIn (off := 37) (tgt := 57) hx hb dX9_pupil_20 (by rw [w37]; decide) (by rw [w37]; decide) (by rw [w37]; decide) (by decide) ?_
        refine lv_aload_n hx hb dX9_pupil_57 rfl (lv_at hl 0 rfl) ?_
        refine rdV (As := []) (rest := []) ⟨hx, hb, hml, hown, hts⟩ (k_X4_nameOfLikeliest l dC dI cI cZ cQ (a 38) (a 39) agr2 ans2 r_ans2) (cwV 0 hts gX9_pupil_X4_nameOfLikeliest rfl rfl rfl (by decide +kernel) ⟨Nat.le_of_ble_eq_true rfl, Nat.le_of_ble_eq_true rfl⟩) hP hK hN [6, 7] rfl 6 4 rfl rfl rfl hl.1 rfl (Nat.le_of_ble_eq_true rfl) dX9_pupil_58 ⟨Nat.le_of_ble_eq_true rfl, Nat.le_of_ble_eq_true rfl⟩ (fun r38 h39 => ?_)
        have h39 : True := h39
        exact W.iret (v := r38) hx hb hr (fun tq ht hW => ⟨r38, rfl, trivial, ht⟩) (fun q h => by cases h) dX9_pupil_61
      by_cases w40 : wh = 2
      · have dw40 : wh.toInt = 2 := eqC rfl rfl w40
        refine lv_tableIn (off := 42) (tgt := 62) hx hb dX9_pupil_20 (by rw [w40]; decide) (by rw [w40]; decide) (by rw [w40]; decide) (by decide) ?_
        refine lv_aload_n hx hb dX9_pupil_62 rfl (lv_at hl 0 rfl) ?_
        refine rdV (As := []) (rest := []) ⟨hx, hb, hml, hown, hts⟩ (k_X4_agreementOfLikeliest l dC dI cI cZ cQ (a 38) (a 39) agr2 ans2 r_ans2) (cwV 0 hts gX9_pupil_X4_agreementOfLikeliest rfl rfl rfl (by decide +kernel) ⟨Nat.le_of_ble_eq_true rfl, Nat.le_of_ble_eq_true rfl⟩) hP hK hN [6, 7] rfl 6 4 rfl rfl rfl hl.1 rfl (Nat.le_of_ble_eq_true rfl) dX9_pupil_63 ⟨Nat.le_of_ble_eq_true rfl, Nat.le_of_ble_eq_true rfl⟩ (fun r41 h42 => ?_)
        have h42 : True := h42
        exact W.iret (v := r41) hx hb hr (fun tq ht hW => ⟨r41, rfl, trivial, ht⟩) (fun q h => by cases h) dX9_pupil_66
      by_cases w43 : wh = 3
      · have dw43 : wh.toInt = 3 := eqC rfl rfl w43
        refine lv_tableIn (off := 47) (tgt := 67) hx hb dX9_pupil_20 (by rw [w43]; decide) (by rw [w43]; decide) (by rw [w43]; decide) (by decide) ?_
        refine lv_aload_n hx hb dX9_pupil_67 rfl (lv_at hl 0 rfl) ?_
        refine rdV (As := []) (rest := []) ⟨hx, hb, hml, hown, hts⟩ (k_X4_dayThatParts l dC dI cI cZ cQ (a 38) (a 39) agr2 ans2 r_ans2) (cwV 0 hts gX9_pupil_X4_dayThatParts rfl rfl rfl (by decide +kernel) ⟨Nat.le_of_ble_eq_true rfl, Nat.le_of_ble_eq_true rfl⟩) hP hK hN [6, 7] rfl 6 4 rfl rfl rfl hl.1 rfl (Nat.le_of_ble_eq_true rfl) dX9_pupil_68 ⟨Nat.le_of_ble_eq_true rfl, Nat.le_of_ble_eq_true rfl⟩ (fun r44 h45 => ?_)
        have h45 : True := h45
        exact W.iret (v := r44) hx hb hr (fun tq ht hW => ⟨r44, rfl, trivial, ht⟩) (fun q h => by cases h) dX9_pupil_71
      have nw34 : wh.toInt ≠ 0 := neC rfl rfl w34
      have nw37 : wh.toInt ≠ 1 := neC rfl rfl w37
      have nw40 : wh.toInt ≠ 2 := neC rfl rfl w40
      have nw43 : wh.toInt ≠ 3 := neC rfl rfl w43
      have o20 : wh.toInt < 0 ∨ 3 < wh.toInt := by rw [show wh.toInt = wh.toInt from rfl]; omega
      refine lv_tableOut (tgt := 72) hx hb dX9_pupil_20 o20 (by decide) ?_
      refine lv_bipush (v := (-3)) hx hb dX9_pupil_72 (by decide) ?_
      exact W.iret (v := (-3)) hx hb hr (fun tq ht hW => ⟨(-3), rfl, trivial, ht⟩) (fun q h => by cases h) dX9_pupil_74
    · have kc46 : (3 : Int32).toInt = 3 := rfl
      refine lv_aload_n hx hb dX9_pupil_12 rfl (lv_at hl 0 rfl) ?_
      refine va_get (D := (dC, dI)) (ci := 9) (v := .ref (a 33)) (C := RX9) (T := TX9) (N := 11) hx hb hts inX9 hown hK hP 0 rfl rfl 7 (by decide) lf64 (fun _ h9 => h9) rfl dX9_pupil_13 ?_
      refine lv_iload_n hx hb dX9_pupil_16 rfl (lv_at hl 1 rfl) ?_
      have b47 : vp_in 3 4 := (show ¬ _ from by decide)
      refine va_aldq hx hb hK hP 1 2 rfl rfl b47 dX9_pupil_17 ?_
      refine W.eq (g2 := F0 m 18 ls [.ref (a 40)]) rfl ?_
      refine lv_astore_n (lv' := [(3, .ref (a 40)), (0, .ref (a 43)), (1, .int 3), (2, .int wh)]) hx hb dX9_pupil_18 rfl hl (by decide) rfl (fun ls hl => ?_)
      refine lv_iload_n hx hb dX9_pupil_19 rfl (lv_at hl 3 rfl) ?_
      by_cases w48 : wh = 0
      · have dw48 : wh.toInt = 0 := eqC rfl rfl w48
        refine lv_tableIn (off := 32) (tgt := 52) hx hb dX9_pupil_20 (by rw [w48]; decide) (by rw [w48]; decide) (by rw [w48]; decide) (by decide) ?_
        refine lv_aload_n hx hb dX9_pupil_52 rfl (lv_at hl 0 rfl) ?_
        refine rdV (As := []) (rest := []) ⟨hx, hb, hml, hown, hts⟩ (k_X4_tablesThatMayBe l dC dI cI cZ cQ (a 40) (a 41) agr3 ans3 r_ans3) (cwV 0 hts gX9_pupil_X4_tablesThatMayBe rfl rfl rfl (by decide +kernel) ⟨Nat.le_of_ble_eq_true rfl, Nat.le_of_ble_eq_true rfl⟩) hP hK hN [8, 9] rfl 8 4 rfl rfl rfl hl.1 rfl (Nat.le_of_ble_eq_true rfl) dX9_pupil_53 ⟨Nat.le_of_ble_eq_true rfl, Nat.le_of_ble_eq_true rfl⟩ (fun r49 h50 => ?_)
        have h50 : True := h50
        exact W.iret (v := r49) hx hb hr (fun tq ht hW => ⟨r49, rfl, trivial, ht⟩) (fun q h => by cases h) dX9_pupil_56
      by_cases w51 : wh = 1
      · have dw51 : wh.toInt = 1 := eqC rfl rfl w51
        refine lv_tableIn (off := 37) (tgt := 57) hx hb dX9_pupil_20 (by rw [w51]; decide) (by rw [w51]; decide) (by rw [w51]; decide) (by decide) ?_
        refine lv_aload_n hx hb dX9_pupil_57 rfl (lv_at hl 0 rfl) ?_
        refine rdV (As := []) (rest := []) ⟨hx, hb, hml, hown, hts⟩ (k_X4_nameOfLikeliest l dC dI cI cZ cQ (a 40) (a 41) agr3 ans3 r_ans3) (cwV 0 hts gX9_pupil_X4_nameOfLikeliest rfl rfl rfl (by decide +kernel) ⟨Nat.le_of_ble_eq_true rfl, Nat.le_of_ble_eq_true rfl⟩) hP hK hN [8, 9] rfl 8 4 rfl rfl rfl hl.1 rfl (Nat.le_of_ble_eq_true rfl) dX9_pupil_58 ⟨Nat.le_of_ble_eq_true rfl, Nat.le_of_ble_eq_true rfl⟩ (fun r52 h53 => ?_)
        have h53 : True := h53
        exact W.iret (v := r52) hx hb hr (fun tq ht hW => ⟨r52, rfl, trivial, ht⟩) (fun q h => by cases h) dX9_pupil_61
      by_cases w54 : wh = 2
      · have dw54 : wh.toInt = 2 := eqC rfl rfl w54
        refine lv_tableIn (off := 42) (tgt := 62) hx hb dX9_pupil_20 (by rw [w54]; decide) (by rw [w54]; decide) (by rw [w54]; decide) (by decide) ?_
        refine lv_aload_n hx hb dX9_pupil_62 rfl (lv_at hl 0 rfl) ?_
        refine rdV (As := []) (rest := []) ⟨hx, hb, hml, hown, hts⟩ (k_X4_agreementOfLikeliest l dC dI cI cZ cQ (a 40) (a 41) agr3 ans3 r_ans3) (cwV 0 hts gX9_pupil_X4_agreementOfLikeliest rfl rfl rfl (by decide +kernel) ⟨Nat.le_of_ble_eq_true rfl, Nat.le_of_ble_eq_true rfl⟩) hP hK hN [8, 9] rfl 8 4 rfl rfl rfl hl.1 rfl (Nat.le_of_ble_eq_true rfl) dX9_pupil_63 ⟨Nat.le_of_ble_eq_true rfl, Nat.le_of_ble_eq_true rfl⟩ (fun r55 h56 => ?_)
        have h56 : True := h56
        exact W.iret (v := r55) hx hb hr (fun tq ht hW => ⟨r55, rfl, trivial, ht⟩) (fun q h => by cases h) dX9_pupil_66
      by_cases w57 : wh = 3
      · have dw57 : wh.toInt = 3 := eqC rfl rfl w57
        refine lv_tableIn (off := 47) (tgt := 67) hx hb dX9_pupil_20 (by rw [w57]; decide) (by rw [w57]; decide) (by rw [w57]; decide) (by decide) ?_
        refine lv_aload_n hx hb dX9_pupil_67 rfl (lv_at hl 0 rfl) ?_
        refine rdV (As := []) (rest := []) ⟨hx, hb, hml, hown, hts⟩ (k_X4_dayThatParts l dC dI cI cZ cQ (a 40) (a 41) agr3 ans3 r_ans3) (cwV 0 hts gX9_pupil_X4_dayThatParts rfl rfl rfl (by decide +kernel) ⟨Nat.le_of_ble_eq_true rfl, Nat.le_of_ble_eq_true rfl⟩) hP hK hN [8, 9] rfl 8 4 rfl rfl rfl hl.1 rfl (Nat.le_of_ble_eq_true rfl) dX9_pupil_68 ⟨Nat.le_of_ble_eq_true rfl, Nat.le_of_ble_eq_true rfl⟩ (fun r58 h59 => ?_)
        have h59 : True := h59
        exact W.iret (v := r58) hx hb hr (fun tq ht hW => ⟨r58, rfl, trivial, ht⟩) (fun q h => by cases h) dX9_pupil_71
      have nw48 : wh.toInt ≠ 0 := neC rfl rfl w48
      have nw51 : wh.toInt ≠ 1 := neC rfl rfl w51
      have nw54 : wh.toInt ≠ 2 := neC rfl rfl w54
      have nw57 : wh.toInt ≠ 3 := neC rfl rfl w57
      have o20 : wh.toInt < 0 ∨ 3 < wh.toInt := by rw [show wh.toInt = wh.toInt from rfl]; omega
      refine lv_tableOut (tgt := 72) hx hb dX9_pupil_20 o20 (by decide) ?_
      refine lv_bipush (v := (-3)) hx hb dX9_pupil_72 (by decide) ?_
      exact W.iret (v := (-3)) hx hb hr (fun tq ht hW => ⟨(-3), rfl, trivial, ht⟩) (fun q h => by cases h) dX9_pupil_74
  · refine lv_if_ne (tgt := 12) hx hb dX9_pupil_6 (by decide) (fun c9 => absurd (by decide) c9) (fun _ => ?_)
    refine lv_bipush (v := (-2)) hx hb dX9_pupil_9 (by decide) ?_
    exact W.iret (v := (-2)) hx hb hr (fun tq ht hW => ⟨(-2), rfl, trivial, ht⟩) (fun q h => by cases h) dX9_pupil_11
set_option maxHeartbeats 4000000 in
set_option maxRecDepth 100000 in
theorem k_X9_figures (l : Launch) (dC : Nat → ClassId) (dI : Nat → Nat → Nat) (cI cZ cQ : ClassId) (a : Nat → Nat) (rb0 : Nat) (rb1 : Nat) (rb2 : Nat) (db0 : Nat) (db1 : Nat) (db2 : Nat) (ali : Nat → Int32) (thi : Nat → Int32) (ctr : Nat → Int32) (cbe : Nat → Int32) (har : Int32) (mar : Nat → Int32) (tol : Nat → Int32) (sz : Nat) (x : Int32) (y : Int32) (v : Int32) (r_thi : rg 8 (0) (23) thi) (r_ctr : rg 6 (0) (23) ctr) (r_mar : rg 24 (0) (255) mar) (r_tol : rg 8 (0) (23) tol) : KW l yX9_figures wsX9_figures { frames := 2, cells := 0, slots := 0, locals := 42 } (dC, dI) (TY cI cZ cQ) (wsCd cI cZ cQ a rb0 rb1 rb2 db0 db1 db2 ali thi ctr cbe har mar tol) [.ref (a 43), .int x, .int y, .int v] sz 0 0 (fun (r : Int32) (u : US) => (spFig ali x y v r (u.1 0))) (fun u : US => (wsCd cI cZ cQ a rb0 rb1 rb2 db0 db1 db2 (u.1 0) thi ctr cbe har mar tol)) := by
  refine Met.ofW (cc := cX9_figures) (maxL := 4) (ret := (some .int)) (by decide) rfl ?_
  intro p e s m args below meth c s₁ B hml hv
  obtain ⟨rfl, hsz, hP, hK, hD0, hN⟩ := hv
  have hx := B.exec
  have hb := B.bytes
  have hr := B.returns
  have hts := atoms_spec (ws := wsX9_figures) B.pre
  have hown : s.vm.findClass RX9 = some m.cls := findClass_of_methodNamed B.named
  have hlocks := B.notSynchronized
  have lf58 := hts (.fieldLink RX9 58 "PalaceOfRooms" "codes" "LPalaceOfRooms$Codes;") (by decide +kernel)
  have inX9 : ∀ w ∈ wsX90, w ∈ wsX9_figures := by decide +kernel
  subst hsz
  have hD := hD0.self (sz := s.heap.size)
  generalize hAe : va_A (wsCd cI cZ cQ a rb0 rb1 rb2 db0 db1 db2 ali thi ctr cbe har mar tol) s.heap.size = A at hD ⊢
  have hA : ∀ q : Nat, s.heap.size ≤ q → A q := fun q h => by rw [← hAe]; exact Or.inr h
  have hS : va_S A s.heap s.heap [] := va_S.rf
  have hl := lv_entry ([.ref (a 43), .int x, .int y, .int v]) (n := 4) (Nat.le_of_ble_eq_true rfl)
  rw [lg_entry_eq]
  generalize (lg_sl ([.ref (a 43), .int x, .int y, .int v]) ++ List.replicate (4 - (lg_sl ([.ref (a 43), .int x, .int y, .int v])).length) Slot.unset).toArray = ls at hl ⊢
  have hl : lv_has ls 4 [(0, .ref (a 43)), (1, .int x), (2, .int y), (3, .int v)] := hl
  refine lv_iload_n hx hb dX9_figures_0 rfl (lv_at hl 1 rfl) ?_
  refine rdS (As := [.int x]) (rest := []) ⟨hx, hb, hml, hown, hts⟩ (k_X9_isFigure l dC dI cI cZ cQ x) (va_cwS 1 hts gX9_figures_X9_isFigure rfl rfl rfl (by decide +kernel) ⟨Nat.le_of_ble_eq_true rfl, Nat.le_of_ble_eq_true rfl⟩) hP hK hN [] rfl rfl hl.1 rfl (Nat.le_of_ble_eq_true rfl) dX9_figures_1 ⟨Nat.le_of_ble_eq_true rfl, Nat.le_of_ble_eq_true rfl⟩ (fun r1 h2 => ?_)
  have h2 : ((((r1 = 1) ∧ (0 ≤ x.toInt) ∧ (x.toInt ≤ 9)) ∨ ((r1 = 0) ∧ (x.toInt < 0 ∨ 9 < x.toInt)))) := h2
  rcases h2 with (⟨rfl, h2_a0, h2_a1⟩ | ⟨rfl, h2_a0⟩)
  · refine lv_if_eq (tgt := 19) hx hb dX9_figures_4 (by decide) (fun c9 => absurd c9 (by decide)) (fun _ => ?_)
    refine lv_iload_n hx hb dX9_figures_7 rfl (lv_at hl 2 rfl) ?_
    refine rdS (As := [.int y]) (rest := []) ⟨hx, hb, hml, hown, hts⟩ (k_X9_isFigure l dC dI cI cZ cQ y) (va_cwS 1 hts gX9_figures_X9_isFigure rfl rfl rfl (by decide +kernel) ⟨Nat.le_of_ble_eq_true rfl, Nat.le_of_ble_eq_true rfl⟩) hP hK hN [] rfl rfl hl.1 rfl (Nat.le_of_ble_eq_true rfl) dX9_figures_8 ⟨Nat.le_of_ble_eq_true rfl, Nat.le_of_ble_eq_true rfl⟩ (fun r3 h4 => ?_)
    have h4 : ((((r3 = 1) ∧ (0 ≤ y.toInt) ∧ (y.toInt ≤ 9)) ∨ ((r3 = 0) ∧ (y.toInt < 0 ∨ 9 < y.toInt)))) := h4
    rcases h4 with (⟨rfl, h4_a0, h4_a1⟩ | ⟨rfl, h4_a0⟩)
    · refine lv_if_eq (tgt := 19) hx hb dX9_figures_11 (by decide) (fun c9 => absurd c9 (by decide)) (fun _ => ?_)
      refine lv_iload_n hx hb dX9_figures_14 rfl (lv_at hl 1 rfl) ?_
      refine lv_iload_n hx hb dX9_figures_15 rfl (lv_at hl 2 rfl) ?_
      refine lv_icmp_ne (tgt := 22) hx hb dX9_figures_16 (by decide) (fun c5 => ?_) (fun c5 => ?_)
      · have dc5 : x.toInt ≠ y.toInt := neC rfl rfl c5
        refine lv_iload_n hx hb dX9_figures_22 rfl (lv_at hl 3 rfl) ?_
        refine lv_iconst (v := 0) hx hb dX9_figures_23 (by decide) ?_
        refine lv_bipush (v := 9) hx hb dX9_figures_24 (by decide) ?_
        refine rdS (As := [.int v, .int 0, .int 9]) (rest := []) ⟨hx, hb, hml, hown, hts⟩ (k_X9_within l dC dI cI cZ cQ v (0 : Int32) (9 : Int32)) (va_cwS 3 hts gX9_figures_X9_within rfl rfl rfl (by decide +kernel) ⟨Nat.le_of_ble_eq_true rfl, Nat.le_of_ble_eq_true rfl⟩) hP hK hN [] rfl rfl hl.1 rfl (Nat.le_of_ble_eq_true rfl) dX9_figures_26 ⟨Nat.le_of_ble_eq_true rfl, Nat.le_of_ble_eq_true rfl⟩ (fun r6 h7 => ?_)
        have h7 : ((((r6 = 1) ∧ ((0) ≤ v.toInt) ∧ (v.toInt ≤ (9))) ∨ ((r6 = 0) ∧ (v.toInt < (0) ∨ (9) < v.toInt)))) := h7
        rcases h7 with (⟨rfl, h7_a0, h7_a1⟩ | ⟨rfl, h7_a0⟩)
        · refine lv_if_ne (tgt := 35) hx hb dX9_figures_29 (by decide) (fun _ => ?_) (fun c9 => absurd c9 (by decide))
          refine lv_aload_n hx hb dX9_figures_35 rfl (lv_at hl 0 rfl) ?_
          refine va_get (D := (dC, dI)) (ci := 9) (v := .ref (a 28)) (C := RX9) (T := TX9) (N := 11) hx hb hts inX9 hown hK hP 0 rfl rfl 6 (by decide) lf58 (fun _ h9 => h9) rfl dX9_figures_36 ?_
          refine lv_iload_n hx hb dX9_figures_39 rfl (lv_at hl 1 rfl) ?_
          refine lv_iload_n hx hb dX9_figures_40 rfl (lv_at hl 2 rfl) ?_
          refine lv_iload_n hx hb dX9_figures_41 rfl (lv_at hl 3 rfl) ?_
          refine wrV (As := [.int x, .int y, .int v]) (rest := []) (wr := [((a 43), .inr (9, [.ref (a 0), .ref (a 2), .ref (a 4), .ref (a 14), .ref (a 16), .ref (a 23), .ref (a 28), .ref (a 33), .ref (a 42), .ref rb0, .ref db0]))]) (w2 := (fun u : US => (wsCd cI cZ cQ a rb0 rb1 rb2 db0 db1 db2 (u.1 0) thi ctr cbe har mar tol))) ⟨hx, hb, hml, hown, hts⟩ (k_X0_exchangeAlike l dC dI cI cZ cQ a ali thi ctr cbe har mar tol _ x y v r_thi r_ctr r_mar r_tol (by omega) (by omega) (by omega) (by omega)) (cwV 3 hts gX9_figures_X0_exchangeAlike rfl rfl rfl (by decide +kernel) ⟨Nat.le_of_ble_eq_true rfl, Nat.le_of_ble_eq_true rfl⟩) hP hD hS hA hK hN [1, 2, 3, 4, 5, 6, 7, 8] [0] [0, 1, 2, 3, 4, 5, 6, 7, 8] rfl rfl (by decide) (by decide) (by decide) (fun _ => rfl) (by decide) 1 0 rfl rfl rfl hl.1 rfl (Nat.le_of_ble_eq_true rfl) dX9_figures_42 ⟨Nat.le_of_ble_eq_true rfl, Nat.le_of_ble_eq_true rfl⟩ (fun r8 u10 H locs h9 hP hD hS => ?_)
          obtain ⟨ali_c11, eali_c11⟩ : ∃ f : Nat → Int32, f = (u10.1 0) := ⟨_, rfl⟩
          have hP : va_P (dC, dI) vwCl (wsCd cI cZ cQ a rb0 rb1 rb2 db0 db1 db2 ali_c11 thi ctr cbe har mar tol) H := by rw [eali_c11]; exact hP
          have hD : va_D A (wsCd cI cZ cQ a rb0 rb1 rb2 db0 db1 db2 ali_c11 thi ctr cbe har mar tol) := by rw [eali_c11]; exact hD
          have h9 : (r8 = ali (x.toInt * 10 + y.toInt).toNat) ∧ (ali_c11 = upd (upd ali (x.toInt * 10 + y.toInt).toNat v) (y.toInt * 10 + x.toInt).toNat v) := by (try rw [eali_c11]); exact h9
          obtain ⟨h9_0, h9_1⟩ := h9
          exact W.iret (v := r8) hx hb hr (fun tq ht hW => ⟨⟨r8, (uS [ali_c11] 0 (fun _ => 0)), rfl, (show spFig ali x y v r8 ali_c11 from by (unfold spFig; first | exact Or.inl ⟨by omega, rfl, rfl⟩ | exact Or.inr (Or.inl ⟨by omega, by omega, by omega, by omega, rfl, rfl⟩) | exact Or.inr (Or.inr ⟨by omega, by omega, by omega, by omega, by assumption, by assumption⟩))), by rw [ht]; exact hP, hD⟩, hS.F ht⟩) hS.2.2 dX9_figures_45
        · refine lv_if_ne (tgt := 35) hx hb dX9_figures_29 (by decide) (fun c9 => absurd (by decide) c9) (fun _ => ?_)
          refine lv_bipush (v := (-3)) hx hb dX9_figures_32 (by decide) ?_
          exact W.iret (v := (-3)) hx hb hr (fun tq ht hW => ⟨⟨(-3), (uS [ali] 0 (fun _ => 0)), rfl, (show spFig ali x y v ((-3) : Int32) ali from by (try rw [show ((-3) : Int32).toInt = (-3) from (show ((-3) : Int32).toInt = (-3) from rfl)]); (unfold spFig; first | exact Or.inl ⟨by omega, rfl, rfl⟩ | exact Or.inr (Or.inl ⟨by omega, by omega, by omega, by omega, rfl, rfl⟩) | exact Or.inr (Or.inr ⟨by omega, by omega, by omega, by omega, by assumption, by assumption⟩))), by rw [ht]; exact hP, hD⟩, hS.F ht⟩) hS.2.2 dX9_figures_34
      · have dc5 : x.toInt = y.toInt := eqC rfl rfl c5
        refine lv_bipush (v := (-2)) hx hb dX9_figures_19 (by decide) ?_
        exact W.iret (v := (-2)) hx hb hr (fun tq ht hW => ⟨⟨(-2), (uS [ali] 0 (fun _ => 0)), rfl, (show spFig ali x y v ((-2) : Int32) ali from by (try rw [show ((-2) : Int32).toInt = (-2) from (show ((-2) : Int32).toInt = (-2) from rfl)]); (unfold spFig; first | exact Or.inl ⟨by omega, rfl, rfl⟩ | exact Or.inr (Or.inl ⟨by omega, by omega, by omega, by omega, rfl, rfl⟩) | exact Or.inr (Or.inr ⟨by omega, by omega, by omega, by omega, by assumption, by assumption⟩))), by rw [ht]; exact hP, hD⟩, hS.F ht⟩) hS.2.2 dX9_figures_21
    · refine lv_if_eq (tgt := 19) hx hb dX9_figures_11 (by decide) (fun _ => ?_) (fun c9 => absurd (by decide) c9)
      refine lv_bipush (v := (-2)) hx hb dX9_figures_19 (by decide) ?_
      exact W.iret (v := (-2)) hx hb hr (fun tq ht hW => ⟨⟨(-2), (uS [ali] 0 (fun _ => 0)), rfl, (show spFig ali x y v ((-2) : Int32) ali from by (try rw [show ((-2) : Int32).toInt = (-2) from (show ((-2) : Int32).toInt = (-2) from rfl)]); (unfold spFig; first | exact Or.inl ⟨by omega, rfl, rfl⟩ | exact Or.inr (Or.inl ⟨by omega, by omega, by omega, by omega, rfl, rfl⟩) | exact Or.inr (Or.inr ⟨by omega, by omega, by omega, by omega, by assumption, by assumption⟩))), by rw [ht]; exact hP, hD⟩, hS.F ht⟩) hS.2.2 dX9_figures_21
  · refine lv_if_eq (tgt := 19) hx hb dX9_figures_4 (by decide) (fun _ => ?_) (fun c9 => absurd (by decide) c9)
    refine lv_bipush (v := (-2)) hx hb dX9_figures_19 (by decide) ?_
    exact W.iret (v := (-2)) hx hb hr (fun tq ht hW => ⟨⟨(-2), (uS [ali] 0 (fun _ => 0)), rfl, (show spFig ali x y v ((-2) : Int32) ali from by (try rw [show ((-2) : Int32).toInt = (-2) from (show ((-2) : Int32).toInt = (-2) from rfl)]); (unfold spFig; first | exact Or.inl ⟨by omega, rfl, rfl⟩ | exact Or.inr (Or.inl ⟨by omega, by omega, by omega, by omega, rfl, rfl⟩) | exact Or.inr (Or.inr ⟨by omega, by omega, by omega, by omega, by assumption, by assumption⟩))), by rw [ht]; exact hP, hD⟩, hS.F ht⟩) hS.2.2 dX9_figures_21
set_option maxHeartbeats 4000000 in
set_option maxRecDepth 100000 in
theorem k_X9_code (l : Launch) (dC : Nat → ClassId) (dI : Nat → Nat → Nat) (cI cZ cQ : ClassId) (a : Nat → Nat) (rb0 : Nat) (rb1 : Nat) (rb2 : Nat) (db0 : Nat) (db1 : Nat) (db2 : Nat) (ali : Nat → Int32) (thi : Nat → Int32) (ctr : Nat → Int32) (cbe : Nat → Int32) (har : Int32) (mar : Nat → Int32) (tol : Nat → Int32) (sz : Nat) (row : Int64) (n : Int32) (i : Int32) (r_thi : rg 8 (0) (23) thi) (r_ctr : rg 6 (0) (23) ctr) (r_mar : rg 24 (0) (255) mar) (r_tol : rg 8 (0) (23) tol) : KW l yX9_code wsX9_code { frames := 11, cells := 0, slots := 0, locals := 262 } (dC, dI) (TY cI cZ cQ) (wsCd cI cZ cQ a rb0 rb1 rb2 db0 db1 db2 ali thi ctr cbe har mar tol) [.ref (a 43), .long row, .int n, .int i] sz 0 0 (fun (r : Int32) (u : US) => (rg 8 (0) (23) (u.1 0)) ∧ (rg 8 (0) (23) (u.1 1)) ∧ (rg 6 (0) (23) (u.1 2))) (fun u : US => (wsCd cI cZ cQ a rb0 rb1 rb2 db0 db1 db2 ali (u.1 1) (u.1 2) (u.1 3) (u.1 4 0) mar (u.1 0))) := by
  refine Met.ofW (cc := cX9_code) (maxL := 6) (ret := (some .int)) (by decide) rfl ?_
  intro p e s m args below meth c s₁ B hml hv
  obtain ⟨rfl, hsz, hP, hK, hD0, hN⟩ := hv
  have hx := B.exec
  have hb := B.bytes
  have hr := B.returns
  have hts := atoms_spec (ws := wsX9_code) B.pre
  have hown : s.vm.findClass RX9 = some m.cls := findClass_of_methodNamed B.named
  have hlocks := B.notSynchronized
  have lf58 := hts (.fieldLink RX9 58 "PalaceOfRooms" "codes" "LPalaceOfRooms$Codes;") (by decide +kernel)
  have inX9 : ∀ w ∈ wsX90, w ∈ wsX9_code := fun w h => List.mem_cons_of_mem _ (List.mem_append_left _ (List.mem_append_left _ (List.mem_append_right _ h)))
  have lf69 := hts (.fieldLink RX9 69 "PalaceOfRooms" "told" "[I") (by decide +kernel)
  have lf269 := hN.use (w := .fieldLinkNest "PalaceOfRooms" 269 "PalaceOfRooms$Codes" "best" "[I" "PalaceOfRooms") (by decide +kernel) ([.ref (a 43), .long row, .int n, .int i] : List Value).toArray
  have inX0 : ∀ w ∈ wsX00, w ∈ wsX9_code := fun w h => List.mem_cons_of_mem _ (List.mem_append_left _ (List.mem_append_right _ h))
  have lf266 := hN.use (w := .fieldLinkNest "PalaceOfRooms" 266 "PalaceOfRooms$Codes" "bestHarm" "I" "PalaceOfRooms") (by decide +kernel) ([.ref (a 43), .long row, .int n, .int i] : List Value).toArray
  subst hsz
  have hD := hD0.self (sz := s.heap.size)
  generalize hAe : va_A (wsCd cI cZ cQ a rb0 rb1 rb2 db0 db1 db2 ali thi ctr cbe har mar tol) s.heap.size = A at hD ⊢
  have hA : ∀ q : Nat, s.heap.size ≤ q → A q := fun q h => by rw [← hAe]; exact Or.inr h
  have hS : va_S A s.heap s.heap [] := va_S.rf
  have hl := lv_entry ([.ref (a 43), .long row, .int n, .int i]) (n := 6) (Nat.le_of_ble_eq_true rfl)
  rw [lg_entry_eq]
  generalize (lg_sl ([.ref (a 43), .long row, .int n, .int i]) ++ List.replicate (6 - (lg_sl ([.ref (a 43), .long row, .int n, .int i])).length) Slot.unset).toArray = ls at hl ⊢
  have hl : lv_has ls 6 [(0, .ref (a 43)), (1, .long row), (3, .int n), (4, .int i)] := hl
  refine lv_aload_n hx hb dX9_code_0 rfl (lv_at hl 0 rfl) ?_
  refine lv_lload_n hx hb dX9_code_1 rfl (lv_at hl 1 rfl) ?_
  refine lv_iload_n hx hb dX9_code_2 rfl (lv_at hl 2 rfl) ?_
  refine lv_iload hx hb dX9_code_3 (lv_at hl 3 rfl) ?_
  refine lv_iconst (v := 2) hx hb dX9_code_5 (by decide) ?_
  refine lv_bipush (v := 6) hx hb dX9_code_6 (by decide) ?_
  have kc2 : (2 : Int32).toInt = 2 := rfl
  have kc6 : (6 : Int32).toInt = 6 := rfl
  refine wrV (As := [.long row, .int n, .int i, .int 2, .int 6]) (rest := []) (wr := [((a 28), .inr (0, [.ref (a 2), .ref (a 29), .ref (a 30), .ref (a 31), .ref (a 32), .int har])), ((a 29), .inl (cI, 100, .inl ali)), ((a 30), .inl (cI, 8, .inl thi)), ((a 31), .inl (cI, 6, .inl ctr)), ((a 32), .inl (cI, 6, .inl cbe)), ((a 2), .inr (2, [.ref (a 3)])), ((a 3), .inl (cI, 24, .inl mar))]) (w2 := (fun u : US => (wsCd cI cZ cQ a rb0 rb1 rb2 db0 db1 db2 ali thi ctr cbe har mar (u.1 0)))) ⟨hx, hb, hml, hown, hts⟩ (k_X9_rowRefusal l dC dI cI cZ cQ a rb0 rb1 rb2 db0 db1 db2 tol _ row n i (2 : Int32) (6 : Int32) r_tol (by omega) (by omega)) (cwV 5 hts gX9_code_X9_rowRefusal rfl rfl rfl (by decide +kernel) ⟨Nat.le_of_ble_eq_true rfl, Nat.le_of_ble_eq_true rfl⟩) hP hD hS hA hK hN [0, 8] [1, 2, 3, 4, 5, 6, 7] [7, 0, 1, 2, 3, 4, 5, 6, 8] rfl rfl (by decide) (by decide) (by decide) (fun _ => rfl) (by decide) 0 9 rfl rfl rfl hl.1 rfl (Nat.le_of_ble_eq_true rfl) dX9_code_8 ⟨Nat.le_of_ble_eq_true rfl, Nat.le_of_ble_eq_true rfl⟩ (fun r1 u3 H locs h2 hP hD hS => ?_)
  obtain ⟨tol_c4, etol_c4⟩ : ∃ f : Nat → Int32, f = (u3.1 0) := ⟨_, rfl⟩
  have hP : va_P (dC, dI) vwCl (wsCd cI cZ cQ a rb0 rb1 rb2 db0 db1 db2 ali thi ctr cbe har mar tol_c4) H := by rw [etol_c4]; exact hP
  have hD : va_D A (wsCd cI cZ cQ a rb0 rb1 rb2 db0 db1 db2 ali thi ctr cbe har mar tol_c4) := by rw [etol_c4]; exact hD
  have h2 : ((((r1 = 0) ∧ ((2) ≤ n.toInt) ∧ (n.toInt ≤ (6)) ∧ (-1 ≤ i.toInt)) ∨ ((r1 = (-2))) ∨ ((r1 = (-3))))) ∧ (rg 8 (0) (23) tol_c4) := by (try rw [etol_c4]); exact h2
  rcases h2 with ⟨(⟨rfl, h2_a0, h2_a1, h2_a2⟩ | rfl | rfl), h2_0⟩
  · refine lv_istore (lv' := [(5, .int 0), (0, .ref (a 43)), (1, .long row), (3, .int n), (4, .int i)]) hx hb dX9_code_11 hl (by decide) rfl (fun ls hl => ?_)
    refine lv_iload hx hb dX9_code_13 (lv_at hl 0 rfl) ?_
    refine lv_if_eq (tgt := 21) hx hb dX9_code_15 (by decide) (fun _ => ?_) (fun c9 => absurd (by decide) c9)
    refine lv_iload hx hb dX9_code_21 (lv_at hl 4 rfl) ?_
    refine lv_iload_n hx hb dX9_code_23 rfl (lv_at hl 3 rfl) ?_
    refine lv_icmp_lt (tgt := 29) hx hb dX9_code_24 (by decide) (fun c5 => ?_) (fun c5 => ?_)
    · have dc5 : i.toInt < n.toInt := ltC rfl rfl c5
      refine lv_aload_n hx hb dX9_code_29 rfl (lv_at hl 1 rfl) ?_
      refine va_get (D := (dC, dI)) (ci := 9) (v := .ref (a 28)) (C := RX9) (T := TX9) (N := 11) hx hb hts inX9 hown hK hP 0 rfl rfl 6 (by decide) lf58 (fun _ h9 => h9) rfl dX9_code_30 ?_
      refine lv_aload_n hx hb dX9_code_33 rfl (lv_at hl 1 rfl) ?_
      refine va_get (D := (dC, dI)) (ci := 9) (v := .ref (a 42)) (C := RX9) (T := TX9) (N := 11) hx hb hts inX9 hown hK hP 0 rfl rfl 8 (by decide) lf69 (fun _ h9 => h9) rfl dX9_code_34 ?_
      refine lv_iload_n hx hb dX9_code_37 rfl (lv_at hl 3 rfl) ?_
      refine wvV (As := [.ref (a 42), .int n]) (rest := []) (wr := [((a 43), .inr (9, [.ref (a 0), .ref (a 2), .ref (a 4), .ref (a 14), .ref (a 16), .ref (a 23), .ref (a 28), .ref (a 33), .ref (a 42), .ref rb0, .ref db0]))]) (w2 := (fun u : US => (wsCd cI cZ cQ a rb0 rb1 rb2 db0 db1 db2 ali (u.1 0) (u.1 1) (u.1 2) (u.1 3 0) mar tol_c4))) ⟨hx, hb, hml, hown, hts⟩ (k_X0_findBest l dC dI cI cZ cQ a ali thi ctr cbe har mar tol_c4 _ n r_thi r_ctr r_mar h2_0 (by omega) (by omega)) (cwV 2 hts gX9_code_X0_findBest rfl rfl rfl (by decide +kernel) ⟨Nat.le_of_ble_eq_true rfl, Nat.le_of_ble_eq_true rfl⟩) hP hD hS hA hK hN [1, 2, 3, 4, 5, 6, 7, 8] [0] [0, 1, 2, 3, 4, 5, 6, 7, 8] rfl rfl (by decide) (by decide) (by decide) (fun _ => rfl) (by decide) 1 0 rfl rfl rfl hl.1 rfl (Nat.le_of_ble_eq_true rfl) dX9_code_38 ⟨Nat.le_of_ble_eq_true rfl, Nat.le_of_ble_eq_true rfl⟩ (fun u8 H locs h7 hP hD hS => ?_)
      obtain ⟨thi_c9, ethi_c9⟩ : ∃ f : Nat → Int32, f = (u8.1 0) := ⟨_, rfl⟩
      obtain ⟨ctr_c10, ectr_c10⟩ : ∃ f : Nat → Int32, f = (u8.1 1) := ⟨_, rfl⟩
      obtain ⟨cbe_c11, ecbe_c11⟩ : ∃ f : Nat → Int32, f = (u8.1 2) := ⟨_, rfl⟩
      obtain ⟨har_c12, ehar_c12⟩ : ∃ f : Int32, f = (u8.1 3 0) := ⟨_, rfl⟩
      have hP : va_P (dC, dI) vwCl (wsCd cI cZ cQ a rb0 rb1 rb2 db0 db1 db2 ali thi_c9 ctr_c10 cbe_c11 har_c12 mar tol_c4) H := by rw [ethi_c9, ectr_c10, ecbe_c11, ehar_c12]; exact hP
      have hD : va_D A (wsCd cI cZ cQ a rb0 rb1 rb2 db0 db1 db2 ali thi_c9 ctr_c10 cbe_c11 har_c12 mar tol_c4) := by rw [ethi_c9, ectr_c10, ecbe_c11, ehar_c12]; exact hD
      have h7 : (rg 8 (0) (23) thi_c9) ∧ (rg 6 (0) (23) ctr_c10) := by (try rw [ethi_c9]); (try rw [ectr_c10]); (try rw [ecbe_c11]); (try rw [ehar_c12]); exact h7
      obtain ⟨h7_0, h7_1⟩ := h7
      refine lv_iload hx hb dX9_code_41 (lv_at hl 4 rfl) ?_
      refine lv_if_ge (tgt := 56) hx hb dX9_code_43 (by decide) (fun c13 => ?_) (fun c13 => ?_)
      · have dc13 : 0 ≤ i.toInt := leC (show (0 : Int32).toInt = 0 from rfl) rfl c13
        refine lv_aload_n hx hb dX9_code_56 rfl (lv_at hl 1 rfl) ?_
        refine va_get (D := (dC, dI)) (ci := 9) (v := .ref (a 28)) (C := RX9) (T := TX9) (N := 11) hx hb hts inX9 hown hK hP 0 rfl rfl 6 (by decide) lf58 (fun _ h9 => h9) rfl dX9_code_57 ?_
        refine va_getN (D := (dC, dI)) (ci := 0) (v := .ref (a 32)) (C := RX0) (T := TX0) (N := 6) hx hb hts inX0 hown hK hP 1 rfl rfl 4 (by decide) lf269 (fun _ h9 => h9) rfl dX9_code_60 ?_
        refine lv_iload hx hb dX9_code_63 (lv_at hl 4 rfl) ?_
        have b14 : vp_in i 6 := inC rfl (by omega) (by omega)
        refine va_iald hx hb hK hP 5 0 rfl rfl b14 dX9_code_65 ?_
        exact W.iret (v := cbe_c11 i.toNatClampNeg) hx hb hr (fun tq ht hW => ⟨⟨cbe_c11 i.toNatClampNeg, (uS [tol_c4, thi_c9, ctr_c10, cbe_c11, (fun _ => har_c12)] 0 (fun _ => 0)), rfl, ⟨h2_0, h7_0, h7_1⟩, by rw [ht]; exact hP, hD⟩, hS.F ht⟩) hS.2.2 dX9_code_66
      · have dc13 : i.toInt < 0 := nleC (show (0 : Int32).toInt = 0 from rfl) rfl c13
        refine lv_aload_n hx hb dX9_code_46 rfl (lv_at hl 1 rfl) ?_
        refine va_get (D := (dC, dI)) (ci := 9) (v := .ref (a 28)) (C := RX9) (T := TX9) (N := 11) hx hb hts inX9 hown hK hP 0 rfl rfl 6 (by decide) lf58 (fun _ h9 => h9) rfl dX9_code_47 ?_
        refine va_getN (D := (dC, dI)) (ci := 0) (v := .int har_c12) (C := RX0) (T := TX0) (N := 6) hx hb hts inX0 hown hK hP 1 rfl rfl 5 (by decide) lf266 (fun _ h9 => h9) rfl dX9_code_50 ?_
        refine lv_goto (tgt := 66) hx hb dX9_code_53 (by decide) ?_
        exact W.iret (v := har_c12) hx hb hr (fun tq ht hW => ⟨⟨har_c12, (uS [tol_c4, thi_c9, ctr_c10, cbe_c11, (fun _ => har_c12)] 0 (fun _ => 0)), rfl, ⟨h2_0, h7_0, h7_1⟩, by rw [ht]; exact hP, hD⟩, hS.F ht⟩) hS.2.2 dX9_code_66
    · have dc5 : n.toInt ≤ i.toInt := nltC rfl rfl c5
      refine lv_iconst (v := (-1)) hx hb dX9_code_27 (by decide) ?_
      exact W.iret (v := (-1)) hx hb hr (fun tq ht hW => ⟨⟨(-1), (uS [tol_c4, thi, ctr, cbe, (fun _ => har)] 0 (fun _ => 0)), rfl, ⟨h2_0, r_thi, r_ctr⟩, by rw [ht]; exact hP, hD⟩, hS.F ht⟩) hS.2.2 dX9_code_28
  · refine lv_istore (lv' := [(5, .int (-2)), (0, .ref (a 43)), (1, .long row), (3, .int n), (4, .int i)]) hx hb dX9_code_11 hl (by decide) rfl (fun ls hl => ?_)
    refine lv_iload hx hb dX9_code_13 (lv_at hl 0 rfl) ?_
    refine lv_if_eq (tgt := 21) hx hb dX9_code_15 (by decide) (fun c9 => absurd c9 (by decide)) (fun _ => ?_)
    refine lv_iload hx hb dX9_code_18 (lv_at hl 0 rfl) ?_
    exact W.iret (v := (-2)) hx hb hr (fun tq ht hW => ⟨⟨(-2), (uS [tol_c4, thi, ctr, cbe, (fun _ => har)] 0 (fun _ => 0)), rfl, ⟨h2_0, r_thi, r_ctr⟩, by rw [ht]; exact hP, hD⟩, hS.F ht⟩) hS.2.2 dX9_code_20
  · refine lv_istore (lv' := [(5, .int (-3)), (0, .ref (a 43)), (1, .long row), (3, .int n), (4, .int i)]) hx hb dX9_code_11 hl (by decide) rfl (fun ls hl => ?_)
    refine lv_iload hx hb dX9_code_13 (lv_at hl 0 rfl) ?_
    refine lv_if_eq (tgt := 21) hx hb dX9_code_15 (by decide) (fun c9 => absurd c9 (by decide)) (fun _ => ?_)
    refine lv_iload hx hb dX9_code_18 (lv_at hl 0 rfl) ?_
    exact W.iret (v := (-3)) hx hb hr (fun tq ht hW => ⟨⟨(-3), (uS [tol_c4, thi, ctr, cbe, (fun _ => har)] 0 (fun _ => 0)), rfl, ⟨h2_0, r_thi, r_ctr⟩, by rw [ht]; exact hP, hD⟩, hS.F ht⟩) hS.2.2 dX9_code_20
set_option maxHeartbeats 4000000 in
set_option maxRecDepth 100000 in
theorem k_X9_enough (l : Launch) (dC : Nat → ClassId) (dI : Nat → Nat → Nat) (cI cZ cQ : ClassId) (a : Nat → Nat) (rb0 : Nat) (rb1 : Nat) (rb2 : Nat) (db0 : Nat) (db1 : Nat) (db2 : Nat) (few : Nat → Int32) (doo : Int32) (mos : Nat → Int32) (wev : Nat → Int32) (aga : Int32) (apa : Int32) (lin : Int32) (co : Int32)  : KR l yX9_enough wsX9_enough { frames := 2, cells := 0, slots := 0, locals := 45 } (dC, dI) (TY cI cZ cQ) (wsWR cI cZ cQ a rb0 rb1 rb2 db0 db1 db2 few doo mos wev aga apa lin) [.ref (a 43), .int co] (fun r : Int32 => True) := by
  refine Met.ofW (cc := cX9_enough) (maxL := 6) (ret := (some .int)) (by decide) rfl ?_
  intro p e s m args below meth c s₁ B hml hv
  obtain ⟨rfl, hP, hK, hN⟩ := hv
  have hx := B.exec
  have hb := B.bytes
  have hr := B.returns
  have hts := atoms_spec (ws := wsX9_enough) B.pre
  have hown : s.vm.findClass RX9 = some m.cls := findClass_of_methodNamed B.named
  have hlocks := B.notSynchronized
  have lf12 := hts (.fieldLink RX9 12 "PalaceOfRooms" "ways" "LPalaceOfRooms$Ways;") (by decide +kernel)
  have inX9 : ∀ w ∈ wsX90, w ∈ wsX9_enough := by decide +kernel
  have lf76 := hts (.fieldLink RX9 76 "PalaceOfRooms" "rules" "LPalaceOfRooms$RuleBook;") (by decide +kernel)
  have hl := lv_entry ([.ref (a 43), .int co]) (n := 6) (Nat.le_of_ble_eq_true rfl)
  rw [lg_entry_eq]
  generalize (lg_sl ([.ref (a 43), .int co]) ++ List.replicate (6 - (lg_sl ([.ref (a 43), .int co])).length) Slot.unset).toArray = ls at hl ⊢
  have hl : lv_has ls 6 [(0, .ref (a 43)), (1, .int co)] := hl
  refine lv_iload_n hx hb dX9_enough_0 rfl (lv_at hl 1 rfl) ?_
  refine lv_iconst (v := 0) hx hb dX9_enough_1 (by decide) ?_
  refine lv_bipush (v := 48) hx hb dX9_enough_2 (by decide) ?_
  refine rdS (As := [.int co, .int 0, .int 48]) (rest := []) ⟨hx, hb, hml, hown, hts⟩ (k_X9_within l dC dI cI cZ cQ co (0 : Int32) (48 : Int32)) (va_cwS 3 hts gX9_enough_X9_within rfl rfl rfl (by decide +kernel) ⟨Nat.le_of_ble_eq_true rfl, Nat.le_of_ble_eq_true rfl⟩) hP hK hN [] rfl rfl hl.1 rfl (Nat.le_of_ble_eq_true rfl) dX9_enough_4 ⟨Nat.le_of_ble_eq_true rfl, Nat.le_of_ble_eq_true rfl⟩ (fun r1 h2 => ?_)
  have h2 : ((((r1 = 1) ∧ ((0) ≤ co.toInt) ∧ (co.toInt ≤ (48))) ∨ ((r1 = 0) ∧ (co.toInt < (0) ∨ (48) < co.toInt)))) := h2
  rcases h2 with (⟨rfl, h2_a0, h2_a1⟩ | ⟨rfl, h2_a0⟩)
  · refine lv_if_ne (tgt := 13) hx hb dX9_enough_7 (by decide) (fun _ => ?_) (fun c9 => absurd c9 (by decide))
    refine lv_iconst (v := 0) hx hb dX9_enough_13 (by decide) ?_
    refine lv_istore_n (lv' := [(2, .int 0), (0, .ref (a 43)), (1, .int co)]) hx hb dX9_enough_14 rfl hl (by decide) rfl (fun ls hl => ?_)
    refine lv_iconst (v := 0) hx hb dX9_enough_15 (by decide) ?_
    refine lv_istore_n (lv' := [(3, .int 0), (2, .int 0), (0, .ref (a 43)), (1, .int co)]) hx hb dX9_enough_16 rfl hl (by decide) rfl (fun ls hl => ?_)
    refine lv_iconst (v := 0) hx hb dX9_enough_17 (by decide) ?_
    refine lv_istore (lv' := [(4, .int 0), (3, .int 0), (2, .int 0), (0, .ref (a 43)), (1, .int co)]) hx hb dX9_enough_18 hl (by decide) rfl (fun ls hl => ?_)
    have L20 : ∀ (nn : Nat) (y20_2 : Int32) (y20_3 : Int32) (y20_4 : Int32) (ls : Array Slot), (0 ≤ (y20_4.toInt)) → ((y20_4.toInt) ≤ 8) → (8 - (y20_4.toInt)).toNat < nn → lv_has ls 6 [(0, .ref (a 43)), (1, .int co), (2, .int y20_2), (3, .int y20_3), (4, .int y20_4)] → W p l e (headSpec wsX9_enough { frames := 2, cells := 0, slots := 0, locals := 45 }).room s m ([.ref (a 43), .int co] : List Value).toArray below meth c s.heap [] 0 0 (MQ below (QR (fun r : Int32 => True)) ([.ref (a 43), .int co] : List Value).toArray s 0 0 (fun _ => False)) (F0 m 20 ls []) := by
      intro nn
      induction nn with
      | zero =>
        intro y20_2 y20_3 y20_4 ls i20_0 i20_1 hm20
        exact absurd hm20 (Nat.not_lt_zero _)
      | succ nn ih20 =>
        intro y20_2 y20_3 y20_4 ls i20_0 i20_1 hm20 hl
        refine lv_iload hx hb dX9_enough_20 (lv_at hl 4 rfl) ?_
        refine lv_bipush (v := 8) hx hb dX9_enough_22 (by decide) ?_
        refine lv_icmp_ge (tgt := 84) hx hb dX9_enough_24 (by decide) (fun c3 => ?_) (fun c3 => ?_)
        · have dc3 : 8 ≤ y20_4.toInt := leC (show (8 : Int32).toInt = 8 from rfl) rfl c3
          refine lv_iload_n hx hb dX9_enough_84 rfl (lv_at hl 2 rfl) ?_
          refine lv_iload_n hx hb dX9_enough_85 rfl (lv_at hl 1 rfl) ?_
          refine lv_icmp_ge (tgt := 93) hx hb dX9_enough_86 (by decide) (fun c4 => ?_) (fun c4 => ?_)
          · have dc4 : co.toInt ≤ y20_2.toInt := leC rfl rfl c4
            refine lv_iload_n hx hb dX9_enough_93 rfl (lv_at hl 3 rfl) ?_
            exact W.iret (v := y20_3) hx hb hr (fun tq ht hW => ⟨y20_3, rfl, trivial, ht⟩) (fun q h => by cases h) dX9_enough_94
          · have dc4 : y20_2.toInt < co.toInt := nleC rfl rfl c4
            refine lv_iconst (v := (-1)) hx hb dX9_enough_89 (by decide) ?_
            refine lv_goto (tgt := 94) hx hb dX9_enough_90 (by decide) ?_
            exact W.iret (v := (-1)) hx hb hr (fun tq ht hW => ⟨(-1), rfl, trivial, ht⟩) (fun q h => by cases h) dX9_enough_94
        · have dc3 : y20_4.toInt < 8 := nleC (show (8 : Int32).toInt = 8 from rfl) rfl c3
          refine lv_iconst (v := 0) hx hb dX9_enough_27 (by decide) ?_
          refine lv_istore (lv' := [(5, .int 0), (0, .ref (a 43)), (1, .int co), (2, .int y20_2), (3, .int y20_3), (4, .int y20_4)]) hx hb dX9_enough_28 hl (by decide) rfl (fun ls hl => ?_)
          have L30 : ∀ (nn : Nat) (y30_2 : Int32) (y30_3 : Int32) (y30_5 : Int32) (ls : Array Slot), (0 ≤ (y30_5.toInt)) → ((y30_5.toInt) ≤ 8) → (8 - (y30_5.toInt)).toNat < nn → lv_has ls 6 [(0, .ref (a 43)), (1, .int co), (2, .int y30_2), (3, .int y30_3), (4, .int y20_4), (5, .int y30_5)] → W p l e (headSpec wsX9_enough { frames := 2, cells := 0, slots := 0, locals := 45 }).room s m ([.ref (a 43), .int co] : List Value).toArray below meth c s.heap [] 0 0 (MQ below (QR (fun r : Int32 => True)) ([.ref (a 43), .int co] : List Value).toArray s 0 0 (fun _ => False)) (F0 m 30 ls []) := by
            intro nn
            induction nn with
            | zero =>
              intro y30_2 y30_3 y30_5 ls i30_0 i30_1 hm30
              exact absurd hm30 (Nat.not_lt_zero _)
            | succ nn ih30 =>
              intro y30_2 y30_3 y30_5 ls i30_0 i30_1 hm30 hl
              refine lv_iload hx hb dX9_enough_30 (lv_at hl 5 rfl) ?_
              refine lv_bipush (v := 8) hx hb dX9_enough_32 (by decide) ?_
              refine lv_icmp_ge (tgt := 78) hx hb dX9_enough_34 (by decide) (fun c5 => ?_) (fun c5 => ?_)
              · have dc5 : 8 ≤ y30_5.toInt := leC (show (8 : Int32).toInt = 8 from rfl) rfl c5
                obtain ⟨z6, ez6⟩ : ∃ y : Int32, y = y20_4 + 1 := ⟨_, rfl⟩
                have iz6 : z6.toInt = y20_4.toInt + 1 := by rw [ez6]; exact addC rfl rfl (by omega) (by omega)
                refine lv_iinc (v := z6) (lv' := [(4, .int z6), (0, .ref (a 43)), (1, .int co), (2, .int y30_2), (3, .int y30_3), (5, .int y30_5)]) hx hb dX9_enough_78 hl (k := 4) rfl (by rw [ez6]; rfl) (by decide) rfl (fun ls hl => ?_)
                refine lv_goto (tgt := 20) hx hb dX9_enough_81 (by decide) ?_
                exact ih20 y30_2 y30_3 z6 _ (by omega) (by omega) (by omega) (lv_sub hl [1, 2, 3, 4, 0] rfl)
              · have dc5 : y30_5.toInt < 8 := nleC (show (8 : Int32).toInt = 8 from rfl) rfl c5
                refine lv_iload_n hx hb dX9_enough_37 rfl (lv_at hl 2 rfl) ?_
                refine lv_iload_n hx hb dX9_enough_38 rfl (lv_at hl 1 rfl) ?_
                refine lv_icmp_ge (tgt := 72) hx hb dX9_enough_39 (by decide) (fun c7 => ?_) (fun c7 => ?_)
                · have dc7 : co.toInt ≤ y30_2.toInt := leC rfl rfl c7
                  obtain ⟨z8, ez8⟩ : ∃ y : Int32, y = y30_5 + 1 := ⟨_, rfl⟩
                  have iz8 : z8.toInt = y30_5.toInt + 1 := by rw [ez8]; exact addC rfl rfl (by omega) (by omega)
                  refine lv_iinc (v := z8) (lv' := [(5, .int z8), (0, .ref (a 43)), (1, .int co), (2, .int y30_2), (3, .int y30_3), (4, .int y20_4)]) hx hb dX9_enough_72 hl (k := 5) rfl (by rw [ez8]; rfl) (by decide) rfl (fun ls hl => ?_)
                  refine lv_goto (tgt := 30) hx hb dX9_enough_75 (by decide) ?_
                  exact ih30 y30_2 y30_3 z8 _ (by omega) (by omega) (by omega) (lv_sub hl [1, 2, 3, 4, 5, 0] rfl)
                · have dc7 : y30_2.toInt < co.toInt := nleC rfl rfl c7
                  refine lv_aload_n hx hb dX9_enough_42 rfl (lv_at hl 0 rfl) ?_
                  refine va_get (D := (dC, dI)) (ci := 9) (v := .ref (a 0)) (C := RX9) (T := TX9) (N := 11) hx hb hts inX9 hown hK hP 0 rfl rfl 0 (by decide) lf12 (fun _ h9 => h9) rfl dX9_enough_43 ?_
                  refine lv_iconst (v := 0) hx hb dX9_enough_46 (by decide) ?_
                  refine lv_iload hx hb dX9_enough_47 (lv_at hl 5 rfl) ?_
                  have kc0 : (0 : Int32).toInt = 0 := rfl
                  refine rdV (As := [.int 0, .int y30_5]) (rest := []) ⟨hx, hb, hml, hown, hts⟩ (k_X8_between l dC dI cI cZ cQ a few doo (0 : Int32) y30_5 (by omega) (by omega) (by omega) (by omega)) (cwV 2 hts gX9_enough_X8_between rfl rfl rfl (by decide +kernel) ⟨Nat.le_of_ble_eq_true rfl, Nat.le_of_ble_eq_true rfl⟩) hP hK hN [1, 2] rfl 1 8 rfl rfl rfl hl.1 rfl (Nat.le_of_ble_eq_true rfl) dX9_enough_49 ⟨Nat.le_of_ble_eq_true rfl, Nat.le_of_ble_eq_true rfl⟩ (fun r9 h10 => ?_)
                  have h10 : True := h10
                  refine lv_iload hx hb dX9_enough_52 (lv_at hl 4 rfl) ?_
                  refine lv_icmp_ne (tgt := 72) hx hb dX9_enough_54 (by decide) (fun c11 => ?_) (fun c11 => ?_)
                  · have dc11 : r9.toInt ≠ y20_4.toInt := neC rfl rfl c11
                    obtain ⟨z12, ez12⟩ : ∃ y : Int32, y = y30_5 + 1 := ⟨_, rfl⟩
                    have iz12 : z12.toInt = y30_5.toInt + 1 := by rw [ez12]; exact addC rfl rfl (by omega) (by omega)
                    refine lv_iinc (v := z12) (lv' := [(5, .int z12), (0, .ref (a 43)), (1, .int co), (2, .int y30_2), (3, .int y30_3), (4, .int y20_4)]) hx hb dX9_enough_72 hl (k := 5) rfl (by rw [ez12]; rfl) (by decide) rfl (fun ls hl => ?_)
                    refine lv_goto (tgt := 30) hx hb dX9_enough_75 (by decide) ?_
                    exact ih30 y30_2 y30_3 z12 _ (by omega) (by omega) (by omega) (lv_sub hl [1, 2, 3, 4, 5, 0] rfl)
                  · have dc11 : r9.toInt = y20_4.toInt := eqC rfl rfl c11
                    refine lv_iload_n hx hb dX9_enough_57 rfl (lv_at hl 2 rfl) ?_
                    refine lv_aload_n hx hb dX9_enough_58 rfl (lv_at hl 0 rfl) ?_
                    refine va_get (D := (dC, dI)) (ci := 9) (v := .ref rb0) (C := RX9) (T := TX9) (N := 11) hx hb hts inX9 hown hK hP 0 rfl rfl 9 (by decide) lf76 (fun _ h9 => h9) rfl dX9_enough_59 ?_
                    refine lv_iload hx hb dX9_enough_62 (lv_at hl 5 rfl) ?_
                    refine rdV (As := [.int y30_5]) (rest := [.int y30_2]) ⟨hx, hb, hml, hown, hts⟩ (k_X5_cornersToUse l dC dI cI cZ cQ rb0 rb1 rb2 mos wev aga apa lin y30_5 (by omega) (by omega)) (cwV 1 hts gX9_enough_X5_cornersToUse rfl rfl rfl (by decide +kernel) ⟨Nat.le_of_ble_eq_true rfl, Nat.le_of_ble_eq_true rfl⟩) hP hK hN [3, 4, 5] rfl 3 5 rfl rfl rfl hl.1 rfl (Nat.le_of_ble_eq_true rfl) dX9_enough_64 ⟨Nat.le_of_ble_eq_true rfl, Nat.le_of_ble_eq_true rfl⟩ (fun r13 h14 => ?_)
                    have h14 : True := h14
                    refine lv_iadd hx hb dX9_enough_67 ?_
                    refine lv_topi (fun x15 ex15 => ?_)
                    have ix15 : x15.toInt = (y30_2 + r13).toInt := by rw [ex15]
                    refine lv_istore_n (lv' := [(2, .int x15), (0, .ref (a 43)), (1, .int co), (3, .int y30_3), (4, .int y20_4), (5, .int y30_5)]) hx hb dX9_enough_68 rfl hl (by decide) rfl (fun ls hl => ?_)
                    obtain ⟨z16, ez16⟩ : ∃ y : Int32, y = y30_3 + 1 := ⟨_, rfl⟩
                    refine lv_iinc (v := z16) (lv' := [(3, .int z16), (2, .int x15), (0, .ref (a 43)), (1, .int co), (4, .int y20_4), (5, .int y30_5)]) hx hb dX9_enough_69 hl (k := 3) rfl (by rw [ez16]; rfl) (by decide) rfl (fun ls hl => ?_)
                    obtain ⟨z17, ez17⟩ : ∃ y : Int32, y = y30_5 + 1 := ⟨_, rfl⟩
                    have iz17 : z17.toInt = y30_5.toInt + 1 := by rw [ez17]; exact addC rfl rfl (by omega) (by omega)
                    refine lv_iinc (v := z17) (lv' := [(5, .int z17), (3, .int z16), (2, .int x15), (0, .ref (a 43)), (1, .int co), (4, .int y20_4)]) hx hb dX9_enough_72 hl (k := 5) rfl (by rw [ez17]; rfl) (by decide) rfl (fun ls hl => ?_)
                    refine lv_goto (tgt := 30) hx hb dX9_enough_75 (by decide) ?_
                    exact ih30 x15 z16 z17 _ (by omega) (by omega) (by omega) (lv_sub hl [3, 4, 2, 1, 5, 0] rfl)
          have kc18 : (0 : Int32).toInt = 0 := rfl
          exact L30 _ y20_2 y20_3 0 _ (by omega) (by omega) (Nat.lt_succ_self _) (lv_sub hl [1, 2, 3, 4, 5, 0] rfl)
    have kc19 : (0 : Int32).toInt = 0 := rfl
    exact L20 _ 0 0 0 _ (by omega) (by omega) (Nat.lt_succ_self _) (lv_sub hl [3, 4, 2, 1, 0] rfl)
  · refine lv_if_ne (tgt := 13) hx hb dX9_enough_7 (by decide) (fun c9 => absurd (by decide) c9) (fun _ => ?_)
    refine lv_bipush (v := (-3)) hx hb dX9_enough_10 (by decide) ?_
    exact W.iret (v := (-3)) hx hb hr (fun tq ht hW => ⟨(-3), rfl, trivial, ht⟩) (fun q h => by cases h) dX9_enough_12
set_option maxHeartbeats 4000000 in
set_option maxRecDepth 100000 in
theorem k_X9_filled (l : Launch) (dC : Nat → ClassId) (dI : Nat → Nat → Nat) (cI cZ cQ : ClassId) (ar0 : Nat) (ln : Nat) (fv : Nat → Int32) (q0 : ln ≤ 2048) : KR l yX9_filled wsX9_filled { frames := 0, cells := 0, slots := 0, locals := 0 } (dC, dI) (TY cI cZ cQ) (wArr cI cZ cQ ar0 ln fv) [.ref ar0] (fun r : Int32 => True) := by
  refine Met.ofW (cc := cX9_filled) (maxL := 6) (ret := (some .int)) (by decide) rfl ?_
  intro p e s m args below meth c s₁ B hml hv
  obtain ⟨rfl, hP, hK, hN⟩ := hv
  have hx := B.exec
  have hb := B.bytes
  have hr := B.returns
  have hts := atoms_spec (ws := wsX9_filled) B.pre
  have hown : s.vm.findClass RX9 = some m.cls := findClass_of_methodNamed B.named
  have hlocks := B.notSynchronized
  have hl := lv_entry ([.ref ar0]) (n := 6) (Nat.le_of_ble_eq_true rfl)
  rw [lg_entry_eq]
  generalize (lg_sl ([.ref ar0]) ++ List.replicate (6 - (lg_sl ([.ref ar0])).length) Slot.unset).toArray = ls at hl ⊢
  have hl : lv_has ls 6 [(0, .ref ar0)] := hl
  refine lv_iconst (v := 0) hx hb dX9_filled_0 (by decide) ?_
  refine lv_istore_n (lv' := [(1, .int 0), (0, .ref ar0)]) hx hb dX9_filled_1 rfl hl (by decide) rfl (fun ls hl => ?_)
  refine lv_aload_n hx hb dX9_filled_2 rfl (lv_at hl 1 rfl) ?_
  refine lv_astore_n (lv' := [(2, .ref ar0), (1, .int 0), (0, .ref ar0)]) hx hb dX9_filled_3 rfl hl (by decide) rfl (fun ls hl => ?_)
  refine lv_aload_n hx hb dX9_filled_4 rfl (lv_at hl 0 rfl) ?_
  refine va_alen (v := nI ln) hx hb hK hP 0 0 rfl rfl rfl dX9_filled_5 ?_
  refine lv_topi (fun x1 ex1 => ?_)
  have ix1 : x1.toInt = (ln : Int) := by rw [ex1]; exact (nI_toInt (by omega))
  refine lv_istore_n (lv' := [(3, .int x1), (2, .ref ar0), (1, .int 0), (0, .ref ar0)]) hx hb dX9_filled_6 rfl hl (by decide) rfl (fun ls hl => ?_)
  refine lv_iconst (v := 0) hx hb dX9_filled_7 (by decide) ?_
  refine lv_istore (lv' := [(4, .int 0), (3, .int x1), (2, .ref ar0), (1, .int 0), (0, .ref ar0)]) hx hb dX9_filled_8 hl (by decide) rfl (fun ls hl => ?_)
  have L10 : ∀ (nn : Nat) (y10_1 : Int32) (y10_4 : Int32) (ls : Array Slot), (0 ≤ (y10_4.toInt)) → ((y10_4.toInt) ≤ 2048) → (2048 - (y10_4.toInt)).toNat < nn → lv_has ls 6 [(1, .int y10_1), (2, .ref ar0), (3, .int x1), (4, .int y10_4)] → W p l e (headSpec wsX9_filled { frames := 0, cells := 0, slots := 0, locals := 0 }).room s m ([.ref ar0] : List Value).toArray below meth c s.heap [] 0 0 (MQ below (QR (fun r : Int32 => True)) ([.ref ar0] : List Value).toArray s 0 0 (fun _ => False)) (F0 m 10 ls []) := by
    intro nn
    induction nn with
    | zero =>
      intro y10_1 y10_4 ls i10_0 i10_1 hm10
      exact absurd hm10 (Nat.not_lt_zero _)
    | succ nn ih10 =>
      intro y10_1 y10_4 ls i10_0 i10_1 hm10 hl
      refine lv_iload hx hb dX9_filled_10 (lv_at hl 3 rfl) ?_
      refine lv_iload_n hx hb dX9_filled_12 rfl (lv_at hl 2 rfl) ?_
      refine lv_icmp_ge (tgt := 37) hx hb dX9_filled_13 (by decide) (fun c2 => ?_) (fun c2 => ?_)
      · have dc2 : x1.toInt ≤ y10_4.toInt := leC rfl rfl c2
        refine lv_iload_n hx hb dX9_filled_37 rfl (lv_at hl 0 rfl) ?_
        exact W.iret (v := y10_1) hx hb hr (fun tq ht hW => ⟨y10_1, rfl, trivial, ht⟩) (fun q h => by cases h) dX9_filled_38
      · have dc2 : y10_4.toInt < x1.toInt := nleC rfl rfl c2
        refine lv_aload_n hx hb dX9_filled_16 rfl (lv_at hl 1 rfl) ?_
        refine lv_iload hx hb dX9_filled_17 (lv_at hl 3 rfl) ?_
        have b3 : vp_in y10_4 ln := inC rfl (by omega) (by omega)
        refine va_iald hx hb hK hP 0 0 rfl rfl b3 dX9_filled_19 ?_
        refine lv_topi (fun x4 ex4 => ?_)
        have ix4 : x4.toInt = (fv y10_4.toNatClampNeg).toInt := by rw [ex4]
        refine lv_istore (lv' := [(5, .int x4), (1, .int y10_1), (2, .ref ar0), (3, .int x1), (4, .int y10_4)]) hx hb dX9_filled_20 hl (by decide) rfl (fun ls hl => ?_)
        refine lv_iload hx hb dX9_filled_22 (lv_at hl 0 rfl) ?_
        refine lv_iconst (v := (-1)) hx hb dX9_filled_24 (by decide) ?_
        refine lv_icmp_eq (tgt := 31) hx hb dX9_filled_25 (by decide) (fun c5 => ?_) (fun c5 => ?_)
        · have dc5 : x4.toInt = (-1) := eqC rfl (show ((-1) : Int32).toInt = (-1) from rfl) c5
          obtain ⟨z6, ez6⟩ : ∃ y : Int32, y = y10_4 + 1 := ⟨_, rfl⟩
          have iz6 : z6.toInt = y10_4.toInt + 1 := by rw [ez6]; exact addC rfl rfl (by omega) (by omega)
          refine lv_iinc (v := z6) (lv' := [(4, .int z6), (5, .int x4), (1, .int y10_1), (2, .ref ar0), (3, .int x1)]) hx hb dX9_filled_31 hl (k := 4) rfl (by rw [ez6]; rfl) (by decide) rfl (fun ls hl => ?_)
          refine lv_goto (tgt := 10) hx hb dX9_filled_34 (by decide) ?_
          exact ih10 y10_1 z6 _ (by omega) (by omega) (by omega) (lv_sub hl [2, 3, 4, 0] rfl)
        · have dc5 : x4.toInt ≠ (-1) := neC rfl (show ((-1) : Int32).toInt = (-1) from rfl) c5
          obtain ⟨z7, ez7⟩ : ∃ y : Int32, y = y10_1 + 1 := ⟨_, rfl⟩
          refine lv_iinc (v := z7) (lv' := [(1, .int z7), (5, .int x4), (2, .ref ar0), (3, .int x1), (4, .int y10_4)]) hx hb dX9_filled_28 hl (k := 1) rfl (by rw [ez7]; rfl) (by decide) rfl (fun ls hl => ?_)
          obtain ⟨z8, ez8⟩ : ∃ y : Int32, y = y10_4 + 1 := ⟨_, rfl⟩
          have iz8 : z8.toInt = y10_4.toInt + 1 := by rw [ez8]; exact addC rfl rfl (by omega) (by omega)
          refine lv_iinc (v := z8) (lv' := [(4, .int z8), (1, .int z7), (5, .int x4), (2, .ref ar0), (3, .int x1)]) hx hb dX9_filled_31 hl (k := 4) rfl (by rw [ez8]; rfl) (by decide) rfl (fun ls hl => ?_)
          refine lv_goto (tgt := 10) hx hb dX9_filled_34 (by decide) ?_
          exact ih10 z7 z8 _ (by omega) (by omega) (by omega) (lv_sub hl [1, 3, 4, 0] rfl)
  have kc9 : (0 : Int32).toInt = 0 := rfl
  exact L10 _ 0 0 _ (by omega) (by omega) (Nat.lt_succ_self _) (lv_sub hl [3, 2, 1, 0] rfl)
set_option maxHeartbeats 4000000 in
set_option maxRecDepth 100000 in
theorem k_X9_count (l : Launch) (dC : Nat → ClassId) (dI : Nat → Nat → Nat) (cI cZ cQ : ClassId) (a : Nat → Nat) (rb0 : Nat) (rb1 : Nat) (rb2 : Nat) (db0 : Nat) (db1 : Nat) (db2 : Nat) (top : Nat → Int32) (str : Nat → Int32) (gho : Nat → Int32) (ghs : Nat → Int32) (pto : Nat → Int32) (cro : Nat → Int32) (pla : Nat → Int32) (wal : Nat → Int32) (fal : Nat → Int32) (tel : Int32) (gai : Int32) (day : Int32) (mar : Nat → Int32) (few : Nat → Int32) (doo : Int32) (byt : Nat → Int32) (len : Int32) (tst : Int32) (ten : Int32) (mos : Nat → Int32) (wev : Nat → Int32) (aga : Int32) (apa : Int32) (lin : Int32) (wh : Int32) (r_top : rg 48 (-1) (23) top) (r_str : rg 48 (0) (100) str) (r_gho : rg 48 (-1) (23) gho) (r_ghs : rg 48 (0) (100) ghs) (r_cro : rg 48 (0) (6) cro) (r_pla : rg 24 (-1) (47) pla) (r_fal : rg 11 (0) (30) fal) (r_gai : 0 ≤ gai.toInt ∧ gai.toInt ≤ 100) (r_day : 0 ≤ day.toInt ∧ day.toInt ≤ 400) (r_mar : rg 24 (0) (255) mar) (r_len : 0 ≤ len.toInt ∧ len.toInt ≤ 160) (r_tst : 0 ≤ tst.toInt ∧ tst.toInt ≤ 160) (r_ten : 0 ≤ ten.toInt ∧ ten.toInt ≤ 160) : KR l yX9_count wsX9_count { frames := 1, cells := 0, slots := 0, locals := 25 } (dC, dI) (TY cI cZ cQ) (wsAl cI cZ cQ a rb0 rb1 rb2 db0 db1 db2 top str gho ghs pto cro pla wal fal tel gai day mar few doo byt len tst ten mos wev aga apa lin) [.ref (a 43), .int wh] (fun r : Int32 => True) := by
  refine Met.ofW (cc := cX9_count) (maxL := 2) (ret := (some .int)) (by decide) rfl ?_
  intro p e s m args below meth c s₁ B hml hv
  obtain ⟨rfl, hP, hK, hN⟩ := hv
  have hx := B.exec
  have hb := B.bytes
  have hr := B.returns
  have hts := atoms_spec (ws := wsX9_count) B.pre
  have hown : s.vm.findClass RX9 = some m.cls := findClass_of_methodNamed B.named
  have hlocks := B.notSynchronized
  have lf28 := hts (.fieldLink RX9 28 "PalaceOfRooms" "corners" "LPalaceOfRooms$Corners;") (by decide +kernel)
  have inX9 : ∀ w ∈ wsX90, w ∈ wsX9_count := by decide +kernel
  have lf153 := hN.use (w := .fieldLinkNest "PalaceOfRooms" 153 "PalaceOfRooms$Corners" "day" "I" "PalaceOfRooms") (by decide +kernel) ([.ref (a 43), .int wh] : List Value).toArray
  have inX1 : ∀ w ∈ wsX10, w ∈ wsX9_count := by decide +kernel
  have lf12 := hts (.fieldLink RX9 12 "PalaceOfRooms" "ways" "LPalaceOfRooms$Ways;") (by decide +kernel)
  have lf91 := hN.use (w := .fieldLinkNest "PalaceOfRooms" 91 "PalaceOfRooms$Ways" "doors" "I" "PalaceOfRooms") (by decide +kernel) ([.ref (a 43), .int wh] : List Value).toArray
  have inX8 : ∀ w ∈ wsX80, w ∈ wsX9_count := by decide +kernel
  have lf131 := hN.use (w := .fieldLinkNest "PalaceOfRooms" 131 "PalaceOfRooms$Corners" "top" "[I" "PalaceOfRooms") (by decide +kernel) ([.ref (a 43), .int wh] : List Value).toArray
  have lf144 := hN.use (w := .fieldLinkNest "PalaceOfRooms" 144 "PalaceOfRooms$Corners" "ghost" "[I" "PalaceOfRooms") (by decide +kernel) ([.ref (a 43), .int wh] : List Value).toArray
  have lf35 := hts (.fieldLink RX9 35 "PalaceOfRooms" "text" "LPalaceOfRooms$Text;") (by decide +kernel)
  have lf163 := hN.use (w := .fieldLinkNest "PalaceOfRooms" 163 "PalaceOfRooms$Text" "length" "I" "PalaceOfRooms") (by decide +kernel) ([.ref (a 43), .int wh] : List Value).toArray
  have inX7 : ∀ w ∈ wsX70, w ∈ wsX9_count := by decide +kernel
  have lf76 := hts (.fieldLink RX9 76 "PalaceOfRooms" "rules" "LPalaceOfRooms$RuleBook;") (by decide +kernel)
  have lf174 := hN.use (w := .fieldLinkNest "PalaceOfRooms" 174 "PalaceOfRooms$RuleBook" "lines" "I" "PalaceOfRooms") (by decide +kernel) ([.ref (a 43), .int wh] : List Value).toArray
  have inX5 : ∀ w ∈ wsX50, w ∈ wsX9_count := by decide +kernel
  have hl := lv_entry ([.ref (a 43), .int wh]) (n := 2) (Nat.le_of_ble_eq_true rfl)
  rw [lg_entry_eq]
  generalize (lg_sl ([.ref (a 43), .int wh]) ++ List.replicate (2 - (lg_sl ([.ref (a 43), .int wh])).length) Slot.unset).toArray = ls at hl ⊢
  have hl : lv_has ls 2 [(0, .ref (a 43)), (1, .int wh)] := hl
  refine lv_iload_n hx hb dX9_count_0 rfl (lv_at hl 1 rfl) ?_
  by_cases w1 : wh = 0
  · have dw1 : wh.toInt = 0 := eqC rfl rfl w1
    refine lv_tableIn (off := 43) (tgt := 44) hx hb dX9_count_1 (by rw [w1]; decide) (by rw [w1]; decide) (by rw [w1]; decide) (by decide) ?_
    refine lv_aload_n hx hb dX9_count_44 rfl (lv_at hl 0 rfl) ?_
    refine va_get (D := (dC, dI)) (ci := 9) (v := .ref (a 4)) (C := RX9) (T := TX9) (N := 11) hx hb hts inX9 hown hK hP 0 rfl rfl 2 (by decide) lf28 (fun _ h9 => h9) rfl dX9_count_45 ?_
    refine va_getN (D := (dC, dI)) (ci := 1) (v := .int day) (C := RX1) (T := TX1) (N := 13) hx hb hts inX1 hown hK hP 1 rfl rfl 12 (by decide) lf153 (fun _ h9 => h9) rfl dX9_count_48 ?_
    exact W.iret (v := day) hx hb hr (fun tq ht hW => ⟨day, rfl, trivial, ht⟩) (fun q h => by cases h) dX9_count_51
  by_cases w2 : wh = 1
  · have dw2 : wh.toInt = 1 := eqC rfl rfl w2
    refine lv_tableIn (off := 51) (tgt := 52) hx hb dX9_count_1 (by rw [w2]; decide) (by rw [w2]; decide) (by rw [w2]; decide) (by decide) ?_
    refine lv_aload_n hx hb dX9_count_52 rfl (lv_at hl 0 rfl) ?_
    refine va_get (D := (dC, dI)) (ci := 9) (v := .ref (a 0)) (C := RX9) (T := TX9) (N := 11) hx hb hts inX9 hown hK hP 0 rfl rfl 0 (by decide) lf12 (fun _ h9 => h9) rfl dX9_count_53 ?_
    refine va_getN (D := (dC, dI)) (ci := 8) (v := .int doo) (C := RX8) (T := TX8) (N := 2) hx hb hts inX8 hown hK hP 13 rfl rfl 1 (by decide) lf91 (fun _ h9 => h9) rfl dX9_count_56 ?_
    exact W.iret (v := doo) hx hb hr (fun tq ht hW => ⟨doo, rfl, trivial, ht⟩) (fun q h => by cases h) dX9_count_59
  by_cases w3 : wh = 2
  · have dw3 : wh.toInt = 2 := eqC rfl rfl w3
    refine lv_tableIn (off := 59) (tgt := 60) hx hb dX9_count_1 (by rw [w3]; decide) (by rw [w3]; decide) (by rw [w3]; decide) (by decide) ?_
    refine lv_aload_n hx hb dX9_count_60 rfl (lv_at hl 0 rfl) ?_
    refine va_get (D := (dC, dI)) (ci := 9) (v := .ref (a 4)) (C := RX9) (T := TX9) (N := 11) hx hb hts inX9 hown hK hP 0 rfl rfl 2 (by decide) lf28 (fun _ h9 => h9) rfl dX9_count_61 ?_
    refine va_getN (D := (dC, dI)) (ci := 1) (v := .ref (a 5)) (C := RX1) (T := TX1) (N := 13) hx hb hts inX1 hown hK hP 1 rfl rfl 1 (by decide) lf131 (fun _ h9 => h9) rfl dX9_count_64 ?_
    refine rdS (As := [.ref (a 5)]) (rest := []) ⟨hx, hb, hml, hown, hts⟩ (k_X9_filled l dC dI cI cZ cQ (a 5) 48 top (by omega)) (va_cwS 1 hts gX9_count_X9_filled rfl rfl rfl (by decide +kernel) ⟨Nat.le_of_ble_eq_true rfl, Nat.le_of_ble_eq_true rfl⟩) hP hK hN [2] rfl rfl hl.1 rfl (Nat.le_of_ble_eq_true rfl) dX9_count_67 ⟨Nat.le_of_ble_eq_true rfl, Nat.le_of_ble_eq_true rfl⟩ (fun r4 h5 => ?_)
    have h5 : True := h5
    exact W.iret (v := r4) hx hb hr (fun tq ht hW => ⟨r4, rfl, trivial, ht⟩) (fun q h => by cases h) dX9_count_70
  by_cases w6 : wh = 3
  · have dw6 : wh.toInt = 3 := eqC rfl rfl w6
    refine lv_tableIn (off := 70) (tgt := 71) hx hb dX9_count_1 (by rw [w6]; decide) (by rw [w6]; decide) (by rw [w6]; decide) (by decide) ?_
    refine lv_aload_n hx hb dX9_count_71 rfl (lv_at hl 0 rfl) ?_
    refine va_get (D := (dC, dI)) (ci := 9) (v := .ref (a 4)) (C := RX9) (T := TX9) (N := 11) hx hb hts inX9 hown hK hP 0 rfl rfl 2 (by decide) lf28 (fun _ h9 => h9) rfl dX9_count_72 ?_
    refine va_getN (D := (dC, dI)) (ci := 1) (v := .ref (a 7)) (C := RX1) (T := TX1) (N := 13) hx hb hts inX1 hown hK hP 1 rfl rfl 3 (by decide) lf144 (fun _ h9 => h9) rfl dX9_count_75 ?_
    refine rdS (As := [.ref (a 7)]) (rest := []) ⟨hx, hb, hml, hown, hts⟩ (k_X9_filled l dC dI cI cZ cQ (a 7) 48 gho (by omega)) (va_cwS 1 hts gX9_count_X9_filled rfl rfl rfl (by decide +kernel) ⟨Nat.le_of_ble_eq_true rfl, Nat.le_of_ble_eq_true rfl⟩) hP hK hN [4] rfl rfl hl.1 rfl (Nat.le_of_ble_eq_true rfl) dX9_count_78 ⟨Nat.le_of_ble_eq_true rfl, Nat.le_of_ble_eq_true rfl⟩ (fun r7 h8 => ?_)
    have h8 : True := h8
    exact W.iret (v := r7) hx hb hr (fun tq ht hW => ⟨r7, rfl, trivial, ht⟩) (fun q h => by cases h) dX9_count_81
  by_cases w9 : wh = 4
  · have dw9 : wh.toInt = 4 := eqC rfl rfl w9
    refine lv_tableIn (off := 81) (tgt := 82) hx hb dX9_count_1 (by rw [w9]; decide) (by rw [w9]; decide) (by rw [w9]; decide) (by decide) ?_
    refine lv_aload_n hx hb dX9_count_82 rfl (lv_at hl 0 rfl) ?_
    refine va_get (D := (dC, dI)) (ci := 9) (v := .ref (a 4)) (C := RX9) (T := TX9) (N := 11) hx hb hts inX9 hown hK hP 0 rfl rfl 2 (by decide) lf28 (fun _ h9 => h9) rfl dX9_count_83 ?_
    refine rdV (As := []) (rest := []) ⟨hx, hb, hml, hown, hts⟩ (k_X1_allStrength l dC dI cI cZ cQ a top str gho ghs pto cro pla wal fal tel gai day mar r_top r_str r_gho r_ghs r_cro r_pla r_fal r_gai r_day r_mar) (cwV 0 hts gX9_count_X1_allStrength rfl rfl rfl (by decide +kernel) ⟨Nat.le_of_ble_eq_true rfl, Nat.le_of_ble_eq_true rfl⟩) hP hK hN [1, 2, 3, 4, 5, 6, 7, 8, 9, 10, 11, 12] rfl 1 1 rfl rfl rfl hl.1 rfl (Nat.le_of_ble_eq_true rfl) dX9_count_86 ⟨Nat.le_of_ble_eq_true rfl, Nat.le_of_ble_eq_true rfl⟩ (fun r10 h11 => ?_)
    have h11 : True := h11
    exact W.iret (v := r10) hx hb hr (fun tq ht hW => ⟨r10, rfl, trivial, ht⟩) (fun q h => by cases h) dX9_count_89
  by_cases w12 : wh = 5
  · have dw12 : wh.toInt = 5 := eqC rfl rfl w12
    refine lv_tableIn (off := 89) (tgt := 90) hx hb dX9_count_1 (by rw [w12]; decide) (by rw [w12]; decide) (by rw [w12]; decide) (by decide) ?_
    refine lv_aload_n hx hb dX9_count_90 rfl (lv_at hl 0 rfl) ?_
    refine va_get (D := (dC, dI)) (ci := 9) (v := .ref (a 14)) (C := RX9) (T := TX9) (N := 11) hx hb hts inX9 hown hK hP 0 rfl rfl 3 (by decide) lf35 (fun _ h9 => h9) rfl dX9_count_91 ?_
    refine va_getN (D := (dC, dI)) (ci := 7) (v := .int len) (C := RX7) (T := TX7) (N := 4) hx hb hts inX7 hown hK hP 15 rfl rfl 1 (by decide) lf163 (fun _ h9 => h9) rfl dX9_count_94 ?_
    exact W.iret (v := len) hx hb hr (fun tq ht hW => ⟨len, rfl, trivial, ht⟩) (fun q h => by cases h) dX9_count_97
  by_cases w13 : wh = 6
  · have dw13 : wh.toInt = 6 := eqC rfl rfl w13
    refine lv_tableIn (off := 97) (tgt := 98) hx hb dX9_count_1 (by rw [w13]; decide) (by rw [w13]; decide) (by rw [w13]; decide) (by decide) ?_
    refine lv_aload_n hx hb dX9_count_98 rfl (lv_at hl 0 rfl) ?_
    refine va_get (D := (dC, dI)) (ci := 9) (v := .ref rb0) (C := RX9) (T := TX9) (N := 11) hx hb hts inX9 hown hK hP 0 rfl rfl 9 (by decide) lf76 (fun _ h9 => h9) rfl dX9_count_99 ?_
    refine va_getN (D := (dC, dI)) (ci := 5) (v := .int lin) (C := RX5) (T := TX5) (N := 5) hx hb hts inX5 hown hK hP 17 rfl rfl 4 (by decide) lf174 (fun _ h9 => h9) rfl dX9_count_102 ?_
    exact W.iret (v := lin) hx hb hr (fun tq ht hW => ⟨lin, rfl, trivial, ht⟩) (fun q h => by cases h) dX9_count_105
  have nw1 : wh.toInt ≠ 0 := neC rfl rfl w1
  have nw2 : wh.toInt ≠ 1 := neC rfl rfl w2
  have nw3 : wh.toInt ≠ 2 := neC rfl rfl w3
  have nw6 : wh.toInt ≠ 3 := neC rfl rfl w6
  have nw9 : wh.toInt ≠ 4 := neC rfl rfl w9
  have nw12 : wh.toInt ≠ 5 := neC rfl rfl w12
  have nw13 : wh.toInt ≠ 6 := neC rfl rfl w13
  have o1 : wh.toInt < 0 ∨ 6 < wh.toInt := by rw [show wh.toInt = wh.toInt from rfl]; omega
  refine lv_tableOut (tgt := 106) hx hb dX9_count_1 o1 (by decide) ?_
  refine lv_bipush (v := (-3)) hx hb dX9_count_106 (by decide) ?_
  exact W.iret (v := (-3)) hx hb hr (fun tq ht hW => ⟨(-3), rfl, trivial, ht⟩) (fun q h => by cases h) dX9_count_108
