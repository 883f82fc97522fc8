set_option maxHeartbeats 4000000 in
set_option maxRecDepth 100000 in
theorem k_X9_pupil2 (l : Launch) (dC : Nat → ClassId) (dI : Nat → Nat → Nat) (cI cZ cQ : ClassId) (a : Nat → Nat) (rb0 : Nat) (rb1 : Nat) (rb2 : Nat) (db0 : Nat) (db1 : Nat) (db2 : Nat) (agr0 : Nat → Int32) (ans0 : Int32) (agr1 : Nat → Int32) (ans1 : Int32) (agr2 : Nat → Int32) (ans2 : Int32) (agr3 : Nat → Int32) (ans3 : Int32) (pp : Int32) (wh : Int32) (r_ans0 : 0 ≤ ans0.toInt ∧ ans0.toInt ≤ 12) (r_ans1 : 0 ≤ ans1.toInt ∧ ans1.toInt ≤ 12) (r_ans2 : 0 ≤ ans2.toInt ∧ ans2.toInt ≤ 12) (r_ans3 : 0 ≤ ans3.toInt ∧ ans3.toInt ≤ 12) : KR l yX9_pupil wsX9_pupil { frames := 4, cells := 0, slots := 0, locals := 88 } (dC, dI) (TY cI cZ cQ) (wsPu cI cZ cQ a rb0 rb1 rb2 db0 db1 db2 agr0 ans0 agr1 ans1 agr2 ans2 agr3 ans3) [.ref (a 43), .int pp, .int wh] (fun r : Int32 => (spPup (gF agr0 agr1 agr2 agr3 pp.toNatClampNeg) (aF ans0 ans1 ans2 ans3 pp.toNatClampNeg) 82 pp wh r)) := by
  refine Met.ofW (cc := cX9_pupil) (maxL := 4) (ret := (some .int)) (by decide) rfl ?_
  intro p e s m args below meth c s₁ B hml hv
  obtain ⟨rfl, hP, hK, hN⟩ := hv
  have hx := B.exec
  have hb := B.bytes
  have hr := B.returns
  have hts := atoms_spec (ws := wsX9_pupil) B.pre
  have hown : s.vm.findClass RX9 = some m.cls := findClass_of_methodNamed B.named
  have hlocks := B.notSynchronized
  have lf64 := hts (.fieldLink RX9 64 "PalaceOfRooms" "pupils" "[LPalaceOfRooms$Pupil;") (List.mem_cons_of_mem _ (List.mem_append_left _ (List.mem_append_left _ (List.mem_append_left _ (List.mem_of_getElem? (i := 0) rfl)))))
  have inX9 : ∀ w ∈ wsX90, w ∈ wsX9_pupil := fun w h => List.mem_cons_of_mem _ (List.mem_append_left _ (List.mem_append_right _ h))
  have hl := lv_entry ([.ref (a 43), .int pp, .int wh]) (n := 4) (Nat.le_of_ble_eq_true rfl)
  rw [lg_entry_eq]
  generalize (lg_sl ([.ref (a 43), .int pp, .int wh]) ++ List.replicate (4 - (lg_sl ([.ref (a 43), .int pp, .int wh])).length) Slot.unset).toArray = ls at hl ⊢
  have hl : lv_has ls 4 [(0, .ref (a 43)), (1, .int pp), (2, .int wh)] := hl
  refine lv_iload_n hx hb dX9_pupil_0 rfl (lv_at hl 1 rfl) ?_
  refine lv_iconst (v := 0) hx hb dX9_pupil_1 (by decide) ?_
  refine lv_iconst (v := 3) hx hb dX9_pupil_2 (by decide) ?_
  refine rdS (As := [.int pp, .int 0, .int 3]) (rest := []) ⟨hx, hb, hml, hown, hts⟩ (k_X9_within l dC dI cI cZ cQ pp (0 : Int32) (3 : Int32)) (va_cwS 3 hts gX9_pupil_X9_within rfl rfl rfl (by decide +kernel) ⟨Nat.le_of_ble_eq_true rfl, Nat.le_of_ble_eq_true rfl⟩) hP hK hN [] rfl rfl hl.1 rfl (Nat.le_of_ble_eq_true rfl) dX9_pupil_3 ⟨Nat.le_of_ble_eq_true rfl, Nat.le_of_ble_eq_true rfl⟩ (fun r1 h2 => ?_)
  have h2 : ((((r1 = 1) ∧ ((0) ≤ pp.toInt) ∧ (pp.toInt ≤ (3))) ∨ ((r1 = 0) ∧ (pp.toInt < (0) ∨ (3) < pp.toInt)))) := h2
  rcases h2 with (⟨rfl, h2_a0, h2_a1⟩ | ⟨rfl, h2_a0⟩)
  · refine lv_if_ne (tgt := 12) hx hb dX9_pupil_6 (by decide) (fun _ => ?_) (fun c9 => absurd c9 (by decide))
    have hc3 : pp = 0 ∨ pp = 1 ∨ pp = 2 ∨ pp = 3 := by exact ci4 rfl (by omega)
    rcases hc3 with rfl | rfl | rfl | rfl
    · have kc4 : (0 : Int32).toInt = 0 := rfl
      refine lv_aload_n hx hb dX9_pupil_12 rfl (lv_at hl 0 rfl) ?_
      refine va_get (D := (dC, dI)) (ci := 9) (v := .ref (a 33)) (C := RX9) (T := TX9) (N := 11) hx hb hts inX9 hown hK hP 0 rfl rfl 7 (by decide) lf64 (fun _ h9 => h9) rfl dX9_pupil_13 ?_
      refine lv_iload_n hx hb dX9_pupil_16 rfl (lv_at hl 1 rfl) ?_
      have b5 : vp_in 0 4 := (show ¬ _ from by decide)
      refine va_aldq hx hb hK hP 1 2 rfl rfl b5 dX9_pupil_17 ?_
      refine W.eq (g2 := F0 m 18 ls [.ref (a 34)]) rfl ?_
      refine lv_astore_n (lv' := [(3, .ref (a 34)), (0, .ref (a 43)), (1, .int 0), (2, .int wh)]) hx hb dX9_pupil_18 rfl hl (by decide) rfl (fun ls hl => ?_)
      refine lv_iload_n hx hb dX9_pupil_19 rfl (lv_at hl 3 rfl) ?_
      by_cases w6 : wh = 0
      · have dw6 : wh.toInt = 0 := eqC rfl rfl w6
        refine lv_tableIn (off := 32) (tgt := 52) hx hb dX9_pupil_20 (by rw [w6]; decide) (by rw [w6]; decide) (by rw [w6]; decide) (by decide) ?_
        refine lv_aload_n hx hb dX9_pupil_52 rfl (lv_at hl 0 rfl) ?_
        refine rdV (As := []) (rest := []) ⟨hx, hb, hml, hown, hts⟩ (k_X4_tablesThatMayBe2 l dC dI cI cZ cQ (a 34) (a 35) agr0 ans0 r_ans0) (cwV 0 hts gX9_pupil_X4_tablesThatMayBe rfl rfl rfl (by decide +kernel) ⟨Nat.le_of_ble_eq_true rfl, Nat.le_of_ble_eq_true rfl⟩) hP hK hN [2, 3] rfl 2 4 rfl rfl rfl hl.1 rfl (Nat.le_of_ble_eq_true rfl) dX9_pupil_53 ⟨Nat.le_of_ble_eq_true rfl, Nat.le_of_ble_eq_true rfl⟩ (fun r7 h8 => ?_)
        have h8 : (0 ≤ r7.toInt) ∧ (r7.toInt ≤ 81) ∧ (r7.toInt = mayF agr0 ans0 81) := h8
        obtain ⟨h8_0, h8_1, h8_2⟩ := h8
        exact W.iret (v := r7) hx hb hr (fun tq ht hW => ⟨r7, rfl, (show spPup (gF agr0 agr1 agr2 agr3 (0 : Int32).toNatClampNeg) (aF ans0 ans1 ans2 ans3 (0 : Int32).toNatClampNeg) 82 (0 : Int32) wh r7 from by (first | exact Or.inl ⟨by omega, rfl⟩ | (refine Or.inr ⟨by omega, ?_⟩; first | exact Or.inl ⟨by omega, by assumption⟩ | exact Or.inr (Or.inl ⟨by omega, by assumption⟩) | exact Or.inr (Or.inr (Or.inl ⟨by omega, by assumption⟩)) | exact Or.inr (Or.inr (Or.inr (Or.inl ⟨by omega, by assumption⟩))) | exact Or.inr (Or.inr (Or.inr (Or.inr ⟨by omega, rfl⟩)))))), ht⟩) (fun q h => by cases h) dX9_pupil_56
      by_cases w9 : wh = 1
      · have dw9 : wh.toInt = 1 := eqC rfl rfl w9
        refine lv_tableIn (off := 37) (tgt := 57) hx hb dX9_pupil_20 (by rw [w9]; decide) (by rw [w9]; decide) (by rw [w9]; decide) (by decide) ?_
        refine lv_aload_n hx hb dX9_pupil_57 rfl (lv_at hl 0 rfl) ?_
        refine rdV (As := []) (rest := []) ⟨hx, hb, hml, hown, hts⟩ (k_X4_nameOfLikeliest2 l dC dI cI cZ cQ (a 34) (a 35) agr0 ans0 r_ans0) (cwV 0 hts gX9_pupil_X4_nameOfLikeliest rfl rfl rfl (by decide +kernel) ⟨Nat.le_of_ble_eq_true rfl, Nat.le_of_ble_eq_true rfl⟩) hP hK hN [2, 3] rfl 2 4 rfl rfl rfl hl.1 rfl (Nat.le_of_ble_eq_true rfl) dX9_pupil_58 ⟨Nat.le_of_ble_eq_true rfl, Nat.le_of_ble_eq_true rfl⟩ (fun r10 h11 => ?_)
        have h11 : (r10.toInt = nmL (lkF agr0 80)) := h11
        have h11_0 := h11
        exact W.iret (v := r10) hx hb hr (fun tq ht hW => ⟨r10, rfl, (show spPup (gF agr0 agr1 agr2 agr3 (0 : Int32).toNatClampNeg) (aF ans0 ans1 ans2 ans3 (0 : Int32).toNatClampNeg) 82 (0 : Int32) wh r10 from by (first | exact Or.inl ⟨by omega, rfl⟩ | (refine Or.inr ⟨by omega, ?_⟩; first | exact Or.inl ⟨by omega, by assumption⟩ | exact Or.inr (Or.inl ⟨by omega, by assumption⟩) | exact Or.inr (Or.inr (Or.inl ⟨by omega, by assumption⟩)) | exact Or.inr (Or.inr (Or.inr (Or.inl ⟨by omega, by assumption⟩))) | exact Or.inr (Or.inr (Or.inr (Or.inr ⟨by omega, rfl⟩)))))), ht⟩) (fun q h => by cases h) dX9_pupil_61
      by_cases w12 : wh = 2
      · have dw12 : wh.toInt = 2 := eqC rfl rfl w12
        refine lv_tableIn (off := 42) (tgt := 62) hx hb dX9_pupil_20 (by rw [w12]; decide) (by rw [w12]; decide) (by rw [w12]; decide) (by decide) ?_
        refine lv_aload_n hx hb dX9_pupil_62 rfl (lv_at hl 0 rfl) ?_
        refine rdV (As := []) (rest := []) ⟨hx, hb, hml, hown, hts⟩ (k_X4_agreementOfLikeliest2 l dC dI cI cZ cQ (a 34) (a 35) agr0 ans0 r_ans0) (cwV 0 hts gX9_pupil_X4_agreementOfLikeliest rfl rfl rfl (by decide +kernel) ⟨Nat.le_of_ble_eq_true rfl, Nat.le_of_ble_eq_true rfl⟩) hP hK hN [2, 3] rfl 2 4 rfl rfl rfl hl.1 rfl (Nat.le_of_ble_eq_true rfl) dX9_pupil_63 ⟨Nat.le_of_ble_eq_true rfl, Nat.le_of_ble_eq_true rfl⟩ (fun r13 h14 => ?_)
        have h14 : (r13 = agr0 (lkF agr0 80)) := h14
        have h14_0 := h14
        exact W.iret (v := r13) hx hb hr (fun tq ht hW => ⟨r13, rfl, (show spPup (gF agr0 agr1 agr2 agr3 (0 : Int32).toNatClampNeg) (aF ans0 ans1 ans2 ans3 (0 : Int32).toNatClampNeg) 82 (0 : Int32) wh r13 from by (first | exact Or.inl ⟨by omega, rfl⟩ | (refine Or.inr ⟨by omega, ?_⟩; first | exact Or.inl ⟨by omega, by assumption⟩ | exact Or.inr (Or.inl ⟨by omega, by assumption⟩) | exact Or.inr (Or.inr (Or.inl ⟨by omega, by assumption⟩)) | exact Or.inr (Or.inr (Or.inr (Or.inl ⟨by omega, by assumption⟩))) | exact Or.inr (Or.inr (Or.inr (Or.inr ⟨by omega, rfl⟩)))))), ht⟩) (fun q h => by cases h) dX9_pupil_66
      by_cases w15 : wh = 3
      · have dw15 : wh.toInt = 3 := eqC rfl rfl w15
        refine lv_tableIn (off := 47) (tgt := 67) hx hb dX9_pupil_20 (by rw [w15]; decide) (by rw [w15]; decide) (by rw [w15]; decide) (by decide) ?_
        refine lv_aload_n hx hb dX9_pupil_67 rfl (lv_at hl 0 rfl) ?_
        refine rdV (As := []) (rest := []) ⟨hx, hb, hml, hown, hts⟩ (k_X4_dayThatParts2 l dC dI cI cZ cQ (a 34) (a 35) agr0 ans0 r_ans0) (cwV 0 hts gX9_pupil_X4_dayThatParts rfl rfl rfl (by decide +kernel) ⟨Nat.le_of_ble_eq_true rfl, Nat.le_of_ble_eq_true rfl⟩) hP hK hN [2, 3] rfl 2 4 rfl rfl rfl hl.1 rfl (Nat.le_of_ble_eq_true rfl) dX9_pupil_68 ⟨Nat.le_of_ble_eq_true rfl, Nat.le_of_ble_eq_true rfl⟩ (fun r16 h17 => ?_)
        have h17 : (r16.toInt = dpF agr0 ans0 82) := h17
        have h17_0 := h17
        exact W.iret (v := r16) hx hb hr (fun tq ht hW => ⟨r16, rfl, (show spPup (gF agr0 agr1 agr2 agr3 (0 : Int32).toNatClampNeg) (aF ans0 ans1 ans2 ans3 (0 : Int32).toNatClampNeg) 82 (0 : Int32) wh r16 from by (first | exact Or.inl ⟨by omega, rfl⟩ | (refine Or.inr ⟨by omega, ?_⟩; first | exact Or.inl ⟨by omega, by assumption⟩ | exact Or.inr (Or.inl ⟨by omega, by assumption⟩) | exact Or.inr (Or.inr (Or.inl ⟨by omega, by assumption⟩)) | exact Or.inr (Or.inr (Or.inr (Or.inl ⟨by omega, by assumption⟩))) | exact Or.inr (Or.inr (Or.inr (Or.inr ⟨by omega, rfl⟩)))))), ht⟩) (fun q h => by cases h) dX9_pupil_71
      have nw6 : wh.toInt ≠ 0 := neC rfl rfl w6
      have nw9 : wh.toInt ≠ 1 := neC rfl rfl w9
      have nw12 : wh.toInt ≠ 2 := neC rfl rfl w12
      have nw15 : wh.toInt ≠ 3 := neC rfl rfl w15
      have o20 : wh.toInt < 0 ∨ 3 < wh.toInt := by rw [show wh.toInt = wh.toInt from rfl]; omega
      refine lv_tableOut (tgt := 72) hx hb dX9_pupil_20 o20 (by decide) ?_
      refine lv_bipush (v := (-3)) hx hb dX9_pupil_72 (by decide) ?_
      exact W.iret (v := (-3)) hx hb hr (fun tq ht hW => ⟨(-3), rfl, (show spPup (gF agr0 agr1 agr2 agr3 (0 : Int32).toNatClampNeg) (aF ans0 ans1 ans2 ans3 (0 : Int32).toNatClampNeg) 82 (0 : Int32) wh ((-3) : Int32) from by (try rw [show ((-3) : Int32).toInt = (-3) from (show ((-3) : Int32).toInt = (-3) from rfl)]); (first | exact Or.inl ⟨by omega, rfl⟩ | (refine Or.inr ⟨by omega, ?_⟩; first | exact Or.inl ⟨by omega, by assumption⟩ | exact Or.inr (Or.inl ⟨by omega, by assumption⟩) | exact Or.inr (Or.inr (Or.inl ⟨by omega, by assumption⟩)) | exact Or.inr (Or.inr (Or.inr (Or.inl ⟨by omega, by assumption⟩))) | exact Or.inr (Or.inr (Or.inr (Or.inr ⟨by omega, rfl⟩)))))), ht⟩) (fun q h => by cases h) dX9_pupil_74
    · have kc18 : (1 : Int32).toInt = 1 := rfl
      refine lv_aload_n hx hb dX9_pupil_12 rfl (lv_at hl 0 rfl) ?_
      refine va_get (D := (dC, dI)) (ci := 9) (v := .ref (a 33)) (C := RX9) (T := TX9) (N := 11) hx hb hts inX9 hown hK hP 0 rfl rfl 7 (by decide) lf64 (fun _ h9 => h9) rfl dX9_pupil_13 ?_
      refine lv_iload_n hx hb dX9_pupil_16 rfl (lv_at hl 1 rfl) ?_
      have b19 : vp_in 1 4 := (show ¬ _ from by decide)
      refine va_aldq hx hb hK hP 1 2 rfl rfl b19 dX9_pupil_17 ?_
      refine W.eq (g2 := F0 m 18 ls [.ref (a 36)]) rfl ?_
      refine lv_astore_n (lv' := [(3, .ref (a 36)), (0, .ref (a 43)), (1, .int 1), (2, .int wh)]) hx hb dX9_pupil_18 rfl hl (by decide) rfl (fun ls hl => ?_)
      refine lv_iload_n hx hb dX9_pupil_19 rfl (lv_at hl 3 rfl) ?_
      by_cases w20 : wh = 0
      · have dw20 : wh.toInt = 0 := eqC rfl rfl w20
        refine lv_tableIn (off := 32) (tgt := 52) hx hb dX9_pupil_20 (by rw [w20]; decide) (by rw [w20]; decide) (by rw [w20]; decide) (by decide) ?_
        refine lv_aload_n hx hb dX9_pupil_52 rfl (lv_at hl 0 rfl) ?_
        refine rdV (As := []) (rest := []) ⟨hx, hb, hml, hown, hts⟩ (k_X4_tablesThatMayBe2 l dC dI cI cZ cQ (a 36) (a 37) agr1 ans1 r_ans1) (cwV 0 hts gX9_pupil_X4_tablesThatMayBe rfl rfl rfl (by decide +kernel) ⟨Nat.le_of_ble_eq_true rfl, Nat.le_of_ble_eq_true rfl⟩) hP hK hN [4, 5] rfl 4 4 rfl rfl rfl hl.1 rfl (Nat.le_of_ble_eq_true rfl) dX9_pupil_53 ⟨Nat.le_of_ble_eq_true rfl, Nat.le_of_ble_eq_true rfl⟩ (fun r21 h22 => ?_)
        have h22 : (0 ≤ r21.toInt) ∧ (r21.toInt ≤ 81) ∧ (r21.toInt = mayF agr1 ans1 81) := h22
        obtain ⟨h22_0, h22_1, h22_2⟩ := h22
        exact W.iret (v := r21) hx hb hr (fun tq ht hW => ⟨r21, rfl, (show spPup (gF agr0 agr1 agr2 agr3 (1 : Int32).toNatClampNeg) (aF ans0 ans1 ans2 ans3 (1 : Int32).toNatClampNeg) 82 (1 : Int32) wh r21 from by (first | exact Or.inl ⟨by omega, rfl⟩ | (refine Or.inr ⟨by omega, ?_⟩; first | exact Or.inl ⟨by omega, by assumption⟩ | exact Or.inr (Or.inl ⟨by omega, by assumption⟩) | exact Or.inr (Or.inr (Or.inl ⟨by omega, by assumption⟩)) | exact Or.inr (Or.inr (Or.inr (Or.inl ⟨by omega, by assumption⟩))) | exact Or.inr (Or.inr (Or.inr (Or.inr ⟨by omega, rfl⟩)))))), ht⟩) (fun q h => by cases h) dX9_pupil_56
      by_cases w23 : wh = 1
      · have dw23 : wh.toInt = 1 := eqC rfl rfl w23
        refine lv_tableIn (off := 37) (tgt := 57) hx hb dX9_pupil_20 (by rw [w23]; decide) (by rw [w23]; decide) (by rw [w23]; decide) (by decide) ?_
        refine lv_aload_n hx hb dX9_pupil_57 rfl (lv_at hl 0 rfl) ?_
        refine rdV (As := []) (rest := []) ⟨hx, hb, hml, hown, hts⟩ (k_X4_nameOfLikeliest2 l dC dI cI cZ cQ (a 36) (a 37) agr1 ans1 r_ans1) (cwV 0 hts gX9_pupil_X4_nameOfLikeliest rfl rfl rfl (by decide +kernel) ⟨Nat.le_of_ble_eq_true rfl, Nat.le_of_ble_eq_true rfl⟩) hP hK hN [4, 5] rfl 4 4 rfl rfl rfl hl.1 rfl (Nat.le_of_ble_eq_true rfl) dX9_pupil_58 ⟨Nat.le_of_ble_eq_true rfl, Nat.le_of_ble_eq_true rfl⟩ (fun r24 h25 => ?_)
        have h25 : (r24.toInt = nmL (lkF agr1 80)) := h25
        have h25_0 := h25
        exact W.iret (v := r24) hx hb hr (fun tq ht hW => ⟨r24, rfl, (show spPup (gF agr0 agr1 agr2 agr3 (1 : Int32).toNatClampNeg) (aF ans0 ans1 ans2 ans3 (1 : Int32).toNatClampNeg) 82 (1 : Int32) wh r24 from by (first | exact Or.inl ⟨by omega, rfl⟩ | (refine Or.inr ⟨by omega, ?_⟩; first | exact Or.inl ⟨by omega, by assumption⟩ | exact Or.inr (Or.inl ⟨by omega, by assumption⟩) | exact Or.inr (Or.inr (Or.inl ⟨by omega, by assumption⟩)) | exact Or.inr (Or.inr (Or.inr (Or.inl ⟨by omega, by assumption⟩))) | exact Or.inr (Or.inr (Or.inr (Or.inr ⟨by omega, rfl⟩)))))), ht⟩) (fun q h => by cases h) dX9_pupil_61
      by_cases w26 : wh = 2
      · have dw26 : wh.toInt = 2 := eqC rfl rfl w26
        refine lv_tableIn (off := 42) (tgt := 62) hx hb dX9_pupil_20 (by rw [w26]; decide) (by rw [w26]; decide) (by rw [w26]; decide) (by decide) ?_
        refine lv_aload_n hx hb dX9_pupil_62 rfl (lv_at hl 0 rfl) ?_
        refine rdV (As := []) (rest := []) ⟨hx, hb, hml, hown, hts⟩ (k_X4_agreementOfLikeliest2 l dC dI cI cZ cQ (a 36) (a 37) agr1 ans1 r_ans1) (cwV 0 hts gX9_pupil_X4_agreementOfLikeliest rfl rfl rfl (by decide +kernel) ⟨Nat.le_of_ble_eq_true rfl, Nat.le_of_ble_eq_true rfl⟩) hP hK hN [4, 5] rfl 4 4 rfl rfl rfl hl.1 rfl (Nat.le_of_ble_eq_true rfl) dX9_pupil_63 ⟨Nat.le_of_ble_eq_true rfl, Nat.le_of_ble_eq_true rfl⟩ (fun r27 h28 => ?_)
        have h28 : (r27 = agr1 (lkF agr1 80)) := h28
        have h28_0 := h28
        exact W.iret (v := r27) hx hb hr (fun tq ht hW => ⟨r27, rfl, (show spPup (gF agr0 agr1 agr2 agr3 (1 : Int32).toNatClampNeg) (aF ans0 ans1 ans2 ans3 (1 : Int32).toNatClampNeg) 82 (1 : Int32) wh r27 from by (first | exact Or.inl ⟨by omega, rfl⟩ | (refine Or.inr ⟨by omega, ?_⟩; first | exact Or.inl ⟨by omega, by assumption⟩ | exact Or.inr (Or.inl ⟨by omega, by assumption⟩) | exact Or.inr (Or.inr (Or.inl ⟨by omega, by assumption⟩)) | exact Or.inr (Or.inr (Or.inr (Or.inl ⟨by omega, by assumption⟩))) | exact Or.inr (Or.inr (Or.inr (Or.inr ⟨by omega, rfl⟩)))))), ht⟩) (fun q h => by cases h) dX9_pupil_66
      by_cases w29 : wh = 3
      · have dw29 : wh.toInt = 3 := eqC rfl rfl w29
        refine lv_tableIn (off := 47) (tgt := 67) hx hb dX9_pupil_20 (by rw [w29]; decide) (by rw [w29]; decide) (by rw [w29]; decide) (by decide) ?_
        refine lv_aload_n hx hb dX9_pupil_67 rfl (lv_at hl 0 rfl) ?_
        refine rdV (As := []) (rest := []) ⟨hx, hb, hml, hown, hts⟩ (k_X4_dayThatParts2 l dC dI cI cZ cQ (a 36) (a 37) agr1 ans1 r_ans1) (cwV 0 hts gX9_pupil_X4_dayThatParts rfl rfl rfl (by decide +kernel) ⟨Nat.le_of_ble_eq_true rfl, Nat.le_of_ble_eq_true rfl⟩) hP hK hN [4, 5] rfl 4 4 rfl rfl rfl hl.1 rfl (Nat.le_of_ble_eq_true rfl) dX9_pupil_68 ⟨Nat.le_of_ble_eq_true rfl, Nat.le_of_ble_eq_true rfl⟩ (fun r30 h31 => ?_)
        have h31 : (r30.toInt = dpF agr1 ans1 82) := h31
        have h31_0 := h31
        exact W.iret (v := r30) hx hb hr (fun tq ht hW => ⟨r30, rfl, (show spPup (gF agr0 agr1 agr2 agr3 (1 : Int32).toNatClampNeg) (aF ans0 ans1 ans2 ans3 (1 : Int32).toNatClampNeg) 82 (1 : Int32) wh r30 from by (first | exact Or.inl ⟨by omega, rfl⟩ | (refine Or.inr ⟨by omega, ?_⟩; first | exact Or.inl ⟨by omega, by assumption⟩ | exact Or.inr (Or.inl ⟨by omega, by assumption⟩) | exact Or.inr (Or.inr (Or.inl ⟨by omega, by assumption⟩)) | exact Or.inr (Or.inr (Or.inr (Or.inl ⟨by omega, by assumption⟩))) | exact Or.inr (Or.inr (Or.inr (Or.inr ⟨by omega, rfl⟩)))))), ht⟩) (fun q h => by cases h) dX9_pupil_71
      have nw20 : wh.toInt ≠ 0 := neC rfl rfl w20
      have nw23 : wh.toInt ≠ 1 := neC rfl rfl w23
      have nw26 : wh.toInt ≠ 2 := neC rfl rfl w26
      have nw29 : wh.toInt ≠ 3 := neC rfl rfl w29
      have o20 : wh.toInt < 0 ∨ 3 < wh.toInt := by rw [show wh.toInt = wh.toInt from rfl]; omega
      refine lv_tableOut (tgt := 72) hx hb dX9_pupil_20 o20 (by decide) ?_
      refine lv_bipush (v := (-3)) hx hb dX9_pupil_72 (by decide) ?_
      exact W.iret (v := (-3)) hx hb hr (fun tq ht hW => ⟨(-3), rfl, (show spPup (gF agr0 agr1 agr2 agr3 (1 : Int32).toNatClampNeg) (aF ans0 ans1 ans2 ans3 (1 : Int32).toNatClampNeg) 82 (1 : Int32) wh ((-3) : Int32) from by (try rw [show ((-3) : Int32).toInt = (-3) from (show ((-3) : Int32).toInt = (-3) from rfl)]); (first | exact Or.inl ⟨by omega, rfl⟩ | (refine Or.inr ⟨by omega, ?_⟩; first | exact Or.inl ⟨by omega, by assumption⟩ | exact Or.inr (Or.inl ⟨by omega, by assumption⟩) | exact Or.inr (Or.inr (Or.inl ⟨by omega, by assumption⟩)) | exact Or.inr (Or.inr (Or.inr (Or.inl ⟨by omega, by assumption⟩))) | exact Or.inr (Or.inr (Or.inr (Or.inr ⟨by omega, rfl⟩)))))), ht⟩) (fun q h => by cases h) dX9_pupil_74
    · have kc32 : (2 : Int32).toInt = 2 := rfl
      refine lv_aload_n hx hb dX9_pupil_12 rfl (lv_at hl 0 rfl) ?_
      refine va_get (D := (dC, dI)) (ci := 9) (v := .ref (a 33)) (C := RX9) (T := TX9) (N := 11) hx hb hts inX9 hown hK hP 0 rfl rfl 7 (by decide) lf64 (fun _ h9 => h9) rfl dX9_pupil_13 ?_
      refine lv_iload_n hx hb dX9_pupil_16 rfl (lv_at hl 1 rfl) ?_
      have b33 : vp_in 2 4 := (show ¬ _ from by decide)
      refine va_aldq hx hb hK hP 1 2 rfl rfl b33 dX9_pupil_17 ?_
      refine W.eq (g2 := F0 m 18 ls [.ref (a 38)]) rfl ?_
      refine lv_astore_n (lv' := [(3, .ref (a 38)), (0, .ref (a 43)), (1, .int 2), (2, .int wh)]) hx hb dX9_pupil_18 rfl hl (by decide) rfl (fun ls hl => ?_)
      refine lv_iload_n hx hb dX9_pupil_19 rfl (lv_at hl 3 rfl) ?_
      by_cases w34 : wh = 0
      · have dw34 : wh.toInt = 0 := eqC rfl rfl w34
        refine lv_tableIn (off := 32) (tgt := 52) hx hb dX9_pupil_20 (by rw [w34]; decide) (by rw [w34]; decide) (by rw [w34]; decide) (by decide) ?_
        refine lv_aload_n hx hb dX9_pupil_52 rfl (lv_at hl 0 rfl) ?_
        refine rdV (As := []) (rest := []) ⟨hx, hb, hml, hown, hts⟩ (k_X4_tablesThatMayBe2 l dC dI cI cZ cQ (a 38) (a 39) agr2 ans2 r_ans2) (cwV 0 hts gX9_pupil_X4_tablesThatMayBe rfl rfl rfl (by decide +kernel) ⟨Nat.le_of_ble_eq_true rfl, Nat.le_of_ble_eq_true rfl⟩) hP hK hN [6, 7] rfl 6 4 rfl rfl rfl hl.1 rfl (Nat.le_of_ble_eq_true rfl) dX9_pupil_53 ⟨Nat.le_of_ble_eq_true rfl, Nat.le_of_ble_eq_true rfl⟩ (fun r35 h36 => ?_)
        have h36 : (0 ≤ r35.toInt) ∧ (r35.toInt ≤ 81) ∧ (r35.toInt = mayF agr2 ans2 81) := h36
        obtain ⟨h36_0, h36_1, h36_2⟩ := h36
        exact W.iret (v := r35) hx hb hr (fun tq ht hW => ⟨r35, rfl, (show spPup (gF agr0 agr1 agr2 agr3 (2 : Int32).toNatClampNeg) (aF ans0 ans1 ans2 ans3 (2 : Int32).toNatClampNeg) 82 (2 : Int32) wh r35 from by (first | exact Or.inl ⟨by omega, rfl⟩ | (refine Or.inr ⟨by omega, ?_⟩; first | exact Or.inl ⟨by omega, by assumption⟩ | exact Or.inr (Or.inl ⟨by omega, by assumption⟩) | exact Or.inr (Or.inr (Or.inl ⟨by omega, by assumption⟩)) | exact Or.inr (Or.inr (Or.inr (Or.inl ⟨by omega, by assumption⟩))) | exact Or.inr (Or.inr (Or.inr (Or.inr ⟨by omega, rfl⟩)))))), ht⟩) (fun q h => by cases h) dX9_pupil_56
      by_cases w37 : wh = 1
      · have dw37 : wh.toInt = 1 := eqC rfl rfl w37
        refine lv_tableIn (off := 37) (tgt := 57) hx hb dX9_pupil_20 (by rw [w37]; decide) (by rw [w37]; decide) (by rw [w37]; decide) (by decide) ?_
        refine lv_aload_n hx hb dX9_pupil_57 rfl (lv_at hl 0 rfl) ?_
        refine rdV (As := []) (rest := []) ⟨hx, hb, hml, hown, hts⟩ (k_X4_nameOfLikeliest2 l dC dI cI cZ cQ (a 38) (a 39) agr2 ans2 r_ans2) (cwV 0 hts gX9_pupil_X4_nameOfLikeliest rfl rfl rfl (by decide +kernel) ⟨Nat.le_of_ble_eq_true rfl, Nat.le_of_ble_eq_true rfl⟩) hP hK hN [6, 7] rfl 6 4 rfl rfl rfl hl.1 rfl (Nat.le_of_ble_eq_true rfl) dX9_pupil_58 ⟨Nat.le_of_ble_eq_true rfl, Nat.le_of_ble_eq_true rfl⟩ (fun r38 h39 => ?_)
        have h39 : (r38.toInt = nmL (lkF agr2 80)) := h39
        have h39_0 := h39
        exact W.iret (v := r38) hx hb hr (fun tq ht hW => ⟨r38, rfl, (show spPup (gF agr0 agr1 agr2 agr3 (2 : Int32).toNatClampNeg) (aF ans0 ans1 ans2 ans3 (2 : Int32).toNatClampNeg) 82 (2 : Int32) wh r38 from by (first | exact Or.inl ⟨by omega, rfl⟩ | (refine Or.inr ⟨by omega, ?_⟩; first | exact Or.inl ⟨by omega, by assumption⟩ | exact Or.inr (Or.inl ⟨by omega, by assumption⟩) | exact Or.inr (Or.inr (Or.inl ⟨by omega, by assumption⟩)) | exact Or.inr (Or.inr (Or.inr (Or.inl ⟨by omega, by assumption⟩))) | exact Or.inr (Or.inr (Or.inr (Or.inr ⟨by omega, rfl⟩)))))), ht⟩) (fun q h => by cases h) dX9_pupil_61
      by_cases w40 : wh = 2
      · have dw40 : wh.toInt = 2 := eqC rfl rfl w40
        refine lv_tableIn (off := 42) (tgt := 62) hx hb dX9_pupil_20 (by rw [w40]; decide) (by rw [w40]; decide) (by rw [w40]; decide) (by decide) ?_
        refine lv_aload_n hx hb dX9_pupil_62 rfl (lv_at hl 0 rfl) ?_
        refine rdV (As := []) (rest := []) ⟨hx, hb, hml, hown, hts⟩ (k_X4_agreementOfLikeliest2 l dC dI cI cZ cQ (a 38) (a 39) agr2 ans2 r_ans2) (cwV 0 hts gX9_pupil_X4_agreementOfLikeliest rfl rfl rfl (by decide +kernel) ⟨Nat.le_of_ble_eq_true rfl, Nat.le_of_ble_eq_true rfl⟩) hP hK hN [6, 7] rfl 6 4 rfl rfl rfl hl.1 rfl (Nat.le_of_ble_eq_true rfl) dX9_pupil_63 ⟨Nat.le_of_ble_eq_true rfl, Nat.le_of_ble_eq_true rfl⟩ (fun r41 h42 => ?_)
        have h42 : (r41 = agr2 (lkF agr2 80)) := h42
        have h42_0 := h42
        exact W.iret (v := r41) hx hb hr (fun tq ht hW => ⟨r41, rfl, (show spPup (gF agr0 agr1 agr2 agr3 (2 : Int32).toNatClampNeg) (aF ans0 ans1 ans2 ans3 (2 : Int32).toNatClampNeg) 82 (2 : Int32) wh r41 from by (first | exact Or.inl ⟨by omega, rfl⟩ | (refine Or.inr ⟨by omega, ?_⟩; first | exact Or.inl ⟨by omega, by assumption⟩ | exact Or.inr (Or.inl ⟨by omega, by assumption⟩) | exact Or.inr (Or.inr (Or.inl ⟨by omega, by assumption⟩)) | exact Or.inr (Or.inr (Or.inr (Or.inl ⟨by omega, by assumption⟩))) | exact Or.inr (Or.inr (Or.inr (Or.inr ⟨by omega, rfl⟩)))))), ht⟩) (fun q h => by cases h) dX9_pupil_66
      by_cases w43 : wh = 3
      · have dw43 : wh.toInt = 3 := eqC rfl rfl w43
        refine lv_tableIn (off := 47) (tgt := 67) hx hb dX9_pupil_20 (by rw [w43]; decide) (by rw [w43]; decide) (by rw [w43]; decide) (by decide) ?_
        refine lv_aload_n hx hb dX9_pupil_67 rfl (lv_at hl 0 rfl) ?_
        refine rdV (As := []) (rest := []) ⟨hx, hb, hml, hown, hts⟩ (k_X4_dayThatParts2 l dC dI cI cZ cQ (a 38) (a 39) agr2 ans2 r_ans2) (cwV 0 hts gX9_pupil_X4_dayThatParts rfl rfl rfl (by decide +kernel) ⟨Nat.le_of_ble_eq_true rfl, Nat.le_of_ble_eq_true rfl⟩) hP hK hN [6, 7] rfl 6 4 rfl rfl rfl hl.1 rfl (Nat.le_of_ble_eq_true rfl) dX9_pupil_68 ⟨Nat.le_of_ble_eq_true rfl, Nat.le_of_ble_eq_true rfl⟩ (fun r44 h45 => ?_)
        have h45 : (r44.toInt = dpF agr2 ans2 82) := h45
        have h45_0 := h45
        exact W.iret (v := r44) hx hb hr (fun tq ht hW => ⟨r44, rfl, (show spPup (gF agr0 agr1 agr2 agr3 (2 : Int32).toNatClampNeg) (aF ans0 ans1 ans2 ans3 (2 : Int32).toNatClampNeg) 82 (2 : Int32) wh r44 from by (first | exact Or.inl ⟨by omega, rfl⟩ | (refine Or.inr ⟨by omega, ?_⟩; first | exact Or.inl ⟨by omega, by assumption⟩ | exact Or.inr (Or.inl ⟨by omega, by assumption⟩) | exact Or.inr (Or.inr (Or.inl ⟨by omega, by assumption⟩)) | exact Or.inr (Or.inr (Or.inr (Or.inl ⟨by omega, by assumption⟩))) | exact Or.inr (Or.inr (Or.inr (Or.inr ⟨by omega, rfl⟩)))))), ht⟩) (fun q h => by cases h) dX9_pupil_71
      have nw34 : wh.toInt ≠ 0 := neC rfl rfl w34
      have nw37 : wh.toInt ≠ 1 := neC rfl rfl w37
      have nw40 : wh.toInt ≠ 2 := neC rfl rfl w40
      have nw43 : wh.toInt ≠ 3 := neC rfl rfl w43
      have o20 : wh.toInt < 0 ∨ 3 < wh.toInt := by rw [show wh.toInt = wh.toInt from rfl]; omega
      refine lv_tableOut (tgt := 72) hx hb dX9_pupil_20 o20 (by decide) ?_
      refine lv_bipush (v := (-3)) hx hb dX9_pupil_72 (by decide) ?_
      exact W.iret (v := (-3)) hx hb hr (fun tq ht hW => ⟨(-3), rfl, (show spPup (gF agr0 agr1 agr2 agr3 (2 : Int32).toNatClampNeg) (aF ans0 ans1 ans2 ans3 (2 : Int32).toNatClampNeg) 82 (2 : Int32) wh ((-3) : Int32) from by (try rw [show ((-3) : Int32).toInt = (-3) from (show ((-3) : Int32).toInt = (-3) from rfl)]); (first | exact Or.inl ⟨by omega, rfl⟩ | (refine Or.inr ⟨by omega, ?_⟩; first | exact Or.inl ⟨by omega, by assumption⟩ | exact Or.inr (Or.inl ⟨by omega, by assumption⟩) | exact Or.inr (Or.inr (Or.inl ⟨by omega, by assumption⟩)) | exact Or.inr (Or.inr (Or.inr (Or.inl ⟨by omega, by assumption⟩))) | exact Or.inr (Or.inr (Or.inr (Or.inr ⟨by omega, rfl⟩)))))), ht⟩) (fun q h => by cases h) dX9_pupil_74
    · have kc46 : (3 : Int32).toInt = 3 := rfl
      refine lv_aload_n hx hb dX9_pupil_12 rfl (lv_at hl 0 rfl) ?_
      refine va_get (D := (dC, dI)) (ci := 9) (v := .ref (a 33)) (C := RX9) (T := TX9) (N := 11) hx hb hts inX9 hown hK hP 0 rfl rfl 7 (by decide) lf64 (fun _ h9 => h9) rfl dX9_pupil_13 ?_
      refine lv_iload_n hx hb dX9_pupil_16 rfl (lv_at hl 1 rfl) ?_
      have b47 : vp_in 3 4 := (show ¬ _ from by decide)
      refine va_aldq hx hb hK hP 1 2 rfl rfl b47 dX9_pupil_17 ?_
      refine W.eq (g2 := F0 m 18 ls [.ref (a 40)]) rfl ?_
      refine lv_astore_n (lv' := [(3, .ref (a 40)), (0, .ref (a 43)), (1, .int 3), (2, .int wh)]) hx hb dX9_pupil_18 rfl hl (by decide) rfl (fun ls hl => ?_)
      refine lv_iload_n hx hb dX9_pupil_19 rfl (lv_at hl 3 rfl) ?_
      by_cases w48 : wh = 0
      · have dw48 : wh.toInt = 0 := eqC rfl rfl w48
        refine lv_tableIn (off := 32) (tgt := 52) hx hb dX9_pupil_20 (by rw [w48]; decide) (by rw [w48]; decide) (by rw [w48]; decide) (by decide) ?_
        refine lv_aload_n hx hb dX9_pupil_52 rfl (lv_at hl 0 rfl) ?_
        refine rdV (As := []) (rest := []) ⟨hx, hb, hml, hown, hts⟩ (k_X4_tablesThatMayBe2 l dC dI cI cZ cQ (a 40) (a 41) agr3 ans3 r_ans3) (cwV 0 hts gX9_pupil_X4_tablesThatMayBe rfl rfl rfl (by decide +kernel) ⟨Nat.le_of_ble_eq_true rfl, Nat.le_of_ble_eq_true rfl⟩) hP hK hN [8, 9] rfl 8 4 rfl rfl rfl hl.1 rfl (Nat.le_of_ble_eq_true rfl) dX9_pupil_53 ⟨Nat.le_of_ble_eq_true rfl, Nat.le_of_ble_eq_true rfl⟩ (fun r49 h50 => ?_)
        have h50 : (0 ≤ r49.toInt) ∧ (r49.toInt ≤ 81) ∧ (r49.toInt = mayF agr3 ans3 81) := h50
        obtain ⟨h50_0, h50_1, h50_2⟩ := h50
        exact W.iret (v := r49) hx hb hr (fun tq ht hW => ⟨r49, rfl, (show spPup (gF agr0 agr1 agr2 agr3 (3 : Int32).toNatClampNeg) (aF ans0 ans1 ans2 ans3 (3 : Int32).toNatClampNeg) 82 (3 : Int32) wh r49 from by (first | exact Or.inl ⟨by omega, rfl⟩ | (refine Or.inr ⟨by omega, ?_⟩; first | exact Or.inl ⟨by omega, by assumption⟩ | exact Or.inr (Or.inl ⟨by omega, by assumption⟩) | exact Or.inr (Or.inr (Or.inl ⟨by omega, by assumption⟩)) | exact Or.inr (Or.inr (Or.inr (Or.inl ⟨by omega, by assumption⟩))) | exact Or.inr (Or.inr (Or.inr (Or.inr ⟨by omega, rfl⟩)))))), ht⟩) (fun q h => by cases h) dX9_pupil_56
      by_cases w51 : wh = 1
      · have dw51 : wh.toInt = 1 := eqC rfl rfl w51
        refine lv_tableIn (off := 37) (tgt := 57) hx hb dX9_pupil_20 (by rw [w51]; decide) (by rw [w51]; decide) (by rw [w51]; decide) (by decide) ?_
        refine lv_aload_n hx hb dX9_pupil_57 rfl (lv_at hl 0 rfl) ?_
        refine rdV (As := []) (rest := []) ⟨hx, hb, hml, hown, hts⟩ (k_X4_nameOfLikeliest2 l dC dI cI cZ cQ (a 40) (a 41) agr3 ans3 r_ans3) (cwV 0 hts gX9_pupil_X4_nameOfLikeliest rfl rfl rfl (by decide +kernel) ⟨Nat.le_of_ble_eq_true rfl, Nat.le_of_ble_eq_true rfl⟩) hP hK hN [8, 9] rfl 8 4 rfl rfl rfl hl.1 rfl (Nat.le_of_ble_eq_true rfl) dX9_pupil_58 ⟨Nat.le_of_ble_eq_true rfl, Nat.le_of_ble_eq_true rfl⟩ (fun r52 h53 => ?_)
        have h53 : (r52.toInt = nmL (lkF agr3 80)) := h53
        have h53_0 := h53
        exact W.iret (v := r52) hx hb hr (fun tq ht hW => ⟨r52, rfl, (show spPup (gF agr0 agr1 agr2 agr3 (3 : Int32).toNatClampNeg) (aF ans0 ans1 ans2 ans3 (3 : Int32).toNatClampNeg) 82 (3 : Int32) wh r52 from by (first | exact Or.inl ⟨by omega, rfl⟩ | (refine Or.inr ⟨by omega, ?_⟩; first | exact Or.inl ⟨by omega, by assumption⟩ | exact Or.inr (Or.inl ⟨by omega, by assumption⟩) | exact Or.inr (Or.inr (Or.inl ⟨by omega, by assumption⟩)) | exact Or.inr (Or.inr (Or.inr (Or.inl ⟨by omega, by assumption⟩))) | exact Or.inr (Or.inr (Or.inr (Or.inr ⟨by omega, rfl⟩)))))), ht⟩) (fun q h => by cases h) dX9_pupil_61
      by_cases w54 : wh = 2
      · have dw54 : wh.toInt = 2 := eqC rfl rfl w54
        refine lv_tableIn (off := 42) (tgt := 62) hx hb dX9_pupil_20 (by rw [w54]; decide) (by rw [w54]; decide) (by rw [w54]; decide) (by decide) ?_
        refine lv_aload_n hx hb dX9_pupil_62 rfl (lv_at hl 0 rfl) ?_
        refine rdV (As := []) (rest := []) ⟨hx, hb, hml, hown, hts⟩ (k_X4_agreementOfLikeliest2 l dC dI cI cZ cQ (a 40) (a 41) agr3 ans3 r_ans3) (cwV 0 hts gX9_pupil_X4_agreementOfLikeliest rfl rfl rfl (by decide +kernel) ⟨Nat.le_of_ble_eq_true rfl, Nat.le_of_ble_eq_true rfl⟩) hP hK hN [8, 9] rfl 8 4 rfl rfl rfl hl.1 rfl (Nat.le_of_ble_eq_true rfl) dX9_pupil_63 ⟨Nat.le_of_ble_eq_true rfl, Nat.le_of_ble_eq_true rfl⟩ (fun r55 h56 => ?_)
        have h56 : (r55 = agr3 (lkF agr3 80)) := h56
        have h56_0 := h56
        exact W.iret (v := r55) hx hb hr (fun tq ht hW => ⟨r55, rfl, (show spPup (gF agr0 agr1 agr2 agr3 (3 : Int32).toNatClampNeg) (aF ans0 ans1 ans2 ans3 (3 : Int32).toNatClampNeg) 82 (3 : Int32) wh r55 from by (first | exact Or.inl ⟨by omega, rfl⟩ | (refine Or.inr ⟨by omega, ?_⟩; first | exact Or.inl ⟨by omega, by assumption⟩ | exact Or.inr (Or.inl ⟨by omega, by assumption⟩) | exact Or.inr (Or.inr (Or.inl ⟨by omega, by assumption⟩)) | exact Or.inr (Or.inr (Or.inr (Or.inl ⟨by omega, by assumption⟩))) | exact Or.inr (Or.inr (Or.inr (Or.inr ⟨by omega, rfl⟩)))))), ht⟩) (fun q h => by cases h) dX9_pupil_66
      by_cases w57 : wh = 3
      · have dw57 : wh.toInt = 3 := eqC rfl rfl w57
        refine lv_tableIn (off := 47) (tgt := 67) hx hb dX9_pupil_20 (by rw [w57]; decide) (by rw [w57]; decide) (by rw [w57]; decide) (by decide) ?_
        refine lv_aload_n hx hb dX9_pupil_67 rfl (lv_at hl 0 rfl) ?_
        refine rdV (As := []) (rest := []) ⟨hx, hb, hml, hown, hts⟩ (k_X4_dayThatParts2 l dC dI cI cZ cQ (a 40) (a 41) agr3 ans3 r_ans3) (cwV 0 hts gX9_pupil_X4_dayThatParts rfl rfl rfl (by decide +kernel) ⟨Nat.le_of_ble_eq_true rfl, Nat.le_of_ble_eq_true rfl⟩) hP hK hN [8, 9] rfl 8 4 rfl rfl rfl hl.1 rfl (Nat.le_of_ble_eq_true rfl) dX9_pupil_68 ⟨Nat.le_of_ble_eq_true rfl, Nat.le_of_ble_eq_true rfl⟩ (fun r58 h59 => ?_)
        have h59 : (r58.toInt = dpF agr3 ans3 82) := h59
        have h59_0 := h59
        exact W.iret (v := r58) hx hb hr (fun tq ht hW => ⟨r58, rfl, (show spPup (gF agr0 agr1 agr2 agr3 (3 : Int32).toNatClampNeg) (aF ans0 ans1 ans2 ans3 (3 : Int32).toNatClampNeg) 82 (3 : Int32) wh r58 from by (first | exact Or.inl ⟨by omega, rfl⟩ | (refine Or.inr ⟨by omega, ?_⟩; first | exact Or.inl ⟨by omega, by assumption⟩ | exact Or.inr (Or.inl ⟨by omega, by assumption⟩) | exact Or.inr (Or.inr (Or.inl ⟨by omega, by assumption⟩)) | exact Or.inr (Or.inr (Or.inr (Or.inl ⟨by omega, by assumption⟩))) | exact Or.inr (Or.inr (Or.inr (Or.inr ⟨by omega, rfl⟩)))))), ht⟩) (fun q h => by cases h) dX9_pupil_71
      have nw48 : wh.toInt ≠ 0 := neC rfl rfl w48
      have nw51 : wh.toInt ≠ 1 := neC rfl rfl w51
      have nw54 : wh.toInt ≠ 2 := neC rfl rfl w54
      have nw57 : wh.toInt ≠ 3 := neC rfl rfl w57
      have o20 : wh.toInt < 0 ∨ 3 < wh.toInt := by rw [show wh.toInt = wh.toInt from rfl]; omega
      refine lv_tableOut (tgt := 72) hx hb dX9_pupil_20 o20 (by decide) ?_
      refine lv_bipush (v := (-3)) hx hb dX9_pupil_72 (by decide) ?_
      exact W.iret (v := (-3)) hx hb hr (fun tq ht hW => ⟨(-3), rfl, (show spPup (gF agr0 agr1 agr2 agr3 (3 : Int32).toNatClampNeg) (aF ans0 ans1 ans2 ans3 (3 : Int32).toNatClampNeg) 82 (3 : Int32) wh ((-3) : Int32) from by (try rw [show ((-3) : Int32).toInt = (-3) from (show ((-3) : Int32).toInt = (-3) from rfl)]); (first | exact Or.inl ⟨by omega, rfl⟩ | (refine Or.inr ⟨by omega, ?_⟩; first | exact Or.inl ⟨by omega, by assumption⟩ | exact Or.inr (Or.inl ⟨by omega, by assumption⟩) | exact Or.inr (Or.inr (Or.inl ⟨by omega, by assumption⟩)) | exact Or.inr (Or.inr (Or.inr (Or.inl ⟨by omega, by assumption⟩))) | exact Or.inr (Or.inr (Or.inr (Or.inr ⟨by omega, rfl⟩)))))), ht⟩) (fun q h => by cases h) dX9_pupil_74
  · refine lv_if_ne (tgt := 12) hx hb dX9_pupil_6 (by decide) (fun c9 => absurd (by decide) c9) (fun _ => ?_)
    refine lv_bipush (v := (-2)) hx hb dX9_pupil_9 (by decide) ?_
    exact W.iret (v := (-2)) hx hb hr (fun tq ht hW => ⟨(-2), rfl, (show spPup (gF agr0 agr1 agr2 agr3 pp.toNatClampNeg) (aF ans0 ans1 ans2 ans3 pp.toNatClampNeg) 82 pp wh ((-2) : Int32) from by (try rw [show ((-2) : Int32).toInt = (-2) from (show ((-2) : Int32).toInt = (-2) from rfl)]); (first | exact Or.inl ⟨by omega, rfl⟩ | (refine Or.inr ⟨by omega, ?_⟩; first | exact Or.inl ⟨by omega, by assumption⟩ | exact Or.inr (Or.inl ⟨by omega, by assumption⟩) | exact Or.inr (Or.inr (Or.inl ⟨by omega, by assumption⟩)) | exact Or.inr (Or.inr (Or.inr (Or.inl ⟨by omega, by assumption⟩))) | exact Or.inr (Or.inr (Or.inr (Or.inr ⟨by omega, rfl⟩)))))), ht⟩) (fun q h => by cases h) dX9_pupil_11
