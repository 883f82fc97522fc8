set_option maxHeartbeats 4000000 in
set_option maxRecDepth 100000 in
theorem k_X4_likeliest2 (l : Launch) (dC : Nat → ClassId) (dI : Nat → Nat → Nat) (cI cZ cQ : ClassId) (pu0 : Nat) (pu1 : Nat) (agr : Nat → Int32) (ans : Int32) (r_ans : 0 ≤ ans.toInt ∧ ans.toInt ≤ 12) : KR l yX4_likeliest wsX4_likeliest { frames := 0, cells := 0, slots := 0, locals := 0 } (dC, dI) (TY cI cZ cQ) (wPup cI cZ cQ pu0 pu1 agr ans) [.ref pu0] (fun r : Int32 => (0 ≤ r.toInt) ∧ (r.toInt ≤ 80) ∧ (r.toInt = ((lkF agr 80 : Nat) : Int))) := by
  refine Met.ofW (cc := cX4_likeliest) (maxL := 3) (ret := (some .int)) (by decide) rfl ?_
  intro p e s m args below meth c s₁ B hml hv
  obtain ⟨rfl, hP, hK, hN⟩ := hv
  have hx := B.exec
  have hb := B.bytes
  have hr := B.returns
  have hts := atoms_spec (ws := wsX4_likeliest) B.pre
  have hown : s.vm.findClass RX4 = some m.cls := findClass_of_methodNamed B.named
  have hlocks := B.notSynchronized
  have lf11 := hts (.fieldLink RX4 11 "PalaceOfRooms$Pupil" "agreement" "[I") (List.mem_cons_of_mem _ (List.mem_append_left _ (List.mem_of_getElem? (i := 0) rfl)))
  have inX4 : ∀ w ∈ wsX40, w ∈ wsX4_likeliest := fun w h => List.mem_cons_of_mem _ (List.mem_append_right _ h)
  have hl := lv_entry ([.ref pu0]) (n := 3) (Nat.le_of_ble_eq_true rfl)
  rw [lg_entry_eq]
  generalize (lg_sl ([.ref pu0]) ++ List.replicate (3 - (lg_sl ([.ref pu0])).length) Slot.unset).toArray = ls at hl ⊢
  have hl : lv_has ls 3 [(0, .ref pu0)] := hl
  refine lv_iconst (v := 0) hx hb dX4_likeliest_0 (by decide) ?_
  refine lv_istore_n (lv' := [(1, .int 0), (0, .ref pu0)]) hx hb dX4_likeliest_1 rfl hl (by decide) rfl (fun ls hl => ?_)
  refine lv_iconst (v := 1) hx hb dX4_likeliest_2 (by decide) ?_
  refine lv_istore_n (lv' := [(2, .int 1), (1, .int 0), (0, .ref pu0)]) hx hb dX4_likeliest_3 rfl hl (by decide) rfl (fun ls hl => ?_)
  have L4 : ∀ (nn : Nat) (y4_1 : Int32) (y4_2 : Int32) (ls : Array Slot), (1 ≤ (y4_2.toInt)) → ((y4_2.toInt) ≤ 81) → (0 ≤ (y4_1.toInt)) → ((y4_1.toInt) ≤ 80) → ((y4_1.toInt) = ((lkF agr ((y4_2.toInt) - 1).toNat : Nat) : Int)) → (81 - (y4_2.toInt)).toNat < nn → lv_has ls 3 [(0, .ref pu0), (1, .int y4_1), (2, .int y4_2)] → W p l e (headSpec wsX4_likeliest { frames := 0, cells := 0, slots := 0, locals := 0 }).room s m ([.ref pu0] : List Value).toArray below meth c s.heap [] 0 0 (MQ below (QR (fun r : Int32 => (0 ≤ r.toInt) ∧ (r.toInt ≤ 80) ∧ (r.toInt = ((lkF agr 80 : Nat) : Int)))) ([.ref pu0] : List Value).toArray s 0 0 (fun _ => False)) (F0 m 4 ls []) := by
    intro nn
    induction nn with
    | zero =>
      intro y4_1 y4_2 ls i4_0 i4_1 i4_2 i4_3 i4_4 hm4
      exact absurd hm4 (Nat.not_lt_zero _)
    | succ nn ih4 =>
      intro y4_1 y4_2 ls i4_0 i4_1 i4_2 i4_3 i4_4 hm4 hl
      refine lv_iload_n hx hb dX4_likeliest_4 rfl (lv_at hl 2 rfl) ?_
      refine lv_bipush (v := 81) hx hb dX4_likeliest_5 (by decide) ?_
      refine lv_icmp_ge (tgt := 33) hx hb dX4_likeliest_7 (by decide) (fun c1 => ?_) (fun c1 => ?_)
      · have dc1 : 81 ≤ y4_2.toInt := leC (show (81 : Int32).toInt = 81 from rfl) rfl c1
        refine lv_iload_n hx hb dX4_likeliest_33 rfl (lv_at hl 1 rfl) ?_
        exact W.iret (v := y4_1) hx hb hr (fun tq ht hW => ⟨y4_1, rfl, ⟨(show 0 ≤ y4_1.toInt from by omega), (show y4_1.toInt ≤ 80 from by omega), (show y4_1.toInt = ((lkF agr 80 : Nat) : Int) from by exact lk_e i4_4 (by omega))⟩, ht⟩) (fun q h => by cases h) dX4_likeliest_34
      · have dc1 : y4_2.toInt < 81 := nleC (show (81 : Int32).toInt = 81 from rfl) rfl c1
        refine lv_aload_n hx hb dX4_likeliest_10 rfl (lv_at hl 0 rfl) ?_
        refine va_get (D := (dC, dI)) (ci := 4) (v := .ref pu1) (C := RX4) (T := TX4) (N := 2) hx hb hts inX4 hown hK hP 0 rfl rfl 0 (by decide) lf11 (fun _ h9 => h9) rfl dX4_likeliest_11 ?_
        refine lv_iload_n hx hb dX4_likeliest_14 rfl (lv_at hl 2 rfl) ?_
        have b2 : vp_in y4_2 81 := inC rfl (by omega) (by omega)
        refine va_iald hx hb hK hP 1 0 rfl rfl b2 dX4_likeliest_15 ?_
        refine lv_aload_n hx hb dX4_likeliest_16 rfl (lv_at hl 0 rfl) ?_
        refine va_get (D := (dC, dI)) (ci := 4) (v := .ref pu1) (C := RX4) (T := TX4) (N := 2) hx hb hts inX4 hown hK hP 0 rfl rfl 0 (by decide) lf11 (fun _ h9 => h9) rfl dX4_likeliest_17 ?_
        refine lv_iload_n hx hb dX4_likeliest_20 rfl (lv_at hl 1 rfl) ?_
        have b3 : vp_in y4_1 81 := inC rfl (by omega) (by omega)
        refine va_iald hx hb hK hP 1 0 rfl rfl b3 dX4_likeliest_21 ?_
        refine lv_icmp_le (tgt := 27) hx hb dX4_likeliest_22 (by decide) (fun c4 => ?_) (fun c4 => ?_)
        · have dc4 : (agr y4_2.toNatClampNeg).toInt ≤ (agr y4_1.toNatClampNeg).toInt := leC rfl rfl c4
          obtain ⟨z5, ez5⟩ : ∃ y : Int32, y = y4_2 + 1 := ⟨_, rfl⟩
          have iz5 : z5.toInt = y4_2.toInt + 1 := by rw [ez5]; exact addC rfl rfl (by omega) (by omega)
          refine lv_iinc (v := z5) (lv' := [(2, .int z5), (0, .ref pu0), (1, .int y4_1)]) hx hb dX4_likeliest_27 hl (k := 2) rfl (by rw [ez5]; rfl) (by decide) rfl (fun ls hl => ?_)
          refine lv_goto (tgt := 4) hx hb dX4_likeliest_30 (by decide) ?_
          exact ih4 y4_1 z5 _ (by omega) (by omega) (by omega) (by omega) (by (first | exact lk_y i4_4 (by omega) (by omega) (by omega) | exact lk_n (y := y4_2) i4_4 (by omega) (by omega) (by omega) | exact lk_0 (by first | rfl | omega) (by first | rfl | omega))) (by omega) (lv_sub hl [1, 2, 0] rfl)
        · have dc4 : (agr y4_1.toNatClampNeg).toInt < (agr y4_2.toNatClampNeg).toInt := nleC rfl rfl c4
          refine lv_iload_n hx hb dX4_likeliest_25 rfl (lv_at hl 2 rfl) ?_
          refine lv_istore_n (lv' := [(1, .int y4_2), (0, .ref pu0), (2, .int y4_2)]) hx hb dX4_likeliest_26 rfl hl (by decide) rfl (fun ls hl => ?_)
          obtain ⟨z6, ez6⟩ : ∃ y : Int32, y = y4_2 + 1 := ⟨_, rfl⟩
          have iz6 : z6.toInt = y4_2.toInt + 1 := by rw [ez6]; exact addC rfl rfl (by omega) (by omega)
          refine lv_iinc (v := z6) (lv' := [(2, .int z6), (1, .int y4_2), (0, .ref pu0)]) hx hb dX4_likeliest_27 hl (k := 2) rfl (by rw [ez6]; rfl) (by decide) rfl (fun ls hl => ?_)
          refine lv_goto (tgt := 4) hx hb dX4_likeliest_30 (by decide) ?_
          exact ih4 y4_2 z6 _ (by omega) (by omega) (by omega) (by omega) (by (first | exact lk_y i4_4 (by omega) (by omega) (by omega) | exact lk_n (y := y4_2) i4_4 (by omega) (by omega) (by omega) | exact lk_0 (by first | rfl | omega) (by first | rfl | omega))) (by omega) (lv_sub hl [2, 1, 0] rfl)
  have kc7 : (0 : Int32).toInt = 0 := rfl
  have kc8 : (1 : Int32).toInt = 1 := rfl
  exact L4 _ 0 1 _ (by omega) (by omega) (by omega) (by omega) (by (first | exact lk_y i4_4 (by omega) (by omega) (by omega) | exact lk_n (y := y4_2) i4_4 (by omega) (by omega) (by omega) | exact lk_0 (by first | rfl | omega) (by first | rfl | omega))) (Nat.lt_succ_self _) (lv_sub hl [2, 1, 0] rfl)
set_option maxHeartbeats 4000000 in
set_option maxRecDepth 100000 in
theorem k_X4_nameOfLikeliest2 (l : Launch) (dC : Nat → ClassId) (dI : Nat → Nat → Nat) (cI cZ cQ : ClassId) (pu0 : Nat) (pu1 : Nat) (agr : Nat → Int32) (ans : Int32) (r_ans : 0 ≤ ans.toInt ∧ ans.toInt ≤ 12) : KR l yX4_nameOfLikeliest wsX4_nameOfLikeliest { frames := 1, cells := 0, slots := 0, locals := 22 } (dC, dI) (TY cI cZ cQ) (wPup cI cZ cQ pu0 pu1 agr ans) [.ref pu0] (fun r : Int32 => (r.toInt = nmL (lkF agr 80))) := by
  refine Met.ofW (cc := cX4_nameOfLikeliest) (maxL := 2) (ret := (some .int)) (by decide) rfl ?_
  intro p e s m args below meth c s₁ B hml hv
  obtain ⟨rfl, hP, hK, hN⟩ := hv
  have hx := B.exec
  have hb := B.bytes
  have hr := B.returns
  have hts := atoms_spec (ws := wsX4_nameOfLikeliest) B.pre
  have hown : s.vm.findClass RX4 = some m.cls := findClass_of_methodNamed B.named
  have hlocks := B.notSynchronized
  have hl := lv_entry ([.ref pu0]) (n := 2) (Nat.le_of_ble_eq_true rfl)
  rw [lg_entry_eq]
  generalize (lg_sl ([.ref pu0]) ++ List.replicate (2 - (lg_sl ([.ref pu0])).length) Slot.unset).toArray = ls at hl ⊢
  have hl : lv_has ls 2 [(0, .ref pu0)] := hl
  refine lv_aload_n hx hb dX4_nameOfLikeliest_0 rfl (lv_at hl 0 rfl) ?_
  refine rdV (As := []) (rest := []) ⟨hx, hb, hml, hown, hts⟩ (k_X4_likeliest2 l dC dI cI cZ cQ pu0 pu1 agr ans r_ans) (cwV 0 hts gX4_nameOfLikeliest_X4_likeliest rfl rfl rfl (by decide +kernel) ⟨Nat.le_of_ble_eq_true rfl, Nat.le_of_ble_eq_true rfl⟩) hP hK hN [0, 1] rfl 0 4 rfl rfl rfl hl.1 rfl (Nat.le_of_ble_eq_true rfl) dX4_nameOfLikeliest_1 ⟨Nat.le_of_ble_eq_true rfl, Nat.le_of_ble_eq_true rfl⟩ (fun r1 h2 => ?_)
  have h2 : (0 ≤ r1.toInt) ∧ (r1.toInt ≤ 80) ∧ (r1.toInt = ((lkF agr 80 : Nat) : Int)) := h2
  obtain ⟨h2_0, h2_1, h2_2⟩ := h2
  refine lv_istore_n (lv' := [(1, .int r1), (0, .ref pu0)]) hx hb dX4_nameOfLikeliest_4 rfl hl (by decide) rfl (fun ls hl => ?_)
  refine lv_bipush (v := 100) hx hb dX4_nameOfLikeliest_5 (by decide) ?_
  refine lv_iload_n hx hb dX4_nameOfLikeliest_7 rfl (lv_at hl 0 rfl) ?_
  refine rdS (As := [.int r1]) (rest := [.int 100]) ⟨hx, hb, hml, hown, hts⟩ (k_X4_lossOf2 l dC dI cI cZ cQ r1 (by omega) (by omega)) (va_cwS 1 hts gX4_nameOfLikeliest_X4_lossOf rfl rfl rfl (by decide +kernel) ⟨Nat.le_of_ble_eq_true rfl, Nat.le_of_ble_eq_true rfl⟩) hP hK hN [] rfl rfl hl.1 rfl (Nat.le_of_ble_eq_true rfl) dX4_nameOfLikeliest_8 ⟨Nat.le_of_ble_eq_true rfl, Nat.le_of_ble_eq_true rfl⟩ (fun r3 h4 => ?_)
  have h4 : (1 ≤ r3.toInt) ∧ (r3.toInt ≤ 9) ∧ (r3 = r1 / 9 + 1) ∧ (r3.toInt = r1.toInt / 9 + 1) := h4
  obtain ⟨h4_0, h4_1, h4_2, h4_3⟩ := h4
  refine lv_imul hx hb dX4_nameOfLikeliest_11 ?_
  have f5 : (100 * r3).toInt = (100) * (r3.toInt) := mulC (show (100 : Int32).toInt = 100 from rfl) rfl (by omega) (by omega)
  refine lv_iload_n hx hb dX4_nameOfLikeliest_12 rfl (lv_at hl 0 rfl) ?_
  refine rdS (As := [.int r1]) (rest := [.int (100 * r3)]) ⟨hx, hb, hml, hown, hts⟩ (k_X4_limitOf2 l dC dI cI cZ cQ r1 (by omega) (by omega)) (va_cwS 1 hts gX4_nameOfLikeliest_X4_limitOf rfl rfl rfl (by decide +kernel) ⟨Nat.le_of_ble_eq_true rfl, Nat.le_of_ble_eq_true rfl⟩) hP hK hN [] rfl rfl hl.1 rfl (Nat.le_of_ble_eq_true rfl) dX4_nameOfLikeliest_13 ⟨Nat.le_of_ble_eq_true rfl, Nat.le_of_ble_eq_true rfl⟩ (fun r6 h7 => ?_)
  have h7 : (10 ≤ r6.toInt) ∧ (r6.toInt ≤ 90) ∧ (r6 = (r1 - r1 / 9 * 9 + 1) * 10) ∧ (r6.toInt = (r1.toInt % 9 + 1) * 10) := h7
  obtain ⟨h7_0, h7_1, h7_2, h7_3⟩ := h7
  refine lv_iadd hx hb dX4_nameOfLikeliest_16 ?_
  have f8 : ((100 * r3) + r6).toInt = ((100) * (r3.toInt)) + (r6.toInt) := addC f5 rfl (by omega) (by omega)
  exact W.iret (v := (100 * r3) + r6) hx hb hr (fun tq ht hW => ⟨(100 * r3) + r6, rfl, (show ((100 * r3) + r6).toInt = nmL (lkF agr 80) from by (try rw [show ((100 * r3) + r6).toInt = ((100) * (r3.toInt)) + (r6.toInt) from f8]); (unfold nmL; omega)), ht⟩) (fun q h => by cases h) dX4_nameOfLikeliest_17
set_option maxHeartbeats 4000000 in
set_option maxRecDepth 100000 in
theorem k_X4_agreementOfLikeliest2 (l : Launch) (dC : Nat → ClassId) (dI : Nat → Nat → Nat) (cI cZ cQ : ClassId) (pu0 : Nat) (pu1 : Nat) (agr : Nat → Int32) (ans : Int32) (r_ans : 0 ≤ ans.toInt ∧ ans.toInt ≤ 12) : KR l yX4_agreementOfLikeliest wsX4_agreementOfLikeliest { frames := 1, cells := 0, slots := 0, locals := 22 } (dC, dI) (TY cI cZ cQ) (wPup cI cZ cQ pu0 pu1 agr ans) [.ref pu0] (fun r : Int32 => (r = agr (lkF agr 80))) := by
  refine Met.ofW (cc := cX4_agreementOfLikeliest) (maxL := 1) (ret := (some .int)) (by decide) rfl ?_
  intro p e s m args below meth c s₁ B hml hv
  obtain ⟨rfl, hP, hK, hN⟩ := hv
  have hx := B.exec
  have hb := B.bytes
  have hr := B.returns
  have hts := atoms_spec (ws := wsX4_agreementOfLikeliest) B.pre
  have hown : s.vm.findClass RX4 = some m.cls := findClass_of_methodNamed B.named
  have hlocks := B.notSynchronized
  have lf11 := hts (.fieldLink RX4 11 "PalaceOfRooms$Pupil" "agreement" "[I") (List.mem_cons_of_mem _ (List.mem_append_left _ (List.mem_of_getElem? (i := 0) rfl)))
  have inX4 : ∀ w ∈ wsX40, w ∈ wsX4_agreementOfLikeliest := fun w h => List.mem_cons_of_mem _ (List.mem_append_right _ h)
  have hl := lv_entry ([.ref pu0]) (n := 1) (Nat.le_of_ble_eq_true rfl)
  rw [lg_entry_eq]
  generalize (lg_sl ([.ref pu0]) ++ List.replicate (1 - (lg_sl ([.ref pu0])).length) Slot.unset).toArray = ls at hl ⊢
  have hl : lv_has ls 1 [(0, .ref pu0)] := hl
  refine lv_aload_n hx hb dX4_agreementOfLikeliest_0 rfl (lv_at hl 0 rfl) ?_
  refine va_get (D := (dC, dI)) (ci := 4) (v := .ref pu1) (C := RX4) (T := TX4) (N := 2) hx hb hts inX4 hown hK hP 0 rfl rfl 0 (by decide) lf11 (fun _ h9 => h9) rfl dX4_agreementOfLikeliest_1 ?_
  refine lv_aload_n hx hb dX4_agreementOfLikeliest_4 rfl (lv_at hl 0 rfl) ?_
  refine rdV (As := []) (rest := [.ref pu1]) ⟨hx, hb, hml, hown, hts⟩ (k_X4_likeliest2 l dC dI cI cZ cQ pu0 pu1 agr ans r_ans) (cwV 0 hts gX4_agreementOfLikeliest_X4_likeliest rfl rfl rfl (by decide +kernel) ⟨Nat.le_of_ble_eq_true rfl, Nat.le_of_ble_eq_true rfl⟩) hP hK hN [0, 1] rfl 0 4 rfl rfl rfl hl.1 rfl (Nat.le_of_ble_eq_true rfl) dX4_agreementOfLikeliest_5 ⟨Nat.le_of_ble_eq_true rfl, Nat.le_of_ble_eq_true rfl⟩ (fun r1 h2 => ?_)
  have h2 : (0 ≤ r1.toInt) ∧ (r1.toInt ≤ 80) ∧ (r1.toInt = ((lkF agr 80 : Nat) : Int)) := h2
  obtain ⟨h2_0, h2_1, h2_2⟩ := h2
  have b3 : vp_in r1 81 := inC rfl (by omega) (by omega)
  refine va_iald hx hb hK hP 1 0 rfl rfl b3 dX4_agreementOfLikeliest_8 ?_
  exact W.iret (v := agr r1.toNatClampNeg) hx hb hr (fun tq ht hW => ⟨agr r1.toNatClampNeg, rfl, (show (agr r1.toNatClampNeg) = agr (lkF agr 80) from by exact ag_at (by assumption)), ht⟩) (fun q h => by cases h) dX4_agreementOfLikeliest_9
