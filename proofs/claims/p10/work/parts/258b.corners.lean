set_option maxHeartbeats 4000000 in
set_option maxRecDepth 100000 in
theorem k_X1_countCrowds2 (l : Launch) (dC : Nat → ClassId) (dI : Nat → Nat → Nat) (cI cZ cQ : ClassId) (a : Nat → Nat) (top : Nat → Int32) (str : Nat → Int32) (gho : Nat → Int32) (ghs : Nat → Int32) (pto : Nat → Int32) (cro : Nat → Int32) (pla : Nat → Int32) (wal : Nat → Int32) (fal : Nat → Int32) (tel : Int32) (gai : Int32) (day : Int32) (mar : Nat → Int32) (sz : Nat) (r_top : rg 48 (-1) (23) top) (r_str : rg 48 (0) (100) str) (r_gho : rg 48 (-1) (23) gho) (r_ghs : rg 48 (0) (100) ghs) (r_cro : rg 48 (0) (6) cro) (r_pla : rg 24 (-1) (47) pla) (r_fal : rg 11 (0) (30) fal) (r_gai : 0 ≤ gai.toInt ∧ gai.toInt ≤ 100) (r_day : 0 ≤ day.toInt ∧ day.toInt ≤ 400) (r_mar : rg 24 (0) (255) mar) : KV l yX1_countCrowds wsX1_countCrowds { frames := 4, cells := 0, slots := 0, locals := 86 } (dC, dI) (TY cI cZ cQ) (wCor cI cZ cQ a top str gho ghs pto cro pla wal fal tel gai day mar) [.ref (a 4)] sz 0 0 (fun (u : US) => (∀ j : Nat, j < 48 → ((u.1 0) j).toInt = cwF mar top tel j (j - j % 6) 6) ∧ (rg 48 (0) (6) (u.1 0))) (fun u : US => (wCor cI cZ cQ a top str gho ghs pto (u.1 0) pla wal fal tel gai day mar)) := by
  refine Met.ofW (cc := cX1_countCrowds) (maxL := 4) (ret := none) (by decide) rfl ?_
  intro p e s m args below meth c s₁ B hml hv
  obtain ⟨rfl, hsz, hP, hK, hD0, hN⟩ := hv
  have hx := B.exec
  have hb := B.bytes
  have hr := B.returns
  have hts := atoms_spec (ws := wsX1_countCrowds) B.pre
  have hown : s.vm.findClass RX1 = some m.cls := findClass_of_methodNamed B.named
  have hlocks := B.notSynchronized
  have lf27 := hts (.fieldLink RX1 27 "PalaceOfRooms$Corners" "crowd" "[I") (by decide +kernel)
  have inX1 : ∀ w ∈ wsX10, w ∈ wsX1_countCrowds := fun w h => List.mem_cons_of_mem _ (List.mem_append_left _ (List.mem_append_right _ h))
  subst hsz
  have hD := hD0.self (sz := s.heap.size)
  generalize hAe : va_A (wCor cI cZ cQ a top str gho ghs pto cro pla wal fal tel gai day mar) s.heap.size = A at hD ⊢
  have hA : ∀ q : Nat, s.heap.size ≤ q → A q := fun q h => by rw [← hAe]; exact Or.inr h
  have hS : va_S A s.heap s.heap [] := va_S.rf
  have hl := lv_entry ([.ref (a 4)]) (n := 4) (Nat.le_of_ble_eq_true rfl)
  rw [lg_entry_eq]
  generalize (lg_sl ([.ref (a 4)]) ++ List.replicate (4 - (lg_sl ([.ref (a 4)])).length) Slot.unset).toArray = ls at hl ⊢
  have hl : lv_has ls 4 [(0, .ref (a 4))] := hl
  refine lv_iconst (v := 0) hx hb dX1_countCrowds_0 (by decide) ?_
  refine lv_istore_n (lv' := [(1, .int 0), (0, .ref (a 4))]) hx hb dX1_countCrowds_1 rfl hl (by decide) rfl (fun ls hl => ?_)
  have L2 : ∀ (nn : Nat) (y2_1 : Int32) (cro_2 : Nat → Int32) (H : Heap) (locs : List Loc) (ls : Array Slot), (rg 48 (0) (6) cro_2) → (0 ≤ (y2_1.toInt)) → ((y2_1.toInt) ≤ 48) → (∀ j : Nat, (j : Int) < (y2_1.toInt) → (cro_2 j).toInt = cwF mar top tel j (j - j % 6) 6) → (48 - (y2_1.toInt)).toNat < nn → va_P (dC, dI) vwCl (wCor cI cZ cQ a top str gho ghs pto cro_2 pla wal fal tel gai day mar) H → va_D A (wCor cI cZ cQ a top str gho ghs pto cro_2 pla wal fal tel gai day mar) → va_S A s.heap H locs → lv_has ls 4 [(0, .ref (a 4)), (1, .int y2_1)] → W p l e (headSpec wsX1_countCrowds { frames := 4, cells := 0, slots := 0, locals := 86 }).room s m ([.ref (a 4)] : List Value).toArray below meth c H locs 0 0 (MQ below (va_Qv (fun (u : US) => (∀ j : Nat, j < 48 → ((u.1 0) j).toInt = cwF mar top tel j (j - j % 6) 6) ∧ (rg 48 (0) (6) (u.1 0))) (Bw (dC, dI) A (fun u : US => (wCor cI cZ cQ a top str gho ghs pto (u.1 0) pla wal fal tel gai day mar))) A) ([.ref (a 4)] : List Value).toArray s 0 0 A) (F0 m 2 ls []) := by
    intro nn
    induction nn with
    | zero =>
      intro y2_1 cro_2 H locs ls r_cro_2 i2_0 i2_1 i2_2 hm2
      exact absurd hm2 (Nat.not_lt_zero _)
    | succ nn ih2 =>
      intro y2_1 cro_2 H locs ls r_cro_2 i2_0 i2_1 i2_2 hm2 hP hD hS hl
      refine lv_iload_n hx hb dX1_countCrowds_2 rfl (lv_at hl 1 rfl) ?_
      refine lv_bipush (v := 48) hx hb dX1_countCrowds_3 (by decide) ?_
      refine lv_icmp_ge (tgt := 63) hx hb dX1_countCrowds_5 (by decide) (fun c1 => ?_) (fun c1 => ?_)
      · have dc1 : 48 ≤ y2_1.toInt := leC (show (48 : Int32).toInt = 48 from rfl) rfl c1
        exact W.vret hx hb hr (fun tq ht hW => ⟨⟨(uS [cro_2] 0 (fun _ => 0)), rfl, ⟨(show ∀ j : Nat, j < 48 → (cro_2 j).toInt = cwF mar top tel j (j - j % 6) 6 from by (intro j hj; exact i2_2 j (by omega))), r_cro_2⟩, by rw [ht]; exact hP, hD⟩, hS.F ht⟩) hS.2.2 dX1_countCrowds_63
      · have dc1 : y2_1.toInt < 48 := nleC (show (48 : Int32).toInt = 48 from rfl) rfl c1
        refine lv_aload_n hx hb dX1_countCrowds_8 rfl (lv_at hl 0 rfl) ?_
        refine va_get (D := (dC, dI)) (ci := 1) (v := .ref (a 10)) (C := RX1) (T := TX1) (N := 13) hx hb hts inX1 hown hK hP 0 rfl rfl 6 (by decide) lf27 (fun _ h9 => h9) rfl dX1_countCrowds_9 ?_
        refine lv_iload_n hx hb dX1_countCrowds_12 rfl (lv_at hl 1 rfl) ?_
        refine lv_iconst (v := 0) hx hb dX1_countCrowds_13 (by decide) ?_
        have b2 : vp_in y2_1 48 := inC rfl (by omega) (by omega)
        have g3 : rg 48 (0) (6) (upd cro_2 y2_1.toNatClampNeg 0) := rg_upd r_cro_2 (show (0 : Int32).toInt = 0 from rfl) (by omega) (by omega)
        refine va_iast hx hb hK hP hD hS 6 0 rfl rfl b2 dX1_countCrowds_14 (fun H locs hP hD hS => ?_)
        obtain ⟨cro_u4, ecro_u4⟩ : ∃ f : Nat → Int32, f = upd cro_2 y2_1.toNatClampNeg 0 := ⟨_, rfl⟩
        have rcro_u4 : rg 48 (0) (6) cro_u4 := by rw [ecro_u4]; exact g3
        have hP : va_P (dC, dI) vwCl (wCor cI cZ cQ a top str gho ghs pto cro_u4 pla wal fal tel gai day mar) H := by rw [ecro_u4]; exact hP
        have hD : va_D A (wCor cI cZ cQ a top str gho ghs pto cro_u4 pla wal fal tel gai day mar) := by rw [ecro_u4]; exact hD
        refine lv_iload_n hx hb dX1_countCrowds_15 rfl (lv_at hl 1 rfl) ?_
        refine lv_iload_n hx hb dX1_countCrowds_16 rfl (lv_at hl 1 rfl) ?_
        refine lv_bipush (v := 6) hx hb dX1_countCrowds_17 (by decide) ?_
        refine lv_irem hx hb dX1_countCrowds_19 (by decide) ?_
        have f5 : (y2_1 - y2_1 / 6 * 6).toInt = (y2_1.toInt) % (6) := remC rfl (show (6 : Int32).toInt = 6 from rfl) (by omega) (by omega)
        refine lv_isub hx hb dX1_countCrowds_20 ?_
        have f6 : (y2_1 - (y2_1 - y2_1 / 6 * 6)).toInt = (y2_1.toInt) - ((y2_1.toInt) % (6)) := subC rfl f5 (by omega) (by omega)
        refine lv_topi (fun x7 ex7 => ?_)
        have ix7 : x7.toInt = (y2_1.toInt) - ((y2_1.toInt) % (6)) := by rw [ex7]; exact f6
        refine lv_istore_n (lv' := [(2, .int x7), (0, .ref (a 4)), (1, .int y2_1)]) hx hb dX1_countCrowds_21 rfl hl (by decide) rfl (fun ls hl => ?_)
        refine lv_iload_n hx hb dX1_countCrowds_22 rfl (lv_at hl 0 rfl) ?_
        refine lv_istore_n (lv' := [(3, .int x7), (2, .int x7), (0, .ref (a 4)), (1, .int y2_1)]) hx hb dX1_countCrowds_23 rfl hl (by decide) rfl (fun ls hl => ?_)
        have L24 : ∀ (nn : Nat) (y24_3 : Int32) (cro_24 : Nat → Int32) (H : Heap) (locs : List Loc) (ls : Array Slot), (rg 48 (0) (6) cro_24) → (-5 ≤ (y24_3.toInt)) → ((y24_3.toInt) ≤ 53) → ((cro_24 y2_1.toNatClampNeg).toInt ≤ (y24_3.toInt) - (x7.toInt)) → ((x7.toInt) ≤ (y24_3.toInt)) → (∀ j : Nat, (j : Int) < (y2_1.toInt) → (cro_24 j).toInt = cwF mar top tel j (j - j % 6) 6) → ((cro_24 y2_1.toNatClampNeg).toInt = cwF mar top tel y2_1.toNatClampNeg x7.toNatClampNeg ((y24_3.toInt) - (x7.toInt)).toNat) → ((y24_3.toInt) ≤ (x7.toInt) + 6) → (53 - (y24_3.toInt)).toNat < nn → va_P (dC, dI) vwCl (wCor cI cZ cQ a top str gho ghs pto cro_24 pla wal fal tel gai day mar) H → va_D A (wCor cI cZ cQ a top str gho ghs pto cro_24 pla wal fal tel gai day mar) → va_S A s.heap H locs → lv_has ls 4 [(0, .ref (a 4)), (1, .int y2_1), (2, .int x7), (3, .int y24_3)] → W p l e (headSpec wsX1_countCrowds { frames := 4, cells := 0, slots := 0, locals := 86 }).room s m ([.ref (a 4)] : List Value).toArray below meth c H locs 0 0 (MQ below (va_Qv (fun (u : US) => (∀ j : Nat, j < 48 → ((u.1 0) j).toInt = cwF mar top tel j (j - j % 6) 6) ∧ (rg 48 (0) (6) (u.1 0))) (Bw (dC, dI) A (fun u : US => (wCor cI cZ cQ a top str gho ghs pto (u.1 0) pla wal fal tel gai day mar))) A) ([.ref (a 4)] : List Value).toArray s 0 0 A) (F0 m 24 ls []) := by
          intro nn
          induction nn with
          | zero =>
            intro y24_3 cro_24 H locs ls r_cro_24 i24_0 i24_1 i24_2 i24_3 i24_4 i24_5 i24_6 hm24
            exact absurd hm24 (Nat.not_lt_zero _)
          | succ nn ih24 =>
            intro y24_3 cro_24 H locs ls r_cro_24 i24_0 i24_1 i24_2 i24_3 i24_4 i24_5 i24_6 hm24 hP hD hS hl
            refine lv_iload_n hx hb dX1_countCrowds_24 rfl (lv_at hl 3 rfl) ?_
            refine lv_iload_n hx hb dX1_countCrowds_25 rfl (lv_at hl 2 rfl) ?_
            refine lv_bipush (v := 6) hx hb dX1_countCrowds_26 (by decide) ?_
            refine lv_iadd hx hb dX1_countCrowds_28 ?_
            have f8 : (x7 + 6).toInt = (x7.toInt) + (6) := addC rfl (show (6 : Int32).toInt = 6 from rfl) (by omega) (by omega)
            refine lv_icmp_ge (tgt := 57) hx hb dX1_countCrowds_29 (by decide) (fun c9 => ?_) (fun c9 => ?_)
            · have dc9 : (x7.toInt) + (6) ≤ y24_3.toInt := leC f8 rfl c9
              obtain ⟨z10, ez10⟩ : ∃ y : Int32, y = y2_1 + 1 := ⟨_, rfl⟩
              have iz10 : z10.toInt = y2_1.toInt + 1 := by rw [ez10]; exact addC rfl rfl (by omega) (by omega)
              refine lv_iinc (v := z10) (lv' := [(1, .int z10), (0, .ref (a 4)), (2, .int x7), (3, .int y24_3)]) hx hb dX1_countCrowds_57 hl (k := 1) rfl (by rw [ez10]; rfl) (by decide) rfl (fun ls hl => ?_)
              refine lv_goto (tgt := 2) hx hb dX1_countCrowds_60 (by decide) ?_
              exact ih2 z10 cro_24 _ _ _ r_cro_24 (by omega) (by omega) (by (first | (intro j hj; omega) | exact cw_next i24_4 i24_5 (by omega) (by omega) (by omega) (by omega))) (by omega) hP hD hS (lv_sub hl [1, 0] rfl)
            · have dc9 : y24_3.toInt < (x7.toInt) + (6) := nleC f8 rfl c9
              refine lv_aload_n hx hb dX1_countCrowds_32 rfl (lv_at hl 0 rfl) ?_
              refine lv_iload_n hx hb dX1_countCrowds_33 rfl (lv_at hl 3 rfl) ?_
              refine lv_iload_n hx hb dX1_countCrowds_34 rfl (lv_at hl 1 rfl) ?_
              refine rdV (As := [.int y24_3, .int y2_1]) (rest := []) ⟨hx, hb, hml, hown, hts⟩ (k_X1_crowds2 l dC dI cI cZ cQ a top str gho ghs pto cro_24 pla wal fal tel gai day mar y24_3 y2_1 r_top r_str r_gho r_ghs r_cro_24 r_pla r_fal r_gai r_day r_mar (by omega) (by omega) (by omega) (by omega)) (cwV 2 hts gX1_countCrowds_X1_crowds rfl rfl rfl (by decide +kernel) ⟨Nat.le_of_ble_eq_true rfl, Nat.le_of_ble_eq_true rfl⟩) hP hK hN [0, 1, 2, 3, 4, 5, 6, 7, 8, 9, 10, 11] rfl 0 1 rfl rfl rfl hl.1 rfl (Nat.le_of_ble_eq_true rfl) dX1_countCrowds_35 ⟨Nat.le_of_ble_eq_true rfl, Nat.le_of_ble_eq_true rfl⟩ (fun r11 h12 => ?_)
              have h12 : ((((r11 = 1) ∧ (crdB mar top tel y24_3.toNatClampNeg y2_1.toNatClampNeg = true)) ∨ ((r11 = 0) ∧ (crdB mar top tel y24_3.toNatClampNeg y2_1.toNatClampNeg = false)))) := h12
              rcases h12 with (⟨rfl, h12_a0⟩ | ⟨rfl, h12_a0⟩)
              · refine lv_if_eq (tgt := 51) hx hb dX1_countCrowds_38 (by decide) (fun c9 => absurd c9 (by decide)) (fun _ => ?_)
                refine lv_aload_n hx hb dX1_countCrowds_41 rfl (lv_at hl 0 rfl) ?_
                refine va_get (D := (dC, dI)) (ci := 1) (v := .ref (a 10)) (C := RX1) (T := TX1) (N := 13) hx hb hts inX1 hown hK hP 0 rfl rfl 6 (by decide) lf27 (fun _ h9 => h9) rfl dX1_countCrowds_42 ?_
                refine lv_iload_n hx hb dX1_countCrowds_45 rfl (lv_at hl 1 rfl) ?_
                refine lv_dup2_11 hx hb dX1_countCrowds_46 rfl rfl ?_
                have b13 : vp_in y2_1 48 := inC rfl (by omega) (by omega)
                refine va_iald hx hb hK hP 6 0 rfl rfl b13 dX1_countCrowds_47 ?_
                have g14 : 0 ≤ (cro_24 y2_1.toNatClampNeg).toInt ∧ (cro_24 y2_1.toNatClampNeg).toInt ≤ 6 := rg_at r_cro_24 b13
                refine lv_iconst (v := 1) hx hb dX1_countCrowds_48 (by decide) ?_
                refine lv_iadd hx hb dX1_countCrowds_49 ?_
                have f15 : ((cro_24 y2_1.toNatClampNeg) + 1).toInt = ((cro_24 y2_1.toNatClampNeg).toInt) + (1) := addC rfl (show (1 : Int32).toInt = 1 from rfl) (by omega) (by omega)
                refine lv_topi (fun x16 ex16 => ?_)
                have ix16 : x16.toInt = ((cro_24 y2_1.toNatClampNeg).toInt) + (1) := by rw [ex16]; exact f15
                have b17 : vp_in y2_1 48 := inC rfl (by omega) (by omega)
                have g18 : rg 48 (0) (6) (upd cro_24 y2_1.toNatClampNeg x16) := rg_upd r_cro_24 rfl (by omega) (by omega)
                refine va_iast hx hb hK hP hD hS 6 0 rfl rfl b17 dX1_countCrowds_50 (fun H locs hP hD hS => ?_)
                obtain ⟨cro_u19, ecro_u19⟩ : ∃ f : Nat → Int32, f = upd cro_24 y2_1.toNatClampNeg x16 := ⟨_, rfl⟩
                have rcro_u19 : rg 48 (0) (6) cro_u19 := by rw [ecro_u19]; exact g18
                have hP : va_P (dC, dI) vwCl (wCor cI cZ cQ a top str gho ghs pto cro_u19 pla wal fal tel gai day mar) H := by rw [ecro_u19]; exact hP
                have hD : va_D A (wCor cI cZ cQ a top str gho ghs pto cro_u19 pla wal fal tel gai day mar) := by rw [ecro_u19]; exact hD
                obtain ⟨z20, ez20⟩ : ∃ y : Int32, y = y24_3 + 1 := ⟨_, rfl⟩
                have iz20 : z20.toInt = y24_3.toInt + 1 := by rw [ez20]; exact addC rfl rfl (by omega) (by omega)
                refine lv_iinc (v := z20) (lv' := [(3, .int z20), (0, .ref (a 4)), (1, .int y2_1), (2, .int x7)]) hx hb dX1_countCrowds_51 hl (k := 3) rfl (by rw [ez20]; rfl) (by decide) rfl (fun ls hl => ?_)
                refine lv_goto (tgt := 24) hx hb dX1_countCrowds_54 (by decide) ?_
                exact ih24 z20 cro_u19 _ _ _ rcro_u19 (by omega) (by omega) (by (first | omega | (subst_vars; simp only [pk_us, Int32.toInt_zero]; omega))) (by omega) (by (first | exact cw_keep (by assumption) (by omega) i24_4 | exact i24_4 | exact cw_keep (by assumption) (by omega) i2_2)) (by (first | exact cw_zero (by assumption) (by first | rfl | assumption) (by omega) | exact cw_yes (by assumption) (by omega) i24_5 (by assumption) (by omega) (by omega) (by omega) (by omega) | exact cw_no i24_5 (by assumption) (by omega) (by omega) (by omega) (by omega))) (by omega) (by omega) hP hD hS (lv_sub hl [1, 2, 3, 0] rfl)
              · refine lv_if_eq (tgt := 51) hx hb dX1_countCrowds_38 (by decide) (fun _ => ?_) (fun c9 => absurd (by decide) c9)
                obtain ⟨z21, ez21⟩ : ∃ y : Int32, y = y24_3 + 1 := ⟨_, rfl⟩
                have iz21 : z21.toInt = y24_3.toInt + 1 := by rw [ez21]; exact addC rfl rfl (by omega) (by omega)
                refine lv_iinc (v := z21) (lv' := [(3, .int z21), (0, .ref (a 4)), (1, .int y2_1), (2, .int x7)]) hx hb dX1_countCrowds_51 hl (k := 3) rfl (by rw [ez21]; rfl) (by decide) rfl (fun ls hl => ?_)
                refine lv_goto (tgt := 24) hx hb dX1_countCrowds_54 (by decide) ?_
                exact ih24 z21 cro_24 _ _ _ r_cro_24 (by omega) (by omega) (by (first | omega | (subst_vars; simp only [pk_us, Int32.toInt_zero]; omega))) (by omega) (by (first | exact cw_keep (by assumption) (by omega) i24_4 | exact i24_4 | exact cw_keep (by assumption) (by omega) i2_2)) (by (first | exact cw_zero (by assumption) (by first | rfl | assumption) (by omega) | exact cw_yes (by assumption) (by omega) i24_5 (by assumption) (by omega) (by omega) (by omega) (by omega) | exact cw_no i24_5 (by assumption) (by omega) (by omega) (by omega) (by omega))) (by omega) (by omega) hP hD hS (lv_sub hl [1, 2, 3, 0] rfl)
        exact L24 _ x7 cro_u4 _ _ _ rcro_u4 (by omega) (by omega) (by (first | omega | (subst_vars; simp only [pk_us, Int32.toInt_zero]; omega))) (by omega) (by (first | exact cw_keep (by assumption) (by omega) i24_4 | exact i24_4 | exact cw_keep (by assumption) (by omega) i2_2)) (by (first | exact cw_zero (by assumption) (by first | rfl | assumption) (by omega) | exact cw_yes (by assumption) (by omega) i24_5 (by assumption) (by omega) (by omega) (by omega) (by omega) | exact cw_no i24_5 (by assumption) (by omega) (by omega) (by omega) (by omega))) (by omega) (Nat.lt_succ_self _) hP hD hS (lv_sub hl [2, 3, 1, 0] rfl)
  have kc22 : (0 : Int32).toInt = 0 := rfl
  exact L2 _ 0 cro _ _ _ r_cro (by omega) (by omega) (by (first | (intro j hj; omega) | exact cw_next i24_4 i24_5 (by omega) (by omega) (by omega) (by omega))) (Nat.lt_succ_self _) hP hD hS (lv_sub hl [1, 0] rfl)
