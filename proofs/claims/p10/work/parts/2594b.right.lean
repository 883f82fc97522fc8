set_option maxHeartbeats 4000000 in
set_option maxRecDepth 100000 in
theorem k_X1_strengthAgainst2 (l : Launch) (dC : Nat → ClassId) (dI : Nat → Nat → Nat) (cI cZ cQ : ClassId) (a : Nat → Nat) (top : Nat → Int32) (str : Nat → Int32) (gho : Nat → Int32) (ghs : Nat → Int32) (pto : Nat → Int32) (cro : Nat → Int32) (pla : Nat → Int32) (wal : Nat → Int32) (fal : Nat → Int32) (tel : Int32) (gai : Int32) (day : Int32) (mar : Nat → Int32) (co : Int32) (r_top : rg 48 (-1) (23) top) (r_str : rg 48 (0) (100) str) (r_gho : rg 48 (-1) (23) gho) (r_ghs : rg 48 (0) (100) ghs) (r_cro : rg 48 (0) (6) cro) (r_pla : rg 24 (-1) (47) pla) (r_fal : rg 11 (0) (30) fal) (r_gai : 0 ≤ gai.toInt ∧ gai.toInt ≤ 100) (r_day : 0 ≤ day.toInt ∧ day.toInt ≤ 400) (r_mar : rg 24 (0) (255) mar) (q0 : 0 ≤ co.toInt) (q1 : co.toInt ≤ 47) : KR l yX1_strengthAgainst wsX1_strengthAgainst { frames := 4, cells := 0, slots := 0, locals := 86 } (dC, dI) (TY cI cZ cQ) (wCor cI cZ cQ a top str gho ghs pto cro pla wal fal tel gai day mar) [.ref (a 4), .int co] (fun r : Int32 => (0 ≤ r.toInt) ∧ (r.toInt ≤ 700) ∧ (r.toInt = fnt gho ghs co.toNatClampNeg + agF mar top str tel co.toNatClampNeg (co.toNatClampNeg - co.toNatClampNeg % 6) 6)) := by
  refine Met.ofW (cc := cX1_strengthAgainst) (maxL := 5) (ret := (some .int)) (by decide) rfl ?_
  intro p e s m args below meth c s₁ B hml hv
  obtain ⟨rfl, hP, hK, hN⟩ := hv
  have hx := B.exec
  have hb := B.bytes
  have hr := B.returns
  have hts := atoms_spec (ws := wsX1_strengthAgainst) B.pre
  have hown : s.vm.findClass RX1 = some m.cls := findClass_of_methodNamed B.named
  have hlocks := B.notSynchronized
  have lf18 := hts (.fieldLink RX1 18 "PalaceOfRooms$Corners" "ghost" "[I") (by decide +kernel)
  have inX1 : ∀ w ∈ wsX10, w ∈ wsX1_strengthAgainst := fun w h => List.mem_cons_of_mem _ (List.mem_append_left _ (List.mem_append_right _ h))
  have lf21 := hts (.fieldLink RX1 21 "PalaceOfRooms$Corners" "ghostStrength" "[I") (by decide +kernel)
  have lf15 := hts (.fieldLink RX1 15 "PalaceOfRooms$Corners" "strength" "[I") (by decide +kernel)
  have hl := lv_entry ([.ref (a 4), .int co]) (n := 5) (Nat.le_of_ble_eq_true rfl)
  rw [lg_entry_eq]
  generalize (lg_sl ([.ref (a 4), .int co]) ++ List.replicate (5 - (lg_sl ([.ref (a 4), .int co])).length) Slot.unset).toArray = ls at hl ⊢
  have hl : lv_has ls 5 [(0, .ref (a 4)), (1, .int co)] := hl
  refine lv_aload_n hx hb dX1_strengthAgainst_0 rfl (lv_at hl 0 rfl) ?_
  refine va_get (D := (dC, dI)) (ci := 1) (v := .ref (a 7)) (C := RX1) (T := TX1) (N := 13) hx hb hts inX1 hown hK hP 0 rfl rfl 3 (by decide) lf18 (fun _ h9 => h9) rfl dX1_strengthAgainst_1 ?_
  refine lv_iload_n hx hb dX1_strengthAgainst_4 rfl (lv_at hl 1 rfl) ?_
  have b1 : vp_in co 48 := inC rfl (by omega) (by omega)
  refine va_iald hx hb hK hP 3 0 rfl rfl b1 dX1_strengthAgainst_5 ?_
  have g2 : -1 ≤ (gho co.toNatClampNeg).toInt ∧ (gho co.toNatClampNeg).toInt ≤ 23 := rg_at r_gho b1
  refine lv_iconst (v := (-1)) hx hb dX1_strengthAgainst_6 (by decide) ?_
  refine lv_icmp_ne (tgt := 14) hx hb dX1_strengthAgainst_7 (by decide) (fun c3 => ?_) (fun c3 => ?_)
  · have dc3 : 0 ≤ (gho co.toNatClampNeg).toInt := ka_lo (by omega) (neC rfl (show ((-1) : Int32).toInt = (-1) from rfl) c3)
    refine lv_aload_n hx hb dX1_strengthAgainst_14 rfl (lv_at hl 0 rfl) ?_
    refine va_get (D := (dC, dI)) (ci := 1) (v := .ref (a 8)) (C := RX1) (T := TX1) (N := 13) hx hb hts inX1 hown hK hP 0 rfl rfl 4 (by decide) lf21 (fun _ h9 => h9) rfl dX1_strengthAgainst_15 ?_
    refine lv_iload_n hx hb dX1_strengthAgainst_18 rfl (lv_at hl 1 rfl) ?_
    have b4 : vp_in co 48 := inC rfl (by omega) (by omega)
    refine va_iald hx hb hK hP 4 0 rfl rfl b4 dX1_strengthAgainst_19 ?_
    have g5 : 0 ≤ (ghs co.toNatClampNeg).toInt ∧ (ghs co.toNatClampNeg).toInt ≤ 100 := rg_at r_ghs b4
    refine lv_topi (fun x6 ex6 => ?_)
    have ix6 : x6.toInt = (ghs co.toNatClampNeg).toInt := by rw [ex6]
    refine lv_istore_n (lv' := [(2, .int x6), (0, .ref (a 4)), (1, .int co)]) hx hb dX1_strengthAgainst_20 rfl hl (by decide) rfl (fun ls hl => ?_)
    refine lv_iload_n hx hb dX1_strengthAgainst_21 rfl (lv_at hl 2 rfl) ?_
    refine lv_iload_n hx hb dX1_strengthAgainst_22 rfl (lv_at hl 2 rfl) ?_
    refine lv_bipush (v := 6) hx hb dX1_strengthAgainst_23 (by decide) ?_
    refine lv_irem hx hb dX1_strengthAgainst_25 (by decide) ?_
    have f7 : (co - co / 6 * 6).toInt = (co.toInt) % (6) := remC rfl (show (6 : Int32).toInt = 6 from rfl) (by omega) (by omega)
    refine lv_isub hx hb dX1_strengthAgainst_26 ?_
    have f8 : (co - (co - co / 6 * 6)).toInt = (co.toInt) - ((co.toInt) % (6)) := subC rfl f7 (by omega) (by omega)
    refine lv_topi (fun x9 ex9 => ?_)
    have ix9 : x9.toInt = (co.toInt) - ((co.toInt) % (6)) := by rw [ex9]; exact f8
    refine lv_istore_n (lv' := [(3, .int x9), (2, .int x6), (0, .ref (a 4)), (1, .int co)]) hx hb dX1_strengthAgainst_27 rfl hl (by decide) rfl (fun ls hl => ?_)
    refine lv_iload_n hx hb dX1_strengthAgainst_28 rfl (lv_at hl 0 rfl) ?_
    refine lv_istore (lv' := [(4, .int x9), (3, .int x9), (2, .int x6), (0, .ref (a 4)), (1, .int co)]) hx hb dX1_strengthAgainst_29 hl (by decide) rfl (fun ls hl => ?_)
    have L31 : ∀ (nn : Nat) (y31_2 : Int32) (y31_4 : Int32) (ls : Array Slot), (-5 ≤ (y31_4.toInt)) → ((y31_4.toInt) ≤ 53) → ((x9.toInt) ≤ (y31_4.toInt)) → ((y31_4.toInt) ≤ (x9.toInt) + 6) → (0 ≤ (y31_2.toInt)) → ((y31_2.toInt) ≤ 100 + 100 * ((y31_4.toInt) - (x9.toInt))) → ((y31_2.toInt) ≤ 700) → ((y31_2.toInt) = fnt gho ghs co.toNatClampNeg + agF mar top str tel co.toNatClampNeg x9.toNatClampNeg ((y31_4.toInt) - (x9.toInt)).toNat) → (53 - (y31_4.toInt)).toNat < nn → lv_has ls 5 [(0, .ref (a 4)), (1, .int co), (2, .int y31_2), (3, .int x9), (4, .int y31_4)] → W p l e (headSpec wsX1_strengthAgainst { frames := 4, cells := 0, slots := 0, locals := 86 }).room s m ([.ref (a 4), .int co] : List Value).toArray below meth c s.heap [] 0 0 (MQ below (QR (fun r : Int32 => (0 ≤ r.toInt) ∧ (r.toInt ≤ 700) ∧ (r.toInt = fnt gho ghs co.toNatClampNeg + agF mar top str tel co.toNatClampNeg (co.toNatClampNeg - co.toNatClampNeg % 6) 6))) ([.ref (a 4), .int co] : List Value).toArray s 0 0 (fun _ => False)) (F0 m 31 ls []) := by
      intro nn
      induction nn with
      | zero =>
        intro y31_2 y31_4 ls i31_0 i31_1 i31_2 i31_3 i31_4 i31_5 i31_6 i31_7 hm31
        exact absurd hm31 (Nat.not_lt_zero _)
      | succ nn ih31 =>
        intro y31_2 y31_4 ls i31_0 i31_1 i31_2 i31_3 i31_4 i31_5 i31_6 i31_7 hm31 hl
        refine lv_iload hx hb dX1_strengthAgainst_31 (lv_at hl 4 rfl) ?_
        refine lv_iload_n hx hb dX1_strengthAgainst_33 rfl (lv_at hl 3 rfl) ?_
        refine lv_bipush (v := 6) hx hb dX1_strengthAgainst_34 (by decide) ?_
        refine lv_iadd hx hb dX1_strengthAgainst_36 ?_
        have f10 : (x9 + 6).toInt = (x9.toInt) + (6) := addC rfl (show (6 : Int32).toInt = 6 from rfl) (by omega) (by omega)
        refine lv_icmp_ge (tgt := 66) hx hb dX1_strengthAgainst_37 (by decide) (fun c11 => ?_) (fun c11 => ?_)
        · have dc11 : (x9.toInt) + (6) ≤ y31_4.toInt := leC f10 rfl c11
          refine lv_iload_n hx hb dX1_strengthAgainst_66 rfl (lv_at hl 2 rfl) ?_
          exact W.iret (v := y31_2) hx hb hr (fun tq ht hW => ⟨y31_2, rfl, ⟨(show 0 ≤ y31_2.toInt from by omega), (show y31_2.toInt ≤ 700 from by omega), (show y31_2.toInt = fnt gho ghs co.toNatClampNeg + agF mar top str tel co.toNatClampNeg (co.toNatClampNeg - co.toNatClampNeg % 6) 6 from by (exact ag_end i31_7 (by omega) (by omega) (by omega)))⟩, ht⟩) (fun q h => by cases h) dX1_strengthAgainst_67
        · have dc11 : y31_4.toInt < (x9.toInt) + (6) := nleC f10 rfl c11
          refine lv_aload_n hx hb dX1_strengthAgainst_40 rfl (lv_at hl 0 rfl) ?_
          refine lv_iload hx hb dX1_strengthAgainst_41 (lv_at hl 4 rfl) ?_
          refine lv_iload_n hx hb dX1_strengthAgainst_43 rfl (lv_at hl 1 rfl) ?_
          refine rdV (As := [.int y31_4, .int co]) (rest := []) ⟨hx, hb, hml, hown, hts⟩ (k_X1_crowds2 l dC dI cI cZ cQ a top str gho ghs pto cro pla wal fal tel gai day mar y31_4 co r_top r_str r_gho r_ghs r_cro r_pla r_fal r_gai r_day r_mar (by omega) (by omega) (by omega) (by omega)) (cwV 2 hts gX1_strengthAgainst_X1_crowds rfl rfl rfl (by decide +kernel) ⟨Nat.le_of_ble_eq_true rfl, Nat.le_of_ble_eq_true rfl⟩) hP hK hN [0, 1, 2, 3, 4, 5, 6, 7, 8, 9, 10, 11] rfl 0 1 rfl rfl rfl hl.1 rfl (Nat.le_of_ble_eq_true rfl) dX1_strengthAgainst_44 ⟨Nat.le_of_ble_eq_true rfl, Nat.le_of_ble_eq_true rfl⟩ (fun r12 h13 => ?_)
          have h13 : ((((r12 = 1) ∧ (crdB mar top tel y31_4.toNatClampNeg co.toNatClampNeg = true)) ∨ ((r12 = 0) ∧ (crdB mar top tel y31_4.toNatClampNeg co.toNatClampNeg = false)))) := h13
          rcases h13 with (⟨rfl, h13_a0⟩ | ⟨rfl, h13_a0⟩)
          · refine lv_if_eq (tgt := 60) hx hb dX1_strengthAgainst_47 (by decide) (fun c9 => absurd c9 (by decide)) (fun _ => ?_)
            refine lv_iload_n hx hb dX1_strengthAgainst_50 rfl (lv_at hl 2 rfl) ?_
            refine lv_aload_n hx hb dX1_strengthAgainst_51 rfl (lv_at hl 0 rfl) ?_
            refine va_get (D := (dC, dI)) (ci := 1) (v := .ref (a 6)) (C := RX1) (T := TX1) (N := 13) hx hb hts inX1 hown hK hP 0 rfl rfl 2 (by decide) lf15 (fun _ h9 => h9) rfl dX1_strengthAgainst_52 ?_
            refine lv_iload hx hb dX1_strengthAgainst_55 (lv_at hl 4 rfl) ?_
            have b14 : vp_in y31_4 48 := inC rfl (by omega) (by omega)
            refine va_iald hx hb hK hP 2 0 rfl rfl b14 dX1_strengthAgainst_57 ?_
            have g15 : 0 ≤ (str y31_4.toNatClampNeg).toInt ∧ (str y31_4.toNatClampNeg).toInt ≤ 100 := rg_at r_str b14
            refine lv_iadd hx hb dX1_strengthAgainst_58 ?_
            have f16 : (y31_2 + (str y31_4.toNatClampNeg)).toInt = (y31_2.toInt) + ((str y31_4.toNatClampNeg).toInt) := addC rfl rfl (by omega) (by omega)
            refine lv_topi (fun x17 ex17 => ?_)
            have ix17 : x17.toInt = (y31_2.toInt) + ((str y31_4.toNatClampNeg).toInt) := by rw [ex17]; exact f16
            refine lv_istore_n (lv' := [(2, .int x17), (0, .ref (a 4)), (1, .int co), (3, .int x9), (4, .int y31_4)]) hx hb dX1_strengthAgainst_59 rfl hl (by decide) rfl (fun ls hl => ?_)
            obtain ⟨z18, ez18⟩ : ∃ y : Int32, y = y31_4 + 1 := ⟨_, rfl⟩
            have iz18 : z18.toInt = y31_4.toInt + 1 := by rw [ez18]; exact addC rfl rfl (by omega) (by omega)
            refine lv_iinc (v := z18) (lv' := [(4, .int z18), (2, .int x17), (0, .ref (a 4)), (1, .int co), (3, .int x9)]) hx hb dX1_strengthAgainst_60 hl (k := 4) rfl (by rw [ez18]; rfl) (by decide) rfl (fun ls hl => ?_)
            refine lv_goto (tgt := 31) hx hb dX1_strengthAgainst_63 (by decide) ?_
            exact ih31 x17 z18 _ (by omega) (by omega) (by omega) (by omega) (by omega) (by omega) (by omega) (by (first | exact ag_init (by first | exact it_pos (by assumption) (by first | rfl | omega) | exact it_neg (by assumption) (by first | assumption | omega)) (by omega) | exact ag_yes i31_7 (by assumption) (by omega) (by omega) (by omega) (by omega) (by omega) | exact ag_no i31_7 (by assumption) (by first | rfl | omega) (by omega) (by omega) (by omega) (by omega))) (by omega) (lv_sub hl [2, 3, 1, 4, 0] rfl)
          · refine lv_if_eq (tgt := 60) hx hb dX1_strengthAgainst_47 (by decide) (fun _ => ?_) (fun c9 => absurd (by decide) c9)
            obtain ⟨z19, ez19⟩ : ∃ y : Int32, y = y31_4 + 1 := ⟨_, rfl⟩
            have iz19 : z19.toInt = y31_4.toInt + 1 := by rw [ez19]; exact addC rfl rfl (by omega) (by omega)
            refine lv_iinc (v := z19) (lv' := [(4, .int z19), (0, .ref (a 4)), (1, .int co), (2, .int y31_2), (3, .int x9)]) hx hb dX1_strengthAgainst_60 hl (k := 4) rfl (by rw [ez19]; rfl) (by decide) rfl (fun ls hl => ?_)
            refine lv_goto (tgt := 31) hx hb dX1_strengthAgainst_63 (by decide) ?_
            exact ih31 y31_2 z19 _ (by omega) (by omega) (by omega) (by omega) (by omega) (by omega) (by omega) (by (first | exact ag_init (by first | exact it_pos (by assumption) (by first | rfl | omega) | exact it_neg (by assumption) (by first | assumption | omega)) (by omega) | exact ag_yes i31_7 (by assumption) (by omega) (by omega) (by omega) (by omega) (by omega) | exact ag_no i31_7 (by assumption) (by first | rfl | omega) (by omega) (by omega) (by omega) (by omega))) (by omega) (lv_sub hl [1, 2, 3, 4, 0] rfl)
    exact L31 _ x6 x9 _ (by omega) (by omega) (by omega) (by omega) (by omega) (by omega) (by omega) (by (first | exact ag_init (by first | exact it_pos (by assumption) (by first | rfl | omega) | exact it_neg (by assumption) (by first | assumption | omega)) (by omega) | exact ag_yes i31_7 (by assumption) (by omega) (by omega) (by omega) (by omega) (by omega) | exact ag_no i31_7 (by assumption) (by first | rfl | omega) (by omega) (by omega) (by omega) (by omega))) (Nat.lt_succ_self _) (lv_sub hl [3, 4, 2, 1, 0] rfl)
  · have dc3 : (gho co.toNatClampNeg).toInt = (-1) := eqC rfl (show ((-1) : Int32).toInt = (-1) from rfl) c3
    refine lv_iconst (v := 0) hx hb dX1_strengthAgainst_10 (by decide) ?_
    refine lv_goto (tgt := 20) hx hb dX1_strengthAgainst_11 (by decide) ?_
    refine lv_istore_n (lv' := [(2, .int 0), (0, .ref (a 4)), (1, .int co)]) hx hb dX1_strengthAgainst_20 rfl hl (by decide) rfl (fun ls hl => ?_)
    refine lv_iload_n hx hb dX1_strengthAgainst_21 rfl (lv_at hl 2 rfl) ?_
    refine lv_iload_n hx hb dX1_strengthAgainst_22 rfl (lv_at hl 2 rfl) ?_
    refine lv_bipush (v := 6) hx hb dX1_strengthAgainst_23 (by decide) ?_
    refine lv_irem hx hb dX1_strengthAgainst_25 (by decide) ?_
    have f20 : (co - co / 6 * 6).toInt = (co.toInt) % (6) := remC rfl (show (6 : Int32).toInt = 6 from rfl) (by omega) (by omega)
    refine lv_isub hx hb dX1_strengthAgainst_26 ?_
    have f21 : (co - (co - co / 6 * 6)).toInt = (co.toInt) - ((co.toInt) % (6)) := subC rfl f20 (by omega) (by omega)
    refine lv_topi (fun x22 ex22 => ?_)
    have ix22 : x22.toInt = (co.toInt) - ((co.toInt) % (6)) := by rw [ex22]; exact f21
    refine lv_istore_n (lv' := [(3, .int x22), (2, .int 0), (0, .ref (a 4)), (1, .int co)]) hx hb dX1_strengthAgainst_27 rfl hl (by decide) rfl (fun ls hl => ?_)
    refine lv_iload_n hx hb dX1_strengthAgainst_28 rfl (lv_at hl 0 rfl) ?_
    refine lv_istore (lv' := [(4, .int x22), (3, .int x22), (2, .int 0), (0, .ref (a 4)), (1, .int co)]) hx hb dX1_strengthAgainst_29 hl (by decide) rfl (fun ls hl => ?_)
    have L31 : ∀ (nn : Nat) (y31_2 : Int32) (y31_4 : Int32) (ls : Array Slot), (-5 ≤ (y31_4.toInt)) → ((y31_4.toInt) ≤ 53) → ((x22.toInt) ≤ (y31_4.toInt)) → ((y31_4.toInt) ≤ (x22.toInt) + 6) → (0 ≤ (y31_2.toInt)) → ((y31_2.toInt) ≤ 100 + 100 * ((y31_4.toInt) - (x22.toInt))) → ((y31_2.toInt) ≤ 700) → ((y31_2.toInt) = fnt gho ghs co.toNatClampNeg + agF mar top str tel co.toNatClampNeg x22.toNatClampNeg ((y31_4.toInt) - (x22.toInt)).toNat) → (53 - (y31_4.toInt)).toNat < nn → lv_has ls 5 [(0, .ref (a 4)), (1, .int co), (2, .int y31_2), (3, .int x22), (4, .int y31_4)] → W p l e (headSpec wsX1_strengthAgainst { frames := 4, cells := 0, slots := 0, locals := 86 }).room s m ([.ref (a 4), .int co] : List Value).toArray below meth c s.heap [] 0 0 (MQ below (QR (fun r : Int32 => (0 ≤ r.toInt) ∧ (r.toInt ≤ 700) ∧ (r.toInt = fnt gho ghs co.toNatClampNeg + agF mar top str tel co.toNatClampNeg (co.toNatClampNeg - co.toNatClampNeg % 6) 6))) ([.ref (a 4), .int co] : List Value).toArray s 0 0 (fun _ => False)) (F0 m 31 ls []) := by
      intro nn
      induction nn with
      | zero =>
        intro y31_2 y31_4 ls i31_0 i31_1 i31_2 i31_3 i31_4 i31_5 i31_6 i31_7 hm31
        exact absurd hm31 (Nat.not_lt_zero _)
      | succ nn ih31 =>
        intro y31_2 y31_4 ls i31_0 i31_1 i31_2 i31_3 i31_4 i31_5 i31_6 i31_7 hm31 hl
        refine lv_iload hx hb dX1_strengthAgainst_31 (lv_at hl 4 rfl) ?_
        refine lv_iload_n hx hb dX1_strengthAgainst_33 rfl (lv_at hl 3 rfl) ?_
        refine lv_bipush (v := 6) hx hb dX1_strengthAgainst_34 (by decide) ?_
        refine lv_iadd hx hb dX1_strengthAgainst_36 ?_
        have f23 : (x22 + 6).toInt = (x22.toInt) + (6) := addC rfl (show (6 : Int32).toInt = 6 from rfl) (by omega) (by omega)
        refine lv_icmp_ge (tgt := 66) hx hb dX1_strengthAgainst_37 (by decide) (fun c24 => ?_) (fun c24 => ?_)
        · have dc24 : (x22.toInt) + (6) ≤ y31_4.toInt := leC f23 rfl c24
          refine lv_iload_n hx hb dX1_strengthAgainst_66 rfl (lv_at hl 2 rfl) ?_
          exact W.iret (v := y31_2) hx hb hr (fun tq ht hW => ⟨y31_2, rfl, ⟨(show 0 ≤ y31_2.toInt from by omega), (show y31_2.toInt ≤ 700 from by omega), (show y31_2.toInt = fnt gho ghs co.toNatClampNeg + agF mar top str tel co.toNatClampNeg (co.toNatClampNeg - co.toNatClampNeg % 6) 6 from by (exact ag_end i31_7 (by omega) (by omega) (by omega)))⟩, ht⟩) (fun q h => by cases h) dX1_strengthAgainst_67
        · have dc24 : y31_4.toInt < (x22.toInt) + (6) := nleC f23 rfl c24
          refine lv_aload_n hx hb dX1_strengthAgainst_40 rfl (lv_at hl 0 rfl) ?_
          refine lv_iload hx hb dX1_strengthAgainst_41 (lv_at hl 4 rfl) ?_
          refine lv_iload_n hx hb dX1_strengthAgainst_43 rfl (lv_at hl 1 rfl) ?_
          refine rdV (As := [.int y31_4, .int co]) (rest := []) ⟨hx, hb, hml, hown, hts⟩ (k_X1_crowds2 l dC dI cI cZ cQ a top str gho ghs pto cro pla wal fal tel gai day mar y31_4 co r_top r_str r_gho r_ghs r_cro r_pla r_fal r_gai r_day r_mar (by omega) (by omega) (by omega) (by omega)) (cwV 2 hts gX1_strengthAgainst_X1_crowds rfl rfl rfl (by decide +kernel) ⟨Nat.le_of_ble_eq_true rfl, Nat.le_of_ble_eq_true rfl⟩) hP hK hN [0, 1, 2, 3, 4, 5, 6, 7, 8, 9, 10, 11] rfl 0 1 rfl rfl rfl hl.1 rfl (Nat.le_of_ble_eq_true rfl) dX1_strengthAgainst_44 ⟨Nat.le_of_ble_eq_true rfl, Nat.le_of_ble_eq_true rfl⟩ (fun r25 h26 => ?_)
          have h26 : ((((r25 = 1) ∧ (crdB mar top tel y31_4.toNatClampNeg co.toNatClampNeg = true)) ∨ ((r25 = 0) ∧ (crdB mar top tel y31_4.toNatClampNeg co.toNatClampNeg = false)))) := h26
          rcases h26 with (⟨rfl, h26_a0⟩ | ⟨rfl, h26_a0⟩)
          · refine lv_if_eq (tgt := 60) hx hb dX1_strengthAgainst_47 (by decide) (fun c9 => absurd c9 (by decide)) (fun _ => ?_)
            refine lv_iload_n hx hb dX1_strengthAgainst_50 rfl (lv_at hl 2 rfl) ?_
            refine lv_aload_n hx hb dX1_strengthAgainst_51 rfl (lv_at hl 0 rfl) ?_
            refine va_get (D := (dC, dI)) (ci := 1) (v := .ref (a 6)) (C := RX1) (T := TX1) (N := 13) hx hb hts inX1 hown hK hP 0 rfl rfl 2 (by decide) lf15 (fun _ h9 => h9) rfl dX1_strengthAgainst_52 ?_
            refine lv_iload hx hb dX1_strengthAgainst_55 (lv_at hl 4 rfl) ?_
            have b27 : vp_in y31_4 48 := inC rfl (by omega) (by omega)
            refine va_iald hx hb hK hP 2 0 rfl rfl b27 dX1_strengthAgainst_57 ?_
            have g28 : 0 ≤ (str y31_4.toNatClampNeg).toInt ∧ (str y31_4.toNatClampNeg).toInt ≤ 100 := rg_at r_str b27
            refine lv_iadd hx hb dX1_strengthAgainst_58 ?_
            have f29 : (y31_2 + (str y31_4.toNatClampNeg)).toInt = (y31_2.toInt) + ((str y31_4.toNatClampNeg).toInt) := addC rfl rfl (by omega) (by omega)
            refine lv_topi (fun x30 ex30 => ?_)
            have ix30 : x30.toInt = (y31_2.toInt) + ((str y31_4.toNatClampNeg).toInt) := by rw [ex30]; exact f29
            refine lv_istore_n (lv' := [(2, .int x30), (0, .ref (a 4)), (1, .int co), (3, .int x22), (4, .int y31_4)]) hx hb dX1_strengthAgainst_59 rfl hl (by decide) rfl (fun ls hl => ?_)
            obtain ⟨z31, ez31⟩ : ∃ y : Int32, y = y31_4 + 1 := ⟨_, rfl⟩
            have iz31 : z31.toInt = y31_4.toInt + 1 := by rw [ez31]; exact addC rfl rfl (by omega) (by omega)
            refine lv_iinc (v := z31) (lv' := [(4, .int z31), (2, .int x30), (0, .ref (a 4)), (1, .int co), (3, .int x22)]) hx hb dX1_strengthAgainst_60 hl (k := 4) rfl (by rw [ez31]; rfl) (by decide) rfl (fun ls hl => ?_)
            refine lv_goto (tgt := 31) hx hb dX1_strengthAgainst_63 (by decide) ?_
            exact ih31 x30 z31 _ (by omega) (by omega) (by omega) (by omega) (by omega) (by omega) (by omega) (by (first | exact ag_init (by first | exact it_pos (by assumption) (by first | rfl | omega) | exact it_neg (by assumption) (by first | assumption | omega)) (by omega) | exact ag_yes i31_7 (by assumption) (by omega) (by omega) (by omega) (by omega) (by omega) | exact ag_no i31_7 (by assumption) (by first | rfl | omega) (by omega) (by omega) (by omega) (by omega))) (by omega) (lv_sub hl [2, 3, 1, 4, 0] rfl)
          · refine lv_if_eq (tgt := 60) hx hb dX1_strengthAgainst_47 (by decide) (fun _ => ?_) (fun c9 => absurd (by decide) c9)
            obtain ⟨z32, ez32⟩ : ∃ y : Int32, y = y31_4 + 1 := ⟨_, rfl⟩
            have iz32 : z32.toInt = y31_4.toInt + 1 := by rw [ez32]; exact addC rfl rfl (by omega) (by omega)
            refine lv_iinc (v := z32) (lv' := [(4, .int z32), (0, .ref (a 4)), (1, .int co), (2, .int y31_2), (3, .int x22)]) hx hb dX1_strengthAgainst_60 hl (k := 4) rfl (by rw [ez32]; rfl) (by decide) rfl (fun ls hl => ?_)
            refine lv_goto (tgt := 31) hx hb dX1_strengthAgainst_63 (by decide) ?_
            exact ih31 y31_2 z32 _ (by omega) (by omega) (by omega) (by omega) (by omega) (by omega) (by omega) (by (first | exact ag_init (by first | exact it_pos (by assumption) (by first | rfl | omega) | exact it_neg (by assumption) (by first | assumption | omega)) (by omega) | exact ag_yes i31_7 (by assumption) (by omega) (by omega) (by omega) (by omega) (by omega) | exact ag_no i31_7 (by assumption) (by first | rfl | omega) (by omega) (by omega) (by omega) (by omega))) (by omega) (lv_sub hl [1, 2, 3, 4, 0] rfl)
    have kc33 : (0 : Int32).toInt = 0 := rfl
    exact L31 _ 0 x22 _ (by omega) (by omega) (by omega) (by omega) (by omega) (by omega) (by omega) (by (first | exact ag_init (by first | exact it_pos (by assumption) (by first | rfl | omega) | exact it_neg (by assumption) (by first | assumption | omega)) (by omega) | exact ag_yes i31_7 (by assumption) (by omega) (by omega) (by omega) (by omega) (by omega) | exact ag_no i31_7 (by assumption) (by first | rfl | omega) (by omega) (by omega) (by omega) (by omega))) (Nat.lt_succ_self _) (lv_sub hl [3, 4, 2, 1, 0] rfl)
