set_option maxHeartbeats 4000000 in
set_option maxRecDepth 100000 in
theorem k_X1_strengthBehind3 (l : Launch) (dC : Nat → ClassId) (dI : Nat → Nat → Nat) (cI cZ cQ : ClassId) (a : Nat → Nat) (top : Nat → Int32) (str : Nat → Int32) (gho : Nat → Int32) (ghs : Nat → Int32) (pto : Nat → Int32) (cro : Nat → Int32) (pla : Nat → Int32) (wal : Nat → Int32) (fal : Nat → Int32) (tel : Int32) (gai : Int32) (day : Int32) (mar : Nat → Int32) (co : Int32) (n : Int32) (wd : Int32) (r_top : rg 48 (-1) (23) top) (r_str : rg 48 (0) (100) str) (r_gho : rg 48 (-1) (23) gho) (r_ghs : rg 48 (0) (100) ghs) (r_cro : rg 48 (0) (6) cro) (r_pla : rg 24 (-1) (47) pla) (r_fal : rg 11 (0) (30) fal) (r_gai : 0 ≤ gai.toInt ∧ gai.toInt ≤ 100) (r_day : 0 ≤ day.toInt ∧ day.toInt ≤ 400) (r_mar : rg 24 (0) (255) mar) (q0 : 0 ≤ co.toInt) (q1 : co.toInt ≤ 47) (q2 : 0 ≤ n.toInt) (q3 : n.toInt ≤ 60) : KR l yX1_strengthBehind wsX1_strengthBehind { frames := 2, cells := 0, slots := 0, locals := 46 } (dC, dI) (TY cI cZ cQ) (wCor cI cZ cQ a top str gho ghs pto cro pla wal fal tel gai day mar) [.ref (a 4), .int co, .int n, .int wd] (fun r : Int32 => (0 ≤ r.toInt) ∧ (r.toInt ≤ 100) ∧ (r.toInt = svF fal (cro co.toNatClampNeg).toInt gai.toInt (bitW wd) (str co.toNatClampNeg).toInt n.toInt.toNat)) := by
  refine Met.ofW (cc := cX1_strengthBehind) (maxL := 6) (ret := (some .int)) (by decide) rfl ?_
  intro p e s m args below meth c s₁ B hml hv
  obtain ⟨rfl, hP, hK, hN⟩ := hv
  have hx := B.exec
  have hb := B.bytes
  have hr := B.returns
  have hts := atoms_spec (ws := wsX1_strengthBehind) B.pre
  have hown : s.vm.findClass RX1 = some m.cls := findClass_of_methodNamed B.named
  have hlocks := B.notSynchronized
  have lf15 := hts (.fieldLink RX1 15 "PalaceOfRooms$Corners" "strength" "[I") (List.mem_cons_of_mem _ (List.mem_append_left _ (List.mem_of_getElem? (i := 0) rfl)))
  have inX1 : ∀ w ∈ wsX10, w ∈ wsX1_strengthBehind := fun w h => List.mem_cons_of_mem _ (List.mem_append_right _ h)
  have lf27 := hts (.fieldLink RX1 27 "PalaceOfRooms$Corners" "crowd" "[I") (List.mem_cons_of_mem _ (List.mem_append_left _ (List.mem_of_getElem? (i := 1) rfl)))
  have hl := lv_entry ([.ref (a 4), .int co, .int n, .int wd]) (n := 6) (Nat.le_of_ble_eq_true rfl)
  rw [lg_entry_eq]
  generalize (lg_sl ([.ref (a 4), .int co, .int n, .int wd]) ++ List.replicate (6 - (lg_sl ([.ref (a 4), .int co, .int n, .int wd])).length) Slot.unset).toArray = ls at hl ⊢
  have hl : lv_has ls 6 [(0, .ref (a 4)), (1, .int co), (2, .int n), (3, .int wd)] := hl
  refine lv_aload_n hx hb dX1_strengthBehind_0 rfl (lv_at hl 0 rfl) ?_
  refine va_get (D := (dC, dI)) (ci := 1) (v := .ref (a 6)) (C := RX1) (T := TX1) (N := 13) hx hb hts inX1 hown hK hP 0 rfl rfl 2 (by decide) lf15 (fun _ h9 => h9) rfl dX1_strengthBehind_1 ?_
  refine lv_iload_n hx hb dX1_strengthBehind_4 rfl (lv_at hl 1 rfl) ?_
  have b1 : vp_in co 48 := inC rfl (by omega) (by omega)
  refine va_iald hx hb hK hP 2 0 rfl rfl b1 dX1_strengthBehind_5 ?_
  have g2 : 0 ≤ (str co.toNatClampNeg).toInt ∧ (str co.toNatClampNeg).toInt ≤ 100 := rg_at r_str b1
  refine lv_topi (fun x3 ex3 => ?_)
  have ix3 : x3.toInt = (str co.toNatClampNeg).toInt := by rw [ex3]
  refine lv_istore (lv' := [(4, .int x3), (0, .ref (a 4)), (1, .int co), (2, .int n), (3, .int wd)]) hx hb dX1_strengthBehind_6 hl (by decide) rfl (fun ls hl => ?_)
  refine lv_iconst (v := 0) hx hb dX1_strengthBehind_8 (by decide) ?_
  refine lv_istore (lv' := [(5, .int 0), (4, .int x3), (0, .ref (a 4)), (1, .int co), (2, .int n), (3, .int wd)]) hx hb dX1_strengthBehind_9 hl (by decide) rfl (fun ls hl => ?_)
  have L11 : ∀ (nn : Nat) (y11_4 : Int32) (y11_5 : Int32) (ls : Array Slot), (0 ≤ (y11_5.toInt)) → ((y11_5.toInt) ≤ 60) → (0 ≤ (y11_4.toInt)) → ((y11_4.toInt) ≤ 100) → ((y11_4.toInt) = svF fal (cro co.toNatClampNeg).toInt gai.toInt (bitW wd) (str co.toNatClampNeg).toInt ((y11_5.toInt)).toNat) → ((y11_5.toInt) ≤ n.toInt) → (60 - (y11_5.toInt)).toNat < nn → lv_has ls 6 [(0, .ref (a 4)), (1, .int co), (2, .int n), (3, .int wd), (4, .int y11_4), (5, .int y11_5)] → W p l e (headSpec wsX1_strengthBehind { frames := 2, cells := 0, slots := 0, locals := 46 }).room s m ([.ref (a 4), .int co, .int n, .int wd] : List Value).toArray below meth c s.heap [] 0 0 (MQ below (QR (fun r : Int32 => (0 ≤ r.toInt) ∧ (r.toInt ≤ 100) ∧ (r.toInt = svF fal (cro co.toNatClampNeg).toInt gai.toInt (bitW wd) (str co.toNatClampNeg).toInt n.toInt.toNat))) ([.ref (a 4), .int co, .int n, .int wd] : List Value).toArray s 0 0 (fun _ => False)) (F0 m 11 ls []) := by
    intro nn
    induction nn with
    | zero =>
      intro y11_4 y11_5 ls i11_0 i11_1 i11_2 i11_3 i11_4 i11_5 hm11
      exact absurd hm11 (Nat.not_lt_zero _)
    | succ nn ih11 =>
      intro y11_4 y11_5 ls i11_0 i11_1 i11_2 i11_3 i11_4 i11_5 hm11 hl
      refine lv_iload hx hb dX1_strengthBehind_11 (lv_at hl 5 rfl) ?_
      refine lv_iload_n hx hb dX1_strengthBehind_13 rfl (lv_at hl 2 rfl) ?_
      refine lv_icmp_ge (tgt := 58) hx hb dX1_strengthBehind_14 (by decide) (fun c4 => ?_) (fun c4 => ?_)
      · have dc4 : n.toInt ≤ y11_5.toInt := leC rfl rfl c4
        refine lv_iload hx hb dX1_strengthBehind_58 (lv_at hl 4 rfl) ?_
        exact W.iret (v := y11_4) hx hb hr (fun tq ht hW => ⟨y11_4, rfl, ⟨(show 0 ≤ y11_4.toInt from by omega), (show y11_4.toInt ≤ 100 from by omega), (show y11_4.toInt = svF fal (cro co.toNatClampNeg).toInt gai.toInt (bitW wd) (str co.toNatClampNeg).toInt n.toInt.toNat from by exact sv_e i11_4 (by omega))⟩, ht⟩) (fun q h => by cases h) dX1_strengthBehind_60
      · have dc4 : y11_5.toInt < n.toInt := nleC rfl rfl c4
        refine lv_iload_n hx hb dX1_strengthBehind_17 rfl (lv_at hl 3 rfl) ?_
        refine lv_iload hx hb dX1_strengthBehind_18 (lv_at hl 5 rfl) ?_
        refine lv_ishr hx hb dX1_strengthBehind_20 ?_
        refine lv_iconst (v := 1) hx hb dX1_strengthBehind_21 (by decide) ?_
        refine lv_iand hx hb dX1_strengthBehind_22 ?_
        have f5 := andR (a := (wd >>> (y11_5 &&& 31))) (m := 1) (M := 1) rfl (by decide)
        refine lv_iconst (v := 1) hx hb dX1_strengthBehind_23 (by decide) ?_
        refine lv_icmp_ne (tgt := 38) hx hb dX1_strengthBehind_24 (by decide) (fun c6 => ?_) (fun c6 => ?_)
        · have dc6 : ((wd >>> (y11_5 &&& 31)) &&& 1).toInt ≤ 0 := ka_hi (by omega) (neC rfl (show (1 : Int32).toInt = 1 from rfl) c6)
          refine lv_aload_n hx hb dX1_strengthBehind_38 rfl (lv_at hl 0 rfl) ?_
          refine lv_iload hx hb dX1_strengthBehind_39 (lv_at hl 4 rfl) ?_
          refine lv_aload_n hx hb dX1_strengthBehind_41 rfl (lv_at hl 0 rfl) ?_
          refine va_get (D := (dC, dI)) (ci := 1) (v := .ref (a 10)) (C := RX1) (T := TX1) (N := 13) hx hb hts inX1 hown hK hP 0 rfl rfl 6 (by decide) lf27 (fun _ h9 => h9) rfl dX1_strengthBehind_42 ?_
          refine lv_iload_n hx hb dX1_strengthBehind_45 rfl (lv_at hl 1 rfl) ?_
          have b7 : vp_in co 48 := inC rfl (by omega) (by omega)
          refine va_iald hx hb hK hP 6 0 rfl rfl b7 dX1_strengthBehind_46 ?_
          have g8 : 0 ≤ (cro co.toNatClampNeg).toInt ∧ (cro co.toNatClampNeg).toInt ≤ 6 := rg_at r_cro b7
          refine rdV (As := [.int y11_4, .int (cro co.toNatClampNeg)]) (rest := []) ⟨hx, hb, hml, hown, hts⟩ (k_X1_fallen2 l dC dI cI cZ cQ a top str gho ghs pto cro pla wal fal tel gai day mar y11_4 (cro co.toNatClampNeg) r_top r_str r_gho r_ghs r_cro r_pla r_fal r_gai r_day r_mar (by omega) (by omega) (by omega) (by omega)) (cwV 2 hts gX1_strengthBehind_X1_fallen rfl rfl rfl (by decide +kernel) ⟨Nat.le_of_ble_eq_true rfl, Nat.le_of_ble_eq_true rfl⟩) hP hK hN [0, 1, 2, 3, 4, 5, 6, 7, 8, 9, 10, 11] rfl 0 1 rfl rfl rfl hl.1 rfl (Nat.le_of_ble_eq_true rfl) dX1_strengthBehind_47 ⟨Nat.le_of_ble_eq_true rfl, Nat.le_of_ble_eq_true rfl⟩ (fun r9 h10 => ?_)
          have h10 : (0 ≤ r9.toInt) ∧ (r9.toInt ≤ y11_4.toInt) ∧ (r9.toInt ≤ 100) ∧ (r9.toInt = fl fal y11_4.toInt (cro co.toNatClampNeg).toInt) := h10
          obtain ⟨h10_0, h10_1, h10_2, h10_3⟩ := h10
          refine lv_istore (lv' := [(4, .int r9), (0, .ref (a 4)), (1, .int co), (2, .int n), (3, .int wd), (5, .int y11_5)]) hx hb dX1_strengthBehind_50 hl (by decide) rfl (fun ls hl => ?_)
          obtain ⟨z11, ez11⟩ : ∃ y : Int32, y = y11_5 + 1 := ⟨_, rfl⟩
          have iz11 : z11.toInt = y11_5.toInt + 1 := by rw [ez11]; exact addC rfl rfl (by omega) (by omega)
          refine lv_iinc (v := z11) (lv' := [(5, .int z11), (4, .int r9), (0, .ref (a 4)), (1, .int co), (2, .int n), (3, .int wd)]) hx hb dX1_strengthBehind_52 hl (k := 5) rfl (by rw [ez11]; rfl) (by decide) rfl (fun ls hl => ?_)
          refine lv_goto (tgt := 11) hx hb dX1_strengthBehind_55 (by decide) ?_
          exact ih11 r9 z11 _ (by omega) (by omega) (by omega) (by omega) (by (first | exact sv_y i11_4 (bw_y (by assumption) (by omega)) (by assumption) (by assumption) (by omega) (by omega) | exact sv_n i11_4 (bw_n (by assumption) (by omega)) (by assumption) (by omega) | exact sv_0 (by first | rfl | omega) (by first | rfl | omega))) (by omega) (by omega) (lv_sub hl [2, 3, 4, 5, 1, 0] rfl)
        · have dc6 : ((wd >>> (y11_5 &&& 31)) &&& 1).toInt = 1 := eqC rfl (show (1 : Int32).toInt = 1 from rfl) c6
          refine lv_iload hx hb dX1_strengthBehind_27 (lv_at hl 4 rfl) ?_
          refine lv_aload_n hx hb dX1_strengthBehind_29 rfl (lv_at hl 0 rfl) ?_
          refine lv_iload hx hb dX1_strengthBehind_30 (lv_at hl 4 rfl) ?_
          refine rdV (As := [.int y11_4]) (rest := [.int y11_4]) ⟨hx, hb, hml, hown, hts⟩ (k_X1_gainOf2 l dC dI cI cZ cQ a top str gho ghs pto cro pla wal fal tel gai day mar y11_4 r_top r_str r_gho r_ghs r_cro r_pla r_fal r_gai r_day r_mar (by omega) (by omega)) (cwV 1 hts gX1_strengthBehind_X1_gainOf rfl rfl rfl (by decide +kernel) ⟨Nat.le_of_ble_eq_true rfl, Nat.le_of_ble_eq_true rfl⟩) hP hK hN [0, 1, 2, 3, 4, 5, 6, 7, 8, 9, 10, 11] rfl 0 1 rfl rfl rfl hl.1 rfl (Nat.le_of_ble_eq_true rfl) dX1_strengthBehind_32 ⟨Nat.le_of_ble_eq_true rfl, Nat.le_of_ble_eq_true rfl⟩ (fun r12 h13 => ?_)
          have h13 : (0 ≤ r12.toInt) ∧ (r12.toInt ≤ 100 - y11_4.toInt) ∧ (r12.toInt ≤ 100) ∧ (r12.toInt = gn gai.toInt y11_4.toInt) := h13
          obtain ⟨h13_0, h13_1, h13_2, h13_3⟩ := h13
          refine lv_iadd hx hb dX1_strengthBehind_35 ?_
          have f14 : (y11_4 + r12).toInt = (y11_4.toInt) + (r12.toInt) := addC rfl rfl (by omega) (by omega)
          refine lv_topi (fun x15 ex15 => ?_)
          have ix15 : x15.toInt = (y11_4.toInt) + (r12.toInt) := by rw [ex15]; exact f14
          refine lv_istore (lv' := [(4, .int x15), (0, .ref (a 4)), (1, .int co), (2, .int n), (3, .int wd), (5, .int y11_5)]) hx hb dX1_strengthBehind_36 hl (by decide) rfl (fun ls hl => ?_)
          refine lv_aload_n hx hb dX1_strengthBehind_38 rfl (lv_at hl 1 rfl) ?_
          refine lv_iload hx hb dX1_strengthBehind_39 (lv_at hl 0 rfl) ?_
          refine lv_aload_n hx hb dX1_strengthBehind_41 rfl (lv_at hl 1 rfl) ?_
          refine va_get (D := (dC, dI)) (ci := 1) (v := .ref (a 10)) (C := RX1) (T := TX1) (N := 13) hx hb hts inX1 hown hK hP 0 rfl rfl 6 (by decide) lf27 (fun _ h9 => h9) rfl dX1_strengthBehind_42 ?_
          refine lv_iload_n hx hb dX1_strengthBehind_45 rfl (lv_at hl 2 rfl) ?_
          have b16 : vp_in co 48 := inC rfl (by omega) (by omega)
          refine va_iald hx hb hK hP 6 0 rfl rfl b16 dX1_strengthBehind_46 ?_
          have g17 : 0 ≤ (cro co.toNatClampNeg).toInt ∧ (cro co.toNatClampNeg).toInt ≤ 6 := rg_at r_cro b16
          refine rdV (As := [.int x15, .int (cro co.toNatClampNeg)]) (rest := []) ⟨hx, hb, hml, hown, hts⟩ (k_X1_fallen2 l dC dI cI cZ cQ a top str gho ghs pto cro pla wal fal tel gai day mar x15 (cro co.toNatClampNeg) r_top r_str r_gho r_ghs r_cro r_pla r_fal r_gai r_day r_mar (by omega) (by omega) (by omega) (by omega)) (cwV 2 hts gX1_strengthBehind_X1_fallen rfl rfl rfl (by decide +kernel) ⟨Nat.le_of_ble_eq_true rfl, Nat.le_of_ble_eq_true rfl⟩) hP hK hN [0, 1, 2, 3, 4, 5, 6, 7, 8, 9, 10, 11] rfl 0 1 rfl rfl rfl hl.1 rfl (Nat.le_of_ble_eq_true rfl) dX1_strengthBehind_47 ⟨Nat.le_of_ble_eq_true rfl, Nat.le_of_ble_eq_true rfl⟩ (fun r18 h19 => ?_)
          have h19 : (0 ≤ r18.toInt) ∧ (r18.toInt ≤ x15.toInt) ∧ (r18.toInt ≤ 100) ∧ (r18.toInt = fl fal x15.toInt (cro co.toNatClampNeg).toInt) := h19
          obtain ⟨h19_0, h19_1, h19_2, h19_3⟩ := h19
          refine lv_istore (lv' := [(4, .int r18), (0, .ref (a 4)), (1, .int co), (2, .int n), (3, .int wd), (5, .int y11_5)]) hx hb dX1_strengthBehind_50 hl (by decide) rfl (fun ls hl => ?_)
          obtain ⟨z20, ez20⟩ : ∃ y : Int32, y = y11_5 + 1 := ⟨_, rfl⟩
          have iz20 : z20.toInt = y11_5.toInt + 1 := by rw [ez20]; exact addC rfl rfl (by omega) (by omega)
          refine lv_iinc (v := z20) (lv' := [(5, .int z20), (4, .int r18), (0, .ref (a 4)), (1, .int co), (2, .int n), (3, .int wd)]) hx hb dX1_strengthBehind_52 hl (k := 5) rfl (by rw [ez20]; rfl) (by decide) rfl (fun ls hl => ?_)
          refine lv_goto (tgt := 11) hx hb dX1_strengthBehind_55 (by decide) ?_
          exact ih11 r18 z20 _ (by omega) (by omega) (by omega) (by omega) (by (first | exact sv_y i11_4 (bw_y (by assumption) (by omega)) (by assumption) (by assumption) (by omega) (by omega) | exact sv_n i11_4 (bw_n (by assumption) (by omega)) (by assumption) (by omega) | exact sv_0 (by first | rfl | omega) (by first | rfl | omega))) (by omega) (by omega) (lv_sub hl [2, 3, 4, 5, 1, 0] rfl)
  have kc21 : (0 : Int32).toInt = 0 := rfl
  exact L11 _ x3 0 _ (by omega) (by omega) (by omega) (by omega) (by (first | exact sv_y i11_4 (bw_y (by assumption) (by omega)) (by assumption) (by assumption) (by omega) (by omega) | exact sv_n i11_4 (bw_n (by assumption) (by omega)) (by assumption) (by omega) | exact sv_0 (by first | rfl | omega) (by first | rfl | omega))) (by omega) (Nat.lt_succ_self _) (lv_sub hl [2, 3, 4, 5, 1, 0] rfl)
