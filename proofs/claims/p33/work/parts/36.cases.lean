set_option maxHeartbeats 4000000 in
set_option maxRecDepth 100000 in
theorem lc_16 {p : Program} {l : Launch} {e : Env} {s : State} {m : MethodId} {below : List Frame} {meth : Method} {c : Code} {b L : Nat} {xs : Nat → Int32} {dC : Nat → ClassId} {dI : Nat → Nat → Nat} {cI cZ cQ : ClassId} {ak av : Nat → Nat} {xa ma : Nat} (K : LC p s m meth c b L xs dC dI cI cZ cQ ak av) (hL : L ≤ 2560) (y : Int32) (hy0 : 0 ≤ y.toInt) (hy1 : y.toInt ≤ (L : Int) - 5) (u v : US) (H : Heap) (locs : List Loc) (I : LI dC dI cI cZ cQ s xa ma u v H locs) (ls : Array Slot) (hl : lv_has ls 4 [(0, .ref b), (1, .ref xa), (2, .ref ma), (3, .int y)]) (kk : ∀ (u v : US) (H : Heap) (locs : List Loc), LI dC dI cI cZ cQ s xa ma u v H locs → W p l e room_1 s m #[Value.ref b] below meth c H locs 76 4711 (lw_Z below #[Value.ref b] s) (F0 m 1248 ls [])) : W p l e room_1 s m #[Value.ref b] below meth c H locs 76 4711 (lw_Z below #[Value.ref b] s) (F0 m 634 ls []) := by
  obtain ⟨hx, hb, hml, hown, hts, hX, hbl, hK, hN, hSV⟩ := K
  obtain ⟨hu, hv, hxa, hma, hR, hP, hD, hS⟩ := I
  have hbA : ¬ AL s b := Nat.not_le.mpr hbl
  refine lv_aload_n hx hb dL_law_634 rfl (lv_at hl 1 rfl) ?_
  refine lv_aload_n hx hb dL_law_635 rfl (lv_at hl 0 rfl) ?_
  refine lv_iload_n hx hb dL_law_636 rfl (lv_at hl 3 rfl) ?_
  refine lv_iconst (v := 1) hx hb dL_law_637 (by decide) ?_
  refine lv_iadd hx hb dL_law_638 ?_
  have f1 : (y + 1).toInt = (y.toInt) + (1) := addC rfl (show (1 : Int32).toInt = 1 from rfl) (by omega) (by omega)
  refine va_sld hx hb hX hbl hbA hS (inC f1 (by omega) (by omega)) dL_law_639 ?_
  refine lv_aload_n hx hb dL_law_640 rfl (lv_at hl 0 rfl) ?_
  refine lv_iload_n hx hb dL_law_641 rfl (lv_at hl 3 rfl) ?_
  refine lv_iconst (v := 2) hx hb dL_law_642 (by decide) ?_
  refine lv_iadd hx hb dL_law_643 ?_
  have f2 : (y + 2).toInt = (y.toInt) + (2) := addC rfl (show (2 : Int32).toInt = 2 from rfl) (by omega) (by omega)
  refine va_sld hx hb hX hbl hbA hS (inC f2 (by omega) (by omega)) dL_law_644 ?_
  refine lwP (As := [.int (xs (y + 1).toNatClampNeg), .int (xs (y + 2).toNatClampNeg)]) (rest := []) ⟨hx, hb, hml, hown, hts⟩ (kU_X9_bars l dC dI cI cZ cQ ak av u hu _ xa hxa (xs (y + 1).toNatClampNeg) (xs (y + 2).toNatClampNeg)) (cwV 2 hts gL_law_X9_bars rfl rfl rfl (by decide +kernel) ⟨Nat.le_of_ble_eq_true rfl, Nat.le_of_ble_eq_true rfl⟩) hSV hP hD hS hK hN hxa rfl hl.1 rfl (Nat.le_of_ble_eq_true rfl) dL_law_645 ⟨Nat.le_of_ble_eq_true rfl, Nat.le_of_ble_eq_true rfl⟩ (fun r4 u3 H locs h5 hP hD hS => ?_)
  obtain ⟨hxu, hxa, hx_mar, hx_tel, hx_gai, hx_fal, hx_day, hx_ali, hx_ans0, hx_ans1, hx_ans2, hx_ans3, hx_top, hx_str, hx_gho, hx_ghs, hx_pto, hx_wal, hx_few, hx_doo, hx_byt, hx_len, hx_mos, hx_wev, hx_aga, hx_apa, hx_lin, hx_agr0, hx_agr1, hx_agr2, hx_agr3, hxs⟩ := h5
  refine lv_pop hx hb dL_law_648 rfl ?_
  refine lv_aload_n hx hb dL_law_649 rfl (lv_at hl 2 rfl) ?_
  refine lv_aload_n hx hb dL_law_650 rfl (lv_at hl 0 rfl) ?_
  refine lv_iload_n hx hb dL_law_651 rfl (lv_at hl 3 rfl) ?_
  refine lv_iconst (v := 1) hx hb dL_law_652 (by decide) ?_
  refine lv_iadd hx hb dL_law_653 ?_
  have f6 : (y + 1).toInt = (y.toInt) + (1) := addC rfl (show (1 : Int32).toInt = 1 from rfl) (by omega) (by omega)
  refine va_sld hx hb hX hbl hbA hS (inC f6 (by omega) (by omega)) dL_law_654 ?_
  refine lv_aload_n hx hb dL_law_655 rfl (lv_at hl 0 rfl) ?_
  refine lv_iload_n hx hb dL_law_656 rfl (lv_at hl 3 rfl) ?_
  refine lv_iconst (v := 2) hx hb dL_law_657 (by decide) ?_
  refine lv_iadd hx hb dL_law_658 ?_
  have f7 : (y + 2).toInt = (y.toInt) + (2) := addC rfl (show (2 : Int32).toInt = 2 from rfl) (by omega) (by omega)
  refine va_sld hx hb hX hbl hbA hS (inC f7 (by omega) (by omega)) dL_law_659 ?_
  refine lwM (As := [.int (xs (y + 1).toNatClampNeg), .int (xs (y + 2).toNatClampNeg)]) (rest := []) ⟨hx, hb, hml, hown, hts⟩ (kU_X10_bars l dC dI cI cZ cQ v hv _ ma hma (xs (y + 1).toNatClampNeg) (xs (y + 2).toNatClampNeg)) (cwV 2 hts gL_law_X10_bars rfl rfl rfl (by decide +kernel) ⟨Nat.le_of_ble_eq_true rfl, Nat.le_of_ble_eq_true rfl⟩) hP hD hS hK hN hma rfl hl.1 rfl (Nat.le_of_ble_eq_true rfl) dL_law_660 ⟨Nat.le_of_ble_eq_true rfl, Nat.le_of_ble_eq_true rfl⟩ (fun r9 u8 H locs h10 hP hD hS => ?_)
  obtain ⟨hmu, hma, hm_mar, hm_tel, hm_gai, hm_fal, hm_day, hm_ali, hm_ans, hm_top, hm_str, hm_gho, hm_fai, hm_pto, hm_wal, hm_dA, hm_dB, hm_doo, hm_txt, hm_byt, hm_lne, hm_lin, hm_and, hm_anr, hms⟩ := h10
  refine lv_pop hx hb dL_law_663 rfl ?_
  refine lv_goto (tgt := 1248) hx hb dL_law_664 (by decide) ?_
  have hR0 := hR
  have hd := spBar_rel hR.2.2.2.2.2.2.2.2.1 hR.1 hR.2.2.2.2.1 hR.2.2.2.2.2.2.2.2.2.2.2.2.1 (hu.2.2.2.2.2.2.2.2.2.2.2.2.2.2.2.2.2.2.2.2.2.2.2.2.2) (hu.2.2.2.2.2.2.2.2.2.1) (hu.1) (hu.2.1) hxs hms
  have hR2 : rel u3 u8 := ⟨(hx_mar.trans (hR0.1.trans hm_mar.symm)), (hx_tel.trans (hR0.2.1.trans hm_tel.symm)), (hx_gai.trans (hR0.2.2.1.trans hm_gai.symm)), (fun j hj => by rw [hx_fal, hm_fal]; exact hR0.2.2.2.1 j hj), (hx_day.trans (hR0.2.2.2.2.1.trans hm_day.symm)), (hx_ali.trans (hR0.2.2.2.2.2.1.trans hm_ali.symm)), (fun j hj => by rw [hx_ans0, hx_ans1, hx_ans2, hx_ans3, hm_ans]; exact hR0.2.2.2.2.2.2.1 j hj), (fun j hj => by rw [hx_top, hm_top]; exact hR0.2.2.2.2.2.2.2.1 j hj), (by rw [hx_top, hx_str, hx_gho, hx_ghs, hx_pto, hx_wal, hm_top, hm_str, hm_gho, hm_fai, hm_pto, hm_wal]; exact hR0.2.2.2.2.2.2.2.2.1), (by rw [hx_few, hx_doo, hm_dA, hm_dB, hm_doo]; exact hR0.2.2.2.2.2.2.2.2.2.1), (hx_byt.trans (hR0.2.2.2.2.2.2.2.2.2.2.1.trans hm_txt.symm)), (hx_len.trans (hR0.2.2.2.2.2.2.2.2.2.2.2.1.trans hm_byt.symm)), (by rw [hx_mos, hx_wev, hx_aga, hx_apa, hx_lin, hm_lne, hm_lin]; exact hR0.2.2.2.2.2.2.2.2.2.2.2.2.1), (by rw [hx_agr0, hx_agr1, hx_agr2, hx_agr3, hm_ans, hm_and, hm_anr]; exact hR0.2.2.2.2.2.2.2.2.2.2.2.2.2)⟩
  exact kk u3 u8 _ _ ⟨hxu, hmu, hxa, hma, hR2, hP, hD, hS⟩
set_option maxHeartbeats 4000000 in
set_option maxRecDepth 100000 in
theorem lc_17 {p : Program} {l : Launch} {e : Env} {s : State} {m : MethodId} {below : List Frame} {meth : Method} {c : Code} {b L : Nat} {xs : Nat → Int32} {dC : Nat → ClassId} {dI : Nat → Nat → Nat} {cI cZ cQ : ClassId} {ak av : Nat → Nat} {xa ma : Nat} (K : LC p s m meth c b L xs dC dI cI cZ cQ ak av) (hL : L ≤ 2560) (y : Int32) (hy0 : 0 ≤ y.toInt) (hy1 : y.toInt ≤ (L : Int) - 5) (u v : US) (H : Heap) (locs : List Loc) (I : LI dC dI cI cZ cQ s xa ma u v H locs) (ls : Array Slot) (hl : lv_has ls 4 [(0, .ref b), (1, .ref xa), (2, .ref ma), (3, .int y)]) (kk : ∀ (u v : US) (H : Heap) (locs : List Loc), LI dC dI cI cZ cQ s xa ma u v H locs → W p l e room_1 s m #[Value.ref b] below meth c H locs 76 4711 (lw_Z below #[Value.ref b] s) (F0 m 1248 ls [])) : W p l e room_1 s m #[Value.ref b] below meth c H locs 76 4711 (lw_Z below #[Value.ref b] s) (F0 m 667 ls []) := by
  obtain ⟨hx, hb, hml, hown, hts, hX, hbl, hK, hN, hSV⟩ := K
  obtain ⟨hu, hv, hxa, hma, hR, hP, hD, hS⟩ := I
  have hbA : ¬ AL s b := Nat.not_le.mpr hbl
  refine lv_aload_n hx hb dL_law_667 rfl (lv_at hl 1 rfl) ?_
  refine lwP (As := []) (rest := []) ⟨hx, hb, hml, hown, hts⟩ (kU_X9_due l dC dI cI cZ cQ ak av u hu _ xa hxa) (cwV 0 hts gL_law_X9_due rfl rfl rfl (by decide +kernel) ⟨Nat.le_of_ble_eq_true rfl, Nat.le_of_ble_eq_true rfl⟩) hSV hP hD hS hK hN hxa rfl hl.1 rfl (Nat.le_of_ble_eq_true rfl) dL_law_668 ⟨Nat.le_of_ble_eq_true rfl, Nat.le_of_ble_eq_true rfl⟩ (fun r2 u1 H locs h3 hP hD hS => ?_)
  obtain ⟨hxu, hxa, hx_mar, hx_tel, hx_gai, hx_fal, hx_day, hx_ali, hx_ans0, hx_ans1, hx_ans2, hx_ans3, hx_top, hx_str, hx_gho, hx_ghs, hx_pto, hx_wal, hx_few, hx_doo, hx_byt, hx_len, hx_mos, hx_wev, hx_aga, hx_apa, hx_lin, hx_agr0, hx_agr1, hx_agr2, hx_agr3, hxs⟩ := h3
  refine lv_pop hx hb dL_law_671 rfl ?_
  refine lv_aload_n hx hb dL_law_672 rfl (lv_at hl 2 rfl) ?_
  refine lwM (As := []) (rest := []) ⟨hx, hb, hml, hown, hts⟩ (kU_X10_due l dC dI cI cZ cQ v hv _ ma hma) (cwV 0 hts gL_law_X10_due rfl rfl rfl (by decide +kernel) ⟨Nat.le_of_ble_eq_true rfl, Nat.le_of_ble_eq_true rfl⟩) hP hD hS hK hN hma rfl hl.1 rfl (Nat.le_of_ble_eq_true rfl) dL_law_673 ⟨Nat.le_of_ble_eq_true rfl, Nat.le_of_ble_eq_true rfl⟩ (fun r5 u4 H locs h6 hP hD hS => ?_)
  obtain ⟨hmu, hma, hm_mar, hm_tel, hm_gai, hm_fal, hm_day, hm_ali, hm_ans, hm_top, hm_str, hm_gho, hm_fai, hm_pto, hm_wal, hm_dA, hm_dB, hm_doo, hm_txt, hm_byt, hm_lne, hm_lin, hm_and, hm_anr, hms⟩ := h6
  refine lv_pop hx hb dL_law_676 rfl ?_
  refine lv_goto (tgt := 1248) hx hb dL_law_677 (by decide) ?_
  have hR0 := hR
  have hd := spDue_rel hR.2.2.2.2.2.2.2.2.1 hR.2.2.2.2.1 hR.2.2.2.2.2.2.2.2.2.2.2.2.1 hxs hms
  have hR2 : rel u1 u4 := ⟨(hx_mar.trans (hR0.1.trans hm_mar.symm)), (hx_tel.trans (hR0.2.1.trans hm_tel.symm)), (hx_gai.trans (hR0.2.2.1.trans hm_gai.symm)), (fun j hj => by rw [hx_fal, hm_fal]; exact hR0.2.2.2.1 j hj), (hx_day.trans (hR0.2.2.2.2.1.trans hm_day.symm)), (hx_ali.trans (hR0.2.2.2.2.2.1.trans hm_ali.symm)), (fun j hj => by rw [hx_ans0, hx_ans1, hx_ans2, hx_ans3, hm_ans]; exact hR0.2.2.2.2.2.2.1 j hj), (fun j hj => by rw [hx_top, hm_top]; exact hR0.2.2.2.2.2.2.2.1 j hj), (by rw [hx_top, hx_str, hx_gho, hx_ghs, hx_pto, hx_wal, hm_top, hm_str, hm_gho, hm_fai, hm_pto, hm_wal]; exact hR0.2.2.2.2.2.2.2.2.1), (by rw [hx_few, hx_doo, hm_dA, hm_dB, hm_doo]; exact hR0.2.2.2.2.2.2.2.2.2.1), (hx_byt.trans (hR0.2.2.2.2.2.2.2.2.2.2.1.trans hm_txt.symm)), (hx_len.trans (hR0.2.2.2.2.2.2.2.2.2.2.2.1.trans hm_byt.symm)), (by rw [hx_mos, hx_wev, hx_aga, hx_apa, hx_lin, hm_lne, hm_lin]; exact hR0.2.2.2.2.2.2.2.2.2.2.2.2.1), (by rw [hx_agr0, hx_agr1, hx_agr2, hx_agr3, hm_ans, hm_and, hm_anr]; exact hR0.2.2.2.2.2.2.2.2.2.2.2.2.2)⟩
  exact kk u1 u4 _ _ ⟨hxu, hmu, hxa, hma, hR2, hP, hD, hS⟩
set_option maxHeartbeats 4000000 in
set_option maxRecDepth 100000 in
theorem lc_18 {p : Program} {l : Launch} {e : Env} {s : State} {m : MethodId} {below : List Frame} {meth : Method} {c : Code} {b L : Nat} {xs : Nat → Int32} {dC : Nat → ClassId} {dI : Nat → Nat → Nat} {cI cZ cQ : ClassId} {ak av : Nat → Nat} {xa ma : Nat} (K : LC p s m meth c b L xs dC dI cI cZ cQ ak av) (hL : L ≤ 2560) (y : Int32) (hy0 : 0 ≤ y.toInt) (hy1 : y.toInt ≤ (L : Int) - 5) (u v : US) (H : Heap) (locs : List Loc) (I : LI dC dI cI cZ cQ s xa ma u v H locs) (ls : Array Slot) (hl : lv_has ls 4 [(0, .ref b), (1, .ref xa), (2, .ref ma), (3, .int y)]) (kk : ∀ (u v : US) (H : Heap) (locs : List Loc), LI dC dI cI cZ cQ s xa ma u v H locs → W p l e room_1 s m #[Value.ref b] below meth c H locs 76 4711 (lw_Z below #[Value.ref b] s) (F0 m 1248 ls [])) : W p l e room_1 s m #[Value.ref b] below meth c H locs 76 4711 (lw_Z below #[Value.ref b] s) (F0 m 680 ls []) := by
  obtain ⟨hx, hb, hml, hown, hts, hX, hbl, hK, hN, hSV⟩ := K
  obtain ⟨hu, hv, hxa, hma, hR, hP, hD, hS⟩ := I
  have hbA : ¬ AL s b := Nat.not_le.mpr hbl
  refine lv_aload_n hx hb dL_law_680 rfl (lv_at hl 1 rfl) ?_
  refine lv_aload_n hx hb dL_law_681 rfl (lv_at hl 0 rfl) ?_
  refine lv_iload_n hx hb dL_law_682 rfl (lv_at hl 3 rfl) ?_
  refine lv_iconst (v := 1) hx hb dL_law_683 (by decide) ?_
  refine lv_iadd hx hb dL_law_684 ?_
  have f1 : (y + 1).toInt = (y.toInt) + (1) := addC rfl (show (1 : Int32).toInt = 1 from rfl) (by omega) (by omega)
  refine va_sld hx hb hX hbl hbA hS (inC f1 (by omega) (by omega)) dL_law_685 ?_
  refine lv_i2l hx hb dL_law_686 rfl ?_
  refine lv_bipush (v := 32) hx hb dL_law_687 (by decide) ?_
  refine lv_lshl hx hb dL_law_689 rfl ?_
  refine lv_aload_n hx hb dL_law_690 rfl (lv_at hl 0 rfl) ?_
  refine lv_iload_n hx hb dL_law_691 rfl (lv_at hl 3 rfl) ?_
  refine lv_iconst (v := 2) hx hb dL_law_692 (by decide) ?_
  refine lv_iadd hx hb dL_law_693 ?_
  have f2 : (y + 2).toInt = (y.toInt) + (2) := addC rfl (show (2 : Int32).toInt = 2 from rfl) (by omega) (by omega)
  refine va_sld hx hb hX hbl hbA hS (inC f2 (by omega) (by omega)) dL_law_694 ?_
  refine lv_i2l hx hb dL_law_695 rfl ?_
  refine lv_ldc2 (v := 4294967295) hx hb hown (hts (.constantLong RL 63 (4294967295)) (by decide +kernel)) dL_law_696 ?_
  refine lv_land hx hb dL_law_699 ?_
  refine lv_lor hx hb dL_law_700 ?_
  refine lv_aload_n hx hb dL_law_701 rfl (lv_at hl 0 rfl) ?_
  refine lv_iload_n hx hb dL_law_702 rfl (lv_at hl 3 rfl) ?_
  refine lv_iconst (v := 3) hx hb dL_law_703 (by decide) ?_
  refine lv_iadd hx hb dL_law_704 ?_
  have f3 : (y + 3).toInt = (y.toInt) + (3) := addC rfl (show (3 : Int32).toInt = 3 from rfl) (by omega) (by omega)
  refine va_sld hx hb hX hbl hbA hS (inC f3 (by omega) (by omega)) dL_law_705 ?_
  refine lv_aload_n hx hb dL_law_706 rfl (lv_at hl 0 rfl) ?_
  refine lv_iload_n hx hb dL_law_707 rfl (lv_at hl 3 rfl) ?_
  refine lv_iconst (v := 4) hx hb dL_law_708 (by decide) ?_
  refine lv_iadd hx hb dL_law_709 ?_
  have f4 : (y + 4).toInt = (y.toInt) + (4) := addC rfl (show (4 : Int32).toInt = 4 from rfl) (by omega) (by omega)
  refine va_sld hx hb hX hbl hbA hS (inC f4 (by omega) (by omega)) dL_law_710 ?_
  refine lwP (As := [.long ((((xs (y + 1).toNatClampNeg).toInt64) <<< ((32 : Int32).toInt64 &&& 63)) ||| (((xs (y + 2).toNatClampNeg).toInt64) &&& 4294967295)), .int (xs (y + 3).toNatClampNeg), .int (xs (y + 4).toNatClampNeg)]) (rest := []) ⟨hx, hb, hml, hown, hts⟩ (kU_X9_laid l dC dI cI cZ cQ ak av u hu _ xa hxa ((((xs (y + 1).toNatClampNeg).toInt64) <<< ((32 : Int32).toInt64 &&& 63)) ||| (((xs (y + 2).toNatClampNeg).toInt64) &&& 4294967295)) (xs (y + 3).toNatClampNeg) (xs (y + 4).toNatClampNeg)) (cwV 3 hts gL_law_X9_laid rfl rfl rfl (by decide +kernel) ⟨Nat.le_of_ble_eq_true rfl, Nat.le_of_ble_eq_true rfl⟩) hSV hP hD hS hK hN hxa rfl hl.1 rfl (Nat.le_of_ble_eq_true rfl) dL_law_711 ⟨Nat.le_of_ble_eq_true rfl, Nat.le_of_ble_eq_true rfl⟩ (fun r6 u5 H locs h7 hP hD hS => ?_)
  obtain ⟨hxu, hxa, hx_mar, hx_tel, hx_gai, hx_fal, hx_day, hx_ali, hx_ans0, hx_ans1, hx_ans2, hx_ans3, hx_top, hx_str, hx_gho, hx_ghs, hx_pto, hx_wal, hx_few, hx_doo, hx_byt, hx_len, hx_mos, hx_wev, hx_aga, hx_apa, hx_lin, hx_agr0, hx_agr1, hx_agr2, hx_agr3⟩ := h7
  refine lv_pop hx hb dL_law_714 rfl ?_
  refine lv_aload_n hx hb dL_law_715 rfl (lv_at hl 2 rfl) ?_
  refine lv_aload_n hx hb dL_law_716 rfl (lv_at hl 0 rfl) ?_
  refine lv_iload_n hx hb dL_law_717 rfl (lv_at hl 3 rfl) ?_
  refine lv_iconst (v := 1) hx hb dL_law_718 (by decide) ?_
  refine lv_iadd hx hb dL_law_719 ?_
  have f8 : (y + 1).toInt = (y.toInt) + (1) := addC rfl (show (1 : Int32).toInt = 1 from rfl) (by omega) (by omega)
  refine va_sld hx hb hX hbl hbA hS (inC f8 (by omega) (by omega)) dL_law_720 ?_
  refine lv_i2l hx hb dL_law_721 rfl ?_
  refine lv_bipush (v := 32) hx hb dL_law_722 (by decide) ?_
  refine lv_lshl hx hb dL_law_724 rfl ?_
  refine lv_aload_n hx hb dL_law_725 rfl (lv_at hl 0 rfl) ?_
  refine lv_iload_n hx hb dL_law_726 rfl (lv_at hl 3 rfl) ?_
  refine lv_iconst (v := 2) hx hb dL_law_727 (by decide) ?_
  refine lv_iadd hx hb dL_law_728 ?_
  have f9 : (y + 2).toInt = (y.toInt) + (2) := addC rfl (show (2 : Int32).toInt = 2 from rfl) (by omega) (by omega)
  refine va_sld hx hb hX hbl hbA hS (inC f9 (by omega) (by omega)) dL_law_729 ?_
  refine lv_i2l hx hb dL_law_730 rfl ?_
  refine lv_ldc2 (v := 4294967295) hx hb hown (hts (.constantLong RL 63 (4294967295)) (by decide +kernel)) dL_law_731 ?_
  refine lv_land hx hb dL_law_734 ?_
  refine lv_lor hx hb dL_law_735 ?_
  refine lv_aload_n hx hb dL_law_736 rfl (lv_at hl 0 rfl) ?_
  refine lv_iload_n hx hb dL_law_737 rfl (lv_at hl 3 rfl) ?_
  refine lv_iconst (v := 3) hx hb dL_law_738 (by decide) ?_
  refine lv_iadd hx hb dL_law_739 ?_
  have f10 : (y + 3).toInt = (y.toInt) + (3) := addC rfl (show (3 : Int32).toInt = 3 from rfl) (by omega) (by omega)
  refine va_sld hx hb hX hbl hbA hS (inC f10 (by omega) (by omega)) dL_law_740 ?_
  refine lv_aload_n hx hb dL_law_741 rfl (lv_at hl 0 rfl) ?_
  refine lv_iload_n hx hb dL_law_742 rfl (lv_at hl 3 rfl) ?_
  refine lv_iconst (v := 4) hx hb dL_law_743 (by decide) ?_
  refine lv_iadd hx hb dL_law_744 ?_
  have f11 : (y + 4).toInt = (y.toInt) + (4) := addC rfl (show (4 : Int32).toInt = 4 from rfl) (by omega) (by omega)
  refine va_sld hx hb hX hbl hbA hS (inC f11 (by omega) (by omega)) dL_law_745 ?_
  refine lwM (As := [.long ((((xs (y + 1).toNatClampNeg).toInt64) <<< ((32 : Int32).toInt64 &&& 63)) ||| (((xs (y + 2).toNatClampNeg).toInt64) &&& 4294967295)), .int (xs (y + 3).toNatClampNeg), .int (xs (y + 4).toNatClampNeg)]) (rest := []) ⟨hx, hb, hml, hown, hts⟩ (kU_X10_laid l dC dI cI cZ cQ v hv _ ma hma ((((xs (y + 1).toNatClampNeg).toInt64) <<< ((32 : Int32).toInt64 &&& 63)) ||| (((xs (y + 2).toNatClampNeg).toInt64) &&& 4294967295)) (xs (y + 3).toNatClampNeg) (xs (y + 4).toNatClampNeg)) (cwV 3 hts gL_law_X10_laid rfl rfl rfl (by decide +kernel) ⟨Nat.le_of_ble_eq_true rfl, Nat.le_of_ble_eq_true rfl⟩) hP hD hS hK hN hma rfl hl.1 rfl (Nat.le_of_ble_eq_true rfl) dL_law_746 ⟨Nat.le_of_ble_eq_true rfl, Nat.le_of_ble_eq_true rfl⟩ (fun r13 u12 H locs h14 hP hD hS => ?_)
  obtain ⟨hmu, hma, hm_mar, hm_tel, hm_gai, hm_fal, hm_day, hm_ali, hm_ans, hm_top, hm_str, hm_gho, hm_fai, hm_pto, hm_wal, hm_dA, hm_dB, hm_doo, hm_txt, hm_byt, hm_lne, hm_lin, hm_and, hm_anr⟩ := h14
  refine lv_pop hx hb dL_law_749 rfl ?_
  refine lv_goto (tgt := 1248) hx hb dL_law_750 (by decide) ?_
  have hR0 := hR
  have hR2 : rel u5 u12 := ⟨(hx_mar.trans (hR0.1.trans hm_mar.symm)), (hx_tel.trans (hR0.2.1.trans hm_tel.symm)), (hx_gai.trans (hR0.2.2.1.trans hm_gai.symm)), (fun j hj => by rw [hx_fal, hm_fal]; exact hR0.2.2.2.1 j hj), (hx_day.trans (hR0.2.2.2.2.1.trans hm_day.symm)), (hx_ali.trans (hR0.2.2.2.2.2.1.trans hm_ali.symm)), (fun j hj => by rw [hx_ans0, hx_ans1, hx_ans2, hx_ans3, hm_ans]; exact hR0.2.2.2.2.2.2.1 j hj), (fun j hj => by rw [hx_top, hm_top]; exact hR0.2.2.2.2.2.2.2.1 j hj), (by rw [hx_top, hx_str, hx_gho, hx_ghs, hx_pto, hx_wal, hm_top, hm_str, hm_gho, hm_fai, hm_pto, hm_wal]; exact hR0.2.2.2.2.2.2.2.2.1), (by rw [hx_few, hx_doo, hm_dA, hm_dB, hm_doo]; exact hR0.2.2.2.2.2.2.2.2.2.1), (hx_byt.trans (hR0.2.2.2.2.2.2.2.2.2.2.1.trans hm_txt.symm)), (hx_len.trans (hR0.2.2.2.2.2.2.2.2.2.2.2.1.trans hm_byt.symm)), (by rw [hx_mos, hx_wev, hx_aga, hx_apa, hx_lin, hm_lne, hm_lin]; exact hR0.2.2.2.2.2.2.2.2.2.2.2.2.1), (by rw [hx_agr0, hx_agr1, hx_agr2, hx_agr3, hm_ans, hm_and, hm_anr]; exact hR0.2.2.2.2.2.2.2.2.2.2.2.2.2)⟩
  exact kk u5 u12 _ _ ⟨hxu, hmu, hxa, hma, hR2, hP, hD, hS⟩
set_option maxHeartbeats 4000000 in
set_option maxRecDepth 100000 in
theorem lc_19 {p : Program} {l : Launch} {e : Env} {s : State} {m : MethodId} {below : List Frame} {meth : Method} {c : Code} {b L : Nat} {xs : Nat → Int32} {dC : Nat → ClassId} {dI : Nat → Nat → Nat} {cI cZ cQ : ClassId} {ak av : Nat → Nat} {xa ma : Nat} (K : LC p s m meth c b L xs dC dI cI cZ cQ ak av) (hL : L ≤ 2560) (y : Int32) (hy0 : 0 ≤ y.toInt) (hy1 : y.toInt ≤ (L : Int) - 5) (u v : US) (H : Heap) (locs : List Loc) (I : LI dC dI cI cZ cQ s xa ma u v H locs) (ls : Array Slot) (hl : lv_has ls 4 [(0, .ref b), (1, .ref xa), (2, .ref ma), (3, .int y)]) (kk : ∀ (u v : US) (H : Heap) (locs : List Loc), LI dC dI cI cZ cQ s xa ma u v H locs → W p l e room_1 s m #[Value.ref b] below meth c H locs 76 4711 (lw_Z below #[Value.ref b] s) (F0 m 1248 ls [])) : W p l e room_1 s m #[Value.ref b] below meth c H locs 76 4711 (lw_Z below #[Value.ref b] s) (F0 m 753 ls []) := by
  obtain ⟨hx, hb, hml, hown, hts, hX, hbl, hK, hN, hSV⟩ := K
  obtain ⟨hu, hv, hxa, hma, hR, hP, hD, hS⟩ := I
  have hbA : ¬ AL s b := Nat.not_le.mpr hbl
  refine lv_aload_n hx hb dL_law_753 rfl (lv_at hl 1 rfl) ?_
  refine lv_aload_n hx hb dL_law_754 rfl (lv_at hl 0 rfl) ?_
  refine lv_iload_n hx hb dL_law_755 rfl (lv_at hl 3 rfl) ?_
  refine lv_iconst (v := 1) hx hb dL_law_756 (by decide) ?_
  refine lv_iadd hx hb dL_law_757 ?_
  have f1 : (y + 1).toInt = (y.toInt) + (1) := addC rfl (show (1 : Int32).toInt = 1 from rfl) (by omega) (by omega)
  refine va_sld hx hb hX hbl hbA hS (inC f1 (by omega) (by omega)) dL_law_758 ?_
  refine lwP (As := [.int (xs (y + 1).toNatClampNeg)]) (rest := []) ⟨hx, hb, hml, hown, hts⟩ (kU_X9_cost l dC dI cI cZ cQ ak av u hu _ xa hxa (xs (y + 1).toNatClampNeg)) (cwV 1 hts gL_law_X9_cost rfl rfl rfl (by decide +kernel) ⟨Nat.le_of_ble_eq_true rfl, Nat.le_of_ble_eq_true rfl⟩) hSV hP hD hS hK hN hxa rfl hl.1 rfl (Nat.le_of_ble_eq_true rfl) dL_law_759 ⟨Nat.le_of_ble_eq_true rfl, Nat.le_of_ble_eq_true rfl⟩ (fun r3 u2 H locs h4 hP hD hS => ?_)
  obtain ⟨hxu, hxa, hx_mar, hx_tel, hx_gai, hx_fal, hx_day, hx_ali, hx_ans0, hx_ans1, hx_ans2, hx_ans3, hx_top, hx_str, hx_gho, hx_ghs, hx_pto, hx_wal, hx_few, hx_doo, hx_byt, hx_len, hx_mos, hx_wev, hx_aga, hx_apa, hx_lin, hx_agr0, hx_agr1, hx_agr2, hx_agr3, hxs⟩ := h4
  refine lv_pop hx hb dL_law_762 rfl ?_
  refine lv_aload_n hx hb dL_law_763 rfl (lv_at hl 2 rfl) ?_
  refine lv_aload_n hx hb dL_law_764 rfl (lv_at hl 0 rfl) ?_
  refine lv_iload_n hx hb dL_law_765 rfl (lv_at hl 3 rfl) ?_
  refine lv_iconst (v := 1) hx hb dL_law_766 (by decide) ?_
  refine lv_iadd hx hb dL_law_767 ?_
  have f5 : (y + 1).toInt = (y.toInt) + (1) := addC rfl (show (1 : Int32).toInt = 1 from rfl) (by omega) (by omega)
  refine va_sld hx hb hX hbl hbA hS (inC f5 (by omega) (by omega)) dL_law_768 ?_
  refine lwM (As := [.int (xs (y + 1).toNatClampNeg)]) (rest := []) ⟨hx, hb, hml, hown, hts⟩ (kU_X10_cost l dC dI cI cZ cQ v hv _ ma hma (xs (y + 1).toNatClampNeg)) (cwV 1 hts gL_law_X10_cost rfl rfl rfl (by decide +kernel) ⟨Nat.le_of_ble_eq_true rfl, Nat.le_of_ble_eq_true rfl⟩) hP hD hS hK hN hma rfl hl.1 rfl (Nat.le_of_ble_eq_true rfl) dL_law_769 ⟨Nat.le_of_ble_eq_true rfl, Nat.le_of_ble_eq_true rfl⟩ (fun r7 u6 H locs h8 hP hD hS => ?_)
  obtain ⟨hmu, hma, hm_mar, hm_tel, hm_gai, hm_fal, hm_day, hm_ali, hm_ans, hm_top, hm_str, hm_gho, hm_fai, hm_pto, hm_wal, hm_dA, hm_dB, hm_doo, hm_txt, hm_byt, hm_lne, hm_lin, hm_and, hm_anr, hms⟩ := h8
  refine lv_pop hx hb dL_law_772 rfl ?_
  refine lv_goto (tgt := 1248) hx hb dL_law_773 (by decide) ?_
  have hR0 := hR
  have hd := spCst_rel (hu.2.2.2.2.2.2.2.2.2.2.2.2.2.2.2.2.2.2.2.2.2.2.2.2.1) hR.2.2.2.2.2.2.2.2.2.1 hR.2.2.2.2.2.2.2.1 hxs hms
  have hR2 : rel u2 u6 := ⟨(hx_mar.trans (hR0.1.trans hm_mar.symm)), (hx_tel.trans (hR0.2.1.trans hm_tel.symm)), (hx_gai.trans (hR0.2.2.1.trans hm_gai.symm)), (fun j hj => by rw [hx_fal, hm_fal]; exact hR0.2.2.2.1 j hj), (hx_day.trans (hR0.2.2.2.2.1.trans hm_day.symm)), (hx_ali.trans (hR0.2.2.2.2.2.1.trans hm_ali.symm)), (fun j hj => by rw [hx_ans0, hx_ans1, hx_ans2, hx_ans3, hm_ans]; exact hR0.2.2.2.2.2.2.1 j hj), (fun j hj => by rw [hx_top, hm_top]; exact hR0.2.2.2.2.2.2.2.1 j hj), (by rw [hx_top, hx_str, hx_gho, hx_ghs, hx_pto, hx_wal, hm_top, hm_str, hm_gho, hm_fai, hm_pto, hm_wal]; exact hR0.2.2.2.2.2.2.2.2.1), (by rw [hx_few, hx_doo, hm_dA, hm_dB, hm_doo]; exact hR0.2.2.2.2.2.2.2.2.2.1), (hx_byt.trans (hR0.2.2.2.2.2.2.2.2.2.2.1.trans hm_txt.symm)), (hx_len.trans (hR0.2.2.2.2.2.2.2.2.2.2.2.1.trans hm_byt.symm)), (by rw [hx_mos, hx_wev, hx_aga, hx_apa, hx_lin, hm_lne, hm_lin]; exact hR0.2.2.2.2.2.2.2.2.2.2.2.2.1), (by rw [hx_agr0, hx_agr1, hx_agr2, hx_agr3, hm_ans, hm_and, hm_anr]; exact hR0.2.2.2.2.2.2.2.2.2.2.2.2.2)⟩
  exact kk u2 u6 _ _ ⟨hxu, hmu, hxa, hma, hR2, hP, hD, hS⟩
set_option maxHeartbeats 4000000 in
set_option maxRecDepth 100000 in
theorem lc_20 {p : Program} {l : Launch} {e : Env} {s : State} {m : MethodId} {below : List Frame} {meth : Method} {c : Code} {b L : Nat} {xs : Nat → Int32} {dC : Nat → ClassId} {dI : Nat → Nat → Nat} {cI cZ cQ : ClassId} {ak av : Nat → Nat} {xa ma : Nat} (K : LC p s m meth c b L xs dC dI cI cZ cQ ak av) (hL : L ≤ 2560) (y : Int32) (hy0 : 0 ≤ y.toInt) (hy1 : y.toInt ≤ (L : Int) - 5) (u v : US) (H : Heap) (locs : List Loc) (I : LI dC dI cI cZ cQ s xa ma u v H locs) (ls : Array Slot) (hl : lv_has ls 4 [(0, .ref b), (1, .ref xa), (2, .ref ma), (3, .int y)]) (kk : ∀ (u v : US) (H : Heap) (locs : List Loc), LI dC dI cI cZ cQ s xa ma u v H locs → W p l e room_1 s m #[Value.ref b] below meth c H locs 76 4711 (lw_Z below #[Value.ref b] s) (F0 m 1248 ls [])) : W p l e room_1 s m #[Value.ref b] below meth c H locs 76 4711 (lw_Z below #[Value.ref b] s) (F0 m 776 ls []) := by
  obtain ⟨hx, hb, hml, hown, hts, hX, hbl, hK, hN, hSV⟩ := K
  obtain ⟨hu, hv, hxa, hma, hR, hP, hD, hS⟩ := I
  have hbA : ¬ AL s b := Nat.not_le.mpr hbl
  refine lv_aload_n hx hb dL_law_776 rfl (lv_at hl 1 rfl) ?_
  refine lv_aload_n hx hb dL_law_777 rfl (lv_at hl 0 rfl) ?_
  refine lv_iload_n hx hb dL_law_778 rfl (lv_at hl 3 rfl) ?_
  refine lv_iconst (v := 1) hx hb dL_law_779 (by decide) ?_
  refine lv_iadd hx hb dL_law_780 ?_
  have f1 : (y + 1).toInt = (y.toInt) + (1) := addC rfl (show (1 : Int32).toInt = 1 from rfl) (by omega) (by omega)
  refine va_sld hx hb hX hbl hbA hS (inC f1 (by omega) (by omega)) dL_law_781 ?_
  refine lv_aload_n hx hb dL_law_782 rfl (lv_at hl 0 rfl) ?_
  refine lv_iload_n hx hb dL_law_783 rfl (lv_at hl 3 rfl) ?_
  refine lv_iconst (v := 2) hx hb dL_law_784 (by decide) ?_
  refine lv_iadd hx hb dL_law_785 ?_
  have f2 : (y + 2).toInt = (y.toInt) + (2) := addC rfl (show (2 : Int32).toInt = 2 from rfl) (by omega) (by omega)
  refine va_sld hx hb hX hbl hbA hS (inC f2 (by omega) (by omega)) dL_law_786 ?_
  refine lv_aload_n hx hb dL_law_787 rfl (lv_at hl 0 rfl) ?_
  refine lv_iload_n hx hb dL_law_788 rfl (lv_at hl 3 rfl) ?_
  refine lv_iconst (v := 3) hx hb dL_law_789 (by decide) ?_
  refine lv_iadd hx hb dL_law_790 ?_
  have f3 : (y + 3).toInt = (y.toInt) + (3) := addC rfl (show (3 : Int32).toInt = 3 from rfl) (by omega) (by omega)
  refine va_sld hx hb hX hbl hbA hS (inC f3 (by omega) (by omega)) dL_law_791 ?_
  refine lwP (As := [.int (xs (y + 1).toNatClampNeg), .int (xs (y + 2).toNatClampNeg), .int (xs (y + 3).toNatClampNeg)]) (rest := []) ⟨hx, hb, hml, hown, hts⟩ (kU_X9_plan l dC dI cI cZ cQ ak av u hu _ xa hxa (xs (y + 1).toNatClampNeg) (xs (y + 2).toNatClampNeg) (xs (y + 3).toNatClampNeg)) (cwV 3 hts gL_law_X9_plan rfl rfl rfl (by decide +kernel) ⟨Nat.le_of_ble_eq_true rfl, Nat.le_of_ble_eq_true rfl⟩) hSV hP hD hS hK hN hxa rfl hl.1 rfl (Nat.le_of_ble_eq_true rfl) dL_law_792 ⟨Nat.le_of_ble_eq_true rfl, Nat.le_of_ble_eq_true rfl⟩ (fun r5 u4 H locs h6 hP hD hS => ?_)
  obtain ⟨hxu, hxa, hx_mar, hx_tel, hx_gai, hx_fal, hx_day, hx_ali, hx_ans0, hx_ans1, hx_ans2, hx_ans3, hx_top, hx_str, hx_gho, hx_ghs, hx_pto, hx_wal, hx_few, hx_doo, hx_byt, hx_len, hx_mos, hx_wev, hx_aga, hx_apa, hx_lin, hx_agr0, hx_agr1, hx_agr2, hx_agr3, hxs⟩ := h6
  refine lv_pop hx hb dL_law_795 rfl ?_
  refine lv_aload_n hx hb dL_law_796 rfl (lv_at hl 2 rfl) ?_
  refine lv_aload_n hx hb dL_law_797 rfl (lv_at hl 0 rfl) ?_
  refine lv_iload_n hx hb dL_law_798 rfl (lv_at hl 3 rfl) ?_
  refine lv_iconst (v := 1) hx hb dL_law_799 (by decide) ?_
  refine lv_iadd hx hb dL_law_800 ?_
  have f7 : (y + 1).toInt = (y.toInt) + (1) := addC rfl (show (1 : Int32).toInt = 1 from rfl) (by omega) (by omega)
  refine va_sld hx hb hX hbl hbA hS (inC f7 (by omega) (by omega)) dL_law_801 ?_
  refine lv_aload_n hx hb dL_law_802 rfl (lv_at hl 0 rfl) ?_
  refine lv_iload_n hx hb dL_law_803 rfl (lv_at hl 3 rfl) ?_
  refine lv_iconst (v := 2) hx hb dL_law_804 (by decide) ?_
  refine lv_iadd hx hb dL_law_805 ?_
  have f8 : (y + 2).toInt = (y.toInt) + (2) := addC rfl (show (2 : Int32).toInt = 2 from rfl) (by omega) (by omega)
  refine va_sld hx hb hX hbl hbA hS (inC f8 (by omega) (by omega)) dL_law_806 ?_
  refine lv_aload_n hx hb dL_law_807 rfl (lv_at hl 0 rfl) ?_
  refine lv_iload_n hx hb dL_law_808 rfl (lv_at hl 3 rfl) ?_
  refine lv_iconst (v := 3) hx hb dL_law_809 (by decide) ?_
  refine lv_iadd hx hb dL_law_810 ?_
  have f9 : (y + 3).toInt = (y.toInt) + (3) := addC rfl (show (3 : Int32).toInt = 3 from rfl) (by omega) (by omega)
  refine va_sld hx hb hX hbl hbA hS (inC f9 (by omega) (by omega)) dL_law_811 ?_
  refine lwM (As := [.int (xs (y + 1).toNatClampNeg), .int (xs (y + 2).toNatClampNeg), .int (xs (y + 3).toNatClampNeg)]) (rest := []) ⟨hx, hb, hml, hown, hts⟩ (kU_X10_plan l dC dI cI cZ cQ v hv _ ma hma (xs (y + 1).toNatClampNeg) (xs (y + 2).toNatClampNeg) (xs (y + 3).toNatClampNeg)) (cwV 3 hts gL_law_X10_plan rfl rfl rfl (by decide +kernel) ⟨Nat.le_of_ble_eq_true rfl, Nat.le_of_ble_eq_true rfl⟩) hP hD hS hK hN hma rfl hl.1 rfl (Nat.le_of_ble_eq_true rfl) dL_law_812 ⟨Nat.le_of_ble_eq_true rfl, Nat.le_of_ble_eq_true rfl⟩ (fun r11 u10 H locs h12 hP hD hS => ?_)
  obtain ⟨hmu, hma, hm_mar, hm_tel, hm_gai, hm_fal, hm_day, hm_ali, hm_ans, hm_top, hm_str, hm_gho, hm_fai, hm_pto, hm_wal, hm_dA, hm_dB, hm_doo, hm_txt, hm_byt, hm_lne, hm_lin, hm_and, hm_anr, hms⟩ := h12
  refine lv_pop hx hb dL_law_815 rfl ?_
  refine lv_goto (tgt := 1248) hx hb dL_law_816 (by decide) ?_
  have hR0 := hR
  have hd := spPln_rel hR.2.2.2.2.2.2.2.2.1 hR.2.2.2.2.2.2.2.2.2.1 (hu.2.2.2.2.2.2.2.2.2.2.2.2.2.2.2.2.2.2.2.2.2.2.2.2.1) hR.1 hR.2.1 hR.2.2.1 hR.2.2.2.1 (hu.2.2.2.2.2.2.2.1) (hu.2.2.1) (hu.2.2.2.2.2.2.2.2.1) hxs hms
  have hR2 : rel u4 u10 := ⟨(hx_mar.trans (hR0.1.trans hm_mar.symm)), (hx_tel.trans (hR0.2.1.trans hm_tel.symm)), (hx_gai.trans (hR0.2.2.1.trans hm_gai.symm)), (fun j hj => by rw [hx_fal, hm_fal]; exact hR0.2.2.2.1 j hj), (hx_day.trans (hR0.2.2.2.2.1.trans hm_day.symm)), (hx_ali.trans (hR0.2.2.2.2.2.1.trans hm_ali.symm)), (fun j hj => by rw [hx_ans0, hx_ans1, hx_ans2, hx_ans3, hm_ans]; exact hR0.2.2.2.2.2.2.1 j hj), (fun j hj => by rw [hx_top, hm_top]; exact hR0.2.2.2.2.2.2.2.1 j hj), (by rw [hx_top, hx_str, hx_gho, hx_ghs, hx_pto, hx_wal, hm_top, hm_str, hm_gho, hm_fai, hm_pto, hm_wal]; exact hR0.2.2.2.2.2.2.2.2.1), (by rw [hx_few, hx_doo, hm_dA, hm_dB, hm_doo]; exact hR0.2.2.2.2.2.2.2.2.2.1), (hx_byt.trans (hR0.2.2.2.2.2.2.2.2.2.2.1.trans hm_txt.symm)), (hx_len.trans (hR0.2.2.2.2.2.2.2.2.2.2.2.1.trans hm_byt.symm)), (by rw [hx_mos, hx_wev, hx_aga, hx_apa, hx_lin, hm_lne, hm_lin]; exact hR0.2.2.2.2.2.2.2.2.2.2.2.2.1), (by rw [hx_agr0, hx_agr1, hx_agr2, hx_agr3, hm_ans, hm_and, hm_anr]; exact hR0.2.2.2.2.2.2.2.2.2.2.2.2.2)⟩
  exact kk u4 u10 _ _ ⟨hxu, hmu, hxa, hma, hR2, hP, hD, hS⟩
set_option maxHeartbeats 4000000 in
set_option maxRecDepth 100000 in
theorem lc_21 {p : Program} {l : Launch} {e : Env} {s : State} {m : MethodId} {below : List Frame} {meth : Method} {c : Code} {b L : Nat} {xs : Nat → Int32} {dC : Nat → ClassId} {dI : Nat → Nat → Nat} {cI cZ cQ : ClassId} {ak av : Nat → Nat} {xa ma : Nat} (K : LC p s m meth c b L xs dC dI cI cZ cQ ak av) (hL : L ≤ 2560) (y : Int32) (hy0 : 0 ≤ y.toInt) (hy1 : y.toInt ≤ (L : Int) - 5) (u v : US) (H : Heap) (locs : List Loc) (I : LI dC dI cI cZ cQ s xa ma u v H locs) (ls : Array Slot) (hl : lv_has ls 4 [(0, .ref b), (1, .ref xa), (2, .ref ma), (3, .int y)]) (kk : ∀ (u v : US) (H : Heap) (locs : List Loc), LI dC dI cI cZ cQ s xa ma u v H locs → W p l e room_1 s m #[Value.ref b] below meth c H locs 76 4711 (lw_Z below #[Value.ref b] s) (F0 m 1248 ls [])) : W p l e room_1 s m #[Value.ref b] below meth c H locs 76 4711 (lw_Z below #[Value.ref b] s) (F0 m 819 ls []) := by
  obtain ⟨hx, hb, hml, hown, hts, hX, hbl, hK, hN, hSV⟩ := K
  obtain ⟨hu, hv, hxa, hma, hR, hP, hD, hS⟩ := I
  have hbA : ¬ AL s b := Nat.not_le.mpr hbl
  refine lv_aload_n hx hb dL_law_819 rfl (lv_at hl 1 rfl) ?_
  refine lv_aload_n hx hb dL_law_820 rfl (lv_at hl 0 rfl) ?_
  refine lv_iload_n hx hb dL_law_821 rfl (lv_at hl 3 rfl) ?_
  refine lv_iconst (v := 1) hx hb dL_law_822 (by decide) ?_
  refine lv_iadd hx hb dL_law_823 ?_
  have f1 : (y + 1).toInt = (y.toInt) + (1) := addC rfl (show (1 : Int32).toInt = 1 from rfl) (by omega) (by omega)
  refine va_sld hx hb hX hbl hbA hS (inC f1 (by omega) (by omega)) dL_law_824 ?_
  refine lv_aload_n hx hb dL_law_825 rfl (lv_at hl 0 rfl) ?_
  refine lv_iload_n hx hb dL_law_826 rfl (lv_at hl 3 rfl) ?_
  refine lv_iconst (v := 2) hx hb dL_law_827 (by decide) ?_
  refine lv_iadd hx hb dL_law_828 ?_
  have f2 : (y + 2).toInt = (y.toInt) + (2) := addC rfl (show (2 : Int32).toInt = 2 from rfl) (by omega) (by omega)
  refine va_sld hx hb hX hbl hbA hS (inC f2 (by omega) (by omega)) dL_law_829 ?_
  refine lv_aload_n hx hb dL_law_830 rfl (lv_at hl 0 rfl) ?_
  refine lv_iload_n hx hb dL_law_831 rfl (lv_at hl 3 rfl) ?_
  refine lv_iconst (v := 3) hx hb dL_law_832 (by decide) ?_
  refine lv_iadd hx hb dL_law_833 ?_
  have f3 : (y + 3).toInt = (y.toInt) + (3) := addC rfl (show (3 : Int32).toInt = 3 from rfl) (by omega) (by omega)
  refine va_sld hx hb hX hbl hbA hS (inC f3 (by omega) (by omega)) dL_law_834 ?_
  refine lwP (As := [.int (xs (y + 1).toNatClampNeg), .int (xs (y + 2).toNatClampNeg), .int (xs (y + 3).toNatClampNeg)]) (rest := []) ⟨hx, hb, hml, hown, hts⟩ (kU_X9_judge l dC dI cI cZ cQ ak av u hu _ xa hxa (xs (y + 1).toNatClampNeg) (xs (y + 2).toNatClampNeg) (xs (y + 3).toNatClampNeg)) (cwV 3 hts gL_law_X9_judge rfl rfl rfl (by decide +kernel) ⟨Nat.le_of_ble_eq_true rfl, Nat.le_of_ble_eq_true rfl⟩) hSV hP hD hS hK hN hxa rfl hl.1 rfl (Nat.le_of_ble_eq_true rfl) dL_law_835 ⟨Nat.le_of_ble_eq_true rfl, Nat.le_of_ble_eq_true rfl⟩ (fun r5 u4 H locs h6 hP hD hS => ?_)
  obtain ⟨hxu, hxa, hx_mar, hx_tel, hx_gai, hx_fal, hx_day, hx_ali, hx_ans0, hx_ans1, hx_ans2, hx_ans3, hx_top, hx_str, hx_gho, hx_ghs, hx_pto, hx_wal, hx_few, hx_doo, hx_byt, hx_len, hx_mos, hx_wev, hx_aga, hx_apa, hx_lin, hx_agr0, hx_agr1, hx_agr2, hx_agr3, hxs⟩ := h6
  refine lv_pop hx hb dL_law_838 rfl ?_
  refine lv_aload_n hx hb dL_law_839 rfl (lv_at hl 2 rfl) ?_
  refine lv_aload_n hx hb dL_law_840 rfl (lv_at hl 0 rfl) ?_
  refine lv_iload_n hx hb dL_law_841 rfl (lv_at hl 3 rfl) ?_
  refine lv_iconst (v := 1) hx hb dL_law_842 (by decide) ?_
  refine lv_iadd hx hb dL_law_843 ?_
  have f7 : (y + 1).toInt = (y.toInt) + (1) := addC rfl (show (1 : Int32).toInt = 1 from rfl) (by omega) (by omega)
  refine va_sld hx hb hX hbl hbA hS (inC f7 (by omega) (by omega)) dL_law_844 ?_
  refine lv_aload_n hx hb dL_law_845 rfl (lv_at hl 0 rfl) ?_
  refine lv_iload_n hx hb dL_law_846 rfl (lv_at hl 3 rfl) ?_
  refine lv_iconst (v := 2) hx hb dL_law_847 (by decide) ?_
  refine lv_iadd hx hb dL_law_848 ?_
  have f8 : (y + 2).toInt = (y.toInt) + (2) := addC rfl (show (2 : Int32).toInt = 2 from rfl) (by omega) (by omega)
  refine va_sld hx hb hX hbl hbA hS (inC f8 (by omega) (by omega)) dL_law_849 ?_
  refine lv_aload_n hx hb dL_law_850 rfl (lv_at hl 0 rfl) ?_
  refine lv_iload_n hx hb dL_law_851 rfl (lv_at hl 3 rfl) ?_
  refine lv_iconst (v := 3) hx hb dL_law_852 (by decide) ?_
  refine lv_iadd hx hb dL_law_853 ?_
  have f9 : (y + 3).toInt = (y.toInt) + (3) := addC rfl (show (3 : Int32).toInt = 3 from rfl) (by omega) (by omega)
  refine va_sld hx hb hX hbl hbA hS (inC f9 (by omega) (by omega)) dL_law_854 ?_
  refine lwM (As := [.int (xs (y + 1).toNatClampNeg), .int (xs (y + 2).toNatClampNeg), .int (xs (y + 3).toNatClampNeg)]) (rest := []) ⟨hx, hb, hml, hown, hts⟩ (kU_X10_judge l dC dI cI cZ cQ v hv _ ma hma (xs (y + 1).toNatClampNeg) (xs (y + 2).toNatClampNeg) (xs (y + 3).toNatClampNeg)) (cwV 3 hts gL_law_X10_judge rfl rfl rfl (by decide +kernel) ⟨Nat.le_of_ble_eq_true rfl, Nat.le_of_ble_eq_true rfl⟩) hP hD hS hK hN hma rfl hl.1 rfl (Nat.le_of_ble_eq_true rfl) dL_law_855 ⟨Nat.le_of_ble_eq_true rfl, Nat.le_of_ble_eq_true rfl⟩ (fun r11 u10 H locs h12 hP hD hS => ?_)
  obtain ⟨hmu, hma, hm_mar, hm_tel, hm_gai, hm_fal, hm_day, hm_ali, hm_ans, hm_top, hm_str, hm_gho, hm_fai, hm_pto, hm_wal, hm_dA, hm_dB, hm_doo, hm_txt, hm_byt, hm_lne, hm_lin, hm_and, hm_anr, hms⟩ := h12
  refine lv_pop hx hb dL_law_858 rfl ?_
  refine lv_goto (tgt := 1248) hx hb dL_law_859 (by decide) ?_
  have hR0 := hR
  have hd := spJdg_rel hR.2.2.2.2.2.2.2.2.1 hR.2.2.2.2.2.2.2.2.2.1 (hu.2.2.2.2.2.2.2.2.2.2.2.2.2.2.2.2.2.2.2.2.2.2.2.2.1) hR.1 hR.2.1 hR.2.2.1 hR.2.2.2.1 (hu.2.2.2.2.2.2.2.1) (hu.2.2.1) (hu.2.2.2.2.2.2.2.2.1) hxs hms
  have hR2 : rel u4 u10 := ⟨(hx_mar.trans (hR0.1.trans hm_mar.symm)), (hx_tel.trans (hR0.2.1.trans hm_tel.symm)), (hx_gai.trans (hR0.2.2.1.trans hm_gai.symm)), (fun j hj => by rw [hx_fal, hm_fal]; exact hR0.2.2.2.1 j hj), (hx_day.trans (hR0.2.2.2.2.1.trans hm_day.symm)), (hx_ali.trans (hR0.2.2.2.2.2.1.trans hm_ali.symm)), (fun j hj => by rw [hx_ans0, hx_ans1, hx_ans2, hx_ans3, hm_ans]; exact hR0.2.2.2.2.2.2.1 j hj), (fun j hj => by rw [hx_top, hm_top]; exact hR0.2.2.2.2.2.2.2.1 j hj), (by rw [hx_top, hx_str, hx_gho, hx_ghs, hx_pto, hx_wal, hm_top, hm_str, hm_gho, hm_fai, hm_pto, hm_wal]; exact hR0.2.2.2.2.2.2.2.2.1), (by rw [hx_few, hx_doo, hm_dA, hm_dB, hm_doo]; exact hR0.2.2.2.2.2.2.2.2.2.1), (hx_byt.trans (hR0.2.2.2.2.2.2.2.2.2.2.1.trans hm_txt.symm)), (hx_len.trans (hR0.2.2.2.2.2.2.2.2.2.2.2.1.trans hm_byt.symm)), (by rw [hx_mos, hx_wev, hx_aga, hx_apa, hx_lin, hm_lne, hm_lin]; exact hR0.2.2.2.2.2.2.2.2.2.2.2.2.1), (by rw [hx_agr0, hx_agr1, hx_agr2, hx_agr3, hm_ans, hm_and, hm_anr]; exact hR0.2.2.2.2.2.2.2.2.2.2.2.2.2)⟩
  exact kk u4 u10 _ _ ⟨hxu, hmu, hxa, hma, hR2, hP, hD, hS⟩
set_option maxHeartbeats 4000000 in
set_option maxRecDepth 100000 in
theorem lc_22 {p : Program} {l : Launch} {e : Env} {s : State} {m : MethodId} {below : List Frame} {meth : Method} {c : Code} {b L : Nat} {xs : Nat → Int32} {dC : Nat → ClassId} {dI : Nat → Nat → Nat} {cI cZ cQ : ClassId} {ak av : Nat → Nat} {xa ma : Nat} (K : LC p s m meth c b L xs dC dI cI cZ cQ ak av) (hL : L ≤ 2560) (y : Int32) (hy0 : 0 ≤ y.toInt) (hy1 : y.toInt ≤ (L : Int) - 5) (u v : US) (H : Heap) (locs : List Loc) (I : LI dC dI cI cZ cQ s xa ma u v H locs) (ls : Array Slot) (hl : lv_has ls 4 [(0, .ref b), (1, .ref xa), (2, .ref ma), (3, .int y)]) (kk : ∀ (u v : US) (H : Heap) (locs : List Loc), LI dC dI cI cZ cQ s xa ma u v H locs → W p l e room_1 s m #[Value.ref b] below meth c H locs 76 4711 (lw_Z below #[Value.ref b] s) (F0 m 1248 ls [])) : W p l e room_1 s m #[Value.ref b] below meth c H locs 76 4711 (lw_Z below #[Value.ref b] s) (F0 m 862 ls []) := by
  obtain ⟨hx, hb, hml, hown, hts, hX, hbl, hK, hN, hSV⟩ := K
  obtain ⟨hu, hv, hxa, hma, hR, hP, hD, hS⟩ := I
  have hbA : ¬ AL s b := Nat.not_le.mpr hbl
  refine lv_aload_n hx hb dL_law_862 rfl (lv_at hl 1 rfl) ?_
  refine lv_aload_n hx hb dL_law_863 rfl (lv_at hl 0 rfl) ?_
  refine lv_iload_n hx hb dL_law_864 rfl (lv_at hl 3 rfl) ?_
  refine lv_iconst (v := 1) hx hb dL_law_865 (by decide) ?_
  refine lv_iadd hx hb dL_law_866 ?_
  have f1 : (y + 1).toInt = (y.toInt) + (1) := addC rfl (show (1 : Int32).toInt = 1 from rfl) (by omega) (by omega)
  refine va_sld hx hb hX hbl hbA hS (inC f1 (by omega) (by omega)) dL_law_867 ?_
  refine lv_aload_n hx hb dL_law_868 rfl (lv_at hl 0 rfl) ?_
  refine lv_iload_n hx hb dL_law_869 rfl (lv_at hl 3 rfl) ?_
  refine lv_iconst (v := 2) hx hb dL_law_870 (by decide) ?_
  refine lv_iadd hx hb dL_law_871 ?_
  have f2 : (y + 2).toInt = (y.toInt) + (2) := addC rfl (show (2 : Int32).toInt = 2 from rfl) (by omega) (by omega)
  refine va_sld hx hb hX hbl hbA hS (inC f2 (by omega) (by omega)) dL_law_872 ?_
  refine lwP (As := [.int (xs (y + 1).toNatClampNeg), .int (xs (y + 2).toNatClampNeg)]) (rest := []) ⟨hx, hb, hml, hown, hts⟩ (kU_X9_right l dC dI cI cZ cQ ak av u hu _ xa hxa (xs (y + 1).toNatClampNeg) (xs (y + 2).toNatClampNeg)) (cwV 2 hts gL_law_X9_right rfl rfl rfl (by decide +kernel) ⟨Nat.le_of_ble_eq_true rfl, Nat.le_of_ble_eq_true rfl⟩) hSV hP hD hS hK hN hxa rfl hl.1 rfl (Nat.le_of_ble_eq_true rfl) dL_law_873 ⟨Nat.le_of_ble_eq_true rfl, Nat.le_of_ble_eq_true rfl⟩ (fun r4 u3 H locs h5 hP hD hS => ?_)
  obtain ⟨hxu, hxa, hx_mar, hx_tel, hx_gai, hx_fal, hx_day, hx_ali, hx_ans0, hx_ans1, hx_ans2, hx_ans3, hx_top, hx_str, hx_gho, hx_ghs, hx_pto, hx_wal, hx_few, hx_doo, hx_byt, hx_len, hx_mos, hx_wev, hx_aga, hx_apa, hx_lin, hx_agr0, hx_agr1, hx_agr2, hx_agr3, hxs⟩ := h5
  refine lv_pop hx hb dL_law_876 rfl ?_
  refine lv_aload_n hx hb dL_law_877 rfl (lv_at hl 2 rfl) ?_
  refine lv_aload_n hx hb dL_law_878 rfl (lv_at hl 0 rfl) ?_
  refine lv_iload_n hx hb dL_law_879 rfl (lv_at hl 3 rfl) ?_
  refine lv_iconst (v := 1) hx hb dL_law_880 (by decide) ?_
  refine lv_iadd hx hb dL_law_881 ?_
  have f6 : (y + 1).toInt = (y.toInt) + (1) := addC rfl (show (1 : Int32).toInt = 1 from rfl) (by omega) (by omega)
  refine va_sld hx hb hX hbl hbA hS (inC f6 (by omega) (by omega)) dL_law_882 ?_
  refine lv_aload_n hx hb dL_law_883 rfl (lv_at hl 0 rfl) ?_
  refine lv_iload_n hx hb dL_law_884 rfl (lv_at hl 3 rfl) ?_
  refine lv_iconst (v := 2) hx hb dL_law_885 (by decide) ?_
  refine lv_iadd hx hb dL_law_886 ?_
  have f7 : (y + 2).toInt = (y.toInt) + (2) := addC rfl (show (2 : Int32).toInt = 2 from rfl) (by omega) (by omega)
  refine va_sld hx hb hX hbl hbA hS (inC f7 (by omega) (by omega)) dL_law_887 ?_
  refine lwM (As := [.int (xs (y + 1).toNatClampNeg), .int (xs (y + 2).toNatClampNeg)]) (rest := []) ⟨hx, hb, hml, hown, hts⟩ (kU_X10_right l dC dI cI cZ cQ v hv _ ma hma (xs (y + 1).toNatClampNeg) (xs (y + 2).toNatClampNeg)) (cwV 2 hts gL_law_X10_right rfl rfl rfl (by decide +kernel) ⟨Nat.le_of_ble_eq_true rfl, Nat.le_of_ble_eq_true rfl⟩) hP hD hS hK hN hma rfl hl.1 rfl (Nat.le_of_ble_eq_true rfl) dL_law_888 ⟨Nat.le_of_ble_eq_true rfl, Nat.le_of_ble_eq_true rfl⟩ (fun r9 u8 H locs h10 hP hD hS => ?_)
  obtain ⟨hmu, hma, hm_mar, hm_tel, hm_gai, hm_fal, hm_day, hm_ali, hm_ans, hm_top, hm_str, hm_gho, hm_fai, hm_pto, hm_wal, hm_dA, hm_dB, hm_doo, hm_txt, hm_byt, hm_lne, hm_lin, hm_and, hm_anr, hms⟩ := h10
  refine lv_pop hx hb dL_law_891 rfl ?_
  refine lv_goto (tgt := 1248) hx hb dL_law_892 (by decide) ?_
  have hR0 := hR
  have hd := spRgt_rel hR.2.2.2.2.2.2.2.2.1 hR.1 hR.2.1 hxs hms
  have hR2 : rel u3 u8 := ⟨(hx_mar.trans (hR0.1.trans hm_mar.symm)), (hx_tel.trans (hR0.2.1.trans hm_tel.symm)), (hx_gai.trans (hR0.2.2.1.trans hm_gai.symm)), (fun j hj => by rw [hx_fal, hm_fal]; exact hR0.2.2.2.1 j hj), (hx_day.trans (hR0.2.2.2.2.1.trans hm_day.symm)), (hx_ali.trans (hR0.2.2.2.2.2.1.trans hm_ali.symm)), (fun j hj => by rw [hx_ans0, hx_ans1, hx_ans2, hx_ans3, hm_ans]; exact hR0.2.2.2.2.2.2.1 j hj), (fun j hj => by rw [hx_top, hm_top]; exact hR0.2.2.2.2.2.2.2.1 j hj), (by rw [hx_top, hx_str, hx_gho, hx_ghs, hx_pto, hx_wal, hm_top, hm_str, hm_gho, hm_fai, hm_pto, hm_wal]; exact hR0.2.2.2.2.2.2.2.2.1), (by rw [hx_few, hx_doo, hm_dA, hm_dB, hm_doo]; exact hR0.2.2.2.2.2.2.2.2.2.1), (hx_byt.trans (hR0.2.2.2.2.2.2.2.2.2.2.1.trans hm_txt.symm)), (hx_len.trans (hR0.2.2.2.2.2.2.2.2.2.2.2.1.trans hm_byt.symm)), (by rw [hx_mos, hx_wev, hx_aga, hx_apa, hx_lin, hm_lne, hm_lin]; exact hR0.2.2.2.2.2.2.2.2.2.2.2.2.1), (by rw [hx_agr0, hx_agr1, hx_agr2, hx_agr3, hm_ans, hm_and, hm_anr]; exact hR0.2.2.2.2.2.2.2.2.2.2.2.2.2)⟩
  exact kk u3 u8 _ _ ⟨hxu, hmu, hxa, hma, hR2, hP, hD, hS⟩
set_option maxHeartbeats 4000000 in
set_option maxRecDepth 100000 in
theorem lc_23 {p : Program} {l : Launch} {e : Env} {s : State} {m : MethodId} {below : List Frame} {meth : Method} {c : Code} {b L : Nat} {xs : Nat → Int32} {dC : Nat → ClassId} {dI : Nat → Nat → Nat} {cI cZ cQ : ClassId} {ak av : Nat → Nat} {xa ma : Nat} (K : LC p s m meth c b L xs dC dI cI cZ cQ ak av) (hL : L ≤ 2560) (y : Int32) (hy0 : 0 ≤ y.toInt) (hy1 : y.toInt ≤ (L : Int) - 5) (u v : US) (H : Heap) (locs : List Loc) (I : LI dC dI cI cZ cQ s xa ma u v H locs) (ls : Array Slot) (hl : lv_has ls 4 [(0, .ref b), (1, .ref xa), (2, .ref ma), (3, .int y)]) (kk : ∀ (u v : US) (H : Heap) (locs : List Loc), LI dC dI cI cZ cQ s xa ma u v H locs → W p l e room_1 s m #[Value.ref b] below meth c H locs 76 4711 (lw_Z below #[Value.ref b] s) (F0 m 1248 ls [])) : W p l e room_1 s m #[Value.ref b] below meth c H locs 76 4711 (lw_Z below #[Value.ref b] s) (F0 m 895 ls []) := by
  obtain ⟨hx, hb, hml, hown, hts, hX, hbl, hK, hN, hSV⟩ := K
  obtain ⟨hu, hv, hxa, hma, hR, hP, hD, hS⟩ := I
  have hbA : ¬ AL s b := Nat.not_le.mpr hbl
  refine lv_aload_n hx hb dL_law_895 rfl (lv_at hl 1 rfl) ?_
  refine lv_aload_n hx hb dL_law_896 rfl (lv_at hl 0 rfl) ?_
  refine lv_iload_n hx hb dL_law_897 rfl (lv_at hl 3 rfl) ?_
  refine lv_iconst (v := 1) hx hb dL_law_898 (by decide) ?_
  refine lv_iadd hx hb dL_law_899 ?_
  have f1 : (y + 1).toInt = (y.toInt) + (1) := addC rfl (show (1 : Int32).toInt = 1 from rfl) (by omega) (by omega)
  refine va_sld hx hb hX hbl hbA hS (inC f1 (by omega) (by omega)) dL_law_900 ?_
  refine lv_aload_n hx hb dL_law_901 rfl (lv_at hl 0 rfl) ?_
  refine lv_iload_n hx hb dL_law_902 rfl (lv_at hl 3 rfl) ?_
  refine lv_iconst (v := 2) hx hb dL_law_903 (by decide) ?_
  refine lv_iadd hx hb dL_law_904 ?_
  have f2 : (y + 2).toInt = (y.toInt) + (2) := addC rfl (show (2 : Int32).toInt = 2 from rfl) (by omega) (by omega)
  refine va_sld hx hb hX hbl hbA hS (inC f2 (by omega) (by omega)) dL_law_905 ?_
  refine lwP (As := [.int (xs (y + 1).toNatClampNeg), .int (xs (y + 2).toNatClampNeg)]) (rest := []) ⟨hx, hb, hml, hown, hts⟩ (kU_X9_causes l dC dI cI cZ cQ ak av u hu _ xa hxa (xs (y + 1).toNatClampNeg) (xs (y + 2).toNatClampNeg)) (cwV 2 hts gL_law_X9_causes rfl rfl rfl (by decide +kernel) ⟨Nat.le_of_ble_eq_true rfl, Nat.le_of_ble_eq_true rfl⟩) hSV hP hD hS hK hN hxa rfl hl.1 rfl (Nat.le_of_ble_eq_true rfl) dL_law_906 ⟨Nat.le_of_ble_eq_true rfl, Nat.le_of_ble_eq_true rfl⟩ (fun r4 u3 H locs h5 hP hD hS => ?_)
  obtain ⟨hxu, hxa, hx_mar, hx_tel, hx_gai, hx_fal, hx_day, hx_ali, hx_ans0, hx_ans1, hx_ans2, hx_ans3, hx_top, hx_str, hx_gho, hx_ghs, hx_pto, hx_wal, hx_few, hx_doo, hx_byt, hx_len, hx_mos, hx_wev, hx_aga, hx_apa, hx_lin, hx_agr0, hx_agr1, hx_agr2, hx_agr3, hxs⟩ := h5
  refine lv_pop hx hb dL_law_909 rfl ?_
  refine lv_aload_n hx hb dL_law_910 rfl (lv_at hl 2 rfl) ?_
  refine lv_aload_n hx hb dL_law_911 rfl (lv_at hl 0 rfl) ?_
  refine lv_iload_n hx hb dL_law_912 rfl (lv_at hl 3 rfl) ?_
  refine lv_iconst (v := 1) hx hb dL_law_913 (by decide) ?_
  refine lv_iadd hx hb dL_law_914 ?_
  have f6 : (y + 1).toInt = (y.toInt) + (1) := addC rfl (show (1 : Int32).toInt = 1 from rfl) (by omega) (by omega)
  refine va_sld hx hb hX hbl hbA hS (inC f6 (by omega) (by omega)) dL_law_915 ?_
  refine lv_aload_n hx hb dL_law_916 rfl (lv_at hl 0 rfl) ?_
  refine lv_iload_n hx hb dL_law_917 rfl (lv_at hl 3 rfl) ?_
  refine lv_iconst (v := 2) hx hb dL_law_918 (by decide) ?_
  refine lv_iadd hx hb dL_law_919 ?_
  have f7 : (y + 2).toInt = (y.toInt) + (2) := addC rfl (show (2 : Int32).toInt = 2 from rfl) (by omega) (by omega)
  refine va_sld hx hb hX hbl hbA hS (inC f7 (by omega) (by omega)) dL_law_920 ?_
  refine lwM (As := [.int (xs (y + 1).toNatClampNeg), .int (xs (y + 2).toNatClampNeg)]) (rest := []) ⟨hx, hb, hml, hown, hts⟩ (kU_X10_causes l dC dI cI cZ cQ v hv _ ma hma (xs (y + 1).toNatClampNeg) (xs (y + 2).toNatClampNeg)) (cwV 2 hts gL_law_X10_causes rfl rfl rfl (by decide +kernel) ⟨Nat.le_of_ble_eq_true rfl, Nat.le_of_ble_eq_true rfl⟩) hP hD hS hK hN hma rfl hl.1 rfl (Nat.le_of_ble_eq_true rfl) dL_law_921 ⟨Nat.le_of_ble_eq_true rfl, Nat.le_of_ble_eq_true rfl⟩ (fun r9 u8 H locs h10 hP hD hS => ?_)
  obtain ⟨hmu, hma, hm_mar, hm_tel, hm_gai, hm_fal, hm_day, hm_ali, hm_ans, hm_top, hm_str, hm_gho, hm_fai, hm_pto, hm_wal, hm_dA, hm_dB, hm_doo, hm_txt, hm_byt, hm_lne, hm_lin, hm_and, hm_anr, hms⟩ := h10
  refine lv_pop hx hb dL_law_924 rfl ?_
  refine lv_goto (tgt := 1248) hx hb dL_law_925 (by decide) ?_
  have hR0 := hR
  have hd := spCau_rel hR.2.2.2.2.2.2.2.2.1 hR.1 hR.2.1 hR.2.2.2.2.2.2.2.2.2.1 hxs hms
  have hR2 : rel u3 u8 := ⟨(hx_mar.trans (hR0.1.trans hm_mar.symm)), (hx_tel.trans (hR0.2.1.trans hm_tel.symm)), (hx_gai.trans (hR0.2.2.1.trans hm_gai.symm)), (fun j hj => by rw [hx_fal, hm_fal]; exact hR0.2.2.2.1 j hj), (hx_day.trans (hR0.2.2.2.2.1.trans hm_day.symm)), (hx_ali.trans (hR0.2.2.2.2.2.1.trans hm_ali.symm)), (fun j hj => by rw [hx_ans0, hx_ans1, hx_ans2, hx_ans3, hm_ans]; exact hR0.2.2.2.2.2.2.1 j hj), (fun j hj => by rw [hx_top, hm_top]; exact hR0.2.2.2.2.2.2.2.1 j hj), (by rw [hx_top, hx_str, hx_gho, hx_ghs, hx_pto, hx_wal, hm_top, hm_str, hm_gho, hm_fai, hm_pto, hm_wal]; exact hR0.2.2.2.2.2.2.2.2.1), (by rw [hx_few, hx_doo, hm_dA, hm_dB, hm_doo]; exact hR0.2.2.2.2.2.2.2.2.2.1), (hx_byt.trans (hR0.2.2.2.2.2.2.2.2.2.2.1.trans hm_txt.symm)), (hx_len.trans (hR0.2.2.2.2.2.2.2.2.2.2.2.1.trans hm_byt.symm)), (by rw [hx_mos, hx_wev, hx_aga, hx_apa, hx_lin, hm_lne, hm_lin]; exact hR0.2.2.2.2.2.2.2.2.2.2.2.2.1), (by rw [hx_agr0, hx_agr1, hx_agr2, hx_agr3, hm_ans, hm_and, hm_anr]; exact hR0.2.2.2.2.2.2.2.2.2.2.2.2.2)⟩
  exact kk u3 u8 _ _ ⟨hxu, hmu, hxa, hma, hR2, hP, hD, hS⟩
set_option maxHeartbeats 4000000 in
set_option maxRecDepth 100000 in
theorem lc_24 {p : Program} {l : Launch} {e : Env} {s : State} {m : MethodId} {below : List Frame} {meth : Method} {c : Code} {b L : Nat} {xs : Nat → Int32} {dC : Nat → ClassId} {dI : Nat → Nat → Nat} {cI cZ cQ : ClassId} {ak av : Nat → Nat} {xa ma : Nat} (K : LC p s m meth c b L xs dC dI cI cZ cQ ak av) (hL : L ≤ 2560) (y : Int32) (hy0 : 0 ≤ y.toInt) (hy1 : y.toInt ≤ (L : Int) - 5) (u v : US) (H : Heap) (locs : List Loc) (I : LI dC dI cI cZ cQ s xa ma u v H locs) (ls : Array Slot) (hl : lv_has ls 4 [(0, .ref b), (1, .ref xa), (2, .ref ma), (3, .int y)]) (kk : ∀ (u v : US) (H : Heap) (locs : List Loc), LI dC dI cI cZ cQ s xa ma u v H locs → W p l e room_1 s m #[Value.ref b] below meth c H locs 76 4711 (lw_Z below #[Value.ref b] s) (F0 m 1248 ls [])) : W p l e room_1 s m #[Value.ref b] below meth c H locs 76 4711 (lw_Z below #[Value.ref b] s) (F0 m 928 ls []) := by
  obtain ⟨hx, hb, hml, hown, hts, hX, hbl, hK, hN, hSV⟩ := K
  obtain ⟨hu, hv, hxa, hma, hR, hP, hD, hS⟩ := I
  have hbA : ¬ AL s b := Nat.not_le.mpr hbl
  refine lv_aload_n hx hb dL_law_928 rfl (lv_at hl 1 rfl) ?_
  refine lv_aload_n hx hb dL_law_929 rfl (lv_at hl 0 rfl) ?_
  refine lv_iload_n hx hb dL_law_930 rfl (lv_at hl 3 rfl) ?_
  refine lv_iconst (v := 1) hx hb dL_law_931 (by decide) ?_
  refine lv_iadd hx hb dL_law_932 ?_
  have f1 : (y + 1).toInt = (y.toInt) + (1) := addC rfl (show (1 : Int32).toInt = 1 from rfl) (by omega) (by omega)
  refine va_sld hx hb hX hbl hbA hS (inC f1 (by omega) (by omega)) dL_law_933 ?_
  refine lv_aload_n hx hb dL_law_934 rfl (lv_at hl 0 rfl) ?_
  refine lv_iload_n hx hb dL_law_935 rfl (lv_at hl 3 rfl) ?_
  refine lv_iconst (v := 2) hx hb dL_law_936 (by decide) ?_
  refine lv_iadd hx hb dL_law_937 ?_
  have f2 : (y + 2).toInt = (y.toInt) + (2) := addC rfl (show (2 : Int32).toInt = 2 from rfl) (by omega) (by omega)
  refine va_sld hx hb hX hbl hbA hS (inC f2 (by omega) (by omega)) dL_law_938 ?_
  refine lwP (As := [.int (xs (y + 1).toNatClampNeg), .int (xs (y + 2).toNatClampNeg)]) (rest := []) ⟨hx, hb, hml, hown, hts⟩ (kU_X9_asked l dC dI cI cZ cQ ak av u hu _ xa hxa (xs (y + 1).toNatClampNeg) (xs (y + 2).toNatClampNeg)) (cwV 2 hts gL_law_X9_asked rfl rfl rfl (by decide +kernel) ⟨Nat.le_of_ble_eq_true rfl, Nat.le_of_ble_eq_true rfl⟩) hSV hP hD hS hK hN hxa rfl hl.1 rfl (Nat.le_of_ble_eq_true rfl) dL_law_939 ⟨Nat.le_of_ble_eq_true rfl, Nat.le_of_ble_eq_true rfl⟩ (fun r4 u3 H locs h5 hP hD hS => ?_)
  obtain ⟨hxu, hxa, hx_mar, hx_tel, hx_gai, hx_fal, hx_day, hx_ali, hx_ans0, hx_ans1, hx_ans2, hx_ans3, hx_top, hx_str, hx_gho, hx_ghs, hx_pto, hx_wal, hx_few, hx_doo, hx_byt, hx_len, hx_mos, hx_wev, hx_aga, hx_apa, hx_lin, hx_agr0, hx_agr1, hx_agr2, hx_agr3, hxs⟩ := h5
  refine lv_pop hx hb dL_law_942 rfl ?_
  refine lv_aload_n hx hb dL_law_943 rfl (lv_at hl 2 rfl) ?_
  refine lv_aload_n hx hb dL_law_944 rfl (lv_at hl 0 rfl) ?_
  refine lv_iload_n hx hb dL_law_945 rfl (lv_at hl 3 rfl) ?_
  refine lv_iconst (v := 1) hx hb dL_law_946 (by decide) ?_
  refine lv_iadd hx hb dL_law_947 ?_
  have f6 : (y + 1).toInt = (y.toInt) + (1) := addC rfl (show (1 : Int32).toInt = 1 from rfl) (by omega) (by omega)
  refine va_sld hx hb hX hbl hbA hS (inC f6 (by omega) (by omega)) dL_law_948 ?_
  refine lv_aload_n hx hb dL_law_949 rfl (lv_at hl 0 rfl) ?_
  refine lv_iload_n hx hb dL_law_950 rfl (lv_at hl 3 rfl) ?_
  refine lv_iconst (v := 2) hx hb dL_law_951 (by decide) ?_
  refine lv_iadd hx hb dL_law_952 ?_
  have f7 : (y + 2).toInt = (y.toInt) + (2) := addC rfl (show (2 : Int32).toInt = 2 from rfl) (by omega) (by omega)
  refine va_sld hx hb hX hbl hbA hS (inC f7 (by omega) (by omega)) dL_law_953 ?_
  refine lwM (As := [.int (xs (y + 1).toNatClampNeg), .int (xs (y + 2).toNatClampNeg)]) (rest := []) ⟨hx, hb, hml, hown, hts⟩ (kU_X10_asked l dC dI cI cZ cQ v hv _ ma hma (xs (y + 1).toNatClampNeg) (xs (y + 2).toNatClampNeg)) (cwV 2 hts gL_law_X10_asked rfl rfl rfl (by decide +kernel) ⟨Nat.le_of_ble_eq_true rfl, Nat.le_of_ble_eq_true rfl⟩) hP hD hS hK hN hma rfl hl.1 rfl (Nat.le_of_ble_eq_true rfl) dL_law_954 ⟨Nat.le_of_ble_eq_true rfl, Nat.le_of_ble_eq_true rfl⟩ (fun r9 u8 H locs h10 hP hD hS => ?_)
  obtain ⟨hmu, hma, hm_mar, hm_tel, hm_gai, hm_fal, hm_day, hm_ali, hm_ans, hm_top, hm_str, hm_gho, hm_fai, hm_pto, hm_wal, hm_dA, hm_dB, hm_doo, hm_txt, hm_byt, hm_lne, hm_lin, hm_and, hm_anr, hms⟩ := h10
  refine lv_pop hx hb dL_law_957 rfl ?_
  refine lv_goto (tgt := 1248) hx hb dL_law_958 (by decide) ?_
  have hR0 := hR
  have hd := spAsk_rel (hu.2.2.2.2.2.2.2.2.2.2.2.2.2.2.2.2.2.2.2.2.2.2.2.2.1) hR.2.2.2.2.2.2.2.2.2.1 hR.2.2.2.2.2.2.2.1 hxs hms
  have hR2 : rel u3 u8 := ⟨(hx_mar.trans (hR0.1.trans hm_mar.symm)), (hx_tel.trans (hR0.2.1.trans hm_tel.symm)), (hx_gai.trans (hR0.2.2.1.trans hm_gai.symm)), (fun j hj => by rw [hx_fal, hm_fal]; exact hR0.2.2.2.1 j hj), (hx_day.trans (hR0.2.2.2.2.1.trans hm_day.symm)), (hx_ali.trans (hR0.2.2.2.2.2.1.trans hm_ali.symm)), (fun j hj => by rw [hx_ans0, hx_ans1, hx_ans2, hx_ans3, hm_ans]; exact hR0.2.2.2.2.2.2.1 j hj), (fun j hj => by rw [hx_top, hm_top]; exact hR0.2.2.2.2.2.2.2.1 j hj), (by rw [hx_top, hx_str, hx_gho, hx_ghs, hx_pto, hx_wal, hm_top, hm_str, hm_gho, hm_fai, hm_pto, hm_wal]; exact hR0.2.2.2.2.2.2.2.2.1), (by rw [hx_few, hx_doo, hm_dA, hm_dB, hm_doo]; exact hR0.2.2.2.2.2.2.2.2.2.1), (hx_byt.trans (hR0.2.2.2.2.2.2.2.2.2.2.1.trans hm_txt.symm)), (hx_len.trans (hR0.2.2.2.2.2.2.2.2.2.2.2.1.trans hm_byt.symm)), (by rw [hx_mos, hx_wev, hx_aga, hx_apa, hx_lin, hm_lne, hm_lin]; exact hR0.2.2.2.2.2.2.2.2.2.2.2.2.1), (by rw [hx_agr0, hx_agr1, hx_agr2, hx_agr3, hm_ans, hm_and, hm_anr]; exact hR0.2.2.2.2.2.2.2.2.2.2.2.2.2)⟩
  exact kk u3 u8 _ _ ⟨hxu, hmu, hxa, hma, hR2, hP, hD, hS⟩
set_option maxHeartbeats 4000000 in
set_option maxRecDepth 100000 in
theorem lc_25 {p : Program} {l : Launch} {e : Env} {s : State} {m : MethodId} {below : List Frame} {meth : Method} {c : Code} {b L : Nat} {xs : Nat → Int32} {dC : Nat → ClassId} {dI : Nat → Nat → Nat} {cI cZ cQ : ClassId} {ak av : Nat → Nat} {xa ma : Nat} (K : LC p s m meth c b L xs dC dI cI cZ cQ ak av) (hL : L ≤ 2560) (y : Int32) (hy0 : 0 ≤ y.toInt) (hy1 : y.toInt ≤ (L : Int) - 5) (u v : US) (H : Heap) (locs : List Loc) (I : LI dC dI cI cZ cQ s xa ma u v H locs) (ls : Array Slot) (hl : lv_has ls 4 [(0, .ref b), (1, .ref xa), (2, .ref ma), (3, .int y)]) (kk : ∀ (u v : US) (H : Heap) (locs : List Loc), LI dC dI cI cZ cQ s xa ma u v H locs → W p l e room_1 s m #[Value.ref b] below meth c H locs 76 4711 (lw_Z below #[Value.ref b] s) (F0 m 1248 ls [])) : W p l e room_1 s m #[Value.ref b] below meth c H locs 76 4711 (lw_Z below #[Value.ref b] s) (F0 m 961 ls []) := by
  obtain ⟨hx, hb, hml, hown, hts, hX, hbl, hK, hN, hSV⟩ := K
  obtain ⟨hu, hv, hxa, hma, hR, hP, hD, hS⟩ := I
  have hbA : ¬ AL s b := Nat.not_le.mpr hbl
  refine lv_aload_n hx hb dL_law_961 rfl (lv_at hl 1 rfl) ?_
  refine lv_aload_n hx hb dL_law_962 rfl (lv_at hl 0 rfl) ?_
  refine lv_iload_n hx hb dL_law_963 rfl (lv_at hl 3 rfl) ?_
  refine lv_iconst (v := 1) hx hb dL_law_964 (by decide) ?_
  refine lv_iadd hx hb dL_law_965 ?_
  have f1 : (y + 1).toInt = (y.toInt) + (1) := addC rfl (show (1 : Int32).toInt = 1 from rfl) (by omega) (by omega)
  refine va_sld hx hb hX hbl hbA hS (inC f1 (by omega) (by omega)) dL_law_966 ?_
  refine lv_aload_n hx hb dL_law_967 rfl (lv_at hl 0 rfl) ?_
  refine lv_iload_n hx hb dL_law_968 rfl (lv_at hl 3 rfl) ?_
  refine lv_iconst (v := 2) hx hb dL_law_969 (by decide) ?_
  refine lv_iadd hx hb dL_law_970 ?_
  have f2 : (y + 2).toInt = (y.toInt) + (2) := addC rfl (show (2 : Int32).toInt = 2 from rfl) (by omega) (by omega)
  refine va_sld hx hb hX hbl hbA hS (inC f2 (by omega) (by omega)) dL_law_971 ?_
  refine lwP (As := [.int (xs (y + 1).toNatClampNeg), .int (xs (y + 2).toNatClampNeg)]) (rest := []) ⟨hx, hb, hml, hown, hts⟩ (kU_X9_beside l dC dI cI cZ cQ ak av u hu _ xa hxa (xs (y + 1).toNatClampNeg) (xs (y + 2).toNatClampNeg)) (cwV 2 hts gL_law_X9_beside rfl rfl rfl (by decide +kernel) ⟨Nat.le_of_ble_eq_true rfl, Nat.le_of_ble_eq_true rfl⟩) hSV hP hD hS hK hN hxa rfl hl.1 rfl (Nat.le_of_ble_eq_true rfl) dL_law_972 ⟨Nat.le_of_ble_eq_true rfl, Nat.le_of_ble_eq_true rfl⟩ (fun r4 u3 H locs h5 hP hD hS => ?_)
  obtain ⟨hxu, hxa, hx_mar, hx_tel, hx_gai, hx_fal, hx_day, hx_ali, hx_ans0, hx_ans1, hx_ans2, hx_ans3, hx_top, hx_str, hx_gho, hx_ghs, hx_pto, hx_wal, hx_few, hx_doo, hx_byt, hx_len, hx_mos, hx_wev, hx_aga, hx_apa, hx_lin, hx_agr0, hx_agr1, hx_agr2, hx_agr3, hxs⟩ := h5
  refine lv_pop hx hb dL_law_975 rfl ?_
  refine lv_aload_n hx hb dL_law_976 rfl (lv_at hl 2 rfl) ?_
  refine lv_aload_n hx hb dL_law_977 rfl (lv_at hl 0 rfl) ?_
  refine lv_iload_n hx hb dL_law_978 rfl (lv_at hl 3 rfl) ?_
  refine lv_iconst (v := 1) hx hb dL_law_979 (by decide) ?_
  refine lv_iadd hx hb dL_law_980 ?_
  have f6 : (y + 1).toInt = (y.toInt) + (1) := addC rfl (show (1 : Int32).toInt = 1 from rfl) (by omega) (by omega)
  refine va_sld hx hb hX hbl hbA hS (inC f6 (by omega) (by omega)) dL_law_981 ?_
  refine lv_aload_n hx hb dL_law_982 rfl (lv_at hl 0 rfl) ?_
  refine lv_iload_n hx hb dL_law_983 rfl (lv_at hl 3 rfl) ?_
  refine lv_iconst (v := 2) hx hb dL_law_984 (by decide) ?_
  refine lv_iadd hx hb dL_law_985 ?_
  have f7 : (y + 2).toInt = (y.toInt) + (2) := addC rfl (show (2 : Int32).toInt = 2 from rfl) (by omega) (by omega)
  refine va_sld hx hb hX hbl hbA hS (inC f7 (by omega) (by omega)) dL_law_986 ?_
  refine lwM (As := [.int (xs (y + 1).toNatClampNeg), .int (xs (y + 2).toNatClampNeg)]) (rest := []) ⟨hx, hb, hml, hown, hts⟩ (kU_X10_beside l dC dI cI cZ cQ v hv _ ma hma (xs (y + 1).toNatClampNeg) (xs (y + 2).toNatClampNeg)) (cwV 2 hts gL_law_X10_beside rfl rfl rfl (by decide +kernel) ⟨Nat.le_of_ble_eq_true rfl, Nat.le_of_ble_eq_true rfl⟩) hP hD hS hK hN hma rfl hl.1 rfl (Nat.le_of_ble_eq_true rfl) dL_law_987 ⟨Nat.le_of_ble_eq_true rfl, Nat.le_of_ble_eq_true rfl⟩ (fun r9 u8 H locs h10 hP hD hS => ?_)
  obtain ⟨hmu, hma, hm_mar, hm_tel, hm_gai, hm_fal, hm_day, hm_ali, hm_ans, hm_top, hm_str, hm_gho, hm_fai, hm_pto, hm_wal, hm_dA, hm_dB, hm_doo, hm_txt, hm_byt, hm_lne, hm_lin, hm_and, hm_anr, hms⟩ := h10
  refine lv_pop hx hb dL_law_990 rfl ?_
  refine lv_goto (tgt := 1248) hx hb dL_law_991 (by decide) ?_
  have hR0 := hR
  have hd := spBeside_rel hR.2.2.2.2.2.2.2.1 hxs hms
  have hR2 : rel u3 u8 := ⟨(hx_mar.trans (hR0.1.trans hm_mar.symm)), (hx_tel.trans (hR0.2.1.trans hm_tel.symm)), (hx_gai.trans (hR0.2.2.1.trans hm_gai.symm)), (fun j hj => by rw [hx_fal, hm_fal]; exact hR0.2.2.2.1 j hj), (hx_day.trans (hR0.2.2.2.2.1.trans hm_day.symm)), (hx_ali.trans (hR0.2.2.2.2.2.1.trans hm_ali.symm)), (fun j hj => by rw [hx_ans0, hx_ans1, hx_ans2, hx_ans3, hm_ans]; exact hR0.2.2.2.2.2.2.1 j hj), (fun j hj => by rw [hx_top, hm_top]; exact hR0.2.2.2.2.2.2.2.1 j hj), (by rw [hx_top, hx_str, hx_gho, hx_ghs, hx_pto, hx_wal, hm_top, hm_str, hm_gho, hm_fai, hm_pto, hm_wal]; exact hR0.2.2.2.2.2.2.2.2.1), (by rw [hx_few, hx_doo, hm_dA, hm_dB, hm_doo]; exact hR0.2.2.2.2.2.2.2.2.2.1), (hx_byt.trans (hR0.2.2.2.2.2.2.2.2.2.2.1.trans hm_txt.symm)), (hx_len.trans (hR0.2.2.2.2.2.2.2.2.2.2.2.1.trans hm_byt.symm)), (by rw [hx_mos, hx_wev, hx_aga, hx_apa, hx_lin, hm_lne, hm_lin]; exact hR0.2.2.2.2.2.2.2.2.2.2.2.2.1), (by rw [hx_agr0, hx_agr1, hx_agr2, hx_agr3, hm_ans, hm_and, hm_anr]; exact hR0.2.2.2.2.2.2.2.2.2.2.2.2.2)⟩
  exact kk u3 u8 _ _ ⟨hxu, hmu, hxa, hma, hR2, hP, hD, hS⟩
set_option maxHeartbeats 4000000 in
set_option maxRecDepth 100000 in
theorem lc_26 {p : Program} {l : Launch} {e : Env} {s : State} {m : MethodId} {below : List Frame} {meth : Method} {c : Code} {b L : Nat} {xs : Nat → Int32} {dC : Nat → ClassId} {dI : Nat → Nat → Nat} {cI cZ cQ : ClassId} {ak av : Nat → Nat} {xa ma : Nat} (K : LC p s m meth c b L xs dC dI cI cZ cQ ak av) (hL : L ≤ 2560) (y : Int32) (hy0 : 0 ≤ y.toInt) (hy1 : y.toInt ≤ (L : Int) - 5) (u v : US) (H : Heap) (locs : List Loc) (I : LI dC dI cI cZ cQ s xa ma u v H locs) (ls : Array Slot) (hl : lv_has ls 4 [(0, .ref b), (1, .ref xa), (2, .ref ma), (3, .int y)]) (kk : ∀ (u v : US) (H : Heap) (locs : List Loc), LI dC dI cI cZ cQ s xa ma u v H locs → W p l e room_1 s m #[Value.ref b] below meth c H locs 76 4711 (lw_Z below #[Value.ref b] s) (F0 m 1248 ls [])) : W p l e room_1 s m #[Value.ref b] below meth c H locs 76 4711 (lw_Z below #[Value.ref b] s) (F0 m 994 ls []) := by
  obtain ⟨hx, hb, hml, hown, hts, hX, hbl, hK, hN, hSV⟩ := K
  obtain ⟨hu, hv, hxa, hma, hR, hP, hD, hS⟩ := I
  have hbA : ¬ AL s b := Nat.not_le.mpr hbl
  refine lv_aload_n hx hb dL_law_994 rfl (lv_at hl 1 rfl) ?_
  refine lv_aload_n hx hb dL_law_995 rfl (lv_at hl 0 rfl) ?_
  refine lv_iload_n hx hb dL_law_996 rfl (lv_at hl 3 rfl) ?_
  refine lv_iconst (v := 1) hx hb dL_law_997 (by decide) ?_
  refine lv_iadd hx hb dL_law_998 ?_
  have f1 : (y + 1).toInt = (y.toInt) + (1) := addC rfl (show (1 : Int32).toInt = 1 from rfl) (by omega) (by omega)
  refine va_sld hx hb hX hbl hbA hS (inC f1 (by omega) (by omega)) dL_law_999 ?_
  refine lv_aload_n hx hb dL_law_1000 rfl (lv_at hl 0 rfl) ?_
  refine lv_iload_n hx hb dL_law_1001 rfl (lv_at hl 3 rfl) ?_
  refine lv_iconst (v := 2) hx hb dL_law_1002 (by decide) ?_
  refine lv_iadd hx hb dL_law_1003 ?_
  have f2 : (y + 2).toInt = (y.toInt) + (2) := addC rfl (show (2 : Int32).toInt = 2 from rfl) (by omega) (by omega)
  refine va_sld hx hb hX hbl hbA hS (inC f2 (by omega) (by omega)) dL_law_1004 ?_
  refine lv_aload_n hx hb dL_law_1005 rfl (lv_at hl 0 rfl) ?_
  refine lv_iload_n hx hb dL_law_1006 rfl (lv_at hl 3 rfl) ?_
  refine lv_iconst (v := 3) hx hb dL_law_1007 (by decide) ?_
  refine lv_iadd hx hb dL_law_1008 ?_
  have f3 : (y + 3).toInt = (y.toInt) + (3) := addC rfl (show (3 : Int32).toInt = 3 from rfl) (by omega) (by omega)
  refine va_sld hx hb hX hbl hbA hS (inC f3 (by omega) (by omega)) dL_law_1009 ?_
  refine lv_if_eq (tgt := 1017) hx hb dL_law_1010 (by decide) (fun c4 => ?_) (fun c4 => ?_)
  · have dc4 : (xs (y + 3).toNatClampNeg).toInt = 0 := eqC rfl (show (0 : Int32).toInt = 0 from rfl) c4
    refine lv_iconst (v := 0) hx hb dL_law_1017 (by decide) ?_
    refine lwP (As := [.int (xs (y + 1).toNatClampNeg), .int (xs (y + 2).toNatClampNeg), .int 0]) (rest := []) ⟨hx, hb, hml, hown, hts⟩ (kU_X9_answer l dC dI cI cZ cQ ak av u hu _ xa hxa (xs (y + 1).toNatClampNeg) (xs (y + 2).toNatClampNeg) (0 : Int32)) (cwV 3 hts gL_law_X9_answer rfl rfl rfl (by decide +kernel) ⟨Nat.le_of_ble_eq_true rfl, Nat.le_of_ble_eq_true rfl⟩) hSV hP hD hS hK hN hxa rfl hl.1 rfl (Nat.le_of_ble_eq_true rfl) dL_law_1018 ⟨Nat.le_of_ble_eq_true rfl, Nat.le_of_ble_eq_true rfl⟩ (fun r6 u5 H locs h7 hP hD hS => ?_)
    obtain ⟨hxu, hxa, hx_mar, hx_tel, hx_gai, hx_fal, hx_day, hx_ali, hx_top, hx_str, hx_gho, hx_ghs, hx_pto, hx_wal, hx_few, hx_doo, hx_byt, hx_len, hx_mos, hx_wev, hx_aga, hx_apa, hx_lin, hxs⟩ := h7
    refine lv_pop hx hb dL_law_1021 rfl ?_
    refine lv_aload_n hx hb dL_law_1022 rfl (lv_at hl 2 rfl) ?_
    refine lv_aload_n hx hb dL_law_1023 rfl (lv_at hl 0 rfl) ?_
    refine lv_iload_n hx hb dL_law_1024 rfl (lv_at hl 3 rfl) ?_
    refine lv_iconst (v := 1) hx hb dL_law_1025 (by decide) ?_
    refine lv_iadd hx hb dL_law_1026 ?_
    have f8 : (y + 1).toInt = (y.toInt) + (1) := addC rfl (show (1 : Int32).toInt = 1 from rfl) (by omega) (by omega)
    refine va_sld hx hb hX hbl hbA hS (inC f8 (by omega) (by omega)) dL_law_1027 ?_
    refine lv_aload_n hx hb dL_law_1028 rfl (lv_at hl 0 rfl) ?_
    refine lv_iload_n hx hb dL_law_1029 rfl (lv_at hl 3 rfl) ?_
    refine lv_iconst (v := 2) hx hb dL_law_1030 (by decide) ?_
    refine lv_iadd hx hb dL_law_1031 ?_
    have f9 : (y + 2).toInt = (y.toInt) + (2) := addC rfl (show (2 : Int32).toInt = 2 from rfl) (by omega) (by omega)
    refine va_sld hx hb hX hbl hbA hS (inC f9 (by omega) (by omega)) dL_law_1032 ?_
    refine lv_aload_n hx hb dL_law_1033 rfl (lv_at hl 0 rfl) ?_
    refine lv_iload_n hx hb dL_law_1034 rfl (lv_at hl 3 rfl) ?_
    refine lv_iconst (v := 3) hx hb dL_law_1035 (by decide) ?_
    refine lv_iadd hx hb dL_law_1036 ?_
    have f10 : (y + 3).toInt = (y.toInt) + (3) := addC rfl (show (3 : Int32).toInt = 3 from rfl) (by omega) (by omega)
    refine va_sld hx hb hX hbl hbA hS (inC f10 (by omega) (by omega)) dL_law_1037 ?_
    refine lv_if_eq (tgt := 1045) hx hb dL_law_1038 (by decide) (fun c11 => ?_) (fun c11 => ?_)
    · have dc11 : (xs (y + 3).toNatClampNeg).toInt = 0 := eqC rfl (show (0 : Int32).toInt = 0 from rfl) c11
      refine lv_iconst (v := 0) hx hb dL_law_1045 (by decide) ?_
      refine lwM (As := [.int (xs (y + 1).toNatClampNeg), .int (xs (y + 2).toNatClampNeg), .int 0]) (rest := []) ⟨hx, hb, hml, hown, hts⟩ (kU_X10_answer l dC dI cI cZ cQ v hv _ ma hma (xs (y + 1).toNatClampNeg) (xs (y + 2).toNatClampNeg) (0 : Int32)) (cwV 3 hts gL_law_X10_answer rfl rfl rfl (by decide +kernel) ⟨Nat.le_of_ble_eq_true rfl, Nat.le_of_ble_eq_true rfl⟩) hP hD hS hK hN hma rfl hl.1 rfl (Nat.le_of_ble_eq_true rfl) dL_law_1046 ⟨Nat.le_of_ble_eq_true rfl, Nat.le_of_ble_eq_true rfl⟩ (fun r13 u12 H locs h14 hP hD hS => ?_)
      obtain ⟨hmu, hma, hm_mar, hm_tel, hm_gai, hm_fal, hm_day, hm_ali, hm_top, hm_str, hm_gho, hm_fai, hm_pto, hm_wal, hm_dA, hm_dB, hm_doo, hm_txt, hm_byt, hm_lne, hm_lin, hms⟩ := h14
      refine lv_pop hx hb dL_law_1049 rfl ?_
      refine lv_goto (tgt := 1248) hx hb dL_law_1050 (by decide) ?_
      have hR0 := hR
      have hd := spAns_rel hR.2.2.2.2.2.2.1 hxs.1 hms.1
      have hpu : puR (u5.1 46) (u5.1 48) (u5.1 50) (u5.1 52) (u12.1 35) (u12.1 36) (u12.1 37) := by first | exact spAn_rel hR.2.2.2.2.2.2.2.2.2.2.2.2.2 hR.2.2.2.2.2.2.1 (hv.2.2.2.2.2.2.2.2.2.2.2.2.2.2.2.2.2.2.2.2) (by first | exact Or.inl rfl | exact Or.inr rfl) hxs hms hd | (exfalso; omega)
      have hR2 : rel u5 u12 := ⟨(hx_mar.trans (hR0.1.trans hm_mar.symm)), (hx_tel.trans (hR0.2.1.trans hm_tel.symm)), (hx_gai.trans (hR0.2.2.1.trans hm_gai.symm)), (fun j hj => by rw [hx_fal, hm_fal]; exact hR0.2.2.2.1 j hj), (hx_day.trans (hR0.2.2.2.2.1.trans hm_day.symm)), (hx_ali.trans (hR0.2.2.2.2.2.1.trans hm_ali.symm)), hd.2, (fun j hj => by rw [hx_top, hm_top]; exact hR0.2.2.2.2.2.2.2.1 j hj), (by rw [hx_top, hx_str, hx_gho, hx_ghs, hx_pto, hx_wal, hm_top, hm_str, hm_gho, hm_fai, hm_pto, hm_wal]; exact hR0.2.2.2.2.2.2.2.2.1), (by rw [hx_few, hx_doo, hm_dA, hm_dB, hm_doo]; exact hR0.2.2.2.2.2.2.2.2.2.1), (hx_byt.trans (hR0.2.2.2.2.2.2.2.2.2.2.1.trans hm_txt.symm)), (hx_len.trans (hR0.2.2.2.2.2.2.2.2.2.2.2.1.trans hm_byt.symm)), (by rw [hx_mos, hx_wev, hx_aga, hx_apa, hx_lin, hm_lne, hm_lin]; exact hR0.2.2.2.2.2.2.2.2.2.2.2.2.1), hpu⟩
      exact kk u5 u12 _ _ ⟨hxu, hmu, hxa, hma, hR2, hP, hD, hS⟩
    · have dc11 : 1 ≤ (xs (y + 3).toNatClampNeg).toInt := ka_lo (by omega) (neC rfl (show (0 : Int32).toInt = 0 from rfl) c11)
      exfalso
      omega
  · have dc4 : (xs (y + 3).toNatClampNeg).toInt ≠ 0 := neC rfl (show (0 : Int32).toInt = 0 from rfl) c4
    refine lv_iconst (v := 1) hx hb dL_law_1013 (by decide) ?_
    refine lv_goto (tgt := 1018) hx hb dL_law_1014 (by decide) ?_
    refine lwP (As := [.int (xs (y + 1).toNatClampNeg), .int (xs (y + 2).toNatClampNeg), .int 1]) (rest := []) ⟨hx, hb, hml, hown, hts⟩ (kU_X9_answer l dC dI cI cZ cQ ak av u hu _ xa hxa (xs (y + 1).toNatClampNeg) (xs (y + 2).toNatClampNeg) (1 : Int32)) (cwV 3 hts gL_law_X9_answer rfl rfl rfl (by decide +kernel) ⟨Nat.le_of_ble_eq_true rfl, Nat.le_of_ble_eq_true rfl⟩) hSV hP hD hS hK hN hxa rfl hl.1 rfl (Nat.le_of_ble_eq_true rfl) dL_law_1018 ⟨Nat.le_of_ble_eq_true rfl, Nat.le_of_ble_eq_true rfl⟩ (fun r16 u15 H locs h17 hP hD hS => ?_)
    obtain ⟨hxu, hxa, hx_mar, hx_tel, hx_gai, hx_fal, hx_day, hx_ali, hx_top, hx_str, hx_gho, hx_ghs, hx_pto, hx_wal, hx_few, hx_doo, hx_byt, hx_len, hx_mos, hx_wev, hx_aga, hx_apa, hx_lin, hxs⟩ := h17
    refine lv_pop hx hb dL_law_1021 rfl ?_
    refine lv_aload_n hx hb dL_law_1022 rfl (lv_at hl 2 rfl) ?_
    refine lv_aload_n hx hb dL_law_1023 rfl (lv_at hl 0 rfl) ?_
    refine lv_iload_n hx hb dL_law_1024 rfl (lv_at hl 3 rfl) ?_
    refine lv_iconst (v := 1) hx hb dL_law_1025 (by decide) ?_
    refine lv_iadd hx hb dL_law_1026 ?_
    have f18 : (y + 1).toInt = (y.toInt) + (1) := addC rfl (show (1 : Int32).toInt = 1 from rfl) (by omega) (by omega)
    refine va_sld hx hb hX hbl hbA hS (inC f18 (by omega) (by omega)) dL_law_1027 ?_
    refine lv_aload_n hx hb dL_law_1028 rfl (lv_at hl 0 rfl) ?_
    refine lv_iload_n hx hb dL_law_1029 rfl (lv_at hl 3 rfl) ?_
    refine lv_iconst (v := 2) hx hb dL_law_1030 (by decide) ?_
    refine lv_iadd hx hb dL_law_1031 ?_
    have f19 : (y + 2).toInt = (y.toInt) + (2) := addC rfl (show (2 : Int32).toInt = 2 from rfl) (by omega) (by omega)
    refine va_sld hx hb hX hbl hbA hS (inC f19 (by omega) (by omega)) dL_law_1032 ?_
    refine lv_aload_n hx hb dL_law_1033 rfl (lv_at hl 0 rfl) ?_
    refine lv_iload_n hx hb dL_law_1034 rfl (lv_at hl 3 rfl) ?_
    refine lv_iconst (v := 3) hx hb dL_law_1035 (by decide) ?_
    refine lv_iadd hx hb dL_law_1036 ?_
    have f20 : (y + 3).toInt = (y.toInt) + (3) := addC rfl (show (3 : Int32).toInt = 3 from rfl) (by omega) (by omega)
    refine va_sld hx hb hX hbl hbA hS (inC f20 (by omega) (by omega)) dL_law_1037 ?_
    refine lv_if_eq (tgt := 1045) hx hb dL_law_1038 (by decide) (fun c21 => ?_) (fun c21 => ?_)
    · have dc21 : (xs (y + 3).toNatClampNeg).toInt = 0 := eqC rfl (show (0 : Int32).toInt = 0 from rfl) c21
      refine lv_iconst (v := 0) hx hb dL_law_1045 (by decide) ?_
      refine lwM (As := [.int (xs (y + 1).toNatClampNeg), .int (xs (y + 2).toNatClampNeg), .int 0]) (rest := []) ⟨hx, hb, hml, hown, hts⟩ (kU_X10_answer l dC dI cI cZ cQ v hv _ ma hma (xs (y + 1).toNatClampNeg) (xs (y + 2).toNatClampNeg) (0 : Int32)) (cwV 3 hts gL_law_X10_answer rfl rfl rfl (by decide +kernel) ⟨Nat.le_of_ble_eq_true rfl, Nat.le_of_ble_eq_true rfl⟩) hP hD hS hK hN hma rfl hl.1 rfl (Nat.le_of_ble_eq_true rfl) dL_law_1046 ⟨Nat.le_of_ble_eq_true rfl, Nat.le_of_ble_eq_true rfl⟩ (fun r23 u22 H locs h24 hP hD hS => ?_)
      obtain ⟨hmu, hma, hm_mar, hm_tel, hm_gai, hm_fal, hm_day, hm_ali, hm_top, hm_str, hm_gho, hm_fai, hm_pto, hm_wal, hm_dA, hm_dB, hm_doo, hm_txt, hm_byt, hm_lne, hm_lin, hms⟩ := h24
      refine lv_pop hx hb dL_law_1049 rfl ?_
      refine lv_goto (tgt := 1248) hx hb dL_law_1050 (by decide) ?_
      have hR0 := hR
      have hd := spAns_rel hR.2.2.2.2.2.2.1 hxs.1 hms.1
      have hpu : puR (u15.1 46) (u15.1 48) (u15.1 50) (u15.1 52) (u22.1 35) (u22.1 36) (u22.1 37) := by first | exact spAn_rel hR.2.2.2.2.2.2.2.2.2.2.2.2.2 hR.2.2.2.2.2.2.1 (hv.2.2.2.2.2.2.2.2.2.2.2.2.2.2.2.2.2.2.2.2) (by first | exact Or.inl rfl | exact Or.inr rfl) hxs hms hd | (exfalso; omega)
      have hR2 : rel u15 u22 := ⟨(hx_mar.trans (hR0.1.trans hm_mar.symm)), (hx_tel.trans (hR0.2.1.trans hm_tel.symm)), (hx_gai.trans (hR0.2.2.1.trans hm_gai.symm)), (fun j hj => by rw [hx_fal, hm_fal]; exact hR0.2.2.2.1 j hj), (hx_day.trans (hR0.2.2.2.2.1.trans hm_day.symm)), (hx_ali.trans (hR0.2.2.2.2.2.1.trans hm_ali.symm)), hd.2, (fun j hj => by rw [hx_top, hm_top]; exact hR0.2.2.2.2.2.2.2.1 j hj), (by rw [hx_top, hx_str, hx_gho, hx_ghs, hx_pto, hx_wal, hm_top, hm_str, hm_gho, hm_fai, hm_pto, hm_wal]; exact hR0.2.2.2.2.2.2.2.2.1), (by rw [hx_few, hx_doo, hm_dA, hm_dB, hm_doo]; exact hR0.2.2.2.2.2.2.2.2.2.1), (hx_byt.trans (hR0.2.2.2.2.2.2.2.2.2.2.1.trans hm_txt.symm)), (hx_len.trans (hR0.2.2.2.2.2.2.2.2.2.2.2.1.trans hm_byt.symm)), (by rw [hx_mos, hx_wev, hx_aga, hx_apa, hx_lin, hm_lne, hm_lin]; exact hR0.2.2.2.2.2.2.2.2.2.2.2.2.1), hpu⟩
      exact kk u15 u22 _ _ ⟨hxu, hmu, hxa, hma, hR2, hP, hD, hS⟩
    · have dc21 : (xs (y + 3).toNatClampNeg).toInt ≠ 0 := neC rfl (show (0 : Int32).toInt = 0 from rfl) c21
      refine lv_iconst (v := 1) hx hb dL_law_1041 (by decide) ?_
      refine lv_goto (tgt := 1046) hx hb dL_law_1042 (by decide) ?_
      refine lwM (As := [.int (xs (y + 1).toNatClampNeg), .int (xs (y + 2).toNatClampNeg), .int 1]) (rest := []) ⟨hx, hb, hml, hown, hts⟩ (kU_X10_answer l dC dI cI cZ cQ v hv _ ma hma (xs (y + 1).toNatClampNeg) (xs (y + 2).toNatClampNeg) (1 : Int32)) (cwV 3 hts gL_law_X10_answer rfl rfl rfl (by decide +kernel) ⟨Nat.le_of_ble_eq_true rfl, Nat.le_of_ble_eq_true rfl⟩) hP hD hS hK hN hma rfl hl.1 rfl (Nat.le_of_ble_eq_true rfl) dL_law_1046 ⟨Nat.le_of_ble_eq_true rfl, Nat.le_of_ble_eq_true rfl⟩ (fun r26 u25 H locs h27 hP hD hS => ?_)
      obtain ⟨hmu, hma, hm_mar, hm_tel, hm_gai, hm_fal, hm_day, hm_ali, hm_top, hm_str, hm_gho, hm_fai, hm_pto, hm_wal, hm_dA, hm_dB, hm_doo, hm_txt, hm_byt, hm_lne, hm_lin, hms⟩ := h27
      refine lv_pop hx hb dL_law_1049 rfl ?_
      refine lv_goto (tgt := 1248) hx hb dL_law_1050 (by decide) ?_
      have hR0 := hR
      have hd := spAns_rel hR.2.2.2.2.2.2.1 hxs.1 hms.1
      have hpu : puR (u15.1 46) (u15.1 48) (u15.1 50) (u15.1 52) (u25.1 35) (u25.1 36) (u25.1 37) := by first | exact spAn_rel hR.2.2.2.2.2.2.2.2.2.2.2.2.2 hR.2.2.2.2.2.2.1 (hv.2.2.2.2.2.2.2.2.2.2.2.2.2.2.2.2.2.2.2.2) (by first | exact Or.inl rfl | exact Or.inr rfl) hxs hms hd | (exfalso; omega)
      have hR2 : rel u15 u25 := ⟨(hx_mar.trans (hR0.1.trans hm_mar.symm)), (hx_tel.trans (hR0.2.1.trans hm_tel.symm)), (hx_gai.trans (hR0.2.2.1.trans hm_gai.symm)), (fun j hj => by rw [hx_fal, hm_fal]; exact hR0.2.2.2.1 j hj), (hx_day.trans (hR0.2.2.2.2.1.trans hm_day.symm)), (hx_ali.trans (hR0.2.2.2.2.2.1.trans hm_ali.symm)), hd.2, (fun j hj => by rw [hx_top, hm_top]; exact hR0.2.2.2.2.2.2.2.1 j hj), (by rw [hx_top, hx_str, hx_gho, hx_ghs, hx_pto, hx_wal, hm_top, hm_str, hm_gho, hm_fai, hm_pto, hm_wal]; exact hR0.2.2.2.2.2.2.2.2.1), (by rw [hx_few, hx_doo, hm_dA, hm_dB, hm_doo]; exact hR0.2.2.2.2.2.2.2.2.2.1), (hx_byt.trans (hR0.2.2.2.2.2.2.2.2.2.2.1.trans hm_txt.symm)), (hx_len.trans (hR0.2.2.2.2.2.2.2.2.2.2.2.1.trans hm_byt.symm)), (by rw [hx_mos, hx_wev, hx_aga, hx_apa, hx_lin, hm_lne, hm_lin]; exact hR0.2.2.2.2.2.2.2.2.2.2.2.2.1), hpu⟩
      exact kk u15 u25 _ _ ⟨hxu, hmu, hxa, hma, hR2, hP, hD, hS⟩
set_option maxHeartbeats 4000000 in
set_option maxRecDepth 100000 in
theorem lc_27 {p : Program} {l : Launch} {e : Env} {s : State} {m : MethodId} {below : List Frame} {meth : Method} {c : Code} {b L : Nat} {xs : Nat → Int32} {dC : Nat → ClassId} {dI : Nat → Nat → Nat} {cI cZ cQ : ClassId} {ak av : Nat → Nat} {xa ma : Nat} (K : LC p s m meth c b L xs dC dI cI cZ cQ ak av) (hL : L ≤ 2560) (y : Int32) (hy0 : 0 ≤ y.toInt) (hy1 : y.toInt ≤ (L : Int) - 5) (u v : US) (H : Heap) (locs : List Loc) (I : LI dC dI cI cZ cQ s xa ma u v H locs) (ls : Array Slot) (hl : lv_has ls 4 [(0, .ref b), (1, .ref xa), (2, .ref ma), (3, .int y)]) (kk : ∀ (u v : US) (H : Heap) (locs : List Loc), LI dC dI cI cZ cQ s xa ma u v H locs → W p l e room_1 s m #[Value.ref b] below meth c H locs 76 4711 (lw_Z below #[Value.ref b] s) (F0 m 1248 ls [])) : W p l e room_1 s m #[Value.ref b] below meth c H locs 76 4711 (lw_Z below #[Value.ref b] s) (F0 m 1053 ls []) := by
  obtain ⟨hx, hb, hml, hown, hts, hX, hbl, hK, hN, hSV⟩ := K
  obtain ⟨hu, hv, hxa, hma, hR, hP, hD, hS⟩ := I
  have hbA : ¬ AL s b := Nat.not_le.mpr hbl
  refine lv_aload_n hx hb dL_law_1053 rfl (lv_at hl 1 rfl) ?_
  refine lv_aload_n hx hb dL_law_1054 rfl (lv_at hl 0 rfl) ?_
  refine lv_iload_n hx hb dL_law_1055 rfl (lv_at hl 3 rfl) ?_
  refine lv_iconst (v := 1) hx hb dL_law_1056 (by decide) ?_
  refine lv_iadd hx hb dL_law_1057 ?_
  have f1 : (y + 1).toInt = (y.toInt) + (1) := addC rfl (show (1 : Int32).toInt = 1 from rfl) (by omega) (by omega)
  refine va_sld hx hb hX hbl hbA hS (inC f1 (by omega) (by omega)) dL_law_1058 ?_
  refine lv_aload_n hx hb dL_law_1059 rfl (lv_at hl 0 rfl) ?_
  refine lv_iload_n hx hb dL_law_1060 rfl (lv_at hl 3 rfl) ?_
  refine lv_iconst (v := 2) hx hb dL_law_1061 (by decide) ?_
  refine lv_iadd hx hb dL_law_1062 ?_
  have f2 : (y + 2).toInt = (y.toInt) + (2) := addC rfl (show (2 : Int32).toInt = 2 from rfl) (by omega) (by omega)
  refine va_sld hx hb hX hbl hbA hS (inC f2 (by omega) (by omega)) dL_law_1063 ?_
  refine lwP (As := [.int (xs (y + 1).toNatClampNeg), .int (xs (y + 2).toNatClampNeg)]) (rest := []) ⟨hx, hb, hml, hown, hts⟩ (kU_X9_pupil l dC dI cI cZ cQ ak av u hu _ xa hxa (xs (y + 1).toNatClampNeg) (xs (y + 2).toNatClampNeg)) (cwV 2 hts gL_law_X9_pupil rfl rfl rfl (by decide +kernel) ⟨Nat.le_of_ble_eq_true rfl, Nat.le_of_ble_eq_true rfl⟩) hSV hP hD hS hK hN hxa rfl hl.1 rfl (Nat.le_of_ble_eq_true rfl) dL_law_1064 ⟨Nat.le_of_ble_eq_true rfl, Nat.le_of_ble_eq_true rfl⟩ (fun r4 u3 H locs h5 hP hD hS => ?_)
  obtain ⟨hxu, hxa, hx_mar, hx_tel, hx_gai, hx_fal, hx_day, hx_ali, hx_ans0, hx_ans1, hx_ans2, hx_ans3, hx_top, hx_str, hx_gho, hx_ghs, hx_pto, hx_wal, hx_few, hx_doo, hx_byt, hx_len, hx_mos, hx_wev, hx_aga, hx_apa, hx_lin, hx_agr0, hx_agr1, hx_agr2, hx_agr3, hxs⟩ := h5
  refine lv_pop hx hb dL_law_1067 rfl ?_
  refine lv_aload_n hx hb dL_law_1068 rfl (lv_at hl 2 rfl) ?_
  refine lv_aload_n hx hb dL_law_1069 rfl (lv_at hl 0 rfl) ?_
  refine lv_iload_n hx hb dL_law_1070 rfl (lv_at hl 3 rfl) ?_
  refine lv_iconst (v := 1) hx hb dL_law_1071 (by decide) ?_
  refine lv_iadd hx hb dL_law_1072 ?_
  have f6 : (y + 1).toInt = (y.toInt) + (1) := addC rfl (show (1 : Int32).toInt = 1 from rfl) (by omega) (by omega)
  refine va_sld hx hb hX hbl hbA hS (inC f6 (by omega) (by omega)) dL_law_1073 ?_
  refine lv_aload_n hx hb dL_law_1074 rfl (lv_at hl 0 rfl) ?_
  refine lv_iload_n hx hb dL_law_1075 rfl (lv_at hl 3 rfl) ?_
  refine lv_iconst (v := 2) hx hb dL_law_1076 (by decide) ?_
  refine lv_iadd hx hb dL_law_1077 ?_
  have f7 : (y + 2).toInt = (y.toInt) + (2) := addC rfl (show (2 : Int32).toInt = 2 from rfl) (by omega) (by omega)
  refine va_sld hx hb hX hbl hbA hS (inC f7 (by omega) (by omega)) dL_law_1078 ?_
  refine lwM (As := [.int (xs (y + 1).toNatClampNeg), .int (xs (y + 2).toNatClampNeg)]) (rest := []) ⟨hx, hb, hml, hown, hts⟩ (kU_X10_pupil l dC dI cI cZ cQ v hv _ ma hma (xs (y + 1).toNatClampNeg) (xs (y + 2).toNatClampNeg)) (cwV 2 hts gL_law_X10_pupil rfl rfl rfl (by decide +kernel) ⟨Nat.le_of_ble_eq_true rfl, Nat.le_of_ble_eq_true rfl⟩) hP hD hS hK hN hma rfl hl.1 rfl (Nat.le_of_ble_eq_true rfl) dL_law_1079 ⟨Nat.le_of_ble_eq_true rfl, Nat.le_of_ble_eq_true rfl⟩ (fun r9 u8 H locs h10 hP hD hS => ?_)
  obtain ⟨hmu, hma, hm_mar, hm_tel, hm_gai, hm_fal, hm_day, hm_ali, hm_ans, hm_top, hm_str, hm_gho, hm_fai, hm_pto, hm_wal, hm_dA, hm_dB, hm_doo, hm_txt, hm_byt, hm_lne, hm_lin, hm_and, hm_anr, hms⟩ := h10
  refine lv_pop hx hb dL_law_1082 rfl ?_
  refine lv_goto (tgt := 1248) hx hb dL_law_1083 (by decide) ?_
  have hR0 := hR
  have hd := spPup_rel hR.2.2.2.2.2.2.2.2.2.2.2.2.2 hR.2.2.2.2.2.2.1 hxs hms
  have hR2 : rel u3 u8 := ⟨(hx_mar.trans (hR0.1.trans hm_mar.symm)), (hx_tel.trans (hR0.2.1.trans hm_tel.symm)), (hx_gai.trans (hR0.2.2.1.trans hm_gai.symm)), (fun j hj => by rw [hx_fal, hm_fal]; exact hR0.2.2.2.1 j hj), (hx_day.trans (hR0.2.2.2.2.1.trans hm_day.symm)), (hx_ali.trans (hR0.2.2.2.2.2.1.trans hm_ali.symm)), (fun j hj => by rw [hx_ans0, hx_ans1, hx_ans2, hx_ans3, hm_ans]; exact hR0.2.2.2.2.2.2.1 j hj), (fun j hj => by rw [hx_top, hm_top]; exact hR0.2.2.2.2.2.2.2.1 j hj), (by rw [hx_top, hx_str, hx_gho, hx_ghs, hx_pto, hx_wal, hm_top, hm_str, hm_gho, hm_fai, hm_pto, hm_wal]; exact hR0.2.2.2.2.2.2.2.2.1), (by rw [hx_few, hx_doo, hm_dA, hm_dB, hm_doo]; exact hR0.2.2.2.2.2.2.2.2.2.1), (hx_byt.trans (hR0.2.2.2.2.2.2.2.2.2.2.1.trans hm_txt.symm)), (hx_len.trans (hR0.2.2.2.2.2.2.2.2.2.2.2.1.trans hm_byt.symm)), (by rw [hx_mos, hx_wev, hx_aga, hx_apa, hx_lin, hm_lne, hm_lin]; exact hR0.2.2.2.2.2.2.2.2.2.2.2.2.1), (by rw [hx_agr0, hx_agr1, hx_agr2, hx_agr3, hm_ans, hm_and, hm_anr]; exact hR0.2.2.2.2.2.2.2.2.2.2.2.2.2)⟩
  exact kk u3 u8 _ _ ⟨hxu, hmu, hxa, hma, hR2, hP, hD, hS⟩
set_option maxHeartbeats 4000000 in
set_option maxRecDepth 100000 in
theorem lc_28 {p : Program} {l : Launch} {e : Env} {s : State} {m : MethodId} {below : List Frame} {meth : Method} {c : Code} {b L : Nat} {xs : Nat → Int32} {dC : Nat → ClassId} {dI : Nat → Nat → Nat} {cI cZ cQ : ClassId} {ak av : Nat → Nat} {xa ma : Nat} (K : LC p s m meth c b L xs dC dI cI cZ cQ ak av) (hL : L ≤ 2560) (y : Int32) (hy0 : 0 ≤ y.toInt) (hy1 : y.toInt ≤ (L : Int) - 5) (u v : US) (H : Heap) (locs : List Loc) (I : LI dC dI cI cZ cQ s xa ma u v H locs) (ls : Array Slot) (hl : lv_has ls 4 [(0, .ref b), (1, .ref xa), (2, .ref ma), (3, .int y)]) (kk : ∀ (u v : US) (H : Heap) (locs : List Loc), LI dC dI cI cZ cQ s xa ma u v H locs → W p l e room_1 s m #[Value.ref b] below meth c H locs 76 4711 (lw_Z below #[Value.ref b] s) (F0 m 1248 ls [])) : W p l e room_1 s m #[Value.ref b] below meth c H locs 76 4711 (lw_Z below #[Value.ref b] s) (F0 m 1086 ls []) := by
  obtain ⟨hx, hb, hml, hown, hts, hX, hbl, hK, hN, hSV⟩ := K
  obtain ⟨hu, hv, hxa, hma, hR, hP, hD, hS⟩ := I
  have hbA : ¬ AL s b := Nat.not_le.mpr hbl
  refine lv_aload_n hx hb dL_law_1086 rfl (lv_at hl 1 rfl) ?_
  refine lv_aload_n hx hb dL_law_1087 rfl (lv_at hl 0 rfl) ?_
  refine lv_iload_n hx hb dL_law_1088 rfl (lv_at hl 3 rfl) ?_
  refine lv_iconst (v := 1) hx hb dL_law_1089 (by decide) ?_
  refine lv_iadd hx hb dL_law_1090 ?_
  have f1 : (y + 1).toInt = (y.toInt) + (1) := addC rfl (show (1 : Int32).toInt = 1 from rfl) (by omega) (by omega)
  refine va_sld hx hb hX hbl hbA hS (inC f1 (by omega) (by omega)) dL_law_1091 ?_
  refine lv_aload_n hx hb dL_law_1092 rfl (lv_at hl 0 rfl) ?_
  refine lv_iload_n hx hb dL_law_1093 rfl (lv_at hl 3 rfl) ?_
  refine lv_iconst (v := 2) hx hb dL_law_1094 (by decide) ?_
  refine lv_iadd hx hb dL_law_1095 ?_
  have f2 : (y + 2).toInt = (y.toInt) + (2) := addC rfl (show (2 : Int32).toInt = 2 from rfl) (by omega) (by omega)
  refine va_sld hx hb hX hbl hbA hS (inC f2 (by omega) (by omega)) dL_law_1096 ?_
  refine lv_aload_n hx hb dL_law_1097 rfl (lv_at hl 0 rfl) ?_
  refine lv_iload_n hx hb dL_law_1098 rfl (lv_at hl 3 rfl) ?_
  refine lv_iconst (v := 3) hx hb dL_law_1099 (by decide) ?_
  refine lv_iadd hx hb dL_law_1100 ?_
  have f3 : (y + 3).toInt = (y.toInt) + (3) := addC rfl (show (3 : Int32).toInt = 3 from rfl) (by omega) (by omega)
  refine va_sld hx hb hX hbl hbA hS (inC f3 (by omega) (by omega)) dL_law_1101 ?_
  refine lwP (As := [.int (xs (y + 1).toNatClampNeg), .int (xs (y + 2).toNatClampNeg), .int (xs (y + 3).toNatClampNeg)]) (rest := []) ⟨hx, hb, hml, hown, hts⟩ (kU_X9_figures l dC dI cI cZ cQ ak av u hu _ xa hxa (xs (y + 1).toNatClampNeg) (xs (y + 2).toNatClampNeg) (xs (y + 3).toNatClampNeg)) (cwV 3 hts gL_law_X9_figures rfl rfl rfl (by decide +kernel) ⟨Nat.le_of_ble_eq_true rfl, Nat.le_of_ble_eq_true rfl⟩) hSV hP hD hS hK hN hxa rfl hl.1 rfl (Nat.le_of_ble_eq_true rfl) dL_law_1102 ⟨Nat.le_of_ble_eq_true rfl, Nat.le_of_ble_eq_true rfl⟩ (fun r5 u4 H locs h6 hP hD hS => ?_)
  obtain ⟨hxu, hxa, hx_mar, hx_tel, hx_gai, hx_fal, hx_day, hx_ans0, hx_ans1, hx_ans2, hx_ans3, hx_top, hx_str, hx_gho, hx_ghs, hx_pto, hx_wal, hx_few, hx_doo, hx_byt, hx_len, hx_mos, hx_wev, hx_aga, hx_apa, hx_lin, hx_agr0, hx_agr1, hx_agr2, hx_agr3, hxs⟩ := h6
  refine lv_pop hx hb dL_law_1105 rfl ?_
  refine lv_aload_n hx hb dL_law_1106 rfl (lv_at hl 2 rfl) ?_
  refine lv_aload_n hx hb dL_law_1107 rfl (lv_at hl 0 rfl) ?_
  refine lv_iload_n hx hb dL_law_1108 rfl (lv_at hl 3 rfl) ?_
  refine lv_iconst (v := 1) hx hb dL_law_1109 (by decide) ?_
  refine lv_iadd hx hb dL_law_1110 ?_
  have f7 : (y + 1).toInt = (y.toInt) + (1) := addC rfl (show (1 : Int32).toInt = 1 from rfl) (by omega) (by omega)
  refine va_sld hx hb hX hbl hbA hS (inC f7 (by omega) (by omega)) dL_law_1111 ?_
  refine lv_aload_n hx hb dL_law_1112 rfl (lv_at hl 0 rfl) ?_
  refine lv_iload_n hx hb dL_law_1113 rfl (lv_at hl 3 rfl) ?_
  refine lv_iconst (v := 2) hx hb dL_law_1114 (by decide) ?_
  refine lv_iadd hx hb dL_law_1115 ?_
  have f8 : (y + 2).toInt = (y.toInt) + (2) := addC rfl (show (2 : Int32).toInt = 2 from rfl) (by omega) (by omega)
  refine va_sld hx hb hX hbl hbA hS (inC f8 (by omega) (by omega)) dL_law_1116 ?_
  refine lv_aload_n hx hb dL_law_1117 rfl (lv_at hl 0 rfl) ?_
  refine lv_iload_n hx hb dL_law_1118 rfl (lv_at hl 3 rfl) ?_
  refine lv_iconst (v := 3) hx hb dL_law_1119 (by decide) ?_
  refine lv_iadd hx hb dL_law_1120 ?_
  have f9 : (y + 3).toInt = (y.toInt) + (3) := addC rfl (show (3 : Int32).toInt = 3 from rfl) (by omega) (by omega)
  refine va_sld hx hb hX hbl hbA hS (inC f9 (by omega) (by omega)) dL_law_1121 ?_
  refine lwM (As := [.int (xs (y + 1).toNatClampNeg), .int (xs (y + 2).toNatClampNeg), .int (xs (y + 3).toNatClampNeg)]) (rest := []) ⟨hx, hb, hml, hown, hts⟩ (kU_X10_figures l dC dI cI cZ cQ v hv _ ma hma (xs (y + 1).toNatClampNeg) (xs (y + 2).toNatClampNeg) (xs (y + 3).toNatClampNeg)) (cwV 3 hts gL_law_X10_figures rfl rfl rfl (by decide +kernel) ⟨Nat.le_of_ble_eq_true rfl, Nat.le_of_ble_eq_true rfl⟩) hP hD hS hK hN hma rfl hl.1 rfl (Nat.le_of_ble_eq_true rfl) dL_law_1122 ⟨Nat.le_of_ble_eq_true rfl, Nat.le_of_ble_eq_true rfl⟩ (fun r11 u10 H locs h12 hP hD hS => ?_)
  obtain ⟨hmu, hma, hm_mar, hm_tel, hm_gai, hm_fal, hm_day, hm_ans, hm_top, hm_str, hm_gho, hm_fai, hm_pto, hm_wal, hm_dA, hm_dB, hm_doo, hm_txt, hm_byt, hm_lne, hm_lin, hm_and, hm_anr, hms⟩ := h12
  refine lv_pop hx hb dL_law_1125 rfl ?_
  refine lv_goto (tgt := 1248) hx hb dL_law_1126 (by decide) ?_
  have hR0 := hR
  rw [hR.2.2.2.2.2.1] at hxs
  have hd := spFig_det hxs hms
  have hR2 : rel u4 u10 := ⟨(hx_mar.trans (hR0.1.trans hm_mar.symm)), (hx_tel.trans (hR0.2.1.trans hm_tel.symm)), (hx_gai.trans (hR0.2.2.1.trans hm_gai.symm)), (fun j hj => by rw [hx_fal, hm_fal]; exact hR0.2.2.2.1 j hj), (hx_day.trans (hR0.2.2.2.2.1.trans hm_day.symm)), hd.2, (fun j hj => by rw [hx_ans0, hx_ans1, hx_ans2, hx_ans3, hm_ans]; exact hR0.2.2.2.2.2.2.1 j hj), (fun j hj => by rw [hx_top, hm_top]; exact hR0.2.2.2.2.2.2.2.1 j hj), (by rw [hx_top, hx_str, hx_gho, hx_ghs, hx_pto, hx_wal, hm_top, hm_str, hm_gho, hm_fai, hm_pto, hm_wal]; exact hR0.2.2.2.2.2.2.2.2.1), (by rw [hx_few, hx_doo, hm_dA, hm_dB, hm_doo]; exact hR0.2.2.2.2.2.2.2.2.2.1), (hx_byt.trans (hR0.2.2.2.2.2.2.2.2.2.2.1.trans hm_txt.symm)), (hx_len.trans (hR0.2.2.2.2.2.2.2.2.2.2.2.1.trans hm_byt.symm)), (by rw [hx_mos, hx_wev, hx_aga, hx_apa, hx_lin, hm_lne, hm_lin]; exact hR0.2.2.2.2.2.2.2.2.2.2.2.2.1), (by rw [hx_agr0, hx_agr1, hx_agr2, hx_agr3, hm_ans, hm_and, hm_anr]; exact hR0.2.2.2.2.2.2.2.2.2.2.2.2.2)⟩
  exact kk u4 u10 _ _ ⟨hxu, hmu, hxa, hma, hR2, hP, hD, hS⟩
set_option maxHeartbeats 4000000 in
set_option maxRecDepth 100000 in
theorem lc_29 {p : Program} {l : Launch} {e : Env} {s : State} {m : MethodId} {below : List Frame} {meth : Method} {c : Code} {b L : Nat} {xs : Nat → Int32} {dC : Nat → ClassId} {dI : Nat → Nat → Nat} {cI cZ cQ : ClassId} {ak av : Nat → Nat} {xa ma : Nat} (K : LC p s m meth c b L xs dC dI cI cZ cQ ak av) (hL : L ≤ 2560) (y : Int32) (hy0 : 0 ≤ y.toInt) (hy1 : y.toInt ≤ (L : Int) - 5) (u v : US) (H : Heap) (locs : List Loc) (I : LI dC dI cI cZ cQ s xa ma u v H locs) (ls : Array Slot) (hl : lv_has ls 4 [(0, .ref b), (1, .ref xa), (2, .ref ma), (3, .int y)]) (kk : ∀ (u v : US) (H : Heap) (locs : List Loc), LI dC dI cI cZ cQ s xa ma u v H locs → W p l e room_1 s m #[Value.ref b] below meth c H locs 76 4711 (lw_Z below #[Value.ref b] s) (F0 m 1248 ls [])) : W p l e room_1 s m #[Value.ref b] below meth c H locs 76 4711 (lw_Z below #[Value.ref b] s) (F0 m 1129 ls []) := by
  obtain ⟨hx, hb, hml, hown, hts, hX, hbl, hK, hN, hSV⟩ := K
  obtain ⟨hu, hv, hxa, hma, hR, hP, hD, hS⟩ := I
  have hbA : ¬ AL s b := Nat.not_le.mpr hbl
  refine lv_aload_n hx hb dL_law_1129 rfl (lv_at hl 1 rfl) ?_
  refine lv_aload_n hx hb dL_law_1130 rfl (lv_at hl 0 rfl) ?_
  refine lv_iload_n hx hb dL_law_1131 rfl (lv_at hl 3 rfl) ?_
  refine lv_iconst (v := 1) hx hb dL_law_1132 (by decide) ?_
  refine lv_iadd hx hb dL_law_1133 ?_
  have f1 : (y + 1).toInt = (y.toInt) + (1) := addC rfl (show (1 : Int32).toInt = 1 from rfl) (by omega) (by omega)
  refine va_sld hx hb hX hbl hbA hS (inC f1 (by omega) (by omega)) dL_law_1134 ?_
  refine lv_i2l hx hb dL_law_1135 rfl ?_
  refine lv_bipush (v := 32) hx hb dL_law_1136 (by decide) ?_
  refine lv_lshl hx hb dL_law_1138 rfl ?_
  refine lv_aload_n hx hb dL_law_1139 rfl (lv_at hl 0 rfl) ?_
  refine lv_iload_n hx hb dL_law_1140 rfl (lv_at hl 3 rfl) ?_
  refine lv_iconst (v := 2) hx hb dL_law_1141 (by decide) ?_
  refine lv_iadd hx hb dL_law_1142 ?_
  have f2 : (y + 2).toInt = (y.toInt) + (2) := addC rfl (show (2 : Int32).toInt = 2 from rfl) (by omega) (by omega)
  refine va_sld hx hb hX hbl hbA hS (inC f2 (by omega) (by omega)) dL_law_1143 ?_
  refine lv_i2l hx hb dL_law_1144 rfl ?_
  refine lv_ldc2 (v := 4294967295) hx hb hown (hts (.constantLong RL 63 (4294967295)) (by decide +kernel)) dL_law_1145 ?_
  refine lv_land hx hb dL_law_1148 ?_
  refine lv_lor hx hb dL_law_1149 ?_
  refine lv_aload_n hx hb dL_law_1150 rfl (lv_at hl 0 rfl) ?_
  refine lv_iload_n hx hb dL_law_1151 rfl (lv_at hl 3 rfl) ?_
  refine lv_iconst (v := 3) hx hb dL_law_1152 (by decide) ?_
  refine lv_iadd hx hb dL_law_1153 ?_
  have f3 : (y + 3).toInt = (y.toInt) + (3) := addC rfl (show (3 : Int32).toInt = 3 from rfl) (by omega) (by omega)
  refine va_sld hx hb hX hbl hbA hS (inC f3 (by omega) (by omega)) dL_law_1154 ?_
  refine lv_aload_n hx hb dL_law_1155 rfl (lv_at hl 0 rfl) ?_
  refine lv_iload_n hx hb dL_law_1156 rfl (lv_at hl 3 rfl) ?_
  refine lv_iconst (v := 4) hx hb dL_law_1157 (by decide) ?_
  refine lv_iadd hx hb dL_law_1158 ?_
  have f4 : (y + 4).toInt = (y.toInt) + (4) := addC rfl (show (4 : Int32).toInt = 4 from rfl) (by omega) (by omega)
  refine va_sld hx hb hX hbl hbA hS (inC f4 (by omega) (by omega)) dL_law_1159 ?_
  refine lwP (As := [.long ((((xs (y + 1).toNatClampNeg).toInt64) <<< ((32 : Int32).toInt64 &&& 63)) ||| (((xs (y + 2).toNatClampNeg).toInt64) &&& 4294967295)), .int (xs (y + 3).toNatClampNeg), .int (xs (y + 4).toNatClampNeg)]) (rest := []) ⟨hx, hb, hml, hown, hts⟩ (kU_X9_code l dC dI cI cZ cQ ak av u hu _ xa hxa ((((xs (y + 1).toNatClampNeg).toInt64) <<< ((32 : Int32).toInt64 &&& 63)) ||| (((xs (y + 2).toNatClampNeg).toInt64) &&& 4294967295)) (xs (y + 3).toNatClampNeg) (xs (y + 4).toNatClampNeg)) (cwV 3 hts gL_law_X9_code rfl rfl rfl (by decide +kernel) ⟨Nat.le_of_ble_eq_true rfl, Nat.le_of_ble_eq_true rfl⟩) hSV hP hD hS hK hN hxa rfl hl.1 rfl (Nat.le_of_ble_eq_true rfl) dL_law_1160 ⟨Nat.le_of_ble_eq_true rfl, Nat.le_of_ble_eq_true rfl⟩ (fun r6 u5 H locs h7 hP hD hS => ?_)
  obtain ⟨hxu, hxa, hx_mar, hx_tel, hx_gai, hx_fal, hx_day, hx_ali, hx_ans0, hx_ans1, hx_ans2, hx_ans3, hx_top, hx_str, hx_gho, hx_ghs, hx_pto, hx_wal, hx_few, hx_doo, hx_byt, hx_len, hx_mos, hx_wev, hx_aga, hx_apa, hx_lin, hx_agr0, hx_agr1, hx_agr2, hx_agr3⟩ := h7
  refine lv_pop hx hb dL_law_1163 rfl ?_
  refine lv_aload_n hx hb dL_law_1164 rfl (lv_at hl 2 rfl) ?_
  refine lv_aload_n hx hb dL_law_1165 rfl (lv_at hl 0 rfl) ?_
  refine lv_iload_n hx hb dL_law_1166 rfl (lv_at hl 3 rfl) ?_
  refine lv_iconst (v := 1) hx hb dL_law_1167 (by decide) ?_
  refine lv_iadd hx hb dL_law_1168 ?_
  have f8 : (y + 1).toInt = (y.toInt) + (1) := addC rfl (show (1 : Int32).toInt = 1 from rfl) (by omega) (by omega)
  refine va_sld hx hb hX hbl hbA hS (inC f8 (by omega) (by omega)) dL_law_1169 ?_
  refine lv_i2l hx hb dL_law_1170 rfl ?_
  refine lv_bipush (v := 32) hx hb dL_law_1171 (by decide) ?_
  refine lv_lshl hx hb dL_law_1173 rfl ?_
  refine lv_aload_n hx hb dL_law_1174 rfl (lv_at hl 0 rfl) ?_
  refine lv_iload_n hx hb dL_law_1175 rfl (lv_at hl 3 rfl) ?_
  refine lv_iconst (v := 2) hx hb dL_law_1176 (by decide) ?_
  refine lv_iadd hx hb dL_law_1177 ?_
  have f9 : (y + 2).toInt = (y.toInt) + (2) := addC rfl (show (2 : Int32).toInt = 2 from rfl) (by omega) (by omega)
  refine va_sld hx hb hX hbl hbA hS (inC f9 (by omega) (by omega)) dL_law_1178 ?_
  refine lv_i2l hx hb dL_law_1179 rfl ?_
  refine lv_ldc2 (v := 4294967295) hx hb hown (hts (.constantLong RL 63 (4294967295)) (by decide +kernel)) dL_law_1180 ?_
  refine lv_land hx hb dL_law_1183 ?_
  refine lv_lor hx hb dL_law_1184 ?_
  refine lv_aload_n hx hb dL_law_1185 rfl (lv_at hl 0 rfl) ?_
  refine lv_iload_n hx hb dL_law_1186 rfl (lv_at hl 3 rfl) ?_
  refine lv_iconst (v := 3) hx hb dL_law_1187 (by decide) ?_
  refine lv_iadd hx hb dL_law_1188 ?_
  have f10 : (y + 3).toInt = (y.toInt) + (3) := addC rfl (show (3 : Int32).toInt = 3 from rfl) (by omega) (by omega)
  refine va_sld hx hb hX hbl hbA hS (inC f10 (by omega) (by omega)) dL_law_1189 ?_
  refine lv_aload_n hx hb dL_law_1190 rfl (lv_at hl 0 rfl) ?_
  refine lv_iload_n hx hb dL_law_1191 rfl (lv_at hl 3 rfl) ?_
  refine lv_iconst (v := 4) hx hb dL_law_1192 (by decide) ?_
  refine lv_iadd hx hb dL_law_1193 ?_
  have f11 : (y + 4).toInt = (y.toInt) + (4) := addC rfl (show (4 : Int32).toInt = 4 from rfl) (by omega) (by omega)
  refine va_sld hx hb hX hbl hbA hS (inC f11 (by omega) (by omega)) dL_law_1194 ?_
  refine lwM (As := [.long ((((xs (y + 1).toNatClampNeg).toInt64) <<< ((32 : Int32).toInt64 &&& 63)) ||| (((xs (y + 2).toNatClampNeg).toInt64) &&& 4294967295)), .int (xs (y + 3).toNatClampNeg), .int (xs (y + 4).toNatClampNeg)]) (rest := []) ⟨hx, hb, hml, hown, hts⟩ (kU_X10_code l dC dI cI cZ cQ v hv _ ma hma ((((xs (y + 1).toNatClampNeg).toInt64) <<< ((32 : Int32).toInt64 &&& 63)) ||| (((xs (y + 2).toNatClampNeg).toInt64) &&& 4294967295)) (xs (y + 3).toNatClampNeg) (xs (y + 4).toNatClampNeg)) (cwV 3 hts gL_law_X10_code rfl rfl rfl (by decide +kernel) ⟨Nat.le_of_ble_eq_true rfl, Nat.le_of_ble_eq_true rfl⟩) hP hD hS hK hN hma rfl hl.1 rfl (Nat.le_of_ble_eq_true rfl) dL_law_1195 ⟨Nat.le_of_ble_eq_true rfl, Nat.le_of_ble_eq_true rfl⟩ (fun r13 u12 H locs h14 hP hD hS => ?_)
  obtain ⟨hmu, hma, hm_mar, hm_tel, hm_gai, hm_fal, hm_day, hm_ali, hm_ans, hm_top, hm_str, hm_gho, hm_fai, hm_pto, hm_wal, hm_dA, hm_dB, hm_doo, hm_txt, hm_byt, hm_lne, hm_lin, hm_and, hm_anr⟩ := h14
  refine lv_pop hx hb dL_law_1198 rfl ?_
  refine lv_goto (tgt := 1248) hx hb dL_law_1199 (by decide) ?_
  have hR0 := hR
  have hR2 : rel u5 u12 := ⟨(hx_mar.trans (hR0.1.trans hm_mar.symm)), (hx_tel.trans (hR0.2.1.trans hm_tel.symm)), (hx_gai.trans (hR0.2.2.1.trans hm_gai.symm)), (fun j hj => by rw [hx_fal, hm_fal]; exact hR0.2.2.2.1 j hj), (hx_day.trans (hR0.2.2.2.2.1.trans hm_day.symm)), (hx_ali.trans (hR0.2.2.2.2.2.1.trans hm_ali.symm)), (fun j hj => by rw [hx_ans0, hx_ans1, hx_ans2, hx_ans3, hm_ans]; exact hR0.2.2.2.2.2.2.1 j hj), (fun j hj => by rw [hx_top, hm_top]; exact hR0.2.2.2.2.2.2.2.1 j hj), (by rw [hx_top, hx_str, hx_gho, hx_ghs, hx_pto, hx_wal, hm_top, hm_str, hm_gho, hm_fai, hm_pto, hm_wal]; exact hR0.2.2.2.2.2.2.2.2.1), (by rw [hx_few, hx_doo, hm_dA, hm_dB, hm_doo]; exact hR0.2.2.2.2.2.2.2.2.2.1), (hx_byt.trans (hR0.2.2.2.2.2.2.2.2.2.2.1.trans hm_txt.symm)), (hx_len.trans (hR0.2.2.2.2.2.2.2.2.2.2.2.1.trans hm_byt.symm)), (by rw [hx_mos, hx_wev, hx_aga, hx_apa, hx_lin, hm_lne, hm_lin]; exact hR0.2.2.2.2.2.2.2.2.2.2.2.2.1), (by rw [hx_agr0, hx_agr1, hx_agr2, hx_agr3, hm_ans, hm_and, hm_anr]; exact hR0.2.2.2.2.2.2.2.2.2.2.2.2.2)⟩
  exact kk u5 u12 _ _ ⟨hxu, hmu, hxa, hma, hR2, hP, hD, hS⟩
set_option maxHeartbeats 4000000 in
set_option maxRecDepth 100000 in
theorem lc_30 {p : Program} {l : Launch} {e : Env} {s : State} {m : MethodId} {below : List Frame} {meth : Method} {c : Code} {b L : Nat} {xs : Nat → Int32} {dC : Nat → ClassId} {dI : Nat → Nat → Nat} {cI cZ cQ : ClassId} {ak av : Nat → Nat} {xa ma : Nat} (K : LC p s m meth c b L xs dC dI cI cZ cQ ak av) (hL : L ≤ 2560) (y : Int32) (hy0 : 0 ≤ y.toInt) (hy1 : y.toInt ≤ (L : Int) - 5) (u v : US) (H : Heap) (locs : List Loc) (I : LI dC dI cI cZ cQ s xa ma u v H locs) (ls : Array Slot) (hl : lv_has ls 4 [(0, .ref b), (1, .ref xa), (2, .ref ma), (3, .int y)]) (kk : ∀ (u v : US) (H : Heap) (locs : List Loc), LI dC dI cI cZ cQ s xa ma u v H locs → W p l e room_1 s m #[Value.ref b] below meth c H locs 76 4711 (lw_Z below #[Value.ref b] s) (F0 m 1248 ls [])) : W p l e room_1 s m #[Value.ref b] below meth c H locs 76 4711 (lw_Z below #[Value.ref b] s) (F0 m 1202 ls []) := by
  obtain ⟨hx, hb, hml, hown, hts, hX, hbl, hK, hN, hSV⟩ := K
  obtain ⟨hu, hv, hxa, hma, hR, hP, hD, hS⟩ := I
  have hbA : ¬ AL s b := Nat.not_le.mpr hbl
  refine lv_aload_n hx hb dL_law_1202 rfl (lv_at hl 1 rfl) ?_
  refine lv_aload_n hx hb dL_law_1203 rfl (lv_at hl 0 rfl) ?_
  refine lv_iload_n hx hb dL_law_1204 rfl (lv_at hl 3 rfl) ?_
  refine lv_iconst (v := 1) hx hb dL_law_1205 (by decide) ?_
  refine lv_iadd hx hb dL_law_1206 ?_
  have f1 : (y + 1).toInt = (y.toInt) + (1) := addC rfl (show (1 : Int32).toInt = 1 from rfl) (by omega) (by omega)
  refine va_sld hx hb hX hbl hbA hS (inC f1 (by omega) (by omega)) dL_law_1207 ?_
  refine lwP (As := [.int (xs (y + 1).toNatClampNeg)]) (rest := []) ⟨hx, hb, hml, hown, hts⟩ (kU_X9_enough l dC dI cI cZ cQ ak av u hu _ xa hxa (xs (y + 1).toNatClampNeg)) (cwV 1 hts gL_law_X9_enough rfl rfl rfl (by decide +kernel) ⟨Nat.le_of_ble_eq_true rfl, Nat.le_of_ble_eq_true rfl⟩) hSV hP hD hS hK hN hxa rfl hl.1 rfl (Nat.le_of_ble_eq_true rfl) dL_law_1208 ⟨Nat.le_of_ble_eq_true rfl, Nat.le_of_ble_eq_true rfl⟩ (fun r3 u2 H locs h4 hP hD hS => ?_)
  obtain ⟨hxu, hxa, hx_mar, hx_tel, hx_gai, hx_fal, hx_day, hx_ali, hx_ans0, hx_ans1, hx_ans2, hx_ans3, hx_top, hx_str, hx_gho, hx_ghs, hx_pto, hx_wal, hx_few, hx_doo, hx_byt, hx_len, hx_mos, hx_wev, hx_aga, hx_apa, hx_lin, hx_agr0, hx_agr1, hx_agr2, hx_agr3, hxs⟩ := h4
  refine lv_pop hx hb dL_law_1211 rfl ?_
  refine lv_aload_n hx hb dL_law_1212 rfl (lv_at hl 2 rfl) ?_
  refine lv_aload_n hx hb dL_law_1213 rfl (lv_at hl 0 rfl) ?_
  refine lv_iload_n hx hb dL_law_1214 rfl (lv_at hl 3 rfl) ?_
  refine lv_iconst (v := 1) hx hb dL_law_1215 (by decide) ?_
  refine lv_iadd hx hb dL_law_1216 ?_
  have f5 : (y + 1).toInt = (y.toInt) + (1) := addC rfl (show (1 : Int32).toInt = 1 from rfl) (by omega) (by omega)
  refine va_sld hx hb hX hbl hbA hS (inC f5 (by omega) (by omega)) dL_law_1217 ?_
  refine lwM (As := [.int (xs (y + 1).toNatClampNeg)]) (rest := []) ⟨hx, hb, hml, hown, hts⟩ (kU_X10_enough l dC dI cI cZ cQ v hv _ ma hma (xs (y + 1).toNatClampNeg)) (cwV 1 hts gL_law_X10_enough rfl rfl rfl (by decide +kernel) ⟨Nat.le_of_ble_eq_true rfl, Nat.le_of_ble_eq_true rfl⟩) hP hD hS hK hN hma rfl hl.1 rfl (Nat.le_of_ble_eq_true rfl) dL_law_1218 ⟨Nat.le_of_ble_eq_true rfl, Nat.le_of_ble_eq_true rfl⟩ (fun r7 u6 H locs h8 hP hD hS => ?_)
  obtain ⟨hmu, hma, hm_mar, hm_tel, hm_gai, hm_fal, hm_day, hm_ali, hm_ans, hm_top, hm_str, hm_gho, hm_fai, hm_pto, hm_wal, hm_dA, hm_dB, hm_doo, hm_txt, hm_byt, hm_lne, hm_lin, hm_and, hm_anr, hms⟩ := h8
  refine lv_pop hx hb dL_law_1221 rfl ?_
  refine lv_goto (tgt := 1248) hx hb dL_law_1222 (by decide) ?_
  have hR0 := hR
  have hd := spEno_rel (hu.2.2.2.2.2.2.2.2.2.2.2.2.2.2.2.2.2.2.2.2.2.2.2.2.1) hR.2.2.2.2.2.2.2.2.2.1 hR.2.2.2.2.2.2.2.2.2.2.2.2.1 hxs hms
  have hR2 : rel u2 u6 := ⟨(hx_mar.trans (hR0.1.trans hm_mar.symm)), (hx_tel.trans (hR0.2.1.trans hm_tel.symm)), (hx_gai.trans (hR0.2.2.1.trans hm_gai.symm)), (fun j hj => by rw [hx_fal, hm_fal]; exact hR0.2.2.2.1 j hj), (hx_day.trans (hR0.2.2.2.2.1.trans hm_day.symm)), (hx_ali.trans (hR0.2.2.2.2.2.1.trans hm_ali.symm)), (fun j hj => by rw [hx_ans0, hx_ans1, hx_ans2, hx_ans3, hm_ans]; exact hR0.2.2.2.2.2.2.1 j hj), (fun j hj => by rw [hx_top, hm_top]; exact hR0.2.2.2.2.2.2.2.1 j hj), (by rw [hx_top, hx_str, hx_gho, hx_ghs, hx_pto, hx_wal, hm_top, hm_str, hm_gho, hm_fai, hm_pto, hm_wal]; exact hR0.2.2.2.2.2.2.2.2.1), (by rw [hx_few, hx_doo, hm_dA, hm_dB, hm_doo]; exact hR0.2.2.2.2.2.2.2.2.2.1), (hx_byt.trans (hR0.2.2.2.2.2.2.2.2.2.2.1.trans hm_txt.symm)), (hx_len.trans (hR0.2.2.2.2.2.2.2.2.2.2.2.1.trans hm_byt.symm)), (by rw [hx_mos, hx_wev, hx_aga, hx_apa, hx_lin, hm_lne, hm_lin]; exact hR0.2.2.2.2.2.2.2.2.2.2.2.2.1), (by rw [hx_agr0, hx_agr1, hx_agr2, hx_agr3, hm_ans, hm_and, hm_anr]; exact hR0.2.2.2.2.2.2.2.2.2.2.2.2.2)⟩
  exact kk u2 u6 _ _ ⟨hxu, hmu, hxa, hma, hR2, hP, hD, hS⟩
set_option maxHeartbeats 4000000 in
set_option maxRecDepth 100000 in
theorem lc_31 {p : Program} {l : Launch} {e : Env} {s : State} {m : MethodId} {below : List Frame} {meth : Method} {c : Code} {b L : Nat} {xs : Nat → Int32} {dC : Nat → ClassId} {dI : Nat → Nat → Nat} {cI cZ cQ : ClassId} {ak av : Nat → Nat} {xa ma : Nat} (K : LC p s m meth c b L xs dC dI cI cZ cQ ak av) (hL : L ≤ 2560) (y : Int32) (hy0 : 0 ≤ y.toInt) (hy1 : y.toInt ≤ (L : Int) - 5) (u v : US) (H : Heap) (locs : List Loc) (I : LI dC dI cI cZ cQ s xa ma u v H locs) (ls : Array Slot) (hl : lv_has ls 4 [(0, .ref b), (1, .ref xa), (2, .ref ma), (3, .int y)]) (kk : ∀ (u v : US) (H : Heap) (locs : List Loc), LI dC dI cI cZ cQ s xa ma u v H locs → W p l e room_1 s m #[Value.ref b] below meth c H locs 76 4711 (lw_Z below #[Value.ref b] s) (F0 m 1248 ls [])) : W p l e room_1 s m #[Value.ref b] below meth c H locs 76 4711 (lw_Z below #[Value.ref b] s) (F0 m 1225 ls []) := by
  obtain ⟨hx, hb, hml, hown, hts, hX, hbl, hK, hN, hSV⟩ := K
  obtain ⟨hu, hv, hxa, hma, hR, hP, hD, hS⟩ := I
  have hbA : ¬ AL s b := Nat.not_le.mpr hbl
  refine lv_aload_n hx hb dL_law_1225 rfl (lv_at hl 1 rfl) ?_
  refine lv_aload_n hx hb dL_law_1226 rfl (lv_at hl 0 rfl) ?_
  refine lv_iload_n hx hb dL_law_1227 rfl (lv_at hl 3 rfl) ?_
  refine lv_iconst (v := 1) hx hb dL_law_1228 (by decide) ?_
  refine lv_iadd hx hb dL_law_1229 ?_
  have f1 : (y + 1).toInt = (y.toInt) + (1) := addC rfl (show (1 : Int32).toInt = 1 from rfl) (by omega) (by omega)
  refine va_sld hx hb hX hbl hbA hS (inC f1 (by omega) (by omega)) dL_law_1230 ?_
  refine lwP (As := [.int (xs (y + 1).toNatClampNeg)]) (rest := []) ⟨hx, hb, hml, hown, hts⟩ (kU_X9_count l dC dI cI cZ cQ ak av u hu _ xa hxa (xs (y + 1).toNatClampNeg)) (cwV 1 hts gL_law_X9_count rfl rfl rfl (by decide +kernel) ⟨Nat.le_of_ble_eq_true rfl, Nat.le_of_ble_eq_true rfl⟩) hSV hP hD hS hK hN hxa rfl hl.1 rfl (Nat.le_of_ble_eq_true rfl) dL_law_1231 ⟨Nat.le_of_ble_eq_true rfl, Nat.le_of_ble_eq_true rfl⟩ (fun r3 u2 H locs h4 hP hD hS => ?_)
  obtain ⟨hxu, hxa, hx_mar, hx_tel, hx_gai, hx_fal, hx_day, hx_ali, hx_ans0, hx_ans1, hx_ans2, hx_ans3, hx_top, hx_str, hx_gho, hx_ghs, hx_pto, hx_wal, hx_few, hx_doo, hx_byt, hx_len, hx_mos, hx_wev, hx_aga, hx_apa, hx_lin, hx_agr0, hx_agr1, hx_agr2, hx_agr3, hxs⟩ := h4
  refine lv_aload_n hx hb dL_law_1234 rfl (lv_at hl 2 rfl) ?_
  refine lv_aload_n hx hb dL_law_1235 rfl (lv_at hl 0 rfl) ?_
  refine lv_iload_n hx hb dL_law_1236 rfl (lv_at hl 3 rfl) ?_
  refine lv_iconst (v := 1) hx hb dL_law_1237 (by decide) ?_
  refine lv_iadd hx hb dL_law_1238 ?_
  have f5 : (y + 1).toInt = (y.toInt) + (1) := addC rfl (show (1 : Int32).toInt = 1 from rfl) (by omega) (by omega)
  refine va_sld hx hb hX hbl hbA hS (inC f5 (by omega) (by omega)) dL_law_1239 ?_
  refine lwM (As := [.int (xs (y + 1).toNatClampNeg)]) (rest := [.int r3]) ⟨hx, hb, hml, hown, hts⟩ (kU_X10_count l dC dI cI cZ cQ v hv _ ma hma (xs (y + 1).toNatClampNeg)) (cwV 1 hts gL_law_X10_count rfl rfl rfl (by decide +kernel) ⟨Nat.le_of_ble_eq_true rfl, Nat.le_of_ble_eq_true rfl⟩) hP hD hS hK hN hma rfl hl.1 rfl (Nat.le_of_ble_eq_true rfl) dL_law_1240 ⟨Nat.le_of_ble_eq_true rfl, Nat.le_of_ble_eq_true rfl⟩ (fun r7 u6 H locs h8 hP hD hS => ?_)
  obtain ⟨hmu, hma, hm_mar, hm_tel, hm_gai, hm_fal, hm_day, hm_ali, hm_ans, hm_top, hm_str, hm_gho, hm_fai, hm_pto, hm_wal, hm_dA, hm_dB, hm_doo, hm_txt, hm_byt, hm_lne, hm_lin, hm_and, hm_anr, hms⟩ := h8
  have hR0 := hR
  have hd := spCnt_rel hR.2.2.2.2.2.2.2.2.1 hR.2.2.2.2.1 hR.2.2.2.2.2.2.2.2.2.1 hR.2.2.2.2.2.2.2.2.2.2.2.1 hR.2.2.2.2.2.2.2.2.2.2.2.2.1 hxs hms
  have hR2 : rel u2 u6 := ⟨(hx_mar.trans (hR0.1.trans hm_mar.symm)), (hx_tel.trans (hR0.2.1.trans hm_tel.symm)), (hx_gai.trans (hR0.2.2.1.trans hm_gai.symm)), (fun j hj => by rw [hx_fal, hm_fal]; exact hR0.2.2.2.1 j hj), (hx_day.trans (hR0.2.2.2.2.1.trans hm_day.symm)), (hx_ali.trans (hR0.2.2.2.2.2.1.trans hm_ali.symm)), (fun j hj => by rw [hx_ans0, hx_ans1, hx_ans2, hx_ans3, hm_ans]; exact hR0.2.2.2.2.2.2.1 j hj), (fun j hj => by rw [hx_top, hm_top]; exact hR0.2.2.2.2.2.2.2.1 j hj), (by rw [hx_top, hx_str, hx_gho, hx_ghs, hx_pto, hx_wal, hm_top, hm_str, hm_gho, hm_fai, hm_pto, hm_wal]; exact hR0.2.2.2.2.2.2.2.2.1), (by rw [hx_few, hx_doo, hm_dA, hm_dB, hm_doo]; exact hR0.2.2.2.2.2.2.2.2.2.1), (hx_byt.trans (hR0.2.2.2.2.2.2.2.2.2.2.1.trans hm_txt.symm)), (hx_len.trans (hR0.2.2.2.2.2.2.2.2.2.2.2.1.trans hm_byt.symm)), (by rw [hx_mos, hx_wev, hx_aga, hx_apa, hx_lin, hm_lne, hm_lin]; exact hR0.2.2.2.2.2.2.2.2.2.2.2.2.1), (by rw [hx_agr0, hx_agr1, hx_agr2, hx_agr3, hm_ans, hm_and, hm_anr]; exact hR0.2.2.2.2.2.2.2.2.2.2.2.2.2)⟩
  refine lv_icmp_eq (tgt := 1248) hx hb dL_law_1243 (by decide) (fun _ => ?_) (fun c9 => absurd hd c9)
  exact kk u2 u6 _ _ ⟨hxu, hmu, hxa, hma, hR2, hP, hD, hS⟩
