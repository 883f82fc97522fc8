theorem dX6_bestNext_23 : decode cX6_bestNext 23 = .ok (.iconst (-1), 1) := dz_at dqX6_bestNext_p081 0 rfl
theorem dX6_bestNext_24 : decode cX6_bestNext 24 = .ok (.if_icmp .eq 22, 3) := dz_at dqX6_bestNext_p081 1 rfl
theorem dX6_bestNext_27 : decode cX6_bestNext 27 = .ok (.aload_n 0, 1) := dz_at dqX6_bestNext_p081 2 rfl
theorem dX6_bestNext_28 : decode cX6_bestNext 28 = .ok (.iload_n 1, 1) := dz_at dqX6_bestNext_p081 3 rfl
theorem dX6_bestNext_29 : decode cX6_bestNext 29 = .ok (.iload_n 2, 1) := dz_at dqX6_bestNext_p081 4 rfl
theorem dX6_bestNext_30 : decode cX6_bestNext 30 = .ok (.iload 5, 2) := dz_at dqX6_bestNext_p081 5 rfl
theorem dX6_bestNext_32 : decode cX6_bestNext 32 = .ok (.invokevirtual 55, 3) := dz_at dqX6_bestNext_p081 6 rfl
theorem dX6_bestNext_35 : decode cX6_bestNext 35 = .ok (.aload_n 0, 1) := dz_at dqX6_bestNext_p081 7 rfl
theorem dX6_bestNext_36 : decode cX6_bestNext 36 = .ok (.iload_n 1, 1) := dz_at dqX6_bestNext_p081 8 rfl
theorem dX6_bestNext_37 : decode cX6_bestNext 37 = .ok (.iload_n 2, 1) := dz_at dqX6_bestNext_p081 9 rfl
theorem dX6_bestNext_38 : decode cX6_bestNext 38 = .ok (.iload 4, 2) := dz_at dqX6_bestNext_p081 10 rfl
theorem dX6_bestNext_40 : decode cX6_bestNext 40 = .ok (.invokevirtual 55, 3) := dz_at dqX6_bestNext_p081 11 rfl
theorem dX6_bestNext_43 : decode cX6_bestNext 43 = .ok (.if_icmp .ge 7, 3) := dz_at dqX6_bestNext_p081 12 rfl
theorem dX6_bestNext_46 : decode cX6_bestNext 46 = .ok (.iload 5, 2) := dz_at dqX6_bestNext_p081 13 rfl
set_option maxRecDepth 20000 in
theorem dqX6_bestNext_p082 : dz_rn 48 (cX6_bestNext.data.toList.drop 48) [(1, 1), (5, 0), (4, 0), (1, 0), (0, 12)] = some [(48, .istore 4, 2), (50, .iinc 5 1, 3), (53, .goto (-47), 3), (56, .iload 4, 2), (58, .ireturn, 1)] := by decide +kernel
theorem dX6_bestNext_48 : decode cX6_bestNext 48 = .ok (.istore 4, 2) := dz_at dqX6_bestNext_p082 0 rfl
theorem dX6_bestNext_50 : decode cX6_bestNext 50 = .ok (.iinc 5 1, 3) := dz_at dqX6_bestNext_p082 1 rfl
theorem dX6_bestNext_53 : decode cX6_bestNext 53 = .ok (.goto (-47), 3) := dz_at dqX6_bestNext_p082 2 rfl
theorem dX6_bestNext_56 : decode cX6_bestNext 56 = .ok (.iload 4, 2) := dz_at dqX6_bestNext_p082 3 rfl
theorem dX6_bestNext_58 : decode cX6_bestNext 58 = .ok (.ireturn, 1) := dz_at dqX6_bestNext_p082 4 rfl
set_option maxRecDepth 20000 in
theorem ggX6_throughNext_X6_toComeAt : GoodIn wsX6_throughNext wsX6_toComeAt := goodIn_r _ [6, 7, 8, 9, 10, 11, 12] rfl (by decide +kernel)
set_option maxRecDepth 20000 in
theorem gX6_throughNext_X6_toComeAt : GoodIn wsX6_throughNext (wsV RX6 39 RX6 yX6_toComeAt wsX6_toComeAt) := goodIn_app (goodIn_of _ (by decide +kernel)) ggX6_throughNext_X6_toComeAt
set_option maxRecDepth 20000 in
theorem dqX6_throughNext_p080 : dz_rn 0 (cX6_throughNext.data.toList.drop 0) [(0, 4), (3, 0), (0, 2), (2, 0), (0, 23), (0, 3), (0, 11), (0, 10), (0, 4), (0, 1), (0, 9), (0, 3), (0, 31), (0, 39)] = some [(0, .aload_n 0, 1), (1, .getfield 18, 3), (4, .iload_n 2, 1), (5, .bipush 8, 2), (7, .imul, 1), (8, .iload_n 3, 1), (9, .iadd, 1), (10, .iaload, 1), (11, .aload_n 0, 1), (12, .iload_n 1, 1), (13, .iconst 1, 1), (14, .iload_n 3, 1), (15, .ishl, 1), (16, .ior, 1)] := by decide +kernel
theorem dX6_throughNext_0 : decode cX6_throughNext 0 = .ok (.aload_n 0, 1) := dz_at dqX6_throughNext_p080 0 rfl
theorem dX6_throughNext_1 : decode cX6_throughNext 1 = .ok (.getfield 18, 3) := dz_at dqX6_throughNext_p080 1 rfl
theorem dX6_throughNext_4 : decode cX6_throughNext 4 = .ok (.iload_n 2, 1) := dz_at dqX6_throughNext_p080 2 rfl
theorem dX6_throughNext_5 : decode cX6_throughNext 5 = .ok (.bipush 8, 2) := dz_at dqX6_throughNext_p080 3 rfl
theorem dX6_throughNext_7 : decode cX6_throughNext 7 = .ok (.imul, 1) := dz_at dqX6_throughNext_p080 4 rfl
theorem dX6_throughNext_8 : decode cX6_throughNext 8 = .ok (.iload_n 3, 1) := dz_at dqX6_throughNext_p080 5 rfl
theorem dX6_throughNext_9 : decode cX6_throughNext 9 = .ok (.iadd, 1) := dz_at dqX6_throughNext_p080 6 rfl
theorem dX6_throughNext_10 : decode cX6_throughNext 10 = .ok (.iaload, 1) := dz_at dqX6_throughNext_p080 7 rfl
theorem dX6_throughNext_11 : decode cX6_throughNext 11 = .ok (.aload_n 0, 1) := dz_at dqX6_throughNext_p080 8 rfl
theorem dX6_throughNext_12 : decode cX6_throughNext 12 = .ok (.iload_n 1, 1) := dz_at dqX6_throughNext_p080 9 rfl
theorem dX6_throughNext_13 : decode cX6_throughNext 13 = .ok (.iconst 1, 1) := dz_at dqX6_throughNext_p080 10 rfl
theorem dX6_throughNext_14 : decode cX6_throughNext 14 = .ok (.iload_n 3, 1) := dz_at dqX6_throughNext_p080 11 rfl
theorem dX6_throughNext_15 : decode cX6_throughNext 15 = .ok (.ishl, 1) := dz_at dqX6_throughNext_p080 12 rfl
theorem dX6_throughNext_16 : decode cX6_throughNext 16 = .ok (.ior, 1) := dz_at dqX6_throughNext_p080 13 rfl
set_option maxRecDepth 20000 in
theorem dqX6_throughNext_p081 : dz_rn 17 (cX6_throughNext.data.toList.drop 17) [(0, 3), (3, 1), (0, 11), (0, 12)] = some [(17, .iload_n 3, 1), (18, .invokevirtual 39, 3), (21, .iadd, 1), (22, .ireturn, 1)] := by decide +kernel
theorem dX6_throughNext_17 : decode cX6_throughNext 17 = .ok (.iload_n 3, 1) := dz_at dqX6_throughNext_p081 0 rfl
theorem dX6_throughNext_18 : decode cX6_throughNext 18 = .ok (.invokevirtual 39, 3) := dz_at dqX6_throughNext_p081 1 rfl
theorem dX6_throughNext_21 : decode cX6_throughNext 21 = .ok (.iadd, 1) := dz_at dqX6_throughNext_p081 2 rfl
theorem dX6_throughNext_22 : decode cX6_throughNext 22 = .ok (.ireturn, 1) := dz_at dqX6_throughNext_p081 3 rfl
set_option maxRecDepth 20000 in
theorem dqX6_toComeAt_p080 : dz_rn 0 (cX6_toComeAt.data.toList.drop 0) [(0, 4), (3, 0), (0, 1), (2, 0), (0, 23), (0, 2), (0, 11), (0, 10), (0, 12)] = some [(0, .aload_n 0, 1), (1, .getfield 21, 3), (4, .iload_n 1, 1), (5, .bipush 8, 2), (7, .imul, 1), (8, .iload_n 2, 1), (9, .iadd, 1), (10, .iaload, 1), (11, .ireturn, 1)] := by decide +kernel
theorem dX6_toComeAt_0 : decode cX6_toComeAt 0 = .ok (.aload_n 0, 1) := dz_at dqX6_toComeAt_p080 0 rfl
theorem dX6_toComeAt_1 : decode cX6_toComeAt 1 = .ok (.getfield 21, 3) := dz_at dqX6_toComeAt_p080 1 rfl
theorem dX6_toComeAt_4 : decode cX6_toComeAt 4 = .ok (.iload_n 1, 1) := dz_at dqX6_toComeAt_p080 2 rfl
theorem dX6_toComeAt_5 : decode cX6_toComeAt 5 = .ok (.bipush 8, 2) := dz_at dqX6_toComeAt_p080 3 rfl
theorem dX6_toComeAt_7 : decode cX6_toComeAt 7 = .ok (.imul, 1) := dz_at dqX6_toComeAt_p080 4 rfl
theorem dX6_toComeAt_8 : decode cX6_toComeAt 8 = .ok (.iload_n 2, 1) := dz_at dqX6_toComeAt_p080 5 rfl
theorem dX6_toComeAt_9 : decode cX6_toComeAt 9 = .ok (.iadd, 1) := dz_at dqX6_toComeAt_p080 6 rfl
theorem dX6_toComeAt_10 : decode cX6_toComeAt 10 = .ok (.iaload, 1) := dz_at dqX6_toComeAt_p080 7 rfl
theorem dX6_toComeAt_11 : decode cX6_toComeAt 11 = .ok (.ireturn, 1) := dz_at dqX6_toComeAt_p080 8 rfl
set_option maxHeartbeats 4000000 in
set_option maxRecDepth 100000 in
theorem k_X6_toComeAt (l : Launch) (dC : Nat → ClassId) (dI : Nat → Nat → Nat) (cI cZ cQ : ClassId) (a : Nat → Nat) (sor : Nat → Int32) (ord : Nat → Int32) (sha : Nat → Int32) (toc : Nat → Int32) (mar : Nat → Int32) (tol : Nat → Int32) (se : Int32) (la : Int32) (r_sor : rg 8 (0) (23) sor) (r_mar : rg 24 (0) (255) mar) (r_tol : rg 8 (0) (23) tol) (q0 : 0 ≤ se.toInt) (q1 : se.toInt ≤ 255) (q2 : 0 ≤ la.toInt) (q3 : la.toInt ≤ 7) : KR l yX6_toComeAt wsX6_toComeAt { frames := 0, cells := 0, slots := 0, locals := 0 } (dC, dI) (TY cI cZ cQ) (wSpe cI cZ cQ a sor ord sha toc mar tol) [.ref (a 23), .int se, .int la] (fun r : Int32 => True) := by
  refine Met.ofW (cc := cX6_toComeAt) (maxL := 3) (ret := (some .int)) (by decide) rfl ?_
  intro p e s m args below meth c s₁ B hml hv
  obtain ⟨rfl, hP, hK, hN⟩ := hv
  have hx := B.exec
  have hb := B.bytes
  have hr := B.returns
  have hts := atoms_spec (ws := wsX6_toComeAt) B.pre
  have hown : s.vm.findClass RX6 = some m.cls := findClass_of_methodNamed B.named
  have hlocks := B.notSynchronized
  have lf21 := hts (.fieldLink RX6 21 "PalaceOfRooms$Speech" "toCome" "[I") (List.mem_cons_of_mem _ (List.mem_append_left _ (List.mem_of_getElem? (i := 0) rfl)))
  have inX6 : ∀ w ∈ wsX60, w ∈ wsX6_toComeAt := fun w h => List.mem_cons_of_mem _ (List.mem_append_right _ h)
  have hl := lv_entry ([.ref (a 23), .int se, .int la]) (n := 3) (Nat.le_of_ble_eq_true rfl)
  rw [lg_entry_eq]
  generalize (lg_sl ([.ref (a 23), .int se, .int la]) ++ List.replicate (3 - (lg_sl ([.ref (a 23), .int se, .int la])).length) Slot.unset).toArray = ls at hl ⊢
  have hl : lv_has ls 3 [(0, .ref (a 23)), (1, .int se), (2, .int la)] := hl
  refine lv_aload_n hx hb dX6_toComeAt_0 rfl (lv_at hl 0 rfl) ?_
  refine va_get (D := (dC, dI)) (ci := 6) (v := .ref (a 27)) (C := RX6) (T := TX6) (N := 5) hx hb hts inX6 hown hK hP 0 rfl rfl 4 (by decide) lf21 (fun _ h9 => h9) rfl dX6_toComeAt_1 ?_
  refine lv_iload_n hx hb dX6_toComeAt_4 rfl (lv_at hl 1 rfl) ?_
  refine lv_bipush (v := 8) hx hb dX6_toComeAt_5 (by decide) ?_
  refine lv_imul hx hb dX6_toComeAt_7 ?_
  have f1 : (se * 8).toInt = (se.toInt) * (8) := mulC rfl (show (8 : Int32).toInt = 8 from rfl) (by omega) (by omega)
  refine lv_iload_n hx hb dX6_toComeAt_8 rfl (lv_at hl 2 rfl) ?_
  refine lv_iadd hx hb dX6_toComeAt_9 ?_
  have f2 : ((se * 8) + la).toInt = ((se.toInt) * (8)) + (la.toInt) := addC f1 rfl (by omega) (by omega)
  have b3 : vp_in ((se * 8) + la) 2048 := inC f2 (by omega) (by omega)
  refine va_iald hx hb hK hP 4 0 rfl rfl b3 dX6_toComeAt_10 ?_
  exact W.iret (v := toc ((se * 8) + la).toNatClampNeg) hx hb hr (fun t ht hW => ⟨toc ((se * 8) + la).toNatClampNeg, rfl, trivial, ht⟩) (fun q h => by cases h) dX6_toComeAt_11
set_option maxHeartbeats 4000000 in
set_option maxRecDepth 100000 in
theorem k_X6_throughNext (l : Launch) (dC : Nat → ClassId) (dI : Nat → Nat → Nat) (cI cZ cQ : ClassId) (a : Nat → Nat) (sor : Nat → Int32) (ord : Nat → Int32) (sha : Nat → Int32) (toc : Nat → Int32) (mar : Nat → Int32) (tol : Nat → Int32) (se : Int32) (la : Int32) (ne : Int32) (r_sor : rg 8 (0) (23) sor) (r_mar : rg 24 (0) (255) mar) (r_tol : rg 8 (0) (23) tol) (q0 : 0 ≤ se.toInt) (q1 : se.toInt ≤ 255) (q2 : 0 ≤ la.toInt) (q3 : la.toInt ≤ 7) (q4 : 0 ≤ ne.toInt) (q5 : ne.toInt ≤ 7) : KR l yX6_throughNext wsX6_throughNext { frames := 1, cells := 0, slots := 0, locals := 22 } (dC, dI) (TY cI cZ cQ) (wSpe cI cZ cQ a sor ord sha toc mar tol) [.ref (a 23), .int se, .int la, .int ne] (fun r : Int32 => True) := by
  refine Met.ofW (cc := cX6_throughNext) (maxL := 4) (ret := (some .int)) (by decide) rfl ?_
  intro p e s m args below meth c s₁ B hml hv
  obtain ⟨rfl, hP, hK, hN⟩ := hv
  have hx := B.exec
  have hb := B.bytes
  have hr := B.returns
  have hts := atoms_spec (ws := wsX6_throughNext) B.pre
  have hown : s.vm.findClass RX6 = some m.cls := findClass_of_methodNamed B.named
  have hlocks := B.notSynchronized
  have lf18 := hts (.fieldLink RX6 18 "PalaceOfRooms$Speech" "shared" "[I") (List.mem_cons_of_mem _ (List.mem_append_left _ (List.mem_of_getElem? (i := 0) rfl)))
  have inX6 : ∀ w ∈ wsX60, w ∈ wsX6_throughNext := fun w h => List.mem_cons_of_mem _ (List.mem_append_right _ h)
  have hl := lv_entry ([.ref (a 23), .int se, .int la, .int ne]) (n := 4) (Nat.le_of_ble_eq_true rfl)
  rw [lg_entry_eq]
  generalize (lg_sl ([.ref (a 23), .int se, .int la, .int ne]) ++ List.replicate (4 - (lg_sl ([.ref (a 23), .int se, .int la, .int ne])).length) Slot.unset).toArray = ls at hl ⊢
  have hl : lv_has ls 4 [(0, .ref (a 23)), (1, .int se), (2, .int la), (3, .int ne)] := hl
  refine lv_aload_n hx hb dX6_throughNext_0 rfl (lv_at hl 0 rfl) ?_
  refine va_get (D := (dC, dI)) (ci := 6) (v := .ref (a 26)) (C := RX6) (T := TX6) (N := 5) hx hb hts inX6 hown hK hP 0 rfl rfl 3 (by decide) lf18 (fun _ h9 => h9) rfl dX6_throughNext_1 ?_
  refine lv_iload_n hx hb dX6_throughNext_4 rfl (lv_at hl 2 rfl) ?_
  refine lv_bipush (v := 8) hx hb dX6_throughNext_5 (by decide) ?_
  refine lv_imul hx hb dX6_throughNext_7 ?_
  have f1 : (la * 8).toInt = (la.toInt) * (8) := mulC rfl (show (8 : Int32).toInt = 8 from rfl) (by omega) (by omega)
  refine lv_iload_n hx hb dX6_throughNext_8 rfl (lv_at hl 3 rfl) ?_
  refine lv_iadd hx hb dX6_throughNext_9 ?_
  have f2 : ((la * 8) + ne).toInt = ((la.toInt) * (8)) + (ne.toInt) := addC f1 rfl (by omega) (by omega)
  have b3 : vp_in ((la * 8) + ne) 64 := inC f2 (by omega) (by omega)
  refine va_iald hx hb hK hP 3 0 rfl rfl b3 dX6_throughNext_10 ?_
  refine lv_aload_n hx hb dX6_throughNext_11 rfl (lv_at hl 0 rfl) ?_
  refine lv_iload_n hx hb dX6_throughNext_12 rfl (lv_at hl 1 rfl) ?_
  refine lv_iconst (v := 1) hx hb dX6_throughNext_13 (by decide) ?_
  refine lv_iload_n hx hb dX6_throughNext_14 rfl (lv_at hl 3 rfl) ?_
  refine lv_ishl hx hb dX6_throughNext_15 ?_
  have f4 : 1 ≤ ((1 : Int32) <<< (ne &&& 31)).toInt ∧ ((1 : Int32) <<< (ne &&& 31)).toInt ≤ 128 := shl1 rfl (by omega) 7 (by omega) (by decide)
  refine lv_ior hx hb dX6_throughNext_16 ?_
  have f5 : 0 ≤ (se ||| ((1 : Int32) <<< (ne &&& 31))).toInt ∧ (se ||| ((1 : Int32) <<< (ne &&& 31))).toInt ≤ 255 := orB rfl rfl 8 (by omega) (by omega) (by omega) (by omega) (by decide)
  refine lv_iload_n hx hb dX6_throughNext_17 rfl (lv_at hl 3 rfl) ?_
  refine rdV (As := [.int (se ||| ((1 : Int32) <<< (ne &&& 31))), .int ne]) (rest := [.int (sha ((la * 8) + ne).toNatClampNeg)]) ⟨hx, hb, hml, hown, hts⟩ (k_X6_toComeAt l dC dI cI cZ cQ a sor ord sha toc mar tol (se ||| ((1 : Int32) <<< (ne &&& 31))) ne r_sor r_mar r_tol (by omega) (by omega) (by omega) (by omega)) (cwV 2 hts gX6_throughNext_X6_toComeAt rfl rfl rfl (by decide +kernel) ⟨Nat.le_of_ble_eq_true rfl, Nat.le_of_ble_eq_true rfl⟩) hP hK hN [0, 1, 2, 3, 4, 5, 6, 7] rfl 0 6 rfl rfl rfl hl.1 rfl (Nat.le_of_ble_eq_true rfl) dX6_throughNext_18 ⟨Nat.le_of_ble_eq_true rfl, Nat.le_of_ble_eq_true rfl⟩ (fun r6 h7 => ?_)
  have h7 : True := h7
  refine lv_iadd hx hb dX6_throughNext_21 ?_
  exact W.iret (v := (sha ((la * 8) + ne).toNatClampNeg) + r6) hx hb hr (fun t ht hW => ⟨(sha ((la * 8) + ne).toNatClampNeg) + r6, rfl, trivial, ht⟩) (fun q h => by cases h) dX6_throughNext_22
