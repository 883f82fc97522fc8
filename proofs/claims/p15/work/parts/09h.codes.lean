set_option maxHeartbeats 4000000 in
set_option maxRecDepth 100000 in
theorem k_X0_seek_4 (l : Launch) (dC : Nat → ClassId) (dI : Nat → Nat → Nat) (cI cZ cQ : ClassId) (a : Nat → Nat) (ali : Nat → Int32) (thi : Nat → Int32) (ctr : Nat → Int32) (cbe : Nat → Int32) (har : Int32) (mar : Nat → Int32) (tol : Nat → Int32) (sz : Nat) (fi : Int32) (n : Int32) (us : Int32) (ha : Int32) (r_thi : rg 8 (0) (23) thi) (r_ctr : rg 6 (0) (23) ctr) (r_mar : rg 24 (0) (255) mar) (r_tol : rg 8 (0) (23) tol) (q0 : 2 ≤ fi.toInt) (q1 : fi.toInt ≤ 6) (q2 : 2 ≤ n.toInt) (q3 : n.toInt ≤ 6) : KV l yX0_seek wsX0_seek { frames := 7, cells := 0, slots := 0, locals := 165 } (dC, dI) (TY cI cZ cQ) (wCod cI cZ cQ a ali thi ctr cbe har mar tol) [.ref (a 28), .int fi, .int n, .int us, .int ha] sz 0 0 (fun (u : US) => (rg 6 (0) (23) (u.1 0))) (fun u : US => (wCod cI cZ cQ a ali thi (u.1 0) (u.1 1) (u.1 2 0) mar tol)) := by
  refine Met.ofW (cc := cX0_seek) (maxL := 6) (ret := none) (by decide) rfl ?_
  intro p e s m args below meth c s₁ B hml hv
  obtain ⟨rfl, hsz, hP, hK, hD0, hN⟩ := hv
  have hx := B.exec
  have hb := B.bytes
  have hr := B.returns
  have hts := atoms_spec (ws := wsX0_seek) B.pre
  have hown : s.vm.findClass RX0 = some m.cls := findClass_of_methodNamed B.named
  have hlocks := B.notSynchronized
  have lf34 := hts (.fieldLink RX0 34 "PalaceOfRooms$Codes" "bestHarm" "I") (List.mem_cons_of_mem _ (List.mem_append_left _ (List.mem_append_left _ (List.mem_append_left _ (List.mem_of_getElem? (i := 0) rfl)))))
  have inX0 : ∀ w ∈ wsX00, w ∈ wsX0_seek := fun w h => List.mem_cons_of_mem _ (List.mem_append_left _ (List.mem_append_right _ h))
  have lf18 := hts (.fieldLink RX0 18 "PalaceOfRooms$Codes" "trial" "[I") (List.mem_cons_of_mem _ (List.mem_append_left _ (List.mem_append_left _ (List.mem_append_left _ (List.mem_of_getElem? (i := 1) rfl)))))
  have lf21 := hts (.fieldLink RX0 21 "PalaceOfRooms$Codes" "best" "[I") (List.mem_cons_of_mem _ (List.mem_append_left _ (List.mem_append_left _ (List.mem_append_left _ (List.mem_of_getElem? (i := 2) rfl)))))
  have lf15 := hts (.fieldLink RX0 15 "PalaceOfRooms$Codes" "things" "[I") (List.mem_cons_of_mem _ (List.mem_append_left _ (List.mem_append_left _ (List.mem_append_left _ (List.mem_of_getElem? (i := 7) rfl)))))
  subst hsz
  have hD := hD0.self (sz := s.heap.size)
  generalize hAe : va_A (wCod cI cZ cQ a ali thi ctr cbe har mar tol) s.heap.size = A at hD ⊢
  have hA : ∀ q : Nat, s.heap.size ≤ q → A q := fun q h => by rw [← hAe]; exact Or.inr h
  have hS : va_S A s.heap s.heap [] := va_S.rf
  have hl := lv_entry ([.ref (a 28), .int fi, .int n, .int us, .int ha]) (n := 6) (Nat.le_of_ble_eq_true rfl)
  rw [lg_entry_eq]
  generalize (lg_sl ([.ref (a 28), .int fi, .int n, .int us, .int ha]) ++ List.replicate (6 - (lg_sl ([.ref (a 28), .int fi, .int n, .int us, .int ha])).length) Slot.unset).toArray = ls at hl ⊢
  have hl : lv_has ls 6 [(0, .ref (a 28)), (1, .int fi), (2, .int n), (3, .int us), (4, .int ha)] := hl
  refine lv_iload hx hb dX0_seek_0 (lv_at hl 4 rfl) ?_
  refine lv_aload_n hx hb dX0_seek_2 rfl (lv_at hl 0 rfl) ?_
  refine va_get (D := (dC, dI)) (ci := 0) (v := .int har) (C := RX0) (T := TX0) (N := 6) hx hb hts inX0 hown hK hP 0 rfl rfl 5 (by decide) lf34 (fun _ h9 => h9) rfl dX0_seek_3 ?_
  refine lv_icmp_lt (tgt := 10) hx hb dX0_seek_6 (by decide) (fun c1 => ?_) (fun c1 => ?_)
  · have dc1 : ha.toInt < har.toInt := ltC rfl rfl c1
    refine lv_iload_n hx hb dX0_seek_10 rfl (lv_at hl 1 rfl) ?_
    refine lv_iload_n hx hb dX0_seek_11 rfl (lv_at hl 2 rfl) ?_
    refine lv_icmp_ge (tgt := 21) hx hb dX0_seek_12 (by decide) (fun c2 => ?_) (fun c2 => ?_)
    · have dc2 : n.toInt ≤ fi.toInt := leC rfl rfl c2
      refine lv_aload_n hx hb dX0_seek_21 rfl (lv_at hl 0 rfl) ?_
      refine lv_iload hx hb dX0_seek_22 (lv_at hl 4 rfl) ?_
      refine va_put (D := (dC, dI)) (ci := 0) (v := .int ha) (ty := .int) (C := RX0) (T := TX0) (N := 6) hx hb hts inX0 tyX0 tyX0_ok nmX0 hown hK hP hD hS 0 rfl rfl 5 (by decide) lf34 (fun _ h9 => h9) rfl (by decide +kernel) rfl rfl (Nat.le_of_ble_eq_true rfl) dX0_seek_24 (fun H locs hP hD hS => ?_)
      have hP : va_P (dC, dI) vwCl (wCod cI cZ cQ a ali thi ctr cbe ha mar tol) H := hP
      have hD : va_D A (wCod cI cZ cQ a ali thi ctr cbe ha mar tol) := hD
      refine lv_aload_n hx hb dX0_seek_27 rfl (lv_at hl 0 rfl) ?_
      refine va_get (D := (dC, dI)) (ci := 0) (v := .ref (a 31)) (C := RX0) (T := TX0) (N := 6) hx hb hts inX0 hown hK hP 0 rfl rfl 3 (by decide) lf18 (fun _ h9 => h9) rfl dX0_seek_28 ?_
      refine lv_iconst (v := 0) hx hb dX0_seek_31 (by decide) ?_
      refine lv_aload_n hx hb dX0_seek_32 rfl (lv_at hl 0 rfl) ?_
      refine va_get (D := (dC, dI)) (ci := 0) (v := .ref (a 32)) (C := RX0) (T := TX0) (N := 6) hx hb hts inX0 hown hK hP 0 rfl rfl 4 (by decide) lf21 (fun _ h9 => h9) rfl dX0_seek_33 ?_
      refine lv_iconst (v := 0) hx hb dX0_seek_36 (by decide) ?_
      refine lv_bipush (v := 6) hx hb dX0_seek_37 (by decide) ?_
      refine va_copyi (ty := .int) (n := 6) hx hb (by rw [hml]; exact hl.1.symm) hown (hts (.methodLink RX0 28 arraycopyName) (List.mem_cons_of_mem _ (List.mem_append_left _ (List.mem_append_left _ (List.mem_append_left _ (List.mem_of_getElem? (i := 3) rfl)))))) (hts (.native arraycopyName) (List.mem_cons_of_mem _ (List.mem_append_left _ (List.mem_append_left _ (List.mem_append_left _ (List.mem_of_getElem? (i := 4) rfl)))))) (hts (.static arraycopyName) (List.mem_cons_of_mem _ (List.mem_append_left _ (List.mem_append_left _ (List.mem_append_left _ (List.mem_of_getElem? (i := 5) rfl)))))) (hts (.initialized "java/lang/System") (List.mem_cons_of_mem _ (List.mem_append_left _ (List.mem_append_left _ (List.mem_append_left _ (List.mem_of_getElem? (i := 6) rfl)))))) hK hP hD hS 3 4 0 0 rfl rfl rfl rfl rfl (by decide) (by decide) (by decide) (by decide) (by decide) (fun _ _ => rfl) (Nat.le_of_ble_eq_true rfl) (Nat.le_of_ble_eq_true rfl) dX0_seek_39 (fun H locs hP hD hS => ?_)
      obtain ⟨cbe_u3, ecbe_u3⟩ : ∃ f : Nat → Int32, f = va_cpy ctr cbe 0 0 6 := ⟨_, rfl⟩
      have hP : va_P (dC, dI) vwCl (wCod cI cZ cQ a ali thi ctr cbe_u3 ha mar tol) H := by rw [ecbe_u3]; exact hP
      have hD : va_D A (wCod cI cZ cQ a ali thi ctr cbe_u3 ha mar tol) := by rw [ecbe_u3]; exact hD
      exact W.vret hx hb hr (fun t ht hW => ⟨⟨(uS [ctr, cbe_u3, (fun _ => ha)] 0 (fun _ => 0)), rfl, r_ctr, by rw [ht]; exact hP, hD⟩, hS.F ht⟩) hS.2.2 dX0_seek_42
    · have dc2 : fi.toInt < n.toInt := nleC rfl rfl c2
      refine lv_iload_n hx hb dX0_seek_15 rfl (lv_at hl 1 rfl) ?_
      refine lv_bipush (v := 6) hx hb dX0_seek_16 (by decide) ?_
      refine lv_icmp_lt (tgt := 43) hx hb dX0_seek_18 (by decide) (fun c4 => ?_) (fun c4 => ?_)
      · have dc4 : fi.toInt < 6 := ltC rfl (show (6 : Int32).toInt = 6 from rfl) c4
        refine lv_iconst (v := 0) hx hb dX0_seek_43 (by decide) ?_
        refine lv_istore (lv' := [(5, .int 0), (0, .ref (a 28)), (1, .int fi), (2, .int n), (3, .int us), (4, .int ha)]) hx hb dX0_seek_44 hl (by decide) rfl (fun ls hl => ?_)
        have L46 : ∀ (nn : Nat) (y46_5 : Int32) (ctr_46 : Nat → Int32) (cbe_46 : Nat → Int32) (har_46 : Int32) (H : Heap) (locs : List Loc) (ls : Array Slot), (rg 6 (0) (23) ctr_46) → (0 ≤ (y46_5.toInt)) → ((y46_5.toInt) ≤ 6) → (6 - (y46_5.toInt)).toNat < nn → va_P (dC, dI) vwCl (wCod cI cZ cQ a ali thi ctr_46 cbe_46 har_46 mar tol) H → va_D A (wCod cI cZ cQ a ali thi ctr_46 cbe_46 har_46 mar tol) → va_S A s.heap H locs → lv_has ls 6 [(0, .ref (a 28)), (1, .int fi), (2, .int n), (3, .int us), (4, .int ha), (5, .int y46_5)] → W p l e (headSpec wsX0_seek { frames := 7, cells := 0, slots := 0, locals := 165 }).room s m ([.ref (a 28), .int fi, .int n, .int us, .int ha] : List Value).toArray below meth c H locs 0 0 (MQ below (va_Qv (fun (u : US) => (rg 6 (0) (23) (u.1 0))) (Bw (dC, dI) A (fun u : US => (wCod cI cZ cQ a ali thi (u.1 0) (u.1 1) (u.1 2 0) mar tol))) A) ([.ref (a 28), .int fi, .int n, .int us, .int ha] : List Value).toArray s 0 0 A) (F0 m 46 ls []) := by
          intro nn
          induction nn with
          | zero =>
            intro y46_5 ctr_46 cbe_46 har_46 H locs ls r_ctr_46 i46_0 i46_1 hm
            exact absurd hm (Nat.not_lt_zero _)
          | succ nn ih46 =>
            intro y46_5 ctr_46 cbe_46 har_46 H locs ls r_ctr_46 i46_0 i46_1 hm hP hD hS hl
            refine lv_iload hx hb dX0_seek_46 (lv_at hl 5 rfl) ?_
            refine lv_iload_n hx hb dX0_seek_48 rfl (lv_at hl 2 rfl) ?_
            refine lv_icmp_ge (tgt := 102) hx hb dX0_seek_49 (by decide) (fun c5 => ?_) (fun c5 => ?_)
            · have dc5 : n.toInt ≤ y46_5.toInt := leC rfl rfl c5
              exact W.vret hx hb hr (fun t ht hW => ⟨⟨(uS [ctr_46, cbe_46, (fun _ => har_46)] 0 (fun _ => 0)), rfl, r_ctr_46, by rw [ht]; exact hP, hD⟩, hS.F ht⟩) hS.2.2 dX0_seek_102
            · have dc5 : y46_5.toInt < n.toInt := nleC rfl rfl c5
              refine lv_iload_n hx hb dX0_seek_52 rfl (lv_at hl 3 rfl) ?_
              refine lv_iload hx hb dX0_seek_53 (lv_at hl 5 rfl) ?_
              refine lv_ishr hx hb dX0_seek_55 ?_
              refine lv_iconst (v := 1) hx hb dX0_seek_56 (by decide) ?_
              refine lv_iand hx hb dX0_seek_57 ?_
              have f6 := andR (a := (us >>> (y46_5 &&& 31))) (m := 1) (M := 1) rfl (by decide)
              refine lv_if_ne (tgt := 96) hx hb dX0_seek_58 (by decide) (fun c7 => ?_) (fun c7 => ?_)
              · have dc7 : ((us >>> (y46_5 &&& 31)) &&& 1).toInt ≠ 0 := neC rfl (show (0 : Int32).toInt = 0 from rfl) c7
                obtain ⟨z8, ez8⟩ : ∃ y : Int32, y = y46_5 + 1 := ⟨_, rfl⟩
                have iz8 : z8.toInt = y46_5.toInt + 1 := by rw [ez8]; exact addC rfl rfl (by omega) (by omega)
                refine lv_iinc (v := z8) (lv' := [(5, .int z8), (0, .ref (a 28)), (1, .int fi), (2, .int n), (3, .int us), (4, .int ha)]) hx hb dX0_seek_96 hl (k := 5) rfl (by rw [ez8]; rfl) (by decide) rfl (fun ls hl => ?_)
                refine lv_goto (tgt := 46) hx hb dX0_seek_99 (by decide) ?_
                exact ih46 z8 ctr_46 cbe_46 har_46 _ _ _ r_ctr_46 (by omega) (by omega) (by omega) hP hD hS (lv_sub hl [1, 2, 3, 4, 5, 0] rfl)
              · have dc7 : ((us >>> (y46_5 &&& 31)) &&& 1).toInt = 0 := eqC rfl (show (0 : Int32).toInt = 0 from rfl) c7
                refine lv_aload_n hx hb dX0_seek_61 rfl (lv_at hl 0 rfl) ?_
                refine va_get (D := (dC, dI)) (ci := 0) (v := .ref (a 31)) (C := RX0) (T := TX0) (N := 6) hx hb hts inX0 hown hK hP 0 rfl rfl 3 (by decide) lf18 (fun _ h9 => h9) rfl dX0_seek_62 ?_
                refine lv_iload_n hx hb dX0_seek_65 rfl (lv_at hl 1 rfl) ?_
                refine lv_aload_n hx hb dX0_seek_66 rfl (lv_at hl 0 rfl) ?_
                refine va_get (D := (dC, dI)) (ci := 0) (v := .ref (a 30)) (C := RX0) (T := TX0) (N := 6) hx hb hts inX0 hown hK hP 0 rfl rfl 2 (by decide) lf15 (fun _ h9 => h9) rfl dX0_seek_67 ?_
                refine lv_iload hx hb dX0_seek_70 (lv_at hl 5 rfl) ?_
                have b9 : vp_in y46_5 8 := inC rfl (by omega) (by omega)
                refine va_iald hx hb hK hP 2 0 rfl rfl b9 dX0_seek_72 ?_
                have g10 : 0 ≤ (thi y46_5.toNatClampNeg).toInt ∧ (thi y46_5.toNatClampNeg).toInt ≤ 23 := rg_at r_thi b9
                refine lv_topi (fun x11 ex11 => ?_)
                have ix11 : x11.toInt = (thi y46_5.toNatClampNeg).toInt := by rw [ex11]
                have b12 : vp_in fi 6 := inC rfl (by omega) (by omega)
                have g13 : rg 6 (0) (23) (upd ctr_46 fi.toNatClampNeg x11) := rg_upd r_ctr_46 rfl (by omega) (by omega)
                refine va_iast hx hb hK hP hD hS 3 0 rfl rfl b12 dX0_seek_73 (fun H locs hP hD hS => ?_)
                obtain ⟨ctr_u14, ectr_u14⟩ : ∃ f : Nat → Int32, f = upd ctr_46 fi.toNatClampNeg x11 := ⟨_, rfl⟩
                have rctr_u14 : rg 6 (0) (23) ctr_u14 := by rw [ectr_u14]; exact g13
                have hP : va_P (dC, dI) vwCl (wCod cI cZ cQ a ali thi ctr_u14 cbe_46 har_46 mar tol) H := by rw [ectr_u14]; exact hP
                have hD : va_D A (wCod cI cZ cQ a ali thi ctr_u14 cbe_46 har_46 mar tol) := by rw [ectr_u14]; exact hD
                refine lv_aload_n hx hb dX0_seek_74 rfl (lv_at hl 0 rfl) ?_
                refine lv_iload_n hx hb dX0_seek_75 rfl (lv_at hl 1 rfl) ?_
                refine lv_iconst (v := 1) hx hb dX0_seek_76 (by decide) ?_
                refine lv_iadd hx hb dX0_seek_77 ?_
                have f15 : (fi + 1).toInt = (fi.toInt) + (1) := addC rfl (show (1 : Int32).toInt = 1 from rfl) (by omega) (by omega)
                refine lv_iload_n hx hb dX0_seek_78 rfl (lv_at hl 2 rfl) ?_
                refine lv_iload_n hx hb dX0_seek_79 rfl (lv_at hl 3 rfl) ?_
                refine lv_iconst (v := 1) hx hb dX0_seek_80 (by decide) ?_
                refine lv_iload hx hb dX0_seek_81 (lv_at hl 5 rfl) ?_
                refine lv_ishl hx hb dX0_seek_83 ?_
                have f16 : 1 ≤ ((1 : Int32) <<< (y46_5 &&& 31)).toInt ∧ ((1 : Int32) <<< (y46_5 &&& 31)).toInt ≤ 32 := shl1 rfl (by omega) 5 (by omega) (by decide)
                refine lv_ior hx hb dX0_seek_84 ?_
                refine lv_iload hx hb dX0_seek_85 (lv_at hl 4 rfl) ?_
                refine lv_aload_n hx hb dX0_seek_87 rfl (lv_at hl 0 rfl) ?_
                refine lv_iload_n hx hb dX0_seek_88 rfl (lv_at hl 1 rfl) ?_
                refine rdV (As := [.int fi]) (rest := [.int ha, .int (us ||| ((1 : Int32) <<< (y46_5 &&& 31))), .int n, .int (fi + 1), .ref (a 28)]) ⟨hx, hb, hml, hown, hts⟩ (k_X0_harmOf l dC dI cI cZ cQ a ali thi ctr_u14 cbe_46 har_46 mar tol fi r_thi rctr_u14 r_mar r_tol (by omega) (by omega)) (cwV 1 hts gX0_seek_X0_harmOf rfl rfl rfl (by decide +kernel) ⟨Nat.le_of_ble_eq_true rfl, Nat.le_of_ble_eq_true rfl⟩) hP hK hN [0, 1, 2, 3, 4, 5, 6, 7] rfl 0 0 rfl rfl rfl hl.1 rfl (Nat.le_of_ble_eq_true rfl) dX0_seek_89 ⟨Nat.le_of_ble_eq_true rfl, Nat.le_of_ble_eq_true rfl⟩ (fun r17 h18 => ?_)
                have h18 : True := h18
                refine lv_iadd hx hb dX0_seek_92 ?_
                refine wvV (As := [.int (fi + 1), .int n, .int (us ||| ((1 : Int32) <<< (y46_5 &&& 31))), .int (ha + r17)]) (rest := []) (wr := []) (w2 := (fun u : US => (wCod cI cZ cQ a ali thi (u.1 0) (u.1 1) (u.1 2 0) mar tol))) ⟨hx, hb, hml, hown, hts⟩ (k_X0_seek_3 l dC dI cI cZ cQ a ali thi ctr_u14 cbe_46 har_46 mar tol _ (fi + 1) n (us ||| ((1 : Int32) <<< (y46_5 &&& 31))) (ha + r17) r_thi rctr_u14 r_mar r_tol (by omega) (by omega) (by omega) (by omega)) (cwV 4 hts gX0_seek_X0_seek rfl rfl rfl (by decide +kernel) ⟨Nat.le_of_ble_eq_true rfl, Nat.le_of_ble_eq_true rfl⟩) hP hD hS hA hK hN [0, 1, 2, 3, 4, 5, 6, 7] [] [0, 1, 2, 3, 4, 5, 6, 7] rfl rfl (by decide) (by decide) (by decide) (fun _ => rfl) (by decide) 0 0 rfl rfl rfl hl.1 rfl (Nat.le_of_ble_eq_true rfl) dX0_seek_93 ⟨Nat.le_of_ble_eq_true rfl, Nat.le_of_ble_eq_true rfl⟩ (fun u21 H locs h20 hP hD hS => ?_)
                obtain ⟨ctr_c22, ectr_c22⟩ : ∃ f : Nat → Int32, f = (u21.1 0) := ⟨_, rfl⟩
                obtain ⟨cbe_c23, ecbe_c23⟩ : ∃ f : Nat → Int32, f = (u21.1 1) := ⟨_, rfl⟩
                obtain ⟨har_c24, ehar_c24⟩ : ∃ f : Int32, f = (u21.1 2 0) := ⟨_, rfl⟩
                have hP : va_P (dC, dI) vwCl (wCod cI cZ cQ a ali thi ctr_c22 cbe_c23 har_c24 mar tol) H := by rw [ectr_c22, ecbe_c23, ehar_c24]; exact hP
                have hD : va_D A (wCod cI cZ cQ a ali thi ctr_c22 cbe_c23 har_c24 mar tol) := by rw [ectr_c22, ecbe_c23, ehar_c24]; exact hD
                have h20 : (rg 6 (0) (23) ctr_c22) := by (try rw [ectr_c22]); (try rw [ecbe_c23]); (try rw [ehar_c24]); exact h20
                have h20_0 := h20
                obtain ⟨z25, ez25⟩ : ∃ y : Int32, y = y46_5 + 1 := ⟨_, rfl⟩
                have iz25 : z25.toInt = y46_5.toInt + 1 := by rw [ez25]; exact addC rfl rfl (by omega) (by omega)
                refine lv_iinc (v := z25) (lv' := [(5, .int z25), (0, .ref (a 28)), (1, .int fi), (2, .int n), (3, .int us), (4, .int ha)]) hx hb dX0_seek_96 hl (k := 5) rfl (by rw [ez25]; rfl) (by decide) rfl (fun ls hl => ?_)
                refine lv_goto (tgt := 46) hx hb dX0_seek_99 (by decide) ?_
                exact ih46 z25 ctr_c22 cbe_c23 har_c24 _ _ _ h20_0 (by omega) (by omega) (by omega) hP hD hS (lv_sub hl [1, 2, 3, 4, 5, 0] rfl)
        have kc26 : (0 : Int32).toInt = 0 := rfl
        exact L46 _ 0 ctr cbe har _ _ _ r_ctr (by omega) (by omega) (Nat.lt_succ_self _) hP hD hS (lv_sub hl [1, 2, 3, 4, 5, 0] rfl)
      · have dc4 : 6 ≤ fi.toInt := nltC rfl (show (6 : Int32).toInt = 6 from rfl) c4
        exfalso
        omega
  · have dc1 : har.toInt ≤ ha.toInt := nltC rfl rfl c1
    exact W.vret hx hb hr (fun t ht hW => ⟨⟨(uS [ctr, cbe, (fun _ => har)] 0 (fun _ => 0)), rfl, r_ctr, by rw [ht]; exact hP, hD⟩, hS.F ht⟩) hS.2.2 dX0_seek_9
