set_option maxHeartbeats 4000000 in
set_option maxRecDepth 100000 in
theorem k_X6_layOut (l : Launch) (dC : Nat → ClassId) (dI : Nat → Nat → Nat) (cI cZ cQ : ClassId) (a : Nat → Nat) (sor : Nat → Int32) (ord : Nat → Int32) (sha : Nat → Int32) (toc : Nat → Int32) (mar : Nat → Int32) (tol : Nat → Int32) (sz : Nat) (n : Int32) (r_sor : rg 8 (0) (23) sor) (r_mar : rg 24 (0) (255) mar) (r_tol : rg 8 (0) (23) tol) (q0 : 1 ≤ n.toInt) (q1 : n.toInt ≤ 8) : KW l yX6_layOut wsX6_layOut { frames := 4, cells := 0, slots := 0, locals := 96 } (dC, dI) (TY cI cZ cQ) (wSpe cI cZ cQ a sor ord sha toc mar tol) [.ref (a 23), .ref (a 42), .int n] sz 0 0 (fun (r : Int32) (u : US) => (rg 8 (0) (23) (u.1 0))) (fun u : US => (wSpe cI cZ cQ a (u.1 0) (u.1 1) (u.1 2) (u.1 3) mar tol)) := by
  refine Met.ofW (cc := cX6_layOut) (maxL := 5) (ret := (some .int)) (by decide) rfl ?_
  intro p e s m args below meth c s₁ B hml hv
  obtain ⟨rfl, hsz, hP, hK, hD0, hN⟩ := hv
  have hx := B.exec
  have hb := B.bytes
  have hr := B.returns
  have hts := atoms_spec (ws := wsX6_layOut) B.pre
  have hown : s.vm.findClass RX6 = some m.cls := findClass_of_methodNamed B.named
  have hlocks := B.notSynchronized
  subst hsz
  have hD := hD0.self (sz := s.heap.size)
  generalize hAe : va_A (wSpe cI cZ cQ a sor ord sha toc mar tol) s.heap.size = A at hD ⊢
  have hA : ∀ q : Nat, s.heap.size ≤ q → A q := fun q h => by rw [← hAe]; exact Or.inr h
  have hS : va_S A s.heap s.heap [] := va_S.rf
  have hl := lv_entry ([.ref (a 23), .ref (a 42), .int n]) (n := 5) (Nat.le_of_ble_eq_true rfl)
  rw [lg_entry_eq]
  generalize (lg_sl ([.ref (a 23), .ref (a 42), .int n]) ++ List.replicate (5 - (lg_sl ([.ref (a 23), .ref (a 42), .int n])).length) Slot.unset).toArray = ls at hl ⊢
  have hl : lv_has ls 5 [(0, .ref (a 23)), (1, .ref (a 42)), (2, .int n)] := hl
  refine lv_aload_n hx hb dX6_layOut_0 rfl (lv_at hl 0 rfl) ?_
  refine lv_aload_n hx hb dX6_layOut_1 rfl (lv_at hl 1 rfl) ?_
  refine lv_iload_n hx hb dX6_layOut_2 rfl (lv_at hl 2 rfl) ?_
  refine wvV (As := [.ref (a 42), .int n]) (rest := []) (wr := []) (w2 := (fun u : US => (wSpe cI cZ cQ a (u.1 0) ord sha toc mar tol))) ⟨hx, hb, hml, hown, hts⟩ (k_X6_sort l dC dI cI cZ cQ a sor ord sha toc mar tol _ n r_sor r_mar r_tol (by omega) (by omega)) (cwV 2 hts gX6_layOut_X6_sort rfl rfl rfl (by decide +kernel) ⟨Nat.le_of_ble_eq_true rfl, Nat.le_of_ble_eq_true rfl⟩) hP hD hS hA hK hN [0, 1, 2, 3, 4, 5, 6, 7] [] [0, 1, 2, 3, 4, 5, 6, 7] rfl rfl (by decide) (by decide) (by decide) (fun _ => rfl) (by decide) 0 6 rfl rfl rfl hl.1 rfl (Nat.le_of_ble_eq_true rfl) dX6_layOut_3 ⟨Nat.le_of_ble_eq_true rfl, Nat.le_of_ble_eq_true rfl⟩ (fun u3 H locs h2 hP hD hS => ?_)
  obtain ⟨sor_c4, esor_c4⟩ : ∃ f : Nat → Int32, f = (u3.1 0) := ⟨_, rfl⟩
  have hP : va_P (dC, dI) vwCl (wSpe cI cZ cQ a sor_c4 ord sha toc mar tol) H := by rw [esor_c4]; exact hP
  have hD : va_D A (wSpe cI cZ cQ a sor_c4 ord sha toc mar tol) := by rw [esor_c4]; exact hD
  have h2 : (rg 8 (0) (23) sor_c4) := by (try rw [esor_c4]); exact h2
  have h2_0 := h2
  refine lv_aload_n hx hb dX6_layOut_6 rfl (lv_at hl 0 rfl) ?_
  refine lv_iload_n hx hb dX6_layOut_7 rfl (lv_at hl 2 rfl) ?_
  refine wvV (As := [.int n]) (rest := []) (wr := []) (w2 := (fun u : US => (wSpe cI cZ cQ a sor_c4 ord (u.1 0) toc mar tol))) ⟨hx, hb, hml, hown, hts⟩ (k_X6_reckonShared l dC dI cI cZ cQ a sor_c4 ord sha toc mar tol _ n h2_0 r_mar r_tol (by omega) (by omega)) (cwV 1 hts gX6_layOut_X6_reckonShared rfl rfl rfl (by decide +kernel) ⟨Nat.le_of_ble_eq_true rfl, Nat.le_of_ble_eq_true rfl⟩) hP hD hS hA hK hN [0, 1, 2, 3, 4, 5, 6, 7] [] [0, 1, 2, 3, 4, 5, 6, 7] rfl rfl (by decide) (by decide) (by decide) (fun _ => rfl) (by decide) 0 6 rfl rfl rfl hl.1 rfl (Nat.le_of_ble_eq_true rfl) dX6_layOut_8 ⟨Nat.le_of_ble_eq_true rfl, Nat.le_of_ble_eq_true rfl⟩ (fun u7 H locs h6 hP hD hS => ?_)
  obtain ⟨sha_c8, esha_c8⟩ : ∃ f : Nat → Int32, f = (u7.1 0) := ⟨_, rfl⟩
  have hP : va_P (dC, dI) vwCl (wSpe cI cZ cQ a sor_c4 ord sha_c8 toc mar tol) H := by rw [esha_c8]; exact hP
  have hD : va_D A (wSpe cI cZ cQ a sor_c4 ord sha_c8 toc mar tol) := by rw [esha_c8]; exact hD
  have h6 : True := by (try rw [esha_c8]); exact h6
  refine lv_aload_n hx hb dX6_layOut_11 rfl (lv_at hl 0 rfl) ?_
  refine lv_iload_n hx hb dX6_layOut_12 rfl (lv_at hl 2 rfl) ?_
  refine wvV (As := [.int n]) (rest := []) (wr := []) (w2 := (fun u : US => (wSpe cI cZ cQ a sor_c4 ord sha_c8 (u.1 0) mar tol))) ⟨hx, hb, hml, hown, hts⟩ (k_X6_reckonToCome l dC dI cI cZ cQ a sor_c4 ord sha_c8 toc mar tol _ n h2_0 r_mar r_tol (by omega) (by omega)) (cwV 1 hts gX6_layOut_X6_reckonToCome rfl rfl rfl (by decide +kernel) ⟨Nat.le_of_ble_eq_true rfl, Nat.le_of_ble_eq_true rfl⟩) hP hD hS hA hK hN [0, 1, 2, 3, 4, 5, 6, 7] [] [0, 1, 2, 3, 4, 5, 6, 7] rfl rfl (by decide) (by decide) (by decide) (fun _ => rfl) (by decide) 0 6 rfl rfl rfl hl.1 rfl (Nat.le_of_ble_eq_true rfl) dX6_layOut_13 ⟨Nat.le_of_ble_eq_true rfl, Nat.le_of_ble_eq_true rfl⟩ (fun u11 H locs h10 hP hD hS => ?_)
  obtain ⟨toc_c12, etoc_c12⟩ : ∃ f : Nat → Int32, f = (u11.1 0) := ⟨_, rfl⟩
  have hP : va_P (dC, dI) vwCl (wSpe cI cZ cQ a sor_c4 ord sha_c8 toc_c12 mar tol) H := by rw [etoc_c12]; exact hP
  have hD : va_D A (wSpe cI cZ cQ a sor_c4 ord sha_c8 toc_c12 mar tol) := by rw [etoc_c12]; exact hD
  have h10 : True := by (try rw [etoc_c12]); exact h10
  refine lv_iconst (v := 0) hx hb dX6_layOut_16 (by decide) ?_
  refine lv_istore_n (lv' := [(3, .int 0), (0, .ref (a 23)), (1, .ref (a 42)), (2, .int n)]) hx hb dX6_layOut_17 rfl hl (by decide) rfl (fun ls hl => ?_)
  refine lv_iconst (v := 1) hx hb dX6_layOut_18 (by decide) ?_
  refine lv_istore (lv' := [(4, .int 1), (3, .int 0), (0, .ref (a 23)), (1, .ref (a 42)), (2, .int n)]) hx hb dX6_layOut_19 hl (by decide) rfl (fun ls hl => ?_)
  have L21 : ∀ (nn : Nat) (y21_3 : Int32) (y21_4 : Int32) (H : Heap) (locs : List Loc) (ls : Array Slot), (1 ≤ (y21_4.toInt)) → ((y21_4.toInt) ≤ 8) → (0 ≤ (y21_3.toInt)) → ((y21_3.toInt) ≤ 7) → (8 - (y21_4.toInt)).toNat < nn → va_P (dC, dI) vwCl (wSpe cI cZ cQ a sor_c4 ord sha_c8 toc_c12 mar tol) H → va_D A (wSpe cI cZ cQ a sor_c4 ord sha_c8 toc_c12 mar tol) → va_S A s.heap H locs → lv_has ls 5 [(0, .ref (a 23)), (2, .int n), (3, .int y21_3), (4, .int y21_4)] → W p l e (headSpec wsX6_layOut { frames := 4, cells := 0, slots := 0, locals := 96 }).room s m ([.ref (a 23), .ref (a 42), .int n] : List Value).toArray below meth c H locs 0 0 (MQ below (va_Qi (fun (r : Int32) (u : US) => (rg 8 (0) (23) (u.1 0))) (Bw (dC, dI) A (fun u : US => (wSpe cI cZ cQ a (u.1 0) (u.1 1) (u.1 2) (u.1 3) mar tol))) A) ([.ref (a 23), .ref (a 42), .int n] : List Value).toArray s 0 0 A) (F0 m 21 ls []) := by
    intro nn
    induction nn with
    | zero =>
      intro y21_3 y21_4 H locs ls i21_0 i21_1 i21_2 i21_3 hm
      exact absurd hm (Nat.not_lt_zero _)
    | succ nn ih21 =>
      intro y21_3 y21_4 H locs ls i21_0 i21_1 i21_2 i21_3 hm hP hD hS hl
      refine lv_iload hx hb dX6_layOut_21 (lv_at hl 3 rfl) ?_
      refine lv_iload_n hx hb dX6_layOut_23 rfl (lv_at hl 1 rfl) ?_
      refine lv_icmp_ge (tgt := 57) hx hb dX6_layOut_24 (by decide) (fun c13 => ?_) (fun c13 => ?_)
      · have dc13 : n.toInt ≤ y21_4.toInt := leC rfl rfl c13
        refine lv_aload_n hx hb dX6_layOut_57 rfl (lv_at hl 0 rfl) ?_
        refine lv_iconst (v := 1) hx hb dX6_layOut_58 (by decide) ?_
        refine lv_iload_n hx hb dX6_layOut_59 rfl (lv_at hl 2 rfl) ?_
        refine lv_ishl hx hb dX6_layOut_60 ?_
        have f14 : 1 ≤ ((1 : Int32) <<< (y21_3 &&& 31)).toInt ∧ ((1 : Int32) <<< (y21_3 &&& 31)).toInt ≤ 128 := shl1 rfl (by omega) 7 (by omega) (by decide)
        refine lv_iload_n hx hb dX6_layOut_61 rfl (lv_at hl 2 rfl) ?_
        refine rdV (As := [.int ((1 : Int32) <<< (y21_3 &&& 31)), .int y21_3]) (rest := []) ⟨hx, hb, hml, hown, hts⟩ (k_X6_toComeAt l dC dI cI cZ cQ a sor_c4 ord sha_c8 toc_c12 mar tol ((1 : Int32) <<< (y21_3 &&& 31)) y21_3 h2_0 r_mar r_tol (by omega) (by omega) (by omega) (by omega)) (cwV 2 hts gX6_layOut_X6_toComeAt rfl rfl rfl (by decide +kernel) ⟨Nat.le_of_ble_eq_true rfl, Nat.le_of_ble_eq_true rfl⟩) hP hK hN [0, 1, 2, 3, 4, 5, 6, 7] rfl 0 6 rfl rfl rfl hl.1 rfl (Nat.le_of_ble_eq_true rfl) dX6_layOut_62 ⟨Nat.le_of_ble_eq_true rfl, Nat.le_of_ble_eq_true rfl⟩ (fun r15 h16 => ?_)
        have h16 : True := h16
        refine lv_istore (lv' := [(4, .int r15), (0, .ref (a 23)), (2, .int n), (3, .int y21_3)]) hx hb dX6_layOut_65 hl (by decide) rfl (fun ls hl => ?_)
        refine lv_aload_n hx hb dX6_layOut_67 rfl (lv_at hl 1 rfl) ?_
        refine lv_iload_n hx hb dX6_layOut_68 rfl (lv_at hl 3 rfl) ?_
        refine lv_iload_n hx hb dX6_layOut_69 rfl (lv_at hl 2 rfl) ?_
        refine wvV (As := [.int y21_3, .int n]) (rest := []) (wr := []) (w2 := (fun u : US => (wSpe cI cZ cQ a sor_c4 (u.1 0) sha_c8 toc_c12 mar tol))) ⟨hx, hb, hml, hown, hts⟩ (k_X6_follow l dC dI cI cZ cQ a sor_c4 ord sha_c8 toc_c12 mar tol _ y21_3 n h2_0 r_mar r_tol (by omega) (by omega) (by omega) (by omega)) (cwV 2 hts gX6_layOut_X6_follow rfl rfl rfl (by decide +kernel) ⟨Nat.le_of_ble_eq_true rfl, Nat.le_of_ble_eq_true rfl⟩) hP hD hS hA hK hN [0, 1, 2, 3, 4, 5, 6, 7] [] [0, 1, 2, 3, 4, 5, 6, 7] rfl rfl (by decide) (by decide) (by decide) (fun _ => rfl) (by decide) 0 6 rfl rfl rfl hl.1 rfl (Nat.le_of_ble_eq_true rfl) dX6_layOut_70 ⟨Nat.le_of_ble_eq_true rfl, Nat.le_of_ble_eq_true rfl⟩ (fun u19 H locs h18 hP hD hS => ?_)
        obtain ⟨ord_c20, eord_c20⟩ : ∃ f : Nat → Int32, f = (u19.1 0) := ⟨_, rfl⟩
        have hP : va_P (dC, dI) vwCl (wSpe cI cZ cQ a sor_c4 ord_c20 sha_c8 toc_c12 mar tol) H := by rw [eord_c20]; exact hP
        have hD : va_D A (wSpe cI cZ cQ a sor_c4 ord_c20 sha_c8 toc_c12 mar tol) := by rw [eord_c20]; exact hD
        have h18 : True := by (try rw [eord_c20]); exact h18
        refine lv_iload hx hb dX6_layOut_73 (lv_at hl 0 rfl) ?_
        exact W.iret (v := r15) hx hb hr (fun t ht hW => ⟨⟨r15, (uS [sor_c4, ord_c20, sha_c8, toc_c12] 0 (fun _ => 0)), rfl, h2_0, by rw [ht]; exact hP, hD⟩, hS.F ht⟩) hS.2.2 dX6_layOut_75
      · have dc13 : y21_4.toInt < n.toInt := nleC rfl rfl c13
        refine lv_aload_n hx hb dX6_layOut_27 rfl (lv_at hl 0 rfl) ?_
        refine lv_iconst (v := 1) hx hb dX6_layOut_28 (by decide) ?_
        refine lv_iload hx hb dX6_layOut_29 (lv_at hl 3 rfl) ?_
        refine lv_ishl hx hb dX6_layOut_31 ?_
        have f21 : 1 ≤ ((1 : Int32) <<< (y21_4 &&& 31)).toInt ∧ ((1 : Int32) <<< (y21_4 &&& 31)).toInt ≤ 128 := shl1 rfl (by omega) 7 (by omega) (by decide)
        refine lv_iload hx hb dX6_layOut_32 (lv_at hl 3 rfl) ?_
        refine rdV (As := [.int ((1 : Int32) <<< (y21_4 &&& 31)), .int y21_4]) (rest := []) ⟨hx, hb, hml, hown, hts⟩ (k_X6_toComeAt l dC dI cI cZ cQ a sor_c4 ord sha_c8 toc_c12 mar tol ((1 : Int32) <<< (y21_4 &&& 31)) y21_4 h2_0 r_mar r_tol (by omega) (by omega) (by omega) (by omega)) (cwV 2 hts gX6_layOut_X6_toComeAt rfl rfl rfl (by decide +kernel) ⟨Nat.le_of_ble_eq_true rfl, Nat.le_of_ble_eq_true rfl⟩) hP hK hN [0, 1, 2, 3, 4, 5, 6, 7] rfl 0 6 rfl rfl rfl hl.1 rfl (Nat.le_of_ble_eq_true rfl) dX6_layOut_34 ⟨Nat.le_of_ble_eq_true rfl, Nat.le_of_ble_eq_true rfl⟩ (fun r22 h23 => ?_)
        have h23 : True := h23
        refine lv_aload_n hx hb dX6_layOut_37 rfl (lv_at hl 0 rfl) ?_
        refine lv_iconst (v := 1) hx hb dX6_layOut_38 (by decide) ?_
        refine lv_iload_n hx hb dX6_layOut_39 rfl (lv_at hl 2 rfl) ?_
        refine lv_ishl hx hb dX6_layOut_40 ?_
        have f24 : 1 ≤ ((1 : Int32) <<< (y21_3 &&& 31)).toInt ∧ ((1 : Int32) <<< (y21_3 &&& 31)).toInt ≤ 128 := shl1 rfl (by omega) 7 (by omega) (by decide)
        refine lv_iload_n hx hb dX6_layOut_41 rfl (lv_at hl 2 rfl) ?_
        refine rdV (As := [.int ((1 : Int32) <<< (y21_3 &&& 31)), .int y21_3]) (rest := [.int r22]) ⟨hx, hb, hml, hown, hts⟩ (k_X6_toComeAt l dC dI cI cZ cQ a sor_c4 ord sha_c8 toc_c12 mar tol ((1 : Int32) <<< (y21_3 &&& 31)) y21_3 h2_0 r_mar r_tol (by omega) (by omega) (by omega) (by omega)) (cwV 2 hts gX6_layOut_X6_toComeAt rfl rfl rfl (by decide +kernel) ⟨Nat.le_of_ble_eq_true rfl, Nat.le_of_ble_eq_true rfl⟩) hP hK hN [0, 1, 2, 3, 4, 5, 6, 7] rfl 0 6 rfl rfl rfl hl.1 rfl (Nat.le_of_ble_eq_true rfl) dX6_layOut_42 ⟨Nat.le_of_ble_eq_true rfl, Nat.le_of_ble_eq_true rfl⟩ (fun r25 h26 => ?_)
        have h26 : True := h26
        refine lv_icmp_ge (tgt := 51) hx hb dX6_layOut_45 (by decide) (fun c27 => ?_) (fun c27 => ?_)
        · have dc27 : r25.toInt ≤ r22.toInt := leC rfl rfl c27
          obtain ⟨z28, ez28⟩ : ∃ y : Int32, y = y21_4 + 1 := ⟨_, rfl⟩
          have iz28 : z28.toInt = y21_4.toInt + 1 := by rw [ez28]; exact addC rfl rfl (by omega) (by omega)
          refine lv_iinc (v := z28) (lv' := [(4, .int z28), (0, .ref (a 23)), (2, .int n), (3, .int y21_3)]) hx hb dX6_layOut_51 hl (k := 3) rfl (by rw [ez28]; rfl) (by decide) rfl (fun ls hl => ?_)
          refine lv_goto (tgt := 21) hx hb dX6_layOut_54 (by decide) ?_
          exact ih21 y21_3 z28 _ _ _ (by omega) (by omega) (by omega) (by omega) (by omega) hP hD hS (lv_sub hl [1, 2, 3, 0] rfl)
        · have dc27 : r22.toInt < r25.toInt := nleC rfl rfl c27
          refine lv_iload hx hb dX6_layOut_48 (lv_at hl 3 rfl) ?_
          refine lv_istore_n (lv' := [(3, .int y21_4), (0, .ref (a 23)), (2, .int n), (4, .int y21_4)]) hx hb dX6_layOut_50 rfl hl (by decide) rfl (fun ls hl => ?_)
          obtain ⟨z29, ez29⟩ : ∃ y : Int32, y = y21_4 + 1 := ⟨_, rfl⟩
          have iz29 : z29.toInt = y21_4.toInt + 1 := by rw [ez29]; exact addC rfl rfl (by omega) (by omega)
          refine lv_iinc (v := z29) (lv' := [(4, .int z29), (3, .int y21_4), (0, .ref (a 23)), (2, .int n)]) hx hb dX6_layOut_51 hl (k := 3) rfl (by rw [ez29]; rfl) (by decide) rfl (fun ls hl => ?_)
          refine lv_goto (tgt := 21) hx hb dX6_layOut_54 (by decide) ?_
          exact ih21 y21_4 z29 _ _ _ (by omega) (by omega) (by omega) (by omega) (by omega) hP hD hS (lv_sub hl [2, 3, 1, 0] rfl)
  have kc30 : (0 : Int32).toInt = 0 := rfl
  have kc31 : (1 : Int32).toInt = 1 := rfl
  exact L21 _ 0 1 _ _ _ (by omega) (by omega) (by omega) (by omega) (Nat.lt_succ_self _) hP hD hS (lv_sub hl [2, 4, 1, 0] rfl)

