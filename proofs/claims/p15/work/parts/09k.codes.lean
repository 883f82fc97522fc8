set_option maxHeartbeats 4000000 in
set_option maxRecDepth 100000 in
theorem k_X0_findBest (l : Launch) (dC : Nat → ClassId) (dI : Nat → Nat → Nat) (cI cZ cQ : ClassId) (a : Nat → Nat) (ali : Nat → Int32) (thi : Nat → Int32) (ctr : Nat → Int32) (cbe : Nat → Int32) (har : Int32) (mar : Nat → Int32) (tol : Nat → Int32) (sz : Nat) (n : Int32) (r_thi : rg 8 (0) (23) thi) (r_ctr : rg 6 (0) (23) ctr) (r_mar : rg 24 (0) (255) mar) (r_tol : rg 8 (0) (23) tol) (q0 : 2 ≤ n.toInt) (q1 : n.toInt ≤ 6) : KV l yX0_findBest wsX0_findBest { frames := 10, cells := 0, slots := 0, locals := 240 } (dC, dI) (TY cI cZ cQ) (wCod cI cZ cQ a ali thi ctr cbe har mar tol) [.ref (a 28), .ref (a 42), .int n] sz 0 0 (fun (u : US) => (rg 8 (0) (23) (u.1 0)) ∧ (rg 6 (0) (23) (u.1 1))) (fun u : US => (wCod cI cZ cQ a ali (u.1 0) (u.1 1) (u.1 2) (u.1 3 0) mar tol)) := by
  refine Met.ofW (cc := cX0_findBest) (maxL := 3) (ret := none) (by decide) rfl ?_
  intro p e s m args below meth c s₁ B hml hv
  obtain ⟨rfl, hsz, hP, hK, hD0, hN⟩ := hv
  have hx := B.exec
  have hb := B.bytes
  have hr := B.returns
  have hts := atoms_spec (ws := wsX0_findBest) B.pre
  have hown : s.vm.findClass RX0 = some m.cls := findClass_of_methodNamed B.named
  have hlocks := B.notSynchronized
  have lf15 := hts (.fieldLink RX0 15 "PalaceOfRooms$Codes" "things" "[I") (List.mem_cons_of_mem _ (List.mem_append_left _ (List.mem_append_left _ (List.mem_append_left _ (List.mem_of_getElem? (i := 0) rfl)))))
  have inX0 : ∀ w ∈ wsX00, w ∈ wsX0_findBest := fun w h => List.mem_cons_of_mem _ (List.mem_append_left _ (List.mem_append_right _ h))
  have lf34 := hts (.fieldLink RX0 34 "PalaceOfRooms$Codes" "bestHarm" "I") (List.mem_cons_of_mem _ (List.mem_append_left _ (List.mem_append_left _ (List.mem_append_left _ (List.mem_of_getElem? (i := 5) rfl)))))
  subst hsz
  have hD := hD0.self (sz := s.heap.size)
  generalize hAe : va_A (wCod cI cZ cQ a ali thi ctr cbe har mar tol) s.heap.size = A at hD ⊢
  have hA : ∀ q : Nat, s.heap.size ≤ q → A q := fun q h => by rw [← hAe]; exact Or.inr h
  have hS : va_S A s.heap s.heap [] := va_S.rf
  have hl := lv_entry ([.ref (a 28), .ref (a 42), .int n]) (n := 3) (Nat.le_of_ble_eq_true rfl)
  rw [lg_entry_eq]
  generalize (lg_sl ([.ref (a 28), .ref (a 42), .int n]) ++ List.replicate (3 - (lg_sl ([.ref (a 28), .ref (a 42), .int n])).length) Slot.unset).toArray = ls at hl ⊢
  have hl : lv_has ls 3 [(0, .ref (a 28)), (1, .ref (a 42)), (2, .int n)] := hl
  refine lv_aload_n hx hb dX0_findBest_0 rfl (lv_at hl 1 rfl) ?_
  refine lv_iconst (v := 0) hx hb dX0_findBest_1 (by decide) ?_
  refine lv_aload_n hx hb dX0_findBest_2 rfl (lv_at hl 0 rfl) ?_
  refine va_get (D := (dC, dI)) (ci := 0) (v := .ref (a 30)) (C := RX0) (T := TX0) (N := 6) hx hb hts inX0 hown hK hP 0 rfl rfl 2 (by decide) lf15 (fun _ h9 => h9) rfl dX0_findBest_3 ?_
  refine lv_iconst (v := 0) hx hb dX0_findBest_6 (by decide) ?_
  refine lv_bipush (v := 8) hx hb dX0_findBest_7 (by decide) ?_
  refine va_copyi (ty := .int) (n := 8) hx hb (by rw [hml]; exact hl.1.symm) hown (hts (.methodLink RX0 28 arraycopyName) (List.mem_cons_of_mem _ (List.mem_append_left _ (List.mem_append_left _ (List.mem_append_left _ (List.mem_of_getElem? (i := 1) rfl)))))) (hts (.native arraycopyName) (List.mem_cons_of_mem _ (List.mem_append_left _ (List.mem_append_left _ (List.mem_append_left _ (List.mem_of_getElem? (i := 2) rfl)))))) (hts (.static arraycopyName) (List.mem_cons_of_mem _ (List.mem_append_left _ (List.mem_append_left _ (List.mem_append_left _ (List.mem_of_getElem? (i := 3) rfl)))))) (hts (.initialized "java/lang/System") (List.mem_cons_of_mem _ (List.mem_append_left _ (List.mem_append_left _ (List.mem_append_left _ (List.mem_of_getElem? (i := 4) rfl)))))) hK hP hD hS 7 2 0 0 rfl rfl rfl rfl rfl (by decide) (by decide) (by decide) (by decide) (by decide) (fun _ _ => rfl) (Nat.le_of_ble_eq_true rfl) (Nat.le_of_ble_eq_true rfl) dX0_findBest_9 (fun H locs hP hD hS => ?_)
  have g1 : rg 8 (0) (23) (va_cpy tol thi 0 0 8) := rg_cpy r_tol r_thi (by decide)
  obtain ⟨thi_u2, ethi_u2⟩ : ∃ f : Nat → Int32, f = va_cpy tol thi 0 0 8 := ⟨_, rfl⟩
  have rthi_u2 : rg 8 (0) (23) thi_u2 := by rw [ethi_u2]; exact g1
  have hP : va_P (dC, dI) vwCl (wCod cI cZ cQ a ali thi_u2 ctr cbe har mar tol) H := by rw [ethi_u2]; exact hP
  have hD : va_D A (wCod cI cZ cQ a ali thi_u2 ctr cbe har mar tol) := by rw [ethi_u2]; exact hD
  refine lv_aload_n hx hb dX0_findBest_12 rfl (lv_at hl 0 rfl) ?_
  refine lv_sipush (v := 2592) hx hb dX0_findBest_13 (by decide) ?_
  refine va_put (D := (dC, dI)) (ci := 0) (v := .int 2592) (ty := .int) (C := RX0) (T := TX0) (N := 6) hx hb hts inX0 tyX0 tyX0_ok nmX0 hown hK hP hD hS 0 rfl rfl 5 (by decide) lf34 (fun _ h9 => h9) rfl (by decide +kernel) rfl rfl (Nat.le_of_ble_eq_true rfl) dX0_findBest_16 (fun H locs hP hD hS => ?_)
  have hP : va_P (dC, dI) vwCl (wCod cI cZ cQ a ali thi_u2 ctr cbe 2592 mar tol) H := hP
  have hD : va_D A (wCod cI cZ cQ a ali thi_u2 ctr cbe 2592 mar tol) := hD
  refine lv_aload_n hx hb dX0_findBest_19 rfl (lv_at hl 0 rfl) ?_
  refine lv_iconst (v := 0) hx hb dX0_findBest_20 (by decide) ?_
  refine lv_iload_n hx hb dX0_findBest_21 rfl (lv_at hl 2 rfl) ?_
  refine lv_iconst (v := 0) hx hb dX0_findBest_22 (by decide) ?_
  refine lv_iconst (v := 0) hx hb dX0_findBest_23 (by decide) ?_
  have kc0 : (0 : Int32).toInt = 0 := rfl
  refine wvV (As := [.int 0, .int n, .int 0, .int 0]) (rest := []) (wr := []) (w2 := (fun u : US => (wCod cI cZ cQ a ali thi_u2 (u.1 0) (u.1 1) (u.1 2 0) mar tol))) ⟨hx, hb, hml, hown, hts⟩ (k_X0_seek_6 l dC dI cI cZ cQ a ali thi_u2 ctr cbe 2592 mar tol _ (0 : Int32) n (0 : Int32) (0 : Int32) rthi_u2 r_ctr r_mar r_tol (by omega) (by omega) (by omega) (by omega)) (cwV 4 hts gX0_findBest_X0_seek rfl rfl rfl (by decide +kernel) ⟨Nat.le_of_ble_eq_true rfl, Nat.le_of_ble_eq_true rfl⟩) hP hD hS hA hK hN [0, 1, 2, 3, 4, 5, 6, 7] [] [0, 1, 2, 3, 4, 5, 6, 7] rfl rfl (by decide) (by decide) (by decide) (fun _ => rfl) (by decide) 0 0 rfl rfl rfl hl.1 rfl (Nat.le_of_ble_eq_true rfl) dX0_findBest_24 ⟨Nat.le_of_ble_eq_true rfl, Nat.le_of_ble_eq_true rfl⟩ (fun u5 H locs h4 hP hD hS => ?_)
  obtain ⟨ctr_c6, ectr_c6⟩ : ∃ f : Nat → Int32, f = (u5.1 0) := ⟨_, rfl⟩
  obtain ⟨cbe_c7, ecbe_c7⟩ : ∃ f : Nat → Int32, f = (u5.1 1) := ⟨_, rfl⟩
  obtain ⟨har_c8, ehar_c8⟩ : ∃ f : Int32, f = (u5.1 2 0) := ⟨_, rfl⟩
  have hP : va_P (dC, dI) vwCl (wCod cI cZ cQ a ali thi_u2 ctr_c6 cbe_c7 har_c8 mar tol) H := by rw [ectr_c6, ecbe_c7, ehar_c8]; exact hP
  have hD : va_D A (wCod cI cZ cQ a ali thi_u2 ctr_c6 cbe_c7 har_c8 mar tol) := by rw [ectr_c6, ecbe_c7, ehar_c8]; exact hD
  have h4 : (rg 6 (0) (23) ctr_c6) := by (try rw [ectr_c6]); (try rw [ecbe_c7]); (try rw [ehar_c8]); exact h4
  have h4_0 := h4
  exact W.vret hx hb hr (fun t ht hW => ⟨⟨(uS [thi_u2, ctr_c6, cbe_c7, (fun _ => har_c8)] 0 (fun _ => 0)), rfl, ⟨rthi_u2, h4_0⟩, by rw [ht]; exact hP, hD⟩, hS.F ht⟩) hS.2.2 dX0_findBest_27

