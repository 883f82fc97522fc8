set_option maxHeartbeats 4000000 in
set_option maxRecDepth 100000 in
theorem k_X0_exchangeAlike (l : Launch) (dC : Nat → ClassId) (dI : Nat → Nat → Nat) (cI cZ cQ : ClassId) (a : Nat → Nat) (ali : Nat → Int32) (thi : Nat → Int32) (ctr : Nat → Int32) (cbe : Nat → Int32) (har : Int32) (mar : Nat → Int32) (tol : Nat → Int32) (sz : Nat) (fa : Int32) (fb : Int32) (v : Int32) (r_thi : rg 8 (0) (23) thi) (r_ctr : rg 6 (0) (23) ctr) (r_mar : rg 24 (0) (255) mar) (r_tol : rg 8 (0) (23) tol) (q0 : 0 ≤ fa.toInt) (q1 : fa.toInt ≤ 9) (q2 : 0 ≤ fb.toInt) (q3 : fb.toInt ≤ 9) : KW l yX0_exchangeAlike wsX0_exchangeAlike { frames := 0, cells := 0, slots := 0, locals := 0 } (dC, dI) (TY cI cZ cQ) (wCod cI cZ cQ a ali thi ctr cbe har mar tol) [.ref (a 28), .int fa, .int fb, .int v] sz 0 0 (fun (r : Int32) (u : US) => (r = ali (fa.toInt * 10 + fb.toInt).toNat) ∧ ((u.1 0) = upd (upd ali (fa.toInt * 10 + fb.toInt).toNat v) (fb.toInt * 10 + fa.toInt).toNat v)) (fun u : US => (wCod cI cZ cQ a (u.1 0) thi ctr cbe har mar tol)) := by
  refine Met.ofW (cc := cX0_exchangeAlike) (maxL := 5) (ret := (some .int)) (by decide) rfl ?_
  intro p e s m args below meth c s₁ B hml hv
  obtain ⟨rfl, hsz, hP, hK, hD0, hN⟩ := hv
  have hx := B.exec
  have hb := B.bytes
  have hr := B.returns
  have hts := atoms_spec (ws := wsX0_exchangeAlike) B.pre
  have hown : s.vm.findClass RX0 = some m.cls := findClass_of_methodNamed B.named
  have hlocks := B.notSynchronized
  have lf9 := hts (.fieldLink RX0 9 "PalaceOfRooms$Codes" "alike" "[I") (List.mem_cons_of_mem _ (List.mem_append_left _ (List.mem_of_getElem? (i := 0) rfl)))
  have inX0 : ∀ w ∈ wsX00, w ∈ wsX0_exchangeAlike := fun w h => List.mem_cons_of_mem _ (List.mem_append_right _ h)
  subst hsz
  have hD := hD0.self (sz := s.heap.size)
  generalize hAe : va_A (wCod cI cZ cQ a ali thi ctr cbe har mar tol) s.heap.size = A at hD ⊢
  have hA : ∀ q : Nat, s.heap.size ≤ q → A q := fun q h => by rw [← hAe]; exact Or.inr h
  have hS : va_S A s.heap s.heap [] := va_S.rf
  have hl := lv_entry ([.ref (a 28), .int fa, .int fb, .int v]) (n := 5) (Nat.le_of_ble_eq_true rfl)
  rw [lg_entry_eq]
  generalize (lg_sl ([.ref (a 28), .int fa, .int fb, .int v]) ++ List.replicate (5 - (lg_sl ([.ref (a 28), .int fa, .int fb, .int v])).length) Slot.unset).toArray = ls at hl ⊢
  have hl : lv_has ls 5 [(0, .ref (a 28)), (1, .int fa), (2, .int fb), (3, .int v)] := hl
  refine lv_aload_n hx hb dX0_exchangeAlike_0 rfl (lv_at hl 0 rfl) ?_
  refine va_get (D := (dC, dI)) (ci := 0) (v := .ref (a 29)) (C := RX0) (T := TX0) (N := 6) hx hb hts inX0 hown hK hP 0 rfl rfl 1 (by decide) lf9 (fun _ h9 => h9) rfl dX0_exchangeAlike_1 ?_
  refine lv_iload_n hx hb dX0_exchangeAlike_4 rfl (lv_at hl 1 rfl) ?_
  refine lv_bipush (v := 10) hx hb dX0_exchangeAlike_5 (by decide) ?_
  refine lv_imul hx hb dX0_exchangeAlike_7 ?_
  have f1 : (fa * 10).toInt = (fa.toInt) * (10) := mulC rfl (show (10 : Int32).toInt = 10 from rfl) (by omega) (by omega)
  refine lv_iload_n hx hb dX0_exchangeAlike_8 rfl (lv_at hl 2 rfl) ?_
  refine lv_iadd hx hb dX0_exchangeAlike_9 ?_
  have f2 : ((fa * 10) + fb).toInt = ((fa.toInt) * (10)) + (fb.toInt) := addC f1 rfl (by omega) (by omega)
  have b3 : vp_in ((fa * 10) + fb) 100 := inC f2 (by omega) (by omega)
  refine va_iald hx hb hK hP 1 0 rfl rfl b3 dX0_exchangeAlike_10 ?_
  refine lv_topi (fun x4 ex4 => ?_)
  have ix4 : x4.toInt = (ali ((fa * 10) + fb).toNatClampNeg).toInt := by rw [ex4]
  refine lv_istore (lv' := [(4, .int x4), (0, .ref (a 28)), (1, .int fa), (2, .int fb), (3, .int v)]) hx hb dX0_exchangeAlike_11 hl (by decide) rfl (fun ls hl => ?_)
  refine lv_aload_n hx hb dX0_exchangeAlike_13 rfl (lv_at hl 1 rfl) ?_
  refine va_get (D := (dC, dI)) (ci := 0) (v := .ref (a 29)) (C := RX0) (T := TX0) (N := 6) hx hb hts inX0 hown hK hP 0 rfl rfl 1 (by decide) lf9 (fun _ h9 => h9) rfl dX0_exchangeAlike_14 ?_
  refine lv_iload_n hx hb dX0_exchangeAlike_17 rfl (lv_at hl 2 rfl) ?_
  refine lv_bipush (v := 10) hx hb dX0_exchangeAlike_18 (by decide) ?_
  refine lv_imul hx hb dX0_exchangeAlike_20 ?_
  have f5 : (fa * 10).toInt = (fa.toInt) * (10) := mulC rfl (show (10 : Int32).toInt = 10 from rfl) (by omega) (by omega)
  refine lv_iload_n hx hb dX0_exchangeAlike_21 rfl (lv_at hl 3 rfl) ?_
  refine lv_iadd hx hb dX0_exchangeAlike_22 ?_
  have f6 : ((fa * 10) + fb).toInt = ((fa.toInt) * (10)) + (fb.toInt) := addC f5 rfl (by omega) (by omega)
  refine lv_iload_n hx hb dX0_exchangeAlike_23 rfl (lv_at hl 4 rfl) ?_
  have b7 : vp_in ((fa * 10) + fb) 100 := inC f6 (by omega) (by omega)
  refine va_iast hx hb hK hP hD hS 1 0 rfl rfl b7 dX0_exchangeAlike_24 (fun H locs hP hD hS => ?_)
  obtain ⟨ali_u8, eali_u8⟩ : ∃ f : Nat → Int32, f = upd ali ((fa * 10) + fb).toNatClampNeg v := ⟨_, rfl⟩
  have hP : va_P (dC, dI) vwCl (wCod cI cZ cQ a ali_u8 thi ctr cbe har mar tol) H := by rw [eali_u8]; exact hP
  have hD : va_D A (wCod cI cZ cQ a ali_u8 thi ctr cbe har mar tol) := by rw [eali_u8]; exact hD
  refine lv_aload_n hx hb dX0_exchangeAlike_25 rfl (lv_at hl 1 rfl) ?_
  refine va_get (D := (dC, dI)) (ci := 0) (v := .ref (a 29)) (C := RX0) (T := TX0) (N := 6) hx hb hts inX0 hown hK hP 0 rfl rfl 1 (by decide) lf9 (fun _ h9 => h9) rfl dX0_exchangeAlike_26 ?_
  refine lv_iload_n hx hb dX0_exchangeAlike_29 rfl (lv_at hl 3 rfl) ?_
  refine lv_bipush (v := 10) hx hb dX0_exchangeAlike_30 (by decide) ?_
  refine lv_imul hx hb dX0_exchangeAlike_32 ?_
  have f9 : (fb * 10).toInt = (fb.toInt) * (10) := mulC rfl (show (10 : Int32).toInt = 10 from rfl) (by omega) (by omega)
  refine lv_iload_n hx hb dX0_exchangeAlike_33 rfl (lv_at hl 2 rfl) ?_
  refine lv_iadd hx hb dX0_exchangeAlike_34 ?_
  have f10 : ((fb * 10) + fa).toInt = ((fb.toInt) * (10)) + (fa.toInt) := addC f9 rfl (by omega) (by omega)
  refine lv_iload_n hx hb dX0_exchangeAlike_35 rfl (lv_at hl 4 rfl) ?_
  have b11 : vp_in ((fb * 10) + fa) 100 := inC f10 (by omega) (by omega)
  refine va_iast hx hb hK hP hD hS 1 0 rfl rfl b11 dX0_exchangeAlike_36 (fun H locs hP hD hS => ?_)
  obtain ⟨ali_u12, eali_u12⟩ : ∃ f : Nat → Int32, f = upd ali_u8 ((fb * 10) + fa).toNatClampNeg v := ⟨_, rfl⟩
  have hP : va_P (dC, dI) vwCl (wCod cI cZ cQ a ali_u12 thi ctr cbe har mar tol) H := by rw [eali_u12]; exact hP
  have hD : va_D A (wCod cI cZ cQ a ali_u12 thi ctr cbe har mar tol) := by rw [eali_u12]; exact hD
  refine lv_iload hx hb dX0_exchangeAlike_37 (lv_at hl 0 rfl) ?_
  exact W.iret (v := x4) hx hb hr (fun t ht hW => ⟨⟨x4, (uS [ali_u12] 0 (fun _ => 0)), rfl, ⟨(show x4 = ali (fa.toInt * 10 + fb.toInt).toNat from by (subst_vars; rw [clC (x := fa * 10 + fb) (X := fa.toInt * 10 + fb.toInt) (by assumption)])), (show ali_u12 = upd (upd ali (fa.toInt * 10 + fb.toInt).toNat v) (fb.toInt * 10 + fa.toInt).toNat v from by (subst_vars; rw [clC (x := fa * 10 + fb) (X := fa.toInt * 10 + fb.toInt) (by assumption), clC (x := fb * 10 + fa) (X := fb.toInt * 10 + fa.toInt) (by assumption)]))⟩, by rw [ht]; exact hP, hD⟩, hS.F ht⟩) hS.2.2 dX0_exchangeAlike_39
