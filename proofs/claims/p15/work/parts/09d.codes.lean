set_option maxHeartbeats 4000000 in
set_option maxRecDepth 100000 in
theorem k_X0_seek_0 (l : Launch) (dC : Nat → ClassId) (dI : Nat → Nat → Nat) (cI cZ cQ : ClassId) (a : Nat → Nat) (ali : Nat → Int32) (thi : Nat → Int32) (ctr : Nat → Int32) (cbe : Nat → Int32) (har : Int32) (mar : Nat → Int32) (tol : Nat → Int32) (sz : Nat) (fi : Int32) (n : Int32) (us : Int32) (ha : Int32) (r_thi : rg 8 (0) (23) thi) (r_ctr : rg 6 (0) (23) ctr) (r_mar : rg 24 (0) (255) mar) (r_tol : rg 8 (0) (23) tol) (q0 : 6 ≤ fi.toInt) (q1 : fi.toInt ≤ 6) (q2 : 2 ≤ n.toInt) (q3 : n.toInt ≤ 6) : KV l yX0_seek wsX0_seek { frames := 3, cells := 0, slots := 0, locals := 65 } (dC, dI) (TY cI cZ cQ) (wCod cI cZ cQ a ali thi ctr cbe har mar tol) [.ref (a 28), .int fi, .int n, .int us, .int ha] sz 0 0 (fun (u : US) => (rg 6 (0) (23) (u.1 0))) (fun u : US => (wCod cI cZ cQ a ali thi (u.1 0) (u.1 1) (u.1 2 0) mar tol)) := by
  refine Met.ofW (cc := cX0_seek) (maxL := 6) (ret := none) (by decide) rfl ?_
  intro p e s m args below meth c s₁ B hml hv
  obtain ⟨rfl, hsz, hP, hK, hD0, hN⟩ := hv
  have hx := B.exec
  have hb := B.bytes
  have hr := B.returns
  have hts := atoms_spec (ws := wsX0_seek) B.pre
  have hown : s.vm.findClass RX0 = some m.cls := findClass_of_methodNamed B.named
  have hlocks := B.notSynchronized
  have lf34 := hts (.fieldLink RX0 34 "PalaceOfRooms$Codes" "bestHarm" "I") (List.mem_cons_of_mem _ (List.mem_append_left _ (List.mem_append_left _ (List.mem_append_left _ (List.mem_of_getElem? (i := 0) rfl)))))
  have inX0 : ∀ w ∈ wsX00, w ∈ wsX0_seek := fun w h => List.mem_cons_of_mem _ (List.mem_append_left _ (List.mem_append_right _ h))
  have lf18 := hts (.fieldLink RX0 18 "PalaceOfRooms$Codes" "trial" "[I") (List.mem_cons_of_mem _ (List.mem_append_left _ (List.mem_append_left _ (List.mem_append_left _ (List.mem_of_getElem? (i := 1) rfl)))))
  have lf21 := hts (.fieldLink RX0 21 "PalaceOfRooms$Codes" "best" "[I") (List.mem_cons_of_mem _ (List.mem_append_left _ (List.mem_append_left _ (List.mem_append_left _ (List.mem_of_getElem? (i := 2) rfl)))))
  subst hsz
  have hD := hD0.self (sz := s.heap.size)
  generalize hAe : va_A (wCod cI cZ cQ a ali thi ctr cbe har mar tol) s.heap.size = A at hD ⊢
  have hA : ∀ q : Nat, s.heap.size ≤ q → A q := fun q h => by rw [← hAe]; exact Or.inr h
  have hS : va_S A s.heap s.heap [] := va_S.rf
  have hl := lv_entry ([.ref (a 28), .int fi, .int n, .int us, .int ha]) (n := 6) (Nat.le_of_ble_eq_true rfl)
  rw [lg_entry_eq]
  generalize (lg_sl ([.ref (a 28), .int fi, .int n, .int us, .int ha]) ++ List.replicate (6 - (lg_sl ([.ref (a 28), .int fi, .int n, .int us, .int ha])).length) Slot.unset).toArray = ls at hl ⊢
  have hl : lv_has ls 6 [(0, .ref (a 28)), (1, .int fi), (2, .int n), (3, .int us), (4, .int ha)] := hl
  refine lv_iload hx hb dX0_seek_0 (lv_at hl 4 rfl) ?_
  refine lv_aload_n hx hb dX0_seek_2 rfl (lv_at hl 0 rfl) ?_
  refine va_get (D := (dC, dI)) (ci := 0) (v := .int har) (C := RX0) (T := TX0) (N := 6) hx hb hts inX0 hown hK hP 0 rfl rfl 5 (by decide) lf34 (fun _ h9 => h9) rfl dX0_seek_3 ?_
  refine lv_icmp_lt (tgt := 10) hx hb dX0_seek_6 (by decide) (fun c1 => ?_) (fun c1 => ?_)
  · have dc1 : ha.toInt < har.toInt := ltC rfl rfl c1
    refine lv_iload_n hx hb dX0_seek_10 rfl (lv_at hl 1 rfl) ?_
    refine lv_iload_n hx hb dX0_seek_11 rfl (lv_at hl 2 rfl) ?_
    refine lv_icmp_ge (tgt := 21) hx hb dX0_seek_12 (by decide) (fun c2 => ?_) (fun c2 => ?_)
    · have dc2 : n.toInt ≤ fi.toInt := leC rfl rfl c2
      refine lv_aload_n hx hb dX0_seek_21 rfl (lv_at hl 0 rfl) ?_
      refine lv_iload hx hb dX0_seek_22 (lv_at hl 4 rfl) ?_
      refine va_put (D := (dC, dI)) (ci := 0) (v := .int ha) (ty := .int) (C := RX0) (T := TX0) (N := 6) hx hb hts inX0 tyX0 tyX0_ok nmX0 hown hK hP hD hS 0 rfl rfl 5 (by decide) lf34 (fun _ h9 => h9) rfl (by decide +kernel) rfl rfl (Nat.le_of_ble_eq_true rfl) dX0_seek_24 (fun H locs hP hD hS => ?_)
      have hP : va_P (dC, dI) vwCl (wCod cI cZ cQ a ali thi ctr cbe ha mar tol) H := hP
      have hD : va_D A (wCod cI cZ cQ a ali thi ctr cbe ha mar tol) := hD
      refine lv_aload_n hx hb dX0_seek_27 rfl (lv_at hl 0 rfl) ?_
      refine va_get (D := (dC, dI)) (ci := 0) (v := .ref (a 31)) (C := RX0) (T := TX0) (N := 6) hx hb hts inX0 hown hK hP 0 rfl rfl 3 (by decide) lf18 (fun _ h9 => h9) rfl dX0_seek_28 ?_
      refine lv_iconst (v := 0) hx hb dX0_seek_31 (by decide) ?_
      refine lv_aload_n hx hb dX0_seek_32 rfl (lv_at hl 0 rfl) ?_
      refine va_get (D := (dC, dI)) (ci := 0) (v := .ref (a 32)) (C := RX0) (T := TX0) (N := 6) hx hb hts inX0 hown hK hP 0 rfl rfl 4 (by decide) lf21 (fun _ h9 => h9) rfl dX0_seek_33 ?_
      refine lv_iconst (v := 0) hx hb dX0_seek_36 (by decide) ?_
      refine lv_bipush (v := 6) hx hb dX0_seek_37 (by decide) ?_
      refine va_copyi (ty := .int) (n := 6) hx hb (by rw [hml]; exact hl.1.symm) hown (hts (.methodLink RX0 28 arraycopyName) (List.mem_cons_of_mem _ (List.mem_append_left _ (List.mem_append_left _ (List.mem_append_left _ (List.mem_of_getElem? (i := 3) rfl)))))) (hts (.native arraycopyName) (List.mem_cons_of_mem _ (List.mem_append_left _ (List.mem_append_left _ (List.mem_append_left _ (List.mem_of_getElem? (i := 4) rfl)))))) (hts (.static arraycopyName) (List.mem_cons_of_mem _ (List.mem_append_left _ (List.mem_append_left _ (List.mem_append_left _ (List.mem_of_getElem? (i := 5) rfl)))))) (hts (.initialized "java/lang/System") (List.mem_cons_of_mem _ (List.mem_append_left _ (List.mem_append_left _ (List.mem_append_left _ (List.mem_of_getElem? (i := 6) rfl)))))) hK hP hD hS 3 4 0 0 rfl rfl rfl rfl rfl (by decide) (by decide) (by decide) (by decide) (by decide) (fun _ _ => rfl) (Nat.le_of_ble_eq_true rfl) (Nat.le_of_ble_eq_true rfl) dX0_seek_39 (fun H locs hP hD hS => ?_)
      obtain ⟨cbe_u3, ecbe_u3⟩ : ∃ f : Nat → Int32, f = va_cpy ctr cbe 0 0 6 := ⟨_, rfl⟩
      have hP : va_P (dC, dI) vwCl (wCod cI cZ cQ a ali thi ctr cbe_u3 ha mar tol) H := by rw [ecbe_u3]; exact hP
      have hD : va_D A (wCod cI cZ cQ a ali thi ctr cbe_u3 ha mar tol) := by rw [ecbe_u3]; exact hD
      exact W.vret hx hb hr (fun t ht hW => ⟨⟨(uS [ctr, cbe_u3, (fun _ => ha)] 0 (fun _ => 0)), rfl, r_ctr, by rw [ht]; exact hP, hD⟩, hS.F ht⟩) hS.2.2 dX0_seek_42
    · have dc2 : fi.toInt < n.toInt := nleC rfl rfl c2
      exfalso
      omega
  · have dc1 : har.toInt ≤ ha.toInt := nltC rfl rfl c1
    exact W.vret hx hb hr (fun t ht hW => ⟨⟨(uS [ctr, cbe, (fun _ => har)] 0 (fun _ => 0)), rfl, r_ctr, by rw [ht]; exact hP, hD⟩, hS.F ht⟩) hS.2.2 dX0_seek_9
