set_option maxHeartbeats 4000000 in
set_option maxRecDepth 100000 in
theorem k_X0_harmOf (l : Launch) (dC : Nat → ClassId) (dI : Nat → Nat → Nat) (cI cZ cQ : ClassId) (a : Nat → Nat) (ali : Nat → Int32) (thi : Nat → Int32) (ctr : Nat → Int32) (cbe : Nat → Int32) (har : Int32) (mar : Nat → Int32) (tol : Nat → Int32) (fi : Int32) (r_thi : rg 8 (0) (23) thi) (r_ctr : rg 6 (0) (23) ctr) (r_mar : rg 24 (0) (255) mar) (r_tol : rg 8 (0) (23) tol) (q0 : 0 ≤ fi.toInt) (q1 : fi.toInt ≤ 5) : KR l yX0_harmOf wsX0_harmOf { frames := 2, cells := 0, slots := 0, locals := 42 } (dC, dI) (TY cI cZ cQ) (wCod cI cZ cQ a ali thi ctr cbe har mar tol) [.ref (a 28), .int fi] (fun r : Int32 => True) := by
  refine Met.ofW (cc := cX0_harmOf) (maxL := 4) (ret := (some .int)) (by decide) rfl ?_
  intro p e s m args below meth c s₁ B hml hv
  obtain ⟨rfl, hP, hK, hN⟩ := hv
  have hx := B.exec
  have hb := B.bytes
  have hr := B.returns
  have hts := atoms_spec (ws := wsX0_harmOf) B.pre
  have hown : s.vm.findClass RX0 = some m.cls := findClass_of_methodNamed B.named
  have hlocks := B.notSynchronized
  have lf24 := hts (.fieldLink RX0 24 "PalaceOfRooms$Codes" "pictures" "LPalaceOfRooms$Pictures;") (List.mem_cons_of_mem _ (List.mem_append_left _ (List.mem_append_left _ (List.mem_of_getElem? (i := 0) rfl))))
  have inX0 : ∀ w ∈ wsX00, w ∈ wsX0_harmOf := fun w h => List.mem_cons_of_mem _ (List.mem_append_left _ (List.mem_append_right _ h))
  have lf18 := hts (.fieldLink RX0 18 "PalaceOfRooms$Codes" "trial" "[I") (List.mem_cons_of_mem _ (List.mem_append_left _ (List.mem_append_left _ (List.mem_of_getElem? (i := 1) rfl))))
  have lf9 := hts (.fieldLink RX0 9 "PalaceOfRooms$Codes" "alike" "[I") (List.mem_cons_of_mem _ (List.mem_append_left _ (List.mem_append_left _ (List.mem_of_getElem? (i := 2) rfl))))
  have hl := lv_entry ([.ref (a 28), .int fi]) (n := 4) (Nat.le_of_ble_eq_true rfl)
  rw [lg_entry_eq]
  generalize (lg_sl ([.ref (a 28), .int fi]) ++ List.replicate (4 - (lg_sl ([.ref (a 28), .int fi])).length) Slot.unset).toArray = ls at hl ⊢
  have hl : lv_has ls 4 [(0, .ref (a 28)), (1, .int fi)] := hl
  refine lv_iconst (v := 0) hx hb dX0_harmOf_0 (by decide) ?_
  refine lv_istore_n (lv' := [(2, .int 0), (0, .ref (a 28)), (1, .int fi)]) hx hb dX0_harmOf_1 rfl hl (by decide) rfl (fun ls hl => ?_)
  refine lv_iconst (v := 0) hx hb dX0_harmOf_2 (by decide) ?_
  refine lv_istore_n (lv' := [(3, .int 0), (2, .int 0), (0, .ref (a 28)), (1, .int fi)]) hx hb dX0_harmOf_3 rfl hl (by decide) rfl (fun ls hl => ?_)
  have L4 : ∀ (nn : Nat) (y4_2 : Int32) (y4_3 : Int32) (ls : Array Slot), (0 ≤ (y4_3.toInt)) → ((y4_3.toInt) ≤ 5) → (5 - (y4_3.toInt)).toNat < nn → lv_has ls 4 [(0, .ref (a 28)), (1, .int fi), (2, .int y4_2), (3, .int y4_3)] → W p l e (headSpec wsX0_harmOf { frames := 2, cells := 0, slots := 0, locals := 42 }).room s m ([.ref (a 28), .int fi] : List Value).toArray below meth c s.heap [] 0 0 (MQ below (QR (fun r : Int32 => True)) ([.ref (a 28), .int fi] : List Value).toArray s 0 0 (fun _ => False)) (F0 m 4 ls []) := by
    intro nn
    induction nn with
    | zero =>
      intro y4_2 y4_3 ls i4_0 i4_1 hm
      exact absurd hm (Nat.not_lt_zero _)
    | succ nn ih4 =>
      intro y4_2 y4_3 ls i4_0 i4_1 hm hl
      refine lv_iload_n hx hb dX0_harmOf_4 rfl (lv_at hl 3 rfl) ?_
      refine lv_iload_n hx hb dX0_harmOf_5 rfl (lv_at hl 1 rfl) ?_
      refine lv_icmp_ge (tgt := 49) hx hb dX0_harmOf_6 (by decide) (fun c1 => ?_) (fun c1 => ?_)
      · have dc1 : fi.toInt ≤ y4_3.toInt := leC rfl rfl c1
        refine lv_iload_n hx hb dX0_harmOf_49 rfl (lv_at hl 2 rfl) ?_
        exact W.iret (v := y4_2) hx hb hr (fun t ht hW => ⟨y4_2, rfl, trivial, ht⟩) (fun q h => by cases h) dX0_harmOf_50
      · have dc1 : y4_3.toInt < fi.toInt := nleC rfl rfl c1
        refine lv_iload_n hx hb dX0_harmOf_9 rfl (lv_at hl 2 rfl) ?_
        refine lv_aload_n hx hb dX0_harmOf_10 rfl (lv_at hl 0 rfl) ?_
        refine va_get (D := (dC, dI)) (ci := 0) (v := .ref (a 2)) (C := RX0) (T := TX0) (N := 6) hx hb hts inX0 hown hK hP 0 rfl rfl 0 (by decide) lf24 (fun _ h9 => h9) rfl dX0_harmOf_11 ?_
        refine lv_aload_n hx hb dX0_harmOf_14 rfl (lv_at hl 0 rfl) ?_
        refine va_get (D := (dC, dI)) (ci := 0) (v := .ref (a 31)) (C := RX0) (T := TX0) (N := 6) hx hb hts inX0 hown hK hP 0 rfl rfl 3 (by decide) lf18 (fun _ h9 => h9) rfl dX0_harmOf_15 ?_
        refine lv_iload_n hx hb dX0_harmOf_18 rfl (lv_at hl 3 rfl) ?_
        have b2 : vp_in y4_3 6 := inC rfl (by omega) (by omega)
        refine va_iald hx hb hK hP 3 0 rfl rfl b2 dX0_harmOf_19 ?_
        have g3 : 0 ≤ (ctr y4_3.toNatClampNeg).toInt ∧ (ctr y4_3.toNatClampNeg).toInt ≤ 23 := rg_at r_ctr b2
        refine lv_aload_n hx hb dX0_harmOf_20 rfl (lv_at hl 0 rfl) ?_
        refine va_get (D := (dC, dI)) (ci := 0) (v := .ref (a 31)) (C := RX0) (T := TX0) (N := 6) hx hb hts inX0 hown hK hP 0 rfl rfl 3 (by decide) lf18 (fun _ h9 => h9) rfl dX0_harmOf_21 ?_
        refine lv_iload_n hx hb dX0_harmOf_24 rfl (lv_at hl 1 rfl) ?_
        have b4 : vp_in fi 6 := inC rfl (by omega) (by omega)
        refine va_iald hx hb hK hP 3 0 rfl rfl b4 dX0_harmOf_25 ?_
        have g5 : 0 ≤ (ctr fi.toNatClampNeg).toInt ∧ (ctr fi.toNatClampNeg).toInt ≤ 23 := rg_at r_ctr b4
        refine rdV (As := [.int (ctr y4_3.toNatClampNeg), .int (ctr fi.toNatClampNeg)]) (rest := [.int y4_2]) ⟨hx, hb, hml, hown, hts⟩ (k_X2_shared l dC dI cI cZ cQ a mar (ctr y4_3.toNatClampNeg) (ctr fi.toNatClampNeg) r_mar (by omega) (by omega) (by omega) (by omega)) (cwV 2 hts gX0_harmOf_X2_shared rfl rfl rfl (by decide +kernel) ⟨Nat.le_of_ble_eq_true rfl, Nat.le_of_ble_eq_true rfl⟩) hP hK hN [5, 6] rfl 5 2 rfl rfl rfl hl.1 rfl (Nat.le_of_ble_eq_true rfl) dX0_harmOf_26 ⟨Nat.le_of_ble_eq_true rfl, Nat.le_of_ble_eq_true rfl⟩ (fun r6 h7 => ?_)
        have h7 : (r6 = bc (mar (ctr y4_3.toNatClampNeg).toNatClampNeg &&& mar (ctr fi.toNatClampNeg).toNatClampNeg)) := h7
        have h7_0 := h7
        refine lv_aload_n hx hb dX0_harmOf_29 rfl (lv_at hl 0 rfl) ?_
        refine va_get (D := (dC, dI)) (ci := 0) (v := .ref (a 29)) (C := RX0) (T := TX0) (N := 6) hx hb hts inX0 hown hK hP 0 rfl rfl 1 (by decide) lf9 (fun _ h9 => h9) rfl dX0_harmOf_30 ?_
        refine lv_iload_n hx hb dX0_harmOf_33 rfl (lv_at hl 3 rfl) ?_
        refine lv_bipush (v := 10) hx hb dX0_harmOf_34 (by decide) ?_
        refine lv_imul hx hb dX0_harmOf_36 ?_
        have f8 : (y4_3 * 10).toInt = (y4_3.toInt) * (10) := mulC rfl (show (10 : Int32).toInt = 10 from rfl) (by omega) (by omega)
        refine lv_iload_n hx hb dX0_harmOf_37 rfl (lv_at hl 1 rfl) ?_
        refine lv_iadd hx hb dX0_harmOf_38 ?_
        have f9 : ((y4_3 * 10) + fi).toInt = ((y4_3.toInt) * (10)) + (fi.toInt) := addC f8 rfl (by omega) (by omega)
        have b10 : vp_in ((y4_3 * 10) + fi) 100 := inC f9 (by omega) (by omega)
        refine va_iald hx hb hK hP 1 0 rfl rfl b10 dX0_harmOf_39 ?_
        refine lv_imul hx hb dX0_harmOf_40 ?_
        refine lv_iadd hx hb dX0_harmOf_41 ?_
        refine lv_topi (fun x11 ex11 => ?_)
        have ix11 : x11.toInt = (y4_2 + (r6 * (ali ((y4_3 * 10) + fi).toNatClampNeg))).toInt := by rw [ex11]
        refine lv_istore_n (lv' := [(2, .int x11), (0, .ref (a 28)), (1, .int fi), (3, .int y4_3)]) hx hb dX0_harmOf_42 rfl hl (by decide) rfl (fun ls hl => ?_)
        obtain ⟨z12, ez12⟩ : ∃ y : Int32, y = y4_3 + 1 := ⟨_, rfl⟩
        have iz12 : z12.toInt = y4_3.toInt + 1 := by rw [ez12]; exact addC rfl rfl (by omega) (by omega)
        refine lv_iinc (v := z12) (lv' := [(3, .int z12), (2, .int x11), (0, .ref (a 28)), (1, .int fi)]) hx hb dX0_harmOf_43 hl (k := 3) rfl (by rw [ez12]; rfl) (by decide) rfl (fun ls hl => ?_)
        refine lv_goto (tgt := 4) hx hb dX0_harmOf_46 (by decide) ?_
        exact ih4 x11 z12 _ (by omega) (by omega) (by omega) (lv_sub hl [2, 3, 1, 0] rfl)
  have kc13 : (0 : Int32).toInt = 0 := rfl
  exact L4 _ 0 0 _ (by omega) (by omega) (Nat.lt_succ_self _) (lv_sub hl [2, 3, 1, 0] rfl)
