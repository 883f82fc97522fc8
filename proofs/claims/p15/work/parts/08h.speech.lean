set_option maxHeartbeats 4000000 in
set_option maxRecDepth 100000 in
theorem k_X6_sort (l : Launch) (dC : Nat → ClassId) (dI : Nat → Nat → Nat) (cI cZ cQ : ClassId) (a : Nat → Nat) (sor : Nat → Int32) (ord : Nat → Int32) (sha : Nat → Int32) (toc : Nat → Int32) (mar : Nat → Int32) (tol : Nat → Int32) (sz : Nat) (n : Int32) (r_sor : rg 8 (0) (23) sor) (r_mar : rg 24 (0) (255) mar) (r_tol : rg 8 (0) (23) tol) (q0 : 1 ≤ n.toInt) (q1 : n.toInt ≤ 8) : KV l yX6_sort wsX6_sort { frames := 0, cells := 0, slots := 0, locals := 0 } (dC, dI) (TY cI cZ cQ) (wSpe cI cZ cQ a sor ord sha toc mar tol) [.ref (a 23), .ref (a 42), .int n] sz 0 0 (fun (u : US) => (rg 8 (0) (23) (u.1 0))) (fun u : US => (wSpe cI cZ cQ a (u.1 0) ord sha toc mar tol)) := by
  refine Met.ofW (cc := cX6_sort) (maxL := 5) (ret := none) (by decide) rfl ?_
  intro p e s m args below meth c s₁ B hml hv
  obtain ⟨rfl, hsz, hP, hK, hD0, hN⟩ := hv
  have hx := B.exec
  have hb := B.bytes
  have hr := B.returns
  have hts := atoms_spec (ws := wsX6_sort) B.pre
  have hown : s.vm.findClass RX6 = some m.cls := findClass_of_methodNamed B.named
  have hlocks := B.notSynchronized
  have lf9 := hts (.fieldLink RX6 9 "PalaceOfRooms$Speech" "sorted" "[I") (List.mem_cons_of_mem _ (List.mem_append_left _ (List.mem_of_getElem? (i := 0) rfl)))
  have inX6 : ∀ w ∈ wsX60, w ∈ wsX6_sort := fun w h => List.mem_cons_of_mem _ (List.mem_append_right _ h)
  subst hsz
  have hD := hD0.self (sz := s.heap.size)
  generalize hAe : va_A (wSpe cI cZ cQ a sor ord sha toc mar tol) s.heap.size = A at hD ⊢
  have hA : ∀ q : Nat, s.heap.size ≤ q → A q := fun q h => by rw [← hAe]; exact Or.inr h
  have hS : va_S A s.heap s.heap [] := va_S.rf
  have hl := lv_entry ([.ref (a 23), .ref (a 42), .int n]) (n := 5) (Nat.le_of_ble_eq_true rfl)
  rw [lg_entry_eq]
  generalize (lg_sl ([.ref (a 23), .ref (a 42), .int n]) ++ List.replicate (5 - (lg_sl ([.ref (a 23), .ref (a 42), .int n])).length) Slot.unset).toArray = ls at hl ⊢
  have hl : lv_has ls 5 [(0, .ref (a 23)), (1, .ref (a 42)), (2, .int n)] := hl
  refine lv_iconst (v := 0) hx hb dX6_sort_0 (by decide) ?_
  refine lv_istore_n (lv' := [(3, .int 0), (0, .ref (a 23)), (1, .ref (a 42)), (2, .int n)]) hx hb dX6_sort_1 rfl hl (by decide) rfl (fun ls hl => ?_)
  have L2 : ∀ (nn : Nat) (y2_3 : Int32) (sor_2 : Nat → Int32) (H : Heap) (locs : List Loc) (ls : Array Slot), (rg 8 (0) (23) sor_2) → (0 ≤ (y2_3.toInt)) → ((y2_3.toInt) ≤ 8) → (8 - (y2_3.toInt)).toNat < nn → va_P (dC, dI) vwCl (wSpe cI cZ cQ a sor_2 ord sha toc mar tol) H → va_D A (wSpe cI cZ cQ a sor_2 ord sha toc mar tol) → va_S A s.heap H locs → lv_has ls 5 [(0, .ref (a 23)), (1, .ref (a 42)), (2, .int n), (3, .int y2_3)] → W p l e (headSpec wsX6_sort { frames := 0, cells := 0, slots := 0, locals := 0 }).room s m ([.ref (a 23), .ref (a 42), .int n] : List Value).toArray below meth c H locs 0 0 (MQ below (va_Qv (fun (u : US) => (rg 8 (0) (23) (u.1 0))) (Bw (dC, dI) A (fun u : US => (wSpe cI cZ cQ a (u.1 0) ord sha toc mar tol))) A) ([.ref (a 23), .ref (a 42), .int n] : List Value).toArray s 0 0 A) (F0 m 2 ls []) := by
    intro nn
    induction nn with
    | zero =>
      intro y2_3 sor_2 H locs ls r_sor_2 i2_0 i2_1 hm
      exact absurd hm (Nat.not_lt_zero _)
    | succ nn ih2 =>
      intro y2_3 sor_2 H locs ls r_sor_2 i2_0 i2_1 hm hP hD hS hl
      refine lv_iload_n hx hb dX6_sort_2 rfl (lv_at hl 3 rfl) ?_
      refine lv_iload_n hx hb dX6_sort_3 rfl (lv_at hl 2 rfl) ?_
      refine lv_icmp_ge (tgt := 68) hx hb dX6_sort_4 (by decide) (fun c1 => ?_) (fun c1 => ?_)
      · have dc1 : n.toInt ≤ y2_3.toInt := leC rfl rfl c1
        exact W.vret hx hb hr (fun t ht hW => ⟨⟨(uS [sor_2] 0 (fun _ => 0)), rfl, r_sor_2, by rw [ht]; exact hP, hD⟩, hS.F ht⟩) hS.2.2 dX6_sort_68
      · have dc1 : y2_3.toInt < n.toInt := nleC rfl rfl c1
        refine lv_iload_n hx hb dX6_sort_7 rfl (lv_at hl 3 rfl) ?_
        refine lv_istore (lv' := [(4, .int y2_3), (0, .ref (a 23)), (1, .ref (a 42)), (2, .int n), (3, .int y2_3)]) hx hb dX6_sort_8 hl (by decide) rfl (fun ls hl => ?_)
        have L10 : ∀ (nn : Nat) (y10_4 : Int32) (sor_10 : Nat → Int32) (H : Heap) (locs : List Loc) (ls : Array Slot), (rg 8 (0) (23) sor_10) → (0 ≤ (y10_4.toInt)) → ((y10_4.toInt) ≤ (y2_3.toInt)) → ((y10_4.toInt)).toNat < nn → va_P (dC, dI) vwCl (wSpe cI cZ cQ a sor_10 ord sha toc mar tol) H → va_D A (wSpe cI cZ cQ a sor_10 ord sha toc mar tol) → va_S A s.heap H locs → lv_has ls 5 [(0, .ref (a 23)), (1, .ref (a 42)), (2, .int n), (3, .int y2_3), (4, .int y10_4)] → W p l e (headSpec wsX6_sort { frames := 0, cells := 0, slots := 0, locals := 0 }).room s m ([.ref (a 23), .ref (a 42), .int n] : List Value).toArray below meth c H locs 0 0 (MQ below (va_Qv (fun (u : US) => (rg 8 (0) (23) (u.1 0))) (Bw (dC, dI) A (fun u : US => (wSpe cI cZ cQ a (u.1 0) ord sha toc mar tol))) A) ([.ref (a 23), .ref (a 42), .int n] : List Value).toArray s 0 0 A) (F0 m 10 ls []) := by
          intro nn
          induction nn with
          | zero =>
            intro y10_4 sor_10 H locs ls r_sor_10 i10_0 i10_1 hm
            exact absurd hm (Nat.not_lt_zero _)
          | succ nn ih10 =>
            intro y10_4 sor_10 H locs ls r_sor_10 i10_0 i10_1 hm hP hD hS hl
            refine lv_iload hx hb dX6_sort_10 (lv_at hl 4 rfl) ?_
            refine lv_if_le (tgt := 52) hx hb dX6_sort_12 (by decide) (fun c2 => ?_) (fun c2 => ?_)
            · have dc2 : y10_4.toInt ≤ 0 := leC rfl (show (0 : Int32).toInt = 0 from rfl) c2
              refine lv_aload_n hx hb dX6_sort_52 rfl (lv_at hl 0 rfl) ?_
              refine va_get (D := (dC, dI)) (ci := 6) (v := .ref (a 24)) (C := RX6) (T := TX6) (N := 5) hx hb hts inX6 hown hK hP 0 rfl rfl 1 (by decide) lf9 (fun _ h9 => h9) rfl dX6_sort_53 ?_
              refine lv_iload hx hb dX6_sort_56 (lv_at hl 4 rfl) ?_
              refine lv_aload_n hx hb dX6_sort_58 rfl (lv_at hl 1 rfl) ?_
              refine lv_iload_n hx hb dX6_sort_59 rfl (lv_at hl 3 rfl) ?_
              have b3 : vp_in y2_3 8 := inC rfl (by omega) (by omega)
              refine va_iald hx hb hK hP 7 0 rfl rfl b3 dX6_sort_60 ?_
              have g4 : 0 ≤ (tol y2_3.toNatClampNeg).toInt ∧ (tol y2_3.toNatClampNeg).toInt ≤ 23 := rg_at r_tol b3
              refine lv_topi (fun x5 ex5 => ?_)
              have ix5 : x5.toInt = (tol y2_3.toNatClampNeg).toInt := by rw [ex5]
              have b6 : vp_in y10_4 8 := inC rfl (by omega) (by omega)
              have g7 : rg 8 (0) (23) (upd sor_10 y10_4.toNatClampNeg x5) := rg_upd r_sor_10 rfl (by omega) (by omega)
              refine va_iast hx hb hK hP hD hS 1 0 rfl rfl b6 dX6_sort_61 (fun H locs hP hD hS => ?_)
              obtain ⟨sor_u8, esor_u8⟩ : ∃ f : Nat → Int32, f = upd sor_10 y10_4.toNatClampNeg x5 := ⟨_, rfl⟩
              have rsor_u8 : rg 8 (0) (23) sor_u8 := by rw [esor_u8]; exact g7
              have hP : va_P (dC, dI) vwCl (wSpe cI cZ cQ a sor_u8 ord sha toc mar tol) H := by rw [esor_u8]; exact hP
              have hD : va_D A (wSpe cI cZ cQ a sor_u8 ord sha toc mar tol) := by rw [esor_u8]; exact hD
              obtain ⟨z9, ez9⟩ : ∃ y : Int32, y = y2_3 + 1 := ⟨_, rfl⟩
              have iz9 : z9.toInt = y2_3.toInt + 1 := by rw [ez9]; exact addC rfl rfl (by omega) (by omega)
              refine lv_iinc (v := z9) (lv' := [(3, .int z9), (0, .ref (a 23)), (1, .ref (a 42)), (2, .int n), (4, .int y10_4)]) hx hb dX6_sort_62 hl (k := 3) rfl (by rw [ez9]; rfl) (by decide) rfl (fun ls hl => ?_)
              refine lv_goto (tgt := 2) hx hb dX6_sort_65 (by decide) ?_
              exact ih2 z9 sor_u8 _ _ _ rsor_u8 (by omega) (by omega) (by omega) hP hD hS (lv_sub hl [1, 2, 3, 0] rfl)
            · have dc2 : 0 < y10_4.toInt := nleC rfl (show (0 : Int32).toInt = 0 from rfl) c2
              refine lv_aload_n hx hb dX6_sort_15 rfl (lv_at hl 0 rfl) ?_
              refine va_get (D := (dC, dI)) (ci := 6) (v := .ref (a 24)) (C := RX6) (T := TX6) (N := 5) hx hb hts inX6 hown hK hP 0 rfl rfl 1 (by decide) lf9 (fun _ h9 => h9) rfl dX6_sort_16 ?_
              refine lv_iload hx hb dX6_sort_19 (lv_at hl 4 rfl) ?_
              refine lv_iconst (v := 1) hx hb dX6_sort_21 (by decide) ?_
              refine lv_isub hx hb dX6_sort_22 ?_
              have f10 : (y10_4 - 1).toInt = (y10_4.toInt) - (1) := subC rfl (show (1 : Int32).toInt = 1 from rfl) (by omega) (by omega)
              have b11 : vp_in (y10_4 - 1) 8 := inC f10 (by omega) (by omega)
              refine va_iald hx hb hK hP 1 0 rfl rfl b11 dX6_sort_23 ?_
              have g12 : 0 ≤ (sor_10 (y10_4 - 1).toNatClampNeg).toInt ∧ (sor_10 (y10_4 - 1).toNatClampNeg).toInt ≤ 23 := rg_at r_sor_10 b11
              refine lv_aload_n hx hb dX6_sort_24 rfl (lv_at hl 1 rfl) ?_
              refine lv_iload_n hx hb dX6_sort_25 rfl (lv_at hl 3 rfl) ?_
              have b13 : vp_in y2_3 8 := inC rfl (by omega) (by omega)
              refine va_iald hx hb hK hP 7 0 rfl rfl b13 dX6_sort_26 ?_
              have g14 : 0 ≤ (tol y2_3.toNatClampNeg).toInt ∧ (tol y2_3.toNatClampNeg).toInt ≤ 23 := rg_at r_tol b13
              refine lv_icmp_le (tgt := 52) hx hb dX6_sort_27 (by decide) (fun c15 => ?_) (fun c15 => ?_)
              · have dc15 : (sor_10 (y10_4 - 1).toNatClampNeg).toInt ≤ (tol y2_3.toNatClampNeg).toInt := leC rfl rfl c15
                refine lv_aload_n hx hb dX6_sort_52 rfl (lv_at hl 0 rfl) ?_
                refine va_get (D := (dC, dI)) (ci := 6) (v := .ref (a 24)) (C := RX6) (T := TX6) (N := 5) hx hb hts inX6 hown hK hP 0 rfl rfl 1 (by decide) lf9 (fun _ h9 => h9) rfl dX6_sort_53 ?_
                refine lv_iload hx hb dX6_sort_56 (lv_at hl 4 rfl) ?_
                refine lv_aload_n hx hb dX6_sort_58 rfl (lv_at hl 1 rfl) ?_
                refine lv_iload_n hx hb dX6_sort_59 rfl (lv_at hl 3 rfl) ?_
                have b16 : vp_in y2_3 8 := inC rfl (by omega) (by omega)
                refine va_iald hx hb hK hP 7 0 rfl rfl b16 dX6_sort_60 ?_
                have g17 : 0 ≤ (tol y2_3.toNatClampNeg).toInt ∧ (tol y2_3.toNatClampNeg).toInt ≤ 23 := rg_at r_tol b16
                refine lv_topi (fun x18 ex18 => ?_)
                have ix18 : x18.toInt = (tol y2_3.toNatClampNeg).toInt := by rw [ex18]
                have b19 : vp_in y10_4 8 := inC rfl (by omega) (by omega)
                have g20 : rg 8 (0) (23) (upd sor_10 y10_4.toNatClampNeg x18) := rg_upd r_sor_10 rfl (by omega) (by omega)
                refine va_iast hx hb hK hP hD hS 1 0 rfl rfl b19 dX6_sort_61 (fun H locs hP hD hS => ?_)
                obtain ⟨sor_u21, esor_u21⟩ : ∃ f : Nat → Int32, f = upd sor_10 y10_4.toNatClampNeg x18 := ⟨_, rfl⟩
                have rsor_u21 : rg 8 (0) (23) sor_u21 := by rw [esor_u21]; exact g20
                have hP : va_P (dC, dI) vwCl (wSpe cI cZ cQ a sor_u21 ord sha toc mar tol) H := by rw [esor_u21]; exact hP
                have hD : va_D A (wSpe cI cZ cQ a sor_u21 ord sha toc mar tol) := by rw [esor_u21]; exact hD
                obtain ⟨z22, ez22⟩ : ∃ y : Int32, y = y2_3 + 1 := ⟨_, rfl⟩
                have iz22 : z22.toInt = y2_3.toInt + 1 := by rw [ez22]; exact addC rfl rfl (by omega) (by omega)
                refine lv_iinc (v := z22) (lv' := [(3, .int z22), (0, .ref (a 23)), (1, .ref (a 42)), (2, .int n), (4, .int y10_4)]) hx hb dX6_sort_62 hl (k := 3) rfl (by rw [ez22]; rfl) (by decide) rfl (fun ls hl => ?_)
                refine lv_goto (tgt := 2) hx hb dX6_sort_65 (by decide) ?_
                exact ih2 z22 sor_u21 _ _ _ rsor_u21 (by omega) (by omega) (by omega) hP hD hS (lv_sub hl [1, 2, 3, 0] rfl)
              · have dc15 : (tol y2_3.toNatClampNeg).toInt < (sor_10 (y10_4 - 1).toNatClampNeg).toInt := nleC rfl rfl c15
                refine lv_aload_n hx hb dX6_sort_30 rfl (lv_at hl 0 rfl) ?_
                refine va_get (D := (dC, dI)) (ci := 6) (v := .ref (a 24)) (C := RX6) (T := TX6) (N := 5) hx hb hts inX6 hown hK hP 0 rfl rfl 1 (by decide) lf9 (fun _ h9 => h9) rfl dX6_sort_31 ?_
                refine lv_iload hx hb dX6_sort_34 (lv_at hl 4 rfl) ?_
                refine lv_aload_n hx hb dX6_sort_36 rfl (lv_at hl 0 rfl) ?_
                refine va_get (D := (dC, dI)) (ci := 6) (v := .ref (a 24)) (C := RX6) (T := TX6) (N := 5) hx hb hts inX6 hown hK hP 0 rfl rfl 1 (by decide) lf9 (fun _ h9 => h9) rfl dX6_sort_37 ?_
                refine lv_iload hx hb dX6_sort_40 (lv_at hl 4 rfl) ?_
                refine lv_iconst (v := 1) hx hb dX6_sort_42 (by decide) ?_
                refine lv_isub hx hb dX6_sort_43 ?_
                have f23 : (y10_4 - 1).toInt = (y10_4.toInt) - (1) := subC rfl (show (1 : Int32).toInt = 1 from rfl) (by omega) (by omega)
                have b24 : vp_in (y10_4 - 1) 8 := inC f23 (by omega) (by omega)
                refine va_iald hx hb hK hP 1 0 rfl rfl b24 dX6_sort_44 ?_
                have g25 : 0 ≤ (sor_10 (y10_4 - 1).toNatClampNeg).toInt ∧ (sor_10 (y10_4 - 1).toNatClampNeg).toInt ≤ 23 := rg_at r_sor_10 b24
                refine lv_topi (fun x26 ex26 => ?_)
                have ix26 : x26.toInt = (sor_10 (y10_4 - 1).toNatClampNeg).toInt := by rw [ex26]
                have b27 : vp_in y10_4 8 := inC rfl (by omega) (by omega)
                have g28 : rg 8 (0) (23) (upd sor_10 y10_4.toNatClampNeg x26) := rg_upd r_sor_10 rfl (by omega) (by omega)
                refine va_iast hx hb hK hP hD hS 1 0 rfl rfl b27 dX6_sort_45 (fun H locs hP hD hS => ?_)
                obtain ⟨sor_u29, esor_u29⟩ : ∃ f : Nat → Int32, f = upd sor_10 y10_4.toNatClampNeg x26 := ⟨_, rfl⟩
                have rsor_u29 : rg 8 (0) (23) sor_u29 := by rw [esor_u29]; exact g28
                have hP : va_P (dC, dI) vwCl (wSpe cI cZ cQ a sor_u29 ord sha toc mar tol) H := by rw [esor_u29]; exact hP
                have hD : va_D A (wSpe cI cZ cQ a sor_u29 ord sha toc mar tol) := by rw [esor_u29]; exact hD
                obtain ⟨z30, ez30⟩ : ∃ y : Int32, y = y10_4 + (-1) := ⟨_, rfl⟩
                have iz30 : z30.toInt = y10_4.toInt + (-1) := by rw [ez30]; exact addC rfl rfl (by omega) (by omega)
                refine lv_iinc (v := z30) (lv' := [(4, .int z30), (0, .ref (a 23)), (1, .ref (a 42)), (2, .int n), (3, .int y2_3)]) hx hb dX6_sort_46 hl (k := 4) rfl (by rw [ez30]; rfl) (by decide) rfl (fun ls hl => ?_)
                refine lv_goto (tgt := 10) hx hb dX6_sort_49 (by decide) ?_
                exact ih10 z30 sor_u29 _ _ _ rsor_u29 (by omega) (by omega) (by omega) hP hD hS (lv_sub hl [1, 2, 3, 4, 0] rfl)
        exact L10 _ y2_3 sor_2 _ _ _ r_sor_2 (by omega) (by omega) (Nat.lt_succ_self _) hP hD hS (lv_sub hl [1, 2, 3, 4, 0] rfl)
  have kc31 : (0 : Int32).toInt = 0 := rfl
  exact L2 _ 0 sor _ _ _ r_sor (by omega) (by omega) (Nat.lt_succ_self _) hP hD hS (lv_sub hl [1, 2, 3, 0] rfl)
