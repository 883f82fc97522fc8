set_option maxHeartbeats 4000000 in
set_option maxRecDepth 100000 in
theorem k_X6_reckonShared (l : Launch) (dC : Nat → ClassId) (dI : Nat → Nat → Nat) (cI cZ cQ : ClassId) (a : Nat → Nat) (sor : Nat → Int32) (ord : Nat → Int32) (sha : Nat → Int32) (toc : Nat → Int32) (mar : Nat → Int32) (tol : Nat → Int32) (sz : Nat) (n : Int32) (r_sor : rg 8 (0) (23) sor) (r_mar : rg 24 (0) (255) mar) (r_tol : rg 8 (0) (23) tol) (q0 : 1 ≤ n.toInt) (q1 : n.toInt ≤ 8) : KV l yX6_reckonShared wsX6_reckonShared { frames := 2, cells := 0, slots := 0, locals := 42 } (dC, dI) (TY cI cZ cQ) (wSpe cI cZ cQ a sor ord sha toc mar tol) [.ref (a 23), .int n] sz 0 0 (fun (u : US) => True) (fun u : US => (wSpe cI cZ cQ a sor ord (u.1 0) toc mar tol)) := by
  refine Met.ofW (cc := cX6_reckonShared) (maxL := 4) (ret := none) (by decide) rfl ?_
  intro p e s m args below meth c s₁ B hml hv
  obtain ⟨rfl, hsz, hP, hK, hD0, hN⟩ := hv
  have hx := B.exec
  have hb := B.bytes
  have hr := B.returns
  have hts := atoms_spec (ws := wsX6_reckonShared) B.pre
  have hown : s.vm.findClass RX6 = some m.cls := findClass_of_methodNamed B.named
  have hlocks := B.notSynchronized
  have lf18 := hts (.fieldLink RX6 18 "PalaceOfRooms$Speech" "shared" "[I") (List.mem_cons_of_mem _ (List.mem_append_left _ (List.mem_append_left _ (List.mem_of_getElem? (i := 0) rfl))))
  have inX6 : ∀ w ∈ wsX60, w ∈ wsX6_reckonShared := fun w h => List.mem_cons_of_mem _ (List.mem_append_left _ (List.mem_append_right _ h))
  have lf24 := hts (.fieldLink RX6 24 "PalaceOfRooms$Speech" "pictures" "LPalaceOfRooms$Pictures;") (List.mem_cons_of_mem _ (List.mem_append_left _ (List.mem_append_left _ (List.mem_of_getElem? (i := 1) rfl))))
  have lf9 := hts (.fieldLink RX6 9 "PalaceOfRooms$Speech" "sorted" "[I") (List.mem_cons_of_mem _ (List.mem_append_left _ (List.mem_append_left _ (List.mem_of_getElem? (i := 2) rfl))))
  subst hsz
  have hD := hD0.self (sz := s.heap.size)
  generalize hAe : va_A (wSpe cI cZ cQ a sor ord sha toc mar tol) s.heap.size = A at hD ⊢
  have hA : ∀ q : Nat, s.heap.size ≤ q → A q := fun q h => by rw [← hAe]; exact Or.inr h
  have hS : va_S A s.heap s.heap [] := va_S.rf
  have hl := lv_entry ([.ref (a 23), .int n]) (n := 4) (Nat.le_of_ble_eq_true rfl)
  rw [lg_entry_eq]
  generalize (lg_sl ([.ref (a 23), .int n]) ++ List.replicate (4 - (lg_sl ([.ref (a 23), .int n])).length) Slot.unset).toArray = ls at hl ⊢
  have hl : lv_has ls 4 [(0, .ref (a 23)), (1, .int n)] := hl
  refine lv_iconst (v := 0) hx hb dX6_reckonShared_0 (by decide) ?_
  refine lv_istore_n (lv' := [(2, .int 0), (0, .ref (a 23)), (1, .int n)]) hx hb dX6_reckonShared_1 rfl hl (by decide) rfl (fun ls hl => ?_)
  have L2 : ∀ (nn : Nat) (y2_2 : Int32) (sha_2 : Nat → Int32) (H : Heap) (locs : List Loc) (ls : Array Slot), (0 ≤ (y2_2.toInt)) → ((y2_2.toInt) ≤ 8) → (8 - (y2_2.toInt)).toNat < nn → va_P (dC, dI) vwCl (wSpe cI cZ cQ a sor ord sha_2 toc mar tol) H → va_D A (wSpe cI cZ cQ a sor ord sha_2 toc mar tol) → va_S A s.heap H locs → lv_has ls 4 [(0, .ref (a 23)), (1, .int n), (2, .int y2_2)] → W p l e (headSpec wsX6_reckonShared { frames := 2, cells := 0, slots := 0, locals := 42 }).room s m ([.ref (a 23), .int n] : List Value).toArray below meth c H locs 0 0 (MQ below (va_Qv (fun (u : US) => True) (Bw (dC, dI) A (fun u : US => (wSpe cI cZ cQ a sor ord (u.1 0) toc mar tol))) A) ([.ref (a 23), .int n] : List Value).toArray s 0 0 A) (F0 m 2 ls []) := by
    intro nn
    induction nn with
    | zero =>
      intro y2_2 sha_2 H locs ls i2_0 i2_1 hm
      exact absurd hm (Nat.not_lt_zero _)
    | succ nn ih2 =>
      intro y2_2 sha_2 H locs ls i2_0 i2_1 hm hP hD hS hl
      refine lv_iload_n hx hb dX6_reckonShared_2 rfl (lv_at hl 2 rfl) ?_
      refine lv_iload_n hx hb dX6_reckonShared_3 rfl (lv_at hl 1 rfl) ?_
      refine lv_icmp_ge (tgt := 56) hx hb dX6_reckonShared_4 (by decide) (fun c1 => ?_) (fun c1 => ?_)
      · have dc1 : n.toInt ≤ y2_2.toInt := leC rfl rfl c1
        exact W.vret hx hb hr (fun t ht hW => ⟨⟨(uS [sha_2] 0 (fun _ => 0)), rfl, trivial, by rw [ht]; exact hP, hD⟩, hS.F ht⟩) hS.2.2 dX6_reckonShared_56
      · have dc1 : y2_2.toInt < n.toInt := nleC rfl rfl c1
        refine lv_iconst (v := 0) hx hb dX6_reckonShared_7 (by decide) ?_
        refine lv_istore_n (lv' := [(3, .int 0), (0, .ref (a 23)), (1, .int n), (2, .int y2_2)]) hx hb dX6_reckonShared_8 rfl hl (by decide) rfl (fun ls hl => ?_)
        have L9 : ∀ (nn : Nat) (y9_3 : Int32) (sha_9 : Nat → Int32) (H : Heap) (locs : List Loc) (ls : Array Slot), (0 ≤ (y9_3.toInt)) → ((y9_3.toInt) ≤ 8) → (8 - (y9_3.toInt)).toNat < nn → va_P (dC, dI) vwCl (wSpe cI cZ cQ a sor ord sha_9 toc mar tol) H → va_D A (wSpe cI cZ cQ a sor ord sha_9 toc mar tol) → va_S A s.heap H locs → lv_has ls 4 [(0, .ref (a 23)), (1, .int n), (2, .int y2_2), (3, .int y9_3)] → W p l e (headSpec wsX6_reckonShared { frames := 2, cells := 0, slots := 0, locals := 42 }).room s m ([.ref (a 23), .int n] : List Value).toArray below meth c H locs 0 0 (MQ below (va_Qv (fun (u : US) => True) (Bw (dC, dI) A (fun u : US => (wSpe cI cZ cQ a sor ord (u.1 0) toc mar tol))) A) ([.ref (a 23), .int n] : List Value).toArray s 0 0 A) (F0 m 9 ls []) := by
          intro nn
          induction nn with
          | zero =>
            intro y9_3 sha_9 H locs ls i9_0 i9_1 hm
            exact absurd hm (Nat.not_lt_zero _)
          | succ nn ih9 =>
            intro y9_3 sha_9 H locs ls i9_0 i9_1 hm hP hD hS hl
            refine lv_iload_n hx hb dX6_reckonShared_9 rfl (lv_at hl 3 rfl) ?_
            refine lv_iload_n hx hb dX6_reckonShared_10 rfl (lv_at hl 1 rfl) ?_
            refine lv_icmp_ge (tgt := 50) hx hb dX6_reckonShared_11 (by decide) (fun c2 => ?_) (fun c2 => ?_)
            · have dc2 : n.toInt ≤ y9_3.toInt := leC rfl rfl c2
              obtain ⟨z3, ez3⟩ : ∃ y : Int32, y = y2_2 + 1 := ⟨_, rfl⟩
              have iz3 : z3.toInt = y2_2.toInt + 1 := by rw [ez3]; exact addC rfl rfl (by omega) (by omega)
              refine lv_iinc (v := z3) (lv' := [(2, .int z3), (0, .ref (a 23)), (1, .int n), (3, .int y9_3)]) hx hb dX6_reckonShared_50 hl (k := 2) rfl (by rw [ez3]; rfl) (by decide) rfl (fun ls hl => ?_)
              refine lv_goto (tgt := 2) hx hb dX6_reckonShared_53 (by decide) ?_
              exact ih2 z3 sha_9 _ _ _ (by omega) (by omega) (by omega) hP hD hS (lv_sub hl [1, 2, 0] rfl)
            · have dc2 : y9_3.toInt < n.toInt := nleC rfl rfl c2
              refine lv_aload_n hx hb dX6_reckonShared_14 rfl (lv_at hl 0 rfl) ?_
              refine va_get (D := (dC, dI)) (ci := 6) (v := .ref (a 26)) (C := RX6) (T := TX6) (N := 5) hx hb hts inX6 hown hK hP 0 rfl rfl 3 (by decide) lf18 (fun _ h9 => h9) rfl dX6_reckonShared_15 ?_
              refine lv_iload_n hx hb dX6_reckonShared_18 rfl (lv_at hl 2 rfl) ?_
              refine lv_bipush (v := 8) hx hb dX6_reckonShared_19 (by decide) ?_
              refine lv_imul hx hb dX6_reckonShared_21 ?_
              have f4 : (y2_2 * 8).toInt = (y2_2.toInt) * (8) := mulC rfl (show (8 : Int32).toInt = 8 from rfl) (by omega) (by omega)
              refine lv_iload_n hx hb dX6_reckonShared_22 rfl (lv_at hl 3 rfl) ?_
              refine lv_iadd hx hb dX6_reckonShared_23 ?_
              have f5 : ((y2_2 * 8) + y9_3).toInt = ((y2_2.toInt) * (8)) + (y9_3.toInt) := addC f4 rfl (by omega) (by omega)
              refine lv_aload_n hx hb dX6_reckonShared_24 rfl (lv_at hl 0 rfl) ?_
              refine va_get (D := (dC, dI)) (ci := 6) (v := .ref (a 2)) (C := RX6) (T := TX6) (N := 5) hx hb hts inX6 hown hK hP 0 rfl rfl 0 (by decide) lf24 (fun _ h9 => h9) rfl dX6_reckonShared_25 ?_
              refine lv_aload_n hx hb dX6_reckonShared_28 rfl (lv_at hl 0 rfl) ?_
              refine va_get (D := (dC, dI)) (ci := 6) (v := .ref (a 24)) (C := RX6) (T := TX6) (N := 5) hx hb hts inX6 hown hK hP 0 rfl rfl 1 (by decide) lf9 (fun _ h9 => h9) rfl dX6_reckonShared_29 ?_
              refine lv_iload_n hx hb dX6_reckonShared_32 rfl (lv_at hl 2 rfl) ?_
              have b6 : vp_in y2_2 8 := inC rfl (by omega) (by omega)
              refine va_iald hx hb hK hP 1 0 rfl rfl b6 dX6_reckonShared_33 ?_
              have g7 : 0 ≤ (sor y2_2.toNatClampNeg).toInt ∧ (sor y2_2.toNatClampNeg).toInt ≤ 23 := rg_at r_sor b6
              refine lv_aload_n hx hb dX6_reckonShared_34 rfl (lv_at hl 0 rfl) ?_
              refine va_get (D := (dC, dI)) (ci := 6) (v := .ref (a 24)) (C := RX6) (T := TX6) (N := 5) hx hb hts inX6 hown hK hP 0 rfl rfl 1 (by decide) lf9 (fun _ h9 => h9) rfl dX6_reckonShared_35 ?_
              refine lv_iload_n hx hb dX6_reckonShared_38 rfl (lv_at hl 3 rfl) ?_
              have b8 : vp_in y9_3 8 := inC rfl (by omega) (by omega)
              refine va_iald hx hb hK hP 1 0 rfl rfl b8 dX6_reckonShared_39 ?_
              have g9 : 0 ≤ (sor y9_3.toNatClampNeg).toInt ∧ (sor y9_3.toNatClampNeg).toInt ≤ 23 := rg_at r_sor b8
              refine rdV (As := [.int (sor y2_2.toNatClampNeg), .int (sor y9_3.toNatClampNeg)]) (rest := [.int ((y2_2 * 8) + y9_3), .ref (a 26)]) ⟨hx, hb, hml, hown, hts⟩ (k_X2_shared l dC dI cI cZ cQ a mar (sor y2_2.toNatClampNeg) (sor y9_3.toNatClampNeg) r_mar (by omega) (by omega) (by omega) (by omega)) (cwV 2 hts gX6_reckonShared_X2_shared rfl rfl rfl (by decide +kernel) ⟨Nat.le_of_ble_eq_true rfl, Nat.le_of_ble_eq_true rfl⟩) hP hK hN [5, 6] rfl 5 2 rfl rfl rfl hl.1 rfl (Nat.le_of_ble_eq_true rfl) dX6_reckonShared_40 ⟨Nat.le_of_ble_eq_true rfl, Nat.le_of_ble_eq_true rfl⟩ (fun r10 h11 => ?_)
              have h11 : (r10 = bc (mar (sor y2_2.toNatClampNeg).toNatClampNeg &&& mar (sor y9_3.toNatClampNeg).toNatClampNeg)) := h11
              have h11_0 := h11
              have b12 : vp_in ((y2_2 * 8) + y9_3) 64 := inC f5 (by omega) (by omega)
              refine va_iast hx hb hK hP hD hS 3 0 rfl rfl b12 dX6_reckonShared_43 (fun H locs hP hD hS => ?_)
              obtain ⟨sha_u13, esha_u13⟩ : ∃ f : Nat → Int32, f = upd sha_9 ((y2_2 * 8) + y9_3).toNatClampNeg r10 := ⟨_, rfl⟩
              have hP : va_P (dC, dI) vwCl (wSpe cI cZ cQ a sor ord sha_u13 toc mar tol) H := by rw [esha_u13]; exact hP
              have hD : va_D A (wSpe cI cZ cQ a sor ord sha_u13 toc mar tol) := by rw [esha_u13]; exact hD
              obtain ⟨z14, ez14⟩ : ∃ y : Int32, y = y9_3 + 1 := ⟨_, rfl⟩
              have iz14 : z14.toInt = y9_3.toInt + 1 := by rw [ez14]; exact addC rfl rfl (by omega) (by omega)
              refine lv_iinc (v := z14) (lv' := [(3, .int z14), (0, .ref (a 23)), (1, .int n), (2, .int y2_2)]) hx hb dX6_reckonShared_44 hl (k := 3) rfl (by rw [ez14]; rfl) (by decide) rfl (fun ls hl => ?_)
              refine lv_goto (tgt := 9) hx hb dX6_reckonShared_47 (by decide) ?_
              exact ih9 z14 sha_u13 _ _ _ (by omega) (by omega) (by omega) hP hD hS (lv_sub hl [1, 2, 3, 0] rfl)
        have kc15 : (0 : Int32).toInt = 0 := rfl
        exact L9 _ 0 sha_2 _ _ _ (by omega) (by omega) (Nat.lt_succ_self _) hP hD hS (lv_sub hl [1, 2, 3, 0] rfl)
  have kc16 : (0 : Int32).toInt = 0 := rfl
  exact L2 _ 0 sha _ _ _ (by omega) (by omega) (Nat.lt_succ_self _) hP hD hS (lv_sub hl [1, 2, 0] rfl)
