set_option maxHeartbeats 4000000 in
set_option maxRecDepth 100000 in
theorem k_X6_reckonToCome (l : Launch) (dC : Nat → ClassId) (dI : Nat → Nat → Nat) (cI cZ cQ : ClassId) (a : Nat → Nat) (sor : Nat → Int32) (ord : Nat → Int32) (sha : Nat → Int32) (toc : Nat → Int32) (mar : Nat → Int32) (tol : Nat → Int32) (sz : Nat) (n : Int32) (r_sor : rg 8 (0) (23) sor) (r_mar : rg 24 (0) (255) mar) (r_tol : rg 8 (0) (23) tol) (q0 : 1 ≤ n.toInt) (q1 : n.toInt ≤ 8) : KV l yX6_reckonToCome wsX6_reckonToCome { frames := 3, cells := 0, slots := 0, locals := 70 } (dC, dI) (TY cI cZ cQ) (wSpe cI cZ cQ a sor ord sha toc mar tol) [.ref (a 23), .int n] sz 0 0 (fun (u : US) => True) (fun u : US => (wSpe cI cZ cQ a sor ord sha (u.1 0) mar tol)) := by
  refine Met.ofW (cc := cX6_reckonToCome) (maxL := 6) (ret := none) (by decide) rfl ?_
  intro p e s m args below meth c s₁ B hml hv
  obtain ⟨rfl, hsz, hP, hK, hD0, hN⟩ := hv
  have hx := B.exec
  have hb := B.bytes
  have hr := B.returns
  have hts := atoms_spec (ws := wsX6_reckonToCome) B.pre
  have hown : s.vm.findClass RX6 = some m.cls := findClass_of_methodNamed B.named
  have hlocks := B.notSynchronized
  have lf21 := hts (.fieldLink RX6 21 "PalaceOfRooms$Speech" "toCome" "[I") (List.mem_cons_of_mem _ (List.mem_append_left _ (List.mem_of_getElem? (i := 0) rfl)))
  have inX6 : ∀ w ∈ wsX60, w ∈ wsX6_reckonToCome := fun w h => List.mem_cons_of_mem _ (List.mem_append_right _ h)
  subst hsz
  have hD := hD0.self (sz := s.heap.size)
  generalize hAe : va_A (wSpe cI cZ cQ a sor ord sha toc mar tol) s.heap.size = A at hD ⊢
  have hA : ∀ q : Nat, s.heap.size ≤ q → A q := fun q h => by rw [← hAe]; exact Or.inr h
  have hS : va_S A s.heap s.heap [] := va_S.rf
  have hl := lv_entry ([.ref (a 23), .int n]) (n := 6) (Nat.le_of_ble_eq_true rfl)
  rw [lg_entry_eq]
  generalize (lg_sl ([.ref (a 23), .int n]) ++ List.replicate (6 - (lg_sl ([.ref (a 23), .int n])).length) Slot.unset).toArray = ls at hl ⊢
  have hl : lv_has ls 6 [(0, .ref (a 23)), (1, .int n)] := hl
  refine lv_iconst (v := 1) hx hb dX6_reckonToCome_0 (by decide) ?_
  refine lv_iload_n hx hb dX6_reckonToCome_1 rfl (lv_at hl 1 rfl) ?_
  refine lv_ishl hx hb dX6_reckonToCome_2 ?_
  have f1 : 1 ≤ ((1 : Int32) <<< (n &&& 31)).toInt ∧ ((1 : Int32) <<< (n &&& 31)).toInt ≤ 256 := shl1 rfl (by omega) 8 (by omega) (by decide)
  refine lv_iconst (v := 1) hx hb dX6_reckonToCome_3 (by decide) ?_
  refine lv_isub hx hb dX6_reckonToCome_4 ?_
  have f2 : (((1 : Int32) <<< (n &&& 31)) - 1).toInt = (((1 : Int32) <<< (n &&& 31)).toInt) - (1) := subC rfl (show (1 : Int32).toInt = 1 from rfl) (by omega) (by omega)
  refine lv_topi (fun x3 ex3 => ?_)
  have ix3 : x3.toInt = (((1 : Int32) <<< (n &&& 31)).toInt) - (1) := by rw [ex3]; exact f2
  refine lv_istore_n (lv' := [(2, .int x3), (0, .ref (a 23)), (1, .int n)]) hx hb dX6_reckonToCome_5 rfl hl (by decide) rfl (fun ls hl => ?_)
  refine lv_iload_n hx hb dX6_reckonToCome_6 rfl (lv_at hl 0 rfl) ?_
  refine lv_istore_n (lv' := [(3, .int x3), (2, .int x3), (0, .ref (a 23)), (1, .int n)]) hx hb dX6_reckonToCome_7 rfl hl (by decide) rfl (fun ls hl => ?_)
  have L8 : ∀ (nn : Nat) (y8_3 : Int32) (toc_8 : Nat → Int32) (H : Heap) (locs : List Loc) (ls : Array Slot), (0 ≤ (y8_3.toInt)) → ((y8_3.toInt) ≤ 255) → ((y8_3.toInt)).toNat < nn → va_P (dC, dI) vwCl (wSpe cI cZ cQ a sor ord sha toc_8 mar tol) H → va_D A (wSpe cI cZ cQ a sor ord sha toc_8 mar tol) → va_S A s.heap H locs → lv_has ls 6 [(0, .ref (a 23)), (1, .int n), (3, .int y8_3)] → W p l e (headSpec wsX6_reckonToCome { frames := 3, cells := 0, slots := 0, locals := 70 }).room s m ([.ref (a 23), .int n] : List Value).toArray below meth c H locs 0 0 (MQ below (va_Qv (fun (u : US) => True) (Bw (dC, dI) A (fun u : US => (wSpe cI cZ cQ a sor ord sha (u.1 0) mar tol))) A) ([.ref (a 23), .int n] : List Value).toArray s 0 0 A) (F0 m 8 ls []) := by
    intro nn
    induction nn with
    | zero =>
      intro y8_3 toc_8 H locs ls i8_0 i8_1 hm
      exact absurd hm (Nat.not_lt_zero _)
    | succ nn ih8 =>
      intro y8_3 toc_8 H locs ls i8_0 i8_1 hm hP hD hS hl
      refine lv_iload_n hx hb dX6_reckonToCome_8 rfl (lv_at hl 2 rfl) ?_
      refine lv_if_le (tgt := 84) hx hb dX6_reckonToCome_9 (by decide) (fun c4 => ?_) (fun c4 => ?_)
      · have dc4 : y8_3.toInt ≤ 0 := leC rfl (show (0 : Int32).toInt = 0 from rfl) c4
        exact W.vret hx hb hr (fun t ht hW => ⟨⟨(uS [toc_8] 0 (fun _ => 0)), rfl, trivial, by rw [ht]; exact hP, hD⟩, hS.F ht⟩) hS.2.2 dX6_reckonToCome_84
      · have dc4 : 0 < y8_3.toInt := nleC rfl (show (0 : Int32).toInt = 0 from rfl) c4
        refine lv_iconst (v := 0) hx hb dX6_reckonToCome_12 (by decide) ?_
        refine lv_istore (lv' := [(4, .int 0), (0, .ref (a 23)), (1, .int n), (3, .int y8_3)]) hx hb dX6_reckonToCome_13 hl (by decide) rfl (fun ls hl => ?_)
        have L15 : ∀ (nn : Nat) (y15_4 : Int32) (toc_15 : Nat → Int32) (H : Heap) (locs : List Loc) (ls : Array Slot), (0 ≤ (y15_4.toInt)) → ((y15_4.toInt) ≤ 8) → (8 - (y15_4.toInt)).toNat < nn → va_P (dC, dI) vwCl (wSpe cI cZ cQ a sor ord sha toc_15 mar tol) H → va_D A (wSpe cI cZ cQ a sor ord sha toc_15 mar tol) → va_S A s.heap H locs → lv_has ls 6 [(0, .ref (a 23)), (1, .int n), (3, .int y8_3), (4, .int y15_4)] → W p l e (headSpec wsX6_reckonToCome { frames := 3, cells := 0, slots := 0, locals := 70 }).room s m ([.ref (a 23), .int n] : List Value).toArray below meth c H locs 0 0 (MQ below (va_Qv (fun (u : US) => True) (Bw (dC, dI) A (fun u : US => (wSpe cI cZ cQ a sor ord sha (u.1 0) mar tol))) A) ([.ref (a 23), .int n] : List Value).toArray s 0 0 A) (F0 m 15 ls []) := by
          intro nn
          induction nn with
          | zero =>
            intro y15_4 toc_15 H locs ls i15_0 i15_1 hm
            exact absurd hm (Nat.not_lt_zero _)
          | succ nn ih15 =>
            intro y15_4 toc_15 H locs ls i15_0 i15_1 hm hP hD hS hl
            refine lv_iload hx hb dX6_reckonToCome_15 (lv_at hl 3 rfl) ?_
            refine lv_iload_n hx hb dX6_reckonToCome_17 rfl (lv_at hl 1 rfl) ?_
            refine lv_icmp_ge (tgt := 78) hx hb dX6_reckonToCome_18 (by decide) (fun c5 => ?_) (fun c5 => ?_)
            · have dc5 : n.toInt ≤ y15_4.toInt := leC rfl rfl c5
              obtain ⟨z6, ez6⟩ : ∃ y : Int32, y = y8_3 + (-1) := ⟨_, rfl⟩
              have iz6 : z6.toInt = y8_3.toInt + (-1) := by rw [ez6]; exact addC rfl rfl (by omega) (by omega)
              refine lv_iinc (v := z6) (lv' := [(3, .int z6), (0, .ref (a 23)), (1, .int n), (4, .int y15_4)]) hx hb dX6_reckonToCome_78 hl (k := 2) rfl (by rw [ez6]; rfl) (by decide) rfl (fun ls hl => ?_)
              refine lv_goto (tgt := 8) hx hb dX6_reckonToCome_81 (by decide) ?_
              exact ih8 z6 toc_15 _ _ _ (by omega) (by omega) (by omega) hP hD hS (lv_sub hl [1, 2, 0] rfl)
            · have dc5 : y15_4.toInt < n.toInt := nleC rfl rfl c5
              refine lv_iload_n hx hb dX6_reckonToCome_21 rfl (lv_at hl 2 rfl) ?_
              refine lv_iload hx hb dX6_reckonToCome_22 (lv_at hl 3 rfl) ?_
              refine lv_ishr hx hb dX6_reckonToCome_24 ?_
              refine lv_iconst (v := 1) hx hb dX6_reckonToCome_25 (by decide) ?_
              refine lv_iand hx hb dX6_reckonToCome_26 ?_
              have f7 := andR (a := (y8_3 >>> (y15_4 &&& 31))) (m := 1) (M := 1) rfl (by decide)
              refine lv_iconst (v := 1) hx hb dX6_reckonToCome_27 (by decide) ?_
              refine lv_icmp_ne (tgt := 72) hx hb dX6_reckonToCome_28 (by decide) (fun c8 => ?_) (fun c8 => ?_)
              · have dc8 : ((y8_3 >>> (y15_4 &&& 31)) &&& 1).toInt ≠ 1 := neC rfl (show (1 : Int32).toInt = 1 from rfl) c8
                obtain ⟨z9, ez9⟩ : ∃ y : Int32, y = y15_4 + 1 := ⟨_, rfl⟩
                have iz9 : z9.toInt = y15_4.toInt + 1 := by rw [ez9]; exact addC rfl rfl (by omega) (by omega)
                refine lv_iinc (v := z9) (lv' := [(4, .int z9), (0, .ref (a 23)), (1, .int n), (3, .int y8_3)]) hx hb dX6_reckonToCome_72 hl (k := 3) rfl (by rw [ez9]; rfl) (by decide) rfl (fun ls hl => ?_)
                refine lv_goto (tgt := 15) hx hb dX6_reckonToCome_75 (by decide) ?_
                exact ih15 z9 toc_15 _ _ _ (by omega) (by omega) (by omega) hP hD hS (lv_sub hl [1, 2, 3, 0] rfl)
              · have dc8 : ((y8_3 >>> (y15_4 &&& 31)) &&& 1).toInt = 1 := eqC rfl (show (1 : Int32).toInt = 1 from rfl) c8
                refine lv_aload_n hx hb dX6_reckonToCome_31 rfl (lv_at hl 0 rfl) ?_
                refine lv_iload_n hx hb dX6_reckonToCome_32 rfl (lv_at hl 2 rfl) ?_
                refine lv_iload hx hb dX6_reckonToCome_33 (lv_at hl 3 rfl) ?_
                refine lv_iload_n hx hb dX6_reckonToCome_35 rfl (lv_at hl 1 rfl) ?_
                refine rdV (As := [.int y8_3, .int y15_4, .int n]) (rest := []) ⟨hx, hb, hml, hown, hts⟩ (k_X6_bestNext l dC dI cI cZ cQ a sor ord sha toc_15 mar tol y8_3 y15_4 n r_sor r_mar r_tol (by omega) (by omega) (by omega) (by omega) (by omega) (by omega)) (cwV 3 hts gX6_reckonToCome_X6_bestNext rfl rfl rfl (by decide +kernel) ⟨Nat.le_of_ble_eq_true rfl, Nat.le_of_ble_eq_true rfl⟩) hP hK hN [0, 1, 2, 3, 4, 5, 6, 7] rfl 0 6 rfl rfl rfl hl.1 rfl (Nat.le_of_ble_eq_true rfl) dX6_reckonToCome_36 ⟨Nat.le_of_ble_eq_true rfl, Nat.le_of_ble_eq_true rfl⟩ (fun r10 h11 => ?_)
                have h11 : (-1 ≤ r10.toInt) ∧ (r10.toInt ≤ 7) := h11
                obtain ⟨h11_0, h11_1⟩ := h11
                refine lv_istore (lv' := [(5, .int r10), (0, .ref (a 23)), (1, .int n), (3, .int y8_3), (4, .int y15_4)]) hx hb dX6_reckonToCome_39 hl (by decide) rfl (fun ls hl => ?_)
                refine lv_aload_n hx hb dX6_reckonToCome_41 rfl (lv_at hl 1 rfl) ?_
                refine va_get (D := (dC, dI)) (ci := 6) (v := .ref (a 27)) (C := RX6) (T := TX6) (N := 5) hx hb hts inX6 hown hK hP 0 rfl rfl 4 (by decide) lf21 (fun _ h9 => h9) rfl dX6_reckonToCome_42 ?_
                refine lv_iload_n hx hb dX6_reckonToCome_45 rfl (lv_at hl 3 rfl) ?_
                refine lv_bipush (v := 8) hx hb dX6_reckonToCome_46 (by decide) ?_
                refine lv_imul hx hb dX6_reckonToCome_48 ?_
                have f12 : (y8_3 * 8).toInt = (y8_3.toInt) * (8) := mulC rfl (show (8 : Int32).toInt = 8 from rfl) (by omega) (by omega)
                refine lv_iload hx hb dX6_reckonToCome_49 (lv_at hl 4 rfl) ?_
                refine lv_iadd hx hb dX6_reckonToCome_51 ?_
                have f13 : ((y8_3 * 8) + y15_4).toInt = ((y8_3.toInt) * (8)) + (y15_4.toInt) := addC f12 rfl (by omega) (by omega)
                refine lv_iload hx hb dX6_reckonToCome_52 (lv_at hl 0 rfl) ?_
                refine lv_iconst (v := (-1)) hx hb dX6_reckonToCome_54 (by decide) ?_
                refine lv_icmp_ne (tgt := 62) hx hb dX6_reckonToCome_55 (by decide) (fun c14 => ?_) (fun c14 => ?_)
                · have dc14 : r10.toInt ≠ (-1) := neC rfl (show ((-1) : Int32).toInt = (-1) from rfl) c14
                  refine lv_aload_n hx hb dX6_reckonToCome_62 rfl (lv_at hl 1 rfl) ?_
                  refine lv_iload_n hx hb dX6_reckonToCome_63 rfl (lv_at hl 3 rfl) ?_
                  refine lv_iload hx hb dX6_reckonToCome_64 (lv_at hl 4 rfl) ?_
                  refine lv_iload hx hb dX6_reckonToCome_66 (lv_at hl 0 rfl) ?_
                  refine rdV (As := [.int y8_3, .int y15_4, .int r10]) (rest := [.int ((y8_3 * 8) + y15_4), .ref (a 27)]) ⟨hx, hb, hml, hown, hts⟩ (k_X6_throughNext l dC dI cI cZ cQ a sor ord sha toc_15 mar tol y8_3 y15_4 r10 r_sor r_mar r_tol (by omega) (by omega) (by omega) (by omega) (by omega) (by omega)) (cwV 3 hts gX6_reckonToCome_X6_throughNext rfl rfl rfl (by decide +kernel) ⟨Nat.le_of_ble_eq_true rfl, Nat.le_of_ble_eq_true rfl⟩) hP hK hN [0, 1, 2, 3, 4, 5, 6, 7] rfl 0 6 rfl rfl rfl hl.1 rfl (Nat.le_of_ble_eq_true rfl) dX6_reckonToCome_68 ⟨Nat.le_of_ble_eq_true rfl, Nat.le_of_ble_eq_true rfl⟩ (fun r15 h16 => ?_)
                  have h16 : True := h16
                  have b17 : vp_in ((y8_3 * 8) + y15_4) 2048 := inC f13 (by omega) (by omega)
                  refine va_iast hx hb hK hP hD hS 4 0 rfl rfl b17 dX6_reckonToCome_71 (fun H locs hP hD hS => ?_)
                  obtain ⟨toc_u18, etoc_u18⟩ : ∃ f : Nat → Int32, f = upd toc_15 ((y8_3 * 8) + y15_4).toNatClampNeg r15 := ⟨_, rfl⟩
                  have hP : va_P (dC, dI) vwCl (wSpe cI cZ cQ a sor ord sha toc_u18 mar tol) H := by rw [etoc_u18]; exact hP
                  have hD : va_D A (wSpe cI cZ cQ a sor ord sha toc_u18 mar tol) := by rw [etoc_u18]; exact hD
                  obtain ⟨z19, ez19⟩ : ∃ y : Int32, y = y15_4 + 1 := ⟨_, rfl⟩
                  have iz19 : z19.toInt = y15_4.toInt + 1 := by rw [ez19]; exact addC rfl rfl (by omega) (by omega)
                  refine lv_iinc (v := z19) (lv' := [(4, .int z19), (5, .int r10), (0, .ref (a 23)), (1, .int n), (3, .int y8_3)]) hx hb dX6_reckonToCome_72 hl (k := 4) rfl (by rw [ez19]; rfl) (by decide) rfl (fun ls hl => ?_)
                  refine lv_goto (tgt := 15) hx hb dX6_reckonToCome_75 (by decide) ?_
                  exact ih15 z19 toc_u18 _ _ _ (by omega) (by omega) (by omega) hP hD hS (lv_sub hl [2, 3, 4, 0] rfl)
                · have dc14 : r10.toInt = (-1) := eqC rfl (show ((-1) : Int32).toInt = (-1) from rfl) c14
                  refine lv_iconst (v := 0) hx hb dX6_reckonToCome_58 (by decide) ?_
                  refine lv_goto (tgt := 71) hx hb dX6_reckonToCome_59 (by decide) ?_
                  have b20 : vp_in ((y8_3 * 8) + y15_4) 2048 := inC f13 (by omega) (by omega)
                  refine va_iast hx hb hK hP hD hS 4 0 rfl rfl b20 dX6_reckonToCome_71 (fun H locs hP hD hS => ?_)
                  obtain ⟨toc_u21, etoc_u21⟩ : ∃ f : Nat → Int32, f = upd toc_15 ((y8_3 * 8) + y15_4).toNatClampNeg 0 := ⟨_, rfl⟩
                  have hP : va_P (dC, dI) vwCl (wSpe cI cZ cQ a sor ord sha toc_u21 mar tol) H := by rw [etoc_u21]; exact hP
                  have hD : va_D A (wSpe cI cZ cQ a sor ord sha toc_u21 mar tol) := by rw [etoc_u21]; exact hD
                  obtain ⟨z22, ez22⟩ : ∃ y : Int32, y = y15_4 + 1 := ⟨_, rfl⟩
                  have iz22 : z22.toInt = y15_4.toInt + 1 := by rw [ez22]; exact addC rfl rfl (by omega) (by omega)
                  refine lv_iinc (v := z22) (lv' := [(4, .int z22), (5, .int r10), (0, .ref (a 23)), (1, .int n), (3, .int y8_3)]) hx hb dX6_reckonToCome_72 hl (k := 4) rfl (by rw [ez22]; rfl) (by decide) rfl (fun ls hl => ?_)
                  refine lv_goto (tgt := 15) hx hb dX6_reckonToCome_75 (by decide) ?_
                  exact ih15 z22 toc_u21 _ _ _ (by omega) (by omega) (by omega) hP hD hS (lv_sub hl [2, 3, 4, 0] rfl)
        have kc23 : (0 : Int32).toInt = 0 := rfl
        exact L15 _ 0 toc_8 _ _ _ (by omega) (by omega) (Nat.lt_succ_self _) hP hD hS (lv_sub hl [1, 2, 3, 0] rfl)
  exact L8 _ x3 toc _ _ _ (by omega) (by omega) (Nat.lt_succ_self _) hP hD hS (lv_sub hl [2, 3, 0] rfl)
