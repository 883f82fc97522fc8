set_option maxHeartbeats 4000000 in
set_option maxRecDepth 100000 in
theorem k_X6_follow (l : Launch) (dC : Nat → ClassId) (dI : Nat → Nat → Nat) (cI cZ cQ : ClassId) (a : Nat → Nat) (sor : Nat → Int32) (ord : Nat → Int32) (sha : Nat → Int32) (toc : Nat → Int32) (mar : Nat → Int32) (tol : Nat → Int32) (sz : Nat) (fi : Int32) (n : Int32) (r_sor : rg 8 (0) (23) sor) (r_mar : rg 24 (0) (255) mar) (r_tol : rg 8 (0) (23) tol) (q0 : 0 ≤ fi.toInt) (q1 : fi.toInt ≤ 7) (q2 : 1 ≤ n.toInt) (q3 : n.toInt ≤ 8) : KV l yX6_follow wsX6_follow { frames := 3, cells := 0, slots := 0, locals := 70 } (dC, dI) (TY cI cZ cQ) (wSpe cI cZ cQ a sor ord sha toc mar tol) [.ref (a 23), .int fi, .int n] sz 0 0 (fun (u : US) => True) (fun u : US => (wSpe cI cZ cQ a sor (u.1 0) sha toc mar tol)) := by
  refine Met.ofW (cc := cX6_follow) (maxL := 7) (ret := none) (by decide) rfl ?_
  intro p e s m args below meth c s₁ B hml hv
  obtain ⟨rfl, hsz, hP, hK, hD0, hN⟩ := hv
  have hx := B.exec
  have hb := B.bytes
  have hr := B.returns
  have hts := atoms_spec (ws := wsX6_follow) B.pre
  have hown : s.vm.findClass RX6 = some m.cls := findClass_of_methodNamed B.named
  have hlocks := B.notSynchronized
  have lf15 := hts (.fieldLink RX6 15 "PalaceOfRooms$Speech" "order" "[I") (List.mem_cons_of_mem _ (List.mem_append_left _ (List.mem_of_getElem? (i := 0) rfl)))
  have inX6 : ∀ w ∈ wsX60, w ∈ wsX6_follow := fun w h => List.mem_cons_of_mem _ (List.mem_append_right _ h)
  have lf9 := hts (.fieldLink RX6 9 "PalaceOfRooms$Speech" "sorted" "[I") (List.mem_cons_of_mem _ (List.mem_append_left _ (List.mem_of_getElem? (i := 1) rfl)))
  subst hsz
  have hD := hD0.self (sz := s.heap.size)
  generalize hAe : va_A (wSpe cI cZ cQ a sor ord sha toc mar tol) s.heap.size = A at hD ⊢
  have hA : ∀ q : Nat, s.heap.size ≤ q → A q := fun q h => by rw [← hAe]; exact Or.inr h
  have hS : va_S A s.heap s.heap [] := va_S.rf
  have hl := lv_entry ([.ref (a 23), .int fi, .int n]) (n := 7) (Nat.le_of_ble_eq_true rfl)
  rw [lg_entry_eq]
  generalize (lg_sl ([.ref (a 23), .int fi, .int n]) ++ List.replicate (7 - (lg_sl ([.ref (a 23), .int fi, .int n])).length) Slot.unset).toArray = ls at hl ⊢
  have hl : lv_has ls 7 [(0, .ref (a 23)), (1, .int fi), (2, .int n)] := hl
  refine lv_iload_n hx hb dX6_follow_0 rfl (lv_at hl 1 rfl) ?_
  refine lv_istore_n (lv' := [(3, .int fi), (0, .ref (a 23)), (1, .int fi), (2, .int n)]) hx hb dX6_follow_1 rfl hl (by decide) rfl (fun ls hl => ?_)
  refine lv_iconst (v := 1) hx hb dX6_follow_2 (by decide) ?_
  refine lv_iload_n hx hb dX6_follow_3 rfl (lv_at hl 2 rfl) ?_
  refine lv_ishl hx hb dX6_follow_4 ?_
  have f1 : 1 ≤ ((1 : Int32) <<< (fi &&& 31)).toInt ∧ ((1 : Int32) <<< (fi &&& 31)).toInt ≤ 128 := shl1 rfl (by omega) 7 (by omega) (by decide)
  refine lv_topi (fun x2 ex2 => ?_)
  have ix2 : x2.toInt = ((1 : Int32) <<< (fi &&& 31)).toInt := by rw [ex2]
  refine lv_istore (lv' := [(4, .int x2), (3, .int fi), (0, .ref (a 23)), (1, .int fi), (2, .int n)]) hx hb dX6_follow_5 hl (by decide) rfl (fun ls hl => ?_)
  refine lv_aload_n hx hb dX6_follow_7 rfl (lv_at hl 2 rfl) ?_
  refine va_get (D := (dC, dI)) (ci := 6) (v := .ref (a 25)) (C := RX6) (T := TX6) (N := 5) hx hb hts inX6 hown hK hP 0 rfl rfl 2 (by decide) lf15 (fun _ h9 => h9) rfl dX6_follow_8 ?_
  refine lv_iconst (v := 0) hx hb dX6_follow_11 (by decide) ?_
  refine lv_aload_n hx hb dX6_follow_12 rfl (lv_at hl 2 rfl) ?_
  refine va_get (D := (dC, dI)) (ci := 6) (v := .ref (a 24)) (C := RX6) (T := TX6) (N := 5) hx hb hts inX6 hown hK hP 0 rfl rfl 1 (by decide) lf9 (fun _ h9 => h9) rfl dX6_follow_13 ?_
  refine lv_iload_n hx hb dX6_follow_16 rfl (lv_at hl 3 rfl) ?_
  have b3 : vp_in fi 8 := inC rfl (by omega) (by omega)
  refine va_iald hx hb hK hP 1 0 rfl rfl b3 dX6_follow_17 ?_
  have g4 : 0 ≤ (sor fi.toNatClampNeg).toInt ∧ (sor fi.toNatClampNeg).toInt ≤ 23 := rg_at r_sor b3
  refine lv_topi (fun x5 ex5 => ?_)
  have ix5 : x5.toInt = (sor fi.toNatClampNeg).toInt := by rw [ex5]
  have b6 : vp_in 0 8 := (show ¬ _ from by decide)
  refine va_iast hx hb hK hP hD hS 2 0 rfl rfl b6 dX6_follow_18 (fun H locs hP hD hS => ?_)
  obtain ⟨ord_u7, eord_u7⟩ : ∃ f : Nat → Int32, f = upd ord (0 : Int32).toNatClampNeg x5 := ⟨_, rfl⟩
  have hP : va_P (dC, dI) vwCl (wSpe cI cZ cQ a sor ord_u7 sha toc mar tol) H := by rw [eord_u7]; exact hP
  have hD : va_D A (wSpe cI cZ cQ a sor ord_u7 sha toc mar tol) := by rw [eord_u7]; exact hD
  refine lv_iconst (v := 1) hx hb dX6_follow_19 (by decide) ?_
  refine lv_istore (lv' := [(5, .int 1), (4, .int x2), (3, .int fi), (0, .ref (a 23)), (1, .int fi), (2, .int n)]) hx hb dX6_follow_20 hl (by decide) rfl (fun ls hl => ?_)
  have L22 : ∀ (nn : Nat) (y22_3 : Int32) (y22_4 : Int32) (y22_5 : Int32) (ord_22 : Nat → Int32) (H : Heap) (locs : List Loc) (ls : Array Slot), (1 ≤ (y22_5.toInt)) → ((y22_5.toInt) ≤ 8) → (0 ≤ (y22_3.toInt)) → ((y22_3.toInt) ≤ 7) → (0 ≤ (y22_4.toInt)) → ((y22_4.toInt) ≤ 255) → (8 - (y22_5.toInt)).toNat < nn → va_P (dC, dI) vwCl (wSpe cI cZ cQ a sor ord_22 sha toc mar tol) H → va_D A (wSpe cI cZ cQ a sor ord_22 sha toc mar tol) → va_S A s.heap H locs → lv_has ls 7 [(0, .ref (a 23)), (2, .int n), (3, .int y22_3), (4, .int y22_4), (5, .int y22_5)] → W p l e (headSpec wsX6_follow { frames := 3, cells := 0, slots := 0, locals := 70 }).room s m ([.ref (a 23), .int fi, .int n] : List Value).toArray below meth c H locs 0 0 (MQ below (va_Qv (fun (u : US) => True) (Bw (dC, dI) A (fun u : US => (wSpe cI cZ cQ a sor (u.1 0) sha toc mar tol))) A) ([.ref (a 23), .int fi, .int n] : List Value).toArray s 0 0 A) (F0 m 22 ls []) := by
    intro nn
    induction nn with
    | zero =>
      intro y22_3 y22_4 y22_5 ord_22 H locs ls i22_0 i22_1 i22_2 i22_3 i22_4 i22_5 hm
      exact absurd hm (Nat.not_lt_zero _)
    | succ nn ih22 =>
      intro y22_3 y22_4 y22_5 ord_22 H locs ls i22_0 i22_1 i22_2 i22_3 i22_4 i22_5 hm hP hD hS hl
      refine lv_iload hx hb dX6_follow_22 (lv_at hl 4 rfl) ?_
      refine lv_iload_n hx hb dX6_follow_24 rfl (lv_at hl 1 rfl) ?_
      refine lv_icmp_ge (tgt := 77) hx hb dX6_follow_25 (by decide) (fun c8 => ?_) (fun c8 => ?_)
      · have dc8 : n.toInt ≤ y22_5.toInt := leC rfl rfl c8
        exact W.vret hx hb hr (fun t ht hW => ⟨⟨(uS [ord_22] 0 (fun _ => 0)), rfl, trivial, by rw [ht]; exact hP, hD⟩, hS.F ht⟩) hS.2.2 dX6_follow_77
      · have dc8 : y22_5.toInt < n.toInt := nleC rfl rfl c8
        refine lv_aload_n hx hb dX6_follow_28 rfl (lv_at hl 0 rfl) ?_
        refine lv_iload hx hb dX6_follow_29 (lv_at hl 3 rfl) ?_
        refine lv_iload_n hx hb dX6_follow_31 rfl (lv_at hl 2 rfl) ?_
        refine lv_iload_n hx hb dX6_follow_32 rfl (lv_at hl 1 rfl) ?_
        refine rdV (As := [.int y22_4, .int y22_3, .int n]) (rest := []) ⟨hx, hb, hml, hown, hts⟩ (k_X6_bestNext l dC dI cI cZ cQ a sor ord_22 sha toc mar tol y22_4 y22_3 n r_sor r_mar r_tol (by omega) (by omega) (by omega) (by omega) (by omega) (by omega)) (cwV 3 hts gX6_follow_X6_bestNext rfl rfl rfl (by decide +kernel) ⟨Nat.le_of_ble_eq_true rfl, Nat.le_of_ble_eq_true rfl⟩) hP hK hN [0, 1, 2, 3, 4, 5, 6, 7] rfl 0 6 rfl rfl rfl hl.1 rfl (Nat.le_of_ble_eq_true rfl) dX6_follow_33 ⟨Nat.le_of_ble_eq_true rfl, Nat.le_of_ble_eq_true rfl⟩ (fun r9 h10 => ?_)
        have h10 : (-1 ≤ r9.toInt) ∧ (r9.toInt ≤ 7) := h10
        obtain ⟨h10_0, h10_1⟩ := h10
        refine lv_istore (lv' := [(6, .int r9), (0, .ref (a 23)), (2, .int n), (3, .int y22_3), (4, .int y22_4), (5, .int y22_5)]) hx hb dX6_follow_36 hl (by decide) rfl (fun ls hl => ?_)
        refine lv_iload hx hb dX6_follow_38 (lv_at hl 0 rfl) ?_
        refine lv_iconst (v := (-1)) hx hb dX6_follow_40 (by decide) ?_
        refine lv_icmp_ne (tgt := 45) hx hb dX6_follow_41 (by decide) (fun c11 => ?_) (fun c11 => ?_)
        · have dc11 : r9.toInt ≠ (-1) := neC rfl (show ((-1) : Int32).toInt = (-1) from rfl) c11
          refine lv_aload_n hx hb dX6_follow_45 rfl (lv_at hl 1 rfl) ?_
          refine va_get (D := (dC, dI)) (ci := 6) (v := .ref (a 25)) (C := RX6) (T := TX6) (N := 5) hx hb hts inX6 hown hK hP 0 rfl rfl 2 (by decide) lf15 (fun _ h9 => h9) rfl dX6_follow_46 ?_
          refine lv_iload hx hb dX6_follow_49 (lv_at hl 5 rfl) ?_
          refine lv_aload_n hx hb dX6_follow_51 rfl (lv_at hl 1 rfl) ?_
          refine va_get (D := (dC, dI)) (ci := 6) (v := .ref (a 24)) (C := RX6) (T := TX6) (N := 5) hx hb hts inX6 hown hK hP 0 rfl rfl 1 (by decide) lf9 (fun _ h9 => h9) rfl dX6_follow_52 ?_
          refine lv_iload hx hb dX6_follow_55 (lv_at hl 0 rfl) ?_
          have b12 : vp_in r9 8 := inC rfl (by omega) (by omega)
          refine va_iald hx hb hK hP 1 0 rfl rfl b12 dX6_follow_57 ?_
          have g13 : 0 ≤ (sor r9.toNatClampNeg).toInt ∧ (sor r9.toNatClampNeg).toInt ≤ 23 := rg_at r_sor b12
          refine lv_topi (fun x14 ex14 => ?_)
          have ix14 : x14.toInt = (sor r9.toNatClampNeg).toInt := by rw [ex14]
          have b15 : vp_in y22_5 8 := inC rfl (by omega) (by omega)
          refine va_iast hx hb hK hP hD hS 2 0 rfl rfl b15 dX6_follow_58 (fun H locs hP hD hS => ?_)
          obtain ⟨ord_u16, eord_u16⟩ : ∃ f : Nat → Int32, f = upd ord_22 y22_5.toNatClampNeg x14 := ⟨_, rfl⟩
          have hP : va_P (dC, dI) vwCl (wSpe cI cZ cQ a sor ord_u16 sha toc mar tol) H := by rw [eord_u16]; exact hP
          have hD : va_D A (wSpe cI cZ cQ a sor ord_u16 sha toc mar tol) := by rw [eord_u16]; exact hD
          refine lv_iload hx hb dX6_follow_59 (lv_at hl 4 rfl) ?_
          refine lv_iconst (v := 1) hx hb dX6_follow_61 (by decide) ?_
          refine lv_iload hx hb dX6_follow_62 (lv_at hl 0 rfl) ?_
          refine lv_ishl hx hb dX6_follow_64 ?_
          have f17 : 1 ≤ ((1 : Int32) <<< (r9 &&& 31)).toInt ∧ ((1 : Int32) <<< (r9 &&& 31)).toInt ≤ 128 := shl1 rfl (by omega) 7 (by omega) (by decide)
          refine lv_ior hx hb dX6_follow_65 ?_
          have f18 : 0 ≤ (y22_4 ||| ((1 : Int32) <<< (r9 &&& 31))).toInt ∧ (y22_4 ||| ((1 : Int32) <<< (r9 &&& 31))).toInt ≤ 255 := orB rfl rfl 8 (by omega) (by omega) (by omega) (by omega) (by decide)
          refine lv_topi (fun x19 ex19 => ?_)
          have ix19 : x19.toInt = (y22_4 ||| ((1 : Int32) <<< (r9 &&& 31))).toInt := by rw [ex19]
          refine lv_istore (lv' := [(4, .int x19), (6, .int r9), (0, .ref (a 23)), (2, .int n), (3, .int y22_3), (5, .int y22_5)]) hx hb dX6_follow_66 hl (by decide) rfl (fun ls hl => ?_)
          refine lv_iload hx hb dX6_follow_68 (lv_at hl 1 rfl) ?_
          refine lv_istore_n (lv' := [(3, .int r9), (4, .int x19), (6, .int r9), (0, .ref (a 23)), (2, .int n), (5, .int y22_5)]) hx hb dX6_follow_70 rfl hl (by decide) rfl (fun ls hl => ?_)
          obtain ⟨z20, ez20⟩ : ∃ y : Int32, y = y22_5 + 1 := ⟨_, rfl⟩
          have iz20 : z20.toInt = y22_5.toInt + 1 := by rw [ez20]; exact addC rfl rfl (by omega) (by omega)
          refine lv_iinc (v := z20) (lv' := [(5, .int z20), (3, .int r9), (4, .int x19), (6, .int r9), (0, .ref (a 23)), (2, .int n)]) hx hb dX6_follow_71 hl (k := 5) rfl (by rw [ez20]; rfl) (by decide) rfl (fun ls hl => ?_)
          refine lv_goto (tgt := 22) hx hb dX6_follow_74 (by decide) ?_
          exact ih22 r9 x19 z20 ord_u16 _ _ _ (by omega) (by omega) (by omega) (by omega) (by omega) (by omega) (by omega) hP hD hS (lv_sub hl [4, 5, 1, 2, 0] rfl)
        · have dc11 : r9.toInt = (-1) := eqC rfl (show ((-1) : Int32).toInt = (-1) from rfl) c11
          exact W.vret hx hb hr (fun t ht hW => ⟨⟨(uS [ord_22] 0 (fun _ => 0)), rfl, trivial, by rw [ht]; exact hP, hD⟩, hS.F ht⟩) hS.2.2 dX6_follow_44
  have kc21 : (1 : Int32).toInt = 1 := rfl
  exact L22 _ fi x2 1 ord_u7 _ _ _ (by omega) (by omega) (by omega) (by omega) (by omega) (by omega) (Nat.lt_succ_self _) hP hD hS (lv_sub hl [3, 5, 2, 1, 0] rfl)
