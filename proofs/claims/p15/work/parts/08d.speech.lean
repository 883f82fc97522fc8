set_option maxHeartbeats 4000000 in
set_option maxRecDepth 100000 in
theorem k_X6_bestNext (l : Launch) (dC : Nat → ClassId) (dI : Nat → Nat → Nat) (cI cZ cQ : ClassId) (a : Nat → Nat) (sor : Nat → Int32) (ord : Nat → Int32) (sha : Nat → Int32) (toc : Nat → Int32) (mar : Nat → Int32) (tol : Nat → Int32) (se : Int32) (la : Int32) (n : Int32) (r_sor : rg 8 (0) (23) sor) (r_mar : rg 24 (0) (255) mar) (r_tol : rg 8 (0) (23) tol) (q0 : 0 ≤ se.toInt) (q1 : se.toInt ≤ 255) (q2 : 0 ≤ la.toInt) (q3 : la.toInt ≤ 7) (q4 : 1 ≤ n.toInt) (q5 : n.toInt ≤ 8) : KR l yX6_bestNext wsX6_bestNext { frames := 2, cells := 0, slots := 0, locals := 45 } (dC, dI) (TY cI cZ cQ) (wSpe cI cZ cQ a sor ord sha toc mar tol) [.ref (a 23), .int se, .int la, .int n] (fun r : Int32 => (-1 ≤ r.toInt) ∧ (r.toInt ≤ 7)) := by
  refine Met.ofW (cc := cX6_bestNext) (maxL := 6) (ret := (some .int)) (by decide) rfl ?_
  intro p e s m args below meth c s₁ B hml hv
  obtain ⟨rfl, hP, hK, hN⟩ := hv
  have hx := B.exec
  have hb := B.bytes
  have hr := B.returns
  have hts := atoms_spec (ws := wsX6_bestNext) B.pre
  have hown : s.vm.findClass RX6 = some m.cls := findClass_of_methodNamed B.named
  have hlocks := B.notSynchronized
  have hl := lv_entry ([.ref (a 23), .int se, .int la, .int n]) (n := 6) (Nat.le_of_ble_eq_true rfl)
  rw [lg_entry_eq]
  generalize (lg_sl ([.ref (a 23), .int se, .int la, .int n]) ++ List.replicate (6 - (lg_sl ([.ref (a 23), .int se, .int la, .int n])).length) Slot.unset).toArray = ls at hl ⊢
  have hl : lv_has ls 6 [(0, .ref (a 23)), (1, .int se), (2, .int la), (3, .int n)] := hl
  refine lv_iconst (v := (-1)) hx hb dX6_bestNext_0 (by decide) ?_
  refine lv_istore (lv' := [(4, .int (-1)), (0, .ref (a 23)), (1, .int se), (2, .int la), (3, .int n)]) hx hb dX6_bestNext_1 hl (by decide) rfl (fun ls hl => ?_)
  refine lv_iconst (v := 0) hx hb dX6_bestNext_3 (by decide) ?_
  refine lv_istore (lv' := [(5, .int 0), (4, .int (-1)), (0, .ref (a 23)), (1, .int se), (2, .int la), (3, .int n)]) hx hb dX6_bestNext_4 hl (by decide) rfl (fun ls hl => ?_)
  have L6 : ∀ (nn : Nat) (y6_4 : Int32) (y6_5 : Int32) (ls : Array Slot), (0 ≤ (y6_5.toInt)) → ((y6_5.toInt) ≤ 8) → (-1 ≤ (y6_4.toInt)) → ((y6_4.toInt) ≤ 7) → (8 - (y6_5.toInt)).toNat < nn → lv_has ls 6 [(0, .ref (a 23)), (1, .int se), (2, .int la), (3, .int n), (4, .int y6_4), (5, .int y6_5)] → W p l e (headSpec wsX6_bestNext { frames := 2, cells := 0, slots := 0, locals := 45 }).room s m ([.ref (a 23), .int se, .int la, .int n] : List Value).toArray below meth c s.heap [] 0 0 (MQ below (QR (fun r : Int32 => (-1 ≤ r.toInt) ∧ (r.toInt ≤ 7))) ([.ref (a 23), .int se, .int la, .int n] : List Value).toArray s 0 0 (fun _ => False)) (F0 m 6 ls []) := by
    intro nn
    induction nn with
    | zero =>
      intro y6_4 y6_5 ls i6_0 i6_1 i6_2 i6_3 hm
      exact absurd hm (Nat.not_lt_zero _)
    | succ nn ih6 =>
      intro y6_4 y6_5 ls i6_0 i6_1 i6_2 i6_3 hm hl
      refine lv_iload hx hb dX6_bestNext_6 (lv_at hl 5 rfl) ?_
      refine lv_iload_n hx hb dX6_bestNext_8 rfl (lv_at hl 3 rfl) ?_
      refine lv_icmp_ge (tgt := 56) hx hb dX6_bestNext_9 (by decide) (fun c1 => ?_) (fun c1 => ?_)
      · have dc1 : n.toInt ≤ y6_5.toInt := leC rfl rfl c1
        refine lv_iload hx hb dX6_bestNext_56 (lv_at hl 4 rfl) ?_
        exact W.iret (v := y6_4) hx hb hr (fun t ht hW => ⟨y6_4, rfl, ⟨(show -1 ≤ y6_4.toInt from by omega), (show y6_4.toInt ≤ 7 from by omega)⟩, ht⟩) (fun q h => by cases h) dX6_bestNext_58
      · have dc1 : y6_5.toInt < n.toInt := nleC rfl rfl c1
        refine lv_iload_n hx hb dX6_bestNext_12 rfl (lv_at hl 1 rfl) ?_
        refine lv_iload hx hb dX6_bestNext_13 (lv_at hl 5 rfl) ?_
        refine lv_ishr hx hb dX6_bestNext_15 ?_
        refine lv_iconst (v := 1) hx hb dX6_bestNext_16 (by decide) ?_
        refine lv_iand hx hb dX6_bestNext_17 ?_
        have f2 := andR (a := (se >>> (y6_5 &&& 31))) (m := 1) (M := 1) rfl (by decide)
        refine lv_if_ne (tgt := 50) hx hb dX6_bestNext_18 (by decide) (fun c3 => ?_) (fun c3 => ?_)
        · have dc3 : ((se >>> (y6_5 &&& 31)) &&& 1).toInt ≠ 0 := neC rfl (show (0 : Int32).toInt = 0 from rfl) c3
          obtain ⟨z4, ez4⟩ : ∃ y : Int32, y = y6_5 + 1 := ⟨_, rfl⟩
          have iz4 : z4.toInt = y6_5.toInt + 1 := by rw [ez4]; exact addC rfl rfl (by omega) (by omega)
          refine lv_iinc (v := z4) (lv' := [(5, .int z4), (0, .ref (a 23)), (1, .int se), (2, .int la), (3, .int n), (4, .int y6_4)]) hx hb dX6_bestNext_50 hl (k := 5) rfl (by rw [ez4]; rfl) (by decide) rfl (fun ls hl => ?_)
          refine lv_goto (tgt := 6) hx hb dX6_bestNext_53 (by decide) ?_
          exact ih6 y6_4 z4 _ (by omega) (by omega) (by omega) (by omega) (by omega) (lv_sub hl [1, 2, 3, 4, 5, 0] rfl)
        · have dc3 : ((se >>> (y6_5 &&& 31)) &&& 1).toInt = 0 := eqC rfl (show (0 : Int32).toInt = 0 from rfl) c3
          refine lv_iload hx hb dX6_bestNext_21 (lv_at hl 4 rfl) ?_
          refine lv_iconst (v := (-1)) hx hb dX6_bestNext_23 (by decide) ?_
          refine lv_icmp_eq (tgt := 46) hx hb dX6_bestNext_24 (by decide) (fun c5 => ?_) (fun c5 => ?_)
          · have dc5 : y6_4.toInt = (-1) := eqC rfl (show ((-1) : Int32).toInt = (-1) from rfl) c5
            refine lv_iload hx hb dX6_bestNext_46 (lv_at hl 5 rfl) ?_
            refine lv_istore (lv' := [(4, .int y6_5), (0, .ref (a 23)), (1, .int se), (2, .int la), (3, .int n), (5, .int y6_5)]) hx hb dX6_bestNext_48 hl (by decide) rfl (fun ls hl => ?_)
            obtain ⟨z6, ez6⟩ : ∃ y : Int32, y = y6_5 + 1 := ⟨_, rfl⟩
            have iz6 : z6.toInt = y6_5.toInt + 1 := by rw [ez6]; exact addC rfl rfl (by omega) (by omega)
            refine lv_iinc (v := z6) (lv' := [(5, .int z6), (4, .int y6_5), (0, .ref (a 23)), (1, .int se), (2, .int la), (3, .int n)]) hx hb dX6_bestNext_50 hl (k := 5) rfl (by rw [ez6]; rfl) (by decide) rfl (fun ls hl => ?_)
            refine lv_goto (tgt := 6) hx hb dX6_bestNext_53 (by decide) ?_
            exact ih6 y6_5 z6 _ (by omega) (by omega) (by omega) (by omega) (by omega) (lv_sub hl [2, 3, 4, 5, 1, 0] rfl)
          · have dc5 : y6_4.toInt ≠ (-1) := neC rfl (show ((-1) : Int32).toInt = (-1) from rfl) c5
            refine lv_aload_n hx hb dX6_bestNext_27 rfl (lv_at hl 0 rfl) ?_
            refine lv_iload_n hx hb dX6_bestNext_28 rfl (lv_at hl 1 rfl) ?_
            refine lv_iload_n hx hb dX6_bestNext_29 rfl (lv_at hl 2 rfl) ?_
            refine lv_iload hx hb dX6_bestNext_30 (lv_at hl 5 rfl) ?_
            refine rdV (As := [.int se, .int la, .int y6_5]) (rest := []) ⟨hx, hb, hml, hown, hts⟩ (k_X6_throughNext l dC dI cI cZ cQ a sor ord sha toc mar tol se la y6_5 r_sor r_mar r_tol (by omega) (by omega) (by omega) (by omega) (by omega) (by omega)) (cwV 3 hts gX6_bestNext_X6_throughNext rfl rfl rfl (by decide +kernel) ⟨Nat.le_of_ble_eq_true rfl, Nat.le_of_ble_eq_true rfl⟩) hP hK hN [0, 1, 2, 3, 4, 5, 6, 7] rfl 0 6 rfl rfl rfl hl.1 rfl (Nat.le_of_ble_eq_true rfl) dX6_bestNext_32 ⟨Nat.le_of_ble_eq_true rfl, Nat.le_of_ble_eq_true rfl⟩ (fun r7 h8 => ?_)
            have h8 : True := h8
            refine lv_aload_n hx hb dX6_bestNext_35 rfl (lv_at hl 0 rfl) ?_
            refine lv_iload_n hx hb dX6_bestNext_36 rfl (lv_at hl 1 rfl) ?_
            refine lv_iload_n hx hb dX6_bestNext_37 rfl (lv_at hl 2 rfl) ?_
            refine lv_iload hx hb dX6_bestNext_38 (lv_at hl 4 rfl) ?_
            refine rdV (As := [.int se, .int la, .int y6_4]) (rest := [.int r7]) ⟨hx, hb, hml, hown, hts⟩ (k_X6_throughNext l dC dI cI cZ cQ a sor ord sha toc mar tol se la y6_4 r_sor r_mar r_tol (by omega) (by omega) (by omega) (by omega) (by omega) (by omega)) (cwV 3 hts gX6_bestNext_X6_throughNext rfl rfl rfl (by decide +kernel) ⟨Nat.le_of_ble_eq_true rfl, Nat.le_of_ble_eq_true rfl⟩) hP hK hN [0, 1, 2, 3, 4, 5, 6, 7] rfl 0 6 rfl rfl rfl hl.1 rfl (Nat.le_of_ble_eq_true rfl) dX6_bestNext_40 ⟨Nat.le_of_ble_eq_true rfl, Nat.le_of_ble_eq_true rfl⟩ (fun r9 h10 => ?_)
            have h10 : True := h10
            refine lv_icmp_ge (tgt := 50) hx hb dX6_bestNext_43 (by decide) (fun c11 => ?_) (fun c11 => ?_)
            · have dc11 : r9.toInt ≤ r7.toInt := leC rfl rfl c11
              obtain ⟨z12, ez12⟩ : ∃ y : Int32, y = y6_5 + 1 := ⟨_, rfl⟩
              have iz12 : z12.toInt = y6_5.toInt + 1 := by rw [ez12]; exact addC rfl rfl (by omega) (by omega)
              refine lv_iinc (v := z12) (lv' := [(5, .int z12), (0, .ref (a 23)), (1, .int se), (2, .int la), (3, .int n), (4, .int y6_4)]) hx hb dX6_bestNext_50 hl (k := 5) rfl (by rw [ez12]; rfl) (by decide) rfl (fun ls hl => ?_)
              refine lv_goto (tgt := 6) hx hb dX6_bestNext_53 (by decide) ?_
              exact ih6 y6_4 z12 _ (by omega) (by omega) (by omega) (by omega) (by omega) (lv_sub hl [1, 2, 3, 4, 5, 0] rfl)
            · have dc11 : r7.toInt < r9.toInt := nleC rfl rfl c11
              refine lv_iload hx hb dX6_bestNext_46 (lv_at hl 5 rfl) ?_
              refine lv_istore (lv' := [(4, .int y6_5), (0, .ref (a 23)), (1, .int se), (2, .int la), (3, .int n), (5, .int y6_5)]) hx hb dX6_bestNext_48 hl (by decide) rfl (fun ls hl => ?_)
              obtain ⟨z13, ez13⟩ : ∃ y : Int32, y = y6_5 + 1 := ⟨_, rfl⟩
              have iz13 : z13.toInt = y6_5.toInt + 1 := by rw [ez13]; exact addC rfl rfl (by omega) (by omega)
              refine lv_iinc (v := z13) (lv' := [(5, .int z13), (4, .int y6_5), (0, .ref (a 23)), (1, .int se), (2, .int la), (3, .int n)]) hx hb dX6_bestNext_50 hl (k := 5) rfl (by rw [ez13]; rfl) (by decide) rfl (fun ls hl => ?_)
              refine lv_goto (tgt := 6) hx hb dX6_bestNext_53 (by decide) ?_
              exact ih6 y6_5 z13 _ (by omega) (by omega) (by omega) (by omega) (by omega) (lv_sub hl [2, 3, 4, 5, 1, 0] rfl)
  have kc14 : ((-1) : Int32).toInt = -1 := rfl
  have kc15 : (0 : Int32).toInt = 0 := rfl
  exact L6 _ (-1) 0 _ (by omega) (by omega) (by omega) (by omega) (Nat.lt_succ_self _) (lv_sub hl [2, 3, 4, 5, 1, 0] rfl)
