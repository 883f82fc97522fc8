set_option maxHeartbeats 4000000 in
set_option maxRecDepth 100000 in
theorem k_X4_dayThatParts2 (l : Launch) (dC : Nat → ClassId) (dI : Nat → Nat → Nat) (cI cZ cQ : ClassId) (pu0 : Nat) (pu1 : Nat) (agr : Nat → Int32) (ans : Int32) (r_ans : 0 ≤ ans.toInt ∧ ans.toInt ≤ 12) : KR l yX4_dayThatParts wsX4_dayThatParts { frames := 3, cells := 0, slots := 0, locals := 64 } (dC, dI) (TY cI cZ cQ) (wPup cI cZ cQ pu0 pu1 agr ans) [.ref pu0] (fun r : Int32 => (r.toInt = dpF agr ans 82)) := by
  refine Met.ofW (cc := cX4_dayThatParts) (maxL := 5) (ret := (some .int)) (by decide) rfl ?_
  intro p e s m args below meth c s₁ B hml hv
  obtain ⟨rfl, hP, hK, hN⟩ := hv
  have hx := B.exec
  have hb := B.bytes
  have hr := B.returns
  have hts := atoms_spec (ws := wsX4_dayThatParts) B.pre
  have hown : s.vm.findClass RX4 = some m.cls := findClass_of_methodNamed B.named
  have hlocks := B.notSynchronized
  have hl := lv_entry ([.ref pu0]) (n := 5) (Nat.le_of_ble_eq_true rfl)
  rw [lg_entry_eq]
  generalize (lg_sl ([.ref pu0]) ++ List.replicate (5 - (lg_sl ([.ref pu0])).length) Slot.unset).toArray = ls at hl ⊢
  have hl : lv_has ls 5 [(0, .ref pu0)] := hl
  refine lv_aload_n hx hb dX4_dayThatParts_0 rfl (lv_at hl 0 rfl) ?_
  refine rdV (As := []) (rest := []) ⟨hx, hb, hml, hown, hts⟩ (k_X4_tablesThatMayBe2 l dC dI cI cZ cQ pu0 pu1 agr ans r_ans) (cwV 0 hts gX4_dayThatParts_X4_tablesThatMayBe rfl rfl rfl (by decide +kernel) ⟨Nat.le_of_ble_eq_true rfl, Nat.le_of_ble_eq_true rfl⟩) hP hK hN [0, 1] rfl 0 4 rfl rfl rfl hl.1 rfl (Nat.le_of_ble_eq_true rfl) dX4_dayThatParts_1 ⟨Nat.le_of_ble_eq_true rfl, Nat.le_of_ble_eq_true rfl⟩ (fun r1 h2 => ?_)
  have h2 : (0 ≤ r1.toInt) ∧ (r1.toInt ≤ 81) ∧ (r1.toInt = mayF agr ans 81) := h2
  obtain ⟨h2_0, h2_1, h2_2⟩ := h2
  refine lv_if_ne (tgt := 9) hx hb dX4_dayThatParts_4 (by decide) (fun c3 => ?_) (fun c3 => ?_)
  · have dc3 : 1 ≤ r1.toInt := ka_lo (by omega) (neC rfl (show (0 : Int32).toInt = 0 from rfl) c3)
    refine lv_iconst (v := (-1)) hx hb dX4_dayThatParts_9 (by decide) ?_
    refine lv_istore_n (lv' := [(1, .int (-1)), (0, .ref pu0)]) hx hb dX4_dayThatParts_10 rfl hl (by decide) rfl (fun ls hl => ?_)
    refine lv_bipush (v := 82) hx hb dX4_dayThatParts_11 (by decide) ?_
    refine lv_istore_n (lv' := [(2, .int 82), (1, .int (-1)), (0, .ref pu0)]) hx hb dX4_dayThatParts_13 rfl hl (by decide) rfl (fun ls hl => ?_)
    refine lv_iconst (v := 1) hx hb dX4_dayThatParts_14 (by decide) ?_
    refine lv_istore_n (lv' := [(3, .int 1), (2, .int 82), (1, .int (-1)), (0, .ref pu0)]) hx hb dX4_dayThatParts_15 rfl hl (by decide) rfl (fun ls hl => ?_)
    have L16 : ∀ (nn : Nat) (y16_1 : Int32) (y16_2 : Int32) (y16_3 : Int32) (ls : Array Slot), (1 ≤ (y16_3.toInt)) → ((y16_3.toInt) ≤ 61) → (-1 ≤ (y16_1.toInt)) → ((y16_1.toInt) ≤ 60) → (0 ≤ (y16_2.toInt)) → ((y16_2.toInt) ≤ 82) → (((y16_1.toInt), (y16_2.toInt)) = fdP agr ans 82 ((y16_3.toInt) - 1).toNat) → (61 - (y16_3.toInt)).toNat < nn → lv_has ls 5 [(0, .ref pu0), (1, .int y16_1), (2, .int y16_2), (3, .int y16_3)] → W p l e (headSpec wsX4_dayThatParts { frames := 3, cells := 0, slots := 0, locals := 64 }).room s m ([.ref pu0] : List Value).toArray below meth c s.heap [] 0 0 (MQ below (QR (fun r : Int32 => (r.toInt = dpF agr ans 82))) ([.ref pu0] : List Value).toArray s 0 0 (fun _ => False)) (F0 m 16 ls []) := by
      intro nn
      induction nn with
      | zero =>
        intro y16_1 y16_2 y16_3 ls i16_0 i16_1 i16_2 i16_3 i16_4 i16_5 i16_6 hm16
        exact absurd hm16 (Nat.not_lt_zero _)
      | succ nn ih16 =>
        intro y16_1 y16_2 y16_3 ls i16_0 i16_1 i16_2 i16_3 i16_4 i16_5 i16_6 hm16 hl
        refine lv_iload_n hx hb dX4_dayThatParts_16 rfl (lv_at hl 3 rfl) ?_
        refine lv_bipush (v := 60) hx hb dX4_dayThatParts_17 (by decide) ?_
        refine lv_icmp_gt (tgt := 46) hx hb dX4_dayThatParts_19 (by decide) (fun c4 => ?_) (fun c4 => ?_)
        · have dc4 : 60 < y16_3.toInt := ltC (show (60 : Int32).toInt = 60 from rfl) rfl c4
          refine lv_iload_n hx hb dX4_dayThatParts_46 rfl (lv_at hl 1 rfl) ?_
          exact W.iret (v := y16_1) hx hb hr (fun tq ht hW => ⟨y16_1, rfl, (show y16_1.toInt = dpF agr ans 82 from by (first | exact dp_0 (by assumption) (by omega) rfl | exact dp_1 (by assumption) (by omega) i16_6 (by omega))), ht⟩) (fun q h => by cases h) dX4_dayThatParts_47
        · have dc4 : y16_3.toInt ≤ 60 := nltC (show (60 : Int32).toInt = 60 from rfl) rfl c4
          refine lv_aload_n hx hb dX4_dayThatParts_22 rfl (lv_at hl 0 rfl) ?_
          refine lv_iload_n hx hb dX4_dayThatParts_23 rfl (lv_at hl 3 rfl) ?_
          refine rdV (As := [.int y16_3]) (rest := []) ⟨hx, hb, hml, hown, hts⟩ (k_X4_unlikeness2 l dC dI cI cZ cQ pu0 pu1 agr ans y16_3 r_ans (by omega) (by omega)) (cwV 1 hts gX4_dayThatParts_X4_unlikeness rfl rfl rfl (by decide +kernel) ⟨Nat.le_of_ble_eq_true rfl, Nat.le_of_ble_eq_true rfl⟩) hP hK hN [0, 1] rfl 0 4 rfl rfl rfl hl.1 rfl (Nat.le_of_ble_eq_true rfl) dX4_dayThatParts_24 ⟨Nat.le_of_ble_eq_true rfl, Nat.le_of_ble_eq_true rfl⟩ (fun r5 h6 => ?_)
          have h6 : (r5.toInt = ofF agr ans y16_3) ∧ (0 ≤ r5.toInt) ∧ (r5.toInt ≤ 81) := h6
          obtain ⟨h6_0, h6_1, h6_2⟩ := h6
          refine lv_istore (lv' := [(4, .int r5), (0, .ref pu0), (1, .int y16_1), (2, .int y16_2), (3, .int y16_3)]) hx hb dX4_dayThatParts_27 hl (by decide) rfl (fun ls hl => ?_)
          refine lv_iload hx hb dX4_dayThatParts_29 (lv_at hl 0 rfl) ?_
          refine lv_iload_n hx hb dX4_dayThatParts_31 rfl (lv_at hl 3 rfl) ?_
          refine lv_icmp_ge (tgt := 40) hx hb dX4_dayThatParts_32 (by decide) (fun c7 => ?_) (fun c7 => ?_)
          · have dc7 : y16_2.toInt ≤ r5.toInt := leC rfl rfl c7
            obtain ⟨z8, ez8⟩ : ∃ y : Int32, y = y16_3 + 1 := ⟨_, rfl⟩
            have iz8 : z8.toInt = y16_3.toInt + 1 := by rw [ez8]; exact addC rfl rfl (by omega) (by omega)
            refine lv_iinc (v := z8) (lv' := [(3, .int z8), (4, .int r5), (0, .ref pu0), (1, .int y16_1), (2, .int y16_2)]) hx hb dX4_dayThatParts_40 hl (k := 4) rfl (by rw [ez8]; rfl) (by decide) rfl (fun ls hl => ?_)
            refine lv_goto (tgt := 16) hx hb dX4_dayThatParts_43 (by decide) ?_
            exact ih16 y16_1 y16_2 z8 _ (by omega) (by omega) (by omega) (by omega) (by omega) (by omega) (by (first | exact fd_y (d := y16_3) i16_6 (by omega) rfl (by assumption) (by omega) (by omega) | exact fd_n (d := y16_3) i16_6 (by omega) (by assumption) (by omega) (by omega) | exact fd_0 (by first | rfl | omega) (by first | rfl | omega) (by first | rfl | omega))) (by omega) (lv_sub hl [2, 3, 4, 0] rfl)
          · have dc7 : r5.toInt < y16_2.toInt := nleC rfl rfl c7
            refine lv_iload hx hb dX4_dayThatParts_35 (lv_at hl 0 rfl) ?_
            refine lv_istore_n (lv' := [(2, .int r5), (4, .int r5), (0, .ref pu0), (1, .int y16_1), (3, .int y16_3)]) hx hb dX4_dayThatParts_37 rfl hl (by decide) rfl (fun ls hl => ?_)
            refine lv_iload_n hx hb dX4_dayThatParts_38 rfl (lv_at hl 4 rfl) ?_
            refine lv_istore_n (lv' := [(1, .int y16_3), (2, .int r5), (4, .int r5), (0, .ref pu0), (3, .int y16_3)]) hx hb dX4_dayThatParts_39 rfl hl (by decide) rfl (fun ls hl => ?_)
            obtain ⟨z9, ez9⟩ : ∃ y : Int32, y = y16_3 + 1 := ⟨_, rfl⟩
            have iz9 : z9.toInt = y16_3.toInt + 1 := by rw [ez9]; exact addC rfl rfl (by omega) (by omega)
            refine lv_iinc (v := z9) (lv' := [(3, .int z9), (1, .int y16_3), (2, .int r5), (4, .int r5), (0, .ref pu0)]) hx hb dX4_dayThatParts_40 hl (k := 4) rfl (by rw [ez9]; rfl) (by decide) rfl (fun ls hl => ?_)
            refine lv_goto (tgt := 16) hx hb dX4_dayThatParts_43 (by decide) ?_
            exact ih16 y16_3 r5 z9 _ (by omega) (by omega) (by omega) (by omega) (by omega) (by omega) (by (first | exact fd_y (d := y16_3) i16_6 (by omega) rfl (by assumption) (by omega) (by omega) | exact fd_n (d := y16_3) i16_6 (by omega) (by assumption) (by omega) (by omega) | exact fd_0 (by first | rfl | omega) (by first | rfl | omega) (by first | rfl | omega))) (by omega) (lv_sub hl [4, 1, 2, 0] rfl)
    have kc10 : ((-1) : Int32).toInt = -1 := rfl
    have kc11 : (82 : Int32).toInt = 82 := rfl
    have kc12 : (1 : Int32).toInt = 1 := rfl
    exact L16 _ (-1) 82 1 _ (by omega) (by omega) (by omega) (by omega) (by omega) (by omega) (by (first | exact fd_y (d := y16_3) i16_6 (by omega) rfl (by assumption) (by omega) (by omega) | exact fd_n (d := y16_3) i16_6 (by omega) (by assumption) (by omega) (by omega) | exact fd_0 (by first | rfl | omega) (by first | rfl | omega) (by first | rfl | omega))) (Nat.lt_succ_self _) (lv_sub hl [3, 2, 1, 0] rfl)
  · have dc3 : r1.toInt = 0 := eqC rfl (show (0 : Int32).toInt = 0 from rfl) c3
    refine lv_iconst (v := (-1)) hx hb dX4_dayThatParts_7 (by decide) ?_
    exact W.iret (v := (-1)) hx hb hr (fun tq ht hW => ⟨(-1), rfl, (show ((-1) : Int32).toInt = dpF agr ans 82 from by (try rw [show ((-1) : Int32).toInt = (-1) from (show ((-1) : Int32).toInt = (-1) from rfl)]); (first | exact dp_0 (by assumption) (by omega) rfl | exact dp_1 (by assumption) (by omega) i16_6 (by omega))), ht⟩) (fun q h => by cases h) dX4_dayThatParts_8
