set_option maxHeartbeats 4000000 in
set_option maxRecDepth 100000 in
theorem k_X4_mayBe2 (l : Launch) (dC : Nat → ClassId) (dI : Nat → Nat → Nat) (cI cZ cQ : ClassId) (pu0 : Nat) (pu1 : Nat) (agr : Nat → Int32) (ans : Int32) (tb : Int32) (r_ans : 0 ≤ ans.toInt ∧ ans.toInt ≤ 12) (q0 : 0 ≤ tb.toInt) (q1 : tb.toInt ≤ 80) : KR l yX4_mayBe wsX4_mayBe { frames := 0, cells := 0, slots := 0, locals := 0 } (dC, dI) (TY cI cZ cQ) (wPup cI cZ cQ pu0 pu1 agr ans) [.ref pu0, .int tb] (fun r : Int32 => ((((r = 1) ∧ (agr tb.toNatClampNeg = ans)) ∨ ((r = 0) ∧ (¬ agr tb.toNatClampNeg = ans))))) := by
  refine Met.ofW (cc := cX4_mayBe) (maxL := 2) (ret := (some .boolean)) (by decide) rfl ?_
  intro p e s m args below meth c s₁ B hml hv
  obtain ⟨rfl, hP, hK, hN⟩ := hv
  have hx := B.exec
  have hb := B.bytes
  have hr := B.returns
  have hts := atoms_spec (ws := wsX4_mayBe) B.pre
  have hown : s.vm.findClass RX4 = some m.cls := findClass_of_methodNamed B.named
  have hlocks := B.notSynchronized
  have lf11 := hts (.fieldLink RX4 11 "PalaceOfRooms$Pupil" "agreement" "[I") (List.mem_cons_of_mem _ (List.mem_append_left _ (List.mem_of_getElem? (i := 0) rfl)))
  have inX4 : ∀ w ∈ wsX40, w ∈ wsX4_mayBe := fun w h => List.mem_cons_of_mem _ (List.mem_append_right _ h)
  have lf19 := hts (.fieldLink RX4 19 "PalaceOfRooms$Pupil" "answers" "I") (List.mem_cons_of_mem _ (List.mem_append_left _ (List.mem_of_getElem? (i := 1) rfl)))
  have hl := lv_entry ([.ref pu0, .int tb]) (n := 2) (Nat.le_of_ble_eq_true rfl)
  rw [lg_entry_eq]
  generalize (lg_sl ([.ref pu0, .int tb]) ++ List.replicate (2 - (lg_sl ([.ref pu0, .int tb])).length) Slot.unset).toArray = ls at hl ⊢
  have hl : lv_has ls 2 [(0, .ref pu0), (1, .int tb)] := hl
  refine lv_aload_n hx hb dX4_mayBe_0 rfl (lv_at hl 0 rfl) ?_
  refine va_get (D := (dC, dI)) (ci := 4) (v := .ref pu1) (C := RX4) (T := TX4) (N := 2) hx hb hts inX4 hown hK hP 0 rfl rfl 0 (by decide) lf11 (fun _ h9 => h9) rfl dX4_mayBe_1 ?_
  refine lv_iload_n hx hb dX4_mayBe_4 rfl (lv_at hl 1 rfl) ?_
  have b1 : vp_in tb 81 := inC rfl (by omega) (by omega)
  refine va_iald hx hb hK hP 1 0 rfl rfl b1 dX4_mayBe_5 ?_
  refine lv_aload_n hx hb dX4_mayBe_6 rfl (lv_at hl 0 rfl) ?_
  refine va_get (D := (dC, dI)) (ci := 4) (v := .int ans) (C := RX4) (T := TX4) (N := 2) hx hb hts inX4 hown hK hP 0 rfl rfl 1 (by decide) lf19 (fun _ h9 => h9) rfl dX4_mayBe_7 ?_
  refine lv_icmp_ne (tgt := 17) hx hb dX4_mayBe_10 (by decide) (fun c2 => ?_) (fun c2 => ?_)
  · have dc2 : (agr tb.toNatClampNeg).toInt ≠ ans.toInt := neC rfl rfl c2
    refine lv_iconst (v := 0) hx hb dX4_mayBe_17 (by decide) ?_
    exact W.zret (v := 0) hx hb hr (by decide) (fun tq ht hW => ⟨0, rfl, (Or.inr (⟨rfl, (show ¬ agr tb.toNatClampNeg = ans from by (try rw [show (0 : Int32).toInt = 0 from (show (0 : Int32).toInt = 0 from rfl)]); assumption)⟩)), ht⟩) (fun q h => by cases h) dX4_mayBe_18
  · have dc2 : (agr tb.toNatClampNeg).toInt = ans.toInt := eqC rfl rfl c2
    refine lv_iconst (v := 1) hx hb dX4_mayBe_13 (by decide) ?_
    refine lv_goto (tgt := 18) hx hb dX4_mayBe_14 (by decide) ?_
    exact W.zret (v := 1) hx hb hr (by decide) (fun tq ht hW => ⟨1, rfl, (Or.inl (⟨rfl, (show agr tb.toNatClampNeg = ans from by (try rw [show (1 : Int32).toInt = 1 from (show (1 : Int32).toInt = 1 from rfl)]); assumption)⟩)), ht⟩) (fun q h => by cases h) dX4_mayBe_18
set_option maxHeartbeats 4000000 in
set_option maxRecDepth 100000 in
theorem k_X4_tablesThatMayBe2 (l : Launch) (dC : Nat → ClassId) (dI : Nat → Nat → Nat) (cI cZ cQ : ClassId) (pu0 : Nat) (pu1 : Nat) (agr : Nat → Int32) (ans : Int32) (r_ans : 0 ≤ ans.toInt ∧ ans.toInt ≤ 12) : KR l yX4_tablesThatMayBe wsX4_tablesThatMayBe { frames := 1, cells := 0, slots := 0, locals := 21 } (dC, dI) (TY cI cZ cQ) (wPup cI cZ cQ pu0 pu1 agr ans) [.ref pu0] (fun r : Int32 => (0 ≤ r.toInt) ∧ (r.toInt ≤ 81) ∧ (r.toInt = mayF agr ans 81)) := by
  refine Met.ofW (cc := cX4_tablesThatMayBe) (maxL := 3) (ret := (some .int)) (by decide) rfl ?_
  intro p e s m args below meth c s₁ B hml hv
  obtain ⟨rfl, hP, hK, hN⟩ := hv
  have hx := B.exec
  have hb := B.bytes
  have hr := B.returns
  have hts := atoms_spec (ws := wsX4_tablesThatMayBe) B.pre
  have hown : s.vm.findClass RX4 = some m.cls := findClass_of_methodNamed B.named
  have hlocks := B.notSynchronized
  have hl := lv_entry ([.ref pu0]) (n := 3) (Nat.le_of_ble_eq_true rfl)
  rw [lg_entry_eq]
  generalize (lg_sl ([.ref pu0]) ++ List.replicate (3 - (lg_sl ([.ref pu0])).length) Slot.unset).toArray = ls at hl ⊢
  have hl : lv_has ls 3 [(0, .ref pu0)] := hl
  refine lv_iconst (v := 0) hx hb dX4_tablesThatMayBe_0 (by decide) ?_
  refine lv_istore_n (lv' := [(1, .int 0), (0, .ref pu0)]) hx hb dX4_tablesThatMayBe_1 rfl hl (by decide) rfl (fun ls hl => ?_)
  refine lv_iconst (v := 0) hx hb dX4_tablesThatMayBe_2 (by decide) ?_
  refine lv_istore_n (lv' := [(2, .int 0), (1, .int 0), (0, .ref pu0)]) hx hb dX4_tablesThatMayBe_3 rfl hl (by decide) rfl (fun ls hl => ?_)
  have L4 : ∀ (nn : Nat) (y4_1 : Int32) (y4_2 : Int32) (ls : Array Slot), (0 ≤ (y4_2.toInt)) → ((y4_2.toInt) ≤ 81) → (0 ≤ (y4_1.toInt)) → ((y4_1.toInt) ≤ 81) → ((y4_1.toInt) ≤ (y4_2.toInt)) → ((y4_1.toInt) = mayF agr ans ((y4_2.toInt)).toNat) → (81 - (y4_2.toInt)).toNat < nn → lv_has ls 3 [(0, .ref pu0), (1, .int y4_1), (2, .int y4_2)] → W p l e (headSpec wsX4_tablesThatMayBe { frames := 1, cells := 0, slots := 0, locals := 21 }).room s m ([.ref pu0] : List Value).toArray below meth c s.heap [] 0 0 (MQ below (QR (fun r : Int32 => (0 ≤ r.toInt) ∧ (r.toInt ≤ 81) ∧ (r.toInt = mayF agr ans 81))) ([.ref pu0] : List Value).toArray s 0 0 (fun _ => False)) (F0 m 4 ls []) := by
    intro nn
    induction nn with
    | zero =>
      intro y4_1 y4_2 ls i4_0 i4_1 i4_2 i4_3 i4_4 i4_5 hm4
      exact absurd hm4 (Nat.not_lt_zero _)
    | succ nn ih4 =>
      intro y4_1 y4_2 ls i4_0 i4_1 i4_2 i4_3 i4_4 i4_5 hm4 hl
      refine lv_iload_n hx hb dX4_tablesThatMayBe_4 rfl (lv_at hl 2 rfl) ?_
      refine lv_bipush (v := 81) hx hb dX4_tablesThatMayBe_5 (by decide) ?_
      refine lv_icmp_ge (tgt := 27) hx hb dX4_tablesThatMayBe_7 (by decide) (fun c1 => ?_) (fun c1 => ?_)
      · have dc1 : 81 ≤ y4_2.toInt := leC (show (81 : Int32).toInt = 81 from rfl) rfl c1
        refine lv_iload_n hx hb dX4_tablesThatMayBe_27 rfl (lv_at hl 1 rfl) ?_
        exact W.iret (v := y4_1) hx hb hr (fun tq ht hW => ⟨y4_1, rfl, ⟨(show 0 ≤ y4_1.toInt from by omega), (show y4_1.toInt ≤ 81 from by omega), (show y4_1.toInt = mayF agr ans 81 from by exact my_e i4_5 (by omega))⟩, ht⟩) (fun q h => by cases h) dX4_tablesThatMayBe_28
      · have dc1 : y4_2.toInt < 81 := nleC (show (81 : Int32).toInt = 81 from rfl) rfl c1
        refine lv_aload_n hx hb dX4_tablesThatMayBe_10 rfl (lv_at hl 0 rfl) ?_
        refine lv_iload_n hx hb dX4_tablesThatMayBe_11 rfl (lv_at hl 2 rfl) ?_
        refine rdV (As := [.int y4_2]) (rest := []) ⟨hx, hb, hml, hown, hts⟩ (k_X4_mayBe2 l dC dI cI cZ cQ pu0 pu1 agr ans y4_2 r_ans (by omega) (by omega)) (cwV 1 hts gX4_tablesThatMayBe_X4_mayBe rfl rfl rfl (by decide +kernel) ⟨Nat.le_of_ble_eq_true rfl, Nat.le_of_ble_eq_true rfl⟩) hP hK hN [0, 1] rfl 0 4 rfl rfl rfl hl.1 rfl (Nat.le_of_ble_eq_true rfl) dX4_tablesThatMayBe_12 ⟨Nat.le_of_ble_eq_true rfl, Nat.le_of_ble_eq_true rfl⟩ (fun r2 h3 => ?_)
        have h3 : ((((r2 = 1) ∧ (agr y4_2.toNatClampNeg = ans)) ∨ ((r2 = 0) ∧ (¬ agr y4_2.toNatClampNeg = ans)))) := h3
        rcases h3 with (⟨rfl, h3_a0⟩ | ⟨rfl, h3_a0⟩)
        · refine lv_if_eq (tgt := 21) hx hb dX4_tablesThatMayBe_15 (by decide) (fun c9 => absurd c9 (by decide)) (fun _ => ?_)
          obtain ⟨z4, ez4⟩ : ∃ y : Int32, y = y4_1 + 1 := ⟨_, rfl⟩
          have iz4 : z4.toInt = y4_1.toInt + 1 := by rw [ez4]; exact addC rfl rfl (by omega) (by omega)
          refine lv_iinc (v := z4) (lv' := [(1, .int z4), (0, .ref pu0), (2, .int y4_2)]) hx hb dX4_tablesThatMayBe_18 hl (k := 1) rfl (by rw [ez4]; rfl) (by decide) rfl (fun ls hl => ?_)
          obtain ⟨z5, ez5⟩ : ∃ y : Int32, y = y4_2 + 1 := ⟨_, rfl⟩
          have iz5 : z5.toInt = y4_2.toInt + 1 := by rw [ez5]; exact addC rfl rfl (by omega) (by omega)
          refine lv_iinc (v := z5) (lv' := [(2, .int z5), (1, .int z4), (0, .ref pu0)]) hx hb dX4_tablesThatMayBe_21 hl (k := 2) rfl (by rw [ez5]; rfl) (by decide) rfl (fun ls hl => ?_)
          refine lv_goto (tgt := 4) hx hb dX4_tablesThatMayBe_24 (by decide) ?_
          exact ih4 z4 z5 _ (by omega) (by omega) (by omega) (by omega) (by omega) (by (first | exact my_s (o := y4_2) i4_5 (by first | exact clC (x := y4_2) rfl | (rw [clC (x := y4_2) rfl]; omega)) (by first | exact Or.inl ⟨by assumption, by omega⟩ | exact Or.inr ⟨by assumption, by first | rfl | omega⟩) (by omega) | exact my_0 (by first | rfl | omega) (by first | rfl | omega))) (by omega) (lv_sub hl [2, 1, 0] rfl)
        · refine lv_if_eq (tgt := 21) hx hb dX4_tablesThatMayBe_15 (by decide) (fun _ => ?_) (fun c9 => absurd (by decide) c9)
          obtain ⟨z6, ez6⟩ : ∃ y : Int32, y = y4_2 + 1 := ⟨_, rfl⟩
          have iz6 : z6.toInt = y4_2.toInt + 1 := by rw [ez6]; exact addC rfl rfl (by omega) (by omega)
          refine lv_iinc (v := z6) (lv' := [(2, .int z6), (0, .ref pu0), (1, .int y4_1)]) hx hb dX4_tablesThatMayBe_21 hl (k := 2) rfl (by rw [ez6]; rfl) (by decide) rfl (fun ls hl => ?_)
          refine lv_goto (tgt := 4) hx hb dX4_tablesThatMayBe_24 (by decide) ?_
          exact ih4 y4_1 z6 _ (by omega) (by omega) (by omega) (by omega) (by omega) (by (first | exact my_s (o := y4_2) i4_5 (by first | exact clC (x := y4_2) rfl | (rw [clC (x := y4_2) rfl]; omega)) (by first | exact Or.inl ⟨by assumption, by omega⟩ | exact Or.inr ⟨by assumption, by first | rfl | omega⟩) (by omega) | exact my_0 (by first | rfl | omega) (by first | rfl | omega))) (by omega) (lv_sub hl [1, 2, 0] rfl)
  have kc7 : (0 : Int32).toInt = 0 := rfl
  exact L4 _ 0 0 _ (by omega) (by omega) (by omega) (by omega) (by omega) (by (first | exact my_s (o := y4_2) i4_5 (by first | exact clC (x := y4_2) rfl | (rw [clC (x := y4_2) rfl]; omega)) (by first | exact Or.inl ⟨by assumption, by omega⟩ | exact Or.inr ⟨by assumption, by first | rfl | omega⟩) (by omega) | exact my_0 (by first | rfl | omega) (by first | rfl | omega))) (Nat.lt_succ_self _) (lv_sub hl [2, 1, 0] rfl)
