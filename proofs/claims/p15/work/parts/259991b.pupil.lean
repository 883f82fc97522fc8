set_option maxHeartbeats 4000000 in
set_option maxRecDepth 100000 in
theorem k_X4_lossOf2 (l : Launch) (dC : Nat → ClassId) (dI : Nat → Nat → Nat) (cI cZ cQ : ClassId) (tb : Int32) (q0 : 0 ≤ tb.toInt) (q1 : tb.toInt ≤ 80) : KR l yX4_lossOf wsX4_lossOf { frames := 0, cells := 0, slots := 0, locals := 0 } (dC, dI) (TY cI cZ cQ) (wNil cI cZ cQ) [.int tb] (fun r : Int32 => (1 ≤ r.toInt) ∧ (r.toInt ≤ 9) ∧ (r = tb / 9 + 1) ∧ (r.toInt = tb.toInt / 9 + 1)) := by
  refine Met.ofW (cc := cX4_lossOf) (maxL := 1) (ret := (some .int)) (by decide) rfl ?_
  intro p e s m args below meth c s₁ B hml hv
  obtain ⟨rfl, hP, hK, hN⟩ := hv
  have hx := B.exec
  have hb := B.bytes
  have hr := B.returns
  have hts := atoms_spec (ws := wsX4_lossOf) B.pre
  have hown : s.vm.findClass RX4 = some m.cls := findClass_of_methodNamed B.named
  have hlocks := B.notSynchronized
  have hl := lv_entry ([.int tb]) (n := 1) (Nat.le_of_ble_eq_true rfl)
  rw [lg_entry_eq]
  generalize (lg_sl ([.int tb]) ++ List.replicate (1 - (lg_sl ([.int tb])).length) Slot.unset).toArray = ls at hl ⊢
  have hl : lv_has ls 1 [(0, .int tb)] := hl
  refine lv_iload_n hx hb dX4_lossOf_0 rfl (lv_at hl 0 rfl) ?_
  refine lv_bipush (v := 9) hx hb dX4_lossOf_1 (by decide) ?_
  refine lv_idiv hx hb dX4_lossOf_3 (by decide) ?_
  have f1 : (tb / 9).toInt = (tb.toInt) / (9) := divC rfl (show (9 : Int32).toInt = 9 from rfl) (by omega) (by omega)
  refine lv_iconst (v := 1) hx hb dX4_lossOf_4 (by decide) ?_
  refine lv_iadd hx hb dX4_lossOf_5 ?_
  have f2 : ((tb / 9) + 1).toInt = ((tb.toInt) / (9)) + (1) := addC f1 (show (1 : Int32).toInt = 1 from rfl) (by omega) (by omega)
  exact W.iret (v := (tb / 9) + 1) hx hb hr (fun tq ht hW => ⟨(tb / 9) + 1, rfl, ⟨(show 1 ≤ ((tb / 9) + 1).toInt from by (try rw [show ((tb / 9) + 1).toInt = ((tb.toInt) / (9)) + (1) from f2]); omega), (show ((tb / 9) + 1).toInt ≤ 9 from by (try rw [show ((tb / 9) + 1).toInt = ((tb.toInt) / (9)) + (1) from f2]); omega), (show ((tb / 9) + 1) = tb / 9 + 1 from by (try rw [show ((tb / 9) + 1).toInt = ((tb.toInt) / (9)) + (1) from f2]); rfl), (show ((tb / 9) + 1).toInt = tb.toInt / 9 + 1 from by (try rw [show ((tb / 9) + 1).toInt = ((tb.toInt) / (9)) + (1) from f2]); (first | done | omega))⟩, ht⟩) (fun q h => by cases h) dX4_lossOf_6
set_option maxHeartbeats 4000000 in
set_option maxRecDepth 100000 in
theorem k_X4_limitOf2 (l : Launch) (dC : Nat → ClassId) (dI : Nat → Nat → Nat) (cI cZ cQ : ClassId) (tb : Int32) (q0 : 0 ≤ tb.toInt) (q1 : tb.toInt ≤ 80) : KR l yX4_limitOf wsX4_limitOf { frames := 0, cells := 0, slots := 0, locals := 0 } (dC, dI) (TY cI cZ cQ) (wNil cI cZ cQ) [.int tb] (fun r : Int32 => (10 ≤ r.toInt) ∧ (r.toInt ≤ 90) ∧ (r = (tb - tb / 9 * 9 + 1) * 10) ∧ (r.toInt = (tb.toInt % 9 + 1) * 10)) := by
  refine Met.ofW (cc := cX4_limitOf) (maxL := 1) (ret := (some .int)) (by decide) rfl ?_
  intro p e s m args below meth c s₁ B hml hv
  obtain ⟨rfl, hP, hK, hN⟩ := hv
  have hx := B.exec
  have hb := B.bytes
  have hr := B.returns
  have hts := atoms_spec (ws := wsX4_limitOf) B.pre
  have hown : s.vm.findClass RX4 = some m.cls := findClass_of_methodNamed B.named
  have hlocks := B.notSynchronized
  have hl := lv_entry ([.int tb]) (n := 1) (Nat.le_of_ble_eq_true rfl)
  rw [lg_entry_eq]
  generalize (lg_sl ([.int tb]) ++ List.replicate (1 - (lg_sl ([.int tb])).length) Slot.unset).toArray = ls at hl ⊢
  have hl : lv_has ls 1 [(0, .int tb)] := hl
  refine lv_iload_n hx hb dX4_limitOf_0 rfl (lv_at hl 0 rfl) ?_
  refine lv_bipush (v := 9) hx hb dX4_limitOf_1 (by decide) ?_
  refine lv_irem hx hb dX4_limitOf_3 (by decide) ?_
  have f1 : (tb - tb / 9 * 9).toInt = (tb.toInt) % (9) := remC rfl (show (9 : Int32).toInt = 9 from rfl) (by omega) (by omega)
  refine lv_iconst (v := 1) hx hb dX4_limitOf_4 (by decide) ?_
  refine lv_iadd hx hb dX4_limitOf_5 ?_
  have f2 : ((tb - tb / 9 * 9) + 1).toInt = ((tb.toInt) % (9)) + (1) := addC f1 (show (1 : Int32).toInt = 1 from rfl) (by omega) (by omega)
  refine lv_bipush (v := 10) hx hb dX4_limitOf_6 (by decide) ?_
  refine lv_imul hx hb dX4_limitOf_8 ?_
  have f3 : (((tb - tb / 9 * 9) + 1) * 10).toInt = (((tb.toInt) % (9)) + (1)) * (10) := mulC f2 (show (10 : Int32).toInt = 10 from rfl) (by omega) (by omega)
  exact W.iret (v := ((tb - tb / 9 * 9) + 1) * 10) hx hb hr (fun tq ht hW => ⟨((tb - tb / 9 * 9) + 1) * 10, rfl, ⟨(show 10 ≤ (((tb - tb / 9 * 9) + 1) * 10).toInt from by (try rw [show (((tb - tb / 9 * 9) + 1) * 10).toInt = (((tb.toInt) % (9)) + (1)) * (10) from f3]); omega), (show (((tb - tb / 9 * 9) + 1) * 10).toInt ≤ 90 from by (try rw [show (((tb - tb / 9 * 9) + 1) * 10).toInt = (((tb.toInt) % (9)) + (1)) * (10) from f3]); omega), (show (((tb - tb / 9 * 9) + 1) * 10) = (tb - tb / 9 * 9 + 1) * 10 from by (try rw [show (((tb - tb / 9 * 9) + 1) * 10).toInt = (((tb.toInt) % (9)) + (1)) * (10) from f3]); rfl), (show (((tb - tb / 9 * 9) + 1) * 10).toInt = (tb.toInt % 9 + 1) * 10 from by (try rw [show (((tb - tb / 9 * 9) + 1) * 10).toInt = (((tb.toInt) % (9)) + (1)) * (10) from f3]); (first | done | omega))⟩, ht⟩) (fun q h => by cases h) dX4_limitOf_9
set_option maxHeartbeats 4000000 in
set_option maxRecDepth 100000 in
theorem k_X4_saysRight2 (l : Launch) (dC : Nat → ClassId) (dI : Nat → Nat → Nat) (cI cZ cQ : ClassId) (tb : Int32) (dd : Int32) (q0 : 0 ≤ tb.toInt) (q1 : tb.toInt ≤ 80) (q2 : 1 ≤ dd.toInt) (q3 : dd.toInt ≤ 60) : KR l yX4_saysRight wsX4_saysRight { frames := 1, cells := 0, slots := 0, locals := 20 } (dC, dI) (TY cI cZ cQ) (wNil cI cZ cQ) [.int tb, .int dd] (fun r : Int32 => ((((r = 1) ∧ (sayW tb dd = true)) ∨ ((r = 0) ∧ (sayW tb dd = false))))) := by
  refine Met.ofW (cc := cX4_saysRight) (maxL := 2) (ret := (some .boolean)) (by decide) rfl ?_
  intro p e s m args below meth c s₁ B hml hv
  obtain ⟨rfl, hP, hK, hN⟩ := hv
  have hx := B.exec
  have hb := B.bytes
  have hr := B.returns
  have hts := atoms_spec (ws := wsX4_saysRight) B.pre
  have hown : s.vm.findClass RX4 = some m.cls := findClass_of_methodNamed B.named
  have hlocks := B.notSynchronized
  have hl := lv_entry ([.int tb, .int dd]) (n := 2) (Nat.le_of_ble_eq_true rfl)
  rw [lg_entry_eq]
  generalize (lg_sl ([.int tb, .int dd]) ++ List.replicate (2 - (lg_sl ([.int tb, .int dd])).length) Slot.unset).toArray = ls at hl ⊢
  have hl : lv_has ls 2 [(0, .int tb), (1, .int dd)] := hl
  refine lv_bipush (v := 100) hx hb dX4_saysRight_0 (by decide) ?_
  refine lv_iload_n hx hb dX4_saysRight_2 rfl (lv_at hl 0 rfl) ?_
  refine rdS (As := [.int tb]) (rest := [.int 100]) ⟨hx, hb, hml, hown, hts⟩ (k_X4_lossOf2 l dC dI cI cZ cQ tb (by omega) (by omega)) (va_cwS 1 hts gX4_saysRight_X4_lossOf rfl rfl rfl (by decide +kernel) ⟨Nat.le_of_ble_eq_true rfl, Nat.le_of_ble_eq_true rfl⟩) hP hK hN [] rfl rfl hl.1 rfl (Nat.le_of_ble_eq_true rfl) dX4_saysRight_3 ⟨Nat.le_of_ble_eq_true rfl, Nat.le_of_ble_eq_true rfl⟩ (fun r1 h2 => ?_)
  have h2 : (1 ≤ r1.toInt) ∧ (r1.toInt ≤ 9) ∧ (r1 = tb / 9 + 1) ∧ (r1.toInt = tb.toInt / 9 + 1) := h2
  obtain ⟨h2_0, h2_1, h2_2, h2_3⟩ := h2
  refine lv_iload_n hx hb dX4_saysRight_6 rfl (lv_at hl 1 rfl) ?_
  refine lv_imul hx hb dX4_saysRight_7 ?_
  obtain ⟨f3, f3_1, f3_2⟩ := mulB (a := r1) (b := dd) (A := r1.toInt) (B := dd.toInt) (p := 9) (q := 60) rfl rfl (by omega) (by omega) (by omega) (by omega) (by decide)
  refine lv_isub hx hb dX4_saysRight_8 ?_
  have f4 : (100 - (r1 * dd)).toInt = (100) - ((r1.toInt) * (dd.toInt)) := subC (show (100 : Int32).toInt = 100 from rfl) f3 (by omega) (by omega)
  refine lv_iload_n hx hb dX4_saysRight_9 rfl (lv_at hl 0 rfl) ?_
  refine rdS (As := [.int tb]) (rest := [.int (100 - (r1 * dd))]) ⟨hx, hb, hml, hown, hts⟩ (k_X4_limitOf2 l dC dI cI cZ cQ tb (by omega) (by omega)) (va_cwS 1 hts gX4_saysRight_X4_limitOf rfl rfl rfl (by decide +kernel) ⟨Nat.le_of_ble_eq_true rfl, Nat.le_of_ble_eq_true rfl⟩) hP hK hN [] rfl rfl hl.1 rfl (Nat.le_of_ble_eq_true rfl) dX4_saysRight_10 ⟨Nat.le_of_ble_eq_true rfl, Nat.le_of_ble_eq_true rfl⟩ (fun r5 h6 => ?_)
  have h6 : (10 ≤ r5.toInt) ∧ (r5.toInt ≤ 90) ∧ (r5 = (tb - tb / 9 * 9 + 1) * 10) ∧ (r5.toInt = (tb.toInt % 9 + 1) * 10) := h6
  obtain ⟨h6_0, h6_1, h6_2, h6_3⟩ := h6
  refine lv_icmp_lt (tgt := 20) hx hb dX4_saysRight_13 (by decide) (fun c7 => ?_) (fun c7 => ?_)
  · have dc7 : (100) - ((r1.toInt) * (dd.toInt)) < r5.toInt := ltC f4 rfl c7
    refine lv_iconst (v := 0) hx hb dX4_saysRight_20 (by decide) ?_
    exact W.zret (v := 0) hx hb hr (by decide) (fun tq ht hW => ⟨0, rfl, (Or.inr (⟨rfl, (show sayW tb dd = false from by (try rw [show (0 : Int32).toInt = 0 from (show (0 : Int32).toInt = 0 from rfl)]); (first | exact sw_t (by assumption) (by assumption) (by assumption) | exact sw_f (by assumption) (by assumption) (by assumption)))⟩)), ht⟩) (fun q h => by cases h) dX4_saysRight_21
  · have dc7 : r5.toInt ≤ (100) - ((r1.toInt) * (dd.toInt)) := nltC f4 rfl c7
    refine lv_iconst (v := 1) hx hb dX4_saysRight_16 (by decide) ?_
    refine lv_goto (tgt := 21) hx hb dX4_saysRight_17 (by decide) ?_
    exact W.zret (v := 1) hx hb hr (by decide) (fun tq ht hW => ⟨1, rfl, (Or.inl (⟨rfl, (show sayW tb dd = true from by (try rw [show (1 : Int32).toInt = 1 from (show (1 : Int32).toInt = 1 from rfl)]); (first | exact sw_t (by assumption) (by assumption) (by assumption) | exact sw_f (by assumption) (by assumption) (by assumption)))⟩)), ht⟩) (fun q h => by cases h) dX4_saysRight_21
