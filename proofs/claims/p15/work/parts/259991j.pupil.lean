set_option maxHeartbeats 4000000 in
set_option maxRecDepth 100000 in
theorem k_X10_isRight2 (l : Launch) (dC : Nat → ClassId) (dI : Nat → Nat → Nat) (cI cZ cQ : ClassId) (tb : Int32) (dd : Int32) (q0 : 0 ≤ tb.toInt) (q1 : tb.toInt ≤ 80) : KR l yX10_isRight wsX10_isRight { frames := 0, cells := 0, slots := 0, locals := 0 } (dC, dI) (TY cI cZ cQ) (wNil cI cZ cQ) [.int tb, .int dd] (fun r : Int32 => ((((r = 1) ∧ (sayW tb dd = true)) ∨ ((r = 0) ∧ (sayW tb dd = false))))) := by
  refine Met.ofW (cc := cX10_isRight) (maxL := 2) (ret := (some .boolean)) (by decide) rfl ?_
  intro p e s m args below meth c s₁ B hml hv
  obtain ⟨rfl, hP, hK, hN⟩ := hv
  have hx := B.exec
  have hb := B.bytes
  have hr := B.returns
  have hts := atoms_spec (ws := wsX10_isRight) B.pre
  have hown : s.vm.findClass RX10 = some m.cls := findClass_of_methodNamed B.named
  have hlocks := B.notSynchronized
  have hl := lv_entry ([.int tb, .int dd]) (n := 2) (Nat.le_of_ble_eq_true rfl)
  rw [lg_entry_eq]
  generalize (lg_sl ([.int tb, .int dd]) ++ List.replicate (2 - (lg_sl ([.int tb, .int dd])).length) Slot.unset).toArray = ls at hl ⊢
  have hl : lv_has ls 2 [(0, .int tb), (1, .int dd)] := hl
  refine lv_bipush (v := 100) hx hb dX10_isRight_0 (by decide) ?_
  refine lv_iload_n hx hb dX10_isRight_2 rfl (lv_at hl 0 rfl) ?_
  refine lv_bipush (v := 9) hx hb dX10_isRight_3 (by decide) ?_
  refine lv_idiv hx hb dX10_isRight_5 (by decide) ?_
  have f1 : (tb / 9).toInt = (tb.toInt) / (9) := divC rfl (show (9 : Int32).toInt = 9 from rfl) (by omega) (by omega)
  refine lv_iconst (v := 1) hx hb dX10_isRight_6 (by decide) ?_
  refine lv_iadd hx hb dX10_isRight_7 ?_
  have f2 : ((tb / 9) + 1).toInt = ((tb.toInt) / (9)) + (1) := addC f1 (show (1 : Int32).toInt = 1 from rfl) (by omega) (by omega)
  refine lv_iload_n hx hb dX10_isRight_8 rfl (lv_at hl 1 rfl) ?_
  refine lv_imul hx hb dX10_isRight_9 ?_
  refine lv_isub hx hb dX10_isRight_10 ?_
  refine lv_bipush (v := 10) hx hb dX10_isRight_11 (by decide) ?_
  refine lv_iload_n hx hb dX10_isRight_13 rfl (lv_at hl 0 rfl) ?_
  refine lv_bipush (v := 9) hx hb dX10_isRight_14 (by decide) ?_
  refine lv_irem hx hb dX10_isRight_16 (by decide) ?_
  have f3 : (tb - tb / 9 * 9).toInt = (tb.toInt) % (9) := remC rfl (show (9 : Int32).toInt = 9 from rfl) (by omega) (by omega)
  refine lv_iconst (v := 1) hx hb dX10_isRight_17 (by decide) ?_
  refine lv_iadd hx hb dX10_isRight_18 ?_
  have f4 : ((tb - tb / 9 * 9) + 1).toInt = ((tb.toInt) % (9)) + (1) := addC f3 (show (1 : Int32).toInt = 1 from rfl) (by omega) (by omega)
  refine lv_imul hx hb dX10_isRight_19 ?_
  have f5 : (10 * ((tb - tb / 9 * 9) + 1)).toInt = (10) * (((tb.toInt) % (9)) + (1)) := mulC (show (10 : Int32).toInt = 10 from rfl) f4 (by omega) (by omega)
  refine lv_icmp_lt (tgt := 27) hx hb dX10_isRight_20 (by decide) (fun c6 => ?_) (fun c6 => ?_)
  · have dc6 : (100 - (((tb / 9) + 1) * dd)).toInt < (10) * (((tb.toInt) % (9)) + (1)) := ltC rfl f5 c6
    refine lv_iconst (v := 0) hx hb dX10_isRight_27 (by decide) ?_
    exact W.zret (v := 0) hx hb hr (by decide) (fun tq ht hW => ⟨0, rfl, (Or.inr (⟨rfl, (show sayW tb dd = false from by (try rw [show (0 : Int32).toInt = 0 from (show (0 : Int32).toInt = 0 from rfl)]); (first | exact sw_tM (by assumption) | exact sw_fM (by assumption)))⟩)), ht⟩) (fun q h => by cases h) dX10_isRight_28
  · have dc6 : (10) * (((tb.toInt) % (9)) + (1)) ≤ (100 - (((tb / 9) + 1) * dd)).toInt := nltC rfl f5 c6
    refine lv_iconst (v := 1) hx hb dX10_isRight_23 (by decide) ?_
    refine lv_goto (tgt := 28) hx hb dX10_isRight_24 (by decide) ?_
    exact W.zret (v := 1) hx hb hr (by decide) (fun tq ht hW => ⟨1, rfl, (Or.inl (⟨rfl, (show sayW tb dd = true from by (try rw [show (1 : Int32).toInt = 1 from (show (1 : Int32).toInt = 1 from rfl)]); (first | exact sw_tM (by assumption) | exact sw_fM (by assumption)))⟩)), ht⟩) (fun q h => by cases h) dX10_isRight_28
