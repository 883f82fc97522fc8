
set_option maxHeartbeats 4000000 in
set_option maxRecDepth 100000 in
theorem k_X7_kindOf2 (l : Launch) (dC : Nat → ClassId) (dI : Nat → Nat → Nat) (cI cZ cQ : ClassId) (sg : Int32)  : KR l yX7_kindOf wsX7_kindOf { frames := 1, cells := 0, slots := 0, locals := 22 } (dC, dI) (TY cI cZ cQ) (wNil cI cZ cQ) [.int sg] (fun r : Int32 => (1 ≤ r.toInt) ∧ (r.toInt ≤ 3) ∧ (r.toInt = knd sg)) := by
  refine Met.ofW (cc := cX7_kindOf) (maxL := 1) (ret := (some .int)) (by decide) rfl ?_
  intro p e s m args below meth c s₁ B hml hv
  obtain ⟨rfl, hP, hK, hN⟩ := hv
  have hx := B.exec
  have hb := B.bytes
  have hr := B.returns
  have hts := atoms_spec (ws := wsX7_kindOf) B.pre
  have hown : s.vm.findClass RX7 = some m.cls := findClass_of_methodNamed B.named
  have hlocks := B.notSynchronized
  have hl := lv_entry ([.int sg]) (n := 1) (Nat.le_of_ble_eq_true rfl)
  rw [lg_entry_eq]
  generalize (lg_sl ([.int sg]) ++ List.replicate (1 - (lg_sl ([.int sg])).length) Slot.unset).toArray = ls at hl ⊢
  have hl : lv_has ls 1 [(0, .int sg)] := hl
  refine lv_iload_n hx hb dX7_kindOf_0 rfl (lv_at hl 0 rfl) ?_
  refine lv_bipush (v := 97) hx hb dX7_kindOf_1 (by decide) ?_
  refine lv_bipush (v := 122) hx hb dX7_kindOf_3 (by decide) ?_
  refine rdSN (As := [.int sg, .int 97, .int 122]) (rest := []) ⟨hx, hb, hml, hown, hts⟩ (k_X9_within l dC dI cI cZ cQ sg (97 : Int32) (122 : Int32)) ⟨va_cnB (host := "PalaceOfRooms") 3 hts gX7_kindOf_X9_within_n80 rfl rfl rfl (hN _ (by decide +kernel)) (hts (.initialized RX9) (List.mem_cons_of_mem _ (List.mem_of_getElem? (i := 1) rfl))) (by decide +kernel) ⟨Nat.le_of_ble_eq_true rfl, Nat.le_of_ble_eq_true rfl⟩, hts (.static yX9_within) (List.mem_cons_of_mem _ (List.mem_of_getElem? (i := 0) rfl)), trivial⟩ hP hK hN [] rfl rfl hl.1 rfl (Nat.le_of_ble_eq_true rfl) dX7_kindOf_5 ⟨Nat.le_of_ble_eq_true rfl, Nat.le_of_ble_eq_true rfl⟩ (fun r1 h2 => ?_)
  have h2 : ((((r1 = 1) ∧ ((97) ≤ sg.toInt) ∧ (sg.toInt ≤ (122))) ∨ ((r1 = 0) ∧ (sg.toInt < (97) ∨ (122) < sg.toInt)))) := h2
  rcases h2 with (⟨rfl, h2_a0, h2_a1⟩ | ⟨rfl, h2_a0⟩)
  · refine lv_if_eq (tgt := 13) hx hb dX7_kindOf_8 (by decide) (fun c9 => absurd c9 (by decide)) (fun _ => ?_)
    refine lv_iconst (v := 1) hx hb dX7_kindOf_11 (by decide) ?_
    exact W.iret (v := 1) hx hb hr (fun tq ht hW => ⟨1, rfl, ⟨(show 1 ≤ (1 : Int32).toInt from by (try rw [show (1 : Int32).toInt = 1 from (show (1 : Int32).toInt = 1 from rfl)]); omega), (show (1 : Int32).toInt ≤ 3 from by (try rw [show (1 : Int32).toInt = 1 from (show (1 : Int32).toInt = 1 from rfl)]); omega), (show (1 : Int32).toInt = knd sg from by (try rw [show (1 : Int32).toInt = 1 from (show (1 : Int32).toInt = 1 from rfl)]); (first | exact (knd_1 (by omega)).symm | exact (knd_2 (by omega)).symm | exact (knd_3 (by omega) (by omega)).symm))⟩, ht⟩) (fun q h => by cases h) dX7_kindOf_12
  · refine lv_if_eq (tgt := 13) hx hb dX7_kindOf_8 (by decide) (fun _ => ?_) (fun c9 => absurd (by decide) c9)
    refine lv_iload_n hx hb dX7_kindOf_13 rfl (lv_at hl 0 rfl) ?_
    refine lv_bipush (v := 48) hx hb dX7_kindOf_14 (by decide) ?_
    refine lv_bipush (v := 57) hx hb dX7_kindOf_16 (by decide) ?_
    refine rdSN (As := [.int sg, .int 48, .int 57]) (rest := []) ⟨hx, hb, hml, hown, hts⟩ (k_X9_within l dC dI cI cZ cQ sg (48 : Int32) (57 : Int32)) ⟨va_cnB (host := "PalaceOfRooms") 3 hts gX7_kindOf_X9_within_n80 rfl rfl rfl (hN _ (by decide +kernel)) (hts (.initialized RX9) (List.mem_cons_of_mem _ (List.mem_of_getElem? (i := 1) rfl))) (by decide +kernel) ⟨Nat.le_of_ble_eq_true rfl, Nat.le_of_ble_eq_true rfl⟩, hts (.static yX9_within) (List.mem_cons_of_mem _ (List.mem_of_getElem? (i := 0) rfl)), trivial⟩ hP hK hN [] rfl rfl hl.1 rfl (Nat.le_of_ble_eq_true rfl) dX7_kindOf_18 ⟨Nat.le_of_ble_eq_true rfl, Nat.le_of_ble_eq_true rfl⟩ (fun r3 h4 => ?_)
    have h4 : ((((r3 = 1) ∧ ((48) ≤ sg.toInt) ∧ (sg.toInt ≤ (57))) ∨ ((r3 = 0) ∧ (sg.toInt < (48) ∨ (57) < sg.toInt)))) := h4
    rcases h4 with (⟨rfl, h4_a0, h4_a1⟩ | ⟨rfl, h4_a0⟩)
    · refine lv_if_eq (tgt := 28) hx hb dX7_kindOf_21 (by decide) (fun c9 => absurd c9 (by decide)) (fun _ => ?_)
      refine lv_iconst (v := 2) hx hb dX7_kindOf_24 (by decide) ?_
      refine lv_goto (tgt := 29) hx hb dX7_kindOf_25 (by decide) ?_
      exact W.iret (v := 2) hx hb hr (fun tq ht hW => ⟨2, rfl, ⟨(show 1 ≤ (2 : Int32).toInt from by (try rw [show (2 : Int32).toInt = 2 from (show (2 : Int32).toInt = 2 from rfl)]); omega), (show (2 : Int32).toInt ≤ 3 from by (try rw [show (2 : Int32).toInt = 2 from (show (2 : Int32).toInt = 2 from rfl)]); omega), (show (2 : Int32).toInt = knd sg from by (try rw [show (2 : Int32).toInt = 2 from (show (2 : Int32).toInt = 2 from rfl)]); (first | exact (knd_1 (by omega)).symm | exact (knd_2 (by omega)).symm | exact (knd_3 (by omega) (by omega)).symm))⟩, ht⟩) (fun q h => by cases h) dX7_kindOf_29
    · refine lv_if_eq (tgt := 28) hx hb dX7_kindOf_21 (by decide) (fun _ => ?_) (fun c9 => absurd (by decide) c9)
      refine lv_iconst (v := 3) hx hb dX7_kindOf_28 (by decide) ?_
      exact W.iret (v := 3) hx hb hr (fun tq ht hW => ⟨3, rfl, ⟨(show 1 ≤ (3 : Int32).toInt from by (try rw [show (3 : Int32).toInt = 3 from (show (3 : Int32).toInt = 3 from rfl)]); omega), (show (3 : Int32).toInt ≤ 3 from by (try rw [show (3 : Int32).toInt = 3 from (show (3 : Int32).toInt = 3 from rfl)]); omega), (show (3 : Int32).toInt = knd sg from by (try rw [show (3 : Int32).toInt = 3 from (show (3 : Int32).toInt = 3 from rfl)]); (first | exact (knd_1 (by omega)).symm | exact (knd_2 (by omega)).symm | exact (knd_3 (by omega) (by omega)).symm))⟩, ht⟩) (fun q h => by cases h) dX7_kindOf_29
