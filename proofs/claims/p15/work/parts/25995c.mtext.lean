set_option maxHeartbeats 4000000 in
set_option maxRecDepth 100000 in
theorem k_X10_fails2 (l : Launch) (dC : Nat → ClassId) (dI : Nat → Nat → Nat) (cI cZ cQ : ClassId) (b : Nat → Nat) (mday : Int32) (mdoo : Int32) (mtel : Int32) (mgai : Int32) (mbyt : Int32) (mtxt : Nat → Int32) (mpos : Int32) (mtka : Int32) (mtok : Int64) (mdig : Int32) (mnum : Int32) (mfau : Int32) (mrdm : Int32) (mlin : Int32) (mbsm : Int32) (sz : Nat) (r_mday : 0 ≤ mday.toInt ∧ mday.toInt ≤ 400) (r_mdoo : 0 ≤ mdoo.toInt ∧ mdoo.toInt ≤ 14) (r_mgai : 0 ≤ mgai.toInt ∧ mgai.toInt ≤ 100) (r_mbyt : 0 ≤ mbyt.toInt ∧ mbyt.toInt ≤ 160) (r_mpos : 0 ≤ mpos.toInt ∧ mpos.toInt ≤ 160) (r_mrdm : 0 ≤ mrdm.toInt ∧ mrdm.toInt ≤ 10) (r_mlin : 0 ≤ mlin.toInt ∧ mlin.toInt ≤ 10) : KW l yX10_fails wsX10_fails { frames := 0, cells := 0, slots := 0, locals := 0 } (dC, dI) (TY cI cZ cQ) (wMdT cI cZ cQ b mday mdoo mtel mgai mbyt mtxt mpos mtka mtok mdig mnum mfau mrdm mlin mbsm) [.ref (b 39)] sz 0 0 (fun (r : Int32) (u : US) => ((((r = 0) ∧ ((u.1 0 0) = mtka))))) (fun u : US => (wMdT cI cZ cQ b mday mdoo mtel mgai mbyt mtxt mpos mtka mtok mdig mnum (u.1 0 0) mrdm mlin mbsm)) := by
  refine Met.ofW (cc := cX10_fails) (maxL := 1) (ret := (some .boolean)) (by decide) rfl ?_
  intro p e s m args below meth c s₁ B hml hv
  obtain ⟨rfl, hsz, hP, hK, hD0, hN⟩ := hv
  have hx := B.exec
  have hb := B.bytes
  have hr := B.returns
  have hts := atoms_spec (ws := wsX10_fails) B.pre
  have hown : s.vm.findClass RX10 = some m.cls := findClass_of_methodNamed B.named
  have hlocks := B.notSynchronized
  have lf149 := hts (.fieldLink RX10 149 "PalaceOfRoomsModel" "tokenAt" "I") (List.mem_cons_of_mem _ (List.mem_append_left _ (List.mem_of_getElem? (i := 0) rfl)))
  have inX10 : ∀ w ∈ wsX100, w ∈ wsX10_fails := fun w h => List.mem_cons_of_mem _ (List.mem_append_right _ h)
  have lf174 := hts (.fieldLink RX10 174 "PalaceOfRoomsModel" "faultAt" "I") (List.mem_cons_of_mem _ (List.mem_append_left _ (List.mem_of_getElem? (i := 1) rfl)))
  subst hsz
  have hD := hD0.self (sz := s.heap.size)
  generalize hAe : va_A (wMdT cI cZ cQ b mday mdoo mtel mgai mbyt mtxt mpos mtka mtok mdig mnum mfau mrdm mlin mbsm) s.heap.size = A at hD ⊢
  have hA : ∀ q : Nat, s.heap.size ≤ q → A q := fun q h => by rw [← hAe]; exact Or.inr h
  have hS : va_S A s.heap s.heap [] := va_S.rf
  have hl := lv_entry ([.ref (b 39)]) (n := 1) (Nat.le_of_ble_eq_true rfl)
  rw [lg_entry_eq]
  generalize (lg_sl ([.ref (b 39)]) ++ List.replicate (1 - (lg_sl ([.ref (b 39)])).length) Slot.unset).toArray = ls at hl ⊢
  have hl : lv_has ls 1 [(0, .ref (b 39))] := hl
  refine lv_aload_n hx hb dX10_fails_0 rfl (lv_at hl 0 rfl) ?_
  refine lv_aload_n hx hb dX10_fails_1 rfl (lv_at hl 0 rfl) ?_
  refine va_get (D := (dC, dI)) (ci := 10) (v := .int mtka) (C := RX10) (T := TX10) (N := 39) hx hb hts inX10 hown hK hP 0 rfl rfl 22 (by decide) lf149 (fun _ h9 => h9) rfl dX10_fails_2 ?_
  refine va_put (D := (dC, dI)) (ci := 10) (v := .int mtka) (ty := .int) (C := RX10) (T := TX10) (N := 39) hx hb hts inX10 tyX10 tyX10_ok nmX10 hown hK hP hD hS 0 rfl rfl 26 (by decide) lf174 (fun _ h9 => h9) rfl (by decide +kernel) rfl rfl (Nat.le_of_ble_eq_true rfl) dX10_fails_5 (fun H locs hP hD hS => ?_)
  have hP : va_P (dC, dI) vwCl (wMdT cI cZ cQ b mday mdoo mtel mgai mbyt mtxt mpos mtka mtok mdig mnum mtka mrdm mlin mbsm) H := hP
  have hD : va_D A (wMdT cI cZ cQ b mday mdoo mtel mgai mbyt mtxt mpos mtka mtok mdig mnum mtka mrdm mlin mbsm) := hD
  refine lv_iconst (v := 0) hx hb dX10_fails_8 (by decide) ?_
  exact W.zret (v := 0) hx hb hr (by decide) (fun tq ht hW => ⟨⟨0, (uS [(fun _ => mtka)] 0 (fun _ => 0)), rfl, (⟨rfl, (show mtka = mtka from by (try rw [show (0 : Int32).toInt = 0 from (show (0 : Int32).toInt = 0 from rfl)]); (first | rfl | assumption))⟩), by rw [ht]; exact hP, hD⟩, hS.F ht⟩) hS.2.2 dX10_fails_9
