set_option maxHeartbeats 4000000 in
set_option maxRecDepth 100000 in
theorem k_X10_isWord2 (l : Launch) (dC : Nat → ClassId) (dI : Nat → Nat → Nat) (cI cZ cQ : ClassId) (b : Nat → Nat) (mday : Int32) (mdoo : Int32) (mtel : Int32) (mgai : Int32) (mbyt : Int32) (mtxt : Nat → Int32) (mpos : Int32) (mtka : Int32) (mtok : Int64) (mdig : Int32) (mnum : Int32) (mfau : Int32) (mrdm : Int32) (mlin : Int32) (mbsm : Int32) (sz : Nat) (w : Int64) (r_mday : 0 ≤ mday.toInt ∧ mday.toInt ≤ 400) (r_mdoo : 0 ≤ mdoo.toInt ∧ mdoo.toInt ≤ 14) (r_mgai : 0 ≤ mgai.toInt ∧ mgai.toInt ≤ 100) (r_mbyt : 0 ≤ mbyt.toInt ∧ mbyt.toInt ≤ 160) (r_mpos : 0 ≤ mpos.toInt ∧ mpos.toInt ≤ 160) (r_mrdm : 0 ≤ mrdm.toInt ∧ mrdm.toInt ≤ 10) (r_mlin : 0 ≤ mlin.toInt ∧ mlin.toInt ≤ 10) (q0 : mpos.toInt ≤ mbyt.toInt) : KW l yX10_isWord wsX10_isWord { frames := 2, cells := 0, slots := 0, locals := 42 } (dC, dI) (TY cI cZ cQ) (wMdT cI cZ cQ b mday mdoo mtel mgai mbyt mtxt mpos mtka mtok mdig mnum mfau mrdm mlin mbsm) [.ref (b 39), .long w] sz 0 0 (fun (r : Int32) (u : US) => ((((r = 1) ∧ (tkW mtxt mbyt.toInt mpos.toInt = w) ∧ ((u.1 0 0).toInt = nx mtxt mbyt.toInt mpos.toInt)) ∨ ((r = 0) ∧ (tkW mtxt mbyt.toInt mpos.toInt ≠ w) ∧ ((u.1 5 0).toInt = tS mtxt mbyt.toInt mpos.toInt)))) ∧ ((u.1 0 0).toInt ≤ mbyt.toInt) ∧ (0 ≤ (u.1 0 0).toInt ∧ (u.1 0 0).toInt ≤ 160)) (fun u : US => (wMdT cI cZ cQ b mday mdoo mtel mgai mbyt mtxt (u.1 0 0) (u.1 1 0) u.2.1 (u.1 3 0) (u.1 4 0) (u.1 5 0) mrdm mlin mbsm)) := by
  refine Met.ofW (cc := cX10_isWord) (maxL := 3) (ret := (some .boolean)) (by decide) rfl ?_
  intro p e s m args below meth c s₁ B hml hv
  obtain ⟨rfl, hsz, hP, hK, hD0, hN⟩ := hv
  have hx := B.exec
  have hb := B.bytes
  have hr := B.returns
  have hts := atoms_spec (ws := wsX10_isWord) B.pre
  have hown : s.vm.findClass RX10 = some m.cls := findClass_of_methodNamed B.named
  have hlocks := B.notSynchronized
  have lf160 := hts (.fieldLink RX10 160 "PalaceOfRoomsModel" "token" "J") (List.mem_cons_of_mem _ (List.mem_append_left _ (List.mem_append_left _ (List.mem_of_getElem? (i := 0) rfl))))
  have inX10 : ∀ w ∈ wsX100, w ∈ wsX10_isWord := fun w h => List.mem_cons_of_mem _ (List.mem_append_right _ h)
  subst hsz
  have hD := hD0.self (sz := s.heap.size)
  generalize hAe : va_A (wMdT cI cZ cQ b mday mdoo mtel mgai mbyt mtxt mpos mtka mtok mdig mnum mfau mrdm mlin mbsm) s.heap.size = A at hD ⊢
  have hA : ∀ q : Nat, s.heap.size ≤ q → A q := fun q h => by rw [← hAe]; exact Or.inr h
  have hS : va_S A s.heap s.heap [] := va_S.rf
  have hl := lv_entry ([.ref (b 39), .long w]) (n := 3) (Nat.le_of_ble_eq_true rfl)
  rw [lg_entry_eq]
  generalize (lg_sl ([.ref (b 39), .long w]) ++ List.replicate (3 - (lg_sl ([.ref (b 39), .long w])).length) Slot.unset).toArray = ls at hl ⊢
  have hl : lv_has ls 3 [(0, .ref (b 39)), (1, .long w)] := hl
  refine lv_aload_n hx hb dX10_isWord_0 rfl (lv_at hl 0 rfl) ?_
  refine wvV (As := []) (rest := []) (wr := []) (w2 := (fun u : US => (wMdT cI cZ cQ b mday mdoo mtel mgai mbyt mtxt (u.1 0 0) (u.1 1 0) u.2.1 (u.1 3 0) (u.1 4 0) mfau mrdm mlin mbsm))) ⟨hx, hb, hml, hown, hts⟩ (k_X10_nextToken2 l dC dI cI cZ cQ b mday mdoo mtel mgai mbyt mtxt mpos mtka mtok mdig mnum mfau mrdm mlin mbsm _ r_mday r_mdoo r_mgai r_mbyt r_mpos r_mrdm r_mlin (by omega)) (cwV 0 hts gX10_isWord_X10_nextToken rfl rfl rfl (by decide +kernel) ⟨Nat.le_of_ble_eq_true rfl, Nat.le_of_ble_eq_true rfl⟩) hP hD hS hA hK hN [0, 1] [] [0, 1] rfl rfl (by decide) (by decide) (by decide) (fun _ => rfl) (by decide) 0 10 rfl rfl rfl hl.1 rfl (Nat.le_of_ble_eq_true rfl) dX10_isWord_1 ⟨Nat.le_of_ble_eq_true rfl, Nat.le_of_ble_eq_true rfl⟩ (fun u3 H locs h2 hP hD hS => ?_)
  obtain ⟨mpos_c4, empos_c4⟩ : ∃ f : Int32, f = (u3.1 0 0) := ⟨_, rfl⟩
  obtain ⟨mtka_c5, emtka_c5⟩ : ∃ f : Int32, f = (u3.1 1 0) := ⟨_, rfl⟩
  obtain ⟨mtok_c6, emtok_c6⟩ : ∃ f : Int64, f = u3.2.1 := ⟨_, rfl⟩
  obtain ⟨mdig_c7, emdig_c7⟩ : ∃ f : Int32, f = (u3.1 3 0) := ⟨_, rfl⟩
  obtain ⟨mnum_c8, emnum_c8⟩ : ∃ f : Int32, f = (u3.1 4 0) := ⟨_, rfl⟩
  have hP : va_P (dC, dI) vwCl (wMdT cI cZ cQ b mday mdoo mtel mgai mbyt mtxt mpos_c4 mtka_c5 mtok_c6 mdig_c7 mnum_c8 mfau mrdm mlin mbsm) H := by rw [empos_c4, emtka_c5, emtok_c6, emdig_c7, emnum_c8]; exact hP
  have hD : va_D A (wMdT cI cZ cQ b mday mdoo mtel mgai mbyt mtxt mpos_c4 mtka_c5 mtok_c6 mdig_c7 mnum_c8 mfau mrdm mlin mbsm) := by rw [empos_c4, emtka_c5, emtok_c6, emdig_c7, emnum_c8]; exact hD
  have h2 : (mpos_c4.toInt ≤ mbyt.toInt) ∧ (0 ≤ mtka_c5.toInt) ∧ (mtka_c5.toInt ≤ mpos_c4.toInt) ∧ (mtka_c5.toInt = tS mtxt mbyt.toInt mpos.toInt) ∧ (mpos_c4.toInt = tE mtxt mbyt.toInt mtka_c5.toInt) ∧ (mtok_c6 = tkV mtxt mbyt.toInt mtka_c5.toInt mpos_c4.toInt) ∧ (nmP mtxt mbyt.toInt mtka_c5.toInt mpos_c4.toInt mnum_c8) ∧ (0 ≤ mpos_c4.toInt ∧ mpos_c4.toInt ≤ 160) := by (try rw [empos_c4]); (try rw [emtka_c5]); (try rw [emtok_c6]); (try rw [emdig_c7]); (try rw [emnum_c8]); exact h2
  obtain ⟨h2_0, h2_1, h2_2, h2_3, h2_4, h2_5, h2_6, h2_7⟩ := h2
  refine lv_aload_n hx hb dX10_isWord_4 rfl (lv_at hl 0 rfl) ?_
  refine va_get (D := (dC, dI)) (ci := 10) (v := .long mtok_c6) (C := RX10) (T := TX10) (N := 39) hx hb hts inX10 hown hK hP 0 rfl rfl 23 (by decide) lf160 (fun _ h9 => h9) rfl dX10_isWord_5 ?_
  refine lv_lload_n hx hb dX10_isWord_8 rfl (lv_at hl 1 rfl) ?_
  refine W.lcmp hx hb dX10_isWord_9 ?_
  refine lv_if_eq (tgt := 20) hx hb dX10_isWord_10 (by decide) (fun c9 => ?_) (fun c9 => ?_)
  · have dc9 : (lg_cmp mtok_c6 w).toInt = 0 := eqC rfl (show (0 : Int32).toInt = 0 from rfl) c9
    refine lv_iconst (v := 1) hx hb dX10_isWord_20 (by decide) ?_
    refine lv_goto (tgt := 25) hx hb dX10_isWord_21 (by decide) ?_
    exact W.zret (v := 1) hx hb hr (by decide) (fun tq ht hW => ⟨⟨1, (uS [(fun _ => mpos_c4), (fun _ => mtka_c5), (fun _ => 0), (fun _ => mdig_c7), (fun _ => mnum_c8), (fun _ => mfau)] mtok_c6 (fun _ => 0)), rfl, ⟨(Or.inl (⟨rfl, (show tkW mtxt mbyt.toInt mpos.toInt = w from by (try rw [show (1 : Int32).toInt = 1 from (show (1 : Int32).toInt = 1 from rfl)]); (first | exact tw_y (by assumption) (by assumption) (by assumption) (by assumption) | exact tw_n (by assumption) (by assumption) (by assumption) (by assumption))), (show mpos_c4.toInt = nx mtxt mbyt.toInt mpos.toInt from by (try rw [show (1 : Int32).toInt = 1 from (show (1 : Int32).toInt = 1 from rfl)]); (first | exact nx_of (by assumption) (by assumption) | exact fa_of (by assumption) (by assumption)))⟩)), (show mpos_c4.toInt ≤ mbyt.toInt from by (try rw [show (1 : Int32).toInt = 1 from (show (1 : Int32).toInt = 1 from rfl)]); omega), h2_7⟩, by rw [ht]; exact hP, hD⟩, hS.F ht⟩) hS.2.2 dX10_isWord_25
  · have dc9 : (lg_cmp mtok_c6 w).toInt ≠ 0 := neC rfl (show (0 : Int32).toInt = 0 from rfl) c9
    refine lv_aload_n hx hb dX10_isWord_13 rfl (lv_at hl 0 rfl) ?_
    refine wrV (As := []) (rest := []) (wr := []) (w2 := (fun u : US => (wMdT cI cZ cQ b mday mdoo mtel mgai mbyt mtxt mpos_c4 mtka_c5 mtok_c6 mdig_c7 mnum_c8 (u.1 0 0) mrdm mlin mbsm))) ⟨hx, hb, hml, hown, hts⟩ (k_X10_fails2 l dC dI cI cZ cQ b mday mdoo mtel mgai mbyt mtxt mpos_c4 mtka_c5 mtok_c6 mdig_c7 mnum_c8 mfau mrdm mlin mbsm _ r_mday r_mdoo r_mgai r_mbyt h2_7 r_mrdm r_mlin) (cwV 0 hts gX10_isWord_X10_fails rfl rfl rfl (by decide +kernel) ⟨Nat.le_of_ble_eq_true rfl, Nat.le_of_ble_eq_true rfl⟩) hP hD hS hA hK hN [0, 1] [] [0, 1] rfl rfl (by decide) (by decide) (by decide) (fun _ => rfl) (by decide) 0 10 rfl rfl rfl hl.1 rfl (Nat.le_of_ble_eq_true rfl) dX10_isWord_14 ⟨Nat.le_of_ble_eq_true rfl, Nat.le_of_ble_eq_true rfl⟩ (fun r10 u12 H locs h11 hP hD hS => ?_)
    obtain ⟨mfau_c13, emfau_c13⟩ : ∃ f : Int32, f = (u12.1 0 0) := ⟨_, rfl⟩
    have hP : va_P (dC, dI) vwCl (wMdT cI cZ cQ b mday mdoo mtel mgai mbyt mtxt mpos_c4 mtka_c5 mtok_c6 mdig_c7 mnum_c8 mfau_c13 mrdm mlin mbsm) H := by rw [emfau_c13]; exact hP
    have hD : va_D A (wMdT cI cZ cQ b mday mdoo mtel mgai mbyt mtxt mpos_c4 mtka_c5 mtok_c6 mdig_c7 mnum_c8 mfau_c13 mrdm mlin mbsm) := by rw [emfau_c13]; exact hD
    have h11 : ((((r10 = 0) ∧ (mfau_c13 = mtka_c5)))) := by (try rw [emfau_c13]); exact h11
    rcases h11 with (⟨rfl, h11_a0⟩)
    · refine lv_if_eq (tgt := 24) hx hb dX10_isWord_17 (by decide) (fun _ => ?_) (fun c9 => absurd (by decide) c9)
      refine lv_iconst (v := 0) hx hb dX10_isWord_24 (by decide) ?_
      exact W.zret (v := 0) hx hb hr (by decide) (fun tq ht hW => ⟨⟨0, (uS [(fun _ => mpos_c4), (fun _ => mtka_c5), (fun _ => 0), (fun _ => mdig_c7), (fun _ => mnum_c8), (fun _ => mfau_c13)] mtok_c6 (fun _ => 0)), rfl, ⟨(Or.inr (⟨rfl, (show tkW mtxt mbyt.toInt mpos.toInt ≠ w from by (try rw [show (0 : Int32).toInt = 0 from (show (0 : Int32).toInt = 0 from rfl)]); (first | exact tw_y (by assumption) (by assumption) (by assumption) (by assumption) | exact tw_n (by assumption) (by assumption) (by assumption) (by assumption))), (show mfau_c13.toInt = tS mtxt mbyt.toInt mpos.toInt from by (try rw [show (0 : Int32).toInt = 0 from (show (0 : Int32).toInt = 0 from rfl)]); (first | exact nx_of (by assumption) (by assumption) | exact fa_of (by assumption) (by assumption)))⟩)), (show mpos_c4.toInt ≤ mbyt.toInt from by (try rw [show (0 : Int32).toInt = 0 from (show (0 : Int32).toInt = 0 from rfl)]); omega), h2_7⟩, by rw [ht]; exact hP, hD⟩, hS.F ht⟩) hS.2.2 dX10_isWord_25

