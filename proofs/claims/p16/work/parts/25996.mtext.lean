set_option maxHeartbeats 4000000 in
set_option maxRecDepth 100000 in
theorem k_X10_isLine2 (l : Launch) (dC : Nat → ClassId) (dI : Nat → Nat → Nat) (cI cZ cQ : ClassId) (b : Nat → Nat) (mday : Int32) (mdoo : Int32) (mtel : Int32) (mgai : Int32) (mbyt : Int32) (mtxt : Nat → Int32) (mpos : Int32) (mtka : Int32) (mtok : Int64) (mdig : Int32) (mnum : Int32) (mfau : Int32) (mrdm : Int32) (mrea : Nat → Int32) (mlin : Int32) (mbsm : Int32) (sz : Nat) (at_ : Int32) (r_mday : 0 ≤ mday.toInt ∧ mday.toInt ≤ 400) (r_mdoo : 0 ≤ mdoo.toInt ∧ mdoo.toInt ≤ 14) (r_mgai : 0 ≤ mgai.toInt ∧ mgai.toInt ≤ 100) (r_mbyt : 0 ≤ mbyt.toInt ∧ mbyt.toInt ≤ 160) (r_mpos : 0 ≤ mpos.toInt ∧ mpos.toInt ≤ 160) (r_mrdm : 0 ≤ mrdm.toInt ∧ mrdm.toInt ≤ 10) (r_mlin : 0 ≤ mlin.toInt ∧ mlin.toInt ≤ 10) (q0 : 0 ≤ at_.toInt) (q1 : at_.toInt ≤ 27) (q2 : mpos.toInt ≤ mbyt.toInt) : KW l yX10_isLine wsX10_isLine { frames := 3, cells := 0, slots := 0, locals := 65 } (dC, dI) (TY cI cZ cQ) (wMdR cI cZ cQ b mday mdoo mtel mgai mbyt mtxt mpos mtka mtok mdig mnum mfau mrdm mrea mlin mbsm) [.ref (b 39), .int at_] sz 0 0 (fun (r : Int32) (u : US) => ((((r = 1) ∧ (lnM mtxt mbyt.toInt mpos.toInt at_ mrea (u.1 6) (u.1 0 0).toInt)) ∨ ((r = 0) ∧ (lnR mtxt mbyt.toInt mpos.toInt at_ mrea (u.1 6) (u.1 5 0).toInt)))) ∧ ((u.1 0 0).toInt ≤ mbyt.toInt) ∧ (0 ≤ (u.1 0 0).toInt ∧ (u.1 0 0).toInt ≤ 160)) (fun u : US => (wMdR cI cZ cQ b mday mdoo mtel mgai mbyt mtxt (u.1 0 0) (u.1 1 0) u.2.1 (u.1 3 0) (u.1 4 0) (u.1 5 0) mrdm (u.1 6) mlin mbsm)) := by
  refine Met.ofW (cc := cX10_isLine) (maxL := 2) (ret := (some .boolean)) (by decide) rfl ?_
  intro p e s m args below meth c s₁ B hml hv
  obtain ⟨rfl, hsz, hP, hK, hD0, hN⟩ := hv
  have hx := B.exec
  have hb := B.bytes
  have hr := B.returns
  have hts := atoms_spec (ws := wsX10_isLine) B.pre
  have hown : s.vm.findClass RX10 = some m.cls := findClass_of_methodNamed B.named
  have hlocks := B.notSynchronized
  have lf65 := hts (.fieldLink RX10 65 "PalaceOfRoomsModel" "read" "[I") (List.mem_cons_of_mem _ (List.mem_append_left _ (List.mem_append_left _ (List.mem_of_getElem? (i := 0) rfl))))
  have inX10 : ∀ w ∈ wsX100, w ∈ wsX10_isLine := fun w h => List.mem_cons_of_mem _ (List.mem_append_right _ h)
  have lf160 := hts (.fieldLink RX10 160 "PalaceOfRoomsModel" "token" "J") (List.mem_cons_of_mem _ (List.mem_append_left _ (List.mem_append_left _ (List.mem_of_getElem? (i := 1) rfl))))
  subst hsz
  have hD := hD0.self (sz := s.heap.size)
  generalize hAe : va_A (wMdR cI cZ cQ b mday mdoo mtel mgai mbyt mtxt mpos mtka mtok mdig mnum mfau mrdm mrea mlin mbsm) s.heap.size = A at hD ⊢
  have hA : ∀ q : Nat, s.heap.size ≤ q → A q := fun q h => by rw [← hAe]; exact Or.inr h
  have hS : va_S A s.heap s.heap [] := va_S.rf
  have hl := lv_entry ([.ref (b 39), .int at_]) (n := 2) (Nat.le_of_ble_eq_true rfl)
  rw [lg_entry_eq]
  generalize (lg_sl ([.ref (b 39), .int at_]) ++ List.replicate (2 - (lg_sl ([.ref (b 39), .int at_])).length) Slot.unset).toArray = ls at hl ⊢
  have hl : lv_has ls 2 [(0, .ref (b 39)), (1, .int at_)] := hl
  refine lv_aload_n hx hb dX10_isLine_0 rfl (lv_at hl 0 rfl) ?_
  refine wvV (As := []) (rest := []) (wr := [((b 28), .inl (cI, 30, .inl mrea))]) (w2 := (fun u : US => (wMdR cI cZ cQ b mday mdoo mtel mgai mbyt mtxt (u.1 0 0) (u.1 1 0) u.2.1 (u.1 3 0) (u.1 4 0) mfau mrdm mrea mlin mbsm))) ⟨hx, hb, hml, hown, hts⟩ (k_X10_nextToken2 l dC dI cI cZ cQ b mday mdoo mtel mgai mbyt mtxt mpos mtka mtok mdig mnum mfau mrdm mlin mbsm _ r_mday r_mdoo r_mgai r_mbyt r_mpos r_mrdm r_mlin (by omega)) (cwV 0 hts gX10_isLine_X10_nextToken rfl rfl rfl (by decide +kernel) ⟨Nat.le_of_ble_eq_true rfl, Nat.le_of_ble_eq_true rfl⟩) hP hD hS hA hK hN [0, 1] [2] [1, 2, 0] rfl rfl (by decide) (by decide) (by decide) (fun _ => rfl) (by decide) 0 10 rfl rfl rfl hl.1 rfl (Nat.le_of_ble_eq_true rfl) dX10_isLine_1 ⟨Nat.le_of_ble_eq_true rfl, Nat.le_of_ble_eq_true rfl⟩ (fun u3 H locs h2 hP hD hS => ?_)
  obtain ⟨mpos_c4, empos_c4⟩ : ∃ f : Int32, f = (u3.1 0 0) := ⟨_, rfl⟩
  obtain ⟨mtka_c5, emtka_c5⟩ : ∃ f : Int32, f = (u3.1 1 0) := ⟨_, rfl⟩
  obtain ⟨mtok_c6, emtok_c6⟩ : ∃ f : Int64, f = u3.2.1 := ⟨_, rfl⟩
  obtain ⟨mdig_c7, emdig_c7⟩ : ∃ f : Int32, f = (u3.1 3 0) := ⟨_, rfl⟩
  obtain ⟨mnum_c8, emnum_c8⟩ : ∃ f : Int32, f = (u3.1 4 0) := ⟨_, rfl⟩
  have hP : va_P (dC, dI) vwCl (wMdR cI cZ cQ b mday mdoo mtel mgai mbyt mtxt mpos_c4 mtka_c5 mtok_c6 mdig_c7 mnum_c8 mfau mrdm mrea mlin mbsm) H := by rw [empos_c4, emtka_c5, emtok_c6, emdig_c7, emnum_c8]; exact hP
  have hD : va_D A (wMdR cI cZ cQ b mday mdoo mtel mgai mbyt mtxt mpos_c4 mtka_c5 mtok_c6 mdig_c7 mnum_c8 mfau mrdm mrea mlin mbsm) := by rw [empos_c4, emtka_c5, emtok_c6, emdig_c7, emnum_c8]; exact hD
  have h2 : (mpos_c4.toInt ≤ mbyt.toInt) ∧ (0 ≤ mtka_c5.toInt) ∧ (mtka_c5.toInt ≤ mpos_c4.toInt) ∧ (mtka_c5.toInt = tS mtxt mbyt.toInt mpos.toInt) ∧ (mpos_c4.toInt = tE mtxt mbyt.toInt mtka_c5.toInt) ∧ (mtok_c6 = tkV mtxt mbyt.toInt mtka_c5.toInt mpos_c4.toInt) ∧ (nmP mtxt mbyt.toInt mtka_c5.toInt mpos_c4.toInt mnum_c8) ∧ (0 ≤ mpos_c4.toInt ∧ mpos_c4.toInt ≤ 160) := by (try rw [empos_c4]); (try rw [emtka_c5]); (try rw [emtok_c6]); (try rw [emdig_c7]); (try rw [emnum_c8]); exact h2
  obtain ⟨h2_0, h2_1, h2_2, h2_3, h2_4, h2_5, h2_6, h2_7⟩ := h2
  have L71 : ∀ (mrea_71 : Nat → Int32) (H : Heap) (locs : List Loc) (ls : Array Slot), (ilA mtxt mbyt.toInt mpos.toInt at_ mrea mrea_71) → va_P (dC, dI) vwCl (wMdR cI cZ cQ b mday mdoo mtel mgai mbyt mtxt mpos_c4 mtka_c5 mtok_c6 mdig_c7 mnum_c8 mfau mrdm mrea_71 mlin mbsm) H → va_D A (wMdR cI cZ cQ b mday mdoo mtel mgai mbyt mtxt mpos_c4 mtka_c5 mtok_c6 mdig_c7 mnum_c8 mfau mrdm mrea_71 mlin mbsm) → va_S A s.heap H locs → lv_has ls 2 [(0, .ref (b 39)), (1, .int at_)] → W p l e (headSpec wsX10_isLine { frames := 3, cells := 0, slots := 0, locals := 65 }).room s m ([.ref (b 39), .int at_] : List Value).toArray below meth c H locs 0 0 (MQ below (va_Qi (fun (r : Int32) (u : US) => ((((r = 1) ∧ (lnM mtxt mbyt.toInt mpos.toInt at_ mrea (u.1 6) (u.1 0 0).toInt)) ∨ ((r = 0) ∧ (lnR mtxt mbyt.toInt mpos.toInt at_ mrea (u.1 6) (u.1 5 0).toInt)))) ∧ ((u.1 0 0).toInt ≤ mbyt.toInt) ∧ (0 ≤ (u.1 0 0).toInt ∧ (u.1 0 0).toInt ≤ 160)) (Bw (dC, dI) A (fun u : US => (wMdR cI cZ cQ b mday mdoo mtel mgai mbyt mtxt (u.1 0 0) (u.1 1 0) u.2.1 (u.1 3 0) (u.1 4 0) (u.1 5 0) mrdm (u.1 6) mlin mbsm))) A) ([.ref (b 39), .int at_] : List Value).toArray s 0 0 A) (F0 m 71 ls []) := by
    intro mrea_71 H locs ls i71_0 hP hD hS hl
    refine lv_aload_n hx hb dX10_isLine_71 rfl (lv_at hl 0 rfl) ?_
    refine va_get (D := (dC, dI)) (ci := 10) (v := .ref (b 28)) (C := RX10) (T := TX10) (N := 39) hx hb hts inX10 hown hK hP 0 rfl rfl 28 (by decide) lf65 (fun _ h9 => h9) rfl dX10_isLine_72 ?_
    refine lv_iload_n hx hb dX10_isLine_75 rfl (lv_at hl 1 rfl) ?_
    refine lv_iconst (v := 1) hx hb dX10_isLine_76 (by decide) ?_
    refine lv_iadd hx hb dX10_isLine_77 ?_
    have f9 : (at_ + 1).toInt = (at_.toInt) + (1) := addC rfl (show (1 : Int32).toInt = 1 from rfl) (by omega) (by omega)
    refine lv_iconst (v := 0) hx hb dX10_isLine_78 (by decide) ?_
    have b10 : vp_in (at_ + 1) 30 := inC f9 (by omega) (by omega)
    refine va_iast hx hb hK hP hD hS 2 0 rfl rfl b10 dX10_isLine_79 (fun H locs hP hD hS => ?_)
    obtain ⟨mrea_u11, emrea_u11⟩ : ∃ f : Nat → Int32, f = upd mrea_71 (at_ + 1).toNatClampNeg 0 := ⟨_, rfl⟩
    have hP : va_P (dC, dI) vwCl (wMdR cI cZ cQ b mday mdoo mtel mgai mbyt mtxt mpos_c4 mtka_c5 mtok_c6 mdig_c7 mnum_c8 mfau mrdm mrea_u11 mlin mbsm) H := by rw [emrea_u11]; exact hP
    have hD : va_D A (wMdR cI cZ cQ b mday mdoo mtel mgai mbyt mtxt mpos_c4 mtka_c5 mtok_c6 mdig_c7 mnum_c8 mfau mrdm mrea_u11 mlin mbsm) := by rw [emrea_u11]; exact hD
    refine lv_aload_n hx hb dX10_isLine_80 rfl (lv_at hl 0 rfl) ?_
    refine va_get (D := (dC, dI)) (ci := 10) (v := .ref (b 28)) (C := RX10) (T := TX10) (N := 39) hx hb hts inX10 hown hK hP 0 rfl rfl 28 (by decide) lf65 (fun _ h9 => h9) rfl dX10_isLine_81 ?_
    refine lv_iload_n hx hb dX10_isLine_84 rfl (lv_at hl 1 rfl) ?_
    have b12 : vp_in at_ 30 := inC rfl (by omega) (by omega)
    refine va_iald hx hb hK hP 2 0 rfl rfl b12 dX10_isLine_85 ?_
    have hil9 := il_zero (k := (mrea_u11 at_.toNatClampNeg)) i71_0 (by assumption) (by first | assumption | omega) (by omega) rfl
    by_cases w13 : mrea_u11 at_.toNatClampNeg = 0
    · have dw13 : (mrea_u11 at_.toNatClampNeg).toInt = 0 := eqC rfl rfl w13
      refine lv_tableIn (off := 30) (tgt := 116) hx hb dX10_isLine_86 (by rw [w13]; decide) (by rw [w13]; decide) (by rw [w13]; decide) (by decide) ?_
      refine lv_aload_n hx hb dX10_isLine_116 rfl (lv_at hl 0 rfl) ?_
      refine lv_iload_n hx hb dX10_isLine_117 rfl (lv_at hl 1 rfl) ?_
      refine lv_iconst (v := 1) hx hb dX10_isLine_118 (by decide) ?_
      refine lv_iadd hx hb dX10_isLine_119 ?_
      have f14 : (at_ + 1).toInt = (at_.toInt) + (1) := addC rfl (show (1 : Int32).toInt = 1 from rfl) (by omega) (by omega)
      refine lv_iconst (v := 0) hx hb dX10_isLine_120 (by decide) ?_
      refine lv_bipush (v := 7) hx hb dX10_isLine_121 (by decide) ?_
      have kc0 : (0 : Int32).toInt = 0 := rfl
      refine wrV (As := [.int (at_ + 1), .int 0, .int 7]) (rest := []) (wr := []) (w2 := (fun u : US => (wMdR cI cZ cQ b mday mdoo mtel mgai mbyt mtxt (u.1 0 0) (u.1 1 0) u.2.1 (u.1 3 0) (u.1 4 0) (u.1 5 0) mrdm (u.1 6) mlin mbsm))) ⟨hx, hb, hml, hown, hts⟩ (k_X10_isNumber2 l dC dI cI cZ cQ b mday mdoo mtel mgai mbyt mtxt mpos_c4 mtka_c5 mtok_c6 mdig_c7 mnum_c8 mfau mrdm mrea_u11 mlin mbsm _ (at_ + 1) (0 : Int32) (7 : Int32) r_mday r_mdoo r_mgai r_mbyt h2_7 r_mrdm r_mlin (by omega) (by omega) (by omega) (by omega)) (cwV 3 hts gX10_isLine_X10_isNumber rfl rfl rfl (by decide +kernel) ⟨Nat.le_of_ble_eq_true rfl, Nat.le_of_ble_eq_true rfl⟩) hP hD hS hA hK hN [0, 1, 2] [] [0, 1, 2] rfl rfl (by decide) (by decide) (by decide) (fun _ => rfl) (by decide) 0 10 rfl rfl rfl hl.1 rfl (Nat.le_of_ble_eq_true rfl) dX10_isLine_123 ⟨Nat.le_of_ble_eq_true rfl, Nat.le_of_ble_eq_true rfl⟩ (fun r15 u17 H locs h16 hP hD hS => ?_)
      obtain ⟨mpos_c18, empos_c18⟩ : ∃ f : Int32, f = (u17.1 0 0) := ⟨_, rfl⟩
      obtain ⟨mtka_c19, emtka_c19⟩ : ∃ f : Int32, f = (u17.1 1 0) := ⟨_, rfl⟩
      obtain ⟨mtok_c20, emtok_c20⟩ : ∃ f : Int64, f = u17.2.1 := ⟨_, rfl⟩
      obtain ⟨mdig_c21, emdig_c21⟩ : ∃ f : Int32, f = (u17.1 3 0) := ⟨_, rfl⟩
      obtain ⟨mnum_c22, emnum_c22⟩ : ∃ f : Int32, f = (u17.1 4 0) := ⟨_, rfl⟩
      obtain ⟨mfau_c23, emfau_c23⟩ : ∃ f : Int32, f = (u17.1 5 0) := ⟨_, rfl⟩
      obtain ⟨mrea_c24, emrea_c24⟩ : ∃ f : Nat → Int32, f = (u17.1 6) := ⟨_, rfl⟩
      have hP : va_P (dC, dI) vwCl (wMdR cI cZ cQ b mday mdoo mtel mgai mbyt mtxt mpos_c18 mtka_c19 mtok_c20 mdig_c21 mnum_c22 mfau_c23 mrdm mrea_c24 mlin mbsm) H := by rw [empos_c18, emtka_c19, emtok_c20, emdig_c21, emnum_c22, emfau_c23, emrea_c24]; exact hP
      have hD : va_D A (wMdR cI cZ cQ b mday mdoo mtel mgai mbyt mtxt mpos_c18 mtka_c19 mtok_c20 mdig_c21 mnum_c22 mfau_c23 mrdm mrea_c24 mlin mbsm) := by rw [empos_c18, emtka_c19, emtok_c20, emdig_c21, emnum_c22, emfau_c23, emrea_c24]; exact hD
      have h16 : ((((r15 = 1) ∧ (imT mtxt mbyt.toInt mpos_c4.toInt (0) (7) (at_ + 1).toNatClampNeg mrea_u11 mrea_c24 mpos_c18.toInt)) ∨ ((r15 = 0) ∧ (imN mtxt mbyt.toInt mpos_c4.toInt (0) (7) mfau_c23.toInt mrea_u11 mrea_c24)))) ∧ (mpos_c18.toInt ≤ mbyt.toInt) ∧ (0 ≤ mpos_c18.toInt ∧ mpos_c18.toInt ≤ 160) := by (try rw [empos_c18]); (try rw [emtka_c19]); (try rw [emtok_c20]); (try rw [emdig_c21]); (try rw [emnum_c22]); (try rw [emfau_c23]); (try rw [emrea_c24]); exact h16
      rcases h16 with ⟨(⟨rfl, h16_a0⟩ | ⟨rfl, h16_a0⟩), h16_0, h16_1⟩
      · refine lv_if_eq (tgt := 146) hx hb dX10_isLine_126 (by decide) (fun c9 => absurd c9 (by decide)) (fun _ => ?_)
        refine lv_aload_n hx hb dX10_isLine_129 rfl (lv_at hl 0 rfl) ?_
        refine lv_iload_n hx hb dX10_isLine_130 rfl (lv_at hl 1 rfl) ?_
        refine lv_iconst (v := 2) hx hb dX10_isLine_131 (by decide) ?_
        refine lv_iadd hx hb dX10_isLine_132 ?_
        have f25 : (at_ + 2).toInt = (at_.toInt) + (2) := addC rfl (show (2 : Int32).toInt = 2 from rfl) (by omega) (by omega)
        refine lv_iconst (v := 0) hx hb dX10_isLine_133 (by decide) ?_
        refine lv_bipush (v := 8) hx hb dX10_isLine_134 (by decide) ?_
        have kc0 : (0 : Int32).toInt = 0 := rfl
        refine wrV (As := [.int (at_ + 2), .int 0, .int 8]) (rest := []) (wr := []) (w2 := (fun u : US => (wMdR cI cZ cQ b mday mdoo mtel mgai mbyt mtxt (u.1 0 0) (u.1 1 0) u.2.1 (u.1 3 0) (u.1 4 0) (u.1 5 0) mrdm (u.1 6) mlin mbsm))) ⟨hx, hb, hml, hown, hts⟩ (k_X10_isNumber2 l dC dI cI cZ cQ b mday mdoo mtel mgai mbyt mtxt mpos_c18 mtka_c19 mtok_c20 mdig_c21 mnum_c22 mfau_c23 mrdm mrea_c24 mlin mbsm _ (at_ + 2) (0 : Int32) (8 : Int32) r_mday r_mdoo r_mgai r_mbyt h16_1 r_mrdm r_mlin (by omega) (by omega) (by omega) (by omega)) (cwV 3 hts gX10_isLine_X10_isNumber rfl rfl rfl (by decide +kernel) ⟨Nat.le_of_ble_eq_true rfl, Nat.le_of_ble_eq_true rfl⟩) hP hD hS hA hK hN [0, 1, 2] [] [0, 1, 2] rfl rfl (by decide) (by decide) (by decide) (fun _ => rfl) (by decide) 0 10 rfl rfl rfl hl.1 rfl (Nat.le_of_ble_eq_true rfl) dX10_isLine_136 ⟨Nat.le_of_ble_eq_true rfl, Nat.le_of_ble_eq_true rfl⟩ (fun r26 u28 H locs h27 hP hD hS => ?_)
        obtain ⟨mpos_c29, empos_c29⟩ : ∃ f : Int32, f = (u28.1 0 0) := ⟨_, rfl⟩
        obtain ⟨mtka_c30, emtka_c30⟩ : ∃ f : Int32, f = (u28.1 1 0) := ⟨_, rfl⟩
        obtain ⟨mtok_c31, emtok_c31⟩ : ∃ f : Int64, f = u28.2.1 := ⟨_, rfl⟩
        obtain ⟨mdig_c32, emdig_c32⟩ : ∃ f : Int32, f = (u28.1 3 0) := ⟨_, rfl⟩
        obtain ⟨mnum_c33, emnum_c33⟩ : ∃ f : Int32, f = (u28.1 4 0) := ⟨_, rfl⟩
        obtain ⟨mfau_c34, emfau_c34⟩ : ∃ f : Int32, f = (u28.1 5 0) := ⟨_, rfl⟩
        obtain ⟨mrea_c35, emrea_c35⟩ : ∃ f : Nat → Int32, f = (u28.1 6) := ⟨_, rfl⟩
        have hP : va_P (dC, dI) vwCl (wMdR cI cZ cQ b mday mdoo mtel mgai mbyt mtxt mpos_c29 mtka_c30 mtok_c31 mdig_c32 mnum_c33 mfau_c34 mrdm mrea_c35 mlin mbsm) H := by rw [empos_c29, emtka_c30, emtok_c31, emdig_c32, emnum_c33, emfau_c34, emrea_c35]; exact hP
        have hD : va_D A (wMdR cI cZ cQ b mday mdoo mtel mgai mbyt mtxt mpos_c29 mtka_c30 mtok_c31 mdig_c32 mnum_c33 mfau_c34 mrdm mrea_c35 mlin mbsm) := by rw [empos_c29, emtka_c30, emtok_c31, emdig_c32, emnum_c33, emfau_c34, emrea_c35]; exact hD
        have h27 : ((((r26 = 1) ∧ (imT mtxt mbyt.toInt mpos_c18.toInt (0) (8) (at_ + 2).toNatClampNeg mrea_c24 mrea_c35 mpos_c29.toInt)) ∨ ((r26 = 0) ∧ (imN mtxt mbyt.toInt mpos_c18.toInt (0) (8) mfau_c34.toInt mrea_c24 mrea_c35)))) ∧ (mpos_c29.toInt ≤ mbyt.toInt) ∧ (0 ≤ mpos_c29.toInt ∧ mpos_c29.toInt ≤ 160) := by (try rw [empos_c29]); (try rw [emtka_c30]); (try rw [emtok_c31]); (try rw [emdig_c32]); (try rw [emnum_c33]); (try rw [emfau_c34]); (try rw [emrea_c35]); exact h27
        rcases h27 with ⟨(⟨rfl, h27_a0⟩ | ⟨rfl, h27_a0⟩), h27_0, h27_1⟩
        · refine lv_if_eq (tgt := 146) hx hb dX10_isLine_139 (by decide) (fun c9 => absurd c9 (by decide)) (fun _ => ?_)
          refine lv_iconst (v := 1) hx hb dX10_isLine_142 (by decide) ?_
          refine lv_goto (tgt := 147) hx hb dX10_isLine_143 (by decide) ?_
          exact W.zret (v := 1) hx hb hr (by decide) (fun tq ht hW => ⟨⟨1, (uS [(fun _ => mpos_c29), (fun _ => mtka_c30), (fun _ => 0), (fun _ => mdig_c32), (fun _ => mnum_c33), (fun _ => mfau_c34), mrea_c35] mtok_c31 (fun _ => 0)), rfl, ⟨(Or.inl (⟨rfl, (show lnM mtxt mbyt.toInt mpos.toInt at_ mrea mrea_c35 mpos_c29.toInt from by (try rw [show (1 : Int32).toInt = 1 from (show (1 : Int32).toInt = 1 from rfl)]); (first | exact il_room hil9 (by assumption) (nx_of (by assumption) (by assumption)) (by assumption) (by assumption) (by assumption) (by assumption) (by omega) | exact ir_room2 hil9 (by assumption) (nx_of (by assumption) (by assumption)) (by assumption) (by assumption) (by omega) (by assumption) | exact ir_room1 hil9 (by assumption) (nx_of (by assumption) (by assumption)) (by assumption) | exact il_one hil9 (by first | exact Or.inl ⟨by assumption, rfl, rfl⟩ | exact Or.inr ⟨by assumption, rfl, rfl⟩) (nx_of (by assumption) (by assumption)) (by assumption) (by assumption) (by omega) | exact ir_one hil9 (by first | exact Or.inl ⟨by assumption, rfl, rfl⟩ | exact Or.inr ⟨by assumption, rfl, rfl⟩) (nx_of (by assumption) (by assumption)) (by assumption) | exact il_walk hil9 (by assumption) (nx_of (by assumption) (by assumption)) (by assumption) (by assumption) (by assumption) (by assumption) (by assumption) (by assumption) (by omega) | exact ir_walk3 hil9 (by assumption) (nx_of (by assumption) (by assumption)) (by assumption) (by assumption) (by omega) (by assumption) (by assumption) (by assumption) | exact ir_walk2 hil9 (by assumption) (nx_of (by assumption) (by assumption)) (by assumption) (by assumption) (by omega) (by assumption) (by assumption) | exact ir_walk1 hil9 (by assumption) (nx_of (by assumption) (by assumption)) (by assumption) | exact ir_none hil9 (by omega) (fa_of (by assumption) (by assumption))))⟩)), (show mpos_c29.toInt ≤ mbyt.toInt from by (try rw [show (1 : Int32).toInt = 1 from (show (1 : Int32).toInt = 1 from rfl)]); omega), h27_1⟩, by rw [ht]; exact hP, hD⟩, hS.F ht⟩) hS.2.2 dX10_isLine_147
        · refine lv_if_eq (tgt := 146) hx hb dX10_isLine_139 (by decide) (fun _ => ?_) (fun c9 => absurd (by decide) c9)
          refine lv_iconst (v := 0) hx hb dX10_isLine_146 (by decide) ?_
          exact W.zret (v := 0) hx hb hr (by decide) (fun tq ht hW => ⟨⟨0, (uS [(fun _ => mpos_c29), (fun _ => mtka_c30), (fun _ => 0), (fun _ => mdig_c32), (fun _ => mnum_c33), (fun _ => mfau_c34), mrea_c35] mtok_c31 (fun _ => 0)), rfl, ⟨(Or.inr (⟨rfl, (show lnR mtxt mbyt.toInt mpos.toInt at_ mrea mrea_c35 mfau_c34.toInt from by (try rw [show (0 : Int32).toInt = 0 from (show (0 : Int32).toInt = 0 from rfl)]); (first | exact il_room hil9 (by assumption) (nx_of (by assumption) (by assumption)) (by assumption) (by assumption) (by assumption) (by assumption) (by omega) | exact ir_room2 hil9 (by assumption) (nx_of (by assumption) (by assumption)) (by assumption) (by assumption) (by omega) (by assumption) | exact ir_room1 hil9 (by assumption) (nx_of (by assumption) (by assumption)) (by assumption) | exact il_one hil9 (by first | exact Or.inl ⟨by assumption, rfl, rfl⟩ | exact Or.inr ⟨by assumption, rfl, rfl⟩) (nx_of (by assumption) (by assumption)) (by assumption) (by assumption) (by omega) | exact ir_one hil9 (by first | exact Or.inl ⟨by assumption, rfl, rfl⟩ | exact Or.inr ⟨by assumption, rfl, rfl⟩) (nx_of (by assumption) (by assumption)) (by assumption) | exact il_walk hil9 (by assumption) (nx_of (by assumption) (by assumption)) (by assumption) (by assumption) (by assumption) (by assumption) (by assumption) (by assumption) (by omega) | exact ir_walk3 hil9 (by assumption) (nx_of (by assumption) (by assumption)) (by assumption) (by assumption) (by omega) (by assumption) (by assumption) (by assumption) | exact ir_walk2 hil9 (by assumption) (nx_of (by assumption) (by assumption)) (by assumption) (by assumption) (by omega) (by assumption) (by assumption) | exact ir_walk1 hil9 (by assumption) (nx_of (by assumption) (by assumption)) (by assumption) | exact ir_none hil9 (by omega) (fa_of (by assumption) (by assumption))))⟩)), (show mpos_c29.toInt ≤ mbyt.toInt from by (try rw [show (0 : Int32).toInt = 0 from (show (0 : Int32).toInt = 0 from rfl)]); omega), h27_1⟩, by rw [ht]; exact hP, hD⟩, hS.F ht⟩) hS.2.2 dX10_isLine_147
      · refine lv_if_eq (tgt := 146) hx hb dX10_isLine_126 (by decide) (fun _ => ?_) (fun c9 => absurd (by decide) c9)
        refine lv_iconst (v := 0) hx hb dX10_isLine_146 (by decide) ?_
        exact W.zret (v := 0) hx hb hr (by decide) (fun tq ht hW => ⟨⟨0, (uS [(fun _ => mpos_c18), (fun _ => mtka_c19), (fun _ => 0), (fun _ => mdig_c21), (fun _ => mnum_c22), (fun _ => mfau_c23), mrea_c24] mtok_c20 (fun _ => 0)), rfl, ⟨(Or.inr (⟨rfl, (show lnR mtxt mbyt.toInt mpos.toInt at_ mrea mrea_c24 mfau_c23.toInt from by (try rw [show (0 : Int32).toInt = 0 from (show (0 : Int32).toInt = 0 from rfl)]); (first | exact il_room hil9 (by assumption) (nx_of (by assumption) (by assumption)) (by assumption) (by assumption) (by assumption) (by assumption) (by omega) | exact ir_room2 hil9 (by assumption) (nx_of (by assumption) (by assumption)) (by assumption) (by assumption) (by omega) (by assumption) | exact ir_room1 hil9 (by assumption) (nx_of (by assumption) (by assumption)) (by assumption) | exact il_one hil9 (by first | exact Or.inl ⟨by assumption, rfl, rfl⟩ | exact Or.inr ⟨by assumption, rfl, rfl⟩) (nx_of (by assumption) (by assumption)) (by assumption) (by assumption) (by omega) | exact ir_one hil9 (by first | exact Or.inl ⟨by assumption, rfl, rfl⟩ | exact Or.inr ⟨by assumption, rfl, rfl⟩) (nx_of (by assumption) (by assumption)) (by assumption) | exact il_walk hil9 (by assumption) (nx_of (by assumption) (by assumption)) (by assumption) (by assumption) (by assumption) (by assumption) (by assumption) (by assumption) (by omega) | exact ir_walk3 hil9 (by assumption) (nx_of (by assumption) (by assumption)) (by assumption) (by assumption) (by omega) (by assumption) (by assumption) (by assumption) | exact ir_walk2 hil9 (by assumption) (nx_of (by assumption) (by assumption)) (by assumption) (by assumption) (by omega) (by assumption) (by assumption) | exact ir_walk1 hil9 (by assumption) (nx_of (by assumption) (by assumption)) (by assumption) | exact ir_none hil9 (by omega) (fa_of (by assumption) (by assumption))))⟩)), (show mpos_c18.toInt ≤ mbyt.toInt from by (try rw [show (0 : Int32).toInt = 0 from (show (0 : Int32).toInt = 0 from rfl)]); omega), h16_1⟩, by rw [ht]; exact hP, hD⟩, hS.F ht⟩) hS.2.2 dX10_isLine_147
    by_cases w36 : mrea_u11 at_.toNatClampNeg = 1
    · have dw36 : (mrea_u11 at_.toNatClampNeg).toInt = 1 := eqC rfl rfl w36
      refine lv_tableIn (off := 62) (tgt := 148) hx hb dX10_isLine_86 (by rw [w36]; decide) (by rw [w36]; decide) (by rw [w36]; decide) (by decide) ?_
      refine lv_aload_n hx hb dX10_isLine_148 rfl (lv_at hl 0 rfl) ?_
      refine lv_iload_n hx hb dX10_isLine_149 rfl (lv_at hl 1 rfl) ?_
      refine lv_iconst (v := 2) hx hb dX10_isLine_150 (by decide) ?_
      refine lv_iadd hx hb dX10_isLine_151 ?_
      have f37 : (at_ + 2).toInt = (at_.toInt) + (2) := addC rfl (show (2 : Int32).toInt = 2 from rfl) (by omega) (by omega)
      refine lv_iconst (v := 1) hx hb dX10_isLine_152 (by decide) ?_
      refine lv_bipush (v := 99) hx hb dX10_isLine_153 (by decide) ?_
      have kc1 : (1 : Int32).toInt = 1 := rfl
      refine wrV (As := [.int (at_ + 2), .int 1, .int 99]) (rest := []) (wr := []) (w2 := (fun u : US => (wMdR cI cZ cQ b mday mdoo mtel mgai mbyt mtxt (u.1 0 0) (u.1 1 0) u.2.1 (u.1 3 0) (u.1 4 0) (u.1 5 0) mrdm (u.1 6) mlin mbsm))) ⟨hx, hb, hml, hown, hts⟩ (k_X10_isNumber2 l dC dI cI cZ cQ b mday mdoo mtel mgai mbyt mtxt mpos_c4 mtka_c5 mtok_c6 mdig_c7 mnum_c8 mfau mrdm mrea_u11 mlin mbsm _ (at_ + 2) (1 : Int32) (99 : Int32) r_mday r_mdoo r_mgai r_mbyt h2_7 r_mrdm r_mlin (by omega) (by omega) (by omega) (by omega)) (cwV 3 hts gX10_isLine_X10_isNumber rfl rfl rfl (by decide +kernel) ⟨Nat.le_of_ble_eq_true rfl, Nat.le_of_ble_eq_true rfl⟩) hP hD hS hA hK hN [0, 1, 2] [] [0, 1, 2] rfl rfl (by decide) (by decide) (by decide) (fun _ => rfl) (by decide) 0 10 rfl rfl rfl hl.1 rfl (Nat.le_of_ble_eq_true rfl) dX10_isLine_155 ⟨Nat.le_of_ble_eq_true rfl, Nat.le_of_ble_eq_true rfl⟩ (fun r38 u40 H locs h39 hP hD hS => ?_)
      obtain ⟨mpos_c41, empos_c41⟩ : ∃ f : Int32, f = (u40.1 0 0) := ⟨_, rfl⟩
      obtain ⟨mtka_c42, emtka_c42⟩ : ∃ f : Int32, f = (u40.1 1 0) := ⟨_, rfl⟩
      obtain ⟨mtok_c43, emtok_c43⟩ : ∃ f : Int64, f = u40.2.1 := ⟨_, rfl⟩
      obtain ⟨mdig_c44, emdig_c44⟩ : ∃ f : Int32, f = (u40.1 3 0) := ⟨_, rfl⟩
      obtain ⟨mnum_c45, emnum_c45⟩ : ∃ f : Int32, f = (u40.1 4 0) := ⟨_, rfl⟩
      obtain ⟨mfau_c46, emfau_c46⟩ : ∃ f : Int32, f = (u40.1 5 0) := ⟨_, rfl⟩
      obtain ⟨mrea_c47, emrea_c47⟩ : ∃ f : Nat → Int32, f = (u40.1 6) := ⟨_, rfl⟩
      have hP : va_P (dC, dI) vwCl (wMdR cI cZ cQ b mday mdoo mtel mgai mbyt mtxt mpos_c41 mtka_c42 mtok_c43 mdig_c44 mnum_c45 mfau_c46 mrdm mrea_c47 mlin mbsm) H := by rw [empos_c41, emtka_c42, emtok_c43, emdig_c44, emnum_c45, emfau_c46, emrea_c47]; exact hP
      have hD : va_D A (wMdR cI cZ cQ b mday mdoo mtel mgai mbyt mtxt mpos_c41 mtka_c42 mtok_c43 mdig_c44 mnum_c45 mfau_c46 mrdm mrea_c47 mlin mbsm) := by rw [empos_c41, emtka_c42, emtok_c43, emdig_c44, emnum_c45, emfau_c46, emrea_c47]; exact hD
      have h39 : ((((r38 = 1) ∧ (imT mtxt mbyt.toInt mpos_c4.toInt (1) (99) (at_ + 2).toNatClampNeg mrea_u11 mrea_c47 mpos_c41.toInt)) ∨ ((r38 = 0) ∧ (imN mtxt mbyt.toInt mpos_c4.toInt (1) (99) mfau_c46.toInt mrea_u11 mrea_c47)))) ∧ (mpos_c41.toInt ≤ mbyt.toInt) ∧ (0 ≤ mpos_c41.toInt ∧ mpos_c41.toInt ≤ 160) := by (try rw [empos_c41]); (try rw [emtka_c42]); (try rw [emtok_c43]); (try rw [emdig_c44]); (try rw [emnum_c45]); (try rw [emfau_c46]); (try rw [emrea_c47]); exact h39
      rcases h39 with ⟨(⟨rfl, h39_a0⟩ | ⟨rfl, h39_a0⟩), h39_0, h39_1⟩
      · exact W.zret (v := 1) hx hb hr (by decide) (fun tq ht hW => ⟨⟨1, (uS [(fun _ => mpos_c41), (fun _ => mtka_c42), (fun _ => 0), (fun _ => mdig_c44), (fun _ => mnum_c45), (fun _ => mfau_c46), mrea_c47] mtok_c43 (fun _ => 0)), rfl, ⟨(Or.inl (⟨rfl, (show lnM mtxt mbyt.toInt mpos.toInt at_ mrea mrea_c47 mpos_c41.toInt from by (try rw [show (1 : Int32).toInt = 1 from (show (1 : Int32).toInt = 1 from rfl)]); (first | exact il_room hil9 (by assumption) (nx_of (by assumption) (by assumption)) (by assumption) (by assumption) (by assumption) (by assumption) (by omega) | exact ir_room2 hil9 (by assumption) (nx_of (by assumption) (by assumption)) (by assumption) (by assumption) (by omega) (by assumption) | exact ir_room1 hil9 (by assumption) (nx_of (by assumption) (by assumption)) (by assumption) | exact il_one hil9 (by first | exact Or.inl ⟨by assumption, rfl, rfl⟩ | exact Or.inr ⟨by assumption, rfl, rfl⟩) (nx_of (by assumption) (by assumption)) (by assumption) (by assumption) (by omega) | exact ir_one hil9 (by first | exact Or.inl ⟨by assumption, rfl, rfl⟩ | exact Or.inr ⟨by assumption, rfl, rfl⟩) (nx_of (by assumption) (by assumption)) (by assumption) | exact il_walk hil9 (by assumption) (nx_of (by assumption) (by assumption)) (by assumption) (by assumption) (by assumption) (by assumption) (by assumption) (by assumption) (by omega) | exact ir_walk3 hil9 (by assumption) (nx_of (by assumption) (by assumption)) (by assumption) (by assumption) (by omega) (by assumption) (by assumption) (by assumption) | exact ir_walk2 hil9 (by assumption) (nx_of (by assumption) (by assumption)) (by assumption) (by assumption) (by omega) (by assumption) (by assumption) | exact ir_walk1 hil9 (by assumption) (nx_of (by assumption) (by assumption)) (by assumption) | exact ir_none hil9 (by omega) (fa_of (by assumption) (by assumption))))⟩)), (show mpos_c41.toInt ≤ mbyt.toInt from by (try rw [show (1 : Int32).toInt = 1 from (show (1 : Int32).toInt = 1 from rfl)]); omega), h39_1⟩, by rw [ht]; exact hP, hD⟩, hS.F ht⟩) hS.2.2 dX10_isLine_158
      · exact W.zret (v := 0) hx hb hr (by decide) (fun tq ht hW => ⟨⟨0, (uS [(fun _ => mpos_c41), (fun _ => mtka_c42), (fun _ => 0), (fun _ => mdig_c44), (fun _ => mnum_c45), (fun _ => mfau_c46), mrea_c47] mtok_c43 (fun _ => 0)), rfl, ⟨(Or.inr (⟨rfl, (show lnR mtxt mbyt.toInt mpos.toInt at_ mrea mrea_c47 mfau_c46.toInt from by (try rw [show (0 : Int32).toInt = 0 from (show (0 : Int32).toInt = 0 from rfl)]); (first | exact il_room hil9 (by assumption) (nx_of (by assumption) (by assumption)) (by assumption) (by assumption) (by assumption) (by assumption) (by omega) | exact ir_room2 hil9 (by assumption) (nx_of (by assumption) (by assumption)) (by assumption) (by assumption) (by omega) (by assumption) | exact ir_room1 hil9 (by assumption) (nx_of (by assumption) (by assumption)) (by assumption) | exact il_one hil9 (by first | exact Or.inl ⟨by assumption, rfl, rfl⟩ | exact Or.inr ⟨by assumption, rfl, rfl⟩) (nx_of (by assumption) (by assumption)) (by assumption) (by assumption) (by omega) | exact ir_one hil9 (by first | exact Or.inl ⟨by assumption, rfl, rfl⟩ | exact Or.inr ⟨by assumption, rfl, rfl⟩) (nx_of (by assumption) (by assumption)) (by assumption) | exact il_walk hil9 (by assumption) (nx_of (by assumption) (by assumption)) (by assumption) (by assumption) (by assumption) (by assumption) (by assumption) (by assumption) (by omega) | exact ir_walk3 hil9 (by assumption) (nx_of (by assumption) (by assumption)) (by assumption) (by assumption) (by omega) (by assumption) (by assumption) (by assumption) | exact ir_walk2 hil9 (by assumption) (nx_of (by assumption) (by assumption)) (by assumption) (by assumption) (by omega) (by assumption) (by assumption) | exact ir_walk1 hil9 (by assumption) (nx_of (by assumption) (by assumption)) (by assumption) | exact ir_none hil9 (by omega) (fa_of (by assumption) (by assumption))))⟩)), (show mpos_c41.toInt ≤ mbyt.toInt from by (try rw [show (0 : Int32).toInt = 0 from (show (0 : Int32).toInt = 0 from rfl)]); omega), h39_1⟩, by rw [ht]; exact hP, hD⟩, hS.F ht⟩) hS.2.2 dX10_isLine_158
    by_cases w48 : mrea_u11 at_.toNatClampNeg = 2
    · have dw48 : (mrea_u11 at_.toNatClampNeg).toInt = 2 := eqC rfl rfl w48
      refine lv_tableIn (off := 73) (tgt := 159) hx hb dX10_isLine_86 (by rw [w48]; decide) (by rw [w48]; decide) (by rw [w48]; decide) (by decide) ?_
      refine lv_aload_n hx hb dX10_isLine_159 rfl (lv_at hl 0 rfl) ?_
      refine lv_iload_n hx hb dX10_isLine_160 rfl (lv_at hl 1 rfl) ?_
      refine lv_iconst (v := 2) hx hb dX10_isLine_161 (by decide) ?_
      refine lv_iadd hx hb dX10_isLine_162 ?_
      have f49 : (at_ + 2).toInt = (at_.toInt) + (2) := addC rfl (show (2 : Int32).toInt = 2 from rfl) (by omega) (by omega)
      refine lv_iconst (v := 0) hx hb dX10_isLine_163 (by decide) ?_
      refine lv_bipush (v := 8) hx hb dX10_isLine_164 (by decide) ?_
      have kc0 : (0 : Int32).toInt = 0 := rfl
      refine wrV (As := [.int (at_ + 2), .int 0, .int 8]) (rest := []) (wr := []) (w2 := (fun u : US => (wMdR cI cZ cQ b mday mdoo mtel mgai mbyt mtxt (u.1 0 0) (u.1 1 0) u.2.1 (u.1 3 0) (u.1 4 0) (u.1 5 0) mrdm (u.1 6) mlin mbsm))) ⟨hx, hb, hml, hown, hts⟩ (k_X10_isNumber2 l dC dI cI cZ cQ b mday mdoo mtel mgai mbyt mtxt mpos_c4 mtka_c5 mtok_c6 mdig_c7 mnum_c8 mfau mrdm mrea_u11 mlin mbsm _ (at_ + 2) (0 : Int32) (8 : Int32) r_mday r_mdoo r_mgai r_mbyt h2_7 r_mrdm r_mlin (by omega) (by omega) (by omega) (by omega)) (cwV 3 hts gX10_isLine_X10_isNumber rfl rfl rfl (by decide +kernel) ⟨Nat.le_of_ble_eq_true rfl, Nat.le_of_ble_eq_true rfl⟩) hP hD hS hA hK hN [0, 1, 2] [] [0, 1, 2] rfl rfl (by decide) (by decide) (by decide) (fun _ => rfl) (by decide) 0 10 rfl rfl rfl hl.1 rfl (Nat.le_of_ble_eq_true rfl) dX10_isLine_166 ⟨Nat.le_of_ble_eq_true rfl, Nat.le_of_ble_eq_true rfl⟩ (fun r50 u52 H locs h51 hP hD hS => ?_)
      obtain ⟨mpos_c53, empos_c53⟩ : ∃ f : Int32, f = (u52.1 0 0) := ⟨_, rfl⟩
      obtain ⟨mtka_c54, emtka_c54⟩ : ∃ f : Int32, f = (u52.1 1 0) := ⟨_, rfl⟩
      obtain ⟨mtok_c55, emtok_c55⟩ : ∃ f : Int64, f = u52.2.1 := ⟨_, rfl⟩
      obtain ⟨mdig_c56, emdig_c56⟩ : ∃ f : Int32, f = (u52.1 3 0) := ⟨_, rfl⟩
      obtain ⟨mnum_c57, emnum_c57⟩ : ∃ f : Int32, f = (u52.1 4 0) := ⟨_, rfl⟩
      obtain ⟨mfau_c58, emfau_c58⟩ : ∃ f : Int32, f = (u52.1 5 0) := ⟨_, rfl⟩
      obtain ⟨mrea_c59, emrea_c59⟩ : ∃ f : Nat → Int32, f = (u52.1 6) := ⟨_, rfl⟩
      have hP : va_P (dC, dI) vwCl (wMdR cI cZ cQ b mday mdoo mtel mgai mbyt mtxt mpos_c53 mtka_c54 mtok_c55 mdig_c56 mnum_c57 mfau_c58 mrdm mrea_c59 mlin mbsm) H := by rw [empos_c53, emtka_c54, emtok_c55, emdig_c56, emnum_c57, emfau_c58, emrea_c59]; exact hP
      have hD : va_D A (wMdR cI cZ cQ b mday mdoo mtel mgai mbyt mtxt mpos_c53 mtka_c54 mtok_c55 mdig_c56 mnum_c57 mfau_c58 mrdm mrea_c59 mlin mbsm) := by rw [empos_c53, emtka_c54, emtok_c55, emdig_c56, emnum_c57, emfau_c58, emrea_c59]; exact hD
      have h51 : ((((r50 = 1) ∧ (imT mtxt mbyt.toInt mpos_c4.toInt (0) (8) (at_ + 2).toNatClampNeg mrea_u11 mrea_c59 mpos_c53.toInt)) ∨ ((r50 = 0) ∧ (imN mtxt mbyt.toInt mpos_c4.toInt (0) (8) mfau_c58.toInt mrea_u11 mrea_c59)))) ∧ (mpos_c53.toInt ≤ mbyt.toInt) ∧ (0 ≤ mpos_c53.toInt ∧ mpos_c53.toInt ≤ 160) := by (try rw [empos_c53]); (try rw [emtka_c54]); (try rw [emtok_c55]); (try rw [emdig_c56]); (try rw [emnum_c57]); (try rw [emfau_c58]); (try rw [emrea_c59]); exact h51
      rcases h51 with ⟨(⟨rfl, h51_a0⟩ | ⟨rfl, h51_a0⟩), h51_0, h51_1⟩
      · exact W.zret (v := 1) hx hb hr (by decide) (fun tq ht hW => ⟨⟨1, (uS [(fun _ => mpos_c53), (fun _ => mtka_c54), (fun _ => 0), (fun _ => mdig_c56), (fun _ => mnum_c57), (fun _ => mfau_c58), mrea_c59] mtok_c55 (fun _ => 0)), rfl, ⟨(Or.inl (⟨rfl, (show lnM mtxt mbyt.toInt mpos.toInt at_ mrea mrea_c59 mpos_c53.toInt from by (try rw [show (1 : Int32).toInt = 1 from (show (1 : Int32).toInt = 1 from rfl)]); (first | exact il_room hil9 (by assumption) (nx_of (by assumption) (by assumption)) (by assumption) (by assumption) (by assumption) (by assumption) (by omega) | exact ir_room2 hil9 (by assumption) (nx_of (by assumption) (by assumption)) (by assumption) (by assumption) (by omega) (by assumption) | exact ir_room1 hil9 (by assumption) (nx_of (by assumption) (by assumption)) (by assumption) | exact il_one hil9 (by first | exact Or.inl ⟨by assumption, rfl, rfl⟩ | exact Or.inr ⟨by assumption, rfl, rfl⟩) (nx_of (by assumption) (by assumption)) (by assumption) (by assumption) (by omega) | exact ir_one hil9 (by first | exact Or.inl ⟨by assumption, rfl, rfl⟩ | exact Or.inr ⟨by assumption, rfl, rfl⟩) (nx_of (by assumption) (by assumption)) (by assumption) | exact il_walk hil9 (by assumption) (nx_of (by assumption) (by assumption)) (by assumption) (by assumption) (by assumption) (by assumption) (by assumption) (by assumption) (by omega) | exact ir_walk3 hil9 (by assumption) (nx_of (by assumption) (by assumption)) (by assumption) (by assumption) (by omega) (by assumption) (by assumption) (by assumption) | exact ir_walk2 hil9 (by assumption) (nx_of (by assumption) (by assumption)) (by assumption) (by assumption) (by omega) (by assumption) (by assumption) | exact ir_walk1 hil9 (by assumption) (nx_of (by assumption) (by assumption)) (by assumption) | exact ir_none hil9 (by omega) (fa_of (by assumption) (by assumption))))⟩)), (show mpos_c53.toInt ≤ mbyt.toInt from by (try rw [show (1 : Int32).toInt = 1 from (show (1 : Int32).toInt = 1 from rfl)]); omega), h51_1⟩, by rw [ht]; exact hP, hD⟩, hS.F ht⟩) hS.2.2 dX10_isLine_169
      · exact W.zret (v := 0) hx hb hr (by decide) (fun tq ht hW => ⟨⟨0, (uS [(fun _ => mpos_c53), (fun _ => mtka_c54), (fun _ => 0), (fun _ => mdig_c56), (fun _ => mnum_c57), (fun _ => mfau_c58), mrea_c59] mtok_c55 (fun _ => 0)), rfl, ⟨(Or.inr (⟨rfl, (show lnR mtxt mbyt.toInt mpos.toInt at_ mrea mrea_c59 mfau_c58.toInt from by (try rw [show (0 : Int32).toInt = 0 from (show (0 : Int32).toInt = 0 from rfl)]); (first | exact il_room hil9 (by assumption) (nx_of (by assumption) (by assumption)) (by assumption) (by assumption) (by assumption) (by assumption) (by omega) | exact ir_room2 hil9 (by assumption) (nx_of (by assumption) (by assumption)) (by assumption) (by assumption) (by omega) (by assumption) | exact ir_room1 hil9 (by assumption) (nx_of (by assumption) (by assumption)) (by assumption) | exact il_one hil9 (by first | exact Or.inl ⟨by assumption, rfl, rfl⟩ | exact Or.inr ⟨by assumption, rfl, rfl⟩) (nx_of (by assumption) (by assumption)) (by assumption) (by assumption) (by omega) | exact ir_one hil9 (by first | exact Or.inl ⟨by assumption, rfl, rfl⟩ | exact Or.inr ⟨by assumption, rfl, rfl⟩) (nx_of (by assumption) (by assumption)) (by assumption) | exact il_walk hil9 (by assumption) (nx_of (by assumption) (by assumption)) (by assumption) (by assumption) (by assumption) (by assumption) (by assumption) (by assumption) (by omega) | exact ir_walk3 hil9 (by assumption) (nx_of (by assumption) (by assumption)) (by assumption) (by assumption) (by omega) (by assumption) (by assumption) (by assumption) | exact ir_walk2 hil9 (by assumption) (nx_of (by assumption) (by assumption)) (by assumption) (by assumption) (by omega) (by assumption) (by assumption) | exact ir_walk1 hil9 (by assumption) (nx_of (by assumption) (by assumption)) (by assumption) | exact ir_none hil9 (by omega) (fa_of (by assumption) (by assumption))))⟩)), (show mpos_c53.toInt ≤ mbyt.toInt from by (try rw [show (0 : Int32).toInt = 0 from (show (0 : Int32).toInt = 0 from rfl)]); omega), h51_1⟩, by rw [ht]; exact hP, hD⟩, hS.F ht⟩) hS.2.2 dX10_isLine_169
    by_cases w60 : mrea_u11 at_.toNatClampNeg = 3
    · have dw60 : (mrea_u11 at_.toNatClampNeg).toInt = 3 := eqC rfl rfl w60
      refine lv_tableIn (off := 84) (tgt := 170) hx hb dX10_isLine_86 (by rw [w60]; decide) (by rw [w60]; decide) (by rw [w60]; decide) (by decide) ?_
      refine lv_aload_n hx hb dX10_isLine_170 rfl (lv_at hl 0 rfl) ?_
      refine lv_iload_n hx hb dX10_isLine_171 rfl (lv_at hl 1 rfl) ?_
      refine lv_iconst (v := 1) hx hb dX10_isLine_172 (by decide) ?_
      refine lv_iadd hx hb dX10_isLine_173 ?_
      have f61 : (at_ + 1).toInt = (at_.toInt) + (1) := addC rfl (show (1 : Int32).toInt = 1 from rfl) (by omega) (by omega)
      refine lv_iconst (v := 0) hx hb dX10_isLine_174 (by decide) ?_
      refine lv_bipush (v := 7) hx hb dX10_isLine_175 (by decide) ?_
      have kc0 : (0 : Int32).toInt = 0 := rfl
      refine wrV (As := [.int (at_ + 1), .int 0, .int 7]) (rest := []) (wr := []) (w2 := (fun u : US => (wMdR cI cZ cQ b mday mdoo mtel mgai mbyt mtxt (u.1 0 0) (u.1 1 0) u.2.1 (u.1 3 0) (u.1 4 0) (u.1 5 0) mrdm (u.1 6) mlin mbsm))) ⟨hx, hb, hml, hown, hts⟩ (k_X10_isNumber2 l dC dI cI cZ cQ b mday mdoo mtel mgai mbyt mtxt mpos_c4 mtka_c5 mtok_c6 mdig_c7 mnum_c8 mfau mrdm mrea_u11 mlin mbsm _ (at_ + 1) (0 : Int32) (7 : Int32) r_mday r_mdoo r_mgai r_mbyt h2_7 r_mrdm r_mlin (by omega) (by omega) (by omega) (by omega)) (cwV 3 hts gX10_isLine_X10_isNumber rfl rfl rfl (by decide +kernel) ⟨Nat.le_of_ble_eq_true rfl, Nat.le_of_ble_eq_true rfl⟩) hP hD hS hA hK hN [0, 1, 2] [] [0, 1, 2] rfl rfl (by decide) (by decide) (by decide) (fun _ => rfl) (by decide) 0 10 rfl rfl rfl hl.1 rfl (Nat.le_of_ble_eq_true rfl) dX10_isLine_177 ⟨Nat.le_of_ble_eq_true rfl, Nat.le_of_ble_eq_true rfl⟩ (fun r62 u64 H locs h63 hP hD hS => ?_)
      obtain ⟨mpos_c65, empos_c65⟩ : ∃ f : Int32, f = (u64.1 0 0) := ⟨_, rfl⟩
      obtain ⟨mtka_c66, emtka_c66⟩ : ∃ f : Int32, f = (u64.1 1 0) := ⟨_, rfl⟩
      obtain ⟨mtok_c67, emtok_c67⟩ : ∃ f : Int64, f = u64.2.1 := ⟨_, rfl⟩
      obtain ⟨mdig_c68, emdig_c68⟩ : ∃ f : Int32, f = (u64.1 3 0) := ⟨_, rfl⟩
      obtain ⟨mnum_c69, emnum_c69⟩ : ∃ f : Int32, f = (u64.1 4 0) := ⟨_, rfl⟩
      obtain ⟨mfau_c70, emfau_c70⟩ : ∃ f : Int32, f = (u64.1 5 0) := ⟨_, rfl⟩
      obtain ⟨mrea_c71, emrea_c71⟩ : ∃ f : Nat → Int32, f = (u64.1 6) := ⟨_, rfl⟩
      have hP : va_P (dC, dI) vwCl (wMdR cI cZ cQ b mday mdoo mtel mgai mbyt mtxt mpos_c65 mtka_c66 mtok_c67 mdig_c68 mnum_c69 mfau_c70 mrdm mrea_c71 mlin mbsm) H := by rw [empos_c65, emtka_c66, emtok_c67, emdig_c68, emnum_c69, emfau_c70, emrea_c71]; exact hP
      have hD : va_D A (wMdR cI cZ cQ b mday mdoo mtel mgai mbyt mtxt mpos_c65 mtka_c66 mtok_c67 mdig_c68 mnum_c69 mfau_c70 mrdm mrea_c71 mlin mbsm) := by rw [empos_c65, emtka_c66, emtok_c67, emdig_c68, emnum_c69, emfau_c70, emrea_c71]; exact hD
      have h63 : ((((r62 = 1) ∧ (imT mtxt mbyt.toInt mpos_c4.toInt (0) (7) (at_ + 1).toNatClampNeg mrea_u11 mrea_c71 mpos_c65.toInt)) ∨ ((r62 = 0) ∧ (imN mtxt mbyt.toInt mpos_c4.toInt (0) (7) mfau_c70.toInt mrea_u11 mrea_c71)))) ∧ (mpos_c65.toInt ≤ mbyt.toInt) ∧ (0 ≤ mpos_c65.toInt ∧ mpos_c65.toInt ≤ 160) := by (try rw [empos_c65]); (try rw [emtka_c66]); (try rw [emtok_c67]); (try rw [emdig_c68]); (try rw [emnum_c69]); (try rw [emfau_c70]); (try rw [emrea_c71]); exact h63
      rcases h63 with ⟨(⟨rfl, h63_a0⟩ | ⟨rfl, h63_a0⟩), h63_0, h63_1⟩
      · refine lv_if_eq (tgt := 210) hx hb dX10_isLine_180 (by decide) (fun c9 => absurd c9 (by decide)) (fun _ => ?_)
        refine lv_aload_n hx hb dX10_isLine_183 rfl (lv_at hl 0 rfl) ?_
        refine lv_ldc2 (v := 3094387) hx hb hown (hts (.constantLong RX10 195 (3094387)) (List.mem_cons_of_mem _ (List.mem_append_left _ (List.mem_append_left _ (List.mem_of_getElem? (i := 6) rfl))))) dX10_isLine_184 ?_
        refine wrV (As := [.long 3094387]) (rest := []) (wr := [((b 28), .inl (cI, 30, .inl mrea_c71))]) (w2 := (fun u : US => (wMdR cI cZ cQ b mday mdoo mtel mgai mbyt mtxt (u.1 0 0) (u.1 1 0) u.2.1 (u.1 3 0) (u.1 4 0) (u.1 5 0) mrdm mrea_c71 mlin mbsm))) ⟨hx, hb, hml, hown, hts⟩ (k_X10_isWord2 l dC dI cI cZ cQ b mday mdoo mtel mgai mbyt mtxt mpos_c65 mtka_c66 mtok_c67 mdig_c68 mnum_c69 mfau_c70 mrdm mlin mbsm _ 3094387 r_mday r_mdoo r_mgai r_mbyt h63_1 r_mrdm r_mlin (by omega)) (cwV 1 hts gX10_isLine_X10_isWord rfl rfl rfl (by decide +kernel) ⟨Nat.le_of_ble_eq_true rfl, Nat.le_of_ble_eq_true rfl⟩) hP hD hS hA hK hN [0, 1] [2] [1, 2, 0] rfl rfl (by decide) (by decide) (by decide) (fun _ => rfl) (by decide) 0 10 rfl rfl rfl hl.1 rfl (Nat.le_of_ble_eq_true rfl) dX10_isLine_187 ⟨Nat.le_of_ble_eq_true rfl, Nat.le_of_ble_eq_true rfl⟩ (fun r72 u74 H locs h73 hP hD hS => ?_)
        obtain ⟨mpos_c75, empos_c75⟩ : ∃ f : Int32, f = (u74.1 0 0) := ⟨_, rfl⟩
        obtain ⟨mtka_c76, emtka_c76⟩ : ∃ f : Int32, f = (u74.1 1 0) := ⟨_, rfl⟩
        obtain ⟨mtok_c77, emtok_c77⟩ : ∃ f : Int64, f = u74.2.1 := ⟨_, rfl⟩
        obtain ⟨mdig_c78, emdig_c78⟩ : ∃ f : Int32, f = (u74.1 3 0) := ⟨_, rfl⟩
        obtain ⟨mnum_c79, emnum_c79⟩ : ∃ f : Int32, f = (u74.1 4 0) := ⟨_, rfl⟩
        obtain ⟨mfau_c80, emfau_c80⟩ : ∃ f : Int32, f = (u74.1 5 0) := ⟨_, rfl⟩
        have hP : va_P (dC, dI) vwCl (wMdR cI cZ cQ b mday mdoo mtel mgai mbyt mtxt mpos_c75 mtka_c76 mtok_c77 mdig_c78 mnum_c79 mfau_c80 mrdm mrea_c71 mlin mbsm) H := by rw [empos_c75, emtka_c76, emtok_c77, emdig_c78, emnum_c79, emfau_c80]; exact hP
        have hD : va_D A (wMdR cI cZ cQ b mday mdoo mtel mgai mbyt mtxt mpos_c75 mtka_c76 mtok_c77 mdig_c78 mnum_c79 mfau_c80 mrdm mrea_c71 mlin mbsm) := by rw [empos_c75, emtka_c76, emtok_c77, emdig_c78, emnum_c79, emfau_c80]; exact hD
        have h73 : ((((r72 = 1) ∧ (tkW mtxt mbyt.toInt mpos_c65.toInt = 3094387) ∧ (mpos_c75.toInt = nx mtxt mbyt.toInt mpos_c65.toInt)) ∨ ((r72 = 0) ∧ (tkW mtxt mbyt.toInt mpos_c65.toInt ≠ 3094387) ∧ (mfau_c80.toInt = tS mtxt mbyt.toInt mpos_c65.toInt)))) ∧ (mpos_c75.toInt ≤ mbyt.toInt) ∧ (0 ≤ mpos_c75.toInt ∧ mpos_c75.toInt ≤ 160) := by (try rw [empos_c75]); (try rw [emtka_c76]); (try rw [emtok_c77]); (try rw [emdig_c78]); (try rw [emnum_c79]); (try rw [emfau_c80]); exact h73
        rcases h73 with ⟨(⟨rfl, h73_a0, h73_a1⟩ | ⟨rfl, h73_a0, h73_a1⟩), h73_0, h73_1⟩
        · refine lv_if_eq (tgt := 210) hx hb dX10_isLine_190 (by decide) (fun c9 => absurd c9 (by decide)) (fun _ => ?_)
          refine lv_aload_n hx hb dX10_isLine_193 rfl (lv_at hl 0 rfl) ?_
          refine lv_iload_n hx hb dX10_isLine_194 rfl (lv_at hl 1 rfl) ?_
          refine lv_iconst (v := 2) hx hb dX10_isLine_195 (by decide) ?_
          refine lv_iadd hx hb dX10_isLine_196 ?_
          have f81 : (at_ + 2).toInt = (at_.toInt) + (2) := addC rfl (show (2 : Int32).toInt = 2 from rfl) (by omega) (by omega)
          refine lv_iconst (v := 1) hx hb dX10_isLine_197 (by decide) ?_
          refine lv_bipush (v := 99) hx hb dX10_isLine_198 (by decide) ?_
          have kc1 : (1 : Int32).toInt = 1 := rfl
          refine wrV (As := [.int (at_ + 2), .int 1, .int 99]) (rest := []) (wr := []) (w2 := (fun u : US => (wMdR cI cZ cQ b mday mdoo mtel mgai mbyt mtxt (u.1 0 0) (u.1 1 0) u.2.1 (u.1 3 0) (u.1 4 0) (u.1 5 0) mrdm (u.1 6) mlin mbsm))) ⟨hx, hb, hml, hown, hts⟩ (k_X10_isNumber2 l dC dI cI cZ cQ b mday mdoo mtel mgai mbyt mtxt mpos_c75 mtka_c76 mtok_c77 mdig_c78 mnum_c79 mfau_c80 mrdm mrea_c71 mlin mbsm _ (at_ + 2) (1 : Int32) (99 : Int32) r_mday r_mdoo r_mgai r_mbyt h73_1 r_mrdm r_mlin (by omega) (by omega) (by omega) (by omega)) (cwV 3 hts gX10_isLine_X10_isNumber rfl rfl rfl (by decide +kernel) ⟨Nat.le_of_ble_eq_true rfl, Nat.le_of_ble_eq_true rfl⟩) hP hD hS hA hK hN [0, 1, 2] [] [0, 1, 2] rfl rfl (by decide) (by decide) (by decide) (fun _ => rfl) (by decide) 0 10 rfl rfl rfl hl.1 rfl (Nat.le_of_ble_eq_true rfl) dX10_isLine_200 ⟨Nat.le_of_ble_eq_true rfl, Nat.le_of_ble_eq_true rfl⟩ (fun r82 u84 H locs h83 hP hD hS => ?_)
          obtain ⟨mpos_c85, empos_c85⟩ : ∃ f : Int32, f = (u84.1 0 0) := ⟨_, rfl⟩
          obtain ⟨mtka_c86, emtka_c86⟩ : ∃ f : Int32, f = (u84.1 1 0) := ⟨_, rfl⟩
          obtain ⟨mtok_c87, emtok_c87⟩ : ∃ f : Int64, f = u84.2.1 := ⟨_, rfl⟩
          obtain ⟨mdig_c88, emdig_c88⟩ : ∃ f : Int32, f = (u84.1 3 0) := ⟨_, rfl⟩
          obtain ⟨mnum_c89, emnum_c89⟩ : ∃ f : Int32, f = (u84.1 4 0) := ⟨_, rfl⟩
          obtain ⟨mfau_c90, emfau_c90⟩ : ∃ f : Int32, f = (u84.1 5 0) := ⟨_, rfl⟩
          obtain ⟨mrea_c91, emrea_c91⟩ : ∃ f : Nat → Int32, f = (u84.1 6) := ⟨_, rfl⟩
          have hP : va_P (dC, dI) vwCl (wMdR cI cZ cQ b mday mdoo mtel mgai mbyt mtxt mpos_c85 mtka_c86 mtok_c87 mdig_c88 mnum_c89 mfau_c90 mrdm mrea_c91 mlin mbsm) H := by rw [empos_c85, emtka_c86, emtok_c87, emdig_c88, emnum_c89, emfau_c90, emrea_c91]; exact hP
          have hD : va_D A (wMdR cI cZ cQ b mday mdoo mtel mgai mbyt mtxt mpos_c85 mtka_c86 mtok_c87 mdig_c88 mnum_c89 mfau_c90 mrdm mrea_c91 mlin mbsm) := by rw [empos_c85, emtka_c86, emtok_c87, emdig_c88, emnum_c89, emfau_c90, emrea_c91]; exact hD
          have h83 : ((((r82 = 1) ∧ (imT mtxt mbyt.toInt mpos_c75.toInt (1) (99) (at_ + 2).toNatClampNeg mrea_c71 mrea_c91 mpos_c85.toInt)) ∨ ((r82 = 0) ∧ (imN mtxt mbyt.toInt mpos_c75.toInt (1) (99) mfau_c90.toInt mrea_c71 mrea_c91)))) ∧ (mpos_c85.toInt ≤ mbyt.toInt) ∧ (0 ≤ mpos_c85.toInt ∧ mpos_c85.toInt ≤ 160) := by (try rw [empos_c85]); (try rw [emtka_c86]); (try rw [emtok_c87]); (try rw [emdig_c88]); (try rw [emnum_c89]); (try rw [emfau_c90]); (try rw [emrea_c91]); exact h83
          rcases h83 with ⟨(⟨rfl, h83_a0⟩ | ⟨rfl, h83_a0⟩), h83_0, h83_1⟩
          · refine lv_if_eq (tgt := 210) hx hb dX10_isLine_203 (by decide) (fun c9 => absurd c9 (by decide)) (fun _ => ?_)
            refine lv_iconst (v := 1) hx hb dX10_isLine_206 (by decide) ?_
            refine lv_goto (tgt := 211) hx hb dX10_isLine_207 (by decide) ?_
            exact W.zret (v := 1) hx hb hr (by decide) (fun tq ht hW => ⟨⟨1, (uS [(fun _ => mpos_c85), (fun _ => mtka_c86), (fun _ => 0), (fun _ => mdig_c88), (fun _ => mnum_c89), (fun _ => mfau_c90), mrea_c91] mtok_c87 (fun _ => 0)), rfl, ⟨(Or.inl (⟨rfl, (show lnM mtxt mbyt.toInt mpos.toInt at_ mrea mrea_c91 mpos_c85.toInt from by (try rw [show (1 : Int32).toInt = 1 from (show (1 : Int32).toInt = 1 from rfl)]); (first | exact il_room hil9 (by assumption) (nx_of (by assumption) (by assumption)) (by assumption) (by assumption) (by assumption) (by assumption) (by omega) | exact ir_room2 hil9 (by assumption) (nx_of (by assumption) (by assumption)) (by assumption) (by assumption) (by omega) (by assumption) | exact ir_room1 hil9 (by assumption) (nx_of (by assumption) (by assumption)) (by assumption) | exact il_one hil9 (by first | exact Or.inl ⟨by assumption, rfl, rfl⟩ | exact Or.inr ⟨by assumption, rfl, rfl⟩) (nx_of (by assumption) (by assumption)) (by assumption) (by assumption) (by omega) | exact ir_one hil9 (by first | exact Or.inl ⟨by assumption, rfl, rfl⟩ | exact Or.inr ⟨by assumption, rfl, rfl⟩) (nx_of (by assumption) (by assumption)) (by assumption) | exact il_walk hil9 (by assumption) (nx_of (by assumption) (by assumption)) (by assumption) (by assumption) (by assumption) (by assumption) (by assumption) (by assumption) (by omega) | exact ir_walk3 hil9 (by assumption) (nx_of (by assumption) (by assumption)) (by assumption) (by assumption) (by omega) (by assumption) (by assumption) (by assumption) | exact ir_walk2 hil9 (by assumption) (nx_of (by assumption) (by assumption)) (by assumption) (by assumption) (by omega) (by assumption) (by assumption) | exact ir_walk1 hil9 (by assumption) (nx_of (by assumption) (by assumption)) (by assumption) | exact ir_none hil9 (by omega) (fa_of (by assumption) (by assumption))))⟩)), (show mpos_c85.toInt ≤ mbyt.toInt from by (try rw [show (1 : Int32).toInt = 1 from (show (1 : Int32).toInt = 1 from rfl)]); omega), h83_1⟩, by rw [ht]; exact hP, hD⟩, hS.F ht⟩) hS.2.2 dX10_isLine_211
          · refine lv_if_eq (tgt := 210) hx hb dX10_isLine_203 (by decide) (fun _ => ?_) (fun c9 => absurd (by decide) c9)
            refine lv_iconst (v := 0) hx hb dX10_isLine_210 (by decide) ?_
            exact W.zret (v := 0) hx hb hr (by decide) (fun tq ht hW => ⟨⟨0, (uS [(fun _ => mpos_c85), (fun _ => mtka_c86), (fun _ => 0), (fun _ => mdig_c88), (fun _ => mnum_c89), (fun _ => mfau_c90), mrea_c91] mtok_c87 (fun _ => 0)), rfl, ⟨(Or.inr (⟨rfl, (show lnR mtxt mbyt.toInt mpos.toInt at_ mrea mrea_c91 mfau_c90.toInt from by (try rw [show (0 : Int32).toInt = 0 from (show (0 : Int32).toInt = 0 from rfl)]); (first | exact il_room hil9 (by assumption) (nx_of (by assumption) (by assumption)) (by assumption) (by assumption) (by assumption) (by assumption) (by omega) | exact ir_room2 hil9 (by assumption) (nx_of (by assumption) (by assumption)) (by assumption) (by assumption) (by omega) (by assumption) | exact ir_room1 hil9 (by assumption) (nx_of (by assumption) (by assumption)) (by assumption) | exact il_one hil9 (by first | exact Or.inl ⟨by assumption, rfl, rfl⟩ | exact Or.inr ⟨by assumption, rfl, rfl⟩) (nx_of (by assumption) (by assumption)) (by assumption) (by assumption) (by omega) | exact ir_one hil9 (by first | exact Or.inl ⟨by assumption, rfl, rfl⟩ | exact Or.inr ⟨by assumption, rfl, rfl⟩) (nx_of (by assumption) (by assumption)) (by assumption) | exact il_walk hil9 (by assumption) (nx_of (by assumption) (by assumption)) (by assumption) (by assumption) (by assumption) (by assumption) (by assumption) (by assumption) (by omega) | exact ir_walk3 hil9 (by assumption) (nx_of (by assumption) (by assumption)) (by assumption) (by assumption) (by omega) (by assumption) (by assumption) (by assumption) | exact ir_walk2 hil9 (by assumption) (nx_of (by assumption) (by assumption)) (by assumption) (by assumption) (by omega) (by assumption) (by assumption) | exact ir_walk1 hil9 (by assumption) (nx_of (by assumption) (by assumption)) (by assumption) | exact ir_none hil9 (by omega) (fa_of (by assumption) (by assumption))))⟩)), (show mpos_c85.toInt ≤ mbyt.toInt from by (try rw [show (0 : Int32).toInt = 0 from (show (0 : Int32).toInt = 0 from rfl)]); omega), h83_1⟩, by rw [ht]; exact hP, hD⟩, hS.F ht⟩) hS.2.2 dX10_isLine_211
        · refine lv_if_eq (tgt := 210) hx hb dX10_isLine_190 (by decide) (fun _ => ?_) (fun c9 => absurd (by decide) c9)
          refine lv_iconst (v := 0) hx hb dX10_isLine_210 (by decide) ?_
          exact W.zret (v := 0) hx hb hr (by decide) (fun tq ht hW => ⟨⟨0, (uS [(fun _ => mpos_c75), (fun _ => mtka_c76), (fun _ => 0), (fun _ => mdig_c78), (fun _ => mnum_c79), (fun _ => mfau_c80), mrea_c71] mtok_c77 (fun _ => 0)), rfl, ⟨(Or.inr (⟨rfl, (show lnR mtxt mbyt.toInt mpos.toInt at_ mrea mrea_c71 mfau_c80.toInt from by (try rw [show (0 : Int32).toInt = 0 from (show (0 : Int32).toInt = 0 from rfl)]); (first | exact il_room hil9 (by assumption) (nx_of (by assumption) (by assumption)) (by assumption) (by assumption) (by assumption) (by assumption) (by omega) | exact ir_room2 hil9 (by assumption) (nx_of (by assumption) (by assumption)) (by assumption) (by assumption) (by omega) (by assumption) | exact ir_room1 hil9 (by assumption) (nx_of (by assumption) (by assumption)) (by assumption) | exact il_one hil9 (by first | exact Or.inl ⟨by assumption, rfl, rfl⟩ | exact Or.inr ⟨by assumption, rfl, rfl⟩) (nx_of (by assumption) (by assumption)) (by assumption) (by assumption) (by omega) | exact ir_one hil9 (by first | exact Or.inl ⟨by assumption, rfl, rfl⟩ | exact Or.inr ⟨by assumption, rfl, rfl⟩) (nx_of (by assumption) (by assumption)) (by assumption) | exact il_walk hil9 (by assumption) (nx_of (by assumption) (by assumption)) (by assumption) (by assumption) (by assumption) (by assumption) (by assumption) (by assumption) (by omega) | exact ir_walk3 hil9 (by assumption) (nx_of (by assumption) (by assumption)) (by assumption) (by assumption) (by omega) (by assumption) (by assumption) (by assumption) | exact ir_walk2 hil9 (by assumption) (nx_of (by assumption) (by assumption)) (by assumption) (by assumption) (by omega) (by assumption) (by assumption) | exact ir_walk1 hil9 (by assumption) (nx_of (by assumption) (by assumption)) (by assumption) | exact ir_none hil9 (by omega) (fa_of (by assumption) (by assumption))))⟩)), (show mpos_c75.toInt ≤ mbyt.toInt from by (try rw [show (0 : Int32).toInt = 0 from (show (0 : Int32).toInt = 0 from rfl)]); omega), h73_1⟩, by rw [ht]; exact hP, hD⟩, hS.F ht⟩) hS.2.2 dX10_isLine_211
      · refine lv_if_eq (tgt := 210) hx hb dX10_isLine_180 (by decide) (fun _ => ?_) (fun c9 => absurd (by decide) c9)
        refine lv_iconst (v := 0) hx hb dX10_isLine_210 (by decide) ?_
        exact W.zret (v := 0) hx hb hr (by decide) (fun tq ht hW => ⟨⟨0, (uS [(fun _ => mpos_c65), (fun _ => mtka_c66), (fun _ => 0), (fun _ => mdig_c68), (fun _ => mnum_c69), (fun _ => mfau_c70), mrea_c71] mtok_c67 (fun _ => 0)), rfl, ⟨(Or.inr (⟨rfl, (show lnR mtxt mbyt.toInt mpos.toInt at_ mrea mrea_c71 mfau_c70.toInt from by (try rw [show (0 : Int32).toInt = 0 from (show (0 : Int32).toInt = 0 from rfl)]); (first | exact il_room hil9 (by assumption) (nx_of (by assumption) (by assumption)) (by assumption) (by assumption) (by assumption) (by assumption) (by omega) | exact ir_room2 hil9 (by assumption) (nx_of (by assumption) (by assumption)) (by assumption) (by assumption) (by omega) (by assumption) | exact ir_room1 hil9 (by assumption) (nx_of (by assumption) (by assumption)) (by assumption) | exact il_one hil9 (by first | exact Or.inl ⟨by assumption, rfl, rfl⟩ | exact Or.inr ⟨by assumption, rfl, rfl⟩) (nx_of (by assumption) (by assumption)) (by assumption) (by assumption) (by omega) | exact ir_one hil9 (by first | exact Or.inl ⟨by assumption, rfl, rfl⟩ | exact Or.inr ⟨by assumption, rfl, rfl⟩) (nx_of (by assumption) (by assumption)) (by assumption) | exact il_walk hil9 (by assumption) (nx_of (by assumption) (by assumption)) (by assumption) (by assumption) (by assumption) (by assumption) (by assumption) (by assumption) (by omega) | exact ir_walk3 hil9 (by assumption) (nx_of (by assumption) (by assumption)) (by assumption) (by assumption) (by omega) (by assumption) (by assumption) (by assumption) | exact ir_walk2 hil9 (by assumption) (nx_of (by assumption) (by assumption)) (by assumption) (by assumption) (by omega) (by assumption) (by assumption) | exact ir_walk1 hil9 (by assumption) (nx_of (by assumption) (by assumption)) (by assumption) | exact ir_none hil9 (by omega) (fa_of (by assumption) (by assumption))))⟩)), (show mpos_c65.toInt ≤ mbyt.toInt from by (try rw [show (0 : Int32).toInt = 0 from (show (0 : Int32).toInt = 0 from rfl)]); omega), h63_1⟩, by rw [ht]; exact hP, hD⟩, hS.F ht⟩) hS.2.2 dX10_isLine_211
    have nw13 : (mrea_u11 at_.toNatClampNeg).toInt ≠ 0 := neC rfl rfl w13
    have nw36 : (mrea_u11 at_.toNatClampNeg).toInt ≠ 1 := neC rfl rfl w36
    have nw48 : (mrea_u11 at_.toNatClampNeg).toInt ≠ 2 := neC rfl rfl w48
    have nw60 : (mrea_u11 at_.toNatClampNeg).toInt ≠ 3 := neC rfl rfl w60
    have o86 : (mrea_u11 at_.toNatClampNeg).toInt < 0 ∨ 3 < (mrea_u11 at_.toNatClampNeg).toInt := by rw [show (mrea_u11 at_.toNatClampNeg).toInt = (mrea_u11 at_.toNatClampNeg).toInt from rfl]; omega
    refine lv_tableOut (tgt := 212) hx hb dX10_isLine_86 o86 (by decide) ?_
    refine lv_aload_n hx hb dX10_isLine_212 rfl (lv_at hl 0 rfl) ?_
    refine wrV (As := []) (rest := []) (wr := [((b 28), .inl (cI, 30, .inl mrea_u11))]) (w2 := (fun u : US => (wMdR cI cZ cQ b mday mdoo mtel mgai mbyt mtxt mpos_c4 mtka_c5 mtok_c6 mdig_c7 mnum_c8 (u.1 0 0) mrdm mrea_u11 mlin mbsm))) ⟨hx, hb, hml, hown, hts⟩ (k_X10_fails2 l dC dI cI cZ cQ b mday mdoo mtel mgai mbyt mtxt mpos_c4 mtka_c5 mtok_c6 mdig_c7 mnum_c8 mfau mrdm mlin mbsm _ r_mday r_mdoo r_mgai r_mbyt h2_7 r_mrdm r_mlin) (cwV 0 hts gX10_isLine_X10_fails rfl rfl rfl (by decide +kernel) ⟨Nat.le_of_ble_eq_true rfl, Nat.le_of_ble_eq_true rfl⟩) hP hD hS hA hK hN [0, 1] [2] [1, 2, 0] rfl rfl (by decide) (by decide) (by decide) (fun _ => rfl) (by decide) 0 10 rfl rfl rfl hl.1 rfl (Nat.le_of_ble_eq_true rfl) dX10_isLine_213 ⟨Nat.le_of_ble_eq_true rfl, Nat.le_of_ble_eq_true rfl⟩ (fun r92 u94 H locs h93 hP hD hS => ?_)
    obtain ⟨mfau_c95, emfau_c95⟩ : ∃ f : Int32, f = (u94.1 0 0) := ⟨_, rfl⟩
    have hP : va_P (dC, dI) vwCl (wMdR cI cZ cQ b mday mdoo mtel mgai mbyt mtxt mpos_c4 mtka_c5 mtok_c6 mdig_c7 mnum_c8 mfau_c95 mrdm mrea_u11 mlin mbsm) H := by rw [emfau_c95]; exact hP
    have hD : va_D A (wMdR cI cZ cQ b mday mdoo mtel mgai mbyt mtxt mpos_c4 mtka_c5 mtok_c6 mdig_c7 mnum_c8 mfau_c95 mrdm mrea_u11 mlin mbsm) := by rw [emfau_c95]; exact hD
    have h93 : ((((r92 = 0) ∧ (mfau_c95 = mtka_c5)))) := by (try rw [emfau_c95]); exact h93
    rcases h93 with (⟨rfl, h93_a0⟩)
    · exact W.zret (v := 0) hx hb hr (by decide) (fun tq ht hW => ⟨⟨0, (uS [(fun _ => mpos_c4), (fun _ => mtka_c5), (fun _ => 0), (fun _ => mdig_c7), (fun _ => mnum_c8), (fun _ => mfau_c95), mrea_u11] mtok_c6 (fun _ => 0)), rfl, ⟨(Or.inr (⟨rfl, (show lnR mtxt mbyt.toInt mpos.toInt at_ mrea mrea_u11 mfau_c95.toInt from by (try rw [show (0 : Int32).toInt = 0 from (show (0 : Int32).toInt = 0 from rfl)]); (first | exact il_room hil9 (by assumption) (nx_of (by assumption) (by assumption)) (by assumption) (by assumption) (by assumption) (by assumption) (by omega) | exact ir_room2 hil9 (by assumption) (nx_of (by assumption) (by assumption)) (by assumption) (by assumption) (by omega) (by assumption) | exact ir_room1 hil9 (by assumption) (nx_of (by assumption) (by assumption)) (by assumption) | exact il_one hil9 (by first | exact Or.inl ⟨by assumption, rfl, rfl⟩ | exact Or.inr ⟨by assumption, rfl, rfl⟩) (nx_of (by assumption) (by assumption)) (by assumption) (by assumption) (by omega) | exact ir_one hil9 (by first | exact Or.inl ⟨by assumption, rfl, rfl⟩ | exact Or.inr ⟨by assumption, rfl, rfl⟩) (nx_of (by assumption) (by assumption)) (by assumption) | exact il_walk hil9 (by assumption) (nx_of (by assumption) (by assumption)) (by assumption) (by assumption) (by assumption) (by assumption) (by assumption) (by assumption) (by omega) | exact ir_walk3 hil9 (by assumption) (nx_of (by assumption) (by assumption)) (by assumption) (by assumption) (by omega) (by assumption) (by assumption) (by assumption) | exact ir_walk2 hil9 (by assumption) (nx_of (by assumption) (by assumption)) (by assumption) (by assumption) (by omega) (by assumption) (by assumption) | exact ir_walk1 hil9 (by assumption) (nx_of (by assumption) (by assumption)) (by assumption) | exact ir_none hil9 (by omega) (fa_of (by assumption) (by assumption))))⟩)), (show mpos_c4.toInt ≤ mbyt.toInt from by (try rw [show (0 : Int32).toInt = 0 from (show (0 : Int32).toInt = 0 from rfl)]); omega), h2_7⟩, by rw [ht]; exact hP, hD⟩, hS.F ht⟩) hS.2.2 dX10_isLine_216
  refine lv_aload_n hx hb dX10_isLine_4 rfl (lv_at hl 0 rfl) ?_
  refine va_get (D := (dC, dI)) (ci := 10) (v := .ref (b 28)) (C := RX10) (T := TX10) (N := 39) hx hb hts inX10 hown hK hP 0 rfl rfl 28 (by decide) lf65 (fun _ h9 => h9) rfl dX10_isLine_5 ?_
  refine lv_iload_n hx hb dX10_isLine_8 rfl (lv_at hl 1 rfl) ?_
  refine lv_aload_n hx hb dX10_isLine_9 rfl (lv_at hl 0 rfl) ?_
  refine va_get (D := (dC, dI)) (ci := 10) (v := .long mtok_c6) (C := RX10) (T := TX10) (N := 39) hx hb hts inX10 hown hK hP 0 rfl rfl 23 (by decide) lf160 (fun _ h9 => h9) rfl dX10_isLine_10 ?_
  refine lv_ldc2 (v := 365647) hx hb hown (hts (.constantLong RX10 184 (365647)) (List.mem_cons_of_mem _ (List.mem_append_left _ (List.mem_append_left _ (List.mem_of_getElem? (i := 2) rfl))))) dX10_isLine_13 ?_
  refine W.lcmp hx hb dX10_isLine_16 ?_
  refine lv_if_ne (tgt := 24) hx hb dX10_isLine_17 (by decide) (fun c96 => ?_) (fun c96 => ?_)
  · have dc96 : (lg_cmp mtok_c6 365647).toInt ≠ 0 := neC rfl (show (0 : Int32).toInt = 0 from rfl) c96
    refine lv_aload_n hx hb dX10_isLine_24 rfl (lv_at hl 0 rfl) ?_
    refine va_get (D := (dC, dI)) (ci := 10) (v := .long mtok_c6) (C := RX10) (T := TX10) (N := 39) hx hb hts inX10 hown hK hP 0 rfl rfl 23 (by decide) lf160 (fun _ h9 => h9) rfl dX10_isLine_25 ?_
    refine lv_ldc2 (v := 670208) hx hb hown (hts (.constantLong RX10 186 (670208)) (List.mem_cons_of_mem _ (List.mem_append_left _ (List.mem_append_left _ (List.mem_of_getElem? (i := 3) rfl))))) dX10_isLine_28 ?_
    refine W.lcmp hx hb dX10_isLine_31 ?_
    refine lv_if_ne (tgt := 39) hx hb dX10_isLine_32 (by decide) (fun c97 => ?_) (fun c97 => ?_)
    · have dc97 : (lg_cmp mtok_c6 670208).toInt ≠ 0 := neC rfl (show (0 : Int32).toInt = 0 from rfl) c97
      refine lv_aload_n hx hb dX10_isLine_39 rfl (lv_at hl 0 rfl) ?_
      refine va_get (D := (dC, dI)) (ci := 10) (v := .long mtok_c6) (C := RX10) (T := TX10) (N := 39) hx hb hts inX10 hown hK hP 0 rfl rfl 23 (by decide) lf160 (fun _ h9 => h9) rfl dX10_isLine_40 ?_
      refine lv_ldc2 (v := 847604) hx hb hown (hts (.constantLong RX10 188 (847604)) (List.mem_cons_of_mem _ (List.mem_append_left _ (List.mem_append_left _ (List.mem_of_getElem? (i := 4) rfl))))) dX10_isLine_43 ?_
      refine W.lcmp hx hb dX10_isLine_46 ?_
      refine lv_if_ne (tgt := 54) hx hb dX10_isLine_47 (by decide) (fun c98 => ?_) (fun c98 => ?_)
      · have dc98 : (lg_cmp mtok_c6 847604).toInt ≠ 0 := neC rfl (show (0 : Int32).toInt = 0 from rfl) c98
        refine lv_aload_n hx hb dX10_isLine_54 rfl (lv_at hl 0 rfl) ?_
        refine va_get (D := (dC, dI)) (ci := 10) (v := .long mtok_c6) (C := RX10) (T := TX10) (N := 39) hx hb hts inX10 hown hK hP 0 rfl rfl 23 (by decide) lf160 (fun _ h9 => h9) rfl dX10_isLine_55 ?_
        refine lv_ldc2 (v := 453773) hx hb hown (hts (.constantLong RX10 190 (453773)) (List.mem_cons_of_mem _ (List.mem_append_left _ (List.mem_append_left _ (List.mem_of_getElem? (i := 5) rfl))))) dX10_isLine_58 ?_
        refine W.lcmp hx hb dX10_isLine_61 ?_
        refine lv_if_ne (tgt := 69) hx hb dX10_isLine_62 (by decide) (fun c99 => ?_) (fun c99 => ?_)
        · have dc99 : (lg_cmp mtok_c6 453773).toInt ≠ 0 := neC rfl (show (0 : Int32).toInt = 0 from rfl) c99
          refine lv_iconst (v := (-1)) hx hb dX10_isLine_69 (by decide) ?_
          have b100 : vp_in at_ 30 := inC rfl (by omega) (by omega)
          refine va_iast hx hb hK hP hD hS 2 0 rfl rfl b100 dX10_isLine_70 (fun H locs hP hD hS => ?_)
          obtain ⟨mrea_u101, emrea_u101⟩ : ∃ f : Nat → Int32, f = upd mrea at_.toNatClampNeg (-1) := ⟨_, rfl⟩
          have hP : va_P (dC, dI) vwCl (wMdR cI cZ cQ b mday mdoo mtel mgai mbyt mtxt mpos_c4 mtka_c5 mtok_c6 mdig_c7 mnum_c8 mfau mrdm mrea_u101 mlin mbsm) H := by rw [emrea_u101]; exact hP
          have hD : va_D A (wMdR cI cZ cQ b mday mdoo mtel mgai mbyt mtxt mpos_c4 mtka_c5 mtok_c6 mdig_c7 mnum_c8 mfau mrdm mrea_u101 mlin mbsm) := by rw [emrea_u101]; exact hD
          exact L71 mrea_u101 _ _ _ (by exact il_put (by assumption) (by omega) (by first | exact Or.inl ⟨tw_y (by assumption) (by assumption) (by assumption) (by assumption), rfl⟩ | exact Or.inr (Or.inl ⟨tw_y (by assumption) (by assumption) (by assumption) (by assumption), rfl⟩) | exact Or.inr (Or.inr (Or.inl ⟨tw_y (by assumption) (by assumption) (by assumption) (by assumption), rfl⟩)) | exact Or.inr (Or.inr (Or.inr (Or.inl ⟨tw_y (by assumption) (by assumption) (by assumption) (by assumption), rfl⟩))) | exact Or.inr (Or.inr (Or.inr (Or.inr ⟨⟨tw_n (by assumption) (by assumption) (by assumption) (by assumption), tw_n (by assumption) (by assumption) (by assumption) (by assumption), tw_n (by assumption) (by assumption) (by assumption) (by assumption), tw_n (by assumption) (by assumption) (by assumption) (by assumption)⟩, rfl⟩))))) hP hD hS (lv_sub hl [0, 1] rfl)
        · have dc99 : (lg_cmp mtok_c6 453773).toInt = 0 := eqC rfl (show (0 : Int32).toInt = 0 from rfl) c99
          refine lv_iconst (v := 3) hx hb dX10_isLine_65 (by decide) ?_
          refine lv_goto (tgt := 70) hx hb dX10_isLine_66 (by decide) ?_
          have b102 : vp_in at_ 30 := inC rfl (by omega) (by omega)
          refine va_iast hx hb hK hP hD hS 2 0 rfl rfl b102 dX10_isLine_70 (fun H locs hP hD hS => ?_)
          obtain ⟨mrea_u103, emrea_u103⟩ : ∃ f : Nat → Int32, f = upd mrea at_.toNatClampNeg 3 := ⟨_, rfl⟩
          have hP : va_P (dC, dI) vwCl (wMdR cI cZ cQ b mday mdoo mtel mgai mbyt mtxt mpos_c4 mtka_c5 mtok_c6 mdig_c7 mnum_c8 mfau mrdm mrea_u103 mlin mbsm) H := by rw [emrea_u103]; exact hP
          have hD : va_D A (wMdR cI cZ cQ b mday mdoo mtel mgai mbyt mtxt mpos_c4 mtka_c5 mtok_c6 mdig_c7 mnum_c8 mfau mrdm mrea_u103 mlin mbsm) := by rw [emrea_u103]; exact hD
          exact L71 mrea_u103 _ _ _ (by exact il_put (by assumption) (by omega) (by first | exact Or.inl ⟨tw_y (by assumption) (by assumption) (by assumption) (by assumption), rfl⟩ | exact Or.inr (Or.inl ⟨tw_y (by assumption) (by assumption) (by assumption) (by assumption), rfl⟩) | exact Or.inr (Or.inr (Or.inl ⟨tw_y (by assumption) (by assumption) (by assumption) (by assumption), rfl⟩)) | exact Or.inr (Or.inr (Or.inr (Or.inl ⟨tw_y (by assumption) (by assumption) (by assumption) (by assumption), rfl⟩))) | exact Or.inr (Or.inr (Or.inr (Or.inr ⟨⟨tw_n (by assumption) (by assumption) (by assumption) (by assumption), tw_n (by assumption) (by assumption) (by assumption) (by assumption), tw_n (by assumption) (by assumption) (by assumption) (by assumption), tw_n (by assumption) (by assumption) (by assumption) (by assumption)⟩, rfl⟩))))) hP hD hS (lv_sub hl [0, 1] rfl)
      · have dc98 : (lg_cmp mtok_c6 847604).toInt = 0 := eqC rfl (show (0 : Int32).toInt = 0 from rfl) c98
        refine lv_iconst (v := 2) hx hb dX10_isLine_50 (by decide) ?_
        refine lv_goto (tgt := 70) hx hb dX10_isLine_51 (by decide) ?_
        have b104 : vp_in at_ 30 := inC rfl (by omega) (by omega)
        refine va_iast hx hb hK hP hD hS 2 0 rfl rfl b104 dX10_isLine_70 (fun H locs hP hD hS => ?_)
        obtain ⟨mrea_u105, emrea_u105⟩ : ∃ f : Nat → Int32, f = upd mrea at_.toNatClampNeg 2 := ⟨_, rfl⟩
        have hP : va_P (dC, dI) vwCl (wMdR cI cZ cQ b mday mdoo mtel mgai mbyt mtxt mpos_c4 mtka_c5 mtok_c6 mdig_c7 mnum_c8 mfau mrdm mrea_u105 mlin mbsm) H := by rw [emrea_u105]; exact hP
        have hD : va_D A (wMdR cI cZ cQ b mday mdoo mtel mgai mbyt mtxt mpos_c4 mtka_c5 mtok_c6 mdig_c7 mnum_c8 mfau mrdm mrea_u105 mlin mbsm) := by rw [emrea_u105]; exact hD
        exact L71 mrea_u105 _ _ _ (by exact il_put (by assumption) (by omega) (by first | exact Or.inl ⟨tw_y (by assumption) (by assumption) (by assumption) (by assumption), rfl⟩ | exact Or.inr (Or.inl ⟨tw_y (by assumption) (by assumption) (by assumption) (by assumption), rfl⟩) | exact Or.inr (Or.inr (Or.inl ⟨tw_y (by assumption) (by assumption) (by assumption) (by assumption), rfl⟩)) | exact Or.inr (Or.inr (Or.inr (Or.inl ⟨tw_y (by assumption) (by assumption) (by assumption) (by assumption), rfl⟩))) | exact Or.inr (Or.inr (Or.inr (Or.inr ⟨⟨tw_n (by assumption) (by assumption) (by assumption) (by assumption), tw_n (by assumption) (by assumption) (by assumption) (by assumption), tw_n (by assumption) (by assumption) (by assumption) (by assumption), tw_n (by assumption) (by assumption) (by assumption) (by assumption)⟩, rfl⟩))))) hP hD hS (lv_sub hl [0, 1] rfl)
    · have dc97 : (lg_cmp mtok_c6 670208).toInt = 0 := eqC rfl (show (0 : Int32).toInt = 0 from rfl) c97
      refine lv_iconst (v := 1) hx hb dX10_isLine_35 (by decide) ?_
      refine lv_goto (tgt := 70) hx hb dX10_isLine_36 (by decide) ?_
      have b106 : vp_in at_ 30 := inC rfl (by omega) (by omega)
      refine va_iast hx hb hK hP hD hS 2 0 rfl rfl b106 dX10_isLine_70 (fun H locs hP hD hS => ?_)
      obtain ⟨mrea_u107, emrea_u107⟩ : ∃ f : Nat → Int32, f = upd mrea at_.toNatClampNeg 1 := ⟨_, rfl⟩
      have hP : va_P (dC, dI) vwCl (wMdR cI cZ cQ b mday mdoo mtel mgai mbyt mtxt mpos_c4 mtka_c5 mtok_c6 mdig_c7 mnum_c8 mfau mrdm mrea_u107 mlin mbsm) H := by rw [emrea_u107]; exact hP
      have hD : va_D A (wMdR cI cZ cQ b mday mdoo mtel mgai mbyt mtxt mpos_c4 mtka_c5 mtok_c6 mdig_c7 mnum_c8 mfau mrdm mrea_u107 mlin mbsm) := by rw [emrea_u107]; exact hD
      exact L71 mrea_u107 _ _ _ (by exact il_put (by assumption) (by omega) (by first | exact Or.inl ⟨tw_y (by assumption) (by assumption) (by assumption) (by assumption), rfl⟩ | exact Or.inr (Or.inl ⟨tw_y (by assumption) (by assumption) (by assumption) (by assumption), rfl⟩) | exact Or.inr (Or.inr (Or.inl ⟨tw_y (by assumption) (by assumption) (by assumption) (by assumption), rfl⟩)) | exact Or.inr (Or.inr (Or.inr (Or.inl ⟨tw_y (by assumption) (by assumption) (by assumption) (by assumption), rfl⟩))) | exact Or.inr (Or.inr (Or.inr (Or.inr ⟨⟨tw_n (by assumption) (by assumption) (by assumption) (by assumption), tw_n (by assumption) (by assumption) (by assumption) (by assumption), tw_n (by assumption) (by assumption) (by assumption) (by assumption), tw_n (by assumption) (by assumption) (by assumption) (by assumption)⟩, rfl⟩))))) hP hD hS (lv_sub hl [0, 1] rfl)
  · have dc96 : (lg_cmp mtok_c6 365647).toInt = 0 := eqC rfl (show (0 : Int32).toInt = 0 from rfl) c96
    refine lv_iconst (v := 0) hx hb dX10_isLine_20 (by decide) ?_
    refine lv_goto (tgt := 70) hx hb dX10_isLine_21 (by decide) ?_
    have b108 : vp_in at_ 30 := inC rfl (by omega) (by omega)
    refine va_iast hx hb hK hP hD hS 2 0 rfl rfl b108 dX10_isLine_70 (fun H locs hP hD hS => ?_)
    obtain ⟨mrea_u109, emrea_u109⟩ : ∃ f : Nat → Int32, f = upd mrea at_.toNatClampNeg 0 := ⟨_, rfl⟩
    have hP : va_P (dC, dI) vwCl (wMdR cI cZ cQ b mday mdoo mtel mgai mbyt mtxt mpos_c4 mtka_c5 mtok_c6 mdig_c7 mnum_c8 mfau mrdm mrea_u109 mlin mbsm) H := by rw [emrea_u109]; exact hP
    have hD : va_D A (wMdR cI cZ cQ b mday mdoo mtel mgai mbyt mtxt mpos_c4 mtka_c5 mtok_c6 mdig_c7 mnum_c8 mfau mrdm mrea_u109 mlin mbsm) := by rw [emrea_u109]; exact hD
    exact L71 mrea_u109 _ _ _ (by exact il_put (by assumption) (by omega) (by first | exact Or.inl ⟨tw_y (by assumption) (by assumption) (by assumption) (by assumption), rfl⟩ | exact Or.inr (Or.inl ⟨tw_y (by assumption) (by assumption) (by assumption) (by assumption), rfl⟩) | exact Or.inr (Or.inr (Or.inl ⟨tw_y (by assumption) (by assumption) (by assumption) (by assumption), rfl⟩)) | exact Or.inr (Or.inr (Or.inr (Or.inl ⟨tw_y (by assumption) (by assumption) (by assumption) (by assumption), rfl⟩))) | exact Or.inr (Or.inr (Or.inr (Or.inr ⟨⟨tw_n (by assumption) (by assumption) (by assumption) (by assumption), tw_n (by assumption) (by assumption) (by assumption) (by assumption), tw_n (by assumption) (by assumption) (by assumption) (by assumption), tw_n (by assumption) (by assumption) (by assumption) (by assumption)⟩, rfl⟩))))) hP hD hS (lv_sub hl [0, 1] rfl)
set_option maxHeartbeats 4000000 in
set_option maxRecDepth 100000 in
theorem k_X10_isRead2 (l : Launch) (dC : Nat → ClassId) (dI : Nat → Nat → Nat) (cI cZ cQ : ClassId) (b : Nat → Nat) (mday : Int32) (mdoo : Int32) (mtel : Int32) (mgai : Int32) (mbyt : Int32) (mtxt : Nat → Int32) (mpos : Int32) (mtka : Int32) (mtok : Int64) (mdig : Int32) (mnum : Int32) (mfau : Int32) (mrdm : Int32) (mrea : Nat → Int32) (mlin : Int32) (mbsm : Int32) (sz : Nat) (r_mday : 0 ≤ mday.toInt ∧ mday.toInt ≤ 400) (r_mdoo : 0 ≤ mdoo.toInt ∧ mdoo.toInt ≤ 14) (r_mgai : 0 ≤ mgai.toInt ∧ mgai.toInt ≤ 100) (r_mbyt : 0 ≤ mbyt.toInt ∧ mbyt.toInt ≤ 160) (r_mpos : 0 ≤ mpos.toInt ∧ mpos.toInt ≤ 160) (r_mrdm : 0 ≤ mrdm.toInt ∧ mrdm.toInt ≤ 10) (r_mlin : 0 ≤ mlin.toInt ∧ mlin.toInt ≤ 10) : KW l yX10_isRead wsX10_isRead { frames := 4, cells := 0, slots := 0, locals := 86 } (dC, dI) (TY cI cZ cQ) (wMdR cI cZ cQ b mday mdoo mtel mgai mbyt mtxt mpos mtka mtok mdig mnum mfau mrdm mrea mlin mbsm) [.ref (b 39)] sz 0 0 (fun (r : Int32) (u : US) => ((((r = 1) ∧ (roM mtxt mbyt.toInt 1 (u.1 5 0) (u.1 6) (u.1 7 0))) ∨ ((r = 0) ∧ (roM mtxt mbyt.toInt 0 (u.1 5 0) (u.1 6) (u.1 7 0))))) ∧ (0 ≤ (u.1 0 0).toInt ∧ (u.1 0 0).toInt ≤ 160) ∧ (0 ≤ (u.1 7 0).toInt ∧ (u.1 7 0).toInt ≤ 10)) (fun u : US => (wMdR cI cZ cQ b mday mdoo mtel mgai mbyt mtxt (u.1 0 0) (u.1 1 0) u.2.1 (u.1 3 0) (u.1 4 0) (u.1 5 0) (u.1 7 0) (u.1 6) mlin mbsm)) := by
  refine Met.ofW (cc := cX10_isRead) (maxL := 2) (ret := (some .boolean)) (by decide) rfl ?_
  intro p e s m args below meth c s₁ B hml hv
  obtain ⟨rfl, hsz, hP, hK, hD0, hN⟩ := hv
  have hx := B.exec
  have hb := B.bytes
  have hr := B.returns
  have hts := atoms_spec (ws := wsX10_isRead) B.pre
  have hown : s.vm.findClass RX10 = some m.cls := findClass_of_methodNamed B.named
  have hlocks := B.notSynchronized
  have lf146 := hts (.fieldLink RX10 146 "PalaceOfRoomsModel" "position" "I") (List.mem_cons_of_mem _ (List.mem_append_left _ (List.mem_append_left _ (List.mem_of_getElem? (i := 0) rfl))))
  have inX10 : ∀ w ∈ wsX100, w ∈ wsX10_isRead := fun w h => List.mem_cons_of_mem _ (List.mem_append_right _ h)
  have lf201 := hts (.fieldLink RX10 201 "PalaceOfRoomsModel" "readMany" "I") (List.mem_cons_of_mem _ (List.mem_append_left _ (List.mem_append_left _ (List.mem_of_getElem? (i := 1) rfl))))
  have lf160 := hts (.fieldLink RX10 160 "PalaceOfRoomsModel" "token" "J") (List.mem_cons_of_mem _ (List.mem_append_left _ (List.mem_append_left _ (List.mem_of_getElem? (i := 2) rfl))))
  subst hsz
  have hD := hD0.self (sz := s.heap.size)
  generalize hAe : va_A (wMdR cI cZ cQ b mday mdoo mtel mgai mbyt mtxt mpos mtka mtok mdig mnum mfau mrdm mrea mlin mbsm) s.heap.size = A at hD ⊢
  have hA : ∀ q : Nat, s.heap.size ≤ q → A q := fun q h => by rw [← hAe]; exact Or.inr h
  have hS : va_S A s.heap s.heap [] := va_S.rf
  have hl := lv_entry ([.ref (b 39)]) (n := 2) (Nat.le_of_ble_eq_true rfl)
  rw [lg_entry_eq]
  generalize (lg_sl ([.ref (b 39)]) ++ List.replicate (2 - (lg_sl ([.ref (b 39)])).length) Slot.unset).toArray = ls at hl ⊢
  have hl : lv_has ls 2 [(0, .ref (b 39))] := hl
  refine lv_aload_n hx hb dX10_isRead_0 rfl (lv_at hl 0 rfl) ?_
  refine lv_iconst (v := 0) hx hb dX10_isRead_1 (by decide) ?_
  refine va_put (D := (dC, dI)) (ci := 10) (v := .int 0) (ty := .int) (C := RX10) (T := TX10) (N := 39) hx hb hts inX10 tyX10 tyX10_ok nmX10 hown hK hP hD hS 0 rfl rfl 21 (by decide) lf146 (fun _ h9 => h9) rfl (by decide +kernel) rfl rfl (Nat.le_of_ble_eq_true rfl) dX10_isRead_2 (fun H locs hP hD hS => ?_)
  have g1 : 0 ≤ (0 : Int32).toInt ∧ (0 : Int32).toInt ≤ 160 := by rw [show (0 : Int32).toInt = 0 from (show (0 : Int32).toInt = 0 from rfl)]; exact ⟨by omega, by omega⟩
  have hP : va_P (dC, dI) vwCl (wMdR cI cZ cQ b mday mdoo mtel mgai mbyt mtxt 0 mtka mtok mdig mnum mfau mrdm mrea mlin mbsm) H := hP
  have hD : va_D A (wMdR cI cZ cQ b mday mdoo mtel mgai mbyt mtxt 0 mtka mtok mdig mnum mfau mrdm mrea mlin mbsm) := hD
  refine lv_aload_n hx hb dX10_isRead_5 rfl (lv_at hl 0 rfl) ?_
  refine lv_iconst (v := 0) hx hb dX10_isRead_6 (by decide) ?_
  refine va_put (D := (dC, dI)) (ci := 10) (v := .int 0) (ty := .int) (C := RX10) (T := TX10) (N := 39) hx hb hts inX10 tyX10 tyX10_ok nmX10 hown hK hP hD hS 0 rfl rfl 27 (by decide) lf201 (fun _ h9 => h9) rfl (by decide +kernel) rfl rfl (Nat.le_of_ble_eq_true rfl) dX10_isRead_7 (fun H locs hP hD hS => ?_)
  have g2 : 0 ≤ (0 : Int32).toInt ∧ (0 : Int32).toInt ≤ 10 := by rw [show (0 : Int32).toInt = 0 from (show (0 : Int32).toInt = 0 from rfl)]; exact ⟨by omega, by omega⟩
  have hP : va_P (dC, dI) vwCl (wMdR cI cZ cQ b mday mdoo mtel mgai mbyt mtxt 0 mtka mtok mdig mnum mfau 0 mrea mlin mbsm) H := hP
  have hD : va_D A (wMdR cI cZ cQ b mday mdoo mtel mgai mbyt mtxt 0 mtka mtok mdig mnum mfau 0 mrea mlin mbsm) := hD
  refine lv_iconst (v := 1) hx hb dX10_isRead_10 (by decide) ?_
  refine lv_istore_n (lv' := [(1, .int 1), (0, .ref (b 39))]) hx hb dX10_isRead_11 rfl hl (by decide) rfl (fun ls hl => ?_)
  have L12 : ∀ (nn : Nat) (y12_1 : Int32) (mpos_12 : Int32) (mtka_12 : Int32) (mtok_12 : Int64) (mdig_12 : Int32) (mnum_12 : Int32) (mfau_12 : Int32) (mrea_12 : Nat → Int32) (mrdm_12 : Int32) (H : Heap) (locs : List Loc) (ls : Array Slot), (0 ≤ mpos_12.toInt ∧ mpos_12.toInt ≤ 160) → (0 ≤ mrdm_12.toInt ∧ mrdm_12.toInt ≤ 10) → (mpos_12.toInt ≤ mbyt.toInt) → ((y12_1.toInt) = 0 ∨ mrdm_12.toInt ≤ 9) → (irI mtxt mbyt.toInt y12_1 mpos_12.toInt mrea_12 mrdm_12 mtka_12 mtok_12) → (11 - mrdm_12.toInt).toNat < nn → va_P (dC, dI) vwCl (wMdR cI cZ cQ b mday mdoo mtel mgai mbyt mtxt mpos_12 mtka_12 mtok_12 mdig_12 mnum_12 mfau_12 mrdm_12 mrea_12 mlin mbsm) H → va_D A (wMdR cI cZ cQ b mday mdoo mtel mgai mbyt mtxt mpos_12 mtka_12 mtok_12 mdig_12 mnum_12 mfau_12 mrdm_12 mrea_12 mlin mbsm) → va_S A s.heap H locs → lv_has ls 2 [(0, .ref (b 39)), (1, .int y12_1)] → W p l e (headSpec wsX10_isRead { frames := 4, cells := 0, slots := 0, locals := 86 }).room s m ([.ref (b 39)] : List Value).toArray below meth c H locs 0 0 (MQ below (va_Qi (fun (r : Int32) (u : US) => ((((r = 1) ∧ (roM mtxt mbyt.toInt 1 (u.1 5 0) (u.1 6) (u.1 7 0))) ∨ ((r = 0) ∧ (roM mtxt mbyt.toInt 0 (u.1 5 0) (u.1 6) (u.1 7 0))))) ∧ (0 ≤ (u.1 0 0).toInt ∧ (u.1 0 0).toInt ≤ 160) ∧ (0 ≤ (u.1 7 0).toInt ∧ (u.1 7 0).toInt ≤ 10)) (Bw (dC, dI) A (fun u : US => (wMdR cI cZ cQ b mday mdoo mtel mgai mbyt mtxt (u.1 0 0) (u.1 1 0) u.2.1 (u.1 3 0) (u.1 4 0) (u.1 5 0) (u.1 7 0) (u.1 6) mlin mbsm))) A) ([.ref (b 39)] : List Value).toArray s 0 0 A) (F0 m 12 ls []) := by
    intro nn
    induction nn with
    | zero =>
      intro y12_1 mpos_12 mtka_12 mtok_12 mdig_12 mnum_12 mfau_12 mrea_12 mrdm_12 H locs ls r_mpos_12 r_mrdm_12 i12_0 i12_1 i12_2 hm12
      exact absurd hm12 (Nat.not_lt_zero _)
    | succ nn ih12 =>
      intro y12_1 mpos_12 mtka_12 mtok_12 mdig_12 mnum_12 mfau_12 mrea_12 mrdm_12 H locs ls r_mpos_12 r_mrdm_12 i12_0 i12_1 i12_2 hm12 hP hD hS hl
      refine lv_iload_n hx hb dX10_isRead_12 rfl (lv_at hl 1 rfl) ?_
      refine lv_if_eq (tgt := 74) hx hb dX10_isRead_13 (by decide) (fun c3 => ?_) (fun c3 => ?_)
      · have dc3 : y12_1.toInt = 0 := eqC rfl (show (0 : Int32).toInt = 0 from rfl) c3
        refine lv_aload_n hx hb dX10_isRead_74 rfl (lv_at hl 0 rfl) ?_
        refine va_get (D := (dC, dI)) (ci := 10) (v := .long mtok_12) (C := RX10) (T := TX10) (N := 39) hx hb hts inX10 hown hK hP 0 rfl rfl 23 (by decide) lf160 (fun _ h9 => h9) rfl dX10_isRead_75 ?_
        refine lv_ldc2 (v := (-2)) hx hb hown (hts (.constantLong RX10 158 (-2)) (List.mem_cons_of_mem _ (List.mem_append_left _ (List.mem_append_left _ (List.mem_of_getElem? (i := 4) rfl))))) dX10_isRead_78 ?_
        refine W.lcmp hx hb dX10_isRead_81 ?_
        refine lv_if_eq (tgt := 92) hx hb dX10_isRead_82 (by decide) (fun c4 => ?_) (fun c4 => ?_)
        · have dc4 : (lg_cmp mtok_12 (-2)).toInt = 0 := eqC rfl (show (0 : Int32).toInt = 0 from rfl) c4
          refine lv_iconst (v := 1) hx hb dX10_isRead_92 (by decide) ?_
          refine lv_goto (tgt := 97) hx hb dX10_isRead_93 (by decide) ?_
          exact W.zret (v := 1) hx hb hr (by decide) (fun tq ht hW => ⟨⟨1, (uS [(fun _ => mpos_12), (fun _ => mtka_12), (fun _ => 0), (fun _ => mdig_12), (fun _ => mnum_12), (fun _ => mfau_12), mrea_12, (fun _ => mrdm_12)] mtok_12 (fun _ => 0)), rfl, ⟨(Or.inl (⟨rfl, (show roM mtxt mbyt.toInt 1 mfau_12 mrea_12 mrdm_12 from by (try rw [show (1 : Int32).toInt = 1 from (show (1 : Int32).toInt = 1 from rfl)]); (first | exact io_ok i12_2 (by assumption) (by assumption) | exact io_f i12_2 (by assumption) (by assumption) (by assumption) | exact io_fail (ii_rd i12_2 (by assumption)) (by omega) (by omega) (by assumption) (by assumption)))⟩)), r_mpos_12, r_mrdm_12⟩, by rw [ht]; exact hP, hD⟩, hS.F ht⟩) hS.2.2 dX10_isRead_97
        · have dc4 : (lg_cmp mtok_12 (-2)).toInt ≠ 0 := neC rfl (show (0 : Int32).toInt = 0 from rfl) c4
          refine lv_aload_n hx hb dX10_isRead_85 rfl (lv_at hl 0 rfl) ?_
          refine wrV (As := []) (rest := []) (wr := [((b 28), .inl (cI, 30, .inl mrea_12))]) (w2 := (fun u : US => (wMdR cI cZ cQ b mday mdoo mtel mgai mbyt mtxt mpos_12 mtka_12 mtok_12 mdig_12 mnum_12 (u.1 0 0) mrdm_12 mrea_12 mlin mbsm))) ⟨hx, hb, hml, hown, hts⟩ (k_X10_fails2 l dC dI cI cZ cQ b mday mdoo mtel mgai mbyt mtxt mpos_12 mtka_12 mtok_12 mdig_12 mnum_12 mfau_12 mrdm_12 mlin mbsm _ r_mday r_mdoo r_mgai r_mbyt r_mpos_12 r_mrdm_12 r_mlin) (cwV 0 hts gX10_isRead_X10_fails rfl rfl rfl (by decide +kernel) ⟨Nat.le_of_ble_eq_true rfl, Nat.le_of_ble_eq_true rfl⟩) hP hD hS hA hK hN [0, 1] [2] [1, 2, 0] rfl rfl (by decide) (by decide) (by decide) (fun _ => rfl) (by decide) 0 10 rfl rfl rfl hl.1 rfl (Nat.le_of_ble_eq_true rfl) dX10_isRead_86 ⟨Nat.le_of_ble_eq_true rfl, Nat.le_of_ble_eq_true rfl⟩ (fun r5 u7 H locs h6 hP hD hS => ?_)
          obtain ⟨mfau_c8, emfau_c8⟩ : ∃ f : Int32, f = (u7.1 0 0) := ⟨_, rfl⟩
          have hP : va_P (dC, dI) vwCl (wMdR cI cZ cQ b mday mdoo mtel mgai mbyt mtxt mpos_12 mtka_12 mtok_12 mdig_12 mnum_12 mfau_c8 mrdm_12 mrea_12 mlin mbsm) H := by rw [emfau_c8]; exact hP
          have hD : va_D A (wMdR cI cZ cQ b mday mdoo mtel mgai mbyt mtxt mpos_12 mtka_12 mtok_12 mdig_12 mnum_12 mfau_c8 mrdm_12 mrea_12 mlin mbsm) := by rw [emfau_c8]; exact hD
          have h6 : ((((r5 = 0) ∧ (mfau_c8 = mtka_12)))) := by (try rw [emfau_c8]); exact h6
          rcases h6 with (⟨rfl, h6_a0⟩)
          · refine lv_if_eq (tgt := 96) hx hb dX10_isRead_89 (by decide) (fun _ => ?_) (fun c9 => absurd (by decide) c9)
            refine lv_iconst (v := 0) hx hb dX10_isRead_96 (by decide) ?_
            exact W.zret (v := 0) hx hb hr (by decide) (fun tq ht hW => ⟨⟨0, (uS [(fun _ => mpos_12), (fun _ => mtka_12), (fun _ => 0), (fun _ => mdig_12), (fun _ => mnum_12), (fun _ => mfau_c8), mrea_12, (fun _ => mrdm_12)] mtok_12 (fun _ => 0)), rfl, ⟨(Or.inr (⟨rfl, (show roM mtxt mbyt.toInt 0 mfau_c8 mrea_12 mrdm_12 from by (try rw [show (0 : Int32).toInt = 0 from (show (0 : Int32).toInt = 0 from rfl)]); (first | exact io_ok i12_2 (by assumption) (by assumption) | exact io_f i12_2 (by assumption) (by assumption) (by assumption) | exact io_fail (ii_rd i12_2 (by assumption)) (by omega) (by omega) (by assumption) (by assumption)))⟩)), r_mpos_12, r_mrdm_12⟩, by rw [ht]; exact hP, hD⟩, hS.F ht⟩) hS.2.2 dX10_isRead_97
      · have dc3 : y12_1.toInt ≠ 0 := neC rfl (show (0 : Int32).toInt = 0 from rfl) c3
        refine lv_aload_n hx hb dX10_isRead_16 rfl (lv_at hl 0 rfl) ?_
        refine lv_iconst (v := 3) hx hb dX10_isRead_17 (by decide) ?_
        refine lv_aload_n hx hb dX10_isRead_18 rfl (lv_at hl 0 rfl) ?_
        refine va_get (D := (dC, dI)) (ci := 10) (v := .int mrdm_12) (C := RX10) (T := TX10) (N := 39) hx hb hts inX10 hown hK hP 0 rfl rfl 27 (by decide) lf201 (fun _ h9 => h9) rfl dX10_isRead_19 ?_
        refine lv_imul hx hb dX10_isRead_22 ?_
        have f9 : (3 * mrdm_12).toInt = (3) * (mrdm_12.toInt) := mulC (show (3 : Int32).toInt = 3 from rfl) rfl (by omega) (by omega)
        refine wrV (As := [.int (3 * mrdm_12)]) (rest := []) (wr := []) (w2 := (fun u : US => (wMdR cI cZ cQ b mday mdoo mtel mgai mbyt mtxt (u.1 0 0) (u.1 1 0) u.2.1 (u.1 3 0) (u.1 4 0) (u.1 5 0) mrdm_12 (u.1 6) mlin mbsm))) ⟨hx, hb, hml, hown, hts⟩ (k_X10_isLine2 l dC dI cI cZ cQ b mday mdoo mtel mgai mbyt mtxt mpos_12 mtka_12 mtok_12 mdig_12 mnum_12 mfau_12 mrdm_12 mrea_12 mlin mbsm _ (3 * mrdm_12) r_mday r_mdoo r_mgai r_mbyt r_mpos_12 r_mrdm_12 r_mlin (by omega) (by omega) (by omega)) (cwV 1 hts gX10_isRead_X10_isLine rfl rfl rfl (by decide +kernel) ⟨Nat.le_of_ble_eq_true rfl, Nat.le_of_ble_eq_true rfl⟩) hP hD hS hA hK hN [0, 1, 2] [] [0, 1, 2] rfl rfl (by decide) (by decide) (by decide) (fun _ => rfl) (by decide) 0 10 rfl rfl rfl hl.1 rfl (Nat.le_of_ble_eq_true rfl) dX10_isRead_23 ⟨Nat.le_of_ble_eq_true rfl, Nat.le_of_ble_eq_true rfl⟩ (fun r10 u12 H locs h11 hP hD hS => ?_)
        obtain ⟨mpos_c13, empos_c13⟩ : ∃ f : Int32, f = (u12.1 0 0) := ⟨_, rfl⟩
        obtain ⟨mtka_c14, emtka_c14⟩ : ∃ f : Int32, f = (u12.1 1 0) := ⟨_, rfl⟩
        obtain ⟨mtok_c15, emtok_c15⟩ : ∃ f : Int64, f = u12.2.1 := ⟨_, rfl⟩
        obtain ⟨mdig_c16, emdig_c16⟩ : ∃ f : Int32, f = (u12.1 3 0) := ⟨_, rfl⟩
        obtain ⟨mnum_c17, emnum_c17⟩ : ∃ f : Int32, f = (u12.1 4 0) := ⟨_, rfl⟩
        obtain ⟨mfau_c18, emfau_c18⟩ : ∃ f : Int32, f = (u12.1 5 0) := ⟨_, rfl⟩
        obtain ⟨mrea_c19, emrea_c19⟩ : ∃ f : Nat → Int32, f = (u12.1 6) := ⟨_, rfl⟩
        have hP : va_P (dC, dI) vwCl (wMdR cI cZ cQ b mday mdoo mtel mgai mbyt mtxt mpos_c13 mtka_c14 mtok_c15 mdig_c16 mnum_c17 mfau_c18 mrdm_12 mrea_c19 mlin mbsm) H := by rw [empos_c13, emtka_c14, emtok_c15, emdig_c16, emnum_c17, emfau_c18, emrea_c19]; exact hP
        have hD : va_D A (wMdR cI cZ cQ b mday mdoo mtel mgai mbyt mtxt mpos_c13 mtka_c14 mtok_c15 mdig_c16 mnum_c17 mfau_c18 mrdm_12 mrea_c19 mlin mbsm) := by rw [empos_c13, emtka_c14, emtok_c15, emdig_c16, emnum_c17, emfau_c18, emrea_c19]; exact hD
        have h11 : ((((r10 = 1) ∧ (lnM mtxt mbyt.toInt mpos_12.toInt (3 * mrdm_12) mrea_12 mrea_c19 mpos_c13.toInt)) ∨ ((r10 = 0) ∧ (lnR mtxt mbyt.toInt mpos_12.toInt (3 * mrdm_12) mrea_12 mrea_c19 mfau_c18.toInt)))) ∧ (mpos_c13.toInt ≤ mbyt.toInt) ∧ (0 ≤ mpos_c13.toInt ∧ mpos_c13.toInt ≤ 160) := by (try rw [empos_c13]); (try rw [emtka_c14]); (try rw [emtok_c15]); (try rw [emdig_c16]); (try rw [emnum_c17]); (try rw [emfau_c18]); (try rw [emrea_c19]); exact h11
        rcases h11 with ⟨(⟨rfl, h11_a0⟩ | ⟨rfl, h11_a0⟩), h11_0, h11_1⟩
        · refine lv_if_ne (tgt := 31) hx hb dX10_isRead_26 (by decide) (fun _ => ?_) (fun c9 => absurd c9 (by decide))
          refine lv_aload_n hx hb dX10_isRead_31 rfl (lv_at hl 0 rfl) ?_
          refine lv_dup hx hb dX10_isRead_32 rfl ?_
          refine va_get (D := (dC, dI)) (ci := 10) (v := .int mrdm_12) (C := RX10) (T := TX10) (N := 39) hx hb hts inX10 hown hK hP 0 rfl rfl 27 (by decide) lf201 (fun _ h9 => h9) rfl dX10_isRead_33 ?_
          refine lv_iconst (v := 1) hx hb dX10_isRead_36 (by decide) ?_
          refine lv_iadd hx hb dX10_isRead_37 ?_
          have f20 : (mrdm_12 + 1).toInt = (mrdm_12.toInt) + (1) := addC rfl (show (1 : Int32).toInt = 1 from rfl) (by omega) (by omega)
          refine lv_topi (fun x21 ex21 => ?_)
          have ix21 : x21.toInt = (mrdm_12.toInt) + (1) := by rw [ex21]; exact f20
          refine va_put (D := (dC, dI)) (ci := 10) (v := .int x21) (ty := .int) (C := RX10) (T := TX10) (N := 39) hx hb hts inX10 tyX10 tyX10_ok nmX10 hown hK hP hD hS 0 rfl rfl 27 (by decide) lf201 (fun _ h9 => h9) rfl (by decide +kernel) rfl rfl (Nat.le_of_ble_eq_true rfl) dX10_isRead_38 (fun H locs hP hD hS => ?_)
          have g22 : 0 ≤ x21.toInt ∧ x21.toInt ≤ 10 := by rw [show x21.toInt = x21.toInt from rfl]; exact ⟨by omega, by omega⟩
          have hP : va_P (dC, dI) vwCl (wMdR cI cZ cQ b mday mdoo mtel mgai mbyt mtxt mpos_c13 mtka_c14 mtok_c15 mdig_c16 mnum_c17 mfau_c18 x21 mrea_c19 mlin mbsm) H := hP
          have hD : va_D A (wMdR cI cZ cQ b mday mdoo mtel mgai mbyt mtxt mpos_c13 mtka_c14 mtok_c15 mdig_c16 mnum_c17 mfau_c18 x21 mrea_c19 mlin mbsm) := hD
          refine lv_aload_n hx hb dX10_isRead_41 rfl (lv_at hl 0 rfl) ?_
          refine wvV (As := []) (rest := []) (wr := [((b 28), .inl (cI, 30, .inl mrea_c19))]) (w2 := (fun u : US => (wMdR cI cZ cQ b mday mdoo mtel mgai mbyt mtxt (u.1 0 0) (u.1 1 0) u.2.1 (u.1 3 0) (u.1 4 0) mfau_c18 x21 mrea_c19 mlin mbsm))) ⟨hx, hb, hml, hown, hts⟩ (k_X10_nextToken2 l dC dI cI cZ cQ b mday mdoo mtel mgai mbyt mtxt mpos_c13 mtka_c14 mtok_c15 mdig_c16 mnum_c17 mfau_c18 x21 mlin mbsm _ r_mday r_mdoo r_mgai r_mbyt h11_1 g22 r_mlin (by omega)) (cwV 0 hts gX10_isRead_X10_nextToken rfl rfl rfl (by decide +kernel) ⟨Nat.le_of_ble_eq_true rfl, Nat.le_of_ble_eq_true rfl⟩) hP hD hS hA hK hN [0, 1] [2] [1, 2, 0] rfl rfl (by decide) (by decide) (by decide) (fun _ => rfl) (by decide) 0 10 rfl rfl rfl hl.1 rfl (Nat.le_of_ble_eq_true rfl) dX10_isRead_42 ⟨Nat.le_of_ble_eq_true rfl, Nat.le_of_ble_eq_true rfl⟩ (fun u25 H locs h24 hP hD hS => ?_)
          obtain ⟨mpos_c26, empos_c26⟩ : ∃ f : Int32, f = (u25.1 0 0) := ⟨_, rfl⟩
          obtain ⟨mtka_c27, emtka_c27⟩ : ∃ f : Int32, f = (u25.1 1 0) := ⟨_, rfl⟩
          obtain ⟨mtok_c28, emtok_c28⟩ : ∃ f : Int64, f = u25.2.1 := ⟨_, rfl⟩
          obtain ⟨mdig_c29, emdig_c29⟩ : ∃ f : Int32, f = (u25.1 3 0) := ⟨_, rfl⟩
          obtain ⟨mnum_c30, emnum_c30⟩ : ∃ f : Int32, f = (u25.1 4 0) := ⟨_, rfl⟩
          have hP : va_P (dC, dI) vwCl (wMdR cI cZ cQ b mday mdoo mtel mgai mbyt mtxt mpos_c26 mtka_c27 mtok_c28 mdig_c29 mnum_c30 mfau_c18 x21 mrea_c19 mlin mbsm) H := by rw [empos_c26, emtka_c27, emtok_c28, emdig_c29, emnum_c30]; exact hP
          have hD : va_D A (wMdR cI cZ cQ b mday mdoo mtel mgai mbyt mtxt mpos_c26 mtka_c27 mtok_c28 mdig_c29 mnum_c30 mfau_c18 x21 mrea_c19 mlin mbsm) := by rw [empos_c26, emtka_c27, emtok_c28, emdig_c29, emnum_c30]; exact hD
          have h24 : (mpos_c26.toInt ≤ mbyt.toInt) ∧ (0 ≤ mtka_c27.toInt) ∧ (mtka_c27.toInt ≤ mpos_c26.toInt) ∧ (mtka_c27.toInt = tS mtxt mbyt.toInt mpos_c13.toInt) ∧ (mpos_c26.toInt = tE mtxt mbyt.toInt mtka_c27.toInt) ∧ (mtok_c28 = tkV mtxt mbyt.toInt mtka_c27.toInt mpos_c26.toInt) ∧ (nmP mtxt mbyt.toInt mtka_c27.toInt mpos_c26.toInt mnum_c30) ∧ (0 ≤ mpos_c26.toInt ∧ mpos_c26.toInt ≤ 160) := by (try rw [empos_c26]); (try rw [emtka_c27]); (try rw [emtok_c28]); (try rw [emdig_c29]); (try rw [emnum_c30]); exact h24
          obtain ⟨h24_0, h24_1, h24_2, h24_3, h24_4, h24_5, h24_6, h24_7⟩ := h24
          refine lv_aload_n hx hb dX10_isRead_45 rfl (lv_at hl 0 rfl) ?_
          refine va_get (D := (dC, dI)) (ci := 10) (v := .long mtok_c28) (C := RX10) (T := TX10) (N := 39) hx hb hts inX10 hown hK hP 0 rfl rfl 23 (by decide) lf160 (fun _ h9 => h9) rfl dX10_isRead_46 ?_
          refine lv_ldc2 (v := (-3)) hx hb hown (hts (.constantLong RX10 172 (-3)) (List.mem_cons_of_mem _ (List.mem_append_left _ (List.mem_append_left _ (List.mem_of_getElem? (i := 3) rfl))))) dX10_isRead_49 ?_
          refine W.lcmp hx hb dX10_isRead_52 ?_
          refine lv_if_ne (tgt := 69) hx hb dX10_isRead_53 (by decide) (fun c31 => ?_) (fun c31 => ?_)
          · have dc31 : (lg_cmp mtok_c28 (-3)).toInt ≠ 0 := neC rfl (show (0 : Int32).toInt = 0 from rfl) c31
            refine lv_iconst (v := 0) hx hb dX10_isRead_69 (by decide) ?_
            refine lv_istore_n (lv' := [(1, .int 0), (0, .ref (b 39))]) hx hb dX10_isRead_70 rfl hl (by decide) rfl (fun ls hl => ?_)
            refine lv_goto (tgt := 12) hx hb dX10_isRead_71 (by decide) ?_
            have kc32 : (0 : Int32).toInt = 0 := rfl
            exact ih12 0 mpos_c26 mtka_c27 mtok_c28 mdig_c29 mnum_c30 mfau_c18 mrea_c19 x21 _ _ _ h24_7 g22 (by omega) (by omega) (by (first | exact ii_more (ii_rd i12_2 (by assumption)) (by omega) (by assumption) (by assumption) (by omega) (by assumption) (by assumption) (by assumption) (by assumption) (by omega) | exact ii_stop (ii_rd i12_2 (by assumption)) (by omega) (by omega) (by assumption) (by assumption) (by omega) (by assumption) (by assumption) (by assumption) (by first | exact Or.inl (by assumption) | exact Or.inr (by omega)) (by omega) | exact ii_init (by first | rfl | omega) (by first | rfl | omega))) (by omega) hP hD hS (lv_sub hl [1, 0] rfl)
          · have dc31 : (lg_cmp mtok_c28 (-3)).toInt = 0 := eqC rfl (show (0 : Int32).toInt = 0 from rfl) c31
            refine lv_aload_n hx hb dX10_isRead_56 rfl (lv_at hl 0 rfl) ?_
            refine va_get (D := (dC, dI)) (ci := 10) (v := .int x21) (C := RX10) (T := TX10) (N := 39) hx hb hts inX10 hown hK hP 0 rfl rfl 27 (by decide) lf201 (fun _ h9 => h9) rfl dX10_isRead_57 ?_
            refine lv_bipush (v := 10) hx hb dX10_isRead_60 (by decide) ?_
            refine lv_icmp_ge (tgt := 69) hx hb dX10_isRead_62 (by decide) (fun c33 => ?_) (fun c33 => ?_)
            · have dc33 : 10 ≤ x21.toInt := leC (show (10 : Int32).toInt = 10 from rfl) rfl c33
              refine lv_iconst (v := 0) hx hb dX10_isRead_69 (by decide) ?_
              refine lv_istore_n (lv' := [(1, .int 0), (0, .ref (b 39))]) hx hb dX10_isRead_70 rfl hl (by decide) rfl (fun ls hl => ?_)
              refine lv_goto (tgt := 12) hx hb dX10_isRead_71 (by decide) ?_
              have kc34 : (0 : Int32).toInt = 0 := rfl
              exact ih12 0 mpos_c26 mtka_c27 mtok_c28 mdig_c29 mnum_c30 mfau_c18 mrea_c19 x21 _ _ _ h24_7 g22 (by omega) (by omega) (by (first | exact ii_more (ii_rd i12_2 (by assumption)) (by omega) (by assumption) (by assumption) (by omega) (by assumption) (by assumption) (by assumption) (by assumption) (by omega) | exact ii_stop (ii_rd i12_2 (by assumption)) (by omega) (by omega) (by assumption) (by assumption) (by omega) (by assumption) (by assumption) (by assumption) (by first | exact Or.inl (by assumption) | exact Or.inr (by omega)) (by omega) | exact ii_init (by first | rfl | omega) (by first | rfl | omega))) (by omega) hP hD hS (lv_sub hl [1, 0] rfl)
            · have dc33 : x21.toInt < 10 := nleC (show (10 : Int32).toInt = 10 from rfl) rfl c33
              refine lv_iconst (v := 1) hx hb dX10_isRead_65 (by decide) ?_
              refine lv_goto (tgt := 70) hx hb dX10_isRead_66 (by decide) ?_
              refine lv_istore_n (lv' := [(1, .int 1), (0, .ref (b 39))]) hx hb dX10_isRead_70 rfl hl (by decide) rfl (fun ls hl => ?_)
              refine lv_goto (tgt := 12) hx hb dX10_isRead_71 (by decide) ?_
              have kc35 : (1 : Int32).toInt = 1 := rfl
              exact ih12 1 mpos_c26 mtka_c27 mtok_c28 mdig_c29 mnum_c30 mfau_c18 mrea_c19 x21 _ _ _ h24_7 g22 (by omega) (by omega) (by (first | exact ii_more (ii_rd i12_2 (by assumption)) (by omega) (by assumption) (by assumption) (by omega) (by assumption) (by assumption) (by assumption) (by assumption) (by omega) | exact ii_stop (ii_rd i12_2 (by assumption)) (by omega) (by omega) (by assumption) (by assumption) (by omega) (by assumption) (by assumption) (by assumption) (by first | exact Or.inl (by assumption) | exact Or.inr (by omega)) (by omega) | exact ii_init (by first | rfl | omega) (by first | rfl | omega))) (by omega) hP hD hS (lv_sub hl [1, 0] rfl)
        · refine lv_if_ne (tgt := 31) hx hb dX10_isRead_26 (by decide) (fun c9 => absurd (by decide) c9) (fun _ => ?_)
          refine lv_iconst (v := 0) hx hb dX10_isRead_29 (by decide) ?_
          exact W.zret (v := 0) hx hb hr (by decide) (fun tq ht hW => ⟨⟨0, (uS [(fun _ => mpos_c13), (fun _ => mtka_c14), (fun _ => 0), (fun _ => mdig_c16), (fun _ => mnum_c17), (fun _ => mfau_c18), mrea_c19, (fun _ => mrdm_12)] mtok_c15 (fun _ => 0)), rfl, ⟨(Or.inr (⟨rfl, (show roM mtxt mbyt.toInt 0 mfau_c18 mrea_c19 mrdm_12 from by (try rw [show (0 : Int32).toInt = 0 from (show (0 : Int32).toInt = 0 from rfl)]); (first | exact io_ok i12_2 (by assumption) (by assumption) | exact io_f i12_2 (by assumption) (by assumption) (by assumption) | exact io_fail (ii_rd i12_2 (by assumption)) (by omega) (by omega) (by assumption) (by assumption)))⟩)), h11_1, r_mrdm_12⟩, by rw [ht]; exact hP, hD⟩, hS.F ht⟩) hS.2.2 dX10_isRead_30
  have kc36 : (1 : Int32).toInt = 1 := rfl
  have kc37 : (0 : Int32).toInt = 0 := rfl
  exact L12 _ 1 0 mtka mtok mdig mnum mfau mrea 0 _ _ _ g1 g2 (by omega) (by omega) (by (first | exact ii_more (ii_rd i12_2 (by assumption)) (by omega) (by assumption) (by assumption) (by omega) (by assumption) (by assumption) (by assumption) (by assumption) (by omega) | exact ii_stop (ii_rd i12_2 (by assumption)) (by omega) (by omega) (by assumption) (by assumption) (by omega) (by assumption) (by assumption) (by assumption) (by first | exact Or.inl (by assumption) | exact Or.inr (by omega)) (by omega) | exact ii_init (by first | rfl | omega) (by first | rfl | omega))) (Nat.lt_succ_self _) hP hD hS (lv_sub hl [1, 0] rfl)
set_option maxHeartbeats 4000000 in
set_option maxRecDepth 100000 in
theorem k_X10_fault2 (l : Launch) (dC : Nat → ClassId) (dI : Nat → Nat → Nat) (cI cZ cQ : ClassId) (b : Nat → Nat) (mday : Int32) (mdoo : Int32) (mtel : Int32) (mgai : Int32) (mbyt : Int32) (mtxt : Nat → Int32) (mpos : Int32) (mtka : Int32) (mtok : Int64) (mdig : Int32) (mnum : Int32) (mfau : Int32) (mrdm : Int32) (mrea : Nat → Int32) (mlin : Int32) (mbsm : Int32) (sz : Nat) (r_mday : 0 ≤ mday.toInt ∧ mday.toInt ≤ 400) (r_mdoo : 0 ≤ mdoo.toInt ∧ mdoo.toInt ≤ 14) (r_mgai : 0 ≤ mgai.toInt ∧ mgai.toInt ≤ 100) (r_mbyt : 0 ≤ mbyt.toInt ∧ mbyt.toInt ≤ 160) (r_mpos : 0 ≤ mpos.toInt ∧ mpos.toInt ≤ 160) (r_mrdm : 0 ≤ mrdm.toInt ∧ mrdm.toInt ≤ 10) (r_mlin : 0 ≤ mlin.toInt ∧ mlin.toInt ≤ 10) : KW l yX10_fault wsX10_fault { frames := 5, cells := 0, slots := 0, locals := 107 } (dC, dI) (TY cI cZ cQ) (wMdR cI cZ cQ b mday mdoo mtel mgai mbyt mtxt mpos mtka mtok mdig mnum mfau mrdm mrea mlin mbsm) [.ref (b 39)] sz 0 0 (fun (r : Int32) (u : US) => (spFltM mtxt mbyt r) ∧ (0 ≤ (u.1 0 0).toInt ∧ (u.1 0 0).toInt ≤ 160) ∧ (0 ≤ (u.1 7 0).toInt ∧ (u.1 7 0).toInt ≤ 10)) (fun u : US => (wMdR cI cZ cQ b mday mdoo mtel mgai mbyt mtxt (u.1 0 0) (u.1 1 0) u.2.1 (u.1 3 0) (u.1 4 0) (u.1 5 0) (u.1 7 0) (u.1 6) mlin mbsm)) := by
  refine Met.ofW (cc := cX10_fault) (maxL := 1) (ret := (some .int)) (by decide) rfl ?_
  intro p e s m args below meth c s₁ B hml hv
  obtain ⟨rfl, hsz, hP, hK, hD0, hN⟩ := hv
  have hx := B.exec
  have hb := B.bytes
  have hr := B.returns
  have hts := atoms_spec (ws := wsX10_fault) B.pre
  have hown : s.vm.findClass RX10 = some m.cls := findClass_of_methodNamed B.named
  have hlocks := B.notSynchronized
  have lf174 := hts (.fieldLink RX10 174 "PalaceOfRoomsModel" "faultAt" "I") (List.mem_cons_of_mem _ (List.mem_append_left _ (List.mem_append_left _ (List.mem_of_getElem? (i := 0) rfl))))
  have inX10 : ∀ w ∈ wsX100, w ∈ wsX10_fault := fun w h => List.mem_cons_of_mem _ (List.mem_append_right _ h)
  subst hsz
  have hD := hD0.self (sz := s.heap.size)
  generalize hAe : va_A (wMdR cI cZ cQ b mday mdoo mtel mgai mbyt mtxt mpos mtka mtok mdig mnum mfau mrdm mrea mlin mbsm) s.heap.size = A at hD ⊢
  have hA : ∀ q : Nat, s.heap.size ≤ q → A q := fun q h => by rw [← hAe]; exact Or.inr h
  have hS : va_S A s.heap s.heap [] := va_S.rf
  have hl := lv_entry ([.ref (b 39)]) (n := 1) (Nat.le_of_ble_eq_true rfl)
  rw [lg_entry_eq]
  generalize (lg_sl ([.ref (b 39)]) ++ List.replicate (1 - (lg_sl ([.ref (b 39)])).length) Slot.unset).toArray = ls at hl ⊢
  have hl : lv_has ls 1 [(0, .ref (b 39))] := hl
  refine lv_aload_n hx hb dX10_fault_0 rfl (lv_at hl 0 rfl) ?_
  refine wrV (As := []) (rest := []) (wr := []) (w2 := (fun u : US => (wMdR cI cZ cQ b mday mdoo mtel mgai mbyt mtxt (u.1 0 0) (u.1 1 0) u.2.1 (u.1 3 0) (u.1 4 0) (u.1 5 0) (u.1 7 0) (u.1 6) mlin mbsm))) ⟨hx, hb, hml, hown, hts⟩ (k_X10_isRead2 l dC dI cI cZ cQ b mday mdoo mtel mgai mbyt mtxt mpos mtka mtok mdig mnum mfau mrdm mrea mlin mbsm _ r_mday r_mdoo r_mgai r_mbyt r_mpos r_mrdm r_mlin) (cwV 0 hts gX10_fault_X10_isRead rfl rfl rfl (by decide +kernel) ⟨Nat.le_of_ble_eq_true rfl, Nat.le_of_ble_eq_true rfl⟩) hP hD hS hA hK hN [0, 1, 2] [] [0, 1, 2] rfl rfl (by decide) (by decide) (by decide) (fun _ => rfl) (by decide) 0 10 rfl rfl rfl hl.1 rfl (Nat.le_of_ble_eq_true rfl) dX10_fault_1 ⟨Nat.le_of_ble_eq_true rfl, Nat.le_of_ble_eq_true rfl⟩ (fun r1 u3 H locs h2 hP hD hS => ?_)
  obtain ⟨mpos_c4, empos_c4⟩ : ∃ f : Int32, f = (u3.1 0 0) := ⟨_, rfl⟩
  obtain ⟨mtka_c5, emtka_c5⟩ : ∃ f : Int32, f = (u3.1 1 0) := ⟨_, rfl⟩
  obtain ⟨mtok_c6, emtok_c6⟩ : ∃ f : Int64, f = u3.2.1 := ⟨_, rfl⟩
  obtain ⟨mdig_c7, emdig_c7⟩ : ∃ f : Int32, f = (u3.1 3 0) := ⟨_, rfl⟩
  obtain ⟨mnum_c8, emnum_c8⟩ : ∃ f : Int32, f = (u3.1 4 0) := ⟨_, rfl⟩
  obtain ⟨mfau_c9, emfau_c9⟩ : ∃ f : Int32, f = (u3.1 5 0) := ⟨_, rfl⟩
  obtain ⟨mrea_c10, emrea_c10⟩ : ∃ f : Nat → Int32, f = (u3.1 6) := ⟨_, rfl⟩
  obtain ⟨mrdm_c11, emrdm_c11⟩ : ∃ f : Int32, f = (u3.1 7 0) := ⟨_, rfl⟩
  have hP : va_P (dC, dI) vwCl (wMdR cI cZ cQ b mday mdoo mtel mgai mbyt mtxt mpos_c4 mtka_c5 mtok_c6 mdig_c7 mnum_c8 mfau_c9 mrdm_c11 mrea_c10 mlin mbsm) H := by rw [empos_c4, emtka_c5, emtok_c6, emdig_c7, emnum_c8, emfau_c9, emrea_c10, emrdm_c11]; exact hP
  have hD : va_D A (wMdR cI cZ cQ b mday mdoo mtel mgai mbyt mtxt mpos_c4 mtka_c5 mtok_c6 mdig_c7 mnum_c8 mfau_c9 mrdm_c11 mrea_c10 mlin mbsm) := by rw [empos_c4, emtka_c5, emtok_c6, emdig_c7, emnum_c8, emfau_c9, emrea_c10, emrdm_c11]; exact hD
  have h2 : ((((r1 = 1) ∧ (roM mtxt mbyt.toInt 1 mfau_c9 mrea_c10 mrdm_c11)) ∨ ((r1 = 0) ∧ (roM mtxt mbyt.toInt 0 mfau_c9 mrea_c10 mrdm_c11)))) ∧ (0 ≤ mpos_c4.toInt ∧ mpos_c4.toInt ≤ 160) ∧ (0 ≤ mrdm_c11.toInt ∧ mrdm_c11.toInt ≤ 10) := by (try rw [empos_c4]); (try rw [emtka_c5]); (try rw [emtok_c6]); (try rw [emdig_c7]); (try rw [emnum_c8]); (try rw [emfau_c9]); (try rw [emrea_c10]); (try rw [emrdm_c11]); exact h2
  rcases h2 with ⟨(⟨rfl, h2_a0⟩ | ⟨rfl, h2_a0⟩), h2_0, h2_1⟩
  · refine lv_if_eq (tgt := 11) hx hb dX10_fault_4 (by decide) (fun c9 => absurd c9 (by decide)) (fun _ => ?_)
    refine lv_iconst (v := (-1)) hx hb dX10_fault_7 (by decide) ?_
    refine lv_goto (tgt := 15) hx hb dX10_fault_8 (by decide) ?_
    exact W.iret (v := (-1)) hx hb hr (fun tq ht hW => ⟨⟨(-1), (uS [(fun _ => mpos_c4), (fun _ => mtka_c5), (fun _ => 0), (fun _ => mdig_c7), (fun _ => mnum_c8), (fun _ => mfau_c9), mrea_c10, (fun _ => mrdm_c11)] mtok_c6 (fun _ => 0)), rfl, ⟨(show spFltM mtxt mbyt ((-1) : Int32) from by (try rw [show ((-1) : Int32).toInt = (-1) from (show ((-1) : Int32).toInt = (-1) from rfl)]); (first | exact ⟨1, _, _, _, by assumption, Or.inl ⟨rfl, rfl⟩⟩ | exact ⟨0, _, _, _, by assumption, Or.inr ⟨rfl, rfl⟩⟩)), h2_0, h2_1⟩, by rw [ht]; exact hP, hD⟩, hS.F ht⟩) hS.2.2 dX10_fault_15
  · refine lv_if_eq (tgt := 11) hx hb dX10_fault_4 (by decide) (fun _ => ?_) (fun c9 => absurd (by decide) c9)
    refine lv_aload_n hx hb dX10_fault_11 rfl (lv_at hl 0 rfl) ?_
    refine va_get (D := (dC, dI)) (ci := 10) (v := .int mfau_c9) (C := RX10) (T := TX10) (N := 39) hx hb hts inX10 hown hK hP 0 rfl rfl 26 (by decide) lf174 (fun _ h9 => h9) rfl dX10_fault_12 ?_
    exact W.iret (v := mfau_c9) hx hb hr (fun tq ht hW => ⟨⟨mfau_c9, (uS [(fun _ => mpos_c4), (fun _ => mtka_c5), (fun _ => 0), (fun _ => mdig_c7), (fun _ => mnum_c8), (fun _ => mfau_c9), mrea_c10, (fun _ => mrdm_c11)] mtok_c6 (fun _ => 0)), rfl, ⟨(show spFltM mtxt mbyt mfau_c9 from by (first | exact ⟨1, _, _, _, by assumption, Or.inl ⟨rfl, rfl⟩⟩ | exact ⟨0, _, _, _, by assumption, Or.inr ⟨rfl, rfl⟩⟩)), h2_0, h2_1⟩, by rw [ht]; exact hP, hD⟩, hS.F ht⟩) hS.2.2 dX10_fault_15
set_option maxHeartbeats 4000000 in
set_option maxRecDepth 100000 in
theorem k_X10_rules2 (l : Launch) (dC : Nat → ClassId) (dI : Nat → Nat → Nat) (cI cZ cQ : ClassId) (b : Nat → Nat) (mday : Int32) (mdoo : Int32) (mtel : Int32) (mgai : Int32) (mbyt : Int32) (mtxt : Nat → Int32) (mpos : Int32) (mtka : Int32) (mtok : Int64) (mdig : Int32) (mnum : Int32) (mfau : Int32) (mrdm : Int32) (mrea : Nat → Int32) (mlin : Int32) (mlne : Nat → Int32) (mbsm : Int32) (sz : Nat) (r_mday : 0 ≤ mday.toInt ∧ mday.toInt ≤ 400) (r_mdoo : 0 ≤ mdoo.toInt ∧ mdoo.toInt ≤ 14) (r_mgai : 0 ≤ mgai.toInt ∧ mgai.toInt ≤ 100) (r_mbyt : 0 ≤ mbyt.toInt ∧ mbyt.toInt ≤ 160) (r_mpos : 0 ≤ mpos.toInt ∧ mpos.toInt ≤ 160) (r_mrdm : 0 ≤ mrdm.toInt ∧ mrdm.toInt ≤ 10) (r_mlin : 0 ≤ mlin.toInt ∧ mlin.toInt ≤ 10) : KW l yX10_rules wsX10_rules { frames := 5, cells := 0, slots := 0, locals := 107 } (dC, dI) (TY cI cZ cQ) (wMdL cI cZ cQ b mday mdoo mtel mgai mbyt mtxt mpos mtka mtok mdig mnum mfau mrdm mrea mlin mlne mbsm) [.ref (b 39)] sz 0 0 (fun (r : Int32) (u : US) => (spRulM mtxt mbyt mlne mlin r (u.1 10 0) (u.1 8) (u.1 9 0)) ∧ (0 ≤ (u.1 0 0).toInt ∧ (u.1 0 0).toInt ≤ 160) ∧ (0 ≤ (u.1 7 0).toInt ∧ (u.1 7 0).toInt ≤ 10) ∧ (0 ≤ (u.1 9 0).toInt ∧ (u.1 9 0).toInt ≤ 10) ∧ (0 ≤ (u.1 10 0).toInt ∧ (u.1 10 0).toInt ≤ 160)) (fun u : US => (wMdL cI cZ cQ b mday mdoo mtel mgai (u.1 10 0) mtxt (u.1 0 0) (u.1 1 0) u.2.1 (u.1 3 0) (u.1 4 0) (u.1 5 0) (u.1 7 0) (u.1 6) (u.1 9 0) (u.1 8) mbsm)) := by
  refine Met.ofW (cc := cX10_rules) (maxL := 2) (ret := (some .int)) (by decide) rfl ?_
  intro p e s m args below meth c s₁ B hml hv
  obtain ⟨rfl, hsz, hP, hK, hD0, hN⟩ := hv
  have hx := B.exec
  have hb := B.bytes
  have hr := B.returns
  have hts := atoms_spec (ws := wsX10_rules) B.pre
  have hown : s.vm.findClass RX10 = some m.cls := findClass_of_methodNamed B.named
  have hlocks := B.notSynchronized
  have lf201 := hts (.fieldLink RX10 201 "PalaceOfRoomsModel" "readMany" "I") (List.mem_cons_of_mem _ (List.mem_append_left _ (List.mem_append_left _ (List.mem_of_getElem? (i := 2) rfl))))
  have inX10 : ∀ w ∈ wsX100, w ∈ wsX10_rules := fun w h => List.mem_cons_of_mem _ (List.mem_append_right _ h)
  have lf210 := hts (.fieldLink RX10 210 "PalaceOfRoomsModel" "lines" "I") (List.mem_cons_of_mem _ (List.mem_append_left _ (List.mem_append_left _ (List.mem_of_getElem? (i := 3) rfl))))
  have lf141 := hts (.fieldLink RX10 141 "PalaceOfRoomsModel" "bytes" "I") (List.mem_cons_of_mem _ (List.mem_append_left _ (List.mem_append_left _ (List.mem_of_getElem? (i := 4) rfl))))
  have lf68 := hts (.fieldLink RX10 68 "PalaceOfRoomsModel" "line" "[I") (List.mem_cons_of_mem _ (List.mem_append_left _ (List.mem_append_left _ (List.mem_of_getElem? (i := 0) rfl))))
  have lf65 := hts (.fieldLink RX10 65 "PalaceOfRoomsModel" "read" "[I") (List.mem_cons_of_mem _ (List.mem_append_left _ (List.mem_append_left _ (List.mem_of_getElem? (i := 1) rfl))))
  subst hsz
  have hD := hD0.self (sz := s.heap.size)
  generalize hAe : va_A (wMdL cI cZ cQ b mday mdoo mtel mgai mbyt mtxt mpos mtka mtok mdig mnum mfau mrdm mrea mlin mlne mbsm) s.heap.size = A at hD ⊢
  have hA : ∀ q : Nat, s.heap.size ≤ q → A q := fun q h => by rw [← hAe]; exact Or.inr h
  have hS : va_S A s.heap s.heap [] := va_S.rf
  have hl := lv_entry ([.ref (b 39)]) (n := 2) (Nat.le_of_ble_eq_true rfl)
  rw [lg_entry_eq]
  generalize (lg_sl ([.ref (b 39)]) ++ List.replicate (2 - (lg_sl ([.ref (b 39)])).length) Slot.unset).toArray = ls at hl ⊢
  have hl : lv_has ls 2 [(0, .ref (b 39))] := hl
  refine lv_aload_n hx hb dX10_rules_0 rfl (lv_at hl 0 rfl) ?_
  refine wrV (As := []) (rest := []) (wr := [((b 30), .inl (cI, 30, .inl mlne))]) (w2 := (fun u : US => (wMdL cI cZ cQ b mday mdoo mtel mgai mbyt mtxt (u.1 0 0) (u.1 1 0) u.2.1 (u.1 3 0) (u.1 4 0) (u.1 5 0) (u.1 7 0) (u.1 6) mlin mlne mbsm))) ⟨hx, hb, hml, hown, hts⟩ (k_X10_isRead2 l dC dI cI cZ cQ b mday mdoo mtel mgai mbyt mtxt mpos mtka mtok mdig mnum mfau mrdm mrea mlin mbsm _ r_mday r_mdoo r_mgai r_mbyt r_mpos r_mrdm r_mlin) (cwV 0 hts gX10_rules_X10_isRead rfl rfl rfl (by decide +kernel) ⟨Nat.le_of_ble_eq_true rfl, Nat.le_of_ble_eq_true rfl⟩) hP hD hS hA hK hN [0, 1, 2] [3] [1, 2, 3, 0] rfl rfl (by decide) (by decide) (by decide) (fun _ => rfl) (by decide) 0 10 rfl rfl rfl hl.1 rfl (Nat.le_of_ble_eq_true rfl) dX10_rules_1 ⟨Nat.le_of_ble_eq_true rfl, Nat.le_of_ble_eq_true rfl⟩ (fun r1 u3 H locs h2 hP hD hS => ?_)
  obtain ⟨mpos_c4, empos_c4⟩ : ∃ f : Int32, f = (u3.1 0 0) := ⟨_, rfl⟩
  obtain ⟨mtka_c5, emtka_c5⟩ : ∃ f : Int32, f = (u3.1 1 0) := ⟨_, rfl⟩
  obtain ⟨mtok_c6, emtok_c6⟩ : ∃ f : Int64, f = u3.2.1 := ⟨_, rfl⟩
  obtain ⟨mdig_c7, emdig_c7⟩ : ∃ f : Int32, f = (u3.1 3 0) := ⟨_, rfl⟩
  obtain ⟨mnum_c8, emnum_c8⟩ : ∃ f : Int32, f = (u3.1 4 0) := ⟨_, rfl⟩
  obtain ⟨mfau_c9, emfau_c9⟩ : ∃ f : Int32, f = (u3.1 5 0) := ⟨_, rfl⟩
  obtain ⟨mrea_c10, emrea_c10⟩ : ∃ f : Nat → Int32, f = (u3.1 6) := ⟨_, rfl⟩
  obtain ⟨mrdm_c11, emrdm_c11⟩ : ∃ f : Int32, f = (u3.1 7 0) := ⟨_, rfl⟩
  have hP : va_P (dC, dI) vwCl (wMdL cI cZ cQ b mday mdoo mtel mgai mbyt mtxt mpos_c4 mtka_c5 mtok_c6 mdig_c7 mnum_c8 mfau_c9 mrdm_c11 mrea_c10 mlin mlne mbsm) H := by rw [empos_c4, emtka_c5, emtok_c6, emdig_c7, emnum_c8, emfau_c9, emrea_c10, emrdm_c11]; exact hP
  have hD : va_D A (wMdL cI cZ cQ b mday mdoo mtel mgai mbyt mtxt mpos_c4 mtka_c5 mtok_c6 mdig_c7 mnum_c8 mfau_c9 mrdm_c11 mrea_c10 mlin mlne mbsm) := by rw [empos_c4, emtka_c5, emtok_c6, emdig_c7, emnum_c8, emfau_c9, emrea_c10, emrdm_c11]; exact hD
  have h2 : ((((r1 = 1) ∧ (roM mtxt mbyt.toInt 1 mfau_c9 mrea_c10 mrdm_c11)) ∨ ((r1 = 0) ∧ (roM mtxt mbyt.toInt 0 mfau_c9 mrea_c10 mrdm_c11)))) ∧ (0 ≤ mpos_c4.toInt ∧ mpos_c4.toInt ≤ 160) ∧ (0 ≤ mrdm_c11.toInt ∧ mrdm_c11.toInt ≤ 10) := by (try rw [empos_c4]); (try rw [emtka_c5]); (try rw [emtok_c6]); (try rw [emdig_c7]); (try rw [emnum_c8]); (try rw [emfau_c9]); (try rw [emrea_c10]); (try rw [emrdm_c11]); exact h2
  rcases h2 with ⟨(⟨rfl, h2_a0⟩ | ⟨rfl, h2_a0⟩), h2_0, h2_1⟩
  · refine lv_if_ne (tgt := 10) hx hb dX10_rules_4 (by decide) (fun _ => ?_) (fun c9 => absurd c9 (by decide))
    refine lv_iconst (v := 0) hx hb dX10_rules_10 (by decide) ?_
    refine lv_istore_n (lv' := [(1, .int 0), (0, .ref (b 39))]) hx hb dX10_rules_11 rfl hl (by decide) rfl (fun ls hl => ?_)
    have L12 : ∀ (nn : Nat) (y12_1 : Int32) (mlne_12 : Nat → Int32) (H : Heap) (locs : List Loc) (ls : Array Slot), (0 ≤ (y12_1.toInt)) → ((y12_1.toInt) ≤ 30) → (∀ j : Nat, (j : Int) < (y12_1.toInt) → mlne_12 j = mrea_c10 j) → (30 - (y12_1.toInt)).toNat < nn → va_P (dC, dI) vwCl (wMdL cI cZ cQ b mday mdoo mtel mgai mbyt mtxt mpos_c4 mtka_c5 mtok_c6 mdig_c7 mnum_c8 mfau_c9 mrdm_c11 mrea_c10 mlin mlne_12 mbsm) H → va_D A (wMdL cI cZ cQ b mday mdoo mtel mgai mbyt mtxt mpos_c4 mtka_c5 mtok_c6 mdig_c7 mnum_c8 mfau_c9 mrdm_c11 mrea_c10 mlin mlne_12 mbsm) → va_S A s.heap H locs → lv_has ls 2 [(0, .ref (b 39)), (1, .int y12_1)] → W p l e (headSpec wsX10_rules { frames := 5, cells := 0, slots := 0, locals := 107 }).room s m ([.ref (b 39)] : List Value).toArray below meth c H locs 0 0 (MQ below (va_Qi (fun (r : Int32) (u : US) => (spRulM mtxt mbyt mlne mlin r (u.1 10 0) (u.1 8) (u.1 9 0)) ∧ (0 ≤ (u.1 0 0).toInt ∧ (u.1 0 0).toInt ≤ 160) ∧ (0 ≤ (u.1 7 0).toInt ∧ (u.1 7 0).toInt ≤ 10) ∧ (0 ≤ (u.1 9 0).toInt ∧ (u.1 9 0).toInt ≤ 10) ∧ (0 ≤ (u.1 10 0).toInt ∧ (u.1 10 0).toInt ≤ 160)) (Bw (dC, dI) A (fun u : US => (wMdL cI cZ cQ b mday mdoo mtel mgai (u.1 10 0) mtxt (u.1 0 0) (u.1 1 0) u.2.1 (u.1 3 0) (u.1 4 0) (u.1 5 0) (u.1 7 0) (u.1 6) (u.1 9 0) (u.1 8) mbsm))) A) ([.ref (b 39)] : List Value).toArray s 0 0 A) (F0 m 12 ls []) := by
      intro nn
      induction nn with
      | zero =>
        intro y12_1 mlne_12 H locs ls i12_0 i12_1 i12_2 hm12
        exact absurd hm12 (Nat.not_lt_zero _)
      | succ nn ih12 =>
        intro y12_1 mlne_12 H locs ls i12_0 i12_1 i12_2 hm12 hP hD hS hl
        refine lv_iload_n hx hb dX10_rules_12 rfl (lv_at hl 1 rfl) ?_
        refine lv_bipush (v := 30) hx hb dX10_rules_13 (by decide) ?_
        refine lv_icmp_ge (tgt := 36) hx hb dX10_rules_15 (by decide) (fun c12 => ?_) (fun c12 => ?_)
        · have dc12 : 30 ≤ y12_1.toInt := leC (show (30 : Int32).toInt = 30 from rfl) rfl c12
          refine lv_aload_n hx hb dX10_rules_36 rfl (lv_at hl 0 rfl) ?_
          refine lv_aload_n hx hb dX10_rules_37 rfl (lv_at hl 0 rfl) ?_
          refine va_get (D := (dC, dI)) (ci := 10) (v := .int mrdm_c11) (C := RX10) (T := TX10) (N := 39) hx hb hts inX10 hown hK hP 0 rfl rfl 27 (by decide) lf201 (fun _ h9 => h9) rfl dX10_rules_38 ?_
          refine va_put (D := (dC, dI)) (ci := 10) (v := .int mrdm_c11) (ty := .int) (C := RX10) (T := TX10) (N := 39) hx hb hts inX10 tyX10 tyX10_ok nmX10 hown hK hP hD hS 0 rfl rfl 29 (by decide) lf210 (fun _ h9 => h9) rfl (by decide +kernel) rfl rfl (Nat.le_of_ble_eq_true rfl) dX10_rules_41 (fun H locs hP hD hS => ?_)
          have g13 : 0 ≤ mrdm_c11.toInt ∧ mrdm_c11.toInt ≤ 10 := by rw [show mrdm_c11.toInt = mrdm_c11.toInt from rfl]; exact ⟨by omega, by omega⟩
          have hP : va_P (dC, dI) vwCl (wMdL cI cZ cQ b mday mdoo mtel mgai mbyt mtxt mpos_c4 mtka_c5 mtok_c6 mdig_c7 mnum_c8 mfau_c9 mrdm_c11 mrea_c10 mrdm_c11 mlne_12 mbsm) H := hP
          have hD : va_D A (wMdL cI cZ cQ b mday mdoo mtel mgai mbyt mtxt mpos_c4 mtka_c5 mtok_c6 mdig_c7 mnum_c8 mfau_c9 mrdm_c11 mrea_c10 mrdm_c11 mlne_12 mbsm) := hD
          refine lv_aload_n hx hb dX10_rules_44 rfl (lv_at hl 0 rfl) ?_
          refine lv_iconst (v := 0) hx hb dX10_rules_45 (by decide) ?_
          refine va_put (D := (dC, dI)) (ci := 10) (v := .int 0) (ty := .int) (C := RX10) (T := TX10) (N := 39) hx hb hts inX10 tyX10 tyX10_ok nmX10 hown hK hP hD hS 0 rfl rfl 19 (by decide) lf141 (fun _ h9 => h9) rfl (by decide +kernel) rfl rfl (Nat.le_of_ble_eq_true rfl) dX10_rules_46 (fun H locs hP hD hS => ?_)
          have g14 : 0 ≤ (0 : Int32).toInt ∧ (0 : Int32).toInt ≤ 160 := by rw [show (0 : Int32).toInt = 0 from (show (0 : Int32).toInt = 0 from rfl)]; exact ⟨by omega, by omega⟩
          have hP : va_P (dC, dI) vwCl (wMdL cI cZ cQ b mday mdoo mtel mgai 0 mtxt mpos_c4 mtka_c5 mtok_c6 mdig_c7 mnum_c8 mfau_c9 mrdm_c11 mrea_c10 mrdm_c11 mlne_12 mbsm) H := hP
          have hD : va_D A (wMdL cI cZ cQ b mday mdoo mtel mgai 0 mtxt mpos_c4 mtka_c5 mtok_c6 mdig_c7 mnum_c8 mfau_c9 mrdm_c11 mrea_c10 mrdm_c11 mlne_12 mbsm) := hD
          refine lv_aload_n hx hb dX10_rules_49 rfl (lv_at hl 0 rfl) ?_
          refine va_get (D := (dC, dI)) (ci := 10) (v := .int mrdm_c11) (C := RX10) (T := TX10) (N := 39) hx hb hts inX10 hown hK hP 0 rfl rfl 29 (by decide) lf210 (fun _ h9 => h9) rfl dX10_rules_50 ?_
          exact W.iret (v := mrdm_c11) hx hb hr (fun tq ht hW => ⟨⟨mrdm_c11, (uS [(fun _ => mpos_c4), (fun _ => mtka_c5), (fun _ => 0), (fun _ => mdig_c7), (fun _ => mnum_c8), (fun _ => mfau_c9), mrea_c10, (fun _ => mrdm_c11), mlne_12, (fun _ => mrdm_c11), (fun _ => 0)] mtok_c6 (fun _ => 0)), rfl, ⟨(show spRulM mtxt mbyt mlne mlin mrdm_c11 0 mlne_12 mrdm_c11 from by (first | exact Or.inl ⟨⟨_, _, _, by assumption⟩, rfl, rfl, rfl, rfl⟩ | exact Or.inr ⟨_, _, by assumption, rfl, rfl, fun j hj => i12_2 j (by omega)⟩)), h2_0, h2_1, g13, g14⟩, by rw [ht]; exact hP, hD⟩, hS.F ht⟩) hS.2.2 dX10_rules_53
        · have dc12 : y12_1.toInt < 30 := nleC (show (30 : Int32).toInt = 30 from rfl) rfl c12
          refine lv_aload_n hx hb dX10_rules_18 rfl (lv_at hl 0 rfl) ?_
          refine va_get (D := (dC, dI)) (ci := 10) (v := .ref (b 30)) (C := RX10) (T := TX10) (N := 39) hx hb hts inX10 hown hK hP 0 rfl rfl 30 (by decide) lf68 (fun _ h9 => h9) rfl dX10_rules_19 ?_
          refine lv_iload_n hx hb dX10_rules_22 rfl (lv_at hl 1 rfl) ?_
          refine lv_aload_n hx hb dX10_rules_23 rfl (lv_at hl 0 rfl) ?_
          refine va_get (D := (dC, dI)) (ci := 10) (v := .ref (b 28)) (C := RX10) (T := TX10) (N := 39) hx hb hts inX10 hown hK hP 0 rfl rfl 28 (by decide) lf65 (fun _ h9 => h9) rfl dX10_rules_24 ?_
          refine lv_iload_n hx hb dX10_rules_27 rfl (lv_at hl 1 rfl) ?_
          have b15 : vp_in y12_1 30 := inC rfl (by omega) (by omega)
          refine va_iald hx hb hK hP 2 0 rfl rfl b15 dX10_rules_28 ?_
          refine lv_topi (fun x16 ex16 => ?_)
          have ix16 : x16.toInt = (mrea_c10 y12_1.toNatClampNeg).toInt := by rw [ex16]
          have b17 : vp_in y12_1 30 := inC rfl (by omega) (by omega)
          refine va_iast hx hb hK hP hD hS 3 0 rfl rfl b17 dX10_rules_29 (fun H locs hP hD hS => ?_)
          obtain ⟨mlne_u18, emlne_u18⟩ : ∃ f : Nat → Int32, f = upd mlne_12 y12_1.toNatClampNeg x16 := ⟨_, rfl⟩
          have hP : va_P (dC, dI) vwCl (wMdL cI cZ cQ b mday mdoo mtel mgai mbyt mtxt mpos_c4 mtka_c5 mtok_c6 mdig_c7 mnum_c8 mfau_c9 mrdm_c11 mrea_c10 mlin mlne_u18 mbsm) H := by rw [emlne_u18]; exact hP
          have hD : va_D A (wMdL cI cZ cQ b mday mdoo mtel mgai mbyt mtxt mpos_c4 mtka_c5 mtok_c6 mdig_c7 mnum_c8 mfau_c9 mrdm_c11 mrea_c10 mlin mlne_u18 mbsm) := by rw [emlne_u18]; exact hD
          obtain ⟨z19, ez19⟩ : ∃ y : Int32, y = y12_1 + 1 := ⟨_, rfl⟩
          have iz19 : z19.toInt = y12_1.toInt + 1 := by rw [ez19]; exact addC rfl rfl (by omega) (by omega)
          refine lv_iinc (v := z19) (lv' := [(1, .int z19), (0, .ref (b 39))]) hx hb dX10_rules_30 hl (k := 1) rfl (by rw [ez19]; rfl) (by decide) rfl (fun ls hl => ?_)
          refine lv_goto (tgt := 12) hx hb dX10_rules_33 (by decide) ?_
          exact ih12 z19 mlne_u18 _ _ _ (by omega) (by omega) (by (first | exact cp_step i12_2 (by assumption) (by assumption) (by omega) (by omega) | (intro j hj; omega))) (by omega) hP hD hS (lv_sub hl [1, 0] rfl)
    have kc20 : (0 : Int32).toInt = 0 := rfl
    exact L12 _ 0 mlne _ _ _ (by omega) (by omega) (by (first | (intro j hj; omega) | exact cp_step i12_2 (by assumption) (by assumption) (by omega) (by omega))) (Nat.lt_succ_self _) hP hD hS (lv_sub hl [1, 0] rfl)
  · refine lv_if_ne (tgt := 10) hx hb dX10_rules_4 (by decide) (fun c9 => absurd (by decide) c9) (fun _ => ?_)
    refine lv_bipush (v := (-4)) hx hb dX10_rules_7 (by decide) ?_
    exact W.iret (v := (-4)) hx hb hr (fun tq ht hW => ⟨⟨(-4), (uS [(fun _ => mpos_c4), (fun _ => mtka_c5), (fun _ => 0), (fun _ => mdig_c7), (fun _ => mnum_c8), (fun _ => mfau_c9), mrea_c10, (fun _ => mrdm_c11), mlne, (fun _ => mlin), (fun _ => mbyt)] mtok_c6 (fun _ => 0)), rfl, ⟨(show spRulM mtxt mbyt mlne mlin ((-4) : Int32) mbyt mlne mlin from by (try rw [show ((-4) : Int32).toInt = (-4) from (show ((-4) : Int32).toInt = (-4) from rfl)]); (first | exact Or.inl ⟨⟨_, _, _, by assumption⟩, rfl, rfl, rfl, rfl⟩ | exact Or.inr ⟨_, _, by assumption, rfl, rfl, fun j hj => i12_2 j (by omega)⟩)), h2_0, h2_1, r_mlin, r_mbyt⟩, by rw [ht]; exact hP, hD⟩, hS.F ht⟩) hS.2.2 dX10_rules_9
