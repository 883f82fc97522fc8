set_option maxHeartbeats 4000000 in
set_option maxRecDepth 100000 in
theorem k_X10_speechOf (l : Launch) (dC : Nat → ClassId) (dI : Nat → Nat → Nat) (cI cZ cQ : ClassId) (b : Nat → Nat) (mday : Int32) (mdoo : Int32) (mdA : Nat → Int32) (mdB : Nat → Int32) (mfar : Nat → Int32) (mmar : Nat → Int32) (mtel : Int32) (mgai : Int32) (mfal : Nat → Int32) (mtop : Nat → Int32) (mstr : Nat → Int32) (mgho : Nat → Int32) (mfai : Nat → Int32) (mpto : Nat → Int32) (mwal : Nat → Int32) (mahd : Nat → Int32) (mahf : Nat → Int32) (mcho : Nat → Int32) (mbes : Nat → Int32) (mbyt : Int32) (mtxt : Nat → Int32) (mpos : Int32) (mtka : Int32) (mtok : Int64) (mdig : Int32) (mnum : Int32) (mfau : Int32) (mrdm : Int32) (mrea : Nat → Int32) (mlin : Int32) (mlne : Nat → Int32) (mthg : Nat → Int32) (mord : Nat → Int32) (mbor : Nat → Int32) (mbsm : Int32) (mans : Nat → Int32) (mand : Nat → Int32) (manr : Nat → Int32) (mali : Nat → Int32) (n : Int32) (r_mday : 0 ≤ mday.toInt ∧ mday.toInt ≤ 400) (r_mdoo : 0 ≤ mdoo.toInt ∧ mdoo.toInt ≤ 14) (r_mdA : rg 14 (0) (7) mdA) (r_mdB : rg 14 (0) (7) mdB) (r_mmar : rg 24 (0) (255) mmar) (r_mgai : 0 ≤ mgai.toInt ∧ mgai.toInt ≤ 100) (r_mfal : rg 11 (0) (30) mfal) (r_mtop : rg 48 (-1) (23) mtop) (r_mstr : rg 48 (0) (100) mstr) (r_mgho : rg 48 (-1) (23) mgho) (r_mfai : rg 48 (0) (100) mfai) (r_mahd : rg 240 (0) (100) mahd) (r_mahf : rg 240 (0) (100) mahf) (r_mcho : rg 5 (-1) (9) mcho) (r_mbyt : 0 ≤ mbyt.toInt ∧ mbyt.toInt ≤ 160) (r_mpos : 0 ≤ mpos.toInt ∧ mpos.toInt ≤ 160) (r_mrdm : 0 ≤ mrdm.toInt ∧ mrdm.toInt ≤ 10) (r_mlin : 0 ≤ mlin.toInt ∧ mlin.toInt ≤ 10) (r_mthg : rg 8 (0) (31) mthg) (r_mord : rg 8 (-1) (8) mord) (r_mans : rg 4 (0) (12) mans) (q0 : 1 ≤ n.toInt) (q1 : n.toInt ≤ 8) (q2 : ∀ j : Nat, (j : Int) < n.toInt → (mthg j).toInt ≤ 23) (q3 : ∀ j : Nat, (j : Int) < n.toInt → 0 ≤ (mord j).toInt ∧ (mord j).toInt < n.toInt) : KR l yX10_speechOf wsX10_speechOf { frames := 1, cells := 0, slots := 0, locals := 25 } (dC, dI) (TY cI cZ cQ) (wMod cI cZ cQ b mday mdoo mdA mdB mfar mmar mtel mgai mfal mtop mstr mgho mfai mpto mwal mahd mahf mcho mbes mbyt mtxt mpos mtka mtok mdig mnum mfau mrdm mrea mlin mlne mthg mord mbor mbsm mans mand manr mali) [.ref (b 39), .int n] (fun r : Int32 => True) := by
  refine Met.ofW (cc := cX10_speechOf) (maxL := 4) (ret := (some .int)) (by decide) rfl ?_
  intro p e s m args below meth c s₁ B hml hv
  obtain ⟨rfl, hP, hK, hN⟩ := hv
  have hx := B.exec
  have hb := B.bytes
  have hr := B.returns
  have hts := atoms_spec (ws := wsX10_speechOf) B.pre
  have hown : s.vm.findClass RX10 = some m.cls := findClass_of_methodNamed B.named
  have hlocks := B.notSynchronized
  have lf71 := hts (.fieldLink RX10 71 "PalaceOfRoomsModel" "things" "[I") (by decide +kernel)
  have inX10 : ∀ w ∈ wsX100, w ∈ wsX10_speechOf := by decide +kernel
  have lf74 := hts (.fieldLink RX10 74 "PalaceOfRoomsModel" "order" "[I") (by decide +kernel)
  have hl := lv_entry ([.ref (b 39), .int n]) (n := 4) (Nat.le_of_ble_eq_true rfl)
  rw [lg_entry_eq]
  generalize (lg_sl ([.ref (b 39), .int n]) ++ List.replicate (4 - (lg_sl ([.ref (b 39), .int n])).length) Slot.unset).toArray = ls at hl ⊢
  have hl : lv_has ls 4 [(0, .ref (b 39)), (1, .int n)] := hl
  refine lv_iconst (v := 0) hx hb dX10_speechOf_0 (by decide) ?_
  refine lv_istore_n (lv' := [(2, .int 0), (0, .ref (b 39)), (1, .int n)]) hx hb dX10_speechOf_1 rfl hl (by decide) rfl (fun ls hl => ?_)
  refine lv_iconst (v := 1) hx hb dX10_speechOf_2 (by decide) ?_
  refine lv_istore_n (lv' := [(3, .int 1), (2, .int 0), (0, .ref (b 39)), (1, .int n)]) hx hb dX10_speechOf_3 rfl hl (by decide) rfl (fun ls hl => ?_)
  have L4 : ∀ (nn : Nat) (y4_2 : Int32) (y4_3 : Int32) (ls : Array Slot), (1 ≤ (y4_3.toInt)) → ((y4_3.toInt) ≤ 8) → (8 - (y4_3.toInt)).toNat < nn → lv_has ls 4 [(0, .ref (b 39)), (1, .int n), (2, .int y4_2), (3, .int y4_3)] → W p l e (headSpec wsX10_speechOf { frames := 1, cells := 0, slots := 0, locals := 25 }).room s m ([.ref (b 39), .int n] : List Value).toArray below meth c s.heap [] 0 0 (MQ below (QR (fun r : Int32 => True)) ([.ref (b 39), .int n] : List Value).toArray s 0 0 (fun _ => False)) (F0 m 4 ls []) := by
    intro nn
    induction nn with
    | zero =>
      intro y4_2 y4_3 ls i4_0 i4_1 hm4
      exact absurd hm4 (Nat.not_lt_zero _)
    | succ nn ih4 =>
      intro y4_2 y4_3 ls i4_0 i4_1 hm4 hl
      refine lv_iload_n hx hb dX10_speechOf_4 rfl (lv_at hl 3 rfl) ?_
      refine lv_iload_n hx hb dX10_speechOf_5 rfl (lv_at hl 1 rfl) ?_
      refine lv_icmp_ge (tgt := 46) hx hb dX10_speechOf_6 (by decide) (fun c1 => ?_) (fun c1 => ?_)
      · have dc1 : n.toInt ≤ y4_3.toInt := leC rfl rfl c1
        refine lv_iload_n hx hb dX10_speechOf_46 rfl (lv_at hl 2 rfl) ?_
        exact W.iret (v := y4_2) hx hb hr (fun tq ht hW => ⟨y4_2, rfl, trivial, ht⟩) (fun q h => by cases h) dX10_speechOf_47
      · have dc1 : y4_3.toInt < n.toInt := nleC rfl rfl c1
        refine lv_iload_n hx hb dX10_speechOf_9 rfl (lv_at hl 2 rfl) ?_
        refine lv_aload_n hx hb dX10_speechOf_10 rfl (lv_at hl 0 rfl) ?_
        refine lv_aload_n hx hb dX10_speechOf_11 rfl (lv_at hl 0 rfl) ?_
        refine va_get (D := (dC, dI)) (ci := 10) (v := .ref (b 31)) (C := RX10) (T := TX10) (N := 39) hx hb hts inX10 hown hK hP 0 rfl rfl 31 (by decide) lf71 (fun _ h9 => h9) rfl dX10_speechOf_12 ?_
        refine lv_aload_n hx hb dX10_speechOf_15 rfl (lv_at hl 0 rfl) ?_
        refine va_get (D := (dC, dI)) (ci := 10) (v := .ref (b 32)) (C := RX10) (T := TX10) (N := 39) hx hb hts inX10 hown hK hP 0 rfl rfl 32 (by decide) lf74 (fun _ h9 => h9) rfl dX10_speechOf_16 ?_
        refine lv_iload_n hx hb dX10_speechOf_19 rfl (lv_at hl 3 rfl) ?_
        refine lv_iconst (v := 1) hx hb dX10_speechOf_20 (by decide) ?_
        refine lv_isub hx hb dX10_speechOf_21 ?_
        have f2 : (y4_3 - 1).toInt = (y4_3.toInt) - (1) := subC rfl (show (1 : Int32).toInt = 1 from rfl) (by omega) (by omega)
        have w22 := of_at q3 (y := (y4_3 - 1)) (f2) (by omega) (by omega)
        have b3 : vp_in (y4_3 - 1) 8 := inC f2 (by omega) (by omega)
        refine va_iald hx hb hK hP 20 0 rfl rfl b3 dX10_speechOf_22 ?_
        have g4 : -1 ≤ (mord (y4_3 - 1).toNatClampNeg).toInt ∧ (mord (y4_3 - 1).toNatClampNeg).toInt ≤ 8 := rg_at r_mord b3
        have w23 := th_at q2 (y := (mord (y4_3 - 1).toNatClampNeg)) (rfl) (by omega) (by omega)
        have b5 : vp_in (mord (y4_3 - 1).toNatClampNeg) 8 := inC rfl (by omega) (by omega)
        refine va_iald hx hb hK hP 19 0 rfl rfl b5 dX10_speechOf_23 ?_
        have g6 : 0 ≤ (mthg (mord (y4_3 - 1).toNatClampNeg).toNatClampNeg).toInt ∧ (mthg (mord (y4_3 - 1).toNatClampNeg).toNatClampNeg).toInt ≤ 31 := rg_at r_mthg b5
        refine lv_aload_n hx hb dX10_speechOf_24 rfl (lv_at hl 0 rfl) ?_
        refine va_get (D := (dC, dI)) (ci := 10) (v := .ref (b 31)) (C := RX10) (T := TX10) (N := 39) hx hb hts inX10 hown hK hP 0 rfl rfl 31 (by decide) lf71 (fun _ h9 => h9) rfl dX10_speechOf_25 ?_
        refine lv_aload_n hx hb dX10_speechOf_28 rfl (lv_at hl 0 rfl) ?_
        refine va_get (D := (dC, dI)) (ci := 10) (v := .ref (b 32)) (C := RX10) (T := TX10) (N := 39) hx hb hts inX10 hown hK hP 0 rfl rfl 32 (by decide) lf74 (fun _ h9 => h9) rfl dX10_speechOf_29 ?_
        refine lv_iload_n hx hb dX10_speechOf_32 rfl (lv_at hl 3 rfl) ?_
        have w33 := of_at q3 (y := y4_3) (rfl) (by omega) (by omega)
        have b7 : vp_in y4_3 8 := inC rfl (by omega) (by omega)
        refine va_iald hx hb hK hP 20 0 rfl rfl b7 dX10_speechOf_33 ?_
        have g8 : -1 ≤ (mord y4_3.toNatClampNeg).toInt ∧ (mord y4_3.toNatClampNeg).toInt ≤ 8 := rg_at r_mord b7
        have w34 := th_at q2 (y := (mord y4_3.toNatClampNeg)) (rfl) (by omega) (by omega)
        have b9 : vp_in (mord y4_3.toNatClampNeg) 8 := inC rfl (by omega) (by omega)
        refine va_iald hx hb hK hP 19 0 rfl rfl b9 dX10_speechOf_34 ?_
        have g10 : 0 ≤ (mthg (mord y4_3.toNatClampNeg).toNatClampNeg).toInt ∧ (mthg (mord y4_3.toNatClampNeg).toNatClampNeg).toInt ≤ 31 := rg_at r_mthg b9
        refine rdV (As := [.int (mthg (mord (y4_3 - 1).toNatClampNeg).toNatClampNeg), .int (mthg (mord y4_3.toNatClampNeg).toNatClampNeg)]) (rest := [.int y4_2]) ⟨hx, hb, hml, hown, hts⟩ (k_X10_likeness l dC dI cI cZ cQ b mday mdoo mdA mdB mfar mmar mtel mgai mfal mtop mstr mgho mfai mpto mwal mahd mahf mcho mbes mbyt mtxt mpos mtka mtok mdig mnum mfau mrdm mrea mlin mlne mthg mord mbor mbsm mans mand manr mali (mthg (mord (y4_3 - 1).toNatClampNeg).toNatClampNeg) (mthg (mord y4_3.toNatClampNeg).toNatClampNeg) r_mday r_mdoo r_mdA r_mdB r_mmar r_mgai r_mfal r_mtop r_mstr r_mgho r_mfai r_mahd r_mahf r_mcho r_mbyt r_mpos r_mrdm r_mlin r_mthg r_mord r_mans (by omega) (by omega) (by omega) (by omega)) (cwV 2 hts gX10_speechOf_X10_likeness rfl rfl rfl (by decide +kernel) ⟨Nat.le_of_ble_eq_true rfl, Nat.le_of_ble_eq_true rfl⟩) hP hK hN [0, 1, 2, 3, 4, 5, 6, 7, 8, 9, 10, 11, 12, 13, 14, 15, 16, 17, 18, 19, 20, 21, 22, 23, 24, 25] rfl 0 10 rfl rfl rfl hl.1 rfl (Nat.le_of_ble_eq_true rfl) dX10_speechOf_35 ⟨Nat.le_of_ble_eq_true rfl, Nat.le_of_ble_eq_true rfl⟩ (fun r11 h12 => ?_)
        have h12 : (r11 = bc (mmar (mthg (mord (y4_3 - 1).toNatClampNeg).toNatClampNeg).toNatClampNeg &&& mmar (mthg (mord y4_3.toNatClampNeg).toNatClampNeg).toNatClampNeg)) := h12
        have h12_0 := h12
        refine lv_iadd hx hb dX10_speechOf_38 ?_
        refine lv_topi (fun x13 ex13 => ?_)
        have ix13 : x13.toInt = (y4_2 + r11).toInt := by rw [ex13]
        refine lv_istore_n (lv' := [(2, .int x13), (0, .ref (b 39)), (1, .int n), (3, .int y4_3)]) hx hb dX10_speechOf_39 rfl hl (by decide) rfl (fun ls hl => ?_)
        obtain ⟨z14, ez14⟩ : ∃ y : Int32, y = y4_3 + 1 := ⟨_, rfl⟩
        have iz14 : z14.toInt = y4_3.toInt + 1 := by rw [ez14]; exact addC rfl rfl (by omega) (by omega)
        refine lv_iinc (v := z14) (lv' := [(3, .int z14), (2, .int x13), (0, .ref (b 39)), (1, .int n)]) hx hb dX10_speechOf_40 hl (k := 3) rfl (by rw [ez14]; rfl) (by decide) rfl (fun ls hl => ?_)
        refine lv_goto (tgt := 4) hx hb dX10_speechOf_43 (by decide) ?_
        exact ih4 x13 z14 _ (by omega) (by omega) (by omega) (lv_sub hl [2, 3, 1, 0] rfl)
  have kc15 : (0 : Int32).toInt = 0 := rfl
  have kc16 : (1 : Int32).toInt = 1 := rfl
  exact L4 _ 0 1 _ (by omega) (by omega) (Nat.lt_succ_self _) (lv_sub hl [2, 3, 1, 0] rfl)
set_option maxHeartbeats 4000000 in
set_option maxRecDepth 100000 in
theorem k_X10_harmOf (l : Launch) (dC : Nat → ClassId) (dI : Nat → Nat → Nat) (cI cZ cQ : ClassId) (b : Nat → Nat) (mday : Int32) (mdoo : Int32) (mdA : Nat → Int32) (mdB : Nat → Int32) (mfar : Nat → Int32) (mmar : Nat → Int32) (mtel : Int32) (mgai : Int32) (mfal : Nat → Int32) (mtop : Nat → Int32) (mstr : Nat → Int32) (mgho : Nat → Int32) (mfai : Nat → Int32) (mpto : Nat → Int32) (mwal : Nat → Int32) (mahd : Nat → Int32) (mahf : Nat → Int32) (mcho : Nat → Int32) (mbes : Nat → Int32) (mbyt : Int32) (mtxt : Nat → Int32) (mpos : Int32) (mtka : Int32) (mtok : Int64) (mdig : Int32) (mnum : Int32) (mfau : Int32) (mrdm : Int32) (mrea : Nat → Int32) (mlin : Int32) (mlne : Nat → Int32) (mthg : Nat → Int32) (mord : Nat → Int32) (mbor : Nat → Int32) (mbsm : Int32) (mans : Nat → Int32) (mand : Nat → Int32) (manr : Nat → Int32) (mali : Nat → Int32) (n : Int32) (r_mday : 0 ≤ mday.toInt ∧ mday.toInt ≤ 400) (r_mdoo : 0 ≤ mdoo.toInt ∧ mdoo.toInt ≤ 14) (r_mdA : rg 14 (0) (7) mdA) (r_mdB : rg 14 (0) (7) mdB) (r_mmar : rg 24 (0) (255) mmar) (r_mgai : 0 ≤ mgai.toInt ∧ mgai.toInt ≤ 100) (r_mfal : rg 11 (0) (30) mfal) (r_mtop : rg 48 (-1) (23) mtop) (r_mstr : rg 48 (0) (100) mstr) (r_mgho : rg 48 (-1) (23) mgho) (r_mfai : rg 48 (0) (100) mfai) (r_mahd : rg 240 (0) (100) mahd) (r_mahf : rg 240 (0) (100) mahf) (r_mcho : rg 5 (-1) (9) mcho) (r_mbyt : 0 ≤ mbyt.toInt ∧ mbyt.toInt ≤ 160) (r_mpos : 0 ≤ mpos.toInt ∧ mpos.toInt ≤ 160) (r_mrdm : 0 ≤ mrdm.toInt ∧ mrdm.toInt ≤ 10) (r_mlin : 0 ≤ mlin.toInt ∧ mlin.toInt ≤ 10) (r_mthg : rg 8 (0) (31) mthg) (r_mord : rg 8 (-1) (8) mord) (r_mans : rg 4 (0) (12) mans) (q0 : 1 ≤ n.toInt) (q1 : n.toInt ≤ 8) (q2 : ∀ j : Nat, (j : Int) < n.toInt → (mthg j).toInt ≤ 23) (q3 : ∀ j : Nat, (j : Int) < n.toInt → 0 ≤ (mord j).toInt ∧ (mord j).toInt < n.toInt) : KR l yX10_harmOf wsX10_harmOf { frames := 1, cells := 0, slots := 0, locals := 25 } (dC, dI) (TY cI cZ cQ) (wMod cI cZ cQ b mday mdoo mdA mdB mfar mmar mtel mgai mfal mtop mstr mgho mfai mpto mwal mahd mahf mcho mbes mbyt mtxt mpos mtka mtok mdig mnum mfau mrdm mrea mlin mlne mthg mord mbor mbsm mans mand manr mali) [.ref (b 39), .int n] (fun r : Int32 => True) := by
  refine Met.ofW (cc := cX10_harmOf) (maxL := 5) (ret := (some .int)) (by decide) rfl ?_
  intro p e s m args below meth c s₁ B hml hv
  obtain ⟨rfl, hP, hK, hN⟩ := hv
  have hx := B.exec
  have hb := B.bytes
  have hr := B.returns
  have hts := atoms_spec (ws := wsX10_harmOf) B.pre
  have hown : s.vm.findClass RX10 = some m.cls := findClass_of_methodNamed B.named
  have hlocks := B.notSynchronized
  have lf71 := hts (.fieldLink RX10 71 "PalaceOfRoomsModel" "things" "[I") (by decide +kernel)
  have inX10 : ∀ w ∈ wsX100, w ∈ wsX10_harmOf := by decide +kernel
  have lf74 := hts (.fieldLink RX10 74 "PalaceOfRoomsModel" "order" "[I") (by decide +kernel)
  have lf90 := hts (.fieldLink RX10 90 "PalaceOfRoomsModel" "alike" "[I") (by decide +kernel)
  have hl := lv_entry ([.ref (b 39), .int n]) (n := 5) (Nat.le_of_ble_eq_true rfl)
  rw [lg_entry_eq]
  generalize (lg_sl ([.ref (b 39), .int n]) ++ List.replicate (5 - (lg_sl ([.ref (b 39), .int n])).length) Slot.unset).toArray = ls at hl ⊢
  have hl : lv_has ls 5 [(0, .ref (b 39)), (1, .int n)] := hl
  refine lv_iconst (v := 0) hx hb dX10_harmOf_0 (by decide) ?_
  refine lv_istore_n (lv' := [(2, .int 0), (0, .ref (b 39)), (1, .int n)]) hx hb dX10_harmOf_1 rfl hl (by decide) rfl (fun ls hl => ?_)
  refine lv_iconst (v := 0) hx hb dX10_harmOf_2 (by decide) ?_
  refine lv_istore_n (lv' := [(3, .int 0), (2, .int 0), (0, .ref (b 39)), (1, .int n)]) hx hb dX10_harmOf_3 rfl hl (by decide) rfl (fun ls hl => ?_)
  have L4 : ∀ (nn : Nat) (y4_2 : Int32) (y4_3 : Int32) (ls : Array Slot), (0 ≤ (y4_3.toInt)) → ((y4_3.toInt) ≤ 8) → (8 - (y4_3.toInt)).toNat < nn → lv_has ls 5 [(0, .ref (b 39)), (1, .int n), (2, .int y4_2), (3, .int y4_3)] → W p l e (headSpec wsX10_harmOf { frames := 1, cells := 0, slots := 0, locals := 25 }).room s m ([.ref (b 39), .int n] : List Value).toArray below meth c s.heap [] 0 0 (MQ below (QR (fun r : Int32 => True)) ([.ref (b 39), .int n] : List Value).toArray s 0 0 (fun _ => False)) (F0 m 4 ls []) := by
    intro nn
    induction nn with
    | zero =>
      intro y4_2 y4_3 ls i4_0 i4_1 hm4
      exact absurd hm4 (Nat.not_lt_zero _)
    | succ nn ih4 =>
      intro y4_2 y4_3 ls i4_0 i4_1 hm4 hl
      refine lv_iload_n hx hb dX10_harmOf_4 rfl (lv_at hl 3 rfl) ?_
      refine lv_iload_n hx hb dX10_harmOf_5 rfl (lv_at hl 1 rfl) ?_
      refine lv_icmp_ge (tgt := 73) hx hb dX10_harmOf_6 (by decide) (fun c1 => ?_) (fun c1 => ?_)
      · have dc1 : n.toInt ≤ y4_3.toInt := leC rfl rfl c1
        refine lv_iload_n hx hb dX10_harmOf_73 rfl (lv_at hl 2 rfl) ?_
        exact W.iret (v := y4_2) hx hb hr (fun tq ht hW => ⟨y4_2, rfl, trivial, ht⟩) (fun q h => by cases h) dX10_harmOf_74
      · have dc1 : y4_3.toInt < n.toInt := nleC rfl rfl c1
        refine lv_iconst (v := 0) hx hb dX10_harmOf_9 (by decide) ?_
        refine lv_istore (lv' := [(4, .int 0), (0, .ref (b 39)), (1, .int n), (2, .int y4_2), (3, .int y4_3)]) hx hb dX10_harmOf_10 hl (by decide) rfl (fun ls hl => ?_)
        have L12 : ∀ (nn : Nat) (y12_2 : Int32) (y12_4 : Int32) (ls : Array Slot), (0 ≤ (y12_4.toInt)) → ((y12_4.toInt) ≤ 7) → (7 - (y12_4.toInt)).toNat < nn → lv_has ls 5 [(0, .ref (b 39)), (1, .int n), (2, .int y12_2), (3, .int y4_3), (4, .int y12_4)] → W p l e (headSpec wsX10_harmOf { frames := 1, cells := 0, slots := 0, locals := 25 }).room s m ([.ref (b 39), .int n] : List Value).toArray below meth c s.heap [] 0 0 (MQ below (QR (fun r : Int32 => True)) ([.ref (b 39), .int n] : List Value).toArray s 0 0 (fun _ => False)) (F0 m 12 ls []) := by
          intro nn
          induction nn with
          | zero =>
            intro y12_2 y12_4 ls i12_0 i12_1 hm12
            exact absurd hm12 (Nat.not_lt_zero _)
          | succ nn ih12 =>
            intro y12_2 y12_4 ls i12_0 i12_1 hm12 hl
            refine lv_iload hx hb dX10_harmOf_12 (lv_at hl 4 rfl) ?_
            refine lv_iload_n hx hb dX10_harmOf_14 rfl (lv_at hl 3 rfl) ?_
            refine lv_icmp_ge (tgt := 67) hx hb dX10_harmOf_15 (by decide) (fun c2 => ?_) (fun c2 => ?_)
            · have dc2 : y4_3.toInt ≤ y12_4.toInt := leC rfl rfl c2
              obtain ⟨z3, ez3⟩ : ∃ y : Int32, y = y4_3 + 1 := ⟨_, rfl⟩
              have iz3 : z3.toInt = y4_3.toInt + 1 := by rw [ez3]; exact addC rfl rfl (by omega) (by omega)
              refine lv_iinc (v := z3) (lv' := [(3, .int z3), (0, .ref (b 39)), (1, .int n), (2, .int y12_2), (4, .int y12_4)]) hx hb dX10_harmOf_67 hl (k := 3) rfl (by rw [ez3]; rfl) (by decide) rfl (fun ls hl => ?_)
              refine lv_goto (tgt := 4) hx hb dX10_harmOf_70 (by decide) ?_
              exact ih4 y12_2 z3 _ (by omega) (by omega) (by omega) (lv_sub hl [1, 2, 3, 0] rfl)
            · have dc2 : y12_4.toInt < y4_3.toInt := nleC rfl rfl c2
              refine lv_iload_n hx hb dX10_harmOf_18 rfl (lv_at hl 2 rfl) ?_
              refine lv_aload_n hx hb dX10_harmOf_19 rfl (lv_at hl 0 rfl) ?_
              refine lv_aload_n hx hb dX10_harmOf_20 rfl (lv_at hl 0 rfl) ?_
              refine va_get (D := (dC, dI)) (ci := 10) (v := .ref (b 31)) (C := RX10) (T := TX10) (N := 39) hx hb hts inX10 hown hK hP 0 rfl rfl 31 (by decide) lf71 (fun _ h9 => h9) rfl dX10_harmOf_21 ?_
              refine lv_aload_n hx hb dX10_harmOf_24 rfl (lv_at hl 0 rfl) ?_
              refine va_get (D := (dC, dI)) (ci := 10) (v := .ref (b 32)) (C := RX10) (T := TX10) (N := 39) hx hb hts inX10 hown hK hP 0 rfl rfl 32 (by decide) lf74 (fun _ h9 => h9) rfl dX10_harmOf_25 ?_
              refine lv_iload_n hx hb dX10_harmOf_28 rfl (lv_at hl 3 rfl) ?_
              have w29 := of_at q3 (y := y4_3) (rfl) (by omega) (by omega)
              have b4 : vp_in y4_3 8 := inC rfl (by omega) (by omega)
              refine va_iald hx hb hK hP 20 0 rfl rfl b4 dX10_harmOf_29 ?_
              have g5 : -1 ≤ (mord y4_3.toNatClampNeg).toInt ∧ (mord y4_3.toNatClampNeg).toInt ≤ 8 := rg_at r_mord b4
              have w30 := th_at q2 (y := (mord y4_3.toNatClampNeg)) (rfl) (by omega) (by omega)
              have b6 : vp_in (mord y4_3.toNatClampNeg) 8 := inC rfl (by omega) (by omega)
              refine va_iald hx hb hK hP 19 0 rfl rfl b6 dX10_harmOf_30 ?_
              have g7 : 0 ≤ (mthg (mord y4_3.toNatClampNeg).toNatClampNeg).toInt ∧ (mthg (mord y4_3.toNatClampNeg).toNatClampNeg).toInt ≤ 31 := rg_at r_mthg b6
              refine lv_aload_n hx hb dX10_harmOf_31 rfl (lv_at hl 0 rfl) ?_
              refine va_get (D := (dC, dI)) (ci := 10) (v := .ref (b 31)) (C := RX10) (T := TX10) (N := 39) hx hb hts inX10 hown hK hP 0 rfl rfl 31 (by decide) lf71 (fun _ h9 => h9) rfl dX10_harmOf_32 ?_
              refine lv_aload_n hx hb dX10_harmOf_35 rfl (lv_at hl 0 rfl) ?_
              refine va_get (D := (dC, dI)) (ci := 10) (v := .ref (b 32)) (C := RX10) (T := TX10) (N := 39) hx hb hts inX10 hown hK hP 0 rfl rfl 32 (by decide) lf74 (fun _ h9 => h9) rfl dX10_harmOf_36 ?_
              refine lv_iload hx hb dX10_harmOf_39 (lv_at hl 4 rfl) ?_
              have w41 := of_at q3 (y := y12_4) (rfl) (by omega) (by omega)
              have b8 : vp_in y12_4 8 := inC rfl (by omega) (by omega)
              refine va_iald hx hb hK hP 20 0 rfl rfl b8 dX10_harmOf_41 ?_
              have g9 : -1 ≤ (mord y12_4.toNatClampNeg).toInt ∧ (mord y12_4.toNatClampNeg).toInt ≤ 8 := rg_at r_mord b8
              have w42 := th_at q2 (y := (mord y12_4.toNatClampNeg)) (rfl) (by omega) (by omega)
              have b10 : vp_in (mord y12_4.toNatClampNeg) 8 := inC rfl (by omega) (by omega)
              refine va_iald hx hb hK hP 19 0 rfl rfl b10 dX10_harmOf_42 ?_
              have g11 : 0 ≤ (mthg (mord y12_4.toNatClampNeg).toNatClampNeg).toInt ∧ (mthg (mord y12_4.toNatClampNeg).toNatClampNeg).toInt ≤ 31 := rg_at r_mthg b10
              refine rdV (As := [.int (mthg (mord y4_3.toNatClampNeg).toNatClampNeg), .int (mthg (mord y12_4.toNatClampNeg).toNatClampNeg)]) (rest := [.int y12_2]) ⟨hx, hb, hml, hown, hts⟩ (k_X10_likeness l dC dI cI cZ cQ b mday mdoo mdA mdB mfar mmar mtel mgai mfal mtop mstr mgho mfai mpto mwal mahd mahf mcho mbes mbyt mtxt mpos mtka mtok mdig mnum mfau mrdm mrea mlin mlne mthg mord mbor mbsm mans mand manr mali (mthg (mord y4_3.toNatClampNeg).toNatClampNeg) (mthg (mord y12_4.toNatClampNeg).toNatClampNeg) r_mday r_mdoo r_mdA r_mdB r_mmar r_mgai r_mfal r_mtop r_mstr r_mgho r_mfai r_mahd r_mahf r_mcho r_mbyt r_mpos r_mrdm r_mlin r_mthg r_mord r_mans (by omega) (by omega) (by omega) (by omega)) (cwV 2 hts gX10_harmOf_X10_likeness rfl rfl rfl (by decide +kernel) ⟨Nat.le_of_ble_eq_true rfl, Nat.le_of_ble_eq_true rfl⟩) hP hK hN [0, 1, 2, 3, 4, 5, 6, 7, 8, 9, 10, 11, 12, 13, 14, 15, 16, 17, 18, 19, 20, 21, 22, 23, 24, 25] rfl 0 10 rfl rfl rfl hl.1 rfl (Nat.le_of_ble_eq_true rfl) dX10_harmOf_43 ⟨Nat.le_of_ble_eq_true rfl, Nat.le_of_ble_eq_true rfl⟩ (fun r12 h13 => ?_)
              have h13 : (r12 = bc (mmar (mthg (mord y4_3.toNatClampNeg).toNatClampNeg).toNatClampNeg &&& mmar (mthg (mord y12_4.toNatClampNeg).toNatClampNeg).toNatClampNeg)) := h13
              have h13_0 := h13
              refine lv_aload_n hx hb dX10_harmOf_46 rfl (lv_at hl 0 rfl) ?_
              refine va_get (D := (dC, dI)) (ci := 10) (v := .ref (b 38)) (C := RX10) (T := TX10) (N := 39) hx hb hts inX10 hown hK hP 0 rfl rfl 38 (by decide) lf90 (fun _ h9 => h9) rfl dX10_harmOf_47 ?_
              refine lv_bipush (v := 10) hx hb dX10_harmOf_50 (by decide) ?_
              refine lv_iload_n hx hb dX10_harmOf_52 rfl (lv_at hl 3 rfl) ?_
              refine lv_imul hx hb dX10_harmOf_53 ?_
              have f14 : (10 * y4_3).toInt = (10) * (y4_3.toInt) := mulC (show (10 : Int32).toInt = 10 from rfl) rfl (by omega) (by omega)
              refine lv_iload hx hb dX10_harmOf_54 (lv_at hl 4 rfl) ?_
              refine lv_iadd hx hb dX10_harmOf_56 ?_
              have f15 : ((10 * y4_3) + y12_4).toInt = ((10) * (y4_3.toInt)) + (y12_4.toInt) := addC f14 rfl (by omega) (by omega)
              have b16 : vp_in ((10 * y4_3) + y12_4) 100 := inC f15 (by omega) (by omega)
              refine va_iald hx hb hK hP 25 0 rfl rfl b16 dX10_harmOf_57 ?_
              refine lv_imul hx hb dX10_harmOf_58 ?_
              refine lv_iadd hx hb dX10_harmOf_59 ?_
              refine lv_topi (fun x17 ex17 => ?_)
              have ix17 : x17.toInt = (y12_2 + (r12 * (mali ((10 * y4_3) + y12_4).toNatClampNeg))).toInt := by rw [ex17]
              refine lv_istore_n (lv' := [(2, .int x17), (0, .ref (b 39)), (1, .int n), (3, .int y4_3), (4, .int y12_4)]) hx hb dX10_harmOf_60 rfl hl (by decide) rfl (fun ls hl => ?_)
              obtain ⟨z18, ez18⟩ : ∃ y : Int32, y = y12_4 + 1 := ⟨_, rfl⟩
              have iz18 : z18.toInt = y12_4.toInt + 1 := by rw [ez18]; exact addC rfl rfl (by omega) (by omega)
              refine lv_iinc (v := z18) (lv' := [(4, .int z18), (2, .int x17), (0, .ref (b 39)), (1, .int n), (3, .int y4_3)]) hx hb dX10_harmOf_61 hl (k := 4) rfl (by rw [ez18]; rfl) (by decide) rfl (fun ls hl => ?_)
              refine lv_goto (tgt := 12) hx hb dX10_harmOf_64 (by decide) ?_
              exact ih12 x17 z18 _ (by omega) (by omega) (by omega) (lv_sub hl [2, 3, 1, 4, 0] rfl)
        have kc19 : (0 : Int32).toInt = 0 := rfl
        exact L12 _ y4_2 0 _ (by omega) (by omega) (Nat.lt_succ_self _) (lv_sub hl [1, 2, 3, 4, 0] rfl)
  have kc20 : (0 : Int32).toInt = 0 := rfl
  exact L4 _ 0 0 _ (by omega) (by omega) (Nat.lt_succ_self _) (lv_sub hl [2, 3, 1, 0] rfl)
