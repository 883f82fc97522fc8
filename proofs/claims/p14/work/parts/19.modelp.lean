set_option maxHeartbeats 4000000 in
set_option maxRecDepth 100000 in
theorem k_X10_plan (l : Launch) (dC : Nat → ClassId) (dI : Nat → Nat → Nat) (cI cZ cQ : ClassId) (b : Nat → Nat) (mday : Int32) (mdoo : Int32) (mdA : Nat → Int32) (mdB : Nat → Int32) (mfar : Nat → Int32) (mmar : Nat → Int32) (mtel : Int32) (mgai : Int32) (mfal : Nat → Int32) (mtop : Nat → Int32) (mstr : Nat → Int32) (mgho : Nat → Int32) (mfai : Nat → Int32) (mpto : Nat → Int32) (mwal : Nat → Int32) (mahd : Nat → Int32) (mahf : Nat → Int32) (mcho : Nat → Int32) (mbes : Nat → Int32) (mbyt : Int32) (mtxt : Nat → Int32) (mpos : Int32) (mtka : Int32) (mtok : Int64) (mdig : Int32) (mnum : Int32) (mfau : Int32) (mrdm : Int32) (mrea : Nat → Int32) (mlin : Int32) (mlne : Nat → Int32) (mthg : Nat → Int32) (mord : Nat → Int32) (mbor : Nat → Int32) (mbsm : Int32) (mans : Nat → Int32) (mand : Nat → Int32) (manr : Nat → Int32) (mali : Nat → Int32) (sz : Nat) (n : Int32) (mi : Int32) (wh : Int32) (r_mday : 0 ≤ mday.toInt ∧ mday.toInt ≤ 400) (r_mdoo : 0 ≤ mdoo.toInt ∧ mdoo.toInt ≤ 14) (r_mdA : rg 14 (0) (7) mdA) (r_mdB : rg 14 (0) (7) mdB) (r_mmar : rg 24 (0) (255) mmar) (r_mgai : 0 ≤ mgai.toInt ∧ mgai.toInt ≤ 100) (r_mfal : rg 11 (0) (30) mfal) (r_mtop : rg 48 (-1) (23) mtop) (r_mstr : rg 48 (0) (100) mstr) (r_mgho : rg 48 (-1) (23) mgho) (r_mfai : rg 48 (0) (100) mfai) (r_mahd : rg 240 (0) (100) mahd) (r_mahf : rg 240 (0) (100) mahf) (r_mcho : rg 5 (-1) (9) mcho) (r_mbyt : 0 ≤ mbyt.toInt ∧ mbyt.toInt ≤ 160) (r_mpos : 0 ≤ mpos.toInt ∧ mpos.toInt ≤ 160) (r_mrdm : 0 ≤ mrdm.toInt ∧ mrdm.toInt ≤ 10) (r_mlin : 0 ≤ mlin.toInt ∧ mlin.toInt ≤ 10) (r_mthg : rg 8 (0) (31) mthg) (r_mord : rg 8 (-1) (8) mord) (r_mans : rg 4 (0) (12) mans) : KW l yX10_plan wsX10_plan { frames := 4, cells := 0, slots := 0, locals := 97 } (dC, dI) (TY cI cZ cQ) (wMod cI cZ cQ b mday mdoo mdA mdB mfar mmar mtel mgai mfal mtop mstr mgho mfai mpto mwal mahd mahf mcho mbes mbyt mtxt mpos mtka mtok mdig mnum mfau mrdm mrea mlin mlne mthg mord mbor mbsm mans mand manr mali) [.ref (b 39), .int n, .int mi, .int wh] sz 0 0 (fun (r : Int32) (u : US) => (rg 240 (0) (100) (u.1 0)) ∧ (rg 240 (0) (100) (u.1 1)) ∧ (rg 5 (-1) (9) (u.1 3))) (fun u : US => (wMod cI cZ cQ b mday mdoo mdA mdB (u.1 2) mmar mtel mgai mfal mtop mstr mgho mfai mpto mwal (u.1 0) (u.1 1) (u.1 3) (u.1 4) mbyt mtxt mpos mtka mtok mdig mnum mfau mrdm mrea mlin mlne mthg mord mbor mbsm mans mand manr mali)) := by
  refine Met.ofW (cc := cX10_plan) (maxL := 8) (ret := (some .int)) (by decide) rfl ?_
  intro p e s m args below meth c s₁ B hml hv
  obtain ⟨rfl, hsz, hP, hK, hD0, hN⟩ := hv
  have hx := B.exec
  have hb := B.bytes
  have hr := B.returns
  have hts := atoms_spec (ws := wsX10_plan) B.pre
  have hown : s.vm.findClass RX10 = some m.cls := findClass_of_methodNamed B.named
  have hlocks := B.notSynchronized
  have lf56 := hts (.fieldLink RX10 56 "PalaceOfRoomsModel" "chosen" "[I") (by decide +kernel)
  have inX10 : ∀ w ∈ wsX100, w ∈ wsX10_plan := fun w h => List.mem_cons_of_mem _ (List.mem_append_right _ h)
  have lf59 := hts (.fieldLink RX10 59 "PalaceOfRoomsModel" "best" "[I") (by decide +kernel)
  subst hsz
  have hD := hD0.self (sz := s.heap.size)
  generalize hAe : va_A (wMod cI cZ cQ b mday mdoo mdA mdB mfar mmar mtel mgai mfal mtop mstr mgho mfai mpto mwal mahd mahf mcho mbes mbyt mtxt mpos mtka mtok mdig mnum mfau mrdm mrea mlin mlne mthg mord mbor mbsm mans mand manr mali) s.heap.size = A at hD ⊢
  have hA : ∀ q : Nat, s.heap.size ≤ q → A q := fun q h => by rw [← hAe]; exact Or.inr h
  have hS : va_S A s.heap s.heap [] := va_S.rf
  have hl := lv_entry ([.ref (b 39), .int n, .int mi, .int wh]) (n := 8) (Nat.le_of_ble_eq_true rfl)
  rw [lg_entry_eq]
  generalize (lg_sl ([.ref (b 39), .int n, .int mi, .int wh]) ++ List.replicate (8 - (lg_sl ([.ref (b 39), .int n, .int mi, .int wh])).length) Slot.unset).toArray = ls at hl ⊢
  have hl : lv_has ls 8 [(0, .ref (b 39)), (1, .int n), (2, .int mi), (3, .int wh)] := hl
  refine lv_iload_n hx hb dX10_plan_0 rfl (lv_at hl 1 rfl) ?_
  refine lv_iload_n hx hb dX10_plan_1 rfl (lv_at hl 2 rfl) ?_
  refine rdS (As := [.int n, .int mi]) (rest := []) ⟨hx, hb, hml, hown, hts⟩ (k_X10_areMinutes l dC dI cI cZ cQ n mi) (va_cwS 2 hts gX10_plan_X10_areMinutes rfl rfl rfl (by decide +kernel) ⟨Nat.le_of_ble_eq_true rfl, Nat.le_of_ble_eq_true rfl⟩) hP hK hN [] rfl rfl hl.1 rfl (Nat.le_of_ble_eq_true rfl) dX10_plan_2 ⟨Nat.le_of_ble_eq_true rfl, Nat.le_of_ble_eq_true rfl⟩ (fun r1 h2 => ?_)
  have h2 : ((((r1 = 1) ∧ (1 ≤ n.toInt) ∧ (n.toInt ≤ 4)) ∨ ((r1 = 0)))) := h2
  rcases h2 with (⟨rfl, h2_a0, h2_a1⟩ | rfl)
  · refine lv_if_eq (tgt := 19) hx hb dX10_plan_5 (by decide) (fun c9 => absurd c9 (by decide)) (fun _ => ?_)
    refine lv_iload_n hx hb dX10_plan_8 rfl (lv_at hl 3 rfl) ?_
    refine lv_iconst (v := (-1)) hx hb dX10_plan_9 (by decide) ?_
    refine lv_iload_n hx hb dX10_plan_10 rfl (lv_at hl 1 rfl) ?_
    refine lv_iconst (v := 1) hx hb dX10_plan_11 (by decide) ?_
    refine lv_isub hx hb dX10_plan_12 ?_
    have f3 : (n - 1).toInt = (n.toInt) - (1) := subC rfl (show (1 : Int32).toInt = 1 from rfl) (by omega) (by omega)
    refine rdS (As := [.int wh, .int (-1), .int (n - 1)]) (rest := []) ⟨hx, hb, hml, hown, hts⟩ (k_X10_in l dC dI cI cZ cQ wh ((-1) : Int32) (n - 1)) (va_cwS 3 hts gX10_plan_X10_in rfl rfl rfl (by decide +kernel) ⟨Nat.le_of_ble_eq_true rfl, Nat.le_of_ble_eq_true rfl⟩) hP hK hN [] rfl rfl hl.1 rfl (Nat.le_of_ble_eq_true rfl) dX10_plan_13 ⟨Nat.le_of_ble_eq_true rfl, Nat.le_of_ble_eq_true rfl⟩ (fun r4 h5 => ?_)
    have h5 : ((((r4 = 1) ∧ ((-1) ≤ wh.toInt) ∧ (wh.toInt ≤ (n - 1).toInt)) ∨ ((r4 = 0) ∧ (wh.toInt < (-1) ∨ (n - 1).toInt < wh.toInt)))) := h5
    rcases h5 with (⟨rfl, h5_a0, h5_a1⟩ | ⟨rfl, h5_a0⟩)
    · refine lv_if_ne (tgt := 22) hx hb dX10_plan_16 (by decide) (fun _ => ?_) (fun c9 => absurd c9 (by decide))
      refine lv_aload_n hx hb dX10_plan_22 rfl (lv_at hl 0 rfl) ?_
      refine wvV (As := []) (rest := []) (wr := []) (w2 := (fun u : US => (wMod cI cZ cQ b mday mdoo mdA mdB mfar mmar mtel mgai mfal mtop mstr mgho mfai mpto mwal (u.1 0) (u.1 1) mcho mbes mbyt mtxt mpos mtka mtok mdig mnum mfau mrdm mrea mlin mlne mthg mord mbor mbsm mans mand manr mali))) ⟨hx, hb, hml, hown, hts⟩ (k_X10_lookAhead l dC dI cI cZ cQ b mday mdoo mdA mdB mfar mmar mtel mgai mfal mtop mstr mgho mfai mpto mwal mahd mahf mcho mbes mbyt mtxt mpos mtka mtok mdig mnum mfau mrdm mrea mlin mlne mthg mord mbor mbsm mans mand manr mali _ r_mday r_mdoo r_mdA r_mdB r_mmar r_mgai r_mfal r_mtop r_mstr r_mgho r_mfai r_mahd r_mahf r_mcho r_mbyt r_mpos r_mrdm r_mlin r_mthg r_mord r_mans) (cwV 0 hts gX10_plan_X10_lookAhead rfl rfl rfl (by decide +kernel) ⟨Nat.le_of_ble_eq_true rfl, Nat.le_of_ble_eq_true rfl⟩) hP hD hS hA hK hN [0, 1, 2, 3, 4, 5, 6, 7, 8, 9, 10, 11, 12, 13, 14, 15, 16, 17, 18, 19, 20, 21, 22, 23, 24, 25] [] [0, 1, 2, 3, 4, 5, 6, 7, 8, 9, 10, 11, 12, 13, 14, 15, 16, 17, 18, 19, 20, 21, 22, 23, 24, 25] rfl rfl (by decide) (by decide) (by decide) (fun _ => rfl) (by decide) 0 10 rfl rfl rfl hl.1 rfl (Nat.le_of_ble_eq_true rfl) dX10_plan_23 ⟨Nat.le_of_ble_eq_true rfl, Nat.le_of_ble_eq_true rfl⟩ (fun u8 H locs h7 hP hD hS => ?_)
      obtain ⟨mahd_c9, emahd_c9⟩ : ∃ f : Nat → Int32, f = (u8.1 0) := ⟨_, rfl⟩
      obtain ⟨mahf_c10, emahf_c10⟩ : ∃ f : Nat → Int32, f = (u8.1 1) := ⟨_, rfl⟩
      have hP : va_P (dC, dI) vwCl (wMod cI cZ cQ b mday mdoo mdA mdB mfar mmar mtel mgai mfal mtop mstr mgho mfai mpto mwal mahd_c9 mahf_c10 mcho mbes mbyt mtxt mpos mtka mtok mdig mnum mfau mrdm mrea mlin mlne mthg mord mbor mbsm mans mand manr mali) H := by rw [emahd_c9, emahf_c10]; exact hP
      have hD : va_D A (wMod cI cZ cQ b mday mdoo mdA mdB mfar mmar mtel mgai mfal mtop mstr mgho mfai mpto mwal mahd_c9 mahf_c10 mcho mbes mbyt mtxt mpos mtka mtok mdig mnum mfau mrdm mrea mlin mlne mthg mord mbor mbsm mans mand manr mali) := by rw [emahd_c9, emahf_c10]; exact hD
      have h7 : (rg 240 (0) (100) mahd_c9) ∧ (rg 240 (0) (100) mahf_c10) := by (try rw [emahd_c9]); (try rw [emahf_c10]); exact h7
      obtain ⟨h7_0, h7_1⟩ := h7
      refine lv_iconst (v := (-1)) hx hb dX10_plan_26 (by decide) ?_
      refine lv_istore (lv' := [(4, .int (-1)), (0, .ref (b 39)), (1, .int n), (2, .int mi), (3, .int wh)]) hx hb dX10_plan_27 hl (by decide) rfl (fun ls hl => ?_)
      refine lv_iconst (v := 0) hx hb dX10_plan_29 (by decide) ?_
      refine lv_istore (lv' := [(5, .int 0), (4, .int (-1)), (0, .ref (b 39)), (1, .int n), (2, .int mi), (3, .int wh)]) hx hb dX10_plan_30 hl (by decide) rfl (fun ls hl => ?_)
      refine lv_aload_n hx hb dX10_plan_32 rfl (lv_at hl 2 rfl) ?_
      refine va_get (D := (dC, dI)) (ci := 10) (v := .ref (b 17)) (C := RX10) (T := TX10) (N := 39) hx hb hts inX10 hown hK hP 0 rfl rfl 17 (by decide) lf56 (fun _ h9 => h9) rfl dX10_plan_33 ?_
      refine lv_iconst (v := 0) hx hb dX10_plan_36 (by decide) ?_
      refine lv_iconst (v := (-1)) hx hb dX10_plan_37 (by decide) ?_
      have b11 : vp_in 0 5 := (show ¬ _ from by decide)
      have g12 : rg 5 (-1) (9) (upd mcho (0 : Int32).toNatClampNeg (-1)) := rg_upd r_mcho (show ((-1) : Int32).toInt = (-1) from rfl) (by omega) (by omega)
      refine va_iast hx hb hK hP hD hS 14 0 rfl rfl b11 dX10_plan_38 (fun H locs hP hD hS => ?_)
      obtain ⟨mcho_u13, emcho_u13⟩ : ∃ f : Nat → Int32, f = upd mcho (0 : Int32).toNatClampNeg (-1) := ⟨_, rfl⟩
      have rmcho_u13 : rg 5 (-1) (9) mcho_u13 := by rw [emcho_u13]; exact g12
      have hP : va_P (dC, dI) vwCl (wMod cI cZ cQ b mday mdoo mdA mdB mfar mmar mtel mgai mfal mtop mstr mgho mfai mpto mwal mahd_c9 mahf_c10 mcho_u13 mbes mbyt mtxt mpos mtka mtok mdig mnum mfau mrdm mrea mlin mlne mthg mord mbor mbsm mans mand manr mali) H := by rw [emcho_u13]; exact hP
      have hD : va_D A (wMod cI cZ cQ b mday mdoo mdA mdB mfar mmar mtel mgai mfal mtop mstr mgho mfai mpto mwal mahd_c9 mahf_c10 mcho_u13 mbes mbyt mtxt mpos mtka mtok mdig mnum mfau mrdm mrea mlin mlne mthg mord mbor mbsm mans mand manr mali) := by rw [emcho_u13]; exact hD
      have L39 : ∀ (nn : Nat) (y39_4 : Int32) (y39_5 : Int32) (mahd_39 : Nat → Int32) (mahf_39 : Nat → Int32) (mfar_39 : Nat → Int32) (mcho_39 : Nat → Int32) (mbes_39 : Nat → Int32) (H : Heap) (locs : List Loc) (ls : Array Slot), (rg 240 (0) (100) mahd_39) → (rg 240 (0) (100) mahf_39) → (rg 5 (-1) (9) mcho_39) → (-1 ≤ (y39_5.toInt)) → ((y39_5.toInt) ≤ 3) → ((y39_5.toInt) < n.toInt) → (ordOK 9 (y39_5.toInt) mcho_39) → omM 9 11 4 mcho_39 ((y39_5.toInt) + 1).toNat < nn → va_P (dC, dI) vwCl (wMod cI cZ cQ b mday mdoo mdA mdB mfar_39 mmar mtel mgai mfal mtop mstr mgho mfai mpto mwal mahd_39 mahf_39 mcho_39 mbes_39 mbyt mtxt mpos mtka mtok mdig mnum mfau mrdm mrea mlin mlne mthg mord mbor mbsm mans mand manr mali) H → va_D A (wMod cI cZ cQ b mday mdoo mdA mdB mfar_39 mmar mtel mgai mfal mtop mstr mgho mfai mpto mwal mahd_39 mahf_39 mcho_39 mbes_39 mbyt mtxt mpos mtka mtok mdig mnum mfau mrdm mrea mlin mlne mthg mord mbor mbsm mans mand manr mali) → va_S A s.heap H locs → lv_has ls 8 [(0, .ref (b 39)), (1, .int n), (2, .int mi), (3, .int wh), (4, .int y39_4), (5, .int y39_5)] → W p l e (headSpec wsX10_plan { frames := 4, cells := 0, slots := 0, locals := 97 }).room s m ([.ref (b 39), .int n, .int mi, .int wh] : List Value).toArray below meth c H locs 0 0 (MQ below (va_Qi (fun (r : Int32) (u : US) => (rg 240 (0) (100) (u.1 0)) ∧ (rg 240 (0) (100) (u.1 1)) ∧ (rg 5 (-1) (9) (u.1 3))) (Bw (dC, dI) A (fun u : US => (wMod cI cZ cQ b mday mdoo mdA mdB (u.1 2) mmar mtel mgai mfal mtop mstr mgho mfai mpto mwal (u.1 0) (u.1 1) (u.1 3) (u.1 4) mbyt mtxt mpos mtka mtok mdig mnum mfau mrdm mrea mlin mlne mthg mord mbor mbsm mans mand manr mali))) A) ([.ref (b 39), .int n, .int mi, .int wh] : List Value).toArray s 0 0 A) (F0 m 39 ls []) := by
        intro nn
        induction nn with
        | zero =>
          intro y39_4 y39_5 mahd_39 mahf_39 mfar_39 mcho_39 mbes_39 H locs ls r_mahd_39 r_mahf_39 r_mcho_39 i39_0 i39_1 i39_2 i39_3 hm39
          exact absurd hm39 (Nat.not_lt_zero _)
        | succ nn ih39 =>
          intro y39_4 y39_5 mahd_39 mahf_39 mfar_39 mcho_39 mbes_39 H locs ls r_mahd_39 r_mahf_39 r_mcho_39 i39_0 i39_1 i39_2 i39_3 hm39 hP hD hS hl
          refine lv_iload hx hb dX10_plan_39 (lv_at hl 5 rfl) ?_
          refine lv_if_lt (tgt := 175) hx hb dX10_plan_41 (by decide) (fun c14 => ?_) (fun c14 => ?_)
          · have dc14 : y39_5.toInt < 0 := ltC rfl (show (0 : Int32).toInt = 0 from rfl) c14
            refine lv_iload_n hx hb dX10_plan_175 rfl (lv_at hl 3 rfl) ?_
            refine lv_iconst (v := (-1)) hx hb dX10_plan_176 (by decide) ?_
            refine lv_icmp_ne (tgt := 185) hx hb dX10_plan_177 (by decide) (fun c15 => ?_) (fun c15 => ?_)
            · have dc15 : 0 ≤ wh.toInt := ka_lo (by omega) (neC rfl (show ((-1) : Int32).toInt = (-1) from rfl) c15)
              refine lv_aload_n hx hb dX10_plan_185 rfl (lv_at hl 0 rfl) ?_
              refine va_get (D := (dC, dI)) (ci := 10) (v := .ref (b 18)) (C := RX10) (T := TX10) (N := 39) hx hb hts inX10 hown hK hP 0 rfl rfl 18 (by decide) lf59 (fun _ h9 => h9) rfl dX10_plan_186 ?_
              refine lv_iload_n hx hb dX10_plan_189 rfl (lv_at hl 3 rfl) ?_
              have b16 : vp_in wh 4 := inC rfl (by omega) (by omega)
              refine va_iald hx hb hK hP 15 0 rfl rfl b16 dX10_plan_190 ?_
              exact W.iret (v := mbes_39 wh.toNatClampNeg) hx hb hr (fun tq ht hW => ⟨⟨mbes_39 wh.toNatClampNeg, (uS [mahd_39, mahf_39, mfar_39, mcho_39, mbes_39] 0 (fun _ => 0)), rfl, ⟨r_mahd_39, r_mahf_39, r_mcho_39⟩, by rw [ht]; exact hP, hD⟩, hS.F ht⟩) hS.2.2 dX10_plan_191
            · have dc15 : wh.toInt = (-1) := eqC rfl (show ((-1) : Int32).toInt = (-1) from rfl) c15
              refine lv_iload hx hb dX10_plan_180 (lv_at hl 4 rfl) ?_
              refine lv_goto (tgt := 191) hx hb dX10_plan_182 (by decide) ?_
              exact W.iret (v := y39_4) hx hb hr (fun tq ht hW => ⟨⟨y39_4, (uS [mahd_39, mahf_39, mfar_39, mcho_39, mbes_39] 0 (fun _ => 0)), rfl, ⟨r_mahd_39, r_mahf_39, r_mcho_39⟩, by rw [ht]; exact hP, hD⟩, hS.F ht⟩) hS.2.2 dX10_plan_191
          · have dc14 : 0 ≤ y39_5.toInt := nltC rfl (show (0 : Int32).toInt = 0 from rfl) c14
            have wo := ord_at i39_3 (rfl) (by omega)
            refine lv_aload_n hx hb dX10_plan_44 rfl (lv_at hl 0 rfl) ?_
            refine va_get (D := (dC, dI)) (ci := 10) (v := .ref (b 17)) (C := RX10) (T := TX10) (N := 39) hx hb hts inX10 hown hK hP 0 rfl rfl 17 (by decide) lf56 (fun _ h9 => h9) rfl dX10_plan_45 ?_
            refine lv_iload hx hb dX10_plan_48 (lv_at hl 5 rfl) ?_
            refine lv_dup2_11 hx hb dX10_plan_50 rfl rfl ?_
            have b17 : vp_in y39_5 5 := inC rfl (by omega) (by omega)
            refine va_iald hx hb hK hP 14 0 rfl rfl b17 dX10_plan_51 ?_
            have g18 : -1 ≤ (mcho_39 y39_5.toNatClampNeg).toInt ∧ (mcho_39 y39_5.toNatClampNeg).toInt ≤ 9 := rg_at r_mcho_39 b17
            refine lv_iconst (v := 1) hx hb dX10_plan_52 (by decide) ?_
            refine lv_iadd hx hb dX10_plan_53 ?_
            have f19 : ((mcho_39 y39_5.toNatClampNeg) + 1).toInt = ((mcho_39 y39_5.toNatClampNeg).toInt) + (1) := addC rfl (show (1 : Int32).toInt = 1 from rfl) (by omega) (by omega)
            refine lv_topi (fun x20 ex20 => ?_)
            have ix20 : x20.toInt = ((mcho_39 y39_5.toNatClampNeg).toInt) + (1) := by rw [ex20]; exact f19
            have b21 : vp_in y39_5 5 := inC rfl (by omega) (by omega)
            have g22 : rg 5 (-1) (9) (upd mcho_39 y39_5.toNatClampNeg x20) := rg_upd r_mcho_39 rfl (by omega) (by omega)
            refine va_iast hx hb hK hP hD hS 14 0 rfl rfl b21 dX10_plan_54 (fun H locs hP hD hS => ?_)
            obtain ⟨mcho_u23, emcho_u23⟩ : ∃ f : Nat → Int32, f = upd mcho_39 y39_5.toNatClampNeg x20 := ⟨_, rfl⟩
            have rmcho_u23 : rg 5 (-1) (9) mcho_u23 := by rw [emcho_u23]; exact g22
            have hP : va_P (dC, dI) vwCl (wMod cI cZ cQ b mday mdoo mdA mdB mfar_39 mmar mtel mgai mfal mtop mstr mgho mfai mpto mwal mahd_39 mahf_39 mcho_u23 mbes_39 mbyt mtxt mpos mtka mtok mdig mnum mfau mrdm mrea mlin mlne mthg mord mbor mbsm mans mand manr mali) H := by rw [emcho_u23]; exact hP
            have hD : va_D A (wMod cI cZ cQ b mday mdoo mdA mdB mfar_39 mmar mtel mgai mfal mtop mstr mgho mfai mpto mwal mahd_39 mahf_39 mcho_u23 mbes_39 mbyt mtxt mpos mtka mtok mdig mnum mfau mrdm mrea mlin mlne mthg mord mbor mbsm mans mand manr mali) := by rw [emcho_u23]; exact hD
            refine lv_aload_n hx hb dX10_plan_55 rfl (lv_at hl 0 rfl) ?_
            refine va_get (D := (dC, dI)) (ci := 10) (v := .ref (b 17)) (C := RX10) (T := TX10) (N := 39) hx hb hts inX10 hown hK hP 0 rfl rfl 17 (by decide) lf56 (fun _ h9 => h9) rfl dX10_plan_56 ?_
            refine lv_iload hx hb dX10_plan_59 (lv_at hl 5 rfl) ?_
            have b24 : vp_in y39_5 5 := inC rfl (by omega) (by omega)
            refine va_iald hx hb hK hP 14 0 rfl rfl b24 dX10_plan_61 ?_
            have g25 : -1 ≤ (mcho_u23 y39_5.toNatClampNeg).toInt ∧ (mcho_u23 y39_5.toNatClampNeg).toInt ≤ 9 := rg_at rmcho_u23 b24
            have o26 : (mcho_u23 y39_5.toNatClampNeg).toInt = x20.toInt := by rw [emcho_u23, pk_us]
            refine lv_bipush (v := 8) hx hb dX10_plan_62 (by decide) ?_
            refine lv_icmp_le (tgt := 73) hx hb dX10_plan_64 (by decide) (fun c27 => ?_) (fun c27 => ?_)
            · have dc27 : (mcho_u23 y39_5.toNatClampNeg).toInt ≤ 8 := leC rfl (show (8 : Int32).toInt = 8 from rfl) c27
              refine lv_aload_n hx hb dX10_plan_73 rfl (lv_at hl 0 rfl) ?_
              refine lv_iload hx hb dX10_plan_74 (lv_at hl 5 rfl) ?_
              refine lv_aload_n hx hb dX10_plan_76 rfl (lv_at hl 0 rfl) ?_
              refine va_get (D := (dC, dI)) (ci := 10) (v := .ref (b 17)) (C := RX10) (T := TX10) (N := 39) hx hb hts inX10 hown hK hP 0 rfl rfl 17 (by decide) lf56 (fun _ h9 => h9) rfl dX10_plan_77 ?_
              refine lv_iload hx hb dX10_plan_80 (lv_at hl 5 rfl) ?_
              have b28 : vp_in y39_5 5 := inC rfl (by omega) (by omega)
              refine va_iald hx hb hK hP 14 0 rfl rfl b28 dX10_plan_82 ?_
              have g29 : -1 ≤ (mcho_u23 y39_5.toNatClampNeg).toInt ∧ (mcho_u23 y39_5.toNatClampNeg).toInt ≤ 9 := rg_at rmcho_u23 b28
              have o30 : (mcho_u23 y39_5.toNatClampNeg).toInt = x20.toInt := by rw [emcho_u23, pk_us]
              refine lv_iload_n hx hb dX10_plan_83 rfl (lv_at hl 2 rfl) ?_
              refine wrV (As := [.int y39_5, .int (mcho_u23 y39_5.toNatClampNeg), .int mi]) (rest := []) (wr := []) (w2 := (fun u : US => (wMod cI cZ cQ b mday mdoo mdA mdB (u.1 2) mmar mtel mgai mfal mtop mstr mgho mfai mpto mwal (u.1 0) (u.1 1) mcho_u23 mbes_39 mbyt mtxt mpos mtka mtok mdig mnum mfau mrdm mrea mlin mlne mthg mord mbor mbsm mans mand manr mali))) ⟨hx, hb, hml, hown, hts⟩ (k_X10_isGone l dC dI cI cZ cQ b mday mdoo mdA mdB mfar_39 mmar mtel mgai mfal mtop mstr mgho mfai mpto mwal mahd_39 mahf_39 mcho_u23 mbes_39 mbyt mtxt mpos mtka mtok mdig mnum mfau mrdm mrea mlin mlne mthg mord mbor mbsm mans mand manr mali _ y39_5 (mcho_u23 y39_5.toNatClampNeg) mi r_mday r_mdoo r_mdA r_mdB r_mmar r_mgai r_mfal r_mtop r_mstr r_mgho r_mfai r_mahd_39 r_mahf_39 rmcho_u23 r_mbyt r_mpos r_mrdm r_mlin r_mthg r_mord r_mans (by omega) (by omega) (by omega) (by omega)) (cwV 3 hts gX10_plan_X10_isGone rfl rfl rfl (by decide +kernel) ⟨Nat.le_of_ble_eq_true rfl, Nat.le_of_ble_eq_true rfl⟩) hP hD hS hA hK hN [0, 1, 2, 3, 4, 5, 6, 7, 8, 9, 10, 11, 12, 13, 14, 15, 16, 17, 18, 19, 20, 21, 22, 23, 24, 25] [] [0, 1, 2, 3, 4, 5, 6, 7, 8, 9, 10, 11, 12, 13, 14, 15, 16, 17, 18, 19, 20, 21, 22, 23, 24, 25] rfl rfl (by decide) (by decide) (by decide) (fun _ => rfl) (by decide) 0 10 rfl rfl rfl hl.1 rfl (Nat.le_of_ble_eq_true rfl) dX10_plan_84 ⟨Nat.le_of_ble_eq_true rfl, Nat.le_of_ble_eq_true rfl⟩ (fun r31 u33 H locs h32 hP hD hS => ?_)
              obtain ⟨mahd_c34, emahd_c34⟩ : ∃ f : Nat → Int32, f = (u33.1 0) := ⟨_, rfl⟩
              obtain ⟨mahf_c35, emahf_c35⟩ : ∃ f : Nat → Int32, f = (u33.1 1) := ⟨_, rfl⟩
              obtain ⟨mfar_c36, emfar_c36⟩ : ∃ f : Nat → Int32, f = (u33.1 2) := ⟨_, rfl⟩
              have hP : va_P (dC, dI) vwCl (wMod cI cZ cQ b mday mdoo mdA mdB mfar_c36 mmar mtel mgai mfal mtop mstr mgho mfai mpto mwal mahd_c34 mahf_c35 mcho_u23 mbes_39 mbyt mtxt mpos mtka mtok mdig mnum mfau mrdm mrea mlin mlne mthg mord mbor mbsm mans mand manr mali) H := by rw [emahd_c34, emahf_c35, emfar_c36]; exact hP
              have hD : va_D A (wMod cI cZ cQ b mday mdoo mdA mdB mfar_c36 mmar mtel mgai mfal mtop mstr mgho mfai mpto mwal mahd_c34 mahf_c35 mcho_u23 mbes_39 mbyt mtxt mpos mtka mtok mdig mnum mfau mrdm mrea mlin mlne mthg mord mbor mbsm mans mand manr mali) := by rw [emahd_c34, emahf_c35, emfar_c36]; exact hD
              have h32 : ((((r31 = 1)) ∨ ((r31 = 0)))) ∧ (rg 240 (0) (100) mahd_c34) ∧ (rg 240 (0) (100) mahf_c35) := by (try rw [emahd_c34]); (try rw [emahf_c35]); (try rw [emfar_c36]); exact h32
              rcases h32 with ⟨(rfl | rfl), h32_0, h32_1⟩
              · refine lv_if_eq (tgt := 39) hx hb dX10_plan_87 (by decide) (fun c9 => absurd c9 (by decide)) (fun _ => ?_)
                obtain ⟨z37, ez37⟩ : ∃ y : Int32, y = y39_5 + 1 := ⟨_, rfl⟩
                have iz37 : z37.toInt = y39_5.toInt + 1 := by rw [ez37]; exact addC rfl rfl (by omega) (by omega)
                refine lv_iinc (v := z37) (lv' := [(5, .int z37), (0, .ref (b 39)), (1, .int n), (2, .int mi), (3, .int wh), (4, .int y39_4)]) hx hb dX10_plan_90 hl (k := 5) rfl (by rw [ez37]; rfl) (by decide) rfl (fun ls hl => ?_)
                refine lv_aload_n hx hb dX10_plan_93 rfl (lv_at hl 1 rfl) ?_
                refine va_get (D := (dC, dI)) (ci := 10) (v := .ref (b 17)) (C := RX10) (T := TX10) (N := 39) hx hb hts inX10 hown hK hP 0 rfl rfl 17 (by decide) lf56 (fun _ h9 => h9) rfl dX10_plan_94 ?_
                refine lv_iload hx hb dX10_plan_97 (lv_at hl 0 rfl) ?_
                refine lv_iconst (v := (-1)) hx hb dX10_plan_99 (by decide) ?_
                have b38 : vp_in z37 5 := inC rfl (by omega) (by omega)
                have g39 : rg 5 (-1) (9) (upd mcho_u23 z37.toNatClampNeg (-1)) := rg_upd rmcho_u23 (show ((-1) : Int32).toInt = (-1) from rfl) (by omega) (by omega)
                refine va_iast hx hb hK hP hD hS 14 0 rfl rfl b38 dX10_plan_100 (fun H locs hP hD hS => ?_)
                obtain ⟨mcho_u40, emcho_u40⟩ : ∃ f : Nat → Int32, f = upd mcho_u23 z37.toNatClampNeg (-1) := ⟨_, rfl⟩
                have rmcho_u40 : rg 5 (-1) (9) mcho_u40 := by rw [emcho_u40]; exact g39
                have hP : va_P (dC, dI) vwCl (wMod cI cZ cQ b mday mdoo mdA mdB mfar_c36 mmar mtel mgai mfal mtop mstr mgho mfai mpto mwal mahd_c34 mahf_c35 mcho_u40 mbes_39 mbyt mtxt mpos mtka mtok mdig mnum mfau mrdm mrea mlin mlne mthg mord mbor mbsm mans mand manr mali) H := by rw [emcho_u40]; exact hP
                have hD : va_D A (wMod cI cZ cQ b mday mdoo mdA mdB mfar_c36 mmar mtel mgai mfal mtop mstr mgho mfai mpto mwal mahd_c34 mahf_c35 mcho_u40 mbes_39 mbyt mtxt mpos mtka mtok mdig mnum mfau mrdm mrea mlin mlne mthg mord mbor mbsm mans mand manr mali) := by rw [emcho_u40]; exact hD
                refine lv_iload hx hb dX10_plan_101 (lv_at hl 0 rfl) ?_
                refine lv_iload_n hx hb dX10_plan_103 rfl (lv_at hl 2 rfl) ?_
                refine lv_icmp_ne (tgt := 39) hx hb dX10_plan_104 (by decide) (fun c41 => ?_) (fun c41 => ?_)
                · have dc41 : z37.toInt ≠ n.toInt := neC rfl rfl c41
                  exact ih39 y39_4 z37 mahd_c34 mahf_c35 mfar_c36 mcho_u40 mbes_39 _ _ _ h32_0 h32_1 rmcho_u40 (by omega) (by omega) (by omega) (by (first | exact ok_init3 emcho_u40 rfl rfl (by omega) | exact ok_down3 emcho_u40 i39_3 rfl (by omega) (by omega) | exact ok_same3 emcho_u40 i39_3 rfl (by omega) (by omega) (by omega) | exact ok_up3 emcho_u40 (by assumption) i39_3 (by omega) rfl (by omega) (by omega) (by omega) (by omega) rfl (by omega) | exact ok_back3 emcho_u40 (by assumption) i39_3 rfl (by omega) (by omega) (by omega) (by omega) (by omega))) (by (refine Nat.lt_of_lt_of_le ?_ (Nat.le_of_lt_succ hm39); first | exact om_down3 emcho_u40 (by decide) rfl (by omega) (by omega) (by omega) | exact om_same3 emcho_u40 (by decide) rfl (by omega) (by omega) (by omega) | exact om_up3 emcho_u40 (by assumption) (by omega) rfl (by omega) (by omega) (by omega) (by omega) (by omega) rfl (by omega) | exact om_back3 emcho_u40 (by assumption) (by decide) rfl (by omega) (by omega) (by omega) (by omega) (by omega))) hP hD hS (lv_sub hl [1, 2, 3, 4, 5, 0] rfl)
                · have dc41 : z37.toInt = n.toInt := eqC rfl rfl c41
                  refine lv_aload_n hx hb dX10_plan_107 rfl (lv_at hl 1 rfl) ?_
                  refine lv_bipush (v := 48) hx hb dX10_plan_108 (by decide) ?_
                  refine lv_iload_n hx hb dX10_plan_110 rfl (lv_at hl 2 rfl) ?_
                  refine lv_imul hx hb dX10_plan_111 ?_
                  have f42 : (48 * n).toInt = (48) * (n.toInt) := mulC (show (48 : Int32).toInt = 48 from rfl) rfl (by omega) (by omega)
                  refine rdV (As := [.int (48 * n)]) (rest := []) ⟨hx, hb, hml, hown, hts⟩ (k_X10_allAt l dC dI cI cZ cQ b mday mdoo mdA mdB mfar_c36 mmar mtel mgai mfal mtop mstr mgho mfai mpto mwal mahd_c34 mahf_c35 mcho_u40 mbes_39 mbyt mtxt mpos mtka mtok mdig mnum mfau mrdm mrea mlin mlne mthg mord mbor mbsm mans mand manr mali (48 * n) r_mday r_mdoo r_mdA r_mdB r_mmar r_mgai r_mfal r_mtop r_mstr r_mgho r_mfai h32_0 h32_1 rmcho_u40 r_mbyt r_mpos r_mrdm r_mlin r_mthg r_mord r_mans (by omega) (by omega)) (cwV 1 hts gX10_plan_X10_allAt rfl rfl rfl (by decide +kernel) ⟨Nat.le_of_ble_eq_true rfl, Nat.le_of_ble_eq_true rfl⟩) hP hK hN [0, 1, 2, 3, 4, 5, 6, 7, 8, 9, 10, 11, 12, 13, 14, 15, 16, 17, 18, 19, 20, 21, 22, 23, 24, 25] rfl 0 10 rfl rfl rfl hl.1 rfl (Nat.le_of_ble_eq_true rfl) dX10_plan_112 ⟨Nat.le_of_ble_eq_true rfl, Nat.le_of_ble_eq_true rfl⟩ (fun r43 h44 => ?_)
                  have h44 : True := h44
                  refine lv_istore (lv' := [(6, .int r43), (5, .int z37), (0, .ref (b 39)), (1, .int n), (2, .int mi), (3, .int wh), (4, .int y39_4)]) hx hb dX10_plan_115 hl (by decide) rfl (fun ls hl => ?_)
                  have L153 : ∀ (mbes_153 : Nat → Int32) (H : Heap) (locs : List Loc) (ls : Array Slot), va_P (dC, dI) vwCl (wMod cI cZ cQ b mday mdoo mdA mdB mfar_c36 mmar mtel mgai mfal mtop mstr mgho mfai mpto mwal mahd_c34 mahf_c35 mcho_u40 mbes_153 mbyt mtxt mpos mtka mtok mdig mnum mfau mrdm mrea mlin mlne mthg mord mbor mbsm mans mand manr mali) H → va_D A (wMod cI cZ cQ b mday mdoo mdA mdB mfar_c36 mmar mtel mgai mfal mtop mstr mgho mfai mpto mwal mahd_c34 mahf_c35 mcho_u40 mbes_153 mbyt mtxt mpos mtka mtok mdig mnum mfau mrdm mrea mlin mlne mthg mord mbor mbsm mans mand manr mali) → va_S A s.heap H locs → lv_has ls 8 [(0, .ref (b 39)), (1, .int n), (2, .int mi), (3, .int wh), (4, .int y39_4), (5, .int z37), (6, .int r43)] → W p l e (headSpec wsX10_plan { frames := 4, cells := 0, slots := 0, locals := 97 }).room s m ([.ref (b 39), .int n, .int mi, .int wh] : List Value).toArray below meth c H locs 0 0 (MQ below (va_Qi (fun (r : Int32) (u : US) => (rg 240 (0) (100) (u.1 0)) ∧ (rg 240 (0) (100) (u.1 1)) ∧ (rg 5 (-1) (9) (u.1 3))) (Bw (dC, dI) A (fun u : US => (wMod cI cZ cQ b mday mdoo mdA mdB (u.1 2) mmar mtel mgai mfal mtop mstr mgho mfai mpto mwal (u.1 0) (u.1 1) (u.1 3) (u.1 4) mbyt mtxt mpos mtka mtok mdig mnum mfau mrdm mrea mlin mlne mthg mord mbor mbsm mans mand manr mali))) A) ([.ref (b 39), .int n, .int mi, .int wh] : List Value).toArray s 0 0 A) (F0 m 153 ls []) := by
                    intro mbes_153 H locs ls  hP hD hS hl
                    have L169 : ∀ (y169_4 : Int32) (H : Heap) (locs : List Loc) (ls : Array Slot), va_P (dC, dI) vwCl (wMod cI cZ cQ b mday mdoo mdA mdB mfar_c36 mmar mtel mgai mfal mtop mstr mgho mfai mpto mwal mahd_c34 mahf_c35 mcho_u40 mbes_153 mbyt mtxt mpos mtka mtok mdig mnum mfau mrdm mrea mlin mlne mthg mord mbor mbsm mans mand manr mali) H → va_D A (wMod cI cZ cQ b mday mdoo mdA mdB mfar_c36 mmar mtel mgai mfal mtop mstr mgho mfai mpto mwal mahd_c34 mahf_c35 mcho_u40 mbes_153 mbyt mtxt mpos mtka mtok mdig mnum mfau mrdm mrea mlin mlne mthg mord mbor mbsm mans mand manr mali) → va_S A s.heap H locs → lv_has ls 8 [(0, .ref (b 39)), (1, .int n), (2, .int mi), (3, .int wh), (4, .int y169_4), (5, .int z37)] → W p l e (headSpec wsX10_plan { frames := 4, cells := 0, slots := 0, locals := 97 }).room s m ([.ref (b 39), .int n, .int mi, .int wh] : List Value).toArray below meth c H locs 0 0 (MQ below (va_Qi (fun (r : Int32) (u : US) => (rg 240 (0) (100) (u.1 0)) ∧ (rg 240 (0) (100) (u.1 1)) ∧ (rg 5 (-1) (9) (u.1 3))) (Bw (dC, dI) A (fun u : US => (wMod cI cZ cQ b mday mdoo mdA mdB (u.1 2) mmar mtel mgai mfal mtop mstr mgho mfai mpto mwal (u.1 0) (u.1 1) (u.1 3) (u.1 4) mbyt mtxt mpos mtka mtok mdig mnum mfau mrdm mrea mlin mlne mthg mord mbor mbsm mans mand manr mali))) A) ([.ref (b 39), .int n, .int mi, .int wh] : List Value).toArray s 0 0 A) (F0 m 169 ls []) := by
                      intro y169_4 H locs ls  hP hD hS hl
                      obtain ⟨z45, ez45⟩ : ∃ y : Int32, y = z37 + (-1) := ⟨_, rfl⟩
                      have iz45 : z45.toInt = z37.toInt + (-1) := by rw [ez45]; exact addC rfl rfl (by omega) (by omega)
                      refine lv_iinc (v := z45) (lv' := [(5, .int z45), (0, .ref (b 39)), (1, .int n), (2, .int mi), (3, .int wh), (4, .int y169_4)]) hx hb dX10_plan_169 hl (k := 5) rfl (by rw [ez45]; rfl) (by decide) rfl (fun ls hl => ?_)
                      refine lv_goto (tgt := 39) hx hb dX10_plan_172 (by decide) ?_
                      exact ih39 y169_4 z45 mahd_c34 mahf_c35 mfar_c36 mcho_u40 mbes_153 _ _ _ h32_0 h32_1 rmcho_u40 (by omega) (by omega) (by omega) (by (first | exact ok_init3 emcho_u40 rfl rfl (by omega) | exact ok_down3 emcho_u40 i39_3 rfl (by omega) (by omega) | exact ok_same3 emcho_u40 i39_3 rfl (by omega) (by omega) (by omega) | exact ok_up3 emcho_u40 (by assumption) i39_3 (by omega) rfl (by omega) (by omega) (by omega) (by omega) rfl (by omega) | exact ok_back3 emcho_u40 (by assumption) i39_3 rfl (by omega) (by omega) (by omega) (by omega) (by omega))) (by (refine Nat.lt_of_lt_of_le ?_ (Nat.le_of_lt_succ hm39); first | exact om_down3 emcho_u40 (by decide) rfl (by omega) (by omega) (by omega) | exact om_same3 emcho_u40 (by decide) rfl (by omega) (by omega) (by omega) | exact om_up3 emcho_u40 (by assumption) (by omega) rfl (by omega) (by omega) (by omega) (by omega) (by omega) rfl (by omega) | exact om_back3 emcho_u40 (by assumption) (by decide) rfl (by omega) (by omega) (by omega) (by omega) (by omega))) hP hD hS (lv_sub hl [1, 2, 3, 4, 5, 0] rfl)
                    refine lv_iload hx hb dX10_plan_153 (lv_at hl 6 rfl) ?_
                    refine lv_iload hx hb dX10_plan_155 (lv_at hl 4 rfl) ?_
                    refine lv_icmp_le (tgt := 165) hx hb dX10_plan_157 (by decide) (fun c46 => ?_) (fun c46 => ?_)
                    · have dc46 : r43.toInt ≤ y39_4.toInt := leC rfl rfl c46
                      refine lv_iload hx hb dX10_plan_165 (lv_at hl 4 rfl) ?_
                      refine lv_istore (lv' := [(4, .int y39_4), (0, .ref (b 39)), (1, .int n), (2, .int mi), (3, .int wh), (5, .int z37), (6, .int r43)]) hx hb dX10_plan_167 hl (by decide) rfl (fun ls hl => ?_)
                      exact L169 y39_4 _ _ _  hP hD hS (lv_sub hl [1, 2, 3, 4, 0, 5] rfl)
                    · have dc46 : y39_4.toInt < r43.toInt := nleC rfl rfl c46
                      refine lv_iload hx hb dX10_plan_160 (lv_at hl 6 rfl) ?_
                      refine lv_goto (tgt := 167) hx hb dX10_plan_162 (by decide) ?_
                      refine lv_istore (lv' := [(4, .int r43), (0, .ref (b 39)), (1, .int n), (2, .int mi), (3, .int wh), (5, .int z37), (6, .int r43)]) hx hb dX10_plan_167 hl (by decide) rfl (fun ls hl => ?_)
                      exact L169 r43 _ _ _  hP hD hS (lv_sub hl [1, 2, 3, 4, 0, 5] rfl)
                  refine lv_iconst (v := 0) hx hb dX10_plan_117 (by decide) ?_
                  refine lv_istore (lv' := [(7, .int 0), (6, .int r43), (5, .int z37), (0, .ref (b 39)), (1, .int n), (2, .int mi), (3, .int wh), (4, .int y39_4)]) hx hb dX10_plan_118 hl (by decide) rfl (fun ls hl => ?_)
                  have L120 : ∀ (nn : Nat) (y120_7 : Int32) (mbes_120 : Nat → Int32) (H : Heap) (locs : List Loc) (ls : Array Slot), (0 ≤ (y120_7.toInt)) → ((y120_7.toInt) ≤ 4) → (4 - (y120_7.toInt)).toNat < nn → va_P (dC, dI) vwCl (wMod cI cZ cQ b mday mdoo mdA mdB mfar_c36 mmar mtel mgai mfal mtop mstr mgho mfai mpto mwal mahd_c34 mahf_c35 mcho_u40 mbes_120 mbyt mtxt mpos mtka mtok mdig mnum mfau mrdm mrea mlin mlne mthg mord mbor mbsm mans mand manr mali) H → va_D A (wMod cI cZ cQ b mday mdoo mdA mdB mfar_c36 mmar mtel mgai mfal mtop mstr mgho mfai mpto mwal mahd_c34 mahf_c35 mcho_u40 mbes_120 mbyt mtxt mpos mtka mtok mdig mnum mfau mrdm mrea mlin mlne mthg mord mbor mbsm mans mand manr mali) → va_S A s.heap H locs → lv_has ls 8 [(0, .ref (b 39)), (1, .int n), (2, .int mi), (3, .int wh), (4, .int y39_4), (5, .int z37), (6, .int r43), (7, .int y120_7)] → W p l e (headSpec wsX10_plan { frames := 4, cells := 0, slots := 0, locals := 97 }).room s m ([.ref (b 39), .int n, .int mi, .int wh] : List Value).toArray below meth c H locs 0 0 (MQ below (va_Qi (fun (r : Int32) (u : US) => (rg 240 (0) (100) (u.1 0)) ∧ (rg 240 (0) (100) (u.1 1)) ∧ (rg 5 (-1) (9) (u.1 3))) (Bw (dC, dI) A (fun u : US => (wMod cI cZ cQ b mday mdoo mdA mdB (u.1 2) mmar mtel mgai mfal mtop mstr mgho mfai mpto mwal (u.1 0) (u.1 1) (u.1 3) (u.1 4) mbyt mtxt mpos mtka mtok mdig mnum mfau mrdm mrea mlin mlne mthg mord mbor mbsm mans mand manr mali))) A) ([.ref (b 39), .int n, .int mi, .int wh] : List Value).toArray s 0 0 A) (F0 m 120 ls []) := by
                    intro nn
                    induction nn with
                    | zero =>
                      intro y120_7 mbes_120 H locs ls i120_0 i120_1 hm120
                      exact absurd hm120 (Nat.not_lt_zero _)
                    | succ nn ih120 =>
                      intro y120_7 mbes_120 H locs ls i120_0 i120_1 hm120 hP hD hS hl
                      refine lv_iload hx hb dX10_plan_120 (lv_at hl 7 rfl) ?_
                      refine lv_iload_n hx hb dX10_plan_122 rfl (lv_at hl 1 rfl) ?_
                      refine lv_icmp_ge (tgt := 153) hx hb dX10_plan_123 (by decide) (fun c47 => ?_) (fun c47 => ?_)
                      · have dc47 : n.toInt ≤ y120_7.toInt := leC rfl rfl c47
                        exact L153 mbes_120 _ _ _  hP hD hS (lv_sub hl [0, 1, 2, 3, 4, 5, 6] rfl)
                      · have dc47 : y120_7.toInt < n.toInt := nleC rfl rfl c47
                        refine lv_iload hx hb dX10_plan_126 (lv_at hl 6 rfl) ?_
                        refine lv_iload hx hb dX10_plan_128 (lv_at hl 4 rfl) ?_
                        refine lv_icmp_le (tgt := 153) hx hb dX10_plan_130 (by decide) (fun c48 => ?_) (fun c48 => ?_)
                        · have dc48 : r43.toInt ≤ y39_4.toInt := leC rfl rfl c48
                          exact L153 mbes_120 _ _ _  hP hD hS (lv_sub hl [0, 1, 2, 3, 4, 5, 6] rfl)
                        · have dc48 : y39_4.toInt < r43.toInt := nleC rfl rfl c48
                          refine lv_aload_n hx hb dX10_plan_133 rfl (lv_at hl 0 rfl) ?_
                          refine va_get (D := (dC, dI)) (ci := 10) (v := .ref (b 18)) (C := RX10) (T := TX10) (N := 39) hx hb hts inX10 hown hK hP 0 rfl rfl 18 (by decide) lf59 (fun _ h9 => h9) rfl dX10_plan_134 ?_
                          refine lv_iload hx hb dX10_plan_137 (lv_at hl 7 rfl) ?_
                          refine lv_aload_n hx hb dX10_plan_139 rfl (lv_at hl 0 rfl) ?_
                          refine va_get (D := (dC, dI)) (ci := 10) (v := .ref (b 17)) (C := RX10) (T := TX10) (N := 39) hx hb hts inX10 hown hK hP 0 rfl rfl 17 (by decide) lf56 (fun _ h9 => h9) rfl dX10_plan_140 ?_
                          refine lv_iload hx hb dX10_plan_143 (lv_at hl 7 rfl) ?_
                          have b49 : vp_in y120_7 5 := inC rfl (by omega) (by omega)
                          refine va_iald hx hb hK hP 14 0 rfl rfl b49 dX10_plan_145 ?_
                          have g50 : -1 ≤ (mcho_u40 y120_7.toNatClampNeg).toInt ∧ (mcho_u40 y120_7.toNatClampNeg).toInt ≤ 9 := rg_at rmcho_u40 b49
                          refine lv_topi (fun x51 ex51 => ?_)
                          have ix51 : x51.toInt = (mcho_u40 y120_7.toNatClampNeg).toInt := by rw [ex51]
                          have b52 : vp_in y120_7 4 := inC rfl (by omega) (by omega)
                          refine va_iast hx hb hK hP hD hS 15 0 rfl rfl b52 dX10_plan_146 (fun H locs hP hD hS => ?_)
                          obtain ⟨mbes_u53, embes_u53⟩ : ∃ f : Nat → Int32, f = upd mbes_120 y120_7.toNatClampNeg x51 := ⟨_, rfl⟩
                          have hP : va_P (dC, dI) vwCl (wMod cI cZ cQ b mday mdoo mdA mdB mfar_c36 mmar mtel mgai mfal mtop mstr mgho mfai mpto mwal mahd_c34 mahf_c35 mcho_u40 mbes_u53 mbyt mtxt mpos mtka mtok mdig mnum mfau mrdm mrea mlin mlne mthg mord mbor mbsm mans mand manr mali) H := by rw [embes_u53]; exact hP
                          have hD : va_D A (wMod cI cZ cQ b mday mdoo mdA mdB mfar_c36 mmar mtel mgai mfal mtop mstr mgho mfai mpto mwal mahd_c34 mahf_c35 mcho_u40 mbes_u53 mbyt mtxt mpos mtka mtok mdig mnum mfau mrdm mrea mlin mlne mthg mord mbor mbsm mans mand manr mali) := by rw [embes_u53]; exact hD
                          obtain ⟨z54, ez54⟩ : ∃ y : Int32, y = y120_7 + 1 := ⟨_, rfl⟩
                          have iz54 : z54.toInt = y120_7.toInt + 1 := by rw [ez54]; exact addC rfl rfl (by omega) (by omega)
                          refine lv_iinc (v := z54) (lv' := [(7, .int z54), (0, .ref (b 39)), (1, .int n), (2, .int mi), (3, .int wh), (4, .int y39_4), (5, .int z37), (6, .int r43)]) hx hb dX10_plan_147 hl (k := 7) rfl (by rw [ez54]; rfl) (by decide) rfl (fun ls hl => ?_)
                          refine lv_goto (tgt := 120) hx hb dX10_plan_150 (by decide) ?_
                          exact ih120 z54 mbes_u53 _ _ _ (by omega) (by omega) (by omega) hP hD hS (lv_sub hl [1, 2, 3, 4, 5, 6, 7, 0] rfl)
                  have kc55 : (0 : Int32).toInt = 0 := rfl
                  exact L120 _ 0 mbes_39 _ _ _ (by omega) (by omega) (Nat.lt_succ_self _) hP hD hS (lv_sub hl [3, 4, 5, 6, 7, 2, 1, 0] rfl)
              · refine lv_if_eq (tgt := 39) hx hb dX10_plan_87 (by decide) (fun _ => ?_) (fun c9 => absurd (by decide) c9)
                exact ih39 y39_4 y39_5 mahd_c34 mahf_c35 mfar_c36 mcho_u23 mbes_39 _ _ _ h32_0 h32_1 rmcho_u23 (by omega) (by omega) (by omega) (by (first | exact ok_init3 emcho_u23 rfl rfl (by omega) | exact ok_down3 emcho_u23 i39_3 rfl (by omega) (by omega) | exact ok_same3 emcho_u23 i39_3 rfl (by omega) (by omega) (by omega) | exact ok_up3 emcho_u23 (by assumption) i39_3 (by omega) rfl (by omega) (by omega) (by omega) (by omega) rfl (by omega) | exact ok_back3 emcho_u23 (by assumption) i39_3 rfl (by omega) (by omega) (by omega) (by omega) (by omega))) (by (refine Nat.lt_of_lt_of_le ?_ (Nat.le_of_lt_succ hm39); first | exact om_down3 emcho_u23 (by decide) rfl (by omega) (by omega) (by omega) | exact om_same3 emcho_u23 (by decide) rfl (by omega) (by omega) (by omega) | exact om_up3 emcho_u23 (by assumption) (by omega) rfl (by omega) (by omega) (by omega) (by omega) (by omega) rfl (by omega) | exact om_back3 emcho_u23 (by assumption) (by decide) rfl (by omega) (by omega) (by omega) (by omega) (by omega))) hP hD hS (lv_sub hl [0, 1, 2, 3, 4, 5] rfl)
            · have dc27 : 8 < (mcho_u23 y39_5.toNatClampNeg).toInt := nleC rfl (show (8 : Int32).toInt = 8 from rfl) c27
              obtain ⟨z56, ez56⟩ : ∃ y : Int32, y = y39_5 + (-1) := ⟨_, rfl⟩
              have iz56 : z56.toInt = y39_5.toInt + (-1) := by rw [ez56]; exact addC rfl rfl (by omega) (by omega)
              refine lv_iinc (v := z56) (lv' := [(5, .int z56), (0, .ref (b 39)), (1, .int n), (2, .int mi), (3, .int wh), (4, .int y39_4)]) hx hb dX10_plan_67 hl (k := 5) rfl (by rw [ez56]; rfl) (by decide) rfl (fun ls hl => ?_)
              refine lv_goto (tgt := 39) hx hb dX10_plan_70 (by decide) ?_
              exact ih39 y39_4 z56 mahd_39 mahf_39 mfar_39 mcho_u23 mbes_39 _ _ _ r_mahd_39 r_mahf_39 rmcho_u23 (by omega) (by omega) (by omega) (by (first | exact ok_init3 emcho_u23 rfl rfl (by omega) | exact ok_down3 emcho_u23 i39_3 rfl (by omega) (by omega) | exact ok_same3 emcho_u23 i39_3 rfl (by omega) (by omega) (by omega) | exact ok_up3 emcho_u23 (by assumption) i39_3 (by omega) rfl (by omega) (by omega) (by omega) (by omega) rfl (by omega) | exact ok_back3 emcho_u23 (by assumption) i39_3 rfl (by omega) (by omega) (by omega) (by omega) (by omega))) (by (refine Nat.lt_of_lt_of_le ?_ (Nat.le_of_lt_succ hm39); first | exact om_down3 emcho_u23 (by decide) rfl (by omega) (by omega) (by omega) | exact om_same3 emcho_u23 (by decide) rfl (by omega) (by omega) (by omega) | exact om_up3 emcho_u23 (by assumption) (by omega) rfl (by omega) (by omega) (by omega) (by omega) (by omega) rfl (by omega) | exact om_back3 emcho_u23 (by assumption) (by decide) rfl (by omega) (by omega) (by omega) (by omega) (by omega))) hP hD hS (lv_sub hl [1, 2, 3, 4, 5, 0] rfl)
      have kc57 : ((-1) : Int32).toInt = -1 := rfl
      have kc58 : (0 : Int32).toInt = 0 := rfl
      exact L39 _ (-1) 0 mahd_c9 mahf_c10 mfar mcho_u13 mbes _ _ _ h7_0 h7_1 rmcho_u13 (by omega) (by omega) (by omega) (by (first | exact ok_init3 emcho_u13 rfl rfl (by omega) | exact ok_down3 emcho_u13 i39_3 rfl (by omega) (by omega) | exact ok_same3 emcho_u13 i39_3 rfl (by omega) (by omega) (by omega) | exact ok_up3 emcho_u13 (by assumption) i39_3 (by omega) rfl (by omega) (by omega) (by omega) (by omega) rfl (by omega) | exact ok_back3 emcho_u13 (by assumption) i39_3 rfl (by omega) (by omega) (by omega) (by omega) (by omega))) (Nat.lt_succ_self _) hP hD hS (lv_sub hl [2, 3, 4, 5, 1, 0] rfl)
    · refine lv_if_ne (tgt := 22) hx hb dX10_plan_16 (by decide) (fun c9 => absurd (by decide) c9) (fun _ => ?_)
      refine lv_bipush (v := (-3)) hx hb dX10_plan_19 (by decide) ?_
      exact W.iret (v := (-3)) hx hb hr (fun tq ht hW => ⟨⟨(-3), (uS [mahd, mahf, mfar, mcho, mbes] 0 (fun _ => 0)), rfl, ⟨r_mahd, r_mahf, r_mcho⟩, by rw [ht]; exact hP, hD⟩, hS.F ht⟩) hS.2.2 dX10_plan_21
  · refine lv_if_eq (tgt := 19) hx hb dX10_plan_5 (by decide) (fun _ => ?_) (fun c9 => absurd (by decide) c9)
    refine lv_bipush (v := (-3)) hx hb dX10_plan_19 (by decide) ?_
    exact W.iret (v := (-3)) hx hb hr (fun tq ht hW => ⟨⟨(-3), (uS [mahd, mahf, mfar, mcho, mbes] 0 (fun _ => 0)), rfl, ⟨r_mahd, r_mahf, r_mcho⟩, by rw [ht]; exact hP, hD⟩, hS.F ht⟩) hS.2.2 dX10_plan_21
