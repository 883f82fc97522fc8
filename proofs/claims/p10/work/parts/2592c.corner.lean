set_option maxHeartbeats 4000000 in
set_option maxRecDepth 100000 in
theorem k_X10_days2 (l : Launch) (dC : Nat → ClassId) (dI : Nat → Nat → Nat) (cI cZ cQ : ClassId) (b : Nat → Nat) (mday : Int32) (mdoo : Int32) (mdA : Nat → Int32) (mdB : Nat → Int32) (mfar : Nat → Int32) (mmar : Nat → Int32) (mtel : Int32) (mgai : Int32) (mfal : Nat → Int32) (mtop : Nat → Int32) (mstr : Nat → Int32) (mgho : Nat → Int32) (mfai : Nat → Int32) (mpto : Nat → Int32) (mwal : Nat → Int32) (mahd : Nat → Int32) (mahf : Nat → Int32) (mcho : Nat → Int32) (mbes : Nat → Int32) (mbyt : Int32) (mtxt : Nat → Int32) (mpos : Int32) (mtka : Int32) (mtok : Int64) (mdig : Int32) (mnum : Int32) (mfau : Int32) (mrdm : Int32) (mrea : Nat → Int32) (mlin : Int32) (mlne : Nat → Int32) (mthg : Nat → Int32) (mord : Nat → Int32) (mbor : Nat → Int32) (mbsm : Int32) (mans : Nat → Int32) (mand : Nat → Int32) (manr : Nat → Int32) (mali : Nat → Int32) (sz : Nat) (n : Int32) (r_mday : 0 ≤ mday.toInt ∧ mday.toInt ≤ 400) (r_mdoo : 0 ≤ mdoo.toInt ∧ mdoo.toInt ≤ 14) (r_mdA : rg 14 (0) (7) mdA) (r_mdB : rg 14 (0) (7) mdB) (r_mmar : rg 24 (0) (255) mmar) (r_mgai : 0 ≤ mgai.toInt ∧ mgai.toInt ≤ 100) (r_mfal : rg 11 (0) (30) mfal) (r_mtop : rg 48 (-1) (23) mtop) (r_mstr : rg 48 (0) (100) mstr) (r_mgho : rg 48 (-1) (23) mgho) (r_mfai : rg 48 (0) (100) mfai) (r_mahd : rg 240 (0) (100) mahd) (r_mahf : rg 240 (0) (100) mahf) (r_mcho : rg 5 (-1) (9) mcho) (r_mbyt : 0 ≤ mbyt.toInt ∧ mbyt.toInt ≤ 160) (r_mpos : 0 ≤ mpos.toInt ∧ mpos.toInt ≤ 160) (r_mrdm : 0 ≤ mrdm.toInt ∧ mrdm.toInt ≤ 10) (r_mlin : 0 ≤ mlin.toInt ∧ mlin.toInt ≤ 10) (r_mthg : rg 8 (0) (31) mthg) (r_mord : rg 8 (-1) (8) mord) (r_mans : rg 4 (0) (12) mans) : KW l yX10_days wsX10_days { frames := 3, cells := 0, slots := 0, locals := 73 } (dC, dI) (TY cI cZ cQ) (wMod cI cZ cQ b mday mdoo mdA mdB mfar mmar mtel mgai mfal mtop mstr mgho mfai mpto mwal mahd mahf mcho mbes mbyt mtxt mpos mtka mtok mdig mnum mfau mrdm mrea mlin mlne mthg mord mbor mbsm mans mand manr mali) [.ref (b 39), .int n] sz 0 0 (fun (r : Int32) (u : US) => (spDysM mmar mfal mtop mstr mgho mfai mtel mday n r (u.1 5 0) (u.1 2) (u.1 4) (u.1 3)) ∧ (rg 240 (0) (100) (u.1 0)) ∧ (rg 240 (0) (100) (u.1 1)) ∧ (rg 48 (0) (100) (u.1 2)) ∧ (rg 48 (0) (100) (u.1 3)) ∧ (rg 48 (-1) (23) (u.1 4)) ∧ (0 ≤ (u.1 5 0).toInt ∧ (u.1 5 0).toInt ≤ 400)) (fun u : US => (wMod cI cZ cQ b (u.1 5 0) mdoo mdA mdB mfar mmar mtel mgai mfal mtop (u.1 2) (u.1 4) (u.1 3) mpto mwal (u.1 0) (u.1 1) mcho mbes mbyt mtxt mpos mtka mtok mdig mnum mfau mrdm mrea mlin mlne mthg mord mbor mbsm mans mand manr mali)) := by
  refine Met.ofW (cc := cX10_days) (maxL := 3) (ret := (some .int)) (by decide) rfl ?_
  intro p e s m args below meth c s₁ B hml hv
  obtain ⟨rfl, hsz, hP, hK, hD0, hN⟩ := hv
  have hx := B.exec
  have hb := B.bytes
  have hr := B.returns
  have hts := atoms_spec (ws := wsX10_days) B.pre
  have hown : s.vm.findClass RX10 = some m.cls := findClass_of_methodNamed B.named
  have hlocks := B.notSynchronized
  have lf125 := hts (.fieldLink RX10 125 "PalaceOfRoomsModel" "day" "I") (by decide +kernel)
  have inX10 : ∀ w ∈ wsX100, w ∈ wsX10_days := fun w h => List.mem_cons_of_mem _ (List.mem_append_right _ h)
  have lf35 := hts (.fieldLink RX10 35 "PalaceOfRoomsModel" "strength" "[I") (by decide +kernel)
  have lf50 := hts (.fieldLink RX10 50 "PalaceOfRoomsModel" "ahead" "[I") (by decide +kernel)
  have lf41 := hts (.fieldLink RX10 41 "PalaceOfRoomsModel" "faint" "[I") (by decide +kernel)
  have lf53 := hts (.fieldLink RX10 53 "PalaceOfRoomsModel" "aheadFaint" "[I") (by decide +kernel)
  have lf38 := hts (.fieldLink RX10 38 "PalaceOfRoomsModel" "ghost" "[I") (by decide +kernel)
  subst hsz
  have hD := hD0.self (sz := s.heap.size)
  generalize hAe : va_A (wMod cI cZ cQ b mday mdoo mdA mdB mfar mmar mtel mgai mfal mtop mstr mgho mfai mpto mwal mahd mahf mcho mbes mbyt mtxt mpos mtka mtok mdig mnum mfau mrdm mrea mlin mlne mthg mord mbor mbsm mans mand manr mali) s.heap.size = A at hD ⊢
  have hA : ∀ q : Nat, s.heap.size ≤ q → A q := fun q h => by rw [← hAe]; exact Or.inr h
  have hS : va_S A s.heap s.heap [] := va_S.rf
  have hl := lv_entry ([.ref (b 39), .int n]) (n := 3) (Nat.le_of_ble_eq_true rfl)
  rw [lg_entry_eq]
  generalize (lg_sl ([.ref (b 39), .int n]) ++ List.replicate (3 - (lg_sl ([.ref (b 39), .int n])).length) Slot.unset).toArray = ls at hl ⊢
  have hl : lv_has ls 3 [(0, .ref (b 39)), (1, .int n)] := hl
  refine lv_iload_n hx hb dX10_days_0 rfl (lv_at hl 1 rfl) ?_
  refine lv_iconst (v := 1) hx hb dX10_days_1 (by decide) ?_
  refine lv_bipush (v := 60) hx hb dX10_days_2 (by decide) ?_
  refine rdS (As := [.int n, .int 1, .int 60]) (rest := []) ⟨hx, hb, hml, hown, hts⟩ (k_X10_in l dC dI cI cZ cQ n (1 : Int32) (60 : Int32)) (va_cwS 3 hts gX10_days_X10_in rfl rfl rfl (by decide +kernel) ⟨Nat.le_of_ble_eq_true rfl, Nat.le_of_ble_eq_true rfl⟩) hP hK hN [] rfl rfl hl.1 rfl (Nat.le_of_ble_eq_true rfl) dX10_days_4 ⟨Nat.le_of_ble_eq_true rfl, Nat.le_of_ble_eq_true rfl⟩ (fun r1 h2 => ?_)
  have h2 : ((((r1 = 1) ∧ ((1) ≤ n.toInt) ∧ (n.toInt ≤ (60))) ∨ ((r1 = 0) ∧ (n.toInt < (1) ∨ (60) < n.toInt)))) := h2
  rcases h2 with (⟨rfl, h2_a0, h2_a1⟩ | ⟨rfl, h2_a0⟩)
  · refine lv_if_eq (tgt := 22) hx hb dX10_days_7 (by decide) (fun c9 => absurd c9 (by decide)) (fun _ => ?_)
    refine lv_aload_n hx hb dX10_days_10 rfl (lv_at hl 0 rfl) ?_
    refine va_get (D := (dC, dI)) (ci := 10) (v := .int mday) (C := RX10) (T := TX10) (N := 39) hx hb hts inX10 hown hK hP 0 rfl rfl 0 (by decide) lf125 (fun _ h9 => h9) rfl dX10_days_11 ?_
    refine lv_iload_n hx hb dX10_days_14 rfl (lv_at hl 1 rfl) ?_
    refine lv_iadd hx hb dX10_days_15 ?_
    have f3 : (mday + n).toInt = (mday.toInt) + (n.toInt) := addC rfl rfl (by omega) (by omega)
    refine lv_sipush (v := 400) hx hb dX10_days_16 (by decide) ?_
    refine lv_icmp_le (tgt := 25) hx hb dX10_days_19 (by decide) (fun c4 => ?_) (fun c4 => ?_)
    · have dc4 : (mday.toInt) + (n.toInt) ≤ 400 := leC f3 (show (400 : Int32).toInt = 400 from rfl) c4
      refine lv_aload_n hx hb dX10_days_25 rfl (lv_at hl 0 rfl) ?_
      refine wvV (As := []) (rest := []) (wr := []) (w2 := (fun u : US => (wMod cI cZ cQ b mday mdoo mdA mdB mfar mmar mtel mgai mfal mtop mstr mgho mfai mpto mwal (u.1 0) (u.1 1) mcho mbes mbyt mtxt mpos mtka mtok mdig mnum mfau mrdm mrea mlin mlne mthg mord mbor mbsm mans mand manr mali))) ⟨hx, hb, hml, hown, hts⟩ (k_X10_lookAhead2 l dC dI cI cZ cQ b mday mdoo mdA mdB mfar mmar mtel mgai mfal mtop mstr mgho mfai mpto mwal mahd mahf mcho mbes mbyt mtxt mpos mtka mtok mdig mnum mfau mrdm mrea mlin mlne mthg mord mbor mbsm mans mand manr mali _ r_mday r_mdoo r_mdA r_mdB r_mmar r_mgai r_mfal r_mtop r_mstr r_mgho r_mfai r_mahd r_mahf r_mcho r_mbyt r_mpos r_mrdm r_mlin r_mthg r_mord r_mans) (cwV 0 hts gX10_days_X10_lookAhead rfl rfl rfl (by decide +kernel) ⟨Nat.le_of_ble_eq_true rfl, Nat.le_of_ble_eq_true rfl⟩) hP hD hS hA hK hN [0, 1, 2, 3, 4, 5, 6, 7, 8, 9, 10, 11, 12, 13, 14, 15, 16, 17, 18, 19, 20, 21, 22, 23, 24, 25] [] [0, 1, 2, 3, 4, 5, 6, 7, 8, 9, 10, 11, 12, 13, 14, 15, 16, 17, 18, 19, 20, 21, 22, 23, 24, 25] rfl rfl (by decide) (by decide) (by decide) (fun _ => rfl) (by decide) 0 10 rfl rfl rfl hl.1 rfl (Nat.le_of_ble_eq_true rfl) dX10_days_26 ⟨Nat.le_of_ble_eq_true rfl, Nat.le_of_ble_eq_true rfl⟩ (fun u7 H locs h6 hP hD hS => ?_)
      obtain ⟨mahd_c8, emahd_c8⟩ : ∃ f : Nat → Int32, f = (u7.1 0) := ⟨_, rfl⟩
      obtain ⟨mahf_c9, emahf_c9⟩ : ∃ f : Nat → Int32, f = (u7.1 1) := ⟨_, rfl⟩
      have hP : va_P (dC, dI) vwCl (wMod cI cZ cQ b mday mdoo mdA mdB mfar mmar mtel mgai mfal mtop mstr mgho mfai mpto mwal mahd_c8 mahf_c9 mcho mbes mbyt mtxt mpos mtka mtok mdig mnum mfau mrdm mrea mlin mlne mthg mord mbor mbsm mans mand manr mali) H := by rw [emahd_c8, emahf_c9]; exact hP
      have hD : va_D A (wMod cI cZ cQ b mday mdoo mdA mdB mfar mmar mtel mgai mfal mtop mstr mgho mfai mpto mwal mahd_c8 mahf_c9 mcho mbes mbyt mtxt mpos mtka mtok mdig mnum mfau mrdm mrea mlin mlne mthg mord mbor mbsm mans mand manr mali) := by rw [emahd_c8, emahf_c9]; exact hD
      have h6 : (laI mtop mstr mgho mfai 48 mahd_c8 mahf_c9) ∧ (rg 240 (0) (100) mahd_c8) ∧ (rg 240 (0) (100) mahf_c9) := by (try rw [emahd_c8]); (try rw [emahf_c9]); exact h6
      obtain ⟨h6_0, h6_1, h6_2⟩ := h6
      refine lv_iconst (v := 0) hx hb dX10_days_29 (by decide) ?_
      refine lv_istore_n (lv' := [(2, .int 0), (0, .ref (b 39)), (1, .int n)]) hx hb dX10_days_30 rfl hl (by decide) rfl (fun ls hl => ?_)
      have L31 : ∀ (nn : Nat) (y31_2 : Int32) (mahd_31 : Nat → Int32) (mahf_31 : Nat → Int32) (H : Heap) (locs : List Loc) (ls : Array Slot), (rg 240 (0) (100) mahd_31) → (rg 240 (0) (100) mahf_31) → (0 ≤ (y31_2.toInt)) → ((y31_2.toInt) ≤ 60) → (laS mfal mmar mtop mstr mgho mfai mtel ((y31_2.toInt)).toNat mahd_31 mahf_31) → ((y31_2.toInt) ≤ n.toInt) → (60 - (y31_2.toInt)).toNat < nn → va_P (dC, dI) vwCl (wMod cI cZ cQ b mday mdoo mdA mdB mfar mmar mtel mgai mfal mtop mstr mgho mfai mpto mwal mahd_31 mahf_31 mcho mbes mbyt mtxt mpos mtka mtok mdig mnum mfau mrdm mrea mlin mlne mthg mord mbor mbsm mans mand manr mali) H → va_D A (wMod cI cZ cQ b mday mdoo mdA mdB mfar mmar mtel mgai mfal mtop mstr mgho mfai mpto mwal mahd_31 mahf_31 mcho mbes mbyt mtxt mpos mtka mtok mdig mnum mfau mrdm mrea mlin mlne mthg mord mbor mbsm mans mand manr mali) → va_S A s.heap H locs → lv_has ls 3 [(0, .ref (b 39)), (1, .int n), (2, .int y31_2)] → W p l e (headSpec wsX10_days { frames := 3, cells := 0, slots := 0, locals := 73 }).room s m ([.ref (b 39), .int n] : List Value).toArray below meth c H locs 0 0 (MQ below (va_Qi (fun (r : Int32) (u : US) => (spDysM mmar mfal mtop mstr mgho mfai mtel mday n r (u.1 5 0) (u.1 2) (u.1 4) (u.1 3)) ∧ (rg 240 (0) (100) (u.1 0)) ∧ (rg 240 (0) (100) (u.1 1)) ∧ (rg 48 (0) (100) (u.1 2)) ∧ (rg 48 (0) (100) (u.1 3)) ∧ (rg 48 (-1) (23) (u.1 4)) ∧ (0 ≤ (u.1 5 0).toInt ∧ (u.1 5 0).toInt ≤ 400)) (Bw (dC, dI) A (fun u : US => (wMod cI cZ cQ b (u.1 5 0) mdoo mdA mdB mfar mmar mtel mgai mfal mtop (u.1 2) (u.1 4) (u.1 3) mpto mwal (u.1 0) (u.1 1) mcho mbes mbyt mtxt mpos mtka mtok mdig mnum mfau mrdm mrea mlin mlne mthg mord mbor mbsm mans mand manr mali))) A) ([.ref (b 39), .int n] : List Value).toArray s 0 0 A) (F0 m 31 ls []) := by
        intro nn
        induction nn with
        | zero =>
          intro y31_2 mahd_31 mahf_31 H locs ls r_mahd_31 r_mahf_31 i31_0 i31_1 i31_2 i31_3 hm31
          exact absurd hm31 (Nat.not_lt_zero _)
        | succ nn ih31 =>
          intro y31_2 mahd_31 mahf_31 H locs ls r_mahd_31 r_mahf_31 i31_0 i31_1 i31_2 i31_3 hm31 hP hD hS hl
          refine lv_iload_n hx hb dX10_days_31 rfl (lv_at hl 2 rfl) ?_
          refine lv_iload_n hx hb dX10_days_32 rfl (lv_at hl 1 rfl) ?_
          refine lv_icmp_ge (tgt := 48) hx hb dX10_days_33 (by decide) (fun c10 => ?_) (fun c10 => ?_)
          · have dc10 : n.toInt ≤ y31_2.toInt := leC rfl rfl c10
            refine lv_iconst (v := 0) hx hb dX10_days_48 (by decide) ?_
            refine lv_istore_n (lv' := [(2, .int 0), (0, .ref (b 39)), (1, .int n)]) hx hb dX10_days_49 rfl hl (by decide) rfl (fun ls hl => ?_)
            have L50 : ∀ (nn : Nat) (y50_2 : Int32) (mstr_50 : Nat → Int32) (mfai_50 : Nat → Int32) (mgho_50 : Nat → Int32) (H : Heap) (locs : List Loc) (ls : Array Slot), (rg 48 (0) (100) mstr_50) → (rg 48 (0) (100) mfai_50) → (rg 48 (-1) (23) mgho_50) → (0 ≤ (y50_2.toInt)) → ((y50_2.toInt) ≤ 48) → (dyI mgho mahd_31 mahf_31 (y50_2.toInt) mstr_50 mfai_50 mgho_50) → (48 - (y50_2.toInt)).toNat < nn → va_P (dC, dI) vwCl (wMod cI cZ cQ b mday mdoo mdA mdB mfar mmar mtel mgai mfal mtop mstr_50 mgho_50 mfai_50 mpto mwal mahd_31 mahf_31 mcho mbes mbyt mtxt mpos mtka mtok mdig mnum mfau mrdm mrea mlin mlne mthg mord mbor mbsm mans mand manr mali) H → va_D A (wMod cI cZ cQ b mday mdoo mdA mdB mfar mmar mtel mgai mfal mtop mstr_50 mgho_50 mfai_50 mpto mwal mahd_31 mahf_31 mcho mbes mbyt mtxt mpos mtka mtok mdig mnum mfau mrdm mrea mlin mlne mthg mord mbor mbsm mans mand manr mali) → va_S A s.heap H locs → lv_has ls 3 [(0, .ref (b 39)), (1, .int n), (2, .int y50_2)] → W p l e (headSpec wsX10_days { frames := 3, cells := 0, slots := 0, locals := 73 }).room s m ([.ref (b 39), .int n] : List Value).toArray below meth c H locs 0 0 (MQ below (va_Qi (fun (r : Int32) (u : US) => (spDysM mmar mfal mtop mstr mgho mfai mtel mday n r (u.1 5 0) (u.1 2) (u.1 4) (u.1 3)) ∧ (rg 240 (0) (100) (u.1 0)) ∧ (rg 240 (0) (100) (u.1 1)) ∧ (rg 48 (0) (100) (u.1 2)) ∧ (rg 48 (0) (100) (u.1 3)) ∧ (rg 48 (-1) (23) (u.1 4)) ∧ (0 ≤ (u.1 5 0).toInt ∧ (u.1 5 0).toInt ≤ 400)) (Bw (dC, dI) A (fun u : US => (wMod cI cZ cQ b (u.1 5 0) mdoo mdA mdB mfar mmar mtel mgai mfal mtop (u.1 2) (u.1 4) (u.1 3) mpto mwal (u.1 0) (u.1 1) mcho mbes mbyt mtxt mpos mtka mtok mdig mnum mfau mrdm mrea mlin mlne mthg mord mbor mbsm mans mand manr mali))) A) ([.ref (b 39), .int n] : List Value).toArray s 0 0 A) (F0 m 50 ls []) := by
              intro nn
              induction nn with
              | zero =>
                intro y50_2 mstr_50 mfai_50 mgho_50 H locs ls r_mstr_50 r_mfai_50 r_mgho_50 i50_0 i50_1 i50_2 hm50
                exact absurd hm50 (Nat.not_lt_zero _)
              | succ nn ih50 =>
                intro y50_2 mstr_50 mfai_50 mgho_50 H locs ls r_mstr_50 r_mfai_50 r_mgho_50 i50_0 i50_1 i50_2 hm50 hP hD hS hl
                refine lv_iload_n hx hb dX10_days_50 rfl (lv_at hl 2 rfl) ?_
                refine lv_bipush (v := 48) hx hb dX10_days_51 (by decide) ?_
                refine lv_icmp_ge (tgt := 111) hx hb dX10_days_53 (by decide) (fun c11 => ?_) (fun c11 => ?_)
                · have dc11 : 48 ≤ y50_2.toInt := leC (show (48 : Int32).toInt = 48 from rfl) rfl c11
                  refine lv_aload_n hx hb dX10_days_111 rfl (lv_at hl 0 rfl) ?_
                  refine lv_dup hx hb dX10_days_112 rfl ?_
                  refine va_get (D := (dC, dI)) (ci := 10) (v := .int mday) (C := RX10) (T := TX10) (N := 39) hx hb hts inX10 hown hK hP 0 rfl rfl 0 (by decide) lf125 (fun _ h9 => h9) rfl dX10_days_113 ?_
                  refine lv_iload_n hx hb dX10_days_116 rfl (lv_at hl 1 rfl) ?_
                  refine lv_iadd hx hb dX10_days_117 ?_
                  have f12 : (mday + n).toInt = (mday.toInt) + (n.toInt) := addC rfl rfl (by omega) (by omega)
                  refine lv_topi (fun x13 ex13 => ?_)
                  have ix13 : x13.toInt = (mday.toInt) + (n.toInt) := by rw [ex13]; exact f12
                  refine va_put (D := (dC, dI)) (ci := 10) (v := .int x13) (ty := .int) (C := RX10) (T := TX10) (N := 39) hx hb hts inX10 tyX10 tyX10_ok nmX10 hown hK hP hD hS 0 rfl rfl 0 (by decide) lf125 (fun _ h9 => h9) rfl (by decide +kernel) rfl rfl (Nat.le_of_ble_eq_true rfl) dX10_days_118 (fun H locs hP hD hS => ?_)
                  have g14 : 0 ≤ x13.toInt ∧ x13.toInt ≤ 400 := by rw [show x13.toInt = x13.toInt from rfl]; exact ⟨by omega, by omega⟩
                  have hP : va_P (dC, dI) vwCl (wMod cI cZ cQ b x13 mdoo mdA mdB mfar mmar mtel mgai mfal mtop mstr_50 mgho_50 mfai_50 mpto mwal mahd_31 mahf_31 mcho mbes mbyt mtxt mpos mtka mtok mdig mnum mfau mrdm mrea mlin mlne mthg mord mbor mbsm mans mand manr mali) H := hP
                  have hD : va_D A (wMod cI cZ cQ b x13 mdoo mdA mdB mfar mmar mtel mgai mfal mtop mstr_50 mgho_50 mfai_50 mpto mwal mahd_31 mahf_31 mcho mbes mbyt mtxt mpos mtka mtok mdig mnum mfau mrdm mrea mlin mlne mthg mord mbor mbsm mans mand manr mali) := hD
                  refine lv_aload_n hx hb dX10_days_121 rfl (lv_at hl 0 rfl) ?_
                  refine va_get (D := (dC, dI)) (ci := 10) (v := .int x13) (C := RX10) (T := TX10) (N := 39) hx hb hts inX10 hown hK hP 0 rfl rfl 0 (by decide) lf125 (fun _ h9 => h9) rfl dX10_days_122 ?_
                  exact W.iret (v := x13) hx hb hr (fun tq ht hW => ⟨⟨x13, (uS [mahd_31, mahf_31, mstr_50, mfai_50, mgho_50, (fun _ => x13)] 0 (fun _ => 0)), rfl, ⟨(show spDysM mmar mfal mtop mstr mgho mfai mtel mday n x13 x13 mstr_50 mgho_50 mfai_50 from by (first | exact ⟨Or.inr ⟨by omega, rfl, rfl⟩, Or.inl ⟨by omega, rfl, rfl, rfl⟩⟩ | exact ⟨Or.inl ⟨by omega, by assumption, by assumption⟩, Or.inr ⟨by omega, dy_end i31_2 i50_2 (by omega) (by omega)⟩⟩)), r_mahd_31, r_mahf_31, r_mstr_50, r_mfai_50, r_mgho_50, g14⟩, by rw [ht]; exact hP, hD⟩, hS.F ht⟩) hS.2.2 dX10_days_125
                · have dc11 : y50_2.toInt < 48 := nleC (show (48 : Int32).toInt = 48 from rfl) rfl c11
                  refine lv_aload_n hx hb dX10_days_56 rfl (lv_at hl 0 rfl) ?_
                  refine va_get (D := (dC, dI)) (ci := 10) (v := .ref (b 10)) (C := RX10) (T := TX10) (N := 39) hx hb hts inX10 hown hK hP 0 rfl rfl 10 (by decide) lf35 (fun _ h9 => h9) rfl dX10_days_57 ?_
                  refine lv_iload_n hx hb dX10_days_60 rfl (lv_at hl 2 rfl) ?_
                  refine lv_aload_n hx hb dX10_days_61 rfl (lv_at hl 0 rfl) ?_
                  refine va_get (D := (dC, dI)) (ci := 10) (v := .ref (b 15)) (C := RX10) (T := TX10) (N := 39) hx hb hts inX10 hown hK hP 0 rfl rfl 15 (by decide) lf50 (fun _ h9 => h9) rfl dX10_days_62 ?_
                  refine lv_iload_n hx hb dX10_days_65 rfl (lv_at hl 2 rfl) ?_
                  have b15 : vp_in y50_2 240 := inC rfl (by omega) (by omega)
                  refine va_iald hx hb hK hP 12 0 rfl rfl b15 dX10_days_66 ?_
                  have g16 : 0 ≤ (mahd_31 y50_2.toNatClampNeg).toInt ∧ (mahd_31 y50_2.toNatClampNeg).toInt ≤ 100 := rg_at r_mahd_31 b15
                  refine lv_topi (fun x17 ex17 => ?_)
                  have ix17 : x17.toInt = (mahd_31 y50_2.toNatClampNeg).toInt := by rw [ex17]
                  have b18 : vp_in y50_2 48 := inC rfl (by omega) (by omega)
                  have g19 : rg 48 (0) (100) (upd mstr_50 y50_2.toNatClampNeg x17) := rg_upd r_mstr_50 rfl (by omega) (by omega)
                  refine va_iast hx hb hK hP hD hS 7 0 rfl rfl b18 dX10_days_67 (fun H locs hP hD hS => ?_)
                  obtain ⟨mstr_u20, emstr_u20⟩ : ∃ f : Nat → Int32, f = upd mstr_50 y50_2.toNatClampNeg x17 := ⟨_, rfl⟩
                  have rmstr_u20 : rg 48 (0) (100) mstr_u20 := by rw [emstr_u20]; exact g19
                  have hP : va_P (dC, dI) vwCl (wMod cI cZ cQ b mday mdoo mdA mdB mfar mmar mtel mgai mfal mtop mstr_u20 mgho_50 mfai_50 mpto mwal mahd_31 mahf_31 mcho mbes mbyt mtxt mpos mtka mtok mdig mnum mfau mrdm mrea mlin mlne mthg mord mbor mbsm mans mand manr mali) H := by rw [emstr_u20]; exact hP
                  have hD : va_D A (wMod cI cZ cQ b mday mdoo mdA mdB mfar mmar mtel mgai mfal mtop mstr_u20 mgho_50 mfai_50 mpto mwal mahd_31 mahf_31 mcho mbes mbyt mtxt mpos mtka mtok mdig mnum mfau mrdm mrea mlin mlne mthg mord mbor mbsm mans mand manr mali) := by rw [emstr_u20]; exact hD
                  refine lv_aload_n hx hb dX10_days_68 rfl (lv_at hl 0 rfl) ?_
                  refine va_get (D := (dC, dI)) (ci := 10) (v := .ref (b 12)) (C := RX10) (T := TX10) (N := 39) hx hb hts inX10 hown hK hP 0 rfl rfl 12 (by decide) lf41 (fun _ h9 => h9) rfl dX10_days_69 ?_
                  refine lv_iload_n hx hb dX10_days_72 rfl (lv_at hl 2 rfl) ?_
                  refine lv_aload_n hx hb dX10_days_73 rfl (lv_at hl 0 rfl) ?_
                  refine va_get (D := (dC, dI)) (ci := 10) (v := .ref (b 16)) (C := RX10) (T := TX10) (N := 39) hx hb hts inX10 hown hK hP 0 rfl rfl 16 (by decide) lf53 (fun _ h9 => h9) rfl dX10_days_74 ?_
                  refine lv_iload_n hx hb dX10_days_77 rfl (lv_at hl 2 rfl) ?_
                  have b21 : vp_in y50_2 240 := inC rfl (by omega) (by omega)
                  refine va_iald hx hb hK hP 13 0 rfl rfl b21 dX10_days_78 ?_
                  have g22 : 0 ≤ (mahf_31 y50_2.toNatClampNeg).toInt ∧ (mahf_31 y50_2.toNatClampNeg).toInt ≤ 100 := rg_at r_mahf_31 b21
                  refine lv_topi (fun x23 ex23 => ?_)
                  have ix23 : x23.toInt = (mahf_31 y50_2.toNatClampNeg).toInt := by rw [ex23]
                  have b24 : vp_in y50_2 48 := inC rfl (by omega) (by omega)
                  have g25 : rg 48 (0) (100) (upd mfai_50 y50_2.toNatClampNeg x23) := rg_upd r_mfai_50 rfl (by omega) (by omega)
                  refine va_iast hx hb hK hP hD hS 9 0 rfl rfl b24 dX10_days_79 (fun H locs hP hD hS => ?_)
                  obtain ⟨mfai_u26, emfai_u26⟩ : ∃ f : Nat → Int32, f = upd mfai_50 y50_2.toNatClampNeg x23 := ⟨_, rfl⟩
                  have rmfai_u26 : rg 48 (0) (100) mfai_u26 := by rw [emfai_u26]; exact g25
                  have hP : va_P (dC, dI) vwCl (wMod cI cZ cQ b mday mdoo mdA mdB mfar mmar mtel mgai mfal mtop mstr_u20 mgho_50 mfai_u26 mpto mwal mahd_31 mahf_31 mcho mbes mbyt mtxt mpos mtka mtok mdig mnum mfau mrdm mrea mlin mlne mthg mord mbor mbsm mans mand manr mali) H := by rw [emfai_u26]; exact hP
                  have hD : va_D A (wMod cI cZ cQ b mday mdoo mdA mdB mfar mmar mtel mgai mfal mtop mstr_u20 mgho_50 mfai_u26 mpto mwal mahd_31 mahf_31 mcho mbes mbyt mtxt mpos mtka mtok mdig mnum mfau mrdm mrea mlin mlne mthg mord mbor mbsm mans mand manr mali) := by rw [emfai_u26]; exact hD
                  refine lv_aload_n hx hb dX10_days_80 rfl (lv_at hl 0 rfl) ?_
                  refine va_get (D := (dC, dI)) (ci := 10) (v := .ref (b 11)) (C := RX10) (T := TX10) (N := 39) hx hb hts inX10 hown hK hP 0 rfl rfl 11 (by decide) lf38 (fun _ h9 => h9) rfl dX10_days_81 ?_
                  refine lv_iload_n hx hb dX10_days_84 rfl (lv_at hl 2 rfl) ?_
                  refine lv_aload_n hx hb dX10_days_85 rfl (lv_at hl 0 rfl) ?_
                  refine va_get (D := (dC, dI)) (ci := 10) (v := .ref (b 12)) (C := RX10) (T := TX10) (N := 39) hx hb hts inX10 hown hK hP 0 rfl rfl 12 (by decide) lf41 (fun _ h9 => h9) rfl dX10_days_86 ?_
                  refine lv_iload_n hx hb dX10_days_89 rfl (lv_at hl 2 rfl) ?_
                  have b27 : vp_in y50_2 48 := inC rfl (by omega) (by omega)
                  refine va_iald hx hb hK hP 9 0 rfl rfl b27 dX10_days_90 ?_
                  have g28 : 0 ≤ (mfai_u26 y50_2.toNatClampNeg).toInt ∧ (mfai_u26 y50_2.toNatClampNeg).toInt ≤ 100 := rg_at rmfai_u26 b27
                  have o29 : (mfai_u26 y50_2.toNatClampNeg).toInt = x23.toInt := by rw [emfai_u26, pk_us]
                  refine lv_if_ne (tgt := 98) hx hb dX10_days_91 (by decide) (fun c30 => ?_) (fun c30 => ?_)
                  · have dc30 : 1 ≤ (mfai_u26 y50_2.toNatClampNeg).toInt := ka_lo (by omega) (neC rfl (show (0 : Int32).toInt = 0 from rfl) c30)
                    refine lv_aload_n hx hb dX10_days_98 rfl (lv_at hl 0 rfl) ?_
                    refine va_get (D := (dC, dI)) (ci := 10) (v := .ref (b 11)) (C := RX10) (T := TX10) (N := 39) hx hb hts inX10 hown hK hP 0 rfl rfl 11 (by decide) lf38 (fun _ h9 => h9) rfl dX10_days_99 ?_
                    refine lv_iload_n hx hb dX10_days_102 rfl (lv_at hl 2 rfl) ?_
                    have b31 : vp_in y50_2 48 := inC rfl (by omega) (by omega)
                    refine va_iald hx hb hK hP 8 0 rfl rfl b31 dX10_days_103 ?_
                    have g32 : -1 ≤ (mgho_50 y50_2.toNatClampNeg).toInt ∧ (mgho_50 y50_2.toNatClampNeg).toInt ≤ 23 := rg_at r_mgho_50 b31
                    refine lv_topi (fun x33 ex33 => ?_)
                    have ix33 : x33.toInt = (mgho_50 y50_2.toNatClampNeg).toInt := by rw [ex33]
                    have b34 : vp_in y50_2 48 := inC rfl (by omega) (by omega)
                    have g35 : rg 48 (-1) (23) (upd mgho_50 y50_2.toNatClampNeg x33) := rg_upd r_mgho_50 rfl (by omega) (by omega)
                    refine va_iast hx hb hK hP hD hS 8 0 rfl rfl b34 dX10_days_104 (fun H locs hP hD hS => ?_)
                    obtain ⟨mgho_u36, emgho_u36⟩ : ∃ f : Nat → Int32, f = upd mgho_50 y50_2.toNatClampNeg x33 := ⟨_, rfl⟩
                    have rmgho_u36 : rg 48 (-1) (23) mgho_u36 := by rw [emgho_u36]; exact g35
                    have hP : va_P (dC, dI) vwCl (wMod cI cZ cQ b mday mdoo mdA mdB mfar mmar mtel mgai mfal mtop mstr_u20 mgho_u36 mfai_u26 mpto mwal mahd_31 mahf_31 mcho mbes mbyt mtxt mpos mtka mtok mdig mnum mfau mrdm mrea mlin mlne mthg mord mbor mbsm mans mand manr mali) H := by rw [emgho_u36]; exact hP
                    have hD : va_D A (wMod cI cZ cQ b mday mdoo mdA mdB mfar mmar mtel mgai mfal mtop mstr_u20 mgho_u36 mfai_u26 mpto mwal mahd_31 mahf_31 mcho mbes mbyt mtxt mpos mtka mtok mdig mnum mfau mrdm mrea mlin mlne mthg mord mbor mbsm mans mand manr mali) := by rw [emgho_u36]; exact hD
                    obtain ⟨z37, ez37⟩ : ∃ y : Int32, y = y50_2 + 1 := ⟨_, rfl⟩
                    have iz37 : z37.toInt = y50_2.toInt + 1 := by rw [ez37]; exact addC rfl rfl (by omega) (by omega)
                    refine lv_iinc (v := z37) (lv' := [(2, .int z37), (0, .ref (b 39)), (1, .int n)]) hx hb dX10_days_105 hl (k := 2) rfl (by rw [ez37]; rfl) (by decide) rfl (fun ls hl => ?_)
                    refine lv_goto (tgt := 50) hx hb dX10_days_108 (by decide) ?_
                    exact ih50 z37 mstr_u20 mfai_u26 mgho_u36 _ _ _ rmstr_u20 rmfai_u26 rmgho_u36 (by omega) (by omega) (by (first | exact dy_init (by first | rfl | omega) | exact dy_step i50_2 (by assumption) (by assumption) (by assumption) (by assumption) (by assumption) (by omega) (by omega) (by first | exact Or.inl ⟨by omega, rfl⟩ | exact Or.inr ⟨by omega, by assumption⟩) (by omega))) (by omega) hP hD hS (lv_sub hl [1, 2, 0] rfl)
                  · have dc30 : (mfai_u26 y50_2.toNatClampNeg).toInt = 0 := eqC rfl (show (0 : Int32).toInt = 0 from rfl) c30
                    refine lv_iconst (v := (-1)) hx hb dX10_days_94 (by decide) ?_
                    refine lv_goto (tgt := 104) hx hb dX10_days_95 (by decide) ?_
                    have b38 : vp_in y50_2 48 := inC rfl (by omega) (by omega)
                    have g39 : rg 48 (-1) (23) (upd mgho_50 y50_2.toNatClampNeg (-1)) := rg_upd r_mgho_50 (show ((-1) : Int32).toInt = (-1) from rfl) (by omega) (by omega)
                    refine va_iast hx hb hK hP hD hS 8 0 rfl rfl b38 dX10_days_104 (fun H locs hP hD hS => ?_)
                    obtain ⟨mgho_u40, emgho_u40⟩ : ∃ f : Nat → Int32, f = upd mgho_50 y50_2.toNatClampNeg (-1) := ⟨_, rfl⟩
                    have rmgho_u40 : rg 48 (-1) (23) mgho_u40 := by rw [emgho_u40]; exact g39
                    have hP : va_P (dC, dI) vwCl (wMod cI cZ cQ b mday mdoo mdA mdB mfar mmar mtel mgai mfal mtop mstr_u20 mgho_u40 mfai_u26 mpto mwal mahd_31 mahf_31 mcho mbes mbyt mtxt mpos mtka mtok mdig mnum mfau mrdm mrea mlin mlne mthg mord mbor mbsm mans mand manr mali) H := by rw [emgho_u40]; exact hP
                    have hD : va_D A (wMod cI cZ cQ b mday mdoo mdA mdB mfar mmar mtel mgai mfal mtop mstr_u20 mgho_u40 mfai_u26 mpto mwal mahd_31 mahf_31 mcho mbes mbyt mtxt mpos mtka mtok mdig mnum mfau mrdm mrea mlin mlne mthg mord mbor mbsm mans mand manr mali) := by rw [emgho_u40]; exact hD
                    obtain ⟨z41, ez41⟩ : ∃ y : Int32, y = y50_2 + 1 := ⟨_, rfl⟩
                    have iz41 : z41.toInt = y50_2.toInt + 1 := by rw [ez41]; exact addC rfl rfl (by omega) (by omega)
                    refine lv_iinc (v := z41) (lv' := [(2, .int z41), (0, .ref (b 39)), (1, .int n)]) hx hb dX10_days_105 hl (k := 2) rfl (by rw [ez41]; rfl) (by decide) rfl (fun ls hl => ?_)
                    refine lv_goto (tgt := 50) hx hb dX10_days_108 (by decide) ?_
                    exact ih50 z41 mstr_u20 mfai_u26 mgho_u40 _ _ _ rmstr_u20 rmfai_u26 rmgho_u40 (by omega) (by omega) (by (first | exact dy_init (by first | rfl | omega) | exact dy_step i50_2 (by assumption) (by assumption) (by assumption) (by assumption) (by assumption) (by omega) (by omega) (by first | exact Or.inl ⟨by omega, rfl⟩ | exact Or.inr ⟨by omega, by assumption⟩) (by omega))) (by omega) hP hD hS (lv_sub hl [1, 2, 0] rfl)
            have kc42 : (0 : Int32).toInt = 0 := rfl
            exact L50 _ 0 mstr mfai mgho _ _ _ r_mstr r_mfai r_mgho (by omega) (by omega) (by (first | exact dy_init (by first | rfl | omega) | exact dy_step i50_2 (by assumption) (by assumption) (by assumption) (by assumption) (by assumption) (by omega) (by omega) (by first | exact Or.inl ⟨by omega, rfl⟩ | exact Or.inr ⟨by omega, by assumption⟩) (by omega))) (Nat.lt_succ_self _) hP hD hS (lv_sub hl [1, 2, 0] rfl)
          · have dc10 : y31_2.toInt < n.toInt := nleC rfl rfl c10
            refine lv_aload_n hx hb dX10_days_36 rfl (lv_at hl 0 rfl) ?_
            refine lv_iconst (v := 0) hx hb dX10_days_37 (by decide) ?_
            refine lv_iconst (v := 0) hx hb dX10_days_38 (by decide) ?_
            have kc0 : (0 : Int32).toInt = 0 := rfl
            refine wvV (As := [.int 0, .int 0]) (rest := []) (wr := []) (w2 := (fun u : US => (wMod cI cZ cQ b mday mdoo mdA mdB mfar mmar mtel mgai mfal mtop mstr mgho mfai mpto mwal (u.1 0) (u.1 1) mcho mbes mbyt mtxt mpos mtka mtok mdig mnum mfau mrdm mrea mlin mlne mthg mord mbor mbsm mans mand manr mali))) ⟨hx, hb, hml, hown, hts⟩ (k_X10_goDay2 l dC dI cI cZ cQ b mday mdoo mdA mdB mfar mmar mtel mgai mfal mtop mstr mgho mfai mpto mwal mahd_31 mahf_31 mcho mbes mbyt mtxt mpos mtka mtok mdig mnum mfau mrdm mrea mlin mlne mthg mord mbor mbsm mans mand manr mali _ (0 : Int32) (0 : Int32) r_mday r_mdoo r_mdA r_mdB r_mmar r_mgai r_mfal r_mtop r_mstr r_mgho r_mfai r_mahd_31 r_mahf_31 r_mcho r_mbyt r_mpos r_mrdm r_mlin r_mthg r_mord r_mans (by omega) (by omega) (by omega) (by omega) (by omega)) (cwV 2 hts gX10_days_X10_goDay rfl rfl rfl (by decide +kernel) ⟨Nat.le_of_ble_eq_true rfl, Nat.le_of_ble_eq_true rfl⟩) hP hD hS hA hK hN [0, 1, 2, 3, 4, 5, 6, 7, 8, 9, 10, 11, 12, 13, 14, 15, 16, 17, 18, 19, 20, 21, 22, 23, 24, 25] [] [0, 1, 2, 3, 4, 5, 6, 7, 8, 9, 10, 11, 12, 13, 14, 15, 16, 17, 18, 19, 20, 21, 22, 23, 24, 25] rfl rfl (by decide) (by decide) (by decide) (fun _ => rfl) (by decide) 0 10 rfl rfl rfl hl.1 rfl (Nat.le_of_ble_eq_true rfl) dX10_days_39 ⟨Nat.le_of_ble_eq_true rfl, Nat.le_of_ble_eq_true rfl⟩ (fun u45 H locs h44 hP hD hS => ?_)
            obtain ⟨mahd_c46, emahd_c46⟩ : ∃ f : Nat → Int32, f = (u45.1 0) := ⟨_, rfl⟩
            obtain ⟨mahf_c47, emahf_c47⟩ : ∃ f : Nat → Int32, f = (u45.1 1) := ⟨_, rfl⟩
            have hP : va_P (dC, dI) vwCl (wMod cI cZ cQ b mday mdoo mdA mdB mfar mmar mtel mgai mfal mtop mstr mgho mfai mpto mwal mahd_c46 mahf_c47 mcho mbes mbyt mtxt mpos mtka mtok mdig mnum mfau mrdm mrea mlin mlne mthg mord mbor mbsm mans mand manr mali) H := by rw [emahd_c46, emahf_c47]; exact hP
            have hD : va_D A (wMod cI cZ cQ b mday mdoo mdA mdB mfar mmar mtel mgai mfal mtop mstr mgho mfai mpto mwal mahd_c46 mahf_c47 mcho mbes mbyt mtxt mpos mtka mtok mdig mnum mfau mrdm mrea mlin mlne mthg mord mbor mbsm mans mand manr mali) := by rw [emahd_c46, emahf_c47]; exact hD
            have h44 : (gdS mfal mmar mtop mtel (0) 48 mahd_31 mahf_31 mahd_c46 mahf_c47) ∧ (rg 240 (0) (100) mahd_c46) ∧ (rg 240 (0) (100) mahf_c47) := by (try rw [emahd_c46]); (try rw [emahf_c47]); exact h44
            obtain ⟨h44_0, h44_1, h44_2⟩ := h44
            obtain ⟨z48, ez48⟩ : ∃ y : Int32, y = y31_2 + 1 := ⟨_, rfl⟩
            have iz48 : z48.toInt = y31_2.toInt + 1 := by rw [ez48]; exact addC rfl rfl (by omega) (by omega)
            refine lv_iinc (v := z48) (lv' := [(2, .int z48), (0, .ref (b 39)), (1, .int n)]) hx hb dX10_days_42 hl (k := 2) rfl (by rw [ez48]; rfl) (by decide) rfl (fun ls hl => ?_)
            refine lv_goto (tgt := 31) hx hb dX10_days_45 (by decide) ?_
            exact ih31 z48 mahd_c46 mahf_c47 _ _ _ h44_1 h44_2 (by omega) (by omega) (by (first | exact la_zero (by assumption) (by omega) (by first | rfl | omega) | exact la_day i31_2 (by assumption) (by first | rfl | omega) (by omega))) (by omega) (by omega) hP hD hS (lv_sub hl [1, 2, 0] rfl)
      have kc49 : (0 : Int32).toInt = 0 := rfl
      exact L31 _ 0 mahd_c8 mahf_c9 _ _ _ h6_1 h6_2 (by omega) (by omega) (by (first | exact la_zero (by assumption) (by omega) (by first | rfl | omega) | exact la_day i31_2 (by assumption) (by first | rfl | omega) (by omega))) (by omega) (Nat.lt_succ_self _) hP hD hS (lv_sub hl [1, 2, 0] rfl)
    · have dc4 : 400 < (mday.toInt) + (n.toInt) := nleC f3 (show (400 : Int32).toInt = 400 from rfl) c4
      refine lv_bipush (v := (-3)) hx hb dX10_days_22 (by decide) ?_
      exact W.iret (v := (-3)) hx hb hr (fun tq ht hW => ⟨⟨(-3), (uS [mahd, mahf, mstr, mfai, mgho, (fun _ => mday)] 0 (fun _ => 0)), rfl, ⟨(show spDysM mmar mfal mtop mstr mgho mfai mtel mday n ((-3) : Int32) mday mstr mgho mfai from by (try rw [show ((-3) : Int32).toInt = (-3) from (show ((-3) : Int32).toInt = (-3) from rfl)]); (first | exact ⟨Or.inr ⟨by omega, rfl, rfl⟩, Or.inl ⟨by omega, rfl, rfl, rfl⟩⟩ | exact ⟨Or.inl ⟨by omega, by assumption, by assumption⟩, Or.inr ⟨by omega, dy_end i31_2 i50_2 (by omega) (by omega)⟩⟩)), r_mahd, r_mahf, r_mstr, r_mfai, r_mgho, r_mday⟩, by rw [ht]; exact hP, hD⟩, hS.F ht⟩) hS.2.2 dX10_days_24
  · refine lv_if_eq (tgt := 22) hx hb dX10_days_7 (by decide) (fun _ => ?_) (fun c9 => absurd (by decide) c9)
    refine lv_bipush (v := (-3)) hx hb dX10_days_22 (by decide) ?_
    exact W.iret (v := (-3)) hx hb hr (fun tq ht hW => ⟨⟨(-3), (uS [mahd, mahf, mstr, mfai, mgho, (fun _ => mday)] 0 (fun _ => 0)), rfl, ⟨(show spDysM mmar mfal mtop mstr mgho mfai mtel mday n ((-3) : Int32) mday mstr mgho mfai from by (try rw [show ((-3) : Int32).toInt = (-3) from (show ((-3) : Int32).toInt = (-3) from rfl)]); (first | exact ⟨Or.inr ⟨by omega, rfl, rfl⟩, Or.inl ⟨by omega, rfl, rfl, rfl⟩⟩ | exact ⟨Or.inl ⟨by omega, by assumption, by assumption⟩, Or.inr ⟨by omega, dy_end i31_2 i50_2 (by omega) (by omega)⟩⟩)), r_mahd, r_mahf, r_mstr, r_mfai, r_mgho, r_mday⟩, by rw [ht]; exact hP, hD⟩, hS.F ht⟩) hS.2.2 dX10_days_24
