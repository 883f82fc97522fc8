set_option maxHeartbeats 4000000 in
set_option maxRecDepth 100000 in
theorem k_X10_laid (l : Launch) (dC : Nat → ClassId) (dI : Nat → Nat → Nat) (cI cZ cQ : ClassId) (b : Nat → Nat) (mday : Int32) (mdoo : Int32) (mdA : Nat → Int32) (mdB : Nat → Int32) (mfar : Nat → Int32) (mmar : Nat → Int32) (mtel : Int32) (mgai : Int32) (mfal : Nat → Int32) (mtop : Nat → Int32) (mstr : Nat → Int32) (mgho : Nat → Int32) (mfai : Nat → Int32) (mpto : Nat → Int32) (mwal : Nat → Int32) (mahd : Nat → Int32) (mahf : Nat → Int32) (mcho : Nat → Int32) (mbes : Nat → Int32) (mbyt : Int32) (mtxt : Nat → Int32) (mpos : Int32) (mtka : Int32) (mtok : Int64) (mdig : Int32) (mnum : Int32) (mfau : Int32) (mrdm : Int32) (mrea : Nat → Int32) (mlin : Int32) (mlne : Nat → Int32) (mthg : Nat → Int32) (mord : Nat → Int32) (mbor : Nat → Int32) (mbsm : Int32) (mans : Nat → Int32) (mand : Nat → Int32) (manr : Nat → Int32) (mali : Nat → Int32) (sz : Nat) (row : Int64) (n : Int32) (i : Int32) (r_mday : 0 ≤ mday.toInt ∧ mday.toInt ≤ 400) (r_mdoo : 0 ≤ mdoo.toInt ∧ mdoo.toInt ≤ 14) (r_mdA : rg 14 (0) (7) mdA) (r_mdB : rg 14 (0) (7) mdB) (r_mmar : rg 24 (0) (255) mmar) (r_mgai : 0 ≤ mgai.toInt ∧ mgai.toInt ≤ 100) (r_mfal : rg 11 (0) (30) mfal) (r_mtop : rg 48 (-1) (23) mtop) (r_mstr : rg 48 (0) (100) mstr) (r_mgho : rg 48 (-1) (23) mgho) (r_mfai : rg 48 (0) (100) mfai) (r_mahd : rg 240 (0) (100) mahd) (r_mahf : rg 240 (0) (100) mahf) (r_mcho : rg 5 (-1) (9) mcho) (r_mbyt : 0 ≤ mbyt.toInt ∧ mbyt.toInt ≤ 160) (r_mpos : 0 ≤ mpos.toInt ∧ mpos.toInt ≤ 160) (r_mrdm : 0 ≤ mrdm.toInt ∧ mrdm.toInt ≤ 10) (r_mlin : 0 ≤ mlin.toInt ∧ mlin.toInt ≤ 10) (r_mthg : rg 8 (0) (31) mthg) (r_mord : rg 8 (-1) (8) mord) (r_mans : rg 4 (0) (12) mans) : KW l yX10_laid wsX10_laid { frames := 3, cells := 0, slots := 0, locals := 75 } (dC, dI) (TY cI cZ cQ) (wMod cI cZ cQ b mday mdoo mdA mdB mfar mmar mtel mgai mfal mtop mstr mgho mfai mpto mwal mahd mahf mcho mbes mbyt mtxt mpos mtka mtok mdig mnum mfau mrdm mrea mlin mlne mthg mord mbor mbsm mans mand manr mali) [.ref (b 39), .long row, .int n, .int i] sz 0 0 (fun (r : Int32) (u : US) => (rg 8 (0) (31) (u.1 0)) ∧ (rg 8 (-1) (8) (u.1 2))) (fun u : US => (wMod cI cZ cQ b mday mdoo mdA mdB mfar mmar mtel mgai mfal mtop mstr mgho mfai mpto mwal mahd mahf mcho mbes mbyt mtxt mpos mtka mtok mdig mnum mfau mrdm mrea mlin mlne (u.1 0) (u.1 2) (u.1 3) (u.1 1 0) mans mand manr mali)) := by
  refine Met.ofW (cc := cX10_laid) (maxL := 9) (ret := (some .int)) (by decide) rfl ?_
  intro p e s m args below meth c s₁ B hml hv
  obtain ⟨rfl, hsz, hP, hK, hD0, hN⟩ := hv
  have hx := B.exec
  have hb := B.bytes
  have hr := B.returns
  have hts := atoms_spec (ws := wsX10_laid) B.pre
  have hown : s.vm.findClass RX10 = some m.cls := findClass_of_methodNamed B.named
  have hlocks := B.notSynchronized
  have lf77 := hts (.fieldLink RX10 77 "PalaceOfRoomsModel" "bestOrder" "[I") (by decide +kernel)
  have inX10 : ∀ w ∈ wsX100, w ∈ wsX10_laid := fun w h => List.mem_cons_of_mem _ (List.mem_append_right _ h)
  have lf225 := hts (.fieldLink RX10 225 "PalaceOfRoomsModel" "bestSum" "I") (by decide +kernel)
  have lf71 := hts (.fieldLink RX10 71 "PalaceOfRoomsModel" "things" "[I") (by decide +kernel)
  subst hsz
  have hD := hD0.self (sz := s.heap.size)
  generalize hAe : va_A (wMod cI cZ cQ b mday mdoo mdA mdB mfar mmar mtel mgai mfal mtop mstr mgho mfai mpto mwal mahd mahf mcho mbes mbyt mtxt mpos mtka mtok mdig mnum mfau mrdm mrea mlin mlne mthg mord mbor mbsm mans mand manr mali) s.heap.size = A at hD ⊢
  have hA : ∀ q : Nat, s.heap.size ≤ q → A q := fun q h => by rw [← hAe]; exact Or.inr h
  have hS : va_S A s.heap s.heap [] := va_S.rf
  have hl := lv_entry ([.ref (b 39), .long row, .int n, .int i]) (n := 9) (Nat.le_of_ble_eq_true rfl)
  rw [lg_entry_eq]
  generalize (lg_sl ([.ref (b 39), .long row, .int n, .int i]) ++ List.replicate (9 - (lg_sl ([.ref (b 39), .long row, .int n, .int i])).length) Slot.unset).toArray = ls at hl ⊢
  have hl : lv_has ls 9 [(0, .ref (b 39)), (1, .long row), (3, .int n), (4, .int i)] := hl
  refine lv_iload_n hx hb dX10_laid_0 rfl (lv_at hl 2 rfl) ?_
  refine lv_iconst (v := 1) hx hb dX10_laid_1 (by decide) ?_
  refine lv_bipush (v := 8) hx hb dX10_laid_2 (by decide) ?_
  refine rdS (As := [.int n, .int 1, .int 8]) (rest := []) ⟨hx, hb, hml, hown, hts⟩ (k_X10_in l dC dI cI cZ cQ n (1 : Int32) (8 : Int32)) (va_cwS 3 hts gX10_laid_X10_in rfl rfl rfl (by decide +kernel) ⟨Nat.le_of_ble_eq_true rfl, Nat.le_of_ble_eq_true rfl⟩) hP hK hN [] rfl rfl hl.1 rfl (Nat.le_of_ble_eq_true rfl) dX10_laid_4 ⟨Nat.le_of_ble_eq_true rfl, Nat.le_of_ble_eq_true rfl⟩ (fun r1 h2 => ?_)
  have h2 : ((((r1 = 1) ∧ ((1) ≤ n.toInt) ∧ (n.toInt ≤ (8))) ∨ ((r1 = 0) ∧ (n.toInt < (1) ∨ (8) < n.toInt)))) := h2
  rcases h2 with (⟨rfl, h2_a0, h2_a1⟩ | ⟨rfl, h2_a0⟩)
  · refine lv_if_ne (tgt := 13) hx hb dX10_laid_7 (by decide) (fun _ => ?_) (fun c9 => absurd c9 (by decide))
    refine lv_aload_n hx hb dX10_laid_13 rfl (lv_at hl 0 rfl) ?_
    refine lv_lload_n hx hb dX10_laid_14 rfl (lv_at hl 1 rfl) ?_
    refine lv_iload_n hx hb dX10_laid_15 rfl (lv_at hl 2 rfl) ?_
    refine wrV (As := [.long row, .int n]) (rest := []) (wr := []) (w2 := (fun u : US => (wMod cI cZ cQ b mday mdoo mdA mdB mfar mmar mtel mgai mfal mtop mstr mgho mfai mpto mwal mahd mahf mcho mbes mbyt mtxt mpos mtka mtok mdig mnum mfau mrdm mrea mlin mlne (u.1 0) mord mbor mbsm mans mand manr mali))) ⟨hx, hb, hml, hown, hts⟩ (k_X10_take l dC dI cI cZ cQ b mday mdoo mdA mdB mfar mmar mtel mgai mfal mtop mstr mgho mfai mpto mwal mahd mahf mcho mbes mbyt mtxt mpos mtka mtok mdig mnum mfau mrdm mrea mlin mlne mthg mord mbor mbsm mans mand manr mali _ row n r_mday r_mdoo r_mdA r_mdB r_mmar r_mgai r_mfal r_mtop r_mstr r_mgho r_mfai r_mahd r_mahf r_mcho r_mbyt r_mpos r_mrdm r_mlin r_mthg r_mord r_mans (by omega) (by omega)) (cwV 2 hts gX10_laid_X10_take rfl rfl rfl (by decide +kernel) ⟨Nat.le_of_ble_eq_true rfl, Nat.le_of_ble_eq_true rfl⟩) hP hD hS hA hK hN [0, 1, 2, 3, 4, 5, 6, 7, 8, 9, 10, 11, 12, 13, 14, 15, 16, 17, 18, 19, 20, 21, 22, 23, 24, 25] [] [0, 1, 2, 3, 4, 5, 6, 7, 8, 9, 10, 11, 12, 13, 14, 15, 16, 17, 18, 19, 20, 21, 22, 23, 24, 25] rfl rfl (by decide) (by decide) (by decide) (fun _ => rfl) (by decide) 0 10 rfl rfl rfl hl.1 rfl (Nat.le_of_ble_eq_true rfl) dX10_laid_16 ⟨Nat.le_of_ble_eq_true rfl, Nat.le_of_ble_eq_true rfl⟩ (fun r3 u5 H locs h4 hP hD hS => ?_)
    obtain ⟨mthg_c6, emthg_c6⟩ : ∃ f : Nat → Int32, f = (u5.1 0) := ⟨_, rfl⟩
    have hP : va_P (dC, dI) vwCl (wMod cI cZ cQ b mday mdoo mdA mdB mfar mmar mtel mgai mfal mtop mstr mgho mfai mpto mwal mahd mahf mcho mbes mbyt mtxt mpos mtka mtok mdig mnum mfau mrdm mrea mlin mlne mthg_c6 mord mbor mbsm mans mand manr mali) H := by rw [emthg_c6]; exact hP
    have hD : va_D A (wMod cI cZ cQ b mday mdoo mdA mdB mfar mmar mtel mgai mfal mtop mstr mgho mfai mpto mwal mahd mahf mcho mbes mbyt mtxt mpos mtka mtok mdig mnum mfau mrdm mrea mlin mlne mthg_c6 mord mbor mbsm mans mand manr mali) := by rw [emthg_c6]; exact hD
    have h4 : ((((r3 = 1) ∧ (∀ j : Nat, (j : Int) < n.toInt → (mthg_c6 j).toInt ≤ 23)) ∨ ((r3 = (-2))) ∨ ((r3 = (-3))))) ∧ (rg 8 (0) (31) mthg_c6) := by (try rw [emthg_c6]); exact h4
    rcases h4 with ⟨(⟨rfl, h4_a0⟩ | rfl | rfl), h4_0⟩
    · refine lv_istore (lv' := [(5, .int 1), (0, .ref (b 39)), (1, .long row), (3, .int n), (4, .int i)]) hx hb dX10_laid_19 hl (by decide) rfl (fun ls hl => ?_)
      refine lv_iload hx hb dX10_laid_21 (lv_at hl 0 rfl) ?_
      refine lv_iconst (v := 1) hx hb dX10_laid_23 (by decide) ?_
      refine lv_icmp_eq (tgt := 30) hx hb dX10_laid_24 (by decide) (fun _ => ?_) (fun c9 => absurd (by decide) c9)
      refine lv_iload hx hb dX10_laid_30 (lv_at hl 4 rfl) ?_
      refine lv_iconst (v := (-1)) hx hb dX10_laid_32 (by decide) ?_
      refine lv_icmp_ge (tgt := 39) hx hb dX10_laid_33 (by decide) (fun c7 => ?_) (fun c7 => ?_)
      · have dc7 : (-1) ≤ i.toInt := leC (show ((-1) : Int32).toInt = (-1) from rfl) rfl c7
        refine lv_iconst (v := 0) hx hb dX10_laid_39 (by decide) ?_
        refine lv_istore (lv' := [(6, .int 0), (5, .int 1), (0, .ref (b 39)), (1, .long row), (3, .int n), (4, .int i)]) hx hb dX10_laid_40 hl (by decide) rfl (fun ls hl => ?_)
        have L42 : ∀ (nn : Nat) (y42_6 : Int32) (mthg_42 : Nat → Int32) (H : Heap) (locs : List Loc) (ls : Array Slot), (rg 8 (0) (31) mthg_42) → (0 ≤ (y42_6.toInt)) → ((y42_6.toInt) ≤ 8) → (∀ j : Nat, (j : Int) < n.toInt → (mthg_42 j).toInt ≤ 23) → (8 - (y42_6.toInt)).toNat < nn → va_P (dC, dI) vwCl (wMod cI cZ cQ b mday mdoo mdA mdB mfar mmar mtel mgai mfal mtop mstr mgho mfai mpto mwal mahd mahf mcho mbes mbyt mtxt mpos mtka mtok mdig mnum mfau mrdm mrea mlin mlne mthg_42 mord mbor mbsm mans mand manr mali) H → va_D A (wMod cI cZ cQ b mday mdoo mdA mdB mfar mmar mtel mgai mfal mtop mstr mgho mfai mpto mwal mahd mahf mcho mbes mbyt mtxt mpos mtka mtok mdig mnum mfau mrdm mrea mlin mlne mthg_42 mord mbor mbsm mans mand manr mali) → va_S A s.heap H locs → lv_has ls 9 [(0, .ref (b 39)), (3, .int n), (4, .int i), (6, .int y42_6)] → W p l e (headSpec wsX10_laid { frames := 3, cells := 0, slots := 0, locals := 75 }).room s m ([.ref (b 39), .long row, .int n, .int i] : List Value).toArray below meth c H locs 0 0 (MQ below (va_Qi (fun (r : Int32) (u : US) => (rg 8 (0) (31) (u.1 0)) ∧ (rg 8 (-1) (8) (u.1 2))) (Bw (dC, dI) A (fun u : US => (wMod cI cZ cQ b mday mdoo mdA mdB mfar mmar mtel mgai mfal mtop mstr mgho mfai mpto mwal mahd mahf mcho mbes mbyt mtxt mpos mtka mtok mdig mnum mfau mrdm mrea mlin mlne (u.1 0) (u.1 2) (u.1 3) (u.1 1 0) mans mand manr mali))) A) ([.ref (b 39), .long row, .int n, .int i] : List Value).toArray s 0 0 A) (F0 m 42 ls []) := by
          intro nn
          induction nn with
          | zero =>
            intro y42_6 mthg_42 H locs ls r_mthg_42 i42_0 i42_1 i42_2 hm42
            exact absurd hm42 (Nat.not_lt_zero _)
          | succ nn ih42 =>
            intro y42_6 mthg_42 H locs ls r_mthg_42 i42_0 i42_1 i42_2 hm42 hP hD hS hl
            refine lv_iload hx hb dX10_laid_42 (lv_at hl 3 rfl) ?_
            refine lv_iload_n hx hb dX10_laid_44 rfl (lv_at hl 1 rfl) ?_
            refine lv_icmp_ge (tgt := 142) hx hb dX10_laid_45 (by decide) (fun c8 => ?_) (fun c8 => ?_)
            · have dc8 : n.toInt ≤ y42_6.toInt := leC rfl rfl c8
              refine lv_aload_n hx hb dX10_laid_142 rfl (lv_at hl 0 rfl) ?_
              refine lv_iload_n hx hb dX10_laid_143 rfl (lv_at hl 1 rfl) ?_
              refine lv_iconst (v := 1) hx hb dX10_laid_144 (by decide) ?_
              refine wvV (As := [.int n, .int 1]) (rest := []) (wr := []) (w2 := (fun u : US => (wMod cI cZ cQ b mday mdoo mdA mdB mfar mmar mtel mgai mfal mtop mstr mgho mfai mpto mwal mahd mahf mcho mbes mbyt mtxt mpos mtka mtok mdig mnum mfau mrdm mrea mlin mlne mthg_42 (u.1 1) (u.1 2) (u.1 0 0) mans mand manr mali))) ⟨hx, hb, hml, hown, hts⟩ (k_X10_findOrder l dC dI cI cZ cQ b mday mdoo mdA mdB mfar mmar mtel mgai mfal mtop mstr mgho mfai mpto mwal mahd mahf mcho mbes mbyt mtxt mpos mtka mtok mdig mnum mfau mrdm mrea mlin mlne mthg_42 mord mbor mbsm mans mand manr mali _ n (1 : Int32) r_mday r_mdoo r_mdA r_mdB r_mmar r_mgai r_mfal r_mtop r_mstr r_mgho r_mfai r_mahd r_mahf r_mcho r_mbyt r_mpos r_mrdm r_mlin r_mthg_42 r_mord r_mans (by omega) (by omega) (by assumption)) (cwV 2 hts gX10_laid_X10_findOrder rfl rfl rfl (by decide +kernel) ⟨Nat.le_of_ble_eq_true rfl, Nat.le_of_ble_eq_true rfl⟩) hP hD hS hA hK hN [0, 1, 2, 3, 4, 5, 6, 7, 8, 9, 10, 11, 12, 13, 14, 15, 16, 17, 18, 19, 20, 21, 22, 23, 24, 25] [] [0, 1, 2, 3, 4, 5, 6, 7, 8, 9, 10, 11, 12, 13, 14, 15, 16, 17, 18, 19, 20, 21, 22, 23, 24, 25] rfl rfl (by decide) (by decide) (by decide) (fun _ => rfl) (by decide) 0 10 rfl rfl rfl hl.1 rfl (Nat.le_of_ble_eq_true rfl) dX10_laid_145 ⟨Nat.le_of_ble_eq_true rfl, Nat.le_of_ble_eq_true rfl⟩ (fun u11 H locs h10 hP hD hS => ?_)
              obtain ⟨mbsm_c12, embsm_c12⟩ : ∃ f : Int32, f = (u11.1 0 0) := ⟨_, rfl⟩
              obtain ⟨mord_c13, emord_c13⟩ : ∃ f : Nat → Int32, f = (u11.1 1) := ⟨_, rfl⟩
              obtain ⟨mbor_c14, embor_c14⟩ : ∃ f : Nat → Int32, f = (u11.1 2) := ⟨_, rfl⟩
              have hP : va_P (dC, dI) vwCl (wMod cI cZ cQ b mday mdoo mdA mdB mfar mmar mtel mgai mfal mtop mstr mgho mfai mpto mwal mahd mahf mcho mbes mbyt mtxt mpos mtka mtok mdig mnum mfau mrdm mrea mlin mlne mthg_42 mord_c13 mbor_c14 mbsm_c12 mans mand manr mali) H := by rw [embsm_c12, emord_c13, embor_c14]; exact hP
              have hD : va_D A (wMod cI cZ cQ b mday mdoo mdA mdB mfar mmar mtel mgai mfal mtop mstr mgho mfai mpto mwal mahd mahf mcho mbes mbyt mtxt mpos mtka mtok mdig mnum mfau mrdm mrea mlin mlne mthg_42 mord_c13 mbor_c14 mbsm_c12 mans mand manr mali) := by rw [embsm_c12, emord_c13, embor_c14]; exact hD
              have h10 : (rg 8 (-1) (8) mord_c13) := by (try rw [embsm_c12]); (try rw [emord_c13]); (try rw [embor_c14]); exact h10
              have h10_0 := h10
              refine lv_iload hx hb dX10_laid_148 (lv_at hl 2 rfl) ?_
              refine lv_iconst (v := (-1)) hx hb dX10_laid_150 (by decide) ?_
              refine lv_icmp_ne (tgt := 161) hx hb dX10_laid_151 (by decide) (fun c15 => ?_) (fun c15 => ?_)
              · have dc15 : 0 ≤ i.toInt := ka_lo (by omega) (neC rfl (show ((-1) : Int32).toInt = (-1) from rfl) c15)
                refine lv_iload hx hb dX10_laid_161 (lv_at hl 2 rfl) ?_
                refine lv_iload_n hx hb dX10_laid_163 rfl (lv_at hl 1 rfl) ?_
                refine lv_icmp_ge (tgt := 177) hx hb dX10_laid_164 (by decide) (fun c16 => ?_) (fun c16 => ?_)
                · have dc16 : n.toInt ≤ i.toInt := leC rfl rfl c16
                  refine lv_iconst (v := (-1)) hx hb dX10_laid_177 (by decide) ?_
                  exact W.iret (v := (-1)) hx hb hr (fun tq ht hW => ⟨⟨(-1), (uS [mthg_42, (fun _ => mbsm_c12), mord_c13, mbor_c14] 0 (fun _ => 0)), rfl, ⟨r_mthg_42, h10_0⟩, by rw [ht]; exact hP, hD⟩, hS.F ht⟩) hS.2.2 dX10_laid_178
                · have dc16 : i.toInt < n.toInt := nleC rfl rfl c16
                  refine lv_aload_n hx hb dX10_laid_167 rfl (lv_at hl 0 rfl) ?_
                  refine va_get (D := (dC, dI)) (ci := 10) (v := .ref (b 33)) (C := RX10) (T := TX10) (N := 39) hx hb hts inX10 hown hK hP 0 rfl rfl 33 (by decide) lf77 (fun _ h9 => h9) rfl dX10_laid_168 ?_
                  refine lv_iload hx hb dX10_laid_171 (lv_at hl 2 rfl) ?_
                  have b17 : vp_in i 8 := inC rfl (by omega) (by omega)
                  refine va_iald hx hb hK hP 21 0 rfl rfl b17 dX10_laid_173 ?_
                  refine lv_goto (tgt := 178) hx hb dX10_laid_174 (by decide) ?_
                  exact W.iret (v := mbor_c14 i.toNatClampNeg) hx hb hr (fun tq ht hW => ⟨⟨mbor_c14 i.toNatClampNeg, (uS [mthg_42, (fun _ => mbsm_c12), mord_c13, mbor_c14] 0 (fun _ => 0)), rfl, ⟨r_mthg_42, h10_0⟩, by rw [ht]; exact hP, hD⟩, hS.F ht⟩) hS.2.2 dX10_laid_178
              · have dc15 : i.toInt = (-1) := eqC rfl (show ((-1) : Int32).toInt = (-1) from rfl) c15
                refine lv_aload_n hx hb dX10_laid_154 rfl (lv_at hl 0 rfl) ?_
                refine va_get (D := (dC, dI)) (ci := 10) (v := .int mbsm_c12) (C := RX10) (T := TX10) (N := 39) hx hb hts inX10 hown hK hP 0 rfl rfl 34 (by decide) lf225 (fun _ h9 => h9) rfl dX10_laid_155 ?_
                refine lv_goto (tgt := 178) hx hb dX10_laid_158 (by decide) ?_
                exact W.iret (v := mbsm_c12) hx hb hr (fun tq ht hW => ⟨⟨mbsm_c12, (uS [mthg_42, (fun _ => mbsm_c12), mord_c13, mbor_c14] 0 (fun _ => 0)), rfl, ⟨r_mthg_42, h10_0⟩, by rw [ht]; exact hP, hD⟩, hS.F ht⟩) hS.2.2 dX10_laid_178
            · have dc8 : y42_6.toInt < n.toInt := nleC rfl rfl c8
              refine lv_iload hx hb dX10_laid_48 (lv_at hl 3 rfl) ?_
              refine lv_iconst (v := 1) hx hb dX10_laid_50 (by decide) ?_
              refine lv_iadd hx hb dX10_laid_51 ?_
              have f18 : (y42_6 + 1).toInt = (y42_6.toInt) + (1) := addC rfl (show (1 : Int32).toInt = 1 from rfl) (by omega) (by omega)
              refine lv_topi (fun x19 ex19 => ?_)
              have ix19 : x19.toInt = (y42_6.toInt) + (1) := by rw [ex19]; exact f18
              refine lv_istore (lv' := [(7, .int x19), (0, .ref (b 39)), (3, .int n), (4, .int i), (6, .int y42_6)]) hx hb dX10_laid_52 hl (by decide) rfl (fun ls hl => ?_)
              have L54 : ∀ (nn : Nat) (y54_7 : Int32) (mthg_54 : Nat → Int32) (H : Heap) (locs : List Loc) (ls : Array Slot), (rg 8 (0) (31) mthg_54) → (1 ≤ (y54_7.toInt)) → ((y54_7.toInt) ≤ 8) → (∀ j : Nat, (j : Int) < n.toInt → (mthg_54 j).toInt ≤ 23) → (8 - (y54_7.toInt)).toNat < nn → va_P (dC, dI) vwCl (wMod cI cZ cQ b mday mdoo mdA mdB mfar mmar mtel mgai mfal mtop mstr mgho mfai mpto mwal mahd mahf mcho mbes mbyt mtxt mpos mtka mtok mdig mnum mfau mrdm mrea mlin mlne mthg_54 mord mbor mbsm mans mand manr mali) H → va_D A (wMod cI cZ cQ b mday mdoo mdA mdB mfar mmar mtel mgai mfal mtop mstr mgho mfai mpto mwal mahd mahf mcho mbes mbyt mtxt mpos mtka mtok mdig mnum mfau mrdm mrea mlin mlne mthg_54 mord mbor mbsm mans mand manr mali) → va_S A s.heap H locs → lv_has ls 9 [(0, .ref (b 39)), (3, .int n), (4, .int i), (6, .int y42_6), (7, .int y54_7)] → W p l e (headSpec wsX10_laid { frames := 3, cells := 0, slots := 0, locals := 75 }).room s m ([.ref (b 39), .long row, .int n, .int i] : List Value).toArray below meth c H locs 0 0 (MQ below (va_Qi (fun (r : Int32) (u : US) => (rg 8 (0) (31) (u.1 0)) ∧ (rg 8 (-1) (8) (u.1 2))) (Bw (dC, dI) A (fun u : US => (wMod cI cZ cQ b mday mdoo mdA mdB mfar mmar mtel mgai mfal mtop mstr mgho mfai mpto mwal mahd mahf mcho mbes mbyt mtxt mpos mtka mtok mdig mnum mfau mrdm mrea mlin mlne (u.1 0) (u.1 2) (u.1 3) (u.1 1 0) mans mand manr mali))) A) ([.ref (b 39), .long row, .int n, .int i] : List Value).toArray s 0 0 A) (F0 m 54 ls []) := by
                intro nn
                induction nn with
                | zero =>
                  intro y54_7 mthg_54 H locs ls r_mthg_54 i54_0 i54_1 i54_2 hm54
                  exact absurd hm54 (Nat.not_lt_zero _)
                | succ nn ih54 =>
                  intro y54_7 mthg_54 H locs ls r_mthg_54 i54_0 i54_1 i54_2 hm54 hP hD hS hl
                  refine lv_iload hx hb dX10_laid_54 (lv_at hl 4 rfl) ?_
                  refine lv_iload_n hx hb dX10_laid_56 rfl (lv_at hl 1 rfl) ?_
                  refine lv_icmp_ge (tgt := 136) hx hb dX10_laid_57 (by decide) (fun c20 => ?_) (fun c20 => ?_)
                  · have dc20 : n.toInt ≤ y54_7.toInt := leC rfl rfl c20
                    obtain ⟨z21, ez21⟩ : ∃ y : Int32, y = y42_6 + 1 := ⟨_, rfl⟩
                    have iz21 : z21.toInt = y42_6.toInt + 1 := by rw [ez21]; exact addC rfl rfl (by omega) (by omega)
                    refine lv_iinc (v := z21) (lv' := [(6, .int z21), (0, .ref (b 39)), (3, .int n), (4, .int i), (7, .int y54_7)]) hx hb dX10_laid_136 hl (k := 3) rfl (by rw [ez21]; rfl) (by decide) rfl (fun ls hl => ?_)
                    refine lv_goto (tgt := 42) hx hb dX10_laid_139 (by decide) ?_
                    exact ih42 z21 mthg_54 _ _ _ r_mthg_54 (by omega) (by omega) (by (first | assumption | exact th_two emthg_54 (by assumption) i54_2 (by omega) (by omega))) (by omega) hP hD hS (lv_sub hl [1, 2, 3, 0] rfl)
                  · have dc20 : y54_7.toInt < n.toInt := nleC rfl rfl c20
                    have wa := th_at i54_2 (y := y42_6) (rfl) (by omega) (by omega)
                    have wb := th_at i54_2 (y := y54_7) (rfl) (by omega) (by omega)
                    have L96 : ∀ (y96_8 : Int32) (H : Heap) (locs : List Loc) (ls : Array Slot), (0 ≤ (y96_8.toInt)) → ((y96_8.toInt) ≤ 23) → (((y96_8.toInt) = (mthg_54 y42_6.toNatClampNeg).toInt ∧ (y96_8.toInt) ≤ (mthg_54 y54_7.toNatClampNeg).toInt) ∨ ((y96_8.toInt) = (mthg_54 y54_7.toNatClampNeg).toInt ∧ (y96_8.toInt) ≤ (mthg_54 y42_6.toNatClampNeg).toInt)) → va_P (dC, dI) vwCl (wMod cI cZ cQ b mday mdoo mdA mdB mfar mmar mtel mgai mfal mtop mstr mgho mfai mpto mwal mahd mahf mcho mbes mbyt mtxt mpos mtka mtok mdig mnum mfau mrdm mrea mlin mlne mthg_54 mord mbor mbsm mans mand manr mali) H → va_D A (wMod cI cZ cQ b mday mdoo mdA mdB mfar mmar mtel mgai mfal mtop mstr mgho mfai mpto mwal mahd mahf mcho mbes mbyt mtxt mpos mtka mtok mdig mnum mfau mrdm mrea mlin mlne mthg_54 mord mbor mbsm mans mand manr mali) → va_S A s.heap H locs → lv_has ls 9 [(0, .ref (b 39)), (3, .int n), (4, .int i), (6, .int y42_6), (7, .int y54_7), (8, .int y96_8)] → W p l e (headSpec wsX10_laid { frames := 3, cells := 0, slots := 0, locals := 75 }).room s m ([.ref (b 39), .long row, .int n, .int i] : List Value).toArray below meth c H locs 0 0 (MQ below (va_Qi (fun (r : Int32) (u : US) => (rg 8 (0) (31) (u.1 0)) ∧ (rg 8 (-1) (8) (u.1 2))) (Bw (dC, dI) A (fun u : US => (wMod cI cZ cQ b mday mdoo mdA mdB mfar mmar mtel mgai mfal mtop mstr mgho mfai mpto mwal mahd mahf mcho mbes mbyt mtxt mpos mtka mtok mdig mnum mfau mrdm mrea mlin mlne (u.1 0) (u.1 2) (u.1 3) (u.1 1 0) mans mand manr mali))) A) ([.ref (b 39), .long row, .int n, .int i] : List Value).toArray s 0 0 A) (F0 m 96 ls []) := by
                      intro y96_8 H locs ls i96_0 i96_1 i96_2 hP hD hS hl
                      refine lv_aload_n hx hb dX10_laid_96 rfl (lv_at hl 0 rfl) ?_
                      refine va_get (D := (dC, dI)) (ci := 10) (v := .ref (b 31)) (C := RX10) (T := TX10) (N := 39) hx hb hts inX10 hown hK hP 0 rfl rfl 31 (by decide) lf71 (fun _ h9 => h9) rfl dX10_laid_97 ?_
                      refine lv_iload hx hb dX10_laid_100 (lv_at hl 4 rfl) ?_
                      refine lv_aload_n hx hb dX10_laid_102 rfl (lv_at hl 0 rfl) ?_
                      refine va_get (D := (dC, dI)) (ci := 10) (v := .ref (b 31)) (C := RX10) (T := TX10) (N := 39) hx hb hts inX10 hown hK hP 0 rfl rfl 31 (by decide) lf71 (fun _ h9 => h9) rfl dX10_laid_103 ?_
                      refine lv_iload hx hb dX10_laid_106 (lv_at hl 3 rfl) ?_
                      have b22 : vp_in y42_6 8 := inC rfl (by omega) (by omega)
                      refine va_iald hx hb hK hP 19 0 rfl rfl b22 dX10_laid_108 ?_
                      have g23 : 0 ≤ (mthg_54 y42_6.toNatClampNeg).toInt ∧ (mthg_54 y42_6.toNatClampNeg).toInt ≤ 31 := rg_at r_mthg_54 b22
                      refine lv_aload_n hx hb dX10_laid_109 rfl (lv_at hl 0 rfl) ?_
                      refine va_get (D := (dC, dI)) (ci := 10) (v := .ref (b 31)) (C := RX10) (T := TX10) (N := 39) hx hb hts inX10 hown hK hP 0 rfl rfl 31 (by decide) lf71 (fun _ h9 => h9) rfl dX10_laid_110 ?_
                      refine lv_iload hx hb dX10_laid_113 (lv_at hl 4 rfl) ?_
                      have b24 : vp_in y54_7 8 := inC rfl (by omega) (by omega)
                      refine va_iald hx hb hK hP 19 0 rfl rfl b24 dX10_laid_115 ?_
                      have g25 : 0 ≤ (mthg_54 y54_7.toNatClampNeg).toInt ∧ (mthg_54 y54_7.toNatClampNeg).toInt ≤ 31 := rg_at r_mthg_54 b24
                      refine lv_iadd hx hb dX10_laid_116 ?_
                      have f26 : ((mthg_54 y42_6.toNatClampNeg) + (mthg_54 y54_7.toNatClampNeg)).toInt = ((mthg_54 y42_6.toNatClampNeg).toInt) + ((mthg_54 y54_7.toNatClampNeg).toInt) := addC rfl rfl (by omega) (by omega)
                      refine lv_iload hx hb dX10_laid_117 (lv_at hl 5 rfl) ?_
                      refine lv_isub hx hb dX10_laid_119 ?_
                      have f27 : (((mthg_54 y42_6.toNatClampNeg) + (mthg_54 y54_7.toNatClampNeg)) - y96_8).toInt = (((mthg_54 y42_6.toNatClampNeg).toInt) + ((mthg_54 y54_7.toNatClampNeg).toInt)) - (y96_8.toInt) := subC f26 rfl (by omega) (by omega)
                      refine lv_topi (fun x28 ex28 => ?_)
                      have ix28 : x28.toInt = (((mthg_54 y42_6.toNatClampNeg).toInt) + ((mthg_54 y54_7.toNatClampNeg).toInt)) - (y96_8.toInt) := by rw [ex28]; exact f27
                      have b29 : vp_in y54_7 8 := inC rfl (by omega) (by omega)
                      have g30 : rg 8 (0) (31) (upd mthg_54 y54_7.toNatClampNeg x28) := rg_upd r_mthg_54 rfl (by omega) (by omega)
                      refine va_iast hx hb hK hP hD hS 19 0 rfl rfl b29 dX10_laid_120 (fun H locs hP hD hS => ?_)
                      obtain ⟨mthg_u31, emthg_u31⟩ : ∃ f : Nat → Int32, f = upd mthg_54 y54_7.toNatClampNeg x28 := ⟨_, rfl⟩
                      have rmthg_u31 : rg 8 (0) (31) mthg_u31 := by rw [emthg_u31]; exact g30
                      have hP : va_P (dC, dI) vwCl (wMod cI cZ cQ b mday mdoo mdA mdB mfar mmar mtel mgai mfal mtop mstr mgho mfai mpto mwal mahd mahf mcho mbes mbyt mtxt mpos mtka mtok mdig mnum mfau mrdm mrea mlin mlne mthg_u31 mord mbor mbsm mans mand manr mali) H := by rw [emthg_u31]; exact hP
                      have hD : va_D A (wMod cI cZ cQ b mday mdoo mdA mdB mfar mmar mtel mgai mfal mtop mstr mgho mfai mpto mwal mahd mahf mcho mbes mbyt mtxt mpos mtka mtok mdig mnum mfau mrdm mrea mlin mlne mthg_u31 mord mbor mbsm mans mand manr mali) := by rw [emthg_u31]; exact hD
                      refine lv_aload_n hx hb dX10_laid_121 rfl (lv_at hl 0 rfl) ?_
                      refine va_get (D := (dC, dI)) (ci := 10) (v := .ref (b 31)) (C := RX10) (T := TX10) (N := 39) hx hb hts inX10 hown hK hP 0 rfl rfl 31 (by decide) lf71 (fun _ h9 => h9) rfl dX10_laid_122 ?_
                      refine lv_iload hx hb dX10_laid_125 (lv_at hl 3 rfl) ?_
                      refine lv_iload hx hb dX10_laid_127 (lv_at hl 5 rfl) ?_
                      have b32 : vp_in y42_6 8 := inC rfl (by omega) (by omega)
                      have g33 : rg 8 (0) (31) (upd mthg_u31 y42_6.toNatClampNeg y96_8) := rg_upd rmthg_u31 rfl (by omega) (by omega)
                      refine va_iast hx hb hK hP hD hS 19 0 rfl rfl b32 dX10_laid_129 (fun H locs hP hD hS => ?_)
                      obtain ⟨mthg_u34, emthg_u34⟩ : ∃ f : Nat → Int32, f = upd mthg_u31 y42_6.toNatClampNeg y96_8 := ⟨_, rfl⟩
                      have rmthg_u34 : rg 8 (0) (31) mthg_u34 := by rw [emthg_u34]; exact g33
                      have hP : va_P (dC, dI) vwCl (wMod cI cZ cQ b mday mdoo mdA mdB mfar mmar mtel mgai mfal mtop mstr mgho mfai mpto mwal mahd mahf mcho mbes mbyt mtxt mpos mtka mtok mdig mnum mfau mrdm mrea mlin mlne mthg_u34 mord mbor mbsm mans mand manr mali) H := by rw [emthg_u34]; exact hP
                      have hD : va_D A (wMod cI cZ cQ b mday mdoo mdA mdB mfar mmar mtel mgai mfal mtop mstr mgho mfai mpto mwal mahd mahf mcho mbes mbyt mtxt mpos mtka mtok mdig mnum mfau mrdm mrea mlin mlne mthg_u34 mord mbor mbsm mans mand manr mali) := by rw [emthg_u34]; exact hD
                      obtain ⟨z35, ez35⟩ : ∃ y : Int32, y = y54_7 + 1 := ⟨_, rfl⟩
                      have iz35 : z35.toInt = y54_7.toInt + 1 := by rw [ez35]; exact addC rfl rfl (by omega) (by omega)
                      refine lv_iinc (v := z35) (lv' := [(7, .int z35), (0, .ref (b 39)), (3, .int n), (4, .int i), (6, .int y42_6), (8, .int y96_8)]) hx hb dX10_laid_130 hl (k := 4) rfl (by rw [ez35]; rfl) (by decide) rfl (fun ls hl => ?_)
                      refine lv_goto (tgt := 54) hx hb dX10_laid_133 (by decide) ?_
                      exact ih54 z35 mthg_u34 _ _ _ rmthg_u34 (by omega) (by omega) (by (first | assumption | exact th_two emthg_u34 (by assumption) i54_2 (by omega) (by omega))) (by omega) hP hD hS (lv_sub hl [1, 2, 3, 4, 0] rfl)
                    refine lv_aload_n hx hb dX10_laid_60 rfl (lv_at hl 0 rfl) ?_
                    refine va_get (D := (dC, dI)) (ci := 10) (v := .ref (b 31)) (C := RX10) (T := TX10) (N := 39) hx hb hts inX10 hown hK hP 0 rfl rfl 31 (by decide) lf71 (fun _ h9 => h9) rfl dX10_laid_61 ?_
                    refine lv_iload hx hb dX10_laid_64 (lv_at hl 3 rfl) ?_
                    have b36 : vp_in y42_6 8 := inC rfl (by omega) (by omega)
                    refine va_iald hx hb hK hP 19 0 rfl rfl b36 dX10_laid_66 ?_
                    have g37 : 0 ≤ (mthg_54 y42_6.toNatClampNeg).toInt ∧ (mthg_54 y42_6.toNatClampNeg).toInt ≤ 31 := rg_at r_mthg_54 b36
                    refine lv_aload_n hx hb dX10_laid_67 rfl (lv_at hl 0 rfl) ?_
                    refine va_get (D := (dC, dI)) (ci := 10) (v := .ref (b 31)) (C := RX10) (T := TX10) (N := 39) hx hb hts inX10 hown hK hP 0 rfl rfl 31 (by decide) lf71 (fun _ h9 => h9) rfl dX10_laid_68 ?_
                    refine lv_iload hx hb dX10_laid_71 (lv_at hl 4 rfl) ?_
                    have b38 : vp_in y54_7 8 := inC rfl (by omega) (by omega)
                    refine va_iald hx hb hK hP 19 0 rfl rfl b38 dX10_laid_73 ?_
                    have g39 : 0 ≤ (mthg_54 y54_7.toNatClampNeg).toInt ∧ (mthg_54 y54_7.toNatClampNeg).toInt ≤ 31 := rg_at r_mthg_54 b38
                    refine lv_icmp_ge (tgt := 87) hx hb dX10_laid_74 (by decide) (fun c40 => ?_) (fun c40 => ?_)
                    · have dc40 : (mthg_54 y54_7.toNatClampNeg).toInt ≤ (mthg_54 y42_6.toNatClampNeg).toInt := leC rfl rfl c40
                      refine lv_aload_n hx hb dX10_laid_87 rfl (lv_at hl 0 rfl) ?_
                      refine va_get (D := (dC, dI)) (ci := 10) (v := .ref (b 31)) (C := RX10) (T := TX10) (N := 39) hx hb hts inX10 hown hK hP 0 rfl rfl 31 (by decide) lf71 (fun _ h9 => h9) rfl dX10_laid_88 ?_
                      refine lv_iload hx hb dX10_laid_91 (lv_at hl 4 rfl) ?_
                      have b41 : vp_in y54_7 8 := inC rfl (by omega) (by omega)
                      refine va_iald hx hb hK hP 19 0 rfl rfl b41 dX10_laid_93 ?_
                      have g42 : 0 ≤ (mthg_54 y54_7.toNatClampNeg).toInt ∧ (mthg_54 y54_7.toNatClampNeg).toInt ≤ 31 := rg_at r_mthg_54 b41
                      refine lv_topi (fun x43 ex43 => ?_)
                      have ix43 : x43.toInt = (mthg_54 y54_7.toNatClampNeg).toInt := by rw [ex43]
                      refine lv_istore (lv' := [(8, .int x43), (0, .ref (b 39)), (3, .int n), (4, .int i), (6, .int y42_6), (7, .int y54_7)]) hx hb dX10_laid_94 hl (by decide) rfl (fun ls hl => ?_)
                      exact L96 x43 _ _ _ (by omega) (by omega) (by omega) hP hD hS (lv_sub hl [1, 2, 3, 4, 5, 0] rfl)
                    · have dc40 : (mthg_54 y42_6.toNatClampNeg).toInt < (mthg_54 y54_7.toNatClampNeg).toInt := nleC rfl rfl c40
                      refine lv_aload_n hx hb dX10_laid_77 rfl (lv_at hl 0 rfl) ?_
                      refine va_get (D := (dC, dI)) (ci := 10) (v := .ref (b 31)) (C := RX10) (T := TX10) (N := 39) hx hb hts inX10 hown hK hP 0 rfl rfl 31 (by decide) lf71 (fun _ h9 => h9) rfl dX10_laid_78 ?_
                      refine lv_iload hx hb dX10_laid_81 (lv_at hl 3 rfl) ?_
                      have b44 : vp_in y42_6 8 := inC rfl (by omega) (by omega)
                      refine va_iald hx hb hK hP 19 0 rfl rfl b44 dX10_laid_83 ?_
                      have g45 : 0 ≤ (mthg_54 y42_6.toNatClampNeg).toInt ∧ (mthg_54 y42_6.toNatClampNeg).toInt ≤ 31 := rg_at r_mthg_54 b44
                      refine lv_goto (tgt := 94) hx hb dX10_laid_84 (by decide) ?_
                      refine lv_topi (fun x46 ex46 => ?_)
                      have ix46 : x46.toInt = (mthg_54 y42_6.toNatClampNeg).toInt := by rw [ex46]
                      refine lv_istore (lv' := [(8, .int x46), (0, .ref (b 39)), (3, .int n), (4, .int i), (6, .int y42_6), (7, .int y54_7)]) hx hb dX10_laid_94 hl (by decide) rfl (fun ls hl => ?_)
                      exact L96 x46 _ _ _ (by omega) (by omega) (by omega) hP hD hS (lv_sub hl [1, 2, 3, 4, 5, 0] rfl)
              exact L54 _ x19 mthg_42 _ _ _ r_mthg_42 (by omega) (by omega) (by (first | assumption | exact th_two emthg_42 (by assumption) i54_2 (by omega) (by omega))) (Nat.lt_succ_self _) hP hD hS (lv_sub hl [1, 2, 3, 4, 0] rfl)
        have kc47 : (0 : Int32).toInt = 0 := rfl
        exact L42 _ 0 mthg_c6 _ _ _ h4_0 (by omega) (by omega) (by (first | assumption | exact th_two emthg_c6 (by assumption) i54_2 (by omega) (by omega))) (Nat.lt_succ_self _) hP hD hS (lv_sub hl [2, 4, 5, 0] rfl)
      · have dc7 : i.toInt < (-1) := nleC (show ((-1) : Int32).toInt = (-1) from rfl) rfl c7
        refine lv_bipush (v := (-3)) hx hb dX10_laid_36 (by decide) ?_
        exact W.iret (v := (-3)) hx hb hr (fun tq ht hW => ⟨⟨(-3), (uS [mthg_c6, (fun _ => mbsm), mord, mbor] 0 (fun _ => 0)), rfl, ⟨h4_0, r_mord⟩, by rw [ht]; exact hP, hD⟩, hS.F ht⟩) hS.2.2 dX10_laid_38
    · refine lv_istore (lv' := [(5, .int (-2)), (0, .ref (b 39)), (1, .long row), (3, .int n), (4, .int i)]) hx hb dX10_laid_19 hl (by decide) rfl (fun ls hl => ?_)
      refine lv_iload hx hb dX10_laid_21 (lv_at hl 0 rfl) ?_
      refine lv_iconst (v := 1) hx hb dX10_laid_23 (by decide) ?_
      refine lv_icmp_eq (tgt := 30) hx hb dX10_laid_24 (by decide) (fun c9 => absurd c9 (by decide)) (fun _ => ?_)
      refine lv_iload hx hb dX10_laid_27 (lv_at hl 0 rfl) ?_
      exact W.iret (v := (-2)) hx hb hr (fun tq ht hW => ⟨⟨(-2), (uS [mthg_c6, (fun _ => mbsm), mord, mbor] 0 (fun _ => 0)), rfl, ⟨h4_0, r_mord⟩, by rw [ht]; exact hP, hD⟩, hS.F ht⟩) hS.2.2 dX10_laid_29
    · refine lv_istore (lv' := [(5, .int (-3)), (0, .ref (b 39)), (1, .long row), (3, .int n), (4, .int i)]) hx hb dX10_laid_19 hl (by decide) rfl (fun ls hl => ?_)
      refine lv_iload hx hb dX10_laid_21 (lv_at hl 0 rfl) ?_
      refine lv_iconst (v := 1) hx hb dX10_laid_23 (by decide) ?_
      refine lv_icmp_eq (tgt := 30) hx hb dX10_laid_24 (by decide) (fun c9 => absurd c9 (by decide)) (fun _ => ?_)
      refine lv_iload hx hb dX10_laid_27 (lv_at hl 0 rfl) ?_
      exact W.iret (v := (-3)) hx hb hr (fun tq ht hW => ⟨⟨(-3), (uS [mthg_c6, (fun _ => mbsm), mord, mbor] 0 (fun _ => 0)), rfl, ⟨h4_0, r_mord⟩, by rw [ht]; exact hP, hD⟩, hS.F ht⟩) hS.2.2 dX10_laid_29
  · refine lv_if_ne (tgt := 13) hx hb dX10_laid_7 (by decide) (fun c9 => absurd (by decide) c9) (fun _ => ?_)
    refine lv_bipush (v := (-3)) hx hb dX10_laid_10 (by decide) ?_
    exact W.iret (v := (-3)) hx hb hr (fun tq ht hW => ⟨⟨(-3), (uS [mthg, (fun _ => mbsm), mord, mbor] 0 (fun _ => 0)), rfl, ⟨r_mthg, r_mord⟩, by rw [ht]; exact hP, hD⟩, hS.F ht⟩) hS.2.2 dX10_laid_12
