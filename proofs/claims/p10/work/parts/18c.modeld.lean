set_option maxHeartbeats 4000000 in
set_option maxRecDepth 100000 in
theorem k_X10_findOrder (l : Launch) (dC : Nat → ClassId) (dI : Nat → Nat → Nat) (cI cZ cQ : ClassId) (b : Nat → Nat) (mday : Int32) (mdoo : Int32) (mdA : Nat → Int32) (mdB : Nat → Int32) (mfar : Nat → Int32) (mmar : Nat → Int32) (mtel : Int32) (mgai : Int32) (mfal : Nat → Int32) (mtop : Nat → Int32) (mstr : Nat → Int32) (mgho : Nat → Int32) (mfai : Nat → Int32) (mpto : Nat → Int32) (mwal : Nat → Int32) (mahd : Nat → Int32) (mahf : Nat → Int32) (mcho : Nat → Int32) (mbes : Nat → Int32) (mbyt : Int32) (mtxt : Nat → Int32) (mpos : Int32) (mtka : Int32) (mtok : Int64) (mdig : Int32) (mnum : Int32) (mfau : Int32) (mrdm : Int32) (mrea : Nat → Int32) (mlin : Int32) (mlne : Nat → Int32) (mthg : Nat → Int32) (mord : Nat → Int32) (mbor : Nat → Int32) (mbsm : Int32) (mans : Nat → Int32) (mand : Nat → Int32) (manr : Nat → Int32) (mali : Nat → Int32) (sz : Nat) (n : Int32) (sp : Int32) (r_mday : 0 ≤ mday.toInt ∧ mday.toInt ≤ 400) (r_mdoo : 0 ≤ mdoo.toInt ∧ mdoo.toInt ≤ 14) (r_mdA : rg 14 (0) (7) mdA) (r_mdB : rg 14 (0) (7) mdB) (r_mmar : rg 24 (0) (255) mmar) (r_mgai : 0 ≤ mgai.toInt ∧ mgai.toInt ≤ 100) (r_mfal : rg 11 (0) (30) mfal) (r_mtop : rg 48 (-1) (23) mtop) (r_mstr : rg 48 (0) (100) mstr) (r_mgho : rg 48 (-1) (23) mgho) (r_mfai : rg 48 (0) (100) mfai) (r_mahd : rg 240 (0) (100) mahd) (r_mahf : rg 240 (0) (100) mahf) (r_mcho : rg 5 (-1) (9) mcho) (r_mbyt : 0 ≤ mbyt.toInt ∧ mbyt.toInt ≤ 160) (r_mpos : 0 ≤ mpos.toInt ∧ mpos.toInt ≤ 160) (r_mrdm : 0 ≤ mrdm.toInt ∧ mrdm.toInt ≤ 10) (r_mlin : 0 ≤ mlin.toInt ∧ mlin.toInt ≤ 10) (r_mthg : rg 8 (0) (31) mthg) (r_mord : rg 8 (-1) (8) mord) (r_mans : rg 4 (0) (12) mans) (q0 : 1 ≤ n.toInt) (q1 : n.toInt ≤ 8) (q2 : ∀ j : Nat, (j : Int) < n.toInt → (mthg j).toInt ≤ 23) : KV l yX10_findOrder wsX10_findOrder { frames := 2, cells := 0, slots := 0, locals := 49 } (dC, dI) (TY cI cZ cQ) (wMod cI cZ cQ b mday mdoo mdA mdB mfar mmar mtel mgai mfal mtop mstr mgho mfai mpto mwal mahd mahf mcho mbes mbyt mtxt mpos mtka mtok mdig mnum mfau mrdm mrea mlin mlne mthg mord mbor mbsm mans mand manr mali) [.ref (b 39), .int n, .int sp] sz 0 0 (fun (u : US) => (rg 8 (-1) (8) (u.1 1))) (fun u : US => (wMod cI cZ cQ b mday mdoo mdA mdB mfar mmar mtel mgai mfal mtop mstr mgho mfai mpto mwal mahd mahf mcho mbes mbyt mtxt mpos mtka mtok mdig mnum mfau mrdm mrea mlin mlne mthg (u.1 1) (u.1 2) (u.1 0 0) mans mand manr mali)) := by
  refine Met.ofW (cc := cX10_findOrder) (maxL := 7) (ret := none) (by decide) rfl ?_
  intro p e s m args below meth c s₁ B hml hv
  obtain ⟨rfl, hsz, hP, hK, hD0, hN⟩ := hv
  have hx := B.exec
  have hb := B.bytes
  have hr := B.returns
  have hts := atoms_spec (ws := wsX10_findOrder) B.pre
  have hown : s.vm.findClass RX10 = some m.cls := findClass_of_methodNamed B.named
  have hlocks := B.notSynchronized
  have lf225 := hts (.fieldLink RX10 225 "PalaceOfRoomsModel" "bestSum" "I") (by decide +kernel)
  have inX10 : ∀ w ∈ wsX100, w ∈ wsX10_findOrder := by decide +kernel
  have lf74 := hts (.fieldLink RX10 74 "PalaceOfRoomsModel" "order" "[I") (by decide +kernel)
  have lf77 := hts (.fieldLink RX10 77 "PalaceOfRoomsModel" "bestOrder" "[I") (by decide +kernel)
  have lf71 := hts (.fieldLink RX10 71 "PalaceOfRoomsModel" "things" "[I") (by decide +kernel)
  subst hsz
  have hD := hD0.self (sz := s.heap.size)
  generalize hAe : va_A (wMod cI cZ cQ b mday mdoo mdA mdB mfar mmar mtel mgai mfal mtop mstr mgho mfai mpto mwal mahd mahf mcho mbes mbyt mtxt mpos mtka mtok mdig mnum mfau mrdm mrea mlin mlne mthg mord mbor mbsm mans mand manr mali) s.heap.size = A at hD ⊢
  have hA : ∀ q : Nat, s.heap.size ≤ q → A q := fun q h => by rw [← hAe]; exact Or.inr h
  have hS : va_S A s.heap s.heap [] := va_S.rf
  have hl := lv_entry ([.ref (b 39), .int n, .int sp]) (n := 7) (Nat.le_of_ble_eq_true rfl)
  rw [lg_entry_eq]
  generalize (lg_sl ([.ref (b 39), .int n, .int sp]) ++ List.replicate (7 - (lg_sl ([.ref (b 39), .int n, .int sp])).length) Slot.unset).toArray = ls at hl ⊢
  have hl : lv_has ls 7 [(0, .ref (b 39)), (1, .int n), (2, .int sp)] := hl
  refine lv_aload_n hx hb dX10_findOrder_0 rfl (lv_at hl 0 rfl) ?_
  refine lv_iconst (v := (-1)) hx hb dX10_findOrder_1 (by decide) ?_
  refine va_put (D := (dC, dI)) (ci := 10) (v := .int (-1)) (ty := .int) (C := RX10) (T := TX10) (N := 39) hx hb hts inX10 tyX10 tyX10_ok nmX10 hown hK hP hD hS 0 rfl rfl 34 (by decide) lf225 (fun _ h9 => h9) rfl (by decide +kernel) rfl rfl (Nat.le_of_ble_eq_true rfl) dX10_findOrder_2 (fun H locs hP hD hS => ?_)
  have hP : va_P (dC, dI) vwCl (wMod cI cZ cQ b mday mdoo mdA mdB mfar mmar mtel mgai mfal mtop mstr mgho mfai mpto mwal mahd mahf mcho mbes mbyt mtxt mpos mtka mtok mdig mnum mfau mrdm mrea mlin mlne mthg mord mbor (-1) mans mand manr mali) H := hP
  have hD : va_D A (wMod cI cZ cQ b mday mdoo mdA mdB mfar mmar mtel mgai mfal mtop mstr mgho mfai mpto mwal mahd mahf mcho mbes mbyt mtxt mpos mtka mtok mdig mnum mfau mrdm mrea mlin mlne mthg mord mbor (-1) mans mand manr mali) := hD
  refine lv_iconst (v := 0) hx hb dX10_findOrder_5 (by decide) ?_
  refine lv_istore_n (lv' := [(3, .int 0), (0, .ref (b 39)), (1, .int n), (2, .int sp)]) hx hb dX10_findOrder_6 rfl hl (by decide) rfl (fun ls hl => ?_)
  refine lv_aload_n hx hb dX10_findOrder_7 rfl (lv_at hl 1 rfl) ?_
  refine va_get (D := (dC, dI)) (ci := 10) (v := .ref (b 32)) (C := RX10) (T := TX10) (N := 39) hx hb hts inX10 hown hK hP 0 rfl rfl 32 (by decide) lf74 (fun _ h9 => h9) rfl dX10_findOrder_8 ?_
  refine lv_iconst (v := 0) hx hb dX10_findOrder_11 (by decide) ?_
  refine lv_iconst (v := (-1)) hx hb dX10_findOrder_12 (by decide) ?_
  have b1 : vp_in 0 8 := (show ¬ _ from by decide)
  have g2 : rg 8 (-1) (8) (upd mord (0 : Int32).toNatClampNeg (-1)) := rg_upd r_mord (show ((-1) : Int32).toInt = (-1) from rfl) (by omega) (by omega)
  refine va_iast hx hb hK hP hD hS 20 0 rfl rfl b1 dX10_findOrder_13 (fun H locs hP hD hS => ?_)
  obtain ⟨mord_u3, emord_u3⟩ : ∃ f : Nat → Int32, f = upd mord (0 : Int32).toNatClampNeg (-1) := ⟨_, rfl⟩
  have rmord_u3 : rg 8 (-1) (8) mord_u3 := by rw [emord_u3]; exact g2
  have hP : va_P (dC, dI) vwCl (wMod cI cZ cQ b mday mdoo mdA mdB mfar mmar mtel mgai mfal mtop mstr mgho mfai mpto mwal mahd mahf mcho mbes mbyt mtxt mpos mtka mtok mdig mnum mfau mrdm mrea mlin mlne mthg mord_u3 mbor (-1) mans mand manr mali) H := by rw [emord_u3]; exact hP
  have hD : va_D A (wMod cI cZ cQ b mday mdoo mdA mdB mfar mmar mtel mgai mfal mtop mstr mgho mfai mpto mwal mahd mahf mcho mbes mbyt mtxt mpos mtka mtok mdig mnum mfau mrdm mrea mlin mlne mthg mord_u3 mbor (-1) mans mand manr mali) := by rw [emord_u3]; exact hD
  have L14 : ∀ (nn : Nat) (y14_3 : Int32) (mbsm_14 : Int32) (mord_14 : Nat → Int32) (mbor_14 : Nat → Int32) (H : Heap) (locs : List Loc) (ls : Array Slot), (rg 8 (-1) (8) mord_14) → (-1 ≤ (y14_3.toInt)) → ((y14_3.toInt) ≤ 7) → ((y14_3.toInt) < n.toInt) → (ordOK n.toInt (y14_3.toInt) mord_14) → omM n.toInt 10 8 mord_14 ((y14_3.toInt) + 1).toNat < nn → va_P (dC, dI) vwCl (wMod cI cZ cQ b mday mdoo mdA mdB mfar mmar mtel mgai mfal mtop mstr mgho mfai mpto mwal mahd mahf mcho mbes mbyt mtxt mpos mtka mtok mdig mnum mfau mrdm mrea mlin mlne mthg mord_14 mbor_14 mbsm_14 mans mand manr mali) H → va_D A (wMod cI cZ cQ b mday mdoo mdA mdB mfar mmar mtel mgai mfal mtop mstr mgho mfai mpto mwal mahd mahf mcho mbes mbyt mtxt mpos mtka mtok mdig mnum mfau mrdm mrea mlin mlne mthg mord_14 mbor_14 mbsm_14 mans mand manr mali) → va_S A s.heap H locs → lv_has ls 7 [(0, .ref (b 39)), (1, .int n), (2, .int sp), (3, .int y14_3)] → W p l e (headSpec wsX10_findOrder { frames := 2, cells := 0, slots := 0, locals := 49 }).room s m ([.ref (b 39), .int n, .int sp] : List Value).toArray below meth c H locs 0 0 (MQ below (va_Qv (fun (u : US) => (rg 8 (-1) (8) (u.1 1))) (Bw (dC, dI) A (fun u : US => (wMod cI cZ cQ b mday mdoo mdA mdB mfar mmar mtel mgai mfal mtop mstr mgho mfai mpto mwal mahd mahf mcho mbes mbyt mtxt mpos mtka mtok mdig mnum mfau mrdm mrea mlin mlne mthg (u.1 1) (u.1 2) (u.1 0 0) mans mand manr mali))) A) ([.ref (b 39), .int n, .int sp] : List Value).toArray s 0 0 A) (F0 m 14 ls []) := by
    intro nn
    induction nn with
    | zero =>
      intro y14_3 mbsm_14 mord_14 mbor_14 H locs ls r_mord_14 i14_0 i14_1 i14_2 i14_3 hm14
      exact absurd hm14 (Nat.not_lt_zero _)
    | succ nn ih14 =>
      intro y14_3 mbsm_14 mord_14 mbor_14 H locs ls r_mord_14 i14_0 i14_1 i14_2 i14_3 hm14 hP hD hS hl
      refine lv_iload_n hx hb dX10_findOrder_14 rfl (lv_at hl 3 rfl) ?_
      refine lv_if_lt (tgt := 199) hx hb dX10_findOrder_15 (by decide) (fun c4 => ?_) (fun c4 => ?_)
      · have dc4 : y14_3.toInt < 0 := ltC rfl (show (0 : Int32).toInt = 0 from rfl) c4
        exact W.vret hx hb hr (fun tq ht hW => ⟨⟨(uS [(fun _ => mbsm_14), mord_14, mbor_14] 0 (fun _ => 0)), rfl, r_mord_14, by rw [ht]; exact hP, hD⟩, hS.F ht⟩) hS.2.2 dX10_findOrder_199
      · have dc4 : 0 ≤ y14_3.toInt := nltC rfl (show (0 : Int32).toInt = 0 from rfl) c4
        have wo := ord_at i14_3 (rfl) (by omega)
        refine lv_aload_n hx hb dX10_findOrder_18 rfl (lv_at hl 0 rfl) ?_
        refine va_get (D := (dC, dI)) (ci := 10) (v := .ref (b 32)) (C := RX10) (T := TX10) (N := 39) hx hb hts inX10 hown hK hP 0 rfl rfl 32 (by decide) lf74 (fun _ h9 => h9) rfl dX10_findOrder_19 ?_
        refine lv_iload_n hx hb dX10_findOrder_22 rfl (lv_at hl 3 rfl) ?_
        refine lv_dup2_11 hx hb dX10_findOrder_23 rfl rfl ?_
        have b5 : vp_in y14_3 8 := inC rfl (by omega) (by omega)
        refine va_iald hx hb hK hP 20 0 rfl rfl b5 dX10_findOrder_24 ?_
        have g6 : -1 ≤ (mord_14 y14_3.toNatClampNeg).toInt ∧ (mord_14 y14_3.toNatClampNeg).toInt ≤ 8 := rg_at r_mord_14 b5
        refine lv_iconst (v := 1) hx hb dX10_findOrder_25 (by decide) ?_
        refine lv_iadd hx hb dX10_findOrder_26 ?_
        have f7 : ((mord_14 y14_3.toNatClampNeg) + 1).toInt = ((mord_14 y14_3.toNatClampNeg).toInt) + (1) := addC rfl (show (1 : Int32).toInt = 1 from rfl) (by omega) (by omega)
        refine lv_topi (fun x8 ex8 => ?_)
        have ix8 : x8.toInt = ((mord_14 y14_3.toNatClampNeg).toInt) + (1) := by rw [ex8]; exact f7
        have b9 : vp_in y14_3 8 := inC rfl (by omega) (by omega)
        have g10 : rg 8 (-1) (8) (upd mord_14 y14_3.toNatClampNeg x8) := rg_upd r_mord_14 rfl (by omega) (by omega)
        refine va_iast hx hb hK hP hD hS 20 0 rfl rfl b9 dX10_findOrder_27 (fun H locs hP hD hS => ?_)
        obtain ⟨mord_u11, emord_u11⟩ : ∃ f : Nat → Int32, f = upd mord_14 y14_3.toNatClampNeg x8 := ⟨_, rfl⟩
        have rmord_u11 : rg 8 (-1) (8) mord_u11 := by rw [emord_u11]; exact g10
        have hP : va_P (dC, dI) vwCl (wMod cI cZ cQ b mday mdoo mdA mdB mfar mmar mtel mgai mfal mtop mstr mgho mfai mpto mwal mahd mahf mcho mbes mbyt mtxt mpos mtka mtok mdig mnum mfau mrdm mrea mlin mlne mthg mord_u11 mbor_14 mbsm_14 mans mand manr mali) H := by rw [emord_u11]; exact hP
        have hD : va_D A (wMod cI cZ cQ b mday mdoo mdA mdB mfar mmar mtel mgai mfal mtop mstr mgho mfai mpto mwal mahd mahf mcho mbes mbyt mtxt mpos mtka mtok mdig mnum mfau mrdm mrea mlin mlne mthg mord_u11 mbor_14 mbsm_14 mans mand manr mali) := by rw [emord_u11]; exact hD
        refine lv_iconst (v := 1) hx hb dX10_findOrder_28 (by decide) ?_
        refine lv_istore (lv' := [(4, .int 1), (0, .ref (b 39)), (1, .int n), (2, .int sp), (3, .int y14_3)]) hx hb dX10_findOrder_29 hl (by decide) rfl (fun ls hl => ?_)
        refine lv_iconst (v := 0) hx hb dX10_findOrder_31 (by decide) ?_
        refine lv_istore (lv' := [(5, .int 0), (4, .int 1), (0, .ref (b 39)), (1, .int n), (2, .int sp), (3, .int y14_3)]) hx hb dX10_findOrder_32 hl (by decide) rfl (fun ls hl => ?_)
        have L34 : ∀ (nn : Nat) (y34_4 : Int32) (y34_5 : Int32) (H : Heap) (locs : List Loc) (ls : Array Slot), (0 ≤ (y34_5.toInt)) → ((y34_5.toInt) ≤ 7) → (7 - (y34_5.toInt)).toNat < nn → va_P (dC, dI) vwCl (wMod cI cZ cQ b mday mdoo mdA mdB mfar mmar mtel mgai mfal mtop mstr mgho mfai mpto mwal mahd mahf mcho mbes mbyt mtxt mpos mtka mtok mdig mnum mfau mrdm mrea mlin mlne mthg mord_u11 mbor_14 mbsm_14 mans mand manr mali) H → va_D A (wMod cI cZ cQ b mday mdoo mdA mdB mfar mmar mtel mgai mfal mtop mstr mgho mfai mpto mwal mahd mahf mcho mbes mbyt mtxt mpos mtka mtok mdig mnum mfau mrdm mrea mlin mlne mthg mord_u11 mbor_14 mbsm_14 mans mand manr mali) → va_S A s.heap H locs → lv_has ls 7 [(0, .ref (b 39)), (1, .int n), (2, .int sp), (3, .int y14_3), (4, .int y34_4), (5, .int y34_5)] → W p l e (headSpec wsX10_findOrder { frames := 2, cells := 0, slots := 0, locals := 49 }).room s m ([.ref (b 39), .int n, .int sp] : List Value).toArray below meth c H locs 0 0 (MQ below (va_Qv (fun (u : US) => (rg 8 (-1) (8) (u.1 1))) (Bw (dC, dI) A (fun u : US => (wMod cI cZ cQ b mday mdoo mdA mdB mfar mmar mtel mgai mfal mtop mstr mgho mfai mpto mwal mahd mahf mcho mbes mbyt mtxt mpos mtka mtok mdig mnum mfau mrdm mrea mlin mlne mthg (u.1 1) (u.1 2) (u.1 0 0) mans mand manr mali))) A) ([.ref (b 39), .int n, .int sp] : List Value).toArray s 0 0 A) (F0 m 34 ls []) := by
          intro nn
          induction nn with
          | zero =>
            intro y34_4 y34_5 H locs ls i34_0 i34_1 hm34
            exact absurd hm34 (Nat.not_lt_zero _)
          | succ nn ih34 =>
            intro y34_4 y34_5 H locs ls i34_0 i34_1 hm34 hP hD hS hl
            refine lv_iload hx hb dX10_findOrder_34 (lv_at hl 5 rfl) ?_
            refine lv_iload_n hx hb dX10_findOrder_36 rfl (lv_at hl 3 rfl) ?_
            refine lv_icmp_ge (tgt := 74) hx hb dX10_findOrder_37 (by decide) (fun c12 => ?_) (fun c12 => ?_)
            · have dc12 : y14_3.toInt ≤ y34_5.toInt := leC rfl rfl c12
              refine lv_aload_n hx hb dX10_findOrder_74 rfl (lv_at hl 0 rfl) ?_
              refine va_get (D := (dC, dI)) (ci := 10) (v := .ref (b 32)) (C := RX10) (T := TX10) (N := 39) hx hb hts inX10 hown hK hP 0 rfl rfl 32 (by decide) lf74 (fun _ h9 => h9) rfl dX10_findOrder_75 ?_
              refine lv_iload_n hx hb dX10_findOrder_78 rfl (lv_at hl 3 rfl) ?_
              have b13 : vp_in y14_3 8 := inC rfl (by omega) (by omega)
              refine va_iald hx hb hK hP 20 0 rfl rfl b13 dX10_findOrder_79 ?_
              have g14 : -1 ≤ (mord_u11 y14_3.toNatClampNeg).toInt ∧ (mord_u11 y14_3.toNatClampNeg).toInt ≤ 8 := rg_at rmord_u11 b13
              have o15 : (mord_u11 y14_3.toNatClampNeg).toInt = x8.toInt := by rw [emord_u11, pk_us]
              refine lv_iload_n hx hb dX10_findOrder_80 rfl (lv_at hl 1 rfl) ?_
              refine lv_icmp_ne (tgt := 90) hx hb dX10_findOrder_81 (by decide) (fun c16 => ?_) (fun c16 => ?_)
              · have dc16 : (mord_u11 y14_3.toNatClampNeg).toInt ≠ n.toInt := neC rfl rfl c16
                refine lv_iload hx hb dX10_findOrder_90 (lv_at hl 4 rfl) ?_
                refine lv_if_eq (tgt := 181) hx hb dX10_findOrder_92 (by decide) (fun c17 => ?_) (fun c17 => ?_)
                · have dc17 : y34_4.toInt = 0 := eqC rfl (show (0 : Int32).toInt = 0 from rfl) c17
                  refine lv_iload hx hb dX10_findOrder_181 (lv_at hl 4 rfl) ?_
                  refine lv_if_eq (tgt := 196) hx hb dX10_findOrder_183 (by decide) (fun c18 => ?_) (fun c18 => ?_)
                  · have dc18 : y34_4.toInt = 0 := eqC rfl (show (0 : Int32).toInt = 0 from rfl) c18
                    refine lv_goto (tgt := 14) hx hb dX10_findOrder_196 (by decide) ?_
                    exact ih14 y14_3 mbsm_14 mord_u11 mbor_14 _ _ _ rmord_u11 (by omega) (by omega) (by omega) (by (first | exact ok_init3 emord_u11 rfl rfl (by omega) | exact ok_down3 emord_u11 i14_3 rfl (by omega) (by omega) | exact ok_same3 emord_u11 i14_3 rfl (by omega) (by omega) (by omega) | exact ok_up3 emord_u11 (by assumption) i14_3 (by omega) rfl (by omega) (by omega) (by omega) (by omega) rfl (by omega) | exact ok_back3 emord_u11 (by assumption) i14_3 rfl (by omega) (by omega) (by omega) (by omega) (by omega))) (by (refine Nat.lt_of_lt_of_le ?_ (Nat.le_of_lt_succ hm14); first | exact om_down3 emord_u11 (by decide) rfl (by omega) (by omega) (by omega) | exact om_same3 emord_u11 (by decide) rfl (by omega) (by omega) (by omega) | exact om_up3 emord_u11 (by assumption) (by omega) rfl (by omega) (by omega) (by omega) (by omega) (by omega) rfl (by omega) | exact om_back3 emord_u11 (by assumption) (by decide) rfl (by omega) (by omega) (by omega) (by omega) (by omega))) hP hD hS (lv_sub hl [0, 1, 2, 3] rfl)
                  · have dc18 : 1 ≤ y34_4.toInt := ka_lo (by omega) (neC rfl (show (0 : Int32).toInt = 0 from rfl) c18)
                    exfalso
                    omega
                · have dc17 : y34_4.toInt ≠ 0 := neC rfl (show (0 : Int32).toInt = 0 from rfl) c17
                  refine lv_iload_n hx hb dX10_findOrder_95 rfl (lv_at hl 3 rfl) ?_
                  refine lv_iload_n hx hb dX10_findOrder_96 rfl (lv_at hl 1 rfl) ?_
                  refine lv_iconst (v := 1) hx hb dX10_findOrder_97 (by decide) ?_
                  refine lv_isub hx hb dX10_findOrder_98 ?_
                  have f19 : (n - 1).toInt = (n.toInt) - (1) := subC rfl (show (1 : Int32).toInt = 1 from rfl) (by omega) (by omega)
                  refine lv_icmp_ne (tgt := 181) hx hb dX10_findOrder_99 (by decide) (fun c20 => ?_) (fun c20 => ?_)
                  · have dc20 : y14_3.toInt ≠ (n.toInt) - (1) := neC rfl f19 c20
                    refine lv_iload hx hb dX10_findOrder_181 (lv_at hl 4 rfl) ?_
                    refine lv_if_eq (tgt := 196) hx hb dX10_findOrder_183 (by decide) (fun c21 => ?_) (fun c21 => ?_)
                    · have dc21 : y34_4.toInt = 0 := eqC rfl (show (0 : Int32).toInt = 0 from rfl) c21
                      refine lv_goto (tgt := 14) hx hb dX10_findOrder_196 (by decide) ?_
                      exact ih14 y14_3 mbsm_14 mord_u11 mbor_14 _ _ _ rmord_u11 (by omega) (by omega) (by omega) (by (first | exact ok_init3 emord_u11 rfl rfl (by omega) | exact ok_down3 emord_u11 i14_3 rfl (by omega) (by omega) | exact ok_same3 emord_u11 i14_3 rfl (by omega) (by omega) (by omega) | exact ok_up3 emord_u11 (by assumption) i14_3 (by omega) rfl (by omega) (by omega) (by omega) (by omega) rfl (by omega) | exact ok_back3 emord_u11 (by assumption) i14_3 rfl (by omega) (by omega) (by omega) (by omega) (by omega))) (by (refine Nat.lt_of_lt_of_le ?_ (Nat.le_of_lt_succ hm14); first | exact om_down3 emord_u11 (by decide) rfl (by omega) (by omega) (by omega) | exact om_same3 emord_u11 (by decide) rfl (by omega) (by omega) (by omega) | exact om_up3 emord_u11 (by assumption) (by omega) rfl (by omega) (by omega) (by omega) (by omega) (by omega) rfl (by omega) | exact om_back3 emord_u11 (by assumption) (by decide) rfl (by omega) (by omega) (by omega) (by omega) (by omega))) hP hD hS (lv_sub hl [0, 1, 2, 3] rfl)
                    · have dc21 : y34_4.toInt ≠ 0 := neC rfl (show (0 : Int32).toInt = 0 from rfl) c21
                      obtain ⟨z22, ez22⟩ : ∃ y : Int32, y = y14_3 + 1 := ⟨_, rfl⟩
                      have iz22 : z22.toInt = y14_3.toInt + 1 := by rw [ez22]; exact addC rfl rfl (by omega) (by omega)
                      refine lv_iinc (v := z22) (lv' := [(3, .int z22), (0, .ref (b 39)), (1, .int n), (2, .int sp), (4, .int y34_4), (5, .int y34_5)]) hx hb dX10_findOrder_186 hl (k := 3) rfl (by rw [ez22]; rfl) (by decide) rfl (fun ls hl => ?_)
                      refine lv_aload_n hx hb dX10_findOrder_189 rfl (lv_at hl 1 rfl) ?_
                      refine va_get (D := (dC, dI)) (ci := 10) (v := .ref (b 32)) (C := RX10) (T := TX10) (N := 39) hx hb hts inX10 hown hK hP 0 rfl rfl 32 (by decide) lf74 (fun _ h9 => h9) rfl dX10_findOrder_190 ?_
                      refine lv_iload_n hx hb dX10_findOrder_193 rfl (lv_at hl 0 rfl) ?_
                      refine lv_iconst (v := (-1)) hx hb dX10_findOrder_194 (by decide) ?_
                      have b23 : vp_in z22 8 := inC rfl (by omega) (by omega)
                      have g24 : rg 8 (-1) (8) (upd mord_u11 z22.toNatClampNeg (-1)) := rg_upd rmord_u11 (show ((-1) : Int32).toInt = (-1) from rfl) (by omega) (by omega)
                      refine va_iast hx hb hK hP hD hS 20 0 rfl rfl b23 dX10_findOrder_195 (fun H locs hP hD hS => ?_)
                      obtain ⟨mord_u25, emord_u25⟩ : ∃ f : Nat → Int32, f = upd mord_u11 z22.toNatClampNeg (-1) := ⟨_, rfl⟩
                      have rmord_u25 : rg 8 (-1) (8) mord_u25 := by rw [emord_u25]; exact g24
                      have hP : va_P (dC, dI) vwCl (wMod cI cZ cQ b mday mdoo mdA mdB mfar mmar mtel mgai mfal mtop mstr mgho mfai mpto mwal mahd mahf mcho mbes mbyt mtxt mpos mtka mtok mdig mnum mfau mrdm mrea mlin mlne mthg mord_u25 mbor_14 mbsm_14 mans mand manr mali) H := by rw [emord_u25]; exact hP
                      have hD : va_D A (wMod cI cZ cQ b mday mdoo mdA mdB mfar mmar mtel mgai mfal mtop mstr mgho mfai mpto mwal mahd mahf mcho mbes mbyt mtxt mpos mtka mtok mdig mnum mfau mrdm mrea mlin mlne mthg mord_u25 mbor_14 mbsm_14 mans mand manr mali) := by rw [emord_u25]; exact hD
                      refine lv_goto (tgt := 14) hx hb dX10_findOrder_196 (by decide) ?_
                      exact ih14 z22 mbsm_14 mord_u25 mbor_14 _ _ _ rmord_u25 (by omega) (by omega) (by omega) (by (first | exact ok_init3 emord_u25 rfl rfl (by omega) | exact ok_down3 emord_u25 i14_3 rfl (by omega) (by omega) | exact ok_same3 emord_u25 i14_3 rfl (by omega) (by omega) (by omega) | exact ok_up3 emord_u25 (by assumption) i14_3 (by omega) rfl (by omega) (by omega) (by omega) (by omega) rfl (by omega) | exact ok_back3 emord_u25 (by assumption) i14_3 rfl (by omega) (by omega) (by omega) (by omega) (by omega))) (by (refine Nat.lt_of_lt_of_le ?_ (Nat.le_of_lt_succ hm14); first | exact om_down3 emord_u25 (by decide) rfl (by omega) (by omega) (by omega) | exact om_same3 emord_u25 (by decide) rfl (by omega) (by omega) (by omega) | exact om_up3 emord_u25 (by assumption) (by omega) rfl (by omega) (by omega) (by omega) (by omega) (by omega) rfl (by omega) | exact om_back3 emord_u25 (by assumption) (by decide) rfl (by omega) (by omega) (by omega) (by omega) (by omega))) hP hD hS (lv_sub hl [1, 2, 3, 0] rfl)
                  · have dc20 : y14_3.toInt = (n.toInt) - (1) := eqC rfl f19 c20
                    have wf := ok_full3 emord_u11 i14_3 rfl (by omega) (by omega) (by omega) (by omega)
                    have L121 : ∀ (y121_5 : Int32) (H : Heap) (locs : List Loc) (ls : Array Slot), va_P (dC, dI) vwCl (wMod cI cZ cQ b mday mdoo mdA mdB mfar mmar mtel mgai mfal mtop mstr mgho mfai mpto mwal mahd mahf mcho mbes mbyt mtxt mpos mtka mtok mdig mnum mfau mrdm mrea mlin mlne mthg mord_u11 mbor_14 mbsm_14 mans mand manr mali) H → va_D A (wMod cI cZ cQ b mday mdoo mdA mdB mfar mmar mtel mgai mfal mtop mstr mgho mfai mpto mwal mahd mahf mcho mbes mbyt mtxt mpos mtka mtok mdig mnum mfau mrdm mrea mlin mlne mthg mord_u11 mbor_14 mbsm_14 mans mand manr mali) → va_S A s.heap H locs → lv_has ls 7 [(0, .ref (b 39)), (1, .int n), (2, .int sp), (3, .int y14_3), (5, .int y121_5)] → W p l e (headSpec wsX10_findOrder { frames := 2, cells := 0, slots := 0, locals := 49 }).room s m ([.ref (b 39), .int n, .int sp] : List Value).toArray below meth c H locs 0 0 (MQ below (va_Qv (fun (u : US) => (rg 8 (-1) (8) (u.1 1))) (Bw (dC, dI) A (fun u : US => (wMod cI cZ cQ b mday mdoo mdA mdB mfar mmar mtel mgai mfal mtop mstr mgho mfai mpto mwal mahd mahf mcho mbes mbyt mtxt mpos mtka mtok mdig mnum mfau mrdm mrea mlin mlne mthg (u.1 1) (u.1 2) (u.1 0 0) mans mand manr mali))) A) ([.ref (b 39), .int n, .int sp] : List Value).toArray s 0 0 A) (F0 m 121 ls []) := by
                      intro y121_5 H locs ls  hP hD hS hl
                      have L138 : ∀ (H : Heap) (locs : List Loc) (ls : Array Slot), va_P (dC, dI) vwCl (wMod cI cZ cQ b mday mdoo mdA mdB mfar mmar mtel mgai mfal mtop mstr mgho mfai mpto mwal mahd mahf mcho mbes mbyt mtxt mpos mtka mtok mdig mnum mfau mrdm mrea mlin mlne mthg mord_u11 mbor_14 mbsm_14 mans mand manr mali) H → va_D A (wMod cI cZ cQ b mday mdoo mdA mdB mfar mmar mtel mgai mfal mtop mstr mgho mfai mpto mwal mahd mahf mcho mbes mbyt mtxt mpos mtka mtok mdig mnum mfau mrdm mrea mlin mlne mthg mord_u11 mbor_14 mbsm_14 mans mand manr mali) → va_S A s.heap H locs → lv_has ls 7 [(0, .ref (b 39)), (1, .int n), (2, .int sp), (3, .int y14_3), (5, .int y121_5)] → W p l e (headSpec wsX10_findOrder { frames := 2, cells := 0, slots := 0, locals := 49 }).room s m ([.ref (b 39), .int n, .int sp] : List Value).toArray below meth c H locs 0 0 (MQ below (va_Qv (fun (u : US) => (rg 8 (-1) (8) (u.1 1))) (Bw (dC, dI) A (fun u : US => (wMod cI cZ cQ b mday mdoo mdA mdB mfar mmar mtel mgai mfal mtop mstr mgho mfai mpto mwal mahd mahf mcho mbes mbyt mtxt mpos mtka mtok mdig mnum mfau mrdm mrea mlin mlne mthg (u.1 1) (u.1 2) (u.1 0 0) mans mand manr mali))) A) ([.ref (b 39), .int n, .int sp] : List Value).toArray s 0 0 A) (F0 m 138 ls []) := by
                        intro  H locs ls  hP hD hS hl
                        refine lv_aload_n hx hb dX10_findOrder_138 rfl (lv_at hl 0 rfl) ?_
                        refine lv_iload hx hb dX10_findOrder_139 (lv_at hl 4 rfl) ?_
                        refine va_put (D := (dC, dI)) (ci := 10) (v := .int y121_5) (ty := .int) (C := RX10) (T := TX10) (N := 39) hx hb hts inX10 tyX10 tyX10_ok nmX10 hown hK hP hD hS 0 rfl rfl 34 (by decide) lf225 (fun _ h9 => h9) rfl (by decide +kernel) rfl rfl (Nat.le_of_ble_eq_true rfl) dX10_findOrder_141 (fun H locs hP hD hS => ?_)
                        have hP : va_P (dC, dI) vwCl (wMod cI cZ cQ b mday mdoo mdA mdB mfar mmar mtel mgai mfal mtop mstr mgho mfai mpto mwal mahd mahf mcho mbes mbyt mtxt mpos mtka mtok mdig mnum mfau mrdm mrea mlin mlne mthg mord_u11 mbor_14 y121_5 mans mand manr mali) H := hP
                        have hD : va_D A (wMod cI cZ cQ b mday mdoo mdA mdB mfar mmar mtel mgai mfal mtop mstr mgho mfai mpto mwal mahd mahf mcho mbes mbyt mtxt mpos mtka mtok mdig mnum mfau mrdm mrea mlin mlne mthg mord_u11 mbor_14 y121_5 mans mand manr mali) := hD
                        refine lv_iconst (v := 0) hx hb dX10_findOrder_144 (by decide) ?_
                        refine lv_istore (lv' := [(6, .int 0), (0, .ref (b 39)), (1, .int n), (2, .int sp), (3, .int y14_3), (5, .int y121_5)]) hx hb dX10_findOrder_145 hl (by decide) rfl (fun ls hl => ?_)
                        have L147 : ∀ (nn : Nat) (y147_6 : Int32) (mbor_147 : Nat → Int32) (H : Heap) (locs : List Loc) (ls : Array Slot), (0 ≤ (y147_6.toInt)) → ((y147_6.toInt) ≤ 8) → (8 - (y147_6.toInt)).toNat < nn → va_P (dC, dI) vwCl (wMod cI cZ cQ b mday mdoo mdA mdB mfar mmar mtel mgai mfal mtop mstr mgho mfai mpto mwal mahd mahf mcho mbes mbyt mtxt mpos mtka mtok mdig mnum mfau mrdm mrea mlin mlne mthg mord_u11 mbor_147 y121_5 mans mand manr mali) H → va_D A (wMod cI cZ cQ b mday mdoo mdA mdB mfar mmar mtel mgai mfal mtop mstr mgho mfai mpto mwal mahd mahf mcho mbes mbyt mtxt mpos mtka mtok mdig mnum mfau mrdm mrea mlin mlne mthg mord_u11 mbor_147 y121_5 mans mand manr mali) → va_S A s.heap H locs → lv_has ls 7 [(0, .ref (b 39)), (1, .int n), (2, .int sp), (3, .int y14_3), (6, .int y147_6)] → W p l e (headSpec wsX10_findOrder { frames := 2, cells := 0, slots := 0, locals := 49 }).room s m ([.ref (b 39), .int n, .int sp] : List Value).toArray below meth c H locs 0 0 (MQ below (va_Qv (fun (u : US) => (rg 8 (-1) (8) (u.1 1))) (Bw (dC, dI) A (fun u : US => (wMod cI cZ cQ b mday mdoo mdA mdB mfar mmar mtel mgai mfal mtop mstr mgho mfai mpto mwal mahd mahf mcho mbes mbyt mtxt mpos mtka mtok mdig mnum mfau mrdm mrea mlin mlne mthg (u.1 1) (u.1 2) (u.1 0 0) mans mand manr mali))) A) ([.ref (b 39), .int n, .int sp] : List Value).toArray s 0 0 A) (F0 m 147 ls []) := by
                          intro nn
                          induction nn with
                          | zero =>
                            intro y147_6 mbor_147 H locs ls i147_0 i147_1 hm147
                            exact absurd hm147 (Nat.not_lt_zero _)
                          | succ nn ih147 =>
                            intro y147_6 mbor_147 H locs ls i147_0 i147_1 hm147 hP hD hS hl
                            refine lv_iload hx hb dX10_findOrder_147 (lv_at hl 4 rfl) ?_
                            refine lv_iload_n hx hb dX10_findOrder_149 rfl (lv_at hl 1 rfl) ?_
                            refine lv_icmp_ge (tgt := 178) hx hb dX10_findOrder_150 (by decide) (fun c26 => ?_) (fun c26 => ?_)
                            · have dc26 : n.toInt ≤ y147_6.toInt := leC rfl rfl c26
                              refine lv_goto (tgt := 196) hx hb dX10_findOrder_178 (by decide) ?_
                              refine lv_goto (tgt := 14) hx hb dX10_findOrder_196 (by decide) ?_
                              exact ih14 y14_3 y121_5 mord_u11 mbor_147 _ _ _ rmord_u11 (by omega) (by omega) (by omega) (by (first | exact ok_init3 emord_u11 rfl rfl (by omega) | exact ok_down3 emord_u11 i14_3 rfl (by omega) (by omega) | exact ok_same3 emord_u11 i14_3 rfl (by omega) (by omega) (by omega) | exact ok_up3 emord_u11 (by assumption) i14_3 (by omega) rfl (by omega) (by omega) (by omega) (by omega) rfl (by omega) | exact ok_back3 emord_u11 (by assumption) i14_3 rfl (by omega) (by omega) (by omega) (by omega) (by omega))) (by (refine Nat.lt_of_lt_of_le ?_ (Nat.le_of_lt_succ hm14); first | exact om_down3 emord_u11 (by decide) rfl (by omega) (by omega) (by omega) | exact om_same3 emord_u11 (by decide) rfl (by omega) (by omega) (by omega) | exact om_up3 emord_u11 (by assumption) (by omega) rfl (by omega) (by omega) (by omega) (by omega) (by omega) rfl (by omega) | exact om_back3 emord_u11 (by assumption) (by decide) rfl (by omega) (by omega) (by omega) (by omega) (by omega))) hP hD hS (lv_sub hl [0, 1, 2, 3] rfl)
                            · have dc26 : y147_6.toInt < n.toInt := nleC rfl rfl c26
                              refine lv_aload_n hx hb dX10_findOrder_153 rfl (lv_at hl 0 rfl) ?_
                              refine va_get (D := (dC, dI)) (ci := 10) (v := .ref (b 33)) (C := RX10) (T := TX10) (N := 39) hx hb hts inX10 hown hK hP 0 rfl rfl 33 (by decide) lf77 (fun _ h9 => h9) rfl dX10_findOrder_154 ?_
                              refine lv_iload hx hb dX10_findOrder_157 (lv_at hl 4 rfl) ?_
                              refine lv_aload_n hx hb dX10_findOrder_159 rfl (lv_at hl 0 rfl) ?_
                              refine va_get (D := (dC, dI)) (ci := 10) (v := .ref (b 31)) (C := RX10) (T := TX10) (N := 39) hx hb hts inX10 hown hK hP 0 rfl rfl 31 (by decide) lf71 (fun _ h9 => h9) rfl dX10_findOrder_160 ?_
                              refine lv_aload_n hx hb dX10_findOrder_163 rfl (lv_at hl 0 rfl) ?_
                              refine va_get (D := (dC, dI)) (ci := 10) (v := .ref (b 32)) (C := RX10) (T := TX10) (N := 39) hx hb hts inX10 hown hK hP 0 rfl rfl 32 (by decide) lf74 (fun _ h9 => h9) rfl dX10_findOrder_164 ?_
                              refine lv_iload hx hb dX10_findOrder_167 (lv_at hl 4 rfl) ?_
                              have w169 := of_at wf (y := y147_6) (rfl) (by omega) (by omega)
                              have b27 : vp_in y147_6 8 := inC rfl (by omega) (by omega)
                              refine va_iald hx hb hK hP 20 0 rfl rfl b27 dX10_findOrder_169 ?_
                              have g28 : -1 ≤ (mord_u11 y147_6.toNatClampNeg).toInt ∧ (mord_u11 y147_6.toNatClampNeg).toInt ≤ 8 := rg_at rmord_u11 b27
                              have b29 : vp_in (mord_u11 y147_6.toNatClampNeg) 8 := inC rfl (by omega) (by omega)
                              refine va_iald hx hb hK hP 19 0 rfl rfl b29 dX10_findOrder_170 ?_
                              have g30 : 0 ≤ (mthg (mord_u11 y147_6.toNatClampNeg).toNatClampNeg).toInt ∧ (mthg (mord_u11 y147_6.toNatClampNeg).toNatClampNeg).toInt ≤ 31 := rg_at r_mthg b29
                              refine lv_topi (fun x31 ex31 => ?_)
                              have ix31 : x31.toInt = (mthg (mord_u11 y147_6.toNatClampNeg).toNatClampNeg).toInt := by rw [ex31]
                              have b32 : vp_in y147_6 8 := inC rfl (by omega) (by omega)
                              refine va_iast hx hb hK hP hD hS 21 0 rfl rfl b32 dX10_findOrder_171 (fun H locs hP hD hS => ?_)
                              obtain ⟨mbor_u33, embor_u33⟩ : ∃ f : Nat → Int32, f = upd mbor_147 y147_6.toNatClampNeg x31 := ⟨_, rfl⟩
                              have hP : va_P (dC, dI) vwCl (wMod cI cZ cQ b mday mdoo mdA mdB mfar mmar mtel mgai mfal mtop mstr mgho mfai mpto mwal mahd mahf mcho mbes mbyt mtxt mpos mtka mtok mdig mnum mfau mrdm mrea mlin mlne mthg mord_u11 mbor_u33 y121_5 mans mand manr mali) H := by rw [embor_u33]; exact hP
                              have hD : va_D A (wMod cI cZ cQ b mday mdoo mdA mdB mfar mmar mtel mgai mfal mtop mstr mgho mfai mpto mwal mahd mahf mcho mbes mbyt mtxt mpos mtka mtok mdig mnum mfau mrdm mrea mlin mlne mthg mord_u11 mbor_u33 y121_5 mans mand manr mali) := by rw [embor_u33]; exact hD
                              obtain ⟨z34, ez34⟩ : ∃ y : Int32, y = y147_6 + 1 := ⟨_, rfl⟩
                              have iz34 : z34.toInt = y147_6.toInt + 1 := by rw [ez34]; exact addC rfl rfl (by omega) (by omega)
                              refine lv_iinc (v := z34) (lv' := [(6, .int z34), (0, .ref (b 39)), (1, .int n), (2, .int sp), (3, .int y14_3)]) hx hb dX10_findOrder_172 hl (k := 4) rfl (by rw [ez34]; rfl) (by decide) rfl (fun ls hl => ?_)
                              refine lv_goto (tgt := 147) hx hb dX10_findOrder_175 (by decide) ?_
                              exact ih147 z34 mbor_u33 _ _ _ (by omega) (by omega) (by omega) hP hD hS (lv_sub hl [1, 2, 3, 4, 0] rfl)
                        have kc35 : (0 : Int32).toInt = 0 := rfl
                        exact L147 _ 0 mbor_14 _ _ _ (by omega) (by omega) (Nat.lt_succ_self _) hP hD hS (lv_sub hl [1, 2, 3, 4, 0] rfl)
                      refine lv_aload_n hx hb dX10_findOrder_121 rfl (lv_at hl 0 rfl) ?_
                      refine va_get (D := (dC, dI)) (ci := 10) (v := .int mbsm_14) (C := RX10) (T := TX10) (N := 39) hx hb hts inX10 hown hK hP 0 rfl rfl 34 (by decide) lf225 (fun _ h9 => h9) rfl dX10_findOrder_122 ?_
                      refine lv_iconst (v := (-1)) hx hb dX10_findOrder_125 (by decide) ?_
                      refine lv_icmp_eq (tgt := 138) hx hb dX10_findOrder_126 (by decide) (fun c36 => ?_) (fun c36 => ?_)
                      · have dc36 : mbsm_14.toInt = (-1) := eqC rfl (show ((-1) : Int32).toInt = (-1) from rfl) c36
                        exact L138  _ _ _  hP hD hS (lv_sub hl [0, 1, 2, 3, 4] rfl)
                      · have dc36 : mbsm_14.toInt ≠ (-1) := neC rfl (show ((-1) : Int32).toInt = (-1) from rfl) c36
                        refine lv_iload hx hb dX10_findOrder_129 (lv_at hl 4 rfl) ?_
                        refine lv_aload_n hx hb dX10_findOrder_131 rfl (lv_at hl 0 rfl) ?_
                        refine va_get (D := (dC, dI)) (ci := 10) (v := .int mbsm_14) (C := RX10) (T := TX10) (N := 39) hx hb hts inX10 hown hK hP 0 rfl rfl 34 (by decide) lf225 (fun _ h9 => h9) rfl dX10_findOrder_132 ?_
                        refine lv_icmp_ge (tgt := 178) hx hb dX10_findOrder_135 (by decide) (fun c37 => ?_) (fun c37 => ?_)
                        · have dc37 : mbsm_14.toInt ≤ y121_5.toInt := leC rfl rfl c37
                          refine lv_goto (tgt := 196) hx hb dX10_findOrder_178 (by decide) ?_
                          refine lv_goto (tgt := 14) hx hb dX10_findOrder_196 (by decide) ?_
                          exact ih14 y14_3 mbsm_14 mord_u11 mbor_14 _ _ _ rmord_u11 (by omega) (by omega) (by omega) (by (first | exact ok_init3 emord_u11 rfl rfl (by omega) | exact ok_down3 emord_u11 i14_3 rfl (by omega) (by omega) | exact ok_same3 emord_u11 i14_3 rfl (by omega) (by omega) (by omega) | exact ok_up3 emord_u11 (by assumption) i14_3 (by omega) rfl (by omega) (by omega) (by omega) (by omega) rfl (by omega) | exact ok_back3 emord_u11 (by assumption) i14_3 rfl (by omega) (by omega) (by omega) (by omega) (by omega))) (by (refine Nat.lt_of_lt_of_le ?_ (Nat.le_of_lt_succ hm14); first | exact om_down3 emord_u11 (by decide) rfl (by omega) (by omega) (by omega) | exact om_same3 emord_u11 (by decide) rfl (by omega) (by omega) (by omega) | exact om_up3 emord_u11 (by assumption) (by omega) rfl (by omega) (by omega) (by omega) (by omega) (by omega) rfl (by omega) | exact om_back3 emord_u11 (by assumption) (by decide) rfl (by omega) (by omega) (by omega) (by omega) (by omega))) hP hD hS (lv_sub hl [0, 1, 2, 3] rfl)
                        · have dc37 : y121_5.toInt < mbsm_14.toInt := nleC rfl rfl c37
                          exact L138  _ _ _  hP hD hS (lv_sub hl [0, 1, 2, 3, 4] rfl)
                    refine lv_iload_n hx hb dX10_findOrder_102 rfl (lv_at hl 2 rfl) ?_
                    refine lv_if_eq (tgt := 114) hx hb dX10_findOrder_103 (by decide) (fun c38 => ?_) (fun c38 => ?_)
                    · have dc38 : sp.toInt = 0 := eqC rfl (show (0 : Int32).toInt = 0 from rfl) c38
                      refine lv_aload_n hx hb dX10_findOrder_114 rfl (lv_at hl 0 rfl) ?_
                      refine lv_iload_n hx hb dX10_findOrder_115 rfl (lv_at hl 1 rfl) ?_
                      refine rdV (As := [.int n]) (rest := []) ⟨hx, hb, hml, hown, hts⟩ (k_X10_harmOf l dC dI cI cZ cQ b mday mdoo mdA mdB mfar mmar mtel mgai mfal mtop mstr mgho mfai mpto mwal mahd mahf mcho mbes mbyt mtxt mpos mtka mtok mdig mnum mfau mrdm mrea mlin mlne mthg mord_u11 mbor_14 mbsm_14 mans mand manr mali n r_mday r_mdoo r_mdA r_mdB r_mmar r_mgai r_mfal r_mtop r_mstr r_mgho r_mfai r_mahd r_mahf r_mcho r_mbyt r_mpos r_mrdm r_mlin r_mthg rmord_u11 r_mans (by omega) (by omega) (by exact q2) (by exact wf)) (cwV 1 hts gX10_findOrder_X10_harmOf rfl rfl rfl (by decide +kernel) ⟨Nat.le_of_ble_eq_true rfl, Nat.le_of_ble_eq_true rfl⟩) hP hK hN [0, 1, 2, 3, 4, 5, 6, 7, 8, 9, 10, 11, 12, 13, 14, 15, 16, 17, 18, 19, 20, 21, 22, 23, 24, 25] rfl 0 10 rfl rfl rfl hl.1 rfl (Nat.le_of_ble_eq_true rfl) dX10_findOrder_116 ⟨Nat.le_of_ble_eq_true rfl, Nat.le_of_ble_eq_true rfl⟩ (fun r39 h40 => ?_)
                      have h40 : True := h40
                      refine lv_istore (lv' := [(5, .int r39), (0, .ref (b 39)), (1, .int n), (2, .int sp), (3, .int y14_3), (4, .int y34_4)]) hx hb dX10_findOrder_119 hl (by decide) rfl (fun ls hl => ?_)
                      exact L121 r39 _ _ _  hP hD hS (lv_sub hl [1, 2, 3, 4, 0] rfl)
                    · have dc38 : sp.toInt ≠ 0 := neC rfl (show (0 : Int32).toInt = 0 from rfl) c38
                      refine lv_aload_n hx hb dX10_findOrder_106 rfl (lv_at hl 0 rfl) ?_
                      refine lv_iload_n hx hb dX10_findOrder_107 rfl (lv_at hl 1 rfl) ?_
                      refine rdV (As := [.int n]) (rest := []) ⟨hx, hb, hml, hown, hts⟩ (k_X10_speechOf l dC dI cI cZ cQ b mday mdoo mdA mdB mfar mmar mtel mgai mfal mtop mstr mgho mfai mpto mwal mahd mahf mcho mbes mbyt mtxt mpos mtka mtok mdig mnum mfau mrdm mrea mlin mlne mthg mord_u11 mbor_14 mbsm_14 mans mand manr mali n r_mday r_mdoo r_mdA r_mdB r_mmar r_mgai r_mfal r_mtop r_mstr r_mgho r_mfai r_mahd r_mahf r_mcho r_mbyt r_mpos r_mrdm r_mlin r_mthg rmord_u11 r_mans (by omega) (by omega) (by exact q2) (by exact wf)) (cwV 1 hts gX10_findOrder_X10_speechOf rfl rfl rfl (by decide +kernel) ⟨Nat.le_of_ble_eq_true rfl, Nat.le_of_ble_eq_true rfl⟩) hP hK hN [0, 1, 2, 3, 4, 5, 6, 7, 8, 9, 10, 11, 12, 13, 14, 15, 16, 17, 18, 19, 20, 21, 22, 23, 24, 25] rfl 0 10 rfl rfl rfl hl.1 rfl (Nat.le_of_ble_eq_true rfl) dX10_findOrder_108 ⟨Nat.le_of_ble_eq_true rfl, Nat.le_of_ble_eq_true rfl⟩ (fun r41 h42 => ?_)
                      have h42 : True := h42
                      refine lv_goto (tgt := 119) hx hb dX10_findOrder_111 (by decide) ?_
                      refine lv_istore (lv' := [(5, .int r41), (0, .ref (b 39)), (1, .int n), (2, .int sp), (3, .int y14_3), (4, .int y34_4)]) hx hb dX10_findOrder_119 hl (by decide) rfl (fun ls hl => ?_)
                      exact L121 r41 _ _ _  hP hD hS (lv_sub hl [1, 2, 3, 4, 0] rfl)
              · have dc16 : (mord_u11 y14_3.toNatClampNeg).toInt = n.toInt := eqC rfl rfl c16
                obtain ⟨z43, ez43⟩ : ∃ y : Int32, y = y14_3 + (-1) := ⟨_, rfl⟩
                have iz43 : z43.toInt = y14_3.toInt + (-1) := by rw [ez43]; exact addC rfl rfl (by omega) (by omega)
                refine lv_iinc (v := z43) (lv' := [(3, .int z43), (0, .ref (b 39)), (1, .int n), (2, .int sp), (4, .int y34_4), (5, .int y34_5)]) hx hb dX10_findOrder_84 hl (k := 3) rfl (by rw [ez43]; rfl) (by decide) rfl (fun ls hl => ?_)
                refine lv_goto (tgt := 196) hx hb dX10_findOrder_87 (by decide) ?_
                refine lv_goto (tgt := 14) hx hb dX10_findOrder_196 (by decide) ?_
                exact ih14 z43 mbsm_14 mord_u11 mbor_14 _ _ _ rmord_u11 (by omega) (by omega) (by omega) (by (first | exact ok_init3 emord_u11 rfl rfl (by omega) | exact ok_down3 emord_u11 i14_3 rfl (by omega) (by omega) | exact ok_same3 emord_u11 i14_3 rfl (by omega) (by omega) (by omega) | exact ok_up3 emord_u11 (by assumption) i14_3 (by omega) rfl (by omega) (by omega) (by omega) (by omega) rfl (by omega) | exact ok_back3 emord_u11 (by assumption) i14_3 rfl (by omega) (by omega) (by omega) (by omega) (by omega))) (by (refine Nat.lt_of_lt_of_le ?_ (Nat.le_of_lt_succ hm14); first | exact om_down3 emord_u11 (by decide) rfl (by omega) (by omega) (by omega) | exact om_same3 emord_u11 (by decide) rfl (by omega) (by omega) (by omega) | exact om_up3 emord_u11 (by assumption) (by omega) rfl (by omega) (by omega) (by omega) (by omega) (by omega) rfl (by omega) | exact om_back3 emord_u11 (by assumption) (by decide) rfl (by omega) (by omega) (by omega) (by omega) (by omega))) hP hD hS (lv_sub hl [1, 2, 3, 0] rfl)
            · have dc12 : y34_5.toInt < y14_3.toInt := nleC rfl rfl c12
              have L68 : ∀ (y68_4 : Int32) (H : Heap) (locs : List Loc) (ls : Array Slot), va_P (dC, dI) vwCl (wMod cI cZ cQ b mday mdoo mdA mdB mfar mmar mtel mgai mfal mtop mstr mgho mfai mpto mwal mahd mahf mcho mbes mbyt mtxt mpos mtka mtok mdig mnum mfau mrdm mrea mlin mlne mthg mord_u11 mbor_14 mbsm_14 mans mand manr mali) H → va_D A (wMod cI cZ cQ b mday mdoo mdA mdB mfar mmar mtel mgai mfal mtop mstr mgho mfai mpto mwal mahd mahf mcho mbes mbyt mtxt mpos mtka mtok mdig mnum mfau mrdm mrea mlin mlne mthg mord_u11 mbor_14 mbsm_14 mans mand manr mali) → va_S A s.heap H locs → lv_has ls 7 [(0, .ref (b 39)), (1, .int n), (2, .int sp), (3, .int y14_3), (4, .int y68_4), (5, .int y34_5)] → W p l e (headSpec wsX10_findOrder { frames := 2, cells := 0, slots := 0, locals := 49 }).room s m ([.ref (b 39), .int n, .int sp] : List Value).toArray below meth c H locs 0 0 (MQ below (va_Qv (fun (u : US) => (rg 8 (-1) (8) (u.1 1))) (Bw (dC, dI) A (fun u : US => (wMod cI cZ cQ b mday mdoo mdA mdB mfar mmar mtel mgai mfal mtop mstr mgho mfai mpto mwal mahd mahf mcho mbes mbyt mtxt mpos mtka mtok mdig mnum mfau mrdm mrea mlin mlne mthg (u.1 1) (u.1 2) (u.1 0 0) mans mand manr mali))) A) ([.ref (b 39), .int n, .int sp] : List Value).toArray s 0 0 A) (F0 m 68 ls []) := by
                intro y68_4 H locs ls  hP hD hS hl
                obtain ⟨z44, ez44⟩ : ∃ y : Int32, y = y34_5 + 1 := ⟨_, rfl⟩
                have iz44 : z44.toInt = y34_5.toInt + 1 := by rw [ez44]; exact addC rfl rfl (by omega) (by omega)
                refine lv_iinc (v := z44) (lv' := [(5, .int z44), (0, .ref (b 39)), (1, .int n), (2, .int sp), (3, .int y14_3), (4, .int y68_4)]) hx hb dX10_findOrder_68 hl (k := 5) rfl (by rw [ez44]; rfl) (by decide) rfl (fun ls hl => ?_)
                refine lv_goto (tgt := 34) hx hb dX10_findOrder_71 (by decide) ?_
                exact ih34 y68_4 z44 _ _ _ (by omega) (by omega) (by omega) hP hD hS (lv_sub hl [1, 2, 3, 4, 5, 0] rfl)
              refine lv_iload hx hb dX10_findOrder_40 (lv_at hl 4 rfl) ?_
              refine lv_if_eq (tgt := 65) hx hb dX10_findOrder_42 (by decide) (fun c45 => ?_) (fun c45 => ?_)
              · have dc45 : y34_4.toInt = 0 := eqC rfl (show (0 : Int32).toInt = 0 from rfl) c45
                refine lv_iconst (v := 0) hx hb dX10_findOrder_65 (by decide) ?_
                refine lv_istore (lv' := [(4, .int 0), (0, .ref (b 39)), (1, .int n), (2, .int sp), (3, .int y14_3), (5, .int y34_5)]) hx hb dX10_findOrder_66 hl (by decide) rfl (fun ls hl => ?_)
                have kc46 : (0 : Int32).toInt = 0 := rfl
                exact L68 0 _ _ _  hP hD hS (lv_sub hl [1, 2, 3, 4, 0, 5] rfl)
              · have dc45 : y34_4.toInt ≠ 0 := neC rfl (show (0 : Int32).toInt = 0 from rfl) c45
                refine lv_aload_n hx hb dX10_findOrder_45 rfl (lv_at hl 0 rfl) ?_
                refine va_get (D := (dC, dI)) (ci := 10) (v := .ref (b 32)) (C := RX10) (T := TX10) (N := 39) hx hb hts inX10 hown hK hP 0 rfl rfl 32 (by decide) lf74 (fun _ h9 => h9) rfl dX10_findOrder_46 ?_
                refine lv_iload hx hb dX10_findOrder_49 (lv_at hl 5 rfl) ?_
                have b47 : vp_in y34_5 8 := inC rfl (by omega) (by omega)
                refine va_iald hx hb hK hP 20 0 rfl rfl b47 dX10_findOrder_51 ?_
                have g48 : -1 ≤ (mord_u11 y34_5.toNatClampNeg).toInt ∧ (mord_u11 y34_5.toNatClampNeg).toInt ≤ 8 := rg_at rmord_u11 b47
                refine lv_aload_n hx hb dX10_findOrder_52 rfl (lv_at hl 0 rfl) ?_
                refine va_get (D := (dC, dI)) (ci := 10) (v := .ref (b 32)) (C := RX10) (T := TX10) (N := 39) hx hb hts inX10 hown hK hP 0 rfl rfl 32 (by decide) lf74 (fun _ h9 => h9) rfl dX10_findOrder_53 ?_
                refine lv_iload_n hx hb dX10_findOrder_56 rfl (lv_at hl 3 rfl) ?_
                have b49 : vp_in y14_3 8 := inC rfl (by omega) (by omega)
                refine va_iald hx hb hK hP 20 0 rfl rfl b49 dX10_findOrder_57 ?_
                have g50 : -1 ≤ (mord_u11 y14_3.toNatClampNeg).toInt ∧ (mord_u11 y14_3.toNatClampNeg).toInt ≤ 8 := rg_at rmord_u11 b49
                have o51 : (mord_u11 y14_3.toNatClampNeg).toInt = x8.toInt := by rw [emord_u11, pk_us]
                refine lv_icmp_eq (tgt := 65) hx hb dX10_findOrder_58 (by decide) (fun c52 => ?_) (fun c52 => ?_)
                · have dc52 : (mord_u11 y34_5.toNatClampNeg).toInt = (mord_u11 y14_3.toNatClampNeg).toInt := eqC rfl rfl c52
                  refine lv_iconst (v := 0) hx hb dX10_findOrder_65 (by decide) ?_
                  refine lv_istore (lv' := [(4, .int 0), (0, .ref (b 39)), (1, .int n), (2, .int sp), (3, .int y14_3), (5, .int y34_5)]) hx hb dX10_findOrder_66 hl (by decide) rfl (fun ls hl => ?_)
                  have kc53 : (0 : Int32).toInt = 0 := rfl
                  exact L68 0 _ _ _  hP hD hS (lv_sub hl [1, 2, 3, 4, 0, 5] rfl)
                · have dc52 : (mord_u11 y34_5.toNatClampNeg).toInt ≠ (mord_u11 y14_3.toNatClampNeg).toInt := neC rfl rfl c52
                  refine lv_iconst (v := 1) hx hb dX10_findOrder_61 (by decide) ?_
                  refine lv_goto (tgt := 66) hx hb dX10_findOrder_62 (by decide) ?_
                  refine lv_istore (lv' := [(4, .int 1), (0, .ref (b 39)), (1, .int n), (2, .int sp), (3, .int y14_3), (5, .int y34_5)]) hx hb dX10_findOrder_66 hl (by decide) rfl (fun ls hl => ?_)
                  have kc54 : (1 : Int32).toInt = 1 := rfl
                  exact L68 1 _ _ _  hP hD hS (lv_sub hl [1, 2, 3, 4, 0, 5] rfl)
        have kc55 : (1 : Int32).toInt = 1 := rfl
        have kc56 : (0 : Int32).toInt = 0 := rfl
        exact L34 _ 1 0 _ _ _ (by omega) (by omega) (Nat.lt_succ_self _) hP hD hS (lv_sub hl [2, 3, 4, 5, 1, 0] rfl)
  have kc57 : (0 : Int32).toInt = 0 := rfl
  have kc58 : ((-1) : Int32).toInt = -1 := rfl
  exact L14 _ 0 (-1) mord_u3 mbor _ _ _ rmord_u3 (by omega) (by omega) (by omega) (by (first | exact ok_init3 emord_u3 rfl rfl (by omega) | exact ok_down3 emord_u3 i14_3 rfl (by omega) (by omega) | exact ok_same3 emord_u3 i14_3 rfl (by omega) (by omega) (by omega) | exact ok_up3 emord_u3 (by assumption) i14_3 (by omega) rfl (by omega) (by omega) (by omega) (by omega) rfl (by omega) | exact ok_back3 emord_u3 (by assumption) i14_3 rfl (by omega) (by omega) (by omega) (by omega) (by omega))) (Nat.lt_succ_self _) hP hD hS (lv_sub hl [1, 2, 3, 0] rfl)
