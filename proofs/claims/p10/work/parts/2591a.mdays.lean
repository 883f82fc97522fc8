set_option maxHeartbeats 4000000 in
set_option maxRecDepth 100000 in
theorem k_X10_likeBeside2 (l : Launch) (dC : Nat → ClassId) (dI : Nat → Nat → Nat) (cI cZ cQ : ClassId) (b : Nat → Nat) (mday : Int32) (mdoo : Int32) (mdA : Nat → Int32) (mdB : Nat → Int32) (mfar : Nat → Int32) (mmar : Nat → Int32) (mtel : Int32) (mgai : Int32) (mfal : Nat → Int32) (mtop : Nat → Int32) (mstr : Nat → Int32) (mgho : Nat → Int32) (mfai : Nat → Int32) (mpto : Nat → Int32) (mwal : Nat → Int32) (mahd : Nat → Int32) (mahf : Nat → Int32) (mcho : Nat → Int32) (mbes : Nat → Int32) (mbyt : Int32) (mtxt : Nat → Int32) (mpos : Int32) (mtka : Int32) (mtok : Int64) (mdig : Int32) (mnum : Int32) (mfau : Int32) (mrdm : Int32) (mrea : Nat → Int32) (mlin : Int32) (mlne : Nat → Int32) (mthg : Nat → Int32) (mord : Nat → Int32) (mbor : Nat → Int32) (mbsm : Int32) (mans : Nat → Int32) (mand : Nat → Int32) (manr : Nat → Int32) (mali : Nat → Int32) (co : Int32) (r_mday : 0 ≤ mday.toInt ∧ mday.toInt ≤ 400) (r_mdoo : 0 ≤ mdoo.toInt ∧ mdoo.toInt ≤ 14) (r_mdA : rg 14 (0) (7) mdA) (r_mdB : rg 14 (0) (7) mdB) (r_mmar : rg 24 (0) (255) mmar) (r_mgai : 0 ≤ mgai.toInt ∧ mgai.toInt ≤ 100) (r_mfal : rg 11 (0) (30) mfal) (r_mtop : rg 48 (-1) (23) mtop) (r_mstr : rg 48 (0) (100) mstr) (r_mgho : rg 48 (-1) (23) mgho) (r_mfai : rg 48 (0) (100) mfai) (r_mahd : rg 240 (0) (100) mahd) (r_mahf : rg 240 (0) (100) mahf) (r_mcho : rg 5 (-1) (9) mcho) (r_mbyt : 0 ≤ mbyt.toInt ∧ mbyt.toInt ≤ 160) (r_mpos : 0 ≤ mpos.toInt ∧ mpos.toInt ≤ 160) (r_mrdm : 0 ≤ mrdm.toInt ∧ mrdm.toInt ≤ 10) (r_mlin : 0 ≤ mlin.toInt ∧ mlin.toInt ≤ 10) (r_mthg : rg 8 (0) (31) mthg) (r_mord : rg 8 (-1) (8) mord) (r_mans : rg 4 (0) (12) mans) (q0 : 0 ≤ co.toInt) (q1 : co.toInt ≤ 47) (q2 : 0 ≤ (mtop co.toNatClampNeg).toInt) : KR l yX10_likeBeside wsX10_likeBeside { frames := 1, cells := 0, slots := 0, locals := 25 } (dC, dI) (TY cI cZ cQ) (wMod cI cZ cQ b mday mdoo mdA mdB mfar mmar mtel mgai mfal mtop mstr mgho mfai mpto mwal mahd mahf mcho mbes mbyt mtxt mpos mtka mtok mdig mnum mfau mrdm mrea mlin mlne mthg mord mbor mbsm mans mand manr mali) [.ref (b 39), .int co] (fun r : Int32 => (0 ≤ r.toInt) ∧ (r.toInt ≤ 6) ∧ (r.toInt = cwF mmar mtop mtel co.toNatClampNeg (co.toNatClampNeg - co.toNatClampNeg % 6) 6)) := by
  refine Met.ofW (cc := cX10_likeBeside) (maxL := 4) (ret := (some .int)) (by decide) rfl ?_
  intro p e s m args below meth c s₁ B hml hv
  obtain ⟨rfl, hP, hK, hN⟩ := hv
  have hx := B.exec
  have hb := B.bytes
  have hr := B.returns
  have hts := atoms_spec (ws := wsX10_likeBeside) B.pre
  have hown : s.vm.findClass RX10 = some m.cls := findClass_of_methodNamed B.named
  have hlocks := B.notSynchronized
  have lf32 := hts (.fieldLink RX10 32 "PalaceOfRoomsModel" "top" "[I") (by decide +kernel)
  have inX10 : ∀ w ∈ wsX100, w ∈ wsX10_likeBeside := by decide +kernel
  have lf22 := hts (.fieldLink RX10 22 "PalaceOfRoomsModel" "tell" "I") (by decide +kernel)
  have hl := lv_entry ([.ref (b 39), .int co]) (n := 4) (Nat.le_of_ble_eq_true rfl)
  rw [lg_entry_eq]
  generalize (lg_sl ([.ref (b 39), .int co]) ++ List.replicate (4 - (lg_sl ([.ref (b 39), .int co])).length) Slot.unset).toArray = ls at hl ⊢
  have hl : lv_has ls 4 [(0, .ref (b 39)), (1, .int co)] := hl
  refine lv_iconst (v := 0) hx hb dX10_likeBeside_0 (by decide) ?_
  refine lv_istore_n (lv' := [(2, .int 0), (0, .ref (b 39)), (1, .int co)]) hx hb dX10_likeBeside_1 rfl hl (by decide) rfl (fun ls hl => ?_)
  refine lv_iload_n hx hb dX10_likeBeside_2 rfl (lv_at hl 2 rfl) ?_
  refine lv_bipush (v := 6) hx hb dX10_likeBeside_3 (by decide) ?_
  refine lv_idiv hx hb dX10_likeBeside_5 (by decide) ?_
  have f1 : (co / 6).toInt = (co.toInt) / (6) := divC rfl (show (6 : Int32).toInt = 6 from rfl) (by omega) (by omega)
  refine lv_bipush (v := 6) hx hb dX10_likeBeside_6 (by decide) ?_
  refine lv_imul hx hb dX10_likeBeside_8 ?_
  have f2 : ((co / 6) * 6).toInt = ((co.toInt) / (6)) * (6) := mulC f1 (show (6 : Int32).toInt = 6 from rfl) (by omega) (by omega)
  refine lv_topi (fun x3 ex3 => ?_)
  have ix3 : x3.toInt = ((co.toInt) / (6)) * (6) := by rw [ex3]; exact f2
  refine lv_istore_n (lv' := [(3, .int x3), (2, .int 0), (0, .ref (b 39)), (1, .int co)]) hx hb dX10_likeBeside_9 rfl hl (by decide) rfl (fun ls hl => ?_)
  have L10 : ∀ (nn : Nat) (y10_2 : Int32) (y10_3 : Int32) (ls : Array Slot), (0 ≤ (y10_3.toInt)) → ((y10_3.toInt) ≤ 48) → (0 ≤ (y10_2.toInt)) → ((y10_2.toInt) ≤ (y10_3.toInt) - (co.toInt) / 6 * 6) → ((y10_2.toInt) ≤ 6) → ((co.toInt) / 6 * 6 ≤ (y10_3.toInt)) → ((y10_3.toInt) ≤ (co.toInt) / 6 * 6 + 6) → (LB mmar mtop mtel co (y10_3.toInt) (y10_2.toInt)) → (48 - (y10_3.toInt)).toNat < nn → lv_has ls 4 [(0, .ref (b 39)), (1, .int co), (2, .int y10_2), (3, .int y10_3)] → W p l e (headSpec wsX10_likeBeside { frames := 1, cells := 0, slots := 0, locals := 25 }).room s m ([.ref (b 39), .int co] : List Value).toArray below meth c s.heap [] 0 0 (MQ below (QR (fun r : Int32 => (0 ≤ r.toInt) ∧ (r.toInt ≤ 6) ∧ (r.toInt = cwF mmar mtop mtel co.toNatClampNeg (co.toNatClampNeg - co.toNatClampNeg % 6) 6))) ([.ref (b 39), .int co] : List Value).toArray s 0 0 (fun _ => False)) (F0 m 10 ls []) := by
    intro nn
    induction nn with
    | zero =>
      intro y10_2 y10_3 ls i10_0 i10_1 i10_2 i10_3 i10_4 i10_5 i10_6 i10_7 hm10
      exact absurd hm10 (Nat.not_lt_zero _)
    | succ nn ih10 =>
      intro y10_2 y10_3 ls i10_0 i10_1 i10_2 i10_3 i10_4 i10_5 i10_6 i10_7 hm10 hl
      refine lv_iload_n hx hb dX10_likeBeside_10 rfl (lv_at hl 3 rfl) ?_
      refine lv_iload_n hx hb dX10_likeBeside_11 rfl (lv_at hl 1 rfl) ?_
      refine lv_bipush (v := 6) hx hb dX10_likeBeside_12 (by decide) ?_
      refine lv_idiv hx hb dX10_likeBeside_14 (by decide) ?_
      have f4 : (co / 6).toInt = (co.toInt) / (6) := divC rfl (show (6 : Int32).toInt = 6 from rfl) (by omega) (by omega)
      refine lv_bipush (v := 6) hx hb dX10_likeBeside_15 (by decide) ?_
      refine lv_imul hx hb dX10_likeBeside_17 ?_
      have f5 : ((co / 6) * 6).toInt = ((co.toInt) / (6)) * (6) := mulC f4 (show (6 : Int32).toInt = 6 from rfl) (by omega) (by omega)
      refine lv_bipush (v := 6) hx hb dX10_likeBeside_18 (by decide) ?_
      refine lv_iadd hx hb dX10_likeBeside_20 ?_
      have f6 : (((co / 6) * 6) + 6).toInt = (((co.toInt) / (6)) * (6)) + (6) := addC f5 (show (6 : Int32).toInt = 6 from rfl) (by omega) (by omega)
      refine lv_icmp_ge (tgt := 76) hx hb dX10_likeBeside_21 (by decide) (fun c7 => ?_) (fun c7 => ?_)
      · have dc7 : (((co.toInt) / (6)) * (6)) + (6) ≤ y10_3.toInt := leC f6 rfl c7
        refine lv_iload_n hx hb dX10_likeBeside_76 rfl (lv_at hl 2 rfl) ?_
        exact W.iret (v := y10_2) hx hb hr (fun tq ht hW => ⟨y10_2, rfl, ⟨(show 0 ≤ y10_2.toInt from by omega), (show y10_2.toInt ≤ 6 from by omega), (show y10_2.toInt = cwF mmar mtop mtel co.toNatClampNeg (co.toNatClampNeg - co.toNatClampNeg % 6) 6 from by exact lb_end i10_7 (by omega))⟩, ht⟩) (fun q h => by cases h) dX10_likeBeside_77
      · have dc7 : y10_3.toInt < (((co.toInt) / (6)) * (6)) + (6) := nleC f6 rfl c7
        refine lv_iload_n hx hb dX10_likeBeside_24 rfl (lv_at hl 2 rfl) ?_
        refine lv_iload_n hx hb dX10_likeBeside_25 rfl (lv_at hl 3 rfl) ?_
        refine lv_iload_n hx hb dX10_likeBeside_26 rfl (lv_at hl 1 rfl) ?_
        refine lv_icmp_eq (tgt := 67) hx hb dX10_likeBeside_27 (by decide) (fun c8 => ?_) (fun c8 => ?_)
        · have dc8 : y10_3.toInt = co.toInt := eqC rfl rfl c8
          refine lv_iconst (v := 0) hx hb dX10_likeBeside_67 (by decide) ?_
          refine lv_iadd hx hb dX10_likeBeside_68 ?_
          have f9 : (y10_2 + 0).toInt = (y10_2.toInt) + (0) := addC rfl (show (0 : Int32).toInt = 0 from rfl) (by omega) (by omega)
          refine lv_topi (fun x10 ex10 => ?_)
          have ix10 : x10.toInt = (y10_2.toInt) + (0) := by rw [ex10]; exact f9
          refine lv_istore_n (lv' := [(2, .int x10), (0, .ref (b 39)), (1, .int co), (3, .int y10_3)]) hx hb dX10_likeBeside_69 rfl hl (by decide) rfl (fun ls hl => ?_)
          obtain ⟨z11, ez11⟩ : ∃ y : Int32, y = y10_3 + 1 := ⟨_, rfl⟩
          have iz11 : z11.toInt = y10_3.toInt + 1 := by rw [ez11]; exact addC rfl rfl (by omega) (by omega)
          refine lv_iinc (v := z11) (lv' := [(3, .int z11), (2, .int x10), (0, .ref (b 39)), (1, .int co)]) hx hb dX10_likeBeside_70 hl (k := 3) rfl (by rw [ez11]; rfl) (by decide) rfl (fun ls hl => ?_)
          refine lv_goto (tgt := 10) hx hb dX10_likeBeside_73 (by decide) ?_
          exact ih10 x10 z11 _ (by omega) (by omega) (by omega) (by omega) (by omega) (by omega) (by omega) (by (first | exact lb_init (by omega) (by first | rfl | omega) | exact lb_yes i10_7 (crd_yesR (by assumption) (by omega) (by omega) (by omega) (by omega) (by assumption) (by omega)) (by omega) (by omega) (by omega) (by omega) | exact lb_no i10_7 (by first | exact crd_eq (by assumption) | exact crd_t1 (by assumption) | exact crd_noR (by assumption) (by omega)) (by omega) (by omega) (by omega) (by omega))) (by omega) (lv_sub hl [2, 3, 1, 0] rfl)
        · have dc8 : y10_3.toInt ≠ co.toInt := neC rfl rfl c8
          refine lv_aload_n hx hb dX10_likeBeside_30 rfl (lv_at hl 0 rfl) ?_
          refine va_get (D := (dC, dI)) (ci := 10) (v := .ref (b 9)) (C := RX10) (T := TX10) (N := 39) hx hb hts inX10 hown hK hP 0 rfl rfl 9 (by decide) lf32 (fun _ h9 => h9) rfl dX10_likeBeside_31 ?_
          refine lv_iload_n hx hb dX10_likeBeside_34 rfl (lv_at hl 3 rfl) ?_
          have b12 : vp_in y10_3 48 := inC rfl (by omega) (by omega)
          refine va_iald hx hb hK hP 6 0 rfl rfl b12 dX10_likeBeside_35 ?_
          have g13 : -1 ≤ (mtop y10_3.toNatClampNeg).toInt ∧ (mtop y10_3.toNatClampNeg).toInt ≤ 23 := rg_at r_mtop b12
          refine lv_iconst (v := (-1)) hx hb dX10_likeBeside_36 (by decide) ?_
          refine lv_icmp_eq (tgt := 67) hx hb dX10_likeBeside_37 (by decide) (fun c14 => ?_) (fun c14 => ?_)
          · have dc14 : (mtop y10_3.toNatClampNeg).toInt = (-1) := eqC rfl (show ((-1) : Int32).toInt = (-1) from rfl) c14
            refine lv_iconst (v := 0) hx hb dX10_likeBeside_67 (by decide) ?_
            refine lv_iadd hx hb dX10_likeBeside_68 ?_
            have f15 : (y10_2 + 0).toInt = (y10_2.toInt) + (0) := addC rfl (show (0 : Int32).toInt = 0 from rfl) (by omega) (by omega)
            refine lv_topi (fun x16 ex16 => ?_)
            have ix16 : x16.toInt = (y10_2.toInt) + (0) := by rw [ex16]; exact f15
            refine lv_istore_n (lv' := [(2, .int x16), (0, .ref (b 39)), (1, .int co), (3, .int y10_3)]) hx hb dX10_likeBeside_69 rfl hl (by decide) rfl (fun ls hl => ?_)
            obtain ⟨z17, ez17⟩ : ∃ y : Int32, y = y10_3 + 1 := ⟨_, rfl⟩
            have iz17 : z17.toInt = y10_3.toInt + 1 := by rw [ez17]; exact addC rfl rfl (by omega) (by omega)
            refine lv_iinc (v := z17) (lv' := [(3, .int z17), (2, .int x16), (0, .ref (b 39)), (1, .int co)]) hx hb dX10_likeBeside_70 hl (k := 3) rfl (by rw [ez17]; rfl) (by decide) rfl (fun ls hl => ?_)
            refine lv_goto (tgt := 10) hx hb dX10_likeBeside_73 (by decide) ?_
            exact ih10 x16 z17 _ (by omega) (by omega) (by omega) (by omega) (by omega) (by omega) (by omega) (by (first | exact lb_init (by omega) (by first | rfl | omega) | exact lb_yes i10_7 (crd_yesR (by assumption) (by omega) (by omega) (by omega) (by omega) (by assumption) (by omega)) (by omega) (by omega) (by omega) (by omega) | exact lb_no i10_7 (by first | exact crd_eq (by assumption) | exact crd_t1 (by assumption) | exact crd_noR (by assumption) (by omega)) (by omega) (by omega) (by omega) (by omega))) (by omega) (lv_sub hl [2, 3, 1, 0] rfl)
          · have dc14 : 0 ≤ (mtop y10_3.toNatClampNeg).toInt := ka_lo (by omega) (neC rfl (show ((-1) : Int32).toInt = (-1) from rfl) c14)
            refine lv_aload_n hx hb dX10_likeBeside_40 rfl (lv_at hl 0 rfl) ?_
            refine lv_aload_n hx hb dX10_likeBeside_41 rfl (lv_at hl 0 rfl) ?_
            refine va_get (D := (dC, dI)) (ci := 10) (v := .ref (b 9)) (C := RX10) (T := TX10) (N := 39) hx hb hts inX10 hown hK hP 0 rfl rfl 9 (by decide) lf32 (fun _ h9 => h9) rfl dX10_likeBeside_42 ?_
            refine lv_iload_n hx hb dX10_likeBeside_45 rfl (lv_at hl 3 rfl) ?_
            have b18 : vp_in y10_3 48 := inC rfl (by omega) (by omega)
            refine va_iald hx hb hK hP 6 0 rfl rfl b18 dX10_likeBeside_46 ?_
            have g19 : -1 ≤ (mtop y10_3.toNatClampNeg).toInt ∧ (mtop y10_3.toNatClampNeg).toInt ≤ 23 := rg_at r_mtop b18
            refine lv_aload_n hx hb dX10_likeBeside_47 rfl (lv_at hl 0 rfl) ?_
            refine va_get (D := (dC, dI)) (ci := 10) (v := .ref (b 9)) (C := RX10) (T := TX10) (N := 39) hx hb hts inX10 hown hK hP 0 rfl rfl 9 (by decide) lf32 (fun _ h9 => h9) rfl dX10_likeBeside_48 ?_
            refine lv_iload_n hx hb dX10_likeBeside_51 rfl (lv_at hl 1 rfl) ?_
            have b20 : vp_in co 48 := inC rfl (by omega) (by omega)
            refine va_iald hx hb hK hP 6 0 rfl rfl b20 dX10_likeBeside_52 ?_
            have g21 : -1 ≤ (mtop co.toNatClampNeg).toInt ∧ (mtop co.toNatClampNeg).toInt ≤ 23 := rg_at r_mtop b20
            refine rdV (As := [.int (mtop y10_3.toNatClampNeg), .int (mtop co.toNatClampNeg)]) (rest := [.int y10_2]) ⟨hx, hb, hml, hown, hts⟩ (k_X10_likeness l dC dI cI cZ cQ b mday mdoo mdA mdB mfar mmar mtel mgai mfal mtop mstr mgho mfai mpto mwal mahd mahf mcho mbes mbyt mtxt mpos mtka mtok mdig mnum mfau mrdm mrea mlin mlne mthg mord mbor mbsm mans mand manr mali (mtop y10_3.toNatClampNeg) (mtop co.toNatClampNeg) r_mday r_mdoo r_mdA r_mdB r_mmar r_mgai r_mfal r_mtop r_mstr r_mgho r_mfai r_mahd r_mahf r_mcho r_mbyt r_mpos r_mrdm r_mlin r_mthg r_mord r_mans (by omega) (by omega) (by omega) (by omega)) (cwV 2 hts gX10_likeBeside_X10_likeness rfl rfl rfl (by decide +kernel) ⟨Nat.le_of_ble_eq_true rfl, Nat.le_of_ble_eq_true rfl⟩) hP hK hN [0, 1, 2, 3, 4, 5, 6, 7, 8, 9, 10, 11, 12, 13, 14, 15, 16, 17, 18, 19, 20, 21, 22, 23, 24, 25] rfl 0 10 rfl rfl rfl hl.1 rfl (Nat.le_of_ble_eq_true rfl) dX10_likeBeside_53 ⟨Nat.le_of_ble_eq_true rfl, Nat.le_of_ble_eq_true rfl⟩ (fun r22 h23 => ?_)
            have h23 : (r22 = bc (mmar (mtop y10_3.toNatClampNeg).toNatClampNeg &&& mmar (mtop co.toNatClampNeg).toNatClampNeg)) := h23
            have h23_0 := h23
            refine lv_aload_n hx hb dX10_likeBeside_56 rfl (lv_at hl 0 rfl) ?_
            refine va_get (D := (dC, dI)) (ci := 10) (v := .int mtel) (C := RX10) (T := TX10) (N := 39) hx hb hts inX10 hown hK hP 0 rfl rfl 6 (by decide) lf22 (fun _ h9 => h9) rfl dX10_likeBeside_57 ?_
            refine lv_icmp_lt (tgt := 67) hx hb dX10_likeBeside_60 (by decide) (fun c24 => ?_) (fun c24 => ?_)
            · have dc24 : r22.toInt < mtel.toInt := ltC rfl rfl c24
              refine lv_iconst (v := 0) hx hb dX10_likeBeside_67 (by decide) ?_
              refine lv_iadd hx hb dX10_likeBeside_68 ?_
              have f25 : (y10_2 + 0).toInt = (y10_2.toInt) + (0) := addC rfl (show (0 : Int32).toInt = 0 from rfl) (by omega) (by omega)
              refine lv_topi (fun x26 ex26 => ?_)
              have ix26 : x26.toInt = (y10_2.toInt) + (0) := by rw [ex26]; exact f25
              refine lv_istore_n (lv' := [(2, .int x26), (0, .ref (b 39)), (1, .int co), (3, .int y10_3)]) hx hb dX10_likeBeside_69 rfl hl (by decide) rfl (fun ls hl => ?_)
              obtain ⟨z27, ez27⟩ : ∃ y : Int32, y = y10_3 + 1 := ⟨_, rfl⟩
              have iz27 : z27.toInt = y10_3.toInt + 1 := by rw [ez27]; exact addC rfl rfl (by omega) (by omega)
              refine lv_iinc (v := z27) (lv' := [(3, .int z27), (2, .int x26), (0, .ref (b 39)), (1, .int co)]) hx hb dX10_likeBeside_70 hl (k := 3) rfl (by rw [ez27]; rfl) (by decide) rfl (fun ls hl => ?_)
              refine lv_goto (tgt := 10) hx hb dX10_likeBeside_73 (by decide) ?_
              exact ih10 x26 z27 _ (by omega) (by omega) (by omega) (by omega) (by omega) (by omega) (by omega) (by (first | exact lb_init (by omega) (by first | rfl | omega) | exact lb_yes i10_7 (crd_yesR (by assumption) (by omega) (by omega) (by omega) (by omega) (by assumption) (by omega)) (by omega) (by omega) (by omega) (by omega) | exact lb_no i10_7 (by first | exact crd_eq (by assumption) | exact crd_t1 (by assumption) | exact crd_noR (by assumption) (by omega)) (by omega) (by omega) (by omega) (by omega))) (by omega) (lv_sub hl [2, 3, 1, 0] rfl)
            · have dc24 : mtel.toInt ≤ r22.toInt := nltC rfl rfl c24
              refine lv_iconst (v := 1) hx hb dX10_likeBeside_63 (by decide) ?_
              refine lv_goto (tgt := 68) hx hb dX10_likeBeside_64 (by decide) ?_
              refine lv_iadd hx hb dX10_likeBeside_68 ?_
              have f28 : (y10_2 + 1).toInt = (y10_2.toInt) + (1) := addC rfl (show (1 : Int32).toInt = 1 from rfl) (by omega) (by omega)
              refine lv_topi (fun x29 ex29 => ?_)
              have ix29 : x29.toInt = (y10_2.toInt) + (1) := by rw [ex29]; exact f28
              refine lv_istore_n (lv' := [(2, .int x29), (0, .ref (b 39)), (1, .int co), (3, .int y10_3)]) hx hb dX10_likeBeside_69 rfl hl (by decide) rfl (fun ls hl => ?_)
              obtain ⟨z30, ez30⟩ : ∃ y : Int32, y = y10_3 + 1 := ⟨_, rfl⟩
              have iz30 : z30.toInt = y10_3.toInt + 1 := by rw [ez30]; exact addC rfl rfl (by omega) (by omega)
              refine lv_iinc (v := z30) (lv' := [(3, .int z30), (2, .int x29), (0, .ref (b 39)), (1, .int co)]) hx hb dX10_likeBeside_70 hl (k := 3) rfl (by rw [ez30]; rfl) (by decide) rfl (fun ls hl => ?_)
              refine lv_goto (tgt := 10) hx hb dX10_likeBeside_73 (by decide) ?_
              exact ih10 x29 z30 _ (by omega) (by omega) (by omega) (by omega) (by omega) (by omega) (by omega) (by (first | exact lb_init (by omega) (by first | rfl | omega) | exact lb_yes i10_7 (crd_yesR (by assumption) (by omega) (by omega) (by omega) (by omega) (by assumption) (by omega)) (by omega) (by omega) (by omega) (by omega) | exact lb_no i10_7 (by first | exact crd_eq (by assumption) | exact crd_t1 (by assumption) | exact crd_noR (by assumption) (by omega)) (by omega) (by omega) (by omega) (by omega))) (by omega) (lv_sub hl [2, 3, 1, 0] rfl)
  have kc31 : (0 : Int32).toInt = 0 := rfl
  exact L10 _ 0 x3 _ (by omega) (by omega) (by omega) (by omega) (by omega) (by omega) (by omega) (by (first | exact lb_init (by omega) (by first | rfl | omega) | exact lb_yes i10_7 (crd_yesR (by assumption) (by omega) (by omega) (by omega) (by omega) (by assumption) (by omega)) (by omega) (by omega) (by omega) (by omega) | exact lb_no i10_7 (by first | exact crd_eq (by assumption) | exact crd_t1 (by assumption) | exact crd_noR (by assumption) (by omega)) (by omega) (by omega) (by omega) (by omega))) (Nat.lt_succ_self _) (lv_sub hl [2, 3, 1, 0] rfl)
