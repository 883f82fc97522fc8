set_option maxHeartbeats 4000000 in
set_option maxRecDepth 100000 in
theorem k_X10_goWalk2 (l : Launch) (dC : Nat → ClassId) (dI : Nat → Nat → Nat) (cI cZ cQ : ClassId) (b : Nat → Nat) (mday : Int32) (mdoo : Int32) (mdA : Nat → Int32) (mdB : Nat → Int32) (mfar : Nat → Int32) (mmar : Nat → Int32) (mtel : Int32) (mgai : Int32) (mfal : Nat → Int32) (mtop : Nat → Int32) (mstr : Nat → Int32) (mgho : Nat → Int32) (mfai : Nat → Int32) (mpto : Nat → Int32) (mwal : Nat → Int32) (mahd : Nat → Int32) (mahf : Nat → Int32) (mcho : Nat → Int32) (mbes : Nat → Int32) (mbyt : Int32) (mtxt : Nat → Int32) (mpos : Int32) (mtka : Int32) (mtok : Int64) (mdig : Int32) (mnum : Int32) (mfau : Int32) (mrdm : Int32) (mrea : Nat → Int32) (mlin : Int32) (mlne : Nat → Int32) (mthg : Nat → Int32) (mord : Nat → Int32) (mbor : Nat → Int32) (mbsm : Int32) (mans : Nat → Int32) (mand : Nat → Int32) (manr : Nat → Int32) (mali : Nat → Int32) (sz : Nat) (ro : Int32) (at_ : Int32) (r_mday : 0 ≤ mday.toInt ∧ mday.toInt ≤ 400) (r_mdoo : 0 ≤ mdoo.toInt ∧ mdoo.toInt ≤ 14) (r_mdA : rg 14 (0) (7) mdA) (r_mdB : rg 14 (0) (7) mdB) (r_mmar : rg 24 (0) (255) mmar) (r_mgai : 0 ≤ mgai.toInt ∧ mgai.toInt ≤ 100) (r_mfal : rg 11 (0) (30) mfal) (r_mtop : rg 48 (-1) (23) mtop) (r_mstr : rg 48 (0) (100) mstr) (r_mgho : rg 48 (-1) (23) mgho) (r_mfai : rg 48 (0) (100) mfai) (r_mahd : rg 240 (0) (100) mahd) (r_mahf : rg 240 (0) (100) mahf) (r_mcho : rg 5 (-1) (9) mcho) (r_mbyt : 0 ≤ mbyt.toInt ∧ mbyt.toInt ≤ 160) (r_mpos : 0 ≤ mpos.toInt ∧ mpos.toInt ≤ 160) (r_mrdm : 0 ≤ mrdm.toInt ∧ mrdm.toInt ≤ 10) (r_mlin : 0 ≤ mlin.toInt ∧ mlin.toInt ≤ 10) (r_mthg : rg 8 (0) (31) mthg) (r_mord : rg 8 (-1) (8) mord) (r_mans : rg 4 (0) (12) mans) (q0 : 0 ≤ ro.toInt) (q1 : ro.toInt ≤ 7) (q2 : 0 ≤ at_.toInt) (q3 : at_.toInt ≤ 192) : KW l yX10_goWalk wsX10_goWalk { frames := 0, cells := 0, slots := 0, locals := 0 } (dC, dI) (TY cI cZ cQ) (wMod cI cZ cQ b mday mdoo mdA mdB mfar mmar mtel mgai mfal mtop mstr mgho mfai mpto mwal mahd mahf mcho mbes mbyt mtxt mpos mtka mtok mdig mnum mfau mrdm mrea mlin mlne mthg mord mbor mbsm mans mand manr mali) [.ref (b 39), .int ro, .int at_] sz 0 0 (fun (r : Int32) (u : US) => (gwS mtop mgai.toInt at_.toInt (ro.toInt * 6) (ro.toInt * 6 + 6) mahd (u.1 0) r.toInt) ∧ (rg 240 (0) (100) (u.1 0))) (fun u : US => (wMod cI cZ cQ b mday mdoo mdA mdB mfar mmar mtel mgai mfal mtop mstr mgho mfai mpto mwal (u.1 0) mahf mcho mbes mbyt mtxt mpos mtka mtok mdig mnum mfau mrdm mrea mlin mlne mthg mord mbor mbsm mans mand manr mali)) := by
  refine Met.ofW (cc := cX10_goWalk) (maxL := 6) (ret := (some .int)) (by decide) rfl ?_
  intro p e s m args below meth c s₁ B hml hv
  obtain ⟨rfl, hsz, hP, hK, hD0, hN⟩ := hv
  have hx := B.exec
  have hb := B.bytes
  have hr := B.returns
  have hts := atoms_spec (ws := wsX10_goWalk) B.pre
  have hown : s.vm.findClass RX10 = some m.cls := findClass_of_methodNamed B.named
  have hlocks := B.notSynchronized
  have lf32 := hts (.fieldLink RX10 32 "PalaceOfRoomsModel" "top" "[I") (by decide +kernel)
  have inX10 : ∀ w ∈ wsX100, w ∈ wsX10_goWalk := by decide +kernel
  have lf50 := hts (.fieldLink RX10 50 "PalaceOfRoomsModel" "ahead" "[I") (by decide +kernel)
  have lf26 := hts (.fieldLink RX10 26 "PalaceOfRoomsModel" "gain" "I") (by decide +kernel)
  subst hsz
  have hD := hD0.self (sz := s.heap.size)
  generalize hAe : va_A (wMod cI cZ cQ b mday mdoo mdA mdB mfar mmar mtel mgai mfal mtop mstr mgho mfai mpto mwal mahd mahf mcho mbes mbyt mtxt mpos mtka mtok mdig mnum mfau mrdm mrea mlin mlne mthg mord mbor mbsm mans mand manr mali) s.heap.size = A at hD ⊢
  have hA : ∀ q : Nat, s.heap.size ≤ q → A q := fun q h => by rw [← hAe]; exact Or.inr h
  have hS : va_S A s.heap s.heap [] := va_S.rf
  have hl := lv_entry ([.ref (b 39), .int ro, .int at_]) (n := 6) (Nat.le_of_ble_eq_true rfl)
  rw [lg_entry_eq]
  generalize (lg_sl ([.ref (b 39), .int ro, .int at_]) ++ List.replicate (6 - (lg_sl ([.ref (b 39), .int ro, .int at_])).length) Slot.unset).toArray = ls at hl ⊢
  have hl : lv_has ls 6 [(0, .ref (b 39)), (1, .int ro), (2, .int at_)] := hl
  refine lv_iconst (v := 0) hx hb dX10_goWalk_0 (by decide) ?_
  refine lv_istore_n (lv' := [(3, .int 0), (0, .ref (b 39)), (1, .int ro), (2, .int at_)]) hx hb dX10_goWalk_1 rfl hl (by decide) rfl (fun ls hl => ?_)
  refine lv_bipush (v := 6) hx hb dX10_goWalk_2 (by decide) ?_
  refine lv_iload_n hx hb dX10_goWalk_4 rfl (lv_at hl 2 rfl) ?_
  refine lv_imul hx hb dX10_goWalk_5 ?_
  have f1 : (6 * ro).toInt = (6) * (ro.toInt) := mulC (show (6 : Int32).toInt = 6 from rfl) rfl (by omega) (by omega)
  refine lv_topi (fun x2 ex2 => ?_)
  have ix2 : x2.toInt = (6) * (ro.toInt) := by rw [ex2]; exact f1
  refine lv_istore (lv' := [(4, .int x2), (3, .int 0), (0, .ref (b 39)), (1, .int ro), (2, .int at_)]) hx hb dX10_goWalk_6 hl (by decide) rfl (fun ls hl => ?_)
  have L8 : ∀ (nn : Nat) (y8_3 : Int32) (y8_4 : Int32) (mahd_8 : Nat → Int32) (H : Heap) (locs : List Loc) (ls : Array Slot), (rg 240 (0) (100) mahd_8) → (0 ≤ (y8_4.toInt)) → ((y8_4.toInt) ≤ 48) → (6 * ro.toInt ≤ (y8_4.toInt)) → ((y8_4.toInt) ≤ 6 * ro.toInt + 6) → (0 ≤ (y8_3.toInt)) → ((y8_3.toInt) ≤ 100 * ((y8_4.toInt) - 6 * ro.toInt)) → (gwS mtop mgai.toInt at_.toInt (6 * ro.toInt) (y8_4.toInt) mahd mahd_8 (y8_3.toInt)) → (48 - (y8_4.toInt)).toNat < nn → va_P (dC, dI) vwCl (wMod cI cZ cQ b mday mdoo mdA mdB mfar mmar mtel mgai mfal mtop mstr mgho mfai mpto mwal mahd_8 mahf mcho mbes mbyt mtxt mpos mtka mtok mdig mnum mfau mrdm mrea mlin mlne mthg mord mbor mbsm mans mand manr mali) H → va_D A (wMod cI cZ cQ b mday mdoo mdA mdB mfar mmar mtel mgai mfal mtop mstr mgho mfai mpto mwal mahd_8 mahf mcho mbes mbyt mtxt mpos mtka mtok mdig mnum mfau mrdm mrea mlin mlne mthg mord mbor mbsm mans mand manr mali) → va_S A s.heap H locs → lv_has ls 6 [(0, .ref (b 39)), (1, .int ro), (2, .int at_), (3, .int y8_3), (4, .int y8_4)] → W p l e (headSpec wsX10_goWalk { frames := 0, cells := 0, slots := 0, locals := 0 }).room s m ([.ref (b 39), .int ro, .int at_] : List Value).toArray below meth c H locs 0 0 (MQ below (va_Qi (fun (r : Int32) (u : US) => (gwS mtop mgai.toInt at_.toInt (ro.toInt * 6) (ro.toInt * 6 + 6) mahd (u.1 0) r.toInt) ∧ (rg 240 (0) (100) (u.1 0))) (Bw (dC, dI) A (fun u : US => (wMod cI cZ cQ b mday mdoo mdA mdB mfar mmar mtel mgai mfal mtop mstr mgho mfai mpto mwal (u.1 0) mahf mcho mbes mbyt mtxt mpos mtka mtok mdig mnum mfau mrdm mrea mlin mlne mthg mord mbor mbsm mans mand manr mali))) A) ([.ref (b 39), .int ro, .int at_] : List Value).toArray s 0 0 A) (F0 m 8 ls []) := by
    intro nn
    induction nn with
    | zero =>
      intro y8_3 y8_4 mahd_8 H locs ls r_mahd_8 i8_0 i8_1 i8_2 i8_3 i8_4 i8_5 i8_6 hm8
      exact absurd hm8 (Nat.not_lt_zero _)
    | succ nn ih8 =>
      intro y8_3 y8_4 mahd_8 H locs ls r_mahd_8 i8_0 i8_1 i8_2 i8_3 i8_4 i8_5 i8_6 hm8 hP hD hS hl
      refine lv_iload hx hb dX10_goWalk_8 (lv_at hl 4 rfl) ?_
      refine lv_bipush (v := 6) hx hb dX10_goWalk_10 (by decide) ?_
      refine lv_iload_n hx hb dX10_goWalk_12 rfl (lv_at hl 1 rfl) ?_
      refine lv_imul hx hb dX10_goWalk_13 ?_
      have f3 : (6 * ro).toInt = (6) * (ro.toInt) := mulC (show (6 : Int32).toInt = 6 from rfl) rfl (by omega) (by omega)
      refine lv_bipush (v := 6) hx hb dX10_goWalk_14 (by decide) ?_
      refine lv_iadd hx hb dX10_goWalk_16 ?_
      have f4 : ((6 * ro) + 6).toInt = ((6) * (ro.toInt)) + (6) := addC f3 (show (6 : Int32).toInt = 6 from rfl) (by omega) (by omega)
      refine lv_icmp_ge (tgt := 82) hx hb dX10_goWalk_17 (by decide) (fun c5 => ?_) (fun c5 => ?_)
      · have dc5 : ((6) * (ro.toInt)) + (6) ≤ y8_4.toInt := leC f4 rfl c5
        refine lv_iload_n hx hb dX10_goWalk_82 rfl (lv_at hl 3 rfl) ?_
        exact W.iret (v := y8_3) hx hb hr (fun tq ht hW => ⟨⟨y8_3, (uS [mahd_8] 0 (fun _ => 0)), rfl, ⟨(show gwS mtop mgai.toInt at_.toInt (ro.toInt * 6) (ro.toInt * 6 + 6) mahd mahd_8 y8_3.toInt from by exact gw_end i8_6 (by omega) (by omega)), r_mahd_8⟩, by rw [ht]; exact hP, hD⟩, hS.F ht⟩) hS.2.2 dX10_goWalk_83
      · have dc5 : y8_4.toInt < ((6) * (ro.toInt)) + (6) := nleC f4 rfl c5
        refine lv_aload_n hx hb dX10_goWalk_20 rfl (lv_at hl 0 rfl) ?_
        refine va_get (D := (dC, dI)) (ci := 10) (v := .ref (b 9)) (C := RX10) (T := TX10) (N := 39) hx hb hts inX10 hown hK hP 0 rfl rfl 9 (by decide) lf32 (fun _ h9 => h9) rfl dX10_goWalk_21 ?_
        refine lv_iload hx hb dX10_goWalk_24 (lv_at hl 4 rfl) ?_
        have b6 : vp_in y8_4 48 := inC rfl (by omega) (by omega)
        refine va_iald hx hb hK hP 6 0 rfl rfl b6 dX10_goWalk_26 ?_
        have g7 : -1 ≤ (mtop y8_4.toNatClampNeg).toInt ∧ (mtop y8_4.toNatClampNeg).toInt ≤ 23 := rg_at r_mtop b6
        refine lv_iconst (v := (-1)) hx hb dX10_goWalk_27 (by decide) ?_
        refine lv_icmp_ne (tgt := 35) hx hb dX10_goWalk_28 (by decide) (fun c8 => ?_) (fun c8 => ?_)
        · have dc8 : 0 ≤ (mtop y8_4.toNatClampNeg).toInt := ka_lo (by omega) (neC rfl (show ((-1) : Int32).toInt = (-1) from rfl) c8)
          refine lv_bipush (v := 100) hx hb dX10_goWalk_35 (by decide) ?_
          refine lv_aload_n hx hb dX10_goWalk_37 rfl (lv_at hl 0 rfl) ?_
          refine va_get (D := (dC, dI)) (ci := 10) (v := .ref (b 15)) (C := RX10) (T := TX10) (N := 39) hx hb hts inX10 hown hK hP 0 rfl rfl 15 (by decide) lf50 (fun _ h9 => h9) rfl dX10_goWalk_38 ?_
          refine lv_iload_n hx hb dX10_goWalk_41 rfl (lv_at hl 2 rfl) ?_
          refine lv_iload hx hb dX10_goWalk_42 (lv_at hl 4 rfl) ?_
          refine lv_iadd hx hb dX10_goWalk_44 ?_
          have f9 : (at_ + y8_4).toInt = (at_.toInt) + (y8_4.toInt) := addC rfl rfl (by omega) (by omega)
          have b10 : vp_in (at_ + y8_4) 240 := inC f9 (by omega) (by omega)
          refine va_iald hx hb hK hP 12 0 rfl rfl b10 dX10_goWalk_45 ?_
          have g11 : 0 ≤ (mahd_8 (at_ + y8_4).toNatClampNeg).toInt ∧ (mahd_8 (at_ + y8_4).toNatClampNeg).toInt ≤ 100 := rg_at r_mahd_8 b10
          refine lv_isub hx hb dX10_goWalk_46 ?_
          have f12 : (100 - (mahd_8 (at_ + y8_4).toNatClampNeg)).toInt = (100) - ((mahd_8 (at_ + y8_4).toNatClampNeg).toInt) := subC (show (100 : Int32).toInt = 100 from rfl) rfl (by omega) (by omega)
          refine lv_aload_n hx hb dX10_goWalk_47 rfl (lv_at hl 0 rfl) ?_
          refine va_get (D := (dC, dI)) (ci := 10) (v := .int mgai) (C := RX10) (T := TX10) (N := 39) hx hb hts inX10 hown hK hP 0 rfl rfl 7 (by decide) lf26 (fun _ h9 => h9) rfl dX10_goWalk_48 ?_
          refine lv_imul hx hb dX10_goWalk_51 ?_
          obtain ⟨f13, f13_1, f13_2⟩ := mulB (a := (100 - (mahd_8 (at_ + y8_4).toNatClampNeg))) (b := mgai) (A := (100) - ((mahd_8 (at_ + y8_4).toNatClampNeg).toInt)) (B := mgai.toInt) (p := 100) (q := 100) f12 rfl (by omega) (by omega) (by omega) (by omega) (by decide)
          refine lv_bipush (v := 100) hx hb dX10_goWalk_52 (by decide) ?_
          refine lv_idiv hx hb dX10_goWalk_54 (by decide) ?_
          have f14 : (((100 - (mahd_8 (at_ + y8_4).toNatClampNeg)) * mgai) / 100).toInt = (((100) - ((mahd_8 (at_ + y8_4).toNatClampNeg).toInt)) * (mgai.toInt)) / (100) := divC f13 (show (100 : Int32).toInt = 100 from rfl) (by omega) (by omega)
          refine lv_topi (fun x15 ex15 => ?_)
          have ix15 : x15.toInt = (((100) - ((mahd_8 (at_ + y8_4).toNatClampNeg).toInt)) * (mgai.toInt)) / (100) := by rw [ex15]; exact f14
          refine lv_istore (lv' := [(5, .int x15), (0, .ref (b 39)), (1, .int ro), (2, .int at_), (3, .int y8_3), (4, .int y8_4)]) hx hb dX10_goWalk_55 hl (by decide) rfl (fun ls hl => ?_)
          refine lv_aload_n hx hb dX10_goWalk_57 rfl (lv_at hl 1 rfl) ?_
          refine va_get (D := (dC, dI)) (ci := 10) (v := .ref (b 15)) (C := RX10) (T := TX10) (N := 39) hx hb hts inX10 hown hK hP 0 rfl rfl 15 (by decide) lf50 (fun _ h9 => h9) rfl dX10_goWalk_58 ?_
          refine lv_iload_n hx hb dX10_goWalk_61 rfl (lv_at hl 3 rfl) ?_
          refine lv_iload hx hb dX10_goWalk_62 (lv_at hl 5 rfl) ?_
          refine lv_iadd hx hb dX10_goWalk_64 ?_
          have f16 : (at_ + y8_4).toInt = (at_.toInt) + (y8_4.toInt) := addC rfl rfl (by omega) (by omega)
          refine lv_dup2_11 hx hb dX10_goWalk_65 rfl rfl ?_
          have b17 : vp_in (at_ + y8_4) 240 := inC f16 (by omega) (by omega)
          refine va_iald hx hb hK hP 12 0 rfl rfl b17 dX10_goWalk_66 ?_
          have g18 : 0 ≤ (mahd_8 (at_ + y8_4).toNatClampNeg).toInt ∧ (mahd_8 (at_ + y8_4).toNatClampNeg).toInt ≤ 100 := rg_at r_mahd_8 b17
          refine lv_iload hx hb dX10_goWalk_67 (lv_at hl 0 rfl) ?_
          refine lv_iadd hx hb dX10_goWalk_69 ?_
          have f19 : ((mahd_8 (at_ + y8_4).toNatClampNeg) + x15).toInt = ((mahd_8 (at_ + y8_4).toNatClampNeg).toInt) + (x15.toInt) := addC rfl rfl (by omega) (by omega)
          refine lv_topi (fun x20 ex20 => ?_)
          have ix20 : x20.toInt = ((mahd_8 (at_ + y8_4).toNatClampNeg).toInt) + (x15.toInt) := by rw [ex20]; exact f19
          have b21 : vp_in (at_ + y8_4) 240 := inC f16 (by omega) (by omega)
          have g22 : rg 240 (0) (100) (upd mahd_8 (at_ + y8_4).toNatClampNeg x20) := rg_upd r_mahd_8 rfl (by omega) (by omega)
          refine va_iast hx hb hK hP hD hS 12 0 rfl rfl b21 dX10_goWalk_70 (fun H locs hP hD hS => ?_)
          obtain ⟨mahd_u23, emahd_u23⟩ : ∃ f : Nat → Int32, f = upd mahd_8 (at_ + y8_4).toNatClampNeg x20 := ⟨_, rfl⟩
          have rmahd_u23 : rg 240 (0) (100) mahd_u23 := by rw [emahd_u23]; exact g22
          have hP : va_P (dC, dI) vwCl (wMod cI cZ cQ b mday mdoo mdA mdB mfar mmar mtel mgai mfal mtop mstr mgho mfai mpto mwal mahd_u23 mahf mcho mbes mbyt mtxt mpos mtka mtok mdig mnum mfau mrdm mrea mlin mlne mthg mord mbor mbsm mans mand manr mali) H := by rw [emahd_u23]; exact hP
          have hD : va_D A (wMod cI cZ cQ b mday mdoo mdA mdB mfar mmar mtel mgai mfal mtop mstr mgho mfai mpto mwal mahd_u23 mahf mcho mbes mbyt mtxt mpos mtka mtok mdig mnum mfau mrdm mrea mlin mlne mthg mord mbor mbsm mans mand manr mali) := by rw [emahd_u23]; exact hD
          refine lv_iload_n hx hb dX10_goWalk_71 rfl (lv_at hl 4 rfl) ?_
          refine lv_iload hx hb dX10_goWalk_72 (lv_at hl 0 rfl) ?_
          refine lv_iadd hx hb dX10_goWalk_74 ?_
          have f24 : (y8_3 + x15).toInt = (y8_3.toInt) + (x15.toInt) := addC rfl rfl (by omega) (by omega)
          refine lv_topi (fun x25 ex25 => ?_)
          have ix25 : x25.toInt = (y8_3.toInt) + (x15.toInt) := by rw [ex25]; exact f24
          refine lv_istore_n (lv' := [(3, .int x25), (5, .int x15), (0, .ref (b 39)), (1, .int ro), (2, .int at_), (4, .int y8_4)]) hx hb dX10_goWalk_75 rfl hl (by decide) rfl (fun ls hl => ?_)
          obtain ⟨z26, ez26⟩ : ∃ y : Int32, y = y8_4 + 1 := ⟨_, rfl⟩
          have iz26 : z26.toInt = y8_4.toInt + 1 := by rw [ez26]; exact addC rfl rfl (by omega) (by omega)
          refine lv_iinc (v := z26) (lv' := [(4, .int z26), (3, .int x25), (5, .int x15), (0, .ref (b 39)), (1, .int ro), (2, .int at_)]) hx hb dX10_goWalk_76 hl (k := 5) rfl (by rw [ez26]; rfl) (by decide) rfl (fun ls hl => ?_)
          refine lv_goto (tgt := 8) hx hb dX10_goWalk_79 (by decide) ?_
          exact ih8 x25 z26 mahd_u23 _ _ _ rmahd_u23 (by omega) (by omega) (by omega) (by omega) (by omega) (by omega) (by (first | exact gw_init (by omega) (by first | rfl | omega) | exact gw_step i8_6 (by omega) (by omega) (by omega) (by omega) (by omega) (by assumption) (by assumption) (by first | exact it_pos (by assumption) (by first | rfl | omega) | exact it_neg (by assumption) (by assumption)) (by omega) (by omega) (by omega))) (by omega) hP hD hS (lv_sub hl [3, 4, 5, 1, 0] rfl)
        · have dc8 : (mtop y8_4.toNatClampNeg).toInt = (-1) := eqC rfl (show ((-1) : Int32).toInt = (-1) from rfl) c8
          refine lv_iconst (v := 0) hx hb dX10_goWalk_31 (by decide) ?_
          refine lv_goto (tgt := 55) hx hb dX10_goWalk_32 (by decide) ?_
          refine lv_istore (lv' := [(5, .int 0), (0, .ref (b 39)), (1, .int ro), (2, .int at_), (3, .int y8_3), (4, .int y8_4)]) hx hb dX10_goWalk_55 hl (by decide) rfl (fun ls hl => ?_)
          refine lv_aload_n hx hb dX10_goWalk_57 rfl (lv_at hl 1 rfl) ?_
          refine va_get (D := (dC, dI)) (ci := 10) (v := .ref (b 15)) (C := RX10) (T := TX10) (N := 39) hx hb hts inX10 hown hK hP 0 rfl rfl 15 (by decide) lf50 (fun _ h9 => h9) rfl dX10_goWalk_58 ?_
          refine lv_iload_n hx hb dX10_goWalk_61 rfl (lv_at hl 3 rfl) ?_
          refine lv_iload hx hb dX10_goWalk_62 (lv_at hl 5 rfl) ?_
          refine lv_iadd hx hb dX10_goWalk_64 ?_
          have f27 : (at_ + y8_4).toInt = (at_.toInt) + (y8_4.toInt) := addC rfl rfl (by omega) (by omega)
          refine lv_dup2_11 hx hb dX10_goWalk_65 rfl rfl ?_
          have b28 : vp_in (at_ + y8_4) 240 := inC f27 (by omega) (by omega)
          refine va_iald hx hb hK hP 12 0 rfl rfl b28 dX10_goWalk_66 ?_
          have g29 : 0 ≤ (mahd_8 (at_ + y8_4).toNatClampNeg).toInt ∧ (mahd_8 (at_ + y8_4).toNatClampNeg).toInt ≤ 100 := rg_at r_mahd_8 b28
          refine lv_iload hx hb dX10_goWalk_67 (lv_at hl 0 rfl) ?_
          refine lv_iadd hx hb dX10_goWalk_69 ?_
          have f30 : ((mahd_8 (at_ + y8_4).toNatClampNeg) + 0).toInt = ((mahd_8 (at_ + y8_4).toNatClampNeg).toInt) + (0) := addC rfl (show (0 : Int32).toInt = 0 from rfl) (by omega) (by omega)
          refine lv_topi (fun x31 ex31 => ?_)
          have ix31 : x31.toInt = ((mahd_8 (at_ + y8_4).toNatClampNeg).toInt) + (0) := by rw [ex31]; exact f30
          have b32 : vp_in (at_ + y8_4) 240 := inC f27 (by omega) (by omega)
          have g33 : rg 240 (0) (100) (upd mahd_8 (at_ + y8_4).toNatClampNeg x31) := rg_upd r_mahd_8 rfl (by omega) (by omega)
          refine va_iast hx hb hK hP hD hS 12 0 rfl rfl b32 dX10_goWalk_70 (fun H locs hP hD hS => ?_)
          obtain ⟨mahd_u34, emahd_u34⟩ : ∃ f : Nat → Int32, f = upd mahd_8 (at_ + y8_4).toNatClampNeg x31 := ⟨_, rfl⟩
          have rmahd_u34 : rg 240 (0) (100) mahd_u34 := by rw [emahd_u34]; exact g33
          have hP : va_P (dC, dI) vwCl (wMod cI cZ cQ b mday mdoo mdA mdB mfar mmar mtel mgai mfal mtop mstr mgho mfai mpto mwal mahd_u34 mahf mcho mbes mbyt mtxt mpos mtka mtok mdig mnum mfau mrdm mrea mlin mlne mthg mord mbor mbsm mans mand manr mali) H := by rw [emahd_u34]; exact hP
          have hD : va_D A (wMod cI cZ cQ b mday mdoo mdA mdB mfar mmar mtel mgai mfal mtop mstr mgho mfai mpto mwal mahd_u34 mahf mcho mbes mbyt mtxt mpos mtka mtok mdig mnum mfau mrdm mrea mlin mlne mthg mord mbor mbsm mans mand manr mali) := by rw [emahd_u34]; exact hD
          refine lv_iload_n hx hb dX10_goWalk_71 rfl (lv_at hl 4 rfl) ?_
          refine lv_iload hx hb dX10_goWalk_72 (lv_at hl 0 rfl) ?_
          refine lv_iadd hx hb dX10_goWalk_74 ?_
          have f35 : (y8_3 + 0).toInt = (y8_3.toInt) + (0) := addC rfl (show (0 : Int32).toInt = 0 from rfl) (by omega) (by omega)
          refine lv_topi (fun x36 ex36 => ?_)
          have ix36 : x36.toInt = (y8_3.toInt) + (0) := by rw [ex36]; exact f35
          refine lv_istore_n (lv' := [(3, .int x36), (5, .int 0), (0, .ref (b 39)), (1, .int ro), (2, .int at_), (4, .int y8_4)]) hx hb dX10_goWalk_75 rfl hl (by decide) rfl (fun ls hl => ?_)
          obtain ⟨z37, ez37⟩ : ∃ y : Int32, y = y8_4 + 1 := ⟨_, rfl⟩
          have iz37 : z37.toInt = y8_4.toInt + 1 := by rw [ez37]; exact addC rfl rfl (by omega) (by omega)
          refine lv_iinc (v := z37) (lv' := [(4, .int z37), (3, .int x36), (5, .int 0), (0, .ref (b 39)), (1, .int ro), (2, .int at_)]) hx hb dX10_goWalk_76 hl (k := 5) rfl (by rw [ez37]; rfl) (by decide) rfl (fun ls hl => ?_)
          refine lv_goto (tgt := 8) hx hb dX10_goWalk_79 (by decide) ?_
          exact ih8 x36 z37 mahd_u34 _ _ _ rmahd_u34 (by omega) (by omega) (by omega) (by omega) (by omega) (by omega) (by (first | exact gw_init (by omega) (by first | rfl | omega) | exact gw_step i8_6 (by omega) (by omega) (by omega) (by omega) (by omega) (by assumption) (by assumption) (by first | exact it_pos (by assumption) (by first | rfl | omega) | exact it_neg (by assumption) (by assumption)) (by omega) (by omega) (by omega))) (by omega) hP hD hS (lv_sub hl [3, 4, 5, 1, 0] rfl)
  have kc38 : (0 : Int32).toInt = 0 := rfl
  exact L8 _ 0 x2 mahd _ _ _ r_mahd (by omega) (by omega) (by omega) (by omega) (by omega) (by omega) (by (first | exact gw_init (by omega) (by first | rfl | omega) | exact gw_step i8_6 (by omega) (by omega) (by omega) (by omega) (by omega) (by assumption) (by assumption) (by first | exact it_pos (by assumption) (by first | rfl | omega) | exact it_neg (by assumption) (by assumption)) (by omega) (by omega) (by omega))) (Nat.lt_succ_self _) hP hD hS (lv_sub hl [2, 3, 4, 1, 0] rfl)
