set_option maxHeartbeats 4000000 in
set_option maxRecDepth 100000 in
theorem k_X10_beside2 (l : Launch) (dC : Nat → ClassId) (dI : Nat → Nat → Nat) (cI cZ cQ : ClassId) (b : Nat → Nat) (mday : Int32) (mdoo : Int32) (mdA : Nat → Int32) (mdB : Nat → Int32) (mfar : Nat → Int32) (mmar : Nat → Int32) (mtel : Int32) (mgai : Int32) (mfal : Nat → Int32) (mtop : Nat → Int32) (mstr : Nat → Int32) (mgho : Nat → Int32) (mfai : Nat → Int32) (mpto : Nat → Int32) (mwal : Nat → Int32) (mahd : Nat → Int32) (mahf : Nat → Int32) (mcho : Nat → Int32) (mbes : Nat → Int32) (mbyt : Int32) (mtxt : Nat → Int32) (mpos : Int32) (mtka : Int32) (mtok : Int64) (mdig : Int32) (mnum : Int32) (mfau : Int32) (mrdm : Int32) (mrea : Nat → Int32) (mlin : Int32) (mlne : Nat → Int32) (mthg : Nat → Int32) (mord : Nat → Int32) (mbor : Nat → Int32) (mbsm : Int32) (mans : Nat → Int32) (mand : Nat → Int32) (manr : Nat → Int32) (mali : Nat → Int32) (t : Int32) (si : Int32) (r_mday : 0 ≤ mday.toInt ∧ mday.toInt ≤ 400) (r_mdoo : 0 ≤ mdoo.toInt ∧ mdoo.toInt ≤ 14) (r_mdA : rg 14 (0) (7) mdA) (r_mdB : rg 14 (0) (7) mdB) (r_mmar : rg 24 (0) (255) mmar) (r_mgai : 0 ≤ mgai.toInt ∧ mgai.toInt ≤ 100) (r_mfal : rg 11 (0) (30) mfal) (r_mtop : rg 48 (-1) (23) mtop) (r_mstr : rg 48 (0) (100) mstr) (r_mgho : rg 48 (-1) (23) mgho) (r_mfai : rg 48 (0) (100) mfai) (r_mahd : rg 240 (0) (100) mahd) (r_mahf : rg 240 (0) (100) mahf) (r_mcho : rg 5 (-1) (9) mcho) (r_mbyt : 0 ≤ mbyt.toInt ∧ mbyt.toInt ≤ 160) (r_mpos : 0 ≤ mpos.toInt ∧ mpos.toInt ≤ 160) (r_mrdm : 0 ≤ mrdm.toInt ∧ mrdm.toInt ≤ 10) (r_mlin : 0 ≤ mlin.toInt ∧ mlin.toInt ≤ 10) (r_mthg : rg 8 (0) (31) mthg) (r_mord : rg 8 (-1) (8) mord) (r_mans : rg 4 (0) (12) mans) : KR l yX10_beside wsX10_beside { frames := 2, cells := 0, slots := 0, locals := 42 } (dC, dI) (TY cI cZ cQ) (wMod cI cZ cQ b mday mdoo mdA mdB mfar mmar mtel mgai mfal mtop mstr mgho mfai mpto mwal mahd mahf mcho mbes mbyt mtxt mpos mtka mtok mdig mnum mfau mrdm mrea mlin mlne mthg mord mbor mbsm mans mand manr mali) [.ref (b 39), .int t, .int si] (fun r : Int32 => (spBesideM mtop t si r)) := by
  refine Met.ofW (cc := cX10_beside) (maxL := 6) (ret := (some .int)) (by decide) rfl ?_
  intro p e s m args below meth c s₁ B hml hv
  obtain ⟨rfl, hP, hK, hN⟩ := hv
  have hx := B.exec
  have hb := B.bytes
  have hr := B.returns
  have hts := atoms_spec (ws := wsX10_beside) B.pre
  have hown : s.vm.findClass RX10 = some m.cls := findClass_of_methodNamed B.named
  have hlocks := B.notSynchronized
  have lf32 := hts (.fieldLink RX10 32 "PalaceOfRoomsModel" "top" "[I") (by decide +kernel)
  have inX10 : ∀ w ∈ wsX100, w ∈ wsX10_beside := by decide +kernel
  have hl := lv_entry ([.ref (b 39), .int t, .int si]) (n := 6) (Nat.le_of_ble_eq_true rfl)
  rw [lg_entry_eq]
  generalize (lg_sl ([.ref (b 39), .int t, .int si]) ++ List.replicate (6 - (lg_sl ([.ref (b 39), .int t, .int si])).length) Slot.unset).toArray = ls at hl ⊢
  have hl : lv_has ls 6 [(0, .ref (b 39)), (1, .int t), (2, .int si)] := hl
  refine lv_iload_n hx hb dX10_beside_0 rfl (lv_at hl 1 rfl) ?_
  refine rdS (As := [.int t]) (rest := []) ⟨hx, hb, hml, hown, hts⟩ (k_X10_isThing l dC dI cI cZ cQ t) (va_cwS 1 hts gX10_beside_X10_isThing rfl rfl rfl (by decide +kernel) ⟨Nat.le_of_ble_eq_true rfl, Nat.le_of_ble_eq_true rfl⟩) hP hK hN [] rfl rfl hl.1 rfl (Nat.le_of_ble_eq_true rfl) dX10_beside_1 ⟨Nat.le_of_ble_eq_true rfl, Nat.le_of_ble_eq_true rfl⟩ (fun r1 h2 => ?_)
  have h2 : ((((r1 = 1) ∧ (0 ≤ t.toInt) ∧ (t.toInt ≤ 23)) ∨ ((r1 = 0) ∧ (t.toInt < 0 ∨ 23 < t.toInt)))) := h2
  rcases h2 with (⟨rfl, h2_a0, h2_a1⟩ | ⟨rfl, h2_a0⟩)
  · refine lv_if_ne (tgt := 10) hx hb dX10_beside_4 (by decide) (fun _ => ?_) (fun c9 => absurd c9 (by decide))
    refine lv_iload_n hx hb dX10_beside_10 rfl (lv_at hl 2 rfl) ?_
    refine lv_iconst (v := 0) hx hb dX10_beside_11 (by decide) ?_
    refine lv_iconst (v := 1) hx hb dX10_beside_12 (by decide) ?_
    refine rdS (As := [.int si, .int 0, .int 1]) (rest := []) ⟨hx, hb, hml, hown, hts⟩ (k_X10_in l dC dI cI cZ cQ si (0 : Int32) (1 : Int32)) (va_cwS 3 hts gX10_beside_X10_in rfl rfl rfl (by decide +kernel) ⟨Nat.le_of_ble_eq_true rfl, Nat.le_of_ble_eq_true rfl⟩) hP hK hN [] rfl rfl hl.1 rfl (Nat.le_of_ble_eq_true rfl) dX10_beside_13 ⟨Nat.le_of_ble_eq_true rfl, Nat.le_of_ble_eq_true rfl⟩ (fun r3 h4 => ?_)
    have h4 : ((((r3 = 1) ∧ ((0) ≤ si.toInt) ∧ (si.toInt ≤ (1))) ∨ ((r3 = 0) ∧ (si.toInt < (0) ∨ (1) < si.toInt)))) := h4
    rcases h4 with (⟨rfl, h4_a0, h4_a1⟩ | ⟨rfl, h4_a0⟩)
    · refine lv_if_ne (tgt := 22) hx hb dX10_beside_16 (by decide) (fun _ => ?_) (fun c9 => absurd c9 (by decide))
      refine lv_aload_n hx hb dX10_beside_22 rfl (lv_at hl 0 rfl) ?_
      refine lv_iload_n hx hb dX10_beside_23 rfl (lv_at hl 1 rfl) ?_
      refine rdV (As := [.int t]) (rest := []) ⟨hx, hb, hml, hown, hts⟩ (k_X10_cornerOf2 l dC dI cI cZ cQ b mday mdoo mdA mdB mfar mmar mtel mgai mfal mtop mstr mgho mfai mpto mwal mahd mahf mcho mbes mbyt mtxt mpos mtka mtok mdig mnum mfau mrdm mrea mlin mlne mthg mord mbor mbsm mans mand manr mali t r_mday r_mdoo r_mdA r_mdB r_mmar r_mgai r_mfal r_mtop r_mstr r_mgho r_mfai r_mahd r_mahf r_mcho r_mbyt r_mpos r_mrdm r_mlin r_mthg r_mord r_mans) (cwV 1 hts gX10_beside_X10_cornerOf rfl rfl rfl (by decide +kernel) ⟨Nat.le_of_ble_eq_true rfl, Nat.le_of_ble_eq_true rfl⟩) hP hK hN [0, 1, 2, 3, 4, 5, 6, 7, 8, 9, 10, 11, 12, 13, 14, 15, 16, 17, 18, 19, 20, 21, 22, 23, 24, 25] rfl 0 10 rfl rfl rfl hl.1 rfl (Nat.le_of_ble_eq_true rfl) dX10_beside_24 ⟨Nat.le_of_ble_eq_true rfl, Nat.le_of_ble_eq_true rfl⟩ (fun r5 h6 => ?_)
      have h6 : (-1 ≤ r5.toInt) ∧ (r5.toInt ≤ 47) ∧ (whr mtop t r5) := h6
      obtain ⟨h6_0, h6_1, h6_2⟩ := h6
      refine lv_istore_n (lv' := [(3, .int r5), (0, .ref (b 39)), (1, .int t), (2, .int si)]) hx hb dX10_beside_27 rfl hl (by decide) rfl (fun ls hl => ?_)
      refine lv_iconst (v := (-1)) hx hb dX10_beside_28 (by decide) ?_
      refine lv_istore (lv' := [(4, .int (-1)), (3, .int r5), (0, .ref (b 39)), (1, .int t), (2, .int si)]) hx hb dX10_beside_29 hl (by decide) rfl (fun ls hl => ?_)
      refine lv_iload_n hx hb dX10_beside_31 rfl (lv_at hl 1 rfl) ?_
      refine lv_iconst (v := (-1)) hx hb dX10_beside_32 (by decide) ?_
      refine lv_icmp_eq (tgt := 108) hx hb dX10_beside_33 (by decide) (fun c7 => ?_) (fun c7 => ?_)
      · have dc7 : r5.toInt = (-1) := eqC rfl (show ((-1) : Int32).toInt = (-1) from rfl) c7
        refine lv_iload hx hb dX10_beside_108 (lv_at hl 0 rfl) ?_
        exact W.iret (v := (-1)) hx hb hr (fun tq ht hW => ⟨(-1), rfl, (show spBesideM mtop t si ((-1) : Int32) from by (try rw [show ((-1) : Int32).toInt = (-1) from (show ((-1) : Int32).toInt = (-1) from rfl)]); (first | exact Or.inl ⟨by omega, rfl⟩ | exact Or.inr (Or.inl ⟨by omega, by omega, rfl⟩) | exact Or.inr (Or.inr ⟨by omega, by omega, _, by assumption, Or.inl ⟨by assumption, rfl⟩⟩) | exact Or.inr (Or.inr ⟨by omega, by omega, _, by assumption, bes_0 (by assumption) (bsk_end i49_6 (by omega) (by first | exact Or.inl (by omega) | exact Or.inr (Or.inl (by omega)) | exact Or.inr (Or.inr (by assumption))))⟩) | exact Or.inr (Or.inr ⟨by omega, by omega, _, by assumption, bes_1 (by assumption) (bsk_end i49_6 (by omega) (by first | exact Or.inl (by omega) | exact Or.inr (Or.inl (by omega)) | exact Or.inr (Or.inr (by assumption))))⟩))), ht⟩) (fun q h => by cases h) dX10_beside_110
      · have dc7 : 0 ≤ r5.toInt := ka_lo (by omega) (neC rfl (show ((-1) : Int32).toInt = (-1) from rfl) c7)
        have hc8 : si = 0 ∨ si = 1 := by exact ci2 rfl (by omega)
        rcases hc8 with rfl | rfl
        · have kc9 : (0 : Int32).toInt = 0 := rfl
          refine lv_iload_n hx hb dX10_beside_36 rfl (lv_at hl 1 rfl) ?_
          refine lv_iload_n hx hb dX10_beside_37 rfl (lv_at hl 4 rfl) ?_
          refine lv_if_ne (tgt := 45) hx hb dX10_beside_38 (by decide) (fun c9 => absurd (by decide) c9) (fun _ => ?_)
          refine lv_iconst (v := (-1)) hx hb dX10_beside_41 (by decide) ?_
          refine lv_goto (tgt := 46) hx hb dX10_beside_42 (by decide) ?_
          refine lv_iadd hx hb dX10_beside_46 ?_
          refine lv_topi (fun x10 ex10 => ?_)
          have ix10 : x10.toInt = (r5.toInt) + ((-1)) := by rw [ex10]; exact addC rfl (show ((-1) : Int32).toInt = (-1) from rfl) (by omega) (by omega)
          refine lv_istore (lv' := [(5, .int x10), (4, .int (-1)), (3, .int r5), (0, .ref (b 39)), (1, .int t), (2, .int 0)]) hx hb dX10_beside_47 hl (by decide) rfl (fun ls hl => ?_)
          have L49 : ∀ (nn : Nat) (y49_4 : Int32) (y49_5 : Int32) (ls : Array Slot), (-1 ≤ (y49_5.toInt)) → ((y49_5.toInt) ≤ 48) → (-1 ≤ (y49_4.toInt)) → ((y49_4.toInt) ≤ 23) → ((r5.toInt) - (r5.toInt) % 6 - 1 ≤ (y49_5.toInt)) → ((y49_5.toInt) ≤ (r5.toInt) - 1) → (bsk mtop ((r5.toInt) - (r5.toInt) % 6) (-1) ((y49_5.toInt) - (r5.toInt) + 7).toNat (y49_5.toInt) y49_4 (scn mtop ((r5.toInt) - (r5.toInt) % 6) (-1) 6 ((r5.toInt) + (-1)))) → ((y49_5.toInt) + 1).toNat < nn → lv_has ls 6 [(0, .ref (b 39)), (2, .int 0), (3, .int r5), (4, .int y49_4), (5, .int y49_5)] → W p l e (headSpec wsX10_beside { frames := 2, cells := 0, slots := 0, locals := 42 }).room s m ([.ref (b 39), .int t, .int (0 : Int32)] : List Value).toArray below meth c s.heap [] 0 0 (MQ below (QR (fun r : Int32 => (spBesideM mtop t (0 : Int32) r))) ([.ref (b 39), .int t, .int (0 : Int32)] : List Value).toArray s 0 0 (fun _ => False)) (F0 m 49 ls []) := by
            intro nn
            induction nn with
            | zero =>
              intro y49_4 y49_5 ls i49_0 i49_1 i49_2 i49_3 i49_4 i49_5 i49_6 hm49
              exact absurd hm49 (Nat.not_lt_zero _)
            | succ nn ih49 =>
              intro y49_4 y49_5 ls i49_0 i49_1 i49_2 i49_3 i49_4 i49_5 i49_6 hm49 hl
              refine lv_iload hx hb dX10_beside_49 (lv_at hl 4 rfl) ?_
              refine lv_iload_n hx hb dX10_beside_51 rfl (lv_at hl 2 rfl) ?_
              refine lv_bipush (v := 6) hx hb dX10_beside_52 (by decide) ?_
              refine lv_idiv hx hb dX10_beside_54 (by decide) ?_
              refine lv_bipush (v := 6) hx hb dX10_beside_55 (by decide) ?_
              refine lv_imul hx hb dX10_beside_57 ?_
              refine lv_topi (fun x11 ex11 => ?_)
              have ix11 : 0 ≤ x11.toInt ∧ x11.toInt ≤ 42 := by rw [ex11]; exact d66 dc7 h6_1
              have jx11 : x11.toInt = (r5.toInt) - (r5.toInt) % 6 := by rw [ex11]; exact d66e dc7 h6_1
              refine lv_icmp_lt (tgt := 108) hx hb dX10_beside_58 (by decide) (fun c12 => ?_) (fun c12 => ?_)
              · have dc12 : y49_5.toInt < x11.toInt := ltC rfl rfl c12
                refine lv_iload hx hb dX10_beside_108 (lv_at hl 3 rfl) ?_
                exact W.iret (v := y49_4) hx hb hr (fun tq ht hW => ⟨y49_4, rfl, (show spBesideM mtop t (0 : Int32) y49_4 from by (first | exact Or.inl ⟨by omega, rfl⟩ | exact Or.inr (Or.inl ⟨by omega, by omega, rfl⟩) | exact Or.inr (Or.inr ⟨by omega, by omega, _, by assumption, Or.inl ⟨by assumption, rfl⟩⟩) | exact Or.inr (Or.inr ⟨by omega, by omega, _, by assumption, bes_0 (by assumption) (bsk_end i49_6 (by omega) (by first | exact Or.inl (by omega) | exact Or.inr (Or.inl (by omega)) | exact Or.inr (Or.inr (by assumption))))⟩) | exact Or.inr (Or.inr ⟨by omega, by omega, _, by assumption, bes_1 (by assumption) (bsk_end i49_6 (by omega) (by first | exact Or.inl (by omega) | exact Or.inr (Or.inl (by omega)) | exact Or.inr (Or.inr (by assumption))))⟩))), ht⟩) (fun q h => by cases h) dX10_beside_110
              · have dc12 : x11.toInt ≤ y49_5.toInt := nltC rfl rfl c12
                refine lv_iload hx hb dX10_beside_61 (lv_at hl 4 rfl) ?_
                refine lv_iload_n hx hb dX10_beside_63 rfl (lv_at hl 2 rfl) ?_
                refine lv_bipush (v := 6) hx hb dX10_beside_64 (by decide) ?_
                refine lv_idiv hx hb dX10_beside_66 (by decide) ?_
                refine lv_bipush (v := 6) hx hb dX10_beside_67 (by decide) ?_
                refine lv_imul hx hb dX10_beside_69 ?_
                refine lv_topi (fun x13 ex13 => ?_)
                have ix13 : 0 ≤ x13.toInt ∧ x13.toInt ≤ 42 := by rw [ex13]; exact d66 dc7 h6_1
                have jx13 : x13.toInt = (r5.toInt) - (r5.toInt) % 6 := by rw [ex13]; exact d66e dc7 h6_1
                refine lv_bipush (v := 6) hx hb dX10_beside_70 (by decide) ?_
                refine lv_iadd hx hb dX10_beside_72 ?_
                have f14 : (x13 + 6).toInt = (x13.toInt) + (6) := addC rfl (show (6 : Int32).toInt = 6 from rfl) (by omega) (by omega)
                refine lv_icmp_ge (tgt := 108) hx hb dX10_beside_73 (by decide) (fun c15 => ?_) (fun c15 => ?_)
                · have dc15 : (x13.toInt) + (6) ≤ y49_5.toInt := leC f14 rfl c15
                  refine lv_iload hx hb dX10_beside_108 (lv_at hl 3 rfl) ?_
                  exact W.iret (v := y49_4) hx hb hr (fun tq ht hW => ⟨y49_4, rfl, (show spBesideM mtop t (0 : Int32) y49_4 from by (first | exact Or.inl ⟨by omega, rfl⟩ | exact Or.inr (Or.inl ⟨by omega, by omega, rfl⟩) | exact Or.inr (Or.inr ⟨by omega, by omega, _, by assumption, Or.inl ⟨by assumption, rfl⟩⟩) | exact Or.inr (Or.inr ⟨by omega, by omega, _, by assumption, bes_0 (by assumption) (bsk_end i49_6 (by omega) (by first | exact Or.inl (by omega) | exact Or.inr (Or.inl (by omega)) | exact Or.inr (Or.inr (by assumption))))⟩) | exact Or.inr (Or.inr ⟨by omega, by omega, _, by assumption, bes_1 (by assumption) (bsk_end i49_6 (by omega) (by first | exact Or.inl (by omega) | exact Or.inr (Or.inl (by omega)) | exact Or.inr (Or.inr (by assumption))))⟩))), ht⟩) (fun q h => by cases h) dX10_beside_110
                · have dc15 : y49_5.toInt < (x13.toInt) + (6) := nleC f14 rfl c15
                  refine lv_iload hx hb dX10_beside_76 (lv_at hl 3 rfl) ?_
                  refine lv_iconst (v := (-1)) hx hb dX10_beside_78 (by decide) ?_
                  refine lv_icmp_ne (tgt := 108) hx hb dX10_beside_79 (by decide) (fun c16 => ?_) (fun c16 => ?_)
                  · have dc16 : 0 ≤ y49_4.toInt := ka_lo (by omega) (neC rfl (show ((-1) : Int32).toInt = (-1) from rfl) c16)
                    refine lv_iload hx hb dX10_beside_108 (lv_at hl 3 rfl) ?_
                    exact W.iret (v := y49_4) hx hb hr (fun tq ht hW => ⟨y49_4, rfl, (show spBesideM mtop t (0 : Int32) y49_4 from by (first | exact Or.inl ⟨by omega, rfl⟩ | exact Or.inr (Or.inl ⟨by omega, by omega, rfl⟩) | exact Or.inr (Or.inr ⟨by omega, by omega, _, by assumption, Or.inl ⟨by assumption, rfl⟩⟩) | exact Or.inr (Or.inr ⟨by omega, by omega, _, by assumption, bes_0 (by assumption) (bsk_end i49_6 (by omega) (by first | exact Or.inl (by omega) | exact Or.inr (Or.inl (by omega)) | exact Or.inr (Or.inr (by assumption))))⟩) | exact Or.inr (Or.inr ⟨by omega, by omega, _, by assumption, bes_1 (by assumption) (bsk_end i49_6 (by omega) (by first | exact Or.inl (by omega) | exact Or.inr (Or.inl (by omega)) | exact Or.inr (Or.inr (by assumption))))⟩))), ht⟩) (fun q h => by cases h) dX10_beside_110
                  · have dc16 : y49_4.toInt = (-1) := eqC rfl (show ((-1) : Int32).toInt = (-1) from rfl) c16
                    refine lv_aload_n hx hb dX10_beside_82 rfl (lv_at hl 0 rfl) ?_
                    refine va_get (D := (dC, dI)) (ci := 10) (v := .ref (b 9)) (C := RX10) (T := TX10) (N := 39) hx hb hts inX10 hown hK hP 0 rfl rfl 9 (by decide) lf32 (fun _ h9 => h9) rfl dX10_beside_83 ?_
                    refine lv_iload hx hb dX10_beside_86 (lv_at hl 4 rfl) ?_
                    have b17 : vp_in y49_5 48 := inC rfl (by omega) (by omega)
                    refine va_iald hx hb hK hP 6 0 rfl rfl b17 dX10_beside_88 ?_
                    have g18 : -1 ≤ (mtop y49_5.toNatClampNeg).toInt ∧ (mtop y49_5.toNatClampNeg).toInt ≤ 23 := rg_at r_mtop b17
                    refine lv_topi (fun x19 ex19 => ?_)
                    have ix19 : x19.toInt = (mtop y49_5.toNatClampNeg).toInt := by rw [ex19]
                    refine lv_istore (lv' := [(4, .int x19), (0, .ref (b 39)), (2, .int 0), (3, .int r5), (5, .int y49_5)]) hx hb dX10_beside_89 hl (by decide) rfl (fun ls hl => ?_)
                    refine lv_iload hx hb dX10_beside_91 (lv_at hl 4 rfl) ?_
                    refine lv_iload_n hx hb dX10_beside_93 rfl (lv_at hl 2 rfl) ?_
                    refine lv_if_ne (tgt := 101) hx hb dX10_beside_94 (by decide) (fun c9 => absurd (by decide) c9) (fun _ => ?_)
                    refine lv_iconst (v := (-1)) hx hb dX10_beside_97 (by decide) ?_
                    refine lv_goto (tgt := 102) hx hb dX10_beside_98 (by decide) ?_
                    refine lv_iadd hx hb dX10_beside_102 ?_
                    refine lv_topi (fun x20 ex20 => ?_)
                    have ix20 : x20.toInt = (y49_5.toInt) + ((-1)) := by rw [ex20]; exact addC rfl (show ((-1) : Int32).toInt = (-1) from rfl) (by omega) (by omega)
                    refine lv_istore (lv' := [(5, .int x20), (4, .int x19), (0, .ref (b 39)), (2, .int 0), (3, .int r5)]) hx hb dX10_beside_103 hl (by decide) rfl (fun ls hl => ?_)
                    refine lv_goto (tgt := 49) hx hb dX10_beside_105 (by decide) ?_
                    exact ih49 x19 x20 _ (by omega) (by omega) (by omega) (by omega) (by omega) (by omega) (by (first | exact bsk_step i49_6 (by assumption) (by omega) (by omega) (by omega) (by assumption) (by omega) | exact bsk_0 (by omega) (by omega))) (by omega) (lv_sub hl [2, 3, 4, 1, 0] rfl)
          have kc21 : ((-1) : Int32).toInt = -1 := rfl
          exact L49 _ (-1) x10 _ (by omega) (by omega) (by omega) (by omega) (by omega) (by omega) (by (first | exact bsk_step i49_6 (by assumption) (by omega) (by omega) (by omega) (by assumption) (by omega) | exact bsk_0 (by omega) (by omega))) (Nat.lt_succ_self _) (lv_sub hl [3, 5, 2, 1, 0] rfl)
        · have kc22 : (1 : Int32).toInt = 1 := rfl
          refine lv_iload_n hx hb dX10_beside_36 rfl (lv_at hl 1 rfl) ?_
          refine lv_iload_n hx hb dX10_beside_37 rfl (lv_at hl 4 rfl) ?_
          refine lv_if_ne (tgt := 45) hx hb dX10_beside_38 (by decide) (fun _ => ?_) (fun c9 => absurd c9 (by decide))
          refine lv_iconst (v := 1) hx hb dX10_beside_45 (by decide) ?_
          refine lv_iadd hx hb dX10_beside_46 ?_
          have f23 : (r5 + 1).toInt = (r5.toInt) + (1) := addC rfl (show (1 : Int32).toInt = 1 from rfl) (by omega) (by omega)
          refine lv_topi (fun x24 ex24 => ?_)
          have ix24 : x24.toInt = (r5.toInt) + (1) := by rw [ex24]; exact f23
          refine lv_istore (lv' := [(5, .int x24), (4, .int (-1)), (3, .int r5), (0, .ref (b 39)), (1, .int t), (2, .int 1)]) hx hb dX10_beside_47 hl (by decide) rfl (fun ls hl => ?_)
          have L49 : ∀ (nn : Nat) (y49_4 : Int32) (y49_5 : Int32) (ls : Array Slot), (-1 ≤ (y49_5.toInt)) → ((y49_5.toInt) ≤ 48) → (-1 ≤ (y49_4.toInt)) → ((y49_4.toInt) ≤ 23) → ((r5.toInt) + 1 ≤ (y49_5.toInt)) → ((y49_5.toInt) ≤ (r5.toInt) - (r5.toInt) % 6 + 6) → (bsk mtop ((r5.toInt) - (r5.toInt) % 6) 1 (7 + (r5.toInt) - (y49_5.toInt)).toNat (y49_5.toInt) y49_4 (scn mtop ((r5.toInt) - (r5.toInt) % 6) 1 6 ((r5.toInt) + 1))) → (48 - (y49_5.toInt)).toNat < nn → lv_has ls 6 [(0, .ref (b 39)), (2, .int 1), (3, .int r5), (4, .int y49_4), (5, .int y49_5)] → W p l e (headSpec wsX10_beside { frames := 2, cells := 0, slots := 0, locals := 42 }).room s m ([.ref (b 39), .int t, .int (1 : Int32)] : List Value).toArray below meth c s.heap [] 0 0 (MQ below (QR (fun r : Int32 => (spBesideM mtop t (1 : Int32) r))) ([.ref (b 39), .int t, .int (1 : Int32)] : List Value).toArray s 0 0 (fun _ => False)) (F0 m 49 ls []) := by
            intro nn
            induction nn with
            | zero =>
              intro y49_4 y49_5 ls i49_0 i49_1 i49_2 i49_3 i49_4 i49_5 i49_6 hm49
              exact absurd hm49 (Nat.not_lt_zero _)
            | succ nn ih49 =>
              intro y49_4 y49_5 ls i49_0 i49_1 i49_2 i49_3 i49_4 i49_5 i49_6 hm49 hl
              refine lv_iload hx hb dX10_beside_49 (lv_at hl 4 rfl) ?_
              refine lv_iload_n hx hb dX10_beside_51 rfl (lv_at hl 2 rfl) ?_
              refine lv_bipush (v := 6) hx hb dX10_beside_52 (by decide) ?_
              refine lv_idiv hx hb dX10_beside_54 (by decide) ?_
              refine lv_bipush (v := 6) hx hb dX10_beside_55 (by decide) ?_
              refine lv_imul hx hb dX10_beside_57 ?_
              refine lv_topi (fun x25 ex25 => ?_)
              have ix25 : 0 ≤ x25.toInt ∧ x25.toInt ≤ 42 := by rw [ex25]; exact d66 dc7 h6_1
              have jx25 : x25.toInt = (r5.toInt) - (r5.toInt) % 6 := by rw [ex25]; exact d66e dc7 h6_1
              refine lv_icmp_lt (tgt := 108) hx hb dX10_beside_58 (by decide) (fun c26 => ?_) (fun c26 => ?_)
              · have dc26 : y49_5.toInt < x25.toInt := ltC rfl rfl c26
                refine lv_iload hx hb dX10_beside_108 (lv_at hl 3 rfl) ?_
                exact W.iret (v := y49_4) hx hb hr (fun tq ht hW => ⟨y49_4, rfl, (show spBesideM mtop t (1 : Int32) y49_4 from by (first | exact Or.inl ⟨by omega, rfl⟩ | exact Or.inr (Or.inl ⟨by omega, by omega, rfl⟩) | exact Or.inr (Or.inr ⟨by omega, by omega, _, by assumption, Or.inl ⟨by assumption, rfl⟩⟩) | exact Or.inr (Or.inr ⟨by omega, by omega, _, by assumption, bes_0 (by assumption) (bsk_end i49_6 (by omega) (by first | exact Or.inl (by omega) | exact Or.inr (Or.inl (by omega)) | exact Or.inr (Or.inr (by assumption))))⟩) | exact Or.inr (Or.inr ⟨by omega, by omega, _, by assumption, bes_1 (by assumption) (bsk_end i49_6 (by omega) (by first | exact Or.inl (by omega) | exact Or.inr (Or.inl (by omega)) | exact Or.inr (Or.inr (by assumption))))⟩))), ht⟩) (fun q h => by cases h) dX10_beside_110
              · have dc26 : x25.toInt ≤ y49_5.toInt := nltC rfl rfl c26
                refine lv_iload hx hb dX10_beside_61 (lv_at hl 4 rfl) ?_
                refine lv_iload_n hx hb dX10_beside_63 rfl (lv_at hl 2 rfl) ?_
                refine lv_bipush (v := 6) hx hb dX10_beside_64 (by decide) ?_
                refine lv_idiv hx hb dX10_beside_66 (by decide) ?_
                refine lv_bipush (v := 6) hx hb dX10_beside_67 (by decide) ?_
                refine lv_imul hx hb dX10_beside_69 ?_
                refine lv_topi (fun x27 ex27 => ?_)
                have ix27 : 0 ≤ x27.toInt ∧ x27.toInt ≤ 42 := by rw [ex27]; exact d66 dc7 h6_1
                have jx27 : x27.toInt = (r5.toInt) - (r5.toInt) % 6 := by rw [ex27]; exact d66e dc7 h6_1
                refine lv_bipush (v := 6) hx hb dX10_beside_70 (by decide) ?_
                refine lv_iadd hx hb dX10_beside_72 ?_
                have f28 : (x27 + 6).toInt = (x27.toInt) + (6) := addC rfl (show (6 : Int32).toInt = 6 from rfl) (by omega) (by omega)
                refine lv_icmp_ge (tgt := 108) hx hb dX10_beside_73 (by decide) (fun c29 => ?_) (fun c29 => ?_)
                · have dc29 : (x27.toInt) + (6) ≤ y49_5.toInt := leC f28 rfl c29
                  refine lv_iload hx hb dX10_beside_108 (lv_at hl 3 rfl) ?_
                  exact W.iret (v := y49_4) hx hb hr (fun tq ht hW => ⟨y49_4, rfl, (show spBesideM mtop t (1 : Int32) y49_4 from by (first | exact Or.inl ⟨by omega, rfl⟩ | exact Or.inr (Or.inl ⟨by omega, by omega, rfl⟩) | exact Or.inr (Or.inr ⟨by omega, by omega, _, by assumption, Or.inl ⟨by assumption, rfl⟩⟩) | exact Or.inr (Or.inr ⟨by omega, by omega, _, by assumption, bes_0 (by assumption) (bsk_end i49_6 (by omega) (by first | exact Or.inl (by omega) | exact Or.inr (Or.inl (by omega)) | exact Or.inr (Or.inr (by assumption))))⟩) | exact Or.inr (Or.inr ⟨by omega, by omega, _, by assumption, bes_1 (by assumption) (bsk_end i49_6 (by omega) (by first | exact Or.inl (by omega) | exact Or.inr (Or.inl (by omega)) | exact Or.inr (Or.inr (by assumption))))⟩))), ht⟩) (fun q h => by cases h) dX10_beside_110
                · have dc29 : y49_5.toInt < (x27.toInt) + (6) := nleC f28 rfl c29
                  refine lv_iload hx hb dX10_beside_76 (lv_at hl 3 rfl) ?_
                  refine lv_iconst (v := (-1)) hx hb dX10_beside_78 (by decide) ?_
                  refine lv_icmp_ne (tgt := 108) hx hb dX10_beside_79 (by decide) (fun c30 => ?_) (fun c30 => ?_)
                  · have dc30 : 0 ≤ y49_4.toInt := ka_lo (by omega) (neC rfl (show ((-1) : Int32).toInt = (-1) from rfl) c30)
                    refine lv_iload hx hb dX10_beside_108 (lv_at hl 3 rfl) ?_
                    exact W.iret (v := y49_4) hx hb hr (fun tq ht hW => ⟨y49_4, rfl, (show spBesideM mtop t (1 : Int32) y49_4 from by (first | exact Or.inl ⟨by omega, rfl⟩ | exact Or.inr (Or.inl ⟨by omega, by omega, rfl⟩) | exact Or.inr (Or.inr ⟨by omega, by omega, _, by assumption, Or.inl ⟨by assumption, rfl⟩⟩) | exact Or.inr (Or.inr ⟨by omega, by omega, _, by assumption, bes_0 (by assumption) (bsk_end i49_6 (by omega) (by first | exact Or.inl (by omega) | exact Or.inr (Or.inl (by omega)) | exact Or.inr (Or.inr (by assumption))))⟩) | exact Or.inr (Or.inr ⟨by omega, by omega, _, by assumption, bes_1 (by assumption) (bsk_end i49_6 (by omega) (by first | exact Or.inl (by omega) | exact Or.inr (Or.inl (by omega)) | exact Or.inr (Or.inr (by assumption))))⟩))), ht⟩) (fun q h => by cases h) dX10_beside_110
                  · have dc30 : y49_4.toInt = (-1) := eqC rfl (show ((-1) : Int32).toInt = (-1) from rfl) c30
                    refine lv_aload_n hx hb dX10_beside_82 rfl (lv_at hl 0 rfl) ?_
                    refine va_get (D := (dC, dI)) (ci := 10) (v := .ref (b 9)) (C := RX10) (T := TX10) (N := 39) hx hb hts inX10 hown hK hP 0 rfl rfl 9 (by decide) lf32 (fun _ h9 => h9) rfl dX10_beside_83 ?_
                    refine lv_iload hx hb dX10_beside_86 (lv_at hl 4 rfl) ?_
                    have b31 : vp_in y49_5 48 := inC rfl (by omega) (by omega)
                    refine va_iald hx hb hK hP 6 0 rfl rfl b31 dX10_beside_88 ?_
                    have g32 : -1 ≤ (mtop y49_5.toNatClampNeg).toInt ∧ (mtop y49_5.toNatClampNeg).toInt ≤ 23 := rg_at r_mtop b31
                    refine lv_topi (fun x33 ex33 => ?_)
                    have ix33 : x33.toInt = (mtop y49_5.toNatClampNeg).toInt := by rw [ex33]
                    refine lv_istore (lv' := [(4, .int x33), (0, .ref (b 39)), (2, .int 1), (3, .int r5), (5, .int y49_5)]) hx hb dX10_beside_89 hl (by decide) rfl (fun ls hl => ?_)
                    refine lv_iload hx hb dX10_beside_91 (lv_at hl 4 rfl) ?_
                    refine lv_iload_n hx hb dX10_beside_93 rfl (lv_at hl 2 rfl) ?_
                    refine lv_if_ne (tgt := 101) hx hb dX10_beside_94 (by decide) (fun _ => ?_) (fun c9 => absurd c9 (by decide))
                    refine lv_iconst (v := 1) hx hb dX10_beside_101 (by decide) ?_
                    refine lv_iadd hx hb dX10_beside_102 ?_
                    have f34 : (y49_5 + 1).toInt = (y49_5.toInt) + (1) := addC rfl (show (1 : Int32).toInt = 1 from rfl) (by omega) (by omega)
                    refine lv_topi (fun x35 ex35 => ?_)
                    have ix35 : x35.toInt = (y49_5.toInt) + (1) := by rw [ex35]; exact f34
                    refine lv_istore (lv' := [(5, .int x35), (4, .int x33), (0, .ref (b 39)), (2, .int 1), (3, .int r5)]) hx hb dX10_beside_103 hl (by decide) rfl (fun ls hl => ?_)
                    refine lv_goto (tgt := 49) hx hb dX10_beside_105 (by decide) ?_
                    exact ih49 x33 x35 _ (by omega) (by omega) (by omega) (by omega) (by omega) (by omega) (by (first | exact bsk_step i49_6 (by assumption) (by omega) (by omega) (by omega) (by assumption) (by omega) | exact bsk_0 (by omega) (by omega))) (by omega) (lv_sub hl [2, 3, 4, 1, 0] rfl)
          have kc36 : ((-1) : Int32).toInt = -1 := rfl
          exact L49 _ (-1) x24 _ (by omega) (by omega) (by omega) (by omega) (by omega) (by omega) (by (first | exact bsk_step i49_6 (by assumption) (by omega) (by omega) (by omega) (by assumption) (by omega) | exact bsk_0 (by omega) (by omega))) (Nat.lt_succ_self _) (lv_sub hl [3, 5, 2, 1, 0] rfl)
    · refine lv_if_ne (tgt := 22) hx hb dX10_beside_16 (by decide) (fun c9 => absurd (by decide) c9) (fun _ => ?_)
      refine lv_bipush (v := (-3)) hx hb dX10_beside_19 (by decide) ?_
      exact W.iret (v := (-3)) hx hb hr (fun tq ht hW => ⟨(-3), rfl, (show spBesideM mtop t si ((-3) : Int32) from by (try rw [show ((-3) : Int32).toInt = (-3) from (show ((-3) : Int32).toInt = (-3) from rfl)]); (first | exact Or.inl ⟨by omega, rfl⟩ | exact Or.inr (Or.inl ⟨by omega, by omega, rfl⟩) | exact Or.inr (Or.inr ⟨by omega, by omega, _, by assumption, Or.inl ⟨by assumption, rfl⟩⟩) | exact Or.inr (Or.inr ⟨by omega, by omega, _, by assumption, bes_0 (by assumption) (bsk_end i49_6 (by omega) (by first | exact Or.inl (by omega) | exact Or.inr (Or.inl (by omega)) | exact Or.inr (Or.inr (by assumption))))⟩) | exact Or.inr (Or.inr ⟨by omega, by omega, _, by assumption, bes_1 (by assumption) (bsk_end i49_6 (by omega) (by first | exact Or.inl (by omega) | exact Or.inr (Or.inl (by omega)) | exact Or.inr (Or.inr (by assumption))))⟩))), ht⟩) (fun q h => by cases h) dX10_beside_21
  · refine lv_if_ne (tgt := 10) hx hb dX10_beside_4 (by decide) (fun c9 => absurd (by decide) c9) (fun _ => ?_)
    refine lv_bipush (v := (-2)) hx hb dX10_beside_7 (by decide) ?_
    exact W.iret (v := (-2)) hx hb hr (fun tq ht hW => ⟨(-2), rfl, (show spBesideM mtop t si ((-2) : Int32) from by (try rw [show ((-2) : Int32).toInt = (-2) from (show ((-2) : Int32).toInt = (-2) from rfl)]); (first | exact Or.inl ⟨by omega, rfl⟩ | exact Or.inr (Or.inl ⟨by omega, by omega, rfl⟩) | exact Or.inr (Or.inr ⟨by omega, by omega, _, by assumption, Or.inl ⟨by assumption, rfl⟩⟩) | exact Or.inr (Or.inr ⟨by omega, by omega, _, by assumption, bes_0 (by assumption) (bsk_end i49_6 (by omega) (by first | exact Or.inl (by omega) | exact Or.inr (Or.inl (by omega)) | exact Or.inr (Or.inr (by assumption))))⟩) | exact Or.inr (Or.inr ⟨by omega, by omega, _, by assumption, bes_1 (by assumption) (bsk_end i49_6 (by omega) (by first | exact Or.inl (by omega) | exact Or.inr (Or.inl (by omega)) | exact Or.inr (Or.inr (by assumption))))⟩))), ht⟩) (fun q h => by cases h) dX10_beside_9

