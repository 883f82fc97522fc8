set_option maxHeartbeats 4000000 in
set_option maxRecDepth 100000 in
theorem k_X10_bars2 (l : Launch) (dC : Nat → ClassId) (dI : Nat → Nat → Nat) (cI cZ cQ : ClassId) (b : Nat → Nat) (mday : Int32) (mdoo : Int32) (mdA : Nat → Int32) (mdB : Nat → Int32) (mfar : Nat → Int32) (mmar : Nat → Int32) (mtel : Int32) (mgai : Int32) (mfal : Nat → Int32) (mtop : Nat → Int32) (mstr : Nat → Int32) (mgho : Nat → Int32) (mfai : Nat → Int32) (mpto : Nat → Int32) (mwal : Nat → Int32) (mahd : Nat → Int32) (mahf : Nat → Int32) (mcho : Nat → Int32) (mbes : Nat → Int32) (mbyt : Int32) (mtxt : Nat → Int32) (mpos : Int32) (mtka : Int32) (mtok : Int64) (mdig : Int32) (mnum : Int32) (mfau : Int32) (mrdm : Int32) (mrea : Nat → Int32) (mlin : Int32) (mlne : Nat → Int32) (mthg : Nat → Int32) (mord : Nat → Int32) (mbor : Nat → Int32) (mbsm : Int32) (mans : Nat → Int32) (mand : Nat → Int32) (manr : Nat → Int32) (mali : Nat → Int32) (t : Int32) (co : Int32) (r_mday : 0 ≤ mday.toInt ∧ mday.toInt ≤ 400) (r_mdoo : 0 ≤ mdoo.toInt ∧ mdoo.toInt ≤ 14) (r_mdA : rg 14 (0) (7) mdA) (r_mdB : rg 14 (0) (7) mdB) (r_mmar : rg 24 (0) (255) mmar) (r_mgai : 0 ≤ mgai.toInt ∧ mgai.toInt ≤ 100) (r_mfal : rg 11 (0) (30) mfal) (r_mtop : rg 48 (-1) (23) mtop) (r_mstr : rg 48 (0) (100) mstr) (r_mgho : rg 48 (-1) (23) mgho) (r_mfai : rg 48 (0) (100) mfai) (r_mahd : rg 240 (0) (100) mahd) (r_mahf : rg 240 (0) (100) mahf) (r_mcho : rg 5 (-1) (9) mcho) (r_mbyt : 0 ≤ mbyt.toInt ∧ mbyt.toInt ≤ 160) (r_mpos : 0 ≤ mpos.toInt ∧ mpos.toInt ≤ 160) (r_mrdm : 0 ≤ mrdm.toInt ∧ mrdm.toInt ≤ 10) (r_mlin : 0 ≤ mlin.toInt ∧ mlin.toInt ≤ 10) (r_mthg : rg 8 (0) (31) mthg) (r_mord : rg 8 (-1) (8) mord) (r_mans : rg 4 (0) (12) mans) : KR l yX10_bars wsX10_bars { frames := 2, cells := 0, slots := 0, locals := 48 } (dC, dI) (TY cI cZ cQ) (wMod cI cZ cQ b mday mdoo mdA mdB mfar mmar mtel mgai mfal mtop mstr mgho mfai mpto mwal mahd mahf mcho mbes mbyt mtxt mpos mtka mtok mdig mnum mfau mrdm mrea mlin mlne mthg mord mbor mbsm mans mand manr mali) [.ref (b 39), .int t, .int co] (fun r : Int32 => (spBar (mbR mlne mtop mlin co) (mbA mlne mpto mlin mday co) (mbP mmar mtop (laF mlne 2 0 100 mlin.toInt.toNat) t co) t co r)) := by
  refine Met.ofW (cc := cX10_bars) (maxL := 6) (ret := (some .int)) (by decide) rfl ?_
  intro p e s m args below meth c s₁ B hml hv
  obtain ⟨rfl, hP, hK, hN⟩ := hv
  have hx := B.exec
  have hb := B.bytes
  have hr := B.returns
  have hts := atoms_spec (ws := wsX10_bars) B.pre
  have hown : s.vm.findClass RX10 = some m.cls := findClass_of_methodNamed B.named
  have hlocks := B.notSynchronized
  have lf44 := hts (.fieldLink RX10 44 "PalaceOfRoomsModel" "putOn" "[I") (by decide +kernel)
  have inX10 : ∀ w ∈ wsX100, w ∈ wsX10_bars := fun w h => List.mem_cons_of_mem _ (List.mem_append_right _ h)
  have lf125 := hts (.fieldLink RX10 125 "PalaceOfRoomsModel" "day" "I") (by decide +kernel)
  have hl := lv_entry ([.ref (b 39), .int t, .int co]) (n := 6) (Nat.le_of_ble_eq_true rfl)
  rw [lg_entry_eq]
  generalize (lg_sl ([.ref (b 39), .int t, .int co]) ++ List.replicate (6 - (lg_sl ([.ref (b 39), .int t, .int co])).length) Slot.unset).toArray = ls at hl ⊢
  have hl : lv_has ls 6 [(0, .ref (b 39)), (1, .int t), (2, .int co)] := hl
  refine lv_iload_n hx hb dX10_bars_0 rfl (lv_at hl 1 rfl) ?_
  refine rdS (As := [.int t]) (rest := []) ⟨hx, hb, hml, hown, hts⟩ (k_X10_isThing l dC dI cI cZ cQ t) (va_cwS 1 hts gX10_bars_X10_isThing rfl rfl rfl (by decide +kernel) ⟨Nat.le_of_ble_eq_true rfl, Nat.le_of_ble_eq_true rfl⟩) hP hK hN [] rfl rfl hl.1 rfl (Nat.le_of_ble_eq_true rfl) dX10_bars_1 ⟨Nat.le_of_ble_eq_true rfl, Nat.le_of_ble_eq_true rfl⟩ (fun r1 h2 => ?_)
  have h2 : ((((r1 = 1) ∧ (0 ≤ t.toInt) ∧ (t.toInt ≤ 23)) ∨ ((r1 = 0) ∧ (t.toInt < 0 ∨ 23 < t.toInt)))) := h2
  rcases h2 with (⟨rfl, h2_a0, h2_a1⟩ | ⟨rfl, h2_a0⟩)
  · refine lv_if_eq (tgt := 14) hx hb dX10_bars_4 (by decide) (fun c9 => absurd c9 (by decide)) (fun _ => ?_)
    refine lv_iload_n hx hb dX10_bars_7 rfl (lv_at hl 2 rfl) ?_
    refine rdS (As := [.int co]) (rest := []) ⟨hx, hb, hml, hown, hts⟩ (k_X10_isCorner l dC dI cI cZ cQ co) (va_cwS 1 hts gX10_bars_X10_isCorner rfl rfl rfl (by decide +kernel) ⟨Nat.le_of_ble_eq_true rfl, Nat.le_of_ble_eq_true rfl⟩) hP hK hN [] rfl rfl hl.1 rfl (Nat.le_of_ble_eq_true rfl) dX10_bars_8 ⟨Nat.le_of_ble_eq_true rfl, Nat.le_of_ble_eq_true rfl⟩ (fun r3 h4 => ?_)
    have h4 : ((((r3 = 1) ∧ (0 ≤ co.toInt) ∧ (co.toInt ≤ 47)) ∨ ((r3 = 0) ∧ (co.toInt < 0 ∨ 47 < co.toInt)))) := h4
    rcases h4 with (⟨rfl, h4_a0, h4_a1⟩ | ⟨rfl, h4_a0⟩)
    · refine lv_if_ne (tgt := 17) hx hb dX10_bars_11 (by decide) (fun _ => ?_) (fun c9 => absurd c9 (by decide))
      have L45 : ∀ (y45_3 : Int32) (ls : Array Slot), (0 ≤ (y45_3.toInt)) → ((y45_3.toInt) ≤ 1) → (wgt (mbR mlne mtop mlin co) 1 (y45_3.toInt)) → lv_has ls 6 [(0, .ref (b 39)), (1, .int t), (2, .int co), (3, .int y45_3)] → W p l e (headSpec wsX10_bars { frames := 2, cells := 0, slots := 0, locals := 48 }).room s m ([.ref (b 39), .int t, .int co] : List Value).toArray below meth c s.heap [] 0 0 (MQ below (QR (fun r : Int32 => (spBar (mbR mlne mtop mlin co) (mbA mlne mpto mlin mday co) (mbP mmar mtop (laF mlne 2 0 100 mlin.toInt.toNat) t co) t co r))) ([.ref (b 39), .int t, .int co] : List Value).toArray s 0 0 (fun _ => False)) (F0 m 45 ls []) := by
        intro y45_3 ls i45_0 i45_1 i45_2 hl
        have L94 : ∀ (y94_3 : Int32) (y94_4 : Int32) (ls : Array Slot), (0 ≤ (y94_3.toInt)) → ((y94_3.toInt) ≤ 3) → (∃ a b : Int, wgt (mbR mlne mtop mlin co) 1 a ∧ wgt (mbA mlne mpto mlin mday co) 2 b ∧ (y94_3.toInt) = a + b) → (y94_4 = laF mlne 2 0 100 mlin.toInt.toNat) → lv_has ls 6 [(0, .ref (b 39)), (1, .int t), (2, .int co), (3, .int y94_3), (4, .int y94_4)] → W p l e (headSpec wsX10_bars { frames := 2, cells := 0, slots := 0, locals := 48 }).room s m ([.ref (b 39), .int t, .int co] : List Value).toArray below meth c s.heap [] 0 0 (MQ below (QR (fun r : Int32 => (spBar (mbR mlne mtop mlin co) (mbA mlne mpto mlin mday co) (mbP mmar mtop (laF mlne 2 0 100 mlin.toInt.toNat) t co) t co r))) ([.ref (b 39), .int t, .int co] : List Value).toArray s 0 0 (fun _ => False)) (F0 m 94 ls []) := by
          intro y94_3 y94_4 ls i94_0 i94_1 i94_2 i94_3 hl
          have L142 : ∀ (y142_5 : Int32) (ls : Array Slot), (mbQ mmar mtop y94_4 t co y142_5) → lv_has ls 6 [(3, .int y94_3), (5, .int y142_5)] → W p l e (headSpec wsX10_bars { frames := 2, cells := 0, slots := 0, locals := 48 }).room s m ([.ref (b 39), .int t, .int co] : List Value).toArray below meth c s.heap [] 0 0 (MQ below (QR (fun r : Int32 => (spBar (mbR mlne mtop mlin co) (mbA mlne mpto mlin mday co) (mbP mmar mtop (laF mlne 2 0 100 mlin.toInt.toNat) t co) t co r))) ([.ref (b 39), .int t, .int co] : List Value).toArray s 0 0 (fun _ => False)) (F0 m 142 ls []) := by
            intro y142_5 ls i142_0 hl
            refine lv_iload_n hx hb dX10_bars_142 rfl (lv_at hl 0 rfl) ?_
            refine lv_iload hx hb dX10_bars_143 (lv_at hl 1 rfl) ?_
            refine lv_if_eq (tgt := 152) hx hb dX10_bars_145 (by decide) (fun c5 => ?_) (fun c5 => ?_)
            · have dc5 : y142_5.toInt = 0 := eqC rfl (show (0 : Int32).toInt = 0 from rfl) c5
              refine lv_iconst (v := 0) hx hb dX10_bars_152 (by decide) ?_
              refine lv_iadd hx hb dX10_bars_153 ?_
              have f6 : (y94_3 + 0).toInt = (y94_3.toInt) + (0) := addC rfl (show (0 : Int32).toInt = 0 from rfl) (by omega) (by omega)
              exact W.iret (v := y94_3 + 0) hx hb hr (fun tq ht hW => ⟨y94_3 + 0, rfl, (show spBar (mbR mlne mtop mlin co) (mbA mlne mpto mlin mday co) (mbP mmar mtop (laF mlne 2 0 100 mlin.toInt.toNat) t co) t co (y94_3 + 0) from by (try rw [show (y94_3 + 0).toInt = (y94_3.toInt) + (0) from f6]); (first | exact Or.inl ⟨by omega, rfl⟩ | exact Or.inr ⟨by omega, br3 i94_2 ((mq_w i142_0 i94_3).1 (by assumption)) (by omega)⟩ | exact Or.inr ⟨by omega, br3 i94_2 ((mq_w i142_0 i94_3).2 (by assumption)) (by omega)⟩)), ht⟩) (fun q h => by cases h) dX10_bars_154
            · have dc5 : y142_5.toInt ≠ 0 := neC rfl (show (0 : Int32).toInt = 0 from rfl) c5
              refine lv_iconst (v := 4) hx hb dX10_bars_148 (by decide) ?_
              refine lv_goto (tgt := 153) hx hb dX10_bars_149 (by decide) ?_
              refine lv_iadd hx hb dX10_bars_153 ?_
              have f7 : (y94_3 + 4).toInt = (y94_3.toInt) + (4) := addC rfl (show (4 : Int32).toInt = 4 from rfl) (by omega) (by omega)
              exact W.iret (v := y94_3 + 4) hx hb hr (fun tq ht hW => ⟨y94_3 + 4, rfl, (show spBar (mbR mlne mtop mlin co) (mbA mlne mpto mlin mday co) (mbP mmar mtop (laF mlne 2 0 100 mlin.toInt.toNat) t co) t co (y94_3 + 4) from by (try rw [show (y94_3 + 4).toInt = (y94_3.toInt) + (4) from f7]); (first | exact Or.inl ⟨by omega, rfl⟩ | exact Or.inr ⟨by omega, br3 i94_2 ((mq_w i142_0 i94_3).1 (by assumption)) (by omega)⟩ | exact Or.inr ⟨by omega, br3 i94_2 ((mq_w i142_0 i94_3).2 (by assumption)) (by omega)⟩)), ht⟩) (fun q h => by cases h) dX10_bars_154
          refine lv_iload_n hx hb dX10_bars_94 rfl (lv_at hl 2 rfl) ?_
          refine lv_bipush (v := 6) hx hb dX10_bars_95 (by decide) ?_
          refine lv_irem hx hb dX10_bars_97 (by decide) ?_
          have f8 : (co - co / 6 * 6).toInt = (co.toInt) % (6) := remC rfl (show (6 : Int32).toInt = 6 from rfl) (by omega) (by omega)
          refine lv_if_le (tgt := 114) hx hb dX10_bars_98 (by decide) (fun c9 => ?_) (fun c9 => ?_)
          · have dc9 : (co.toInt) % (6) ≤ 0 := leC f8 (show (0 : Int32).toInt = 0 from rfl) c9
            refine lv_iload_n hx hb dX10_bars_114 rfl (lv_at hl 2 rfl) ?_
            refine lv_bipush (v := 6) hx hb dX10_bars_115 (by decide) ?_
            refine lv_irem hx hb dX10_bars_117 (by decide) ?_
            have f10 : (co - co / 6 * 6).toInt = (co.toInt) % (6) := remC rfl (show (6 : Int32).toInt = 6 from rfl) (by omega) (by omega)
            refine lv_iconst (v := 5) hx hb dX10_bars_118 (by decide) ?_
            refine lv_icmp_ge (tgt := 139) hx hb dX10_bars_119 (by decide) (fun c11 => ?_) (fun c11 => ?_)
            · have dc11 : 5 ≤ (co.toInt) % (6) := leC (show (5 : Int32).toInt = 5 from rfl) f10 c11
              refine lv_iconst (v := 0) hx hb dX10_bars_139 (by decide) ?_
              refine lv_istore (lv' := [(5, .int 0), (0, .ref (b 39)), (1, .int t), (2, .int co), (3, .int y94_3), (4, .int y94_4)]) hx hb dX10_bars_140 hl (by decide) rfl (fun ls hl => ?_)
              have kc12 : (0 : Int32).toInt = 0 := rfl
              exact L142 0 _ (by (first | exact mq_y1 (by omega) (by assumption) (by assumption) | exact mq_y2 (by omega) (by assumption) (by assumption) | exact mq_n (by first | exact Or.inl (by omega) | exact Or.inr ⟨_, by assumption, by assumption⟩) (by first | exact Or.inl (by omega) | exact Or.inr ⟨_, by assumption, by assumption⟩))) (lv_sub hl [4, 0] rfl)
            · have dc11 : (co.toInt) % (6) < 5 := nleC (show (5 : Int32).toInt = 5 from rfl) f10 c11
              refine lv_aload_n hx hb dX10_bars_122 rfl (lv_at hl 0 rfl) ?_
              refine lv_iload_n hx hb dX10_bars_123 rfl (lv_at hl 1 rfl) ?_
              refine lv_iload_n hx hb dX10_bars_124 rfl (lv_at hl 2 rfl) ?_
              refine lv_iconst (v := 1) hx hb dX10_bars_125 (by decide) ?_
              refine lv_iadd hx hb dX10_bars_126 ?_
              have f13 : (co + 1).toInt = (co.toInt) + (1) := addC rfl (show (1 : Int32).toInt = 1 from rfl) (by omega) (by omega)
              refine lv_iload hx hb dX10_bars_127 (lv_at hl 4 rfl) ?_
              refine rdV (As := [.int t, .int (co + 1), .int y94_4]) (rest := []) ⟨hx, hb, hml, hown, hts⟩ (k_X10_isTooLike2 l dC dI cI cZ cQ b mday mdoo mdA mdB mfar mmar mtel mgai mfal mtop mstr mgho mfai mpto mwal mahd mahf mcho mbes mbyt mtxt mpos mtka mtok mdig mnum mfau mrdm mrea mlin mlne mthg mord mbor mbsm mans mand manr mali t (co + 1) y94_4 r_mday r_mdoo r_mdA r_mdB r_mmar r_mgai r_mfal r_mtop r_mstr r_mgho r_mfai r_mahd r_mahf r_mcho r_mbyt r_mpos r_mrdm r_mlin r_mthg r_mord r_mans (by omega) (by omega) (by omega) (by omega)) (cwV 3 hts gX10_bars_X10_isTooLike rfl rfl rfl (by decide +kernel) ⟨Nat.le_of_ble_eq_true rfl, Nat.le_of_ble_eq_true rfl⟩) hP hK hN [0, 1, 2, 3, 4, 5, 6, 7, 8, 9, 10, 11, 12, 13, 14, 15, 16, 17, 18, 19, 20, 21, 22, 23, 24, 25] rfl 0 10 rfl rfl rfl hl.1 rfl (Nat.le_of_ble_eq_true rfl) dX10_bars_129 ⟨Nat.le_of_ble_eq_true rfl, Nat.le_of_ble_eq_true rfl⟩ (fun r14 h15 => ?_)
              have h15 : ((((r14 = 1) ∧ (tlM mmar mtop t (co + 1).toNatClampNeg y94_4)) ∨ ((r14 = 0) ∧ (¬ tlM mmar mtop t (co + 1).toNatClampNeg y94_4)))) := h15
              rcases h15 with (⟨rfl, h15_a0⟩ | ⟨rfl, h15_a0⟩)
              · refine lv_if_eq (tgt := 139) hx hb dX10_bars_132 (by decide) (fun c9 => absurd c9 (by decide)) (fun _ => ?_)
                refine lv_iconst (v := 1) hx hb dX10_bars_135 (by decide) ?_
                refine lv_goto (tgt := 140) hx hb dX10_bars_136 (by decide) ?_
                refine lv_istore (lv' := [(5, .int 1), (0, .ref (b 39)), (1, .int t), (2, .int co), (3, .int y94_3), (4, .int y94_4)]) hx hb dX10_bars_140 hl (by decide) rfl (fun ls hl => ?_)
                have kc16 : (1 : Int32).toInt = 1 := rfl
                exact L142 1 _ (by (first | exact mq_y1 (by omega) (by assumption) (by assumption) | exact mq_y2 (by omega) (by assumption) (by assumption) | exact mq_n (by first | exact Or.inl (by omega) | exact Or.inr ⟨_, by assumption, by assumption⟩) (by first | exact Or.inl (by omega) | exact Or.inr ⟨_, by assumption, by assumption⟩))) (lv_sub hl [4, 0] rfl)
              · refine lv_if_eq (tgt := 139) hx hb dX10_bars_132 (by decide) (fun _ => ?_) (fun c9 => absurd (by decide) c9)
                refine lv_iconst (v := 0) hx hb dX10_bars_139 (by decide) ?_
                refine lv_istore (lv' := [(5, .int 0), (0, .ref (b 39)), (1, .int t), (2, .int co), (3, .int y94_3), (4, .int y94_4)]) hx hb dX10_bars_140 hl (by decide) rfl (fun ls hl => ?_)
                have kc17 : (0 : Int32).toInt = 0 := rfl
                exact L142 0 _ (by (first | exact mq_y1 (by omega) (by assumption) (by assumption) | exact mq_y2 (by omega) (by assumption) (by assumption) | exact mq_n (by first | exact Or.inl (by omega) | exact Or.inr ⟨_, by assumption, by assumption⟩) (by first | exact Or.inl (by omega) | exact Or.inr ⟨_, by assumption, by assumption⟩))) (lv_sub hl [4, 0] rfl)
          · have dc9 : 0 < (co.toInt) % (6) := nleC f8 (show (0 : Int32).toInt = 0 from rfl) c9
            refine lv_aload_n hx hb dX10_bars_101 rfl (lv_at hl 0 rfl) ?_
            refine lv_iload_n hx hb dX10_bars_102 rfl (lv_at hl 1 rfl) ?_
            refine lv_iload_n hx hb dX10_bars_103 rfl (lv_at hl 2 rfl) ?_
            refine lv_iconst (v := 1) hx hb dX10_bars_104 (by decide) ?_
            refine lv_isub hx hb dX10_bars_105 ?_
            have f18 : (co - 1).toInt = (co.toInt) - (1) := subC rfl (show (1 : Int32).toInt = 1 from rfl) (by omega) (by omega)
            refine lv_iload hx hb dX10_bars_106 (lv_at hl 4 rfl) ?_
            refine rdV (As := [.int t, .int (co - 1), .int y94_4]) (rest := []) ⟨hx, hb, hml, hown, hts⟩ (k_X10_isTooLike2 l dC dI cI cZ cQ b mday mdoo mdA mdB mfar mmar mtel mgai mfal mtop mstr mgho mfai mpto mwal mahd mahf mcho mbes mbyt mtxt mpos mtka mtok mdig mnum mfau mrdm mrea mlin mlne mthg mord mbor mbsm mans mand manr mali t (co - 1) y94_4 r_mday r_mdoo r_mdA r_mdB r_mmar r_mgai r_mfal r_mtop r_mstr r_mgho r_mfai r_mahd r_mahf r_mcho r_mbyt r_mpos r_mrdm r_mlin r_mthg r_mord r_mans (by omega) (by omega) (by omega) (by omega)) (cwV 3 hts gX10_bars_X10_isTooLike rfl rfl rfl (by decide +kernel) ⟨Nat.le_of_ble_eq_true rfl, Nat.le_of_ble_eq_true rfl⟩) hP hK hN [0, 1, 2, 3, 4, 5, 6, 7, 8, 9, 10, 11, 12, 13, 14, 15, 16, 17, 18, 19, 20, 21, 22, 23, 24, 25] rfl 0 10 rfl rfl rfl hl.1 rfl (Nat.le_of_ble_eq_true rfl) dX10_bars_108 ⟨Nat.le_of_ble_eq_true rfl, Nat.le_of_ble_eq_true rfl⟩ (fun r19 h20 => ?_)
            have h20 : ((((r19 = 1) ∧ (tlM mmar mtop t (co - 1).toNatClampNeg y94_4)) ∨ ((r19 = 0) ∧ (¬ tlM mmar mtop t (co - 1).toNatClampNeg y94_4)))) := h20
            rcases h20 with (⟨rfl, h20_a0⟩ | ⟨rfl, h20_a0⟩)
            · refine lv_if_ne (tgt := 135) hx hb dX10_bars_111 (by decide) (fun _ => ?_) (fun c9 => absurd c9 (by decide))
              refine lv_iconst (v := 1) hx hb dX10_bars_135 (by decide) ?_
              refine lv_goto (tgt := 140) hx hb dX10_bars_136 (by decide) ?_
              refine lv_istore (lv' := [(5, .int 1), (0, .ref (b 39)), (1, .int t), (2, .int co), (3, .int y94_3), (4, .int y94_4)]) hx hb dX10_bars_140 hl (by decide) rfl (fun ls hl => ?_)
              have kc21 : (1 : Int32).toInt = 1 := rfl
              exact L142 1 _ (by (first | exact mq_y1 (by omega) (by assumption) (by assumption) | exact mq_y2 (by omega) (by assumption) (by assumption) | exact mq_n (by first | exact Or.inl (by omega) | exact Or.inr ⟨_, by assumption, by assumption⟩) (by first | exact Or.inl (by omega) | exact Or.inr ⟨_, by assumption, by assumption⟩))) (lv_sub hl [4, 0] rfl)
            · refine lv_if_ne (tgt := 135) hx hb dX10_bars_111 (by decide) (fun c9 => absurd (by decide) c9) (fun _ => ?_)
              refine lv_iload_n hx hb dX10_bars_114 rfl (lv_at hl 2 rfl) ?_
              refine lv_bipush (v := 6) hx hb dX10_bars_115 (by decide) ?_
              refine lv_irem hx hb dX10_bars_117 (by decide) ?_
              have f22 : (co - co / 6 * 6).toInt = (co.toInt) % (6) := remC rfl (show (6 : Int32).toInt = 6 from rfl) (by omega) (by omega)
              refine lv_iconst (v := 5) hx hb dX10_bars_118 (by decide) ?_
              refine lv_icmp_ge (tgt := 139) hx hb dX10_bars_119 (by decide) (fun c23 => ?_) (fun c23 => ?_)
              · have dc23 : 5 ≤ (co.toInt) % (6) := leC (show (5 : Int32).toInt = 5 from rfl) f22 c23
                refine lv_iconst (v := 0) hx hb dX10_bars_139 (by decide) ?_
                refine lv_istore (lv' := [(5, .int 0), (0, .ref (b 39)), (1, .int t), (2, .int co), (3, .int y94_3), (4, .int y94_4)]) hx hb dX10_bars_140 hl (by decide) rfl (fun ls hl => ?_)
                have kc24 : (0 : Int32).toInt = 0 := rfl
                exact L142 0 _ (by (first | exact mq_y1 (by omega) (by assumption) (by assumption) | exact mq_y2 (by omega) (by assumption) (by assumption) | exact mq_n (by first | exact Or.inl (by omega) | exact Or.inr ⟨_, by assumption, by assumption⟩) (by first | exact Or.inl (by omega) | exact Or.inr ⟨_, by assumption, by assumption⟩))) (lv_sub hl [4, 0] rfl)
              · have dc23 : (co.toInt) % (6) < 5 := nleC (show (5 : Int32).toInt = 5 from rfl) f22 c23
                refine lv_aload_n hx hb dX10_bars_122 rfl (lv_at hl 0 rfl) ?_
                refine lv_iload_n hx hb dX10_bars_123 rfl (lv_at hl 1 rfl) ?_
                refine lv_iload_n hx hb dX10_bars_124 rfl (lv_at hl 2 rfl) ?_
                refine lv_iconst (v := 1) hx hb dX10_bars_125 (by decide) ?_
                refine lv_iadd hx hb dX10_bars_126 ?_
                have f25 : (co + 1).toInt = (co.toInt) + (1) := addC rfl (show (1 : Int32).toInt = 1 from rfl) (by omega) (by omega)
                refine lv_iload hx hb dX10_bars_127 (lv_at hl 4 rfl) ?_
                refine rdV (As := [.int t, .int (co + 1), .int y94_4]) (rest := []) ⟨hx, hb, hml, hown, hts⟩ (k_X10_isTooLike2 l dC dI cI cZ cQ b mday mdoo mdA mdB mfar mmar mtel mgai mfal mtop mstr mgho mfai mpto mwal mahd mahf mcho mbes mbyt mtxt mpos mtka mtok mdig mnum mfau mrdm mrea mlin mlne mthg mord mbor mbsm mans mand manr mali t (co + 1) y94_4 r_mday r_mdoo r_mdA r_mdB r_mmar r_mgai r_mfal r_mtop r_mstr r_mgho r_mfai r_mahd r_mahf r_mcho r_mbyt r_mpos r_mrdm r_mlin r_mthg r_mord r_mans (by omega) (by omega) (by omega) (by omega)) (cwV 3 hts gX10_bars_X10_isTooLike rfl rfl rfl (by decide +kernel) ⟨Nat.le_of_ble_eq_true rfl, Nat.le_of_ble_eq_true rfl⟩) hP hK hN [0, 1, 2, 3, 4, 5, 6, 7, 8, 9, 10, 11, 12, 13, 14, 15, 16, 17, 18, 19, 20, 21, 22, 23, 24, 25] rfl 0 10 rfl rfl rfl hl.1 rfl (Nat.le_of_ble_eq_true rfl) dX10_bars_129 ⟨Nat.le_of_ble_eq_true rfl, Nat.le_of_ble_eq_true rfl⟩ (fun r26 h27 => ?_)
                have h27 : ((((r26 = 1) ∧ (tlM mmar mtop t (co + 1).toNatClampNeg y94_4)) ∨ ((r26 = 0) ∧ (¬ tlM mmar mtop t (co + 1).toNatClampNeg y94_4)))) := h27
                rcases h27 with (⟨rfl, h27_a0⟩ | ⟨rfl, h27_a0⟩)
                · refine lv_if_eq (tgt := 139) hx hb dX10_bars_132 (by decide) (fun c9 => absurd c9 (by decide)) (fun _ => ?_)
                  refine lv_iconst (v := 1) hx hb dX10_bars_135 (by decide) ?_
                  refine lv_goto (tgt := 140) hx hb dX10_bars_136 (by decide) ?_
                  refine lv_istore (lv' := [(5, .int 1), (0, .ref (b 39)), (1, .int t), (2, .int co), (3, .int y94_3), (4, .int y94_4)]) hx hb dX10_bars_140 hl (by decide) rfl (fun ls hl => ?_)
                  have kc28 : (1 : Int32).toInt = 1 := rfl
                  exact L142 1 _ (by (first | exact mq_y1 (by omega) (by assumption) (by assumption) | exact mq_y2 (by omega) (by assumption) (by assumption) | exact mq_n (by first | exact Or.inl (by omega) | exact Or.inr ⟨_, by assumption, by assumption⟩) (by first | exact Or.inl (by omega) | exact Or.inr ⟨_, by assumption, by assumption⟩))) (lv_sub hl [4, 0] rfl)
                · refine lv_if_eq (tgt := 139) hx hb dX10_bars_132 (by decide) (fun _ => ?_) (fun c9 => absurd (by decide) c9)
                  refine lv_iconst (v := 0) hx hb dX10_bars_139 (by decide) ?_
                  refine lv_istore (lv' := [(5, .int 0), (0, .ref (b 39)), (1, .int t), (2, .int co), (3, .int y94_3), (4, .int y94_4)]) hx hb dX10_bars_140 hl (by decide) rfl (fun ls hl => ?_)
                  have kc29 : (0 : Int32).toInt = 0 := rfl
                  exact L142 0 _ (by (first | exact mq_y1 (by omega) (by assumption) (by assumption) | exact mq_y2 (by omega) (by assumption) (by assumption) | exact mq_n (by first | exact Or.inl (by omega) | exact Or.inr ⟨_, by assumption, by assumption⟩) (by first | exact Or.inl (by omega) | exact Or.inr ⟨_, by assumption, by assumption⟩))) (lv_sub hl [4, 0] rfl)
        refine lv_aload_n hx hb dX10_bars_45 rfl (lv_at hl 0 rfl) ?_
        refine lv_iconst (v := 2) hx hb dX10_bars_46 (by decide) ?_
        refine lv_iconst (v := 0) hx hb dX10_bars_47 (by decide) ?_
        refine lv_bipush (v := 100) hx hb dX10_bars_48 (by decide) ?_
        refine rdV (As := [.int 2, .int 0, .int 100]) (rest := []) ⟨hx, hb, hml, hown, hts⟩ (k_X10_lastOf2 l dC dI cI cZ cQ b mday mdoo mdA mdB mfar mmar mtel mgai mfal mtop mstr mgho mfai mpto mwal mahd mahf mcho mbes mbyt mtxt mpos mtka mtok mdig mnum mfau mrdm mrea mlin mlne mthg mord mbor mbsm mans mand manr mali (2 : Int32) (0 : Int32) (100 : Int32) r_mday r_mdoo r_mdA r_mdB r_mmar r_mgai r_mfal r_mtop r_mstr r_mgho r_mfai r_mahd r_mahf r_mcho r_mbyt r_mpos r_mrdm r_mlin r_mthg r_mord r_mans) (cwV 3 hts gX10_bars_X10_lastOf rfl rfl rfl (by decide +kernel) ⟨Nat.le_of_ble_eq_true rfl, Nat.le_of_ble_eq_true rfl⟩) hP hK hN [0, 1, 2, 3, 4, 5, 6, 7, 8, 9, 10, 11, 12, 13, 14, 15, 16, 17, 18, 19, 20, 21, 22, 23, 24, 25] rfl 0 10 rfl rfl rfl hl.1 rfl (Nat.le_of_ble_eq_true rfl) dX10_bars_50 ⟨Nat.le_of_ble_eq_true rfl, Nat.le_of_ble_eq_true rfl⟩ (fun r30 h31 => ?_)
        have h31 : (r30 = laF mlne (2 : Int32) (0 : Int32) (100 : Int32) mlin.toInt.toNat) := h31
        have h31_0 := h31
        refine lv_istore (lv' := [(4, .int r30), (0, .ref (b 39)), (1, .int t), (2, .int co), (3, .int y45_3)]) hx hb dX10_bars_53 hl (by decide) rfl (fun ls hl => ?_)
        refine lv_iload_n hx hb dX10_bars_55 rfl (lv_at hl 4 rfl) ?_
        refine lv_aload_n hx hb dX10_bars_56 rfl (lv_at hl 1 rfl) ?_
        refine va_get (D := (dC, dI)) (ci := 10) (v := .ref (b 13)) (C := RX10) (T := TX10) (N := 39) hx hb hts inX10 hown hK hP 0 rfl rfl 13 (by decide) lf44 (fun _ h9 => h9) rfl dX10_bars_57 ?_
        refine lv_iload_n hx hb dX10_bars_60 rfl (lv_at hl 3 rfl) ?_
        have b32 : vp_in co 48 := inC rfl (by omega) (by omega)
        refine va_iald hx hb hK hP 10 0 rfl rfl b32 dX10_bars_61 ?_
        refine lv_iconst (v := (-1)) hx hb dX10_bars_62 (by decide) ?_
        refine lv_icmp_eq (tgt := 91) hx hb dX10_bars_63 (by decide) (fun c33 => ?_) (fun c33 => ?_)
        · have dc33 : (mpto co.toNatClampNeg).toInt = (-1) := eqC rfl (show ((-1) : Int32).toInt = (-1) from rfl) c33
          refine lv_iconst (v := 0) hx hb dX10_bars_91 (by decide) ?_
          refine lv_iadd hx hb dX10_bars_92 ?_
          have f34 : (y45_3 + 0).toInt = (y45_3.toInt) + (0) := addC rfl (show (0 : Int32).toInt = 0 from rfl) (by omega) (by omega)
          refine lv_topi (fun x35 ex35 => ?_)
          have ix35 : x35.toInt = (y45_3.toInt) + (0) := by rw [ex35]; exact f34
          refine lv_istore_n (lv' := [(3, .int x35), (4, .int r30), (0, .ref (b 39)), (1, .int t), (2, .int co)]) hx hb dX10_bars_93 rfl hl (by decide) rfl (fun ls hl => ?_)
          exact L94 x35 r30 _ (by omega) (by omega) (by (first | exact cau2 i45_2 (Or.inl ⟨ma_y (by assumption) (by assumption) (by assumption), rfl⟩) (by omega) | exact cau2 i45_2 (Or.inr ⟨fun q => q.1 (by assumption), rfl⟩) (by omega) | exact cau2 i45_2 (Or.inr ⟨ma_n (by assumption) (by assumption), rfl⟩) (by omega))) (by assumption) (lv_sub hl [2, 3, 4, 0, 1] rfl)
        · have dc33 : (mpto co.toNatClampNeg).toInt ≠ (-1) := neC rfl (show ((-1) : Int32).toInt = (-1) from rfl) c33
          refine lv_aload_n hx hb dX10_bars_66 rfl (lv_at hl 1 rfl) ?_
          refine va_get (D := (dC, dI)) (ci := 10) (v := .int mday) (C := RX10) (T := TX10) (N := 39) hx hb hts inX10 hown hK hP 0 rfl rfl 0 (by decide) lf125 (fun _ h9 => h9) rfl dX10_bars_67 ?_
          refine lv_aload_n hx hb dX10_bars_70 rfl (lv_at hl 1 rfl) ?_
          refine va_get (D := (dC, dI)) (ci := 10) (v := .ref (b 13)) (C := RX10) (T := TX10) (N := 39) hx hb hts inX10 hown hK hP 0 rfl rfl 13 (by decide) lf44 (fun _ h9 => h9) rfl dX10_bars_71 ?_
          refine lv_iload_n hx hb dX10_bars_74 rfl (lv_at hl 3 rfl) ?_
          have b36 : vp_in co 48 := inC rfl (by omega) (by omega)
          refine va_iald hx hb hK hP 10 0 rfl rfl b36 dX10_bars_75 ?_
          refine lv_isub hx hb dX10_bars_76 ?_
          refine lv_aload_n hx hb dX10_bars_77 rfl (lv_at hl 1 rfl) ?_
          refine lv_iconst (v := 1) hx hb dX10_bars_78 (by decide) ?_
          refine lv_iconst (v := 0) hx hb dX10_bars_79 (by decide) ?_
          refine lv_iconst (v := 0) hx hb dX10_bars_80 (by decide) ?_
          refine rdV (As := [.int 1, .int 0, .int 0]) (rest := [.int (mday - (mpto co.toNatClampNeg)), .int y45_3]) ⟨hx, hb, hml, hown, hts⟩ (k_X10_lastOf2 l dC dI cI cZ cQ b mday mdoo mdA mdB mfar mmar mtel mgai mfal mtop mstr mgho mfai mpto mwal mahd mahf mcho mbes mbyt mtxt mpos mtka mtok mdig mnum mfau mrdm mrea mlin mlne mthg mord mbor mbsm mans mand manr mali (1 : Int32) (0 : Int32) (0 : Int32) r_mday r_mdoo r_mdA r_mdB r_mmar r_mgai r_mfal r_mtop r_mstr r_mgho r_mfai r_mahd r_mahf r_mcho r_mbyt r_mpos r_mrdm r_mlin r_mthg r_mord r_mans) (cwV 3 hts gX10_bars_X10_lastOf rfl rfl rfl (by decide +kernel) ⟨Nat.le_of_ble_eq_true rfl, Nat.le_of_ble_eq_true rfl⟩) hP hK hN [0, 1, 2, 3, 4, 5, 6, 7, 8, 9, 10, 11, 12, 13, 14, 15, 16, 17, 18, 19, 20, 21, 22, 23, 24, 25] rfl 0 10 rfl rfl rfl hl.1 rfl (Nat.le_of_ble_eq_true rfl) dX10_bars_81 ⟨Nat.le_of_ble_eq_true rfl, Nat.le_of_ble_eq_true rfl⟩ (fun r37 h38 => ?_)
          have h38 : (r37 = laF mlne (1 : Int32) (0 : Int32) (0 : Int32) mlin.toInt.toNat) := h38
          have h38_0 := h38
          refine lv_icmp_ge (tgt := 91) hx hb dX10_bars_84 (by decide) (fun c39 => ?_) (fun c39 => ?_)
          · have dc39 : r37.toInt ≤ (mday - (mpto co.toNatClampNeg)).toInt := leC rfl rfl c39
            refine lv_iconst (v := 0) hx hb dX10_bars_91 (by decide) ?_
            refine lv_iadd hx hb dX10_bars_92 ?_
            have f40 : (y45_3 + 0).toInt = (y45_3.toInt) + (0) := addC rfl (show (0 : Int32).toInt = 0 from rfl) (by omega) (by omega)
            refine lv_topi (fun x41 ex41 => ?_)
            have ix41 : x41.toInt = (y45_3.toInt) + (0) := by rw [ex41]; exact f40
            refine lv_istore_n (lv' := [(3, .int x41), (4, .int r30), (0, .ref (b 39)), (1, .int t), (2, .int co)]) hx hb dX10_bars_93 rfl hl (by decide) rfl (fun ls hl => ?_)
            exact L94 x41 r30 _ (by omega) (by omega) (by (first | exact cau2 i45_2 (Or.inl ⟨ma_y (by assumption) (by assumption) (by assumption), rfl⟩) (by omega) | exact cau2 i45_2 (Or.inr ⟨fun q => q.1 (by assumption), rfl⟩) (by omega) | exact cau2 i45_2 (Or.inr ⟨ma_n (by assumption) (by assumption), rfl⟩) (by omega))) (by assumption) (lv_sub hl [2, 3, 4, 0, 1] rfl)
          · have dc39 : (mday - (mpto co.toNatClampNeg)).toInt < r37.toInt := nleC rfl rfl c39
            refine lv_iconst (v := 2) hx hb dX10_bars_87 (by decide) ?_
            refine lv_goto (tgt := 92) hx hb dX10_bars_88 (by decide) ?_
            refine lv_iadd hx hb dX10_bars_92 ?_
            have f42 : (y45_3 + 2).toInt = (y45_3.toInt) + (2) := addC rfl (show (2 : Int32).toInt = 2 from rfl) (by omega) (by omega)
            refine lv_topi (fun x43 ex43 => ?_)
            have ix43 : x43.toInt = (y45_3.toInt) + (2) := by rw [ex43]; exact f42
            refine lv_istore_n (lv' := [(3, .int x43), (4, .int r30), (0, .ref (b 39)), (1, .int t), (2, .int co)]) hx hb dX10_bars_93 rfl hl (by decide) rfl (fun ls hl => ?_)
            exact L94 x43 r30 _ (by omega) (by omega) (by (first | exact cau2 i45_2 (Or.inl ⟨ma_y (by assumption) (by assumption) (by assumption), rfl⟩) (by omega) | exact cau2 i45_2 (Or.inr ⟨fun q => q.1 (by assumption), rfl⟩) (by omega) | exact cau2 i45_2 (Or.inr ⟨ma_n (by assumption) (by assumption), rfl⟩) (by omega))) (by assumption) (lv_sub hl [2, 3, 4, 0, 1] rfl)
      refine lv_aload_n hx hb dX10_bars_17 rfl (lv_at hl 0 rfl) ?_
      refine lv_iload_n hx hb dX10_bars_18 rfl (lv_at hl 2 rfl) ?_
      refine lv_bipush (v := 6) hx hb dX10_bars_19 (by decide) ?_
      refine lv_idiv hx hb dX10_bars_21 (by decide) ?_
      have f44 : (co / 6).toInt = (co.toInt) / (6) := divC rfl (show (6 : Int32).toInt = 6 from rfl) (by omega) (by omega)
      refine rdV (As := [.int (co / 6)]) (rest := []) ⟨hx, hb, hml, hown, hts⟩ (k_X10_standIn2 l dC dI cI cZ cQ b mday mdoo mdA mdB mfar mmar mtel mgai mfal mtop mstr mgho mfai mpto mwal mahd mahf mcho mbes mbyt mtxt mpos mtka mtok mdig mnum mfau mrdm mrea mlin mlne mthg mord mbor mbsm mans mand manr mali (co / 6) r_mday r_mdoo r_mdA r_mdB r_mmar r_mgai r_mfal r_mtop r_mstr r_mgho r_mfai r_mahd r_mahf r_mcho r_mbyt r_mpos r_mrdm r_mlin r_mthg r_mord r_mans (by omega) (by omega)) (cwV 1 hts gX10_bars_X10_standIn rfl rfl rfl (by decide +kernel) ⟨Nat.le_of_ble_eq_true rfl, Nat.le_of_ble_eq_true rfl⟩) hP hK hN [0, 1, 2, 3, 4, 5, 6, 7, 8, 9, 10, 11, 12, 13, 14, 15, 16, 17, 18, 19, 20, 21, 22, 23, 24, 25] rfl 0 10 rfl rfl rfl hl.1 rfl (Nat.le_of_ble_eq_true rfl) dX10_bars_22 ⟨Nat.le_of_ble_eq_true rfl, Nat.le_of_ble_eq_true rfl⟩ (fun r45 h46 => ?_)
      have h46 : (0 ≤ r45.toInt) ∧ (r45.toInt ≤ 6) ∧ (r45.toInt = stF mtop ((co / 6).toInt * 6).toNat 6) := h46
      obtain ⟨h46_0, h46_1, h46_2⟩ := h46
      refine lv_aload_n hx hb dX10_bars_25 rfl (lv_at hl 0 rfl) ?_
      refine lv_iconst (v := 0) hx hb dX10_bars_26 (by decide) ?_
      refine lv_iload_n hx hb dX10_bars_27 rfl (lv_at hl 2 rfl) ?_
      refine lv_bipush (v := 6) hx hb dX10_bars_28 (by decide) ?_
      refine lv_idiv hx hb dX10_bars_30 (by decide) ?_
      have f47 : (co / 6).toInt = (co.toInt) / (6) := divC rfl (show (6 : Int32).toInt = 6 from rfl) (by omega) (by omega)
      refine lv_bipush (v := 100) hx hb dX10_bars_31 (by decide) ?_
      refine rdV (As := [.int 0, .int (co / 6), .int 100]) (rest := [.int r45]) ⟨hx, hb, hml, hown, hts⟩ (k_X10_lastOf2 l dC dI cI cZ cQ b mday mdoo mdA mdB mfar mmar mtel mgai mfal mtop mstr mgho mfai mpto mwal mahd mahf mcho mbes mbyt mtxt mpos mtka mtok mdig mnum mfau mrdm mrea mlin mlne mthg mord mbor mbsm mans mand manr mali (0 : Int32) (co / 6) (100 : Int32) r_mday r_mdoo r_mdA r_mdB r_mmar r_mgai r_mfal r_mtop r_mstr r_mgho r_mfai r_mahd r_mahf r_mcho r_mbyt r_mpos r_mrdm r_mlin r_mthg r_mord r_mans) (cwV 3 hts gX10_bars_X10_lastOf rfl rfl rfl (by decide +kernel) ⟨Nat.le_of_ble_eq_true rfl, Nat.le_of_ble_eq_true rfl⟩) hP hK hN [0, 1, 2, 3, 4, 5, 6, 7, 8, 9, 10, 11, 12, 13, 14, 15, 16, 17, 18, 19, 20, 21, 22, 23, 24, 25] rfl 0 10 rfl rfl rfl hl.1 rfl (Nat.le_of_ble_eq_true rfl) dX10_bars_33 ⟨Nat.le_of_ble_eq_true rfl, Nat.le_of_ble_eq_true rfl⟩ (fun r48 h49 => ?_)
      have h49 : (r48 = laF mlne (0 : Int32) (co / 6) (100 : Int32) mlin.toInt.toNat) := h49
      have h49_0 := h49
      refine lv_icmp_lt (tgt := 43) hx hb dX10_bars_36 (by decide) (fun c50 => ?_) (fun c50 => ?_)
      · have dc50 : r45.toInt < r48.toInt := ltC rfl rfl c50
        refine lv_iconst (v := 0) hx hb dX10_bars_43 (by decide) ?_
        refine lv_istore_n (lv' := [(3, .int 0), (0, .ref (b 39)), (1, .int t), (2, .int co)]) hx hb dX10_bars_44 rfl hl (by decide) rfl (fun ls hl => ?_)
        have kc51 : (0 : Int32).toInt = 0 := rfl
        exact L45 0 _ (by omega) (by omega) (by (first | exact Or.inl ⟨mr_y (by assumption) (by omega) (by assumption) (by assumption) (by omega), rfl⟩ | exact Or.inr ⟨mr_n (by assumption) (by omega) (by assumption) (by assumption) (by omega), rfl⟩)) (lv_sub hl [1, 2, 3, 0] rfl)
      · have dc50 : r48.toInt ≤ r45.toInt := nltC rfl rfl c50
        refine lv_iconst (v := 1) hx hb dX10_bars_39 (by decide) ?_
        refine lv_goto (tgt := 44) hx hb dX10_bars_40 (by decide) ?_
        refine lv_istore_n (lv' := [(3, .int 1), (0, .ref (b 39)), (1, .int t), (2, .int co)]) hx hb dX10_bars_44 rfl hl (by decide) rfl (fun ls hl => ?_)
        have kc52 : (1 : Int32).toInt = 1 := rfl
        exact L45 1 _ (by omega) (by omega) (by (first | exact Or.inl ⟨mr_y (by assumption) (by omega) (by assumption) (by assumption) (by omega), rfl⟩ | exact Or.inr ⟨mr_n (by assumption) (by omega) (by assumption) (by assumption) (by omega), rfl⟩)) (lv_sub hl [1, 2, 3, 0] rfl)
    · refine lv_if_ne (tgt := 17) hx hb dX10_bars_11 (by decide) (fun c9 => absurd (by decide) c9) (fun _ => ?_)
      refine lv_bipush (v := (-2)) hx hb dX10_bars_14 (by decide) ?_
      exact W.iret (v := (-2)) hx hb hr (fun tq ht hW => ⟨(-2), rfl, (show spBar (mbR mlne mtop mlin co) (mbA mlne mpto mlin mday co) (mbP mmar mtop (laF mlne 2 0 100 mlin.toInt.toNat) t co) t co ((-2) : Int32) from by (try rw [show ((-2) : Int32).toInt = (-2) from (show ((-2) : Int32).toInt = (-2) from rfl)]); (first | exact Or.inl ⟨by omega, rfl⟩ | exact Or.inr ⟨by omega, br3 i94_2 ((mq_w i142_0 i94_3).1 (by assumption)) (by omega)⟩ | exact Or.inr ⟨by omega, br3 i94_2 ((mq_w i142_0 i94_3).2 (by assumption)) (by omega)⟩)), ht⟩) (fun q h => by cases h) dX10_bars_16
  · refine lv_if_eq (tgt := 14) hx hb dX10_bars_4 (by decide) (fun _ => ?_) (fun c9 => absurd (by decide) c9)
    refine lv_bipush (v := (-2)) hx hb dX10_bars_14 (by decide) ?_
    exact W.iret (v := (-2)) hx hb hr (fun tq ht hW => ⟨(-2), rfl, (show spBar (mbR mlne mtop mlin co) (mbA mlne mpto mlin mday co) (mbP mmar mtop (laF mlne 2 0 100 mlin.toInt.toNat) t co) t co ((-2) : Int32) from by (try rw [show ((-2) : Int32).toInt = (-2) from (show ((-2) : Int32).toInt = (-2) from rfl)]); (first | exact Or.inl ⟨by omega, rfl⟩ | exact Or.inr ⟨by omega, br3 i94_2 ((mq_w i142_0 i94_3).1 (by assumption)) (by omega)⟩ | exact Or.inr ⟨by omega, br3 i94_2 ((mq_w i142_0 i94_3).2 (by assumption)) (by omega)⟩)), ht⟩) (fun q h => by cases h) dX10_bars_16
