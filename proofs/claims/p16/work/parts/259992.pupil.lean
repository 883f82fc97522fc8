set_option maxHeartbeats 4000000 in
set_option maxRecDepth 100000 in
theorem k_X10_partsMost2 (l : Launch) (dC : Nat → ClassId) (dI : Nat → Nat → Nat) (cI cZ cQ : ClassId) (b : Nat → Nat) (mday : Int32) (mdoo : Int32) (mdA : Nat → Int32) (mdB : Nat → Int32) (mfar : Nat → Int32) (mmar : Nat → Int32) (mtel : Int32) (mgai : Int32) (mfal : Nat → Int32) (mtop : Nat → Int32) (mstr : Nat → Int32) (mgho : Nat → Int32) (mfai : Nat → Int32) (mpto : Nat → Int32) (mwal : Nat → Int32) (mahd : Nat → Int32) (mahf : Nat → Int32) (mcho : Nat → Int32) (mbes : Nat → Int32) (mbyt : Int32) (mtxt : Nat → Int32) (mpos : Int32) (mtka : Int32) (mtok : Int64) (mdig : Int32) (mnum : Int32) (mfau : Int32) (mrdm : Int32) (mrea : Nat → Int32) (mlin : Int32) (mlne : Nat → Int32) (mthg : Nat → Int32) (mord : Nat → Int32) (mbor : Nat → Int32) (mbsm : Int32) (mans : Nat → Int32) (mand : Nat → Int32) (manr : Nat → Int32) (mali : Nat → Int32) (pp : Int32) (r_mday : 0 ≤ mday.toInt ∧ mday.toInt ≤ 400) (r_mdoo : 0 ≤ mdoo.toInt ∧ mdoo.toInt ≤ 14) (r_mdA : rg 14 (0) (7) mdA) (r_mdB : rg 14 (0) (7) mdB) (r_mmar : rg 24 (0) (255) mmar) (r_mgai : 0 ≤ mgai.toInt ∧ mgai.toInt ≤ 100) (r_mfal : rg 11 (0) (30) mfal) (r_mtop : rg 48 (-1) (23) mtop) (r_mstr : rg 48 (0) (100) mstr) (r_mgho : rg 48 (-1) (23) mgho) (r_mfai : rg 48 (0) (100) mfai) (r_mahd : rg 240 (0) (100) mahd) (r_mahf : rg 240 (0) (100) mahf) (r_mcho : rg 5 (-1) (9) mcho) (r_mbyt : 0 ≤ mbyt.toInt ∧ mbyt.toInt ≤ 160) (r_mpos : 0 ≤ mpos.toInt ∧ mpos.toInt ≤ 160) (r_mrdm : 0 ≤ mrdm.toInt ∧ mrdm.toInt ≤ 10) (r_mlin : 0 ≤ mlin.toInt ∧ mlin.toInt ≤ 10) (r_mthg : rg 8 (0) (31) mthg) (r_mord : rg 8 (-1) (8) mord) (r_mans : rg 4 (0) (12) mans) (q0 : 0 ≤ pp.toInt) (q1 : pp.toInt ≤ 3) : KR l yX10_partsMost wsX10_partsMost { frames := 2, cells := 0, slots := 0, locals := 45 } (dC, dI) (TY cI cZ cQ) (wMod cI cZ cQ b mday mdoo mdA mdB mfar mmar mtel mgai mfal mtop mstr mgho mfai mpto mwal mahd mahf mcho mbes mbyt mtxt mpos mtka mtok mdig mnum mfau mrdm mrea mlin mlne mthg mord mbor mbsm mans mand manr mali) [.ref (b 39), .int pp] (fun r : Int32 => (r.toInt = dpF (fun t => agW mand manr (nI t) (12 * pp.toInt).toNat (mans pp.toNatClampNeg).toInt.toNat) (mans pp.toNatClampNeg) 1000)) := by
  refine Met.ofW (cc := cX10_partsMost) (maxL := 9) (ret := (some .int)) (by decide) rfl ?_
  intro p e s m args below meth c s₁ B hml hv
  obtain ⟨rfl, hP, hK, hN⟩ := hv
  have hx := B.exec
  have hb := B.bytes
  have hr := B.returns
  have hts := atoms_spec (ws := wsX10_partsMost) B.pre
  have hown : s.vm.findClass RX10 = some m.cls := findClass_of_methodNamed B.named
  have hlocks := B.notSynchronized
  have lf80 := hts (.fieldLink RX10 80 "PalaceOfRoomsModel" "answers" "[I") (List.mem_cons_of_mem _ (List.mem_append_left _ (List.mem_of_getElem? (i := 0) rfl)))
  have inX10 : ∀ w ∈ wsX100, w ∈ wsX10_partsMost := fun w h => List.mem_cons_of_mem _ (List.mem_append_right _ h)
  have hl := lv_entry ([.ref (b 39), .int pp]) (n := 9) (Nat.le_of_ble_eq_true rfl)
  rw [lg_entry_eq]
  generalize (lg_sl ([.ref (b 39), .int pp]) ++ List.replicate (9 - (lg_sl ([.ref (b 39), .int pp])).length) Slot.unset).toArray = ls at hl ⊢
  have hl : lv_has ls 9 [(0, .ref (b 39)), (1, .int pp)] := hl
  refine lv_iconst (v := (-1)) hx hb dX10_partsMost_0 (by decide) ?_
  refine lv_istore_n (lv' := [(2, .int (-1)), (0, .ref (b 39)), (1, .int pp)]) hx hb dX10_partsMost_1 rfl hl (by decide) rfl (fun ls hl => ?_)
  refine lv_sipush (v := 1000) hx hb dX10_partsMost_2 (by decide) ?_
  refine lv_istore_n (lv' := [(3, .int 1000), (2, .int (-1)), (0, .ref (b 39)), (1, .int pp)]) hx hb dX10_partsMost_5 rfl hl (by decide) rfl (fun ls hl => ?_)
  refine lv_iconst (v := 0) hx hb dX10_partsMost_6 (by decide) ?_
  refine lv_istore (lv' := [(4, .int 0), (3, .int 1000), (2, .int (-1)), (0, .ref (b 39)), (1, .int pp)]) hx hb dX10_partsMost_7 hl (by decide) rfl (fun ls hl => ?_)
  refine lv_iconst (v := 1) hx hb dX10_partsMost_9 (by decide) ?_
  refine lv_istore (lv' := [(5, .int 1), (4, .int 0), (3, .int 1000), (2, .int (-1)), (0, .ref (b 39)), (1, .int pp)]) hx hb dX10_partsMost_10 hl (by decide) rfl (fun ls hl => ?_)
  have L12 : ∀ (nn : Nat) (y12_2 : Int32) (y12_3 : Int32) (y12_4 : Int32) (y12_5 : Int32) (ls : Array Slot), (1 ≤ (y12_5.toInt)) → ((y12_5.toInt) ≤ 61) → (-1 ≤ (y12_2.toInt)) → ((y12_2.toInt) ≤ 60) → (0 ≤ (y12_3.toInt)) → ((y12_3.toInt) ≤ 1000) → (0 ≤ (y12_4.toInt)) → ((y12_4.toInt) ≤ 4860) → (((y12_2.toInt), (y12_3.toInt)) = fdP (fun t => agW mand manr (nI t) (12 * pp.toInt).toNat (mans pp.toNatClampNeg).toInt.toNat) (mans pp.toNatClampNeg) 1000 ((y12_5.toInt) - 1).toNat) → (anI (y12_4.toInt) (y12_5.toInt) (mayF (fun t => agW mand manr (nI t) (12 * pp.toInt).toNat (mans pp.toNatClampNeg).toInt.toNat) (mans pp.toNatClampNeg) 81)) → ((y12_4.toInt) ≤ 81 * (y12_5.toInt) - 81) → (61 - (y12_5.toInt)).toNat < nn → lv_has ls 9 [(0, .ref (b 39)), (1, .int pp), (2, .int y12_2), (3, .int y12_3), (4, .int y12_4), (5, .int y12_5)] → W p l e (headSpec wsX10_partsMost { frames := 2, cells := 0, slots := 0, locals := 45 }).room s m ([.ref (b 39), .int pp] : List Value).toArray below meth c s.heap [] 0 0 (MQ below (QR (fun r : Int32 => (r.toInt = dpF (fun t => agW mand manr (nI t) (12 * pp.toInt).toNat (mans pp.toNatClampNeg).toInt.toNat) (mans pp.toNatClampNeg) 1000))) ([.ref (b 39), .int pp] : List Value).toArray s 0 0 (fun _ => False)) (F0 m 12 ls []) := by
    intro nn
    induction nn with
    | zero =>
      intro y12_2 y12_3 y12_4 y12_5 ls i12_0 i12_1 i12_2 i12_3 i12_4 i12_5 i12_6 i12_7 i12_8 i12_9 i12_10 hm12
      exact absurd hm12 (Nat.not_lt_zero _)
    | succ nn ih12 =>
      intro y12_2 y12_3 y12_4 y12_5 ls i12_0 i12_1 i12_2 i12_3 i12_4 i12_5 i12_6 i12_7 i12_8 i12_9 i12_10 hm12 hl
      refine lv_iload hx hb dX10_partsMost_12 (lv_at hl 5 rfl) ?_
      refine lv_bipush (v := 61) hx hb dX10_partsMost_14 (by decide) ?_
      refine lv_icmp_ge (tgt := 152) hx hb dX10_partsMost_16 (by decide) (fun c1 => ?_) (fun c1 => ?_)
      · have dc1 : 61 ≤ y12_5.toInt := leC (show (61 : Int32).toInt = 61 from rfl) rfl c1
        refine lv_iload hx hb dX10_partsMost_152 (lv_at hl 4 rfl) ?_
        refine lv_if_ne (tgt := 161) hx hb dX10_partsMost_154 (by decide) (fun c2 => ?_) (fun c2 => ?_)
        · have dc2 : 1 ≤ y12_4.toInt := ka_lo (by omega) (neC rfl (show (0 : Int32).toInt = 0 from rfl) c2)
          refine lv_iload_n hx hb dX10_partsMost_161 rfl (lv_at hl 2 rfl) ?_
          exact W.iret (v := y12_2) hx hb hr (fun tq ht hW => ⟨y12_2, rfl, (show y12_2.toInt = dpF (fun t => agW mand manr (nI t) (12 * pp.toInt).toNat (mans pp.toNatClampNeg).toInt.toNat) (mans pp.toNatClampNeg) 1000 from by (first | exact dp_0 rfl ((ay_e i12_9 (by omega)).mp (by omega)) rfl | exact dp_1 rfl (fun q => absurd ((ay_e i12_9 (by omega)).mpr q) (by omega)) i12_8 (by omega))), ht⟩) (fun q h => by cases h) dX10_partsMost_162
        · have dc2 : y12_4.toInt = 0 := eqC rfl (show (0 : Int32).toInt = 0 from rfl) c2
          refine lv_iconst (v := (-1)) hx hb dX10_partsMost_157 (by decide) ?_
          refine lv_goto (tgt := 162) hx hb dX10_partsMost_158 (by decide) ?_
          exact W.iret (v := (-1)) hx hb hr (fun tq ht hW => ⟨(-1), rfl, (show ((-1) : Int32).toInt = dpF (fun t => agW mand manr (nI t) (12 * pp.toInt).toNat (mans pp.toNatClampNeg).toInt.toNat) (mans pp.toNatClampNeg) 1000 from by (try rw [show ((-1) : Int32).toInt = (-1) from (show ((-1) : Int32).toInt = (-1) from rfl)]); (first | exact dp_0 rfl ((ay_e i12_9 (by omega)).mp (by omega)) rfl | exact dp_1 rfl (fun q => absurd ((ay_e i12_9 (by omega)).mpr q) (by omega)) i12_8 (by omega))), ht⟩) (fun q h => by cases h) dX10_partsMost_162
      · have dc1 : y12_5.toInt < 61 := nleC (show (61 : Int32).toInt = 61 from rfl) rfl c1
        refine lv_iconst (v := 0) hx hb dX10_partsMost_19 (by decide) ?_
        refine lv_istore (lv' := [(6, .int 0), (0, .ref (b 39)), (1, .int pp), (2, .int y12_2), (3, .int y12_3), (4, .int y12_4), (5, .int y12_5)]) hx hb dX10_partsMost_20 hl (by decide) rfl (fun ls hl => ?_)
        refine lv_iconst (v := 0) hx hb dX10_partsMost_22 (by decide) ?_
        refine lv_istore (lv' := [(7, .int 0), (6, .int 0), (0, .ref (b 39)), (1, .int pp), (2, .int y12_2), (3, .int y12_3), (4, .int y12_4), (5, .int y12_5)]) hx hb dX10_partsMost_23 hl (by decide) rfl (fun ls hl => ?_)
        have L25 : ∀ (nn : Nat) (y25_4 : Int32) (y25_6 : Int32) (y25_7 : Int32) (ls : Array Slot), (0 ≤ (y25_7.toInt)) → ((y25_7.toInt) ≤ 81) → (0 ≤ (y25_4.toInt)) → ((y25_4.toInt) ≤ 4950) → (-81 ≤ (y25_6.toInt)) → ((y25_6.toInt) ≤ 81) → (0 - (y25_7.toInt) ≤ (y25_6.toInt)) → ((y25_6.toInt) ≤ (y25_7.toInt)) → ((y25_4.toInt) ≤ y12_4.toInt + (y25_7.toInt)) → ((y25_4.toInt) = y12_4.toInt + mayF (fun t => agW mand manr (nI t) (12 * pp.toInt).toNat (mans pp.toNatClampNeg).toInt.toNat) (mans pp.toNatClampNeg) ((y25_7.toInt)).toNat) → ((y25_6.toInt) = unF (fun t => agW mand manr (nI t) (12 * pp.toInt).toNat (mans pp.toNatClampNeg).toInt.toNat) (mans pp.toNatClampNeg) y12_5 ((y25_7.toInt)).toNat) → (81 - (y25_7.toInt)).toNat < nn → lv_has ls 9 [(0, .ref (b 39)), (1, .int pp), (2, .int y12_2), (3, .int y12_3), (4, .int y25_4), (5, .int y12_5), (6, .int y25_6), (7, .int y25_7)] → W p l e (headSpec wsX10_partsMost { frames := 2, cells := 0, slots := 0, locals := 45 }).room s m ([.ref (b 39), .int pp] : List Value).toArray below meth c s.heap [] 0 0 (MQ below (QR (fun r : Int32 => (r.toInt = dpF (fun t => agW mand manr (nI t) (12 * pp.toInt).toNat (mans pp.toNatClampNeg).toInt.toNat) (mans pp.toNatClampNeg) 1000))) ([.ref (b 39), .int pp] : List Value).toArray s 0 0 (fun _ => False)) (F0 m 25 ls []) := by
          intro nn
          induction nn with
          | zero =>
            intro y25_4 y25_6 y25_7 ls i25_0 i25_1 i25_2 i25_3 i25_4 i25_5 i25_6 i25_7 i25_8 i25_9 i25_10 hm25
            exact absurd hm25 (Nat.not_lt_zero _)
          | succ nn ih25 =>
            intro y25_4 y25_6 y25_7 ls i25_0 i25_1 i25_2 i25_3 i25_4 i25_5 i25_6 i25_7 i25_8 i25_9 i25_10 hm25 hl
            refine lv_iload hx hb dX10_partsMost_25 (lv_at hl 7 rfl) ?_
            refine lv_bipush (v := 81) hx hb dX10_partsMost_27 (by decide) ?_
            refine lv_icmp_ge (tgt := 105) hx hb dX10_partsMost_29 (by decide) (fun c3 => ?_) (fun c3 => ?_)
            · have dc3 : 81 ≤ y25_7.toInt := leC (show (81 : Int32).toInt = 81 from rfl) rfl c3
              have L120 : ∀ (y120_6 : Int32) (ls : Array Slot), ((y120_6.toInt) = ofF (fun t => agW mand manr (nI t) (12 * pp.toInt).toNat (mans pp.toNatClampNeg).toInt.toNat) (mans pp.toNatClampNeg) y12_5) → (0 ≤ (y120_6.toInt)) → ((y120_6.toInt) ≤ 81) → lv_has ls 9 [(0, .ref (b 39)), (1, .int pp), (2, .int y12_2), (3, .int y12_3), (4, .int y25_4), (5, .int y12_5), (6, .int y120_6)] → W p l e (headSpec wsX10_partsMost { frames := 2, cells := 0, slots := 0, locals := 45 }).room s m ([.ref (b 39), .int pp] : List Value).toArray below meth c s.heap [] 0 0 (MQ below (QR (fun r : Int32 => (r.toInt = dpF (fun t => agW mand manr (nI t) (12 * pp.toInt).toNat (mans pp.toNatClampNeg).toInt.toNat) (mans pp.toNatClampNeg) 1000))) ([.ref (b 39), .int pp] : List Value).toArray s 0 0 (fun _ => False)) (F0 m 120 ls []) := by
                intro y120_6 ls i120_0 i120_1 i120_2 hl
                refine lv_iload hx hb dX10_partsMost_120 (lv_at hl 6 rfl) ?_
                refine lv_iload_n hx hb dX10_partsMost_122 rfl (lv_at hl 3 rfl) ?_
                refine lv_icmp_ge (tgt := 131) hx hb dX10_partsMost_123 (by decide) (fun c4 => ?_) (fun c4 => ?_)
                · have dc4 : y12_3.toInt ≤ y120_6.toInt := leC rfl rfl c4
                  refine lv_iload_n hx hb dX10_partsMost_131 rfl (lv_at hl 2 rfl) ?_
                  refine lv_istore_n (lv' := [(2, .int y12_2), (0, .ref (b 39)), (1, .int pp), (3, .int y12_3), (4, .int y25_4), (5, .int y12_5), (6, .int y120_6)]) hx hb dX10_partsMost_132 rfl hl (by decide) rfl (fun ls hl => ?_)
                  refine lv_iload hx hb dX10_partsMost_133 (lv_at hl 6 rfl) ?_
                  refine lv_iload_n hx hb dX10_partsMost_135 rfl (lv_at hl 3 rfl) ?_
                  refine lv_icmp_ge (tgt := 144) hx hb dX10_partsMost_136 (by decide) (fun c5 => ?_) (fun c5 => ?_)
                  · have dc5 : y12_3.toInt ≤ y120_6.toInt := leC rfl rfl c5
                    refine lv_iload_n hx hb dX10_partsMost_144 rfl (lv_at hl 3 rfl) ?_
                    refine lv_istore_n (lv' := [(3, .int y12_3), (2, .int y12_2), (0, .ref (b 39)), (1, .int pp), (4, .int y25_4), (5, .int y12_5), (6, .int y120_6)]) hx hb dX10_partsMost_145 rfl hl (by decide) rfl (fun ls hl => ?_)
                    obtain ⟨z6, ez6⟩ : ∃ y : Int32, y = y12_5 + 1 := ⟨_, rfl⟩
                    have iz6 : z6.toInt = y12_5.toInt + 1 := by rw [ez6]; exact addC rfl rfl (by omega) (by omega)
                    refine lv_iinc (v := z6) (lv' := [(5, .int z6), (3, .int y12_3), (2, .int y12_2), (0, .ref (b 39)), (1, .int pp), (4, .int y25_4), (6, .int y120_6)]) hx hb dX10_partsMost_146 hl (k := 5) rfl (by rw [ez6]; rfl) (by decide) rfl (fun ls hl => ?_)
                    refine lv_goto (tgt := 12) hx hb dX10_partsMost_149 (by decide) ?_
                    exact ih12 y12_2 y12_3 y25_4 z6 _ (by omega) (by omega) (by omega) (by omega) (by omega) (by omega) (by omega) (by omega) (by (first | exact fd_y (d := y12_5) i12_8 (by omega) rfl i120_0 (by omega) (by omega) | exact fd_n (d := y12_5) i12_8 (by omega) i120_0 (by omega) (by omega) | (exfalso; omega) | exact fd_0 (by first | rfl | omega) (by first | rfl | omega) (by first | rfl | omega))) (by (first | exact ay_s i12_9 i25_9 (by omega) (by omega) (by omega) | exact ay_0 (by first | rfl | omega) (by first | rfl | omega))) (by omega) (by omega) (lv_sub hl [3, 4, 2, 1, 5, 0] rfl)
                  · have dc5 : y120_6.toInt < y12_3.toInt := nleC rfl rfl c5
                    refine lv_iload hx hb dX10_partsMost_139 (lv_at hl 6 rfl) ?_
                    refine lv_goto (tgt := 145) hx hb dX10_partsMost_141 (by decide) ?_
                    refine lv_istore_n (lv' := [(3, .int y120_6), (2, .int y12_2), (0, .ref (b 39)), (1, .int pp), (4, .int y25_4), (5, .int y12_5), (6, .int y120_6)]) hx hb dX10_partsMost_145 rfl hl (by decide) rfl (fun ls hl => ?_)
                    obtain ⟨z7, ez7⟩ : ∃ y : Int32, y = y12_5 + 1 := ⟨_, rfl⟩
                    have iz7 : z7.toInt = y12_5.toInt + 1 := by rw [ez7]; exact addC rfl rfl (by omega) (by omega)
                    refine lv_iinc (v := z7) (lv' := [(5, .int z7), (3, .int y120_6), (2, .int y12_2), (0, .ref (b 39)), (1, .int pp), (4, .int y25_4), (6, .int y120_6)]) hx hb dX10_partsMost_146 hl (k := 5) rfl (by rw [ez7]; rfl) (by decide) rfl (fun ls hl => ?_)
                    refine lv_goto (tgt := 12) hx hb dX10_partsMost_149 (by decide) ?_
                    exact ih12 y12_2 y120_6 y25_4 z7 _ (by omega) (by omega) (by omega) (by omega) (by omega) (by omega) (by omega) (by omega) (by (first | exact fd_y (d := y12_5) i12_8 (by omega) rfl i120_0 (by omega) (by omega) | exact fd_n (d := y12_5) i12_8 (by omega) i120_0 (by omega) (by omega) | (exfalso; omega) | exact fd_0 (by first | rfl | omega) (by first | rfl | omega) (by first | rfl | omega))) (by (first | exact ay_s i12_9 i25_9 (by omega) (by omega) (by omega) | exact ay_0 (by first | rfl | omega) (by first | rfl | omega))) (by omega) (by omega) (lv_sub hl [3, 4, 2, 1, 5, 0] rfl)
                · have dc4 : y120_6.toInt < y12_3.toInt := nleC rfl rfl c4
                  refine lv_iload hx hb dX10_partsMost_126 (lv_at hl 5 rfl) ?_
                  refine lv_goto (tgt := 132) hx hb dX10_partsMost_128 (by decide) ?_
                  refine lv_istore_n (lv' := [(2, .int y12_5), (0, .ref (b 39)), (1, .int pp), (3, .int y12_3), (4, .int y25_4), (5, .int y12_5), (6, .int y120_6)]) hx hb dX10_partsMost_132 rfl hl (by decide) rfl (fun ls hl => ?_)
                  refine lv_iload hx hb dX10_partsMost_133 (lv_at hl 6 rfl) ?_
                  refine lv_iload_n hx hb dX10_partsMost_135 rfl (lv_at hl 3 rfl) ?_
                  refine lv_icmp_ge (tgt := 144) hx hb dX10_partsMost_136 (by decide) (fun c8 => ?_) (fun c8 => ?_)
                  · have dc8 : y12_3.toInt ≤ y120_6.toInt := leC rfl rfl c8
                    refine lv_iload_n hx hb dX10_partsMost_144 rfl (lv_at hl 3 rfl) ?_
                    refine lv_istore_n (lv' := [(3, .int y12_3), (2, .int y12_5), (0, .ref (b 39)), (1, .int pp), (4, .int y25_4), (5, .int y12_5), (6, .int y120_6)]) hx hb dX10_partsMost_145 rfl hl (by decide) rfl (fun ls hl => ?_)
                    obtain ⟨z9, ez9⟩ : ∃ y : Int32, y = y12_5 + 1 := ⟨_, rfl⟩
                    have iz9 : z9.toInt = y12_5.toInt + 1 := by rw [ez9]; exact addC rfl rfl (by omega) (by omega)
                    refine lv_iinc (v := z9) (lv' := [(5, .int z9), (3, .int y12_3), (2, .int y12_5), (0, .ref (b 39)), (1, .int pp), (4, .int y25_4), (6, .int y120_6)]) hx hb dX10_partsMost_146 hl (k := 5) rfl (by rw [ez9]; rfl) (by decide) rfl (fun ls hl => ?_)
                    refine lv_goto (tgt := 12) hx hb dX10_partsMost_149 (by decide) ?_
                    exact ih12 y12_5 y12_3 y25_4 z9 _ (by omega) (by omega) (by omega) (by omega) (by omega) (by omega) (by omega) (by omega) (by (first | exact fd_y (d := y12_5) i12_8 (by omega) rfl i120_0 (by omega) (by omega) | exact fd_n (d := y12_5) i12_8 (by omega) i120_0 (by omega) (by omega) | (exfalso; omega) | exact fd_0 (by first | rfl | omega) (by first | rfl | omega) (by first | rfl | omega))) (by (first | exact ay_s i12_9 i25_9 (by omega) (by omega) (by omega) | exact ay_0 (by first | rfl | omega) (by first | rfl | omega))) (by omega) (by omega) (lv_sub hl [3, 4, 2, 1, 5, 0] rfl)
                  · have dc8 : y120_6.toInt < y12_3.toInt := nleC rfl rfl c8
                    refine lv_iload hx hb dX10_partsMost_139 (lv_at hl 6 rfl) ?_
                    refine lv_goto (tgt := 145) hx hb dX10_partsMost_141 (by decide) ?_
                    refine lv_istore_n (lv' := [(3, .int y120_6), (2, .int y12_5), (0, .ref (b 39)), (1, .int pp), (4, .int y25_4), (5, .int y12_5), (6, .int y120_6)]) hx hb dX10_partsMost_145 rfl hl (by decide) rfl (fun ls hl => ?_)
                    obtain ⟨z10, ez10⟩ : ∃ y : Int32, y = y12_5 + 1 := ⟨_, rfl⟩
                    have iz10 : z10.toInt = y12_5.toInt + 1 := by rw [ez10]; exact addC rfl rfl (by omega) (by omega)
                    refine lv_iinc (v := z10) (lv' := [(5, .int z10), (3, .int y120_6), (2, .int y12_5), (0, .ref (b 39)), (1, .int pp), (4, .int y25_4), (6, .int y120_6)]) hx hb dX10_partsMost_146 hl (k := 5) rfl (by rw [ez10]; rfl) (by decide) rfl (fun ls hl => ?_)
                    refine lv_goto (tgt := 12) hx hb dX10_partsMost_149 (by decide) ?_
                    exact ih12 y12_5 y120_6 y25_4 z10 _ (by omega) (by omega) (by omega) (by omega) (by omega) (by omega) (by omega) (by omega) (by (first | exact fd_y (d := y12_5) i12_8 (by omega) rfl i120_0 (by omega) (by omega) | exact fd_n (d := y12_5) i12_8 (by omega) i120_0 (by omega) (by omega) | (exfalso; omega) | exact fd_0 (by first | rfl | omega) (by first | rfl | omega) (by first | rfl | omega))) (by (first | exact ay_s i12_9 i25_9 (by omega) (by omega) (by omega) | exact ay_0 (by first | rfl | omega) (by first | rfl | omega))) (by omega) (by omega) (lv_sub hl [3, 4, 2, 1, 5, 0] rfl)
              refine lv_iload hx hb dX10_partsMost_105 (lv_at hl 6 rfl) ?_
              refine lv_if_ge (tgt := 116) hx hb dX10_partsMost_107 (by decide) (fun c11 => ?_) (fun c11 => ?_)
              · have dc11 : 0 ≤ y25_6.toInt := leC (show (0 : Int32).toInt = 0 from rfl) rfl c11
                refine lv_iload hx hb dX10_partsMost_116 (lv_at hl 6 rfl) ?_
                refine lv_istore (lv' := [(6, .int y25_6), (0, .ref (b 39)), (1, .int pp), (2, .int y12_2), (3, .int y12_3), (4, .int y25_4), (5, .int y12_5), (7, .int y25_7)]) hx hb dX10_partsMost_118 hl (by decide) rfl (fun ls hl => ?_)
                exact L120 y25_6 _ (by (exact of_e i25_10 (by omega) (by omega))) (by omega) (by omega) (lv_sub hl [1, 2, 3, 4, 5, 6, 0] rfl)
              · have dc11 : y25_6.toInt < 0 := nleC (show (0 : Int32).toInt = 0 from rfl) rfl c11
                refine lv_iload hx hb dX10_partsMost_110 (lv_at hl 6 rfl) ?_
                refine lv_ineg hx hb dX10_partsMost_112 ?_
                have f12 : (-y25_6).toInt = -(y25_6.toInt) := negC rfl (by omega) (by omega)
                refine lv_goto (tgt := 118) hx hb dX10_partsMost_113 (by decide) ?_
                refine lv_topi (fun x13 ex13 => ?_)
                have ix13 : x13.toInt = -(y25_6.toInt) := by rw [ex13]; exact f12
                refine lv_istore (lv' := [(6, .int x13), (0, .ref (b 39)), (1, .int pp), (2, .int y12_2), (3, .int y12_3), (4, .int y25_4), (5, .int y12_5), (7, .int y25_7)]) hx hb dX10_partsMost_118 hl (by decide) rfl (fun ls hl => ?_)
                exact L120 x13 _ (by (exact of_e i25_10 (by omega) (by omega))) (by omega) (by omega) (lv_sub hl [1, 2, 3, 4, 5, 6, 0] rfl)
            · have dc3 : y25_7.toInt < 81 := nleC (show (81 : Int32).toInt = 81 from rfl) rfl c3
              refine lv_aload_n hx hb dX10_partsMost_32 rfl (lv_at hl 0 rfl) ?_
              refine lv_iload_n hx hb dX10_partsMost_33 rfl (lv_at hl 1 rfl) ?_
              refine lv_iload hx hb dX10_partsMost_34 (lv_at hl 7 rfl) ?_
              refine rdV (As := [.int pp, .int y25_7]) (rest := []) ⟨hx, hb, hml, hown, hts⟩ (k_X10_agrees2 l dC dI cI cZ cQ b mday mdoo mdA mdB mfar mmar mtel mgai mfal mtop mstr mgho mfai mpto mwal mahd mahf mcho mbes mbyt mtxt mpos mtka mtok mdig mnum mfau mrdm mrea mlin mlne mthg mord mbor mbsm mans mand manr mali pp y25_7 r_mday r_mdoo r_mdA r_mdB r_mmar r_mgai r_mfal r_mtop r_mstr r_mgho r_mfai r_mahd r_mahf r_mcho r_mbyt r_mpos r_mrdm r_mlin r_mthg r_mord r_mans (by omega) (by omega) (by omega) (by omega)) (cwV 2 hts gX10_partsMost_X10_agrees rfl rfl rfl (by decide +kernel) ⟨Nat.le_of_ble_eq_true rfl, Nat.le_of_ble_eq_true rfl⟩) hP hK hN [0, 1, 2, 3, 4, 5, 6, 7, 8, 9, 10, 11, 12, 13, 14, 15, 16, 17, 18, 19, 20, 21, 22, 23, 24, 25] rfl 0 10 rfl rfl rfl hl.1 rfl (Nat.le_of_ble_eq_true rfl) dX10_partsMost_36 ⟨Nat.le_of_ble_eq_true rfl, Nat.le_of_ble_eq_true rfl⟩ (fun r14 h15 => ?_)
              have h15 : (r14 = agW mand manr y25_7 (12 * pp.toInt).toNat (mans pp.toNatClampNeg).toInt.toNat) := h15
              have h15_0 := h15
              have L53 : ∀ (t53_0 : Int32) (ls : Array Slot), ((t53_0 = 1 ∧ (fun t => agW mand manr (nI t) (12 * pp.toInt).toNat (mans pp.toNatClampNeg).toInt.toNat) y25_7.toNatClampNeg = (mans pp.toNatClampNeg)) ∨ (t53_0 = 0 ∧ ¬ (fun t => agW mand manr (nI t) (12 * pp.toInt).toNat (mans pp.toNatClampNeg).toInt.toNat) y25_7.toNatClampNeg = (mans pp.toNatClampNeg))) → lv_has ls 9 [(0, .ref (b 39)), (1, .int pp), (2, .int y12_2), (3, .int y12_3), (4, .int y25_4), (5, .int y12_5), (6, .int y25_6), (7, .int y25_7)] → W p l e (headSpec wsX10_partsMost { frames := 2, cells := 0, slots := 0, locals := 45 }).room s m ([.ref (b 39), .int pp] : List Value).toArray below meth c s.heap [] 0 0 (MQ below (QR (fun r : Int32 => (r.toInt = dpF (fun t => agW mand manr (nI t) (12 * pp.toInt).toNat (mans pp.toNatClampNeg).toInt.toNat) (mans pp.toNatClampNeg) 1000))) ([.ref (b 39), .int pp] : List Value).toArray s 0 0 (fun _ => False)) (F0 m 53 ls [.int t53_0]) := by
                intro t53_0 ls i53_0 hl
                refine lv_istore (lv' := [(8, .int t53_0), (0, .ref (b 39)), (1, .int pp), (2, .int y12_2), (3, .int y12_3), (4, .int y25_4), (5, .int y12_5), (6, .int y25_6), (7, .int y25_7)]) hx hb dX10_partsMost_53 hl (by decide) rfl (fun ls hl => ?_)
                have L70 : ∀ (y70_4 : Int32) (ls : Array Slot), (0 ≤ (y70_4.toInt)) → ((y70_4.toInt) ≤ 4950) → ((y70_4.toInt) ≤ y12_4.toInt + (y25_7.toInt) + 1) → ((y70_4.toInt) = y12_4.toInt + mayF (fun t => agW mand manr (nI t) (12 * pp.toInt).toNat (mans pp.toNatClampNeg).toInt.toNat) (mans pp.toNatClampNeg) ((y25_7.toInt) + 1).toNat) → lv_has ls 9 [(0, .ref (b 39)), (1, .int pp), (2, .int y12_2), (3, .int y12_3), (4, .int y70_4), (5, .int y12_5), (6, .int y25_6), (7, .int y25_7), (8, .int t53_0)] → W p l e (headSpec wsX10_partsMost { frames := 2, cells := 0, slots := 0, locals := 45 }).room s m ([.ref (b 39), .int pp] : List Value).toArray below meth c s.heap [] 0 0 (MQ below (QR (fun r : Int32 => (r.toInt = dpF (fun t => agW mand manr (nI t) (12 * pp.toInt).toNat (mans pp.toNatClampNeg).toInt.toNat) (mans pp.toNatClampNeg) 1000))) ([.ref (b 39), .int pp] : List Value).toArray s 0 0 (fun _ => False)) (F0 m 70 ls []) := by
                  intro y70_4 ls i70_0 i70_1 i70_2 i70_3 hl
                  have L99 : ∀ (y99_6 : Int32) (ls : Array Slot), (-81 ≤ (y99_6.toInt)) → ((y99_6.toInt) ≤ 81) → (0 - (y25_7.toInt) - 1 ≤ (y99_6.toInt)) → ((y99_6.toInt) ≤ (y25_7.toInt) + 1) → ((y99_6.toInt) = unF (fun t => agW mand manr (nI t) (12 * pp.toInt).toNat (mans pp.toNatClampNeg).toInt.toNat) (mans pp.toNatClampNeg) y12_5 ((y25_7.toInt) + 1).toNat) → lv_has ls 9 [(0, .ref (b 39)), (1, .int pp), (2, .int y12_2), (3, .int y12_3), (4, .int y70_4), (5, .int y12_5), (6, .int y99_6), (7, .int y25_7)] → W p l e (headSpec wsX10_partsMost { frames := 2, cells := 0, slots := 0, locals := 45 }).room s m ([.ref (b 39), .int pp] : List Value).toArray below meth c s.heap [] 0 0 (MQ below (QR (fun r : Int32 => (r.toInt = dpF (fun t => agW mand manr (nI t) (12 * pp.toInt).toNat (mans pp.toNatClampNeg).toInt.toNat) (mans pp.toNatClampNeg) 1000))) ([.ref (b 39), .int pp] : List Value).toArray s 0 0 (fun _ => False)) (F0 m 99 ls []) := by
                    intro y99_6 ls i99_0 i99_1 i99_2 i99_3 i99_4 hl
                    obtain ⟨z16, ez16⟩ : ∃ y : Int32, y = y25_7 + 1 := ⟨_, rfl⟩
                    have iz16 : z16.toInt = y25_7.toInt + 1 := by rw [ez16]; exact addC rfl rfl (by omega) (by omega)
                    refine lv_iinc (v := z16) (lv' := [(7, .int z16), (0, .ref (b 39)), (1, .int pp), (2, .int y12_2), (3, .int y12_3), (4, .int y70_4), (5, .int y12_5), (6, .int y99_6)]) hx hb dX10_partsMost_99 hl (k := 7) rfl (by rw [ez16]; rfl) (by decide) rfl (fun ls hl => ?_)
                    refine lv_goto (tgt := 25) hx hb dX10_partsMost_102 (by decide) ?_
                    exact ih25 y70_4 y99_6 z16 _ (by omega) (by omega) (by omega) (by omega) (by omega) (by omega) (by omega) (by omega) (by omega) (by (first | exact i70_3 | (rw [show (0 : Int32).toInt.toNat = 0 from rfl]; show _ = _ + 0; omega) | exact cast70 i70_3 (by omega))) (by (first | exact cast99 i99_4 (by omega) | exact un_0 (by first | rfl | omega) (by first | rfl | omega))) (by omega) (lv_sub hl [1, 2, 3, 4, 5, 6, 7, 0] rfl)
                  refine lv_iload hx hb dX10_partsMost_70 (lv_at hl 6 rfl) ?_
                  refine lv_iload hx hb dX10_partsMost_72 (lv_at hl 8 rfl) ?_
                  refine lv_if_eq (tgt := 95) hx hb dX10_partsMost_74 (by decide) (fun c17 => ?_) (fun c17 => ?_)
                  · have dc17 : t53_0.toInt = 0 := eqC rfl (show (0 : Int32).toInt = 0 from rfl) c17
                    refine lv_iconst (v := 0) hx hb dX10_partsMost_95 (by decide) ?_
                    refine lv_iadd hx hb dX10_partsMost_96 ?_
                    have f18 : (y25_6 + 0).toInt = (y25_6.toInt) + (0) := addC rfl (show (0 : Int32).toInt = 0 from rfl) (by omega) (by omega)
                    refine lv_topi (fun x19 ex19 => ?_)
                    have ix19 : x19.toInt = (y25_6.toInt) + (0) := by rw [ex19]; exact f18
                    refine lv_istore (lv' := [(6, .int x19), (0, .ref (b 39)), (1, .int pp), (2, .int y12_2), (3, .int y12_3), (4, .int y70_4), (5, .int y12_5), (7, .int y25_7), (8, .int t53_0)]) hx hb dX10_partsMost_97 hl (by decide) rfl (fun ls hl => ?_)
                    exact L99 x19 _ (by omega) (by omega) (by omega) (by omega) (by (exact un_sG (o := y25_7) i25_10 i53_0 (by omega) (by first | exact Or.inl ⟨by assumption, Or.inl ⟨by assumption, by omega⟩⟩ | exact Or.inl ⟨by assumption, Or.inr ⟨by assumption, by omega⟩⟩ | exact Or.inr ⟨by assumption, by omega⟩) (by omega))) (lv_sub hl [1, 2, 3, 4, 5, 6, 0, 7] rfl)
                  · have dc17 : t53_0.toInt ≠ 0 := neC rfl (show (0 : Int32).toInt = 0 from rfl) c17
                    refine lv_iload hx hb dX10_partsMost_77 (lv_at hl 7 rfl) ?_
                    refine lv_iload hx hb dX10_partsMost_79 (lv_at hl 5 rfl) ?_
                    refine rdS (As := [.int y25_7, .int y12_5]) (rest := [.int y25_6]) ⟨hx, hb, hml, hown, hts⟩ (k_X10_isRight2 l dC dI cI cZ cQ y25_7 y12_5 (by omega) (by omega)) (va_cwS 2 hts gX10_partsMost_X10_isRight rfl rfl rfl (by decide +kernel) ⟨Nat.le_of_ble_eq_true rfl, Nat.le_of_ble_eq_true rfl⟩) hP hK hN [] rfl rfl hl.1 rfl (Nat.le_of_ble_eq_true rfl) dX10_partsMost_81 ⟨Nat.le_of_ble_eq_true rfl, Nat.le_of_ble_eq_true rfl⟩ (fun r20 h21 => ?_)
                    have h21 : ((((r20 = 1) ∧ (sayW y25_7 y12_5 = true)) ∨ ((r20 = 0) ∧ (sayW y25_7 y12_5 = false)))) := h21
                    rcases h21 with (⟨rfl, h21_a0⟩ | ⟨rfl, h21_a0⟩)
                    · refine lv_if_eq (tgt := 91) hx hb dX10_partsMost_84 (by decide) (fun c9 => absurd c9 (by decide)) (fun _ => ?_)
                      refine lv_iconst (v := 1) hx hb dX10_partsMost_87 (by decide) ?_
                      refine lv_goto (tgt := 96) hx hb dX10_partsMost_88 (by decide) ?_
                      refine lv_iadd hx hb dX10_partsMost_96 ?_
                      have f22 : (y25_6 + 1).toInt = (y25_6.toInt) + (1) := addC rfl (show (1 : Int32).toInt = 1 from rfl) (by omega) (by omega)
                      refine lv_topi (fun x23 ex23 => ?_)
                      have ix23 : x23.toInt = (y25_6.toInt) + (1) := by rw [ex23]; exact f22
                      refine lv_istore (lv' := [(6, .int x23), (0, .ref (b 39)), (1, .int pp), (2, .int y12_2), (3, .int y12_3), (4, .int y70_4), (5, .int y12_5), (7, .int y25_7), (8, .int t53_0)]) hx hb dX10_partsMost_97 hl (by decide) rfl (fun ls hl => ?_)
                      exact L99 x23 _ (by omega) (by omega) (by omega) (by omega) (by (exact un_sG (o := y25_7) i25_10 i53_0 (by omega) (by first | exact Or.inl ⟨by assumption, Or.inl ⟨by assumption, by omega⟩⟩ | exact Or.inl ⟨by assumption, Or.inr ⟨by assumption, by omega⟩⟩ | exact Or.inr ⟨by assumption, by omega⟩) (by omega))) (lv_sub hl [1, 2, 3, 4, 5, 6, 0, 7] rfl)
                    · refine lv_if_eq (tgt := 91) hx hb dX10_partsMost_84 (by decide) (fun _ => ?_) (fun c9 => absurd (by decide) c9)
                      refine lv_iconst (v := (-1)) hx hb dX10_partsMost_91 (by decide) ?_
                      refine lv_goto (tgt := 96) hx hb dX10_partsMost_92 (by decide) ?_
                      refine lv_iadd hx hb dX10_partsMost_96 ?_
                      refine lv_topi (fun x24 ex24 => ?_)
                      have ix24 : x24.toInt = (y25_6.toInt) + ((-1)) := by rw [ex24]; exact addC rfl (show ((-1) : Int32).toInt = (-1) from rfl) (by omega) (by omega)
                      refine lv_istore (lv' := [(6, .int x24), (0, .ref (b 39)), (1, .int pp), (2, .int y12_2), (3, .int y12_3), (4, .int y70_4), (5, .int y12_5), (7, .int y25_7), (8, .int t53_0)]) hx hb dX10_partsMost_97 hl (by decide) rfl (fun ls hl => ?_)
                      exact L99 x24 _ (by omega) (by omega) (by omega) (by omega) (by (exact un_sG (o := y25_7) i25_10 i53_0 (by omega) (by first | exact Or.inl ⟨by assumption, Or.inl ⟨by assumption, by omega⟩⟩ | exact Or.inl ⟨by assumption, Or.inr ⟨by assumption, by omega⟩⟩ | exact Or.inr ⟨by assumption, by omega⟩) (by omega))) (lv_sub hl [1, 2, 3, 4, 5, 6, 0, 7] rfl)
                refine lv_iload hx hb dX10_partsMost_55 (lv_at hl 5 rfl) ?_
                refine lv_iload hx hb dX10_partsMost_57 (lv_at hl 0 rfl) ?_
                refine lv_if_eq (tgt := 66) hx hb dX10_partsMost_59 (by decide) (fun c25 => ?_) (fun c25 => ?_)
                · have dc25 : t53_0.toInt = 0 := eqC rfl (show (0 : Int32).toInt = 0 from rfl) c25
                  refine lv_iconst (v := 0) hx hb dX10_partsMost_66 (by decide) ?_
                  refine lv_iadd hx hb dX10_partsMost_67 ?_
                  have f26 : (y25_4 + 0).toInt = (y25_4.toInt) + (0) := addC rfl (show (0 : Int32).toInt = 0 from rfl) (by omega) (by omega)
                  refine lv_topi (fun x27 ex27 => ?_)
                  have ix27 : x27.toInt = (y25_4.toInt) + (0) := by rw [ex27]; exact f26
                  refine lv_istore (lv' := [(4, .int x27), (8, .int t53_0), (0, .ref (b 39)), (1, .int pp), (2, .int y12_2), (3, .int y12_3), (5, .int y12_5), (6, .int y25_6), (7, .int y25_7)]) hx hb dX10_partsMost_68 hl (by decide) rfl (fun ls hl => ?_)
                  exact L70 x27 _ (by omega) (by omega) (by omega) (by (exact my_sF (o := y25_7) i25_9 i53_0 (by first | exact clC (x := y25_7) rfl | (rw [clC (x := y25_7) rfl]; omega)) (by first | exact Or.inl ⟨by assumption, by omega⟩ | exact Or.inr ⟨by assumption, by omega⟩) (by omega))) (lv_sub hl [2, 3, 4, 5, 0, 6, 7, 8, 1] rfl)
                · have dc25 : t53_0.toInt ≠ 0 := neC rfl (show (0 : Int32).toInt = 0 from rfl) c25
                  refine lv_iconst (v := 1) hx hb dX10_partsMost_62 (by decide) ?_
                  refine lv_goto (tgt := 67) hx hb dX10_partsMost_63 (by decide) ?_
                  refine lv_iadd hx hb dX10_partsMost_67 ?_
                  have f28 : (y25_4 + 1).toInt = (y25_4.toInt) + (1) := addC rfl (show (1 : Int32).toInt = 1 from rfl) (by omega) (by omega)
                  refine lv_topi (fun x29 ex29 => ?_)
                  have ix29 : x29.toInt = (y25_4.toInt) + (1) := by rw [ex29]; exact f28
                  refine lv_istore (lv' := [(4, .int x29), (8, .int t53_0), (0, .ref (b 39)), (1, .int pp), (2, .int y12_2), (3, .int y12_3), (5, .int y12_5), (6, .int y25_6), (7, .int y25_7)]) hx hb dX10_partsMost_68 hl (by decide) rfl (fun ls hl => ?_)
                  exact L70 x29 _ (by omega) (by omega) (by omega) (by (exact my_sF (o := y25_7) i25_9 i53_0 (by first | exact clC (x := y25_7) rfl | (rw [clC (x := y25_7) rfl]; omega)) (by first | exact Or.inl ⟨by assumption, by omega⟩ | exact Or.inr ⟨by assumption, by omega⟩) (by omega))) (lv_sub hl [2, 3, 4, 5, 0, 6, 7, 8, 1] rfl)
              refine lv_aload_n hx hb dX10_partsMost_39 rfl (lv_at hl 0 rfl) ?_
              refine va_get (D := (dC, dI)) (ci := 10) (v := .ref (b 35)) (C := RX10) (T := TX10) (N := 39) hx hb hts inX10 hown hK hP 0 rfl rfl 35 (by decide) lf80 (fun _ h9 => h9) rfl dX10_partsMost_40 ?_
              refine lv_iload_n hx hb dX10_partsMost_43 rfl (lv_at hl 1 rfl) ?_
              have b30 : vp_in pp 4 := inC rfl (by omega) (by omega)
              refine va_iald hx hb hK hP 22 0 rfl rfl b30 dX10_partsMost_44 ?_
              have g31 : 0 ≤ (mans pp.toNatClampNeg).toInt ∧ (mans pp.toNatClampNeg).toInt ≤ 12 := rg_at r_mans b30
              refine lv_icmp_ne (tgt := 52) hx hb dX10_partsMost_45 (by decide) (fun c32 => ?_) (fun c32 => ?_)
              · have dc32 : r14.toInt ≠ (mans pp.toNatClampNeg).toInt := neC rfl rfl c32
                refine lv_iconst (v := 0) hx hb dX10_partsMost_52 (by decide) ?_
                have kc33 : (0 : Int32).toInt = 0 := rfl
                exact L53 0 _ (by (first | exact Or.inl ⟨rfl, (gg_at (by assumption) (by omega)).trans (by assumption)⟩ | exact Or.inr ⟨rfl, fun q => absurd ((gg_at (by assumption) (by omega)).symm.trans q) (by assumption)⟩)) (lv_sub hl [0, 1, 2, 3, 4, 5, 6, 7] rfl)
              · have dc32 : r14.toInt = (mans pp.toNatClampNeg).toInt := eqC rfl rfl c32
                refine lv_iconst (v := 1) hx hb dX10_partsMost_48 (by decide) ?_
                refine lv_goto (tgt := 53) hx hb dX10_partsMost_49 (by decide) ?_
                have kc34 : (1 : Int32).toInt = 1 := rfl
                exact L53 1 _ (by (first | exact Or.inl ⟨rfl, (gg_at (by assumption) (by omega)).trans (by assumption)⟩ | exact Or.inr ⟨rfl, fun q => absurd ((gg_at (by assumption) (by omega)).symm.trans q) (by assumption)⟩)) (lv_sub hl [0, 1, 2, 3, 4, 5, 6, 7] rfl)
        have kc35 : (0 : Int32).toInt = 0 := rfl
        exact L25 _ y12_4 0 0 _ (by omega) (by omega) (by omega) (by omega) (by omega) (by omega) (by omega) (by omega) (by omega) (by (first | exact i70_3 | (rw [show (0 : Int32).toInt.toNat = 0 from rfl]; show _ = _ + 0; omega) | exact cast70 i70_3 (by omega))) (by (first | exact cast99 i99_4 (by omega) | exact un_0 (by first | rfl | omega) (by first | rfl | omega))) (Nat.lt_succ_self _) (lv_sub hl [2, 3, 4, 5, 6, 7, 1, 0] rfl)
  have kc36 : ((-1) : Int32).toInt = -1 := rfl
  have kc37 : (1000 : Int32).toInt = 1000 := rfl
  have kc38 : (0 : Int32).toInt = 0 := rfl
  have kc39 : (1 : Int32).toInt = 1 := rfl
  exact L12 _ (-1) 1000 0 1 _ (by omega) (by omega) (by omega) (by omega) (by omega) (by omega) (by omega) (by omega) (by (first | exact fd_y (d := y12_5) i12_8 (by omega) rfl i120_0 (by omega) (by omega) | exact fd_n (d := y12_5) i12_8 (by omega) i120_0 (by omega) (by omega) | (exfalso; omega) | exact fd_0 (by first | rfl | omega) (by first | rfl | omega) (by first | rfl | omega))) (by (first | exact ay_s i12_9 i25_9 (by omega) (by omega) (by omega) | exact ay_0 (by first | rfl | omega) (by first | rfl | omega))) (by omega) (Nat.lt_succ_self _) (lv_sub hl [4, 5, 3, 2, 1, 0] rfl)
set_option maxHeartbeats 4000000 in
set_option maxRecDepth 100000 in
theorem k_X10_pupil2 (l : Launch) (dC : Nat → ClassId) (dI : Nat → Nat → Nat) (cI cZ cQ : ClassId) (b : Nat → Nat) (mday : Int32) (mdoo : Int32) (mdA : Nat → Int32) (mdB : Nat → Int32) (mfar : Nat → Int32) (mmar : Nat → Int32) (mtel : Int32) (mgai : Int32) (mfal : Nat → Int32) (mtop : Nat → Int32) (mstr : Nat → Int32) (mgho : Nat → Int32) (mfai : Nat → Int32) (mpto : Nat → Int32) (mwal : Nat → Int32) (mahd : Nat → Int32) (mahf : Nat → Int32) (mcho : Nat → Int32) (mbes : Nat → Int32) (mbyt : Int32) (mtxt : Nat → Int32) (mpos : Int32) (mtka : Int32) (mtok : Int64) (mdig : Int32) (mnum : Int32) (mfau : Int32) (mrdm : Int32) (mrea : Nat → Int32) (mlin : Int32) (mlne : Nat → Int32) (mthg : Nat → Int32) (mord : Nat → Int32) (mbor : Nat → Int32) (mbsm : Int32) (mans : Nat → Int32) (mand : Nat → Int32) (manr : Nat → Int32) (mali : Nat → Int32) (pp : Int32) (wh : Int32) (r_mday : 0 ≤ mday.toInt ∧ mday.toInt ≤ 400) (r_mdoo : 0 ≤ mdoo.toInt ∧ mdoo.toInt ≤ 14) (r_mdA : rg 14 (0) (7) mdA) (r_mdB : rg 14 (0) (7) mdB) (r_mmar : rg 24 (0) (255) mmar) (r_mgai : 0 ≤ mgai.toInt ∧ mgai.toInt ≤ 100) (r_mfal : rg 11 (0) (30) mfal) (r_mtop : rg 48 (-1) (23) mtop) (r_mstr : rg 48 (0) (100) mstr) (r_mgho : rg 48 (-1) (23) mgho) (r_mfai : rg 48 (0) (100) mfai) (r_mahd : rg 240 (0) (100) mahd) (r_mahf : rg 240 (0) (100) mahf) (r_mcho : rg 5 (-1) (9) mcho) (r_mbyt : 0 ≤ mbyt.toInt ∧ mbyt.toInt ≤ 160) (r_mpos : 0 ≤ mpos.toInt ∧ mpos.toInt ≤ 160) (r_mrdm : 0 ≤ mrdm.toInt ∧ mrdm.toInt ≤ 10) (r_mlin : 0 ≤ mlin.toInt ∧ mlin.toInt ≤ 10) (r_mthg : rg 8 (0) (31) mthg) (r_mord : rg 8 (-1) (8) mord) (r_mans : rg 4 (0) (12) mans) : KR l yX10_pupil wsX10_pupil { frames := 3, cells := 0, slots := 0, locals := 73 } (dC, dI) (TY cI cZ cQ) (wMod cI cZ cQ b mday mdoo mdA mdB mfar mmar mtel mgai mfal mtop mstr mgho mfai mpto mwal mahd mahf mcho mbes mbyt mtxt mpos mtka mtok mdig mnum mfau mrdm mrea mlin mlne mthg mord mbor mbsm mans mand manr mali) [.ref (b 39), .int pp, .int wh] (fun r : Int32 => (spPup (fun t => agW mand manr (nI t) (12 * pp.toInt).toNat (mans pp.toNatClampNeg).toInt.toNat) (mans pp.toNatClampNeg) 1000 pp wh r)) := by
  refine Met.ofW (cc := cX10_pupil) (maxL := 8) (ret := (some .int)) (by decide) rfl ?_
  intro p e s m args below meth c s₁ B hml hv
  obtain ⟨rfl, hP, hK, hN⟩ := hv
  have hx := B.exec
  have hb := B.bytes
  have hr := B.returns
  have hts := atoms_spec (ws := wsX10_pupil) B.pre
  have hown : s.vm.findClass RX10 = some m.cls := findClass_of_methodNamed B.named
  have hlocks := B.notSynchronized
  have lf80 := hts (.fieldLink RX10 80 "PalaceOfRoomsModel" "answers" "[I") (List.mem_cons_of_mem _ (List.mem_append_left _ (List.mem_of_getElem? (i := 0) rfl)))
  have inX10 : ∀ w ∈ wsX100, w ∈ wsX10_pupil := fun w h => List.mem_cons_of_mem _ (List.mem_append_right _ h)
  have hl := lv_entry ([.ref (b 39), .int pp, .int wh]) (n := 8) (Nat.le_of_ble_eq_true rfl)
  rw [lg_entry_eq]
  generalize (lg_sl ([.ref (b 39), .int pp, .int wh]) ++ List.replicate (8 - (lg_sl ([.ref (b 39), .int pp, .int wh])).length) Slot.unset).toArray = ls at hl ⊢
  have hl : lv_has ls 8 [(0, .ref (b 39)), (1, .int pp), (2, .int wh)] := hl
  refine lv_iload_n hx hb dX10_pupil_0 rfl (lv_at hl 1 rfl) ?_
  refine rdS (As := [.int pp]) (rest := []) ⟨hx, hb, hml, hown, hts⟩ (k_X10_isPupil l dC dI cI cZ cQ pp) (va_cwS 1 hts gX10_pupil_X10_isPupil rfl rfl rfl (by decide +kernel) ⟨Nat.le_of_ble_eq_true rfl, Nat.le_of_ble_eq_true rfl⟩) hP hK hN [] rfl rfl hl.1 rfl (Nat.le_of_ble_eq_true rfl) dX10_pupil_1 ⟨Nat.le_of_ble_eq_true rfl, Nat.le_of_ble_eq_true rfl⟩ (fun r1 h2 => ?_)
  have h2 : ((((r1 = 1) ∧ (0 ≤ pp.toInt) ∧ (pp.toInt ≤ 3)) ∨ ((r1 = 0) ∧ (pp.toInt < 0 ∨ 3 < pp.toInt)))) := h2
  rcases h2 with (⟨rfl, h2_a0, h2_a1⟩ | ⟨rfl, h2_a0⟩)
  · refine lv_if_ne (tgt := 10) hx hb dX10_pupil_4 (by decide) (fun _ => ?_) (fun c9 => absurd c9 (by decide))
    refine lv_iload_n hx hb dX10_pupil_10 rfl (lv_at hl 2 rfl) ?_
    refine lv_iconst (v := 0) hx hb dX10_pupil_11 (by decide) ?_
    refine lv_iconst (v := 3) hx hb dX10_pupil_12 (by decide) ?_
    refine rdS (As := [.int wh, .int 0, .int 3]) (rest := []) ⟨hx, hb, hml, hown, hts⟩ (k_X10_in l dC dI cI cZ cQ wh (0 : Int32) (3 : Int32)) (va_cwS 3 hts gX10_pupil_X10_in rfl rfl rfl (by decide +kernel) ⟨Nat.le_of_ble_eq_true rfl, Nat.le_of_ble_eq_true rfl⟩) hP hK hN [] rfl rfl hl.1 rfl (Nat.le_of_ble_eq_true rfl) dX10_pupil_13 ⟨Nat.le_of_ble_eq_true rfl, Nat.le_of_ble_eq_true rfl⟩ (fun r3 h4 => ?_)
    have h4 : ((((r3 = 1) ∧ ((0) ≤ wh.toInt) ∧ (wh.toInt ≤ (3))) ∨ ((r3 = 0) ∧ (wh.toInt < (0) ∨ (3) < wh.toInt)))) := h4
    rcases h4 with (⟨rfl, h4_a0, h4_a1⟩ | ⟨rfl, h4_a0⟩)
    · refine lv_if_ne (tgt := 22) hx hb dX10_pupil_16 (by decide) (fun _ => ?_) (fun c9 => absurd c9 (by decide))
      refine lv_iconst (v := 0) hx hb dX10_pupil_22 (by decide) ?_
      refine lv_istore_n (lv' := [(3, .int 0), (0, .ref (b 39)), (1, .int pp), (2, .int wh)]) hx hb dX10_pupil_23 rfl hl (by decide) rfl (fun ls hl => ?_)
      refine lv_iconst (v := 0) hx hb dX10_pupil_24 (by decide) ?_
      refine lv_istore (lv' := [(4, .int 0), (3, .int 0), (0, .ref (b 39)), (1, .int pp), (2, .int wh)]) hx hb dX10_pupil_25 hl (by decide) rfl (fun ls hl => ?_)
      refine lv_iconst (v := (-1)) hx hb dX10_pupil_27 (by decide) ?_
      refine lv_istore (lv' := [(5, .int (-1)), (4, .int 0), (3, .int 0), (0, .ref (b 39)), (1, .int pp), (2, .int wh)]) hx hb dX10_pupil_28 hl (by decide) rfl (fun ls hl => ?_)
      refine lv_iconst (v := 0) hx hb dX10_pupil_30 (by decide) ?_
      refine lv_istore (lv' := [(6, .int 0), (5, .int (-1)), (4, .int 0), (3, .int 0), (0, .ref (b 39)), (1, .int pp), (2, .int wh)]) hx hb dX10_pupil_31 hl (by decide) rfl (fun ls hl => ?_)
      have L33 : ∀ (nn : Nat) (y33_3 : Int32) (y33_4 : Int32) (y33_5 : Int32) (y33_6 : Int32) (ls : Array Slot), (0 ≤ (y33_6.toInt)) → ((y33_6.toInt) ≤ 81) → (0 ≤ (y33_3.toInt)) → ((y33_3.toInt) ≤ 81) → ((y33_3.toInt) ≤ (y33_6.toInt)) → (0 ≤ (y33_4.toInt)) → ((y33_4.toInt) ≤ 80) → ((y33_3.toInt) = mayF (fun t => agW mand manr (nI t) (12 * pp.toInt).toNat (mans pp.toNatClampNeg).toInt.toNat) (mans pp.toNatClampNeg) ((y33_6.toInt)).toNat) → (ppI (fun t => agW mand manr (nI t) (12 * pp.toInt).toNat (mans pp.toNatClampNeg).toInt.toNat) (y33_6.toInt) (y33_4.toInt) y33_5) → (81 - (y33_6.toInt)).toNat < nn → lv_has ls 8 [(0, .ref (b 39)), (1, .int pp), (2, .int wh), (3, .int y33_3), (4, .int y33_4), (5, .int y33_5), (6, .int y33_6)] → W p l e (headSpec wsX10_pupil { frames := 3, cells := 0, slots := 0, locals := 73 }).room s m ([.ref (b 39), .int pp, .int wh] : List Value).toArray below meth c s.heap [] 0 0 (MQ below (QR (fun r : Int32 => (spPup (fun t => agW mand manr (nI t) (12 * pp.toInt).toNat (mans pp.toNatClampNeg).toInt.toNat) (mans pp.toNatClampNeg) 1000 pp wh r))) ([.ref (b 39), .int pp, .int wh] : List Value).toArray s 0 0 (fun _ => False)) (F0 m 33 ls []) := by
        intro nn
        induction nn with
        | zero =>
          intro y33_3 y33_4 y33_5 y33_6 ls i33_0 i33_1 i33_2 i33_3 i33_4 i33_5 i33_6 i33_7 i33_8 hm33
          exact absurd hm33 (Nat.not_lt_zero _)
        | succ nn ih33 =>
          intro y33_3 y33_4 y33_5 y33_6 ls i33_0 i33_1 i33_2 i33_3 i33_4 i33_5 i33_6 i33_7 i33_8 hm33 hl
          have wma := r_mans pp.toNatClampNeg (by rw [clC (x := pp) rfl]; omega)
          refine lv_iload hx hb dX10_pupil_33 (lv_at hl 6 rfl) ?_
          refine lv_bipush (v := 81) hx hb dX10_pupil_35 (by decide) ?_
          refine lv_icmp_ge (tgt := 106) hx hb dX10_pupil_37 (by decide) (fun c5 => ?_) (fun c5 => ?_)
          · have dc5 : 81 ≤ y33_6.toInt := leC (show (81 : Int32).toInt = 81 from rfl) rfl c5
            have hp := pp_e i33_8 (by omega)
            refine lv_iload_n hx hb dX10_pupil_106 rfl (lv_at hl 2 rfl) ?_
            refine lv_if_ne (tgt := 114) hx hb dX10_pupil_107 (by decide) (fun c6 => ?_) (fun c6 => ?_)
            · have dc6 : 1 ≤ wh.toInt := ka_lo (by omega) (neC rfl (show (0 : Int32).toInt = 0 from rfl) c6)
              refine lv_iload_n hx hb dX10_pupil_114 rfl (lv_at hl 2 rfl) ?_
              refine lv_iconst (v := 1) hx hb dX10_pupil_115 (by decide) ?_
              refine lv_icmp_ne (tgt := 143) hx hb dX10_pupil_116 (by decide) (fun c7 => ?_) (fun c7 => ?_)
              · have dc7 : 2 ≤ wh.toInt := ka_lo (by omega) (neC rfl (show (1 : Int32).toInt = 1 from rfl) c7)
                refine lv_iload_n hx hb dX10_pupil_143 rfl (lv_at hl 2 rfl) ?_
                refine lv_iconst (v := 2) hx hb dX10_pupil_144 (by decide) ?_
                refine lv_icmp_ne (tgt := 153) hx hb dX10_pupil_145 (by decide) (fun c8 => ?_) (fun c8 => ?_)
                · have dc8 : 3 ≤ wh.toInt := ka_lo (by omega) (neC rfl (show (2 : Int32).toInt = 2 from rfl) c8)
                  refine lv_aload_n hx hb dX10_pupil_153 rfl (lv_at hl 0 rfl) ?_
                  refine lv_iload_n hx hb dX10_pupil_154 rfl (lv_at hl 1 rfl) ?_
                  refine rdV (As := [.int pp]) (rest := []) ⟨hx, hb, hml, hown, hts⟩ (k_X10_partsMost2 l dC dI cI cZ cQ b mday mdoo mdA mdB mfar mmar mtel mgai mfal mtop mstr mgho mfai mpto mwal mahd mahf mcho mbes mbyt mtxt mpos mtka mtok mdig mnum mfau mrdm mrea mlin mlne mthg mord mbor mbsm mans mand manr mali pp r_mday r_mdoo r_mdA r_mdB r_mmar r_mgai r_mfal r_mtop r_mstr r_mgho r_mfai r_mahd r_mahf r_mcho r_mbyt r_mpos r_mrdm r_mlin r_mthg r_mord r_mans (by omega) (by omega)) (cwV 1 hts gX10_pupil_X10_partsMost rfl rfl rfl (by decide +kernel) ⟨Nat.le_of_ble_eq_true rfl, Nat.le_of_ble_eq_true rfl⟩) hP hK hN [0, 1, 2, 3, 4, 5, 6, 7, 8, 9, 10, 11, 12, 13, 14, 15, 16, 17, 18, 19, 20, 21, 22, 23, 24, 25] rfl 0 10 rfl rfl rfl hl.1 rfl (Nat.le_of_ble_eq_true rfl) dX10_pupil_155 ⟨Nat.le_of_ble_eq_true rfl, Nat.le_of_ble_eq_true rfl⟩ (fun r9 h10 => ?_)
                  have h10 : (r9.toInt = dpF (fun t => agW mand manr (nI t) (12 * pp.toInt).toNat (mans pp.toNatClampNeg).toInt.toNat) (mans pp.toNatClampNeg) 1000) := h10
                  have h10_0 := h10
                  exact W.iret (v := r9) hx hb hr (fun tq ht hW => ⟨r9, rfl, (show spPup (fun t => agW mand manr (nI t) (12 * pp.toInt).toNat (mans pp.toNatClampNeg).toInt.toNat) (mans pp.toNatClampNeg) 1000 pp wh r9 from by (first | exact Or.inl ⟨by omega, rfl⟩ | (refine Or.inr ⟨by omega, ?_⟩; first | exact Or.inl ⟨by omega, my_e i33_7 (by omega)⟩ | exact Or.inr (Or.inl ⟨by omega, by (unfold nmL; have := hp.1; omega)⟩) | exact Or.inr (Or.inr (Or.inl ⟨by omega, hp.2⟩)) | exact Or.inr (Or.inr (Or.inr (Or.inl ⟨by omega, by assumption⟩))) | exact Or.inr (Or.inr (Or.inr (Or.inr ⟨by omega, rfl⟩)))))), ht⟩) (fun q h => by cases h) dX10_pupil_158
                · have dc8 : wh.toInt = 2 := eqC rfl (show (2 : Int32).toInt = 2 from rfl) c8
                  refine lv_iload hx hb dX10_pupil_148 (lv_at hl 5 rfl) ?_
                  refine lv_goto (tgt := 158) hx hb dX10_pupil_150 (by decide) ?_
                  exact W.iret (v := y33_5) hx hb hr (fun tq ht hW => ⟨y33_5, rfl, (show spPup (fun t => agW mand manr (nI t) (12 * pp.toInt).toNat (mans pp.toNatClampNeg).toInt.toNat) (mans pp.toNatClampNeg) 1000 pp wh y33_5 from by (first | exact Or.inl ⟨by omega, rfl⟩ | (refine Or.inr ⟨by omega, ?_⟩; first | exact Or.inl ⟨by omega, my_e i33_7 (by omega)⟩ | exact Or.inr (Or.inl ⟨by omega, by (unfold nmL; have := hp.1; omega)⟩) | exact Or.inr (Or.inr (Or.inl ⟨by omega, hp.2⟩)) | exact Or.inr (Or.inr (Or.inr (Or.inl ⟨by omega, by assumption⟩))) | exact Or.inr (Or.inr (Or.inr (Or.inr ⟨by omega, rfl⟩)))))), ht⟩) (fun q h => by cases h) dX10_pupil_158
              · have dc7 : wh.toInt = 1 := eqC rfl (show (1 : Int32).toInt = 1 from rfl) c7
                refine lv_bipush (v := 100) hx hb dX10_pupil_119 (by decide) ?_
                refine lv_iload hx hb dX10_pupil_121 (lv_at hl 4 rfl) ?_
                refine lv_bipush (v := 9) hx hb dX10_pupil_123 (by decide) ?_
                refine lv_idiv hx hb dX10_pupil_125 (by decide) ?_
                have f11 : (y33_4 / 9).toInt = (y33_4.toInt) / (9) := divC rfl (show (9 : Int32).toInt = 9 from rfl) (by omega) (by omega)
                refine lv_iconst (v := 1) hx hb dX10_pupil_126 (by decide) ?_
                refine lv_iadd hx hb dX10_pupil_127 ?_
                have f12 : ((y33_4 / 9) + 1).toInt = ((y33_4.toInt) / (9)) + (1) := addC f11 (show (1 : Int32).toInt = 1 from rfl) (by omega) (by omega)
                refine lv_imul hx hb dX10_pupil_128 ?_
                have f13 : (100 * ((y33_4 / 9) + 1)).toInt = (100) * (((y33_4.toInt) / (9)) + (1)) := mulC (show (100 : Int32).toInt = 100 from rfl) f12 (by omega) (by omega)
                refine lv_bipush (v := 10) hx hb dX10_pupil_129 (by decide) ?_
                refine lv_iload hx hb dX10_pupil_131 (lv_at hl 4 rfl) ?_
                refine lv_bipush (v := 9) hx hb dX10_pupil_133 (by decide) ?_
                refine lv_irem hx hb dX10_pupil_135 (by decide) ?_
                have f14 : (y33_4 - y33_4 / 9 * 9).toInt = (y33_4.toInt) % (9) := remC rfl (show (9 : Int32).toInt = 9 from rfl) (by omega) (by omega)
                refine lv_iconst (v := 1) hx hb dX10_pupil_136 (by decide) ?_
                refine lv_iadd hx hb dX10_pupil_137 ?_
                have f15 : ((y33_4 - y33_4 / 9 * 9) + 1).toInt = ((y33_4.toInt) % (9)) + (1) := addC f14 (show (1 : Int32).toInt = 1 from rfl) (by omega) (by omega)
                refine lv_imul hx hb dX10_pupil_138 ?_
                have f16 : (10 * ((y33_4 - y33_4 / 9 * 9) + 1)).toInt = (10) * (((y33_4.toInt) % (9)) + (1)) := mulC (show (10 : Int32).toInt = 10 from rfl) f15 (by omega) (by omega)
                refine lv_iadd hx hb dX10_pupil_139 ?_
                have f17 : ((100 * ((y33_4 / 9) + 1)) + (10 * ((y33_4 - y33_4 / 9 * 9) + 1))).toInt = ((100) * (((y33_4.toInt) / (9)) + (1))) + ((10) * (((y33_4.toInt) % (9)) + (1))) := addC f13 f16 (by omega) (by omega)
                refine lv_goto (tgt := 158) hx hb dX10_pupil_140 (by decide) ?_
                exact W.iret (v := (100 * ((y33_4 / 9) + 1)) + (10 * ((y33_4 - y33_4 / 9 * 9) + 1))) hx hb hr (fun tq ht hW => ⟨(100 * ((y33_4 / 9) + 1)) + (10 * ((y33_4 - y33_4 / 9 * 9) + 1)), rfl, (show spPup (fun t => agW mand manr (nI t) (12 * pp.toInt).toNat (mans pp.toNatClampNeg).toInt.toNat) (mans pp.toNatClampNeg) 1000 pp wh ((100 * ((y33_4 / 9) + 1)) + (10 * ((y33_4 - y33_4 / 9 * 9) + 1))) from by (try rw [show ((100 * ((y33_4 / 9) + 1)) + (10 * ((y33_4 - y33_4 / 9 * 9) + 1))).toInt = ((100) * (((y33_4.toInt) / (9)) + (1))) + ((10) * (((y33_4.toInt) % (9)) + (1))) from f17]); (first | exact Or.inl ⟨by omega, rfl⟩ | (refine Or.inr ⟨by omega, ?_⟩; first | exact Or.inl ⟨by omega, my_e i33_7 (by omega)⟩ | exact Or.inr (Or.inl ⟨by omega, by (unfold nmL; have := hp.1; omega)⟩) | exact Or.inr (Or.inr (Or.inl ⟨by omega, hp.2⟩)) | exact Or.inr (Or.inr (Or.inr (Or.inl ⟨by omega, by assumption⟩))) | exact Or.inr (Or.inr (Or.inr (Or.inr ⟨by omega, rfl⟩)))))), ht⟩) (fun q h => by cases h) dX10_pupil_158
            · have dc6 : wh.toInt = 0 := eqC rfl (show (0 : Int32).toInt = 0 from rfl) c6
              refine lv_iload_n hx hb dX10_pupil_110 rfl (lv_at hl 3 rfl) ?_
              refine lv_goto (tgt := 158) hx hb dX10_pupil_111 (by decide) ?_
              exact W.iret (v := y33_3) hx hb hr (fun tq ht hW => ⟨y33_3, rfl, (show spPup (fun t => agW mand manr (nI t) (12 * pp.toInt).toNat (mans pp.toNatClampNeg).toInt.toNat) (mans pp.toNatClampNeg) 1000 pp wh y33_3 from by (first | exact Or.inl ⟨by omega, rfl⟩ | (refine Or.inr ⟨by omega, ?_⟩; first | exact Or.inl ⟨by omega, my_e i33_7 (by omega)⟩ | exact Or.inr (Or.inl ⟨by omega, by (unfold nmL; have := hp.1; omega)⟩) | exact Or.inr (Or.inr (Or.inl ⟨by omega, hp.2⟩)) | exact Or.inr (Or.inr (Or.inr (Or.inl ⟨by omega, by assumption⟩))) | exact Or.inr (Or.inr (Or.inr (Or.inr ⟨by omega, rfl⟩)))))), ht⟩) (fun q h => by cases h) dX10_pupil_158
          · have dc5 : y33_6.toInt < 81 := nleC (show (81 : Int32).toInt = 81 from rfl) rfl c5
            refine lv_aload_n hx hb dX10_pupil_40 rfl (lv_at hl 0 rfl) ?_
            refine lv_iload_n hx hb dX10_pupil_41 rfl (lv_at hl 1 rfl) ?_
            refine lv_iload hx hb dX10_pupil_42 (lv_at hl 6 rfl) ?_
            refine rdV (As := [.int pp, .int y33_6]) (rest := []) ⟨hx, hb, hml, hown, hts⟩ (k_X10_agrees2 l dC dI cI cZ cQ b mday mdoo mdA mdB mfar mmar mtel mgai mfal mtop mstr mgho mfai mpto mwal mahd mahf mcho mbes mbyt mtxt mpos mtka mtok mdig mnum mfau mrdm mrea mlin mlne mthg mord mbor mbsm mans mand manr mali pp y33_6 r_mday r_mdoo r_mdA r_mdB r_mmar r_mgai r_mfal r_mtop r_mstr r_mgho r_mfai r_mahd r_mahf r_mcho r_mbyt r_mpos r_mrdm r_mlin r_mthg r_mord r_mans (by omega) (by omega) (by omega) (by omega)) (cwV 2 hts gX10_pupil_X10_agrees rfl rfl rfl (by decide +kernel) ⟨Nat.le_of_ble_eq_true rfl, Nat.le_of_ble_eq_true rfl⟩) hP hK hN [0, 1, 2, 3, 4, 5, 6, 7, 8, 9, 10, 11, 12, 13, 14, 15, 16, 17, 18, 19, 20, 21, 22, 23, 24, 25] rfl 0 10 rfl rfl rfl hl.1 rfl (Nat.le_of_ble_eq_true rfl) dX10_pupil_44 ⟨Nat.le_of_ble_eq_true rfl, Nat.le_of_ble_eq_true rfl⟩ (fun r18 h19 => ?_)
            have h19 : (r18 = agW mand manr y33_6 (12 * pp.toInt).toNat (mans pp.toNatClampNeg).toInt.toNat) := h19
            have h19_0 := h19
            refine lv_istore (lv' := [(7, .int r18), (0, .ref (b 39)), (1, .int pp), (2, .int wh), (3, .int y33_3), (4, .int y33_4), (5, .int y33_5), (6, .int y33_6)]) hx hb dX10_pupil_47 hl (by decide) rfl (fun ls hl => ?_)
            have L68 : ∀ (y68_3 : Int32) (ls : Array Slot), (0 ≤ (y68_3.toInt)) → ((y68_3.toInt) ≤ 81) → ((y68_3.toInt) ≤ (y33_6.toInt) + 1) → ((y68_3.toInt) = mayF (fun t => agW mand manr (nI t) (12 * pp.toInt).toNat (mans pp.toNatClampNeg).toInt.toNat) (mans pp.toNatClampNeg) ((y33_6.toInt) + 1).toNat) → lv_has ls 8 [(0, .ref (b 39)), (1, .int pp), (2, .int wh), (3, .int y68_3), (4, .int y33_4), (5, .int y33_5), (6, .int y33_6), (7, .int r18)] → W p l e (headSpec wsX10_pupil { frames := 3, cells := 0, slots := 0, locals := 73 }).room s m ([.ref (b 39), .int pp, .int wh] : List Value).toArray below meth c s.heap [] 0 0 (MQ below (QR (fun r : Int32 => (spPup (fun t => agW mand manr (nI t) (12 * pp.toInt).toNat (mans pp.toNatClampNeg).toInt.toNat) (mans pp.toNatClampNeg) 1000 pp wh r))) ([.ref (b 39), .int pp, .int wh] : List Value).toArray s 0 0 (fun _ => False)) (F0 m 68 ls []) := by
              intro y68_3 ls i68_0 i68_1 i68_2 i68_3 hl
              refine lv_iload hx hb dX10_pupil_68 (lv_at hl 7 rfl) ?_
              refine lv_iload hx hb dX10_pupil_70 (lv_at hl 5 rfl) ?_
              refine lv_icmp_le (tgt := 80) hx hb dX10_pupil_72 (by decide) (fun c20 => ?_) (fun c20 => ?_)
              · have dc20 : r18.toInt ≤ y33_5.toInt := leC rfl rfl c20
                refine lv_iload hx hb dX10_pupil_80 (lv_at hl 4 rfl) ?_
                refine lv_istore (lv' := [(4, .int y33_4), (0, .ref (b 39)), (1, .int pp), (2, .int wh), (3, .int y68_3), (5, .int y33_5), (6, .int y33_6), (7, .int r18)]) hx hb dX10_pupil_82 hl (by decide) rfl (fun ls hl => ?_)
                refine lv_iload hx hb dX10_pupil_84 (lv_at hl 7 rfl) ?_
                refine lv_iload hx hb dX10_pupil_86 (lv_at hl 5 rfl) ?_
                refine lv_icmp_le (tgt := 96) hx hb dX10_pupil_88 (by decide) (fun c21 => ?_) (fun c21 => ?_)
                · have dc21 : r18.toInt ≤ y33_5.toInt := leC rfl rfl c21
                  refine lv_iload hx hb dX10_pupil_96 (lv_at hl 5 rfl) ?_
                  refine lv_istore (lv' := [(5, .int y33_5), (4, .int y33_4), (0, .ref (b 39)), (1, .int pp), (2, .int wh), (3, .int y68_3), (6, .int y33_6), (7, .int r18)]) hx hb dX10_pupil_98 hl (by decide) rfl (fun ls hl => ?_)
                  obtain ⟨z22, ez22⟩ : ∃ y : Int32, y = y33_6 + 1 := ⟨_, rfl⟩
                  have iz22 : z22.toInt = y33_6.toInt + 1 := by rw [ez22]; exact addC rfl rfl (by omega) (by omega)
                  refine lv_iinc (v := z22) (lv' := [(6, .int z22), (5, .int y33_5), (4, .int y33_4), (0, .ref (b 39)), (1, .int pp), (2, .int wh), (3, .int y68_3), (7, .int r18)]) hx hb dX10_pupil_100 hl (k := 6) rfl (by rw [ez22]; rfl) (by decide) rfl (fun ls hl => ?_)
                  refine lv_goto (tgt := 33) hx hb dX10_pupil_103 (by decide) ?_
                  exact ih33 y68_3 y33_4 y33_5 z22 _ (by omega) (by omega) (by omega) (by omega) (by omega) (by omega) (by omega) (by (first | exact cast0 i68_3 (by omega) | exact my_0 (by first | rfl | omega) (by first | rfl | omega))) (by (first | exact pp_y i33_8 (gg_at (by assumption) (by omega)) (by omega) (by omega) (by omega) | exact pp_n (y := y33_6) i33_8 (gg_at (by assumption) (by omega)) (by omega) (rn_of (by assumption) (by omega)) (by omega) (by omega) | (exfalso; omega) | exact pp_0 (by first | rfl | omega) (by first | rfl | omega) rfl)) (by omega) (lv_sub hl [3, 4, 5, 6, 2, 1, 0] rfl)
                · have dc21 : y33_5.toInt < r18.toInt := nleC rfl rfl c21
                  refine lv_iload hx hb dX10_pupil_91 (lv_at hl 7 rfl) ?_
                  refine lv_goto (tgt := 98) hx hb dX10_pupil_93 (by decide) ?_
                  refine lv_istore (lv' := [(5, .int r18), (4, .int y33_4), (0, .ref (b 39)), (1, .int pp), (2, .int wh), (3, .int y68_3), (6, .int y33_6), (7, .int r18)]) hx hb dX10_pupil_98 hl (by decide) rfl (fun ls hl => ?_)
                  obtain ⟨z23, ez23⟩ : ∃ y : Int32, y = y33_6 + 1 := ⟨_, rfl⟩
                  have iz23 : z23.toInt = y33_6.toInt + 1 := by rw [ez23]; exact addC rfl rfl (by omega) (by omega)
                  refine lv_iinc (v := z23) (lv' := [(6, .int z23), (5, .int r18), (4, .int y33_4), (0, .ref (b 39)), (1, .int pp), (2, .int wh), (3, .int y68_3), (7, .int r18)]) hx hb dX10_pupil_100 hl (k := 6) rfl (by rw [ez23]; rfl) (by decide) rfl (fun ls hl => ?_)
                  refine lv_goto (tgt := 33) hx hb dX10_pupil_103 (by decide) ?_
                  exact ih33 y68_3 y33_4 r18 z23 _ (by omega) (by omega) (by omega) (by omega) (by omega) (by omega) (by omega) (by (first | exact cast0 i68_3 (by omega) | exact my_0 (by first | rfl | omega) (by first | rfl | omega))) (by (first | exact pp_y i33_8 (gg_at (by assumption) (by omega)) (by omega) (by omega) (by omega) | exact pp_n (y := y33_6) i33_8 (gg_at (by assumption) (by omega)) (by omega) (rn_of (by assumption) (by omega)) (by omega) (by omega) | (exfalso; omega) | exact pp_0 (by first | rfl | omega) (by first | rfl | omega) rfl)) (by omega) (lv_sub hl [3, 4, 5, 6, 2, 1, 0] rfl)
              · have dc20 : y33_5.toInt < r18.toInt := nleC rfl rfl c20
                refine lv_iload hx hb dX10_pupil_75 (lv_at hl 6 rfl) ?_
                refine lv_goto (tgt := 82) hx hb dX10_pupil_77 (by decide) ?_
                refine lv_istore (lv' := [(4, .int y33_6), (0, .ref (b 39)), (1, .int pp), (2, .int wh), (3, .int y68_3), (5, .int y33_5), (6, .int y33_6), (7, .int r18)]) hx hb dX10_pupil_82 hl (by decide) rfl (fun ls hl => ?_)
                refine lv_iload hx hb dX10_pupil_84 (lv_at hl 7 rfl) ?_
                refine lv_iload hx hb dX10_pupil_86 (lv_at hl 5 rfl) ?_
                refine lv_icmp_le (tgt := 96) hx hb dX10_pupil_88 (by decide) (fun c24 => ?_) (fun c24 => ?_)
                · have dc24 : r18.toInt ≤ y33_5.toInt := leC rfl rfl c24
                  refine lv_iload hx hb dX10_pupil_96 (lv_at hl 5 rfl) ?_
                  refine lv_istore (lv' := [(5, .int y33_5), (4, .int y33_6), (0, .ref (b 39)), (1, .int pp), (2, .int wh), (3, .int y68_3), (6, .int y33_6), (7, .int r18)]) hx hb dX10_pupil_98 hl (by decide) rfl (fun ls hl => ?_)
                  obtain ⟨z25, ez25⟩ : ∃ y : Int32, y = y33_6 + 1 := ⟨_, rfl⟩
                  have iz25 : z25.toInt = y33_6.toInt + 1 := by rw [ez25]; exact addC rfl rfl (by omega) (by omega)
                  refine lv_iinc (v := z25) (lv' := [(6, .int z25), (5, .int y33_5), (4, .int y33_6), (0, .ref (b 39)), (1, .int pp), (2, .int wh), (3, .int y68_3), (7, .int r18)]) hx hb dX10_pupil_100 hl (k := 6) rfl (by rw [ez25]; rfl) (by decide) rfl (fun ls hl => ?_)
                  refine lv_goto (tgt := 33) hx hb dX10_pupil_103 (by decide) ?_
                  exact ih33 y68_3 y33_6 y33_5 z25 _ (by omega) (by omega) (by omega) (by omega) (by omega) (by omega) (by omega) (by (first | exact cast0 i68_3 (by omega) | exact my_0 (by first | rfl | omega) (by first | rfl | omega))) (by (first | exact pp_y i33_8 (gg_at (by assumption) (by omega)) (by omega) (by omega) (by omega) | exact pp_n (y := y33_6) i33_8 (gg_at (by assumption) (by omega)) (by omega) (rn_of (by assumption) (by omega)) (by omega) (by omega) | (exfalso; omega) | exact pp_0 (by first | rfl | omega) (by first | rfl | omega) rfl)) (by omega) (lv_sub hl [3, 4, 5, 6, 2, 1, 0] rfl)
                · have dc24 : y33_5.toInt < r18.toInt := nleC rfl rfl c24
                  refine lv_iload hx hb dX10_pupil_91 (lv_at hl 7 rfl) ?_
                  refine lv_goto (tgt := 98) hx hb dX10_pupil_93 (by decide) ?_
                  refine lv_istore (lv' := [(5, .int r18), (4, .int y33_6), (0, .ref (b 39)), (1, .int pp), (2, .int wh), (3, .int y68_3), (6, .int y33_6), (7, .int r18)]) hx hb dX10_pupil_98 hl (by decide) rfl (fun ls hl => ?_)
                  obtain ⟨z26, ez26⟩ : ∃ y : Int32, y = y33_6 + 1 := ⟨_, rfl⟩
                  have iz26 : z26.toInt = y33_6.toInt + 1 := by rw [ez26]; exact addC rfl rfl (by omega) (by omega)
                  refine lv_iinc (v := z26) (lv' := [(6, .int z26), (5, .int r18), (4, .int y33_6), (0, .ref (b 39)), (1, .int pp), (2, .int wh), (3, .int y68_3), (7, .int r18)]) hx hb dX10_pupil_100 hl (k := 6) rfl (by rw [ez26]; rfl) (by decide) rfl (fun ls hl => ?_)
                  refine lv_goto (tgt := 33) hx hb dX10_pupil_103 (by decide) ?_
                  exact ih33 y68_3 y33_6 r18 z26 _ (by omega) (by omega) (by omega) (by omega) (by omega) (by omega) (by omega) (by (first | exact cast0 i68_3 (by omega) | exact my_0 (by first | rfl | omega) (by first | rfl | omega))) (by (first | exact pp_y i33_8 (gg_at (by assumption) (by omega)) (by omega) (by omega) (by omega) | exact pp_n (y := y33_6) i33_8 (gg_at (by assumption) (by omega)) (by omega) (rn_of (by assumption) (by omega)) (by omega) (by omega) | (exfalso; omega) | exact pp_0 (by first | rfl | omega) (by first | rfl | omega) rfl)) (by omega) (lv_sub hl [3, 4, 5, 6, 2, 1, 0] rfl)
            refine lv_iload_n hx hb dX10_pupil_49 rfl (lv_at hl 4 rfl) ?_
            refine lv_iload hx hb dX10_pupil_50 (lv_at hl 0 rfl) ?_
            refine lv_aload_n hx hb dX10_pupil_52 rfl (lv_at hl 1 rfl) ?_
            refine va_get (D := (dC, dI)) (ci := 10) (v := .ref (b 35)) (C := RX10) (T := TX10) (N := 39) hx hb hts inX10 hown hK hP 0 rfl rfl 35 (by decide) lf80 (fun _ h9 => h9) rfl dX10_pupil_53 ?_
            refine lv_iload_n hx hb dX10_pupil_56 rfl (lv_at hl 2 rfl) ?_
            have b27 : vp_in pp 4 := inC rfl (by omega) (by omega)
            refine va_iald hx hb hK hP 22 0 rfl rfl b27 dX10_pupil_57 ?_
            have g28 : 0 ≤ (mans pp.toNatClampNeg).toInt ∧ (mans pp.toNatClampNeg).toInt ≤ 12 := rg_at r_mans b27
            refine lv_icmp_ne (tgt := 65) hx hb dX10_pupil_58 (by decide) (fun c29 => ?_) (fun c29 => ?_)
            · have dc29 : r18.toInt ≠ (mans pp.toNatClampNeg).toInt := neC rfl rfl c29
              refine lv_iconst (v := 0) hx hb dX10_pupil_65 (by decide) ?_
              refine lv_iadd hx hb dX10_pupil_66 ?_
              have f30 : (y33_3 + 0).toInt = (y33_3.toInt) + (0) := addC rfl (show (0 : Int32).toInt = 0 from rfl) (by omega) (by omega)
              refine lv_topi (fun x31 ex31 => ?_)
              have ix31 : x31.toInt = (y33_3.toInt) + (0) := by rw [ex31]; exact f30
              refine lv_istore_n (lv' := [(3, .int x31), (7, .int r18), (0, .ref (b 39)), (1, .int pp), (2, .int wh), (4, .int y33_4), (5, .int y33_5), (6, .int y33_6)]) hx hb dX10_pupil_67 rfl hl (by decide) rfl (fun ls hl => ?_)
              exact L68 x31 _ (by omega) (by omega) (by omega) (by (exact my_sG (o := y33_6) i33_7 (gg_at (by assumption) (by omega)) (by first | exact clC (x := y33_6) rfl | (rw [clC (x := y33_6) rfl]; omega)) (by first | exact Or.inl ⟨by assumption, by omega⟩ | exact Or.inr ⟨by assumption, by omega⟩) (by omega))) (lv_sub hl [2, 3, 4, 0, 5, 6, 7, 1] rfl)
            · have dc29 : r18.toInt = (mans pp.toNatClampNeg).toInt := eqC rfl rfl c29
              refine lv_iconst (v := 1) hx hb dX10_pupil_61 (by decide) ?_
              refine lv_goto (tgt := 66) hx hb dX10_pupil_62 (by decide) ?_
              refine lv_iadd hx hb dX10_pupil_66 ?_
              have f32 : (y33_3 + 1).toInt = (y33_3.toInt) + (1) := addC rfl (show (1 : Int32).toInt = 1 from rfl) (by omega) (by omega)
              refine lv_topi (fun x33 ex33 => ?_)
              have ix33 : x33.toInt = (y33_3.toInt) + (1) := by rw [ex33]; exact f32
              refine lv_istore_n (lv' := [(3, .int x33), (7, .int r18), (0, .ref (b 39)), (1, .int pp), (2, .int wh), (4, .int y33_4), (5, .int y33_5), (6, .int y33_6)]) hx hb dX10_pupil_67 rfl hl (by decide) rfl (fun ls hl => ?_)
              exact L68 x33 _ (by omega) (by omega) (by omega) (by (exact my_sG (o := y33_6) i33_7 (gg_at (by assumption) (by omega)) (by first | exact clC (x := y33_6) rfl | (rw [clC (x := y33_6) rfl]; omega)) (by first | exact Or.inl ⟨by assumption, by omega⟩ | exact Or.inr ⟨by assumption, by omega⟩) (by omega))) (lv_sub hl [2, 3, 4, 0, 5, 6, 7, 1] rfl)
      have kc34 : (0 : Int32).toInt = 0 := rfl
      have kc35 : ((-1) : Int32).toInt = -1 := rfl
      exact L33 _ 0 0 (-1) 0 _ (by omega) (by omega) (by omega) (by omega) (by omega) (by omega) (by omega) (by (first | exact cast0 i68_3 (by omega) | exact my_0 (by first | rfl | omega) (by first | rfl | omega))) (by (first | exact pp_y i33_8 (gg_at (by assumption) (by omega)) (by omega) (by omega) (by omega) | exact pp_n (y := y33_6) i33_8 (gg_at (by assumption) (by omega)) (by omega) (rn_of (by assumption) (by omega)) (by omega) (by omega) | (exfalso; omega) | exact pp_0 (by first | rfl | omega) (by first | rfl | omega) rfl)) (Nat.lt_succ_self _) (lv_sub hl [4, 5, 6, 3, 2, 1, 0] rfl)
    · refine lv_if_ne (tgt := 22) hx hb dX10_pupil_16 (by decide) (fun c9 => absurd (by decide) c9) (fun _ => ?_)
      refine lv_bipush (v := (-3)) hx hb dX10_pupil_19 (by decide) ?_
      exact W.iret (v := (-3)) hx hb hr (fun tq ht hW => ⟨(-3), rfl, (show spPup (fun t => agW mand manr (nI t) (12 * pp.toInt).toNat (mans pp.toNatClampNeg).toInt.toNat) (mans pp.toNatClampNeg) 1000 pp wh ((-3) : Int32) from by (try rw [show ((-3) : Int32).toInt = (-3) from (show ((-3) : Int32).toInt = (-3) from rfl)]); (first | exact Or.inl ⟨by omega, rfl⟩ | (refine Or.inr ⟨by omega, ?_⟩; first | exact Or.inl ⟨by omega, my_e i33_7 (by omega)⟩ | exact Or.inr (Or.inl ⟨by omega, by (unfold nmL; have := hp.1; omega)⟩) | exact Or.inr (Or.inr (Or.inl ⟨by omega, hp.2⟩)) | exact Or.inr (Or.inr (Or.inr (Or.inl ⟨by omega, by assumption⟩))) | exact Or.inr (Or.inr (Or.inr (Or.inr ⟨by omega, rfl⟩)))))), ht⟩) (fun q h => by cases h) dX10_pupil_21
  · refine lv_if_ne (tgt := 10) hx hb dX10_pupil_4 (by decide) (fun c9 => absurd (by decide) c9) (fun _ => ?_)
    refine lv_bipush (v := (-2)) hx hb dX10_pupil_7 (by decide) ?_
    exact W.iret (v := (-2)) hx hb hr (fun tq ht hW => ⟨(-2), rfl, (show spPup (fun t => agW mand manr (nI t) (12 * pp.toInt).toNat (mans pp.toNatClampNeg).toInt.toNat) (mans pp.toNatClampNeg) 1000 pp wh ((-2) : Int32) from by (try rw [show ((-2) : Int32).toInt = (-2) from (show ((-2) : Int32).toInt = (-2) from rfl)]); (first | exact Or.inl ⟨by omega, rfl⟩ | (refine Or.inr ⟨by omega, ?_⟩; first | exact Or.inl ⟨by omega, my_e i33_7 (by omega)⟩ | exact Or.inr (Or.inl ⟨by omega, by (unfold nmL; have := hp.1; omega)⟩) | exact Or.inr (Or.inr (Or.inl ⟨by omega, hp.2⟩)) | exact Or.inr (Or.inr (Or.inr (Or.inl ⟨by omega, by assumption⟩))) | exact Or.inr (Or.inr (Or.inr (Or.inr ⟨by omega, rfl⟩)))))), ht⟩) (fun q h => by cases h) dX10_pupil_9
