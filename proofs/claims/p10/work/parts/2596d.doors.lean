set_option maxHeartbeats 4000000 in
set_option maxRecDepth 100000 in
theorem k_X10_doorsTo2 (l : Launch) (dC : Nat → ClassId) (dI : Nat → Nat → Nat) (cI cZ cQ : ClassId) (b : Nat → Nat) (mday : Int32) (mdoo : Int32) (mdA : Nat → Int32) (mdB : Nat → Int32) (mfar : Nat → Int32) (mmar : Nat → Int32) (mtel : Int32) (mgai : Int32) (mfal : Nat → Int32) (mtop : Nat → Int32) (mstr : Nat → Int32) (mgho : Nat → Int32) (mfai : Nat → Int32) (mpto : Nat → Int32) (mwal : Nat → Int32) (mahd : Nat → Int32) (mahf : Nat → Int32) (mcho : Nat → Int32) (mbes : Nat → Int32) (mbyt : Int32) (mtxt : Nat → Int32) (mpos : Int32) (mtka : Int32) (mtok : Int64) (mdig : Int32) (mnum : Int32) (mfau : Int32) (mrdm : Int32) (mrea : Nat → Int32) (mlin : Int32) (mlne : Nat → Int32) (mthg : Nat → Int32) (mord : Nat → Int32) (mbor : Nat → Int32) (mbsm : Int32) (mans : Nat → Int32) (mand : Nat → Int32) (manr : Nat → Int32) (mali : Nat → Int32) (sz : Nat) (x : Int32) (y : Int32) (r_mday : 0 ≤ mday.toInt ∧ mday.toInt ≤ 400) (r_mdoo : 0 ≤ mdoo.toInt ∧ mdoo.toInt ≤ 14) (r_mdA : rg 14 (0) (7) mdA) (r_mdB : rg 14 (0) (7) mdB) (r_mmar : rg 24 (0) (255) mmar) (r_mgai : 0 ≤ mgai.toInt ∧ mgai.toInt ≤ 100) (r_mfal : rg 11 (0) (30) mfal) (r_mtop : rg 48 (-1) (23) mtop) (r_mstr : rg 48 (0) (100) mstr) (r_mgho : rg 48 (-1) (23) mgho) (r_mfai : rg 48 (0) (100) mfai) (r_mahd : rg 240 (0) (100) mahd) (r_mahf : rg 240 (0) (100) mahf) (r_mcho : rg 5 (-1) (9) mcho) (r_mbyt : 0 ≤ mbyt.toInt ∧ mbyt.toInt ≤ 160) (r_mpos : 0 ≤ mpos.toInt ∧ mpos.toInt ≤ 160) (r_mrdm : 0 ≤ mrdm.toInt ∧ mrdm.toInt ≤ 10) (r_mlin : 0 ≤ mlin.toInt ∧ mlin.toInt ≤ 10) (r_mthg : rg 8 (0) (31) mthg) (r_mord : rg 8 (-1) (8) mord) (r_mans : rg 4 (0) (12) mans) (q0 : 0 ≤ x.toInt) (q1 : x.toInt ≤ 7) (q2 : 0 ≤ y.toInt) (q3 : y.toInt ≤ 7) : KW l yX10_doorsTo wsX10_doorsTo { frames := 0, cells := 0, slots := 0, locals := 0 } (dC, dI) (TY cI cZ cQ) (wMod cI cZ cQ b mday mdoo mdA mdB mfar mmar mtel mgai mfal mtop mstr mgho mfai mpto mwal mahd mahf mcho mbes mbyt mtxt mpos mtka mtok mdig mnum mfau mrdm mrea mlin mlne mthg mord mbor mbsm mans mand manr mali) [.ref (b 39), .int x, .int y] sz 0 0 (fun (r : Int32) (u : US) => (dsR mdA mdB mdoo.toInt x y r) ∧ (-1 ≤ r.toInt) ∧ (r.toInt ≤ 99)) (fun u : US => (wMod cI cZ cQ b mday mdoo mdA mdB (u.1 0) mmar mtel mgai mfal mtop mstr mgho mfai mpto mwal mahd mahf mcho mbes mbyt mtxt mpos mtka mtok mdig mnum mfau mrdm mrea mlin mlne mthg mord mbor mbsm mans mand manr mali)) := by
  refine Met.ofW (cc := cX10_doorsTo) (maxL := 7) (ret := (some .int)) (by decide) rfl ?_
  intro p e s m args below meth c s₁ B hml hv
  obtain ⟨rfl, hsz, hP, hK, hD0, hN⟩ := hv
  have hx := B.exec
  have hb := B.bytes
  have hr := B.returns
  have hts := atoms_spec (ws := wsX10_doorsTo) B.pre
  have hown : s.vm.findClass RX10 = some m.cls := findClass_of_methodNamed B.named
  have hlocks := B.notSynchronized
  have lf16 := hts (.fieldLink RX10 16 "PalaceOfRoomsModel" "far" "[I") (by decide +kernel)
  have inX10 : ∀ w ∈ wsX100, w ∈ wsX10_doorsTo := by decide +kernel
  have lf97 := hts (.fieldLink RX10 97 "PalaceOfRoomsModel" "doors" "I") (by decide +kernel)
  have lf7 := hts (.fieldLink RX10 7 "PalaceOfRoomsModel" "doorA" "[I") (by decide +kernel)
  have lf13 := hts (.fieldLink RX10 13 "PalaceOfRoomsModel" "doorB" "[I") (by decide +kernel)
  subst hsz
  have hD := hD0.self (sz := s.heap.size)
  generalize hAe : va_A (wMod cI cZ cQ b mday mdoo mdA mdB mfar mmar mtel mgai mfal mtop mstr mgho mfai mpto mwal mahd mahf mcho mbes mbyt mtxt mpos mtka mtok mdig mnum mfau mrdm mrea mlin mlne mthg mord mbor mbsm mans mand manr mali) s.heap.size = A at hD ⊢
  have hA : ∀ q : Nat, s.heap.size ≤ q → A q := fun q h => by rw [← hAe]; exact Or.inr h
  have hS : va_S A s.heap s.heap [] := va_S.rf
  have hl := lv_entry ([.ref (b 39), .int x, .int y]) (n := 7) (Nat.le_of_ble_eq_true rfl)
  rw [lg_entry_eq]
  generalize (lg_sl ([.ref (b 39), .int x, .int y]) ++ List.replicate (7 - (lg_sl ([.ref (b 39), .int x, .int y])).length) Slot.unset).toArray = ls at hl ⊢
  have hl : lv_has ls 7 [(0, .ref (b 39)), (1, .int x), (2, .int y)] := hl
  refine lv_iconst (v := 0) hx hb dX10_doorsTo_0 (by decide) ?_
  refine lv_istore_n (lv' := [(3, .int 0), (0, .ref (b 39)), (1, .int x), (2, .int y)]) hx hb dX10_doorsTo_1 rfl hl (by decide) rfl (fun ls hl => ?_)
  have L2 : ∀ (nn : Nat) (y2_3 : Int32) (mfar_2 : Nat → Int32) (H : Heap) (locs : List Loc) (ls : Array Slot), (0 ≤ (y2_3.toInt)) → ((y2_3.toInt) ≤ 8) → (fi8 x (y2_3.toInt) mfar_2) → (8 - (y2_3.toInt)).toNat < nn → va_P (dC, dI) vwCl (wMod cI cZ cQ b mday mdoo mdA mdB mfar_2 mmar mtel mgai mfal mtop mstr mgho mfai mpto mwal mahd mahf mcho mbes mbyt mtxt mpos mtka mtok mdig mnum mfau mrdm mrea mlin mlne mthg mord mbor mbsm mans mand manr mali) H → va_D A (wMod cI cZ cQ b mday mdoo mdA mdB mfar_2 mmar mtel mgai mfal mtop mstr mgho mfai mpto mwal mahd mahf mcho mbes mbyt mtxt mpos mtka mtok mdig mnum mfau mrdm mrea mlin mlne mthg mord mbor mbsm mans mand manr mali) → va_S A s.heap H locs → lv_has ls 7 [(0, .ref (b 39)), (1, .int x), (2, .int y), (3, .int y2_3)] → W p l e (headSpec wsX10_doorsTo { frames := 0, cells := 0, slots := 0, locals := 0 }).room s m ([.ref (b 39), .int x, .int y] : List Value).toArray below meth c H locs 0 0 (MQ below (va_Qi (fun (r : Int32) (u : US) => (dsR mdA mdB mdoo.toInt x y r) ∧ (-1 ≤ r.toInt) ∧ (r.toInt ≤ 99)) (Bw (dC, dI) A (fun u : US => (wMod cI cZ cQ b mday mdoo mdA mdB (u.1 0) mmar mtel mgai mfal mtop mstr mgho mfai mpto mwal mahd mahf mcho mbes mbyt mtxt mpos mtka mtok mdig mnum mfau mrdm mrea mlin mlne mthg mord mbor mbsm mans mand manr mali))) A) ([.ref (b 39), .int x, .int y] : List Value).toArray s 0 0 A) (F0 m 2 ls []) := by
    intro nn
    induction nn with
    | zero =>
      intro y2_3 mfar_2 H locs ls i2_0 i2_1 i2_2 hm2
      exact absurd hm2 (Nat.not_lt_zero _)
    | succ nn ih2 =>
      intro y2_3 mfar_2 H locs ls i2_0 i2_1 i2_2 hm2 hP hD hS hl
      refine lv_iload_n hx hb dX10_doorsTo_2 rfl (lv_at hl 3 rfl) ?_
      refine lv_bipush (v := 8) hx hb dX10_doorsTo_3 (by decide) ?_
      refine lv_icmp_ge (tgt := 31) hx hb dX10_doorsTo_5 (by decide) (fun c1 => ?_) (fun c1 => ?_)
      · have dc1 : 8 ≤ y2_3.toInt := leC (show (8 : Int32).toInt = 8 from rfl) rfl c1
        refine lv_iconst (v := 0) hx hb dX10_doorsTo_31 (by decide) ?_
        refine lv_istore_n (lv' := [(3, .int 0), (0, .ref (b 39)), (1, .int x), (2, .int y)]) hx hb dX10_doorsTo_32 rfl hl (by decide) rfl (fun ls hl => ?_)
        have L33 : ∀ (nn : Nat) (y33_3 : Int32) (mfar_33 : Nat → Int32) (H : Heap) (locs : List Loc) (ls : Array Slot), (0 ≤ (y33_3.toInt)) → ((y33_3.toInt) ≤ 8) → (dtI mdA mdB mdoo.toInt x.toInt.toNat (y33_3.toInt) mfar_33) → (8 - (y33_3.toInt)).toNat < nn → va_P (dC, dI) vwCl (wMod cI cZ cQ b mday mdoo mdA mdB mfar_33 mmar mtel mgai mfal mtop mstr mgho mfai mpto mwal mahd mahf mcho mbes mbyt mtxt mpos mtka mtok mdig mnum mfau mrdm mrea mlin mlne mthg mord mbor mbsm mans mand manr mali) H → va_D A (wMod cI cZ cQ b mday mdoo mdA mdB mfar_33 mmar mtel mgai mfal mtop mstr mgho mfai mpto mwal mahd mahf mcho mbes mbyt mtxt mpos mtka mtok mdig mnum mfau mrdm mrea mlin mlne mthg mord mbor mbsm mans mand manr mali) → va_S A s.heap H locs → lv_has ls 7 [(0, .ref (b 39)), (2, .int y), (3, .int y33_3)] → W p l e (headSpec wsX10_doorsTo { frames := 0, cells := 0, slots := 0, locals := 0 }).room s m ([.ref (b 39), .int x, .int y] : List Value).toArray below meth c H locs 0 0 (MQ below (va_Qi (fun (r : Int32) (u : US) => (dsR mdA mdB mdoo.toInt x y r) ∧ (-1 ≤ r.toInt) ∧ (r.toInt ≤ 99)) (Bw (dC, dI) A (fun u : US => (wMod cI cZ cQ b mday mdoo mdA mdB (u.1 0) mmar mtel mgai mfal mtop mstr mgho mfai mpto mwal mahd mahf mcho mbes mbyt mtxt mpos mtka mtok mdig mnum mfau mrdm mrea mlin mlne mthg mord mbor mbsm mans mand manr mali))) A) ([.ref (b 39), .int x, .int y] : List Value).toArray s 0 0 A) (F0 m 33 ls []) := by
          intro nn
          induction nn with
          | zero =>
            intro y33_3 mfar_33 H locs ls i33_0 i33_1 i33_2 hm33
            exact absurd hm33 (Nat.not_lt_zero _)
          | succ nn ih33 =>
            intro y33_3 mfar_33 H locs ls i33_0 i33_1 i33_2 hm33 hP hD hS hl
            refine lv_iload_n hx hb dX10_doorsTo_33 rfl (lv_at hl 2 rfl) ?_
            refine lv_bipush (v := 8) hx hb dX10_doorsTo_34 (by decide) ?_
            refine lv_icmp_ge (tgt := 171) hx hb dX10_doorsTo_36 (by decide) (fun c2 => ?_) (fun c2 => ?_)
            · have dc2 : 8 ≤ y33_3.toInt := leC (show (8 : Int32).toInt = 8 from rfl) rfl c2
              have wE := i33_2.1 y.toNatClampNeg (by rw [clC (x := y) rfl]; omega)
              refine lv_aload_n hx hb dX10_doorsTo_171 rfl (lv_at hl 0 rfl) ?_
              refine va_get (D := (dC, dI)) (ci := 10) (v := .ref (b 4)) (C := RX10) (T := TX10) (N := 39) hx hb hts inX10 hown hK hP 0 rfl rfl 4 (by decide) lf16 (fun _ h9 => h9) rfl dX10_doorsTo_172 ?_
              refine lv_iload_n hx hb dX10_doorsTo_175 rfl (lv_at hl 1 rfl) ?_
              have b3 : vp_in y 8 := inC rfl (by omega) (by omega)
              refine va_iald hx hb hK hP 3 0 rfl rfl b3 dX10_doorsTo_176 ?_
              refine lv_bipush (v := 100) hx hb dX10_doorsTo_177 (by decide) ?_
              refine lv_icmp_lt (tgt := 186) hx hb dX10_doorsTo_179 (by decide) (fun c4 => ?_) (fun c4 => ?_)
              · have dc4 : (mfar_33 y.toNatClampNeg).toInt < 100 := ltC rfl (show (100 : Int32).toInt = 100 from rfl) c4
                refine lv_aload_n hx hb dX10_doorsTo_186 rfl (lv_at hl 0 rfl) ?_
                refine va_get (D := (dC, dI)) (ci := 10) (v := .ref (b 4)) (C := RX10) (T := TX10) (N := 39) hx hb hts inX10 hown hK hP 0 rfl rfl 4 (by decide) lf16 (fun _ h9 => h9) rfl dX10_doorsTo_187 ?_
                refine lv_iload_n hx hb dX10_doorsTo_190 rfl (lv_at hl 1 rfl) ?_
                have b5 : vp_in y 8 := inC rfl (by omega) (by omega)
                refine va_iald hx hb hK hP 3 0 rfl rfl b5 dX10_doorsTo_191 ?_
                exact W.iret (v := mfar_33 y.toNatClampNeg) hx hb hr (fun tq ht hW => ⟨⟨mfar_33 y.toNatClampNeg, (uS [mfar_33] 0 (fun _ => 0)), rfl, ⟨(show dsR mdA mdB mdoo.toInt x y (mfar_33 y.toNatClampNeg) from by (first | exact ds_no i33_2 (by omega) (by omega) (by omega) (by omega) | exact ds_yes i33_2 (by omega) (by omega) (by omega) rfl (by omega))), (show -1 ≤ (mfar_33 y.toNatClampNeg).toInt from by omega), (show (mfar_33 y.toNatClampNeg).toInt ≤ 99 from by omega)⟩, by rw [ht]; exact hP, hD⟩, hS.F ht⟩) hS.2.2 dX10_doorsTo_192
              · have dc4 : 100 ≤ (mfar_33 y.toNatClampNeg).toInt := nltC rfl (show (100 : Int32).toInt = 100 from rfl) c4
                refine lv_iconst (v := (-1)) hx hb dX10_doorsTo_182 (by decide) ?_
                refine lv_goto (tgt := 192) hx hb dX10_doorsTo_183 (by decide) ?_
                exact W.iret (v := (-1)) hx hb hr (fun tq ht hW => ⟨⟨(-1), (uS [mfar_33] 0 (fun _ => 0)), rfl, ⟨(show dsR mdA mdB mdoo.toInt x y ((-1) : Int32) from by (try rw [show ((-1) : Int32).toInt = (-1) from (show ((-1) : Int32).toInt = (-1) from rfl)]); (first | exact ds_no i33_2 (by omega) (by omega) (by omega) (by omega) | exact ds_yes i33_2 (by omega) (by omega) (by omega) rfl (by omega))), (show -1 ≤ ((-1) : Int32).toInt from by (try rw [show ((-1) : Int32).toInt = (-1) from (show ((-1) : Int32).toInt = (-1) from rfl)]); omega), (show ((-1) : Int32).toInt ≤ 99 from by (try rw [show ((-1) : Int32).toInt = (-1) from (show ((-1) : Int32).toInt = (-1) from rfl)]); omega)⟩, by rw [ht]; exact hP, hD⟩, hS.F ht⟩) hS.2.2 dX10_doorsTo_192
            · have dc2 : y33_3.toInt < 8 := nleC (show (8 : Int32).toInt = 8 from rfl) rfl c2
              refine lv_iconst (v := 0) hx hb dX10_doorsTo_39 (by decide) ?_
              refine lv_istore (lv' := [(4, .int 0), (0, .ref (b 39)), (2, .int y), (3, .int y33_3)]) hx hb dX10_doorsTo_40 hl (by decide) rfl (fun ls hl => ?_)
              have L42 : ∀ (nn : Nat) (y42_4 : Int32) (mfar_42 : Nat → Int32) (H : Heap) (locs : List Loc) (ls : Array Slot), (0 ≤ (y42_4.toInt)) → ((y42_4.toInt) ≤ 14) → (dkI mdA mdB mdoo.toInt x.toInt.toNat (y42_4.toInt) mfar_33 mfar_42) → (14 - (y42_4.toInt)).toNat < nn → va_P (dC, dI) vwCl (wMod cI cZ cQ b mday mdoo mdA mdB mfar_42 mmar mtel mgai mfal mtop mstr mgho mfai mpto mwal mahd mahf mcho mbes mbyt mtxt mpos mtka mtok mdig mnum mfau mrdm mrea mlin mlne mthg mord mbor mbsm mans mand manr mali) H → va_D A (wMod cI cZ cQ b mday mdoo mdA mdB mfar_42 mmar mtel mgai mfal mtop mstr mgho mfai mpto mwal mahd mahf mcho mbes mbyt mtxt mpos mtka mtok mdig mnum mfau mrdm mrea mlin mlne mthg mord mbor mbsm mans mand manr mali) → va_S A s.heap H locs → lv_has ls 7 [(0, .ref (b 39)), (2, .int y), (3, .int y33_3), (4, .int y42_4)] → W p l e (headSpec wsX10_doorsTo { frames := 0, cells := 0, slots := 0, locals := 0 }).room s m ([.ref (b 39), .int x, .int y] : List Value).toArray below meth c H locs 0 0 (MQ below (va_Qi (fun (r : Int32) (u : US) => (dsR mdA mdB mdoo.toInt x y r) ∧ (-1 ≤ r.toInt) ∧ (r.toInt ≤ 99)) (Bw (dC, dI) A (fun u : US => (wMod cI cZ cQ b mday mdoo mdA mdB (u.1 0) mmar mtel mgai mfal mtop mstr mgho mfai mpto mwal mahd mahf mcho mbes mbyt mtxt mpos mtka mtok mdig mnum mfau mrdm mrea mlin mlne mthg mord mbor mbsm mans mand manr mali))) A) ([.ref (b 39), .int x, .int y] : List Value).toArray s 0 0 A) (F0 m 42 ls []) := by
                intro nn
                induction nn with
                | zero =>
                  intro y42_4 mfar_42 H locs ls i42_0 i42_1 i42_2 hm42
                  exact absurd hm42 (Nat.not_lt_zero _)
                | succ nn ih42 =>
                  intro y42_4 mfar_42 H locs ls i42_0 i42_1 i42_2 hm42 hP hD hS hl
                  refine lv_iload hx hb dX10_doorsTo_42 (lv_at hl 3 rfl) ?_
                  refine lv_aload_n hx hb dX10_doorsTo_44 rfl (lv_at hl 0 rfl) ?_
                  refine va_get (D := (dC, dI)) (ci := 10) (v := .int mdoo) (C := RX10) (T := TX10) (N := 39) hx hb hts inX10 hown hK hP 0 rfl rfl 1 (by decide) lf97 (fun _ h9 => h9) rfl dX10_doorsTo_45 ?_
                  refine lv_icmp_ge (tgt := 165) hx hb dX10_doorsTo_48 (by decide) (fun c6 => ?_) (fun c6 => ?_)
                  · have dc6 : mdoo.toInt ≤ y42_4.toInt := leC rfl rfl c6
                    obtain ⟨z7, ez7⟩ : ∃ y : Int32, y = y33_3 + 1 := ⟨_, rfl⟩
                    have iz7 : z7.toInt = y33_3.toInt + 1 := by rw [ez7]; exact addC rfl rfl (by omega) (by omega)
                    refine lv_iinc (v := z7) (lv' := [(3, .int z7), (0, .ref (b 39)), (2, .int y), (4, .int y42_4)]) hx hb dX10_doorsTo_165 hl (k := 2) rfl (by rw [ez7]; rfl) (by decide) rfl (fun ls hl => ?_)
                    refine lv_goto (tgt := 33) hx hb dX10_doorsTo_168 (by decide) ?_
                    exact ih33 z7 mfar_42 _ _ _ (by omega) (by omega) (by (first | exact dt_init i2_2 (by omega) (by omega) (by first | rfl | omega) | exact dk_end (by omega) r_mdA r_mdB (by omega) i33_2 i42_2 (by omega) (by omega) (by omega))) (by omega) hP hD hS (lv_sub hl [1, 2, 0] rfl)
                  · have dc6 : y42_4.toInt < mdoo.toInt := nleC rfl rfl c6
                    refine lv_aload_n hx hb dX10_doorsTo_51 rfl (lv_at hl 0 rfl) ?_
                    refine va_get (D := (dC, dI)) (ci := 10) (v := .ref (b 2)) (C := RX10) (T := TX10) (N := 39) hx hb hts inX10 hown hK hP 0 rfl rfl 2 (by decide) lf7 (fun _ h9 => h9) rfl dX10_doorsTo_52 ?_
                    refine lv_iload hx hb dX10_doorsTo_55 (lv_at hl 3 rfl) ?_
                    have b8 : vp_in y42_4 14 := inC rfl (by omega) (by omega)
                    refine va_iald hx hb hK hP 1 0 rfl rfl b8 dX10_doorsTo_57 ?_
                    have g9 : 0 ≤ (mdA y42_4.toNatClampNeg).toInt ∧ (mdA y42_4.toNatClampNeg).toInt ≤ 7 := rg_at r_mdA b8
                    refine lv_topi (fun x10 ex10 => ?_)
                    have ix10 : x10.toInt = (mdA y42_4.toNatClampNeg).toInt := by rw [ex10]
                    refine lv_istore (lv' := [(5, .int x10), (0, .ref (b 39)), (2, .int y), (3, .int y33_3), (4, .int y42_4)]) hx hb dX10_doorsTo_58 hl (by decide) rfl (fun ls hl => ?_)
                    refine lv_aload_n hx hb dX10_doorsTo_60 rfl (lv_at hl 1 rfl) ?_
                    refine va_get (D := (dC, dI)) (ci := 10) (v := .ref (b 3)) (C := RX10) (T := TX10) (N := 39) hx hb hts inX10 hown hK hP 0 rfl rfl 3 (by decide) lf13 (fun _ h9 => h9) rfl dX10_doorsTo_61 ?_
                    refine lv_iload hx hb dX10_doorsTo_64 (lv_at hl 4 rfl) ?_
                    have b11 : vp_in y42_4 14 := inC rfl (by omega) (by omega)
                    refine va_iald hx hb hK hP 2 0 rfl rfl b11 dX10_doorsTo_66 ?_
                    have g12 : 0 ≤ (mdB y42_4.toNatClampNeg).toInt ∧ (mdB y42_4.toNatClampNeg).toInt ≤ 7 := rg_at r_mdB b11
                    refine lv_topi (fun x13 ex13 => ?_)
                    have ix13 : x13.toInt = (mdB y42_4.toNatClampNeg).toInt := by rw [ex13]
                    refine lv_istore (lv' := [(6, .int x13), (5, .int x10), (0, .ref (b 39)), (2, .int y), (3, .int y33_3), (4, .int y42_4)]) hx hb dX10_doorsTo_67 hl (by decide) rfl (fun ls hl => ?_)
                    have wF := dk_rg i33_2 i42_2
                    have wx := wF x10.toNatClampNeg (by rw [clC (x := x10) rfl]; omega)
                    have wy := wF x13.toNatClampNeg (by rw [clC (x := x13) rfl]; omega)
                    refine lv_aload_n hx hb dX10_doorsTo_69 rfl (lv_at hl 2 rfl) ?_
                    refine va_get (D := (dC, dI)) (ci := 10) (v := .ref (b 4)) (C := RX10) (T := TX10) (N := 39) hx hb hts inX10 hown hK hP 0 rfl rfl 4 (by decide) lf16 (fun _ h9 => h9) rfl dX10_doorsTo_70 ?_
                    refine lv_iload hx hb dX10_doorsTo_73 (lv_at hl 1 rfl) ?_
                    refine lv_aload_n hx hb dX10_doorsTo_75 rfl (lv_at hl 2 rfl) ?_
                    refine va_get (D := (dC, dI)) (ci := 10) (v := .ref (b 4)) (C := RX10) (T := TX10) (N := 39) hx hb hts inX10 hown hK hP 0 rfl rfl 4 (by decide) lf16 (fun _ h9 => h9) rfl dX10_doorsTo_76 ?_
                    refine lv_iload hx hb dX10_doorsTo_79 (lv_at hl 0 rfl) ?_
                    have b14 : vp_in x13 8 := inC rfl (by omega) (by omega)
                    refine va_iald hx hb hK hP 3 0 rfl rfl b14 dX10_doorsTo_81 ?_
                    refine lv_iconst (v := 1) hx hb dX10_doorsTo_82 (by decide) ?_
                    refine lv_iadd hx hb dX10_doorsTo_83 ?_
                    have f15 : ((mfar_42 x13.toNatClampNeg) + 1).toInt = ((mfar_42 x13.toNatClampNeg).toInt) + (1) := addC rfl (show (1 : Int32).toInt = 1 from rfl) (by omega) (by omega)
                    refine lv_aload_n hx hb dX10_doorsTo_84 rfl (lv_at hl 2 rfl) ?_
                    refine va_get (D := (dC, dI)) (ci := 10) (v := .ref (b 4)) (C := RX10) (T := TX10) (N := 39) hx hb hts inX10 hown hK hP 0 rfl rfl 4 (by decide) lf16 (fun _ h9 => h9) rfl dX10_doorsTo_85 ?_
                    refine lv_iload hx hb dX10_doorsTo_88 (lv_at hl 1 rfl) ?_
                    have b16 : vp_in x10 8 := inC rfl (by omega) (by omega)
                    refine va_iald hx hb hK hP 3 0 rfl rfl b16 dX10_doorsTo_90 ?_
                    refine lv_icmp_ge (tgt := 106) hx hb dX10_doorsTo_91 (by decide) (fun c17 => ?_) (fun c17 => ?_)
                    · have dc17 : (mfar_42 x10.toNatClampNeg).toInt ≤ ((mfar_42 x13.toNatClampNeg).toInt) + (1) := leC rfl f15 c17
                      refine lv_aload_n hx hb dX10_doorsTo_106 rfl (lv_at hl 2 rfl) ?_
                      refine va_get (D := (dC, dI)) (ci := 10) (v := .ref (b 4)) (C := RX10) (T := TX10) (N := 39) hx hb hts inX10 hown hK hP 0 rfl rfl 4 (by decide) lf16 (fun _ h9 => h9) rfl dX10_doorsTo_107 ?_
                      refine lv_iload hx hb dX10_doorsTo_110 (lv_at hl 1 rfl) ?_
                      have b18 : vp_in x10 8 := inC rfl (by omega) (by omega)
                      refine va_iald hx hb hK hP 3 0 rfl rfl b18 dX10_doorsTo_112 ?_
                      refine lv_topi (fun x19 ex19 => ?_)
                      have ix19 : x19.toInt = (mfar_42 x10.toNatClampNeg).toInt := by rw [ex19]
                      have b20 : vp_in x10 8 := inC rfl (by omega) (by omega)
                      refine va_iast hx hb hK hP hD hS 3 0 rfl rfl b20 dX10_doorsTo_113 (fun H locs hP hD hS => ?_)
                      obtain ⟨mfar_u21, emfar_u21⟩ : ∃ f : Nat → Int32, f = upd mfar_42 x10.toNatClampNeg x19 := ⟨_, rfl⟩
                      have hP : va_P (dC, dI) vwCl (wMod cI cZ cQ b mday mdoo mdA mdB mfar_u21 mmar mtel mgai mfal mtop mstr mgho mfai mpto mwal mahd mahf mcho mbes mbyt mtxt mpos mtka mtok mdig mnum mfau mrdm mrea mlin mlne mthg mord mbor mbsm mans mand manr mali) H := by rw [emfar_u21]; exact hP
                      have hD : va_D A (wMod cI cZ cQ b mday mdoo mdA mdB mfar_u21 mmar mtel mgai mfal mtop mstr mgho mfai mpto mwal mahd mahf mcho mbes mbyt mtxt mpos mtka mtok mdig mnum mfau mrdm mrea mlin mlne mthg mord mbor mbsm mans mand manr mali) := by rw [emfar_u21]; exact hD
                      have wG := rg_of wF emfar_u21 (by omega) (by omega)
                      have vx := wG x10.toNatClampNeg (by rw [clC (x := x10) rfl]; omega)
                      have vy := wG x13.toNatClampNeg (by rw [clC (x := x13) rfl]; omega)
                      refine lv_aload_n hx hb dX10_doorsTo_114 rfl (lv_at hl 2 rfl) ?_
                      refine va_get (D := (dC, dI)) (ci := 10) (v := .ref (b 4)) (C := RX10) (T := TX10) (N := 39) hx hb hts inX10 hown hK hP 0 rfl rfl 4 (by decide) lf16 (fun _ h9 => h9) rfl dX10_doorsTo_115 ?_
                      refine lv_iload hx hb dX10_doorsTo_118 (lv_at hl 0 rfl) ?_
                      refine lv_aload_n hx hb dX10_doorsTo_120 rfl (lv_at hl 2 rfl) ?_
                      refine va_get (D := (dC, dI)) (ci := 10) (v := .ref (b 4)) (C := RX10) (T := TX10) (N := 39) hx hb hts inX10 hown hK hP 0 rfl rfl 4 (by decide) lf16 (fun _ h9 => h9) rfl dX10_doorsTo_121 ?_
                      refine lv_iload hx hb dX10_doorsTo_124 (lv_at hl 1 rfl) ?_
                      have b22 : vp_in x10 8 := inC rfl (by omega) (by omega)
                      refine va_iald hx hb hK hP 3 0 rfl rfl b22 dX10_doorsTo_126 ?_
                      have o23 : (mfar_u21 x10.toNatClampNeg).toInt = x19.toInt := by rw [emfar_u21, pk_us]
                      refine lv_iconst (v := 1) hx hb dX10_doorsTo_127 (by decide) ?_
                      refine lv_iadd hx hb dX10_doorsTo_128 ?_
                      have f24 : ((mfar_u21 x10.toNatClampNeg) + 1).toInt = ((mfar_u21 x10.toNatClampNeg).toInt) + (1) := addC rfl (show (1 : Int32).toInt = 1 from rfl) (by omega) (by omega)
                      refine lv_aload_n hx hb dX10_doorsTo_129 rfl (lv_at hl 2 rfl) ?_
                      refine va_get (D := (dC, dI)) (ci := 10) (v := .ref (b 4)) (C := RX10) (T := TX10) (N := 39) hx hb hts inX10 hown hK hP 0 rfl rfl 4 (by decide) lf16 (fun _ h9 => h9) rfl dX10_doorsTo_130 ?_
                      refine lv_iload hx hb dX10_doorsTo_133 (lv_at hl 0 rfl) ?_
                      have b25 : vp_in x13 8 := inC rfl (by omega) (by omega)
                      refine va_iald hx hb hK hP 3 0 rfl rfl b25 dX10_doorsTo_135 ?_
                      refine lv_icmp_ge (tgt := 151) hx hb dX10_doorsTo_136 (by decide) (fun c26 => ?_) (fun c26 => ?_)
                      · have dc26 : (mfar_u21 x13.toNatClampNeg).toInt ≤ ((mfar_u21 x10.toNatClampNeg).toInt) + (1) := leC rfl f24 c26
                        refine lv_aload_n hx hb dX10_doorsTo_151 rfl (lv_at hl 2 rfl) ?_
                        refine va_get (D := (dC, dI)) (ci := 10) (v := .ref (b 4)) (C := RX10) (T := TX10) (N := 39) hx hb hts inX10 hown hK hP 0 rfl rfl 4 (by decide) lf16 (fun _ h9 => h9) rfl dX10_doorsTo_152 ?_
                        refine lv_iload hx hb dX10_doorsTo_155 (lv_at hl 0 rfl) ?_
                        have b27 : vp_in x13 8 := inC rfl (by omega) (by omega)
                        refine va_iald hx hb hK hP 3 0 rfl rfl b27 dX10_doorsTo_157 ?_
                        refine lv_topi (fun x28 ex28 => ?_)
                        have ix28 : x28.toInt = (mfar_u21 x13.toNatClampNeg).toInt := by rw [ex28]
                        have b29 : vp_in x13 8 := inC rfl (by omega) (by omega)
                        refine va_iast hx hb hK hP hD hS 3 0 rfl rfl b29 dX10_doorsTo_158 (fun H locs hP hD hS => ?_)
                        obtain ⟨mfar_u30, emfar_u30⟩ : ∃ f : Nat → Int32, f = upd mfar_u21 x13.toNatClampNeg x28 := ⟨_, rfl⟩
                        have hP : va_P (dC, dI) vwCl (wMod cI cZ cQ b mday mdoo mdA mdB mfar_u30 mmar mtel mgai mfal mtop mstr mgho mfai mpto mwal mahd mahf mcho mbes mbyt mtxt mpos mtka mtok mdig mnum mfau mrdm mrea mlin mlne mthg mord mbor mbsm mans mand manr mali) H := by rw [emfar_u30]; exact hP
                        have hD : va_D A (wMod cI cZ cQ b mday mdoo mdA mdB mfar_u30 mmar mtel mgai mfal mtop mstr mgho mfai mpto mwal mahd mahf mcho mbes mbyt mtxt mpos mtka mtok mdig mnum mfau mrdm mrea mlin mlne mthg mord mbor mbsm mans mand manr mali) := by rw [emfar_u30]; exact hD
                        obtain ⟨z31, ez31⟩ : ∃ y : Int32, y = y42_4 + 1 := ⟨_, rfl⟩
                        have iz31 : z31.toInt = y42_4.toInt + 1 := by rw [ez31]; exact addC rfl rfl (by omega) (by omega)
                        refine lv_iinc (v := z31) (lv' := [(4, .int z31), (6, .int x13), (5, .int x10), (0, .ref (b 39)), (2, .int y), (3, .int y33_3)]) hx hb dX10_doorsTo_159 hl (k := 5) rfl (by rw [ez31]; rfl) (by decide) rfl (fun ls hl => ?_)
                        refine lv_goto (tgt := 42) hx hb dX10_doorsTo_162 (by decide) ?_
                        exact ih42 z31 mfar_u30 _ _ _ (by omega) (by omega) (by (first | exact dk_init i33_2 (by first | rfl | omega) | exact dk_step (c := y42_4) (by omega) r_mdA r_mdB i33_2 i42_2 rfl (by omega) (by omega) (by omega) (by assumption) (by assumption) (by assumption) (by omega) (by assumption) (by omega) (by omega))) (by omega) hP hD hS (lv_sub hl [3, 4, 5, 0] rfl)
                      · have dc26 : ((mfar_u21 x10.toNatClampNeg).toInt) + (1) < (mfar_u21 x13.toNatClampNeg).toInt := nleC rfl f24 c26
                        refine lv_aload_n hx hb dX10_doorsTo_139 rfl (lv_at hl 2 rfl) ?_
                        refine va_get (D := (dC, dI)) (ci := 10) (v := .ref (b 4)) (C := RX10) (T := TX10) (N := 39) hx hb hts inX10 hown hK hP 0 rfl rfl 4 (by decide) lf16 (fun _ h9 => h9) rfl dX10_doorsTo_140 ?_
                        refine lv_iload hx hb dX10_doorsTo_143 (lv_at hl 1 rfl) ?_
                        have b32 : vp_in x10 8 := inC rfl (by omega) (by omega)
                        refine va_iald hx hb hK hP 3 0 rfl rfl b32 dX10_doorsTo_145 ?_
                        have o33 : (mfar_u21 x10.toNatClampNeg).toInt = x19.toInt := by rw [emfar_u21, pk_us]
                        refine lv_iconst (v := 1) hx hb dX10_doorsTo_146 (by decide) ?_
                        refine lv_iadd hx hb dX10_doorsTo_147 ?_
                        have f34 : ((mfar_u21 x10.toNatClampNeg) + 1).toInt = ((mfar_u21 x10.toNatClampNeg).toInt) + (1) := addC rfl (show (1 : Int32).toInt = 1 from rfl) (by omega) (by omega)
                        refine lv_goto (tgt := 158) hx hb dX10_doorsTo_148 (by decide) ?_
                        refine lv_topi (fun x35 ex35 => ?_)
                        have ix35 : x35.toInt = ((mfar_u21 x10.toNatClampNeg).toInt) + (1) := by rw [ex35]; exact f34
                        have b36 : vp_in x13 8 := inC rfl (by omega) (by omega)
                        refine va_iast hx hb hK hP hD hS 3 0 rfl rfl b36 dX10_doorsTo_158 (fun H locs hP hD hS => ?_)
                        obtain ⟨mfar_u37, emfar_u37⟩ : ∃ f : Nat → Int32, f = upd mfar_u21 x13.toNatClampNeg x35 := ⟨_, rfl⟩
                        have hP : va_P (dC, dI) vwCl (wMod cI cZ cQ b mday mdoo mdA mdB mfar_u37 mmar mtel mgai mfal mtop mstr mgho mfai mpto mwal mahd mahf mcho mbes mbyt mtxt mpos mtka mtok mdig mnum mfau mrdm mrea mlin mlne mthg mord mbor mbsm mans mand manr mali) H := by rw [emfar_u37]; exact hP
                        have hD : va_D A (wMod cI cZ cQ b mday mdoo mdA mdB mfar_u37 mmar mtel mgai mfal mtop mstr mgho mfai mpto mwal mahd mahf mcho mbes mbyt mtxt mpos mtka mtok mdig mnum mfau mrdm mrea mlin mlne mthg mord mbor mbsm mans mand manr mali) := by rw [emfar_u37]; exact hD
                        obtain ⟨z38, ez38⟩ : ∃ y : Int32, y = y42_4 + 1 := ⟨_, rfl⟩
                        have iz38 : z38.toInt = y42_4.toInt + 1 := by rw [ez38]; exact addC rfl rfl (by omega) (by omega)
                        refine lv_iinc (v := z38) (lv' := [(4, .int z38), (6, .int x13), (5, .int x10), (0, .ref (b 39)), (2, .int y), (3, .int y33_3)]) hx hb dX10_doorsTo_159 hl (k := 5) rfl (by rw [ez38]; rfl) (by decide) rfl (fun ls hl => ?_)
                        refine lv_goto (tgt := 42) hx hb dX10_doorsTo_162 (by decide) ?_
                        exact ih42 z38 mfar_u37 _ _ _ (by omega) (by omega) (by (first | exact dk_init i33_2 (by first | rfl | omega) | exact dk_step (c := y42_4) (by omega) r_mdA r_mdB i33_2 i42_2 rfl (by omega) (by omega) (by omega) (by assumption) (by assumption) (by assumption) (by omega) (by assumption) (by omega) (by omega))) (by omega) hP hD hS (lv_sub hl [3, 4, 5, 0] rfl)
                    · have dc17 : ((mfar_42 x13.toNatClampNeg).toInt) + (1) < (mfar_42 x10.toNatClampNeg).toInt := nleC rfl f15 c17
                      refine lv_aload_n hx hb dX10_doorsTo_94 rfl (lv_at hl 2 rfl) ?_
                      refine va_get (D := (dC, dI)) (ci := 10) (v := .ref (b 4)) (C := RX10) (T := TX10) (N := 39) hx hb hts inX10 hown hK hP 0 rfl rfl 4 (by decide) lf16 (fun _ h9 => h9) rfl dX10_doorsTo_95 ?_
                      refine lv_iload hx hb dX10_doorsTo_98 (lv_at hl 0 rfl) ?_
                      have b39 : vp_in x13 8 := inC rfl (by omega) (by omega)
                      refine va_iald hx hb hK hP 3 0 rfl rfl b39 dX10_doorsTo_100 ?_
                      refine lv_iconst (v := 1) hx hb dX10_doorsTo_101 (by decide) ?_
                      refine lv_iadd hx hb dX10_doorsTo_102 ?_
                      have f40 : ((mfar_42 x13.toNatClampNeg) + 1).toInt = ((mfar_42 x13.toNatClampNeg).toInt) + (1) := addC rfl (show (1 : Int32).toInt = 1 from rfl) (by omega) (by omega)
                      refine lv_goto (tgt := 113) hx hb dX10_doorsTo_103 (by decide) ?_
                      refine lv_topi (fun x41 ex41 => ?_)
                      have ix41 : x41.toInt = ((mfar_42 x13.toNatClampNeg).toInt) + (1) := by rw [ex41]; exact f40
                      have b42 : vp_in x10 8 := inC rfl (by omega) (by omega)
                      refine va_iast hx hb hK hP hD hS 3 0 rfl rfl b42 dX10_doorsTo_113 (fun H locs hP hD hS => ?_)
                      obtain ⟨mfar_u43, emfar_u43⟩ : ∃ f : Nat → Int32, f = upd mfar_42 x10.toNatClampNeg x41 := ⟨_, rfl⟩
                      have hP : va_P (dC, dI) vwCl (wMod cI cZ cQ b mday mdoo mdA mdB mfar_u43 mmar mtel mgai mfal mtop mstr mgho mfai mpto mwal mahd mahf mcho mbes mbyt mtxt mpos mtka mtok mdig mnum mfau mrdm mrea mlin mlne mthg mord mbor mbsm mans mand manr mali) H := by rw [emfar_u43]; exact hP
                      have hD : va_D A (wMod cI cZ cQ b mday mdoo mdA mdB mfar_u43 mmar mtel mgai mfal mtop mstr mgho mfai mpto mwal mahd mahf mcho mbes mbyt mtxt mpos mtka mtok mdig mnum mfau mrdm mrea mlin mlne mthg mord mbor mbsm mans mand manr mali) := by rw [emfar_u43]; exact hD
                      have wG := rg_of wF emfar_u43 (by omega) (by omega)
                      have vx := wG x10.toNatClampNeg (by rw [clC (x := x10) rfl]; omega)
                      have vy := wG x13.toNatClampNeg (by rw [clC (x := x13) rfl]; omega)
                      refine lv_aload_n hx hb dX10_doorsTo_114 rfl (lv_at hl 2 rfl) ?_
                      refine va_get (D := (dC, dI)) (ci := 10) (v := .ref (b 4)) (C := RX10) (T := TX10) (N := 39) hx hb hts inX10 hown hK hP 0 rfl rfl 4 (by decide) lf16 (fun _ h9 => h9) rfl dX10_doorsTo_115 ?_
                      refine lv_iload hx hb dX10_doorsTo_118 (lv_at hl 0 rfl) ?_
                      refine lv_aload_n hx hb dX10_doorsTo_120 rfl (lv_at hl 2 rfl) ?_
                      refine va_get (D := (dC, dI)) (ci := 10) (v := .ref (b 4)) (C := RX10) (T := TX10) (N := 39) hx hb hts inX10 hown hK hP 0 rfl rfl 4 (by decide) lf16 (fun _ h9 => h9) rfl dX10_doorsTo_121 ?_
                      refine lv_iload hx hb dX10_doorsTo_124 (lv_at hl 1 rfl) ?_
                      have b44 : vp_in x10 8 := inC rfl (by omega) (by omega)
                      refine va_iald hx hb hK hP 3 0 rfl rfl b44 dX10_doorsTo_126 ?_
                      have o45 : (mfar_u43 x10.toNatClampNeg).toInt = x41.toInt := by rw [emfar_u43, pk_us]
                      refine lv_iconst (v := 1) hx hb dX10_doorsTo_127 (by decide) ?_
                      refine lv_iadd hx hb dX10_doorsTo_128 ?_
                      have f46 : ((mfar_u43 x10.toNatClampNeg) + 1).toInt = ((mfar_u43 x10.toNatClampNeg).toInt) + (1) := addC rfl (show (1 : Int32).toInt = 1 from rfl) (by omega) (by omega)
                      refine lv_aload_n hx hb dX10_doorsTo_129 rfl (lv_at hl 2 rfl) ?_
                      refine va_get (D := (dC, dI)) (ci := 10) (v := .ref (b 4)) (C := RX10) (T := TX10) (N := 39) hx hb hts inX10 hown hK hP 0 rfl rfl 4 (by decide) lf16 (fun _ h9 => h9) rfl dX10_doorsTo_130 ?_
                      refine lv_iload hx hb dX10_doorsTo_133 (lv_at hl 0 rfl) ?_
                      have b47 : vp_in x13 8 := inC rfl (by omega) (by omega)
                      refine va_iald hx hb hK hP 3 0 rfl rfl b47 dX10_doorsTo_135 ?_
                      refine lv_icmp_ge (tgt := 151) hx hb dX10_doorsTo_136 (by decide) (fun c48 => ?_) (fun c48 => ?_)
                      · have dc48 : (mfar_u43 x13.toNatClampNeg).toInt ≤ ((mfar_u43 x10.toNatClampNeg).toInt) + (1) := leC rfl f46 c48
                        refine lv_aload_n hx hb dX10_doorsTo_151 rfl (lv_at hl 2 rfl) ?_
                        refine va_get (D := (dC, dI)) (ci := 10) (v := .ref (b 4)) (C := RX10) (T := TX10) (N := 39) hx hb hts inX10 hown hK hP 0 rfl rfl 4 (by decide) lf16 (fun _ h9 => h9) rfl dX10_doorsTo_152 ?_
                        refine lv_iload hx hb dX10_doorsTo_155 (lv_at hl 0 rfl) ?_
                        have b49 : vp_in x13 8 := inC rfl (by omega) (by omega)
                        refine va_iald hx hb hK hP 3 0 rfl rfl b49 dX10_doorsTo_157 ?_
                        refine lv_topi (fun x50 ex50 => ?_)
                        have ix50 : x50.toInt = (mfar_u43 x13.toNatClampNeg).toInt := by rw [ex50]
                        have b51 : vp_in x13 8 := inC rfl (by omega) (by omega)
                        refine va_iast hx hb hK hP hD hS 3 0 rfl rfl b51 dX10_doorsTo_158 (fun H locs hP hD hS => ?_)
                        obtain ⟨mfar_u52, emfar_u52⟩ : ∃ f : Nat → Int32, f = upd mfar_u43 x13.toNatClampNeg x50 := ⟨_, rfl⟩
                        have hP : va_P (dC, dI) vwCl (wMod cI cZ cQ b mday mdoo mdA mdB mfar_u52 mmar mtel mgai mfal mtop mstr mgho mfai mpto mwal mahd mahf mcho mbes mbyt mtxt mpos mtka mtok mdig mnum mfau mrdm mrea mlin mlne mthg mord mbor mbsm mans mand manr mali) H := by rw [emfar_u52]; exact hP
                        have hD : va_D A (wMod cI cZ cQ b mday mdoo mdA mdB mfar_u52 mmar mtel mgai mfal mtop mstr mgho mfai mpto mwal mahd mahf mcho mbes mbyt mtxt mpos mtka mtok mdig mnum mfau mrdm mrea mlin mlne mthg mord mbor mbsm mans mand manr mali) := by rw [emfar_u52]; exact hD
                        obtain ⟨z53, ez53⟩ : ∃ y : Int32, y = y42_4 + 1 := ⟨_, rfl⟩
                        have iz53 : z53.toInt = y42_4.toInt + 1 := by rw [ez53]; exact addC rfl rfl (by omega) (by omega)
                        refine lv_iinc (v := z53) (lv' := [(4, .int z53), (6, .int x13), (5, .int x10), (0, .ref (b 39)), (2, .int y), (3, .int y33_3)]) hx hb dX10_doorsTo_159 hl (k := 5) rfl (by rw [ez53]; rfl) (by decide) rfl (fun ls hl => ?_)
                        refine lv_goto (tgt := 42) hx hb dX10_doorsTo_162 (by decide) ?_
                        exact ih42 z53 mfar_u52 _ _ _ (by omega) (by omega) (by (first | exact dk_init i33_2 (by first | rfl | omega) | exact dk_step (c := y42_4) (by omega) r_mdA r_mdB i33_2 i42_2 rfl (by omega) (by omega) (by omega) (by assumption) (by assumption) (by assumption) (by omega) (by assumption) (by omega) (by omega))) (by omega) hP hD hS (lv_sub hl [3, 4, 5, 0] rfl)
                      · have dc48 : ((mfar_u43 x10.toNatClampNeg).toInt) + (1) < (mfar_u43 x13.toNatClampNeg).toInt := nleC rfl f46 c48
                        refine lv_aload_n hx hb dX10_doorsTo_139 rfl (lv_at hl 2 rfl) ?_
                        refine va_get (D := (dC, dI)) (ci := 10) (v := .ref (b 4)) (C := RX10) (T := TX10) (N := 39) hx hb hts inX10 hown hK hP 0 rfl rfl 4 (by decide) lf16 (fun _ h9 => h9) rfl dX10_doorsTo_140 ?_
                        refine lv_iload hx hb dX10_doorsTo_143 (lv_at hl 1 rfl) ?_
                        have b54 : vp_in x10 8 := inC rfl (by omega) (by omega)
                        refine va_iald hx hb hK hP 3 0 rfl rfl b54 dX10_doorsTo_145 ?_
                        have o55 : (mfar_u43 x10.toNatClampNeg).toInt = x41.toInt := by rw [emfar_u43, pk_us]
                        refine lv_iconst (v := 1) hx hb dX10_doorsTo_146 (by decide) ?_
                        refine lv_iadd hx hb dX10_doorsTo_147 ?_
                        have f56 : ((mfar_u43 x10.toNatClampNeg) + 1).toInt = ((mfar_u43 x10.toNatClampNeg).toInt) + (1) := addC rfl (show (1 : Int32).toInt = 1 from rfl) (by omega) (by omega)
                        refine lv_goto (tgt := 158) hx hb dX10_doorsTo_148 (by decide) ?_
                        refine lv_topi (fun x57 ex57 => ?_)
                        have ix57 : x57.toInt = ((mfar_u43 x10.toNatClampNeg).toInt) + (1) := by rw [ex57]; exact f56
                        have b58 : vp_in x13 8 := inC rfl (by omega) (by omega)
                        refine va_iast hx hb hK hP hD hS 3 0 rfl rfl b58 dX10_doorsTo_158 (fun H locs hP hD hS => ?_)
                        obtain ⟨mfar_u59, emfar_u59⟩ : ∃ f : Nat → Int32, f = upd mfar_u43 x13.toNatClampNeg x57 := ⟨_, rfl⟩
                        have hP : va_P (dC, dI) vwCl (wMod cI cZ cQ b mday mdoo mdA mdB mfar_u59 mmar mtel mgai mfal mtop mstr mgho mfai mpto mwal mahd mahf mcho mbes mbyt mtxt mpos mtka mtok mdig mnum mfau mrdm mrea mlin mlne mthg mord mbor mbsm mans mand manr mali) H := by rw [emfar_u59]; exact hP
                        have hD : va_D A (wMod cI cZ cQ b mday mdoo mdA mdB mfar_u59 mmar mtel mgai mfal mtop mstr mgho mfai mpto mwal mahd mahf mcho mbes mbyt mtxt mpos mtka mtok mdig mnum mfau mrdm mrea mlin mlne mthg mord mbor mbsm mans mand manr mali) := by rw [emfar_u59]; exact hD
                        obtain ⟨z60, ez60⟩ : ∃ y : Int32, y = y42_4 + 1 := ⟨_, rfl⟩
                        have iz60 : z60.toInt = y42_4.toInt + 1 := by rw [ez60]; exact addC rfl rfl (by omega) (by omega)
                        refine lv_iinc (v := z60) (lv' := [(4, .int z60), (6, .int x13), (5, .int x10), (0, .ref (b 39)), (2, .int y), (3, .int y33_3)]) hx hb dX10_doorsTo_159 hl (k := 5) rfl (by rw [ez60]; rfl) (by decide) rfl (fun ls hl => ?_)
                        refine lv_goto (tgt := 42) hx hb dX10_doorsTo_162 (by decide) ?_
                        exact ih42 z60 mfar_u59 _ _ _ (by omega) (by omega) (by (first | exact dk_init i33_2 (by first | rfl | omega) | exact dk_step (c := y42_4) (by omega) r_mdA r_mdB i33_2 i42_2 rfl (by omega) (by omega) (by omega) (by assumption) (by assumption) (by assumption) (by omega) (by assumption) (by omega) (by omega))) (by omega) hP hD hS (lv_sub hl [3, 4, 5, 0] rfl)
              have kc61 : (0 : Int32).toInt = 0 := rfl
              exact L42 _ 0 mfar_33 _ _ _ (by omega) (by omega) (by (first | exact dk_init i33_2 (by first | rfl | omega) | exact dk_step (c := y42_4) (by omega) r_mdA r_mdB i33_2 i42_2 rfl (by omega) (by omega) (by omega) (by assumption) (by assumption) (by assumption) (by omega) (by assumption) (by omega) (by omega))) (Nat.lt_succ_self _) hP hD hS (lv_sub hl [1, 2, 3, 0] rfl)
        have kc62 : (0 : Int32).toInt = 0 := rfl
        exact L33 _ 0 mfar_2 _ _ _ (by omega) (by omega) (by (first | exact dt_init i2_2 (by omega) (by omega) (by first | rfl | omega) | exact dk_end (by omega) r_mdA r_mdB (by omega) i33_2 i42_2 (by omega) (by omega) (by omega))) (Nat.lt_succ_self _) hP hD hS (lv_sub hl [1, 3, 0] rfl)
      · have dc1 : y2_3.toInt < 8 := nleC (show (8 : Int32).toInt = 8 from rfl) rfl c1
        refine lv_aload_n hx hb dX10_doorsTo_8 rfl (lv_at hl 0 rfl) ?_
        refine va_get (D := (dC, dI)) (ci := 10) (v := .ref (b 4)) (C := RX10) (T := TX10) (N := 39) hx hb hts inX10 hown hK hP 0 rfl rfl 4 (by decide) lf16 (fun _ h9 => h9) rfl dX10_doorsTo_9 ?_
        refine lv_iload_n hx hb dX10_doorsTo_12 rfl (lv_at hl 3 rfl) ?_
        refine lv_iload_n hx hb dX10_doorsTo_13 rfl (lv_at hl 3 rfl) ?_
        refine lv_iload_n hx hb dX10_doorsTo_14 rfl (lv_at hl 1 rfl) ?_
        refine lv_icmp_ne (tgt := 22) hx hb dX10_doorsTo_15 (by decide) (fun c63 => ?_) (fun c63 => ?_)
        · have dc63 : y2_3.toInt ≠ x.toInt := neC rfl rfl c63
          refine lv_bipush (v := 100) hx hb dX10_doorsTo_22 (by decide) ?_
          have b64 : vp_in y2_3 8 := inC rfl (by omega) (by omega)
          refine va_iast hx hb hK hP hD hS 3 0 rfl rfl b64 dX10_doorsTo_24 (fun H locs hP hD hS => ?_)
          obtain ⟨mfar_u65, emfar_u65⟩ : ∃ f : Nat → Int32, f = upd mfar_2 y2_3.toNatClampNeg 100 := ⟨_, rfl⟩
          have hP : va_P (dC, dI) vwCl (wMod cI cZ cQ b mday mdoo mdA mdB mfar_u65 mmar mtel mgai mfal mtop mstr mgho mfai mpto mwal mahd mahf mcho mbes mbyt mtxt mpos mtka mtok mdig mnum mfau mrdm mrea mlin mlne mthg mord mbor mbsm mans mand manr mali) H := by rw [emfar_u65]; exact hP
          have hD : va_D A (wMod cI cZ cQ b mday mdoo mdA mdB mfar_u65 mmar mtel mgai mfal mtop mstr mgho mfai mpto mwal mahd mahf mcho mbes mbyt mtxt mpos mtka mtok mdig mnum mfau mrdm mrea mlin mlne mthg mord mbor mbsm mans mand manr mali) := by rw [emfar_u65]; exact hD
          obtain ⟨z66, ez66⟩ : ∃ y : Int32, y = y2_3 + 1 := ⟨_, rfl⟩
          have iz66 : z66.toInt = y2_3.toInt + 1 := by rw [ez66]; exact addC rfl rfl (by omega) (by omega)
          refine lv_iinc (v := z66) (lv' := [(3, .int z66), (0, .ref (b 39)), (1, .int x), (2, .int y)]) hx hb dX10_doorsTo_25 hl (k := 3) rfl (by rw [ez66]; rfl) (by decide) rfl (fun ls hl => ?_)
          refine lv_goto (tgt := 2) hx hb dX10_doorsTo_28 (by decide) ?_
          exact ih2 z66 mfar_u65 _ _ _ (by omega) (by omega) (by (first | exact fi8_init (by first | rfl | omega) | exact fi8_step i2_2 (by assumption) (by omega) (by first | exact Or.inl ⟨by omega, rfl⟩ | exact Or.inr ⟨by omega, rfl⟩) (by omega))) (by omega) hP hD hS (lv_sub hl [1, 2, 3, 0] rfl)
        · have dc63 : y2_3.toInt = x.toInt := eqC rfl rfl c63
          refine lv_iconst (v := 0) hx hb dX10_doorsTo_18 (by decide) ?_
          refine lv_goto (tgt := 24) hx hb dX10_doorsTo_19 (by decide) ?_
          have b67 : vp_in y2_3 8 := inC rfl (by omega) (by omega)
          refine va_iast hx hb hK hP hD hS 3 0 rfl rfl b67 dX10_doorsTo_24 (fun H locs hP hD hS => ?_)
          obtain ⟨mfar_u68, emfar_u68⟩ : ∃ f : Nat → Int32, f = upd mfar_2 y2_3.toNatClampNeg 0 := ⟨_, rfl⟩
          have hP : va_P (dC, dI) vwCl (wMod cI cZ cQ b mday mdoo mdA mdB mfar_u68 mmar mtel mgai mfal mtop mstr mgho mfai mpto mwal mahd mahf mcho mbes mbyt mtxt mpos mtka mtok mdig mnum mfau mrdm mrea mlin mlne mthg mord mbor mbsm mans mand manr mali) H := by rw [emfar_u68]; exact hP
          have hD : va_D A (wMod cI cZ cQ b mday mdoo mdA mdB mfar_u68 mmar mtel mgai mfal mtop mstr mgho mfai mpto mwal mahd mahf mcho mbes mbyt mtxt mpos mtka mtok mdig mnum mfau mrdm mrea mlin mlne mthg mord mbor mbsm mans mand manr mali) := by rw [emfar_u68]; exact hD
          obtain ⟨z69, ez69⟩ : ∃ y : Int32, y = y2_3 + 1 := ⟨_, rfl⟩
          have iz69 : z69.toInt = y2_3.toInt + 1 := by rw [ez69]; exact addC rfl rfl (by omega) (by omega)
          refine lv_iinc (v := z69) (lv' := [(3, .int z69), (0, .ref (b 39)), (1, .int x), (2, .int y)]) hx hb dX10_doorsTo_25 hl (k := 3) rfl (by rw [ez69]; rfl) (by decide) rfl (fun ls hl => ?_)
          refine lv_goto (tgt := 2) hx hb dX10_doorsTo_28 (by decide) ?_
          exact ih2 z69 mfar_u68 _ _ _ (by omega) (by omega) (by (first | exact fi8_init (by first | rfl | omega) | exact fi8_step i2_2 (by assumption) (by omega) (by first | exact Or.inl ⟨by omega, rfl⟩ | exact Or.inr ⟨by omega, rfl⟩) (by omega))) (by omega) hP hD hS (lv_sub hl [1, 2, 3, 0] rfl)
  have kc70 : (0 : Int32).toInt = 0 := rfl
  exact L2 _ 0 mfar _ _ _ (by omega) (by omega) (by (first | exact fi8_init (by first | rfl | omega) | exact fi8_step i2_2 (by assumption) (by omega) (by first | exact Or.inl ⟨by omega, rfl⟩ | exact Or.inr ⟨by omega, rfl⟩) (by omega))) (Nat.lt_succ_self _) hP hD hS (lv_sub hl [1, 2, 3, 0] rfl)
