set_option maxHeartbeats 4000000 in
set_option maxRecDepth 100000 in
theorem k_X10_nextToken2 (l : Launch) (dC : Nat → ClassId) (dI : Nat → Nat → Nat) (cI cZ cQ : ClassId) (b : Nat → Nat) (mday : Int32) (mdoo : Int32) (mtel : Int32) (mgai : Int32) (mbyt : Int32) (mtxt : Nat → Int32) (mpos : Int32) (mtka : Int32) (mtok : Int64) (mdig : Int32) (mnum : Int32) (mfau : Int32) (mrdm : Int32) (mlin : Int32) (mbsm : Int32) (sz : Nat) (r_mday : 0 ≤ mday.toInt ∧ mday.toInt ≤ 400) (r_mdoo : 0 ≤ mdoo.toInt ∧ mdoo.toInt ≤ 14) (r_mgai : 0 ≤ mgai.toInt ∧ mgai.toInt ≤ 100) (r_mbyt : 0 ≤ mbyt.toInt ∧ mbyt.toInt ≤ 160) (r_mpos : 0 ≤ mpos.toInt ∧ mpos.toInt ≤ 160) (r_mrdm : 0 ≤ mrdm.toInt ∧ mrdm.toInt ≤ 10) (r_mlin : 0 ≤ mlin.toInt ∧ mlin.toInt ≤ 10) (q0 : mpos.toInt ≤ mbyt.toInt) : KV l yX10_nextToken wsX10_nextToken { frames := 1, cells := 0, slots := 0, locals := 22 } (dC, dI) (TY cI cZ cQ) (wMdT cI cZ cQ b mday mdoo mtel mgai mbyt mtxt mpos mtka mtok mdig mnum mfau mrdm mlin mbsm) [.ref (b 39)] sz 0 0 (fun (u : US) => ((u.1 0 0).toInt ≤ mbyt.toInt) ∧ (0 ≤ (u.1 1 0).toInt) ∧ ((u.1 1 0).toInt ≤ (u.1 0 0).toInt) ∧ ((u.1 1 0).toInt = tS mtxt mbyt.toInt mpos.toInt) ∧ ((u.1 0 0).toInt = tE mtxt mbyt.toInt (u.1 1 0).toInt) ∧ (u.2.1 = tkV mtxt mbyt.toInt (u.1 1 0).toInt (u.1 0 0).toInt) ∧ (nmP mtxt mbyt.toInt (u.1 1 0).toInt (u.1 0 0).toInt (u.1 4 0)) ∧ (0 ≤ (u.1 0 0).toInt ∧ (u.1 0 0).toInt ≤ 160)) (fun u : US => (wMdT cI cZ cQ b mday mdoo mtel mgai mbyt mtxt (u.1 0 0) (u.1 1 0) u.2.1 (u.1 3 0) (u.1 4 0) mfau mrdm mlin mbsm)) := by
  refine Met.ofW (cc := cX10_nextToken) (maxL := 1) (ret := none) (by decide) rfl ?_
  intro p e s m args below meth c s₁ B hml hv
  obtain ⟨rfl, hsz, hP, hK, hD0, hN⟩ := hv
  have hx := B.exec
  have hb := B.bytes
  have hr := B.returns
  have hts := atoms_spec (ws := wsX10_nextToken) B.pre
  have hown : s.vm.findClass RX10 = some m.cls := findClass_of_methodNamed B.named
  have hlocks := B.notSynchronized
  have lf146 := hts (.fieldLink RX10 146 "PalaceOfRoomsModel" "position" "I") (List.mem_cons_of_mem _ (List.mem_append_left _ (List.mem_of_getElem? (i := 0) rfl)))
  have inX10 : ∀ w ∈ wsX100, w ∈ wsX10_nextToken := fun w h => List.mem_cons_of_mem _ (List.mem_append_right _ h)
  have lf141 := hts (.fieldLink RX10 141 "PalaceOfRoomsModel" "bytes" "I") (List.mem_cons_of_mem _ (List.mem_append_left _ (List.mem_of_getElem? (i := 1) rfl)))
  have lf149 := hts (.fieldLink RX10 149 "PalaceOfRoomsModel" "tokenAt" "I") (List.mem_cons_of_mem _ (List.mem_append_left _ (List.mem_of_getElem? (i := 3) rfl)))
  have lf152 := hts (.fieldLink RX10 152 "PalaceOfRoomsModel" "digits" "I") (List.mem_cons_of_mem _ (List.mem_append_left _ (List.mem_of_getElem? (i := 4) rfl)))
  have lf155 := hts (.fieldLink RX10 155 "PalaceOfRoomsModel" "number" "I") (List.mem_cons_of_mem _ (List.mem_append_left _ (List.mem_of_getElem? (i := 5) rfl)))
  have lf62 := hts (.fieldLink RX10 62 "PalaceOfRoomsModel" "text" "[I") (List.mem_cons_of_mem _ (List.mem_append_left _ (List.mem_of_getElem? (i := 2) rfl)))
  have lf160 := hts (.fieldLink RX10 160 "PalaceOfRoomsModel" "token" "J") (List.mem_cons_of_mem _ (List.mem_append_left _ (List.mem_of_getElem? (i := 7) rfl)))
  subst hsz
  have hD := hD0.self (sz := s.heap.size)
  generalize hAe : va_A (wMdT cI cZ cQ b mday mdoo mtel mgai mbyt mtxt mpos mtka mtok mdig mnum mfau mrdm mlin mbsm) s.heap.size = A at hD ⊢
  have hA : ∀ q : Nat, s.heap.size ≤ q → A q := fun q h => by rw [← hAe]; exact Or.inr h
  have hS : va_S A s.heap s.heap [] := va_S.rf
  have hl := lv_entry ([.ref (b 39)]) (n := 1) (Nat.le_of_ble_eq_true rfl)
  rw [lg_entry_eq]
  generalize (lg_sl ([.ref (b 39)]) ++ List.replicate (1 - (lg_sl ([.ref (b 39)])).length) Slot.unset).toArray = ls at hl ⊢
  have hl : lv_has ls 1 [(0, .ref (b 39))] := hl
  have L0 : ∀ (nn : Nat) (mpos_0 : Int32) (H : Heap) (locs : List Loc) (ls : Array Slot), (0 ≤ mpos_0.toInt ∧ mpos_0.toInt ≤ 160) → (mpos_0.toInt ≤ mbyt.toInt) → (tS mtxt mbyt.toInt mpos_0.toInt = tS mtxt mbyt.toInt mpos.toInt) → (mbyt.toInt - mpos_0.toInt).toNat < nn → va_P (dC, dI) vwCl (wMdT cI cZ cQ b mday mdoo mtel mgai mbyt mtxt mpos_0 mtka mtok mdig mnum mfau mrdm mlin mbsm) H → va_D A (wMdT cI cZ cQ b mday mdoo mtel mgai mbyt mtxt mpos_0 mtka mtok mdig mnum mfau mrdm mlin mbsm) → va_S A s.heap H locs → lv_has ls 1 [(0, .ref (b 39))] → W p l e (headSpec wsX10_nextToken { frames := 1, cells := 0, slots := 0, locals := 22 }).room s m ([.ref (b 39)] : List Value).toArray below meth c H locs 0 0 (MQ below (va_Qv (fun (u : US) => ((u.1 0 0).toInt ≤ mbyt.toInt) ∧ (0 ≤ (u.1 1 0).toInt) ∧ ((u.1 1 0).toInt ≤ (u.1 0 0).toInt) ∧ ((u.1 1 0).toInt = tS mtxt mbyt.toInt mpos.toInt) ∧ ((u.1 0 0).toInt = tE mtxt mbyt.toInt (u.1 1 0).toInt) ∧ (u.2.1 = tkV mtxt mbyt.toInt (u.1 1 0).toInt (u.1 0 0).toInt) ∧ (nmP mtxt mbyt.toInt (u.1 1 0).toInt (u.1 0 0).toInt (u.1 4 0)) ∧ (0 ≤ (u.1 0 0).toInt ∧ (u.1 0 0).toInt ≤ 160)) (Bw (dC, dI) A (fun u : US => (wMdT cI cZ cQ b mday mdoo mtel mgai mbyt mtxt (u.1 0 0) (u.1 1 0) u.2.1 (u.1 3 0) (u.1 4 0) mfau mrdm mlin mbsm))) A) ([.ref (b 39)] : List Value).toArray s 0 0 A) (F0 m 0 ls []) := by
    intro nn
    induction nn with
    | zero =>
      intro mpos_0 H locs ls r_mpos_0 i0_0 i0_1 hm0
      exact absurd hm0 (Nat.not_lt_zero _)
    | succ nn ih0 =>
      intro mpos_0 H locs ls r_mpos_0 i0_0 i0_1 hm0 hP hD hS hl
      refine lv_aload_n hx hb dX10_nextToken_0 rfl (lv_at hl 0 rfl) ?_
      refine va_get (D := (dC, dI)) (ci := 10) (v := .int mpos_0) (C := RX10) (T := TX10) (N := 39) hx hb hts inX10 hown hK hP 0 rfl rfl 21 (by decide) lf146 (fun _ h9 => h9) rfl dX10_nextToken_1 ?_
      refine lv_aload_n hx hb dX10_nextToken_4 rfl (lv_at hl 0 rfl) ?_
      refine va_get (D := (dC, dI)) (ci := 10) (v := .int mbyt) (C := RX10) (T := TX10) (N := 39) hx hb hts inX10 hown hK hP 0 rfl rfl 19 (by decide) lf141 (fun _ h9 => h9) rfl dX10_nextToken_5 ?_
      refine lv_icmp_ge (tgt := 38) hx hb dX10_nextToken_8 (by decide) (fun c1 => ?_) (fun c1 => ?_)
      · have dc1 : mbyt.toInt ≤ mpos_0.toInt := leC rfl rfl c1
        refine lv_aload_n hx hb dX10_nextToken_38 rfl (lv_at hl 0 rfl) ?_
        refine lv_aload_n hx hb dX10_nextToken_39 rfl (lv_at hl 0 rfl) ?_
        refine va_get (D := (dC, dI)) (ci := 10) (v := .int mpos_0) (C := RX10) (T := TX10) (N := 39) hx hb hts inX10 hown hK hP 0 rfl rfl 21 (by decide) lf146 (fun _ h9 => h9) rfl dX10_nextToken_40 ?_
        refine va_put (D := (dC, dI)) (ci := 10) (v := .int mpos_0) (ty := .int) (C := RX10) (T := TX10) (N := 39) hx hb hts inX10 tyX10 tyX10_ok nmX10 hown hK hP hD hS 0 rfl rfl 22 (by decide) lf149 (fun _ h9 => h9) rfl (by decide +kernel) rfl rfl (Nat.le_of_ble_eq_true rfl) dX10_nextToken_43 (fun H locs hP hD hS => ?_)
        have hP : va_P (dC, dI) vwCl (wMdT cI cZ cQ b mday mdoo mtel mgai mbyt mtxt mpos_0 mpos_0 mtok mdig mnum mfau mrdm mlin mbsm) H := hP
        have hD : va_D A (wMdT cI cZ cQ b mday mdoo mtel mgai mbyt mtxt mpos_0 mpos_0 mtok mdig mnum mfau mrdm mlin mbsm) := hD
        refine lv_aload_n hx hb dX10_nextToken_46 rfl (lv_at hl 0 rfl) ?_
        refine lv_iconst (v := 0) hx hb dX10_nextToken_47 (by decide) ?_
        refine va_put (D := (dC, dI)) (ci := 10) (v := .int 0) (ty := .int) (C := RX10) (T := TX10) (N := 39) hx hb hts inX10 tyX10 tyX10_ok nmX10 hown hK hP hD hS 0 rfl rfl 24 (by decide) lf152 (fun _ h9 => h9) rfl (by decide +kernel) rfl rfl (Nat.le_of_ble_eq_true rfl) dX10_nextToken_48 (fun H locs hP hD hS => ?_)
        have hP : va_P (dC, dI) vwCl (wMdT cI cZ cQ b mday mdoo mtel mgai mbyt mtxt mpos_0 mpos_0 mtok 0 mnum mfau mrdm mlin mbsm) H := hP
        have hD : va_D A (wMdT cI cZ cQ b mday mdoo mtel mgai mbyt mtxt mpos_0 mpos_0 mtok 0 mnum mfau mrdm mlin mbsm) := hD
        refine lv_aload_n hx hb dX10_nextToken_51 rfl (lv_at hl 0 rfl) ?_
        refine lv_iconst (v := 0) hx hb dX10_nextToken_52 (by decide) ?_
        refine va_put (D := (dC, dI)) (ci := 10) (v := .int 0) (ty := .int) (C := RX10) (T := TX10) (N := 39) hx hb hts inX10 tyX10 tyX10_ok nmX10 hown hK hP hD hS 0 rfl rfl 25 (by decide) lf155 (fun _ h9 => h9) rfl (by decide +kernel) rfl rfl (Nat.le_of_ble_eq_true rfl) dX10_nextToken_53 (fun H locs hP hD hS => ?_)
        have hP : va_P (dC, dI) vwCl (wMdT cI cZ cQ b mday mdoo mtel mgai mbyt mtxt mpos_0 mpos_0 mtok 0 0 mfau mrdm mlin mbsm) H := hP
        have hD : va_D A (wMdT cI cZ cQ b mday mdoo mtel mgai mbyt mtxt mpos_0 mpos_0 mtok 0 0 mfau mrdm mlin mbsm) := hD
        refine lv_aload_n hx hb dX10_nextToken_56 rfl (lv_at hl 0 rfl) ?_
        refine va_get (D := (dC, dI)) (ci := 10) (v := .int mpos_0) (C := RX10) (T := TX10) (N := 39) hx hb hts inX10 hown hK hP 0 rfl rfl 21 (by decide) lf146 (fun _ h9 => h9) rfl dX10_nextToken_57 ?_
        refine lv_aload_n hx hb dX10_nextToken_60 rfl (lv_at hl 0 rfl) ?_
        refine va_get (D := (dC, dI)) (ci := 10) (v := .int mbyt) (C := RX10) (T := TX10) (N := 39) hx hb hts inX10 hown hK hP 0 rfl rfl 19 (by decide) lf141 (fun _ h9 => h9) rfl dX10_nextToken_61 ?_
        refine lv_icmp_ne (tgt := 77) hx hb dX10_nextToken_64 (by decide) (fun c2 => ?_) (fun c2 => ?_)
        · have dc2 : mpos_0.toInt ≠ mbyt.toInt := neC rfl rfl c2
          refine lv_aload_n hx hb dX10_nextToken_77 rfl (lv_at hl 0 rfl) ?_
          refine va_get (D := (dC, dI)) (ci := 10) (v := .ref (b 20)) (C := RX10) (T := TX10) (N := 39) hx hb hts inX10 hown hK hP 0 rfl rfl 20 (by decide) lf62 (fun _ h9 => h9) rfl dX10_nextToken_78 ?_
          refine lv_aload_n hx hb dX10_nextToken_81 rfl (lv_at hl 0 rfl) ?_
          refine va_get (D := (dC, dI)) (ci := 10) (v := .int mpos_0) (C := RX10) (T := TX10) (N := 39) hx hb hts inX10 hown hK hP 0 rfl rfl 21 (by decide) lf146 (fun _ h9 => h9) rfl dX10_nextToken_82 ?_
          have b3 : vp_in mpos_0 160 := inC rfl (by omega) (by omega)
          refine va_iald hx hb hK hP 1 0 rfl rfl b3 dX10_nextToken_85 ?_
          refine lv_bipush (v := 97) hx hb dX10_nextToken_86 (by decide) ?_
          refine lv_bipush (v := 122) hx hb dX10_nextToken_88 (by decide) ?_
          refine rdS (As := [.int (mtxt mpos_0.toNatClampNeg), .int 97, .int 122]) (rest := []) ⟨hx, hb, hml, hown, hts⟩ (k_X10_in l dC dI cI cZ cQ (mtxt mpos_0.toNatClampNeg) (97 : Int32) (122 : Int32)) (va_cwS 3 hts gX10_nextToken_X10_in rfl rfl rfl (by decide +kernel) ⟨Nat.le_of_ble_eq_true rfl, Nat.le_of_ble_eq_true rfl⟩) hP hK hN [] rfl rfl hl.1 rfl (Nat.le_of_ble_eq_true rfl) dX10_nextToken_90 ⟨Nat.le_of_ble_eq_true rfl, Nat.le_of_ble_eq_true rfl⟩ (fun r4 h5 => ?_)
          have h5 : ((((r4 = 1) ∧ ((97) ≤ (mtxt mpos_0.toNatClampNeg).toInt) ∧ ((mtxt mpos_0.toNatClampNeg).toInt ≤ (122))) ∨ ((r4 = 0) ∧ ((mtxt mpos_0.toNatClampNeg).toInt < (97) ∨ (122) < (mtxt mpos_0.toNatClampNeg).toInt)))) := h5
          rcases h5 with (⟨rfl, h5_a0, h5_a1⟩ | ⟨rfl, h5_a0⟩)
          · refine lv_if_eq (tgt := 222) hx hb dX10_nextToken_93 (by decide) (fun c9 => absurd c9 (by decide)) (fun _ => ?_)
            refine lv_aload_n hx hb dX10_nextToken_96 rfl (lv_at hl 0 rfl) ?_
            refine lv_lconst (v := 0) hx hb dX10_nextToken_97 (by decide) ?_
            refine va_put (D := (dC, dI)) (ci := 10) (v := .long 0) (ty := .long) (C := RX10) (T := TX10) (N := 39) hx hb hts inX10 tyX10 tyX10_ok nmX10 hown hK hP hD hS 0 rfl rfl 23 (by decide) lf160 (fun _ h9 => h9) rfl (by decide +kernel) rfl rfl (Nat.le_of_ble_eq_true rfl) dX10_nextToken_98 (fun H locs hP hD hS => ?_)
            have hP : va_P (dC, dI) vwCl (wMdT cI cZ cQ b mday mdoo mtel mgai mbyt mtxt mpos_0 mpos_0 0 0 0 mfau mrdm mlin mbsm) H := hP
            have hD : va_D A (wMdT cI cZ cQ b mday mdoo mtel mgai mbyt mtxt mpos_0 mpos_0 0 0 0 mfau mrdm mlin mbsm) := hD
            have L101 : ∀ (nn : Nat) (mpos_101 : Int32) (mtok_101 : Int64) (H : Heap) (locs : List Loc) (ls : Array Slot), (0 ≤ mpos_101.toInt ∧ mpos_101.toInt ≤ 160) → (mpos_101.toInt ≤ mbyt.toInt) → (mpos_0.toInt ≤ mpos_101.toInt) → (tR mtxt 1 mbyt.toInt mpos_101.toInt = tR mtxt 1 mbyt.toInt mpos_0.toInt) → (9 < mpos_101.toInt - mpos_0.toInt ∨ mtok_101 = wvF mtxt mpos_0.toInt (mpos_101.toInt - mpos_0.toInt).toNat) → (mbyt.toInt - mpos_101.toInt).toNat < nn → va_P (dC, dI) vwCl (wMdT cI cZ cQ b mday mdoo mtel mgai mbyt mtxt mpos_101 mpos_0 mtok_101 0 0 mfau mrdm mlin mbsm) H → va_D A (wMdT cI cZ cQ b mday mdoo mtel mgai mbyt mtxt mpos_101 mpos_0 mtok_101 0 0 mfau mrdm mlin mbsm) → va_S A s.heap H locs → lv_has ls 1 [(0, .ref (b 39))] → W p l e (headSpec wsX10_nextToken { frames := 1, cells := 0, slots := 0, locals := 22 }).room s m ([.ref (b 39)] : List Value).toArray below meth c H locs 0 0 (MQ below (va_Qv (fun (u : US) => ((u.1 0 0).toInt ≤ mbyt.toInt) ∧ (0 ≤ (u.1 1 0).toInt) ∧ ((u.1 1 0).toInt ≤ (u.1 0 0).toInt) ∧ ((u.1 1 0).toInt = tS mtxt mbyt.toInt mpos.toInt) ∧ ((u.1 0 0).toInt = tE mtxt mbyt.toInt (u.1 1 0).toInt) ∧ (u.2.1 = tkV mtxt mbyt.toInt (u.1 1 0).toInt (u.1 0 0).toInt) ∧ (nmP mtxt mbyt.toInt (u.1 1 0).toInt (u.1 0 0).toInt (u.1 4 0)) ∧ (0 ≤ (u.1 0 0).toInt ∧ (u.1 0 0).toInt ≤ 160)) (Bw (dC, dI) A (fun u : US => (wMdT cI cZ cQ b mday mdoo mtel mgai mbyt mtxt (u.1 0 0) (u.1 1 0) u.2.1 (u.1 3 0) (u.1 4 0) mfau mrdm mlin mbsm))) A) ([.ref (b 39)] : List Value).toArray s 0 0 A) (F0 m 101 ls []) := by
              intro nn
              induction nn with
              | zero =>
                intro mpos_101 mtok_101 H locs ls r_mpos_101 i101_0 i101_1 i101_2 i101_3 hm101
                exact absurd hm101 (Nat.not_lt_zero _)
              | succ nn ih101 =>
                intro mpos_101 mtok_101 H locs ls r_mpos_101 i101_0 i101_1 i101_2 i101_3 hm101 hP hD hS hl
                refine lv_aload_n hx hb dX10_nextToken_101 rfl (lv_at hl 0 rfl) ?_
                refine va_get (D := (dC, dI)) (ci := 10) (v := .int mpos_101) (C := RX10) (T := TX10) (N := 39) hx hb hts inX10 hown hK hP 0 rfl rfl 21 (by decide) lf146 (fun _ h9 => h9) rfl dX10_nextToken_102 ?_
                refine lv_aload_n hx hb dX10_nextToken_105 rfl (lv_at hl 0 rfl) ?_
                refine va_get (D := (dC, dI)) (ci := 10) (v := .int mbyt) (C := RX10) (T := TX10) (N := 39) hx hb hts inX10 hown hK hP 0 rfl rfl 19 (by decide) lf141 (fun _ h9 => h9) rfl dX10_nextToken_106 ?_
                refine lv_icmp_ge (tgt := 191) hx hb dX10_nextToken_109 (by decide) (fun c6 => ?_) (fun c6 => ?_)
                · have dc6 : mbyt.toInt ≤ mpos_101.toInt := leC rfl rfl c6
                  refine lv_aload_n hx hb dX10_nextToken_191 rfl (lv_at hl 0 rfl) ?_
                  refine lv_aload_n hx hb dX10_nextToken_192 rfl (lv_at hl 0 rfl) ?_
                  refine va_get (D := (dC, dI)) (ci := 10) (v := .int mpos_101) (C := RX10) (T := TX10) (N := 39) hx hb hts inX10 hown hK hP 0 rfl rfl 21 (by decide) lf146 (fun _ h9 => h9) rfl dX10_nextToken_193 ?_
                  refine lv_aload_n hx hb dX10_nextToken_196 rfl (lv_at hl 0 rfl) ?_
                  refine va_get (D := (dC, dI)) (ci := 10) (v := .int mpos_0) (C := RX10) (T := TX10) (N := 39) hx hb hts inX10 hown hK hP 0 rfl rfl 22 (by decide) lf149 (fun _ h9 => h9) rfl dX10_nextToken_197 ?_
                  refine lv_isub hx hb dX10_nextToken_200 ?_
                  have f7 : (mpos_101 - mpos_0).toInt = (mpos_101.toInt) - (mpos_0.toInt) := subC rfl rfl (by omega) (by omega)
                  refine lv_bipush (v := 9) hx hb dX10_nextToken_201 (by decide) ?_
                  refine lv_icmp_le (tgt := 212) hx hb dX10_nextToken_203 (by decide) (fun c8 => ?_) (fun c8 => ?_)
                  · have dc8 : (mpos_101.toInt) - (mpos_0.toInt) ≤ 9 := leC f7 (show (9 : Int32).toInt = 9 from rfl) c8
                    refine lv_aload_n hx hb dX10_nextToken_212 rfl (lv_at hl 0 rfl) ?_
                    refine va_get (D := (dC, dI)) (ci := 10) (v := .long mtok_101) (C := RX10) (T := TX10) (N := 39) hx hb hts inX10 hown hK hP 0 rfl rfl 23 (by decide) lf160 (fun _ h9 => h9) rfl dX10_nextToken_213 ?_
                    refine va_put (D := (dC, dI)) (ci := 10) (v := .long mtok_101) (ty := .long) (C := RX10) (T := TX10) (N := 39) hx hb hts inX10 tyX10 tyX10_ok nmX10 hown hK hP hD hS 0 rfl rfl 23 (by decide) lf160 (fun _ h9 => h9) rfl (by decide +kernel) rfl rfl (Nat.le_of_ble_eq_true rfl) dX10_nextToken_216 (fun H locs hP hD hS => ?_)
                    have hP : va_P (dC, dI) vwCl (wMdT cI cZ cQ b mday mdoo mtel mgai mbyt mtxt mpos_101 mpos_0 mtok_101 0 0 mfau mrdm mlin mbsm) H := hP
                    have hD : va_D A (wMdT cI cZ cQ b mday mdoo mtel mgai mbyt mtxt mpos_101 mpos_0 mtok_101 0 0 mfau mrdm mlin mbsm) := hD
                    refine lv_goto (tgt := 394) hx hb dX10_nextToken_219 (by decide) ?_
                    exact W.vret hx hb hr (fun tq ht hW => ⟨⟨(uS [(fun _ => mpos_101), (fun _ => mpos_0), (fun _ => 0), (fun _ => 0), (fun _ => 0)] mtok_101 (fun _ => 0)), rfl, ⟨(show mpos_101.toInt ≤ mbyt.toInt from by omega), (show 0 ≤ mpos_0.toInt from by omega), (show mpos_0.toInt ≤ mpos_101.toInt from by omega), (show mpos_0.toInt = tS mtxt mbyt.toInt mpos.toInt from by exact sk_out i0_1 (by omega)), (show mpos_101.toInt = tE mtxt mbyt.toInt mpos_0.toInt from by (first | exact tE_end (by omega) rfl | exact tE_runA (by omega) (knd_1 (by omega)) (by decide) i101_2 (by first | exact Or.inl (by omega) | exact Or.inr (knd_n1 (by omega))) | exact tE_runA (by omega) (knd_2 (by omega)) (by decide) i241_2 (by first | exact Or.inl (by omega) | exact Or.inr (knd_n2 (by omega))) | exact tE_oneC (by omega) (knd_3 (by omega) (by omega)).symm rfl (by omega))), (show mtok_101 = tkV mtxt mbyt.toInt mpos_0.toInt mpos_101.toInt from by (first | exact tv_end (by omega) | exact tv_let (by omega) (knd_1 (by omega)) i101_3 (by omega) | exact tv_let4 (by omega) (knd_1 (by omega)) (by omega) | exact tv_dig (by omega) (knd_2 (by omega)) (by omega) | exact tv_dig4 (by omega) (knd_2 (by omega)) (by omega) | exact tv_semi (by omega) (by omega) | exact tv_oth (by omega) (knd_3 (by omega) (by omega)) (by omega))), (show nmP mtxt mbyt.toInt mpos_0.toInt mpos_101.toInt 0 from by (first | exact nm_v (by omega) | exact nm_k (knd_1 (by omega)) (by decide) | exact nm_d i241_6 | exact nm_k (knd_3 (by omega) (by omega)) (by decide))), r_mpos_101⟩, by rw [ht]; exact hP, hD⟩, hS.F ht⟩) hS.2.2 dX10_nextToken_394
                  · have dc8 : 9 < (mpos_101.toInt) - (mpos_0.toInt) := nleC f7 (show (9 : Int32).toInt = 9 from rfl) c8
                    refine lv_ldc2 (v := (-4)) hx hb hown (hts (.constantLong RX10 168 (-4)) (List.mem_cons_of_mem _ (List.mem_append_left _ (List.mem_of_getElem? (i := 10) rfl)))) dX10_nextToken_206 ?_
                    refine lv_goto (tgt := 216) hx hb dX10_nextToken_209 (by decide) ?_
                    refine va_put (D := (dC, dI)) (ci := 10) (v := .long (-4)) (ty := .long) (C := RX10) (T := TX10) (N := 39) hx hb hts inX10 tyX10 tyX10_ok nmX10 hown hK hP hD hS 0 rfl rfl 23 (by decide) lf160 (fun _ h9 => h9) rfl (by decide +kernel) rfl rfl (Nat.le_of_ble_eq_true rfl) dX10_nextToken_216 (fun H locs hP hD hS => ?_)
                    have hP : va_P (dC, dI) vwCl (wMdT cI cZ cQ b mday mdoo mtel mgai mbyt mtxt mpos_101 mpos_0 (-4) 0 0 mfau mrdm mlin mbsm) H := hP
                    have hD : va_D A (wMdT cI cZ cQ b mday mdoo mtel mgai mbyt mtxt mpos_101 mpos_0 (-4) 0 0 mfau mrdm mlin mbsm) := hD
                    refine lv_goto (tgt := 394) hx hb dX10_nextToken_219 (by decide) ?_
                    exact W.vret hx hb hr (fun tq ht hW => ⟨⟨(uS [(fun _ => mpos_101), (fun _ => mpos_0), (fun _ => 0), (fun _ => 0), (fun _ => 0)] (-4) (fun _ => 0)), rfl, ⟨(show mpos_101.toInt ≤ mbyt.toInt from by omega), (show 0 ≤ mpos_0.toInt from by omega), (show mpos_0.toInt ≤ mpos_101.toInt from by omega), (show mpos_0.toInt = tS mtxt mbyt.toInt mpos.toInt from by exact sk_out i0_1 (by omega)), (show mpos_101.toInt = tE mtxt mbyt.toInt mpos_0.toInt from by (first | exact tE_end (by omega) rfl | exact tE_runA (by omega) (knd_1 (by omega)) (by decide) i101_2 (by first | exact Or.inl (by omega) | exact Or.inr (knd_n1 (by omega))) | exact tE_runA (by omega) (knd_2 (by omega)) (by decide) i241_2 (by first | exact Or.inl (by omega) | exact Or.inr (knd_n2 (by omega))) | exact tE_oneC (by omega) (knd_3 (by omega) (by omega)).symm rfl (by omega))), (show (-4) = tkV mtxt mbyt.toInt mpos_0.toInt mpos_101.toInt from by (first | exact tv_end (by omega) | exact tv_let (by omega) (knd_1 (by omega)) i101_3 (by omega) | exact tv_let4 (by omega) (knd_1 (by omega)) (by omega) | exact tv_dig (by omega) (knd_2 (by omega)) (by omega) | exact tv_dig4 (by omega) (knd_2 (by omega)) (by omega) | exact tv_semi (by omega) (by omega) | exact tv_oth (by omega) (knd_3 (by omega) (by omega)) (by omega))), (show nmP mtxt mbyt.toInt mpos_0.toInt mpos_101.toInt 0 from by (first | exact nm_v (by omega) | exact nm_k (knd_1 (by omega)) (by decide) | exact nm_d i241_6 | exact nm_k (knd_3 (by omega) (by omega)) (by decide))), r_mpos_101⟩, by rw [ht]; exact hP, hD⟩, hS.F ht⟩) hS.2.2 dX10_nextToken_394
                · have dc6 : mpos_101.toInt < mbyt.toInt := nleC rfl rfl c6
                  refine lv_aload_n hx hb dX10_nextToken_112 rfl (lv_at hl 0 rfl) ?_
                  refine va_get (D := (dC, dI)) (ci := 10) (v := .ref (b 20)) (C := RX10) (T := TX10) (N := 39) hx hb hts inX10 hown hK hP 0 rfl rfl 20 (by decide) lf62 (fun _ h9 => h9) rfl dX10_nextToken_113 ?_
                  refine lv_aload_n hx hb dX10_nextToken_116 rfl (lv_at hl 0 rfl) ?_
                  refine va_get (D := (dC, dI)) (ci := 10) (v := .int mpos_101) (C := RX10) (T := TX10) (N := 39) hx hb hts inX10 hown hK hP 0 rfl rfl 21 (by decide) lf146 (fun _ h9 => h9) rfl dX10_nextToken_117 ?_
                  have b9 : vp_in mpos_101 160 := inC rfl (by omega) (by omega)
                  refine va_iald hx hb hK hP 1 0 rfl rfl b9 dX10_nextToken_120 ?_
                  refine lv_bipush (v := 97) hx hb dX10_nextToken_121 (by decide) ?_
                  refine lv_bipush (v := 122) hx hb dX10_nextToken_123 (by decide) ?_
                  refine rdS (As := [.int (mtxt mpos_101.toNatClampNeg), .int 97, .int 122]) (rest := []) ⟨hx, hb, hml, hown, hts⟩ (k_X10_in l dC dI cI cZ cQ (mtxt mpos_101.toNatClampNeg) (97 : Int32) (122 : Int32)) (va_cwS 3 hts gX10_nextToken_X10_in rfl rfl rfl (by decide +kernel) ⟨Nat.le_of_ble_eq_true rfl, Nat.le_of_ble_eq_true rfl⟩) hP hK hN [] rfl rfl hl.1 rfl (Nat.le_of_ble_eq_true rfl) dX10_nextToken_125 ⟨Nat.le_of_ble_eq_true rfl, Nat.le_of_ble_eq_true rfl⟩ (fun r10 h11 => ?_)
                  have h11 : ((((r10 = 1) ∧ ((97) ≤ (mtxt mpos_101.toNatClampNeg).toInt) ∧ ((mtxt mpos_101.toNatClampNeg).toInt ≤ (122))) ∨ ((r10 = 0) ∧ ((mtxt mpos_101.toNatClampNeg).toInt < (97) ∨ (122) < (mtxt mpos_101.toNatClampNeg).toInt)))) := h11
                  rcases h11 with (⟨rfl, h11_a0, h11_a1⟩ | ⟨rfl, h11_a0⟩)
                  · refine lv_if_eq (tgt := 191) hx hb dX10_nextToken_128 (by decide) (fun c9 => absurd c9 (by decide)) (fun _ => ?_)
                    refine lv_aload_n hx hb dX10_nextToken_131 rfl (lv_at hl 0 rfl) ?_
                    refine lv_aload_n hx hb dX10_nextToken_132 rfl (lv_at hl 0 rfl) ?_
                    refine va_get (D := (dC, dI)) (ci := 10) (v := .int mpos_101) (C := RX10) (T := TX10) (N := 39) hx hb hts inX10 hown hK hP 0 rfl rfl 21 (by decide) lf146 (fun _ h9 => h9) rfl dX10_nextToken_133 ?_
                    refine lv_aload_n hx hb dX10_nextToken_136 rfl (lv_at hl 0 rfl) ?_
                    refine va_get (D := (dC, dI)) (ci := 10) (v := .int mpos_0) (C := RX10) (T := TX10) (N := 39) hx hb hts inX10 hown hK hP 0 rfl rfl 22 (by decide) lf149 (fun _ h9 => h9) rfl dX10_nextToken_137 ?_
                    refine lv_isub hx hb dX10_nextToken_140 ?_
                    have f12 : (mpos_101 - mpos_0).toInt = (mpos_101.toInt) - (mpos_0.toInt) := subC rfl rfl (by omega) (by omega)
                    refine lv_bipush (v := 9) hx hb dX10_nextToken_141 (by decide) ?_
                    refine lv_icmp_ge (tgt := 172) hx hb dX10_nextToken_143 (by decide) (fun c13 => ?_) (fun c13 => ?_)
                    · have dc13 : 9 ≤ (mpos_101.toInt) - (mpos_0.toInt) := leC (show (9 : Int32).toInt = 9 from rfl) f12 c13
                      refine lv_ldc2 (v := (-4)) hx hb hown (hts (.constantLong RX10 168 (-4)) (List.mem_cons_of_mem _ (List.mem_append_left _ (List.mem_of_getElem? (i := 10) rfl)))) dX10_nextToken_172 ?_
                      refine va_put (D := (dC, dI)) (ci := 10) (v := .long (-4)) (ty := .long) (C := RX10) (T := TX10) (N := 39) hx hb hts inX10 tyX10 tyX10_ok nmX10 hown hK hP hD hS 0 rfl rfl 23 (by decide) lf160 (fun _ h9 => h9) rfl (by decide +kernel) rfl rfl (Nat.le_of_ble_eq_true rfl) dX10_nextToken_175 (fun H locs hP hD hS => ?_)
                      have hP : va_P (dC, dI) vwCl (wMdT cI cZ cQ b mday mdoo mtel mgai mbyt mtxt mpos_101 mpos_0 (-4) 0 0 mfau mrdm mlin mbsm) H := hP
                      have hD : va_D A (wMdT cI cZ cQ b mday mdoo mtel mgai mbyt mtxt mpos_101 mpos_0 (-4) 0 0 mfau mrdm mlin mbsm) := hD
                      refine lv_aload_n hx hb dX10_nextToken_178 rfl (lv_at hl 0 rfl) ?_
                      refine lv_dup hx hb dX10_nextToken_179 rfl ?_
                      refine va_get (D := (dC, dI)) (ci := 10) (v := .int mpos_101) (C := RX10) (T := TX10) (N := 39) hx hb hts inX10 hown hK hP 0 rfl rfl 21 (by decide) lf146 (fun _ h9 => h9) rfl dX10_nextToken_180 ?_
                      refine lv_iconst (v := 1) hx hb dX10_nextToken_183 (by decide) ?_
                      refine lv_iadd hx hb dX10_nextToken_184 ?_
                      have f14 : (mpos_101 + 1).toInt = (mpos_101.toInt) + (1) := addC rfl (show (1 : Int32).toInt = 1 from rfl) (by omega) (by omega)
                      refine lv_topi (fun x15 ex15 => ?_)
                      have ix15 : x15.toInt = (mpos_101.toInt) + (1) := by rw [ex15]; exact f14
                      refine va_put (D := (dC, dI)) (ci := 10) (v := .int x15) (ty := .int) (C := RX10) (T := TX10) (N := 39) hx hb hts inX10 tyX10 tyX10_ok nmX10 hown hK hP hD hS 0 rfl rfl 21 (by decide) lf146 (fun _ h9 => h9) rfl (by decide +kernel) rfl rfl (Nat.le_of_ble_eq_true rfl) dX10_nextToken_185 (fun H locs hP hD hS => ?_)
                      have g16 : 0 ≤ x15.toInt ∧ x15.toInt ≤ 160 := by rw [show x15.toInt = x15.toInt from rfl]; exact ⟨by omega, by omega⟩
                      have hP : va_P (dC, dI) vwCl (wMdT cI cZ cQ b mday mdoo mtel mgai mbyt mtxt x15 mpos_0 (-4) 0 0 mfau mrdm mlin mbsm) H := hP
                      have hD : va_D A (wMdT cI cZ cQ b mday mdoo mtel mgai mbyt mtxt x15 mpos_0 (-4) 0 0 mfau mrdm mlin mbsm) := hD
                      refine lv_goto (tgt := 101) hx hb dX10_nextToken_188 (by decide) ?_
                      exact ih101 x15 (-4) _ _ _ g16 (by omega) (by omega) (by (first | exact rn_in i101_2 (by omega) (knd_1 (by omega)) (by omega) | rfl)) (by (first | exact wv_s i101_3 (by omega) (by omega) (by omega) | exact Or.inl (by omega) | exact wv_0 rfl)) (by omega) hP hD hS (lv_sub hl [0] rfl)
                    · have dc13 : (mpos_101.toInt) - (mpos_0.toInt) < 9 := nleC (show (9 : Int32).toInt = 9 from rfl) f12 c13
                      refine lv_ldc2 (v := 27) hx hb hown (hts (.constantLong RX10 164 (27)) (List.mem_cons_of_mem _ (List.mem_append_left _ (List.mem_of_getElem? (i := 8) rfl)))) dX10_nextToken_146 ?_
                      refine lv_aload_n hx hb dX10_nextToken_149 rfl (lv_at hl 0 rfl) ?_
                      refine va_get (D := (dC, dI)) (ci := 10) (v := .long mtok_101) (C := RX10) (T := TX10) (N := 39) hx hb hts inX10 hown hK hP 0 rfl rfl 23 (by decide) lf160 (fun _ h9 => h9) rfl dX10_nextToken_150 ?_
                      refine lv_lmul hx hb dX10_nextToken_153 ?_
                      refine lv_aload_n hx hb dX10_nextToken_154 rfl (lv_at hl 0 rfl) ?_
                      refine va_get (D := (dC, dI)) (ci := 10) (v := .ref (b 20)) (C := RX10) (T := TX10) (N := 39) hx hb hts inX10 hown hK hP 0 rfl rfl 20 (by decide) lf62 (fun _ h9 => h9) rfl dX10_nextToken_155 ?_
                      refine lv_aload_n hx hb dX10_nextToken_158 rfl (lv_at hl 0 rfl) ?_
                      refine va_get (D := (dC, dI)) (ci := 10) (v := .int mpos_101) (C := RX10) (T := TX10) (N := 39) hx hb hts inX10 hown hK hP 0 rfl rfl 21 (by decide) lf146 (fun _ h9 => h9) rfl dX10_nextToken_159 ?_
                      have b17 : vp_in mpos_101 160 := inC rfl (by omega) (by omega)
                      refine va_iald hx hb hK hP 1 0 rfl rfl b17 dX10_nextToken_162 ?_
                      refine lv_i2l hx hb dX10_nextToken_163 rfl ?_
                      refine lv_ladd hx hb dX10_nextToken_164 ?_
                      refine lv_ldc2 (v := 96) hx hb hown (hts (.constantLong RX10 166 (96)) (List.mem_cons_of_mem _ (List.mem_append_left _ (List.mem_of_getElem? (i := 9) rfl)))) dX10_nextToken_165 ?_
                      refine lv_lsub hx hb dX10_nextToken_168 ?_
                      refine lv_goto (tgt := 175) hx hb dX10_nextToken_169 (by decide) ?_
                      refine va_put (D := (dC, dI)) (ci := 10) (v := .long (((27 * mtok_101) + ((mtxt mpos_101.toNatClampNeg).toInt64)) - 96)) (ty := .long) (C := RX10) (T := TX10) (N := 39) hx hb hts inX10 tyX10 tyX10_ok nmX10 hown hK hP hD hS 0 rfl rfl 23 (by decide) lf160 (fun _ h9 => h9) rfl (by decide +kernel) rfl rfl (Nat.le_of_ble_eq_true rfl) dX10_nextToken_175 (fun H locs hP hD hS => ?_)
                      have hP : va_P (dC, dI) vwCl (wMdT cI cZ cQ b mday mdoo mtel mgai mbyt mtxt mpos_101 mpos_0 (((27 * mtok_101) + ((mtxt mpos_101.toNatClampNeg).toInt64)) - 96) 0 0 mfau mrdm mlin mbsm) H := hP
                      have hD : va_D A (wMdT cI cZ cQ b mday mdoo mtel mgai mbyt mtxt mpos_101 mpos_0 (((27 * mtok_101) + ((mtxt mpos_101.toNatClampNeg).toInt64)) - 96) 0 0 mfau mrdm mlin mbsm) := hD
                      refine lv_aload_n hx hb dX10_nextToken_178 rfl (lv_at hl 0 rfl) ?_
                      refine lv_dup hx hb dX10_nextToken_179 rfl ?_
                      refine va_get (D := (dC, dI)) (ci := 10) (v := .int mpos_101) (C := RX10) (T := TX10) (N := 39) hx hb hts inX10 hown hK hP 0 rfl rfl 21 (by decide) lf146 (fun _ h9 => h9) rfl dX10_nextToken_180 ?_
                      refine lv_iconst (v := 1) hx hb dX10_nextToken_183 (by decide) ?_
                      refine lv_iadd hx hb dX10_nextToken_184 ?_
                      have f18 : (mpos_101 + 1).toInt = (mpos_101.toInt) + (1) := addC rfl (show (1 : Int32).toInt = 1 from rfl) (by omega) (by omega)
                      refine lv_topi (fun x19 ex19 => ?_)
                      have ix19 : x19.toInt = (mpos_101.toInt) + (1) := by rw [ex19]; exact f18
                      refine va_put (D := (dC, dI)) (ci := 10) (v := .int x19) (ty := .int) (C := RX10) (T := TX10) (N := 39) hx hb hts inX10 tyX10 tyX10_ok nmX10 hown hK hP hD hS 0 rfl rfl 21 (by decide) lf146 (fun _ h9 => h9) rfl (by decide +kernel) rfl rfl (Nat.le_of_ble_eq_true rfl) dX10_nextToken_185 (fun H locs hP hD hS => ?_)
                      have g20 : 0 ≤ x19.toInt ∧ x19.toInt ≤ 160 := by rw [show x19.toInt = x19.toInt from rfl]; exact ⟨by omega, by omega⟩
                      have hP : va_P (dC, dI) vwCl (wMdT cI cZ cQ b mday mdoo mtel mgai mbyt mtxt x19 mpos_0 (((27 * mtok_101) + ((mtxt mpos_101.toNatClampNeg).toInt64)) - 96) 0 0 mfau mrdm mlin mbsm) H := hP
                      have hD : va_D A (wMdT cI cZ cQ b mday mdoo mtel mgai mbyt mtxt x19 mpos_0 (((27 * mtok_101) + ((mtxt mpos_101.toNatClampNeg).toInt64)) - 96) 0 0 mfau mrdm mlin mbsm) := hD
                      refine lv_goto (tgt := 101) hx hb dX10_nextToken_188 (by decide) ?_
                      exact ih101 x19 (((27 * mtok_101) + ((mtxt mpos_101.toNatClampNeg).toInt64)) - 96) _ _ _ g20 (by omega) (by omega) (by (first | exact rn_in i101_2 (by omega) (knd_1 (by omega)) (by omega) | rfl)) (by (first | exact wv_s i101_3 (by omega) (by omega) (by omega) | exact Or.inl (by omega) | exact wv_0 rfl)) (by omega) hP hD hS (lv_sub hl [0] rfl)
                  · refine lv_if_eq (tgt := 191) hx hb dX10_nextToken_128 (by decide) (fun _ => ?_) (fun c9 => absurd (by decide) c9)
                    refine lv_aload_n hx hb dX10_nextToken_191 rfl (lv_at hl 0 rfl) ?_
                    refine lv_aload_n hx hb dX10_nextToken_192 rfl (lv_at hl 0 rfl) ?_
                    refine va_get (D := (dC, dI)) (ci := 10) (v := .int mpos_101) (C := RX10) (T := TX10) (N := 39) hx hb hts inX10 hown hK hP 0 rfl rfl 21 (by decide) lf146 (fun _ h9 => h9) rfl dX10_nextToken_193 ?_
                    refine lv_aload_n hx hb dX10_nextToken_196 rfl (lv_at hl 0 rfl) ?_
                    refine va_get (D := (dC, dI)) (ci := 10) (v := .int mpos_0) (C := RX10) (T := TX10) (N := 39) hx hb hts inX10 hown hK hP 0 rfl rfl 22 (by decide) lf149 (fun _ h9 => h9) rfl dX10_nextToken_197 ?_
                    refine lv_isub hx hb dX10_nextToken_200 ?_
                    have f21 : (mpos_101 - mpos_0).toInt = (mpos_101.toInt) - (mpos_0.toInt) := subC rfl rfl (by omega) (by omega)
                    refine lv_bipush (v := 9) hx hb dX10_nextToken_201 (by decide) ?_
                    refine lv_icmp_le (tgt := 212) hx hb dX10_nextToken_203 (by decide) (fun c22 => ?_) (fun c22 => ?_)
                    · have dc22 : (mpos_101.toInt) - (mpos_0.toInt) ≤ 9 := leC f21 (show (9 : Int32).toInt = 9 from rfl) c22
                      refine lv_aload_n hx hb dX10_nextToken_212 rfl (lv_at hl 0 rfl) ?_
                      refine va_get (D := (dC, dI)) (ci := 10) (v := .long mtok_101) (C := RX10) (T := TX10) (N := 39) hx hb hts inX10 hown hK hP 0 rfl rfl 23 (by decide) lf160 (fun _ h9 => h9) rfl dX10_nextToken_213 ?_
                      refine va_put (D := (dC, dI)) (ci := 10) (v := .long mtok_101) (ty := .long) (C := RX10) (T := TX10) (N := 39) hx hb hts inX10 tyX10 tyX10_ok nmX10 hown hK hP hD hS 0 rfl rfl 23 (by decide) lf160 (fun _ h9 => h9) rfl (by decide +kernel) rfl rfl (Nat.le_of_ble_eq_true rfl) dX10_nextToken_216 (fun H locs hP hD hS => ?_)
                      have hP : va_P (dC, dI) vwCl (wMdT cI cZ cQ b mday mdoo mtel mgai mbyt mtxt mpos_101 mpos_0 mtok_101 0 0 mfau mrdm mlin mbsm) H := hP
                      have hD : va_D A (wMdT cI cZ cQ b mday mdoo mtel mgai mbyt mtxt mpos_101 mpos_0 mtok_101 0 0 mfau mrdm mlin mbsm) := hD
                      refine lv_goto (tgt := 394) hx hb dX10_nextToken_219 (by decide) ?_
                      exact W.vret hx hb hr (fun tq ht hW => ⟨⟨(uS [(fun _ => mpos_101), (fun _ => mpos_0), (fun _ => 0), (fun _ => 0), (fun _ => 0)] mtok_101 (fun _ => 0)), rfl, ⟨(show mpos_101.toInt ≤ mbyt.toInt from by omega), (show 0 ≤ mpos_0.toInt from by omega), (show mpos_0.toInt ≤ mpos_101.toInt from by omega), (show mpos_0.toInt = tS mtxt mbyt.toInt mpos.toInt from by exact sk_out i0_1 (by omega)), (show mpos_101.toInt = tE mtxt mbyt.toInt mpos_0.toInt from by (first | exact tE_end (by omega) rfl | exact tE_runA (by omega) (knd_1 (by omega)) (by decide) i101_2 (by first | exact Or.inl (by omega) | exact Or.inr (knd_n1 (by omega))) | exact tE_runA (by omega) (knd_2 (by omega)) (by decide) i241_2 (by first | exact Or.inl (by omega) | exact Or.inr (knd_n2 (by omega))) | exact tE_oneC (by omega) (knd_3 (by omega) (by omega)).symm rfl (by omega))), (show mtok_101 = tkV mtxt mbyt.toInt mpos_0.toInt mpos_101.toInt from by (first | exact tv_end (by omega) | exact tv_let (by omega) (knd_1 (by omega)) i101_3 (by omega) | exact tv_let4 (by omega) (knd_1 (by omega)) (by omega) | exact tv_dig (by omega) (knd_2 (by omega)) (by omega) | exact tv_dig4 (by omega) (knd_2 (by omega)) (by omega) | exact tv_semi (by omega) (by omega) | exact tv_oth (by omega) (knd_3 (by omega) (by omega)) (by omega))), (show nmP mtxt mbyt.toInt mpos_0.toInt mpos_101.toInt 0 from by (first | exact nm_v (by omega) | exact nm_k (knd_1 (by omega)) (by decide) | exact nm_d i241_6 | exact nm_k (knd_3 (by omega) (by omega)) (by decide))), r_mpos_101⟩, by rw [ht]; exact hP, hD⟩, hS.F ht⟩) hS.2.2 dX10_nextToken_394
                    · have dc22 : 9 < (mpos_101.toInt) - (mpos_0.toInt) := nleC f21 (show (9 : Int32).toInt = 9 from rfl) c22
                      refine lv_ldc2 (v := (-4)) hx hb hown (hts (.constantLong RX10 168 (-4)) (List.mem_cons_of_mem _ (List.mem_append_left _ (List.mem_of_getElem? (i := 10) rfl)))) dX10_nextToken_206 ?_
                      refine lv_goto (tgt := 216) hx hb dX10_nextToken_209 (by decide) ?_
                      refine va_put (D := (dC, dI)) (ci := 10) (v := .long (-4)) (ty := .long) (C := RX10) (T := TX10) (N := 39) hx hb hts inX10 tyX10 tyX10_ok nmX10 hown hK hP hD hS 0 rfl rfl 23 (by decide) lf160 (fun _ h9 => h9) rfl (by decide +kernel) rfl rfl (Nat.le_of_ble_eq_true rfl) dX10_nextToken_216 (fun H locs hP hD hS => ?_)
                      have hP : va_P (dC, dI) vwCl (wMdT cI cZ cQ b mday mdoo mtel mgai mbyt mtxt mpos_101 mpos_0 (-4) 0 0 mfau mrdm mlin mbsm) H := hP
                      have hD : va_D A (wMdT cI cZ cQ b mday mdoo mtel mgai mbyt mtxt mpos_101 mpos_0 (-4) 0 0 mfau mrdm mlin mbsm) := hD
                      refine lv_goto (tgt := 394) hx hb dX10_nextToken_219 (by decide) ?_
                      exact W.vret hx hb hr (fun tq ht hW => ⟨⟨(uS [(fun _ => mpos_101), (fun _ => mpos_0), (fun _ => 0), (fun _ => 0), (fun _ => 0)] (-4) (fun _ => 0)), rfl, ⟨(show mpos_101.toInt ≤ mbyt.toInt from by omega), (show 0 ≤ mpos_0.toInt from by omega), (show mpos_0.toInt ≤ mpos_101.toInt from by omega), (show mpos_0.toInt = tS mtxt mbyt.toInt mpos.toInt from by exact sk_out i0_1 (by omega)), (show mpos_101.toInt = tE mtxt mbyt.toInt mpos_0.toInt from by (first | exact tE_end (by omega) rfl | exact tE_runA (by omega) (knd_1 (by omega)) (by decide) i101_2 (by first | exact Or.inl (by omega) | exact Or.inr (knd_n1 (by omega))) | exact tE_runA (by omega) (knd_2 (by omega)) (by decide) i241_2 (by first | exact Or.inl (by omega) | exact Or.inr (knd_n2 (by omega))) | exact tE_oneC (by omega) (knd_3 (by omega) (by omega)).symm rfl (by omega))), (show (-4) = tkV mtxt mbyt.toInt mpos_0.toInt mpos_101.toInt from by (first | exact tv_end (by omega) | exact tv_let (by omega) (knd_1 (by omega)) i101_3 (by omega) | exact tv_let4 (by omega) (knd_1 (by omega)) (by omega) | exact tv_dig (by omega) (knd_2 (by omega)) (by omega) | exact tv_dig4 (by omega) (knd_2 (by omega)) (by omega) | exact tv_semi (by omega) (by omega) | exact tv_oth (by omega) (knd_3 (by omega) (by omega)) (by omega))), (show nmP mtxt mbyt.toInt mpos_0.toInt mpos_101.toInt 0 from by (first | exact nm_v (by omega) | exact nm_k (knd_1 (by omega)) (by decide) | exact nm_d i241_6 | exact nm_k (knd_3 (by omega) (by omega)) (by decide))), r_mpos_101⟩, by rw [ht]; exact hP, hD⟩, hS.F ht⟩) hS.2.2 dX10_nextToken_394
            exact L101 _ mpos_0 0 _ _ _ r_mpos_0 (by omega) (by omega) (by (first | exact rn_in i101_2 (by omega) (knd_1 (by omega)) (by omega) | rfl)) (by (first | exact wv_s i101_3 (by omega) (by omega) (by omega) | exact Or.inl (by omega) | exact wv_0 rfl)) (Nat.lt_succ_self _) hP hD hS (lv_sub hl [0] rfl)
          · refine lv_if_eq (tgt := 222) hx hb dX10_nextToken_93 (by decide) (fun _ => ?_) (fun c9 => absurd (by decide) c9)
            refine lv_aload_n hx hb dX10_nextToken_222 rfl (lv_at hl 0 rfl) ?_
            refine va_get (D := (dC, dI)) (ci := 10) (v := .ref (b 20)) (C := RX10) (T := TX10) (N := 39) hx hb hts inX10 hown hK hP 0 rfl rfl 20 (by decide) lf62 (fun _ h9 => h9) rfl dX10_nextToken_223 ?_
            refine lv_aload_n hx hb dX10_nextToken_226 rfl (lv_at hl 0 rfl) ?_
            refine va_get (D := (dC, dI)) (ci := 10) (v := .int mpos_0) (C := RX10) (T := TX10) (N := 39) hx hb hts inX10 hown hK hP 0 rfl rfl 21 (by decide) lf146 (fun _ h9 => h9) rfl dX10_nextToken_227 ?_
            have b23 : vp_in mpos_0 160 := inC rfl (by omega) (by omega)
            refine va_iald hx hb hK hP 1 0 rfl rfl b23 dX10_nextToken_230 ?_
            refine lv_bipush (v := 48) hx hb dX10_nextToken_231 (by decide) ?_
            refine lv_bipush (v := 57) hx hb dX10_nextToken_233 (by decide) ?_
            refine rdS (As := [.int (mtxt mpos_0.toNatClampNeg), .int 48, .int 57]) (rest := []) ⟨hx, hb, hml, hown, hts⟩ (k_X10_in l dC dI cI cZ cQ (mtxt mpos_0.toNatClampNeg) (48 : Int32) (57 : Int32)) (va_cwS 3 hts gX10_nextToken_X10_in rfl rfl rfl (by decide +kernel) ⟨Nat.le_of_ble_eq_true rfl, Nat.le_of_ble_eq_true rfl⟩) hP hK hN [] rfl rfl hl.1 rfl (Nat.le_of_ble_eq_true rfl) dX10_nextToken_235 ⟨Nat.le_of_ble_eq_true rfl, Nat.le_of_ble_eq_true rfl⟩ (fun r24 h25 => ?_)
            have h25 : ((((r24 = 1) ∧ ((48) ≤ (mtxt mpos_0.toNatClampNeg).toInt) ∧ ((mtxt mpos_0.toNatClampNeg).toInt ≤ (57))) ∨ ((r24 = 0) ∧ ((mtxt mpos_0.toNatClampNeg).toInt < (48) ∨ (57) < (mtxt mpos_0.toNatClampNeg).toInt)))) := h25
            rcases h25 with (⟨rfl, h25_a0, h25_a1⟩ | ⟨rfl, h25_a0⟩)
            · refine lv_if_eq (tgt := 357) hx hb dX10_nextToken_238 (by decide) (fun c9 => absurd c9 (by decide)) (fun _ => ?_)
              have L241 : ∀ (nn : Nat) (mpos_241 : Int32) (mdig_241 : Int32) (mnum_241 : Int32) (H : Heap) (locs : List Loc) (ls : Array Slot), (0 ≤ mpos_241.toInt ∧ mpos_241.toInt ≤ 160) → (mpos_241.toInt ≤ mbyt.toInt) → (mpos_0.toInt ≤ mpos_241.toInt) → (tR mtxt 2 mbyt.toInt mpos_241.toInt = tR mtxt 2 mbyt.toInt mpos_0.toInt) → (mdig_241.toInt = mpos_241.toInt - mpos_0.toInt) → (0 ≤ mdig_241.toInt) → (mdig_241.toInt ≤ 160) → (2 < mpos_241.toInt - mpos_0.toInt ∨ mnum_241 = nvF mtxt mpos_0.toInt (mpos_241.toInt - mpos_0.toInt).toNat) → (mbyt.toInt - mpos_241.toInt).toNat < nn → va_P (dC, dI) vwCl (wMdT cI cZ cQ b mday mdoo mtel mgai mbyt mtxt mpos_241 mpos_0 mtok mdig_241 mnum_241 mfau mrdm mlin mbsm) H → va_D A (wMdT cI cZ cQ b mday mdoo mtel mgai mbyt mtxt mpos_241 mpos_0 mtok mdig_241 mnum_241 mfau mrdm mlin mbsm) → va_S A s.heap H locs → lv_has ls 1 [(0, .ref (b 39))] → W p l e (headSpec wsX10_nextToken { frames := 1, cells := 0, slots := 0, locals := 22 }).room s m ([.ref (b 39)] : List Value).toArray below meth c H locs 0 0 (MQ below (va_Qv (fun (u : US) => ((u.1 0 0).toInt ≤ mbyt.toInt) ∧ (0 ≤ (u.1 1 0).toInt) ∧ ((u.1 1 0).toInt ≤ (u.1 0 0).toInt) ∧ ((u.1 1 0).toInt = tS mtxt mbyt.toInt mpos.toInt) ∧ ((u.1 0 0).toInt = tE mtxt mbyt.toInt (u.1 1 0).toInt) ∧ (u.2.1 = tkV mtxt mbyt.toInt (u.1 1 0).toInt (u.1 0 0).toInt) ∧ (nmP mtxt mbyt.toInt (u.1 1 0).toInt (u.1 0 0).toInt (u.1 4 0)) ∧ (0 ≤ (u.1 0 0).toInt ∧ (u.1 0 0).toInt ≤ 160)) (Bw (dC, dI) A (fun u : US => (wMdT cI cZ cQ b mday mdoo mtel mgai mbyt mtxt (u.1 0 0) (u.1 1 0) u.2.1 (u.1 3 0) (u.1 4 0) mfau mrdm mlin mbsm))) A) ([.ref (b 39)] : List Value).toArray s 0 0 A) (F0 m 241 ls []) := by
                intro nn
                induction nn with
                | zero =>
                  intro mpos_241 mdig_241 mnum_241 H locs ls r_mpos_241 i241_0 i241_1 i241_2 i241_3 i241_4 i241_5 i241_6 hm241
                  exact absurd hm241 (Nat.not_lt_zero _)
                | succ nn ih241 =>
                  intro mpos_241 mdig_241 mnum_241 H locs ls r_mpos_241 i241_0 i241_1 i241_2 i241_3 i241_4 i241_5 i241_6 hm241 hP hD hS hl
                  refine lv_aload_n hx hb dX10_nextToken_241 rfl (lv_at hl 0 rfl) ?_
                  refine va_get (D := (dC, dI)) (ci := 10) (v := .int mpos_241) (C := RX10) (T := TX10) (N := 39) hx hb hts inX10 hown hK hP 0 rfl rfl 21 (by decide) lf146 (fun _ h9 => h9) rfl dX10_nextToken_242 ?_
                  refine lv_aload_n hx hb dX10_nextToken_245 rfl (lv_at hl 0 rfl) ?_
                  refine va_get (D := (dC, dI)) (ci := 10) (v := .int mbyt) (C := RX10) (T := TX10) (N := 39) hx hb hts inX10 hown hK hP 0 rfl rfl 19 (by decide) lf141 (fun _ h9 => h9) rfl dX10_nextToken_246 ?_
                  refine lv_icmp_ge (tgt := 333) hx hb dX10_nextToken_249 (by decide) (fun c26 => ?_) (fun c26 => ?_)
                  · have dc26 : mbyt.toInt ≤ mpos_241.toInt := leC rfl rfl c26
                    refine lv_aload_n hx hb dX10_nextToken_333 rfl (lv_at hl 0 rfl) ?_
                    refine lv_aload_n hx hb dX10_nextToken_334 rfl (lv_at hl 0 rfl) ?_
                    refine va_get (D := (dC, dI)) (ci := 10) (v := .int mdig_241) (C := RX10) (T := TX10) (N := 39) hx hb hts inX10 hown hK hP 0 rfl rfl 24 (by decide) lf152 (fun _ h9 => h9) rfl dX10_nextToken_335 ?_
                    refine lv_iconst (v := 2) hx hb dX10_nextToken_338 (by decide) ?_
                    refine lv_icmp_le (tgt := 348) hx hb dX10_nextToken_339 (by decide) (fun c27 => ?_) (fun c27 => ?_)
                    · have dc27 : mdig_241.toInt ≤ 2 := leC rfl (show (2 : Int32).toInt = 2 from rfl) c27
                      refine lv_ldc2 (v := (-1)) hx hb hown (hts (.constantLong RX10 170 (-1)) (List.mem_cons_of_mem _ (List.mem_append_left _ (List.mem_of_getElem? (i := 11) rfl)))) dX10_nextToken_348 ?_
                      refine va_put (D := (dC, dI)) (ci := 10) (v := .long (-1)) (ty := .long) (C := RX10) (T := TX10) (N := 39) hx hb hts inX10 tyX10 tyX10_ok nmX10 hown hK hP hD hS 0 rfl rfl 23 (by decide) lf160 (fun _ h9 => h9) rfl (by decide +kernel) rfl rfl (Nat.le_of_ble_eq_true rfl) dX10_nextToken_351 (fun H locs hP hD hS => ?_)
                      have hP : va_P (dC, dI) vwCl (wMdT cI cZ cQ b mday mdoo mtel mgai mbyt mtxt mpos_241 mpos_0 (-1) mdig_241 mnum_241 mfau mrdm mlin mbsm) H := hP
                      have hD : va_D A (wMdT cI cZ cQ b mday mdoo mtel mgai mbyt mtxt mpos_241 mpos_0 (-1) mdig_241 mnum_241 mfau mrdm mlin mbsm) := hD
                      refine lv_goto (tgt := 394) hx hb dX10_nextToken_354 (by decide) ?_
                      exact W.vret hx hb hr (fun tq ht hW => ⟨⟨(uS [(fun _ => mpos_241), (fun _ => mpos_0), (fun _ => 0), (fun _ => mdig_241), (fun _ => mnum_241)] (-1) (fun _ => 0)), rfl, ⟨(show mpos_241.toInt ≤ mbyt.toInt from by omega), (show 0 ≤ mpos_0.toInt from by omega), (show mpos_0.toInt ≤ mpos_241.toInt from by omega), (show mpos_0.toInt = tS mtxt mbyt.toInt mpos.toInt from by exact sk_out i0_1 (by omega)), (show mpos_241.toInt = tE mtxt mbyt.toInt mpos_0.toInt from by (first | exact tE_end (by omega) rfl | exact tE_runA (by omega) (knd_1 (by omega)) (by decide) i101_2 (by first | exact Or.inl (by omega) | exact Or.inr (knd_n1 (by omega))) | exact tE_runA (by omega) (knd_2 (by omega)) (by decide) i241_2 (by first | exact Or.inl (by omega) | exact Or.inr (knd_n2 (by omega))) | exact tE_oneC (by omega) (knd_3 (by omega) (by omega)).symm rfl (by omega))), (show (-1) = tkV mtxt mbyt.toInt mpos_0.toInt mpos_241.toInt from by (first | exact tv_end (by omega) | exact tv_let (by omega) (knd_1 (by omega)) i101_3 (by omega) | exact tv_let4 (by omega) (knd_1 (by omega)) (by omega) | exact tv_dig (by omega) (knd_2 (by omega)) (by omega) | exact tv_dig4 (by omega) (knd_2 (by omega)) (by omega) | exact tv_semi (by omega) (by omega) | exact tv_oth (by omega) (knd_3 (by omega) (by omega)) (by omega))), (show nmP mtxt mbyt.toInt mpos_0.toInt mpos_241.toInt mnum_241 from by (first | exact nm_v (by omega) | exact nm_k (knd_1 (by omega)) (by decide) | exact nm_d i241_6 | exact nm_k (knd_3 (by omega) (by omega)) (by decide))), r_mpos_241⟩, by rw [ht]; exact hP, hD⟩, hS.F ht⟩) hS.2.2 dX10_nextToken_394
                    · have dc27 : 2 < mdig_241.toInt := nleC rfl (show (2 : Int32).toInt = 2 from rfl) c27
                      refine lv_ldc2 (v := (-4)) hx hb hown (hts (.constantLong RX10 168 (-4)) (List.mem_cons_of_mem _ (List.mem_append_left _ (List.mem_of_getElem? (i := 10) rfl)))) dX10_nextToken_342 ?_
                      refine lv_goto (tgt := 351) hx hb dX10_nextToken_345 (by decide) ?_
                      refine va_put (D := (dC, dI)) (ci := 10) (v := .long (-4)) (ty := .long) (C := RX10) (T := TX10) (N := 39) hx hb hts inX10 tyX10 tyX10_ok nmX10 hown hK hP hD hS 0 rfl rfl 23 (by decide) lf160 (fun _ h9 => h9) rfl (by decide +kernel) rfl rfl (Nat.le_of_ble_eq_true rfl) dX10_nextToken_351 (fun H locs hP hD hS => ?_)
                      have hP : va_P (dC, dI) vwCl (wMdT cI cZ cQ b mday mdoo mtel mgai mbyt mtxt mpos_241 mpos_0 (-4) mdig_241 mnum_241 mfau mrdm mlin mbsm) H := hP
                      have hD : va_D A (wMdT cI cZ cQ b mday mdoo mtel mgai mbyt mtxt mpos_241 mpos_0 (-4) mdig_241 mnum_241 mfau mrdm mlin mbsm) := hD
                      refine lv_goto (tgt := 394) hx hb dX10_nextToken_354 (by decide) ?_
                      exact W.vret hx hb hr (fun tq ht hW => ⟨⟨(uS [(fun _ => mpos_241), (fun _ => mpos_0), (fun _ => 0), (fun _ => mdig_241), (fun _ => mnum_241)] (-4) (fun _ => 0)), rfl, ⟨(show mpos_241.toInt ≤ mbyt.toInt from by omega), (show 0 ≤ mpos_0.toInt from by omega), (show mpos_0.toInt ≤ mpos_241.toInt from by omega), (show mpos_0.toInt = tS mtxt mbyt.toInt mpos.toInt from by exact sk_out i0_1 (by omega)), (show mpos_241.toInt = tE mtxt mbyt.toInt mpos_0.toInt from by (first | exact tE_end (by omega) rfl | exact tE_runA (by omega) (knd_1 (by omega)) (by decide) i101_2 (by first | exact Or.inl (by omega) | exact Or.inr (knd_n1 (by omega))) | exact tE_runA (by omega) (knd_2 (by omega)) (by decide) i241_2 (by first | exact Or.inl (by omega) | exact Or.inr (knd_n2 (by omega))) | exact tE_oneC (by omega) (knd_3 (by omega) (by omega)).symm rfl (by omega))), (show (-4) = tkV mtxt mbyt.toInt mpos_0.toInt mpos_241.toInt from by (first | exact tv_end (by omega) | exact tv_let (by omega) (knd_1 (by omega)) i101_3 (by omega) | exact tv_let4 (by omega) (knd_1 (by omega)) (by omega) | exact tv_dig (by omega) (knd_2 (by omega)) (by omega) | exact tv_dig4 (by omega) (knd_2 (by omega)) (by omega) | exact tv_semi (by omega) (by omega) | exact tv_oth (by omega) (knd_3 (by omega) (by omega)) (by omega))), (show nmP mtxt mbyt.toInt mpos_0.toInt mpos_241.toInt mnum_241 from by (first | exact nm_v (by omega) | exact nm_k (knd_1 (by omega)) (by decide) | exact nm_d i241_6 | exact nm_k (knd_3 (by omega) (by omega)) (by decide))), r_mpos_241⟩, by rw [ht]; exact hP, hD⟩, hS.F ht⟩) hS.2.2 dX10_nextToken_394
                  · have dc26 : mpos_241.toInt < mbyt.toInt := nleC rfl rfl c26
                    refine lv_aload_n hx hb dX10_nextToken_252 rfl (lv_at hl 0 rfl) ?_
                    refine va_get (D := (dC, dI)) (ci := 10) (v := .ref (b 20)) (C := RX10) (T := TX10) (N := 39) hx hb hts inX10 hown hK hP 0 rfl rfl 20 (by decide) lf62 (fun _ h9 => h9) rfl dX10_nextToken_253 ?_
                    refine lv_aload_n hx hb dX10_nextToken_256 rfl (lv_at hl 0 rfl) ?_
                    refine va_get (D := (dC, dI)) (ci := 10) (v := .int mpos_241) (C := RX10) (T := TX10) (N := 39) hx hb hts inX10 hown hK hP 0 rfl rfl 21 (by decide) lf146 (fun _ h9 => h9) rfl dX10_nextToken_257 ?_
                    have b28 : vp_in mpos_241 160 := inC rfl (by omega) (by omega)
                    refine va_iald hx hb hK hP 1 0 rfl rfl b28 dX10_nextToken_260 ?_
                    refine lv_bipush (v := 48) hx hb dX10_nextToken_261 (by decide) ?_
                    refine lv_bipush (v := 57) hx hb dX10_nextToken_263 (by decide) ?_
                    refine rdS (As := [.int (mtxt mpos_241.toNatClampNeg), .int 48, .int 57]) (rest := []) ⟨hx, hb, hml, hown, hts⟩ (k_X10_in l dC dI cI cZ cQ (mtxt mpos_241.toNatClampNeg) (48 : Int32) (57 : Int32)) (va_cwS 3 hts gX10_nextToken_X10_in rfl rfl rfl (by decide +kernel) ⟨Nat.le_of_ble_eq_true rfl, Nat.le_of_ble_eq_true rfl⟩) hP hK hN [] rfl rfl hl.1 rfl (Nat.le_of_ble_eq_true rfl) dX10_nextToken_265 ⟨Nat.le_of_ble_eq_true rfl, Nat.le_of_ble_eq_true rfl⟩ (fun r29 h30 => ?_)
                    have h30 : ((((r29 = 1) ∧ ((48) ≤ (mtxt mpos_241.toNatClampNeg).toInt) ∧ ((mtxt mpos_241.toNatClampNeg).toInt ≤ (57))) ∨ ((r29 = 0) ∧ ((mtxt mpos_241.toNatClampNeg).toInt < (48) ∨ (57) < (mtxt mpos_241.toNatClampNeg).toInt)))) := h30
                    rcases h30 with (⟨rfl, h30_a0, h30_a1⟩ | ⟨rfl, h30_a0⟩)
                    · refine lv_if_eq (tgt := 333) hx hb dX10_nextToken_268 (by decide) (fun c9 => absurd c9 (by decide)) (fun _ => ?_)
                      refine lv_aload_n hx hb dX10_nextToken_271 rfl (lv_at hl 0 rfl) ?_
                      refine lv_aload_n hx hb dX10_nextToken_272 rfl (lv_at hl 0 rfl) ?_
                      refine va_get (D := (dC, dI)) (ci := 10) (v := .int mdig_241) (C := RX10) (T := TX10) (N := 39) hx hb hts inX10 hown hK hP 0 rfl rfl 24 (by decide) lf152 (fun _ h9 => h9) rfl dX10_nextToken_273 ?_
                      refine lv_iconst (v := 2) hx hb dX10_nextToken_276 (by decide) ?_
                      refine lv_icmp_ge (tgt := 303) hx hb dX10_nextToken_277 (by decide) (fun c31 => ?_) (fun c31 => ?_)
                      · have dc31 : 2 ≤ mdig_241.toInt := leC (show (2 : Int32).toInt = 2 from rfl) rfl c31
                        refine lv_aload_n hx hb dX10_nextToken_303 rfl (lv_at hl 0 rfl) ?_
                        refine va_get (D := (dC, dI)) (ci := 10) (v := .int mnum_241) (C := RX10) (T := TX10) (N := 39) hx hb hts inX10 hown hK hP 0 rfl rfl 25 (by decide) lf155 (fun _ h9 => h9) rfl dX10_nextToken_304 ?_
                        refine va_put (D := (dC, dI)) (ci := 10) (v := .int mnum_241) (ty := .int) (C := RX10) (T := TX10) (N := 39) hx hb hts inX10 tyX10 tyX10_ok nmX10 hown hK hP hD hS 0 rfl rfl 25 (by decide) lf155 (fun _ h9 => h9) rfl (by decide +kernel) rfl rfl (Nat.le_of_ble_eq_true rfl) dX10_nextToken_307 (fun H locs hP hD hS => ?_)
                        have hP : va_P (dC, dI) vwCl (wMdT cI cZ cQ b mday mdoo mtel mgai mbyt mtxt mpos_241 mpos_0 mtok mdig_241 mnum_241 mfau mrdm mlin mbsm) H := hP
                        have hD : va_D A (wMdT cI cZ cQ b mday mdoo mtel mgai mbyt mtxt mpos_241 mpos_0 mtok mdig_241 mnum_241 mfau mrdm mlin mbsm) := hD
                        refine lv_aload_n hx hb dX10_nextToken_310 rfl (lv_at hl 0 rfl) ?_
                        refine lv_dup hx hb dX10_nextToken_311 rfl ?_
                        refine va_get (D := (dC, dI)) (ci := 10) (v := .int mdig_241) (C := RX10) (T := TX10) (N := 39) hx hb hts inX10 hown hK hP 0 rfl rfl 24 (by decide) lf152 (fun _ h9 => h9) rfl dX10_nextToken_312 ?_
                        refine lv_iconst (v := 1) hx hb dX10_nextToken_315 (by decide) ?_
                        refine lv_iadd hx hb dX10_nextToken_316 ?_
                        have f32 : (mdig_241 + 1).toInt = (mdig_241.toInt) + (1) := addC rfl (show (1 : Int32).toInt = 1 from rfl) (by omega) (by omega)
                        refine lv_topi (fun x33 ex33 => ?_)
                        have ix33 : x33.toInt = (mdig_241.toInt) + (1) := by rw [ex33]; exact f32
                        refine va_put (D := (dC, dI)) (ci := 10) (v := .int x33) (ty := .int) (C := RX10) (T := TX10) (N := 39) hx hb hts inX10 tyX10 tyX10_ok nmX10 hown hK hP hD hS 0 rfl rfl 24 (by decide) lf152 (fun _ h9 => h9) rfl (by decide +kernel) rfl rfl (Nat.le_of_ble_eq_true rfl) dX10_nextToken_317 (fun H locs hP hD hS => ?_)
                        have hP : va_P (dC, dI) vwCl (wMdT cI cZ cQ b mday mdoo mtel mgai mbyt mtxt mpos_241 mpos_0 mtok x33 mnum_241 mfau mrdm mlin mbsm) H := hP
                        have hD : va_D A (wMdT cI cZ cQ b mday mdoo mtel mgai mbyt mtxt mpos_241 mpos_0 mtok x33 mnum_241 mfau mrdm mlin mbsm) := hD
                        refine lv_aload_n hx hb dX10_nextToken_320 rfl (lv_at hl 0 rfl) ?_
                        refine lv_dup hx hb dX10_nextToken_321 rfl ?_
                        refine va_get (D := (dC, dI)) (ci := 10) (v := .int mpos_241) (C := RX10) (T := TX10) (N := 39) hx hb hts inX10 hown hK hP 0 rfl rfl 21 (by decide) lf146 (fun _ h9 => h9) rfl dX10_nextToken_322 ?_
                        refine lv_iconst (v := 1) hx hb dX10_nextToken_325 (by decide) ?_
                        refine lv_iadd hx hb dX10_nextToken_326 ?_
                        have f34 : (mpos_241 + 1).toInt = (mpos_241.toInt) + (1) := addC rfl (show (1 : Int32).toInt = 1 from rfl) (by omega) (by omega)
                        refine lv_topi (fun x35 ex35 => ?_)
                        have ix35 : x35.toInt = (mpos_241.toInt) + (1) := by rw [ex35]; exact f34
                        refine va_put (D := (dC, dI)) (ci := 10) (v := .int x35) (ty := .int) (C := RX10) (T := TX10) (N := 39) hx hb hts inX10 tyX10 tyX10_ok nmX10 hown hK hP hD hS 0 rfl rfl 21 (by decide) lf146 (fun _ h9 => h9) rfl (by decide +kernel) rfl rfl (Nat.le_of_ble_eq_true rfl) dX10_nextToken_327 (fun H locs hP hD hS => ?_)
                        have g36 : 0 ≤ x35.toInt ∧ x35.toInt ≤ 160 := by rw [show x35.toInt = x35.toInt from rfl]; exact ⟨by omega, by omega⟩
                        have hP : va_P (dC, dI) vwCl (wMdT cI cZ cQ b mday mdoo mtel mgai mbyt mtxt x35 mpos_0 mtok x33 mnum_241 mfau mrdm mlin mbsm) H := hP
                        have hD : va_D A (wMdT cI cZ cQ b mday mdoo mtel mgai mbyt mtxt x35 mpos_0 mtok x33 mnum_241 mfau mrdm mlin mbsm) := hD
                        refine lv_goto (tgt := 241) hx hb dX10_nextToken_330 (by decide) ?_
                        exact ih241 x35 x33 mnum_241 _ _ _ g36 (by omega) (by omega) (by (first | exact rn_in i241_2 (by omega) (knd_2 (by omega)) (by omega) | rfl)) (by omega) (by omega) (by omega) (by (first | exact nv_s i241_6 (by omega) (by omega) (by omega) (by assumption) | exact Or.inl (by omega) | exact nv_0 rfl rfl)) (by omega) hP hD hS (lv_sub hl [0] rfl)
                      · have dc31 : mdig_241.toInt < 2 := nleC (show (2 : Int32).toInt = 2 from rfl) rfl c31
                        refine lv_bipush (v := 10) hx hb dX10_nextToken_280 (by decide) ?_
                        refine lv_aload_n hx hb dX10_nextToken_282 rfl (lv_at hl 0 rfl) ?_
                        refine va_get (D := (dC, dI)) (ci := 10) (v := .int mnum_241) (C := RX10) (T := TX10) (N := 39) hx hb hts inX10 hown hK hP 0 rfl rfl 25 (by decide) lf155 (fun _ h9 => h9) rfl dX10_nextToken_283 ?_
                        refine lv_imul hx hb dX10_nextToken_286 ?_
                        refine lv_aload_n hx hb dX10_nextToken_287 rfl (lv_at hl 0 rfl) ?_
                        refine va_get (D := (dC, dI)) (ci := 10) (v := .ref (b 20)) (C := RX10) (T := TX10) (N := 39) hx hb hts inX10 hown hK hP 0 rfl rfl 20 (by decide) lf62 (fun _ h9 => h9) rfl dX10_nextToken_288 ?_
                        refine lv_aload_n hx hb dX10_nextToken_291 rfl (lv_at hl 0 rfl) ?_
                        refine va_get (D := (dC, dI)) (ci := 10) (v := .int mpos_241) (C := RX10) (T := TX10) (N := 39) hx hb hts inX10 hown hK hP 0 rfl rfl 21 (by decide) lf146 (fun _ h9 => h9) rfl dX10_nextToken_292 ?_
                        have b37 : vp_in mpos_241 160 := inC rfl (by omega) (by omega)
                        refine va_iald hx hb hK hP 1 0 rfl rfl b37 dX10_nextToken_295 ?_
                        refine lv_iadd hx hb dX10_nextToken_296 ?_
                        refine lv_bipush (v := 48) hx hb dX10_nextToken_297 (by decide) ?_
                        refine lv_isub hx hb dX10_nextToken_299 ?_
                        refine lv_goto (tgt := 307) hx hb dX10_nextToken_300 (by decide) ?_
                        refine lv_topi (fun x38 ex38 => ?_)
                        have ix38 : x38.toInt = (((10 * mnum_241) + (mtxt mpos_241.toNatClampNeg)) - 48).toInt := by rw [ex38]
                        refine va_put (D := (dC, dI)) (ci := 10) (v := .int x38) (ty := .int) (C := RX10) (T := TX10) (N := 39) hx hb hts inX10 tyX10 tyX10_ok nmX10 hown hK hP hD hS 0 rfl rfl 25 (by decide) lf155 (fun _ h9 => h9) rfl (by decide +kernel) rfl rfl (Nat.le_of_ble_eq_true rfl) dX10_nextToken_307 (fun H locs hP hD hS => ?_)
                        have hP : va_P (dC, dI) vwCl (wMdT cI cZ cQ b mday mdoo mtel mgai mbyt mtxt mpos_241 mpos_0 mtok mdig_241 x38 mfau mrdm mlin mbsm) H := hP
                        have hD : va_D A (wMdT cI cZ cQ b mday mdoo mtel mgai mbyt mtxt mpos_241 mpos_0 mtok mdig_241 x38 mfau mrdm mlin mbsm) := hD
                        refine lv_aload_n hx hb dX10_nextToken_310 rfl (lv_at hl 0 rfl) ?_
                        refine lv_dup hx hb dX10_nextToken_311 rfl ?_
                        refine va_get (D := (dC, dI)) (ci := 10) (v := .int mdig_241) (C := RX10) (T := TX10) (N := 39) hx hb hts inX10 hown hK hP 0 rfl rfl 24 (by decide) lf152 (fun _ h9 => h9) rfl dX10_nextToken_312 ?_
                        refine lv_iconst (v := 1) hx hb dX10_nextToken_315 (by decide) ?_
                        refine lv_iadd hx hb dX10_nextToken_316 ?_
                        have f39 : (mdig_241 + 1).toInt = (mdig_241.toInt) + (1) := addC rfl (show (1 : Int32).toInt = 1 from rfl) (by omega) (by omega)
                        refine lv_topi (fun x40 ex40 => ?_)
                        have ix40 : x40.toInt = (mdig_241.toInt) + (1) := by rw [ex40]; exact f39
                        refine va_put (D := (dC, dI)) (ci := 10) (v := .int x40) (ty := .int) (C := RX10) (T := TX10) (N := 39) hx hb hts inX10 tyX10 tyX10_ok nmX10 hown hK hP hD hS 0 rfl rfl 24 (by decide) lf152 (fun _ h9 => h9) rfl (by decide +kernel) rfl rfl (Nat.le_of_ble_eq_true rfl) dX10_nextToken_317 (fun H locs hP hD hS => ?_)
                        have hP : va_P (dC, dI) vwCl (wMdT cI cZ cQ b mday mdoo mtel mgai mbyt mtxt mpos_241 mpos_0 mtok x40 x38 mfau mrdm mlin mbsm) H := hP
                        have hD : va_D A (wMdT cI cZ cQ b mday mdoo mtel mgai mbyt mtxt mpos_241 mpos_0 mtok x40 x38 mfau mrdm mlin mbsm) := hD
                        refine lv_aload_n hx hb dX10_nextToken_320 rfl (lv_at hl 0 rfl) ?_
                        refine lv_dup hx hb dX10_nextToken_321 rfl ?_
                        refine va_get (D := (dC, dI)) (ci := 10) (v := .int mpos_241) (C := RX10) (T := TX10) (N := 39) hx hb hts inX10 hown hK hP 0 rfl rfl 21 (by decide) lf146 (fun _ h9 => h9) rfl dX10_nextToken_322 ?_
                        refine lv_iconst (v := 1) hx hb dX10_nextToken_325 (by decide) ?_
                        refine lv_iadd hx hb dX10_nextToken_326 ?_
                        have f41 : (mpos_241 + 1).toInt = (mpos_241.toInt) + (1) := addC rfl (show (1 : Int32).toInt = 1 from rfl) (by omega) (by omega)
                        refine lv_topi (fun x42 ex42 => ?_)
                        have ix42 : x42.toInt = (mpos_241.toInt) + (1) := by rw [ex42]; exact f41
                        refine va_put (D := (dC, dI)) (ci := 10) (v := .int x42) (ty := .int) (C := RX10) (T := TX10) (N := 39) hx hb hts inX10 tyX10 tyX10_ok nmX10 hown hK hP hD hS 0 rfl rfl 21 (by decide) lf146 (fun _ h9 => h9) rfl (by decide +kernel) rfl rfl (Nat.le_of_ble_eq_true rfl) dX10_nextToken_327 (fun H locs hP hD hS => ?_)
                        have g43 : 0 ≤ x42.toInt ∧ x42.toInt ≤ 160 := by rw [show x42.toInt = x42.toInt from rfl]; exact ⟨by omega, by omega⟩
                        have hP : va_P (dC, dI) vwCl (wMdT cI cZ cQ b mday mdoo mtel mgai mbyt mtxt x42 mpos_0 mtok x40 x38 mfau mrdm mlin mbsm) H := hP
                        have hD : va_D A (wMdT cI cZ cQ b mday mdoo mtel mgai mbyt mtxt x42 mpos_0 mtok x40 x38 mfau mrdm mlin mbsm) := hD
                        refine lv_goto (tgt := 241) hx hb dX10_nextToken_330 (by decide) ?_
                        exact ih241 x42 x40 x38 _ _ _ g43 (by omega) (by omega) (by (first | exact rn_in i241_2 (by omega) (knd_2 (by omega)) (by omega) | rfl)) (by omega) (by omega) (by omega) (by (first | exact nv_s i241_6 (by omega) (by omega) (by omega) (by assumption) | exact Or.inl (by omega) | exact nv_0 rfl rfl)) (by omega) hP hD hS (lv_sub hl [0] rfl)
                    · refine lv_if_eq (tgt := 333) hx hb dX10_nextToken_268 (by decide) (fun _ => ?_) (fun c9 => absurd (by decide) c9)
                      refine lv_aload_n hx hb dX10_nextToken_333 rfl (lv_at hl 0 rfl) ?_
                      refine lv_aload_n hx hb dX10_nextToken_334 rfl (lv_at hl 0 rfl) ?_
                      refine va_get (D := (dC, dI)) (ci := 10) (v := .int mdig_241) (C := RX10) (T := TX10) (N := 39) hx hb hts inX10 hown hK hP 0 rfl rfl 24 (by decide) lf152 (fun _ h9 => h9) rfl dX10_nextToken_335 ?_
                      refine lv_iconst (v := 2) hx hb dX10_nextToken_338 (by decide) ?_
                      refine lv_icmp_le (tgt := 348) hx hb dX10_nextToken_339 (by decide) (fun c44 => ?_) (fun c44 => ?_)
                      · have dc44 : mdig_241.toInt ≤ 2 := leC rfl (show (2 : Int32).toInt = 2 from rfl) c44
                        refine lv_ldc2 (v := (-1)) hx hb hown (hts (.constantLong RX10 170 (-1)) (List.mem_cons_of_mem _ (List.mem_append_left _ (List.mem_of_getElem? (i := 11) rfl)))) dX10_nextToken_348 ?_
                        refine va_put (D := (dC, dI)) (ci := 10) (v := .long (-1)) (ty := .long) (C := RX10) (T := TX10) (N := 39) hx hb hts inX10 tyX10 tyX10_ok nmX10 hown hK hP hD hS 0 rfl rfl 23 (by decide) lf160 (fun _ h9 => h9) rfl (by decide +kernel) rfl rfl (Nat.le_of_ble_eq_true rfl) dX10_nextToken_351 (fun H locs hP hD hS => ?_)
                        have hP : va_P (dC, dI) vwCl (wMdT cI cZ cQ b mday mdoo mtel mgai mbyt mtxt mpos_241 mpos_0 (-1) mdig_241 mnum_241 mfau mrdm mlin mbsm) H := hP
                        have hD : va_D A (wMdT cI cZ cQ b mday mdoo mtel mgai mbyt mtxt mpos_241 mpos_0 (-1) mdig_241 mnum_241 mfau mrdm mlin mbsm) := hD
                        refine lv_goto (tgt := 394) hx hb dX10_nextToken_354 (by decide) ?_
                        exact W.vret hx hb hr (fun tq ht hW => ⟨⟨(uS [(fun _ => mpos_241), (fun _ => mpos_0), (fun _ => 0), (fun _ => mdig_241), (fun _ => mnum_241)] (-1) (fun _ => 0)), rfl, ⟨(show mpos_241.toInt ≤ mbyt.toInt from by omega), (show 0 ≤ mpos_0.toInt from by omega), (show mpos_0.toInt ≤ mpos_241.toInt from by omega), (show mpos_0.toInt = tS mtxt mbyt.toInt mpos.toInt from by exact sk_out i0_1 (by omega)), (show mpos_241.toInt = tE mtxt mbyt.toInt mpos_0.toInt from by (first | exact tE_end (by omega) rfl | exact tE_runA (by omega) (knd_1 (by omega)) (by decide) i101_2 (by first | exact Or.inl (by omega) | exact Or.inr (knd_n1 (by omega))) | exact tE_runA (by omega) (knd_2 (by omega)) (by decide) i241_2 (by first | exact Or.inl (by omega) | exact Or.inr (knd_n2 (by omega))) | exact tE_oneC (by omega) (knd_3 (by omega) (by omega)).symm rfl (by omega))), (show (-1) = tkV mtxt mbyt.toInt mpos_0.toInt mpos_241.toInt from by (first | exact tv_end (by omega) | exact tv_let (by omega) (knd_1 (by omega)) i101_3 (by omega) | exact tv_let4 (by omega) (knd_1 (by omega)) (by omega) | exact tv_dig (by omega) (knd_2 (by omega)) (by omega) | exact tv_dig4 (by omega) (knd_2 (by omega)) (by omega) | exact tv_semi (by omega) (by omega) | exact tv_oth (by omega) (knd_3 (by omega) (by omega)) (by omega))), (show nmP mtxt mbyt.toInt mpos_0.toInt mpos_241.toInt mnum_241 from by (first | exact nm_v (by omega) | exact nm_k (knd_1 (by omega)) (by decide) | exact nm_d i241_6 | exact nm_k (knd_3 (by omega) (by omega)) (by decide))), r_mpos_241⟩, by rw [ht]; exact hP, hD⟩, hS.F ht⟩) hS.2.2 dX10_nextToken_394
                      · have dc44 : 2 < mdig_241.toInt := nleC rfl (show (2 : Int32).toInt = 2 from rfl) c44
                        refine lv_ldc2 (v := (-4)) hx hb hown (hts (.constantLong RX10 168 (-4)) (List.mem_cons_of_mem _ (List.mem_append_left _ (List.mem_of_getElem? (i := 10) rfl)))) dX10_nextToken_342 ?_
                        refine lv_goto (tgt := 351) hx hb dX10_nextToken_345 (by decide) ?_
                        refine va_put (D := (dC, dI)) (ci := 10) (v := .long (-4)) (ty := .long) (C := RX10) (T := TX10) (N := 39) hx hb hts inX10 tyX10 tyX10_ok nmX10 hown hK hP hD hS 0 rfl rfl 23 (by decide) lf160 (fun _ h9 => h9) rfl (by decide +kernel) rfl rfl (Nat.le_of_ble_eq_true rfl) dX10_nextToken_351 (fun H locs hP hD hS => ?_)
                        have hP : va_P (dC, dI) vwCl (wMdT cI cZ cQ b mday mdoo mtel mgai mbyt mtxt mpos_241 mpos_0 (-4) mdig_241 mnum_241 mfau mrdm mlin mbsm) H := hP
                        have hD : va_D A (wMdT cI cZ cQ b mday mdoo mtel mgai mbyt mtxt mpos_241 mpos_0 (-4) mdig_241 mnum_241 mfau mrdm mlin mbsm) := hD
                        refine lv_goto (tgt := 394) hx hb dX10_nextToken_354 (by decide) ?_
                        exact W.vret hx hb hr (fun tq ht hW => ⟨⟨(uS [(fun _ => mpos_241), (fun _ => mpos_0), (fun _ => 0), (fun _ => mdig_241), (fun _ => mnum_241)] (-4) (fun _ => 0)), rfl, ⟨(show mpos_241.toInt ≤ mbyt.toInt from by omega), (show 0 ≤ mpos_0.toInt from by omega), (show mpos_0.toInt ≤ mpos_241.toInt from by omega), (show mpos_0.toInt = tS mtxt mbyt.toInt mpos.toInt from by exact sk_out i0_1 (by omega)), (show mpos_241.toInt = tE mtxt mbyt.toInt mpos_0.toInt from by (first | exact tE_end (by omega) rfl | exact tE_runA (by omega) (knd_1 (by omega)) (by decide) i101_2 (by first | exact Or.inl (by omega) | exact Or.inr (knd_n1 (by omega))) | exact tE_runA (by omega) (knd_2 (by omega)) (by decide) i241_2 (by first | exact Or.inl (by omega) | exact Or.inr (knd_n2 (by omega))) | exact tE_oneC (by omega) (knd_3 (by omega) (by omega)).symm rfl (by omega))), (show (-4) = tkV mtxt mbyt.toInt mpos_0.toInt mpos_241.toInt from by (first | exact tv_end (by omega) | exact tv_let (by omega) (knd_1 (by omega)) i101_3 (by omega) | exact tv_let4 (by omega) (knd_1 (by omega)) (by omega) | exact tv_dig (by omega) (knd_2 (by omega)) (by omega) | exact tv_dig4 (by omega) (knd_2 (by omega)) (by omega) | exact tv_semi (by omega) (by omega) | exact tv_oth (by omega) (knd_3 (by omega) (by omega)) (by omega))), (show nmP mtxt mbyt.toInt mpos_0.toInt mpos_241.toInt mnum_241 from by (first | exact nm_v (by omega) | exact nm_k (knd_1 (by omega)) (by decide) | exact nm_d i241_6 | exact nm_k (knd_3 (by omega) (by omega)) (by decide))), r_mpos_241⟩, by rw [ht]; exact hP, hD⟩, hS.F ht⟩) hS.2.2 dX10_nextToken_394
              have kc45 : (0 : Int32).toInt = 0 := rfl
              exact L241 _ mpos_0 0 0 _ _ _ r_mpos_0 (by omega) (by omega) (by (first | exact rn_in i241_2 (by omega) (knd_2 (by omega)) (by omega) | rfl)) (by omega) (by omega) (by omega) (by (first | exact nv_s i241_6 (by omega) (by omega) (by omega) (by assumption) | exact Or.inl (by omega) | exact nv_0 rfl rfl)) (Nat.lt_succ_self _) hP hD hS (lv_sub hl [0] rfl)
            · refine lv_if_eq (tgt := 357) hx hb dX10_nextToken_238 (by decide) (fun _ => ?_) (fun c9 => absurd (by decide) c9)
              refine lv_aload_n hx hb dX10_nextToken_357 rfl (lv_at hl 0 rfl) ?_
              refine lv_aload_n hx hb dX10_nextToken_358 rfl (lv_at hl 0 rfl) ?_
              refine va_get (D := (dC, dI)) (ci := 10) (v := .ref (b 20)) (C := RX10) (T := TX10) (N := 39) hx hb hts inX10 hown hK hP 0 rfl rfl 20 (by decide) lf62 (fun _ h9 => h9) rfl dX10_nextToken_359 ?_
              refine lv_aload_n hx hb dX10_nextToken_362 rfl (lv_at hl 0 rfl) ?_
              refine va_get (D := (dC, dI)) (ci := 10) (v := .int mpos_0) (C := RX10) (T := TX10) (N := 39) hx hb hts inX10 hown hK hP 0 rfl rfl 21 (by decide) lf146 (fun _ h9 => h9) rfl dX10_nextToken_363 ?_
              have b46 : vp_in mpos_0 160 := inC rfl (by omega) (by omega)
              refine va_iald hx hb hK hP 1 0 rfl rfl b46 dX10_nextToken_366 ?_
              refine lv_bipush (v := 59) hx hb dX10_nextToken_367 (by decide) ?_
              refine lv_icmp_ne (tgt := 378) hx hb dX10_nextToken_369 (by decide) (fun c47 => ?_) (fun c47 => ?_)
              · have dc47 : (mtxt mpos_0.toNatClampNeg).toInt ≠ 59 := neC rfl (show (59 : Int32).toInt = 59 from rfl) c47
                refine lv_ldc2 (v := (-4)) hx hb hown (hts (.constantLong RX10 168 (-4)) (List.mem_cons_of_mem _ (List.mem_append_left _ (List.mem_of_getElem? (i := 10) rfl)))) dX10_nextToken_378 ?_
                refine va_put (D := (dC, dI)) (ci := 10) (v := .long (-4)) (ty := .long) (C := RX10) (T := TX10) (N := 39) hx hb hts inX10 tyX10 tyX10_ok nmX10 hown hK hP hD hS 0 rfl rfl 23 (by decide) lf160 (fun _ h9 => h9) rfl (by decide +kernel) rfl rfl (Nat.le_of_ble_eq_true rfl) dX10_nextToken_381 (fun H locs hP hD hS => ?_)
                have hP : va_P (dC, dI) vwCl (wMdT cI cZ cQ b mday mdoo mtel mgai mbyt mtxt mpos_0 mpos_0 (-4) 0 0 mfau mrdm mlin mbsm) H := hP
                have hD : va_D A (wMdT cI cZ cQ b mday mdoo mtel mgai mbyt mtxt mpos_0 mpos_0 (-4) 0 0 mfau mrdm mlin mbsm) := hD
                refine lv_aload_n hx hb dX10_nextToken_384 rfl (lv_at hl 0 rfl) ?_
                refine lv_dup hx hb dX10_nextToken_385 rfl ?_
                refine va_get (D := (dC, dI)) (ci := 10) (v := .int mpos_0) (C := RX10) (T := TX10) (N := 39) hx hb hts inX10 hown hK hP 0 rfl rfl 21 (by decide) lf146 (fun _ h9 => h9) rfl dX10_nextToken_386 ?_
                refine lv_iconst (v := 1) hx hb dX10_nextToken_389 (by decide) ?_
                refine lv_iadd hx hb dX10_nextToken_390 ?_
                have f48 : (mpos_0 + 1).toInt = (mpos_0.toInt) + (1) := addC rfl (show (1 : Int32).toInt = 1 from rfl) (by omega) (by omega)
                refine lv_topi (fun x49 ex49 => ?_)
                have ix49 : x49.toInt = (mpos_0.toInt) + (1) := by rw [ex49]; exact f48
                refine va_put (D := (dC, dI)) (ci := 10) (v := .int x49) (ty := .int) (C := RX10) (T := TX10) (N := 39) hx hb hts inX10 tyX10 tyX10_ok nmX10 hown hK hP hD hS 0 rfl rfl 21 (by decide) lf146 (fun _ h9 => h9) rfl (by decide +kernel) rfl rfl (Nat.le_of_ble_eq_true rfl) dX10_nextToken_391 (fun H locs hP hD hS => ?_)
                have g50 : 0 ≤ x49.toInt ∧ x49.toInt ≤ 160 := by rw [show x49.toInt = x49.toInt from rfl]; exact ⟨by omega, by omega⟩
                have hP : va_P (dC, dI) vwCl (wMdT cI cZ cQ b mday mdoo mtel mgai mbyt mtxt x49 mpos_0 (-4) 0 0 mfau mrdm mlin mbsm) H := hP
                have hD : va_D A (wMdT cI cZ cQ b mday mdoo mtel mgai mbyt mtxt x49 mpos_0 (-4) 0 0 mfau mrdm mlin mbsm) := hD
                exact W.vret hx hb hr (fun tq ht hW => ⟨⟨(uS [(fun _ => x49), (fun _ => mpos_0), (fun _ => 0), (fun _ => 0), (fun _ => 0)] (-4) (fun _ => 0)), rfl, ⟨(show x49.toInt ≤ mbyt.toInt from by omega), (show 0 ≤ mpos_0.toInt from by omega), (show mpos_0.toInt ≤ x49.toInt from by omega), (show mpos_0.toInt = tS mtxt mbyt.toInt mpos.toInt from by exact sk_out i0_1 (by omega)), (show x49.toInt = tE mtxt mbyt.toInt mpos_0.toInt from by (first | exact tE_end (by omega) rfl | exact tE_runA (by omega) (knd_1 (by omega)) (by decide) i101_2 (by first | exact Or.inl (by omega) | exact Or.inr (knd_n1 (by omega))) | exact tE_runA (by omega) (knd_2 (by omega)) (by decide) i241_2 (by first | exact Or.inl (by omega) | exact Or.inr (knd_n2 (by omega))) | exact tE_oneC (by omega) (knd_3 (by omega) (by omega)).symm rfl (by omega))), (show (-4) = tkV mtxt mbyt.toInt mpos_0.toInt x49.toInt from by (first | exact tv_end (by omega) | exact tv_let (by omega) (knd_1 (by omega)) i101_3 (by omega) | exact tv_let4 (by omega) (knd_1 (by omega)) (by omega) | exact tv_dig (by omega) (knd_2 (by omega)) (by omega) | exact tv_dig4 (by omega) (knd_2 (by omega)) (by omega) | exact tv_semi (by omega) (by omega) | exact tv_oth (by omega) (knd_3 (by omega) (by omega)) (by omega))), (show nmP mtxt mbyt.toInt mpos_0.toInt x49.toInt 0 from by (first | exact nm_v (by omega) | exact nm_k (knd_1 (by omega)) (by decide) | exact nm_d i241_6 | exact nm_k (knd_3 (by omega) (by omega)) (by decide))), g50⟩, by rw [ht]; exact hP, hD⟩, hS.F ht⟩) hS.2.2 dX10_nextToken_394
              · have dc47 : (mtxt mpos_0.toNatClampNeg).toInt = 59 := eqC rfl (show (59 : Int32).toInt = 59 from rfl) c47
                refine lv_ldc2 (v := (-3)) hx hb hown (hts (.constantLong RX10 172 (-3)) (List.mem_cons_of_mem _ (List.mem_append_left _ (List.mem_of_getElem? (i := 12) rfl)))) dX10_nextToken_372 ?_
                refine lv_goto (tgt := 381) hx hb dX10_nextToken_375 (by decide) ?_
                refine va_put (D := (dC, dI)) (ci := 10) (v := .long (-3)) (ty := .long) (C := RX10) (T := TX10) (N := 39) hx hb hts inX10 tyX10 tyX10_ok nmX10 hown hK hP hD hS 0 rfl rfl 23 (by decide) lf160 (fun _ h9 => h9) rfl (by decide +kernel) rfl rfl (Nat.le_of_ble_eq_true rfl) dX10_nextToken_381 (fun H locs hP hD hS => ?_)
                have hP : va_P (dC, dI) vwCl (wMdT cI cZ cQ b mday mdoo mtel mgai mbyt mtxt mpos_0 mpos_0 (-3) 0 0 mfau mrdm mlin mbsm) H := hP
                have hD : va_D A (wMdT cI cZ cQ b mday mdoo mtel mgai mbyt mtxt mpos_0 mpos_0 (-3) 0 0 mfau mrdm mlin mbsm) := hD
                refine lv_aload_n hx hb dX10_nextToken_384 rfl (lv_at hl 0 rfl) ?_
                refine lv_dup hx hb dX10_nextToken_385 rfl ?_
                refine va_get (D := (dC, dI)) (ci := 10) (v := .int mpos_0) (C := RX10) (T := TX10) (N := 39) hx hb hts inX10 hown hK hP 0 rfl rfl 21 (by decide) lf146 (fun _ h9 => h9) rfl dX10_nextToken_386 ?_
                refine lv_iconst (v := 1) hx hb dX10_nextToken_389 (by decide) ?_
                refine lv_iadd hx hb dX10_nextToken_390 ?_
                have f51 : (mpos_0 + 1).toInt = (mpos_0.toInt) + (1) := addC rfl (show (1 : Int32).toInt = 1 from rfl) (by omega) (by omega)
                refine lv_topi (fun x52 ex52 => ?_)
                have ix52 : x52.toInt = (mpos_0.toInt) + (1) := by rw [ex52]; exact f51
                refine va_put (D := (dC, dI)) (ci := 10) (v := .int x52) (ty := .int) (C := RX10) (T := TX10) (N := 39) hx hb hts inX10 tyX10 tyX10_ok nmX10 hown hK hP hD hS 0 rfl rfl 21 (by decide) lf146 (fun _ h9 => h9) rfl (by decide +kernel) rfl rfl (Nat.le_of_ble_eq_true rfl) dX10_nextToken_391 (fun H locs hP hD hS => ?_)
                have g53 : 0 ≤ x52.toInt ∧ x52.toInt ≤ 160 := by rw [show x52.toInt = x52.toInt from rfl]; exact ⟨by omega, by omega⟩
                have hP : va_P (dC, dI) vwCl (wMdT cI cZ cQ b mday mdoo mtel mgai mbyt mtxt x52 mpos_0 (-3) 0 0 mfau mrdm mlin mbsm) H := hP
                have hD : va_D A (wMdT cI cZ cQ b mday mdoo mtel mgai mbyt mtxt x52 mpos_0 (-3) 0 0 mfau mrdm mlin mbsm) := hD
                exact W.vret hx hb hr (fun tq ht hW => ⟨⟨(uS [(fun _ => x52), (fun _ => mpos_0), (fun _ => 0), (fun _ => 0), (fun _ => 0)] (-3) (fun _ => 0)), rfl, ⟨(show x52.toInt ≤ mbyt.toInt from by omega), (show 0 ≤ mpos_0.toInt from by omega), (show mpos_0.toInt ≤ x52.toInt from by omega), (show mpos_0.toInt = tS mtxt mbyt.toInt mpos.toInt from by exact sk_out i0_1 (by omega)), (show x52.toInt = tE mtxt mbyt.toInt mpos_0.toInt from by (first | exact tE_end (by omega) rfl | exact tE_runA (by omega) (knd_1 (by omega)) (by decide) i101_2 (by first | exact Or.inl (by omega) | exact Or.inr (knd_n1 (by omega))) | exact tE_runA (by omega) (knd_2 (by omega)) (by decide) i241_2 (by first | exact Or.inl (by omega) | exact Or.inr (knd_n2 (by omega))) | exact tE_oneC (by omega) (knd_3 (by omega) (by omega)).symm rfl (by omega))), (show (-3) = tkV mtxt mbyt.toInt mpos_0.toInt x52.toInt from by (first | exact tv_end (by omega) | exact tv_let (by omega) (knd_1 (by omega)) i101_3 (by omega) | exact tv_let4 (by omega) (knd_1 (by omega)) (by omega) | exact tv_dig (by omega) (knd_2 (by omega)) (by omega) | exact tv_dig4 (by omega) (knd_2 (by omega)) (by omega) | exact tv_semi (by omega) (by omega) | exact tv_oth (by omega) (knd_3 (by omega) (by omega)) (by omega))), (show nmP mtxt mbyt.toInt mpos_0.toInt x52.toInt 0 from by (first | exact nm_v (by omega) | exact nm_k (knd_1 (by omega)) (by decide) | exact nm_d i241_6 | exact nm_k (knd_3 (by omega) (by omega)) (by decide))), g53⟩, by rw [ht]; exact hP, hD⟩, hS.F ht⟩) hS.2.2 dX10_nextToken_394
        · have dc2 : mpos_0.toInt = mbyt.toInt := eqC rfl rfl c2
          refine lv_aload_n hx hb dX10_nextToken_67 rfl (lv_at hl 0 rfl) ?_
          refine lv_ldc2 (v := (-2)) hx hb hown (hts (.constantLong RX10 158 (-2)) (List.mem_cons_of_mem _ (List.mem_append_left _ (List.mem_of_getElem? (i := 6) rfl)))) dX10_nextToken_68 ?_
          refine va_put (D := (dC, dI)) (ci := 10) (v := .long (-2)) (ty := .long) (C := RX10) (T := TX10) (N := 39) hx hb hts inX10 tyX10 tyX10_ok nmX10 hown hK hP hD hS 0 rfl rfl 23 (by decide) lf160 (fun _ h9 => h9) rfl (by decide +kernel) rfl rfl (Nat.le_of_ble_eq_true rfl) dX10_nextToken_71 (fun H locs hP hD hS => ?_)
          have hP : va_P (dC, dI) vwCl (wMdT cI cZ cQ b mday mdoo mtel mgai mbyt mtxt mpos_0 mpos_0 (-2) 0 0 mfau mrdm mlin mbsm) H := hP
          have hD : va_D A (wMdT cI cZ cQ b mday mdoo mtel mgai mbyt mtxt mpos_0 mpos_0 (-2) 0 0 mfau mrdm mlin mbsm) := hD
          refine lv_goto (tgt := 394) hx hb dX10_nextToken_74 (by decide) ?_
          exact W.vret hx hb hr (fun tq ht hW => ⟨⟨(uS [(fun _ => mpos_0), (fun _ => mpos_0), (fun _ => 0), (fun _ => 0), (fun _ => 0)] (-2) (fun _ => 0)), rfl, ⟨(show mpos_0.toInt ≤ mbyt.toInt from by omega), (show 0 ≤ mpos_0.toInt from by omega), (show mpos_0.toInt ≤ mpos_0.toInt from by omega), (show mpos_0.toInt = tS mtxt mbyt.toInt mpos.toInt from by exact sk_out i0_1 (by omega)), (show mpos_0.toInt = tE mtxt mbyt.toInt mpos_0.toInt from by (first | exact tE_end (by omega) rfl | exact tE_runA (by omega) (knd_1 (by omega)) (by decide) i101_2 (by first | exact Or.inl (by omega) | exact Or.inr (knd_n1 (by omega))) | exact tE_runA (by omega) (knd_2 (by omega)) (by decide) i241_2 (by first | exact Or.inl (by omega) | exact Or.inr (knd_n2 (by omega))) | exact tE_oneC (by omega) (knd_3 (by omega) (by omega)).symm rfl (by omega))), (show (-2) = tkV mtxt mbyt.toInt mpos_0.toInt mpos_0.toInt from by (first | exact tv_end (by omega) | exact tv_let (by omega) (knd_1 (by omega)) i101_3 (by omega) | exact tv_let4 (by omega) (knd_1 (by omega)) (by omega) | exact tv_dig (by omega) (knd_2 (by omega)) (by omega) | exact tv_dig4 (by omega) (knd_2 (by omega)) (by omega) | exact tv_semi (by omega) (by omega) | exact tv_oth (by omega) (knd_3 (by omega) (by omega)) (by omega))), (show nmP mtxt mbyt.toInt mpos_0.toInt mpos_0.toInt 0 from by (first | exact nm_v (by omega) | exact nm_k (knd_1 (by omega)) (by decide) | exact nm_d i241_6 | exact nm_k (knd_3 (by omega) (by omega)) (by decide))), r_mpos_0⟩, by rw [ht]; exact hP, hD⟩, hS.F ht⟩) hS.2.2 dX10_nextToken_394
      · have dc1 : mpos_0.toInt < mbyt.toInt := nleC rfl rfl c1
        refine lv_aload_n hx hb dX10_nextToken_11 rfl (lv_at hl 0 rfl) ?_
        refine va_get (D := (dC, dI)) (ci := 10) (v := .ref (b 20)) (C := RX10) (T := TX10) (N := 39) hx hb hts inX10 hown hK hP 0 rfl rfl 20 (by decide) lf62 (fun _ h9 => h9) rfl dX10_nextToken_12 ?_
        refine lv_aload_n hx hb dX10_nextToken_15 rfl (lv_at hl 0 rfl) ?_
        refine va_get (D := (dC, dI)) (ci := 10) (v := .int mpos_0) (C := RX10) (T := TX10) (N := 39) hx hb hts inX10 hown hK hP 0 rfl rfl 21 (by decide) lf146 (fun _ h9 => h9) rfl dX10_nextToken_16 ?_
        have b54 : vp_in mpos_0 160 := inC rfl (by omega) (by omega)
        refine va_iald hx hb hK hP 1 0 rfl rfl b54 dX10_nextToken_19 ?_
        refine lv_bipush (v := 32) hx hb dX10_nextToken_20 (by decide) ?_
        refine lv_icmp_ne (tgt := 38) hx hb dX10_nextToken_22 (by decide) (fun c55 => ?_) (fun c55 => ?_)
        · have dc55 : (mtxt mpos_0.toNatClampNeg).toInt ≠ 32 := neC rfl (show (32 : Int32).toInt = 32 from rfl) c55
          refine lv_aload_n hx hb dX10_nextToken_38 rfl (lv_at hl 0 rfl) ?_
          refine lv_aload_n hx hb dX10_nextToken_39 rfl (lv_at hl 0 rfl) ?_
          refine va_get (D := (dC, dI)) (ci := 10) (v := .int mpos_0) (C := RX10) (T := TX10) (N := 39) hx hb hts inX10 hown hK hP 0 rfl rfl 21 (by decide) lf146 (fun _ h9 => h9) rfl dX10_nextToken_40 ?_
          refine va_put (D := (dC, dI)) (ci := 10) (v := .int mpos_0) (ty := .int) (C := RX10) (T := TX10) (N := 39) hx hb hts inX10 tyX10 tyX10_ok nmX10 hown hK hP hD hS 0 rfl rfl 22 (by decide) lf149 (fun _ h9 => h9) rfl (by decide +kernel) rfl rfl (Nat.le_of_ble_eq_true rfl) dX10_nextToken_43 (fun H locs hP hD hS => ?_)
          have hP : va_P (dC, dI) vwCl (wMdT cI cZ cQ b mday mdoo mtel mgai mbyt mtxt mpos_0 mpos_0 mtok mdig mnum mfau mrdm mlin mbsm) H := hP
          have hD : va_D A (wMdT cI cZ cQ b mday mdoo mtel mgai mbyt mtxt mpos_0 mpos_0 mtok mdig mnum mfau mrdm mlin mbsm) := hD
          refine lv_aload_n hx hb dX10_nextToken_46 rfl (lv_at hl 0 rfl) ?_
          refine lv_iconst (v := 0) hx hb dX10_nextToken_47 (by decide) ?_
          refine va_put (D := (dC, dI)) (ci := 10) (v := .int 0) (ty := .int) (C := RX10) (T := TX10) (N := 39) hx hb hts inX10 tyX10 tyX10_ok nmX10 hown hK hP hD hS 0 rfl rfl 24 (by decide) lf152 (fun _ h9 => h9) rfl (by decide +kernel) rfl rfl (Nat.le_of_ble_eq_true rfl) dX10_nextToken_48 (fun H locs hP hD hS => ?_)
          have hP : va_P (dC, dI) vwCl (wMdT cI cZ cQ b mday mdoo mtel mgai mbyt mtxt mpos_0 mpos_0 mtok 0 mnum mfau mrdm mlin mbsm) H := hP
          have hD : va_D A (wMdT cI cZ cQ b mday mdoo mtel mgai mbyt mtxt mpos_0 mpos_0 mtok 0 mnum mfau mrdm mlin mbsm) := hD
          refine lv_aload_n hx hb dX10_nextToken_51 rfl (lv_at hl 0 rfl) ?_
          refine lv_iconst (v := 0) hx hb dX10_nextToken_52 (by decide) ?_
          refine va_put (D := (dC, dI)) (ci := 10) (v := .int 0) (ty := .int) (C := RX10) (T := TX10) (N := 39) hx hb hts inX10 tyX10 tyX10_ok nmX10 hown hK hP hD hS 0 rfl rfl 25 (by decide) lf155 (fun _ h9 => h9) rfl (by decide +kernel) rfl rfl (Nat.le_of_ble_eq_true rfl) dX10_nextToken_53 (fun H locs hP hD hS => ?_)
          have hP : va_P (dC, dI) vwCl (wMdT cI cZ cQ b mday mdoo mtel mgai mbyt mtxt mpos_0 mpos_0 mtok 0 0 mfau mrdm mlin mbsm) H := hP
          have hD : va_D A (wMdT cI cZ cQ b mday mdoo mtel mgai mbyt mtxt mpos_0 mpos_0 mtok 0 0 mfau mrdm mlin mbsm) := hD
          refine lv_aload_n hx hb dX10_nextToken_56 rfl (lv_at hl 0 rfl) ?_
          refine va_get (D := (dC, dI)) (ci := 10) (v := .int mpos_0) (C := RX10) (T := TX10) (N := 39) hx hb hts inX10 hown hK hP 0 rfl rfl 21 (by decide) lf146 (fun _ h9 => h9) rfl dX10_nextToken_57 ?_
          refine lv_aload_n hx hb dX10_nextToken_60 rfl (lv_at hl 0 rfl) ?_
          refine va_get (D := (dC, dI)) (ci := 10) (v := .int mbyt) (C := RX10) (T := TX10) (N := 39) hx hb hts inX10 hown hK hP 0 rfl rfl 19 (by decide) lf141 (fun _ h9 => h9) rfl dX10_nextToken_61 ?_
          refine lv_icmp_ne (tgt := 77) hx hb dX10_nextToken_64 (by decide) (fun c56 => ?_) (fun c56 => ?_)
          · have dc56 : mpos_0.toInt ≠ mbyt.toInt := neC rfl rfl c56
            refine lv_aload_n hx hb dX10_nextToken_77 rfl (lv_at hl 0 rfl) ?_
            refine va_get (D := (dC, dI)) (ci := 10) (v := .ref (b 20)) (C := RX10) (T := TX10) (N := 39) hx hb hts inX10 hown hK hP 0 rfl rfl 20 (by decide) lf62 (fun _ h9 => h9) rfl dX10_nextToken_78 ?_
            refine lv_aload_n hx hb dX10_nextToken_81 rfl (lv_at hl 0 rfl) ?_
            refine va_get (D := (dC, dI)) (ci := 10) (v := .int mpos_0) (C := RX10) (T := TX10) (N := 39) hx hb hts inX10 hown hK hP 0 rfl rfl 21 (by decide) lf146 (fun _ h9 => h9) rfl dX10_nextToken_82 ?_
            have b57 : vp_in mpos_0 160 := inC rfl (by omega) (by omega)
            refine va_iald hx hb hK hP 1 0 rfl rfl b57 dX10_nextToken_85 ?_
            refine lv_bipush (v := 97) hx hb dX10_nextToken_86 (by decide) ?_
            refine lv_bipush (v := 122) hx hb dX10_nextToken_88 (by decide) ?_
            refine rdS (As := [.int (mtxt mpos_0.toNatClampNeg), .int 97, .int 122]) (rest := []) ⟨hx, hb, hml, hown, hts⟩ (k_X10_in l dC dI cI cZ cQ (mtxt mpos_0.toNatClampNeg) (97 : Int32) (122 : Int32)) (va_cwS 3 hts gX10_nextToken_X10_in rfl rfl rfl (by decide +kernel) ⟨Nat.le_of_ble_eq_true rfl, Nat.le_of_ble_eq_true rfl⟩) hP hK hN [] rfl rfl hl.1 rfl (Nat.le_of_ble_eq_true rfl) dX10_nextToken_90 ⟨Nat.le_of_ble_eq_true rfl, Nat.le_of_ble_eq_true rfl⟩ (fun r58 h59 => ?_)
            have h59 : ((((r58 = 1) ∧ ((97) ≤ (mtxt mpos_0.toNatClampNeg).toInt) ∧ ((mtxt mpos_0.toNatClampNeg).toInt ≤ (122))) ∨ ((r58 = 0) ∧ ((mtxt mpos_0.toNatClampNeg).toInt < (97) ∨ (122) < (mtxt mpos_0.toNatClampNeg).toInt)))) := h59
            rcases h59 with (⟨rfl, h59_a0, h59_a1⟩ | ⟨rfl, h59_a0⟩)
            · refine lv_if_eq (tgt := 222) hx hb dX10_nextToken_93 (by decide) (fun c9 => absurd c9 (by decide)) (fun _ => ?_)
              refine lv_aload_n hx hb dX10_nextToken_96 rfl (lv_at hl 0 rfl) ?_
              refine lv_lconst (v := 0) hx hb dX10_nextToken_97 (by decide) ?_
              refine va_put (D := (dC, dI)) (ci := 10) (v := .long 0) (ty := .long) (C := RX10) (T := TX10) (N := 39) hx hb hts inX10 tyX10 tyX10_ok nmX10 hown hK hP hD hS 0 rfl rfl 23 (by decide) lf160 (fun _ h9 => h9) rfl (by decide +kernel) rfl rfl (Nat.le_of_ble_eq_true rfl) dX10_nextToken_98 (fun H locs hP hD hS => ?_)
              have hP : va_P (dC, dI) vwCl (wMdT cI cZ cQ b mday mdoo mtel mgai mbyt mtxt mpos_0 mpos_0 0 0 0 mfau mrdm mlin mbsm) H := hP
              have hD : va_D A (wMdT cI cZ cQ b mday mdoo mtel mgai mbyt mtxt mpos_0 mpos_0 0 0 0 mfau mrdm mlin mbsm) := hD
              have L101 : ∀ (nn : Nat) (mpos_101 : Int32) (mtok_101 : Int64) (H : Heap) (locs : List Loc) (ls : Array Slot), (0 ≤ mpos_101.toInt ∧ mpos_101.toInt ≤ 160) → (mpos_101.toInt ≤ mbyt.toInt) → (mpos_0.toInt ≤ mpos_101.toInt) → (tR mtxt 1 mbyt.toInt mpos_101.toInt = tR mtxt 1 mbyt.toInt mpos_0.toInt) → (9 < mpos_101.toInt - mpos_0.toInt ∨ mtok_101 = wvF mtxt mpos_0.toInt (mpos_101.toInt - mpos_0.toInt).toNat) → (mbyt.toInt - mpos_101.toInt).toNat < nn → va_P (dC, dI) vwCl (wMdT cI cZ cQ b mday mdoo mtel mgai mbyt mtxt mpos_101 mpos_0 mtok_101 0 0 mfau mrdm mlin mbsm) H → va_D A (wMdT cI cZ cQ b mday mdoo mtel mgai mbyt mtxt mpos_101 mpos_0 mtok_101 0 0 mfau mrdm mlin mbsm) → va_S A s.heap H locs → lv_has ls 1 [(0, .ref (b 39))] → W p l e (headSpec wsX10_nextToken { frames := 1, cells := 0, slots := 0, locals := 22 }).room s m ([.ref (b 39)] : List Value).toArray below meth c H locs 0 0 (MQ below (va_Qv (fun (u : US) => ((u.1 0 0).toInt ≤ mbyt.toInt) ∧ (0 ≤ (u.1 1 0).toInt) ∧ ((u.1 1 0).toInt ≤ (u.1 0 0).toInt) ∧ ((u.1 1 0).toInt = tS mtxt mbyt.toInt mpos.toInt) ∧ ((u.1 0 0).toInt = tE mtxt mbyt.toInt (u.1 1 0).toInt) ∧ (u.2.1 = tkV mtxt mbyt.toInt (u.1 1 0).toInt (u.1 0 0).toInt) ∧ (nmP mtxt mbyt.toInt (u.1 1 0).toInt (u.1 0 0).toInt (u.1 4 0)) ∧ (0 ≤ (u.1 0 0).toInt ∧ (u.1 0 0).toInt ≤ 160)) (Bw (dC, dI) A (fun u : US => (wMdT cI cZ cQ b mday mdoo mtel mgai mbyt mtxt (u.1 0 0) (u.1 1 0) u.2.1 (u.1 3 0) (u.1 4 0) mfau mrdm mlin mbsm))) A) ([.ref (b 39)] : List Value).toArray s 0 0 A) (F0 m 101 ls []) := by
                intro nn
                induction nn with
                | zero =>
                  intro mpos_101 mtok_101 H locs ls r_mpos_101 i101_0 i101_1 i101_2 i101_3 hm101
                  exact absurd hm101 (Nat.not_lt_zero _)
                | succ nn ih101 =>
                  intro mpos_101 mtok_101 H locs ls r_mpos_101 i101_0 i101_1 i101_2 i101_3 hm101 hP hD hS hl
                  refine lv_aload_n hx hb dX10_nextToken_101 rfl (lv_at hl 0 rfl) ?_
                  refine va_get (D := (dC, dI)) (ci := 10) (v := .int mpos_101) (C := RX10) (T := TX10) (N := 39) hx hb hts inX10 hown hK hP 0 rfl rfl 21 (by decide) lf146 (fun _ h9 => h9) rfl dX10_nextToken_102 ?_
                  refine lv_aload_n hx hb dX10_nextToken_105 rfl (lv_at hl 0 rfl) ?_
                  refine va_get (D := (dC, dI)) (ci := 10) (v := .int mbyt) (C := RX10) (T := TX10) (N := 39) hx hb hts inX10 hown hK hP 0 rfl rfl 19 (by decide) lf141 (fun _ h9 => h9) rfl dX10_nextToken_106 ?_
                  refine lv_icmp_ge (tgt := 191) hx hb dX10_nextToken_109 (by decide) (fun c60 => ?_) (fun c60 => ?_)
                  · have dc60 : mbyt.toInt ≤ mpos_101.toInt := leC rfl rfl c60
                    refine lv_aload_n hx hb dX10_nextToken_191 rfl (lv_at hl 0 rfl) ?_
                    refine lv_aload_n hx hb dX10_nextToken_192 rfl (lv_at hl 0 rfl) ?_
                    refine va_get (D := (dC, dI)) (ci := 10) (v := .int mpos_101) (C := RX10) (T := TX10) (N := 39) hx hb hts inX10 hown hK hP 0 rfl rfl 21 (by decide) lf146 (fun _ h9 => h9) rfl dX10_nextToken_193 ?_
                    refine lv_aload_n hx hb dX10_nextToken_196 rfl (lv_at hl 0 rfl) ?_
                    refine va_get (D := (dC, dI)) (ci := 10) (v := .int mpos_0) (C := RX10) (T := TX10) (N := 39) hx hb hts inX10 hown hK hP 0 rfl rfl 22 (by decide) lf149 (fun _ h9 => h9) rfl dX10_nextToken_197 ?_
                    refine lv_isub hx hb dX10_nextToken_200 ?_
                    have f61 : (mpos_101 - mpos_0).toInt = (mpos_101.toInt) - (mpos_0.toInt) := subC rfl rfl (by omega) (by omega)
                    refine lv_bipush (v := 9) hx hb dX10_nextToken_201 (by decide) ?_
                    refine lv_icmp_le (tgt := 212) hx hb dX10_nextToken_203 (by decide) (fun c62 => ?_) (fun c62 => ?_)
                    · have dc62 : (mpos_101.toInt) - (mpos_0.toInt) ≤ 9 := leC f61 (show (9 : Int32).toInt = 9 from rfl) c62
                      refine lv_aload_n hx hb dX10_nextToken_212 rfl (lv_at hl 0 rfl) ?_
                      refine va_get (D := (dC, dI)) (ci := 10) (v := .long mtok_101) (C := RX10) (T := TX10) (N := 39) hx hb hts inX10 hown hK hP 0 rfl rfl 23 (by decide) lf160 (fun _ h9 => h9) rfl dX10_nextToken_213 ?_
                      refine va_put (D := (dC, dI)) (ci := 10) (v := .long mtok_101) (ty := .long) (C := RX10) (T := TX10) (N := 39) hx hb hts inX10 tyX10 tyX10_ok nmX10 hown hK hP hD hS 0 rfl rfl 23 (by decide) lf160 (fun _ h9 => h9) rfl (by decide +kernel) rfl rfl (Nat.le_of_ble_eq_true rfl) dX10_nextToken_216 (fun H locs hP hD hS => ?_)
                      have hP : va_P (dC, dI) vwCl (wMdT cI cZ cQ b mday mdoo mtel mgai mbyt mtxt mpos_101 mpos_0 mtok_101 0 0 mfau mrdm mlin mbsm) H := hP
                      have hD : va_D A (wMdT cI cZ cQ b mday mdoo mtel mgai mbyt mtxt mpos_101 mpos_0 mtok_101 0 0 mfau mrdm mlin mbsm) := hD
                      refine lv_goto (tgt := 394) hx hb dX10_nextToken_219 (by decide) ?_
                      exact W.vret hx hb hr (fun tq ht hW => ⟨⟨(uS [(fun _ => mpos_101), (fun _ => mpos_0), (fun _ => 0), (fun _ => 0), (fun _ => 0)] mtok_101 (fun _ => 0)), rfl, ⟨(show mpos_101.toInt ≤ mbyt.toInt from by omega), (show 0 ≤ mpos_0.toInt from by omega), (show mpos_0.toInt ≤ mpos_101.toInt from by omega), (show mpos_0.toInt = tS mtxt mbyt.toInt mpos.toInt from by exact sk_out i0_1 (by omega)), (show mpos_101.toInt = tE mtxt mbyt.toInt mpos_0.toInt from by (first | exact tE_end (by omega) rfl | exact tE_runA (by omega) (knd_1 (by omega)) (by decide) i101_2 (by first | exact Or.inl (by omega) | exact Or.inr (knd_n1 (by omega))) | exact tE_runA (by omega) (knd_2 (by omega)) (by decide) i241_2 (by first | exact Or.inl (by omega) | exact Or.inr (knd_n2 (by omega))) | exact tE_oneC (by omega) (knd_3 (by omega) (by omega)).symm rfl (by omega))), (show mtok_101 = tkV mtxt mbyt.toInt mpos_0.toInt mpos_101.toInt from by (first | exact tv_end (by omega) | exact tv_let (by omega) (knd_1 (by omega)) i101_3 (by omega) | exact tv_let4 (by omega) (knd_1 (by omega)) (by omega) | exact tv_dig (by omega) (knd_2 (by omega)) (by omega) | exact tv_dig4 (by omega) (knd_2 (by omega)) (by omega) | exact tv_semi (by omega) (by omega) | exact tv_oth (by omega) (knd_3 (by omega) (by omega)) (by omega))), (show nmP mtxt mbyt.toInt mpos_0.toInt mpos_101.toInt 0 from by (first | exact nm_v (by omega) | exact nm_k (knd_1 (by omega)) (by decide) | exact nm_d i241_6 | exact nm_k (knd_3 (by omega) (by omega)) (by decide))), r_mpos_101⟩, by rw [ht]; exact hP, hD⟩, hS.F ht⟩) hS.2.2 dX10_nextToken_394
                    · have dc62 : 9 < (mpos_101.toInt) - (mpos_0.toInt) := nleC f61 (show (9 : Int32).toInt = 9 from rfl) c62
                      refine lv_ldc2 (v := (-4)) hx hb hown (hts (.constantLong RX10 168 (-4)) (List.mem_cons_of_mem _ (List.mem_append_left _ (List.mem_of_getElem? (i := 10) rfl)))) dX10_nextToken_206 ?_
                      refine lv_goto (tgt := 216) hx hb dX10_nextToken_209 (by decide) ?_
                      refine va_put (D := (dC, dI)) (ci := 10) (v := .long (-4)) (ty := .long) (C := RX10) (T := TX10) (N := 39) hx hb hts inX10 tyX10 tyX10_ok nmX10 hown hK hP hD hS 0 rfl rfl 23 (by decide) lf160 (fun _ h9 => h9) rfl (by decide +kernel) rfl rfl (Nat.le_of_ble_eq_true rfl) dX10_nextToken_216 (fun H locs hP hD hS => ?_)
                      have hP : va_P (dC, dI) vwCl (wMdT cI cZ cQ b mday mdoo mtel mgai mbyt mtxt mpos_101 mpos_0 (-4) 0 0 mfau mrdm mlin mbsm) H := hP
                      have hD : va_D A (wMdT cI cZ cQ b mday mdoo mtel mgai mbyt mtxt mpos_101 mpos_0 (-4) 0 0 mfau mrdm mlin mbsm) := hD
                      refine lv_goto (tgt := 394) hx hb dX10_nextToken_219 (by decide) ?_
                      exact W.vret hx hb hr (fun tq ht hW => ⟨⟨(uS [(fun _ => mpos_101), (fun _ => mpos_0), (fun _ => 0), (fun _ => 0), (fun _ => 0)] (-4) (fun _ => 0)), rfl, ⟨(show mpos_101.toInt ≤ mbyt.toInt from by omega), (show 0 ≤ mpos_0.toInt from by omega), (show mpos_0.toInt ≤ mpos_101.toInt from by omega), (show mpos_0.toInt = tS mtxt mbyt.toInt mpos.toInt from by exact sk_out i0_1 (by omega)), (show mpos_101.toInt = tE mtxt mbyt.toInt mpos_0.toInt from by (first | exact tE_end (by omega) rfl | exact tE_runA (by omega) (knd_1 (by omega)) (by decide) i101_2 (by first | exact Or.inl (by omega) | exact Or.inr (knd_n1 (by omega))) | exact tE_runA (by omega) (knd_2 (by omega)) (by decide) i241_2 (by first | exact Or.inl (by omega) | exact Or.inr (knd_n2 (by omega))) | exact tE_oneC (by omega) (knd_3 (by omega) (by omega)).symm rfl (by omega))), (show (-4) = tkV mtxt mbyt.toInt mpos_0.toInt mpos_101.toInt from by (first | exact tv_end (by omega) | exact tv_let (by omega) (knd_1 (by omega)) i101_3 (by omega) | exact tv_let4 (by omega) (knd_1 (by omega)) (by omega) | exact tv_dig (by omega) (knd_2 (by omega)) (by omega) | exact tv_dig4 (by omega) (knd_2 (by omega)) (by omega) | exact tv_semi (by omega) (by omega) | exact tv_oth (by omega) (knd_3 (by omega) (by omega)) (by omega))), (show nmP mtxt mbyt.toInt mpos_0.toInt mpos_101.toInt 0 from by (first | exact nm_v (by omega) | exact nm_k (knd_1 (by omega)) (by decide) | exact nm_d i241_6 | exact nm_k (knd_3 (by omega) (by omega)) (by decide))), r_mpos_101⟩, by rw [ht]; exact hP, hD⟩, hS.F ht⟩) hS.2.2 dX10_nextToken_394
                  · have dc60 : mpos_101.toInt < mbyt.toInt := nleC rfl rfl c60
                    refine lv_aload_n hx hb dX10_nextToken_112 rfl (lv_at hl 0 rfl) ?_
                    refine va_get (D := (dC, dI)) (ci := 10) (v := .ref (b 20)) (C := RX10) (T := TX10) (N := 39) hx hb hts inX10 hown hK hP 0 rfl rfl 20 (by decide) lf62 (fun _ h9 => h9) rfl dX10_nextToken_113 ?_
                    refine lv_aload_n hx hb dX10_nextToken_116 rfl (lv_at hl 0 rfl) ?_
                    refine va_get (D := (dC, dI)) (ci := 10) (v := .int mpos_101) (C := RX10) (T := TX10) (N := 39) hx hb hts inX10 hown hK hP 0 rfl rfl 21 (by decide) lf146 (fun _ h9 => h9) rfl dX10_nextToken_117 ?_
                    have b63 : vp_in mpos_101 160 := inC rfl (by omega) (by omega)
                    refine va_iald hx hb hK hP 1 0 rfl rfl b63 dX10_nextToken_120 ?_
                    refine lv_bipush (v := 97) hx hb dX10_nextToken_121 (by decide) ?_
                    refine lv_bipush (v := 122) hx hb dX10_nextToken_123 (by decide) ?_
                    refine rdS (As := [.int (mtxt mpos_101.toNatClampNeg), .int 97, .int 122]) (rest := []) ⟨hx, hb, hml, hown, hts⟩ (k_X10_in l dC dI cI cZ cQ (mtxt mpos_101.toNatClampNeg) (97 : Int32) (122 : Int32)) (va_cwS 3 hts gX10_nextToken_X10_in rfl rfl rfl (by decide +kernel) ⟨Nat.le_of_ble_eq_true rfl, Nat.le_of_ble_eq_true rfl⟩) hP hK hN [] rfl rfl hl.1 rfl (Nat.le_of_ble_eq_true rfl) dX10_nextToken_125 ⟨Nat.le_of_ble_eq_true rfl, Nat.le_of_ble_eq_true rfl⟩ (fun r64 h65 => ?_)
                    have h65 : ((((r64 = 1) ∧ ((97) ≤ (mtxt mpos_101.toNatClampNeg).toInt) ∧ ((mtxt mpos_101.toNatClampNeg).toInt ≤ (122))) ∨ ((r64 = 0) ∧ ((mtxt mpos_101.toNatClampNeg).toInt < (97) ∨ (122) < (mtxt mpos_101.toNatClampNeg).toInt)))) := h65
                    rcases h65 with (⟨rfl, h65_a0, h65_a1⟩ | ⟨rfl, h65_a0⟩)
                    · refine lv_if_eq (tgt := 191) hx hb dX10_nextToken_128 (by decide) (fun c9 => absurd c9 (by decide)) (fun _ => ?_)
                      refine lv_aload_n hx hb dX10_nextToken_131 rfl (lv_at hl 0 rfl) ?_
                      refine lv_aload_n hx hb dX10_nextToken_132 rfl (lv_at hl 0 rfl) ?_
                      refine va_get (D := (dC, dI)) (ci := 10) (v := .int mpos_101) (C := RX10) (T := TX10) (N := 39) hx hb hts inX10 hown hK hP 0 rfl rfl 21 (by decide) lf146 (fun _ h9 => h9) rfl dX10_nextToken_133 ?_
                      refine lv_aload_n hx hb dX10_nextToken_136 rfl (lv_at hl 0 rfl) ?_
                      refine va_get (D := (dC, dI)) (ci := 10) (v := .int mpos_0) (C := RX10) (T := TX10) (N := 39) hx hb hts inX10 hown hK hP 0 rfl rfl 22 (by decide) lf149 (fun _ h9 => h9) rfl dX10_nextToken_137 ?_
                      refine lv_isub hx hb dX10_nextToken_140 ?_
                      have f66 : (mpos_101 - mpos_0).toInt = (mpos_101.toInt) - (mpos_0.toInt) := subC rfl rfl (by omega) (by omega)
                      refine lv_bipush (v := 9) hx hb dX10_nextToken_141 (by decide) ?_
                      refine lv_icmp_ge (tgt := 172) hx hb dX10_nextToken_143 (by decide) (fun c67 => ?_) (fun c67 => ?_)
                      · have dc67 : 9 ≤ (mpos_101.toInt) - (mpos_0.toInt) := leC (show (9 : Int32).toInt = 9 from rfl) f66 c67
                        refine lv_ldc2 (v := (-4)) hx hb hown (hts (.constantLong RX10 168 (-4)) (List.mem_cons_of_mem _ (List.mem_append_left _ (List.mem_of_getElem? (i := 10) rfl)))) dX10_nextToken_172 ?_
                        refine va_put (D := (dC, dI)) (ci := 10) (v := .long (-4)) (ty := .long) (C := RX10) (T := TX10) (N := 39) hx hb hts inX10 tyX10 tyX10_ok nmX10 hown hK hP hD hS 0 rfl rfl 23 (by decide) lf160 (fun _ h9 => h9) rfl (by decide +kernel) rfl rfl (Nat.le_of_ble_eq_true rfl) dX10_nextToken_175 (fun H locs hP hD hS => ?_)
                        have hP : va_P (dC, dI) vwCl (wMdT cI cZ cQ b mday mdoo mtel mgai mbyt mtxt mpos_101 mpos_0 (-4) 0 0 mfau mrdm mlin mbsm) H := hP
                        have hD : va_D A (wMdT cI cZ cQ b mday mdoo mtel mgai mbyt mtxt mpos_101 mpos_0 (-4) 0 0 mfau mrdm mlin mbsm) := hD
                        refine lv_aload_n hx hb dX10_nextToken_178 rfl (lv_at hl 0 rfl) ?_
                        refine lv_dup hx hb dX10_nextToken_179 rfl ?_
                        refine va_get (D := (dC, dI)) (ci := 10) (v := .int mpos_101) (C := RX10) (T := TX10) (N := 39) hx hb hts inX10 hown hK hP 0 rfl rfl 21 (by decide) lf146 (fun _ h9 => h9) rfl dX10_nextToken_180 ?_
                        refine lv_iconst (v := 1) hx hb dX10_nextToken_183 (by decide) ?_
                        refine lv_iadd hx hb dX10_nextToken_184 ?_
                        have f68 : (mpos_101 + 1).toInt = (mpos_101.toInt) + (1) := addC rfl (show (1 : Int32).toInt = 1 from rfl) (by omega) (by omega)
                        refine lv_topi (fun x69 ex69 => ?_)
                        have ix69 : x69.toInt = (mpos_101.toInt) + (1) := by rw [ex69]; exact f68
                        refine va_put (D := (dC, dI)) (ci := 10) (v := .int x69) (ty := .int) (C := RX10) (T := TX10) (N := 39) hx hb hts inX10 tyX10 tyX10_ok nmX10 hown hK hP hD hS 0 rfl rfl 21 (by decide) lf146 (fun _ h9 => h9) rfl (by decide +kernel) rfl rfl (Nat.le_of_ble_eq_true rfl) dX10_nextToken_185 (fun H locs hP hD hS => ?_)
                        have g70 : 0 ≤ x69.toInt ∧ x69.toInt ≤ 160 := by rw [show x69.toInt = x69.toInt from rfl]; exact ⟨by omega, by omega⟩
                        have hP : va_P (dC, dI) vwCl (wMdT cI cZ cQ b mday mdoo mtel mgai mbyt mtxt x69 mpos_0 (-4) 0 0 mfau mrdm mlin mbsm) H := hP
                        have hD : va_D A (wMdT cI cZ cQ b mday mdoo mtel mgai mbyt mtxt x69 mpos_0 (-4) 0 0 mfau mrdm mlin mbsm) := hD
                        refine lv_goto (tgt := 101) hx hb dX10_nextToken_188 (by decide) ?_
                        exact ih101 x69 (-4) _ _ _ g70 (by omega) (by omega) (by (first | exact rn_in i101_2 (by omega) (knd_1 (by omega)) (by omega) | rfl)) (by (first | exact wv_s i101_3 (by omega) (by omega) (by omega) | exact Or.inl (by omega) | exact wv_0 rfl)) (by omega) hP hD hS (lv_sub hl [0] rfl)
                      · have dc67 : (mpos_101.toInt) - (mpos_0.toInt) < 9 := nleC (show (9 : Int32).toInt = 9 from rfl) f66 c67
                        refine lv_ldc2 (v := 27) hx hb hown (hts (.constantLong RX10 164 (27)) (List.mem_cons_of_mem _ (List.mem_append_left _ (List.mem_of_getElem? (i := 8) rfl)))) dX10_nextToken_146 ?_
                        refine lv_aload_n hx hb dX10_nextToken_149 rfl (lv_at hl 0 rfl) ?_
                        refine va_get (D := (dC, dI)) (ci := 10) (v := .long mtok_101) (C := RX10) (T := TX10) (N := 39) hx hb hts inX10 hown hK hP 0 rfl rfl 23 (by decide) lf160 (fun _ h9 => h9) rfl dX10_nextToken_150 ?_
                        refine lv_lmul hx hb dX10_nextToken_153 ?_
                        refine lv_aload_n hx hb dX10_nextToken_154 rfl (lv_at hl 0 rfl) ?_
                        refine va_get (D := (dC, dI)) (ci := 10) (v := .ref (b 20)) (C := RX10) (T := TX10) (N := 39) hx hb hts inX10 hown hK hP 0 rfl rfl 20 (by decide) lf62 (fun _ h9 => h9) rfl dX10_nextToken_155 ?_
                        refine lv_aload_n hx hb dX10_nextToken_158 rfl (lv_at hl 0 rfl) ?_
                        refine va_get (D := (dC, dI)) (ci := 10) (v := .int mpos_101) (C := RX10) (T := TX10) (N := 39) hx hb hts inX10 hown hK hP 0 rfl rfl 21 (by decide) lf146 (fun _ h9 => h9) rfl dX10_nextToken_159 ?_
                        have b71 : vp_in mpos_101 160 := inC rfl (by omega) (by omega)
                        refine va_iald hx hb hK hP 1 0 rfl rfl b71 dX10_nextToken_162 ?_
                        refine lv_i2l hx hb dX10_nextToken_163 rfl ?_
                        refine lv_ladd hx hb dX10_nextToken_164 ?_
                        refine lv_ldc2 (v := 96) hx hb hown (hts (.constantLong RX10 166 (96)) (List.mem_cons_of_mem _ (List.mem_append_left _ (List.mem_of_getElem? (i := 9) rfl)))) dX10_nextToken_165 ?_
                        refine lv_lsub hx hb dX10_nextToken_168 ?_
                        refine lv_goto (tgt := 175) hx hb dX10_nextToken_169 (by decide) ?_
                        refine va_put (D := (dC, dI)) (ci := 10) (v := .long (((27 * mtok_101) + ((mtxt mpos_101.toNatClampNeg).toInt64)) - 96)) (ty := .long) (C := RX10) (T := TX10) (N := 39) hx hb hts inX10 tyX10 tyX10_ok nmX10 hown hK hP hD hS 0 rfl rfl 23 (by decide) lf160 (fun _ h9 => h9) rfl (by decide +kernel) rfl rfl (Nat.le_of_ble_eq_true rfl) dX10_nextToken_175 (fun H locs hP hD hS => ?_)
                        have hP : va_P (dC, dI) vwCl (wMdT cI cZ cQ b mday mdoo mtel mgai mbyt mtxt mpos_101 mpos_0 (((27 * mtok_101) + ((mtxt mpos_101.toNatClampNeg).toInt64)) - 96) 0 0 mfau mrdm mlin mbsm) H := hP
                        have hD : va_D A (wMdT cI cZ cQ b mday mdoo mtel mgai mbyt mtxt mpos_101 mpos_0 (((27 * mtok_101) + ((mtxt mpos_101.toNatClampNeg).toInt64)) - 96) 0 0 mfau mrdm mlin mbsm) := hD
                        refine lv_aload_n hx hb dX10_nextToken_178 rfl (lv_at hl 0 rfl) ?_
                        refine lv_dup hx hb dX10_nextToken_179 rfl ?_
                        refine va_get (D := (dC, dI)) (ci := 10) (v := .int mpos_101) (C := RX10) (T := TX10) (N := 39) hx hb hts inX10 hown hK hP 0 rfl rfl 21 (by decide) lf146 (fun _ h9 => h9) rfl dX10_nextToken_180 ?_
                        refine lv_iconst (v := 1) hx hb dX10_nextToken_183 (by decide) ?_
                        refine lv_iadd hx hb dX10_nextToken_184 ?_
                        have f72 : (mpos_101 + 1).toInt = (mpos_101.toInt) + (1) := addC rfl (show (1 : Int32).toInt = 1 from rfl) (by omega) (by omega)
                        refine lv_topi (fun x73 ex73 => ?_)
                        have ix73 : x73.toInt = (mpos_101.toInt) + (1) := by rw [ex73]; exact f72
                        refine va_put (D := (dC, dI)) (ci := 10) (v := .int x73) (ty := .int) (C := RX10) (T := TX10) (N := 39) hx hb hts inX10 tyX10 tyX10_ok nmX10 hown hK hP hD hS 0 rfl rfl 21 (by decide) lf146 (fun _ h9 => h9) rfl (by decide +kernel) rfl rfl (Nat.le_of_ble_eq_true rfl) dX10_nextToken_185 (fun H locs hP hD hS => ?_)
                        have g74 : 0 ≤ x73.toInt ∧ x73.toInt ≤ 160 := by rw [show x73.toInt = x73.toInt from rfl]; exact ⟨by omega, by omega⟩
                        have hP : va_P (dC, dI) vwCl (wMdT cI cZ cQ b mday mdoo mtel mgai mbyt mtxt x73 mpos_0 (((27 * mtok_101) + ((mtxt mpos_101.toNatClampNeg).toInt64)) - 96) 0 0 mfau mrdm mlin mbsm) H := hP
                        have hD : va_D A (wMdT cI cZ cQ b mday mdoo mtel mgai mbyt mtxt x73 mpos_0 (((27 * mtok_101) + ((mtxt mpos_101.toNatClampNeg).toInt64)) - 96) 0 0 mfau mrdm mlin mbsm) := hD
                        refine lv_goto (tgt := 101) hx hb dX10_nextToken_188 (by decide) ?_
                        exact ih101 x73 (((27 * mtok_101) + ((mtxt mpos_101.toNatClampNeg).toInt64)) - 96) _ _ _ g74 (by omega) (by omega) (by (first | exact rn_in i101_2 (by omega) (knd_1 (by omega)) (by omega) | rfl)) (by (first | exact wv_s i101_3 (by omega) (by omega) (by omega) | exact Or.inl (by omega) | exact wv_0 rfl)) (by omega) hP hD hS (lv_sub hl [0] rfl)
                    · refine lv_if_eq (tgt := 191) hx hb dX10_nextToken_128 (by decide) (fun _ => ?_) (fun c9 => absurd (by decide) c9)
                      refine lv_aload_n hx hb dX10_nextToken_191 rfl (lv_at hl 0 rfl) ?_
                      refine lv_aload_n hx hb dX10_nextToken_192 rfl (lv_at hl 0 rfl) ?_
                      refine va_get (D := (dC, dI)) (ci := 10) (v := .int mpos_101) (C := RX10) (T := TX10) (N := 39) hx hb hts inX10 hown hK hP 0 rfl rfl 21 (by decide) lf146 (fun _ h9 => h9) rfl dX10_nextToken_193 ?_
                      refine lv_aload_n hx hb dX10_nextToken_196 rfl (lv_at hl 0 rfl) ?_
                      refine va_get (D := (dC, dI)) (ci := 10) (v := .int mpos_0) (C := RX10) (T := TX10) (N := 39) hx hb hts inX10 hown hK hP 0 rfl rfl 22 (by decide) lf149 (fun _ h9 => h9) rfl dX10_nextToken_197 ?_
                      refine lv_isub hx hb dX10_nextToken_200 ?_
                      have f75 : (mpos_101 - mpos_0).toInt = (mpos_101.toInt) - (mpos_0.toInt) := subC rfl rfl (by omega) (by omega)
                      refine lv_bipush (v := 9) hx hb dX10_nextToken_201 (by decide) ?_
                      refine lv_icmp_le (tgt := 212) hx hb dX10_nextToken_203 (by decide) (fun c76 => ?_) (fun c76 => ?_)
                      · have dc76 : (mpos_101.toInt) - (mpos_0.toInt) ≤ 9 := leC f75 (show (9 : Int32).toInt = 9 from rfl) c76
                        refine lv_aload_n hx hb dX10_nextToken_212 rfl (lv_at hl 0 rfl) ?_
                        refine va_get (D := (dC, dI)) (ci := 10) (v := .long mtok_101) (C := RX10) (T := TX10) (N := 39) hx hb hts inX10 hown hK hP 0 rfl rfl 23 (by decide) lf160 (fun _ h9 => h9) rfl dX10_nextToken_213 ?_
                        refine va_put (D := (dC, dI)) (ci := 10) (v := .long mtok_101) (ty := .long) (C := RX10) (T := TX10) (N := 39) hx hb hts inX10 tyX10 tyX10_ok nmX10 hown hK hP hD hS 0 rfl rfl 23 (by decide) lf160 (fun _ h9 => h9) rfl (by decide +kernel) rfl rfl (Nat.le_of_ble_eq_true rfl) dX10_nextToken_216 (fun H locs hP hD hS => ?_)
                        have hP : va_P (dC, dI) vwCl (wMdT cI cZ cQ b mday mdoo mtel mgai mbyt mtxt mpos_101 mpos_0 mtok_101 0 0 mfau mrdm mlin mbsm) H := hP
                        have hD : va_D A (wMdT cI cZ cQ b mday mdoo mtel mgai mbyt mtxt mpos_101 mpos_0 mtok_101 0 0 mfau mrdm mlin mbsm) := hD
                        refine lv_goto (tgt := 394) hx hb dX10_nextToken_219 (by decide) ?_
                        exact W.vret hx hb hr (fun tq ht hW => ⟨⟨(uS [(fun _ => mpos_101), (fun _ => mpos_0), (fun _ => 0), (fun _ => 0), (fun _ => 0)] mtok_101 (fun _ => 0)), rfl, ⟨(show mpos_101.toInt ≤ mbyt.toInt from by omega), (show 0 ≤ mpos_0.toInt from by omega), (show mpos_0.toInt ≤ mpos_101.toInt from by omega), (show mpos_0.toInt = tS mtxt mbyt.toInt mpos.toInt from by exact sk_out i0_1 (by omega)), (show mpos_101.toInt = tE mtxt mbyt.toInt mpos_0.toInt from by (first | exact tE_end (by omega) rfl | exact tE_runA (by omega) (knd_1 (by omega)) (by decide) i101_2 (by first | exact Or.inl (by omega) | exact Or.inr (knd_n1 (by omega))) | exact tE_runA (by omega) (knd_2 (by omega)) (by decide) i241_2 (by first | exact Or.inl (by omega) | exact Or.inr (knd_n2 (by omega))) | exact tE_oneC (by omega) (knd_3 (by omega) (by omega)).symm rfl (by omega))), (show mtok_101 = tkV mtxt mbyt.toInt mpos_0.toInt mpos_101.toInt from by (first | exact tv_end (by omega) | exact tv_let (by omega) (knd_1 (by omega)) i101_3 (by omega) | exact tv_let4 (by omega) (knd_1 (by omega)) (by omega) | exact tv_dig (by omega) (knd_2 (by omega)) (by omega) | exact tv_dig4 (by omega) (knd_2 (by omega)) (by omega) | exact tv_semi (by omega) (by omega) | exact tv_oth (by omega) (knd_3 (by omega) (by omega)) (by omega))), (show nmP mtxt mbyt.toInt mpos_0.toInt mpos_101.toInt 0 from by (first | exact nm_v (by omega) | exact nm_k (knd_1 (by omega)) (by decide) | exact nm_d i241_6 | exact nm_k (knd_3 (by omega) (by omega)) (by decide))), r_mpos_101⟩, by rw [ht]; exact hP, hD⟩, hS.F ht⟩) hS.2.2 dX10_nextToken_394
                      · have dc76 : 9 < (mpos_101.toInt) - (mpos_0.toInt) := nleC f75 (show (9 : Int32).toInt = 9 from rfl) c76
                        refine lv_ldc2 (v := (-4)) hx hb hown (hts (.constantLong RX10 168 (-4)) (List.mem_cons_of_mem _ (List.mem_append_left _ (List.mem_of_getElem? (i := 10) rfl)))) dX10_nextToken_206 ?_
                        refine lv_goto (tgt := 216) hx hb dX10_nextToken_209 (by decide) ?_
                        refine va_put (D := (dC, dI)) (ci := 10) (v := .long (-4)) (ty := .long) (C := RX10) (T := TX10) (N := 39) hx hb hts inX10 tyX10 tyX10_ok nmX10 hown hK hP hD hS 0 rfl rfl 23 (by decide) lf160 (fun _ h9 => h9) rfl (by decide +kernel) rfl rfl (Nat.le_of_ble_eq_true rfl) dX10_nextToken_216 (fun H locs hP hD hS => ?_)
                        have hP : va_P (dC, dI) vwCl (wMdT cI cZ cQ b mday mdoo mtel mgai mbyt mtxt mpos_101 mpos_0 (-4) 0 0 mfau mrdm mlin mbsm) H := hP
                        have hD : va_D A (wMdT cI cZ cQ b mday mdoo mtel mgai mbyt mtxt mpos_101 mpos_0 (-4) 0 0 mfau mrdm mlin mbsm) := hD
                        refine lv_goto (tgt := 394) hx hb dX10_nextToken_219 (by decide) ?_
                        exact W.vret hx hb hr (fun tq ht hW => ⟨⟨(uS [(fun _ => mpos_101), (fun _ => mpos_0), (fun _ => 0), (fun _ => 0), (fun _ => 0)] (-4) (fun _ => 0)), rfl, ⟨(show mpos_101.toInt ≤ mbyt.toInt from by omega), (show 0 ≤ mpos_0.toInt from by omega), (show mpos_0.toInt ≤ mpos_101.toInt from by omega), (show mpos_0.toInt = tS mtxt mbyt.toInt mpos.toInt from by exact sk_out i0_1 (by omega)), (show mpos_101.toInt = tE mtxt mbyt.toInt mpos_0.toInt from by (first | exact tE_end (by omega) rfl | exact tE_runA (by omega) (knd_1 (by omega)) (by decide) i101_2 (by first | exact Or.inl (by omega) | exact Or.inr (knd_n1 (by omega))) | exact tE_runA (by omega) (knd_2 (by omega)) (by decide) i241_2 (by first | exact Or.inl (by omega) | exact Or.inr (knd_n2 (by omega))) | exact tE_oneC (by omega) (knd_3 (by omega) (by omega)).symm rfl (by omega))), (show (-4) = tkV mtxt mbyt.toInt mpos_0.toInt mpos_101.toInt from by (first | exact tv_end (by omega) | exact tv_let (by omega) (knd_1 (by omega)) i101_3 (by omega) | exact tv_let4 (by omega) (knd_1 (by omega)) (by omega) | exact tv_dig (by omega) (knd_2 (by omega)) (by omega) | exact tv_dig4 (by omega) (knd_2 (by omega)) (by omega) | exact tv_semi (by omega) (by omega) | exact tv_oth (by omega) (knd_3 (by omega) (by omega)) (by omega))), (show nmP mtxt mbyt.toInt mpos_0.toInt mpos_101.toInt 0 from by (first | exact nm_v (by omega) | exact nm_k (knd_1 (by omega)) (by decide) | exact nm_d i241_6 | exact nm_k (knd_3 (by omega) (by omega)) (by decide))), r_mpos_101⟩, by rw [ht]; exact hP, hD⟩, hS.F ht⟩) hS.2.2 dX10_nextToken_394
              exact L101 _ mpos_0 0 _ _ _ r_mpos_0 (by omega) (by omega) (by (first | exact rn_in i101_2 (by omega) (knd_1 (by omega)) (by omega) | rfl)) (by (first | exact wv_s i101_3 (by omega) (by omega) (by omega) | exact Or.inl (by omega) | exact wv_0 rfl)) (Nat.lt_succ_self _) hP hD hS (lv_sub hl [0] rfl)
            · refine lv_if_eq (tgt := 222) hx hb dX10_nextToken_93 (by decide) (fun _ => ?_) (fun c9 => absurd (by decide) c9)
              refine lv_aload_n hx hb dX10_nextToken_222 rfl (lv_at hl 0 rfl) ?_
              refine va_get (D := (dC, dI)) (ci := 10) (v := .ref (b 20)) (C := RX10) (T := TX10) (N := 39) hx hb hts inX10 hown hK hP 0 rfl rfl 20 (by decide) lf62 (fun _ h9 => h9) rfl dX10_nextToken_223 ?_
              refine lv_aload_n hx hb dX10_nextToken_226 rfl (lv_at hl 0 rfl) ?_
              refine va_get (D := (dC, dI)) (ci := 10) (v := .int mpos_0) (C := RX10) (T := TX10) (N := 39) hx hb hts inX10 hown hK hP 0 rfl rfl 21 (by decide) lf146 (fun _ h9 => h9) rfl dX10_nextToken_227 ?_
              have b77 : vp_in mpos_0 160 := inC rfl (by omega) (by omega)
              refine va_iald hx hb hK hP 1 0 rfl rfl b77 dX10_nextToken_230 ?_
              refine lv_bipush (v := 48) hx hb dX10_nextToken_231 (by decide) ?_
              refine lv_bipush (v := 57) hx hb dX10_nextToken_233 (by decide) ?_
              refine rdS (As := [.int (mtxt mpos_0.toNatClampNeg), .int 48, .int 57]) (rest := []) ⟨hx, hb, hml, hown, hts⟩ (k_X10_in l dC dI cI cZ cQ (mtxt mpos_0.toNatClampNeg) (48 : Int32) (57 : Int32)) (va_cwS 3 hts gX10_nextToken_X10_in rfl rfl rfl (by decide +kernel) ⟨Nat.le_of_ble_eq_true rfl, Nat.le_of_ble_eq_true rfl⟩) hP hK hN [] rfl rfl hl.1 rfl (Nat.le_of_ble_eq_true rfl) dX10_nextToken_235 ⟨Nat.le_of_ble_eq_true rfl, Nat.le_of_ble_eq_true rfl⟩ (fun r78 h79 => ?_)
              have h79 : ((((r78 = 1) ∧ ((48) ≤ (mtxt mpos_0.toNatClampNeg).toInt) ∧ ((mtxt mpos_0.toNatClampNeg).toInt ≤ (57))) ∨ ((r78 = 0) ∧ ((mtxt mpos_0.toNatClampNeg).toInt < (48) ∨ (57) < (mtxt mpos_0.toNatClampNeg).toInt)))) := h79
              rcases h79 with (⟨rfl, h79_a0, h79_a1⟩ | ⟨rfl, h79_a0⟩)
              · refine lv_if_eq (tgt := 357) hx hb dX10_nextToken_238 (by decide) (fun c9 => absurd c9 (by decide)) (fun _ => ?_)
                have L241 : ∀ (nn : Nat) (mpos_241 : Int32) (mdig_241 : Int32) (mnum_241 : Int32) (H : Heap) (locs : List Loc) (ls : Array Slot), (0 ≤ mpos_241.toInt ∧ mpos_241.toInt ≤ 160) → (mpos_241.toInt ≤ mbyt.toInt) → (mpos_0.toInt ≤ mpos_241.toInt) → (tR mtxt 2 mbyt.toInt mpos_241.toInt = tR mtxt 2 mbyt.toInt mpos_0.toInt) → (mdig_241.toInt = mpos_241.toInt - mpos_0.toInt) → (0 ≤ mdig_241.toInt) → (mdig_241.toInt ≤ 160) → (2 < mpos_241.toInt - mpos_0.toInt ∨ mnum_241 = nvF mtxt mpos_0.toInt (mpos_241.toInt - mpos_0.toInt).toNat) → (mbyt.toInt - mpos_241.toInt).toNat < nn → va_P (dC, dI) vwCl (wMdT cI cZ cQ b mday mdoo mtel mgai mbyt mtxt mpos_241 mpos_0 mtok mdig_241 mnum_241 mfau mrdm mlin mbsm) H → va_D A (wMdT cI cZ cQ b mday mdoo mtel mgai mbyt mtxt mpos_241 mpos_0 mtok mdig_241 mnum_241 mfau mrdm mlin mbsm) → va_S A s.heap H locs → lv_has ls 1 [(0, .ref (b 39))] → W p l e (headSpec wsX10_nextToken { frames := 1, cells := 0, slots := 0, locals := 22 }).room s m ([.ref (b 39)] : List Value).toArray below meth c H locs 0 0 (MQ below (va_Qv (fun (u : US) => ((u.1 0 0).toInt ≤ mbyt.toInt) ∧ (0 ≤ (u.1 1 0).toInt) ∧ ((u.1 1 0).toInt ≤ (u.1 0 0).toInt) ∧ ((u.1 1 0).toInt = tS mtxt mbyt.toInt mpos.toInt) ∧ ((u.1 0 0).toInt = tE mtxt mbyt.toInt (u.1 1 0).toInt) ∧ (u.2.1 = tkV mtxt mbyt.toInt (u.1 1 0).toInt (u.1 0 0).toInt) ∧ (nmP mtxt mbyt.toInt (u.1 1 0).toInt (u.1 0 0).toInt (u.1 4 0)) ∧ (0 ≤ (u.1 0 0).toInt ∧ (u.1 0 0).toInt ≤ 160)) (Bw (dC, dI) A (fun u : US => (wMdT cI cZ cQ b mday mdoo mtel mgai mbyt mtxt (u.1 0 0) (u.1 1 0) u.2.1 (u.1 3 0) (u.1 4 0) mfau mrdm mlin mbsm))) A) ([.ref (b 39)] : List Value).toArray s 0 0 A) (F0 m 241 ls []) := by
                  intro nn
                  induction nn with
                  | zero =>
                    intro mpos_241 mdig_241 mnum_241 H locs ls r_mpos_241 i241_0 i241_1 i241_2 i241_3 i241_4 i241_5 i241_6 hm241
                    exact absurd hm241 (Nat.not_lt_zero _)
                  | succ nn ih241 =>
                    intro mpos_241 mdig_241 mnum_241 H locs ls r_mpos_241 i241_0 i241_1 i241_2 i241_3 i241_4 i241_5 i241_6 hm241 hP hD hS hl
                    refine lv_aload_n hx hb dX10_nextToken_241 rfl (lv_at hl 0 rfl) ?_
                    refine va_get (D := (dC, dI)) (ci := 10) (v := .int mpos_241) (C := RX10) (T := TX10) (N := 39) hx hb hts inX10 hown hK hP 0 rfl rfl 21 (by decide) lf146 (fun _ h9 => h9) rfl dX10_nextToken_242 ?_
                    refine lv_aload_n hx hb dX10_nextToken_245 rfl (lv_at hl 0 rfl) ?_
                    refine va_get (D := (dC, dI)) (ci := 10) (v := .int mbyt) (C := RX10) (T := TX10) (N := 39) hx hb hts inX10 hown hK hP 0 rfl rfl 19 (by decide) lf141 (fun _ h9 => h9) rfl dX10_nextToken_246 ?_
                    refine lv_icmp_ge (tgt := 333) hx hb dX10_nextToken_249 (by decide) (fun c80 => ?_) (fun c80 => ?_)
                    · have dc80 : mbyt.toInt ≤ mpos_241.toInt := leC rfl rfl c80
                      refine lv_aload_n hx hb dX10_nextToken_333 rfl (lv_at hl 0 rfl) ?_
                      refine lv_aload_n hx hb dX10_nextToken_334 rfl (lv_at hl 0 rfl) ?_
                      refine va_get (D := (dC, dI)) (ci := 10) (v := .int mdig_241) (C := RX10) (T := TX10) (N := 39) hx hb hts inX10 hown hK hP 0 rfl rfl 24 (by decide) lf152 (fun _ h9 => h9) rfl dX10_nextToken_335 ?_
                      refine lv_iconst (v := 2) hx hb dX10_nextToken_338 (by decide) ?_
                      refine lv_icmp_le (tgt := 348) hx hb dX10_nextToken_339 (by decide) (fun c81 => ?_) (fun c81 => ?_)
                      · have dc81 : mdig_241.toInt ≤ 2 := leC rfl (show (2 : Int32).toInt = 2 from rfl) c81
                        refine lv_ldc2 (v := (-1)) hx hb hown (hts (.constantLong RX10 170 (-1)) (List.mem_cons_of_mem _ (List.mem_append_left _ (List.mem_of_getElem? (i := 11) rfl)))) dX10_nextToken_348 ?_
                        refine va_put (D := (dC, dI)) (ci := 10) (v := .long (-1)) (ty := .long) (C := RX10) (T := TX10) (N := 39) hx hb hts inX10 tyX10 tyX10_ok nmX10 hown hK hP hD hS 0 rfl rfl 23 (by decide) lf160 (fun _ h9 => h9) rfl (by decide +kernel) rfl rfl (Nat.le_of_ble_eq_true rfl) dX10_nextToken_351 (fun H locs hP hD hS => ?_)
                        have hP : va_P (dC, dI) vwCl (wMdT cI cZ cQ b mday mdoo mtel mgai mbyt mtxt mpos_241 mpos_0 (-1) mdig_241 mnum_241 mfau mrdm mlin mbsm) H := hP
                        have hD : va_D A (wMdT cI cZ cQ b mday mdoo mtel mgai mbyt mtxt mpos_241 mpos_0 (-1) mdig_241 mnum_241 mfau mrdm mlin mbsm) := hD
                        refine lv_goto (tgt := 394) hx hb dX10_nextToken_354 (by decide) ?_
                        exact W.vret hx hb hr (fun tq ht hW => ⟨⟨(uS [(fun _ => mpos_241), (fun _ => mpos_0), (fun _ => 0), (fun _ => mdig_241), (fun _ => mnum_241)] (-1) (fun _ => 0)), rfl, ⟨(show mpos_241.toInt ≤ mbyt.toInt from by omega), (show 0 ≤ mpos_0.toInt from by omega), (show mpos_0.toInt ≤ mpos_241.toInt from by omega), (show mpos_0.toInt = tS mtxt mbyt.toInt mpos.toInt from by exact sk_out i0_1 (by omega)), (show mpos_241.toInt = tE mtxt mbyt.toInt mpos_0.toInt from by (first | exact tE_end (by omega) rfl | exact tE_runA (by omega) (knd_1 (by omega)) (by decide) i101_2 (by first | exact Or.inl (by omega) | exact Or.inr (knd_n1 (by omega))) | exact tE_runA (by omega) (knd_2 (by omega)) (by decide) i241_2 (by first | exact Or.inl (by omega) | exact Or.inr (knd_n2 (by omega))) | exact tE_oneC (by omega) (knd_3 (by omega) (by omega)).symm rfl (by omega))), (show (-1) = tkV mtxt mbyt.toInt mpos_0.toInt mpos_241.toInt from by (first | exact tv_end (by omega) | exact tv_let (by omega) (knd_1 (by omega)) i101_3 (by omega) | exact tv_let4 (by omega) (knd_1 (by omega)) (by omega) | exact tv_dig (by omega) (knd_2 (by omega)) (by omega) | exact tv_dig4 (by omega) (knd_2 (by omega)) (by omega) | exact tv_semi (by omega) (by omega) | exact tv_oth (by omega) (knd_3 (by omega) (by omega)) (by omega))), (show nmP mtxt mbyt.toInt mpos_0.toInt mpos_241.toInt mnum_241 from by (first | exact nm_v (by omega) | exact nm_k (knd_1 (by omega)) (by decide) | exact nm_d i241_6 | exact nm_k (knd_3 (by omega) (by omega)) (by decide))), r_mpos_241⟩, by rw [ht]; exact hP, hD⟩, hS.F ht⟩) hS.2.2 dX10_nextToken_394
                      · have dc81 : 2 < mdig_241.toInt := nleC rfl (show (2 : Int32).toInt = 2 from rfl) c81
                        refine lv_ldc2 (v := (-4)) hx hb hown (hts (.constantLong RX10 168 (-4)) (List.mem_cons_of_mem _ (List.mem_append_left _ (List.mem_of_getElem? (i := 10) rfl)))) dX10_nextToken_342 ?_
                        refine lv_goto (tgt := 351) hx hb dX10_nextToken_345 (by decide) ?_
                        refine va_put (D := (dC, dI)) (ci := 10) (v := .long (-4)) (ty := .long) (C := RX10) (T := TX10) (N := 39) hx hb hts inX10 tyX10 tyX10_ok nmX10 hown hK hP hD hS 0 rfl rfl 23 (by decide) lf160 (fun _ h9 => h9) rfl (by decide +kernel) rfl rfl (Nat.le_of_ble_eq_true rfl) dX10_nextToken_351 (fun H locs hP hD hS => ?_)
                        have hP : va_P (dC, dI) vwCl (wMdT cI cZ cQ b mday mdoo mtel mgai mbyt mtxt mpos_241 mpos_0 (-4) mdig_241 mnum_241 mfau mrdm mlin mbsm) H := hP
                        have hD : va_D A (wMdT cI cZ cQ b mday mdoo mtel mgai mbyt mtxt mpos_241 mpos_0 (-4) mdig_241 mnum_241 mfau mrdm mlin mbsm) := hD
                        refine lv_goto (tgt := 394) hx hb dX10_nextToken_354 (by decide) ?_
                        exact W.vret hx hb hr (fun tq ht hW => ⟨⟨(uS [(fun _ => mpos_241), (fun _ => mpos_0), (fun _ => 0), (fun _ => mdig_241), (fun _ => mnum_241)] (-4) (fun _ => 0)), rfl, ⟨(show mpos_241.toInt ≤ mbyt.toInt from by omega), (show 0 ≤ mpos_0.toInt from by omega), (show mpos_0.toInt ≤ mpos_241.toInt from by omega), (show mpos_0.toInt = tS mtxt mbyt.toInt mpos.toInt from by exact sk_out i0_1 (by omega)), (show mpos_241.toInt = tE mtxt mbyt.toInt mpos_0.toInt from by (first | exact tE_end (by omega) rfl | exact tE_runA (by omega) (knd_1 (by omega)) (by decide) i101_2 (by first | exact Or.inl (by omega) | exact Or.inr (knd_n1 (by omega))) | exact tE_runA (by omega) (knd_2 (by omega)) (by decide) i241_2 (by first | exact Or.inl (by omega) | exact Or.inr (knd_n2 (by omega))) | exact tE_oneC (by omega) (knd_3 (by omega) (by omega)).symm rfl (by omega))), (show (-4) = tkV mtxt mbyt.toInt mpos_0.toInt mpos_241.toInt from by (first | exact tv_end (by omega) | exact tv_let (by omega) (knd_1 (by omega)) i101_3 (by omega) | exact tv_let4 (by omega) (knd_1 (by omega)) (by omega) | exact tv_dig (by omega) (knd_2 (by omega)) (by omega) | exact tv_dig4 (by omega) (knd_2 (by omega)) (by omega) | exact tv_semi (by omega) (by omega) | exact tv_oth (by omega) (knd_3 (by omega) (by omega)) (by omega))), (show nmP mtxt mbyt.toInt mpos_0.toInt mpos_241.toInt mnum_241 from by (first | exact nm_v (by omega) | exact nm_k (knd_1 (by omega)) (by decide) | exact nm_d i241_6 | exact nm_k (knd_3 (by omega) (by omega)) (by decide))), r_mpos_241⟩, by rw [ht]; exact hP, hD⟩, hS.F ht⟩) hS.2.2 dX10_nextToken_394
                    · have dc80 : mpos_241.toInt < mbyt.toInt := nleC rfl rfl c80
                      refine lv_aload_n hx hb dX10_nextToken_252 rfl (lv_at hl 0 rfl) ?_
                      refine va_get (D := (dC, dI)) (ci := 10) (v := .ref (b 20)) (C := RX10) (T := TX10) (N := 39) hx hb hts inX10 hown hK hP 0 rfl rfl 20 (by decide) lf62 (fun _ h9 => h9) rfl dX10_nextToken_253 ?_
                      refine lv_aload_n hx hb dX10_nextToken_256 rfl (lv_at hl 0 rfl) ?_
                      refine va_get (D := (dC, dI)) (ci := 10) (v := .int mpos_241) (C := RX10) (T := TX10) (N := 39) hx hb hts inX10 hown hK hP 0 rfl rfl 21 (by decide) lf146 (fun _ h9 => h9) rfl dX10_nextToken_257 ?_
                      have b82 : vp_in mpos_241 160 := inC rfl (by omega) (by omega)
                      refine va_iald hx hb hK hP 1 0 rfl rfl b82 dX10_nextToken_260 ?_
                      refine lv_bipush (v := 48) hx hb dX10_nextToken_261 (by decide) ?_
                      refine lv_bipush (v := 57) hx hb dX10_nextToken_263 (by decide) ?_
                      refine rdS (As := [.int (mtxt mpos_241.toNatClampNeg), .int 48, .int 57]) (rest := []) ⟨hx, hb, hml, hown, hts⟩ (k_X10_in l dC dI cI cZ cQ (mtxt mpos_241.toNatClampNeg) (48 : Int32) (57 : Int32)) (va_cwS 3 hts gX10_nextToken_X10_in rfl rfl rfl (by decide +kernel) ⟨Nat.le_of_ble_eq_true rfl, Nat.le_of_ble_eq_true rfl⟩) hP hK hN [] rfl rfl hl.1 rfl (Nat.le_of_ble_eq_true rfl) dX10_nextToken_265 ⟨Nat.le_of_ble_eq_true rfl, Nat.le_of_ble_eq_true rfl⟩ (fun r83 h84 => ?_)
                      have h84 : ((((r83 = 1) ∧ ((48) ≤ (mtxt mpos_241.toNatClampNeg).toInt) ∧ ((mtxt mpos_241.toNatClampNeg).toInt ≤ (57))) ∨ ((r83 = 0) ∧ ((mtxt mpos_241.toNatClampNeg).toInt < (48) ∨ (57) < (mtxt mpos_241.toNatClampNeg).toInt)))) := h84
                      rcases h84 with (⟨rfl, h84_a0, h84_a1⟩ | ⟨rfl, h84_a0⟩)
                      · refine lv_if_eq (tgt := 333) hx hb dX10_nextToken_268 (by decide) (fun c9 => absurd c9 (by decide)) (fun _ => ?_)
                        refine lv_aload_n hx hb dX10_nextToken_271 rfl (lv_at hl 0 rfl) ?_
                        refine lv_aload_n hx hb dX10_nextToken_272 rfl (lv_at hl 0 rfl) ?_
                        refine va_get (D := (dC, dI)) (ci := 10) (v := .int mdig_241) (C := RX10) (T := TX10) (N := 39) hx hb hts inX10 hown hK hP 0 rfl rfl 24 (by decide) lf152 (fun _ h9 => h9) rfl dX10_nextToken_273 ?_
                        refine lv_iconst (v := 2) hx hb dX10_nextToken_276 (by decide) ?_
                        refine lv_icmp_ge (tgt := 303) hx hb dX10_nextToken_277 (by decide) (fun c85 => ?_) (fun c85 => ?_)
                        · have dc85 : 2 ≤ mdig_241.toInt := leC (show (2 : Int32).toInt = 2 from rfl) rfl c85
                          refine lv_aload_n hx hb dX10_nextToken_303 rfl (lv_at hl 0 rfl) ?_
                          refine va_get (D := (dC, dI)) (ci := 10) (v := .int mnum_241) (C := RX10) (T := TX10) (N := 39) hx hb hts inX10 hown hK hP 0 rfl rfl 25 (by decide) lf155 (fun _ h9 => h9) rfl dX10_nextToken_304 ?_
                          refine va_put (D := (dC, dI)) (ci := 10) (v := .int mnum_241) (ty := .int) (C := RX10) (T := TX10) (N := 39) hx hb hts inX10 tyX10 tyX10_ok nmX10 hown hK hP hD hS 0 rfl rfl 25 (by decide) lf155 (fun _ h9 => h9) rfl (by decide +kernel) rfl rfl (Nat.le_of_ble_eq_true rfl) dX10_nextToken_307 (fun H locs hP hD hS => ?_)
                          have hP : va_P (dC, dI) vwCl (wMdT cI cZ cQ b mday mdoo mtel mgai mbyt mtxt mpos_241 mpos_0 mtok mdig_241 mnum_241 mfau mrdm mlin mbsm) H := hP
                          have hD : va_D A (wMdT cI cZ cQ b mday mdoo mtel mgai mbyt mtxt mpos_241 mpos_0 mtok mdig_241 mnum_241 mfau mrdm mlin mbsm) := hD
                          refine lv_aload_n hx hb dX10_nextToken_310 rfl (lv_at hl 0 rfl) ?_
                          refine lv_dup hx hb dX10_nextToken_311 rfl ?_
                          refine va_get (D := (dC, dI)) (ci := 10) (v := .int mdig_241) (C := RX10) (T := TX10) (N := 39) hx hb hts inX10 hown hK hP 0 rfl rfl 24 (by decide) lf152 (fun _ h9 => h9) rfl dX10_nextToken_312 ?_
                          refine lv_iconst (v := 1) hx hb dX10_nextToken_315 (by decide) ?_
                          refine lv_iadd hx hb dX10_nextToken_316 ?_
                          have f86 : (mdig_241 + 1).toInt = (mdig_241.toInt) + (1) := addC rfl (show (1 : Int32).toInt = 1 from rfl) (by omega) (by omega)
                          refine lv_topi (fun x87 ex87 => ?_)
                          have ix87 : x87.toInt = (mdig_241.toInt) + (1) := by rw [ex87]; exact f86
                          refine va_put (D := (dC, dI)) (ci := 10) (v := .int x87) (ty := .int) (C := RX10) (T := TX10) (N := 39) hx hb hts inX10 tyX10 tyX10_ok nmX10 hown hK hP hD hS 0 rfl rfl 24 (by decide) lf152 (fun _ h9 => h9) rfl (by decide +kernel) rfl rfl (Nat.le_of_ble_eq_true rfl) dX10_nextToken_317 (fun H locs hP hD hS => ?_)
                          have hP : va_P (dC, dI) vwCl (wMdT cI cZ cQ b mday mdoo mtel mgai mbyt mtxt mpos_241 mpos_0 mtok x87 mnum_241 mfau mrdm mlin mbsm) H := hP
                          have hD : va_D A (wMdT cI cZ cQ b mday mdoo mtel mgai mbyt mtxt mpos_241 mpos_0 mtok x87 mnum_241 mfau mrdm mlin mbsm) := hD
                          refine lv_aload_n hx hb dX10_nextToken_320 rfl (lv_at hl 0 rfl) ?_
                          refine lv_dup hx hb dX10_nextToken_321 rfl ?_
                          refine va_get (D := (dC, dI)) (ci := 10) (v := .int mpos_241) (C := RX10) (T := TX10) (N := 39) hx hb hts inX10 hown hK hP 0 rfl rfl 21 (by decide) lf146 (fun _ h9 => h9) rfl dX10_nextToken_322 ?_
                          refine lv_iconst (v := 1) hx hb dX10_nextToken_325 (by decide) ?_
                          refine lv_iadd hx hb dX10_nextToken_326 ?_
                          have f88 : (mpos_241 + 1).toInt = (mpos_241.toInt) + (1) := addC rfl (show (1 : Int32).toInt = 1 from rfl) (by omega) (by omega)
                          refine lv_topi (fun x89 ex89 => ?_)
                          have ix89 : x89.toInt = (mpos_241.toInt) + (1) := by rw [ex89]; exact f88
                          refine va_put (D := (dC, dI)) (ci := 10) (v := .int x89) (ty := .int) (C := RX10) (T := TX10) (N := 39) hx hb hts inX10 tyX10 tyX10_ok nmX10 hown hK hP hD hS 0 rfl rfl 21 (by decide) lf146 (fun _ h9 => h9) rfl (by decide +kernel) rfl rfl (Nat.le_of_ble_eq_true rfl) dX10_nextToken_327 (fun H locs hP hD hS => ?_)
                          have g90 : 0 ≤ x89.toInt ∧ x89.toInt ≤ 160 := by rw [show x89.toInt = x89.toInt from rfl]; exact ⟨by omega, by omega⟩
                          have hP : va_P (dC, dI) vwCl (wMdT cI cZ cQ b mday mdoo mtel mgai mbyt mtxt x89 mpos_0 mtok x87 mnum_241 mfau mrdm mlin mbsm) H := hP
                          have hD : va_D A (wMdT cI cZ cQ b mday mdoo mtel mgai mbyt mtxt x89 mpos_0 mtok x87 mnum_241 mfau mrdm mlin mbsm) := hD
                          refine lv_goto (tgt := 241) hx hb dX10_nextToken_330 (by decide) ?_
                          exact ih241 x89 x87 mnum_241 _ _ _ g90 (by omega) (by omega) (by (first | exact rn_in i241_2 (by omega) (knd_2 (by omega)) (by omega) | rfl)) (by omega) (by omega) (by omega) (by (first | exact nv_s i241_6 (by omega) (by omega) (by omega) (by assumption) | exact Or.inl (by omega) | exact nv_0 rfl rfl)) (by omega) hP hD hS (lv_sub hl [0] rfl)
                        · have dc85 : mdig_241.toInt < 2 := nleC (show (2 : Int32).toInt = 2 from rfl) rfl c85
                          refine lv_bipush (v := 10) hx hb dX10_nextToken_280 (by decide) ?_
                          refine lv_aload_n hx hb dX10_nextToken_282 rfl (lv_at hl 0 rfl) ?_
                          refine va_get (D := (dC, dI)) (ci := 10) (v := .int mnum_241) (C := RX10) (T := TX10) (N := 39) hx hb hts inX10 hown hK hP 0 rfl rfl 25 (by decide) lf155 (fun _ h9 => h9) rfl dX10_nextToken_283 ?_
                          refine lv_imul hx hb dX10_nextToken_286 ?_
                          refine lv_aload_n hx hb dX10_nextToken_287 rfl (lv_at hl 0 rfl) ?_
                          refine va_get (D := (dC, dI)) (ci := 10) (v := .ref (b 20)) (C := RX10) (T := TX10) (N := 39) hx hb hts inX10 hown hK hP 0 rfl rfl 20 (by decide) lf62 (fun _ h9 => h9) rfl dX10_nextToken_288 ?_
                          refine lv_aload_n hx hb dX10_nextToken_291 rfl (lv_at hl 0 rfl) ?_
                          refine va_get (D := (dC, dI)) (ci := 10) (v := .int mpos_241) (C := RX10) (T := TX10) (N := 39) hx hb hts inX10 hown hK hP 0 rfl rfl 21 (by decide) lf146 (fun _ h9 => h9) rfl dX10_nextToken_292 ?_
                          have b91 : vp_in mpos_241 160 := inC rfl (by omega) (by omega)
                          refine va_iald hx hb hK hP 1 0 rfl rfl b91 dX10_nextToken_295 ?_
                          refine lv_iadd hx hb dX10_nextToken_296 ?_
                          refine lv_bipush (v := 48) hx hb dX10_nextToken_297 (by decide) ?_
                          refine lv_isub hx hb dX10_nextToken_299 ?_
                          refine lv_goto (tgt := 307) hx hb dX10_nextToken_300 (by decide) ?_
                          refine lv_topi (fun x92 ex92 => ?_)
                          have ix92 : x92.toInt = (((10 * mnum_241) + (mtxt mpos_241.toNatClampNeg)) - 48).toInt := by rw [ex92]
                          refine va_put (D := (dC, dI)) (ci := 10) (v := .int x92) (ty := .int) (C := RX10) (T := TX10) (N := 39) hx hb hts inX10 tyX10 tyX10_ok nmX10 hown hK hP hD hS 0 rfl rfl 25 (by decide) lf155 (fun _ h9 => h9) rfl (by decide +kernel) rfl rfl (Nat.le_of_ble_eq_true rfl) dX10_nextToken_307 (fun H locs hP hD hS => ?_)
                          have hP : va_P (dC, dI) vwCl (wMdT cI cZ cQ b mday mdoo mtel mgai mbyt mtxt mpos_241 mpos_0 mtok mdig_241 x92 mfau mrdm mlin mbsm) H := hP
                          have hD : va_D A (wMdT cI cZ cQ b mday mdoo mtel mgai mbyt mtxt mpos_241 mpos_0 mtok mdig_241 x92 mfau mrdm mlin mbsm) := hD
                          refine lv_aload_n hx hb dX10_nextToken_310 rfl (lv_at hl 0 rfl) ?_
                          refine lv_dup hx hb dX10_nextToken_311 rfl ?_
                          refine va_get (D := (dC, dI)) (ci := 10) (v := .int mdig_241) (C := RX10) (T := TX10) (N := 39) hx hb hts inX10 hown hK hP 0 rfl rfl 24 (by decide) lf152 (fun _ h9 => h9) rfl dX10_nextToken_312 ?_
                          refine lv_iconst (v := 1) hx hb dX10_nextToken_315 (by decide) ?_
                          refine lv_iadd hx hb dX10_nextToken_316 ?_
                          have f93 : (mdig_241 + 1).toInt = (mdig_241.toInt) + (1) := addC rfl (show (1 : Int32).toInt = 1 from rfl) (by omega) (by omega)
                          refine lv_topi (fun x94 ex94 => ?_)
                          have ix94 : x94.toInt = (mdig_241.toInt) + (1) := by rw [ex94]; exact f93
                          refine va_put (D := (dC, dI)) (ci := 10) (v := .int x94) (ty := .int) (C := RX10) (T := TX10) (N := 39) hx hb hts inX10 tyX10 tyX10_ok nmX10 hown hK hP hD hS 0 rfl rfl 24 (by decide) lf152 (fun _ h9 => h9) rfl (by decide +kernel) rfl rfl (Nat.le_of_ble_eq_true rfl) dX10_nextToken_317 (fun H locs hP hD hS => ?_)
                          have hP : va_P (dC, dI) vwCl (wMdT cI cZ cQ b mday mdoo mtel mgai mbyt mtxt mpos_241 mpos_0 mtok x94 x92 mfau mrdm mlin mbsm) H := hP
                          have hD : va_D A (wMdT cI cZ cQ b mday mdoo mtel mgai mbyt mtxt mpos_241 mpos_0 mtok x94 x92 mfau mrdm mlin mbsm) := hD
                          refine lv_aload_n hx hb dX10_nextToken_320 rfl (lv_at hl 0 rfl) ?_
                          refine lv_dup hx hb dX10_nextToken_321 rfl ?_
                          refine va_get (D := (dC, dI)) (ci := 10) (v := .int mpos_241) (C := RX10) (T := TX10) (N := 39) hx hb hts inX10 hown hK hP 0 rfl rfl 21 (by decide) lf146 (fun _ h9 => h9) rfl dX10_nextToken_322 ?_
                          refine lv_iconst (v := 1) hx hb dX10_nextToken_325 (by decide) ?_
                          refine lv_iadd hx hb dX10_nextToken_326 ?_
                          have f95 : (mpos_241 + 1).toInt = (mpos_241.toInt) + (1) := addC rfl (show (1 : Int32).toInt = 1 from rfl) (by omega) (by omega)
                          refine lv_topi (fun x96 ex96 => ?_)
                          have ix96 : x96.toInt = (mpos_241.toInt) + (1) := by rw [ex96]; exact f95
                          refine va_put (D := (dC, dI)) (ci := 10) (v := .int x96) (ty := .int) (C := RX10) (T := TX10) (N := 39) hx hb hts inX10 tyX10 tyX10_ok nmX10 hown hK hP hD hS 0 rfl rfl 21 (by decide) lf146 (fun _ h9 => h9) rfl (by decide +kernel) rfl rfl (Nat.le_of_ble_eq_true rfl) dX10_nextToken_327 (fun H locs hP hD hS => ?_)
                          have g97 : 0 ≤ x96.toInt ∧ x96.toInt ≤ 160 := by rw [show x96.toInt = x96.toInt from rfl]; exact ⟨by omega, by omega⟩
                          have hP : va_P (dC, dI) vwCl (wMdT cI cZ cQ b mday mdoo mtel mgai mbyt mtxt x96 mpos_0 mtok x94 x92 mfau mrdm mlin mbsm) H := hP
                          have hD : va_D A (wMdT cI cZ cQ b mday mdoo mtel mgai mbyt mtxt x96 mpos_0 mtok x94 x92 mfau mrdm mlin mbsm) := hD
                          refine lv_goto (tgt := 241) hx hb dX10_nextToken_330 (by decide) ?_
                          exact ih241 x96 x94 x92 _ _ _ g97 (by omega) (by omega) (by (first | exact rn_in i241_2 (by omega) (knd_2 (by omega)) (by omega) | rfl)) (by omega) (by omega) (by omega) (by (first | exact nv_s i241_6 (by omega) (by omega) (by omega) (by assumption) | exact Or.inl (by omega) | exact nv_0 rfl rfl)) (by omega) hP hD hS (lv_sub hl [0] rfl)
                      · refine lv_if_eq (tgt := 333) hx hb dX10_nextToken_268 (by decide) (fun _ => ?_) (fun c9 => absurd (by decide) c9)
                        refine lv_aload_n hx hb dX10_nextToken_333 rfl (lv_at hl 0 rfl) ?_
                        refine lv_aload_n hx hb dX10_nextToken_334 rfl (lv_at hl 0 rfl) ?_
                        refine va_get (D := (dC, dI)) (ci := 10) (v := .int mdig_241) (C := RX10) (T := TX10) (N := 39) hx hb hts inX10 hown hK hP 0 rfl rfl 24 (by decide) lf152 (fun _ h9 => h9) rfl dX10_nextToken_335 ?_
                        refine lv_iconst (v := 2) hx hb dX10_nextToken_338 (by decide) ?_
                        refine lv_icmp_le (tgt := 348) hx hb dX10_nextToken_339 (by decide) (fun c98 => ?_) (fun c98 => ?_)
                        · have dc98 : mdig_241.toInt ≤ 2 := leC rfl (show (2 : Int32).toInt = 2 from rfl) c98
                          refine lv_ldc2 (v := (-1)) hx hb hown (hts (.constantLong RX10 170 (-1)) (List.mem_cons_of_mem _ (List.mem_append_left _ (List.mem_of_getElem? (i := 11) rfl)))) dX10_nextToken_348 ?_
                          refine va_put (D := (dC, dI)) (ci := 10) (v := .long (-1)) (ty := .long) (C := RX10) (T := TX10) (N := 39) hx hb hts inX10 tyX10 tyX10_ok nmX10 hown hK hP hD hS 0 rfl rfl 23 (by decide) lf160 (fun _ h9 => h9) rfl (by decide +kernel) rfl rfl (Nat.le_of_ble_eq_true rfl) dX10_nextToken_351 (fun H locs hP hD hS => ?_)
                          have hP : va_P (dC, dI) vwCl (wMdT cI cZ cQ b mday mdoo mtel mgai mbyt mtxt mpos_241 mpos_0 (-1) mdig_241 mnum_241 mfau mrdm mlin mbsm) H := hP
                          have hD : va_D A (wMdT cI cZ cQ b mday mdoo mtel mgai mbyt mtxt mpos_241 mpos_0 (-1) mdig_241 mnum_241 mfau mrdm mlin mbsm) := hD
                          refine lv_goto (tgt := 394) hx hb dX10_nextToken_354 (by decide) ?_
                          exact W.vret hx hb hr (fun tq ht hW => ⟨⟨(uS [(fun _ => mpos_241), (fun _ => mpos_0), (fun _ => 0), (fun _ => mdig_241), (fun _ => mnum_241)] (-1) (fun _ => 0)), rfl, ⟨(show mpos_241.toInt ≤ mbyt.toInt from by omega), (show 0 ≤ mpos_0.toInt from by omega), (show mpos_0.toInt ≤ mpos_241.toInt from by omega), (show mpos_0.toInt = tS mtxt mbyt.toInt mpos.toInt from by exact sk_out i0_1 (by omega)), (show mpos_241.toInt = tE mtxt mbyt.toInt mpos_0.toInt from by (first | exact tE_end (by omega) rfl | exact tE_runA (by omega) (knd_1 (by omega)) (by decide) i101_2 (by first | exact Or.inl (by omega) | exact Or.inr (knd_n1 (by omega))) | exact tE_runA (by omega) (knd_2 (by omega)) (by decide) i241_2 (by first | exact Or.inl (by omega) | exact Or.inr (knd_n2 (by omega))) | exact tE_oneC (by omega) (knd_3 (by omega) (by omega)).symm rfl (by omega))), (show (-1) = tkV mtxt mbyt.toInt mpos_0.toInt mpos_241.toInt from by (first | exact tv_end (by omega) | exact tv_let (by omega) (knd_1 (by omega)) i101_3 (by omega) | exact tv_let4 (by omega) (knd_1 (by omega)) (by omega) | exact tv_dig (by omega) (knd_2 (by omega)) (by omega) | exact tv_dig4 (by omega) (knd_2 (by omega)) (by omega) | exact tv_semi (by omega) (by omega) | exact tv_oth (by omega) (knd_3 (by omega) (by omega)) (by omega))), (show nmP mtxt mbyt.toInt mpos_0.toInt mpos_241.toInt mnum_241 from by (first | exact nm_v (by omega) | exact nm_k (knd_1 (by omega)) (by decide) | exact nm_d i241_6 | exact nm_k (knd_3 (by omega) (by omega)) (by decide))), r_mpos_241⟩, by rw [ht]; exact hP, hD⟩, hS.F ht⟩) hS.2.2 dX10_nextToken_394
                        · have dc98 : 2 < mdig_241.toInt := nleC rfl (show (2 : Int32).toInt = 2 from rfl) c98
                          refine lv_ldc2 (v := (-4)) hx hb hown (hts (.constantLong RX10 168 (-4)) (List.mem_cons_of_mem _ (List.mem_append_left _ (List.mem_of_getElem? (i := 10) rfl)))) dX10_nextToken_342 ?_
                          refine lv_goto (tgt := 351) hx hb dX10_nextToken_345 (by decide) ?_
                          refine va_put (D := (dC, dI)) (ci := 10) (v := .long (-4)) (ty := .long) (C := RX10) (T := TX10) (N := 39) hx hb hts inX10 tyX10 tyX10_ok nmX10 hown hK hP hD hS 0 rfl rfl 23 (by decide) lf160 (fun _ h9 => h9) rfl (by decide +kernel) rfl rfl (Nat.le_of_ble_eq_true rfl) dX10_nextToken_351 (fun H locs hP hD hS => ?_)
                          have hP : va_P (dC, dI) vwCl (wMdT cI cZ cQ b mday mdoo mtel mgai mbyt mtxt mpos_241 mpos_0 (-4) mdig_241 mnum_241 mfau mrdm mlin mbsm) H := hP
                          have hD : va_D A (wMdT cI cZ cQ b mday mdoo mtel mgai mbyt mtxt mpos_241 mpos_0 (-4) mdig_241 mnum_241 mfau mrdm mlin mbsm) := hD
                          refine lv_goto (tgt := 394) hx hb dX10_nextToken_354 (by decide) ?_
                          exact W.vret hx hb hr (fun tq ht hW => ⟨⟨(uS [(fun _ => mpos_241), (fun _ => mpos_0), (fun _ => 0), (fun _ => mdig_241), (fun _ => mnum_241)] (-4) (fun _ => 0)), rfl, ⟨(show mpos_241.toInt ≤ mbyt.toInt from by omega), (show 0 ≤ mpos_0.toInt from by omega), (show mpos_0.toInt ≤ mpos_241.toInt from by omega), (show mpos_0.toInt = tS mtxt mbyt.toInt mpos.toInt from by exact sk_out i0_1 (by omega)), (show mpos_241.toInt = tE mtxt mbyt.toInt mpos_0.toInt from by (first | exact tE_end (by omega) rfl | exact tE_runA (by omega) (knd_1 (by omega)) (by decide) i101_2 (by first | exact Or.inl (by omega) | exact Or.inr (knd_n1 (by omega))) | exact tE_runA (by omega) (knd_2 (by omega)) (by decide) i241_2 (by first | exact Or.inl (by omega) | exact Or.inr (knd_n2 (by omega))) | exact tE_oneC (by omega) (knd_3 (by omega) (by omega)).symm rfl (by omega))), (show (-4) = tkV mtxt mbyt.toInt mpos_0.toInt mpos_241.toInt from by (first | exact tv_end (by omega) | exact tv_let (by omega) (knd_1 (by omega)) i101_3 (by omega) | exact tv_let4 (by omega) (knd_1 (by omega)) (by omega) | exact tv_dig (by omega) (knd_2 (by omega)) (by omega) | exact tv_dig4 (by omega) (knd_2 (by omega)) (by omega) | exact tv_semi (by omega) (by omega) | exact tv_oth (by omega) (knd_3 (by omega) (by omega)) (by omega))), (show nmP mtxt mbyt.toInt mpos_0.toInt mpos_241.toInt mnum_241 from by (first | exact nm_v (by omega) | exact nm_k (knd_1 (by omega)) (by decide) | exact nm_d i241_6 | exact nm_k (knd_3 (by omega) (by omega)) (by decide))), r_mpos_241⟩, by rw [ht]; exact hP, hD⟩, hS.F ht⟩) hS.2.2 dX10_nextToken_394
                have kc99 : (0 : Int32).toInt = 0 := rfl
                exact L241 _ mpos_0 0 0 _ _ _ r_mpos_0 (by omega) (by omega) (by (first | exact rn_in i241_2 (by omega) (knd_2 (by omega)) (by omega) | rfl)) (by omega) (by omega) (by omega) (by (first | exact nv_s i241_6 (by omega) (by omega) (by omega) (by assumption) | exact Or.inl (by omega) | exact nv_0 rfl rfl)) (Nat.lt_succ_self _) hP hD hS (lv_sub hl [0] rfl)
              · refine lv_if_eq (tgt := 357) hx hb dX10_nextToken_238 (by decide) (fun _ => ?_) (fun c9 => absurd (by decide) c9)
                refine lv_aload_n hx hb dX10_nextToken_357 rfl (lv_at hl 0 rfl) ?_
                refine lv_aload_n hx hb dX10_nextToken_358 rfl (lv_at hl 0 rfl) ?_
                refine va_get (D := (dC, dI)) (ci := 10) (v := .ref (b 20)) (C := RX10) (T := TX10) (N := 39) hx hb hts inX10 hown hK hP 0 rfl rfl 20 (by decide) lf62 (fun _ h9 => h9) rfl dX10_nextToken_359 ?_
                refine lv_aload_n hx hb dX10_nextToken_362 rfl (lv_at hl 0 rfl) ?_
                refine va_get (D := (dC, dI)) (ci := 10) (v := .int mpos_0) (C := RX10) (T := TX10) (N := 39) hx hb hts inX10 hown hK hP 0 rfl rfl 21 (by decide) lf146 (fun _ h9 => h9) rfl dX10_nextToken_363 ?_
                have b100 : vp_in mpos_0 160 := inC rfl (by omega) (by omega)
                refine va_iald hx hb hK hP 1 0 rfl rfl b100 dX10_nextToken_366 ?_
                refine lv_bipush (v := 59) hx hb dX10_nextToken_367 (by decide) ?_
                refine lv_icmp_ne (tgt := 378) hx hb dX10_nextToken_369 (by decide) (fun c101 => ?_) (fun c101 => ?_)
                · have dc101 : (mtxt mpos_0.toNatClampNeg).toInt ≠ 59 := neC rfl (show (59 : Int32).toInt = 59 from rfl) c101
                  refine lv_ldc2 (v := (-4)) hx hb hown (hts (.constantLong RX10 168 (-4)) (List.mem_cons_of_mem _ (List.mem_append_left _ (List.mem_of_getElem? (i := 10) rfl)))) dX10_nextToken_378 ?_
                  refine va_put (D := (dC, dI)) (ci := 10) (v := .long (-4)) (ty := .long) (C := RX10) (T := TX10) (N := 39) hx hb hts inX10 tyX10 tyX10_ok nmX10 hown hK hP hD hS 0 rfl rfl 23 (by decide) lf160 (fun _ h9 => h9) rfl (by decide +kernel) rfl rfl (Nat.le_of_ble_eq_true rfl) dX10_nextToken_381 (fun H locs hP hD hS => ?_)
                  have hP : va_P (dC, dI) vwCl (wMdT cI cZ cQ b mday mdoo mtel mgai mbyt mtxt mpos_0 mpos_0 (-4) 0 0 mfau mrdm mlin mbsm) H := hP
                  have hD : va_D A (wMdT cI cZ cQ b mday mdoo mtel mgai mbyt mtxt mpos_0 mpos_0 (-4) 0 0 mfau mrdm mlin mbsm) := hD
                  refine lv_aload_n hx hb dX10_nextToken_384 rfl (lv_at hl 0 rfl) ?_
                  refine lv_dup hx hb dX10_nextToken_385 rfl ?_
                  refine va_get (D := (dC, dI)) (ci := 10) (v := .int mpos_0) (C := RX10) (T := TX10) (N := 39) hx hb hts inX10 hown hK hP 0 rfl rfl 21 (by decide) lf146 (fun _ h9 => h9) rfl dX10_nextToken_386 ?_
                  refine lv_iconst (v := 1) hx hb dX10_nextToken_389 (by decide) ?_
                  refine lv_iadd hx hb dX10_nextToken_390 ?_
                  have f102 : (mpos_0 + 1).toInt = (mpos_0.toInt) + (1) := addC rfl (show (1 : Int32).toInt = 1 from rfl) (by omega) (by omega)
                  refine lv_topi (fun x103 ex103 => ?_)
                  have ix103 : x103.toInt = (mpos_0.toInt) + (1) := by rw [ex103]; exact f102
                  refine va_put (D := (dC, dI)) (ci := 10) (v := .int x103) (ty := .int) (C := RX10) (T := TX10) (N := 39) hx hb hts inX10 tyX10 tyX10_ok nmX10 hown hK hP hD hS 0 rfl rfl 21 (by decide) lf146 (fun _ h9 => h9) rfl (by decide +kernel) rfl rfl (Nat.le_of_ble_eq_true rfl) dX10_nextToken_391 (fun H locs hP hD hS => ?_)
                  have g104 : 0 ≤ x103.toInt ∧ x103.toInt ≤ 160 := by rw [show x103.toInt = x103.toInt from rfl]; exact ⟨by omega, by omega⟩
                  have hP : va_P (dC, dI) vwCl (wMdT cI cZ cQ b mday mdoo mtel mgai mbyt mtxt x103 mpos_0 (-4) 0 0 mfau mrdm mlin mbsm) H := hP
                  have hD : va_D A (wMdT cI cZ cQ b mday mdoo mtel mgai mbyt mtxt x103 mpos_0 (-4) 0 0 mfau mrdm mlin mbsm) := hD
                  exact W.vret hx hb hr (fun tq ht hW => ⟨⟨(uS [(fun _ => x103), (fun _ => mpos_0), (fun _ => 0), (fun _ => 0), (fun _ => 0)] (-4) (fun _ => 0)), rfl, ⟨(show x103.toInt ≤ mbyt.toInt from by omega), (show 0 ≤ mpos_0.toInt from by omega), (show mpos_0.toInt ≤ x103.toInt from by omega), (show mpos_0.toInt = tS mtxt mbyt.toInt mpos.toInt from by exact sk_out i0_1 (by omega)), (show x103.toInt = tE mtxt mbyt.toInt mpos_0.toInt from by (first | exact tE_end (by omega) rfl | exact tE_runA (by omega) (knd_1 (by omega)) (by decide) i101_2 (by first | exact Or.inl (by omega) | exact Or.inr (knd_n1 (by omega))) | exact tE_runA (by omega) (knd_2 (by omega)) (by decide) i241_2 (by first | exact Or.inl (by omega) | exact Or.inr (knd_n2 (by omega))) | exact tE_oneC (by omega) (knd_3 (by omega) (by omega)).symm rfl (by omega))), (show (-4) = tkV mtxt mbyt.toInt mpos_0.toInt x103.toInt from by (first | exact tv_end (by omega) | exact tv_let (by omega) (knd_1 (by omega)) i101_3 (by omega) | exact tv_let4 (by omega) (knd_1 (by omega)) (by omega) | exact tv_dig (by omega) (knd_2 (by omega)) (by omega) | exact tv_dig4 (by omega) (knd_2 (by omega)) (by omega) | exact tv_semi (by omega) (by omega) | exact tv_oth (by omega) (knd_3 (by omega) (by omega)) (by omega))), (show nmP mtxt mbyt.toInt mpos_0.toInt x103.toInt 0 from by (first | exact nm_v (by omega) | exact nm_k (knd_1 (by omega)) (by decide) | exact nm_d i241_6 | exact nm_k (knd_3 (by omega) (by omega)) (by decide))), g104⟩, by rw [ht]; exact hP, hD⟩, hS.F ht⟩) hS.2.2 dX10_nextToken_394
                · have dc101 : (mtxt mpos_0.toNatClampNeg).toInt = 59 := eqC rfl (show (59 : Int32).toInt = 59 from rfl) c101
                  refine lv_ldc2 (v := (-3)) hx hb hown (hts (.constantLong RX10 172 (-3)) (List.mem_cons_of_mem _ (List.mem_append_left _ (List.mem_of_getElem? (i := 12) rfl)))) dX10_nextToken_372 ?_
                  refine lv_goto (tgt := 381) hx hb dX10_nextToken_375 (by decide) ?_
                  refine va_put (D := (dC, dI)) (ci := 10) (v := .long (-3)) (ty := .long) (C := RX10) (T := TX10) (N := 39) hx hb hts inX10 tyX10 tyX10_ok nmX10 hown hK hP hD hS 0 rfl rfl 23 (by decide) lf160 (fun _ h9 => h9) rfl (by decide +kernel) rfl rfl (Nat.le_of_ble_eq_true rfl) dX10_nextToken_381 (fun H locs hP hD hS => ?_)
                  have hP : va_P (dC, dI) vwCl (wMdT cI cZ cQ b mday mdoo mtel mgai mbyt mtxt mpos_0 mpos_0 (-3) 0 0 mfau mrdm mlin mbsm) H := hP
                  have hD : va_D A (wMdT cI cZ cQ b mday mdoo mtel mgai mbyt mtxt mpos_0 mpos_0 (-3) 0 0 mfau mrdm mlin mbsm) := hD
                  refine lv_aload_n hx hb dX10_nextToken_384 rfl (lv_at hl 0 rfl) ?_
                  refine lv_dup hx hb dX10_nextToken_385 rfl ?_
                  refine va_get (D := (dC, dI)) (ci := 10) (v := .int mpos_0) (C := RX10) (T := TX10) (N := 39) hx hb hts inX10 hown hK hP 0 rfl rfl 21 (by decide) lf146 (fun _ h9 => h9) rfl dX10_nextToken_386 ?_
                  refine lv_iconst (v := 1) hx hb dX10_nextToken_389 (by decide) ?_
                  refine lv_iadd hx hb dX10_nextToken_390 ?_
                  have f105 : (mpos_0 + 1).toInt = (mpos_0.toInt) + (1) := addC rfl (show (1 : Int32).toInt = 1 from rfl) (by omega) (by omega)
                  refine lv_topi (fun x106 ex106 => ?_)
                  have ix106 : x106.toInt = (mpos_0.toInt) + (1) := by rw [ex106]; exact f105
                  refine va_put (D := (dC, dI)) (ci := 10) (v := .int x106) (ty := .int) (C := RX10) (T := TX10) (N := 39) hx hb hts inX10 tyX10 tyX10_ok nmX10 hown hK hP hD hS 0 rfl rfl 21 (by decide) lf146 (fun _ h9 => h9) rfl (by decide +kernel) rfl rfl (Nat.le_of_ble_eq_true rfl) dX10_nextToken_391 (fun H locs hP hD hS => ?_)
                  have g107 : 0 ≤ x106.toInt ∧ x106.toInt ≤ 160 := by rw [show x106.toInt = x106.toInt from rfl]; exact ⟨by omega, by omega⟩
                  have hP : va_P (dC, dI) vwCl (wMdT cI cZ cQ b mday mdoo mtel mgai mbyt mtxt x106 mpos_0 (-3) 0 0 mfau mrdm mlin mbsm) H := hP
                  have hD : va_D A (wMdT cI cZ cQ b mday mdoo mtel mgai mbyt mtxt x106 mpos_0 (-3) 0 0 mfau mrdm mlin mbsm) := hD
                  exact W.vret hx hb hr (fun tq ht hW => ⟨⟨(uS [(fun _ => x106), (fun _ => mpos_0), (fun _ => 0), (fun _ => 0), (fun _ => 0)] (-3) (fun _ => 0)), rfl, ⟨(show x106.toInt ≤ mbyt.toInt from by omega), (show 0 ≤ mpos_0.toInt from by omega), (show mpos_0.toInt ≤ x106.toInt from by omega), (show mpos_0.toInt = tS mtxt mbyt.toInt mpos.toInt from by exact sk_out i0_1 (by omega)), (show x106.toInt = tE mtxt mbyt.toInt mpos_0.toInt from by (first | exact tE_end (by omega) rfl | exact tE_runA (by omega) (knd_1 (by omega)) (by decide) i101_2 (by first | exact Or.inl (by omega) | exact Or.inr (knd_n1 (by omega))) | exact tE_runA (by omega) (knd_2 (by omega)) (by decide) i241_2 (by first | exact Or.inl (by omega) | exact Or.inr (knd_n2 (by omega))) | exact tE_oneC (by omega) (knd_3 (by omega) (by omega)).symm rfl (by omega))), (show (-3) = tkV mtxt mbyt.toInt mpos_0.toInt x106.toInt from by (first | exact tv_end (by omega) | exact tv_let (by omega) (knd_1 (by omega)) i101_3 (by omega) | exact tv_let4 (by omega) (knd_1 (by omega)) (by omega) | exact tv_dig (by omega) (knd_2 (by omega)) (by omega) | exact tv_dig4 (by omega) (knd_2 (by omega)) (by omega) | exact tv_semi (by omega) (by omega) | exact tv_oth (by omega) (knd_3 (by omega) (by omega)) (by omega))), (show nmP mtxt mbyt.toInt mpos_0.toInt x106.toInt 0 from by (first | exact nm_v (by omega) | exact nm_k (knd_1 (by omega)) (by decide) | exact nm_d i241_6 | exact nm_k (knd_3 (by omega) (by omega)) (by decide))), g107⟩, by rw [ht]; exact hP, hD⟩, hS.F ht⟩) hS.2.2 dX10_nextToken_394
          · have dc56 : mpos_0.toInt = mbyt.toInt := eqC rfl rfl c56
            refine lv_aload_n hx hb dX10_nextToken_67 rfl (lv_at hl 0 rfl) ?_
            refine lv_ldc2 (v := (-2)) hx hb hown (hts (.constantLong RX10 158 (-2)) (List.mem_cons_of_mem _ (List.mem_append_left _ (List.mem_of_getElem? (i := 6) rfl)))) dX10_nextToken_68 ?_
            refine va_put (D := (dC, dI)) (ci := 10) (v := .long (-2)) (ty := .long) (C := RX10) (T := TX10) (N := 39) hx hb hts inX10 tyX10 tyX10_ok nmX10 hown hK hP hD hS 0 rfl rfl 23 (by decide) lf160 (fun _ h9 => h9) rfl (by decide +kernel) rfl rfl (Nat.le_of_ble_eq_true rfl) dX10_nextToken_71 (fun H locs hP hD hS => ?_)
            have hP : va_P (dC, dI) vwCl (wMdT cI cZ cQ b mday mdoo mtel mgai mbyt mtxt mpos_0 mpos_0 (-2) 0 0 mfau mrdm mlin mbsm) H := hP
            have hD : va_D A (wMdT cI cZ cQ b mday mdoo mtel mgai mbyt mtxt mpos_0 mpos_0 (-2) 0 0 mfau mrdm mlin mbsm) := hD
            refine lv_goto (tgt := 394) hx hb dX10_nextToken_74 (by decide) ?_
            exact W.vret hx hb hr (fun tq ht hW => ⟨⟨(uS [(fun _ => mpos_0), (fun _ => mpos_0), (fun _ => 0), (fun _ => 0), (fun _ => 0)] (-2) (fun _ => 0)), rfl, ⟨(show mpos_0.toInt ≤ mbyt.toInt from by omega), (show 0 ≤ mpos_0.toInt from by omega), (show mpos_0.toInt ≤ mpos_0.toInt from by omega), (show mpos_0.toInt = tS mtxt mbyt.toInt mpos.toInt from by exact sk_out i0_1 (by omega)), (show mpos_0.toInt = tE mtxt mbyt.toInt mpos_0.toInt from by (first | exact tE_end (by omega) rfl | exact tE_runA (by omega) (knd_1 (by omega)) (by decide) i101_2 (by first | exact Or.inl (by omega) | exact Or.inr (knd_n1 (by omega))) | exact tE_runA (by omega) (knd_2 (by omega)) (by decide) i241_2 (by first | exact Or.inl (by omega) | exact Or.inr (knd_n2 (by omega))) | exact tE_oneC (by omega) (knd_3 (by omega) (by omega)).symm rfl (by omega))), (show (-2) = tkV mtxt mbyt.toInt mpos_0.toInt mpos_0.toInt from by (first | exact tv_end (by omega) | exact tv_let (by omega) (knd_1 (by omega)) i101_3 (by omega) | exact tv_let4 (by omega) (knd_1 (by omega)) (by omega) | exact tv_dig (by omega) (knd_2 (by omega)) (by omega) | exact tv_dig4 (by omega) (knd_2 (by omega)) (by omega) | exact tv_semi (by omega) (by omega) | exact tv_oth (by omega) (knd_3 (by omega) (by omega)) (by omega))), (show nmP mtxt mbyt.toInt mpos_0.toInt mpos_0.toInt 0 from by (first | exact nm_v (by omega) | exact nm_k (knd_1 (by omega)) (by decide) | exact nm_d i241_6 | exact nm_k (knd_3 (by omega) (by omega)) (by decide))), r_mpos_0⟩, by rw [ht]; exact hP, hD⟩, hS.F ht⟩) hS.2.2 dX10_nextToken_394
        · have dc55 : (mtxt mpos_0.toNatClampNeg).toInt = 32 := eqC rfl (show (32 : Int32).toInt = 32 from rfl) c55
          refine lv_aload_n hx hb dX10_nextToken_25 rfl (lv_at hl 0 rfl) ?_
          refine lv_dup hx hb dX10_nextToken_26 rfl ?_
          refine va_get (D := (dC, dI)) (ci := 10) (v := .int mpos_0) (C := RX10) (T := TX10) (N := 39) hx hb hts inX10 hown hK hP 0 rfl rfl 21 (by decide) lf146 (fun _ h9 => h9) rfl dX10_nextToken_27 ?_
          refine lv_iconst (v := 1) hx hb dX10_nextToken_30 (by decide) ?_
          refine lv_iadd hx hb dX10_nextToken_31 ?_
          have f108 : (mpos_0 + 1).toInt = (mpos_0.toInt) + (1) := addC rfl (show (1 : Int32).toInt = 1 from rfl) (by omega) (by omega)
          refine lv_topi (fun x109 ex109 => ?_)
          have ix109 : x109.toInt = (mpos_0.toInt) + (1) := by rw [ex109]; exact f108
          refine va_put (D := (dC, dI)) (ci := 10) (v := .int x109) (ty := .int) (C := RX10) (T := TX10) (N := 39) hx hb hts inX10 tyX10 tyX10_ok nmX10 hown hK hP hD hS 0 rfl rfl 21 (by decide) lf146 (fun _ h9 => h9) rfl (by decide +kernel) rfl rfl (Nat.le_of_ble_eq_true rfl) dX10_nextToken_32 (fun H locs hP hD hS => ?_)
          have g110 : 0 ≤ x109.toInt ∧ x109.toInt ≤ 160 := by rw [show x109.toInt = x109.toInt from rfl]; exact ⟨by omega, by omega⟩
          have hP : va_P (dC, dI) vwCl (wMdT cI cZ cQ b mday mdoo mtel mgai mbyt mtxt x109 mtka mtok mdig mnum mfau mrdm mlin mbsm) H := hP
          have hD : va_D A (wMdT cI cZ cQ b mday mdoo mtel mgai mbyt mtxt x109 mtka mtok mdig mnum mfau mrdm mlin mbsm) := hD
          refine lv_goto (tgt := 0) hx hb dX10_nextToken_35 (by decide) ?_
          exact ih0 x109 _ _ _ g110 (by omega) (by (first | exact sk_in i0_1 (by omega) (by omega) (by omega) | rfl)) (by omega) hP hD hS (lv_sub hl [0] rfl)
  exact L0 _ mpos _ _ _ r_mpos (by omega) (by (first | exact sk_in i0_1 (by omega) (by omega) (by omega) | rfl)) (Nat.lt_succ_self _) hP hD hS (lv_sub hl [0] rfl)
