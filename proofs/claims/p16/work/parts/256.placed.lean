set_option maxHeartbeats 4000000 in
set_option maxRecDepth 100000 in
theorem k_X9_where2 (l : Launch) (dC : Nat → ClassId) (dI : Nat → Nat → Nat) (cI cZ cQ : ClassId) (a : Nat → Nat) (rb0 : Nat) (rb1 : Nat) (rb2 : Nat) (db0 : Nat) (db1 : Nat) (db2 : Nat) (top : Nat → Int32) (str : Nat → Int32) (gho : Nat → Int32) (ghs : Nat → Int32) (pto : Nat → Int32) (cro : Nat → Int32) (pla : Nat → Int32) (wal : Nat → Int32) (fal : Nat → Int32) (tel : Int32) (gai : Int32) (day : Int32) (mar : Nat → Int32) (t : Int32) (r_top : rg 48 (-1) (23) top) (r_str : rg 48 (0) (100) str) (r_gho : rg 48 (-1) (23) gho) (r_ghs : rg 48 (0) (100) ghs) (r_cro : rg 48 (0) (6) cro) (r_pla : rg 24 (-1) (47) pla) (r_fal : rg 11 (0) (30) fal) (r_gai : 0 ≤ gai.toInt ∧ gai.toInt ≤ 100) (r_day : 0 ≤ day.toInt ∧ day.toInt ≤ 400) (r_mar : rg 24 (0) (255) mar) (q0 : plOK top pla) : KR l yX9_where wsX9_where { frames := 2, cells := 0, slots := 0, locals := 42 } (dC, dI) (TY cI cZ cQ) (wsC cI cZ cQ a rb0 rb1 rb2 db0 db1 db2 top str gho ghs pto cro pla wal fal tel gai day mar) [.ref (a 43), .int t] (fun r : Int32 => (spWhere top t r)) := by
  refine Met.ofW (cc := cX9_where) (maxL := 2) (ret := (some .int)) (by decide) rfl ?_
  intro p e s m args below meth c s₁ B hml hv
  obtain ⟨rfl, hP, hK, hN⟩ := hv
  have hx := B.exec
  have hb := B.bytes
  have hr := B.returns
  have hts := atoms_spec (ws := wsX9_where) B.pre
  have hown : s.vm.findClass RX9 = some m.cls := findClass_of_methodNamed B.named
  have hlocks := B.notSynchronized
  have lf28 := hts (.fieldLink RX9 28 "PalaceOfRooms" "corners" "LPalaceOfRooms$Corners;") (List.mem_cons_of_mem _ (List.mem_append_left _ (List.mem_append_left _ (List.mem_of_getElem? (i := 0) rfl))))
  have inX9 : ∀ w ∈ wsX90, w ∈ wsX9_where := fun w h => List.mem_cons_of_mem _ (List.mem_append_left _ (List.mem_append_right _ h))
  have lf128 := hN.use (w := .fieldLinkNest "PalaceOfRooms" 128 "PalaceOfRooms$Corners" "placeOf" "[I" "PalaceOfRooms") (List.mem_of_getElem? (i := 8) rfl) ([.ref (a 43), .int t] : List Value).toArray
  have inX1 : ∀ w ∈ wsX10, w ∈ wsX9_where := fun w h => List.mem_cons_of_mem _ (List.mem_append_right _ h)
  have hl := lv_entry ([.ref (a 43), .int t]) (n := 2) (Nat.le_of_ble_eq_true rfl)
  rw [lg_entry_eq]
  generalize (lg_sl ([.ref (a 43), .int t]) ++ List.replicate (2 - (lg_sl ([.ref (a 43), .int t])).length) Slot.unset).toArray = ls at hl ⊢
  have hl : lv_has ls 2 [(0, .ref (a 43)), (1, .int t)] := hl
  refine lv_iload_n hx hb dX9_where_0 rfl (lv_at hl 1 rfl) ?_
  refine rdS (As := [.int t]) (rest := []) ⟨hx, hb, hml, hown, hts⟩ (k_X9_isThing l dC dI cI cZ cQ t) (va_cwS 1 hts gX9_where_X9_isThing rfl rfl rfl (by decide +kernel) ⟨Nat.le_of_ble_eq_true rfl, Nat.le_of_ble_eq_true rfl⟩) hP hK hN [] rfl rfl hl.1 rfl (Nat.le_of_ble_eq_true rfl) dX9_where_1 ⟨Nat.le_of_ble_eq_true rfl, Nat.le_of_ble_eq_true rfl⟩ (fun r1 h2 => ?_)
  have h2 : ((((r1 = 1) ∧ (0 ≤ t.toInt) ∧ (t.toInt ≤ 23)) ∨ ((r1 = 0) ∧ (t.toInt < 0 ∨ 23 < t.toInt)))) := h2
  rcases h2 with (⟨rfl, h2_a0, h2_a1⟩ | ⟨rfl, h2_a0⟩)
  · refine lv_if_eq (tgt := 19) hx hb dX9_where_4 (by decide) (fun c9 => absurd c9 (by decide)) (fun _ => ?_)
    refine lv_aload_n hx hb dX9_where_7 rfl (lv_at hl 0 rfl) ?_
    refine va_get (D := (dC, dI)) (ci := 9) (v := .ref (a 4)) (C := RX9) (T := TX9) (N := 11) hx hb hts inX9 hown hK hP 0 rfl rfl 2 (by decide) lf28 (fun _ h9 => h9) rfl dX9_where_8 ?_
    refine va_getN (D := (dC, dI)) (ci := 1) (v := .ref (a 11)) (C := RX1) (T := TX1) (N := 13) hx hb hts inX1 hown hK hP 1 rfl rfl 7 (by decide) lf128 (fun _ h9 => h9) rfl dX9_where_11 ?_
    refine lv_iload_n hx hb dX9_where_14 rfl (lv_at hl 1 rfl) ?_
    have b3 : vp_in t 24 := inC rfl (by omega) (by omega)
    refine va_iald hx hb hK hP 8 0 rfl rfl b3 dX9_where_15 ?_
    have g4 : -1 ≤ (pla t.toNatClampNeg).toInt ∧ (pla t.toNatClampNeg).toInt ≤ 47 := rg_at r_pla b3
    refine lv_goto (tgt := 21) hx hb dX9_where_16 (by decide) ?_
    exact W.iret (v := pla t.toNatClampNeg) hx hb hr (fun tq ht hW => ⟨pla t.toNatClampNeg, rfl, (show spWhere top t (pla t.toNatClampNeg) from by (first | exact Or.inl ⟨by omega, rfl⟩ | exact Or.inr ⟨by omega, pl_u q0 (by omega) (by omega)⟩)), ht⟩) (fun q h => by cases h) dX9_where_21
  · refine lv_if_eq (tgt := 19) hx hb dX9_where_4 (by decide) (fun _ => ?_) (fun c9 => absurd (by decide) c9)
    refine lv_bipush (v := (-2)) hx hb dX9_where_19 (by decide) ?_
    exact W.iret (v := (-2)) hx hb hr (fun tq ht hW => ⟨(-2), rfl, (show spWhere top t ((-2) : Int32) from by (try rw [show ((-2) : Int32).toInt = (-2) from (show ((-2) : Int32).toInt = (-2) from rfl)]); (first | exact Or.inl ⟨by omega, rfl⟩ | exact Or.inr ⟨by omega, pl_u q0 (by omega) (by omega)⟩)), ht⟩) (fun q h => by cases h) dX9_where_21
set_option maxHeartbeats 4000000 in
set_option maxRecDepth 100000 in
theorem k_X10_cornerOf2 (l : Launch) (dC : Nat → ClassId) (dI : Nat → Nat → Nat) (cI cZ cQ : ClassId) (b : Nat → Nat) (mday : Int32) (mdoo : Int32) (mdA : Nat → Int32) (mdB : Nat → Int32) (mfar : Nat → Int32) (mmar : Nat → Int32) (mtel : Int32) (mgai : Int32) (mfal : Nat → Int32) (mtop : Nat → Int32) (mstr : Nat → Int32) (mgho : Nat → Int32) (mfai : Nat → Int32) (mpto : Nat → Int32) (mwal : Nat → Int32) (mahd : Nat → Int32) (mahf : Nat → Int32) (mcho : Nat → Int32) (mbes : Nat → Int32) (mbyt : Int32) (mtxt : Nat → Int32) (mpos : Int32) (mtka : Int32) (mtok : Int64) (mdig : Int32) (mnum : Int32) (mfau : Int32) (mrdm : Int32) (mrea : Nat → Int32) (mlin : Int32) (mlne : Nat → Int32) (mthg : Nat → Int32) (mord : Nat → Int32) (mbor : Nat → Int32) (mbsm : Int32) (mans : Nat → Int32) (mand : Nat → Int32) (manr : Nat → Int32) (mali : Nat → Int32) (t : Int32) (r_mday : 0 ≤ mday.toInt ∧ mday.toInt ≤ 400) (r_mdoo : 0 ≤ mdoo.toInt ∧ mdoo.toInt ≤ 14) (r_mdA : rg 14 (0) (7) mdA) (r_mdB : rg 14 (0) (7) mdB) (r_mmar : rg 24 (0) (255) mmar) (r_mgai : 0 ≤ mgai.toInt ∧ mgai.toInt ≤ 100) (r_mfal : rg 11 (0) (30) mfal) (r_mtop : rg 48 (-1) (23) mtop) (r_mstr : rg 48 (0) (100) mstr) (r_mgho : rg 48 (-1) (23) mgho) (r_mfai : rg 48 (0) (100) mfai) (r_mahd : rg 240 (0) (100) mahd) (r_mahf : rg 240 (0) (100) mahf) (r_mcho : rg 5 (-1) (9) mcho) (r_mbyt : 0 ≤ mbyt.toInt ∧ mbyt.toInt ≤ 160) (r_mpos : 0 ≤ mpos.toInt ∧ mpos.toInt ≤ 160) (r_mrdm : 0 ≤ mrdm.toInt ∧ mrdm.toInt ≤ 10) (r_mlin : 0 ≤ mlin.toInt ∧ mlin.toInt ≤ 10) (r_mthg : rg 8 (0) (31) mthg) (r_mord : rg 8 (-1) (8) mord) (r_mans : rg 4 (0) (12) mans) : KR l yX10_cornerOf wsX10_cornerOf { frames := 0, cells := 0, slots := 0, locals := 0 } (dC, dI) (TY cI cZ cQ) (wMod cI cZ cQ b mday mdoo mdA mdB mfar mmar mtel mgai mfal mtop mstr mgho mfai mpto mwal mahd mahf mcho mbes mbyt mtxt mpos mtka mtok mdig mnum mfau mrdm mrea mlin mlne mthg mord mbor mbsm mans mand manr mali) [.ref (b 39), .int t] (fun r : Int32 => (-1 ≤ r.toInt) ∧ (r.toInt ≤ 47) ∧ (whr mtop t r)) := by
  refine Met.ofW (cc := cX10_cornerOf) (maxL := 4) (ret := (some .int)) (by decide) rfl ?_
  intro p e s m args below meth c s₁ B hml hv
  obtain ⟨rfl, hP, hK, hN⟩ := hv
  have hx := B.exec
  have hb := B.bytes
  have hr := B.returns
  have hts := atoms_spec (ws := wsX10_cornerOf) B.pre
  have hown : s.vm.findClass RX10 = some m.cls := findClass_of_methodNamed B.named
  have hlocks := B.notSynchronized
  have lf32 := hts (.fieldLink RX10 32 "PalaceOfRoomsModel" "top" "[I") (List.mem_cons_of_mem _ (List.mem_append_left _ (List.mem_of_getElem? (i := 0) rfl)))
  have inX10 : ∀ w ∈ wsX100, w ∈ wsX10_cornerOf := fun w h => List.mem_cons_of_mem _ (List.mem_append_right _ h)
  have hl := lv_entry ([.ref (b 39), .int t]) (n := 4) (Nat.le_of_ble_eq_true rfl)
  rw [lg_entry_eq]
  generalize (lg_sl ([.ref (b 39), .int t]) ++ List.replicate (4 - (lg_sl ([.ref (b 39), .int t])).length) Slot.unset).toArray = ls at hl ⊢
  have hl : lv_has ls 4 [(0, .ref (b 39)), (1, .int t)] := hl
  refine lv_iconst (v := (-1)) hx hb dX10_cornerOf_0 (by decide) ?_
  refine lv_istore_n (lv' := [(2, .int (-1)), (0, .ref (b 39)), (1, .int t)]) hx hb dX10_cornerOf_1 rfl hl (by decide) rfl (fun ls hl => ?_)
  refine lv_iconst (v := 0) hx hb dX10_cornerOf_2 (by decide) ?_
  refine lv_istore_n (lv' := [(3, .int 0), (2, .int (-1)), (0, .ref (b 39)), (1, .int t)]) hx hb dX10_cornerOf_3 rfl hl (by decide) rfl (fun ls hl => ?_)
  have L4 : ∀ (nn : Nat) (y4_2 : Int32) (y4_3 : Int32) (ls : Array Slot), (0 ≤ (y4_3.toInt)) → ((y4_3.toInt) ≤ 48) → (-1 ≤ (y4_2.toInt)) → ((y4_2.toInt) ≤ 47) → (whk mtop t y4_2 (y4_3.toInt)) → (48 - (y4_3.toInt)).toNat < nn → lv_has ls 4 [(0, .ref (b 39)), (1, .int t), (2, .int y4_2), (3, .int y4_3)] → W p l e (headSpec wsX10_cornerOf { frames := 0, cells := 0, slots := 0, locals := 0 }).room s m ([.ref (b 39), .int t] : List Value).toArray below meth c s.heap [] 0 0 (MQ below (QR (fun r : Int32 => (-1 ≤ r.toInt) ∧ (r.toInt ≤ 47) ∧ (whr mtop t r))) ([.ref (b 39), .int t] : List Value).toArray s 0 0 (fun _ => False)) (F0 m 4 ls []) := by
    intro nn
    induction nn with
    | zero =>
      intro y4_2 y4_3 ls i4_0 i4_1 i4_2 i4_3 i4_4 hm4
      exact absurd hm4 (Nat.not_lt_zero _)
    | succ nn ih4 =>
      intro y4_2 y4_3 ls i4_0 i4_1 i4_2 i4_3 i4_4 hm4 hl
      refine lv_iload_n hx hb dX10_cornerOf_4 rfl (lv_at hl 3 rfl) ?_
      refine lv_bipush (v := 48) hx hb dX10_cornerOf_5 (by decide) ?_
      refine lv_icmp_ge (tgt := 32) hx hb dX10_cornerOf_7 (by decide) (fun c1 => ?_) (fun c1 => ?_)
      · have dc1 : 48 ≤ y4_3.toInt := leC (show (48 : Int32).toInt = 48 from rfl) rfl c1
        refine lv_iload_n hx hb dX10_cornerOf_32 rfl (lv_at hl 2 rfl) ?_
        exact W.iret (v := y4_2) hx hb hr (fun tq ht hW => ⟨y4_2, rfl, ⟨(show -1 ≤ y4_2.toInt from by omega), (show y4_2.toInt ≤ 47 from by omega), (show whr mtop t y4_2 from by (exact whk_fin i4_4 (by omega)))⟩, ht⟩) (fun q h => by cases h) dX10_cornerOf_33
      · have dc1 : y4_3.toInt < 48 := nleC (show (48 : Int32).toInt = 48 from rfl) rfl c1
        refine lv_aload_n hx hb dX10_cornerOf_10 rfl (lv_at hl 0 rfl) ?_
        refine va_get (D := (dC, dI)) (ci := 10) (v := .ref (b 9)) (C := RX10) (T := TX10) (N := 39) hx hb hts inX10 hown hK hP 0 rfl rfl 9 (by decide) lf32 (fun _ h9 => h9) rfl dX10_cornerOf_11 ?_
        refine lv_iload_n hx hb dX10_cornerOf_14 rfl (lv_at hl 3 rfl) ?_
        have b2 : vp_in y4_3 48 := inC rfl (by omega) (by omega)
        refine va_iald hx hb hK hP 6 0 rfl rfl b2 dX10_cornerOf_15 ?_
        have g3 : -1 ≤ (mtop y4_3.toNatClampNeg).toInt ∧ (mtop y4_3.toNatClampNeg).toInt ≤ 23 := rg_at r_mtop b2
        refine lv_iload_n hx hb dX10_cornerOf_16 rfl (lv_at hl 1 rfl) ?_
        refine lv_icmp_ne (tgt := 24) hx hb dX10_cornerOf_17 (by decide) (fun c4 => ?_) (fun c4 => ?_)
        · have dc4 : (mtop y4_3.toNatClampNeg).toInt ≠ t.toInt := neC rfl rfl c4
          refine lv_iload_n hx hb dX10_cornerOf_24 rfl (lv_at hl 2 rfl) ?_
          refine lv_istore_n (lv' := [(2, .int y4_2), (0, .ref (b 39)), (1, .int t), (3, .int y4_3)]) hx hb dX10_cornerOf_25 rfl hl (by decide) rfl (fun ls hl => ?_)
          obtain ⟨z5, ez5⟩ : ∃ y : Int32, y = y4_3 + 1 := ⟨_, rfl⟩
          have iz5 : z5.toInt = y4_3.toInt + 1 := by rw [ez5]; exact addC rfl rfl (by omega) (by omega)
          refine lv_iinc (v := z5) (lv' := [(3, .int z5), (2, .int y4_2), (0, .ref (b 39)), (1, .int t)]) hx hb dX10_cornerOf_26 hl (k := 3) rfl (by rw [ez5]; rfl) (by decide) rfl (fun ls hl => ?_)
          refine lv_goto (tgt := 4) hx hb dX10_cornerOf_29 (by decide) ?_
          exact ih4 y4_2 z5 _ (by omega) (by omega) (by omega) (by omega) (by (first | exact whk_miss i4_4 (by assumption) (by omega) (by omega) | exact whk_0 | exact whk_hit (by assumption) (by omega) (by omega))) (by omega) (lv_sub hl [2, 3, 1, 0] rfl)
        · have dc4 : (mtop y4_3.toNatClampNeg).toInt = t.toInt := eqC rfl rfl c4
          refine lv_iload_n hx hb dX10_cornerOf_20 rfl (lv_at hl 3 rfl) ?_
          refine lv_goto (tgt := 25) hx hb dX10_cornerOf_21 (by decide) ?_
          refine lv_istore_n (lv' := [(2, .int y4_3), (0, .ref (b 39)), (1, .int t), (3, .int y4_3)]) hx hb dX10_cornerOf_25 rfl hl (by decide) rfl (fun ls hl => ?_)
          obtain ⟨z6, ez6⟩ : ∃ y : Int32, y = y4_3 + 1 := ⟨_, rfl⟩
          have iz6 : z6.toInt = y4_3.toInt + 1 := by rw [ez6]; exact addC rfl rfl (by omega) (by omega)
          refine lv_iinc (v := z6) (lv' := [(3, .int z6), (2, .int y4_3), (0, .ref (b 39)), (1, .int t)]) hx hb dX10_cornerOf_26 hl (k := 3) rfl (by rw [ez6]; rfl) (by decide) rfl (fun ls hl => ?_)
          refine lv_goto (tgt := 4) hx hb dX10_cornerOf_29 (by decide) ?_
          exact ih4 y4_3 z6 _ (by omega) (by omega) (by omega) (by omega) (by (first | exact whk_miss i4_4 (by assumption) (by omega) (by omega) | exact whk_0 | exact whk_hit (by assumption) (by omega) (by omega))) (by omega) (lv_sub hl [2, 3, 1, 0] rfl)
  have kc7 : ((-1) : Int32).toInt = -1 := rfl
  have kc8 : (0 : Int32).toInt = 0 := rfl
  exact L4 _ (-1) 0 _ (by omega) (by omega) (by omega) (by omega) (by (first | exact whk_0 | exact whk_hit (by assumption) (by omega) (by omega) | exact whk_miss i4_4 (by assumption) (by omega) (by omega))) (Nat.lt_succ_self _) (lv_sub hl [2, 3, 1, 0] rfl)
set_option maxHeartbeats 4000000 in
set_option maxRecDepth 100000 in
theorem k_X10_where2 (l : Launch) (dC : Nat → ClassId) (dI : Nat → Nat → Nat) (cI cZ cQ : ClassId) (b : Nat → Nat) (mday : Int32) (mdoo : Int32) (mdA : Nat → Int32) (mdB : Nat → Int32) (mfar : Nat → Int32) (mmar : Nat → Int32) (mtel : Int32) (mgai : Int32) (mfal : Nat → Int32) (mtop : Nat → Int32) (mstr : Nat → Int32) (mgho : Nat → Int32) (mfai : Nat → Int32) (mpto : Nat → Int32) (mwal : Nat → Int32) (mahd : Nat → Int32) (mahf : Nat → Int32) (mcho : Nat → Int32) (mbes : Nat → Int32) (mbyt : Int32) (mtxt : Nat → Int32) (mpos : Int32) (mtka : Int32) (mtok : Int64) (mdig : Int32) (mnum : Int32) (mfau : Int32) (mrdm : Int32) (mrea : Nat → Int32) (mlin : Int32) (mlne : Nat → Int32) (mthg : Nat → Int32) (mord : Nat → Int32) (mbor : Nat → Int32) (mbsm : Int32) (mans : Nat → Int32) (mand : Nat → Int32) (manr : Nat → Int32) (mali : Nat → Int32) (t : Int32) (r_mday : 0 ≤ mday.toInt ∧ mday.toInt ≤ 400) (r_mdoo : 0 ≤ mdoo.toInt ∧ mdoo.toInt ≤ 14) (r_mdA : rg 14 (0) (7) mdA) (r_mdB : rg 14 (0) (7) mdB) (r_mmar : rg 24 (0) (255) mmar) (r_mgai : 0 ≤ mgai.toInt ∧ mgai.toInt ≤ 100) (r_mfal : rg 11 (0) (30) mfal) (r_mtop : rg 48 (-1) (23) mtop) (r_mstr : rg 48 (0) (100) mstr) (r_mgho : rg 48 (-1) (23) mgho) (r_mfai : rg 48 (0) (100) mfai) (r_mahd : rg 240 (0) (100) mahd) (r_mahf : rg 240 (0) (100) mahf) (r_mcho : rg 5 (-1) (9) mcho) (r_mbyt : 0 ≤ mbyt.toInt ∧ mbyt.toInt ≤ 160) (r_mpos : 0 ≤ mpos.toInt ∧ mpos.toInt ≤ 160) (r_mrdm : 0 ≤ mrdm.toInt ∧ mrdm.toInt ≤ 10) (r_mlin : 0 ≤ mlin.toInt ∧ mlin.toInt ≤ 10) (r_mthg : rg 8 (0) (31) mthg) (r_mord : rg 8 (-1) (8) mord) (r_mans : rg 4 (0) (12) mans) : KR l yX10_where wsX10_where { frames := 2, cells := 0, slots := 0, locals := 42 } (dC, dI) (TY cI cZ cQ) (wMod cI cZ cQ b mday mdoo mdA mdB mfar mmar mtel mgai mfal mtop mstr mgho mfai mpto mwal mahd mahf mcho mbes mbyt mtxt mpos mtka mtok mdig mnum mfau mrdm mrea mlin mlne mthg mord mbor mbsm mans mand manr mali) [.ref (b 39), .int t] (fun r : Int32 => (spWhereM mtop t r)) := by
  refine Met.ofW (cc := cX10_where) (maxL := 2) (ret := (some .int)) (by decide) rfl ?_
  intro p e s m args below meth c s₁ B hml hv
  obtain ⟨rfl, hP, hK, hN⟩ := hv
  have hx := B.exec
  have hb := B.bytes
  have hr := B.returns
  have hts := atoms_spec (ws := wsX10_where) B.pre
  have hown : s.vm.findClass RX10 = some m.cls := findClass_of_methodNamed B.named
  have hlocks := B.notSynchronized
  have hl := lv_entry ([.ref (b 39), .int t]) (n := 2) (Nat.le_of_ble_eq_true rfl)
  rw [lg_entry_eq]
  generalize (lg_sl ([.ref (b 39), .int t]) ++ List.replicate (2 - (lg_sl ([.ref (b 39), .int t])).length) Slot.unset).toArray = ls at hl ⊢
  have hl : lv_has ls 2 [(0, .ref (b 39)), (1, .int t)] := hl
  refine lv_iload_n hx hb dX10_where_0 rfl (lv_at hl 1 rfl) ?_
  refine rdS (As := [.int t]) (rest := []) ⟨hx, hb, hml, hown, hts⟩ (k_X10_isThing l dC dI cI cZ cQ t) (va_cwS 1 hts gX10_where_X10_isThing rfl rfl rfl (by decide +kernel) ⟨Nat.le_of_ble_eq_true rfl, Nat.le_of_ble_eq_true rfl⟩) hP hK hN [] rfl rfl hl.1 rfl (Nat.le_of_ble_eq_true rfl) dX10_where_1 ⟨Nat.le_of_ble_eq_true rfl, Nat.le_of_ble_eq_true rfl⟩ (fun r1 h2 => ?_)
  have h2 : ((((r1 = 1) ∧ (0 ≤ t.toInt) ∧ (t.toInt ≤ 23)) ∨ ((r1 = 0) ∧ (t.toInt < 0 ∨ 23 < t.toInt)))) := h2
  rcases h2 with (⟨rfl, h2_a0, h2_a1⟩ | ⟨rfl, h2_a0⟩)
  · refine lv_if_eq (tgt := 15) hx hb dX10_where_4 (by decide) (fun c9 => absurd c9 (by decide)) (fun _ => ?_)
    refine lv_aload_n hx hb dX10_where_7 rfl (lv_at hl 0 rfl) ?_
    refine lv_iload_n hx hb dX10_where_8 rfl (lv_at hl 1 rfl) ?_
    refine rdV (As := [.int t]) (rest := []) ⟨hx, hb, hml, hown, hts⟩ (k_X10_cornerOf2 l dC dI cI cZ cQ b mday mdoo mdA mdB mfar mmar mtel mgai mfal mtop mstr mgho mfai mpto mwal mahd mahf mcho mbes mbyt mtxt mpos mtka mtok mdig mnum mfau mrdm mrea mlin mlne mthg mord mbor mbsm mans mand manr mali t r_mday r_mdoo r_mdA r_mdB r_mmar r_mgai r_mfal r_mtop r_mstr r_mgho r_mfai r_mahd r_mahf r_mcho r_mbyt r_mpos r_mrdm r_mlin r_mthg r_mord r_mans) (cwV 1 hts gX10_where_X10_cornerOf rfl rfl rfl (by decide +kernel) ⟨Nat.le_of_ble_eq_true rfl, Nat.le_of_ble_eq_true rfl⟩) hP hK hN [0, 1, 2, 3, 4, 5, 6, 7, 8, 9, 10, 11, 12, 13, 14, 15, 16, 17, 18, 19, 20, 21, 22, 23, 24, 25] rfl 0 10 rfl rfl rfl hl.1 rfl (Nat.le_of_ble_eq_true rfl) dX10_where_9 ⟨Nat.le_of_ble_eq_true rfl, Nat.le_of_ble_eq_true rfl⟩ (fun r3 h4 => ?_)
    have h4 : (-1 ≤ r3.toInt) ∧ (r3.toInt ≤ 47) ∧ (whr mtop t r3) := h4
    obtain ⟨h4_0, h4_1, h4_2⟩ := h4
    refine lv_goto (tgt := 17) hx hb dX10_where_12 (by decide) ?_
    exact W.iret (v := r3) hx hb hr (fun tq ht hW => ⟨r3, rfl, (show spWhereM mtop t r3 from by (first | exact Or.inl ⟨by omega, rfl⟩ | exact Or.inr ⟨by omega, by assumption⟩)), ht⟩) (fun q h => by cases h) dX10_where_17
  · refine lv_if_eq (tgt := 15) hx hb dX10_where_4 (by decide) (fun _ => ?_) (fun c9 => absurd (by decide) c9)
    refine lv_bipush (v := (-2)) hx hb dX10_where_15 (by decide) ?_
    exact W.iret (v := (-2)) hx hb hr (fun tq ht hW => ⟨(-2), rfl, (show spWhereM mtop t ((-2) : Int32) from by (try rw [show ((-2) : Int32).toInt = (-2) from (show ((-2) : Int32).toInt = (-2) from rfl)]); (first | exact Or.inl ⟨by omega, rfl⟩ | exact Or.inr ⟨by omega, by assumption⟩)), ht⟩) (fun q h => by cases h) dX10_where_17
