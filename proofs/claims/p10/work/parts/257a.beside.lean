set_option maxHeartbeats 4000000 in
set_option maxRecDepth 100000 in
theorem k_X9_beside2 (l : Launch) (dC : Nat → ClassId) (dI : Nat → Nat → Nat) (cI cZ cQ : ClassId) (a : Nat → Nat) (rb0 : Nat) (rb1 : Nat) (rb2 : Nat) (db0 : Nat) (db1 : Nat) (db2 : Nat) (top : Nat → Int32) (str : Nat → Int32) (gho : Nat → Int32) (ghs : Nat → Int32) (pto : Nat → Int32) (cro : Nat → Int32) (pla : Nat → Int32) (wal : Nat → Int32) (fal : Nat → Int32) (tel : Int32) (gai : Int32) (day : Int32) (mar : Nat → Int32) (t : Int32) (si : Int32) (r_top : rg 48 (-1) (23) top) (r_str : rg 48 (0) (100) str) (r_gho : rg 48 (-1) (23) gho) (r_ghs : rg 48 (0) (100) ghs) (r_cro : rg 48 (0) (6) cro) (r_pla : rg 24 (-1) (47) pla) (r_fal : rg 11 (0) (30) fal) (r_gai : 0 ≤ gai.toInt ∧ gai.toInt ≤ 100) (r_day : 0 ≤ day.toInt ∧ day.toInt ≤ 400) (r_mar : rg 24 (0) (255) mar) (q0 : plOK top pla) : KR l yX9_beside wsX9_beside { frames := 2, cells := 0, slots := 0, locals := 42 } (dC, dI) (TY cI cZ cQ) (wsC cI cZ cQ a rb0 rb1 rb2 db0 db1 db2 top str gho ghs pto cro pla wal fal tel gai day mar) [.ref (a 43), .int t, .int si] (fun r : Int32 => (spBeside top t si r)) := by
  refine Met.ofW (cc := cX9_beside) (maxL := 4) (ret := (some .int)) (by decide) rfl ?_
  intro p e s m args below meth c s₁ B hml hv
  obtain ⟨rfl, hP, hK, hN⟩ := hv
  have hx := B.exec
  have hb := B.bytes
  have hr := B.returns
  have hts := atoms_spec (ws := wsX9_beside) B.pre
  have hown : s.vm.findClass RX9 = some m.cls := findClass_of_methodNamed B.named
  have hlocks := B.notSynchronized
  have lf28 := hts (.fieldLink RX9 28 "PalaceOfRooms" "corners" "LPalaceOfRooms$Corners;") (by decide +kernel)
  have inX9 : ∀ w ∈ wsX90, w ∈ wsX9_beside := by decide +kernel
  have lf128 := hN.use (w := .fieldLinkNest "PalaceOfRooms" 128 "PalaceOfRooms$Corners" "placeOf" "[I" "PalaceOfRooms") (by decide +kernel) ([.ref (a 43), .int t, .int si] : List Value).toArray
  have inX1 : ∀ w ∈ wsX10, w ∈ wsX9_beside := by decide +kernel
  have hl := lv_entry ([.ref (a 43), .int t, .int si]) (n := 4) (Nat.le_of_ble_eq_true rfl)
  rw [lg_entry_eq]
  generalize (lg_sl ([.ref (a 43), .int t, .int si]) ++ List.replicate (4 - (lg_sl ([.ref (a 43), .int t, .int si])).length) Slot.unset).toArray = ls at hl ⊢
  have hl : lv_has ls 4 [(0, .ref (a 43)), (1, .int t), (2, .int si)] := hl
  refine lv_iload_n hx hb dX9_beside_0 rfl (lv_at hl 1 rfl) ?_
  refine rdS (As := [.int t]) (rest := []) ⟨hx, hb, hml, hown, hts⟩ (k_X9_isThing l dC dI cI cZ cQ t) (va_cwS 1 hts gX9_beside_X9_isThing rfl rfl rfl (by decide +kernel) ⟨Nat.le_of_ble_eq_true rfl, Nat.le_of_ble_eq_true rfl⟩) hP hK hN [] rfl rfl hl.1 rfl (Nat.le_of_ble_eq_true rfl) dX9_beside_1 ⟨Nat.le_of_ble_eq_true rfl, Nat.le_of_ble_eq_true rfl⟩ (fun r1 h2 => ?_)
  have h2 : ((((r1 = 1) ∧ (0 ≤ t.toInt) ∧ (t.toInt ≤ 23)) ∨ ((r1 = 0) ∧ (t.toInt < 0 ∨ 23 < t.toInt)))) := h2
  rcases h2 with (⟨rfl, h2_a0, h2_a1⟩ | ⟨rfl, h2_a0⟩)
  · refine lv_if_ne (tgt := 10) hx hb dX9_beside_4 (by decide) (fun _ => ?_) (fun c9 => absurd c9 (by decide))
    refine lv_iload_n hx hb dX9_beside_10 rfl (lv_at hl 2 rfl) ?_
    refine lv_iconst (v := 0) hx hb dX9_beside_11 (by decide) ?_
    refine lv_iconst (v := 1) hx hb dX9_beside_12 (by decide) ?_
    refine rdS (As := [.int si, .int 0, .int 1]) (rest := []) ⟨hx, hb, hml, hown, hts⟩ (k_X9_within l dC dI cI cZ cQ si (0 : Int32) (1 : Int32)) (va_cwS 3 hts gX9_beside_X9_within rfl rfl rfl (by decide +kernel) ⟨Nat.le_of_ble_eq_true rfl, Nat.le_of_ble_eq_true rfl⟩) hP hK hN [] rfl rfl hl.1 rfl (Nat.le_of_ble_eq_true rfl) dX9_beside_13 ⟨Nat.le_of_ble_eq_true rfl, Nat.le_of_ble_eq_true rfl⟩ (fun r3 h4 => ?_)
    have h4 : ((((r3 = 1) ∧ ((0) ≤ si.toInt) ∧ (si.toInt ≤ (1))) ∨ ((r3 = 0) ∧ (si.toInt < (0) ∨ (1) < si.toInt)))) := h4
    rcases h4 with (⟨rfl, h4_a0, h4_a1⟩ | ⟨rfl, h4_a0⟩)
    · refine lv_if_ne (tgt := 22) hx hb dX9_beside_16 (by decide) (fun _ => ?_) (fun c9 => absurd c9 (by decide))
      refine lv_aload_n hx hb dX9_beside_22 rfl (lv_at hl 0 rfl) ?_
      refine va_get (D := (dC, dI)) (ci := 9) (v := .ref (a 4)) (C := RX9) (T := TX9) (N := 11) hx hb hts inX9 hown hK hP 0 rfl rfl 2 (by decide) lf28 (fun _ h9 => h9) rfl dX9_beside_23 ?_
      refine va_getN (D := (dC, dI)) (ci := 1) (v := .ref (a 11)) (C := RX1) (T := TX1) (N := 13) hx hb hts inX1 hown hK hP 1 rfl rfl 7 (by decide) lf128 (fun _ h9 => h9) rfl dX9_beside_26 ?_
      refine lv_iload_n hx hb dX9_beside_29 rfl (lv_at hl 1 rfl) ?_
      have b5 : vp_in t 24 := inC rfl (by omega) (by omega)
      refine va_iald hx hb hK hP 8 0 rfl rfl b5 dX9_beside_30 ?_
      have g6 : -1 ≤ (pla t.toNatClampNeg).toInt ∧ (pla t.toNatClampNeg).toInt ≤ 47 := rg_at r_pla b5
      refine lv_topi (fun x7 ex7 => ?_)
      have ix7 : x7.toInt = (pla t.toNatClampNeg).toInt := by rw [ex7]
      refine lv_istore_n (lv' := [(3, .int x7), (0, .ref (a 43)), (1, .int t), (2, .int si)]) hx hb dX9_beside_31 rfl hl (by decide) rfl (fun ls hl => ?_)
      refine lv_iload_n hx hb dX9_beside_32 rfl (lv_at hl 0 rfl) ?_
      refine lv_iconst (v := (-1)) hx hb dX9_beside_33 (by decide) ?_
      refine lv_icmp_ne (tgt := 41) hx hb dX9_beside_34 (by decide) (fun c8 => ?_) (fun c8 => ?_)
      · have dc8 : 0 ≤ x7.toInt := ka_lo (by omega) (neC rfl (show ((-1) : Int32).toInt = (-1) from rfl) c8)
        refine lv_aload_n hx hb dX9_beside_41 rfl (lv_at hl 1 rfl) ?_
        refine va_get (D := (dC, dI)) (ci := 9) (v := .ref (a 4)) (C := RX9) (T := TX9) (N := 11) hx hb hts inX9 hown hK hP 0 rfl rfl 2 (by decide) lf28 (fun _ h9 => h9) rfl dX9_beside_42 ?_
        refine lv_iload_n hx hb dX9_beside_45 rfl (lv_at hl 0 rfl) ?_
        have L56 : ∀ (t56_0 : Int32) (ls : Array Slot), ((t56_0.toInt) = 1 ∨ (t56_0.toInt) = -1) → (-1 ≤ (t56_0.toInt)) → ((t56_0.toInt) ≤ 1) → ((si = 1 ∧ (t56_0.toInt) = 1) ∨ (¬ si = 1 ∧ (t56_0.toInt) = -1)) → lv_has ls 4 [] → W p l e (headSpec wsX9_beside { frames := 2, cells := 0, slots := 0, locals := 42 }).room s m ([.ref (a 43), .int t, .int si] : List Value).toArray below meth c s.heap [] 0 0 (MQ below (QR (fun r : Int32 => (spBeside top t si r))) ([.ref (a 43), .int t, .int si] : List Value).toArray s 0 0 (fun _ => False)) (F0 m 56 ls [.int t56_0, .int x7, .ref (a 4)]) := by
          intro t56_0 ls i56_0 i56_1 i56_2 i56_3 hl
          refine rdV (As := [.int x7, .int t56_0]) (rest := []) ⟨hx, hb, hml, hown, hts⟩ (k_X1_nextOnTop2 l dC dI cI cZ cQ a top str gho ghs pto cro pla wal fal tel gai day mar x7 t56_0 r_top r_str r_gho r_ghs r_cro r_pla r_fal r_gai r_day r_mar (by omega) (by omega) (by omega) (by omega) (by omega)) (cwV 2 hts gX9_beside_X1_nextOnTop rfl rfl rfl (by decide +kernel) ⟨Nat.le_of_ble_eq_true rfl, Nat.le_of_ble_eq_true rfl⟩) hP hK hN [1, 2, 3, 4, 5, 6, 7, 8, 9, 10, 11, 12] rfl 1 1 rfl rfl rfl hl.1 rfl (Nat.le_of_ble_eq_true rfl) dX9_beside_56 ⟨Nat.le_of_ble_eq_true rfl, Nat.le_of_ble_eq_true rfl⟩ (fun r9 h10 => ?_)
          have h10 : (-1 ≤ r9.toInt) ∧ (r9.toInt ≤ 23) ∧ (r9 = scn top (x7.toInt - x7.toInt % 6) t56_0.toInt 6 (x7.toInt + t56_0.toInt)) := h10
          obtain ⟨h10_0, h10_1, h10_2⟩ := h10
          exact W.iret (v := r9) hx hb hr (fun tq ht hW => ⟨r9, rfl, (show spBeside top t si r9 from by (first | exact Or.inl ⟨by omega, rfl⟩ | exact Or.inr (Or.inl ⟨by omega, by omega, rfl⟩) | exact Or.inr (Or.inr ⟨by omega, by omega, _, pl_ux q0 (by omega) (by omega) (by assumption), Or.inl ⟨by assumption, rfl⟩⟩) | exact Or.inr (Or.inr ⟨by omega, by omega, _, pl_ux q0 (by omega) (by omega) (by assumption), bes_at (by assumption) (by assumption) (by assumption)⟩))), ht⟩) (fun q h => by cases h) dX9_beside_59
        refine lv_iload_n hx hb dX9_beside_46 rfl (lv_at hl 3 rfl) ?_
        refine lv_iconst (v := 1) hx hb dX9_beside_47 (by decide) ?_
        refine lv_icmp_ne (tgt := 55) hx hb dX9_beside_48 (by decide) (fun c11 => ?_) (fun c11 => ?_)
        · have dc11 : si.toInt ≤ 0 := ka_hi (by omega) (neC rfl (show (1 : Int32).toInt = 1 from rfl) c11)
          refine lv_iconst (v := (-1)) hx hb dX9_beside_55 (by decide) ?_
          have kc12 : ((-1) : Int32).toInt = -1 := rfl
          exact L56 (-1) _ (by omega) (by omega) (by omega) (by (first | exact Or.inl ⟨by assumption, rfl⟩ | exact Or.inr ⟨by assumption, rfl⟩)) (lv_sub hl [] rfl)
        · have dc11 : si.toInt = 1 := eqC rfl (show (1 : Int32).toInt = 1 from rfl) c11
          refine lv_iconst (v := 1) hx hb dX9_beside_51 (by decide) ?_
          refine lv_goto (tgt := 56) hx hb dX9_beside_52 (by decide) ?_
          have kc13 : (1 : Int32).toInt = 1 := rfl
          exact L56 1 _ (by omega) (by omega) (by omega) (by (first | exact Or.inl ⟨by assumption, rfl⟩ | exact Or.inr ⟨by assumption, rfl⟩)) (lv_sub hl [] rfl)
      · have dc8 : x7.toInt = (-1) := eqC rfl (show ((-1) : Int32).toInt = (-1) from rfl) c8
        refine lv_iconst (v := (-1)) hx hb dX9_beside_37 (by decide) ?_
        refine lv_goto (tgt := 59) hx hb dX9_beside_38 (by decide) ?_
        exact W.iret (v := (-1)) hx hb hr (fun tq ht hW => ⟨(-1), rfl, (show spBeside top t si ((-1) : Int32) from by (try rw [show ((-1) : Int32).toInt = (-1) from (show ((-1) : Int32).toInt = (-1) from rfl)]); (first | exact Or.inl ⟨by omega, rfl⟩ | exact Or.inr (Or.inl ⟨by omega, by omega, rfl⟩) | exact Or.inr (Or.inr ⟨by omega, by omega, _, pl_ux q0 (by omega) (by omega) (by assumption), Or.inl ⟨by assumption, rfl⟩⟩) | exact Or.inr (Or.inr ⟨by omega, by omega, _, pl_ux q0 (by omega) (by omega) (by assumption), bes_at (by assumption) (by assumption) (by assumption)⟩))), ht⟩) (fun q h => by cases h) dX9_beside_59
    · refine lv_if_ne (tgt := 22) hx hb dX9_beside_16 (by decide) (fun c9 => absurd (by decide) c9) (fun _ => ?_)
      refine lv_bipush (v := (-3)) hx hb dX9_beside_19 (by decide) ?_
      exact W.iret (v := (-3)) hx hb hr (fun tq ht hW => ⟨(-3), rfl, (show spBeside top t si ((-3) : Int32) from by (try rw [show ((-3) : Int32).toInt = (-3) from (show ((-3) : Int32).toInt = (-3) from rfl)]); (first | exact Or.inl ⟨by omega, rfl⟩ | exact Or.inr (Or.inl ⟨by omega, by omega, rfl⟩) | exact Or.inr (Or.inr ⟨by omega, by omega, _, pl_ux q0 (by omega) (by omega) (by assumption), Or.inl ⟨by assumption, rfl⟩⟩) | exact Or.inr (Or.inr ⟨by omega, by omega, _, pl_ux q0 (by omega) (by omega) (by assumption), bes_at (by assumption) (by assumption) (by assumption)⟩))), ht⟩) (fun q h => by cases h) dX9_beside_21
  · refine lv_if_ne (tgt := 10) hx hb dX9_beside_4 (by decide) (fun c9 => absurd (by decide) c9) (fun _ => ?_)
    refine lv_bipush (v := (-2)) hx hb dX9_beside_7 (by decide) ?_
    exact W.iret (v := (-2)) hx hb hr (fun tq ht hW => ⟨(-2), rfl, (show spBeside top t si ((-2) : Int32) from by (try rw [show ((-2) : Int32).toInt = (-2) from (show ((-2) : Int32).toInt = (-2) from rfl)]); (first | exact Or.inl ⟨by omega, rfl⟩ | exact Or.inr (Or.inl ⟨by omega, by omega, rfl⟩) | exact Or.inr (Or.inr ⟨by omega, by omega, _, pl_ux q0 (by omega) (by omega) (by assumption), Or.inl ⟨by assumption, rfl⟩⟩) | exact Or.inr (Or.inr ⟨by omega, by omega, _, pl_ux q0 (by omega) (by omega) (by assumption), bes_at (by assumption) (by assumption) (by assumption)⟩))), ht⟩) (fun q h => by cases h) dX9_beside_9
