set_option maxHeartbeats 4000000 in
set_option maxRecDepth 100000 in
theorem k_X1_crowds2 (l : Launch) (dC : Nat → ClassId) (dI : Nat → Nat → Nat) (cI cZ cQ : ClassId) (a : Nat → Nat) (top : Nat → Int32) (str : Nat → Int32) (gho : Nat → Int32) (ghs : Nat → Int32) (pto : Nat → Int32) (cro : Nat → Int32) (pla : Nat → Int32) (wal : Nat → Int32) (fal : Nat → Int32) (tel : Int32) (gai : Int32) (day : Int32) (mar : Nat → Int32) (ot : Int32) (co : Int32) (r_top : rg 48 (-1) (23) top) (r_str : rg 48 (0) (100) str) (r_gho : rg 48 (-1) (23) gho) (r_ghs : rg 48 (0) (100) ghs) (r_cro : rg 48 (0) (6) cro) (r_pla : rg 24 (-1) (47) pla) (r_fal : rg 11 (0) (30) fal) (r_gai : 0 ≤ gai.toInt ∧ gai.toInt ≤ 100) (r_day : 0 ≤ day.toInt ∧ day.toInt ≤ 400) (r_mar : rg 24 (0) (255) mar) (q0 : 0 ≤ ot.toInt) (q1 : ot.toInt ≤ 47) (q2 : 0 ≤ co.toInt) (q3 : co.toInt ≤ 47) : KR l yX1_crowds wsX1_crowds { frames := 3, cells := 0, slots := 0, locals := 64 } (dC, dI) (TY cI cZ cQ) (wCor cI cZ cQ a top str gho ghs pto cro pla wal fal tel gai day mar) [.ref (a 4), .int ot, .int co] (fun r : Int32 => ((((r = 1) ∧ (crdB mar top tel ot.toNatClampNeg co.toNatClampNeg = true)) ∨ ((r = 0) ∧ (crdB mar top tel ot.toNatClampNeg co.toNatClampNeg = false))))) := by
  refine Met.ofW (cc := cX1_crowds) (maxL := 3) (ret := (some .boolean)) (by decide) rfl ?_
  intro p e s m args below meth c s₁ B hml hv
  obtain ⟨rfl, hP, hK, hN⟩ := hv
  have hx := B.exec
  have hb := B.bytes
  have hr := B.returns
  have hts := atoms_spec (ws := wsX1_crowds) B.pre
  have hown : s.vm.findClass RX1 = some m.cls := findClass_of_methodNamed B.named
  have hlocks := B.notSynchronized
  have lf9 := hts (.fieldLink RX1 9 "PalaceOfRooms$Corners" "top" "[I") (by decide +kernel)
  have inX1 : ∀ w ∈ wsX10, w ∈ wsX1_crowds := by decide +kernel
  have hl := lv_entry ([.ref (a 4), .int ot, .int co]) (n := 3) (Nat.le_of_ble_eq_true rfl)
  rw [lg_entry_eq]
  generalize (lg_sl ([.ref (a 4), .int ot, .int co]) ++ List.replicate (3 - (lg_sl ([.ref (a 4), .int ot, .int co])).length) Slot.unset).toArray = ls at hl ⊢
  have hl : lv_has ls 3 [(0, .ref (a 4)), (1, .int ot), (2, .int co)] := hl
  refine lv_iload_n hx hb dX1_crowds_0 rfl (lv_at hl 1 rfl) ?_
  refine lv_iload_n hx hb dX1_crowds_1 rfl (lv_at hl 2 rfl) ?_
  refine lv_icmp_eq (tgt := 48) hx hb dX1_crowds_2 (by decide) (fun c1 => ?_) (fun c1 => ?_)
  · have dc1 : ot.toInt = co.toInt := eqC rfl rfl c1
    refine lv_iconst (v := 0) hx hb dX1_crowds_48 (by decide) ?_
    exact W.zret (v := 0) hx hb hr (by decide) (fun tq ht hW => ⟨0, rfl, (Or.inr (⟨rfl, (show crdB mar top tel ot.toNatClampNeg co.toNatClampNeg = false from by (try rw [show (0 : Int32).toInt = 0 from (show (0 : Int32).toInt = 0 from rfl)]); (first | exact crd_yes (by omega) (by omega) (by omega) (by assumption) (by assumption) (by omega) | exact crd_eq (by assumption) | exact crd_t1 (by assumption) | exact crd_t2 (by assumption) | exact crd_no (by omega)))⟩)), ht⟩) (fun q h => by cases h) dX1_crowds_49
  · have dc1 : ot.toInt ≠ co.toInt := neC rfl rfl c1
    refine lv_aload_n hx hb dX1_crowds_5 rfl (lv_at hl 0 rfl) ?_
    refine va_get (D := (dC, dI)) (ci := 1) (v := .ref (a 5)) (C := RX1) (T := TX1) (N := 13) hx hb hts inX1 hown hK hP 0 rfl rfl 1 (by decide) lf9 (fun _ h9 => h9) rfl dX1_crowds_6 ?_
    refine lv_iload_n hx hb dX1_crowds_9 rfl (lv_at hl 1 rfl) ?_
    have b2 : vp_in ot 48 := inC rfl (by omega) (by omega)
    refine va_iald hx hb hK hP 1 0 rfl rfl b2 dX1_crowds_10 ?_
    have g3 : -1 ≤ (top ot.toNatClampNeg).toInt ∧ (top ot.toNatClampNeg).toInt ≤ 23 := rg_at r_top b2
    refine lv_iconst (v := (-1)) hx hb dX1_crowds_11 (by decide) ?_
    refine lv_icmp_eq (tgt := 48) hx hb dX1_crowds_12 (by decide) (fun c4 => ?_) (fun c4 => ?_)
    · have dc4 : (top ot.toNatClampNeg).toInt = (-1) := eqC rfl (show ((-1) : Int32).toInt = (-1) from rfl) c4
      refine lv_iconst (v := 0) hx hb dX1_crowds_48 (by decide) ?_
      exact W.zret (v := 0) hx hb hr (by decide) (fun tq ht hW => ⟨0, rfl, (Or.inr (⟨rfl, (show crdB mar top tel ot.toNatClampNeg co.toNatClampNeg = false from by (try rw [show (0 : Int32).toInt = 0 from (show (0 : Int32).toInt = 0 from rfl)]); (first | exact crd_yes (by omega) (by omega) (by omega) (by assumption) (by assumption) (by omega) | exact crd_eq (by assumption) | exact crd_t1 (by assumption) | exact crd_t2 (by assumption) | exact crd_no (by omega)))⟩)), ht⟩) (fun q h => by cases h) dX1_crowds_49
    · have dc4 : 0 ≤ (top ot.toNatClampNeg).toInt := ka_lo (by omega) (neC rfl (show ((-1) : Int32).toInt = (-1) from rfl) c4)
      refine lv_aload_n hx hb dX1_crowds_15 rfl (lv_at hl 0 rfl) ?_
      refine va_get (D := (dC, dI)) (ci := 1) (v := .ref (a 5)) (C := RX1) (T := TX1) (N := 13) hx hb hts inX1 hown hK hP 0 rfl rfl 1 (by decide) lf9 (fun _ h9 => h9) rfl dX1_crowds_16 ?_
      refine lv_iload_n hx hb dX1_crowds_19 rfl (lv_at hl 2 rfl) ?_
      have b5 : vp_in co 48 := inC rfl (by omega) (by omega)
      refine va_iald hx hb hK hP 1 0 rfl rfl b5 dX1_crowds_20 ?_
      have g6 : -1 ≤ (top co.toNatClampNeg).toInt ∧ (top co.toNatClampNeg).toInt ≤ 23 := rg_at r_top b5
      refine lv_iconst (v := (-1)) hx hb dX1_crowds_21 (by decide) ?_
      refine lv_icmp_eq (tgt := 48) hx hb dX1_crowds_22 (by decide) (fun c7 => ?_) (fun c7 => ?_)
      · have dc7 : (top co.toNatClampNeg).toInt = (-1) := eqC rfl (show ((-1) : Int32).toInt = (-1) from rfl) c7
        refine lv_iconst (v := 0) hx hb dX1_crowds_48 (by decide) ?_
        exact W.zret (v := 0) hx hb hr (by decide) (fun tq ht hW => ⟨0, rfl, (Or.inr (⟨rfl, (show crdB mar top tel ot.toNatClampNeg co.toNatClampNeg = false from by (try rw [show (0 : Int32).toInt = 0 from (show (0 : Int32).toInt = 0 from rfl)]); (first | exact crd_yes (by omega) (by omega) (by omega) (by assumption) (by assumption) (by omega) | exact crd_eq (by assumption) | exact crd_t1 (by assumption) | exact crd_t2 (by assumption) | exact crd_no (by omega)))⟩)), ht⟩) (fun q h => by cases h) dX1_crowds_49
      · have dc7 : 0 ≤ (top co.toNatClampNeg).toInt := ka_lo (by omega) (neC rfl (show ((-1) : Int32).toInt = (-1) from rfl) c7)
        refine lv_aload_n hx hb dX1_crowds_25 rfl (lv_at hl 0 rfl) ?_
        refine lv_aload_n hx hb dX1_crowds_26 rfl (lv_at hl 0 rfl) ?_
        refine va_get (D := (dC, dI)) (ci := 1) (v := .ref (a 5)) (C := RX1) (T := TX1) (N := 13) hx hb hts inX1 hown hK hP 0 rfl rfl 1 (by decide) lf9 (fun _ h9 => h9) rfl dX1_crowds_27 ?_
        refine lv_iload_n hx hb dX1_crowds_30 rfl (lv_at hl 1 rfl) ?_
        have b8 : vp_in ot 48 := inC rfl (by omega) (by omega)
        refine va_iald hx hb hK hP 1 0 rfl rfl b8 dX1_crowds_31 ?_
        have g9 : -1 ≤ (top ot.toNatClampNeg).toInt ∧ (top ot.toNatClampNeg).toInt ≤ 23 := rg_at r_top b8
        refine lv_aload_n hx hb dX1_crowds_32 rfl (lv_at hl 0 rfl) ?_
        refine va_get (D := (dC, dI)) (ci := 1) (v := .ref (a 5)) (C := RX1) (T := TX1) (N := 13) hx hb hts inX1 hown hK hP 0 rfl rfl 1 (by decide) lf9 (fun _ h9 => h9) rfl dX1_crowds_33 ?_
        refine lv_iload_n hx hb dX1_crowds_36 rfl (lv_at hl 2 rfl) ?_
        have b10 : vp_in co 48 := inC rfl (by omega) (by omega)
        refine va_iald hx hb hK hP 1 0 rfl rfl b10 dX1_crowds_37 ?_
        have g11 : -1 ≤ (top co.toNatClampNeg).toInt ∧ (top co.toNatClampNeg).toInt ≤ 23 := rg_at r_top b10
        refine rdV (As := [.int (top ot.toNatClampNeg), .int (top co.toNatClampNeg)]) (rest := []) ⟨hx, hb, hml, hown, hts⟩ (k_X1_muchAlike2 l dC dI cI cZ cQ a top str gho ghs pto cro pla wal fal tel gai day mar (top ot.toNatClampNeg) (top co.toNatClampNeg) r_top r_str r_gho r_ghs r_cro r_pla r_fal r_gai r_day r_mar (by omega) (by omega) (by omega) (by omega)) (cwV 2 hts gX1_crowds_X1_muchAlike rfl rfl rfl (by decide +kernel) ⟨Nat.le_of_ble_eq_true rfl, Nat.le_of_ble_eq_true rfl⟩) hP hK hN [0, 1, 2, 3, 4, 5, 6, 7, 8, 9, 10, 11] rfl 0 1 rfl rfl rfl hl.1 rfl (Nat.le_of_ble_eq_true rfl) dX1_crowds_38 ⟨Nat.le_of_ble_eq_true rfl, Nat.le_of_ble_eq_true rfl⟩ (fun r12 h13 => ?_)
        have h13 : ((((r12 = 1) ∧ (tel.toInt ≤ (bc (mar (top ot.toNatClampNeg).toNatClampNeg &&& mar (top co.toNatClampNeg).toNatClampNeg)).toInt)) ∨ ((r12 = 0) ∧ ((bc (mar (top ot.toNatClampNeg).toNatClampNeg &&& mar (top co.toNatClampNeg).toNatClampNeg)).toInt < tel.toInt)))) := h13
        rcases h13 with (⟨rfl, h13_a0⟩ | ⟨rfl, h13_a0⟩)
        · refine lv_if_eq (tgt := 48) hx hb dX1_crowds_41 (by decide) (fun c9 => absurd c9 (by decide)) (fun _ => ?_)
          refine lv_iconst (v := 1) hx hb dX1_crowds_44 (by decide) ?_
          refine lv_goto (tgt := 49) hx hb dX1_crowds_45 (by decide) ?_
          exact W.zret (v := 1) hx hb hr (by decide) (fun tq ht hW => ⟨1, rfl, (Or.inl (⟨rfl, (show crdB mar top tel ot.toNatClampNeg co.toNatClampNeg = true from by (try rw [show (1 : Int32).toInt = 1 from (show (1 : Int32).toInt = 1 from rfl)]); (first | exact crd_yes (by omega) (by omega) (by omega) (by assumption) (by assumption) (by omega) | exact crd_eq (by assumption) | exact crd_t1 (by assumption) | exact crd_t2 (by assumption) | exact crd_no (by omega)))⟩)), ht⟩) (fun q h => by cases h) dX1_crowds_49
        · refine lv_if_eq (tgt := 48) hx hb dX1_crowds_41 (by decide) (fun _ => ?_) (fun c9 => absurd (by decide) c9)
          refine lv_iconst (v := 0) hx hb dX1_crowds_48 (by decide) ?_
          exact W.zret (v := 0) hx hb hr (by decide) (fun tq ht hW => ⟨0, rfl, (Or.inr (⟨rfl, (show crdB mar top tel ot.toNatClampNeg co.toNatClampNeg = false from by (try rw [show (0 : Int32).toInt = 0 from (show (0 : Int32).toInt = 0 from rfl)]); (first | exact crd_yes (by omega) (by omega) (by omega) (by assumption) (by assumption) (by omega) | exact crd_eq (by assumption) | exact crd_t1 (by assumption) | exact crd_t2 (by assumption) | exact crd_no (by omega)))⟩)), ht⟩) (fun q h => by cases h) dX1_crowds_49
