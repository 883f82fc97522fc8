theorem askC_no {few top : Nat → Int32} {t ro c f z : Int32} (h0 : 0 ≤ t.toInt ∧ t.toInt ≤ 23 ∧ 0 ≤ ro.toInt ∧ ro.toInt ≤ 7) (w : whu top t c) (hc : 0 ≤ c.toInt ∧ c.toInt ≤ 47) (e : f = few (ro.toInt * 8 + z.toInt).toNat) (hz : z.toInt = c.toInt / 6) (hf : f = -1) : spAskC few top t ro (-1) := .inr ⟨h0, c, w, .inr ⟨hc, .inl ⟨by rw [← hz, ← e]; exact hf, rfl⟩⟩⟩
theorem askC_ok {few top : Nat → Int32} {t ro c f z r : Int32} (h0 : 0 ≤ t.toInt ∧ t.toInt ≤ 23 ∧ 0 ≤ ro.toInt ∧ ro.toInt ≤ 7) (w : whu top t c) (hc : 0 ≤ c.toInt ∧ c.toInt ≤ 47) (e : f = few (ro.toInt * 8 + z.toInt).toNat) (hz : z.toInt = c.toInt / 6) (hf : ¬ f = -1) (hr : r.toInt = f.toInt + c.toInt % 6 + 1) : spAskC few top t ro r := .inr ⟨h0, c, w, .inr ⟨hc, .inr ⟨by rw [← hz, ← e]; exact hf, by rw [← hz, ← e]; exact hr⟩⟩⟩
theorem askM_n {A B top : Nat → Int32} {n t ro c : Int32} (h0 : 0 ≤ t.toInt ∧ t.toInt ≤ 23 ∧ 0 ≤ ro.toInt ∧ ro.toInt ≤ 7) (w : whr top t c) (hc : c = -1) : spAskM A B n top t ro (-1) := .inr ⟨h0, c, w, .inl ⟨hc, rfl⟩⟩
theorem askM_no {A B top : Nat → Int32} {n t ro c f z : Int32} (h0 : 0 ≤ t.toInt ∧ t.toInt ≤ 23 ∧ 0 ≤ ro.toInt ∧ ro.toInt ≤ 7) (w : whr top t c) (hc : 0 ≤ c.toInt ∧ c.toInt ≤ 47) (e : dsR A B n.toInt ro z f) (hz : z.toInt = c.toInt / 6) (hf : f = -1) : spAskM A B n top t ro (-1) := .inr ⟨h0, c, w, .inr ⟨hc, f, z, hz, e, .inl ⟨hf, rfl⟩⟩⟩
theorem askM_ok {A B top : Nat → Int32} {n t ro c f z r : Int32} (h0 : 0 ≤ t.toInt ∧ t.toInt ≤ 23 ∧ 0 ≤ ro.toInt ∧ ro.toInt ≤ 7) (w : whr top t c) (hc : 0 ≤ c.toInt ∧ c.toInt ≤ 47) (e : dsR A B n.toInt ro z f) (hz : z.toInt = c.toInt / 6) (hf : ¬ f = -1) (hr : r.toInt = f.toInt + c.toInt % 6 + 1) : spAskM A B n top t ro r := .inr ⟨h0, c, w, .inr ⟨hc, f, z, hz, e, .inr ⟨hf, hr⟩⟩⟩
theorem coC_no {few top : Nat → Int32} {ro f : Int32} {z : Int} (e : f = few (z * 8 + ro.toInt).toNat) (hz : z = 0) (hf : f = -1) : coC few top ro (-1) := by
  subst hz; rw [show ((0 : Int) * 8 + ro.toInt) = ro.toInt by omega] at e
  exact .inl ⟨e.symm.trans hf, rfl⟩
theorem coC_ok {few top : Nat → Int32} {ro f s r : Int32} {z : Int} (e : f = few (z * 8 + ro.toInt).toNat) (hz : z = 0) (hf : ¬ f = -1) (hs : s.toInt = stF top (ro.toInt * 6).toNat 6) (hr : r.toInt = 2 * f.toInt + s.toInt) : coC few top ro r := by
  subst hz; rw [show ((0 : Int) * 8 + ro.toInt) = ro.toInt by omega] at e
  exact .inr ⟨fun q => hf (e.trans q), by rw [← e, hr, hs]⟩
theorem coM_no {A B top : Nat → Int32} {n : Int} {ro f : Int32} (e : dsR A B n 0 ro f) (hf : f = -1) : coM A B n top ro (-1) := ⟨f, e, .inl ⟨hf, rfl⟩⟩
theorem coM_ok {A B top : Nat → Int32} {n : Int} {ro f s r : Int32} (e : dsR A B n 0 ro f) (hf : ¬ f = -1) (hs : s.toInt = stF top (ro.toInt * 6).toNat 6) (hr : r.toInt = 2 * f.toInt + s.toInt) : coM A B n top ro r := ⟨f, e, .inr ⟨hf, by rw [hr, hs]⟩⟩
set_option maxHeartbeats 4000000 in
set_option maxRecDepth 100000 in
theorem k_X9_door2 (l : Launch) (dC : Nat → ClassId) (dI : Nat → Nat → Nat) (cI cZ cQ : ClassId) (a : Nat → Nat) (rb0 : Nat) (rb1 : Nat) (rb2 : Nat) (db0 : Nat) (db1 : Nat) (db2 : Nat) (few : Nat → Int32) (doo : Int32) (sz : Nat) (x : Int32) (y : Int32) (q0 : mtOK few) : KW l yX9_door wsX9_door { frames := 3, cells := 0, slots := 0, locals := 72 } (dC, dI) (TY cI cZ cQ) (wsW cI cZ cQ a rb0 rb1 rb2 db0 db1 db2 few doo) [.ref (a 43), .int x, .int y] sz 0 0 (fun (r : Int32) (u : US) => (spDorC few doo x y r (u.1 0) (u.1 1 0)) ∧ (mtOK (u.1 0))) (fun u : US => (wsW cI cZ cQ a rb0 rb1 rb2 db0 db1 db2 (u.1 0) (u.1 1 0))) := by
  refine Met.ofW (cc := cX9_door) (maxL := 3) (ret := (some .int)) (by decide) rfl ?_
  intro p e s m args below meth c s₁ B hml hv
  obtain ⟨rfl, hsz, hP, hK, hD0, hN⟩ := hv
  have hx := B.exec
  have hb := B.bytes
  have hr := B.returns
  have hts := atoms_spec (ws := wsX9_door) B.pre
  have hown : s.vm.findClass RX9 = some m.cls := findClass_of_methodNamed B.named
  have hlocks := B.notSynchronized
  have lf12 := hts (.fieldLink RX9 12 "PalaceOfRooms" "ways" "LPalaceOfRooms$Ways;") (by decide +kernel)
  have inX9 : ∀ w ∈ wsX90, w ∈ wsX9_door := fun w h => List.mem_cons_of_mem _ (List.mem_append_left _ (List.mem_append_right _ h))
  have lf91 := hN.use (w := .fieldLinkNest "PalaceOfRooms" 91 "PalaceOfRooms$Ways" "doors" "I" "PalaceOfRooms") (by decide +kernel) ([.ref (a 43), .int x, .int y] : List Value).toArray
  have inX8 : ∀ w ∈ wsX80, w ∈ wsX9_door := fun w h => List.mem_cons_of_mem _ (List.mem_append_right _ h)
  subst hsz
  have hD := hD0.self (sz := s.heap.size)
  generalize hAe : va_A (wsW cI cZ cQ a rb0 rb1 rb2 db0 db1 db2 few doo) s.heap.size = A at hD ⊢
  have hA : ∀ q : Nat, s.heap.size ≤ q → A q := fun q h => by rw [← hAe]; exact Or.inr h
  have hS : va_S A s.heap s.heap [] := va_S.rf
  have hl := lv_entry ([.ref (a 43), .int x, .int y]) (n := 3) (Nat.le_of_ble_eq_true rfl)
  rw [lg_entry_eq]
  generalize (lg_sl ([.ref (a 43), .int x, .int y]) ++ List.replicate (3 - (lg_sl ([.ref (a 43), .int x, .int y])).length) Slot.unset).toArray = ls at hl ⊢
  have hl : lv_has ls 3 [(0, .ref (a 43)), (1, .int x), (2, .int y)] := hl
  refine lv_iload_n hx hb dX9_door_0 rfl (lv_at hl 1 rfl) ?_
  refine rdS (As := [.int x]) (rest := []) ⟨hx, hb, hml, hown, hts⟩ (k_X9_isRoom l dC dI cI cZ cQ x) (va_cwS 1 hts gX9_door_X9_isRoom rfl rfl rfl (by decide +kernel) ⟨Nat.le_of_ble_eq_true rfl, Nat.le_of_ble_eq_true rfl⟩) hP hK hN [] rfl rfl hl.1 rfl (Nat.le_of_ble_eq_true rfl) dX9_door_1 ⟨Nat.le_of_ble_eq_true rfl, Nat.le_of_ble_eq_true rfl⟩ (fun r1 h2 => ?_)
  have h2 : ((((r1 = 1) ∧ (0 ≤ x.toInt) ∧ (x.toInt ≤ 7)) ∨ ((r1 = 0) ∧ (x.toInt < 0 ∨ 7 < x.toInt)))) := h2
  rcases h2 with (⟨rfl, h2_a0, h2_a1⟩ | ⟨rfl, h2_a0⟩)
  · refine lv_if_eq (tgt := 19) hx hb dX9_door_4 (by decide) (fun c9 => absurd c9 (by decide)) (fun _ => ?_)
    refine lv_iload_n hx hb dX9_door_7 rfl (lv_at hl 2 rfl) ?_
    refine rdS (As := [.int y]) (rest := []) ⟨hx, hb, hml, hown, hts⟩ (k_X9_isRoom l dC dI cI cZ cQ y) (va_cwS 1 hts gX9_door_X9_isRoom rfl rfl rfl (by decide +kernel) ⟨Nat.le_of_ble_eq_true rfl, Nat.le_of_ble_eq_true rfl⟩) hP hK hN [] rfl rfl hl.1 rfl (Nat.le_of_ble_eq_true rfl) dX9_door_8 ⟨Nat.le_of_ble_eq_true rfl, Nat.le_of_ble_eq_true rfl⟩ (fun r3 h4 => ?_)
    have h4 : ((((r3 = 1) ∧ (0 ≤ y.toInt) ∧ (y.toInt ≤ 7)) ∨ ((r3 = 0) ∧ (y.toInt < 0 ∨ 7 < y.toInt)))) := h4
    rcases h4 with (⟨rfl, h4_a0, h4_a1⟩ | ⟨rfl, h4_a0⟩)
    · refine lv_if_eq (tgt := 19) hx hb dX9_door_11 (by decide) (fun c9 => absurd c9 (by decide)) (fun _ => ?_)
      refine lv_iload_n hx hb dX9_door_14 rfl (lv_at hl 1 rfl) ?_
      refine lv_iload_n hx hb dX9_door_15 rfl (lv_at hl 2 rfl) ?_
      refine lv_icmp_ne (tgt := 22) hx hb dX9_door_16 (by decide) (fun c5 => ?_) (fun c5 => ?_)
      · have dc5 : x.toInt ≠ y.toInt := neC rfl rfl c5
        refine lv_aload_n hx hb dX9_door_22 rfl (lv_at hl 0 rfl) ?_
        refine va_get (D := (dC, dI)) (ci := 9) (v := .ref (a 0)) (C := RX9) (T := TX9) (N := 11) hx hb hts inX9 hown hK hP 0 rfl rfl 0 (by decide) lf12 (fun _ h9 => h9) rfl dX9_door_23 ?_
        refine lv_iload_n hx hb dX9_door_26 rfl (lv_at hl 1 rfl) ?_
        refine lv_iload_n hx hb dX9_door_27 rfl (lv_at hl 2 rfl) ?_
        refine rdV (As := [.int x, .int y]) (rest := []) ⟨hx, hb, hml, hown, hts⟩ (k_X8_joined2 l dC dI cI cZ cQ a few doo x y (by omega) (by omega) (by omega) (by omega)) (cwV 2 hts gX9_door_X8_joined rfl rfl rfl (by decide +kernel) ⟨Nat.le_of_ble_eq_true rfl, Nat.le_of_ble_eq_true rfl⟩) hP hK hN [1, 2] rfl 1 8 rfl rfl rfl hl.1 rfl (Nat.le_of_ble_eq_true rfl) dX9_door_28 ⟨Nat.le_of_ble_eq_true rfl, Nat.le_of_ble_eq_true rfl⟩ (fun r6 h7 => ?_)
        have h7 : ((((r6 = 1) ∧ ((few (x.toInt * 8 + y.toInt).toNat).toInt = 1)) ∨ ((r6 = 0) ∧ ((few (x.toInt * 8 + y.toInt).toNat).toInt ≠ 1)))) := h7
        rcases h7 with (⟨rfl, h7_a0⟩ | ⟨rfl, h7_a0⟩)
        · refine lv_if_eq (tgt := 37) hx hb dX9_door_31 (by decide) (fun c9 => absurd c9 (by decide)) (fun _ => ?_)
          refine lv_bipush (v := (-4)) hx hb dX9_door_34 (by decide) ?_
          exact W.iret (v := (-4)) hx hb hr (fun tq ht hW => ⟨⟨(-4), (uS [few, (fun _ => doo)] 0 (fun _ => 0)), rfl, ⟨(show spDorC few doo x y ((-4) : Int32) few doo from by (try rw [show ((-4) : Int32).toInt = (-4) from (show ((-4) : Int32).toInt = (-4) from rfl)]); (first | exact Or.inl ⟨by omega, rfl, rfl, rfl⟩ | exact Or.inr ⟨by omega, Or.inl ⟨by omega, rfl, rfl, rfl⟩⟩ | exact Or.inr ⟨by omega, Or.inr ⟨by omega, Or.inl ⟨by omega, rfl, rfl, rfl⟩⟩⟩ | exact Or.inr ⟨by omega, Or.inr ⟨by omega, Or.inr ⟨by omega, by assumption, by assumption, by assumption⟩⟩⟩)), (show mtOK few from by (try rw [show ((-4) : Int32).toInt = (-4) from (show ((-4) : Int32).toInt = (-4) from rfl)]); (first | exact q0 | assumption))⟩, by rw [ht]; exact hP, hD⟩, hS.F ht⟩) hS.2.2 dX9_door_36
        · refine lv_if_eq (tgt := 37) hx hb dX9_door_31 (by decide) (fun _ => ?_) (fun c9 => absurd (by decide) c9)
          refine lv_aload_n hx hb dX9_door_37 rfl (lv_at hl 0 rfl) ?_
          refine va_get (D := (dC, dI)) (ci := 9) (v := .ref (a 0)) (C := RX9) (T := TX9) (N := 11) hx hb hts inX9 hown hK hP 0 rfl rfl 0 (by decide) lf12 (fun _ h9 => h9) rfl dX9_door_38 ?_
          refine va_getN (D := (dC, dI)) (ci := 8) (v := .int doo) (C := RX8) (T := TX8) (N := 2) hx hb hts inX8 hown hK hP 1 rfl rfl 1 (by decide) lf91 (fun _ h9 => h9) rfl dX9_door_41 ?_
          refine lv_bipush (v := 14) hx hb dX9_door_44 (by decide) ?_
          refine lv_icmp_lt (tgt := 52) hx hb dX9_door_46 (by decide) (fun c8 => ?_) (fun c8 => ?_)
          · have dc8 : doo.toInt < 14 := ltC rfl (show (14 : Int32).toInt = 14 from rfl) c8
            refine lv_aload_n hx hb dX9_door_52 rfl (lv_at hl 0 rfl) ?_
            refine va_get (D := (dC, dI)) (ci := 9) (v := .ref (a 0)) (C := RX9) (T := TX9) (N := 11) hx hb hts inX9 hown hK hP 0 rfl rfl 0 (by decide) lf12 (fun _ h9 => h9) rfl dX9_door_53 ?_
            refine lv_iload_n hx hb dX9_door_56 rfl (lv_at hl 1 rfl) ?_
            refine lv_iload_n hx hb dX9_door_57 rfl (lv_at hl 2 rfl) ?_
            refine wvV (As := [.int x, .int y]) (rest := []) (wr := [((a 43), .inr (9, [.ref (a 0), .ref (a 2), .ref (a 4), .ref (a 14), .ref (a 16), .ref (a 23), .ref (a 28), .ref (a 33), .ref (a 42), .ref rb0, .ref db0]))]) (w2 := (fun u : US => (wsW cI cZ cQ a rb0 rb1 rb2 db0 db1 db2 (u.1 0) (u.1 1 0)))) ⟨hx, hb, hml, hown, hts⟩ (k_X8_join2 l dC dI cI cZ cQ a few doo _ x y (by omega) (by omega) (by omega) (by omega) (by exact q0) (by omega)) (cwV 2 hts gX9_door_X8_join rfl rfl rfl (by decide +kernel) ⟨Nat.le_of_ble_eq_true rfl, Nat.le_of_ble_eq_true rfl⟩) hP hD hS hA hK hN [1, 2] [0] [0, 1, 2] rfl rfl (by decide) (by decide) (by decide) (fun _ => rfl) (by decide) 1 8 rfl rfl rfl hl.1 rfl (Nat.le_of_ble_eq_true rfl) dX9_door_58 ⟨Nat.le_of_ble_eq_true rfl, Nat.le_of_ble_eq_true rfl⟩ (fun u11 H locs h10 hP hD hS => ?_)
            obtain ⟨few_c12, efew_c12⟩ : ∃ f : Nat → Int32, f = (u11.1 0) := ⟨_, rfl⟩
            obtain ⟨doo_c13, edoo_c13⟩ : ∃ f : Int32, f = (u11.1 1 0) := ⟨_, rfl⟩
            have hP : va_P (dC, dI) vwCl (wsW cI cZ cQ a rb0 rb1 rb2 db0 db1 db2 few_c12 doo_c13) H := by rw [efew_c12, edoo_c13]; exact hP
            have hD : va_D A (wsW cI cZ cQ a rb0 rb1 rb2 db0 db1 db2 few_c12 doo_c13) := by rw [efew_c12, edoo_c13]; exact hD
            have h10 : (doo_c13 = doo + 1) ∧ (jnS few x y few_c12) ∧ (mtOK few_c12) := by (try rw [efew_c12]); (try rw [edoo_c13]); exact h10
            obtain ⟨h10_0, h10_1, h10_2⟩ := h10
            refine lv_aload_n hx hb dX9_door_61 rfl (lv_at hl 0 rfl) ?_
            refine va_get (D := (dC, dI)) (ci := 9) (v := .ref (a 0)) (C := RX9) (T := TX9) (N := 11) hx hb hts inX9 hown hK hP 0 rfl rfl 0 (by decide) lf12 (fun _ h9 => h9) rfl dX9_door_62 ?_
            refine va_getN (D := (dC, dI)) (ci := 8) (v := .int doo_c13) (C := RX8) (T := TX8) (N := 2) hx hb hts inX8 hown hK hP 1 rfl rfl 1 (by decide) lf91 (fun _ h9 => h9) rfl dX9_door_65 ?_
            exact W.iret (v := doo_c13) hx hb hr (fun tq ht hW => ⟨⟨doo_c13, (uS [few_c12, (fun _ => doo_c13)] 0 (fun _ => 0)), rfl, ⟨(show spDorC few doo x y doo_c13 few_c12 doo_c13 from by (first | exact Or.inl ⟨by omega, rfl, rfl, rfl⟩ | exact Or.inr ⟨by omega, Or.inl ⟨by omega, rfl, rfl, rfl⟩⟩ | exact Or.inr ⟨by omega, Or.inr ⟨by omega, Or.inl ⟨by omega, rfl, rfl, rfl⟩⟩⟩ | exact Or.inr ⟨by omega, Or.inr ⟨by omega, Or.inr ⟨by omega, by assumption, by assumption, by assumption⟩⟩⟩)), (show mtOK few_c12 from by (first | exact q0 | assumption))⟩, by rw [ht]; exact hP, hD⟩, hS.F ht⟩) hS.2.2 dX9_door_68
          · have dc8 : 14 ≤ doo.toInt := nltC rfl (show (14 : Int32).toInt = 14 from rfl) c8
            refine lv_bipush (v := (-5)) hx hb dX9_door_49 (by decide) ?_
            exact W.iret (v := (-5)) hx hb hr (fun tq ht hW => ⟨⟨(-5), (uS [few, (fun _ => doo)] 0 (fun _ => 0)), rfl, ⟨(show spDorC few doo x y ((-5) : Int32) few doo from by (try rw [show ((-5) : Int32).toInt = (-5) from (show ((-5) : Int32).toInt = (-5) from rfl)]); (first | exact Or.inl ⟨by omega, rfl, rfl, rfl⟩ | exact Or.inr ⟨by omega, Or.inl ⟨by omega, rfl, rfl, rfl⟩⟩ | exact Or.inr ⟨by omega, Or.inr ⟨by omega, Or.inl ⟨by omega, rfl, rfl, rfl⟩⟩⟩ | exact Or.inr ⟨by omega, Or.inr ⟨by omega, Or.inr ⟨by omega, by assumption, by assumption, by assumption⟩⟩⟩)), (show mtOK few from by (try rw [show ((-5) : Int32).toInt = (-5) from (show ((-5) : Int32).toInt = (-5) from rfl)]); (first | exact q0 | assumption))⟩, by rw [ht]; exact hP, hD⟩, hS.F ht⟩) hS.2.2 dX9_door_51
      · have dc5 : x.toInt = y.toInt := eqC rfl rfl c5
        refine lv_bipush (v := (-2)) hx hb dX9_door_19 (by decide) ?_
        exact W.iret (v := (-2)) hx hb hr (fun tq ht hW => ⟨⟨(-2), (uS [few, (fun _ => doo)] 0 (fun _ => 0)), rfl, ⟨(show spDorC few doo x y ((-2) : Int32) few doo from by (try rw [show ((-2) : Int32).toInt = (-2) from (show ((-2) : Int32).toInt = (-2) from rfl)]); (first | exact Or.inl ⟨by omega, rfl, rfl, rfl⟩ | exact Or.inr ⟨by omega, Or.inl ⟨by omega, rfl, rfl, rfl⟩⟩ | exact Or.inr ⟨by omega, Or.inr ⟨by omega, Or.inl ⟨by omega, rfl, rfl, rfl⟩⟩⟩ | exact Or.inr ⟨by omega, Or.inr ⟨by omega, Or.inr ⟨by omega, by assumption, by assumption, by assumption⟩⟩⟩)), (show mtOK few from by (try rw [show ((-2) : Int32).toInt = (-2) from (show ((-2) : Int32).toInt = (-2) from rfl)]); (first | exact q0 | assumption))⟩, by rw [ht]; exact hP, hD⟩, hS.F ht⟩) hS.2.2 dX9_door_21
    · refine lv_if_eq (tgt := 19) hx hb dX9_door_11 (by decide) (fun _ => ?_) (fun c9 => absurd (by decide) c9)
      refine lv_bipush (v := (-2)) hx hb dX9_door_19 (by decide) ?_
      exact W.iret (v := (-2)) hx hb hr (fun tq ht hW => ⟨⟨(-2), (uS [few, (fun _ => doo)] 0 (fun _ => 0)), rfl, ⟨(show spDorC few doo x y ((-2) : Int32) few doo from by (try rw [show ((-2) : Int32).toInt = (-2) from (show ((-2) : Int32).toInt = (-2) from rfl)]); (first | exact Or.inl ⟨by omega, rfl, rfl, rfl⟩ | exact Or.inr ⟨by omega, Or.inl ⟨by omega, rfl, rfl, rfl⟩⟩ | exact Or.inr ⟨by omega, Or.inr ⟨by omega, Or.inl ⟨by omega, rfl, rfl, rfl⟩⟩⟩ | exact Or.inr ⟨by omega, Or.inr ⟨by omega, Or.inr ⟨by omega, by assumption, by assumption, by assumption⟩⟩⟩)), (show mtOK few from by (try rw [show ((-2) : Int32).toInt = (-2) from (show ((-2) : Int32).toInt = (-2) from rfl)]); (first | exact q0 | assumption))⟩, by rw [ht]; exact hP, hD⟩, hS.F ht⟩) hS.2.2 dX9_door_21
  · refine lv_if_eq (tgt := 19) hx hb dX9_door_4 (by decide) (fun _ => ?_) (fun c9 => absurd (by decide) c9)
    refine lv_bipush (v := (-2)) hx hb dX9_door_19 (by decide) ?_
    exact W.iret (v := (-2)) hx hb hr (fun tq ht hW => ⟨⟨(-2), (uS [few, (fun _ => doo)] 0 (fun _ => 0)), rfl, ⟨(show spDorC few doo x y ((-2) : Int32) few doo from by (try rw [show ((-2) : Int32).toInt = (-2) from (show ((-2) : Int32).toInt = (-2) from rfl)]); (first | exact Or.inl ⟨by omega, rfl, rfl, rfl⟩ | exact Or.inr ⟨by omega, Or.inl ⟨by omega, rfl, rfl, rfl⟩⟩ | exact Or.inr ⟨by omega, Or.inr ⟨by omega, Or.inl ⟨by omega, rfl, rfl, rfl⟩⟩⟩ | exact Or.inr ⟨by omega, Or.inr ⟨by omega, Or.inr ⟨by omega, by assumption, by assumption, by assumption⟩⟩⟩)), (show mtOK few from by (try rw [show ((-2) : Int32).toInt = (-2) from (show ((-2) : Int32).toInt = (-2) from rfl)]); (first | exact q0 | assumption))⟩, by rw [ht]; exact hP, hD⟩, hS.F ht⟩) hS.2.2 dX9_door_21
set_option maxHeartbeats 4000000 in
set_option maxRecDepth 100000 in
theorem k_X9_away2 (l : Launch) (dC : Nat → ClassId) (dI : Nat → Nat → Nat) (cI cZ cQ : ClassId) (a : Nat → Nat) (rb0 : Nat) (rb1 : Nat) (rb2 : Nat) (db0 : Nat) (db1 : Nat) (db2 : Nat) (few : Nat → Int32) (doo : Int32) (x : Int32) (y : Int32)  : KR l yX9_away wsX9_away { frames := 2, cells := 0, slots := 0, locals := 42 } (dC, dI) (TY cI cZ cQ) (wsW cI cZ cQ a rb0 rb1 rb2 db0 db1 db2 few doo) [.ref (a 43), .int x, .int y] (fun r : Int32 => (spAwyC few x y r)) := by
  refine Met.ofW (cc := cX9_away) (maxL := 3) (ret := (some .int)) (by decide) rfl ?_
  intro p e s m args below meth c s₁ B hml hv
  obtain ⟨rfl, hP, hK, hN⟩ := hv
  have hx := B.exec
  have hb := B.bytes
  have hr := B.returns
  have hts := atoms_spec (ws := wsX9_away) B.pre
  have hown : s.vm.findClass RX9 = some m.cls := findClass_of_methodNamed B.named
  have hlocks := B.notSynchronized
  have lf12 := hts (.fieldLink RX9 12 "PalaceOfRooms" "ways" "LPalaceOfRooms$Ways;") (by decide +kernel)
  have inX9 : ∀ w ∈ wsX90, w ∈ wsX9_away := by decide +kernel
  have hl := lv_entry ([.ref (a 43), .int x, .int y]) (n := 3) (Nat.le_of_ble_eq_true rfl)
  rw [lg_entry_eq]
  generalize (lg_sl ([.ref (a 43), .int x, .int y]) ++ List.replicate (3 - (lg_sl ([.ref (a 43), .int x, .int y])).length) Slot.unset).toArray = ls at hl ⊢
  have hl : lv_has ls 3 [(0, .ref (a 43)), (1, .int x), (2, .int y)] := hl
  refine lv_iload_n hx hb dX9_away_0 rfl (lv_at hl 1 rfl) ?_
  refine rdS (As := [.int x]) (rest := []) ⟨hx, hb, hml, hown, hts⟩ (k_X9_isRoom l dC dI cI cZ cQ x) (va_cwS 1 hts gX9_away_X9_isRoom rfl rfl rfl (by decide +kernel) ⟨Nat.le_of_ble_eq_true rfl, Nat.le_of_ble_eq_true rfl⟩) hP hK hN [] rfl rfl hl.1 rfl (Nat.le_of_ble_eq_true rfl) dX9_away_1 ⟨Nat.le_of_ble_eq_true rfl, Nat.le_of_ble_eq_true rfl⟩ (fun r1 h2 => ?_)
  have h2 : ((((r1 = 1) ∧ (0 ≤ x.toInt) ∧ (x.toInt ≤ 7)) ∨ ((r1 = 0) ∧ (x.toInt < 0 ∨ 7 < x.toInt)))) := h2
  rcases h2 with (⟨rfl, h2_a0, h2_a1⟩ | ⟨rfl, h2_a0⟩)
  · refine lv_if_eq (tgt := 14) hx hb dX9_away_4 (by decide) (fun c9 => absurd c9 (by decide)) (fun _ => ?_)
    refine lv_iload_n hx hb dX9_away_7 rfl (lv_at hl 2 rfl) ?_
    refine rdS (As := [.int y]) (rest := []) ⟨hx, hb, hml, hown, hts⟩ (k_X9_isRoom l dC dI cI cZ cQ y) (va_cwS 1 hts gX9_away_X9_isRoom rfl rfl rfl (by decide +kernel) ⟨Nat.le_of_ble_eq_true rfl, Nat.le_of_ble_eq_true rfl⟩) hP hK hN [] rfl rfl hl.1 rfl (Nat.le_of_ble_eq_true rfl) dX9_away_8 ⟨Nat.le_of_ble_eq_true rfl, Nat.le_of_ble_eq_true rfl⟩ (fun r3 h4 => ?_)
    have h4 : ((((r3 = 1) ∧ (0 ≤ y.toInt) ∧ (y.toInt ≤ 7)) ∨ ((r3 = 0) ∧ (y.toInt < 0 ∨ 7 < y.toInt)))) := h4
    rcases h4 with (⟨rfl, h4_a0, h4_a1⟩ | ⟨rfl, h4_a0⟩)
    · refine lv_if_ne (tgt := 17) hx hb dX9_away_11 (by decide) (fun _ => ?_) (fun c9 => absurd c9 (by decide))
      refine lv_aload_n hx hb dX9_away_17 rfl (lv_at hl 0 rfl) ?_
      refine va_get (D := (dC, dI)) (ci := 9) (v := .ref (a 0)) (C := RX9) (T := TX9) (N := 11) hx hb hts inX9 hown hK hP 0 rfl rfl 0 (by decide) lf12 (fun _ h9 => h9) rfl dX9_away_18 ?_
      refine lv_iload_n hx hb dX9_away_21 rfl (lv_at hl 1 rfl) ?_
      refine lv_iload_n hx hb dX9_away_22 rfl (lv_at hl 2 rfl) ?_
      refine rdV (As := [.int x, .int y]) (rest := []) ⟨hx, hb, hml, hown, hts⟩ (k_X8_between2 l dC dI cI cZ cQ a few doo x y (by omega) (by omega) (by omega) (by omega)) (cwV 2 hts gX9_away_X8_between rfl rfl rfl (by decide +kernel) ⟨Nat.le_of_ble_eq_true rfl, Nat.le_of_ble_eq_true rfl⟩) hP hK hN [1, 2] rfl 1 8 rfl rfl rfl hl.1 rfl (Nat.le_of_ble_eq_true rfl) dX9_away_23 ⟨Nat.le_of_ble_eq_true rfl, Nat.le_of_ble_eq_true rfl⟩ (fun r5 h6 => ?_)
      have h6 : (r5 = few (x.toInt * 8 + y.toInt).toNat) ∧ (r5.toInt = (few (x.toInt * 8 + y.toInt).toNat).toInt) := h6
      obtain ⟨h6_0, h6_1⟩ := h6
      exact W.iret (v := r5) hx hb hr (fun tq ht hW => ⟨r5, rfl, (show spAwyC few x y r5 from by (first | exact Or.inl ⟨by omega, rfl⟩ | exact Or.inr ⟨by omega, by assumption⟩)), ht⟩) (fun q h => by cases h) dX9_away_26
    · refine lv_if_ne (tgt := 17) hx hb dX9_away_11 (by decide) (fun c9 => absurd (by decide) c9) (fun _ => ?_)
      refine lv_bipush (v := (-2)) hx hb dX9_away_14 (by decide) ?_
      exact W.iret (v := (-2)) hx hb hr (fun tq ht hW => ⟨(-2), rfl, (show spAwyC few x y ((-2) : Int32) from by (try rw [show ((-2) : Int32).toInt = (-2) from (show ((-2) : Int32).toInt = (-2) from rfl)]); (first | exact Or.inl ⟨by omega, rfl⟩ | exact Or.inr ⟨by omega, by assumption⟩)), ht⟩) (fun q h => by cases h) dX9_away_16
  · refine lv_if_eq (tgt := 14) hx hb dX9_away_4 (by decide) (fun _ => ?_) (fun c9 => absurd (by decide) c9)
    refine lv_bipush (v := (-2)) hx hb dX9_away_14 (by decide) ?_
    exact W.iret (v := (-2)) hx hb hr (fun tq ht hW => ⟨(-2), rfl, (show spAwyC few x y ((-2) : Int32) from by (try rw [show ((-2) : Int32).toInt = (-2) from (show ((-2) : Int32).toInt = (-2) from rfl)]); (first | exact Or.inl ⟨by omega, rfl⟩ | exact Or.inr ⟨by omega, by assumption⟩)), ht⟩) (fun q h => by cases h) dX9_away_16
