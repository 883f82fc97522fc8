def aF (a0 a1 a2 a3 : Int32) : Nat → Int32 := fun j => ([a0, a1, a2, a3] : List Int32).getD j 0
theorem aF_u0 {a0 a1 a2 a3 z : Int32} (h : z = a0 + 1) : aF z a1 a2 a3 = upd (aF a0 a1 a2 a3) (0 : Int32).toNatClampNeg (aF a0 a1 a2 a3 (0 : Int32).toNatClampNeg + 1) := by
  subst h
  funext j
  rw [show (0 : Int32).toNatClampNeg = 0 from rfl]
  by_cases e : j = 0
  · subst e; rw [pk_us]; rfl
  · rw [pk_un e]
    match j, e with
    | 0, e => exact absurd rfl e
    | 1, e => rfl
    | 2, e => rfl
    | 3, e => rfl
    | k + 4, _ => rfl
theorem aF_u1 {a0 a1 a2 a3 z : Int32} (h : z = a1 + 1) : aF a0 z a2 a3 = upd (aF a0 a1 a2 a3) (1 : Int32).toNatClampNeg (aF a0 a1 a2 a3 (1 : Int32).toNatClampNeg + 1) := by
  subst h
  funext j
  rw [show (1 : Int32).toNatClampNeg = 1 from rfl]
  by_cases e : j = 1
  · subst e; rw [pk_us]; rfl
  · rw [pk_un e]
    match j, e with
    | 0, e => rfl
    | 1, e => exact absurd rfl e
    | 2, e => rfl
    | 3, e => rfl
    | k + 4, _ => rfl
theorem aF_u2 {a0 a1 a2 a3 z : Int32} (h : z = a2 + 1) : aF a0 a1 z a3 = upd (aF a0 a1 a2 a3) (2 : Int32).toNatClampNeg (aF a0 a1 a2 a3 (2 : Int32).toNatClampNeg + 1) := by
  subst h
  funext j
  rw [show (2 : Int32).toNatClampNeg = 2 from rfl]
  by_cases e : j = 2
  · subst e; rw [pk_us]; rfl
  · rw [pk_un e]
    match j, e with
    | 0, e => rfl
    | 1, e => rfl
    | 2, e => exact absurd rfl e
    | 3, e => rfl
    | k + 4, _ => rfl
theorem aF_u3 {a0 a1 a2 a3 z : Int32} (h : z = a3 + 1) : aF a0 a1 a2 z = upd (aF a0 a1 a2 a3) (3 : Int32).toNatClampNeg (aF a0 a1 a2 a3 (3 : Int32).toNatClampNeg + 1) := by
  subst h
  funext j
  rw [show (3 : Int32).toNatClampNeg = 3 from rfl]
  by_cases e : j = 3
  · subst e; rw [pk_us]; rfl
  · rw [pk_un e]
    match j, e with
    | 0, e => rfl
    | 1, e => rfl
    | 2, e => rfl
    | 3, e => exact absurd rfl e
    | k + 4, _ => rfl
set_option maxHeartbeats 4000000 in
set_option maxRecDepth 100000 in
theorem k_X9_figures (l : Launch) (dC : Nat → ClassId) (dI : Nat → Nat → Nat) (cI cZ cQ : ClassId) (a : Nat → Nat) (rb0 : Nat) (rb1 : Nat) (rb2 : Nat) (db0 : Nat) (db1 : Nat) (db2 : Nat) (ali : Nat → Int32) (thi : Nat → Int32) (ctr : Nat → Int32) (cbe : Nat → Int32) (har : Int32) (mar : Nat → Int32) (tol : Nat → Int32) (sz : Nat) (x : Int32) (y : Int32) (v : Int32) (r_thi : rg 8 (0) (23) thi) (r_ctr : rg 6 (0) (23) ctr) (r_mar : rg 24 (0) (255) mar) (r_tol : rg 8 (0) (23) tol) : KW l yX9_figures wsX9_figures { frames := 2, cells := 0, slots := 0, locals := 42 } (dC, dI) (TY cI cZ cQ) (wsCd cI cZ cQ a rb0 rb1 rb2 db0 db1 db2 ali thi ctr cbe har mar tol) [.ref (a 43), .int x, .int y, .int v] sz 0 0 (fun (r : Int32) (u : US) => (spFig ali x y v r (u.1 0))) (fun u : US => (wsCd cI cZ cQ a rb0 rb1 rb2 db0 db1 db2 (u.1 0) thi ctr cbe har mar tol)) := by
  refine Met.ofW (cc := cX9_figures) (maxL := 4) (ret := (some .int)) (by decide) rfl ?_
  intro p e s m args below meth c s₁ B hml hv
  obtain ⟨rfl, hsz, hP, hK, hD0, hN⟩ := hv
  have hx := B.exec
  have hb := B.bytes
  have hr := B.returns
  have hts := atoms_spec (ws := wsX9_figures) B.pre
  have hown : s.vm.findClass RX9 = some m.cls := findClass_of_methodNamed B.named
  have hlocks := B.notSynchronized
  have lf58 := hts (.fieldLink RX9 58 "PalaceOfRooms" "codes" "LPalaceOfRooms$Codes;") (List.mem_cons_of_mem _ (List.mem_append_left _ (List.mem_append_left _ (List.mem_of_getElem? (i := 0) rfl))))
  have inX9 : ∀ w ∈ wsX90, w ∈ wsX9_figures := fun w h => List.mem_cons_of_mem _ (List.mem_append_left _ (List.mem_append_right _ h))
  subst hsz
  have hD := hD0.self (sz := s.heap.size)
  generalize hAe : va_A (wsCd cI cZ cQ a rb0 rb1 rb2 db0 db1 db2 ali thi ctr cbe har mar tol) s.heap.size = A at hD ⊢
  have hA : ∀ q : Nat, s.heap.size ≤ q → A q := fun q h => by rw [← hAe]; exact Or.inr h
  have hS : va_S A s.heap s.heap [] := va_S.rf
  have hl := lv_entry ([.ref (a 43), .int x, .int y, .int v]) (n := 4) (Nat.le_of_ble_eq_true rfl)
  rw [lg_entry_eq]
  generalize (lg_sl ([.ref (a 43), .int x, .int y, .int v]) ++ List.replicate (4 - (lg_sl ([.ref (a 43), .int x, .int y, .int v])).length) Slot.unset).toArray = ls at hl ⊢
  have hl : lv_has ls 4 [(0, .ref (a 43)), (1, .int x), (2, .int y), (3, .int v)] := hl
  refine lv_iload_n hx hb dX9_figures_0 rfl (lv_at hl 1 rfl) ?_
  refine rdS (As := [.int x]) (rest := []) ⟨hx, hb, hml, hown, hts⟩ (k_X9_isFigure l dC dI cI cZ cQ x) (va_cwS 1 hts gX9_figures_X9_isFigure rfl rfl rfl (by decide +kernel) ⟨Nat.le_of_ble_eq_true rfl, Nat.le_of_ble_eq_true rfl⟩) hP hK hN [] rfl rfl hl.1 rfl (Nat.le_of_ble_eq_true rfl) dX9_figures_1 ⟨Nat.le_of_ble_eq_true rfl, Nat.le_of_ble_eq_true rfl⟩ (fun r1 h2 => ?_)
  have h2 : ((((r1 = 1) ∧ (0 ≤ x.toInt) ∧ (x.toInt ≤ 9)) ∨ ((r1 = 0) ∧ (x.toInt < 0 ∨ 9 < x.toInt)))) := h2
  rcases h2 with (⟨rfl, h2_a0, h2_a1⟩ | ⟨rfl, h2_a0⟩)
  · refine lv_if_eq (tgt := 19) hx hb dX9_figures_4 (by decide) (fun c9 => absurd c9 (by decide)) (fun _ => ?_)
    refine lv_iload_n hx hb dX9_figures_7 rfl (lv_at hl 2 rfl) ?_
    refine rdS (As := [.int y]) (rest := []) ⟨hx, hb, hml, hown, hts⟩ (k_X9_isFigure l dC dI cI cZ cQ y) (va_cwS 1 hts gX9_figures_X9_isFigure rfl rfl rfl (by decide +kernel) ⟨Nat.le_of_ble_eq_true rfl, Nat.le_of_ble_eq_true rfl⟩) hP hK hN [] rfl rfl hl.1 rfl (Nat.le_of_ble_eq_true rfl) dX9_figures_8 ⟨Nat.le_of_ble_eq_true rfl, Nat.le_of_ble_eq_true rfl⟩ (fun r3 h4 => ?_)
    have h4 : ((((r3 = 1) ∧ (0 ≤ y.toInt) ∧ (y.toInt ≤ 9)) ∨ ((r3 = 0) ∧ (y.toInt < 0 ∨ 9 < y.toInt)))) := h4
    rcases h4 with (⟨rfl, h4_a0, h4_a1⟩ | ⟨rfl, h4_a0⟩)
    · refine lv_if_eq (tgt := 19) hx hb dX9_figures_11 (by decide) (fun c9 => absurd c9 (by decide)) (fun _ => ?_)
      refine lv_iload_n hx hb dX9_figures_14 rfl (lv_at hl 1 rfl) ?_
      refine lv_iload_n hx hb dX9_figures_15 rfl (lv_at hl 2 rfl) ?_
      refine lv_icmp_ne (tgt := 22) hx hb dX9_figures_16 (by decide) (fun c5 => ?_) (fun c5 => ?_)
      · have dc5 : x.toInt ≠ y.toInt := neC rfl rfl c5
        refine lv_iload_n hx hb dX9_figures_22 rfl (lv_at hl 3 rfl) ?_
        refine lv_iconst (v := 0) hx hb dX9_figures_23 (by decide) ?_
        refine lv_bipush (v := 9) hx hb dX9_figures_24 (by decide) ?_
        refine rdS (As := [.int v, .int 0, .int 9]) (rest := []) ⟨hx, hb, hml, hown, hts⟩ (k_X9_within l dC dI cI cZ cQ v (0 : Int32) (9 : Int32)) (va_cwS 3 hts gX9_figures_X9_within rfl rfl rfl (by decide +kernel) ⟨Nat.le_of_ble_eq_true rfl, Nat.le_of_ble_eq_true rfl⟩) hP hK hN [] rfl rfl hl.1 rfl (Nat.le_of_ble_eq_true rfl) dX9_figures_26 ⟨Nat.le_of_ble_eq_true rfl, Nat.le_of_ble_eq_true rfl⟩ (fun r6 h7 => ?_)
        have h7 : ((((r6 = 1) ∧ ((0) ≤ v.toInt) ∧ (v.toInt ≤ (9))) ∨ ((r6 = 0) ∧ (v.toInt < (0) ∨ (9) < v.toInt)))) := h7
        rcases h7 with (⟨rfl, h7_a0, h7_a1⟩ | ⟨rfl, h7_a0⟩)
        · refine lv_if_ne (tgt := 35) hx hb dX9_figures_29 (by decide) (fun _ => ?_) (fun c9 => absurd c9 (by decide))
          refine lv_aload_n hx hb dX9_figures_35 rfl (lv_at hl 0 rfl) ?_
          refine va_get (D := (dC, dI)) (ci := 9) (v := .ref (a 28)) (C := RX9) (T := TX9) (N := 11) hx hb hts inX9 hown hK hP 0 rfl rfl 6 (by decide) lf58 (fun _ h9 => h9) rfl dX9_figures_36 ?_
          refine lv_iload_n hx hb dX9_figures_39 rfl (lv_at hl 1 rfl) ?_
          refine lv_iload_n hx hb dX9_figures_40 rfl (lv_at hl 2 rfl) ?_
          refine lv_iload_n hx hb dX9_figures_41 rfl (lv_at hl 3 rfl) ?_
          refine wrV (As := [.int x, .int y, .int v]) (rest := []) (wr := [((a 43), .inr (9, [.ref (a 0), .ref (a 2), .ref (a 4), .ref (a 14), .ref (a 16), .ref (a 23), .ref (a 28), .ref (a 33), .ref (a 42), .ref rb0, .ref db0]))]) (w2 := (fun u : US => (wsCd cI cZ cQ a rb0 rb1 rb2 db0 db1 db2 (u.1 0) thi ctr cbe har mar tol))) ⟨hx, hb, hml, hown, hts⟩ (k_X0_exchangeAlike l dC dI cI cZ cQ a ali thi ctr cbe har mar tol _ x y v r_thi r_ctr r_mar r_tol (by omega) (by omega) (by omega) (by omega)) (cwV 3 hts gX9_figures_X0_exchangeAlike rfl rfl rfl (by decide +kernel) ⟨Nat.le_of_ble_eq_true rfl, Nat.le_of_ble_eq_true rfl⟩) hP hD hS hA hK hN [1, 2, 3, 4, 5, 6, 7, 8] [0] [0, 1, 2, 3, 4, 5, 6, 7, 8] rfl rfl (by decide) (by decide) (by decide) (fun _ => rfl) (by decide) 1 0 rfl rfl rfl hl.1 rfl (Nat.le_of_ble_eq_true rfl) dX9_figures_42 ⟨Nat.le_of_ble_eq_true rfl, Nat.le_of_ble_eq_true rfl⟩ (fun r8 u10 H locs h9 hP hD hS => ?_)
          obtain ⟨ali_c11, eali_c11⟩ : ∃ f : Nat → Int32, f = (u10.1 0) := ⟨_, rfl⟩
          have hP : va_P (dC, dI) vwCl (wsCd cI cZ cQ a rb0 rb1 rb2 db0 db1 db2 ali_c11 thi ctr cbe har mar tol) H := by rw [eali_c11]; exact hP
          have hD : va_D A (wsCd cI cZ cQ a rb0 rb1 rb2 db0 db1 db2 ali_c11 thi ctr cbe har mar tol) := by rw [eali_c11]; exact hD
          have h9 : (r8 = ali (x.toInt * 10 + y.toInt).toNat) ∧ (ali_c11 = upd (upd ali (x.toInt * 10 + y.toInt).toNat v) (y.toInt * 10 + x.toInt).toNat v) := by (try rw [eali_c11]); exact h9
          obtain ⟨h9_0, h9_1⟩ := h9
          exact W.iret (v := r8) hx hb hr (fun tq ht hW => ⟨⟨r8, (uS [ali_c11] 0 (fun _ => 0)), rfl, (show spFig ali x y v r8 ali_c11 from by (unfold spFig; first | exact Or.inl ⟨by omega, rfl, rfl⟩ | exact Or.inr (Or.inl ⟨by omega, by omega, by omega, by omega, rfl, rfl⟩) | exact Or.inr (Or.inr ⟨by omega, by omega, by omega, by omega, by assumption, by assumption⟩))), by rw [ht]; exact hP, hD⟩, hS.F ht⟩) hS.2.2 dX9_figures_45
        · refine lv_if_ne (tgt := 35) hx hb dX9_figures_29 (by decide) (fun c9 => absurd (by decide) c9) (fun _ => ?_)
          refine lv_bipush (v := (-3)) hx hb dX9_figures_32 (by decide) ?_
          exact W.iret (v := (-3)) hx hb hr (fun tq ht hW => ⟨⟨(-3), (uS [ali] 0 (fun _ => 0)), rfl, (show spFig ali x y v ((-3) : Int32) ali from by (try rw [show ((-3) : Int32).toInt = (-3) from (show ((-3) : Int32).toInt = (-3) from rfl)]); (unfold spFig; first | exact Or.inl ⟨by omega, rfl, rfl⟩ | exact Or.inr (Or.inl ⟨by omega, by omega, by omega, by omega, rfl, rfl⟩) | exact Or.inr (Or.inr ⟨by omega, by omega, by omega, by omega, by assumption, by assumption⟩))), by rw [ht]; exact hP, hD⟩, hS.F ht⟩) hS.2.2 dX9_figures_34
      · have dc5 : x.toInt = y.toInt := eqC rfl rfl c5
        refine lv_bipush (v := (-2)) hx hb dX9_figures_19 (by decide) ?_
        exact W.iret (v := (-2)) hx hb hr (fun tq ht hW => ⟨⟨(-2), (uS [ali] 0 (fun _ => 0)), rfl, (show spFig ali x y v ((-2) : Int32) ali from by (try rw [show ((-2) : Int32).toInt = (-2) from (show ((-2) : Int32).toInt = (-2) from rfl)]); (unfold spFig; first | exact Or.inl ⟨by omega, rfl, rfl⟩ | exact Or.inr (Or.inl ⟨by omega, by omega, by omega, by omega, rfl, rfl⟩) | exact Or.inr (Or.inr ⟨by omega, by omega, by omega, by omega, by assumption, by assumption⟩))), by rw [ht]; exact hP, hD⟩, hS.F ht⟩) hS.2.2 dX9_figures_21
    · refine lv_if_eq (tgt := 19) hx hb dX9_figures_11 (by decide) (fun _ => ?_) (fun c9 => absurd (by decide) c9)
      refine lv_bipush (v := (-2)) hx hb dX9_figures_19 (by decide) ?_
      exact W.iret (v := (-2)) hx hb hr (fun tq ht hW => ⟨⟨(-2), (uS [ali] 0 (fun _ => 0)), rfl, (show spFig ali x y v ((-2) : Int32) ali from by (try rw [show ((-2) : Int32).toInt = (-2) from (show ((-2) : Int32).toInt = (-2) from rfl)]); (unfold spFig; first | exact Or.inl ⟨by omega, rfl, rfl⟩ | exact Or.inr (Or.inl ⟨by omega, by omega, by omega, by omega, rfl, rfl⟩) | exact Or.inr (Or.inr ⟨by omega, by omega, by omega, by omega, by assumption, by assumption⟩))), by rw [ht]; exact hP, hD⟩, hS.F ht⟩) hS.2.2 dX9_figures_21
  · refine lv_if_eq (tgt := 19) hx hb dX9_figures_4 (by decide) (fun _ => ?_) (fun c9 => absurd (by decide) c9)
    refine lv_bipush (v := (-2)) hx hb dX9_figures_19 (by decide) ?_
    exact W.iret (v := (-2)) hx hb hr (fun tq ht hW => ⟨⟨(-2), (uS [ali] 0 (fun _ => 0)), rfl, (show spFig ali x y v ((-2) : Int32) ali from by (try rw [show ((-2) : Int32).toInt = (-2) from (show ((-2) : Int32).toInt = (-2) from rfl)]); (unfold spFig; first | exact Or.inl ⟨by omega, rfl, rfl⟩ | exact Or.inr (Or.inl ⟨by omega, by omega, by omega, by omega, rfl, rfl⟩) | exact Or.inr (Or.inr ⟨by omega, by omega, by omega, by omega, by assumption, by assumption⟩))), by rw [ht]; exact hP, hD⟩, hS.F ht⟩) hS.2.2 dX9_figures_21
set_option maxHeartbeats 4000000 in
set_option maxRecDepth 100000 in
theorem k_X9_code (l : Launch) (dC : Nat → ClassId) (dI : Nat → Nat → Nat) (cI cZ cQ : ClassId) (a : Nat → Nat) (rb0 : Nat) (rb1 : Nat) (rb2 : Nat) (db0 : Nat) (db1 : Nat) (db2 : Nat) (ali : Nat → Int32) (thi : Nat → Int32) (ctr : Nat → Int32) (cbe : Nat → Int32) (har : Int32) (mar : Nat → Int32) (tol : Nat → Int32) (sz : Nat) (row : Int64) (n : Int32) (i : Int32) (r_thi : rg 8 (0) (23) thi) (r_ctr : rg 6 (0) (23) ctr) (r_mar : rg 24 (0) (255) mar) (r_tol : rg 8 (0) (23) tol) : KW l yX9_code wsX9_code { frames := 11, cells := 0, slots := 0, locals := 262 } (dC, dI) (TY cI cZ cQ) (wsCd cI cZ cQ a rb0 rb1 rb2 db0 db1 db2 ali thi ctr cbe har mar tol) [.ref (a 43), .long row, .int n, .int i] sz 0 0 (fun (r : Int32) (u : US) => (rg 8 (0) (23) (u.1 0)) ∧ (rg 8 (0) (23) (u.1 1)) ∧ (rg 6 (0) (23) (u.1 2))) (fun u : US => (wsCd cI cZ cQ a rb0 rb1 rb2 db0 db1 db2 ali (u.1 1) (u.1 2) (u.1 3) (u.1 4 0) mar (u.1 0))) := by
  refine Met.ofW (cc := cX9_code) (maxL := 6) (ret := (some .int)) (by decide) rfl ?_
  intro p e s m args below meth c s₁ B hml hv
  obtain ⟨rfl, hsz, hP, hK, hD0, hN⟩ := hv
  have hx := B.exec
  have hb := B.bytes
  have hr := B.returns
  have hts := atoms_spec (ws := wsX9_code) B.pre
  have hown : s.vm.findClass RX9 = some m.cls := findClass_of_methodNamed B.named
  have hlocks := B.notSynchronized
  have lf58 := hts (.fieldLink RX9 58 "PalaceOfRooms" "codes" "LPalaceOfRooms$Codes;") (List.mem_cons_of_mem _ (List.mem_append_left _ (List.mem_append_left _ (List.mem_append_left _ (List.mem_append_left _ (List.mem_of_getElem? (i := 0) rfl))))))
  have inX9 : ∀ w ∈ wsX90, w ∈ wsX9_code := fun w h => List.mem_cons_of_mem _ (List.mem_append_left _ (List.mem_append_left _ (List.mem_append_right _ h)))
  have lf69 := hts (.fieldLink RX9 69 "PalaceOfRooms" "told" "[I") (List.mem_cons_of_mem _ (List.mem_append_left _ (List.mem_append_left _ (List.mem_append_left _ (List.mem_append_left _ (List.mem_of_getElem? (i := 1) rfl))))))
  have lf269 := hN.use (w := .fieldLinkNest "PalaceOfRooms" 269 "PalaceOfRooms$Codes" "best" "[I" "PalaceOfRooms") (List.mem_of_getElem? (i := 18) rfl) ([.ref (a 43), .long row, .int n, .int i] : List Value).toArray
  have inX0 : ∀ w ∈ wsX00, w ∈ wsX9_code := fun w h => List.mem_cons_of_mem _ (List.mem_append_left _ (List.mem_append_right _ h))
  have lf266 := hN.use (w := .fieldLinkNest "PalaceOfRooms" 266 "PalaceOfRooms$Codes" "bestHarm" "I" "PalaceOfRooms") (List.mem_of_getElem? (i := 19) rfl) ([.ref (a 43), .long row, .int n, .int i] : List Value).toArray
  subst hsz
  have hD := hD0.self (sz := s.heap.size)
  generalize hAe : va_A (wsCd cI cZ cQ a rb0 rb1 rb2 db0 db1 db2 ali thi ctr cbe har mar tol) s.heap.size = A at hD ⊢
  have hA : ∀ q : Nat, s.heap.size ≤ q → A q := fun q h => by rw [← hAe]; exact Or.inr h
  have hS : va_S A s.heap s.heap [] := va_S.rf
  have hl := lv_entry ([.ref (a 43), .long row, .int n, .int i]) (n := 6) (Nat.le_of_ble_eq_true rfl)
  rw [lg_entry_eq]
  generalize (lg_sl ([.ref (a 43), .long row, .int n, .int i]) ++ List.replicate (6 - (lg_sl ([.ref (a 43), .long row, .int n, .int i])).length) Slot.unset).toArray = ls at hl ⊢
  have hl : lv_has ls 6 [(0, .ref (a 43)), (1, .long row), (3, .int n), (4, .int i)] := hl
  refine lv_aload_n hx hb dX9_code_0 rfl (lv_at hl 0 rfl) ?_
  refine lv_lload_n hx hb dX9_code_1 rfl (lv_at hl 1 rfl) ?_
  refine lv_iload_n hx hb dX9_code_2 rfl (lv_at hl 2 rfl) ?_
  refine lv_iload hx hb dX9_code_3 (lv_at hl 3 rfl) ?_
  refine lv_iconst (v := 2) hx hb dX9_code_5 (by decide) ?_
  refine lv_bipush (v := 6) hx hb dX9_code_6 (by decide) ?_
  have kc2 : (2 : Int32).toInt = 2 := rfl
  have kc6 : (6 : Int32).toInt = 6 := rfl
  refine wrV (As := [.long row, .int n, .int i, .int 2, .int 6]) (rest := []) (wr := [((a 28), .inr (0, [.ref (a 2), .ref (a 29), .ref (a 30), .ref (a 31), .ref (a 32), .int har])), ((a 29), .inl (cI, 100, .inl ali)), ((a 30), .inl (cI, 8, .inl thi)), ((a 31), .inl (cI, 6, .inl ctr)), ((a 32), .inl (cI, 6, .inl cbe)), ((a 2), .inr (2, [.ref (a 3)])), ((a 3), .inl (cI, 24, .inl mar))]) (w2 := (fun u : US => (wsCd cI cZ cQ a rb0 rb1 rb2 db0 db1 db2 ali thi ctr cbe har mar (u.1 0)))) ⟨hx, hb, hml, hown, hts⟩ (k_X9_rowRefusal l dC dI cI cZ cQ a rb0 rb1 rb2 db0 db1 db2 tol _ row n i (2 : Int32) (6 : Int32) r_tol (by omega) (by omega)) (cwV 5 hts gX9_code_X9_rowRefusal rfl rfl rfl (by decide +kernel) ⟨Nat.le_of_ble_eq_true rfl, Nat.le_of_ble_eq_true rfl⟩) hP hD hS hA hK hN [0, 8] [1, 2, 3, 4, 5, 6, 7] [7, 0, 1, 2, 3, 4, 5, 6, 8] rfl rfl (by decide) (by decide) (by decide) (fun _ => rfl) (by decide) 0 9 rfl rfl rfl hl.1 rfl (Nat.le_of_ble_eq_true rfl) dX9_code_8 ⟨Nat.le_of_ble_eq_true rfl, Nat.le_of_ble_eq_true rfl⟩ (fun r1 u3 H locs h2 hP hD hS => ?_)
  obtain ⟨tol_c4, etol_c4⟩ : ∃ f : Nat → Int32, f = (u3.1 0) := ⟨_, rfl⟩
  have hP : va_P (dC, dI) vwCl (wsCd cI cZ cQ a rb0 rb1 rb2 db0 db1 db2 ali thi ctr cbe har mar tol_c4) H := by rw [etol_c4]; exact hP
  have hD : va_D A (wsCd cI cZ cQ a rb0 rb1 rb2 db0 db1 db2 ali thi ctr cbe har mar tol_c4) := by rw [etol_c4]; exact hD
  have h2 : ((((r1 = 0) ∧ ((2) ≤ n.toInt) ∧ (n.toInt ≤ (6)) ∧ (-1 ≤ i.toInt)) ∨ ((r1 = (-2))) ∨ ((r1 = (-3))))) ∧ (rg 8 (0) (23) tol_c4) := by (try rw [etol_c4]); exact h2
  rcases h2 with ⟨(⟨rfl, h2_a0, h2_a1, h2_a2⟩ | rfl | rfl), h2_0⟩
  · refine lv_istore (lv' := [(5, .int 0), (0, .ref (a 43)), (1, .long row), (3, .int n), (4, .int i)]) hx hb dX9_code_11 hl (by decide) rfl (fun ls hl => ?_)
    refine lv_iload hx hb dX9_code_13 (lv_at hl 0 rfl) ?_
    refine lv_if_eq (tgt := 21) hx hb dX9_code_15 (by decide) (fun _ => ?_) (fun c9 => absurd (by decide) c9)
    refine lv_iload hx hb dX9_code_21 (lv_at hl 4 rfl) ?_
    refine lv_iload_n hx hb dX9_code_23 rfl (lv_at hl 3 rfl) ?_
    refine lv_icmp_lt (tgt := 29) hx hb dX9_code_24 (by decide) (fun c5 => ?_) (fun c5 => ?_)
    · have dc5 : i.toInt < n.toInt := ltC rfl rfl c5
      refine lv_aload_n hx hb dX9_code_29 rfl (lv_at hl 1 rfl) ?_
      refine va_get (D := (dC, dI)) (ci := 9) (v := .ref (a 28)) (C := RX9) (T := TX9) (N := 11) hx hb hts inX9 hown hK hP 0 rfl rfl 6 (by decide) lf58 (fun _ h9 => h9) rfl dX9_code_30 ?_
      refine lv_aload_n hx hb dX9_code_33 rfl (lv_at hl 1 rfl) ?_
      refine va_get (D := (dC, dI)) (ci := 9) (v := .ref (a 42)) (C := RX9) (T := TX9) (N := 11) hx hb hts inX9 hown hK hP 0 rfl rfl 8 (by decide) lf69 (fun _ h9 => h9) rfl dX9_code_34 ?_
      refine lv_iload_n hx hb dX9_code_37 rfl (lv_at hl 3 rfl) ?_
      refine wvV (As := [.ref (a 42), .int n]) (rest := []) (wr := [((a 43), .inr (9, [.ref (a 0), .ref (a 2), .ref (a 4), .ref (a 14), .ref (a 16), .ref (a 23), .ref (a 28), .ref (a 33), .ref (a 42), .ref rb0, .ref db0]))]) (w2 := (fun u : US => (wsCd cI cZ cQ a rb0 rb1 rb2 db0 db1 db2 ali (u.1 0) (u.1 1) (u.1 2) (u.1 3 0) mar tol_c4))) ⟨hx, hb, hml, hown, hts⟩ (k_X0_findBest l dC dI cI cZ cQ a ali thi ctr cbe har mar tol_c4 _ n r_thi r_ctr r_mar h2_0 (by omega) (by omega)) (cwV 2 hts gX9_code_X0_findBest rfl rfl rfl (by decide +kernel) ⟨Nat.le_of_ble_eq_true rfl, Nat.le_of_ble_eq_true rfl⟩) hP hD hS hA hK hN [1, 2, 3, 4, 5, 6, 7, 8] [0] [0, 1, 2, 3, 4, 5, 6, 7, 8] rfl rfl (by decide) (by decide) (by decide) (fun _ => rfl) (by decide) 1 0 rfl rfl rfl hl.1 rfl (Nat.le_of_ble_eq_true rfl) dX9_code_38 ⟨Nat.le_of_ble_eq_true rfl, Nat.le_of_ble_eq_true rfl⟩ (fun u8 H locs h7 hP hD hS => ?_)
      obtain ⟨thi_c9, ethi_c9⟩ : ∃ f : Nat → Int32, f = (u8.1 0) := ⟨_, rfl⟩
      obtain ⟨ctr_c10, ectr_c10⟩ : ∃ f : Nat → Int32, f = (u8.1 1) := ⟨_, rfl⟩
      obtain ⟨cbe_c11, ecbe_c11⟩ : ∃ f : Nat → Int32, f = (u8.1 2) := ⟨_, rfl⟩
      obtain ⟨har_c12, ehar_c12⟩ : ∃ f : Int32, f = (u8.1 3 0) := ⟨_, rfl⟩
      have hP : va_P (dC, dI) vwCl (wsCd cI cZ cQ a rb0 rb1 rb2 db0 db1 db2 ali thi_c9 ctr_c10 cbe_c11 har_c12 mar tol_c4) H := by rw [ethi_c9, ectr_c10, ecbe_c11, ehar_c12]; exact hP
      have hD : va_D A (wsCd cI cZ cQ a rb0 rb1 rb2 db0 db1 db2 ali thi_c9 ctr_c10 cbe_c11 har_c12 mar tol_c4) := by rw [ethi_c9, ectr_c10, ecbe_c11, ehar_c12]; exact hD
      have h7 : (rg 8 (0) (23) thi_c9) ∧ (rg 6 (0) (23) ctr_c10) := by (try rw [ethi_c9]); (try rw [ectr_c10]); (try rw [ecbe_c11]); (try rw [ehar_c12]); exact h7
      obtain ⟨h7_0, h7_1⟩ := h7
      refine lv_iload hx hb dX9_code_41 (lv_at hl 4 rfl) ?_
      refine lv_if_ge (tgt := 56) hx hb dX9_code_43 (by decide) (fun c13 => ?_) (fun c13 => ?_)
      · have dc13 : 0 ≤ i.toInt := leC (show (0 : Int32).toInt = 0 from rfl) rfl c13
        refine lv_aload_n hx hb dX9_code_56 rfl (lv_at hl 1 rfl) ?_
        refine va_get (D := (dC, dI)) (ci := 9) (v := .ref (a 28)) (C := RX9) (T := TX9) (N := 11) hx hb hts inX9 hown hK hP 0 rfl rfl 6 (by decide) lf58 (fun _ h9 => h9) rfl dX9_code_57 ?_
        refine va_getN (D := (dC, dI)) (ci := 0) (v := .ref (a 32)) (C := RX0) (T := TX0) (N := 6) hx hb hts inX0 hown hK hP 1 rfl rfl 4 (by decide) lf269 (fun _ h9 => h9) rfl dX9_code_60 ?_
        refine lv_iload hx hb dX9_code_63 (lv_at hl 4 rfl) ?_
        have b14 : vp_in i 6 := inC rfl (by omega) (by omega)
        refine va_iald hx hb hK hP 5 0 rfl rfl b14 dX9_code_65 ?_
        exact W.iret (v := cbe_c11 i.toNatClampNeg) hx hb hr (fun tq ht hW => ⟨⟨cbe_c11 i.toNatClampNeg, (uS [tol_c4, thi_c9, ctr_c10, cbe_c11, (fun _ => har_c12)] 0 (fun _ => 0)), rfl, ⟨h2_0, h7_0, h7_1⟩, by rw [ht]; exact hP, hD⟩, hS.F ht⟩) hS.2.2 dX9_code_66
      · have dc13 : i.toInt < 0 := nleC (show (0 : Int32).toInt = 0 from rfl) rfl c13
        refine lv_aload_n hx hb dX9_code_46 rfl (lv_at hl 1 rfl) ?_
        refine va_get (D := (dC, dI)) (ci := 9) (v := .ref (a 28)) (C := RX9) (T := TX9) (N := 11) hx hb hts inX9 hown hK hP 0 rfl rfl 6 (by decide) lf58 (fun _ h9 => h9) rfl dX9_code_47 ?_
        refine va_getN (D := (dC, dI)) (ci := 0) (v := .int har_c12) (C := RX0) (T := TX0) (N := 6) hx hb hts inX0 hown hK hP 1 rfl rfl 5 (by decide) lf266 (fun _ h9 => h9) rfl dX9_code_50 ?_
        refine lv_goto (tgt := 66) hx hb dX9_code_53 (by decide) ?_
        exact W.iret (v := har_c12) hx hb hr (fun tq ht hW => ⟨⟨har_c12, (uS [tol_c4, thi_c9, ctr_c10, cbe_c11, (fun _ => har_c12)] 0 (fun _ => 0)), rfl, ⟨h2_0, h7_0, h7_1⟩, by rw [ht]; exact hP, hD⟩, hS.F ht⟩) hS.2.2 dX9_code_66
    · have dc5 : n.toInt ≤ i.toInt := nltC rfl rfl c5
      refine lv_iconst (v := (-1)) hx hb dX9_code_27 (by decide) ?_
      exact W.iret (v := (-1)) hx hb hr (fun tq ht hW => ⟨⟨(-1), (uS [tol_c4, thi, ctr, cbe, (fun _ => har)] 0 (fun _ => 0)), rfl, ⟨h2_0, r_thi, r_ctr⟩, by rw [ht]; exact hP, hD⟩, hS.F ht⟩) hS.2.2 dX9_code_28
  · refine lv_istore (lv' := [(5, .int (-2)), (0, .ref (a 43)), (1, .long row), (3, .int n), (4, .int i)]) hx hb dX9_code_11 hl (by decide) rfl (fun ls hl => ?_)
    refine lv_iload hx hb dX9_code_13 (lv_at hl 0 rfl) ?_
    refine lv_if_eq (tgt := 21) hx hb dX9_code_15 (by decide) (fun c9 => absurd c9 (by decide)) (fun _ => ?_)
    refine lv_iload hx hb dX9_code_18 (lv_at hl 0 rfl) ?_
    exact W.iret (v := (-2)) hx hb hr (fun tq ht hW => ⟨⟨(-2), (uS [tol_c4, thi, ctr, cbe, (fun _ => har)] 0 (fun _ => 0)), rfl, ⟨h2_0, r_thi, r_ctr⟩, by rw [ht]; exact hP, hD⟩, hS.F ht⟩) hS.2.2 dX9_code_20
  · refine lv_istore (lv' := [(5, .int (-3)), (0, .ref (a 43)), (1, .long row), (3, .int n), (4, .int i)]) hx hb dX9_code_11 hl (by decide) rfl (fun ls hl => ?_)
    refine lv_iload hx hb dX9_code_13 (lv_at hl 0 rfl) ?_
    refine lv_if_eq (tgt := 21) hx hb dX9_code_15 (by decide) (fun c9 => absurd c9 (by decide)) (fun _ => ?_)
    refine lv_iload hx hb dX9_code_18 (lv_at hl 0 rfl) ?_
    exact W.iret (v := (-3)) hx hb hr (fun tq ht hW => ⟨⟨(-3), (uS [tol_c4, thi, ctr, cbe, (fun _ => har)] 0 (fun _ => 0)), rfl, ⟨h2_0, r_thi, r_ctr⟩, by rw [ht]; exact hP, hD⟩, hS.F ht⟩) hS.2.2 dX9_code_20
