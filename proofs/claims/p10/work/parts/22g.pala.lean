set_option maxHeartbeats 4000000 in
set_option maxRecDepth 100000 in
theorem k_X9_like (l : Launch) (dC : Nat → ClassId) (dI : Nat → Nat → Nat) (cI cZ cQ : ClassId) (a : Nat → Nat) (rb0 : Nat) (rb1 : Nat) (rb2 : Nat) (db0 : Nat) (db1 : Nat) (db2 : Nat) (mar : Nat → Int32) (x : Int32) (y : Int32) (r_mar : rg 24 (0) (255) mar) : KR l yX9_like wsX9_like { frames := 2, cells := 0, slots := 0, locals := 42 } (dC, dI) (TY cI cZ cQ) (wsP cI cZ cQ a rb0 rb1 rb2 db0 db1 db2 mar) [.ref (a 43), .int x, .int y] (fun r : Int32 => (spLike mar x y r)) := by
  refine Met.ofW (cc := cX9_like) (maxL := 3) (ret := (some .int)) (by decide) rfl ?_
  intro p e s m args below meth c s₁ B hml hv
  obtain ⟨rfl, hP, hK, hN⟩ := hv
  have hx := B.exec
  have hb := B.bytes
  have hr := B.returns
  have hts := atoms_spec (ws := wsX9_like) B.pre
  have hown : s.vm.findClass RX9 = some m.cls := findClass_of_methodNamed B.named
  have hlocks := B.notSynchronized
  have lf19 := hts (.fieldLink RX9 19 "PalaceOfRooms" "pictures" "LPalaceOfRooms$Pictures;") (by decide +kernel)
  have inX9 : ∀ w ∈ wsX90, w ∈ wsX9_like := by decide +kernel
  have hl := lv_entry ([.ref (a 43), .int x, .int y]) (n := 3) (Nat.le_of_ble_eq_true rfl)
  rw [lg_entry_eq]
  generalize (lg_sl ([.ref (a 43), .int x, .int y]) ++ List.replicate (3 - (lg_sl ([.ref (a 43), .int x, .int y])).length) Slot.unset).toArray = ls at hl ⊢
  have hl : lv_has ls 3 [(0, .ref (a 43)), (1, .int x), (2, .int y)] := hl
  refine lv_iload_n hx hb dX9_like_0 rfl (lv_at hl 1 rfl) ?_
  refine rdS (As := [.int x]) (rest := []) ⟨hx, hb, hml, hown, hts⟩ (k_X9_isThing l dC dI cI cZ cQ x) (va_cwS 1 hts gX9_like_X9_isThing rfl rfl rfl (by decide +kernel) ⟨Nat.le_of_ble_eq_true rfl, Nat.le_of_ble_eq_true rfl⟩) hP hK hN [] rfl rfl hl.1 rfl (Nat.le_of_ble_eq_true rfl) dX9_like_1 ⟨Nat.le_of_ble_eq_true rfl, Nat.le_of_ble_eq_true rfl⟩ (fun r1 h2 => ?_)
  have h2 : ((((r1 = 1) ∧ (0 ≤ x.toInt) ∧ (x.toInt ≤ 23)) ∨ ((r1 = 0) ∧ (x.toInt < 0 ∨ 23 < x.toInt)))) := h2
  rcases h2 with (⟨rfl, h2_a0, h2_a1⟩ | ⟨rfl, h2_a0⟩)
  · refine lv_if_eq (tgt := 14) hx hb dX9_like_4 (by decide) (fun c9 => absurd c9 (by decide)) (fun _ => ?_)
    refine lv_iload_n hx hb dX9_like_7 rfl (lv_at hl 2 rfl) ?_
    refine rdS (As := [.int y]) (rest := []) ⟨hx, hb, hml, hown, hts⟩ (k_X9_isThing l dC dI cI cZ cQ y) (va_cwS 1 hts gX9_like_X9_isThing rfl rfl rfl (by decide +kernel) ⟨Nat.le_of_ble_eq_true rfl, Nat.le_of_ble_eq_true rfl⟩) hP hK hN [] rfl rfl hl.1 rfl (Nat.le_of_ble_eq_true rfl) dX9_like_8 ⟨Nat.le_of_ble_eq_true rfl, Nat.le_of_ble_eq_true rfl⟩ (fun r3 h4 => ?_)
    have h4 : ((((r3 = 1) ∧ (0 ≤ y.toInt) ∧ (y.toInt ≤ 23)) ∨ ((r3 = 0) ∧ (y.toInt < 0 ∨ 23 < y.toInt)))) := h4
    rcases h4 with (⟨rfl, h4_a0, h4_a1⟩ | ⟨rfl, h4_a0⟩)
    · refine lv_if_ne (tgt := 17) hx hb dX9_like_11 (by decide) (fun _ => ?_) (fun c9 => absurd c9 (by decide))
      refine lv_aload_n hx hb dX9_like_17 rfl (lv_at hl 0 rfl) ?_
      refine va_get (D := (dC, dI)) (ci := 9) (v := .ref (a 2)) (C := RX9) (T := TX9) (N := 11) hx hb hts inX9 hown hK hP 0 rfl rfl 1 (by decide) lf19 (fun _ h9 => h9) rfl dX9_like_18 ?_
      refine lv_iload_n hx hb dX9_like_21 rfl (lv_at hl 1 rfl) ?_
      refine lv_iload_n hx hb dX9_like_22 rfl (lv_at hl 2 rfl) ?_
      refine rdV (As := [.int x, .int y]) (rest := []) ⟨hx, hb, hml, hown, hts⟩ (k_X2_shared l dC dI cI cZ cQ a mar x y r_mar (by omega) (by omega) (by omega) (by omega)) (cwV 2 hts gX9_like_X2_shared rfl rfl rfl (by decide +kernel) ⟨Nat.le_of_ble_eq_true rfl, Nat.le_of_ble_eq_true rfl⟩) hP hK hN [1, 2] rfl 1 2 rfl rfl rfl hl.1 rfl (Nat.le_of_ble_eq_true rfl) dX9_like_23 ⟨Nat.le_of_ble_eq_true rfl, Nat.le_of_ble_eq_true rfl⟩ (fun r5 h6 => ?_)
      have h6 : (r5 = bc (mar x.toNatClampNeg &&& mar y.toNatClampNeg)) := h6
      have h6_0 := h6
      exact W.iret (v := r5) hx hb hr (fun tq ht hW => ⟨r5, rfl, (show spLike mar x y r5 from by (unfold spLike; subst_vars; first | exact Or.inl (⟨by omega, by omega, by assumption⟩) | exact Or.inr (⟨by omega, rfl⟩))), ht⟩) (fun q h => by cases h) dX9_like_26
    · refine lv_if_ne (tgt := 17) hx hb dX9_like_11 (by decide) (fun c9 => absurd (by decide) c9) (fun _ => ?_)
      refine lv_bipush (v := (-2)) hx hb dX9_like_14 (by decide) ?_
      exact W.iret (v := (-2)) hx hb hr (fun tq ht hW => ⟨(-2), rfl, (show spLike mar x y ((-2) : Int32) from by (try rw [show ((-2) : Int32).toInt = (-2) from (show ((-2) : Int32).toInt = (-2) from rfl)]); (unfold spLike; subst_vars; first | exact Or.inl (⟨by omega, by omega, by assumption⟩) | exact Or.inr (⟨by omega, rfl⟩))), ht⟩) (fun q h => by cases h) dX9_like_16
  · refine lv_if_eq (tgt := 14) hx hb dX9_like_4 (by decide) (fun _ => ?_) (fun c9 => absurd (by decide) c9)
    refine lv_bipush (v := (-2)) hx hb dX9_like_14 (by decide) ?_
    exact W.iret (v := (-2)) hx hb hr (fun tq ht hW => ⟨(-2), rfl, (show spLike mar x y ((-2) : Int32) from by (try rw [show ((-2) : Int32).toInt = (-2) from (show ((-2) : Int32).toInt = (-2) from rfl)]); (unfold spLike; subst_vars; first | exact Or.inl (⟨by omega, by omega, by assumption⟩) | exact Or.inr (⟨by omega, rfl⟩))), ht⟩) (fun q h => by cases h) dX9_like_16
set_option maxHeartbeats 4000000 in
set_option maxRecDepth 100000 in
theorem k_X9_set (l : Launch) (dC : Nat → ClassId) (dI : Nat → Nat → Nat) (cI cZ cQ : ClassId) (a : Nat → Nat) (rb0 : Nat) (rb1 : Nat) (rb2 : Nat) (db0 : Nat) (db1 : Nat) (db2 : Nat) (top : Nat → Int32) (str : Nat → Int32) (gho : Nat → Int32) (ghs : Nat → Int32) (pto : Nat → Int32) (cro : Nat → Int32) (pla : Nat → Int32) (wal : Nat → Int32) (fal : Nat → Int32) (tel : Int32) (gai : Int32) (day : Int32) (mar : Nat → Int32) (sz : Nat) (wh : Int32) (v : Int32) (r_top : rg 48 (-1) (23) top) (r_str : rg 48 (0) (100) str) (r_gho : rg 48 (-1) (23) gho) (r_ghs : rg 48 (0) (100) ghs) (r_cro : rg 48 (0) (6) cro) (r_pla : rg 24 (-1) (47) pla) (r_fal : rg 11 (0) (30) fal) (r_gai : 0 ≤ gai.toInt ∧ gai.toInt ≤ 100) (r_day : 0 ≤ day.toInt ∧ day.toInt ≤ 400) (r_mar : rg 24 (0) (255) mar) : KW l yX9_set wsX9_set { frames := 1, cells := 0, slots := 0, locals := 22 } (dC, dI) (TY cI cZ cQ) (wsC cI cZ cQ a rb0 rb1 rb2 db0 db1 db2 top str gho ghs pto cro pla wal fal tel gai day mar) [.ref (a 43), .int wh, .int v] sz 0 0 (fun (r : Int32) (u : US) => (spSet tel gai wh v r (u.1 0 0) (u.1 1 0)) ∧ (0 ≤ (u.1 1 0).toInt ∧ (u.1 1 0).toInt ≤ 100)) (fun u : US => (wsC cI cZ cQ a rb0 rb1 rb2 db0 db1 db2 top str gho ghs pto cro pla wal fal (u.1 0 0) (u.1 1 0) day mar)) := by
  refine Met.ofW (cc := cX9_set) (maxL := 4) (ret := (some .int)) (by decide) rfl ?_
  intro p e s m args below meth c s₁ B hml hv
  obtain ⟨rfl, hsz, hP, hK, hD0, hN⟩ := hv
  have hx := B.exec
  have hb := B.bytes
  have hr := B.returns
  have hts := atoms_spec (ws := wsX9_set) B.pre
  have hown : s.vm.findClass RX9 = some m.cls := findClass_of_methodNamed B.named
  have hlocks := B.notSynchronized
  have lf28 := hts (.fieldLink RX9 28 "PalaceOfRooms" "corners" "LPalaceOfRooms$Corners;") (by decide +kernel)
  have inX9 : ∀ w ∈ wsX90, w ∈ wsX9_set := fun w h => List.mem_cons_of_mem _ (List.mem_append_left _ (List.mem_append_right _ h))
  have lf119 := hN.use (w := .fieldLinkNest "PalaceOfRooms" 119 "PalaceOfRooms$Corners" "gain" "I" "PalaceOfRooms") (by decide +kernel) ([.ref (a 43), .int wh, .int v] : List Value).toArray
  have inX1 : ∀ w ∈ wsX10, w ∈ wsX9_set := fun w h => List.mem_cons_of_mem _ (List.mem_append_right _ h)
  have lf116 := hN.use (w := .fieldLinkNest "PalaceOfRooms" 116 "PalaceOfRooms$Corners" "tell" "I" "PalaceOfRooms") (by decide +kernel) ([.ref (a 43), .int wh, .int v] : List Value).toArray
  subst hsz
  have hD := hD0.self (sz := s.heap.size)
  generalize hAe : va_A (wsC cI cZ cQ a rb0 rb1 rb2 db0 db1 db2 top str gho ghs pto cro pla wal fal tel gai day mar) s.heap.size = A at hD ⊢
  have hA : ∀ q : Nat, s.heap.size ≤ q → A q := fun q h => by rw [← hAe]; exact Or.inr h
  have hS : va_S A s.heap s.heap [] := va_S.rf
  have hl := lv_entry ([.ref (a 43), .int wh, .int v]) (n := 4) (Nat.le_of_ble_eq_true rfl)
  rw [lg_entry_eq]
  generalize (lg_sl ([.ref (a 43), .int wh, .int v]) ++ List.replicate (4 - (lg_sl ([.ref (a 43), .int wh, .int v])).length) Slot.unset).toArray = ls at hl ⊢
  have hl : lv_has ls 4 [(0, .ref (a 43)), (1, .int wh), (2, .int v)] := hl
  refine lv_iload_n hx hb dX9_set_0 rfl (lv_at hl 1 rfl) ?_
  refine lv_if_ne (tgt := 33) hx hb dX9_set_1 (by decide) (fun c1 => ?_) (fun c1 => ?_)
  · have dc1 : wh.toInt ≠ 0 := neC rfl (show (0 : Int32).toInt = 0 from rfl) c1
    refine lv_iload_n hx hb dX9_set_33 rfl (lv_at hl 1 rfl) ?_
    refine lv_iconst (v := 1) hx hb dX9_set_34 (by decide) ?_
    refine lv_icmp_ne (tgt := 67) hx hb dX9_set_35 (by decide) (fun c2 => ?_) (fun c2 => ?_)
    · have dc2 : wh.toInt ≠ 1 := neC rfl (show (1 : Int32).toInt = 1 from rfl) c2
      refine lv_bipush (v := (-3)) hx hb dX9_set_67 (by decide) ?_
      refine lv_istore_n (lv' := [(3, .int (-3)), (0, .ref (a 43)), (1, .int wh), (2, .int v)]) hx hb dX9_set_69 rfl hl (by decide) rfl (fun ls hl => ?_)
      refine lv_iload_n hx hb dX9_set_70 rfl (lv_at hl 0 rfl) ?_
      exact W.iret (v := (-3)) hx hb hr (fun tq ht hW => ⟨⟨(-3), (uS [(fun _ => tel), (fun _ => gai)] 0 (fun _ => 0)), rfl, ⟨(show spSet tel gai wh v ((-3) : Int32) tel gai from by (try rw [show ((-3) : Int32).toInt = (-3) from (show ((-3) : Int32).toInt = (-3) from rfl)]); (unfold spSet; subst_vars; first | exact Or.inl ⟨rfl, by omega, rfl, rfl, rfl⟩ | exact Or.inr (Or.inl ⟨rfl, by omega, rfl, rfl, rfl⟩) | exact Or.inr (Or.inr ⟨by (first | (intro hh; omega) | (intro hh; simp_all)), by (first | (intro hh; omega) | (intro hh; simp_all)), rfl, rfl, rfl⟩) | exact Or.inr (Or.inr ⟨fun hh => by (first | omega | exact absurd hh.1 (by assumption) | exact absurd hh.1 (by decide)), fun hh => by (first | omega | exact absurd hh.1 (by assumption) | exact absurd hh.1 (by decide)), rfl, rfl, rfl⟩))), r_gai⟩, by rw [ht]; exact hP, hD⟩, hS.F ht⟩) hS.2.2 dX9_set_71
    · have dc2 : wh.toInt = 1 := eqC rfl (show (1 : Int32).toInt = 1 from rfl) c2
      refine lv_iload_n hx hb dX9_set_38 rfl (lv_at hl 2 rfl) ?_
      refine lv_iconst (v := 0) hx hb dX9_set_39 (by decide) ?_
      refine lv_bipush (v := 100) hx hb dX9_set_40 (by decide) ?_
      refine rdS (As := [.int v, .int 0, .int 100]) (rest := []) ⟨hx, hb, hml, hown, hts⟩ (k_X9_within l dC dI cI cZ cQ v (0 : Int32) (100 : Int32)) (va_cwS 3 hts gX9_set_X9_within rfl rfl rfl (by decide +kernel) ⟨Nat.le_of_ble_eq_true rfl, Nat.le_of_ble_eq_true rfl⟩) hP hK hN [] rfl rfl hl.1 rfl (Nat.le_of_ble_eq_true rfl) dX9_set_42 ⟨Nat.le_of_ble_eq_true rfl, Nat.le_of_ble_eq_true rfl⟩ (fun r3 h4 => ?_)
      have h4 : ((((r3 = 1) ∧ ((0) ≤ v.toInt) ∧ (v.toInt ≤ (100))) ∨ ((r3 = 0) ∧ (v.toInt < (0) ∨ (100) < v.toInt)))) := h4
      rcases h4 with (⟨rfl, h4_a0, h4_a1⟩ | ⟨rfl, h4_a0⟩)
      · refine lv_if_eq (tgt := 67) hx hb dX9_set_45 (by decide) (fun c9 => absurd c9 (by decide)) (fun _ => ?_)
        refine lv_aload_n hx hb dX9_set_48 rfl (lv_at hl 0 rfl) ?_
        refine va_get (D := (dC, dI)) (ci := 9) (v := .ref (a 4)) (C := RX9) (T := TX9) (N := 11) hx hb hts inX9 hown hK hP 0 rfl rfl 2 (by decide) lf28 (fun _ h9 => h9) rfl dX9_set_49 ?_
        refine va_getN (D := (dC, dI)) (ci := 1) (v := .int gai) (C := RX1) (T := TX1) (N := 13) hx hb hts inX1 hown hK hP 1 rfl rfl 11 (by decide) lf119 (fun _ h9 => h9) rfl dX9_set_52 ?_
        refine lv_istore_n (lv' := [(3, .int gai), (0, .ref (a 43)), (1, .int wh), (2, .int v)]) hx hb dX9_set_55 rfl hl (by decide) rfl (fun ls hl => ?_)
        refine lv_aload_n hx hb dX9_set_56 rfl (lv_at hl 1 rfl) ?_
        refine va_get (D := (dC, dI)) (ci := 9) (v := .ref (a 4)) (C := RX9) (T := TX9) (N := 11) hx hb hts inX9 hown hK hP 0 rfl rfl 2 (by decide) lf28 (fun _ h9 => h9) rfl dX9_set_57 ?_
        refine lv_iload_n hx hb dX9_set_60 rfl (lv_at hl 3 rfl) ?_
        refine va_putN (D := (dC, dI)) (ci := 1) (v := .int v) (ty := .int) (C := RX1) (T := TX1) (N := 13) hx hb hts inX1 tyX1 tyX1_ok nmX1 hown hK hP hD hS 1 rfl rfl 11 (by decide) lf119 (fun _ h9 => h9) rfl (by decide +kernel) rfl rfl (Nat.le_of_ble_eq_true rfl) dX9_set_61 (fun H locs hP hD hS => ?_)
        have g5 : 0 ≤ v.toInt ∧ v.toInt ≤ 100 := by rw [show v.toInt = v.toInt from rfl]; exact ⟨by omega, by omega⟩
        have hP : va_P (dC, dI) vwCl (wsC cI cZ cQ a rb0 rb1 rb2 db0 db1 db2 top str gho ghs pto cro pla wal fal tel v day mar) H := hP
        have hD : va_D A (wsC cI cZ cQ a rb0 rb1 rb2 db0 db1 db2 top str gho ghs pto cro pla wal fal tel v day mar) := hD
        refine lv_goto (tgt := 70) hx hb dX9_set_64 (by decide) ?_
        refine lv_iload_n hx hb dX9_set_70 rfl (lv_at hl 0 rfl) ?_
        exact W.iret (v := gai) hx hb hr (fun tq ht hW => ⟨⟨gai, (uS [(fun _ => tel), (fun _ => v)] 0 (fun _ => 0)), rfl, ⟨(show spSet tel gai wh v gai tel v from by (unfold spSet; subst_vars; first | exact Or.inl ⟨rfl, by omega, rfl, rfl, rfl⟩ | exact Or.inr (Or.inl ⟨rfl, by omega, rfl, rfl, rfl⟩) | exact Or.inr (Or.inr ⟨by (first | (intro hh; omega) | (intro hh; simp_all)), by (first | (intro hh; omega) | (intro hh; simp_all)), rfl, rfl, rfl⟩) | exact Or.inr (Or.inr ⟨fun hh => by (first | omega | exact absurd hh.1 (by assumption) | exact absurd hh.1 (by decide)), fun hh => by (first | omega | exact absurd hh.1 (by assumption) | exact absurd hh.1 (by decide)), rfl, rfl, rfl⟩))), g5⟩, by rw [ht]; exact hP, hD⟩, hS.F ht⟩) hS.2.2 dX9_set_71
      · refine lv_if_eq (tgt := 67) hx hb dX9_set_45 (by decide) (fun _ => ?_) (fun c9 => absurd (by decide) c9)
        refine lv_bipush (v := (-3)) hx hb dX9_set_67 (by decide) ?_
        refine lv_istore_n (lv' := [(3, .int (-3)), (0, .ref (a 43)), (1, .int wh), (2, .int v)]) hx hb dX9_set_69 rfl hl (by decide) rfl (fun ls hl => ?_)
        refine lv_iload_n hx hb dX9_set_70 rfl (lv_at hl 0 rfl) ?_
        exact W.iret (v := (-3)) hx hb hr (fun tq ht hW => ⟨⟨(-3), (uS [(fun _ => tel), (fun _ => gai)] 0 (fun _ => 0)), rfl, ⟨(show spSet tel gai wh v ((-3) : Int32) tel gai from by (try rw [show ((-3) : Int32).toInt = (-3) from (show ((-3) : Int32).toInt = (-3) from rfl)]); (unfold spSet; subst_vars; first | exact Or.inl ⟨rfl, by omega, rfl, rfl, rfl⟩ | exact Or.inr (Or.inl ⟨rfl, by omega, rfl, rfl, rfl⟩) | exact Or.inr (Or.inr ⟨by (first | (intro hh; omega) | (intro hh; simp_all)), by (first | (intro hh; omega) | (intro hh; simp_all)), rfl, rfl, rfl⟩) | exact Or.inr (Or.inr ⟨fun hh => by (first | omega | exact absurd hh.1 (by assumption) | exact absurd hh.1 (by decide)), fun hh => by (first | omega | exact absurd hh.1 (by assumption) | exact absurd hh.1 (by decide)), rfl, rfl, rfl⟩))), r_gai⟩, by rw [ht]; exact hP, hD⟩, hS.F ht⟩) hS.2.2 dX9_set_71
  · have dc1 : wh.toInt = 0 := eqC rfl (show (0 : Int32).toInt = 0 from rfl) c1
    refine lv_iload_n hx hb dX9_set_4 rfl (lv_at hl 2 rfl) ?_
    refine lv_iconst (v := 1) hx hb dX9_set_5 (by decide) ?_
    refine lv_bipush (v := 8) hx hb dX9_set_6 (by decide) ?_
    refine rdS (As := [.int v, .int 1, .int 8]) (rest := []) ⟨hx, hb, hml, hown, hts⟩ (k_X9_within l dC dI cI cZ cQ v (1 : Int32) (8 : Int32)) (va_cwS 3 hts gX9_set_X9_within rfl rfl rfl (by decide +kernel) ⟨Nat.le_of_ble_eq_true rfl, Nat.le_of_ble_eq_true rfl⟩) hP hK hN [] rfl rfl hl.1 rfl (Nat.le_of_ble_eq_true rfl) dX9_set_8 ⟨Nat.le_of_ble_eq_true rfl, Nat.le_of_ble_eq_true rfl⟩ (fun r6 h7 => ?_)
    have h7 : ((((r6 = 1) ∧ ((1) ≤ v.toInt) ∧ (v.toInt ≤ (8))) ∨ ((r6 = 0) ∧ (v.toInt < (1) ∨ (8) < v.toInt)))) := h7
    rcases h7 with (⟨rfl, h7_a0, h7_a1⟩ | ⟨rfl, h7_a0⟩)
    · refine lv_if_eq (tgt := 33) hx hb dX9_set_11 (by decide) (fun c9 => absurd c9 (by decide)) (fun _ => ?_)
      refine lv_aload_n hx hb dX9_set_14 rfl (lv_at hl 0 rfl) ?_
      refine va_get (D := (dC, dI)) (ci := 9) (v := .ref (a 4)) (C := RX9) (T := TX9) (N := 11) hx hb hts inX9 hown hK hP 0 rfl rfl 2 (by decide) lf28 (fun _ h9 => h9) rfl dX9_set_15 ?_
      refine va_getN (D := (dC, dI)) (ci := 1) (v := .int tel) (C := RX1) (T := TX1) (N := 13) hx hb hts inX1 hown hK hP 1 rfl rfl 10 (by decide) lf116 (fun _ h9 => h9) rfl dX9_set_18 ?_
      refine lv_istore_n (lv' := [(3, .int tel), (0, .ref (a 43)), (1, .int wh), (2, .int v)]) hx hb dX9_set_21 rfl hl (by decide) rfl (fun ls hl => ?_)
      refine lv_aload_n hx hb dX9_set_22 rfl (lv_at hl 1 rfl) ?_
      refine va_get (D := (dC, dI)) (ci := 9) (v := .ref (a 4)) (C := RX9) (T := TX9) (N := 11) hx hb hts inX9 hown hK hP 0 rfl rfl 2 (by decide) lf28 (fun _ h9 => h9) rfl dX9_set_23 ?_
      refine lv_iload_n hx hb dX9_set_26 rfl (lv_at hl 3 rfl) ?_
      refine va_putN (D := (dC, dI)) (ci := 1) (v := .int v) (ty := .int) (C := RX1) (T := TX1) (N := 13) hx hb hts inX1 tyX1 tyX1_ok nmX1 hown hK hP hD hS 1 rfl rfl 10 (by decide) lf116 (fun _ h9 => h9) rfl (by decide +kernel) rfl rfl (Nat.le_of_ble_eq_true rfl) dX9_set_27 (fun H locs hP hD hS => ?_)
      have hP : va_P (dC, dI) vwCl (wsC cI cZ cQ a rb0 rb1 rb2 db0 db1 db2 top str gho ghs pto cro pla wal fal v gai day mar) H := hP
      have hD : va_D A (wsC cI cZ cQ a rb0 rb1 rb2 db0 db1 db2 top str gho ghs pto cro pla wal fal v gai day mar) := hD
      refine lv_goto (tgt := 70) hx hb dX9_set_30 (by decide) ?_
      refine lv_iload_n hx hb dX9_set_70 rfl (lv_at hl 0 rfl) ?_
      exact W.iret (v := tel) hx hb hr (fun tq ht hW => ⟨⟨tel, (uS [(fun _ => v), (fun _ => gai)] 0 (fun _ => 0)), rfl, ⟨(show spSet tel gai wh v tel v gai from by (unfold spSet; subst_vars; first | exact Or.inl ⟨rfl, by omega, rfl, rfl, rfl⟩ | exact Or.inr (Or.inl ⟨rfl, by omega, rfl, rfl, rfl⟩) | exact Or.inr (Or.inr ⟨by (first | (intro hh; omega) | (intro hh; simp_all)), by (first | (intro hh; omega) | (intro hh; simp_all)), rfl, rfl, rfl⟩) | exact Or.inr (Or.inr ⟨fun hh => by (first | omega | exact absurd hh.1 (by assumption) | exact absurd hh.1 (by decide)), fun hh => by (first | omega | exact absurd hh.1 (by assumption) | exact absurd hh.1 (by decide)), rfl, rfl, rfl⟩))), r_gai⟩, by rw [ht]; exact hP, hD⟩, hS.F ht⟩) hS.2.2 dX9_set_71
    · refine lv_if_eq (tgt := 33) hx hb dX9_set_11 (by decide) (fun _ => ?_) (fun c9 => absurd (by decide) c9)
      refine lv_iload_n hx hb dX9_set_33 rfl (lv_at hl 1 rfl) ?_
      refine lv_iconst (v := 1) hx hb dX9_set_34 (by decide) ?_
      refine lv_icmp_ne (tgt := 67) hx hb dX9_set_35 (by decide) (fun c8 => ?_) (fun c8 => ?_)
      · have dc8 : wh.toInt ≠ 1 := neC rfl (show (1 : Int32).toInt = 1 from rfl) c8
        refine lv_bipush (v := (-3)) hx hb dX9_set_67 (by decide) ?_
        refine lv_istore_n (lv' := [(3, .int (-3)), (0, .ref (a 43)), (1, .int wh), (2, .int v)]) hx hb dX9_set_69 rfl hl (by decide) rfl (fun ls hl => ?_)
        refine lv_iload_n hx hb dX9_set_70 rfl (lv_at hl 0 rfl) ?_
        exact W.iret (v := (-3)) hx hb hr (fun tq ht hW => ⟨⟨(-3), (uS [(fun _ => tel), (fun _ => gai)] 0 (fun _ => 0)), rfl, ⟨(show spSet tel gai wh v ((-3) : Int32) tel gai from by (try rw [show ((-3) : Int32).toInt = (-3) from (show ((-3) : Int32).toInt = (-3) from rfl)]); (unfold spSet; subst_vars; first | exact Or.inl ⟨rfl, by omega, rfl, rfl, rfl⟩ | exact Or.inr (Or.inl ⟨rfl, by omega, rfl, rfl, rfl⟩) | exact Or.inr (Or.inr ⟨by (first | (intro hh; omega) | (intro hh; simp_all)), by (first | (intro hh; omega) | (intro hh; simp_all)), rfl, rfl, rfl⟩) | exact Or.inr (Or.inr ⟨fun hh => by (first | omega | exact absurd hh.1 (by assumption) | exact absurd hh.1 (by decide)), fun hh => by (first | omega | exact absurd hh.1 (by assumption) | exact absurd hh.1 (by decide)), rfl, rfl, rfl⟩))), r_gai⟩, by rw [ht]; exact hP, hD⟩, hS.F ht⟩) hS.2.2 dX9_set_71
      · have dc8 : wh.toInt = 1 := eqC rfl (show (1 : Int32).toInt = 1 from rfl) c8
        exfalso
        omega
