set_option maxHeartbeats 4000000 in
set_option maxRecDepth 100000 in
theorem k_X9_fall (l : Launch) (dC : Nat → ClassId) (dI : Nat → Nat → Nat) (cI cZ cQ : ClassId) (a : Nat → Nat) (rb0 : Nat) (rb1 : Nat) (rb2 : Nat) (db0 : Nat) (db1 : Nat) (db2 : Nat) (top : Nat → Int32) (str : Nat → Int32) (gho : Nat → Int32) (ghs : Nat → Int32) (pto : Nat → Int32) (cro : Nat → Int32) (pla : Nat → Int32) (wal : Nat → Int32) (fal : Nat → Int32) (tel : Int32) (gai : Int32) (day : Int32) (mar : Nat → Int32) (sz : Nat) (k : Int32) (v : Int32) (r_top : rg 48 (-1) (23) top) (r_str : rg 48 (0) (100) str) (r_gho : rg 48 (-1) (23) gho) (r_ghs : rg 48 (0) (100) ghs) (r_cro : rg 48 (0) (6) cro) (r_pla : rg 24 (-1) (47) pla) (r_fal : rg 11 (0) (30) fal) (r_gai : 0 ≤ gai.toInt ∧ gai.toInt ≤ 100) (r_day : 0 ≤ day.toInt ∧ day.toInt ≤ 400) (r_mar : rg 24 (0) (255) mar) : KW l yX9_fall wsX9_fall { frames := 1, cells := 0, slots := 0, locals := 22 } (dC, dI) (TY cI cZ cQ) (wsC cI cZ cQ a rb0 rb1 rb2 db0 db1 db2 top str gho ghs pto cro pla wal fal tel gai day mar) [.ref (a 43), .int k, .int v] sz 0 0 (fun (r : Int32) (u : US) => (spFall fal k v r (u.1 0)) ∧ (rg 11 (0) (30) (u.1 0))) (fun u : US => (wsC cI cZ cQ a rb0 rb1 rb2 db0 db1 db2 top str gho ghs pto cro pla wal (u.1 0) tel gai day mar)) := by
  refine Met.ofW (cc := cX9_fall) (maxL := 4) (ret := (some .int)) (by decide) rfl ?_
  intro p e s m args below meth c s₁ B hml hv
  obtain ⟨rfl, hsz, hP, hK, hD0, hN⟩ := hv
  have hx := B.exec
  have hb := B.bytes
  have hr := B.returns
  have hts := atoms_spec (ws := wsX9_fall) B.pre
  have hown : s.vm.findClass RX9 = some m.cls := findClass_of_methodNamed B.named
  have hlocks := B.notSynchronized
  have lf28 := hts (.fieldLink RX9 28 "PalaceOfRooms" "corners" "LPalaceOfRooms$Corners;") (by decide +kernel)
  have inX9 : ∀ w ∈ wsX90, w ∈ wsX9_fall := fun w h => List.mem_cons_of_mem _ (List.mem_append_left _ (List.mem_append_right _ h))
  have lf122 := hN.use (w := .fieldLinkNest "PalaceOfRooms" 122 "PalaceOfRooms$Corners" "fallOf" "[I" "PalaceOfRooms") (by decide +kernel) ([.ref (a 43), .int k, .int v] : List Value).toArray
  have inX1 : ∀ w ∈ wsX10, w ∈ wsX9_fall := fun w h => List.mem_cons_of_mem _ (List.mem_append_right _ h)
  subst hsz
  have hD := hD0.self (sz := s.heap.size)
  generalize hAe : va_A (wsC cI cZ cQ a rb0 rb1 rb2 db0 db1 db2 top str gho ghs pto cro pla wal fal tel gai day mar) s.heap.size = A at hD ⊢
  have hA : ∀ q : Nat, s.heap.size ≤ q → A q := fun q h => by rw [← hAe]; exact Or.inr h
  have hS : va_S A s.heap s.heap [] := va_S.rf
  have hl := lv_entry ([.ref (a 43), .int k, .int v]) (n := 4) (Nat.le_of_ble_eq_true rfl)
  rw [lg_entry_eq]
  generalize (lg_sl ([.ref (a 43), .int k, .int v]) ++ List.replicate (4 - (lg_sl ([.ref (a 43), .int k, .int v])).length) Slot.unset).toArray = ls at hl ⊢
  have hl : lv_has ls 4 [(0, .ref (a 43)), (1, .int k), (2, .int v)] := hl
  refine lv_iload_n hx hb dX9_fall_0 rfl (lv_at hl 1 rfl) ?_
  refine lv_iconst (v := 0) hx hb dX9_fall_1 (by decide) ?_
  refine lv_bipush (v := 10) hx hb dX9_fall_2 (by decide) ?_
  refine rdS (As := [.int k, .int 0, .int 10]) (rest := []) ⟨hx, hb, hml, hown, hts⟩ (k_X9_within l dC dI cI cZ cQ k (0 : Int32) (10 : Int32)) (va_cwS 3 hts gX9_fall_X9_within rfl rfl rfl (by decide +kernel) ⟨Nat.le_of_ble_eq_true rfl, Nat.le_of_ble_eq_true rfl⟩) hP hK hN [] rfl rfl hl.1 rfl (Nat.le_of_ble_eq_true rfl) dX9_fall_4 ⟨Nat.le_of_ble_eq_true rfl, Nat.le_of_ble_eq_true rfl⟩ (fun r1 h2 => ?_)
  have h2 : ((((r1 = 1) ∧ ((0) ≤ k.toInt) ∧ (k.toInt ≤ (10))) ∨ ((r1 = 0) ∧ (k.toInt < (0) ∨ (10) < k.toInt)))) := h2
  rcases h2 with (⟨rfl, h2_a0, h2_a1⟩ | ⟨rfl, h2_a0⟩)
  · refine lv_if_eq (tgt := 20) hx hb dX9_fall_7 (by decide) (fun c9 => absurd c9 (by decide)) (fun _ => ?_)
    refine lv_iload_n hx hb dX9_fall_10 rfl (lv_at hl 2 rfl) ?_
    refine lv_iconst (v := 0) hx hb dX9_fall_11 (by decide) ?_
    refine lv_bipush (v := 30) hx hb dX9_fall_12 (by decide) ?_
    refine rdS (As := [.int v, .int 0, .int 30]) (rest := []) ⟨hx, hb, hml, hown, hts⟩ (k_X9_within l dC dI cI cZ cQ v (0 : Int32) (30 : Int32)) (va_cwS 3 hts gX9_fall_X9_within rfl rfl rfl (by decide +kernel) ⟨Nat.le_of_ble_eq_true rfl, Nat.le_of_ble_eq_true rfl⟩) hP hK hN [] rfl rfl hl.1 rfl (Nat.le_of_ble_eq_true rfl) dX9_fall_14 ⟨Nat.le_of_ble_eq_true rfl, Nat.le_of_ble_eq_true rfl⟩ (fun r3 h4 => ?_)
    have h4 : ((((r3 = 1) ∧ ((0) ≤ v.toInt) ∧ (v.toInt ≤ (30))) ∨ ((r3 = 0) ∧ (v.toInt < (0) ∨ (30) < v.toInt)))) := h4
    rcases h4 with (⟨rfl, h4_a0, h4_a1⟩ | ⟨rfl, h4_a0⟩)
    · refine lv_if_ne (tgt := 23) hx hb dX9_fall_17 (by decide) (fun _ => ?_) (fun c9 => absurd c9 (by decide))
      refine lv_aload_n hx hb dX9_fall_23 rfl (lv_at hl 0 rfl) ?_
      refine va_get (D := (dC, dI)) (ci := 9) (v := .ref (a 4)) (C := RX9) (T := TX9) (N := 11) hx hb hts inX9 hown hK hP 0 rfl rfl 2 (by decide) lf28 (fun _ h9 => h9) rfl dX9_fall_24 ?_
      refine va_getN (D := (dC, dI)) (ci := 1) (v := .ref (a 13)) (C := RX1) (T := TX1) (N := 13) hx hb hts inX1 hown hK hP 1 rfl rfl 9 (by decide) lf122 (fun _ h9 => h9) rfl dX9_fall_27 ?_
      refine lv_iload_n hx hb dX9_fall_30 rfl (lv_at hl 1 rfl) ?_
      have b5 : vp_in k 11 := inC rfl (by omega) (by omega)
      refine va_iald hx hb hK hP 10 0 rfl rfl b5 dX9_fall_31 ?_
      have g6 : 0 ≤ (fal k.toNatClampNeg).toInt ∧ (fal k.toNatClampNeg).toInt ≤ 30 := rg_at r_fal b5
      refine lv_topi (fun x7 ex7 => ?_)
      have ix7 : x7.toInt = (fal k.toNatClampNeg).toInt := by rw [ex7]
      refine lv_istore_n (lv' := [(3, .int x7), (0, .ref (a 43)), (1, .int k), (2, .int v)]) hx hb dX9_fall_32 rfl hl (by decide) rfl (fun ls hl => ?_)
      refine lv_aload_n hx hb dX9_fall_33 rfl (lv_at hl 1 rfl) ?_
      refine va_get (D := (dC, dI)) (ci := 9) (v := .ref (a 4)) (C := RX9) (T := TX9) (N := 11) hx hb hts inX9 hown hK hP 0 rfl rfl 2 (by decide) lf28 (fun _ h9 => h9) rfl dX9_fall_34 ?_
      refine va_getN (D := (dC, dI)) (ci := 1) (v := .ref (a 13)) (C := RX1) (T := TX1) (N := 13) hx hb hts inX1 hown hK hP 1 rfl rfl 9 (by decide) lf122 (fun _ h9 => h9) rfl dX9_fall_37 ?_
      refine lv_iload_n hx hb dX9_fall_40 rfl (lv_at hl 2 rfl) ?_
      refine lv_iload_n hx hb dX9_fall_41 rfl (lv_at hl 3 rfl) ?_
      have b8 : vp_in k 11 := inC rfl (by omega) (by omega)
      have g9 : rg 11 (0) (30) (upd fal k.toNatClampNeg v) := rg_upd r_fal rfl (by omega) (by omega)
      refine va_iast hx hb hK hP hD hS 10 0 rfl rfl b8 dX9_fall_42 (fun H locs hP hD hS => ?_)
      obtain ⟨fal_u10, efal_u10⟩ : ∃ f : Nat → Int32, f = upd fal k.toNatClampNeg v := ⟨_, rfl⟩
      have rfal_u10 : rg 11 (0) (30) fal_u10 := by rw [efal_u10]; exact g9
      have hP : va_P (dC, dI) vwCl (wsC cI cZ cQ a rb0 rb1 rb2 db0 db1 db2 top str gho ghs pto cro pla wal fal_u10 tel gai day mar) H := by rw [efal_u10]; exact hP
      have hD : va_D A (wsC cI cZ cQ a rb0 rb1 rb2 db0 db1 db2 top str gho ghs pto cro pla wal fal_u10 tel gai day mar) := by rw [efal_u10]; exact hD
      refine lv_iload_n hx hb dX9_fall_43 rfl (lv_at hl 0 rfl) ?_
      exact W.iret (v := x7) hx hb hr (fun tq ht hW => ⟨⟨x7, (uS [fal_u10] 0 (fun _ => 0)), rfl, ⟨(show spFall fal k v x7 fal_u10 from by (unfold spFall; subst_vars; first | exact Or.inl (⟨by omega, rfl, rfl⟩) | exact Or.inr (⟨by omega, by omega, rfl, rfl⟩))), rfal_u10⟩, by rw [ht]; exact hP, hD⟩, hS.F ht⟩) hS.2.2 dX9_fall_44
    · refine lv_if_ne (tgt := 23) hx hb dX9_fall_17 (by decide) (fun c9 => absurd (by decide) c9) (fun _ => ?_)
      refine lv_bipush (v := (-3)) hx hb dX9_fall_20 (by decide) ?_
      exact W.iret (v := (-3)) hx hb hr (fun tq ht hW => ⟨⟨(-3), (uS [fal] 0 (fun _ => 0)), rfl, ⟨(show spFall fal k v ((-3) : Int32) fal from by (try rw [show ((-3) : Int32).toInt = (-3) from (show ((-3) : Int32).toInt = (-3) from rfl)]); (unfold spFall; subst_vars; first | exact Or.inl (⟨by omega, rfl, rfl⟩) | exact Or.inr (⟨by omega, by omega, rfl, rfl⟩))), r_fal⟩, by rw [ht]; exact hP, hD⟩, hS.F ht⟩) hS.2.2 dX9_fall_22
  · refine lv_if_eq (tgt := 20) hx hb dX9_fall_7 (by decide) (fun _ => ?_) (fun c9 => absurd (by decide) c9)
    refine lv_bipush (v := (-3)) hx hb dX9_fall_20 (by decide) ?_
    exact W.iret (v := (-3)) hx hb hr (fun tq ht hW => ⟨⟨(-3), (uS [fal] 0 (fun _ => 0)), rfl, ⟨(show spFall fal k v ((-3) : Int32) fal from by (try rw [show ((-3) : Int32).toInt = (-3) from (show ((-3) : Int32).toInt = (-3) from rfl)]); (unfold spFall; subst_vars; first | exact Or.inl (⟨by omega, rfl, rfl⟩) | exact Or.inr (⟨by omega, by omega, rfl, rfl⟩))), r_fal⟩, by rw [ht]; exact hP, hD⟩, hS.F ht⟩) hS.2.2 dX9_fall_22

