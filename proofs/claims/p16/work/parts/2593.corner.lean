set_option maxHeartbeats 4000000 in
set_option maxRecDepth 100000 in
theorem k_X1_cover3 (l : Launch) (dC : Nat → ClassId) (dI : Nat → Nat → Nat) (cI cZ cQ : ClassId) (a : Nat → Nat) (top : Nat → Int32) (str : Nat → Int32) (gho : Nat → Int32) (ghs : Nat → Int32) (pto : Nat → Int32) (cro : Nat → Int32) (pla : Nat → Int32) (wal : Nat → Int32) (fal : Nat → Int32) (tel : Int32) (gai : Int32) (day : Int32) (mar : Nat → Int32) (sz : Nat) (co : Int32) (th : Int32) (r_top : rg 48 (-1) (23) top) (r_str : rg 48 (0) (100) str) (r_gho : rg 48 (-1) (23) gho) (r_ghs : rg 48 (0) (100) ghs) (r_cro : rg 48 (0) (6) cro) (r_pla : rg 24 (-1) (47) pla) (r_fal : rg 11 (0) (30) fal) (r_gai : 0 ≤ gai.toInt ∧ gai.toInt ≤ 100) (r_day : 0 ≤ day.toInt ∧ day.toInt ≤ 400) (r_mar : rg 24 (0) (255) mar) (q0 : 0 ≤ co.toInt) (q1 : co.toInt ≤ 47) (q2 : 0 ≤ th.toInt) (q3 : th.toInt ≤ 23) : KV l yX1_cover wsX1_cover { frames := 0, cells := 0, slots := 0, locals := 0 } (dC, dI) (TY cI cZ cQ) (wCor cI cZ cQ a top str gho ghs pto cro pla wal fal tel gai day mar) [.ref (a 4), .int co, .int th] sz 0 0 (fun (u : US) => ((u.1 0) = upd top co.toNatClampNeg th) ∧ ((top co.toNatClampNeg = -1 ∧ (u.1 5) = upd pla th.toNatClampNeg co) ∨ (top co.toNatClampNeg ≠ -1 ∧ (u.1 5) = upd (upd pla (top co.toNatClampNeg).toNatClampNeg (-1)) th.toNatClampNeg co)) ∧ (cvC top str gho ghs pto day co (u.1 1) (u.1 2) (u.1 3) (u.1 4)) ∧ (rg 48 (-1) (23) (u.1 0)) ∧ (rg 48 (0) (100) (u.1 1)) ∧ (rg 48 (-1) (23) (u.1 2)) ∧ (rg 48 (0) (100) (u.1 3)) ∧ (rg 24 (-1) (47) (u.1 5))) (fun u : US => (wCor cI cZ cQ a (u.1 0) (u.1 1) (u.1 2) (u.1 3) (u.1 4) cro (u.1 5) wal fal tel gai day mar)) := by
  refine Met.ofW (cc := cX1_cover) (maxL := 4) (ret := none) (by decide) rfl ?_
  intro p e s m args below meth c s₁ B hml hv
  obtain ⟨rfl, hsz, hP, hK, hD0, hN⟩ := hv
  have hx := B.exec
  have hb := B.bytes
  have hr := B.returns
  have hts := atoms_spec (ws := wsX1_cover) B.pre
  have hown : s.vm.findClass RX1 = some m.cls := findClass_of_methodNamed B.named
  have hlocks := B.notSynchronized
  have lf9 := hts (.fieldLink RX1 9 "PalaceOfRooms$Corners" "top" "[I") (List.mem_cons_of_mem _ (List.mem_append_left _ (List.mem_of_getElem? (i := 0) rfl)))
  have inX1 : ∀ w ∈ wsX10, w ∈ wsX1_cover := fun w h => List.mem_cons_of_mem _ (List.mem_append_right _ h)
  have lf15 := hts (.fieldLink RX1 15 "PalaceOfRooms$Corners" "strength" "[I") (List.mem_cons_of_mem _ (List.mem_append_left _ (List.mem_of_getElem? (i := 3) rfl)))
  have lf24 := hts (.fieldLink RX1 24 "PalaceOfRooms$Corners" "putOn" "[I") (List.mem_cons_of_mem _ (List.mem_append_left _ (List.mem_of_getElem? (i := 5) rfl)))
  have lf62 := hts (.fieldLink RX1 62 "PalaceOfRooms$Corners" "day" "I") (List.mem_cons_of_mem _ (List.mem_append_left _ (List.mem_of_getElem? (i := 6) rfl)))
  have lf30 := hts (.fieldLink RX1 30 "PalaceOfRooms$Corners" "placeOf" "[I") (List.mem_cons_of_mem _ (List.mem_append_left _ (List.mem_of_getElem? (i := 1) rfl)))
  have lf18 := hts (.fieldLink RX1 18 "PalaceOfRooms$Corners" "ghost" "[I") (List.mem_cons_of_mem _ (List.mem_append_left _ (List.mem_of_getElem? (i := 2) rfl)))
  have lf21 := hts (.fieldLink RX1 21 "PalaceOfRooms$Corners" "ghostStrength" "[I") (List.mem_cons_of_mem _ (List.mem_append_left _ (List.mem_of_getElem? (i := 4) rfl)))
  subst hsz
  have hD := hD0.self (sz := s.heap.size)
  generalize hAe : va_A (wCor cI cZ cQ a top str gho ghs pto cro pla wal fal tel gai day mar) s.heap.size = A at hD ⊢
  have hA : ∀ q : Nat, s.heap.size ≤ q → A q := fun q h => by rw [← hAe]; exact Or.inr h
  have hS : va_S A s.heap s.heap [] := va_S.rf
  have hl := lv_entry ([.ref (a 4), .int co, .int th]) (n := 4) (Nat.le_of_ble_eq_true rfl)
  rw [lg_entry_eq]
  generalize (lg_sl ([.ref (a 4), .int co, .int th]) ++ List.replicate (4 - (lg_sl ([.ref (a 4), .int co, .int th])).length) Slot.unset).toArray = ls at hl ⊢
  have hl : lv_has ls 4 [(0, .ref (a 4)), (1, .int co), (2, .int th)] := hl
  refine lv_aload_n hx hb dX1_cover_0 rfl (lv_at hl 0 rfl) ?_
  refine va_get (D := (dC, dI)) (ci := 1) (v := .ref (a 5)) (C := RX1) (T := TX1) (N := 13) hx hb hts inX1 hown hK hP 0 rfl rfl 1 (by decide) lf9 (fun _ h9 => h9) rfl dX1_cover_1 ?_
  refine lv_iload_n hx hb dX1_cover_4 rfl (lv_at hl 1 rfl) ?_
  have b1 : vp_in co 48 := inC rfl (by omega) (by omega)
  refine va_iald hx hb hK hP 1 0 rfl rfl b1 dX1_cover_5 ?_
  have g2 : -1 ≤ (top co.toNatClampNeg).toInt ∧ (top co.toNatClampNeg).toInt ≤ 23 := rg_at r_top b1
  refine lv_topi (fun x3 ex3 => ?_)
  have ix3 : x3.toInt = (top co.toNatClampNeg).toInt := by rw [ex3]
  refine lv_istore_n (lv' := [(3, .int x3), (0, .ref (a 4)), (1, .int co), (2, .int th)]) hx hb dX1_cover_6 rfl hl (by decide) rfl (fun ls hl => ?_)
  refine lv_iload_n hx hb dX1_cover_7 rfl (lv_at hl 0 rfl) ?_
  refine lv_iconst (v := (-1)) hx hb dX1_cover_8 (by decide) ?_
  refine lv_icmp_eq (tgt := 51) hx hb dX1_cover_9 (by decide) (fun c4 => ?_) (fun c4 => ?_)
  · have dc4 : x3.toInt = (-1) := eqC rfl (show ((-1) : Int32).toInt = (-1) from rfl) c4
    refine lv_aload_n hx hb dX1_cover_51 rfl (lv_at hl 1 rfl) ?_
    refine va_get (D := (dC, dI)) (ci := 1) (v := .ref (a 5)) (C := RX1) (T := TX1) (N := 13) hx hb hts inX1 hown hK hP 0 rfl rfl 1 (by decide) lf9 (fun _ h9 => h9) rfl dX1_cover_52 ?_
    refine lv_iload_n hx hb dX1_cover_55 rfl (lv_at hl 2 rfl) ?_
    refine lv_iload_n hx hb dX1_cover_56 rfl (lv_at hl 3 rfl) ?_
    have b5 : vp_in co 48 := inC rfl (by omega) (by omega)
    have g6 : rg 48 (-1) (23) (upd top co.toNatClampNeg th) := rg_upd r_top rfl (by omega) (by omega)
    refine va_iast hx hb hK hP hD hS 1 0 rfl rfl b5 dX1_cover_57 (fun H locs hP hD hS => ?_)
    obtain ⟨top_u7, etop_u7⟩ : ∃ f : Nat → Int32, f = upd top co.toNatClampNeg th := ⟨_, rfl⟩
    have rtop_u7 : rg 48 (-1) (23) top_u7 := by rw [etop_u7]; exact g6
    have hP : va_P (dC, dI) vwCl (wCor cI cZ cQ a top_u7 str gho ghs pto cro pla wal fal tel gai day mar) H := by rw [etop_u7]; exact hP
    have hD : va_D A (wCor cI cZ cQ a top_u7 str gho ghs pto cro pla wal fal tel gai day mar) := by rw [etop_u7]; exact hD
    refine lv_aload_n hx hb dX1_cover_58 rfl (lv_at hl 1 rfl) ?_
    refine va_get (D := (dC, dI)) (ci := 1) (v := .ref (a 6)) (C := RX1) (T := TX1) (N := 13) hx hb hts inX1 hown hK hP 0 rfl rfl 2 (by decide) lf15 (fun _ h9 => h9) rfl dX1_cover_59 ?_
    refine lv_iload_n hx hb dX1_cover_62 rfl (lv_at hl 2 rfl) ?_
    refine lv_bipush (v := 100) hx hb dX1_cover_63 (by decide) ?_
    have b8 : vp_in co 48 := inC rfl (by omega) (by omega)
    have g9 : rg 48 (0) (100) (upd str co.toNatClampNeg 100) := rg_upd r_str (show (100 : Int32).toInt = 100 from rfl) (by omega) (by omega)
    refine va_iast hx hb hK hP hD hS 2 0 rfl rfl b8 dX1_cover_65 (fun H locs hP hD hS => ?_)
    obtain ⟨str_u10, estr_u10⟩ : ∃ f : Nat → Int32, f = upd str co.toNatClampNeg 100 := ⟨_, rfl⟩
    have rstr_u10 : rg 48 (0) (100) str_u10 := by rw [estr_u10]; exact g9
    have hP : va_P (dC, dI) vwCl (wCor cI cZ cQ a top_u7 str_u10 gho ghs pto cro pla wal fal tel gai day mar) H := by rw [estr_u10]; exact hP
    have hD : va_D A (wCor cI cZ cQ a top_u7 str_u10 gho ghs pto cro pla wal fal tel gai day mar) := by rw [estr_u10]; exact hD
    refine lv_aload_n hx hb dX1_cover_66 rfl (lv_at hl 1 rfl) ?_
    refine va_get (D := (dC, dI)) (ci := 1) (v := .ref (a 9)) (C := RX1) (T := TX1) (N := 13) hx hb hts inX1 hown hK hP 0 rfl rfl 5 (by decide) lf24 (fun _ h9 => h9) rfl dX1_cover_67 ?_
    refine lv_iload_n hx hb dX1_cover_70 rfl (lv_at hl 2 rfl) ?_
    refine lv_aload_n hx hb dX1_cover_71 rfl (lv_at hl 1 rfl) ?_
    refine va_get (D := (dC, dI)) (ci := 1) (v := .int day) (C := RX1) (T := TX1) (N := 13) hx hb hts inX1 hown hK hP 0 rfl rfl 12 (by decide) lf62 (fun _ h9 => h9) rfl dX1_cover_72 ?_
    have b11 : vp_in co 48 := inC rfl (by omega) (by omega)
    refine va_iast hx hb hK hP hD hS 5 0 rfl rfl b11 dX1_cover_75 (fun H locs hP hD hS => ?_)
    obtain ⟨pto_u12, epto_u12⟩ : ∃ f : Nat → Int32, f = upd pto co.toNatClampNeg day := ⟨_, rfl⟩
    have hP : va_P (dC, dI) vwCl (wCor cI cZ cQ a top_u7 str_u10 gho ghs pto_u12 cro pla wal fal tel gai day mar) H := by rw [epto_u12]; exact hP
    have hD : va_D A (wCor cI cZ cQ a top_u7 str_u10 gho ghs pto_u12 cro pla wal fal tel gai day mar) := by rw [epto_u12]; exact hD
    refine lv_aload_n hx hb dX1_cover_76 rfl (lv_at hl 1 rfl) ?_
    refine va_get (D := (dC, dI)) (ci := 1) (v := .ref (a 11)) (C := RX1) (T := TX1) (N := 13) hx hb hts inX1 hown hK hP 0 rfl rfl 7 (by decide) lf30 (fun _ h9 => h9) rfl dX1_cover_77 ?_
    refine lv_iload_n hx hb dX1_cover_80 rfl (lv_at hl 3 rfl) ?_
    refine lv_iload_n hx hb dX1_cover_81 rfl (lv_at hl 2 rfl) ?_
    have b13 : vp_in th 24 := inC rfl (by omega) (by omega)
    have g14 : rg 24 (-1) (47) (upd pla th.toNatClampNeg co) := rg_upd r_pla rfl (by omega) (by omega)
    refine va_iast hx hb hK hP hD hS 7 0 rfl rfl b13 dX1_cover_82 (fun H locs hP hD hS => ?_)
    obtain ⟨pla_u15, epla_u15⟩ : ∃ f : Nat → Int32, f = upd pla th.toNatClampNeg co := ⟨_, rfl⟩
    have rpla_u15 : rg 24 (-1) (47) pla_u15 := by rw [epla_u15]; exact g14
    have hP : va_P (dC, dI) vwCl (wCor cI cZ cQ a top_u7 str_u10 gho ghs pto_u12 cro pla_u15 wal fal tel gai day mar) H := by rw [epla_u15]; exact hP
    have hD : va_D A (wCor cI cZ cQ a top_u7 str_u10 gho ghs pto_u12 cro pla_u15 wal fal tel gai day mar) := by rw [epla_u15]; exact hD
    exact W.vret hx hb hr (fun tq ht hW => ⟨⟨(uS [top_u7, str_u10, gho, ghs, pto_u12, pla_u15] 0 (fun _ => 0)), rfl, ⟨(show top_u7 = upd top co.toNatClampNeg th from by (subst_vars; rfl)), (show (top co.toNatClampNeg = -1 ∧ pla_u15 = upd pla th.toNatClampNeg co) ∨ (top co.toNatClampNeg ≠ -1 ∧ pla_u15 = upd (upd pla (top co.toNatClampNeg).toNatClampNeg (-1)) th.toNatClampNeg co) from by (subst_vars; first | exact Or.inl ⟨by (first | assumption | exact Eq.symm (by assumption)), rfl⟩ | exact Or.inr ⟨by (first | assumption | exact Eq.symm (by assumption)), rfl⟩)), (show cvC top str gho ghs pto day co str_u10 gho ghs pto_u12 from by (subst_vars; refine ⟨rfl, rfl, ?_⟩; first | exact Or.inl ⟨by (first | assumption | exact Eq.symm (by assumption)), rfl, rfl⟩ | exact Or.inr (Or.inl ⟨by (first | assumption | exact Eq.symm (by assumption)), by omega, rfl, rfl⟩) | exact Or.inr (Or.inr ⟨by (first | assumption | exact Eq.symm (by assumption)), by omega, rfl, rfl⟩))), rtop_u7, rstr_u10, r_gho, r_ghs, rpla_u15⟩, by rw [ht]; exact hP, hD⟩, hS.F ht⟩) hS.2.2 dX1_cover_83
  · have dc4 : 0 ≤ x3.toInt := ka_lo (by omega) (neC rfl (show ((-1) : Int32).toInt = (-1) from rfl) c4)
    refine lv_aload_n hx hb dX1_cover_12 rfl (lv_at hl 1 rfl) ?_
    refine va_get (D := (dC, dI)) (ci := 1) (v := .ref (a 11)) (C := RX1) (T := TX1) (N := 13) hx hb hts inX1 hown hK hP 0 rfl rfl 7 (by decide) lf30 (fun _ h9 => h9) rfl dX1_cover_13 ?_
    refine lv_iload_n hx hb dX1_cover_16 rfl (lv_at hl 0 rfl) ?_
    refine lv_iconst (v := (-1)) hx hb dX1_cover_17 (by decide) ?_
    have b16 : vp_in x3 24 := inC rfl (by omega) (by omega)
    have g17 : rg 24 (-1) (47) (upd pla x3.toNatClampNeg (-1)) := rg_upd r_pla (show ((-1) : Int32).toInt = (-1) from rfl) (by omega) (by omega)
    refine va_iast hx hb hK hP hD hS 7 0 rfl rfl b16 dX1_cover_18 (fun H locs hP hD hS => ?_)
    obtain ⟨pla_u18, epla_u18⟩ : ∃ f : Nat → Int32, f = upd pla x3.toNatClampNeg (-1) := ⟨_, rfl⟩
    have rpla_u18 : rg 24 (-1) (47) pla_u18 := by rw [epla_u18]; exact g17
    have hP : va_P (dC, dI) vwCl (wCor cI cZ cQ a top str gho ghs pto cro pla_u18 wal fal tel gai day mar) H := by rw [epla_u18]; exact hP
    have hD : va_D A (wCor cI cZ cQ a top str gho ghs pto cro pla_u18 wal fal tel gai day mar) := by rw [epla_u18]; exact hD
    refine lv_aload_n hx hb dX1_cover_19 rfl (lv_at hl 1 rfl) ?_
    refine va_get (D := (dC, dI)) (ci := 1) (v := .ref (a 7)) (C := RX1) (T := TX1) (N := 13) hx hb hts inX1 hown hK hP 0 rfl rfl 3 (by decide) lf18 (fun _ h9 => h9) rfl dX1_cover_20 ?_
    refine lv_iload_n hx hb dX1_cover_23 rfl (lv_at hl 2 rfl) ?_
    refine lv_aload_n hx hb dX1_cover_24 rfl (lv_at hl 1 rfl) ?_
    refine va_get (D := (dC, dI)) (ci := 1) (v := .ref (a 6)) (C := RX1) (T := TX1) (N := 13) hx hb hts inX1 hown hK hP 0 rfl rfl 2 (by decide) lf15 (fun _ h9 => h9) rfl dX1_cover_25 ?_
    refine lv_iload_n hx hb dX1_cover_28 rfl (lv_at hl 2 rfl) ?_
    have b19 : vp_in co 48 := inC rfl (by omega) (by omega)
    refine va_iald hx hb hK hP 2 0 rfl rfl b19 dX1_cover_29 ?_
    have g20 : 0 ≤ (str co.toNatClampNeg).toInt ∧ (str co.toNatClampNeg).toInt ≤ 100 := rg_at r_str b19
    refine lv_if_le (tgt := 37) hx hb dX1_cover_30 (by decide) (fun c21 => ?_) (fun c21 => ?_)
    · have dc21 : (str co.toNatClampNeg).toInt ≤ 0 := leC rfl (show (0 : Int32).toInt = 0 from rfl) c21
      refine lv_iconst (v := (-1)) hx hb dX1_cover_37 (by decide) ?_
      have b22 : vp_in co 48 := inC rfl (by omega) (by omega)
      have g23 : rg 48 (-1) (23) (upd gho co.toNatClampNeg (-1)) := rg_upd r_gho (show ((-1) : Int32).toInt = (-1) from rfl) (by omega) (by omega)
      refine va_iast hx hb hK hP hD hS 3 0 rfl rfl b22 dX1_cover_38 (fun H locs hP hD hS => ?_)
      obtain ⟨gho_u24, egho_u24⟩ : ∃ f : Nat → Int32, f = upd gho co.toNatClampNeg (-1) := ⟨_, rfl⟩
      have rgho_u24 : rg 48 (-1) (23) gho_u24 := by rw [egho_u24]; exact g23
      have hP : va_P (dC, dI) vwCl (wCor cI cZ cQ a top str gho_u24 ghs pto cro pla_u18 wal fal tel gai day mar) H := by rw [egho_u24]; exact hP
      have hD : va_D A (wCor cI cZ cQ a top str gho_u24 ghs pto cro pla_u18 wal fal tel gai day mar) := by rw [egho_u24]; exact hD
      refine lv_aload_n hx hb dX1_cover_39 rfl (lv_at hl 1 rfl) ?_
      refine va_get (D := (dC, dI)) (ci := 1) (v := .ref (a 8)) (C := RX1) (T := TX1) (N := 13) hx hb hts inX1 hown hK hP 0 rfl rfl 4 (by decide) lf21 (fun _ h9 => h9) rfl dX1_cover_40 ?_
      refine lv_iload_n hx hb dX1_cover_43 rfl (lv_at hl 2 rfl) ?_
      refine lv_aload_n hx hb dX1_cover_44 rfl (lv_at hl 1 rfl) ?_
      refine va_get (D := (dC, dI)) (ci := 1) (v := .ref (a 6)) (C := RX1) (T := TX1) (N := 13) hx hb hts inX1 hown hK hP 0 rfl rfl 2 (by decide) lf15 (fun _ h9 => h9) rfl dX1_cover_45 ?_
      refine lv_iload_n hx hb dX1_cover_48 rfl (lv_at hl 2 rfl) ?_
      have b25 : vp_in co 48 := inC rfl (by omega) (by omega)
      refine va_iald hx hb hK hP 2 0 rfl rfl b25 dX1_cover_49 ?_
      have g26 : 0 ≤ (str co.toNatClampNeg).toInt ∧ (str co.toNatClampNeg).toInt ≤ 100 := rg_at r_str b25
      refine lv_topi (fun x27 ex27 => ?_)
      have ix27 : x27.toInt = (str co.toNatClampNeg).toInt := by rw [ex27]
      have b28 : vp_in co 48 := inC rfl (by omega) (by omega)
      have g29 : rg 48 (0) (100) (upd ghs co.toNatClampNeg x27) := rg_upd r_ghs rfl (by omega) (by omega)
      refine va_iast hx hb hK hP hD hS 4 0 rfl rfl b28 dX1_cover_50 (fun H locs hP hD hS => ?_)
      obtain ⟨ghs_u30, eghs_u30⟩ : ∃ f : Nat → Int32, f = upd ghs co.toNatClampNeg x27 := ⟨_, rfl⟩
      have rghs_u30 : rg 48 (0) (100) ghs_u30 := by rw [eghs_u30]; exact g29
      have hP : va_P (dC, dI) vwCl (wCor cI cZ cQ a top str gho_u24 ghs_u30 pto cro pla_u18 wal fal tel gai day mar) H := by rw [eghs_u30]; exact hP
      have hD : va_D A (wCor cI cZ cQ a top str gho_u24 ghs_u30 pto cro pla_u18 wal fal tel gai day mar) := by rw [eghs_u30]; exact hD
      refine lv_aload_n hx hb dX1_cover_51 rfl (lv_at hl 1 rfl) ?_
      refine va_get (D := (dC, dI)) (ci := 1) (v := .ref (a 5)) (C := RX1) (T := TX1) (N := 13) hx hb hts inX1 hown hK hP 0 rfl rfl 1 (by decide) lf9 (fun _ h9 => h9) rfl dX1_cover_52 ?_
      refine lv_iload_n hx hb dX1_cover_55 rfl (lv_at hl 2 rfl) ?_
      refine lv_iload_n hx hb dX1_cover_56 rfl (lv_at hl 3 rfl) ?_
      have b31 : vp_in co 48 := inC rfl (by omega) (by omega)
      have g32 : rg 48 (-1) (23) (upd top co.toNatClampNeg th) := rg_upd r_top rfl (by omega) (by omega)
      refine va_iast hx hb hK hP hD hS 1 0 rfl rfl b31 dX1_cover_57 (fun H locs hP hD hS => ?_)
      obtain ⟨top_u33, etop_u33⟩ : ∃ f : Nat → Int32, f = upd top co.toNatClampNeg th := ⟨_, rfl⟩
      have rtop_u33 : rg 48 (-1) (23) top_u33 := by rw [etop_u33]; exact g32
      have hP : va_P (dC, dI) vwCl (wCor cI cZ cQ a top_u33 str gho_u24 ghs_u30 pto cro pla_u18 wal fal tel gai day mar) H := by rw [etop_u33]; exact hP
      have hD : va_D A (wCor cI cZ cQ a top_u33 str gho_u24 ghs_u30 pto cro pla_u18 wal fal tel gai day mar) := by rw [etop_u33]; exact hD
      refine lv_aload_n hx hb dX1_cover_58 rfl (lv_at hl 1 rfl) ?_
      refine va_get (D := (dC, dI)) (ci := 1) (v := .ref (a 6)) (C := RX1) (T := TX1) (N := 13) hx hb hts inX1 hown hK hP 0 rfl rfl 2 (by decide) lf15 (fun _ h9 => h9) rfl dX1_cover_59 ?_
      refine lv_iload_n hx hb dX1_cover_62 rfl (lv_at hl 2 rfl) ?_
      refine lv_bipush (v := 100) hx hb dX1_cover_63 (by decide) ?_
      have b34 : vp_in co 48 := inC rfl (by omega) (by omega)
      have g35 : rg 48 (0) (100) (upd str co.toNatClampNeg 100) := rg_upd r_str (show (100 : Int32).toInt = 100 from rfl) (by omega) (by omega)
      refine va_iast hx hb hK hP hD hS 2 0 rfl rfl b34 dX1_cover_65 (fun H locs hP hD hS => ?_)
      obtain ⟨str_u36, estr_u36⟩ : ∃ f : Nat → Int32, f = upd str co.toNatClampNeg 100 := ⟨_, rfl⟩
      have rstr_u36 : rg 48 (0) (100) str_u36 := by rw [estr_u36]; exact g35
      have hP : va_P (dC, dI) vwCl (wCor cI cZ cQ a top_u33 str_u36 gho_u24 ghs_u30 pto cro pla_u18 wal fal tel gai day mar) H := by rw [estr_u36]; exact hP
      have hD : va_D A (wCor cI cZ cQ a top_u33 str_u36 gho_u24 ghs_u30 pto cro pla_u18 wal fal tel gai day mar) := by rw [estr_u36]; exact hD
      refine lv_aload_n hx hb dX1_cover_66 rfl (lv_at hl 1 rfl) ?_
      refine va_get (D := (dC, dI)) (ci := 1) (v := .ref (a 9)) (C := RX1) (T := TX1) (N := 13) hx hb hts inX1 hown hK hP 0 rfl rfl 5 (by decide) lf24 (fun _ h9 => h9) rfl dX1_cover_67 ?_
      refine lv_iload_n hx hb dX1_cover_70 rfl (lv_at hl 2 rfl) ?_
      refine lv_aload_n hx hb dX1_cover_71 rfl (lv_at hl 1 rfl) ?_
      refine va_get (D := (dC, dI)) (ci := 1) (v := .int day) (C := RX1) (T := TX1) (N := 13) hx hb hts inX1 hown hK hP 0 rfl rfl 12 (by decide) lf62 (fun _ h9 => h9) rfl dX1_cover_72 ?_
      have b37 : vp_in co 48 := inC rfl (by omega) (by omega)
      refine va_iast hx hb hK hP hD hS 5 0 rfl rfl b37 dX1_cover_75 (fun H locs hP hD hS => ?_)
      obtain ⟨pto_u38, epto_u38⟩ : ∃ f : Nat → Int32, f = upd pto co.toNatClampNeg day := ⟨_, rfl⟩
      have hP : va_P (dC, dI) vwCl (wCor cI cZ cQ a top_u33 str_u36 gho_u24 ghs_u30 pto_u38 cro pla_u18 wal fal tel gai day mar) H := by rw [epto_u38]; exact hP
      have hD : va_D A (wCor cI cZ cQ a top_u33 str_u36 gho_u24 ghs_u30 pto_u38 cro pla_u18 wal fal tel gai day mar) := by rw [epto_u38]; exact hD
      refine lv_aload_n hx hb dX1_cover_76 rfl (lv_at hl 1 rfl) ?_
      refine va_get (D := (dC, dI)) (ci := 1) (v := .ref (a 11)) (C := RX1) (T := TX1) (N := 13) hx hb hts inX1 hown hK hP 0 rfl rfl 7 (by decide) lf30 (fun _ h9 => h9) rfl dX1_cover_77 ?_
      refine lv_iload_n hx hb dX1_cover_80 rfl (lv_at hl 3 rfl) ?_
      refine lv_iload_n hx hb dX1_cover_81 rfl (lv_at hl 2 rfl) ?_
      have b39 : vp_in th 24 := inC rfl (by omega) (by omega)
      have g40 : rg 24 (-1) (47) (upd pla_u18 th.toNatClampNeg co) := rg_upd rpla_u18 rfl (by omega) (by omega)
      refine va_iast hx hb hK hP hD hS 7 0 rfl rfl b39 dX1_cover_82 (fun H locs hP hD hS => ?_)
      obtain ⟨pla_u41, epla_u41⟩ : ∃ f : Nat → Int32, f = upd pla_u18 th.toNatClampNeg co := ⟨_, rfl⟩
      have rpla_u41 : rg 24 (-1) (47) pla_u41 := by rw [epla_u41]; exact g40
      have hP : va_P (dC, dI) vwCl (wCor cI cZ cQ a top_u33 str_u36 gho_u24 ghs_u30 pto_u38 cro pla_u41 wal fal tel gai day mar) H := by rw [epla_u41]; exact hP
      have hD : va_D A (wCor cI cZ cQ a top_u33 str_u36 gho_u24 ghs_u30 pto_u38 cro pla_u41 wal fal tel gai day mar) := by rw [epla_u41]; exact hD
      exact W.vret hx hb hr (fun tq ht hW => ⟨⟨(uS [top_u33, str_u36, gho_u24, ghs_u30, pto_u38, pla_u41] 0 (fun _ => 0)), rfl, ⟨(show top_u33 = upd top co.toNatClampNeg th from by (subst_vars; rfl)), (show (top co.toNatClampNeg = -1 ∧ pla_u41 = upd pla th.toNatClampNeg co) ∨ (top co.toNatClampNeg ≠ -1 ∧ pla_u41 = upd (upd pla (top co.toNatClampNeg).toNatClampNeg (-1)) th.toNatClampNeg co) from by (subst_vars; first | exact Or.inl ⟨by (first | assumption | exact Eq.symm (by assumption)), rfl⟩ | exact Or.inr ⟨by (first | assumption | exact Eq.symm (by assumption)), rfl⟩)), (show cvC top str gho ghs pto day co str_u36 gho_u24 ghs_u30 pto_u38 from by (subst_vars; refine ⟨rfl, rfl, ?_⟩; first | exact Or.inl ⟨by (first | assumption | exact Eq.symm (by assumption)), rfl, rfl⟩ | exact Or.inr (Or.inl ⟨by (first | assumption | exact Eq.symm (by assumption)), by omega, rfl, rfl⟩) | exact Or.inr (Or.inr ⟨by (first | assumption | exact Eq.symm (by assumption)), by omega, rfl, rfl⟩))), rtop_u33, rstr_u36, rgho_u24, rghs_u30, rpla_u41⟩, by rw [ht]; exact hP, hD⟩, hS.F ht⟩) hS.2.2 dX1_cover_83
    · have dc21 : 0 < (str co.toNatClampNeg).toInt := nleC rfl (show (0 : Int32).toInt = 0 from rfl) c21
      refine lv_iload_n hx hb dX1_cover_33 rfl (lv_at hl 0 rfl) ?_
      refine lv_goto (tgt := 38) hx hb dX1_cover_34 (by decide) ?_
      have b42 : vp_in co 48 := inC rfl (by omega) (by omega)
      have g43 : rg 48 (-1) (23) (upd gho co.toNatClampNeg x3) := rg_upd r_gho rfl (by omega) (by omega)
      refine va_iast hx hb hK hP hD hS 3 0 rfl rfl b42 dX1_cover_38 (fun H locs hP hD hS => ?_)
      obtain ⟨gho_u44, egho_u44⟩ : ∃ f : Nat → Int32, f = upd gho co.toNatClampNeg x3 := ⟨_, rfl⟩
      have rgho_u44 : rg 48 (-1) (23) gho_u44 := by rw [egho_u44]; exact g43
      have hP : va_P (dC, dI) vwCl (wCor cI cZ cQ a top str gho_u44 ghs pto cro pla_u18 wal fal tel gai day mar) H := by rw [egho_u44]; exact hP
      have hD : va_D A (wCor cI cZ cQ a top str gho_u44 ghs pto cro pla_u18 wal fal tel gai day mar) := by rw [egho_u44]; exact hD
      refine lv_aload_n hx hb dX1_cover_39 rfl (lv_at hl 1 rfl) ?_
      refine va_get (D := (dC, dI)) (ci := 1) (v := .ref (a 8)) (C := RX1) (T := TX1) (N := 13) hx hb hts inX1 hown hK hP 0 rfl rfl 4 (by decide) lf21 (fun _ h9 => h9) rfl dX1_cover_40 ?_
      refine lv_iload_n hx hb dX1_cover_43 rfl (lv_at hl 2 rfl) ?_
      refine lv_aload_n hx hb dX1_cover_44 rfl (lv_at hl 1 rfl) ?_
      refine va_get (D := (dC, dI)) (ci := 1) (v := .ref (a 6)) (C := RX1) (T := TX1) (N := 13) hx hb hts inX1 hown hK hP 0 rfl rfl 2 (by decide) lf15 (fun _ h9 => h9) rfl dX1_cover_45 ?_
      refine lv_iload_n hx hb dX1_cover_48 rfl (lv_at hl 2 rfl) ?_
      have b45 : vp_in co 48 := inC rfl (by omega) (by omega)
      refine va_iald hx hb hK hP 2 0 rfl rfl b45 dX1_cover_49 ?_
      have g46 : 0 ≤ (str co.toNatClampNeg).toInt ∧ (str co.toNatClampNeg).toInt ≤ 100 := rg_at r_str b45
      refine lv_topi (fun x47 ex47 => ?_)
      have ix47 : x47.toInt = (str co.toNatClampNeg).toInt := by rw [ex47]
      have b48 : vp_in co 48 := inC rfl (by omega) (by omega)
      have g49 : rg 48 (0) (100) (upd ghs co.toNatClampNeg x47) := rg_upd r_ghs rfl (by omega) (by omega)
      refine va_iast hx hb hK hP hD hS 4 0 rfl rfl b48 dX1_cover_50 (fun H locs hP hD hS => ?_)
      obtain ⟨ghs_u50, eghs_u50⟩ : ∃ f : Nat → Int32, f = upd ghs co.toNatClampNeg x47 := ⟨_, rfl⟩
      have rghs_u50 : rg 48 (0) (100) ghs_u50 := by rw [eghs_u50]; exact g49
      have hP : va_P (dC, dI) vwCl (wCor cI cZ cQ a top str gho_u44 ghs_u50 pto cro pla_u18 wal fal tel gai day mar) H := by rw [eghs_u50]; exact hP
      have hD : va_D A (wCor cI cZ cQ a top str gho_u44 ghs_u50 pto cro pla_u18 wal fal tel gai day mar) := by rw [eghs_u50]; exact hD
      refine lv_aload_n hx hb dX1_cover_51 rfl (lv_at hl 1 rfl) ?_
      refine va_get (D := (dC, dI)) (ci := 1) (v := .ref (a 5)) (C := RX1) (T := TX1) (N := 13) hx hb hts inX1 hown hK hP 0 rfl rfl 1 (by decide) lf9 (fun _ h9 => h9) rfl dX1_cover_52 ?_
      refine lv_iload_n hx hb dX1_cover_55 rfl (lv_at hl 2 rfl) ?_
      refine lv_iload_n hx hb dX1_cover_56 rfl (lv_at hl 3 rfl) ?_
      have b51 : vp_in co 48 := inC rfl (by omega) (by omega)
      have g52 : rg 48 (-1) (23) (upd top co.toNatClampNeg th) := rg_upd r_top rfl (by omega) (by omega)
      refine va_iast hx hb hK hP hD hS 1 0 rfl rfl b51 dX1_cover_57 (fun H locs hP hD hS => ?_)
      obtain ⟨top_u53, etop_u53⟩ : ∃ f : Nat → Int32, f = upd top co.toNatClampNeg th := ⟨_, rfl⟩
      have rtop_u53 : rg 48 (-1) (23) top_u53 := by rw [etop_u53]; exact g52
      have hP : va_P (dC, dI) vwCl (wCor cI cZ cQ a top_u53 str gho_u44 ghs_u50 pto cro pla_u18 wal fal tel gai day mar) H := by rw [etop_u53]; exact hP
      have hD : va_D A (wCor cI cZ cQ a top_u53 str gho_u44 ghs_u50 pto cro pla_u18 wal fal tel gai day mar) := by rw [etop_u53]; exact hD
      refine lv_aload_n hx hb dX1_cover_58 rfl (lv_at hl 1 rfl) ?_
      refine va_get (D := (dC, dI)) (ci := 1) (v := .ref (a 6)) (C := RX1) (T := TX1) (N := 13) hx hb hts inX1 hown hK hP 0 rfl rfl 2 (by decide) lf15 (fun _ h9 => h9) rfl dX1_cover_59 ?_
      refine lv_iload_n hx hb dX1_cover_62 rfl (lv_at hl 2 rfl) ?_
      refine lv_bipush (v := 100) hx hb dX1_cover_63 (by decide) ?_
      have b54 : vp_in co 48 := inC rfl (by omega) (by omega)
      have g55 : rg 48 (0) (100) (upd str co.toNatClampNeg 100) := rg_upd r_str (show (100 : Int32).toInt = 100 from rfl) (by omega) (by omega)
      refine va_iast hx hb hK hP hD hS 2 0 rfl rfl b54 dX1_cover_65 (fun H locs hP hD hS => ?_)
      obtain ⟨str_u56, estr_u56⟩ : ∃ f : Nat → Int32, f = upd str co.toNatClampNeg 100 := ⟨_, rfl⟩
      have rstr_u56 : rg 48 (0) (100) str_u56 := by rw [estr_u56]; exact g55
      have hP : va_P (dC, dI) vwCl (wCor cI cZ cQ a top_u53 str_u56 gho_u44 ghs_u50 pto cro pla_u18 wal fal tel gai day mar) H := by rw [estr_u56]; exact hP
      have hD : va_D A (wCor cI cZ cQ a top_u53 str_u56 gho_u44 ghs_u50 pto cro pla_u18 wal fal tel gai day mar) := by rw [estr_u56]; exact hD
      refine lv_aload_n hx hb dX1_cover_66 rfl (lv_at hl 1 rfl) ?_
      refine va_get (D := (dC, dI)) (ci := 1) (v := .ref (a 9)) (C := RX1) (T := TX1) (N := 13) hx hb hts inX1 hown hK hP 0 rfl rfl 5 (by decide) lf24 (fun _ h9 => h9) rfl dX1_cover_67 ?_
      refine lv_iload_n hx hb dX1_cover_70 rfl (lv_at hl 2 rfl) ?_
      refine lv_aload_n hx hb dX1_cover_71 rfl (lv_at hl 1 rfl) ?_
      refine va_get (D := (dC, dI)) (ci := 1) (v := .int day) (C := RX1) (T := TX1) (N := 13) hx hb hts inX1 hown hK hP 0 rfl rfl 12 (by decide) lf62 (fun _ h9 => h9) rfl dX1_cover_72 ?_
      have b57 : vp_in co 48 := inC rfl (by omega) (by omega)
      refine va_iast hx hb hK hP hD hS 5 0 rfl rfl b57 dX1_cover_75 (fun H locs hP hD hS => ?_)
      obtain ⟨pto_u58, epto_u58⟩ : ∃ f : Nat → Int32, f = upd pto co.toNatClampNeg day := ⟨_, rfl⟩
      have hP : va_P (dC, dI) vwCl (wCor cI cZ cQ a top_u53 str_u56 gho_u44 ghs_u50 pto_u58 cro pla_u18 wal fal tel gai day mar) H := by rw [epto_u58]; exact hP
      have hD : va_D A (wCor cI cZ cQ a top_u53 str_u56 gho_u44 ghs_u50 pto_u58 cro pla_u18 wal fal tel gai day mar) := by rw [epto_u58]; exact hD
      refine lv_aload_n hx hb dX1_cover_76 rfl (lv_at hl 1 rfl) ?_
      refine va_get (D := (dC, dI)) (ci := 1) (v := .ref (a 11)) (C := RX1) (T := TX1) (N := 13) hx hb hts inX1 hown hK hP 0 rfl rfl 7 (by decide) lf30 (fun _ h9 => h9) rfl dX1_cover_77 ?_
      refine lv_iload_n hx hb dX1_cover_80 rfl (lv_at hl 3 rfl) ?_
      refine lv_iload_n hx hb dX1_cover_81 rfl (lv_at hl 2 rfl) ?_
      have b59 : vp_in th 24 := inC rfl (by omega) (by omega)
      have g60 : rg 24 (-1) (47) (upd pla_u18 th.toNatClampNeg co) := rg_upd rpla_u18 rfl (by omega) (by omega)
      refine va_iast hx hb hK hP hD hS 7 0 rfl rfl b59 dX1_cover_82 (fun H locs hP hD hS => ?_)
      obtain ⟨pla_u61, epla_u61⟩ : ∃ f : Nat → Int32, f = upd pla_u18 th.toNatClampNeg co := ⟨_, rfl⟩
      have rpla_u61 : rg 24 (-1) (47) pla_u61 := by rw [epla_u61]; exact g60
      have hP : va_P (dC, dI) vwCl (wCor cI cZ cQ a top_u53 str_u56 gho_u44 ghs_u50 pto_u58 cro pla_u61 wal fal tel gai day mar) H := by rw [epla_u61]; exact hP
      have hD : va_D A (wCor cI cZ cQ a top_u53 str_u56 gho_u44 ghs_u50 pto_u58 cro pla_u61 wal fal tel gai day mar) := by rw [epla_u61]; exact hD
      exact W.vret hx hb hr (fun tq ht hW => ⟨⟨(uS [top_u53, str_u56, gho_u44, ghs_u50, pto_u58, pla_u61] 0 (fun _ => 0)), rfl, ⟨(show top_u53 = upd top co.toNatClampNeg th from by (subst_vars; rfl)), (show (top co.toNatClampNeg = -1 ∧ pla_u61 = upd pla th.toNatClampNeg co) ∨ (top co.toNatClampNeg ≠ -1 ∧ pla_u61 = upd (upd pla (top co.toNatClampNeg).toNatClampNeg (-1)) th.toNatClampNeg co) from by (subst_vars; first | exact Or.inl ⟨by (first | assumption | exact Eq.symm (by assumption)), rfl⟩ | exact Or.inr ⟨by (first | assumption | exact Eq.symm (by assumption)), rfl⟩)), (show cvC top str gho ghs pto day co str_u56 gho_u44 ghs_u50 pto_u58 from by (subst_vars; refine ⟨rfl, rfl, ?_⟩; first | exact Or.inl ⟨by (first | assumption | exact Eq.symm (by assumption)), rfl, rfl⟩ | exact Or.inr (Or.inl ⟨by (first | assumption | exact Eq.symm (by assumption)), by omega, rfl, rfl⟩) | exact Or.inr (Or.inr ⟨by (first | assumption | exact Eq.symm (by assumption)), by omega, rfl, rfl⟩))), rtop_u53, rstr_u56, rgho_u44, rghs_u50, rpla_u61⟩, by rw [ht]; exact hP, hD⟩, hS.F ht⟩) hS.2.2 dX1_cover_83
set_option maxHeartbeats 4000000 in
set_option maxRecDepth 100000 in
theorem k_X1_takeOff3 (l : Launch) (dC : Nat → ClassId) (dI : Nat → Nat → Nat) (cI cZ cQ : ClassId) (a : Nat → Nat) (top : Nat → Int32) (str : Nat → Int32) (gho : Nat → Int32) (ghs : Nat → Int32) (pto : Nat → Int32) (cro : Nat → Int32) (pla : Nat → Int32) (wal : Nat → Int32) (fal : Nat → Int32) (tel : Int32) (gai : Int32) (day : Int32) (mar : Nat → Int32) (sz : Nat) (co : Int32) (r_top : rg 48 (-1) (23) top) (r_str : rg 48 (0) (100) str) (r_gho : rg 48 (-1) (23) gho) (r_ghs : rg 48 (0) (100) ghs) (r_cro : rg 48 (0) (6) cro) (r_pla : rg 24 (-1) (47) pla) (r_fal : rg 11 (0) (30) fal) (r_gai : 0 ≤ gai.toInt ∧ gai.toInt ≤ 100) (r_day : 0 ≤ day.toInt ∧ day.toInt ≤ 400) (r_mar : rg 24 (0) (255) mar) (q0 : 0 ≤ co.toInt) (q1 : co.toInt ≤ 47) : KV l yX1_takeOff wsX1_takeOff { frames := 0, cells := 0, slots := 0, locals := 0 } (dC, dI) (TY cI cZ cQ) (wCor cI cZ cQ a top str gho ghs pto cro pla wal fal tel gai day mar) [.ref (a 4), .int co] sz 0 0 (fun (u : US) => ((u.1 0) = upd top co.toNatClampNeg (-1)) ∧ ((top co.toNatClampNeg = -1 ∧ (u.1 2) = pla) ∨ (top co.toNatClampNeg ≠ -1 ∧ (u.1 2) = upd pla (top co.toNatClampNeg).toNatClampNeg (-1))) ∧ ((u.1 1) = upd gho co.toNatClampNeg (-1)) ∧ (rg 48 (-1) (23) (u.1 0)) ∧ (rg 48 (-1) (23) (u.1 1)) ∧ (rg 24 (-1) (47) (u.1 2))) (fun u : US => (wCor cI cZ cQ a (u.1 0) str (u.1 1) ghs pto cro (u.1 2) wal fal tel gai day mar)) := by
  refine Met.ofW (cc := cX1_takeOff) (maxL := 3) (ret := none) (by decide) rfl ?_
  intro p e s m args below meth c s₁ B hml hv
  obtain ⟨rfl, hsz, hP, hK, hD0, hN⟩ := hv
  have hx := B.exec
  have hb := B.bytes
  have hr := B.returns
  have hts := atoms_spec (ws := wsX1_takeOff) B.pre
  have hown : s.vm.findClass RX1 = some m.cls := findClass_of_methodNamed B.named
  have hlocks := B.notSynchronized
  have lf9 := hts (.fieldLink RX1 9 "PalaceOfRooms$Corners" "top" "[I") (List.mem_cons_of_mem _ (List.mem_append_left _ (List.mem_of_getElem? (i := 0) rfl)))
  have inX1 : ∀ w ∈ wsX10, w ∈ wsX1_takeOff := fun w h => List.mem_cons_of_mem _ (List.mem_append_right _ h)
  have lf18 := hts (.fieldLink RX1 18 "PalaceOfRooms$Corners" "ghost" "[I") (List.mem_cons_of_mem _ (List.mem_append_left _ (List.mem_of_getElem? (i := 2) rfl)))
  have lf30 := hts (.fieldLink RX1 30 "PalaceOfRooms$Corners" "placeOf" "[I") (List.mem_cons_of_mem _ (List.mem_append_left _ (List.mem_of_getElem? (i := 1) rfl)))
  subst hsz
  have hD := hD0.self (sz := s.heap.size)
  generalize hAe : va_A (wCor cI cZ cQ a top str gho ghs pto cro pla wal fal tel gai day mar) s.heap.size = A at hD ⊢
  have hA : ∀ q : Nat, s.heap.size ≤ q → A q := fun q h => by rw [← hAe]; exact Or.inr h
  have hS : va_S A s.heap s.heap [] := va_S.rf
  have hl := lv_entry ([.ref (a 4), .int co]) (n := 3) (Nat.le_of_ble_eq_true rfl)
  rw [lg_entry_eq]
  generalize (lg_sl ([.ref (a 4), .int co]) ++ List.replicate (3 - (lg_sl ([.ref (a 4), .int co])).length) Slot.unset).toArray = ls at hl ⊢
  have hl : lv_has ls 3 [(0, .ref (a 4)), (1, .int co)] := hl
  refine lv_aload_n hx hb dX1_takeOff_0 rfl (lv_at hl 0 rfl) ?_
  refine va_get (D := (dC, dI)) (ci := 1) (v := .ref (a 5)) (C := RX1) (T := TX1) (N := 13) hx hb hts inX1 hown hK hP 0 rfl rfl 1 (by decide) lf9 (fun _ h9 => h9) rfl dX1_takeOff_1 ?_
  refine lv_iload_n hx hb dX1_takeOff_4 rfl (lv_at hl 1 rfl) ?_
  have b1 : vp_in co 48 := inC rfl (by omega) (by omega)
  refine va_iald hx hb hK hP 1 0 rfl rfl b1 dX1_takeOff_5 ?_
  have g2 : -1 ≤ (top co.toNatClampNeg).toInt ∧ (top co.toNatClampNeg).toInt ≤ 23 := rg_at r_top b1
  refine lv_topi (fun x3 ex3 => ?_)
  have ix3 : x3.toInt = (top co.toNatClampNeg).toInt := by rw [ex3]
  refine lv_istore_n (lv' := [(2, .int x3), (0, .ref (a 4)), (1, .int co)]) hx hb dX1_takeOff_6 rfl hl (by decide) rfl (fun ls hl => ?_)
  refine lv_iload_n hx hb dX1_takeOff_7 rfl (lv_at hl 0 rfl) ?_
  refine lv_iconst (v := (-1)) hx hb dX1_takeOff_8 (by decide) ?_
  refine lv_icmp_eq (tgt := 19) hx hb dX1_takeOff_9 (by decide) (fun c4 => ?_) (fun c4 => ?_)
  · have dc4 : x3.toInt = (-1) := eqC rfl (show ((-1) : Int32).toInt = (-1) from rfl) c4
    refine lv_aload_n hx hb dX1_takeOff_19 rfl (lv_at hl 1 rfl) ?_
    refine va_get (D := (dC, dI)) (ci := 1) (v := .ref (a 5)) (C := RX1) (T := TX1) (N := 13) hx hb hts inX1 hown hK hP 0 rfl rfl 1 (by decide) lf9 (fun _ h9 => h9) rfl dX1_takeOff_20 ?_
    refine lv_iload_n hx hb dX1_takeOff_23 rfl (lv_at hl 2 rfl) ?_
    refine lv_iconst (v := (-1)) hx hb dX1_takeOff_24 (by decide) ?_
    have b5 : vp_in co 48 := inC rfl (by omega) (by omega)
    have g6 : rg 48 (-1) (23) (upd top co.toNatClampNeg (-1)) := rg_upd r_top (show ((-1) : Int32).toInt = (-1) from rfl) (by omega) (by omega)
    refine va_iast hx hb hK hP hD hS 1 0 rfl rfl b5 dX1_takeOff_25 (fun H locs hP hD hS => ?_)
    obtain ⟨top_u7, etop_u7⟩ : ∃ f : Nat → Int32, f = upd top co.toNatClampNeg (-1) := ⟨_, rfl⟩
    have rtop_u7 : rg 48 (-1) (23) top_u7 := by rw [etop_u7]; exact g6
    have hP : va_P (dC, dI) vwCl (wCor cI cZ cQ a top_u7 str gho ghs pto cro pla wal fal tel gai day mar) H := by rw [etop_u7]; exact hP
    have hD : va_D A (wCor cI cZ cQ a top_u7 str gho ghs pto cro pla wal fal tel gai day mar) := by rw [etop_u7]; exact hD
    refine lv_aload_n hx hb dX1_takeOff_26 rfl (lv_at hl 1 rfl) ?_
    refine va_get (D := (dC, dI)) (ci := 1) (v := .ref (a 7)) (C := RX1) (T := TX1) (N := 13) hx hb hts inX1 hown hK hP 0 rfl rfl 3 (by decide) lf18 (fun _ h9 => h9) rfl dX1_takeOff_27 ?_
    refine lv_iload_n hx hb dX1_takeOff_30 rfl (lv_at hl 2 rfl) ?_
    refine lv_iconst (v := (-1)) hx hb dX1_takeOff_31 (by decide) ?_
    have b8 : vp_in co 48 := inC rfl (by omega) (by omega)
    have g9 : rg 48 (-1) (23) (upd gho co.toNatClampNeg (-1)) := rg_upd r_gho (show ((-1) : Int32).toInt = (-1) from rfl) (by omega) (by omega)
    refine va_iast hx hb hK hP hD hS 3 0 rfl rfl b8 dX1_takeOff_32 (fun H locs hP hD hS => ?_)
    obtain ⟨gho_u10, egho_u10⟩ : ∃ f : Nat → Int32, f = upd gho co.toNatClampNeg (-1) := ⟨_, rfl⟩
    have rgho_u10 : rg 48 (-1) (23) gho_u10 := by rw [egho_u10]; exact g9
    have hP : va_P (dC, dI) vwCl (wCor cI cZ cQ a top_u7 str gho_u10 ghs pto cro pla wal fal tel gai day mar) H := by rw [egho_u10]; exact hP
    have hD : va_D A (wCor cI cZ cQ a top_u7 str gho_u10 ghs pto cro pla wal fal tel gai day mar) := by rw [egho_u10]; exact hD
    exact W.vret hx hb hr (fun tq ht hW => ⟨⟨(uS [top_u7, gho_u10, pla] 0 (fun _ => 0)), rfl, ⟨(show top_u7 = upd top co.toNatClampNeg (-1) from by (subst_vars; rfl)), (show (top co.toNatClampNeg = -1 ∧ pla = pla) ∨ (top co.toNatClampNeg ≠ -1 ∧ pla = upd pla (top co.toNatClampNeg).toNatClampNeg (-1)) from by (subst_vars; first | exact Or.inl ⟨by (first | assumption | exact Eq.symm (by assumption)), rfl⟩ | exact Or.inr ⟨by (first | assumption | exact Eq.symm (by assumption)), rfl⟩)), (show gho_u10 = upd gho co.toNatClampNeg (-1) from by (subst_vars; rfl)), rtop_u7, rgho_u10, r_pla⟩, by rw [ht]; exact hP, hD⟩, hS.F ht⟩) hS.2.2 dX1_takeOff_33
  · have dc4 : 0 ≤ x3.toInt := ka_lo (by omega) (neC rfl (show ((-1) : Int32).toInt = (-1) from rfl) c4)
    refine lv_aload_n hx hb dX1_takeOff_12 rfl (lv_at hl 1 rfl) ?_
    refine va_get (D := (dC, dI)) (ci := 1) (v := .ref (a 11)) (C := RX1) (T := TX1) (N := 13) hx hb hts inX1 hown hK hP 0 rfl rfl 7 (by decide) lf30 (fun _ h9 => h9) rfl dX1_takeOff_13 ?_
    refine lv_iload_n hx hb dX1_takeOff_16 rfl (lv_at hl 0 rfl) ?_
    refine lv_iconst (v := (-1)) hx hb dX1_takeOff_17 (by decide) ?_
    have b11 : vp_in x3 24 := inC rfl (by omega) (by omega)
    have g12 : rg 24 (-1) (47) (upd pla x3.toNatClampNeg (-1)) := rg_upd r_pla (show ((-1) : Int32).toInt = (-1) from rfl) (by omega) (by omega)
    refine va_iast hx hb hK hP hD hS 7 0 rfl rfl b11 dX1_takeOff_18 (fun H locs hP hD hS => ?_)
    obtain ⟨pla_u13, epla_u13⟩ : ∃ f : Nat → Int32, f = upd pla x3.toNatClampNeg (-1) := ⟨_, rfl⟩
    have rpla_u13 : rg 24 (-1) (47) pla_u13 := by rw [epla_u13]; exact g12
    have hP : va_P (dC, dI) vwCl (wCor cI cZ cQ a top str gho ghs pto cro pla_u13 wal fal tel gai day mar) H := by rw [epla_u13]; exact hP
    have hD : va_D A (wCor cI cZ cQ a top str gho ghs pto cro pla_u13 wal fal tel gai day mar) := by rw [epla_u13]; exact hD
    refine lv_aload_n hx hb dX1_takeOff_19 rfl (lv_at hl 1 rfl) ?_
    refine va_get (D := (dC, dI)) (ci := 1) (v := .ref (a 5)) (C := RX1) (T := TX1) (N := 13) hx hb hts inX1 hown hK hP 0 rfl rfl 1 (by decide) lf9 (fun _ h9 => h9) rfl dX1_takeOff_20 ?_
    refine lv_iload_n hx hb dX1_takeOff_23 rfl (lv_at hl 2 rfl) ?_
    refine lv_iconst (v := (-1)) hx hb dX1_takeOff_24 (by decide) ?_
    have b14 : vp_in co 48 := inC rfl (by omega) (by omega)
    have g15 : rg 48 (-1) (23) (upd top co.toNatClampNeg (-1)) := rg_upd r_top (show ((-1) : Int32).toInt = (-1) from rfl) (by omega) (by omega)
    refine va_iast hx hb hK hP hD hS 1 0 rfl rfl b14 dX1_takeOff_25 (fun H locs hP hD hS => ?_)
    obtain ⟨top_u16, etop_u16⟩ : ∃ f : Nat → Int32, f = upd top co.toNatClampNeg (-1) := ⟨_, rfl⟩
    have rtop_u16 : rg 48 (-1) (23) top_u16 := by rw [etop_u16]; exact g15
    have hP : va_P (dC, dI) vwCl (wCor cI cZ cQ a top_u16 str gho ghs pto cro pla_u13 wal fal tel gai day mar) H := by rw [etop_u16]; exact hP
    have hD : va_D A (wCor cI cZ cQ a top_u16 str gho ghs pto cro pla_u13 wal fal tel gai day mar) := by rw [etop_u16]; exact hD
    refine lv_aload_n hx hb dX1_takeOff_26 rfl (lv_at hl 1 rfl) ?_
    refine va_get (D := (dC, dI)) (ci := 1) (v := .ref (a 7)) (C := RX1) (T := TX1) (N := 13) hx hb hts inX1 hown hK hP 0 rfl rfl 3 (by decide) lf18 (fun _ h9 => h9) rfl dX1_takeOff_27 ?_
    refine lv_iload_n hx hb dX1_takeOff_30 rfl (lv_at hl 2 rfl) ?_
    refine lv_iconst (v := (-1)) hx hb dX1_takeOff_31 (by decide) ?_
    have b17 : vp_in co 48 := inC rfl (by omega) (by omega)
    have g18 : rg 48 (-1) (23) (upd gho co.toNatClampNeg (-1)) := rg_upd r_gho (show ((-1) : Int32).toInt = (-1) from rfl) (by omega) (by omega)
    refine va_iast hx hb hK hP hD hS 3 0 rfl rfl b17 dX1_takeOff_32 (fun H locs hP hD hS => ?_)
    obtain ⟨gho_u19, egho_u19⟩ : ∃ f : Nat → Int32, f = upd gho co.toNatClampNeg (-1) := ⟨_, rfl⟩
    have rgho_u19 : rg 48 (-1) (23) gho_u19 := by rw [egho_u19]; exact g18
    have hP : va_P (dC, dI) vwCl (wCor cI cZ cQ a top_u16 str gho_u19 ghs pto cro pla_u13 wal fal tel gai day mar) H := by rw [egho_u19]; exact hP
    have hD : va_D A (wCor cI cZ cQ a top_u16 str gho_u19 ghs pto cro pla_u13 wal fal tel gai day mar) := by rw [egho_u19]; exact hD
    exact W.vret hx hb hr (fun tq ht hW => ⟨⟨(uS [top_u16, gho_u19, pla_u13] 0 (fun _ => 0)), rfl, ⟨(show top_u16 = upd top co.toNatClampNeg (-1) from by (subst_vars; rfl)), (show (top co.toNatClampNeg = -1 ∧ pla_u13 = pla) ∨ (top co.toNatClampNeg ≠ -1 ∧ pla_u13 = upd pla (top co.toNatClampNeg).toNatClampNeg (-1)) from by (subst_vars; first | exact Or.inl ⟨by (first | assumption | exact Eq.symm (by assumption)), rfl⟩ | exact Or.inr ⟨by (first | assumption | exact Eq.symm (by assumption)), rfl⟩)), (show gho_u19 = upd gho co.toNatClampNeg (-1) from by (subst_vars; rfl)), rtop_u16, rgho_u19, rpla_u13⟩, by rw [ht]; exact hP, hD⟩, hS.F ht⟩) hS.2.2 dX1_takeOff_33
set_option maxHeartbeats 4000000 in
set_option maxRecDepth 100000 in
theorem k_X9_clear3 (l : Launch) (dC : Nat → ClassId) (dI : Nat → Nat → Nat) (cI cZ cQ : ClassId) (a : Nat → Nat) (rb0 : Nat) (rb1 : Nat) (rb2 : Nat) (db0 : Nat) (db1 : Nat) (db2 : Nat) (top : Nat → Int32) (str : Nat → Int32) (gho : Nat → Int32) (ghs : Nat → Int32) (pto : Nat → Int32) (cro : Nat → Int32) (pla : Nat → Int32) (wal : Nat → Int32) (fal : Nat → Int32) (tel : Int32) (gai : Int32) (day : Int32) (mar : Nat → Int32) (sz : Nat) (co : Int32) (r_top : rg 48 (-1) (23) top) (r_str : rg 48 (0) (100) str) (r_gho : rg 48 (-1) (23) gho) (r_ghs : rg 48 (0) (100) ghs) (r_cro : rg 48 (0) (6) cro) (r_pla : rg 24 (-1) (47) pla) (r_fal : rg 11 (0) (30) fal) (r_gai : 0 ≤ gai.toInt ∧ gai.toInt ≤ 100) (r_day : 0 ≤ day.toInt ∧ day.toInt ≤ 400) (r_mar : rg 24 (0) (255) mar) (q0 : plOK top pla) (q1 : crI top gho ghs) : KW l yX9_clear wsX9_clear { frames := 2, cells := 0, slots := 0, locals := 42 } (dC, dI) (TY cI cZ cQ) (wsC cI cZ cQ a rb0 rb1 rb2 db0 db1 db2 top str gho ghs pto cro pla wal fal tel gai day mar) [.ref (a 43), .int co] sz 0 0 (fun (r : Int32) (u : US) => (spClrC top gho co r (u.1 0) (u.1 1)) ∧ (plOK (u.1 0) (u.1 2)) ∧ (crI (u.1 0) (u.1 1) ghs) ∧ (rg 48 (-1) (23) (u.1 0)) ∧ (rg 48 (-1) (23) (u.1 1)) ∧ (rg 24 (-1) (47) (u.1 2))) (fun u : US => (wsC cI cZ cQ a rb0 rb1 rb2 db0 db1 db2 (u.1 0) str (u.1 1) ghs pto cro (u.1 2) wal fal tel gai day mar)) := by
  refine Met.ofW (cc := cX9_clear) (maxL := 3) (ret := (some .int)) (by decide) rfl ?_
  intro p e s m args below meth c s₁ B hml hv
  obtain ⟨rfl, hsz, hP, hK, hD0, hN⟩ := hv
  have hx := B.exec
  have hb := B.bytes
  have hr := B.returns
  have hts := atoms_spec (ws := wsX9_clear) B.pre
  have hown : s.vm.findClass RX9 = some m.cls := findClass_of_methodNamed B.named
  have hlocks := B.notSynchronized
  have lf28 := hts (.fieldLink RX9 28 "PalaceOfRooms" "corners" "LPalaceOfRooms$Corners;") (List.mem_cons_of_mem _ (List.mem_append_left _ (List.mem_append_left _ (List.mem_of_getElem? (i := 0) rfl))))
  have inX9 : ∀ w ∈ wsX90, w ∈ wsX9_clear := fun w h => List.mem_cons_of_mem _ (List.mem_append_left _ (List.mem_append_right _ h))
  have lf131 := hN.use (w := .fieldLinkNest "PalaceOfRooms" 131 "PalaceOfRooms$Corners" "top" "[I" "PalaceOfRooms") (List.mem_of_getElem? (i := 2) rfl) ([.ref (a 43), .int co] : List Value).toArray
  have inX1 : ∀ w ∈ wsX10, w ∈ wsX9_clear := fun w h => List.mem_cons_of_mem _ (List.mem_append_right _ h)
  subst hsz
  have hD := hD0.self (sz := s.heap.size)
  generalize hAe : va_A (wsC cI cZ cQ a rb0 rb1 rb2 db0 db1 db2 top str gho ghs pto cro pla wal fal tel gai day mar) s.heap.size = A at hD ⊢
  have hA : ∀ q : Nat, s.heap.size ≤ q → A q := fun q h => by rw [← hAe]; exact Or.inr h
  have hS : va_S A s.heap s.heap [] := va_S.rf
  have hl := lv_entry ([.ref (a 43), .int co]) (n := 3) (Nat.le_of_ble_eq_true rfl)
  rw [lg_entry_eq]
  generalize (lg_sl ([.ref (a 43), .int co]) ++ List.replicate (3 - (lg_sl ([.ref (a 43), .int co])).length) Slot.unset).toArray = ls at hl ⊢
  have hl : lv_has ls 3 [(0, .ref (a 43)), (1, .int co)] := hl
  refine lv_iload_n hx hb dX9_clear_0 rfl (lv_at hl 1 rfl) ?_
  refine rdS (As := [.int co]) (rest := []) ⟨hx, hb, hml, hown, hts⟩ (k_X9_isCorner l dC dI cI cZ cQ co) (va_cwS 1 hts gX9_clear_X9_isCorner rfl rfl rfl (by decide +kernel) ⟨Nat.le_of_ble_eq_true rfl, Nat.le_of_ble_eq_true rfl⟩) hP hK hN [] rfl rfl hl.1 rfl (Nat.le_of_ble_eq_true rfl) dX9_clear_1 ⟨Nat.le_of_ble_eq_true rfl, Nat.le_of_ble_eq_true rfl⟩ (fun r1 h2 => ?_)
  have h2 : ((((r1 = 1) ∧ (0 ≤ co.toInt) ∧ (co.toInt ≤ 47)) ∨ ((r1 = 0) ∧ (co.toInt < 0 ∨ 47 < co.toInt)))) := h2
  rcases h2 with (⟨rfl, h2_a0, h2_a1⟩ | ⟨rfl, h2_a0⟩)
  · refine lv_if_ne (tgt := 10) hx hb dX9_clear_4 (by decide) (fun _ => ?_) (fun c9 => absurd c9 (by decide))
    refine lv_aload_n hx hb dX9_clear_10 rfl (lv_at hl 0 rfl) ?_
    refine va_get (D := (dC, dI)) (ci := 9) (v := .ref (a 4)) (C := RX9) (T := TX9) (N := 11) hx hb hts inX9 hown hK hP 0 rfl rfl 2 (by decide) lf28 (fun _ h9 => h9) rfl dX9_clear_11 ?_
    refine va_getN (D := (dC, dI)) (ci := 1) (v := .ref (a 5)) (C := RX1) (T := TX1) (N := 13) hx hb hts inX1 hown hK hP 1 rfl rfl 1 (by decide) lf131 (fun _ h9 => h9) rfl dX9_clear_14 ?_
    refine lv_iload_n hx hb dX9_clear_17 rfl (lv_at hl 1 rfl) ?_
    have b3 : vp_in co 48 := inC rfl (by omega) (by omega)
    refine va_iald hx hb hK hP 2 0 rfl rfl b3 dX9_clear_18 ?_
    have g4 : -1 ≤ (top co.toNatClampNeg).toInt ∧ (top co.toNatClampNeg).toInt ≤ 23 := rg_at r_top b3
    refine lv_topi (fun x5 ex5 => ?_)
    have ix5 : x5.toInt = (top co.toNatClampNeg).toInt := by rw [ex5]
    refine lv_istore_n (lv' := [(2, .int x5), (0, .ref (a 43)), (1, .int co)]) hx hb dX9_clear_19 rfl hl (by decide) rfl (fun ls hl => ?_)
    refine lv_iload_n hx hb dX9_clear_20 rfl (lv_at hl 0 rfl) ?_
    refine lv_iconst (v := (-1)) hx hb dX9_clear_21 (by decide) ?_
    refine lv_icmp_ne (tgt := 28) hx hb dX9_clear_22 (by decide) (fun c6 => ?_) (fun c6 => ?_)
    · have dc6 : 0 ≤ x5.toInt := ka_lo (by omega) (neC rfl (show ((-1) : Int32).toInt = (-1) from rfl) c6)
      refine lv_aload_n hx hb dX9_clear_28 rfl (lv_at hl 1 rfl) ?_
      refine va_get (D := (dC, dI)) (ci := 9) (v := .ref (a 4)) (C := RX9) (T := TX9) (N := 11) hx hb hts inX9 hown hK hP 0 rfl rfl 2 (by decide) lf28 (fun _ h9 => h9) rfl dX9_clear_29 ?_
      refine lv_iload_n hx hb dX9_clear_32 rfl (lv_at hl 2 rfl) ?_
      refine wvV (As := [.int co]) (rest := []) (wr := [((a 43), .inr (9, [.ref (a 0), .ref (a 2), .ref (a 4), .ref (a 14), .ref (a 16), .ref (a 23), .ref (a 28), .ref (a 33), .ref (a 42), .ref rb0, .ref db0]))]) (w2 := (fun u : US => (wsC cI cZ cQ a rb0 rb1 rb2 db0 db1 db2 (u.1 0) str (u.1 1) ghs pto cro (u.1 2) wal fal tel gai day mar))) ⟨hx, hb, hml, hown, hts⟩ (k_X1_takeOff3 l dC dI cI cZ cQ a top str gho ghs pto cro pla wal fal tel gai day mar _ co r_top r_str r_gho r_ghs r_cro r_pla r_fal r_gai r_day r_mar (by omega) (by omega)) (cwV 1 hts gX9_clear_X1_takeOff rfl rfl rfl (by decide +kernel) ⟨Nat.le_of_ble_eq_true rfl, Nat.le_of_ble_eq_true rfl⟩) hP hD hS hA hK hN [1, 2, 3, 4, 5, 6, 7, 8, 9, 10, 11, 12] [0] [0, 1, 2, 3, 4, 5, 6, 7, 8, 9, 10, 11, 12] rfl rfl (by decide) (by decide) (by decide) (fun _ => rfl) (by decide) 1 1 rfl rfl rfl hl.1 rfl (Nat.le_of_ble_eq_true rfl) dX9_clear_33 ⟨Nat.le_of_ble_eq_true rfl, Nat.le_of_ble_eq_true rfl⟩ (fun u9 H locs h8 hP hD hS => ?_)
      obtain ⟨top_c10, etop_c10⟩ : ∃ f : Nat → Int32, f = (u9.1 0) := ⟨_, rfl⟩
      obtain ⟨gho_c11, egho_c11⟩ : ∃ f : Nat → Int32, f = (u9.1 1) := ⟨_, rfl⟩
      obtain ⟨pla_c12, epla_c12⟩ : ∃ f : Nat → Int32, f = (u9.1 2) := ⟨_, rfl⟩
      have hP : va_P (dC, dI) vwCl (wsC cI cZ cQ a rb0 rb1 rb2 db0 db1 db2 top_c10 str gho_c11 ghs pto cro pla_c12 wal fal tel gai day mar) H := by rw [etop_c10, egho_c11, epla_c12]; exact hP
      have hD : va_D A (wsC cI cZ cQ a rb0 rb1 rb2 db0 db1 db2 top_c10 str gho_c11 ghs pto cro pla_c12 wal fal tel gai day mar) := by rw [etop_c10, egho_c11, epla_c12]; exact hD
      have h8 : (top_c10 = upd top co.toNatClampNeg (-1)) ∧ ((top co.toNatClampNeg = -1 ∧ pla_c12 = pla) ∨ (top co.toNatClampNeg ≠ -1 ∧ pla_c12 = upd pla (top co.toNatClampNeg).toNatClampNeg (-1))) ∧ (gho_c11 = upd gho co.toNatClampNeg (-1)) ∧ (rg 48 (-1) (23) top_c10) ∧ (rg 48 (-1) (23) gho_c11) ∧ (rg 24 (-1) (47) pla_c12) := by (try rw [etop_c10]); (try rw [egho_c11]); (try rw [epla_c12]); exact h8
      obtain ⟨h8_0, h8_1, h8_2, h8_3, h8_4, h8_5⟩ := h8
      refine lv_iload_n hx hb dX9_clear_36 rfl (lv_at hl 0 rfl) ?_
      exact W.iret (v := x5) hx hb hr (fun tq ht hW => ⟨⟨x5, (uS [top_c10, gho_c11, pla_c12] 0 (fun _ => 0)), rfl, ⟨(show spClrC top gho co x5 top_c10 gho_c11 from by (first | exact Or.inl ⟨by omega, rfl, rfl, rfl⟩ | exact clrC_no (by omega) (by assumption) (by assumption) | exact clrC_ok (by omega) (by assumption) (by assumption) (by assumption) (by assumption))), (show plOK top_c10 pla_c12 from by (first | exact q0 | exact pl_clear (c := co) q0 (by omega) r_top (by assumption) (by assumption) (by assumption) (by assumption))), (show crI top_c10 gho_c11 ghs from by (first | exact q1 | exact crI_clr (c := co) q1 (by assumption) (by assumption))), h8_3, h8_4, h8_5⟩, by rw [ht]; exact hP, hD⟩, hS.F ht⟩) hS.2.2 dX9_clear_37
    · have dc6 : x5.toInt = (-1) := eqC rfl (show ((-1) : Int32).toInt = (-1) from rfl) c6
      refine lv_bipush (v := (-4)) hx hb dX9_clear_25 (by decide) ?_
      exact W.iret (v := (-4)) hx hb hr (fun tq ht hW => ⟨⟨(-4), (uS [top, gho, pla] 0 (fun _ => 0)), rfl, ⟨(show spClrC top gho co ((-4) : Int32) top gho from by (try rw [show ((-4) : Int32).toInt = (-4) from (show ((-4) : Int32).toInt = (-4) from rfl)]); (first | exact Or.inl ⟨by omega, rfl, rfl, rfl⟩ | exact clrC_no (by omega) (by assumption) (by assumption) | exact clrC_ok (by omega) (by assumption) (by assumption) (by assumption) (by assumption))), (show plOK top pla from by (try rw [show ((-4) : Int32).toInt = (-4) from (show ((-4) : Int32).toInt = (-4) from rfl)]); (first | exact q0 | exact pl_clear (c := co) q0 (by omega) r_top (by assumption) (by assumption) (by assumption) (by assumption))), (show crI top gho ghs from by (try rw [show ((-4) : Int32).toInt = (-4) from (show ((-4) : Int32).toInt = (-4) from rfl)]); (first | exact q1 | exact crI_clr (c := co) q1 (by assumption) (by assumption))), r_top, r_gho, r_pla⟩, by rw [ht]; exact hP, hD⟩, hS.F ht⟩) hS.2.2 dX9_clear_27
  · refine lv_if_ne (tgt := 10) hx hb dX9_clear_4 (by decide) (fun c9 => absurd (by decide) c9) (fun _ => ?_)
    refine lv_bipush (v := (-2)) hx hb dX9_clear_7 (by decide) ?_
    exact W.iret (v := (-2)) hx hb hr (fun tq ht hW => ⟨⟨(-2), (uS [top, gho, pla] 0 (fun _ => 0)), rfl, ⟨(show spClrC top gho co ((-2) : Int32) top gho from by (try rw [show ((-2) : Int32).toInt = (-2) from (show ((-2) : Int32).toInt = (-2) from rfl)]); (first | exact Or.inl ⟨by omega, rfl, rfl, rfl⟩ | exact clrC_no (by omega) (by assumption) (by assumption) | exact clrC_ok (by omega) (by assumption) (by assumption) (by assumption) (by assumption))), (show plOK top pla from by (try rw [show ((-2) : Int32).toInt = (-2) from (show ((-2) : Int32).toInt = (-2) from rfl)]); (first | exact q0 | exact pl_clear (c := co) q0 (by omega) r_top (by assumption) (by assumption) (by assumption) (by assumption))), (show crI top gho ghs from by (try rw [show ((-2) : Int32).toInt = (-2) from (show ((-2) : Int32).toInt = (-2) from rfl)]); (first | exact q1 | exact crI_clr (c := co) q1 (by assumption) (by assumption))), r_top, r_gho, r_pla⟩, by rw [ht]; exact hP, hD⟩, hS.F ht⟩) hS.2.2 dX9_clear_9
set_option maxHeartbeats 4000000 in
set_option maxRecDepth 100000 in
theorem k_X9_corner2 (l : Launch) (dC : Nat → ClassId) (dI : Nat → Nat → Nat) (cI cZ cQ : ClassId) (a : Nat → Nat) (rb0 : Nat) (rb1 : Nat) (rb2 : Nat) (db0 : Nat) (db1 : Nat) (db2 : Nat) (top : Nat → Int32) (str : Nat → Int32) (gho : Nat → Int32) (ghs : Nat → Int32) (pto : Nat → Int32) (cro : Nat → Int32) (pla : Nat → Int32) (wal : Nat → Int32) (fal : Nat → Int32) (tel : Int32) (gai : Int32) (day : Int32) (mar : Nat → Int32) (co : Int32) (wh : Int32) (r_top : rg 48 (-1) (23) top) (r_str : rg 48 (0) (100) str) (r_gho : rg 48 (-1) (23) gho) (r_ghs : rg 48 (0) (100) ghs) (r_cro : rg 48 (0) (6) cro) (r_pla : rg 24 (-1) (47) pla) (r_fal : rg 11 (0) (30) fal) (r_gai : 0 ≤ gai.toInt ∧ gai.toInt ≤ 100) (r_day : 0 ≤ day.toInt ∧ day.toInt ≤ 400) (r_mar : rg 24 (0) (255) mar) : KR l yX9_corner wsX9_corner { frames := 2, cells := 0, slots := 0, locals := 42 } (dC, dI) (TY cI cZ cQ) (wsC cI cZ cQ a rb0 rb1 rb2 db0 db1 db2 top str gho ghs pto cro pla wal fal tel gai day mar) [.ref (a 43), .int co, .int wh] (fun r : Int32 => (spCor top str gho ghs pto co wh r)) := by
  refine Met.ofW (cc := cX9_corner) (maxL := 3) (ret := (some .int)) (by decide) rfl ?_
  intro p e s m args below meth c s₁ B hml hv
  obtain ⟨rfl, hP, hK, hN⟩ := hv
  have hx := B.exec
  have hb := B.bytes
  have hr := B.returns
  have hts := atoms_spec (ws := wsX9_corner) B.pre
  have hown : s.vm.findClass RX9 = some m.cls := findClass_of_methodNamed B.named
  have hlocks := B.notSynchronized
  have lf28 := hts (.fieldLink RX9 28 "PalaceOfRooms" "corners" "LPalaceOfRooms$Corners;") (List.mem_cons_of_mem _ (List.mem_append_left _ (List.mem_append_left _ (List.mem_of_getElem? (i := 0) rfl))))
  have inX9 : ∀ w ∈ wsX90, w ∈ wsX9_corner := fun w h => List.mem_cons_of_mem _ (List.mem_append_left _ (List.mem_append_right _ h))
  have lf131 := hN.use (w := .fieldLinkNest "PalaceOfRooms" 131 "PalaceOfRooms$Corners" "top" "[I" "PalaceOfRooms") (List.mem_of_getElem? (i := 2) rfl) ([.ref (a 43), .int co, .int wh] : List Value).toArray
  have inX1 : ∀ w ∈ wsX10, w ∈ wsX9_corner := fun w h => List.mem_cons_of_mem _ (List.mem_append_right _ h)
  have lf141 := hN.use (w := .fieldLinkNest "PalaceOfRooms" 141 "PalaceOfRooms$Corners" "strength" "[I" "PalaceOfRooms") (List.mem_of_getElem? (i := 4) rfl) ([.ref (a 43), .int co, .int wh] : List Value).toArray
  have lf144 := hN.use (w := .fieldLinkNest "PalaceOfRooms" 144 "PalaceOfRooms$Corners" "ghost" "[I" "PalaceOfRooms") (List.mem_of_getElem? (i := 5) rfl) ([.ref (a 43), .int co, .int wh] : List Value).toArray
  have lf147 := hN.use (w := .fieldLinkNest "PalaceOfRooms" 147 "PalaceOfRooms$Corners" "ghostStrength" "[I" "PalaceOfRooms") (List.mem_of_getElem? (i := 6) rfl) ([.ref (a 43), .int co, .int wh] : List Value).toArray
  have lf150 := hN.use (w := .fieldLinkNest "PalaceOfRooms" 150 "PalaceOfRooms$Corners" "putOn" "[I" "PalaceOfRooms") (List.mem_of_getElem? (i := 7) rfl) ([.ref (a 43), .int co, .int wh] : List Value).toArray
  have hl := lv_entry ([.ref (a 43), .int co, .int wh]) (n := 3) (Nat.le_of_ble_eq_true rfl)
  rw [lg_entry_eq]
  generalize (lg_sl ([.ref (a 43), .int co, .int wh]) ++ List.replicate (3 - (lg_sl ([.ref (a 43), .int co, .int wh])).length) Slot.unset).toArray = ls at hl ⊢
  have hl : lv_has ls 3 [(0, .ref (a 43)), (1, .int co), (2, .int wh)] := hl
  refine lv_iload_n hx hb dX9_corner_0 rfl (lv_at hl 1 rfl) ?_
  refine rdS (As := [.int co]) (rest := []) ⟨hx, hb, hml, hown, hts⟩ (k_X9_isCorner l dC dI cI cZ cQ co) (va_cwS 1 hts gX9_corner_X9_isCorner rfl rfl rfl (by decide +kernel) ⟨Nat.le_of_ble_eq_true rfl, Nat.le_of_ble_eq_true rfl⟩) hP hK hN [] rfl rfl hl.1 rfl (Nat.le_of_ble_eq_true rfl) dX9_corner_1 ⟨Nat.le_of_ble_eq_true rfl, Nat.le_of_ble_eq_true rfl⟩ (fun r1 h2 => ?_)
  have h2 : ((((r1 = 1) ∧ (0 ≤ co.toInt) ∧ (co.toInt ≤ 47)) ∨ ((r1 = 0) ∧ (co.toInt < 0 ∨ 47 < co.toInt)))) := h2
  rcases h2 with (⟨rfl, h2_a0, h2_a1⟩ | ⟨rfl, h2_a0⟩)
  · refine lv_if_ne (tgt := 10) hx hb dX9_corner_4 (by decide) (fun _ => ?_) (fun c9 => absurd c9 (by decide))
    refine lv_iload_n hx hb dX9_corner_10 rfl (lv_at hl 2 rfl) ?_
    by_cases w3 : wh = 0
    · have dw3 : wh.toInt = 0 := eqC rfl rfl w3
      refine lv_tableIn (off := 33) (tgt := 44) hx hb dX9_corner_11 (by rw [w3]; decide) (by rw [w3]; decide) (by rw [w3]; decide) (by decide) ?_
      refine lv_aload_n hx hb dX9_corner_44 rfl (lv_at hl 0 rfl) ?_
      refine va_get (D := (dC, dI)) (ci := 9) (v := .ref (a 4)) (C := RX9) (T := TX9) (N := 11) hx hb hts inX9 hown hK hP 0 rfl rfl 2 (by decide) lf28 (fun _ h9 => h9) rfl dX9_corner_45 ?_
      refine va_getN (D := (dC, dI)) (ci := 1) (v := .ref (a 5)) (C := RX1) (T := TX1) (N := 13) hx hb hts inX1 hown hK hP 1 rfl rfl 1 (by decide) lf131 (fun _ h9 => h9) rfl dX9_corner_48 ?_
      refine lv_iload_n hx hb dX9_corner_51 rfl (lv_at hl 1 rfl) ?_
      have b4 : vp_in co 48 := inC rfl (by omega) (by omega)
      refine va_iald hx hb hK hP 2 0 rfl rfl b4 dX9_corner_52 ?_
      have g5 : -1 ≤ (top co.toNatClampNeg).toInt ∧ (top co.toNatClampNeg).toInt ≤ 23 := rg_at r_top b4
      exact W.iret (v := top co.toNatClampNeg) hx hb hr (fun tq ht hW => ⟨top co.toNatClampNeg, rfl, (show spCor top str gho ghs pto co wh (top co.toNatClampNeg) from by (first | exact Or.inl ⟨by omega, rfl⟩ | (refine Or.inr ⟨by omega, ?_⟩; first | exact Or.inl ⟨by omega, by first | rfl | assumption⟩ | exact Or.inr (Or.inl ⟨by omega, by first | exact Or.inl ⟨by assumption, rfl⟩ | exact Or.inr ⟨by assumption, by first | rfl | assumption⟩⟩) | exact Or.inr (Or.inr (Or.inl ⟨by omega, by first | rfl | assumption⟩)) | exact Or.inr (Or.inr (Or.inr (Or.inl ⟨by omega, by first | exact Or.inl ⟨by assumption, rfl⟩ | exact Or.inr ⟨by assumption, by first | rfl | assumption⟩⟩))) | exact Or.inr (Or.inr (Or.inr (Or.inr (Or.inl ⟨by omega, by first | rfl | assumption⟩)))) | exact Or.inr (Or.inr (Or.inr (Or.inr (Or.inr ⟨by omega, rfl⟩))))))), ht⟩) (fun q h => by cases h) dX9_corner_53
    by_cases w6 : wh = 1
    · have dw6 : wh.toInt = 1 := eqC rfl rfl w6
      refine lv_tableIn (off := 43) (tgt := 54) hx hb dX9_corner_11 (by rw [w6]; decide) (by rw [w6]; decide) (by rw [w6]; decide) (by decide) ?_
      refine lv_aload_n hx hb dX9_corner_54 rfl (lv_at hl 0 rfl) ?_
      refine va_get (D := (dC, dI)) (ci := 9) (v := .ref (a 4)) (C := RX9) (T := TX9) (N := 11) hx hb hts inX9 hown hK hP 0 rfl rfl 2 (by decide) lf28 (fun _ h9 => h9) rfl dX9_corner_55 ?_
      refine va_getN (D := (dC, dI)) (ci := 1) (v := .ref (a 5)) (C := RX1) (T := TX1) (N := 13) hx hb hts inX1 hown hK hP 1 rfl rfl 1 (by decide) lf131 (fun _ h9 => h9) rfl dX9_corner_58 ?_
      refine lv_iload_n hx hb dX9_corner_61 rfl (lv_at hl 1 rfl) ?_
      have b7 : vp_in co 48 := inC rfl (by omega) (by omega)
      refine va_iald hx hb hK hP 2 0 rfl rfl b7 dX9_corner_62 ?_
      have g8 : -1 ≤ (top co.toNatClampNeg).toInt ∧ (top co.toNatClampNeg).toInt ≤ 23 := rg_at r_top b7
      refine lv_iconst (v := (-1)) hx hb dX9_corner_63 (by decide) ?_
      refine lv_icmp_ne (tgt := 71) hx hb dX9_corner_64 (by decide) (fun c9 => ?_) (fun c9 => ?_)
      · have dc9 : 0 ≤ (top co.toNatClampNeg).toInt := ka_lo (by omega) (neC rfl (show ((-1) : Int32).toInt = (-1) from rfl) c9)
        refine lv_aload_n hx hb dX9_corner_71 rfl (lv_at hl 0 rfl) ?_
        refine va_get (D := (dC, dI)) (ci := 9) (v := .ref (a 4)) (C := RX9) (T := TX9) (N := 11) hx hb hts inX9 hown hK hP 0 rfl rfl 2 (by decide) lf28 (fun _ h9 => h9) rfl dX9_corner_72 ?_
        refine va_getN (D := (dC, dI)) (ci := 1) (v := .ref (a 6)) (C := RX1) (T := TX1) (N := 13) hx hb hts inX1 hown hK hP 1 rfl rfl 2 (by decide) lf141 (fun _ h9 => h9) rfl dX9_corner_75 ?_
        refine lv_iload_n hx hb dX9_corner_78 rfl (lv_at hl 1 rfl) ?_
        have b10 : vp_in co 48 := inC rfl (by omega) (by omega)
        refine va_iald hx hb hK hP 3 0 rfl rfl b10 dX9_corner_79 ?_
        have g11 : 0 ≤ (str co.toNatClampNeg).toInt ∧ (str co.toNatClampNeg).toInt ≤ 100 := rg_at r_str b10
        exact W.iret (v := str co.toNatClampNeg) hx hb hr (fun tq ht hW => ⟨str co.toNatClampNeg, rfl, (show spCor top str gho ghs pto co wh (str co.toNatClampNeg) from by (first | exact Or.inl ⟨by omega, rfl⟩ | (refine Or.inr ⟨by omega, ?_⟩; first | exact Or.inl ⟨by omega, by first | rfl | assumption⟩ | exact Or.inr (Or.inl ⟨by omega, by first | exact Or.inl ⟨by assumption, rfl⟩ | exact Or.inr ⟨by assumption, by first | rfl | assumption⟩⟩) | exact Or.inr (Or.inr (Or.inl ⟨by omega, by first | rfl | assumption⟩)) | exact Or.inr (Or.inr (Or.inr (Or.inl ⟨by omega, by first | exact Or.inl ⟨by assumption, rfl⟩ | exact Or.inr ⟨by assumption, by first | rfl | assumption⟩⟩))) | exact Or.inr (Or.inr (Or.inr (Or.inr (Or.inl ⟨by omega, by first | rfl | assumption⟩)))) | exact Or.inr (Or.inr (Or.inr (Or.inr (Or.inr ⟨by omega, rfl⟩))))))), ht⟩) (fun q h => by cases h) dX9_corner_80
      · have dc9 : (top co.toNatClampNeg).toInt = (-1) := eqC rfl (show ((-1) : Int32).toInt = (-1) from rfl) c9
        refine lv_iconst (v := (-1)) hx hb dX9_corner_67 (by decide) ?_
        refine lv_goto (tgt := 80) hx hb dX9_corner_68 (by decide) ?_
        exact W.iret (v := (-1)) hx hb hr (fun tq ht hW => ⟨(-1), rfl, (show spCor top str gho ghs pto co wh ((-1) : Int32) from by (try rw [show ((-1) : Int32).toInt = (-1) from (show ((-1) : Int32).toInt = (-1) from rfl)]); (first | exact Or.inl ⟨by omega, rfl⟩ | (refine Or.inr ⟨by omega, ?_⟩; first | exact Or.inl ⟨by omega, by first | rfl | assumption⟩ | exact Or.inr (Or.inl ⟨by omega, by first | exact Or.inl ⟨by assumption, rfl⟩ | exact Or.inr ⟨by assumption, by first | rfl | assumption⟩⟩) | exact Or.inr (Or.inr (Or.inl ⟨by omega, by first | rfl | assumption⟩)) | exact Or.inr (Or.inr (Or.inr (Or.inl ⟨by omega, by first | exact Or.inl ⟨by assumption, rfl⟩ | exact Or.inr ⟨by assumption, by first | rfl | assumption⟩⟩))) | exact Or.inr (Or.inr (Or.inr (Or.inr (Or.inl ⟨by omega, by first | rfl | assumption⟩)))) | exact Or.inr (Or.inr (Or.inr (Or.inr (Or.inr ⟨by omega, rfl⟩))))))), ht⟩) (fun q h => by cases h) dX9_corner_80
    by_cases w12 : wh = 2
    · have dw12 : wh.toInt = 2 := eqC rfl rfl w12
      refine lv_tableIn (off := 70) (tgt := 81) hx hb dX9_corner_11 (by rw [w12]; decide) (by rw [w12]; decide) (by rw [w12]; decide) (by decide) ?_
      refine lv_aload_n hx hb dX9_corner_81 rfl (lv_at hl 0 rfl) ?_
      refine va_get (D := (dC, dI)) (ci := 9) (v := .ref (a 4)) (C := RX9) (T := TX9) (N := 11) hx hb hts inX9 hown hK hP 0 rfl rfl 2 (by decide) lf28 (fun _ h9 => h9) rfl dX9_corner_82 ?_
      refine va_getN (D := (dC, dI)) (ci := 1) (v := .ref (a 7)) (C := RX1) (T := TX1) (N := 13) hx hb hts inX1 hown hK hP 1 rfl rfl 3 (by decide) lf144 (fun _ h9 => h9) rfl dX9_corner_85 ?_
      refine lv_iload_n hx hb dX9_corner_88 rfl (lv_at hl 1 rfl) ?_
      have b13 : vp_in co 48 := inC rfl (by omega) (by omega)
      refine va_iald hx hb hK hP 4 0 rfl rfl b13 dX9_corner_89 ?_
      have g14 : -1 ≤ (gho co.toNatClampNeg).toInt ∧ (gho co.toNatClampNeg).toInt ≤ 23 := rg_at r_gho b13
      exact W.iret (v := gho co.toNatClampNeg) hx hb hr (fun tq ht hW => ⟨gho co.toNatClampNeg, rfl, (show spCor top str gho ghs pto co wh (gho co.toNatClampNeg) from by (first | exact Or.inl ⟨by omega, rfl⟩ | (refine Or.inr ⟨by omega, ?_⟩; first | exact Or.inl ⟨by omega, by first | rfl | assumption⟩ | exact Or.inr (Or.inl ⟨by omega, by first | exact Or.inl ⟨by assumption, rfl⟩ | exact Or.inr ⟨by assumption, by first | rfl | assumption⟩⟩) | exact Or.inr (Or.inr (Or.inl ⟨by omega, by first | rfl | assumption⟩)) | exact Or.inr (Or.inr (Or.inr (Or.inl ⟨by omega, by first | exact Or.inl ⟨by assumption, rfl⟩ | exact Or.inr ⟨by assumption, by first | rfl | assumption⟩⟩))) | exact Or.inr (Or.inr (Or.inr (Or.inr (Or.inl ⟨by omega, by first | rfl | assumption⟩)))) | exact Or.inr (Or.inr (Or.inr (Or.inr (Or.inr ⟨by omega, rfl⟩))))))), ht⟩) (fun q h => by cases h) dX9_corner_90
    by_cases w15 : wh = 3
    · have dw15 : wh.toInt = 3 := eqC rfl rfl w15
      refine lv_tableIn (off := 80) (tgt := 91) hx hb dX9_corner_11 (by rw [w15]; decide) (by rw [w15]; decide) (by rw [w15]; decide) (by decide) ?_
      refine lv_aload_n hx hb dX9_corner_91 rfl (lv_at hl 0 rfl) ?_
      refine va_get (D := (dC, dI)) (ci := 9) (v := .ref (a 4)) (C := RX9) (T := TX9) (N := 11) hx hb hts inX9 hown hK hP 0 rfl rfl 2 (by decide) lf28 (fun _ h9 => h9) rfl dX9_corner_92 ?_
      refine va_getN (D := (dC, dI)) (ci := 1) (v := .ref (a 7)) (C := RX1) (T := TX1) (N := 13) hx hb hts inX1 hown hK hP 1 rfl rfl 3 (by decide) lf144 (fun _ h9 => h9) rfl dX9_corner_95 ?_
      refine lv_iload_n hx hb dX9_corner_98 rfl (lv_at hl 1 rfl) ?_
      have b16 : vp_in co 48 := inC rfl (by omega) (by omega)
      refine va_iald hx hb hK hP 4 0 rfl rfl b16 dX9_corner_99 ?_
      have g17 : -1 ≤ (gho co.toNatClampNeg).toInt ∧ (gho co.toNatClampNeg).toInt ≤ 23 := rg_at r_gho b16
      refine lv_iconst (v := (-1)) hx hb dX9_corner_100 (by decide) ?_
      refine lv_icmp_ne (tgt := 108) hx hb dX9_corner_101 (by decide) (fun c18 => ?_) (fun c18 => ?_)
      · have dc18 : 0 ≤ (gho co.toNatClampNeg).toInt := ka_lo (by omega) (neC rfl (show ((-1) : Int32).toInt = (-1) from rfl) c18)
        refine lv_aload_n hx hb dX9_corner_108 rfl (lv_at hl 0 rfl) ?_
        refine va_get (D := (dC, dI)) (ci := 9) (v := .ref (a 4)) (C := RX9) (T := TX9) (N := 11) hx hb hts inX9 hown hK hP 0 rfl rfl 2 (by decide) lf28 (fun _ h9 => h9) rfl dX9_corner_109 ?_
        refine va_getN (D := (dC, dI)) (ci := 1) (v := .ref (a 8)) (C := RX1) (T := TX1) (N := 13) hx hb hts inX1 hown hK hP 1 rfl rfl 4 (by decide) lf147 (fun _ h9 => h9) rfl dX9_corner_112 ?_
        refine lv_iload_n hx hb dX9_corner_115 rfl (lv_at hl 1 rfl) ?_
        have b19 : vp_in co 48 := inC rfl (by omega) (by omega)
        refine va_iald hx hb hK hP 5 0 rfl rfl b19 dX9_corner_116 ?_
        have g20 : 0 ≤ (ghs co.toNatClampNeg).toInt ∧ (ghs co.toNatClampNeg).toInt ≤ 100 := rg_at r_ghs b19
        exact W.iret (v := ghs co.toNatClampNeg) hx hb hr (fun tq ht hW => ⟨ghs co.toNatClampNeg, rfl, (show spCor top str gho ghs pto co wh (ghs co.toNatClampNeg) from by (first | exact Or.inl ⟨by omega, rfl⟩ | (refine Or.inr ⟨by omega, ?_⟩; first | exact Or.inl ⟨by omega, by first | rfl | assumption⟩ | exact Or.inr (Or.inl ⟨by omega, by first | exact Or.inl ⟨by assumption, rfl⟩ | exact Or.inr ⟨by assumption, by first | rfl | assumption⟩⟩) | exact Or.inr (Or.inr (Or.inl ⟨by omega, by first | rfl | assumption⟩)) | exact Or.inr (Or.inr (Or.inr (Or.inl ⟨by omega, by first | exact Or.inl ⟨by assumption, rfl⟩ | exact Or.inr ⟨by assumption, by first | rfl | assumption⟩⟩))) | exact Or.inr (Or.inr (Or.inr (Or.inr (Or.inl ⟨by omega, by first | rfl | assumption⟩)))) | exact Or.inr (Or.inr (Or.inr (Or.inr (Or.inr ⟨by omega, rfl⟩))))))), ht⟩) (fun q h => by cases h) dX9_corner_117
      · have dc18 : (gho co.toNatClampNeg).toInt = (-1) := eqC rfl (show ((-1) : Int32).toInt = (-1) from rfl) c18
        refine lv_iconst (v := (-1)) hx hb dX9_corner_104 (by decide) ?_
        refine lv_goto (tgt := 117) hx hb dX9_corner_105 (by decide) ?_
        exact W.iret (v := (-1)) hx hb hr (fun tq ht hW => ⟨(-1), rfl, (show spCor top str gho ghs pto co wh ((-1) : Int32) from by (try rw [show ((-1) : Int32).toInt = (-1) from (show ((-1) : Int32).toInt = (-1) from rfl)]); (first | exact Or.inl ⟨by omega, rfl⟩ | (refine Or.inr ⟨by omega, ?_⟩; first | exact Or.inl ⟨by omega, by first | rfl | assumption⟩ | exact Or.inr (Or.inl ⟨by omega, by first | exact Or.inl ⟨by assumption, rfl⟩ | exact Or.inr ⟨by assumption, by first | rfl | assumption⟩⟩) | exact Or.inr (Or.inr (Or.inl ⟨by omega, by first | rfl | assumption⟩)) | exact Or.inr (Or.inr (Or.inr (Or.inl ⟨by omega, by first | exact Or.inl ⟨by assumption, rfl⟩ | exact Or.inr ⟨by assumption, by first | rfl | assumption⟩⟩))) | exact Or.inr (Or.inr (Or.inr (Or.inr (Or.inl ⟨by omega, by first | rfl | assumption⟩)))) | exact Or.inr (Or.inr (Or.inr (Or.inr (Or.inr ⟨by omega, rfl⟩))))))), ht⟩) (fun q h => by cases h) dX9_corner_117
    by_cases w21 : wh = 4
    · have dw21 : wh.toInt = 4 := eqC rfl rfl w21
      refine lv_tableIn (off := 107) (tgt := 118) hx hb dX9_corner_11 (by rw [w21]; decide) (by rw [w21]; decide) (by rw [w21]; decide) (by decide) ?_
      refine lv_aload_n hx hb dX9_corner_118 rfl (lv_at hl 0 rfl) ?_
      refine va_get (D := (dC, dI)) (ci := 9) (v := .ref (a 4)) (C := RX9) (T := TX9) (N := 11) hx hb hts inX9 hown hK hP 0 rfl rfl 2 (by decide) lf28 (fun _ h9 => h9) rfl dX9_corner_119 ?_
      refine va_getN (D := (dC, dI)) (ci := 1) (v := .ref (a 9)) (C := RX1) (T := TX1) (N := 13) hx hb hts inX1 hown hK hP 1 rfl rfl 5 (by decide) lf150 (fun _ h9 => h9) rfl dX9_corner_122 ?_
      refine lv_iload_n hx hb dX9_corner_125 rfl (lv_at hl 1 rfl) ?_
      have b22 : vp_in co 48 := inC rfl (by omega) (by omega)
      refine va_iald hx hb hK hP 6 0 rfl rfl b22 dX9_corner_126 ?_
      exact W.iret (v := pto co.toNatClampNeg) hx hb hr (fun tq ht hW => ⟨pto co.toNatClampNeg, rfl, (show spCor top str gho ghs pto co wh (pto co.toNatClampNeg) from by (first | exact Or.inl ⟨by omega, rfl⟩ | (refine Or.inr ⟨by omega, ?_⟩; first | exact Or.inl ⟨by omega, by first | rfl | assumption⟩ | exact Or.inr (Or.inl ⟨by omega, by first | exact Or.inl ⟨by assumption, rfl⟩ | exact Or.inr ⟨by assumption, by first | rfl | assumption⟩⟩) | exact Or.inr (Or.inr (Or.inl ⟨by omega, by first | rfl | assumption⟩)) | exact Or.inr (Or.inr (Or.inr (Or.inl ⟨by omega, by first | exact Or.inl ⟨by assumption, rfl⟩ | exact Or.inr ⟨by assumption, by first | rfl | assumption⟩⟩))) | exact Or.inr (Or.inr (Or.inr (Or.inr (Or.inl ⟨by omega, by first | rfl | assumption⟩)))) | exact Or.inr (Or.inr (Or.inr (Or.inr (Or.inr ⟨by omega, rfl⟩))))))), ht⟩) (fun q h => by cases h) dX9_corner_127
    have nw3 : wh.toInt ≠ 0 := neC rfl rfl w3
    have nw6 : wh.toInt ≠ 1 := neC rfl rfl w6
    have nw12 : wh.toInt ≠ 2 := neC rfl rfl w12
    have nw15 : wh.toInt ≠ 3 := neC rfl rfl w15
    have nw21 : wh.toInt ≠ 4 := neC rfl rfl w21
    have o11 : wh.toInt < 0 ∨ 4 < wh.toInt := by rw [show wh.toInt = wh.toInt from rfl]; omega
    refine lv_tableOut (tgt := 128) hx hb dX9_corner_11 o11 (by decide) ?_
    refine lv_bipush (v := (-3)) hx hb dX9_corner_128 (by decide) ?_
    exact W.iret (v := (-3)) hx hb hr (fun tq ht hW => ⟨(-3), rfl, (show spCor top str gho ghs pto co wh ((-3) : Int32) from by (try rw [show ((-3) : Int32).toInt = (-3) from (show ((-3) : Int32).toInt = (-3) from rfl)]); (first | exact Or.inl ⟨by omega, rfl⟩ | (refine Or.inr ⟨by omega, ?_⟩; first | exact Or.inl ⟨by omega, by first | rfl | assumption⟩ | exact Or.inr (Or.inl ⟨by omega, by first | exact Or.inl ⟨by assumption, rfl⟩ | exact Or.inr ⟨by assumption, by first | rfl | assumption⟩⟩) | exact Or.inr (Or.inr (Or.inl ⟨by omega, by first | rfl | assumption⟩)) | exact Or.inr (Or.inr (Or.inr (Or.inl ⟨by omega, by first | exact Or.inl ⟨by assumption, rfl⟩ | exact Or.inr ⟨by assumption, by first | rfl | assumption⟩⟩))) | exact Or.inr (Or.inr (Or.inr (Or.inr (Or.inl ⟨by omega, by first | rfl | assumption⟩)))) | exact Or.inr (Or.inr (Or.inr (Or.inr (Or.inr ⟨by omega, rfl⟩))))))), ht⟩) (fun q h => by cases h) dX9_corner_130
  · refine lv_if_ne (tgt := 10) hx hb dX9_corner_4 (by decide) (fun c9 => absurd (by decide) c9) (fun _ => ?_)
    refine lv_bipush (v := (-2)) hx hb dX9_corner_7 (by decide) ?_
    exact W.iret (v := (-2)) hx hb hr (fun tq ht hW => ⟨(-2), rfl, (show spCor top str gho ghs pto co wh ((-2) : Int32) from by (try rw [show ((-2) : Int32).toInt = (-2) from (show ((-2) : Int32).toInt = (-2) from rfl)]); (first | exact Or.inl ⟨by omega, rfl⟩ | (refine Or.inr ⟨by omega, ?_⟩; first | exact Or.inl ⟨by omega, by first | rfl | assumption⟩ | exact Or.inr (Or.inl ⟨by omega, by first | exact Or.inl ⟨by assumption, rfl⟩ | exact Or.inr ⟨by assumption, by first | rfl | assumption⟩⟩) | exact Or.inr (Or.inr (Or.inl ⟨by omega, by first | rfl | assumption⟩)) | exact Or.inr (Or.inr (Or.inr (Or.inl ⟨by omega, by first | exact Or.inl ⟨by assumption, rfl⟩ | exact Or.inr ⟨by assumption, by first | rfl | assumption⟩⟩))) | exact Or.inr (Or.inr (Or.inr (Or.inr (Or.inl ⟨by omega, by first | rfl | assumption⟩)))) | exact Or.inr (Or.inr (Or.inr (Or.inr (Or.inr ⟨by omega, rfl⟩))))))), ht⟩) (fun q h => by cases h) dX9_corner_9
set_option maxHeartbeats 4000000 in
set_option maxRecDepth 100000 in
theorem k_X9_walk2 (l : Launch) (dC : Nat → ClassId) (dI : Nat → Nat → Nat) (cI cZ cQ : ClassId) (a : Nat → Nat) (rb0 : Nat) (rb1 : Nat) (rb2 : Nat) (db0 : Nat) (db1 : Nat) (db2 : Nat) (top : Nat → Int32) (str : Nat → Int32) (gho : Nat → Int32) (ghs : Nat → Int32) (pto : Nat → Int32) (cro : Nat → Int32) (pla : Nat → Int32) (wal : Nat → Int32) (fal : Nat → Int32) (tel : Int32) (gai : Int32) (day : Int32) (mar : Nat → Int32) (sz : Nat) (ro : Int32) (r_top : rg 48 (-1) (23) top) (r_str : rg 48 (0) (100) str) (r_gho : rg 48 (-1) (23) gho) (r_ghs : rg 48 (0) (100) ghs) (r_cro : rg 48 (0) (6) cro) (r_pla : rg 24 (-1) (47) pla) (r_fal : rg 11 (0) (30) fal) (r_gai : 0 ≤ gai.toInt ∧ gai.toInt ≤ 100) (r_day : 0 ≤ day.toInt ∧ day.toInt ≤ 400) (r_mar : rg 24 (0) (255) mar) : KW l yX9_walk wsX9_walk { frames := 2, cells := 0, slots := 0, locals := 46 } (dC, dI) (TY cI cZ cQ) (wsC cI cZ cQ a rb0 rb1 rb2 db0 db1 db2 top str gho ghs pto cro pla wal fal tel gai day mar) [.ref (a 43), .int ro] sz 0 0 (fun (r : Int32) (u : US) => (spWlkC top str wal gai day ro r (u.1 0) (u.1 1)) ∧ (rg 48 (0) (100) (u.1 0))) (fun u : US => (wsC cI cZ cQ a rb0 rb1 rb2 db0 db1 db2 top (u.1 0) gho ghs pto cro pla (u.1 1) fal tel gai day mar)) := by
  refine Met.ofW (cc := cX9_walk) (maxL := 2) (ret := (some .int)) (by decide) rfl ?_
  intro p e s m args below meth c s₁ B hml hv
  obtain ⟨rfl, hsz, hP, hK, hD0, hN⟩ := hv
  have hx := B.exec
  have hb := B.bytes
  have hr := B.returns
  have hts := atoms_spec (ws := wsX9_walk) B.pre
  have hown : s.vm.findClass RX9 = some m.cls := findClass_of_methodNamed B.named
  have hlocks := B.notSynchronized
  have lf28 := hts (.fieldLink RX9 28 "PalaceOfRooms" "corners" "LPalaceOfRooms$Corners;") (List.mem_cons_of_mem _ (List.mem_append_left _ (List.mem_append_left _ (List.mem_of_getElem? (i := 0) rfl))))
  have inX9 : ∀ w ∈ wsX90, w ∈ wsX9_walk := fun w h => List.mem_cons_of_mem _ (List.mem_append_left _ (List.mem_append_right _ h))
  subst hsz
  have hD := hD0.self (sz := s.heap.size)
  generalize hAe : va_A (wsC cI cZ cQ a rb0 rb1 rb2 db0 db1 db2 top str gho ghs pto cro pla wal fal tel gai day mar) s.heap.size = A at hD ⊢
  have hA : ∀ q : Nat, s.heap.size ≤ q → A q := fun q h => by rw [← hAe]; exact Or.inr h
  have hS : va_S A s.heap s.heap [] := va_S.rf
  have hl := lv_entry ([.ref (a 43), .int ro]) (n := 2) (Nat.le_of_ble_eq_true rfl)
  rw [lg_entry_eq]
  generalize (lg_sl ([.ref (a 43), .int ro]) ++ List.replicate (2 - (lg_sl ([.ref (a 43), .int ro])).length) Slot.unset).toArray = ls at hl ⊢
  have hl : lv_has ls 2 [(0, .ref (a 43)), (1, .int ro)] := hl
  refine lv_iload_n hx hb dX9_walk_0 rfl (lv_at hl 1 rfl) ?_
  refine rdS (As := [.int ro]) (rest := []) ⟨hx, hb, hml, hown, hts⟩ (k_X9_isRoom l dC dI cI cZ cQ ro) (va_cwS 1 hts gX9_walk_X9_isRoom rfl rfl rfl (by decide +kernel) ⟨Nat.le_of_ble_eq_true rfl, Nat.le_of_ble_eq_true rfl⟩) hP hK hN [] rfl rfl hl.1 rfl (Nat.le_of_ble_eq_true rfl) dX9_walk_1 ⟨Nat.le_of_ble_eq_true rfl, Nat.le_of_ble_eq_true rfl⟩ (fun r1 h2 => ?_)
  have h2 : ((((r1 = 1) ∧ (0 ≤ ro.toInt) ∧ (ro.toInt ≤ 7)) ∨ ((r1 = 0) ∧ (ro.toInt < 0 ∨ 7 < ro.toInt)))) := h2
  rcases h2 with (⟨rfl, h2_a0, h2_a1⟩ | ⟨rfl, h2_a0⟩)
  · refine lv_if_eq (tgt := 18) hx hb dX9_walk_4 (by decide) (fun c9 => absurd c9 (by decide)) (fun _ => ?_)
    refine lv_aload_n hx hb dX9_walk_7 rfl (lv_at hl 0 rfl) ?_
    refine va_get (D := (dC, dI)) (ci := 9) (v := .ref (a 4)) (C := RX9) (T := TX9) (N := 11) hx hb hts inX9 hown hK hP 0 rfl rfl 2 (by decide) lf28 (fun _ h9 => h9) rfl dX9_walk_8 ?_
    refine lv_iload_n hx hb dX9_walk_11 rfl (lv_at hl 1 rfl) ?_
    refine wrV (As := [.int ro]) (rest := []) (wr := [((a 43), .inr (9, [.ref (a 0), .ref (a 2), .ref (a 4), .ref (a 14), .ref (a 16), .ref (a 23), .ref (a 28), .ref (a 33), .ref (a 42), .ref rb0, .ref db0]))]) (w2 := (fun u : US => (wsC cI cZ cQ a rb0 rb1 rb2 db0 db1 db2 top (u.1 0) gho ghs pto cro pla (u.1 1) fal tel gai day mar))) ⟨hx, hb, hml, hown, hts⟩ (k_X1_walkPast2 l dC dI cI cZ cQ a top str gho ghs pto cro pla wal fal tel gai day mar _ ro r_top r_str r_gho r_ghs r_cro r_pla r_fal r_gai r_day r_mar (by omega) (by omega)) (cwV 1 hts gX9_walk_X1_walkPast rfl rfl rfl (by decide +kernel) ⟨Nat.le_of_ble_eq_true rfl, Nat.le_of_ble_eq_true rfl⟩) hP hD hS hA hK hN [1, 2, 3, 4, 5, 6, 7, 8, 9, 10, 11, 12] [0] [0, 1, 2, 3, 4, 5, 6, 7, 8, 9, 10, 11, 12] rfl rfl (by decide) (by decide) (by decide) (fun _ => rfl) (by decide) 1 1 rfl rfl rfl hl.1 rfl (Nat.le_of_ble_eq_true rfl) dX9_walk_12 ⟨Nat.le_of_ble_eq_true rfl, Nat.le_of_ble_eq_true rfl⟩ (fun r3 u5 H locs h4 hP hD hS => ?_)
    obtain ⟨str_c6, estr_c6⟩ : ∃ f : Nat → Int32, f = (u5.1 0) := ⟨_, rfl⟩
    obtain ⟨wal_c7, ewal_c7⟩ : ∃ f : Nat → Int32, f = (u5.1 1) := ⟨_, rfl⟩
    have hP : va_P (dC, dI) vwCl (wsC cI cZ cQ a rb0 rb1 rb2 db0 db1 db2 top str_c6 gho ghs pto cro pla wal_c7 fal tel gai day mar) H := by rw [estr_c6, ewal_c7]; exact hP
    have hD : va_D A (wsC cI cZ cQ a rb0 rb1 rb2 db0 db1 db2 top str_c6 gho ghs pto cro pla wal_c7 fal tel gai day mar) := by rw [estr_c6, ewal_c7]; exact hD
    have h4 : (wkS top str gai.toInt (ro.toInt * 6) (ro.toInt * 6 + 6) str_c6 r3.toInt) ∧ (wal_c7 = upd wal ro.toNatClampNeg day) ∧ (rg 48 (0) (100) str_c6) := by (try rw [estr_c6]); (try rw [ewal_c7]); exact h4
    obtain ⟨h4_0, h4_1, h4_2⟩ := h4
    refine lv_goto (tgt := 20) hx hb dX9_walk_15 (by decide) ?_
    exact W.iret (v := r3) hx hb hr (fun tq ht hW => ⟨⟨r3, (uS [str_c6, wal_c7] 0 (fun _ => 0)), rfl, ⟨(show spWlkC top str wal gai day ro r3 str_c6 wal_c7 from by (first | exact Or.inl ⟨by omega, rfl, rfl, rfl⟩ | exact Or.inr ⟨by omega, by assumption, by assumption⟩)), h4_2⟩, by rw [ht]; exact hP, hD⟩, hS.F ht⟩) hS.2.2 dX9_walk_20
  · refine lv_if_eq (tgt := 18) hx hb dX9_walk_4 (by decide) (fun _ => ?_) (fun c9 => absurd (by decide) c9)
    refine lv_bipush (v := (-2)) hx hb dX9_walk_18 (by decide) ?_
    exact W.iret (v := (-2)) hx hb hr (fun tq ht hW => ⟨⟨(-2), (uS [str, wal] 0 (fun _ => 0)), rfl, ⟨(show spWlkC top str wal gai day ro ((-2) : Int32) str wal from by (try rw [show ((-2) : Int32).toInt = (-2) from (show ((-2) : Int32).toInt = (-2) from rfl)]); (first | exact Or.inl ⟨by omega, rfl, rfl, rfl⟩ | exact Or.inr ⟨by omega, by assumption, by assumption⟩)), r_str⟩, by rw [ht]; exact hP, hD⟩, hS.F ht⟩) hS.2.2 dX9_walk_20
set_option maxHeartbeats 4000000 in
set_option maxRecDepth 100000 in
theorem k_X10_put3 (l : Launch) (dC : Nat → ClassId) (dI : Nat → Nat → Nat) (cI cZ cQ : ClassId) (b : Nat → Nat) (mday : Int32) (mdoo : Int32) (mdA : Nat → Int32) (mdB : Nat → Int32) (mfar : Nat → Int32) (mmar : Nat → Int32) (mtel : Int32) (mgai : Int32) (mfal : Nat → Int32) (mtop : Nat → Int32) (mstr : Nat → Int32) (mgho : Nat → Int32) (mfai : Nat → Int32) (mpto : Nat → Int32) (mwal : Nat → Int32) (mahd : Nat → Int32) (mahf : Nat → Int32) (mcho : Nat → Int32) (mbes : Nat → Int32) (mbyt : Int32) (mtxt : Nat → Int32) (mpos : Int32) (mtka : Int32) (mtok : Int64) (mdig : Int32) (mnum : Int32) (mfau : Int32) (mrdm : Int32) (mrea : Nat → Int32) (mlin : Int32) (mlne : Nat → Int32) (mthg : Nat → Int32) (mord : Nat → Int32) (mbor : Nat → Int32) (mbsm : Int32) (mans : Nat → Int32) (mand : Nat → Int32) (manr : Nat → Int32) (mali : Nat → Int32) (sz : Nat) (t : Int32) (co : Int32) (r_mday : 0 ≤ mday.toInt ∧ mday.toInt ≤ 400) (r_mdoo : 0 ≤ mdoo.toInt ∧ mdoo.toInt ≤ 14) (r_mdA : rg 14 (0) (7) mdA) (r_mdB : rg 14 (0) (7) mdB) (r_mmar : rg 24 (0) (255) mmar) (r_mgai : 0 ≤ mgai.toInt ∧ mgai.toInt ≤ 100) (r_mfal : rg 11 (0) (30) mfal) (r_mtop : rg 48 (-1) (23) mtop) (r_mstr : rg 48 (0) (100) mstr) (r_mgho : rg 48 (-1) (23) mgho) (r_mfai : rg 48 (0) (100) mfai) (r_mahd : rg 240 (0) (100) mahd) (r_mahf : rg 240 (0) (100) mahf) (r_mcho : rg 5 (-1) (9) mcho) (r_mbyt : 0 ≤ mbyt.toInt ∧ mbyt.toInt ≤ 160) (r_mpos : 0 ≤ mpos.toInt ∧ mpos.toInt ≤ 160) (r_mrdm : 0 ≤ mrdm.toInt ∧ mrdm.toInt ≤ 10) (r_mlin : 0 ≤ mlin.toInt ∧ mlin.toInt ≤ 10) (r_mthg : rg 8 (0) (31) mthg) (r_mord : rg 8 (-1) (8) mord) (r_mans : rg 4 (0) (12) mans) : KW l yX10_put wsX10_put { frames := 2, cells := 0, slots := 0, locals := 42 } (dC, dI) (TY cI cZ cQ) (wMod cI cZ cQ b mday mdoo mdA mdB mfar mmar mtel mgai mfal mtop mstr mgho mfai mpto mwal mahd mahf mcho mbes mbyt mtxt mpos mtka mtok mdig mnum mfau mrdm mrea mlin mlne mthg mord mbor mbsm mans mand manr mali) [.ref (b 39), .int t, .int co] sz 0 0 (fun (r : Int32) (u : US) => (spPutM mtop mstr mgho mfai mpto mday t co r (u.1 2) (u.1 3) (u.1 0) (u.1 1) (u.1 4)) ∧ (rg 48 (-1) (23) (u.1 0)) ∧ (rg 48 (0) (100) (u.1 1)) ∧ (rg 48 (-1) (23) (u.1 2)) ∧ (rg 48 (0) (100) (u.1 3))) (fun u : US => (wMod cI cZ cQ b mday mdoo mdA mdB mfar mmar mtel mgai mfal (u.1 2) (u.1 3) (u.1 0) (u.1 1) (u.1 4) mwal mahd mahf mcho mbes mbyt mtxt mpos mtka mtok mdig mnum mfau mrdm mrea mlin mlne mthg mord mbor mbsm mans mand manr mali)) := by
  refine Met.ofW (cc := cX10_put) (maxL := 5) (ret := (some .int)) (by decide) rfl ?_
  intro p e s m args below meth c s₁ B hml hv
  obtain ⟨rfl, hsz, hP, hK, hD0, hN⟩ := hv
  have hx := B.exec
  have hb := B.bytes
  have hr := B.returns
  have hts := atoms_spec (ws := wsX10_put) B.pre
  have hown : s.vm.findClass RX10 = some m.cls := findClass_of_methodNamed B.named
  have hlocks := B.notSynchronized
  have lf32 := hts (.fieldLink RX10 32 "PalaceOfRoomsModel" "top" "[I") (List.mem_cons_of_mem _ (List.mem_append_left _ (List.mem_of_getElem? (i := 0) rfl)))
  have inX10 : ∀ w ∈ wsX100, w ∈ wsX10_put := fun w h => List.mem_cons_of_mem _ (List.mem_append_right _ h)
  have lf38 := hts (.fieldLink RX10 38 "PalaceOfRoomsModel" "ghost" "[I") (List.mem_cons_of_mem _ (List.mem_append_left _ (List.mem_of_getElem? (i := 2) rfl)))
  have lf41 := hts (.fieldLink RX10 41 "PalaceOfRoomsModel" "faint" "[I") (List.mem_cons_of_mem _ (List.mem_append_left _ (List.mem_of_getElem? (i := 3) rfl)))
  have lf35 := hts (.fieldLink RX10 35 "PalaceOfRoomsModel" "strength" "[I") (List.mem_cons_of_mem _ (List.mem_append_left _ (List.mem_of_getElem? (i := 1) rfl)))
  have lf44 := hts (.fieldLink RX10 44 "PalaceOfRoomsModel" "putOn" "[I") (List.mem_cons_of_mem _ (List.mem_append_left _ (List.mem_of_getElem? (i := 4) rfl)))
  have lf125 := hts (.fieldLink RX10 125 "PalaceOfRoomsModel" "day" "I") (List.mem_cons_of_mem _ (List.mem_append_left _ (List.mem_of_getElem? (i := 5) rfl)))
  subst hsz
  have hD := hD0.self (sz := s.heap.size)
  generalize hAe : va_A (wMod cI cZ cQ b mday mdoo mdA mdB mfar mmar mtel mgai mfal mtop mstr mgho mfai mpto mwal mahd mahf mcho mbes mbyt mtxt mpos mtka mtok mdig mnum mfau mrdm mrea mlin mlne mthg mord mbor mbsm mans mand manr mali) s.heap.size = A at hD ⊢
  have hA : ∀ q : Nat, s.heap.size ≤ q → A q := fun q h => by rw [← hAe]; exact Or.inr h
  have hS : va_S A s.heap s.heap [] := va_S.rf
  have hl := lv_entry ([.ref (b 39), .int t, .int co]) (n := 5) (Nat.le_of_ble_eq_true rfl)
  rw [lg_entry_eq]
  generalize (lg_sl ([.ref (b 39), .int t, .int co]) ++ List.replicate (5 - (lg_sl ([.ref (b 39), .int t, .int co])).length) Slot.unset).toArray = ls at hl ⊢
  have hl : lv_has ls 5 [(0, .ref (b 39)), (1, .int t), (2, .int co)] := hl
  refine lv_iload_n hx hb dX10_put_0 rfl (lv_at hl 1 rfl) ?_
  refine rdS (As := [.int t]) (rest := []) ⟨hx, hb, hml, hown, hts⟩ (k_X10_isThing l dC dI cI cZ cQ t) (va_cwS 1 hts gX10_put_X10_isThing rfl rfl rfl (by decide +kernel) ⟨Nat.le_of_ble_eq_true rfl, Nat.le_of_ble_eq_true rfl⟩) hP hK hN [] rfl rfl hl.1 rfl (Nat.le_of_ble_eq_true rfl) dX10_put_1 ⟨Nat.le_of_ble_eq_true rfl, Nat.le_of_ble_eq_true rfl⟩ (fun r1 h2 => ?_)
  have h2 : ((((r1 = 1) ∧ (0 ≤ t.toInt) ∧ (t.toInt ≤ 23)) ∨ ((r1 = 0) ∧ (t.toInt < 0 ∨ 23 < t.toInt)))) := h2
  rcases h2 with (⟨rfl, h2_a0, h2_a1⟩ | ⟨rfl, h2_a0⟩)
  · refine lv_if_eq (tgt := 14) hx hb dX10_put_4 (by decide) (fun c9 => absurd c9 (by decide)) (fun _ => ?_)
    refine lv_iload_n hx hb dX10_put_7 rfl (lv_at hl 2 rfl) ?_
    refine rdS (As := [.int co]) (rest := []) ⟨hx, hb, hml, hown, hts⟩ (k_X10_isCorner l dC dI cI cZ cQ co) (va_cwS 1 hts gX10_put_X10_isCorner rfl rfl rfl (by decide +kernel) ⟨Nat.le_of_ble_eq_true rfl, Nat.le_of_ble_eq_true rfl⟩) hP hK hN [] rfl rfl hl.1 rfl (Nat.le_of_ble_eq_true rfl) dX10_put_8 ⟨Nat.le_of_ble_eq_true rfl, Nat.le_of_ble_eq_true rfl⟩ (fun r3 h4 => ?_)
    have h4 : ((((r3 = 1) ∧ (0 ≤ co.toInt) ∧ (co.toInt ≤ 47)) ∨ ((r3 = 0) ∧ (co.toInt < 0 ∨ 47 < co.toInt)))) := h4
    rcases h4 with (⟨rfl, h4_a0, h4_a1⟩ | ⟨rfl, h4_a0⟩)
    · refine lv_if_ne (tgt := 17) hx hb dX10_put_11 (by decide) (fun _ => ?_) (fun c9 => absurd c9 (by decide))
      refine lv_aload_n hx hb dX10_put_17 rfl (lv_at hl 0 rfl) ?_
      refine lv_iload_n hx hb dX10_put_18 rfl (lv_at hl 1 rfl) ?_
      refine rdV (As := [.int t]) (rest := []) ⟨hx, hb, hml, hown, hts⟩ (k_X10_cornerOf2 l dC dI cI cZ cQ b mday mdoo mdA mdB mfar mmar mtel mgai mfal mtop mstr mgho mfai mpto mwal mahd mahf mcho mbes mbyt mtxt mpos mtka mtok mdig mnum mfau mrdm mrea mlin mlne mthg mord mbor mbsm mans mand manr mali t r_mday r_mdoo r_mdA r_mdB r_mmar r_mgai r_mfal r_mtop r_mstr r_mgho r_mfai r_mahd r_mahf r_mcho r_mbyt r_mpos r_mrdm r_mlin r_mthg r_mord r_mans) (cwV 1 hts gX10_put_X10_cornerOf rfl rfl rfl (by decide +kernel) ⟨Nat.le_of_ble_eq_true rfl, Nat.le_of_ble_eq_true rfl⟩) hP hK hN [0, 1, 2, 3, 4, 5, 6, 7, 8, 9, 10, 11, 12, 13, 14, 15, 16, 17, 18, 19, 20, 21, 22, 23, 24, 25] rfl 0 10 rfl rfl rfl hl.1 rfl (Nat.le_of_ble_eq_true rfl) dX10_put_19 ⟨Nat.le_of_ble_eq_true rfl, Nat.le_of_ble_eq_true rfl⟩ (fun r5 h6 => ?_)
      have h6 : (-1 ≤ r5.toInt) ∧ (r5.toInt ≤ 47) ∧ (whr mtop t r5) := h6
      obtain ⟨h6_0, h6_1, h6_2⟩ := h6
      refine lv_iconst (v := (-1)) hx hb dX10_put_22 (by decide) ?_
      refine lv_icmp_eq (tgt := 29) hx hb dX10_put_23 (by decide) (fun c7 => ?_) (fun c7 => ?_)
      · have dc7 : r5.toInt = (-1) := eqC rfl (show ((-1) : Int32).toInt = (-1) from rfl) c7
        refine lv_aload_n hx hb dX10_put_29 rfl (lv_at hl 0 rfl) ?_
        refine va_get (D := (dC, dI)) (ci := 10) (v := .ref (b 9)) (C := RX10) (T := TX10) (N := 39) hx hb hts inX10 hown hK hP 0 rfl rfl 9 (by decide) lf32 (fun _ h9 => h9) rfl dX10_put_30 ?_
        refine lv_iload_n hx hb dX10_put_33 rfl (lv_at hl 2 rfl) ?_
        have b8 : vp_in co 48 := inC rfl (by omega) (by omega)
        refine va_iald hx hb hK hP 6 0 rfl rfl b8 dX10_put_34 ?_
        have g9 : -1 ≤ (mtop co.toNatClampNeg).toInt ∧ (mtop co.toNatClampNeg).toInt ≤ 23 := rg_at r_mtop b8
        refine lv_topi (fun x10 ex10 => ?_)
        have ix10 : x10.toInt = (mtop co.toNatClampNeg).toInt := by rw [ex10]
        refine lv_istore_n (lv' := [(3, .int x10), (0, .ref (b 39)), (1, .int t), (2, .int co)]) hx hb dX10_put_35 rfl hl (by decide) rfl (fun ls hl => ?_)
        refine lv_iload_n hx hb dX10_put_36 rfl (lv_at hl 0 rfl) ?_
        refine lv_iconst (v := (-1)) hx hb dX10_put_37 (by decide) ?_
        refine lv_icmp_eq (tgt := 54) hx hb dX10_put_38 (by decide) (fun c11 => ?_) (fun c11 => ?_)
        · have dc11 : x10.toInt = (-1) := eqC rfl (show ((-1) : Int32).toInt = (-1) from rfl) c11
          refine lv_iconst (v := 0) hx hb dX10_put_54 (by decide) ?_
          refine lv_istore (lv' := [(4, .int 0), (3, .int x10), (0, .ref (b 39)), (1, .int t), (2, .int co)]) hx hb dX10_put_55 hl (by decide) rfl (fun ls hl => ?_)
          refine lv_aload_n hx hb dX10_put_57 rfl (lv_at hl 2 rfl) ?_
          refine va_get (D := (dC, dI)) (ci := 10) (v := .ref (b 11)) (C := RX10) (T := TX10) (N := 39) hx hb hts inX10 hown hK hP 0 rfl rfl 11 (by decide) lf38 (fun _ h9 => h9) rfl dX10_put_58 ?_
          refine lv_iload_n hx hb dX10_put_61 rfl (lv_at hl 4 rfl) ?_
          refine lv_iload hx hb dX10_put_62 (lv_at hl 0 rfl) ?_
          refine lv_if_eq (tgt := 71) hx hb dX10_put_64 (by decide) (fun _ => ?_) (fun c9 => absurd (by decide) c9)
          refine lv_iconst (v := (-1)) hx hb dX10_put_71 (by decide) ?_
          have b12 : vp_in co 48 := inC rfl (by omega) (by omega)
          have g13 : rg 48 (-1) (23) (upd mgho co.toNatClampNeg (-1)) := rg_upd r_mgho (show ((-1) : Int32).toInt = (-1) from rfl) (by omega) (by omega)
          refine va_iast hx hb hK hP hD hS 8 0 rfl rfl b12 dX10_put_72 (fun H locs hP hD hS => ?_)
          obtain ⟨mgho_u14, emgho_u14⟩ : ∃ f : Nat → Int32, f = upd mgho co.toNatClampNeg (-1) := ⟨_, rfl⟩
          have rmgho_u14 : rg 48 (-1) (23) mgho_u14 := by rw [emgho_u14]; exact g13
          have hP : va_P (dC, dI) vwCl (wMod cI cZ cQ b mday mdoo mdA mdB mfar mmar mtel mgai mfal mtop mstr mgho_u14 mfai mpto mwal mahd mahf mcho mbes mbyt mtxt mpos mtka mtok mdig mnum mfau mrdm mrea mlin mlne mthg mord mbor mbsm mans mand manr mali) H := by rw [emgho_u14]; exact hP
          have hD : va_D A (wMod cI cZ cQ b mday mdoo mdA mdB mfar mmar mtel mgai mfal mtop mstr mgho_u14 mfai mpto mwal mahd mahf mcho mbes mbyt mtxt mpos mtka mtok mdig mnum mfau mrdm mrea mlin mlne mthg mord mbor mbsm mans mand manr mali) := by rw [emgho_u14]; exact hD
          refine lv_aload_n hx hb dX10_put_73 rfl (lv_at hl 2 rfl) ?_
          refine va_get (D := (dC, dI)) (ci := 10) (v := .ref (b 12)) (C := RX10) (T := TX10) (N := 39) hx hb hts inX10 hown hK hP 0 rfl rfl 12 (by decide) lf41 (fun _ h9 => h9) rfl dX10_put_74 ?_
          refine lv_iload_n hx hb dX10_put_77 rfl (lv_at hl 4 rfl) ?_
          refine lv_iload hx hb dX10_put_78 (lv_at hl 0 rfl) ?_
          refine lv_if_eq (tgt := 92) hx hb dX10_put_80 (by decide) (fun _ => ?_) (fun c9 => absurd (by decide) c9)
          refine lv_iconst (v := 0) hx hb dX10_put_92 (by decide) ?_
          have b15 : vp_in co 48 := inC rfl (by omega) (by omega)
          have g16 : rg 48 (0) (100) (upd mfai co.toNatClampNeg 0) := rg_upd r_mfai (show (0 : Int32).toInt = 0 from rfl) (by omega) (by omega)
          refine va_iast hx hb hK hP hD hS 9 0 rfl rfl b15 dX10_put_93 (fun H locs hP hD hS => ?_)
          obtain ⟨mfai_u17, emfai_u17⟩ : ∃ f : Nat → Int32, f = upd mfai co.toNatClampNeg 0 := ⟨_, rfl⟩
          have rmfai_u17 : rg 48 (0) (100) mfai_u17 := by rw [emfai_u17]; exact g16
          have hP : va_P (dC, dI) vwCl (wMod cI cZ cQ b mday mdoo mdA mdB mfar mmar mtel mgai mfal mtop mstr mgho_u14 mfai_u17 mpto mwal mahd mahf mcho mbes mbyt mtxt mpos mtka mtok mdig mnum mfau mrdm mrea mlin mlne mthg mord mbor mbsm mans mand manr mali) H := by rw [emfai_u17]; exact hP
          have hD : va_D A (wMod cI cZ cQ b mday mdoo mdA mdB mfar mmar mtel mgai mfal mtop mstr mgho_u14 mfai_u17 mpto mwal mahd mahf mcho mbes mbyt mtxt mpos mtka mtok mdig mnum mfau mrdm mrea mlin mlne mthg mord mbor mbsm mans mand manr mali) := by rw [emfai_u17]; exact hD
          refine lv_aload_n hx hb dX10_put_94 rfl (lv_at hl 2 rfl) ?_
          refine va_get (D := (dC, dI)) (ci := 10) (v := .ref (b 9)) (C := RX10) (T := TX10) (N := 39) hx hb hts inX10 hown hK hP 0 rfl rfl 9 (by decide) lf32 (fun _ h9 => h9) rfl dX10_put_95 ?_
          refine lv_iload_n hx hb dX10_put_98 rfl (lv_at hl 4 rfl) ?_
          refine lv_iload_n hx hb dX10_put_99 rfl (lv_at hl 3 rfl) ?_
          have b18 : vp_in co 48 := inC rfl (by omega) (by omega)
          have g19 : rg 48 (-1) (23) (upd mtop co.toNatClampNeg t) := rg_upd r_mtop rfl (by omega) (by omega)
          refine va_iast hx hb hK hP hD hS 6 0 rfl rfl b18 dX10_put_100 (fun H locs hP hD hS => ?_)
          obtain ⟨mtop_u20, emtop_u20⟩ : ∃ f : Nat → Int32, f = upd mtop co.toNatClampNeg t := ⟨_, rfl⟩
          have rmtop_u20 : rg 48 (-1) (23) mtop_u20 := by rw [emtop_u20]; exact g19
          have hP : va_P (dC, dI) vwCl (wMod cI cZ cQ b mday mdoo mdA mdB mfar mmar mtel mgai mfal mtop_u20 mstr mgho_u14 mfai_u17 mpto mwal mahd mahf mcho mbes mbyt mtxt mpos mtka mtok mdig mnum mfau mrdm mrea mlin mlne mthg mord mbor mbsm mans mand manr mali) H := by rw [emtop_u20]; exact hP
          have hD : va_D A (wMod cI cZ cQ b mday mdoo mdA mdB mfar mmar mtel mgai mfal mtop_u20 mstr mgho_u14 mfai_u17 mpto mwal mahd mahf mcho mbes mbyt mtxt mpos mtka mtok mdig mnum mfau mrdm mrea mlin mlne mthg mord mbor mbsm mans mand manr mali) := by rw [emtop_u20]; exact hD
          refine lv_aload_n hx hb dX10_put_101 rfl (lv_at hl 2 rfl) ?_
          refine va_get (D := (dC, dI)) (ci := 10) (v := .ref (b 10)) (C := RX10) (T := TX10) (N := 39) hx hb hts inX10 hown hK hP 0 rfl rfl 10 (by decide) lf35 (fun _ h9 => h9) rfl dX10_put_102 ?_
          refine lv_iload_n hx hb dX10_put_105 rfl (lv_at hl 4 rfl) ?_
          refine lv_bipush (v := 100) hx hb dX10_put_106 (by decide) ?_
          have b21 : vp_in co 48 := inC rfl (by omega) (by omega)
          have g22 : rg 48 (0) (100) (upd mstr co.toNatClampNeg 100) := rg_upd r_mstr (show (100 : Int32).toInt = 100 from rfl) (by omega) (by omega)
          refine va_iast hx hb hK hP hD hS 7 0 rfl rfl b21 dX10_put_108 (fun H locs hP hD hS => ?_)
          obtain ⟨mstr_u23, emstr_u23⟩ : ∃ f : Nat → Int32, f = upd mstr co.toNatClampNeg 100 := ⟨_, rfl⟩
          have rmstr_u23 : rg 48 (0) (100) mstr_u23 := by rw [emstr_u23]; exact g22
          have hP : va_P (dC, dI) vwCl (wMod cI cZ cQ b mday mdoo mdA mdB mfar mmar mtel mgai mfal mtop_u20 mstr_u23 mgho_u14 mfai_u17 mpto mwal mahd mahf mcho mbes mbyt mtxt mpos mtka mtok mdig mnum mfau mrdm mrea mlin mlne mthg mord mbor mbsm mans mand manr mali) H := by rw [emstr_u23]; exact hP
          have hD : va_D A (wMod cI cZ cQ b mday mdoo mdA mdB mfar mmar mtel mgai mfal mtop_u20 mstr_u23 mgho_u14 mfai_u17 mpto mwal mahd mahf mcho mbes mbyt mtxt mpos mtka mtok mdig mnum mfau mrdm mrea mlin mlne mthg mord mbor mbsm mans mand manr mali) := by rw [emstr_u23]; exact hD
          refine lv_aload_n hx hb dX10_put_109 rfl (lv_at hl 2 rfl) ?_
          refine va_get (D := (dC, dI)) (ci := 10) (v := .ref (b 13)) (C := RX10) (T := TX10) (N := 39) hx hb hts inX10 hown hK hP 0 rfl rfl 13 (by decide) lf44 (fun _ h9 => h9) rfl dX10_put_110 ?_
          refine lv_iload_n hx hb dX10_put_113 rfl (lv_at hl 4 rfl) ?_
          refine lv_aload_n hx hb dX10_put_114 rfl (lv_at hl 2 rfl) ?_
          refine va_get (D := (dC, dI)) (ci := 10) (v := .int mday) (C := RX10) (T := TX10) (N := 39) hx hb hts inX10 hown hK hP 0 rfl rfl 0 (by decide) lf125 (fun _ h9 => h9) rfl dX10_put_115 ?_
          have b24 : vp_in co 48 := inC rfl (by omega) (by omega)
          refine va_iast hx hb hK hP hD hS 10 0 rfl rfl b24 dX10_put_118 (fun H locs hP hD hS => ?_)
          obtain ⟨mpto_u25, empto_u25⟩ : ∃ f : Nat → Int32, f = upd mpto co.toNatClampNeg mday := ⟨_, rfl⟩
          have hP : va_P (dC, dI) vwCl (wMod cI cZ cQ b mday mdoo mdA mdB mfar mmar mtel mgai mfal mtop_u20 mstr_u23 mgho_u14 mfai_u17 mpto_u25 mwal mahd mahf mcho mbes mbyt mtxt mpos mtka mtok mdig mnum mfau mrdm mrea mlin mlne mthg mord mbor mbsm mans mand manr mali) H := by rw [empto_u25]; exact hP
          have hD : va_D A (wMod cI cZ cQ b mday mdoo mdA mdB mfar mmar mtel mgai mfal mtop_u20 mstr_u23 mgho_u14 mfai_u17 mpto_u25 mwal mahd mahf mcho mbes mbyt mtxt mpos mtka mtok mdig mnum mfau mrdm mrea mlin mlne mthg mord mbor mbsm mans mand manr mali) := by rw [empto_u25]; exact hD
          refine lv_iload_n hx hb dX10_put_119 rfl (lv_at hl 1 rfl) ?_
          exact W.iret (v := x10) hx hb hr (fun tq ht hW => ⟨⟨x10, (uS [mgho_u14, mfai_u17, mtop_u20, mstr_u23, mpto_u25] 0 (fun _ => 0)), rfl, ⟨(show spPutM mtop mstr mgho mfai mpto mday t co x10 mtop_u20 mstr_u23 mgho_u14 mfai_u17 mpto_u25 from by (first | exact putM_bad (by omega) | exact putM_no (by assumption) (by omega) (by assumption) | (refine putM_ok (by assumption) (by omega) (by assumption) (by assumption) (by assumption) ?_; (subst_vars; refine ⟨rfl, rfl, ?_⟩; first | exact Or.inl ⟨by (first | assumption | exact Eq.symm (by assumption)), by omega, rfl, rfl⟩ | exact Or.inr ⟨Or.inl (by (first | assumption | exact Eq.symm (by assumption))), rfl, rfl⟩ | exact Or.inr ⟨Or.inr (by omega), rfl, rfl⟩)))), rmgho_u14, rmfai_u17, rmtop_u20, rmstr_u23⟩, by rw [ht]; exact hP, hD⟩, hS.F ht⟩) hS.2.2 dX10_put_120
        · have dc11 : 0 ≤ x10.toInt := ka_lo (by omega) (neC rfl (show ((-1) : Int32).toInt = (-1) from rfl) c11)
          refine lv_aload_n hx hb dX10_put_41 rfl (lv_at hl 1 rfl) ?_
          refine va_get (D := (dC, dI)) (ci := 10) (v := .ref (b 10)) (C := RX10) (T := TX10) (N := 39) hx hb hts inX10 hown hK hP 0 rfl rfl 10 (by decide) lf35 (fun _ h9 => h9) rfl dX10_put_42 ?_
          refine lv_iload_n hx hb dX10_put_45 rfl (lv_at hl 3 rfl) ?_
          have b26 : vp_in co 48 := inC rfl (by omega) (by omega)
          refine va_iald hx hb hK hP 7 0 rfl rfl b26 dX10_put_46 ?_
          have g27 : 0 ≤ (mstr co.toNatClampNeg).toInt ∧ (mstr co.toNatClampNeg).toInt ≤ 100 := rg_at r_mstr b26
          refine lv_if_le (tgt := 54) hx hb dX10_put_47 (by decide) (fun c28 => ?_) (fun c28 => ?_)
          · have dc28 : (mstr co.toNatClampNeg).toInt ≤ 0 := leC rfl (show (0 : Int32).toInt = 0 from rfl) c28
            refine lv_iconst (v := 0) hx hb dX10_put_54 (by decide) ?_
            refine lv_istore (lv' := [(4, .int 0), (3, .int x10), (0, .ref (b 39)), (1, .int t), (2, .int co)]) hx hb dX10_put_55 hl (by decide) rfl (fun ls hl => ?_)
            refine lv_aload_n hx hb dX10_put_57 rfl (lv_at hl 2 rfl) ?_
            refine va_get (D := (dC, dI)) (ci := 10) (v := .ref (b 11)) (C := RX10) (T := TX10) (N := 39) hx hb hts inX10 hown hK hP 0 rfl rfl 11 (by decide) lf38 (fun _ h9 => h9) rfl dX10_put_58 ?_
            refine lv_iload_n hx hb dX10_put_61 rfl (lv_at hl 4 rfl) ?_
            refine lv_iload hx hb dX10_put_62 (lv_at hl 0 rfl) ?_
            refine lv_if_eq (tgt := 71) hx hb dX10_put_64 (by decide) (fun _ => ?_) (fun c9 => absurd (by decide) c9)
            refine lv_iconst (v := (-1)) hx hb dX10_put_71 (by decide) ?_
            have b29 : vp_in co 48 := inC rfl (by omega) (by omega)
            have g30 : rg 48 (-1) (23) (upd mgho co.toNatClampNeg (-1)) := rg_upd r_mgho (show ((-1) : Int32).toInt = (-1) from rfl) (by omega) (by omega)
            refine va_iast hx hb hK hP hD hS 8 0 rfl rfl b29 dX10_put_72 (fun H locs hP hD hS => ?_)
            obtain ⟨mgho_u31, emgho_u31⟩ : ∃ f : Nat → Int32, f = upd mgho co.toNatClampNeg (-1) := ⟨_, rfl⟩
            have rmgho_u31 : rg 48 (-1) (23) mgho_u31 := by rw [emgho_u31]; exact g30
            have hP : va_P (dC, dI) vwCl (wMod cI cZ cQ b mday mdoo mdA mdB mfar mmar mtel mgai mfal mtop mstr mgho_u31 mfai mpto mwal mahd mahf mcho mbes mbyt mtxt mpos mtka mtok mdig mnum mfau mrdm mrea mlin mlne mthg mord mbor mbsm mans mand manr mali) H := by rw [emgho_u31]; exact hP
            have hD : va_D A (wMod cI cZ cQ b mday mdoo mdA mdB mfar mmar mtel mgai mfal mtop mstr mgho_u31 mfai mpto mwal mahd mahf mcho mbes mbyt mtxt mpos mtka mtok mdig mnum mfau mrdm mrea mlin mlne mthg mord mbor mbsm mans mand manr mali) := by rw [emgho_u31]; exact hD
            refine lv_aload_n hx hb dX10_put_73 rfl (lv_at hl 2 rfl) ?_
            refine va_get (D := (dC, dI)) (ci := 10) (v := .ref (b 12)) (C := RX10) (T := TX10) (N := 39) hx hb hts inX10 hown hK hP 0 rfl rfl 12 (by decide) lf41 (fun _ h9 => h9) rfl dX10_put_74 ?_
            refine lv_iload_n hx hb dX10_put_77 rfl (lv_at hl 4 rfl) ?_
            refine lv_iload hx hb dX10_put_78 (lv_at hl 0 rfl) ?_
            refine lv_if_eq (tgt := 92) hx hb dX10_put_80 (by decide) (fun _ => ?_) (fun c9 => absurd (by decide) c9)
            refine lv_iconst (v := 0) hx hb dX10_put_92 (by decide) ?_
            have b32 : vp_in co 48 := inC rfl (by omega) (by omega)
            have g33 : rg 48 (0) (100) (upd mfai co.toNatClampNeg 0) := rg_upd r_mfai (show (0 : Int32).toInt = 0 from rfl) (by omega) (by omega)
            refine va_iast hx hb hK hP hD hS 9 0 rfl rfl b32 dX10_put_93 (fun H locs hP hD hS => ?_)
            obtain ⟨mfai_u34, emfai_u34⟩ : ∃ f : Nat → Int32, f = upd mfai co.toNatClampNeg 0 := ⟨_, rfl⟩
            have rmfai_u34 : rg 48 (0) (100) mfai_u34 := by rw [emfai_u34]; exact g33
            have hP : va_P (dC, dI) vwCl (wMod cI cZ cQ b mday mdoo mdA mdB mfar mmar mtel mgai mfal mtop mstr mgho_u31 mfai_u34 mpto mwal mahd mahf mcho mbes mbyt mtxt mpos mtka mtok mdig mnum mfau mrdm mrea mlin mlne mthg mord mbor mbsm mans mand manr mali) H := by rw [emfai_u34]; exact hP
            have hD : va_D A (wMod cI cZ cQ b mday mdoo mdA mdB mfar mmar mtel mgai mfal mtop mstr mgho_u31 mfai_u34 mpto mwal mahd mahf mcho mbes mbyt mtxt mpos mtka mtok mdig mnum mfau mrdm mrea mlin mlne mthg mord mbor mbsm mans mand manr mali) := by rw [emfai_u34]; exact hD
            refine lv_aload_n hx hb dX10_put_94 rfl (lv_at hl 2 rfl) ?_
            refine va_get (D := (dC, dI)) (ci := 10) (v := .ref (b 9)) (C := RX10) (T := TX10) (N := 39) hx hb hts inX10 hown hK hP 0 rfl rfl 9 (by decide) lf32 (fun _ h9 => h9) rfl dX10_put_95 ?_
            refine lv_iload_n hx hb dX10_put_98 rfl (lv_at hl 4 rfl) ?_
            refine lv_iload_n hx hb dX10_put_99 rfl (lv_at hl 3 rfl) ?_
            have b35 : vp_in co 48 := inC rfl (by omega) (by omega)
            have g36 : rg 48 (-1) (23) (upd mtop co.toNatClampNeg t) := rg_upd r_mtop rfl (by omega) (by omega)
            refine va_iast hx hb hK hP hD hS 6 0 rfl rfl b35 dX10_put_100 (fun H locs hP hD hS => ?_)
            obtain ⟨mtop_u37, emtop_u37⟩ : ∃ f : Nat → Int32, f = upd mtop co.toNatClampNeg t := ⟨_, rfl⟩
            have rmtop_u37 : rg 48 (-1) (23) mtop_u37 := by rw [emtop_u37]; exact g36
            have hP : va_P (dC, dI) vwCl (wMod cI cZ cQ b mday mdoo mdA mdB mfar mmar mtel mgai mfal mtop_u37 mstr mgho_u31 mfai_u34 mpto mwal mahd mahf mcho mbes mbyt mtxt mpos mtka mtok mdig mnum mfau mrdm mrea mlin mlne mthg mord mbor mbsm mans mand manr mali) H := by rw [emtop_u37]; exact hP
            have hD : va_D A (wMod cI cZ cQ b mday mdoo mdA mdB mfar mmar mtel mgai mfal mtop_u37 mstr mgho_u31 mfai_u34 mpto mwal mahd mahf mcho mbes mbyt mtxt mpos mtka mtok mdig mnum mfau mrdm mrea mlin mlne mthg mord mbor mbsm mans mand manr mali) := by rw [emtop_u37]; exact hD
            refine lv_aload_n hx hb dX10_put_101 rfl (lv_at hl 2 rfl) ?_
            refine va_get (D := (dC, dI)) (ci := 10) (v := .ref (b 10)) (C := RX10) (T := TX10) (N := 39) hx hb hts inX10 hown hK hP 0 rfl rfl 10 (by decide) lf35 (fun _ h9 => h9) rfl dX10_put_102 ?_
            refine lv_iload_n hx hb dX10_put_105 rfl (lv_at hl 4 rfl) ?_
            refine lv_bipush (v := 100) hx hb dX10_put_106 (by decide) ?_
            have b38 : vp_in co 48 := inC rfl (by omega) (by omega)
            have g39 : rg 48 (0) (100) (upd mstr co.toNatClampNeg 100) := rg_upd r_mstr (show (100 : Int32).toInt = 100 from rfl) (by omega) (by omega)
            refine va_iast hx hb hK hP hD hS 7 0 rfl rfl b38 dX10_put_108 (fun H locs hP hD hS => ?_)
            obtain ⟨mstr_u40, emstr_u40⟩ : ∃ f : Nat → Int32, f = upd mstr co.toNatClampNeg 100 := ⟨_, rfl⟩
            have rmstr_u40 : rg 48 (0) (100) mstr_u40 := by rw [emstr_u40]; exact g39
            have hP : va_P (dC, dI) vwCl (wMod cI cZ cQ b mday mdoo mdA mdB mfar mmar mtel mgai mfal mtop_u37 mstr_u40 mgho_u31 mfai_u34 mpto mwal mahd mahf mcho mbes mbyt mtxt mpos mtka mtok mdig mnum mfau mrdm mrea mlin mlne mthg mord mbor mbsm mans mand manr mali) H := by rw [emstr_u40]; exact hP
            have hD : va_D A (wMod cI cZ cQ b mday mdoo mdA mdB mfar mmar mtel mgai mfal mtop_u37 mstr_u40 mgho_u31 mfai_u34 mpto mwal mahd mahf mcho mbes mbyt mtxt mpos mtka mtok mdig mnum mfau mrdm mrea mlin mlne mthg mord mbor mbsm mans mand manr mali) := by rw [emstr_u40]; exact hD
            refine lv_aload_n hx hb dX10_put_109 rfl (lv_at hl 2 rfl) ?_
            refine va_get (D := (dC, dI)) (ci := 10) (v := .ref (b 13)) (C := RX10) (T := TX10) (N := 39) hx hb hts inX10 hown hK hP 0 rfl rfl 13 (by decide) lf44 (fun _ h9 => h9) rfl dX10_put_110 ?_
            refine lv_iload_n hx hb dX10_put_113 rfl (lv_at hl 4 rfl) ?_
            refine lv_aload_n hx hb dX10_put_114 rfl (lv_at hl 2 rfl) ?_
            refine va_get (D := (dC, dI)) (ci := 10) (v := .int mday) (C := RX10) (T := TX10) (N := 39) hx hb hts inX10 hown hK hP 0 rfl rfl 0 (by decide) lf125 (fun _ h9 => h9) rfl dX10_put_115 ?_
            have b41 : vp_in co 48 := inC rfl (by omega) (by omega)
            refine va_iast hx hb hK hP hD hS 10 0 rfl rfl b41 dX10_put_118 (fun H locs hP hD hS => ?_)
            obtain ⟨mpto_u42, empto_u42⟩ : ∃ f : Nat → Int32, f = upd mpto co.toNatClampNeg mday := ⟨_, rfl⟩
            have hP : va_P (dC, dI) vwCl (wMod cI cZ cQ b mday mdoo mdA mdB mfar mmar mtel mgai mfal mtop_u37 mstr_u40 mgho_u31 mfai_u34 mpto_u42 mwal mahd mahf mcho mbes mbyt mtxt mpos mtka mtok mdig mnum mfau mrdm mrea mlin mlne mthg mord mbor mbsm mans mand manr mali) H := by rw [empto_u42]; exact hP
            have hD : va_D A (wMod cI cZ cQ b mday mdoo mdA mdB mfar mmar mtel mgai mfal mtop_u37 mstr_u40 mgho_u31 mfai_u34 mpto_u42 mwal mahd mahf mcho mbes mbyt mtxt mpos mtka mtok mdig mnum mfau mrdm mrea mlin mlne mthg mord mbor mbsm mans mand manr mali) := by rw [empto_u42]; exact hD
            refine lv_iload_n hx hb dX10_put_119 rfl (lv_at hl 1 rfl) ?_
            exact W.iret (v := x10) hx hb hr (fun tq ht hW => ⟨⟨x10, (uS [mgho_u31, mfai_u34, mtop_u37, mstr_u40, mpto_u42] 0 (fun _ => 0)), rfl, ⟨(show spPutM mtop mstr mgho mfai mpto mday t co x10 mtop_u37 mstr_u40 mgho_u31 mfai_u34 mpto_u42 from by (first | exact putM_bad (by omega) | exact putM_no (by assumption) (by omega) (by assumption) | (refine putM_ok (by assumption) (by omega) (by assumption) (by assumption) (by assumption) ?_; (subst_vars; refine ⟨rfl, rfl, ?_⟩; first | exact Or.inl ⟨by (first | assumption | exact Eq.symm (by assumption)), by omega, rfl, rfl⟩ | exact Or.inr ⟨Or.inl (by (first | assumption | exact Eq.symm (by assumption))), rfl, rfl⟩ | exact Or.inr ⟨Or.inr (by omega), rfl, rfl⟩)))), rmgho_u31, rmfai_u34, rmtop_u37, rmstr_u40⟩, by rw [ht]; exact hP, hD⟩, hS.F ht⟩) hS.2.2 dX10_put_120
          · have dc28 : 0 < (mstr co.toNatClampNeg).toInt := nleC rfl (show (0 : Int32).toInt = 0 from rfl) c28
            refine lv_iconst (v := 1) hx hb dX10_put_50 (by decide) ?_
            refine lv_goto (tgt := 55) hx hb dX10_put_51 (by decide) ?_
            refine lv_istore (lv' := [(4, .int 1), (3, .int x10), (0, .ref (b 39)), (1, .int t), (2, .int co)]) hx hb dX10_put_55 hl (by decide) rfl (fun ls hl => ?_)
            refine lv_aload_n hx hb dX10_put_57 rfl (lv_at hl 2 rfl) ?_
            refine va_get (D := (dC, dI)) (ci := 10) (v := .ref (b 11)) (C := RX10) (T := TX10) (N := 39) hx hb hts inX10 hown hK hP 0 rfl rfl 11 (by decide) lf38 (fun _ h9 => h9) rfl dX10_put_58 ?_
            refine lv_iload_n hx hb dX10_put_61 rfl (lv_at hl 4 rfl) ?_
            refine lv_iload hx hb dX10_put_62 (lv_at hl 0 rfl) ?_
            refine lv_if_eq (tgt := 71) hx hb dX10_put_64 (by decide) (fun c9 => absurd c9 (by decide)) (fun _ => ?_)
            refine lv_iload_n hx hb dX10_put_67 rfl (lv_at hl 1 rfl) ?_
            refine lv_goto (tgt := 72) hx hb dX10_put_68 (by decide) ?_
            have b43 : vp_in co 48 := inC rfl (by omega) (by omega)
            have g44 : rg 48 (-1) (23) (upd mgho co.toNatClampNeg x10) := rg_upd r_mgho rfl (by omega) (by omega)
            refine va_iast hx hb hK hP hD hS 8 0 rfl rfl b43 dX10_put_72 (fun H locs hP hD hS => ?_)
            obtain ⟨mgho_u45, emgho_u45⟩ : ∃ f : Nat → Int32, f = upd mgho co.toNatClampNeg x10 := ⟨_, rfl⟩
            have rmgho_u45 : rg 48 (-1) (23) mgho_u45 := by rw [emgho_u45]; exact g44
            have hP : va_P (dC, dI) vwCl (wMod cI cZ cQ b mday mdoo mdA mdB mfar mmar mtel mgai mfal mtop mstr mgho_u45 mfai mpto mwal mahd mahf mcho mbes mbyt mtxt mpos mtka mtok mdig mnum mfau mrdm mrea mlin mlne mthg mord mbor mbsm mans mand manr mali) H := by rw [emgho_u45]; exact hP
            have hD : va_D A (wMod cI cZ cQ b mday mdoo mdA mdB mfar mmar mtel mgai mfal mtop mstr mgho_u45 mfai mpto mwal mahd mahf mcho mbes mbyt mtxt mpos mtka mtok mdig mnum mfau mrdm mrea mlin mlne mthg mord mbor mbsm mans mand manr mali) := by rw [emgho_u45]; exact hD
            refine lv_aload_n hx hb dX10_put_73 rfl (lv_at hl 2 rfl) ?_
            refine va_get (D := (dC, dI)) (ci := 10) (v := .ref (b 12)) (C := RX10) (T := TX10) (N := 39) hx hb hts inX10 hown hK hP 0 rfl rfl 12 (by decide) lf41 (fun _ h9 => h9) rfl dX10_put_74 ?_
            refine lv_iload_n hx hb dX10_put_77 rfl (lv_at hl 4 rfl) ?_
            refine lv_iload hx hb dX10_put_78 (lv_at hl 0 rfl) ?_
            refine lv_if_eq (tgt := 92) hx hb dX10_put_80 (by decide) (fun c9 => absurd c9 (by decide)) (fun _ => ?_)
            refine lv_aload_n hx hb dX10_put_83 rfl (lv_at hl 2 rfl) ?_
            refine va_get (D := (dC, dI)) (ci := 10) (v := .ref (b 10)) (C := RX10) (T := TX10) (N := 39) hx hb hts inX10 hown hK hP 0 rfl rfl 10 (by decide) lf35 (fun _ h9 => h9) rfl dX10_put_84 ?_
            refine lv_iload_n hx hb dX10_put_87 rfl (lv_at hl 4 rfl) ?_
            have b46 : vp_in co 48 := inC rfl (by omega) (by omega)
            refine va_iald hx hb hK hP 7 0 rfl rfl b46 dX10_put_88 ?_
            have g47 : 0 ≤ (mstr co.toNatClampNeg).toInt ∧ (mstr co.toNatClampNeg).toInt ≤ 100 := rg_at r_mstr b46
            refine lv_goto (tgt := 93) hx hb dX10_put_89 (by decide) ?_
            refine lv_topi (fun x48 ex48 => ?_)
            have ix48 : x48.toInt = (mstr co.toNatClampNeg).toInt := by rw [ex48]
            have b49 : vp_in co 48 := inC rfl (by omega) (by omega)
            have g50 : rg 48 (0) (100) (upd mfai co.toNatClampNeg x48) := rg_upd r_mfai rfl (by omega) (by omega)
            refine va_iast hx hb hK hP hD hS 9 0 rfl rfl b49 dX10_put_93 (fun H locs hP hD hS => ?_)
            obtain ⟨mfai_u51, emfai_u51⟩ : ∃ f : Nat → Int32, f = upd mfai co.toNatClampNeg x48 := ⟨_, rfl⟩
            have rmfai_u51 : rg 48 (0) (100) mfai_u51 := by rw [emfai_u51]; exact g50
            have hP : va_P (dC, dI) vwCl (wMod cI cZ cQ b mday mdoo mdA mdB mfar mmar mtel mgai mfal mtop mstr mgho_u45 mfai_u51 mpto mwal mahd mahf mcho mbes mbyt mtxt mpos mtka mtok mdig mnum mfau mrdm mrea mlin mlne mthg mord mbor mbsm mans mand manr mali) H := by rw [emfai_u51]; exact hP
            have hD : va_D A (wMod cI cZ cQ b mday mdoo mdA mdB mfar mmar mtel mgai mfal mtop mstr mgho_u45 mfai_u51 mpto mwal mahd mahf mcho mbes mbyt mtxt mpos mtka mtok mdig mnum mfau mrdm mrea mlin mlne mthg mord mbor mbsm mans mand manr mali) := by rw [emfai_u51]; exact hD
            refine lv_aload_n hx hb dX10_put_94 rfl (lv_at hl 2 rfl) ?_
            refine va_get (D := (dC, dI)) (ci := 10) (v := .ref (b 9)) (C := RX10) (T := TX10) (N := 39) hx hb hts inX10 hown hK hP 0 rfl rfl 9 (by decide) lf32 (fun _ h9 => h9) rfl dX10_put_95 ?_
            refine lv_iload_n hx hb dX10_put_98 rfl (lv_at hl 4 rfl) ?_
            refine lv_iload_n hx hb dX10_put_99 rfl (lv_at hl 3 rfl) ?_
            have b52 : vp_in co 48 := inC rfl (by omega) (by omega)
            have g53 : rg 48 (-1) (23) (upd mtop co.toNatClampNeg t) := rg_upd r_mtop rfl (by omega) (by omega)
            refine va_iast hx hb hK hP hD hS 6 0 rfl rfl b52 dX10_put_100 (fun H locs hP hD hS => ?_)
            obtain ⟨mtop_u54, emtop_u54⟩ : ∃ f : Nat → Int32, f = upd mtop co.toNatClampNeg t := ⟨_, rfl⟩
            have rmtop_u54 : rg 48 (-1) (23) mtop_u54 := by rw [emtop_u54]; exact g53
            have hP : va_P (dC, dI) vwCl (wMod cI cZ cQ b mday mdoo mdA mdB mfar mmar mtel mgai mfal mtop_u54 mstr mgho_u45 mfai_u51 mpto mwal mahd mahf mcho mbes mbyt mtxt mpos mtka mtok mdig mnum mfau mrdm mrea mlin mlne mthg mord mbor mbsm mans mand manr mali) H := by rw [emtop_u54]; exact hP
            have hD : va_D A (wMod cI cZ cQ b mday mdoo mdA mdB mfar mmar mtel mgai mfal mtop_u54 mstr mgho_u45 mfai_u51 mpto mwal mahd mahf mcho mbes mbyt mtxt mpos mtka mtok mdig mnum mfau mrdm mrea mlin mlne mthg mord mbor mbsm mans mand manr mali) := by rw [emtop_u54]; exact hD
            refine lv_aload_n hx hb dX10_put_101 rfl (lv_at hl 2 rfl) ?_
            refine va_get (D := (dC, dI)) (ci := 10) (v := .ref (b 10)) (C := RX10) (T := TX10) (N := 39) hx hb hts inX10 hown hK hP 0 rfl rfl 10 (by decide) lf35 (fun _ h9 => h9) rfl dX10_put_102 ?_
            refine lv_iload_n hx hb dX10_put_105 rfl (lv_at hl 4 rfl) ?_
            refine lv_bipush (v := 100) hx hb dX10_put_106 (by decide) ?_
            have b55 : vp_in co 48 := inC rfl (by omega) (by omega)
            have g56 : rg 48 (0) (100) (upd mstr co.toNatClampNeg 100) := rg_upd r_mstr (show (100 : Int32).toInt = 100 from rfl) (by omega) (by omega)
            refine va_iast hx hb hK hP hD hS 7 0 rfl rfl b55 dX10_put_108 (fun H locs hP hD hS => ?_)
            obtain ⟨mstr_u57, emstr_u57⟩ : ∃ f : Nat → Int32, f = upd mstr co.toNatClampNeg 100 := ⟨_, rfl⟩
            have rmstr_u57 : rg 48 (0) (100) mstr_u57 := by rw [emstr_u57]; exact g56
            have hP : va_P (dC, dI) vwCl (wMod cI cZ cQ b mday mdoo mdA mdB mfar mmar mtel mgai mfal mtop_u54 mstr_u57 mgho_u45 mfai_u51 mpto mwal mahd mahf mcho mbes mbyt mtxt mpos mtka mtok mdig mnum mfau mrdm mrea mlin mlne mthg mord mbor mbsm mans mand manr mali) H := by rw [emstr_u57]; exact hP
            have hD : va_D A (wMod cI cZ cQ b mday mdoo mdA mdB mfar mmar mtel mgai mfal mtop_u54 mstr_u57 mgho_u45 mfai_u51 mpto mwal mahd mahf mcho mbes mbyt mtxt mpos mtka mtok mdig mnum mfau mrdm mrea mlin mlne mthg mord mbor mbsm mans mand manr mali) := by rw [emstr_u57]; exact hD
            refine lv_aload_n hx hb dX10_put_109 rfl (lv_at hl 2 rfl) ?_
            refine va_get (D := (dC, dI)) (ci := 10) (v := .ref (b 13)) (C := RX10) (T := TX10) (N := 39) hx hb hts inX10 hown hK hP 0 rfl rfl 13 (by decide) lf44 (fun _ h9 => h9) rfl dX10_put_110 ?_
            refine lv_iload_n hx hb dX10_put_113 rfl (lv_at hl 4 rfl) ?_
            refine lv_aload_n hx hb dX10_put_114 rfl (lv_at hl 2 rfl) ?_
            refine va_get (D := (dC, dI)) (ci := 10) (v := .int mday) (C := RX10) (T := TX10) (N := 39) hx hb hts inX10 hown hK hP 0 rfl rfl 0 (by decide) lf125 (fun _ h9 => h9) rfl dX10_put_115 ?_
            have b58 : vp_in co 48 := inC rfl (by omega) (by omega)
            refine va_iast hx hb hK hP hD hS 10 0 rfl rfl b58 dX10_put_118 (fun H locs hP hD hS => ?_)
            obtain ⟨mpto_u59, empto_u59⟩ : ∃ f : Nat → Int32, f = upd mpto co.toNatClampNeg mday := ⟨_, rfl⟩
            have hP : va_P (dC, dI) vwCl (wMod cI cZ cQ b mday mdoo mdA mdB mfar mmar mtel mgai mfal mtop_u54 mstr_u57 mgho_u45 mfai_u51 mpto_u59 mwal mahd mahf mcho mbes mbyt mtxt mpos mtka mtok mdig mnum mfau mrdm mrea mlin mlne mthg mord mbor mbsm mans mand manr mali) H := by rw [empto_u59]; exact hP
            have hD : va_D A (wMod cI cZ cQ b mday mdoo mdA mdB mfar mmar mtel mgai mfal mtop_u54 mstr_u57 mgho_u45 mfai_u51 mpto_u59 mwal mahd mahf mcho mbes mbyt mtxt mpos mtka mtok mdig mnum mfau mrdm mrea mlin mlne mthg mord mbor mbsm mans mand manr mali) := by rw [empto_u59]; exact hD
            refine lv_iload_n hx hb dX10_put_119 rfl (lv_at hl 1 rfl) ?_
            exact W.iret (v := x10) hx hb hr (fun tq ht hW => ⟨⟨x10, (uS [mgho_u45, mfai_u51, mtop_u54, mstr_u57, mpto_u59] 0 (fun _ => 0)), rfl, ⟨(show spPutM mtop mstr mgho mfai mpto mday t co x10 mtop_u54 mstr_u57 mgho_u45 mfai_u51 mpto_u59 from by (first | exact putM_bad (by omega) | exact putM_no (by assumption) (by omega) (by assumption) | (refine putM_ok (by assumption) (by omega) (by assumption) (by assumption) (by assumption) ?_; (subst_vars; refine ⟨rfl, rfl, ?_⟩; first | exact Or.inl ⟨by (first | assumption | exact Eq.symm (by assumption)), by omega, rfl, rfl⟩ | exact Or.inr ⟨Or.inl (by (first | assumption | exact Eq.symm (by assumption))), rfl, rfl⟩ | exact Or.inr ⟨Or.inr (by omega), rfl, rfl⟩)))), rmgho_u45, rmfai_u51, rmtop_u54, rmstr_u57⟩, by rw [ht]; exact hP, hD⟩, hS.F ht⟩) hS.2.2 dX10_put_120
      · have dc7 : 0 ≤ r5.toInt := ka_lo (by omega) (neC rfl (show ((-1) : Int32).toInt = (-1) from rfl) c7)
        refine lv_bipush (v := (-4)) hx hb dX10_put_26 (by decide) ?_
        exact W.iret (v := (-4)) hx hb hr (fun tq ht hW => ⟨⟨(-4), (uS [mgho, mfai, mtop, mstr, mpto] 0 (fun _ => 0)), rfl, ⟨(show spPutM mtop mstr mgho mfai mpto mday t co ((-4) : Int32) mtop mstr mgho mfai mpto from by (try rw [show ((-4) : Int32).toInt = (-4) from (show ((-4) : Int32).toInt = (-4) from rfl)]); (first | exact putM_bad (by omega) | exact putM_no (by assumption) (by omega) (by assumption) | (refine putM_ok (by assumption) (by omega) (by assumption) (by assumption) (by assumption) ?_; (subst_vars; refine ⟨rfl, rfl, ?_⟩; first | exact Or.inl ⟨by (first | assumption | exact Eq.symm (by assumption)), by omega, rfl, rfl⟩ | exact Or.inr ⟨Or.inl (by (first | assumption | exact Eq.symm (by assumption))), rfl, rfl⟩ | exact Or.inr ⟨Or.inr (by omega), rfl, rfl⟩)))), r_mgho, r_mfai, r_mtop, r_mstr⟩, by rw [ht]; exact hP, hD⟩, hS.F ht⟩) hS.2.2 dX10_put_28
    · refine lv_if_ne (tgt := 17) hx hb dX10_put_11 (by decide) (fun c9 => absurd (by decide) c9) (fun _ => ?_)
      refine lv_bipush (v := (-2)) hx hb dX10_put_14 (by decide) ?_
      exact W.iret (v := (-2)) hx hb hr (fun tq ht hW => ⟨⟨(-2), (uS [mgho, mfai, mtop, mstr, mpto] 0 (fun _ => 0)), rfl, ⟨(show spPutM mtop mstr mgho mfai mpto mday t co ((-2) : Int32) mtop mstr mgho mfai mpto from by (try rw [show ((-2) : Int32).toInt = (-2) from (show ((-2) : Int32).toInt = (-2) from rfl)]); (first | exact putM_bad (by omega) | exact putM_no (by assumption) (by omega) (by assumption) | (refine putM_ok (by assumption) (by omega) (by assumption) (by assumption) (by assumption) ?_; (subst_vars; refine ⟨rfl, rfl, ?_⟩; first | exact Or.inl ⟨by (first | assumption | exact Eq.symm (by assumption)), by omega, rfl, rfl⟩ | exact Or.inr ⟨Or.inl (by (first | assumption | exact Eq.symm (by assumption))), rfl, rfl⟩ | exact Or.inr ⟨Or.inr (by omega), rfl, rfl⟩)))), r_mgho, r_mfai, r_mtop, r_mstr⟩, by rw [ht]; exact hP, hD⟩, hS.F ht⟩) hS.2.2 dX10_put_16
  · refine lv_if_eq (tgt := 14) hx hb dX10_put_4 (by decide) (fun _ => ?_) (fun c9 => absurd (by decide) c9)
    refine lv_bipush (v := (-2)) hx hb dX10_put_14 (by decide) ?_
    exact W.iret (v := (-2)) hx hb hr (fun tq ht hW => ⟨⟨(-2), (uS [mgho, mfai, mtop, mstr, mpto] 0 (fun _ => 0)), rfl, ⟨(show spPutM mtop mstr mgho mfai mpto mday t co ((-2) : Int32) mtop mstr mgho mfai mpto from by (try rw [show ((-2) : Int32).toInt = (-2) from (show ((-2) : Int32).toInt = (-2) from rfl)]); (first | exact putM_bad (by omega) | exact putM_no (by assumption) (by omega) (by assumption) | (refine putM_ok (by assumption) (by omega) (by assumption) (by assumption) (by assumption) ?_; (subst_vars; refine ⟨rfl, rfl, ?_⟩; first | exact Or.inl ⟨by (first | assumption | exact Eq.symm (by assumption)), by omega, rfl, rfl⟩ | exact Or.inr ⟨Or.inl (by (first | assumption | exact Eq.symm (by assumption))), rfl, rfl⟩ | exact Or.inr ⟨Or.inr (by omega), rfl, rfl⟩)))), r_mgho, r_mfai, r_mtop, r_mstr⟩, by rw [ht]; exact hP, hD⟩, hS.F ht⟩) hS.2.2 dX10_put_16
set_option maxHeartbeats 4000000 in
set_option maxRecDepth 100000 in
theorem k_X10_clear3 (l : Launch) (dC : Nat → ClassId) (dI : Nat → Nat → Nat) (cI cZ cQ : ClassId) (b : Nat → Nat) (mday : Int32) (mdoo : Int32) (mdA : Nat → Int32) (mdB : Nat → Int32) (mfar : Nat → Int32) (mmar : Nat → Int32) (mtel : Int32) (mgai : Int32) (mfal : Nat → Int32) (mtop : Nat → Int32) (mstr : Nat → Int32) (mgho : Nat → Int32) (mfai : Nat → Int32) (mpto : Nat → Int32) (mwal : Nat → Int32) (mahd : Nat → Int32) (mahf : Nat → Int32) (mcho : Nat → Int32) (mbes : Nat → Int32) (mbyt : Int32) (mtxt : Nat → Int32) (mpos : Int32) (mtka : Int32) (mtok : Int64) (mdig : Int32) (mnum : Int32) (mfau : Int32) (mrdm : Int32) (mrea : Nat → Int32) (mlin : Int32) (mlne : Nat → Int32) (mthg : Nat → Int32) (mord : Nat → Int32) (mbor : Nat → Int32) (mbsm : Int32) (mans : Nat → Int32) (mand : Nat → Int32) (manr : Nat → Int32) (mali : Nat → Int32) (sz : Nat) (co : Int32) (r_mday : 0 ≤ mday.toInt ∧ mday.toInt ≤ 400) (r_mdoo : 0 ≤ mdoo.toInt ∧ mdoo.toInt ≤ 14) (r_mdA : rg 14 (0) (7) mdA) (r_mdB : rg 14 (0) (7) mdB) (r_mmar : rg 24 (0) (255) mmar) (r_mgai : 0 ≤ mgai.toInt ∧ mgai.toInt ≤ 100) (r_mfal : rg 11 (0) (30) mfal) (r_mtop : rg 48 (-1) (23) mtop) (r_mstr : rg 48 (0) (100) mstr) (r_mgho : rg 48 (-1) (23) mgho) (r_mfai : rg 48 (0) (100) mfai) (r_mahd : rg 240 (0) (100) mahd) (r_mahf : rg 240 (0) (100) mahf) (r_mcho : rg 5 (-1) (9) mcho) (r_mbyt : 0 ≤ mbyt.toInt ∧ mbyt.toInt ≤ 160) (r_mpos : 0 ≤ mpos.toInt ∧ mpos.toInt ≤ 160) (r_mrdm : 0 ≤ mrdm.toInt ∧ mrdm.toInt ≤ 10) (r_mlin : 0 ≤ mlin.toInt ∧ mlin.toInt ≤ 10) (r_mthg : rg 8 (0) (31) mthg) (r_mord : rg 8 (-1) (8) mord) (r_mans : rg 4 (0) (12) mans) : KW l yX10_clear wsX10_clear { frames := 2, cells := 0, slots := 0, locals := 42 } (dC, dI) (TY cI cZ cQ) (wMod cI cZ cQ b mday mdoo mdA mdB mfar mmar mtel mgai mfal mtop mstr mgho mfai mpto mwal mahd mahf mcho mbes mbyt mtxt mpos mtka mtok mdig mnum mfau mrdm mrea mlin mlne mthg mord mbor mbsm mans mand manr mali) [.ref (b 39), .int co] sz 0 0 (fun (r : Int32) (u : US) => (spClrM mtop mstr mgho mfai co r (u.1 2) (u.1 3) (u.1 0) (u.1 1)) ∧ (rg 48 (-1) (23) (u.1 0)) ∧ (rg 48 (0) (100) (u.1 1)) ∧ (rg 48 (-1) (23) (u.1 2)) ∧ (rg 48 (0) (100) (u.1 3))) (fun u : US => (wMod cI cZ cQ b mday mdoo mdA mdB mfar mmar mtel mgai mfal (u.1 2) (u.1 3) (u.1 0) (u.1 1) mpto mwal mahd mahf mcho mbes mbyt mtxt mpos mtka mtok mdig mnum mfau mrdm mrea mlin mlne mthg mord mbor mbsm mans mand manr mali)) := by
  refine Met.ofW (cc := cX10_clear) (maxL := 3) (ret := (some .int)) (by decide) rfl ?_
  intro p e s m args below meth c s₁ B hml hv
  obtain ⟨rfl, hsz, hP, hK, hD0, hN⟩ := hv
  have hx := B.exec
  have hb := B.bytes
  have hr := B.returns
  have hts := atoms_spec (ws := wsX10_clear) B.pre
  have hown : s.vm.findClass RX10 = some m.cls := findClass_of_methodNamed B.named
  have hlocks := B.notSynchronized
  have lf32 := hts (.fieldLink RX10 32 "PalaceOfRoomsModel" "top" "[I") (List.mem_cons_of_mem _ (List.mem_append_left _ (List.mem_of_getElem? (i := 0) rfl)))
  have inX10 : ∀ w ∈ wsX100, w ∈ wsX10_clear := fun w h => List.mem_cons_of_mem _ (List.mem_append_right _ h)
  have lf38 := hts (.fieldLink RX10 38 "PalaceOfRoomsModel" "ghost" "[I") (List.mem_cons_of_mem _ (List.mem_append_left _ (List.mem_of_getElem? (i := 1) rfl)))
  have lf35 := hts (.fieldLink RX10 35 "PalaceOfRoomsModel" "strength" "[I") (List.mem_cons_of_mem _ (List.mem_append_left _ (List.mem_of_getElem? (i := 2) rfl)))
  have lf41 := hts (.fieldLink RX10 41 "PalaceOfRoomsModel" "faint" "[I") (List.mem_cons_of_mem _ (List.mem_append_left _ (List.mem_of_getElem? (i := 3) rfl)))
  subst hsz
  have hD := hD0.self (sz := s.heap.size)
  generalize hAe : va_A (wMod cI cZ cQ b mday mdoo mdA mdB mfar mmar mtel mgai mfal mtop mstr mgho mfai mpto mwal mahd mahf mcho mbes mbyt mtxt mpos mtka mtok mdig mnum mfau mrdm mrea mlin mlne mthg mord mbor mbsm mans mand manr mali) s.heap.size = A at hD ⊢
  have hA : ∀ q : Nat, s.heap.size ≤ q → A q := fun q h => by rw [← hAe]; exact Or.inr h
  have hS : va_S A s.heap s.heap [] := va_S.rf
  have hl := lv_entry ([.ref (b 39), .int co]) (n := 3) (Nat.le_of_ble_eq_true rfl)
  rw [lg_entry_eq]
  generalize (lg_sl ([.ref (b 39), .int co]) ++ List.replicate (3 - (lg_sl ([.ref (b 39), .int co])).length) Slot.unset).toArray = ls at hl ⊢
  have hl : lv_has ls 3 [(0, .ref (b 39)), (1, .int co)] := hl
  refine lv_iload_n hx hb dX10_clear_0 rfl (lv_at hl 1 rfl) ?_
  refine rdS (As := [.int co]) (rest := []) ⟨hx, hb, hml, hown, hts⟩ (k_X10_isCorner l dC dI cI cZ cQ co) (va_cwS 1 hts gX10_clear_X10_isCorner rfl rfl rfl (by decide +kernel) ⟨Nat.le_of_ble_eq_true rfl, Nat.le_of_ble_eq_true rfl⟩) hP hK hN [] rfl rfl hl.1 rfl (Nat.le_of_ble_eq_true rfl) dX10_clear_1 ⟨Nat.le_of_ble_eq_true rfl, Nat.le_of_ble_eq_true rfl⟩ (fun r1 h2 => ?_)
  have h2 : ((((r1 = 1) ∧ (0 ≤ co.toInt) ∧ (co.toInt ≤ 47)) ∨ ((r1 = 0) ∧ (co.toInt < 0 ∨ 47 < co.toInt)))) := h2
  rcases h2 with (⟨rfl, h2_a0, h2_a1⟩ | ⟨rfl, h2_a0⟩)
  · refine lv_if_ne (tgt := 10) hx hb dX10_clear_4 (by decide) (fun _ => ?_) (fun c9 => absurd c9 (by decide))
    refine lv_aload_n hx hb dX10_clear_10 rfl (lv_at hl 0 rfl) ?_
    refine va_get (D := (dC, dI)) (ci := 10) (v := .ref (b 9)) (C := RX10) (T := TX10) (N := 39) hx hb hts inX10 hown hK hP 0 rfl rfl 9 (by decide) lf32 (fun _ h9 => h9) rfl dX10_clear_11 ?_
    refine lv_iload_n hx hb dX10_clear_14 rfl (lv_at hl 1 rfl) ?_
    have b3 : vp_in co 48 := inC rfl (by omega) (by omega)
    refine va_iald hx hb hK hP 6 0 rfl rfl b3 dX10_clear_15 ?_
    have g4 : -1 ≤ (mtop co.toNatClampNeg).toInt ∧ (mtop co.toNatClampNeg).toInt ≤ 23 := rg_at r_mtop b3
    refine lv_iconst (v := (-1)) hx hb dX10_clear_16 (by decide) ?_
    refine lv_icmp_ne (tgt := 23) hx hb dX10_clear_17 (by decide) (fun c5 => ?_) (fun c5 => ?_)
    · have dc5 : 0 ≤ (mtop co.toNatClampNeg).toInt := ka_lo (by omega) (neC rfl (show ((-1) : Int32).toInt = (-1) from rfl) c5)
      refine lv_aload_n hx hb dX10_clear_23 rfl (lv_at hl 0 rfl) ?_
      refine va_get (D := (dC, dI)) (ci := 10) (v := .ref (b 9)) (C := RX10) (T := TX10) (N := 39) hx hb hts inX10 hown hK hP 0 rfl rfl 9 (by decide) lf32 (fun _ h9 => h9) rfl dX10_clear_24 ?_
      refine lv_iload_n hx hb dX10_clear_27 rfl (lv_at hl 1 rfl) ?_
      have b6 : vp_in co 48 := inC rfl (by omega) (by omega)
      refine va_iald hx hb hK hP 6 0 rfl rfl b6 dX10_clear_28 ?_
      have g7 : -1 ≤ (mtop co.toNatClampNeg).toInt ∧ (mtop co.toNatClampNeg).toInt ≤ 23 := rg_at r_mtop b6
      refine lv_topi (fun x8 ex8 => ?_)
      have ix8 : x8.toInt = (mtop co.toNatClampNeg).toInt := by rw [ex8]
      refine lv_istore_n (lv' := [(2, .int x8), (0, .ref (b 39)), (1, .int co)]) hx hb dX10_clear_29 rfl hl (by decide) rfl (fun ls hl => ?_)
      refine lv_aload_n hx hb dX10_clear_30 rfl (lv_at hl 1 rfl) ?_
      refine va_get (D := (dC, dI)) (ci := 10) (v := .ref (b 9)) (C := RX10) (T := TX10) (N := 39) hx hb hts inX10 hown hK hP 0 rfl rfl 9 (by decide) lf32 (fun _ h9 => h9) rfl dX10_clear_31 ?_
      refine lv_iload_n hx hb dX10_clear_34 rfl (lv_at hl 2 rfl) ?_
      refine lv_iconst (v := (-1)) hx hb dX10_clear_35 (by decide) ?_
      have b9 : vp_in co 48 := inC rfl (by omega) (by omega)
      have g10 : rg 48 (-1) (23) (upd mtop co.toNatClampNeg (-1)) := rg_upd r_mtop (show ((-1) : Int32).toInt = (-1) from rfl) (by omega) (by omega)
      refine va_iast hx hb hK hP hD hS 6 0 rfl rfl b9 dX10_clear_36 (fun H locs hP hD hS => ?_)
      obtain ⟨mtop_u11, emtop_u11⟩ : ∃ f : Nat → Int32, f = upd mtop co.toNatClampNeg (-1) := ⟨_, rfl⟩
      have rmtop_u11 : rg 48 (-1) (23) mtop_u11 := by rw [emtop_u11]; exact g10
      have hP : va_P (dC, dI) vwCl (wMod cI cZ cQ b mday mdoo mdA mdB mfar mmar mtel mgai mfal mtop_u11 mstr mgho mfai mpto mwal mahd mahf mcho mbes mbyt mtxt mpos mtka mtok mdig mnum mfau mrdm mrea mlin mlne mthg mord mbor mbsm mans mand manr mali) H := by rw [emtop_u11]; exact hP
      have hD : va_D A (wMod cI cZ cQ b mday mdoo mdA mdB mfar mmar mtel mgai mfal mtop_u11 mstr mgho mfai mpto mwal mahd mahf mcho mbes mbyt mtxt mpos mtka mtok mdig mnum mfau mrdm mrea mlin mlne mthg mord mbor mbsm mans mand manr mali) := by rw [emtop_u11]; exact hD
      refine lv_aload_n hx hb dX10_clear_37 rfl (lv_at hl 1 rfl) ?_
      refine va_get (D := (dC, dI)) (ci := 10) (v := .ref (b 11)) (C := RX10) (T := TX10) (N := 39) hx hb hts inX10 hown hK hP 0 rfl rfl 11 (by decide) lf38 (fun _ h9 => h9) rfl dX10_clear_38 ?_
      refine lv_iload_n hx hb dX10_clear_41 rfl (lv_at hl 2 rfl) ?_
      refine lv_iconst (v := (-1)) hx hb dX10_clear_42 (by decide) ?_
      have b12 : vp_in co 48 := inC rfl (by omega) (by omega)
      have g13 : rg 48 (-1) (23) (upd mgho co.toNatClampNeg (-1)) := rg_upd r_mgho (show ((-1) : Int32).toInt = (-1) from rfl) (by omega) (by omega)
      refine va_iast hx hb hK hP hD hS 8 0 rfl rfl b12 dX10_clear_43 (fun H locs hP hD hS => ?_)
      obtain ⟨mgho_u14, emgho_u14⟩ : ∃ f : Nat → Int32, f = upd mgho co.toNatClampNeg (-1) := ⟨_, rfl⟩
      have rmgho_u14 : rg 48 (-1) (23) mgho_u14 := by rw [emgho_u14]; exact g13
      have hP : va_P (dC, dI) vwCl (wMod cI cZ cQ b mday mdoo mdA mdB mfar mmar mtel mgai mfal mtop_u11 mstr mgho_u14 mfai mpto mwal mahd mahf mcho mbes mbyt mtxt mpos mtka mtok mdig mnum mfau mrdm mrea mlin mlne mthg mord mbor mbsm mans mand manr mali) H := by rw [emgho_u14]; exact hP
      have hD : va_D A (wMod cI cZ cQ b mday mdoo mdA mdB mfar mmar mtel mgai mfal mtop_u11 mstr mgho_u14 mfai mpto mwal mahd mahf mcho mbes mbyt mtxt mpos mtka mtok mdig mnum mfau mrdm mrea mlin mlne mthg mord mbor mbsm mans mand manr mali) := by rw [emgho_u14]; exact hD
      refine lv_aload_n hx hb dX10_clear_44 rfl (lv_at hl 1 rfl) ?_
      refine va_get (D := (dC, dI)) (ci := 10) (v := .ref (b 10)) (C := RX10) (T := TX10) (N := 39) hx hb hts inX10 hown hK hP 0 rfl rfl 10 (by decide) lf35 (fun _ h9 => h9) rfl dX10_clear_45 ?_
      refine lv_iload_n hx hb dX10_clear_48 rfl (lv_at hl 2 rfl) ?_
      refine lv_iconst (v := 0) hx hb dX10_clear_49 (by decide) ?_
      have b15 : vp_in co 48 := inC rfl (by omega) (by omega)
      have g16 : rg 48 (0) (100) (upd mstr co.toNatClampNeg 0) := rg_upd r_mstr (show (0 : Int32).toInt = 0 from rfl) (by omega) (by omega)
      refine va_iast hx hb hK hP hD hS 7 0 rfl rfl b15 dX10_clear_50 (fun H locs hP hD hS => ?_)
      obtain ⟨mstr_u17, emstr_u17⟩ : ∃ f : Nat → Int32, f = upd mstr co.toNatClampNeg 0 := ⟨_, rfl⟩
      have rmstr_u17 : rg 48 (0) (100) mstr_u17 := by rw [emstr_u17]; exact g16
      have hP : va_P (dC, dI) vwCl (wMod cI cZ cQ b mday mdoo mdA mdB mfar mmar mtel mgai mfal mtop_u11 mstr_u17 mgho_u14 mfai mpto mwal mahd mahf mcho mbes mbyt mtxt mpos mtka mtok mdig mnum mfau mrdm mrea mlin mlne mthg mord mbor mbsm mans mand manr mali) H := by rw [emstr_u17]; exact hP
      have hD : va_D A (wMod cI cZ cQ b mday mdoo mdA mdB mfar mmar mtel mgai mfal mtop_u11 mstr_u17 mgho_u14 mfai mpto mwal mahd mahf mcho mbes mbyt mtxt mpos mtka mtok mdig mnum mfau mrdm mrea mlin mlne mthg mord mbor mbsm mans mand manr mali) := by rw [emstr_u17]; exact hD
      refine lv_aload_n hx hb dX10_clear_51 rfl (lv_at hl 1 rfl) ?_
      refine va_get (D := (dC, dI)) (ci := 10) (v := .ref (b 12)) (C := RX10) (T := TX10) (N := 39) hx hb hts inX10 hown hK hP 0 rfl rfl 12 (by decide) lf41 (fun _ h9 => h9) rfl dX10_clear_52 ?_
      refine lv_iload_n hx hb dX10_clear_55 rfl (lv_at hl 2 rfl) ?_
      refine lv_iconst (v := 0) hx hb dX10_clear_56 (by decide) ?_
      have b18 : vp_in co 48 := inC rfl (by omega) (by omega)
      have g19 : rg 48 (0) (100) (upd mfai co.toNatClampNeg 0) := rg_upd r_mfai (show (0 : Int32).toInt = 0 from rfl) (by omega) (by omega)
      refine va_iast hx hb hK hP hD hS 9 0 rfl rfl b18 dX10_clear_57 (fun H locs hP hD hS => ?_)
      obtain ⟨mfai_u20, emfai_u20⟩ : ∃ f : Nat → Int32, f = upd mfai co.toNatClampNeg 0 := ⟨_, rfl⟩
      have rmfai_u20 : rg 48 (0) (100) mfai_u20 := by rw [emfai_u20]; exact g19
      have hP : va_P (dC, dI) vwCl (wMod cI cZ cQ b mday mdoo mdA mdB mfar mmar mtel mgai mfal mtop_u11 mstr_u17 mgho_u14 mfai_u20 mpto mwal mahd mahf mcho mbes mbyt mtxt mpos mtka mtok mdig mnum mfau mrdm mrea mlin mlne mthg mord mbor mbsm mans mand manr mali) H := by rw [emfai_u20]; exact hP
      have hD : va_D A (wMod cI cZ cQ b mday mdoo mdA mdB mfar mmar mtel mgai mfal mtop_u11 mstr_u17 mgho_u14 mfai_u20 mpto mwal mahd mahf mcho mbes mbyt mtxt mpos mtka mtok mdig mnum mfau mrdm mrea mlin mlne mthg mord mbor mbsm mans mand manr mali) := by rw [emfai_u20]; exact hD
      refine lv_iload_n hx hb dX10_clear_58 rfl (lv_at hl 0 rfl) ?_
      exact W.iret (v := x8) hx hb hr (fun tq ht hW => ⟨⟨x8, (uS [mgho_u14, mfai_u20, mtop_u11, mstr_u17] 0 (fun _ => 0)), rfl, ⟨(show spClrM mtop mstr mgho mfai co x8 mtop_u11 mstr_u17 mgho_u14 mfai_u20 from by (first | exact Or.inl ⟨by omega, rfl, rfl, rfl, rfl, rfl⟩ | exact clrM_no (by omega) (by assumption) | exact clrM_ok (by omega) (by assumption) (by assumption) (by assumption) (by assumption) (by assumption) (by assumption))), rmgho_u14, rmfai_u20, rmtop_u11, rmstr_u17⟩, by rw [ht]; exact hP, hD⟩, hS.F ht⟩) hS.2.2 dX10_clear_59
    · have dc5 : (mtop co.toNatClampNeg).toInt = (-1) := eqC rfl (show ((-1) : Int32).toInt = (-1) from rfl) c5
      refine lv_bipush (v := (-4)) hx hb dX10_clear_20 (by decide) ?_
      exact W.iret (v := (-4)) hx hb hr (fun tq ht hW => ⟨⟨(-4), (uS [mgho, mfai, mtop, mstr] 0 (fun _ => 0)), rfl, ⟨(show spClrM mtop mstr mgho mfai co ((-4) : Int32) mtop mstr mgho mfai from by (try rw [show ((-4) : Int32).toInt = (-4) from (show ((-4) : Int32).toInt = (-4) from rfl)]); (first | exact Or.inl ⟨by omega, rfl, rfl, rfl, rfl, rfl⟩ | exact clrM_no (by omega) (by assumption) | exact clrM_ok (by omega) (by assumption) (by assumption) (by assumption) (by assumption) (by assumption) (by assumption))), r_mgho, r_mfai, r_mtop, r_mstr⟩, by rw [ht]; exact hP, hD⟩, hS.F ht⟩) hS.2.2 dX10_clear_22
  · refine lv_if_ne (tgt := 10) hx hb dX10_clear_4 (by decide) (fun c9 => absurd (by decide) c9) (fun _ => ?_)
    refine lv_bipush (v := (-2)) hx hb dX10_clear_7 (by decide) ?_
    exact W.iret (v := (-2)) hx hb hr (fun tq ht hW => ⟨⟨(-2), (uS [mgho, mfai, mtop, mstr] 0 (fun _ => 0)), rfl, ⟨(show spClrM mtop mstr mgho mfai co ((-2) : Int32) mtop mstr mgho mfai from by (try rw [show ((-2) : Int32).toInt = (-2) from (show ((-2) : Int32).toInt = (-2) from rfl)]); (first | exact Or.inl ⟨by omega, rfl, rfl, rfl, rfl, rfl⟩ | exact clrM_no (by omega) (by assumption) | exact clrM_ok (by omega) (by assumption) (by assumption) (by assumption) (by assumption) (by assumption) (by assumption))), r_mgho, r_mfai, r_mtop, r_mstr⟩, by rw [ht]; exact hP, hD⟩, hS.F ht⟩) hS.2.2 dX10_clear_9
set_option maxHeartbeats 4000000 in
set_option maxRecDepth 100000 in
theorem k_X10_corner2 (l : Launch) (dC : Nat → ClassId) (dI : Nat → Nat → Nat) (cI cZ cQ : ClassId) (b : Nat → Nat) (mday : Int32) (mdoo : Int32) (mdA : Nat → Int32) (mdB : Nat → Int32) (mfar : Nat → Int32) (mmar : Nat → Int32) (mtel : Int32) (mgai : Int32) (mfal : Nat → Int32) (mtop : Nat → Int32) (mstr : Nat → Int32) (mgho : Nat → Int32) (mfai : Nat → Int32) (mpto : Nat → Int32) (mwal : Nat → Int32) (mahd : Nat → Int32) (mahf : Nat → Int32) (mcho : Nat → Int32) (mbes : Nat → Int32) (mbyt : Int32) (mtxt : Nat → Int32) (mpos : Int32) (mtka : Int32) (mtok : Int64) (mdig : Int32) (mnum : Int32) (mfau : Int32) (mrdm : Int32) (mrea : Nat → Int32) (mlin : Int32) (mlne : Nat → Int32) (mthg : Nat → Int32) (mord : Nat → Int32) (mbor : Nat → Int32) (mbsm : Int32) (mans : Nat → Int32) (mand : Nat → Int32) (manr : Nat → Int32) (mali : Nat → Int32) (co : Int32) (wh : Int32) (r_mday : 0 ≤ mday.toInt ∧ mday.toInt ≤ 400) (r_mdoo : 0 ≤ mdoo.toInt ∧ mdoo.toInt ≤ 14) (r_mdA : rg 14 (0) (7) mdA) (r_mdB : rg 14 (0) (7) mdB) (r_mmar : rg 24 (0) (255) mmar) (r_mgai : 0 ≤ mgai.toInt ∧ mgai.toInt ≤ 100) (r_mfal : rg 11 (0) (30) mfal) (r_mtop : rg 48 (-1) (23) mtop) (r_mstr : rg 48 (0) (100) mstr) (r_mgho : rg 48 (-1) (23) mgho) (r_mfai : rg 48 (0) (100) mfai) (r_mahd : rg 240 (0) (100) mahd) (r_mahf : rg 240 (0) (100) mahf) (r_mcho : rg 5 (-1) (9) mcho) (r_mbyt : 0 ≤ mbyt.toInt ∧ mbyt.toInt ≤ 160) (r_mpos : 0 ≤ mpos.toInt ∧ mpos.toInt ≤ 160) (r_mrdm : 0 ≤ mrdm.toInt ∧ mrdm.toInt ≤ 10) (r_mlin : 0 ≤ mlin.toInt ∧ mlin.toInt ≤ 10) (r_mthg : rg 8 (0) (31) mthg) (r_mord : rg 8 (-1) (8) mord) (r_mans : rg 4 (0) (12) mans) : KR l yX10_corner wsX10_corner { frames := 2, cells := 0, slots := 0, locals := 42 } (dC, dI) (TY cI cZ cQ) (wMod cI cZ cQ b mday mdoo mdA mdB mfar mmar mtel mgai mfal mtop mstr mgho mfai mpto mwal mahd mahf mcho mbes mbyt mtxt mpos mtka mtok mdig mnum mfau mrdm mrea mlin mlne mthg mord mbor mbsm mans mand manr mali) [.ref (b 39), .int co, .int wh] (fun r : Int32 => (spCor mtop mstr mgho mfai mpto co wh r)) := by
  refine Met.ofW (cc := cX10_corner) (maxL := 3) (ret := (some .int)) (by decide) rfl ?_
  intro p e s m args below meth c s₁ B hml hv
  obtain ⟨rfl, hP, hK, hN⟩ := hv
  have hx := B.exec
  have hb := B.bytes
  have hr := B.returns
  have hts := atoms_spec (ws := wsX10_corner) B.pre
  have hown : s.vm.findClass RX10 = some m.cls := findClass_of_methodNamed B.named
  have hlocks := B.notSynchronized
  have lf32 := hts (.fieldLink RX10 32 "PalaceOfRoomsModel" "top" "[I") (List.mem_cons_of_mem _ (List.mem_append_left _ (List.mem_of_getElem? (i := 0) rfl)))
  have inX10 : ∀ w ∈ wsX100, w ∈ wsX10_corner := fun w h => List.mem_cons_of_mem _ (List.mem_append_right _ h)
  have lf35 := hts (.fieldLink RX10 35 "PalaceOfRoomsModel" "strength" "[I") (List.mem_cons_of_mem _ (List.mem_append_left _ (List.mem_of_getElem? (i := 1) rfl)))
  have lf38 := hts (.fieldLink RX10 38 "PalaceOfRoomsModel" "ghost" "[I") (List.mem_cons_of_mem _ (List.mem_append_left _ (List.mem_of_getElem? (i := 2) rfl)))
  have lf41 := hts (.fieldLink RX10 41 "PalaceOfRoomsModel" "faint" "[I") (List.mem_cons_of_mem _ (List.mem_append_left _ (List.mem_of_getElem? (i := 3) rfl)))
  have lf44 := hts (.fieldLink RX10 44 "PalaceOfRoomsModel" "putOn" "[I") (List.mem_cons_of_mem _ (List.mem_append_left _ (List.mem_of_getElem? (i := 4) rfl)))
  have hl := lv_entry ([.ref (b 39), .int co, .int wh]) (n := 3) (Nat.le_of_ble_eq_true rfl)
  rw [lg_entry_eq]
  generalize (lg_sl ([.ref (b 39), .int co, .int wh]) ++ List.replicate (3 - (lg_sl ([.ref (b 39), .int co, .int wh])).length) Slot.unset).toArray = ls at hl ⊢
  have hl : lv_has ls 3 [(0, .ref (b 39)), (1, .int co), (2, .int wh)] := hl
  refine lv_iload_n hx hb dX10_corner_0 rfl (lv_at hl 1 rfl) ?_
  refine rdS (As := [.int co]) (rest := []) ⟨hx, hb, hml, hown, hts⟩ (k_X10_isCorner l dC dI cI cZ cQ co) (va_cwS 1 hts gX10_corner_X10_isCorner rfl rfl rfl (by decide +kernel) ⟨Nat.le_of_ble_eq_true rfl, Nat.le_of_ble_eq_true rfl⟩) hP hK hN [] rfl rfl hl.1 rfl (Nat.le_of_ble_eq_true rfl) dX10_corner_1 ⟨Nat.le_of_ble_eq_true rfl, Nat.le_of_ble_eq_true rfl⟩ (fun r1 h2 => ?_)
  have h2 : ((((r1 = 1) ∧ (0 ≤ co.toInt) ∧ (co.toInt ≤ 47)) ∨ ((r1 = 0) ∧ (co.toInt < 0 ∨ 47 < co.toInt)))) := h2
  rcases h2 with (⟨rfl, h2_a0, h2_a1⟩ | ⟨rfl, h2_a0⟩)
  · refine lv_if_ne (tgt := 10) hx hb dX10_corner_4 (by decide) (fun _ => ?_) (fun c9 => absurd c9 (by decide))
    refine lv_iload_n hx hb dX10_corner_10 rfl (lv_at hl 2 rfl) ?_
    by_cases w3 : wh = 0
    · have dw3 : wh.toInt = 0 := eqC rfl rfl w3
      refine lv_tableIn (off := 33) (tgt := 44) hx hb dX10_corner_11 (by rw [w3]; decide) (by rw [w3]; decide) (by rw [w3]; decide) (by decide) ?_
      refine lv_aload_n hx hb dX10_corner_44 rfl (lv_at hl 0 rfl) ?_
      refine va_get (D := (dC, dI)) (ci := 10) (v := .ref (b 9)) (C := RX10) (T := TX10) (N := 39) hx hb hts inX10 hown hK hP 0 rfl rfl 9 (by decide) lf32 (fun _ h9 => h9) rfl dX10_corner_45 ?_
      refine lv_iload_n hx hb dX10_corner_48 rfl (lv_at hl 1 rfl) ?_
      have b4 : vp_in co 48 := inC rfl (by omega) (by omega)
      refine va_iald hx hb hK hP 6 0 rfl rfl b4 dX10_corner_49 ?_
      have g5 : -1 ≤ (mtop co.toNatClampNeg).toInt ∧ (mtop co.toNatClampNeg).toInt ≤ 23 := rg_at r_mtop b4
      exact W.iret (v := mtop co.toNatClampNeg) hx hb hr (fun tq ht hW => ⟨mtop co.toNatClampNeg, rfl, (show spCor mtop mstr mgho mfai mpto co wh (mtop co.toNatClampNeg) from by (first | exact Or.inl ⟨by omega, rfl⟩ | (refine Or.inr ⟨by omega, ?_⟩; first | exact Or.inl ⟨by omega, by first | rfl | assumption⟩ | exact Or.inr (Or.inl ⟨by omega, by first | exact Or.inl ⟨by assumption, rfl⟩ | exact Or.inr ⟨by assumption, by first | rfl | assumption⟩⟩) | exact Or.inr (Or.inr (Or.inl ⟨by omega, by first | rfl | assumption⟩)) | exact Or.inr (Or.inr (Or.inr (Or.inl ⟨by omega, by first | exact Or.inl ⟨by assumption, rfl⟩ | exact Or.inr ⟨by assumption, by first | rfl | assumption⟩⟩))) | exact Or.inr (Or.inr (Or.inr (Or.inr (Or.inl ⟨by omega, by first | rfl | assumption⟩)))) | exact Or.inr (Or.inr (Or.inr (Or.inr (Or.inr ⟨by omega, rfl⟩))))))), ht⟩) (fun q h => by cases h) dX10_corner_50
    by_cases w6 : wh = 1
    · have dw6 : wh.toInt = 1 := eqC rfl rfl w6
      refine lv_tableIn (off := 40) (tgt := 51) hx hb dX10_corner_11 (by rw [w6]; decide) (by rw [w6]; decide) (by rw [w6]; decide) (by decide) ?_
      refine lv_aload_n hx hb dX10_corner_51 rfl (lv_at hl 0 rfl) ?_
      refine va_get (D := (dC, dI)) (ci := 10) (v := .ref (b 9)) (C := RX10) (T := TX10) (N := 39) hx hb hts inX10 hown hK hP 0 rfl rfl 9 (by decide) lf32 (fun _ h9 => h9) rfl dX10_corner_52 ?_
      refine lv_iload_n hx hb dX10_corner_55 rfl (lv_at hl 1 rfl) ?_
      have b7 : vp_in co 48 := inC rfl (by omega) (by omega)
      refine va_iald hx hb hK hP 6 0 rfl rfl b7 dX10_corner_56 ?_
      have g8 : -1 ≤ (mtop co.toNatClampNeg).toInt ∧ (mtop co.toNatClampNeg).toInt ≤ 23 := rg_at r_mtop b7
      refine lv_iconst (v := (-1)) hx hb dX10_corner_57 (by decide) ?_
      refine lv_icmp_ne (tgt := 65) hx hb dX10_corner_58 (by decide) (fun c9 => ?_) (fun c9 => ?_)
      · have dc9 : 0 ≤ (mtop co.toNatClampNeg).toInt := ka_lo (by omega) (neC rfl (show ((-1) : Int32).toInt = (-1) from rfl) c9)
        refine lv_aload_n hx hb dX10_corner_65 rfl (lv_at hl 0 rfl) ?_
        refine va_get (D := (dC, dI)) (ci := 10) (v := .ref (b 10)) (C := RX10) (T := TX10) (N := 39) hx hb hts inX10 hown hK hP 0 rfl rfl 10 (by decide) lf35 (fun _ h9 => h9) rfl dX10_corner_66 ?_
        refine lv_iload_n hx hb dX10_corner_69 rfl (lv_at hl 1 rfl) ?_
        have b10 : vp_in co 48 := inC rfl (by omega) (by omega)
        refine va_iald hx hb hK hP 7 0 rfl rfl b10 dX10_corner_70 ?_
        have g11 : 0 ≤ (mstr co.toNatClampNeg).toInt ∧ (mstr co.toNatClampNeg).toInt ≤ 100 := rg_at r_mstr b10
        exact W.iret (v := mstr co.toNatClampNeg) hx hb hr (fun tq ht hW => ⟨mstr co.toNatClampNeg, rfl, (show spCor mtop mstr mgho mfai mpto co wh (mstr co.toNatClampNeg) from by (first | exact Or.inl ⟨by omega, rfl⟩ | (refine Or.inr ⟨by omega, ?_⟩; first | exact Or.inl ⟨by omega, by first | rfl | assumption⟩ | exact Or.inr (Or.inl ⟨by omega, by first | exact Or.inl ⟨by assumption, rfl⟩ | exact Or.inr ⟨by assumption, by first | rfl | assumption⟩⟩) | exact Or.inr (Or.inr (Or.inl ⟨by omega, by first | rfl | assumption⟩)) | exact Or.inr (Or.inr (Or.inr (Or.inl ⟨by omega, by first | exact Or.inl ⟨by assumption, rfl⟩ | exact Or.inr ⟨by assumption, by first | rfl | assumption⟩⟩))) | exact Or.inr (Or.inr (Or.inr (Or.inr (Or.inl ⟨by omega, by first | rfl | assumption⟩)))) | exact Or.inr (Or.inr (Or.inr (Or.inr (Or.inr ⟨by omega, rfl⟩))))))), ht⟩) (fun q h => by cases h) dX10_corner_71
      · have dc9 : (mtop co.toNatClampNeg).toInt = (-1) := eqC rfl (show ((-1) : Int32).toInt = (-1) from rfl) c9
        refine lv_iconst (v := (-1)) hx hb dX10_corner_61 (by decide) ?_
        refine lv_goto (tgt := 71) hx hb dX10_corner_62 (by decide) ?_
        exact W.iret (v := (-1)) hx hb hr (fun tq ht hW => ⟨(-1), rfl, (show spCor mtop mstr mgho mfai mpto co wh ((-1) : Int32) from by (try rw [show ((-1) : Int32).toInt = (-1) from (show ((-1) : Int32).toInt = (-1) from rfl)]); (first | exact Or.inl ⟨by omega, rfl⟩ | (refine Or.inr ⟨by omega, ?_⟩; first | exact Or.inl ⟨by omega, by first | rfl | assumption⟩ | exact Or.inr (Or.inl ⟨by omega, by first | exact Or.inl ⟨by assumption, rfl⟩ | exact Or.inr ⟨by assumption, by first | rfl | assumption⟩⟩) | exact Or.inr (Or.inr (Or.inl ⟨by omega, by first | rfl | assumption⟩)) | exact Or.inr (Or.inr (Or.inr (Or.inl ⟨by omega, by first | exact Or.inl ⟨by assumption, rfl⟩ | exact Or.inr ⟨by assumption, by first | rfl | assumption⟩⟩))) | exact Or.inr (Or.inr (Or.inr (Or.inr (Or.inl ⟨by omega, by first | rfl | assumption⟩)))) | exact Or.inr (Or.inr (Or.inr (Or.inr (Or.inr ⟨by omega, rfl⟩))))))), ht⟩) (fun q h => by cases h) dX10_corner_71
    by_cases w12 : wh = 2
    · have dw12 : wh.toInt = 2 := eqC rfl rfl w12
      refine lv_tableIn (off := 61) (tgt := 72) hx hb dX10_corner_11 (by rw [w12]; decide) (by rw [w12]; decide) (by rw [w12]; decide) (by decide) ?_
      refine lv_aload_n hx hb dX10_corner_72 rfl (lv_at hl 0 rfl) ?_
      refine va_get (D := (dC, dI)) (ci := 10) (v := .ref (b 11)) (C := RX10) (T := TX10) (N := 39) hx hb hts inX10 hown hK hP 0 rfl rfl 11 (by decide) lf38 (fun _ h9 => h9) rfl dX10_corner_73 ?_
      refine lv_iload_n hx hb dX10_corner_76 rfl (lv_at hl 1 rfl) ?_
      have b13 : vp_in co 48 := inC rfl (by omega) (by omega)
      refine va_iald hx hb hK hP 8 0 rfl rfl b13 dX10_corner_77 ?_
      have g14 : -1 ≤ (mgho co.toNatClampNeg).toInt ∧ (mgho co.toNatClampNeg).toInt ≤ 23 := rg_at r_mgho b13
      exact W.iret (v := mgho co.toNatClampNeg) hx hb hr (fun tq ht hW => ⟨mgho co.toNatClampNeg, rfl, (show spCor mtop mstr mgho mfai mpto co wh (mgho co.toNatClampNeg) from by (first | exact Or.inl ⟨by omega, rfl⟩ | (refine Or.inr ⟨by omega, ?_⟩; first | exact Or.inl ⟨by omega, by first | rfl | assumption⟩ | exact Or.inr (Or.inl ⟨by omega, by first | exact Or.inl ⟨by assumption, rfl⟩ | exact Or.inr ⟨by assumption, by first | rfl | assumption⟩⟩) | exact Or.inr (Or.inr (Or.inl ⟨by omega, by first | rfl | assumption⟩)) | exact Or.inr (Or.inr (Or.inr (Or.inl ⟨by omega, by first | exact Or.inl ⟨by assumption, rfl⟩ | exact Or.inr ⟨by assumption, by first | rfl | assumption⟩⟩))) | exact Or.inr (Or.inr (Or.inr (Or.inr (Or.inl ⟨by omega, by first | rfl | assumption⟩)))) | exact Or.inr (Or.inr (Or.inr (Or.inr (Or.inr ⟨by omega, rfl⟩))))))), ht⟩) (fun q h => by cases h) dX10_corner_78
    by_cases w15 : wh = 3
    · have dw15 : wh.toInt = 3 := eqC rfl rfl w15
      refine lv_tableIn (off := 68) (tgt := 79) hx hb dX10_corner_11 (by rw [w15]; decide) (by rw [w15]; decide) (by rw [w15]; decide) (by decide) ?_
      refine lv_aload_n hx hb dX10_corner_79 rfl (lv_at hl 0 rfl) ?_
      refine va_get (D := (dC, dI)) (ci := 10) (v := .ref (b 11)) (C := RX10) (T := TX10) (N := 39) hx hb hts inX10 hown hK hP 0 rfl rfl 11 (by decide) lf38 (fun _ h9 => h9) rfl dX10_corner_80 ?_
      refine lv_iload_n hx hb dX10_corner_83 rfl (lv_at hl 1 rfl) ?_
      have b16 : vp_in co 48 := inC rfl (by omega) (by omega)
      refine va_iald hx hb hK hP 8 0 rfl rfl b16 dX10_corner_84 ?_
      have g17 : -1 ≤ (mgho co.toNatClampNeg).toInt ∧ (mgho co.toNatClampNeg).toInt ≤ 23 := rg_at r_mgho b16
      refine lv_iconst (v := (-1)) hx hb dX10_corner_85 (by decide) ?_
      refine lv_icmp_ne (tgt := 93) hx hb dX10_corner_86 (by decide) (fun c18 => ?_) (fun c18 => ?_)
      · have dc18 : 0 ≤ (mgho co.toNatClampNeg).toInt := ka_lo (by omega) (neC rfl (show ((-1) : Int32).toInt = (-1) from rfl) c18)
        refine lv_aload_n hx hb dX10_corner_93 rfl (lv_at hl 0 rfl) ?_
        refine va_get (D := (dC, dI)) (ci := 10) (v := .ref (b 12)) (C := RX10) (T := TX10) (N := 39) hx hb hts inX10 hown hK hP 0 rfl rfl 12 (by decide) lf41 (fun _ h9 => h9) rfl dX10_corner_94 ?_
        refine lv_iload_n hx hb dX10_corner_97 rfl (lv_at hl 1 rfl) ?_
        have b19 : vp_in co 48 := inC rfl (by omega) (by omega)
        refine va_iald hx hb hK hP 9 0 rfl rfl b19 dX10_corner_98 ?_
        have g20 : 0 ≤ (mfai co.toNatClampNeg).toInt ∧ (mfai co.toNatClampNeg).toInt ≤ 100 := rg_at r_mfai b19
        exact W.iret (v := mfai co.toNatClampNeg) hx hb hr (fun tq ht hW => ⟨mfai co.toNatClampNeg, rfl, (show spCor mtop mstr mgho mfai mpto co wh (mfai co.toNatClampNeg) from by (first | exact Or.inl ⟨by omega, rfl⟩ | (refine Or.inr ⟨by omega, ?_⟩; first | exact Or.inl ⟨by omega, by first | rfl | assumption⟩ | exact Or.inr (Or.inl ⟨by omega, by first | exact Or.inl ⟨by assumption, rfl⟩ | exact Or.inr ⟨by assumption, by first | rfl | assumption⟩⟩) | exact Or.inr (Or.inr (Or.inl ⟨by omega, by first | rfl | assumption⟩)) | exact Or.inr (Or.inr (Or.inr (Or.inl ⟨by omega, by first | exact Or.inl ⟨by assumption, rfl⟩ | exact Or.inr ⟨by assumption, by first | rfl | assumption⟩⟩))) | exact Or.inr (Or.inr (Or.inr (Or.inr (Or.inl ⟨by omega, by first | rfl | assumption⟩)))) | exact Or.inr (Or.inr (Or.inr (Or.inr (Or.inr ⟨by omega, rfl⟩))))))), ht⟩) (fun q h => by cases h) dX10_corner_99
      · have dc18 : (mgho co.toNatClampNeg).toInt = (-1) := eqC rfl (show ((-1) : Int32).toInt = (-1) from rfl) c18
        refine lv_iconst (v := (-1)) hx hb dX10_corner_89 (by decide) ?_
        refine lv_goto (tgt := 99) hx hb dX10_corner_90 (by decide) ?_
        exact W.iret (v := (-1)) hx hb hr (fun tq ht hW => ⟨(-1), rfl, (show spCor mtop mstr mgho mfai mpto co wh ((-1) : Int32) from by (try rw [show ((-1) : Int32).toInt = (-1) from (show ((-1) : Int32).toInt = (-1) from rfl)]); (first | exact Or.inl ⟨by omega, rfl⟩ | (refine Or.inr ⟨by omega, ?_⟩; first | exact Or.inl ⟨by omega, by first | rfl | assumption⟩ | exact Or.inr (Or.inl ⟨by omega, by first | exact Or.inl ⟨by assumption, rfl⟩ | exact Or.inr ⟨by assumption, by first | rfl | assumption⟩⟩) | exact Or.inr (Or.inr (Or.inl ⟨by omega, by first | rfl | assumption⟩)) | exact Or.inr (Or.inr (Or.inr (Or.inl ⟨by omega, by first | exact Or.inl ⟨by assumption, rfl⟩ | exact Or.inr ⟨by assumption, by first | rfl | assumption⟩⟩))) | exact Or.inr (Or.inr (Or.inr (Or.inr (Or.inl ⟨by omega, by first | rfl | assumption⟩)))) | exact Or.inr (Or.inr (Or.inr (Or.inr (Or.inr ⟨by omega, rfl⟩))))))), ht⟩) (fun q h => by cases h) dX10_corner_99
    by_cases w21 : wh = 4
    · have dw21 : wh.toInt = 4 := eqC rfl rfl w21
      refine lv_tableIn (off := 89) (tgt := 100) hx hb dX10_corner_11 (by rw [w21]; decide) (by rw [w21]; decide) (by rw [w21]; decide) (by decide) ?_
      refine lv_aload_n hx hb dX10_corner_100 rfl (lv_at hl 0 rfl) ?_
      refine va_get (D := (dC, dI)) (ci := 10) (v := .ref (b 13)) (C := RX10) (T := TX10) (N := 39) hx hb hts inX10 hown hK hP 0 rfl rfl 13 (by decide) lf44 (fun _ h9 => h9) rfl dX10_corner_101 ?_
      refine lv_iload_n hx hb dX10_corner_104 rfl (lv_at hl 1 rfl) ?_
      have b22 : vp_in co 48 := inC rfl (by omega) (by omega)
      refine va_iald hx hb hK hP 10 0 rfl rfl b22 dX10_corner_105 ?_
      exact W.iret (v := mpto co.toNatClampNeg) hx hb hr (fun tq ht hW => ⟨mpto co.toNatClampNeg, rfl, (show spCor mtop mstr mgho mfai mpto co wh (mpto co.toNatClampNeg) from by (first | exact Or.inl ⟨by omega, rfl⟩ | (refine Or.inr ⟨by omega, ?_⟩; first | exact Or.inl ⟨by omega, by first | rfl | assumption⟩ | exact Or.inr (Or.inl ⟨by omega, by first | exact Or.inl ⟨by assumption, rfl⟩ | exact Or.inr ⟨by assumption, by first | rfl | assumption⟩⟩) | exact Or.inr (Or.inr (Or.inl ⟨by omega, by first | rfl | assumption⟩)) | exact Or.inr (Or.inr (Or.inr (Or.inl ⟨by omega, by first | exact Or.inl ⟨by assumption, rfl⟩ | exact Or.inr ⟨by assumption, by first | rfl | assumption⟩⟩))) | exact Or.inr (Or.inr (Or.inr (Or.inr (Or.inl ⟨by omega, by first | rfl | assumption⟩)))) | exact Or.inr (Or.inr (Or.inr (Or.inr (Or.inr ⟨by omega, rfl⟩))))))), ht⟩) (fun q h => by cases h) dX10_corner_106
    have nw3 : wh.toInt ≠ 0 := neC rfl rfl w3
    have nw6 : wh.toInt ≠ 1 := neC rfl rfl w6
    have nw12 : wh.toInt ≠ 2 := neC rfl rfl w12
    have nw15 : wh.toInt ≠ 3 := neC rfl rfl w15
    have nw21 : wh.toInt ≠ 4 := neC rfl rfl w21
    have o11 : wh.toInt < 0 ∨ 4 < wh.toInt := by rw [show wh.toInt = wh.toInt from rfl]; omega
    refine lv_tableOut (tgt := 107) hx hb dX10_corner_11 o11 (by decide) ?_
    refine lv_bipush (v := (-3)) hx hb dX10_corner_107 (by decide) ?_
    exact W.iret (v := (-3)) hx hb hr (fun tq ht hW => ⟨(-3), rfl, (show spCor mtop mstr mgho mfai mpto co wh ((-3) : Int32) from by (try rw [show ((-3) : Int32).toInt = (-3) from (show ((-3) : Int32).toInt = (-3) from rfl)]); (first | exact Or.inl ⟨by omega, rfl⟩ | (refine Or.inr ⟨by omega, ?_⟩; first | exact Or.inl ⟨by omega, by first | rfl | assumption⟩ | exact Or.inr (Or.inl ⟨by omega, by first | exact Or.inl ⟨by assumption, rfl⟩ | exact Or.inr ⟨by assumption, by first | rfl | assumption⟩⟩) | exact Or.inr (Or.inr (Or.inl ⟨by omega, by first | rfl | assumption⟩)) | exact Or.inr (Or.inr (Or.inr (Or.inl ⟨by omega, by first | exact Or.inl ⟨by assumption, rfl⟩ | exact Or.inr ⟨by assumption, by first | rfl | assumption⟩⟩))) | exact Or.inr (Or.inr (Or.inr (Or.inr (Or.inl ⟨by omega, by first | rfl | assumption⟩)))) | exact Or.inr (Or.inr (Or.inr (Or.inr (Or.inr ⟨by omega, rfl⟩))))))), ht⟩) (fun q h => by cases h) dX10_corner_109
  · refine lv_if_ne (tgt := 10) hx hb dX10_corner_4 (by decide) (fun c9 => absurd (by decide) c9) (fun _ => ?_)
    refine lv_bipush (v := (-2)) hx hb dX10_corner_7 (by decide) ?_
    exact W.iret (v := (-2)) hx hb hr (fun tq ht hW => ⟨(-2), rfl, (show spCor mtop mstr mgho mfai mpto co wh ((-2) : Int32) from by (try rw [show ((-2) : Int32).toInt = (-2) from (show ((-2) : Int32).toInt = (-2) from rfl)]); (first | exact Or.inl ⟨by omega, rfl⟩ | (refine Or.inr ⟨by omega, ?_⟩; first | exact Or.inl ⟨by omega, by first | rfl | assumption⟩ | exact Or.inr (Or.inl ⟨by omega, by first | exact Or.inl ⟨by assumption, rfl⟩ | exact Or.inr ⟨by assumption, by first | rfl | assumption⟩⟩) | exact Or.inr (Or.inr (Or.inl ⟨by omega, by first | rfl | assumption⟩)) | exact Or.inr (Or.inr (Or.inr (Or.inl ⟨by omega, by first | exact Or.inl ⟨by assumption, rfl⟩ | exact Or.inr ⟨by assumption, by first | rfl | assumption⟩⟩))) | exact Or.inr (Or.inr (Or.inr (Or.inr (Or.inl ⟨by omega, by first | rfl | assumption⟩)))) | exact Or.inr (Or.inr (Or.inr (Or.inr (Or.inr ⟨by omega, rfl⟩))))))), ht⟩) (fun q h => by cases h) dX10_corner_9
