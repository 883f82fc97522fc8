set_option maxHeartbeats 4000000 in
set_option maxRecDepth 100000 in
theorem k_X3_prepare2 (l : Launch) (dC : Nat → ClassId) (dI : Nat → Nat → Nat) (cI cZ cQ : ClassId) (a : Nat → Nat) (min : Nat → Int32) (tri : Nat → Int32) (bes : Nat → Int32) (wkd : Nat → Int32) (cos : Nat → Int32) (rst : Nat → Int32) (bst : Int32) (top : Nat → Int32) (str : Nat → Int32) (gho : Nat → Int32) (ghs : Nat → Int32) (pto : Nat → Int32) (cro : Nat → Int32) (pla : Nat → Int32) (wal : Nat → Int32) (fal : Nat → Int32) (tel : Int32) (gai : Int32) (day : Int32) (mar : Nat → Int32) (few : Nat → Int32) (doo : Int32) (sz : Nat) (r_wkd : rg 8 (0) (15) wkd) (r_top : rg 48 (-1) (23) top) (r_str : rg 48 (0) (100) str) (r_gho : rg 48 (-1) (23) gho) (r_ghs : rg 48 (0) (100) ghs) (r_cro : rg 48 (0) (6) cro) (r_pla : rg 24 (-1) (47) pla) (r_fal : rg 11 (0) (30) fal) (r_gai : 0 ≤ gai.toInt ∧ gai.toInt ≤ 100) (r_day : 0 ≤ day.toInt ∧ day.toInt ≤ 400) (r_mar : rg 24 (0) (255) mar) (q0 : mtOK few) : KV l yX3_prepare wsX3_prepare { frames := 5, cells := 0, slots := 0, locals := 109 } (dC, dI) (TY cI cZ cQ) (wPln cI cZ cQ a min tri bes wkd cos rst bst top str gho ghs pto cro pla wal fal tel gai day mar few doo) [.ref (a 16)] sz 0 0 (fun (u : US) => (∀ j : Nat, j < 48 → ((u.1 0) j).toInt = cwF mar top tel j (j - j % 6) 6) ∧ (prI few top 8 (u.1 1) (u.1 2)) ∧ (rg 48 (0) (6) (u.1 0)) ∧ (rg 8 (0) (15) (u.1 2))) (fun u : US => (wPln cI cZ cQ a min tri bes (u.1 2) (u.1 1) rst bst top str gho ghs pto (u.1 0) pla wal fal tel gai day mar few doo)) := by
  refine Met.ofW (cc := cX3_prepare) (maxL := 2) (ret := none) (by decide) rfl ?_
  intro p e s m args below meth c s₁ B hml hv
  obtain ⟨rfl, hsz, hP, hK, hD0, hN⟩ := hv
  have hx := B.exec
  have hb := B.bytes
  have hr := B.returns
  have hts := atoms_spec (ws := wsX3_prepare) B.pre
  have hown : s.vm.findClass RX3 = some m.cls := findClass_of_methodNamed B.named
  have hlocks := B.notSynchronized
  have lf30 := hts (.fieldLink RX3 30 "PalaceOfRooms$Planner" "corners" "LPalaceOfRooms$Corners;") (List.mem_cons_of_mem _ (List.mem_append_left _ (List.mem_append_left _ (List.mem_append_left _ (List.mem_append_left _ (List.mem_append_left _ (List.mem_of_getElem? (i := 0) rfl)))))))
  have inX3 : ∀ w ∈ wsX30, w ∈ wsX3_prepare := fun w h => List.mem_cons_of_mem _ (List.mem_append_left _ (List.mem_append_left _ (List.mem_append_left _ (List.mem_append_right _ h))))
  have lf24 := hts (.fieldLink RX3 24 "PalaceOfRooms$Planner" "costs" "[I") (List.mem_cons_of_mem _ (List.mem_append_left _ (List.mem_append_left _ (List.mem_append_left _ (List.mem_append_left _ (List.mem_append_left _ (List.mem_of_getElem? (i := 1) rfl)))))))
  have lf21 := hts (.fieldLink RX3 21 "PalaceOfRooms$Planner" "walkedDays" "[I") (List.mem_cons_of_mem _ (List.mem_append_left _ (List.mem_append_left _ (List.mem_append_left _ (List.mem_append_left _ (List.mem_append_left _ (List.mem_of_getElem? (i := 2) rfl)))))))
  subst hsz
  have hD := hD0.self (sz := s.heap.size)
  generalize hAe : va_A (wPln cI cZ cQ a min tri bes wkd cos rst bst top str gho ghs pto cro pla wal fal tel gai day mar few doo) s.heap.size = A at hD ⊢
  have hA : ∀ q : Nat, s.heap.size ≤ q → A q := fun q h => by rw [← hAe]; exact Or.inr h
  have hS : va_S A s.heap s.heap [] := va_S.rf
  have hl := lv_entry ([.ref (a 16)]) (n := 2) (Nat.le_of_ble_eq_true rfl)
  rw [lg_entry_eq]
  generalize (lg_sl ([.ref (a 16)]) ++ List.replicate (2 - (lg_sl ([.ref (a 16)])).length) Slot.unset).toArray = ls at hl ⊢
  have hl : lv_has ls 2 [(0, .ref (a 16))] := hl
  refine lv_aload_n hx hb dX3_prepare_0 rfl (lv_at hl 0 rfl) ?_
  refine va_get (D := (dC, dI)) (ci := 3) (v := .ref (a 4)) (C := RX3) (T := TX3) (N := 9) hx hb hts inX3 hown hK hP 0 rfl rfl 0 (by decide) lf30 (fun _ h9 => h9) rfl dX3_prepare_1 ?_
  refine wvV (As := []) (rest := []) (wr := [((a 16), .inr (3, [.ref (a 4), .ref (a 0), .ref (a 17), .ref (a 18), .ref (a 19), .ref (a 20), .ref (a 21), .ref (a 22), .int bst])), ((a 17), .inl (cI, 4, .inl min)), ((a 18), .inl (cI, 4, .inl tri)), ((a 19), .inl (cI, 4, .inl bes)), ((a 20), .inl (cI, 8, .inl wkd)), ((a 21), .inl (cI, 8, .inl cos)), ((a 22), .inl (cI, 128, .inl rst)), ((a 0), .inr (8, [.ref (a 1), .int doo])), ((a 1), .inl (cI, 64, .inl few))]) (w2 := (fun u : US => (wPln cI cZ cQ a min tri bes wkd cos rst bst top str gho ghs pto (u.1 0) pla wal fal tel gai day mar few doo))) ⟨hx, hb, hml, hown, hts⟩ (k_X1_countCrowds2 l dC dI cI cZ cQ a top str gho ghs pto cro pla wal fal tel gai day mar _ r_top r_str r_gho r_ghs r_cro r_pla r_fal r_gai r_day r_mar) (cwV 0 hts gX3_prepare_X1_countCrowds rfl rfl rfl (by decide +kernel) ⟨Nat.le_of_ble_eq_true rfl, Nat.le_of_ble_eq_true rfl⟩) hP hD hS hA hK hN [7, 8, 9, 10, 11, 12, 13, 14, 15, 16, 17, 18] [0, 1, 2, 3, 4, 5, 6, 19, 20] [0, 1, 2, 3, 4, 5, 6, 9, 10, 11, 12, 13, 14, 15, 16, 17, 18, 19, 20, 7, 8] rfl rfl (by decide) (by decide) (by decide) (fun _ => rfl) (by decide) 7 1 rfl rfl rfl hl.1 rfl (Nat.le_of_ble_eq_true rfl) dX3_prepare_4 ⟨Nat.le_of_ble_eq_true rfl, Nat.le_of_ble_eq_true rfl⟩ (fun u3 H locs h2 hP hD hS => ?_)
  obtain ⟨cro_c4, ecro_c4⟩ : ∃ f : Nat → Int32, f = (u3.1 0) := ⟨_, rfl⟩
  have hP : va_P (dC, dI) vwCl (wPln cI cZ cQ a min tri bes wkd cos rst bst top str gho ghs pto cro_c4 pla wal fal tel gai day mar few doo) H := by rw [ecro_c4]; exact hP
  have hD : va_D A (wPln cI cZ cQ a min tri bes wkd cos rst bst top str gho ghs pto cro_c4 pla wal fal tel gai day mar few doo) := by rw [ecro_c4]; exact hD
  have h2 : (∀ j : Nat, j < 48 → (cro_c4 j).toInt = cwF mar top tel j (j - j % 6) 6) ∧ (rg 48 (0) (6) cro_c4) := by (try rw [ecro_c4]); exact h2
  obtain ⟨h2_0, h2_1⟩ := h2
  refine lv_iconst (v := 0) hx hb dX3_prepare_7 (by decide) ?_
  refine lv_istore_n (lv' := [(1, .int 0), (0, .ref (a 16))]) hx hb dX3_prepare_8 rfl hl (by decide) rfl (fun ls hl => ?_)
  have L9 : ∀ (nn : Nat) (y9_1 : Int32) (cos_9 : Nat → Int32) (wkd_9 : Nat → Int32) (H : Heap) (locs : List Loc) (ls : Array Slot), (rg 8 (0) (15) wkd_9) → (0 ≤ (y9_1.toInt)) → ((y9_1.toInt) ≤ 8) → (prI few top (y9_1.toInt) cos_9 wkd_9) → (8 - (y9_1.toInt)).toNat < nn → va_P (dC, dI) vwCl (wPln cI cZ cQ a min tri bes wkd_9 cos_9 rst bst top str gho ghs pto cro_c4 pla wal fal tel gai day mar few doo) H → va_D A (wPln cI cZ cQ a min tri bes wkd_9 cos_9 rst bst top str gho ghs pto cro_c4 pla wal fal tel gai day mar few doo) → va_S A s.heap H locs → lv_has ls 2 [(0, .ref (a 16)), (1, .int y9_1)] → W p l e (headSpec wsX3_prepare { frames := 5, cells := 0, slots := 0, locals := 109 }).room s m ([.ref (a 16)] : List Value).toArray below meth c H locs 0 0 (MQ below (va_Qv (fun (u : US) => (∀ j : Nat, j < 48 → ((u.1 0) j).toInt = cwF mar top tel j (j - j % 6) 6) ∧ (prI few top 8 (u.1 1) (u.1 2)) ∧ (rg 48 (0) (6) (u.1 0)) ∧ (rg 8 (0) (15) (u.1 2))) (Bw (dC, dI) A (fun u : US => (wPln cI cZ cQ a min tri bes (u.1 2) (u.1 1) rst bst top str gho ghs pto (u.1 0) pla wal fal tel gai day mar few doo))) A) ([.ref (a 16)] : List Value).toArray s 0 0 A) (F0 m 9 ls []) := by
    intro nn
    induction nn with
    | zero =>
      intro y9_1 cos_9 wkd_9 H locs ls r_wkd_9 i9_0 i9_1 i9_2 hm9
      exact absurd hm9 (Nat.not_lt_zero _)
    | succ nn ih9 =>
      intro y9_1 cos_9 wkd_9 H locs ls r_wkd_9 i9_0 i9_1 i9_2 hm9 hP hD hS hl
      refine lv_iload_n hx hb dX3_prepare_9 rfl (lv_at hl 1 rfl) ?_
      refine lv_bipush (v := 8) hx hb dX3_prepare_10 (by decide) ?_
      refine lv_icmp_ge (tgt := 39) hx hb dX3_prepare_12 (by decide) (fun c5 => ?_) (fun c5 => ?_)
      · have dc5 : 8 ≤ y9_1.toInt := leC (show (8 : Int32).toInt = 8 from rfl) rfl c5
        exact W.vret hx hb hr (fun tq ht hW => ⟨⟨(uS [cro_c4, cos_9, wkd_9] 0 (fun _ => 0)), rfl, ⟨(show ∀ j : Nat, j < 48 → (cro_c4 j).toInt = cwF mar top tel j (j - j % 6) 6 from by assumption), (show prI few top 8 cos_9 wkd_9 from by (have e8 : _ = (8 : Int) := Int.le_antisymm i9_1 (by assumption); rw [← e8]; exact i9_2)), h2_1, r_wkd_9⟩, by rw [ht]; exact hP, hD⟩, hS.F ht⟩) hS.2.2 dX3_prepare_39
      · have dc5 : y9_1.toInt < 8 := nleC (show (8 : Int32).toInt = 8 from rfl) rfl c5
        refine lv_aload_n hx hb dX3_prepare_15 rfl (lv_at hl 0 rfl) ?_
        refine va_get (D := (dC, dI)) (ci := 3) (v := .ref (a 21)) (C := RX3) (T := TX3) (N := 9) hx hb hts inX3 hown hK hP 0 rfl rfl 6 (by decide) lf24 (fun _ h9 => h9) rfl dX3_prepare_16 ?_
        refine lv_iload_n hx hb dX3_prepare_19 rfl (lv_at hl 1 rfl) ?_
        refine lv_aload_n hx hb dX3_prepare_20 rfl (lv_at hl 0 rfl) ?_
        refine lv_iload_n hx hb dX3_prepare_21 rfl (lv_at hl 1 rfl) ?_
        refine rdV (As := [.int y9_1]) (rest := [.int y9_1, .ref (a 21)]) ⟨hx, hb, hml, hown, hts⟩ (k_X3_costOf2 l dC dI cI cZ cQ a min tri bes wkd_9 cos_9 rst bst top str gho ghs pto cro_c4 pla wal fal tel gai day mar few doo y9_1 r_wkd_9 r_top r_str r_gho r_ghs h2_1 r_pla r_fal r_gai r_day r_mar (by omega) (by omega) (by exact q0)) (cwV 1 hts gX3_prepare_X3_costOf rfl rfl rfl (by decide +kernel) ⟨Nat.le_of_ble_eq_true rfl, Nat.le_of_ble_eq_true rfl⟩) hP hK hN [0, 1, 2, 3, 4, 5, 6, 7, 8, 9, 10, 11, 12, 13, 14, 15, 16, 17, 18, 19, 20] rfl 0 3 rfl rfl rfl hl.1 rfl (Nat.le_of_ble_eq_true rfl) dX3_prepare_22 ⟨Nat.le_of_ble_eq_true rfl, Nat.le_of_ble_eq_true rfl⟩ (fun r6 h7 => ?_)
        have h7 : (-1 ≤ r6.toInt) ∧ (r6.toInt ≤ 20) ∧ (coC few top y9_1 r6) := h7
        obtain ⟨h7_0, h7_1, h7_2⟩ := h7
        have b8 : vp_in y9_1 8 := inC rfl (by omega) (by omega)
        refine va_iast hx hb hK hP hD hS 5 0 rfl rfl b8 dX3_prepare_25 (fun H locs hP hD hS => ?_)
        obtain ⟨cos_u9, ecos_u9⟩ : ∃ f : Nat → Int32, f = upd cos_9 y9_1.toNatClampNeg r6 := ⟨_, rfl⟩
        have hP : va_P (dC, dI) vwCl (wPln cI cZ cQ a min tri bes wkd_9 cos_u9 rst bst top str gho ghs pto cro_c4 pla wal fal tel gai day mar few doo) H := by rw [ecos_u9]; exact hP
        have hD : va_D A (wPln cI cZ cQ a min tri bes wkd_9 cos_u9 rst bst top str gho ghs pto cro_c4 pla wal fal tel gai day mar few doo) := by rw [ecos_u9]; exact hD
        refine lv_aload_n hx hb dX3_prepare_26 rfl (lv_at hl 0 rfl) ?_
        refine va_get (D := (dC, dI)) (ci := 3) (v := .ref (a 20)) (C := RX3) (T := TX3) (N := 9) hx hb hts inX3 hown hK hP 0 rfl rfl 5 (by decide) lf21 (fun _ h9 => h9) rfl dX3_prepare_27 ?_
        refine lv_iload_n hx hb dX3_prepare_30 rfl (lv_at hl 1 rfl) ?_
        refine lv_iconst (v := 0) hx hb dX3_prepare_31 (by decide) ?_
        have b10 : vp_in y9_1 8 := inC rfl (by omega) (by omega)
        have g11 : rg 8 (0) (15) (upd wkd_9 y9_1.toNatClampNeg 0) := rg_upd r_wkd_9 (show (0 : Int32).toInt = 0 from rfl) (by omega) (by omega)
        refine va_iast hx hb hK hP hD hS 4 0 rfl rfl b10 dX3_prepare_32 (fun H locs hP hD hS => ?_)
        obtain ⟨wkd_u12, ewkd_u12⟩ : ∃ f : Nat → Int32, f = upd wkd_9 y9_1.toNatClampNeg 0 := ⟨_, rfl⟩
        have rwkd_u12 : rg 8 (0) (15) wkd_u12 := by rw [ewkd_u12]; exact g11
        have hP : va_P (dC, dI) vwCl (wPln cI cZ cQ a min tri bes wkd_u12 cos_u9 rst bst top str gho ghs pto cro_c4 pla wal fal tel gai day mar few doo) H := by rw [ewkd_u12]; exact hP
        have hD : va_D A (wPln cI cZ cQ a min tri bes wkd_u12 cos_u9 rst bst top str gho ghs pto cro_c4 pla wal fal tel gai day mar few doo) := by rw [ewkd_u12]; exact hD
        obtain ⟨z13, ez13⟩ : ∃ y : Int32, y = y9_1 + 1 := ⟨_, rfl⟩
        have iz13 : z13.toInt = y9_1.toInt + 1 := by rw [ez13]; exact addC rfl rfl (by omega) (by omega)
        refine lv_iinc (v := z13) (lv' := [(1, .int z13), (0, .ref (a 16))]) hx hb dX3_prepare_33 hl (k := 1) rfl (by rw [ez13]; rfl) (by decide) rfl (fun ls hl => ?_)
        refine lv_goto (tgt := 9) hx hb dX3_prepare_36 (by decide) ?_
        exact ih9 z13 cos_u9 wkd_u12 _ _ _ rwkd_u12 (by omega) (by omega) (by (first | exact pr_s i9_2 (by assumption) (by assumption) (by assumption) (by omega) (by omega) | exact pr_0 (by first | rfl | omega))) (by omega) hP hD hS (lv_sub hl [1, 0] rfl)
  have kc14 : (0 : Int32).toInt = 0 := rfl
  exact L9 _ 0 cos wkd _ _ _ r_wkd (by omega) (by omega) (by (first | exact pr_s i9_2 (by assumption) (by assumption) (by assumption) (by omega) (by omega) | exact pr_0 (by first | rfl | omega))) (Nat.lt_succ_self _) hP hD hS (lv_sub hl [1, 0] rfl)
