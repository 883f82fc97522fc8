set_option maxHeartbeats 4000000 in
set_option maxRecDepth 100000 in
theorem k_X3_findBest2 (l : Launch) (dC : Nat → ClassId) (dI : Nat → Nat → Nat) (cI cZ cQ : ClassId) (a : Nat → Nat) (min : Nat → Int32) (tri : Nat → Int32) (bes : Nat → Int32) (wkd : Nat → Int32) (cos : Nat → Int32) (rst : Nat → Int32) (bst : Int32) (top : Nat → Int32) (str : Nat → Int32) (gho : Nat → Int32) (ghs : Nat → Int32) (pto : Nat → Int32) (cro : Nat → Int32) (pla : Nat → Int32) (wal : Nat → Int32) (fal : Nat → Int32) (tel : Int32) (gai : Int32) (day : Int32) (mar : Nat → Int32) (few : Nat → Int32) (doo : Int32) (sz : Nat) (n : Int32) (r_wkd : rg 8 (0) (15) wkd) (r_top : rg 48 (-1) (23) top) (r_str : rg 48 (0) (100) str) (r_gho : rg 48 (-1) (23) gho) (r_ghs : rg 48 (0) (100) ghs) (r_cro : rg 48 (0) (6) cro) (r_pla : rg 24 (-1) (47) pla) (r_fal : rg 11 (0) (30) fal) (r_gai : 0 ≤ gai.toInt ∧ gai.toInt ≤ 100) (r_day : 0 ≤ day.toInt ∧ day.toInt ≤ 400) (r_mar : rg 24 (0) (255) mar) (q0 : 1 ≤ n.toInt) (q1 : n.toInt ≤ 4) (q2 : mtOK few) : KV l yX3_findBest wsX3_findBest { frames := 7, cells := 0, slots := 0, locals := 196 } (dC, dI) (TY cI cZ cQ) (wPln cI cZ cQ a min tri bes wkd cos rst bst top str gho ghs pto cro pla wal fal tel gai day mar few doo) [.ref (a 16), .int n] sz 0 0 (fun (u : US) => (∀ j : Nat, j < 8 → coC few top (nI j) ((u.1 1) j)) ∧ (pbI (okC (u.1 1) min n.toInt.toNat) (vlC mar fal top str tel gai.toInt n.toInt.toNat) n.toInt.toNat (9 ^ n.toInt.toNat) (u.1 6 0).toInt (u.1 5)) ∧ (rg 48 (0) (6) (u.1 0)) ∧ (rg 8 (0) (15) (u.1 2))) (fun u : US => (wPln cI cZ cQ a min (u.1 4) (u.1 5) (u.1 2) (u.1 1) (u.1 3) (u.1 6 0) top str gho ghs pto (u.1 0) pla wal fal tel gai day mar few doo)) := by
  refine Met.ofW (cc := cX3_findBest) (maxL := 5) (ret := none) (by decide) rfl ?_
  intro p e s m args below meth c s₁ B hml hv
  obtain ⟨rfl, hsz, hP, hK, hD0, hN⟩ := hv
  have hx := B.exec
  have hb := B.bytes
  have hr := B.returns
  have hts := atoms_spec (ws := wsX3_findBest) B.pre
  have hown : s.vm.findClass RX3 = some m.cls := findClass_of_methodNamed B.named
  have hlocks := B.notSynchronized
  have lf65 := hts (.fieldLink RX3 65 "PalaceOfRooms$Planner" "bestStrength" "I") (by decide +kernel)
  have inX3 : ∀ w ∈ wsX30, w ∈ wsX3_findBest := fun w h => List.mem_cons_of_mem _ (List.mem_append_left _ (List.mem_append_left _ (List.mem_append_left _ (List.mem_append_right _ h))))
  have lf27 := hts (.fieldLink RX3 27 "PalaceOfRooms$Planner" "roomStrength" "[I") (by decide +kernel)
  subst hsz
  have hD := hD0.self (sz := s.heap.size)
  generalize hAe : va_A (wPln cI cZ cQ a min tri bes wkd cos rst bst top str gho ghs pto cro pla wal fal tel gai day mar few doo) s.heap.size = A at hD ⊢
  have hA : ∀ q : Nat, s.heap.size ≤ q → A q := fun q h => by rw [← hAe]; exact Or.inr h
  have hS : va_S A s.heap s.heap [] := va_S.rf
  have hl := lv_entry ([.ref (a 16), .int n]) (n := 5) (Nat.le_of_ble_eq_true rfl)
  rw [lg_entry_eq]
  generalize (lg_sl ([.ref (a 16), .int n]) ++ List.replicate (5 - (lg_sl ([.ref (a 16), .int n])).length) Slot.unset).toArray = ls at hl ⊢
  have hl : lv_has ls 5 [(0, .ref (a 16)), (1, .int n)] := hl
  refine lv_aload_n hx hb dX3_findBest_0 rfl (lv_at hl 0 rfl) ?_
  refine wvV (As := []) (rest := []) (wr := []) (w2 := (fun u : US => (wPln cI cZ cQ a min tri bes (u.1 2) (u.1 1) rst bst top str gho ghs pto (u.1 0) pla wal fal tel gai day mar few doo))) ⟨hx, hb, hml, hown, hts⟩ (k_X3_prepare2 l dC dI cI cZ cQ a min tri bes wkd cos rst bst top str gho ghs pto cro pla wal fal tel gai day mar few doo _ r_wkd r_top r_str r_gho r_ghs r_cro r_pla r_fal r_gai r_day r_mar (by exact q2)) (cwV 0 hts gX3_findBest_X3_prepare rfl rfl rfl (by decide +kernel) ⟨Nat.le_of_ble_eq_true rfl, Nat.le_of_ble_eq_true rfl⟩) hP hD hS hA hK hN [0, 1, 2, 3, 4, 5, 6, 7, 8, 9, 10, 11, 12, 13, 14, 15, 16, 17, 18, 19, 20] [] [0, 1, 2, 3, 4, 5, 6, 7, 8, 9, 10, 11, 12, 13, 14, 15, 16, 17, 18, 19, 20] rfl rfl (by decide) (by decide) (by decide) (fun _ => rfl) (by decide) 0 3 rfl rfl rfl hl.1 rfl (Nat.le_of_ble_eq_true rfl) dX3_findBest_1 ⟨Nat.le_of_ble_eq_true rfl, Nat.le_of_ble_eq_true rfl⟩ (fun u3 H locs h2 hP hD hS => ?_)
  obtain ⟨cro_c4, ecro_c4⟩ : ∃ f : Nat → Int32, f = (u3.1 0) := ⟨_, rfl⟩
  obtain ⟨cos_c5, ecos_c5⟩ : ∃ f : Nat → Int32, f = (u3.1 1) := ⟨_, rfl⟩
  obtain ⟨wkd_c6, ewkd_c6⟩ : ∃ f : Nat → Int32, f = (u3.1 2) := ⟨_, rfl⟩
  have hP : va_P (dC, dI) vwCl (wPln cI cZ cQ a min tri bes wkd_c6 cos_c5 rst bst top str gho ghs pto cro_c4 pla wal fal tel gai day mar few doo) H := by rw [ecro_c4, ecos_c5, ewkd_c6]; exact hP
  have hD : va_D A (wPln cI cZ cQ a min tri bes wkd_c6 cos_c5 rst bst top str gho ghs pto cro_c4 pla wal fal tel gai day mar few doo) := by rw [ecro_c4, ecos_c5, ewkd_c6]; exact hD
  have h2 : (∀ j : Nat, j < 48 → (cro_c4 j).toInt = cwF mar top tel j (j - j % 6) 6) ∧ (prI few top 8 cos_c5 wkd_c6) ∧ (rg 48 (0) (6) cro_c4) ∧ (rg 8 (0) (15) wkd_c6) := by (try rw [ecro_c4]); (try rw [ecos_c5]); (try rw [ewkd_c6]); exact h2
  obtain ⟨h2_0, h2_1, h2_2, h2_3⟩ := h2
  refine lv_iconst (v := 0) hx hb dX3_findBest_4 (by decide) ?_
  refine lv_istore_n (lv' := [(2, .int 0), (0, .ref (a 16)), (1, .int n)]) hx hb dX3_findBest_5 rfl hl (by decide) rfl (fun ls hl => ?_)
  refine lv_iconst (v := 0) hx hb dX3_findBest_6 (by decide) ?_
  refine lv_istore_n (lv' := [(3, .int 0), (2, .int 0), (0, .ref (a 16)), (1, .int n)]) hx hb dX3_findBest_7 rfl hl (by decide) rfl (fun ls hl => ?_)
  have L8 : ∀ (nn : Nat) (y8_2 : Int32) (y8_3 : Int32) (rst_8 : Nat → Int32) (H : Heap) (locs : List Loc) (ls : Array Slot), (0 ≤ (y8_3.toInt)) → ((y8_3.toInt) ≤ 8) → (0 ≤ (y8_2.toInt)) → ((y8_2.toInt) ≤ 600 * (y8_3.toInt)) → (rsQ rst_8 mar fal top str tel gai.toInt n.toInt.toNat (y8_3.toInt) 0) → (suQ rst_8 (y8_3.toInt) (y8_2.toInt)) → (8 - (y8_3.toInt)).toNat < nn → va_P (dC, dI) vwCl (wPln cI cZ cQ a min tri bes wkd_c6 cos_c5 rst_8 bst top str gho ghs pto cro_c4 pla wal fal tel gai day mar few doo) H → va_D A (wPln cI cZ cQ a min tri bes wkd_c6 cos_c5 rst_8 bst top str gho ghs pto cro_c4 pla wal fal tel gai day mar few doo) → va_S A s.heap H locs → lv_has ls 5 [(0, .ref (a 16)), (1, .int n), (2, .int y8_2), (3, .int y8_3)] → W p l e (headSpec wsX3_findBest { frames := 7, cells := 0, slots := 0, locals := 196 }).room s m ([.ref (a 16), .int n] : List Value).toArray below meth c H locs 0 0 (MQ below (va_Qv (fun (u : US) => (∀ j : Nat, j < 8 → coC few top (nI j) ((u.1 1) j)) ∧ (pbI (okC (u.1 1) min n.toInt.toNat) (vlC mar fal top str tel gai.toInt n.toInt.toNat) n.toInt.toNat (9 ^ n.toInt.toNat) (u.1 6 0).toInt (u.1 5)) ∧ (rg 48 (0) (6) (u.1 0)) ∧ (rg 8 (0) (15) (u.1 2))) (Bw (dC, dI) A (fun u : US => (wPln cI cZ cQ a min (u.1 4) (u.1 5) (u.1 2) (u.1 1) (u.1 3) (u.1 6 0) top str gho ghs pto (u.1 0) pla wal fal tel gai day mar few doo))) A) ([.ref (a 16), .int n] : List Value).toArray s 0 0 A) (F0 m 8 ls []) := by
    intro nn
    induction nn with
    | zero =>
      intro y8_2 y8_3 rst_8 H locs ls i8_0 i8_1 i8_2 i8_3 i8_4 i8_5 hm8
      exact absurd hm8 (Nat.not_lt_zero _)
    | succ nn ih8 =>
      intro y8_2 y8_3 rst_8 H locs ls i8_0 i8_1 i8_2 i8_3 i8_4 i8_5 hm8 hP hD hS hl
      refine lv_iload_n hx hb dX3_findBest_8 rfl (lv_at hl 3 rfl) ?_
      refine lv_bipush (v := 8) hx hb dX3_findBest_9 (by decide) ?_
      refine lv_icmp_ge (tgt := 69) hx hb dX3_findBest_11 (by decide) (fun c7 => ?_) (fun c7 => ?_)
      · have dc7 : 8 ≤ y8_3.toInt := leC (show (8 : Int32).toInt = 8 from rfl) rfl c7
        refine lv_aload_n hx hb dX3_findBest_69 rfl (lv_at hl 0 rfl) ?_
        refine lv_iconst (v := (-1)) hx hb dX3_findBest_70 (by decide) ?_
        refine va_put (D := (dC, dI)) (ci := 3) (v := .int (-1)) (ty := .int) (C := RX3) (T := TX3) (N := 9) hx hb hts inX3 tyX3 tyX3_ok nmX3 hown hK hP hD hS 0 rfl rfl 8 (by decide) lf65 (fun _ h9 => h9) rfl (by decide +kernel) rfl rfl (Nat.le_of_ble_eq_true rfl) dX3_findBest_71 (fun H locs hP hD hS => ?_)
        have hP : va_P (dC, dI) vwCl (wPln cI cZ cQ a min tri bes wkd_c6 cos_c5 rst_8 (-1) top str gho ghs pto cro_c4 pla wal fal tel gai day mar few doo) H := hP
        have hD : va_D A (wPln cI cZ cQ a min tri bes wkd_c6 cos_c5 rst_8 (-1) top str gho ghs pto cro_c4 pla wal fal tel gai day mar few doo) := hD
        refine lv_aload_n hx hb dX3_findBest_74 rfl (lv_at hl 0 rfl) ?_
        refine lv_iconst (v := 0) hx hb dX3_findBest_75 (by decide) ?_
        refine lv_iload_n hx hb dX3_findBest_76 rfl (lv_at hl 1 rfl) ?_
        refine lv_iload_n hx hb dX3_findBest_77 rfl (lv_at hl 2 rfl) ?_
        have kc0 : (0 : Int32).toInt = 0 := rfl
        refine wvV (As := [.int 0, .int n, .int y8_2]) (rest := []) (wr := []) (w2 := (fun u : US => (wPln cI cZ cQ a min (u.1 0) (u.1 1) (u.1 2) cos_c5 rst_8 (u.1 3 0) top str gho ghs pto cro_c4 pla wal fal tel gai day mar few doo))) ⟨hx, hb, hml, hown, hts⟩ (k_X3_seek2_4 l dC dI cI cZ cQ a min tri bes wkd_c6 cos_c5 rst_8 (-1) top str gho ghs pto cro_c4 pla wal fal tel gai day mar few doo _ (0 : Int32) n y8_2 h2_3 r_top r_str r_gho r_ghs h2_2 r_pla r_fal r_gai r_day r_mar (by omega) (by omega) (by omega) (by omega) (by exact rq_I i8_4 (by omega) (by omega)) (by exact sk_0 (by assumption) i8_5 (by omega) (by first | rfl | omega) (by omega) (by omega)) (by exact pb_0 rfl (at_00 (by first | rfl | omega)))) (cwV 3 hts gX3_findBest_X3_seek rfl rfl rfl (by decide +kernel) ⟨Nat.le_of_ble_eq_true rfl, Nat.le_of_ble_eq_true rfl⟩) hP hD hS hA hK hN [0, 1, 2, 3, 4, 5, 6, 7, 8, 9, 10, 11, 12, 13, 14, 15, 16, 17, 18, 19, 20] [] [0, 1, 2, 3, 4, 5, 6, 7, 8, 9, 10, 11, 12, 13, 14, 15, 16, 17, 18, 19, 20] rfl rfl (by decide) (by decide) (by decide) (fun _ => rfl) (by decide) 0 3 rfl rfl rfl hl.1 rfl (Nat.le_of_ble_eq_true rfl) dX3_findBest_78 ⟨Nat.le_of_ble_eq_true rfl, Nat.le_of_ble_eq_true rfl⟩ (fun u10 H locs h9 hP hD hS => ?_)
        obtain ⟨tri_c11, etri_c11⟩ : ∃ f : Nat → Int32, f = (u10.1 0) := ⟨_, rfl⟩
        obtain ⟨bes_c12, ebes_c12⟩ : ∃ f : Nat → Int32, f = (u10.1 1) := ⟨_, rfl⟩
        obtain ⟨wkd_c13, ewkd_c13⟩ : ∃ f : Nat → Int32, f = (u10.1 2) := ⟨_, rfl⟩
        obtain ⟨bst_c14, ebst_c14⟩ : ∃ f : Int32, f = (u10.1 3 0) := ⟨_, rfl⟩
        have hP : va_P (dC, dI) vwCl (wPln cI cZ cQ a min tri_c11 bes_c12 wkd_c13 cos_c5 rst_8 bst_c14 top str gho ghs pto cro_c4 pla wal fal tel gai day mar few doo) H := by rw [etri_c11, ebes_c12, ewkd_c13, ebst_c14]; exact hP
        have hD : va_D A (wPln cI cZ cQ a min tri_c11 bes_c12 wkd_c13 cos_c5 rst_8 bst_c14 top str gho ghs pto cro_c4 pla wal fal tel gai day mar few doo) := by rw [etri_c11, ebes_c12, ewkd_c13, ebst_c14]; exact hD
        have h9 : (ksI (0) tri wkd_c6 tri_c11 wkd_c13) ∧ (pbI (okC cos_c5 min n.toInt.toNat) (vlC mar fal top str tel gai.toInt n.toInt.toNat) n.toInt.toNat (toN tri n.toInt.toNat (0)) bst_c14.toInt bes_c12) ∧ (rg 8 (0) (15) wkd_c13) := by (try rw [etri_c11]); (try rw [ebes_c12]); (try rw [ewkd_c13]); (try rw [ebst_c14]); exact h9
        obtain ⟨h9_0, h9_1, h9_2⟩ := h9
        exact W.vret hx hb hr (fun tq ht hW => ⟨⟨(uS [cro_c4, cos_c5, wkd_c13, rst_8, tri_c11, bes_c12, (fun _ => bst_c14)] 0 (fun _ => 0)), rfl, ⟨(show ∀ j : Nat, j < 8 → coC few top (nI j) (cos_c5 j) from by exact pr_co (by assumption)), (show pbI (okC cos_c5 min n.toInt.toNat) (vlC mar fal top str tel gai.toInt n.toInt.toNat) n.toInt.toNat (9 ^ n.toInt.toNat) bst_c14.toInt bes_c12 from by exact pb_e (by assumption) (to_00 (by first | rfl | omega)).symm), h2_2, h9_2⟩, by rw [ht]; exact hP, hD⟩, hS.F ht⟩) hS.2.2 dX3_findBest_81
      · have dc7 : y8_3.toInt < 8 := nleC (show (8 : Int32).toInt = 8 from rfl) rfl c7
        refine lv_iconst (v := 0) hx hb dX3_findBest_14 (by decide) ?_
        refine lv_istore (lv' := [(4, .int 0), (0, .ref (a 16)), (1, .int n), (2, .int y8_2), (3, .int y8_3)]) hx hb dX3_findBest_15 hl (by decide) rfl (fun ls hl => ?_)
        have L17 : ∀ (nn : Nat) (y17_4 : Int32) (rst_17 : Nat → Int32) (H : Heap) (locs : List Loc) (ls : Array Slot), (0 ≤ (y17_4.toInt)) → ((y17_4.toInt) ≤ 16) → (rsQ rst_17 mar fal top str tel gai.toInt n.toInt.toNat (y8_3.toInt) (y17_4.toInt)) → (suQ rst_17 (y8_3.toInt) (y8_2.toInt)) → (16 - (y17_4.toInt)).toNat < nn → va_P (dC, dI) vwCl (wPln cI cZ cQ a min tri bes wkd_c6 cos_c5 rst_17 bst top str gho ghs pto cro_c4 pla wal fal tel gai day mar few doo) H → va_D A (wPln cI cZ cQ a min tri bes wkd_c6 cos_c5 rst_17 bst top str gho ghs pto cro_c4 pla wal fal tel gai day mar few doo) → va_S A s.heap H locs → lv_has ls 5 [(0, .ref (a 16)), (1, .int n), (2, .int y8_2), (3, .int y8_3), (4, .int y17_4)] → W p l e (headSpec wsX3_findBest { frames := 7, cells := 0, slots := 0, locals := 196 }).room s m ([.ref (a 16), .int n] : List Value).toArray below meth c H locs 0 0 (MQ below (va_Qv (fun (u : US) => (∀ j : Nat, j < 8 → coC few top (nI j) ((u.1 1) j)) ∧ (pbI (okC (u.1 1) min n.toInt.toNat) (vlC mar fal top str tel gai.toInt n.toInt.toNat) n.toInt.toNat (9 ^ n.toInt.toNat) (u.1 6 0).toInt (u.1 5)) ∧ (rg 48 (0) (6) (u.1 0)) ∧ (rg 8 (0) (15) (u.1 2))) (Bw (dC, dI) A (fun u : US => (wPln cI cZ cQ a min (u.1 4) (u.1 5) (u.1 2) (u.1 1) (u.1 3) (u.1 6 0) top str gho ghs pto (u.1 0) pla wal fal tel gai day mar few doo))) A) ([.ref (a 16), .int n] : List Value).toArray s 0 0 A) (F0 m 17 ls []) := by
          intro nn
          induction nn with
          | zero =>
            intro y17_4 rst_17 H locs ls i17_0 i17_1 i17_2 i17_3 hm17
            exact absurd hm17 (Nat.not_lt_zero _)
          | succ nn ih17 =>
            intro y17_4 rst_17 H locs ls i17_0 i17_1 i17_2 i17_3 hm17 hP hD hS hl
            refine lv_iload hx hb dX3_findBest_17 (lv_at hl 4 rfl) ?_
            refine lv_iconst (v := 1) hx hb dX3_findBest_19 (by decide) ?_
            refine lv_iload_n hx hb dX3_findBest_20 rfl (lv_at hl 1 rfl) ?_
            refine lv_ishl hx hb dX3_findBest_21 ?_
            have f15 : 1 ≤ ((1 : Int32) <<< (n &&& 31)).toInt ∧ ((1 : Int32) <<< (n &&& 31)).toInt ≤ 16 := shl1 rfl (by omega) 4 (by omega) (by decide)
            have wpw := sh1_pow (n := n) (by omega) (by omega)
            have wp16 := pw16 (n := n) (by omega) (by omega)
            refine lv_icmp_ge (tgt := 51) hx hb dX3_findBest_22 (by decide) (fun c16 => ?_) (fun c16 => ?_)
            · have dc16 : ((1 : Int32) <<< (n &&& 31)).toInt ≤ y17_4.toInt := leC rfl rfl c16
              refine lv_iload_n hx hb dX3_findBest_51 rfl (lv_at hl 2 rfl) ?_
              refine lv_aload_n hx hb dX3_findBest_52 rfl (lv_at hl 0 rfl) ?_
              refine va_get (D := (dC, dI)) (ci := 3) (v := .ref (a 22)) (C := RX3) (T := TX3) (N := 9) hx hb hts inX3 hown hK hP 0 rfl rfl 7 (by decide) lf27 (fun _ h9 => h9) rfl dX3_findBest_53 ?_
              refine lv_iload_n hx hb dX3_findBest_56 rfl (lv_at hl 3 rfl) ?_
              refine lv_bipush (v := 16) hx hb dX3_findBest_57 (by decide) ?_
              refine lv_imul hx hb dX3_findBest_59 ?_
              have f17 : (y8_3 * 16).toInt = (y8_3.toInt) * (16) := mulC rfl (show (16 : Int32).toInt = 16 from rfl) (by omega) (by omega)
              have b18 : vp_in (y8_3 * 16) 128 := inC f17 (by omega) (by omega)
              refine va_iald hx hb hK hP 6 0 rfl rfl b18 dX3_findBest_60 ?_
              have w60 := i17_2 y8_3.toInt.toNat 0 (by omega) (by omega) (Or.inr ⟨by omega, by omega⟩)
              rw [show 16 * y8_3.toInt.toNat + 0 = (y8_3 * 16).toNatClampNeg by rw [clC (x := y8_3 * 16) (X := y8_3.toInt * 16) (by omega)]; omega] at w60
              refine lv_iadd hx hb dX3_findBest_61 ?_
              have f19 : (y8_2 + (rst_17 (y8_3 * 16).toNatClampNeg)).toInt = (y8_2.toInt) + ((rst_17 (y8_3 * 16).toNatClampNeg).toInt) := addC rfl rfl (by omega) (by omega)
              refine lv_topi (fun x20 ex20 => ?_)
              have ix20 : x20.toInt = (y8_2.toInt) + ((rst_17 (y8_3 * 16).toNatClampNeg).toInt) := by rw [ex20]; exact f19
              refine lv_istore_n (lv' := [(2, .int x20), (0, .ref (a 16)), (1, .int n), (3, .int y8_3), (4, .int y17_4)]) hx hb dX3_findBest_62 rfl hl (by decide) rfl (fun ls hl => ?_)
              obtain ⟨z21, ez21⟩ : ∃ y : Int32, y = y8_3 + 1 := ⟨_, rfl⟩
              have iz21 : z21.toInt = y8_3.toInt + 1 := by rw [ez21]; exact addC rfl rfl (by omega) (by omega)
              refine lv_iinc (v := z21) (lv' := [(3, .int z21), (2, .int x20), (0, .ref (a 16)), (1, .int n), (4, .int y17_4)]) hx hb dX3_findBest_63 hl (k := 3) rfl (by rw [ez21]; rfl) (by decide) rfl (fun ls hl => ?_)
              refine lv_goto (tgt := 8) hx hb dX3_findBest_66 (by decide) ?_
              exact ih8 x20 z21 rst_17 _ _ _ (by omega) (by omega) (by omega) (by omega) (by (first | exact rq_o i17_2 (by omega) (by omega) rfl | exact rq_0 (by first | rfl | omega) rfl)) (by (first | exact sq_s (x := y8_3 * 16) i17_3 (by omega) (by omega) (by omega) (by omega) | exact sq_0 (by first | rfl | omega) (by first | rfl | omega))) (by omega) hP hD hS (lv_sub hl [2, 3, 1, 0] rfl)
            · have dc16 : y17_4.toInt < ((1 : Int32) <<< (n &&& 31)).toInt := nleC rfl rfl c16
              refine lv_aload_n hx hb dX3_findBest_25 rfl (lv_at hl 0 rfl) ?_
              refine va_get (D := (dC, dI)) (ci := 3) (v := .ref (a 22)) (C := RX3) (T := TX3) (N := 9) hx hb hts inX3 hown hK hP 0 rfl rfl 7 (by decide) lf27 (fun _ h9 => h9) rfl dX3_findBest_26 ?_
              refine lv_iload_n hx hb dX3_findBest_29 rfl (lv_at hl 3 rfl) ?_
              refine lv_bipush (v := 16) hx hb dX3_findBest_30 (by decide) ?_
              refine lv_imul hx hb dX3_findBest_32 ?_
              have f22 : (y8_3 * 16).toInt = (y8_3.toInt) * (16) := mulC rfl (show (16 : Int32).toInt = 16 from rfl) (by omega) (by omega)
              refine lv_iload hx hb dX3_findBest_33 (lv_at hl 4 rfl) ?_
              refine lv_iadd hx hb dX3_findBest_35 ?_
              have f23 : ((y8_3 * 16) + y17_4).toInt = ((y8_3.toInt) * (16)) + (y17_4.toInt) := addC f22 rfl (by omega) (by omega)
              refine lv_aload_n hx hb dX3_findBest_36 rfl (lv_at hl 0 rfl) ?_
              refine lv_iload_n hx hb dX3_findBest_37 rfl (lv_at hl 3 rfl) ?_
              refine lv_iload_n hx hb dX3_findBest_38 rfl (lv_at hl 1 rfl) ?_
              refine lv_iload hx hb dX3_findBest_39 (lv_at hl 4 rfl) ?_
              refine rdV (As := [.int y8_3, .int n, .int y17_4]) (rest := [.int ((y8_3 * 16) + y17_4), .ref (a 22)]) ⟨hx, hb, hml, hown, hts⟩ (k_X3_strengthOfRoom2 l dC dI cI cZ cQ a min tri bes wkd_c6 cos_c5 rst_17 bst top str gho ghs pto cro_c4 pla wal fal tel gai day mar few doo y8_3 n y17_4 h2_3 r_top r_str r_gho r_ghs h2_2 r_pla r_fal r_gai r_day r_mar (by omega) (by omega) (by omega) (by omega)) (cwV 3 hts gX3_findBest_X3_strengthOfRoom rfl rfl rfl (by decide +kernel) ⟨Nat.le_of_ble_eq_true rfl, Nat.le_of_ble_eq_true rfl⟩) hP hK hN [0, 1, 2, 3, 4, 5, 6, 7, 8, 9, 10, 11, 12, 13, 14, 15, 16, 17, 18, 19, 20] rfl 0 3 rfl rfl rfl hl.1 rfl (Nat.le_of_ble_eq_true rfl) dX3_findBest_41 ⟨Nat.le_of_ble_eq_true rfl, Nat.le_of_ble_eq_true rfl⟩ (fun r24 h25 => ?_)
              have h25 : (0 ≤ r24.toInt) ∧ (r24.toInt ≤ 600) ∧ (r24.toInt = srF top (fun c => svF fal (cro_c4 c).toInt gai.toInt (bitW y17_4) (str c).toInt n.toInt.toNat) (y8_3.toInt * 6).toNat 6) := h25
              obtain ⟨h25_0, h25_1, h25_2⟩ := h25
              have b26 : vp_in ((y8_3 * 16) + y17_4) 128 := inC f23 (by omega) (by omega)
              refine va_iast hx hb hK hP hD hS 6 0 rfl rfl b26 dX3_findBest_44 (fun H locs hP hD hS => ?_)
              obtain ⟨rst_u27, erst_u27⟩ : ∃ f : Nat → Int32, f = upd rst_17 ((y8_3 * 16) + y17_4).toNatClampNeg r24 := ⟨_, rfl⟩
              have hP : va_P (dC, dI) vwCl (wPln cI cZ cQ a min tri bes wkd_c6 cos_c5 rst_u27 bst top str gho ghs pto cro_c4 pla wal fal tel gai day mar few doo) H := by rw [erst_u27]; exact hP
              have hD : va_D A (wPln cI cZ cQ a min tri bes wkd_c6 cos_c5 rst_u27 bst top str gho ghs pto cro_c4 pla wal fal tel gai day mar few doo) := by rw [erst_u27]; exact hD
              obtain ⟨z28, ez28⟩ : ∃ y : Int32, y = y17_4 + 1 := ⟨_, rfl⟩
              have iz28 : z28.toInt = y17_4.toInt + 1 := by rw [ez28]; exact addC rfl rfl (by omega) (by omega)
              refine lv_iinc (v := z28) (lv' := [(4, .int z28), (0, .ref (a 16)), (1, .int n), (2, .int y8_2), (3, .int y8_3)]) hx hb dX3_findBest_45 hl (k := 4) rfl (by rw [ez28]; rfl) (by decide) rfl (fun ls hl => ?_)
              refine lv_goto (tgt := 17) hx hb dX3_findBest_48 (by decide) ?_
              exact ih17 z28 rst_u27 _ _ _ (by omega) (by omega) (by (first | exact rq_s (y := y8_3) (z := y17_4) i17_2 (by assumption) (by assumption) (by omega) (by omega) (by assumption) rfl (by omega) (by omega) (by omega) (by omega) (by omega) (by omega) | exact rq_c i8_4 rfl (by first | rfl | omega))) (by (first | exact sq_k i17_3 (by assumption) (by omega) (by omega) | exact i8_5)) (by omega) hP hD hS (lv_sub hl [1, 2, 3, 4, 0] rfl)
        have kc29 : (0 : Int32).toInt = 0 := rfl
        exact L17 _ 0 rst_8 _ _ _ (by omega) (by omega) (by (first | exact rq_s (y := y8_3) (z := y17_4) i17_2 (by assumption) (by assumption) (by omega) (by omega) (by assumption) rfl (by omega) (by omega) (by omega) (by omega) (by omega) (by omega) | exact rq_c i8_4 rfl (by first | rfl | omega))) (by (first | exact sq_k i17_3 (by assumption) (by omega) (by omega) | exact i8_5)) (Nat.lt_succ_self _) hP hD hS (lv_sub hl [1, 2, 3, 4, 0] rfl)
  have kc30 : (0 : Int32).toInt = 0 := rfl
  exact L8 _ 0 0 rst _ _ _ (by omega) (by omega) (by omega) (by omega) (by (first | exact rq_o i17_2 (by omega) (by omega) rfl | exact rq_0 (by first | rfl | omega) rfl)) (by (first | exact sq_s (x := y8_3 * 16) i17_3 (by omega) (by omega) (by omega) (by omega) | exact sq_0 (by first | rfl | omega) (by first | rfl | omega))) (Nat.lt_succ_self _) hP hD hS (lv_sub hl [2, 3, 1, 0] rfl)
set_option maxHeartbeats 4000000 in
set_option maxRecDepth 100000 in
theorem k_X9_plan2 (l : Launch) (dC : Nat → ClassId) (dI : Nat → Nat → Nat) (cI cZ cQ : ClassId) (a : Nat → Nat) (rb0 : Nat) (rb1 : Nat) (rb2 : Nat) (db0 : Nat) (db1 : Nat) (db2 : Nat) (min : Nat → Int32) (tri : Nat → Int32) (bes : Nat → Int32) (wkd : Nat → Int32) (cos : Nat → Int32) (rst : Nat → Int32) (bst : Int32) (top : Nat → Int32) (str : Nat → Int32) (gho : Nat → Int32) (ghs : Nat → Int32) (pto : Nat → Int32) (cro : Nat → Int32) (pla : Nat → Int32) (wal : Nat → Int32) (fal : Nat → Int32) (tel : Int32) (gai : Int32) (day : Int32) (mar : Nat → Int32) (few : Nat → Int32) (doo : Int32) (sz : Nat) (n : Int32) (mi : Int32) (wh : Int32) (r_wkd : rg 8 (0) (15) wkd) (r_top : rg 48 (-1) (23) top) (r_str : rg 48 (0) (100) str) (r_gho : rg 48 (-1) (23) gho) (r_ghs : rg 48 (0) (100) ghs) (r_cro : rg 48 (0) (6) cro) (r_pla : rg 24 (-1) (47) pla) (r_fal : rg 11 (0) (30) fal) (r_gai : 0 ≤ gai.toInt ∧ gai.toInt ≤ 100) (r_day : 0 ≤ day.toInt ∧ day.toInt ≤ 400) (r_mar : rg 24 (0) (255) mar) (q0 : mtOK few) : KW l yX9_plan wsX9_plan { frames := 8, cells := 0, slots := 0, locals := 220 } (dC, dI) (TY cI cZ cQ) (wsPl cI cZ cQ a rb0 rb1 rb2 db0 db1 db2 min tri bes wkd cos rst bst top str gho ghs pto cro pla wal fal tel gai day mar few doo) [.ref (a 43), .int n, .int mi, .int wh] sz 0 0 (fun (r : Int32) (u : US) => (spPlnC few mar fal top str tel gai.toInt n mi wh r) ∧ (rg 48 (0) (6) (u.1 1)) ∧ (rg 8 (0) (15) (u.1 3))) (fun u : US => (wsPl cI cZ cQ a rb0 rb1 rb2 db0 db1 db2 (u.1 0) (u.1 5) (u.1 6) (u.1 3) (u.1 2) (u.1 4) (u.1 7 0) top str gho ghs pto (u.1 1) pla wal fal tel gai day mar few doo)) := by
  refine Met.ofW (cc := cX9_plan) (maxL := 4) (ret := (some .int)) (by decide) rfl ?_
  intro p e s m args below meth c s₁ B hml hv
  obtain ⟨rfl, hsz, hP, hK, hD0, hN⟩ := hv
  have hx := B.exec
  have hb := B.bytes
  have hr := B.returns
  have hts := atoms_spec (ws := wsX9_plan) B.pre
  have hown : s.vm.findClass RX9 = some m.cls := findClass_of_methodNamed B.named
  have hlocks := B.notSynchronized
  have lf44 := hts (.fieldLink RX9 44 "PalaceOfRooms" "planner" "LPalaceOfRooms$Planner;") (by decide +kernel)
  have inX9 : ∀ w ∈ wsX90, w ∈ wsX9_plan := fun w h => List.mem_cons_of_mem _ (List.mem_append_left _ (List.mem_append_left _ (List.mem_append_left _ (List.mem_append_left _ (List.mem_append_right _ h)))))
  have lf212 := hN.use (w := .fieldLinkNest "PalaceOfRooms" 212 "PalaceOfRooms$Planner" "best" "[I" "PalaceOfRooms") (by decide +kernel) ([.ref (a 43), .int n, .int mi, .int wh] : List Value).toArray
  have inX3 : ∀ w ∈ wsX30, w ∈ wsX9_plan := fun w h => List.mem_cons_of_mem _ (List.mem_append_left _ (List.mem_append_left _ (List.mem_append_left _ (List.mem_append_right _ h))))
  have lf209 := hN.use (w := .fieldLinkNest "PalaceOfRooms" 209 "PalaceOfRooms$Planner" "bestStrength" "I" "PalaceOfRooms") (by decide +kernel) ([.ref (a 43), .int n, .int mi, .int wh] : List Value).toArray
  subst hsz
  have hD := hD0.self (sz := s.heap.size)
  generalize hAe : va_A (wsPl cI cZ cQ a rb0 rb1 rb2 db0 db1 db2 min tri bes wkd cos rst bst top str gho ghs pto cro pla wal fal tel gai day mar few doo) s.heap.size = A at hD ⊢
  have hA : ∀ q : Nat, s.heap.size ≤ q → A q := fun q h => by rw [← hAe]; exact Or.inr h
  have hS : va_S A s.heap s.heap [] := va_S.rf
  have hl := lv_entry ([.ref (a 43), .int n, .int mi, .int wh]) (n := 4) (Nat.le_of_ble_eq_true rfl)
  rw [lg_entry_eq]
  generalize (lg_sl ([.ref (a 43), .int n, .int mi, .int wh]) ++ List.replicate (4 - (lg_sl ([.ref (a 43), .int n, .int mi, .int wh])).length) Slot.unset).toArray = ls at hl ⊢
  have hl : lv_has ls 4 [(0, .ref (a 43)), (1, .int n), (2, .int mi), (3, .int wh)] := hl
  refine lv_iload_n hx hb dX9_plan_0 rfl (lv_at hl 1 rfl) ?_
  refine lv_iconst (v := 1) hx hb dX9_plan_1 (by decide) ?_
  refine lv_iconst (v := 4) hx hb dX9_plan_2 (by decide) ?_
  refine rdS (As := [.int n, .int 1, .int 4]) (rest := []) ⟨hx, hb, hml, hown, hts⟩ (k_X9_within l dC dI cI cZ cQ n (1 : Int32) (4 : Int32)) (va_cwS 3 hts gX9_plan_X9_within rfl rfl rfl (by decide +kernel) ⟨Nat.le_of_ble_eq_true rfl, Nat.le_of_ble_eq_true rfl⟩) hP hK hN [] rfl rfl hl.1 rfl (Nat.le_of_ble_eq_true rfl) dX9_plan_3 ⟨Nat.le_of_ble_eq_true rfl, Nat.le_of_ble_eq_true rfl⟩ (fun r1 h2 => ?_)
  have h2 : ((((r1 = 1) ∧ ((1) ≤ n.toInt) ∧ (n.toInt ≤ (4))) ∨ ((r1 = 0) ∧ (n.toInt < (1) ∨ (4) < n.toInt)))) := h2
  rcases h2 with (⟨rfl, h2_a0, h2_a1⟩ | ⟨rfl, h2_a0⟩)
  · refine lv_if_eq (tgt := 32) hx hb dX9_plan_6 (by decide) (fun c9 => absurd c9 (by decide)) (fun _ => ?_)
    refine lv_iload_n hx hb dX9_plan_9 rfl (lv_at hl 3 rfl) ?_
    refine lv_iconst (v := (-1)) hx hb dX9_plan_10 (by decide) ?_
    refine lv_iload_n hx hb dX9_plan_11 rfl (lv_at hl 1 rfl) ?_
    refine lv_iconst (v := 1) hx hb dX9_plan_12 (by decide) ?_
    refine lv_isub hx hb dX9_plan_13 ?_
    have f3 : (n - 1).toInt = (n.toInt) - (1) := subC rfl (show (1 : Int32).toInt = 1 from rfl) (by omega) (by omega)
    refine rdS (As := [.int wh, .int (-1), .int (n - 1)]) (rest := []) ⟨hx, hb, hml, hown, hts⟩ (k_X9_within l dC dI cI cZ cQ wh ((-1) : Int32) (n - 1)) (va_cwS 3 hts gX9_plan_X9_within rfl rfl rfl (by decide +kernel) ⟨Nat.le_of_ble_eq_true rfl, Nat.le_of_ble_eq_true rfl⟩) hP hK hN [] rfl rfl hl.1 rfl (Nat.le_of_ble_eq_true rfl) dX9_plan_14 ⟨Nat.le_of_ble_eq_true rfl, Nat.le_of_ble_eq_true rfl⟩ (fun r4 h5 => ?_)
    have h5 : ((((r4 = 1) ∧ ((-1) ≤ wh.toInt) ∧ (wh.toInt ≤ (n - 1).toInt)) ∨ ((r4 = 0) ∧ (wh.toInt < (-1) ∨ (n - 1).toInt < wh.toInt)))) := h5
    rcases h5 with (⟨rfl, h5_a0, h5_a1⟩ | ⟨rfl, h5_a0⟩)
    · refine lv_if_eq (tgt := 32) hx hb dX9_plan_17 (by decide) (fun c9 => absurd c9 (by decide)) (fun _ => ?_)
      refine lv_aload_n hx hb dX9_plan_20 rfl (lv_at hl 0 rfl) ?_
      refine va_get (D := (dC, dI)) (ci := 9) (v := .ref (a 16)) (C := RX9) (T := TX9) (N := 11) hx hb hts inX9 hown hK hP 0 rfl rfl 4 (by decide) lf44 (fun _ h9 => h9) rfl dX9_plan_21 ?_
      refine lv_iload_n hx hb dX9_plan_24 rfl (lv_at hl 2 rfl) ?_
      refine lv_iload_n hx hb dX9_plan_25 rfl (lv_at hl 1 rfl) ?_
      refine wrV (As := [.int mi, .int n]) (rest := []) (wr := [((a 43), .inr (9, [.ref (a 0), .ref (a 2), .ref (a 4), .ref (a 14), .ref (a 16), .ref (a 23), .ref (a 28), .ref (a 33), .ref (a 42), .ref rb0, .ref db0]))]) (w2 := (fun u : US => (wsPl cI cZ cQ a rb0 rb1 rb2 db0 db1 db2 (u.1 0) tri bes wkd cos rst bst top str gho ghs pto cro pla wal fal tel gai day mar few doo))) ⟨hx, hb, hml, hown, hts⟩ (k_X3_takeMinutes2 l dC dI cI cZ cQ a min tri bes wkd cos rst bst top str gho ghs pto cro pla wal fal tel gai day mar few doo _ mi n r_wkd r_top r_str r_gho r_ghs r_cro r_pla r_fal r_gai r_day r_mar (by omega) (by omega)) (cwV 2 hts gX9_plan_X3_takeMinutes rfl rfl rfl (by decide +kernel) ⟨Nat.le_of_ble_eq_true rfl, Nat.le_of_ble_eq_true rfl⟩) hP hD hS hA hK hN [1, 2, 3, 4, 5, 6, 7, 8, 9, 10, 11, 12, 13, 14, 15, 16, 17, 18, 19, 20, 21] [0] [0, 1, 2, 3, 4, 5, 6, 7, 8, 9, 10, 11, 12, 13, 14, 15, 16, 17, 18, 19, 20, 21] rfl rfl (by decide) (by decide) (by decide) (fun _ => rfl) (by decide) 1 3 rfl rfl rfl hl.1 rfl (Nat.le_of_ble_eq_true rfl) dX9_plan_26 ⟨Nat.le_of_ble_eq_true rfl, Nat.le_of_ble_eq_true rfl⟩ (fun r6 u8 H locs h7 hP hD hS => ?_)
      obtain ⟨min_c9, emin_c9⟩ : ∃ f : Nat → Int32, f = (u8.1 0) := ⟨_, rfl⟩
      have hP : va_P (dC, dI) vwCl (wsPl cI cZ cQ a rb0 rb1 rb2 db0 db1 db2 min_c9 tri bes wkd cos rst bst top str gho ghs pto cro pla wal fal tel gai day mar few doo) H := by rw [emin_c9]; exact hP
      have hD : va_D A (wsPl cI cZ cQ a rb0 rb1 rb2 db0 db1 db2 min_c9 tri bes wkd cos rst bst top str gho ghs pto cro pla wal fal tel gai day mar few doo) := by rw [emin_c9]; exact hD
      have h7 : ((((r6 = 1) ∧ (twI (mnW mi) 99 n.toInt min_c9)) ∨ ((r6 = 0) ∧ (∃ j : Nat, (j : Int) < n.toInt ∧ 99 < (mnW mi j).toInt)))) := by (try rw [emin_c9]); exact h7
      rcases h7 with (⟨rfl, h7_a0⟩ | ⟨rfl, h7_a0⟩)
      · refine lv_if_ne (tgt := 35) hx hb dX9_plan_29 (by decide) (fun _ => ?_) (fun c9 => absurd c9 (by decide))
        refine lv_aload_n hx hb dX9_plan_35 rfl (lv_at hl 0 rfl) ?_
        refine va_get (D := (dC, dI)) (ci := 9) (v := .ref (a 16)) (C := RX9) (T := TX9) (N := 11) hx hb hts inX9 hown hK hP 0 rfl rfl 4 (by decide) lf44 (fun _ h9 => h9) rfl dX9_plan_36 ?_
        refine lv_iload_n hx hb dX9_plan_39 rfl (lv_at hl 1 rfl) ?_
        refine wvV (As := [.int n]) (rest := []) (wr := [((a 43), .inr (9, [.ref (a 0), .ref (a 2), .ref (a 4), .ref (a 14), .ref (a 16), .ref (a 23), .ref (a 28), .ref (a 33), .ref (a 42), .ref rb0, .ref db0]))]) (w2 := (fun u : US => (wsPl cI cZ cQ a rb0 rb1 rb2 db0 db1 db2 min_c9 (u.1 4) (u.1 5) (u.1 2) (u.1 1) (u.1 3) (u.1 6 0) top str gho ghs pto (u.1 0) pla wal fal tel gai day mar few doo))) ⟨hx, hb, hml, hown, hts⟩ (k_X3_findBest2 l dC dI cI cZ cQ a min_c9 tri bes wkd cos rst bst top str gho ghs pto cro pla wal fal tel gai day mar few doo _ n r_wkd r_top r_str r_gho r_ghs r_cro r_pla r_fal r_gai r_day r_mar (by omega) (by omega) (by exact q0)) (cwV 1 hts gX9_plan_X3_findBest rfl rfl rfl (by decide +kernel) ⟨Nat.le_of_ble_eq_true rfl, Nat.le_of_ble_eq_true rfl⟩) hP hD hS hA hK hN [1, 2, 3, 4, 5, 6, 7, 8, 9, 10, 11, 12, 13, 14, 15, 16, 17, 18, 19, 20, 21] [0] [0, 1, 2, 3, 4, 5, 6, 7, 8, 9, 10, 11, 12, 13, 14, 15, 16, 17, 18, 19, 20, 21] rfl rfl (by decide) (by decide) (by decide) (fun _ => rfl) (by decide) 1 3 rfl rfl rfl hl.1 rfl (Nat.le_of_ble_eq_true rfl) dX9_plan_40 ⟨Nat.le_of_ble_eq_true rfl, Nat.le_of_ble_eq_true rfl⟩ (fun u12 H locs h11 hP hD hS => ?_)
        obtain ⟨cro_c13, ecro_c13⟩ : ∃ f : Nat → Int32, f = (u12.1 0) := ⟨_, rfl⟩
        obtain ⟨cos_c14, ecos_c14⟩ : ∃ f : Nat → Int32, f = (u12.1 1) := ⟨_, rfl⟩
        obtain ⟨wkd_c15, ewkd_c15⟩ : ∃ f : Nat → Int32, f = (u12.1 2) := ⟨_, rfl⟩
        obtain ⟨rst_c16, erst_c16⟩ : ∃ f : Nat → Int32, f = (u12.1 3) := ⟨_, rfl⟩
        obtain ⟨tri_c17, etri_c17⟩ : ∃ f : Nat → Int32, f = (u12.1 4) := ⟨_, rfl⟩
        obtain ⟨bes_c18, ebes_c18⟩ : ∃ f : Nat → Int32, f = (u12.1 5) := ⟨_, rfl⟩
        obtain ⟨bst_c19, ebst_c19⟩ : ∃ f : Int32, f = (u12.1 6 0) := ⟨_, rfl⟩
        have hP : va_P (dC, dI) vwCl (wsPl cI cZ cQ a rb0 rb1 rb2 db0 db1 db2 min_c9 tri_c17 bes_c18 wkd_c15 cos_c14 rst_c16 bst_c19 top str gho ghs pto cro_c13 pla wal fal tel gai day mar few doo) H := by rw [ecro_c13, ecos_c14, ewkd_c15, erst_c16, etri_c17, ebes_c18, ebst_c19]; exact hP
        have hD : va_D A (wsPl cI cZ cQ a rb0 rb1 rb2 db0 db1 db2 min_c9 tri_c17 bes_c18 wkd_c15 cos_c14 rst_c16 bst_c19 top str gho ghs pto cro_c13 pla wal fal tel gai day mar few doo) := by rw [ecro_c13, ecos_c14, ewkd_c15, erst_c16, etri_c17, ebes_c18, ebst_c19]; exact hD
        have h11 : (∀ j : Nat, j < 8 → coC few top (nI j) (cos_c14 j)) ∧ (pbI (okC cos_c14 min_c9 n.toInt.toNat) (vlC mar fal top str tel gai.toInt n.toInt.toNat) n.toInt.toNat (9 ^ n.toInt.toNat) bst_c19.toInt bes_c18) ∧ (rg 48 (0) (6) cro_c13) ∧ (rg 8 (0) (15) wkd_c15) := by (try rw [ecro_c13]); (try rw [ecos_c14]); (try rw [ewkd_c15]); (try rw [erst_c16]); (try rw [etri_c17]); (try rw [ebes_c18]); (try rw [ebst_c19]); exact h11
        obtain ⟨h11_0, h11_1, h11_2, h11_3⟩ := h11
        refine lv_iload_n hx hb dX9_plan_43 rfl (lv_at hl 3 rfl) ?_
        refine lv_if_ge (tgt := 57) hx hb dX9_plan_44 (by decide) (fun c20 => ?_) (fun c20 => ?_)
        · have dc20 : 0 ≤ wh.toInt := leC (show (0 : Int32).toInt = 0 from rfl) rfl c20
          refine lv_aload_n hx hb dX9_plan_57 rfl (lv_at hl 0 rfl) ?_
          refine va_get (D := (dC, dI)) (ci := 9) (v := .ref (a 16)) (C := RX9) (T := TX9) (N := 11) hx hb hts inX9 hown hK hP 0 rfl rfl 4 (by decide) lf44 (fun _ h9 => h9) rfl dX9_plan_58 ?_
          refine va_getN (D := (dC, dI)) (ci := 3) (v := .ref (a 19)) (C := RX3) (T := TX3) (N := 9) hx hb hts inX3 hown hK hP 1 rfl rfl 4 (by decide) lf212 (fun _ h9 => h9) rfl dX9_plan_61 ?_
          refine lv_iload_n hx hb dX9_plan_64 rfl (lv_at hl 3 rfl) ?_
          have b21 : vp_in wh 4 := inC rfl (by omega) (by omega)
          refine va_iald hx hb hK hP 4 0 rfl rfl b21 dX9_plan_65 ?_
          exact W.iret (v := bes_c18 wh.toNatClampNeg) hx hb hr (fun tq ht hW => ⟨⟨bes_c18 wh.toNatClampNeg, (uS [min_c9, cro_c13, cos_c14, wkd_c15, rst_c16, tri_c17, bes_c18, (fun _ => bst_c19)] 0 (fun _ => 0)), rfl, ⟨(show spPlnC few mar fal top str tel gai.toInt n mi wh (bes_c18 wh.toNatClampNeg) from by (first | exact Or.inl ⟨Or.inl (by omega), rfl⟩ | exact Or.inl ⟨Or.inr (Or.inl (by omega)), rfl⟩ | exact Or.inl ⟨Or.inr (Or.inr (by assumption)), rfl⟩ | exact pl_cE ⟨by omega, by omega⟩ ⟨by omega, by omega⟩ (by assumption) (by assumption) (by assumption) (an_s (by omega)) | exact pl_cE ⟨by omega, by omega⟩ ⟨by omega, by omega⟩ (by assumption) (by assumption) (by assumption) (an_b (by omega) (by first | rfl | assumption)))), h11_2, h11_3⟩, by rw [ht]; exact hP, hD⟩, hS.F ht⟩) hS.2.2 dX9_plan_66
        · have dc20 : wh.toInt < 0 := nleC (show (0 : Int32).toInt = 0 from rfl) rfl c20
          refine lv_aload_n hx hb dX9_plan_47 rfl (lv_at hl 0 rfl) ?_
          refine va_get (D := (dC, dI)) (ci := 9) (v := .ref (a 16)) (C := RX9) (T := TX9) (N := 11) hx hb hts inX9 hown hK hP 0 rfl rfl 4 (by decide) lf44 (fun _ h9 => h9) rfl dX9_plan_48 ?_
          refine va_getN (D := (dC, dI)) (ci := 3) (v := .int bst_c19) (C := RX3) (T := TX3) (N := 9) hx hb hts inX3 hown hK hP 1 rfl rfl 8 (by decide) lf209 (fun _ h9 => h9) rfl dX9_plan_51 ?_
          refine lv_goto (tgt := 66) hx hb dX9_plan_54 (by decide) ?_
          exact W.iret (v := bst_c19) hx hb hr (fun tq ht hW => ⟨⟨bst_c19, (uS [min_c9, cro_c13, cos_c14, wkd_c15, rst_c16, tri_c17, bes_c18, (fun _ => bst_c19)] 0 (fun _ => 0)), rfl, ⟨(show spPlnC few mar fal top str tel gai.toInt n mi wh bst_c19 from by (first | exact Or.inl ⟨Or.inl (by omega), rfl⟩ | exact Or.inl ⟨Or.inr (Or.inl (by omega)), rfl⟩ | exact Or.inl ⟨Or.inr (Or.inr (by assumption)), rfl⟩ | exact pl_cE ⟨by omega, by omega⟩ ⟨by omega, by omega⟩ (by assumption) (by assumption) (by assumption) (an_s (by omega)) | exact pl_cE ⟨by omega, by omega⟩ ⟨by omega, by omega⟩ (by assumption) (by assumption) (by assumption) (an_b (by omega) (by first | rfl | assumption)))), h11_2, h11_3⟩, by rw [ht]; exact hP, hD⟩, hS.F ht⟩) hS.2.2 dX9_plan_66
      · refine lv_if_ne (tgt := 35) hx hb dX9_plan_29 (by decide) (fun c9 => absurd (by decide) c9) (fun _ => ?_)
        refine lv_bipush (v := (-3)) hx hb dX9_plan_32 (by decide) ?_
        exact W.iret (v := (-3)) hx hb hr (fun tq ht hW => ⟨⟨(-3), (uS [min_c9, cro, cos, wkd, rst, tri, bes, (fun _ => bst)] 0 (fun _ => 0)), rfl, ⟨(show spPlnC few mar fal top str tel gai.toInt n mi wh ((-3) : Int32) from by (try rw [show ((-3) : Int32).toInt = (-3) from (show ((-3) : Int32).toInt = (-3) from rfl)]); (first | exact Or.inl ⟨Or.inl (by omega), rfl⟩ | exact Or.inl ⟨Or.inr (Or.inl (by omega)), rfl⟩ | exact Or.inl ⟨Or.inr (Or.inr (by assumption)), rfl⟩ | exact pl_cE ⟨by omega, by omega⟩ ⟨by omega, by omega⟩ (by assumption) (by assumption) (by assumption) (an_s (by omega)) | exact pl_cE ⟨by omega, by omega⟩ ⟨by omega, by omega⟩ (by assumption) (by assumption) (by assumption) (an_b (by omega) (by first | rfl | assumption)))), r_cro, r_wkd⟩, by rw [ht]; exact hP, hD⟩, hS.F ht⟩) hS.2.2 dX9_plan_34
    · refine lv_if_eq (tgt := 32) hx hb dX9_plan_17 (by decide) (fun _ => ?_) (fun c9 => absurd (by decide) c9)
      refine lv_bipush (v := (-3)) hx hb dX9_plan_32 (by decide) ?_
      exact W.iret (v := (-3)) hx hb hr (fun tq ht hW => ⟨⟨(-3), (uS [min, cro, cos, wkd, rst, tri, bes, (fun _ => bst)] 0 (fun _ => 0)), rfl, ⟨(show spPlnC few mar fal top str tel gai.toInt n mi wh ((-3) : Int32) from by (try rw [show ((-3) : Int32).toInt = (-3) from (show ((-3) : Int32).toInt = (-3) from rfl)]); (first | exact Or.inl ⟨Or.inl (by omega), rfl⟩ | exact Or.inl ⟨Or.inr (Or.inl (by omega)), rfl⟩ | exact Or.inl ⟨Or.inr (Or.inr (by assumption)), rfl⟩ | exact pl_cE ⟨by omega, by omega⟩ ⟨by omega, by omega⟩ (by assumption) (by assumption) (by assumption) (an_s (by omega)) | exact pl_cE ⟨by omega, by omega⟩ ⟨by omega, by omega⟩ (by assumption) (by assumption) (by assumption) (an_b (by omega) (by first | rfl | assumption)))), r_cro, r_wkd⟩, by rw [ht]; exact hP, hD⟩, hS.F ht⟩) hS.2.2 dX9_plan_34
  · refine lv_if_eq (tgt := 32) hx hb dX9_plan_6 (by decide) (fun _ => ?_) (fun c9 => absurd (by decide) c9)
    refine lv_bipush (v := (-3)) hx hb dX9_plan_32 (by decide) ?_
    exact W.iret (v := (-3)) hx hb hr (fun tq ht hW => ⟨⟨(-3), (uS [min, cro, cos, wkd, rst, tri, bes, (fun _ => bst)] 0 (fun _ => 0)), rfl, ⟨(show spPlnC few mar fal top str tel gai.toInt n mi wh ((-3) : Int32) from by (try rw [show ((-3) : Int32).toInt = (-3) from (show ((-3) : Int32).toInt = (-3) from rfl)]); (first | exact Or.inl ⟨Or.inl (by omega), rfl⟩ | exact Or.inl ⟨Or.inr (Or.inl (by omega)), rfl⟩ | exact Or.inl ⟨Or.inr (Or.inr (by assumption)), rfl⟩ | exact pl_cE ⟨by omega, by omega⟩ ⟨by omega, by omega⟩ (by assumption) (by assumption) (by assumption) (an_s (by omega)) | exact pl_cE ⟨by omega, by omega⟩ ⟨by omega, by omega⟩ (by assumption) (by assumption) (by assumption) (an_b (by omega) (by first | rfl | assumption)))), r_cro, r_wkd⟩, by rw [ht]; exact hP, hD⟩, hS.F ht⟩) hS.2.2 dX9_plan_34

