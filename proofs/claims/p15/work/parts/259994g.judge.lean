set_option maxHeartbeats 4000000 in
set_option maxRecDepth 100000 in
theorem k_X3_strengthBehindTrial2 (l : Launch) (dC : Nat → ClassId) (dI : Nat → Nat → Nat) (cI cZ cQ : ClassId) (a : Nat → Nat) (min : Nat → Int32) (tri : Nat → Int32) (bes : Nat → Int32) (wkd : Nat → Int32) (cos : Nat → Int32) (rst : Nat → Int32) (bst : Int32) (top : Nat → Int32) (str : Nat → Int32) (gho : Nat → Int32) (ghs : Nat → Int32) (pto : Nat → Int32) (cro : Nat → Int32) (pla : Nat → Int32) (wal : Nat → Int32) (fal : Nat → Int32) (tel : Int32) (gai : Int32) (day : Int32) (mar : Nat → Int32) (few : Nat → Int32) (doo : Int32) (sz : Nat) (n : Int32) (r_wkd : rg 8 (0) (15) wkd) (r_top : rg 48 (-1) (23) top) (r_str : rg 48 (0) (100) str) (r_gho : rg 48 (-1) (23) gho) (r_ghs : rg 48 (0) (100) ghs) (r_cro : rg 48 (0) (6) cro) (r_pla : rg 24 (-1) (47) pla) (r_fal : rg 11 (0) (30) fal) (r_gai : 0 ≤ gai.toInt ∧ gai.toInt ≤ 100) (r_day : 0 ≤ day.toInt ∧ day.toInt ≤ 400) (r_mar : rg 24 (0) (255) mar) (q0 : 1 ≤ n.toInt) (q1 : n.toInt ≤ 4) (q2 : mtOK few) (q3 : ∀ j : Nat, (j : Int) < n.toInt → 0 ≤ (tri j).toInt ∧ (tri j).toInt ≤ 8) : KW l yX3_strengthBehindTrial wsX3_strengthBehindTrial { frames := 6, cells := 0, slots := 0, locals := 130 } (dC, dI) (TY cI cZ cQ) (wPln cI cZ cQ a min tri bes wkd cos rst bst top str gho ghs pto cro pla wal fal tel gai day mar few doo) [.ref (a 16), .int n] sz 0 0 (fun (r : Int32) (u : US) => (jdC mar fal top str tel gai.toInt tri min (u.1 1) n.toInt r) ∧ (∀ j : Nat, j < 8 → coC few top (nI j) ((u.1 1) j)) ∧ (rg 48 (0) (6) (u.1 0)) ∧ (rg 8 (0) (15) (u.1 2))) (fun u : US => (wPln cI cZ cQ a min tri bes (u.1 2) (u.1 1) rst bst top str gho ghs pto (u.1 0) pla wal fal tel gai day mar few doo)) := by
  refine Met.ofW (cc := cX3_strengthBehindTrial) (maxL := 4) (ret := (some .int)) (by decide) rfl ?_
  intro p e s m args below meth c s₁ B hml hv
  obtain ⟨rfl, hsz, hP, hK, hD0, hN⟩ := hv
  have hx := B.exec
  have hb := B.bytes
  have hr := B.returns
  have hts := atoms_spec (ws := wsX3_strengthBehindTrial) B.pre
  have hown : s.vm.findClass RX3 = some m.cls := findClass_of_methodNamed B.named
  have hlocks := B.notSynchronized
  have lf21 := hts (.fieldLink RX3 21 "PalaceOfRooms$Planner" "walkedDays" "[I") (List.mem_cons_of_mem _ (List.mem_append_left _ (List.mem_append_left _ (List.mem_append_left _ (List.mem_append_left _ (List.mem_append_left _ (List.mem_of_getElem? (i := 1) rfl)))))))
  have inX3 : ∀ w ∈ wsX30, w ∈ wsX3_strengthBehindTrial := fun w h => List.mem_cons_of_mem _ (List.mem_append_left _ (List.mem_append_left _ (List.mem_append_left _ (List.mem_append_right _ h))))
  have lf15 := hts (.fieldLink RX3 15 "PalaceOfRooms$Planner" "trial" "[I") (List.mem_cons_of_mem _ (List.mem_append_left _ (List.mem_append_left _ (List.mem_append_left _ (List.mem_append_left _ (List.mem_append_left _ (List.mem_of_getElem? (i := 0) rfl)))))))
  subst hsz
  have hD := hD0.self (sz := s.heap.size)
  generalize hAe : va_A (wPln cI cZ cQ a min tri bes wkd cos rst bst top str gho ghs pto cro pla wal fal tel gai day mar few doo) s.heap.size = A at hD ⊢
  have hA : ∀ q : Nat, s.heap.size ≤ q → A q := fun q h => by rw [← hAe]; exact Or.inr h
  have hS : va_S A s.heap s.heap [] := va_S.rf
  have hl := lv_entry ([.ref (a 16), .int n]) (n := 4) (Nat.le_of_ble_eq_true rfl)
  rw [lg_entry_eq]
  generalize (lg_sl ([.ref (a 16), .int n]) ++ List.replicate (4 - (lg_sl ([.ref (a 16), .int n])).length) Slot.unset).toArray = ls at hl ⊢
  have hl : lv_has ls 4 [(0, .ref (a 16)), (1, .int n)] := hl
  refine lv_aload_n hx hb dX3_strengthBehindTrial_0 rfl (lv_at hl 0 rfl) ?_
  refine wvV (As := []) (rest := []) (wr := []) (w2 := (fun u : US => (wPln cI cZ cQ a min tri bes (u.1 2) (u.1 1) rst bst top str gho ghs pto (u.1 0) pla wal fal tel gai day mar few doo))) ⟨hx, hb, hml, hown, hts⟩ (k_X3_prepare2 l dC dI cI cZ cQ a min tri bes wkd cos rst bst top str gho ghs pto cro pla wal fal tel gai day mar few doo _ r_wkd r_top r_str r_gho r_ghs r_cro r_pla r_fal r_gai r_day r_mar (by exact q2)) (cwV 0 hts gX3_strengthBehindTrial_X3_prepare rfl rfl rfl (by decide +kernel) ⟨Nat.le_of_ble_eq_true rfl, Nat.le_of_ble_eq_true rfl⟩) hP hD hS hA hK hN [0, 1, 2, 3, 4, 5, 6, 7, 8, 9, 10, 11, 12, 13, 14, 15, 16, 17, 18, 19, 20] [] [0, 1, 2, 3, 4, 5, 6, 7, 8, 9, 10, 11, 12, 13, 14, 15, 16, 17, 18, 19, 20] rfl rfl (by decide) (by decide) (by decide) (fun _ => rfl) (by decide) 0 3 rfl rfl rfl hl.1 rfl (Nat.le_of_ble_eq_true rfl) dX3_strengthBehindTrial_1 ⟨Nat.le_of_ble_eq_true rfl, Nat.le_of_ble_eq_true rfl⟩ (fun u3 H locs h2 hP hD hS => ?_)
  obtain ⟨cro_c4, ecro_c4⟩ : ∃ f : Nat → Int32, f = (u3.1 0) := ⟨_, rfl⟩
  obtain ⟨cos_c5, ecos_c5⟩ : ∃ f : Nat → Int32, f = (u3.1 1) := ⟨_, rfl⟩
  obtain ⟨wkd_c6, ewkd_c6⟩ : ∃ f : Nat → Int32, f = (u3.1 2) := ⟨_, rfl⟩
  have hP : va_P (dC, dI) vwCl (wPln cI cZ cQ a min tri bes wkd_c6 cos_c5 rst bst top str gho ghs pto cro_c4 pla wal fal tel gai day mar few doo) H := by rw [ecro_c4, ecos_c5, ewkd_c6]; exact hP
  have hD : va_D A (wPln cI cZ cQ a min tri bes wkd_c6 cos_c5 rst bst top str gho ghs pto cro_c4 pla wal fal tel gai day mar few doo) := by rw [ecro_c4, ecos_c5, ewkd_c6]; exact hD
  have h2 : (∀ j : Nat, j < 48 → (cro_c4 j).toInt = cwF mar top tel j (j - j % 6) 6) ∧ (prI few top 8 cos_c5 wkd_c6) ∧ (rg 48 (0) (6) cro_c4) ∧ (rg 8 (0) (15) wkd_c6) := by (try rw [ecro_c4]); (try rw [ecos_c5]); (try rw [ewkd_c6]); exact h2
  obtain ⟨h2_0, h2_1, h2_2, h2_3⟩ := h2
  refine lv_iconst (v := 0) hx hb dX3_strengthBehindTrial_4 (by decide) ?_
  refine lv_istore_n (lv' := [(2, .int 0), (0, .ref (a 16)), (1, .int n)]) hx hb dX3_strengthBehindTrial_5 rfl hl (by decide) rfl (fun ls hl => ?_)
  have L6 : ∀ (nn : Nat) (y6_2 : Int32) (wkd_6 : Nat → Int32) (H : Heap) (locs : List Loc) (ls : Array Slot), (rg 8 (0) (15) wkd_6) → (0 ≤ (y6_2.toInt)) → ((y6_2.toInt) ≤ 4) → (wdI tri wkd_6 (y6_2.toInt)) → (wkA tri min cos_c5 (y6_2.toInt)) → ((y6_2.toInt) ≤ n.toInt) → (4 - (y6_2.toInt)).toNat < nn → va_P (dC, dI) vwCl (wPln cI cZ cQ a min tri bes wkd_6 cos_c5 rst bst top str gho ghs pto cro_c4 pla wal fal tel gai day mar few doo) H → va_D A (wPln cI cZ cQ a min tri bes wkd_6 cos_c5 rst bst top str gho ghs pto cro_c4 pla wal fal tel gai day mar few doo) → va_S A s.heap H locs → lv_has ls 4 [(0, .ref (a 16)), (1, .int n), (2, .int y6_2)] → W p l e (headSpec wsX3_strengthBehindTrial { frames := 6, cells := 0, slots := 0, locals := 130 }).room s m ([.ref (a 16), .int n] : List Value).toArray below meth c H locs 0 0 (MQ below (va_Qi (fun (r : Int32) (u : US) => (jdC mar fal top str tel gai.toInt tri min (u.1 1) n.toInt r) ∧ (∀ j : Nat, j < 8 → coC few top (nI j) ((u.1 1) j)) ∧ (rg 48 (0) (6) (u.1 0)) ∧ (rg 8 (0) (15) (u.1 2))) (Bw (dC, dI) A (fun u : US => (wPln cI cZ cQ a min tri bes (u.1 2) (u.1 1) rst bst top str gho ghs pto (u.1 0) pla wal fal tel gai day mar few doo))) A) ([.ref (a 16), .int n] : List Value).toArray s 0 0 A) (F0 m 6 ls []) := by
    intro nn
    induction nn with
    | zero =>
      intro y6_2 wkd_6 H locs ls r_wkd_6 i6_0 i6_1 i6_2 i6_3 i6_4 hm6
      exact absurd hm6 (Nat.not_lt_zero _)
    | succ nn ih6 =>
      intro y6_2 wkd_6 H locs ls r_wkd_6 i6_0 i6_1 i6_2 i6_3 i6_4 hm6 hP hD hS hl
      refine lv_iload_n hx hb dX3_strengthBehindTrial_6 rfl (lv_at hl 2 rfl) ?_
      refine lv_iload_n hx hb dX3_strengthBehindTrial_7 rfl (lv_at hl 1 rfl) ?_
      refine lv_icmp_ge (tgt := 54) hx hb dX3_strengthBehindTrial_8 (by decide) (fun c7 => ?_) (fun c7 => ?_)
      · have dc7 : n.toInt ≤ y6_2.toInt := leC rfl rfl c7
        refine lv_iconst (v := 0) hx hb dX3_strengthBehindTrial_54 (by decide) ?_
        refine lv_istore_n (lv' := [(2, .int 0), (0, .ref (a 16)), (1, .int n)]) hx hb dX3_strengthBehindTrial_55 rfl hl (by decide) rfl (fun ls hl => ?_)
        refine lv_iconst (v := 0) hx hb dX3_strengthBehindTrial_56 (by decide) ?_
        refine lv_istore_n (lv' := [(3, .int 0), (2, .int 0), (0, .ref (a 16)), (1, .int n)]) hx hb dX3_strengthBehindTrial_57 rfl hl (by decide) rfl (fun ls hl => ?_)
        have L58 : ∀ (nn : Nat) (y58_2 : Int32) (y58_3 : Int32) (H : Heap) (locs : List Loc) (ls : Array Slot), (0 ≤ (y58_3.toInt)) → ((y58_3.toInt) ≤ 8) → (0 ≤ (y58_2.toInt)) → ((y58_2.toInt) ≤ 4800) → ((y58_2.toInt) ≤ 600 * (y58_3.toInt)) → ((y58_2.toInt) = srF top (plU mar fal top str tel gai.toInt tri n.toInt.toNat) 0 (6 * (y58_3.toInt)).toNat) → (8 - (y58_3.toInt)).toNat < nn → va_P (dC, dI) vwCl (wPln cI cZ cQ a min tri bes wkd_6 cos_c5 rst bst top str gho ghs pto cro_c4 pla wal fal tel gai day mar few doo) H → va_D A (wPln cI cZ cQ a min tri bes wkd_6 cos_c5 rst bst top str gho ghs pto cro_c4 pla wal fal tel gai day mar few doo) → va_S A s.heap H locs → lv_has ls 4 [(0, .ref (a 16)), (1, .int n), (2, .int y58_2), (3, .int y58_3)] → W p l e (headSpec wsX3_strengthBehindTrial { frames := 6, cells := 0, slots := 0, locals := 130 }).room s m ([.ref (a 16), .int n] : List Value).toArray below meth c H locs 0 0 (MQ below (va_Qi (fun (r : Int32) (u : US) => (jdC mar fal top str tel gai.toInt tri min (u.1 1) n.toInt r) ∧ (∀ j : Nat, j < 8 → coC few top (nI j) ((u.1 1) j)) ∧ (rg 48 (0) (6) (u.1 0)) ∧ (rg 8 (0) (15) (u.1 2))) (Bw (dC, dI) A (fun u : US => (wPln cI cZ cQ a min tri bes (u.1 2) (u.1 1) rst bst top str gho ghs pto (u.1 0) pla wal fal tel gai day mar few doo))) A) ([.ref (a 16), .int n] : List Value).toArray s 0 0 A) (F0 m 58 ls []) := by
          intro nn
          induction nn with
          | zero =>
            intro y58_2 y58_3 H locs ls i58_0 i58_1 i58_2 i58_3 i58_4 i58_5 hm58
            exact absurd hm58 (Nat.not_lt_zero _)
          | succ nn ih58 =>
            intro y58_2 y58_3 H locs ls i58_0 i58_1 i58_2 i58_3 i58_4 i58_5 hm58 hP hD hS hl
            refine lv_iload_n hx hb dX3_strengthBehindTrial_58 rfl (lv_at hl 3 rfl) ?_
            refine lv_bipush (v := 8) hx hb dX3_strengthBehindTrial_59 (by decide) ?_
            refine lv_icmp_ge (tgt := 85) hx hb dX3_strengthBehindTrial_61 (by decide) (fun c8 => ?_) (fun c8 => ?_)
            · have dc8 : 8 ≤ y58_3.toInt := leC (show (8 : Int32).toInt = 8 from rfl) rfl c8
              refine lv_iload_n hx hb dX3_strengthBehindTrial_85 rfl (lv_at hl 2 rfl) ?_
              exact W.iret (v := y58_2) hx hb hr (fun tq ht hW => ⟨⟨y58_2, (uS [cro_c4, cos_c5, wkd_6] 0 (fun _ => 0)), rfl, ⟨(show jdC mar fal top str tel gai.toInt tri min cos_c5 n.toInt y58_2 from by (first | exact jd_n (by assumption) (by omega) (by assumption) (by omega) (by omega) | exact Or.inr ⟨wa_c i6_3 (by omega), sr_e i58_5 rfl (by omega)⟩)), (show ∀ j : Nat, j < 8 → coC few top (nI j) (cos_c5 j) from by exact pr_co (by assumption)), h2_2, r_wkd_6⟩, by rw [ht]; exact hP, hD⟩, hS.F ht⟩) hS.2.2 dX3_strengthBehindTrial_86
            · have dc8 : y58_3.toInt < 8 := nleC (show (8 : Int32).toInt = 8 from rfl) rfl c8
              refine lv_iload_n hx hb dX3_strengthBehindTrial_64 rfl (lv_at hl 2 rfl) ?_
              refine lv_aload_n hx hb dX3_strengthBehindTrial_65 rfl (lv_at hl 0 rfl) ?_
              refine lv_iload_n hx hb dX3_strengthBehindTrial_66 rfl (lv_at hl 3 rfl) ?_
              refine lv_iload_n hx hb dX3_strengthBehindTrial_67 rfl (lv_at hl 1 rfl) ?_
              refine lv_aload_n hx hb dX3_strengthBehindTrial_68 rfl (lv_at hl 0 rfl) ?_
              refine va_get (D := (dC, dI)) (ci := 3) (v := .ref (a 20)) (C := RX3) (T := TX3) (N := 9) hx hb hts inX3 hown hK hP 0 rfl rfl 5 (by decide) lf21 (fun _ h9 => h9) rfl dX3_strengthBehindTrial_69 ?_
              refine lv_iload_n hx hb dX3_strengthBehindTrial_72 rfl (lv_at hl 3 rfl) ?_
              have b9 : vp_in y58_3 8 := inC rfl (by omega) (by omega)
              refine va_iald hx hb hK hP 4 0 rfl rfl b9 dX3_strengthBehindTrial_73 ?_
              have g10 : 0 ≤ (wkd_6 y58_3.toNatClampNeg).toInt ∧ (wkd_6 y58_3.toNatClampNeg).toInt ≤ 15 := rg_at r_wkd_6 b9
              refine rdV (As := [.int y58_3, .int n, .int (wkd_6 y58_3.toNatClampNeg)]) (rest := [.int y58_2]) ⟨hx, hb, hml, hown, hts⟩ (k_X3_strengthOfRoom2 l dC dI cI cZ cQ a min tri bes wkd_6 cos_c5 rst bst top str gho ghs pto cro_c4 pla wal fal tel gai day mar few doo y58_3 n (wkd_6 y58_3.toNatClampNeg) r_wkd_6 r_top r_str r_gho r_ghs h2_2 r_pla r_fal r_gai r_day r_mar (by omega) (by omega) (by omega) (by omega)) (cwV 3 hts gX3_strengthBehindTrial_X3_strengthOfRoom rfl rfl rfl (by decide +kernel) ⟨Nat.le_of_ble_eq_true rfl, Nat.le_of_ble_eq_true rfl⟩) hP hK hN [0, 1, 2, 3, 4, 5, 6, 7, 8, 9, 10, 11, 12, 13, 14, 15, 16, 17, 18, 19, 20] rfl 0 3 rfl rfl rfl hl.1 rfl (Nat.le_of_ble_eq_true rfl) dX3_strengthBehindTrial_74 ⟨Nat.le_of_ble_eq_true rfl, Nat.le_of_ble_eq_true rfl⟩ (fun r11 h12 => ?_)
              have h12 : (0 ≤ r11.toInt) ∧ (r11.toInt ≤ 600) ∧ (r11.toInt = srF top (fun c => svF fal (cro_c4 c).toInt gai.toInt (bitW (wkd_6 y58_3.toNatClampNeg)) (str c).toInt n.toInt.toNat) (y58_3.toInt * 6).toNat 6) := h12
              obtain ⟨h12_0, h12_1, h12_2⟩ := h12
              refine lv_iadd hx hb dX3_strengthBehindTrial_77 ?_
              have f13 : (y58_2 + r11).toInt = (y58_2.toInt) + (r11.toInt) := addC rfl rfl (by omega) (by omega)
              refine lv_topi (fun x14 ex14 => ?_)
              have ix14 : x14.toInt = (y58_2.toInt) + (r11.toInt) := by rw [ex14]; exact f13
              refine lv_istore_n (lv' := [(2, .int x14), (0, .ref (a 16)), (1, .int n), (3, .int y58_3)]) hx hb dX3_strengthBehindTrial_78 rfl hl (by decide) rfl (fun ls hl => ?_)
              obtain ⟨z15, ez15⟩ : ∃ y : Int32, y = y58_3 + 1 := ⟨_, rfl⟩
              have iz15 : z15.toInt = y58_3.toInt + 1 := by rw [ez15]; exact addC rfl rfl (by omega) (by omega)
              refine lv_iinc (v := z15) (lv' := [(3, .int z15), (2, .int x14), (0, .ref (a 16)), (1, .int n)]) hx hb dX3_strengthBehindTrial_79 hl (k := 3) rfl (by rw [ez15]; rfl) (by decide) rfl (fun ls hl => ?_)
              refine lv_goto (tgt := 58) hx hb dX3_strengthBehindTrial_82 (by decide) ?_
              exact ih58 x14 z15 _ _ _ (by omega) (by omega) (by omega) (by omega) (by omega) (by (first | exact jd_sum (y := y58_3) i58_5 (by assumption) (by assumption) (wd_c i6_2 (by omega)) (by omega) (by omega) (by omega) (by omega) (by omega) (by omega) | exact sr_0 (by first | rfl | omega) (by first | rfl | omega))) (by omega) hP hD hS (lv_sub hl [2, 3, 1, 0] rfl)
        have kc16 : (0 : Int32).toInt = 0 := rfl
        exact L58 _ 0 0 _ _ _ (by omega) (by omega) (by omega) (by omega) (by omega) (by (first | exact jd_sum (y := y58_3) i58_5 (by assumption) (by assumption) (wd_c i6_2 (by omega)) (by omega) (by omega) (by omega) (by omega) (by omega) (by omega) | exact sr_0 (by first | rfl | omega) (by first | rfl | omega))) (Nat.lt_succ_self _) hP hD hS (lv_sub hl [2, 3, 1, 0] rfl)
      · have dc7 : y6_2.toInt < n.toInt := nleC rfl rfl c7
        have wtri := q3 y6_2.toNatClampNeg (by rw [clC (x := y6_2) rfl]; omega)
        refine lv_aload_n hx hb dX3_strengthBehindTrial_11 rfl (lv_at hl 0 rfl) ?_
        refine va_get (D := (dC, dI)) (ci := 3) (v := .ref (a 18)) (C := RX3) (T := TX3) (N := 9) hx hb hts inX3 hown hK hP 0 rfl rfl 3 (by decide) lf15 (fun _ h9 => h9) rfl dX3_strengthBehindTrial_12 ?_
        refine lv_iload_n hx hb dX3_strengthBehindTrial_15 rfl (lv_at hl 2 rfl) ?_
        have b17 : vp_in y6_2 4 := inC rfl (by omega) (by omega)
        refine va_iald hx hb hK hP 2 0 rfl rfl b17 dX3_strengthBehindTrial_16 ?_
        refine lv_topi (fun x18 ex18 => ?_)
        have ix18 : x18.toInt = (tri y6_2.toNatClampNeg).toInt := by rw [ex18]
        refine lv_istore_n (lv' := [(3, .int x18), (0, .ref (a 16)), (1, .int n), (2, .int y6_2)]) hx hb dX3_strengthBehindTrial_17 rfl hl (by decide) rfl (fun ls hl => ?_)
        refine lv_iload_n hx hb dX3_strengthBehindTrial_18 rfl (lv_at hl 0 rfl) ?_
        refine rdSN (As := [.int x18]) (rest := []) ⟨hx, hb, hml, hown, hts⟩ (k_X9_isRoom l dC dI cI cZ cQ x18) ⟨va_cnB (host := "PalaceOfRooms") 1 hts gX3_strengthBehindTrial_X9_isRoom_n53 rfl rfl rfl (hN _ (by decide +kernel)) (hts (.initialized RX9) (List.mem_cons_of_mem _ (List.mem_append_left _ (List.mem_append_left _ (List.mem_append_left _ (List.mem_append_left _ (List.mem_append_right _ (List.mem_append_right _ (List.mem_append_left _ (List.mem_of_getElem? (i := 7) rfl)))))))))) (by decide +kernel) ⟨Nat.le_of_ble_eq_true rfl, Nat.le_of_ble_eq_true rfl⟩, hts (.static yX9_isRoom) (List.mem_cons_of_mem _ (List.mem_append_left _ (List.mem_append_left _ (List.mem_append_left _ (List.mem_append_left _ (List.mem_append_right _ (List.mem_append_right _ (List.mem_append_left _ (List.mem_of_getElem? (i := 6) rfl))))))))), trivial⟩ hP hK hN [] rfl rfl hl.1 rfl (Nat.le_of_ble_eq_true rfl) dX3_strengthBehindTrial_19 ⟨Nat.le_of_ble_eq_true rfl, Nat.le_of_ble_eq_true rfl⟩ (fun r19 h20 => ?_)
        have h20 : ((((r19 = 1) ∧ (0 ≤ x18.toInt) ∧ (x18.toInt ≤ 7)) ∨ ((r19 = 0) ∧ (x18.toInt < 0 ∨ 7 < x18.toInt)))) := h20
        rcases h20 with (⟨rfl, h20_a0, h20_a1⟩ | ⟨rfl, h20_a0⟩)
        · refine lv_if_eq (tgt := 48) hx hb dX3_strengthBehindTrial_22 (by decide) (fun c9 => absurd c9 (by decide)) (fun _ => ?_)
          refine lv_aload_n hx hb dX3_strengthBehindTrial_25 rfl (lv_at hl 1 rfl) ?_
          refine lv_iload_n hx hb dX3_strengthBehindTrial_26 rfl (lv_at hl 0 rfl) ?_
          refine lv_iload_n hx hb dX3_strengthBehindTrial_27 rfl (lv_at hl 3 rfl) ?_
          refine rdV (As := [.int x18, .int y6_2]) (rest := []) ⟨hx, hb, hml, hown, hts⟩ (k_X3_walkable2 l dC dI cI cZ cQ a min tri bes wkd_6 cos_c5 rst bst top str gho ghs pto cro_c4 pla wal fal tel gai day mar few doo x18 y6_2 r_wkd_6 r_top r_str r_gho r_ghs h2_2 r_pla r_fal r_gai r_day r_mar (by omega) (by omega) (by omega) (by omega)) (cwV 2 hts gX3_strengthBehindTrial_X3_walkable rfl rfl rfl (by decide +kernel) ⟨Nat.le_of_ble_eq_true rfl, Nat.le_of_ble_eq_true rfl⟩) hP hK hN [0, 1, 2, 3, 4, 5, 6, 7, 8, 9, 10, 11, 12, 13, 14, 15, 16, 17, 18, 19, 20] rfl 0 3 rfl rfl rfl hl.1 rfl (Nat.le_of_ble_eq_true rfl) dX3_strengthBehindTrial_28 ⟨Nat.le_of_ble_eq_true rfl, Nat.le_of_ble_eq_true rfl⟩ (fun r21 h22 => ?_)
          have h22 : ((((r21 = 1) ∧ (wkb (cos_c5 x18.toNatClampNeg) (min y6_2.toNatClampNeg))) ∨ ((r21 = 0) ∧ (¬ wkb (cos_c5 x18.toNatClampNeg) (min y6_2.toNatClampNeg))))) := h22
          rcases h22 with (⟨rfl, h22_a0⟩ | ⟨rfl, h22_a0⟩)
          · refine lv_if_ne (tgt := 36) hx hb dX3_strengthBehindTrial_31 (by decide) (fun _ => ?_) (fun c9 => absurd c9 (by decide))
            refine lv_aload_n hx hb dX3_strengthBehindTrial_36 rfl (lv_at hl 1 rfl) ?_
            refine va_get (D := (dC, dI)) (ci := 3) (v := .ref (a 20)) (C := RX3) (T := TX3) (N := 9) hx hb hts inX3 hown hK hP 0 rfl rfl 5 (by decide) lf21 (fun _ h9 => h9) rfl dX3_strengthBehindTrial_37 ?_
            refine lv_iload_n hx hb dX3_strengthBehindTrial_40 rfl (lv_at hl 0 rfl) ?_
            refine lv_dup2_11 hx hb dX3_strengthBehindTrial_41 rfl rfl ?_
            have b23 : vp_in x18 8 := inC rfl (by omega) (by omega)
            refine va_iald hx hb hK hP 4 0 rfl rfl b23 dX3_strengthBehindTrial_42 ?_
            have g24 : 0 ≤ (wkd_6 x18.toNatClampNeg).toInt ∧ (wkd_6 x18.toNatClampNeg).toInt ≤ 15 := rg_at r_wkd_6 b23
            refine lv_iconst (v := 1) hx hb dX3_strengthBehindTrial_43 (by decide) ?_
            refine lv_iload_n hx hb dX3_strengthBehindTrial_44 rfl (lv_at hl 3 rfl) ?_
            refine lv_ishl hx hb dX3_strengthBehindTrial_45 ?_
            have f25 : 1 ≤ ((1 : Int32) <<< (y6_2 &&& 31)).toInt ∧ ((1 : Int32) <<< (y6_2 &&& 31)).toInt ≤ 8 := shl1 rfl (by omega) 3 (by omega) (by decide)
            refine lv_ior hx hb dX3_strengthBehindTrial_46 ?_
            have f26 : 0 ≤ ((wkd_6 x18.toNatClampNeg) ||| ((1 : Int32) <<< (y6_2 &&& 31))).toInt ∧ ((wkd_6 x18.toNatClampNeg) ||| ((1 : Int32) <<< (y6_2 &&& 31))).toInt ≤ 15 := orB rfl rfl 4 (by omega) (by omega) (by omega) (by omega) (by decide)
            refine lv_topi (fun x27 ex27 => ?_)
            have ix27 : x27.toInt = ((wkd_6 x18.toNatClampNeg) ||| ((1 : Int32) <<< (y6_2 &&& 31))).toInt := by rw [ex27]
            have b28 : vp_in x18 8 := inC rfl (by omega) (by omega)
            have g29 : rg 8 (0) (15) (upd wkd_6 x18.toNatClampNeg x27) := rg_upd r_wkd_6 rfl (by omega) (by omega)
            refine va_iast hx hb hK hP hD hS 4 0 rfl rfl b28 dX3_strengthBehindTrial_47 (fun H locs hP hD hS => ?_)
            obtain ⟨wkd_u30, ewkd_u30⟩ : ∃ f : Nat → Int32, f = upd wkd_6 x18.toNatClampNeg x27 := ⟨_, rfl⟩
            have rwkd_u30 : rg 8 (0) (15) wkd_u30 := by rw [ewkd_u30]; exact g29
            have hP : va_P (dC, dI) vwCl (wPln cI cZ cQ a min tri bes wkd_u30 cos_c5 rst bst top str gho ghs pto cro_c4 pla wal fal tel gai day mar few doo) H := by rw [ewkd_u30]; exact hP
            have hD : va_D A (wPln cI cZ cQ a min tri bes wkd_u30 cos_c5 rst bst top str gho ghs pto cro_c4 pla wal fal tel gai day mar few doo) := by rw [ewkd_u30]; exact hD
            obtain ⟨z31, ez31⟩ : ∃ y : Int32, y = y6_2 + 1 := ⟨_, rfl⟩
            have iz31 : z31.toInt = y6_2.toInt + 1 := by rw [ez31]; exact addC rfl rfl (by omega) (by omega)
            refine lv_iinc (v := z31) (lv' := [(2, .int z31), (3, .int x18), (0, .ref (a 16)), (1, .int n)]) hx hb dX3_strengthBehindTrial_48 hl (k := 3) rfl (by rw [ez31]; rfl) (by decide) rfl (fun ls hl => ?_)
            refine lv_goto (tgt := 6) hx hb dX3_strengthBehindTrial_51 (by decide) ?_
            exact ih6 z31 wkd_u30 _ _ _ rwkd_u30 (by omega) (by omega) (by (first | exact wd_y i6_2 r_wkd_6 (by assumption) (by assumption) (by omega) (by assumption) (by omega) (by omega) (by omega) | exact wd_n i6_2 (by assumption) (by omega) (by omega) (by omega) | exact wd_P (by assumption) (by first | rfl | omega))) (by (first | exact wa_y i6_3 (by assumption) (by assumption) (by omega) (by omega) | exact wa_n i6_3 (by assumption) (by omega) (by omega) (by omega) | exact wa_0 (by first | rfl | omega))) (by omega) (by omega) hP hD hS (lv_sub hl [2, 3, 0] rfl)
          · refine lv_if_ne (tgt := 36) hx hb dX3_strengthBehindTrial_31 (by decide) (fun c9 => absurd (by decide) c9) (fun _ => ?_)
            refine lv_iconst (v := (-1)) hx hb dX3_strengthBehindTrial_34 (by decide) ?_
            exact W.iret (v := (-1)) hx hb hr (fun tq ht hW => ⟨⟨(-1), (uS [cro_c4, cos_c5, wkd_6] 0 (fun _ => 0)), rfl, ⟨(show jdC mar fal top str tel gai.toInt tri min cos_c5 n.toInt ((-1) : Int32) from by (try rw [show ((-1) : Int32).toInt = (-1) from (show ((-1) : Int32).toInt = (-1) from rfl)]); (first | exact jd_n (by assumption) (by omega) (by assumption) (by omega) (by omega) | exact Or.inr ⟨wa_c i6_3 (by omega), sr_e i58_5 rfl (by omega)⟩)), (show ∀ j : Nat, j < 8 → coC few top (nI j) (cos_c5 j) from by (try rw [show ((-1) : Int32).toInt = (-1) from (show ((-1) : Int32).toInt = (-1) from rfl)]); exact pr_co (by assumption)), h2_2, r_wkd_6⟩, by rw [ht]; exact hP, hD⟩, hS.F ht⟩) hS.2.2 dX3_strengthBehindTrial_35
        · refine lv_if_eq (tgt := 48) hx hb dX3_strengthBehindTrial_22 (by decide) (fun _ => ?_) (fun c9 => absurd (by decide) c9)
          obtain ⟨z32, ez32⟩ : ∃ y : Int32, y = y6_2 + 1 := ⟨_, rfl⟩
          have iz32 : z32.toInt = y6_2.toInt + 1 := by rw [ez32]; exact addC rfl rfl (by omega) (by omega)
          refine lv_iinc (v := z32) (lv' := [(2, .int z32), (3, .int x18), (0, .ref (a 16)), (1, .int n)]) hx hb dX3_strengthBehindTrial_48 hl (k := 3) rfl (by rw [ez32]; rfl) (by decide) rfl (fun ls hl => ?_)
          refine lv_goto (tgt := 6) hx hb dX3_strengthBehindTrial_51 (by decide) ?_
          exact ih6 z32 wkd_6 _ _ _ r_wkd_6 (by omega) (by omega) (by (first | exact wd_y i6_2 r_wkd_6 (by assumption) (by assumption) (by omega) (by assumption) (by omega) (by omega) (by omega) | exact wd_n i6_2 (by assumption) (by omega) (by omega) (by omega) | exact wd_P (by assumption) (by first | rfl | omega))) (by (first | exact wa_y i6_3 (by assumption) (by assumption) (by omega) (by omega) | exact wa_n i6_3 (by assumption) (by omega) (by omega) (by omega) | exact wa_0 (by first | rfl | omega))) (by omega) (by omega) hP hD hS (lv_sub hl [2, 3, 0] rfl)
  have kc33 : (0 : Int32).toInt = 0 := rfl
  exact L6 _ 0 wkd_c6 _ _ _ h2_3 (by omega) (by omega) (by (first | exact wd_y i6_2 r_wkd_6 (by assumption) (by assumption) (by omega) (by assumption) (by omega) (by omega) (by omega) | exact wd_n i6_2 (by assumption) (by omega) (by omega) (by omega) | exact wd_P (by assumption) (by first | rfl | omega))) (by (first | exact wa_y i6_3 (by assumption) (by assumption) (by omega) (by omega) | exact wa_n i6_3 (by assumption) (by omega) (by omega) (by omega) | exact wa_0 (by first | rfl | omega))) (by omega) (Nat.lt_succ_self _) hP hD hS (lv_sub hl [1, 2, 0] rfl)
