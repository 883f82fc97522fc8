set_option maxHeartbeats 4000000 in
set_option maxRecDepth 100000 in
theorem k_X3_strengthOfRoom2 (l : Launch) (dC : Nat → ClassId) (dI : Nat → Nat → Nat) (cI cZ cQ : ClassId) (a : Nat → Nat) (min : Nat → Int32) (tri : Nat → Int32) (bes : Nat → Int32) (wkd : Nat → Int32) (cos : Nat → Int32) (rst : Nat → Int32) (bst : Int32) (top : Nat → Int32) (str : Nat → Int32) (gho : Nat → Int32) (ghs : Nat → Int32) (pto : Nat → Int32) (cro : Nat → Int32) (pla : Nat → Int32) (wal : Nat → Int32) (fal : Nat → Int32) (tel : Int32) (gai : Int32) (day : Int32) (mar : Nat → Int32) (few : Nat → Int32) (doo : Int32) (ro : Int32) (n : Int32) (dy : Int32) (r_wkd : rg 8 (0) (15) wkd) (r_top : rg 48 (-1) (23) top) (r_str : rg 48 (0) (100) str) (r_gho : rg 48 (-1) (23) gho) (r_ghs : rg 48 (0) (100) ghs) (r_cro : rg 48 (0) (6) cro) (r_pla : rg 24 (-1) (47) pla) (r_fal : rg 11 (0) (30) fal) (r_gai : 0 ≤ gai.toInt ∧ gai.toInt ≤ 100) (r_day : 0 ≤ day.toInt ∧ day.toInt ≤ 400) (r_mar : rg 24 (0) (255) mar) (q0 : 0 ≤ ro.toInt) (q1 : ro.toInt ≤ 7) (q2 : 0 ≤ n.toInt) (q3 : n.toInt ≤ 60) : KR l yX3_strengthOfRoom wsX3_strengthOfRoom { frames := 3, cells := 0, slots := 0, locals := 71 } (dC, dI) (TY cI cZ cQ) (wPln cI cZ cQ a min tri bes wkd cos rst bst top str gho ghs pto cro pla wal fal tel gai day mar few doo) [.ref (a 16), .int ro, .int n, .int dy] (fun r : Int32 => (0 ≤ r.toInt) ∧ (r.toInt ≤ 600) ∧ (r.toInt = srF top (fun c => svF fal (cro c).toInt gai.toInt (bitW dy) (str c).toInt n.toInt.toNat) (ro.toInt * 6).toNat 6)) := by
  refine Met.ofW (cc := cX3_strengthOfRoom) (maxL := 7) (ret := (some .int)) (by decide) rfl ?_
  intro p e s m args below meth c s₁ B hml hv
  obtain ⟨rfl, hP, hK, hN⟩ := hv
  have hx := B.exec
  have hb := B.bytes
  have hr := B.returns
  have hts := atoms_spec (ws := wsX3_strengthOfRoom) B.pre
  have hown : s.vm.findClass RX3 = some m.cls := findClass_of_methodNamed B.named
  have hlocks := B.notSynchronized
  have lf30 := hts (.fieldLink RX3 30 "PalaceOfRooms$Planner" "corners" "LPalaceOfRooms$Corners;") (List.mem_cons_of_mem _ (List.mem_append_left _ (List.mem_append_left _ (List.mem_of_getElem? (i := 0) rfl))))
  have inX3 : ∀ w ∈ wsX30, w ∈ wsX3_strengthOfRoom := fun w h => List.mem_cons_of_mem _ (List.mem_append_left _ (List.mem_append_right _ h))
  have lf79 := hN.use (w := .fieldLinkNest "PalaceOfRooms$Planner" 79 "PalaceOfRooms$Corners" "top" "[I" "PalaceOfRooms") (List.mem_of_getElem? (i := 3) rfl) ([.ref (a 16), .int ro, .int n, .int dy] : List Value).toArray
  have inX1 : ∀ w ∈ wsX10, w ∈ wsX3_strengthOfRoom := fun w h => List.mem_cons_of_mem _ (List.mem_append_right _ h)
  have hl := lv_entry ([.ref (a 16), .int ro, .int n, .int dy]) (n := 7) (Nat.le_of_ble_eq_true rfl)
  rw [lg_entry_eq]
  generalize (lg_sl ([.ref (a 16), .int ro, .int n, .int dy]) ++ List.replicate (7 - (lg_sl ([.ref (a 16), .int ro, .int n, .int dy])).length) Slot.unset).toArray = ls at hl ⊢
  have hl : lv_has ls 7 [(0, .ref (a 16)), (1, .int ro), (2, .int n), (3, .int dy)] := hl
  refine lv_iconst (v := 0) hx hb dX3_strengthOfRoom_0 (by decide) ?_
  refine lv_istore (lv' := [(4, .int 0), (0, .ref (a 16)), (1, .int ro), (2, .int n), (3, .int dy)]) hx hb dX3_strengthOfRoom_1 hl (by decide) rfl (fun ls hl => ?_)
  refine lv_iload_n hx hb dX3_strengthOfRoom_3 rfl (lv_at hl 2 rfl) ?_
  refine lv_bipush (v := 6) hx hb dX3_strengthOfRoom_4 (by decide) ?_
  refine lv_imul hx hb dX3_strengthOfRoom_6 ?_
  have f1 : (ro * 6).toInt = (ro.toInt) * (6) := mulC rfl (show (6 : Int32).toInt = 6 from rfl) (by omega) (by omega)
  refine lv_topi (fun x2 ex2 => ?_)
  have ix2 : x2.toInt = (ro.toInt) * (6) := by rw [ex2]; exact f1
  refine lv_istore (lv' := [(5, .int x2), (4, .int 0), (0, .ref (a 16)), (1, .int ro), (2, .int n), (3, .int dy)]) hx hb dX3_strengthOfRoom_7 hl (by decide) rfl (fun ls hl => ?_)
  refine lv_iload hx hb dX3_strengthOfRoom_9 (lv_at hl 0 rfl) ?_
  refine lv_istore (lv' := [(6, .int x2), (5, .int x2), (4, .int 0), (0, .ref (a 16)), (1, .int ro), (2, .int n), (3, .int dy)]) hx hb dX3_strengthOfRoom_11 hl (by decide) rfl (fun ls hl => ?_)
  have L13 : ∀ (nn : Nat) (y13_4 : Int32) (y13_6 : Int32) (ls : Array Slot), (0 ≤ (y13_6.toInt)) → ((y13_6.toInt) ≤ 48) → ((x2.toInt) ≤ (y13_6.toInt)) → ((y13_6.toInt) ≤ (x2.toInt) + 6) → (0 ≤ (y13_4.toInt)) → ((y13_4.toInt) ≤ 600) → ((y13_4.toInt) ≤ 100 * ((y13_6.toInt) - (x2.toInt))) → ((y13_4.toInt) = srF top (fun c => svF fal (cro c).toInt gai.toInt (bitW dy) (str c).toInt n.toInt.toNat) ((x2.toInt)).toNat ((y13_6.toInt) - (x2.toInt)).toNat) → (48 - (y13_6.toInt)).toNat < nn → lv_has ls 7 [(0, .ref (a 16)), (2, .int n), (3, .int dy), (4, .int y13_4), (5, .int x2), (6, .int y13_6)] → W p l e (headSpec wsX3_strengthOfRoom { frames := 3, cells := 0, slots := 0, locals := 71 }).room s m ([.ref (a 16), .int ro, .int n, .int dy] : List Value).toArray below meth c s.heap [] 0 0 (MQ below (QR (fun r : Int32 => (0 ≤ r.toInt) ∧ (r.toInt ≤ 600) ∧ (r.toInt = srF top (fun c => svF fal (cro c).toInt gai.toInt (bitW dy) (str c).toInt n.toInt.toNat) (ro.toInt * 6).toNat 6))) ([.ref (a 16), .int ro, .int n, .int dy] : List Value).toArray s 0 0 (fun _ => False)) (F0 m 13 ls []) := by
    intro nn
    induction nn with
    | zero =>
      intro y13_4 y13_6 ls i13_0 i13_1 i13_2 i13_3 i13_4 i13_5 i13_6 i13_7 hm13
      exact absurd hm13 (Nat.not_lt_zero _)
    | succ nn ih13 =>
      intro y13_4 y13_6 ls i13_0 i13_1 i13_2 i13_3 i13_4 i13_5 i13_6 i13_7 hm13 hl
      refine lv_iload hx hb dX3_strengthOfRoom_13 (lv_at hl 5 rfl) ?_
      refine lv_iload hx hb dX3_strengthOfRoom_15 (lv_at hl 4 rfl) ?_
      refine lv_bipush (v := 6) hx hb dX3_strengthOfRoom_17 (by decide) ?_
      refine lv_iadd hx hb dX3_strengthOfRoom_19 ?_
      have f3 : (x2 + 6).toInt = (x2.toInt) + (6) := addC rfl (show (6 : Int32).toInt = 6 from rfl) (by omega) (by omega)
      refine lv_icmp_ge (tgt := 59) hx hb dX3_strengthOfRoom_20 (by decide) (fun c4 => ?_) (fun c4 => ?_)
      · have dc4 : (x2.toInt) + (6) ≤ y13_6.toInt := leC f3 rfl c4
        refine lv_iload hx hb dX3_strengthOfRoom_59 (lv_at hl 3 rfl) ?_
        exact W.iret (v := y13_4) hx hb hr (fun tq ht hW => ⟨y13_4, rfl, ⟨(show 0 ≤ y13_4.toInt from by omega), (show y13_4.toInt ≤ 600 from by omega), (show y13_4.toInt = srF top (fun c => svF fal (cro c).toInt gai.toInt (bitW dy) (str c).toInt n.toInt.toNat) (ro.toInt * 6).toNat 6 from by exact sr_e i13_7 (by omega) (by omega))⟩, ht⟩) (fun q h => by cases h) dX3_strengthOfRoom_61
      · have dc4 : y13_6.toInt < (x2.toInt) + (6) := nleC f3 rfl c4
        refine lv_aload_n hx hb dX3_strengthOfRoom_23 rfl (lv_at hl 0 rfl) ?_
        refine va_get (D := (dC, dI)) (ci := 3) (v := .ref (a 4)) (C := RX3) (T := TX3) (N := 9) hx hb hts inX3 hown hK hP 0 rfl rfl 0 (by decide) lf30 (fun _ h9 => h9) rfl dX3_strengthOfRoom_24 ?_
        refine va_getN (D := (dC, dI)) (ci := 1) (v := .ref (a 5)) (C := RX1) (T := TX1) (N := 13) hx hb hts inX1 hown hK hP 7 rfl rfl 1 (by decide) lf79 (fun _ h9 => h9) rfl dX3_strengthOfRoom_27 ?_
        refine lv_iload hx hb dX3_strengthOfRoom_30 (lv_at hl 5 rfl) ?_
        have b5 : vp_in y13_6 48 := inC rfl (by omega) (by omega)
        refine va_iald hx hb hK hP 8 0 rfl rfl b5 dX3_strengthOfRoom_32 ?_
        have g6 : -1 ≤ (top y13_6.toNatClampNeg).toInt ∧ (top y13_6.toNatClampNeg).toInt ≤ 23 := rg_at r_top b5
        refine lv_iconst (v := (-1)) hx hb dX3_strengthOfRoom_33 (by decide) ?_
        refine lv_icmp_eq (tgt := 53) hx hb dX3_strengthOfRoom_34 (by decide) (fun c7 => ?_) (fun c7 => ?_)
        · have dc7 : (top y13_6.toNatClampNeg).toInt = (-1) := eqC rfl (show ((-1) : Int32).toInt = (-1) from rfl) c7
          obtain ⟨z8, ez8⟩ : ∃ y : Int32, y = y13_6 + 1 := ⟨_, rfl⟩
          have iz8 : z8.toInt = y13_6.toInt + 1 := by rw [ez8]; exact addC rfl rfl (by omega) (by omega)
          refine lv_iinc (v := z8) (lv' := [(6, .int z8), (0, .ref (a 16)), (2, .int n), (3, .int dy), (4, .int y13_4), (5, .int x2)]) hx hb dX3_strengthOfRoom_53 hl (k := 5) rfl (by rw [ez8]; rfl) (by decide) rfl (fun ls hl => ?_)
          refine lv_goto (tgt := 13) hx hb dX3_strengthOfRoom_56 (by decide) ?_
          exact ih13 y13_4 z8 _ (by omega) (by omega) (by omega) (by omega) (by omega) (by omega) (by omega) (by (first | exact sr_s (o := y13_6) i13_7 (by rw [clC (x := y13_6) rfl]; omega) (by first | exact Or.inl ⟨by assumption, by first | rfl | omega⟩ | exact Or.inr ⟨by assumption, ad_of (by assumption) (by omega)⟩) (by omega) | exact sr_0 (by first | rfl | omega) (by first | rfl | omega))) (by omega) (lv_sub hl [1, 2, 3, 4, 5, 0] rfl)
        · have dc7 : 0 ≤ (top y13_6.toNatClampNeg).toInt := ka_lo (by omega) (neC rfl (show ((-1) : Int32).toInt = (-1) from rfl) c7)
          refine lv_iload hx hb dX3_strengthOfRoom_37 (lv_at hl 3 rfl) ?_
          refine lv_aload_n hx hb dX3_strengthOfRoom_39 rfl (lv_at hl 0 rfl) ?_
          refine va_get (D := (dC, dI)) (ci := 3) (v := .ref (a 4)) (C := RX3) (T := TX3) (N := 9) hx hb hts inX3 hown hK hP 0 rfl rfl 0 (by decide) lf30 (fun _ h9 => h9) rfl dX3_strengthOfRoom_40 ?_
          refine lv_iload hx hb dX3_strengthOfRoom_43 (lv_at hl 5 rfl) ?_
          refine lv_iload_n hx hb dX3_strengthOfRoom_45 rfl (lv_at hl 1 rfl) ?_
          refine lv_iload_n hx hb dX3_strengthOfRoom_46 rfl (lv_at hl 2 rfl) ?_
          refine rdV (As := [.int y13_6, .int n, .int dy]) (rest := [.int y13_4]) ⟨hx, hb, hml, hown, hts⟩ (k_X1_strengthBehind3 l dC dI cI cZ cQ a top str gho ghs pto cro pla wal fal tel gai day mar y13_6 n dy r_top r_str r_gho r_ghs r_cro r_pla r_fal r_gai r_day r_mar (by omega) (by omega) (by omega) (by omega)) (cwV 3 hts gX3_strengthOfRoom_X1_strengthBehind rfl rfl rfl (by decide +kernel) ⟨Nat.le_of_ble_eq_true rfl, Nat.le_of_ble_eq_true rfl⟩) hP hK hN [7, 8, 9, 10, 11, 12, 13, 14, 15, 16, 17, 18] rfl 7 1 rfl rfl rfl hl.1 rfl (Nat.le_of_ble_eq_true rfl) dX3_strengthOfRoom_47 ⟨Nat.le_of_ble_eq_true rfl, Nat.le_of_ble_eq_true rfl⟩ (fun r9 h10 => ?_)
          have h10 : (0 ≤ r9.toInt) ∧ (r9.toInt ≤ 100) ∧ (r9.toInt = svF fal (cro y13_6.toNatClampNeg).toInt gai.toInt (bitW dy) (str y13_6.toNatClampNeg).toInt n.toInt.toNat) := h10
          obtain ⟨h10_0, h10_1, h10_2⟩ := h10
          refine lv_iadd hx hb dX3_strengthOfRoom_50 ?_
          have f11 : (y13_4 + r9).toInt = (y13_4.toInt) + (r9.toInt) := addC rfl rfl (by omega) (by omega)
          refine lv_topi (fun x12 ex12 => ?_)
          have ix12 : x12.toInt = (y13_4.toInt) + (r9.toInt) := by rw [ex12]; exact f11
          refine lv_istore (lv' := [(4, .int x12), (0, .ref (a 16)), (2, .int n), (3, .int dy), (5, .int x2), (6, .int y13_6)]) hx hb dX3_strengthOfRoom_51 hl (by decide) rfl (fun ls hl => ?_)
          obtain ⟨z13, ez13⟩ : ∃ y : Int32, y = y13_6 + 1 := ⟨_, rfl⟩
          have iz13 : z13.toInt = y13_6.toInt + 1 := by rw [ez13]; exact addC rfl rfl (by omega) (by omega)
          refine lv_iinc (v := z13) (lv' := [(6, .int z13), (4, .int x12), (0, .ref (a 16)), (2, .int n), (3, .int dy), (5, .int x2)]) hx hb dX3_strengthOfRoom_53 hl (k := 5) rfl (by rw [ez13]; rfl) (by decide) rfl (fun ls hl => ?_)
          refine lv_goto (tgt := 13) hx hb dX3_strengthOfRoom_56 (by decide) ?_
          exact ih13 x12 z13 _ (by omega) (by omega) (by omega) (by omega) (by omega) (by omega) (by omega) (by (first | exact sr_s (o := y13_6) i13_7 (by rw [clC (x := y13_6) rfl]; omega) (by first | exact Or.inl ⟨by assumption, by first | rfl | omega⟩ | exact Or.inr ⟨by assumption, ad_of (by assumption) (by omega)⟩) (by omega) | exact sr_0 (by first | rfl | omega) (by first | rfl | omega))) (by omega) (lv_sub hl [2, 3, 4, 1, 5, 0] rfl)
  have kc14 : (0 : Int32).toInt = 0 := rfl
  exact L13 _ 0 x2 _ (by omega) (by omega) (by omega) (by omega) (by omega) (by omega) (by omega) (by (first | exact sr_s (o := y13_6) i13_7 (by rw [clC (x := y13_6) rfl]; omega) (by first | exact Or.inl ⟨by assumption, by first | rfl | omega⟩ | exact Or.inr ⟨by assumption, ad_of (by assumption) (by omega)⟩) (by omega) | exact sr_0 (by first | rfl | omega) (by first | rfl | omega))) (Nat.lt_succ_self _) (lv_sub hl [3, 5, 6, 2, 1, 0] rfl)
