set_option maxHeartbeats 4000000 in
set_option maxRecDepth 100000 in
theorem k_X3_takeMinutes2 (l : Launch) (dC : Nat → ClassId) (dI : Nat → Nat → Nat) (cI cZ cQ : ClassId) (a : Nat → Nat) (min : Nat → Int32) (tri : Nat → Int32) (bes : Nat → Int32) (wkd : Nat → Int32) (cos : Nat → Int32) (rst : Nat → Int32) (bst : Int32) (top : Nat → Int32) (str : Nat → Int32) (gho : Nat → Int32) (ghs : Nat → Int32) (pto : Nat → Int32) (cro : Nat → Int32) (pla : Nat → Int32) (wal : Nat → Int32) (fal : Nat → Int32) (tel : Int32) (gai : Int32) (day : Int32) (mar : Nat → Int32) (few : Nat → Int32) (doo : Int32) (sz : Nat) (rw : Int32) (n : Int32) (r_wkd : rg 8 (0) (15) wkd) (r_top : rg 48 (-1) (23) top) (r_str : rg 48 (0) (100) str) (r_gho : rg 48 (-1) (23) gho) (r_ghs : rg 48 (0) (100) ghs) (r_cro : rg 48 (0) (6) cro) (r_pla : rg 24 (-1) (47) pla) (r_fal : rg 11 (0) (30) fal) (r_gai : 0 ≤ gai.toInt ∧ gai.toInt ≤ 100) (r_day : 0 ≤ day.toInt ∧ day.toInt ≤ 400) (r_mar : rg 24 (0) (255) mar) (q0 : 1 ≤ n.toInt) (q1 : n.toInt ≤ 4) : KW l yX3_takeMinutes wsX3_takeMinutes { frames := 0, cells := 0, slots := 0, locals := 0 } (dC, dI) (TY cI cZ cQ) (wPln cI cZ cQ a min tri bes wkd cos rst bst top str gho ghs pto cro pla wal fal tel gai day mar few doo) [.ref (a 16), .int rw, .int n] sz 0 0 (fun (r : Int32) (u : US) => ((((r = 1) ∧ (twI (mnW rw) 99 n.toInt (u.1 0))) ∨ ((r = 0) ∧ (∃ j : Nat, (j : Int) < n.toInt ∧ 99 < (mnW rw j).toInt))))) (fun u : US => (wPln cI cZ cQ a (u.1 0) tri bes wkd cos rst bst top str gho ghs pto cro pla wal fal tel gai day mar few doo)) := by
  refine Met.ofW (cc := cX3_takeMinutes) (maxL := 4) (ret := (some .boolean)) (by decide) rfl ?_
  intro p e s m args below meth c s₁ B hml hv
  obtain ⟨rfl, hsz, hP, hK, hD0, hN⟩ := hv
  have hx := B.exec
  have hb := B.bytes
  have hr := B.returns
  have hts := atoms_spec (ws := wsX3_takeMinutes) B.pre
  have hown : s.vm.findClass RX3 = some m.cls := findClass_of_methodNamed B.named
  have hlocks := B.notSynchronized
  have lf9 := hts (.fieldLink RX3 9 "PalaceOfRooms$Planner" "minutesOf" "[I") (List.mem_cons_of_mem _ (List.mem_append_left _ (List.mem_of_getElem? (i := 0) rfl)))
  have inX3 : ∀ w ∈ wsX30, w ∈ wsX3_takeMinutes := fun w h => List.mem_cons_of_mem _ (List.mem_append_right _ h)
  subst hsz
  have hD := hD0.self (sz := s.heap.size)
  generalize hAe : va_A (wPln cI cZ cQ a min tri bes wkd cos rst bst top str gho ghs pto cro pla wal fal tel gai day mar few doo) s.heap.size = A at hD ⊢
  have hA : ∀ q : Nat, s.heap.size ≤ q → A q := fun q h => by rw [← hAe]; exact Or.inr h
  have hS : va_S A s.heap s.heap [] := va_S.rf
  have hl := lv_entry ([.ref (a 16), .int rw, .int n]) (n := 4) (Nat.le_of_ble_eq_true rfl)
  rw [lg_entry_eq]
  generalize (lg_sl ([.ref (a 16), .int rw, .int n]) ++ List.replicate (4 - (lg_sl ([.ref (a 16), .int rw, .int n])).length) Slot.unset).toArray = ls at hl ⊢
  have hl : lv_has ls 4 [(0, .ref (a 16)), (1, .int rw), (2, .int n)] := hl
  refine lv_iconst (v := 0) hx hb dX3_takeMinutes_0 (by decide) ?_
  refine lv_istore_n (lv' := [(3, .int 0), (0, .ref (a 16)), (1, .int rw), (2, .int n)]) hx hb dX3_takeMinutes_1 rfl hl (by decide) rfl (fun ls hl => ?_)
  have L2 : ∀ (nn : Nat) (y2_3 : Int32) (min_2 : Nat → Int32) (H : Heap) (locs : List Loc) (ls : Array Slot), (0 ≤ (y2_3.toInt)) → ((y2_3.toInt) ≤ 4) → (twI (mnW rw) 99 (y2_3.toInt) min_2) → ((y2_3.toInt) ≤ n.toInt) → (4 - (y2_3.toInt)).toNat < nn → va_P (dC, dI) vwCl (wPln cI cZ cQ a min_2 tri bes wkd cos rst bst top str gho ghs pto cro pla wal fal tel gai day mar few doo) H → va_D A (wPln cI cZ cQ a min_2 tri bes wkd cos rst bst top str gho ghs pto cro pla wal fal tel gai day mar few doo) → va_S A s.heap H locs → lv_has ls 4 [(0, .ref (a 16)), (1, .int rw), (2, .int n), (3, .int y2_3)] → W p l e (headSpec wsX3_takeMinutes { frames := 0, cells := 0, slots := 0, locals := 0 }).room s m ([.ref (a 16), .int rw, .int n] : List Value).toArray below meth c H locs 0 0 (MQ below (va_Qi (fun (r : Int32) (u : US) => ((((r = 1) ∧ (twI (mnW rw) 99 n.toInt (u.1 0))) ∨ ((r = 0) ∧ (∃ j : Nat, (j : Int) < n.toInt ∧ 99 < (mnW rw j).toInt))))) (Bw (dC, dI) A (fun u : US => (wPln cI cZ cQ a (u.1 0) tri bes wkd cos rst bst top str gho ghs pto cro pla wal fal tel gai day mar few doo))) A) ([.ref (a 16), .int rw, .int n] : List Value).toArray s 0 0 A) (F0 m 2 ls []) := by
    intro nn
    induction nn with
    | zero =>
      intro y2_3 min_2 H locs ls i2_0 i2_1 i2_2 i2_3 hm2
      exact absurd hm2 (Nat.not_lt_zero _)
    | succ nn ih2 =>
      intro y2_3 min_2 H locs ls i2_0 i2_1 i2_2 i2_3 hm2 hP hD hS hl
      refine lv_iload_n hx hb dX3_takeMinutes_2 rfl (lv_at hl 3 rfl) ?_
      refine lv_iload_n hx hb dX3_takeMinutes_3 rfl (lv_at hl 2 rfl) ?_
      refine lv_icmp_ge (tgt := 41) hx hb dX3_takeMinutes_4 (by decide) (fun c1 => ?_) (fun c1 => ?_)
      · have dc1 : n.toInt ≤ y2_3.toInt := leC rfl rfl c1
        refine lv_iconst (v := 1) hx hb dX3_takeMinutes_41 (by decide) ?_
        exact W.zret (v := 1) hx hb hr (by decide) (fun tq ht hW => ⟨⟨1, (uS [min_2] 0 (fun _ => 0)), rfl, (Or.inl (⟨rfl, (show twI (mnW rw) 99 n.toInt min_2 from by (try rw [show (1 : Int32).toInt = 1 from (show (1 : Int32).toInt = 1 from rfl)]); (first | exact ti_c i2_2 (by omega) | exact tk_no (mn_at (y := y2_3) (by assumption) (by omega)) (by omega) (by omega)))⟩)), by rw [ht]; exact hP, hD⟩, hS.F ht⟩) hS.2.2 dX3_takeMinutes_42
      · have dc1 : y2_3.toInt < n.toInt := nleC rfl rfl c1
        refine lv_aload_n hx hb dX3_takeMinutes_7 rfl (lv_at hl 0 rfl) ?_
        refine va_get (D := (dC, dI)) (ci := 3) (v := .ref (a 17)) (C := RX3) (T := TX3) (N := 9) hx hb hts inX3 hown hK hP 0 rfl rfl 2 (by decide) lf9 (fun _ h9 => h9) rfl dX3_takeMinutes_8 ?_
        refine lv_iload_n hx hb dX3_takeMinutes_11 rfl (lv_at hl 3 rfl) ?_
        refine lv_iload_n hx hb dX3_takeMinutes_12 rfl (lv_at hl 1 rfl) ?_
        refine lv_bipush (v := 7) hx hb dX3_takeMinutes_13 (by decide) ?_
        refine lv_iload_n hx hb dX3_takeMinutes_15 rfl (lv_at hl 3 rfl) ?_
        refine lv_imul hx hb dX3_takeMinutes_16 ?_
        have f2 : (7 * y2_3).toInt = (7) * (y2_3.toInt) := mulC (show (7 : Int32).toInt = 7 from rfl) rfl (by omega) (by omega)
        refine lv_ishr hx hb dX3_takeMinutes_17 ?_
        refine lv_bipush (v := 127) hx hb dX3_takeMinutes_18 (by decide) ?_
        refine lv_iand hx hb dX3_takeMinutes_20 ?_
        have f3 := andR (a := (rw >>> ((7 * y2_3) &&& 31))) (m := 127) (M := 127) rfl (by decide)
        refine lv_topi (fun x4 ex4 => ?_)
        have ix4 : x4.toInt = ((rw >>> ((7 * y2_3) &&& 31)) &&& 127).toInt := by rw [ex4]
        have b5 : vp_in y2_3 4 := inC rfl (by omega) (by omega)
        refine va_iast hx hb hK hP hD hS 1 0 rfl rfl b5 dX3_takeMinutes_21 (fun H locs hP hD hS => ?_)
        obtain ⟨min_u6, emin_u6⟩ : ∃ f : Nat → Int32, f = upd min_2 y2_3.toNatClampNeg x4 := ⟨_, rfl⟩
        have hP : va_P (dC, dI) vwCl (wPln cI cZ cQ a min_u6 tri bes wkd cos rst bst top str gho ghs pto cro pla wal fal tel gai day mar few doo) H := by rw [emin_u6]; exact hP
        have hD : va_D A (wPln cI cZ cQ a min_u6 tri bes wkd cos rst bst top str gho ghs pto cro pla wal fal tel gai day mar few doo) := by rw [emin_u6]; exact hD
        refine lv_aload_n hx hb dX3_takeMinutes_22 rfl (lv_at hl 0 rfl) ?_
        refine va_get (D := (dC, dI)) (ci := 3) (v := .ref (a 17)) (C := RX3) (T := TX3) (N := 9) hx hb hts inX3 hown hK hP 0 rfl rfl 2 (by decide) lf9 (fun _ h9 => h9) rfl dX3_takeMinutes_23 ?_
        refine lv_iload_n hx hb dX3_takeMinutes_26 rfl (lv_at hl 3 rfl) ?_
        have b7 : vp_in y2_3 4 := inC rfl (by omega) (by omega)
        refine va_iald hx hb hK hP 1 0 rfl rfl b7 dX3_takeMinutes_27 ?_
        have o8 : (min_u6 y2_3.toNatClampNeg).toInt = x4.toInt := by rw [emin_u6, pk_us]
        refine lv_bipush (v := 99) hx hb dX3_takeMinutes_28 (by decide) ?_
        refine lv_icmp_le (tgt := 35) hx hb dX3_takeMinutes_30 (by decide) (fun c9 => ?_) (fun c9 => ?_)
        · have dc9 : (min_u6 y2_3.toNatClampNeg).toInt ≤ 99 := leC rfl (show (99 : Int32).toInt = 99 from rfl) c9
          obtain ⟨z10, ez10⟩ : ∃ y : Int32, y = y2_3 + 1 := ⟨_, rfl⟩
          have iz10 : z10.toInt = y2_3.toInt + 1 := by rw [ez10]; exact addC rfl rfl (by omega) (by omega)
          refine lv_iinc (v := z10) (lv' := [(3, .int z10), (0, .ref (a 16)), (1, .int rw), (2, .int n)]) hx hb dX3_takeMinutes_35 hl (k := 3) rfl (by rw [ez10]; rfl) (by decide) rfl (fun ls hl => ?_)
          refine lv_goto (tgt := 2) hx hb dX3_takeMinutes_38 (by decide) ?_
          exact ih2 z10 min_u6 _ _ _ (by omega) (by omega) (by (first | exact ti_s i2_2 (by assumption) (mn_at (by assumption) (by omega)) (by omega) (by omega) (by omega) | exact ti_0 (by first | rfl | omega))) (by omega) (by omega) hP hD hS (lv_sub hl [1, 2, 3, 0] rfl)
        · have dc9 : 99 < (min_u6 y2_3.toNatClampNeg).toInt := nleC rfl (show (99 : Int32).toInt = 99 from rfl) c9
          refine lv_iconst (v := 0) hx hb dX3_takeMinutes_33 (by decide) ?_
          exact W.zret (v := 0) hx hb hr (by decide) (fun tq ht hW => ⟨⟨0, (uS [min_u6] 0 (fun _ => 0)), rfl, (Or.inr (⟨rfl, (show ∃ j : Nat, (j : Int) < n.toInt ∧ 99 < (mnW rw j).toInt from by (try rw [show (0 : Int32).toInt = 0 from (show (0 : Int32).toInt = 0 from rfl)]); (first | exact ti_c i2_2 (by omega) | exact tk_no (mn_at (y := y2_3) (by assumption) (by omega)) (by omega) (by omega)))⟩)), by rw [ht]; exact hP, hD⟩, hS.F ht⟩) hS.2.2 dX3_takeMinutes_34
  have kc11 : (0 : Int32).toInt = 0 := rfl
  exact L2 _ 0 min _ _ _ (by omega) (by omega) (by (first | exact ti_s i2_2 (by assumption) (mn_at (by assumption) (by omega)) (by omega) (by omega) (by omega) | exact ti_0 (by first | rfl | omega))) (by omega) (Nat.lt_succ_self _) hP hD hS (lv_sub hl [1, 2, 3, 0] rfl)
set_option maxHeartbeats 4000000 in
set_option maxRecDepth 100000 in
theorem k_X3_walkable2 (l : Launch) (dC : Nat → ClassId) (dI : Nat → Nat → Nat) (cI cZ cQ : ClassId) (a : Nat → Nat) (min : Nat → Int32) (tri : Nat → Int32) (bes : Nat → Int32) (wkd : Nat → Int32) (cos : Nat → Int32) (rst : Nat → Int32) (bst : Int32) (top : Nat → Int32) (str : Nat → Int32) (gho : Nat → Int32) (ghs : Nat → Int32) (pto : Nat → Int32) (cro : Nat → Int32) (pla : Nat → Int32) (wal : Nat → Int32) (fal : Nat → Int32) (tel : Int32) (gai : Int32) (day : Int32) (mar : Nat → Int32) (few : Nat → Int32) (doo : Int32) (ro : Int32) (i : Int32) (r_wkd : rg 8 (0) (15) wkd) (r_top : rg 48 (-1) (23) top) (r_str : rg 48 (0) (100) str) (r_gho : rg 48 (-1) (23) gho) (r_ghs : rg 48 (0) (100) ghs) (r_cro : rg 48 (0) (6) cro) (r_pla : rg 24 (-1) (47) pla) (r_fal : rg 11 (0) (30) fal) (r_gai : 0 ≤ gai.toInt ∧ gai.toInt ≤ 100) (r_day : 0 ≤ day.toInt ∧ day.toInt ≤ 400) (r_mar : rg 24 (0) (255) mar) (q0 : 0 ≤ ro.toInt) (q1 : ro.toInt ≤ 7) (q2 : 0 ≤ i.toInt) (q3 : i.toInt ≤ 3) : KR l yX3_walkable wsX3_walkable { frames := 0, cells := 0, slots := 0, locals := 0 } (dC, dI) (TY cI cZ cQ) (wPln cI cZ cQ a min tri bes wkd cos rst bst top str gho ghs pto cro pla wal fal tel gai day mar few doo) [.ref (a 16), .int ro, .int i] (fun r : Int32 => ((((r = 1) ∧ (wkb (cos ro.toNatClampNeg) (min i.toNatClampNeg))) ∨ ((r = 0) ∧ (¬ wkb (cos ro.toNatClampNeg) (min i.toNatClampNeg)))))) := by
  refine Met.ofW (cc := cX3_walkable) (maxL := 3) (ret := (some .boolean)) (by decide) rfl ?_
  intro p e s m args below meth c s₁ B hml hv
  obtain ⟨rfl, hP, hK, hN⟩ := hv
  have hx := B.exec
  have hb := B.bytes
  have hr := B.returns
  have hts := atoms_spec (ws := wsX3_walkable) B.pre
  have hown : s.vm.findClass RX3 = some m.cls := findClass_of_methodNamed B.named
  have hlocks := B.notSynchronized
  have lf24 := hts (.fieldLink RX3 24 "PalaceOfRooms$Planner" "costs" "[I") (List.mem_cons_of_mem _ (List.mem_append_left _ (List.mem_of_getElem? (i := 0) rfl)))
  have inX3 : ∀ w ∈ wsX30, w ∈ wsX3_walkable := fun w h => List.mem_cons_of_mem _ (List.mem_append_right _ h)
  have lf9 := hts (.fieldLink RX3 9 "PalaceOfRooms$Planner" "minutesOf" "[I") (List.mem_cons_of_mem _ (List.mem_append_left _ (List.mem_of_getElem? (i := 1) rfl)))
  have hl := lv_entry ([.ref (a 16), .int ro, .int i]) (n := 3) (Nat.le_of_ble_eq_true rfl)
  rw [lg_entry_eq]
  generalize (lg_sl ([.ref (a 16), .int ro, .int i]) ++ List.replicate (3 - (lg_sl ([.ref (a 16), .int ro, .int i])).length) Slot.unset).toArray = ls at hl ⊢
  have hl : lv_has ls 3 [(0, .ref (a 16)), (1, .int ro), (2, .int i)] := hl
  refine lv_aload_n hx hb dX3_walkable_0 rfl (lv_at hl 0 rfl) ?_
  refine va_get (D := (dC, dI)) (ci := 3) (v := .ref (a 21)) (C := RX3) (T := TX3) (N := 9) hx hb hts inX3 hown hK hP 0 rfl rfl 6 (by decide) lf24 (fun _ h9 => h9) rfl dX3_walkable_1 ?_
  refine lv_iload_n hx hb dX3_walkable_4 rfl (lv_at hl 1 rfl) ?_
  have b1 : vp_in ro 8 := inC rfl (by omega) (by omega)
  refine va_iald hx hb hK hP 5 0 rfl rfl b1 dX3_walkable_5 ?_
  refine lv_iconst (v := (-1)) hx hb dX3_walkable_6 (by decide) ?_
  refine lv_icmp_eq (tgt := 29) hx hb dX3_walkable_7 (by decide) (fun c2 => ?_) (fun c2 => ?_)
  · have dc2 : (cos ro.toNatClampNeg).toInt = (-1) := eqC rfl (show ((-1) : Int32).toInt = (-1) from rfl) c2
    refine lv_iconst (v := 0) hx hb dX3_walkable_29 (by decide) ?_
    exact W.zret (v := 0) hx hb hr (by decide) (fun tq ht hW => ⟨0, rfl, (Or.inr (⟨rfl, (show ¬ wkb (cos ro.toNatClampNeg) (min i.toNatClampNeg) from by (try rw [show (0 : Int32).toInt = 0 from (show (0 : Int32).toInt = 0 from rfl)]); (first | exact ⟨by assumption, by omega⟩ | exact fun q => q.1 (by assumption) | exact fun q => absurd q.2 (by omega)))⟩)), ht⟩) (fun q h => by cases h) dX3_walkable_30
  · have dc2 : (cos ro.toNatClampNeg).toInt ≠ (-1) := neC rfl (show ((-1) : Int32).toInt = (-1) from rfl) c2
    refine lv_aload_n hx hb dX3_walkable_10 rfl (lv_at hl 0 rfl) ?_
    refine va_get (D := (dC, dI)) (ci := 3) (v := .ref (a 21)) (C := RX3) (T := TX3) (N := 9) hx hb hts inX3 hown hK hP 0 rfl rfl 6 (by decide) lf24 (fun _ h9 => h9) rfl dX3_walkable_11 ?_
    refine lv_iload_n hx hb dX3_walkable_14 rfl (lv_at hl 1 rfl) ?_
    have b3 : vp_in ro 8 := inC rfl (by omega) (by omega)
    refine va_iald hx hb hK hP 5 0 rfl rfl b3 dX3_walkable_15 ?_
    refine lv_aload_n hx hb dX3_walkable_16 rfl (lv_at hl 0 rfl) ?_
    refine va_get (D := (dC, dI)) (ci := 3) (v := .ref (a 17)) (C := RX3) (T := TX3) (N := 9) hx hb hts inX3 hown hK hP 0 rfl rfl 2 (by decide) lf9 (fun _ h9 => h9) rfl dX3_walkable_17 ?_
    refine lv_iload_n hx hb dX3_walkable_20 rfl (lv_at hl 2 rfl) ?_
    have b4 : vp_in i 4 := inC rfl (by omega) (by omega)
    refine va_iald hx hb hK hP 1 0 rfl rfl b4 dX3_walkable_21 ?_
    refine lv_icmp_gt (tgt := 29) hx hb dX3_walkable_22 (by decide) (fun c5 => ?_) (fun c5 => ?_)
    · have dc5 : (min i.toNatClampNeg).toInt < (cos ro.toNatClampNeg).toInt := ltC rfl rfl c5
      refine lv_iconst (v := 0) hx hb dX3_walkable_29 (by decide) ?_
      exact W.zret (v := 0) hx hb hr (by decide) (fun tq ht hW => ⟨0, rfl, (Or.inr (⟨rfl, (show ¬ wkb (cos ro.toNatClampNeg) (min i.toNatClampNeg) from by (try rw [show (0 : Int32).toInt = 0 from (show (0 : Int32).toInt = 0 from rfl)]); (first | exact ⟨by assumption, by omega⟩ | exact fun q => q.1 (by assumption) | exact fun q => absurd q.2 (by omega)))⟩)), ht⟩) (fun q h => by cases h) dX3_walkable_30
    · have dc5 : (cos ro.toNatClampNeg).toInt ≤ (min i.toNatClampNeg).toInt := nltC rfl rfl c5
      refine lv_iconst (v := 1) hx hb dX3_walkable_25 (by decide) ?_
      refine lv_goto (tgt := 30) hx hb dX3_walkable_26 (by decide) ?_
      exact W.zret (v := 1) hx hb hr (by decide) (fun tq ht hW => ⟨1, rfl, (Or.inl (⟨rfl, (show wkb (cos ro.toNatClampNeg) (min i.toNatClampNeg) from by (try rw [show (1 : Int32).toInt = 1 from (show (1 : Int32).toInt = 1 from rfl)]); (first | exact ⟨by assumption, by omega⟩ | exact fun q => q.1 (by assumption) | exact fun q => absurd q.2 (by omega)))⟩)), ht⟩) (fun q h => by cases h) dX3_walkable_30
