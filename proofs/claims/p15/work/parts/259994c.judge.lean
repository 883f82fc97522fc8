set_option maxHeartbeats 4000000 in
set_option maxRecDepth 100000 in
theorem k_X3_takeRooms2 (l : Launch) (dC : Nat → ClassId) (dI : Nat → Nat → Nat) (cI cZ cQ : ClassId) (a : Nat → Nat) (min : Nat → Int32) (tri : Nat → Int32) (bes : Nat → Int32) (wkd : Nat → Int32) (cos : Nat → Int32) (rst : Nat → Int32) (bst : Int32) (top : Nat → Int32) (str : Nat → Int32) (gho : Nat → Int32) (ghs : Nat → Int32) (pto : Nat → Int32) (cro : Nat → Int32) (pla : Nat → Int32) (wal : Nat → Int32) (fal : Nat → Int32) (tel : Int32) (gai : Int32) (day : Int32) (mar : Nat → Int32) (few : Nat → Int32) (doo : Int32) (sz : Nat) (rw : Int32) (n : Int32) (r_wkd : rg 8 (0) (15) wkd) (r_top : rg 48 (-1) (23) top) (r_str : rg 48 (0) (100) str) (r_gho : rg 48 (-1) (23) gho) (r_ghs : rg 48 (0) (100) ghs) (r_cro : rg 48 (0) (6) cro) (r_pla : rg 24 (-1) (47) pla) (r_fal : rg 11 (0) (30) fal) (r_gai : 0 ≤ gai.toInt ∧ gai.toInt ≤ 100) (r_day : 0 ≤ day.toInt ∧ day.toInt ≤ 400) (r_mar : rg 24 (0) (255) mar) (q0 : 1 ≤ n.toInt) (q1 : n.toInt ≤ 4) : KW l yX3_takeRooms wsX3_takeRooms { frames := 0, cells := 0, slots := 0, locals := 0 } (dC, dI) (TY cI cZ cQ) (wPln cI cZ cQ a min tri bes wkd cos rst bst top str gho ghs pto cro pla wal fal tel gai day mar few doo) [.ref (a 16), .int rw, .int n] sz 0 0 (fun (r : Int32) (u : US) => ((((r = 1) ∧ (twI (rmW rw) 8 n.toInt (u.1 0))) ∨ ((r = 0) ∧ (∃ j : Nat, (j : Int) < n.toInt ∧ 8 < (rmW rw j).toInt))))) (fun u : US => (wPln cI cZ cQ a min (u.1 0) bes wkd cos rst bst top str gho ghs pto cro pla wal fal tel gai day mar few doo)) := by
  refine Met.ofW (cc := cX3_takeRooms) (maxL := 4) (ret := (some .boolean)) (by decide) rfl ?_
  intro p e s m args below meth c s₁ B hml hv
  obtain ⟨rfl, hsz, hP, hK, hD0, hN⟩ := hv
  have hx := B.exec
  have hb := B.bytes
  have hr := B.returns
  have hts := atoms_spec (ws := wsX3_takeRooms) B.pre
  have hown : s.vm.findClass RX3 = some m.cls := findClass_of_methodNamed B.named
  have hlocks := B.notSynchronized
  have lf15 := hts (.fieldLink RX3 15 "PalaceOfRooms$Planner" "trial" "[I") (List.mem_cons_of_mem _ (List.mem_append_left _ (List.mem_of_getElem? (i := 0) rfl)))
  have inX3 : ∀ w ∈ wsX30, w ∈ wsX3_takeRooms := fun w h => List.mem_cons_of_mem _ (List.mem_append_right _ h)
  subst hsz
  have hD := hD0.self (sz := s.heap.size)
  generalize hAe : va_A (wPln cI cZ cQ a min tri bes wkd cos rst bst top str gho ghs pto cro pla wal fal tel gai day mar few doo) s.heap.size = A at hD ⊢
  have hA : ∀ q : Nat, s.heap.size ≤ q → A q := fun q h => by rw [← hAe]; exact Or.inr h
  have hS : va_S A s.heap s.heap [] := va_S.rf
  have hl := lv_entry ([.ref (a 16), .int rw, .int n]) (n := 4) (Nat.le_of_ble_eq_true rfl)
  rw [lg_entry_eq]
  generalize (lg_sl ([.ref (a 16), .int rw, .int n]) ++ List.replicate (4 - (lg_sl ([.ref (a 16), .int rw, .int n])).length) Slot.unset).toArray = ls at hl ⊢
  have hl : lv_has ls 4 [(0, .ref (a 16)), (1, .int rw), (2, .int n)] := hl
  refine lv_iconst (v := 0) hx hb dX3_takeRooms_0 (by decide) ?_
  refine lv_istore_n (lv' := [(3, .int 0), (0, .ref (a 16)), (1, .int rw), (2, .int n)]) hx hb dX3_takeRooms_1 rfl hl (by decide) rfl (fun ls hl => ?_)
  have L2 : ∀ (nn : Nat) (y2_3 : Int32) (tri_2 : Nat → Int32) (H : Heap) (locs : List Loc) (ls : Array Slot), (0 ≤ (y2_3.toInt)) → ((y2_3.toInt) ≤ 4) → (twI (rmW rw) 8 (y2_3.toInt) tri_2) → ((y2_3.toInt) ≤ n.toInt) → (4 - (y2_3.toInt)).toNat < nn → va_P (dC, dI) vwCl (wPln cI cZ cQ a min tri_2 bes wkd cos rst bst top str gho ghs pto cro pla wal fal tel gai day mar few doo) H → va_D A (wPln cI cZ cQ a min tri_2 bes wkd cos rst bst top str gho ghs pto cro pla wal fal tel gai day mar few doo) → va_S A s.heap H locs → lv_has ls 4 [(0, .ref (a 16)), (1, .int rw), (2, .int n), (3, .int y2_3)] → W p l e (headSpec wsX3_takeRooms { frames := 0, cells := 0, slots := 0, locals := 0 }).room s m ([.ref (a 16), .int rw, .int n] : List Value).toArray below meth c H locs 0 0 (MQ below (va_Qi (fun (r : Int32) (u : US) => ((((r = 1) ∧ (twI (rmW rw) 8 n.toInt (u.1 0))) ∨ ((r = 0) ∧ (∃ j : Nat, (j : Int) < n.toInt ∧ 8 < (rmW rw j).toInt))))) (Bw (dC, dI) A (fun u : US => (wPln cI cZ cQ a min (u.1 0) bes wkd cos rst bst top str gho ghs pto cro pla wal fal tel gai day mar few doo))) A) ([.ref (a 16), .int rw, .int n] : List Value).toArray s 0 0 A) (F0 m 2 ls []) := by
    intro nn
    induction nn with
    | zero =>
      intro y2_3 tri_2 H locs ls i2_0 i2_1 i2_2 i2_3 hm2
      exact absurd hm2 (Nat.not_lt_zero _)
    | succ nn ih2 =>
      intro y2_3 tri_2 H locs ls i2_0 i2_1 i2_2 i2_3 hm2 hP hD hS hl
      refine lv_iload_n hx hb dX3_takeRooms_2 rfl (lv_at hl 3 rfl) ?_
      refine lv_iload_n hx hb dX3_takeRooms_3 rfl (lv_at hl 2 rfl) ?_
      refine lv_icmp_ge (tgt := 40) hx hb dX3_takeRooms_4 (by decide) (fun c1 => ?_) (fun c1 => ?_)
      · have dc1 : n.toInt ≤ y2_3.toInt := leC rfl rfl c1
        refine lv_iconst (v := 1) hx hb dX3_takeRooms_40 (by decide) ?_
        exact W.zret (v := 1) hx hb hr (by decide) (fun tq ht hW => ⟨⟨1, (uS [tri_2] 0 (fun _ => 0)), rfl, (Or.inl (⟨rfl, (show twI (rmW rw) 8 n.toInt tri_2 from by (try rw [show (1 : Int32).toInt = 1 from (show (1 : Int32).toInt = 1 from rfl)]); (first | exact ti_c i2_2 (by omega) | exact tk_no (rm_at (y := y2_3) (by assumption) (by omega)) (by omega) (by omega)))⟩)), by rw [ht]; exact hP, hD⟩, hS.F ht⟩) hS.2.2 dX3_takeRooms_41
      · have dc1 : y2_3.toInt < n.toInt := nleC rfl rfl c1
        refine lv_aload_n hx hb dX3_takeRooms_7 rfl (lv_at hl 0 rfl) ?_
        refine va_get (D := (dC, dI)) (ci := 3) (v := .ref (a 18)) (C := RX3) (T := TX3) (N := 9) hx hb hts inX3 hown hK hP 0 rfl rfl 3 (by decide) lf15 (fun _ h9 => h9) rfl dX3_takeRooms_8 ?_
        refine lv_iload_n hx hb dX3_takeRooms_11 rfl (lv_at hl 3 rfl) ?_
        refine lv_iload_n hx hb dX3_takeRooms_12 rfl (lv_at hl 1 rfl) ?_
        refine lv_iconst (v := 4) hx hb dX3_takeRooms_13 (by decide) ?_
        refine lv_iload_n hx hb dX3_takeRooms_14 rfl (lv_at hl 3 rfl) ?_
        refine lv_imul hx hb dX3_takeRooms_15 ?_
        have f2 : (4 * y2_3).toInt = (4) * (y2_3.toInt) := mulC (show (4 : Int32).toInt = 4 from rfl) rfl (by omega) (by omega)
        refine lv_ishr hx hb dX3_takeRooms_16 ?_
        refine lv_bipush (v := 15) hx hb dX3_takeRooms_17 (by decide) ?_
        refine lv_iand hx hb dX3_takeRooms_19 ?_
        have f3 := andR (a := (rw >>> ((4 * y2_3) &&& 31))) (m := 15) (M := 15) rfl (by decide)
        refine lv_topi (fun x4 ex4 => ?_)
        have ix4 : x4.toInt = ((rw >>> ((4 * y2_3) &&& 31)) &&& 15).toInt := by rw [ex4]
        have b5 : vp_in y2_3 4 := inC rfl (by omega) (by omega)
        refine va_iast hx hb hK hP hD hS 2 0 rfl rfl b5 dX3_takeRooms_20 (fun H locs hP hD hS => ?_)
        obtain ⟨tri_u6, etri_u6⟩ : ∃ f : Nat → Int32, f = upd tri_2 y2_3.toNatClampNeg x4 := ⟨_, rfl⟩
        have hP : va_P (dC, dI) vwCl (wPln cI cZ cQ a min tri_u6 bes wkd cos rst bst top str gho ghs pto cro pla wal fal tel gai day mar few doo) H := by rw [etri_u6]; exact hP
        have hD : va_D A (wPln cI cZ cQ a min tri_u6 bes wkd cos rst bst top str gho ghs pto cro pla wal fal tel gai day mar few doo) := by rw [etri_u6]; exact hD
        refine lv_aload_n hx hb dX3_takeRooms_21 rfl (lv_at hl 0 rfl) ?_
        refine va_get (D := (dC, dI)) (ci := 3) (v := .ref (a 18)) (C := RX3) (T := TX3) (N := 9) hx hb hts inX3 hown hK hP 0 rfl rfl 3 (by decide) lf15 (fun _ h9 => h9) rfl dX3_takeRooms_22 ?_
        refine lv_iload_n hx hb dX3_takeRooms_25 rfl (lv_at hl 3 rfl) ?_
        have b7 : vp_in y2_3 4 := inC rfl (by omega) (by omega)
        refine va_iald hx hb hK hP 2 0 rfl rfl b7 dX3_takeRooms_26 ?_
        have o8 : (tri_u6 y2_3.toNatClampNeg).toInt = x4.toInt := by rw [etri_u6, pk_us]
        refine lv_bipush (v := 8) hx hb dX3_takeRooms_27 (by decide) ?_
        refine lv_icmp_le (tgt := 34) hx hb dX3_takeRooms_29 (by decide) (fun c9 => ?_) (fun c9 => ?_)
        · have dc9 : (tri_u6 y2_3.toNatClampNeg).toInt ≤ 8 := leC rfl (show (8 : Int32).toInt = 8 from rfl) c9
          obtain ⟨z10, ez10⟩ : ∃ y : Int32, y = y2_3 + 1 := ⟨_, rfl⟩
          have iz10 : z10.toInt = y2_3.toInt + 1 := by rw [ez10]; exact addC rfl rfl (by omega) (by omega)
          refine lv_iinc (v := z10) (lv' := [(3, .int z10), (0, .ref (a 16)), (1, .int rw), (2, .int n)]) hx hb dX3_takeRooms_34 hl (k := 3) rfl (by rw [ez10]; rfl) (by decide) rfl (fun ls hl => ?_)
          refine lv_goto (tgt := 2) hx hb dX3_takeRooms_37 (by decide) ?_
          exact ih2 z10 tri_u6 _ _ _ (by omega) (by omega) (by (first | exact ti_s i2_2 (by assumption) (rm_at (by assumption) (by omega)) (by omega) (by omega) (by omega) | exact ti_0 (by first | rfl | omega))) (by omega) (by omega) hP hD hS (lv_sub hl [1, 2, 3, 0] rfl)
        · have dc9 : 8 < (tri_u6 y2_3.toNatClampNeg).toInt := nleC rfl (show (8 : Int32).toInt = 8 from rfl) c9
          refine lv_iconst (v := 0) hx hb dX3_takeRooms_32 (by decide) ?_
          exact W.zret (v := 0) hx hb hr (by decide) (fun tq ht hW => ⟨⟨0, (uS [tri_u6] 0 (fun _ => 0)), rfl, (Or.inr (⟨rfl, (show ∃ j : Nat, (j : Int) < n.toInt ∧ 8 < (rmW rw j).toInt from by (try rw [show (0 : Int32).toInt = 0 from (show (0 : Int32).toInt = 0 from rfl)]); (first | exact ti_c i2_2 (by omega) | exact tk_no (rm_at (y := y2_3) (by assumption) (by omega)) (by omega) (by omega)))⟩)), by rw [ht]; exact hP, hD⟩, hS.F ht⟩) hS.2.2 dX3_takeRooms_33
  have kc11 : (0 : Int32).toInt = 0 := rfl
  exact L2 _ 0 tri _ _ _ (by omega) (by omega) (by (first | exact ti_s i2_2 (by assumption) (rm_at (by assumption) (by omega)) (by omega) (by omega) (by omega) | exact ti_0 (by first | rfl | omega))) (by omega) (Nat.lt_succ_self _) hP hD hS (lv_sub hl [1, 2, 3, 0] rfl)
