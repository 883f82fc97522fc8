set_option maxHeartbeats 4000000 in
set_option maxRecDepth 100000 in
theorem k_X9_thingOf (l : Launch) (dC : Nat → ClassId) (dI : Nat → Nat → Nat) (cI cZ cQ : ClassId) (row : Int64) (k : Int32)  : KR l yX9_thingOf wsX9_thingOf { frames := 0, cells := 0, slots := 0, locals := 0 } (dC, dI) (TY cI cZ cQ) (wNil cI cZ cQ) [.long row, .int k] (fun r : Int32 => ((thF row k).toInt = r.toInt) ∧ (0 ≤ r.toInt) ∧ (r.toInt ≤ 31)) := by
  refine Met.ofW (cc := cX9_thingOf) (maxL := 3) (ret := (some .int)) (by decide) rfl ?_
  intro p e s m args below meth c s₁ B hml hv
  obtain ⟨rfl, hP, hK, hN⟩ := hv
  have hx := B.exec
  have hb := B.bytes
  have hr := B.returns
  have hts := atoms_spec (ws := wsX9_thingOf) B.pre
  have hown : s.vm.findClass RX9 = some m.cls := findClass_of_methodNamed B.named
  have hlocks := B.notSynchronized
  have hl := lv_entry ([.long row, .int k]) (n := 3) (Nat.le_of_ble_eq_true rfl)
  rw [lg_entry_eq]
  generalize (lg_sl ([.long row, .int k]) ++ List.replicate (3 - (lg_sl ([.long row, .int k])).length) Slot.unset).toArray = ls at hl ⊢
  have hl : lv_has ls 3 [(0, .long row), (2, .int k)] := hl
  refine lv_lload_n hx hb dX9_thingOf_0 rfl (lv_at hl 0 rfl) ?_
  refine lv_iconst (v := 5) hx hb dX9_thingOf_1 (by decide) ?_
  refine lv_iload_n hx hb dX9_thingOf_2 rfl (lv_at hl 1 rfl) ?_
  refine lv_imul hx hb dX9_thingOf_3 ?_
  refine lv_lshr hx hb dX9_thingOf_4 rfl ?_
  refine lv_ldc2 (v := 31) hx hb hown (hts (.constantLong RX9 313 (31)) (List.mem_cons_of_mem _ (List.mem_of_getElem? (i := 0) rfl))) dX9_thingOf_5 ?_
  refine lv_land hx hb dX9_thingOf_8 ?_
  refine lv_l2i hx hb dX9_thingOf_9 rfl ?_
  have f1 : 0 ≤ (((row >>> ((5 * k).toInt64 &&& 63)) &&& 31).toInt32).toInt ∧ (((row >>> ((5 * k).toInt64 &&& 63)) &&& 31).toInt32).toInt ≤ 31 := l2iM31 _
  exact W.iret (v := ((row >>> ((5 * k).toInt64 &&& 63)) &&& 31).toInt32) hx hb hr (fun tq ht hW => ⟨((row >>> ((5 * k).toInt64 &&& 63)) &&& 31).toInt32, rfl, ⟨(show (thF row k).toInt = (((row >>> ((5 * k).toInt64 &&& 63)) &&& 31).toInt32).toInt from by rfl), (show 0 ≤ (((row >>> ((5 * k).toInt64 &&& 63)) &&& 31).toInt32).toInt from by omega), (show (((row >>> ((5 * k).toInt64 &&& 63)) &&& 31).toInt32).toInt ≤ 31 from by omega)⟩, ht⟩) (fun q h => by cases h) dX9_thingOf_10
set_option maxHeartbeats 4000000 in
set_option maxRecDepth 100000 in
theorem k_X9_rowRefusal (l : Launch) (dC : Nat → ClassId) (dI : Nat → Nat → Nat) (cI cZ cQ : ClassId) (a : Nat → Nat) (rb0 : Nat) (rb1 : Nat) (rb2 : Nat) (db0 : Nat) (db1 : Nat) (db2 : Nat) (tol : Nat → Int32) (sz : Nat) (row : Int64) (n : Int32) (i : Int32) (least : Int32) (most : Int32) (r_tol : rg 8 (0) (23) tol) (q0 : 1 ≤ least.toInt) (q1 : most.toInt ≤ 8) : KW l yX9_rowRefusal wsX9_rowRefusal { frames := 2, cells := 0, slots := 0, locals := 42 } (dC, dI) (TY cI cZ cQ) (wsTo cI cZ cQ a rb0 rb1 rb2 db0 db1 db2 tol) [.ref (a 43), .long row, .int n, .int i, .int least, .int most] sz 0 0 (fun (r : Int32) (u : US) => ((((r = 0) ∧ (least.toInt ≤ n.toInt) ∧ (n.toInt ≤ most.toInt) ∧ (-1 ≤ i.toInt)) ∨ ((r = (-2))) ∨ ((r = (-3))))) ∧ (rg 8 (0) (23) (u.1 0))) (fun u : US => (wsTo cI cZ cQ a rb0 rb1 rb2 db0 db1 db2 (u.1 0))) := by
  refine Met.ofW (cc := cX9_rowRefusal) (maxL := 11) (ret := (some .int)) (by decide) rfl ?_
  intro p e s m args below meth c s₁ B hml hv
  obtain ⟨rfl, hsz, hP, hK, hD0, hN⟩ := hv
  have hx := B.exec
  have hb := B.bytes
  have hr := B.returns
  have hts := atoms_spec (ws := wsX9_rowRefusal) B.pre
  have hown : s.vm.findClass RX9 = some m.cls := findClass_of_methodNamed B.named
  have hlocks := B.notSynchronized
  have lf69 := hts (.fieldLink RX9 69 "PalaceOfRooms" "told" "[I") (List.mem_cons_of_mem _ (List.mem_append_left _ (List.mem_of_getElem? (i := 4) rfl)))
  have inX9 : ∀ w ∈ wsX90, w ∈ wsX9_rowRefusal := fun w h => List.mem_cons_of_mem _ (List.mem_append_right _ h)
  subst hsz
  have hD := hD0.self (sz := s.heap.size)
  generalize hAe : va_A (wsTo cI cZ cQ a rb0 rb1 rb2 db0 db1 db2 tol) s.heap.size = A at hD ⊢
  have hA : ∀ q : Nat, s.heap.size ≤ q → A q := fun q h => by rw [← hAe]; exact Or.inr h
  have hS : va_S A s.heap s.heap [] := va_S.rf
  have hl := lv_entry ([.ref (a 43), .long row, .int n, .int i, .int least, .int most]) (n := 11) (Nat.le_of_ble_eq_true rfl)
  rw [lg_entry_eq]
  generalize (lg_sl ([.ref (a 43), .long row, .int n, .int i, .int least, .int most]) ++ List.replicate (11 - (lg_sl ([.ref (a 43), .long row, .int n, .int i, .int least, .int most])).length) Slot.unset).toArray = ls at hl ⊢
  have hl : lv_has ls 11 [(0, .ref (a 43)), (1, .long row), (3, .int n), (4, .int i), (5, .int least), (6, .int most)] := hl
  refine lv_iload_n hx hb dX9_rowRefusal_0 rfl (lv_at hl 2 rfl) ?_
  refine lv_bipush (v := 12) hx hb dX9_rowRefusal_1 (by decide) ?_
  refine va_mmin hx hb (by rw [hml]; exact hl.1.symm) hown (hts (.methodLink RX9 285 Lib.Math.min.name) (List.mem_cons_of_mem _ (List.mem_append_left _ (List.mem_of_getElem? (i := 0) rfl)))) (hts (.static Lib.Math.min.name) (List.mem_cons_of_mem _ (List.mem_append_left _ (List.mem_of_getElem? (i := 1) rfl)))) (hts (.initialized "java/lang/Math") (List.mem_cons_of_mem _ (List.mem_append_left _ (List.mem_of_getElem? (i := 2) rfl)))) (hts (.code Lib.Math.min.name Lib.Math.min.code 2 (some .int)) (List.mem_cons_of_mem _ (List.mem_append_left _ (List.mem_of_getElem? (i := 3) rfl)))) (Nat.le_of_ble_eq_true rfl) (Nat.le_of_ble_eq_true rfl) (Nat.le_of_ble_eq_true rfl) (Nat.le_of_ble_eq_true rfl) dX9_rowRefusal_3 ?_
  have f1 : (if (12 : Int32) < n then 12 else n : Int32).toInt = min (n.toInt) (12) := minC rfl (show (12 : Int32).toInt = 12 from rfl)
  refine lv_topi (fun x2 ex2 => ?_)
  have ix2 : x2.toInt = min (n.toInt) (12) := by rw [ex2]; exact f1
  refine lv_istore (lv' := [(7, .int x2), (0, .ref (a 43)), (1, .long row), (3, .int n), (4, .int i), (5, .int least), (6, .int most)]) hx hb dX9_rowRefusal_6 hl (by decide) rfl (fun ls hl => ?_)
  refine lv_iconst (v := 0) hx hb dX9_rowRefusal_8 (by decide) ?_
  refine lv_istore (lv' := [(8, .int 0), (7, .int x2), (0, .ref (a 43)), (1, .long row), (3, .int n), (4, .int i), (5, .int least), (6, .int most)]) hx hb dX9_rowRefusal_9 hl (by decide) rfl (fun ls hl => ?_)
  have L11 : ∀ (nn : Nat) (y11_8 : Int32) (H : Heap) (locs : List Loc) (ls : Array Slot), (0 ≤ (y11_8.toInt)) → ((y11_8.toInt) ≤ 12) → (∀ j : Nat, (j : Int) < (y11_8.toInt) → (thF row (nI j)).toInt ≤ 23) → (12 - (y11_8.toInt)).toNat < nn → va_P (dC, dI) vwCl (wsTo cI cZ cQ a rb0 rb1 rb2 db0 db1 db2 tol) H → va_D A (wsTo cI cZ cQ a rb0 rb1 rb2 db0 db1 db2 tol) → va_S A s.heap H locs → lv_has ls 11 [(0, .ref (a 43)), (1, .long row), (3, .int n), (4, .int i), (5, .int least), (6, .int most), (7, .int x2), (8, .int y11_8)] → W p l e (headSpec wsX9_rowRefusal { frames := 2, cells := 0, slots := 0, locals := 42 }).room s m ([.ref (a 43), .long row, .int n, .int i, .int least, .int most] : List Value).toArray below meth c H locs 0 0 (MQ below (va_Qi (fun (r : Int32) (u : US) => ((((r = 0) ∧ (least.toInt ≤ n.toInt) ∧ (n.toInt ≤ most.toInt) ∧ (-1 ≤ i.toInt)) ∨ ((r = (-2))) ∨ ((r = (-3))))) ∧ (rg 8 (0) (23) (u.1 0))) (Bw (dC, dI) A (fun u : US => (wsTo cI cZ cQ a rb0 rb1 rb2 db0 db1 db2 (u.1 0)))) A) ([.ref (a 43), .long row, .int n, .int i, .int least, .int most] : List Value).toArray s 0 0 A) (F0 m 11 ls []) := by
    intro nn
    induction nn with
    | zero =>
      intro y11_8 H locs ls i11_0 i11_1 i11_2 hm11
      exact absurd hm11 (Nat.not_lt_zero _)
    | succ nn ih11 =>
      intro y11_8 H locs ls i11_0 i11_1 i11_2 hm11 hP hD hS hl
      refine lv_iload hx hb dX9_rowRefusal_11 (lv_at hl 7 rfl) ?_
      refine lv_iload hx hb dX9_rowRefusal_13 (lv_at hl 6 rfl) ?_
      refine lv_icmp_ge (tgt := 39) hx hb dX9_rowRefusal_15 (by decide) (fun c3 => ?_) (fun c3 => ?_)
      · have dc3 : x2.toInt ≤ y11_8.toInt := leC rfl rfl c3
        refine lv_iload_n hx hb dX9_rowRefusal_39 rfl (lv_at hl 2 rfl) ?_
        refine lv_iload hx hb dX9_rowRefusal_40 (lv_at hl 4 rfl) ?_
        refine lv_iload hx hb dX9_rowRefusal_42 (lv_at hl 5 rfl) ?_
        refine rdS (As := [.int n, .int least, .int most]) (rest := []) ⟨hx, hb, hml, hown, hts⟩ (k_X9_within l dC dI cI cZ cQ n least most) (va_cwS 3 hts gX9_rowRefusal_X9_within rfl rfl rfl (by decide +kernel) ⟨Nat.le_of_ble_eq_true rfl, Nat.le_of_ble_eq_true rfl⟩) hP hK hN [] rfl rfl hl.1 rfl (Nat.le_of_ble_eq_true rfl) dX9_rowRefusal_44 ⟨Nat.le_of_ble_eq_true rfl, Nat.le_of_ble_eq_true rfl⟩ (fun r4 h5 => ?_)
        have h5 : ((((r4 = 1) ∧ (least.toInt ≤ n.toInt) ∧ (n.toInt ≤ most.toInt)) ∨ ((r4 = 0) ∧ (n.toInt < least.toInt ∨ most.toInt < n.toInt)))) := h5
        rcases h5 with (⟨rfl, h5_a0, h5_a1⟩ | ⟨rfl, h5_a0⟩)
        · refine lv_if_eq (tgt := 65) hx hb dX9_rowRefusal_47 (by decide) (fun c9 => absurd c9 (by decide)) (fun _ => ?_)
          refine lv_iload_n hx hb dX9_rowRefusal_50 rfl (lv_at hl 2 rfl) ?_
          refine lv_aload_n hx hb dX9_rowRefusal_51 rfl (lv_at hl 0 rfl) ?_
          refine va_get (D := (dC, dI)) (ci := 9) (v := .ref (a 42)) (C := RX9) (T := TX9) (N := 11) hx hb hts inX9 hown hK hP 0 rfl rfl 8 (by decide) lf69 (fun _ h9 => h9) rfl dX9_rowRefusal_52 ?_
          refine va_alen (v := 8) hx hb hK hP 1 0 rfl rfl rfl dX9_rowRefusal_55 ?_
          refine lv_icmp_gt (tgt := 65) hx hb dX9_rowRefusal_56 (by decide) (fun c6 => ?_) (fun c6 => ?_)
          · have dc6 : 8 < n.toInt := ltC (show (8 : Int32).toInt = 8 from rfl) rfl c6
            refine lv_bipush (v := (-3)) hx hb dX9_rowRefusal_65 (by decide) ?_
            exact W.iret (v := (-3)) hx hb hr (fun tq ht hW => ⟨⟨(-3), (uS [tol] 0 (fun _ => 0)), rfl, ⟨(Or.inr (Or.inr rfl)), r_tol⟩, by rw [ht]; exact hP, hD⟩, hS.F ht⟩) hS.2.2 dX9_rowRefusal_67
          · have dc6 : n.toInt ≤ 8 := nltC (show (8 : Int32).toInt = 8 from rfl) rfl c6
            refine lv_iload hx hb dX9_rowRefusal_59 (lv_at hl 3 rfl) ?_
            refine lv_iconst (v := (-1)) hx hb dX9_rowRefusal_61 (by decide) ?_
            refine lv_icmp_ge (tgt := 68) hx hb dX9_rowRefusal_62 (by decide) (fun c7 => ?_) (fun c7 => ?_)
            · have dc7 : (-1) ≤ i.toInt := leC (show ((-1) : Int32).toInt = (-1) from rfl) rfl c7
              refine lv_iconst (v := 0) hx hb dX9_rowRefusal_68 (by decide) ?_
              refine lv_istore (lv' := [(8, .int 0), (0, .ref (a 43)), (1, .long row), (3, .int n), (4, .int i), (5, .int least), (6, .int most), (7, .int x2)]) hx hb dX9_rowRefusal_69 hl (by decide) rfl (fun ls hl => ?_)
              refine lv_iconst (v := 0) hx hb dX9_rowRefusal_71 (by decide) ?_
              refine lv_istore (lv' := [(9, .int 0), (8, .int 0), (0, .ref (a 43)), (1, .long row), (3, .int n), (4, .int i), (5, .int least), (6, .int most), (7, .int x2)]) hx hb dX9_rowRefusal_72 hl (by decide) rfl (fun ls hl => ?_)
              have L74 : ∀ (nn : Nat) (y74_8 : Int32) (y74_9 : Int32) (tol_74 : Nat → Int32) (H : Heap) (locs : List Loc) (ls : Array Slot), (rg 8 (0) (23) tol_74) → (0 ≤ (y74_9.toInt)) → ((y74_9.toInt) ≤ 8) → (8 - (y74_9.toInt)).toNat < nn → va_P (dC, dI) vwCl (wsTo cI cZ cQ a rb0 rb1 rb2 db0 db1 db2 tol_74) H → va_D A (wsTo cI cZ cQ a rb0 rb1 rb2 db0 db1 db2 tol_74) → va_S A s.heap H locs → lv_has ls 11 [(0, .ref (a 43)), (1, .long row), (3, .int n), (8, .int y74_8), (9, .int y74_9)] → W p l e (headSpec wsX9_rowRefusal { frames := 2, cells := 0, slots := 0, locals := 42 }).room s m ([.ref (a 43), .long row, .int n, .int i, .int least, .int most] : List Value).toArray below meth c H locs 0 0 (MQ below (va_Qi (fun (r : Int32) (u : US) => ((((r = 0) ∧ (least.toInt ≤ n.toInt) ∧ (n.toInt ≤ most.toInt) ∧ (-1 ≤ i.toInt)) ∨ ((r = (-2))) ∨ ((r = (-3))))) ∧ (rg 8 (0) (23) (u.1 0))) (Bw (dC, dI) A (fun u : US => (wsTo cI cZ cQ a rb0 rb1 rb2 db0 db1 db2 (u.1 0)))) A) ([.ref (a 43), .long row, .int n, .int i, .int least, .int most] : List Value).toArray s 0 0 A) (F0 m 74 ls []) := by
                intro nn
                induction nn with
                | zero =>
                  intro y74_8 y74_9 tol_74 H locs ls r_tol_74 i74_0 i74_1 hm74
                  exact absurd hm74 (Nat.not_lt_zero _)
                | succ nn ih74 =>
                  intro y74_8 y74_9 tol_74 H locs ls r_tol_74 i74_0 i74_1 hm74 hP hD hS hl
                  refine lv_iload hx hb dX9_rowRefusal_74 (lv_at hl 4 rfl) ?_
                  refine lv_iload_n hx hb dX9_rowRefusal_76 rfl (lv_at hl 2 rfl) ?_
                  refine lv_icmp_ge (tgt := 126) hx hb dX9_rowRefusal_77 (by decide) (fun c8 => ?_) (fun c8 => ?_)
                  · have dc8 : n.toInt ≤ y74_9.toInt := leC rfl rfl c8
                    refine lv_iconst (v := 0) hx hb dX9_rowRefusal_126 (by decide) ?_
                    exact W.iret (v := 0) hx hb hr (fun tq ht hW => ⟨⟨0, (uS [tol_74] 0 (fun _ => 0)), rfl, ⟨(Or.inl (⟨rfl, (show least.toInt ≤ n.toInt from by (try rw [show (0 : Int32).toInt = 0 from (show (0 : Int32).toInt = 0 from rfl)]); omega), (show n.toInt ≤ most.toInt from by (try rw [show (0 : Int32).toInt = 0 from (show (0 : Int32).toInt = 0 from rfl)]); omega), (show -1 ≤ i.toInt from by (try rw [show (0 : Int32).toInt = 0 from (show (0 : Int32).toInt = 0 from rfl)]); omega)⟩)), r_tol_74⟩, by rw [ht]; exact hP, hD⟩, hS.F ht⟩) hS.2.2 dX9_rowRefusal_127
                  · have dc8 : y74_9.toInt < n.toInt := nleC rfl rfl c8
                    refine lv_lload_n hx hb dX9_rowRefusal_80 rfl (lv_at hl 1 rfl) ?_
                    refine lv_iload hx hb dX9_rowRefusal_81 (lv_at hl 4 rfl) ?_
                    refine rdS (As := [.long row, .int y74_9]) (rest := []) ⟨hx, hb, hml, hown, hts⟩ (k_X9_thingOf l dC dI cI cZ cQ row y74_9) (va_cwS 2 hts gX9_rowRefusal_X9_thingOf rfl rfl rfl (by decide +kernel) ⟨Nat.le_of_ble_eq_true rfl, Nat.le_of_ble_eq_true rfl⟩) hP hK hN [] rfl rfl hl.1 rfl (Nat.le_of_ble_eq_true rfl) dX9_rowRefusal_83 ⟨Nat.le_of_ble_eq_true rfl, Nat.le_of_ble_eq_true rfl⟩ (fun r9 h10 => ?_)
                    have h10 : ((thF row y74_9).toInt = r9.toInt) ∧ (0 ≤ r9.toInt) ∧ (r9.toInt ≤ 31) := h10
                    obtain ⟨h10_0, h10_1, h10_2⟩ := h10
                    refine lv_istore (lv' := [(10, .int r9), (0, .ref (a 43)), (1, .long row), (3, .int n), (8, .int y74_8), (9, .int y74_9)]) hx hb dX9_rowRefusal_86 hl (by decide) rfl (fun ls hl => ?_)
                    have kk := i11_2 y74_9.toInt.toNat (by omega)
                    rw [nI_toNat (by omega)] at kk
                    refine lv_iload hx hb dX9_rowRefusal_88 (lv_at hl 4 rfl) ?_
                    refine lv_iload hx hb dX9_rowRefusal_90 (lv_at hl 0 rfl) ?_
                    refine lv_ishr hx hb dX9_rowRefusal_92 ?_
                    refine lv_iconst (v := 1) hx hb dX9_rowRefusal_93 (by decide) ?_
                    refine lv_iand hx hb dX9_rowRefusal_94 ?_
                    have f11 := andR (a := (y74_8 >>> (r9 &&& 31))) (m := 1) (M := 1) rfl (by decide)
                    refine lv_iconst (v := 1) hx hb dX9_rowRefusal_95 (by decide) ?_
                    refine lv_icmp_ne (tgt := 102) hx hb dX9_rowRefusal_96 (by decide) (fun c12 => ?_) (fun c12 => ?_)
                    · have dc12 : ((y74_8 >>> (r9 &&& 31)) &&& 1).toInt ≤ 0 := ka_hi (by omega) (neC rfl (show (1 : Int32).toInt = 1 from rfl) c12)
                      refine lv_iload hx hb dX9_rowRefusal_102 (lv_at hl 4 rfl) ?_
                      refine lv_iconst (v := 1) hx hb dX9_rowRefusal_104 (by decide) ?_
                      refine lv_iload hx hb dX9_rowRefusal_105 (lv_at hl 0 rfl) ?_
                      refine lv_ishl hx hb dX9_rowRefusal_107 ?_
                      refine lv_ior hx hb dX9_rowRefusal_108 ?_
                      refine lv_topi (fun x13 ex13 => ?_)
                      have ix13 : x13.toInt = (y74_8 ||| ((1 : Int32) <<< (r9 &&& 31))).toInt := by rw [ex13]
                      refine lv_istore (lv' := [(8, .int x13), (10, .int r9), (0, .ref (a 43)), (1, .long row), (3, .int n), (9, .int y74_9)]) hx hb dX9_rowRefusal_109 hl (by decide) rfl (fun ls hl => ?_)
                      refine lv_aload_n hx hb dX9_rowRefusal_111 rfl (lv_at hl 2 rfl) ?_
                      refine va_get (D := (dC, dI)) (ci := 9) (v := .ref (a 42)) (C := RX9) (T := TX9) (N := 11) hx hb hts inX9 hown hK hP 0 rfl rfl 8 (by decide) lf69 (fun _ h9 => h9) rfl dX9_rowRefusal_112 ?_
                      refine lv_iload hx hb dX9_rowRefusal_115 (lv_at hl 5 rfl) ?_
                      refine lv_iload hx hb dX9_rowRefusal_117 (lv_at hl 1 rfl) ?_
                      have b14 : vp_in y74_9 8 := inC rfl (by omega) (by omega)
                      have g15 : rg 8 (0) (23) (upd tol_74 y74_9.toNatClampNeg r9) := rg_upd r_tol_74 rfl (by omega) (by omega)
                      refine va_iast hx hb hK hP hD hS 1 0 rfl rfl b14 dX9_rowRefusal_119 (fun H locs hP hD hS => ?_)
                      obtain ⟨tol_u16, etol_u16⟩ : ∃ f : Nat → Int32, f = upd tol_74 y74_9.toNatClampNeg r9 := ⟨_, rfl⟩
                      have rtol_u16 : rg 8 (0) (23) tol_u16 := by rw [etol_u16]; exact g15
                      have hP : va_P (dC, dI) vwCl (wsTo cI cZ cQ a rb0 rb1 rb2 db0 db1 db2 tol_u16) H := by rw [etol_u16]; exact hP
                      have hD : va_D A (wsTo cI cZ cQ a rb0 rb1 rb2 db0 db1 db2 tol_u16) := by rw [etol_u16]; exact hD
                      obtain ⟨z17, ez17⟩ : ∃ y : Int32, y = y74_9 + 1 := ⟨_, rfl⟩
                      have iz17 : z17.toInt = y74_9.toInt + 1 := by rw [ez17]; exact addC rfl rfl (by omega) (by omega)
                      refine lv_iinc (v := z17) (lv' := [(9, .int z17), (8, .int x13), (10, .int r9), (0, .ref (a 43)), (1, .long row), (3, .int n)]) hx hb dX9_rowRefusal_120 hl (k := 5) rfl (by rw [ez17]; rfl) (by decide) rfl (fun ls hl => ?_)
                      refine lv_goto (tgt := 74) hx hb dX9_rowRefusal_123 (by decide) ?_
                      exact ih74 x13 z17 tol_u16 _ _ _ rtol_u16 (by omega) (by omega) (by omega) hP hD hS (lv_sub hl [3, 4, 5, 1, 0] rfl)
                    · have dc12 : ((y74_8 >>> (r9 &&& 31)) &&& 1).toInt = 1 := eqC rfl (show (1 : Int32).toInt = 1 from rfl) c12
                      refine lv_bipush (v := (-3)) hx hb dX9_rowRefusal_99 (by decide) ?_
                      exact W.iret (v := (-3)) hx hb hr (fun tq ht hW => ⟨⟨(-3), (uS [tol_74] 0 (fun _ => 0)), rfl, ⟨(Or.inr (Or.inr rfl)), r_tol_74⟩, by rw [ht]; exact hP, hD⟩, hS.F ht⟩) hS.2.2 dX9_rowRefusal_101
              have kc18 : (0 : Int32).toInt = 0 := rfl
              exact L74 _ 0 0 tol _ _ _ r_tol (by omega) (by omega) (Nat.lt_succ_self _) hP hD hS (lv_sub hl [2, 3, 4, 1, 0] rfl)
            · have dc7 : i.toInt < (-1) := nleC (show ((-1) : Int32).toInt = (-1) from rfl) rfl c7
              refine lv_bipush (v := (-3)) hx hb dX9_rowRefusal_65 (by decide) ?_
              exact W.iret (v := (-3)) hx hb hr (fun tq ht hW => ⟨⟨(-3), (uS [tol] 0 (fun _ => 0)), rfl, ⟨(Or.inr (Or.inr rfl)), r_tol⟩, by rw [ht]; exact hP, hD⟩, hS.F ht⟩) hS.2.2 dX9_rowRefusal_67
        · refine lv_if_eq (tgt := 65) hx hb dX9_rowRefusal_47 (by decide) (fun _ => ?_) (fun c9 => absurd (by decide) c9)
          refine lv_bipush (v := (-3)) hx hb dX9_rowRefusal_65 (by decide) ?_
          exact W.iret (v := (-3)) hx hb hr (fun tq ht hW => ⟨⟨(-3), (uS [tol] 0 (fun _ => 0)), rfl, ⟨(Or.inr (Or.inr rfl)), r_tol⟩, by rw [ht]; exact hP, hD⟩, hS.F ht⟩) hS.2.2 dX9_rowRefusal_67
      · have dc3 : y11_8.toInt < x2.toInt := nleC rfl rfl c3
        refine lv_lload_n hx hb dX9_rowRefusal_18 rfl (lv_at hl 1 rfl) ?_
        refine lv_iload hx hb dX9_rowRefusal_19 (lv_at hl 7 rfl) ?_
        refine rdS (As := [.long row, .int y11_8]) (rest := []) ⟨hx, hb, hml, hown, hts⟩ (k_X9_thingOf l dC dI cI cZ cQ row y11_8) (va_cwS 2 hts gX9_rowRefusal_X9_thingOf rfl rfl rfl (by decide +kernel) ⟨Nat.le_of_ble_eq_true rfl, Nat.le_of_ble_eq_true rfl⟩) hP hK hN [] rfl rfl hl.1 rfl (Nat.le_of_ble_eq_true rfl) dX9_rowRefusal_21 ⟨Nat.le_of_ble_eq_true rfl, Nat.le_of_ble_eq_true rfl⟩ (fun r19 h20 => ?_)
        have h20 : ((thF row y11_8).toInt = r19.toInt) ∧ (0 ≤ r19.toInt) ∧ (r19.toInt ≤ 31) := h20
        obtain ⟨h20_0, h20_1, h20_2⟩ := h20
        refine rdS (As := [.int r19]) (rest := []) ⟨hx, hb, hml, hown, hts⟩ (k_X9_isThing l dC dI cI cZ cQ r19) (va_cwS 1 hts gX9_rowRefusal_X9_isThing rfl rfl rfl (by decide +kernel) ⟨Nat.le_of_ble_eq_true rfl, Nat.le_of_ble_eq_true rfl⟩) hP hK hN [] rfl rfl hl.1 rfl (Nat.le_of_ble_eq_true rfl) dX9_rowRefusal_24 ⟨Nat.le_of_ble_eq_true rfl, Nat.le_of_ble_eq_true rfl⟩ (fun r21 h22 => ?_)
        have h22 : ((((r21 = 1) ∧ (0 ≤ r19.toInt) ∧ (r19.toInt ≤ 23)) ∨ ((r21 = 0) ∧ (r19.toInt < 0 ∨ 23 < r19.toInt)))) := h22
        rcases h22 with (⟨rfl, h22_a0, h22_a1⟩ | ⟨rfl, h22_a0⟩)
        · refine lv_if_ne (tgt := 33) hx hb dX9_rowRefusal_27 (by decide) (fun _ => ?_) (fun c9 => absurd c9 (by decide))
          obtain ⟨z23, ez23⟩ : ∃ y : Int32, y = y11_8 + 1 := ⟨_, rfl⟩
          have iz23 : z23.toInt = y11_8.toInt + 1 := by rw [ez23]; exact addC rfl rfl (by omega) (by omega)
          refine lv_iinc (v := z23) (lv' := [(8, .int z23), (0, .ref (a 43)), (1, .long row), (3, .int n), (4, .int i), (5, .int least), (6, .int most), (7, .int x2)]) hx hb dX9_rowRefusal_33 hl (k := 7) rfl (by rw [ez23]; rfl) (by decide) rfl (fun ls hl => ?_)
          refine lv_goto (tgt := 11) hx hb dX9_rowRefusal_36 (by decide) ?_
          exact ih11 z23 _ _ _ (by omega) (by omega) (by (first | (intro j hj; by_cases e : (j : Int) = y11_8.toInt <;> first | exact i11_2 j (by omega) | (have ej : nI j = y11_8 := (by have := nI_toNat (y := y11_8) (by omega); rw [← this]; congr 1; omega); rw [ej]; omega)) | (intro j hj; omega))) (by omega) hP hD hS (lv_sub hl [1, 2, 3, 4, 5, 6, 7, 0] rfl)
        · refine lv_if_ne (tgt := 33) hx hb dX9_rowRefusal_27 (by decide) (fun c9 => absurd (by decide) c9) (fun _ => ?_)
          refine lv_bipush (v := (-2)) hx hb dX9_rowRefusal_30 (by decide) ?_
          exact W.iret (v := (-2)) hx hb hr (fun tq ht hW => ⟨⟨(-2), (uS [tol] 0 (fun _ => 0)), rfl, ⟨(Or.inr (Or.inl rfl)), r_tol⟩, by rw [ht]; exact hP, hD⟩, hS.F ht⟩) hS.2.2 dX9_rowRefusal_32
  have kc24 : (0 : Int32).toInt = 0 := rfl
  exact L11 _ 0 _ _ _ (by omega) (by omega) (by (first | (intro j hj; omega) | (intro j hj; by_cases e : (j : Int) = y11_8.toInt <;> first | exact i11_2 j (by omega) | (have ej : nI j = y11_8 := (by have := nI_toNat (y := y11_8) (by omega); rw [← this]; congr 1; omega); rw [ej]; omega)))) (Nat.lt_succ_self _) hP hD hS (lv_sub hl [2, 3, 4, 5, 6, 7, 1, 0] rfl)
set_option maxHeartbeats 4000000 in
set_option maxRecDepth 100000 in
theorem k_X9_laid (l : Launch) (dC : Nat → ClassId) (dI : Nat → Nat → Nat) (cI cZ cQ : ClassId) (a : Nat → Nat) (rb0 : Nat) (rb1 : Nat) (rb2 : Nat) (db0 : Nat) (db1 : Nat) (db2 : Nat) (sor : Nat → Int32) (ord : Nat → Int32) (sha : Nat → Int32) (toc : Nat → Int32) (mar : Nat → Int32) (tol : Nat → Int32) (sz : Nat) (row : Int64) (n : Int32) (i : Int32) (r_sor : rg 8 (0) (23) sor) (r_mar : rg 24 (0) (255) mar) (r_tol : rg 8 (0) (23) tol) : KW l yX9_laid wsX9_laid { frames := 5, cells := 0, slots := 0, locals := 120 } (dC, dI) (TY cI cZ cQ) (wsSp cI cZ cQ a rb0 rb1 rb2 db0 db1 db2 sor ord sha toc mar tol) [.ref (a 43), .long row, .int n, .int i] sz 0 0 (fun (r : Int32) (u : US) => (rg 8 (0) (23) (u.1 0)) ∧ (rg 8 (0) (23) (u.1 1))) (fun u : US => (wsSp cI cZ cQ a rb0 rb1 rb2 db0 db1 db2 (u.1 1) (u.1 2) (u.1 3) (u.1 4) mar (u.1 0))) := by
  refine Met.ofW (cc := cX9_laid) (maxL := 7) (ret := (some .int)) (by decide) rfl ?_
  intro p e s m args below meth c s₁ B hml hv
  obtain ⟨rfl, hsz, hP, hK, hD0, hN⟩ := hv
  have hx := B.exec
  have hb := B.bytes
  have hr := B.returns
  have hts := atoms_spec (ws := wsX9_laid) B.pre
  have hown : s.vm.findClass RX9 = some m.cls := findClass_of_methodNamed B.named
  have hlocks := B.notSynchronized
  have lf51 := hts (.fieldLink RX9 51 "PalaceOfRooms" "speech" "LPalaceOfRooms$Speech;") (List.mem_cons_of_mem _ (List.mem_append_left _ (List.mem_append_left _ (List.mem_append_left _ (List.mem_append_left _ (List.mem_of_getElem? (i := 0) rfl))))))
  have inX9 : ∀ w ∈ wsX90, w ∈ wsX9_laid := fun w h => List.mem_cons_of_mem _ (List.mem_append_left _ (List.mem_append_left _ (List.mem_append_right _ h)))
  have lf69 := hts (.fieldLink RX9 69 "PalaceOfRooms" "told" "[I") (List.mem_cons_of_mem _ (List.mem_append_left _ (List.mem_append_left _ (List.mem_append_left _ (List.mem_append_left _ (List.mem_of_getElem? (i := 1) rfl))))))
  have lf197 := hN.use (w := .fieldLinkNest "PalaceOfRooms" 197 "PalaceOfRooms$Speech" "order" "[I" "PalaceOfRooms") (List.mem_of_getElem? (i := 17) rfl) ([.ref (a 43), .long row, .int n, .int i] : List Value).toArray
  have inX6 : ∀ w ∈ wsX60, w ∈ wsX9_laid := fun w h => List.mem_cons_of_mem _ (List.mem_append_left _ (List.mem_append_right _ h))
  subst hsz
  have hD := hD0.self (sz := s.heap.size)
  generalize hAe : va_A (wsSp cI cZ cQ a rb0 rb1 rb2 db0 db1 db2 sor ord sha toc mar tol) s.heap.size = A at hD ⊢
  have hA : ∀ q : Nat, s.heap.size ≤ q → A q := fun q h => by rw [← hAe]; exact Or.inr h
  have hS : va_S A s.heap s.heap [] := va_S.rf
  have hl := lv_entry ([.ref (a 43), .long row, .int n, .int i]) (n := 7) (Nat.le_of_ble_eq_true rfl)
  rw [lg_entry_eq]
  generalize (lg_sl ([.ref (a 43), .long row, .int n, .int i]) ++ List.replicate (7 - (lg_sl ([.ref (a 43), .long row, .int n, .int i])).length) Slot.unset).toArray = ls at hl ⊢
  have hl : lv_has ls 7 [(0, .ref (a 43)), (1, .long row), (3, .int n), (4, .int i)] := hl
  refine lv_aload_n hx hb dX9_laid_0 rfl (lv_at hl 0 rfl) ?_
  refine lv_lload_n hx hb dX9_laid_1 rfl (lv_at hl 1 rfl) ?_
  refine lv_iload_n hx hb dX9_laid_2 rfl (lv_at hl 2 rfl) ?_
  refine lv_iload hx hb dX9_laid_3 (lv_at hl 3 rfl) ?_
  refine lv_iconst (v := 1) hx hb dX9_laid_5 (by decide) ?_
  refine lv_bipush (v := 8) hx hb dX9_laid_6 (by decide) ?_
  have kc1 : (1 : Int32).toInt = 1 := rfl
  have kc8 : (8 : Int32).toInt = 8 := rfl
  refine wrV (As := [.long row, .int n, .int i, .int 1, .int 8]) (rest := []) (wr := [((a 23), .inr (6, [.ref (a 2), .ref (a 24), .ref (a 25), .ref (a 26), .ref (a 27)])), ((a 24), .inl (cI, 8, .inl sor)), ((a 25), .inl (cI, 8, .inl ord)), ((a 26), .inl (cI, 64, .inl sha)), ((a 27), .inl (cI, 2048, .inl toc)), ((a 2), .inr (2, [.ref (a 3)])), ((a 3), .inl (cI, 24, .inl mar))]) (w2 := (fun u : US => (wsSp cI cZ cQ a rb0 rb1 rb2 db0 db1 db2 sor ord sha toc mar (u.1 0)))) ⟨hx, hb, hml, hown, hts⟩ (k_X9_rowRefusal l dC dI cI cZ cQ a rb0 rb1 rb2 db0 db1 db2 tol _ row n i (1 : Int32) (8 : Int32) r_tol (by omega) (by omega)) (cwV 5 hts gX9_laid_X9_rowRefusal rfl rfl rfl (by decide +kernel) ⟨Nat.le_of_ble_eq_true rfl, Nat.le_of_ble_eq_true rfl⟩) hP hD hS hA hK hN [0, 8] [1, 2, 3, 4, 5, 6, 7] [7, 0, 1, 2, 3, 4, 5, 6, 8] rfl rfl (by decide) (by decide) (by decide) (fun _ => rfl) (by decide) 0 9 rfl rfl rfl hl.1 rfl (Nat.le_of_ble_eq_true rfl) dX9_laid_8 ⟨Nat.le_of_ble_eq_true rfl, Nat.le_of_ble_eq_true rfl⟩ (fun r1 u3 H locs h2 hP hD hS => ?_)
  obtain ⟨tol_c4, etol_c4⟩ : ∃ f : Nat → Int32, f = (u3.1 0) := ⟨_, rfl⟩
  have hP : va_P (dC, dI) vwCl (wsSp cI cZ cQ a rb0 rb1 rb2 db0 db1 db2 sor ord sha toc mar tol_c4) H := by rw [etol_c4]; exact hP
  have hD : va_D A (wsSp cI cZ cQ a rb0 rb1 rb2 db0 db1 db2 sor ord sha toc mar tol_c4) := by rw [etol_c4]; exact hD
  have h2 : ((((r1 = 0) ∧ ((1) ≤ n.toInt) ∧ (n.toInt ≤ (8)) ∧ (-1 ≤ i.toInt)) ∨ ((r1 = (-2))) ∨ ((r1 = (-3))))) ∧ (rg 8 (0) (23) tol_c4) := by (try rw [etol_c4]); exact h2
  rcases h2 with ⟨(⟨rfl, h2_a0, h2_a1, h2_a2⟩ | rfl | rfl), h2_0⟩
  · refine lv_istore (lv' := [(5, .int 0), (0, .ref (a 43)), (1, .long row), (3, .int n), (4, .int i)]) hx hb dX9_laid_11 hl (by decide) rfl (fun ls hl => ?_)
    refine lv_iload hx hb dX9_laid_13 (lv_at hl 0 rfl) ?_
    refine lv_if_eq (tgt := 21) hx hb dX9_laid_15 (by decide) (fun _ => ?_) (fun c9 => absurd (by decide) c9)
    refine lv_iload hx hb dX9_laid_21 (lv_at hl 4 rfl) ?_
    refine lv_iload_n hx hb dX9_laid_23 rfl (lv_at hl 3 rfl) ?_
    refine lv_icmp_lt (tgt := 29) hx hb dX9_laid_24 (by decide) (fun c5 => ?_) (fun c5 => ?_)
    · have dc5 : i.toInt < n.toInt := ltC rfl rfl c5
      refine lv_aload_n hx hb dX9_laid_29 rfl (lv_at hl 1 rfl) ?_
      refine va_get (D := (dC, dI)) (ci := 9) (v := .ref (a 23)) (C := RX9) (T := TX9) (N := 11) hx hb hts inX9 hown hK hP 0 rfl rfl 5 (by decide) lf51 (fun _ h9 => h9) rfl dX9_laid_30 ?_
      refine lv_aload_n hx hb dX9_laid_33 rfl (lv_at hl 1 rfl) ?_
      refine va_get (D := (dC, dI)) (ci := 9) (v := .ref (a 42)) (C := RX9) (T := TX9) (N := 11) hx hb hts inX9 hown hK hP 0 rfl rfl 8 (by decide) lf69 (fun _ h9 => h9) rfl dX9_laid_34 ?_
      refine lv_iload_n hx hb dX9_laid_37 rfl (lv_at hl 3 rfl) ?_
      refine wrV (As := [.ref (a 42), .int n]) (rest := []) (wr := [((a 43), .inr (9, [.ref (a 0), .ref (a 2), .ref (a 4), .ref (a 14), .ref (a 16), .ref (a 23), .ref (a 28), .ref (a 33), .ref (a 42), .ref rb0, .ref db0]))]) (w2 := (fun u : US => (wsSp cI cZ cQ a rb0 rb1 rb2 db0 db1 db2 (u.1 0) (u.1 1) (u.1 2) (u.1 3) mar tol_c4))) ⟨hx, hb, hml, hown, hts⟩ (k_X6_layOut l dC dI cI cZ cQ a sor ord sha toc mar tol_c4 _ n r_sor r_mar h2_0 (by omega) (by omega)) (cwV 2 hts gX9_laid_X6_layOut rfl rfl rfl (by decide +kernel) ⟨Nat.le_of_ble_eq_true rfl, Nat.le_of_ble_eq_true rfl⟩) hP hD hS hA hK hN [1, 2, 3, 4, 5, 6, 7, 8] [0] [0, 1, 2, 3, 4, 5, 6, 7, 8] rfl rfl (by decide) (by decide) (by decide) (fun _ => rfl) (by decide) 1 6 rfl rfl rfl hl.1 rfl (Nat.le_of_ble_eq_true rfl) dX9_laid_38 ⟨Nat.le_of_ble_eq_true rfl, Nat.le_of_ble_eq_true rfl⟩ (fun r6 u8 H locs h7 hP hD hS => ?_)
      obtain ⟨sor_c9, esor_c9⟩ : ∃ f : Nat → Int32, f = (u8.1 0) := ⟨_, rfl⟩
      obtain ⟨ord_c10, eord_c10⟩ : ∃ f : Nat → Int32, f = (u8.1 1) := ⟨_, rfl⟩
      obtain ⟨sha_c11, esha_c11⟩ : ∃ f : Nat → Int32, f = (u8.1 2) := ⟨_, rfl⟩
      obtain ⟨toc_c12, etoc_c12⟩ : ∃ f : Nat → Int32, f = (u8.1 3) := ⟨_, rfl⟩
      have hP : va_P (dC, dI) vwCl (wsSp cI cZ cQ a rb0 rb1 rb2 db0 db1 db2 sor_c9 ord_c10 sha_c11 toc_c12 mar tol_c4) H := by rw [esor_c9, eord_c10, esha_c11, etoc_c12]; exact hP
      have hD : va_D A (wsSp cI cZ cQ a rb0 rb1 rb2 db0 db1 db2 sor_c9 ord_c10 sha_c11 toc_c12 mar tol_c4) := by rw [esor_c9, eord_c10, esha_c11, etoc_c12]; exact hD
      have h7 : (rg 8 (0) (23) sor_c9) := by (try rw [esor_c9]); (try rw [eord_c10]); (try rw [esha_c11]); (try rw [etoc_c12]); exact h7
      have h7_0 := h7
      refine lv_istore (lv' := [(6, .int r6), (5, .int 0), (0, .ref (a 43)), (1, .long row), (3, .int n), (4, .int i)]) hx hb dX9_laid_41 hl (by decide) rfl (fun ls hl => ?_)
      refine lv_iload hx hb dX9_laid_43 (lv_at hl 5 rfl) ?_
      refine lv_if_ge (tgt := 53) hx hb dX9_laid_45 (by decide) (fun c13 => ?_) (fun c13 => ?_)
      · have dc13 : 0 ≤ i.toInt := leC (show (0 : Int32).toInt = 0 from rfl) rfl c13
        refine lv_aload_n hx hb dX9_laid_53 rfl (lv_at hl 2 rfl) ?_
        refine va_get (D := (dC, dI)) (ci := 9) (v := .ref (a 23)) (C := RX9) (T := TX9) (N := 11) hx hb hts inX9 hown hK hP 0 rfl rfl 5 (by decide) lf51 (fun _ h9 => h9) rfl dX9_laid_54 ?_
        refine va_getN (D := (dC, dI)) (ci := 6) (v := .ref (a 25)) (C := RX6) (T := TX6) (N := 5) hx hb hts inX6 hown hK hP 1 rfl rfl 2 (by decide) lf197 (fun _ h9 => h9) rfl dX9_laid_57 ?_
        refine lv_iload hx hb dX9_laid_60 (lv_at hl 5 rfl) ?_
        have b14 : vp_in i 8 := inC rfl (by omega) (by omega)
        refine va_iald hx hb hK hP 3 0 rfl rfl b14 dX9_laid_62 ?_
        exact W.iret (v := ord_c10 i.toNatClampNeg) hx hb hr (fun tq ht hW => ⟨⟨ord_c10 i.toNatClampNeg, (uS [tol_c4, sor_c9, ord_c10, sha_c11, toc_c12] 0 (fun _ => 0)), rfl, ⟨h2_0, h7_0⟩, by rw [ht]; exact hP, hD⟩, hS.F ht⟩) hS.2.2 dX9_laid_63
      · have dc13 : i.toInt < 0 := nleC (show (0 : Int32).toInt = 0 from rfl) rfl c13
        refine lv_iload hx hb dX9_laid_48 (lv_at hl 0 rfl) ?_
        refine lv_goto (tgt := 63) hx hb dX9_laid_50 (by decide) ?_
        exact W.iret (v := r6) hx hb hr (fun tq ht hW => ⟨⟨r6, (uS [tol_c4, sor_c9, ord_c10, sha_c11, toc_c12] 0 (fun _ => 0)), rfl, ⟨h2_0, h7_0⟩, by rw [ht]; exact hP, hD⟩, hS.F ht⟩) hS.2.2 dX9_laid_63
    · have dc5 : n.toInt ≤ i.toInt := nltC rfl rfl c5
      refine lv_iconst (v := (-1)) hx hb dX9_laid_27 (by decide) ?_
      exact W.iret (v := (-1)) hx hb hr (fun tq ht hW => ⟨⟨(-1), (uS [tol_c4, sor, ord, sha, toc] 0 (fun _ => 0)), rfl, ⟨h2_0, r_sor⟩, by rw [ht]; exact hP, hD⟩, hS.F ht⟩) hS.2.2 dX9_laid_28
  · refine lv_istore (lv' := [(5, .int (-2)), (0, .ref (a 43)), (1, .long row), (3, .int n), (4, .int i)]) hx hb dX9_laid_11 hl (by decide) rfl (fun ls hl => ?_)
    refine lv_iload hx hb dX9_laid_13 (lv_at hl 0 rfl) ?_
    refine lv_if_eq (tgt := 21) hx hb dX9_laid_15 (by decide) (fun c9 => absurd c9 (by decide)) (fun _ => ?_)
    refine lv_iload hx hb dX9_laid_18 (lv_at hl 0 rfl) ?_
    exact W.iret (v := (-2)) hx hb hr (fun tq ht hW => ⟨⟨(-2), (uS [tol_c4, sor, ord, sha, toc] 0 (fun _ => 0)), rfl, ⟨h2_0, r_sor⟩, by rw [ht]; exact hP, hD⟩, hS.F ht⟩) hS.2.2 dX9_laid_20
  · refine lv_istore (lv' := [(5, .int (-3)), (0, .ref (a 43)), (1, .long row), (3, .int n), (4, .int i)]) hx hb dX9_laid_11 hl (by decide) rfl (fun ls hl => ?_)
    refine lv_iload hx hb dX9_laid_13 (lv_at hl 0 rfl) ?_
    refine lv_if_eq (tgt := 21) hx hb dX9_laid_15 (by decide) (fun c9 => absurd c9 (by decide)) (fun _ => ?_)
    refine lv_iload hx hb dX9_laid_18 (lv_at hl 0 rfl) ?_
    exact W.iret (v := (-3)) hx hb hr (fun tq ht hW => ⟨⟨(-3), (uS [tol_c4, sor, ord, sha, toc] 0 (fun _ => 0)), rfl, ⟨h2_0, r_sor⟩, by rw [ht]; exact hP, hD⟩, hS.F ht⟩) hS.2.2 dX9_laid_20
