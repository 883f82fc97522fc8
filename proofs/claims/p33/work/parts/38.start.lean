set_option maxHeartbeats 4000000 in
set_option maxRecDepth 100000 in
theorem whole_start {p : Program} {e : Env} {s : State} {m : MethodId} {below : List Frame} {meth : Method} {c : Code} (l : Launch) {b L : Nat} {xs : Nat → Int32} (hL : L ≤ 2560) (C0 : lw_At p s m meth c b L xs) : W p l e room_1 s m #[Value.ref b] below meth c s.heap [] 0 0 (lw_Z below #[Value.ref b] s) (entryFrame m ([Value.ref b] : List Value).toArray 4) := by
  obtain ⟨hx, hb, hr, hml, hown, hts0, hX, hbl, hlocks, hgv⟩ := id C0
  have hts : ∀ w ∈ wsL_law, w.before #[Value.ref b] s = true := fun w h => hts0 w (wsL_law_in w h)
  have hA : ∀ q : Nat, s.heap.size ≤ q → AL s q := fun _ h => h
  have hA2 : ∀ a : Nat, a < s.heap.size → ¬ AL s a := fun a h => Nat.not_le.mpr h
  obtain ⟨dC, dI, hKc⟩ := ls_known hts
  obtain ⟨cI, cZ, cQ, hKa⟩ := ls_arrs hts0
  have hK : va_K (dC, dI) vwCl (TY cI cZ cQ) s := ⟨hKc, hKa⟩
  have hN : NW s := fun w hw => va_Nw.of (nw_on (List.all_eq_true.mp NWs_is w hw)) (hts0 w (NWs_tbl w hw))
  obtain ⟨ak, av, hSV⟩ := ls_strs hts0 hgv
  have hAO : va_AO "PalaceOfRooms$Pupil" s := va_AO.of (hts0 (.arrayOver (.object "PalaceOfRooms$Pupil")) ls_over)
  have hS : va_S (AL s) s.heap s.heap [] := va_S.rf
  have hP : va_P (dC, dI) vwCl [] s.heap := fun k q h => by simp at h
  have hD : va_D (AL s) [] := ⟨fun i j p q h => by simp at h, fun k q h => by simp at h⟩
  have hl := lv_entry ([.ref b]) (n := 4) (Nat.le_of_ble_eq_true rfl)
  rw [lg_entry_eq]
  generalize (lg_sl ([.ref b]) ++ List.replicate (4 - (lg_sl ([.ref b])).length) Slot.unset).toArray = ls at hl ⊢
  have hl : lv_has ls 4 [(0, .ref b)] := hl
  refine va_new (ci := 9) (fs := [.null, .null, .null, .null, .null, .null, .null, .null, .null, .null, .null]) (C := RX9) (T := TX9) (N := 11) hx hb hts inlX9 tyX9 tyX9_ok hown (hts (.classLink RL 7 RX9) (by decide +kernel)) (hts (.instantiable RX9 11) (by decide +kernel)) (hts (.initialized RX9) (by decide +kernel)) hK hP hD hS hA rfl (by decide +kernel) (Nat.le_of_ble_eq_true rfl) (Nat.le_of_ble_eq_true rfl) dL_law_0 (fun q9 H hP hD hS => ?_)
  have hP : va_P (dC, dI) vwCl [(q9, .inr (9, [.null, .null, .null, .null, .null, .null, .null, .null, .null, .null, .null]))] H := hP
  have hD : va_D (AL s) [(q9, .inr (9, [.null, .null, .null, .null, .null, .null, .null, .null, .null, .null, .null]))] := hD
  refine W.widen (k := 1) (n := 11) (by decide) (by decide) ?_
  refine lv_dup hx hb dL_law_3 rfl ?_
  have hFc := va_free (wc := [(q9, .inr (9, [.null, .null, .null, .null, .null, .null, .null, .null, .null, .null, .null]))]) hD hS hA [0] rfl
  have hp : PreS s H (PcWA (dC, dI) (TY cI cZ cQ) [(q9, .inr (9, [.null, .null, .null, .null, .null, .null, .null, .null, .null, .null, .null]))] [.ref q9] H.size) [.ref q9] := ⟨PcWA_blind, fun U hU hW => ⟨rfl, by rw [hU], by rw [hU]; exact hP, va_K.moved hW.alike hK, hD.weaken (fun _ _ _ _ => trivial), hN.warm hW, va_AO.moved hW.alike hAO⟩⟩
  refine va_callv (va_runI (As := []) (rest := [.ref q9]) ⟨hx, hb, hml, hown, hts⟩ (k_X9_init l dC dI cI cZ cQ q9 H.size) (cwI 0 hts gL_law_X9_init rfl rfl rfl (hts (.initialized RX9) (by decide +kernel)) (hts (.methodLink RL 9 yX9_init) (by decide +kernel)) (hts (.instanceMethod yX9_init) (by decide +kernel)) rfl (by decide +kernel) ⟨Nat.le_of_ble_eq_true rfl, Nat.le_of_ble_eq_true rfl⟩) hp rfl rfl hl.1 rfl (lv_room (Nat.le_of_ble_eq_true rfl)) dL_law_4 ⟨Nat.le_of_ble_eq_true rfl, Nat.le_of_ble_eq_true rfl⟩) hS (fun q _ h => hFc q h) hFc (fun u t H1 locs ht hvm hw hB hz1 hk1 hS => ?_)
  obtain ⟨hP1, hD1⟩ := hB
  rw [ht] at hP1
  obtain ⟨hP, hD⟩ := va_join (wr := []) (w1 := wPU cI cZ cQ u) hP hD [0] [] rfl rfl (by decide) (by decide) hk1 hFc hP1 hD1
  generalize H1 = H at hP hS ⊢
  have hP : va_P (dC, dI) vwCl (wPU cI cZ cQ u) H := hP
  have hD : va_D (AL s) (wPU cI cZ cQ u) := hD
  refine W.widen (k := 50) (n := 3420) (by decide) (by decide) ?_
  refine lv_astore_n (lv' := [(1, .ref q9), (0, .ref b)]) hx hb dL_law_7 rfl hl (by decide) rfl (fun ls hl => ?_)
  refine va_new (ci := 10) (fs := [.int 0, .int 0, .null, .null, .null, .null, .int 0, .int 0, .null, .null, .null, .null, .null, .null, .null, .null, .null, .null, .null, .int 0, .null, .int 0, .int 0, .long 0, .int 0, .int 0, .int 0, .int 0, .null, .int 0, .null, .null, .null, .null, .int 0, .null, .null, .null, .null]) (C := RX10) (T := TX10) (N := 39) hx hb hts inlX10 tyX10 tyX10_ok hown (hts (.classLink RL 10 RX10) (by decide +kernel)) (hts (.instantiable RX10 39) (by decide +kernel)) (hts (.initialized RX10) (by decide +kernel)) hK hP hD hS hA rfl (by decide +kernel) (Nat.le_of_ble_eq_true rfl) (Nat.le_of_ble_eq_true rfl) dL_law_8 (fun q10 H hP hD hS => ?_)
  refine W.widen (k := 51) (n := 3459) (by decide) (by decide) ?_
  refine lv_dup hx hb dL_law_11 rfl ?_
  refine wvI (As := []) (rest := [.ref q10]) (wc := [(q10, .inr (10, [.int 0, .int 0, .null, .null, .null, .null, .int 0, .int 0, .null, .null, .null, .null, .null, .null, .null, .null, .null, .null, .null, .int 0, .null, .int 0, .int 0, .long 0, .int 0, .int 0, .int 0, .int 0, .null, .int 0, .null, .null, .null, .null, .int 0, .null, .null, .null, .null]))]) (wr := wPU cI cZ cQ u) (w2 := fun v : US => wPU cI cZ cQ u ++ wMU cI cZ cQ v) ⟨hx, hb, hml, hown, hts⟩ (k_X10_init l dC dI cI cZ cQ q10 _) (cwI 0 hts gL_law_X10_init rfl rfl rfl (hts (.initialized RX10) (by decide +kernel)) (hts (.methodLink RL 12 yX10_init) (by decide +kernel)) (hts (.instanceMethod yX10_init) (by decide +kernel)) rfl (by decide +kernel) ⟨Nat.le_of_ble_eq_true rfl, Nat.le_of_ble_eq_true rfl⟩) hP hD hS hA hK hN [50] [0, 1, 2, 3, 4, 5, 6, 7, 8, 9, 10, 11, 12, 13, 14, 15, 16, 17, 18, 19, 20, 21, 22, 23, 24, 25, 26, 27, 28, 29, 30, 31, 32, 33, 34, 35, 36, 37, 38, 39, 40, 41, 42, 43, 44, 45, 46, 47, 48, 49] [0, 1, 2, 3, 4, 5, 6, 7, 8, 9, 10, 11, 12, 13, 14, 15, 16, 17, 18, 19, 20, 21, 22, 23, 24, 25, 26, 27, 28, 29, 30, 31, 32, 33, 34, 35, 36, 37, 38, 39, 40, 41, 42, 43, 44, 45, 46, 47, 48, 49, 50, 51, 52, 53, 54, 55, 56, 57, 58, 59, 60, 61, 62, 63, 64, 65, 66, 67, 68, 69, 70, 71, 72, 73, 74, 75] rfl rfl (by decide) (by decide) (by decide) (fun _ => rfl) (by decide) rfl hl.1 rfl (Nat.le_of_ble_eq_true rfl) dL_law_12 ⟨Nat.le_of_ble_eq_true rfl, Nat.le_of_ble_eq_true rfl⟩ (fun v H locs hv hP hD hS => ?_)
  refine W.widen (k := 76) (n := 4711) (by decide) (by decide) ?_
  refine lv_astore_n (lv' := [(2, .ref q10), (1, .ref q9), (0, .ref b)]) hx hb dL_law_15 rfl hl (by decide) rfl (fun ls hl => ?_)
  refine lv_iconst (v := 0) hx hb dL_law_16 (by decide) ?_
  refine lv_istore_n (lv' := [(3, .int 0), (2, .ref q10), (1, .ref q9), (0, .ref b)]) hx hb dL_law_17 rfl hl (by decide) rfl (fun ls hl => ?_)
  obtain ⟨xu, xa, x1, x2, x3, x4, x5, x6, x7, x8, x9, x10, x11, x12, x13, x14, x15, x16, x17, x18, x19, x20, x21, x22, x23, x24, x25, x26, x27⟩ := hw
  obtain ⟨mu, ma, m1, m2, m3, m4, m5, m6, m7, m8, m9, m10, m11, m12, m13, m14, m15⟩ := hv
  exact law_loop ⟨hx, hb, hml, hown, hts, hX, hbl, hK, hN, hSV⟩ hr hlocks hL 2571 0 u v H locs ls (by decide) (by decide) (by decide) ⟨xu, mu, xa, ma, ⟨x1.trans m1.symm, x2.trans m2.symm, x3.trans m3.symm, fun j hj => (x4 j hj).trans (m4 j hj).symm, x5.trans m5.symm, x6.trans m6.symm, fun j hj => by rw [x7, x8, x9, x10, m7]; exact aF_0 j hj, fun j hj => (x11 j hj).trans (m8 j hj).symm, ⟨fun j hj => ⟨(x11 j hj).trans (m8 j hj).symm, (x12 j hj).trans (m9 j hj).symm, (x13 j hj).trans (m10 j hj).symm, fun z => absurd (x11 j hj) z, fun z => absurd (x12 j hj) z⟩, fun j hj => (x14 j hj).trans (m11 j hj).symm⟩, do_init x15 x16 m12, x17.trans m13.symm, x18.trans m14.symm, bk_init x19 x20 x21 x22 x23 m15, pu_init x24 x25 x26 x27 m7⟩, hP, hD, hS⟩ (lv_sub hl [3, 2, 1, 0] rfl)
