set_option maxHeartbeats 4000000 in
set_option maxRecDepth 100000 in
theorem k_X9_commonDivisor2 (l : Launch) (dC : Nat → ClassId) (dI : Nat → Nat → Nat) (cI cZ cQ : ClassId) (x : Int32) (y : Int32) (q0 : 0 ≤ x.toInt) (q1 : x.toInt ≤ 1000) (q2 : 0 ≤ y.toInt) (q3 : y.toInt ≤ 1000) : KR l yX9_commonDivisor wsX9_commonDivisor { frames := 1, cells := 0, slots := 0, locals := 24 } (dC, dI) (TY cI cZ cQ) (wNil cI cZ cQ) [.int x, .int y] (fun r : Int32 => (r.toInt = gcF x.toInt y.toInt) ∧ (0 ≤ r.toInt) ∧ (r.toInt ≤ 1000)) := by
  refine Met.ofW (cc := cX9_commonDivisor) (maxL := 6) (ret := (some .int)) (by decide) rfl ?_
  intro p e s m args below meth c s₁ B hml hv
  obtain ⟨rfl, hP, hK, hN⟩ := hv
  have hx := B.exec
  have hb := B.bytes
  have hr := B.returns
  have hts := atoms_spec (ws := wsX9_commonDivisor) B.pre
  have hown : s.vm.findClass RX9 = some m.cls := findClass_of_methodNamed B.named
  have hlocks := B.notSynchronized
  have hl := lv_entry ([.int x, .int y]) (n := 6) (Nat.le_of_ble_eq_true rfl)
  rw [lg_entry_eq]
  generalize (lg_sl ([.int x, .int y]) ++ List.replicate (6 - (lg_sl ([.int x, .int y])).length) Slot.unset).toArray = ls at hl ⊢
  have hl : lv_has ls 6 [(0, .int x), (1, .int y)] := hl
  refine lv_iload_n hx hb dX9_commonDivisor_0 rfl (lv_at hl 0 rfl) ?_
  refine lv_iload_n hx hb dX9_commonDivisor_1 rfl (lv_at hl 1 rfl) ?_
  refine va_mmax hx hb (by rw [hml]; exact hl.1.symm) hown (hts (.methodLink RX9 280 Lib.Math.max.name) (by decide +kernel)) (hts (.static Lib.Math.max.name) (by decide +kernel)) (hts (.initialized "java/lang/Math") (by decide +kernel)) (hts (.code Lib.Math.max.name Lib.Math.max.code 2 (some .int)) (by decide +kernel)) (Nat.le_of_ble_eq_true rfl) (Nat.le_of_ble_eq_true rfl) (Nat.le_of_ble_eq_true rfl) (Nat.le_of_ble_eq_true rfl) dX9_commonDivisor_2 ?_
  have f1 : (if x < y then y else x : Int32).toInt = max (x.toInt) (y.toInt) := maxC rfl rfl
  refine lv_topi (fun x2 ex2 => ?_)
  have ix2 : x2.toInt = max (x.toInt) (y.toInt) := by rw [ex2]; exact f1
  refine lv_istore_n (lv' := [(2, .int x2), (0, .int x), (1, .int y)]) hx hb dX9_commonDivisor_5 rfl hl (by decide) rfl (fun ls hl => ?_)
  refine lv_iload_n hx hb dX9_commonDivisor_6 rfl (lv_at hl 1 rfl) ?_
  refine lv_iload_n hx hb dX9_commonDivisor_7 rfl (lv_at hl 2 rfl) ?_
  refine va_mmin hx hb (by rw [hml]; exact hl.1.symm) hown (hts (.methodLink RX9 285 Lib.Math.min.name) (by decide +kernel)) (hts (.static Lib.Math.min.name) (by decide +kernel)) (hts (.initialized "java/lang/Math") (by decide +kernel)) (hts (.code Lib.Math.min.name Lib.Math.min.code 2 (some .int)) (by decide +kernel)) (Nat.le_of_ble_eq_true rfl) (Nat.le_of_ble_eq_true rfl) (Nat.le_of_ble_eq_true rfl) (Nat.le_of_ble_eq_true rfl) dX9_commonDivisor_8 ?_
  have f3 : (if y < x then y else x : Int32).toInt = min (x.toInt) (y.toInt) := minC rfl rfl
  refine lv_topi (fun x4 ex4 => ?_)
  have ix4 : x4.toInt = min (x.toInt) (y.toInt) := by rw [ex4]; exact f3
  refine lv_istore_n (lv' := [(3, .int x4), (2, .int x2), (0, .int x), (1, .int y)]) hx hb dX9_commonDivisor_11 rfl hl (by decide) rfl (fun ls hl => ?_)
  refine lv_iconst (v := 0) hx hb dX9_commonDivisor_12 (by decide) ?_
  refine lv_istore (lv' := [(4, .int 0), (3, .int x4), (2, .int x2), (0, .int x), (1, .int y)]) hx hb dX9_commonDivisor_13 hl (by decide) rfl (fun ls hl => ?_)
  have L15 : ∀ (nn : Nat) (y15_2 : Int32) (y15_3 : Int32) (y15_4 : Int32) (ls : Array Slot), (0 ≤ (y15_4.toInt)) → ((y15_4.toInt) ≤ 64) → (0 ≤ (y15_2.toInt)) → ((y15_2.toInt) ≤ 1000) → (0 ≤ (y15_3.toInt)) → ((y15_3.toInt) ≤ 1000) → (gcI x.toInt y.toInt (y15_2.toInt) (y15_3.toInt) (y15_4.toInt)) → (64 - (y15_4.toInt)).toNat < nn → lv_has ls 6 [(2, .int y15_2), (3, .int y15_3), (4, .int y15_4)] → W p l e (headSpec wsX9_commonDivisor { frames := 1, cells := 0, slots := 0, locals := 24 }).room s m ([.int x, .int y] : List Value).toArray below meth c s.heap [] 0 0 (MQ below (QR (fun r : Int32 => (r.toInt = gcF x.toInt y.toInt) ∧ (0 ≤ r.toInt) ∧ (r.toInt ≤ 1000))) ([.int x, .int y] : List Value).toArray s 0 0 (fun _ => False)) (F0 m 15 ls []) := by
    intro nn
    induction nn with
    | zero =>
      intro y15_2 y15_3 y15_4 ls i15_0 i15_1 i15_2 i15_3 i15_4 i15_5 i15_6 hm15
      exact absurd hm15 (Nat.not_lt_zero _)
    | succ nn ih15 =>
      intro y15_2 y15_3 y15_4 ls i15_0 i15_1 i15_2 i15_3 i15_4 i15_5 i15_6 hm15 hl
      refine lv_iload hx hb dX9_commonDivisor_15 (lv_at hl 2 rfl) ?_
      refine lv_bipush (v := 64) hx hb dX9_commonDivisor_17 (by decide) ?_
      refine lv_icmp_ge (tgt := 42) hx hb dX9_commonDivisor_19 (by decide) (fun c5 => ?_) (fun c5 => ?_)
      · have dc5 : 64 ≤ y15_4.toInt := leC (show (64 : Int32).toInt = 64 from rfl) rfl c5
        refine lv_iload_n hx hb dX9_commonDivisor_42 rfl (lv_at hl 0 rfl) ?_
        exact W.iret (v := y15_2) hx hb hr (fun tq ht hW => ⟨y15_2, rfl, ⟨(show y15_2.toInt = gcF x.toInt y.toInt from by (exact gc_end i15_6 (by omega))), (show 0 ≤ y15_2.toInt from by omega), (show y15_2.toInt ≤ 1000 from by omega)⟩, ht⟩) (fun q h => by cases h) dX9_commonDivisor_43
      · have dc5 : y15_4.toInt < 64 := nleC (show (64 : Int32).toInt = 64 from rfl) rfl c5
        refine lv_iload_n hx hb dX9_commonDivisor_22 rfl (lv_at hl 1 rfl) ?_
        refine lv_if_le (tgt := 42) hx hb dX9_commonDivisor_23 (by decide) (fun c6 => ?_) (fun c6 => ?_)
        · have dc6 : y15_3.toInt ≤ 0 := leC rfl (show (0 : Int32).toInt = 0 from rfl) c6
          refine lv_iload_n hx hb dX9_commonDivisor_42 rfl (lv_at hl 0 rfl) ?_
          exact W.iret (v := y15_2) hx hb hr (fun tq ht hW => ⟨y15_2, rfl, ⟨(show y15_2.toInt = gcF x.toInt y.toInt from by (exact gc_end i15_6 (by omega))), (show 0 ≤ y15_2.toInt from by omega), (show y15_2.toInt ≤ 1000 from by omega)⟩, ht⟩) (fun q h => by cases h) dX9_commonDivisor_43
        · have dc6 : 0 < y15_3.toInt := nleC rfl (show (0 : Int32).toInt = 0 from rfl) c6
          refine lv_iload_n hx hb dX9_commonDivisor_26 rfl (lv_at hl 0 rfl) ?_
          refine lv_iload_n hx hb dX9_commonDivisor_27 rfl (lv_at hl 1 rfl) ?_
          refine lv_irem hx hb dX9_commonDivisor_28 (n0C rfl (by omega)) ?_
          have f7 : (y15_2 - y15_2 / y15_3 * y15_3).toInt = (y15_2.toInt) % (y15_3.toInt) := remC rfl rfl (by omega) (by omega)
          have f8 : 0 ≤ (y15_2.toInt) % (y15_3.toInt) := Int.emod_nonneg _ (by omega)
          have f9 : (y15_2.toInt) % (y15_3.toInt) < y15_3.toInt := Int.emod_lt_of_pos _ (by omega)
          refine lv_topi (fun x10 ex10 => ?_)
          have ix10 : x10.toInt = (y15_2.toInt) % (y15_3.toInt) := by rw [ex10]; exact f7
          refine lv_istore (lv' := [(5, .int x10), (2, .int y15_2), (3, .int y15_3), (4, .int y15_4)]) hx hb dX9_commonDivisor_29 hl (by decide) rfl (fun ls hl => ?_)
          refine lv_iload_n hx hb dX9_commonDivisor_31 rfl (lv_at hl 2 rfl) ?_
          refine lv_istore_n (lv' := [(2, .int y15_3), (5, .int x10), (3, .int y15_3), (4, .int y15_4)]) hx hb dX9_commonDivisor_32 rfl hl (by decide) rfl (fun ls hl => ?_)
          refine lv_iload hx hb dX9_commonDivisor_33 (lv_at hl 1 rfl) ?_
          refine lv_istore_n (lv' := [(3, .int x10), (2, .int y15_3), (5, .int x10), (4, .int y15_4)]) hx hb dX9_commonDivisor_35 rfl hl (by decide) rfl (fun ls hl => ?_)
          obtain ⟨z11, ez11⟩ : ∃ y : Int32, y = y15_4 + 1 := ⟨_, rfl⟩
          have iz11 : z11.toInt = y15_4.toInt + 1 := by rw [ez11]; exact addC rfl rfl (by omega) (by omega)
          refine lv_iinc (v := z11) (lv' := [(4, .int z11), (3, .int x10), (2, .int y15_3), (5, .int x10)]) hx hb dX9_commonDivisor_36 hl (k := 3) rfl (by rw [ez11]; rfl) (by decide) rfl (fun ls hl => ?_)
          refine lv_goto (tgt := 15) hx hb dX9_commonDivisor_39 (by decide) ?_
          exact ih15 y15_3 x10 z11 _ (by omega) (by omega) (by omega) (by omega) (by omega) (by omega) (by (first | exact gc_init (by assumption) (by assumption) (by omega) (by omega) (by omega) (by omega) (by first | rfl | omega) | exact gc_step i15_6 (by omega) (by first | rfl | omega) (by omega) (by omega) (by omega))) (by omega) (lv_sub hl [2, 1, 0] rfl)
  have kc12 : (0 : Int32).toInt = 0 := rfl
  exact L15 _ x2 x4 0 _ (by omega) (by omega) (by omega) (by omega) (by omega) (by omega) (by (first | exact gc_init (by assumption) (by assumption) (by omega) (by omega) (by omega) (by omega) (by first | rfl | omega) | exact gc_step i15_6 (by omega) (by first | rfl | omega) (by omega) (by omega) (by omega))) (Nat.lt_succ_self _) (lv_sub hl [2, 1, 0] rfl)
