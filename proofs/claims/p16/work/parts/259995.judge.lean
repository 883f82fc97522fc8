theorem am_k {n mi f : Int32} {i : Int} (q : amI n mi i f) (h : ¬ f = 0) : 1 ≤ n.toInt ∧ n.toInt ≤ 4 := by
  rcases q with ⟨_, a, _⟩ | ⟨a, _⟩
  · exact a
  · exact absurd a h
theorem am_f {n mi f : Int32} {i : Int} (q : amI n mi i f) : f = 1 ∨ f = 0 := q.imp (fun a => a.1) (fun a => a.1)
theorem am_e {n mi f : Int32} {i : Int} (q : amI n mi i f) (h : f = 0 ∨ n.toInt ≤ i ∨ f.toInt = 0) : (f = 1 ∧ 1 ≤ n.toInt ∧ n.toInt ≤ 4 ∧ ∀ j : Nat, (j : Int) < n.toInt → (mnW mi j).toInt < 100) ∨ (f = 0 ∧ (n.toInt < 1 ∨ 4 < n.toInt ∨ ∃ j : Nat, (j : Int) < n.toInt ∧ 99 < (mnW mi j).toInt)) := by
  rcases q with ⟨a, b, c⟩ | ⟨a, b⟩
  · rcases h with h | h | h
    · rw [a] at h; exact absurd h (by decide)
    · exact .inl ⟨a, b.1, b.2, fun j hj => c j (by omega)⟩
    · rw [a] at h; exact absurd h (by decide)
  · exact .inr ⟨a, b⟩
theorem aa_of {A : Nat → Int32} {x t y : Int32} {R L : Int} (h : R = L + (A x.toNatClampNeg).toInt) (hx : x.toInt = t.toInt + y.toInt) (h0 : 0 ≤ t.toInt) (h1 : 0 ≤ y.toInt) : R = L + (A (t.toInt.toNat + y.toNatClampNeg)).toInt := by
  rw [show t.toInt.toNat + y.toNatClampNeg = x.toNatClampNeg by rw [clC hx, clC (x := y) rfl]; omega]; exact h
theorem ig_st {A A1 : Nat → Int32} {b i : Int} (q : cpL A A1 b i) (hb : 0 ≤ b) (hb2 : b ≤ 144) : ∀ j : Nat, (j : Int) < b + 48 → A1 j = A j := fun j hj => (q j (by omega)).2 (by omega)
theorem jb_m {row n mi : Int32} (h : n.toInt < 1 ∨ 4 < n.toInt ∨ ∃ j : Nat, (j : Int) < n.toInt ∧ 99 < (mnW mi j).toInt) : bdJ row n mi := by
  rcases h with h | h | h
  · exact .inl h
  · exact .inr (.inl h)
  · exact .inr (.inr (.inr h))
theorem jo_m {row n mi : Int32} (h : 1 ≤ n.toInt ∧ n.toInt ≤ 4) (t : rwL row n.toInt) (m : ∀ j : Nat, (j : Int) < n.toInt → (mnW mi j).toInt < 100) : okJ row n mi := ⟨h, t, m⟩
set_option maxHeartbeats 4000000 in
set_option maxRecDepth 100000 in
theorem k_X10_areMinutes2 (l : Launch) (dC : Nat → ClassId) (dI : Nat → Nat → Nat) (cI cZ cQ : ClassId) (n : Int32) (mi : Int32)  : KR l yX10_areMinutes wsX10_areMinutes { frames := 1, cells := 0, slots := 0, locals := 22 } (dC, dI) (TY cI cZ cQ) (wNil cI cZ cQ) [.int n, .int mi] (fun r : Int32 => ((((r = 1) ∧ (1 ≤ n.toInt) ∧ (n.toInt ≤ 4) ∧ (∀ j : Nat, (j : Int) < n.toInt → (mnW mi j).toInt < 100)) ∨ ((r = 0) ∧ (n.toInt < 1 ∨ 4 < n.toInt ∨ ∃ j : Nat, (j : Int) < n.toInt ∧ 99 < (mnW mi j).toInt))))) := by
  refine Met.ofW (cc := cX10_areMinutes) (maxL := 4) (ret := (some .boolean)) (by decide) rfl ?_
  intro p e s m args below meth c s₁ B hml hv
  obtain ⟨rfl, hP, hK, hN⟩ := hv
  have hx := B.exec
  have hb := B.bytes
  have hr := B.returns
  have hts := atoms_spec (ws := wsX10_areMinutes) B.pre
  have hown : s.vm.findClass RX10 = some m.cls := findClass_of_methodNamed B.named
  have hlocks := B.notSynchronized
  have hl := lv_entry ([.int n, .int mi]) (n := 4) (Nat.le_of_ble_eq_true rfl)
  rw [lg_entry_eq]
  generalize (lg_sl ([.int n, .int mi]) ++ List.replicate (4 - (lg_sl ([.int n, .int mi])).length) Slot.unset).toArray = ls at hl ⊢
  have hl : lv_has ls 4 [(0, .int n), (1, .int mi)] := hl
  refine lv_iload_n hx hb dX10_areMinutes_0 rfl (lv_at hl 0 rfl) ?_
  refine lv_iconst (v := 1) hx hb dX10_areMinutes_1 (by decide) ?_
  refine lv_iconst (v := 4) hx hb dX10_areMinutes_2 (by decide) ?_
  refine rdS (As := [.int n, .int 1, .int 4]) (rest := []) ⟨hx, hb, hml, hown, hts⟩ (k_X10_in l dC dI cI cZ cQ n (1 : Int32) (4 : Int32)) (va_cwS 3 hts gX10_areMinutes_X10_in rfl rfl rfl (by decide +kernel) ⟨Nat.le_of_ble_eq_true rfl, Nat.le_of_ble_eq_true rfl⟩) hP hK hN [] rfl rfl hl.1 rfl (Nat.le_of_ble_eq_true rfl) dX10_areMinutes_3 ⟨Nat.le_of_ble_eq_true rfl, Nat.le_of_ble_eq_true rfl⟩ (fun r1 h2 => ?_)
  have h2 : ((((r1 = 1) ∧ ((1) ≤ n.toInt) ∧ (n.toInt ≤ (4))) ∨ ((r1 = 0) ∧ (n.toInt < (1) ∨ (4) < n.toInt)))) := h2
  rcases h2 with (⟨rfl, h2_a0, h2_a1⟩ | ⟨rfl, h2_a0⟩)
  · refine lv_istore_n (lv' := [(2, .int 1), (0, .int n), (1, .int mi)]) hx hb dX10_areMinutes_6 rfl hl (by decide) rfl (fun ls hl => ?_)
    refine lv_iconst (v := 0) hx hb dX10_areMinutes_7 (by decide) ?_
    refine lv_istore_n (lv' := [(3, .int 0), (2, .int 1), (0, .int n), (1, .int mi)]) hx hb dX10_areMinutes_8 rfl hl (by decide) rfl (fun ls hl => ?_)
    have L9 : ∀ (nn : Nat) (y9_2 : Int32) (y9_3 : Int32) (ls : Array Slot), (0 ≤ (y9_3.toInt)) → ((y9_3.toInt) ≤ 4) → (amI n mi (y9_3.toInt) y9_2) → ((y9_3.toInt) = 0 ∨ (y9_3.toInt) ≤ n.toInt) → (4 - (y9_3.toInt)).toNat < nn → lv_has ls 4 [(0, .int n), (1, .int mi), (2, .int y9_2), (3, .int y9_3)] → W p l e (headSpec wsX10_areMinutes { frames := 1, cells := 0, slots := 0, locals := 22 }).room s m ([.int n, .int mi] : List Value).toArray below meth c s.heap [] 0 0 (MQ below (QR (fun r : Int32 => ((((r = 1) ∧ (1 ≤ n.toInt) ∧ (n.toInt ≤ 4) ∧ (∀ j : Nat, (j : Int) < n.toInt → (mnW mi j).toInt < 100)) ∨ ((r = 0) ∧ (n.toInt < 1 ∨ 4 < n.toInt ∨ ∃ j : Nat, (j : Int) < n.toInt ∧ 99 < (mnW mi j).toInt)))))) ([.int n, .int mi] : List Value).toArray s 0 0 (fun _ => False)) (F0 m 9 ls []) := by
      intro nn
      induction nn with
      | zero =>
        intro y9_2 y9_3 ls i9_0 i9_1 i9_2 i9_3 hm9
        exact absurd hm9 (Nat.not_lt_zero _)
      | succ nn ih9 =>
        intro y9_2 y9_3 ls i9_0 i9_1 i9_2 i9_3 hm9 hl
        refine lv_iload_n hx hb dX10_areMinutes_9 rfl (lv_at hl 3 rfl) ?_
        refine lv_iload_n hx hb dX10_areMinutes_10 rfl (lv_at hl 0 rfl) ?_
        refine lv_icmp_ge (tgt := 44) hx hb dX10_areMinutes_11 (by decide) (fun c3 => ?_) (fun c3 => ?_)
        · have dc3 : n.toInt ≤ y9_3.toInt := leC rfl rfl c3
          refine lv_iload_n hx hb dX10_areMinutes_44 rfl (lv_at hl 2 rfl) ?_
          exact W.zret (v := y9_2) hx hb hr (by (rcases am_f i9_2 with h | h <;> rw [h] <;> rfl)) (fun tq ht hW => ⟨y9_2, rfl, (by (first | exact am_e i9_2 (Or.inr (Or.inl (by omega))) | exact am_e i9_2 (Or.inl (by assumption)))), ht⟩) (fun q h => by cases h) dX10_areMinutes_45
        · have dc3 : y9_3.toInt < n.toInt := nleC rfl rfl c3
          refine lv_iload_n hx hb dX10_areMinutes_14 rfl (lv_at hl 2 rfl) ?_
          refine lv_if_eq (tgt := 44) hx hb dX10_areMinutes_15 (by decide) (fun c4 => ?_) (fun c4 => ?_)
          · have dc4 : y9_2.toInt = 0 := eqC rfl (show (0 : Int32).toInt = 0 from rfl) c4
            refine lv_iload_n hx hb dX10_areMinutes_44 rfl (lv_at hl 2 rfl) ?_
            exact W.zret (v := y9_2) hx hb hr (by (rcases am_f i9_2 with h | h <;> rw [h] <;> rfl)) (fun tq ht hW => ⟨y9_2, rfl, (by (first | exact am_e i9_2 (Or.inr (Or.inl (by omega))) | exact am_e i9_2 (Or.inl (by assumption)))), ht⟩) (fun q h => by cases h) dX10_areMinutes_45
          · have dc4 : y9_2.toInt ≠ 0 := neC rfl (show (0 : Int32).toInt = 0 from rfl) c4
            have kk := am_k i9_2 (by assumption)
            refine lv_iload_n hx hb dX10_areMinutes_18 rfl (lv_at hl 1 rfl) ?_
            refine lv_bipush (v := 7) hx hb dX10_areMinutes_19 (by decide) ?_
            refine lv_iload_n hx hb dX10_areMinutes_21 rfl (lv_at hl 3 rfl) ?_
            refine lv_imul hx hb dX10_areMinutes_22 ?_
            have f5 : (7 * y9_3).toInt = (7) * (y9_3.toInt) := mulC (show (7 : Int32).toInt = 7 from rfl) rfl (by omega) (by omega)
            refine lv_ishr hx hb dX10_areMinutes_23 ?_
            refine lv_bipush (v := 127) hx hb dX10_areMinutes_24 (by decide) ?_
            refine lv_iand hx hb dX10_areMinutes_26 ?_
            have f6 := andR (a := (mi >>> ((7 * y9_3) &&& 31))) (m := 127) (M := 127) rfl (by decide)
            refine lv_bipush (v := 100) hx hb dX10_areMinutes_27 (by decide) ?_
            refine lv_icmp_ge (tgt := 36) hx hb dX10_areMinutes_29 (by decide) (fun c7 => ?_) (fun c7 => ?_)
            · have dc7 : 100 ≤ ((mi >>> ((7 * y9_3) &&& 31)) &&& 127).toInt := leC (show (100 : Int32).toInt = 100 from rfl) rfl c7
              refine lv_iconst (v := 0) hx hb dX10_areMinutes_36 (by decide) ?_
              refine lv_istore_n (lv' := [(2, .int 0), (0, .int n), (1, .int mi), (3, .int y9_3)]) hx hb dX10_areMinutes_37 rfl hl (by decide) rfl (fun ls hl => ?_)
              obtain ⟨z8, ez8⟩ : ∃ y : Int32, y = y9_3 + 1 := ⟨_, rfl⟩
              have iz8 : z8.toInt = y9_3.toInt + 1 := by rw [ez8]; exact addC rfl rfl (by omega) (by omega)
              refine lv_iinc (v := z8) (lv' := [(3, .int z8), (2, .int 0), (0, .int n), (1, .int mi)]) hx hb dX10_areMinutes_38 hl (k := 3) rfl (by rw [ez8]; rfl) (by decide) rfl (fun ls hl => ?_)
              refine lv_goto (tgt := 9) hx hb dX10_areMinutes_41 (by decide) ?_
              have kc9 : (0 : Int32).toInt = 0 := rfl
              exact ih9 0 z8 _ (by omega) (by omega) (by (first | exact am_y i9_2 (by assumption) (mn_at (y := y9_3) (by rfl) (by omega)) (by omega) (by omega) (by omega) | exact am_z (mn_at (y := y9_3) (by rfl) (by omega)) (by omega) (by omega) (by omega) | exact am_0 (by omega) (by first | rfl | omega) | exact am_n (by omega))) (by omega) (by omega) (lv_sub hl [2, 3, 1, 0] rfl)
            · have dc7 : ((mi >>> ((7 * y9_3) &&& 31)) &&& 127).toInt < 100 := nleC (show (100 : Int32).toInt = 100 from rfl) rfl c7
              refine lv_iconst (v := 1) hx hb dX10_areMinutes_32 (by decide) ?_
              refine lv_goto (tgt := 37) hx hb dX10_areMinutes_33 (by decide) ?_
              refine lv_istore_n (lv' := [(2, .int 1), (0, .int n), (1, .int mi), (3, .int y9_3)]) hx hb dX10_areMinutes_37 rfl hl (by decide) rfl (fun ls hl => ?_)
              obtain ⟨z10, ez10⟩ : ∃ y : Int32, y = y9_3 + 1 := ⟨_, rfl⟩
              have iz10 : z10.toInt = y9_3.toInt + 1 := by rw [ez10]; exact addC rfl rfl (by omega) (by omega)
              refine lv_iinc (v := z10) (lv' := [(3, .int z10), (2, .int 1), (0, .int n), (1, .int mi)]) hx hb dX10_areMinutes_38 hl (k := 3) rfl (by rw [ez10]; rfl) (by decide) rfl (fun ls hl => ?_)
              refine lv_goto (tgt := 9) hx hb dX10_areMinutes_41 (by decide) ?_
              have kc11 : (1 : Int32).toInt = 1 := rfl
              exact ih9 1 z10 _ (by omega) (by omega) (by (first | exact am_y i9_2 (by assumption) (mn_at (y := y9_3) (by rfl) (by omega)) (by omega) (by omega) (by omega) | exact am_z (mn_at (y := y9_3) (by rfl) (by omega)) (by omega) (by omega) (by omega) | exact am_0 (by omega) (by first | rfl | omega) | exact am_n (by omega))) (by omega) (by omega) (lv_sub hl [2, 3, 1, 0] rfl)
    have kc12 : (1 : Int32).toInt = 1 := rfl
    have kc13 : (0 : Int32).toInt = 0 := rfl
    exact L9 _ 1 0 _ (by omega) (by omega) (by (first | exact am_y i9_2 (by assumption) (mn_at (y := y9_3) (by rfl) (by omega)) (by omega) (by omega) (by omega) | exact am_z (mn_at (y := y9_3) (by rfl) (by omega)) (by omega) (by omega) (by omega) | exact am_0 (by omega) (by first | rfl | omega) | exact am_n (by omega))) (by omega) (Nat.lt_succ_self _) (lv_sub hl [2, 3, 1, 0] rfl)
  · refine lv_istore_n (lv' := [(2, .int 0), (0, .int n), (1, .int mi)]) hx hb dX10_areMinutes_6 rfl hl (by decide) rfl (fun ls hl => ?_)
    refine lv_iconst (v := 0) hx hb dX10_areMinutes_7 (by decide) ?_
    refine lv_istore_n (lv' := [(3, .int 0), (2, .int 0), (0, .int n), (1, .int mi)]) hx hb dX10_areMinutes_8 rfl hl (by decide) rfl (fun ls hl => ?_)
    have L9 : ∀ (nn : Nat) (y9_2 : Int32) (y9_3 : Int32) (ls : Array Slot), (0 ≤ (y9_3.toInt)) → ((y9_3.toInt) ≤ 4) → (amI n mi (y9_3.toInt) y9_2) → ((y9_3.toInt) = 0 ∨ (y9_3.toInt) ≤ n.toInt) → (4 - (y9_3.toInt)).toNat < nn → lv_has ls 4 [(0, .int n), (1, .int mi), (2, .int y9_2), (3, .int y9_3)] → W p l e (headSpec wsX10_areMinutes { frames := 1, cells := 0, slots := 0, locals := 22 }).room s m ([.int n, .int mi] : List Value).toArray below meth c s.heap [] 0 0 (MQ below (QR (fun r : Int32 => ((((r = 1) ∧ (1 ≤ n.toInt) ∧ (n.toInt ≤ 4) ∧ (∀ j : Nat, (j : Int) < n.toInt → (mnW mi j).toInt < 100)) ∨ ((r = 0) ∧ (n.toInt < 1 ∨ 4 < n.toInt ∨ ∃ j : Nat, (j : Int) < n.toInt ∧ 99 < (mnW mi j).toInt)))))) ([.int n, .int mi] : List Value).toArray s 0 0 (fun _ => False)) (F0 m 9 ls []) := by
      intro nn
      induction nn with
      | zero =>
        intro y9_2 y9_3 ls i9_0 i9_1 i9_2 i9_3 hm9
        exact absurd hm9 (Nat.not_lt_zero _)
      | succ nn ih9 =>
        intro y9_2 y9_3 ls i9_0 i9_1 i9_2 i9_3 hm9 hl
        refine lv_iload_n hx hb dX10_areMinutes_9 rfl (lv_at hl 3 rfl) ?_
        refine lv_iload_n hx hb dX10_areMinutes_10 rfl (lv_at hl 0 rfl) ?_
        refine lv_icmp_ge (tgt := 44) hx hb dX10_areMinutes_11 (by decide) (fun c14 => ?_) (fun c14 => ?_)
        · have dc14 : n.toInt ≤ y9_3.toInt := leC rfl rfl c14
          refine lv_iload_n hx hb dX10_areMinutes_44 rfl (lv_at hl 2 rfl) ?_
          exact W.zret (v := y9_2) hx hb hr (by (rcases am_f i9_2 with h | h <;> rw [h] <;> rfl)) (fun tq ht hW => ⟨y9_2, rfl, (by (first | exact am_e i9_2 (Or.inr (Or.inl (by omega))) | exact am_e i9_2 (Or.inl (by assumption)))), ht⟩) (fun q h => by cases h) dX10_areMinutes_45
        · have dc14 : y9_3.toInt < n.toInt := nleC rfl rfl c14
          refine lv_iload_n hx hb dX10_areMinutes_14 rfl (lv_at hl 2 rfl) ?_
          refine lv_if_eq (tgt := 44) hx hb dX10_areMinutes_15 (by decide) (fun c15 => ?_) (fun c15 => ?_)
          · have dc15 : y9_2.toInt = 0 := eqC rfl (show (0 : Int32).toInt = 0 from rfl) c15
            refine lv_iload_n hx hb dX10_areMinutes_44 rfl (lv_at hl 2 rfl) ?_
            exact W.zret (v := y9_2) hx hb hr (by (rcases am_f i9_2 with h | h <;> rw [h] <;> rfl)) (fun tq ht hW => ⟨y9_2, rfl, (by (first | exact am_e i9_2 (Or.inr (Or.inl (by omega))) | exact am_e i9_2 (Or.inl (by assumption)))), ht⟩) (fun q h => by cases h) dX10_areMinutes_45
          · have dc15 : y9_2.toInt ≠ 0 := neC rfl (show (0 : Int32).toInt = 0 from rfl) c15
            have kk := am_k i9_2 (by assumption)
            refine lv_iload_n hx hb dX10_areMinutes_18 rfl (lv_at hl 1 rfl) ?_
            refine lv_bipush (v := 7) hx hb dX10_areMinutes_19 (by decide) ?_
            refine lv_iload_n hx hb dX10_areMinutes_21 rfl (lv_at hl 3 rfl) ?_
            refine lv_imul hx hb dX10_areMinutes_22 ?_
            have f16 : (7 * y9_3).toInt = (7) * (y9_3.toInt) := mulC (show (7 : Int32).toInt = 7 from rfl) rfl (by omega) (by omega)
            refine lv_ishr hx hb dX10_areMinutes_23 ?_
            refine lv_bipush (v := 127) hx hb dX10_areMinutes_24 (by decide) ?_
            refine lv_iand hx hb dX10_areMinutes_26 ?_
            have f17 := andR (a := (mi >>> ((7 * y9_3) &&& 31))) (m := 127) (M := 127) rfl (by decide)
            refine lv_bipush (v := 100) hx hb dX10_areMinutes_27 (by decide) ?_
            refine lv_icmp_ge (tgt := 36) hx hb dX10_areMinutes_29 (by decide) (fun c18 => ?_) (fun c18 => ?_)
            · have dc18 : 100 ≤ ((mi >>> ((7 * y9_3) &&& 31)) &&& 127).toInt := leC (show (100 : Int32).toInt = 100 from rfl) rfl c18
              refine lv_iconst (v := 0) hx hb dX10_areMinutes_36 (by decide) ?_
              refine lv_istore_n (lv' := [(2, .int 0), (0, .int n), (1, .int mi), (3, .int y9_3)]) hx hb dX10_areMinutes_37 rfl hl (by decide) rfl (fun ls hl => ?_)
              obtain ⟨z19, ez19⟩ : ∃ y : Int32, y = y9_3 + 1 := ⟨_, rfl⟩
              have iz19 : z19.toInt = y9_3.toInt + 1 := by rw [ez19]; exact addC rfl rfl (by omega) (by omega)
              refine lv_iinc (v := z19) (lv' := [(3, .int z19), (2, .int 0), (0, .int n), (1, .int mi)]) hx hb dX10_areMinutes_38 hl (k := 3) rfl (by rw [ez19]; rfl) (by decide) rfl (fun ls hl => ?_)
              refine lv_goto (tgt := 9) hx hb dX10_areMinutes_41 (by decide) ?_
              have kc20 : (0 : Int32).toInt = 0 := rfl
              exact ih9 0 z19 _ (by omega) (by omega) (by (first | exact am_y i9_2 (by assumption) (mn_at (y := y9_3) (by rfl) (by omega)) (by omega) (by omega) (by omega) | exact am_z (mn_at (y := y9_3) (by rfl) (by omega)) (by omega) (by omega) (by omega) | exact am_0 (by omega) (by first | rfl | omega) | exact am_n (by omega))) (by omega) (by omega) (lv_sub hl [2, 3, 1, 0] rfl)
            · have dc18 : ((mi >>> ((7 * y9_3) &&& 31)) &&& 127).toInt < 100 := nleC (show (100 : Int32).toInt = 100 from rfl) rfl c18
              refine lv_iconst (v := 1) hx hb dX10_areMinutes_32 (by decide) ?_
              refine lv_goto (tgt := 37) hx hb dX10_areMinutes_33 (by decide) ?_
              refine lv_istore_n (lv' := [(2, .int 1), (0, .int n), (1, .int mi), (3, .int y9_3)]) hx hb dX10_areMinutes_37 rfl hl (by decide) rfl (fun ls hl => ?_)
              obtain ⟨z21, ez21⟩ : ∃ y : Int32, y = y9_3 + 1 := ⟨_, rfl⟩
              have iz21 : z21.toInt = y9_3.toInt + 1 := by rw [ez21]; exact addC rfl rfl (by omega) (by omega)
              refine lv_iinc (v := z21) (lv' := [(3, .int z21), (2, .int 1), (0, .int n), (1, .int mi)]) hx hb dX10_areMinutes_38 hl (k := 3) rfl (by rw [ez21]; rfl) (by decide) rfl (fun ls hl => ?_)
              refine lv_goto (tgt := 9) hx hb dX10_areMinutes_41 (by decide) ?_
              have kc22 : (1 : Int32).toInt = 1 := rfl
              exact ih9 1 z21 _ (by omega) (by omega) (by (first | exact am_y i9_2 (by assumption) (mn_at (y := y9_3) (by rfl) (by omega)) (by omega) (by omega) (by omega) | exact am_z (mn_at (y := y9_3) (by rfl) (by omega)) (by omega) (by omega) (by omega) | exact am_0 (by omega) (by first | rfl | omega) | exact am_n (by omega))) (by omega) (by omega) (lv_sub hl [2, 3, 1, 0] rfl)
    have kc23 : (0 : Int32).toInt = 0 := rfl
    exact L9 _ 0 0 _ (by omega) (by omega) (by (first | exact am_y i9_2 (by assumption) (mn_at (y := y9_3) (by rfl) (by omega)) (by omega) (by omega) (by omega) | exact am_z (mn_at (y := y9_3) (by rfl) (by omega)) (by omega) (by omega) (by omega) | exact am_0 (by omega) (by first | rfl | omega) | exact am_n (by omega))) (by omega) (Nat.lt_succ_self _) (lv_sub hl [2, 3, 1, 0] rfl)
set_option maxHeartbeats 4000000 in
set_option maxRecDepth 100000 in
theorem k_X10_isGone2 (l : Launch) (dC : Nat → ClassId) (dI : Nat → Nat → Nat) (cI cZ cQ : ClassId) (b : Nat → Nat) (mday : Int32) (mdoo : Int32) (mdA : Nat → Int32) (mdB : Nat → Int32) (mfar : Nat → Int32) (mmar : Nat → Int32) (mtel : Int32) (mgai : Int32) (mfal : Nat → Int32) (mtop : Nat → Int32) (mstr : Nat → Int32) (mgho : Nat → Int32) (mfai : Nat → Int32) (mpto : Nat → Int32) (mwal : Nat → Int32) (mahd : Nat → Int32) (mahf : Nat → Int32) (mcho : Nat → Int32) (mbes : Nat → Int32) (mbyt : Int32) (mtxt : Nat → Int32) (mpos : Int32) (mtka : Int32) (mtok : Int64) (mdig : Int32) (mnum : Int32) (mfau : Int32) (mrdm : Int32) (mrea : Nat → Int32) (mlin : Int32) (mlne : Nat → Int32) (mthg : Nat → Int32) (mord : Nat → Int32) (mbor : Nat → Int32) (mbsm : Int32) (mans : Nat → Int32) (mand : Nat → Int32) (manr : Nat → Int32) (mali : Nat → Int32) (sz : Nat) (k : Int32) (ro : Int32) (mi : Int32) (r_mday : 0 ≤ mday.toInt ∧ mday.toInt ≤ 400) (r_mdoo : 0 ≤ mdoo.toInt ∧ mdoo.toInt ≤ 14) (r_mdA : rg 14 (0) (7) mdA) (r_mdB : rg 14 (0) (7) mdB) (r_mmar : rg 24 (0) (255) mmar) (r_mgai : 0 ≤ mgai.toInt ∧ mgai.toInt ≤ 100) (r_mfal : rg 11 (0) (30) mfal) (r_mtop : rg 48 (-1) (23) mtop) (r_mstr : rg 48 (0) (100) mstr) (r_mgho : rg 48 (-1) (23) mgho) (r_mfai : rg 48 (0) (100) mfai) (r_mahd : rg 240 (0) (100) mahd) (r_mahf : rg 240 (0) (100) mahf) (r_mcho : rg 5 (-1) (9) mcho) (r_mbyt : 0 ≤ mbyt.toInt ∧ mbyt.toInt ≤ 160) (r_mpos : 0 ≤ mpos.toInt ∧ mpos.toInt ≤ 160) (r_mrdm : 0 ≤ mrdm.toInt ∧ mrdm.toInt ≤ 10) (r_mlin : 0 ≤ mlin.toInt ∧ mlin.toInt ≤ 10) (r_mthg : rg 8 (0) (31) mthg) (r_mord : rg 8 (-1) (8) mord) (r_mans : rg 4 (0) (12) mans) (q0 : 0 ≤ k.toInt) (q1 : k.toInt ≤ 3) (q2 : 0 ≤ ro.toInt) (q3 : ro.toInt ≤ 8) : KW l yX10_isGone wsX10_isGone { frames := 3, cells := 0, slots := 0, locals := 73 } (dC, dI) (TY cI cZ cQ) (wMod cI cZ cQ b mday mdoo mdA mdB mfar mmar mtel mgai mfal mtop mstr mgho mfai mpto mwal mahd mahf mcho mbes mbyt mtxt mpos mtka mtok mdig mnum mfau mrdm mrea mlin mlne mthg mord mbor mbsm mans mand manr mali) [.ref (b 39), .int k, .int ro, .int mi] sz 0 0 (fun (r : Int32) (u : US) => ((((r = 1) ∧ (igT mdA mdB mtop mfal mmar mdoo.toInt mtel mgai.toInt k ro mi mahd (u.1 0))) ∨ ((r = 0) ∧ (igN mdA mdB mtop mdoo.toInt k ro mi) ∧ (∀ j : Nat, (j : Int) < 48 * k.toInt + 48 → (u.1 0) j = mahd j)))) ∧ (rg 240 (0) (100) (u.1 0)) ∧ (rg 240 (0) (100) (u.1 1))) (fun u : US => (wMod cI cZ cQ b mday mdoo mdA mdB (u.1 2) mmar mtel mgai mfal mtop mstr mgho mfai mpto mwal (u.1 0) (u.1 1) mcho mbes mbyt mtxt mpos mtka mtok mdig mnum mfau mrdm mrea mlin mlne mthg mord mbor mbsm mans mand manr mali)) := by
  refine Met.ofW (cc := cX10_isGone) (maxL := 5) (ret := (some .boolean)) (by decide) rfl ?_
  intro p e s m args below meth c s₁ B hml hv
  obtain ⟨rfl, hsz, hP, hK, hD0, hN⟩ := hv
  have hx := B.exec
  have hb := B.bytes
  have hr := B.returns
  have hts := atoms_spec (ws := wsX10_isGone) B.pre
  have hown : s.vm.findClass RX10 = some m.cls := findClass_of_methodNamed B.named
  have hlocks := B.notSynchronized
  have lf50 := hts (.fieldLink RX10 50 "PalaceOfRoomsModel" "ahead" "[I") (List.mem_cons_of_mem _ (List.mem_append_left _ (List.mem_append_left _ (List.mem_of_getElem? (i := 0) rfl))))
  have inX10 : ∀ w ∈ wsX100, w ∈ wsX10_isGone := fun w h => List.mem_cons_of_mem _ (List.mem_append_right _ h)
  have lf53 := hts (.fieldLink RX10 53 "PalaceOfRoomsModel" "aheadFaint" "[I") (List.mem_cons_of_mem _ (List.mem_append_left _ (List.mem_append_left _ (List.mem_of_getElem? (i := 1) rfl))))
  subst hsz
  have hD := hD0.self (sz := s.heap.size)
  generalize hAe : va_A (wMod cI cZ cQ b mday mdoo mdA mdB mfar mmar mtel mgai mfal mtop mstr mgho mfai mpto mwal mahd mahf mcho mbes mbyt mtxt mpos mtka mtok mdig mnum mfau mrdm mrea mlin mlne mthg mord mbor mbsm mans mand manr mali) s.heap.size = A at hD ⊢
  have hA : ∀ q : Nat, s.heap.size ≤ q → A q := fun q h => by rw [← hAe]; exact Or.inr h
  have hS : va_S A s.heap s.heap [] := va_S.rf
  have hl := lv_entry ([.ref (b 39), .int k, .int ro, .int mi]) (n := 5) (Nat.le_of_ble_eq_true rfl)
  rw [lg_entry_eq]
  generalize (lg_sl ([.ref (b 39), .int k, .int ro, .int mi]) ++ List.replicate (5 - (lg_sl ([.ref (b 39), .int k, .int ro, .int mi])).length) Slot.unset).toArray = ls at hl ⊢
  have hl : lv_has ls 5 [(0, .ref (b 39)), (1, .int k), (2, .int ro), (3, .int mi)] := hl
  refine lv_iconst (v := 0) hx hb dX10_isGone_0 (by decide) ?_
  refine lv_istore (lv' := [(4, .int 0), (0, .ref (b 39)), (1, .int k), (2, .int ro), (3, .int mi)]) hx hb dX10_isGone_1 hl (by decide) rfl (fun ls hl => ?_)
  have L3 : ∀ (nn : Nat) (y3_4 : Int32) (mahd_3 : Nat → Int32) (mahf_3 : Nat → Int32) (H : Heap) (locs : List Loc) (ls : Array Slot), (rg 240 (0) (100) mahd_3) → (rg 240 (0) (100) mahf_3) → (0 ≤ (y3_4.toInt)) → ((y3_4.toInt) ≤ 48) → (cpL mahd mahd_3 (48 * k.toInt) (y3_4.toInt)) → (48 - (y3_4.toInt)).toNat < nn → va_P (dC, dI) vwCl (wMod cI cZ cQ b mday mdoo mdA mdB mfar mmar mtel mgai mfal mtop mstr mgho mfai mpto mwal mahd_3 mahf_3 mcho mbes mbyt mtxt mpos mtka mtok mdig mnum mfau mrdm mrea mlin mlne mthg mord mbor mbsm mans mand manr mali) H → va_D A (wMod cI cZ cQ b mday mdoo mdA mdB mfar mmar mtel mgai mfal mtop mstr mgho mfai mpto mwal mahd_3 mahf_3 mcho mbes mbyt mtxt mpos mtka mtok mdig mnum mfau mrdm mrea mlin mlne mthg mord mbor mbsm mans mand manr mali) → va_S A s.heap H locs → lv_has ls 5 [(0, .ref (b 39)), (1, .int k), (2, .int ro), (3, .int mi), (4, .int y3_4)] → W p l e (headSpec wsX10_isGone { frames := 3, cells := 0, slots := 0, locals := 73 }).room s m ([.ref (b 39), .int k, .int ro, .int mi] : List Value).toArray below meth c H locs 0 0 (MQ below (va_Qi (fun (r : Int32) (u : US) => ((((r = 1) ∧ (igT mdA mdB mtop mfal mmar mdoo.toInt mtel mgai.toInt k ro mi mahd (u.1 0))) ∨ ((r = 0) ∧ (igN mdA mdB mtop mdoo.toInt k ro mi) ∧ (∀ j : Nat, (j : Int) < 48 * k.toInt + 48 → (u.1 0) j = mahd j)))) ∧ (rg 240 (0) (100) (u.1 0)) ∧ (rg 240 (0) (100) (u.1 1))) (Bw (dC, dI) A (fun u : US => (wMod cI cZ cQ b mday mdoo mdA mdB (u.1 2) mmar mtel mgai mfal mtop mstr mgho mfai mpto mwal (u.1 0) (u.1 1) mcho mbes mbyt mtxt mpos mtka mtok mdig mnum mfau mrdm mrea mlin mlne mthg mord mbor mbsm mans mand manr mali))) A) ([.ref (b 39), .int k, .int ro, .int mi] : List Value).toArray s 0 0 A) (F0 m 3 ls []) := by
    intro nn
    induction nn with
    | zero =>
      intro y3_4 mahd_3 mahf_3 H locs ls r_mahd_3 r_mahf_3 i3_0 i3_1 i3_2 hm3
      exact absurd hm3 (Nat.not_lt_zero _)
    | succ nn ih3 =>
      intro y3_4 mahd_3 mahf_3 H locs ls r_mahd_3 r_mahf_3 i3_0 i3_1 i3_2 hm3 hP hD hS hl
      refine lv_iload hx hb dX10_isGone_3 (lv_at hl 4 rfl) ?_
      refine lv_bipush (v := 48) hx hb dX10_isGone_5 (by decide) ?_
      refine lv_icmp_ge (tgt := 70) hx hb dX10_isGone_7 (by decide) (fun c1 => ?_) (fun c1 => ?_)
      · have dc1 : 48 ≤ y3_4.toInt := leC (show (48 : Int32).toInt = 48 from rfl) rfl c1
        refine lv_iload_n hx hb dX10_isGone_70 rfl (lv_at hl 2 rfl) ?_
        refine lv_bipush (v := 8) hx hb dX10_isGone_71 (by decide) ?_
        refine lv_icmp_ne (tgt := 80) hx hb dX10_isGone_73 (by decide) (fun c2 => ?_) (fun c2 => ?_)
        · have dc2 : ro.toInt ≤ 7 := ka_hi (by omega) (neC rfl (show (8 : Int32).toInt = 8 from rfl) c2)
          refine lv_aload_n hx hb dX10_isGone_80 rfl (lv_at hl 0 rfl) ?_
          refine lv_iload_n hx hb dX10_isGone_81 rfl (lv_at hl 2 rfl) ?_
          refine wrV (As := [.int ro]) (rest := []) (wr := []) (w2 := (fun u : US => (wMod cI cZ cQ b mday mdoo mdA mdB (u.1 0) mmar mtel mgai mfal mtop mstr mgho mfai mpto mwal mahd_3 mahf_3 mcho mbes mbyt mtxt mpos mtka mtok mdig mnum mfau mrdm mrea mlin mlne mthg mord mbor mbsm mans mand manr mali))) ⟨hx, hb, hml, hown, hts⟩ (k_X10_costOf2 l dC dI cI cZ cQ b mday mdoo mdA mdB mfar mmar mtel mgai mfal mtop mstr mgho mfai mpto mwal mahd_3 mahf_3 mcho mbes mbyt mtxt mpos mtka mtok mdig mnum mfau mrdm mrea mlin mlne mthg mord mbor mbsm mans mand manr mali _ ro r_mday r_mdoo r_mdA r_mdB r_mmar r_mgai r_mfal r_mtop r_mstr r_mgho r_mfai r_mahd_3 r_mahf_3 r_mcho r_mbyt r_mpos r_mrdm r_mlin r_mthg r_mord r_mans (by omega) (by omega)) (cwV 1 hts gX10_isGone_X10_costOf rfl rfl rfl (by decide +kernel) ⟨Nat.le_of_ble_eq_true rfl, Nat.le_of_ble_eq_true rfl⟩) hP hD hS hA hK hN [0, 1, 2, 3, 4, 5, 6, 7, 8, 9, 10, 11, 12, 13, 14, 15, 16, 17, 18, 19, 20, 21, 22, 23, 24, 25] [] [0, 1, 2, 3, 4, 5, 6, 7, 8, 9, 10, 11, 12, 13, 14, 15, 16, 17, 18, 19, 20, 21, 22, 23, 24, 25] rfl rfl (by decide) (by decide) (by decide) (fun _ => rfl) (by decide) 0 10 rfl rfl rfl hl.1 rfl (Nat.le_of_ble_eq_true rfl) dX10_isGone_82 ⟨Nat.le_of_ble_eq_true rfl, Nat.le_of_ble_eq_true rfl⟩ (fun r3 u5 H locs h4 hP hD hS => ?_)
          obtain ⟨mfar_c6, emfar_c6⟩ : ∃ f : Nat → Int32, f = (u5.1 0) := ⟨_, rfl⟩
          have hP : va_P (dC, dI) vwCl (wMod cI cZ cQ b mday mdoo mdA mdB mfar_c6 mmar mtel mgai mfal mtop mstr mgho mfai mpto mwal mahd_3 mahf_3 mcho mbes mbyt mtxt mpos mtka mtok mdig mnum mfau mrdm mrea mlin mlne mthg mord mbor mbsm mans mand manr mali) H := by rw [emfar_c6]; exact hP
          have hD : va_D A (wMod cI cZ cQ b mday mdoo mdA mdB mfar_c6 mmar mtel mgai mfal mtop mstr mgho mfai mpto mwal mahd_3 mahf_3 mcho mbes mbyt mtxt mpos mtka mtok mdig mnum mfau mrdm mrea mlin mlne mthg mord mbor mbsm mans mand manr mali) := by rw [emfar_c6]; exact hD
          have h4 : (coM mdA mdB mdoo.toInt mtop ro r3) ∧ (-1 ≤ r3.toInt) ∧ (r3.toInt ≤ 204) := by (try rw [emfar_c6]); exact h4
          obtain ⟨h4_0, h4_1, h4_2⟩ := h4
          refine lv_istore (lv' := [(4, .int r3), (0, .ref (b 39)), (1, .int k), (2, .int ro), (3, .int mi)]) hx hb dX10_isGone_85 hl (by decide) rfl (fun ls hl => ?_)
          refine lv_iload hx hb dX10_isGone_87 (lv_at hl 0 rfl) ?_
          refine lv_iconst (v := (-1)) hx hb dX10_isGone_89 (by decide) ?_
          refine lv_icmp_eq (tgt := 113) hx hb dX10_isGone_90 (by decide) (fun c7 => ?_) (fun c7 => ?_)
          · have dc7 : r3.toInt = (-1) := eqC rfl (show ((-1) : Int32).toInt = (-1) from rfl) c7
            refine lv_iconst (v := 0) hx hb dX10_isGone_113 (by decide) ?_
            exact W.zret (v := 0) hx hb hr (by decide) (fun tq ht hW => ⟨⟨0, (uS [mahd_3, mahf_3, mfar_c6] 0 (fun _ => 0)), rfl, ⟨(Or.inr (⟨rfl, (show igN mdA mdB mtop mdoo.toInt k ro mi from by (try rw [show (0 : Int32).toInt = 0 from (show (0 : Int32).toInt = 0 from rfl)]); (first | exact ⟨Or.inl (by omega), ly_0 i3_2 (by omega) (by assumption) (by omega) (by omega) (by omega) (by omega)⟩ | exact ⟨ig_y (by assumption) (by assumption) (mn_at (by rfl) (by omega)) (by omega), ly_w i3_2 (by omega) (by assumption) (by assumption) (by omega) (by omega) (by omega) (by omega) (by omega)⟩ | exact ig_n1 (by omega) (by assumption) (by assumption) | exact ig_n2 (by omega) (by assumption) (mn_at (by rfl) (by omega)) (by omega))), (show ∀ j : Nat, (j : Int) < 48 * k.toInt + 48 → mahd_3 j = mahd j from by (try rw [show (0 : Int32).toInt = 0 from (show (0 : Int32).toInt = 0 from rfl)]); exact ig_st i3_2 (by omega) (by omega))⟩)), r_mahd_3, r_mahf_3⟩, by rw [ht]; exact hP, hD⟩, hS.F ht⟩) hS.2.2 dX10_isGone_114
          · have dc7 : 0 ≤ r3.toInt := ka_lo (by omega) (neC rfl (show ((-1) : Int32).toInt = (-1) from rfl) c7)
            refine lv_iload hx hb dX10_isGone_93 (lv_at hl 0 rfl) ?_
            refine lv_iload_n hx hb dX10_isGone_95 rfl (lv_at hl 4 rfl) ?_
            refine lv_bipush (v := 7) hx hb dX10_isGone_96 (by decide) ?_
            refine lv_iload_n hx hb dX10_isGone_98 rfl (lv_at hl 2 rfl) ?_
            refine lv_imul hx hb dX10_isGone_99 ?_
            have f8 : (7 * k).toInt = (7) * (k.toInt) := mulC (show (7 : Int32).toInt = 7 from rfl) rfl (by omega) (by omega)
            refine lv_ishr hx hb dX10_isGone_100 ?_
            refine lv_bipush (v := 127) hx hb dX10_isGone_101 (by decide) ?_
            refine lv_iand hx hb dX10_isGone_103 ?_
            have f9 := andR (a := (mi >>> ((7 * k) &&& 31))) (m := 127) (M := 127) rfl (by decide)
            refine lv_icmp_le (tgt := 115) hx hb dX10_isGone_104 (by decide) (fun c10 => ?_) (fun c10 => ?_)
            · have dc10 : r3.toInt ≤ ((mi >>> ((7 * k) &&& 31)) &&& 127).toInt := leC rfl rfl c10
              refine lv_iload_n hx hb dX10_isGone_115 rfl (lv_at hl 3 rfl) ?_
              refine lv_bipush (v := 8) hx hb dX10_isGone_116 (by decide) ?_
              refine lv_icmp_ge (tgt := 134) hx hb dX10_isGone_118 (by decide) (fun c11 => ?_) (fun c11 => ?_)
              · have dc11 : 8 ≤ ro.toInt := leC (show (8 : Int32).toInt = 8 from rfl) rfl c11
                exfalso
                omega
              · have dc11 : ro.toInt < 8 := nleC (show (8 : Int32).toInt = 8 from rfl) rfl c11
                refine lv_aload_n hx hb dX10_isGone_121 rfl (lv_at hl 1 rfl) ?_
                refine lv_iload_n hx hb dX10_isGone_122 rfl (lv_at hl 3 rfl) ?_
                refine lv_bipush (v := 48) hx hb dX10_isGone_123 (by decide) ?_
                refine lv_iload_n hx hb dX10_isGone_125 rfl (lv_at hl 2 rfl) ?_
                refine lv_imul hx hb dX10_isGone_126 ?_
                have f12 : (48 * k).toInt = (48) * (k.toInt) := mulC (show (48 : Int32).toInt = 48 from rfl) rfl (by omega) (by omega)
                refine lv_bipush (v := 48) hx hb dX10_isGone_127 (by decide) ?_
                refine lv_iadd hx hb dX10_isGone_129 ?_
                have f13 : ((48 * k) + 48).toInt = ((48) * (k.toInt)) + (48) := addC f12 (show (48 : Int32).toInt = 48 from rfl) (by omega) (by omega)
                refine wrV (As := [.int ro, .int ((48 * k) + 48)]) (rest := []) (wr := []) (w2 := (fun u : US => (wMod cI cZ cQ b mday mdoo mdA mdB mfar_c6 mmar mtel mgai mfal mtop mstr mgho mfai mpto mwal (u.1 0) mahf_3 mcho mbes mbyt mtxt mpos mtka mtok mdig mnum mfau mrdm mrea mlin mlne mthg mord mbor mbsm mans mand manr mali))) ⟨hx, hb, hml, hown, hts⟩ (k_X10_goWalk2 l dC dI cI cZ cQ b mday mdoo mdA mdB mfar_c6 mmar mtel mgai mfal mtop mstr mgho mfai mpto mwal mahd_3 mahf_3 mcho mbes mbyt mtxt mpos mtka mtok mdig mnum mfau mrdm mrea mlin mlne mthg mord mbor mbsm mans mand manr mali _ ro ((48 * k) + 48) r_mday r_mdoo r_mdA r_mdB r_mmar r_mgai r_mfal r_mtop r_mstr r_mgho r_mfai r_mahd_3 r_mahf_3 r_mcho r_mbyt r_mpos r_mrdm r_mlin r_mthg r_mord r_mans (by omega) (by omega) (by omega) (by omega)) (cwV 2 hts gX10_isGone_X10_goWalk rfl rfl rfl (by decide +kernel) ⟨Nat.le_of_ble_eq_true rfl, Nat.le_of_ble_eq_true rfl⟩) hP hD hS hA hK hN [0, 1, 2, 3, 4, 5, 6, 7, 8, 9, 10, 11, 12, 13, 14, 15, 16, 17, 18, 19, 20, 21, 22, 23, 24, 25] [] [0, 1, 2, 3, 4, 5, 6, 7, 8, 9, 10, 11, 12, 13, 14, 15, 16, 17, 18, 19, 20, 21, 22, 23, 24, 25] rfl rfl (by decide) (by decide) (by decide) (fun _ => rfl) (by decide) 0 10 rfl rfl rfl hl.1 rfl (Nat.le_of_ble_eq_true rfl) dX10_isGone_130 ⟨Nat.le_of_ble_eq_true rfl, Nat.le_of_ble_eq_true rfl⟩ (fun r14 u16 H locs h15 hP hD hS => ?_)
                obtain ⟨mahd_c17, emahd_c17⟩ : ∃ f : Nat → Int32, f = (u16.1 0) := ⟨_, rfl⟩
                have hP : va_P (dC, dI) vwCl (wMod cI cZ cQ b mday mdoo mdA mdB mfar_c6 mmar mtel mgai mfal mtop mstr mgho mfai mpto mwal mahd_c17 mahf_3 mcho mbes mbyt mtxt mpos mtka mtok mdig mnum mfau mrdm mrea mlin mlne mthg mord mbor mbsm mans mand manr mali) H := by rw [emahd_c17]; exact hP
                have hD : va_D A (wMod cI cZ cQ b mday mdoo mdA mdB mfar_c6 mmar mtel mgai mfal mtop mstr mgho mfai mpto mwal mahd_c17 mahf_3 mcho mbes mbyt mtxt mpos mtka mtok mdig mnum mfau mrdm mrea mlin mlne mthg mord mbor mbsm mans mand manr mali) := by rw [emahd_c17]; exact hD
                have h15 : (gwS mtop mgai.toInt ((48 * k) + 48).toInt (ro.toInt * 6) (ro.toInt * 6 + 6) mahd_3 mahd_c17 r14.toInt) ∧ (rg 240 (0) (100) mahd_c17) := by (try rw [emahd_c17]); exact h15
                obtain ⟨h15_0, h15_1⟩ := h15
                refine lv_pop hx hb dX10_isGone_133 rfl ?_
                refine lv_aload_n hx hb dX10_isGone_134 rfl (lv_at hl 1 rfl) ?_
                refine lv_bipush (v := 48) hx hb dX10_isGone_135 (by decide) ?_
                refine lv_iload_n hx hb dX10_isGone_137 rfl (lv_at hl 2 rfl) ?_
                refine lv_imul hx hb dX10_isGone_138 ?_
                have f18 : (48 * k).toInt = (48) * (k.toInt) := mulC (show (48 : Int32).toInt = 48 from rfl) rfl (by omega) (by omega)
                refine lv_bipush (v := 48) hx hb dX10_isGone_139 (by decide) ?_
                refine lv_iadd hx hb dX10_isGone_141 ?_
                have f19 : ((48 * k) + 48).toInt = ((48) * (k.toInt)) + (48) := addC f18 (show (48 : Int32).toInt = 48 from rfl) (by omega) (by omega)
                refine lv_bipush (v := 48) hx hb dX10_isGone_142 (by decide) ?_
                refine lv_iload_n hx hb dX10_isGone_144 rfl (lv_at hl 2 rfl) ?_
                refine lv_imul hx hb dX10_isGone_145 ?_
                have f20 : (48 * k).toInt = (48) * (k.toInt) := mulC (show (48 : Int32).toInt = 48 from rfl) rfl (by omega) (by omega)
                refine lv_bipush (v := 48) hx hb dX10_isGone_146 (by decide) ?_
                refine lv_iadd hx hb dX10_isGone_148 ?_
                have f21 : ((48 * k) + 48).toInt = ((48) * (k.toInt)) + (48) := addC f20 (show (48 : Int32).toInt = 48 from rfl) (by omega) (by omega)
                refine wvV (As := [.int ((48 * k) + 48), .int ((48 * k) + 48)]) (rest := []) (wr := []) (w2 := (fun u : US => (wMod cI cZ cQ b mday mdoo mdA mdB mfar_c6 mmar mtel mgai mfal mtop mstr mgho mfai mpto mwal (u.1 0) (u.1 1) mcho mbes mbyt mtxt mpos mtka mtok mdig mnum mfau mrdm mrea mlin mlne mthg mord mbor mbsm mans mand manr mali))) ⟨hx, hb, hml, hown, hts⟩ (k_X10_goDay2 l dC dI cI cZ cQ b mday mdoo mdA mdB mfar_c6 mmar mtel mgai mfal mtop mstr mgho mfai mpto mwal mahd_c17 mahf_3 mcho mbes mbyt mtxt mpos mtka mtok mdig mnum mfau mrdm mrea mlin mlne mthg mord mbor mbsm mans mand manr mali _ ((48 * k) + 48) ((48 * k) + 48) r_mday r_mdoo r_mdA r_mdB r_mmar r_mgai r_mfal r_mtop r_mstr r_mgho r_mfai h15_1 r_mahf_3 r_mcho r_mbyt r_mpos r_mrdm r_mlin r_mthg r_mord r_mans (by omega) (by omega) (by omega) (by omega) (by omega)) (cwV 2 hts gX10_isGone_X10_goDay rfl rfl rfl (by decide +kernel) ⟨Nat.le_of_ble_eq_true rfl, Nat.le_of_ble_eq_true rfl⟩) hP hD hS hA hK hN [0, 1, 2, 3, 4, 5, 6, 7, 8, 9, 10, 11, 12, 13, 14, 15, 16, 17, 18, 19, 20, 21, 22, 23, 24, 25] [] [0, 1, 2, 3, 4, 5, 6, 7, 8, 9, 10, 11, 12, 13, 14, 15, 16, 17, 18, 19, 20, 21, 22, 23, 24, 25] rfl rfl (by decide) (by decide) (by decide) (fun _ => rfl) (by decide) 0 10 rfl rfl rfl hl.1 rfl (Nat.le_of_ble_eq_true rfl) dX10_isGone_149 ⟨Nat.le_of_ble_eq_true rfl, Nat.le_of_ble_eq_true rfl⟩ (fun u24 H locs h23 hP hD hS => ?_)
                obtain ⟨mahd_c25, emahd_c25⟩ : ∃ f : Nat → Int32, f = (u24.1 0) := ⟨_, rfl⟩
                obtain ⟨mahf_c26, emahf_c26⟩ : ∃ f : Nat → Int32, f = (u24.1 1) := ⟨_, rfl⟩
                have hP : va_P (dC, dI) vwCl (wMod cI cZ cQ b mday mdoo mdA mdB mfar_c6 mmar mtel mgai mfal mtop mstr mgho mfai mpto mwal mahd_c25 mahf_c26 mcho mbes mbyt mtxt mpos mtka mtok mdig mnum mfau mrdm mrea mlin mlne mthg mord mbor mbsm mans mand manr mali) H := by rw [emahd_c25, emahf_c26]; exact hP
                have hD : va_D A (wMod cI cZ cQ b mday mdoo mdA mdB mfar_c6 mmar mtel mgai mfal mtop mstr mgho mfai mpto mwal mahd_c25 mahf_c26 mcho mbes mbyt mtxt mpos mtka mtok mdig mnum mfau mrdm mrea mlin mlne mthg mord mbor mbsm mans mand manr mali) := by rw [emahd_c25, emahf_c26]; exact hD
                have h23 : (gdS mfal mmar mtop mtel ((48 * k) + 48).toInt 48 mahd_c17 mahf_3 mahd_c25 mahf_c26) ∧ (rg 240 (0) (100) mahd_c25) ∧ (rg 240 (0) (100) mahf_c26) := by (try rw [emahd_c25]); (try rw [emahf_c26]); exact h23
                obtain ⟨h23_0, h23_1, h23_2⟩ := h23
                refine lv_iconst (v := 1) hx hb dX10_isGone_152 (by decide) ?_
                exact W.zret (v := 1) hx hb hr (by decide) (fun tq ht hW => ⟨⟨1, (uS [mahd_c25, mahf_c26, mfar_c6] 0 (fun _ => 0)), rfl, ⟨(Or.inl (⟨rfl, (show igT mdA mdB mtop mfal mmar mdoo.toInt mtel mgai.toInt k ro mi mahd mahd_c25 from by (try rw [show (1 : Int32).toInt = 1 from (show (1 : Int32).toInt = 1 from rfl)]); (first | exact ⟨Or.inl (by omega), ly_0 i3_2 (by omega) (by assumption) (by omega) (by omega) (by omega) (by omega)⟩ | exact ⟨ig_y (by assumption) (by assumption) (mn_at (by rfl) (by omega)) (by omega), ly_w i3_2 (by omega) (by assumption) (by assumption) (by omega) (by omega) (by omega) (by omega) (by omega)⟩ | exact ig_n1 (by omega) (by assumption) (by assumption) | exact ig_n2 (by omega) (by assumption) (mn_at (by rfl) (by omega)) (by omega)))⟩)), h23_1, h23_2⟩, by rw [ht]; exact hP, hD⟩, hS.F ht⟩) hS.2.2 dX10_isGone_153
            · have dc10 : ((mi >>> ((7 * k) &&& 31)) &&& 127).toInt < r3.toInt := nleC rfl rfl c10
              refine lv_iload_n hx hb dX10_isGone_107 rfl (lv_at hl 3 rfl) ?_
              refine lv_bipush (v := 8) hx hb dX10_isGone_108 (by decide) ?_
              refine lv_icmp_ge (tgt := 115) hx hb dX10_isGone_110 (by decide) (fun c27 => ?_) (fun c27 => ?_)
              · have dc27 : 8 ≤ ro.toInt := leC (show (8 : Int32).toInt = 8 from rfl) rfl c27
                exfalso
                omega
              · have dc27 : ro.toInt < 8 := nleC (show (8 : Int32).toInt = 8 from rfl) rfl c27
                refine lv_iconst (v := 0) hx hb dX10_isGone_113 (by decide) ?_
                exact W.zret (v := 0) hx hb hr (by decide) (fun tq ht hW => ⟨⟨0, (uS [mahd_3, mahf_3, mfar_c6] 0 (fun _ => 0)), rfl, ⟨(Or.inr (⟨rfl, (show igN mdA mdB mtop mdoo.toInt k ro mi from by (try rw [show (0 : Int32).toInt = 0 from (show (0 : Int32).toInt = 0 from rfl)]); (first | exact ⟨Or.inl (by omega), ly_0 i3_2 (by omega) (by assumption) (by omega) (by omega) (by omega) (by omega)⟩ | exact ⟨ig_y (by assumption) (by assumption) (mn_at (by rfl) (by omega)) (by omega), ly_w i3_2 (by omega) (by assumption) (by assumption) (by omega) (by omega) (by omega) (by omega) (by omega)⟩ | exact ig_n1 (by omega) (by assumption) (by assumption) | exact ig_n2 (by omega) (by assumption) (mn_at (by rfl) (by omega)) (by omega))), (show ∀ j : Nat, (j : Int) < 48 * k.toInt + 48 → mahd_3 j = mahd j from by (try rw [show (0 : Int32).toInt = 0 from (show (0 : Int32).toInt = 0 from rfl)]); exact ig_st i3_2 (by omega) (by omega))⟩)), r_mahd_3, r_mahf_3⟩, by rw [ht]; exact hP, hD⟩, hS.F ht⟩) hS.2.2 dX10_isGone_114
        · have dc2 : ro.toInt = 8 := eqC rfl (show (8 : Int32).toInt = 8 from rfl) c2
          refine lv_iconst (v := 0) hx hb dX10_isGone_76 (by decide) ?_
          refine lv_goto (tgt := 85) hx hb dX10_isGone_77 (by decide) ?_
          refine lv_istore (lv' := [(4, .int 0), (0, .ref (b 39)), (1, .int k), (2, .int ro), (3, .int mi)]) hx hb dX10_isGone_85 hl (by decide) rfl (fun ls hl => ?_)
          refine lv_iload hx hb dX10_isGone_87 (lv_at hl 0 rfl) ?_
          refine lv_iconst (v := (-1)) hx hb dX10_isGone_89 (by decide) ?_
          refine lv_icmp_eq (tgt := 113) hx hb dX10_isGone_90 (by decide) (fun c9 => absurd c9 (by decide)) (fun _ => ?_)
          refine lv_iload hx hb dX10_isGone_93 (lv_at hl 0 rfl) ?_
          refine lv_iload_n hx hb dX10_isGone_95 rfl (lv_at hl 4 rfl) ?_
          refine lv_bipush (v := 7) hx hb dX10_isGone_96 (by decide) ?_
          refine lv_iload_n hx hb dX10_isGone_98 rfl (lv_at hl 2 rfl) ?_
          refine lv_imul hx hb dX10_isGone_99 ?_
          have f28 : (7 * k).toInt = (7) * (k.toInt) := mulC (show (7 : Int32).toInt = 7 from rfl) rfl (by omega) (by omega)
          refine lv_ishr hx hb dX10_isGone_100 ?_
          refine lv_bipush (v := 127) hx hb dX10_isGone_101 (by decide) ?_
          refine lv_iand hx hb dX10_isGone_103 ?_
          have f29 := andR (a := (mi >>> ((7 * k) &&& 31))) (m := 127) (M := 127) rfl (by decide)
          refine lv_icmp_le (tgt := 115) hx hb dX10_isGone_104 (by decide) (fun c30 => ?_) (fun c30 => ?_)
          · have dc30 : 0 ≤ ((mi >>> ((7 * k) &&& 31)) &&& 127).toInt := leC (show (0 : Int32).toInt = 0 from rfl) rfl c30
            refine lv_iload_n hx hb dX10_isGone_115 rfl (lv_at hl 3 rfl) ?_
            refine lv_bipush (v := 8) hx hb dX10_isGone_116 (by decide) ?_
            refine lv_icmp_ge (tgt := 134) hx hb dX10_isGone_118 (by decide) (fun c31 => ?_) (fun c31 => ?_)
            · have dc31 : 8 ≤ ro.toInt := leC (show (8 : Int32).toInt = 8 from rfl) rfl c31
              refine lv_aload_n hx hb dX10_isGone_134 rfl (lv_at hl 1 rfl) ?_
              refine lv_bipush (v := 48) hx hb dX10_isGone_135 (by decide) ?_
              refine lv_iload_n hx hb dX10_isGone_137 rfl (lv_at hl 2 rfl) ?_
              refine lv_imul hx hb dX10_isGone_138 ?_
              have f32 : (48 * k).toInt = (48) * (k.toInt) := mulC (show (48 : Int32).toInt = 48 from rfl) rfl (by omega) (by omega)
              refine lv_bipush (v := 48) hx hb dX10_isGone_139 (by decide) ?_
              refine lv_iadd hx hb dX10_isGone_141 ?_
              have f33 : ((48 * k) + 48).toInt = ((48) * (k.toInt)) + (48) := addC f32 (show (48 : Int32).toInt = 48 from rfl) (by omega) (by omega)
              refine lv_bipush (v := 48) hx hb dX10_isGone_142 (by decide) ?_
              refine lv_iload_n hx hb dX10_isGone_144 rfl (lv_at hl 2 rfl) ?_
              refine lv_imul hx hb dX10_isGone_145 ?_
              have f34 : (48 * k).toInt = (48) * (k.toInt) := mulC (show (48 : Int32).toInt = 48 from rfl) rfl (by omega) (by omega)
              refine lv_bipush (v := 48) hx hb dX10_isGone_146 (by decide) ?_
              refine lv_iadd hx hb dX10_isGone_148 ?_
              have f35 : ((48 * k) + 48).toInt = ((48) * (k.toInt)) + (48) := addC f34 (show (48 : Int32).toInt = 48 from rfl) (by omega) (by omega)
              refine wvV (As := [.int ((48 * k) + 48), .int ((48 * k) + 48)]) (rest := []) (wr := []) (w2 := (fun u : US => (wMod cI cZ cQ b mday mdoo mdA mdB mfar mmar mtel mgai mfal mtop mstr mgho mfai mpto mwal (u.1 0) (u.1 1) mcho mbes mbyt mtxt mpos mtka mtok mdig mnum mfau mrdm mrea mlin mlne mthg mord mbor mbsm mans mand manr mali))) ⟨hx, hb, hml, hown, hts⟩ (k_X10_goDay2 l dC dI cI cZ cQ b mday mdoo mdA mdB mfar mmar mtel mgai mfal mtop mstr mgho mfai mpto mwal mahd_3 mahf_3 mcho mbes mbyt mtxt mpos mtka mtok mdig mnum mfau mrdm mrea mlin mlne mthg mord mbor mbsm mans mand manr mali _ ((48 * k) + 48) ((48 * k) + 48) r_mday r_mdoo r_mdA r_mdB r_mmar r_mgai r_mfal r_mtop r_mstr r_mgho r_mfai r_mahd_3 r_mahf_3 r_mcho r_mbyt r_mpos r_mrdm r_mlin r_mthg r_mord r_mans (by omega) (by omega) (by omega) (by omega) (by omega)) (cwV 2 hts gX10_isGone_X10_goDay rfl rfl rfl (by decide +kernel) ⟨Nat.le_of_ble_eq_true rfl, Nat.le_of_ble_eq_true rfl⟩) hP hD hS hA hK hN [0, 1, 2, 3, 4, 5, 6, 7, 8, 9, 10, 11, 12, 13, 14, 15, 16, 17, 18, 19, 20, 21, 22, 23, 24, 25] [] [0, 1, 2, 3, 4, 5, 6, 7, 8, 9, 10, 11, 12, 13, 14, 15, 16, 17, 18, 19, 20, 21, 22, 23, 24, 25] rfl rfl (by decide) (by decide) (by decide) (fun _ => rfl) (by decide) 0 10 rfl rfl rfl hl.1 rfl (Nat.le_of_ble_eq_true rfl) dX10_isGone_149 ⟨Nat.le_of_ble_eq_true rfl, Nat.le_of_ble_eq_true rfl⟩ (fun u38 H locs h37 hP hD hS => ?_)
              obtain ⟨mahd_c39, emahd_c39⟩ : ∃ f : Nat → Int32, f = (u38.1 0) := ⟨_, rfl⟩
              obtain ⟨mahf_c40, emahf_c40⟩ : ∃ f : Nat → Int32, f = (u38.1 1) := ⟨_, rfl⟩
              have hP : va_P (dC, dI) vwCl (wMod cI cZ cQ b mday mdoo mdA mdB mfar mmar mtel mgai mfal mtop mstr mgho mfai mpto mwal mahd_c39 mahf_c40 mcho mbes mbyt mtxt mpos mtka mtok mdig mnum mfau mrdm mrea mlin mlne mthg mord mbor mbsm mans mand manr mali) H := by rw [emahd_c39, emahf_c40]; exact hP
              have hD : va_D A (wMod cI cZ cQ b mday mdoo mdA mdB mfar mmar mtel mgai mfal mtop mstr mgho mfai mpto mwal mahd_c39 mahf_c40 mcho mbes mbyt mtxt mpos mtka mtok mdig mnum mfau mrdm mrea mlin mlne mthg mord mbor mbsm mans mand manr mali) := by rw [emahd_c39, emahf_c40]; exact hD
              have h37 : (gdS mfal mmar mtop mtel ((48 * k) + 48).toInt 48 mahd_3 mahf_3 mahd_c39 mahf_c40) ∧ (rg 240 (0) (100) mahd_c39) ∧ (rg 240 (0) (100) mahf_c40) := by (try rw [emahd_c39]); (try rw [emahf_c40]); exact h37
              obtain ⟨h37_0, h37_1, h37_2⟩ := h37
              refine lv_iconst (v := 1) hx hb dX10_isGone_152 (by decide) ?_
              exact W.zret (v := 1) hx hb hr (by decide) (fun tq ht hW => ⟨⟨1, (uS [mahd_c39, mahf_c40, mfar] 0 (fun _ => 0)), rfl, ⟨(Or.inl (⟨rfl, (show igT mdA mdB mtop mfal mmar mdoo.toInt mtel mgai.toInt k ro mi mahd mahd_c39 from by (try rw [show (1 : Int32).toInt = 1 from (show (1 : Int32).toInt = 1 from rfl)]); (first | exact ⟨Or.inl (by omega), ly_0 i3_2 (by omega) (by assumption) (by omega) (by omega) (by omega) (by omega)⟩ | exact ⟨ig_y (by assumption) (by assumption) (mn_at (by rfl) (by omega)) (by omega), ly_w i3_2 (by omega) (by assumption) (by assumption) (by omega) (by omega) (by omega) (by omega) (by omega)⟩ | exact ig_n1 (by omega) (by assumption) (by assumption) | exact ig_n2 (by omega) (by assumption) (mn_at (by rfl) (by omega)) (by omega)))⟩)), h37_1, h37_2⟩, by rw [ht]; exact hP, hD⟩, hS.F ht⟩) hS.2.2 dX10_isGone_153
            · have dc31 : ro.toInt < 8 := nleC (show (8 : Int32).toInt = 8 from rfl) rfl c31
              exfalso
              omega
          · have dc30 : ((mi >>> ((7 * k) &&& 31)) &&& 127).toInt < 0 := nleC (show (0 : Int32).toInt = 0 from rfl) rfl c30
            exfalso
            omega
      · have dc1 : y3_4.toInt < 48 := nleC (show (48 : Int32).toInt = 48 from rfl) rfl c1
        refine lv_aload_n hx hb dX10_isGone_10 rfl (lv_at hl 0 rfl) ?_
        refine va_get (D := (dC, dI)) (ci := 10) (v := .ref (b 15)) (C := RX10) (T := TX10) (N := 39) hx hb hts inX10 hown hK hP 0 rfl rfl 15 (by decide) lf50 (fun _ h9 => h9) rfl dX10_isGone_11 ?_
        refine lv_bipush (v := 48) hx hb dX10_isGone_14 (by decide) ?_
        refine lv_iload_n hx hb dX10_isGone_16 rfl (lv_at hl 1 rfl) ?_
        refine lv_imul hx hb dX10_isGone_17 ?_
        have f41 : (48 * k).toInt = (48) * (k.toInt) := mulC (show (48 : Int32).toInt = 48 from rfl) rfl (by omega) (by omega)
        refine lv_bipush (v := 48) hx hb dX10_isGone_18 (by decide) ?_
        refine lv_iadd hx hb dX10_isGone_20 ?_
        have f42 : ((48 * k) + 48).toInt = ((48) * (k.toInt)) + (48) := addC f41 (show (48 : Int32).toInt = 48 from rfl) (by omega) (by omega)
        refine lv_iload hx hb dX10_isGone_21 (lv_at hl 4 rfl) ?_
        refine lv_iadd hx hb dX10_isGone_23 ?_
        have f43 : (((48 * k) + 48) + y3_4).toInt = (((48) * (k.toInt)) + (48)) + (y3_4.toInt) := addC f42 rfl (by omega) (by omega)
        refine lv_aload_n hx hb dX10_isGone_24 rfl (lv_at hl 0 rfl) ?_
        refine va_get (D := (dC, dI)) (ci := 10) (v := .ref (b 15)) (C := RX10) (T := TX10) (N := 39) hx hb hts inX10 hown hK hP 0 rfl rfl 15 (by decide) lf50 (fun _ h9 => h9) rfl dX10_isGone_25 ?_
        refine lv_bipush (v := 48) hx hb dX10_isGone_28 (by decide) ?_
        refine lv_iload_n hx hb dX10_isGone_30 rfl (lv_at hl 1 rfl) ?_
        refine lv_imul hx hb dX10_isGone_31 ?_
        have f44 : (48 * k).toInt = (48) * (k.toInt) := mulC (show (48 : Int32).toInt = 48 from rfl) rfl (by omega) (by omega)
        refine lv_iload hx hb dX10_isGone_32 (lv_at hl 4 rfl) ?_
        refine lv_iadd hx hb dX10_isGone_34 ?_
        have f45 : ((48 * k) + y3_4).toInt = ((48) * (k.toInt)) + (y3_4.toInt) := addC f44 rfl (by omega) (by omega)
        have b46 : vp_in ((48 * k) + y3_4) 240 := inC f45 (by omega) (by omega)
        refine va_iald hx hb hK hP 12 0 rfl rfl b46 dX10_isGone_35 ?_
        have g47 : 0 ≤ (mahd_3 ((48 * k) + y3_4).toNatClampNeg).toInt ∧ (mahd_3 ((48 * k) + y3_4).toNatClampNeg).toInt ≤ 100 := rg_at r_mahd_3 b46
        refine lv_topi (fun x48 ex48 => ?_)
        have ix48 : x48.toInt = (mahd_3 ((48 * k) + y3_4).toNatClampNeg).toInt := by rw [ex48]
        have b49 : vp_in (((48 * k) + 48) + y3_4) 240 := inC f43 (by omega) (by omega)
        have g50 : rg 240 (0) (100) (upd mahd_3 (((48 * k) + 48) + y3_4).toNatClampNeg x48) := rg_upd r_mahd_3 rfl (by omega) (by omega)
        refine va_iast hx hb hK hP hD hS 12 0 rfl rfl b49 dX10_isGone_36 (fun H locs hP hD hS => ?_)
        obtain ⟨mahd_u51, emahd_u51⟩ : ∃ f : Nat → Int32, f = upd mahd_3 (((48 * k) + 48) + y3_4).toNatClampNeg x48 := ⟨_, rfl⟩
        have rmahd_u51 : rg 240 (0) (100) mahd_u51 := by rw [emahd_u51]; exact g50
        have hP : va_P (dC, dI) vwCl (wMod cI cZ cQ b mday mdoo mdA mdB mfar mmar mtel mgai mfal mtop mstr mgho mfai mpto mwal mahd_u51 mahf_3 mcho mbes mbyt mtxt mpos mtka mtok mdig mnum mfau mrdm mrea mlin mlne mthg mord mbor mbsm mans mand manr mali) H := by rw [emahd_u51]; exact hP
        have hD : va_D A (wMod cI cZ cQ b mday mdoo mdA mdB mfar mmar mtel mgai mfal mtop mstr mgho mfai mpto mwal mahd_u51 mahf_3 mcho mbes mbyt mtxt mpos mtka mtok mdig mnum mfau mrdm mrea mlin mlne mthg mord mbor mbsm mans mand manr mali) := by rw [emahd_u51]; exact hD
        refine lv_aload_n hx hb dX10_isGone_37 rfl (lv_at hl 0 rfl) ?_
        refine va_get (D := (dC, dI)) (ci := 10) (v := .ref (b 16)) (C := RX10) (T := TX10) (N := 39) hx hb hts inX10 hown hK hP 0 rfl rfl 16 (by decide) lf53 (fun _ h9 => h9) rfl dX10_isGone_38 ?_
        refine lv_bipush (v := 48) hx hb dX10_isGone_41 (by decide) ?_
        refine lv_iload_n hx hb dX10_isGone_43 rfl (lv_at hl 1 rfl) ?_
        refine lv_imul hx hb dX10_isGone_44 ?_
        have f52 : (48 * k).toInt = (48) * (k.toInt) := mulC (show (48 : Int32).toInt = 48 from rfl) rfl (by omega) (by omega)
        refine lv_bipush (v := 48) hx hb dX10_isGone_45 (by decide) ?_
        refine lv_iadd hx hb dX10_isGone_47 ?_
        have f53 : ((48 * k) + 48).toInt = ((48) * (k.toInt)) + (48) := addC f52 (show (48 : Int32).toInt = 48 from rfl) (by omega) (by omega)
        refine lv_iload hx hb dX10_isGone_48 (lv_at hl 4 rfl) ?_
        refine lv_iadd hx hb dX10_isGone_50 ?_
        have f54 : (((48 * k) + 48) + y3_4).toInt = (((48) * (k.toInt)) + (48)) + (y3_4.toInt) := addC f53 rfl (by omega) (by omega)
        refine lv_aload_n hx hb dX10_isGone_51 rfl (lv_at hl 0 rfl) ?_
        refine va_get (D := (dC, dI)) (ci := 10) (v := .ref (b 16)) (C := RX10) (T := TX10) (N := 39) hx hb hts inX10 hown hK hP 0 rfl rfl 16 (by decide) lf53 (fun _ h9 => h9) rfl dX10_isGone_52 ?_
        refine lv_bipush (v := 48) hx hb dX10_isGone_55 (by decide) ?_
        refine lv_iload_n hx hb dX10_isGone_57 rfl (lv_at hl 1 rfl) ?_
        refine lv_imul hx hb dX10_isGone_58 ?_
        have f55 : (48 * k).toInt = (48) * (k.toInt) := mulC (show (48 : Int32).toInt = 48 from rfl) rfl (by omega) (by omega)
        refine lv_iload hx hb dX10_isGone_59 (lv_at hl 4 rfl) ?_
        refine lv_iadd hx hb dX10_isGone_61 ?_
        have f56 : ((48 * k) + y3_4).toInt = ((48) * (k.toInt)) + (y3_4.toInt) := addC f55 rfl (by omega) (by omega)
        have b57 : vp_in ((48 * k) + y3_4) 240 := inC f56 (by omega) (by omega)
        refine va_iald hx hb hK hP 13 0 rfl rfl b57 dX10_isGone_62 ?_
        have g58 : 0 ≤ (mahf_3 ((48 * k) + y3_4).toNatClampNeg).toInt ∧ (mahf_3 ((48 * k) + y3_4).toNatClampNeg).toInt ≤ 100 := rg_at r_mahf_3 b57
        refine lv_topi (fun x59 ex59 => ?_)
        have ix59 : x59.toInt = (mahf_3 ((48 * k) + y3_4).toNatClampNeg).toInt := by rw [ex59]
        have b60 : vp_in (((48 * k) + 48) + y3_4) 240 := inC f54 (by omega) (by omega)
        have g61 : rg 240 (0) (100) (upd mahf_3 (((48 * k) + 48) + y3_4).toNatClampNeg x59) := rg_upd r_mahf_3 rfl (by omega) (by omega)
        refine va_iast hx hb hK hP hD hS 13 0 rfl rfl b60 dX10_isGone_63 (fun H locs hP hD hS => ?_)
        obtain ⟨mahf_u62, emahf_u62⟩ : ∃ f : Nat → Int32, f = upd mahf_3 (((48 * k) + 48) + y3_4).toNatClampNeg x59 := ⟨_, rfl⟩
        have rmahf_u62 : rg 240 (0) (100) mahf_u62 := by rw [emahf_u62]; exact g61
        have hP : va_P (dC, dI) vwCl (wMod cI cZ cQ b mday mdoo mdA mdB mfar mmar mtel mgai mfal mtop mstr mgho mfai mpto mwal mahd_u51 mahf_u62 mcho mbes mbyt mtxt mpos mtka mtok mdig mnum mfau mrdm mrea mlin mlne mthg mord mbor mbsm mans mand manr mali) H := by rw [emahf_u62]; exact hP
        have hD : va_D A (wMod cI cZ cQ b mday mdoo mdA mdB mfar mmar mtel mgai mfal mtop mstr mgho mfai mpto mwal mahd_u51 mahf_u62 mcho mbes mbyt mtxt mpos mtka mtok mdig mnum mfau mrdm mrea mlin mlne mthg mord mbor mbsm mans mand manr mali) := by rw [emahf_u62]; exact hD
        obtain ⟨z63, ez63⟩ : ∃ y : Int32, y = y3_4 + 1 := ⟨_, rfl⟩
        have iz63 : z63.toInt = y3_4.toInt + 1 := by rw [ez63]; exact addC rfl rfl (by omega) (by omega)
        refine lv_iinc (v := z63) (lv' := [(4, .int z63), (0, .ref (b 39)), (1, .int k), (2, .int ro), (3, .int mi)]) hx hb dX10_isGone_64 hl (k := 4) rfl (by rw [ez63]; rfl) (by decide) rfl (fun ls hl => ?_)
        refine lv_goto (tgt := 3) hx hb dX10_isGone_67 (by decide) ?_
        exact ih3 z63 mahd_u51 mahf_u62 _ _ _ rmahd_u51 rmahf_u62 (by omega) (by omega) (by (first | exact cl_s (d := 48 * k + 48 + y3_4) (s := 48 * k + y3_4) i3_2 (by assumption) (by assumption) (by omega) (by omega) (by omega) (by omega) (by omega) (by omega) (by omega) | exact cl_0 (by first | rfl | omega))) (by omega) hP hD hS (lv_sub hl [1, 2, 3, 4, 0] rfl)
  have kc64 : (0 : Int32).toInt = 0 := rfl
  exact L3 _ 0 mahd mahf _ _ _ r_mahd r_mahf (by omega) (by omega) (by (first | exact cl_s (d := 48 * k + 48 + y3_4) (s := 48 * k + y3_4) i3_2 (by assumption) (by assumption) (by omega) (by omega) (by omega) (by omega) (by omega) (by omega) (by omega) | exact cl_0 (by first | rfl | omega))) (Nat.lt_succ_self _) hP hD hS (lv_sub hl [1, 2, 3, 4, 0] rfl)
set_option maxHeartbeats 4000000 in
set_option maxRecDepth 100000 in
theorem k_X10_allAt2 (l : Launch) (dC : Nat → ClassId) (dI : Nat → Nat → Nat) (cI cZ cQ : ClassId) (b : Nat → Nat) (mday : Int32) (mdoo : Int32) (mdA : Nat → Int32) (mdB : Nat → Int32) (mfar : Nat → Int32) (mmar : Nat → Int32) (mtel : Int32) (mgai : Int32) (mfal : Nat → Int32) (mtop : Nat → Int32) (mstr : Nat → Int32) (mgho : Nat → Int32) (mfai : Nat → Int32) (mpto : Nat → Int32) (mwal : Nat → Int32) (mahd : Nat → Int32) (mahf : Nat → Int32) (mcho : Nat → Int32) (mbes : Nat → Int32) (mbyt : Int32) (mtxt : Nat → Int32) (mpos : Int32) (mtka : Int32) (mtok : Int64) (mdig : Int32) (mnum : Int32) (mfau : Int32) (mrdm : Int32) (mrea : Nat → Int32) (mlin : Int32) (mlne : Nat → Int32) (mthg : Nat → Int32) (mord : Nat → Int32) (mbor : Nat → Int32) (mbsm : Int32) (mans : Nat → Int32) (mand : Nat → Int32) (manr : Nat → Int32) (mali : Nat → Int32) (at_ : Int32) (r_mday : 0 ≤ mday.toInt ∧ mday.toInt ≤ 400) (r_mdoo : 0 ≤ mdoo.toInt ∧ mdoo.toInt ≤ 14) (r_mdA : rg 14 (0) (7) mdA) (r_mdB : rg 14 (0) (7) mdB) (r_mmar : rg 24 (0) (255) mmar) (r_mgai : 0 ≤ mgai.toInt ∧ mgai.toInt ≤ 100) (r_mfal : rg 11 (0) (30) mfal) (r_mtop : rg 48 (-1) (23) mtop) (r_mstr : rg 48 (0) (100) mstr) (r_mgho : rg 48 (-1) (23) mgho) (r_mfai : rg 48 (0) (100) mfai) (r_mahd : rg 240 (0) (100) mahd) (r_mahf : rg 240 (0) (100) mahf) (r_mcho : rg 5 (-1) (9) mcho) (r_mbyt : 0 ≤ mbyt.toInt ∧ mbyt.toInt ≤ 160) (r_mpos : 0 ≤ mpos.toInt ∧ mpos.toInt ≤ 160) (r_mrdm : 0 ≤ mrdm.toInt ∧ mrdm.toInt ≤ 10) (r_mlin : 0 ≤ mlin.toInt ∧ mlin.toInt ≤ 10) (r_mthg : rg 8 (0) (31) mthg) (r_mord : rg 8 (-1) (8) mord) (r_mans : rg 4 (0) (12) mans) (q0 : 0 ≤ at_.toInt) (q1 : at_.toInt ≤ 192) : KR l yX10_allAt wsX10_allAt { frames := 0, cells := 0, slots := 0, locals := 0 } (dC, dI) (TY cI cZ cQ) (wMod cI cZ cQ b mday mdoo mdA mdB mfar mmar mtel mgai mfal mtop mstr mgho mfai mpto mwal mahd mahf mcho mbes mbyt mtxt mpos mtka mtok mdig mnum mfau mrdm mrea mlin mlne mthg mord mbor mbsm mans mand manr mali) [.ref (b 39), .int at_] (fun r : Int32 => (r.toInt = srF mtop (fun c => (mahd (at_.toInt.toNat + c)).toInt) 0 48) ∧ (0 ≤ r.toInt)) := by
  refine Met.ofW (cc := cX10_allAt) (maxL := 4) (ret := (some .int)) (by decide) rfl ?_
  intro p e s m args below meth c s₁ B hml hv
  obtain ⟨rfl, hP, hK, hN⟩ := hv
  have hx := B.exec
  have hb := B.bytes
  have hr := B.returns
  have hts := atoms_spec (ws := wsX10_allAt) B.pre
  have hown : s.vm.findClass RX10 = some m.cls := findClass_of_methodNamed B.named
  have hlocks := B.notSynchronized
  have lf32 := hts (.fieldLink RX10 32 "PalaceOfRoomsModel" "top" "[I") (List.mem_cons_of_mem _ (List.mem_append_left _ (List.mem_of_getElem? (i := 0) rfl)))
  have inX10 : ∀ w ∈ wsX100, w ∈ wsX10_allAt := fun w h => List.mem_cons_of_mem _ (List.mem_append_right _ h)
  have lf50 := hts (.fieldLink RX10 50 "PalaceOfRoomsModel" "ahead" "[I") (List.mem_cons_of_mem _ (List.mem_append_left _ (List.mem_of_getElem? (i := 1) rfl)))
  have hl := lv_entry ([.ref (b 39), .int at_]) (n := 4) (Nat.le_of_ble_eq_true rfl)
  rw [lg_entry_eq]
  generalize (lg_sl ([.ref (b 39), .int at_]) ++ List.replicate (4 - (lg_sl ([.ref (b 39), .int at_])).length) Slot.unset).toArray = ls at hl ⊢
  have hl : lv_has ls 4 [(0, .ref (b 39)), (1, .int at_)] := hl
  refine lv_iconst (v := 0) hx hb dX10_allAt_0 (by decide) ?_
  refine lv_istore_n (lv' := [(2, .int 0), (0, .ref (b 39)), (1, .int at_)]) hx hb dX10_allAt_1 rfl hl (by decide) rfl (fun ls hl => ?_)
  refine lv_iconst (v := 0) hx hb dX10_allAt_2 (by decide) ?_
  refine lv_istore_n (lv' := [(3, .int 0), (2, .int 0), (0, .ref (b 39)), (1, .int at_)]) hx hb dX10_allAt_3 rfl hl (by decide) rfl (fun ls hl => ?_)
  have L4 : ∀ (nn : Nat) (y4_2 : Int32) (y4_3 : Int32) (ls : Array Slot), (0 ≤ (y4_3.toInt)) → ((y4_3.toInt) ≤ 48) → (0 ≤ (y4_2.toInt)) → ((y4_2.toInt) ≤ 4800) → ((y4_2.toInt) ≤ 100 * (y4_3.toInt)) → ((y4_2.toInt) = srF mtop (fun c => (mahd (at_.toInt.toNat + c)).toInt) 0 ((y4_3.toInt)).toNat) → (48 - (y4_3.toInt)).toNat < nn → lv_has ls 4 [(0, .ref (b 39)), (1, .int at_), (2, .int y4_2), (3, .int y4_3)] → W p l e (headSpec wsX10_allAt { frames := 0, cells := 0, slots := 0, locals := 0 }).room s m ([.ref (b 39), .int at_] : List Value).toArray below meth c s.heap [] 0 0 (MQ below (QR (fun r : Int32 => (r.toInt = srF mtop (fun c => (mahd (at_.toInt.toNat + c)).toInt) 0 48) ∧ (0 ≤ r.toInt))) ([.ref (b 39), .int at_] : List Value).toArray s 0 0 (fun _ => False)) (F0 m 4 ls []) := by
    intro nn
    induction nn with
    | zero =>
      intro y4_2 y4_3 ls i4_0 i4_1 i4_2 i4_3 i4_4 i4_5 hm4
      exact absurd hm4 (Nat.not_lt_zero _)
    | succ nn ih4 =>
      intro y4_2 y4_3 ls i4_0 i4_1 i4_2 i4_3 i4_4 i4_5 hm4 hl
      refine lv_iload_n hx hb dX10_allAt_4 rfl (lv_at hl 3 rfl) ?_
      refine lv_bipush (v := 48) hx hb dX10_allAt_5 (by decide) ?_
      refine lv_icmp_ge (tgt := 41) hx hb dX10_allAt_7 (by decide) (fun c1 => ?_) (fun c1 => ?_)
      · have dc1 : 48 ≤ y4_3.toInt := leC (show (48 : Int32).toInt = 48 from rfl) rfl c1
        refine lv_iload_n hx hb dX10_allAt_41 rfl (lv_at hl 2 rfl) ?_
        exact W.iret (v := y4_2) hx hb hr (fun tq ht hW => ⟨y4_2, rfl, ⟨(show y4_2.toInt = srF mtop (fun c => (mahd (at_.toInt.toNat + c)).toInt) 0 48 from by exact sr_e i4_5 rfl (by omega)), (show 0 ≤ y4_2.toInt from by omega)⟩, ht⟩) (fun q h => by cases h) dX10_allAt_42
      · have dc1 : y4_3.toInt < 48 := nleC (show (48 : Int32).toInt = 48 from rfl) rfl c1
        refine lv_iload_n hx hb dX10_allAt_10 rfl (lv_at hl 2 rfl) ?_
        refine lv_aload_n hx hb dX10_allAt_11 rfl (lv_at hl 0 rfl) ?_
        refine va_get (D := (dC, dI)) (ci := 10) (v := .ref (b 9)) (C := RX10) (T := TX10) (N := 39) hx hb hts inX10 hown hK hP 0 rfl rfl 9 (by decide) lf32 (fun _ h9 => h9) rfl dX10_allAt_12 ?_
        refine lv_iload_n hx hb dX10_allAt_15 rfl (lv_at hl 3 rfl) ?_
        have b2 : vp_in y4_3 48 := inC rfl (by omega) (by omega)
        refine va_iald hx hb hK hP 6 0 rfl rfl b2 dX10_allAt_16 ?_
        have g3 : -1 ≤ (mtop y4_3.toNatClampNeg).toInt ∧ (mtop y4_3.toNatClampNeg).toInt ≤ 23 := rg_at r_mtop b2
        refine lv_iconst (v := (-1)) hx hb dX10_allAt_17 (by decide) ?_
        refine lv_icmp_ne (tgt := 25) hx hb dX10_allAt_18 (by decide) (fun c4 => ?_) (fun c4 => ?_)
        · have dc4 : 0 ≤ (mtop y4_3.toNatClampNeg).toInt := ka_lo (by omega) (neC rfl (show ((-1) : Int32).toInt = (-1) from rfl) c4)
          refine lv_aload_n hx hb dX10_allAt_25 rfl (lv_at hl 0 rfl) ?_
          refine va_get (D := (dC, dI)) (ci := 10) (v := .ref (b 15)) (C := RX10) (T := TX10) (N := 39) hx hb hts inX10 hown hK hP 0 rfl rfl 15 (by decide) lf50 (fun _ h9 => h9) rfl dX10_allAt_26 ?_
          refine lv_iload_n hx hb dX10_allAt_29 rfl (lv_at hl 1 rfl) ?_
          refine lv_iload_n hx hb dX10_allAt_30 rfl (lv_at hl 3 rfl) ?_
          refine lv_iadd hx hb dX10_allAt_31 ?_
          have f5 : (at_ + y4_3).toInt = (at_.toInt) + (y4_3.toInt) := addC rfl rfl (by omega) (by omega)
          have b6 : vp_in (at_ + y4_3) 240 := inC f5 (by omega) (by omega)
          refine va_iald hx hb hK hP 12 0 rfl rfl b6 dX10_allAt_32 ?_
          have g7 : 0 ≤ (mahd (at_ + y4_3).toNatClampNeg).toInt ∧ (mahd (at_ + y4_3).toNatClampNeg).toInt ≤ 100 := rg_at r_mahd b6
          refine lv_iadd hx hb dX10_allAt_33 ?_
          have f8 : (y4_2 + (mahd (at_ + y4_3).toNatClampNeg)).toInt = (y4_2.toInt) + ((mahd (at_ + y4_3).toNatClampNeg).toInt) := addC rfl rfl (by omega) (by omega)
          refine lv_topi (fun x9 ex9 => ?_)
          have ix9 : x9.toInt = (y4_2.toInt) + ((mahd (at_ + y4_3).toNatClampNeg).toInt) := by rw [ex9]; exact f8
          refine lv_istore_n (lv' := [(2, .int x9), (0, .ref (b 39)), (1, .int at_), (3, .int y4_3)]) hx hb dX10_allAt_34 rfl hl (by decide) rfl (fun ls hl => ?_)
          obtain ⟨z10, ez10⟩ : ∃ y : Int32, y = y4_3 + 1 := ⟨_, rfl⟩
          have iz10 : z10.toInt = y4_3.toInt + 1 := by rw [ez10]; exact addC rfl rfl (by omega) (by omega)
          refine lv_iinc (v := z10) (lv' := [(3, .int z10), (2, .int x9), (0, .ref (b 39)), (1, .int at_)]) hx hb dX10_allAt_35 hl (k := 3) rfl (by rw [ez10]; rfl) (by decide) rfl (fun ls hl => ?_)
          refine lv_goto (tgt := 4) hx hb dX10_allAt_38 (by decide) ?_
          exact ih4 x9 z10 _ (by omega) (by omega) (by omega) (by omega) (by omega) (by (first | exact sr_s (o := y4_3) i4_5 (by rw [clC (x := y4_3) rfl]; omega) (by first | exact Or.inl ⟨by assumption, by first | rfl | omega⟩ | exact Or.inr ⟨by assumption, aa_of (x := at_ + y4_3) (by omega) (by omega) (by omega) (by omega)⟩) (by omega) | exact sr_0 (by first | rfl | omega) (by first | rfl | omega))) (by omega) (lv_sub hl [2, 3, 1, 0] rfl)
        · have dc4 : (mtop y4_3.toNatClampNeg).toInt = (-1) := eqC rfl (show ((-1) : Int32).toInt = (-1) from rfl) c4
          refine lv_iconst (v := 0) hx hb dX10_allAt_21 (by decide) ?_
          refine lv_goto (tgt := 33) hx hb dX10_allAt_22 (by decide) ?_
          refine lv_iadd hx hb dX10_allAt_33 ?_
          have f11 : (y4_2 + 0).toInt = (y4_2.toInt) + (0) := addC rfl (show (0 : Int32).toInt = 0 from rfl) (by omega) (by omega)
          refine lv_topi (fun x12 ex12 => ?_)
          have ix12 : x12.toInt = (y4_2.toInt) + (0) := by rw [ex12]; exact f11
          refine lv_istore_n (lv' := [(2, .int x12), (0, .ref (b 39)), (1, .int at_), (3, .int y4_3)]) hx hb dX10_allAt_34 rfl hl (by decide) rfl (fun ls hl => ?_)
          obtain ⟨z13, ez13⟩ : ∃ y : Int32, y = y4_3 + 1 := ⟨_, rfl⟩
          have iz13 : z13.toInt = y4_3.toInt + 1 := by rw [ez13]; exact addC rfl rfl (by omega) (by omega)
          refine lv_iinc (v := z13) (lv' := [(3, .int z13), (2, .int x12), (0, .ref (b 39)), (1, .int at_)]) hx hb dX10_allAt_35 hl (k := 3) rfl (by rw [ez13]; rfl) (by decide) rfl (fun ls hl => ?_)
          refine lv_goto (tgt := 4) hx hb dX10_allAt_38 (by decide) ?_
          exact ih4 x12 z13 _ (by omega) (by omega) (by omega) (by omega) (by omega) (by (first | exact sr_s (o := y4_3) i4_5 (by rw [clC (x := y4_3) rfl]; omega) (by first | exact Or.inl ⟨by assumption, by first | rfl | omega⟩ | exact Or.inr ⟨by assumption, aa_of (x := at_ + y4_3) (by omega) (by omega) (by omega) (by omega)⟩) (by omega) | exact sr_0 (by first | rfl | omega) (by first | rfl | omega))) (by omega) (lv_sub hl [2, 3, 1, 0] rfl)
  have kc14 : (0 : Int32).toInt = 0 := rfl
  exact L4 _ 0 0 _ (by omega) (by omega) (by omega) (by omega) (by omega) (by (first | exact sr_s (o := y4_3) i4_5 (by rw [clC (x := y4_3) rfl]; omega) (by first | exact Or.inl ⟨by assumption, by first | rfl | omega⟩ | exact Or.inr ⟨by assumption, aa_of (x := at_ + y4_3) (by omega) (by omega) (by omega) (by omega)⟩) (by omega) | exact sr_0 (by first | rfl | omega) (by first | rfl | omega))) (Nat.lt_succ_self _) (lv_sub hl [2, 3, 1, 0] rfl)
set_option maxHeartbeats 4000000 in
set_option maxRecDepth 100000 in
theorem k_X10_judge2 (l : Launch) (dC : Nat → ClassId) (dI : Nat → Nat → Nat) (cI cZ cQ : ClassId) (b : Nat → Nat) (mday : Int32) (mdoo : Int32) (mdA : Nat → Int32) (mdB : Nat → Int32) (mfar : Nat → Int32) (mmar : Nat → Int32) (mtel : Int32) (mgai : Int32) (mfal : Nat → Int32) (mtop : Nat → Int32) (mstr : Nat → Int32) (mgho : Nat → Int32) (mfai : Nat → Int32) (mpto : Nat → Int32) (mwal : Nat → Int32) (mahd : Nat → Int32) (mahf : Nat → Int32) (mcho : Nat → Int32) (mbes : Nat → Int32) (mbyt : Int32) (mtxt : Nat → Int32) (mpos : Int32) (mtka : Int32) (mtok : Int64) (mdig : Int32) (mnum : Int32) (mfau : Int32) (mrdm : Int32) (mrea : Nat → Int32) (mlin : Int32) (mlne : Nat → Int32) (mthg : Nat → Int32) (mord : Nat → Int32) (mbor : Nat → Int32) (mbsm : Int32) (mans : Nat → Int32) (mand : Nat → Int32) (manr : Nat → Int32) (mali : Nat → Int32) (sz : Nat) (row : Int32) (n : Int32) (mi : Int32) (r_mday : 0 ≤ mday.toInt ∧ mday.toInt ≤ 400) (r_mdoo : 0 ≤ mdoo.toInt ∧ mdoo.toInt ≤ 14) (r_mdA : rg 14 (0) (7) mdA) (r_mdB : rg 14 (0) (7) mdB) (r_mmar : rg 24 (0) (255) mmar) (r_mgai : 0 ≤ mgai.toInt ∧ mgai.toInt ≤ 100) (r_mfal : rg 11 (0) (30) mfal) (r_mtop : rg 48 (-1) (23) mtop) (r_mstr : rg 48 (0) (100) mstr) (r_mgho : rg 48 (-1) (23) mgho) (r_mfai : rg 48 (0) (100) mfai) (r_mahd : rg 240 (0) (100) mahd) (r_mahf : rg 240 (0) (100) mahf) (r_mcho : rg 5 (-1) (9) mcho) (r_mbyt : 0 ≤ mbyt.toInt ∧ mbyt.toInt ≤ 160) (r_mpos : 0 ≤ mpos.toInt ∧ mpos.toInt ≤ 160) (r_mrdm : 0 ≤ mrdm.toInt ∧ mrdm.toInt ≤ 10) (r_mlin : 0 ≤ mlin.toInt ∧ mlin.toInt ≤ 10) (r_mthg : rg 8 (0) (31) mthg) (r_mord : rg 8 (-1) (8) mord) (r_mans : rg 4 (0) (12) mans) : KW l yX10_judge wsX10_judge { frames := 4, cells := 0, slots := 0, locals := 97 } (dC, dI) (TY cI cZ cQ) (wMod cI cZ cQ b mday mdoo mdA mdB mfar mmar mtel mgai mfal mtop mstr mgho mfai mpto mwal mahd mahf mcho mbes mbyt mtxt mpos mtka mtok mdig mnum mfau mrdm mrea mlin mlne mthg mord mbor mbsm mans mand manr mali) [.ref (b 39), .int row, .int n, .int mi] sz 0 0 (fun (r : Int32) (u : US) => (spJdgM mdA mdB mmar mfal mtop mstr mdoo mtel mgai.toInt row n mi r) ∧ (rg 240 (0) (100) (u.1 0)) ∧ (rg 240 (0) (100) (u.1 1))) (fun u : US => (wMod cI cZ cQ b mday mdoo mdA mdB (u.1 2) mmar mtel mgai mfal mtop mstr mgho mfai mpto mwal (u.1 0) (u.1 1) mcho mbes mbyt mtxt mpos mtka mtok mdig mnum mfau mrdm mrea mlin mlne mthg mord mbor mbsm mans mand manr mali)) := by
  refine Met.ofW (cc := cX10_judge) (maxL := 5) (ret := (some .int)) (by decide) rfl ?_
  intro p e s m args below meth c s₁ B hml hv
  obtain ⟨rfl, hsz, hP, hK, hD0, hN⟩ := hv
  have hx := B.exec
  have hb := B.bytes
  have hr := B.returns
  have hts := atoms_spec (ws := wsX10_judge) B.pre
  have hown : s.vm.findClass RX10 = some m.cls := findClass_of_methodNamed B.named
  have hlocks := B.notSynchronized
  subst hsz
  have hD := hD0.self (sz := s.heap.size)
  generalize hAe : va_A (wMod cI cZ cQ b mday mdoo mdA mdB mfar mmar mtel mgai mfal mtop mstr mgho mfai mpto mwal mahd mahf mcho mbes mbyt mtxt mpos mtka mtok mdig mnum mfau mrdm mrea mlin mlne mthg mord mbor mbsm mans mand manr mali) s.heap.size = A at hD ⊢
  have hA : ∀ q : Nat, s.heap.size ≤ q → A q := fun q h => by rw [← hAe]; exact Or.inr h
  have hS : va_S A s.heap s.heap [] := va_S.rf
  have hl := lv_entry ([.ref (b 39), .int row, .int n, .int mi]) (n := 5) (Nat.le_of_ble_eq_true rfl)
  rw [lg_entry_eq]
  generalize (lg_sl ([.ref (b 39), .int row, .int n, .int mi]) ++ List.replicate (5 - (lg_sl ([.ref (b 39), .int row, .int n, .int mi])).length) Slot.unset).toArray = ls at hl ⊢
  have hl : lv_has ls 5 [(0, .ref (b 39)), (1, .int row), (2, .int n), (3, .int mi)] := hl
  refine lv_iload_n hx hb dX10_judge_0 rfl (lv_at hl 2 rfl) ?_
  refine lv_iload_n hx hb dX10_judge_1 rfl (lv_at hl 3 rfl) ?_
  refine rdS (As := [.int n, .int mi]) (rest := []) ⟨hx, hb, hml, hown, hts⟩ (k_X10_areMinutes2 l dC dI cI cZ cQ n mi) (va_cwS 2 hts gX10_judge_X10_areMinutes rfl rfl rfl (by decide +kernel) ⟨Nat.le_of_ble_eq_true rfl, Nat.le_of_ble_eq_true rfl⟩) hP hK hN [] rfl rfl hl.1 rfl (Nat.le_of_ble_eq_true rfl) dX10_judge_2 ⟨Nat.le_of_ble_eq_true rfl, Nat.le_of_ble_eq_true rfl⟩ (fun r1 h2 => ?_)
  have h2 : ((((r1 = 1) ∧ (1 ≤ n.toInt) ∧ (n.toInt ≤ 4) ∧ (∀ j : Nat, (j : Int) < n.toInt → (mnW mi j).toInt < 100)) ∨ ((r1 = 0) ∧ (n.toInt < 1 ∨ 4 < n.toInt ∨ ∃ j : Nat, (j : Int) < n.toInt ∧ 99 < (mnW mi j).toInt)))) := h2
  rcases h2 with (⟨rfl, h2_a0, h2_a1, h2_a2⟩ | ⟨rfl, h2_a0⟩)
  · refine lv_if_ne (tgt := 11) hx hb dX10_judge_5 (by decide) (fun _ => ?_) (fun c9 => absurd c9 (by decide))
    refine lv_iconst (v := 0) hx hb dX10_judge_11 (by decide) ?_
    refine lv_istore (lv' := [(4, .int 0), (0, .ref (b 39)), (1, .int row), (2, .int n), (3, .int mi)]) hx hb dX10_judge_12 hl (by decide) rfl (fun ls hl => ?_)
    have L14 : ∀ (nn : Nat) (y14_4 : Int32) (H : Heap) (locs : List Loc) (ls : Array Slot), (0 ≤ (y14_4.toInt)) → ((y14_4.toInt) ≤ 4) → (rwL row (y14_4.toInt)) → ((y14_4.toInt) ≤ n.toInt) → (4 - (y14_4.toInt)).toNat < nn → va_P (dC, dI) vwCl (wMod cI cZ cQ b mday mdoo mdA mdB mfar mmar mtel mgai mfal mtop mstr mgho mfai mpto mwal mahd mahf mcho mbes mbyt mtxt mpos mtka mtok mdig mnum mfau mrdm mrea mlin mlne mthg mord mbor mbsm mans mand manr mali) H → va_D A (wMod cI cZ cQ b mday mdoo mdA mdB mfar mmar mtel mgai mfal mtop mstr mgho mfai mpto mwal mahd mahf mcho mbes mbyt mtxt mpos mtka mtok mdig mnum mfau mrdm mrea mlin mlne mthg mord mbor mbsm mans mand manr mali) → va_S A s.heap H locs → lv_has ls 5 [(0, .ref (b 39)), (1, .int row), (2, .int n), (3, .int mi), (4, .int y14_4)] → W p l e (headSpec wsX10_judge { frames := 4, cells := 0, slots := 0, locals := 97 }).room s m ([.ref (b 39), .int row, .int n, .int mi] : List Value).toArray below meth c H locs 0 0 (MQ below (va_Qi (fun (r : Int32) (u : US) => (spJdgM mdA mdB mmar mfal mtop mstr mdoo mtel mgai.toInt row n mi r) ∧ (rg 240 (0) (100) (u.1 0)) ∧ (rg 240 (0) (100) (u.1 1))) (Bw (dC, dI) A (fun u : US => (wMod cI cZ cQ b mday mdoo mdA mdB (u.1 2) mmar mtel mgai mfal mtop mstr mgho mfai mpto mwal (u.1 0) (u.1 1) mcho mbes mbyt mtxt mpos mtka mtok mdig mnum mfau mrdm mrea mlin mlne mthg mord mbor mbsm mans mand manr mali))) A) ([.ref (b 39), .int row, .int n, .int mi] : List Value).toArray s 0 0 A) (F0 m 14 ls []) := by
      intro nn
      induction nn with
      | zero =>
        intro y14_4 H locs ls i14_0 i14_1 i14_2 i14_3 hm14
        exact absurd hm14 (Nat.not_lt_zero _)
      | succ nn ih14 =>
        intro y14_4 H locs ls i14_0 i14_1 i14_2 i14_3 hm14 hP hD hS hl
        refine lv_iload hx hb dX10_judge_14 (lv_at hl 4 rfl) ?_
        refine lv_iload_n hx hb dX10_judge_16 rfl (lv_at hl 2 rfl) ?_
        refine lv_icmp_ge (tgt := 43) hx hb dX10_judge_17 (by decide) (fun c3 => ?_) (fun c3 => ?_)
        · have dc3 : n.toInt ≤ y14_4.toInt := leC rfl rfl c3
          refine lv_aload_n hx hb dX10_judge_43 rfl (lv_at hl 0 rfl) ?_
          refine wvV (As := []) (rest := []) (wr := []) (w2 := (fun u : US => (wMod cI cZ cQ b mday mdoo mdA mdB mfar mmar mtel mgai mfal mtop mstr mgho mfai mpto mwal (u.1 0) (u.1 1) mcho mbes mbyt mtxt mpos mtka mtok mdig mnum mfau mrdm mrea mlin mlne mthg mord mbor mbsm mans mand manr mali))) ⟨hx, hb, hml, hown, hts⟩ (k_X10_lookAhead2 l dC dI cI cZ cQ b mday mdoo mdA mdB mfar mmar mtel mgai mfal mtop mstr mgho mfai mpto mwal mahd mahf mcho mbes mbyt mtxt mpos mtka mtok mdig mnum mfau mrdm mrea mlin mlne mthg mord mbor mbsm mans mand manr mali _ r_mday r_mdoo r_mdA r_mdB r_mmar r_mgai r_mfal r_mtop r_mstr r_mgho r_mfai r_mahd r_mahf r_mcho r_mbyt r_mpos r_mrdm r_mlin r_mthg r_mord r_mans) (cwV 0 hts gX10_judge_X10_lookAhead rfl rfl rfl (by decide +kernel) ⟨Nat.le_of_ble_eq_true rfl, Nat.le_of_ble_eq_true rfl⟩) hP hD hS hA hK hN [0, 1, 2, 3, 4, 5, 6, 7, 8, 9, 10, 11, 12, 13, 14, 15, 16, 17, 18, 19, 20, 21, 22, 23, 24, 25] [] [0, 1, 2, 3, 4, 5, 6, 7, 8, 9, 10, 11, 12, 13, 14, 15, 16, 17, 18, 19, 20, 21, 22, 23, 24, 25] rfl rfl (by decide) (by decide) (by decide) (fun _ => rfl) (by decide) 0 10 rfl rfl rfl hl.1 rfl (Nat.le_of_ble_eq_true rfl) dX10_judge_44 ⟨Nat.le_of_ble_eq_true rfl, Nat.le_of_ble_eq_true rfl⟩ (fun u6 H locs h5 hP hD hS => ?_)
          obtain ⟨mahd_c7, emahd_c7⟩ : ∃ f : Nat → Int32, f = (u6.1 0) := ⟨_, rfl⟩
          obtain ⟨mahf_c8, emahf_c8⟩ : ∃ f : Nat → Int32, f = (u6.1 1) := ⟨_, rfl⟩
          have hP : va_P (dC, dI) vwCl (wMod cI cZ cQ b mday mdoo mdA mdB mfar mmar mtel mgai mfal mtop mstr mgho mfai mpto mwal mahd_c7 mahf_c8 mcho mbes mbyt mtxt mpos mtka mtok mdig mnum mfau mrdm mrea mlin mlne mthg mord mbor mbsm mans mand manr mali) H := by rw [emahd_c7, emahf_c8]; exact hP
          have hD : va_D A (wMod cI cZ cQ b mday mdoo mdA mdB mfar mmar mtel mgai mfal mtop mstr mgho mfai mpto mwal mahd_c7 mahf_c8 mcho mbes mbyt mtxt mpos mtka mtok mdig mnum mfau mrdm mrea mlin mlne mthg mord mbor mbsm mans mand manr mali) := by rw [emahd_c7, emahf_c8]; exact hD
          have h5 : (laI mtop mstr mgho mfai 48 mahd_c7 mahf_c8) ∧ (rg 240 (0) (100) mahd_c7) ∧ (rg 240 (0) (100) mahf_c8) := by (try rw [emahd_c7]); (try rw [emahf_c8]); exact h5
          obtain ⟨h5_0, h5_1, h5_2⟩ := h5
          refine lv_iconst (v := 0) hx hb dX10_judge_47 (by decide) ?_
          refine lv_istore (lv' := [(4, .int 0), (0, .ref (b 39)), (1, .int row), (2, .int n), (3, .int mi)]) hx hb dX10_judge_48 hl (by decide) rfl (fun ls hl => ?_)
          have L50 : ∀ (nn : Nat) (y50_4 : Int32) (mahd_50 : Nat → Int32) (mahf_50 : Nat → Int32) (mfar_50 : Nat → Int32) (H : Heap) (locs : List Loc) (ls : Array Slot), (rg 240 (0) (100) mahd_50) → (rg 240 (0) (100) mahf_50) → (0 ≤ (y50_4.toInt)) → ((y50_4.toInt) ≤ 4) → (lyI mfal mmar mtop mstr mtel mgai.toInt row (y50_4.toInt) mahd_50) → (wmA mdA mdB mtop mdoo.toInt row mi (y50_4.toInt)) → ((y50_4.toInt) ≤ n.toInt) → (4 - (y50_4.toInt)).toNat < nn → va_P (dC, dI) vwCl (wMod cI cZ cQ b mday mdoo mdA mdB mfar_50 mmar mtel mgai mfal mtop mstr mgho mfai mpto mwal mahd_50 mahf_50 mcho mbes mbyt mtxt mpos mtka mtok mdig mnum mfau mrdm mrea mlin mlne mthg mord mbor mbsm mans mand manr mali) H → va_D A (wMod cI cZ cQ b mday mdoo mdA mdB mfar_50 mmar mtel mgai mfal mtop mstr mgho mfai mpto mwal mahd_50 mahf_50 mcho mbes mbyt mtxt mpos mtka mtok mdig mnum mfau mrdm mrea mlin mlne mthg mord mbor mbsm mans mand manr mali) → va_S A s.heap H locs → lv_has ls 5 [(0, .ref (b 39)), (1, .int row), (2, .int n), (3, .int mi), (4, .int y50_4)] → W p l e (headSpec wsX10_judge { frames := 4, cells := 0, slots := 0, locals := 97 }).room s m ([.ref (b 39), .int row, .int n, .int mi] : List Value).toArray below meth c H locs 0 0 (MQ below (va_Qi (fun (r : Int32) (u : US) => (spJdgM mdA mdB mmar mfal mtop mstr mdoo mtel mgai.toInt row n mi r) ∧ (rg 240 (0) (100) (u.1 0)) ∧ (rg 240 (0) (100) (u.1 1))) (Bw (dC, dI) A (fun u : US => (wMod cI cZ cQ b mday mdoo mdA mdB (u.1 2) mmar mtel mgai mfal mtop mstr mgho mfai mpto mwal (u.1 0) (u.1 1) mcho mbes mbyt mtxt mpos mtka mtok mdig mnum mfau mrdm mrea mlin mlne mthg mord mbor mbsm mans mand manr mali))) A) ([.ref (b 39), .int row, .int n, .int mi] : List Value).toArray s 0 0 A) (F0 m 50 ls []) := by
            intro nn
            induction nn with
            | zero =>
              intro y50_4 mahd_50 mahf_50 mfar_50 H locs ls r_mahd_50 r_mahf_50 i50_0 i50_1 i50_2 i50_3 i50_4 hm50
              exact absurd hm50 (Nat.not_lt_zero _)
            | succ nn ih50 =>
              intro y50_4 mahd_50 mahf_50 mfar_50 H locs ls r_mahd_50 r_mahf_50 i50_0 i50_1 i50_2 i50_3 i50_4 hm50 hP hD hS hl
              refine lv_iload hx hb dX10_judge_50 (lv_at hl 4 rfl) ?_
              refine lv_iload_n hx hb dX10_judge_52 rfl (lv_at hl 2 rfl) ?_
              refine lv_icmp_ge (tgt := 83) hx hb dX10_judge_53 (by decide) (fun c9 => ?_) (fun c9 => ?_)
              · have dc9 : n.toInt ≤ y50_4.toInt := leC rfl rfl c9
                refine lv_aload_n hx hb dX10_judge_83 rfl (lv_at hl 0 rfl) ?_
                refine lv_bipush (v := 48) hx hb dX10_judge_84 (by decide) ?_
                refine lv_iload_n hx hb dX10_judge_86 rfl (lv_at hl 2 rfl) ?_
                refine lv_imul hx hb dX10_judge_87 ?_
                have f10 : (48 * n).toInt = (48) * (n.toInt) := mulC (show (48 : Int32).toInt = 48 from rfl) rfl (by omega) (by omega)
                refine rdV (As := [.int (48 * n)]) (rest := []) ⟨hx, hb, hml, hown, hts⟩ (k_X10_allAt2 l dC dI cI cZ cQ b mday mdoo mdA mdB mfar_50 mmar mtel mgai mfal mtop mstr mgho mfai mpto mwal mahd_50 mahf_50 mcho mbes mbyt mtxt mpos mtka mtok mdig mnum mfau mrdm mrea mlin mlne mthg mord mbor mbsm mans mand manr mali (48 * n) r_mday r_mdoo r_mdA r_mdB r_mmar r_mgai r_mfal r_mtop r_mstr r_mgho r_mfai r_mahd_50 r_mahf_50 r_mcho r_mbyt r_mpos r_mrdm r_mlin r_mthg r_mord r_mans (by omega) (by omega)) (cwV 1 hts gX10_judge_X10_allAt rfl rfl rfl (by decide +kernel) ⟨Nat.le_of_ble_eq_true rfl, Nat.le_of_ble_eq_true rfl⟩) hP hK hN [0, 1, 2, 3, 4, 5, 6, 7, 8, 9, 10, 11, 12, 13, 14, 15, 16, 17, 18, 19, 20, 21, 22, 23, 24, 25] rfl 0 10 rfl rfl rfl hl.1 rfl (Nat.le_of_ble_eq_true rfl) dX10_judge_88 ⟨Nat.le_of_ble_eq_true rfl, Nat.le_of_ble_eq_true rfl⟩ (fun r11 h12 => ?_)
                have h12 : (r11.toInt = srF mtop (fun c => (mahd_50 ((48 * n).toInt.toNat + c)).toInt) 0 48) ∧ (0 ≤ r11.toInt) := h12
                obtain ⟨h12_0, h12_1⟩ := h12
                exact W.iret (v := r11) hx hb hr (fun tq ht hW => ⟨⟨r11, (uS [mahd_50, mahf_50, mfar_50] 0 (fun _ => 0)), rfl, ⟨(show spJdgM mdA mdB mmar mfal mtop mstr mdoo mtel mgai.toInt row n mi r11 from by (first | exact Or.inl ⟨(by first | exact jb_m (by assumption)), rfl⟩ | exact Or.inl ⟨Or.inr (Or.inr (Or.inl (tk_no (rm_at (y := y14_4) (by rfl) (by omega)) (by omega) (by omega)))), rfl⟩ | exact Or.inr ⟨jo_m (by omega) (rl_c i14_2 (by omega)) (by assumption), jm_n (by assumption) (rm_at (y := y50_4) (by rfl) (by omega)) (by omega) (by omega)⟩ | exact Or.inr ⟨jo_m (by omega) (rl_c i14_2 (by omega)) (by assumption), jm_y i50_3 i50_2 (by assumption) (by omega) (by omega) (by omega)⟩)), r_mahd_50, r_mahf_50⟩, by rw [ht]; exact hP, hD⟩, hS.F ht⟩) hS.2.2 dX10_judge_91
              · have dc9 : y50_4.toInt < n.toInt := nleC rfl rfl c9
                have kk := i14_2 y50_4.toInt.toNat (by omega)
                have kq := rm_at (row := row) (y := y50_4) rfl (by omega)
                rw [← kq] at kk
                refine lv_aload_n hx hb dX10_judge_56 rfl (lv_at hl 0 rfl) ?_
                refine lv_iload hx hb dX10_judge_57 (lv_at hl 4 rfl) ?_
                refine lv_iload_n hx hb dX10_judge_59 rfl (lv_at hl 1 rfl) ?_
                refine lv_iconst (v := 4) hx hb dX10_judge_60 (by decide) ?_
                refine lv_iload hx hb dX10_judge_61 (lv_at hl 4 rfl) ?_
                refine lv_imul hx hb dX10_judge_63 ?_
                have f13 : (4 * y50_4).toInt = (4) * (y50_4.toInt) := mulC (show (4 : Int32).toInt = 4 from rfl) rfl (by omega) (by omega)
                refine lv_ishr hx hb dX10_judge_64 ?_
                refine lv_bipush (v := 15) hx hb dX10_judge_65 (by decide) ?_
                refine lv_iand hx hb dX10_judge_67 ?_
                have f14 := andR (a := (row >>> ((4 * y50_4) &&& 31))) (m := 15) (M := 15) rfl (by decide)
                refine lv_iload_n hx hb dX10_judge_68 rfl (lv_at hl 3 rfl) ?_
                refine wrV (As := [.int y50_4, .int ((row >>> ((4 * y50_4) &&& 31)) &&& 15), .int mi]) (rest := []) (wr := []) (w2 := (fun u : US => (wMod cI cZ cQ b mday mdoo mdA mdB (u.1 2) mmar mtel mgai mfal mtop mstr mgho mfai mpto mwal (u.1 0) (u.1 1) mcho mbes mbyt mtxt mpos mtka mtok mdig mnum mfau mrdm mrea mlin mlne mthg mord mbor mbsm mans mand manr mali))) ⟨hx, hb, hml, hown, hts⟩ (k_X10_isGone2 l dC dI cI cZ cQ b mday mdoo mdA mdB mfar_50 mmar mtel mgai mfal mtop mstr mgho mfai mpto mwal mahd_50 mahf_50 mcho mbes mbyt mtxt mpos mtka mtok mdig mnum mfau mrdm mrea mlin mlne mthg mord mbor mbsm mans mand manr mali _ y50_4 ((row >>> ((4 * y50_4) &&& 31)) &&& 15) mi r_mday r_mdoo r_mdA r_mdB r_mmar r_mgai r_mfal r_mtop r_mstr r_mgho r_mfai r_mahd_50 r_mahf_50 r_mcho r_mbyt r_mpos r_mrdm r_mlin r_mthg r_mord r_mans (by omega) (by omega) (by omega) (by omega)) (cwV 3 hts gX10_judge_X10_isGone rfl rfl rfl (by decide +kernel) ⟨Nat.le_of_ble_eq_true rfl, Nat.le_of_ble_eq_true rfl⟩) hP hD hS hA hK hN [0, 1, 2, 3, 4, 5, 6, 7, 8, 9, 10, 11, 12, 13, 14, 15, 16, 17, 18, 19, 20, 21, 22, 23, 24, 25] [] [0, 1, 2, 3, 4, 5, 6, 7, 8, 9, 10, 11, 12, 13, 14, 15, 16, 17, 18, 19, 20, 21, 22, 23, 24, 25] rfl rfl (by decide) (by decide) (by decide) (fun _ => rfl) (by decide) 0 10 rfl rfl rfl hl.1 rfl (Nat.le_of_ble_eq_true rfl) dX10_judge_69 ⟨Nat.le_of_ble_eq_true rfl, Nat.le_of_ble_eq_true rfl⟩ (fun r15 u17 H locs h16 hP hD hS => ?_)
                obtain ⟨mahd_c18, emahd_c18⟩ : ∃ f : Nat → Int32, f = (u17.1 0) := ⟨_, rfl⟩
                obtain ⟨mahf_c19, emahf_c19⟩ : ∃ f : Nat → Int32, f = (u17.1 1) := ⟨_, rfl⟩
                obtain ⟨mfar_c20, emfar_c20⟩ : ∃ f : Nat → Int32, f = (u17.1 2) := ⟨_, rfl⟩
                have hP : va_P (dC, dI) vwCl (wMod cI cZ cQ b mday mdoo mdA mdB mfar_c20 mmar mtel mgai mfal mtop mstr mgho mfai mpto mwal mahd_c18 mahf_c19 mcho mbes mbyt mtxt mpos mtka mtok mdig mnum mfau mrdm mrea mlin mlne mthg mord mbor mbsm mans mand manr mali) H := by rw [emahd_c18, emahf_c19, emfar_c20]; exact hP
                have hD : va_D A (wMod cI cZ cQ b mday mdoo mdA mdB mfar_c20 mmar mtel mgai mfal mtop mstr mgho mfai mpto mwal mahd_c18 mahf_c19 mcho mbes mbyt mtxt mpos mtka mtok mdig mnum mfau mrdm mrea mlin mlne mthg mord mbor mbsm mans mand manr mali) := by rw [emahd_c18, emahf_c19, emfar_c20]; exact hD
                have h16 : ((((r15 = 1) ∧ (igT mdA mdB mtop mfal mmar mdoo.toInt mtel mgai.toInt y50_4 ((row >>> ((4 * y50_4) &&& 31)) &&& 15) mi mahd_50 mahd_c18)) ∨ ((r15 = 0) ∧ (igN mdA mdB mtop mdoo.toInt y50_4 ((row >>> ((4 * y50_4) &&& 31)) &&& 15) mi) ∧ (∀ j : Nat, (j : Int) < 48 * y50_4.toInt + 48 → mahd_c18 j = mahd_50 j)))) ∧ (rg 240 (0) (100) mahd_c18) ∧ (rg 240 (0) (100) mahf_c19) := by (try rw [emahd_c18]); (try rw [emahf_c19]); (try rw [emfar_c20]); exact h16
                rcases h16 with ⟨(⟨rfl, h16_a0⟩ | ⟨rfl, h16_a0, h16_a1⟩), h16_0, h16_1⟩
                · refine lv_if_ne (tgt := 77) hx hb dX10_judge_72 (by decide) (fun _ => ?_) (fun c9 => absurd c9 (by decide))
                  obtain ⟨z21, ez21⟩ : ∃ y : Int32, y = y50_4 + 1 := ⟨_, rfl⟩
                  have iz21 : z21.toInt = y50_4.toInt + 1 := by rw [ez21]; exact addC rfl rfl (by omega) (by omega)
                  refine lv_iinc (v := z21) (lv' := [(4, .int z21), (0, .ref (b 39)), (1, .int row), (2, .int n), (3, .int mi)]) hx hb dX10_judge_77 hl (k := 4) rfl (by rw [ez21]; rfl) (by decide) rfl (fun ls hl => ?_)
                  refine lv_goto (tgt := 50) hx hb dX10_judge_80 (by decide) ?_
                  exact ih50 z21 mahd_c18 mahf_c19 mfar_c20 _ _ _ h16_0 h16_1 (by omega) (by omega) (by (first | exact li_S i50_2 (And.right (by assumption)) rfl (rm_at (y := y50_4) (by rfl) (by omega)) (by omega) (by omega) (by omega) | exact li_A (by assumption) (by omega) (by first | rfl | omega))) (by (first | exact wm_s i50_3 (And.left (by assumption)) (rm_at (y := y50_4) (by rfl) (by omega)) (by omega) (by omega) | exact wm_0 (by first | rfl | omega))) (by omega) (by omega) hP hD hS (lv_sub hl [1, 2, 3, 4, 0] rfl)
                · refine lv_if_ne (tgt := 77) hx hb dX10_judge_72 (by decide) (fun c9 => absurd (by decide) c9) (fun _ => ?_)
                  refine lv_iconst (v := (-1)) hx hb dX10_judge_75 (by decide) ?_
                  exact W.iret (v := (-1)) hx hb hr (fun tq ht hW => ⟨⟨(-1), (uS [mahd_c18, mahf_c19, mfar_c20] 0 (fun _ => 0)), rfl, ⟨(show spJdgM mdA mdB mmar mfal mtop mstr mdoo mtel mgai.toInt row n mi ((-1) : Int32) from by (try rw [show ((-1) : Int32).toInt = (-1) from (show ((-1) : Int32).toInt = (-1) from rfl)]); (first | exact Or.inl ⟨(by first | exact jb_m (by assumption)), rfl⟩ | exact Or.inl ⟨Or.inr (Or.inr (Or.inl (tk_no (rm_at (y := y14_4) (by rfl) (by omega)) (by omega) (by omega)))), rfl⟩ | exact Or.inr ⟨jo_m (by omega) (rl_c i14_2 (by omega)) (by assumption), jm_n (by assumption) (rm_at (y := y50_4) (by rfl) (by omega)) (by omega) (by omega)⟩ | exact Or.inr ⟨jo_m (by omega) (rl_c i14_2 (by omega)) (by assumption), jm_y i50_3 i50_2 (by assumption) (by omega) (by omega) (by omega)⟩)), h16_0, h16_1⟩, by rw [ht]; exact hP, hD⟩, hS.F ht⟩) hS.2.2 dX10_judge_76
          have kc22 : (0 : Int32).toInt = 0 := rfl
          exact L50 _ 0 mahd_c7 mahf_c8 mfar _ _ _ h5_1 h5_2 (by omega) (by omega) (by (first | exact li_S i50_2 (And.right (by assumption)) rfl (rm_at (y := y50_4) (by rfl) (by omega)) (by omega) (by omega) (by omega) | exact li_A (by assumption) (by omega) (by first | rfl | omega))) (by (first | exact wm_s i50_3 (And.left (by assumption)) (rm_at (y := y50_4) (by rfl) (by omega)) (by omega) (by omega) | exact wm_0 (by first | rfl | omega))) (by omega) (Nat.lt_succ_self _) hP hD hS (lv_sub hl [1, 2, 3, 4, 0] rfl)
        · have dc3 : y14_4.toInt < n.toInt := nleC rfl rfl c3
          refine lv_iload_n hx hb dX10_judge_20 rfl (lv_at hl 1 rfl) ?_
          refine lv_iconst (v := 4) hx hb dX10_judge_21 (by decide) ?_
          refine lv_iload hx hb dX10_judge_22 (lv_at hl 4 rfl) ?_
          refine lv_imul hx hb dX10_judge_24 ?_
          have f23 : (4 * y14_4).toInt = (4) * (y14_4.toInt) := mulC (show (4 : Int32).toInt = 4 from rfl) rfl (by omega) (by omega)
          refine lv_ishr hx hb dX10_judge_25 ?_
          refine lv_bipush (v := 15) hx hb dX10_judge_26 (by decide) ?_
          refine lv_iand hx hb dX10_judge_28 ?_
          have f24 := andR (a := (row >>> ((4 * y14_4) &&& 31))) (m := 15) (M := 15) rfl (by decide)
          refine lv_bipush (v := 8) hx hb dX10_judge_29 (by decide) ?_
          refine lv_icmp_le (tgt := 37) hx hb dX10_judge_31 (by decide) (fun c25 => ?_) (fun c25 => ?_)
          · have dc25 : ((row >>> ((4 * y14_4) &&& 31)) &&& 15).toInt ≤ 8 := leC rfl (show (8 : Int32).toInt = 8 from rfl) c25
            obtain ⟨z26, ez26⟩ : ∃ y : Int32, y = y14_4 + 1 := ⟨_, rfl⟩
            have iz26 : z26.toInt = y14_4.toInt + 1 := by rw [ez26]; exact addC rfl rfl (by omega) (by omega)
            refine lv_iinc (v := z26) (lv' := [(4, .int z26), (0, .ref (b 39)), (1, .int row), (2, .int n), (3, .int mi)]) hx hb dX10_judge_37 hl (k := 4) rfl (by rw [ez26]; rfl) (by decide) rfl (fun ls hl => ?_)
            refine lv_goto (tgt := 14) hx hb dX10_judge_40 (by decide) ?_
            exact ih14 z26 _ _ _ (by omega) (by omega) (by (first | exact rl_s i14_2 (rm_at (y := y14_4) (by rfl) (by omega)) (by omega) (by omega) (by omega) | exact rl_0 (by first | rfl | omega))) (by omega) (by omega) hP hD hS (lv_sub hl [1, 2, 3, 4, 0] rfl)
          · have dc25 : 8 < ((row >>> ((4 * y14_4) &&& 31)) &&& 15).toInt := nleC rfl (show (8 : Int32).toInt = 8 from rfl) c25
            refine lv_bipush (v := (-3)) hx hb dX10_judge_34 (by decide) ?_
            exact W.iret (v := (-3)) hx hb hr (fun tq ht hW => ⟨⟨(-3), (uS [mahd, mahf, mfar] 0 (fun _ => 0)), rfl, ⟨(show spJdgM mdA mdB mmar mfal mtop mstr mdoo mtel mgai.toInt row n mi ((-3) : Int32) from by (try rw [show ((-3) : Int32).toInt = (-3) from (show ((-3) : Int32).toInt = (-3) from rfl)]); (first | exact Or.inl ⟨(by first | exact jb_m (by assumption)), rfl⟩ | exact Or.inl ⟨Or.inr (Or.inr (Or.inl (tk_no (rm_at (y := y14_4) (by rfl) (by omega)) (by omega) (by omega)))), rfl⟩ | exact Or.inr ⟨jo_m (by omega) (rl_c i14_2 (by omega)) (by assumption), jm_n (by assumption) (rm_at (y := y50_4) (by rfl) (by omega)) (by omega) (by omega)⟩ | exact Or.inr ⟨jo_m (by omega) (rl_c i14_2 (by omega)) (by assumption), jm_y i50_3 i50_2 (by assumption) (by omega) (by omega) (by omega)⟩)), r_mahd, r_mahf⟩, by rw [ht]; exact hP, hD⟩, hS.F ht⟩) hS.2.2 dX10_judge_36
    have kc27 : (0 : Int32).toInt = 0 := rfl
    exact L14 _ 0 _ _ _ (by omega) (by omega) (by (first | exact rl_s i14_2 (rm_at (y := y14_4) (by rfl) (by omega)) (by omega) (by omega) (by omega) | exact rl_0 (by first | rfl | omega))) (by omega) (Nat.lt_succ_self _) hP hD hS (lv_sub hl [1, 2, 3, 4, 0] rfl)
  · refine lv_if_ne (tgt := 11) hx hb dX10_judge_5 (by decide) (fun c9 => absurd (by decide) c9) (fun _ => ?_)
    refine lv_bipush (v := (-3)) hx hb dX10_judge_8 (by decide) ?_
    exact W.iret (v := (-3)) hx hb hr (fun tq ht hW => ⟨⟨(-3), (uS [mahd, mahf, mfar] 0 (fun _ => 0)), rfl, ⟨(show spJdgM mdA mdB mmar mfal mtop mstr mdoo mtel mgai.toInt row n mi ((-3) : Int32) from by (try rw [show ((-3) : Int32).toInt = (-3) from (show ((-3) : Int32).toInt = (-3) from rfl)]); (first | exact Or.inl ⟨(by first | exact jb_m (by assumption)), rfl⟩ | exact Or.inl ⟨Or.inr (Or.inr (Or.inl (tk_no (rm_at (y := y14_4) (by rfl) (by omega)) (by omega) (by omega)))), rfl⟩ | exact Or.inr ⟨jo_m (by omega) (rl_c i14_2 (by omega)) (by assumption), jm_n (by assumption) (rm_at (y := y50_4) (by rfl) (by omega)) (by omega) (by omega)⟩ | exact Or.inr ⟨jo_m (by omega) (rl_c i14_2 (by omega)) (by assumption), jm_y i50_3 i50_2 (by assumption) (by omega) (by omega) (by omega)⟩)), r_mahd, r_mahf⟩, by rw [ht]; exact hP, hD⟩, hS.F ht⟩) hS.2.2 dX10_judge_10
