set_option maxHeartbeats 4000000 in
set_option maxRecDepth 100000 in
theorem k_X4_unlikeness2 (l : Launch) (dC : Nat → ClassId) (dI : Nat → Nat → Nat) (cI cZ cQ : ClassId) (pu0 : Nat) (pu1 : Nat) (agr : Nat → Int32) (ans : Int32) (dd : Int32) (r_ans : 0 ≤ ans.toInt ∧ ans.toInt ≤ 12) (q0 : 1 ≤ dd.toInt) (q1 : dd.toInt ≤ 60) : KR l yX4_unlikeness wsX4_unlikeness { frames := 2, cells := 0, slots := 0, locals := 41 } (dC, dI) (TY cI cZ cQ) (wPup cI cZ cQ pu0 pu1 agr ans) [.ref pu0, .int dd] (fun r : Int32 => (r.toInt = ofF agr ans dd) ∧ (0 ≤ r.toInt) ∧ (r.toInt ≤ 81)) := by
  refine Met.ofW (cc := cX4_unlikeness) (maxL := 4) (ret := (some .int)) (by decide) rfl ?_
  intro p e s m args below meth c s₁ B hml hv
  obtain ⟨rfl, hP, hK, hN⟩ := hv
  have hx := B.exec
  have hb := B.bytes
  have hr := B.returns
  have hts := atoms_spec (ws := wsX4_unlikeness) B.pre
  have hown : s.vm.findClass RX4 = some m.cls := findClass_of_methodNamed B.named
  have hlocks := B.notSynchronized
  have hl := lv_entry ([.ref pu0, .int dd]) (n := 4) (Nat.le_of_ble_eq_true rfl)
  rw [lg_entry_eq]
  generalize (lg_sl ([.ref pu0, .int dd]) ++ List.replicate (4 - (lg_sl ([.ref pu0, .int dd])).length) Slot.unset).toArray = ls at hl ⊢
  have hl : lv_has ls 4 [(0, .ref pu0), (1, .int dd)] := hl
  refine lv_iconst (v := 0) hx hb dX4_unlikeness_0 (by decide) ?_
  refine lv_istore_n (lv' := [(2, .int 0), (0, .ref pu0), (1, .int dd)]) hx hb dX4_unlikeness_1 rfl hl (by decide) rfl (fun ls hl => ?_)
  refine lv_iconst (v := 0) hx hb dX4_unlikeness_2 (by decide) ?_
  refine lv_istore_n (lv' := [(3, .int 0), (2, .int 0), (0, .ref pu0), (1, .int dd)]) hx hb dX4_unlikeness_3 rfl hl (by decide) rfl (fun ls hl => ?_)
  have L4 : ∀ (nn : Nat) (y4_2 : Int32) (y4_3 : Int32) (ls : Array Slot), (0 ≤ (y4_3.toInt)) → ((y4_3.toInt) ≤ 81) → (-81 ≤ (y4_2.toInt)) → ((y4_2.toInt) ≤ 81) → (0 - (y4_3.toInt) ≤ (y4_2.toInt)) → ((y4_2.toInt) ≤ (y4_3.toInt)) → ((y4_2.toInt) = unF agr ans dd ((y4_3.toInt)).toNat) → (81 - (y4_3.toInt)).toNat < nn → lv_has ls 4 [(0, .ref pu0), (1, .int dd), (2, .int y4_2), (3, .int y4_3)] → W p l e (headSpec wsX4_unlikeness { frames := 2, cells := 0, slots := 0, locals := 41 }).room s m ([.ref pu0, .int dd] : List Value).toArray below meth c s.heap [] 0 0 (MQ below (QR (fun r : Int32 => (r.toInt = ofF agr ans dd) ∧ (0 ≤ r.toInt) ∧ (r.toInt ≤ 81))) ([.ref pu0, .int dd] : List Value).toArray s 0 0 (fun _ => False)) (F0 m 4 ls []) := by
    intro nn
    induction nn with
    | zero =>
      intro y4_2 y4_3 ls i4_0 i4_1 i4_2 i4_3 i4_4 i4_5 i4_6 hm4
      exact absurd hm4 (Nat.not_lt_zero _)
    | succ nn ih4 =>
      intro y4_2 y4_3 ls i4_0 i4_1 i4_2 i4_3 i4_4 i4_5 i4_6 hm4 hl
      refine lv_iload_n hx hb dX4_unlikeness_4 rfl (lv_at hl 3 rfl) ?_
      refine lv_bipush (v := 81) hx hb dX4_unlikeness_5 (by decide) ?_
      refine lv_icmp_ge (tgt := 40) hx hb dX4_unlikeness_7 (by decide) (fun c1 => ?_) (fun c1 => ?_)
      · have dc1 : 81 ≤ y4_3.toInt := leC (show (81 : Int32).toInt = 81 from rfl) rfl c1
        refine lv_iload_n hx hb dX4_unlikeness_40 rfl (lv_at hl 2 rfl) ?_
        refine va_mabs hx hb (by rw [hml]; exact hl.1.symm) hown (hts (.methodLink RX4 44 Lib.Math.abs.name) (List.mem_cons_of_mem _ (List.mem_append_left _ (List.mem_of_getElem? (i := 0) rfl)))) (hts (.static Lib.Math.abs.name) (List.mem_cons_of_mem _ (List.mem_append_left _ (List.mem_of_getElem? (i := 1) rfl)))) (hts (.initialized "java/lang/Math") (List.mem_cons_of_mem _ (List.mem_append_left _ (List.mem_of_getElem? (i := 2) rfl)))) (hts (.code Lib.Math.abs.name Lib.Math.abs.code 1 (some .int)) (List.mem_cons_of_mem _ (List.mem_append_left _ (List.mem_of_getElem? (i := 3) rfl)))) (Nat.le_of_ble_eq_true rfl) (Nat.le_of_ble_eq_true rfl) (Nat.le_of_ble_eq_true rfl) (Nat.le_of_ble_eq_true rfl) dX4_unlikeness_41 ?_
        refine lv_topi (fun x2 ex2 => ?_)
        have ix2 : x2.toInt = (if 0 ≤ y4_2 then y4_2 else 0 - y4_2).toInt := by rw [ex2]
        have hab := ab_C (x := x2) (y := y4_2) (by assumption) (by omega) (by omega)
        exact W.iret (v := x2) hx hb hr (fun tq ht hW => ⟨x2, rfl, ⟨(show x2.toInt = ofF agr ans dd from by exact of_e i4_6 (by omega) hab), (show 0 ≤ x2.toInt from by omega), (show x2.toInt ≤ 81 from by omega)⟩, ht⟩) (fun q h => by cases h) dX4_unlikeness_44
      · have dc1 : y4_3.toInt < 81 := nleC (show (81 : Int32).toInt = 81 from rfl) rfl c1
        refine lv_aload_n hx hb dX4_unlikeness_10 rfl (lv_at hl 0 rfl) ?_
        refine lv_iload_n hx hb dX4_unlikeness_11 rfl (lv_at hl 3 rfl) ?_
        refine rdV (As := [.int y4_3]) (rest := []) ⟨hx, hb, hml, hown, hts⟩ (k_X4_mayBe2 l dC dI cI cZ cQ pu0 pu1 agr ans y4_3 r_ans (by omega) (by omega)) (cwV 1 hts gX4_unlikeness_X4_mayBe rfl rfl rfl (by decide +kernel) ⟨Nat.le_of_ble_eq_true rfl, Nat.le_of_ble_eq_true rfl⟩) hP hK hN [0, 1] rfl 0 4 rfl rfl rfl hl.1 rfl (Nat.le_of_ble_eq_true rfl) dX4_unlikeness_12 ⟨Nat.le_of_ble_eq_true rfl, Nat.le_of_ble_eq_true rfl⟩ (fun r3 h4 => ?_)
        have h4 : ((((r3 = 1) ∧ (agr y4_3.toNatClampNeg = ans)) ∨ ((r3 = 0) ∧ (¬ agr y4_3.toNatClampNeg = ans)))) := h4
        rcases h4 with (⟨rfl, h4_a0⟩ | ⟨rfl, h4_a0⟩)
        · refine lv_if_eq (tgt := 34) hx hb dX4_unlikeness_15 (by decide) (fun c9 => absurd c9 (by decide)) (fun _ => ?_)
          refine lv_iload_n hx hb dX4_unlikeness_18 rfl (lv_at hl 2 rfl) ?_
          refine lv_iload_n hx hb dX4_unlikeness_19 rfl (lv_at hl 3 rfl) ?_
          refine lv_iload_n hx hb dX4_unlikeness_20 rfl (lv_at hl 1 rfl) ?_
          refine rdS (As := [.int y4_3, .int dd]) (rest := [.int y4_2]) ⟨hx, hb, hml, hown, hts⟩ (k_X4_saysRight2 l dC dI cI cZ cQ y4_3 dd (by omega) (by omega) (by omega) (by omega)) (va_cwS 2 hts gX4_unlikeness_X4_saysRight rfl rfl rfl (by decide +kernel) ⟨Nat.le_of_ble_eq_true rfl, Nat.le_of_ble_eq_true rfl⟩) hP hK hN [] rfl rfl hl.1 rfl (Nat.le_of_ble_eq_true rfl) dX4_unlikeness_21 ⟨Nat.le_of_ble_eq_true rfl, Nat.le_of_ble_eq_true rfl⟩ (fun r5 h6 => ?_)
          have h6 : ((((r5 = 1) ∧ (sayW y4_3 dd = true)) ∨ ((r5 = 0) ∧ (sayW y4_3 dd = false)))) := h6
          rcases h6 with (⟨rfl, h6_a0⟩ | ⟨rfl, h6_a0⟩)
          · refine lv_if_eq (tgt := 31) hx hb dX4_unlikeness_24 (by decide) (fun c9 => absurd c9 (by decide)) (fun _ => ?_)
            refine lv_iconst (v := 1) hx hb dX4_unlikeness_27 (by decide) ?_
            refine lv_goto (tgt := 32) hx hb dX4_unlikeness_28 (by decide) ?_
            refine lv_iadd hx hb dX4_unlikeness_32 ?_
            have f7 : (y4_2 + 1).toInt = (y4_2.toInt) + (1) := addC rfl (show (1 : Int32).toInt = 1 from rfl) (by omega) (by omega)
            refine lv_topi (fun x8 ex8 => ?_)
            have ix8 : x8.toInt = (y4_2.toInt) + (1) := by rw [ex8]; exact f7
            refine lv_istore_n (lv' := [(2, .int x8), (0, .ref pu0), (1, .int dd), (3, .int y4_3)]) hx hb dX4_unlikeness_33 rfl hl (by decide) rfl (fun ls hl => ?_)
            obtain ⟨z9, ez9⟩ : ∃ y : Int32, y = y4_3 + 1 := ⟨_, rfl⟩
            have iz9 : z9.toInt = y4_3.toInt + 1 := by rw [ez9]; exact addC rfl rfl (by omega) (by omega)
            refine lv_iinc (v := z9) (lv' := [(3, .int z9), (2, .int x8), (0, .ref pu0), (1, .int dd)]) hx hb dX4_unlikeness_34 hl (k := 3) rfl (by rw [ez9]; rfl) (by decide) rfl (fun ls hl => ?_)
            refine lv_goto (tgt := 4) hx hb dX4_unlikeness_37 (by decide) ?_
            exact ih4 x8 z9 _ (by omega) (by omega) (by omega) (by omega) (by omega) (by omega) (by (first | exact un_s (o := y4_3) i4_6 (by omega) (by first | exact Or.inl ⟨by assumption, Or.inl ⟨by assumption, by omega⟩⟩ | exact Or.inl ⟨by assumption, Or.inr ⟨by assumption, by omega⟩⟩ | exact Or.inr ⟨by assumption, by first | rfl | omega⟩) (by omega) | exact un_0 (by first | rfl | omega) (by first | rfl | omega))) (by omega) (lv_sub hl [2, 3, 1, 0] rfl)
          · refine lv_if_eq (tgt := 31) hx hb dX4_unlikeness_24 (by decide) (fun _ => ?_) (fun c9 => absurd (by decide) c9)
            refine lv_iconst (v := (-1)) hx hb dX4_unlikeness_31 (by decide) ?_
            refine lv_iadd hx hb dX4_unlikeness_32 ?_
            refine lv_topi (fun x10 ex10 => ?_)
            have ix10 : x10.toInt = (y4_2.toInt) + ((-1)) := by rw [ex10]; exact addC rfl (show ((-1) : Int32).toInt = (-1) from rfl) (by omega) (by omega)
            refine lv_istore_n (lv' := [(2, .int x10), (0, .ref pu0), (1, .int dd), (3, .int y4_3)]) hx hb dX4_unlikeness_33 rfl hl (by decide) rfl (fun ls hl => ?_)
            obtain ⟨z11, ez11⟩ : ∃ y : Int32, y = y4_3 + 1 := ⟨_, rfl⟩
            have iz11 : z11.toInt = y4_3.toInt + 1 := by rw [ez11]; exact addC rfl rfl (by omega) (by omega)
            refine lv_iinc (v := z11) (lv' := [(3, .int z11), (2, .int x10), (0, .ref pu0), (1, .int dd)]) hx hb dX4_unlikeness_34 hl (k := 3) rfl (by rw [ez11]; rfl) (by decide) rfl (fun ls hl => ?_)
            refine lv_goto (tgt := 4) hx hb dX4_unlikeness_37 (by decide) ?_
            exact ih4 x10 z11 _ (by omega) (by omega) (by omega) (by omega) (by omega) (by omega) (by (first | exact un_s (o := y4_3) i4_6 (by omega) (by first | exact Or.inl ⟨by assumption, Or.inl ⟨by assumption, by omega⟩⟩ | exact Or.inl ⟨by assumption, Or.inr ⟨by assumption, by omega⟩⟩ | exact Or.inr ⟨by assumption, by first | rfl | omega⟩) (by omega) | exact un_0 (by first | rfl | omega) (by first | rfl | omega))) (by omega) (lv_sub hl [2, 3, 1, 0] rfl)
        · refine lv_if_eq (tgt := 34) hx hb dX4_unlikeness_15 (by decide) (fun _ => ?_) (fun c9 => absurd (by decide) c9)
          obtain ⟨z12, ez12⟩ : ∃ y : Int32, y = y4_3 + 1 := ⟨_, rfl⟩
          have iz12 : z12.toInt = y4_3.toInt + 1 := by rw [ez12]; exact addC rfl rfl (by omega) (by omega)
          refine lv_iinc (v := z12) (lv' := [(3, .int z12), (0, .ref pu0), (1, .int dd), (2, .int y4_2)]) hx hb dX4_unlikeness_34 hl (k := 3) rfl (by rw [ez12]; rfl) (by decide) rfl (fun ls hl => ?_)
          refine lv_goto (tgt := 4) hx hb dX4_unlikeness_37 (by decide) ?_
          exact ih4 y4_2 z12 _ (by omega) (by omega) (by omega) (by omega) (by omega) (by omega) (by (first | exact un_s (o := y4_3) i4_6 (by omega) (by first | exact Or.inl ⟨by assumption, Or.inl ⟨by assumption, by omega⟩⟩ | exact Or.inl ⟨by assumption, Or.inr ⟨by assumption, by omega⟩⟩ | exact Or.inr ⟨by assumption, by first | rfl | omega⟩) (by omega) | exact un_0 (by first | rfl | omega) (by first | rfl | omega))) (by omega) (lv_sub hl [1, 2, 3, 0] rfl)
  have kc13 : (0 : Int32).toInt = 0 := rfl
  exact L4 _ 0 0 _ (by omega) (by omega) (by omega) (by omega) (by omega) (by omega) (by (first | exact un_s (o := y4_3) i4_6 (by omega) (by first | exact Or.inl ⟨by assumption, Or.inl ⟨by assumption, by omega⟩⟩ | exact Or.inl ⟨by assumption, Or.inr ⟨by assumption, by omega⟩⟩ | exact Or.inr ⟨by assumption, by first | rfl | omega⟩) (by omega) | exact un_0 (by first | rfl | omega) (by first | rfl | omega))) (Nat.lt_succ_self _) (lv_sub hl [2, 3, 1, 0] rfl)
