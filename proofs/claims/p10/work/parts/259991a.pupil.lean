set_option maxHeartbeats 4000000 in
set_option maxRecDepth 100000 in
theorem k_X4_note2 (l : Launch) (dC : Nat → ClassId) (dI : Nat → Nat → Nat) (cI cZ cQ : ClassId) (pu0 : Nat) (pu1 : Nat) (agr : Nat → Int32) (ans : Int32) (sz : Nat) (dd : Int32) (ri : Int32) (r_ans : 0 ≤ ans.toInt ∧ ans.toInt ≤ 12) (q0 : 1 ≤ dd.toInt) (q1 : dd.toInt ≤ 60) (q2 : ans.toInt ≤ 11) : KV l yX4_note wsX4_note { frames := 2, cells := 0, slots := 0, locals := 41 } (dC, dI) (TY cI cZ cQ) (wPup cI cZ cQ pu0 pu1 agr ans) [.ref pu0, .int dd, .int ri] sz 0 0 (fun (u : US) => ((u.1 1 0) = ans + 1) ∧ (∀ j : Nat, j < 81 → (u.1 0) j = agr j + incW (nI j) dd ri) ∧ (0 ≤ (u.1 1 0).toInt ∧ (u.1 1 0).toInt ≤ 12)) (fun u : US => (wPup cI cZ cQ pu0 pu1 (u.1 0) (u.1 1 0))) := by
  refine Met.ofW (cc := cX4_note) (maxL := 4) (ret := none) (by decide) rfl ?_
  intro p e s m args below meth c s₁ B hml hv
  obtain ⟨rfl, hsz, hP, hK, hD0, hN⟩ := hv
  have hx := B.exec
  have hb := B.bytes
  have hr := B.returns
  have hts := atoms_spec (ws := wsX4_note) B.pre
  have hown : s.vm.findClass RX4 = some m.cls := findClass_of_methodNamed B.named
  have hlocks := B.notSynchronized
  have lf19 := hts (.fieldLink RX4 19 "PalaceOfRooms$Pupil" "answers" "I") (by decide +kernel)
  have inX4 : ∀ w ∈ wsX40, w ∈ wsX4_note := by decide +kernel
  have lf11 := hts (.fieldLink RX4 11 "PalaceOfRooms$Pupil" "agreement" "[I") (by decide +kernel)
  subst hsz
  have hD := hD0.self (sz := s.heap.size)
  generalize hAe : va_A (wPup cI cZ cQ pu0 pu1 agr ans) s.heap.size = A at hD ⊢
  have hA : ∀ q : Nat, s.heap.size ≤ q → A q := fun q h => by rw [← hAe]; exact Or.inr h
  have hS : va_S A s.heap s.heap [] := va_S.rf
  have hl := lv_entry ([.ref pu0, .int dd, .int ri]) (n := 4) (Nat.le_of_ble_eq_true rfl)
  rw [lg_entry_eq]
  generalize (lg_sl ([.ref pu0, .int dd, .int ri]) ++ List.replicate (4 - (lg_sl ([.ref pu0, .int dd, .int ri])).length) Slot.unset).toArray = ls at hl ⊢
  have hl : lv_has ls 4 [(0, .ref pu0), (1, .int dd), (2, .int ri)] := hl
  refine lv_iconst (v := 0) hx hb dX4_note_0 (by decide) ?_
  refine lv_istore_n (lv' := [(3, .int 0), (0, .ref pu0), (1, .int dd), (2, .int ri)]) hx hb dX4_note_1 rfl hl (by decide) rfl (fun ls hl => ?_)
  have L2 : ∀ (nn : Nat) (y2_3 : Int32) (agr_2 : Nat → Int32) (H : Heap) (locs : List Loc) (ls : Array Slot), (0 ≤ (y2_3.toInt)) → ((y2_3.toInt) ≤ 81) → (ntI agr dd ri (y2_3.toInt) agr_2) → (81 - (y2_3.toInt)).toNat < nn → va_P (dC, dI) vwCl (wPup cI cZ cQ pu0 pu1 agr_2 ans) H → va_D A (wPup cI cZ cQ pu0 pu1 agr_2 ans) → va_S A s.heap H locs → lv_has ls 4 [(0, .ref pu0), (1, .int dd), (2, .int ri), (3, .int y2_3)] → W p l e (headSpec wsX4_note { frames := 2, cells := 0, slots := 0, locals := 41 }).room s m ([.ref pu0, .int dd, .int ri] : List Value).toArray below meth c H locs 0 0 (MQ below (va_Qv (fun (u : US) => ((u.1 1 0) = ans + 1) ∧ (∀ j : Nat, j < 81 → (u.1 0) j = agr j + incW (nI j) dd ri) ∧ (0 ≤ (u.1 1 0).toInt ∧ (u.1 1 0).toInt ≤ 12)) (Bw (dC, dI) A (fun u : US => (wPup cI cZ cQ pu0 pu1 (u.1 0) (u.1 1 0)))) A) ([.ref pu0, .int dd, .int ri] : List Value).toArray s 0 0 A) (F0 m 2 ls []) := by
    intro nn
    induction nn with
    | zero =>
      intro y2_3 agr_2 H locs ls i2_0 i2_1 i2_2 hm2
      exact absurd hm2 (Nat.not_lt_zero _)
    | succ nn ih2 =>
      intro y2_3 agr_2 H locs ls i2_0 i2_1 i2_2 hm2 hP hD hS hl
      refine lv_iload_n hx hb dX4_note_2 rfl (lv_at hl 3 rfl) ?_
      refine lv_bipush (v := 81) hx hb dX4_note_3 (by decide) ?_
      refine lv_icmp_ge (tgt := 33) hx hb dX4_note_5 (by decide) (fun c1 => ?_) (fun c1 => ?_)
      · have dc1 : 81 ≤ y2_3.toInt := leC (show (81 : Int32).toInt = 81 from rfl) rfl c1
        refine lv_aload_n hx hb dX4_note_33 rfl (lv_at hl 0 rfl) ?_
        refine lv_dup hx hb dX4_note_34 rfl ?_
        refine va_get (D := (dC, dI)) (ci := 4) (v := .int ans) (C := RX4) (T := TX4) (N := 2) hx hb hts inX4 hown hK hP 0 rfl rfl 1 (by decide) lf19 (fun _ h9 => h9) rfl dX4_note_35 ?_
        refine lv_iconst (v := 1) hx hb dX4_note_38 (by decide) ?_
        refine lv_iadd hx hb dX4_note_39 ?_
        have f2 : (ans + 1).toInt = (ans.toInt) + (1) := addC rfl (show (1 : Int32).toInt = 1 from rfl) (by omega) (by omega)
        refine lv_topi (fun x3 ex3 => ?_)
        have ix3 : x3.toInt = (ans.toInt) + (1) := by rw [ex3]; exact f2
        refine va_put (D := (dC, dI)) (ci := 4) (v := .int x3) (ty := .int) (C := RX4) (T := TX4) (N := 2) hx hb hts inX4 tyX4 tyX4_ok nmX4 hown hK hP hD hS 0 rfl rfl 1 (by decide) lf19 (fun _ h9 => h9) rfl (by decide +kernel) rfl rfl (Nat.le_of_ble_eq_true rfl) dX4_note_40 (fun H locs hP hD hS => ?_)
        have g4 : 0 ≤ x3.toInt ∧ x3.toInt ≤ 12 := by rw [show x3.toInt = x3.toInt from rfl]; exact ⟨by omega, by omega⟩
        have hP : va_P (dC, dI) vwCl (wPup cI cZ cQ pu0 pu1 agr_2 x3) H := hP
        have hD : va_D A (wPup cI cZ cQ pu0 pu1 agr_2 x3) := hD
        exact W.vret hx hb hr (fun tq ht hW => ⟨⟨(uS [agr_2, (fun _ => x3)] 0 (fun _ => 0)), rfl, ⟨(show x3 = ans + 1 from by (first | assumption | (subst_vars; rfl))), (show ∀ j : Nat, j < 81 → agr_2 j = agr j + incW (nI j) dd ri from by (intro j hj; exact (i2_2 j hj).1 (by omega))), g4⟩, by rw [ht]; exact hP, hD⟩, hS.F ht⟩) hS.2.2 dX4_note_43
      · have dc1 : y2_3.toInt < 81 := nleC (show (81 : Int32).toInt = 81 from rfl) rfl c1
        refine lv_iload_n hx hb dX4_note_8 rfl (lv_at hl 3 rfl) ?_
        refine lv_iload_n hx hb dX4_note_9 rfl (lv_at hl 1 rfl) ?_
        refine rdS (As := [.int y2_3, .int dd]) (rest := []) ⟨hx, hb, hml, hown, hts⟩ (k_X4_saysRight2 l dC dI cI cZ cQ y2_3 dd (by omega) (by omega) (by omega) (by omega)) (va_cwS 2 hts gX4_note_X4_saysRight rfl rfl rfl (by decide +kernel) ⟨Nat.le_of_ble_eq_true rfl, Nat.le_of_ble_eq_true rfl⟩) hP hK hN [] rfl rfl hl.1 rfl (Nat.le_of_ble_eq_true rfl) dX4_note_10 ⟨Nat.le_of_ble_eq_true rfl, Nat.le_of_ble_eq_true rfl⟩ (fun r5 h6 => ?_)
        have h6 : ((((r5 = 1) ∧ (sayW y2_3 dd = true)) ∨ ((r5 = 0) ∧ (sayW y2_3 dd = false)))) := h6
        rcases h6 with (⟨rfl, h6_a0⟩ | ⟨rfl, h6_a0⟩)
        · refine lv_iload_n hx hb dX4_note_13 rfl (lv_at hl 2 rfl) ?_
          refine lv_icmp_ne (tgt := 27) hx hb dX4_note_14 (by decide) (fun c7 => ?_) (fun c7 => ?_)
          · have dc7 : 1 ≠ ri.toInt := neC (show (1 : Int32).toInt = 1 from rfl) rfl c7
            obtain ⟨z8, ez8⟩ : ∃ y : Int32, y = y2_3 + 1 := ⟨_, rfl⟩
            have iz8 : z8.toInt = y2_3.toInt + 1 := by rw [ez8]; exact addC rfl rfl (by omega) (by omega)
            refine lv_iinc (v := z8) (lv' := [(3, .int z8), (0, .ref pu0), (1, .int dd), (2, .int ri)]) hx hb dX4_note_27 hl (k := 3) rfl (by rw [ez8]; rfl) (by decide) rfl (fun ls hl => ?_)
            refine lv_goto (tgt := 2) hx hb dX4_note_30 (by decide) ?_
            exact ih2 z8 agr_2 _ _ _ (by omega) (by omega) (by (first | exact nt_y i2_2 (by assumption) (by assumption) (by first | exact sw1 (by assumption) (by assumption) | exact sw0 (by assumption) (by assumption)) (by omega) (by omega) (by omega) | exact nt_n i2_2 (by first | exact nw1 (by assumption) (by assumption) | exact nw0 (by assumption) (by assumption)) (by omega) (by omega) (by omega) | exact nt_0 (by first | rfl | omega))) (by omega) hP hD hS (lv_sub hl [1, 2, 3, 0] rfl)
          · have dc7 : 1 = ri.toInt := eqC (show (1 : Int32).toInt = 1 from rfl) rfl c7
            refine lv_aload_n hx hb dX4_note_17 rfl (lv_at hl 0 rfl) ?_
            refine va_get (D := (dC, dI)) (ci := 4) (v := .ref pu1) (C := RX4) (T := TX4) (N := 2) hx hb hts inX4 hown hK hP 0 rfl rfl 0 (by decide) lf11 (fun _ h9 => h9) rfl dX4_note_18 ?_
            refine lv_iload_n hx hb dX4_note_21 rfl (lv_at hl 3 rfl) ?_
            refine lv_dup2_11 hx hb dX4_note_22 rfl rfl ?_
            have b9 : vp_in y2_3 81 := inC rfl (by omega) (by omega)
            refine va_iald hx hb hK hP 1 0 rfl rfl b9 dX4_note_23 ?_
            refine lv_iconst (v := 1) hx hb dX4_note_24 (by decide) ?_
            refine lv_iadd hx hb dX4_note_25 ?_
            refine lv_topi (fun x10 ex10 => ?_)
            have ix10 : x10.toInt = ((agr_2 y2_3.toNatClampNeg) + 1).toInt := by rw [ex10]
            have b11 : vp_in y2_3 81 := inC rfl (by omega) (by omega)
            refine va_iast hx hb hK hP hD hS 1 0 rfl rfl b11 dX4_note_26 (fun H locs hP hD hS => ?_)
            obtain ⟨agr_u12, eagr_u12⟩ : ∃ f : Nat → Int32, f = upd agr_2 y2_3.toNatClampNeg x10 := ⟨_, rfl⟩
            have hP : va_P (dC, dI) vwCl (wPup cI cZ cQ pu0 pu1 agr_u12 ans) H := by rw [eagr_u12]; exact hP
            have hD : va_D A (wPup cI cZ cQ pu0 pu1 agr_u12 ans) := by rw [eagr_u12]; exact hD
            obtain ⟨z13, ez13⟩ : ∃ y : Int32, y = y2_3 + 1 := ⟨_, rfl⟩
            have iz13 : z13.toInt = y2_3.toInt + 1 := by rw [ez13]; exact addC rfl rfl (by omega) (by omega)
            refine lv_iinc (v := z13) (lv' := [(3, .int z13), (0, .ref pu0), (1, .int dd), (2, .int ri)]) hx hb dX4_note_27 hl (k := 3) rfl (by rw [ez13]; rfl) (by decide) rfl (fun ls hl => ?_)
            refine lv_goto (tgt := 2) hx hb dX4_note_30 (by decide) ?_
            exact ih2 z13 agr_u12 _ _ _ (by omega) (by omega) (by (first | exact nt_y i2_2 (by assumption) (by assumption) (by first | exact sw1 (by assumption) (by assumption) | exact sw0 (by assumption) (by assumption)) (by omega) (by omega) (by omega) | exact nt_n i2_2 (by first | exact nw1 (by assumption) (by assumption) | exact nw0 (by assumption) (by assumption)) (by omega) (by omega) (by omega) | exact nt_0 (by first | rfl | omega))) (by omega) hP hD hS (lv_sub hl [1, 2, 3, 0] rfl)
        · refine lv_iload_n hx hb dX4_note_13 rfl (lv_at hl 2 rfl) ?_
          refine lv_icmp_ne (tgt := 27) hx hb dX4_note_14 (by decide) (fun c14 => ?_) (fun c14 => ?_)
          · have dc14 : 0 ≠ ri.toInt := neC (show (0 : Int32).toInt = 0 from rfl) rfl c14
            obtain ⟨z15, ez15⟩ : ∃ y : Int32, y = y2_3 + 1 := ⟨_, rfl⟩
            have iz15 : z15.toInt = y2_3.toInt + 1 := by rw [ez15]; exact addC rfl rfl (by omega) (by omega)
            refine lv_iinc (v := z15) (lv' := [(3, .int z15), (0, .ref pu0), (1, .int dd), (2, .int ri)]) hx hb dX4_note_27 hl (k := 3) rfl (by rw [ez15]; rfl) (by decide) rfl (fun ls hl => ?_)
            refine lv_goto (tgt := 2) hx hb dX4_note_30 (by decide) ?_
            exact ih2 z15 agr_2 _ _ _ (by omega) (by omega) (by (first | exact nt_y i2_2 (by assumption) (by assumption) (by first | exact sw1 (by assumption) (by assumption) | exact sw0 (by assumption) (by assumption)) (by omega) (by omega) (by omega) | exact nt_n i2_2 (by first | exact nw1 (by assumption) (by assumption) | exact nw0 (by assumption) (by assumption)) (by omega) (by omega) (by omega) | exact nt_0 (by first | rfl | omega))) (by omega) hP hD hS (lv_sub hl [1, 2, 3, 0] rfl)
          · have dc14 : 0 = ri.toInt := eqC (show (0 : Int32).toInt = 0 from rfl) rfl c14
            refine lv_aload_n hx hb dX4_note_17 rfl (lv_at hl 0 rfl) ?_
            refine va_get (D := (dC, dI)) (ci := 4) (v := .ref pu1) (C := RX4) (T := TX4) (N := 2) hx hb hts inX4 hown hK hP 0 rfl rfl 0 (by decide) lf11 (fun _ h9 => h9) rfl dX4_note_18 ?_
            refine lv_iload_n hx hb dX4_note_21 rfl (lv_at hl 3 rfl) ?_
            refine lv_dup2_11 hx hb dX4_note_22 rfl rfl ?_
            have b16 : vp_in y2_3 81 := inC rfl (by omega) (by omega)
            refine va_iald hx hb hK hP 1 0 rfl rfl b16 dX4_note_23 ?_
            refine lv_iconst (v := 1) hx hb dX4_note_24 (by decide) ?_
            refine lv_iadd hx hb dX4_note_25 ?_
            refine lv_topi (fun x17 ex17 => ?_)
            have ix17 : x17.toInt = ((agr_2 y2_3.toNatClampNeg) + 1).toInt := by rw [ex17]
            have b18 : vp_in y2_3 81 := inC rfl (by omega) (by omega)
            refine va_iast hx hb hK hP hD hS 1 0 rfl rfl b18 dX4_note_26 (fun H locs hP hD hS => ?_)
            obtain ⟨agr_u19, eagr_u19⟩ : ∃ f : Nat → Int32, f = upd agr_2 y2_3.toNatClampNeg x17 := ⟨_, rfl⟩
            have hP : va_P (dC, dI) vwCl (wPup cI cZ cQ pu0 pu1 agr_u19 ans) H := by rw [eagr_u19]; exact hP
            have hD : va_D A (wPup cI cZ cQ pu0 pu1 agr_u19 ans) := by rw [eagr_u19]; exact hD
            obtain ⟨z20, ez20⟩ : ∃ y : Int32, y = y2_3 + 1 := ⟨_, rfl⟩
            have iz20 : z20.toInt = y2_3.toInt + 1 := by rw [ez20]; exact addC rfl rfl (by omega) (by omega)
            refine lv_iinc (v := z20) (lv' := [(3, .int z20), (0, .ref pu0), (1, .int dd), (2, .int ri)]) hx hb dX4_note_27 hl (k := 3) rfl (by rw [ez20]; rfl) (by decide) rfl (fun ls hl => ?_)
            refine lv_goto (tgt := 2) hx hb dX4_note_30 (by decide) ?_
            exact ih2 z20 agr_u19 _ _ _ (by omega) (by omega) (by (first | exact nt_y i2_2 (by assumption) (by assumption) (by first | exact sw1 (by assumption) (by assumption) | exact sw0 (by assumption) (by assumption)) (by omega) (by omega) (by omega) | exact nt_n i2_2 (by first | exact nw1 (by assumption) (by assumption) | exact nw0 (by assumption) (by assumption)) (by omega) (by omega) (by omega) | exact nt_0 (by first | rfl | omega))) (by omega) hP hD hS (lv_sub hl [1, 2, 3, 0] rfl)
  have kc21 : (0 : Int32).toInt = 0 := rfl
  exact L2 _ 0 agr _ _ _ (by omega) (by omega) (by (first | exact nt_y i2_2 (by assumption) (by assumption) (by first | exact sw1 (by assumption) (by assumption) | exact sw0 (by assumption) (by assumption)) (by omega) (by omega) (by omega) | exact nt_n i2_2 (by first | exact nw1 (by assumption) (by assumption) | exact nw0 (by assumption) (by assumption)) (by omega) (by omega) (by omega) | exact nt_0 (by first | rfl | omega))) (Nat.lt_succ_self _) hP hD hS (lv_sub hl [1, 2, 3, 0] rfl)
set_option maxHeartbeats 4000000 in
set_option maxRecDepth 100000 in
theorem k_X4_mayBe2 (l : Launch) (dC : Nat → ClassId) (dI : Nat → Nat → Nat) (cI cZ cQ : ClassId) (pu0 : Nat) (pu1 : Nat) (agr : Nat → Int32) (ans : Int32) (tb : Int32) (r_ans : 0 ≤ ans.toInt ∧ ans.toInt ≤ 12) (q0 : 0 ≤ tb.toInt) (q1 : tb.toInt ≤ 80) : KR l yX4_mayBe wsX4_mayBe { frames := 0, cells := 0, slots := 0, locals := 0 } (dC, dI) (TY cI cZ cQ) (wPup cI cZ cQ pu0 pu1 agr ans) [.ref pu0, .int tb] (fun r : Int32 => ((((r = 1) ∧ (agr tb.toNatClampNeg = ans)) ∨ ((r = 0) ∧ (¬ agr tb.toNatClampNeg = ans))))) := by
  refine Met.ofW (cc := cX4_mayBe) (maxL := 2) (ret := (some .boolean)) (by decide) rfl ?_
  intro p e s m args below meth c s₁ B hml hv
  obtain ⟨rfl, hP, hK, hN⟩ := hv
  have hx := B.exec
  have hb := B.bytes
  have hr := B.returns
  have hts := atoms_spec (ws := wsX4_mayBe) B.pre
  have hown : s.vm.findClass RX4 = some m.cls := findClass_of_methodNamed B.named
  have hlocks := B.notSynchronized
  have lf11 := hts (.fieldLink RX4 11 "PalaceOfRooms$Pupil" "agreement" "[I") (by decide +kernel)
  have inX4 : ∀ w ∈ wsX40, w ∈ wsX4_mayBe := by decide +kernel
  have lf19 := hts (.fieldLink RX4 19 "PalaceOfRooms$Pupil" "answers" "I") (by decide +kernel)
  have hl := lv_entry ([.ref pu0, .int tb]) (n := 2) (Nat.le_of_ble_eq_true rfl)
  rw [lg_entry_eq]
  generalize (lg_sl ([.ref pu0, .int tb]) ++ List.replicate (2 - (lg_sl ([.ref pu0, .int tb])).length) Slot.unset).toArray = ls at hl ⊢
  have hl : lv_has ls 2 [(0, .ref pu0), (1, .int tb)] := hl
  refine lv_aload_n hx hb dX4_mayBe_0 rfl (lv_at hl 0 rfl) ?_
  refine va_get (D := (dC, dI)) (ci := 4) (v := .ref pu1) (C := RX4) (T := TX4) (N := 2) hx hb hts inX4 hown hK hP 0 rfl rfl 0 (by decide) lf11 (fun _ h9 => h9) rfl dX4_mayBe_1 ?_
  refine lv_iload_n hx hb dX4_mayBe_4 rfl (lv_at hl 1 rfl) ?_
  have b1 : vp_in tb 81 := inC rfl (by omega) (by omega)
  refine va_iald hx hb hK hP 1 0 rfl rfl b1 dX4_mayBe_5 ?_
  refine lv_aload_n hx hb dX4_mayBe_6 rfl (lv_at hl 0 rfl) ?_
  refine va_get (D := (dC, dI)) (ci := 4) (v := .int ans) (C := RX4) (T := TX4) (N := 2) hx hb hts inX4 hown hK hP 0 rfl rfl 1 (by decide) lf19 (fun _ h9 => h9) rfl dX4_mayBe_7 ?_
  refine lv_icmp_ne (tgt := 17) hx hb dX4_mayBe_10 (by decide) (fun c2 => ?_) (fun c2 => ?_)
  · have dc2 : (agr tb.toNatClampNeg).toInt ≠ ans.toInt := neC rfl rfl c2
    refine lv_iconst (v := 0) hx hb dX4_mayBe_17 (by decide) ?_
    exact W.zret (v := 0) hx hb hr (by decide) (fun tq ht hW => ⟨0, rfl, (Or.inr (⟨rfl, (show ¬ agr tb.toNatClampNeg = ans from by (try rw [show (0 : Int32).toInt = 0 from (show (0 : Int32).toInt = 0 from rfl)]); assumption)⟩)), ht⟩) (fun q h => by cases h) dX4_mayBe_18
  · have dc2 : (agr tb.toNatClampNeg).toInt = ans.toInt := eqC rfl rfl c2
    refine lv_iconst (v := 1) hx hb dX4_mayBe_13 (by decide) ?_
    refine lv_goto (tgt := 18) hx hb dX4_mayBe_14 (by decide) ?_
    exact W.zret (v := 1) hx hb hr (by decide) (fun tq ht hW => ⟨1, rfl, (Or.inl (⟨rfl, (show agr tb.toNatClampNeg = ans from by (try rw [show (1 : Int32).toInt = 1 from (show (1 : Int32).toInt = 1 from rfl)]); assumption)⟩)), ht⟩) (fun q h => by cases h) dX4_mayBe_18
set_option maxHeartbeats 4000000 in
set_option maxRecDepth 100000 in
theorem k_X4_tablesThatMayBe2 (l : Launch) (dC : Nat → ClassId) (dI : Nat → Nat → Nat) (cI cZ cQ : ClassId) (pu0 : Nat) (pu1 : Nat) (agr : Nat → Int32) (ans : Int32) (r_ans : 0 ≤ ans.toInt ∧ ans.toInt ≤ 12) : KR l yX4_tablesThatMayBe wsX4_tablesThatMayBe { frames := 1, cells := 0, slots := 0, locals := 21 } (dC, dI) (TY cI cZ cQ) (wPup cI cZ cQ pu0 pu1 agr ans) [.ref pu0] (fun r : Int32 => (0 ≤ r.toInt) ∧ (r.toInt ≤ 81) ∧ (r.toInt = mayF agr ans 81)) := by
  refine Met.ofW (cc := cX4_tablesThatMayBe) (maxL := 3) (ret := (some .int)) (by decide) rfl ?_
  intro p e s m args below meth c s₁ B hml hv
  obtain ⟨rfl, hP, hK, hN⟩ := hv
  have hx := B.exec
  have hb := B.bytes
  have hr := B.returns
  have hts := atoms_spec (ws := wsX4_tablesThatMayBe) B.pre
  have hown : s.vm.findClass RX4 = some m.cls := findClass_of_methodNamed B.named
  have hlocks := B.notSynchronized
  have hl := lv_entry ([.ref pu0]) (n := 3) (Nat.le_of_ble_eq_true rfl)
  rw [lg_entry_eq]
  generalize (lg_sl ([.ref pu0]) ++ List.replicate (3 - (lg_sl ([.ref pu0])).length) Slot.unset).toArray = ls at hl ⊢
  have hl : lv_has ls 3 [(0, .ref pu0)] := hl
  refine lv_iconst (v := 0) hx hb dX4_tablesThatMayBe_0 (by decide) ?_
  refine lv_istore_n (lv' := [(1, .int 0), (0, .ref pu0)]) hx hb dX4_tablesThatMayBe_1 rfl hl (by decide) rfl (fun ls hl => ?_)
  refine lv_iconst (v := 0) hx hb dX4_tablesThatMayBe_2 (by decide) ?_
  refine lv_istore_n (lv' := [(2, .int 0), (1, .int 0), (0, .ref pu0)]) hx hb dX4_tablesThatMayBe_3 rfl hl (by decide) rfl (fun ls hl => ?_)
  have L4 : ∀ (nn : Nat) (y4_1 : Int32) (y4_2 : Int32) (ls : Array Slot), (0 ≤ (y4_2.toInt)) → ((y4_2.toInt) ≤ 81) → (0 ≤ (y4_1.toInt)) → ((y4_1.toInt) ≤ 81) → ((y4_1.toInt) ≤ (y4_2.toInt)) → ((y4_1.toInt) = mayF agr ans ((y4_2.toInt)).toNat) → (81 - (y4_2.toInt)).toNat < nn → lv_has ls 3 [(0, .ref pu0), (1, .int y4_1), (2, .int y4_2)] → W p l e (headSpec wsX4_tablesThatMayBe { frames := 1, cells := 0, slots := 0, locals := 21 }).room s m ([.ref pu0] : List Value).toArray below meth c s.heap [] 0 0 (MQ below (QR (fun r : Int32 => (0 ≤ r.toInt) ∧ (r.toInt ≤ 81) ∧ (r.toInt = mayF agr ans 81))) ([.ref pu0] : List Value).toArray s 0 0 (fun _ => False)) (F0 m 4 ls []) := by
    intro nn
    induction nn with
    | zero =>
      intro y4_1 y4_2 ls i4_0 i4_1 i4_2 i4_3 i4_4 i4_5 hm4
      exact absurd hm4 (Nat.not_lt_zero _)
    | succ nn ih4 =>
      intro y4_1 y4_2 ls i4_0 i4_1 i4_2 i4_3 i4_4 i4_5 hm4 hl
      refine lv_iload_n hx hb dX4_tablesThatMayBe_4 rfl (lv_at hl 2 rfl) ?_
      refine lv_bipush (v := 81) hx hb dX4_tablesThatMayBe_5 (by decide) ?_
      refine lv_icmp_ge (tgt := 27) hx hb dX4_tablesThatMayBe_7 (by decide) (fun c1 => ?_) (fun c1 => ?_)
      · have dc1 : 81 ≤ y4_2.toInt := leC (show (81 : Int32).toInt = 81 from rfl) rfl c1
        refine lv_iload_n hx hb dX4_tablesThatMayBe_27 rfl (lv_at hl 1 rfl) ?_
        exact W.iret (v := y4_1) hx hb hr (fun tq ht hW => ⟨y4_1, rfl, ⟨(show 0 ≤ y4_1.toInt from by omega), (show y4_1.toInt ≤ 81 from by omega), (show y4_1.toInt = mayF agr ans 81 from by exact my_e i4_5 (by omega))⟩, ht⟩) (fun q h => by cases h) dX4_tablesThatMayBe_28
      · have dc1 : y4_2.toInt < 81 := nleC (show (81 : Int32).toInt = 81 from rfl) rfl c1
        refine lv_aload_n hx hb dX4_tablesThatMayBe_10 rfl (lv_at hl 0 rfl) ?_
        refine lv_iload_n hx hb dX4_tablesThatMayBe_11 rfl (lv_at hl 2 rfl) ?_
        refine rdV (As := [.int y4_2]) (rest := []) ⟨hx, hb, hml, hown, hts⟩ (k_X4_mayBe2 l dC dI cI cZ cQ pu0 pu1 agr ans y4_2 r_ans (by omega) (by omega)) (cwV 1 hts gX4_tablesThatMayBe_X4_mayBe rfl rfl rfl (by decide +kernel) ⟨Nat.le_of_ble_eq_true rfl, Nat.le_of_ble_eq_true rfl⟩) hP hK hN [0, 1] rfl 0 4 rfl rfl rfl hl.1 rfl (Nat.le_of_ble_eq_true rfl) dX4_tablesThatMayBe_12 ⟨Nat.le_of_ble_eq_true rfl, Nat.le_of_ble_eq_true rfl⟩ (fun r2 h3 => ?_)
        have h3 : ((((r2 = 1) ∧ (agr y4_2.toNatClampNeg = ans)) ∨ ((r2 = 0) ∧ (¬ agr y4_2.toNatClampNeg = ans)))) := h3
        rcases h3 with (⟨rfl, h3_a0⟩ | ⟨rfl, h3_a0⟩)
        · refine lv_if_eq (tgt := 21) hx hb dX4_tablesThatMayBe_15 (by decide) (fun c9 => absurd c9 (by decide)) (fun _ => ?_)
          obtain ⟨z4, ez4⟩ : ∃ y : Int32, y = y4_1 + 1 := ⟨_, rfl⟩
          have iz4 : z4.toInt = y4_1.toInt + 1 := by rw [ez4]; exact addC rfl rfl (by omega) (by omega)
          refine lv_iinc (v := z4) (lv' := [(1, .int z4), (0, .ref pu0), (2, .int y4_2)]) hx hb dX4_tablesThatMayBe_18 hl (k := 1) rfl (by rw [ez4]; rfl) (by decide) rfl (fun ls hl => ?_)
          obtain ⟨z5, ez5⟩ : ∃ y : Int32, y = y4_2 + 1 := ⟨_, rfl⟩
          have iz5 : z5.toInt = y4_2.toInt + 1 := by rw [ez5]; exact addC rfl rfl (by omega) (by omega)
          refine lv_iinc (v := z5) (lv' := [(2, .int z5), (1, .int z4), (0, .ref pu0)]) hx hb dX4_tablesThatMayBe_21 hl (k := 2) rfl (by rw [ez5]; rfl) (by decide) rfl (fun ls hl => ?_)
          refine lv_goto (tgt := 4) hx hb dX4_tablesThatMayBe_24 (by decide) ?_
          exact ih4 z4 z5 _ (by omega) (by omega) (by omega) (by omega) (by omega) (by (first | exact my_s (o := y4_2) i4_5 (by first | exact clC (x := y4_2) rfl | (rw [clC (x := y4_2) rfl]; omega)) (by first | exact Or.inl ⟨by assumption, by omega⟩ | exact Or.inr ⟨by assumption, by first | rfl | omega⟩) (by omega) | exact my_0 (by first | rfl | omega) (by first | rfl | omega))) (by omega) (lv_sub hl [2, 1, 0] rfl)
        · refine lv_if_eq (tgt := 21) hx hb dX4_tablesThatMayBe_15 (by decide) (fun _ => ?_) (fun c9 => absurd (by decide) c9)
          obtain ⟨z6, ez6⟩ : ∃ y : Int32, y = y4_2 + 1 := ⟨_, rfl⟩
          have iz6 : z6.toInt = y4_2.toInt + 1 := by rw [ez6]; exact addC rfl rfl (by omega) (by omega)
          refine lv_iinc (v := z6) (lv' := [(2, .int z6), (0, .ref pu0), (1, .int y4_1)]) hx hb dX4_tablesThatMayBe_21 hl (k := 2) rfl (by rw [ez6]; rfl) (by decide) rfl (fun ls hl => ?_)
          refine lv_goto (tgt := 4) hx hb dX4_tablesThatMayBe_24 (by decide) ?_
          exact ih4 y4_1 z6 _ (by omega) (by omega) (by omega) (by omega) (by omega) (by (first | exact my_s (o := y4_2) i4_5 (by first | exact clC (x := y4_2) rfl | (rw [clC (x := y4_2) rfl]; omega)) (by first | exact Or.inl ⟨by assumption, by omega⟩ | exact Or.inr ⟨by assumption, by first | rfl | omega⟩) (by omega) | exact my_0 (by first | rfl | omega) (by first | rfl | omega))) (by omega) (lv_sub hl [1, 2, 0] rfl)
  have kc7 : (0 : Int32).toInt = 0 := rfl
  exact L4 _ 0 0 _ (by omega) (by omega) (by omega) (by omega) (by omega) (by (first | exact my_s (o := y4_2) i4_5 (by first | exact clC (x := y4_2) rfl | (rw [clC (x := y4_2) rfl]; omega)) (by first | exact Or.inl ⟨by assumption, by omega⟩ | exact Or.inr ⟨by assumption, by first | rfl | omega⟩) (by omega) | exact my_0 (by first | rfl | omega) (by first | rfl | omega))) (Nat.lt_succ_self _) (lv_sub hl [2, 1, 0] rfl)
set_option maxHeartbeats 4000000 in
set_option maxRecDepth 100000 in
theorem k_X4_likeliest2 (l : Launch) (dC : Nat → ClassId) (dI : Nat → Nat → Nat) (cI cZ cQ : ClassId) (pu0 : Nat) (pu1 : Nat) (agr : Nat → Int32) (ans : Int32) (r_ans : 0 ≤ ans.toInt ∧ ans.toInt ≤ 12) : KR l yX4_likeliest wsX4_likeliest { frames := 0, cells := 0, slots := 0, locals := 0 } (dC, dI) (TY cI cZ cQ) (wPup cI cZ cQ pu0 pu1 agr ans) [.ref pu0] (fun r : Int32 => (0 ≤ r.toInt) ∧ (r.toInt ≤ 80) ∧ (r.toInt = ((lkF agr 80 : Nat) : Int))) := by
  refine Met.ofW (cc := cX4_likeliest) (maxL := 3) (ret := (some .int)) (by decide) rfl ?_
  intro p e s m args below meth c s₁ B hml hv
  obtain ⟨rfl, hP, hK, hN⟩ := hv
  have hx := B.exec
  have hb := B.bytes
  have hr := B.returns
  have hts := atoms_spec (ws := wsX4_likeliest) B.pre
  have hown : s.vm.findClass RX4 = some m.cls := findClass_of_methodNamed B.named
  have hlocks := B.notSynchronized
  have lf11 := hts (.fieldLink RX4 11 "PalaceOfRooms$Pupil" "agreement" "[I") (by decide +kernel)
  have inX4 : ∀ w ∈ wsX40, w ∈ wsX4_likeliest := by decide +kernel
  have hl := lv_entry ([.ref pu0]) (n := 3) (Nat.le_of_ble_eq_true rfl)
  rw [lg_entry_eq]
  generalize (lg_sl ([.ref pu0]) ++ List.replicate (3 - (lg_sl ([.ref pu0])).length) Slot.unset).toArray = ls at hl ⊢
  have hl : lv_has ls 3 [(0, .ref pu0)] := hl
  refine lv_iconst (v := 0) hx hb dX4_likeliest_0 (by decide) ?_
  refine lv_istore_n (lv' := [(1, .int 0), (0, .ref pu0)]) hx hb dX4_likeliest_1 rfl hl (by decide) rfl (fun ls hl => ?_)
  refine lv_iconst (v := 1) hx hb dX4_likeliest_2 (by decide) ?_
  refine lv_istore_n (lv' := [(2, .int 1), (1, .int 0), (0, .ref pu0)]) hx hb dX4_likeliest_3 rfl hl (by decide) rfl (fun ls hl => ?_)
  have L4 : ∀ (nn : Nat) (y4_1 : Int32) (y4_2 : Int32) (ls : Array Slot), (1 ≤ (y4_2.toInt)) → ((y4_2.toInt) ≤ 81) → (0 ≤ (y4_1.toInt)) → ((y4_1.toInt) ≤ 80) → ((y4_1.toInt) = ((lkF agr ((y4_2.toInt) - 1).toNat : Nat) : Int)) → (81 - (y4_2.toInt)).toNat < nn → lv_has ls 3 [(0, .ref pu0), (1, .int y4_1), (2, .int y4_2)] → W p l e (headSpec wsX4_likeliest { frames := 0, cells := 0, slots := 0, locals := 0 }).room s m ([.ref pu0] : List Value).toArray below meth c s.heap [] 0 0 (MQ below (QR (fun r : Int32 => (0 ≤ r.toInt) ∧ (r.toInt ≤ 80) ∧ (r.toInt = ((lkF agr 80 : Nat) : Int)))) ([.ref pu0] : List Value).toArray s 0 0 (fun _ => False)) (F0 m 4 ls []) := by
    intro nn
    induction nn with
    | zero =>
      intro y4_1 y4_2 ls i4_0 i4_1 i4_2 i4_3 i4_4 hm4
      exact absurd hm4 (Nat.not_lt_zero _)
    | succ nn ih4 =>
      intro y4_1 y4_2 ls i4_0 i4_1 i4_2 i4_3 i4_4 hm4 hl
      refine lv_iload_n hx hb dX4_likeliest_4 rfl (lv_at hl 2 rfl) ?_
      refine lv_bipush (v := 81) hx hb dX4_likeliest_5 (by decide) ?_
      refine lv_icmp_ge (tgt := 33) hx hb dX4_likeliest_7 (by decide) (fun c1 => ?_) (fun c1 => ?_)
      · have dc1 : 81 ≤ y4_2.toInt := leC (show (81 : Int32).toInt = 81 from rfl) rfl c1
        refine lv_iload_n hx hb dX4_likeliest_33 rfl (lv_at hl 1 rfl) ?_
        exact W.iret (v := y4_1) hx hb hr (fun tq ht hW => ⟨y4_1, rfl, ⟨(show 0 ≤ y4_1.toInt from by omega), (show y4_1.toInt ≤ 80 from by omega), (show y4_1.toInt = ((lkF agr 80 : Nat) : Int) from by exact lk_e i4_4 (by omega))⟩, ht⟩) (fun q h => by cases h) dX4_likeliest_34
      · have dc1 : y4_2.toInt < 81 := nleC (show (81 : Int32).toInt = 81 from rfl) rfl c1
        refine lv_aload_n hx hb dX4_likeliest_10 rfl (lv_at hl 0 rfl) ?_
        refine va_get (D := (dC, dI)) (ci := 4) (v := .ref pu1) (C := RX4) (T := TX4) (N := 2) hx hb hts inX4 hown hK hP 0 rfl rfl 0 (by decide) lf11 (fun _ h9 => h9) rfl dX4_likeliest_11 ?_
        refine lv_iload_n hx hb dX4_likeliest_14 rfl (lv_at hl 2 rfl) ?_
        have b2 : vp_in y4_2 81 := inC rfl (by omega) (by omega)
        refine va_iald hx hb hK hP 1 0 rfl rfl b2 dX4_likeliest_15 ?_
        refine lv_aload_n hx hb dX4_likeliest_16 rfl (lv_at hl 0 rfl) ?_
        refine va_get (D := (dC, dI)) (ci := 4) (v := .ref pu1) (C := RX4) (T := TX4) (N := 2) hx hb hts inX4 hown hK hP 0 rfl rfl 0 (by decide) lf11 (fun _ h9 => h9) rfl dX4_likeliest_17 ?_
        refine lv_iload_n hx hb dX4_likeliest_20 rfl (lv_at hl 1 rfl) ?_
        have b3 : vp_in y4_1 81 := inC rfl (by omega) (by omega)
        refine va_iald hx hb hK hP 1 0 rfl rfl b3 dX4_likeliest_21 ?_
        refine lv_icmp_le (tgt := 27) hx hb dX4_likeliest_22 (by decide) (fun c4 => ?_) (fun c4 => ?_)
        · have dc4 : (agr y4_2.toNatClampNeg).toInt ≤ (agr y4_1.toNatClampNeg).toInt := leC rfl rfl c4
          obtain ⟨z5, ez5⟩ : ∃ y : Int32, y = y4_2 + 1 := ⟨_, rfl⟩
          have iz5 : z5.toInt = y4_2.toInt + 1 := by rw [ez5]; exact addC rfl rfl (by omega) (by omega)
          refine lv_iinc (v := z5) (lv' := [(2, .int z5), (0, .ref pu0), (1, .int y4_1)]) hx hb dX4_likeliest_27 hl (k := 2) rfl (by rw [ez5]; rfl) (by decide) rfl (fun ls hl => ?_)
          refine lv_goto (tgt := 4) hx hb dX4_likeliest_30 (by decide) ?_
          exact ih4 y4_1 z5 _ (by omega) (by omega) (by omega) (by omega) (by (first | exact lk_y i4_4 (by omega) (by omega) (by omega) | exact lk_n (y := y4_2) i4_4 (by omega) (by omega) (by omega) | exact lk_0 (by first | rfl | omega) (by first | rfl | omega))) (by omega) (lv_sub hl [1, 2, 0] rfl)
        · have dc4 : (agr y4_1.toNatClampNeg).toInt < (agr y4_2.toNatClampNeg).toInt := nleC rfl rfl c4
          refine lv_iload_n hx hb dX4_likeliest_25 rfl (lv_at hl 2 rfl) ?_
          refine lv_istore_n (lv' := [(1, .int y4_2), (0, .ref pu0), (2, .int y4_2)]) hx hb dX4_likeliest_26 rfl hl (by decide) rfl (fun ls hl => ?_)
          obtain ⟨z6, ez6⟩ : ∃ y : Int32, y = y4_2 + 1 := ⟨_, rfl⟩
          have iz6 : z6.toInt = y4_2.toInt + 1 := by rw [ez6]; exact addC rfl rfl (by omega) (by omega)
          refine lv_iinc (v := z6) (lv' := [(2, .int z6), (1, .int y4_2), (0, .ref pu0)]) hx hb dX4_likeliest_27 hl (k := 2) rfl (by rw [ez6]; rfl) (by decide) rfl (fun ls hl => ?_)
          refine lv_goto (tgt := 4) hx hb dX4_likeliest_30 (by decide) ?_
          exact ih4 y4_2 z6 _ (by omega) (by omega) (by omega) (by omega) (by (first | exact lk_y i4_4 (by omega) (by omega) (by omega) | exact lk_n (y := y4_2) i4_4 (by omega) (by omega) (by omega) | exact lk_0 (by first | rfl | omega) (by first | rfl | omega))) (by omega) (lv_sub hl [2, 1, 0] rfl)
  have kc7 : (0 : Int32).toInt = 0 := rfl
  have kc8 : (1 : Int32).toInt = 1 := rfl
  exact L4 _ 0 1 _ (by omega) (by omega) (by omega) (by omega) (by (first | exact lk_y i4_4 (by omega) (by omega) (by omega) | exact lk_n (y := y4_2) i4_4 (by omega) (by omega) (by omega) | exact lk_0 (by first | rfl | omega) (by first | rfl | omega))) (Nat.lt_succ_self _) (lv_sub hl [2, 1, 0] rfl)
set_option maxHeartbeats 4000000 in
set_option maxRecDepth 100000 in
theorem k_X4_nameOfLikeliest2 (l : Launch) (dC : Nat → ClassId) (dI : Nat → Nat → Nat) (cI cZ cQ : ClassId) (pu0 : Nat) (pu1 : Nat) (agr : Nat → Int32) (ans : Int32) (r_ans : 0 ≤ ans.toInt ∧ ans.toInt ≤ 12) : KR l yX4_nameOfLikeliest wsX4_nameOfLikeliest { frames := 1, cells := 0, slots := 0, locals := 22 } (dC, dI) (TY cI cZ cQ) (wPup cI cZ cQ pu0 pu1 agr ans) [.ref pu0] (fun r : Int32 => (r.toInt = nmL (lkF agr 80))) := by
  refine Met.ofW (cc := cX4_nameOfLikeliest) (maxL := 2) (ret := (some .int)) (by decide) rfl ?_
  intro p e s m args below meth c s₁ B hml hv
  obtain ⟨rfl, hP, hK, hN⟩ := hv
  have hx := B.exec
  have hb := B.bytes
  have hr := B.returns
  have hts := atoms_spec (ws := wsX4_nameOfLikeliest) B.pre
  have hown : s.vm.findClass RX4 = some m.cls := findClass_of_methodNamed B.named
  have hlocks := B.notSynchronized
  have hl := lv_entry ([.ref pu0]) (n := 2) (Nat.le_of_ble_eq_true rfl)
  rw [lg_entry_eq]
  generalize (lg_sl ([.ref pu0]) ++ List.replicate (2 - (lg_sl ([.ref pu0])).length) Slot.unset).toArray = ls at hl ⊢
  have hl : lv_has ls 2 [(0, .ref pu0)] := hl
  refine lv_aload_n hx hb dX4_nameOfLikeliest_0 rfl (lv_at hl 0 rfl) ?_
  refine rdV (As := []) (rest := []) ⟨hx, hb, hml, hown, hts⟩ (k_X4_likeliest2 l dC dI cI cZ cQ pu0 pu1 agr ans r_ans) (cwV 0 hts gX4_nameOfLikeliest_X4_likeliest rfl rfl rfl (by decide +kernel) ⟨Nat.le_of_ble_eq_true rfl, Nat.le_of_ble_eq_true rfl⟩) hP hK hN [0, 1] rfl 0 4 rfl rfl rfl hl.1 rfl (Nat.le_of_ble_eq_true rfl) dX4_nameOfLikeliest_1 ⟨Nat.le_of_ble_eq_true rfl, Nat.le_of_ble_eq_true rfl⟩ (fun r1 h2 => ?_)
  have h2 : (0 ≤ r1.toInt) ∧ (r1.toInt ≤ 80) ∧ (r1.toInt = ((lkF agr 80 : Nat) : Int)) := h2
  obtain ⟨h2_0, h2_1, h2_2⟩ := h2
  refine lv_istore_n (lv' := [(1, .int r1), (0, .ref pu0)]) hx hb dX4_nameOfLikeliest_4 rfl hl (by decide) rfl (fun ls hl => ?_)
  refine lv_bipush (v := 100) hx hb dX4_nameOfLikeliest_5 (by decide) ?_
  refine lv_iload_n hx hb dX4_nameOfLikeliest_7 rfl (lv_at hl 0 rfl) ?_
  refine rdS (As := [.int r1]) (rest := [.int 100]) ⟨hx, hb, hml, hown, hts⟩ (k_X4_lossOf2 l dC dI cI cZ cQ r1 (by omega) (by omega)) (va_cwS 1 hts gX4_nameOfLikeliest_X4_lossOf rfl rfl rfl (by decide +kernel) ⟨Nat.le_of_ble_eq_true rfl, Nat.le_of_ble_eq_true rfl⟩) hP hK hN [] rfl rfl hl.1 rfl (Nat.le_of_ble_eq_true rfl) dX4_nameOfLikeliest_8 ⟨Nat.le_of_ble_eq_true rfl, Nat.le_of_ble_eq_true rfl⟩ (fun r3 h4 => ?_)
  have h4 : (1 ≤ r3.toInt) ∧ (r3.toInt ≤ 9) ∧ (r3 = r1 / 9 + 1) ∧ (r3.toInt = r1.toInt / 9 + 1) := h4
  obtain ⟨h4_0, h4_1, h4_2, h4_3⟩ := h4
  refine lv_imul hx hb dX4_nameOfLikeliest_11 ?_
  have f5 : (100 * r3).toInt = (100) * (r3.toInt) := mulC (show (100 : Int32).toInt = 100 from rfl) rfl (by omega) (by omega)
  refine lv_iload_n hx hb dX4_nameOfLikeliest_12 rfl (lv_at hl 0 rfl) ?_
  refine rdS (As := [.int r1]) (rest := [.int (100 * r3)]) ⟨hx, hb, hml, hown, hts⟩ (k_X4_limitOf2 l dC dI cI cZ cQ r1 (by omega) (by omega)) (va_cwS 1 hts gX4_nameOfLikeliest_X4_limitOf rfl rfl rfl (by decide +kernel) ⟨Nat.le_of_ble_eq_true rfl, Nat.le_of_ble_eq_true rfl⟩) hP hK hN [] rfl rfl hl.1 rfl (Nat.le_of_ble_eq_true rfl) dX4_nameOfLikeliest_13 ⟨Nat.le_of_ble_eq_true rfl, Nat.le_of_ble_eq_true rfl⟩ (fun r6 h7 => ?_)
  have h7 : (10 ≤ r6.toInt) ∧ (r6.toInt ≤ 90) ∧ (r6 = (r1 - r1 / 9 * 9 + 1) * 10) ∧ (r6.toInt = (r1.toInt % 9 + 1) * 10) := h7
  obtain ⟨h7_0, h7_1, h7_2, h7_3⟩ := h7
  refine lv_iadd hx hb dX4_nameOfLikeliest_16 ?_
  have f8 : ((100 * r3) + r6).toInt = ((100) * (r3.toInt)) + (r6.toInt) := addC f5 rfl (by omega) (by omega)
  exact W.iret (v := (100 * r3) + r6) hx hb hr (fun tq ht hW => ⟨(100 * r3) + r6, rfl, (show ((100 * r3) + r6).toInt = nmL (lkF agr 80) from by (try rw [show ((100 * r3) + r6).toInt = ((100) * (r3.toInt)) + (r6.toInt) from f8]); (unfold nmL; omega)), ht⟩) (fun q h => by cases h) dX4_nameOfLikeliest_17
set_option maxHeartbeats 4000000 in
set_option maxRecDepth 100000 in
theorem k_X4_agreementOfLikeliest2 (l : Launch) (dC : Nat → ClassId) (dI : Nat → Nat → Nat) (cI cZ cQ : ClassId) (pu0 : Nat) (pu1 : Nat) (agr : Nat → Int32) (ans : Int32) (r_ans : 0 ≤ ans.toInt ∧ ans.toInt ≤ 12) : KR l yX4_agreementOfLikeliest wsX4_agreementOfLikeliest { frames := 1, cells := 0, slots := 0, locals := 22 } (dC, dI) (TY cI cZ cQ) (wPup cI cZ cQ pu0 pu1 agr ans) [.ref pu0] (fun r : Int32 => (r = agr (lkF agr 80))) := by
  refine Met.ofW (cc := cX4_agreementOfLikeliest) (maxL := 1) (ret := (some .int)) (by decide) rfl ?_
  intro p e s m args below meth c s₁ B hml hv
  obtain ⟨rfl, hP, hK, hN⟩ := hv
  have hx := B.exec
  have hb := B.bytes
  have hr := B.returns
  have hts := atoms_spec (ws := wsX4_agreementOfLikeliest) B.pre
  have hown : s.vm.findClass RX4 = some m.cls := findClass_of_methodNamed B.named
  have hlocks := B.notSynchronized
  have lf11 := hts (.fieldLink RX4 11 "PalaceOfRooms$Pupil" "agreement" "[I") (by decide +kernel)
  have inX4 : ∀ w ∈ wsX40, w ∈ wsX4_agreementOfLikeliest := by decide +kernel
  have hl := lv_entry ([.ref pu0]) (n := 1) (Nat.le_of_ble_eq_true rfl)
  rw [lg_entry_eq]
  generalize (lg_sl ([.ref pu0]) ++ List.replicate (1 - (lg_sl ([.ref pu0])).length) Slot.unset).toArray = ls at hl ⊢
  have hl : lv_has ls 1 [(0, .ref pu0)] := hl
  refine lv_aload_n hx hb dX4_agreementOfLikeliest_0 rfl (lv_at hl 0 rfl) ?_
  refine va_get (D := (dC, dI)) (ci := 4) (v := .ref pu1) (C := RX4) (T := TX4) (N := 2) hx hb hts inX4 hown hK hP 0 rfl rfl 0 (by decide) lf11 (fun _ h9 => h9) rfl dX4_agreementOfLikeliest_1 ?_
  refine lv_aload_n hx hb dX4_agreementOfLikeliest_4 rfl (lv_at hl 0 rfl) ?_
  refine rdV (As := []) (rest := [.ref pu1]) ⟨hx, hb, hml, hown, hts⟩ (k_X4_likeliest2 l dC dI cI cZ cQ pu0 pu1 agr ans r_ans) (cwV 0 hts gX4_agreementOfLikeliest_X4_likeliest rfl rfl rfl (by decide +kernel) ⟨Nat.le_of_ble_eq_true rfl, Nat.le_of_ble_eq_true rfl⟩) hP hK hN [0, 1] rfl 0 4 rfl rfl rfl hl.1 rfl (Nat.le_of_ble_eq_true rfl) dX4_agreementOfLikeliest_5 ⟨Nat.le_of_ble_eq_true rfl, Nat.le_of_ble_eq_true rfl⟩ (fun r1 h2 => ?_)
  have h2 : (0 ≤ r1.toInt) ∧ (r1.toInt ≤ 80) ∧ (r1.toInt = ((lkF agr 80 : Nat) : Int)) := h2
  obtain ⟨h2_0, h2_1, h2_2⟩ := h2
  have b3 : vp_in r1 81 := inC rfl (by omega) (by omega)
  refine va_iald hx hb hK hP 1 0 rfl rfl b3 dX4_agreementOfLikeliest_8 ?_
  exact W.iret (v := agr r1.toNatClampNeg) hx hb hr (fun tq ht hW => ⟨agr r1.toNatClampNeg, rfl, (show (agr r1.toNatClampNeg) = agr (lkF agr 80) from by exact ag_at (by assumption)), ht⟩) (fun q h => by cases h) dX4_agreementOfLikeliest_9
