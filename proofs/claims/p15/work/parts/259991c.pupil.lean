set_option maxHeartbeats 4000000 in
set_option maxRecDepth 100000 in
theorem k_X4_note2 (l : Launch) (dC : Nat → ClassId) (dI : Nat → Nat → Nat) (cI cZ cQ : ClassId) (pu0 : Nat) (pu1 : Nat) (agr : Nat → Int32) (ans : Int32) (sz : Nat) (dd : Int32) (ri : Int32) (r_ans : 0 ≤ ans.toInt ∧ ans.toInt ≤ 12) (q0 : 1 ≤ dd.toInt) (q1 : dd.toInt ≤ 60) (q2 : ans.toInt ≤ 11) : KV l yX4_note wsX4_note { frames := 2, cells := 0, slots := 0, locals := 41 } (dC, dI) (TY cI cZ cQ) (wPup cI cZ cQ pu0 pu1 agr ans) [.ref pu0, .int dd, .int ri] sz 0 0 (fun (u : US) => ((u.1 1 0) = ans + 1) ∧ (∀ j : Nat, j < 81 → (u.1 0) j = agr j + incW (nI j) dd ri) ∧ (0 ≤ (u.1 1 0).toInt ∧ (u.1 1 0).toInt ≤ 12)) (fun u : US => (wPup cI cZ cQ pu0 pu1 (u.1 0) (u.1 1 0))) := by
  refine Met.ofW (cc := cX4_note) (maxL := 4) (ret := none) (by decide) rfl ?_
  intro p e s m args below meth c s₁ B hml hv
  obtain ⟨rfl, hsz, hP, hK, hD0, hN⟩ := hv
  have hx := B.exec
  have hb := B.bytes
  have hr := B.returns
  have hts := atoms_spec (ws := wsX4_note) B.pre
  have hown : s.vm.findClass RX4 = some m.cls := findClass_of_methodNamed B.named
  have hlocks := B.notSynchronized
  have lf19 := hts (.fieldLink RX4 19 "PalaceOfRooms$Pupil" "answers" "I") (List.mem_cons_of_mem _ (List.mem_append_left _ (List.mem_of_getElem? (i := 1) rfl)))
  have inX4 : ∀ w ∈ wsX40, w ∈ wsX4_note := fun w h => List.mem_cons_of_mem _ (List.mem_append_right _ h)
  have lf11 := hts (.fieldLink RX4 11 "PalaceOfRooms$Pupil" "agreement" "[I") (List.mem_cons_of_mem _ (List.mem_append_left _ (List.mem_of_getElem? (i := 0) rfl)))
  subst hsz
  have hD := hD0.self (sz := s.heap.size)
  generalize hAe : va_A (wPup cI cZ cQ pu0 pu1 agr ans) s.heap.size = A at hD ⊢
  have hA : ∀ q : Nat, s.heap.size ≤ q → A q := fun q h => by rw [← hAe]; exact Or.inr h
  have hS : va_S A s.heap s.heap [] := va_S.rf
  have hl := lv_entry ([.ref pu0, .int dd, .int ri]) (n := 4) (Nat.le_of_ble_eq_true rfl)
  rw [lg_entry_eq]
  generalize (lg_sl ([.ref pu0, .int dd, .int ri]) ++ List.replicate (4 - (lg_sl ([.ref pu0, .int dd, .int ri])).length) Slot.unset).toArray = ls at hl ⊢
  have hl : lv_has ls 4 [(0, .ref pu0), (1, .int dd), (2, .int ri)] := hl
  refine lv_iconst (v := 0) hx hb dX4_note_0 (by decide) ?_
  refine lv_istore_n (lv' := [(3, .int 0), (0, .ref pu0), (1, .int dd), (2, .int ri)]) hx hb dX4_note_1 rfl hl (by decide) rfl (fun ls hl => ?_)
  have L2 : ∀ (nn : Nat) (y2_3 : Int32) (agr_2 : Nat → Int32) (H : Heap) (locs : List Loc) (ls : Array Slot), (0 ≤ (y2_3.toInt)) → ((y2_3.toInt) ≤ 81) → (ntI agr dd ri (y2_3.toInt) agr_2) → (81 - (y2_3.toInt)).toNat < nn → va_P (dC, dI) vwCl (wPup cI cZ cQ pu0 pu1 agr_2 ans) H → va_D A (wPup cI cZ cQ pu0 pu1 agr_2 ans) → va_S A s.heap H locs → lv_has ls 4 [(0, .ref pu0), (1, .int dd), (2, .int ri), (3, .int y2_3)] → W p l e (headSpec wsX4_note { frames := 2, cells := 0, slots := 0, locals := 41 }).room s m ([.ref pu0, .int dd, .int ri] : List Value).toArray below meth c H locs 0 0 (MQ below (va_Qv (fun (u : US) => ((u.1 1 0) = ans + 1) ∧ (∀ j : Nat, j < 81 → (u.1 0) j = agr j + incW (nI j) dd ri) ∧ (0 ≤ (u.1 1 0).toInt ∧ (u.1 1 0).toInt ≤ 12)) (Bw (dC, dI) A (fun u : US => (wPup cI cZ cQ pu0 pu1 (u.1 0) (u.1 1 0)))) A) ([.ref pu0, .int dd, .int ri] : List Value).toArray s 0 0 A) (F0 m 2 ls []) := by
    intro nn
    induction nn with
    | zero =>
      intro y2_3 agr_2 H locs ls i2_0 i2_1 i2_2 hm2
      exact absurd hm2 (Nat.not_lt_zero _)
    | succ nn ih2 =>
      intro y2_3 agr_2 H locs ls i2_0 i2_1 i2_2 hm2 hP hD hS hl
      refine lv_iload_n hx hb dX4_note_2 rfl (lv_at hl 3 rfl) ?_
      refine lv_bipush (v := 81) hx hb dX4_note_3 (by decide) ?_
      refine lv_icmp_ge (tgt := 33) hx hb dX4_note_5 (by decide) (fun c1 => ?_) (fun c1 => ?_)
      · have dc1 : 81 ≤ y2_3.toInt := leC (show (81 : Int32).toInt = 81 from rfl) rfl c1
        refine lv_aload_n hx hb dX4_note_33 rfl (lv_at hl 0 rfl) ?_
        refine lv_dup hx hb dX4_note_34 rfl ?_
        refine va_get (D := (dC, dI)) (ci := 4) (v := .int ans) (C := RX4) (T := TX4) (N := 2) hx hb hts inX4 hown hK hP 0 rfl rfl 1 (by decide) lf19 (fun _ h9 => h9) rfl dX4_note_35 ?_
        refine lv_iconst (v := 1) hx hb dX4_note_38 (by decide) ?_
        refine lv_iadd hx hb dX4_note_39 ?_
        have f2 : (ans + 1).toInt = (ans.toInt) + (1) := addC rfl (show (1 : Int32).toInt = 1 from rfl) (by omega) (by omega)
        refine lv_topi (fun x3 ex3 => ?_)
        have ix3 : x3.toInt = (ans.toInt) + (1) := by rw [ex3]; exact f2
        refine va_put (D := (dC, dI)) (ci := 4) (v := .int x3) (ty := .int) (C := RX4) (T := TX4) (N := 2) hx hb hts inX4 tyX4 tyX4_ok nmX4 hown hK hP hD hS 0 rfl rfl 1 (by decide) lf19 (fun _ h9 => h9) rfl (by decide +kernel) rfl rfl (Nat.le_of_ble_eq_true rfl) dX4_note_40 (fun H locs hP hD hS => ?_)
        have g4 : 0 ≤ x3.toInt ∧ x3.toInt ≤ 12 := by rw [show x3.toInt = x3.toInt from rfl]; exact ⟨by omega, by omega⟩
        have hP : va_P (dC, dI) vwCl (wPup cI cZ cQ pu0 pu1 agr_2 x3) H := hP
        have hD : va_D A (wPup cI cZ cQ pu0 pu1 agr_2 x3) := hD
        exact W.vret hx hb hr (fun tq ht hW => ⟨⟨(uS [agr_2, (fun _ => x3)] 0 (fun _ => 0)), rfl, ⟨(show x3 = ans + 1 from by (first | assumption | (subst_vars; rfl))), (show ∀ j : Nat, j < 81 → agr_2 j = agr j + incW (nI j) dd ri from by (intro j hj; exact (i2_2 j hj).1 (by omega))), g4⟩, by rw [ht]; exact hP, hD⟩, hS.F ht⟩) hS.2.2 dX4_note_43
      · have dc1 : y2_3.toInt < 81 := nleC (show (81 : Int32).toInt = 81 from rfl) rfl c1
        refine lv_iload_n hx hb dX4_note_8 rfl (lv_at hl 3 rfl) ?_
        refine lv_iload_n hx hb dX4_note_9 rfl (lv_at hl 1 rfl) ?_
        refine rdS (As := [.int y2_3, .int dd]) (rest := []) ⟨hx, hb, hml, hown, hts⟩ (k_X4_saysRight2 l dC dI cI cZ cQ y2_3 dd (by omega) (by omega) (by omega) (by omega)) (va_cwS 2 hts gX4_note_X4_saysRight rfl rfl rfl (by decide +kernel) ⟨Nat.le_of_ble_eq_true rfl, Nat.le_of_ble_eq_true rfl⟩) hP hK hN [] rfl rfl hl.1 rfl (Nat.le_of_ble_eq_true rfl) dX4_note_10 ⟨Nat.le_of_ble_eq_true rfl, Nat.le_of_ble_eq_true rfl⟩ (fun r5 h6 => ?_)
        have h6 : ((((r5 = 1) ∧ (sayW y2_3 dd = true)) ∨ ((r5 = 0) ∧ (sayW y2_3 dd = false)))) := h6
        rcases h6 with (⟨rfl, h6_a0⟩ | ⟨rfl, h6_a0⟩)
        · refine lv_iload_n hx hb dX4_note_13 rfl (lv_at hl 2 rfl) ?_
          refine lv_icmp_ne (tgt := 27) hx hb dX4_note_14 (by decide) (fun c7 => ?_) (fun c7 => ?_)
          · have dc7 : 1 ≠ ri.toInt := neC (show (1 : Int32).toInt = 1 from rfl) rfl c7
            obtain ⟨z8, ez8⟩ : ∃ y : Int32, y = y2_3 + 1 := ⟨_, rfl⟩
            have iz8 : z8.toInt = y2_3.toInt + 1 := by rw [ez8]; exact addC rfl rfl (by omega) (by omega)
            refine lv_iinc (v := z8) (lv' := [(3, .int z8), (0, .ref pu0), (1, .int dd), (2, .int ri)]) hx hb dX4_note_27 hl (k := 3) rfl (by rw [ez8]; rfl) (by decide) rfl (fun ls hl => ?_)
            refine lv_goto (tgt := 2) hx hb dX4_note_30 (by decide) ?_
            exact ih2 z8 agr_2 _ _ _ (by omega) (by omega) (by (first | exact nt_y i2_2 (by assumption) (by assumption) (by first | exact sw1 (by assumption) (by assumption) | exact sw0 (by assumption) (by assumption)) (by omega) (by omega) (by omega) | exact nt_n i2_2 (by first | exact nw1 (by assumption) (by assumption) | exact nw0 (by assumption) (by assumption)) (by omega) (by omega) (by omega) | exact nt_0 (by first | rfl | omega))) (by omega) hP hD hS (lv_sub hl [1, 2, 3, 0] rfl)
          · have dc7 : 1 = ri.toInt := eqC (show (1 : Int32).toInt = 1 from rfl) rfl c7
            refine lv_aload_n hx hb dX4_note_17 rfl (lv_at hl 0 rfl) ?_
            refine va_get (D := (dC, dI)) (ci := 4) (v := .ref pu1) (C := RX4) (T := TX4) (N := 2) hx hb hts inX4 hown hK hP 0 rfl rfl 0 (by decide) lf11 (fun _ h9 => h9) rfl dX4_note_18 ?_
            refine lv_iload_n hx hb dX4_note_21 rfl (lv_at hl 3 rfl) ?_
            refine lv_dup2_11 hx hb dX4_note_22 rfl rfl ?_
            have b9 : vp_in y2_3 81 := inC rfl (by omega) (by omega)
            refine va_iald hx hb hK hP 1 0 rfl rfl b9 dX4_note_23 ?_
            refine lv_iconst (v := 1) hx hb dX4_note_24 (by decide) ?_
            refine lv_iadd hx hb dX4_note_25 ?_
            refine lv_topi (fun x10 ex10 => ?_)
            have ix10 : x10.toInt = ((agr_2 y2_3.toNatClampNeg) + 1).toInt := by rw [ex10]
            have b11 : vp_in y2_3 81 := inC rfl (by omega) (by omega)
            refine va_iast hx hb hK hP hD hS 1 0 rfl rfl b11 dX4_note_26 (fun H locs hP hD hS => ?_)
            obtain ⟨agr_u12, eagr_u12⟩ : ∃ f : Nat → Int32, f = upd agr_2 y2_3.toNatClampNeg x10 := ⟨_, rfl⟩
            have hP : va_P (dC, dI) vwCl (wPup cI cZ cQ pu0 pu1 agr_u12 ans) H := by rw [eagr_u12]; exact hP
            have hD : va_D A (wPup cI cZ cQ pu0 pu1 agr_u12 ans) := by rw [eagr_u12]; exact hD
            obtain ⟨z13, ez13⟩ : ∃ y : Int32, y = y2_3 + 1 := ⟨_, rfl⟩
            have iz13 : z13.toInt = y2_3.toInt + 1 := by rw [ez13]; exact addC rfl rfl (by omega) (by omega)
            refine lv_iinc (v := z13) (lv' := [(3, .int z13), (0, .ref pu0), (1, .int dd), (2, .int ri)]) hx hb dX4_note_27 hl (k := 3) rfl (by rw [ez13]; rfl) (by decide) rfl (fun ls hl => ?_)
            refine lv_goto (tgt := 2) hx hb dX4_note_30 (by decide) ?_
            exact ih2 z13 agr_u12 _ _ _ (by omega) (by omega) (by (first | exact nt_y i2_2 (by assumption) (by assumption) (by first | exact sw1 (by assumption) (by assumption) | exact sw0 (by assumption) (by assumption)) (by omega) (by omega) (by omega) | exact nt_n i2_2 (by first | exact nw1 (by assumption) (by assumption) | exact nw0 (by assumption) (by assumption)) (by omega) (by omega) (by omega) | exact nt_0 (by first | rfl | omega))) (by omega) hP hD hS (lv_sub hl [1, 2, 3, 0] rfl)
        · refine lv_iload_n hx hb dX4_note_13 rfl (lv_at hl 2 rfl) ?_
          refine lv_icmp_ne (tgt := 27) hx hb dX4_note_14 (by decide) (fun c14 => ?_) (fun c14 => ?_)
          · have dc14 : 0 ≠ ri.toInt := neC (show (0 : Int32).toInt = 0 from rfl) rfl c14
            obtain ⟨z15, ez15⟩ : ∃ y : Int32, y = y2_3 + 1 := ⟨_, rfl⟩
            have iz15 : z15.toInt = y2_3.toInt + 1 := by rw [ez15]; exact addC rfl rfl (by omega) (by omega)
            refine lv_iinc (v := z15) (lv' := [(3, .int z15), (0, .ref pu0), (1, .int dd), (2, .int ri)]) hx hb dX4_note_27 hl (k := 3) rfl (by rw [ez15]; rfl) (by decide) rfl (fun ls hl => ?_)
            refine lv_goto (tgt := 2) hx hb dX4_note_30 (by decide) ?_
            exact ih2 z15 agr_2 _ _ _ (by omega) (by omega) (by (first | exact nt_y i2_2 (by assumption) (by assumption) (by first | exact sw1 (by assumption) (by assumption) | exact sw0 (by assumption) (by assumption)) (by omega) (by omega) (by omega) | exact nt_n i2_2 (by first | exact nw1 (by assumption) (by assumption) | exact nw0 (by assumption) (by assumption)) (by omega) (by omega) (by omega) | exact nt_0 (by first | rfl | omega))) (by omega) hP hD hS (lv_sub hl [1, 2, 3, 0] rfl)
          · have dc14 : 0 = ri.toInt := eqC (show (0 : Int32).toInt = 0 from rfl) rfl c14
            refine lv_aload_n hx hb dX4_note_17 rfl (lv_at hl 0 rfl) ?_
            refine va_get (D := (dC, dI)) (ci := 4) (v := .ref pu1) (C := RX4) (T := TX4) (N := 2) hx hb hts inX4 hown hK hP 0 rfl rfl 0 (by decide) lf11 (fun _ h9 => h9) rfl dX4_note_18 ?_
            refine lv_iload_n hx hb dX4_note_21 rfl (lv_at hl 3 rfl) ?_
            refine lv_dup2_11 hx hb dX4_note_22 rfl rfl ?_
            have b16 : vp_in y2_3 81 := inC rfl (by omega) (by omega)
            refine va_iald hx hb hK hP 1 0 rfl rfl b16 dX4_note_23 ?_
            refine lv_iconst (v := 1) hx hb dX4_note_24 (by decide) ?_
            refine lv_iadd hx hb dX4_note_25 ?_
            refine lv_topi (fun x17 ex17 => ?_)
            have ix17 : x17.toInt = ((agr_2 y2_3.toNatClampNeg) + 1).toInt := by rw [ex17]
            have b18 : vp_in y2_3 81 := inC rfl (by omega) (by omega)
            refine va_iast hx hb hK hP hD hS 1 0 rfl rfl b18 dX4_note_26 (fun H locs hP hD hS => ?_)
            obtain ⟨agr_u19, eagr_u19⟩ : ∃ f : Nat → Int32, f = upd agr_2 y2_3.toNatClampNeg x17 := ⟨_, rfl⟩
            have hP : va_P (dC, dI) vwCl (wPup cI cZ cQ pu0 pu1 agr_u19 ans) H := by rw [eagr_u19]; exact hP
            have hD : va_D A (wPup cI cZ cQ pu0 pu1 agr_u19 ans) := by rw [eagr_u19]; exact hD
            obtain ⟨z20, ez20⟩ : ∃ y : Int32, y = y2_3 + 1 := ⟨_, rfl⟩
            have iz20 : z20.toInt = y2_3.toInt + 1 := by rw [ez20]; exact addC rfl rfl (by omega) (by omega)
            refine lv_iinc (v := z20) (lv' := [(3, .int z20), (0, .ref pu0), (1, .int dd), (2, .int ri)]) hx hb dX4_note_27 hl (k := 3) rfl (by rw [ez20]; rfl) (by decide) rfl (fun ls hl => ?_)
            refine lv_goto (tgt := 2) hx hb dX4_note_30 (by decide) ?_
            exact ih2 z20 agr_u19 _ _ _ (by omega) (by omega) (by (first | exact nt_y i2_2 (by assumption) (by assumption) (by first | exact sw1 (by assumption) (by assumption) | exact sw0 (by assumption) (by assumption)) (by omega) (by omega) (by omega) | exact nt_n i2_2 (by first | exact nw1 (by assumption) (by assumption) | exact nw0 (by assumption) (by assumption)) (by omega) (by omega) (by omega) | exact nt_0 (by first | rfl | omega))) (by omega) hP hD hS (lv_sub hl [1, 2, 3, 0] rfl)
  have kc21 : (0 : Int32).toInt = 0 := rfl
  exact L2 _ 0 agr _ _ _ (by omega) (by omega) (by (first | exact nt_y i2_2 (by assumption) (by assumption) (by first | exact sw1 (by assumption) (by assumption) | exact sw0 (by assumption) (by assumption)) (by omega) (by omega) (by omega) | exact nt_n i2_2 (by first | exact nw1 (by assumption) (by assumption) | exact nw0 (by assumption) (by assumption)) (by omega) (by omega) (by omega) | exact nt_0 (by first | rfl | omega))) (Nat.lt_succ_self _) hP hD hS (lv_sub hl [1, 2, 3, 0] rfl)
