set_option maxHeartbeats 4000000 in
set_option maxRecDepth 100000 in
theorem k_X10_areJoined2 (l : Launch) (dC : Nat → ClassId) (dI : Nat → Nat → Nat) (cI cZ cQ : ClassId) (b : Nat → Nat) (mday : Int32) (mdoo : Int32) (mdA : Nat → Int32) (mdB : Nat → Int32) (mfar : Nat → Int32) (mmar : Nat → Int32) (mtel : Int32) (mgai : Int32) (mfal : Nat → Int32) (mtop : Nat → Int32) (mstr : Nat → Int32) (mgho : Nat → Int32) (mfai : Nat → Int32) (mpto : Nat → Int32) (mwal : Nat → Int32) (mahd : Nat → Int32) (mahf : Nat → Int32) (mcho : Nat → Int32) (mbes : Nat → Int32) (mbyt : Int32) (mtxt : Nat → Int32) (mpos : Int32) (mtka : Int32) (mtok : Int64) (mdig : Int32) (mnum : Int32) (mfau : Int32) (mrdm : Int32) (mrea : Nat → Int32) (mlin : Int32) (mlne : Nat → Int32) (mthg : Nat → Int32) (mord : Nat → Int32) (mbor : Nat → Int32) (mbsm : Int32) (mans : Nat → Int32) (mand : Nat → Int32) (manr : Nat → Int32) (mali : Nat → Int32) (x : Int32) (y : Int32) (r_mday : 0 ≤ mday.toInt ∧ mday.toInt ≤ 400) (r_mdoo : 0 ≤ mdoo.toInt ∧ mdoo.toInt ≤ 14) (r_mdA : rg 14 (0) (7) mdA) (r_mdB : rg 14 (0) (7) mdB) (r_mmar : rg 24 (0) (255) mmar) (r_mgai : 0 ≤ mgai.toInt ∧ mgai.toInt ≤ 100) (r_mfal : rg 11 (0) (30) mfal) (r_mtop : rg 48 (-1) (23) mtop) (r_mstr : rg 48 (0) (100) mstr) (r_mgho : rg 48 (-1) (23) mgho) (r_mfai : rg 48 (0) (100) mfai) (r_mahd : rg 240 (0) (100) mahd) (r_mahf : rg 240 (0) (100) mahf) (r_mcho : rg 5 (-1) (9) mcho) (r_mbyt : 0 ≤ mbyt.toInt ∧ mbyt.toInt ≤ 160) (r_mpos : 0 ≤ mpos.toInt ∧ mpos.toInt ≤ 160) (r_mrdm : 0 ≤ mrdm.toInt ∧ mrdm.toInt ≤ 10) (r_mlin : 0 ≤ mlin.toInt ∧ mlin.toInt ≤ 10) (r_mthg : rg 8 (0) (31) mthg) (r_mord : rg 8 (-1) (8) mord) (r_mans : rg 4 (0) (12) mans) : KR l yX10_areJoined wsX10_areJoined { frames := 0, cells := 0, slots := 0, locals := 0 } (dC, dI) (TY cI cZ cQ) (wMod cI cZ cQ b mday mdoo mdA mdB mfar mmar mtel mgai mfal mtop mstr mgho mfai mpto mwal mahd mahf mcho mbes mbyt mtxt mpos mtka mtok mdig mnum mfau mrdm mrea mlin mlne mthg mord mbor mbsm mans mand manr mali) [.ref (b 39), .int x, .int y] (fun r : Int32 => ((((r = 1) ∧ (eD mdA mdB mdoo.toInt x.toInt y.toInt)) ∨ ((r = 0) ∧ (¬ eD mdA mdB mdoo.toInt x.toInt y.toInt))))) := by
  refine Met.ofW (cc := cX10_areJoined) (maxL := 5) (ret := (some .boolean)) (by decide) rfl ?_
  intro p e s m args below meth c s₁ B hml hv
  obtain ⟨rfl, hP, hK, hN⟩ := hv
  have hx := B.exec
  have hb := B.bytes
  have hr := B.returns
  have hts := atoms_spec (ws := wsX10_areJoined) B.pre
  have hown : s.vm.findClass RX10 = some m.cls := findClass_of_methodNamed B.named
  have hlocks := B.notSynchronized
  have lf97 := hts (.fieldLink RX10 97 "PalaceOfRoomsModel" "doors" "I") (by decide +kernel)
  have inX10 : ∀ w ∈ wsX100, w ∈ wsX10_areJoined := by decide +kernel
  have lf7 := hts (.fieldLink RX10 7 "PalaceOfRoomsModel" "doorA" "[I") (by decide +kernel)
  have lf13 := hts (.fieldLink RX10 13 "PalaceOfRoomsModel" "doorB" "[I") (by decide +kernel)
  have hl := lv_entry ([.ref (b 39), .int x, .int y]) (n := 5) (Nat.le_of_ble_eq_true rfl)
  rw [lg_entry_eq]
  generalize (lg_sl ([.ref (b 39), .int x, .int y]) ++ List.replicate (5 - (lg_sl ([.ref (b 39), .int x, .int y])).length) Slot.unset).toArray = ls at hl ⊢
  have hl : lv_has ls 5 [(0, .ref (b 39)), (1, .int x), (2, .int y)] := hl
  refine lv_iconst (v := 0) hx hb dX10_areJoined_0 (by decide) ?_
  refine lv_istore_n (lv' := [(3, .int 0), (0, .ref (b 39)), (1, .int x), (2, .int y)]) hx hb dX10_areJoined_1 rfl hl (by decide) rfl (fun ls hl => ?_)
  refine lv_iconst (v := 0) hx hb dX10_areJoined_2 (by decide) ?_
  refine lv_istore (lv' := [(4, .int 0), (3, .int 0), (0, .ref (b 39)), (1, .int x), (2, .int y)]) hx hb dX10_areJoined_3 hl (by decide) rfl (fun ls hl => ?_)
  have L5 : ∀ (nn : Nat) (y5_3 : Int32) (y5_4 : Int32) (ls : Array Slot), (0 ≤ (y5_4.toInt)) → ((y5_4.toInt) ≤ 14) → (jkI mdA mdB x y (y5_4.toInt) y5_3) → ((y5_4.toInt) ≤ mdoo.toInt) → (14 - (y5_4.toInt)).toNat < nn → lv_has ls 5 [(0, .ref (b 39)), (1, .int x), (2, .int y), (3, .int y5_3), (4, .int y5_4)] → W p l e (headSpec wsX10_areJoined { frames := 0, cells := 0, slots := 0, locals := 0 }).room s m ([.ref (b 39), .int x, .int y] : List Value).toArray below meth c s.heap [] 0 0 (MQ below (QR (fun r : Int32 => ((((r = 1) ∧ (eD mdA mdB mdoo.toInt x.toInt y.toInt)) ∨ ((r = 0) ∧ (¬ eD mdA mdB mdoo.toInt x.toInt y.toInt)))))) ([.ref (b 39), .int x, .int y] : List Value).toArray s 0 0 (fun _ => False)) (F0 m 5 ls []) := by
    intro nn
    induction nn with
    | zero =>
      intro y5_3 y5_4 ls i5_0 i5_1 i5_2 i5_3 hm5
      exact absurd hm5 (Nat.not_lt_zero _)
    | succ nn ih5 =>
      intro y5_3 y5_4 ls i5_0 i5_1 i5_2 i5_3 hm5 hl
      refine lv_iload hx hb dX10_areJoined_5 (lv_at hl 4 rfl) ?_
      refine lv_aload_n hx hb dX10_areJoined_7 rfl (lv_at hl 0 rfl) ?_
      refine va_get (D := (dC, dI)) (ci := 10) (v := .int mdoo) (C := RX10) (T := TX10) (N := 39) hx hb hts inX10 hown hK hP 0 rfl rfl 1 (by decide) lf97 (fun _ h9 => h9) rfl dX10_areJoined_8 ?_
      refine lv_icmp_ge (tgt := 74) hx hb dX10_areJoined_11 (by decide) (fun c1 => ?_) (fun c1 => ?_)
      · have dc1 : mdoo.toInt ≤ y5_4.toInt := leC rfl rfl c1
        refine lv_iload_n hx hb dX10_areJoined_74 rfl (lv_at hl 3 rfl) ?_
        exact W.zret (v := y5_3) hx hb hr (by (rcases jk_narrow i5_2 with h | h <;> rw [h] <;> rfl)) (fun tq ht hW => ⟨y5_3, rfl, (by exact jk_alt i5_2 (by omega)), ht⟩) (fun q h => by cases h) dX10_areJoined_75
      · have dc1 : y5_4.toInt < mdoo.toInt := nleC rfl rfl c1
        refine lv_iload_n hx hb dX10_areJoined_14 rfl (lv_at hl 3 rfl) ?_
        refine lv_if_ne (tgt := 62) hx hb dX10_areJoined_15 (by decide) (fun c2 => ?_) (fun c2 => ?_)
        · have dc2 : y5_3.toInt ≠ 0 := neC rfl (show (0 : Int32).toInt = 0 from rfl) c2
          refine lv_iconst (v := 1) hx hb dX10_areJoined_62 (by decide) ?_
          refine lv_goto (tgt := 67) hx hb dX10_areJoined_63 (by decide) ?_
          refine lv_istore_n (lv' := [(3, .int 1), (0, .ref (b 39)), (1, .int x), (2, .int y), (4, .int y5_4)]) hx hb dX10_areJoined_67 rfl hl (by decide) rfl (fun ls hl => ?_)
          obtain ⟨z3, ez3⟩ : ∃ y : Int32, y = y5_4 + 1 := ⟨_, rfl⟩
          have iz3 : z3.toInt = y5_4.toInt + 1 := by rw [ez3]; exact addC rfl rfl (by omega) (by omega)
          refine lv_iinc (v := z3) (lv' := [(4, .int z3), (3, .int 1), (0, .ref (b 39)), (1, .int x), (2, .int y)]) hx hb dX10_areJoined_68 hl (k := 4) rfl (by rw [ez3]; rfl) (by decide) rfl (fun ls hl => ?_)
          refine lv_goto (tgt := 5) hx hb dX10_areJoined_71 (by decide) ?_
          have kc4 : (1 : Int32).toInt = 1 := rfl
          exact ih5 1 z3 _ (by omega) (by omega) (by (first | exact jk_init (by first | rfl | omega) (by first | rfl | assumption) | exact jk_was i5_2 (by assumption) (by first | rfl | assumption) (by omega) | exact jk_hit (c := y5_4) (by omega) (by omega) (by first | rfl | assumption) (by omega) | exact jk_miss (c := y5_4) i5_2 (by assumption) (by omega) (by omega) (by first | rfl | assumption) (by omega))) (by omega) (by omega) (lv_sub hl [2, 3, 4, 1, 0] rfl)
        · have dc2 : y5_3.toInt = 0 := eqC rfl (show (0 : Int32).toInt = 0 from rfl) c2
          refine lv_aload_n hx hb dX10_areJoined_18 rfl (lv_at hl 0 rfl) ?_
          refine va_get (D := (dC, dI)) (ci := 10) (v := .ref (b 2)) (C := RX10) (T := TX10) (N := 39) hx hb hts inX10 hown hK hP 0 rfl rfl 2 (by decide) lf7 (fun _ h9 => h9) rfl dX10_areJoined_19 ?_
          refine lv_iload hx hb dX10_areJoined_22 (lv_at hl 4 rfl) ?_
          have b5 : vp_in y5_4 14 := inC rfl (by omega) (by omega)
          refine va_iald hx hb hK hP 1 0 rfl rfl b5 dX10_areJoined_24 ?_
          have g6 : 0 ≤ (mdA y5_4.toNatClampNeg).toInt ∧ (mdA y5_4.toNatClampNeg).toInt ≤ 7 := rg_at r_mdA b5
          refine lv_iload_n hx hb dX10_areJoined_25 rfl (lv_at hl 1 rfl) ?_
          refine lv_icmp_ne (tgt := 40) hx hb dX10_areJoined_26 (by decide) (fun c7 => ?_) (fun c7 => ?_)
          · have dc7 : (mdA y5_4.toNatClampNeg).toInt ≠ x.toInt := neC rfl rfl c7
            refine lv_aload_n hx hb dX10_areJoined_40 rfl (lv_at hl 0 rfl) ?_
            refine va_get (D := (dC, dI)) (ci := 10) (v := .ref (b 2)) (C := RX10) (T := TX10) (N := 39) hx hb hts inX10 hown hK hP 0 rfl rfl 2 (by decide) lf7 (fun _ h9 => h9) rfl dX10_areJoined_41 ?_
            refine lv_iload hx hb dX10_areJoined_44 (lv_at hl 4 rfl) ?_
            have b8 : vp_in y5_4 14 := inC rfl (by omega) (by omega)
            refine va_iald hx hb hK hP 1 0 rfl rfl b8 dX10_areJoined_46 ?_
            have g9 : 0 ≤ (mdA y5_4.toNatClampNeg).toInt ∧ (mdA y5_4.toNatClampNeg).toInt ≤ 7 := rg_at r_mdA b8
            refine lv_iload_n hx hb dX10_areJoined_47 rfl (lv_at hl 2 rfl) ?_
            refine lv_icmp_ne (tgt := 66) hx hb dX10_areJoined_48 (by decide) (fun c10 => ?_) (fun c10 => ?_)
            · have dc10 : (mdA y5_4.toNatClampNeg).toInt ≠ y.toInt := neC rfl rfl c10
              refine lv_iconst (v := 0) hx hb dX10_areJoined_66 (by decide) ?_
              refine lv_istore_n (lv' := [(3, .int 0), (0, .ref (b 39)), (1, .int x), (2, .int y), (4, .int y5_4)]) hx hb dX10_areJoined_67 rfl hl (by decide) rfl (fun ls hl => ?_)
              obtain ⟨z11, ez11⟩ : ∃ y : Int32, y = y5_4 + 1 := ⟨_, rfl⟩
              have iz11 : z11.toInt = y5_4.toInt + 1 := by rw [ez11]; exact addC rfl rfl (by omega) (by omega)
              refine lv_iinc (v := z11) (lv' := [(4, .int z11), (3, .int 0), (0, .ref (b 39)), (1, .int x), (2, .int y)]) hx hb dX10_areJoined_68 hl (k := 4) rfl (by rw [ez11]; rfl) (by decide) rfl (fun ls hl => ?_)
              refine lv_goto (tgt := 5) hx hb dX10_areJoined_71 (by decide) ?_
              have kc12 : (0 : Int32).toInt = 0 := rfl
              exact ih5 0 z11 _ (by omega) (by omega) (by (first | exact jk_init (by first | rfl | omega) (by first | rfl | assumption) | exact jk_was i5_2 (by assumption) (by first | rfl | assumption) (by omega) | exact jk_hit (c := y5_4) (by omega) (by omega) (by first | rfl | assumption) (by omega) | exact jk_miss (c := y5_4) i5_2 (by assumption) (by omega) (by omega) (by first | rfl | assumption) (by omega))) (by omega) (by omega) (lv_sub hl [2, 3, 4, 1, 0] rfl)
            · have dc10 : (mdA y5_4.toNatClampNeg).toInt = y.toInt := eqC rfl rfl c10
              refine lv_aload_n hx hb dX10_areJoined_51 rfl (lv_at hl 0 rfl) ?_
              refine va_get (D := (dC, dI)) (ci := 10) (v := .ref (b 3)) (C := RX10) (T := TX10) (N := 39) hx hb hts inX10 hown hK hP 0 rfl rfl 3 (by decide) lf13 (fun _ h9 => h9) rfl dX10_areJoined_52 ?_
              refine lv_iload hx hb dX10_areJoined_55 (lv_at hl 4 rfl) ?_
              have b13 : vp_in y5_4 14 := inC rfl (by omega) (by omega)
              refine va_iald hx hb hK hP 2 0 rfl rfl b13 dX10_areJoined_57 ?_
              have g14 : 0 ≤ (mdB y5_4.toNatClampNeg).toInt ∧ (mdB y5_4.toNatClampNeg).toInt ≤ 7 := rg_at r_mdB b13
              refine lv_iload_n hx hb dX10_areJoined_58 rfl (lv_at hl 1 rfl) ?_
              refine lv_icmp_ne (tgt := 66) hx hb dX10_areJoined_59 (by decide) (fun c15 => ?_) (fun c15 => ?_)
              · have dc15 : (mdB y5_4.toNatClampNeg).toInt ≠ x.toInt := neC rfl rfl c15
                refine lv_iconst (v := 0) hx hb dX10_areJoined_66 (by decide) ?_
                refine lv_istore_n (lv' := [(3, .int 0), (0, .ref (b 39)), (1, .int x), (2, .int y), (4, .int y5_4)]) hx hb dX10_areJoined_67 rfl hl (by decide) rfl (fun ls hl => ?_)
                obtain ⟨z16, ez16⟩ : ∃ y : Int32, y = y5_4 + 1 := ⟨_, rfl⟩
                have iz16 : z16.toInt = y5_4.toInt + 1 := by rw [ez16]; exact addC rfl rfl (by omega) (by omega)
                refine lv_iinc (v := z16) (lv' := [(4, .int z16), (3, .int 0), (0, .ref (b 39)), (1, .int x), (2, .int y)]) hx hb dX10_areJoined_68 hl (k := 4) rfl (by rw [ez16]; rfl) (by decide) rfl (fun ls hl => ?_)
                refine lv_goto (tgt := 5) hx hb dX10_areJoined_71 (by decide) ?_
                have kc17 : (0 : Int32).toInt = 0 := rfl
                exact ih5 0 z16 _ (by omega) (by omega) (by (first | exact jk_init (by first | rfl | omega) (by first | rfl | assumption) | exact jk_was i5_2 (by assumption) (by first | rfl | assumption) (by omega) | exact jk_hit (c := y5_4) (by omega) (by omega) (by first | rfl | assumption) (by omega) | exact jk_miss (c := y5_4) i5_2 (by assumption) (by omega) (by omega) (by first | rfl | assumption) (by omega))) (by omega) (by omega) (lv_sub hl [2, 3, 4, 1, 0] rfl)
              · have dc15 : (mdB y5_4.toNatClampNeg).toInt = x.toInt := eqC rfl rfl c15
                refine lv_iconst (v := 1) hx hb dX10_areJoined_62 (by decide) ?_
                refine lv_goto (tgt := 67) hx hb dX10_areJoined_63 (by decide) ?_
                refine lv_istore_n (lv' := [(3, .int 1), (0, .ref (b 39)), (1, .int x), (2, .int y), (4, .int y5_4)]) hx hb dX10_areJoined_67 rfl hl (by decide) rfl (fun ls hl => ?_)
                obtain ⟨z18, ez18⟩ : ∃ y : Int32, y = y5_4 + 1 := ⟨_, rfl⟩
                have iz18 : z18.toInt = y5_4.toInt + 1 := by rw [ez18]; exact addC rfl rfl (by omega) (by omega)
                refine lv_iinc (v := z18) (lv' := [(4, .int z18), (3, .int 1), (0, .ref (b 39)), (1, .int x), (2, .int y)]) hx hb dX10_areJoined_68 hl (k := 4) rfl (by rw [ez18]; rfl) (by decide) rfl (fun ls hl => ?_)
                refine lv_goto (tgt := 5) hx hb dX10_areJoined_71 (by decide) ?_
                have kc19 : (1 : Int32).toInt = 1 := rfl
                exact ih5 1 z18 _ (by omega) (by omega) (by (first | exact jk_init (by first | rfl | omega) (by first | rfl | assumption) | exact jk_was i5_2 (by assumption) (by first | rfl | assumption) (by omega) | exact jk_hit (c := y5_4) (by omega) (by omega) (by first | rfl | assumption) (by omega) | exact jk_miss (c := y5_4) i5_2 (by assumption) (by omega) (by omega) (by first | rfl | assumption) (by omega))) (by omega) (by omega) (lv_sub hl [2, 3, 4, 1, 0] rfl)
          · have dc7 : (mdA y5_4.toNatClampNeg).toInt = x.toInt := eqC rfl rfl c7
            refine lv_aload_n hx hb dX10_areJoined_29 rfl (lv_at hl 0 rfl) ?_
            refine va_get (D := (dC, dI)) (ci := 10) (v := .ref (b 3)) (C := RX10) (T := TX10) (N := 39) hx hb hts inX10 hown hK hP 0 rfl rfl 3 (by decide) lf13 (fun _ h9 => h9) rfl dX10_areJoined_30 ?_
            refine lv_iload hx hb dX10_areJoined_33 (lv_at hl 4 rfl) ?_
            have b20 : vp_in y5_4 14 := inC rfl (by omega) (by omega)
            refine va_iald hx hb hK hP 2 0 rfl rfl b20 dX10_areJoined_35 ?_
            have g21 : 0 ≤ (mdB y5_4.toNatClampNeg).toInt ∧ (mdB y5_4.toNatClampNeg).toInt ≤ 7 := rg_at r_mdB b20
            refine lv_iload_n hx hb dX10_areJoined_36 rfl (lv_at hl 2 rfl) ?_
            refine lv_icmp_eq (tgt := 62) hx hb dX10_areJoined_37 (by decide) (fun c22 => ?_) (fun c22 => ?_)
            · have dc22 : (mdB y5_4.toNatClampNeg).toInt = y.toInt := eqC rfl rfl c22
              refine lv_iconst (v := 1) hx hb dX10_areJoined_62 (by decide) ?_
              refine lv_goto (tgt := 67) hx hb dX10_areJoined_63 (by decide) ?_
              refine lv_istore_n (lv' := [(3, .int 1), (0, .ref (b 39)), (1, .int x), (2, .int y), (4, .int y5_4)]) hx hb dX10_areJoined_67 rfl hl (by decide) rfl (fun ls hl => ?_)
              obtain ⟨z23, ez23⟩ : ∃ y : Int32, y = y5_4 + 1 := ⟨_, rfl⟩
              have iz23 : z23.toInt = y5_4.toInt + 1 := by rw [ez23]; exact addC rfl rfl (by omega) (by omega)
              refine lv_iinc (v := z23) (lv' := [(4, .int z23), (3, .int 1), (0, .ref (b 39)), (1, .int x), (2, .int y)]) hx hb dX10_areJoined_68 hl (k := 4) rfl (by rw [ez23]; rfl) (by decide) rfl (fun ls hl => ?_)
              refine lv_goto (tgt := 5) hx hb dX10_areJoined_71 (by decide) ?_
              have kc24 : (1 : Int32).toInt = 1 := rfl
              exact ih5 1 z23 _ (by omega) (by omega) (by (first | exact jk_init (by first | rfl | omega) (by first | rfl | assumption) | exact jk_was i5_2 (by assumption) (by first | rfl | assumption) (by omega) | exact jk_hit (c := y5_4) (by omega) (by omega) (by first | rfl | assumption) (by omega) | exact jk_miss (c := y5_4) i5_2 (by assumption) (by omega) (by omega) (by first | rfl | assumption) (by omega))) (by omega) (by omega) (lv_sub hl [2, 3, 4, 1, 0] rfl)
            · have dc22 : (mdB y5_4.toNatClampNeg).toInt ≠ y.toInt := neC rfl rfl c22
              refine lv_aload_n hx hb dX10_areJoined_40 rfl (lv_at hl 0 rfl) ?_
              refine va_get (D := (dC, dI)) (ci := 10) (v := .ref (b 2)) (C := RX10) (T := TX10) (N := 39) hx hb hts inX10 hown hK hP 0 rfl rfl 2 (by decide) lf7 (fun _ h9 => h9) rfl dX10_areJoined_41 ?_
              refine lv_iload hx hb dX10_areJoined_44 (lv_at hl 4 rfl) ?_
              have b25 : vp_in y5_4 14 := inC rfl (by omega) (by omega)
              refine va_iald hx hb hK hP 1 0 rfl rfl b25 dX10_areJoined_46 ?_
              have g26 : 0 ≤ (mdA y5_4.toNatClampNeg).toInt ∧ (mdA y5_4.toNatClampNeg).toInt ≤ 7 := rg_at r_mdA b25
              refine lv_iload_n hx hb dX10_areJoined_47 rfl (lv_at hl 2 rfl) ?_
              refine lv_icmp_ne (tgt := 66) hx hb dX10_areJoined_48 (by decide) (fun c27 => ?_) (fun c27 => ?_)
              · have dc27 : (mdA y5_4.toNatClampNeg).toInt ≠ y.toInt := neC rfl rfl c27
                refine lv_iconst (v := 0) hx hb dX10_areJoined_66 (by decide) ?_
                refine lv_istore_n (lv' := [(3, .int 0), (0, .ref (b 39)), (1, .int x), (2, .int y), (4, .int y5_4)]) hx hb dX10_areJoined_67 rfl hl (by decide) rfl (fun ls hl => ?_)
                obtain ⟨z28, ez28⟩ : ∃ y : Int32, y = y5_4 + 1 := ⟨_, rfl⟩
                have iz28 : z28.toInt = y5_4.toInt + 1 := by rw [ez28]; exact addC rfl rfl (by omega) (by omega)
                refine lv_iinc (v := z28) (lv' := [(4, .int z28), (3, .int 0), (0, .ref (b 39)), (1, .int x), (2, .int y)]) hx hb dX10_areJoined_68 hl (k := 4) rfl (by rw [ez28]; rfl) (by decide) rfl (fun ls hl => ?_)
                refine lv_goto (tgt := 5) hx hb dX10_areJoined_71 (by decide) ?_
                have kc29 : (0 : Int32).toInt = 0 := rfl
                exact ih5 0 z28 _ (by omega) (by omega) (by (first | exact jk_init (by first | rfl | omega) (by first | rfl | assumption) | exact jk_was i5_2 (by assumption) (by first | rfl | assumption) (by omega) | exact jk_hit (c := y5_4) (by omega) (by omega) (by first | rfl | assumption) (by omega) | exact jk_miss (c := y5_4) i5_2 (by assumption) (by omega) (by omega) (by first | rfl | assumption) (by omega))) (by omega) (by omega) (lv_sub hl [2, 3, 4, 1, 0] rfl)
              · have dc27 : (mdA y5_4.toNatClampNeg).toInt = y.toInt := eqC rfl rfl c27
                refine lv_aload_n hx hb dX10_areJoined_51 rfl (lv_at hl 0 rfl) ?_
                refine va_get (D := (dC, dI)) (ci := 10) (v := .ref (b 3)) (C := RX10) (T := TX10) (N := 39) hx hb hts inX10 hown hK hP 0 rfl rfl 3 (by decide) lf13 (fun _ h9 => h9) rfl dX10_areJoined_52 ?_
                refine lv_iload hx hb dX10_areJoined_55 (lv_at hl 4 rfl) ?_
                have b30 : vp_in y5_4 14 := inC rfl (by omega) (by omega)
                refine va_iald hx hb hK hP 2 0 rfl rfl b30 dX10_areJoined_57 ?_
                have g31 : 0 ≤ (mdB y5_4.toNatClampNeg).toInt ∧ (mdB y5_4.toNatClampNeg).toInt ≤ 7 := rg_at r_mdB b30
                refine lv_iload_n hx hb dX10_areJoined_58 rfl (lv_at hl 1 rfl) ?_
                refine lv_icmp_ne (tgt := 66) hx hb dX10_areJoined_59 (by decide) (fun c32 => ?_) (fun c32 => ?_)
                · have dc32 : (mdB y5_4.toNatClampNeg).toInt ≠ x.toInt := neC rfl rfl c32
                  refine lv_iconst (v := 0) hx hb dX10_areJoined_66 (by decide) ?_
                  refine lv_istore_n (lv' := [(3, .int 0), (0, .ref (b 39)), (1, .int x), (2, .int y), (4, .int y5_4)]) hx hb dX10_areJoined_67 rfl hl (by decide) rfl (fun ls hl => ?_)
                  obtain ⟨z33, ez33⟩ : ∃ y : Int32, y = y5_4 + 1 := ⟨_, rfl⟩
                  have iz33 : z33.toInt = y5_4.toInt + 1 := by rw [ez33]; exact addC rfl rfl (by omega) (by omega)
                  refine lv_iinc (v := z33) (lv' := [(4, .int z33), (3, .int 0), (0, .ref (b 39)), (1, .int x), (2, .int y)]) hx hb dX10_areJoined_68 hl (k := 4) rfl (by rw [ez33]; rfl) (by decide) rfl (fun ls hl => ?_)
                  refine lv_goto (tgt := 5) hx hb dX10_areJoined_71 (by decide) ?_
                  have kc34 : (0 : Int32).toInt = 0 := rfl
                  exact ih5 0 z33 _ (by omega) (by omega) (by (first | exact jk_init (by first | rfl | omega) (by first | rfl | assumption) | exact jk_was i5_2 (by assumption) (by first | rfl | assumption) (by omega) | exact jk_hit (c := y5_4) (by omega) (by omega) (by first | rfl | assumption) (by omega) | exact jk_miss (c := y5_4) i5_2 (by assumption) (by omega) (by omega) (by first | rfl | assumption) (by omega))) (by omega) (by omega) (lv_sub hl [2, 3, 4, 1, 0] rfl)
                · have dc32 : (mdB y5_4.toNatClampNeg).toInt = x.toInt := eqC rfl rfl c32
                  refine lv_iconst (v := 1) hx hb dX10_areJoined_62 (by decide) ?_
                  refine lv_goto (tgt := 67) hx hb dX10_areJoined_63 (by decide) ?_
                  refine lv_istore_n (lv' := [(3, .int 1), (0, .ref (b 39)), (1, .int x), (2, .int y), (4, .int y5_4)]) hx hb dX10_areJoined_67 rfl hl (by decide) rfl (fun ls hl => ?_)
                  obtain ⟨z35, ez35⟩ : ∃ y : Int32, y = y5_4 + 1 := ⟨_, rfl⟩
                  have iz35 : z35.toInt = y5_4.toInt + 1 := by rw [ez35]; exact addC rfl rfl (by omega) (by omega)
                  refine lv_iinc (v := z35) (lv' := [(4, .int z35), (3, .int 1), (0, .ref (b 39)), (1, .int x), (2, .int y)]) hx hb dX10_areJoined_68 hl (k := 4) rfl (by rw [ez35]; rfl) (by decide) rfl (fun ls hl => ?_)
                  refine lv_goto (tgt := 5) hx hb dX10_areJoined_71 (by decide) ?_
                  have kc36 : (1 : Int32).toInt = 1 := rfl
                  exact ih5 1 z35 _ (by omega) (by omega) (by (first | exact jk_init (by first | rfl | omega) (by first | rfl | assumption) | exact jk_was i5_2 (by assumption) (by first | rfl | assumption) (by omega) | exact jk_hit (c := y5_4) (by omega) (by omega) (by first | rfl | assumption) (by omega) | exact jk_miss (c := y5_4) i5_2 (by assumption) (by omega) (by omega) (by first | rfl | assumption) (by omega))) (by omega) (by omega) (lv_sub hl [2, 3, 4, 1, 0] rfl)
  have kc37 : (0 : Int32).toInt = 0 := rfl
  exact L5 _ 0 0 _ (by omega) (by omega) (by (first | exact jk_init (by first | rfl | omega) (by first | rfl | assumption) | exact jk_was i5_2 (by assumption) (by first | rfl | assumption) (by omega) | exact jk_hit (c := y5_4) (by omega) (by omega) (by first | rfl | assumption) (by omega) | exact jk_miss (c := y5_4) i5_2 (by assumption) (by omega) (by omega) (by first | rfl | assumption) (by omega))) (by omega) (Nat.lt_succ_self _) (lv_sub hl [2, 3, 4, 1, 0] rfl)
