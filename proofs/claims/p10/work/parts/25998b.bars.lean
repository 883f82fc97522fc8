set_option maxHeartbeats 4000000 in
set_option maxRecDepth 100000 in
theorem k_X9_bars2 (l : Launch) (dC : Nat → ClassId) (dI : Nat → Nat → Nat) (cI cZ cQ : ClassId) (a : Nat → Nat) (rb0 : Nat) (rb1 : Nat) (rb2 : Nat) (db0 : Nat) (db1 : Nat) (db2 : Nat) (top : Nat → Int32) (str : Nat → Int32) (gho : Nat → Int32) (ghs : Nat → Int32) (pto : Nat → Int32) (cro : Nat → Int32) (pla : Nat → Int32) (wal : Nat → Int32) (fal : Nat → Int32) (tel : Int32) (gai : Int32) (day : Int32) (mar : Nat → Int32) (mos : Nat → Int32) (wev : Nat → Int32) (aga : Int32) (apa : Int32) (lin : Int32) (th : Int32) (co : Int32) (r_top : rg 48 (-1) (23) top) (r_str : rg 48 (0) (100) str) (r_gho : rg 48 (-1) (23) gho) (r_ghs : rg 48 (0) (100) ghs) (r_cro : rg 48 (0) (6) cro) (r_pla : rg 24 (-1) (47) pla) (r_fal : rg 11 (0) (30) fal) (r_gai : 0 ≤ gai.toInt ∧ gai.toInt ≤ 100) (r_day : 0 ≤ day.toInt ∧ day.toInt ≤ 400) (r_mar : rg 24 (0) (255) mar) : KR l yX9_bars wsX9_bars { frames := 4, cells := 0, slots := 0, locals := 87 } (dC, dI) (TY cI cZ cQ) (wsCR cI cZ cQ a rb0 rb1 rb2 db0 db1 db2 top str gho ghs pto cro pla wal fal tel gai day mar mos wev aga apa lin) [.ref (a 43), .int th, .int co] (fun r : Int32 => (spBar (baR mos top co) (baA pto aga day co) (baP mar top apa th co) th co r)) := by
  refine Met.ofW (cc := cX9_bars) (maxL := 4) (ret := (some .int)) (by decide) rfl ?_
  intro p e s m args below meth c s₁ B hml hv
  obtain ⟨rfl, hP, hK, hN⟩ := hv
  have hx := B.exec
  have hb := B.bytes
  have hr := B.returns
  have hts := atoms_spec (ws := wsX9_bars) B.pre
  have hown : s.vm.findClass RX9 = some m.cls := findClass_of_methodNamed B.named
  have hlocks := B.notSynchronized
  have hl := lv_entry ([.ref (a 43), .int th, .int co]) (n := 4) (Nat.le_of_ble_eq_true rfl)
  rw [lg_entry_eq]
  generalize (lg_sl ([.ref (a 43), .int th, .int co]) ++ List.replicate (4 - (lg_sl ([.ref (a 43), .int th, .int co])).length) Slot.unset).toArray = ls at hl ⊢
  have hl : lv_has ls 4 [(0, .ref (a 43)), (1, .int th), (2, .int co)] := hl
  refine lv_iload_n hx hb dX9_bars_0 rfl (lv_at hl 1 rfl) ?_
  refine rdS (As := [.int th]) (rest := []) ⟨hx, hb, hml, hown, hts⟩ (k_X9_isThing l dC dI cI cZ cQ th) (va_cwS 1 hts gX9_bars_X9_isThing rfl rfl rfl (by decide +kernel) ⟨Nat.le_of_ble_eq_true rfl, Nat.le_of_ble_eq_true rfl⟩) hP hK hN [] rfl rfl hl.1 rfl (Nat.le_of_ble_eq_true rfl) dX9_bars_1 ⟨Nat.le_of_ble_eq_true rfl, Nat.le_of_ble_eq_true rfl⟩ (fun r1 h2 => ?_)
  have h2 : ((((r1 = 1) ∧ (0 ≤ th.toInt) ∧ (th.toInt ≤ 23)) ∨ ((r1 = 0) ∧ (th.toInt < 0 ∨ 23 < th.toInt)))) := h2
  rcases h2 with (⟨rfl, h2_a0, h2_a1⟩ | ⟨rfl, h2_a0⟩)
  · refine lv_if_eq (tgt := 14) hx hb dX9_bars_4 (by decide) (fun c9 => absurd c9 (by decide)) (fun _ => ?_)
    refine lv_iload_n hx hb dX9_bars_7 rfl (lv_at hl 2 rfl) ?_
    refine rdS (As := [.int co]) (rest := []) ⟨hx, hb, hml, hown, hts⟩ (k_X9_isCorner l dC dI cI cZ cQ co) (va_cwS 1 hts gX9_bars_X9_isCorner rfl rfl rfl (by decide +kernel) ⟨Nat.le_of_ble_eq_true rfl, Nat.le_of_ble_eq_true rfl⟩) hP hK hN [] rfl rfl hl.1 rfl (Nat.le_of_ble_eq_true rfl) dX9_bars_8 ⟨Nat.le_of_ble_eq_true rfl, Nat.le_of_ble_eq_true rfl⟩ (fun r3 h4 => ?_)
    have h4 : ((((r3 = 1) ∧ (0 ≤ co.toInt) ∧ (co.toInt ≤ 47)) ∨ ((r3 = 0) ∧ (co.toInt < 0 ∨ 47 < co.toInt)))) := h4
    rcases h4 with (⟨rfl, h4_a0, h4_a1⟩ | ⟨rfl, h4_a0⟩)
    · refine lv_if_ne (tgt := 17) hx hb dX9_bars_11 (by decide) (fun _ => ?_) (fun c9 => absurd c9 (by decide))
      refine lv_iconst (v := 0) hx hb dX9_bars_17 (by decide) ?_
      refine lv_istore_n (lv' := [(3, .int 0), (0, .ref (a 43)), (1, .int th), (2, .int co)]) hx hb dX9_bars_18 rfl hl (by decide) rfl (fun ls hl => ?_)
      have L30 : ∀ (y30_3 : Int32) (ls : Array Slot), (0 ≤ (y30_3.toInt)) → ((y30_3.toInt) ≤ 1) → (wgt (baR mos top co) 1 (y30_3.toInt)) → lv_has ls 4 [(0, .ref (a 43)), (1, .int th), (2, .int co), (3, .int y30_3)] → W p l e (headSpec wsX9_bars { frames := 4, cells := 0, slots := 0, locals := 87 }).room s m ([.ref (a 43), .int th, .int co] : List Value).toArray below meth c s.heap [] 0 0 (MQ below (QR (fun r : Int32 => (spBar (baR mos top co) (baA pto aga day co) (baP mar top apa th co) th co r))) ([.ref (a 43), .int th, .int co] : List Value).toArray s 0 0 (fun _ => False)) (F0 m 30 ls []) := by
        intro y30_3 ls i30_0 i30_1 i30_2 hl
        have L41 : ∀ (y41_3 : Int32) (ls : Array Slot), (0 ≤ (y41_3.toInt)) → ((y41_3.toInt) ≤ 3) → (∃ a b : Int, wgt (baR mos top co) 1 a ∧ wgt (baA pto aga day co) 2 b ∧ (y41_3.toInt) = a + b) → lv_has ls 4 [(0, .ref (a 43)), (1, .int th), (2, .int co), (3, .int y41_3)] → W p l e (headSpec wsX9_bars { frames := 4, cells := 0, slots := 0, locals := 87 }).room s m ([.ref (a 43), .int th, .int co] : List Value).toArray below meth c s.heap [] 0 0 (MQ below (QR (fun r : Int32 => (spBar (baR mos top co) (baA pto aga day co) (baP mar top apa th co) th co r))) ([.ref (a 43), .int th, .int co] : List Value).toArray s 0 0 (fun _ => False)) (F0 m 41 ls []) := by
          intro y41_3 ls i41_0 i41_1 i41_2 hl
          refine lv_aload_n hx hb dX9_bars_41 rfl (lv_at hl 0 rfl) ?_
          refine lv_iload_n hx hb dX9_bars_42 rfl (lv_at hl 1 rfl) ?_
          refine lv_iload_n hx hb dX9_bars_43 rfl (lv_at hl 2 rfl) ?_
          refine rdV (As := [.int th, .int co]) (rest := []) ⟨hx, hb, hml, hown, hts⟩ (k_X9_barredByApart2 l dC dI cI cZ cQ a rb0 rb1 rb2 db0 db1 db2 top str gho ghs pto cro pla wal fal tel gai day mar mos wev aga apa lin th co r_top r_str r_gho r_ghs r_cro r_pla r_fal r_gai r_day r_mar (by omega) (by omega) (by omega) (by omega)) (cwV 2 hts gX9_bars_X9_barredByApart rfl rfl rfl (by decide +kernel) ⟨Nat.le_of_ble_eq_true rfl, Nat.le_of_ble_eq_true rfl⟩) hP hK hN [0, 1, 2, 3, 4, 5, 6, 7, 8, 9, 10, 11, 12, 13, 14, 15] rfl 0 9 rfl rfl rfl hl.1 rfl (Nat.le_of_ble_eq_true rfl) dX9_bars_44 ⟨Nat.le_of_ble_eq_true rfl, Nat.le_of_ble_eq_true rfl⟩ (fun r5 h6 => ?_)
          have h6 : ((((r5 = 1) ∧ (baP mar top apa th co)) ∨ ((r5 = 0) ∧ (¬ baP mar top apa th co)))) := h6
          rcases h6 with (⟨rfl, h6_a0⟩ | ⟨rfl, h6_a0⟩)
          · refine lv_if_eq (tgt := 53) hx hb dX9_bars_47 (by decide) (fun c9 => absurd c9 (by decide)) (fun _ => ?_)
            obtain ⟨z7, ez7⟩ : ∃ y : Int32, y = y41_3 + 4 := ⟨_, rfl⟩
            have iz7 : z7.toInt = y41_3.toInt + 4 := by rw [ez7]; exact addC rfl rfl (by omega) (by omega)
            refine lv_iinc (v := z7) (lv' := [(3, .int z7), (0, .ref (a 43)), (1, .int th), (2, .int co)]) hx hb dX9_bars_50 hl (k := 3) rfl (by rw [ez7]; rfl) (by decide) rfl (fun ls hl => ?_)
            refine lv_iload_n hx hb dX9_bars_53 rfl (lv_at hl 0 rfl) ?_
            exact W.iret (v := z7) hx hb hr (fun tq ht hW => ⟨z7, rfl, (show spBar (baR mos top co) (baA pto aga day co) (baP mar top apa th co) th co z7 from by (first | exact Or.inl ⟨by omega, rfl⟩ | exact Or.inr ⟨by omega, br3 i41_2 (Or.inl ⟨by assumption, rfl⟩) (by omega)⟩ | exact Or.inr ⟨by omega, br3 i41_2 (Or.inr ⟨by assumption, rfl⟩) (by omega)⟩)), ht⟩) (fun q h => by cases h) dX9_bars_54
          · refine lv_if_eq (tgt := 53) hx hb dX9_bars_47 (by decide) (fun _ => ?_) (fun c9 => absurd (by decide) c9)
            refine lv_iload_n hx hb dX9_bars_53 rfl (lv_at hl 3 rfl) ?_
            exact W.iret (v := y41_3) hx hb hr (fun tq ht hW => ⟨y41_3, rfl, (show spBar (baR mos top co) (baA pto aga day co) (baP mar top apa th co) th co y41_3 from by (first | exact Or.inl ⟨by omega, rfl⟩ | exact Or.inr ⟨by omega, br3 i41_2 (Or.inl ⟨by assumption, rfl⟩) (by omega)⟩ | exact Or.inr ⟨by omega, br3 i41_2 (Or.inr ⟨by assumption, rfl⟩) (by omega)⟩)), ht⟩) (fun q h => by cases h) dX9_bars_54
        refine lv_aload_n hx hb dX9_bars_30 rfl (lv_at hl 0 rfl) ?_
        refine lv_iload_n hx hb dX9_bars_31 rfl (lv_at hl 2 rfl) ?_
        refine rdV (As := [.int co]) (rest := []) ⟨hx, hb, hml, hown, hts⟩ (k_X9_barredByAgain2 l dC dI cI cZ cQ a rb0 rb1 rb2 db0 db1 db2 top str gho ghs pto cro pla wal fal tel gai day mar mos wev aga apa lin co r_top r_str r_gho r_ghs r_cro r_pla r_fal r_gai r_day r_mar (by omega) (by omega)) (cwV 1 hts gX9_bars_X9_barredByAgain rfl rfl rfl (by decide +kernel) ⟨Nat.le_of_ble_eq_true rfl, Nat.le_of_ble_eq_true rfl⟩) hP hK hN [0, 1, 2, 3, 4, 5, 6, 7, 8, 9, 10, 11, 12, 13, 14, 15] rfl 0 9 rfl rfl rfl hl.1 rfl (Nat.le_of_ble_eq_true rfl) dX9_bars_32 ⟨Nat.le_of_ble_eq_true rfl, Nat.le_of_ble_eq_true rfl⟩ (fun r8 h9 => ?_)
        have h9 : ((((r8 = 1) ∧ (baA pto aga day co)) ∨ ((r8 = 0) ∧ (¬ baA pto aga day co)))) := h9
        rcases h9 with (⟨rfl, h9_a0⟩ | ⟨rfl, h9_a0⟩)
        · refine lv_if_eq (tgt := 41) hx hb dX9_bars_35 (by decide) (fun c9 => absurd c9 (by decide)) (fun _ => ?_)
          obtain ⟨z10, ez10⟩ : ∃ y : Int32, y = y30_3 + 2 := ⟨_, rfl⟩
          have iz10 : z10.toInt = y30_3.toInt + 2 := by rw [ez10]; exact addC rfl rfl (by omega) (by omega)
          refine lv_iinc (v := z10) (lv' := [(3, .int z10), (0, .ref (a 43)), (1, .int th), (2, .int co)]) hx hb dX9_bars_38 hl (k := 3) rfl (by rw [ez10]; rfl) (by decide) rfl (fun ls hl => ?_)
          exact L41 z10 _ (by omega) (by omega) (by (first | exact cau2 i30_2 (Or.inl ⟨by assumption, rfl⟩) (by omega) | exact cau2 i30_2 (Or.inr ⟨by assumption, rfl⟩) (by omega))) (lv_sub hl [1, 2, 3, 0] rfl)
        · refine lv_if_eq (tgt := 41) hx hb dX9_bars_35 (by decide) (fun _ => ?_) (fun c9 => absurd (by decide) c9)
          exact L41 y30_3 _ (by omega) (by omega) (by (first | exact cau2 i30_2 (Or.inl ⟨by assumption, rfl⟩) (by omega) | exact cau2 i30_2 (Or.inr ⟨by assumption, rfl⟩) (by omega))) (lv_sub hl [0, 1, 2, 3] rfl)
      refine lv_aload_n hx hb dX9_bars_19 rfl (lv_at hl 1 rfl) ?_
      refine lv_iload_n hx hb dX9_bars_20 rfl (lv_at hl 3 rfl) ?_
      refine rdV (As := [.int co]) (rest := []) ⟨hx, hb, hml, hown, hts⟩ (k_X9_barredByRoom2 l dC dI cI cZ cQ a rb0 rb1 rb2 db0 db1 db2 top str gho ghs pto cro pla wal fal tel gai day mar mos wev aga apa lin co r_top r_str r_gho r_ghs r_cro r_pla r_fal r_gai r_day r_mar (by omega) (by omega)) (cwV 1 hts gX9_bars_X9_barredByRoom rfl rfl rfl (by decide +kernel) ⟨Nat.le_of_ble_eq_true rfl, Nat.le_of_ble_eq_true rfl⟩) hP hK hN [0, 1, 2, 3, 4, 5, 6, 7, 8, 9, 10, 11, 12, 13, 14, 15] rfl 0 9 rfl rfl rfl hl.1 rfl (Nat.le_of_ble_eq_true rfl) dX9_bars_21 ⟨Nat.le_of_ble_eq_true rfl, Nat.le_of_ble_eq_true rfl⟩ (fun r11 h12 => ?_)
      have h12 : ((((r11 = 1) ∧ (baR mos top co)) ∨ ((r11 = 0) ∧ (¬ baR mos top co)))) := h12
      rcases h12 with (⟨rfl, h12_a0⟩ | ⟨rfl, h12_a0⟩)
      · refine lv_if_eq (tgt := 30) hx hb dX9_bars_24 (by decide) (fun c9 => absurd c9 (by decide)) (fun _ => ?_)
        obtain ⟨z13, ez13⟩ : ∃ y : Int32, y = 0 + 1 := ⟨_, rfl⟩
        have iz13 : z13.toInt = 0 + 1 := by rw [ez13]; exact addC (show (0 : Int32).toInt = 0 from rfl) rfl (by omega) (by omega)
        refine lv_iinc (v := z13) (lv' := [(3, .int z13), (0, .ref (a 43)), (1, .int th), (2, .int co)]) hx hb dX9_bars_27 hl (k := 0) rfl (by rw [ez13]; rfl) (by decide) rfl (fun ls hl => ?_)
        exact L30 z13 _ (by omega) (by omega) (by (first | exact Or.inl ⟨by assumption, by first | rfl | omega⟩ | exact Or.inr ⟨by assumption, by first | rfl | omega⟩)) (lv_sub hl [1, 2, 3, 0] rfl)
      · refine lv_if_eq (tgt := 30) hx hb dX9_bars_24 (by decide) (fun _ => ?_) (fun c9 => absurd (by decide) c9)
        have kc14 : (0 : Int32).toInt = 0 := rfl
        exact L30 0 _ (by omega) (by omega) (by (first | exact Or.inl ⟨by assumption, by first | rfl | omega⟩ | exact Or.inr ⟨by assumption, by first | rfl | omega⟩)) (lv_sub hl [1, 2, 3, 0] rfl)
    · refine lv_if_ne (tgt := 17) hx hb dX9_bars_11 (by decide) (fun c9 => absurd (by decide) c9) (fun _ => ?_)
      refine lv_bipush (v := (-2)) hx hb dX9_bars_14 (by decide) ?_
      exact W.iret (v := (-2)) hx hb hr (fun tq ht hW => ⟨(-2), rfl, (show spBar (baR mos top co) (baA pto aga day co) (baP mar top apa th co) th co ((-2) : Int32) from by (try rw [show ((-2) : Int32).toInt = (-2) from (show ((-2) : Int32).toInt = (-2) from rfl)]); (first | exact Or.inl ⟨by omega, rfl⟩ | exact Or.inr ⟨by omega, br3 i41_2 (Or.inl ⟨by assumption, rfl⟩) (by omega)⟩ | exact Or.inr ⟨by omega, br3 i41_2 (Or.inr ⟨by assumption, rfl⟩) (by omega)⟩)), ht⟩) (fun q h => by cases h) dX9_bars_16
  · refine lv_if_eq (tgt := 14) hx hb dX9_bars_4 (by decide) (fun _ => ?_) (fun c9 => absurd (by decide) c9)
    refine lv_bipush (v := (-2)) hx hb dX9_bars_14 (by decide) ?_
    exact W.iret (v := (-2)) hx hb hr (fun tq ht hW => ⟨(-2), rfl, (show spBar (baR mos top co) (baA pto aga day co) (baP mar top apa th co) th co ((-2) : Int32) from by (try rw [show ((-2) : Int32).toInt = (-2) from (show ((-2) : Int32).toInt = (-2) from rfl)]); (first | exact Or.inl ⟨by omega, rfl⟩ | exact Or.inr ⟨by omega, br3 i41_2 (Or.inl ⟨by assumption, rfl⟩) (by omega)⟩ | exact Or.inr ⟨by omega, br3 i41_2 (Or.inr ⟨by assumption, rfl⟩) (by omega)⟩)), ht⟩) (fun q h => by cases h) dX9_bars_16
set_option maxHeartbeats 4000000 in
set_option maxRecDepth 100000 in
theorem k_X10_isTooLike2 (l : Launch) (dC : Nat → ClassId) (dI : Nat → Nat → Nat) (cI cZ cQ : ClassId) (b : Nat → Nat) (mday : Int32) (mdoo : Int32) (mdA : Nat → Int32) (mdB : Nat → Int32) (mfar : Nat → Int32) (mmar : Nat → Int32) (mtel : Int32) (mgai : Int32) (mfal : Nat → Int32) (mtop : Nat → Int32) (mstr : Nat → Int32) (mgho : Nat → Int32) (mfai : Nat → Int32) (mpto : Nat → Int32) (mwal : Nat → Int32) (mahd : Nat → Int32) (mahf : Nat → Int32) (mcho : Nat → Int32) (mbes : Nat → Int32) (mbyt : Int32) (mtxt : Nat → Int32) (mpos : Int32) (mtka : Int32) (mtok : Int64) (mdig : Int32) (mnum : Int32) (mfau : Int32) (mrdm : Int32) (mrea : Nat → Int32) (mlin : Int32) (mlne : Nat → Int32) (mthg : Nat → Int32) (mord : Nat → Int32) (mbor : Nat → Int32) (mbsm : Int32) (mans : Nat → Int32) (mand : Nat → Int32) (manr : Nat → Int32) (mali : Nat → Int32) (t : Int32) (co : Int32) (ap : Int32) (r_mday : 0 ≤ mday.toInt ∧ mday.toInt ≤ 400) (r_mdoo : 0 ≤ mdoo.toInt ∧ mdoo.toInt ≤ 14) (r_mdA : rg 14 (0) (7) mdA) (r_mdB : rg 14 (0) (7) mdB) (r_mmar : rg 24 (0) (255) mmar) (r_mgai : 0 ≤ mgai.toInt ∧ mgai.toInt ≤ 100) (r_mfal : rg 11 (0) (30) mfal) (r_mtop : rg 48 (-1) (23) mtop) (r_mstr : rg 48 (0) (100) mstr) (r_mgho : rg 48 (-1) (23) mgho) (r_mfai : rg 48 (0) (100) mfai) (r_mahd : rg 240 (0) (100) mahd) (r_mahf : rg 240 (0) (100) mahf) (r_mcho : rg 5 (-1) (9) mcho) (r_mbyt : 0 ≤ mbyt.toInt ∧ mbyt.toInt ≤ 160) (r_mpos : 0 ≤ mpos.toInt ∧ mpos.toInt ≤ 160) (r_mrdm : 0 ≤ mrdm.toInt ∧ mrdm.toInt ≤ 10) (r_mlin : 0 ≤ mlin.toInt ∧ mlin.toInt ≤ 10) (r_mthg : rg 8 (0) (31) mthg) (r_mord : rg 8 (-1) (8) mord) (r_mans : rg 4 (0) (12) mans) (q0 : 0 ≤ t.toInt) (q1 : t.toInt ≤ 23) (q2 : 0 ≤ co.toInt) (q3 : co.toInt ≤ 47) : KR l yX10_isTooLike wsX10_isTooLike { frames := 1, cells := 0, slots := 0, locals := 25 } (dC, dI) (TY cI cZ cQ) (wMod cI cZ cQ b mday mdoo mdA mdB mfar mmar mtel mgai mfal mtop mstr mgho mfai mpto mwal mahd mahf mcho mbes mbyt mtxt mpos mtka mtok mdig mnum mfau mrdm mrea mlin mlne mthg mord mbor mbsm mans mand manr mali) [.ref (b 39), .int t, .int co, .int ap] (fun r : Int32 => ((((r = 1) ∧ (tlM mmar mtop t co.toNatClampNeg ap)) ∨ ((r = 0) ∧ (¬ tlM mmar mtop t co.toNatClampNeg ap))))) := by
  refine Met.ofW (cc := cX10_isTooLike) (maxL := 4) (ret := (some .boolean)) (by decide) rfl ?_
  intro p e s m args below meth c s₁ B hml hv
  obtain ⟨rfl, hP, hK, hN⟩ := hv
  have hx := B.exec
  have hb := B.bytes
  have hr := B.returns
  have hts := atoms_spec (ws := wsX10_isTooLike) B.pre
  have hown : s.vm.findClass RX10 = some m.cls := findClass_of_methodNamed B.named
  have hlocks := B.notSynchronized
  have lf32 := hts (.fieldLink RX10 32 "PalaceOfRoomsModel" "top" "[I") (by decide +kernel)
  have inX10 : ∀ w ∈ wsX100, w ∈ wsX10_isTooLike := by decide +kernel
  have hl := lv_entry ([.ref (b 39), .int t, .int co, .int ap]) (n := 4) (Nat.le_of_ble_eq_true rfl)
  rw [lg_entry_eq]
  generalize (lg_sl ([.ref (b 39), .int t, .int co, .int ap]) ++ List.replicate (4 - (lg_sl ([.ref (b 39), .int t, .int co, .int ap])).length) Slot.unset).toArray = ls at hl ⊢
  have hl : lv_has ls 4 [(0, .ref (b 39)), (1, .int t), (2, .int co), (3, .int ap)] := hl
  refine lv_aload_n hx hb dX10_isTooLike_0 rfl (lv_at hl 0 rfl) ?_
  refine va_get (D := (dC, dI)) (ci := 10) (v := .ref (b 9)) (C := RX10) (T := TX10) (N := 39) hx hb hts inX10 hown hK hP 0 rfl rfl 9 (by decide) lf32 (fun _ h9 => h9) rfl dX10_isTooLike_1 ?_
  refine lv_iload_n hx hb dX10_isTooLike_4 rfl (lv_at hl 2 rfl) ?_
  have b1 : vp_in co 48 := inC rfl (by omega) (by omega)
  refine va_iald hx hb hK hP 6 0 rfl rfl b1 dX10_isTooLike_5 ?_
  have g2 : -1 ≤ (mtop co.toNatClampNeg).toInt ∧ (mtop co.toNatClampNeg).toInt ≤ 23 := rg_at r_mtop b1
  refine lv_iconst (v := (-1)) hx hb dX10_isTooLike_6 (by decide) ?_
  refine lv_icmp_eq (tgt := 29) hx hb dX10_isTooLike_7 (by decide) (fun c3 => ?_) (fun c3 => ?_)
  · have dc3 : (mtop co.toNatClampNeg).toInt = (-1) := eqC rfl (show ((-1) : Int32).toInt = (-1) from rfl) c3
    refine lv_iconst (v := 0) hx hb dX10_isTooLike_29 (by decide) ?_
    exact W.zret (v := 0) hx hb hr (by decide) (fun tq ht hW => ⟨0, rfl, (Or.inr (⟨rfl, (show ¬ tlM mmar mtop t co.toNatClampNeg ap from by (try rw [show (0 : Int32).toInt = 0 from (show (0 : Int32).toInt = 0 from rfl)]); (first | exact tlm_y (by assumption) (by assumption) (by omega) | exact fun q => q.1 (by assumption) | exact tlm_n (by assumption) (by omega)))⟩)), ht⟩) (fun q h => by cases h) dX10_isTooLike_30
  · have dc3 : 0 ≤ (mtop co.toNatClampNeg).toInt := ka_lo (by omega) (neC rfl (show ((-1) : Int32).toInt = (-1) from rfl) c3)
    refine lv_aload_n hx hb dX10_isTooLike_10 rfl (lv_at hl 0 rfl) ?_
    refine lv_aload_n hx hb dX10_isTooLike_11 rfl (lv_at hl 0 rfl) ?_
    refine va_get (D := (dC, dI)) (ci := 10) (v := .ref (b 9)) (C := RX10) (T := TX10) (N := 39) hx hb hts inX10 hown hK hP 0 rfl rfl 9 (by decide) lf32 (fun _ h9 => h9) rfl dX10_isTooLike_12 ?_
    refine lv_iload_n hx hb dX10_isTooLike_15 rfl (lv_at hl 2 rfl) ?_
    have b4 : vp_in co 48 := inC rfl (by omega) (by omega)
    refine va_iald hx hb hK hP 6 0 rfl rfl b4 dX10_isTooLike_16 ?_
    have g5 : -1 ≤ (mtop co.toNatClampNeg).toInt ∧ (mtop co.toNatClampNeg).toInt ≤ 23 := rg_at r_mtop b4
    refine lv_iload_n hx hb dX10_isTooLike_17 rfl (lv_at hl 1 rfl) ?_
    refine rdV (As := [.int (mtop co.toNatClampNeg), .int t]) (rest := []) ⟨hx, hb, hml, hown, hts⟩ (k_X10_likeness l dC dI cI cZ cQ b mday mdoo mdA mdB mfar mmar mtel mgai mfal mtop mstr mgho mfai mpto mwal mahd mahf mcho mbes mbyt mtxt mpos mtka mtok mdig mnum mfau mrdm mrea mlin mlne mthg mord mbor mbsm mans mand manr mali (mtop co.toNatClampNeg) t r_mday r_mdoo r_mdA r_mdB r_mmar r_mgai r_mfal r_mtop r_mstr r_mgho r_mfai r_mahd r_mahf r_mcho r_mbyt r_mpos r_mrdm r_mlin r_mthg r_mord r_mans (by omega) (by omega) (by omega) (by omega)) (cwV 2 hts gX10_isTooLike_X10_likeness rfl rfl rfl (by decide +kernel) ⟨Nat.le_of_ble_eq_true rfl, Nat.le_of_ble_eq_true rfl⟩) hP hK hN [0, 1, 2, 3, 4, 5, 6, 7, 8, 9, 10, 11, 12, 13, 14, 15, 16, 17, 18, 19, 20, 21, 22, 23, 24, 25] rfl 0 10 rfl rfl rfl hl.1 rfl (Nat.le_of_ble_eq_true rfl) dX10_isTooLike_18 ⟨Nat.le_of_ble_eq_true rfl, Nat.le_of_ble_eq_true rfl⟩ (fun r6 h7 => ?_)
    have h7 : (r6 = bc (mmar (mtop co.toNatClampNeg).toNatClampNeg &&& mmar t.toNatClampNeg)) := h7
    have h7_0 := h7
    refine lv_iload_n hx hb dX10_isTooLike_21 rfl (lv_at hl 3 rfl) ?_
    refine lv_icmp_le (tgt := 29) hx hb dX10_isTooLike_22 (by decide) (fun c8 => ?_) (fun c8 => ?_)
    · have dc8 : r6.toInt ≤ ap.toInt := leC rfl rfl c8
      refine lv_iconst (v := 0) hx hb dX10_isTooLike_29 (by decide) ?_
      exact W.zret (v := 0) hx hb hr (by decide) (fun tq ht hW => ⟨0, rfl, (Or.inr (⟨rfl, (show ¬ tlM mmar mtop t co.toNatClampNeg ap from by (try rw [show (0 : Int32).toInt = 0 from (show (0 : Int32).toInt = 0 from rfl)]); (first | exact tlm_y (by assumption) (by assumption) (by omega) | exact fun q => q.1 (by assumption) | exact tlm_n (by assumption) (by omega)))⟩)), ht⟩) (fun q h => by cases h) dX10_isTooLike_30
    · have dc8 : ap.toInt < r6.toInt := nleC rfl rfl c8
      refine lv_iconst (v := 1) hx hb dX10_isTooLike_25 (by decide) ?_
      refine lv_goto (tgt := 30) hx hb dX10_isTooLike_26 (by decide) ?_
      exact W.zret (v := 1) hx hb hr (by decide) (fun tq ht hW => ⟨1, rfl, (Or.inl (⟨rfl, (show tlM mmar mtop t co.toNatClampNeg ap from by (try rw [show (1 : Int32).toInt = 1 from (show (1 : Int32).toInt = 1 from rfl)]); (first | exact tlm_y (by assumption) (by assumption) (by omega) | exact fun q => q.1 (by assumption) | exact tlm_n (by assumption) (by omega)))⟩)), ht⟩) (fun q h => by cases h) dX10_isTooLike_30
