set_option maxHeartbeats 4000000 in
set_option maxRecDepth 100000 in
theorem k_X3_seek2_2 (l : Launch) (dC : Nat → ClassId) (dI : Nat → Nat → Nat) (cI cZ cQ : ClassId) (a : Nat → Nat) (min : Nat → Int32) (tri : Nat → Int32) (bes : Nat → Int32) (wkd : Nat → Int32) (cos : Nat → Int32) (rst : Nat → Int32) (bst : Int32) (top : Nat → Int32) (str : Nat → Int32) (gho : Nat → Int32) (ghs : Nat → Int32) (pto : Nat → Int32) (cro : Nat → Int32) (pla : Nat → Int32) (wal : Nat → Int32) (fal : Nat → Int32) (tel : Int32) (gai : Int32) (day : Int32) (mar : Nat → Int32) (few : Nat → Int32) (doo : Int32) (sz : Nat) (i : Int32) (n : Int32) (al : Int32) (r_wkd : rg 8 (0) (15) wkd) (r_top : rg 48 (-1) (23) top) (r_str : rg 48 (0) (100) str) (r_gho : rg 48 (-1) (23) gho) (r_ghs : rg 48 (0) (100) ghs) (r_cro : rg 48 (0) (6) cro) (r_pla : rg 24 (-1) (47) pla) (r_fal : rg 11 (0) (30) fal) (r_gai : 0 ≤ gai.toInt ∧ gai.toInt ≤ 100) (r_day : 0 ≤ day.toInt ∧ day.toInt ≤ 400) (r_mar : rg 24 (0) (255) mar) (q0 : 2 ≤ i.toInt) (q1 : i.toInt ≤ 4) (q2 : 1 ≤ n.toInt) (q3 : n.toInt ≤ 4) (q4 : rsI rst mar fal top str tel gai.toInt n.toInt.toNat) (q5 : skI cos min rst n.toInt.toNat i.toInt al.toInt tri wkd) (q6 : pbI (okC cos min n.toInt.toNat) (vlC mar fal top str tel gai.toInt n.toInt.toNat) n.toInt.toNat (atN tri n.toInt.toNat i.toInt) bst.toInt bes) : KV l yX3_seek wsX3_seek { frames := 4, cells := 0, slots := 0, locals := 115 } (dC, dI) (TY cI cZ cQ) (wPln cI cZ cQ a min tri bes wkd cos rst bst top str gho ghs pto cro pla wal fal tel gai day mar few doo) [.ref (a 16), .int i, .int n, .int al] sz 0 0 (fun (u : US) => (ksI i.toInt tri wkd (u.1 0) (u.1 2)) ∧ (pbI (okC cos min n.toInt.toNat) (vlC mar fal top str tel gai.toInt n.toInt.toNat) n.toInt.toNat (toN tri n.toInt.toNat i.toInt) (u.1 3 0).toInt (u.1 1)) ∧ (rg 8 (0) (15) (u.1 2))) (fun u : US => (wPln cI cZ cQ a min (u.1 0) (u.1 1) (u.1 2) cos rst (u.1 3 0) top str gho ghs pto cro pla wal fal tel gai day mar few doo)) := by
  refine Met.ofW (cc := cX3_seek) (maxL := 8) (ret := none) (by decide) rfl ?_
  intro p e s m args below meth c s₁ B hml hv
  obtain ⟨rfl, hsz, hP, hK, hD0, hN⟩ := hv
  have hx := B.exec
  have hb := B.bytes
  have hr := B.returns
  have hts := atoms_spec (ws := wsX3_seek) B.pre
  have hown : s.vm.findClass RX3 = some m.cls := findClass_of_methodNamed B.named
  have hlocks := B.notSynchronized
  have lf15 := hts (.fieldLink RX3 15 "PalaceOfRooms$Planner" "trial" "[I") (by decide +kernel)
  have inX3 : ∀ w ∈ wsX30, w ∈ wsX3_seek := by decide +kernel
  have lf21 := hts (.fieldLink RX3 21 "PalaceOfRooms$Planner" "walkedDays" "[I") (by decide +kernel)
  have lf27 := hts (.fieldLink RX3 27 "PalaceOfRooms$Planner" "roomStrength" "[I") (by decide +kernel)
  subst hsz
  have hD := hD0.self (sz := s.heap.size)
  generalize hAe : va_A (wPln cI cZ cQ a min tri bes wkd cos rst bst top str gho ghs pto cro pla wal fal tel gai day mar few doo) s.heap.size = A at hD ⊢
  have hA : ∀ q : Nat, s.heap.size ≤ q → A q := fun q h => by rw [← hAe]; exact Or.inr h
  have hS : va_S A s.heap s.heap [] := va_S.rf
  have hl := lv_entry ([.ref (a 16), .int i, .int n, .int al]) (n := 8) (Nat.le_of_ble_eq_true rfl)
  rw [lg_entry_eq]
  generalize (lg_sl ([.ref (a 16), .int i, .int n, .int al]) ++ List.replicate (8 - (lg_sl ([.ref (a 16), .int i, .int n, .int al])).length) Slot.unset).toArray = ls at hl ⊢
  have hl : lv_has ls 8 [(0, .ref (a 16)), (1, .int i), (2, .int n), (3, .int al)] := hl
  refine lv_iload_n hx hb dX3_seek_0 rfl (lv_at hl 1 rfl) ?_
  refine lv_iload_n hx hb dX3_seek_1 rfl (lv_at hl 2 rfl) ?_
  refine lv_icmp_ge (tgt := 10) hx hb dX3_seek_2 (by decide) (fun c1 => ?_) (fun c1 => ?_)
  · have dc1 : n.toInt ≤ i.toInt := leC rfl rfl c1
    refine lv_aload_n hx hb dX3_seek_10 rfl (lv_at hl 0 rfl) ?_
    refine lv_iload_n hx hb dX3_seek_11 rfl (lv_at hl 3 rfl) ?_
    refine wvV (As := [.int al]) (rest := []) (wr := []) (w2 := (fun u : US => (wPln cI cZ cQ a min tri (u.1 1) wkd cos rst (u.1 0 0) top str gho ghs pto cro pla wal fal tel gai day mar few doo))) ⟨hx, hb, hml, hown, hts⟩ (k_X3_keepIfStronger2 l dC dI cI cZ cQ a min tri bes wkd cos rst bst top str gho ghs pto cro pla wal fal tel gai day mar few doo _ al r_wkd r_top r_str r_gho r_ghs r_cro r_pla r_fal r_gai r_day r_mar) (cwV 1 hts gX3_seek_X3_keepIfStronger rfl rfl rfl (by decide +kernel) ⟨Nat.le_of_ble_eq_true rfl, Nat.le_of_ble_eq_true rfl⟩) hP hD hS hA hK hN [0, 1, 2, 3, 4, 5, 6, 7, 8, 9, 10, 11, 12, 13, 14, 15, 16, 17, 18, 19, 20] [] [0, 1, 2, 3, 4, 5, 6, 7, 8, 9, 10, 11, 12, 13, 14, 15, 16, 17, 18, 19, 20] rfl rfl (by decide) (by decide) (by decide) (fun _ => rfl) (by decide) 0 3 rfl rfl rfl hl.1 rfl (Nat.le_of_ble_eq_true rfl) dX3_seek_12 ⟨Nat.le_of_ble_eq_true rfl, Nat.le_of_ble_eq_true rfl⟩ (fun u4 H locs h3 hP hD hS => ?_)
    obtain ⟨bst_c5, ebst_c5⟩ : ∃ f : Int32, f = (u4.1 0 0) := ⟨_, rfl⟩
    obtain ⟨bes_c6, ebes_c6⟩ : ∃ f : Nat → Int32, f = (u4.1 1) := ⟨_, rfl⟩
    have hP : va_P (dC, dI) vwCl (wPln cI cZ cQ a min tri bes_c6 wkd cos rst bst_c5 top str gho ghs pto cro pla wal fal tel gai day mar few doo) H := by rw [ebst_c5, ebes_c6]; exact hP
    have hD : va_D A (wPln cI cZ cQ a min tri bes_c6 wkd cos rst bst_c5 top str gho ghs pto cro pla wal fal tel gai day mar few doo) := by rw [ebst_c5, ebes_c6]; exact hD
    have h3 : ((bst.toInt < al.toInt → bst_c5 = al ∧ ∀ j : Nat, j < 4 → bes_c6 j = tri j) ∧ (al.toInt ≤ bst.toInt → bst_c5 = bst ∧ bes_c6 = bes)) := by (try rw [ebst_c5]); (try rw [ebes_c6]); exact h3
    have h3_0 := h3
    exact W.vret hx hb hr (fun tq ht hW => ⟨⟨(uS [tri, bes_c6, wkd, (fun _ => bst_c5)] 0 (fun _ => 0)), rfl, ⟨(show ksI i.toInt tri wkd tri wkd from by (first | exact ks_0 | exact ks_8 i19_2 (by assumption) (by assumption) (by omega) (by omega))), (show pbI (okC cos min n.toInt.toNat) (vlC mar fal top str tel gai.toInt n.toInt.toNat) n.toInt.toNat (toN tri n.toInt.toNat i.toInt) bst_c5.toInt bes_c6 from by (first | exact sk_leaf q6 q5 q4 r_wkd (by omega) (by assumption) | exact pb_e (by assumption) (to_8 i19_2 (by assumption) (by omega) (by omega) (by omega)))), r_wkd⟩, by rw [ht]; exact hP, hD⟩, hS.F ht⟩) hS.2.2 dX3_seek_15
  · have dc1 : i.toInt < n.toInt := nleC rfl rfl c1
    refine lv_iload_n hx hb dX3_seek_5 rfl (lv_at hl 1 rfl) ?_
    refine lv_iconst (v := 4) hx hb dX3_seek_6 (by decide) ?_
    refine lv_icmp_lt (tgt := 16) hx hb dX3_seek_7 (by decide) (fun c7 => ?_) (fun c7 => ?_)
    · have dc7 : i.toInt < 4 := ltC rfl (show (4 : Int32).toInt = 4 from rfl) c7
      refine lv_iconst (v := 0) hx hb dX3_seek_16 (by decide) ?_
      refine lv_istore (lv' := [(4, .int 0), (0, .ref (a 16)), (1, .int i), (2, .int n), (3, .int al)]) hx hb dX3_seek_17 hl (by decide) rfl (fun ls hl => ?_)
      have L19 : ∀ (nn : Nat) (y19_4 : Int32) (tri_19 : Nat → Int32) (bes_19 : Nat → Int32) (wkd_19 : Nat → Int32) (bst_19 : Int32) (H : Heap) (locs : List Loc) (ls : Array Slot), (rg 8 (0) (15) wkd_19) → (0 ≤ (y19_4.toInt)) → ((y19_4.toInt) ≤ 8) → (ksI i.toInt tri wkd tri_19 wkd_19) → (pbI (okC cos min n.toInt.toNat) (vlC mar fal top str tel gai.toInt n.toInt.toNat) n.toInt.toNat (atY tri n.toInt.toNat i.toInt (y19_4.toInt)) bst_19.toInt bes_19) → (8 - (y19_4.toInt)).toNat < nn → va_P (dC, dI) vwCl (wPln cI cZ cQ a min tri_19 bes_19 wkd_19 cos rst bst_19 top str gho ghs pto cro pla wal fal tel gai day mar few doo) H → va_D A (wPln cI cZ cQ a min tri_19 bes_19 wkd_19 cos rst bst_19 top str gho ghs pto cro pla wal fal tel gai day mar few doo) → va_S A s.heap H locs → lv_has ls 8 [(0, .ref (a 16)), (1, .int i), (2, .int n), (3, .int al), (4, .int y19_4)] → W p l e (headSpec wsX3_seek { frames := 4, cells := 0, slots := 0, locals := 115 }).room s m ([.ref (a 16), .int i, .int n, .int al] : List Value).toArray below meth c H locs 0 0 (MQ below (va_Qv (fun (u : US) => (ksI i.toInt tri wkd (u.1 0) (u.1 2)) ∧ (pbI (okC cos min n.toInt.toNat) (vlC mar fal top str tel gai.toInt n.toInt.toNat) n.toInt.toNat (toN tri n.toInt.toNat i.toInt) (u.1 3 0).toInt (u.1 1)) ∧ (rg 8 (0) (15) (u.1 2))) (Bw (dC, dI) A (fun u : US => (wPln cI cZ cQ a min (u.1 0) (u.1 1) (u.1 2) cos rst (u.1 3 0) top str gho ghs pto cro pla wal fal tel gai day mar few doo))) A) ([.ref (a 16), .int i, .int n, .int al] : List Value).toArray s 0 0 A) (F0 m 19 ls []) := by
        intro nn
        induction nn with
        | zero =>
          intro y19_4 tri_19 bes_19 wkd_19 bst_19 H locs ls r_wkd_19 i19_0 i19_1 i19_2 i19_3 hm19
          exact absurd hm19 (Nat.not_lt_zero _)
        | succ nn ih19 =>
          intro y19_4 tri_19 bes_19 wkd_19 bst_19 H locs ls r_wkd_19 i19_0 i19_1 i19_2 i19_3 hm19 hP hD hS hl
          refine lv_iload hx hb dX3_seek_19 (lv_at hl 4 rfl) ?_
          refine lv_bipush (v := 8) hx hb dX3_seek_21 (by decide) ?_
          refine lv_icmp_ge (tgt := 126) hx hb dX3_seek_23 (by decide) (fun c8 => ?_) (fun c8 => ?_)
          · have dc8 : 8 ≤ y19_4.toInt := leC (show (8 : Int32).toInt = 8 from rfl) rfl c8
            refine lv_aload_n hx hb dX3_seek_126 rfl (lv_at hl 0 rfl) ?_
            refine va_get (D := (dC, dI)) (ci := 3) (v := .ref (a 18)) (C := RX3) (T := TX3) (N := 9) hx hb hts inX3 hown hK hP 0 rfl rfl 3 (by decide) lf15 (fun _ h9 => h9) rfl dX3_seek_127 ?_
            refine lv_iload_n hx hb dX3_seek_130 rfl (lv_at hl 1 rfl) ?_
            refine lv_bipush (v := 8) hx hb dX3_seek_131 (by decide) ?_
            have b9 : vp_in i 4 := inC rfl (by omega) (by omega)
            refine va_iast hx hb hK hP hD hS 2 0 rfl rfl b9 dX3_seek_133 (fun H locs hP hD hS => ?_)
            obtain ⟨tri_u10, etri_u10⟩ : ∃ f : Nat → Int32, f = upd tri_19 i.toNatClampNeg 8 := ⟨_, rfl⟩
            have hP : va_P (dC, dI) vwCl (wPln cI cZ cQ a min tri_u10 bes_19 wkd_19 cos rst bst_19 top str gho ghs pto cro pla wal fal tel gai day mar few doo) H := by rw [etri_u10]; exact hP
            have hD : va_D A (wPln cI cZ cQ a min tri_u10 bes_19 wkd_19 cos rst bst_19 top str gho ghs pto cro pla wal fal tel gai day mar few doo) := by rw [etri_u10]; exact hD
            refine lv_aload_n hx hb dX3_seek_134 rfl (lv_at hl 0 rfl) ?_
            refine lv_iload_n hx hb dX3_seek_135 rfl (lv_at hl 1 rfl) ?_
            refine lv_iconst (v := 1) hx hb dX3_seek_136 (by decide) ?_
            refine lv_iadd hx hb dX3_seek_137 ?_
            have f11 : (i + 1).toInt = (i.toInt) + (1) := addC rfl (show (1 : Int32).toInt = 1 from rfl) (by omega) (by omega)
            refine lv_iload_n hx hb dX3_seek_138 rfl (lv_at hl 2 rfl) ?_
            refine lv_iload_n hx hb dX3_seek_139 rfl (lv_at hl 3 rfl) ?_
            refine wvV (As := [.int (i + 1), .int n, .int al]) (rest := []) (wr := []) (w2 := (fun u : US => (wPln cI cZ cQ a min (u.1 0) (u.1 1) (u.1 2) cos rst (u.1 3 0) top str gho ghs pto cro pla wal fal tel gai day mar few doo))) ⟨hx, hb, hml, hown, hts⟩ (k_X3_seek2_1 l dC dI cI cZ cQ a min tri_u10 bes_19 wkd_19 cos rst bst_19 top str gho ghs pto cro pla wal fal tel gai day mar few doo _ (i + 1) n al r_wkd_19 r_top r_str r_gho r_ghs r_cro r_pla r_fal r_gai r_day r_mar (by omega) (by omega) (by omega) (by omega) (by exact q4) (by exact sk_8 q5 i19_2 (by assumption) (by omega) (by omega)) (by exact pb_e i19_3 (at_8 i19_2 (by assumption) (by omega) (by omega) (by omega) (by omega)))) (cwV 3 hts gX3_seek_X3_seek rfl rfl rfl (by decide +kernel) ⟨Nat.le_of_ble_eq_true rfl, Nat.le_of_ble_eq_true rfl⟩) hP hD hS hA hK hN [0, 1, 2, 3, 4, 5, 6, 7, 8, 9, 10, 11, 12, 13, 14, 15, 16, 17, 18, 19, 20] [] [0, 1, 2, 3, 4, 5, 6, 7, 8, 9, 10, 11, 12, 13, 14, 15, 16, 17, 18, 19, 20] rfl rfl (by decide) (by decide) (by decide) (fun _ => rfl) (by decide) 0 3 rfl rfl rfl hl.1 rfl (Nat.le_of_ble_eq_true rfl) dX3_seek_140 ⟨Nat.le_of_ble_eq_true rfl, Nat.le_of_ble_eq_true rfl⟩ (fun u14 H locs h13 hP hD hS => ?_)
            obtain ⟨tri_c15, etri_c15⟩ : ∃ f : Nat → Int32, f = (u14.1 0) := ⟨_, rfl⟩
            obtain ⟨bes_c16, ebes_c16⟩ : ∃ f : Nat → Int32, f = (u14.1 1) := ⟨_, rfl⟩
            obtain ⟨wkd_c17, ewkd_c17⟩ : ∃ f : Nat → Int32, f = (u14.1 2) := ⟨_, rfl⟩
            obtain ⟨bst_c18, ebst_c18⟩ : ∃ f : Int32, f = (u14.1 3 0) := ⟨_, rfl⟩
            have hP : va_P (dC, dI) vwCl (wPln cI cZ cQ a min tri_c15 bes_c16 wkd_c17 cos rst bst_c18 top str gho ghs pto cro pla wal fal tel gai day mar few doo) H := by rw [etri_c15, ebes_c16, ewkd_c17, ebst_c18]; exact hP
            have hD : va_D A (wPln cI cZ cQ a min tri_c15 bes_c16 wkd_c17 cos rst bst_c18 top str gho ghs pto cro pla wal fal tel gai day mar few doo) := by rw [etri_c15, ebes_c16, ewkd_c17, ebst_c18]; exact hD
            have h13 : (ksI (i + 1).toInt tri_u10 wkd_19 tri_c15 wkd_c17) ∧ (pbI (okC cos min n.toInt.toNat) (vlC mar fal top str tel gai.toInt n.toInt.toNat) n.toInt.toNat (toN tri_u10 n.toInt.toNat (i + 1).toInt) bst_c18.toInt bes_c16) ∧ (rg 8 (0) (15) wkd_c17) := by (try rw [etri_c15]); (try rw [ebes_c16]); (try rw [ewkd_c17]); (try rw [ebst_c18]); exact h13
            obtain ⟨h13_0, h13_1, h13_2⟩ := h13
            exact W.vret hx hb hr (fun tq ht hW => ⟨⟨(uS [tri_c15, bes_c16, wkd_c17, (fun _ => bst_c18)] 0 (fun _ => 0)), rfl, ⟨(show ksI i.toInt tri wkd tri_c15 wkd_c17 from by (first | exact ks_0 | exact ks_8 i19_2 (by assumption) (by assumption) (by omega) (by omega))), (show pbI (okC cos min n.toInt.toNat) (vlC mar fal top str tel gai.toInt n.toInt.toNat) n.toInt.toNat (toN tri n.toInt.toNat i.toInt) bst_c18.toInt bes_c16 from by (first | exact sk_leaf q6 q5 q4 r_wkd (by omega) (by assumption) | exact pb_e (by assumption) (to_8 i19_2 (by assumption) (by omega) (by omega) (by omega)))), h13_2⟩, by rw [ht]; exact hP, hD⟩, hS.F ht⟩) hS.2.2 dX3_seek_143
          · have dc8 : y19_4.toInt < 8 := nleC (show (8 : Int32).toInt = 8 from rfl) rfl c8
            refine lv_aload_n hx hb dX3_seek_26 rfl (lv_at hl 0 rfl) ?_
            refine lv_iload hx hb dX3_seek_27 (lv_at hl 4 rfl) ?_
            refine lv_iload_n hx hb dX3_seek_29 rfl (lv_at hl 1 rfl) ?_
            refine rdV (As := [.int y19_4, .int i]) (rest := []) ⟨hx, hb, hml, hown, hts⟩ (k_X3_walkable2 l dC dI cI cZ cQ a min tri_19 bes_19 wkd_19 cos rst bst_19 top str gho ghs pto cro pla wal fal tel gai day mar few doo y19_4 i r_wkd_19 r_top r_str r_gho r_ghs r_cro r_pla r_fal r_gai r_day r_mar (by omega) (by omega) (by omega) (by omega)) (cwV 2 hts gX3_seek_X3_walkable rfl rfl rfl (by decide +kernel) ⟨Nat.le_of_ble_eq_true rfl, Nat.le_of_ble_eq_true rfl⟩) hP hK hN [0, 1, 2, 3, 4, 5, 6, 7, 8, 9, 10, 11, 12, 13, 14, 15, 16, 17, 18, 19, 20] rfl 0 3 rfl rfl rfl hl.1 rfl (Nat.le_of_ble_eq_true rfl) dX3_seek_30 ⟨Nat.le_of_ble_eq_true rfl, Nat.le_of_ble_eq_true rfl⟩ (fun r19 h20 => ?_)
            have h20 : ((((r19 = 1) ∧ (wkb (cos y19_4.toNatClampNeg) (min i.toNatClampNeg))) ∨ ((r19 = 0) ∧ (¬ wkb (cos y19_4.toNatClampNeg) (min i.toNatClampNeg))))) := h20
            rcases h20 with (⟨rfl, h20_a0⟩ | ⟨rfl, h20_a0⟩)
            · refine lv_if_eq (tgt := 120) hx hb dX3_seek_33 (by decide) (fun c9 => absurd c9 (by decide)) (fun _ => ?_)
              refine lv_aload_n hx hb dX3_seek_36 rfl (lv_at hl 0 rfl) ?_
              refine va_get (D := (dC, dI)) (ci := 3) (v := .ref (a 20)) (C := RX3) (T := TX3) (N := 9) hx hb hts inX3 hown hK hP 0 rfl rfl 5 (by decide) lf21 (fun _ h9 => h9) rfl dX3_seek_37 ?_
              refine lv_iload hx hb dX3_seek_40 (lv_at hl 4 rfl) ?_
              have b21 : vp_in y19_4 8 := inC rfl (by omega) (by omega)
              refine va_iald hx hb hK hP 4 0 rfl rfl b21 dX3_seek_42 ?_
              have g22 : 0 ≤ (wkd_19 y19_4.toNatClampNeg).toInt ∧ (wkd_19 y19_4.toNatClampNeg).toInt ≤ 15 := rg_at r_wkd_19 b21
              refine lv_topi (fun x23 ex23 => ?_)
              have ix23 : x23.toInt = (wkd_19 y19_4.toNatClampNeg).toInt := by rw [ex23]
              refine lv_istore (lv' := [(5, .int x23), (0, .ref (a 16)), (1, .int i), (2, .int n), (3, .int al), (4, .int y19_4)]) hx hb dX3_seek_43 hl (by decide) rfl (fun ls hl => ?_)
              refine lv_iload hx hb dX3_seek_45 (lv_at hl 0 rfl) ?_
              refine lv_iconst (v := 1) hx hb dX3_seek_47 (by decide) ?_
              refine lv_iload_n hx hb dX3_seek_48 rfl (lv_at hl 2 rfl) ?_
              refine lv_ishl hx hb dX3_seek_49 ?_
              have f24 : 1 ≤ ((1 : Int32) <<< (i &&& 31)).toInt ∧ ((1 : Int32) <<< (i &&& 31)).toInt ≤ 8 := shl1 rfl (by omega) 3 (by omega) (by decide)
              refine lv_ior hx hb dX3_seek_50 ?_
              have f25 : 0 ≤ (x23 ||| ((1 : Int32) <<< (i &&& 31))).toInt ∧ (x23 ||| ((1 : Int32) <<< (i &&& 31))).toInt ≤ 15 := orB rfl rfl 4 (by omega) (by omega) (by omega) (by omega) (by decide)
              refine lv_topi (fun x26 ex26 => ?_)
              have ix26 : x26.toInt = (x23 ||| ((1 : Int32) <<< (i &&& 31))).toInt := by rw [ex26]
              refine lv_istore (lv' := [(6, .int x26), (5, .int x23), (0, .ref (a 16)), (1, .int i), (2, .int n), (3, .int al), (4, .int y19_4)]) hx hb dX3_seek_51 hl (by decide) rfl (fun ls hl => ?_)
              have wal_ := skA_rg q5 q4 r_wkd
              have wsk := sk_eq q5 i19_2
              have wlt := wd_lt wsk.2.2.1 r_wkd_19 (q := y19_4.toNatClampNeg) (n := n.toInt.toNat) (by rw [clC (x := y19_4) rfl]; omega) (by omega) (by omega)
              refine lv_aload_n hx hb dX3_seek_53 rfl (lv_at hl 2 rfl) ?_
              refine va_get (D := (dC, dI)) (ci := 3) (v := .ref (a 22)) (C := RX3) (T := TX3) (N := 9) hx hb hts inX3 hown hK hP 0 rfl rfl 7 (by decide) lf27 (fun _ h9 => h9) rfl dX3_seek_54 ?_
              refine lv_iload hx hb dX3_seek_57 (lv_at hl 6 rfl) ?_
              refine lv_bipush (v := 16) hx hb dX3_seek_59 (by decide) ?_
              refine lv_imul hx hb dX3_seek_61 ?_
              have f27 : (y19_4 * 16).toInt = (y19_4.toInt) * (16) := mulC rfl (show (16 : Int32).toInt = 16 from rfl) (by omega) (by omega)
              refine lv_iload hx hb dX3_seek_62 (lv_at hl 0 rfl) ?_
              refine lv_iadd hx hb dX3_seek_64 ?_
              have f28 : ((y19_4 * 16) + x26).toInt = ((y19_4.toInt) * (16)) + (x26.toInt) := addC f27 rfl (by omega) (by omega)
              have b29 : vp_in ((y19_4 * 16) + x26) 128 := inC f28 (by omega) (by omega)
              refine va_iald hx hb hK hP 6 0 rfl rfl b29 dX3_seek_65 ?_
              refine lv_aload_n hx hb dX3_seek_66 rfl (lv_at hl 2 rfl) ?_
              refine va_get (D := (dC, dI)) (ci := 3) (v := .ref (a 22)) (C := RX3) (T := TX3) (N := 9) hx hb hts inX3 hown hK hP 0 rfl rfl 7 (by decide) lf27 (fun _ h9 => h9) rfl dX3_seek_67 ?_
              refine lv_iload hx hb dX3_seek_70 (lv_at hl 6 rfl) ?_
              refine lv_bipush (v := 16) hx hb dX3_seek_72 (by decide) ?_
              refine lv_imul hx hb dX3_seek_74 ?_
              have f30 : (y19_4 * 16).toInt = (y19_4.toInt) * (16) := mulC rfl (show (16 : Int32).toInt = 16 from rfl) (by omega) (by omega)
              refine lv_iload hx hb dX3_seek_75 (lv_at hl 1 rfl) ?_
              refine lv_iadd hx hb dX3_seek_77 ?_
              have f31 : ((y19_4 * 16) + x23).toInt = ((y19_4.toInt) * (16)) + (x23.toInt) := addC f30 rfl (by omega) (by omega)
              have b32 : vp_in ((y19_4 * 16) + x23) 128 := inC f31 (by omega) (by omega)
              refine va_iald hx hb hK hP 6 0 rfl rfl b32 dX3_seek_78 ?_
              have wl5 : x23.toInt.toNat < 2 ^ n.toInt.toNat := by have e : x23.toInt = (wkd_19 y19_4.toNatClampNeg).toInt := (by omega); rw [e]; exact wlt
              have wl6 : x26.toInt.toNat < 2 ^ n.toInt.toNat := or_lt wl5 (by assumption) (by omega) (by omega) (by omega) (by omega)
              have wr5 := rs_rg q4 (x := (y19_4 * 16) + x23) (y := y19_4) (w := x23) (by omega) (by omega) (by omega) (by omega) wl5
              have wr6 := rs_rg q4 (x := (y19_4 * 16) + x26) (y := y19_4) (w := x26) (by omega) (by omega) (by omega) (by omega) wl6
              refine lv_isub hx hb dX3_seek_79 ?_
              have f33 : ((rst ((y19_4 * 16) + x26).toNatClampNeg) - (rst ((y19_4 * 16) + x23).toNatClampNeg)).toInt = ((rst ((y19_4 * 16) + x26).toNatClampNeg).toInt) - ((rst ((y19_4 * 16) + x23).toNatClampNeg).toInt) := subC rfl rfl (by omega) (by omega)
              refine lv_topi (fun x34 ex34 => ?_)
              have ix34 : x34.toInt = ((rst ((y19_4 * 16) + x26).toNatClampNeg).toInt) - ((rst ((y19_4 * 16) + x23).toNatClampNeg).toInt) := by rw [ex34]; exact f33
              refine lv_istore (lv' := [(7, .int x34), (6, .int x26), (5, .int x23), (0, .ref (a 16)), (1, .int i), (2, .int n), (3, .int al), (4, .int y19_4)]) hx hb dX3_seek_80 hl (by decide) rfl (fun ls hl => ?_)
              have wch : x34.toInt = (rst (16 * y19_4.toInt.toNat + x26.toInt.toNat)).toInt - (rst (16 * y19_4.toInt.toNat + x23.toInt.toNat)).toInt := by rw [← wr6.2.2, ← wr5.2.2]; omega
              refine lv_aload_n hx hb dX3_seek_82 rfl (lv_at hl 3 rfl) ?_
              refine va_get (D := (dC, dI)) (ci := 3) (v := .ref (a 18)) (C := RX3) (T := TX3) (N := 9) hx hb hts inX3 hown hK hP 0 rfl rfl 3 (by decide) lf15 (fun _ h9 => h9) rfl dX3_seek_83 ?_
              refine lv_iload_n hx hb dX3_seek_86 rfl (lv_at hl 4 rfl) ?_
              refine lv_iload hx hb dX3_seek_87 (lv_at hl 7 rfl) ?_
              have b35 : vp_in i 4 := inC rfl (by omega) (by omega)
              refine va_iast hx hb hK hP hD hS 2 0 rfl rfl b35 dX3_seek_89 (fun H locs hP hD hS => ?_)
              obtain ⟨tri_u36, etri_u36⟩ : ∃ f : Nat → Int32, f = upd tri_19 i.toNatClampNeg y19_4 := ⟨_, rfl⟩
              have hP : va_P (dC, dI) vwCl (wPln cI cZ cQ a min tri_u36 bes_19 wkd_19 cos rst bst_19 top str gho ghs pto cro pla wal fal tel gai day mar few doo) H := by rw [etri_u36]; exact hP
              have hD : va_D A (wPln cI cZ cQ a min tri_u36 bes_19 wkd_19 cos rst bst_19 top str gho ghs pto cro pla wal fal tel gai day mar few doo) := by rw [etri_u36]; exact hD
              refine lv_aload_n hx hb dX3_seek_90 rfl (lv_at hl 3 rfl) ?_
              refine va_get (D := (dC, dI)) (ci := 3) (v := .ref (a 20)) (C := RX3) (T := TX3) (N := 9) hx hb hts inX3 hown hK hP 0 rfl rfl 5 (by decide) lf21 (fun _ h9 => h9) rfl dX3_seek_91 ?_
              refine lv_iload hx hb dX3_seek_94 (lv_at hl 7 rfl) ?_
              refine lv_iload hx hb dX3_seek_96 (lv_at hl 1 rfl) ?_
              have b37 : vp_in y19_4 8 := inC rfl (by omega) (by omega)
              have g38 : rg 8 (0) (15) (upd wkd_19 y19_4.toNatClampNeg x26) := rg_upd r_wkd_19 rfl (by omega) (by omega)
              refine va_iast hx hb hK hP hD hS 4 0 rfl rfl b37 dX3_seek_98 (fun H locs hP hD hS => ?_)
              obtain ⟨wkd_u39, ewkd_u39⟩ : ∃ f : Nat → Int32, f = upd wkd_19 y19_4.toNatClampNeg x26 := ⟨_, rfl⟩
              have rwkd_u39 : rg 8 (0) (15) wkd_u39 := by rw [ewkd_u39]; exact g38
              have hP : va_P (dC, dI) vwCl (wPln cI cZ cQ a min tri_u36 bes_19 wkd_u39 cos rst bst_19 top str gho ghs pto cro pla wal fal tel gai day mar few doo) H := by rw [ewkd_u39]; exact hP
              have hD : va_D A (wPln cI cZ cQ a min tri_u36 bes_19 wkd_u39 cos rst bst_19 top str gho ghs pto cro pla wal fal tel gai day mar few doo) := by rw [ewkd_u39]; exact hD
              refine lv_aload_n hx hb dX3_seek_99 rfl (lv_at hl 3 rfl) ?_
              refine lv_iload_n hx hb dX3_seek_100 rfl (lv_at hl 4 rfl) ?_
              refine lv_iconst (v := 1) hx hb dX3_seek_101 (by decide) ?_
              refine lv_iadd hx hb dX3_seek_102 ?_
              have f40 : (i + 1).toInt = (i.toInt) + (1) := addC rfl (show (1 : Int32).toInt = 1 from rfl) (by omega) (by omega)
              refine lv_iload_n hx hb dX3_seek_103 rfl (lv_at hl 5 rfl) ?_
              refine lv_iload_n hx hb dX3_seek_104 rfl (lv_at hl 6 rfl) ?_
              refine lv_iload hx hb dX3_seek_105 (lv_at hl 0 rfl) ?_
              refine lv_iadd hx hb dX3_seek_107 ?_
              have f41 : (al + x34).toInt = (al.toInt) + (x34.toInt) := addC rfl rfl (by omega) (by omega)
              refine wvV (As := [.int (i + 1), .int n, .int (al + x34)]) (rest := []) (wr := []) (w2 := (fun u : US => (wPln cI cZ cQ a min (u.1 0) (u.1 1) (u.1 2) cos rst (u.1 3 0) top str gho ghs pto cro pla wal fal tel gai day mar few doo))) ⟨hx, hb, hml, hown, hts⟩ (k_X3_seek2_1 l dC dI cI cZ cQ a min tri_u36 bes_19 wkd_u39 cos rst bst_19 top str gho ghs pto cro pla wal fal tel gai day mar few doo _ (i + 1) n (al + x34) rwkd_u39 r_top r_str r_gho r_ghs r_cro r_pla r_fal r_gai r_day r_mar (by omega) (by omega) (by omega) (by omega) (by exact q4) (by exact sk_y q5 q4 i19_2 r_wkd_19 (by assumption) (by assumption) (by assumption) (by assumption) (by assumption) ⟨by omega, by omega⟩ (by omega) (by omega) (by omega) wch (by omega) (by omega)) (by exact pb_e i19_3 (at_d i19_2 (by assumption) (by omega) (by omega) (by omega) (by omega)))) (cwV 3 hts gX3_seek_X3_seek rfl rfl rfl (by decide +kernel) ⟨Nat.le_of_ble_eq_true rfl, Nat.le_of_ble_eq_true rfl⟩) hP hD hS hA hK hN [0, 1, 2, 3, 4, 5, 6, 7, 8, 9, 10, 11, 12, 13, 14, 15, 16, 17, 18, 19, 20] [] [0, 1, 2, 3, 4, 5, 6, 7, 8, 9, 10, 11, 12, 13, 14, 15, 16, 17, 18, 19, 20] rfl rfl (by decide) (by decide) (by decide) (fun _ => rfl) (by decide) 0 3 rfl rfl rfl hl.1 rfl (Nat.le_of_ble_eq_true rfl) dX3_seek_108 ⟨Nat.le_of_ble_eq_true rfl, Nat.le_of_ble_eq_true rfl⟩ (fun u44 H locs h43 hP hD hS => ?_)
              obtain ⟨tri_c45, etri_c45⟩ : ∃ f : Nat → Int32, f = (u44.1 0) := ⟨_, rfl⟩
              obtain ⟨bes_c46, ebes_c46⟩ : ∃ f : Nat → Int32, f = (u44.1 1) := ⟨_, rfl⟩
              obtain ⟨wkd_c47, ewkd_c47⟩ : ∃ f : Nat → Int32, f = (u44.1 2) := ⟨_, rfl⟩
              obtain ⟨bst_c48, ebst_c48⟩ : ∃ f : Int32, f = (u44.1 3 0) := ⟨_, rfl⟩
              have hP : va_P (dC, dI) vwCl (wPln cI cZ cQ a min tri_c45 bes_c46 wkd_c47 cos rst bst_c48 top str gho ghs pto cro pla wal fal tel gai day mar few doo) H := by rw [etri_c45, ebes_c46, ewkd_c47, ebst_c48]; exact hP
              have hD : va_D A (wPln cI cZ cQ a min tri_c45 bes_c46 wkd_c47 cos rst bst_c48 top str gho ghs pto cro pla wal fal tel gai day mar few doo) := by rw [etri_c45, ebes_c46, ewkd_c47, ebst_c48]; exact hD
              have h43 : (ksI (i + 1).toInt tri_u36 wkd_u39 tri_c45 wkd_c47) ∧ (pbI (okC cos min n.toInt.toNat) (vlC mar fal top str tel gai.toInt n.toInt.toNat) n.toInt.toNat (toN tri_u36 n.toInt.toNat (i + 1).toInt) bst_c48.toInt bes_c46) ∧ (rg 8 (0) (15) wkd_c47) := by (try rw [etri_c45]); (try rw [ebes_c46]); (try rw [ewkd_c47]); (try rw [ebst_c48]); exact h43
              obtain ⟨h43_0, h43_1, h43_2⟩ := h43
              refine lv_aload_n hx hb dX3_seek_111 rfl (lv_at hl 3 rfl) ?_
              refine va_get (D := (dC, dI)) (ci := 3) (v := .ref (a 20)) (C := RX3) (T := TX3) (N := 9) hx hb hts inX3 hown hK hP 0 rfl rfl 5 (by decide) lf21 (fun _ h9 => h9) rfl dX3_seek_112 ?_
              refine lv_iload hx hb dX3_seek_115 (lv_at hl 7 rfl) ?_
              refine lv_iload hx hb dX3_seek_117 (lv_at hl 2 rfl) ?_
              have b49 : vp_in y19_4 8 := inC rfl (by omega) (by omega)
              have g50 : rg 8 (0) (15) (upd wkd_c47 y19_4.toNatClampNeg x23) := rg_upd h43_2 rfl (by omega) (by omega)
              refine va_iast hx hb hK hP hD hS 4 0 rfl rfl b49 dX3_seek_119 (fun H locs hP hD hS => ?_)
              obtain ⟨wkd_u51, ewkd_u51⟩ : ∃ f : Nat → Int32, f = upd wkd_c47 y19_4.toNatClampNeg x23 := ⟨_, rfl⟩
              have rwkd_u51 : rg 8 (0) (15) wkd_u51 := by rw [ewkd_u51]; exact g50
              have hP : va_P (dC, dI) vwCl (wPln cI cZ cQ a min tri_c45 bes_c46 wkd_u51 cos rst bst_c48 top str gho ghs pto cro pla wal fal tel gai day mar few doo) H := by rw [ewkd_u51]; exact hP
              have hD : va_D A (wPln cI cZ cQ a min tri_c45 bes_c46 wkd_u51 cos rst bst_c48 top str gho ghs pto cro pla wal fal tel gai day mar few doo) := by rw [ewkd_u51]; exact hD
              obtain ⟨z52, ez52⟩ : ∃ y : Int32, y = y19_4 + 1 := ⟨_, rfl⟩
              have iz52 : z52.toInt = y19_4.toInt + 1 := by rw [ez52]; exact addC rfl rfl (by omega) (by omega)
              refine lv_iinc (v := z52) (lv' := [(4, .int z52), (7, .int x34), (6, .int x26), (5, .int x23), (0, .ref (a 16)), (1, .int i), (2, .int n), (3, .int al)]) hx hb dX3_seek_120 hl (k := 7) rfl (by rw [ez52]; rfl) (by decide) rfl (fun ls hl => ?_)
              refine lv_goto (tgt := 19) hx hb dX3_seek_123 (by decide) ?_
              exact ih19 z52 tri_c45 bes_c46 wkd_u51 bst_c48 _ _ _ rwkd_u51 (by omega) (by omega) (by (first | exact ks_y i19_2 (by assumption) (by assumption) (by assumption) (by assumption) (by assumption) (by omega) (by omega) | exact i19_2 | exact ks_0)) (by (first | exact pb_e (by assumption) (at_u i19_2 (by assumption) (by omega) (by omega) (by omega) (by omega) (by omega)).symm | exact pb_no (y := y19_4) i19_3 q5 i19_2 (by assumption) (by omega) (by omega) (by omega) (by omega) | exact pb_e q6 (at_0 (by omega) (by omega) rfl))) (by omega) hP hD hS (lv_sub hl [4, 5, 6, 7, 0] rfl)
            · refine lv_if_eq (tgt := 120) hx hb dX3_seek_33 (by decide) (fun _ => ?_) (fun c9 => absurd (by decide) c9)
              obtain ⟨z53, ez53⟩ : ∃ y : Int32, y = y19_4 + 1 := ⟨_, rfl⟩
              have iz53 : z53.toInt = y19_4.toInt + 1 := by rw [ez53]; exact addC rfl rfl (by omega) (by omega)
              refine lv_iinc (v := z53) (lv' := [(4, .int z53), (0, .ref (a 16)), (1, .int i), (2, .int n), (3, .int al)]) hx hb dX3_seek_120 hl (k := 4) rfl (by rw [ez53]; rfl) (by decide) rfl (fun ls hl => ?_)
              refine lv_goto (tgt := 19) hx hb dX3_seek_123 (by decide) ?_
              exact ih19 z53 tri_19 bes_19 wkd_19 bst_19 _ _ _ r_wkd_19 (by omega) (by omega) (by (first | exact ks_y i19_2 (by assumption) (by assumption) (by assumption) (by assumption) (by assumption) (by omega) (by omega) | exact i19_2 | exact ks_0)) (by (first | exact pb_e (by assumption) (at_u i19_2 (by assumption) (by omega) (by omega) (by omega) (by omega) (by omega)).symm | exact pb_no (y := y19_4) i19_3 q5 i19_2 (by assumption) (by omega) (by omega) (by omega) (by omega) | exact pb_e q6 (at_0 (by omega) (by omega) rfl))) (by omega) hP hD hS (lv_sub hl [1, 2, 3, 4, 0] rfl)
      have kc54 : (0 : Int32).toInt = 0 := rfl
      exact L19 _ 0 tri bes wkd bst _ _ _ r_wkd (by omega) (by omega) (by (first | exact ks_y i19_2 (by assumption) (by assumption) (by assumption) (by assumption) (by assumption) (by omega) (by omega) | exact i19_2 | exact ks_0)) (by (first | exact pb_e (by assumption) (at_u i19_2 (by assumption) (by omega) (by omega) (by omega) (by omega) (by omega)).symm | exact pb_no (y := y19_4) i19_3 q5 i19_2 (by assumption) (by omega) (by omega) (by omega) (by omega) | exact pb_e q6 (at_0 (by omega) (by omega) rfl))) (Nat.lt_succ_self _) hP hD hS (lv_sub hl [1, 2, 3, 4, 0] rfl)
    · have dc7 : 4 ≤ i.toInt := nltC rfl (show (4 : Int32).toInt = 4 from rfl) c7
      exfalso
      omega
