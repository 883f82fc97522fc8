-- ===== STRENGTH day by day (draft, untested) =====
def fl (f : Nat → Int32) (v m : Int) : Int := max 0 (v - (f (v / 10).toNat).toInt - m)
def itf (f : Nat → Int32) (m v : Int) : Nat → Int
  | 0 => v
  | n + 1 => fl f (itf f m v n) m
theorem fl_rg {f : Nat → Int32} {v m : Int} (hf : rg 11 0 30 f) (h0 : 0 ≤ v) (h1 : v ≤ 100) (hm : 0 ≤ m) : 0 ≤ fl f v m ∧ fl f v m ≤ v := by
  have := hf (v / 10).toNat (by omega)
  unfold fl; omega
theorem itf_rg {f : Nat → Int32} {v m : Int} (hf : rg 11 0 30 f) (h0 : 0 ≤ v) (h1 : v ≤ 100) (hm : 0 ≤ m) : ∀ n, 0 ≤ itf f m v n ∧ itf f m v n ≤ 100
  | 0 => ⟨h0, h1⟩
  | n + 1 => by
    have h := itf_rg hf h0 h1 hm n
    have h2 := fl_rg (m := m) hf h.1 h.2 hm
    show 0 ≤ fl f (itf f m v n) m ∧ fl f (itf f m v n) m ≤ 100
    omega
theorem fl_zero {f : Nat → Int32} (hf : rg 11 0 30 f) : fl f 0 0 = 0 := by
  have := hf 0 (by omega)
  show max 0 (0 - (f ((0 : Int) / 10).toNat).toInt - 0) = 0
  rw [show ((0 : Int) / 10).toNat = 0 from rfl]; omega
theorem itf_zero {f : Nat → Int32} (hf : rg 11 0 30 f) : ∀ n, itf f 0 0 n = 0
  | 0 => rfl
  | n + 1 => by show fl f (itf f 0 0 n) 0 = 0; rw [itf_zero hf n, fl_zero hf]
theorem fl_eq {f g : Nat → Int32} {v m : Int} (h : ∀ j, j < 11 → f j = g j) (h0 : 0 ≤ v) (h1 : v ≤ 100) : fl f v m = fl g v m := by
  unfold fl; rw [h (v / 10).toNat (by omega)]
theorem itf_eq {f g : Nat → Int32} {v m : Int} (h : ∀ j, j < 11 → f j = g j) (hf : rg 11 0 30 f) (h0 : 0 ≤ v) (h1 : v ≤ 100) (hm : 0 ≤ m) : ∀ n, itf f m v n = itf g m v n
  | 0 => rfl
  | n + 1 => by
    show fl f (itf f m v n) m = fl g (itf g m v n) m
    have hr := itf_rg hf h0 h1 hm n
    rw [← itf_eq h hf h0 h1 hm n]; exact fl_eq h hr.1 hr.2
/-- how many others in the ROOM make it fall faster -/
def crdB (mar top : Nat → Int32) (tel : Int32) (o c : Nat) : Bool := decide (o ≠ c) && decide (top o ≠ -1) && decide (top c ≠ -1) && decide (tel.toInt ≤ (bc (mar (top o).toNatClampNeg &&& mar (top c).toNatClampNeg)).toInt)
def cwF (mar top : Nat → Int32) (tel : Int32) (c lo : Nat) : Nat → Int
  | 0 => 0
  | k + 1 => cwF mar top tel c lo k + (if crdB mar top tel (lo + k) c then 1 else 0)
theorem crd_yes {mar top : Nat → Int32} {tel o c : Int32} (h0 : o.toInt ≠ c.toInt) (h1 : 0 ≤ o.toInt) (h2 : 0 ≤ c.toInt) (t1 : ¬ top o.toNatClampNeg = -1) (t2 : ¬ top c.toNatClampNeg = -1) (h3 : tel.toInt ≤ (bc (mar (top o.toNatClampNeg).toNatClampNeg &&& mar (top c.toNatClampNeg).toNatClampNeg)).toInt) : crdB mar top tel o.toNatClampNeg c.toNatClampNeg = true := by
  have e : o.toNatClampNeg ≠ c.toNatClampNeg := by rw [clC (x := o) rfl, clC (x := c) rfl]; omega
  unfold crdB
  rw [decide_eq_true e, decide_eq_true t1, decide_eq_true t2, decide_eq_true h3]; rfl
theorem crd_eq {mar top : Nat → Int32} {tel o c : Int32} (h : o = c) : crdB mar top tel o.toNatClampNeg c.toNatClampNeg = false := by
  subst h; unfold crdB; rw [decide_eq_false (fun q => q rfl)]; rfl
theorem crd_t1 {mar top : Nat → Int32} {tel o c : Int32} (h : top o.toNatClampNeg = -1) : crdB mar top tel o.toNatClampNeg c.toNatClampNeg = false := by
  unfold crdB; rw [decide_eq_false (p := top o.toNatClampNeg ≠ -1) (fun q => q h), Bool.and_false]; rfl
theorem crd_t2 {mar top : Nat → Int32} {tel o c : Int32} (h : top c.toNatClampNeg = -1) : crdB mar top tel o.toNatClampNeg c.toNatClampNeg = false := by
  unfold crdB; rw [decide_eq_false (p := top c.toNatClampNeg ≠ -1) (fun q => q h), Bool.and_false]; rfl
theorem crd_no {mar top : Nat → Int32} {tel o c : Int32} (h : (bc (mar (top o.toNatClampNeg).toNatClampNeg &&& mar (top c.toNatClampNeg).toNatClampNeg)).toInt < tel.toInt) : crdB mar top tel o.toNatClampNeg c.toNatClampNeg = false := by
  unfold crdB; rw [decide_eq_false (p := tel.toInt ≤ _) (by omega), Bool.and_false]
theorem cw_keep {mar top f g : Nat → Int32} {tel y v : Int32} (e : g = upd f y.toNatClampNeg v) (h0 : 0 ≤ y.toInt) (h : ∀ j : Nat, (j : Int) < y.toInt → (f j).toInt = cwF mar top tel j (j - j % 6) 6) : ∀ j : Nat, (j : Int) < y.toInt → (g j).toInt = cwF mar top tel j (j - j % 6) 6 := by
  subst e; intro j hj
  rw [clC (x := y) rfl, pk_un (by omega)]; exact h j hj
theorem cw_zero {mar top f g : Nat → Int32} {tel y v : Int32} {lo N : Nat} (e : g = upd f y.toNatClampNeg v) (hv : v.toInt = 0) (hN : N = 0) : (g y.toNatClampNeg).toInt = cwF mar top tel y.toNatClampNeg lo N := by
  subst e; subst hN; rw [pk_us, hv]; rfl
theorem cw_yes {mar top f g : Nat → Int32} {tel y v o w : Int32} {N N' : Nat} (e : g = upd f y.toNatClampNeg v) (hv : v.toInt = (f y.toNatClampNeg).toInt + 1) (h : (f y.toNatClampNeg).toInt = cwF mar top tel y.toNatClampNeg w.toNatClampNeg N) (hc : crdB mar top tel o.toNatClampNeg y.toNatClampNeg = true) (h0 : 0 ≤ w.toInt) (h1 : w.toInt ≤ o.toInt) (hN : N = (o.toInt - w.toInt).toNat) (hN' : N' = N + 1) : (g y.toNatClampNeg).toInt = cwF mar top tel y.toNatClampNeg w.toNatClampNeg N' := by
  subst e; subst hN'
  have eo : o.toNatClampNeg = w.toNatClampNeg + N := by rw [clC (x := o) rfl, clC (x := w) rfl]; omega
  rw [eo] at hc
  rw [pk_us, hv, h]
  show _ = cwF mar top tel y.toNatClampNeg w.toNatClampNeg N + (if crdB mar top tel (w.toNatClampNeg + N) y.toNatClampNeg then 1 else 0)
  rw [hc]; rfl
theorem cw_no {mar top f : Nat → Int32} {tel y o w : Int32} {N N' : Nat} (h : (f y.toNatClampNeg).toInt = cwF mar top tel y.toNatClampNeg w.toNatClampNeg N) (hc : crdB mar top tel o.toNatClampNeg y.toNatClampNeg = false) (h0 : 0 ≤ w.toInt) (h1 : w.toInt ≤ o.toInt) (hN : N = (o.toInt - w.toInt).toNat) (hN' : N' = N + 1) : (f y.toNatClampNeg).toInt = cwF mar top tel y.toNatClampNeg w.toNatClampNeg N' := by
  subst hN'
  have eo : o.toNatClampNeg = w.toNatClampNeg + N := by rw [clC (x := o) rfl, clC (x := w) rfl]; omega
  rw [eo] at hc
  rw [h]
  show _ = cwF mar top tel y.toNatClampNeg w.toNatClampNeg N + (if crdB mar top tel (w.toNatClampNeg + N) y.toNatClampNeg then 1 else 0)
  rw [hc]; simp
theorem cw_next {mar top f : Nat → Int32} {tel y w : Int32} {N : Nat} {Z : Int} (h : ∀ j : Nat, (j : Int) < y.toInt → (f j).toInt = cwF mar top tel j (j - j % 6) 6) (h2 : (f y.toNatClampNeg).toInt = cwF mar top tel y.toNatClampNeg w.toNatClampNeg N) (hN : N = 6) (h0 : 0 ≤ y.toInt) (hw : w.toInt = y.toInt - y.toInt % 6) (hz : Z = y.toInt + 1) : ∀ j : Nat, (j : Int) < Z → (f j).toInt = cwF mar top tel j (j - j % 6) 6 := by
  intro j hj
  by_cases q : j = y.toInt.toNat
  · subst q
    subst hN
    rw [clC (x := y) rfl, clC (x := w) rfl] at h2
    rw [h2, show w.toInt.toNat = y.toInt.toNat - y.toInt.toNat % 6 by omega]
  · exact h j (by omega)
theorem sh_zero {w s : Int32} (h : w.toInt = 0) : ((w >>> s) &&& 1).toInt = 0 := by
  have e : w = 0 := Int32.toInt_inj.mp h
  subst e
  have : ((0 : Int32) >>> s) = 0 := by
    apply Int32.toBitVec_inj.mp
    show (0 : BitVec 32).sshiftRight _ = 0
    simp
  rw [this]; rfl
theorem itf_next {f : Nat → Int32} {m v L R : Int} {n n' : Nat} (h : L = itf f m v n) (hr : R = fl f L m) (hn : n' = n + 1) : R = itf f m v n' := by
  subst hn; subst h; exact hr
set_option maxHeartbeats 4000000 in
set_option maxRecDepth 100000 in
theorem k_X2_shared2 (l : Launch) (dC : Nat → ClassId) (dI : Nat → Nat → Nat) (cI cZ cQ : ClassId) (a : Nat → Nat) (mar : Nat → Int32) (one : Int32) (two : Int32) (r_mar : rg 24 (0) (255) mar) (q0 : 0 ≤ one.toInt) (q1 : one.toInt ≤ 23) (q2 : 0 ≤ two.toInt) (q3 : two.toInt ≤ 23) : KR l yX2_shared wsX2_shared { frames := 1, cells := 0, slots := 0, locals := 20 } (dC, dI) (TY cI cZ cQ) (wPic cI cZ cQ a mar) [.ref (a 2), .int one, .int two] (fun r : Int32 => (r = bc (mar one.toNatClampNeg &&& mar two.toNatClampNeg)) ∧ ((bc (mar one.toNatClampNeg &&& mar two.toNatClampNeg)).toInt = r.toInt)) := by
  refine Met.ofW (cc := cX2_shared) (maxL := 3) (ret := (some .int)) (by decide) rfl ?_
  intro p e s m args below meth c s₁ B hml hv
  obtain ⟨rfl, hP, hK, hN⟩ := hv
  have hx := B.exec
  have hb := B.bytes
  have hr := B.returns
  have hts := atoms_spec (ws := wsX2_shared) B.pre
  have hown : s.vm.findClass RX2 = some m.cls := findClass_of_methodNamed B.named
  have hlocks := B.notSynchronized
  have lf9 := hts (.fieldLink RX2 9 "PalaceOfRooms$Pictures" "marksOf" "[I") (List.mem_cons_of_mem _ (List.mem_append_left _ (List.mem_of_getElem? (i := 0) rfl)))
  have inX2 : ∀ w ∈ wsX20, w ∈ wsX2_shared := fun w h => List.mem_cons_of_mem _ (List.mem_append_right _ h)
  have hl := lv_entry ([.ref (a 2), .int one, .int two]) (n := 3) (Nat.le_of_ble_eq_true rfl)
  rw [lg_entry_eq]
  generalize (lg_sl ([.ref (a 2), .int one, .int two]) ++ List.replicate (3 - (lg_sl ([.ref (a 2), .int one, .int two])).length) Slot.unset).toArray = ls at hl ⊢
  have hl : lv_has ls 3 [(0, .ref (a 2)), (1, .int one), (2, .int two)] := hl
  refine lv_aload_n hx hb dX2_shared_0 rfl (lv_at hl 0 rfl) ?_
  refine va_get (D := (dC, dI)) (ci := 2) (v := .ref (a 3)) (C := RX2) (T := TX2) (N := 1) hx hb hts inX2 hown hK hP 0 rfl rfl 0 (by decide) lf9 (fun _ h9 => h9) rfl dX2_shared_1 ?_
  refine lv_iload_n hx hb dX2_shared_4 rfl (lv_at hl 1 rfl) ?_
  have b1 : vp_in one 24 := inC rfl (by omega) (by omega)
  refine va_iald hx hb hK hP 1 0 rfl rfl b1 dX2_shared_5 ?_
  have g2 : 0 ≤ (mar one.toNatClampNeg).toInt ∧ (mar one.toNatClampNeg).toInt ≤ 255 := rg_at r_mar b1
  refine lv_aload_n hx hb dX2_shared_6 rfl (lv_at hl 0 rfl) ?_
  refine va_get (D := (dC, dI)) (ci := 2) (v := .ref (a 3)) (C := RX2) (T := TX2) (N := 1) hx hb hts inX2 hown hK hP 0 rfl rfl 0 (by decide) lf9 (fun _ h9 => h9) rfl dX2_shared_7 ?_
  refine lv_iload_n hx hb dX2_shared_10 rfl (lv_at hl 2 rfl) ?_
  have b3 : vp_in two 24 := inC rfl (by omega) (by omega)
  refine va_iald hx hb hK hP 1 0 rfl rfl b3 dX2_shared_11 ?_
  have g4 : 0 ≤ (mar two.toNatClampNeg).toInt ∧ (mar two.toNatClampNeg).toInt ≤ 255 := rg_at r_mar b3
  refine lv_iand hx hb dX2_shared_12 ?_
  refine rdS (As := [.int ((mar one.toNatClampNeg) &&& (mar two.toNatClampNeg))]) (rest := []) ⟨hx, hb, hml, hown, hts⟩ (k_J6_bitCount_0f7a4 l dC dI cI cZ cQ ((mar one.toNatClampNeg) &&& (mar two.toNatClampNeg))) (va_cwS 1 hts gX2_shared_J6_bitCount_0f7a4 rfl rfl rfl (by decide +kernel) ⟨Nat.le_of_ble_eq_true rfl, Nat.le_of_ble_eq_true rfl⟩) hP hK hN [] rfl rfl hl.1 rfl (Nat.le_of_ble_eq_true rfl) dX2_shared_13 ⟨Nat.le_of_ble_eq_true rfl, Nat.le_of_ble_eq_true rfl⟩ (fun r5 h6 => ?_)
  have h6 : (r5 = bc ((mar one.toNatClampNeg) &&& (mar two.toNatClampNeg))) := h6
  have h6_0 := h6
  exact W.iret (v := r5) hx hb hr (fun tq ht hW => ⟨r5, rfl, ⟨(show r5 = bc (mar one.toNatClampNeg &&& mar two.toNatClampNeg) from by assumption), (show (bc (mar one.toNatClampNeg &&& mar two.toNatClampNeg)).toInt = r5.toInt from by (rw [show (r5) = bc (mar one.toNatClampNeg &&& mar two.toNatClampNeg) from by assumption]))⟩, ht⟩) (fun q h => by cases h) dX2_shared_16
set_option maxHeartbeats 4000000 in
set_option maxRecDepth 100000 in
theorem k_X1_muchAlike2 (l : Launch) (dC : Nat → ClassId) (dI : Nat → Nat → Nat) (cI cZ cQ : ClassId) (a : Nat → Nat) (top : Nat → Int32) (str : Nat → Int32) (gho : Nat → Int32) (ghs : Nat → Int32) (pto : Nat → Int32) (cro : Nat → Int32) (pla : Nat → Int32) (wal : Nat → Int32) (fal : Nat → Int32) (tel : Int32) (gai : Int32) (day : Int32) (mar : Nat → Int32) (one : Int32) (two : Int32) (r_top : rg 48 (-1) (23) top) (r_str : rg 48 (0) (100) str) (r_gho : rg 48 (-1) (23) gho) (r_ghs : rg 48 (0) (100) ghs) (r_cro : rg 48 (0) (6) cro) (r_pla : rg 24 (-1) (47) pla) (r_fal : rg 11 (0) (30) fal) (r_gai : 0 ≤ gai.toInt ∧ gai.toInt ≤ 100) (r_day : 0 ≤ day.toInt ∧ day.toInt ≤ 400) (r_mar : rg 24 (0) (255) mar) (q0 : 0 ≤ one.toInt) (q1 : one.toInt ≤ 23) (q2 : 0 ≤ two.toInt) (q3 : two.toInt ≤ 23) : KR l yX1_muchAlike wsX1_muchAlike { frames := 2, cells := 0, slots := 0, locals := 42 } (dC, dI) (TY cI cZ cQ) (wCor cI cZ cQ a top str gho ghs pto cro pla wal fal tel gai day mar) [.ref (a 4), .int one, .int two] (fun r : Int32 => ((((r = 1) ∧ (tel.toInt ≤ (bc (mar one.toNatClampNeg &&& mar two.toNatClampNeg)).toInt)) ∨ ((r = 0) ∧ ((bc (mar one.toNatClampNeg &&& mar two.toNatClampNeg)).toInt < tel.toInt))))) := by
  refine Met.ofW (cc := cX1_muchAlike) (maxL := 3) (ret := (some .boolean)) (by decide) rfl ?_
  intro p e s m args below meth c s₁ B hml hv
  obtain ⟨rfl, hP, hK, hN⟩ := hv
  have hx := B.exec
  have hb := B.bytes
  have hr := B.returns
  have hts := atoms_spec (ws := wsX1_muchAlike) B.pre
  have hown : s.vm.findClass RX1 = some m.cls := findClass_of_methodNamed B.named
  have hlocks := B.notSynchronized
  have lf46 := hts (.fieldLink RX1 46 "PalaceOfRooms$Corners" "pictures" "LPalaceOfRooms$Pictures;") (List.mem_cons_of_mem _ (List.mem_append_left _ (List.mem_append_left _ (List.mem_of_getElem? (i := 0) rfl))))
  have inX1 : ∀ w ∈ wsX10, w ∈ wsX1_muchAlike := fun w h => List.mem_cons_of_mem _ (List.mem_append_left _ (List.mem_append_right _ h))
  have lf39 := hts (.fieldLink RX1 39 "PalaceOfRooms$Corners" "tell" "I") (List.mem_cons_of_mem _ (List.mem_append_left _ (List.mem_append_left _ (List.mem_of_getElem? (i := 1) rfl))))
  have hl := lv_entry ([.ref (a 4), .int one, .int two]) (n := 3) (Nat.le_of_ble_eq_true rfl)
  rw [lg_entry_eq]
  generalize (lg_sl ([.ref (a 4), .int one, .int two]) ++ List.replicate (3 - (lg_sl ([.ref (a 4), .int one, .int two])).length) Slot.unset).toArray = ls at hl ⊢
  have hl : lv_has ls 3 [(0, .ref (a 4)), (1, .int one), (2, .int two)] := hl
  refine lv_aload_n hx hb dX1_muchAlike_0 rfl (lv_at hl 0 rfl) ?_
  refine va_get (D := (dC, dI)) (ci := 1) (v := .ref (a 2)) (C := RX1) (T := TX1) (N := 13) hx hb hts inX1 hown hK hP 0 rfl rfl 0 (by decide) lf46 (fun _ h9 => h9) rfl dX1_muchAlike_1 ?_
  refine lv_iload_n hx hb dX1_muchAlike_4 rfl (lv_at hl 1 rfl) ?_
  refine lv_iload_n hx hb dX1_muchAlike_5 rfl (lv_at hl 2 rfl) ?_
  refine rdV (As := [.int one, .int two]) (rest := []) ⟨hx, hb, hml, hown, hts⟩ (k_X2_shared2 l dC dI cI cZ cQ a mar one two r_mar (by omega) (by omega) (by omega) (by omega)) (cwV 2 hts gX1_muchAlike_X2_shared rfl rfl rfl (by decide +kernel) ⟨Nat.le_of_ble_eq_true rfl, Nat.le_of_ble_eq_true rfl⟩) hP hK hN [10, 11] rfl 10 2 rfl rfl rfl hl.1 rfl (Nat.le_of_ble_eq_true rfl) dX1_muchAlike_6 ⟨Nat.le_of_ble_eq_true rfl, Nat.le_of_ble_eq_true rfl⟩ (fun r1 h2 => ?_)
  have h2 : (r1 = bc (mar one.toNatClampNeg &&& mar two.toNatClampNeg)) ∧ ((bc (mar one.toNatClampNeg &&& mar two.toNatClampNeg)).toInt = r1.toInt) := h2
  obtain ⟨h2_0, h2_1⟩ := h2
  refine lv_aload_n hx hb dX1_muchAlike_9 rfl (lv_at hl 0 rfl) ?_
  refine va_get (D := (dC, dI)) (ci := 1) (v := .int tel) (C := RX1) (T := TX1) (N := 13) hx hb hts inX1 hown hK hP 0 rfl rfl 10 (by decide) lf39 (fun _ h9 => h9) rfl dX1_muchAlike_10 ?_
  refine lv_icmp_lt (tgt := 20) hx hb dX1_muchAlike_13 (by decide) (fun c3 => ?_) (fun c3 => ?_)
  · have dc3 : r1.toInt < tel.toInt := ltC rfl rfl c3
    refine lv_iconst (v := 0) hx hb dX1_muchAlike_20 (by decide) ?_
    exact W.zret (v := 0) hx hb hr (by decide) (fun tq ht hW => ⟨0, rfl, (Or.inr (⟨rfl, (show (bc (mar one.toNatClampNeg &&& mar two.toNatClampNeg)).toInt < tel.toInt from by (try rw [show (0 : Int32).toInt = 0 from (show (0 : Int32).toInt = 0 from rfl)]); omega)⟩)), ht⟩) (fun q h => by cases h) dX1_muchAlike_21
  · have dc3 : tel.toInt ≤ r1.toInt := nltC rfl rfl c3
    refine lv_iconst (v := 1) hx hb dX1_muchAlike_16 (by decide) ?_
    refine lv_goto (tgt := 21) hx hb dX1_muchAlike_17 (by decide) ?_
    exact W.zret (v := 1) hx hb hr (by decide) (fun tq ht hW => ⟨1, rfl, (Or.inl (⟨rfl, (show tel.toInt ≤ (bc (mar one.toNatClampNeg &&& mar two.toNatClampNeg)).toInt from by (try rw [show (1 : Int32).toInt = 1 from (show (1 : Int32).toInt = 1 from rfl)]); omega)⟩)), ht⟩) (fun q h => by cases h) dX1_muchAlike_21
set_option maxHeartbeats 4000000 in
set_option maxRecDepth 100000 in
theorem k_X1_crowds2 (l : Launch) (dC : Nat → ClassId) (dI : Nat → Nat → Nat) (cI cZ cQ : ClassId) (a : Nat → Nat) (top : Nat → Int32) (str : Nat → Int32) (gho : Nat → Int32) (ghs : Nat → Int32) (pto : Nat → Int32) (cro : Nat → Int32) (pla : Nat → Int32) (wal : Nat → Int32) (fal : Nat → Int32) (tel : Int32) (gai : Int32) (day : Int32) (mar : Nat → Int32) (ot : Int32) (co : Int32) (r_top : rg 48 (-1) (23) top) (r_str : rg 48 (0) (100) str) (r_gho : rg 48 (-1) (23) gho) (r_ghs : rg 48 (0) (100) ghs) (r_cro : rg 48 (0) (6) cro) (r_pla : rg 24 (-1) (47) pla) (r_fal : rg 11 (0) (30) fal) (r_gai : 0 ≤ gai.toInt ∧ gai.toInt ≤ 100) (r_day : 0 ≤ day.toInt ∧ day.toInt ≤ 400) (r_mar : rg 24 (0) (255) mar) (q0 : 0 ≤ ot.toInt) (q1 : ot.toInt ≤ 47) (q2 : 0 ≤ co.toInt) (q3 : co.toInt ≤ 47) : KR l yX1_crowds wsX1_crowds { frames := 3, cells := 0, slots := 0, locals := 64 } (dC, dI) (TY cI cZ cQ) (wCor cI cZ cQ a top str gho ghs pto cro pla wal fal tel gai day mar) [.ref (a 4), .int ot, .int co] (fun r : Int32 => ((((r = 1) ∧ (crdB mar top tel ot.toNatClampNeg co.toNatClampNeg = true)) ∨ ((r = 0) ∧ (crdB mar top tel ot.toNatClampNeg co.toNatClampNeg = false))))) := by
  refine Met.ofW (cc := cX1_crowds) (maxL := 3) (ret := (some .boolean)) (by decide) rfl ?_
  intro p e s m args below meth c s₁ B hml hv
  obtain ⟨rfl, hP, hK, hN⟩ := hv
  have hx := B.exec
  have hb := B.bytes
  have hr := B.returns
  have hts := atoms_spec (ws := wsX1_crowds) B.pre
  have hown : s.vm.findClass RX1 = some m.cls := findClass_of_methodNamed B.named
  have hlocks := B.notSynchronized
  have lf9 := hts (.fieldLink RX1 9 "PalaceOfRooms$Corners" "top" "[I") (List.mem_cons_of_mem _ (List.mem_append_left _ (List.mem_append_left _ (List.mem_of_getElem? (i := 0) rfl))))
  have inX1 : ∀ w ∈ wsX10, w ∈ wsX1_crowds := fun w h => List.mem_cons_of_mem _ (List.mem_append_left _ (List.mem_append_right _ h))
  have hl := lv_entry ([.ref (a 4), .int ot, .int co]) (n := 3) (Nat.le_of_ble_eq_true rfl)
  rw [lg_entry_eq]
  generalize (lg_sl ([.ref (a 4), .int ot, .int co]) ++ List.replicate (3 - (lg_sl ([.ref (a 4), .int ot, .int co])).length) Slot.unset).toArray = ls at hl ⊢
  have hl : lv_has ls 3 [(0, .ref (a 4)), (1, .int ot), (2, .int co)] := hl
  refine lv_iload_n hx hb dX1_crowds_0 rfl (lv_at hl 1 rfl) ?_
  refine lv_iload_n hx hb dX1_crowds_1 rfl (lv_at hl 2 rfl) ?_
  refine lv_icmp_eq (tgt := 48) hx hb dX1_crowds_2 (by decide) (fun c1 => ?_) (fun c1 => ?_)
  · have dc1 : ot.toInt = co.toInt := eqC rfl rfl c1
    refine lv_iconst (v := 0) hx hb dX1_crowds_48 (by decide) ?_
    exact W.zret (v := 0) hx hb hr (by decide) (fun tq ht hW => ⟨0, rfl, (Or.inr (⟨rfl, (show crdB mar top tel ot.toNatClampNeg co.toNatClampNeg = false from by (try rw [show (0 : Int32).toInt = 0 from (show (0 : Int32).toInt = 0 from rfl)]); (first | exact crd_yes (by omega) (by omega) (by omega) (by assumption) (by assumption) (by omega) | exact crd_eq (by assumption) | exact crd_t1 (by assumption) | exact crd_t2 (by assumption) | exact crd_no (by omega)))⟩)), ht⟩) (fun q h => by cases h) dX1_crowds_49
  · have dc1 : ot.toInt ≠ co.toInt := neC rfl rfl c1
    refine lv_aload_n hx hb dX1_crowds_5 rfl (lv_at hl 0 rfl) ?_
    refine va_get (D := (dC, dI)) (ci := 1) (v := .ref (a 5)) (C := RX1) (T := TX1) (N := 13) hx hb hts inX1 hown hK hP 0 rfl rfl 1 (by decide) lf9 (fun _ h9 => h9) rfl dX1_crowds_6 ?_
    refine lv_iload_n hx hb dX1_crowds_9 rfl (lv_at hl 1 rfl) ?_
    have b2 : vp_in ot 48 := inC rfl (by omega) (by omega)
    refine va_iald hx hb hK hP 1 0 rfl rfl b2 dX1_crowds_10 ?_
    have g3 : -1 ≤ (top ot.toNatClampNeg).toInt ∧ (top ot.toNatClampNeg).toInt ≤ 23 := rg_at r_top b2
    refine lv_iconst (v := (-1)) hx hb dX1_crowds_11 (by decide) ?_
    refine lv_icmp_eq (tgt := 48) hx hb dX1_crowds_12 (by decide) (fun c4 => ?_) (fun c4 => ?_)
    · have dc4 : (top ot.toNatClampNeg).toInt = (-1) := eqC rfl (show ((-1) : Int32).toInt = (-1) from rfl) c4
      refine lv_iconst (v := 0) hx hb dX1_crowds_48 (by decide) ?_
      exact W.zret (v := 0) hx hb hr (by decide) (fun tq ht hW => ⟨0, rfl, (Or.inr (⟨rfl, (show crdB mar top tel ot.toNatClampNeg co.toNatClampNeg = false from by (try rw [show (0 : Int32).toInt = 0 from (show (0 : Int32).toInt = 0 from rfl)]); (first | exact crd_yes (by omega) (by omega) (by omega) (by assumption) (by assumption) (by omega) | exact crd_eq (by assumption) | exact crd_t1 (by assumption) | exact crd_t2 (by assumption) | exact crd_no (by omega)))⟩)), ht⟩) (fun q h => by cases h) dX1_crowds_49
    · have dc4 : 0 ≤ (top ot.toNatClampNeg).toInt := ka_lo (by omega) (neC rfl (show ((-1) : Int32).toInt = (-1) from rfl) c4)
      refine lv_aload_n hx hb dX1_crowds_15 rfl (lv_at hl 0 rfl) ?_
      refine va_get (D := (dC, dI)) (ci := 1) (v := .ref (a 5)) (C := RX1) (T := TX1) (N := 13) hx hb hts inX1 hown hK hP 0 rfl rfl 1 (by decide) lf9 (fun _ h9 => h9) rfl dX1_crowds_16 ?_
      refine lv_iload_n hx hb dX1_crowds_19 rfl (lv_at hl 2 rfl) ?_
      have b5 : vp_in co 48 := inC rfl (by omega) (by omega)
      refine va_iald hx hb hK hP 1 0 rfl rfl b5 dX1_crowds_20 ?_
      have g6 : -1 ≤ (top co.toNatClampNeg).toInt ∧ (top co.toNatClampNeg).toInt ≤ 23 := rg_at r_top b5
      refine lv_iconst (v := (-1)) hx hb dX1_crowds_21 (by decide) ?_
      refine lv_icmp_eq (tgt := 48) hx hb dX1_crowds_22 (by decide) (fun c7 => ?_) (fun c7 => ?_)
      · have dc7 : (top co.toNatClampNeg).toInt = (-1) := eqC rfl (show ((-1) : Int32).toInt = (-1) from rfl) c7
        refine lv_iconst (v := 0) hx hb dX1_crowds_48 (by decide) ?_
        exact W.zret (v := 0) hx hb hr (by decide) (fun tq ht hW => ⟨0, rfl, (Or.inr (⟨rfl, (show crdB mar top tel ot.toNatClampNeg co.toNatClampNeg = false from by (try rw [show (0 : Int32).toInt = 0 from (show (0 : Int32).toInt = 0 from rfl)]); (first | exact crd_yes (by omega) (by omega) (by omega) (by assumption) (by assumption) (by omega) | exact crd_eq (by assumption) | exact crd_t1 (by assumption) | exact crd_t2 (by assumption) | exact crd_no (by omega)))⟩)), ht⟩) (fun q h => by cases h) dX1_crowds_49
      · have dc7 : 0 ≤ (top co.toNatClampNeg).toInt := ka_lo (by omega) (neC rfl (show ((-1) : Int32).toInt = (-1) from rfl) c7)
        refine lv_aload_n hx hb dX1_crowds_25 rfl (lv_at hl 0 rfl) ?_
        refine lv_aload_n hx hb dX1_crowds_26 rfl (lv_at hl 0 rfl) ?_
        refine va_get (D := (dC, dI)) (ci := 1) (v := .ref (a 5)) (C := RX1) (T := TX1) (N := 13) hx hb hts inX1 hown hK hP 0 rfl rfl 1 (by decide) lf9 (fun _ h9 => h9) rfl dX1_crowds_27 ?_
        refine lv_iload_n hx hb dX1_crowds_30 rfl (lv_at hl 1 rfl) ?_
        have b8 : vp_in ot 48 := inC rfl (by omega) (by omega)
        refine va_iald hx hb hK hP 1 0 rfl rfl b8 dX1_crowds_31 ?_
        have g9 : -1 ≤ (top ot.toNatClampNeg).toInt ∧ (top ot.toNatClampNeg).toInt ≤ 23 := rg_at r_top b8
        refine lv_aload_n hx hb dX1_crowds_32 rfl (lv_at hl 0 rfl) ?_
        refine va_get (D := (dC, dI)) (ci := 1) (v := .ref (a 5)) (C := RX1) (T := TX1) (N := 13) hx hb hts inX1 hown hK hP 0 rfl rfl 1 (by decide) lf9 (fun _ h9 => h9) rfl dX1_crowds_33 ?_
        refine lv_iload_n hx hb dX1_crowds_36 rfl (lv_at hl 2 rfl) ?_
        have b10 : vp_in co 48 := inC rfl (by omega) (by omega)
        refine va_iald hx hb hK hP 1 0 rfl rfl b10 dX1_crowds_37 ?_
        have g11 : -1 ≤ (top co.toNatClampNeg).toInt ∧ (top co.toNatClampNeg).toInt ≤ 23 := rg_at r_top b10
        refine rdV (As := [.int (top ot.toNatClampNeg), .int (top co.toNatClampNeg)]) (rest := []) ⟨hx, hb, hml, hown, hts⟩ (k_X1_muchAlike2 l dC dI cI cZ cQ a top str gho ghs pto cro pla wal fal tel gai day mar (top ot.toNatClampNeg) (top co.toNatClampNeg) r_top r_str r_gho r_ghs r_cro r_pla r_fal r_gai r_day r_mar (by omega) (by omega) (by omega) (by omega)) (cwV 2 hts gX1_crowds_X1_muchAlike rfl rfl rfl (by decide +kernel) ⟨Nat.le_of_ble_eq_true rfl, Nat.le_of_ble_eq_true rfl⟩) hP hK hN [0, 1, 2, 3, 4, 5, 6, 7, 8, 9, 10, 11] rfl 0 1 rfl rfl rfl hl.1 rfl (Nat.le_of_ble_eq_true rfl) dX1_crowds_38 ⟨Nat.le_of_ble_eq_true rfl, Nat.le_of_ble_eq_true rfl⟩ (fun r12 h13 => ?_)
        have h13 : ((((r12 = 1) ∧ (tel.toInt ≤ (bc (mar (top ot.toNatClampNeg).toNatClampNeg &&& mar (top co.toNatClampNeg).toNatClampNeg)).toInt)) ∨ ((r12 = 0) ∧ ((bc (mar (top ot.toNatClampNeg).toNatClampNeg &&& mar (top co.toNatClampNeg).toNatClampNeg)).toInt < tel.toInt)))) := h13
        rcases h13 with (⟨rfl, h13_a0⟩ | ⟨rfl, h13_a0⟩)
        · refine lv_if_eq (tgt := 48) hx hb dX1_crowds_41 (by decide) (fun c9 => absurd c9 (by decide)) (fun _ => ?_)
          refine lv_iconst (v := 1) hx hb dX1_crowds_44 (by decide) ?_
          refine lv_goto (tgt := 49) hx hb dX1_crowds_45 (by decide) ?_
          exact W.zret (v := 1) hx hb hr (by decide) (fun tq ht hW => ⟨1, rfl, (Or.inl (⟨rfl, (show crdB mar top tel ot.toNatClampNeg co.toNatClampNeg = true from by (try rw [show (1 : Int32).toInt = 1 from (show (1 : Int32).toInt = 1 from rfl)]); (first | exact crd_yes (by omega) (by omega) (by omega) (by assumption) (by assumption) (by omega) | exact crd_eq (by assumption) | exact crd_t1 (by assumption) | exact crd_t2 (by assumption) | exact crd_no (by omega)))⟩)), ht⟩) (fun q h => by cases h) dX1_crowds_49
        · refine lv_if_eq (tgt := 48) hx hb dX1_crowds_41 (by decide) (fun _ => ?_) (fun c9 => absurd (by decide) c9)
          refine lv_iconst (v := 0) hx hb dX1_crowds_48 (by decide) ?_
          exact W.zret (v := 0) hx hb hr (by decide) (fun tq ht hW => ⟨0, rfl, (Or.inr (⟨rfl, (show crdB mar top tel ot.toNatClampNeg co.toNatClampNeg = false from by (try rw [show (0 : Int32).toInt = 0 from (show (0 : Int32).toInt = 0 from rfl)]); (first | exact crd_yes (by omega) (by omega) (by omega) (by assumption) (by assumption) (by omega) | exact crd_eq (by assumption) | exact crd_t1 (by assumption) | exact crd_t2 (by assumption) | exact crd_no (by omega)))⟩)), ht⟩) (fun q h => by cases h) dX1_crowds_49
set_option maxHeartbeats 4000000 in
set_option maxRecDepth 100000 in
theorem k_X1_countCrowds2 (l : Launch) (dC : Nat → ClassId) (dI : Nat → Nat → Nat) (cI cZ cQ : ClassId) (a : Nat → Nat) (top : Nat → Int32) (str : Nat → Int32) (gho : Nat → Int32) (ghs : Nat → Int32) (pto : Nat → Int32) (cro : Nat → Int32) (pla : Nat → Int32) (wal : Nat → Int32) (fal : Nat → Int32) (tel : Int32) (gai : Int32) (day : Int32) (mar : Nat → Int32) (sz : Nat) (r_top : rg 48 (-1) (23) top) (r_str : rg 48 (0) (100) str) (r_gho : rg 48 (-1) (23) gho) (r_ghs : rg 48 (0) (100) ghs) (r_cro : rg 48 (0) (6) cro) (r_pla : rg 24 (-1) (47) pla) (r_fal : rg 11 (0) (30) fal) (r_gai : 0 ≤ gai.toInt ∧ gai.toInt ≤ 100) (r_day : 0 ≤ day.toInt ∧ day.toInt ≤ 400) (r_mar : rg 24 (0) (255) mar) : KV l yX1_countCrowds wsX1_countCrowds { frames := 4, cells := 0, slots := 0, locals := 86 } (dC, dI) (TY cI cZ cQ) (wCor cI cZ cQ a top str gho ghs pto cro pla wal fal tel gai day mar) [.ref (a 4)] sz 0 0 (fun (u : US) => (∀ j : Nat, j < 48 → ((u.1 0) j).toInt = cwF mar top tel j (j - j % 6) 6) ∧ (rg 48 (0) (6) (u.1 0))) (fun u : US => (wCor cI cZ cQ a top str gho ghs pto (u.1 0) pla wal fal tel gai day mar)) := by
  refine Met.ofW (cc := cX1_countCrowds) (maxL := 4) (ret := none) (by decide) rfl ?_
  intro p e s m args below meth c s₁ B hml hv
  obtain ⟨rfl, hsz, hP, hK, hD0, hN⟩ := hv
  have hx := B.exec
  have hb := B.bytes
  have hr := B.returns
  have hts := atoms_spec (ws := wsX1_countCrowds) B.pre
  have hown : s.vm.findClass RX1 = some m.cls := findClass_of_methodNamed B.named
  have hlocks := B.notSynchronized
  have lf27 := hts (.fieldLink RX1 27 "PalaceOfRooms$Corners" "crowd" "[I") (List.mem_cons_of_mem _ (List.mem_append_left _ (List.mem_append_left _ (List.mem_append_left _ (List.mem_of_getElem? (i := 0) rfl)))))
  have inX1 : ∀ w ∈ wsX10, w ∈ wsX1_countCrowds := fun w h => List.mem_cons_of_mem _ (List.mem_append_left _ (List.mem_append_right _ h))
  subst hsz
  have hD := hD0.self (sz := s.heap.size)
  generalize hAe : va_A (wCor cI cZ cQ a top str gho ghs pto cro pla wal fal tel gai day mar) s.heap.size = A at hD ⊢
  have hA : ∀ q : Nat, s.heap.size ≤ q → A q := fun q h => by rw [← hAe]; exact Or.inr h
  have hS : va_S A s.heap s.heap [] := va_S.rf
  have hl := lv_entry ([.ref (a 4)]) (n := 4) (Nat.le_of_ble_eq_true rfl)
  rw [lg_entry_eq]
  generalize (lg_sl ([.ref (a 4)]) ++ List.replicate (4 - (lg_sl ([.ref (a 4)])).length) Slot.unset).toArray = ls at hl ⊢
  have hl : lv_has ls 4 [(0, .ref (a 4))] := hl
  refine lv_iconst (v := 0) hx hb dX1_countCrowds_0 (by decide) ?_
  refine lv_istore_n (lv' := [(1, .int 0), (0, .ref (a 4))]) hx hb dX1_countCrowds_1 rfl hl (by decide) rfl (fun ls hl => ?_)
  have L2 : ∀ (nn : Nat) (y2_1 : Int32) (cro_2 : Nat → Int32) (H : Heap) (locs : List Loc) (ls : Array Slot), (rg 48 (0) (6) cro_2) → (0 ≤ (y2_1.toInt)) → ((y2_1.toInt) ≤ 48) → (∀ j : Nat, (j : Int) < (y2_1.toInt) → (cro_2 j).toInt = cwF mar top tel j (j - j % 6) 6) → (48 - (y2_1.toInt)).toNat < nn → va_P (dC, dI) vwCl (wCor cI cZ cQ a top str gho ghs pto cro_2 pla wal fal tel gai day mar) H → va_D A (wCor cI cZ cQ a top str gho ghs pto cro_2 pla wal fal tel gai day mar) → va_S A s.heap H locs → lv_has ls 4 [(0, .ref (a 4)), (1, .int y2_1)] → W p l e (headSpec wsX1_countCrowds { frames := 4, cells := 0, slots := 0, locals := 86 }).room s m ([.ref (a 4)] : List Value).toArray below meth c H locs 0 0 (MQ below (va_Qv (fun (u : US) => (∀ j : Nat, j < 48 → ((u.1 0) j).toInt = cwF mar top tel j (j - j % 6) 6) ∧ (rg 48 (0) (6) (u.1 0))) (Bw (dC, dI) A (fun u : US => (wCor cI cZ cQ a top str gho ghs pto (u.1 0) pla wal fal tel gai day mar))) A) ([.ref (a 4)] : List Value).toArray s 0 0 A) (F0 m 2 ls []) := by
    intro nn
    induction nn with
    | zero =>
      intro y2_1 cro_2 H locs ls r_cro_2 i2_0 i2_1 i2_2 hm2
      exact absurd hm2 (Nat.not_lt_zero _)
    | succ nn ih2 =>
      intro y2_1 cro_2 H locs ls r_cro_2 i2_0 i2_1 i2_2 hm2 hP hD hS hl
      refine lv_iload_n hx hb dX1_countCrowds_2 rfl (lv_at hl 1 rfl) ?_
      refine lv_bipush (v := 48) hx hb dX1_countCrowds_3 (by decide) ?_
      refine lv_icmp_ge (tgt := 63) hx hb dX1_countCrowds_5 (by decide) (fun c1 => ?_) (fun c1 => ?_)
      · have dc1 : 48 ≤ y2_1.toInt := leC (show (48 : Int32).toInt = 48 from rfl) rfl c1
        exact W.vret hx hb hr (fun tq ht hW => ⟨⟨(uS [cro_2] 0 (fun _ => 0)), rfl, ⟨(show ∀ j : Nat, j < 48 → (cro_2 j).toInt = cwF mar top tel j (j - j % 6) 6 from by (intro j hj; exact i2_2 j (by omega))), r_cro_2⟩, by rw [ht]; exact hP, hD⟩, hS.F ht⟩) hS.2.2 dX1_countCrowds_63
      · have dc1 : y2_1.toInt < 48 := nleC (show (48 : Int32).toInt = 48 from rfl) rfl c1
        refine lv_aload_n hx hb dX1_countCrowds_8 rfl (lv_at hl 0 rfl) ?_
        refine va_get (D := (dC, dI)) (ci := 1) (v := .ref (a 10)) (C := RX1) (T := TX1) (N := 13) hx hb hts inX1 hown hK hP 0 rfl rfl 6 (by decide) lf27 (fun _ h9 => h9) rfl dX1_countCrowds_9 ?_
        refine lv_iload_n hx hb dX1_countCrowds_12 rfl (lv_at hl 1 rfl) ?_
        refine lv_iconst (v := 0) hx hb dX1_countCrowds_13 (by decide) ?_
        have b2 : vp_in y2_1 48 := inC rfl (by omega) (by omega)
        have g3 : rg 48 (0) (6) (upd cro_2 y2_1.toNatClampNeg 0) := rg_upd r_cro_2 (show (0 : Int32).toInt = 0 from rfl) (by omega) (by omega)
        refine va_iast hx hb hK hP hD hS 6 0 rfl rfl b2 dX1_countCrowds_14 (fun H locs hP hD hS => ?_)
        obtain ⟨cro_u4, ecro_u4⟩ : ∃ f : Nat → Int32, f = upd cro_2 y2_1.toNatClampNeg 0 := ⟨_, rfl⟩
        have rcro_u4 : rg 48 (0) (6) cro_u4 := by rw [ecro_u4]; exact g3
        have hP : va_P (dC, dI) vwCl (wCor cI cZ cQ a top str gho ghs pto cro_u4 pla wal fal tel gai day mar) H := by rw [ecro_u4]; exact hP
        have hD : va_D A (wCor cI cZ cQ a top str gho ghs pto cro_u4 pla wal fal tel gai day mar) := by rw [ecro_u4]; exact hD
        refine lv_iload_n hx hb dX1_countCrowds_15 rfl (lv_at hl 1 rfl) ?_
        refine lv_iload_n hx hb dX1_countCrowds_16 rfl (lv_at hl 1 rfl) ?_
        refine lv_bipush (v := 6) hx hb dX1_countCrowds_17 (by decide) ?_
        refine lv_irem hx hb dX1_countCrowds_19 (by decide) ?_
        have f5 : (y2_1 - y2_1 / 6 * 6).toInt = (y2_1.toInt) % (6) := remC rfl (show (6 : Int32).toInt = 6 from rfl) (by omega) (by omega)
        refine lv_isub hx hb dX1_countCrowds_20 ?_
        have f6 : (y2_1 - (y2_1 - y2_1 / 6 * 6)).toInt = (y2_1.toInt) - ((y2_1.toInt) % (6)) := subC rfl f5 (by omega) (by omega)
        refine lv_topi (fun x7 ex7 => ?_)
        have ix7 : x7.toInt = (y2_1.toInt) - ((y2_1.toInt) % (6)) := by rw [ex7]; exact f6
        refine lv_istore_n (lv' := [(2, .int x7), (0, .ref (a 4)), (1, .int y2_1)]) hx hb dX1_countCrowds_21 rfl hl (by decide) rfl (fun ls hl => ?_)
        refine lv_iload_n hx hb dX1_countCrowds_22 rfl (lv_at hl 0 rfl) ?_
        refine lv_istore_n (lv' := [(3, .int x7), (2, .int x7), (0, .ref (a 4)), (1, .int y2_1)]) hx hb dX1_countCrowds_23 rfl hl (by decide) rfl (fun ls hl => ?_)
        have L24 : ∀ (nn : Nat) (y24_3 : Int32) (cro_24 : Nat → Int32) (H : Heap) (locs : List Loc) (ls : Array Slot), (rg 48 (0) (6) cro_24) → (-5 ≤ (y24_3.toInt)) → ((y24_3.toInt) ≤ 53) → ((cro_24 y2_1.toNatClampNeg).toInt ≤ (y24_3.toInt) - (x7.toInt)) → ((x7.toInt) ≤ (y24_3.toInt)) → (∀ j : Nat, (j : Int) < (y2_1.toInt) → (cro_24 j).toInt = cwF mar top tel j (j - j % 6) 6) → ((cro_24 y2_1.toNatClampNeg).toInt = cwF mar top tel y2_1.toNatClampNeg x7.toNatClampNeg ((y24_3.toInt) - (x7.toInt)).toNat) → ((y24_3.toInt) ≤ (x7.toInt) + 6) → (53 - (y24_3.toInt)).toNat < nn → va_P (dC, dI) vwCl (wCor cI cZ cQ a top str gho ghs pto cro_24 pla wal fal tel gai day mar) H → va_D A (wCor cI cZ cQ a top str gho ghs pto cro_24 pla wal fal tel gai day mar) → va_S A s.heap H locs → lv_has ls 4 [(0, .ref (a 4)), (1, .int y2_1), (2, .int x7), (3, .int y24_3)] → W p l e (headSpec wsX1_countCrowds { frames := 4, cells := 0, slots := 0, locals := 86 }).room s m ([.ref (a 4)] : List Value).toArray below meth c H locs 0 0 (MQ below (va_Qv (fun (u : US) => (∀ j : Nat, j < 48 → ((u.1 0) j).toInt = cwF mar top tel j (j - j % 6) 6) ∧ (rg 48 (0) (6) (u.1 0))) (Bw (dC, dI) A (fun u : US => (wCor cI cZ cQ a top str gho ghs pto (u.1 0) pla wal fal tel gai day mar))) A) ([.ref (a 4)] : List Value).toArray s 0 0 A) (F0 m 24 ls []) := by
          intro nn
          induction nn with
          | zero =>
            intro y24_3 cro_24 H locs ls r_cro_24 i24_0 i24_1 i24_2 i24_3 i24_4 i24_5 i24_6 hm24
            exact absurd hm24 (Nat.not_lt_zero _)
          | succ nn ih24 =>
            intro y24_3 cro_24 H locs ls r_cro_24 i24_0 i24_1 i24_2 i24_3 i24_4 i24_5 i24_6 hm24 hP hD hS hl
            refine lv_iload_n hx hb dX1_countCrowds_24 rfl (lv_at hl 3 rfl) ?_
            refine lv_iload_n hx hb dX1_countCrowds_25 rfl (lv_at hl 2 rfl) ?_
            refine lv_bipush (v := 6) hx hb dX1_countCrowds_26 (by decide) ?_
            refine lv_iadd hx hb dX1_countCrowds_28 ?_
            have f8 : (x7 + 6).toInt = (x7.toInt) + (6) := addC rfl (show (6 : Int32).toInt = 6 from rfl) (by omega) (by omega)
            refine lv_icmp_ge (tgt := 57) hx hb dX1_countCrowds_29 (by decide) (fun c9 => ?_) (fun c9 => ?_)
            · have dc9 : (x7.toInt) + (6) ≤ y24_3.toInt := leC f8 rfl c9
              obtain ⟨z10, ez10⟩ : ∃ y : Int32, y = y2_1 + 1 := ⟨_, rfl⟩
              have iz10 : z10.toInt = y2_1.toInt + 1 := by rw [ez10]; exact addC rfl rfl (by omega) (by omega)
              refine lv_iinc (v := z10) (lv' := [(1, .int z10), (0, .ref (a 4)), (2, .int x7), (3, .int y24_3)]) hx hb dX1_countCrowds_57 hl (k := 1) rfl (by rw [ez10]; rfl) (by decide) rfl (fun ls hl => ?_)
              refine lv_goto (tgt := 2) hx hb dX1_countCrowds_60 (by decide) ?_
              exact ih2 z10 cro_24 _ _ _ r_cro_24 (by omega) (by omega) (by (first | (intro j hj; omega) | exact cw_next i24_4 i24_5 (by omega) (by omega) (by omega) (by omega))) (by omega) hP hD hS (lv_sub hl [1, 0] rfl)
            · have dc9 : y24_3.toInt < (x7.toInt) + (6) := nleC f8 rfl c9
              refine lv_aload_n hx hb dX1_countCrowds_32 rfl (lv_at hl 0 rfl) ?_
              refine lv_iload_n hx hb dX1_countCrowds_33 rfl (lv_at hl 3 rfl) ?_
              refine lv_iload_n hx hb dX1_countCrowds_34 rfl (lv_at hl 1 rfl) ?_
              refine rdV (As := [.int y24_3, .int y2_1]) (rest := []) ⟨hx, hb, hml, hown, hts⟩ (k_X1_crowds2 l dC dI cI cZ cQ a top str gho ghs pto cro_24 pla wal fal tel gai day mar y24_3 y2_1 r_top r_str r_gho r_ghs r_cro_24 r_pla r_fal r_gai r_day r_mar (by omega) (by omega) (by omega) (by omega)) (cwV 2 hts gX1_countCrowds_X1_crowds rfl rfl rfl (by decide +kernel) ⟨Nat.le_of_ble_eq_true rfl, Nat.le_of_ble_eq_true rfl⟩) hP hK hN [0, 1, 2, 3, 4, 5, 6, 7, 8, 9, 10, 11] rfl 0 1 rfl rfl rfl hl.1 rfl (Nat.le_of_ble_eq_true rfl) dX1_countCrowds_35 ⟨Nat.le_of_ble_eq_true rfl, Nat.le_of_ble_eq_true rfl⟩ (fun r11 h12 => ?_)
              have h12 : ((((r11 = 1) ∧ (crdB mar top tel y24_3.toNatClampNeg y2_1.toNatClampNeg = true)) ∨ ((r11 = 0) ∧ (crdB mar top tel y24_3.toNatClampNeg y2_1.toNatClampNeg = false)))) := h12
              rcases h12 with (⟨rfl, h12_a0⟩ | ⟨rfl, h12_a0⟩)
              · refine lv_if_eq (tgt := 51) hx hb dX1_countCrowds_38 (by decide) (fun c9 => absurd c9 (by decide)) (fun _ => ?_)
                refine lv_aload_n hx hb dX1_countCrowds_41 rfl (lv_at hl 0 rfl) ?_
                refine va_get (D := (dC, dI)) (ci := 1) (v := .ref (a 10)) (C := RX1) (T := TX1) (N := 13) hx hb hts inX1 hown hK hP 0 rfl rfl 6 (by decide) lf27 (fun _ h9 => h9) rfl dX1_countCrowds_42 ?_
                refine lv_iload_n hx hb dX1_countCrowds_45 rfl (lv_at hl 1 rfl) ?_
                refine lv_dup2_11 hx hb dX1_countCrowds_46 rfl rfl ?_
                have b13 : vp_in y2_1 48 := inC rfl (by omega) (by omega)
                refine va_iald hx hb hK hP 6 0 rfl rfl b13 dX1_countCrowds_47 ?_
                have g14 : 0 ≤ (cro_24 y2_1.toNatClampNeg).toInt ∧ (cro_24 y2_1.toNatClampNeg).toInt ≤ 6 := rg_at r_cro_24 b13
                refine lv_iconst (v := 1) hx hb dX1_countCrowds_48 (by decide) ?_
                refine lv_iadd hx hb dX1_countCrowds_49 ?_
                have f15 : ((cro_24 y2_1.toNatClampNeg) + 1).toInt = ((cro_24 y2_1.toNatClampNeg).toInt) + (1) := addC rfl (show (1 : Int32).toInt = 1 from rfl) (by omega) (by omega)
                refine lv_topi (fun x16 ex16 => ?_)
                have ix16 : x16.toInt = ((cro_24 y2_1.toNatClampNeg).toInt) + (1) := by rw [ex16]; exact f15
                have b17 : vp_in y2_1 48 := inC rfl (by omega) (by omega)
                have g18 : rg 48 (0) (6) (upd cro_24 y2_1.toNatClampNeg x16) := rg_upd r_cro_24 rfl (by omega) (by omega)
                refine va_iast hx hb hK hP hD hS 6 0 rfl rfl b17 dX1_countCrowds_50 (fun H locs hP hD hS => ?_)
                obtain ⟨cro_u19, ecro_u19⟩ : ∃ f : Nat → Int32, f = upd cro_24 y2_1.toNatClampNeg x16 := ⟨_, rfl⟩
                have rcro_u19 : rg 48 (0) (6) cro_u19 := by rw [ecro_u19]; exact g18
                have hP : va_P (dC, dI) vwCl (wCor cI cZ cQ a top str gho ghs pto cro_u19 pla wal fal tel gai day mar) H := by rw [ecro_u19]; exact hP
                have hD : va_D A (wCor cI cZ cQ a top str gho ghs pto cro_u19 pla wal fal tel gai day mar) := by rw [ecro_u19]; exact hD
                obtain ⟨z20, ez20⟩ : ∃ y : Int32, y = y24_3 + 1 := ⟨_, rfl⟩
                have iz20 : z20.toInt = y24_3.toInt + 1 := by rw [ez20]; exact addC rfl rfl (by omega) (by omega)
                refine lv_iinc (v := z20) (lv' := [(3, .int z20), (0, .ref (a 4)), (1, .int y2_1), (2, .int x7)]) hx hb dX1_countCrowds_51 hl (k := 3) rfl (by rw [ez20]; rfl) (by decide) rfl (fun ls hl => ?_)
                refine lv_goto (tgt := 24) hx hb dX1_countCrowds_54 (by decide) ?_
                exact ih24 z20 cro_u19 _ _ _ rcro_u19 (by omega) (by omega) (by (first | omega | (subst_vars; simp only [pk_us, Int32.toInt_zero]; omega))) (by omega) (by (first | exact cw_keep (by assumption) (by omega) i24_4 | exact i24_4 | exact cw_keep (by assumption) (by omega) i2_2)) (by (first | exact cw_yes (by assumption) (by omega) i24_5 (by assumption) (by omega) (by omega) (by omega) (by omega) | exact cw_no i24_5 (by assumption) (by omega) (by omega) (by omega) (by omega) | exact cw_zero (by assumption) (by first | rfl | assumption) (by omega))) (by omega) (by omega) hP hD hS (lv_sub hl [1, 2, 3, 0] rfl)
              · refine lv_if_eq (tgt := 51) hx hb dX1_countCrowds_38 (by decide) (fun _ => ?_) (fun c9 => absurd (by decide) c9)
                obtain ⟨z21, ez21⟩ : ∃ y : Int32, y = y24_3 + 1 := ⟨_, rfl⟩
                have iz21 : z21.toInt = y24_3.toInt + 1 := by rw [ez21]; exact addC rfl rfl (by omega) (by omega)
                refine lv_iinc (v := z21) (lv' := [(3, .int z21), (0, .ref (a 4)), (1, .int y2_1), (2, .int x7)]) hx hb dX1_countCrowds_51 hl (k := 3) rfl (by rw [ez21]; rfl) (by decide) rfl (fun ls hl => ?_)
                refine lv_goto (tgt := 24) hx hb dX1_countCrowds_54 (by decide) ?_
                exact ih24 z21 cro_24 _ _ _ r_cro_24 (by omega) (by omega) (by (first | omega | (subst_vars; simp only [pk_us, Int32.toInt_zero]; omega))) (by omega) (by (first | exact cw_keep (by assumption) (by omega) i24_4 | exact i24_4 | exact cw_keep (by assumption) (by omega) i2_2)) (by (first | exact cw_yes (by assumption) (by omega) i24_5 (by assumption) (by omega) (by omega) (by omega) (by omega) | exact cw_no i24_5 (by assumption) (by omega) (by omega) (by omega) (by omega) | exact cw_zero (by assumption) (by first | rfl | assumption) (by omega))) (by omega) (by omega) hP hD hS (lv_sub hl [1, 2, 3, 0] rfl)
        exact L24 _ x7 cro_u4 _ _ _ rcro_u4 (by omega) (by omega) (by (first | omega | (subst_vars; simp only [pk_us, Int32.toInt_zero]; omega))) (by omega) (by (first | exact cw_keep (by assumption) (by omega) i24_4 | exact i24_4 | exact cw_keep (by assumption) (by omega) i2_2)) (by (first | exact cw_zero (by assumption) (by first | rfl | assumption) (by omega) | exact cw_yes (by assumption) (by omega) i24_5 (by assumption) (by omega) (by omega) (by omega) (by omega) | exact cw_no i24_5 (by assumption) (by omega) (by omega) (by omega) (by omega))) (by omega) (Nat.lt_succ_self _) hP hD hS (lv_sub hl [2, 3, 1, 0] rfl)
  have kc22 : (0 : Int32).toInt = 0 := rfl
  exact L2 _ 0 cro _ _ _ r_cro (by omega) (by omega) (by (first | (intro j hj; omega) | exact cw_next i24_4 i24_5 (by omega) (by omega) (by omega) (by omega))) (Nat.lt_succ_self _) hP hD hS (lv_sub hl [1, 0] rfl)
set_option maxHeartbeats 4000000 in
set_option maxRecDepth 100000 in
theorem k_X1_fallen2 (l : Launch) (dC : Nat → ClassId) (dI : Nat → Nat → Nat) (cI cZ cQ : ClassId) (a : Nat → Nat) (top : Nat → Int32) (str : Nat → Int32) (gho : Nat → Int32) (ghs : Nat → Int32) (pto : Nat → Int32) (cro : Nat → Int32) (pla : Nat → Int32) (wal : Nat → Int32) (fal : Nat → Int32) (tel : Int32) (gai : Int32) (day : Int32) (mar : Nat → Int32) (fr : Int32) (mo : Int32) (r_top : rg 48 (-1) (23) top) (r_str : rg 48 (0) (100) str) (r_gho : rg 48 (-1) (23) gho) (r_ghs : rg 48 (0) (100) ghs) (r_cro : rg 48 (0) (6) cro) (r_pla : rg 24 (-1) (47) pla) (r_fal : rg 11 (0) (30) fal) (r_gai : 0 ≤ gai.toInt ∧ gai.toInt ≤ 100) (r_day : 0 ≤ day.toInt ∧ day.toInt ≤ 400) (r_mar : rg 24 (0) (255) mar) (q0 : 0 ≤ fr.toInt) (q1 : fr.toInt ≤ 100) (q2 : 0 ≤ mo.toInt) (q3 : mo.toInt ≤ 6) : KR l yX1_fallen wsX1_fallen { frames := 1, cells := 0, slots := 0, locals := 24 } (dC, dI) (TY cI cZ cQ) (wCor cI cZ cQ a top str gho ghs pto cro pla wal fal tel gai day mar) [.ref (a 4), .int fr, .int mo] (fun r : Int32 => (0 ≤ r.toInt) ∧ (r.toInt ≤ fr.toInt) ∧ (r.toInt ≤ 100) ∧ (r.toInt = fl fal fr.toInt mo.toInt)) := by
  refine Met.ofW (cc := cX1_fallen) (maxL := 3) (ret := (some .int)) (by decide) rfl ?_
  intro p e s m args below meth c s₁ B hml hv
  obtain ⟨rfl, hP, hK, hN⟩ := hv
  have hx := B.exec
  have hb := B.bytes
  have hr := B.returns
  have hts := atoms_spec (ws := wsX1_fallen) B.pre
  have hown : s.vm.findClass RX1 = some m.cls := findClass_of_methodNamed B.named
  have hlocks := B.notSynchronized
  have lf36 := hts (.fieldLink RX1 36 "PalaceOfRooms$Corners" "fallOf" "[I") (List.mem_cons_of_mem _ (List.mem_append_left _ (List.mem_of_getElem? (i := 0) rfl)))
  have inX1 : ∀ w ∈ wsX10, w ∈ wsX1_fallen := fun w h => List.mem_cons_of_mem _ (List.mem_append_right _ h)
  have hl := lv_entry ([.ref (a 4), .int fr, .int mo]) (n := 3) (Nat.le_of_ble_eq_true rfl)
  rw [lg_entry_eq]
  generalize (lg_sl ([.ref (a 4), .int fr, .int mo]) ++ List.replicate (3 - (lg_sl ([.ref (a 4), .int fr, .int mo])).length) Slot.unset).toArray = ls at hl ⊢
  have hl : lv_has ls 3 [(0, .ref (a 4)), (1, .int fr), (2, .int mo)] := hl
  refine lv_iconst (v := 0) hx hb dX1_fallen_0 (by decide) ?_
  refine lv_iload_n hx hb dX1_fallen_1 rfl (lv_at hl 1 rfl) ?_
  refine lv_aload_n hx hb dX1_fallen_2 rfl (lv_at hl 0 rfl) ?_
  refine va_get (D := (dC, dI)) (ci := 1) (v := .ref (a 13)) (C := RX1) (T := TX1) (N := 13) hx hb hts inX1 hown hK hP 0 rfl rfl 9 (by decide) lf36 (fun _ h9 => h9) rfl dX1_fallen_3 ?_
  refine lv_iload_n hx hb dX1_fallen_6 rfl (lv_at hl 1 rfl) ?_
  refine lv_bipush (v := 10) hx hb dX1_fallen_7 (by decide) ?_
  refine lv_idiv hx hb dX1_fallen_9 (by decide) ?_
  have f1 : (fr / 10).toInt = (fr.toInt) / (10) := divC rfl (show (10 : Int32).toInt = 10 from rfl) (by omega) (by omega)
  have b2 : vp_in (fr / 10) 11 := inC f1 (by omega) (by omega)
  refine va_iald hx hb hK hP 9 0 rfl rfl b2 dX1_fallen_10 ?_
  have g3 : 0 ≤ (fal (fr / 10).toNatClampNeg).toInt ∧ (fal (fr / 10).toNatClampNeg).toInt ≤ 30 := rg_at r_fal b2
  refine lv_isub hx hb dX1_fallen_11 ?_
  have f4 : (fr - (fal (fr / 10).toNatClampNeg)).toInt = (fr.toInt) - ((fal (fr / 10).toNatClampNeg).toInt) := subC rfl rfl (by omega) (by omega)
  refine lv_iload_n hx hb dX1_fallen_12 rfl (lv_at hl 2 rfl) ?_
  refine lv_isub hx hb dX1_fallen_13 ?_
  have f5 : ((fr - (fal (fr / 10).toNatClampNeg)) - mo).toInt = ((fr.toInt) - ((fal (fr / 10).toNatClampNeg).toInt)) - (mo.toInt) := subC f4 rfl (by omega) (by omega)
  refine va_mmax hx hb (by rw [hml]; exact hl.1.symm) hown (hts (.methodLink RX1 90 Lib.Math.max.name) (List.mem_cons_of_mem _ (List.mem_append_left _ (List.mem_of_getElem? (i := 1) rfl)))) (hts (.static Lib.Math.max.name) (List.mem_cons_of_mem _ (List.mem_append_left _ (List.mem_of_getElem? (i := 2) rfl)))) (hts (.initialized "java/lang/Math") (List.mem_cons_of_mem _ (List.mem_append_left _ (List.mem_of_getElem? (i := 3) rfl)))) (hts (.code Lib.Math.max.name Lib.Math.max.code 2 (some .int)) (List.mem_cons_of_mem _ (List.mem_append_left _ (List.mem_of_getElem? (i := 4) rfl)))) (Nat.le_of_ble_eq_true rfl) (Nat.le_of_ble_eq_true rfl) (Nat.le_of_ble_eq_true rfl) (Nat.le_of_ble_eq_true rfl) dX1_fallen_14 ?_
  have f6 : (if (0 : Int32) < (fr - (fal (fr / 10).toNatClampNeg)) - mo then (fr - (fal (fr / 10).toNatClampNeg)) - mo else 0 : Int32).toInt = max (0) (((fr.toInt) - ((fal (fr / 10).toNatClampNeg).toInt)) - (mo.toInt)) := maxC (show (0 : Int32).toInt = 0 from rfl) f5
  refine lv_topi (fun x7 ex7 => ?_)
  have ix7 : x7.toInt = max (0) (((fr.toInt) - ((fal (fr / 10).toNatClampNeg).toInt)) - (mo.toInt)) := by rw [ex7]; exact f6
  exact W.iret (v := x7) hx hb hr (fun tq ht hW => ⟨x7, rfl, ⟨(show 0 ≤ x7.toInt from by omega), (show x7.toInt ≤ fr.toInt from by omega), (show x7.toInt ≤ 100 from by omega), (show x7.toInt = fl fal fr.toInt mo.toInt from by (unfold fl; rw [← clC (x := fr / 10) (X := fr.toInt / 10) (by assumption)]; omega))⟩, ht⟩) (fun q h => by cases h) dX1_fallen_17
set_option maxHeartbeats 4000000 in
set_option maxRecDepth 100000 in
theorem k_X1_strengthBehind2 (l : Launch) (dC : Nat → ClassId) (dI : Nat → Nat → Nat) (cI cZ cQ : ClassId) (a : Nat → Nat) (top : Nat → Int32) (str : Nat → Int32) (gho : Nat → Int32) (ghs : Nat → Int32) (pto : Nat → Int32) (cro : Nat → Int32) (pla : Nat → Int32) (wal : Nat → Int32) (fal : Nat → Int32) (tel : Int32) (gai : Int32) (day : Int32) (mar : Nat → Int32) (co : Int32) (n : Int32) (wd : Int32) (r_top : rg 48 (-1) (23) top) (r_str : rg 48 (0) (100) str) (r_gho : rg 48 (-1) (23) gho) (r_ghs : rg 48 (0) (100) ghs) (r_cro : rg 48 (0) (6) cro) (r_pla : rg 24 (-1) (47) pla) (r_fal : rg 11 (0) (30) fal) (r_gai : 0 ≤ gai.toInt ∧ gai.toInt ≤ 100) (r_day : 0 ≤ day.toInt ∧ day.toInt ≤ 400) (r_mar : rg 24 (0) (255) mar) (q0 : 0 ≤ co.toInt) (q1 : co.toInt ≤ 47) (q2 : 0 ≤ n.toInt) (q3 : n.toInt ≤ 60) (q4 : wd.toInt = 0) : KR l yX1_strengthBehind wsX1_strengthBehind { frames := 2, cells := 0, slots := 0, locals := 46 } (dC, dI) (TY cI cZ cQ) (wCor cI cZ cQ a top str gho ghs pto cro pla wal fal tel gai day mar) [.ref (a 4), .int co, .int n, .int wd] (fun r : Int32 => (0 ≤ r.toInt) ∧ (r.toInt ≤ 100) ∧ (r.toInt = itf fal (cro co.toNatClampNeg).toInt (str co.toNatClampNeg).toInt n.toInt.toNat)) := by
  refine Met.ofW (cc := cX1_strengthBehind) (maxL := 6) (ret := (some .int)) (by decide) rfl ?_
  intro p e s m args below meth c s₁ B hml hv
  obtain ⟨rfl, hP, hK, hN⟩ := hv
  have hx := B.exec
  have hb := B.bytes
  have hr := B.returns
  have hts := atoms_spec (ws := wsX1_strengthBehind) B.pre
  have hown : s.vm.findClass RX1 = some m.cls := findClass_of_methodNamed B.named
  have hlocks := B.notSynchronized
  have lf15 := hts (.fieldLink RX1 15 "PalaceOfRooms$Corners" "strength" "[I") (List.mem_cons_of_mem _ (List.mem_append_left _ (List.mem_of_getElem? (i := 0) rfl)))
  have inX1 : ∀ w ∈ wsX10, w ∈ wsX1_strengthBehind := fun w h => List.mem_cons_of_mem _ (List.mem_append_right _ h)
  have lf27 := hts (.fieldLink RX1 27 "PalaceOfRooms$Corners" "crowd" "[I") (List.mem_cons_of_mem _ (List.mem_append_left _ (List.mem_of_getElem? (i := 1) rfl)))
  have hl := lv_entry ([.ref (a 4), .int co, .int n, .int wd]) (n := 6) (Nat.le_of_ble_eq_true rfl)
  rw [lg_entry_eq]
  generalize (lg_sl ([.ref (a 4), .int co, .int n, .int wd]) ++ List.replicate (6 - (lg_sl ([.ref (a 4), .int co, .int n, .int wd])).length) Slot.unset).toArray = ls at hl ⊢
  have hl : lv_has ls 6 [(0, .ref (a 4)), (1, .int co), (2, .int n), (3, .int wd)] := hl
  refine lv_aload_n hx hb dX1_strengthBehind_0 rfl (lv_at hl 0 rfl) ?_
  refine va_get (D := (dC, dI)) (ci := 1) (v := .ref (a 6)) (C := RX1) (T := TX1) (N := 13) hx hb hts inX1 hown hK hP 0 rfl rfl 2 (by decide) lf15 (fun _ h9 => h9) rfl dX1_strengthBehind_1 ?_
  refine lv_iload_n hx hb dX1_strengthBehind_4 rfl (lv_at hl 1 rfl) ?_
  have b1 : vp_in co 48 := inC rfl (by omega) (by omega)
  refine va_iald hx hb hK hP 2 0 rfl rfl b1 dX1_strengthBehind_5 ?_
  have g2 : 0 ≤ (str co.toNatClampNeg).toInt ∧ (str co.toNatClampNeg).toInt ≤ 100 := rg_at r_str b1
  refine lv_topi (fun x3 ex3 => ?_)
  have ix3 : x3.toInt = (str co.toNatClampNeg).toInt := by rw [ex3]
  refine lv_istore (lv' := [(4, .int x3), (0, .ref (a 4)), (1, .int co), (2, .int n), (3, .int wd)]) hx hb dX1_strengthBehind_6 hl (by decide) rfl (fun ls hl => ?_)
  refine lv_iconst (v := 0) hx hb dX1_strengthBehind_8 (by decide) ?_
  refine lv_istore (lv' := [(5, .int 0), (4, .int x3), (0, .ref (a 4)), (1, .int co), (2, .int n), (3, .int wd)]) hx hb dX1_strengthBehind_9 hl (by decide) rfl (fun ls hl => ?_)
  have L11 : ∀ (nn : Nat) (y11_4 : Int32) (y11_5 : Int32) (ls : Array Slot), (0 ≤ (y11_5.toInt)) → ((y11_5.toInt) ≤ 60) → (0 ≤ (y11_4.toInt)) → ((y11_4.toInt) ≤ 100) → ((y11_4.toInt) = itf fal (cro co.toNatClampNeg).toInt (str co.toNatClampNeg).toInt ((y11_5.toInt)).toNat) → ((y11_5.toInt) ≤ n.toInt) → (60 - (y11_5.toInt)).toNat < nn → lv_has ls 6 [(0, .ref (a 4)), (1, .int co), (2, .int n), (3, .int wd), (4, .int y11_4), (5, .int y11_5)] → W p l e (headSpec wsX1_strengthBehind { frames := 2, cells := 0, slots := 0, locals := 46 }).room s m ([.ref (a 4), .int co, .int n, .int wd] : List Value).toArray below meth c s.heap [] 0 0 (MQ below (QR (fun r : Int32 => (0 ≤ r.toInt) ∧ (r.toInt ≤ 100) ∧ (r.toInt = itf fal (cro co.toNatClampNeg).toInt (str co.toNatClampNeg).toInt n.toInt.toNat))) ([.ref (a 4), .int co, .int n, .int wd] : List Value).toArray s 0 0 (fun _ => False)) (F0 m 11 ls []) := by
    intro nn
    induction nn with
    | zero =>
      intro y11_4 y11_5 ls i11_0 i11_1 i11_2 i11_3 i11_4 i11_5 hm11
      exact absurd hm11 (Nat.not_lt_zero _)
    | succ nn ih11 =>
      intro y11_4 y11_5 ls i11_0 i11_1 i11_2 i11_3 i11_4 i11_5 hm11 hl
      refine lv_iload hx hb dX1_strengthBehind_11 (lv_at hl 5 rfl) ?_
      refine lv_iload_n hx hb dX1_strengthBehind_13 rfl (lv_at hl 2 rfl) ?_
      refine lv_icmp_ge (tgt := 58) hx hb dX1_strengthBehind_14 (by decide) (fun c4 => ?_) (fun c4 => ?_)
      · have dc4 : n.toInt ≤ y11_5.toInt := leC rfl rfl c4
        refine lv_iload hx hb dX1_strengthBehind_58 (lv_at hl 4 rfl) ?_
        exact W.iret (v := y11_4) hx hb hr (fun tq ht hW => ⟨y11_4, rfl, ⟨(show 0 ≤ y11_4.toInt from by omega), (show y11_4.toInt ≤ 100 from by omega), (show y11_4.toInt = itf fal (cro co.toNatClampNeg).toInt (str co.toNatClampNeg).toInt n.toInt.toNat from by (rw [i11_4]; congr 1; omega))⟩, ht⟩) (fun q h => by cases h) dX1_strengthBehind_60
      · have dc4 : y11_5.toInt < n.toInt := nleC rfl rfl c4
        refine lv_iload_n hx hb dX1_strengthBehind_17 rfl (lv_at hl 3 rfl) ?_
        refine lv_iload hx hb dX1_strengthBehind_18 (lv_at hl 5 rfl) ?_
        refine lv_ishr hx hb dX1_strengthBehind_20 ?_
        refine lv_iconst (v := 1) hx hb dX1_strengthBehind_21 (by decide) ?_
        have sz0 := sh_zero (s := y11_5 &&& 31) q4
        refine lv_iand hx hb dX1_strengthBehind_22 ?_
        have f5 := andR (a := (wd >>> (y11_5 &&& 31))) (m := 1) (M := 1) rfl (by decide)
        refine lv_iconst (v := 1) hx hb dX1_strengthBehind_23 (by decide) ?_
        refine lv_icmp_ne (tgt := 38) hx hb dX1_strengthBehind_24 (by decide) (fun c6 => ?_) (fun c6 => ?_)
        · have dc6 : ((wd >>> (y11_5 &&& 31)) &&& 1).toInt ≤ 0 := ka_hi (by omega) (neC rfl (show (1 : Int32).toInt = 1 from rfl) c6)
          refine lv_aload_n hx hb dX1_strengthBehind_38 rfl (lv_at hl 0 rfl) ?_
          refine lv_iload hx hb dX1_strengthBehind_39 (lv_at hl 4 rfl) ?_
          refine lv_aload_n hx hb dX1_strengthBehind_41 rfl (lv_at hl 0 rfl) ?_
          refine va_get (D := (dC, dI)) (ci := 1) (v := .ref (a 10)) (C := RX1) (T := TX1) (N := 13) hx hb hts inX1 hown hK hP 0 rfl rfl 6 (by decide) lf27 (fun _ h9 => h9) rfl dX1_strengthBehind_42 ?_
          refine lv_iload_n hx hb dX1_strengthBehind_45 rfl (lv_at hl 1 rfl) ?_
          have b7 : vp_in co 48 := inC rfl (by omega) (by omega)
          refine va_iald hx hb hK hP 6 0 rfl rfl b7 dX1_strengthBehind_46 ?_
          have g8 : 0 ≤ (cro co.toNatClampNeg).toInt ∧ (cro co.toNatClampNeg).toInt ≤ 6 := rg_at r_cro b7
          refine rdV (As := [.int y11_4, .int (cro co.toNatClampNeg)]) (rest := []) ⟨hx, hb, hml, hown, hts⟩ (k_X1_fallen2 l dC dI cI cZ cQ a top str gho ghs pto cro pla wal fal tel gai day mar y11_4 (cro co.toNatClampNeg) r_top r_str r_gho r_ghs r_cro r_pla r_fal r_gai r_day r_mar (by omega) (by omega) (by omega) (by omega)) (cwV 2 hts gX1_strengthBehind_X1_fallen rfl rfl rfl (by decide +kernel) ⟨Nat.le_of_ble_eq_true rfl, Nat.le_of_ble_eq_true rfl⟩) hP hK hN [0, 1, 2, 3, 4, 5, 6, 7, 8, 9, 10, 11] rfl 0 1 rfl rfl rfl hl.1 rfl (Nat.le_of_ble_eq_true rfl) dX1_strengthBehind_47 ⟨Nat.le_of_ble_eq_true rfl, Nat.le_of_ble_eq_true rfl⟩ (fun r9 h10 => ?_)
          have h10 : (0 ≤ r9.toInt) ∧ (r9.toInt ≤ y11_4.toInt) ∧ (r9.toInt ≤ 100) ∧ (r9.toInt = fl fal y11_4.toInt (cro co.toNatClampNeg).toInt) := h10
          obtain ⟨h10_0, h10_1, h10_2, h10_3⟩ := h10
          refine lv_istore (lv' := [(4, .int r9), (0, .ref (a 4)), (1, .int co), (2, .int n), (3, .int wd), (5, .int y11_5)]) hx hb dX1_strengthBehind_50 hl (by decide) rfl (fun ls hl => ?_)
          obtain ⟨z11, ez11⟩ : ∃ y : Int32, y = y11_5 + 1 := ⟨_, rfl⟩
          have iz11 : z11.toInt = y11_5.toInt + 1 := by rw [ez11]; exact addC rfl rfl (by omega) (by omega)
          refine lv_iinc (v := z11) (lv' := [(5, .int z11), (4, .int r9), (0, .ref (a 4)), (1, .int co), (2, .int n), (3, .int wd)]) hx hb dX1_strengthBehind_52 hl (k := 5) rfl (by rw [ez11]; rfl) (by decide) rfl (fun ls hl => ?_)
          refine lv_goto (tgt := 11) hx hb dX1_strengthBehind_55 (by decide) ?_
          exact ih11 r9 z11 _ (by omega) (by omega) (by omega) (by omega) (by (first | exact itf_next i11_4 (by assumption) (by omega) | (show _ = (str co.toNatClampNeg).toInt; omega) | (exfalso; omega))) (by omega) (by omega) (lv_sub hl [2, 3, 4, 5, 1, 0] rfl)
        · have dc6 : ((wd >>> (y11_5 &&& 31)) &&& 1).toInt = 1 := eqC rfl (show (1 : Int32).toInt = 1 from rfl) c6
          refine lv_iload hx hb dX1_strengthBehind_27 (lv_at hl 4 rfl) ?_
          refine lv_aload_n hx hb dX1_strengthBehind_29 rfl (lv_at hl 0 rfl) ?_
          refine lv_iload hx hb dX1_strengthBehind_30 (lv_at hl 4 rfl) ?_
          refine rdV (As := [.int y11_4]) (rest := [.int y11_4]) ⟨hx, hb, hml, hown, hts⟩ (k_X1_gainOf l dC dI cI cZ cQ a top str gho ghs pto cro pla wal fal tel gai day mar y11_4 r_top r_str r_gho r_ghs r_cro r_pla r_fal r_gai r_day r_mar (by omega) (by omega)) (cwV 1 hts gX1_strengthBehind_X1_gainOf rfl rfl rfl (by decide +kernel) ⟨Nat.le_of_ble_eq_true rfl, Nat.le_of_ble_eq_true rfl⟩) hP hK hN [0, 1, 2, 3, 4, 5, 6, 7, 8, 9, 10, 11] rfl 0 1 rfl rfl rfl hl.1 rfl (Nat.le_of_ble_eq_true rfl) dX1_strengthBehind_32 ⟨Nat.le_of_ble_eq_true rfl, Nat.le_of_ble_eq_true rfl⟩ (fun r12 h13 => ?_)
          have h13 : (0 ≤ r12.toInt) ∧ (r12.toInt ≤ 100 - y11_4.toInt) ∧ (r12.toInt ≤ 100) := h13
          obtain ⟨h13_0, h13_1, h13_2⟩ := h13
          refine lv_iadd hx hb dX1_strengthBehind_35 ?_
          have f14 : (y11_4 + r12).toInt = (y11_4.toInt) + (r12.toInt) := addC rfl rfl (by omega) (by omega)
          refine lv_topi (fun x15 ex15 => ?_)
          have ix15 : x15.toInt = (y11_4.toInt) + (r12.toInt) := by rw [ex15]; exact f14
          refine lv_istore (lv' := [(4, .int x15), (0, .ref (a 4)), (1, .int co), (2, .int n), (3, .int wd), (5, .int y11_5)]) hx hb dX1_strengthBehind_36 hl (by decide) rfl (fun ls hl => ?_)
          refine lv_aload_n hx hb dX1_strengthBehind_38 rfl (lv_at hl 1 rfl) ?_
          refine lv_iload hx hb dX1_strengthBehind_39 (lv_at hl 0 rfl) ?_
          refine lv_aload_n hx hb dX1_strengthBehind_41 rfl (lv_at hl 1 rfl) ?_
          refine va_get (D := (dC, dI)) (ci := 1) (v := .ref (a 10)) (C := RX1) (T := TX1) (N := 13) hx hb hts inX1 hown hK hP 0 rfl rfl 6 (by decide) lf27 (fun _ h9 => h9) rfl dX1_strengthBehind_42 ?_
          refine lv_iload_n hx hb dX1_strengthBehind_45 rfl (lv_at hl 2 rfl) ?_
          have b16 : vp_in co 48 := inC rfl (by omega) (by omega)
          refine va_iald hx hb hK hP 6 0 rfl rfl b16 dX1_strengthBehind_46 ?_
          have g17 : 0 ≤ (cro co.toNatClampNeg).toInt ∧ (cro co.toNatClampNeg).toInt ≤ 6 := rg_at r_cro b16
          refine rdV (As := [.int x15, .int (cro co.toNatClampNeg)]) (rest := []) ⟨hx, hb, hml, hown, hts⟩ (k_X1_fallen2 l dC dI cI cZ cQ a top str gho ghs pto cro pla wal fal tel gai day mar x15 (cro co.toNatClampNeg) r_top r_str r_gho r_ghs r_cro r_pla r_fal r_gai r_day r_mar (by omega) (by omega) (by omega) (by omega)) (cwV 2 hts gX1_strengthBehind_X1_fallen rfl rfl rfl (by decide +kernel) ⟨Nat.le_of_ble_eq_true rfl, Nat.le_of_ble_eq_true rfl⟩) hP hK hN [0, 1, 2, 3, 4, 5, 6, 7, 8, 9, 10, 11] rfl 0 1 rfl rfl rfl hl.1 rfl (Nat.le_of_ble_eq_true rfl) dX1_strengthBehind_47 ⟨Nat.le_of_ble_eq_true rfl, Nat.le_of_ble_eq_true rfl⟩ (fun r18 h19 => ?_)
          have h19 : (0 ≤ r18.toInt) ∧ (r18.toInt ≤ x15.toInt) ∧ (r18.toInt ≤ 100) ∧ (r18.toInt = fl fal x15.toInt (cro co.toNatClampNeg).toInt) := h19
          obtain ⟨h19_0, h19_1, h19_2, h19_3⟩ := h19
          refine lv_istore (lv' := [(4, .int r18), (0, .ref (a 4)), (1, .int co), (2, .int n), (3, .int wd), (5, .int y11_5)]) hx hb dX1_strengthBehind_50 hl (by decide) rfl (fun ls hl => ?_)
          obtain ⟨z20, ez20⟩ : ∃ y : Int32, y = y11_5 + 1 := ⟨_, rfl⟩
          have iz20 : z20.toInt = y11_5.toInt + 1 := by rw [ez20]; exact addC rfl rfl (by omega) (by omega)
          refine lv_iinc (v := z20) (lv' := [(5, .int z20), (4, .int r18), (0, .ref (a 4)), (1, .int co), (2, .int n), (3, .int wd)]) hx hb dX1_strengthBehind_52 hl (k := 5) rfl (by rw [ez20]; rfl) (by decide) rfl (fun ls hl => ?_)
          refine lv_goto (tgt := 11) hx hb dX1_strengthBehind_55 (by decide) ?_
          exact ih11 r18 z20 _ (by omega) (by omega) (by omega) (by omega) (by (first | exact itf_next i11_4 (by assumption) (by omega) | (show _ = (str co.toNatClampNeg).toInt; omega) | (exfalso; omega))) (by omega) (by omega) (lv_sub hl [2, 3, 4, 5, 1, 0] rfl)
  have kc21 : (0 : Int32).toInt = 0 := rfl
  exact L11 _ x3 0 _ (by omega) (by omega) (by omega) (by omega) (by (first | (show _ = (str co.toNatClampNeg).toInt; omega) | (exfalso; omega) | exact itf_next i11_4 (by assumption) (by omega))) (by omega) (Nat.lt_succ_self _) (lv_sub hl [2, 3, 4, 5, 1, 0] rfl)
