-- ===== STRENGTH day by day (draft, untested) =====
def fl (f : Nat → Int32) (v m : Int) : Int := max 0 (v - (f (v / 10).toNat).toInt - m)
def itf (f : Nat → Int32) (m v : Int) : Nat → Int
  | 0 => v
  | n + 1 => fl f (itf f m v n) m
theorem fl_rg {f : Nat → Int32} {v m : Int} (hf : rg 11 0 30 f) (h0 : 0 ≤ v) (h1 : v ≤ 100) (hm : 0 ≤ m) : 0 ≤ fl f v m ∧ fl f v m ≤ v := by
  have := hf (v / 10).toNat (by omega)
  unfold fl; omega
theorem itf_rg {f : Nat → Int32} {v m : Int} (hf : rg 11 0 30 f) (h0 : 0 ≤ v) (h1 : v ≤ 100) (hm : 0 ≤ m) : ∀ n, 0 ≤ itf f m v n ∧ itf f m v n ≤ 100
  | 0 => ⟨h0, h1⟩
  | n + 1 => by
    have h := itf_rg hf h0 h1 hm n
    have h2 := fl_rg (m := m) hf h.1 h.2 hm
    show 0 ≤ fl f (itf f m v n) m ∧ fl f (itf f m v n) m ≤ 100
    omega
theorem fl_zero {f : Nat → Int32} (hf : rg 11 0 30 f) : fl f 0 0 = 0 := by
  have := hf 0 (by omega)
  show max 0 (0 - (f ((0 : Int) / 10).toNat).toInt - 0) = 0
  rw [show ((0 : Int) / 10).toNat = 0 from rfl]; omega
theorem itf_zero {f : Nat → Int32} (hf : rg 11 0 30 f) : ∀ n, itf f 0 0 n = 0
  | 0 => rfl
  | n + 1 => by show fl f (itf f 0 0 n) 0 = 0; rw [itf_zero hf n, fl_zero hf]
theorem fl_eq {f g : Nat → Int32} {v m : Int} (h : ∀ j, j < 11 → f j = g j) (h0 : 0 ≤ v) (h1 : v ≤ 100) : fl f v m = fl g v m := by
  unfold fl; rw [h (v / 10).toNat (by omega)]
theorem itf_eq {f g : Nat → Int32} {v m : Int} (h : ∀ j, j < 11 → f j = g j) (hf : rg 11 0 30 f) (h0 : 0 ≤ v) (h1 : v ≤ 100) (hm : 0 ≤ m) : ∀ n, itf f m v n = itf g m v n
  | 0 => rfl
  | n + 1 => by
    show fl f (itf f m v n) m = fl g (itf g m v n) m
    have hr := itf_rg hf h0 h1 hm n
    rw [← itf_eq h hf h0 h1 hm n]; exact fl_eq h hr.1 hr.2
/-- how many others in the ROOM make it fall faster -/
def crdB (mar top : Nat → Int32) (tel : Int32) (o c : Nat) : Bool := decide (o ≠ c) && decide (top o ≠ -1) && decide (top c ≠ -1) && decide (tel.toInt ≤ (bc (mar (top o).toNatClampNeg &&& mar (top c).toNatClampNeg)).toInt)
def cwF (mar top : Nat → Int32) (tel : Int32) (c lo : Nat) : Nat → Int
  | 0 => 0
  | k + 1 => cwF mar top tel c lo k + (if crdB mar top tel (lo + k) c then 1 else 0)
theorem crd_yes {mar top : Nat → Int32} {tel o c : Int32} (h0 : o.toInt ≠ c.toInt) (h1 : 0 ≤ o.toInt) (h2 : 0 ≤ c.toInt) (t1 : ¬ top o.toNatClampNeg = -1) (t2 : ¬ top c.toNatClampNeg = -1) (h3 : tel.toInt ≤ (bc (mar (top o.toNatClampNeg).toNatClampNeg &&& mar (top c.toNatClampNeg).toNatClampNeg)).toInt) : crdB mar top tel o.toNatClampNeg c.toNatClampNeg = true := by
  have e : o.toNatClampNeg ≠ c.toNatClampNeg := by rw [clC (x := o) rfl, clC (x := c) rfl]; omega
  unfold crdB
  rw [decide_eq_true e, decide_eq_true t1, decide_eq_true t2, decide_eq_true h3]; rfl
theorem crd_eq {mar top : Nat → Int32} {tel o c : Int32} (h : o = c) : crdB mar top tel o.toNatClampNeg c.toNatClampNeg = false := by
  subst h; unfold crdB; rw [decide_eq_false (fun q => q rfl)]; rfl
theorem crd_t1 {mar top : Nat → Int32} {tel o c : Int32} (h : top o.toNatClampNeg = -1) : crdB mar top tel o.toNatClampNeg c.toNatClampNeg = false := by
  unfold crdB; rw [decide_eq_false (p := top o.toNatClampNeg ≠ -1) (fun q => q h), Bool.and_false]; rfl
theorem crd_t2 {mar top : Nat → Int32} {tel o c : Int32} (h : top c.toNatClampNeg = -1) : crdB mar top tel o.toNatClampNeg c.toNatClampNeg = false := by
  unfold crdB; rw [decide_eq_false (p := top c.toNatClampNeg ≠ -1) (fun q => q h), Bool.and_false]; rfl
theorem crd_no {mar top : Nat → Int32} {tel o c : Int32} (h : (bc (mar (top o.toNatClampNeg).toNatClampNeg &&& mar (top c.toNatClampNeg).toNatClampNeg)).toInt < tel.toInt) : crdB mar top tel o.toNatClampNeg c.toNatClampNeg = false := by
  unfold crdB; rw [decide_eq_false (p := tel.toInt ≤ _) (by omega), Bool.and_false]
theorem cw_keep {mar top f g : Nat → Int32} {tel y v : Int32} (e : g = upd f y.toNatClampNeg v) (h0 : 0 ≤ y.toInt) (h : ∀ j : Nat, (j : Int) < y.toInt → (f j).toInt = cwF mar top tel j (j - j % 6) 6) : ∀ j : Nat, (j : Int) < y.toInt → (g j).toInt = cwF mar top tel j (j - j % 6) 6 := by
  subst e; intro j hj
  rw [clC (x := y) rfl, pk_un (by omega)]; exact h j hj
theorem cw_zero {mar top f g : Nat → Int32} {tel y v : Int32} {lo N : Nat} (e : g = upd f y.toNatClampNeg v) (hv : v.toInt = 0) (hN : N = 0) : (g y.toNatClampNeg).toInt = cwF mar top tel y.toNatClampNeg lo N := by
  subst e; subst hN; rw [pk_us, hv]; rfl
theorem cw_yes {mar top f g : Nat → Int32} {tel y v o w : Int32} {N N' : Nat} (e : g = upd f y.toNatClampNeg v) (hv : v.toInt = (f y.toNatClampNeg).toInt + 1) (h : (f y.toNatClampNeg).toInt = cwF mar top tel y.toNatClampNeg w.toNatClampNeg N) (hc : crdB mar top tel o.toNatClampNeg y.toNatClampNeg = true) (h0 : 0 ≤ w.toInt) (h1 : w.toInt ≤ o.toInt) (hN : N = (o.toInt - w.toInt).toNat) (hN' : N' = N + 1) : (g y.toNatClampNeg).toInt = cwF mar top tel y.toNatClampNeg w.toNatClampNeg N' := by
  subst e; subst hN'
  have eo : o.toNatClampNeg = w.toNatClampNeg + N := by rw [clC (x := o) rfl, clC (x := w) rfl]; omega
  rw [eo] at hc
  rw [pk_us, hv, h]
  show _ = cwF mar top tel y.toNatClampNeg w.toNatClampNeg N + (if crdB mar top tel (w.toNatClampNeg + N) y.toNatClampNeg then 1 else 0)
  rw [hc]; rfl
theorem cw_no {mar top f : Nat → Int32} {tel y o w : Int32} {N N' : Nat} (h : (f y.toNatClampNeg).toInt = cwF mar top tel y.toNatClampNeg w.toNatClampNeg N) (hc : crdB mar top tel o.toNatClampNeg y.toNatClampNeg = false) (h0 : 0 ≤ w.toInt) (h1 : w.toInt ≤ o.toInt) (hN : N = (o.toInt - w.toInt).toNat) (hN' : N' = N + 1) : (f y.toNatClampNeg).toInt = cwF mar top tel y.toNatClampNeg w.toNatClampNeg N' := by
  subst hN'
  have eo : o.toNatClampNeg = w.toNatClampNeg + N := by rw [clC (x := o) rfl, clC (x := w) rfl]; omega
  rw [eo] at hc
  rw [h]
  show _ = cwF mar top tel y.toNatClampNeg w.toNatClampNeg N + (if crdB mar top tel (w.toNatClampNeg + N) y.toNatClampNeg then 1 else 0)
  rw [hc]; simp
theorem cw_next {mar top f : Nat → Int32} {tel y w : Int32} {N : Nat} {Z : Int} (h : ∀ j : Nat, (j : Int) < y.toInt → (f j).toInt = cwF mar top tel j (j - j % 6) 6) (h2 : (f y.toNatClampNeg).toInt = cwF mar top tel y.toNatClampNeg w.toNatClampNeg N) (hN : N = 6) (h0 : 0 ≤ y.toInt) (hw : w.toInt = y.toInt - y.toInt % 6) (hz : Z = y.toInt + 1) : ∀ j : Nat, (j : Int) < Z → (f j).toInt = cwF mar top tel j (j - j % 6) 6 := by
  intro j hj
  by_cases q : j = y.toInt.toNat
  · subst q
    subst hN
    rw [clC (x := y) rfl, clC (x := w) rfl] at h2
    rw [h2, show w.toInt.toNat = y.toInt.toNat - y.toInt.toNat % 6 by omega]
  · exact h j (by omega)
theorem sh_zero {w s : Int32} (h : w.toInt = 0) : ((w >>> s) &&& 1).toInt = 0 := by
  have e : w = 0 := Int32.toInt_inj.mp h
  subst e
  have : ((0 : Int32) >>> s) = 0 := by
    apply Int32.toBitVec_inj.mp
    show (0 : BitVec 32).sshiftRight _ = 0
    simp
  rw [this]; rfl
theorem itf_next {f : Nat → Int32} {m v L R : Int} {n n' : Nat} (h : L = itf f m v n) (hr : R = fl f L m) (hn : n' = n + 1) : R = itf f m v n' := by
  subst hn; subst h; exact hr
set_option maxHeartbeats 4000000 in
set_option maxRecDepth 100000 in
theorem k_X2_shared2 (l : Launch) (dC : Nat → ClassId) (dI : Nat → Nat → Nat) (cI cZ cQ : ClassId) (a : Nat → Nat) (mar : Nat → Int32) (one : Int32) (two : Int32) (r_mar : rg 24 (0) (255) mar) (q0 : 0 ≤ one.toInt) (q1 : one.toInt ≤ 23) (q2 : 0 ≤ two.toInt) (q3 : two.toInt ≤ 23) : KR l yX2_shared wsX2_shared { frames := 1, cells := 0, slots := 0, locals := 20 } (dC, dI) (TY cI cZ cQ) (wPic cI cZ cQ a mar) [.ref (a 2), .int one, .int two] (fun r : Int32 => (r = bc (mar one.toNatClampNeg &&& mar two.toNatClampNeg)) ∧ ((bc (mar one.toNatClampNeg &&& mar two.toNatClampNeg)).toInt = r.toInt)) := by
  refine Met.ofW (cc := cX2_shared) (maxL := 3) (ret := (some .int)) (by decide) rfl ?_
  intro p e s m args below meth c s₁ B hml hv
  obtain ⟨rfl, hP, hK, hN⟩ := hv
  have hx := B.exec
  have hb := B.bytes
  have hr := B.returns
  have hts := atoms_spec (ws := wsX2_shared) B.pre
  have hown : s.vm.findClass RX2 = some m.cls := findClass_of_methodNamed B.named
  have hlocks := B.notSynchronized
  have lf9 := hts (.fieldLink RX2 9 "PalaceOfRooms$Pictures" "marksOf" "[I") (by decide +kernel)
  have inX2 : ∀ w ∈ wsX20, w ∈ wsX2_shared := by decide +kernel
  have hl := lv_entry ([.ref (a 2), .int one, .int two]) (n := 3) (Nat.le_of_ble_eq_true rfl)
  rw [lg_entry_eq]
  generalize (lg_sl ([.ref (a 2), .int one, .int two]) ++ List.replicate (3 - (lg_sl ([.ref (a 2), .int one, .int two])).length) Slot.unset).toArray = ls at hl ⊢
  have hl : lv_has ls 3 [(0, .ref (a 2)), (1, .int one), (2, .int two)] := hl
  refine lv_aload_n hx hb dX2_shared_0 rfl (lv_at hl 0 rfl) ?_
  refine va_get (D := (dC, dI)) (ci := 2) (v := .ref (a 3)) (C := RX2) (T := TX2) (N := 1) hx hb hts inX2 hown hK hP 0 rfl rfl 0 (by decide) lf9 (fun _ h9 => h9) rfl dX2_shared_1 ?_
  refine lv_iload_n hx hb dX2_shared_4 rfl (lv_at hl 1 rfl) ?_
  have b1 : vp_in one 24 := inC rfl (by omega) (by omega)
  refine va_iald hx hb hK hP 1 0 rfl rfl b1 dX2_shared_5 ?_
  have g2 : 0 ≤ (mar one.toNatClampNeg).toInt ∧ (mar one.toNatClampNeg).toInt ≤ 255 := rg_at r_mar b1
  refine lv_aload_n hx hb dX2_shared_6 rfl (lv_at hl 0 rfl) ?_
  refine va_get (D := (dC, dI)) (ci := 2) (v := .ref (a 3)) (C := RX2) (T := TX2) (N := 1) hx hb hts inX2 hown hK hP 0 rfl rfl 0 (by decide) lf9 (fun _ h9 => h9) rfl dX2_shared_7 ?_
  refine lv_iload_n hx hb dX2_shared_10 rfl (lv_at hl 2 rfl) ?_
  have b3 : vp_in two 24 := inC rfl (by omega) (by omega)
  refine va_iald hx hb hK hP 1 0 rfl rfl b3 dX2_shared_11 ?_
  have g4 : 0 ≤ (mar two.toNatClampNeg).toInt ∧ (mar two.toNatClampNeg).toInt ≤ 255 := rg_at r_mar b3
  refine lv_iand hx hb dX2_shared_12 ?_
  refine rdS (As := [.int ((mar one.toNatClampNeg) &&& (mar two.toNatClampNeg))]) (rest := []) ⟨hx, hb, hml, hown, hts⟩ (k_J6_bitCount_0f7a4 l dC dI cI cZ cQ ((mar one.toNatClampNeg) &&& (mar two.toNatClampNeg))) (va_cwS 1 hts gX2_shared_J6_bitCount_0f7a4 rfl rfl rfl (by decide +kernel) ⟨Nat.le_of_ble_eq_true rfl, Nat.le_of_ble_eq_true rfl⟩) hP hK hN [] rfl rfl hl.1 rfl (Nat.le_of_ble_eq_true rfl) dX2_shared_13 ⟨Nat.le_of_ble_eq_true rfl, Nat.le_of_ble_eq_true rfl⟩ (fun r5 h6 => ?_)
  have h6 : (r5 = bc ((mar one.toNatClampNeg) &&& (mar two.toNatClampNeg))) := h6
  have h6_0 := h6
  exact W.iret (v := r5) hx hb hr (fun tq ht hW => ⟨r5, rfl, ⟨(show r5 = bc (mar one.toNatClampNeg &&& mar two.toNatClampNeg) from by assumption), (show (bc (mar one.toNatClampNeg &&& mar two.toNatClampNeg)).toInt = r5.toInt from by (rw [show (r5) = bc (mar one.toNatClampNeg &&& mar two.toNatClampNeg) from by assumption]))⟩, ht⟩) (fun q h => by cases h) dX2_shared_16
set_option maxHeartbeats 4000000 in
set_option maxRecDepth 100000 in
theorem k_X1_muchAlike2 (l : Launch) (dC : Nat → ClassId) (dI : Nat → Nat → Nat) (cI cZ cQ : ClassId) (a : Nat → Nat) (top : Nat → Int32) (str : Nat → Int32) (gho : Nat → Int32) (ghs : Nat → Int32) (pto : Nat → Int32) (cro : Nat → Int32) (pla : Nat → Int32) (wal : Nat → Int32) (fal : Nat → Int32) (tel : Int32) (gai : Int32) (day : Int32) (mar : Nat → Int32) (one : Int32) (two : Int32) (r_top : rg 48 (-1) (23) top) (r_str : rg 48 (0) (100) str) (r_gho : rg 48 (-1) (23) gho) (r_ghs : rg 48 (0) (100) ghs) (r_cro : rg 48 (0) (6) cro) (r_pla : rg 24 (-1) (47) pla) (r_fal : rg 11 (0) (30) fal) (r_gai : 0 ≤ gai.toInt ∧ gai.toInt ≤ 100) (r_day : 0 ≤ day.toInt ∧ day.toInt ≤ 400) (r_mar : rg 24 (0) (255) mar) (q0 : 0 ≤ one.toInt) (q1 : one.toInt ≤ 23) (q2 : 0 ≤ two.toInt) (q3 : two.toInt ≤ 23) : KR l yX1_muchAlike wsX1_muchAlike { frames := 2, cells := 0, slots := 0, locals := 42 } (dC, dI) (TY cI cZ cQ) (wCor cI cZ cQ a top str gho ghs pto cro pla wal fal tel gai day mar) [.ref (a 4), .int one, .int two] (fun r : Int32 => ((((r = 1) ∧ (tel.toInt ≤ (bc (mar one.toNatClampNeg &&& mar two.toNatClampNeg)).toInt)) ∨ ((r = 0) ∧ ((bc (mar one.toNatClampNeg &&& mar two.toNatClampNeg)).toInt < tel.toInt))))) := by
  refine Met.ofW (cc := cX1_muchAlike) (maxL := 3) (ret := (some .boolean)) (by decide) rfl ?_
  intro p e s m args below meth c s₁ B hml hv
  obtain ⟨rfl, hP, hK, hN⟩ := hv
  have hx := B.exec
  have hb := B.bytes
  have hr := B.returns
  have hts := atoms_spec (ws := wsX1_muchAlike) B.pre
  have hown : s.vm.findClass RX1 = some m.cls := findClass_of_methodNamed B.named
  have hlocks := B.notSynchronized
  have lf46 := hts (.fieldLink RX1 46 "PalaceOfRooms$Corners" "pictures" "LPalaceOfRooms$Pictures;") (by decide +kernel)
  have inX1 : ∀ w ∈ wsX10, w ∈ wsX1_muchAlike := by decide +kernel
  have lf39 := hts (.fieldLink RX1 39 "PalaceOfRooms$Corners" "tell" "I") (by decide +kernel)
  have hl := lv_entry ([.ref (a 4), .int one, .int two]) (n := 3) (Nat.le_of_ble_eq_true rfl)
  rw [lg_entry_eq]
  generalize (lg_sl ([.ref (a 4), .int one, .int two]) ++ List.replicate (3 - (lg_sl ([.ref (a 4), .int one, .int two])).length) Slot.unset).toArray = ls at hl ⊢
  have hl : lv_has ls 3 [(0, .ref (a 4)), (1, .int one), (2, .int two)] := hl
  refine lv_aload_n hx hb dX1_muchAlike_0 rfl (lv_at hl 0 rfl) ?_
  refine va_get (D := (dC, dI)) (ci := 1) (v := .ref (a 2)) (C := RX1) (T := TX1) (N := 13) hx hb hts inX1 hown hK hP 0 rfl rfl 0 (by decide) lf46 (fun _ h9 => h9) rfl dX1_muchAlike_1 ?_
  refine lv_iload_n hx hb dX1_muchAlike_4 rfl (lv_at hl 1 rfl) ?_
  refine lv_iload_n hx hb dX1_muchAlike_5 rfl (lv_at hl 2 rfl) ?_
  refine rdV (As := [.int one, .int two]) (rest := []) ⟨hx, hb, hml, hown, hts⟩ (k_X2_shared2 l dC dI cI cZ cQ a mar one two r_mar (by omega) (by omega) (by omega) (by omega)) (cwV 2 hts gX1_muchAlike_X2_shared rfl rfl rfl (by decide +kernel) ⟨Nat.le_of_ble_eq_true rfl, Nat.le_of_ble_eq_true rfl⟩) hP hK hN [10, 11] rfl 10 2 rfl rfl rfl hl.1 rfl (Nat.le_of_ble_eq_true rfl) dX1_muchAlike_6 ⟨Nat.le_of_ble_eq_true rfl, Nat.le_of_ble_eq_true rfl⟩ (fun r1 h2 => ?_)
  have h2 : (r1 = bc (mar one.toNatClampNeg &&& mar two.toNatClampNeg)) ∧ ((bc (mar one.toNatClampNeg &&& mar two.toNatClampNeg)).toInt = r1.toInt) := h2
  obtain ⟨h2_0, h2_1⟩ := h2
  refine lv_aload_n hx hb dX1_muchAlike_9 rfl (lv_at hl 0 rfl) ?_
  refine va_get (D := (dC, dI)) (ci := 1) (v := .int tel) (C := RX1) (T := TX1) (N := 13) hx hb hts inX1 hown hK hP 0 rfl rfl 10 (by decide) lf39 (fun _ h9 => h9) rfl dX1_muchAlike_10 ?_
  refine lv_icmp_lt (tgt := 20) hx hb dX1_muchAlike_13 (by decide) (fun c3 => ?_) (fun c3 => ?_)
  · have dc3 : r1.toInt < tel.toInt := ltC rfl rfl c3
    refine lv_iconst (v := 0) hx hb dX1_muchAlike_20 (by decide) ?_
    exact W.zret (v := 0) hx hb hr (by decide) (fun tq ht hW => ⟨0, rfl, (Or.inr (⟨rfl, (show (bc (mar one.toNatClampNeg &&& mar two.toNatClampNeg)).toInt < tel.toInt from by (try rw [show (0 : Int32).toInt = 0 from (show (0 : Int32).toInt = 0 from rfl)]); omega)⟩)), ht⟩) (fun q h => by cases h) dX1_muchAlike_21
  · have dc3 : tel.toInt ≤ r1.toInt := nltC rfl rfl c3
    refine lv_iconst (v := 1) hx hb dX1_muchAlike_16 (by decide) ?_
    refine lv_goto (tgt := 21) hx hb dX1_muchAlike_17 (by decide) ?_
    exact W.zret (v := 1) hx hb hr (by decide) (fun tq ht hW => ⟨1, rfl, (Or.inl (⟨rfl, (show tel.toInt ≤ (bc (mar one.toNatClampNeg &&& mar two.toNatClampNeg)).toInt from by (try rw [show (1 : Int32).toInt = 1 from (show (1 : Int32).toInt = 1 from rfl)]); omega)⟩)), ht⟩) (fun q h => by cases h) dX1_muchAlike_21
